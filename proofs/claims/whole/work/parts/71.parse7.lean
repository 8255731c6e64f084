/-! ===== D: the law's text: tests, all of them ===== -/
section dtst7
variable {a1 a70 : Nat → Int32} {L : Nat}
theorem rt_cmp (Q1 Q2 Q3 Q4 : Int32 → (Nat → Int32) → (Nat → Int32) → (Nat → Int32) → Int32 → Int32 → Int32 → Int32 → Int32 → Int32 → Option ((Nat → Int32) × (Nat → Int32) × Int32 × Int32 × Int32 × Int32 × Int32)) (y : Int32) (ops args : Nat → Int32) (cm lu fp : Int32) {p : Nat} (hL : L ≤ 260) (hp : p < 1000000) (h33 : ¬ sg a1 L p = 33) (h40 : ¬ sg a1 L p = 40) :
    qG_lr_readTest Q1 Q2 Q3 Q4 y a1 ops args cm lu (nI L) 0 fp (nI p) = zbd (Q3 y a1 ops args cm lu (nI L) 0 fp (nI p)) (fun v41 => zg (g_tx_sign ((v41.2.2.2.2.1)) ((v41.2.2.2.2.2.2)) (nI L) a1) (
      zl (w_tx_sign ((v41.2.2.2.2.1)) ((v41.2.2.2.2.2.2)) (nI L) a1) (fun v42 =>
      bif decide (v42 = 60) || (decide (v42 = 62) || decide (v42 = 61)) then
       zl (f0_tx_skip ((v41.2.2.2.2.2.2))) (fun v43 =>
       zbd (Q3 y a1 ((v41.1)) ((v41.2.1)) ((v41.2.2.1)) ((v41.2.2.2.1)) (nI L) ((v41.2.2.2.2.1)) ((v41.2.2.2.2.2.1)) v43) (fun v44 =>
       zg (g_lw_emit v42 0 ((v44.2.2.1)) ((v44.1)) ((v44.2.1)) ((v44.2.2.2.1))) (
       some (a0_lw_emit v42 0 ((v44.2.2.1)) ((v44.1)) ((v44.2.1)) ((v44.2.2.2.1)), a1_lw_emit v42 0 ((v44.2.2.1)) ((v44.1)) ((v44.2.1)) ((v44.2.2.2.1)), f0_lw_emit v42 0 ((v44.2.2.1)) ((v44.1)) ((v44.2.1)) ((v44.2.2.2.1)), f1_lw_emit v42 0 ((v44.2.2.1)) ((v44.1)) ((v44.2.1)) ((v44.2.2.2.1)), (v44.2.2.2.2.1), (v44.2.2.2.2.2.1), (v44.2.2.2.2.2.2)))))
      else
       some (((v41.1)), ((v41.2.1)), (v41.2.2.1), (v41.2.2.2.1), f0_tx_fail 1 ((v41.2.2.2.2.2.2)) ((v41.2.2.2.2.1)) ((v41.2.2.2.2.2.1)), f1_tx_fail 1 ((v41.2.2.2.2.2.2)) ((v41.2.2.2.2.1)) ((v41.2.2.2.2.2.1)), (v41.2.2.2.2.2.2))))) := by
  have e := d_sign (a := a1) hL hp
  unfold qG_lr_readTest
  rw [e.1, e.2]
  dsimp +instances only [zl, zg]
  rw [dF h33, dF h40, cTt, cFf, nFf, cTt, cTt, cTt]
  refine congrArg (zbd _) (funext fun v => ?_)
  cases decide (w_tx_sign v.2.2.2.2.1 v.2.2.2.2.2.2 (nI L) a1 = 60) with
  | true => rfl
  | false =>
    cases decide (w_tx_sign v.2.2.2.2.1 v.2.2.2.2.2.2 (nI L) a1 = 62) with
    | true => rfl
    | false =>
      cases decide (w_tx_sign v.2.2.2.2.1 v.2.2.2.2.2.2 (nI L) a1 = 61) with
      | true => rfl
      | false => rfl
theorem JT_of (h : RT a1 a70) (hL : L ≤ 240) {n y : Nat} (hy : y ≤ 6) (hA : JA a1 a70 L (n + 2) y) (hT : y < 6 → JT a1 a70 L (n + 2) (y + 1)) (hC : y < 6 → JC a1 a70 L (n + 2) (y + 1)) : JT a1 a70 L (n + 3) y := by
  intro ops args said waits lu p cm wt F9 n0 fp hp hcm hwt hw1 hNS
  have eq : (G_lr (n + 3)).2.1 (nI y) a1 ops args (nI cm) lu (nI L) 0 fp (nI p) = qG_lr_readTest (G_lr (n + 2)).1 (G_lr (n + 2)).2.1 (G_lr (n + 2)).2.2.1 (G_lr (n + 2)).2.2.2 (nI y) a1 ops args (nI cm) lu (nI L) 0 fp (nI p) := rfl
  rw [eq]
  have hL' : L ≤ 260 := by omega
  have e1 := d_sign (a := a1) hL' (show p < 1000000 by omega)
  by_cases s33 : sg a1 L p = 33
  · have hin : p < L := sg_in (by rw [s33]; decide)
    by_cases hy6 : y < 6
    · have st : ∀ r', (G_lr (n + 2)).2.1 (nI (y + 1)) a1 ops args (nI cm) lu (nI L) 0 fp (nI (p + 1)) = some r' → g_lw_emit 3 0 r'.2.2.1 r'.1 r'.2.1 r'.2.2.2.1 = true → qG_lr_readTest (G_lr (n + 2)).1 (G_lr (n + 2)).2.1 (G_lr (n + 2)).2.2.1 (G_lr (n + 2)).2.2.2 (nI y) a1 ops args (nI cm) lu (nI L) 0 fp (nI p) = some (a0_lw_emit 3 0 r'.2.2.1 r'.1 r'.2.1 r'.2.2.2.1, a1_lw_emit 3 0 r'.2.2.1 r'.1 r'.2.1 r'.2.2.2.1, f0_lw_emit 3 0 r'.2.2.1 r'.1 r'.2.1 r'.2.2.2.1, f1_lw_emit 3 0 r'.2.2.1 r'.1 r'.2.1 r'.2.2.2.1, r'.2.2.2.2.1, r'.2.2.2.2.2.1, r'.2.2.2.2.2.2) := by
        intro r' hr' hg
        unfold qG_lr_readTest
        rw [e1.1, e1.2, s33, d_skip, show (6 : Int32) = nI 6 from rfl, nI_dlt (by omega) (by omega), dT hy6, nI_1]
        dsimp +instances only [zl]
        rw [zbd_q hr']
        rw [hg]
        rfl
      rw [tK_open h hL hin hy6 hwt (Or.inl ⟨s33, rfl⟩)]
      have hNS' : NS (zup waits wt (nI (1048576 * 10 + 0))) (wt + 1) := Or.inr ⟨wt, 10, 0, rfl, by omega, by omega, by omega, by omega, zup_same⟩
      rcases hT hy6 ops args said (zup waits wt (nI (1048576 * 10 + 0))) lu (p + 1) cm (wt + 1) F9 n0 fp (by omega) (by omega) (by omega) (by omega) hNS' with ⟨ops', args', said', waits', lu', p', cm', n1, g1, g2, g3, g4, g5, g6, g7, g8, g9, g10, g11, g12⟩ | ⟨k, pl, b1, b2, b3, ⟨ops', args', cm', lu', ps, b4, b5⟩, b6⟩
      · left
        have hcm' : cm' < 240 := by omega
        obtain ⟨k1, k2, k3, k4, k5, k6⟩ := d_emit hcm' 3 0 ops' args' lu'
        rw [show decide ((3 : Int32) = 2) = false from rfl, nFf, cTt] at k6
        rw [st _ g5 k1, g6]
        dsimp +instances only
        rw [k3, k4, k5, k6]
        have wtop : waits' wt = nI (1048576 * 10 + 0) := (g10 wt (by omega) (by omega)).trans zup_same
        refine ⟨zup ops' cm' 3, zup args' cm' 0, zup said' cm' (nI (1048576 * 10 + 0)), waits', lu', p', cm' + 1, n1, by omega, g2, by omega, by omega, rfl, ?_, AR_tr (AR_up (by omega)) g7, AR_tr (AR_up (by omega)) g8, AR_tr (AR_up (by omega)) g9, fun z z1 z2 => (g10 z z1 (by omega)).trans (zup_ne (by omega)), g11, PV_not (PV_mono (PV_ext g12 (AR_up (Nat.le_refl _)) (AR_up (Nat.le_refl _)) (AR_up (Nat.le_refl _))) (SB_refl _) (by omega)) (by omega) zup_same zup_same hcm' (by omega)⟩
        unfold tE
        rw [ep_not (by omega) (by omega) wtop]
      · right
        obtain ⟨w, o2, a2, c2, l2, k1, k2, k3, k4, k5, k6, k7⟩ := d_emitAny b4 3 0 ops' args' lu'
        refine ⟨k, pl, b1, b2, b3, ⟨o2, a2, c2, l2, ps, k1, ?_⟩, b6⟩
        rw [st _ b5 k2]
        dsimp +instances only
        rw [k4, k5, k6, k7]
    · have : y = 6 := by omega
      subst this
      right
      refine ⟨5, p, by omega, by omega, by omega, ⟨ops, args, cm, lu, nI p, by omega, ?_⟩, ⟨_, tK_seven h hL hin (Or.inl s33), rfl, rfl⟩⟩
      unfold qG_lr_readTest
      rw [e1.1, e1.2, s33]
      rfl
  · by_cases s40 : sg a1 L p = 40
    · have hin : p < L := sg_in (by rw [s40]; decide)
      by_cases hy6 : y < 6
      · have st : ∀ r', (G_lr (n + 2)).1 (nI (y + 1)) a1 ops args (nI cm) lu (nI L) 0 fp (nI (p + 1)) = some r' → g_tx_expect 41 r'.2.2.2.2.1 r'.2.2.2.2.2.2 (nI L) a1 r'.2.2.2.2.2.1 = true → qG_lr_readTest (G_lr (n + 2)).1 (G_lr (n + 2)).2.1 (G_lr (n + 2)).2.2.1 (G_lr (n + 2)).2.2.2 (nI y) a1 ops args (nI cm) lu (nI L) 0 fp (nI p) = some (r'.1, r'.2.1, r'.2.2.1, r'.2.2.2.1, f0_tx_expect 41 r'.2.2.2.2.1 r'.2.2.2.2.2.2 (nI L) a1 r'.2.2.2.2.2.1, f1_tx_expect 41 r'.2.2.2.2.1 r'.2.2.2.2.2.2 (nI L) a1 r'.2.2.2.2.2.1, f2_tx_expect 41 r'.2.2.2.2.1 r'.2.2.2.2.2.2 (nI L) a1 r'.2.2.2.2.2.1) := by
          intro r' hr' hg
          unfold qG_lr_readTest
          rw [e1.1, e1.2, s40, d_skip, show (6 : Int32) = nI 6 from rfl, nI_dlt (by omega) (by omega), dT hy6, nI_1]
          dsimp +instances only [zl]
          rw [zbd_q hr']
          rw [hg]
          rfl
        rw [tK_open h hL hin hy6 hwt (Or.inr ⟨s40, rfl⟩)]
        rcases hC hy6 ops args said (zup waits wt (nI (1048576 * 13 + 0))) lu (p + 1) cm wt F9 n0 fp (by omega) (by omega) (by omega) zup_same with ⟨ops', args', saidP, said', waits', lu', p', cm', wtP, n1, g1, g2, g3, g4, g5, g6, g7, g8, g9, g10, g11, g12, g13, g14, g15⟩ | ⟨k, pl, b1, b2, b3, ⟨ops', args', cm', lu', ps, b4, b5⟩, b6⟩
        · rw [g6]
          have e5 := d_here h hL' (show p' < 1000000 by omega)
          rcases d_exp h (p := p') (c := 41) hL' (by omega) (by omega) fp F9 with ⟨s1, s2, c1, c2, c3, c4, -⟩ | ⟨s1, c1, c2, c3, c4, -⟩
          · left
            rw [st _ g5 c1]
            dsimp +instances only
            rw [show f0_tx_expect 41 0 (nI p') (nI L) a1 fp = 0 from c2, show f1_tx_expect 41 0 (nI p') (nI L) a1 fp = fp from c3, show f2_tx_expect 41 0 (nI p') (nI L) a1 fp = nI (p' + 1) from c4]
            refine ⟨ops', args', said', waits', lu', p' + 1, cm', n1, by omega, by omega, g3, by omega, rfl, ?_, g8, g9, g10, fun z z1 z2 => (g11 z z1 (by omega)).trans (zup_ne (by omega)), g12, PV_mono g13 (SB_refl _) (by omega)⟩
            unfold tE tL
            have hs : l_md_readsCondition_92 a70 (nI L) waits' F9 n1 saidP (nI p') (nI (y + 1)) (nI cm') (nI wtP) = zbd (q_md_endsPiece said' waits' (nI y) (nI cm') (nI wt)) (fun v => l_md_readsCondition_92 a70 (nI L) waits' F9 n1 v.1 (nI (p' + 1)) v.2.1 v.2.2.1 v.2.2.2) := by
              refine (zlp_bind _).trans ?_
              have fs : f_md_readsCondition_92 a70 (nI L) waits' F9 n1 (saidP, nI p', nI (y + 1), nI cm', nI wtP) = zbd (q_md_endsPiece said' waits' (nI y) (nI cm') (nI wt)) (fun v95 => some (.inl (((v95.1)), nI (p' + 1), (v95.2.1), (v95.2.2.1), (v95.2.2.2)))) := by
                dsimp +instances only [f_md_readsCondition_92, b_md_readsCondition_92]
                rw [e5.1, e5.2, show sg a1 L p' = 41 from s1]
                dsimp +instances only [zl, zg]
                rw [cTt, show decide ((41 : Int32) = 41) = true from rfl, nTt, cFf, zbd_q g7]
                dsimp +instances only
                rw [show nI (wt + 1) - 1 = nI wt from by rw [show (1 : Int32) = nI 1 from rfl, pk_sub (by omega), Nat.add_sub_cancel], show nI (y + 1) - 1 = nI y from by rw [show (1 : Int32) = nI 1 from rfl, pk_sub (by omega), Nat.add_sub_cancel], dF (show ¬ nI wt = 0 from nI_ne0 (by omega) (by omega)), nI_1]
                rfl
              rw [fs]
              cases q_md_endsPiece said' waits' (nI y) (nI cm') (nI wt) with
              | none => rfl
              | some v => rfl
            rw [hs]
            cases q_md_endsPiece said' waits' (nI y) (nI cm') (nI wt) with
            | none => rfl
            | some v => rfl
          · right
            refine ⟨1, p', by omega, by omega, by omega, ⟨ops', args', cm', lu', nI p', by omega, ?_⟩, ⟨(0, saidP, waits', nI p', f0_md_wrongAt 1 (nI p'), n1, nI (y + 1), nI cm', nI wtP), ?_, rfl, rfl⟩⟩
            · rw [st _ g5 c1]
              dsimp +instances only
              rw [show f0_tx_expect 41 0 (nI p') (nI L) a1 fp = 1 from c2, show f1_tx_expect 41 0 (nI p') (nI L) a1 fp = nI p' from c3, show f2_tx_expect 41 0 (nI p') (nI L) a1 fp = nI p' from c4]
              rfl
            · unfold tL
              have hs : l_md_readsCondition_92 a70 (nI L) waits' F9 n1 saidP (nI p') (nI (y + 1)) (nI cm') (nI wtP) = some (.inr (0, saidP, waits', nI p', f0_md_wrongAt 1 (nI p'), n1, nI (y + 1), nI cm', nI wtP)) := by
                refine zlp_out ?_
                dsimp +instances only [f_md_readsCondition_92, b_md_readsCondition_92]
                rw [e5.1, e5.2]
                dsimp +instances only [zl, zg]
                rw [dF (show ¬ sg a1 L p' = 41 from s1), dF g14, dF g15]
                rfl
              rw [zbd_q hs]
              rfl
        · right
          have hk0 : nI k ≠ 0 := nI_ne0 (by omega) (by omega)
          have hx := d_expF hk0 (c := 41) (by omega) a1 (nI L) (nI pl) ps
          refine ⟨k, pl, b1, b2, b3, ⟨ops', args', cm', lu', ps, b4, ?_⟩, b6⟩
          rw [st _ b5 hx.1]
          dsimp +instances only
          rw [show f0_tx_expect 41 (nI k) ps (nI L) a1 (nI pl) = nI k from hx.2.1, show f1_tx_expect 41 (nI k) ps (nI L) a1 (nI pl) = nI pl from hx.2.2.1, show f2_tx_expect 41 (nI k) ps (nI L) a1 (nI pl) = ps from hx.2.2.2]
      · have : y = 6 := by omega
        subst this
        right
        refine ⟨5, p, by omega, by omega, by omega, ⟨ops, args, cm, lu, nI p, by omega, ?_⟩, ⟨_, tK_seven h hL hin (Or.inr s40), rfl, rfl⟩⟩
        unfold qG_lr_readTest
        rw [e1.1, e1.2, s40]
        rfl
    · exact d_compared h hL hy hA ops args said waits lu p cm wt F9 n0 fp hp hcm hwt hNS _ (rt_cmp _ _ _ _ _ _ _ _ _ _ hL' (by omega) s33 s40) s33 s40
theorem J_tests (h : RT a1 a70) (hL : L ≤ 240) : ∀ (k n y : Nat), y + k = 6 → 2 * k + 3 ≤ n → JT a1 a70 L n y ∧ JC a1 a70 L (n + 1) y := by
  intro k
  induction k with
  | zero =>
    intro n y hy hn
    obtain ⟨n, rfl⟩ : ∃ m, n = m + 3 := ⟨n - 3, by omega⟩
    have hA := (J_all h hL 0 (n + 1) y hy (by omega)).2
    have hT := JT_of h hL (show y ≤ 6 by omega) hA (fun z => by omega) (fun z => by omega)
    exact ⟨hT, JC_of h hL (by omega) hT⟩
  | succ k ih =>
    intro n y hy hn
    obtain ⟨n, rfl⟩ : ∃ m, n = m + 3 := ⟨n - 3, by omega⟩
    have hA := (J_all h hL (k + 1) (n + 1) y hy (by omega)).2
    have i1 := (ih (n + 2) (y + 1) (by omega) (by omega)).1
    have i2 := (ih (n + 1) (y + 1) (by omega) (by omega)).2
    have hT := JT_of h hL (show y ≤ 6 by omega) hA (fun _ => i1) (fun _ => i2)
    exact ⟨hT, JC_of h hL (by omega) hT⟩
end dtst7
