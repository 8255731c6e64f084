/-! ===== D: the law's text: factors ===== -/
section dfac
variable {a1 a70 : Nat → Int32} {L : Nat}
theorem d_digits5 (h : RT a1 a70) (hL : L ≤ 260) {p : Nat} (hp : p ≤ L) (hd : dgB (sg a1 L p) = true) (fp F9 : Int32) :
    ∃ r r', q_tx_number 5 a1 (nI L) 0 fp (nI p) = some r ∧ q_md_readsNumber a70 (nI p) (nI L) F9 = some r' ∧
      ((∃ n d, 1 ≤ d ∧ d ≤ 5 ∧ n ≤ 99999 ∧ p + d ≤ L ∧ r = (nI n, 0, fp, nI (p + d)) ∧ r' = (1, nI (p + d), F9, nI n)) ∨
       (∃ n, r = (n, 2, nI (p + 5), nI (p + 5)) ∧ r' = (0, nI (p + 5), f0_md_wrongAt 2 (nI (p + 5)), n))) := by
  refine zlp_rel (f := f_tx_number_4 5 a1 (nI L) 0 fp) (g := f_md_readsNumber_10 a70 (nI L) F9 (nI p))
    (fun m s t => ∃ k n, k + m = 5 ∧ s = (nI n, nI k, nI (p + k)) ∧ t = (nI (p + k), nI n) ∧ p + k ≤ L ∧ n ≤ 99999 ∧ (k ≤ 4 → n ≤ 9999) ∧ (k ≤ 3 → n ≤ 999) ∧ (k ≤ 2 → n ≤ 99) ∧ (k ≤ 1 → n ≤ 9) ∧ (k ≤ 0 → n ≤ 0 ∧ dgB (sg a1 L (p + k)) = true))
    _ ?_ 5 (0, 0, nI p) (nI p, 0) ⟨0, 0, rfl, rfl, rfl, hp, by omega, fun _ => by omega, fun _ => by omega, fun _ => by omega, fun _ => by omega, fun _ => ⟨by omega, hd⟩⟩
  rintro m s t ⟨k, n, hk, rfl, rfl, hpk, b5, b4, b3, b2, b1, b0⟩
  have e1 := d_sign (a := a1) hL (show p + k < 1000000 by omega)
  have e2 := d_here h hL (show p + k < 1000000 by omega)
  have e3 := d_digM h hL (show p + k < 1000000 by omega)
  dsimp +instances only [f_tx_number_4, b_tx_number_4, f_md_readsNumber_10, b_md_readsNumber_10]
  rw [show (5 : Int32) = nI 5 from rfl, nI_dlt (by omega) (by omega), dF (show ¬ 5 < k by omega), cFf, nI_add, e1.1, e1.2, e2.1, e2.2, e3.1, e3.2, nI_deq (by omega) (by omega), nI_deq (by omega) (by omega), nI_1, nI_1]
  dsimp +instances only [zl, zg]
  rcases dgB_cases (sg a1 L (p + k)) with ⟨d1, d2, d3, c, hc1, hc2, ec⟩ | ⟨d1, d2⟩
  · have hin := dg_in d1
    have en : (10 : Int32) * nI n + nI c - 48 = nI (10 * n + c - 48) := by
      rw [show (10 : Int32) = nI 10 from rfl, pk_mul, nI_add, show (48 : Int32) = nI 48 from rfl, pk_sub (by omega)]
    rw [d1, d2, d3, ec, en]
    simp only [cTt, cFf, b01_0, nTt]
    by_cases hk4 : k = 5
    · right
      subst hk4
      rw [dT (rfl : p + 5 = p + 5)]
      exact ⟨_, _, rfl, rfl, Or.inr ⟨_, rfl, rfl⟩⟩
    · left
      rw [dF hk4, dF (show ¬ p + k = p + 5 by omega)]
      exact ⟨m - 1, _, _, by omega, rfl, rfl, k + 1, 10 * n + c - 48, by omega, rfl, rfl, by omega, by omega, fun _ => by omega, fun _ => by omega, fun _ => by omega, fun _ => by omega, fun _ => by omega⟩
  · right
    have hk0 : k ≠ 0 := fun e => by
      have := (b0 (by omega)).2
      rw [d1] at this
      cases this
    have ek : decide (nI k = 0) = false := dF (nI_ne0 (by omega) (by omega))
    rw [d1, ek]
    rcases d2 with d2 | ⟨d2, d3⟩
    · rw [d2]
      exact ⟨_, _, rfl, rfl, Or.inl ⟨n, k, by omega, by omega, b5, hpk, rfl, rfl⟩⟩
    · rw [d2, d3]
      exact ⟨_, _, rfl, rfl, Or.inl ⟨n, k, by omega, by omega, b5, hpk, rfl, rfl⟩⟩
theorem d_letter : ∀ c, c < 256 → zix ((Int32.toUInt32 (nI c) % 65536).toInt32) = w_md_factOf (nI c) ∧ (w_md_factOf (nI c) = -1 ∨ ∃ x, x < 9 ∧ w_md_factOf (nI c) = nI x) := by decide +kernel
theorem JF_of (h : RT a1 a70) (hL : L ≤ 240) {n y : Nat} (hy : y ≤ 6) (hA : y < 6 → JA a1 a70 L n (y + 1)) : JF a1 a70 L (n + 1) y := by
  intro ops args said waits lu p cm wt base F9 n0 fp hp hcm hwt hbw
  have eq : (G_lr (n + 1)).2.2.2 (nI y) a1 ops args (nI cm) lu (nI L) 0 fp (nI p) = qG_lr_readFactor (G_lr n).1 (G_lr n).2.1 (G_lr n).2.2.1 (G_lr n).2.2.2 (nI y) a1 ops args (nI cm) lu (nI L) 0 fp (nI p) := rfl
  rw [eq]
  have hL' : L ≤ 260 := by omega
  have e1 := d_sign (a := a1) hL' (show p < 1000000 by omega)
  have e2 := d_here h hL' (show p < 1000000 by omega)
  have e3 := d_digC (a1 := a1) hL' (show p < 1000000 by omega)
  have e4 := d_digM h hL' (show p < 1000000 by omega)
  unfold qG_lr_readFactor
  rw [e1.1, e1.2, e3.1, e3.2, d_skip]
  dsimp +instances only [zl, zg]
  rw [cTt, cTt]
  by_cases hb : sg a1 L p = 91
  · -- a sum in brackets
    have hin : p < L := sg_in (by rw [hb]; decide)
    rw [dT hb, nTt, cFf, show (6 : Int32) = nI 6 from rfl, nI_dlt (by omega) (by omega)]
    by_cases hy6 : y < 6
    · rw [dT hy6, cTt, nI_1]
      -- the model opens it
      have ho : mK a70 L base said waits p F9 n0 y cm wt = mK a70 L base said (zup waits wt (nI (1048576 * 14 + 0))) (p + 1) F9 n0 (y + 1) cm (wt + 1) := by
        unfold mK
        refine congrArg (fun z => zbd z _) ?_
        refine zlp_in ?_
        dsimp +instances only [f_md_readsFactor_0, b_md_readsFactor_0]
        rw [e2.1, e2.2]
        dsimp +instances only [zl, zg]
        unfold g_md_opens w_md_opens a0_md_opens f0_md_opens f1_md_opens f2_md_opens f3_md_opens
        rw [hb, show (6 : Int32) = nI 6 from rfl, nI_deq (by omega) (by omega), dF (show ¬ y = 6 by omega), nI_zin (by omega), dT (show wt < 260 by omega), nI_cl (by omega), nI_1, nI_1, nI_1]
        rfl
      rw [ho]
      have hNS : NS (zup waits wt (nI (1048576 * 14 + 0))) (wt + 1) := Or.inr ⟨wt, 14, 0, rfl, by omega, by omega, by omega, by omega, zup_same⟩
      rcases hA hy6 ops args said (zup waits wt (nI (1048576 * 14 + 0))) lu (p + 1) cm (wt + 1) base F9 n0 fp (by omega) (by omega) (by omega) (by omega) hNS with ⟨ops', args', said', saidE, waits', lu', p', cmM, cm', wt', n1, g1, g2, g3, g4, g5, g6, g7, g8, g9, g10, g11, g12, g13, g14, g15, g16, g17⟩ | ⟨k, pl, b1, b2, b3, ⟨ops', args', cm', lu', ps, b4, b5⟩, b6⟩
      · rw [zbd_q g5, g6]
        dsimp +instances only
        have w14 : waits' wt / 1048576 = 14 := by
          rw [g14 wt (by omega) (by omega), zup_same, dec_op (by omega) (by omega)]
          rfl
        obtain ⟨r, r1, r2⟩ := d_hasOpen (base := base) (wt := wt') waits' (by omega) (by omega)
        have hr : r = true := r2.mpr ⟨wt, hbw, by omega, w14⟩
        subst hr
        have e5 := d_here h hL' (show p' < 1000000 by omega)
        rcases d_exp h (p := p') (c := 93) hL' (by omega) (by omega) fp F9 with ⟨s1, s2, c1, c2, c3, c4, -⟩ | ⟨s1, c1, c2, c3, c4, -⟩
        · left
          rw [show g_tx_expect 93 0 (nI p') (nI L) a1 fp = true from c1, show f0_tx_expect 93 0 (nI p') (nI L) a1 fp = 0 from c2, show f1_tx_expect 93 0 (nI p') (nI L) a1 fp = fp from c3, show f2_tx_expect 93 0 (nI p') (nI L) a1 fp = nI (p' + 1) from c4]
          refine ⟨ops', args', saidE, waits', lu', p' + 1, cm', n1, by omega, by omega, g3, by omega, rfl, ?_, g11, g12, g13, fun z z1 z2 => (g14 z z1 (by omega)).trans (zup_ne (by omega)), g15, PV_mono g16 (SB_refl _) (by omega)⟩
          unfold mS
          refine zlp_in ?_
          dsimp +instances only [f_md_readsSum_14, b_md_readsSum_14]
          rw [e5.1, e5.2]
          dsimp +instances only [zl, zg]
          rw [g17, show sg a1 L p' = 93 from s1, cTt, show decide ((-1 : Int32) = -1) = true from rfl, cTt, cTt, show decide ((93 : Int32) = 93) = true from rfl, nTt, cFf, zbd_q r1, b01_0, nTt, cFf, zbd_q g7]
          dsimp +instances only
          rw [nI_1, show nI (y + 1) - 1 = nI y from by rw [show (1 : Int32) = nI 1 from rfl, pk_sub (by omega), Nat.add_sub_cancel], show nI (wt + 1) - 1 = nI wt from by rw [show (1 : Int32) = nI 1 from rfl, pk_sub (by omega), Nat.add_sub_cancel]]
        · right
          rw [show g_tx_expect 93 0 (nI p') (nI L) a1 fp = true from c1, show f0_tx_expect 93 0 (nI p') (nI L) a1 fp = 1 from c2, show f1_tx_expect 93 0 (nI p') (nI L) a1 fp = nI p' from c3, show f2_tx_expect 93 0 (nI p') (nI L) a1 fp = nI p' from c4]
          refine ⟨1, p', by omega, by omega, by omega, ⟨ops', args', cm', lu', _, by omega, rfl⟩, ⟨(0, said', waits', nI p', f0_md_wrongAt 1 (nI p'), n1, nI (y + 1), nI cmM, nI wt'), ?_, rfl, rfl⟩⟩
          unfold mS
          refine zlp_out ?_
          dsimp +instances only [f_md_readsSum_14, b_md_readsSum_14]
          rw [e5.1, e5.2]
          dsimp +instances only [zl, zg]
          rw [g17, dF (show ¬ sg a1 L p' = 93 from s1), zbd_q r1]
          rfl
      · right
        have hk0 : nI k ≠ 0 := nI_ne0 (by omega) (by omega)
        have hx := d_expF hk0 (c := 93) (by omega) a1 (nI L) (nI pl) ps
        refine ⟨k, pl, b1, b2, b3, ⟨ops', args', cm', lu', ps, b4, ?_⟩, b6⟩
        rw [zbd_q b5]
        dsimp +instances only
        rw [show g_tx_expect 93 (nI k) ps (nI L) a1 (nI pl) = true from hx.1, show f0_tx_expect 93 (nI k) ps (nI L) a1 (nI pl) = nI k from hx.2.1, show f1_tx_expect 93 (nI k) ps (nI L) a1 (nI pl) = nI pl from hx.2.2.1, show f2_tx_expect 93 (nI k) ps (nI L) a1 (nI pl) = ps from hx.2.2.2]
        rfl
    · right
      have : y = 6 := by omega
      subst this
      rw [dF hy6]
      refine ⟨5, p, by omega, by omega, by omega, ⟨ops, args, cm, lu, _, by omega, rfl⟩, ⟨(0, said, waits, nI p, f0_md_wrongAt 5 (nI p), n0, nI 6, nI cm, nI wt), ?_, rfl, rfl⟩⟩
      unfold mK
      have hq : q_md_readsFactor a70 said waits (nI p) (nI L) F9 n0 (nI 6) (nI cm) (nI wt) = some (0, said, waits, nI p, f0_md_wrongAt 5 (nI p), n0, nI 6, nI cm, nI wt) := by
        refine zlp_out ?_
        dsimp +instances only [f_md_readsFactor_0, b_md_readsFactor_0]
        rw [e2.1, e2.2]
        dsimp +instances only [zl, zg]
        rw [hb]
        rfl
      rw [zbd_q hq]
      rfl
  · rw [dF hb, nFf, cTt]
    rcases dgB_cases (sg a1 L p) with ⟨d1, -, -, c, hc1, hc2, ec⟩ | ⟨d1, d2⟩
    · -- a number
      have hin := dg_in d1
      rw [d1, b01_0, nTt, cFf]
      obtain ⟨r, r', q1, q2, q3⟩ := d_digits5 h hL' hp d1 fp F9
      have hm : ∀ t, q_md_readsFactor a70 said waits (nI p) (nI L) F9 n0 (nI y) (nI cm) (nI wt) = some t → mK a70 L base said waits p F9 n0 y cm wt = (bif !decide (t.1 = 0) then l_md_readsSum_14 a70 (nI L) (nI base) t.2.1 t.2.2.1 t.2.2.2.1 t.2.2.2.2.1 t.2.2.2.2.2.1 t.2.2.2.2.2.2.1 t.2.2.2.2.2.2.2.1 t.2.2.2.2.2.2.2.2 else some (0, t.2.1, t.2.2.1, t.2.2.2.1, t.2.2.2.2.1, t.2.2.2.2.2.1, t.2.2.2.2.2.2.1, t.2.2.2.2.2.2.2.1, t.2.2.2.2.2.2.2.2)) := fun t ht => by
        unfold mK
        rw [zbd_q ht]
      rw [zbd_q q1]
      rcases q3 with ⟨v, d, h1, h2, h3, h4, rfl, rfl⟩ | ⟨v, rfl, rfl⟩
      · left
        have hcm' : cm < 240 := by omega
        obtain ⟨k1, k2, k3, k4, k5, k6⟩ := d_emit hcm' 1 (nI v) ops args lu
        obtain ⟨n1, n2, n3⟩ := d_note (show cm < 260 by omega) 0 v said
        dsimp +instances only
        rw [k1, k3, k4, k5, k6]
        have hq : q_md_readsFactor a70 said waits (nI p) (nI L) F9 n0 (nI y) (nI cm) (nI wt) = some (1, zup said cm (nI (1048576 * 0 + v)), waits, nI (p + d), F9, nI v, nI y, nI (cm + 1), nI wt) := by
          refine zlp_out ?_
          dsimp +instances only [f_md_readsFactor_0, b_md_readsFactor_0]
          rw [e2.1, e2.2, e4.1, e4.2, d1]
          dsimp +instances only [zl, zg]
          rw [dF hb, zbd_q q2]
          dsimp +instances only
          rw [show g_md_notes 0 (nI v) (nI cm) said = true from n1, show a0_md_notes 0 (nI v) (nI cm) said = _ from n2, show f0_md_notes 0 (nI v) (nI cm) said = _ from n3]
          rfl
        exact ⟨zup ops cm 1, zup args cm (nI v), zup said cm (nI (1048576 * 0 + v)), waits, lu, p + d, cm + 1, nI v, by omega, h4, by omega, by omega, rfl, hm _ hq, AR_up (Nat.le_refl _), AR_up (Nat.le_refl _), AR_up (Nat.le_refl _), AR_refl _ _ _, SB_refl _, PV_mono (PV_push hcm' zup_same (show v < 1048576 by omega) zup_same zup_same) (SB_refl _) (by omega)⟩
      · right
        obtain ⟨w, o2, a2, c2, l2, k1, k2, k3, k4, k5, k6, k7⟩ := d_emitAny (show cm ≤ 240 by omega) 1 v ops args lu
        dsimp +instances only
        rw [k2, k4, k5, k6, k7]
        have hq : q_md_readsFactor a70 said waits (nI p) (nI L) F9 n0 (nI y) (nI cm) (nI wt) = some (0, said, waits, nI (p + 5), f0_md_wrongAt 2 (nI (p + 5)), v, nI y, nI cm, nI wt) := by
          refine zlp_out ?_
          dsimp +instances only [f_md_readsFactor_0, b_md_readsFactor_0]
          rw [e2.1, e2.2, e4.1, e4.2, d1]
          dsimp +instances only [zl, zg]
          rw [dF hb, zbd_q q2]
          rfl
        exact ⟨2, p + 5, by omega, by omega, by omega, ⟨o2, a2, c2, l2, _, k1, rfl⟩, ⟨_, hm _ hq, rfl, rfl⟩⟩
    · -- a letter
      rw [d1, b01_0, nFf, cTt]
      have hbad : w_md_factOf (sg a1 L p) = -1 → mK a70 L base said waits p F9 n0 y cm wt = some (0, said, waits, nI p, f0_md_wrongAt 1 (nI p), n0, nI y, nI cm, nI wt) := fun hf => by
        unfold mK
        have hq : q_md_readsFactor a70 said waits (nI p) (nI L) F9 n0 (nI y) (nI cm) (nI wt) = some (0, said, waits, nI p, f0_md_wrongAt 1 (nI p), n0, nI y, nI cm, nI wt) := by
          refine zlp_out ?_
          dsimp +instances only [f_md_readsFactor_0, b_md_readsFactor_0]
          rw [e2.1, e2.2, e4.1, e4.2, d1]
          dsimp +instances only [zl, zg]
          rw [dF hb, hf]
          rfl
        rw [zbd_q hq]
        rfl
      rcases sg_byte h hL' p with ⟨hin, c, hc, ec⟩ | ⟨-, ec⟩
      · obtain ⟨l1, l2⟩ := d_letter c hc
        rw [ec] at hbad ⊢
        rw [nI_nn (by omega), cTt, l1]
        rcases l2 with l2 | ⟨x, hx, l2⟩
        · right
          rw [l2]
          exact ⟨1, p, by omega, by omega, by omega, ⟨ops, args, cm, lu, _, by omega, rfl⟩, ⟨_, hbad l2, rfl, rfl⟩⟩
        · left
          have hcm' : cm < 240 := by omega
          obtain ⟨k1, k2, k3, k4, k5, k6⟩ := d_emit hcm' 2 (nI x) ops args lu
          obtain ⟨n1, n2, n3⟩ := d_note (show cm < 260 by omega) 1 x said
          rw [l2, nI_nn (by omega), cTt, k1, k3, k4, k5, k6]
          have hq : q_md_readsFactor a70 said waits (nI p) (nI L) F9 n0 (nI y) (nI cm) (nI wt) = some (1, zup said cm (nI (1048576 * 1 + x)), waits, nI (p + 1), F9, n0, nI y, nI (cm + 1), nI wt) := by
            refine zlp_out ?_
            dsimp +instances only [f_md_readsFactor_0, b_md_readsFactor_0]
            rw [e2.1, e2.2, e4.1, e4.2, d1]
            dsimp +instances only [zl, zg]
            rw [dF hb, ec, l2, nI_nm1 (by omega), show g_md_notes 1 (nI x) (nI cm) said = true from n1, show a0_md_notes 1 (nI x) (nI cm) said = _ from n2, show f0_md_notes 1 (nI x) (nI cm) said = _ from n3, nI_1]
            rfl
          refine ⟨zup ops cm 2, zup args cm (nI x), zup said cm (nI (1048576 * 1 + x)), waits, lu ||| (1 <<< (nI x &&& 31)), p + 1, cm + 1, n0, by omega, by omega, by omega, by omega, rfl, ?_, AR_up (Nat.le_refl _), AR_up (Nat.le_refl _), AR_up (Nat.le_refl _), AR_refl _ _ _, fun i hi => by rw [b_or, hi]; rfl, PV_mono (PV_letter hcm' zup_same hx zup_same zup_same ?_) (SB_refl _) (by omega)⟩
          · unfold mK
            rw [zbd_q hq]
            rfl
          · rw [b_or, bt_shl1 (by omega) (by omega), decide_eq_true rfl, Bool.or_true]
      · right
        rw [ec] at hbad ⊢
        exact ⟨1, p, by omega, by omega, by omega, ⟨ops, args, cm, lu, _, by omega, rfl⟩, ⟨_, hbad rfl, rfl, rfl⟩⟩
theorem J_all (h : RT a1 a70) (hL : L ≤ 240) : ∀ (k n y : Nat), y + k = 6 → 2 * k + 1 ≤ n → JF a1 a70 L n y ∧ JA a1 a70 L (n + 1) y := by
  intro k
  induction k with
  | zero =>
    intro n y hy hn
    obtain ⟨n, rfl⟩ : ∃ m, n = m + 1 := ⟨n - 1, by omega⟩
    have hF := JF_of (n := n) h hL (show y ≤ 6 by omega) (fun z => by omega)
    exact ⟨hF, JA_of h hL (by omega) hF⟩
  | succ k ih =>
    intro n y hy hn
    obtain ⟨n, rfl⟩ : ∃ m, n = m + 2 := ⟨n - 2, by omega⟩
    have hF := JF_of (n := n + 1) h hL (show y ≤ 6 by omega) (fun _ => (ih n (y + 1) (by omega) (by omega)).2)
    exact ⟨hF, JA_of h hL (by omega) hF⟩
end dfac
