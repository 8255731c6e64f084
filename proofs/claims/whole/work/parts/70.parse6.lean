/-! ===== D: the law's text: tests ===== -/
section dtst
variable {a1 a70 : Nat → Int32} {L : Nat}
/-- the three signs that compare -/
def cmpP (c : Int32) (m : Nat) : Prop := (c = 60 ∧ m = 7) ∨ (c = 62 ∧ m = 8) ∨ (c = 61 ∧ m = 9)
theorem d_compared (h : RT a1 a70) (hL : L ≤ 240) {n y : Nat} (hy : y ≤ 6) (hA : JA a1 a70 L (n + 2) y) (ops args said waits : Nat → Int32) (lu : Int32) (p cm wt : Nat) (F9 n0 fp : Int32) (hp : p ≤ L) (hcm : cm ≤ p) (hwt : wt ≤ p) (hNS : NS waits wt) (z : Option T7)
    (hz : z = zbd ((G_lr (n + 2)).2.2.1 (nI y) a1 ops args (nI cm) lu (nI L) 0 fp (nI p)) (fun v41 => zg (g_tx_sign ((v41.2.2.2.2.1)) ((v41.2.2.2.2.2.2)) (nI L) a1) (
      zl (w_tx_sign ((v41.2.2.2.2.1)) ((v41.2.2.2.2.2.2)) (nI L) a1) (fun v42 =>
      bif decide (v42 = 60) || (decide (v42 = 62) || decide (v42 = 61)) then
       zl (f0_tx_skip ((v41.2.2.2.2.2.2))) (fun v43 =>
       zbd ((G_lr (n + 2)).2.2.1 (nI y) a1 ((v41.1)) ((v41.2.1)) ((v41.2.2.1)) ((v41.2.2.2.1)) (nI L) ((v41.2.2.2.2.1)) ((v41.2.2.2.2.2.1)) v43) (fun v44 =>
       zg (g_lw_emit v42 0 ((v44.2.2.1)) ((v44.1)) ((v44.2.1)) ((v44.2.2.2.1))) (
       some (a0_lw_emit v42 0 ((v44.2.2.1)) ((v44.1)) ((v44.2.1)) ((v44.2.2.2.1)), a1_lw_emit v42 0 ((v44.2.2.1)) ((v44.1)) ((v44.2.1)) ((v44.2.2.2.1)), f0_lw_emit v42 0 ((v44.2.2.1)) ((v44.1)) ((v44.2.1)) ((v44.2.2.2.1)), f1_lw_emit v42 0 ((v44.2.2.1)) ((v44.1)) ((v44.2.1)) ((v44.2.2.2.1)), (v44.2.2.2.2.1), (v44.2.2.2.2.2.1), (v44.2.2.2.2.2.2)))))
      else
       some (((v41.1)), ((v41.2.1)), (v41.2.2.1), (v41.2.2.2.1), f0_tx_fail 1 ((v41.2.2.2.2.2.2)) ((v41.2.2.2.2.1)) ((v41.2.2.2.2.2.1)), f1_tx_fail 1 ((v41.2.2.2.2.2.2)) ((v41.2.2.2.2.1)) ((v41.2.2.2.2.2.1)), (v41.2.2.2.2.2.2))))))
    (h33 : ¬ sg a1 L p = 33) (h40 : ¬ sg a1 L p = 40) :
    TG a70 L ops args said waits lu p cm wt y (16 - 2 * y) fp F9 z (tK a70 L said waits p F9 n0 y cm wt) ∨ FB z (tK a70 L said waits p F9 n0 y cm wt) := by
  have hL' : L ≤ 260 := by omega
  rw [tK_cmp h hL hp h33 h40, hz]
  clear hz
  unfold q_md_readsCompared
  rcases JS_of h hL hy hA ops args said waits lu p cm wt F9 n0 fp hp hcm hwt hNS with ⟨ops1, args1, said1, waits1, lu1, p1, cm1, n1, g1, g2, g3, g4, g5, g6, g7, g8, g9, g10, g11, g12⟩ | ⟨k, pl, b1, b2, b3, ⟨ops', args', cm', lu', ps, b4, b5⟩, ⟨t, b6, b7, b8⟩⟩
  · rw [zbd_q g5, zbd_q g6]
    have e1 := d_sign (a := a1) hL' (show p1 < 1000000 by omega)
    have e2 := d_here h hL' (show p1 < 1000000 by omega)
    have hNS1 := NS_congr hNS g10
    dsimp +instances only
    rw [e1.1, e1.2, e2.1, e2.2]
    dsimp +instances only [zl, zg]
    rw [cTt, show decide ((1 : Int32) = 0) = false from rfl, nFf, cTt, cTt, cTt, cTt]
    -- a sign that compares
    have go : ∀ (c : Int32) (m : Nat), cmpP c m → sg a1 L p1 = c →
        TG a70 L ops args said waits lu p cm wt y (16 - 2 * y) fp F9 (zbd ((G_lr (n + 2)).2.2.1 (nI y) a1 ops1 args1 (nI cm1) lu1 (nI L) 0 fp (nI (p1 + 1))) (fun v44 => bif g_lw_emit c 0 ((v44.2.2.1)) ((v44.1)) ((v44.2.1)) ((v44.2.2.2.1)) then some (a0_lw_emit c 0 ((v44.2.2.1)) ((v44.1)) ((v44.2.1)) ((v44.2.2.2.1)), a1_lw_emit c 0 ((v44.2.2.1)) ((v44.1)) ((v44.2.1)) ((v44.2.2.2.1)), f0_lw_emit c 0 ((v44.2.2.1)) ((v44.1)) ((v44.2.1)) ((v44.2.2.2.1)), f1_lw_emit c 0 ((v44.2.2.1)) ((v44.1)) ((v44.2.1)) ((v44.2.2.2.1)), (v44.2.2.2.2.1), (v44.2.2.2.2.2.1), (v44.2.2.2.2.2.2)) else none))
          (zbd (zbd (q_md_readsSum a70 said1 waits1 (nI (p1 + 1)) (nI L) F9 n1 (nI y) (nI cm1) (nI wt)) (fun v7 => bif !decide ((v7.1) = 0) then
             bif g_md_notes (nI m) 0 ((v7.2.2.2.2.2.2.2.1)) ((v7.2.1)) then zbd (q_md_endsPiece (a0_md_notes (nI m) 0 ((v7.2.2.2.2.2.2.2.1)) ((v7.2.1))) ((v7.2.2.1)) ((v7.2.2.2.2.2.2.1)) (f0_md_notes (nI m) 0 ((v7.2.2.2.2.2.2.2.1)) ((v7.2.1))) ((v7.2.2.2.2.2.2.2.2))) (fun v10 => some ((1 : Int32), ((v10.1)), ((v7.2.2.1)), (v7.2.2.2.1), (v7.2.2.2.2.1), (v7.2.2.2.2.2.1), (v10.2.1), (v10.2.2.1), (v10.2.2.2))) else none
            else some (0, ((v7.2.1)), ((v7.2.2.1)), (v7.2.2.2.1), (v7.2.2.2.2.1), (v7.2.2.2.2.2.1), (v7.2.2.2.2.2.2.1), (v7.2.2.2.2.2.2.2.1), (v7.2.2.2.2.2.2.2.2))))
           (fun v => bif !decide (v.1 = 0) then tL a70 L v.2.2.1 v.2.2.2.2.1 v.2.2.2.2.2.1 v.2.1 v.2.2.2.1 v.2.2.2.2.2.2.1 v.2.2.2.2.2.2.2.1 v.2.2.2.2.2.2.2.2 else some (0, v.2.1, v.2.2.1, v.2.2.2.1, v.2.2.2.2.1, v.2.2.2.2.2.1, v.2.2.2.2.2.2.1, v.2.2.2.2.2.2.2.1, v.2.2.2.2.2.2.2.2))) ∨
        FB (zbd ((G_lr (n + 2)).2.2.1 (nI y) a1 ops1 args1 (nI cm1) lu1 (nI L) 0 fp (nI (p1 + 1))) (fun v44 => bif g_lw_emit c 0 ((v44.2.2.1)) ((v44.1)) ((v44.2.1)) ((v44.2.2.2.1)) then some (a0_lw_emit c 0 ((v44.2.2.1)) ((v44.1)) ((v44.2.1)) ((v44.2.2.2.1)), a1_lw_emit c 0 ((v44.2.2.1)) ((v44.1)) ((v44.2.1)) ((v44.2.2.2.1)), f0_lw_emit c 0 ((v44.2.2.1)) ((v44.1)) ((v44.2.1)) ((v44.2.2.2.1)), f1_lw_emit c 0 ((v44.2.2.1)) ((v44.1)) ((v44.2.1)) ((v44.2.2.2.1)), (v44.2.2.2.2.1), (v44.2.2.2.2.2.1), (v44.2.2.2.2.2.2)) else none))
          (zbd (zbd (q_md_readsSum a70 said1 waits1 (nI (p1 + 1)) (nI L) F9 n1 (nI y) (nI cm1) (nI wt)) (fun v7 => bif !decide ((v7.1) = 0) then
             bif g_md_notes (nI m) 0 ((v7.2.2.2.2.2.2.2.1)) ((v7.2.1)) then zbd (q_md_endsPiece (a0_md_notes (nI m) 0 ((v7.2.2.2.2.2.2.2.1)) ((v7.2.1))) ((v7.2.2.1)) ((v7.2.2.2.2.2.2.1)) (f0_md_notes (nI m) 0 ((v7.2.2.2.2.2.2.2.1)) ((v7.2.1))) ((v7.2.2.2.2.2.2.2.2))) (fun v10 => some ((1 : Int32), ((v10.1)), ((v7.2.2.1)), (v7.2.2.2.1), (v7.2.2.2.2.1), (v7.2.2.2.2.2.1), (v10.2.1), (v10.2.2.1), (v10.2.2.2))) else none
            else some (0, ((v7.2.1)), ((v7.2.2.1)), (v7.2.2.2.1), (v7.2.2.2.2.1), (v7.2.2.2.2.2.1), (v7.2.2.2.2.2.2.1), (v7.2.2.2.2.2.2.2.1), (v7.2.2.2.2.2.2.2.2))))
           (fun v => bif !decide (v.1 = 0) then tL a70 L v.2.2.1 v.2.2.2.2.1 v.2.2.2.2.2.1 v.2.1 v.2.2.2.1 v.2.2.2.2.2.2.1 v.2.2.2.2.2.2.2.1 v.2.2.2.2.2.2.2.2 else some (0, v.2.1, v.2.2.1, v.2.2.2.1, v.2.2.2.2.1, v.2.2.2.2.2.1, v.2.2.2.2.2.2.1, v.2.2.2.2.2.2.2.1, v.2.2.2.2.2.2.2.2))) := by
      intro c m hc es
      have hin : p1 < L := sg_in (by rw [es]; rcases hc with ⟨rfl, -⟩ | ⟨rfl, -⟩ | ⟨rfl, -⟩ <;> decide)
      have hop : opP c m := by
        rcases hc with ⟨rfl, rfl⟩ | ⟨rfl, rfl⟩ | ⟨rfl, rfl⟩
        · exact Or.inr (Or.inr (Or.inr (Or.inr (Or.inr (Or.inl ⟨rfl, rfl⟩)))))
        · exact Or.inr (Or.inr (Or.inr (Or.inr (Or.inr (Or.inr (Or.inl ⟨rfl, rfl⟩))))))
        · exact Or.inr (Or.inr (Or.inr (Or.inr (Or.inr (Or.inr (Or.inr ⟨rfl, rfl⟩))))))
      have hc3 : c = 60 ∨ c = 62 ∨ c = 61 := by
        rcases hc with ⟨q, -⟩ | ⟨q, -⟩ | ⟨q, -⟩
        · exact Or.inl q
        · exact Or.inr (Or.inl q)
        · exact Or.inr (Or.inr q)
      have hc2 : decide (c = 2) = false := by
        rcases hc with ⟨rfl, -⟩ | ⟨rfl, -⟩ | ⟨rfl, -⟩ <;> rfl
      rcases JS_of h hL hy hA ops1 args1 said1 waits1 lu1 (p1 + 1) cm1 wt F9 n1 fp (by omega) (by omega) (by omega) hNS1 with ⟨ops2, args2, said2, waits2, lu2, p2, cm2, n2, f1, f2, f3, f4, f5, f6, f7, f8, f9, f10, f11, f12⟩ | ⟨k, pl, b1, b2, b3, ⟨ops', args', cm', lu', ps, b4, b5⟩, ⟨t, b6, b7, b8⟩⟩
      · left
        have hcm2 : cm2 < 240 := by omega
        obtain ⟨k1, k2, k3, k4, k5, k6⟩ := d_emit hcm2 c 0 ops2 args2 lu2
        rw [hc2, nFf, cTt] at k6
        obtain ⟨m1, m2, m3⟩ := d_note (show cm2 < 260 by omega) m 0 said2
        rw [zbd_q f5, zbd_q f6]
        dsimp +instances only
        rw [k1, k3, k4, k5, k6, show g_md_notes (nI m) 0 (nI cm2) said2 = true from m1, show a0_md_notes (nI m) 0 (nI cm2) said2 = _ from m2, show f0_md_notes (nI m) 0 (nI cm2) said2 = _ from m3, cTt, show decide ((1 : Int32) = 0) = false from rfl, nFf, cTt, cTt]
        refine ⟨zup ops2 cm2 c, zup args2 cm2 0, zup said2 cm2 (nI (1048576 * m + 0)), waits2, lu2, p2, cm2 + 1, n2, by omega, f2, by omega, by omega, rfl, ?_, AR_tr (AR_up (by omega)) (AR_tr (AR_sub f7 (by omega) (by omega)) g7), AR_tr (AR_up (by omega)) (AR_tr (AR_sub f8 (by omega) (by omega)) g8), AR_tr (AR_up (by omega)) (AR_tr (AR_sub f9 (by omega) (by omega)) g9), AR_tr f10 g10, SB_tr g11 f11, ?_⟩
        · unfold tE
          cases q_md_endsPiece (zup said2 cm2 (nI (1048576 * m + 0))) waits2 (nI y) (nI (cm2 + 1)) (nI wt) with
          | none => rfl
          | some v => rfl
        · exact PV_bin (h := 16 - 2 * y) (h1 := 15 - 2 * y) (h2 := 15 - 2 * y) (PV_mono (PV_ext g12 (AR_tr (AR_up (by omega)) (AR_sub f7 (by omega) (by omega))) (AR_tr (AR_up (by omega)) (AR_sub f8 (by omega) (by omega))) (AR_tr (AR_up (by omega)) (AR_sub f9 (by omega) (by omega)))) f11 (Nat.le_refl _)) (PV_ext f12 (AR_up (by omega)) (AR_up (by omega)) (AR_up (by omega))) (by omega) (by omega) hop zup_same zup_same hcm2 (by omega) (by omega) (by omega) (fun u v => reckon_bool hc3 u v)
      · right
        obtain ⟨w, o2, a2, c2, l2, k1, k2, k3, k4, k5, k6, k7⟩ := d_emitAny b4 c 0 ops' args' lu'
        refine ⟨k, pl, b1, b2, b3, ⟨o2, a2, c2, l2, ps, k1, ?_⟩, ⟨(0, t.2.1, t.2.2.1, t.2.2.2.1, t.2.2.2.2.1, t.2.2.2.2.2.1, t.2.2.2.2.2.2.1, t.2.2.2.2.2.2.2.1, t.2.2.2.2.2.2.2.2), ?_, rfl, b8⟩⟩
        · rw [zbd_q b5]
          dsimp +instances only
          rw [k2, k4, k5, k6, k7]
          rfl
        · rw [zbd_q b6, b7]
          rfl
    by_cases c60 : sg a1 L p1 = 60
    · have := go 60 7 (Or.inl ⟨rfl, rfl⟩) c60
      rw [c60, d_skip, nI_1]
      exact this
    · by_cases c62 : sg a1 L p1 = 62
      · have := go 62 8 (Or.inr (Or.inl ⟨rfl, rfl⟩)) c62
        rw [c62, d_skip, nI_1]
        exact this
      · by_cases c61 : sg a1 L p1 = 61
        · have := go 61 9 (Or.inr (Or.inr ⟨rfl, rfl⟩)) c61
          rw [c61, d_skip, nI_1]
          exact this
        · rw [dF c60, dF c62, dF c61]
          right
          exact ⟨1, p1, by omega, by omega, by omega, ⟨ops1, args1, cm1, lu1, _, by omega, rfl⟩, ⟨_, rfl, rfl, rfl⟩⟩
  · right
    have hk0 : nI k ≠ 0 := nI_ne0 (by omega) (by omega)
    have e := d_signF hk0 ps (nI L) a1
    have e2 := d_failF hk0 1 ps (nI pl)
    refine ⟨k, pl, b1, b2, b3, ⟨ops', args', cm', lu', ps, b4, ?_⟩, ⟨(0, t.2.1, t.2.2.1, t.2.2.2.1, t.2.2.2.2.1, t.2.2.2.2.2.1, t.2.2.2.2.2.2.1, t.2.2.2.2.2.2.2.1, t.2.2.2.2.2.2.2.2), ?_, rfl, b8⟩⟩
    · rw [zbd_q b5]
      dsimp +instances only
      rw [e.1, e.2, e2.1, e2.2]
      rfl
    · rw [zbd_q b6, b7]
      rfl
end dtst
