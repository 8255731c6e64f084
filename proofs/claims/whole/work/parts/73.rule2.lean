/-! ===== D: the law's text: a rule, in step ===== -/
section drul
variable {a1 a70 : Nat → Int32} {L : Nat}
theorem mC_head (h : RT a1 a70) (hL : L ≤ 240) {said waits : Nat → Int32} {p cm : Nat} {F9 n0 o11 w13 : Int32} (hp : p < L) (hs : sg a1 L p = 40) : q_md_readsCondition a70 said waits (nI p) (nI L) F9 n0 o11 (nI cm) w13 = tK a70 L said (zup waits 0 (nI (1048576 * 13 + 0))) (p + 1) F9 n0 1 cm (0 + 1) := by
  have e := d_here h (show L ≤ 260 by omega) (show p < 1000000 by omega)
  have em : ∀ k : Nat, (1048576 : Int32) * nI k = nI (1048576 * k + 0) := fun k => by rw [show (1048576 : Int32) = nI 1048576 from rfl, pk_mul]; rfl
  unfold q_md_readsCondition
  rw [e.1, e.2, hs]
  unfold g_md_opens w_md_opens a0_md_opens f0_md_opens f1_md_opens f2_md_opens f3_md_opens
  rw [nI_1 p, show (13 : Int32) = nI 13 from rfl, em 13]
  rfl
theorem mC_no (h : RT a1 a70) (hL : L ≤ 240) {said waits : Nat → Int32} {p cm : Nat} {F9 n0 o11 w13 : Int32} (hp : p ≤ L) (hs : ¬ sg a1 L p = 40) : q_md_readsCondition a70 said waits (nI p) (nI L) F9 n0 o11 (nI cm) w13 = some (0, said, waits, nI p, f0_md_wrongAt 1 (nI p), n0, o11, nI cm, w13) := by
  have e := d_here h (show L ≤ 260 by omega) (show p < 1000000 by omega)
  unfold q_md_readsCondition
  rw [e.1, e.2]
  dsimp +instances only [zl, zg]
  rw [dF hs]
  rfl
/-- ( condition ) -/
theorem d_cc (h : RT a1 a70) (hL : L ≤ 240) (ops args said waits : Nat → Int32) (lu : Int32) (p cm : Nat) (F9 n0 fp o11 w13 : Int32) (hp : p ≤ L) (hcm : cm ≤ p) :
    (∃ ops' args' said' waits' lu' p' cm' n1 o' w', p < p' ∧ p' ≤ L ∧ cm < cm' ∧ cm' + p ≤ cm + p' ∧ cCond a1 (nI L) ops args (nI cm) lu 0 fp (nI p) = some (ops', args', nI cm', lu', 0, fp, nI p') ∧ q_md_readsCondition a70 said waits (nI p) (nI L) F9 n0 o11 (nI cm) w13 = some (1, said', waits', nI p', F9, n1, o', nI cm', w') ∧ AR 0 cm ops' ops ∧ AR 0 cm args' args ∧ AR 0 cm said' said ∧ SB lu lu' ∧ PV WB ops' args' said' lu' 14 cm cm') ∨
    FB (cCond a1 (nI L) ops args (nI cm) lu 0 fp (nI p)) (q_md_readsCondition a70 said waits (nI p) (nI L) F9 n0 o11 (nI cm) w13) := by
  have hL' : L ≤ 260 := by omega
  rcases d_exp h (p := p) (c := 40) hL' (by omega) (by omega) fp F9 with ⟨s1, s2, c1, c2, c3, c4, -⟩ | ⟨s1, c1, c2, c3, c4, -⟩
  · rw [mC_head h hL s2 s1]
    have JCx : JC a1 a70 L 60 1 := (J_tests h hL 5 59 1 rfl (by omega)).2
    have cx : ∀ r' : T7, q_lr_readCondition 1 a1 ops args (nI cm) lu (nI L) 0 fp (nI (p + 1)) = some r' → g_tx_expect 41 r'.2.2.2.2.1 r'.2.2.2.2.2.2 (nI L) a1 r'.2.2.2.2.2.1 = true → cCond a1 (nI L) ops args (nI cm) lu 0 fp (nI p) = some (r'.1, r'.2.1, r'.2.2.1, r'.2.2.2.1, f0_tx_expect 41 r'.2.2.2.2.1 r'.2.2.2.2.2.2 (nI L) a1 r'.2.2.2.2.2.1, f1_tx_expect 41 r'.2.2.2.2.1 r'.2.2.2.2.2.2 (nI L) a1 r'.2.2.2.2.2.1, f2_tx_expect 41 r'.2.2.2.2.1 r'.2.2.2.2.2.2 (nI L) a1 r'.2.2.2.2.2.1) := by
      intro r' hr' hg
      unfold cCond
      rw [show g_tx_expect 40 0 (nI p) (nI L) a1 fp = true from c1, show f0_tx_expect 40 0 (nI p) (nI L) a1 fp = 0 from c2, show f1_tx_expect 40 0 (nI p) (nI L) a1 fp = fp from c3, show f2_tx_expect 40 0 (nI p) (nI L) a1 fp = nI (p + 1) from c4, zbd_q hr', hg]
      rfl
    rcases JCx ops args said (zup waits 0 (nI (1048576 * 13 + 0))) lu (p + 1) cm 0 F9 n0 fp (by omega) (by omega) (by omega) zup_same with ⟨ops', args', saidP, said', waits', lu', p', cm', wtP, n1, g1, g2, g3, g4, g5, g6, g7, g8, g9, g10, g11, g12, g13, g14, g15⟩ | ⟨k, pl, b1, b2, b3, ⟨ops', args', cm', lu', ps, b4, b5⟩, b6⟩
    · rw [g6]
      have e5 := d_here h hL' (show p' < 1000000 by omega)
      rcases d_exp h (p := p') (c := 41) hL' (by omega) (by omega) fp F9 with ⟨s1', s2', k1, k2, k3, k4, -⟩ | ⟨s1', k1, k2, k3, k4, -⟩
      · left
        rw [cx _ g5 k1]
        dsimp +instances only
        rw [show f0_tx_expect 41 0 (nI p') (nI L) a1 fp = 0 from k2, show f1_tx_expect 41 0 (nI p') (nI L) a1 fp = fp from k3, show f2_tx_expect 41 0 (nI p') (nI L) a1 fp = nI (p' + 1) from k4]
        refine ⟨ops', args', said', waits', lu', p' + 1, cm', n1, nI 1 - 1, nI (0 + 1) - 1, by omega, by omega, g3, by omega, rfl, ?_, g8, g9, g10, g12, g13⟩
        unfold tL
        have hs : l_md_readsCondition_92 a70 (nI L) waits' F9 n1 saidP (nI p') (nI 1) (nI cm') (nI wtP) = some (.inr (1, said', waits', nI (p' + 1), F9, n1, nI 1 - 1, nI cm', nI (0 + 1) - 1)) := by
          refine zlp_out ?_
          dsimp +instances only [f_md_readsCondition_92, b_md_readsCondition_92]
          rw [e5.1, e5.2, show sg a1 L p' = 41 from s1']
          dsimp +instances only [zl, zg]
          rw [cTt, show decide ((41 : Int32) = 41) = true from rfl, nTt, cFf, zbd_q g7]
          dsimp +instances only
          rw [show decide (nI (0 + 1) - 1 = (0 : Int32)) = true from rfl, nTt, cFf, nI_1 p']
        rw [zbd_q hs]
        rfl
      · right
        refine ⟨1, p', by omega, by omega, by omega, ⟨ops', args', cm', lu', nI p', by omega, ?_⟩, ⟨(0, saidP, waits', nI p', f0_md_wrongAt 1 (nI p'), n1, nI 1, nI cm', nI wtP), ?_, rfl, rfl⟩⟩
        · rw [cx _ g5 k1]
          dsimp +instances only
          rw [show f0_tx_expect 41 0 (nI p') (nI L) a1 fp = 1 from k2, show f1_tx_expect 41 0 (nI p') (nI L) a1 fp = nI p' from k3, show f2_tx_expect 41 0 (nI p') (nI L) a1 fp = nI p' from k4]
          rfl
        · unfold tL
          have hs : l_md_readsCondition_92 a70 (nI L) waits' F9 n1 saidP (nI p') (nI 1) (nI cm') (nI wtP) = some (.inr (0, saidP, waits', nI p', f0_md_wrongAt 1 (nI p'), n1, nI 1, nI cm', nI wtP)) := by
            refine zlp_out ?_
            dsimp +instances only [f_md_readsCondition_92, b_md_readsCondition_92]
            rw [e5.1, e5.2]
            dsimp +instances only [zl, zg]
            rw [dF (show ¬ sg a1 L p' = 41 from s1'), dF g14, dF g15]
            rfl
          rw [zbd_q hs]
          rfl
    · right
      have hk0 : nI k ≠ 0 := nI_ne0 (by omega) (by omega)
      have hx := d_expF hk0 (c := 41) (by omega) a1 (nI L) (nI pl) ps
      refine ⟨k, pl, b1, b2, b3, ⟨ops', args', cm', lu', ps, b4, ?_⟩, b6⟩
      rw [cx _ b5 hx.1]
      dsimp +instances only
      rw [show f0_tx_expect 41 (nI k) ps (nI L) a1 (nI pl) = nI k from hx.2.1, show f1_tx_expect 41 (nI k) ps (nI L) a1 (nI pl) = nI pl from hx.2.2.1, show f2_tx_expect 41 (nI k) ps (nI L) a1 (nI pl) = ps from hx.2.2.2]
  · right
    refine ⟨1, p, by omega, by omega, by omega, ⟨ops, args, cm, lu, nI p, by omega, ?_⟩, ⟨_, mC_no h hL hp s1, rfl, rfl⟩⟩
    have h10 : (1 : Int32) ≠ 0 := by decide
    have y := d_expF h10 (c := 41) (by omega) a1 (nI L) (nI p) (nI p)
    have z : q_lr_readCondition 1 a1 ops args (nI cm) lu (nI L) 1 (nI p) (nI p) = some (ops, args, nI cm, lu, 1, nI p, nI p) := z_cond h10 a1 56 1 ops args (nI cm) lu (nI L) (nI p) (nI p)
    unfold cCond
    rw [show g_tx_expect 40 0 (nI p) (nI L) a1 fp = true from c1, show f0_tx_expect 40 0 (nI p) (nI L) a1 fp = 1 from c2, show f1_tx_expect 40 0 (nI p) (nI L) a1 fp = nI p from c3, show f2_tx_expect 40 0 (nI p) (nI L) a1 fp = nI p from c4, z]
    show zg (g_tx_expect 41 1 (nI p) (nI L) a1 (nI p)) (some (ops, args, nI cm, lu, f0_tx_expect 41 1 (nI p) (nI L) a1 (nI p), f1_tx_expect 41 1 (nI p) (nI L) a1 (nI p), f2_tx_expect 41 1 (nI p) (nI L) a1 (nI p))) = _
    rw [show g_tx_expect 41 1 (nI p) (nI L) a1 (nI p) = true from y.1, show f0_tx_expect 41 1 (nI p) (nI L) a1 (nI p) = 1 from y.2.1, show f1_tx_expect 41 1 (nI p) (nI L) a1 (nI p) = nI p from y.2.2.1, show f2_tx_expect 41 1 (nI p) (nI L) a1 (nI p) = nI p from y.2.2.2]
    rfl
/-- the letter -/
theorem d_lt (hL : L ≤ 240) {r p cm : Nat} (hr : r < 16) (hp : p ≤ L) (rl am : Nat → Int32) (fp : Int32) {c : Int32} (hs : sg a1 L p = c) (hc : c = 98 ∨ c = 115 ∨ c = 120) : q_lr_readLetter (nI r) a1 rl am (nI cm) (nI r) (nI L) 0 fp (nI p) = some (c, zup rl r c, zup am r (nI cm), 0, fp, nI (p + 1)) := by
  have e := d_sign (a := a1) (show L ≤ 260 by omega) (show p < 1000000 by omega)
  unfold q_lr_readLetter g_lw_beginRule a0_lw_beginRule a1_lw_beginRule
  rw [e.1, e.2, hs, show (16 : Int32) = nI 16 from rfl, nI_dlt (by omega) (by omega), nI_dle (by omega) (by omega), dT hr, dF (show ¬ 16 ≤ r by omega), nI_zin (a := r) (N := 16) (by omega), dT hr, nI_cl (a := r) (by omega), d_skip]
  rcases hc with rfl | rfl | rfl <;> rfl
theorem d_lt16 (hL : L ≤ 240) {p cm : Nat} (hp : p ≤ L) (rl am : Nat → Int32) (fp : Int32) {c : Int32} (hs : sg a1 L p = c) (hc : c = 98 ∨ c = 115 ∨ c = 120) : q_lr_readLetter (nI 16) a1 rl am (nI cm) (nI 16) (nI L) 0 fp (nI p) = some (c, rl, am, 4, nI p, nI p) := by
  have e := d_sign (a := a1) (show L ≤ 260 by omega) (show p < 1000000 by omega)
  unfold q_lr_readLetter
  rw [e.1, e.2, hs]
  rcases hc with rfl | rfl | rfl <;> rfl
theorem d_ltNo (hL : L ≤ 240) {p cm : Nat} (r : Int32) (hp : p ≤ L) (rl am : Nat → Int32) (fp : Int32) (h1 : ¬ sg a1 L p = 98) (h2 : ¬ sg a1 L p = 115) (h3 : ¬ sg a1 L p = 120) : q_lr_readLetter r a1 rl am (nI cm) r (nI L) 0 fp (nI p) = some (sg a1 L p, rl, am, 1, nI p, nI p) := by
  have e := d_sign (a := a1) (show L ≤ 260 by omega) (show p < 1000000 by omega)
  unfold q_lr_readLetter
  rw [e.1, e.2]
  dsimp +instances only [zl, zg]
  rw [dF h1, dF h2, dF h3]
  rfl
/-- the model's rule -/
theorem mR_amt (h : RT a1 a70) (hL : L ≤ 240) {said waits sl sf sh st : Nat → Int32} {r p cm : Nat} {F9 n0 o11 w13 : Int32} (hr : r < 16) (hp : p ≤ L) {c : Int32} (hs : sg a1 L p = c) (hc : c = 98 ∨ c = 115) :
    q_md_readsRule a70 said waits sl sf sh st (nI p) (nI L) F9 n0 o11 (nI cm) w13 (nI r) = zbd (q_md_readsSum a70 said waits (nI (p + 1)) (nI L) F9 n0 0 (nI cm) 0) (fun v3 => bif !decide (v3.1 = 0) then
      zbd (q_md_readsCondition a70 v3.2.1 v3.2.2.1 v3.2.2.2.1 (nI L) v3.2.2.2.2.1 v3.2.2.2.2.2.1 v3.2.2.2.2.2.2.1 v3.2.2.2.2.2.2.2.1 v3.2.2.2.2.2.2.2.2) (fun v4 => bif !decide (v4.1 = 0) then
        some (1, v4.2.1, v4.2.2.1, zup sl r c, zup sf r (nI cm), zup sh r v3.2.2.2.2.2.2.2.1, zup st r v4.2.2.2.2.2.2.2.1, v4.2.2.2.1, v4.2.2.2.2.1, v4.2.2.2.2.2.1, v4.2.2.2.2.2.2.1, v4.2.2.2.2.2.2.2.1, v4.2.2.2.2.2.2.2.2, nI (r + 1))
       else
        some (0, v4.2.1, v4.2.2.1, zup sl r c, zup sf r (nI cm), zup sh r v3.2.2.2.2.2.2.2.1, st, v4.2.2.2.1, v4.2.2.2.2.1, v4.2.2.2.2.2.1, v4.2.2.2.2.2.2.1, v4.2.2.2.2.2.2.2.1, v4.2.2.2.2.2.2.2.2, nI r))
     else
      some (0, v3.2.1, v3.2.2.1, zup sl r c, zup sf r (nI cm), sh, st, v3.2.2.2.1, v3.2.2.2.2.1, v3.2.2.2.2.2.1, v3.2.2.2.2.2.2.1, v3.2.2.2.2.2.2.2.1, v3.2.2.2.2.2.2.2.2, nI r)) := by
  have e := d_here h (show L ≤ 260 by omega) (show p < 1000000 by omega)
  unfold q_md_readsRule
  rw [e.1, e.2, hs, show (16 : Int32) = nI 16 from rfl, nI_deq (by omega) (by omega), dF (show ¬ r = 16 by omega), nI_zin (a := r) (N := 16) (by omega), dT hr, nI_cl (a := r) (by omega), nI_1 p, nI_1 r]
  rcases hc with rfl | rfl <;> rfl
theorem mR_x (h : RT a1 a70) (hL : L ≤ 240) {said waits sl sf sh st : Nat → Int32} {r p cm : Nat} {F9 n0 o11 w13 : Int32} (hr : r < 16) (hp : p ≤ L) (hs : sg a1 L p = 120) :
    q_md_readsRule a70 said waits sl sf sh st (nI p) (nI L) F9 n0 o11 (nI cm) w13 (nI r) = zbd (q_md_readsCondition a70 said waits (nI (p + 1)) (nI L) F9 n0 0 (nI cm) 0) (fun v4 => bif !decide (v4.1 = 0) then
        some (1, v4.2.1, v4.2.2.1, zup sl r 120, zup sf r (nI cm), zup sh r (nI cm), zup st r v4.2.2.2.2.2.2.2.1, v4.2.2.2.1, v4.2.2.2.2.1, v4.2.2.2.2.2.1, v4.2.2.2.2.2.2.1, v4.2.2.2.2.2.2.2.1, v4.2.2.2.2.2.2.2.2, nI (r + 1))
       else
        some (0, v4.2.1, v4.2.2.1, zup sl r 120, zup sf r (nI cm), zup sh r (nI cm), st, v4.2.2.2.1, v4.2.2.2.2.1, v4.2.2.2.2.2.1, v4.2.2.2.2.2.2.1, v4.2.2.2.2.2.2.2.1, v4.2.2.2.2.2.2.2.2, nI r)) := by
  have e := d_here h (show L ≤ 260 by omega) (show p < 1000000 by omega)
  unfold q_md_readsRule
  rw [e.1, e.2, hs, show (16 : Int32) = nI 16 from rfl, nI_deq (by omega) (by omega), dF (show ¬ r = 16 by omega), nI_zin (a := r) (N := 16) (by omega), dT hr, nI_cl (a := r) (by omega), nI_1 p, nI_1 r]
  rfl
theorem mR_16 (h : RT a1 a70) (hL : L ≤ 240) {said waits sl sf sh st : Nat → Int32} {p : Nat} {F9 n0 o11 cm w13 : Int32} (hp : p ≤ L) {c : Int32} (hs : sg a1 L p = c) (hc : c = 98 ∨ c = 115 ∨ c = 120) :
    q_md_readsRule a70 said waits sl sf sh st (nI p) (nI L) F9 n0 o11 cm w13 (nI 16) = some (0, said, waits, sl, sf, sh, st, nI p, f0_md_wrongAt 4 (nI p), n0, o11, cm, w13, nI 16) := by
  have e := d_here h (show L ≤ 260 by omega) (show p < 1000000 by omega)
  unfold q_md_readsRule
  rw [e.1, e.2, hs]
  rcases hc with rfl | rfl | rfl <;> rfl
theorem mR_no (h : RT a1 a70) (hL : L ≤ 240) {said waits sl sf sh st : Nat → Int32} {p : Nat} {F9 n0 o11 cm w13 r : Int32} (hp : p ≤ L) (h1 : ¬ sg a1 L p = 98) (h2 : ¬ sg a1 L p = 115) (h3 : ¬ sg a1 L p = 120) :
    q_md_readsRule a70 said waits sl sf sh st (nI p) (nI L) F9 n0 o11 cm w13 r = some (0, said, waits, sl, sf, sh, st, nI p, f0_md_wrongAt 1 (nI p), n0, o11, cm, w13, r) := by
  have e := d_here h (show L ≤ 260 by omega) (show p < 1000000 by omega)
  unfold q_md_readsRule
  rw [e.1, e.2]
  dsimp +instances only [zl, zg]
  rw [dF h1, dF h2, dF h3]
  rfl
end drul
