/-! ===== D: orders: numbers, places ===== -/
def dgB (x : Int32) : Bool := !decide (x < 48) && !decide (57 < x)
theorem dgB_cases (x : Int32) : (dgB x = true ∧ decide (x < 48) = false ∧ decide (x ≤ 57) = true ∧ ∃ c, 48 ≤ c ∧ c ≤ 57 ∧ x = nI c) ∨ (dgB x = false ∧ (decide (x < 48) = true ∨ (decide (x < 48) = false ∧ decide (x ≤ 57) = false))) := by
  unfold dgB
  by_cases h1 : x < 48
  · rw [dT h1]
    exact Or.inr ⟨rfl, Or.inl rfl⟩
  · by_cases h2 : 57 < x
    · rw [dF h1, dT h2]
      refine Or.inr ⟨rfl, Or.inr ⟨rfl, ?_⟩⟩
      refine dF (fun h3 => ?_)
      rw [← Int32.not_le] at h2
      exact h2 h3
    · obtain ⟨c, rfl, h3, h4⟩ := nI_within (a := 48) (b := 57) (by omega) h1 h2 (by omega)
      rw [dF h1, dF h2]
      refine Or.inl ⟨rfl, rfl, ?_, c, h3, h4, rfl⟩
      rw [show (57 : Int32) = nI 57 from rfl, nI_dle (by omega) (by omega)]
      exact dT h4
theorem dgB_m1 : dgB (-1) = false := by decide
theorem d_digC {a1 : Nat → Int32} {L p : Nat} (hL : L ≤ 260) (hp : p < 1000000) : g_tx_isDigit 0 (nI p) (nI L) a1 = true ∧ w_tx_isDigit 0 (nI p) (nI L) a1 = b01 (dgB (sg a1 L p)) := by
  have e := d_sign (a := a1) hL hp
  unfold g_tx_isDigit w_tx_isDigit dgB
  rw [e.1, e.2]
  refine ⟨rfl, ?_⟩
  cases decide (sg a1 L p < 48) <;> cases decide (57 < sg a1 L p) <;> rfl
theorem d_digM {a1 a70 : Nat → Int32} (h : RT a1 a70) {L p : Nat} (hL : L ≤ 260) (hp : p < 1000000) : g_md_isDigit (nI L) (nI p) a70 = true ∧ w_md_isDigit (nI L) (nI p) a70 = b01 (dgB (sg a1 L p)) := by
  have e := d_here h hL hp
  unfold g_md_isDigit w_md_isDigit dgB
  rw [e.1, e.2]
  refine ⟨?_, ?_⟩
  · cases decide (sg a1 L p < 48) <;> rfl
  · cases decide (sg a1 L p < 48) <;> cases decide (57 < sg a1 L p) <;> rfl
theorem sg_in {a1 : Nat → Int32} {L p : Nat} (h : sg a1 L p ≠ -1) : p < L := by
  unfold sg at h
  by_cases q : p < L
  · exact q
  · rw [if_neg q] at h; exact absurd rfl h
theorem dg_in {a1 : Nat → Int32} {L p : Nat} (h : dgB (sg a1 L p) = true) : p < L := sg_in (fun e => by rw [e, dgB_m1] at h; cases h)
theorem d_digits {a1 a70 : Nat → Int32} (h : RT a1 a70) {L p hi : Nat} (hL : L ≤ 260) (hp : p ≤ L) (hh : hi < 100000) (hd : dgB (sg a1 L p) = true) (fp F9 : Int32) :
    ∃ r r', l_tx_number_4 4 a1 (nI L) 0 fp 0 0 (nI p) = some r ∧ l_md_readsWithin_27 (nI hi) a70 (nI L) F9 (nI p) (nI p) 0 = some r' ∧
      ((∃ n d, 1 ≤ d ∧ d ≤ 4 ∧ n ≤ 9999 ∧ p + d ≤ L ∧ r = (nI n, 0, fp, nI (p + d)) ∧ r' = (bif decide (n ≤ hi) then (1, nI (p + d), F9, nI n) else (0, nI (p + d), f0_md_wrongAt 3 (nI p), nI n))) ∨
       (∃ n, r = (n, 2, nI (p + 4), nI (p + 4)) ∧ r' = (0, nI (p + 4), f0_md_wrongAt 2 (nI (p + 4)), n))) := by
  refine zlp_rel (f := f_tx_number_4 4 a1 (nI L) 0 fp) (g := f_md_readsWithin_27 (nI hi) a70 (nI L) F9 (nI p))
    (fun m s t => ∃ k n, k + m = 4 ∧ s = (nI n, nI k, nI (p + k)) ∧ t = (nI (p + k), nI n) ∧ p + k ≤ L ∧ n ≤ 9999 ∧ (k ≤ 3 → n ≤ 999) ∧ (k ≤ 2 → n ≤ 99) ∧ (k ≤ 1 → n ≤ 9) ∧ (k ≤ 0 → n ≤ 0 ∧ dgB (sg a1 L (p + k)) = true))
    _ ?_ 4 (0, 0, nI p) (nI p, 0) ⟨0, 0, rfl, rfl, rfl, hp, by omega, fun _ => by omega, fun _ => by omega, fun _ => by omega, fun _ => ⟨by omega, hd⟩⟩
  rintro m s t ⟨k, n, hk, rfl, rfl, hpk, b4, b3, b2, b1, b0⟩
  have e1 := d_sign (a := a1) hL (show p + k < 1000000 by omega)
  have e2 := d_here h hL (show p + k < 1000000 by omega)
  have e3 := d_digM h hL (show p + k < 1000000 by omega)
  dsimp +instances only [f_tx_number_4, b_tx_number_4, f_md_readsWithin_27, b_md_readsWithin_27]
  rw [show (4 : Int32) = nI 4 from rfl, nI_dlt (by omega) (by omega), dF (show ¬ 4 < k by omega), cFf, nI_add, e1.1, e1.2, e2.1, e2.2, e3.1, e3.2, nI_deq (by omega) (by omega), nI_deq (by omega) (by omega), nI_1, nI_1]
  dsimp +instances only [zl, zg]
  rcases dgB_cases (sg a1 L (p + k)) with ⟨d1, d2, d3, c, hc1, hc2, ec⟩ | ⟨d1, d2⟩
  · have hin := dg_in d1
    have en : (10 : Int32) * nI n + nI c - 48 = nI (10 * n + c - 48) := by
      rw [show (10 : Int32) = nI 10 from rfl, pk_mul, nI_add, show (48 : Int32) = nI 48 from rfl, pk_sub (by omega)]
    rw [d1, d2, d3, ec, en]
    simp only [cTt, cFf, b01_0, nTt]
    by_cases hk4 : k = 4
    · right
      subst hk4
      rw [dT (rfl : p + 4 = p + 4)]
      exact ⟨_, _, rfl, rfl, Or.inr ⟨_, rfl, rfl⟩⟩
    · left
      rw [dF hk4, dF (show ¬ p + k = p + 4 by omega)]
      exact ⟨m - 1, _, _, by omega, rfl, rfl, k + 1, 10 * n + c - 48, by omega, rfl, rfl, by omega, by omega, fun _ => by omega, fun _ => by omega, fun _ => by omega, fun _ => by omega⟩
  · right
    have hk0 : k ≠ 0 := fun e => by
      have := (b0 (by omega)).2
      rw [d1] at this
      cases this
    have ek : decide (nI k = 0) = false := dF (nI_ne0 (by omega) (by omega))
    rw [d1, ek]
    simp only [cTt, cFf, b01_0, nFf]
    rw [nI_dle (by omega) (by omega)]
    rcases d2 with d2 | ⟨d2, d3⟩
    · rw [d2]
      refine ⟨_, (bif decide (n ≤ hi) then (1, nI (p + k), F9, nI n) else (0, nI (p + k), f0_md_wrongAt 3 (nI p), nI n)), rfl, ?_, Or.inl ⟨n, k, by omega, by omega, b4, hpk, rfl, rfl⟩⟩
      cases decide (n ≤ hi) <;> rfl
    · rw [d2, d3]
      refine ⟨_, (bif decide (n ≤ hi) then (1, nI (p + k), F9, nI n) else (0, nI (p + k), f0_md_wrongAt 3 (nI p), nI n)), rfl, ?_, Or.inl ⟨n, k, by omega, by omega, b4, hpk, rfl, rfl⟩⟩
      cases decide (n ≤ hi) <;> rfl
theorem d_num4 {a1 a70 : Nat → Int32} (h : RT a1 a70) {L p hi : Nat} (hL : L ≤ 260) (hp : p ≤ L) (hh : hi < 100000) (fp F9 n0 : Int32) :
    (∃ n d, 1 ≤ d ∧ d ≤ 4 ∧ n ≤ 9999 ∧ p + d ≤ L ∧ q_tx_number 4 a1 (nI L) 0 fp (nI p) = some (nI n, 0, fp, nI (p + d)) ∧ q_md_readsWithin (nI hi) a70 (nI p) (nI L) F9 n0 = some (bif decide (n ≤ hi) then (1, nI (p + d), F9, nI n) else (0, nI (p + d), f0_md_wrongAt 3 (nI p), nI n))) ∨
    (∃ v k pl ps n', 1 ≤ k ∧ k ≤ 2 ∧ pl ≤ 1000 ∧ q_tx_number 4 a1 (nI L) 0 fp (nI p) = some (v, nI k, nI pl, ps) ∧ q_md_readsWithin (nI hi) a70 (nI p) (nI L) F9 n0 = some (0, ps, f0_md_wrongAt (nI k) (nI pl), n')) := by
  have e1 := d_sign (a := a1) hL (show p < 1000000 by omega)
  have e3 := d_digM h hL (show p < 1000000 by omega)
  rcases dgB_cases (sg a1 L p) with ⟨d1, -⟩ | ⟨d1, d2⟩
  · obtain ⟨r, r', q1, q2, q3⟩ := d_digits h hL hp hh d1 fp F9
    have e4 : q_md_readsWithin (nI hi) a70 (nI p) (nI L) F9 n0 = some r' := by
      unfold q_md_readsWithin
      rw [e3.1, e3.2, d1, q2]
      rfl
    rcases q3 with ⟨n, d, h1, h2, h3, h4, rfl, rfl⟩ | ⟨n, rfl, rfl⟩
    · exact Or.inl ⟨n, d, h1, h2, h3, h4, q1, e4⟩
    · exact Or.inr ⟨n, 2, p + 4, _, n, by omega, by omega, by omega, q1, e4⟩
  · right
    refine ⟨0, 1, p, nI p, n0, by omega, by omega, by omega, ?_, ?_⟩
    · refine zlp_out ?_
      dsimp +instances only [f_tx_number_4, b_tx_number_4]
      rw [e1.1, e1.2]
      dsimp +instances only [zl, zg]
      rcases d2 with d2 | ⟨d2, d3⟩
      · rw [d2]; rfl
      · rw [d2, d3]; rfl
    · unfold q_md_readsWithin
      rw [e3.1, e3.2, d1]
      rfl
theorem d_num4F {f : Int32} (hf : f ≠ 0) (a1 : Nat → Int32) (L fp ps : Int32) : q_tx_number 4 a1 L f fp ps = some (0, f, fp, ps) := by
  have e := d_signF hf ps L a1
  refine zlp_out ?_
  dsimp +instances only [f_tx_number_4, b_tx_number_4]
  rw [e.1, e.2]
  dsimp +instances only [zg, zl]
  simp only [cTt, cFf, show decide ((4 : Int32) < 0) = false from rfl, show decide ((-1 : Int32) < 48) = true from rfl, show decide ((0 : Int32) = 0) = true from rfl, nTt, d_failF hf, decide_true]
theorem d_bnd {a1 a70 : Nat → Int32} (h : RT a1 a70) {L p hi : Nat} (hL : L ≤ 260) (hp : p ≤ L) (hh : hi < 100000) (fp F9 n0 : Int32) :
    (∃ n d, 1 ≤ d ∧ d ≤ 4 ∧ n ≤ hi ∧ p + d ≤ L ∧ q_od_readBounded (nI hi) a1 (nI L) 0 fp (nI p) = some (nI n, 0, fp, nI (p + d)) ∧ q_md_readsWithin (nI hi) a70 (nI p) (nI L) F9 n0 = some (1, nI (p + d), F9, nI n)) ∨
    (∃ v k pl ps n', 1 ≤ k ∧ k ≤ 3 ∧ pl ≤ 1000 ∧ q_od_readBounded (nI hi) a1 (nI L) 0 fp (nI p) = some (v, nI k, nI pl, ps) ∧ q_md_readsWithin (nI hi) a70 (nI p) (nI L) F9 n0 = some (0, ps, f0_md_wrongAt (nI k) (nI pl), n')) := by
  unfold q_od_readBounded
  rcases d_num4 h hL hp hh fp F9 n0 with ⟨n, d, h1, h2, h3, h4, q1, q2⟩ | ⟨v, k, pl, ps, n', h1, h2, h3, q1, q2⟩
  · rw [q1, q2]
    dsimp +instances only [zbd]
    rw [nI_dle (by omega) (by omega)]
    by_cases hn : n ≤ hi
    · rw [dT hn]
      exact Or.inl ⟨n, d, h1, h2, hn, h4, rfl, rfl⟩
    · rw [dF hn]
      exact Or.inr ⟨_, 3, p, _, _, by omega, by omega, by omega, rfl, rfl⟩
  · rw [q1, q2]
    dsimp +instances only [zbd, zl]
    simp only [d_failF (show nI k ≠ 0 from nI_ne0 (by omega) (by omega))]
    refine Or.inr ⟨v, k, pl, ps, n', h1, by omega, h3, ?_, rfl⟩
    cases decide (v ≤ nI hi) <;> rfl
theorem d_bndF {f : Int32} (hf : f ≠ 0) {hi : Nat} (hh : hi < 100000) (a1 : Nat → Int32) (L fp ps : Int32) : q_od_readBounded (nI hi) a1 L f fp ps = some (0, f, fp, ps) := by
  unfold q_od_readBounded
  rw [d_num4F hf]
  dsimp +instances only [zbd]
  rw [nI_nn (by omega)]
  rfl
theorem d_expF {f : Int32} (hf : f ≠ 0) {c : Nat} (hc : c < 100000) (a1 : Nat → Int32) (L fp ps : Int32) : g_tx_expect (nI c) f ps L a1 fp = true ∧ f0_tx_expect (nI c) f ps L a1 fp = f ∧ f1_tx_expect (nI c) f ps L a1 fp = fp ∧ f2_tx_expect (nI c) f ps L a1 fp = ps := by
  have e := d_signF hf ps L a1
  unfold g_tx_expect f0_tx_expect f1_tx_expect f2_tx_expect
  rw [e.1, e.2, dF (show ¬ (-1 : Int32) = nI c from fun q => nI_nem1 (by omega) q.symm), (d_failF hf 1 ps fp).1, (d_failF hf 1 ps fp).2]
  exact ⟨rfl, rfl, rfl, rfl⟩
/-- a sign is asked for -/
theorem d_exp {a1 a70 : Nat → Int32} (h : RT a1 a70) {L p c : Nat} (hL : L ≤ 260) (hp : p < 100000) (hc : c < 100000) (fp F9 : Int32) :
    (sg a1 L p = nI c ∧ p < L ∧ g_tx_expect (nI c) 0 (nI p) (nI L) a1 fp = true ∧ f0_tx_expect (nI c) 0 (nI p) (nI L) a1 fp = 0 ∧ f1_tx_expect (nI c) 0 (nI p) (nI L) a1 fp = fp ∧ f2_tx_expect (nI c) 0 (nI p) (nI L) a1 fp = nI (p + 1) ∧
      g_md_takes (nI c) (nI L) (nI p) a70 F9 = true ∧ w_md_takes (nI c) (nI L) (nI p) a70 F9 = 1 ∧ f0_md_takes (nI c) (nI L) (nI p) a70 F9 = nI (p + 1) ∧ f1_md_takes (nI c) (nI L) (nI p) a70 F9 = F9) ∨
    (sg a1 L p ≠ nI c ∧ g_tx_expect (nI c) 0 (nI p) (nI L) a1 fp = true ∧ f0_tx_expect (nI c) 0 (nI p) (nI L) a1 fp = 1 ∧ f1_tx_expect (nI c) 0 (nI p) (nI L) a1 fp = nI p ∧ f2_tx_expect (nI c) 0 (nI p) (nI L) a1 fp = nI p ∧
      g_md_takes (nI c) (nI L) (nI p) a70 F9 = true ∧ w_md_takes (nI c) (nI L) (nI p) a70 F9 = 0 ∧ f0_md_takes (nI c) (nI L) (nI p) a70 F9 = nI p ∧ f1_md_takes (nI c) (nI L) (nI p) a70 F9 = f0_md_wrongAt 1 (nI p)) := by
  have e := d_sign (a := a1) hL (show p < 1000000 by omega)
  have e' := d_here h hL (show p < 1000000 by omega)
  unfold g_tx_expect f0_tx_expect f1_tx_expect f2_tx_expect g_md_takes w_md_takes f0_md_takes f1_md_takes
  rw [e.1, e.2, e'.1, e'.2, nI_1]
  by_cases hs : sg a1 L p = nI c
  · have hin : p < L := sg_in (by rw [hs]; exact nI_nem1 (by omega))
    rw [dT hs]
    exact Or.inl ⟨hs, hin, rfl, rfl, rfl, rfl, rfl, rfl, rfl, rfl⟩
  · rw [dF hs]
    exact Or.inr ⟨hs, rfl, rfl, rfl, rfl, rfl, rfl, rfl, rfl⟩
/-- X , Y -/
theorem d_spot {a1 a70 : Nat → Int32} (h : RT a1 a70) {L p : Nat} (hL : L ≤ 260) (hp : p ≤ L) (fp F9 n0 s0 : Int32) :
    (∃ s p' n', s < 96 ∧ p' ≤ L ∧ q_od_readPlace a1 (nI L) 0 fp (nI p) = some (nI s, 0, fp, nI p') ∧ q_md_readsSpot a70 (nI p) (nI L) F9 n0 s0 = some (1, nI p', F9, n', nI s, nI p)) ∨
    (∃ v k pl ps ps' n' s1 s2, 1 ≤ k ∧ k ≤ 3 ∧ pl ≤ 1000 ∧ q_od_readPlace a1 (nI L) 0 fp (nI p) = some (v, nI k, nI pl, ps) ∧ q_md_readsSpot a70 (nI p) (nI L) F9 n0 s0 = some (0, ps', f0_md_wrongAt (nI k) (nI pl), n', s1, s2)) := by
  unfold q_od_readPlace q_md_readsSpot
  rcases d_bnd h hL hp (hi := 11) (by omega) fp F9 n0 with ⟨n, d, h1, h2, h3, h4, q1, q2⟩ | ⟨v, k, pl, ps, n', h1, h2, h3, q1, q2⟩
  · rw [show q_od_readBounded 11 a1 (nI L) 0 fp (nI p) = _ from q1, show q_md_readsWithin 11 a70 (nI p) (nI L) F9 n0 = _ from q2]
    dsimp +instances only [zbd]
    simp only [show decide ((1 : Int32) = 0) = false from rfl, nFf, cTt]
    rcases d_exp h (p := p + d) (c := 44) hL (by omega) (by omega) fp F9 with ⟨-, hin, c1, c2, c3, c4, m1, m2, m3, m4⟩ | ⟨-, c1, c2, c3, c4, m1, m2, m3, m4⟩
    · rw [show g_tx_expect 44 0 (nI (p + d)) (nI L) a1 fp = true from c1, show f0_tx_expect 44 0 (nI (p + d)) (nI L) a1 fp = 0 from c2, show f1_tx_expect 44 0 (nI (p + d)) (nI L) a1 fp = fp from c3, show f2_tx_expect 44 0 (nI (p + d)) (nI L) a1 fp = nI (p + d + 1) from c4, show g_md_takes 44 (nI L) (nI (p + d)) a70 F9 = true from m1, show w_md_takes 44 (nI L) (nI (p + d)) a70 F9 = 1 from m2, show f0_md_takes 44 (nI L) (nI (p + d)) a70 F9 = nI (p + d + 1) from m3, show f1_md_takes 44 (nI L) (nI (p + d)) a70 F9 = F9 from m4]
      dsimp +instances only [zl, zg]
      simp only [cTt, show decide ((1 : Int32) = 0) = false from rfl, cFf]
      rcases d_bnd h hL (p := p + d + 1) (by omega) (hi := 7) (by omega) fp F9 (nI n) with ⟨n2, d2, g1, g2, g3, g4, r1, r2⟩ | ⟨v, k, pl, ps, n', g1, g2, g3, r1, r2⟩
      · rw [show q_od_readBounded 7 a1 (nI L) 0 fp (nI (p + d + 1)) = _ from r1, show q_md_readsWithin 7 a70 (nI (p + d + 1)) (nI L) F9 (nI n) = _ from r2]
        left
        refine ⟨12 * n2 + n, p + d + 1 + d2, nI n2, by omega, by omega, ?_, ?_⟩
        · simp only [zbd]
          rw [show (12 : Int32) = nI 12 from rfl, pk_mul, nI_add]
        · simp only [zbd, show decide ((1 : Int32) = 0) = false from rfl, nFf, cTt]
          rw [show (12 : Int32) = nI 12 from rfl, pk_mul, nI_add]
      · rw [show q_od_readBounded 7 a1 (nI L) 0 fp (nI (p + d + 1)) = _ from r1, show q_md_readsWithin 7 a70 (nI (p + d + 1)) (nI L) F9 (nI n) = _ from r2]
        right
        exact ⟨_, k, pl, _, _, _, _, _, g1, g2, g3, rfl, rfl⟩
    · rw [show g_tx_expect 44 0 (nI (p + d)) (nI L) a1 fp = true from c1, show f0_tx_expect 44 0 (nI (p + d)) (nI L) a1 fp = 1 from c2, show f1_tx_expect 44 0 (nI (p + d)) (nI L) a1 fp = nI (p + d) from c3, show f2_tx_expect 44 0 (nI (p + d)) (nI L) a1 fp = nI (p + d) from c4, show g_md_takes 44 (nI L) (nI (p + d)) a70 F9 = true from m1, show w_md_takes 44 (nI L) (nI (p + d)) a70 F9 = 0 from m2, show f0_md_takes 44 (nI L) (nI (p + d)) a70 F9 = nI (p + d) from m3, show f1_md_takes 44 (nI L) (nI (p + d)) a70 F9 = f0_md_wrongAt 1 (nI (p + d)) from m4]
      dsimp +instances only [zl, zg]
      simp only [cTt]
      rw [show q_od_readBounded 7 a1 (nI L) 1 (nI (p + d)) (nI (p + d)) = _ from d_bndF (by decide) (hi := 7) (by omega) a1 (nI L) (nI (p + d)) (nI (p + d))]
      right
      exact ⟨_, 1, p + d, _, _, _, _, _, by omega, by omega, by omega, rfl, rfl⟩
  · have hk0 : nI k ≠ 0 := nI_ne0 (by omega) (by omega)
    have hx := d_expF hk0 (c := 44) (by omega) a1 (nI L) (nI pl) ps
    rw [show q_od_readBounded 11 a1 (nI L) 0 fp (nI p) = _ from q1, show q_md_readsWithin 11 a70 (nI p) (nI L) F9 n0 = _ from q2]
    dsimp +instances only [zbd]
    rw [show g_tx_expect 44 (nI k) ps (nI L) a1 (nI pl) = true from hx.1, show f0_tx_expect 44 (nI k) ps (nI L) a1 (nI pl) = nI k from hx.2.1, show f1_tx_expect 44 (nI k) ps (nI L) a1 (nI pl) = nI pl from hx.2.2.1, show f2_tx_expect 44 (nI k) ps (nI L) a1 (nI pl) = ps from hx.2.2.2]
    dsimp +instances only [zl, zg]
    simp only [cTt]
    rw [show q_od_readBounded 7 a1 (nI L) (nI k) (nI pl) ps = _ from d_bndF hk0 (hi := 7) (by omega) a1 (nI L) (nI pl) ps]
    right
    exact ⟨_, k, pl, _, _, _, _, _, h1, h2, h3, rfl, rfl⟩
