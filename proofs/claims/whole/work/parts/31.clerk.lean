/-! ===== D: what is reckoned from the tape alone ===== -/
/-- the tape, as both have it -/
def RT (a1 a70 : Nat → Int32) : Prop := ∀ k, k < 260 → a1 k = a70 k &&& 255
theorem oct {a1 a70 : Nat → Int32} (h : RT a1 a70) {k : Nat} (hk : k < 260) : g_md_octet (nI k) a70 = true ∧ w_md_octet (nI k) a70 = a1 k := by
  unfold g_md_octet w_md_octet
  refine ⟨by rw [nI_zin (by omega)]; exact dT hk, by rw [nI_cl (by omega), h k hk]⟩
theorem d_oddsOf {a1 a70 : Nat → Int32} (h : RT a1 a70) {n : Nat} (hn : n ≤ 8) (y c : Int32) : ∃ v, q_cl_oddsOf (nI n) y a1 = some v ∧ l_md_premium_44 (nI n) y a70 c 0 1 0 = some (v, c) := by
  obtain ⟨r, r', h1, h2, h3⟩ := zlp_rel (f := f_cl_oddsOf_8 (nI n) y a1) (g := f_md_premium_44 (nI n) y a70 c) (fun m s t => s = t ∧ ∃ k, k + m = n ∧ s.2.2 = nI k) (fun r r' => r' = (r, c)) (by
    rintro m ⟨s1, s2, s3⟩ t ⟨rfl, k, hk, hs⟩
    have hs : s3 = nI k := hs
    subst hs
    simp only [f_cl_oddsOf_8, f_md_premium_44, b_cl_oddsOf_8, b_md_premium_44]
    by_cases hkn : k = n
    · subst hkn
      right
      simp (disch := omega) only [nI_dle, dT, cond_true]
      cases decide (y = 0) with
      | true => exact ⟨_, _, rfl, rfl, rfl⟩
      | false => exact ⟨_, _, rfl, rfl, rfl⟩
    · have e2 : (2 : Int32) * nI k = nI (2 * k) := by rw [show (2 : Int32) = nI 2 from rfl, pk_mul]
      have o1 := oct h (k := 2 * k) (by omega)
      have o2 := oct h (k := 2 * k + 1) (by omega)
      simp (disch := omega) only [e2, nI_1, nI_dle, dF, cond_false, nI_zin, nI_cl, dT, o1, o2, zg, zl, cond_true]
      cases decide (a1 (2 * k + 1) ≤ 10) with
      | true =>
        left
        exact ⟨m - 1, _, _, by omega, rfl, rfl, rfl, k + 1, by omega, rfl⟩
      | false =>
        right
        exact ⟨_, _, rfl, rfl, rfl⟩) n (0, 1, 0) (0, 1, 0) ⟨rfl, 0, by omega, rfl⟩
  subst h3
  exact ⟨r, h1, h2⟩
theorem d_premium {a1 a70 : Nat → Int32} (h : RT a1 a70) (x y f : Int32) : ∃ v f', q_if_premium x y a1 f = some (v, f') ∧ q_md_premium x y a70 f = some (v, f') ∧ (f' = f ∨ f' = 0) := by
  unfold q_if_premium q_md_premium
  rcases d_within x (a := 1) (b := 8) (by omega) (by omega) with ⟨e1, e2⟩ | ⟨e1, e2, n, rfl, hn1, hn2⟩
  · refine ⟨-1, f, ?_, ?_, Or.inl rfl⟩
    · rw [show w_if_isWithin x 1 8 = 0 from e1]; rfl
    · rw [show w_md_in x 1 8 = 0 from e2]; rfl
  rw [show w_if_isWithin (nI n) 1 8 = 1 from e1, show w_md_in (nI n) 1 8 = 1 from e2]
  rcases d_within y (a := 0) (b := 1) (by omega) (by omega) with ⟨e1, e2⟩ | ⟨e1, e2, m, rfl, hm1, hm2⟩
  · refine ⟨-1, f, ?_, ?_, Or.inl rfl⟩
    · rw [show w_if_isWithin y 0 1 = 0 from e1]; rfl
    · rw [show w_md_in y 0 1 = 0 from e2]; rfl
  rw [show w_if_isWithin (nI m) 0 1 = 1 from e1, show w_md_in (nI m) 0 1 = 1 from e2]
  obtain ⟨v, h1, h2⟩ := d_oddsOf h (n := n) hn2 (nI m) 0
  cases hf : decide (2 * nI n ≤ f) with
  | true =>
    refine ⟨v, 0, ?_, ?_, Or.inr rfl⟩
    · simp only [zl, hf, h1, zbd, cond_true]; rfl
    · simp only [zl, hf, h2, cond_true]; rfl
  | false =>
    refine ⟨-1, f, ?_, ?_, Or.inl rfl⟩
    · simp only [zl, hf, cond_false]; rfl
    · simp only [zl, hf, cond_false]; rfl
/-! insure -/
def sm (a : Nat → Int32) (z : Int32) (u : Nat) : Nat → Int32
  | 0 => 0
  | n + 1 => bif bt z n then sm a z u n + a (2 * n + u) else sm a z u n
theorem sm_succ (a : Nat → Int32) (z : Int32) (u n : Nat) : sm a z u (n + 1) = bif bt z n then sm a z u n + a (2 * n + u) else sm a z u n := rfl
theorem d_sumOf (a : Nat → Int32) (z : Int32) {n u : Nat} (hn : n ≤ 10) (hu : u ≤ 1) : q_cl_sumOf (nI n) z (nI u) a = some (sm a z u n) := by
  obtain ⟨r, h1, h2⟩ := zlp_one (f := f_cl_sumOf_6 (nI n) z (nI u) a) (fun m s => ∃ k, k + m = n ∧ s = (sm a z u k, nI k)) (fun r => r = sm a z u n) (by
    rintro m s ⟨k, hk, rfl⟩
    simp only [f_cl_sumOf_6, b_cl_sumOf_6]
    by_cases hkn : k = n
    · subst hkn
      right
      simp (disch := omega) only [nI_dle, dT, cond_true]
      exact ⟨_, rfl, rfl⟩
    · left
      have e2 : (2 : Int32) * nI k + nI u = nI (2 * k + u) := by rw [show (2 : Int32) = nI 2 from rfl, pk_mul, nI_add]
      refine ⟨m - 1, (sm a z u (k + 1), nI (k + 1)), by omega, ?_, k + 1, by omega, rfl⟩
      simp (disch := omega) only [e2, ubit, nI_1, nI_dle, dF, cond_false, nI_zin, nI_cl, dT, zg, cond_true]
      rw [sm_succ]
      cases bt z k <;> rfl) n (0, 0) ⟨0, by omega, rfl⟩
  subst h2
  exact h1
theorem d_mins {a1 a70 : Nat → Int32} (h : RT a1 a70) {n : Nat} (hn : n ≤ 10) (y l4 l5 l6 l7 : Int32) : l_md_insure_76 (nI n) y a70 l4 l5 l6 l7 0 0 0 = some (.inl (
    bif decide (y < sm a1 l7 1 n) then (l4, l5, l6, l7 + 1) else bif decide (sm a1 l7 0 n < l5) then (l4, l5, l6, l7 + 1) else bif !decide (sm a1 l7 0 n = l5) then (l7, sm a1 l7 0 n, sm a1 l7 1 n, l7 + 1) else bif decide (sm a1 l7 1 n < l6) then (l7, sm a1 l7 0 n, sm a1 l7 1 n, l7 + 1) else (l4, l5, l6, l7 + 1))) := by
  obtain ⟨r, h1, h2⟩ := zlp_one (f := f_md_insure_76 (nI n) y a70 l4 l5 l6 l7) (fun m s => ∃ k, k + m = n ∧ s = (sm a1 l7 0 k, sm a1 l7 1 k, nI k)) (fun r => r = .inl (
    bif decide (y < sm a1 l7 1 n) then (l4, l5, l6, l7 + 1) else bif decide (sm a1 l7 0 n < l5) then (l4, l5, l6, l7 + 1) else bif !decide (sm a1 l7 0 n = l5) then (l7, sm a1 l7 0 n, sm a1 l7 1 n, l7 + 1) else bif decide (sm a1 l7 1 n < l6) then (l7, sm a1 l7 0 n, sm a1 l7 1 n, l7 + 1) else (l4, l5, l6, l7 + 1))) (by
    rintro m s ⟨k, hk, rfl⟩
    simp only [f_md_insure_76, b_md_insure_76]
    by_cases hkn : k = n
    · subst hkn
      right
      simp (disch := omega) only [nI_dle, dT, cond_true]
      cases decide (y < sm a1 l7 1 k) <;> cases decide (sm a1 l7 0 k < l5) <;> cases decide (sm a1 l7 0 k = l5) <;> cases decide (sm a1 l7 1 k < l6) <;> exact ⟨_, rfl, rfl⟩
    · left
      have e2 : (2 : Int32) * nI k = nI (2 * k) := by rw [show (2 : Int32) = nI 2 from rfl, pk_mul]
      have o1 := oct h (k := 2 * k) (by omega)
      have o2 := oct h (k := 2 * k + 1) (by omega)
      refine ⟨m - 1, (sm a1 l7 0 (k + 1), sm a1 l7 1 (k + 1), nI (k + 1)), by omega, ?_, k + 1, by omega, rfl⟩
      simp (disch := omega) only [e2, hbit, nI_1, nI_dle, dF, cond_false, o1, o2, zg, zl, cond_true]
      rw [sm_succ, sm_succ]
      cases bt l7 k <;> rfl) n (0, 0, 0) ⟨0, by omega, rfl⟩
  subst h2
  exact h1
theorem d_best {a1 a70 : Nat → Int32} (h : RT a1 a70) {n : Nat} (hn : n ≤ 10) (y z c : Int32) : ∃ b, q_cl_bestPolicies (nI n) y a1 = some b ∧ l_md_insure_59 (nI n) y z a70 c 0 0 0 1 = some (bif !decide (z = 0) then (bif !decide (z = 1) then b else sm a1 b 1 n) else sm a1 b 0 n, c) := by
  have hp : 2 ^ n ≤ 1024 := by
    have := Nat.pow_le_pow_right (n := 2) (by omega) hn
    omega
  have hp1 : 1 ≤ 2 ^ n := Nat.one_le_two_pow
  have z0 : ∀ u m, sm a1 0 u m = 0 := by
    intro u m
    induction m with
    | zero => rfl
    | succ m ih => rw [sm_succ, b_0]; exact ih
  obtain ⟨r, r', h1, h2, h3⟩ := zlp_rel (f := f_cl_bestPolicies_11 (nI n) y a1) (g := f_md_insure_59 (nI n) y z a70 c) (fun m s t => s = t ∧ ∃ b k, k + m = 2 ^ n ∧ s = (b, sm a1 b 0 n, sm a1 b 1 n, nI k)) (fun r r' => r' = (bif !decide (z = 0) then (bif !decide (z = 1) then r else sm a1 r 1 n) else sm a1 r 0 n, c)) (by
    rintro m s t ⟨rfl, b, k, hk, rfl⟩
    simp only [f_cl_bestPolicies_11, f_md_insure_59, b_cl_bestPolicies_11, b_md_insure_59]
    by_cases hkn : k = 2 ^ n
    · right
      simp (disch := omega) only [shl1, nI_dle, dT, cond_true]
      cases decide (z = 0) <;> cases decide (z = 1) <;> exact ⟨_, _, rfl, rfl, rfl⟩
    · left
      simp (disch := omega) only [shl1, nI_dle, dF, cond_false]
      rw [show (1 : Int32) = nI 1 from rfl, show q_cl_sumOf (nI n) (nI k) (nI 1) a1 = _ from d_sumOf a1 (nI k) hn (Nat.le_refl 1), show q_cl_sumOf (nI n) (nI k) 0 a1 = _ from d_sumOf a1 (nI k) (u := 0) hn (by omega), d_mins h hn]
      simp only [zbd, nI_add, show nI k + 1 = nI (k + 1) from nI_1 k]
      rcases d_tri (sm a1 (nI k) 1 n) y with ⟨a, b', c', d, e, f⟩ | ⟨a, b', c', d, e, f⟩ | ⟨-, a, b', c', d, e, f⟩ <;>
      rcases d_tri (sm a1 (nI k) 0 n) (sm a1 b 0 n) with ⟨g, h', i, j, k', l⟩ | ⟨g, h', i, j, k', l⟩ | ⟨-, g, h', i, j, k', l⟩ <;>
      rcases d_tri (sm a1 (nI k) 1 n) (sm a1 b 1 n) with ⟨o, p, q, r, s, t⟩ | ⟨o, p, q, r, s, t⟩ | ⟨-, o, p, q, r, s, t⟩ <;>
      simp only [a, b', c', d, e, f, g, h', i, j, k', l, o, p, q, r, s, t, cond_true, cond_false, Bool.not_true, Bool.not_false] <;>
      first
      | exact ⟨m - 1, _, _, by omega, rfl, rfl, rfl, b, k + 1, by omega, rfl⟩
      | exact ⟨m - 1, _, _, by omega, rfl, rfl, rfl, nI k, k + 1, by omega, rfl⟩) (2 ^ n - 1) (0, 0, 0, 1) (0, 0, 0, 1) ⟨rfl, 0, 1, by omega, by rw [z0, z0]; rfl⟩
  subst h3
  exact ⟨r, h1, h2⟩
theorem d_insure {a1 a70 : Nat → Int32} (h : RT a1 a70) (x y z f : Int32) : ∃ v f', q_if_insure x y z a1 f = some (v, f') ∧ q_md_insure x y z a70 f = some (v, f') ∧ (f' = f ∨ f' = 0) := by
  unfold q_if_insure q_md_insure
  rcases d_within x (a := 1) (b := 10) (by omega) (by omega) with ⟨e1, e2⟩ | ⟨e1, e2, n, rfl, hn1, hn2⟩
  · refine ⟨-1, f, ?_, ?_, Or.inl rfl⟩
    · rw [show w_if_isWithin x 1 10 = 0 from e1]
      simp only [zl]
      cases decide (w_if_isWithin y 0 2550 = 0) <;> cases decide (w_if_isWithin z 0 2 = 0) <;> rfl
    · rw [show w_md_in x 1 10 = 0 from e2]; rfl
  rw [show w_if_isWithin (nI n) 1 10 = 1 from e1, show w_md_in (nI n) 1 10 = 1 from e2]
  rcases d_within y (a := 0) (b := 2550) (by omega) (by omega) with ⟨e1, e2⟩ | ⟨e1, e2, -⟩
  · refine ⟨-1, f, ?_, ?_, Or.inl rfl⟩
    · rw [show w_if_isWithin y 0 2550 = 0 from e1]; rfl
    · rw [show w_md_in y 0 2550 = 0 from e2]; rfl
  rw [show w_if_isWithin y 0 2550 = 1 from e1, show w_md_in y 0 2550 = 1 from e2]
  rcases d_within z (a := 0) (b := 2) (by omega) (by omega) with ⟨e1, e2⟩ | ⟨e1, e2, m, rfl, hm1, hm2⟩
  · refine ⟨-1, f, ?_, ?_, Or.inl rfl⟩
    · rw [show w_if_isWithin z 0 2 = 0 from e1]; rfl
    · rw [show w_md_in z 0 2 = 0 from e2]; rfl
  rw [show w_if_isWithin (nI m) 0 2 = 1 from e1, show w_md_in (nI m) 0 2 = 1 from e2]
  cases hf : decide (2 * nI n ≤ f) with
  | true =>
    obtain ⟨b, h1, h2⟩ := d_best h hn2 y (nI m) 0
    refine ⟨(bif !decide (nI m = 0) then (bif !decide (nI m = 1) then b else sm a1 b 1 n) else sm a1 b 0 n), 0, ?_, ?_, Or.inr rfl⟩
    rotate_left
    · simp only [zl, hf, cond_true]; exact h2
    · simp only [zl, hf, h1, zbd, cond_true]
      have hm : m = 0 ∨ m = 1 ∨ m = 2 := by omega
      rcases hm with rfl | rfl | rfl
      · rw [show q_cl_sumOf (nI n) b (nI 0) a1 = _ from d_sumOf a1 b hn2 (by omega)]; rfl
      · rw [show q_cl_sumOf (nI n) b (nI 1) a1 = _ from d_sumOf a1 b hn2 (by omega)]; rfl
      · rfl
  | false =>
    refine ⟨-1, f, ?_, ?_, Or.inl rfl⟩
    · simp only [zl, hf, cond_false]; rfl
    · simp only [zl, hf, cond_false]; rfl
/-! round figures -/
def ds (m n : Nat) : Nat := (m - n) + (n - m)
theorem d_neg0 {d : Nat} (hd : d < 1073741824) : w_md_size (-nI d) = nI d ∧ (if 0 ≤ -nI d then -nI d else 0 - -nI d) = nI d := by
  have h1 := sb_negT (w := d) (by omega)
  have h2 : (0 - -nI d) = nI d := by rw [Int32.zero_sub, Int32.neg_neg]
  unfold w_md_size
  by_cases h : d = 0
  · subst h; decide
  · have h3 : ¬ (0 : Int32) ≤ -nI d := by
      rw [Int32.le_iff_toInt_le, h1]
      have : (0 : Int32).toInt = 0 := rfl
      omega
    rw [dF h3, if_neg h3]
    exact ⟨Int32.neg_neg, h2⟩
theorem d_pos0 {d : Nat} (hd : d < 1073741824) : w_md_size (nI d) = nI d ∧ (if 0 ≤ nI d then nI d else 0 - nI d) = nI d := by
  have h3 : (0 : Int32) ≤ nI d := nI_pos' (by omega)
  unfold w_md_size
  rw [dT h3, if_pos h3]
  exact ⟨rfl, rfl⟩
theorem d_abs {m n : Nat} (hm : m < 1073741824) (hn : n < 1073741824) : w_md_size (nI m - nI n) = nI (ds m n) ∧ (if 0 ≤ nI n - nI m then nI n - nI m else 0 - (nI n - nI m)) = nI (ds m n) := by
  rcases Nat.le_total m n with h | h
  · have e : ds m n = n - m := by unfold ds; omega
    have e1 : nI n - nI m = nI (n - m) := pk_sub h
    have e2 : nI m - nI n = -nI (n - m) := by rw [← e1, Int32.neg_sub]
    rw [e, e1, e2]
    exact ⟨(d_neg0 (by omega)).1, (d_pos0 (by omega)).2⟩
  · have e : ds m n = m - n := by unfold ds; omega
    have e1 : nI m - nI n = nI (m - n) := pk_sub h
    have e2 : nI n - nI m = -nI (m - n) := by rw [← e1, Int32.neg_sub]
    rw [e, e1, e2]
    exact ⟨(d_pos0 (by omega)).1, (d_neg0 (by omega)).2⟩
def nr (n b f : Nat) : Nat := bif decide (ds b n ≤ ds f n) then b else f
theorem d_nearer {n b f : Nat} (hn : n < 1000000000) (hb : b < 1000000000) (hf : f < 1000000000) : w_cl_nearer (nI n) (nI b) (nI f) = nI (nr n b f) := by
  unfold w_cl_nearer nr
  rw [(d_abs (m := b) (n := n) (by omega) (by omega)).2, (d_abs (m := f) (n := n) (by omega) (by omega)).2, nI_dle (by unfold ds; omega) (by unfold ds; omega)]
  cases decide (ds b n ≤ ds f n) <;> rfl
theorem nr_le {n b f M : Nat} (hb : b ≤ M) (hf : f ≤ M) : nr n b f ≤ M := by
  unfold nr
  cases decide (ds b n ≤ ds f n)
  · exact hf
  · exact hb
theorem d_figure {n : Nat} (hn : n ≤ 999999) : ∃ v, q_cl_nearestFigure (nI n) = some v ∧ l_md_roundFigure_17 (nI n) 1 1 = some v := by
  obtain ⟨r, r', h1, h2, h3⟩ := zlp_rel (f := f_cl_nearestFigure_4 (nI n)) (g := f_md_roundFigure_17 (nI n)) (fun m s t => s = t ∧ ∃ b k, k + m = 7 ∧ b ≤ 50000000 ∧ s = (nI b, nI (10 ^ k))) (fun r r' => r' = r) (by
    rintro m s t ⟨rfl, b, k, hk, hb, rfl⟩
    simp only [f_cl_nearestFigure_4, f_md_roundFigure_17, b_cl_nearestFigure_4, b_md_roundFigure_17]
    have hp : 10 ^ k ≤ 10 ^ 7 := Nat.pow_le_pow_right (by omega) (by omega)
    by_cases hkn : k = 7
    · subst hkn
      right
      rw [show (1000000 : Int32) = nI 1000000 from rfl]
      simp (disch := omega) only [nI_dlt, dT, cond_true]
      exact ⟨_, _, rfl, rfl, rfl⟩
    · left
      have hp6 : 10 ^ k ≤ 10 ^ 6 := Nat.pow_le_pow_right (by omega) (by omega)
      generalize hT : 10 ^ k = T at hp hp6
      have e2 : (2 : Int32) * nI T = nI (2 * T) := by rw [show (2 : Int32) = nI 2 from rfl, pk_mul]
      have e5 : (5 : Int32) * nI T = nI (5 * T) := by rw [show (5 : Int32) = nI 5 from rfl, pk_mul]
      have e10 : nI T * 10 = nI (10 ^ (k + 1)) := by rw [show (10 : Int32) = nI 10 from rfl, pk_mul, Nat.pow_succ, hT]
      have n1 := nr_le (n := n) (b := b) (f := T) (M := 50000000) hb (by omega)
      have n2 := nr_le (n := n) (b := nr n b T) (f := 2 * T) (M := 50000000) n1 (by omega)
      have n3 := nr_le (n := n) (b := nr n (nr n b T) (2 * T)) (f := 5 * T) (M := 50000000) n2 (by omega)
      refine ⟨m - 1, (nI (nr n (nr n (nr n b T) (2 * T)) (5 * T)), nI (10 ^ (k + 1))), _, by omega, ?_, ?_, rfl, _, k + 1, by omega, n3, rfl⟩
      · rw [show (1000000 : Int32) = nI 1000000 from rfl]
        simp (disch := omega) only [e2, e5, e10, nI_dlt, dF, cond_false, zl, d_nearer]
      · rw [show (1000000 : Int32) = nI 1000000 from rfl]
        have q1 := (d_abs (m := T) (n := n) (by omega) (by omega)).1
        have q2 := (d_abs (m := 2 * T) (n := n) (by omega) (by omega)).1
        have q5 := (d_abs (m := 5 * T) (n := n) (by omega) (by omega)).1
        have qb := (d_abs (m := b) (n := n) (by omega) (by omega)).1
        have l1 : ds T n < 2147483648 := by unfold ds; omega
        have l2 : ds (2 * T) n < 2147483648 := by unfold ds; omega
        have l5 : ds (5 * T) n < 2147483648 := by unfold ds; omega
        have lb : ds b n < 2147483648 := by unfold ds; omega
        simp (disch := omega) only [e2, e5, e10, nI_dlt, dF, cond_false, zl, q1, q2, q5, qb]
        simp only [nI_dle lb l1, nI_dle lb l2, nI_dle lb l5, nI_dle l1 l2, nI_dle l1 l5, nI_dle l2 l5]
        cases c1 : decide (ds b n ≤ ds T n) <;> cases c2 : decide (ds b n ≤ ds (2 * T) n) <;> cases c3 : decide (ds b n ≤ ds (5 * T) n) <;> cases c4 : decide (ds T n ≤ ds (2 * T) n) <;> cases c5 : decide (ds T n ≤ ds (5 * T) n) <;> cases c6 : decide (ds (2 * T) n ≤ ds (5 * T) n) <;>
          simp only [nr, c1, c2, c3, c4, c5, c6, cond_true, cond_false]) 7 (1, 1) (1, 1) ⟨rfl, 1, 0, by omega, by omega, rfl⟩
  subst h3
  exact ⟨_, h1, h2⟩
theorem d_roundFigure (x : Int32) : ∃ v, q_if_roundFigure x = some v ∧ q_md_roundFigure x = some v := by
  unfold q_if_roundFigure q_md_roundFigure
  rcases d_within x (a := 1) (b := 999999) (by omega) (by omega) with ⟨e1, e2⟩ | ⟨e1, e2, n, rfl, hn1, hn2⟩
  · refine ⟨-1, ?_, ?_⟩
    · rw [show w_if_isWithin x 1 999999 = 0 from e1]; rfl
    · rw [show w_md_in x 1 999999 = 0 from e2]; rfl
  · obtain ⟨v, h1, h2⟩ := d_figure hn2
    refine ⟨v, ?_, ?_⟩
    · rw [show w_if_isWithin (nI n) 1 999999 = 1 from e1]
      simp only [zl, h1, zbd]; rfl
    · rw [show w_md_in (nI n) 1 999999 = 1 from e2]
      simp only [zl, h2]; rfl
