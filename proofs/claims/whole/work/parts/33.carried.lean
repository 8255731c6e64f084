/-! carried -/
/-- two rows agree ahead of m, and hold numbers below m -/
def AG (m : Nat) (b c : Nat → Int32) : Prop := ∀ k, k < m → b k = c k ∧ ∃ t, t < m ∧ b k = nI t
theorem d_putIn {a1 a70 : Nat → Int32} (h : RT a1 a70) {i : Nat} (hi : i < 10) {b c : Nat → Int32} (hb : AG i b c) : ∃ b' c', q_cl_putInOrder (nI i) a1 b = some b' ∧ l_md_laysRow_9 a70 (nI i) (nI i) c = some (.inl (nI (i + 1), c')) ∧ AG (i + 1) b' c' := by
  have e3i : (3 : Int32) * nI i + 2 = nI (3 * i + 2) := by rw [show (3 : Int32) = nI 3 from rfl, show (2 : Int32) = nI 2 from rfl, pk_mul, nI_add]
  obtain ⟨r, r', h1, h2, c', rfl, h3⟩ := zlp_rel (f := f_cl_putInOrder_2 (nI i) a1) (g := f_md_laysRow_9 a70 (nI i)) (fun m s t => s.1 = nI m ∧ t.1 = nI m ∧ m ≤ i ∧ (∀ k, k ≤ i → k ≠ m → s.2 k = t.2 k ∧ ∃ q, q < i ∧ s.2 k = nI q)) (fun r r' => ∃ c', r' = .inl (nI (i + 1), c') ∧ AG (i + 1) r c') (by
    rintro m ⟨s1, s2⟩ ⟨t1, t2⟩ ⟨x1, x2, hm, xk⟩
    have e1 : s1 = nI m := x1
    have e2 : t1 = nI m := x2
    have hk : ∀ k, k ≤ i → k ≠ m → s2 k = t2 k ∧ ∃ q, q < i ∧ s2 k = nI q := xk
    clear x1 x2 xk
    subst e1 e2
    have fin : AG (i + 1) (zup s2 m (nI i)) (zup t2 m (nI i)) := by
      intro k hk1
      by_cases e : k = m
      · subst e
        rw [zup_same, zup_same]
        exact ⟨rfl, i, by omega, rfl⟩
      · rw [zup_ne e, zup_ne e]
        obtain ⟨g1, q, g2, g3⟩ := hk k (by omega) e
        exact ⟨g1, q, by omega, g3⟩
    simp only [f_cl_putInOrder_2, f_md_laysRow_9, b_cl_putInOrder_2, b_md_laysRow_9]
    by_cases hm0 : m = 0
    · right
      subst hm0
      simp (disch := omega) only [show decide (nI 0 ≤ 0) = true from rfl, nI_zin, dT, zg, cond_true, nI_cl, nI_1]
      exact ⟨_, _, rfl, rfl, _, rfl, fin⟩
    · obtain ⟨g1, q, g2, g3⟩ := hk (m - 1) (by omega) (by omega)
      have em : nI m - 1 = nI (m - 1) := by rw [show (1 : Int32) = nI 1 from rfl, pk_sub (by omega)]
      have em2 : nI m + (-1) = nI (m - 1) := sb_m1 (by omega)
      have e3 : (3 : Int32) * nI q + 2 = nI (3 * q + 2) := by rw [show (3 : Int32) = nI 3 from rfl, show (2 : Int32) = nI 2 from rfl, pk_mul, nI_add]
      have g4 : t2 (m - 1) = nI q := by rw [← g1]; exact g3
      have o1 := oct h (k := 3 * q + 2) (by omega)
      have o2 := oct h (k := 3 * i + 2) (by omega)
      have hz : decide (nI m ≤ 0) = false := dF (nI_nle (by omega) (by omega))
      simp (disch := omega) only [hz, em, em2, nI_cl, g3, g4, e3, e3i, nI_zin, dT, o1, o2, zg, zl, cond_true, cond_false, nI_1]
      cases decide (a1 (3 * q + 2) ≤ a1 (3 * i + 2)) with
      | true =>
        right
        exact ⟨_, _, rfl, rfl, _, rfl, fin⟩
      | false =>
        left
        refine ⟨m - 1, _, _, by omega, rfl, rfl, rfl, rfl, by omega, fun k hk1 hk2 => ?_⟩
        show zup s2 m (nI q) k = zup t2 m (nI q) k ∧ ∃ w, w < i ∧ zup s2 m (nI q) k = nI w
        by_cases e : k = m
        · subst e
          rw [zup_same, zup_same]
          exact ⟨rfl, q, g2, rfl⟩
        · rw [zup_ne e, zup_ne e]
          exact hk k hk1 e) i (nI i, b) (nI i, c) ⟨rfl, rfl, Nat.le_refl i, fun k hk1 hk2 => hb k (by omega)⟩
  exact ⟨r, c', h1, h2, h3⟩
theorem d_worth {a1 a70 : Nat → Int32} (h : RT a1 a70) {n : Nat} (hn : n ≤ 10) {b c : Nat → Int32} (hb : AG n b c) (z : Int32) : ∃ v, q_cl_worthInTime (nI n) z a1 b = some v ∧ q_md_worthOf z (nI n) a70 c = some v := by
  obtain ⟨r, r', h1, h2, h3⟩ := zlp_rel (f := f_cl_worthInTime_9 (nI n) z a1 b) (g := f_md_worthOf_8 z (nI n) a70 c) (fun m s t => ∃ w cl k, k + m = n ∧ s = (w, cl, nI k) ∧ t = (cl, w, nI k)) (fun r r' => r = r') (by
    rintro m s t ⟨w, cl, k, hk, rfl, rfl⟩
    simp only [f_cl_worthInTime_9, f_md_worthOf_8, b_cl_worthInTime_9, b_md_worthOf_8]
    by_cases hkn : k = n
    · right
      simp (disch := omega) only [nI_dle, dT, cond_true]
      exact ⟨_, _, rfl, rfl, rfl⟩
    · obtain ⟨g1, q, g2, g3⟩ := hb k (by omega)
      have g4 : c k = nI q := by rw [← g1]; exact g3
      have e3 : (3 : Int32) * nI q = nI (3 * q) := by rw [show (3 : Int32) = nI 3 from rfl, pk_mul]
      have e32 : nI (3 * q) + 2 = nI (3 * q + 2) := by rw [show (2 : Int32) = nI 2 from rfl, nI_add]
      have o0 := oct h (k := 3 * q) (by omega)
      have o1 := oct h (k := 3 * q + 1) (by omega)
      have o2 := oct h (k := 3 * q + 2) (by omega)
      simp (disch := omega) only [nI_dle, dF, nI_cl, g3, g4, e3, e32, nI_1, nI_zin, dT, o0, o1, o2, zg, zl, cond_true, cond_false, ubit, hbit]
      cases bt z q with
      | false =>
        left
        exact ⟨m - 1, _, _, by omega, rfl, rfl, w, cl, k + 1, by omega, rfl, rfl⟩
      | true =>
        simp only [Bool.not_true, cond_false, cond_true, show decide ((1 : Int32) = 0) = false from rfl, Bool.not_false]
        cases decide (cl + a1 (3 * q) ≤ a1 (3 * q + 2)) with
        | true =>
          left
          exact ⟨m - 1, _, _, by omega, rfl, rfl, _, _, k + 1, by omega, rfl, rfl⟩
        | false =>
          right
          exact ⟨_, _, rfl, rfl, rfl⟩) n (0, 0, 0) (0, 0, 0) ⟨0, 0, 0, by omega, rfl, rfl⟩
  subst h3
  exact ⟨r, h1, h2⟩
theorem d_max (x y : Int32) : (if x < y then y else x) = w_md_max x y := by
  unfold w_md_max
  rcases d_tri x y with ⟨a, b, c, d, e, f⟩ | ⟨a, b, c, d, e, f⟩ | ⟨rfl, a, b, c, d, e, f⟩
  · rw [if_pos (of_decide_eq_true a), e]; rfl
  · rw [if_neg (of_decide_eq_false a), e]; rfl
  · rw [if_neg (of_decide_eq_false a), e]; rfl
theorem d_mostLoop {a1 a70 : Nat → Int32} (h : RT a1 a70) {n : Nat} (hn : n ≤ 10) {b c : Nat → Int32} (hb : AG n b c) (f : Int32) : ∃ v, l_cl_mostCarried_46 (nI n) a1 b 0 1 = some (v, b) ∧ l_md_carried_68 (nI n) a70 c f 0 0 = some (v, c, f) := by
  have hp : 2 ^ n ≤ 1024 := by
    have := Nat.pow_le_pow_right (n := 2) (by omega) hn
    omega
  have hp1 : 1 ≤ 2 ^ n := Nat.one_le_two_pow
  obtain ⟨r, r', h1, h2, v, rfl, rfl⟩ := zlp_rel (f := f_cl_mostCarried_46 (nI n) a1 b) (g := f_md_carried_68 (nI n) a70 c f) (fun m s t => s = t ∧ ∃ v k, k + m = 2 ^ n ∧ s = (v, nI k)) (fun r r' => ∃ v, r = (v, b) ∧ r' = (v, c, f)) (by
    rintro m s t ⟨rfl, v, k, hk, rfl⟩
    simp only [f_cl_mostCarried_46, f_md_carried_68, b_cl_mostCarried_46, b_md_carried_68]
    by_cases hkn : k = 2 ^ n
    · right
      simp (disch := omega) only [shl1, nI_dle, dT, cond_true]
      exact ⟨_, _, rfl, rfl, v, rfl, rfl⟩
    · left
      obtain ⟨w, q1, q2⟩ := d_worth h hn hb (nI k)
      simp (disch := omega) only [shl1, nI_dle, dF, cond_false, q1, q2, zbd, zl, nI_1]
      exact ⟨m - 1, _, _, by omega, rfl, rfl, by rw [d_max], _, k + 1, by omega, rfl⟩) (2 ^ n - 1) (0, 1) (0, 1) ⟨rfl, 0, 1, by omega, rfl⟩
  refine ⟨v, h1, ?_⟩
  have hs : f_md_carried_68 (nI n) a70 c f (0, 0) = some (.inl (0, 1)) := by
    simp only [f_md_carried_68, b_md_carried_68]
    have q : q_md_worthOf 0 (nI n) a70 c = some 0 := by
      obtain ⟨r, h1, h2⟩ := zlp_one (f := f_md_worthOf_8 0 (nI n) a70 c) (fun m s => ∃ k, k + m = n ∧ s = (0, 0, nI k)) (fun r => r = 0) (by
        rintro m s ⟨k, hk, rfl⟩
        simp only [f_md_worthOf_8, b_md_worthOf_8]
        by_cases hkn : k = n
        · right
          simp (disch := omega) only [nI_dle, dT, cond_true]
          exact ⟨_, rfl, rfl⟩
        · obtain ⟨g1, q, g2, g3⟩ := hb k (by omega)
          have g4 : c k = nI q := by rw [← g1]; exact g3
          left
          simp (disch := omega) only [nI_dle, dF, nI_cl, g4, nI_1, nI_zin, dT, zg, zl, cond_true, cond_false, hbit, b_0]
          exact ⟨m - 1, _, by omega, rfl, k + 1, by omega, rfl⟩) n (0, 0, 0) ⟨0, by omega, rfl⟩
      subst h2
      exact h1
    rw [q, shl1 n (by omega), show (0 : Int32) = nI 0 from rfl, nI_dle (by omega) (by omega), dF (by omega)]
    rfl
  show zlp (f_md_carried_68 (nI n) a70 c f) (0, 0) = _
  rw [zlp_in hs]
  exact h2
def goodI (x : Int32) : Bool := !decide (x < 1) && decide (x ≤ 60)
theorem d_goodI (x : Int32) : w_md_in x 1 60 = bif goodI x then 1 else 0 := by
  unfold w_md_in goodI
  rcases d_tri x 60 with ⟨a, b, c, d, e, f⟩ | ⟨a, b, c, d, e, f⟩ | ⟨-, a, b, c, d, e, f⟩ <;> rw [b, e] <;> cases decide (x < 1) <;> rfl
theorem d_carriedL {a1 a70 : Nat → Int32} (h : RT a1 a70) {n : Nat} (hn : n ≤ 10) (b c : Nat → Int32) (f : Int32) : ∃ v b' c', q_cl_mostCarried (nI n) a1 b = some (v, b') ∧ l_md_carried_29 (nI n) a70 c f 0 = some (v, c', f) := by
  have e3 : ∀ k, (3 : Int32) * nI k = nI (3 * k) := fun k => by rw [show (3 : Int32) = nI 3 from rfl, pk_mul]
  by_cases hg : ∀ i, i < n → goodI (a1 (3 * i)) = true
  · -- all are good
    obtain ⟨r, r', h1, h2, v, b', h3, h4, h5⟩ := zlp_rel (f := f_cl_mostCarried_2 (nI n) a1) (g := f_md_laysRow_2 (nI n) a70) (fun m s t => ∃ k b c, k + m = n ∧ s = (nI k, b) ∧ t = (nI k, c) ∧ AG k b c) (fun r r' => ∃ v b', r = (v, b') ∧ AG n b' r' ∧ ∀ f, l_md_carried_68 (nI n) a70 r' f 0 0 = some (v, r', f)) (by
      rintro m s t ⟨k, b, c, hk, rfl, rfl, hb⟩
      simp only [f_cl_mostCarried_2, f_md_laysRow_2, b_cl_mostCarried_2, b_md_laysRow_2]
      by_cases hkn : k = n
      · right
        subst hkn
        have hv : ∃ v, l_cl_mostCarried_46 (nI k) a1 b 0 1 = some (v, b) ∧ ∀ f, l_md_carried_68 (nI k) a70 c f 0 0 = some (v, c, f) := by
          obtain ⟨v, q1, -⟩ := d_mostLoop h hn hb 0
          refine ⟨v, q1, fun f => ?_⟩
          obtain ⟨v', q3, q4⟩ := d_mostLoop h hn hb f
          rw [q1] at q3
          have : v = v' := by cases q3; rfl
          rw [this]
          exact q4
        obtain ⟨v, q1, q2⟩ := hv
        simp (disch := omega) only [nI_dle, dT, cond_true, q1, zbd]
        exact ⟨_, _, rfl, rfl, v, b, rfl, hb, q2⟩
      · left
        obtain ⟨b', c', q1, q2, q3⟩ := d_putIn h (i := k) (by omega) hb
        have hgk := hg k (by omega)
        unfold goodI at hgk
        rw [Bool.and_eq_true] at hgk
        have g1 : decide (a1 (3 * k) < 1) = false := by simpa using hgk.1
        simp (disch := omega) only [nI_dle, dF, cond_false, e3, nI_zin, nI_cl, dT, zg, cond_true, g1, hgk.2, q1, q2, zbd, nI_1]
        exact ⟨m - 1, _, _, by omega, rfl, rfl, k + 1, b', c', by omega, rfl, rfl, q3⟩) n (0, b) (0, c) ⟨0, b, c, by omega, rfl, rfl, fun k hk => by omega⟩
    subst h3
    refine ⟨v, b', r', h1, ?_⟩
    obtain ⟨w, g1, g2⟩ := zlp_one (f := f_md_carried_29 (nI n) a70 c f) (fun m s => ∃ k, k + m = n ∧ s = nI k) (fun w => w = (v, r', f)) (by
      rintro m s ⟨k, hk, rfl⟩
      simp only [f_md_carried_29, b_md_carried_29]
      by_cases hkn : k = n
      · right
        subst hkn
        have h2' : q_md_laysRow (nI k) a70 c = some r' := h2
        simp (disch := omega) only [nI_dle, dT, cond_true, h2', h5 f, zbd]
        exact ⟨_, rfl, rfl⟩
      · left
        have o0 := oct h (k := 3 * k) (by omega)
        simp (disch := omega) only [nI_dle, dF, cond_false, e3, o0, zg, zl, cond_true, d_goodI, hg k (by omega), nI_1]
        exact ⟨m - 1, _, by omega, rfl, k + 1, by omega, rfl⟩) n (0 : Int32) ⟨0, by omega, rfl⟩
    subst g2
    exact g1
  · -- one is not
    have hbad : ∃ i, i < n ∧ goodI (a1 (3 * i)) = false := by
      apply Classical.byContradiction
      intro hc
      apply hg
      intro i hi
      cases hq : goodI (a1 (3 * i)) with
      | true => rfl
      | false => exact absurd ⟨i, hi, hq⟩ hc
    obtain ⟨i0, hi0, hbad⟩ := hbad
    have h2 : l_md_carried_29 (nI n) a70 c f 0 = some (-2, c, f) := by
      obtain ⟨w, g1, g2⟩ := zlp_one (f := f_md_carried_29 (nI n) a70 c f) (fun m s => ∃ k, k + m = n ∧ k ≤ i0 ∧ s = nI k) (fun w => w = (-2, c, f)) (by
        rintro m s ⟨k, hk, hk0, rfl⟩
        simp only [f_md_carried_29, b_md_carried_29]
        have o0 := oct h (k := 3 * k) (by omega)
        simp (disch := omega) only [nI_dle, dF, cond_false, e3, o0, zg, zl, cond_true, d_goodI, nI_1]
        cases hq : goodI (a1 (3 * k)) with
        | false => right; exact ⟨_, rfl, rfl⟩
        | true =>
          left
          refine ⟨m - 1, _, by omega, rfl, k + 1, by omega, ?_, rfl⟩
          rcases Nat.lt_or_ge k i0 with z | z
          · omega
          · have : k = i0 := by omega
            subst this
            rw [hq] at hbad
            cases hbad) n (0 : Int32) ⟨0, by omega, by omega, rfl⟩
      subst g2
      exact g1
    obtain ⟨r, h1, b', h3⟩ := zlp_one (f := f_cl_mostCarried_2 (nI n) a1) (fun m s => ∃ k b, k + m = n ∧ k ≤ i0 ∧ s = (nI k, b) ∧ AG k b b) (fun r => ∃ b', r = (-2, b')) (by
      rintro m s ⟨k, b, hk, hk0, rfl, hb⟩
      simp only [f_cl_mostCarried_2, b_cl_mostCarried_2]
      simp (disch := omega) only [nI_dle, dF, cond_false, e3, nI_zin, nI_cl, dT, zg, cond_true]
      cases g1 : decide (a1 (3 * k) < 1) with
      | true => right; exact ⟨_, rfl, b, rfl⟩
      | false =>
        cases g2 : decide (a1 (3 * k) ≤ 60) with
        | false => right; exact ⟨_, rfl, b, rfl⟩
        | true =>
          left
          have hq : goodI (a1 (3 * k)) = true := by unfold goodI; rw [g1, g2]; rfl
          obtain ⟨b', c', q1, -, q3⟩ := d_putIn h (i := k) (by omega) hb
          simp only [q1, zbd, nI_1]
          refine ⟨m - 1, _, by omega, rfl, k + 1, b', by omega, ?_, rfl, fun j hj => ⟨rfl, (q3 j hj).2⟩⟩
          rcases Nat.lt_or_ge k i0 with z | z
          · omega
          · have : k = i0 := by omega
            subst this
            rw [hq] at hbad
            cases hbad) n (0, b) ⟨0, b, by omega, by omega, rfl, fun k hk => by omega⟩
    subst h3
    exact ⟨-2, b', c, h1, h2⟩
theorem d_carried {a1 a70 : Nat → Int32} (h : RT a1 a70) (x f : Int32) (b c : Nat → Int32) : ∃ v b' c' f', q_if_carried x a1 b f = some (v, b', f') ∧ q_md_carried x a70 c f = some (v, c', f') ∧ (f' = f ∨ f' = 0) := by
  unfold q_if_carried q_md_carried
  rcases d_within x (a := 1) (b := 10) (by omega) (by omega) with ⟨e1, e2⟩ | ⟨e1, e2, n, rfl, hn1, hn2⟩
  · refine ⟨-1, b, c, f, ?_, ?_, Or.inl rfl⟩
    · rw [show w_if_isWithin x 1 10 = 0 from e1]; rfl
    · rw [show w_md_in x 1 10 = 0 from e2]; rfl
  rw [show w_if_isWithin (nI n) 1 10 = 1 from e1, show w_md_in (nI n) 1 10 = 1 from e2]
  cases hf : decide (3 * nI n ≤ f) with
  | true =>
    obtain ⟨v, b', c', h1, h2⟩ := d_carriedL h hn2 b c 0
    refine ⟨v, b', c', 0, ?_, ?_, Or.inr rfl⟩
    · simp only [zl, hf, h1, zbd, cond_true]; rfl
    · simp only [zl, hf, h2, cond_true]; rfl
  | false =>
    refine ⟨-1, b, c, f, ?_, ?_, Or.inl rfl⟩
    · simp only [zl, hf, cond_false]; rfl
    · simp only [zl, hf, cond_false]; rfl
