/-! ruin -/
theorem d_canPay {a1 a70 : Nat → Int32} (h : RT a1 a70) {n i : Nat} (hn : n ≤ 6) (hi : i < n) (z : Int32) : ∃ v, q_md_restOf (nI i) (nI n) z a70 = some v ∧ q_cl_canPay (nI n) z (nI i) a1 = some (bif decide (0 ≤ v) then 1 else 0) := by
  have hni : n * i ≤ 6 * 5 := Nat.mul_le_mul hn (by omega)
  have e0 : nI n * nI i + nI i = nI (n * i + i) := by rw [pk_mul, nI_add]
  have o0 := oct h (k := n * i + i) (by omega)
  unfold q_md_restOf q_cl_canPay
  simp (disch := omega) only [e0, o0, nI_zin, nI_cl, dT, zg, zl, cond_true]
  obtain ⟨r, r', h1, h2, h3⟩ := zlp_rel (f := f_cl_canPay_12 (nI n) z (nI i) a1) (g := f_md_restOf_14 (nI i) (nI n) z a70) (fun m s t => s = t ∧ ∃ l k, k + m = n ∧ s = (l, nI k)) (fun r r' => r = bif decide (0 ≤ r') then 1 else 0) (by
    rintro m s t ⟨rfl, l, k, hk, rfl⟩
    simp only [f_cl_canPay_12, f_md_restOf_14, b_cl_canPay_12, b_md_restOf_14]
    by_cases hkn : k = n
    · right
      simp (disch := omega) only [nI_dle, dT, cond_true]
      rcases d_tri l 0 with ⟨a, b, c, d, e, f⟩ | ⟨a, b, c, d, e, f⟩ | ⟨-, a, b, c, d, e, f⟩ <;> simp only [a] <;> exact ⟨_, _, rfl, rfl, by rw [f]; rfl⟩
    · left
      have hnk : n * k ≤ 6 * 5 := Nat.mul_le_mul hn (by omega)
      have e1 : nI n * nI k + nI i = nI (n * k + i) := by rw [pk_mul, nI_add]
      have e2 : nI n * nI i + nI k = nI (n * i + k) := by rw [pk_mul, nI_add]
      have o1 := oct h (k := n * k + i) (by omega)
      have o2 := oct h (k := n * i + k) (by omega)
      simp (disch := omega) only [e1, e2, o1, o2, ubit, hbit, nI_1, nI_dle, nI_deq, dF, cond_false, nI_zin, nI_cl, dT, zg, zl, cond_true]
      by_cases hki : k = i
      · simp only [dT hki, cond_true]
        exact ⟨m - 1, _, _, by omega, rfl, rfl, rfl, l, k + 1, by omega, rfl⟩
      · simp only [dF hki, cond_false]
        cases bt z k with
        | true => exact ⟨m - 1, _, _, by omega, rfl, rfl, rfl, l, k + 1, by omega, rfl⟩
        | false =>
          refine ⟨m - 1, (l + (a1 (n * k + i) - a1 (n * i + k)), nI (k + 1)), _, by omega, rfl, rfl, ?_, _, k + 1, by omega, rfl⟩
          rw [Int32.sub_eq_add_neg, Int32.sub_eq_add_neg, Int32.add_assoc]) n (a1 (n * i + i), 0) (a1 (n * i + i), 0) ⟨rfl, _, 0, by omega, rfl⟩
  exact ⟨r', h2, by rw [← h3]; exact h1⟩
noncomputable def nxf (n : Nat) (a70 : Nat → Int32) (lost : Int32) : Int32 := match l_md_ruin_69 (nI n) a70 lost lost 0 with
  | some (.inl s) => s.2
  | _ => lost
theorem d_round {a1 a70 : Nat → Int32} (h : RT a1 a70) {n : Nat} (hn : n ≤ 6) (lost : Int32) : l_md_ruin_69 (nI n) a70 lost lost 0 = some (.inl (lost, nxf n a70 lost)) ∧ (∀ k, l_cl_ruinedBy_19 (nI n) a1 lost k lost 0 = some (.inl (nxf n a70 lost, k + 1))) ∧ (∀ i, bt lost i = true → bt (nxf n a70 lost) i = true) ∧ (∀ i, n ≤ i → i < 32 → bt (nxf n a70 lost) i = bt lost i) := by
  have key : ∀ k, ∃ nx, l_cl_ruinedBy_19 (nI n) a1 lost k lost 0 = some (.inl (nx, k + 1)) ∧ l_md_ruin_69 (nI n) a70 lost lost 0 = some (.inl (lost, nx)) ∧ (∀ i, bt lost i = true → bt nx i = true) ∧ (∀ i, n ≤ i → i < 32 → bt nx i = bt lost i) := by
    intro k
    obtain ⟨r, r', h1, h2, nx, rfl, rfl, h3⟩ := zlp_rel (f := f_cl_ruinedBy_19 (nI n) a1 lost k) (g := f_md_ruin_69 (nI n) a70 lost) (fun m s t => s = t ∧ ∃ l j, j + m = n ∧ s = (l, nI j) ∧ (∀ i, bt lost i = true → bt l i = true) ∧ (∀ i, n ≤ i → i < 32 → bt l i = bt lost i))
        (fun r r' => ∃ nx, r = .inl (nx, k + 1) ∧ r' = .inl (lost, nx) ∧ (∀ i, bt lost i = true → bt nx i = true) ∧ (∀ i, n ≤ i → i < 32 → bt nx i = bt lost i)) (by
      rintro m s t ⟨rfl, l, j, hj, rfl, g1, g2⟩
      simp only [f_cl_ruinedBy_19, f_md_ruin_69, b_cl_ruinedBy_19, b_md_ruin_69]
      by_cases hjn : j = n
      · right
        simp (disch := omega) only [nI_dle, dT, cond_true]
        exact ⟨_, _, rfl, rfl, l, rfl, rfl, g1, g2⟩
      · left
        simp (disch := omega) only [ubit, hbit, nI_1, nI_dle, dF, cond_false, zl]
        cases bt lost j with
        | true => exact ⟨m - 1, _, _, by omega, rfl, rfl, rfl, l, j + 1, by omega, rfl, g1, g2⟩
        | false =>
          obtain ⟨v, q1, q2⟩ := d_canPay h hn (i := j) (by omega) lost
          simp only [q1, q2, zbd]
          cases decide (0 ≤ v) with
          | true => exact ⟨m - 1, _, _, by omega, rfl, rfl, rfl, l, j + 1, by omega, rfl, g1, g2⟩
          | false =>
            refine ⟨m - 1, _, _, by omega, rfl, rfl, rfl, _, j + 1, by omega, rfl, fun i hi => ?_, fun i hi hi2 => ?_⟩
            · rw [b_or, g1 i hi]; rfl
            · rw [b_or, g2 i hi hi2, bt_shl1 (by omega) hi2, decide_eq_false (by omega), Bool.or_false]) n (lost, 0) (lost, 0) ⟨rfl, lost, 0, by omega, rfl, fun _ h => h, fun _ _ _ => rfl⟩
    exact ⟨nx, h1, h2, h3⟩
  obtain ⟨nx, -, h2, h3, h4⟩ := key 0
  have e : nxf n a70 lost = nx := by unfold nxf; rw [h2]
  rw [e]
  refine ⟨h2, fun k => ?_, h3, h4⟩
  obtain ⟨nx', q1, q2, -⟩ := key k
  rw [h2] at q2
  have : nx' = nx := by cases q2; rfl
  rw [← this]
  exact q1
def itr (f : Int32 → Int32) : Nat → Int32 → Int32
  | 0, x => x
  | k + 1, x => itr f k (f x)
theorem itr_last (f : Int32 → Int32) : ∀ (k : Nat) (x : Int32), itr f (k + 1) x = f (itr f k x)
  | 0, _ => rfl
  | k + 1, x => itr_last f k (f x)
theorem itr_fix {f : Int32 → Int32} {x : Int32} (h : f x = x) : ∀ k, itr f k x = x
  | 0 => rfl
  | k + 1 => by show itr f k (f x) = x; rw [h]; exact itr_fix h k
theorem itr_add (f : Int32 → Int32) : ∀ (j k : Nat) (x : Int32), itr f (j + k) x = itr f k (itr f j x)
  | 0, k, x => by rw [Nat.zero_add]; rfl
  | j + 1, k, x => by rw [show j + 1 + k = (j + k) + 1 by omega]; exact itr_add f j k (f x)
def cb (x : Int32) : Nat → Nat
  | 0 => 0
  | n + 1 => cb x n + (bif bt x n then 1 else 0)
theorem cb_le (x : Int32) : ∀ n, cb x n ≤ n
  | 0 => Nat.le_refl 0
  | n + 1 => by
    have := cb_le x n
    unfold cb
    cases bt x n <;> simp only [cond_true, cond_false] <;> omega
theorem cb_mono {x y : Int32} (h : ∀ i, bt x i = true → bt y i = true) : ∀ n, cb x n ≤ cb y n ∧ ((∃ i, i < n ∧ bt x i ≠ bt y i) → cb x n < cb y n)
  | 0 => ⟨Nat.le_refl 0, fun ⟨i, hi, _⟩ => by omega⟩
  | n + 1 => by
    obtain ⟨h1, h2⟩ := cb_mono h n
    unfold cb
    have h3 := h n
    refine ⟨?_, fun ⟨i, hi, hb⟩ => ?_⟩
    · cases hx : bt x n with
      | false => simp only [cond_false]; omega
      | true => rw [h3 hx]; simp only [cond_true]; omega
    · by_cases hin : i = n
      · subst hin
        cases hx : bt x i with
        | true => rw [hx, h3 hx] at hb; exact absurd rfl hb
        | false =>
          cases hy : bt y i with
          | false => rw [hx, hy] at hb; exact absurd rfl hb
          | true => simp only [cond_true, cond_false]; omega
      · have h4 := h2 ⟨i, by omega, hb⟩
        cases hx : bt x n with
        | false => simp only [cond_false]; omega
        | true => rw [h3 hx]; simp only [cond_true]; omega
theorem d_small {x : Int32} {n : Nat} (hn : n ≤ 6) (h : ∀ i, n ≤ i → i < 32 → bt x i = false) : ∃ m, m < 64 ∧ x = nI m := by
  have e : x = x &&& 63 := by
    apply b_ext
    intro i hi
    have h63 : ∀ i, i < 32 → bt 63 i = decide (i < 6) := by decide +kernel
    rw [b_and, h63 i hi]
    by_cases h6 : i < 6
    · rw [decide_eq_true h6, Bool.and_true]
    · rw [h i (by omega) hi]; rfl
  obtain ⟨j, hj, e2⟩ := pk_andE x (m := 63) 6 (by decide)
  exact ⟨j, by omega, by rw [e, e2]⟩
theorem d_bits : ∀ m, m < 64 → w_in_bitCount (nI m) = w_md_bits (nI m) := by decide +kernel
theorem d_ruined {a1 a70 : Nat → Int32} (h : RT a1 a70) {n i : Nat} (hn : n ≤ 6) (hi : i < n) (z c : Int32) : ∃ m, m < 64 ∧ q_cl_ruinedBy (nI n) (nI i) a1 = some (nI m) ∧ l_md_ruin_55 (nI n) z a70 c 0 (1 <<< (nI i &&& 31)) = some (bif !decide (z = 0) then nI m else w_md_bits (nI m), c) := by
  generalize hl0 : (1 : Int32) <<< (nI i &&& 31) = l0
  have hb0 : ∀ j, j < 32 → bt l0 j = decide (j = i) := fun j hj => by rw [← hl0]; exact bt_shl1 (by omega) hj
  have hi0 : bt l0 i = true := by rw [hb0 i (by omega)]; exact decide_eq_true rfl
  have hne0 : l0 ≠ 0 := fun e => by rw [e, b_0] at hi0; cases hi0
  have hd := fun l => d_round h hn l
  generalize hf : nxf n a70 = f at hd
  have sup : ∀ k j, bt (itr f k l0) j = true → bt (itr f (k + 1) l0) j = true := fun k j hj => by rw [itr_last]; exact (hd _).2.2.1 j hj
  have high : ∀ k j, n ≤ j → j < 32 → bt (itr f k l0) j = false := by
    intro k
    induction k with
    | zero => intro j h1 h2; show bt l0 j = false; rw [hb0 j h2]; exact decide_eq_false (by omega)
    | succ k ih => intro j h1 h2; rw [itr_last, (hd _).2.2.2 j h1 h2]; exact ih j h1 h2
  have dif : ∀ k, f (itr f k l0) ≠ itr f k l0 → cb (itr f k l0) n < cb (itr f (k + 1) l0) n := by
    intro k hk
    refine (cb_mono (sup k) n).2 ?_
    apply Classical.byContradiction
    intro hc
    apply hk
    rw [← itr_last f k l0]
    apply b_ext
    intro j hj
    by_cases hjn : j < n
    · apply Classical.byContradiction
      intro hb
      exact hc ⟨j, hjn, fun e => hb e.symm⟩
    · rw [high (k + 1) j (by omega) hj, high k j (by omega) hj]
  have cb0 : 1 ≤ cb l0 n := by
    have q := (cb_mono (x := 0) (y := l0) (fun j hj => by rw [b_0] at hj; cases hj) n).2 ⟨i, hi, by rw [b_0, hi0]; simp⟩
    omega
  have grow : ∀ k, (∃ j, j ≤ k ∧ f (itr f j l0) = itr f j l0) ∨ k + 2 ≤ cb (itr f (k + 1) l0) n := by
    intro k
    induction k with
    | zero =>
      by_cases h0 : f (itr f 0 l0) = itr f 0 l0
      · exact Or.inl ⟨0, Nat.le_refl 0, h0⟩
      · right
        have q := dif 0 h0
        have : cb (itr f 0 l0) n = cb l0 n := rfl
        omega
    | succ k ih =>
      rcases ih with ⟨j, hj, e⟩ | ih
      · exact Or.inl ⟨j, by omega, e⟩
      · by_cases h0 : f (itr f (k + 1) l0) = itr f (k + 1) l0
        · exact Or.inl ⟨k + 1, Nat.le_refl _, h0⟩
        · right
          have q := dif (k + 1) h0
          omega
  have fixn : ∃ j, j ≤ n ∧ f (itr f j l0) = itr f j l0 := by
    rcases grow n with ⟨j, hj, e⟩ | q
    · exact ⟨j, hj, e⟩
    · have := cb_le (itr f (n + 1) l0) n
      omega
  have fin : ∀ j, f (itr f j l0) = itr f j l0 → itr f j l0 = itr f n l0 := by
    intro j hj
    obtain ⟨j', hj', e'⟩ := fixn
    have e1 : itr f n l0 = itr f j' l0 := by rw [show n = j' + (n - j') by omega, itr_add]; exact itr_fix e' _
    rcases Nat.le_total j j' with q | q
    · rw [e1, show j' = j + (j' - j) by omega, itr_add, itr_fix hj]
    · rw [e1, show j = j' + (j - j') by omega, itr_add, itr_fix e']
  obtain ⟨m, hm, em⟩ := d_small hn (high n)
  refine ⟨m, hm, ?_, ?_⟩
  · rw [← em]
    unfold q_cl_ruinedBy
    rw [hl0]
    obtain ⟨r, h1, h2⟩ := zlp_one (f := f_cl_ruinedBy_7 (nI n) a1) (fun q s => ∃ k, k + q = n ∧ s = (itr f k l0, nI k)) (fun r => r = itr f n l0) (by
      rintro q s ⟨k, hk, rfl⟩
      simp only [f_cl_ruinedBy_7, b_cl_ruinedBy_7]
      by_cases hkn : k = n
      · right
        subst hkn
        simp (disch := omega) only [nI_dle, dT, cond_true]
        exact ⟨_, rfl, rfl⟩
      · left
        simp (disch := omega) only [nI_dle, dF, cond_false]
        refine ⟨q - 1, (itr f (k + 1) l0, nI (k + 1)), by omega, ?_, k + 1, by omega, rfl⟩
        rw [(hd (itr f k l0)).2.1 (nI k), itr_last, nI_1]) n (l0, 0) ⟨0, by omega, rfl⟩
    subst h2
    exact h1
  · rw [← em]
    obtain ⟨r, h1, h2⟩ := zlp_one (f := f_md_ruin_55 (nI n) z a70 c) (fun q s => ∃ j, s.2 = itr f j l0 ∧ (s.1 = s.2 → f s.1 = s.1) ∧ q = 2 * (n - cb s.2 n) + (if s.1 = s.2 then 0 else 1)) (fun r => r = (bif !decide (z = 0) then itr f n l0 else w_md_bits (itr f n l0), c)) (by
      rintro q ⟨s1, s2⟩ ⟨j, x2, x3, xq⟩
      have e2 : s2 = itr f j l0 := x2
      have e3 : s1 = s2 → f s1 = s1 := x3
      have hq : q = 2 * (n - cb s2 n) + (if s1 = s2 then 0 else 1) := xq
      clear x2 x3 xq
      simp only [f_md_ruin_55, b_md_ruin_55]
      by_cases he : s2 = s1
      · right
        subst he
        have e4 : s2 = itr f n l0 := by rw [e2]; exact fin j (by rw [← e2]; exact e3 rfl)
        simp only [dT rfl, cond_true, zl]
        rw [← e4]
        cases decide (z = 0) <;> exact ⟨_, rfl, rfl⟩
      · left
        rw [dF he, (hd s2).1]
        simp only [cond_false]
        rw [if_neg (fun e => he e.symm)] at hq
        have hle := cb_le s2 n
        by_cases hfx : f s2 = s2
        · refine ⟨_, (s2, f s2), ?_, rfl, j + 1, ?_, fun _ => hfx, rfl⟩
          · show 2 * (n - cb (f s2) n) + (if s2 = f s2 then 0 else 1) < q
            rw [hfx, if_pos rfl]
            omega
          · show f s2 = itr f (j + 1) l0
            rw [itr_last, ← e2]
        · refine ⟨_, (s2, f s2), ?_, rfl, j + 1, ?_, fun e => absurd e.symm hfx, rfl⟩
          · show 2 * (n - cb (f s2) n) + (if s2 = f s2 then 0 else 1) < q
            have hg := dif j (by rw [← e2]; exact hfx)
            rw [itr_last, ← e2] at hg
            have hle2 := cb_le (f s2) n
            rw [if_neg (fun e => hfx e.symm)]
            omega
          · show f s2 = itr f (j + 1) l0
            rw [itr_last, ← e2]) _ (0, l0) ⟨0, rfl, fun e => absurd e.symm hne0, rfl⟩
    subst h2
    exact h1
theorem d_ruin {a1 a70 : Nat → Int32} (h : RT a1 a70) (x y z f : Int32) : ∃ v f', q_if_ruin x y z a1 f = some (v, f') ∧ q_md_ruin x y z a70 f = some (v, f') ∧ (f' = f ∨ f' = 0) := by
  unfold q_if_ruin q_md_ruin
  rcases d_within x (a := 2) (b := 6) (by omega) (by omega) with ⟨e1, e2⟩ | ⟨e1, e2, n, rfl, hn1, hn2⟩
  · refine ⟨-1, f, ?_, ?_, Or.inl rfl⟩
    · rw [show w_if_isWithin x 2 6 = 0 from e1]; rfl
    · rw [show w_md_in x 2 6 = 0 from e2]; rfl
  rw [show w_if_isWithin (nI n) 2 6 = 1 from e1, show w_md_in (nI n) 2 6 = 1 from e2]
  have en : nI n - 1 = nI (n - 1) := by rw [show (1 : Int32) = nI 1 from rfl, pk_sub (by omega)]
  rw [en]
  rcases d_within y (a := 0) (b := n - 1) (by omega) (by omega) with ⟨e1, e2⟩ | ⟨e1, e2, i, rfl, hi1, hi2⟩
  · refine ⟨-1, f, ?_, ?_, Or.inl rfl⟩
    · rw [show w_if_isWithin y 0 (nI (n - 1)) = 0 from e1]; rfl
    · rw [show w_md_in y 0 (nI (n - 1)) = 0 from e2]; rfl
  rw [show w_if_isWithin (nI i) 0 (nI (n - 1)) = 1 from e1, show w_md_in (nI i) 0 (nI (n - 1)) = 1 from e2]
  rcases d_within z (a := 0) (b := 1) (by omega) (by omega) with ⟨e1, e2⟩ | ⟨e1, e2, -⟩
  · refine ⟨-1, f, ?_, ?_, Or.inl rfl⟩
    · rw [show w_if_isWithin z 0 1 = 0 from e1]; rfl
    · rw [show w_md_in z 0 1 = 0 from e2]; rfl
  rw [show w_if_isWithin z 0 1 = 1 from e1, show w_md_in z 0 1 = 1 from e2]
  cases hf : decide (nI n * nI n ≤ f) with
  | true =>
    obtain ⟨m, hm, h1, h2⟩ := d_ruined h hn2 (i := i) (by omega) z 0
    refine ⟨(bif !decide (z = 0) then nI m else w_md_bits (nI m)), 0, ?_, ?_, Or.inr rfl⟩
    rotate_left
    · simp only [zl, hf, cond_true]; exact h2
    · simp only [zl, hf, h1, zbd, cond_true, d_bits m hm]
      cases decide (z = 0) <;> rfl
  | false =>
    refine ⟨-1, f, ?_, ?_, Or.inl rfl⟩
    · simp only [zl, hf, cond_false]; rfl
    · simp only [zl, hf, cond_false]; rfl
