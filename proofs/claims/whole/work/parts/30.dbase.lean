/-! ===== D: loops in step, numbers ===== -/
section dloops
variable {σ τ R S : Type}
theorem zlp_one {f : σ → Option (σ ⊕ R)} (I : Nat → σ → Prop) (Q : R → Prop) (step : ∀ n s, I n s → (∃ m s', m < n ∧ f s = some (.inl s') ∧ I m s') ∨ (∃ r, f s = some (.inr r) ∧ Q r)) : ∀ n s, I n s → ∃ r, zlp f s = some r ∧ Q r := by
  intro n
  induction n using Nat.strongRecOn with
  | ind n ih =>
    intro s hI
    rcases step n s hI with ⟨m, s', hm, hf, hI'⟩ | ⟨r, hf, hQ⟩
    · obtain ⟨r, hr, hQ⟩ := ih m hm s' hI'
      exact ⟨r, by rw [zlp_in hf]; exact hr, hQ⟩
    · exact ⟨r, zlp_out hf, hQ⟩
theorem zlp_rel {f : σ → Option (σ ⊕ R)} {g : τ → Option (τ ⊕ S)} (I : Nat → σ → τ → Prop) (Q : R → S → Prop)
    (step : ∀ n s t, I n s t → (∃ m s' t', m < n ∧ f s = some (.inl s') ∧ g t = some (.inl t') ∧ I m s' t') ∨ (∃ r r', f s = some (.inr r) ∧ g t = some (.inr r') ∧ Q r r')) :
    ∀ n s t, I n s t → ∃ r r', zlp f s = some r ∧ zlp g t = some r' ∧ Q r r' := by
  intro n
  induction n using Nat.strongRecOn with
  | ind n ih =>
    intro s t hI
    rcases step n s t hI with ⟨m, s', t', hm, hf, hg, hI'⟩ | ⟨r, r', hf, hg, hQ⟩
    · obtain ⟨r, r', hr, hr', hQ⟩ := ih m hm s' t' hI'
      exact ⟨r, r', by rw [zlp_in hf]; exact hr, by rw [zlp_in hg]; exact hr', hQ⟩
    · exact ⟨r, r', zlp_out hf, zlp_out hg, hQ⟩
end dloops
theorem dT {p : Prop} [Decidable p] (h : p) : decide p = true := decide_eq_true h
theorem dF {p : Prop} [Decidable p] (h : ¬ p) : decide p = false := decide_eq_false h
theorem nI_deq {a b : Nat} (ha : a < 2147483648) (hb : b < 2147483648) : decide (nI a = nI b) = decide (a = b) := by
  by_cases h : a = b
  · rw [decide_eq_true h, decide_eq_true (by rw [h])]
  · rw [decide_eq_false h, decide_eq_false (fun e => h ((nI_eq ha hb).mp e))]
theorem nI_zin {a N : Nat} (ha : a < 2147483648) : zin (nI a) N = decide (a < N) := by
  have h1 : (nI a).toNatClampNeg = a := nI_clamp ha
  have h2 : ¬ nI a < 0 := nI_pos ha
  unfold zin
  rw [h1, decide_eq_false h2]
  simp only [Bool.not_false, Bool.true_and, Nat.blt]
  by_cases h : a < N
  · rw [decide_eq_true h]; exact Nat.ble_eq.mpr h
  · rw [decide_eq_false h]
    cases hb : Nat.ble (a + 1) N with
    | false => rfl
    | true => exact absurd (Nat.ble_eq.mp hb) h
theorem nI_cl {a : Nat} (ha : a < 2147483648) : (nI a).toNatClampNeg = a := nI_clamp ha
theorem nI_sub {a b : Nat} (h : b ≤ a) : nI a - nI b = nI (a - b) := pk_sub h
theorem nI_neg {a : Nat} (ha : a < 2147483648) : decide (nI a < 0) = false := decide_eq_false (nI_pos ha)
theorem nI_nn {a : Nat} (ha : a < 2147483648) : decide (0 ≤ nI a) = true := decide_eq_true (nI_pos' ha)
theorem nI_nm1 {a : Nat} (ha : a < 2147483648) : decide (nI a = -1) = false := decide_eq_false (fun e => by
  have h := nI_pos ha
  rw [e] at h
  exact h (by decide))
theorem nI_within {x : Int32} {a b : Nat} (hb : b < 2147483648) (h1 : ¬ x < nI a) (h2 : ¬ nI b < x) (ha : a ≤ b) : ∃ n, x = nI n ∧ a ≤ n ∧ n ≤ b := by
  have h3 : ¬ x < 0 := fun h => h1 (Int32.lt_of_lt_of_le h (nI_pos' (by omega)))
  obtain ⟨j, hj, rfl⟩ := nI_of h3
  refine ⟨j, rfl, ?_, ?_⟩
  · exact Nat.le_of_not_lt (fun h => h1 (nI_lt h (by omega)))
  · exact Nat.le_of_not_lt (fun h => h2 (nI_lt h (by omega)))
/-- 'within' as the class and the model ask it -/
theorem d_within (x : Int32) {a b : Nat} (hb : b < 2147483648) (ha : a ≤ b) : (w_if_isWithin x (nI a) (nI b) = 0 ∧ w_md_in x (nI a) (nI b) = 0) ∨ (w_if_isWithin x (nI a) (nI b) = 1 ∧ w_md_in x (nI a) (nI b) = 1 ∧ ∃ n, x = nI n ∧ a ≤ n ∧ n ≤ b) := by
  unfold w_if_isWithin w_md_in
  by_cases h1 : x < nI a
  · left; simp only [dT h1, cond_true, and_self]
  · by_cases h2 : nI b < x
    · left; simp only [dF h1, dT h2, cond_true, cond_false, and_self]
    · right; simp only [dF h1, dF h2, cond_false, true_and]; exact nI_within hb h1 h2 ha
theorem d_and1 (x : Int32) : (x &&& 1 = 0 ↔ bt x 0 = false) ∧ (x &&& 1 = 1 ↔ bt x 0 = true) := by
  have h1 : ∀ i, i < 32 → bt 1 i = decide (i = 0) := by decide +kernel
  have e : bt (x &&& 1) 0 = bt x 0 := by rw [b_and, h1 0 (by omega)]; simp
  have c : x &&& 1 = if bt x 0 then 1 else 0 := by
    apply b_ext
    intro i hi
    rw [b_and, h1 i hi]
    by_cases hi0 : i = 0
    · subst hi0
      cases bt x 0 <;> rfl
    · rw [decide_eq_false hi0, Bool.and_false]
      cases bt x 0
      · exact (b_0 i).symm
      · show false = bt 1 i
        rw [h1 i hi, decide_eq_false hi0]
  rw [c]
  cases bt x 0 <;> simp <;> decide
theorem ubit (z : Int32) {j : Nat} (hj : j < 32) : decide (((Int32.toUInt32 z >>> (Int32.toUInt32 (nI j) &&& Int32.toUInt32 31)).toInt32) &&& 1 = 0) = !bt z j := by
  have h := (d_and1 ((Int32.toUInt32 z >>> (Int32.toUInt32 (nI j) &&& Int32.toUInt32 31)).toInt32)).1
  rw [b_ushr j hj z 0, Nat.add_zero] at h
  cases hb : bt z j with
  | false => exact dT (h.mpr hb)
  | true => exact dF (fun e => by rw [h.mp e] at hb; cases hb)
theorem hbit (z : Int32) {j : Nat} (hj : j < 32) : w_md_has z (nI j) = bif bt z j then 1 else 0 := by
  have h := (d_and1 (z >>> (nI j &&& 31))).2
  rw [b_sshr j hj z (by omega), if_pos (by omega), Nat.add_zero] at h
  unfold w_md_has
  cases hb : bt z j with
  | true => rw [dT (h.mpr hb)]; rfl
  | false => rw [dF (fun e => by rw [h.mp e] at hb; cases hb)]; rfl
theorem shl1 : ∀ n, n < 31 → (1 : Int32) <<< (nI n &&& 31) = nI (2 ^ n) := by decide +kernel
theorem bt_shl1 {n i : Nat} (hn : n < 32) (hi : i < 32) : bt ((1 : Int32) <<< (nI n &&& 31)) i = decide (i = n) := by
  have h1 : ∀ i, i < 32 → bt 1 i = decide (i = 0) := by decide +kernel
  rw [b_shl n hn 1 hi]
  by_cases h : i = n
  · subst h
    rw [Nat.sub_self, h1 0 (by omega)]
    simp
  · rw [decide_eq_false h]
    by_cases h2 : n ≤ i
    · rw [h1 (i - n) (by omega), decide_eq_false (show ¬ (i - n = 0) by omega), Bool.and_false]
    · rw [decide_eq_false h2]; rfl
/-- three cases of two ints -/
theorem d_tri (x y : Int32) : (decide (x < y) = true ∧ decide (y < x) = false ∧ decide (x = y) = false ∧ decide (y = x) = false ∧ decide (x ≤ y) = true ∧ decide (y ≤ x) = false) ∨
    (decide (x < y) = false ∧ decide (y < x) = true ∧ decide (x = y) = false ∧ decide (y = x) = false ∧ decide (x ≤ y) = false ∧ decide (y ≤ x) = true) ∨
    (x = y ∧ decide (x < y) = false ∧ decide (y < x) = false ∧ decide (x = y) = true ∧ decide (y = x) = true ∧ decide (x ≤ y) = true ∧ decide (y ≤ x) = true) := by
  simp only [decide_eq_true_eq, decide_eq_false_iff_not, Int32.lt_iff_toInt_lt, Int32.le_iff_toInt_le, ← Int32.toInt_inj]
  omega
