/-! ===== String.indexOf: its answer ===== -/
theorem jAns_in : ∀ n, n < 256 → jAns (nI n) = zix (nI n) := by decide +kernel
theorem jAns_zix (x : Int32) : jAns x = zix x := by
  rcases d_within x (a := 0) (b := 255) (by omega) (by omega) with ⟨e1, -⟩ | ⟨-, -, n, rfl, -, hn⟩
  · have h : x < 0 ∨ 255 < x := by
      unfold w_if_isWithin at e1
      by_cases h0 : x < 0
      · exact Or.inl h0
      · by_cases h1 : 255 < x
        · exact Or.inr h1
        · rw [dF (show ¬ x < nI 0 from h0), dF (show ¬ nI 255 < x from h1)] at e1
          exact absurd e1 (by decide)
    have hA : jAns x = -1 := by
      unfold jAns
      rcases h with h | h
      · rw [if_pos h]
      · by_cases h0 : x < 0
        · rw [if_pos h0]
        · rw [if_neg h0, if_pos h]
    rw [hA]
    unfold zix
    have hne : ∀ c : Int32, (0 ≤ c ∧ c ≤ 255) → ¬ x = c := fun c hc q => by
      subst q
      rcases h with h | h
      · exact absurd hc.1 (Int32.not_le.mpr h)
      · exact absurd hc.2 (Int32.not_le.mpr h)
    rw [if_neg (hne _ (by decide)), if_neg (hne _ (by decide)), if_neg (hne _ (by decide)), if_neg (hne _ (by decide)), if_neg (hne _ (by decide)), if_neg (hne _ (by decide)), if_neg (hne _ (by decide)), if_neg (hne _ (by decide)), if_neg (hne _ (by decide))]
  · exact jAns_in n (by omega)
