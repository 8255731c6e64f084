/-! ===== D: the fire's way over wood ===== -/
def cnt (p : Nat → Bool) : Nat → Nat
  | 0 => 0
  | n + 1 => cnt p n + (bif p n then 1 else 0)
theorem cnt_le (p : Nat → Bool) : ∀ n, cnt p n ≤ n
  | 0 => Nat.le_refl 0
  | n + 1 => by
    have := cnt_le p n
    unfold cnt
    cases p n <;> simp only [cond_true, cond_false] <;> omega
theorem cnt_congr {p q : Nat → Bool} : ∀ {n : Nat}, (∀ i, i < n → q i = p i) → cnt q n = cnt p n
  | 0, _ => rfl
  | n + 1, h => by
    unfold cnt
    rw [cnt_congr (n := n) (fun i hi => h i (by omega)), h n (by omega)]
theorem cnt_lt {p : Nat → Bool} {k : Nat} : ∀ {n : Nat}, k < n → p k = false → cnt p n < n
  | 0, h, _ => absurd h (by omega)
  | n + 1, h, e => by
    unfold cnt
    by_cases hk : k = n
    · subst hk
      have := cnt_le p k
      rw [e, cond_false]; omega
    · have := cnt_lt (n := n) (by omega) e
      cases p n <;> simp only [cond_true, cond_false] <;> omega
theorem cnt_upd {p q : Nat → Bool} {k : Nat} : ∀ {n : Nat}, k < n → p k = false → q k = true → (∀ i, i < n → i ≠ k → q i = p i) → cnt q n = cnt p n + 1
  | 0, h, _, _, _ => absurd h (by omega)
  | n + 1, h, e1, e2, e3 => by
    unfold cnt
    by_cases hk : k = n
    · subst hk
      rw [e1, e2, cnt_congr (p := p) (q := q) (fun i hi => e3 i (by omega) (by omega)), cond_true, cond_false]
    · rw [cnt_upd (n := n) (by omega) e1 e2 (fun i hi hn => e3 i (by omega) hn), e3 n (by omega) (fun q => hk q.symm)]
      omega
/-- what is reached, and in which order -/
def FL (t : Nat) (D Q : Nat → Int32) : Prop :=
  (∀ k, k < 96 → D k = -1 ∨ ∃ d, d ≤ t ∧ D k = nI d) ∧ t = cnt (fun k => !decide (D k = -1)) 96 ∧ (∀ i, i < t → ∃ p, p < 96 ∧ Q i = nI p ∧ ∃ d, d ≤ i ∧ D p = nI d)
theorem FL_le {t : Nat} {D Q : Nat → Int32} (h : FL t D Q) : t ≤ 96 := by
  rw [h.2.1]; exact cnt_le _ _
theorem nI_ne1 {d : Nat} (hd : d ≤ 100) : nI d ≠ -1 := fun e => by
  have h := nI_nm1 (a := d) (by omega)
  rw [e] at h
  exact absurd h (by decide)
theorem FL_add {t : Nat} {D Q : Nat → Int32} (h : FL t D Q) {v d : Nat} (hv : v < 96) (hD : D v = -1) (hd : d ≤ t) : t < 96 ∧ FL (t + 1) (zup D v (nI d)) (zup Q t (nI v)) := by
  have h1 : t < 96 := by
    rw [h.2.1]
    exact cnt_lt hv (by rw [hD]; rfl)
  refine ⟨h1, fun k hk => ?_, ?_, fun i hi => ?_⟩
  · by_cases e : k = v
    · subst e; exact Or.inr ⟨d, by omega, zup_same _ _ _⟩
    · rw [zup_ne e]
      rcases h.1 k hk with q | ⟨d', q1, q2⟩
      · exact Or.inl q
      · exact Or.inr ⟨d', by omega, q2⟩
  · have := cnt_upd (p := fun k => !decide (D k = -1)) (q := fun k => !decide (zup D v (nI d) k = -1)) hv (by simp only [hD]; rfl) (by simp only [zup_same, dF (nI_ne1 (d := d) (by omega))]; rfl) (fun i _ hn => by simp only [zup_ne hn])
    rw [this, ← h.2.1]
  · by_cases e : i = t
    · subst e
      exact ⟨v, hv, zup_same _ _ _, d, hd, zup_same _ _ _⟩
    · obtain ⟨p, q1, q2, d', q3, q4⟩ := h.2.2 i (by omega)
      refine ⟨p, q1, by rw [zup_ne e]; exact q2, d', q3, ?_⟩
      by_cases ep : p = v
      · subst ep; rw [hD] at q4; exact absurd q4.symm (nI_ne1 (by omega))
      · rw [zup_ne ep]; exact q4
