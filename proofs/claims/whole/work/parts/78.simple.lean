/-! ===== D: the short ones ===== -/
section dsim
variable {st lf at_ va su : Nat → Int32} {tl gn wd mn x : Int32} {N : Nat → Int32}
theorem d_seed (h : RS st lf at_ va su tl gn wd mn x N) (s : Int32) : w_if_seed s x = w_md_seed s N ∧ g_md_seed s N = true ∧ RS st lf at_ va su tl gn wd mn (f0_if_seed s x) (a0_md_seed s N) := by
  unfold w_if_seed w_md_seed g_md_seed f0_if_seed a0_md_seed
  rcases d_within s (a := 0) (b := 65535) (by omega) (by omega) with ⟨e1, e2⟩ | ⟨e1, e2, n, rfl, hn1, hn2⟩
  · rw [show w_if_isWithin s 0 65535 = 0 from e1, show w_md_in s 0 65535 = 0 from e2]
    exact ⟨rfl, rfl, h⟩
  · rw [show w_if_isWithin (nI n) 0 65535 = 1 from e1, show w_md_in (nI n) 0 65535 = 1 from e2]
    exact ⟨rfl, rfl, RS_draw h (by omega)⟩
theorem d_count (h : RS st lf at_ va su tl gn wd mn x N) (y ru t : Int32) : w_if_count y mn tl gn st wd ru t x va = w_md_count y N ru t ∧ g_md_count y N ru t = true := by
  obtain ⟨h1, h2, h3, h4, h5, h6, h7, h8⟩ := h
  unfold w_if_count w_md_count g_md_count
  have k : ∀ c : Bool, (bif c then true else true) = true := fun c => by cases c <;> rfl
  rw [d_toldSet h2, d_goneSet h2 h3, d_lostValue h2 h3, d_faring (st := st) (N := N) (fun k hk => (h1 k hk).1), d_faring (st := st) (N := N) (fun k hk => (h1 k hk).1), h4, h5, h6]
  refine ⟨rfl, ?_⟩
  rw [show zin 313 315 = true from rfl, show zin 312 315 = true from rfl, show zin 314 315 = true from rfl]
  simp only [k]
theorem d_placeIs (h : RS st lf at_ va su tl gn wd mn x N) {kd K : Nat → Int32} (hK : KA 96 kd K) (px py z : Int32) : g_if_placeIs px py z kd st lf tl gn at_ su va = true ∧ g_md_placeIs px py z K N = true ∧ w_if_placeIs px py z kd st lf tl gn at_ su va = w_md_placeIs px py z K N := by
  obtain ⟨h1, h2, h3, h4, h5, h6, h7, h8⟩ := h
  unfold g_if_placeIs g_md_placeIs w_if_placeIs w_md_placeIs
  have k : ∀ c : Bool, (bif c then true else true) = true := fun c => by cases c <;> rfl
  rcases d_place px py with ⟨e1, e2⟩ | ⟨e1, e2, i, j, rfl, rfl, hi, hj, e3⟩
  · rw [e1, e2]; exact ⟨rfl, rfl, rfl⟩
  · have hp : 12 * j + i < 96 := by omega
    have a0 : (0 : Int32) + nI (12 * j + i) = nI (12 * j + i) := by
      rw [show (0 : Int32) = nI 0 from rfl, nI_add, Nat.zero_add]
    have a96 : (96 : Int32) + nI (12 * j + i) = nI (96 + (12 * j + i)) := by
      rw [show (96 : Int32) = nI 96 from rfl, nI_add]
    rw [e1, e2, e3, a0, a96, nI_zin (a := 12 * j + i) (N := 96) (by omega), nI_zin (a := 12 * j + i) (N := 315) (by omega), nI_zin (a := 96 + (12 * j + i)) (N := 315) (by omega), dT hp, dT (show 12 * j + i < 315 by omega), dT (show 96 + (12 * j + i) < 315 by omega), nI_cl (a := 12 * j + i) (by omega), nI_cl (a := 96 + (12 * j + i)) (by omega), d_thingsAt h2, d_bareValueAt h2, d_insuredSumAt h2, hK _ hp, (h1 _ hp).1, (h1 _ hp).2]
    simp only [k]
    exact ⟨trivial, trivial, trivial⟩
theorem d_keep (h : RS st lf at_ va su tl gn wd mn x N) (st2 lf2 at2 va2 su2 A : Nat → Int32) : mn = w_md_keep N A ∧ g_md_keep N A = true ∧
    RS (va_cpy st st2 ((0 : Int32).toNatClampNeg) ((0 : Int32).toNatClampNeg) ((96 : Int32).toNatClampNeg)) (va_cpy lf lf2 ((0 : Int32).toNatClampNeg) ((0 : Int32).toNatClampNeg) ((96 : Int32).toNatClampNeg)) (va_cpy at_ at2 ((0 : Int32).toNatClampNeg) ((0 : Int32).toNatClampNeg) ((24 : Int32).toNatClampNeg)) (va_cpy va va2 ((0 : Int32).toNatClampNeg) ((0 : Int32).toNatClampNeg) ((24 : Int32).toNatClampNeg)) (va_cpy su su2 ((0 : Int32).toNatClampNeg) ((0 : Int32).toNatClampNeg) ((24 : Int32).toNatClampNeg)) tl gn wd mn x (a0_md_keep N A) :=
  ⟨h.2.2.2.2.1, rfl, RS_congr (RS_congrC h (d_cpyA st st2) (d_cpyA lf lf2) (d_cpyT at_ at2) (d_cpyT va va2) (d_cpyT su su2)) (d_copies N A).1⟩
/-- what is no wood is mended -/
theorem d_mend (kd s l : Nat → Int32) : (∀ k, k < 96 → a0_sc_mendWhatIsNoWood kd s l k = (if kd k = 1 then s k else 0) ∧ a1_sc_mendWhatIsNoWood kd s l k = (if kd k = 1 then l k else 0)) := by
  have h := zfo_inv (f := b_sc_mendWhatIsNoWood kd s l) (P := fun m t => m ≤ 96 → (∀ k, k < m → t.1 k = (if kd k = 1 then s k else 0) ∧ t.2 k = (if kd k = 1 then l k else 0)) ∧ (∀ k, m ≤ k → t.1 k = s k ∧ t.2 k = l k)) 96 0 (s, l) (fun _ => ⟨fun k hk => by omega, fun _ _ => ⟨rfl, rfl⟩⟩) (fun m t _ hm ih hm2 => by
    obtain ⟨i1, i2⟩ := ih (by omega)
    unfold b_sc_mendWhatIsNoWood a0_sc_setState a1_sc_setState
    rw [nI_cl (a := m) (by omega)]
    by_cases hw : kd m = 1
    · rw [dT hw, cTt, cTt]
      refine ⟨fun k hk => ?_, fun k hk => i2 k (by omega)⟩
      by_cases hkm : k = m
      · subst hkm
        rw [if_pos hw, if_pos hw]
        exact i2 k (Nat.le_refl _)
      · exact i1 k (by omega)
    · rw [dF hw, cFf, cFf]
      refine ⟨fun k hk => ?_, fun k hk => ?_⟩
      · by_cases hkm : k = m
        · subst hkm
          rw [if_neg hw, if_neg hw]
          exact ⟨zup_same, zup_same⟩
        · show zup t.1 m 0 k = _ ∧ zup t.2 m 0 k = _
          rw [zup_ne hkm, zup_ne hkm]
          exact i1 k (by omega)
      · show zup t.1 m 0 k = _ ∧ zup t.2 m 0 k = _
        rw [zup_ne (by omega), zup_ne (by omega)]
        exact i2 k (by omega))
  exact (h (by omega)).1
theorem d_mdUndo (K A : Nat → Int32) : ∀ (m k : Nat) (B : Nat → Int32), k + m = 96 → (∀ j, j < k → B j = (if K j = 1 then A j else 0) ∧ B (96 + j) = (if K j = 1 then A (96 + j) else 0)) → (∀ j, k ≤ j → j < 96 → B j = A j ∧ B (96 + j) = A (96 + j)) → (∀ j, 192 ≤ j → j < 315 → B j = A j) →
    ∃ B', l_md_undo_22 K (nI k) B = some (1, B') ∧ (∀ j, j < 96 → B' j = (if K j = 1 then A j else 0) ∧ B' (96 + j) = (if K j = 1 then A (96 + j) else 0)) ∧ (∀ j, 192 ≤ j → j < 315 → B' j = A j) := by
  intro m
  induction m with
  | zero =>
    intro k B hk h1 h2 h3
    have : k = 96 := by omega
    subst this
    exact ⟨B, zlp_out rfl, h1, h3⟩
  | succ m ih =>
    intro k B hk h1 h2 h3
    obtain ⟨e1, e2⟩ := d_isWood (c := K) (show k < 96 by omega)
    obtain ⟨e3, e4⟩ := d_whole (show k < 96 by omega) B
    by_cases hw : K k = 1
    · have fs : f_md_undo_22 K (nI k, B) = some (.inl (nI (k + 1), B)) := by
        dsimp +instances only [f_md_undo_22, b_md_undo_22]
        rw [show (96 : Int32) = nI 96 from rfl, nI_dle (by omega) (by omega), dF (show ¬ 96 ≤ k by omega), e1, e2, dT hw, nI_1]
        rfl
      obtain ⟨B', i1, i2, i3⟩ := ih (k + 1) B (by omega) (fun j hj => by
        by_cases hjk : j = k
        · subst hjk
          rw [if_pos hw, if_pos hw]
          exact h2 j (Nat.le_refl _) (by omega)
        · exact h1 j (by omega)) (fun j a b => h2 j (by omega) b) h3
      exact ⟨B', (zlp_in fs).trans i1, i2, i3⟩
    · have fs : f_md_undo_22 K (nI k, B) = some (.inl (nI (k + 1), zup (zup B k 0) (96 + k) 0)) := by
        dsimp +instances only [f_md_undo_22, b_md_undo_22]
        rw [show (96 : Int32) = nI 96 from rfl, nI_dle (by omega) (by omega), dF (show ¬ 96 ≤ k by omega), e1, e2, dF hw, e3, e4, nI_1]
        rfl
      obtain ⟨B', i1, i2, i3⟩ := ih (k + 1) (zup (zup B k 0) (96 + k) 0) (by omega) (fun j hj => by
        by_cases hjk : j = k
        · subst hjk
          rw [if_neg hw, if_neg hw]
          exact ⟨by rw [zup_ne (by omega), zup_same], zup_same⟩
        · rw [zup_ne (by omega), zup_ne (by omega), zup_ne (by omega), zup_ne (by omega)]
          exact h1 j (by omega)) (fun j a b => by
            rw [zup_ne (by omega), zup_ne (by omega), zup_ne (by omega), zup_ne (by omega)]
            exact h2 j (by omega) b) (fun j a b => by
            rw [zup_ne (by omega), zup_ne (by omega)]
            exact h3 j a b)
      exact ⟨B', (zlp_in fs).trans i1, i2, i3⟩
/-- the kept town is back -/
theorem d_undoT (h : RS st lf at_ va su tl gn wd mn x N) {kd K : Nat → Int32} (hK : KA 96 kd K) (st2 lf2 at2 va2 su2 M : Nat → Int32) :
    ∃ B', l_md_undo_22 K 0 (a0_md_copies N M) = some (1, B') ∧
      RS (a0_sc_mendWhatIsNoWood kd (va_cpy st st2 ((0 : Int32).toNatClampNeg) ((0 : Int32).toNatClampNeg) ((96 : Int32).toNatClampNeg)) (va_cpy lf lf2 ((0 : Int32).toNatClampNeg) ((0 : Int32).toNatClampNeg) ((96 : Int32).toNatClampNeg))) (a1_sc_mendWhatIsNoWood kd (va_cpy st st2 ((0 : Int32).toNatClampNeg) ((0 : Int32).toNatClampNeg) ((96 : Int32).toNatClampNeg)) (va_cpy lf lf2 ((0 : Int32).toNatClampNeg) ((0 : Int32).toNatClampNeg) ((96 : Int32).toNatClampNeg))) (va_cpy at_ at2 ((0 : Int32).toNatClampNeg) ((0 : Int32).toNatClampNeg) ((24 : Int32).toNatClampNeg)) (va_cpy va va2 ((0 : Int32).toNatClampNeg) ((0 : Int32).toNatClampNeg) ((24 : Int32).toNatClampNeg)) (va_cpy su su2 ((0 : Int32).toNatClampNeg) ((0 : Int32).toNatClampNeg) ((24 : Int32).toNatClampNeg)) tl gn wd mn x B' := by
  have hc := (d_copies N M).1
  obtain ⟨B', b1, b2, b3⟩ := d_mdUndo K N 96 0 (a0_md_copies N M) (by omega) (fun j hj => by omega) (fun j _ hj => ⟨hc j (by omega), hc (96 + j) (by omega)⟩) (fun j _ hj => hc j hj)
  refine ⟨B', b1, ?_⟩
  have hR := RS_congrC h (d_cpyA st st2) (d_cpyA lf lf2) (d_cpyT at_ at2) (d_cpyT va va2) (d_cpyT su su2)
  obtain ⟨h1, h2, h3, h4, h5, h6, h7, h8⟩ := hR
  have hm := d_mend kd (va_cpy st st2 ((0 : Int32).toNatClampNeg) ((0 : Int32).toNatClampNeg) ((96 : Int32).toNatClampNeg)) (va_cpy lf lf2 ((0 : Int32).toNatClampNeg) ((0 : Int32).toNatClampNeg) ((96 : Int32).toNatClampNeg))
  refine ⟨fun k hk => ?_, ⟨fun i hi => ?_, h2.2⟩, h3, by rw [b3 312 (by omega) (by omega)]; exact h4, by rw [b3 313 (by omega) (by omega)]; exact h5, by rw [b3 314 (by omega) (by omega)]; exact h6, h7, fun k hk hs => ?_⟩
  · rw [(hm k hk).1, (hm k hk).2, (b2 k hk).1, (b2 k hk).2, hK k hk]
    by_cases hw : K k = 1
    · rw [if_pos hw, if_pos hw, if_pos hw, if_pos hw]
      exact h1 k hk
    · rw [if_neg hw, if_neg hw, if_neg hw, if_neg hw]
      exact ⟨rfl, rfl⟩
  · rw [b3 _ (by omega) (by omega), b3 _ (by omega) (by omega), b3 _ (by omega) (by omega), b3 _ (by omega) (by omega), b3 _ (by omega) (by omega)]
    exact h2.1 i hi
  · rw [(hm k hk).1] at hs
    rw [(hm k hk).2]
    by_cases hw : kd k = 1
    · rw [if_pos hw] at hs
      rw [if_pos hw]
      exact h8 k hk hs
    · rw [if_neg hw] at hs
      exact absurd hs (by decide)
end dsim
