abbrev T_md_undo : Type := Int32 × (Nat → Int32)
abbrev U_md_undo_22 : Type := Int32 × (Nat → Int32)
def b_md_undo_22 (a68 : Nat → Int32) (l1 : Int32) (b65 : Nat → Int32) : Option (U_md_undo_22 ⊕ T_md_undo) :=
  bif decide (96 ≤ l1) then
   some (.inr (1, b65))
  else
   zg (g_md_isWood l1 a68) (
   zl (w_md_isWood l1 a68) (fun v2 =>
   bif !decide (v2 = 0) then
    some (.inl (l1 + 1, b65))
   else
    zg (g_md_becomesWhole l1 b65) (
    zl (a0_md_becomesWhole l1 b65) (fun v3 =>
    some (.inl (l1 + 1, v3))))))
def f_md_undo_22 (a68 : Nat → Int32) : U_md_undo_22 → Option (U_md_undo_22 ⊕ T_md_undo) := fun s => b_md_undo_22 a68 s.1 s.2
noncomputable def l_md_undo_22 (a68 : Nat → Int32) (l1 : Int32) (b65 : Nat → Int32) : Option T_md_undo := zlp (f_md_undo_22 a68) (l1, b65)
noncomputable def q_md_undo (a65 : Nat → Int32) (a67 : Nat → Int32) (a68 : Nat → Int32) (f64_45 : Int32) : Option T_md_undo :=
  bif !decide (f64_45 = 0) then
   zl (a0_md_copies a67 a65) (fun v1 =>
   l_md_undo_22 a68 0 v1)
  else
   some (0, a65)
def P_md_undo (Q : (Nat → Int32) → (Nat → Int32) → (Nat → Int32) → Int32 → Option (Int32 × (Nat → Int32))) : zSp := fun as g => match as with
  | [.ref a] => bif Nat.beq a 64 then zpe (Q (g.1 65) (g.1 67) (g.1 68) (g.2.1 64 45)) (fun t => (some (.int (t.1)), ((zua g.1 65 t.2), g.2.1, g.2.2))) else none
  | _ => none
noncomputable abbrev S_md_undo : zSp := P_md_undo q_md_undo
theorem hA2_md_undo (F : Nat → Nat → Int32) : F = (zua F 65 (F 65)) := zuak_ix F [] [(65, none)] rfl
theorem hA1_md_undo (F : Nat → Nat → Int32) (w0 w1 : Nat → Int32) : (zua (zua F 65 w0) 65 w1) = (zua F 65 w1) := zuak_ix F [(65, w0), (65, w1)] [(65, some 1)] rfl
theorem hA0_md_undo (F : Nat → Nat → Int32) (w0 : Nat → Int32) : (zua F 65 w0) = (zua F 65 w0) := zuak_ix F [(65, w0)] [(65, some 0)] rfl
def O_md_undo (ar fi : Nat → Nat → Int32) (m1 : Nat) (m2 : Nat) (m3 : Nat) (m4 : Nat) (m5 : Nat) (t : T_md_undo) : zO2 := match t with
  | (t0, t1) => (some (.int (t0)), ((zua ar 65 t1), fi, (m1, m2, m3, m4, m5)))
def M_md_undo_22 (X : Nat × (Nat → Int32)) (E : zTE) (ar fi : Nat → Nat → Int32) (m1 : Nat) (m2 : Nat) (m3 : Nat) (m4 : Nat) (m5 : Nat) (o : zO2) (s : U_md_undo_22) : Prop := match s with
  | (l1, b65) => zR2 X zFT E zc_244 22 [.ref 64, .int l1] [] ((zua ar 65 b65), fi, (m1, m2, m3, m4, m5)) o
set_option maxRecDepth 1000000 in
theorem t22_md_undo {X : Nat × (Nat → Int32)} {ar fi : Nat → Nat → Int32} {m1 m2 m3 m4 m5 : Nat} {l1 : Int32} {b65 : Nat → Int32} {A0_md_copies : (Nat → Int32) → (Nat → Int32) → Nat → Int32} {G_md_isWood : Int32 → (Nat → Int32) → Bool} {W_md_isWood : Int32 → (Nat → Int32) → Int32} {G_md_becomesWhole : Int32 → (Nat → Int32) → Bool} {A0_md_becomesWhole : Int32 → (Nat → Int32) → Nat → Int32} : zseg X zFT (zEx 148 (P_md_copies A0_md_copies) (zEx 152 (P_md_isWood G_md_isWood W_md_isWood) (zEx 188 (P_md_becomesWhole G_md_becomesWhole A0_md_becomesWhole) zE0))) zc_244 (fun p => Nat.beq p 22) 400 22 [.ref 64, .int l1] [] ((zua ar 65 b65), fi, (m1, m2, m3, m4, m5)) = (
  bif decide (96 ≤ l1) then
   some (.inr (some (.int 1), ((zua ar 65 b65), fi, (m1, m2, m3, m4, m5))))
  else
   zg (G_md_isWood l1 (ar 68)) (
   zl (W_md_isWood l1 (ar 68)) (fun v2 =>
   bif !decide (v2 = 0) then
    some (.inl (22, [.ref 64, .int (l1 + 1)], [], ((zua ar 65 b65), fi, (m1, m2, m3, m4, m5))))
   else
    zg (G_md_becomesWhole l1 b65) (
    zl (A0_md_becomesWhole l1 b65) (fun v3 =>
    some (.inl (22, [.ref 64, .int (l1 + 1)], [], ((zua (zua ar 65 b65) 65 v3), fi, (m1, m2, m3, m4, m5)))))))) : Option ((Nat × List Value × List Value × zH2) ⊕ zO2)) := by with_unfolding_all rfl
set_option maxRecDepth 20000 in
theorem k_md_undo_22 {X : Nat × (Nat → Int32)} {ar fi : Nat → Nat → Int32} {m1 m2 m3 m4 m5 : Nat} {o : zO2} : ∀ (s : U_md_undo_22) (q : U_md_undo_22 ⊕ T_md_undo), f_md_undo_22 (ar 68) s = some q → zq (M_md_undo_22 X (zEx 148 S_md_copies (zEx 152 S_md_isWood (zEx 188 S_md_becomesWhole zE0))) ar fi m1 m2 m3 m4 m5 o) (fun t => O_md_undo ar fi m1 m2 m3 m4 m5 t = o) q → M_md_undo_22 X (zEx 148 S_md_copies (zEx 152 S_md_isWood (zEx 188 S_md_becomesWhole zE0))) ar fi m1 m2 m3 m4 m5 o s := by
  intro s q h hq
  obtain ⟨l1, b65⟩ := s
  have h : b_md_undo_22 (ar 68) l1 b65 = some q := h
  unfold b_md_undo_22 at h
  show zR2 X zFT (zEx 148 S_md_copies (zEx 152 S_md_isWood (zEx 188 S_md_becomesWhole zE0))) zc_244 22 [.ref 64, .int l1] [] ((zua ar 65 b65), fi, (m1, m2, m3, m4, m5)) o
  refine zT_seg t22_md_undo ?_
  obtain ⟨TT, hTT⟩ : ∃ T, T = zT X zFT (zEx 148 S_md_copies (zEx 152 S_md_isWood (zEx 188 S_md_becomesWhole zE0))) zc_244 o := ⟨_, rfl⟩
  rw [← hTT]
  refine zb_el h (fun hb h => zU_t hTT hb ?_) (fun hb h => zU_f hTT hb ?_)
  · rw [hTT]
    have hz := zsi h hq
    refine (zO_mk ?_ ?_).trans hz
    · first | with_reducible rfl | exact hA0_md_undo _ _
    · first | with_reducible rfl | rfl
  · refine zg_el h (fun hg h => zU_g hTT hg ?_)
    refine zl_el h (fun h => zU_l hTT ?_)
    refine zb_el h (fun hb h => zU_t hTT hb ?_) (fun hb h => zU_f hTT hb ?_)
    · rw [hTT]
      have hz := zsi h hq
      refine zR2_hp ?_ ?_ hz
      · first | with_reducible rfl | exact hA0_md_undo _ _
      · first | with_reducible rfl | rfl
    · refine zg_el h (fun hg h => zU_g hTT hg ?_)
      refine zl_el h (fun h => zU_l hTT ?_)
      rw [hTT]
      have hz := zsi h hq
      refine zR2_hp ?_ ?_ hz
      · first | with_reducible rfl | exact hA1_md_undo _ _ _
      · first | with_reducible rfl | rfl
set_option maxRecDepth 1000000 in
theorem t_md_undo {X : Nat × (Nat → Int32)} {ar fi : Nat → Nat → Int32} {m1 m2 m3 m4 m5 : Nat} {A0_md_copies : (Nat → Int32) → (Nat → Int32) → Nat → Int32} {G_md_isWood : Int32 → (Nat → Int32) → Bool} {W_md_isWood : Int32 → (Nat → Int32) → Int32} {G_md_becomesWhole : Int32 → (Nat → Int32) → Bool} {A0_md_becomesWhole : Int32 → (Nat → Int32) → Nat → Int32} : zseg X zFT (zEx 148 (P_md_copies A0_md_copies) (zEx 152 (P_md_isWood G_md_isWood W_md_isWood) (zEx 188 (P_md_becomesWhole G_md_becomesWhole A0_md_becomesWhole) zE0))) zc_244 (fun p => Nat.beq p 22) 400 0 [.ref 64] [] (ar, fi, (m1, m2, m3, m4, m5)) = (
  bif !decide (fi 64 45 = 0) then
   zl (A0_md_copies (ar 67) (ar 65)) (fun v1 =>
   some (.inl (22, [.ref 64, .int 0], [], ((zua ar 65 v1), fi, (m1, m2, m3, m4, m5)))))
  else
   some (.inr (some (.int 0), (ar, fi, (m1, m2, m3, m4, m5)))) : Option ((Nat × List Value × List Value × zH2) ⊕ zO2)) := by with_unfolding_all rfl
set_option maxRecDepth 20000 in
theorem e_md_undo {X : Nat × (Nat → Int32)} {ar fi : Nat → Nat → Int32} {m1 m2 m3 m4 m5 : Nat} {o : zO2} : ∀ (q : T_md_undo), q_md_undo (ar 65) (ar 67) (ar 68) (fi 64 45) = some q → (fun t => O_md_undo ar fi m1 m2 m3 m4 m5 t = o) q → zR2 X zFT (zEx 148 S_md_copies (zEx 152 S_md_isWood (zEx 188 S_md_becomesWhole zE0))) zc_244 0 [.ref 64] [] (ar, fi, (m1, m2, m3, m4, m5)) o := by
  intro q h hq
  unfold q_md_undo at h
  refine zT_seg t_md_undo ?_
  obtain ⟨TT, hTT⟩ : ∃ T, T = zT X zFT (zEx 148 S_md_copies (zEx 152 S_md_isWood (zEx 188 S_md_becomesWhole zE0))) zc_244 o := ⟨_, rfl⟩
  rw [← hTT]
  refine zb_el h (fun hb h => zU_t hTT hb ?_) (fun hb h => zU_f hTT hb ?_)
  · refine zl_el h (fun h => zU_l hTT ?_)
    rw [hTT]
    refine zR2_hp ?_ ?_ (zlp_K k_md_undo_22 h hq)
    · first | with_reducible rfl | exact hA0_md_undo _ _
    · first | with_reducible rfl | rfl
  · rw [hTT]
    have hz := zsi (P := (fun t => O_md_undo ar fi m1 m2 m3 m4 m5 t = o)) h hq
    refine (zO_mk ?_ ?_).trans hz
    · first | with_reducible rfl | exact hA2_md_undo _
    · first | with_reducible rfl | rfl
theorem ok_md_undo (X : Nat × (Nat → Int32)) : zOkS X 244 S_md_undo 4 := zOkS_new (zOkE_cons (ok_md_copies X) (by decide) (zOkE_cons (ok_md_isWood X) (by decide) (zOkE_cons (ok_md_becomesWhole X) (by decide) (zOkE_nil X 3)))) (by
  intro args g o h
  obtain ⟨ar, fi, m1, m2, m3, m4, m5⟩ := g
  unfold S_md_undo P_md_undo at h
  split at h
  · refine zb_el h (fun hI0 k0 => ?_) (fun _ h10 => ?_)
    · try simp only [Bool.and_eq_true] at hI0
      have j0 := hI0
      have e0 := Nat.eq_of_beq_eq_true j0
      subst e0
      exact zpe_el k0 (fun t ht ho => by obtain ⟨t0, t1⟩ := t; exact e_md_undo _ ht ho)
    · cases h10
  · cases h)
