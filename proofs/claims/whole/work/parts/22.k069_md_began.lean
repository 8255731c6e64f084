abbrev T_md_began : Type := Int32 × (Nat → Int32) × (Nat → Int32)
abbrev U_md_began_31 : Type := Int32 × Int32 × Int32 × (Nat → Int32) × (Nat → Int32)
noncomputable def b_md_began_31 (x : Int32) (y : Int32) (a65 : Nat → Int32) (a68 : Nat → Int32) (l3 : Int32) (l4 : Int32) (l5 : Int32) (b86 : Nat → Int32) (b87 : Nat → Int32) : Option (U_md_began_31 ⊕ T_md_began) :=
  bif decide (l5 < 0) then
   bif !decide (y = 0) then
    some (.inr (l4, b86, b87))
   else
    some (.inr (l3, b86, b87))
  else
   zg (g_md_isWood l5 a68) (
   zl (w_md_isWood l5 a68) (fun v3 =>
   bif decide (v3 = 0) then
    some (.inl (l3, l4, l5 + (-1), b86, b87))
   else
    zbd (q_md_couldBegin l5 x a65 a68 b86 b87) (fun v4 =>
    bif !decide ((v4.1) = 0) then
     some (.inl (l3 + 1, l5, l5 + (-1), ((v4.2.1)), ((v4.2.2))))
    else
     some (.inl (l3, l4, l5 + (-1), ((v4.2.1)), ((v4.2.2)))))))
noncomputable def f_md_began_31 (x : Int32) (y : Int32) (a65 : Nat → Int32) (a68 : Nat → Int32) : U_md_began_31 → Option (U_md_began_31 ⊕ T_md_began) := fun s => b_md_began_31 x y a65 a68 s.1 s.2.1 s.2.2.1 s.2.2.2.1 s.2.2.2.2
noncomputable def l_md_began_31 (x : Int32) (y : Int32) (a65 : Nat → Int32) (a68 : Nat → Int32) (l3 : Int32) (l4 : Int32) (l5 : Int32) (b86 : Nat → Int32) (b87 : Nat → Int32) : Option T_md_began := zlp (f_md_began_31 x y a65 a68) (l3, l4, l5, b86, b87)
noncomputable def q_md_began (x : Int32) (y : Int32) (a65 : Nat → Int32) (a68 : Nat → Int32) (a86 : Nat → Int32) (a87 : Nat → Int32) : Option T_md_began :=
  zl (w_md_in x 0 60) (fun v1 =>
  bif decide (v1 = 0) then
   some ((-1), a86, a87)
  else
   zl (w_md_in y 0 1) (fun v2 =>
   bif !decide (v2 = 0) then
    l_md_began_31 x y a65 a68 0 (-2) 95 a86 a87
   else
    some ((-1), a86, a87)))
def P_md_began (Q : Int32 → Int32 → (Nat → Int32) → (Nat → Int32) → (Nat → Int32) → (Nat → Int32) → Option (Int32 × (Nat → Int32) × (Nat → Int32))) : zSp := fun as g => match as with
  | [.ref a, .int x, .int y] => bif Nat.beq a 64 then zpe (Q x y (g.1 65) (g.1 68) (g.1 86) (g.1 87)) (fun t => (some (.int (t.1)), ((zua (zua g.1 86 t.2.1) 87 t.2.2), g.2.1, g.2.2))) else none
  | _ => none
noncomputable abbrev S_md_began : zSp := P_md_began q_md_began
theorem hA2_md_began (F : Nat → Nat → Int32) : F = (zua (zua F 86 (F 86)) 87 (F 87)) := zuak_ix F [] [(86, none), (87, none)] rfl
theorem hA1_md_began (F : Nat → Nat → Int32) (w0 w1 w2 w3 : Nat → Int32) : (zua (zua (zua (zua F 86 w0) 87 w1) 86 w2) 87 w3) = (zua (zua F 86 w2) 87 w3) := zuak_ix F [(86, w0), (87, w1), (86, w2), (87, w3)] [(86, some 2), (87, some 3)] rfl
theorem hA0_md_began (F : Nat → Nat → Int32) (w0 w1 : Nat → Int32) : (zua (zua F 86 w0) 87 w1) = (zua (zua F 86 w0) 87 w1) := zuak_ix F [(86, w0), (87, w1)] [(86, some 0), (87, some 1)] rfl
def O_md_began (ar fi : Nat → Nat → Int32) (m1 : Nat) (m2 : Nat) (m3 : Nat) (m4 : Nat) (m5 : Nat) (t : T_md_began) : zO2 := match t with
  | (t0, t1, t2) => (some (.int (t0)), ((zua (zua ar 86 t1) 87 t2), fi, (m1, m2, m3, m4, m5)))
def M_md_began_31 (X : Nat × (Nat → Int32)) (E : zTE) (ar fi : Nat → Nat → Int32) (m1 : Nat) (m2 : Nat) (m3 : Nat) (m4 : Nat) (m5 : Nat) (x : Int32) (y : Int32) (o : zO2) (s : U_md_began_31) : Prop := match s with
  | (l3, l4, l5, b86, b87) => zR2 X zFT E zc_223 31 [.ref 64, .int x, .int y, .int l3, .int l4, .int l5] [] ((zua (zua ar 86 b86) 87 b87), fi, (m1, m2, m3, m4, m5)) o
set_option maxRecDepth 1000000 in
theorem t31_md_began {X : Nat × (Nat → Int32)} {ar fi : Nat → Nat → Int32} {m1 m2 m3 m4 m5 : Nat} {x y : Int32} {l3 : Int32} {l4 : Int32} {l5 : Int32} {b86 : Nat → Int32} {b87 : Nat → Int32} {W_md_in : Int32 → Int32 → Int32 → Int32} {G_md_isWood : Int32 → (Nat → Int32) → Bool} {W_md_isWood : Int32 → (Nat → Int32) → Int32} {Q_md_couldBegin : Int32 → Int32 → (Nat → Int32) → (Nat → Int32) → (Nat → Int32) → (Nat → Int32) → Option (Int32 × (Nat → Int32) × (Nat → Int32))} : zseg X zFT (zEx 143 (P_md_in W_md_in) (zEx 152 (P_md_isWood G_md_isWood W_md_isWood) (zEx 222 (P_md_couldBegin Q_md_couldBegin) zE0))) zc_223 (fun p => Nat.beq p 31) 400 31 [.ref 64, .int x, .int y, .int l3, .int l4, .int l5] [] ((zua (zua ar 86 b86) 87 b87), fi, (m1, m2, m3, m4, m5)) = (
  bif decide (l5 < 0) then
   bif !decide (y = 0) then
    some (.inr (some (.int l4), ((zua (zua ar 86 b86) 87 b87), fi, (m1, m2, m3, m4, m5))))
   else
    some (.inr (some (.int l3), ((zua (zua ar 86 b86) 87 b87), fi, (m1, m2, m3, m4, m5))))
  else
   zg (G_md_isWood l5 (ar 68)) (
   zl (W_md_isWood l5 (ar 68)) (fun v3 =>
   bif decide (v3 = 0) then
    some (.inl (31, [.ref 64, .int x, .int y, .int l3, .int l4, .int (l5 + (-1))], [], ((zua (zua ar 86 b86) 87 b87), fi, (m1, m2, m3, m4, m5))))
   else
    zl (Q_md_couldBegin l5 x (ar 65) (ar 68) b86 b87) (fun v4 => zg v4.isSome (
    bif !decide (((zgt v4).1) = 0) then
     some (.inl (31, [.ref 64, .int x, .int y, .int (l3 + 1), .int l5, .int (l5 + (-1))], [], ((zua (zua (zua (zua ar 86 b86) 87 b87) 86 (((zgt v4).2.1))) 87 (((zgt v4).2.2))), fi, (m1, m2, m3, m4, m5))))
    else
     some (.inl (31, [.ref 64, .int x, .int y, .int l3, .int l4, .int (l5 + (-1))], [], ((zua (zua (zua (zua ar 86 b86) 87 b87) 86 (((zgt v4).2.1))) 87 (((zgt v4).2.2))), fi, (m1, m2, m3, m4, m5)))))))) : Option ((Nat × List Value × List Value × zH2) ⊕ zO2)) := by with_unfolding_all rfl
set_option maxRecDepth 20000 in
theorem k_md_began_31 {X : Nat × (Nat → Int32)} {ar fi : Nat → Nat → Int32} {m1 m2 m3 m4 m5 : Nat} {x y : Int32} {o : zO2} : ∀ (s : U_md_began_31) (q : U_md_began_31 ⊕ T_md_began), f_md_began_31 x y (ar 65) (ar 68) s = some q → zq (M_md_began_31 X (zEx 143 S_md_in (zEx 152 S_md_isWood (zEx 222 S_md_couldBegin zE0))) ar fi m1 m2 m3 m4 m5 x y o) (fun t => O_md_began ar fi m1 m2 m3 m4 m5 t = o) q → M_md_began_31 X (zEx 143 S_md_in (zEx 152 S_md_isWood (zEx 222 S_md_couldBegin zE0))) ar fi m1 m2 m3 m4 m5 x y o s := by
  intro s q h hq
  obtain ⟨l3, l4, l5, b86, b87⟩ := s
  have h : b_md_began_31 x y (ar 65) (ar 68) l3 l4 l5 b86 b87 = some q := h
  unfold b_md_began_31 at h
  show zR2 X zFT (zEx 143 S_md_in (zEx 152 S_md_isWood (zEx 222 S_md_couldBegin zE0))) zc_223 31 [.ref 64, .int x, .int y, .int l3, .int l4, .int l5] [] ((zua (zua ar 86 b86) 87 b87), fi, (m1, m2, m3, m4, m5)) o
  refine zT_seg t31_md_began ?_
  obtain ⟨TT, hTT⟩ : ∃ T, T = zT X zFT (zEx 143 S_md_in (zEx 152 S_md_isWood (zEx 222 S_md_couldBegin zE0))) zc_223 o := ⟨_, rfl⟩
  rw [← hTT]
  refine zb_el h (fun hb h => zU_t hTT hb ?_) (fun hb h => zU_f hTT hb ?_)
  · refine zb_el h (fun hb h => zU_t hTT hb ?_) (fun hb h => zU_f hTT hb ?_)
    · rw [hTT]
      have hz := zsi h hq
      refine (zO_mk ?_ ?_).trans hz
      · first | with_reducible rfl | exact hA0_md_began _ _ _
      · first | with_reducible rfl | rfl
    · rw [hTT]
      have hz := zsi h hq
      refine (zO_mk ?_ ?_).trans hz
      · first | with_reducible rfl | exact hA0_md_began _ _ _
      · first | with_reducible rfl | rfl
  · refine zg_el h (fun hg h => zU_g hTT hg ?_)
    refine zl_el h (fun h => zU_l hTT ?_)
    refine zb_el h (fun hb h => zU_t hTT hb ?_) (fun hb h => zU_f hTT hb ?_)
    · rw [hTT]
      have hz := zsi h hq
      refine zR2_hp ?_ ?_ hz
      · first | with_reducible rfl | exact hA0_md_began _ _ _
      · first | with_reducible rfl | rfl
    · refine zbd_el h (fun v4 hv h => zU_c hTT hv ?_)
      refine zb_el h (fun hb h => zU_t hTT hb ?_) (fun hb h => zU_f hTT hb ?_)
      · rw [hTT]
        have hz := zsi h hq
        refine zR2_hp ?_ ?_ hz
        · first | with_reducible rfl | exact hA1_md_began _ _ _ _ _
        · first | with_reducible rfl | rfl
      · rw [hTT]
        have hz := zsi h hq
        refine zR2_hp ?_ ?_ hz
        · first | with_reducible rfl | exact hA1_md_began _ _ _ _ _
        · first | with_reducible rfl | rfl
set_option maxRecDepth 1000000 in
theorem t_md_began {X : Nat × (Nat → Int32)} {ar fi : Nat → Nat → Int32} {m1 m2 m3 m4 m5 : Nat} {x y : Int32} {W_md_in : Int32 → Int32 → Int32 → Int32} {G_md_isWood : Int32 → (Nat → Int32) → Bool} {W_md_isWood : Int32 → (Nat → Int32) → Int32} {Q_md_couldBegin : Int32 → Int32 → (Nat → Int32) → (Nat → Int32) → (Nat → Int32) → (Nat → Int32) → Option (Int32 × (Nat → Int32) × (Nat → Int32))} : zseg X zFT (zEx 143 (P_md_in W_md_in) (zEx 152 (P_md_isWood G_md_isWood W_md_isWood) (zEx 222 (P_md_couldBegin Q_md_couldBegin) zE0))) zc_223 (fun p => Nat.beq p 31) 400 0 [.ref 64, .int x, .int y] [] (ar, fi, (m1, m2, m3, m4, m5)) = (
  zl (W_md_in x 0 60) (fun v1 =>
  bif decide (v1 = 0) then
   some (.inr (some (.int (-1)), (ar, fi, (m1, m2, m3, m4, m5))))
  else
   zl (W_md_in y 0 1) (fun v2 =>
   bif !decide (v2 = 0) then
    some (.inl (31, [.ref 64, .int x, .int y, .int 0, .int (-2), .int 95], [], (ar, fi, (m1, m2, m3, m4, m5))))
   else
    some (.inr (some (.int (-1)), (ar, fi, (m1, m2, m3, m4, m5)))))) : Option ((Nat × List Value × List Value × zH2) ⊕ zO2)) := by with_unfolding_all rfl
set_option maxRecDepth 20000 in
theorem e_md_began {X : Nat × (Nat → Int32)} {ar fi : Nat → Nat → Int32} {m1 m2 m3 m4 m5 : Nat} {x y : Int32} {o : zO2} : ∀ (q : T_md_began), q_md_began x y (ar 65) (ar 68) (ar 86) (ar 87) = some q → (fun t => O_md_began ar fi m1 m2 m3 m4 m5 t = o) q → zR2 X zFT (zEx 143 S_md_in (zEx 152 S_md_isWood (zEx 222 S_md_couldBegin zE0))) zc_223 0 [.ref 64, .int x, .int y] [] (ar, fi, (m1, m2, m3, m4, m5)) o := by
  intro q h hq
  unfold q_md_began at h
  refine zT_seg t_md_began ?_
  obtain ⟨TT, hTT⟩ : ∃ T, T = zT X zFT (zEx 143 S_md_in (zEx 152 S_md_isWood (zEx 222 S_md_couldBegin zE0))) zc_223 o := ⟨_, rfl⟩
  rw [← hTT]
  refine zl_el h (fun h => zU_l hTT ?_)
  refine zb_el h (fun hb h => zU_t hTT hb ?_) (fun hb h => zU_f hTT hb ?_)
  · rw [hTT]
    have hz := zsi (P := (fun t => O_md_began ar fi m1 m2 m3 m4 m5 t = o)) h hq
    refine (zO_mk ?_ ?_).trans hz
    · first | with_reducible rfl | exact hA2_md_began _
    · first | with_reducible rfl | rfl
  · refine zl_el h (fun h => zU_l hTT ?_)
    refine zb_el h (fun hb h => zU_t hTT hb ?_) (fun hb h => zU_f hTT hb ?_)
    · rw [hTT]
      refine zR2_hp ?_ ?_ (zlp_K k_md_began_31 h hq)
      · first | with_reducible rfl | exact hA2_md_began _
      · first | with_reducible rfl | rfl
    · rw [hTT]
      have hz := zsi (P := (fun t => O_md_began ar fi m1 m2 m3 m4 m5 t = o)) h hq
      refine (zO_mk ?_ ?_).trans hz
      · first | with_reducible rfl | exact hA2_md_began _
      · first | with_reducible rfl | rfl
theorem ok_md_began (X : Nat × (Nat → Int32)) : zOkS X 223 S_md_began 7 := zOkS_new (zOkE_cons (ok_md_in X) (by decide) (zOkE_cons (ok_md_isWood X) (by decide) (zOkE_cons (ok_md_couldBegin X) (by decide) (zOkE_nil X 6)))) (by
  intro args g o h
  obtain ⟨ar, fi, m1, m2, m3, m4, m5⟩ := g
  unfold S_md_began P_md_began at h
  split at h
  · refine zb_el h (fun hI0 k0 => ?_) (fun _ h10 => ?_)
    · try simp only [Bool.and_eq_true] at hI0
      have j0 := hI0
      have e0 := Nat.eq_of_beq_eq_true j0
      subst e0
      exact zpe_el k0 (fun t ht ho => by obtain ⟨t0, t1, t2⟩ := t; exact e_md_began _ ht ho)
    · cases h10
  · cases h)
