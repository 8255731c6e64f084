abbrev T_md_laysRow : Type := (Nat → Int32)
abbrev U_md_laysRow_2 : Type := Int32 × (Nat → Int32)
abbrev U_md_laysRow_9 : Type := Int32 × (Nat → Int32)
def b_md_laysRow_9 (a70 : Nat → Int32) (l2 : Int32) (l3 : Int32) (b94 : Nat → Int32) : Option (U_md_laysRow_9 ⊕ (U_md_laysRow_2 ⊕ T_md_laysRow)) :=
  bif decide (l3 ≤ 0) then
   zg (zin l3 10) (
   some (.inr (.inl (l2 + 1, (zup b94 (l3.toNatClampNeg) l2)))))
  else
   zg (zin (l3 - 1) 10) (
   zg (g_md_octet ((3 * (b94 ((l3 - 1).toNatClampNeg))) + 2) a70) (
   zl (w_md_octet ((3 * (b94 ((l3 - 1).toNatClampNeg))) + 2) a70) (fun v1 =>
   zg (g_md_octet ((3 * l2) + 2) a70) (
   zl (w_md_octet ((3 * l2) + 2) a70) (fun v2 =>
   bif decide (v1 ≤ v2) then
    zg (zin l3 10) (
    some (.inr (.inl (l2 + 1, (zup b94 (l3.toNatClampNeg) l2)))))
   else
    zg (zin (l3 - 1) 10) (
    zg (zin l3 10) (
    some (.inl (l3 - 1, (zup b94 (l3.toNatClampNeg) (b94 ((l3 - 1).toNatClampNeg))))))))))))
def f_md_laysRow_9 (a70 : Nat → Int32) (l2 : Int32) : U_md_laysRow_9 → Option (U_md_laysRow_9 ⊕ (U_md_laysRow_2 ⊕ T_md_laysRow)) := fun s => b_md_laysRow_9 a70 l2 s.1 s.2
noncomputable def l_md_laysRow_9 (a70 : Nat → Int32) (l2 : Int32) (l3 : Int32) (b94 : Nat → Int32) : Option (U_md_laysRow_2 ⊕ T_md_laysRow) := zlp (f_md_laysRow_9 a70 l2) (l3, b94)
noncomputable def b_md_laysRow_2 (x : Int32) (a70 : Nat → Int32) (l2 : Int32) (b94 : Nat → Int32) : Option (U_md_laysRow_2 ⊕ T_md_laysRow) :=
  bif decide (x ≤ l2) then
   some (.inr b94)
  else
   l_md_laysRow_9 a70 l2 l2 b94
noncomputable def f_md_laysRow_2 (x : Int32) (a70 : Nat → Int32) : U_md_laysRow_2 → Option (U_md_laysRow_2 ⊕ T_md_laysRow) := fun s => b_md_laysRow_2 x a70 s.1 s.2
noncomputable def l_md_laysRow_2 (x : Int32) (a70 : Nat → Int32) (l2 : Int32) (b94 : Nat → Int32) : Option T_md_laysRow := zlp (f_md_laysRow_2 x a70) (l2, b94)
noncomputable def q_md_laysRow (x : Int32) (a70 : Nat → Int32) (a94 : Nat → Int32) : Option T_md_laysRow :=
  l_md_laysRow_2 x a70 0 a94
def P_md_laysRow (Q : Int32 → (Nat → Int32) → (Nat → Int32) → Option ((Nat → Int32))) : zSp := fun as g => match as with
  | [.ref a, .int x] => bif Nat.beq a 64 then zpe (Q x (g.1 70) (g.1 94)) (fun t => (none, ((zua g.1 94 t), g.2.1, g.2.2))) else none
  | _ => none
noncomputable abbrev S_md_laysRow : zSp := P_md_laysRow q_md_laysRow
theorem hA2_md_laysRow (F : Nat → Nat → Int32) : F = (zua F 94 (F 94)) := zuak_ix F [] [(94, none)] rfl
theorem hA1_md_laysRow (F : Nat → Nat → Int32) (w0 : Nat → Int32) : (zua F 94 w0) = (zua F 94 w0) := zuak_ix F [(94, w0)] [(94, some 0)] rfl
theorem hA0_md_laysRow (F : Nat → Nat → Int32) (w0 w1 : Nat → Int32) : (zua (zua F 94 w0) 94 w1) = (zua F 94 w1) := zuak_ix F [(94, w0), (94, w1)] [(94, some 1)] rfl
def O_md_laysRow (ar fi : Nat → Nat → Int32) (m1 : Nat) (m2 : Nat) (m3 : Nat) (m4 : Nat) (m5 : Nat) (t : T_md_laysRow) : zO2 := (none, ((zua ar 94 t), fi, (m1, m2, m3, m4, m5)))
def M_md_laysRow_9 (X : Nat × (Nat → Int32)) (E : zTE) (ar fi : Nat → Nat → Int32) (m1 : Nat) (m2 : Nat) (m3 : Nat) (m4 : Nat) (m5 : Nat) (x : Int32) (l2 : Int32) (o : zO2) (s : U_md_laysRow_9) : Prop := match s with
  | (l3, b94) => zR2 X zFT E zc_238 9 [.ref 64, .int x, .int l2, .int l3] [] ((zua ar 94 b94), fi, (m1, m2, m3, m4, m5)) o
def M_md_laysRow_2 (X : Nat × (Nat → Int32)) (E : zTE) (ar fi : Nat → Nat → Int32) (m1 : Nat) (m2 : Nat) (m3 : Nat) (m4 : Nat) (m5 : Nat) (x : Int32) (o : zO2) (s : U_md_laysRow_2) : Prop := match s with
  | (l2, b94) => zR2 X zFT E zc_238 2 [.ref 64, .int x, .int l2] [] ((zua ar 94 b94), fi, (m1, m2, m3, m4, m5)) o
set_option maxRecDepth 1000000 in
theorem t9_md_laysRow {X : Nat × (Nat → Int32)} {ar fi : Nat → Nat → Int32} {m1 m2 m3 m4 m5 : Nat} {x : Int32} {l2 : Int32} {l3 : Int32} {b94 : Nat → Int32} {G_md_octet : Int32 → (Nat → Int32) → Bool} {W_md_octet : Int32 → (Nat → Int32) → Int32} : zseg X zFT (zEx 157 (P_md_octet G_md_octet W_md_octet) zE0) zc_238 (fun p => Nat.beq p 2 || Nat.beq p 9) 400 9 [.ref 64, .int x, .int l2, .int l3] [] ((zua ar 94 b94), fi, (m1, m2, m3, m4, m5)) = (
  bif decide (l3 ≤ 0) then
   zg (Nat.beq 16 16 && (zin l3 10)) (
   some (.inl (2, [.ref 64, .int x, .int (l2 + 1)], [], ((zua (zua ar 94 b94) 94 (zup b94 (l3.toNatClampNeg) l2)), fi, (m1, m2, m3, m4, m5)))))
  else
   zg (Nat.beq 16 16 && (zin (l3 - 1) 10)) (
   zg (G_md_octet ((3 * (b94 ((l3 - 1).toNatClampNeg))) + 2) (ar 70)) (
   zl (W_md_octet ((3 * (b94 ((l3 - 1).toNatClampNeg))) + 2) (ar 70)) (fun v1 =>
   zg (G_md_octet ((3 * l2) + 2) (ar 70)) (
   zl (W_md_octet ((3 * l2) + 2) (ar 70)) (fun v2 =>
   bif decide (v1 ≤ v2) then
    zg (Nat.beq 16 16 && (zin l3 10)) (
    some (.inl (2, [.ref 64, .int x, .int (l2 + 1)], [], ((zua (zua ar 94 b94) 94 (zup b94 (l3.toNatClampNeg) l2)), fi, (m1, m2, m3, m4, m5)))))
   else
    zg (Nat.beq 16 16 && (zin (l3 - 1) 10)) (
    zg (Nat.beq 16 16 && (zin l3 10)) (
    some (.inl (9, [.ref 64, .int x, .int l2, .int (l3 - 1)], [], ((zua (zua ar 94 b94) 94 (zup b94 (l3.toNatClampNeg) (b94 ((l3 - 1).toNatClampNeg)))), fi, (m1, m2, m3, m4, m5))))))))))) : Option ((Nat × List Value × List Value × zH2) ⊕ zO2)) := by with_unfolding_all rfl
set_option maxRecDepth 20000 in
theorem k_md_laysRow_9 {X : Nat × (Nat → Int32)} {ar fi : Nat → Nat → Int32} {m1 m2 m3 m4 m5 : Nat} {x : Int32} {l2 : Int32} {o : zO2} : ∀ (s : U_md_laysRow_9) (q : U_md_laysRow_9 ⊕ (U_md_laysRow_2 ⊕ T_md_laysRow)), f_md_laysRow_9 (ar 70) l2 s = some q → zq (M_md_laysRow_9 X (zEx 157 S_md_octet zE0) ar fi m1 m2 m3 m4 m5 x l2 o) (zq (M_md_laysRow_2 X (zEx 157 S_md_octet zE0) ar fi m1 m2 m3 m4 m5 x o) (fun t => O_md_laysRow ar fi m1 m2 m3 m4 m5 t = o)) q → M_md_laysRow_9 X (zEx 157 S_md_octet zE0) ar fi m1 m2 m3 m4 m5 x l2 o s := by
  intro s q h hq
  obtain ⟨l3, b94⟩ := s
  have h : b_md_laysRow_9 (ar 70) l2 l3 b94 = some q := h
  unfold b_md_laysRow_9 at h
  show zR2 X zFT (zEx 157 S_md_octet zE0) zc_238 9 [.ref 64, .int x, .int l2, .int l3] [] ((zua ar 94 b94), fi, (m1, m2, m3, m4, m5)) o
  refine zT_seg t9_md_laysRow ?_
  obtain ⟨TT, hTT⟩ : ∃ T, T = zT X zFT (zEx 157 S_md_octet zE0) zc_238 o := ⟨_, rfl⟩
  rw [← hTT]
  refine zb_el h (fun hb h => zU_t hTT hb ?_) (fun hb h => zU_f hTT hb ?_)
  · refine zg_el h (fun hg h => zU_ga hTT hg ?_)
    rw [hTT]
    have hz := zsi h hq
    refine zR2_hp ?_ ?_ hz
    · first | with_reducible rfl | exact hA0_md_laysRow _ _ _
    · first | with_reducible rfl | rfl
  · refine zg_el h (fun hg h => zU_ga hTT hg ?_)
    refine zg_el h (fun hg h => zU_g hTT hg ?_)
    refine zl_el h (fun h => zU_l hTT ?_)
    refine zg_el h (fun hg h => zU_g hTT hg ?_)
    refine zl_el h (fun h => zU_l hTT ?_)
    refine zb_el h (fun hb h => zU_t hTT hb ?_) (fun hb h => zU_f hTT hb ?_)
    · refine zg_el h (fun hg h => zU_ga hTT hg ?_)
      rw [hTT]
      have hz := zsi h hq
      refine zR2_hp ?_ ?_ hz
      · first | with_reducible rfl | exact hA0_md_laysRow _ _ _
      · first | with_reducible rfl | rfl
    · refine zg_el h (fun hg h => zU_ga hTT hg ?_)
      refine zg_el h (fun hg h => zU_ga hTT hg ?_)
      rw [hTT]
      have hz := zsi h hq
      refine zR2_hp ?_ ?_ hz
      · first | with_reducible rfl | exact hA0_md_laysRow _ _ _
      · first | with_reducible rfl | rfl
set_option maxRecDepth 1000000 in
theorem t2_md_laysRow {X : Nat × (Nat → Int32)} {ar fi : Nat → Nat → Int32} {m1 m2 m3 m4 m5 : Nat} {x : Int32} {l2 : Int32} {b94 : Nat → Int32} {G_md_octet : Int32 → (Nat → Int32) → Bool} {W_md_octet : Int32 → (Nat → Int32) → Int32} : zseg X zFT (zEx 157 (P_md_octet G_md_octet W_md_octet) zE0) zc_238 (fun p => Nat.beq p 2 || Nat.beq p 9) 400 2 [.ref 64, .int x, .int l2] [] ((zua ar 94 b94), fi, (m1, m2, m3, m4, m5)) = (
  bif decide (x ≤ l2) then
   some (.inr (none, ((zua ar 94 b94), fi, (m1, m2, m3, m4, m5))))
  else
   some (.inl (9, [.ref 64, .int x, .int l2, .int l2], [], ((zua ar 94 b94), fi, (m1, m2, m3, m4, m5)))) : Option ((Nat × List Value × List Value × zH2) ⊕ zO2)) := by with_unfolding_all rfl
set_option maxRecDepth 20000 in
theorem k_md_laysRow_2 {X : Nat × (Nat → Int32)} {ar fi : Nat → Nat → Int32} {m1 m2 m3 m4 m5 : Nat} {x : Int32} {o : zO2} : ∀ (s : U_md_laysRow_2) (q : U_md_laysRow_2 ⊕ T_md_laysRow), f_md_laysRow_2 x (ar 70) s = some q → zq (M_md_laysRow_2 X (zEx 157 S_md_octet zE0) ar fi m1 m2 m3 m4 m5 x o) (fun t => O_md_laysRow ar fi m1 m2 m3 m4 m5 t = o) q → M_md_laysRow_2 X (zEx 157 S_md_octet zE0) ar fi m1 m2 m3 m4 m5 x o s := by
  intro s q h hq
  obtain ⟨l2, b94⟩ := s
  have h : b_md_laysRow_2 x (ar 70) l2 b94 = some q := h
  unfold b_md_laysRow_2 at h
  show zR2 X zFT (zEx 157 S_md_octet zE0) zc_238 2 [.ref 64, .int x, .int l2] [] ((zua ar 94 b94), fi, (m1, m2, m3, m4, m5)) o
  refine zT_seg t2_md_laysRow ?_
  obtain ⟨TT, hTT⟩ : ∃ T, T = zT X zFT (zEx 157 S_md_octet zE0) zc_238 o := ⟨_, rfl⟩
  rw [← hTT]
  refine zb_el h (fun hb h => zU_t hTT hb ?_) (fun hb h => zU_f hTT hb ?_)
  · rw [hTT]
    have hz := zsi h hq
    refine (zO_mk ?_ ?_).trans hz
    · first | with_reducible rfl | exact hA1_md_laysRow _ _
    · first | with_reducible rfl | rfl
  · rw [hTT]
    refine zR2_hp ?_ ?_ (zlp_K k_md_laysRow_9 h hq)
    · first | with_reducible rfl | exact hA1_md_laysRow _ _
    · first | with_reducible rfl | rfl
set_option maxRecDepth 1000000 in
theorem t_md_laysRow {X : Nat × (Nat → Int32)} {ar fi : Nat → Nat → Int32} {m1 m2 m3 m4 m5 : Nat} {x : Int32} {G_md_octet : Int32 → (Nat → Int32) → Bool} {W_md_octet : Int32 → (Nat → Int32) → Int32} : zseg X zFT (zEx 157 (P_md_octet G_md_octet W_md_octet) zE0) zc_238 (fun p => Nat.beq p 2 || Nat.beq p 9) 400 0 [.ref 64, .int x] [] (ar, fi, (m1, m2, m3, m4, m5)) = (
  some (.inl (2, [.ref 64, .int x, .int 0], [], (ar, fi, (m1, m2, m3, m4, m5)))) : Option ((Nat × List Value × List Value × zH2) ⊕ zO2)) := by with_unfolding_all rfl
set_option maxRecDepth 20000 in
theorem e_md_laysRow {X : Nat × (Nat → Int32)} {ar fi : Nat → Nat → Int32} {m1 m2 m3 m4 m5 : Nat} {x : Int32} {o : zO2} : ∀ (q : T_md_laysRow), q_md_laysRow x (ar 70) (ar 94) = some q → (fun t => O_md_laysRow ar fi m1 m2 m3 m4 m5 t = o) q → zR2 X zFT (zEx 157 S_md_octet zE0) zc_238 0 [.ref 64, .int x] [] (ar, fi, (m1, m2, m3, m4, m5)) o := by
  intro q h hq
  unfold q_md_laysRow at h
  refine zT_seg t_md_laysRow ?_
  obtain ⟨TT, hTT⟩ : ∃ T, T = zT X zFT (zEx 157 S_md_octet zE0) zc_238 o := ⟨_, rfl⟩
  rw [← hTT]
  rw [hTT]
  refine zR2_hp ?_ ?_ (zlp_K k_md_laysRow_2 h hq)
  · first | with_reducible rfl | exact hA2_md_laysRow _
  · first | with_reducible rfl | rfl
theorem ok_md_laysRow (X : Nat × (Nat → Int32)) : zOkS X 238 S_md_laysRow 2 := zOkS_new (zOkE_cons (ok_md_octet X) (by decide) (zOkE_nil X 1)) (by
  intro args g o h
  obtain ⟨ar, fi, m1, m2, m3, m4, m5⟩ := g
  unfold S_md_laysRow P_md_laysRow at h
  split at h
  · refine zb_el h (fun hI0 k0 => ?_) (fun _ h10 => ?_)
    · try simp only [Bool.and_eq_true] at hI0
      have j0 := hI0
      have e0 := Nat.eq_of_beq_eq_true j0
      subst e0
      exact zpe_el k0 (fun t ht ho => e_md_laysRow t ht ho)
    · cases h10
  · cases h)
