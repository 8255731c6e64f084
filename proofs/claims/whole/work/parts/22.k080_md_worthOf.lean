abbrev T_md_worthOf : Type := Int32
abbrev U_md_worthOf_8 : Type := Int32 × Int32 × Int32
def b_md_worthOf_8 (x : Int32) (y : Int32) (a70 : Nat → Int32) (a94 : Nat → Int32) (l3 : Int32) (l4 : Int32) (l5 : Int32) : Option (U_md_worthOf_8 ⊕ T_md_worthOf) :=
  bif decide (y ≤ l5) then
   some (.inr l4)
  else
   zg (zin l5 10) (
   zl (w_md_has x (a94 (l5.toNatClampNeg))) (fun v1 =>
   bif !decide (v1 = 0) then
    zg (g_md_octet (3 * (a94 (l5.toNatClampNeg))) a70) (
    zl (w_md_octet (3 * (a94 (l5.toNatClampNeg))) a70) (fun v2 =>
    zg (g_md_octet ((3 * (a94 (l5.toNatClampNeg))) + 1) a70) (
    zl (w_md_octet ((3 * (a94 (l5.toNatClampNeg))) + 1) a70) (fun v3 =>
    zg (g_md_octet ((3 * (a94 (l5.toNatClampNeg))) + 2) a70) (
    zl (w_md_octet ((3 * (a94 (l5.toNatClampNeg))) + 2) a70) (fun v4 =>
    bif decide (l3 + v2 ≤ v4) then
     some (.inl (l3 + v2, l4 + v3, l5 + 1))
    else
     some (.inr 0)))))))
   else
    some (.inl (l3, l4, l5 + 1))))
def f_md_worthOf_8 (x : Int32) (y : Int32) (a70 : Nat → Int32) (a94 : Nat → Int32) : U_md_worthOf_8 → Option (U_md_worthOf_8 ⊕ T_md_worthOf) := fun s => b_md_worthOf_8 x y a70 a94 s.1 s.2.1 s.2.2
noncomputable def l_md_worthOf_8 (x : Int32) (y : Int32) (a70 : Nat → Int32) (a94 : Nat → Int32) (l3 : Int32) (l4 : Int32) (l5 : Int32) : Option T_md_worthOf := zlp (f_md_worthOf_8 x y a70 a94) (l3, l4, l5)
noncomputable def q_md_worthOf (x : Int32) (y : Int32) (a70 : Nat → Int32) (a94 : Nat → Int32) : Option T_md_worthOf :=
  l_md_worthOf_8 x y a70 a94 0 0 0
def P_md_worthOf (Q : Int32 → Int32 → (Nat → Int32) → (Nat → Int32) → Option (Int32)) : zSp := fun as g => match as with
  | [.ref a, .int x, .int y] => bif Nat.beq a 64 then zpe (Q x y (g.1 70) (g.1 94)) (fun t => (some (.int t), (g.1, g.2.1, g.2.2))) else none
  | _ => none
noncomputable abbrev S_md_worthOf : zSp := P_md_worthOf q_md_worthOf
def O_md_worthOf (ar fi : Nat → Nat → Int32) (m1 : Nat) (m2 : Nat) (m3 : Nat) (m4 : Nat) (m5 : Nat) (t : T_md_worthOf) : zO2 := (some (.int t), (ar, fi, (m1, m2, m3, m4, m5)))
def M_md_worthOf_8 (X : Nat × (Nat → Int32)) (E : zTE) (ar fi : Nat → Nat → Int32) (m1 : Nat) (m2 : Nat) (m3 : Nat) (m4 : Nat) (m5 : Nat) (x : Int32) (y : Int32) (o : zO2) (s : U_md_worthOf_8) : Prop := match s with
  | (l3, l4, l5) => zR2 X zFT E zc_239 8 [.ref 64, .int x, .int y, .int l3, .int l4, .int l5] [] (ar, fi, (m1, m2, m3, m4, m5)) o
set_option maxRecDepth 1000000 in
theorem t8_md_worthOf {X : Nat × (Nat → Int32)} {ar fi : Nat → Nat → Int32} {m1 m2 m3 m4 m5 : Nat} {x y : Int32} {l3 : Int32} {l4 : Int32} {l5 : Int32} {W_md_has : Int32 → Int32 → Int32} {G_md_octet : Int32 → (Nat → Int32) → Bool} {W_md_octet : Int32 → (Nat → Int32) → Int32} : zseg X zFT (zEx 146 (P_md_has W_md_has) (zEx 157 (P_md_octet G_md_octet W_md_octet) zE0)) zc_239 (fun p => Nat.beq p 8) 400 8 [.ref 64, .int x, .int y, .int l3, .int l4, .int l5] [] (ar, fi, (m1, m2, m3, m4, m5)) = (
  bif decide (y ≤ l5) then
   some (.inr (some (.int l4), (ar, fi, (m1, m2, m3, m4, m5))))
  else
   zg (Nat.beq 16 16 && (zin l5 10)) (
   zl (W_md_has x ((ar 94) (l5.toNatClampNeg))) (fun v1 =>
   bif !decide (v1 = 0) then
    zg (G_md_octet (3 * ((ar 94) (l5.toNatClampNeg))) (ar 70)) (
    zl (W_md_octet (3 * ((ar 94) (l5.toNatClampNeg))) (ar 70)) (fun v2 =>
    zg (G_md_octet ((3 * ((ar 94) (l5.toNatClampNeg))) + 1) (ar 70)) (
    zl (W_md_octet ((3 * ((ar 94) (l5.toNatClampNeg))) + 1) (ar 70)) (fun v3 =>
    zg (G_md_octet ((3 * ((ar 94) (l5.toNatClampNeg))) + 2) (ar 70)) (
    zl (W_md_octet ((3 * ((ar 94) (l5.toNatClampNeg))) + 2) (ar 70)) (fun v4 =>
    bif decide (l3 + v2 ≤ v4) then
     some (.inl (8, [.ref 64, .int x, .int y, .int (l3 + v2), .int (l4 + v3), .int (l5 + 1)], [], (ar, fi, (m1, m2, m3, m4, m5))))
    else
     some (.inr (some (.int 0), (ar, fi, (m1, m2, m3, m4, m5))))))))))
   else
    some (.inl (8, [.ref 64, .int x, .int y, .int l3, .int l4, .int (l5 + 1)], [], (ar, fi, (m1, m2, m3, m4, m5)))))) : Option ((Nat × List Value × List Value × zH2) ⊕ zO2)) := by with_unfolding_all rfl
set_option maxRecDepth 20000 in
theorem k_md_worthOf_8 {X : Nat × (Nat → Int32)} {ar fi : Nat → Nat → Int32} {m1 m2 m3 m4 m5 : Nat} {x y : Int32} {o : zO2} : ∀ (s : U_md_worthOf_8) (q : U_md_worthOf_8 ⊕ T_md_worthOf), f_md_worthOf_8 x y (ar 70) (ar 94) s = some q → zq (M_md_worthOf_8 X (zEx 146 S_md_has (zEx 157 S_md_octet zE0)) ar fi m1 m2 m3 m4 m5 x y o) (fun t => O_md_worthOf ar fi m1 m2 m3 m4 m5 t = o) q → M_md_worthOf_8 X (zEx 146 S_md_has (zEx 157 S_md_octet zE0)) ar fi m1 m2 m3 m4 m5 x y o s := by
  intro s q h hq
  obtain ⟨l3, l4, l5⟩ := s
  have h : b_md_worthOf_8 x y (ar 70) (ar 94) l3 l4 l5 = some q := h
  unfold b_md_worthOf_8 at h
  show zR2 X zFT (zEx 146 S_md_has (zEx 157 S_md_octet zE0)) zc_239 8 [.ref 64, .int x, .int y, .int l3, .int l4, .int l5] [] (ar, fi, (m1, m2, m3, m4, m5)) o
  refine zT_seg t8_md_worthOf ?_
  obtain ⟨TT, hTT⟩ : ∃ T, T = zT X zFT (zEx 146 S_md_has (zEx 157 S_md_octet zE0)) zc_239 o := ⟨_, rfl⟩
  rw [← hTT]
  refine zb_el h (fun hb h => zU_t hTT hb ?_) (fun hb h => zU_f hTT hb ?_)
  · rw [hTT]
    have hz := zsi h hq
    refine (zO_mk ?_ ?_).trans hz
    · first | with_reducible rfl | rfl
    · first | with_reducible rfl | rfl
  · refine zg_el h (fun hg h => zU_ga hTT hg ?_)
    refine zl_el h (fun h => zU_l hTT ?_)
    refine zb_el h (fun hb h => zU_t hTT hb ?_) (fun hb h => zU_f hTT hb ?_)
    · refine zg_el h (fun hg h => zU_g hTT hg ?_)
      refine zl_el h (fun h => zU_l hTT ?_)
      refine zg_el h (fun hg h => zU_g hTT hg ?_)
      refine zl_el h (fun h => zU_l hTT ?_)
      refine zg_el h (fun hg h => zU_g hTT hg ?_)
      refine zl_el h (fun h => zU_l hTT ?_)
      refine zb_el h (fun hb h => zU_t hTT hb ?_) (fun hb h => zU_f hTT hb ?_)
      · rw [hTT]
        have hz := zsi h hq
        refine zR2_hp ?_ ?_ hz
        · first | with_reducible rfl | rfl
        · first | with_reducible rfl | rfl
      · rw [hTT]
        have hz := zsi h hq
        refine (zO_mk ?_ ?_).trans hz
        · first | with_reducible rfl | rfl
        · first | with_reducible rfl | rfl
    · rw [hTT]
      have hz := zsi h hq
      refine zR2_hp ?_ ?_ hz
      · first | with_reducible rfl | rfl
      · first | with_reducible rfl | rfl
set_option maxRecDepth 1000000 in
theorem t_md_worthOf {X : Nat × (Nat → Int32)} {ar fi : Nat → Nat → Int32} {m1 m2 m3 m4 m5 : Nat} {x y : Int32} {W_md_has : Int32 → Int32 → Int32} {G_md_octet : Int32 → (Nat → Int32) → Bool} {W_md_octet : Int32 → (Nat → Int32) → Int32} : zseg X zFT (zEx 146 (P_md_has W_md_has) (zEx 157 (P_md_octet G_md_octet W_md_octet) zE0)) zc_239 (fun p => Nat.beq p 8) 400 0 [.ref 64, .int x, .int y] [] (ar, fi, (m1, m2, m3, m4, m5)) = (
  some (.inl (8, [.ref 64, .int x, .int y, .int 0, .int 0, .int 0], [], (ar, fi, (m1, m2, m3, m4, m5)))) : Option ((Nat × List Value × List Value × zH2) ⊕ zO2)) := by with_unfolding_all rfl
set_option maxRecDepth 20000 in
theorem e_md_worthOf {X : Nat × (Nat → Int32)} {ar fi : Nat → Nat → Int32} {m1 m2 m3 m4 m5 : Nat} {x y : Int32} {o : zO2} : ∀ (q : T_md_worthOf), q_md_worthOf x y (ar 70) (ar 94) = some q → (fun t => O_md_worthOf ar fi m1 m2 m3 m4 m5 t = o) q → zR2 X zFT (zEx 146 S_md_has (zEx 157 S_md_octet zE0)) zc_239 0 [.ref 64, .int x, .int y] [] (ar, fi, (m1, m2, m3, m4, m5)) o := by
  intro q h hq
  unfold q_md_worthOf at h
  refine zT_seg t_md_worthOf ?_
  obtain ⟨TT, hTT⟩ : ∃ T, T = zT X zFT (zEx 146 S_md_has (zEx 157 S_md_octet zE0)) zc_239 o := ⟨_, rfl⟩
  rw [← hTT]
  rw [hTT]
  refine zR2_hp ?_ ?_ (zlp_K k_md_worthOf_8 h hq)
  · first | with_reducible rfl | rfl
  · first | with_reducible rfl | rfl
theorem ok_md_worthOf (X : Nat × (Nat → Int32)) : zOkS X 239 S_md_worthOf 2 := zOkS_new (zOkE_cons (ok_md_has X) (by decide) (zOkE_cons (ok_md_octet X) (by decide) (zOkE_nil X 1))) (by
  intro args g o h
  obtain ⟨ar, fi, m1, m2, m3, m4, m5⟩ := g
  unfold S_md_worthOf P_md_worthOf at h
  split at h
  · refine zb_el h (fun hI0 k0 => ?_) (fun _ h10 => ?_)
    · try simp only [Bool.and_eq_true] at hI0
      have j0 := hI0
      have e0 := Nat.eq_of_beq_eq_true j0
      subst e0
      exact zpe_el k0 (fun t ht ho => e_md_worthOf t ht ho)
    · cases h10
  · cases h)
