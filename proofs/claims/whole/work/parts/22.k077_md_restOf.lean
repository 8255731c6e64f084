abbrev T_md_restOf : Type := Int32
abbrev U_md_restOf_14 : Type := Int32 × Int32
def b_md_restOf_14 (x : Int32) (y : Int32) (z : Int32) (a70 : Nat → Int32) (l4 : Int32) (l5 : Int32) : Option (U_md_restOf_14 ⊕ T_md_restOf) :=
  bif decide (y ≤ l5) then
   some (.inr l4)
  else
   bif decide (l5 = x) then
    some (.inl (l4, l5 + 1))
   else
    zl (w_md_has z l5) (fun v2 =>
    bif !decide (v2 = 0) then
     some (.inl (l4, l5 + 1))
    else
     zg (g_md_octet ((y * l5) + x) a70) (
     zl (w_md_octet ((y * l5) + x) a70) (fun v3 =>
     zg (g_md_octet ((y * x) + l5) a70) (
     zl (w_md_octet ((y * x) + l5) a70) (fun v4 =>
     some (.inl ((l4 + v3) - v4, l5 + 1)))))))
def f_md_restOf_14 (x : Int32) (y : Int32) (z : Int32) (a70 : Nat → Int32) : U_md_restOf_14 → Option (U_md_restOf_14 ⊕ T_md_restOf) := fun s => b_md_restOf_14 x y z a70 s.1 s.2
noncomputable def l_md_restOf_14 (x : Int32) (y : Int32) (z : Int32) (a70 : Nat → Int32) (l4 : Int32) (l5 : Int32) : Option T_md_restOf := zlp (f_md_restOf_14 x y z a70) (l4, l5)
noncomputable def q_md_restOf (x : Int32) (y : Int32) (z : Int32) (a70 : Nat → Int32) : Option T_md_restOf :=
  zg (g_md_octet ((y * x) + x) a70) (
  zl (w_md_octet ((y * x) + x) a70) (fun v1 =>
  l_md_restOf_14 x y z a70 v1 0))
def P_md_restOf (Q : Int32 → Int32 → Int32 → (Nat → Int32) → Option (Int32)) : zSp := fun as g => match as with
  | [.ref a, .int x, .int y, .int z] => bif Nat.beq a 64 then zpe (Q x y z (g.1 70)) (fun t => (some (.int t), (g.1, g.2.1, g.2.2))) else none
  | _ => none
noncomputable abbrev S_md_restOf : zSp := P_md_restOf q_md_restOf
def O_md_restOf (ar fi : Nat → Nat → Int32) (m1 : Nat) (m2 : Nat) (m3 : Nat) (m4 : Nat) (m5 : Nat) (t : T_md_restOf) : zO2 := (some (.int t), (ar, fi, (m1, m2, m3, m4, m5)))
def M_md_restOf_14 (X : Nat × (Nat → Int32)) (E : zTE) (ar fi : Nat → Nat → Int32) (m1 : Nat) (m2 : Nat) (m3 : Nat) (m4 : Nat) (m5 : Nat) (x : Int32) (y : Int32) (z : Int32) (o : zO2) (s : U_md_restOf_14) : Prop := match s with
  | (l4, l5) => zR2 X zFT E zc_236 14 [.ref 64, .int x, .int y, .int z, .int l4, .int l5] [] (ar, fi, (m1, m2, m3, m4, m5)) o
set_option maxRecDepth 1000000 in
theorem t14_md_restOf {X : Nat × (Nat → Int32)} {ar fi : Nat → Nat → Int32} {m1 m2 m3 m4 m5 : Nat} {x y z : Int32} {l4 : Int32} {l5 : Int32} {G_md_octet : Int32 → (Nat → Int32) → Bool} {W_md_octet : Int32 → (Nat → Int32) → Int32} {W_md_has : Int32 → Int32 → Int32} : zseg X zFT (zEx 157 (P_md_octet G_md_octet W_md_octet) (zEx 146 (P_md_has W_md_has) zE0)) zc_236 (fun p => Nat.beq p 14) 400 14 [.ref 64, .int x, .int y, .int z, .int l4, .int l5] [] (ar, fi, (m1, m2, m3, m4, m5)) = (
  bif decide (y ≤ l5) then
   some (.inr (some (.int l4), (ar, fi, (m1, m2, m3, m4, m5))))
  else
   bif decide (l5 = x) then
    some (.inl (14, [.ref 64, .int x, .int y, .int z, .int l4, .int (l5 + 1)], [], (ar, fi, (m1, m2, m3, m4, m5))))
   else
    zl (W_md_has z l5) (fun v2 =>
    bif !decide (v2 = 0) then
     some (.inl (14, [.ref 64, .int x, .int y, .int z, .int l4, .int (l5 + 1)], [], (ar, fi, (m1, m2, m3, m4, m5))))
    else
     zg (G_md_octet ((y * l5) + x) (ar 70)) (
     zl (W_md_octet ((y * l5) + x) (ar 70)) (fun v3 =>
     zg (G_md_octet ((y * x) + l5) (ar 70)) (
     zl (W_md_octet ((y * x) + l5) (ar 70)) (fun v4 =>
     some (.inl (14, [.ref 64, .int x, .int y, .int z, .int ((l4 + v3) - v4), .int (l5 + 1)], [], (ar, fi, (m1, m2, m3, m4, m5))))))))) : Option ((Nat × List Value × List Value × zH2) ⊕ zO2)) := by with_unfolding_all rfl
set_option maxRecDepth 20000 in
theorem k_md_restOf_14 {X : Nat × (Nat → Int32)} {ar fi : Nat → Nat → Int32} {m1 m2 m3 m4 m5 : Nat} {x y z : Int32} {o : zO2} : ∀ (s : U_md_restOf_14) (q : U_md_restOf_14 ⊕ T_md_restOf), f_md_restOf_14 x y z (ar 70) s = some q → zq (M_md_restOf_14 X (zEx 157 S_md_octet (zEx 146 S_md_has zE0)) ar fi m1 m2 m3 m4 m5 x y z o) (fun t => O_md_restOf ar fi m1 m2 m3 m4 m5 t = o) q → M_md_restOf_14 X (zEx 157 S_md_octet (zEx 146 S_md_has zE0)) ar fi m1 m2 m3 m4 m5 x y z o s := by
  intro s q h hq
  obtain ⟨l4, l5⟩ := s
  have h : b_md_restOf_14 x y z (ar 70) l4 l5 = some q := h
  unfold b_md_restOf_14 at h
  show zR2 X zFT (zEx 157 S_md_octet (zEx 146 S_md_has zE0)) zc_236 14 [.ref 64, .int x, .int y, .int z, .int l4, .int l5] [] (ar, fi, (m1, m2, m3, m4, m5)) o
  refine zT_seg t14_md_restOf ?_
  obtain ⟨TT, hTT⟩ : ∃ T, T = zT X zFT (zEx 157 S_md_octet (zEx 146 S_md_has zE0)) zc_236 o := ⟨_, rfl⟩
  rw [← hTT]
  refine zb_el h (fun hb h => zU_t hTT hb ?_) (fun hb h => zU_f hTT hb ?_)
  · rw [hTT]
    have hz := zsi h hq
    refine (zO_mk ?_ ?_).trans hz
    · first | with_reducible rfl | rfl
    · first | with_reducible rfl | rfl
  · refine zb_el h (fun hb h => zU_t hTT hb ?_) (fun hb h => zU_f hTT hb ?_)
    · rw [hTT]
      have hz := zsi h hq
      refine zR2_hp ?_ ?_ hz
      · first | with_reducible rfl | rfl
      · first | with_reducible rfl | rfl
    · refine zl_el h (fun h => zU_l hTT ?_)
      refine zb_el h (fun hb h => zU_t hTT hb ?_) (fun hb h => zU_f hTT hb ?_)
      · rw [hTT]
        have hz := zsi h hq
        refine zR2_hp ?_ ?_ hz
        · first | with_reducible rfl | rfl
        · first | with_reducible rfl | rfl
      · refine zg_el h (fun hg h => zU_g hTT hg ?_)
        refine zl_el h (fun h => zU_l hTT ?_)
        refine zg_el h (fun hg h => zU_g hTT hg ?_)
        refine zl_el h (fun h => zU_l hTT ?_)
        rw [hTT]
        have hz := zsi h hq
        refine zR2_hp ?_ ?_ hz
        · first | with_reducible rfl | rfl
        · first | with_reducible rfl | rfl
set_option maxRecDepth 1000000 in
theorem t_md_restOf {X : Nat × (Nat → Int32)} {ar fi : Nat → Nat → Int32} {m1 m2 m3 m4 m5 : Nat} {x y z : Int32} {G_md_octet : Int32 → (Nat → Int32) → Bool} {W_md_octet : Int32 → (Nat → Int32) → Int32} {W_md_has : Int32 → Int32 → Int32} : zseg X zFT (zEx 157 (P_md_octet G_md_octet W_md_octet) (zEx 146 (P_md_has W_md_has) zE0)) zc_236 (fun p => Nat.beq p 14) 400 0 [.ref 64, .int x, .int y, .int z] [] (ar, fi, (m1, m2, m3, m4, m5)) = (
  zg (G_md_octet ((y * x) + x) (ar 70)) (
  zl (W_md_octet ((y * x) + x) (ar 70)) (fun v1 =>
  some (.inl (14, [.ref 64, .int x, .int y, .int z, .int v1, .int 0], [], (ar, fi, (m1, m2, m3, m4, m5)))))) : Option ((Nat × List Value × List Value × zH2) ⊕ zO2)) := by with_unfolding_all rfl
set_option maxRecDepth 20000 in
theorem e_md_restOf {X : Nat × (Nat → Int32)} {ar fi : Nat → Nat → Int32} {m1 m2 m3 m4 m5 : Nat} {x y z : Int32} {o : zO2} : ∀ (q : T_md_restOf), q_md_restOf x y z (ar 70) = some q → (fun t => O_md_restOf ar fi m1 m2 m3 m4 m5 t = o) q → zR2 X zFT (zEx 157 S_md_octet (zEx 146 S_md_has zE0)) zc_236 0 [.ref 64, .int x, .int y, .int z] [] (ar, fi, (m1, m2, m3, m4, m5)) o := by
  intro q h hq
  unfold q_md_restOf at h
  refine zT_seg t_md_restOf ?_
  obtain ⟨TT, hTT⟩ : ∃ T, T = zT X zFT (zEx 157 S_md_octet (zEx 146 S_md_has zE0)) zc_236 o := ⟨_, rfl⟩
  rw [← hTT]
  refine zg_el h (fun hg h => zU_g hTT hg ?_)
  refine zl_el h (fun h => zU_l hTT ?_)
  rw [hTT]
  refine zR2_hp ?_ ?_ (zlp_K k_md_restOf_14 h hq)
  · first | with_reducible rfl | rfl
  · first | with_reducible rfl | rfl
theorem ok_md_restOf (X : Nat × (Nat → Int32)) : zOkS X 236 S_md_restOf 2 := zOkS_new (zOkE_cons (ok_md_octet X) (by decide) (zOkE_cons (ok_md_has X) (by decide) (zOkE_nil X 1))) (by
  intro args g o h
  obtain ⟨ar, fi, m1, m2, m3, m4, m5⟩ := g
  unfold S_md_restOf P_md_restOf at h
  split at h
  · refine zb_el h (fun hI0 k0 => ?_) (fun _ h10 => ?_)
    · try simp only [Bool.and_eq_true] at hI0
      have j0 := hI0
      have e0 := Nat.eq_of_beq_eq_true j0
      subst e0
      exact zpe_el k0 (fun t ht ho => e_md_restOf t ht ho)
    · cases h10
  · cases h)
