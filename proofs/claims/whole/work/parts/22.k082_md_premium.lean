abbrev T_md_premium : Type := Int32 × Int32
abbrev U_md_premium_44 : Type := Int32 × Int32 × Int32
def b_md_premium_44 (x : Int32) (y : Int32) (a70 : Nat → Int32) (c64_6 : Int32) (l3 : Int32) (l4 : Int32) (l5 : Int32) : Option (U_md_premium_44 ⊕ T_md_premium) :=
  bif decide (x ≤ l5) then
   bif !decide (y = 0) then
    some (.inr (l4, c64_6))
   else
    some (.inr (l3, c64_6))
  else
   zg (g_md_octet ((2 * l5) + 1) a70) (
   zl (w_md_octet ((2 * l5) + 1) a70) (fun v3 =>
   bif decide (v3 ≤ 10) then
    zg (g_md_octet (2 * l5) a70) (
    zl (w_md_octet (2 * l5) a70) (fun v4 =>
    zg (g_md_octet ((2 * l5) + 1) a70) (
    zl (w_md_octet ((2 * l5) + 1) a70) (fun v5 =>
    zg (g_md_octet ((2 * l5) + 1) a70) (
    zl (w_md_octet ((2 * l5) + 1) a70) (fun v6 =>
    some (.inl (l3 + (v4 * v5), l4 * v6, l5 + 1))))))))
   else
    some (.inr ((-2), c64_6))))
def f_md_premium_44 (x : Int32) (y : Int32) (a70 : Nat → Int32) (c64_6 : Int32) : U_md_premium_44 → Option (U_md_premium_44 ⊕ T_md_premium) := fun s => b_md_premium_44 x y a70 c64_6 s.1 s.2.1 s.2.2
noncomputable def l_md_premium_44 (x : Int32) (y : Int32) (a70 : Nat → Int32) (c64_6 : Int32) (l3 : Int32) (l4 : Int32) (l5 : Int32) : Option T_md_premium := zlp (f_md_premium_44 x y a70 c64_6) (l3, l4, l5)
noncomputable def q_md_premium (x : Int32) (y : Int32) (a70 : Nat → Int32) (f64_6 : Int32) : Option T_md_premium :=
  zl (w_md_in x 1 8) (fun v1 =>
  bif decide (v1 = 0) then
   some ((-1), f64_6)
  else
   zl (w_md_in y 0 1) (fun v2 =>
   bif decide (v2 = 0) then
    some ((-1), f64_6)
   else
    bif decide (2 * x ≤ f64_6) then
     l_md_premium_44 x y a70 0 0 1 0
    else
     some ((-1), f64_6)))
def P_md_premium (Q : Int32 → Int32 → (Nat → Int32) → Int32 → Option (Int32 × Int32)) : zSp := fun as g => match as with
  | [.ref a, .int x, .int y] => bif Nat.beq a 64 then zpe (Q x y (g.1 70) (g.2.1 64 6)) (fun t => (some (.int (t.1)), (g.1, (zuf g.2.1 64 6 t.2), g.2.2))) else none
  | _ => none
noncomputable abbrev S_md_premium : zSp := P_md_premium q_md_premium
theorem hF1_md_premium (F : Nat → Nat → Int32) : F = (zuf F 64 6 (F 64 6)) := zufk_ix F [] [((64, 6), none)] rfl
theorem hF0_md_premium (F : Nat → Nat → Int32) (w0 : Int32) : (zuf F 64 6 w0) = (zuf F 64 6 w0) := zufk_ix F [((64, 6), w0)] [((64, 6), some 0)] rfl
def O_md_premium (ar fi : Nat → Nat → Int32) (m1 : Nat) (m2 : Nat) (m3 : Nat) (m4 : Nat) (m5 : Nat) (t : T_md_premium) : zO2 := match t with
  | (t0, t1) => (some (.int (t0)), (ar, (zuf fi 64 6 t1), (m1, m2, m3, m4, m5)))
def M_md_premium_44 (X : Nat × (Nat → Int32)) (E : zTE) (ar fi : Nat → Nat → Int32) (m1 : Nat) (m2 : Nat) (m3 : Nat) (m4 : Nat) (m5 : Nat) (x : Int32) (y : Int32) (c64_6 : Int32) (o : zO2) (s : U_md_premium_44) : Prop := match s with
  | (l3, l4, l5) => zR2 X zFT E zc_241 44 [.ref 64, .int x, .int y, .int l3, .int l4, .int l5] [] (ar, (zuf fi 64 6 c64_6), (m1, m2, m3, m4, m5)) o
set_option maxRecDepth 1000000 in
theorem t44_md_premium {X : Nat × (Nat → Int32)} {ar fi : Nat → Nat → Int32} {m1 m2 m3 m4 m5 : Nat} {x y : Int32} {l3 : Int32} {l4 : Int32} {l5 : Int32} {c64_6 : Int32} {W_md_in : Int32 → Int32 → Int32 → Int32} {G_md_octet : Int32 → (Nat → Int32) → Bool} {W_md_octet : Int32 → (Nat → Int32) → Int32} : zseg X zFT (zEx 143 (P_md_in W_md_in) (zEx 157 (P_md_octet G_md_octet W_md_octet) zE0)) zc_241 (fun p => Nat.beq p 44) 400 44 [.ref 64, .int x, .int y, .int l3, .int l4, .int l5] [] (ar, (zuf fi 64 6 c64_6), (m1, m2, m3, m4, m5)) = (
  bif decide (x ≤ l5) then
   bif !decide (y = 0) then
    some (.inr (some (.int l4), (ar, (zuf fi 64 6 c64_6), (m1, m2, m3, m4, m5))))
   else
    some (.inr (some (.int l3), (ar, (zuf fi 64 6 c64_6), (m1, m2, m3, m4, m5))))
  else
   zg (G_md_octet ((2 * l5) + 1) (ar 70)) (
   zl (W_md_octet ((2 * l5) + 1) (ar 70)) (fun v3 =>
   bif decide (v3 ≤ 10) then
    zg (G_md_octet (2 * l5) (ar 70)) (
    zl (W_md_octet (2 * l5) (ar 70)) (fun v4 =>
    zg (G_md_octet ((2 * l5) + 1) (ar 70)) (
    zl (W_md_octet ((2 * l5) + 1) (ar 70)) (fun v5 =>
    zg (G_md_octet ((2 * l5) + 1) (ar 70)) (
    zl (W_md_octet ((2 * l5) + 1) (ar 70)) (fun v6 =>
    some (.inl (44, [.ref 64, .int x, .int y, .int (l3 + (v4 * v5)), .int (l4 * v6), .int (l5 + 1)], [], (ar, (zuf fi 64 6 c64_6), (m1, m2, m3, m4, m5))))))))))
   else
    some (.inr (some (.int (-2)), (ar, (zuf fi 64 6 c64_6), (m1, m2, m3, m4, m5)))))) : Option ((Nat × List Value × List Value × zH2) ⊕ zO2)) := by with_unfolding_all rfl
set_option maxRecDepth 20000 in
theorem k_md_premium_44 {X : Nat × (Nat → Int32)} {ar fi : Nat → Nat → Int32} {m1 m2 m3 m4 m5 : Nat} {x y : Int32} {c64_6 : Int32} {o : zO2} : ∀ (s : U_md_premium_44) (q : U_md_premium_44 ⊕ T_md_premium), f_md_premium_44 x y (ar 70) c64_6 s = some q → zq (M_md_premium_44 X (zEx 143 S_md_in (zEx 157 S_md_octet zE0)) ar fi m1 m2 m3 m4 m5 x y c64_6 o) (fun t => O_md_premium ar fi m1 m2 m3 m4 m5 t = o) q → M_md_premium_44 X (zEx 143 S_md_in (zEx 157 S_md_octet zE0)) ar fi m1 m2 m3 m4 m5 x y c64_6 o s := by
  intro s q h hq
  obtain ⟨l3, l4, l5⟩ := s
  have h : b_md_premium_44 x y (ar 70) c64_6 l3 l4 l5 = some q := h
  unfold b_md_premium_44 at h
  show zR2 X zFT (zEx 143 S_md_in (zEx 157 S_md_octet zE0)) zc_241 44 [.ref 64, .int x, .int y, .int l3, .int l4, .int l5] [] (ar, (zuf fi 64 6 c64_6), (m1, m2, m3, m4, m5)) o
  refine zT_seg t44_md_premium ?_
  obtain ⟨TT, hTT⟩ : ∃ T, T = zT X zFT (zEx 143 S_md_in (zEx 157 S_md_octet zE0)) zc_241 o := ⟨_, rfl⟩
  rw [← hTT]
  refine zb_el h (fun hb h => zU_t hTT hb ?_) (fun hb h => zU_f hTT hb ?_)
  · refine zb_el h (fun hb h => zU_t hTT hb ?_) (fun hb h => zU_f hTT hb ?_)
    · rw [hTT]
      have hz := zsi h hq
      refine (zO_mk ?_ ?_).trans hz
      · first | with_reducible rfl | rfl
      · first | with_reducible rfl | exact hF0_md_premium _ _
    · rw [hTT]
      have hz := zsi h hq
      refine (zO_mk ?_ ?_).trans hz
      · first | with_reducible rfl | rfl
      · first | with_reducible rfl | exact hF0_md_premium _ _
  · refine zg_el h (fun hg h => zU_g hTT hg ?_)
    refine zl_el h (fun h => zU_l hTT ?_)
    refine zb_el h (fun hb h => zU_t hTT hb ?_) (fun hb h => zU_f hTT hb ?_)
    · refine zg_el h (fun hg h => zU_g hTT hg ?_)
      refine zl_el h (fun h => zU_l hTT ?_)
      refine zg_el h (fun hg h => zU_g hTT hg ?_)
      refine zl_el h (fun h => zU_l hTT ?_)
      refine zg_el h (fun hg h => zU_g hTT hg ?_)
      refine zl_el h (fun h => zU_l hTT ?_)
      rw [hTT]
      have hz := zsi h hq
      refine zR2_hp ?_ ?_ hz
      · first | with_reducible rfl | rfl
      · first | with_reducible rfl | exact hF0_md_premium _ _
    · rw [hTT]
      have hz := zsi h hq
      refine (zO_mk ?_ ?_).trans hz
      · first | with_reducible rfl | rfl
      · first | with_reducible rfl | exact hF0_md_premium _ _
set_option maxRecDepth 1000000 in
theorem t_md_premium {X : Nat × (Nat → Int32)} {ar fi : Nat → Nat → Int32} {m1 m2 m3 m4 m5 : Nat} {x y : Int32} {W_md_in : Int32 → Int32 → Int32 → Int32} {G_md_octet : Int32 → (Nat → Int32) → Bool} {W_md_octet : Int32 → (Nat → Int32) → Int32} : zseg X zFT (zEx 143 (P_md_in W_md_in) (zEx 157 (P_md_octet G_md_octet W_md_octet) zE0)) zc_241 (fun p => Nat.beq p 44) 400 0 [.ref 64, .int x, .int y] [] (ar, fi, (m1, m2, m3, m4, m5)) = (
  zl (W_md_in x 1 8) (fun v1 =>
  bif decide (v1 = 0) then
   some (.inr (some (.int (-1)), (ar, fi, (m1, m2, m3, m4, m5))))
  else
   zl (W_md_in y 0 1) (fun v2 =>
   bif decide (v2 = 0) then
    some (.inr (some (.int (-1)), (ar, fi, (m1, m2, m3, m4, m5))))
   else
    bif decide (2 * x ≤ fi 64 6) then
     some (.inl (44, [.ref 64, .int x, .int y, .int 0, .int 1, .int 0], [], (ar, (zuf fi 64 6 0), (m1, m2, m3, m4, m5))))
    else
     some (.inr (some (.int (-1)), (ar, fi, (m1, m2, m3, m4, m5)))))) : Option ((Nat × List Value × List Value × zH2) ⊕ zO2)) := by with_unfolding_all rfl
set_option maxRecDepth 20000 in
theorem e_md_premium {X : Nat × (Nat → Int32)} {ar fi : Nat → Nat → Int32} {m1 m2 m3 m4 m5 : Nat} {x y : Int32} {o : zO2} : ∀ (q : T_md_premium), q_md_premium x y (ar 70) (fi 64 6) = some q → (fun t => O_md_premium ar fi m1 m2 m3 m4 m5 t = o) q → zR2 X zFT (zEx 143 S_md_in (zEx 157 S_md_octet zE0)) zc_241 0 [.ref 64, .int x, .int y] [] (ar, fi, (m1, m2, m3, m4, m5)) o := by
  intro q h hq
  unfold q_md_premium at h
  refine zT_seg t_md_premium ?_
  obtain ⟨TT, hTT⟩ : ∃ T, T = zT X zFT (zEx 143 S_md_in (zEx 157 S_md_octet zE0)) zc_241 o := ⟨_, rfl⟩
  rw [← hTT]
  refine zl_el h (fun h => zU_l hTT ?_)
  refine zb_el h (fun hb h => zU_t hTT hb ?_) (fun hb h => zU_f hTT hb ?_)
  · rw [hTT]
    have hz := zsi (P := (fun t => O_md_premium ar fi m1 m2 m3 m4 m5 t = o)) h hq
    refine (zO_mk ?_ ?_).trans hz
    · first | with_reducible rfl | rfl
    · first | with_reducible rfl | exact hF1_md_premium _
  · refine zl_el h (fun h => zU_l hTT ?_)
    refine zb_el h (fun hb h => zU_t hTT hb ?_) (fun hb h => zU_f hTT hb ?_)
    · rw [hTT]
      have hz := zsi (P := (fun t => O_md_premium ar fi m1 m2 m3 m4 m5 t = o)) h hq
      refine (zO_mk ?_ ?_).trans hz
      · first | with_reducible rfl | rfl
      · first | with_reducible rfl | exact hF1_md_premium _
    · refine zb_el h (fun hb h => zU_t hTT hb ?_) (fun hb h => zU_f hTT hb ?_)
      · rw [hTT]
        refine zR2_hp ?_ ?_ (zlp_K k_md_premium_44 h hq)
        · first | with_reducible rfl | rfl
        · first | with_reducible rfl | exact hF0_md_premium _ _
      · rw [hTT]
        have hz := zsi (P := (fun t => O_md_premium ar fi m1 m2 m3 m4 m5 t = o)) h hq
        refine (zO_mk ?_ ?_).trans hz
        · first | with_reducible rfl | rfl
        · first | with_reducible rfl | exact hF1_md_premium _
theorem ok_md_premium (X : Nat × (Nat → Int32)) : zOkS X 241 S_md_premium 2 := zOkS_new (zOkE_cons (ok_md_in X) (by decide) (zOkE_cons (ok_md_octet X) (by decide) (zOkE_nil X 1))) (by
  intro args g o h
  obtain ⟨ar, fi, m1, m2, m3, m4, m5⟩ := g
  unfold S_md_premium P_md_premium at h
  split at h
  · refine zb_el h (fun hI0 k0 => ?_) (fun _ h10 => ?_)
    · try simp only [Bool.and_eq_true] at hI0
      have j0 := hI0
      have e0 := Nat.eq_of_beq_eq_true j0
      subst e0
      exact zpe_el k0 (fun t ht ho => by obtain ⟨t0, t1⟩ := t; exact e_md_premium _ ht ho)
    · cases h10
  · cases h)
