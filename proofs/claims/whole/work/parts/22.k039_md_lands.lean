abbrev T_md_lands : Type := (Nat → Int32) × Int32
abbrev U_md_lands_0 : Type := (Nat → Int32) × Int32
def b_md_lands_0 (x : Int32) (a72 : Nat → Int32) (f64_12 : Int32) (b71 : Nat → Int32) (c64_13 : Int32) : Option (U_md_lands_0 ⊕ T_md_lands) :=
  zg (g_md_waitTop c64_13 a72) (
  zl (w_md_waitTop c64_13 a72) (fun v1 =>
  bif decide (v1 = 11) then
   zg (zin (c64_13 - 1) 260) (
   zg (zin ((a72 ((c64_13 - 1).toNatClampNeg)) - (a72 ((c64_13 - 1).toNatClampNeg)) / 1048576 * 1048576) 260) (
   zg (zin ((a72 ((c64_13 - 1).toNatClampNeg)) - (a72 ((c64_13 - 1).toNatClampNeg)) / 1048576 * 1048576) 260) (
   some (.inl ((zup b71 (((a72 ((c64_13 - 1).toNatClampNeg)) - (a72 ((c64_13 - 1).toNatClampNeg)) / 1048576 * 1048576).toNatClampNeg) ((1048576 * ((b71 (((a72 ((c64_13 - 1).toNatClampNeg)) - (a72 ((c64_13 - 1).toNatClampNeg)) / 1048576 * 1048576).toNatClampNeg)) / 1048576)) + (f64_12))), c64_13 - 1)))))
  else
   bif decide (x = 0) then
    some (.inr (b71, c64_13))
   else
    zg (g_md_waitTop c64_13 a72) (
    zl (w_md_waitTop c64_13 a72) (fun v2 =>
    bif !decide (v2 = 12) then
     some (.inr (b71, c64_13))
    else
     zg (zin (c64_13 - 1) 260) (
     zg (zin ((a72 ((c64_13 - 1).toNatClampNeg)) - (a72 ((c64_13 - 1).toNatClampNeg)) / 1048576 * 1048576) 260) (
     zg (zin ((a72 ((c64_13 - 1).toNatClampNeg)) - (a72 ((c64_13 - 1).toNatClampNeg)) / 1048576 * 1048576) 260) (
     some (.inl ((zup b71 (((a72 ((c64_13 - 1).toNatClampNeg)) - (a72 ((c64_13 - 1).toNatClampNeg)) / 1048576 * 1048576).toNatClampNeg) ((1048576 * ((b71 (((a72 ((c64_13 - 1).toNatClampNeg)) - (a72 ((c64_13 - 1).toNatClampNeg)) / 1048576 * 1048576).toNatClampNeg)) / 1048576)) + (f64_12))), c64_13 - 1)))))))))
def f_md_lands_0 (x : Int32) (a72 : Nat → Int32) (f64_12 : Int32) : U_md_lands_0 → Option (U_md_lands_0 ⊕ T_md_lands) := fun s => b_md_lands_0 x a72 f64_12 s.1 s.2
noncomputable def l_md_lands_0 (x : Int32) (a72 : Nat → Int32) (f64_12 : Int32) (b71 : Nat → Int32) (c64_13 : Int32) : Option T_md_lands := zlp (f_md_lands_0 x a72 f64_12) (b71, c64_13)
noncomputable def q_md_lands (x : Int32) (a71 : Nat → Int32) (a72 : Nat → Int32) (f64_12 : Int32) (f64_13 : Int32) : Option T_md_lands :=
  l_md_lands_0 x a72 f64_12 a71 (f64_13)
def P_md_lands (Q : Int32 → (Nat → Int32) → (Nat → Int32) → Int32 → Int32 → Option ((Nat → Int32) × Int32)) : zSp := fun as g => match as with
  | [.ref a, .int x] => bif Nat.beq a 64 then zpe (Q x (g.1 71) (g.1 72) (g.2.1 64 12) (g.2.1 64 13)) (fun t => (none, ((zua g.1 71 t.1), (zuf g.2.1 64 13 t.2), g.2.2))) else none
  | _ => none
noncomputable abbrev S_md_lands : zSp := P_md_lands q_md_lands
theorem hF5_md_lands (F : Nat → Nat → Int32) : F = (zuf F 64 13 (F 64 13)) := zufk_ix F [] [((64, 13), none)] rfl
theorem hA4_md_lands (F : Nat → Nat → Int32) : F = (zua F 71 (F 71)) := zuak_ix F [] [(71, none)] rfl
theorem hF3_md_lands (F : Nat → Nat → Int32) (w0 : Int32) : (zuf F 64 13 w0) = (zuf F 64 13 w0) := zufk_ix F [((64, 13), w0)] [((64, 13), some 0)] rfl
theorem hA2_md_lands (F : Nat → Nat → Int32) (w0 : Nat → Int32) : (zua F 71 w0) = (zua F 71 w0) := zuak_ix F [(71, w0)] [(71, some 0)] rfl
theorem hF1_md_lands (F : Nat → Nat → Int32) (w0 w1 : Int32) : (zuf (zuf F 64 13 w0) 64 13 w1) = (zuf F 64 13 w1) := zufk_ix F [((64, 13), w0), ((64, 13), w1)] [((64, 13), some 1)] rfl
theorem hA0_md_lands (F : Nat → Nat → Int32) (w0 w1 : Nat → Int32) : (zua (zua F 71 w0) 71 w1) = (zua F 71 w1) := zuak_ix F [(71, w0), (71, w1)] [(71, some 1)] rfl
def O_md_lands (ar fi : Nat → Nat → Int32) (m1 : Nat) (m2 : Nat) (m3 : Nat) (m4 : Nat) (m5 : Nat) (t : T_md_lands) : zO2 := match t with
  | (t0, t1) => (none, ((zua ar 71 t0), (zuf fi 64 13 t1), (m1, m2, m3, m4, m5)))
def M_md_lands_0 (X : Nat × (Nat → Int32)) (E : zTE) (ar fi : Nat → Nat → Int32) (m1 : Nat) (m2 : Nat) (m3 : Nat) (m4 : Nat) (m5 : Nat) (x : Int32) (o : zO2) (s : U_md_lands_0) : Prop := match s with
  | (b71, c64_13) => zR2 X zFT E zc_173 0 [.ref 64, .int x] [] ((zua ar 71 b71), (zuf fi 64 13 c64_13), (m1, m2, m3, m4, m5)) o
set_option maxRecDepth 1000000 in
theorem t0_md_lands {X : Nat × (Nat → Int32)} {ar fi : Nat → Nat → Int32} {m1 m2 m3 m4 m5 : Nat} {x : Int32} {b71 : Nat → Int32} {c64_13 : Int32} {G_md_waitTop : Int32 → (Nat → Int32) → Bool} {W_md_waitTop : Int32 → (Nat → Int32) → Int32} : zseg X zFT (zEx 165 (P_md_waitTop G_md_waitTop W_md_waitTop) zE0) zc_173 (fun p => Nat.beq p 0 || Nat.beq p 22 || Nat.beq p 37) 400 0 [.ref 64, .int x] [] ((zua ar 71 b71), (zuf fi 64 13 c64_13), (m1, m2, m3, m4, m5)) = (
  zg (G_md_waitTop c64_13 (ar 72)) (
  zl (W_md_waitTop c64_13 (ar 72)) (fun v3 =>
  bif decide (v3 = 11) then
   some (.inl (22, [.ref 64, .int x], [], ((zua ar 71 b71), (zuf fi 64 13 c64_13), (m1, m2, m3, m4, m5))))
  else
   bif decide (x = 0) then
    some (.inr (none, ((zua ar 71 b71), (zuf fi 64 13 c64_13), (m1, m2, m3, m4, m5))))
   else
    zg (G_md_waitTop c64_13 (ar 72)) (
    zl (W_md_waitTop c64_13 (ar 72)) (fun v4 =>
    bif !decide (v4 = 12) then
     some (.inr (none, ((zua ar 71 b71), (zuf fi 64 13 c64_13), (m1, m2, m3, m4, m5))))
    else
     some (.inl (22, [.ref 64, .int x], [], ((zua ar 71 b71), (zuf fi 64 13 c64_13), (m1, m2, m3, m4, m5)))))))) : Option ((Nat × List Value × List Value × zH2) ⊕ zO2)) := by with_unfolding_all rfl
set_option maxRecDepth 1000000 in
theorem t0c22_md_lands {X : Nat × (Nat → Int32)} {ar fi : Nat → Nat → Int32} {m1 m2 m3 m4 m5 : Nat} {x : Int32} {b71 : Nat → Int32} {c64_13 : Int32} {G_md_waitTop : Int32 → (Nat → Int32) → Bool} {W_md_waitTop : Int32 → (Nat → Int32) → Int32} : zseg X zFT (zEx 165 (P_md_waitTop G_md_waitTop W_md_waitTop) zE0) zc_173 (fun p => Nat.beq p 0 || Nat.beq p 22 || Nat.beq p 37) 400 22 [.ref 64, .int x] [] ((zua ar 71 b71), (zuf fi 64 13 c64_13), (m1, m2, m3, m4, m5)) = (
  zg (Nat.beq 16 16 && (zin (c64_13 - 1) 260)) (
  zg (!decide ((1048576 : Int32) = 0)) (
  some (.inl (37, [.ref 64, .int x, .int (((ar 72) ((c64_13 - 1).toNatClampNeg)) - ((ar 72) ((c64_13 - 1).toNatClampNeg)) / 1048576 * 1048576)], [], ((zua ar 71 b71), (zuf fi 64 13 c64_13), (m1, m2, m3, m4, m5)))))) : Option ((Nat × List Value × List Value × zH2) ⊕ zO2)) := rfl
set_option maxRecDepth 1000000 in
theorem t0c37_md_lands {X : Nat × (Nat → Int32)} {ar fi : Nat → Nat → Int32} {m1 m2 m3 m4 m5 : Nat} {x : Int32} {l2 : Int32} {b71 : Nat → Int32} {c64_13 : Int32} {G_md_waitTop : Int32 → (Nat → Int32) → Bool} {W_md_waitTop : Int32 → (Nat → Int32) → Int32} : zseg X zFT (zEx 165 (P_md_waitTop G_md_waitTop W_md_waitTop) zE0) zc_173 (fun p => Nat.beq p 0 || Nat.beq p 22 || Nat.beq p 37) 400 37 [.ref 64, .int x, .int l2] [] ((zua ar 71 b71), (zuf fi 64 13 c64_13), (m1, m2, m3, m4, m5)) = (
  zg (Nat.beq 16 16 && (zin l2 260)) (
  zg (!decide ((1048576 : Int32) = 0)) (
  zg (Nat.beq 16 16 && (zin l2 260)) (
  some (.inl (0, [.ref 64, .int x], [], ((zua (zua ar 71 b71) 71 (zup b71 (l2.toNatClampNeg) ((1048576 * ((b71 (l2.toNatClampNeg)) / 1048576)) + (fi 64 12)))), (zuf (zuf fi 64 13 c64_13) 64 13 (c64_13 - 1)), (m1, m2, m3, m4, m5))))))) : Option ((Nat × List Value × List Value × zH2) ⊕ zO2)) := rfl
set_option maxRecDepth 20000 in
theorem k_md_lands_0 {X : Nat × (Nat → Int32)} {ar fi : Nat → Nat → Int32} {m1 m2 m3 m4 m5 : Nat} {x : Int32} {o : zO2} : ∀ (s : U_md_lands_0) (q : U_md_lands_0 ⊕ T_md_lands), f_md_lands_0 x (ar 72) (fi 64 12) s = some q → zq (M_md_lands_0 X (zEx 165 S_md_waitTop zE0) ar fi m1 m2 m3 m4 m5 x o) (fun t => O_md_lands ar fi m1 m2 m3 m4 m5 t = o) q → M_md_lands_0 X (zEx 165 S_md_waitTop zE0) ar fi m1 m2 m3 m4 m5 x o s := by
  intro s q h hq
  obtain ⟨b71, c64_13⟩ := s
  have h : b_md_lands_0 x (ar 72) (fi 64 12) b71 c64_13 = some q := h
  unfold b_md_lands_0 at h
  show zR2 X zFT (zEx 165 S_md_waitTop zE0) zc_173 0 [.ref 64, .int x] [] ((zua ar 71 b71), (zuf fi 64 13 c64_13), (m1, m2, m3, m4, m5)) o
  refine zT_seg t0_md_lands ?_
  obtain ⟨TT, hTT⟩ : ∃ T, T = zT X zFT (zEx 165 S_md_waitTop zE0) zc_173 o := ⟨_, rfl⟩
  rw [← hTT]
  refine zg_el h (fun hg h => zU_g hTT hg ?_)
  refine zl_el h (fun h => zU_l hTT ?_)
  refine zb_el h (fun hb h => zU_t hTT hb ?_) (fun hb h => zU_f hTT hb ?_)
  · rw [hTT]
    refine zT_seg t0c22_md_lands ?_
    rw [← hTT]
    refine zg_el h (fun hg h => zU_ga hTT hg ?_)
    refine zU_g hTT rfl ?_
    rw [hTT]
    refine zT_seg t0c37_md_lands ?_
    rw [← hTT]
    refine zg_el h (fun hg h => zU_ga hTT hg ?_)
    refine zU_g hTT rfl ?_
    refine zg_el h (fun hg h => zU_ga hTT hg ?_)
    rw [hTT]
    have hz := zsi h hq
    refine zR2_hp ?_ ?_ hz
    · first | with_reducible rfl | exact hA0_md_lands _ _ _
    · first | with_reducible rfl | exact hF1_md_lands _ _ _
  · refine zb_el h (fun hb h => zU_t hTT hb ?_) (fun hb h => zU_f hTT hb ?_)
    · rw [hTT]
      have hz := zsi h hq
      refine (zO_mk ?_ ?_).trans hz
      · first | with_reducible rfl | exact hA2_md_lands _ _
      · first | with_reducible rfl | exact hF3_md_lands _ _
    · refine zg_el h (fun hg h => zU_g hTT hg ?_)
      refine zl_el h (fun h => zU_l hTT ?_)
      refine zb_el h (fun hb h => zU_t hTT hb ?_) (fun hb h => zU_f hTT hb ?_)
      · rw [hTT]
        have hz := zsi h hq
        refine (zO_mk ?_ ?_).trans hz
        · first | with_reducible rfl | exact hA2_md_lands _ _
        · first | with_reducible rfl | exact hF3_md_lands _ _
      · rw [hTT]
        refine zT_seg t0c22_md_lands ?_
        rw [← hTT]
        refine zg_el h (fun hg h => zU_ga hTT hg ?_)
        refine zU_g hTT rfl ?_
        rw [hTT]
        refine zT_seg t0c37_md_lands ?_
        rw [← hTT]
        refine zg_el h (fun hg h => zU_ga hTT hg ?_)
        refine zU_g hTT rfl ?_
        refine zg_el h (fun hg h => zU_ga hTT hg ?_)
        rw [hTT]
        have hz := zsi h hq
        refine zR2_hp ?_ ?_ hz
        · first | with_reducible rfl | exact hA0_md_lands _ _ _
        · first | with_reducible rfl | exact hF1_md_lands _ _ _
set_option maxRecDepth 20000 in
theorem e_md_lands {X : Nat × (Nat → Int32)} {ar fi : Nat → Nat → Int32} {m1 m2 m3 m4 m5 : Nat} {x : Int32} {o : zO2} : ∀ (q : T_md_lands), q_md_lands x (ar 71) (ar 72) (fi 64 12) (fi 64 13) = some q → (fun t => O_md_lands ar fi m1 m2 m3 m4 m5 t = o) q → zR2 X zFT (zEx 165 S_md_waitTop zE0) zc_173 0 [.ref 64, .int x] [] (ar, fi, (m1, m2, m3, m4, m5)) o := by
  intro q h hq
  unfold q_md_lands at h
  refine zR2_hp ?_ ?_ (zlp_K k_md_lands_0 h hq)
  · first | with_reducible rfl | exact hA4_md_lands _
  · first | with_reducible rfl | exact hF5_md_lands _
theorem ok_md_lands (X : Nat × (Nat → Int32)) : zOkS X 173 S_md_lands 2 := zOkS_new (zOkE_cons (ok_md_waitTop X) (by decide) (zOkE_nil X 1)) (by
  intro args g o h
  obtain ⟨ar, fi, m1, m2, m3, m4, m5⟩ := g
  unfold S_md_lands P_md_lands at h
  split at h
  · refine zb_el h (fun hI0 k0 => ?_) (fun _ h10 => ?_)
    · try simp only [Bool.and_eq_true] at hI0
      have j0 := hI0
      have e0 := Nat.eq_of_beq_eq_true j0
      subst e0
      exact zpe_el k0 (fun t ht ho => by obtain ⟨t0, t1⟩ := t; exact e_md_lands _ ht ho)
    · cases h10
  · cases h)
