abbrev T_cu_enter : Type := (Nat → Int32) × (Nat → Int32) × Int32
abbrev U_cu_enter_20 : Type := Int32 × (Nat → Int32) × (Nat → Int32) × Int32
def b_cu_enter_20 (y : Int32) (a3 : Nat → Int32) (a59 : Nat → Int32) (l3 : Int32) (b60 : Nat → Int32) (b61 : Nat → Int32) (c57_4 : Int32) : Option (U_cu_enter_20 ⊕ T_cu_enter) :=
  bif decide (4 ≤ l3) then
   some (.inr (b60, b61, c57_4))
  else
   zl (w_if_nextTo y l3) (fun v4 =>
   bif decide (v4 < 0) then
    some (.inl (l3 + 1, b60, b61, c57_4))
   else
    zg (zin v4 96) (
    bif !decide (a3 (v4.toNatClampNeg) = 1) then
     some (.inl (l3 + 1, b60, b61, c57_4))
    else
     zg (zin ((4 * v4) + ((l3 + 2) - (l3 + 2) / 4 * 4)) 384) (
     bif decide (a59 (((4 * v4) + ((l3 + 2) - (l3 + 2) / 4 * 4)).toNatClampNeg) = 0) then
      some (.inl (l3 + 1, b60, b61, c57_4))
     else
      zg (g_cu_visit (96 + v4) y b60 c57_4 b61) (
      zl (a0_cu_visit (96 + v4) y b60 c57_4 b61) (fun v5 =>
      zl (a1_cu_visit (96 + v4) y b60 c57_4 b61) (fun v6 =>
      zl (f0_cu_visit (96 + v4) y b60 c57_4 b61) (fun v7 =>
      some (.inl (l3 + 1, v5, v6, v7)))))))))
def f_cu_enter_20 (y : Int32) (a3 : Nat → Int32) (a59 : Nat → Int32) : U_cu_enter_20 → Option (U_cu_enter_20 ⊕ T_cu_enter) := fun s => b_cu_enter_20 y a3 a59 s.1 s.2.1 s.2.2.1 s.2.2.2
noncomputable def l_cu_enter_20 (y : Int32) (a3 : Nat → Int32) (a59 : Nat → Int32) (l3 : Int32) (b60 : Nat → Int32) (b61 : Nat → Int32) (c57_4 : Int32) : Option T_cu_enter := zlp (f_cu_enter_20 y a3 a59) (l3, b60, b61, c57_4)
noncomputable def q_cu_enter (y : Int32) (a3 : Nat → Int32) (a58 : Nat → Int32) (a59 : Nat → Int32) (a60 : Nat → Int32) (a61 : Nat → Int32) (f57_4 : Int32) : Option T_cu_enter :=
  zg (zin y 96) (
  bif !decide (a58 (y.toNatClampNeg) = 0) then
   l_cu_enter_20 y a3 a59 0 a60 a61 (f57_4)
  else
   zg (g_cu_visit (96 + y) y a60 (f57_4) a61) (
   zl (a0_cu_visit (96 + y) y a60 (f57_4) a61) (fun v1 =>
   zl (a1_cu_visit (96 + y) y a60 (f57_4) a61) (fun v2 =>
   zl (f0_cu_visit (96 + y) y a60 (f57_4) a61) (fun v3 =>
   l_cu_enter_20 y a3 a59 0 v1 v2 v3)))))
def P_cu_enter (Q : Int32 → (Nat → Int32) → (Nat → Int32) → (Nat → Int32) → (Nat → Int32) → (Nat → Int32) → Int32 → Option ((Nat → Int32) × (Nat → Int32) × Int32)) : zSp := fun as g => match as with
  | [.ref a, .ref b, .int y] => bif Nat.beq a 57 && Nat.beq b 3 then zpe (Q y (g.1 3) (g.1 58) (g.1 59) (g.1 60) (g.1 61) (g.2.1 57 4)) (fun t => (none, ((zua (zua g.1 60 t.1) 61 t.2.1), (zuf g.2.1 57 4 t.2.2), g.2.2))) else none
  | _ => none
noncomputable abbrev S_cu_enter : zSp := P_cu_enter q_cu_enter
theorem hF5_cu_enter (F : Nat → Nat → Int32) : F = (zuf F 57 4 (F 57 4)) := zufk_ix F [] [((57, 4), none)] rfl
theorem hA4_cu_enter (F : Nat → Nat → Int32) : F = (zua (zua F 60 (F 60)) 61 (F 61)) := zuak_ix F [] [(60, none), (61, none)] rfl
theorem hF3_cu_enter (F : Nat → Nat → Int32) (w0 w1 : Int32) : (zuf (zuf F 57 4 w0) 57 4 w1) = (zuf F 57 4 w1) := zufk_ix F [((57, 4), w0), ((57, 4), w1)] [((57, 4), some 1)] rfl
theorem hA2_cu_enter (F : Nat → Nat → Int32) (w0 w1 w2 w3 : Nat → Int32) : (zua (zua (zua (zua F 60 w0) 61 w1) 60 w2) 61 w3) = (zua (zua F 60 w2) 61 w3) := zuak_ix F [(60, w0), (61, w1), (60, w2), (61, w3)] [(60, some 2), (61, some 3)] rfl
theorem hF1_cu_enter (F : Nat → Nat → Int32) (w0 : Int32) : (zuf F 57 4 w0) = (zuf F 57 4 w0) := zufk_ix F [((57, 4), w0)] [((57, 4), some 0)] rfl
theorem hA0_cu_enter (F : Nat → Nat → Int32) (w0 w1 : Nat → Int32) : (zua (zua F 60 w0) 61 w1) = (zua (zua F 60 w0) 61 w1) := zuak_ix F [(60, w0), (61, w1)] [(60, some 0), (61, some 1)] rfl
def O_cu_enter (ar fi : Nat → Nat → Int32) (m1 : Nat) (m2 : Nat) (m3 : Nat) (m4 : Nat) (m5 : Nat) (t : T_cu_enter) : zO2 := match t with
  | (t0, t1, t2) => (none, ((zua (zua ar 60 t0) 61 t1), (zuf fi 57 4 t2), (m1, m2, m3, m4, m5)))
def M_cu_enter_20 (X : Nat × (Nat → Int32)) (E : zTE) (ar fi : Nat → Nat → Int32) (m1 : Nat) (m2 : Nat) (m3 : Nat) (m4 : Nat) (m5 : Nat) (y : Int32) (o : zO2) (s : U_cu_enter_20) : Prop := match s with
  | (l3, b60, b61, c57_4) => zR2 X zFT E zc_16 20 [.ref 57, .ref 3, .int y, .int l3] [] ((zua (zua ar 60 b60) 61 b61), (zuf fi 57 4 c57_4), (m1, m2, m3, m4, m5)) o
set_option maxRecDepth 1000000 in
theorem t20_cu_enter {X : Nat × (Nat → Int32)} {ar fi : Nat → Nat → Int32} {m1 m2 m3 m4 m5 : Nat} {y : Int32} {l3 : Int32} {b60 : Nat → Int32} {b61 : Nat → Int32} {c57_4 : Int32} {G_cu_visit : Int32 → Int32 → (Nat → Int32) → Int32 → (Nat → Int32) → Bool} {A0_cu_visit : Int32 → Int32 → (Nat → Int32) → Int32 → (Nat → Int32) → Nat → Int32} {A1_cu_visit : Int32 → Int32 → (Nat → Int32) → Int32 → (Nat → Int32) → Nat → Int32} {F0_cu_visit : Int32 → Int32 → (Nat → Int32) → Int32 → (Nat → Int32) → Int32} {W_if_nextTo : Int32 → Int32 → Int32} : zseg X zFT (zEx 14 (P_cu_visit G_cu_visit A0_cu_visit A1_cu_visit F0_cu_visit) (zEx 140 (P_if_nextTo W_if_nextTo) zE0)) zc_16 (fun p => Nat.beq p 20) 400 20 [.ref 57, .ref 3, .int y, .int l3] [] ((zua (zua ar 60 b60) 61 b61), (zuf fi 57 4 c57_4), (m1, m2, m3, m4, m5)) = (
  bif decide (4 ≤ l3) then
   some (.inr (none, ((zua (zua ar 60 b60) 61 b61), (zuf fi 57 4 c57_4), (m1, m2, m3, m4, m5))))
  else
   zl (W_if_nextTo y l3) (fun v4 =>
   bif decide (v4 < 0) then
    some (.inl (20, [.ref 57, .ref 3, .int y, .int (l3 + 1)], [], ((zua (zua ar 60 b60) 61 b61), (zuf fi 57 4 c57_4), (m1, m2, m3, m4, m5))))
   else
    zg (Nat.beq 16 16 && (zin v4 96)) (
    bif !decide ((ar 3) (v4.toNatClampNeg) = 1) then
     some (.inl (20, [.ref 57, .ref 3, .int y, .int (l3 + 1)], [], ((zua (zua ar 60 b60) 61 b61), (zuf fi 57 4 c57_4), (m1, m2, m3, m4, m5))))
    else
     zg (!decide ((4 : Int32) = 0)) (
     zg ((Nat.beq 18 17 || Nat.beq 18 18) && (zin ((4 * v4) + ((l3 + 2) - (l3 + 2) / 4 * 4)) 384)) (
     bif decide ((ar 59) (((4 * v4) + ((l3 + 2) - (l3 + 2) / 4 * 4)).toNatClampNeg) = 0) then
      some (.inl (20, [.ref 57, .ref 3, .int y, .int (l3 + 1)], [], ((zua (zua ar 60 b60) 61 b61), (zuf fi 57 4 c57_4), (m1, m2, m3, m4, m5))))
     else
      zg (G_cu_visit (96 + v4) y b60 c57_4 b61) (
      zl (A0_cu_visit (96 + v4) y b60 c57_4 b61) (fun v5 =>
      zl (A1_cu_visit (96 + v4) y b60 c57_4 b61) (fun v6 =>
      zl (F0_cu_visit (96 + v4) y b60 c57_4 b61) (fun v7 =>
      some (.inl (20, [.ref 57, .ref 3, .int y, .int (l3 + 1)], [], ((zua (zua (zua (zua ar 60 b60) 61 b61) 60 v5) 61 v6), (zuf (zuf fi 57 4 c57_4) 57 4 v7), (m1, m2, m3, m4, m5)))))))))))) : Option ((Nat × List Value × List Value × zH2) ⊕ zO2)) := rfl
set_option maxRecDepth 20000 in
theorem k_cu_enter_20 {X : Nat × (Nat → Int32)} {ar fi : Nat → Nat → Int32} {m1 m2 m3 m4 m5 : Nat} {y : Int32} {o : zO2} : ∀ (s : U_cu_enter_20) (q : U_cu_enter_20 ⊕ T_cu_enter), f_cu_enter_20 y (ar 3) (ar 59) s = some q → zq (M_cu_enter_20 X (zEx 14 S_cu_visit (zEx 140 S_if_nextTo zE0)) ar fi m1 m2 m3 m4 m5 y o) (fun t => O_cu_enter ar fi m1 m2 m3 m4 m5 t = o) q → M_cu_enter_20 X (zEx 14 S_cu_visit (zEx 140 S_if_nextTo zE0)) ar fi m1 m2 m3 m4 m5 y o s := by
  intro s q h hq
  obtain ⟨l3, b60, b61, c57_4⟩ := s
  have h : b_cu_enter_20 y (ar 3) (ar 59) l3 b60 b61 c57_4 = some q := h
  unfold b_cu_enter_20 at h
  show zR2 X zFT (zEx 14 S_cu_visit (zEx 140 S_if_nextTo zE0)) zc_16 20 [.ref 57, .ref 3, .int y, .int l3] [] ((zua (zua ar 60 b60) 61 b61), (zuf fi 57 4 c57_4), (m1, m2, m3, m4, m5)) o
  refine zT_seg t20_cu_enter ?_
  obtain ⟨TT, hTT⟩ : ∃ T, T = zT X zFT (zEx 14 S_cu_visit (zEx 140 S_if_nextTo zE0)) zc_16 o := ⟨_, rfl⟩
  rw [← hTT]
  refine zb_el h (fun hb h => zU_t hTT hb ?_) (fun hb h => zU_f hTT hb ?_)
  · rw [hTT]
    have hz := zsi h hq
    refine (zO_mk ?_ ?_).trans hz
    · first | with_reducible rfl | exact hA0_cu_enter _ _ _
    · first | with_reducible rfl | exact hF1_cu_enter _ _
  · refine zl_el h (fun h => zU_l hTT ?_)
    refine zb_el h (fun hb h => zU_t hTT hb ?_) (fun hb h => zU_f hTT hb ?_)
    · rw [hTT]
      have hz := zsi h hq
      refine zR2_hp ?_ ?_ hz
      · first | with_reducible rfl | exact hA0_cu_enter _ _ _
      · first | with_reducible rfl | exact hF1_cu_enter _ _
    · refine zg_el h (fun hg h => zU_ga hTT hg ?_)
      refine zb_el h (fun hb h => zU_t hTT hb ?_) (fun hb h => zU_f hTT hb ?_)
      · rw [hTT]
        have hz := zsi h hq
        refine zR2_hp ?_ ?_ hz
        · first | with_reducible rfl | exact hA0_cu_enter _ _ _
        · first | with_reducible rfl | exact hF1_cu_enter _ _
      · refine zU_g hTT rfl ?_
        refine zg_el h (fun hg h => zU_gc hTT hg ?_)
        refine zb_el h (fun hb h => zU_t hTT hb ?_) (fun hb h => zU_f hTT hb ?_)
        · rw [hTT]
          have hz := zsi h hq
          refine zR2_hp ?_ ?_ hz
          · first | with_reducible rfl | exact hA0_cu_enter _ _ _
          · first | with_reducible rfl | exact hF1_cu_enter _ _
        · refine zg_el h (fun hg h => zU_g hTT hg ?_)
          refine zl_el h (fun h => zU_l hTT ?_)
          refine zl_el h (fun h => zU_l hTT ?_)
          refine zl_el h (fun h => zU_l hTT ?_)
          rw [hTT]
          have hz := zsi h hq
          refine zR2_hp ?_ ?_ hz
          · first | with_reducible rfl | exact hA2_cu_enter _ _ _ _ _
          · first | with_reducible rfl | exact hF3_cu_enter _ _ _
set_option maxRecDepth 1000000 in
theorem t_cu_enter {X : Nat × (Nat → Int32)} {ar fi : Nat → Nat → Int32} {m1 m2 m3 m4 m5 : Nat} {y : Int32} {G_cu_visit : Int32 → Int32 → (Nat → Int32) → Int32 → (Nat → Int32) → Bool} {A0_cu_visit : Int32 → Int32 → (Nat → Int32) → Int32 → (Nat → Int32) → Nat → Int32} {A1_cu_visit : Int32 → Int32 → (Nat → Int32) → Int32 → (Nat → Int32) → Nat → Int32} {F0_cu_visit : Int32 → Int32 → (Nat → Int32) → Int32 → (Nat → Int32) → Int32} {W_if_nextTo : Int32 → Int32 → Int32} : zseg X zFT (zEx 14 (P_cu_visit G_cu_visit A0_cu_visit A1_cu_visit F0_cu_visit) (zEx 140 (P_if_nextTo W_if_nextTo) zE0)) zc_16 (fun p => Nat.beq p 20) 400 0 [.ref 57, .ref 3, .int y] [] (ar, fi, (m1, m2, m3, m4, m5)) = (
  zg ((Nat.beq 18 17 || Nat.beq 18 18) && (zin y 96)) (
  bif !decide ((ar 58) (y.toNatClampNeg) = 0) then
   some (.inl (20, [.ref 57, .ref 3, .int y, .int 0], [], (ar, fi, (m1, m2, m3, m4, m5))))
  else
   zg (G_cu_visit (96 + y) y (ar 60) (fi 57 4) (ar 61)) (
   zl (A0_cu_visit (96 + y) y (ar 60) (fi 57 4) (ar 61)) (fun v1 =>
   zl (A1_cu_visit (96 + y) y (ar 60) (fi 57 4) (ar 61)) (fun v2 =>
   zl (F0_cu_visit (96 + y) y (ar 60) (fi 57 4) (ar 61)) (fun v3 =>
   some (.inl (20, [.ref 57, .ref 3, .int y, .int 0], [], ((zua (zua ar 60 v1) 61 v2), (zuf fi 57 4 v3), (m1, m2, m3, m4, m5))))))))) : Option ((Nat × List Value × List Value × zH2) ⊕ zO2)) := by with_unfolding_all rfl
set_option maxRecDepth 20000 in
theorem e_cu_enter {X : Nat × (Nat → Int32)} {ar fi : Nat → Nat → Int32} {m1 m2 m3 m4 m5 : Nat} {y : Int32} {o : zO2} : ∀ (q : T_cu_enter), q_cu_enter y (ar 3) (ar 58) (ar 59) (ar 60) (ar 61) (fi 57 4) = some q → (fun t => O_cu_enter ar fi m1 m2 m3 m4 m5 t = o) q → zR2 X zFT (zEx 14 S_cu_visit (zEx 140 S_if_nextTo zE0)) zc_16 0 [.ref 57, .ref 3, .int y] [] (ar, fi, (m1, m2, m3, m4, m5)) o := by
  intro q h hq
  unfold q_cu_enter at h
  refine zT_seg t_cu_enter ?_
  obtain ⟨TT, hTT⟩ : ∃ T, T = zT X zFT (zEx 14 S_cu_visit (zEx 140 S_if_nextTo zE0)) zc_16 o := ⟨_, rfl⟩
  rw [← hTT]
  refine zg_el h (fun hg h => zU_gc hTT hg ?_)
  refine zb_el h (fun hb h => zU_t hTT hb ?_) (fun hb h => zU_f hTT hb ?_)
  · rw [hTT]
    refine zR2_hp ?_ ?_ (zlp_K k_cu_enter_20 h hq)
    · first | with_reducible rfl | exact hA4_cu_enter _
    · first | with_reducible rfl | exact hF5_cu_enter _
  · refine zg_el h (fun hg h => zU_g hTT hg ?_)
    refine zl_el h (fun h => zU_l hTT ?_)
    refine zl_el h (fun h => zU_l hTT ?_)
    refine zl_el h (fun h => zU_l hTT ?_)
    rw [hTT]
    refine zR2_hp ?_ ?_ (zlp_K k_cu_enter_20 h hq)
    · first | with_reducible rfl | exact hA0_cu_enter _ _ _
    · first | with_reducible rfl | exact hF1_cu_enter _ _
theorem ok_cu_enter (X : Nat × (Nat → Int32)) : zOkS X 16 S_cu_enter 2 := zOkS_new (zOkE_cons (ok_cu_visit X) (by decide) (zOkE_cons (ok_if_nextTo X) (by decide) (zOkE_nil X 1))) (by
  intro args g o h
  obtain ⟨ar, fi, m1, m2, m3, m4, m5⟩ := g
  unfold S_cu_enter P_cu_enter at h
  split at h
  · refine zb_el h (fun hI0 k0 => ?_) (fun _ h10 => ?_)
    · try simp only [Bool.and_eq_true] at hI0
      obtain ⟨j0, j1⟩ := hI0
      have e0 := Nat.eq_of_beq_eq_true j0
      subst e0
      have e1 := Nat.eq_of_beq_eq_true j1
      subst e1
      exact zpe_el k0 (fun t ht ho => by obtain ⟨t0, t1, t2⟩ := t; exact e_cu_enter _ ht ho)
    · cases h10
  · cases h)
