abbrev T_gr_goOver : Type := (Nat → Int32) × (Nat → Int32) × Int32 × Int32
abbrev U_gr_goOver_29 : Type := Int32 × (Nat → Int32) × (Nat → Int32) × Int32
abbrev U_gr_goOver_5 : Type := Int32 × (Nat → Int32) × (Nat → Int32) × Int32
def b_gr_goOver_29 (a3 : Nat → Int32) (l2 : Int32) (l3 : Int32) (l4 : Int32) (b53 : Nat → Int32) (b54 : Nat → Int32) (c52_1 : Int32) : Option (U_gr_goOver_29 ⊕ (U_gr_goOver_5 ⊕ T_gr_goOver)) :=
  bif decide (4 ≤ l4) then
   some (.inr (.inl (l2 + 1, b53, b54, c52_1)))
  else
   zl (w_if_nextTo l3 l4) (fun v1 =>
   bif decide (v1 < 0) then
    some (.inl (l4 + 1, b53, b54, c52_1))
   else
    zg (zin v1 96) (
    bif !decide (a3 (v1.toNatClampNeg) = 1) then
     some (.inl (l4 + 1, b53, b54, c52_1))
    else
     zg (zin l3 96) (
     zg (g_gr_reach v1 ((b53 (l3.toNatClampNeg)) + 1) b53 c52_1 b54) (
     zl (a0_gr_reach v1 ((b53 (l3.toNatClampNeg)) + 1) b53 c52_1 b54) (fun v2 =>
     zl (a1_gr_reach v1 ((b53 (l3.toNatClampNeg)) + 1) b53 c52_1 b54) (fun v3 =>
     zl (f0_gr_reach v1 ((b53 (l3.toNatClampNeg)) + 1) b53 c52_1 b54) (fun v4 =>
     some (.inl (l4 + 1, v2, v3, v4)))))))))
def f_gr_goOver_29 (a3 : Nat → Int32) (l2 : Int32) (l3 : Int32) : U_gr_goOver_29 → Option (U_gr_goOver_29 ⊕ (U_gr_goOver_5 ⊕ T_gr_goOver)) := fun s => b_gr_goOver_29 a3 l2 l3 s.1 s.2.1 s.2.2.1 s.2.2.2
noncomputable def l_gr_goOver_29 (a3 : Nat → Int32) (l2 : Int32) (l3 : Int32) (l4 : Int32) (b53 : Nat → Int32) (b54 : Nat → Int32) (c52_1 : Int32) : Option (U_gr_goOver_5 ⊕ T_gr_goOver) := zlp (f_gr_goOver_29 a3 l2 l3) (l4, b53, b54, c52_1)
noncomputable def b_gr_goOver_5 (a3 : Nat → Int32) (l2 : Int32) (b53 : Nat → Int32) (b54 : Nat → Int32) (c52_1 : Int32) : Option (U_gr_goOver_5 ⊕ T_gr_goOver) :=
  bif decide (c52_1 ≤ l2) then
   some (.inr (b53, b54, c52_1, c52_1))
  else
   bif decide (96 ≤ l2) then
    some (.inr (b53, b54, c52_1, c52_1))
   else
    zg (zin l2 96) (
    l_gr_goOver_29 a3 l2 (b54 (l2.toNatClampNeg)) 0 b53 b54 c52_1)
noncomputable def f_gr_goOver_5 (a3 : Nat → Int32) : U_gr_goOver_5 → Option (U_gr_goOver_5 ⊕ T_gr_goOver) := fun s => b_gr_goOver_5 a3 s.1 s.2.1 s.2.2.1 s.2.2.2
noncomputable def l_gr_goOver_5 (a3 : Nat → Int32) (l2 : Int32) (b53 : Nat → Int32) (b54 : Nat → Int32) (c52_1 : Int32) : Option T_gr_goOver := zlp (f_gr_goOver_5 a3) (l2, b53, b54, c52_1)
noncomputable def q_gr_goOver (a3 : Nat → Int32) (a53 : Nat → Int32) (a54 : Nat → Int32) (f52_1 : Int32) (f52_3 : Int32) : Option T_gr_goOver :=
  l_gr_goOver_5 a3 (f52_3) a53 a54 (f52_1)
def P_gr_goOver (Q : (Nat → Int32) → (Nat → Int32) → (Nat → Int32) → Int32 → Int32 → Option ((Nat → Int32) × (Nat → Int32) × Int32 × Int32)) : zSp := fun as g => match as with
  | [.ref a, .ref b] => bif Nat.beq a 52 && Nat.beq b 3 then zpe (Q (g.1 3) (g.1 53) (g.1 54) (g.2.1 52 1) (g.2.1 52 3)) (fun t => (none, ((zua (zua g.1 53 t.1) 54 t.2.1), (zuf (zuf g.2.1 52 1 t.2.2.1) 52 3 t.2.2.2), g.2.2))) else none
  | _ => none
noncomputable abbrev S_gr_goOver : zSp := P_gr_goOver q_gr_goOver
theorem hF6_gr_goOver (F : Nat → Nat → Int32) : F = (zuf F 52 1 (F 52 1)) := zufk_ix F [] [((52, 1), none)] rfl
theorem hA5_gr_goOver (F : Nat → Nat → Int32) : F = (zua (zua F 53 (F 53)) 54 (F 54)) := zuak_ix F [] [(53, none), (54, none)] rfl
theorem hF4_gr_goOver (F : Nat → Nat → Int32) (w0 w1 : Int32) : (zuf (zuf F 52 1 w0) 52 3 w1) = (zuf (zuf F 52 1 w0) 52 3 w1) := zufk_ix F [((52, 1), w0), ((52, 3), w1)] [((52, 1), some 0), ((52, 3), some 1)] rfl
theorem hF3_gr_goOver (F : Nat → Nat → Int32) (w0 w1 : Int32) : (zuf (zuf F 52 1 w0) 52 1 w1) = (zuf F 52 1 w1) := zufk_ix F [((52, 1), w0), ((52, 1), w1)] [((52, 1), some 1)] rfl
theorem hA2_gr_goOver (F : Nat → Nat → Int32) (w0 w1 w2 w3 : Nat → Int32) : (zua (zua (zua (zua F 53 w0) 54 w1) 53 w2) 54 w3) = (zua (zua F 53 w2) 54 w3) := zuak_ix F [(53, w0), (54, w1), (53, w2), (54, w3)] [(53, some 2), (54, some 3)] rfl
theorem hF1_gr_goOver (F : Nat → Nat → Int32) (w0 : Int32) : (zuf F 52 1 w0) = (zuf F 52 1 w0) := zufk_ix F [((52, 1), w0)] [((52, 1), some 0)] rfl
theorem hA0_gr_goOver (F : Nat → Nat → Int32) (w0 w1 : Nat → Int32) : (zua (zua F 53 w0) 54 w1) = (zua (zua F 53 w0) 54 w1) := zuak_ix F [(53, w0), (54, w1)] [(53, some 0), (54, some 1)] rfl
def O_gr_goOver (ar fi : Nat → Nat → Int32) (m1 : Nat) (m2 : Nat) (m3 : Nat) (m4 : Nat) (m5 : Nat) (t : T_gr_goOver) : zO2 := match t with
  | (t0, t1, t2, t3) => (none, ((zua (zua ar 53 t0) 54 t1), (zuf (zuf fi 52 1 t2) 52 3 t3), (m1, m2, m3, m4, m5)))
def M_gr_goOver_29 (X : Nat × (Nat → Int32)) (E : zTE) (ar fi : Nat → Nat → Int32) (m1 : Nat) (m2 : Nat) (m3 : Nat) (m4 : Nat) (m5 : Nat) (l2 : Int32) (l3 : Int32) (o : zO2) (s : U_gr_goOver_29) : Prop := match s with
  | (l4, b53, b54, c52_1) => zR2 X zFT E zc_29 29 [.ref 52, .ref 3, .int l2, .int l3, .int l4] [] ((zua (zua ar 53 b53) 54 b54), (zuf fi 52 1 c52_1), (m1, m2, m3, m4, m5)) o
def M_gr_goOver_5 (X : Nat × (Nat → Int32)) (E : zTE) (ar fi : Nat → Nat → Int32) (m1 : Nat) (m2 : Nat) (m3 : Nat) (m4 : Nat) (m5 : Nat) (o : zO2) (s : U_gr_goOver_5) : Prop := match s with
  | (l2, b53, b54, c52_1) => zR2 X zFT E zc_29 5 [.ref 52, .ref 3, .int l2] [] ((zua (zua ar 53 b53) 54 b54), (zuf fi 52 1 c52_1), (m1, m2, m3, m4, m5)) o
set_option maxRecDepth 1000000 in
theorem t29_gr_goOver {X : Nat × (Nat → Int32)} {ar fi : Nat → Nat → Int32} {m1 m2 m3 m4 m5 : Nat} {l2 : Int32} {l3 : Int32} {l4 : Int32} {b53 : Nat → Int32} {b54 : Nat → Int32} {c52_1 : Int32} {W_if_nextTo : Int32 → Int32 → Int32} {G_gr_reach : Int32 → Int32 → (Nat → Int32) → Int32 → (Nat → Int32) → Bool} {A0_gr_reach : Int32 → Int32 → (Nat → Int32) → Int32 → (Nat → Int32) → Nat → Int32} {A1_gr_reach : Int32 → Int32 → (Nat → Int32) → Int32 → (Nat → Int32) → Nat → Int32} {F0_gr_reach : Int32 → Int32 → (Nat → Int32) → Int32 → (Nat → Int32) → Int32} : zseg X zFT (zEx 140 (P_if_nextTo W_if_nextTo) (zEx 28 (P_gr_reach G_gr_reach A0_gr_reach A1_gr_reach F0_gr_reach) zE0)) zc_29 (fun p => Nat.beq p 29 || Nat.beq p 5) 400 29 [.ref 52, .ref 3, .int l2, .int l3, .int l4] [] ((zua (zua ar 53 b53) 54 b54), (zuf fi 52 1 c52_1), (m1, m2, m3, m4, m5)) = (
  bif decide (4 ≤ l4) then
   some (.inl (5, [.ref 52, .ref 3, .int (l2 + 1)], [], ((zua (zua ar 53 b53) 54 b54), (zuf fi 52 1 c52_1), (m1, m2, m3, m4, m5))))
  else
   zl (W_if_nextTo l3 l4) (fun v1 =>
   bif decide (v1 < 0) then
    some (.inl (29, [.ref 52, .ref 3, .int l2, .int l3, .int (l4 + 1)], [], ((zua (zua ar 53 b53) 54 b54), (zuf fi 52 1 c52_1), (m1, m2, m3, m4, m5))))
   else
    zg (Nat.beq 16 16 && (zin v1 96)) (
    bif !decide ((ar 3) (v1.toNatClampNeg) = 1) then
     some (.inl (29, [.ref 52, .ref 3, .int l2, .int l3, .int (l4 + 1)], [], ((zua (zua ar 53 b53) 54 b54), (zuf fi 52 1 c52_1), (m1, m2, m3, m4, m5))))
    else
     zg (Nat.beq 16 16 && (zin l3 96)) (
     zg (G_gr_reach v1 ((b53 (l3.toNatClampNeg)) + 1) b53 c52_1 b54) (
     zl (A0_gr_reach v1 ((b53 (l3.toNatClampNeg)) + 1) b53 c52_1 b54) (fun v2 =>
     zl (A1_gr_reach v1 ((b53 (l3.toNatClampNeg)) + 1) b53 c52_1 b54) (fun v3 =>
     zl (F0_gr_reach v1 ((b53 (l3.toNatClampNeg)) + 1) b53 c52_1 b54) (fun v4 =>
     some (.inl (29, [.ref 52, .ref 3, .int l2, .int l3, .int (l4 + 1)], [], ((zua (zua (zua (zua ar 53 b53) 54 b54) 53 v2) 54 v3), (zuf (zuf fi 52 1 c52_1) 52 1 v4), (m1, m2, m3, m4, m5))))))))))) : Option ((Nat × List Value × List Value × zH2) ⊕ zO2)) := by with_unfolding_all rfl
set_option maxRecDepth 20000 in
theorem k_gr_goOver_29 {X : Nat × (Nat → Int32)} {ar fi : Nat → Nat → Int32} {m1 m2 m3 m4 m5 : Nat} {l2 : Int32} {l3 : Int32} {o : zO2} : ∀ (s : U_gr_goOver_29) (q : U_gr_goOver_29 ⊕ (U_gr_goOver_5 ⊕ T_gr_goOver)), f_gr_goOver_29 (ar 3) l2 l3 s = some q → zq (M_gr_goOver_29 X (zEx 140 S_if_nextTo (zEx 28 S_gr_reach zE0)) ar fi m1 m2 m3 m4 m5 l2 l3 o) (zq (M_gr_goOver_5 X (zEx 140 S_if_nextTo (zEx 28 S_gr_reach zE0)) ar fi m1 m2 m3 m4 m5 o) (fun t => O_gr_goOver ar fi m1 m2 m3 m4 m5 t = o)) q → M_gr_goOver_29 X (zEx 140 S_if_nextTo (zEx 28 S_gr_reach zE0)) ar fi m1 m2 m3 m4 m5 l2 l3 o s := by
  intro s q h hq
  obtain ⟨l4, b53, b54, c52_1⟩ := s
  have h : b_gr_goOver_29 (ar 3) l2 l3 l4 b53 b54 c52_1 = some q := h
  unfold b_gr_goOver_29 at h
  show zR2 X zFT (zEx 140 S_if_nextTo (zEx 28 S_gr_reach zE0)) zc_29 29 [.ref 52, .ref 3, .int l2, .int l3, .int l4] [] ((zua (zua ar 53 b53) 54 b54), (zuf fi 52 1 c52_1), (m1, m2, m3, m4, m5)) o
  refine zT_seg t29_gr_goOver ?_
  obtain ⟨TT, hTT⟩ : ∃ T, T = zT X zFT (zEx 140 S_if_nextTo (zEx 28 S_gr_reach zE0)) zc_29 o := ⟨_, rfl⟩
  rw [← hTT]
  refine zb_el h (fun hb h => zU_t hTT hb ?_) (fun hb h => zU_f hTT hb ?_)
  · rw [hTT]
    have hz := zsi h hq
    refine zR2_hp ?_ ?_ hz
    · first | with_reducible rfl | exact hA0_gr_goOver _ _ _
    · first | with_reducible rfl | exact hF1_gr_goOver _ _
  · refine zl_el h (fun h => zU_l hTT ?_)
    refine zb_el h (fun hb h => zU_t hTT hb ?_) (fun hb h => zU_f hTT hb ?_)
    · rw [hTT]
      have hz := zsi h hq
      refine zR2_hp ?_ ?_ hz
      · first | with_reducible rfl | exact hA0_gr_goOver _ _ _
      · first | with_reducible rfl | exact hF1_gr_goOver _ _
    · refine zg_el h (fun hg h => zU_ga hTT hg ?_)
      refine zb_el h (fun hb h => zU_t hTT hb ?_) (fun hb h => zU_f hTT hb ?_)
      · rw [hTT]
        have hz := zsi h hq
        refine zR2_hp ?_ ?_ hz
        · first | with_reducible rfl | exact hA0_gr_goOver _ _ _
        · first | with_reducible rfl | exact hF1_gr_goOver _ _
      · refine zg_el h (fun hg h => zU_ga hTT hg ?_)
        refine zg_el h (fun hg h => zU_g hTT hg ?_)
        refine zl_el h (fun h => zU_l hTT ?_)
        refine zl_el h (fun h => zU_l hTT ?_)
        refine zl_el h (fun h => zU_l hTT ?_)
        rw [hTT]
        have hz := zsi h hq
        refine zR2_hp ?_ ?_ hz
        · first | with_reducible rfl | exact hA2_gr_goOver _ _ _ _ _
        · first | with_reducible rfl | exact hF3_gr_goOver _ _ _
set_option maxRecDepth 1000000 in
theorem t5_gr_goOver {X : Nat × (Nat → Int32)} {ar fi : Nat → Nat → Int32} {m1 m2 m3 m4 m5 : Nat} {l2 : Int32} {b53 : Nat → Int32} {b54 : Nat → Int32} {c52_1 : Int32} {W_if_nextTo : Int32 → Int32 → Int32} {G_gr_reach : Int32 → Int32 → (Nat → Int32) → Int32 → (Nat → Int32) → Bool} {A0_gr_reach : Int32 → Int32 → (Nat → Int32) → Int32 → (Nat → Int32) → Nat → Int32} {A1_gr_reach : Int32 → Int32 → (Nat → Int32) → Int32 → (Nat → Int32) → Nat → Int32} {F0_gr_reach : Int32 → Int32 → (Nat → Int32) → Int32 → (Nat → Int32) → Int32} : zseg X zFT (zEx 140 (P_if_nextTo W_if_nextTo) (zEx 28 (P_gr_reach G_gr_reach A0_gr_reach A1_gr_reach F0_gr_reach) zE0)) zc_29 (fun p => Nat.beq p 29 || Nat.beq p 5) 400 5 [.ref 52, .ref 3, .int l2] [] ((zua (zua ar 53 b53) 54 b54), (zuf fi 52 1 c52_1), (m1, m2, m3, m4, m5)) = (
  bif decide (c52_1 ≤ l2) then
   some (.inr (none, ((zua (zua ar 53 b53) 54 b54), (zuf (zuf fi 52 1 c52_1) 52 3 c52_1), (m1, m2, m3, m4, m5))))
  else
   bif decide (96 ≤ l2) then
    some (.inr (none, ((zua (zua ar 53 b53) 54 b54), (zuf (zuf fi 52 1 c52_1) 52 3 c52_1), (m1, m2, m3, m4, m5))))
   else
    zg (Nat.beq 16 16 && (zin l2 96)) (
    some (.inl (29, [.ref 52, .ref 3, .int l2, .int (b54 (l2.toNatClampNeg)), .int 0], [], ((zua (zua ar 53 b53) 54 b54), (zuf fi 52 1 c52_1), (m1, m2, m3, m4, m5))))) : Option ((Nat × List Value × List Value × zH2) ⊕ zO2)) := by with_unfolding_all rfl
set_option maxRecDepth 20000 in
theorem k_gr_goOver_5 {X : Nat × (Nat → Int32)} {ar fi : Nat → Nat → Int32} {m1 m2 m3 m4 m5 : Nat} {o : zO2} : ∀ (s : U_gr_goOver_5) (q : U_gr_goOver_5 ⊕ T_gr_goOver), f_gr_goOver_5 (ar 3) s = some q → zq (M_gr_goOver_5 X (zEx 140 S_if_nextTo (zEx 28 S_gr_reach zE0)) ar fi m1 m2 m3 m4 m5 o) (fun t => O_gr_goOver ar fi m1 m2 m3 m4 m5 t = o) q → M_gr_goOver_5 X (zEx 140 S_if_nextTo (zEx 28 S_gr_reach zE0)) ar fi m1 m2 m3 m4 m5 o s := by
  intro s q h hq
  obtain ⟨l2, b53, b54, c52_1⟩ := s
  have h : b_gr_goOver_5 (ar 3) l2 b53 b54 c52_1 = some q := h
  unfold b_gr_goOver_5 at h
  show zR2 X zFT (zEx 140 S_if_nextTo (zEx 28 S_gr_reach zE0)) zc_29 5 [.ref 52, .ref 3, .int l2] [] ((zua (zua ar 53 b53) 54 b54), (zuf fi 52 1 c52_1), (m1, m2, m3, m4, m5)) o
  refine zT_seg t5_gr_goOver ?_
  obtain ⟨TT, hTT⟩ : ∃ T, T = zT X zFT (zEx 140 S_if_nextTo (zEx 28 S_gr_reach zE0)) zc_29 o := ⟨_, rfl⟩
  rw [← hTT]
  refine zb_el h (fun hb h => zU_t hTT hb ?_) (fun hb h => zU_f hTT hb ?_)
  · rw [hTT]
    have hz := zsi h hq
    refine (zO_mk ?_ ?_).trans hz
    · first | with_reducible rfl | exact hA0_gr_goOver _ _ _
    · first | with_reducible rfl | exact hF4_gr_goOver _ _ _
  · refine zb_el h (fun hb h => zU_t hTT hb ?_) (fun hb h => zU_f hTT hb ?_)
    · rw [hTT]
      have hz := zsi h hq
      refine (zO_mk ?_ ?_).trans hz
      · first | with_reducible rfl | exact hA0_gr_goOver _ _ _
      · first | with_reducible rfl | exact hF4_gr_goOver _ _ _
    · refine zg_el h (fun hg h => zU_ga hTT hg ?_)
      rw [hTT]
      refine zR2_hp ?_ ?_ (zlp_K k_gr_goOver_29 h hq)
      · first | with_reducible rfl | exact hA0_gr_goOver _ _ _
      · first | with_reducible rfl | exact hF1_gr_goOver _ _
set_option maxRecDepth 1000000 in
theorem t_gr_goOver {X : Nat × (Nat → Int32)} {ar fi : Nat → Nat → Int32} {m1 m2 m3 m4 m5 : Nat} {W_if_nextTo : Int32 → Int32 → Int32} {G_gr_reach : Int32 → Int32 → (Nat → Int32) → Int32 → (Nat → Int32) → Bool} {A0_gr_reach : Int32 → Int32 → (Nat → Int32) → Int32 → (Nat → Int32) → Nat → Int32} {A1_gr_reach : Int32 → Int32 → (Nat → Int32) → Int32 → (Nat → Int32) → Nat → Int32} {F0_gr_reach : Int32 → Int32 → (Nat → Int32) → Int32 → (Nat → Int32) → Int32} : zseg X zFT (zEx 140 (P_if_nextTo W_if_nextTo) (zEx 28 (P_gr_reach G_gr_reach A0_gr_reach A1_gr_reach F0_gr_reach) zE0)) zc_29 (fun p => Nat.beq p 29 || Nat.beq p 5) 400 0 [.ref 52, .ref 3] [] (ar, fi, (m1, m2, m3, m4, m5)) = (
  some (.inl (5, [.ref 52, .ref 3, .int (fi 52 3)], [], (ar, fi, (m1, m2, m3, m4, m5)))) : Option ((Nat × List Value × List Value × zH2) ⊕ zO2)) := by with_unfolding_all rfl
set_option maxRecDepth 20000 in
theorem e_gr_goOver {X : Nat × (Nat → Int32)} {ar fi : Nat → Nat → Int32} {m1 m2 m3 m4 m5 : Nat} {o : zO2} : ∀ (q : T_gr_goOver), q_gr_goOver (ar 3) (ar 53) (ar 54) (fi 52 1) (fi 52 3) = some q → (fun t => O_gr_goOver ar fi m1 m2 m3 m4 m5 t = o) q → zR2 X zFT (zEx 140 S_if_nextTo (zEx 28 S_gr_reach zE0)) zc_29 0 [.ref 52, .ref 3] [] (ar, fi, (m1, m2, m3, m4, m5)) o := by
  intro q h hq
  unfold q_gr_goOver at h
  refine zT_seg t_gr_goOver ?_
  obtain ⟨TT, hTT⟩ : ∃ T, T = zT X zFT (zEx 140 S_if_nextTo (zEx 28 S_gr_reach zE0)) zc_29 o := ⟨_, rfl⟩
  rw [← hTT]
  rw [hTT]
  refine zR2_hp ?_ ?_ (zlp_K k_gr_goOver_5 h hq)
  · first | with_reducible rfl | exact hA5_gr_goOver _
  · first | with_reducible rfl | exact hF6_gr_goOver _
theorem ok_gr_goOver (X : Nat × (Nat → Int32)) : zOkS X 29 S_gr_goOver 2 := zOkS_new (zOkE_cons (ok_if_nextTo X) (by decide) (zOkE_cons (ok_gr_reach X) (by decide) (zOkE_nil X 1))) (by
  intro args g o h
  obtain ⟨ar, fi, m1, m2, m3, m4, m5⟩ := g
  unfold S_gr_goOver P_gr_goOver at h
  split at h
  · refine zb_el h (fun hI0 k0 => ?_) (fun _ h10 => ?_)
    · try simp only [Bool.and_eq_true] at hI0
      obtain ⟨j0, j1⟩ := hI0
      have e0 := Nat.eq_of_beq_eq_true j0
      subst e0
      have e1 := Nat.eq_of_beq_eq_true j1
      subst e1
      exact zpe_el k0 (fun t ht ho => by obtain ⟨t0, t1, t2, t3⟩ := t; exact e_gr_goOver _ ht ho)
    · cases h10
  · cases h)
