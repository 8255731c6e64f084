abbrev T_gr_walkOut : Type := Int32 × (Nat → Int32) × (Nat → Int32)
abbrev U_gr_walkOut_2 : Type := Int32 × (Nat → Int32)
abbrev U_gr_walkOut_40 : Type := Int32 × Int32 × (Nat → Int32) × (Nat → Int32)
abbrev U_gr_walkOut_92 : Type := Int32 × Int32 × (Nat → Int32) × (Nat → Int32)
def b_gr_walkOut_92 (a3 : Nat → Int32) (a53 : Nat → Int32) (l4 : Int32) (l5 : Int32) (l6 : Int32) (l3 : Int32) (l7 : Int32) (b55 : Nat → Int32) (b56 : Nat → Int32) : Option (U_gr_walkOut_92 ⊕ (U_gr_walkOut_40 ⊕ T_gr_walkOut)) :=
  bif decide (4 ≤ l7) then
   some (.inr (.inl (l3, l4 + 1, b55, b56)))
  else
   zl (w_if_nextTo l5 l7) (fun v2 =>
   bif decide (v2 < 0) then
    some (.inl (l3, l7 + 1, b55, b56))
   else
    zg (zin v2 96) (
    bif decide (0 ≤ b55 (v2.toNatClampNeg)) then
     some (.inl (l3, l7 + 1, b55, b56))
    else
     bif decide (96 ≤ l3) then
      some (.inl (l3, l7 + 1, b55, b56))
     else
      zg (zin v2 96) (
      bif decide (a3 (v2.toNatClampNeg) = 3) then
       some (.inl (l3, l7 + 1, b55, b56))
      else
       zg (g_gr_isFreeAt v2 l6 a53) (
       zl (w_gr_isFreeAt v2 l6 a53) (fun v3 =>
       bif decide (v3 = 0) then
        some (.inl (l3, l7 + 1, b55, b56))
       else
        zg (zin v2 96) (
        zg (zin l3 96) (
        some (.inl (l3 + 1, l7 + 1, (zup b55 (v2.toNatClampNeg) l6), (zup b56 (l3.toNatClampNeg) v2))))))))))
def f_gr_walkOut_92 (a3 : Nat → Int32) (a53 : Nat → Int32) (l4 : Int32) (l5 : Int32) (l6 : Int32) : U_gr_walkOut_92 → Option (U_gr_walkOut_92 ⊕ (U_gr_walkOut_40 ⊕ T_gr_walkOut)) := fun s => b_gr_walkOut_92 a3 a53 l4 l5 l6 s.1 s.2.1 s.2.2.1 s.2.2.2
noncomputable def l_gr_walkOut_92 (a3 : Nat → Int32) (a53 : Nat → Int32) (l4 : Int32) (l5 : Int32) (l6 : Int32) (l3 : Int32) (l7 : Int32) (b55 : Nat → Int32) (b56 : Nat → Int32) : Option (U_gr_walkOut_40 ⊕ T_gr_walkOut) := zlp (f_gr_walkOut_92 a3 a53 l4 l5 l6) (l3, l7, b55, b56)
noncomputable def b_gr_walkOut_40 (a3 : Nat → Int32) (a53 : Nat → Int32) (l3 : Int32) (l4 : Int32) (b55 : Nat → Int32) (b56 : Nat → Int32) : Option (U_gr_walkOut_40 ⊕ T_gr_walkOut) :=
  bif decide (l3 ≤ l4) then
   some (.inr ((-2), b55, b56))
  else
   bif decide (96 ≤ l4) then
    some (.inr ((-2), b55, b56))
   else
    zg (zin l4 96) (
    zg (zin (b56 (l4.toNatClampNeg)) 96) (
    zl (w_gr_isEdge (b56 (l4.toNatClampNeg))) (fun v1 =>
    bif decide (v1 = 0) then
     l_gr_walkOut_92 a3 a53 l4 (b56 (l4.toNatClampNeg)) ((b55 ((b56 (l4.toNatClampNeg)).toNatClampNeg)) + 1) l3 0 b55 b56
    else
     zg (zin (b56 (l4.toNatClampNeg)) 96) (
     some (.inr (b55 ((b56 (l4.toNatClampNeg)).toNatClampNeg), b55, b56))))))
noncomputable def f_gr_walkOut_40 (a3 : Nat → Int32) (a53 : Nat → Int32) : U_gr_walkOut_40 → Option (U_gr_walkOut_40 ⊕ T_gr_walkOut) := fun s => b_gr_walkOut_40 a3 a53 s.1 s.2.1 s.2.2.1 s.2.2.2
noncomputable def l_gr_walkOut_40 (a3 : Nat → Int32) (a53 : Nat → Int32) (l3 : Int32) (l4 : Int32) (b55 : Nat → Int32) (b56 : Nat → Int32) : Option T_gr_walkOut := zlp (f_gr_walkOut_40 a3 a53) (l3, l4, b55, b56)
noncomputable def b_gr_walkOut_2 (y : Int32) (a3 : Nat → Int32) (a53 : Nat → Int32) (b56 : Nat → Int32) (l3 : Int32) (b55 : Nat → Int32) : Option (U_gr_walkOut_2 ⊕ T_gr_walkOut) :=
  bif decide (96 ≤ l3) then
   zg (zin y 96) (
   zg (zin 0 96) (
   zbd (l_gr_walkOut_40 a3 a53 1 0 (zup b55 (y.toNatClampNeg) 0) (zup b56 ((0 : Int32).toNatClampNeg) y)) (fun k => some (.inr k))))
  else
   zg (zin l3 96) (
   some (.inl (l3 + 1, (zup b55 (l3.toNatClampNeg) (-1)))))
noncomputable def f_gr_walkOut_2 (y : Int32) (a3 : Nat → Int32) (a53 : Nat → Int32) (b56 : Nat → Int32) : U_gr_walkOut_2 → Option (U_gr_walkOut_2 ⊕ T_gr_walkOut) := fun s => b_gr_walkOut_2 y a3 a53 b56 s.1 s.2
noncomputable def l_gr_walkOut_2 (y : Int32) (a3 : Nat → Int32) (a53 : Nat → Int32) (b56 : Nat → Int32) (l3 : Int32) (b55 : Nat → Int32) : Option T_gr_walkOut := zlp (f_gr_walkOut_2 y a3 a53 b56) (l3, b55)
noncomputable def q_gr_walkOut (y : Int32) (a3 : Nat → Int32) (a53 : Nat → Int32) (a55 : Nat → Int32) (a56 : Nat → Int32) : Option T_gr_walkOut :=
  l_gr_walkOut_2 y a3 a53 a56 0 a55
def P_gr_walkOut (Q : Int32 → (Nat → Int32) → (Nat → Int32) → (Nat → Int32) → (Nat → Int32) → Option (Int32 × (Nat → Int32) × (Nat → Int32))) : zSp := fun as g => match as with
  | [.ref a, .ref b, .int y] => bif Nat.beq a 52 && Nat.beq b 3 then zpe (Q y (g.1 3) (g.1 53) (g.1 55) (g.1 56)) (fun t => (some (.int (t.1)), ((zua (zua g.1 55 t.2.1) 56 t.2.2), g.2.1, g.2.2))) else none
  | _ => none
noncomputable abbrev S_gr_walkOut : zSp := P_gr_walkOut q_gr_walkOut
theorem hA3_gr_walkOut (F : Nat → Nat → Int32) : F = (zua (zua F 55 (F 55)) 56 (F 56)) := zuak_ix F [] [(55, none), (56, none)] rfl
theorem hA2_gr_walkOut (F : Nat → Nat → Int32) (w0 w1 w2 : Nat → Int32) : (zua (zua (zua F 55 w0) 56 w1) 55 w2) = (zua (zua F 55 w2) 56 w1) := zuak_ix F [(55, w0), (56, w1), (55, w2)] [(55, some 2), (56, some 1)] rfl
theorem hA1_gr_walkOut (F : Nat → Nat → Int32) (w0 w1 w2 w3 : Nat → Int32) : (zua (zua (zua (zua F 55 w0) 56 w1) 55 w2) 56 w3) = (zua (zua F 55 w2) 56 w3) := zuak_ix F [(55, w0), (56, w1), (55, w2), (56, w3)] [(55, some 2), (56, some 3)] rfl
theorem hA0_gr_walkOut (F : Nat → Nat → Int32) (w0 w1 : Nat → Int32) : (zua (zua F 55 w0) 56 w1) = (zua (zua F 55 w0) 56 w1) := zuak_ix F [(55, w0), (56, w1)] [(55, some 0), (56, some 1)] rfl
def O_gr_walkOut (ar fi : Nat → Nat → Int32) (m1 : Nat) (m2 : Nat) (m3 : Nat) (m4 : Nat) (m5 : Nat) (t : T_gr_walkOut) : zO2 := match t with
  | (t0, t1, t2) => (some (.int (t0)), ((zua (zua ar 55 t1) 56 t2), fi, (m1, m2, m3, m4, m5)))
def M_gr_walkOut_92 (X : Nat × (Nat → Int32)) (E : zTE) (ar fi : Nat → Nat → Int32) (m1 : Nat) (m2 : Nat) (m3 : Nat) (m4 : Nat) (m5 : Nat) (y : Int32) (l4 : Int32) (l5 : Int32) (l6 : Int32) (o : zO2) (s : U_gr_walkOut_92) : Prop := match s with
  | (l3, l7, b55, b56) => zR2 X zFT E zc_32 92 [.ref 52, .ref 3, .int y, .int l3, .int l4, .int l5, .int l6, .int l7] [] ((zua (zua ar 55 b55) 56 b56), fi, (m1, m2, m3, m4, m5)) o
def M_gr_walkOut_40 (X : Nat × (Nat → Int32)) (E : zTE) (ar fi : Nat → Nat → Int32) (m1 : Nat) (m2 : Nat) (m3 : Nat) (m4 : Nat) (m5 : Nat) (y : Int32) (o : zO2) (s : U_gr_walkOut_40) : Prop := match s with
  | (l3, l4, b55, b56) => zR2 X zFT E zc_32 40 [.ref 52, .ref 3, .int y, .int l3, .int l4] [] ((zua (zua ar 55 b55) 56 b56), fi, (m1, m2, m3, m4, m5)) o
def M_gr_walkOut_2 (X : Nat × (Nat → Int32)) (E : zTE) (ar fi : Nat → Nat → Int32) (m1 : Nat) (m2 : Nat) (m3 : Nat) (m4 : Nat) (m5 : Nat) (y : Int32) (b56 : Nat → Int32) (o : zO2) (s : U_gr_walkOut_2) : Prop := match s with
  | (l3, b55) => zR2 X zFT E zc_32 2 [.ref 52, .ref 3, .int y, .int l3] [] ((zua (zua ar 55 b55) 56 b56), fi, (m1, m2, m3, m4, m5)) o
set_option maxRecDepth 1000000 in
theorem t92_gr_walkOut {X : Nat × (Nat → Int32)} {ar fi : Nat → Nat → Int32} {m1 m2 m3 m4 m5 : Nat} {y : Int32} {l3 : Int32} {l4 : Int32} {l5 : Int32} {l6 : Int32} {l7 : Int32} {b55 : Nat → Int32} {b56 : Nat → Int32} {W_gr_isEdge : Int32 → Int32} {W_if_nextTo : Int32 → Int32 → Int32} {G_gr_isFreeAt : Int32 → Int32 → (Nat → Int32) → Bool} {W_gr_isFreeAt : Int32 → Int32 → (Nat → Int32) → Int32} : zseg X zFT (zEx 34 (P_gr_isEdge W_gr_isEdge) (zEx 140 (P_if_nextTo W_if_nextTo) (zEx 33 (P_gr_isFreeAt G_gr_isFreeAt W_gr_isFreeAt) zE0))) zc_32 (fun p => Nat.beq p 2 || Nat.beq p 40 || Nat.beq p 92) 400 92 [.ref 52, .ref 3, .int y, .int l3, .int l4, .int l5, .int l6, .int l7] [] ((zua (zua ar 55 b55) 56 b56), fi, (m1, m2, m3, m4, m5)) = (
  bif decide (4 ≤ l7) then
   some (.inl (40, [.ref 52, .ref 3, .int y, .int l3, .int (l4 + 1)], [], ((zua (zua ar 55 b55) 56 b56), fi, (m1, m2, m3, m4, m5))))
  else
   zl (W_if_nextTo l5 l7) (fun v2 =>
   bif decide (v2 < 0) then
    some (.inl (92, [.ref 52, .ref 3, .int y, .int l3, .int l4, .int l5, .int l6, .int (l7 + 1)], [], ((zua (zua ar 55 b55) 56 b56), fi, (m1, m2, m3, m4, m5))))
   else
    zg (Nat.beq 16 16 && (zin v2 96)) (
    bif decide (0 ≤ b55 (v2.toNatClampNeg)) then
     some (.inl (92, [.ref 52, .ref 3, .int y, .int l3, .int l4, .int l5, .int l6, .int (l7 + 1)], [], ((zua (zua ar 55 b55) 56 b56), fi, (m1, m2, m3, m4, m5))))
    else
     bif decide (96 ≤ l3) then
      some (.inl (92, [.ref 52, .ref 3, .int y, .int l3, .int l4, .int l5, .int l6, .int (l7 + 1)], [], ((zua (zua ar 55 b55) 56 b56), fi, (m1, m2, m3, m4, m5))))
     else
      zg (Nat.beq 16 16 && (zin v2 96)) (
      bif decide ((ar 3) (v2.toNatClampNeg) = 3) then
       some (.inl (92, [.ref 52, .ref 3, .int y, .int l3, .int l4, .int l5, .int l6, .int (l7 + 1)], [], ((zua (zua ar 55 b55) 56 b56), fi, (m1, m2, m3, m4, m5))))
      else
       zg (G_gr_isFreeAt v2 l6 (ar 53)) (
       zl (W_gr_isFreeAt v2 l6 (ar 53)) (fun v3 =>
       bif decide (v3 = 0) then
        some (.inl (92, [.ref 52, .ref 3, .int y, .int l3, .int l4, .int l5, .int l6, .int (l7 + 1)], [], ((zua (zua ar 55 b55) 56 b56), fi, (m1, m2, m3, m4, m5))))
       else
        zg (Nat.beq 16 16 && (zin v2 96)) (
        zg (Nat.beq 16 16 && (zin l3 96)) (
        some (.inl (92, [.ref 52, .ref 3, .int y, .int (l3 + 1), .int l4, .int l5, .int l6, .int (l7 + 1)], [], ((zua (zua (zua (zua ar 55 b55) 56 b56) 55 (zup b55 (v2.toNatClampNeg) l6)) 56 (zup b56 (l3.toNatClampNeg) v2)), fi, (m1, m2, m3, m4, m5))))))))))) : Option ((Nat × List Value × List Value × zH2) ⊕ zO2)) := by with_unfolding_all rfl
set_option maxRecDepth 20000 in
theorem k_gr_walkOut_92 {X : Nat × (Nat → Int32)} {ar fi : Nat → Nat → Int32} {m1 m2 m3 m4 m5 : Nat} {y : Int32} {l4 : Int32} {l5 : Int32} {l6 : Int32} {o : zO2} : ∀ (s : U_gr_walkOut_92) (q : U_gr_walkOut_92 ⊕ (U_gr_walkOut_40 ⊕ T_gr_walkOut)), f_gr_walkOut_92 (ar 3) (ar 53) l4 l5 l6 s = some q → zq (M_gr_walkOut_92 X (zEx 34 S_gr_isEdge (zEx 140 S_if_nextTo (zEx 33 S_gr_isFreeAt zE0))) ar fi m1 m2 m3 m4 m5 y l4 l5 l6 o) (zq (M_gr_walkOut_40 X (zEx 34 S_gr_isEdge (zEx 140 S_if_nextTo (zEx 33 S_gr_isFreeAt zE0))) ar fi m1 m2 m3 m4 m5 y o) (fun t => O_gr_walkOut ar fi m1 m2 m3 m4 m5 t = o)) q → M_gr_walkOut_92 X (zEx 34 S_gr_isEdge (zEx 140 S_if_nextTo (zEx 33 S_gr_isFreeAt zE0))) ar fi m1 m2 m3 m4 m5 y l4 l5 l6 o s := by
  intro s q h hq
  obtain ⟨l3, l7, b55, b56⟩ := s
  have h : b_gr_walkOut_92 (ar 3) (ar 53) l4 l5 l6 l3 l7 b55 b56 = some q := h
  unfold b_gr_walkOut_92 at h
  show zR2 X zFT (zEx 34 S_gr_isEdge (zEx 140 S_if_nextTo (zEx 33 S_gr_isFreeAt zE0))) zc_32 92 [.ref 52, .ref 3, .int y, .int l3, .int l4, .int l5, .int l6, .int l7] [] ((zua (zua ar 55 b55) 56 b56), fi, (m1, m2, m3, m4, m5)) o
  refine zT_seg t92_gr_walkOut ?_
  obtain ⟨TT, hTT⟩ : ∃ T, T = zT X zFT (zEx 34 S_gr_isEdge (zEx 140 S_if_nextTo (zEx 33 S_gr_isFreeAt zE0))) zc_32 o := ⟨_, rfl⟩
  rw [← hTT]
  refine zb_el h (fun hb h => zU_t hTT hb ?_) (fun hb h => zU_f hTT hb ?_)
  · rw [hTT]
    have hz := zsi h hq
    refine zR2_hp ?_ ?_ hz
    · first | with_reducible rfl | exact hA0_gr_walkOut _ _ _
    · first | with_reducible rfl | rfl
  · refine zl_el h (fun h => zU_l hTT ?_)
    refine zb_el h (fun hb h => zU_t hTT hb ?_) (fun hb h => zU_f hTT hb ?_)
    · rw [hTT]
      have hz := zsi h hq
      refine zR2_hp ?_ ?_ hz
      · first | with_reducible rfl | exact hA0_gr_walkOut _ _ _
      · first | with_reducible rfl | rfl
    · refine zg_el h (fun hg h => zU_ga hTT hg ?_)
      refine zb_el h (fun hb h => zU_t hTT hb ?_) (fun hb h => zU_f hTT hb ?_)
      · rw [hTT]
        have hz := zsi h hq
        refine zR2_hp ?_ ?_ hz
        · first | with_reducible rfl | exact hA0_gr_walkOut _ _ _
        · first | with_reducible rfl | rfl
      · refine zb_el h (fun hb h => zU_t hTT hb ?_) (fun hb h => zU_f hTT hb ?_)
        · rw [hTT]
          have hz := zsi h hq
          refine zR2_hp ?_ ?_ hz
          · first | with_reducible rfl | exact hA0_gr_walkOut _ _ _
          · first | with_reducible rfl | rfl
        · refine zg_el h (fun hg h => zU_ga hTT hg ?_)
          refine zb_el h (fun hb h => zU_t hTT hb ?_) (fun hb h => zU_f hTT hb ?_)
          · rw [hTT]
            have hz := zsi h hq
            refine zR2_hp ?_ ?_ hz
            · first | with_reducible rfl | exact hA0_gr_walkOut _ _ _
            · first | with_reducible rfl | rfl
          · refine zg_el h (fun hg h => zU_g hTT hg ?_)
            refine zl_el h (fun h => zU_l hTT ?_)
            refine zb_el h (fun hb h => zU_t hTT hb ?_) (fun hb h => zU_f hTT hb ?_)
            · rw [hTT]
              have hz := zsi h hq
              refine zR2_hp ?_ ?_ hz
              · first | with_reducible rfl | exact hA0_gr_walkOut _ _ _
              · first | with_reducible rfl | rfl
            · refine zg_el h (fun hg h => zU_ga hTT hg ?_)
              refine zg_el h (fun hg h => zU_ga hTT hg ?_)
              rw [hTT]
              have hz := zsi h hq
              refine zR2_hp ?_ ?_ hz
              · first | with_reducible rfl | exact hA1_gr_walkOut _ _ _ _ _
              · first | with_reducible rfl | rfl
set_option maxRecDepth 1000000 in
theorem t40_gr_walkOut {X : Nat × (Nat → Int32)} {ar fi : Nat → Nat → Int32} {m1 m2 m3 m4 m5 : Nat} {y : Int32} {l3 : Int32} {l4 : Int32} {b55 : Nat → Int32} {b56 : Nat → Int32} {W_gr_isEdge : Int32 → Int32} {W_if_nextTo : Int32 → Int32 → Int32} {G_gr_isFreeAt : Int32 → Int32 → (Nat → Int32) → Bool} {W_gr_isFreeAt : Int32 → Int32 → (Nat → Int32) → Int32} : zseg X zFT (zEx 34 (P_gr_isEdge W_gr_isEdge) (zEx 140 (P_if_nextTo W_if_nextTo) (zEx 33 (P_gr_isFreeAt G_gr_isFreeAt W_gr_isFreeAt) zE0))) zc_32 (fun p => Nat.beq p 2 || Nat.beq p 40 || Nat.beq p 92) 400 40 [.ref 52, .ref 3, .int y, .int l3, .int l4] [] ((zua (zua ar 55 b55) 56 b56), fi, (m1, m2, m3, m4, m5)) = (
  bif decide (l3 ≤ l4) then
   some (.inr (some (.int (-2)), ((zua (zua ar 55 b55) 56 b56), fi, (m1, m2, m3, m4, m5))))
  else
   bif decide (96 ≤ l4) then
    some (.inr (some (.int (-2)), ((zua (zua ar 55 b55) 56 b56), fi, (m1, m2, m3, m4, m5))))
   else
    zg (Nat.beq 16 16 && (zin l4 96)) (
    zg (Nat.beq 16 16 && (zin (b56 (l4.toNatClampNeg)) 96)) (
    zl (W_gr_isEdge (b56 (l4.toNatClampNeg))) (fun v1 =>
    bif decide (v1 = 0) then
     some (.inl (92, [.ref 52, .ref 3, .int y, .int l3, .int l4, .int (b56 (l4.toNatClampNeg)), .int ((b55 ((b56 (l4.toNatClampNeg)).toNatClampNeg)) + 1), .int 0], [], ((zua (zua ar 55 b55) 56 b56), fi, (m1, m2, m3, m4, m5))))
    else
     zg (Nat.beq 16 16 && (zin (b56 (l4.toNatClampNeg)) 96)) (
     some (.inr (some (.int (b55 ((b56 (l4.toNatClampNeg)).toNatClampNeg))), ((zua (zua ar 55 b55) 56 b56), fi, (m1, m2, m3, m4, m5)))))))) : Option ((Nat × List Value × List Value × zH2) ⊕ zO2)) := by with_unfolding_all rfl
set_option maxRecDepth 20000 in
theorem k_gr_walkOut_40 {X : Nat × (Nat → Int32)} {ar fi : Nat → Nat → Int32} {m1 m2 m3 m4 m5 : Nat} {y : Int32} {o : zO2} : ∀ (s : U_gr_walkOut_40) (q : U_gr_walkOut_40 ⊕ T_gr_walkOut), f_gr_walkOut_40 (ar 3) (ar 53) s = some q → zq (M_gr_walkOut_40 X (zEx 34 S_gr_isEdge (zEx 140 S_if_nextTo (zEx 33 S_gr_isFreeAt zE0))) ar fi m1 m2 m3 m4 m5 y o) (fun t => O_gr_walkOut ar fi m1 m2 m3 m4 m5 t = o) q → M_gr_walkOut_40 X (zEx 34 S_gr_isEdge (zEx 140 S_if_nextTo (zEx 33 S_gr_isFreeAt zE0))) ar fi m1 m2 m3 m4 m5 y o s := by
  intro s q h hq
  obtain ⟨l3, l4, b55, b56⟩ := s
  have h : b_gr_walkOut_40 (ar 3) (ar 53) l3 l4 b55 b56 = some q := h
  unfold b_gr_walkOut_40 at h
  show zR2 X zFT (zEx 34 S_gr_isEdge (zEx 140 S_if_nextTo (zEx 33 S_gr_isFreeAt zE0))) zc_32 40 [.ref 52, .ref 3, .int y, .int l3, .int l4] [] ((zua (zua ar 55 b55) 56 b56), fi, (m1, m2, m3, m4, m5)) o
  refine zT_seg t40_gr_walkOut ?_
  obtain ⟨TT, hTT⟩ : ∃ T, T = zT X zFT (zEx 34 S_gr_isEdge (zEx 140 S_if_nextTo (zEx 33 S_gr_isFreeAt zE0))) zc_32 o := ⟨_, rfl⟩
  rw [← hTT]
  refine zb_el h (fun hb h => zU_t hTT hb ?_) (fun hb h => zU_f hTT hb ?_)
  · rw [hTT]
    have hz := zsi h hq
    refine (zO_mk ?_ ?_).trans hz
    · first | with_reducible rfl | exact hA0_gr_walkOut _ _ _
    · first | with_reducible rfl | rfl
  · refine zb_el h (fun hb h => zU_t hTT hb ?_) (fun hb h => zU_f hTT hb ?_)
    · rw [hTT]
      have hz := zsi h hq
      refine (zO_mk ?_ ?_).trans hz
      · first | with_reducible rfl | exact hA0_gr_walkOut _ _ _
      · first | with_reducible rfl | rfl
    · refine zg_el h (fun hg h => zU_ga hTT hg ?_)
      refine zg_el h (fun hg h => zU_ga hTT hg ?_)
      refine zl_el h (fun h => zU_l hTT ?_)
      refine zb_el h (fun hb h => zU_t hTT hb ?_) (fun hb h => zU_f hTT hb ?_)
      · rw [hTT]
        refine zR2_hp ?_ ?_ (zlp_K k_gr_walkOut_92 h hq)
        · first | with_reducible rfl | exact hA0_gr_walkOut _ _ _
        · first | with_reducible rfl | rfl
      · refine zg_el h (fun hg h => zU_ga hTT hg ?_)
        rw [hTT]
        have hz := zsi h hq
        refine (zO_mk ?_ ?_).trans hz
        · first | with_reducible rfl | exact hA0_gr_walkOut _ _ _
        · first | with_reducible rfl | rfl
set_option maxRecDepth 1000000 in
theorem t2_gr_walkOut {X : Nat × (Nat → Int32)} {ar fi : Nat → Nat → Int32} {m1 m2 m3 m4 m5 : Nat} {y : Int32} {l3 : Int32} {b55 : Nat → Int32} {b56 : Nat → Int32} {W_gr_isEdge : Int32 → Int32} {W_if_nextTo : Int32 → Int32 → Int32} {G_gr_isFreeAt : Int32 → Int32 → (Nat → Int32) → Bool} {W_gr_isFreeAt : Int32 → Int32 → (Nat → Int32) → Int32} : zseg X zFT (zEx 34 (P_gr_isEdge W_gr_isEdge) (zEx 140 (P_if_nextTo W_if_nextTo) (zEx 33 (P_gr_isFreeAt G_gr_isFreeAt W_gr_isFreeAt) zE0))) zc_32 (fun p => Nat.beq p 2 || Nat.beq p 40 || Nat.beq p 92) 400 2 [.ref 52, .ref 3, .int y, .int l3] [] ((zua (zua ar 55 b55) 56 b56), fi, (m1, m2, m3, m4, m5)) = (
  bif decide (96 ≤ l3) then
   zg (Nat.beq 16 16 && (zin y 96)) (
   zg (Nat.beq 16 16 && (zin 0 96)) (
   some (.inl (40, [.ref 52, .ref 3, .int y, .int 1, .int 0], [], ((zua (zua (zua (zua ar 55 b55) 56 b56) 55 (zup b55 (y.toNatClampNeg) 0)) 56 (zup b56 ((0 : Int32).toNatClampNeg) y)), fi, (m1, m2, m3, m4, m5))))))
  else
   zg (Nat.beq 16 16 && (zin l3 96)) (
   some (.inl (2, [.ref 52, .ref 3, .int y, .int (l3 + 1)], [], ((zua (zua (zua ar 55 b55) 56 b56) 55 (zup b55 (l3.toNatClampNeg) (-1))), fi, (m1, m2, m3, m4, m5))))) : Option ((Nat × List Value × List Value × zH2) ⊕ zO2)) := by with_unfolding_all rfl
set_option maxRecDepth 20000 in
theorem k_gr_walkOut_2 {X : Nat × (Nat → Int32)} {ar fi : Nat → Nat → Int32} {m1 m2 m3 m4 m5 : Nat} {y : Int32} {b56 : Nat → Int32} {o : zO2} : ∀ (s : U_gr_walkOut_2) (q : U_gr_walkOut_2 ⊕ T_gr_walkOut), f_gr_walkOut_2 y (ar 3) (ar 53) b56 s = some q → zq (M_gr_walkOut_2 X (zEx 34 S_gr_isEdge (zEx 140 S_if_nextTo (zEx 33 S_gr_isFreeAt zE0))) ar fi m1 m2 m3 m4 m5 y b56 o) (fun t => O_gr_walkOut ar fi m1 m2 m3 m4 m5 t = o) q → M_gr_walkOut_2 X (zEx 34 S_gr_isEdge (zEx 140 S_if_nextTo (zEx 33 S_gr_isFreeAt zE0))) ar fi m1 m2 m3 m4 m5 y b56 o s := by
  intro s q h hq
  obtain ⟨l3, b55⟩ := s
  have h : b_gr_walkOut_2 y (ar 3) (ar 53) b56 l3 b55 = some q := h
  unfold b_gr_walkOut_2 at h
  show zR2 X zFT (zEx 34 S_gr_isEdge (zEx 140 S_if_nextTo (zEx 33 S_gr_isFreeAt zE0))) zc_32 2 [.ref 52, .ref 3, .int y, .int l3] [] ((zua (zua ar 55 b55) 56 b56), fi, (m1, m2, m3, m4, m5)) o
  refine zT_seg t2_gr_walkOut ?_
  obtain ⟨TT, hTT⟩ : ∃ T, T = zT X zFT (zEx 34 S_gr_isEdge (zEx 140 S_if_nextTo (zEx 33 S_gr_isFreeAt zE0))) zc_32 o := ⟨_, rfl⟩
  rw [← hTT]
  refine zb_el h (fun hb h => zU_t hTT hb ?_) (fun hb h => zU_f hTT hb ?_)
  · refine zg_el h (fun hg h => zU_ga hTT hg ?_)
    refine zg_el h (fun hg h => zU_ga hTT hg ?_)
    rw [hTT]
    refine zbd_el h (fun r hr h => ?_)
    have hz := zsi h hq
    refine zR2_hp ?_ ?_ (zlp_K k_gr_walkOut_40 hr hz)
    · first | with_reducible rfl | exact hA1_gr_walkOut _ _ _ _ _
    · first | with_reducible rfl | rfl
  · refine zg_el h (fun hg h => zU_ga hTT hg ?_)
    rw [hTT]
    have hz := zsi h hq
    refine zR2_hp ?_ ?_ hz
    · first | with_reducible rfl | exact hA2_gr_walkOut _ _ _ _
    · first | with_reducible rfl | rfl
set_option maxRecDepth 1000000 in
theorem t_gr_walkOut {X : Nat × (Nat → Int32)} {ar fi : Nat → Nat → Int32} {m1 m2 m3 m4 m5 : Nat} {y : Int32} {W_gr_isEdge : Int32 → Int32} {W_if_nextTo : Int32 → Int32 → Int32} {G_gr_isFreeAt : Int32 → Int32 → (Nat → Int32) → Bool} {W_gr_isFreeAt : Int32 → Int32 → (Nat → Int32) → Int32} : zseg X zFT (zEx 34 (P_gr_isEdge W_gr_isEdge) (zEx 140 (P_if_nextTo W_if_nextTo) (zEx 33 (P_gr_isFreeAt G_gr_isFreeAt W_gr_isFreeAt) zE0))) zc_32 (fun p => Nat.beq p 2 || Nat.beq p 40 || Nat.beq p 92) 400 0 [.ref 52, .ref 3, .int y] [] (ar, fi, (m1, m2, m3, m4, m5)) = (
  some (.inl (2, [.ref 52, .ref 3, .int y, .int 0], [], (ar, fi, (m1, m2, m3, m4, m5)))) : Option ((Nat × List Value × List Value × zH2) ⊕ zO2)) := by with_unfolding_all rfl
set_option maxRecDepth 20000 in
theorem e_gr_walkOut {X : Nat × (Nat → Int32)} {ar fi : Nat → Nat → Int32} {m1 m2 m3 m4 m5 : Nat} {y : Int32} {o : zO2} : ∀ (q : T_gr_walkOut), q_gr_walkOut y (ar 3) (ar 53) (ar 55) (ar 56) = some q → (fun t => O_gr_walkOut ar fi m1 m2 m3 m4 m5 t = o) q → zR2 X zFT (zEx 34 S_gr_isEdge (zEx 140 S_if_nextTo (zEx 33 S_gr_isFreeAt zE0))) zc_32 0 [.ref 52, .ref 3, .int y] [] (ar, fi, (m1, m2, m3, m4, m5)) o := by
  intro q h hq
  unfold q_gr_walkOut at h
  refine zT_seg t_gr_walkOut ?_
  obtain ⟨TT, hTT⟩ : ∃ T, T = zT X zFT (zEx 34 S_gr_isEdge (zEx 140 S_if_nextTo (zEx 33 S_gr_isFreeAt zE0))) zc_32 o := ⟨_, rfl⟩
  rw [← hTT]
  rw [hTT]
  refine zR2_hp ?_ ?_ (zlp_K k_gr_walkOut_2 h hq)
  · first | with_reducible rfl | exact hA3_gr_walkOut _
  · first | with_reducible rfl | rfl
theorem ok_gr_walkOut (X : Nat × (Nat → Int32)) : zOkS X 32 S_gr_walkOut 2 := zOkS_new (zOkE_cons (ok_gr_isEdge X) (by decide) (zOkE_cons (ok_if_nextTo X) (by decide) (zOkE_cons (ok_gr_isFreeAt X) (by decide) (zOkE_nil X 1)))) (by
  intro args g o h
  obtain ⟨ar, fi, m1, m2, m3, m4, m5⟩ := g
  unfold S_gr_walkOut P_gr_walkOut at h
  split at h
  · refine zb_el h (fun hI0 k0 => ?_) (fun _ h10 => ?_)
    · try simp only [Bool.and_eq_true] at hI0
      obtain ⟨j0, j1⟩ := hI0
      have e0 := Nat.eq_of_beq_eq_true j0
      subst e0
      have e1 := Nat.eq_of_beq_eq_true j1
      subst e1
      exact zpe_el k0 (fun t ht ho => by obtain ⟨t0, t1, t2⟩ := t; exact e_gr_walkOut _ ht ho)
    · cases h10
  · cases h)
