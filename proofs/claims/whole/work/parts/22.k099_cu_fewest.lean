abbrev T_cu_fewest : Type := Int32 × (Nat → Int32) × (Nat → Int32) × (Nat → Int32) × (Nat → Int32) × Int32
abbrev U_cu_fewest_3 : Type := Int32 × (Nat → Int32)
abbrev U_cu_fewest_55 : Type := Int32 × Int32 × (Nat → Int32) × (Nat → Int32) × (Nat → Int32) × (Nat → Int32) × Int32
abbrev U_cu_fewest_27 : Type := Int32 × (Nat → Int32)
noncomputable def b_cu_fewest_55 (y : Int32) (z : Int32) (a3 : Nat → Int32) (l4 : Int32) (l5 : Int32) (b58 : Nat → Int32) (b59 : Nat → Int32) (b60 : Nat → Int32) (b61 : Nat → Int32) (c57_4 : Int32) : Option (U_cu_fewest_55 ⊕ T_cu_fewest) :=
  bif decide (4 ≤ l5) then
   some (.inr (l4, b58, b59, b60, b61, c57_4))
  else
   zbd (q_cu_findWay y z a3 b58 b59 b60 b61 c57_4) (fun v1 =>
   bif decide ((v1.1) = 0) then
    some (.inr (l4, b58, b59, ((v1.2.1)), ((v1.2.2.1)), (v1.2.2.2)))
   else
    zbd (q_cu_takeWay y z b58 b59 ((v1.2.1))) (fun v2 =>
    some (.inl (l4 + 1, l5 + 1, ((v2.1)), ((v2.2)), ((v1.2.1)), ((v1.2.2.1)), (v1.2.2.2)))))
noncomputable def f_cu_fewest_55 (y : Int32) (z : Int32) (a3 : Nat → Int32) : U_cu_fewest_55 → Option (U_cu_fewest_55 ⊕ T_cu_fewest) := fun s => b_cu_fewest_55 y z a3 s.1 s.2.1 s.2.2.1 s.2.2.2.1 s.2.2.2.2.1 s.2.2.2.2.2.1 s.2.2.2.2.2.2
noncomputable def l_cu_fewest_55 (y : Int32) (z : Int32) (a3 : Nat → Int32) (l4 : Int32) (l5 : Int32) (b58 : Nat → Int32) (b59 : Nat → Int32) (b60 : Nat → Int32) (b61 : Nat → Int32) (c57_4 : Int32) : Option T_cu_fewest := zlp (f_cu_fewest_55 y z a3) (l4, l5, b58, b59, b60, b61, c57_4)
noncomputable def b_cu_fewest_27 (y : Int32) (z : Int32) (a3 : Nat → Int32) (b58 : Nat → Int32) (b60 : Nat → Int32) (b61 : Nat → Int32) (c57_4 : Int32) (l4 : Int32) (b59 : Nat → Int32) : Option (U_cu_fewest_27 ⊕ T_cu_fewest) :=
  bif decide (384 ≤ l4) then
   zbd (l_cu_fewest_55 y z a3 0 0 b58 b59 b60 b61 c57_4) (fun k => some (.inr k))
  else
   zg (zin l4 384) (
   some (.inl (l4 + 1, (zup b59 (l4.toNatClampNeg) (0 &&& 1)))))
noncomputable def f_cu_fewest_27 (y : Int32) (z : Int32) (a3 : Nat → Int32) (b58 : Nat → Int32) (b60 : Nat → Int32) (b61 : Nat → Int32) (c57_4 : Int32) : U_cu_fewest_27 → Option (U_cu_fewest_27 ⊕ T_cu_fewest) := fun s => b_cu_fewest_27 y z a3 b58 b60 b61 c57_4 s.1 s.2
noncomputable def l_cu_fewest_27 (y : Int32) (z : Int32) (a3 : Nat → Int32) (b58 : Nat → Int32) (b60 : Nat → Int32) (b61 : Nat → Int32) (c57_4 : Int32) (l4 : Int32) (b59 : Nat → Int32) : Option T_cu_fewest := zlp (f_cu_fewest_27 y z a3 b58 b60 b61 c57_4) (l4, b59)
noncomputable def b_cu_fewest_3 (y : Int32) (z : Int32) (a3 : Nat → Int32) (b59 : Nat → Int32) (b60 : Nat → Int32) (b61 : Nat → Int32) (c57_4 : Int32) (l4 : Int32) (b58 : Nat → Int32) : Option (U_cu_fewest_3 ⊕ T_cu_fewest) :=
  bif decide (96 ≤ l4) then
   zbd (l_cu_fewest_27 y z a3 b58 b60 b61 c57_4 0 b59) (fun k => some (.inr k))
  else
   zg (zin l4 96) (
   some (.inl (l4 + 1, (zup b58 (l4.toNatClampNeg) (0 &&& 1)))))
noncomputable def f_cu_fewest_3 (y : Int32) (z : Int32) (a3 : Nat → Int32) (b59 : Nat → Int32) (b60 : Nat → Int32) (b61 : Nat → Int32) (c57_4 : Int32) : U_cu_fewest_3 → Option (U_cu_fewest_3 ⊕ T_cu_fewest) := fun s => b_cu_fewest_3 y z a3 b59 b60 b61 c57_4 s.1 s.2
noncomputable def l_cu_fewest_3 (y : Int32) (z : Int32) (a3 : Nat → Int32) (b59 : Nat → Int32) (b60 : Nat → Int32) (b61 : Nat → Int32) (c57_4 : Int32) (l4 : Int32) (b58 : Nat → Int32) : Option T_cu_fewest := zlp (f_cu_fewest_3 y z a3 b59 b60 b61 c57_4) (l4, b58)
noncomputable def q_cu_fewest (y : Int32) (z : Int32) (a3 : Nat → Int32) (a58 : Nat → Int32) (a59 : Nat → Int32) (a60 : Nat → Int32) (a61 : Nat → Int32) (f57_4 : Int32) : Option T_cu_fewest :=
  l_cu_fewest_3 y z a3 a59 a60 a61 (f57_4) 0 a58
def P_cu_fewest (Q : Int32 → Int32 → (Nat → Int32) → (Nat → Int32) → (Nat → Int32) → (Nat → Int32) → (Nat → Int32) → Int32 → Option (Int32 × (Nat → Int32) × (Nat → Int32) × (Nat → Int32) × (Nat → Int32) × Int32)) : zSp := fun as g => match as with
  | [.ref a, .ref b, .int y, .int z] => bif Nat.beq a 57 && Nat.beq b 3 then zpe (Q y z (g.1 3) (g.1 58) (g.1 59) (g.1 60) (g.1 61) (g.2.1 57 4)) (fun t => (some (.int (t.1)), ((zua (zua (zua (zua g.1 58 t.2.1) 59 t.2.2.1) 60 t.2.2.2.1) 61 t.2.2.2.2.1), (zuf g.2.1 57 4 t.2.2.2.2.2), g.2.2))) else none
  | _ => none
noncomputable abbrev S_cu_fewest : zSp := P_cu_fewest q_cu_fewest
theorem hF8_cu_fewest (F : Nat → Nat → Int32) : F = (zuf F 57 4 (F 57 4)) := zufk_ix F [] [((57, 4), none)] rfl
theorem hA7_cu_fewest (F : Nat → Nat → Int32) : F = (zua (zua (zua (zua F 58 (F 58)) 59 (F 59)) 60 (F 60)) 61 (F 61)) := zuak_ix F [] [(58, none), (59, none), (60, none), (61, none)] rfl
theorem hA6_cu_fewest (F : Nat → Nat → Int32) (w0 w1 w2 w3 w4 : Nat → Int32) : (zua (zua (zua (zua (zua F 58 w0) 59 w1) 60 w2) 61 w3) 58 w4) = (zua (zua (zua (zua F 58 w4) 59 w1) 60 w2) 61 w3) := zuak_ix F [(58, w0), (59, w1), (60, w2), (61, w3), (58, w4)] [(58, some 4), (59, some 1), (60, some 2), (61, some 3)] rfl
theorem hA5_cu_fewest (F : Nat → Nat → Int32) (w0 w1 w2 w3 w4 : Nat → Int32) : (zua (zua (zua (zua (zua F 58 w0) 59 w1) 60 w2) 61 w3) 59 w4) = (zua (zua (zua (zua F 58 w0) 59 w4) 60 w2) 61 w3) := zuak_ix F [(58, w0), (59, w1), (60, w2), (61, w3), (59, w4)] [(58, some 0), (59, some 4), (60, some 2), (61, some 3)] rfl
theorem hA4_cu_fewest (F : Nat → Nat → Int32) (w0 w1 w2 w3 w4 w5 w6 w7 : Nat → Int32) : (zua (zua (zua (zua (zua (zua (zua (zua F 58 w0) 59 w1) 60 w2) 61 w3) 60 w4) 61 w5) 58 w6) 59 w7) = (zua (zua (zua (zua F 58 w6) 59 w7) 60 w4) 61 w5) := zuak_ix F [(58, w0), (59, w1), (60, w2), (61, w3), (60, w4), (61, w5), (58, w6), (59, w7)] [(58, some 6), (59, some 7), (60, some 4), (61, some 5)] rfl
theorem hF3_cu_fewest (F : Nat → Nat → Int32) (w0 w1 : Int32) : (zuf (zuf F 57 4 w0) 57 4 w1) = (zuf F 57 4 w1) := zufk_ix F [((57, 4), w0), ((57, 4), w1)] [((57, 4), some 1)] rfl
theorem hA2_cu_fewest (F : Nat → Nat → Int32) (w0 w1 w2 w3 w4 w5 : Nat → Int32) : (zua (zua (zua (zua (zua (zua F 58 w0) 59 w1) 60 w2) 61 w3) 60 w4) 61 w5) = (zua (zua (zua (zua F 58 w0) 59 w1) 60 w4) 61 w5) := zuak_ix F [(58, w0), (59, w1), (60, w2), (61, w3), (60, w4), (61, w5)] [(58, some 0), (59, some 1), (60, some 4), (61, some 5)] rfl
theorem hF1_cu_fewest (F : Nat → Nat → Int32) (w0 : Int32) : (zuf F 57 4 w0) = (zuf F 57 4 w0) := zufk_ix F [((57, 4), w0)] [((57, 4), some 0)] rfl
theorem hA0_cu_fewest (F : Nat → Nat → Int32) (w0 w1 w2 w3 : Nat → Int32) : (zua (zua (zua (zua F 58 w0) 59 w1) 60 w2) 61 w3) = (zua (zua (zua (zua F 58 w0) 59 w1) 60 w2) 61 w3) := zuak_ix F [(58, w0), (59, w1), (60, w2), (61, w3)] [(58, some 0), (59, some 1), (60, some 2), (61, some 3)] rfl
def O_cu_fewest (ar fi : Nat → Nat → Int32) (m1 : Nat) (m2 : Nat) (m3 : Nat) (m4 : Nat) (m5 : Nat) (t : T_cu_fewest) : zO2 := match t with
  | (t0, t1, t2, t3, t4, t5) => (some (.int (t0)), ((zua (zua (zua (zua ar 58 t1) 59 t2) 60 t3) 61 t4), (zuf fi 57 4 t5), (m1, m2, m3, m4, m5)))
def M_cu_fewest_55 (X : Nat × (Nat → Int32)) (E : zTE) (ar fi : Nat → Nat → Int32) (m1 : Nat) (m2 : Nat) (m3 : Nat) (m4 : Nat) (m5 : Nat) (y : Int32) (z : Int32) (o : zO2) (s : U_cu_fewest_55) : Prop := match s with
  | (l4, l5, b58, b59, b60, b61, c57_4) => zR2 X zFT E zc_12 55 [.ref 57, .ref 3, .int y, .int z, .int l4, .int l5] [] ((zua (zua (zua (zua ar 58 b58) 59 b59) 60 b60) 61 b61), (zuf fi 57 4 c57_4), (m1, m2, m3, m4, m5)) o
def M_cu_fewest_27 (X : Nat × (Nat → Int32)) (E : zTE) (ar fi : Nat → Nat → Int32) (m1 : Nat) (m2 : Nat) (m3 : Nat) (m4 : Nat) (m5 : Nat) (y : Int32) (z : Int32) (b58 : Nat → Int32) (b60 : Nat → Int32) (b61 : Nat → Int32) (c57_4 : Int32) (o : zO2) (s : U_cu_fewest_27) : Prop := match s with
  | (l4, b59) => zR2 X zFT E zc_12 27 [.ref 57, .ref 3, .int y, .int z, .int l4] [] ((zua (zua (zua (zua ar 58 b58) 59 b59) 60 b60) 61 b61), (zuf fi 57 4 c57_4), (m1, m2, m3, m4, m5)) o
def M_cu_fewest_3 (X : Nat × (Nat → Int32)) (E : zTE) (ar fi : Nat → Nat → Int32) (m1 : Nat) (m2 : Nat) (m3 : Nat) (m4 : Nat) (m5 : Nat) (y : Int32) (z : Int32) (b59 : Nat → Int32) (b60 : Nat → Int32) (b61 : Nat → Int32) (c57_4 : Int32) (o : zO2) (s : U_cu_fewest_3) : Prop := match s with
  | (l4, b58) => zR2 X zFT E zc_12 3 [.ref 57, .ref 3, .int y, .int z, .int l4] [] ((zua (zua (zua (zua ar 58 b58) 59 b59) 60 b60) 61 b61), (zuf fi 57 4 c57_4), (m1, m2, m3, m4, m5)) o
set_option maxRecDepth 1000000 in
theorem t55_cu_fewest {X : Nat × (Nat → Int32)} {ar fi : Nat → Nat → Int32} {m1 m2 m3 m4 m5 : Nat} {y z : Int32} {l4 : Int32} {l5 : Int32} {b58 : Nat → Int32} {b59 : Nat → Int32} {b60 : Nat → Int32} {b61 : Nat → Int32} {c57_4 : Int32} {Q_cu_findWay : Int32 → Int32 → (Nat → Int32) → (Nat → Int32) → (Nat → Int32) → (Nat → Int32) → (Nat → Int32) → Int32 → Option (Int32 × (Nat → Int32) × (Nat → Int32) × Int32)} {Q_cu_takeWay : Int32 → Int32 → (Nat → Int32) → (Nat → Int32) → (Nat → Int32) → Option ((Nat → Int32) × (Nat → Int32))} : zseg X zFT (zEx 13 (P_cu_findWay Q_cu_findWay) (zEx 17 (P_cu_takeWay Q_cu_takeWay) zE0)) zc_12 (fun p => Nat.beq p 3 || Nat.beq p 55 || Nat.beq p 27) 400 55 [.ref 57, .ref 3, .int y, .int z, .int l4, .int l5] [] ((zua (zua (zua (zua ar 58 b58) 59 b59) 60 b60) 61 b61), (zuf fi 57 4 c57_4), (m1, m2, m3, m4, m5)) = (
  bif decide (4 ≤ l5) then
   some (.inr (some (.int l4), ((zua (zua (zua (zua ar 58 b58) 59 b59) 60 b60) 61 b61), (zuf fi 57 4 c57_4), (m1, m2, m3, m4, m5))))
  else
   zl (Q_cu_findWay y z (ar 3) b58 b59 b60 b61 c57_4) (fun v1 => zg v1.isSome (
   bif decide (((zgt v1).1) = 0) then
    some (.inr (some (.int l4), ((zua (zua (zua (zua (zua (zua ar 58 b58) 59 b59) 60 b60) 61 b61) 60 (((zgt v1).2.1))) 61 (((zgt v1).2.2.1))), (zuf (zuf fi 57 4 c57_4) 57 4 (((zgt v1).2.2.2))), (m1, m2, m3, m4, m5))))
   else
    zl (Q_cu_takeWay y z b58 b59 (((zgt v1).2.1))) (fun v2 => zg v2.isSome (
    some (.inl (55, [.ref 57, .ref 3, .int y, .int z, .int (l4 + 1), .int (l5 + 1)], [], ((zua (zua (zua (zua (zua (zua (zua (zua ar 58 b58) 59 b59) 60 b60) 61 b61) 60 (((zgt v1).2.1))) 61 (((zgt v1).2.2.1))) 58 (((zgt v2).1))) 59 (((zgt v2).2))), (zuf (zuf fi 57 4 c57_4) 57 4 (((zgt v1).2.2.2))), (m1, m2, m3, m4, m5)))))))) : Option ((Nat × List Value × List Value × zH2) ⊕ zO2)) := by with_unfolding_all rfl
set_option maxRecDepth 20000 in
theorem k_cu_fewest_55 {X : Nat × (Nat → Int32)} {ar fi : Nat → Nat → Int32} {m1 m2 m3 m4 m5 : Nat} {y z : Int32} {o : zO2} : ∀ (s : U_cu_fewest_55) (q : U_cu_fewest_55 ⊕ T_cu_fewest), f_cu_fewest_55 y z (ar 3) s = some q → zq (M_cu_fewest_55 X (zEx 13 S_cu_findWay (zEx 17 S_cu_takeWay zE0)) ar fi m1 m2 m3 m4 m5 y z o) (fun t => O_cu_fewest ar fi m1 m2 m3 m4 m5 t = o) q → M_cu_fewest_55 X (zEx 13 S_cu_findWay (zEx 17 S_cu_takeWay zE0)) ar fi m1 m2 m3 m4 m5 y z o s := by
  intro s q h hq
  obtain ⟨l4, l5, b58, b59, b60, b61, c57_4⟩ := s
  have h : b_cu_fewest_55 y z (ar 3) l4 l5 b58 b59 b60 b61 c57_4 = some q := h
  unfold b_cu_fewest_55 at h
  show zR2 X zFT (zEx 13 S_cu_findWay (zEx 17 S_cu_takeWay zE0)) zc_12 55 [.ref 57, .ref 3, .int y, .int z, .int l4, .int l5] [] ((zua (zua (zua (zua ar 58 b58) 59 b59) 60 b60) 61 b61), (zuf fi 57 4 c57_4), (m1, m2, m3, m4, m5)) o
  refine zT_seg t55_cu_fewest ?_
  obtain ⟨TT, hTT⟩ : ∃ T, T = zT X zFT (zEx 13 S_cu_findWay (zEx 17 S_cu_takeWay zE0)) zc_12 o := ⟨_, rfl⟩
  rw [← hTT]
  refine zb_el h (fun hb h => zU_t hTT hb ?_) (fun hb h => zU_f hTT hb ?_)
  · rw [hTT]
    have hz := zsi h hq
    refine (zO_mk ?_ ?_).trans hz
    · first | with_reducible rfl | exact hA0_cu_fewest _ _ _ _ _
    · first | with_reducible rfl | exact hF1_cu_fewest _ _
  · refine zbd_el h (fun v1 hv h => zU_c hTT hv ?_)
    refine zb_el h (fun hb h => zU_t hTT hb ?_) (fun hb h => zU_f hTT hb ?_)
    · rw [hTT]
      have hz := zsi h hq
      refine (zO_mk ?_ ?_).trans hz
      · first | with_reducible rfl | exact hA2_cu_fewest _ _ _ _ _ _ _
      · first | with_reducible rfl | exact hF3_cu_fewest _ _ _
    · refine zbd_el h (fun v2 hv h => zU_c hTT hv ?_)
      rw [hTT]
      have hz := zsi h hq
      refine zR2_hp ?_ ?_ hz
      · first | with_reducible rfl | exact hA4_cu_fewest _ _ _ _ _ _ _ _ _
      · first | with_reducible rfl | exact hF3_cu_fewest _ _ _
set_option maxRecDepth 1000000 in
theorem t27_cu_fewest {X : Nat × (Nat → Int32)} {ar fi : Nat → Nat → Int32} {m1 m2 m3 m4 m5 : Nat} {y z : Int32} {l4 : Int32} {b58 : Nat → Int32} {b59 : Nat → Int32} {b60 : Nat → Int32} {b61 : Nat → Int32} {c57_4 : Int32} {Q_cu_findWay : Int32 → Int32 → (Nat → Int32) → (Nat → Int32) → (Nat → Int32) → (Nat → Int32) → (Nat → Int32) → Int32 → Option (Int32 × (Nat → Int32) × (Nat → Int32) × Int32)} {Q_cu_takeWay : Int32 → Int32 → (Nat → Int32) → (Nat → Int32) → (Nat → Int32) → Option ((Nat → Int32) × (Nat → Int32))} : zseg X zFT (zEx 13 (P_cu_findWay Q_cu_findWay) (zEx 17 (P_cu_takeWay Q_cu_takeWay) zE0)) zc_12 (fun p => Nat.beq p 3 || Nat.beq p 55 || Nat.beq p 27) 400 27 [.ref 57, .ref 3, .int y, .int z, .int l4] [] ((zua (zua (zua (zua ar 58 b58) 59 b59) 60 b60) 61 b61), (zuf fi 57 4 c57_4), (m1, m2, m3, m4, m5)) = (
  bif decide (384 ≤ l4) then
   some (.inl (55, [.ref 57, .ref 3, .int y, .int z, .int 0, .int 0], [], ((zua (zua (zua (zua ar 58 b58) 59 b59) 60 b60) 61 b61), (zuf fi 57 4 c57_4), (m1, m2, m3, m4, m5))))
  else
   zg ((Nat.beq 18 17 || Nat.beq 18 18) && (zin l4 384)) (
   some (.inl (27, [.ref 57, .ref 3, .int y, .int z, .int (l4 + 1)], [], ((zua (zua (zua (zua (zua ar 58 b58) 59 b59) 60 b60) 61 b61) 59 (zup b59 (l4.toNatClampNeg) (0 &&& 1))), (zuf fi 57 4 c57_4), (m1, m2, m3, m4, m5))))) : Option ((Nat × List Value × List Value × zH2) ⊕ zO2)) := by with_unfolding_all rfl
set_option maxRecDepth 20000 in
theorem k_cu_fewest_27 {X : Nat × (Nat → Int32)} {ar fi : Nat → Nat → Int32} {m1 m2 m3 m4 m5 : Nat} {y z : Int32} {b58 : Nat → Int32} {b60 : Nat → Int32} {b61 : Nat → Int32} {c57_4 : Int32} {o : zO2} : ∀ (s : U_cu_fewest_27) (q : U_cu_fewest_27 ⊕ T_cu_fewest), f_cu_fewest_27 y z (ar 3) b58 b60 b61 c57_4 s = some q → zq (M_cu_fewest_27 X (zEx 13 S_cu_findWay (zEx 17 S_cu_takeWay zE0)) ar fi m1 m2 m3 m4 m5 y z b58 b60 b61 c57_4 o) (fun t => O_cu_fewest ar fi m1 m2 m3 m4 m5 t = o) q → M_cu_fewest_27 X (zEx 13 S_cu_findWay (zEx 17 S_cu_takeWay zE0)) ar fi m1 m2 m3 m4 m5 y z b58 b60 b61 c57_4 o s := by
  intro s q h hq
  obtain ⟨l4, b59⟩ := s
  have h : b_cu_fewest_27 y z (ar 3) b58 b60 b61 c57_4 l4 b59 = some q := h
  unfold b_cu_fewest_27 at h
  show zR2 X zFT (zEx 13 S_cu_findWay (zEx 17 S_cu_takeWay zE0)) zc_12 27 [.ref 57, .ref 3, .int y, .int z, .int l4] [] ((zua (zua (zua (zua ar 58 b58) 59 b59) 60 b60) 61 b61), (zuf fi 57 4 c57_4), (m1, m2, m3, m4, m5)) o
  refine zT_seg t27_cu_fewest ?_
  obtain ⟨TT, hTT⟩ : ∃ T, T = zT X zFT (zEx 13 S_cu_findWay (zEx 17 S_cu_takeWay zE0)) zc_12 o := ⟨_, rfl⟩
  rw [← hTT]
  refine zb_el h (fun hb h => zU_t hTT hb ?_) (fun hb h => zU_f hTT hb ?_)
  · rw [hTT]
    refine zbd_el h (fun r hr h => ?_)
    have hz := zsi h hq
    refine zR2_hp ?_ ?_ (zlp_K k_cu_fewest_55 hr hz)
    · first | with_reducible rfl | exact hA0_cu_fewest _ _ _ _ _
    · first | with_reducible rfl | exact hF1_cu_fewest _ _
  · refine zg_el h (fun hg h => zU_gc hTT hg ?_)
    rw [hTT]
    have hz := zsi h hq
    refine zR2_hp ?_ ?_ hz
    · first | with_reducible rfl | exact hA5_cu_fewest _ _ _ _ _ _
    · first | with_reducible rfl | exact hF1_cu_fewest _ _
set_option maxRecDepth 1000000 in
theorem t3_cu_fewest {X : Nat × (Nat → Int32)} {ar fi : Nat → Nat → Int32} {m1 m2 m3 m4 m5 : Nat} {y z : Int32} {l4 : Int32} {b58 : Nat → Int32} {b59 : Nat → Int32} {b60 : Nat → Int32} {b61 : Nat → Int32} {c57_4 : Int32} {Q_cu_findWay : Int32 → Int32 → (Nat → Int32) → (Nat → Int32) → (Nat → Int32) → (Nat → Int32) → (Nat → Int32) → Int32 → Option (Int32 × (Nat → Int32) × (Nat → Int32) × Int32)} {Q_cu_takeWay : Int32 → Int32 → (Nat → Int32) → (Nat → Int32) → (Nat → Int32) → Option ((Nat → Int32) × (Nat → Int32))} : zseg X zFT (zEx 13 (P_cu_findWay Q_cu_findWay) (zEx 17 (P_cu_takeWay Q_cu_takeWay) zE0)) zc_12 (fun p => Nat.beq p 3 || Nat.beq p 55 || Nat.beq p 27) 400 3 [.ref 57, .ref 3, .int y, .int z, .int l4] [] ((zua (zua (zua (zua ar 58 b58) 59 b59) 60 b60) 61 b61), (zuf fi 57 4 c57_4), (m1, m2, m3, m4, m5)) = (
  bif decide (96 ≤ l4) then
   some (.inl (27, [.ref 57, .ref 3, .int y, .int z, .int 0], [], ((zua (zua (zua (zua ar 58 b58) 59 b59) 60 b60) 61 b61), (zuf fi 57 4 c57_4), (m1, m2, m3, m4, m5))))
  else
   zg ((Nat.beq 18 17 || Nat.beq 18 18) && (zin l4 96)) (
   some (.inl (3, [.ref 57, .ref 3, .int y, .int z, .int (l4 + 1)], [], ((zua (zua (zua (zua (zua ar 58 b58) 59 b59) 60 b60) 61 b61) 58 (zup b58 (l4.toNatClampNeg) (0 &&& 1))), (zuf fi 57 4 c57_4), (m1, m2, m3, m4, m5))))) : Option ((Nat × List Value × List Value × zH2) ⊕ zO2)) := by with_unfolding_all rfl
set_option maxRecDepth 20000 in
theorem k_cu_fewest_3 {X : Nat × (Nat → Int32)} {ar fi : Nat → Nat → Int32} {m1 m2 m3 m4 m5 : Nat} {y z : Int32} {b59 : Nat → Int32} {b60 : Nat → Int32} {b61 : Nat → Int32} {c57_4 : Int32} {o : zO2} : ∀ (s : U_cu_fewest_3) (q : U_cu_fewest_3 ⊕ T_cu_fewest), f_cu_fewest_3 y z (ar 3) b59 b60 b61 c57_4 s = some q → zq (M_cu_fewest_3 X (zEx 13 S_cu_findWay (zEx 17 S_cu_takeWay zE0)) ar fi m1 m2 m3 m4 m5 y z b59 b60 b61 c57_4 o) (fun t => O_cu_fewest ar fi m1 m2 m3 m4 m5 t = o) q → M_cu_fewest_3 X (zEx 13 S_cu_findWay (zEx 17 S_cu_takeWay zE0)) ar fi m1 m2 m3 m4 m5 y z b59 b60 b61 c57_4 o s := by
  intro s q h hq
  obtain ⟨l4, b58⟩ := s
  have h : b_cu_fewest_3 y z (ar 3) b59 b60 b61 c57_4 l4 b58 = some q := h
  unfold b_cu_fewest_3 at h
  show zR2 X zFT (zEx 13 S_cu_findWay (zEx 17 S_cu_takeWay zE0)) zc_12 3 [.ref 57, .ref 3, .int y, .int z, .int l4] [] ((zua (zua (zua (zua ar 58 b58) 59 b59) 60 b60) 61 b61), (zuf fi 57 4 c57_4), (m1, m2, m3, m4, m5)) o
  refine zT_seg t3_cu_fewest ?_
  obtain ⟨TT, hTT⟩ : ∃ T, T = zT X zFT (zEx 13 S_cu_findWay (zEx 17 S_cu_takeWay zE0)) zc_12 o := ⟨_, rfl⟩
  rw [← hTT]
  refine zb_el h (fun hb h => zU_t hTT hb ?_) (fun hb h => zU_f hTT hb ?_)
  · rw [hTT]
    refine zbd_el h (fun r hr h => ?_)
    have hz := zsi h hq
    refine zR2_hp ?_ ?_ (zlp_K k_cu_fewest_27 hr hz)
    · first | with_reducible rfl | exact hA0_cu_fewest _ _ _ _ _
    · first | with_reducible rfl | exact hF1_cu_fewest _ _
  · refine zg_el h (fun hg h => zU_gc hTT hg ?_)
    rw [hTT]
    have hz := zsi h hq
    refine zR2_hp ?_ ?_ hz
    · first | with_reducible rfl | exact hA6_cu_fewest _ _ _ _ _ _
    · first | with_reducible rfl | exact hF1_cu_fewest _ _
set_option maxRecDepth 1000000 in
theorem t_cu_fewest {X : Nat × (Nat → Int32)} {ar fi : Nat → Nat → Int32} {m1 m2 m3 m4 m5 : Nat} {y z : Int32} {Q_cu_findWay : Int32 → Int32 → (Nat → Int32) → (Nat → Int32) → (Nat → Int32) → (Nat → Int32) → (Nat → Int32) → Int32 → Option (Int32 × (Nat → Int32) × (Nat → Int32) × Int32)} {Q_cu_takeWay : Int32 → Int32 → (Nat → Int32) → (Nat → Int32) → (Nat → Int32) → Option ((Nat → Int32) × (Nat → Int32))} : zseg X zFT (zEx 13 (P_cu_findWay Q_cu_findWay) (zEx 17 (P_cu_takeWay Q_cu_takeWay) zE0)) zc_12 (fun p => Nat.beq p 3 || Nat.beq p 55 || Nat.beq p 27) 400 0 [.ref 57, .ref 3, .int y, .int z] [] (ar, fi, (m1, m2, m3, m4, m5)) = (
  some (.inl (3, [.ref 57, .ref 3, .int y, .int z, .int 0], [], (ar, fi, (m1, m2, m3, m4, m5)))) : Option ((Nat × List Value × List Value × zH2) ⊕ zO2)) := by with_unfolding_all rfl
set_option maxRecDepth 20000 in
theorem e_cu_fewest {X : Nat × (Nat → Int32)} {ar fi : Nat → Nat → Int32} {m1 m2 m3 m4 m5 : Nat} {y z : Int32} {o : zO2} : ∀ (q : T_cu_fewest), q_cu_fewest y z (ar 3) (ar 58) (ar 59) (ar 60) (ar 61) (fi 57 4) = some q → (fun t => O_cu_fewest ar fi m1 m2 m3 m4 m5 t = o) q → zR2 X zFT (zEx 13 S_cu_findWay (zEx 17 S_cu_takeWay zE0)) zc_12 0 [.ref 57, .ref 3, .int y, .int z] [] (ar, fi, (m1, m2, m3, m4, m5)) o := by
  intro q h hq
  unfold q_cu_fewest at h
  refine zT_seg t_cu_fewest ?_
  obtain ⟨TT, hTT⟩ : ∃ T, T = zT X zFT (zEx 13 S_cu_findWay (zEx 17 S_cu_takeWay zE0)) zc_12 o := ⟨_, rfl⟩
  rw [← hTT]
  rw [hTT]
  refine zR2_hp ?_ ?_ (zlp_K k_cu_fewest_3 h hq)
  · first | with_reducible rfl | exact hA7_cu_fewest _
  · first | with_reducible rfl | exact hF8_cu_fewest _
theorem ok_cu_fewest (X : Nat × (Nat → Int32)) : zOkS X 12 S_cu_fewest 4 := zOkS_new (zOkE_cons (ok_cu_findWay X) (by decide) (zOkE_cons (ok_cu_takeWay X) (by decide) (zOkE_nil X 3))) (by
  intro args g o h
  obtain ⟨ar, fi, m1, m2, m3, m4, m5⟩ := g
  unfold S_cu_fewest P_cu_fewest at h
  split at h
  · refine zb_el h (fun hI0 k0 => ?_) (fun _ h10 => ?_)
    · try simp only [Bool.and_eq_true] at hI0
      obtain ⟨j0, j1⟩ := hI0
      have e0 := Nat.eq_of_beq_eq_true j0
      subst e0
      have e1 := Nat.eq_of_beq_eq_true j1
      subst e1
      exact zpe_el k0 (fun t ht ho => by obtain ⟨t0, t1, t2, t3, t4, t5⟩ := t; exact e_cu_fewest _ ht ho)
    · cases h10
  · cases h)
