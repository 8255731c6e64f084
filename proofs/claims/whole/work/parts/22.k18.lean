abbrev T_cu_fewest : Type := Int32 × (Nat → Int32) × (Nat → Int32) × (Nat → Int32) × (Nat → Int32) × Int32
abbrev U_cu_fewest_3 : Type := Int32 × (Nat → Int32)
abbrev U_cu_fewest_55 : Type := Int32 × Int32 × (Nat → Int32) × (Nat → Int32) × (Nat → Int32) × (Nat → Int32) × Int32
abbrev U_cu_fewest_27 : Type := Int32 × (Nat → Int32)
noncomputable def b_cu_fewest_55 (y : Int32) (z : Int32) (a3 : Nat → Int32) (l4 : Int32) (l5 : Int32) (b58 : Nat → Int32) (b59 : Nat → Int32) (b60 : Nat → Int32) (b61 : Nat → Int32) (c57_4 : Int32) : Option (U_cu_fewest_55 ⊕ T_cu_fewest) :=
  bif decide (4 ≤ l5) then
   some (.inr (l4, b58, b59, b60, b61, c57_4))
  else
   zbd (q_cu_findWay y z a3 b58 b59 b60 b61 c57_4) (fun v1 =>
   bif decide ((v1.1) = 0) then
    some (.inr (l4, b58, b59, ((v1.2.1)), ((v1.2.2.1)), (v1.2.2.2)))
   else
    zbd (q_cu_takeWay y z b58 b59 ((v1.2.1))) (fun v2 =>
    some (.inl (l4 + 1, l5 + 1, ((v2.1)), ((v2.2)), ((v1.2.1)), ((v1.2.2.1)), (v1.2.2.2)))))
noncomputable def f_cu_fewest_55 (y : Int32) (z : Int32) (a3 : Nat → Int32) : U_cu_fewest_55 → Option (U_cu_fewest_55 ⊕ T_cu_fewest) := fun s => b_cu_fewest_55 y z a3 s.1 s.2.1 s.2.2.1 s.2.2.2.1 s.2.2.2.2.1 s.2.2.2.2.2.1 s.2.2.2.2.2.2
noncomputable def l_cu_fewest_55 (y : Int32) (z : Int32) (a3 : Nat → Int32) (l4 : Int32) (l5 : Int32) (b58 : Nat → Int32) (b59 : Nat → Int32) (b60 : Nat → Int32) (b61 : Nat → Int32) (c57_4 : Int32) : Option T_cu_fewest := zlp (f_cu_fewest_55 y z a3) (l4, l5, b58, b59, b60, b61, c57_4)
noncomputable def b_cu_fewest_27 (y : Int32) (z : Int32) (a3 : Nat → Int32) (b58 : Nat → Int32) (b60 : Nat → Int32) (b61 : Nat → Int32) (c57_4 : Int32) (l4 : Int32) (b59 : Nat → Int32) : Option (U_cu_fewest_27 ⊕ T_cu_fewest) :=
  bif decide (384 ≤ l4) then
   zbd (l_cu_fewest_55 y z a3 0 0 b58 b59 b60 b61 c57_4) (fun k => some (.inr k))
  else
   zg (zin l4 384) (
   some (.inl (l4 + 1, (zup b59 (l4.toNatClampNeg) (0 &&& 1)))))
noncomputable def f_cu_fewest_27 (y : Int32) (z : Int32) (a3 : Nat → Int32) (b58 : Nat → Int32) (b60 : Nat → Int32) (b61 : Nat → Int32) (c57_4 : Int32) : U_cu_fewest_27 → Option (U_cu_fewest_27 ⊕ T_cu_fewest) := fun s => b_cu_fewest_27 y z a3 b58 b60 b61 c57_4 s.1 s.2
noncomputable def l_cu_fewest_27 (y : Int32) (z : Int32) (a3 : Nat → Int32) (b58 : Nat → Int32) (b60 : Nat → Int32) (b61 : Nat → Int32) (c57_4 : Int32) (l4 : Int32) (b59 : Nat → Int32) : Option T_cu_fewest := zlp (f_cu_fewest_27 y z a3 b58 b60 b61 c57_4) (l4, b59)
noncomputable def b_cu_fewest_3 (y : Int32) (z : Int32) (a3 : Nat → Int32) (b59 : Nat → Int32) (b60 : Nat → Int32) (b61 : Nat → Int32) (c57_4 : Int32) (l4 : Int32) (b58 : Nat → Int32) : Option (U_cu_fewest_3 ⊕ T_cu_fewest) :=
  bif decide (96 ≤ l4) then
   zbd (l_cu_fewest_27 y z a3 b58 b60 b61 c57_4 0 b59) (fun k => some (.inr k))
  else
   zg (zin l4 96) (
   some (.inl (l4 + 1, (zup b58 (l4.toNatClampNeg) (0 &&& 1)))))
noncomputable def f_cu_fewest_3 (y : Int32) (z : Int32) (a3 : Nat → Int32) (b59 : Nat → Int32) (b60 : Nat → Int32) (b61 : Nat → Int32) (c57_4 : Int32) : U_cu_fewest_3 → Option (U_cu_fewest_3 ⊕ T_cu_fewest) := fun s => b_cu_fewest_3 y z a3 b59 b60 b61 c57_4 s.1 s.2
noncomputable def l_cu_fewest_3 (y : Int32) (z : Int32) (a3 : Nat → Int32) (b59 : Nat → Int32) (b60 : Nat → Int32) (b61 : Nat → Int32) (c57_4 : Int32) (l4 : Int32) (b58 : Nat → Int32) : Option T_cu_fewest := zlp (f_cu_fewest_3 y z a3 b59 b60 b61 c57_4) (l4, b58)
noncomputable def q_cu_fewest (y : Int32) (z : Int32) (a3 : Nat → Int32) (a58 : Nat → Int32) (a59 : Nat → Int32) (a60 : Nat → Int32) (a61 : Nat → Int32) (f57_4 : Int32) : Option T_cu_fewest :=
  l_cu_fewest_3 y z a3 a59 a60 a61 (f57_4) 0 a58
def P_cu_fewest (Q : Int32 → Int32 → (Nat → Int32) → (Nat → Int32) → (Nat → Int32) → (Nat → Int32) → (Nat → Int32) → Int32 → Option (Int32 × (Nat → Int32) × (Nat → Int32) × (Nat → Int32) × (Nat → Int32) × Int32)) : zSp := fun as g => match as with
  | [.ref a, .ref b, .int y, .int z] => bif Nat.beq a 57 && Nat.beq b 3 then zpe (Q y z (g.1 3) (g.1 58) (g.1 59) (g.1 60) (g.1 61) (g.2.1 57 4)) (fun t => (some (.int (t.1)), ((zua (zua (zua (zua g.1 58 t.2.1) 59 t.2.2.1) 60 t.2.2.2.1) 61 t.2.2.2.2.1), (zuf g.2.1 57 4 t.2.2.2.2.2), g.2.2))) else none
  | _ => none
noncomputable abbrev S_cu_fewest : zSp := P_cu_fewest q_cu_fewest
def O_cu_fewest (ar fi : Nat → Nat → Int32) (m1 : Nat) (m2 : Nat) (m3 : Nat) (m4 : Nat) (m5 : Nat) (t : T_cu_fewest) : zO2 := (some (.int (t.1)), ((zua (zua (zua (zua ar 58 t.2.1) 59 t.2.2.1) 60 t.2.2.2.1) 61 t.2.2.2.2.1), (zuf fi 57 4 t.2.2.2.2.2), (m1, m2, m3, m4, m5)))
def M_cu_fewest_55 (X : Nat × (Nat → Int32)) (E : zTE) (ar fi : Nat → Nat → Int32) (m1 : Nat) (m2 : Nat) (m3 : Nat) (m4 : Nat) (m5 : Nat) (y : Int32) (z : Int32) (o : zO2) (s : U_cu_fewest_55) : Prop := zR2 X zFT E zc_12 55 [.ref 57, .ref 3, .int y, .int z, .int s.1, .int s.2.1] [] ((zua (zua (zua (zua ar 58 s.2.2.1) 59 s.2.2.2.1) 60 s.2.2.2.2.1) 61 s.2.2.2.2.2.1), (zuf fi 57 4 s.2.2.2.2.2.2), (m1, m2, m3, m4, m5)) o
def M_cu_fewest_27 (X : Nat × (Nat → Int32)) (E : zTE) (ar fi : Nat → Nat → Int32) (m1 : Nat) (m2 : Nat) (m3 : Nat) (m4 : Nat) (m5 : Nat) (y : Int32) (z : Int32) (b58 : Nat → Int32) (b60 : Nat → Int32) (b61 : Nat → Int32) (c57_4 : Int32) (o : zO2) (s : U_cu_fewest_27) : Prop := zR2 X zFT E zc_12 27 [.ref 57, .ref 3, .int y, .int z, .int s.1] [] ((zua (zua (zua (zua ar 58 b58) 59 s.2) 60 b60) 61 b61), (zuf fi 57 4 c57_4), (m1, m2, m3, m4, m5)) o
def M_cu_fewest_3 (X : Nat × (Nat → Int32)) (E : zTE) (ar fi : Nat → Nat → Int32) (m1 : Nat) (m2 : Nat) (m3 : Nat) (m4 : Nat) (m5 : Nat) (y : Int32) (z : Int32) (b59 : Nat → Int32) (b60 : Nat → Int32) (b61 : Nat → Int32) (c57_4 : Int32) (o : zO2) (s : U_cu_fewest_3) : Prop := zR2 X zFT E zc_12 3 [.ref 57, .ref 3, .int y, .int z, .int s.1] [] ((zua (zua (zua (zua ar 58 s.2) 59 b59) 60 b60) 61 b61), (zuf fi 57 4 c57_4), (m1, m2, m3, m4, m5)) o
set_option maxRecDepth 20000 in
theorem t55_cu_fewest {X : Nat × (Nat → Int32)} {ar fi : Nat → Nat → Int32} {m1 m2 m3 m4 m5 : Nat} {y z : Int32} {l4 : Int32} {l5 : Int32} {b58 : Nat → Int32} {b59 : Nat → Int32} {b60 : Nat → Int32} {b61 : Nat → Int32} {c57_4 : Int32} {Q_cu_findWay : Int32 → Int32 → (Nat → Int32) → (Nat → Int32) → (Nat → Int32) → (Nat → Int32) → (Nat → Int32) → Int32 → Option (Int32 × (Nat → Int32) × (Nat → Int32) × Int32)} {Q_cu_takeWay : Int32 → Int32 → (Nat → Int32) → (Nat → Int32) → (Nat → Int32) → Option ((Nat → Int32) × (Nat → Int32))} : zseg X zFT (zEx 13 (P_cu_findWay Q_cu_findWay) (zEx 17 (P_cu_takeWay Q_cu_takeWay) zE0)) zc_12 (fun p => Nat.beq p 3 || Nat.beq p 55 || Nat.beq p 27) 400 55 [.ref 57, .ref 3, .int y, .int z, .int l4, .int l5] [] ((zua (zua (zua (zua ar 58 b58) 59 b59) 60 b60) 61 b61), (zuf fi 57 4 c57_4), (m1, m2, m3, m4, m5)) = (
  bif decide (4 ≤ l5) then
   some (.inr (some (.int l4), ((zua (zua (zua (zua ar 58 b58) 59 b59) 60 b60) 61 b61), (zuf fi 57 4 c57_4), (m1, m2, m3, m4, m5))))
  else
   zl (Q_cu_findWay y z (ar 3) b58 b59 b60 b61 c57_4) (fun v1 => zg v1.isSome (
   bif decide (((zgt v1).1) = 0) then
    some (.inr (some (.int l4), ((zua (zua (zua (zua (zua (zua ar 58 b58) 59 b59) 60 b60) 61 b61) 60 (((zgt v1).2.1))) 61 (((zgt v1).2.2.1))), (zuf (zuf fi 57 4 c57_4) 57 4 (((zgt v1).2.2.2))), (m1, m2, m3, m4, m5))))
   else
    zl (Q_cu_takeWay y z b58 b59 (((zgt v1).2.1))) (fun v2 => zg v2.isSome (
    some (.inl (55, [.ref 57, .ref 3, .int y, .int z, .int (l4 + 1), .int (l5 + 1)], [], ((zua (zua (zua (zua (zua (zua (zua (zua ar 58 b58) 59 b59) 60 b60) 61 b61) 60 (((zgt v1).2.1))) 61 (((zgt v1).2.2.1))) 58 (((zgt v2).1))) 59 (((zgt v2).2))), (zuf (zuf fi 57 4 c57_4) 57 4 (((zgt v1).2.2.2))), (m1, m2, m3, m4, m5)))))))) : Option ((Nat × List Value × List Value × zH2) ⊕ zO2)) := rfl
theorem k_cu_fewest_55 {X : Nat × (Nat → Int32)} {ar fi : Nat → Nat → Int32} {m1 m2 m3 m4 m5 : Nat} {y z : Int32} {o : zO2} : ∀ (s : U_cu_fewest_55) (q : U_cu_fewest_55 ⊕ T_cu_fewest), f_cu_fewest_55 y z (ar 3) s = some q → zq (M_cu_fewest_55 X (zEx 13 S_cu_findWay (zEx 17 S_cu_takeWay zE0)) ar fi m1 m2 m3 m4 m5 y z o) (fun t => O_cu_fewest ar fi m1 m2 m3 m4 m5 t = o) q → M_cu_fewest_55 X (zEx 13 S_cu_findWay (zEx 17 S_cu_takeWay zE0)) ar fi m1 m2 m3 m4 m5 y z o s := by
  intro s q h hq
  obtain ⟨l4, l5, b58, b59, b60, b61, c57_4⟩ := s
  have h : b_cu_fewest_55 y z (ar 3) l4 l5 b58 b59 b60 b61 c57_4 = some q := h
  unfold b_cu_fewest_55 at h
  show zR2 X zFT (zEx 13 S_cu_findWay (zEx 17 S_cu_takeWay zE0)) zc_12 55 [.ref 57, .ref 3, .int y, .int z, .int l4, .int l5] [] ((zua (zua (zua (zua ar 58 b58) 59 b59) 60 b60) 61 b61), (zuf fi 57 4 c57_4), (m1, m2, m3, m4, m5)) o
  refine zT_seg t55_cu_fewest ?_
  refine zb_el h (fun hb h => zT_t hb ?_) (fun hb h => zT_f hb ?_)
  · have hz := zsi h hq
    refine (zO_mk ?_ ?_).trans hz
    · first | with_reducible rfl | (exact zuas_eq _ [(58, _), (59, _), (60, _), (61, _)] [(58, _), (59, _), (60, _), (61, _)] [58, 59, 60, 61] rfl rfl ⟨rfl, rfl, rfl, rfl, trivial⟩)
    · first | with_reducible rfl | (exact zufs_eq _ [(57, 4, _)] [(57, 4, _)] [(57, 4)] rfl rfl ⟨rfl, trivial⟩)
  · refine zbd_el h (fun v1 hv h => zT_c hv ?_)
    refine zb_el h (fun hb h => zT_t hb ?_) (fun hb h => zT_f hb ?_)
    · have hz := zsi h hq
      refine (zO_mk ?_ ?_).trans hz
      · first | with_reducible rfl | (exact zuas_eq _ [(58, _), (59, _), (60, _), (61, _), (60, _), (61, _)] [(58, _), (59, _), (60, _), (61, _)] [58, 59, 60, 61] rfl rfl ⟨rfl, rfl, rfl, rfl, trivial⟩)
      · first | with_reducible rfl | (exact zufs_eq _ [(57, 4, _), (57, 4, _)] [(57, 4, _)] [(57, 4)] rfl rfl ⟨rfl, trivial⟩)
    · refine zbd_el h (fun v2 hv h => zT_c hv ?_)
      have hz := zsi h hq
      refine zR2_hp ?_ ?_ hz
      · first | with_reducible rfl | (exact zuas_eq _ [(58, _), (59, _), (60, _), (61, _), (60, _), (61, _), (58, _), (59, _)] [(58, _), (59, _), (60, _), (61, _)] [58, 59, 60, 61] rfl rfl ⟨rfl, rfl, rfl, rfl, trivial⟩)
      · first | with_reducible rfl | (exact zufs_eq _ [(57, 4, _), (57, 4, _)] [(57, 4, _)] [(57, 4)] rfl rfl ⟨rfl, trivial⟩)
set_option maxRecDepth 20000 in
theorem t27_cu_fewest {X : Nat × (Nat → Int32)} {ar fi : Nat → Nat → Int32} {m1 m2 m3 m4 m5 : Nat} {y z : Int32} {l4 : Int32} {b58 : Nat → Int32} {b59 : Nat → Int32} {b60 : Nat → Int32} {b61 : Nat → Int32} {c57_4 : Int32} {Q_cu_findWay : Int32 → Int32 → (Nat → Int32) → (Nat → Int32) → (Nat → Int32) → (Nat → Int32) → (Nat → Int32) → Int32 → Option (Int32 × (Nat → Int32) × (Nat → Int32) × Int32)} {Q_cu_takeWay : Int32 → Int32 → (Nat → Int32) → (Nat → Int32) → (Nat → Int32) → Option ((Nat → Int32) × (Nat → Int32))} : zseg X zFT (zEx 13 (P_cu_findWay Q_cu_findWay) (zEx 17 (P_cu_takeWay Q_cu_takeWay) zE0)) zc_12 (fun p => Nat.beq p 3 || Nat.beq p 55 || Nat.beq p 27) 400 27 [.ref 57, .ref 3, .int y, .int z, .int l4] [] ((zua (zua (zua (zua ar 58 b58) 59 b59) 60 b60) 61 b61), (zuf fi 57 4 c57_4), (m1, m2, m3, m4, m5)) = (
  bif decide (384 ≤ l4) then
   some (.inl (55, [.ref 57, .ref 3, .int y, .int z, .int 0, .int 0], [], ((zua (zua (zua (zua ar 58 b58) 59 b59) 60 b60) 61 b61), (zuf fi 57 4 c57_4), (m1, m2, m3, m4, m5))))
  else
   zg (zin l4 384) (
   some (.inl (27, [.ref 57, .ref 3, .int y, .int z, .int (l4 + 1)], [], ((zua (zua (zua (zua (zua ar 58 b58) 59 b59) 60 b60) 61 b61) 59 (zup b59 (l4.toNatClampNeg) (0 &&& 1))), (zuf fi 57 4 c57_4), (m1, m2, m3, m4, m5))))) : Option ((Nat × List Value × List Value × zH2) ⊕ zO2)) := rfl
theorem k_cu_fewest_27 {X : Nat × (Nat → Int32)} {ar fi : Nat → Nat → Int32} {m1 m2 m3 m4 m5 : Nat} {y z : Int32} {b58 : Nat → Int32} {b60 : Nat → Int32} {b61 : Nat → Int32} {c57_4 : Int32} {o : zO2} : ∀ (s : U_cu_fewest_27) (q : U_cu_fewest_27 ⊕ T_cu_fewest), f_cu_fewest_27 y z (ar 3) b58 b60 b61 c57_4 s = some q → zq (M_cu_fewest_27 X (zEx 13 S_cu_findWay (zEx 17 S_cu_takeWay zE0)) ar fi m1 m2 m3 m4 m5 y z b58 b60 b61 c57_4 o) (fun t => O_cu_fewest ar fi m1 m2 m3 m4 m5 t = o) q → M_cu_fewest_27 X (zEx 13 S_cu_findWay (zEx 17 S_cu_takeWay zE0)) ar fi m1 m2 m3 m4 m5 y z b58 b60 b61 c57_4 o s := by
  intro s q h hq
  obtain ⟨l4, b59⟩ := s
  have h : b_cu_fewest_27 y z (ar 3) b58 b60 b61 c57_4 l4 b59 = some q := h
  unfold b_cu_fewest_27 at h
  show zR2 X zFT (zEx 13 S_cu_findWay (zEx 17 S_cu_takeWay zE0)) zc_12 27 [.ref 57, .ref 3, .int y, .int z, .int l4] [] ((zua (zua (zua (zua ar 58 b58) 59 b59) 60 b60) 61 b61), (zuf fi 57 4 c57_4), (m1, m2, m3, m4, m5)) o
  refine zT_seg t27_cu_fewest ?_
  refine zb_el h (fun hb h => zT_t hb ?_) (fun hb h => zT_f hb ?_)
  · refine zbd_el h (fun r hr h => ?_)
    have hz := zsi h hq
    refine zR2_hp ?_ ?_ (zlp_K k_cu_fewest_55 hr hz)
    · first | with_reducible rfl | (exact zuas_eq _ [(58, _), (59, _), (60, _), (61, _)] [(58, _), (59, _), (60, _), (61, _)] [58, 59, 60, 61] rfl rfl ⟨rfl, rfl, rfl, rfl, trivial⟩)
    · first | with_reducible rfl | (exact zufs_eq _ [(57, 4, _)] [(57, 4, _)] [(57, 4)] rfl rfl ⟨rfl, trivial⟩)
  · refine zg_el h (fun hg h => zT_g hg ?_)
    have hz := zsi h hq
    refine zR2_hp ?_ ?_ hz
    · first | with_reducible rfl | (exact zuas_eq _ [(58, _), (59, _), (60, _), (61, _), (59, _)] [(58, _), (59, _), (60, _), (61, _)] [58, 59, 60, 61] rfl rfl ⟨rfl, rfl, rfl, rfl, trivial⟩)
    · first | with_reducible rfl | (exact zufs_eq _ [(57, 4, _)] [(57, 4, _)] [(57, 4)] rfl rfl ⟨rfl, trivial⟩)
set_option maxRecDepth 20000 in
theorem t3_cu_fewest {X : Nat × (Nat → Int32)} {ar fi : Nat → Nat → Int32} {m1 m2 m3 m4 m5 : Nat} {y z : Int32} {l4 : Int32} {b58 : Nat → Int32} {b59 : Nat → Int32} {b60 : Nat → Int32} {b61 : Nat → Int32} {c57_4 : Int32} {Q_cu_findWay : Int32 → Int32 → (Nat → Int32) → (Nat → Int32) → (Nat → Int32) → (Nat → Int32) → (Nat → Int32) → Int32 → Option (Int32 × (Nat → Int32) × (Nat → Int32) × Int32)} {Q_cu_takeWay : Int32 → Int32 → (Nat → Int32) → (Nat → Int32) → (Nat → Int32) → Option ((Nat → Int32) × (Nat → Int32))} : zseg X zFT (zEx 13 (P_cu_findWay Q_cu_findWay) (zEx 17 (P_cu_takeWay Q_cu_takeWay) zE0)) zc_12 (fun p => Nat.beq p 3 || Nat.beq p 55 || Nat.beq p 27) 400 3 [.ref 57, .ref 3, .int y, .int z, .int l4] [] ((zua (zua (zua (zua ar 58 b58) 59 b59) 60 b60) 61 b61), (zuf fi 57 4 c57_4), (m1, m2, m3, m4, m5)) = (
  bif decide (96 ≤ l4) then
   some (.inl (27, [.ref 57, .ref 3, .int y, .int z, .int 0], [], ((zua (zua (zua (zua ar 58 b58) 59 b59) 60 b60) 61 b61), (zuf fi 57 4 c57_4), (m1, m2, m3, m4, m5))))
  else
   zg (zin l4 96) (
   some (.inl (3, [.ref 57, .ref 3, .int y, .int z, .int (l4 + 1)], [], ((zua (zua (zua (zua (zua ar 58 b58) 59 b59) 60 b60) 61 b61) 58 (zup b58 (l4.toNatClampNeg) (0 &&& 1))), (zuf fi 57 4 c57_4), (m1, m2, m3, m4, m5))))) : Option ((Nat × List Value × List Value × zH2) ⊕ zO2)) := rfl
theorem k_cu_fewest_3 {X : Nat × (Nat → Int32)} {ar fi : Nat → Nat → Int32} {m1 m2 m3 m4 m5 : Nat} {y z : Int32} {b59 : Nat → Int32} {b60 : Nat → Int32} {b61 : Nat → Int32} {c57_4 : Int32} {o : zO2} : ∀ (s : U_cu_fewest_3) (q : U_cu_fewest_3 ⊕ T_cu_fewest), f_cu_fewest_3 y z (ar 3) b59 b60 b61 c57_4 s = some q → zq (M_cu_fewest_3 X (zEx 13 S_cu_findWay (zEx 17 S_cu_takeWay zE0)) ar fi m1 m2 m3 m4 m5 y z b59 b60 b61 c57_4 o) (fun t => O_cu_fewest ar fi m1 m2 m3 m4 m5 t = o) q → M_cu_fewest_3 X (zEx 13 S_cu_findWay (zEx 17 S_cu_takeWay zE0)) ar fi m1 m2 m3 m4 m5 y z b59 b60 b61 c57_4 o s := by
  intro s q h hq
  obtain ⟨l4, b58⟩ := s
  have h : b_cu_fewest_3 y z (ar 3) b59 b60 b61 c57_4 l4 b58 = some q := h
  unfold b_cu_fewest_3 at h
  show zR2 X zFT (zEx 13 S_cu_findWay (zEx 17 S_cu_takeWay zE0)) zc_12 3 [.ref 57, .ref 3, .int y, .int z, .int l4] [] ((zua (zua (zua (zua ar 58 b58) 59 b59) 60 b60) 61 b61), (zuf fi 57 4 c57_4), (m1, m2, m3, m4, m5)) o
  refine zT_seg t3_cu_fewest ?_
  refine zb_el h (fun hb h => zT_t hb ?_) (fun hb h => zT_f hb ?_)
  · refine zbd_el h (fun r hr h => ?_)
    have hz := zsi h hq
    refine zR2_hp ?_ ?_ (zlp_K k_cu_fewest_27 hr hz)
    · first | with_reducible rfl | (exact zuas_eq _ [(58, _), (59, _), (60, _), (61, _)] [(58, _), (59, _), (60, _), (61, _)] [58, 59, 60, 61] rfl rfl ⟨rfl, rfl, rfl, rfl, trivial⟩)
    · first | with_reducible rfl | (exact zufs_eq _ [(57, 4, _)] [(57, 4, _)] [(57, 4)] rfl rfl ⟨rfl, trivial⟩)
  · refine zg_el h (fun hg h => zT_g hg ?_)
    have hz := zsi h hq
    refine zR2_hp ?_ ?_ hz
    · first | with_reducible rfl | (exact zuas_eq _ [(58, _), (59, _), (60, _), (61, _), (58, _)] [(58, _), (59, _), (60, _), (61, _)] [58, 59, 60, 61] rfl rfl ⟨rfl, rfl, rfl, rfl, trivial⟩)
    · first | with_reducible rfl | (exact zufs_eq _ [(57, 4, _)] [(57, 4, _)] [(57, 4)] rfl rfl ⟨rfl, trivial⟩)
set_option maxRecDepth 20000 in
theorem t_cu_fewest {X : Nat × (Nat → Int32)} {ar fi : Nat → Nat → Int32} {m1 m2 m3 m4 m5 : Nat} {y z : Int32} {Q_cu_findWay : Int32 → Int32 → (Nat → Int32) → (Nat → Int32) → (Nat → Int32) → (Nat → Int32) → (Nat → Int32) → Int32 → Option (Int32 × (Nat → Int32) × (Nat → Int32) × Int32)} {Q_cu_takeWay : Int32 → Int32 → (Nat → Int32) → (Nat → Int32) → (Nat → Int32) → Option ((Nat → Int32) × (Nat → Int32))} : zseg X zFT (zEx 13 (P_cu_findWay Q_cu_findWay) (zEx 17 (P_cu_takeWay Q_cu_takeWay) zE0)) zc_12 (fun p => Nat.beq p 3 || Nat.beq p 55 || Nat.beq p 27) 400 0 [.ref 57, .ref 3, .int y, .int z] [] (ar, fi, (m1, m2, m3, m4, m5)) = (
  some (.inl (3, [.ref 57, .ref 3, .int y, .int z, .int 0], [], (ar, fi, (m1, m2, m3, m4, m5)))) : Option ((Nat × List Value × List Value × zH2) ⊕ zO2)) := rfl
theorem e_cu_fewest {X : Nat × (Nat → Int32)} {ar fi : Nat → Nat → Int32} {m1 m2 m3 m4 m5 : Nat} {y z : Int32} {o : zO2} : ∀ (q : T_cu_fewest), q_cu_fewest y z (ar 3) (ar 58) (ar 59) (ar 60) (ar 61) (fi 57 4) = some q → (fun t => O_cu_fewest ar fi m1 m2 m3 m4 m5 t = o) q → zR2 X zFT (zEx 13 S_cu_findWay (zEx 17 S_cu_takeWay zE0)) zc_12 0 [.ref 57, .ref 3, .int y, .int z] [] (ar, fi, (m1, m2, m3, m4, m5)) o := by
  intro q h hq
  unfold q_cu_fewest at h
  refine zT_seg t_cu_fewest ?_
  refine zR2_hp ?_ ?_ (zlp_K k_cu_fewest_3 h hq)
  · first | with_reducible rfl | (exact zuas_eq _ [] [(58, _), (59, _), (60, _), (61, _)] [58, 59, 60, 61] rfl rfl ⟨rfl, rfl, rfl, rfl, trivial⟩)
  · first | with_reducible rfl | (exact zufs_eq _ [] [(57, 4, _)] [(57, 4)] rfl rfl ⟨rfl, trivial⟩)
theorem ok_cu_fewest (X : Nat × (Nat → Int32)) : zOkS X 12 S_cu_fewest 4 := zOkS_new (zOkE_cons (ok_cu_findWay X) (by decide) (zOkE_cons (ok_cu_takeWay X) (by decide) (zOkE_nil X 3))) (by
  intro args g o h
  obtain ⟨ar, fi, m1, m2, m3, m4, m5⟩ := g
  unfold S_cu_fewest P_cu_fewest at h
  split at h
  · refine zb_el h (fun hI0 k0 => ?_) (fun _ h10 => ?_)
    · try simp only [Bool.and_eq_true] at hI0
      obtain ⟨j0, j1⟩ := hI0
      have e0 := Nat.eq_of_beq_eq_true j0
      subst e0
      have e1 := Nat.eq_of_beq_eq_true j1
      subst e1
      exact zpe_el k0 (fun t ht ho => e_cu_fewest t ht ho)
    · cases h10
  · cases h)
abbrev T_lw_amountOf : Type := Int32 × (Nat → Int32)
abbrev U_lw_amountOf_3 : Type := Int32 × (Nat → Int32)
noncomputable def b_lw_amountOf_3 (x : Int32) (z : Int32) (u : Int32) (a24 : Nat → Int32) (a25 : Nat → Int32) (a27 : Nat → Int32) (a28 : Nat → Int32) (a29 : Nat → Int32) (a30 : Nat → Int32) (a50 : Nat → Int32) (f23_9 : Int32) (l5 : Int32) (b26 : Nat → Int32) : Option (U_lw_amountOf_3 ⊕ T_lw_amountOf) :=
  bif decide (f23_9 ≤ l5) then
   some (.inr (z, b26))
  else
   zg (zin l5 16) (
   bif !decide (a27 (l5.toNatClampNeg) = x) then
    some (.inl (l5 + 1, b26))
   else
    zbd (q_lw_holds l5 a24 a25 b26 a29 a30 a50) (fun v1 =>
    bif decide ((v1.1) = 0) then
     some (.inl (l5 + 1, ((v1.2))))
    else
     zg (zin l5 16) (
     zg (zin l5 16) (
     zbd (q_lw_run (a28 (l5.toNatClampNeg)) (a29 (l5.toNatClampNeg)) a24 a25 ((v1.2)) a50) (fun v2 =>
     some (.inr ((if z < (if (v2.1) < u then (v2.1) else u) then (if (v2.1) < u then (v2.1) else u) else z), ((v2.2)))))))))
noncomputable def f_lw_amountOf_3 (x : Int32) (z : Int32) (u : Int32) (a24 : Nat → Int32) (a25 : Nat → Int32) (a27 : Nat → Int32) (a28 : Nat → Int32) (a29 : Nat → Int32) (a30 : Nat → Int32) (a50 : Nat → Int32) (f23_9 : Int32) : U_lw_amountOf_3 → Option (U_lw_amountOf_3 ⊕ T_lw_amountOf) := fun s => b_lw_amountOf_3 x z u a24 a25 a27 a28 a29 a30 a50 f23_9 s.1 s.2
noncomputable def l_lw_amountOf_3 (x : Int32) (z : Int32) (u : Int32) (a24 : Nat → Int32) (a25 : Nat → Int32) (a27 : Nat → Int32) (a28 : Nat → Int32) (a29 : Nat → Int32) (a30 : Nat → Int32) (a50 : Nat → Int32) (f23_9 : Int32) (l5 : Int32) (b26 : Nat → Int32) : Option T_lw_amountOf := zlp (f_lw_amountOf_3 x z u a24 a25 a27 a28 a29 a30 a50 f23_9) (l5, b26)
noncomputable def q_lw_amountOf (x : Int32) (z : Int32) (u : Int32) (a24 : Nat → Int32) (a25 : Nat → Int32) (a26 : Nat → Int32) (a27 : Nat → Int32) (a28 : Nat → Int32) (a29 : Nat → Int32) (a30 : Nat → Int32) (a50 : Nat → Int32) (f23_9 : Int32) : Option T_lw_amountOf :=
  l_lw_amountOf_3 x z u a24 a25 a27 a28 a29 a30 a50 f23_9 0 a26
def P_lw_amountOf (Q : Int32 → Int32 → Int32 → (Nat → Int32) → (Nat → Int32) → (Nat → Int32) → (Nat → Int32) → (Nat → Int32) → (Nat → Int32) → (Nat → Int32) → (Nat → Int32) → Int32 → Option (Int32 × (Nat → Int32))) : zSp := fun as g => match as with
  | [.ref a, .int x, .ref b, .int z, .int u] => bif Nat.beq a 23 && Nat.beq b 50 then zpe (Q x z u (g.1 24) (g.1 25) (g.1 26) (g.1 27) (g.1 28) (g.1 29) (g.1 30) (g.1 50) (g.2.1 23 9)) (fun t => (some (.int (t.1)), ((zua g.1 26 t.2), g.2.1, g.2.2))) else bif Nat.beq a 31 && Nat.beq b 50 then zpe (Q x z u (g.1 32) (g.1 33) (g.1 34) (g.1 35) (g.1 36) (g.1 37) (g.1 38) (g.1 50) (g.2.1 31 9)) (fun t => (some (.int (t.1)), ((zua g.1 34 t.2), g.2.1, g.2.2))) else none
  | _ => none
noncomputable abbrev S_lw_amountOf : zSp := P_lw_amountOf q_lw_amountOf
def O_lw_amountOf_23_50 (ar fi : Nat → Nat → Int32) (m1 : Nat) (m2 : Nat) (m3 : Nat) (m4 : Nat) (m5 : Nat) (t : T_lw_amountOf) : zO2 := (some (.int (t.1)), ((zua ar 26 t.2), fi, (m1, m2, m3, m4, m5)))
def M_lw_amountOf_3_23_50 (X : Nat × (Nat → Int32)) (E : zTE) (ar fi : Nat → Nat → Int32) (m1 : Nat) (m2 : Nat) (m3 : Nat) (m4 : Nat) (m5 : Nat) (x : Int32) (z : Int32) (u : Int32) (o : zO2) (s : U_lw_amountOf_3) : Prop := zR2 X zFT E zc_43 3 [.ref 23, .int x, .ref 50, .int z, .int u, .int s.1] [] ((zua ar 26 s.2), fi, (m1, m2, m3, m4, m5)) o
set_option maxRecDepth 20000 in
theorem t3_lw_amountOf_23_50 {X : Nat × (Nat → Int32)} {ar fi : Nat → Nat → Int32} {m1 m2 m3 m4 m5 : Nat} {x z u : Int32} {l5 : Int32} {b26 : Nat → Int32} {Q_lw_holds : Int32 → (Nat → Int32) → (Nat → Int32) → (Nat → Int32) → (Nat → Int32) → (Nat → Int32) → (Nat → Int32) → Option (Int32 × (Nat → Int32))} {Q_lw_run : Int32 → Int32 → (Nat → Int32) → (Nat → Int32) → (Nat → Int32) → (Nat → Int32) → Option (Int32 × (Nat → Int32))} : zseg X zFT (zEx 45 (P_lw_holds Q_lw_holds) (zEx 46 (P_lw_run Q_lw_run) zE0)) zc_43 (fun p => Nat.beq p 3) 400 3 [.ref 23, .int x, .ref 50, .int z, .int u, .int l5] [] ((zua ar 26 b26), fi, (m1, m2, m3, m4, m5)) = (
  bif decide (fi 23 9 ≤ l5) then
   some (.inr (some (.int z), ((zua ar 26 b26), fi, (m1, m2, m3, m4, m5))))
  else
   zg (zin l5 16) (
   bif !decide ((ar 27) (l5.toNatClampNeg) = x) then
    some (.inl (3, [.ref 23, .int x, .ref 50, .int z, .int u, .int (l5 + 1)], [], ((zua ar 26 b26), fi, (m1, m2, m3, m4, m5))))
   else
    zl (Q_lw_holds l5 (ar 24) (ar 25) b26 (ar 29) (ar 30) (ar 50)) (fun v1 => zg v1.isSome (
    bif decide (((zgt v1).1) = 0) then
     some (.inl (3, [.ref 23, .int x, .ref 50, .int z, .int u, .int (l5 + 1)], [], ((zua (zua ar 26 b26) 26 (((zgt v1).2))), fi, (m1, m2, m3, m4, m5))))
    else
     zg (zin l5 16) (
     zg (zin l5 16) (
     zl (Q_lw_run ((ar 28) (l5.toNatClampNeg)) ((ar 29) (l5.toNatClampNeg)) (ar 24) (ar 25) (((zgt v1).2)) (ar 50)) (fun v2 => zg v2.isSome (
     some (.inr (some (.int (if z < (if ((zgt v2).1) < u then ((zgt v2).1) else u) then (if ((zgt v2).1) < u then ((zgt v2).1) else u) else z)), ((zua (zua (zua ar 26 b26) 26 (((zgt v1).2))) 26 (((zgt v2).2))), fi, (m1, m2, m3, m4, m5))))))))))) : Option ((Nat × List Value × List Value × zH2) ⊕ zO2)) := rfl
theorem k_lw_amountOf_3_23_50 {X : Nat × (Nat → Int32)} {ar fi : Nat → Nat → Int32} {m1 m2 m3 m4 m5 : Nat} {x z u : Int32} {o : zO2} : ∀ (s : U_lw_amountOf_3) (q : U_lw_amountOf_3 ⊕ T_lw_amountOf), f_lw_amountOf_3 x z u (ar 24) (ar 25) (ar 27) (ar 28) (ar 29) (ar 30) (ar 50) (fi 23 9) s = some q → zq (M_lw_amountOf_3_23_50 X (zEx 45 S_lw_holds (zEx 46 S_lw_run zE0)) ar fi m1 m2 m3 m4 m5 x z u o) (fun t => O_lw_amountOf_23_50 ar fi m1 m2 m3 m4 m5 t = o) q → M_lw_amountOf_3_23_50 X (zEx 45 S_lw_holds (zEx 46 S_lw_run zE0)) ar fi m1 m2 m3 m4 m5 x z u o s := by
  intro s q h hq
  obtain ⟨l5, b26⟩ := s
  have h : b_lw_amountOf_3 x z u (ar 24) (ar 25) (ar 27) (ar 28) (ar 29) (ar 30) (ar 50) (fi 23 9) l5 b26 = some q := h
  unfold b_lw_amountOf_3 at h
  show zR2 X zFT (zEx 45 S_lw_holds (zEx 46 S_lw_run zE0)) zc_43 3 [.ref 23, .int x, .ref 50, .int z, .int u, .int l5] [] ((zua ar 26 b26), fi, (m1, m2, m3, m4, m5)) o
  refine zT_seg t3_lw_amountOf_23_50 ?_
  refine zb_el h (fun hb h => zT_t hb ?_) (fun hb h => zT_f hb ?_)
  · have hz := zsi h hq
    refine (zO_mk ?_ ?_).trans hz
    · first | with_reducible rfl | (exact zuas_eq _ [(26, _)] [(26, _)] [26] rfl rfl ⟨rfl, trivial⟩)
    · first | with_reducible rfl | (rfl)
  · refine zg_el h (fun hg h => zT_g hg ?_)
    refine zb_el h (fun hb h => zT_t hb ?_) (fun hb h => zT_f hb ?_)
    · have hz := zsi h hq
      refine zR2_hp ?_ ?_ hz
      · first | with_reducible rfl | (exact zuas_eq _ [(26, _)] [(26, _)] [26] rfl rfl ⟨rfl, trivial⟩)
      · first | with_reducible rfl | (rfl)
    · refine zbd_el h (fun v1 hv h => zT_c hv ?_)
      refine zb_el h (fun hb h => zT_t hb ?_) (fun hb h => zT_f hb ?_)
      · have hz := zsi h hq
        refine zR2_hp ?_ ?_ hz
        · first | with_reducible rfl | (exact zuas_eq _ [(26, _), (26, _)] [(26, _)] [26] rfl rfl ⟨rfl, trivial⟩)
        · first | with_reducible rfl | (rfl)
      · refine zg_el h (fun hg h => zT_g hg ?_)
        refine zg_el h (fun hg h => zT_g hg ?_)
        refine zbd_el h (fun v2 hv h => zT_c hv ?_)
        have hz := zsi h hq
        refine (zO_mk ?_ ?_).trans hz
        · first | with_reducible rfl | (exact zuas_eq _ [(26, _), (26, _), (26, _)] [(26, _)] [26] rfl rfl ⟨rfl, trivial⟩)
        · first | with_reducible rfl | (rfl)
set_option maxRecDepth 20000 in
theorem t_lw_amountOf_23_50 {X : Nat × (Nat → Int32)} {ar fi : Nat → Nat → Int32} {m1 m2 m3 m4 m5 : Nat} {x z u : Int32} {Q_lw_holds : Int32 → (Nat → Int32) → (Nat → Int32) → (Nat → Int32) → (Nat → Int32) → (Nat → Int32) → (Nat → Int32) → Option (Int32 × (Nat → Int32))} {Q_lw_run : Int32 → Int32 → (Nat → Int32) → (Nat → Int32) → (Nat → Int32) → (Nat → Int32) → Option (Int32 × (Nat → Int32))} : zseg X zFT (zEx 45 (P_lw_holds Q_lw_holds) (zEx 46 (P_lw_run Q_lw_run) zE0)) zc_43 (fun p => Nat.beq p 3) 400 0 [.ref 23, .int x, .ref 50, .int z, .int u] [] (ar, fi, (m1, m2, m3, m4, m5)) = (
  some (.inl (3, [.ref 23, .int x, .ref 50, .int z, .int u, .int 0], [], (ar, fi, (m1, m2, m3, m4, m5)))) : Option ((Nat × List Value × List Value × zH2) ⊕ zO2)) := rfl
theorem e_lw_amountOf_23_50 {X : Nat × (Nat → Int32)} {ar fi : Nat → Nat → Int32} {m1 m2 m3 m4 m5 : Nat} {x z u : Int32} {o : zO2} : ∀ (q : T_lw_amountOf), q_lw_amountOf x z u (ar 24) (ar 25) (ar 26) (ar 27) (ar 28) (ar 29) (ar 30) (ar 50) (fi 23 9) = some q → (fun t => O_lw_amountOf_23_50 ar fi m1 m2 m3 m4 m5 t = o) q → zR2 X zFT (zEx 45 S_lw_holds (zEx 46 S_lw_run zE0)) zc_43 0 [.ref 23, .int x, .ref 50, .int z, .int u] [] (ar, fi, (m1, m2, m3, m4, m5)) o := by
  intro q h hq
  unfold q_lw_amountOf at h
  refine zT_seg t_lw_amountOf_23_50 ?_
  refine zR2_hp ?_ ?_ (zlp_K k_lw_amountOf_3_23_50 h hq)
  · first | with_reducible rfl | (exact zuas_eq _ [] [(26, _)] [26] rfl rfl ⟨rfl, trivial⟩)
  · first | with_reducible rfl | (rfl)
def O_lw_amountOf_31_50 (ar fi : Nat → Nat → Int32) (m1 : Nat) (m2 : Nat) (m3 : Nat) (m4 : Nat) (m5 : Nat) (t : T_lw_amountOf) : zO2 := (some (.int (t.1)), ((zua ar 34 t.2), fi, (m1, m2, m3, m4, m5)))
def M_lw_amountOf_3_31_50 (X : Nat × (Nat → Int32)) (E : zTE) (ar fi : Nat → Nat → Int32) (m1 : Nat) (m2 : Nat) (m3 : Nat) (m4 : Nat) (m5 : Nat) (x : Int32) (z : Int32) (u : Int32) (o : zO2) (s : U_lw_amountOf_3) : Prop := zR2 X zFT E zc_43 3 [.ref 31, .int x, .ref 50, .int z, .int u, .int s.1] [] ((zua ar 34 s.2), fi, (m1, m2, m3, m4, m5)) o
set_option maxRecDepth 20000 in
theorem t3_lw_amountOf_31_50 {X : Nat × (Nat → Int32)} {ar fi : Nat → Nat → Int32} {m1 m2 m3 m4 m5 : Nat} {x z u : Int32} {l5 : Int32} {b34 : Nat → Int32} {Q_lw_holds : Int32 → (Nat → Int32) → (Nat → Int32) → (Nat → Int32) → (Nat → Int32) → (Nat → Int32) → (Nat → Int32) → Option (Int32 × (Nat → Int32))} {Q_lw_run : Int32 → Int32 → (Nat → Int32) → (Nat → Int32) → (Nat → Int32) → (Nat → Int32) → Option (Int32 × (Nat → Int32))} : zseg X zFT (zEx 45 (P_lw_holds Q_lw_holds) (zEx 46 (P_lw_run Q_lw_run) zE0)) zc_43 (fun p => Nat.beq p 3) 400 3 [.ref 31, .int x, .ref 50, .int z, .int u, .int l5] [] ((zua ar 34 b34), fi, (m1, m2, m3, m4, m5)) = (
  bif decide (fi 31 9 ≤ l5) then
   some (.inr (some (.int z), ((zua ar 34 b34), fi, (m1, m2, m3, m4, m5))))
  else
   zg (zin l5 16) (
   bif !decide ((ar 35) (l5.toNatClampNeg) = x) then
    some (.inl (3, [.ref 31, .int x, .ref 50, .int z, .int u, .int (l5 + 1)], [], ((zua ar 34 b34), fi, (m1, m2, m3, m4, m5))))
   else
    zl (Q_lw_holds l5 (ar 32) (ar 33) b34 (ar 37) (ar 38) (ar 50)) (fun v1 => zg v1.isSome (
    bif decide (((zgt v1).1) = 0) then
     some (.inl (3, [.ref 31, .int x, .ref 50, .int z, .int u, .int (l5 + 1)], [], ((zua (zua ar 34 b34) 34 (((zgt v1).2))), fi, (m1, m2, m3, m4, m5))))
    else
     zg (zin l5 16) (
     zg (zin l5 16) (
     zl (Q_lw_run ((ar 36) (l5.toNatClampNeg)) ((ar 37) (l5.toNatClampNeg)) (ar 32) (ar 33) (((zgt v1).2)) (ar 50)) (fun v2 => zg v2.isSome (
     some (.inr (some (.int (if z < (if ((zgt v2).1) < u then ((zgt v2).1) else u) then (if ((zgt v2).1) < u then ((zgt v2).1) else u) else z)), ((zua (zua (zua ar 34 b34) 34 (((zgt v1).2))) 34 (((zgt v2).2))), fi, (m1, m2, m3, m4, m5))))))))))) : Option ((Nat × List Value × List Value × zH2) ⊕ zO2)) := rfl
theorem k_lw_amountOf_3_31_50 {X : Nat × (Nat → Int32)} {ar fi : Nat → Nat → Int32} {m1 m2 m3 m4 m5 : Nat} {x z u : Int32} {o : zO2} : ∀ (s : U_lw_amountOf_3) (q : U_lw_amountOf_3 ⊕ T_lw_amountOf), f_lw_amountOf_3 x z u (ar 32) (ar 33) (ar 35) (ar 36) (ar 37) (ar 38) (ar 50) (fi 31 9) s = some q → zq (M_lw_amountOf_3_31_50 X (zEx 45 S_lw_holds (zEx 46 S_lw_run zE0)) ar fi m1 m2 m3 m4 m5 x z u o) (fun t => O_lw_amountOf_31_50 ar fi m1 m2 m3 m4 m5 t = o) q → M_lw_amountOf_3_31_50 X (zEx 45 S_lw_holds (zEx 46 S_lw_run zE0)) ar fi m1 m2 m3 m4 m5 x z u o s := by
  intro s q h hq
  obtain ⟨l5, b34⟩ := s
  have h : b_lw_amountOf_3 x z u (ar 32) (ar 33) (ar 35) (ar 36) (ar 37) (ar 38) (ar 50) (fi 31 9) l5 b34 = some q := h
  unfold b_lw_amountOf_3 at h
  show zR2 X zFT (zEx 45 S_lw_holds (zEx 46 S_lw_run zE0)) zc_43 3 [.ref 31, .int x, .ref 50, .int z, .int u, .int l5] [] ((zua ar 34 b34), fi, (m1, m2, m3, m4, m5)) o
  refine zT_seg t3_lw_amountOf_31_50 ?_
  refine zb_el h (fun hb h => zT_t hb ?_) (fun hb h => zT_f hb ?_)
  · have hz := zsi h hq
    refine (zO_mk ?_ ?_).trans hz
    · first | with_reducible rfl | (exact zuas_eq _ [(34, _)] [(34, _)] [34] rfl rfl ⟨rfl, trivial⟩)
    · first | with_reducible rfl | (rfl)
  · refine zg_el h (fun hg h => zT_g hg ?_)
    refine zb_el h (fun hb h => zT_t hb ?_) (fun hb h => zT_f hb ?_)
    · have hz := zsi h hq
      refine zR2_hp ?_ ?_ hz
      · first | with_reducible rfl | (exact zuas_eq _ [(34, _)] [(34, _)] [34] rfl rfl ⟨rfl, trivial⟩)
      · first | with_reducible rfl | (rfl)
    · refine zbd_el h (fun v1 hv h => zT_c hv ?_)
      refine zb_el h (fun hb h => zT_t hb ?_) (fun hb h => zT_f hb ?_)
      · have hz := zsi h hq
        refine zR2_hp ?_ ?_ hz
        · first | with_reducible rfl | (exact zuas_eq _ [(34, _), (34, _)] [(34, _)] [34] rfl rfl ⟨rfl, trivial⟩)
        · first | with_reducible rfl | (rfl)
      · refine zg_el h (fun hg h => zT_g hg ?_)
        refine zg_el h (fun hg h => zT_g hg ?_)
        refine zbd_el h (fun v2 hv h => zT_c hv ?_)
        have hz := zsi h hq
        refine (zO_mk ?_ ?_).trans hz
        · first | with_reducible rfl | (exact zuas_eq _ [(34, _), (34, _), (34, _)] [(34, _)] [34] rfl rfl ⟨rfl, trivial⟩)
        · first | with_reducible rfl | (rfl)
set_option maxRecDepth 20000 in
theorem t_lw_amountOf_31_50 {X : Nat × (Nat → Int32)} {ar fi : Nat → Nat → Int32} {m1 m2 m3 m4 m5 : Nat} {x z u : Int32} {Q_lw_holds : Int32 → (Nat → Int32) → (Nat → Int32) → (Nat → Int32) → (Nat → Int32) → (Nat → Int32) → (Nat → Int32) → Option (Int32 × (Nat → Int32))} {Q_lw_run : Int32 → Int32 → (Nat → Int32) → (Nat → Int32) → (Nat → Int32) → (Nat → Int32) → Option (Int32 × (Nat → Int32))} : zseg X zFT (zEx 45 (P_lw_holds Q_lw_holds) (zEx 46 (P_lw_run Q_lw_run) zE0)) zc_43 (fun p => Nat.beq p 3) 400 0 [.ref 31, .int x, .ref 50, .int z, .int u] [] (ar, fi, (m1, m2, m3, m4, m5)) = (
  some (.inl (3, [.ref 31, .int x, .ref 50, .int z, .int u, .int 0], [], (ar, fi, (m1, m2, m3, m4, m5)))) : Option ((Nat × List Value × List Value × zH2) ⊕ zO2)) := rfl
theorem e_lw_amountOf_31_50 {X : Nat × (Nat → Int32)} {ar fi : Nat → Nat → Int32} {m1 m2 m3 m4 m5 : Nat} {x z u : Int32} {o : zO2} : ∀ (q : T_lw_amountOf), q_lw_amountOf x z u (ar 32) (ar 33) (ar 34) (ar 35) (ar 36) (ar 37) (ar 38) (ar 50) (fi 31 9) = some q → (fun t => O_lw_amountOf_31_50 ar fi m1 m2 m3 m4 m5 t = o) q → zR2 X zFT (zEx 45 S_lw_holds (zEx 46 S_lw_run zE0)) zc_43 0 [.ref 31, .int x, .ref 50, .int z, .int u] [] (ar, fi, (m1, m2, m3, m4, m5)) o := by
  intro q h hq
  unfold q_lw_amountOf at h
  refine zT_seg t_lw_amountOf_31_50 ?_
  refine zR2_hp ?_ ?_ (zlp_K k_lw_amountOf_3_31_50 h hq)
  · first | with_reducible rfl | (exact zuas_eq _ [] [(34, _)] [34] rfl rfl ⟨rfl, trivial⟩)
  · first | with_reducible rfl | (rfl)
theorem ok_lw_amountOf (X : Nat × (Nat → Int32)) : zOkS X 43 S_lw_amountOf 4 := zOkS_new (zOkE_cons (ok_lw_holds X) (by decide) (zOkE_cons (ok_lw_run X) (by decide) (zOkE_nil X 3))) (by
  intro args g o h
  obtain ⟨ar, fi, m1, m2, m3, m4, m5⟩ := g
  unfold S_lw_amountOf P_lw_amountOf at h
  split at h
  · refine zb_el h (fun hI0 k0 => ?_) (fun _ h10 => ?_)
    · try simp only [Bool.and_eq_true] at hI0
      obtain ⟨j0, j1⟩ := hI0
      have e0 := Nat.eq_of_beq_eq_true j0
      subst e0
      have e1 := Nat.eq_of_beq_eq_true j1
      subst e1
      exact zpe_el k0 (fun t ht ho => e_lw_amountOf_23_50 t ht ho)
    · skip
      refine zb_el h10 (fun hI1 k1 => ?_) (fun _ h11 => ?_)
      · try simp only [Bool.and_eq_true] at hI1
        obtain ⟨j0, j1⟩ := hI1
        have e0 := Nat.eq_of_beq_eq_true j0
        subst e0
        have e1 := Nat.eq_of_beq_eq_true j1
        subst e1
        exact zpe_el k1 (fun t ht ho => e_lw_amountOf_31_50 t ht ho)
      · cases h11
  · cases h)
abbrev T_lw_anyHolds : Type := Int32 × (Nat → Int32)
abbrev U_lw_anyHolds_2 : Type := Int32 × (Nat → Int32)
noncomputable def b_lw_anyHolds_2 (x : Int32) (a24 : Nat → Int32) (a25 : Nat → Int32) (a27 : Nat → Int32) (a29 : Nat → Int32) (a30 : Nat → Int32) (a50 : Nat → Int32) (f23_9 : Int32) (l3 : Int32) (b26 : Nat → Int32) : Option (U_lw_anyHolds_2 ⊕ T_lw_anyHolds) :=
  bif decide (f23_9 ≤ l3) then
   some (.inr (0, b26))
  else
   zg (zin l3 16) (
   bif !decide (a27 (l3.toNatClampNeg) = x) then
    some (.inl (l3 + 1, b26))
   else
    zbd (q_lw_holds l3 a24 a25 b26 a29 a30 a50) (fun v1 =>
    bif decide ((v1.1) = 0) then
     some (.inl (l3 + 1, ((v1.2))))
    else
     some (.inr (1, ((v1.2))))))
noncomputable def f_lw_anyHolds_2 (x : Int32) (a24 : Nat → Int32) (a25 : Nat → Int32) (a27 : Nat → Int32) (a29 : Nat → Int32) (a30 : Nat → Int32) (a50 : Nat → Int32) (f23_9 : Int32) : U_lw_anyHolds_2 → Option (U_lw_anyHolds_2 ⊕ T_lw_anyHolds) := fun s => b_lw_anyHolds_2 x a24 a25 a27 a29 a30 a50 f23_9 s.1 s.2
noncomputable def l_lw_anyHolds_2 (x : Int32) (a24 : Nat → Int32) (a25 : Nat → Int32) (a27 : Nat → Int32) (a29 : Nat → Int32) (a30 : Nat → Int32) (a50 : Nat → Int32) (f23_9 : Int32) (l3 : Int32) (b26 : Nat → Int32) : Option T_lw_anyHolds := zlp (f_lw_anyHolds_2 x a24 a25 a27 a29 a30 a50 f23_9) (l3, b26)
noncomputable def q_lw_anyHolds (x : Int32) (a24 : Nat → Int32) (a25 : Nat → Int32) (a26 : Nat → Int32) (a27 : Nat → Int32) (a29 : Nat → Int32) (a30 : Nat → Int32) (a50 : Nat → Int32) (f23_9 : Int32) : Option T_lw_anyHolds :=
  l_lw_anyHolds_2 x a24 a25 a27 a29 a30 a50 f23_9 0 a26
def P_lw_anyHolds (Q : Int32 → (Nat → Int32) → (Nat → Int32) → (Nat → Int32) → (Nat → Int32) → (Nat → Int32) → (Nat → Int32) → (Nat → Int32) → Int32 → Option (Int32 × (Nat → Int32))) : zSp := fun as g => match as with
  | [.ref a, .int x, .ref b] => bif Nat.beq a 23 && Nat.beq b 50 then zpe (Q x (g.1 24) (g.1 25) (g.1 26) (g.1 27) (g.1 29) (g.1 30) (g.1 50) (g.2.1 23 9)) (fun t => (some (.int (t.1)), ((zua g.1 26 t.2), g.2.1, g.2.2))) else bif Nat.beq a 31 && Nat.beq b 50 then zpe (Q x (g.1 32) (g.1 33) (g.1 34) (g.1 35) (g.1 37) (g.1 38) (g.1 50) (g.2.1 31 9)) (fun t => (some (.int (t.1)), ((zua g.1 34 t.2), g.2.1, g.2.2))) else none
  | _ => none
noncomputable abbrev S_lw_anyHolds : zSp := P_lw_anyHolds q_lw_anyHolds
def O_lw_anyHolds_23_50 (ar fi : Nat → Nat → Int32) (m1 : Nat) (m2 : Nat) (m3 : Nat) (m4 : Nat) (m5 : Nat) (t : T_lw_anyHolds) : zO2 := (some (.int (t.1)), ((zua ar 26 t.2), fi, (m1, m2, m3, m4, m5)))
def M_lw_anyHolds_2_23_50 (X : Nat × (Nat → Int32)) (E : zTE) (ar fi : Nat → Nat → Int32) (m1 : Nat) (m2 : Nat) (m3 : Nat) (m4 : Nat) (m5 : Nat) (x : Int32) (o : zO2) (s : U_lw_anyHolds_2) : Prop := zR2 X zFT E zc_44 2 [.ref 23, .int x, .ref 50, .int s.1] [] ((zua ar 26 s.2), fi, (m1, m2, m3, m4, m5)) o
set_option maxRecDepth 20000 in
theorem t2_lw_anyHolds_23_50 {X : Nat × (Nat → Int32)} {ar fi : Nat → Nat → Int32} {m1 m2 m3 m4 m5 : Nat} {x : Int32} {l3 : Int32} {b26 : Nat → Int32} {Q_lw_holds : Int32 → (Nat → Int32) → (Nat → Int32) → (Nat → Int32) → (Nat → Int32) → (Nat → Int32) → (Nat → Int32) → Option (Int32 × (Nat → Int32))} : zseg X zFT (zEx 45 (P_lw_holds Q_lw_holds) zE0) zc_44 (fun p => Nat.beq p 2) 400 2 [.ref 23, .int x, .ref 50, .int l3] [] ((zua ar 26 b26), fi, (m1, m2, m3, m4, m5)) = (
  bif decide (fi 23 9 ≤ l3) then
   some (.inr (some (.int 0), ((zua ar 26 b26), fi, (m1, m2, m3, m4, m5))))
  else
   zg (zin l3 16) (
   bif !decide ((ar 27) (l3.toNatClampNeg) = x) then
    some (.inl (2, [.ref 23, .int x, .ref 50, .int (l3 + 1)], [], ((zua ar 26 b26), fi, (m1, m2, m3, m4, m5))))
   else
    zl (Q_lw_holds l3 (ar 24) (ar 25) b26 (ar 29) (ar 30) (ar 50)) (fun v1 => zg v1.isSome (
    bif decide (((zgt v1).1) = 0) then
     some (.inl (2, [.ref 23, .int x, .ref 50, .int (l3 + 1)], [], ((zua (zua ar 26 b26) 26 (((zgt v1).2))), fi, (m1, m2, m3, m4, m5))))
    else
     some (.inr (some (.int 1), ((zua (zua ar 26 b26) 26 (((zgt v1).2))), fi, (m1, m2, m3, m4, m5))))))) : Option ((Nat × List Value × List Value × zH2) ⊕ zO2)) := rfl
theorem k_lw_anyHolds_2_23_50 {X : Nat × (Nat → Int32)} {ar fi : Nat → Nat → Int32} {m1 m2 m3 m4 m5 : Nat} {x : Int32} {o : zO2} : ∀ (s : U_lw_anyHolds_2) (q : U_lw_anyHolds_2 ⊕ T_lw_anyHolds), f_lw_anyHolds_2 x (ar 24) (ar 25) (ar 27) (ar 29) (ar 30) (ar 50) (fi 23 9) s = some q → zq (M_lw_anyHolds_2_23_50 X (zEx 45 S_lw_holds zE0) ar fi m1 m2 m3 m4 m5 x o) (fun t => O_lw_anyHolds_23_50 ar fi m1 m2 m3 m4 m5 t = o) q → M_lw_anyHolds_2_23_50 X (zEx 45 S_lw_holds zE0) ar fi m1 m2 m3 m4 m5 x o s := by
  intro s q h hq
  obtain ⟨l3, b26⟩ := s
  have h : b_lw_anyHolds_2 x (ar 24) (ar 25) (ar 27) (ar 29) (ar 30) (ar 50) (fi 23 9) l3 b26 = some q := h
  unfold b_lw_anyHolds_2 at h
  show zR2 X zFT (zEx 45 S_lw_holds zE0) zc_44 2 [.ref 23, .int x, .ref 50, .int l3] [] ((zua ar 26 b26), fi, (m1, m2, m3, m4, m5)) o
  refine zT_seg t2_lw_anyHolds_23_50 ?_
  refine zb_el h (fun hb h => zT_t hb ?_) (fun hb h => zT_f hb ?_)
  · have hz := zsi h hq
    refine (zO_mk ?_ ?_).trans hz
    · first | with_reducible rfl | (exact zuas_eq _ [(26, _)] [(26, _)] [26] rfl rfl ⟨rfl, trivial⟩)
    · first | with_reducible rfl | (rfl)
  · refine zg_el h (fun hg h => zT_g hg ?_)
    refine zb_el h (fun hb h => zT_t hb ?_) (fun hb h => zT_f hb ?_)
    · have hz := zsi h hq
      refine zR2_hp ?_ ?_ hz
      · first | with_reducible rfl | (exact zuas_eq _ [(26, _)] [(26, _)] [26] rfl rfl ⟨rfl, trivial⟩)
      · first | with_reducible rfl | (rfl)
    · refine zbd_el h (fun v1 hv h => zT_c hv ?_)
      refine zb_el h (fun hb h => zT_t hb ?_) (fun hb h => zT_f hb ?_)
      · have hz := zsi h hq
        refine zR2_hp ?_ ?_ hz
        · first | with_reducible rfl | (exact zuas_eq _ [(26, _), (26, _)] [(26, _)] [26] rfl rfl ⟨rfl, trivial⟩)
        · first | with_reducible rfl | (rfl)
      · have hz := zsi h hq
        refine (zO_mk ?_ ?_).trans hz
        · first | with_reducible rfl | (exact zuas_eq _ [(26, _), (26, _)] [(26, _)] [26] rfl rfl ⟨rfl, trivial⟩)
        · first | with_reducible rfl | (rfl)
set_option maxRecDepth 20000 in
theorem t_lw_anyHolds_23_50 {X : Nat × (Nat → Int32)} {ar fi : Nat → Nat → Int32} {m1 m2 m3 m4 m5 : Nat} {x : Int32} {Q_lw_holds : Int32 → (Nat → Int32) → (Nat → Int32) → (Nat → Int32) → (Nat → Int32) → (Nat → Int32) → (Nat → Int32) → Option (Int32 × (Nat → Int32))} : zseg X zFT (zEx 45 (P_lw_holds Q_lw_holds) zE0) zc_44 (fun p => Nat.beq p 2) 400 0 [.ref 23, .int x, .ref 50] [] (ar, fi, (m1, m2, m3, m4, m5)) = (
  some (.inl (2, [.ref 23, .int x, .ref 50, .int 0], [], (ar, fi, (m1, m2, m3, m4, m5)))) : Option ((Nat × List Value × List Value × zH2) ⊕ zO2)) := rfl
theorem e_lw_anyHolds_23_50 {X : Nat × (Nat → Int32)} {ar fi : Nat → Nat → Int32} {m1 m2 m3 m4 m5 : Nat} {x : Int32} {o : zO2} : ∀ (q : T_lw_anyHolds), q_lw_anyHolds x (ar 24) (ar 25) (ar 26) (ar 27) (ar 29) (ar 30) (ar 50) (fi 23 9) = some q → (fun t => O_lw_anyHolds_23_50 ar fi m1 m2 m3 m4 m5 t = o) q → zR2 X zFT (zEx 45 S_lw_holds zE0) zc_44 0 [.ref 23, .int x, .ref 50] [] (ar, fi, (m1, m2, m3, m4, m5)) o := by
  intro q h hq
  unfold q_lw_anyHolds at h
  refine zT_seg t_lw_anyHolds_23_50 ?_
  refine zR2_hp ?_ ?_ (zlp_K k_lw_anyHolds_2_23_50 h hq)
  · first | with_reducible rfl | (exact zuas_eq _ [] [(26, _)] [26] rfl rfl ⟨rfl, trivial⟩)
  · first | with_reducible rfl | (rfl)
def O_lw_anyHolds_31_50 (ar fi : Nat → Nat → Int32) (m1 : Nat) (m2 : Nat) (m3 : Nat) (m4 : Nat) (m5 : Nat) (t : T_lw_anyHolds) : zO2 := (some (.int (t.1)), ((zua ar 34 t.2), fi, (m1, m2, m3, m4, m5)))
def M_lw_anyHolds_2_31_50 (X : Nat × (Nat → Int32)) (E : zTE) (ar fi : Nat → Nat → Int32) (m1 : Nat) (m2 : Nat) (m3 : Nat) (m4 : Nat) (m5 : Nat) (x : Int32) (o : zO2) (s : U_lw_anyHolds_2) : Prop := zR2 X zFT E zc_44 2 [.ref 31, .int x, .ref 50, .int s.1] [] ((zua ar 34 s.2), fi, (m1, m2, m3, m4, m5)) o
set_option maxRecDepth 20000 in
theorem t2_lw_anyHolds_31_50 {X : Nat × (Nat → Int32)} {ar fi : Nat → Nat → Int32} {m1 m2 m3 m4 m5 : Nat} {x : Int32} {l3 : Int32} {b34 : Nat → Int32} {Q_lw_holds : Int32 → (Nat → Int32) → (Nat → Int32) → (Nat → Int32) → (Nat → Int32) → (Nat → Int32) → (Nat → Int32) → Option (Int32 × (Nat → Int32))} : zseg X zFT (zEx 45 (P_lw_holds Q_lw_holds) zE0) zc_44 (fun p => Nat.beq p 2) 400 2 [.ref 31, .int x, .ref 50, .int l3] [] ((zua ar 34 b34), fi, (m1, m2, m3, m4, m5)) = (
  bif decide (fi 31 9 ≤ l3) then
   some (.inr (some (.int 0), ((zua ar 34 b34), fi, (m1, m2, m3, m4, m5))))
  else
   zg (zin l3 16) (
   bif !decide ((ar 35) (l3.toNatClampNeg) = x) then
    some (.inl (2, [.ref 31, .int x, .ref 50, .int (l3 + 1)], [], ((zua ar 34 b34), fi, (m1, m2, m3, m4, m5))))
   else
    zl (Q_lw_holds l3 (ar 32) (ar 33) b34 (ar 37) (ar 38) (ar 50)) (fun v1 => zg v1.isSome (
    bif decide (((zgt v1).1) = 0) then
     some (.inl (2, [.ref 31, .int x, .ref 50, .int (l3 + 1)], [], ((zua (zua ar 34 b34) 34 (((zgt v1).2))), fi, (m1, m2, m3, m4, m5))))
    else
     some (.inr (some (.int 1), ((zua (zua ar 34 b34) 34 (((zgt v1).2))), fi, (m1, m2, m3, m4, m5))))))) : Option ((Nat × List Value × List Value × zH2) ⊕ zO2)) := rfl
theorem k_lw_anyHolds_2_31_50 {X : Nat × (Nat → Int32)} {ar fi : Nat → Nat → Int32} {m1 m2 m3 m4 m5 : Nat} {x : Int32} {o : zO2} : ∀ (s : U_lw_anyHolds_2) (q : U_lw_anyHolds_2 ⊕ T_lw_anyHolds), f_lw_anyHolds_2 x (ar 32) (ar 33) (ar 35) (ar 37) (ar 38) (ar 50) (fi 31 9) s = some q → zq (M_lw_anyHolds_2_31_50 X (zEx 45 S_lw_holds zE0) ar fi m1 m2 m3 m4 m5 x o) (fun t => O_lw_anyHolds_31_50 ar fi m1 m2 m3 m4 m5 t = o) q → M_lw_anyHolds_2_31_50 X (zEx 45 S_lw_holds zE0) ar fi m1 m2 m3 m4 m5 x o s := by
  intro s q h hq
  obtain ⟨l3, b34⟩ := s
  have h : b_lw_anyHolds_2 x (ar 32) (ar 33) (ar 35) (ar 37) (ar 38) (ar 50) (fi 31 9) l3 b34 = some q := h
  unfold b_lw_anyHolds_2 at h
  show zR2 X zFT (zEx 45 S_lw_holds zE0) zc_44 2 [.ref 31, .int x, .ref 50, .int l3] [] ((zua ar 34 b34), fi, (m1, m2, m3, m4, m5)) o
  refine zT_seg t2_lw_anyHolds_31_50 ?_
  refine zb_el h (fun hb h => zT_t hb ?_) (fun hb h => zT_f hb ?_)
  · have hz := zsi h hq
    refine (zO_mk ?_ ?_).trans hz
    · first | with_reducible rfl | (exact zuas_eq _ [(34, _)] [(34, _)] [34] rfl rfl ⟨rfl, trivial⟩)
    · first | with_reducible rfl | (rfl)
  · refine zg_el h (fun hg h => zT_g hg ?_)
    refine zb_el h (fun hb h => zT_t hb ?_) (fun hb h => zT_f hb ?_)
    · have hz := zsi h hq
      refine zR2_hp ?_ ?_ hz
      · first | with_reducible rfl | (exact zuas_eq _ [(34, _)] [(34, _)] [34] rfl rfl ⟨rfl, trivial⟩)
      · first | with_reducible rfl | (rfl)
    · refine zbd_el h (fun v1 hv h => zT_c hv ?_)
      refine zb_el h (fun hb h => zT_t hb ?_) (fun hb h => zT_f hb ?_)
      · have hz := zsi h hq
        refine zR2_hp ?_ ?_ hz
        · first | with_reducible rfl | (exact zuas_eq _ [(34, _), (34, _)] [(34, _)] [34] rfl rfl ⟨rfl, trivial⟩)
        · first | with_reducible rfl | (rfl)
      · have hz := zsi h hq
        refine (zO_mk ?_ ?_).trans hz
        · first | with_reducible rfl | (exact zuas_eq _ [(34, _), (34, _)] [(34, _)] [34] rfl rfl ⟨rfl, trivial⟩)
        · first | with_reducible rfl | (rfl)
set_option maxRecDepth 20000 in
theorem t_lw_anyHolds_31_50 {X : Nat × (Nat → Int32)} {ar fi : Nat → Nat → Int32} {m1 m2 m3 m4 m5 : Nat} {x : Int32} {Q_lw_holds : Int32 → (Nat → Int32) → (Nat → Int32) → (Nat → Int32) → (Nat → Int32) → (Nat → Int32) → (Nat → Int32) → Option (Int32 × (Nat → Int32))} : zseg X zFT (zEx 45 (P_lw_holds Q_lw_holds) zE0) zc_44 (fun p => Nat.beq p 2) 400 0 [.ref 31, .int x, .ref 50] [] (ar, fi, (m1, m2, m3, m4, m5)) = (
  some (.inl (2, [.ref 31, .int x, .ref 50, .int 0], [], (ar, fi, (m1, m2, m3, m4, m5)))) : Option ((Nat × List Value × List Value × zH2) ⊕ zO2)) := rfl
theorem e_lw_anyHolds_31_50 {X : Nat × (Nat → Int32)} {ar fi : Nat → Nat → Int32} {m1 m2 m3 m4 m5 : Nat} {x : Int32} {o : zO2} : ∀ (q : T_lw_anyHolds), q_lw_anyHolds x (ar 32) (ar 33) (ar 34) (ar 35) (ar 37) (ar 38) (ar 50) (fi 31 9) = some q → (fun t => O_lw_anyHolds_31_50 ar fi m1 m2 m3 m4 m5 t = o) q → zR2 X zFT (zEx 45 S_lw_holds zE0) zc_44 0 [.ref 31, .int x, .ref 50] [] (ar, fi, (m1, m2, m3, m4, m5)) o := by
  intro q h hq
  unfold q_lw_anyHolds at h
  refine zT_seg t_lw_anyHolds_31_50 ?_
  refine zR2_hp ?_ ?_ (zlp_K k_lw_anyHolds_2_31_50 h hq)
  · first | with_reducible rfl | (exact zuas_eq _ [] [(34, _)] [34] rfl rfl ⟨rfl, trivial⟩)
  · first | with_reducible rfl | (rfl)
theorem ok_lw_anyHolds (X : Nat × (Nat → Int32)) : zOkS X 44 S_lw_anyHolds 4 := zOkS_new (zOkE_cons (ok_lw_holds X) (by decide) (zOkE_nil X 3)) (by
  intro args g o h
  obtain ⟨ar, fi, m1, m2, m3, m4, m5⟩ := g
  unfold S_lw_anyHolds P_lw_anyHolds at h
  split at h
  · refine zb_el h (fun hI0 k0 => ?_) (fun _ h10 => ?_)
    · try simp only [Bool.and_eq_true] at hI0
      obtain ⟨j0, j1⟩ := hI0
      have e0 := Nat.eq_of_beq_eq_true j0
      subst e0
      have e1 := Nat.eq_of_beq_eq_true j1
      subst e1
      exact zpe_el k0 (fun t ht ho => e_lw_anyHolds_23_50 t ht ho)
    · skip
      refine zb_el h10 (fun hI1 k1 => ?_) (fun _ h11 => ?_)
      · try simp only [Bool.and_eq_true] at hI1
        obtain ⟨j0, j1⟩ := hI1
        have e0 := Nat.eq_of_beq_eq_true j0
        subst e0
        have e1 := Nat.eq_of_beq_eq_true j1
        subst e1
        exact zpe_el k1 (fun t ht ho => e_lw_anyHolds_31_50 t ht ho)
      · cases h11
  · cases h)
abbrev T_od_readPlace : Type := Int32 × Int32 × Int32 × Int32
noncomputable def q_od_readPlace (a1 : Nat → Int32) (f47_1 : Int32) (f47_2 : Int32) (f47_3 : Int32) (f47_4 : Int32) : Option T_od_readPlace :=
  zbd (q_od_readBounded 11 a1 (f47_1) (f47_2) (f47_3) (f47_4)) (fun v1 =>
  zg (g_tx_expect 44 ((v1.2.1)) ((v1.2.2.2)) (f47_1) a1 ((v1.2.2.1))) (
  zl (f0_tx_expect 44 ((v1.2.1)) ((v1.2.2.2)) (f47_1) a1 ((v1.2.2.1))) (fun v2 =>
  zl (f1_tx_expect 44 ((v1.2.1)) ((v1.2.2.2)) (f47_1) a1 ((v1.2.2.1))) (fun v3 =>
  zl (f2_tx_expect 44 ((v1.2.1)) ((v1.2.2.2)) (f47_1) a1 ((v1.2.2.1))) (fun v4 =>
  zbd (q_od_readBounded 7 a1 (f47_1) v2 v3 v4) (fun v5 =>
  some ((12 * ((v5.1))) + ((v1.1)), (v5.2.1), (v5.2.2.1), (v5.2.2.2))))))))
def P_od_readPlace (Q : (Nat → Int32) → Int32 → Int32 → Int32 → Int32 → Option (Int32 × Int32 × Int32 × Int32)) : zSp := fun as g => match as with
  | [.ref a] => bif Nat.beq a 46 && Nat.beq g.2.2.2.2.2.2 1 then zpe (Q (g.1 1) (g.2.1 47 1) (g.2.1 47 2) (g.2.1 47 3) (g.2.1 47 4)) (fun t => (some (.int (t.1)), (g.1, (zuf (zuf (zuf g.2.1 47 2 t.2.1) 47 3 t.2.2.1) 47 4 t.2.2.2), g.2.2))) else none
  | _ => none
noncomputable abbrev S_od_readPlace : zSp := P_od_readPlace q_od_readPlace
def O_od_readPlace (ar fi : Nat → Nat → Int32) (m1 : Nat) (m2 : Nat) (m3 : Nat) (m4 : Nat) (t : T_od_readPlace) : zO2 := (some (.int (t.1)), (ar, (zuf (zuf (zuf fi 47 2 t.2.1) 47 3 t.2.2.1) 47 4 t.2.2.2), (m1, m2, m3, m4, 1)))
set_option maxRecDepth 20000 in
theorem t_od_readPlace {X : Nat × (Nat → Int32)} {ar fi : Nat → Nat → Int32} {m1 m2 m3 m4 : Nat} {Q_od_readBounded : Int32 → (Nat → Int32) → Int32 → Int32 → Int32 → Int32 → Option (Int32 × Int32 × Int32 × Int32)} {G_tx_expect : Int32 → Int32 → Int32 → Int32 → (Nat → Int32) → Int32 → Bool} {F0_tx_expect : Int32 → Int32 → Int32 → Int32 → (Nat → Int32) → Int32 → Int32} {F1_tx_expect : Int32 → Int32 → Int32 → Int32 → (Nat → Int32) → Int32 → Int32} {F2_tx_expect : Int32 → Int32 → Int32 → Int32 → (Nat → Int32) → Int32 → Int32} : zseg X zFT (zEx 64 (P_od_readBounded Q_od_readBounded) (zEx 96 (P_tx_expect G_tx_expect F0_tx_expect F1_tx_expect F2_tx_expect) zE0)) zc_63 (fun p => false) 400 0 [.ref 46] [] (ar, fi, (m1, m2, m3, m4, 1)) = (
  zl (Q_od_readBounded 11 (ar 1) (fi 47 1) (fi 47 2) (fi 47 3) (fi 47 4)) (fun v1 => zg v1.isSome (
  zg (G_tx_expect 44 (((zgt v1).2.1)) (((zgt v1).2.2.2)) (fi 47 1) (ar 1) (((zgt v1).2.2.1))) (
  zl (F0_tx_expect 44 (((zgt v1).2.1)) (((zgt v1).2.2.2)) (fi 47 1) (ar 1) (((zgt v1).2.2.1))) (fun v2 =>
  zl (F1_tx_expect 44 (((zgt v1).2.1)) (((zgt v1).2.2.2)) (fi 47 1) (ar 1) (((zgt v1).2.2.1))) (fun v3 =>
  zl (F2_tx_expect 44 (((zgt v1).2.1)) (((zgt v1).2.2.2)) (fi 47 1) (ar 1) (((zgt v1).2.2.1))) (fun v4 =>
  zl (Q_od_readBounded 7 (ar 1) (fi 47 1) v2 v3 v4) (fun v5 => zg v5.isSome (
  some (.inr (some (.int ((12 * (((zgt v5).1))) + (((zgt v1).1)))), (ar, (zuf (zuf (zuf (zuf (zuf (zuf (zuf (zuf (zuf fi 47 2 (((zgt v1).2.1))) 47 3 (((zgt v1).2.2.1))) 47 4 (((zgt v1).2.2.2))) 47 2 v2) 47 3 v3) 47 4 v4) 47 2 (((zgt v5).2.1))) 47 3 (((zgt v5).2.2.1))) 47 4 (((zgt v5).2.2.2))), (m1, m2, m3, m4, 1)))))))))))) : Option ((Nat × List Value × List Value × zH2) ⊕ zO2)) := rfl
theorem e_od_readPlace {X : Nat × (Nat → Int32)} {ar fi : Nat → Nat → Int32} {m1 m2 m3 m4 : Nat} {o : zO2} : ∀ (q : T_od_readPlace), q_od_readPlace (ar 1) (fi 47 1) (fi 47 2) (fi 47 3) (fi 47 4) = some q → (fun t => O_od_readPlace ar fi m1 m2 m3 m4 t = o) q → zR2 X zFT (zEx 64 S_od_readBounded (zEx 96 S_tx_expect zE0)) zc_63 0 [.ref 46] [] (ar, fi, (m1, m2, m3, m4, 1)) o := by
  intro q h hq
  unfold q_od_readPlace at h
  refine zT_seg t_od_readPlace ?_
  refine zbd_el h (fun v1 hv h => zT_c hv ?_)
  refine zg_el h (fun hg h => zT_g hg ?_)
  refine zl_el h (fun h => zT_l ?_)
  refine zl_el h (fun h => zT_l ?_)
  refine zl_el h (fun h => zT_l ?_)
  refine zbd_el h (fun v5 hv h => zT_c hv ?_)
  have hz := zsi h hq
  refine (zO_mk ?_ ?_).trans hz
  · first | with_reducible rfl | (rfl)
  · first | with_reducible rfl | (exact zufs_eq _ [(47, 2, _), (47, 3, _), (47, 4, _), (47, 2, _), (47, 3, _), (47, 4, _), (47, 2, _), (47, 3, _), (47, 4, _)] [(47, 2, _), (47, 3, _), (47, 4, _)] [(47, 2), (47, 3), (47, 4)] rfl rfl ⟨rfl, rfl, rfl, trivial⟩)
theorem ok_od_readPlace (X : Nat × (Nat → Int32)) : zOkS X 63 S_od_readPlace 4 := zOkS_new (zOkE_cons (ok_od_readBounded X) (by decide) (zOkE_cons (ok_tx_expect X) (by decide) (zOkE_nil X 3))) (by
  intro args g o h
  obtain ⟨ar, fi, m1, m2, m3, m4, m5⟩ := g
  unfold S_od_readPlace P_od_readPlace at h
  split at h
  · refine zb_el h (fun hI0 k0 => ?_) (fun _ h10 => ?_)
    · try simp only [Bool.and_eq_true] at hI0
      obtain ⟨j0, j1⟩ := hI0
      have e0 := Nat.eq_of_beq_eq_true j0
      subst e0
      have e9 : m5 = 1 := Nat.eq_of_beq_eq_true j1
      subst e9
      exact zpe_el k0 (fun t ht ho => e_od_readPlace t ht ho)
    · cases h10
  · cases h)
abbrev T_tn_read : Type := Int32 × (Nat → Int32) × Int32 × Int32 × Int32 × Int32
abbrev U_tn_read_35 : Type := Int32 × Int32 × (Nat → Int32) × Int32 × Int32 × Int32
abbrev U_tn_read_11 : Type := Int32 × (Nat → Int32)
noncomputable def b_tn_read_35 (a1 : Nat → Int32) (c44_1 : Int32) (l3 : Int32) (l4 : Int32) (b43 : Nat → Int32) (c44_2 : Int32) (c44_3 : Int32) (c44_4 : Int32) : Option (U_tn_read_35 ⊕ T_tn_read) :=
  bif decide (8 < l4) then
   zl (w_tx_answerOr 0 c44_2 c44_3) (fun v5 =>
   some (.inr (v5, b43, c44_1, c44_2, c44_3, c44_4)))
  else
   bif decide (l3 = 0) then
    zl (w_tx_answerOr 0 c44_2 c44_3) (fun v6 =>
    some (.inr (v6, b43, c44_1, c44_2, c44_3, c44_4)))
   else
    zbd (q_tn_readRow l4 a1 b43 c44_1 c44_2 c44_3 c44_4) (fun v7 =>
    zg (g_tx_sign ((v7.2.1)) ((v7.2.2.2)) c44_1 a1) (
    zl (w_tx_sign ((v7.2.1)) ((v7.2.2.2)) c44_1 a1) (fun v8 =>
    bif !decide (v8 = 47) then
     some (.inl (0, l4 + 1, ((v7.1)), (v7.2.1), (v7.2.2.1), (v7.2.2.2)))
    else
     zl (f0_tx_skip ((v7.2.2.2))) (fun v9 =>
     some (.inl (1, l4 + 1, ((v7.1)), (v7.2.1), (v7.2.2.1), v9))))))
noncomputable def f_tn_read_35 (a1 : Nat → Int32) (c44_1 : Int32) : U_tn_read_35 → Option (U_tn_read_35 ⊕ T_tn_read) := fun s => b_tn_read_35 a1 c44_1 s.1 s.2.1 s.2.2.1 s.2.2.2.1 s.2.2.2.2.1 s.2.2.2.2.2
noncomputable def l_tn_read_35 (a1 : Nat → Int32) (c44_1 : Int32) (l3 : Int32) (l4 : Int32) (b43 : Nat → Int32) (c44_2 : Int32) (c44_3 : Int32) (c44_4 : Int32) : Option T_tn_read := zlp (f_tn_read_35 a1 c44_1) (l3, l4, b43, c44_2, c44_3, c44_4)
noncomputable def b_tn_read_11 (a1 : Nat → Int32) (c44_1 : Int32) (c44_2 : Int32) (c44_3 : Int32) (c44_4 : Int32) (l3 : Int32) (b43 : Nat → Int32) : Option (U_tn_read_11 ⊕ T_tn_read) :=
  bif decide (96 ≤ l3) then
   zbd (l_tn_read_35 a1 c44_1 1 0 b43 c44_2 c44_3 c44_4) (fun k => some (.inr k))
  else
   zg (zin l3 96) (
   some (.inl (l3 + 1, (zup b43 (l3.toNatClampNeg) 0))))
noncomputable def f_tn_read_11 (a1 : Nat → Int32) (c44_1 : Int32) (c44_2 : Int32) (c44_3 : Int32) (c44_4 : Int32) : U_tn_read_11 → Option (U_tn_read_11 ⊕ T_tn_read) := fun s => b_tn_read_11 a1 c44_1 c44_2 c44_3 c44_4 s.1 s.2
noncomputable def l_tn_read_11 (a1 : Nat → Int32) (c44_1 : Int32) (c44_2 : Int32) (c44_3 : Int32) (c44_4 : Int32) (l3 : Int32) (b43 : Nat → Int32) : Option T_tn_read := zlp (f_tn_read_11 a1 c44_1 c44_2 c44_3 c44_4) (l3, b43)
noncomputable def q_tn_read (y : Int32) (a1 : Nat → Int32) (a43 : Nat → Int32) : Option T_tn_read :=
  zl (f0_tx_begin y) (fun v1 =>
  zl (f1_tx_begin y) (fun v2 =>
  zl (f2_tx_begin y) (fun v3 =>
  zl (f3_tx_begin y) (fun v4 =>
  l_tn_read_11 a1 v1 v2 v3 v4 0 a43))))
def P_tn_read (Q : Int32 → (Nat → Int32) → (Nat → Int32) → Option (Int32 × (Nat → Int32) × Int32 × Int32 × Int32 × Int32)) : zSp := fun as g => match as with
  | [.ref a, .ref b, .int y] => bif Nat.beq a 42 && Nat.beq b 1 then zpe (Q y (g.1 1) (g.1 43)) (fun t => (some (.int (t.1)), ((zua g.1 43 t.2.1), (zuf (zuf (zuf (zuf g.2.1 44 1 t.2.2.1) 44 2 t.2.2.2.1) 44 3 t.2.2.2.2.1) 44 4 t.2.2.2.2.2), (g.2.2.1, g.2.2.2.1, g.2.2.2.2.1, 1, g.2.2.2.2.2.2)))) else none
  | _ => none
noncomputable abbrev S_tn_read : zSp := P_tn_read q_tn_read
def O_tn_read (ar fi : Nat → Nat → Int32) (m1 : Nat) (m2 : Nat) (m3 : Nat) (m4 : Nat) (m5 : Nat) (t : T_tn_read) : zO2 := (some (.int (t.1)), ((zua ar 43 t.2.1), (zuf (zuf (zuf (zuf fi 44 1 t.2.2.1) 44 2 t.2.2.2.1) 44 3 t.2.2.2.2.1) 44 4 t.2.2.2.2.2), (m1, m2, m3, 1, m5)))
def M_tn_read_35 (X : Nat × (Nat → Int32)) (E : zTE) (ar fi : Nat → Nat → Int32) (m1 : Nat) (m2 : Nat) (m3 : Nat) (m4 : Nat) (m5 : Nat) (y : Int32) (c44_1 : Int32) (o : zO2) (s : U_tn_read_35) : Prop := zR2 X zFT E zc_101 35 [.ref 42, .ref 1, .int y, .int s.1, .int s.2.1] [] ((zua ar 43 s.2.2.1), (zuf (zuf (zuf (zuf fi 44 1 c44_1) 44 2 s.2.2.2.1) 44 3 s.2.2.2.2.1) 44 4 s.2.2.2.2.2), (m1, m2, m3, 1, m5)) o
def M_tn_read_11 (X : Nat × (Nat → Int32)) (E : zTE) (ar fi : Nat → Nat → Int32) (m1 : Nat) (m2 : Nat) (m3 : Nat) (m4 : Nat) (m5 : Nat) (y : Int32) (c44_1 : Int32) (c44_2 : Int32) (c44_3 : Int32) (c44_4 : Int32) (o : zO2) (s : U_tn_read_11) : Prop := zR2 X zFT E zc_101 11 [.ref 42, .ref 1, .int y, .int s.1] [] ((zua ar 43 s.2), (zuf (zuf (zuf (zuf fi 44 1 c44_1) 44 2 c44_2) 44 3 c44_3) 44 4 c44_4), (m1, m2, m3, 1, m5)) o
set_option maxRecDepth 20000 in
theorem t35_tn_read {X : Nat × (Nat → Int32)} {ar fi : Nat → Nat → Int32} {m1 m2 m3 m4 m5 : Nat} {y : Int32} {l3 : Int32} {l4 : Int32} {b43 : Nat → Int32} {c44_1 : Int32} {c44_2 : Int32} {c44_3 : Int32} {c44_4 : Int32} {F0_tx_begin : Int32 → Int32} {F1_tx_begin : Int32 → Int32} {F2_tx_begin : Int32 → Int32} {F3_tx_begin : Int32 → Int32} {Q_tn_readRow : Int32 → (Nat → Int32) → (Nat → Int32) → Int32 → Int32 → Int32 → Int32 → Option ((Nat → Int32) × Int32 × Int32 × Int32)} {G_tx_sign : Int32 → Int32 → Int32 → (Nat → Int32) → Bool} {W_tx_sign : Int32 → Int32 → Int32 → (Nat → Int32) → Int32} {F0_tx_skip : Int32 → Int32} {W_tx_answerOr : Int32 → Int32 → Int32 → Int32} : zseg X zFT (zEx 90 (P_tx_begin F0_tx_begin F1_tx_begin F2_tx_begin F3_tx_begin) (zEx 102 (P_tn_readRow Q_tn_readRow) (zEx 93 (P_tx_sign G_tx_sign W_tx_sign) (zEx 95 (P_tx_skip F0_tx_skip) (zEx 99 (P_tx_answerOr W_tx_answerOr) zE0))))) zc_101 (fun p => Nat.beq p 35 || Nat.beq p 11) 400 35 [.ref 42, .ref 1, .int y, .int l3, .int l4] [] ((zua ar 43 b43), (zuf (zuf (zuf (zuf fi 44 1 c44_1) 44 2 c44_2) 44 3 c44_3) 44 4 c44_4), (m1, m2, m3, 1, m5)) = (
  bif decide (8 < l4) then
   zl (W_tx_answerOr 0 c44_2 c44_3) (fun v5 =>
   some (.inr (some (.int v5), ((zua ar 43 b43), (zuf (zuf (zuf (zuf fi 44 1 c44_1) 44 2 c44_2) 44 3 c44_3) 44 4 c44_4), (m1, m2, m3, 1, m5)))))
  else
   bif decide (l3 = 0) then
    zl (W_tx_answerOr 0 c44_2 c44_3) (fun v6 =>
    some (.inr (some (.int v6), ((zua ar 43 b43), (zuf (zuf (zuf (zuf fi 44 1 c44_1) 44 2 c44_2) 44 3 c44_3) 44 4 c44_4), (m1, m2, m3, 1, m5)))))
   else
    zl (Q_tn_readRow l4 (ar 1) b43 c44_1 c44_2 c44_3 c44_4) (fun v7 => zg v7.isSome (
    zg (G_tx_sign (((zgt v7).2.1)) (((zgt v7).2.2.2)) c44_1 (ar 1)) (
    zl (W_tx_sign (((zgt v7).2.1)) (((zgt v7).2.2.2)) c44_1 (ar 1)) (fun v8 =>
    bif !decide (v8 = 47) then
     some (.inl (35, [.ref 42, .ref 1, .int y, .int 0, .int (l4 + 1)], [], ((zua (zua ar 43 b43) 43 (((zgt v7).1))), (zuf (zuf (zuf (zuf (zuf (zuf (zuf fi 44 1 c44_1) 44 2 c44_2) 44 3 c44_3) 44 4 c44_4) 44 2 (((zgt v7).2.1))) 44 3 (((zgt v7).2.2.1))) 44 4 (((zgt v7).2.2.2))), (m1, m2, m3, 1, m5))))
    else
     zl (F0_tx_skip (((zgt v7).2.2.2))) (fun v9 =>
     some (.inl (35, [.ref 42, .ref 1, .int y, .int 1, .int (l4 + 1)], [], ((zua (zua ar 43 b43) 43 (((zgt v7).1))), (zuf (zuf (zuf (zuf (zuf (zuf (zuf (zuf fi 44 1 c44_1) 44 2 c44_2) 44 3 c44_3) 44 4 c44_4) 44 2 (((zgt v7).2.1))) 44 3 (((zgt v7).2.2.1))) 44 4 (((zgt v7).2.2.2))) 44 4 v9), (m1, m2, m3, 1, m5))))))))) : Option ((Nat × List Value × List Value × zH2) ⊕ zO2)) := rfl
theorem k_tn_read_35 {X : Nat × (Nat → Int32)} {ar fi : Nat → Nat → Int32} {m1 m2 m3 m4 m5 : Nat} {y : Int32} {c44_1 : Int32} {o : zO2} : ∀ (s : U_tn_read_35) (q : U_tn_read_35 ⊕ T_tn_read), f_tn_read_35 (ar 1) c44_1 s = some q → zq (M_tn_read_35 X (zEx 90 S_tx_begin (zEx 102 S_tn_readRow (zEx 93 S_tx_sign (zEx 95 S_tx_skip (zEx 99 S_tx_answerOr zE0))))) ar fi m1 m2 m3 m4 m5 y c44_1 o) (fun t => O_tn_read ar fi m1 m2 m3 m4 m5 t = o) q → M_tn_read_35 X (zEx 90 S_tx_begin (zEx 102 S_tn_readRow (zEx 93 S_tx_sign (zEx 95 S_tx_skip (zEx 99 S_tx_answerOr zE0))))) ar fi m1 m2 m3 m4 m5 y c44_1 o s := by
  intro s q h hq
  obtain ⟨l3, l4, b43, c44_2, c44_3, c44_4⟩ := s
  have h : b_tn_read_35 (ar 1) c44_1 l3 l4 b43 c44_2 c44_3 c44_4 = some q := h
  unfold b_tn_read_35 at h
  show zR2 X zFT (zEx 90 S_tx_begin (zEx 102 S_tn_readRow (zEx 93 S_tx_sign (zEx 95 S_tx_skip (zEx 99 S_tx_answerOr zE0))))) zc_101 35 [.ref 42, .ref 1, .int y, .int l3, .int l4] [] ((zua ar 43 b43), (zuf (zuf (zuf (zuf fi 44 1 c44_1) 44 2 c44_2) 44 3 c44_3) 44 4 c44_4), (m1, m2, m3, 1, m5)) o
  refine zT_seg t35_tn_read ?_
  refine zb_el h (fun hb h => zT_t hb ?_) (fun hb h => zT_f hb ?_)
  · refine zl_el h (fun h => zT_l ?_)
    have hz := zsi h hq
    refine (zO_mk ?_ ?_).trans hz
    · first | with_reducible rfl | (exact zuas_eq _ [(43, _)] [(43, _)] [43] rfl rfl ⟨rfl, trivial⟩)
    · first | with_reducible rfl | (exact zufs_eq _ [(44, 1, _), (44, 2, _), (44, 3, _), (44, 4, _)] [(44, 1, _), (44, 2, _), (44, 3, _), (44, 4, _)] [(44, 1), (44, 2), (44, 3), (44, 4)] rfl rfl ⟨rfl, rfl, rfl, rfl, trivial⟩)
  · refine zb_el h (fun hb h => zT_t hb ?_) (fun hb h => zT_f hb ?_)
    · refine zl_el h (fun h => zT_l ?_)
      have hz := zsi h hq
      refine (zO_mk ?_ ?_).trans hz
      · first | with_reducible rfl | (exact zuas_eq _ [(43, _)] [(43, _)] [43] rfl rfl ⟨rfl, trivial⟩)
      · first | with_reducible rfl | (exact zufs_eq _ [(44, 1, _), (44, 2, _), (44, 3, _), (44, 4, _)] [(44, 1, _), (44, 2, _), (44, 3, _), (44, 4, _)] [(44, 1), (44, 2), (44, 3), (44, 4)] rfl rfl ⟨rfl, rfl, rfl, rfl, trivial⟩)
    · refine zbd_el h (fun v7 hv h => zT_c hv ?_)
      refine zg_el h (fun hg h => zT_g hg ?_)
      refine zl_el h (fun h => zT_l ?_)
      refine zb_el h (fun hb h => zT_t hb ?_) (fun hb h => zT_f hb ?_)
      · have hz := zsi h hq
        refine zR2_hp ?_ ?_ hz
        · first | with_reducible rfl | (exact zuas_eq _ [(43, _), (43, _)] [(43, _)] [43] rfl rfl ⟨rfl, trivial⟩)
        · first | with_reducible rfl | (exact zufs_eq _ [(44, 1, _), (44, 2, _), (44, 3, _), (44, 4, _), (44, 2, _), (44, 3, _), (44, 4, _)] [(44, 1, _), (44, 2, _), (44, 3, _), (44, 4, _)] [(44, 1), (44, 2), (44, 3), (44, 4)] rfl rfl ⟨rfl, rfl, rfl, rfl, trivial⟩)
      · refine zl_el h (fun h => zT_l ?_)
        have hz := zsi h hq
        refine zR2_hp ?_ ?_ hz
        · first | with_reducible rfl | (exact zuas_eq _ [(43, _), (43, _)] [(43, _)] [43] rfl rfl ⟨rfl, trivial⟩)
        · first | with_reducible rfl | (exact zufs_eq _ [(44, 1, _), (44, 2, _), (44, 3, _), (44, 4, _), (44, 2, _), (44, 3, _), (44, 4, _), (44, 4, _)] [(44, 1, _), (44, 2, _), (44, 3, _), (44, 4, _)] [(44, 1), (44, 2), (44, 3), (44, 4)] rfl rfl ⟨rfl, rfl, rfl, rfl, trivial⟩)
set_option maxRecDepth 20000 in
theorem t11_tn_read {X : Nat × (Nat → Int32)} {ar fi : Nat → Nat → Int32} {m1 m2 m3 m4 m5 : Nat} {y : Int32} {l3 : Int32} {b43 : Nat → Int32} {c44_1 : Int32} {c44_2 : Int32} {c44_3 : Int32} {c44_4 : Int32} {F0_tx_begin : Int32 → Int32} {F1_tx_begin : Int32 → Int32} {F2_tx_begin : Int32 → Int32} {F3_tx_begin : Int32 → Int32} {Q_tn_readRow : Int32 → (Nat → Int32) → (Nat → Int32) → Int32 → Int32 → Int32 → Int32 → Option ((Nat → Int32) × Int32 × Int32 × Int32)} {G_tx_sign : Int32 → Int32 → Int32 → (Nat → Int32) → Bool} {W_tx_sign : Int32 → Int32 → Int32 → (Nat → Int32) → Int32} {F0_tx_skip : Int32 → Int32} {W_tx_answerOr : Int32 → Int32 → Int32 → Int32} : zseg X zFT (zEx 90 (P_tx_begin F0_tx_begin F1_tx_begin F2_tx_begin F3_tx_begin) (zEx 102 (P_tn_readRow Q_tn_readRow) (zEx 93 (P_tx_sign G_tx_sign W_tx_sign) (zEx 95 (P_tx_skip F0_tx_skip) (zEx 99 (P_tx_answerOr W_tx_answerOr) zE0))))) zc_101 (fun p => Nat.beq p 35 || Nat.beq p 11) 400 11 [.ref 42, .ref 1, .int y, .int l3] [] ((zua ar 43 b43), (zuf (zuf (zuf (zuf fi 44 1 c44_1) 44 2 c44_2) 44 3 c44_3) 44 4 c44_4), (m1, m2, m3, 1, m5)) = (
  bif decide (96 ≤ l3) then
   some (.inl (35, [.ref 42, .ref 1, .int y, .int 1, .int 0], [], ((zua ar 43 b43), (zuf (zuf (zuf (zuf fi 44 1 c44_1) 44 2 c44_2) 44 3 c44_3) 44 4 c44_4), (m1, m2, m3, 1, m5))))
  else
   zg (zin l3 96) (
   some (.inl (11, [.ref 42, .ref 1, .int y, .int (l3 + 1)], [], ((zua (zua ar 43 b43) 43 (zup b43 (l3.toNatClampNeg) 0)), (zuf (zuf (zuf (zuf fi 44 1 c44_1) 44 2 c44_2) 44 3 c44_3) 44 4 c44_4), (m1, m2, m3, 1, m5))))) : Option ((Nat × List Value × List Value × zH2) ⊕ zO2)) := rfl
theorem k_tn_read_11 {X : Nat × (Nat → Int32)} {ar fi : Nat → Nat → Int32} {m1 m2 m3 m4 m5 : Nat} {y : Int32} {c44_1 : Int32} {c44_2 : Int32} {c44_3 : Int32} {c44_4 : Int32} {o : zO2} : ∀ (s : U_tn_read_11) (q : U_tn_read_11 ⊕ T_tn_read), f_tn_read_11 (ar 1) c44_1 c44_2 c44_3 c44_4 s = some q → zq (M_tn_read_11 X (zEx 90 S_tx_begin (zEx 102 S_tn_readRow (zEx 93 S_tx_sign (zEx 95 S_tx_skip (zEx 99 S_tx_answerOr zE0))))) ar fi m1 m2 m3 m4 m5 y c44_1 c44_2 c44_3 c44_4 o) (fun t => O_tn_read ar fi m1 m2 m3 m4 m5 t = o) q → M_tn_read_11 X (zEx 90 S_tx_begin (zEx 102 S_tn_readRow (zEx 93 S_tx_sign (zEx 95 S_tx_skip (zEx 99 S_tx_answerOr zE0))))) ar fi m1 m2 m3 m4 m5 y c44_1 c44_2 c44_3 c44_4 o s := by
  intro s q h hq
  obtain ⟨l3, b43⟩ := s
  have h : b_tn_read_11 (ar 1) c44_1 c44_2 c44_3 c44_4 l3 b43 = some q := h
  unfold b_tn_read_11 at h
  show zR2 X zFT (zEx 90 S_tx_begin (zEx 102 S_tn_readRow (zEx 93 S_tx_sign (zEx 95 S_tx_skip (zEx 99 S_tx_answerOr zE0))))) zc_101 11 [.ref 42, .ref 1, .int y, .int l3] [] ((zua ar 43 b43), (zuf (zuf (zuf (zuf fi 44 1 c44_1) 44 2 c44_2) 44 3 c44_3) 44 4 c44_4), (m1, m2, m3, 1, m5)) o
  refine zT_seg t11_tn_read ?_
  refine zb_el h (fun hb h => zT_t hb ?_) (fun hb h => zT_f hb ?_)
  · refine zbd_el h (fun r hr h => ?_)
    have hz := zsi h hq
    refine zR2_hp ?_ ?_ (zlp_K k_tn_read_35 hr hz)
    · first | with_reducible rfl | (exact zuas_eq _ [(43, _)] [(43, _)] [43] rfl rfl ⟨rfl, trivial⟩)
    · first | with_reducible rfl | (exact zufs_eq _ [(44, 1, _), (44, 2, _), (44, 3, _), (44, 4, _)] [(44, 1, _), (44, 2, _), (44, 3, _), (44, 4, _)] [(44, 1), (44, 2), (44, 3), (44, 4)] rfl rfl ⟨rfl, rfl, rfl, rfl, trivial⟩)
  · refine zg_el h (fun hg h => zT_g hg ?_)
    have hz := zsi h hq
    refine zR2_hp ?_ ?_ hz
    · first | with_reducible rfl | (exact zuas_eq _ [(43, _), (43, _)] [(43, _)] [43] rfl rfl ⟨rfl, trivial⟩)
    · first | with_reducible rfl | (exact zufs_eq _ [(44, 1, _), (44, 2, _), (44, 3, _), (44, 4, _)] [(44, 1, _), (44, 2, _), (44, 3, _), (44, 4, _)] [(44, 1), (44, 2), (44, 3), (44, 4)] rfl rfl ⟨rfl, rfl, rfl, rfl, trivial⟩)
set_option maxRecDepth 20000 in
theorem t_tn_read {X : Nat × (Nat → Int32)} {ar fi : Nat → Nat → Int32} {m1 m2 m3 m4 m5 : Nat} {y : Int32} {F0_tx_begin : Int32 → Int32} {F1_tx_begin : Int32 → Int32} {F2_tx_begin : Int32 → Int32} {F3_tx_begin : Int32 → Int32} {Q_tn_readRow : Int32 → (Nat → Int32) → (Nat → Int32) → Int32 → Int32 → Int32 → Int32 → Option ((Nat → Int32) × Int32 × Int32 × Int32)} {G_tx_sign : Int32 → Int32 → Int32 → (Nat → Int32) → Bool} {W_tx_sign : Int32 → Int32 → Int32 → (Nat → Int32) → Int32} {F0_tx_skip : Int32 → Int32} {W_tx_answerOr : Int32 → Int32 → Int32 → Int32} : zseg X zFT (zEx 90 (P_tx_begin F0_tx_begin F1_tx_begin F2_tx_begin F3_tx_begin) (zEx 102 (P_tn_readRow Q_tn_readRow) (zEx 93 (P_tx_sign G_tx_sign W_tx_sign) (zEx 95 (P_tx_skip F0_tx_skip) (zEx 99 (P_tx_answerOr W_tx_answerOr) zE0))))) zc_101 (fun p => Nat.beq p 35 || Nat.beq p 11) 400 0 [.ref 42, .ref 1, .int y] [] (ar, fi, (m1, m2, m3, m4, m5)) = (
  zl (F0_tx_begin y) (fun v1 =>
  zl (F1_tx_begin y) (fun v2 =>
  zl (F2_tx_begin y) (fun v3 =>
  zl (F3_tx_begin y) (fun v4 =>
  some (.inl (11, [.ref 42, .ref 1, .int y, .int 0], [], (ar, (zuf (zuf (zuf (zuf fi 44 1 v1) 44 2 v2) 44 3 v3) 44 4 v4), (m1, m2, m3, 1, m5)))))))) : Option ((Nat × List Value × List Value × zH2) ⊕ zO2)) := rfl
theorem e_tn_read {X : Nat × (Nat → Int32)} {ar fi : Nat → Nat → Int32} {m1 m2 m3 m4 m5 : Nat} {y : Int32} {o : zO2} : ∀ (q : T_tn_read), q_tn_read y (ar 1) (ar 43) = some q → (fun t => O_tn_read ar fi m1 m2 m3 m4 m5 t = o) q → zR2 X zFT (zEx 90 S_tx_begin (zEx 102 S_tn_readRow (zEx 93 S_tx_sign (zEx 95 S_tx_skip (zEx 99 S_tx_answerOr zE0))))) zc_101 0 [.ref 42, .ref 1, .int y] [] (ar, fi, (m1, m2, m3, m4, m5)) o := by
  intro q h hq
  unfold q_tn_read at h
  refine zT_seg t_tn_read ?_
  refine zl_el h (fun h => zT_l ?_)
  refine zl_el h (fun h => zT_l ?_)
  refine zl_el h (fun h => zT_l ?_)
  refine zl_el h (fun h => zT_l ?_)
  refine zR2_hp ?_ ?_ (zlp_K k_tn_read_11 h hq)
  · first | with_reducible rfl | (exact zuas_eq _ [] [(43, _)] [43] rfl rfl ⟨rfl, trivial⟩)
  · first | with_reducible rfl | (exact zufs_eq _ [(44, 1, _), (44, 2, _), (44, 3, _), (44, 4, _)] [(44, 1, _), (44, 2, _), (44, 3, _), (44, 4, _)] [(44, 1), (44, 2), (44, 3), (44, 4)] rfl rfl ⟨rfl, rfl, rfl, rfl, trivial⟩)
theorem ok_tn_read (X : Nat × (Nat → Int32)) : zOkS X 101 S_tn_read 6 := zOkS_new (zOkE_cons (ok_tx_begin X) (by decide) (zOkE_cons (ok_tn_readRow X) (by decide) (zOkE_cons (ok_tx_sign X) (by decide) (zOkE_cons (ok_tx_skip X) (by decide) (zOkE_cons (ok_tx_answerOr X) (by decide) (zOkE_nil X 5)))))) (by
  intro args g o h
  obtain ⟨ar, fi, m1, m2, m3, m4, m5⟩ := g
  unfold S_tn_read P_tn_read at h
  split at h
  · refine zb_el h (fun hI0 k0 => ?_) (fun _ h10 => ?_)
    · try simp only [Bool.and_eq_true] at hI0
      obtain ⟨j0, j1⟩ := hI0
      have e0 := Nat.eq_of_beq_eq_true j0
      subst e0
      have e1 := Nat.eq_of_beq_eq_true j1
      subst e1
      exact zpe_el k0 (fun t ht ho => e_tn_read t ht ho)
    · cases h10
  · cases h)
abbrev T_if_town : Type := Int32 × (Nat → Int32) × (Nat → Int32) × (Nat → Int32) × (Nat → Int32) × Int32 × Int32 × Int32 × Int32 × Int32 × Nat
noncomputable def q_if_town (x : Int32) (a1 : Nat → Int32) (a3 : Nat → Int32) (a4 : Nat → Int32) (a5 : Nat → Int32) (a43 : Nat → Int32) (f0_1 : Int32) (f44_1 : Int32) (f44_2 : Int32) (f44_3 : Int32) (f44_4 : Int32) : Option T_if_town :=
  zl (w_if_canTake x 1 120 (f0_1)) (fun v1 =>
  bif !decide (v1 = 0) then
   zbd (q_tn_read x a1 a43) (fun v2 =>
   bif decide (0 ≤ (v2.1)) then
    zl (a0_sc_buildAnew ((v2.2.1)) a3 a4 a5) (fun v3 =>
    zl (a1_sc_buildAnew ((v2.2.1)) a3 a4 a5) (fun v4 =>
    zl (a2_sc_buildAnew ((v2.2.1)) a3 a4 a5) (fun v5 =>
    zl (w_sc_placesOf 1 v3) (fun v6 =>
    some (v6, v3, v4, v5, ((v2.2.1)), 0, (v2.2.2.1), (v2.2.2.2.1), (v2.2.2.2.2.1), (v2.2.2.2.2.2), 0)))))
   else
    some ((v2.1), a3, a4, a5, ((v2.2.1)), 0, (v2.2.2.1), (v2.2.2.2.1), (v2.2.2.2.2.1), (v2.2.2.2.2.2), 0))
  else
   some ((-1), a3, a4, a5, a43, f0_1, f44_1, f44_2, f44_3, f44_4, 1))
def P_if_town (Q : Int32 → (Nat → Int32) → (Nat → Int32) → (Nat → Int32) → (Nat → Int32) → (Nat → Int32) → Int32 → Int32 → Int32 → Int32 → Int32 → Option (Int32 × (Nat → Int32) × (Nat → Int32) × (Nat → Int32) × (Nat → Int32) × Int32 × Int32 × Int32 × Int32 × Int32 × Nat)) : zSp := fun as g => match as with
  | [.ref a, .int x] => bif Nat.beq a 0 then zpe (Q x (g.1 1) (g.1 3) (g.1 4) (g.1 5) (g.1 43) (g.2.1 0 1) (g.2.1 44 1) (g.2.1 44 2) (g.2.1 44 3) (g.2.1 44 4)) (fun t => (some (.int (t.1)), ((zua (zua (zua (zua g.1 3 t.2.1) 4 t.2.2.1) 5 t.2.2.2.1) 43 t.2.2.2.2.1), (zuf (zuf (zuf (zuf (zuf g.2.1 0 1 t.2.2.2.2.2.1) 44 1 t.2.2.2.2.2.2.1) 44 2 t.2.2.2.2.2.2.2.1) 44 3 t.2.2.2.2.2.2.2.2.1) 44 4 t.2.2.2.2.2.2.2.2.2.1), (bif Nat.beq t.2.2.2.2.2.2.2.2.2.2 0 then (g.2.2.1, g.2.2.2.1, g.2.2.2.2.1, 1, g.2.2.2.2.2.2) else (g.2.2.1, g.2.2.2.1, g.2.2.2.2.1, g.2.2.2.2.2.1, g.2.2.2.2.2.2))))) else none
  | _ => none
noncomputable abbrev S_if_town : zSp := P_if_town q_if_town
def O_if_town (ar fi : Nat → Nat → Int32) (m1 : Nat) (m2 : Nat) (m3 : Nat) (m4 : Nat) (m5 : Nat) (t : T_if_town) : zO2 := (some (.int (t.1)), ((zua (zua (zua (zua ar 3 t.2.1) 4 t.2.2.1) 5 t.2.2.2.1) 43 t.2.2.2.2.1), (zuf (zuf (zuf (zuf (zuf fi 0 1 t.2.2.2.2.2.1) 44 1 t.2.2.2.2.2.2.1) 44 2 t.2.2.2.2.2.2.2.1) 44 3 t.2.2.2.2.2.2.2.2.1) 44 4 t.2.2.2.2.2.2.2.2.2.1), (bif Nat.beq t.2.2.2.2.2.2.2.2.2.2 0 then (m1, m2, m3, 1, m5) else (m1, m2, m3, m4, m5))))
set_option maxRecDepth 20000 in
theorem t_if_town {X : Nat × (Nat → Int32)} {ar fi : Nat → Nat → Int32} {m1 m2 m3 m4 m5 : Nat} {x : Int32} {W_if_canTake : Int32 → Int32 → Int32 → Int32 → Int32} {Q_tn_read : Int32 → (Nat → Int32) → (Nat → Int32) → Option (Int32 × (Nat → Int32) × Int32 × Int32 × Int32 × Int32)} {A0_sc_buildAnew : (Nat → Int32) → (Nat → Int32) → (Nat → Int32) → (Nat → Int32) → Nat → Int32} {A1_sc_buildAnew : (Nat → Int32) → (Nat → Int32) → (Nat → Int32) → (Nat → Int32) → Nat → Int32} {A2_sc_buildAnew : (Nat → Int32) → (Nat → Int32) → (Nat → Int32) → (Nat → Int32) → Nat → Int32} {W_sc_placesOf : Int32 → (Nat → Int32) → Int32} : zseg X zFT (zEx 136 (P_if_canTake W_if_canTake) (zEx 101 (P_tn_read Q_tn_read) (zEx 69 (P_sc_buildAnew A0_sc_buildAnew A1_sc_buildAnew A2_sc_buildAnew) (zEx 75 (P_sc_placesOf W_sc_placesOf) zE0)))) zc_111 (fun p => false) 400 0 [.ref 0, .int x] [] (ar, fi, (m1, m2, m3, m4, m5)) = (
  zl (W_if_canTake x 1 120 (fi 0 1)) (fun v1 =>
  bif !decide (v1 = 0) then
   zl (Q_tn_read x (ar 1) (ar 43)) (fun v2 => zg v2.isSome (
   bif decide (0 ≤ ((zgt v2).1)) then
    zl (A0_sc_buildAnew (((zgt v2).2.1)) (ar 3) (ar 4) (ar 5)) (fun v3 =>
    zl (A1_sc_buildAnew (((zgt v2).2.1)) (ar 3) (ar 4) (ar 5)) (fun v4 =>
    zl (A2_sc_buildAnew (((zgt v2).2.1)) (ar 3) (ar 4) (ar 5)) (fun v5 =>
    zl (W_sc_placesOf 1 v3) (fun v6 =>
    some (.inr (some (.int v6), ((zua (zua (zua (zua ar 43 (((zgt v2).2.1))) 3 v3) 4 v4) 5 v5), (zuf (zuf (zuf (zuf (zuf fi 0 1 0) 44 1 (((zgt v2).2.2.1))) 44 2 (((zgt v2).2.2.2.1))) 44 3 (((zgt v2).2.2.2.2.1))) 44 4 (((zgt v2).2.2.2.2.2))), (m1, m2, m3, 1, m5))))))))
   else
    some (.inr (some (.int (((zgt v2).1))), ((zua ar 43 (((zgt v2).2.1))), (zuf (zuf (zuf (zuf (zuf fi 0 1 0) 44 1 (((zgt v2).2.2.1))) 44 2 (((zgt v2).2.2.2.1))) 44 3 (((zgt v2).2.2.2.2.1))) 44 4 (((zgt v2).2.2.2.2.2))), (m1, m2, m3, 1, m5))))))
  else
   some (.inr (some (.int (-1)), (ar, fi, (m1, m2, m3, m4, m5))))) : Option ((Nat × List Value × List Value × zH2) ⊕ zO2)) := rfl
theorem e_if_town {X : Nat × (Nat → Int32)} {ar fi : Nat → Nat → Int32} {m1 m2 m3 m4 m5 : Nat} {x : Int32} {o : zO2} : ∀ (q : T_if_town), q_if_town x (ar 1) (ar 3) (ar 4) (ar 5) (ar 43) (fi 0 1) (fi 44 1) (fi 44 2) (fi 44 3) (fi 44 4) = some q → (fun t => O_if_town ar fi m1 m2 m3 m4 m5 t = o) q → zR2 X zFT (zEx 136 S_if_canTake (zEx 101 S_tn_read (zEx 69 S_sc_buildAnew (zEx 75 S_sc_placesOf zE0)))) zc_111 0 [.ref 0, .int x] [] (ar, fi, (m1, m2, m3, m4, m5)) o := by
  intro q h hq
  unfold q_if_town at h
  refine zT_seg t_if_town ?_
  refine zl_el h (fun h => zT_l ?_)
  refine zb_el h (fun hb h => zT_t hb ?_) (fun hb h => zT_f hb ?_)
  · refine zbd_el h (fun v2 hv h => zT_c hv ?_)
    refine zb_el h (fun hb h => zT_t hb ?_) (fun hb h => zT_f hb ?_)
    · refine zl_el h (fun h => zT_l ?_)
      refine zl_el h (fun h => zT_l ?_)
      refine zl_el h (fun h => zT_l ?_)
      refine zl_el h (fun h => zT_l ?_)
      have hz := zsi h hq
      refine (zO_mk ?_ ?_).trans hz
      · first | with_reducible rfl | (exact zuas_eq _ [(43, _), (3, _), (4, _), (5, _)] [(3, _), (4, _), (5, _), (43, _)] [3, 4, 5, 43] rfl rfl ⟨rfl, rfl, rfl, rfl, trivial⟩)
      · first | with_reducible rfl | (exact zufs_eq _ [(0, 1, _), (44, 1, _), (44, 2, _), (44, 3, _), (44, 4, _)] [(0, 1, _), (44, 1, _), (44, 2, _), (44, 3, _), (44, 4, _)] [(0, 1), (44, 1), (44, 2), (44, 3), (44, 4)] rfl rfl ⟨rfl, rfl, rfl, rfl, rfl, trivial⟩)
    · have hz := zsi h hq
      refine (zO_mk ?_ ?_).trans hz
      · first | with_reducible rfl | (exact zuas_eq _ [(43, _)] [(3, _), (4, _), (5, _), (43, _)] [3, 4, 5, 43] rfl rfl ⟨rfl, rfl, rfl, rfl, trivial⟩)
      · first | with_reducible rfl | (exact zufs_eq _ [(0, 1, _), (44, 1, _), (44, 2, _), (44, 3, _), (44, 4, _)] [(0, 1, _), (44, 1, _), (44, 2, _), (44, 3, _), (44, 4, _)] [(0, 1), (44, 1), (44, 2), (44, 3), (44, 4)] rfl rfl ⟨rfl, rfl, rfl, rfl, rfl, trivial⟩)
  · have hz := zsi h hq
    refine (zO_mk ?_ ?_).trans hz
    · first | with_reducible rfl | (exact zuas_eq _ [] [(3, _), (4, _), (5, _), (43, _)] [3, 4, 5, 43] rfl rfl ⟨rfl, rfl, rfl, rfl, trivial⟩)
    · first | with_reducible rfl | (exact zufs_eq _ [] [(0, 1, _), (44, 1, _), (44, 2, _), (44, 3, _), (44, 4, _)] [(0, 1), (44, 1), (44, 2), (44, 3), (44, 4)] rfl rfl ⟨rfl, rfl, rfl, rfl, rfl, trivial⟩)
theorem ok_if_town (X : Nat × (Nat → Int32)) : zOkS X 111 S_if_town 7 := zOkS_new (zOkE_cons (ok_if_canTake X) (by decide) (zOkE_cons (ok_tn_read X) (by decide) (zOkE_cons (ok_sc_buildAnew X) (by decide) (zOkE_cons (ok_sc_placesOf X) (by decide) (zOkE_nil X 6))))) (by
  intro args g o h
  obtain ⟨ar, fi, m1, m2, m3, m4, m5⟩ := g
  unfold S_if_town P_if_town at h
  split at h
  · refine zb_el h (fun hI0 k0 => ?_) (fun _ h10 => ?_)
    · try simp only [Bool.and_eq_true] at hI0
      have j0 := hI0
      have e0 := Nat.eq_of_beq_eq_true j0
      subst e0
      exact zpe_el k0 (fun t ht ho => e_if_town t ht ho)
    · cases h10
  · cases h)
abbrev T_if_breaks : Type := Int32 × (Nat → Int32) × (Nat → Int32) × (Nat → Int32) × (Nat → Int32) × Int32
noncomputable def q_if_breaks (x : Int32) (y : Int32) (a3 : Nat → Int32) (a58 : Nat → Int32) (a59 : Nat → Int32) (a60 : Nat → Int32) (a61 : Nat → Int32) (f57_4 : Int32) : Option T_if_breaks :=
  zg (g_if_isNumber x) (
  zl (w_if_isNumber x) (fun v1 =>
  bif decide (v1 = 0) then
   some ((-1), a58, a59, a60, a61, f57_4)
  else
   zg (g_if_isNumber y) (
   zl (w_if_isNumber y) (fun v2 =>
   bif decide (v2 = 0) then
    some ((-1), a58, a59, a60, a61, f57_4)
   else
    bif !decide (x = y) then
     zg (zin x 96) (
     bif !decide (a3 (x.toNatClampNeg) = 1) then
      some ((-3), a58, a59, a60, a61, f57_4)
     else
      zg (zin y 96) (
      bif decide (a3 (y.toNatClampNeg) = 1) then
       zbd (q_if_areNext x y) (fun v3 =>
       bif decide (v3 = 0) then
        zbd (q_cu_fewest x y a3 a58 a59 a60 a61 (f57_4)) (fun v4 =>
        some ((v4.1), ((v4.2.1)), ((v4.2.2.1)), ((v4.2.2.2.1)), ((v4.2.2.2.2.1)), (v4.2.2.2.2.2)))
       else
        some ((-2), a58, a59, a60, a61, f57_4))
      else
       some ((-3), a58, a59, a60, a61, f57_4)))
    else
     some ((-1), a58, a59, a60, a61, f57_4)))))
def P_if_breaks (Q : Int32 → Int32 → (Nat → Int32) → (Nat → Int32) → (Nat → Int32) → (Nat → Int32) → (Nat → Int32) → Int32 → Option (Int32 × (Nat → Int32) × (Nat → Int32) × (Nat → Int32) × (Nat → Int32) × Int32)) : zSp := fun as g => match as with
  | [.ref a, .int x, .int y] => bif Nat.beq a 0 then zpe (Q x y (g.1 3) (g.1 58) (g.1 59) (g.1 60) (g.1 61) (g.2.1 57 4)) (fun t => (some (.int (t.1)), ((zua (zua (zua (zua g.1 58 t.2.1) 59 t.2.2.1) 60 t.2.2.2.1) 61 t.2.2.2.2.1), (zuf g.2.1 57 4 t.2.2.2.2.2), g.2.2))) else none
  | _ => none
noncomputable abbrev S_if_breaks : zSp := P_if_breaks q_if_breaks
def O_if_breaks (ar fi : Nat → Nat → Int32) (m1 : Nat) (m2 : Nat) (m3 : Nat) (m4 : Nat) (m5 : Nat) (t : T_if_breaks) : zO2 := (some (.int (t.1)), ((zua (zua (zua (zua ar 58 t.2.1) 59 t.2.2.1) 60 t.2.2.2.1) 61 t.2.2.2.2.1), (zuf fi 57 4 t.2.2.2.2.2), (m1, m2, m3, m4, m5)))
set_option maxRecDepth 20000 in
theorem t_if_breaks {X : Nat × (Nat → Int32)} {ar fi : Nat → Nat → Int32} {m1 m2 m3 m4 m5 : Nat} {x y : Int32} {G_if_isNumber : Int32 → Bool} {W_if_isNumber : Int32 → Int32} {Q_if_areNext : Int32 → Int32 → Option (Int32)} {Q_cu_fewest : Int32 → Int32 → (Nat → Int32) → (Nat → Int32) → (Nat → Int32) → (Nat → Int32) → (Nat → Int32) → Int32 → Option (Int32 × (Nat → Int32) × (Nat → Int32) × (Nat → Int32) × (Nat → Int32) × Int32)} : zseg X zFT (zEx 138 (P_if_isNumber G_if_isNumber W_if_isNumber) (zEx 141 (P_if_areNext Q_if_areNext) (zEx 12 (P_cu_fewest Q_cu_fewest) zE0))) zc_121 (fun p => false) 400 0 [.ref 0, .int x, .int y] [] (ar, fi, (m1, m2, m3, m4, m5)) = (
  zg (G_if_isNumber x) (
  zl (W_if_isNumber x) (fun v1 =>
  bif decide (v1 = 0) then
   some (.inr (some (.int (-1)), (ar, fi, (m1, m2, m3, m4, m5))))
  else
   zg (G_if_isNumber y) (
   zl (W_if_isNumber y) (fun v2 =>
   bif decide (v2 = 0) then
    some (.inr (some (.int (-1)), (ar, fi, (m1, m2, m3, m4, m5))))
   else
    bif !decide (x = y) then
     zg (zin x 96) (
     bif !decide ((ar 3) (x.toNatClampNeg) = 1) then
      some (.inr (some (.int (-3)), (ar, fi, (m1, m2, m3, m4, m5))))
     else
      zg (zin y 96) (
      bif decide ((ar 3) (y.toNatClampNeg) = 1) then
       zl (Q_if_areNext x y) (fun v3 => zg v3.isSome (
       bif decide (((zgt v3)) = 0) then
        zl (Q_cu_fewest x y (ar 3) (ar 58) (ar 59) (ar 60) (ar 61) (fi 57 4)) (fun v4 => zg v4.isSome (
        some (.inr (some (.int (((zgt v4).1))), ((zua (zua (zua (zua ar 58 (((zgt v4).2.1))) 59 (((zgt v4).2.2.1))) 60 (((zgt v4).2.2.2.1))) 61 (((zgt v4).2.2.2.2.1))), (zuf fi 57 4 (((zgt v4).2.2.2.2.2))), (m1, m2, m3, m4, m5))))))
       else
        some (.inr (some (.int (-2)), (ar, fi, (m1, m2, m3, m4, m5))))))
      else
       some (.inr (some (.int (-3)), (ar, fi, (m1, m2, m3, m4, m5))))))
    else
     some (.inr (some (.int (-1)), (ar, fi, (m1, m2, m3, m4, m5)))))))) : Option ((Nat × List Value × List Value × zH2) ⊕ zO2)) := rfl
theorem e_if_breaks {X : Nat × (Nat → Int32)} {ar fi : Nat → Nat → Int32} {m1 m2 m3 m4 m5 : Nat} {x y : Int32} {o : zO2} : ∀ (q : T_if_breaks), q_if_breaks x y (ar 3) (ar 58) (ar 59) (ar 60) (ar 61) (fi 57 4) = some q → (fun t => O_if_breaks ar fi m1 m2 m3 m4 m5 t = o) q → zR2 X zFT (zEx 138 S_if_isNumber (zEx 141 S_if_areNext (zEx 12 S_cu_fewest zE0))) zc_121 0 [.ref 0, .int x, .int y] [] (ar, fi, (m1, m2, m3, m4, m5)) o := by
  intro q h hq
  unfold q_if_breaks at h
  refine zT_seg t_if_breaks ?_
  refine zg_el h (fun hg h => zT_g hg ?_)
  refine zl_el h (fun h => zT_l ?_)
  refine zb_el h (fun hb h => zT_t hb ?_) (fun hb h => zT_f hb ?_)
  · have hz := zsi h hq
    refine (zO_mk ?_ ?_).trans hz
    · first | with_reducible rfl | (exact zuas_eq _ [] [(58, _), (59, _), (60, _), (61, _)] [58, 59, 60, 61] rfl rfl ⟨rfl, rfl, rfl, rfl, trivial⟩)
    · first | with_reducible rfl | (exact zufs_eq _ [] [(57, 4, _)] [(57, 4)] rfl rfl ⟨rfl, trivial⟩)
  · refine zg_el h (fun hg h => zT_g hg ?_)
    refine zl_el h (fun h => zT_l ?_)
    refine zb_el h (fun hb h => zT_t hb ?_) (fun hb h => zT_f hb ?_)
    · have hz := zsi h hq
      refine (zO_mk ?_ ?_).trans hz
      · first | with_reducible rfl | (exact zuas_eq _ [] [(58, _), (59, _), (60, _), (61, _)] [58, 59, 60, 61] rfl rfl ⟨rfl, rfl, rfl, rfl, trivial⟩)
      · first | with_reducible rfl | (exact zufs_eq _ [] [(57, 4, _)] [(57, 4)] rfl rfl ⟨rfl, trivial⟩)
    · refine zb_el h (fun hb h => zT_t hb ?_) (fun hb h => zT_f hb ?_)
      · refine zg_el h (fun hg h => zT_g hg ?_)
        refine zb_el h (fun hb h => zT_t hb ?_) (fun hb h => zT_f hb ?_)
        · have hz := zsi h hq
          refine (zO_mk ?_ ?_).trans hz
          · first | with_reducible rfl | (exact zuas_eq _ [] [(58, _), (59, _), (60, _), (61, _)] [58, 59, 60, 61] rfl rfl ⟨rfl, rfl, rfl, rfl, trivial⟩)
          · first | with_reducible rfl | (exact zufs_eq _ [] [(57, 4, _)] [(57, 4)] rfl rfl ⟨rfl, trivial⟩)
        · refine zg_el h (fun hg h => zT_g hg ?_)
          refine zb_el h (fun hb h => zT_t hb ?_) (fun hb h => zT_f hb ?_)
          · refine zbd_el h (fun v3 hv h => zT_c hv ?_)
            refine zb_el h (fun hb h => zT_t hb ?_) (fun hb h => zT_f hb ?_)
            · refine zbd_el h (fun v4 hv h => zT_c hv ?_)
              have hz := zsi h hq
              refine (zO_mk ?_ ?_).trans hz
              · first | with_reducible rfl | (exact zuas_eq _ [(58, _), (59, _), (60, _), (61, _)] [(58, _), (59, _), (60, _), (61, _)] [58, 59, 60, 61] rfl rfl ⟨rfl, rfl, rfl, rfl, trivial⟩)
              · first | with_reducible rfl | (exact zufs_eq _ [(57, 4, _)] [(57, 4, _)] [(57, 4)] rfl rfl ⟨rfl, trivial⟩)
            · have hz := zsi h hq
              refine (zO_mk ?_ ?_).trans hz
              · first | with_reducible rfl | (exact zuas_eq _ [] [(58, _), (59, _), (60, _), (61, _)] [58, 59, 60, 61] rfl rfl ⟨rfl, rfl, rfl, rfl, trivial⟩)
              · first | with_reducible rfl | (exact zufs_eq _ [] [(57, 4, _)] [(57, 4)] rfl rfl ⟨rfl, trivial⟩)
          · have hz := zsi h hq
            refine (zO_mk ?_ ?_).trans hz
            · first | with_reducible rfl | (exact zuas_eq _ [] [(58, _), (59, _), (60, _), (61, _)] [58, 59, 60, 61] rfl rfl ⟨rfl, rfl, rfl, rfl, trivial⟩)
            · first | with_reducible rfl | (exact zufs_eq _ [] [(57, 4, _)] [(57, 4)] rfl rfl ⟨rfl, trivial⟩)
      · have hz := zsi h hq
        refine (zO_mk ?_ ?_).trans hz
        · first | with_reducible rfl | (exact zuas_eq _ [] [(58, _), (59, _), (60, _), (61, _)] [58, 59, 60, 61] rfl rfl ⟨rfl, rfl, rfl, rfl, trivial⟩)
        · first | with_reducible rfl | (exact zufs_eq _ [] [(57, 4, _)] [(57, 4)] rfl rfl ⟨rfl, trivial⟩)
theorem ok_if_breaks (X : Nat × (Nat → Int32)) : zOkS X 121 S_if_breaks 5 := zOkS_new (zOkE_cons (ok_if_isNumber X) (by decide) (zOkE_cons (ok_if_areNext X) (by decide) (zOkE_cons (ok_cu_fewest X) (by decide) (zOkE_nil X 4)))) (by
  intro args g o h
  obtain ⟨ar, fi, m1, m2, m3, m4, m5⟩ := g
  unfold S_if_breaks P_if_breaks at h
  split at h
  · refine zb_el h (fun hI0 k0 => ?_) (fun _ h10 => ?_)
    · try simp only [Bool.and_eq_true] at hI0
      have j0 := hI0
      have e0 := Nat.eq_of_beq_eq_true j0
      subst e0
      exact zpe_el k0 (fun t ht ho => e_if_breaks t ht ho)
    · cases h10
  · cases h)
