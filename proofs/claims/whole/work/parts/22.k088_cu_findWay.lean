abbrev T_cu_findWay : Type := Int32 × (Nat → Int32) × (Nat → Int32) × Int32
abbrev U_cu_findWay_45 : Type := Int32 × (Nat → Int32) × (Nat → Int32) × Int32
abbrev U_cu_findWay_3 : Type := Int32 × (Nat → Int32)
noncomputable def b_cu_findWay_45 (z : Int32) (a3 : Nat → Int32) (a58 : Nat → Int32) (a59 : Nat → Int32) (l4 : Int32) (b60 : Nat → Int32) (b61 : Nat → Int32) (c57_4 : Int32) : Option (U_cu_findWay_45 ⊕ T_cu_findWay) :=
  bif decide (c57_4 ≤ l4) then
   zg (zin z 192) (
   bif decide (b60 (z.toNatClampNeg) < 0) then
    some (.inr (0, b60, b61, c57_4))
   else
    some (.inr (1, b60, b61, c57_4)))
  else
   bif decide (192 ≤ l4) then
    zg (zin z 192) (
    bif decide (b60 (z.toNatClampNeg) < 0) then
     some (.inr (0, b60, b61, c57_4))
    else
     some (.inr (1, b60, b61, c57_4)))
   else
    zg (zin z 192) (
    bif decide (0 ≤ b60 (z.toNatClampNeg)) then
     zg (zin z 192) (
     bif decide (b60 (z.toNatClampNeg) < 0) then
      some (.inr (0, b60, b61, c57_4))
     else
      some (.inr (1, b60, b61, c57_4)))
    else
     zg (zin l4 192) (
     bif decide (b61 (l4.toNatClampNeg) < 96) then
      zg (zin l4 192) (
      zbd (q_cu_enter (b61 (l4.toNatClampNeg)) a3 a58 a59 b60 b61 c57_4) (fun v4 =>
      some (.inl (l4 + 1, ((v4.1)), ((v4.2.1)), (v4.2.2)))))
     else
      zg (zin l4 192) (
      zbd (q_cu_leave ((b61 (l4.toNatClampNeg)) - 96) a3 a58 a59 b60 b61 c57_4) (fun v5 =>
      some (.inl (l4 + 1, ((v5.1)), ((v5.2.1)), (v5.2.2)))))))
noncomputable def f_cu_findWay_45 (z : Int32) (a3 : Nat → Int32) (a58 : Nat → Int32) (a59 : Nat → Int32) : U_cu_findWay_45 → Option (U_cu_findWay_45 ⊕ T_cu_findWay) := fun s => b_cu_findWay_45 z a3 a58 a59 s.1 s.2.1 s.2.2.1 s.2.2.2
noncomputable def l_cu_findWay_45 (z : Int32) (a3 : Nat → Int32) (a58 : Nat → Int32) (a59 : Nat → Int32) (l4 : Int32) (b60 : Nat → Int32) (b61 : Nat → Int32) (c57_4 : Int32) : Option T_cu_findWay := zlp (f_cu_findWay_45 z a3 a58 a59) (l4, b60, b61, c57_4)
noncomputable def b_cu_findWay_3 (y : Int32) (z : Int32) (a3 : Nat → Int32) (a58 : Nat → Int32) (a59 : Nat → Int32) (b61 : Nat → Int32) (l4 : Int32) (b60 : Nat → Int32) : Option (U_cu_findWay_3 ⊕ T_cu_findWay) :=
  bif decide (192 ≤ l4) then
   zg (g_cu_visit (96 + y) (96 + y) b60 0 b61) (
   zl (a0_cu_visit (96 + y) (96 + y) b60 0 b61) (fun v1 =>
   zl (a1_cu_visit (96 + y) (96 + y) b60 0 b61) (fun v2 =>
   zl (f0_cu_visit (96 + y) (96 + y) b60 0 b61) (fun v3 =>
   zbd (l_cu_findWay_45 z a3 a58 a59 0 v1 v2 v3) (fun k => some (.inr k))))))
  else
   zg (zin l4 192) (
   some (.inl (l4 + 1, (zup b60 (l4.toNatClampNeg) (-1)))))
noncomputable def f_cu_findWay_3 (y : Int32) (z : Int32) (a3 : Nat → Int32) (a58 : Nat → Int32) (a59 : Nat → Int32) (b61 : Nat → Int32) : U_cu_findWay_3 → Option (U_cu_findWay_3 ⊕ T_cu_findWay) := fun s => b_cu_findWay_3 y z a3 a58 a59 b61 s.1 s.2
noncomputable def l_cu_findWay_3 (y : Int32) (z : Int32) (a3 : Nat → Int32) (a58 : Nat → Int32) (a59 : Nat → Int32) (b61 : Nat → Int32) (l4 : Int32) (b60 : Nat → Int32) : Option T_cu_findWay := zlp (f_cu_findWay_3 y z a3 a58 a59 b61) (l4, b60)
noncomputable def q_cu_findWay (y : Int32) (z : Int32) (a3 : Nat → Int32) (a58 : Nat → Int32) (a59 : Nat → Int32) (a60 : Nat → Int32) (a61 : Nat → Int32) (f57_4 : Int32) : Option T_cu_findWay :=
  l_cu_findWay_3 y z a3 a58 a59 a61 0 a60
def P_cu_findWay (Q : Int32 → Int32 → (Nat → Int32) → (Nat → Int32) → (Nat → Int32) → (Nat → Int32) → (Nat → Int32) → Int32 → Option (Int32 × (Nat → Int32) × (Nat → Int32) × Int32)) : zSp := fun as g => match as with
  | [.ref a, .ref b, .int y, .int z] => bif Nat.beq a 57 && Nat.beq b 3 then zpe (Q y z (g.1 3) (g.1 58) (g.1 59) (g.1 60) (g.1 61) (g.2.1 57 4)) (fun t => (some (.int (t.1)), ((zua (zua g.1 60 t.2.1) 61 t.2.2.1), (zuf g.2.1 57 4 t.2.2.2), g.2.2))) else none
  | _ => none
noncomputable abbrev S_cu_findWay : zSp := P_cu_findWay q_cu_findWay
theorem hF7_cu_findWay (F : Nat → Nat → Int32) : F = (zuf F 57 4 (F 57 4)) := zufk_ix F [] [((57, 4), none)] rfl
theorem hA6_cu_findWay (F : Nat → Nat → Int32) : F = (zua (zua F 60 (F 60)) 61 (F 61)) := zuak_ix F [] [(60, none), (61, none)] rfl
theorem hA5_cu_findWay (F : Nat → Nat → Int32) (w0 w1 w2 : Nat → Int32) : (zua (zua (zua F 60 w0) 61 w1) 60 w2) = (zua (zua F 60 w2) 61 w1) := zuak_ix F [(60, w0), (61, w1), (60, w2)] [(60, some 2), (61, some 1)] rfl
theorem hF4_cu_findWay (F : Nat → Nat → Int32) (w0 w1 w2 : Int32) : (zuf (zuf (zuf F 57 4 w0) 57 4 w1) 57 4 w2) = (zuf F 57 4 w2) := zufk_ix F [((57, 4), w0), ((57, 4), w1), ((57, 4), w2)] [((57, 4), some 2)] rfl
theorem hF3_cu_findWay (F : Nat → Nat → Int32) (w0 w1 : Int32) : (zuf (zuf F 57 4 w0) 57 4 w1) = (zuf F 57 4 w1) := zufk_ix F [((57, 4), w0), ((57, 4), w1)] [((57, 4), some 1)] rfl
theorem hA2_cu_findWay (F : Nat → Nat → Int32) (w0 w1 w2 w3 : Nat → Int32) : (zua (zua (zua (zua F 60 w0) 61 w1) 60 w2) 61 w3) = (zua (zua F 60 w2) 61 w3) := zuak_ix F [(60, w0), (61, w1), (60, w2), (61, w3)] [(60, some 2), (61, some 3)] rfl
theorem hF1_cu_findWay (F : Nat → Nat → Int32) (w0 : Int32) : (zuf F 57 4 w0) = (zuf F 57 4 w0) := zufk_ix F [((57, 4), w0)] [((57, 4), some 0)] rfl
theorem hA0_cu_findWay (F : Nat → Nat → Int32) (w0 w1 : Nat → Int32) : (zua (zua F 60 w0) 61 w1) = (zua (zua F 60 w0) 61 w1) := zuak_ix F [(60, w0), (61, w1)] [(60, some 0), (61, some 1)] rfl
def O_cu_findWay (ar fi : Nat → Nat → Int32) (m1 : Nat) (m2 : Nat) (m3 : Nat) (m4 : Nat) (m5 : Nat) (t : T_cu_findWay) : zO2 := match t with
  | (t0, t1, t2, t3) => (some (.int (t0)), ((zua (zua ar 60 t1) 61 t2), (zuf fi 57 4 t3), (m1, m2, m3, m4, m5)))
def M_cu_findWay_45 (X : Nat × (Nat → Int32)) (E : zTE) (ar fi : Nat → Nat → Int32) (m1 : Nat) (m2 : Nat) (m3 : Nat) (m4 : Nat) (m5 : Nat) (y : Int32) (z : Int32) (o : zO2) (s : U_cu_findWay_45) : Prop := match s with
  | (l4, b60, b61, c57_4) => zR2 X zFT E zc_13 45 [.ref 57, .ref 3, .int y, .int z, .int l4] [] ((zua (zua ar 60 b60) 61 b61), (zuf fi 57 4 c57_4), (m1, m2, m3, m4, m5)) o
def M_cu_findWay_3 (X : Nat × (Nat → Int32)) (E : zTE) (ar fi : Nat → Nat → Int32) (m1 : Nat) (m2 : Nat) (m3 : Nat) (m4 : Nat) (m5 : Nat) (y : Int32) (z : Int32) (b61 : Nat → Int32) (c57_4 : Int32) (o : zO2) (s : U_cu_findWay_3) : Prop := match s with
  | (l4, b60) => zR2 X zFT E zc_13 3 [.ref 57, .ref 3, .int y, .int z, .int l4] [] ((zua (zua ar 60 b60) 61 b61), (zuf fi 57 4 c57_4), (m1, m2, m3, m4, m5)) o
set_option maxRecDepth 1000000 in
theorem t45_cu_findWay {X : Nat × (Nat → Int32)} {ar fi : Nat → Nat → Int32} {m1 m2 m3 m4 m5 : Nat} {y z : Int32} {l4 : Int32} {b60 : Nat → Int32} {b61 : Nat → Int32} {c57_4 : Int32} {G_cu_visit : Int32 → Int32 → (Nat → Int32) → Int32 → (Nat → Int32) → Bool} {A0_cu_visit : Int32 → Int32 → (Nat → Int32) → Int32 → (Nat → Int32) → Nat → Int32} {A1_cu_visit : Int32 → Int32 → (Nat → Int32) → Int32 → (Nat → Int32) → Nat → Int32} {F0_cu_visit : Int32 → Int32 → (Nat → Int32) → Int32 → (Nat → Int32) → Int32} {Q_cu_leave : Int32 → (Nat → Int32) → (Nat → Int32) → (Nat → Int32) → (Nat → Int32) → (Nat → Int32) → Int32 → Option ((Nat → Int32) × (Nat → Int32) × Int32)} {Q_cu_enter : Int32 → (Nat → Int32) → (Nat → Int32) → (Nat → Int32) → (Nat → Int32) → (Nat → Int32) → Int32 → Option ((Nat → Int32) × (Nat → Int32) × Int32)} : zseg X zFT (zEx 14 (P_cu_visit G_cu_visit A0_cu_visit A1_cu_visit F0_cu_visit) (zEx 15 (P_cu_leave Q_cu_leave) (zEx 16 (P_cu_enter Q_cu_enter) zE0))) zc_13 (fun p => Nat.beq p 45 || Nat.beq p 3) 400 45 [.ref 57, .ref 3, .int y, .int z, .int l4] [] ((zua (zua ar 60 b60) 61 b61), (zuf fi 57 4 c57_4), (m1, m2, m3, m4, m5)) = (
  bif decide (c57_4 ≤ l4) then
   zg (Nat.beq 16 16 && (zin z 192)) (
   bif decide (b60 (z.toNatClampNeg) < 0) then
    some (.inr (some (.int 0), ((zua (zua ar 60 b60) 61 b61), (zuf fi 57 4 c57_4), (m1, m2, m3, m4, m5))))
   else
    some (.inr (some (.int 1), ((zua (zua ar 60 b60) 61 b61), (zuf fi 57 4 c57_4), (m1, m2, m3, m4, m5)))))
  else
   bif decide (192 ≤ l4) then
    zg (Nat.beq 16 16 && (zin z 192)) (
    bif decide (b60 (z.toNatClampNeg) < 0) then
     some (.inr (some (.int 0), ((zua (zua ar 60 b60) 61 b61), (zuf fi 57 4 c57_4), (m1, m2, m3, m4, m5))))
    else
     some (.inr (some (.int 1), ((zua (zua ar 60 b60) 61 b61), (zuf fi 57 4 c57_4), (m1, m2, m3, m4, m5)))))
   else
    zg (Nat.beq 16 16 && (zin z 192)) (
    bif decide (0 ≤ b60 (z.toNatClampNeg)) then
     zg (Nat.beq 16 16 && (zin z 192)) (
     bif decide (b60 (z.toNatClampNeg) < 0) then
      some (.inr (some (.int 0), ((zua (zua ar 60 b60) 61 b61), (zuf fi 57 4 c57_4), (m1, m2, m3, m4, m5))))
     else
      some (.inr (some (.int 1), ((zua (zua ar 60 b60) 61 b61), (zuf fi 57 4 c57_4), (m1, m2, m3, m4, m5)))))
    else
     zg (Nat.beq 16 16 && (zin l4 192)) (
     bif decide (b61 (l4.toNatClampNeg) < 96) then
      zg (Nat.beq 16 16 && (zin l4 192)) (
      zl (Q_cu_enter (b61 (l4.toNatClampNeg)) (ar 3) (ar 58) (ar 59) b60 b61 c57_4) (fun v4 => zg v4.isSome (
      some (.inl (45, [.ref 57, .ref 3, .int y, .int z, .int (l4 + 1)], [], ((zua (zua (zua (zua ar 60 b60) 61 b61) 60 (((zgt v4).1))) 61 (((zgt v4).2.1))), (zuf (zuf fi 57 4 c57_4) 57 4 (((zgt v4).2.2))), (m1, m2, m3, m4, m5)))))))
     else
      zg (Nat.beq 16 16 && (zin l4 192)) (
      zl (Q_cu_leave ((b61 (l4.toNatClampNeg)) - 96) (ar 3) (ar 58) (ar 59) b60 b61 c57_4) (fun v5 => zg v5.isSome (
      some (.inl (45, [.ref 57, .ref 3, .int y, .int z, .int (l4 + 1)], [], ((zua (zua (zua (zua ar 60 b60) 61 b61) 60 (((zgt v5).1))) 61 (((zgt v5).2.1))), (zuf (zuf fi 57 4 c57_4) 57 4 (((zgt v5).2.2))), (m1, m2, m3, m4, m5))))))))) : Option ((Nat × List Value × List Value × zH2) ⊕ zO2)) := by with_unfolding_all rfl
set_option maxRecDepth 20000 in
theorem k_cu_findWay_45 {X : Nat × (Nat → Int32)} {ar fi : Nat → Nat → Int32} {m1 m2 m3 m4 m5 : Nat} {y z : Int32} {o : zO2} : ∀ (s : U_cu_findWay_45) (q : U_cu_findWay_45 ⊕ T_cu_findWay), f_cu_findWay_45 z (ar 3) (ar 58) (ar 59) s = some q → zq (M_cu_findWay_45 X (zEx 14 S_cu_visit (zEx 15 S_cu_leave (zEx 16 S_cu_enter zE0))) ar fi m1 m2 m3 m4 m5 y z o) (fun t => O_cu_findWay ar fi m1 m2 m3 m4 m5 t = o) q → M_cu_findWay_45 X (zEx 14 S_cu_visit (zEx 15 S_cu_leave (zEx 16 S_cu_enter zE0))) ar fi m1 m2 m3 m4 m5 y z o s := by
  intro s q h hq
  obtain ⟨l4, b60, b61, c57_4⟩ := s
  have h : b_cu_findWay_45 z (ar 3) (ar 58) (ar 59) l4 b60 b61 c57_4 = some q := h
  unfold b_cu_findWay_45 at h
  show zR2 X zFT (zEx 14 S_cu_visit (zEx 15 S_cu_leave (zEx 16 S_cu_enter zE0))) zc_13 45 [.ref 57, .ref 3, .int y, .int z, .int l4] [] ((zua (zua ar 60 b60) 61 b61), (zuf fi 57 4 c57_4), (m1, m2, m3, m4, m5)) o
  refine zT_seg t45_cu_findWay ?_
  obtain ⟨TT, hTT⟩ : ∃ T, T = zT X zFT (zEx 14 S_cu_visit (zEx 15 S_cu_leave (zEx 16 S_cu_enter zE0))) zc_13 o := ⟨_, rfl⟩
  rw [← hTT]
  refine zb_el h (fun hb h => zU_t hTT hb ?_) (fun hb h => zU_f hTT hb ?_)
  · refine zg_el h (fun hg h => zU_ga hTT hg ?_)
    refine zb_el h (fun hb h => zU_t hTT hb ?_) (fun hb h => zU_f hTT hb ?_)
    · rw [hTT]
      have hz := zsi h hq
      refine (zO_mk ?_ ?_).trans hz
      · first | with_reducible rfl | exact hA0_cu_findWay _ _ _
      · first | with_reducible rfl | exact hF1_cu_findWay _ _
    · rw [hTT]
      have hz := zsi h hq
      refine (zO_mk ?_ ?_).trans hz
      · first | with_reducible rfl | exact hA0_cu_findWay _ _ _
      · first | with_reducible rfl | exact hF1_cu_findWay _ _
  · refine zb_el h (fun hb h => zU_t hTT hb ?_) (fun hb h => zU_f hTT hb ?_)
    · refine zg_el h (fun hg h => zU_ga hTT hg ?_)
      refine zb_el h (fun hb h => zU_t hTT hb ?_) (fun hb h => zU_f hTT hb ?_)
      · rw [hTT]
        have hz := zsi h hq
        refine (zO_mk ?_ ?_).trans hz
        · first | with_reducible rfl | exact hA0_cu_findWay _ _ _
        · first | with_reducible rfl | exact hF1_cu_findWay _ _
      · rw [hTT]
        have hz := zsi h hq
        refine (zO_mk ?_ ?_).trans hz
        · first | with_reducible rfl | exact hA0_cu_findWay _ _ _
        · first | with_reducible rfl | exact hF1_cu_findWay _ _
    · refine zg_el h (fun hg h => zU_ga hTT hg ?_)
      refine zb_el h (fun hb h => zU_t hTT hb ?_) (fun hb h => zU_f hTT hb ?_)
      · refine zg_el h (fun hg h => zU_ga hTT hg ?_)
        refine zb_el h (fun hb h => zU_t hTT hb ?_) (fun hb h => zU_f hTT hb ?_)
        · rw [hTT]
          have hz := zsi h hq
          refine (zO_mk ?_ ?_).trans hz
          · first | with_reducible rfl | exact hA0_cu_findWay _ _ _
          · first | with_reducible rfl | exact hF1_cu_findWay _ _
        · rw [hTT]
          have hz := zsi h hq
          refine (zO_mk ?_ ?_).trans hz
          · first | with_reducible rfl | exact hA0_cu_findWay _ _ _
          · first | with_reducible rfl | exact hF1_cu_findWay _ _
      · refine zg_el h (fun hg h => zU_ga hTT hg ?_)
        refine zb_el h (fun hb h => zU_t hTT hb ?_) (fun hb h => zU_f hTT hb ?_)
        · refine zg_el h (fun hg h => zU_ga hTT hg ?_)
          refine zbd_el h (fun v4 hv h => zU_c hTT hv ?_)
          rw [hTT]
          have hz := zsi h hq
          refine zR2_hp ?_ ?_ hz
          · first | with_reducible rfl | exact hA2_cu_findWay _ _ _ _ _
          · first | with_reducible rfl | exact hF3_cu_findWay _ _ _
        · refine zg_el h (fun hg h => zU_ga hTT hg ?_)
          refine zbd_el h (fun v5 hv h => zU_c hTT hv ?_)
          rw [hTT]
          have hz := zsi h hq
          refine zR2_hp ?_ ?_ hz
          · first | with_reducible rfl | exact hA2_cu_findWay _ _ _ _ _
          · first | with_reducible rfl | exact hF3_cu_findWay _ _ _
set_option maxRecDepth 1000000 in
theorem t3_cu_findWay {X : Nat × (Nat → Int32)} {ar fi : Nat → Nat → Int32} {m1 m2 m3 m4 m5 : Nat} {y z : Int32} {l4 : Int32} {b60 : Nat → Int32} {b61 : Nat → Int32} {c57_4 : Int32} {G_cu_visit : Int32 → Int32 → (Nat → Int32) → Int32 → (Nat → Int32) → Bool} {A0_cu_visit : Int32 → Int32 → (Nat → Int32) → Int32 → (Nat → Int32) → Nat → Int32} {A1_cu_visit : Int32 → Int32 → (Nat → Int32) → Int32 → (Nat → Int32) → Nat → Int32} {F0_cu_visit : Int32 → Int32 → (Nat → Int32) → Int32 → (Nat → Int32) → Int32} {Q_cu_leave : Int32 → (Nat → Int32) → (Nat → Int32) → (Nat → Int32) → (Nat → Int32) → (Nat → Int32) → Int32 → Option ((Nat → Int32) × (Nat → Int32) × Int32)} {Q_cu_enter : Int32 → (Nat → Int32) → (Nat → Int32) → (Nat → Int32) → (Nat → Int32) → (Nat → Int32) → Int32 → Option ((Nat → Int32) × (Nat → Int32) × Int32)} : zseg X zFT (zEx 14 (P_cu_visit G_cu_visit A0_cu_visit A1_cu_visit F0_cu_visit) (zEx 15 (P_cu_leave Q_cu_leave) (zEx 16 (P_cu_enter Q_cu_enter) zE0))) zc_13 (fun p => Nat.beq p 45 || Nat.beq p 3) 400 3 [.ref 57, .ref 3, .int y, .int z, .int l4] [] ((zua (zua ar 60 b60) 61 b61), (zuf fi 57 4 c57_4), (m1, m2, m3, m4, m5)) = (
  bif decide (192 ≤ l4) then
   zg (G_cu_visit (96 + y) (96 + y) b60 0 b61) (
   zl (A0_cu_visit (96 + y) (96 + y) b60 0 b61) (fun v1 =>
   zl (A1_cu_visit (96 + y) (96 + y) b60 0 b61) (fun v2 =>
   zl (F0_cu_visit (96 + y) (96 + y) b60 0 b61) (fun v3 =>
   some (.inl (45, [.ref 57, .ref 3, .int y, .int z, .int 0], [], ((zua (zua (zua (zua ar 60 b60) 61 b61) 60 v1) 61 v2), (zuf (zuf (zuf fi 57 4 c57_4) 57 4 0) 57 4 v3), (m1, m2, m3, m4, m5))))))))
  else
   zg (Nat.beq 16 16 && (zin l4 192)) (
   some (.inl (3, [.ref 57, .ref 3, .int y, .int z, .int (l4 + 1)], [], ((zua (zua (zua ar 60 b60) 61 b61) 60 (zup b60 (l4.toNatClampNeg) (-1))), (zuf fi 57 4 c57_4), (m1, m2, m3, m4, m5))))) : Option ((Nat × List Value × List Value × zH2) ⊕ zO2)) := by with_unfolding_all rfl
set_option maxRecDepth 20000 in
theorem k_cu_findWay_3 {X : Nat × (Nat → Int32)} {ar fi : Nat → Nat → Int32} {m1 m2 m3 m4 m5 : Nat} {y z : Int32} {b61 : Nat → Int32} {c57_4 : Int32} {o : zO2} : ∀ (s : U_cu_findWay_3) (q : U_cu_findWay_3 ⊕ T_cu_findWay), f_cu_findWay_3 y z (ar 3) (ar 58) (ar 59) b61 s = some q → zq (M_cu_findWay_3 X (zEx 14 S_cu_visit (zEx 15 S_cu_leave (zEx 16 S_cu_enter zE0))) ar fi m1 m2 m3 m4 m5 y z b61 c57_4 o) (fun t => O_cu_findWay ar fi m1 m2 m3 m4 m5 t = o) q → M_cu_findWay_3 X (zEx 14 S_cu_visit (zEx 15 S_cu_leave (zEx 16 S_cu_enter zE0))) ar fi m1 m2 m3 m4 m5 y z b61 c57_4 o s := by
  intro s q h hq
  obtain ⟨l4, b60⟩ := s
  have h : b_cu_findWay_3 y z (ar 3) (ar 58) (ar 59) b61 l4 b60 = some q := h
  unfold b_cu_findWay_3 at h
  show zR2 X zFT (zEx 14 S_cu_visit (zEx 15 S_cu_leave (zEx 16 S_cu_enter zE0))) zc_13 3 [.ref 57, .ref 3, .int y, .int z, .int l4] [] ((zua (zua ar 60 b60) 61 b61), (zuf fi 57 4 c57_4), (m1, m2, m3, m4, m5)) o
  refine zT_seg t3_cu_findWay ?_
  obtain ⟨TT, hTT⟩ : ∃ T, T = zT X zFT (zEx 14 S_cu_visit (zEx 15 S_cu_leave (zEx 16 S_cu_enter zE0))) zc_13 o := ⟨_, rfl⟩
  rw [← hTT]
  refine zb_el h (fun hb h => zU_t hTT hb ?_) (fun hb h => zU_f hTT hb ?_)
  · refine zg_el h (fun hg h => zU_g hTT hg ?_)
    refine zl_el h (fun h => zU_l hTT ?_)
    refine zl_el h (fun h => zU_l hTT ?_)
    refine zl_el h (fun h => zU_l hTT ?_)
    rw [hTT]
    refine zbd_el h (fun r hr h => ?_)
    have hz := zsi h hq
    refine zR2_hp ?_ ?_ (zlp_K k_cu_findWay_45 hr hz)
    · first | with_reducible rfl | exact hA2_cu_findWay _ _ _ _ _
    · first | with_reducible rfl | exact hF4_cu_findWay _ _ _ _
  · refine zg_el h (fun hg h => zU_ga hTT hg ?_)
    rw [hTT]
    have hz := zsi h hq
    refine zR2_hp ?_ ?_ hz
    · first | with_reducible rfl | exact hA5_cu_findWay _ _ _ _
    · first | with_reducible rfl | exact hF1_cu_findWay _ _
set_option maxRecDepth 1000000 in
theorem t_cu_findWay {X : Nat × (Nat → Int32)} {ar fi : Nat → Nat → Int32} {m1 m2 m3 m4 m5 : Nat} {y z : Int32} {G_cu_visit : Int32 → Int32 → (Nat → Int32) → Int32 → (Nat → Int32) → Bool} {A0_cu_visit : Int32 → Int32 → (Nat → Int32) → Int32 → (Nat → Int32) → Nat → Int32} {A1_cu_visit : Int32 → Int32 → (Nat → Int32) → Int32 → (Nat → Int32) → Nat → Int32} {F0_cu_visit : Int32 → Int32 → (Nat → Int32) → Int32 → (Nat → Int32) → Int32} {Q_cu_leave : Int32 → (Nat → Int32) → (Nat → Int32) → (Nat → Int32) → (Nat → Int32) → (Nat → Int32) → Int32 → Option ((Nat → Int32) × (Nat → Int32) × Int32)} {Q_cu_enter : Int32 → (Nat → Int32) → (Nat → Int32) → (Nat → Int32) → (Nat → Int32) → (Nat → Int32) → Int32 → Option ((Nat → Int32) × (Nat → Int32) × Int32)} : zseg X zFT (zEx 14 (P_cu_visit G_cu_visit A0_cu_visit A1_cu_visit F0_cu_visit) (zEx 15 (P_cu_leave Q_cu_leave) (zEx 16 (P_cu_enter Q_cu_enter) zE0))) zc_13 (fun p => Nat.beq p 45 || Nat.beq p 3) 400 0 [.ref 57, .ref 3, .int y, .int z] [] (ar, fi, (m1, m2, m3, m4, m5)) = (
  some (.inl (3, [.ref 57, .ref 3, .int y, .int z, .int 0], [], (ar, fi, (m1, m2, m3, m4, m5)))) : Option ((Nat × List Value × List Value × zH2) ⊕ zO2)) := by with_unfolding_all rfl
set_option maxRecDepth 20000 in
theorem e_cu_findWay {X : Nat × (Nat → Int32)} {ar fi : Nat → Nat → Int32} {m1 m2 m3 m4 m5 : Nat} {y z : Int32} {o : zO2} : ∀ (q : T_cu_findWay), q_cu_findWay y z (ar 3) (ar 58) (ar 59) (ar 60) (ar 61) (fi 57 4) = some q → (fun t => O_cu_findWay ar fi m1 m2 m3 m4 m5 t = o) q → zR2 X zFT (zEx 14 S_cu_visit (zEx 15 S_cu_leave (zEx 16 S_cu_enter zE0))) zc_13 0 [.ref 57, .ref 3, .int y, .int z] [] (ar, fi, (m1, m2, m3, m4, m5)) o := by
  intro q h hq
  unfold q_cu_findWay at h
  refine zT_seg t_cu_findWay ?_
  obtain ⟨TT, hTT⟩ : ∃ T, T = zT X zFT (zEx 14 S_cu_visit (zEx 15 S_cu_leave (zEx 16 S_cu_enter zE0))) zc_13 o := ⟨_, rfl⟩
  rw [← hTT]
  rw [hTT]
  apply zR2_hp ?hA ?hF (zlp_K k_cu_findWay_3 h hq)
  case hA => first | with_reducible rfl | exact hA6_cu_findWay _
  case hF => first | with_reducible rfl | exact hF7_cu_findWay _
theorem ok_cu_findWay (X : Nat × (Nat → Int32)) : zOkS X 13 S_cu_findWay 3 := zOkS_new (zOkE_cons (ok_cu_visit X) (by decide) (zOkE_cons (ok_cu_leave X) (by decide) (zOkE_cons (ok_cu_enter X) (by decide) (zOkE_nil X 2)))) (by
  intro args g o h
  obtain ⟨ar, fi, m1, m2, m3, m4, m5⟩ := g
  unfold S_cu_findWay P_cu_findWay at h
  split at h
  · refine zb_el h (fun hI0 k0 => ?_) (fun _ h10 => ?_)
    · try simp only [Bool.and_eq_true] at hI0
      obtain ⟨j0, j1⟩ := hI0
      have e0 := Nat.eq_of_beq_eq_true j0
      subst e0
      have e1 := Nat.eq_of_beq_eq_true j1
      subst e1
      exact zpe_el k0 (fun t ht ho => by obtain ⟨t0, t1, t2, t3⟩ := t; exact e_cu_findWay _ ht ho)
    · cases h10
  · cases h)
