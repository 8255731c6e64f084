abbrev T_md_closesSums : Type := (Nat → Int32) × Int32 × Int32
abbrev U_md_closesSums_0 : Type := (Nat → Int32) × Int32 × Int32
def b_md_closesSums_0 (x : Int32) (a72 : Nat → Int32) (b71 : Nat → Int32) (c64_12 : Int32) (c64_13 : Int32) : Option (U_md_closesSums_0 ⊕ T_md_closesSums) :=
  zg (g_md_waitTop c64_13 a72) (
  zl (w_md_waitTop c64_13 a72) (fun v1 =>
  bif decide (v1 < 4) then
   bif decide (x = 0) then
    some (.inr (b71, c64_12, c64_13))
   else
    zg (g_md_waitTop c64_13 a72) (
    zl (w_md_waitTop c64_13 a72) (fun v2 =>
    bif decide (v2 = 2) then
     zg (g_md_waitTop c64_13 a72) (
     zl (w_md_waitTop c64_13 a72) (fun v3 =>
     zg (g_md_notes v3 0 c64_12 b71) (
     zl (a0_md_notes v3 0 c64_12 b71) (fun v4 =>
     zl (f0_md_notes v3 0 c64_12 b71) (fun v5 =>
     some (.inl (v4, v5, c64_13 - 1)))))))
    else
     zg (g_md_waitTop c64_13 a72) (
     zl (w_md_waitTop c64_13 a72) (fun v6 =>
     bif !decide (v6 = 3) then
      some (.inr (b71, c64_12, c64_13))
     else
      zg (g_md_waitTop c64_13 a72) (
      zl (w_md_waitTop c64_13 a72) (fun v7 =>
      zg (g_md_notes v7 0 c64_12 b71) (
      zl (a0_md_notes v7 0 c64_12 b71) (fun v8 =>
      zl (f0_md_notes v7 0 c64_12 b71) (fun v9 =>
      some (.inl (v8, v9, c64_13 - 1)))))))))))
  else
   zg (g_md_waitTop c64_13 a72) (
   zl (w_md_waitTop c64_13 a72) (fun v10 =>
   bif decide (v10 ≤ 6) then
    zg (g_md_waitTop c64_13 a72) (
    zl (w_md_waitTop c64_13 a72) (fun v11 =>
    zg (g_md_notes v11 0 c64_12 b71) (
    zl (a0_md_notes v11 0 c64_12 b71) (fun v12 =>
    zl (f0_md_notes v11 0 c64_12 b71) (fun v13 =>
    some (.inl (v12, v13, c64_13 - 1)))))))
   else
    bif decide (x = 0) then
     some (.inr (b71, c64_12, c64_13))
    else
     zg (g_md_waitTop c64_13 a72) (
     zl (w_md_waitTop c64_13 a72) (fun v14 =>
     bif decide (v14 = 2) then
      zg (g_md_waitTop c64_13 a72) (
      zl (w_md_waitTop c64_13 a72) (fun v15 =>
      zg (g_md_notes v15 0 c64_12 b71) (
      zl (a0_md_notes v15 0 c64_12 b71) (fun v16 =>
      zl (f0_md_notes v15 0 c64_12 b71) (fun v17 =>
      some (.inl (v16, v17, c64_13 - 1)))))))
     else
      zg (g_md_waitTop c64_13 a72) (
      zl (w_md_waitTop c64_13 a72) (fun v18 =>
      bif !decide (v18 = 3) then
       some (.inr (b71, c64_12, c64_13))
      else
       zg (g_md_waitTop c64_13 a72) (
       zl (w_md_waitTop c64_13 a72) (fun v19 =>
       zg (g_md_notes v19 0 c64_12 b71) (
       zl (a0_md_notes v19 0 c64_12 b71) (fun v20 =>
       zl (f0_md_notes v19 0 c64_12 b71) (fun v21 =>
       some (.inl (v20, v21, c64_13 - 1)))))))))))))))
def f_md_closesSums_0 (x : Int32) (a72 : Nat → Int32) : U_md_closesSums_0 → Option (U_md_closesSums_0 ⊕ T_md_closesSums) := fun s => b_md_closesSums_0 x a72 s.1 s.2.1 s.2.2
noncomputable def l_md_closesSums_0 (x : Int32) (a72 : Nat → Int32) (b71 : Nat → Int32) (c64_12 : Int32) (c64_13 : Int32) : Option T_md_closesSums := zlp (f_md_closesSums_0 x a72) (b71, c64_12, c64_13)
noncomputable def q_md_closesSums (x : Int32) (a71 : Nat → Int32) (a72 : Nat → Int32) (f64_12 : Int32) (f64_13 : Int32) : Option T_md_closesSums :=
  l_md_closesSums_0 x a72 a71 (f64_12) (f64_13)
def P_md_closesSums (Q : Int32 → (Nat → Int32) → (Nat → Int32) → Int32 → Int32 → Option ((Nat → Int32) × Int32 × Int32)) : zSp := fun as g => match as with
  | [.ref a, .int x] => bif Nat.beq a 64 then zpe (Q x (g.1 71) (g.1 72) (g.2.1 64 12) (g.2.1 64 13)) (fun t => (none, ((zua g.1 71 t.1), (zuf (zuf g.2.1 64 12 t.2.1) 64 13 t.2.2), g.2.2))) else none
  | _ => none
noncomputable abbrev S_md_closesSums : zSp := P_md_closesSums q_md_closesSums
theorem hF5_md_closesSums (F : Nat → Nat → Int32) : F = (zuf (zuf F 64 12 (F 64 12)) 64 13 (F 64 13)) := zufk_ix F [] [((64, 12), none), ((64, 13), none)] rfl
theorem hA4_md_closesSums (F : Nat → Nat → Int32) : F = (zua F 71 (F 71)) := zuak_ix F [] [(71, none)] rfl
theorem hF3_md_closesSums (F : Nat → Nat → Int32) (w0 w1 w2 w3 : Int32) : (zuf (zuf (zuf (zuf F 64 12 w0) 64 13 w1) 64 12 w2) 64 13 w3) = (zuf (zuf F 64 12 w2) 64 13 w3) := zufk_ix F [((64, 12), w0), ((64, 13), w1), ((64, 12), w2), ((64, 13), w3)] [((64, 12), some 2), ((64, 13), some 3)] rfl
theorem hA2_md_closesSums (F : Nat → Nat → Int32) (w0 w1 : Nat → Int32) : (zua (zua F 71 w0) 71 w1) = (zua F 71 w1) := zuak_ix F [(71, w0), (71, w1)] [(71, some 1)] rfl
theorem hF1_md_closesSums (F : Nat → Nat → Int32) (w0 w1 : Int32) : (zuf (zuf F 64 12 w0) 64 13 w1) = (zuf (zuf F 64 12 w0) 64 13 w1) := zufk_ix F [((64, 12), w0), ((64, 13), w1)] [((64, 12), some 0), ((64, 13), some 1)] rfl
theorem hA0_md_closesSums (F : Nat → Nat → Int32) (w0 : Nat → Int32) : (zua F 71 w0) = (zua F 71 w0) := zuak_ix F [(71, w0)] [(71, some 0)] rfl
def O_md_closesSums (ar fi : Nat → Nat → Int32) (m1 : Nat) (m2 : Nat) (m3 : Nat) (m4 : Nat) (m5 : Nat) (t : T_md_closesSums) : zO2 := match t with
  | (t0, t1, t2) => (none, ((zua ar 71 t0), (zuf (zuf fi 64 12 t1) 64 13 t2), (m1, m2, m3, m4, m5)))
def M_md_closesSums_0 (X : Nat × (Nat → Int32)) (E : zTE) (ar fi : Nat → Nat → Int32) (m1 : Nat) (m2 : Nat) (m3 : Nat) (m4 : Nat) (m5 : Nat) (x : Int32) (o : zO2) (s : U_md_closesSums_0) : Prop := match s with
  | (b71, c64_12, c64_13) => zR2 X zFT E zc_168 0 [.ref 64, .int x] [] ((zua ar 71 b71), (zuf (zuf fi 64 12 c64_12) 64 13 c64_13), (m1, m2, m3, m4, m5)) o
set_option maxRecDepth 1000000 in
theorem t0_md_closesSums {X : Nat × (Nat → Int32)} {ar fi : Nat → Nat → Int32} {m1 m2 m3 m4 m5 : Nat} {x : Int32} {b71 : Nat → Int32} {c64_12 : Int32} {c64_13 : Int32} {G_md_waitTop : Int32 → (Nat → Int32) → Bool} {W_md_waitTop : Int32 → (Nat → Int32) → Int32} {G_md_notes : Int32 → Int32 → Int32 → (Nat → Int32) → Bool} {A0_md_notes : Int32 → Int32 → Int32 → (Nat → Int32) → Nat → Int32} {F0_md_notes : Int32 → Int32 → Int32 → (Nat → Int32) → Int32} : zseg X zFT (zEx 165 (P_md_waitTop G_md_waitTop W_md_waitTop) (zEx 163 (P_md_notes G_md_notes A0_md_notes F0_md_notes) zE0)) zc_168 (fun p => Nat.beq p 0) 400 0 [.ref 64, .int x] [] ((zua ar 71 b71), (zuf (zuf fi 64 12 c64_12) 64 13 c64_13), (m1, m2, m3, m4, m5)) = (
  zg (G_md_waitTop c64_13 (ar 72)) (
  zl (W_md_waitTop c64_13 (ar 72)) (fun v1 =>
  bif decide (v1 < 4) then
   bif decide (x = 0) then
    some (.inr (none, ((zua ar 71 b71), (zuf (zuf fi 64 12 c64_12) 64 13 c64_13), (m1, m2, m3, m4, m5))))
   else
    zg (G_md_waitTop c64_13 (ar 72)) (
    zl (W_md_waitTop c64_13 (ar 72)) (fun v2 =>
    bif decide (v2 = 2) then
     zg (G_md_waitTop c64_13 (ar 72)) (
     zl (W_md_waitTop c64_13 (ar 72)) (fun v3 =>
     zg (G_md_notes v3 0 c64_12 b71) (
     zl (A0_md_notes v3 0 c64_12 b71) (fun v4 =>
     zl (F0_md_notes v3 0 c64_12 b71) (fun v5 =>
     some (.inl (0, [.ref 64, .int x], [], ((zua (zua ar 71 b71) 71 v4), (zuf (zuf (zuf (zuf fi 64 12 c64_12) 64 13 c64_13) 64 12 v5) 64 13 (c64_13 - 1)), (m1, m2, m3, m4, m5)))))))))
    else
     zg (G_md_waitTop c64_13 (ar 72)) (
     zl (W_md_waitTop c64_13 (ar 72)) (fun v6 =>
     bif !decide (v6 = 3) then
      some (.inr (none, ((zua ar 71 b71), (zuf (zuf fi 64 12 c64_12) 64 13 c64_13), (m1, m2, m3, m4, m5))))
     else
      zg (G_md_waitTop c64_13 (ar 72)) (
      zl (W_md_waitTop c64_13 (ar 72)) (fun v7 =>
      zg (G_md_notes v7 0 c64_12 b71) (
      zl (A0_md_notes v7 0 c64_12 b71) (fun v8 =>
      zl (F0_md_notes v7 0 c64_12 b71) (fun v9 =>
      some (.inl (0, [.ref 64, .int x], [], ((zua (zua ar 71 b71) 71 v8), (zuf (zuf (zuf (zuf fi 64 12 c64_12) 64 13 c64_13) 64 12 v9) 64 13 (c64_13 - 1)), (m1, m2, m3, m4, m5)))))))))))))
  else
   zg (G_md_waitTop c64_13 (ar 72)) (
   zl (W_md_waitTop c64_13 (ar 72)) (fun v10 =>
   bif decide (v10 ≤ 6) then
    zg (G_md_waitTop c64_13 (ar 72)) (
    zl (W_md_waitTop c64_13 (ar 72)) (fun v11 =>
    zg (G_md_notes v11 0 c64_12 b71) (
    zl (A0_md_notes v11 0 c64_12 b71) (fun v12 =>
    zl (F0_md_notes v11 0 c64_12 b71) (fun v13 =>
    some (.inl (0, [.ref 64, .int x], [], ((zua (zua ar 71 b71) 71 v12), (zuf (zuf (zuf (zuf fi 64 12 c64_12) 64 13 c64_13) 64 12 v13) 64 13 (c64_13 - 1)), (m1, m2, m3, m4, m5)))))))))
   else
    bif decide (x = 0) then
     some (.inr (none, ((zua ar 71 b71), (zuf (zuf fi 64 12 c64_12) 64 13 c64_13), (m1, m2, m3, m4, m5))))
    else
     zg (G_md_waitTop c64_13 (ar 72)) (
     zl (W_md_waitTop c64_13 (ar 72)) (fun v14 =>
     bif decide (v14 = 2) then
      zg (G_md_waitTop c64_13 (ar 72)) (
      zl (W_md_waitTop c64_13 (ar 72)) (fun v15 =>
      zg (G_md_notes v15 0 c64_12 b71) (
      zl (A0_md_notes v15 0 c64_12 b71) (fun v16 =>
      zl (F0_md_notes v15 0 c64_12 b71) (fun v17 =>
      some (.inl (0, [.ref 64, .int x], [], ((zua (zua ar 71 b71) 71 v16), (zuf (zuf (zuf (zuf fi 64 12 c64_12) 64 13 c64_13) 64 12 v17) 64 13 (c64_13 - 1)), (m1, m2, m3, m4, m5)))))))))
     else
      zg (G_md_waitTop c64_13 (ar 72)) (
      zl (W_md_waitTop c64_13 (ar 72)) (fun v18 =>
      bif !decide (v18 = 3) then
       some (.inr (none, ((zua ar 71 b71), (zuf (zuf fi 64 12 c64_12) 64 13 c64_13), (m1, m2, m3, m4, m5))))
      else
       zg (G_md_waitTop c64_13 (ar 72)) (
       zl (W_md_waitTop c64_13 (ar 72)) (fun v19 =>
       zg (G_md_notes v19 0 c64_12 b71) (
       zl (A0_md_notes v19 0 c64_12 b71) (fun v20 =>
       zl (F0_md_notes v19 0 c64_12 b71) (fun v21 =>
       some (.inl (0, [.ref 64, .int x], [], ((zua (zua ar 71 b71) 71 v20), (zuf (zuf (zuf (zuf fi 64 12 c64_12) 64 13 c64_13) 64 12 v21) 64 13 (c64_13 - 1)), (m1, m2, m3, m4, m5))))))))))))))))) : Option ((Nat × List Value × List Value × zH2) ⊕ zO2)) := by with_unfolding_all rfl
set_option maxRecDepth 20000 in
theorem k_md_closesSums_0 {X : Nat × (Nat → Int32)} {ar fi : Nat → Nat → Int32} {m1 m2 m3 m4 m5 : Nat} {x : Int32} {o : zO2} : ∀ (s : U_md_closesSums_0) (q : U_md_closesSums_0 ⊕ T_md_closesSums), f_md_closesSums_0 x (ar 72) s = some q → zq (M_md_closesSums_0 X (zEx 165 S_md_waitTop (zEx 163 S_md_notes zE0)) ar fi m1 m2 m3 m4 m5 x o) (fun t => O_md_closesSums ar fi m1 m2 m3 m4 m5 t = o) q → M_md_closesSums_0 X (zEx 165 S_md_waitTop (zEx 163 S_md_notes zE0)) ar fi m1 m2 m3 m4 m5 x o s := by
  intro s q h hq
  obtain ⟨b71, c64_12, c64_13⟩ := s
  have h : b_md_closesSums_0 x (ar 72) b71 c64_12 c64_13 = some q := h
  unfold b_md_closesSums_0 at h
  show zR2 X zFT (zEx 165 S_md_waitTop (zEx 163 S_md_notes zE0)) zc_168 0 [.ref 64, .int x] [] ((zua ar 71 b71), (zuf (zuf fi 64 12 c64_12) 64 13 c64_13), (m1, m2, m3, m4, m5)) o
  refine zT_seg t0_md_closesSums ?_
  obtain ⟨TT, hTT⟩ : ∃ T, T = zT X zFT (zEx 165 S_md_waitTop (zEx 163 S_md_notes zE0)) zc_168 o := ⟨_, rfl⟩
  rw [← hTT]
  refine zg_el h (fun hg h => zU_g hTT hg ?_)
  refine zl_el h (fun h => zU_l hTT ?_)
  refine zb_el h (fun hb h => zU_t hTT hb ?_) (fun hb h => zU_f hTT hb ?_)
  · refine zb_el h (fun hb h => zU_t hTT hb ?_) (fun hb h => zU_f hTT hb ?_)
    · rw [hTT]
      have hz := zsi h hq
      refine (zO_mk ?_ ?_).trans hz
      · first | with_reducible rfl | exact hA0_md_closesSums _ _
      · first | with_reducible rfl | exact hF1_md_closesSums _ _ _
    · refine zg_el h (fun hg h => zU_g hTT hg ?_)
      refine zl_el h (fun h => zU_l hTT ?_)
      refine zb_el h (fun hb h => zU_t hTT hb ?_) (fun hb h => zU_f hTT hb ?_)
      · refine zg_el h (fun hg h => zU_g hTT hg ?_)
        refine zl_el h (fun h => zU_l hTT ?_)
        refine zg_el h (fun hg h => zU_g hTT hg ?_)
        refine zl_el h (fun h => zU_l hTT ?_)
        refine zl_el h (fun h => zU_l hTT ?_)
        rw [hTT]
        have hz := zsi h hq
        refine zR2_hp ?_ ?_ hz
        · first | with_reducible rfl | exact hA2_md_closesSums _ _ _
        · first | with_reducible rfl | exact hF3_md_closesSums _ _ _ _ _
      · refine zg_el h (fun hg h => zU_g hTT hg ?_)
        refine zl_el h (fun h => zU_l hTT ?_)
        refine zb_el h (fun hb h => zU_t hTT hb ?_) (fun hb h => zU_f hTT hb ?_)
        · rw [hTT]
          have hz := zsi h hq
          refine (zO_mk ?_ ?_).trans hz
          · first | with_reducible rfl | exact hA0_md_closesSums _ _
          · first | with_reducible rfl | exact hF1_md_closesSums _ _ _
        · refine zg_el h (fun hg h => zU_g hTT hg ?_)
          refine zl_el h (fun h => zU_l hTT ?_)
          refine zg_el h (fun hg h => zU_g hTT hg ?_)
          refine zl_el h (fun h => zU_l hTT ?_)
          refine zl_el h (fun h => zU_l hTT ?_)
          rw [hTT]
          have hz := zsi h hq
          refine zR2_hp ?_ ?_ hz
          · first | with_reducible rfl | exact hA2_md_closesSums _ _ _
          · first | with_reducible rfl | exact hF3_md_closesSums _ _ _ _ _
  · refine zg_el h (fun hg h => zU_g hTT hg ?_)
    refine zl_el h (fun h => zU_l hTT ?_)
    refine zb_el h (fun hb h => zU_t hTT hb ?_) (fun hb h => zU_f hTT hb ?_)
    · refine zg_el h (fun hg h => zU_g hTT hg ?_)
      refine zl_el h (fun h => zU_l hTT ?_)
      refine zg_el h (fun hg h => zU_g hTT hg ?_)
      refine zl_el h (fun h => zU_l hTT ?_)
      refine zl_el h (fun h => zU_l hTT ?_)
      rw [hTT]
      have hz := zsi h hq
      refine zR2_hp ?_ ?_ hz
      · first | with_reducible rfl | exact hA2_md_closesSums _ _ _
      · first | with_reducible rfl | exact hF3_md_closesSums _ _ _ _ _
    · refine zb_el h (fun hb h => zU_t hTT hb ?_) (fun hb h => zU_f hTT hb ?_)
      · rw [hTT]
        have hz := zsi h hq
        refine (zO_mk ?_ ?_).trans hz
        · first | with_reducible rfl | exact hA0_md_closesSums _ _
        · first | with_reducible rfl | exact hF1_md_closesSums _ _ _
      · refine zg_el h (fun hg h => zU_g hTT hg ?_)
        refine zl_el h (fun h => zU_l hTT ?_)
        refine zb_el h (fun hb h => zU_t hTT hb ?_) (fun hb h => zU_f hTT hb ?_)
        · refine zg_el h (fun hg h => zU_g hTT hg ?_)
          refine zl_el h (fun h => zU_l hTT ?_)
          refine zg_el h (fun hg h => zU_g hTT hg ?_)
          refine zl_el h (fun h => zU_l hTT ?_)
          refine zl_el h (fun h => zU_l hTT ?_)
          rw [hTT]
          have hz := zsi h hq
          refine zR2_hp ?_ ?_ hz
          · first | with_reducible rfl | exact hA2_md_closesSums _ _ _
          · first | with_reducible rfl | exact hF3_md_closesSums _ _ _ _ _
        · refine zg_el h (fun hg h => zU_g hTT hg ?_)
          refine zl_el h (fun h => zU_l hTT ?_)
          refine zb_el h (fun hb h => zU_t hTT hb ?_) (fun hb h => zU_f hTT hb ?_)
          · rw [hTT]
            have hz := zsi h hq
            refine (zO_mk ?_ ?_).trans hz
            · first | with_reducible rfl | exact hA0_md_closesSums _ _
            · first | with_reducible rfl | exact hF1_md_closesSums _ _ _
          · refine zg_el h (fun hg h => zU_g hTT hg ?_)
            refine zl_el h (fun h => zU_l hTT ?_)
            refine zg_el h (fun hg h => zU_g hTT hg ?_)
            refine zl_el h (fun h => zU_l hTT ?_)
            refine zl_el h (fun h => zU_l hTT ?_)
            rw [hTT]
            have hz := zsi h hq
            refine zR2_hp ?_ ?_ hz
            · first | with_reducible rfl | exact hA2_md_closesSums _ _ _
            · first | with_reducible rfl | exact hF3_md_closesSums _ _ _ _ _
set_option maxRecDepth 20000 in
theorem e_md_closesSums {X : Nat × (Nat → Int32)} {ar fi : Nat → Nat → Int32} {m1 m2 m3 m4 m5 : Nat} {x : Int32} {o : zO2} : ∀ (q : T_md_closesSums), q_md_closesSums x (ar 71) (ar 72) (fi 64 12) (fi 64 13) = some q → (fun t => O_md_closesSums ar fi m1 m2 m3 m4 m5 t = o) q → zR2 X zFT (zEx 165 S_md_waitTop (zEx 163 S_md_notes zE0)) zc_168 0 [.ref 64, .int x] [] (ar, fi, (m1, m2, m3, m4, m5)) o := by
  intro q h hq
  unfold q_md_closesSums at h
  refine zR2_hp ?_ ?_ (zlp_K k_md_closesSums_0 h hq)
  · first | with_reducible rfl | exact hA4_md_closesSums _
  · first | with_reducible rfl | exact hF5_md_closesSums _
theorem ok_md_closesSums (X : Nat × (Nat → Int32)) : zOkS X 168 S_md_closesSums 2 := zOkS_new (zOkE_cons (ok_md_waitTop X) (by decide) (zOkE_cons (ok_md_notes X) (by decide) (zOkE_nil X 1))) (by
  intro args g o h
  obtain ⟨ar, fi, m1, m2, m3, m4, m5⟩ := g
  unfold S_md_closesSums P_md_closesSums at h
  split at h
  · refine zb_el h (fun hI0 k0 => ?_) (fun _ h10 => ?_)
    · try simp only [Bool.and_eq_true] at hI0
      have j0 := hI0
      have e0 := Nat.eq_of_beq_eq_true j0
      subst e0
      exact zpe_el k0 (fun t ht ho => by obtain ⟨t0, t1, t2⟩ := t; exact e_md_closesSums _ ht ho)
    · cases h10
  · cases h)
