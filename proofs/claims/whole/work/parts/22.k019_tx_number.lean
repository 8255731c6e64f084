abbrev T_tx_number : Type := Int32 × Int32 × Int32 × Int32
abbrev U_tx_number_4 : Type := Int32 × Int32 × Int32
def b_tx_number_4 (x : Int32) (a1 : Nat → Int32) (f40_1 : Int32) (f40_2 : Int32) (f40_3 : Int32) (l2 : Int32) (l3 : Int32) (c40_4 : Int32) : Option (U_tx_number_4 ⊕ T_tx_number) :=
  bif decide (x < l3) then
   some (.inr (l2, f40_2, f40_3, c40_4))
  else
   zg (g_tx_sign (f40_2) c40_4 (f40_1) a1) (
   zl (w_tx_sign (f40_2) c40_4 (f40_1) a1) (fun v1 =>
   bif decide (v1 < 48) then
    bif !decide (l3 = 0) then
     some (.inr (l2, f40_2, f40_3, c40_4))
    else
     zl (f0_tx_fail 1 c40_4 (f40_2) (f40_3)) (fun v2 =>
     zl (f1_tx_fail 1 c40_4 (f40_2) (f40_3)) (fun v3 =>
     some (.inr (l2, v2, v3, c40_4))))
   else
    bif decide (v1 ≤ 57) then
     bif !decide (l3 = x) then
      some (.inl (((10 * l2) + v1) - 48, l3 + 1, c40_4 + 1))
     else
      zl (f0_tx_fail 2 c40_4 (f40_2) (f40_3)) (fun v4 =>
      zl (f1_tx_fail 2 c40_4 (f40_2) (f40_3)) (fun v5 =>
      some (.inr (l2, v4, v5, c40_4))))
    else
     bif !decide (l3 = 0) then
      some (.inr (l2, f40_2, f40_3, c40_4))
     else
      zl (f0_tx_fail 1 c40_4 (f40_2) (f40_3)) (fun v6 =>
      zl (f1_tx_fail 1 c40_4 (f40_2) (f40_3)) (fun v7 =>
      some (.inr (l2, v6, v7, c40_4))))))
def f_tx_number_4 (x : Int32) (a1 : Nat → Int32) (f40_1 : Int32) (f40_2 : Int32) (f40_3 : Int32) : U_tx_number_4 → Option (U_tx_number_4 ⊕ T_tx_number) := fun s => b_tx_number_4 x a1 f40_1 f40_2 f40_3 s.1 s.2.1 s.2.2
noncomputable def l_tx_number_4 (x : Int32) (a1 : Nat → Int32) (f40_1 : Int32) (f40_2 : Int32) (f40_3 : Int32) (l2 : Int32) (l3 : Int32) (c40_4 : Int32) : Option T_tx_number := zlp (f_tx_number_4 x a1 f40_1 f40_2 f40_3) (l2, l3, c40_4)
noncomputable def q_tx_number (x : Int32) (a1 : Nat → Int32) (f40_1 : Int32) (f40_2 : Int32) (f40_3 : Int32) (f40_4 : Int32) : Option T_tx_number :=
  l_tx_number_4 x a1 f40_1 f40_2 f40_3 0 0 (f40_4)
def P_tx_number (Q : Int32 → (Nat → Int32) → Int32 → Int32 → Int32 → Int32 → Option (Int32 × Int32 × Int32 × Int32)) : zSp := fun as g => match as with
  | [.ref a, .int x] => bif Nat.beq a 40 && Nat.beq g.2.2.2.2.1 1 then zpe (Q x (g.1 1) (g.2.1 40 1) (g.2.1 40 2) (g.2.1 40 3) (g.2.1 40 4)) (fun t => (some (.int (t.1)), (g.1, (zuf (zuf (zuf g.2.1 40 2 t.2.1) 40 3 t.2.2.1) 40 4 t.2.2.2), g.2.2))) else bif Nat.beq a 44 && Nat.beq g.2.2.2.2.2.1 1 then zpe (Q x (g.1 1) (g.2.1 44 1) (g.2.1 44 2) (g.2.1 44 3) (g.2.1 44 4)) (fun t => (some (.int (t.1)), (g.1, (zuf (zuf (zuf g.2.1 44 2 t.2.1) 44 3 t.2.2.1) 44 4 t.2.2.2), g.2.2))) else bif Nat.beq a 47 && Nat.beq g.2.2.2.2.2.2 1 then zpe (Q x (g.1 1) (g.2.1 47 1) (g.2.1 47 2) (g.2.1 47 3) (g.2.1 47 4)) (fun t => (some (.int (t.1)), (g.1, (zuf (zuf (zuf g.2.1 47 2 t.2.1) 47 3 t.2.2.1) 47 4 t.2.2.2), g.2.2))) else none
  | _ => none
noncomputable abbrev S_tx_number : zSp := P_tx_number q_tx_number
theorem hF11_tx_number (F : Nat → Nat → Int32) : F = (zuf F 47 4 (F 47 4)) := zufk_ix F [] [((47, 4), none)] rfl
theorem hF10_tx_number (F : Nat → Nat → Int32) (w0 w1 : Int32) : (zuf (zuf F 47 4 w0) 47 4 w1) = (zuf F 47 4 w1) := zufk_ix F [((47, 4), w0), ((47, 4), w1)] [((47, 4), some 1)] rfl
theorem hF9_tx_number (F : Nat → Nat → Int32) (w0 w1 w2 : Int32) : (zuf (zuf (zuf F 47 4 w0) 47 2 w1) 47 3 w2) = (zuf (zuf (zuf F 47 2 w1) 47 3 w2) 47 4 w0) := zufk_ix F [((47, 4), w0), ((47, 2), w1), ((47, 3), w2)] [((47, 2), some 1), ((47, 3), some 2), ((47, 4), some 0)] rfl
theorem hF8_tx_number (F : Nat → Nat → Int32) (w0 : Int32) : (zuf F 47 4 w0) = (zuf (zuf (zuf F 47 2 (F 47 2)) 47 3 (F 47 3)) 47 4 w0) := zufk_ix F [((47, 4), w0)] [((47, 2), none), ((47, 3), none), ((47, 4), some 0)] rfl
theorem hF7_tx_number (F : Nat → Nat → Int32) : F = (zuf F 44 4 (F 44 4)) := zufk_ix F [] [((44, 4), none)] rfl
theorem hF6_tx_number (F : Nat → Nat → Int32) (w0 w1 : Int32) : (zuf (zuf F 44 4 w0) 44 4 w1) = (zuf F 44 4 w1) := zufk_ix F [((44, 4), w0), ((44, 4), w1)] [((44, 4), some 1)] rfl
theorem hF5_tx_number (F : Nat → Nat → Int32) (w0 w1 w2 : Int32) : (zuf (zuf (zuf F 44 4 w0) 44 2 w1) 44 3 w2) = (zuf (zuf (zuf F 44 2 w1) 44 3 w2) 44 4 w0) := zufk_ix F [((44, 4), w0), ((44, 2), w1), ((44, 3), w2)] [((44, 2), some 1), ((44, 3), some 2), ((44, 4), some 0)] rfl
theorem hF4_tx_number (F : Nat → Nat → Int32) (w0 : Int32) : (zuf F 44 4 w0) = (zuf (zuf (zuf F 44 2 (F 44 2)) 44 3 (F 44 3)) 44 4 w0) := zufk_ix F [((44, 4), w0)] [((44, 2), none), ((44, 3), none), ((44, 4), some 0)] rfl
theorem hF3_tx_number (F : Nat → Nat → Int32) : F = (zuf F 40 4 (F 40 4)) := zufk_ix F [] [((40, 4), none)] rfl
theorem hF2_tx_number (F : Nat → Nat → Int32) (w0 w1 : Int32) : (zuf (zuf F 40 4 w0) 40 4 w1) = (zuf F 40 4 w1) := zufk_ix F [((40, 4), w0), ((40, 4), w1)] [((40, 4), some 1)] rfl
theorem hF1_tx_number (F : Nat → Nat → Int32) (w0 w1 w2 : Int32) : (zuf (zuf (zuf F 40 4 w0) 40 2 w1) 40 3 w2) = (zuf (zuf (zuf F 40 2 w1) 40 3 w2) 40 4 w0) := zufk_ix F [((40, 4), w0), ((40, 2), w1), ((40, 3), w2)] [((40, 2), some 1), ((40, 3), some 2), ((40, 4), some 0)] rfl
theorem hF0_tx_number (F : Nat → Nat → Int32) (w0 : Int32) : (zuf F 40 4 w0) = (zuf (zuf (zuf F 40 2 (F 40 2)) 40 3 (F 40 3)) 40 4 w0) := zufk_ix F [((40, 4), w0)] [((40, 2), none), ((40, 3), none), ((40, 4), some 0)] rfl
def O_tx_number_40 (ar fi : Nat → Nat → Int32) (m1 : Nat) (m2 : Nat) (m4 : Nat) (m5 : Nat) (t : T_tx_number) : zO2 := match t with
  | (t0, t1, t2, t3) => (some (.int (t0)), (ar, (zuf (zuf (zuf fi 40 2 t1) 40 3 t2) 40 4 t3), (m1, m2, 1, m4, m5)))
def M_tx_number_4_40 (X : Nat × (Nat → Int32)) (E : zTE) (ar fi : Nat → Nat → Int32) (m1 : Nat) (m2 : Nat) (m4 : Nat) (m5 : Nat) (x : Int32) (o : zO2) (s : U_tx_number_4) : Prop := match s with
  | (l2, l3, c40_4) => zR2 X zFT E zc_98 4 [.ref 40, .int x, .int l2, .int l3] [] (ar, (zuf fi 40 4 c40_4), (m1, m2, 1, m4, m5)) o
set_option maxRecDepth 1000000 in
theorem t4_tx_number_40 {X : Nat × (Nat → Int32)} {ar fi : Nat → Nat → Int32} {m1 m2 m4 m5 : Nat} {x : Int32} {l2 : Int32} {l3 : Int32} {c40_4 : Int32} {G_tx_sign : Int32 → Int32 → Int32 → (Nat → Int32) → Bool} {W_tx_sign : Int32 → Int32 → Int32 → (Nat → Int32) → Int32} {F0_tx_fail : Int32 → Int32 → Int32 → Int32 → Int32} {F1_tx_fail : Int32 → Int32 → Int32 → Int32 → Int32} : zseg X zFT (zEx 93 (P_tx_sign G_tx_sign W_tx_sign) (zEx 97 (P_tx_fail F0_tx_fail F1_tx_fail) zE0)) zc_98 (fun p => Nat.beq p 4) 400 4 [.ref 40, .int x, .int l2, .int l3] [] (ar, (zuf fi 40 4 c40_4), (m1, m2, 1, m4, m5)) = (
  bif decide (x < l3) then
   some (.inr (some (.int l2), (ar, (zuf fi 40 4 c40_4), (m1, m2, 1, m4, m5))))
  else
   zg (G_tx_sign (fi 40 2) c40_4 (fi 40 1) (ar 1)) (
   zl (W_tx_sign (fi 40 2) c40_4 (fi 40 1) (ar 1)) (fun v1 =>
   bif decide (v1 < 48) then
    bif !decide (l3 = 0) then
     some (.inr (some (.int l2), (ar, (zuf fi 40 4 c40_4), (m1, m2, 1, m4, m5))))
    else
     zl (F0_tx_fail 1 c40_4 (fi 40 2) (fi 40 3)) (fun v2 =>
     zl (F1_tx_fail 1 c40_4 (fi 40 2) (fi 40 3)) (fun v3 =>
     some (.inr (some (.int l2), (ar, (zuf (zuf (zuf fi 40 4 c40_4) 40 2 v2) 40 3 v3), (m1, m2, 1, m4, m5))))))
   else
    bif decide (v1 ≤ 57) then
     bif !decide (l3 = x) then
      some (.inl (4, [.ref 40, .int x, .int (((10 * l2) + v1) - 48), .int (l3 + 1)], [], (ar, (zuf (zuf fi 40 4 c40_4) 40 4 (c40_4 + 1)), (m1, m2, 1, m4, m5))))
     else
      zl (F0_tx_fail 2 c40_4 (fi 40 2) (fi 40 3)) (fun v4 =>
      zl (F1_tx_fail 2 c40_4 (fi 40 2) (fi 40 3)) (fun v5 =>
      some (.inr (some (.int l2), (ar, (zuf (zuf (zuf fi 40 4 c40_4) 40 2 v4) 40 3 v5), (m1, m2, 1, m4, m5))))))
    else
     bif !decide (l3 = 0) then
      some (.inr (some (.int l2), (ar, (zuf fi 40 4 c40_4), (m1, m2, 1, m4, m5))))
     else
      zl (F0_tx_fail 1 c40_4 (fi 40 2) (fi 40 3)) (fun v6 =>
      zl (F1_tx_fail 1 c40_4 (fi 40 2) (fi 40 3)) (fun v7 =>
      some (.inr (some (.int l2), (ar, (zuf (zuf (zuf fi 40 4 c40_4) 40 2 v6) 40 3 v7), (m1, m2, 1, m4, m5)))))))) : Option ((Nat × List Value × List Value × zH2) ⊕ zO2)) := by with_unfolding_all rfl
set_option maxRecDepth 20000 in
theorem k_tx_number_4_40 {X : Nat × (Nat → Int32)} {ar fi : Nat → Nat → Int32} {m1 m2 m4 m5 : Nat} {x : Int32} {o : zO2} : ∀ (s : U_tx_number_4) (q : U_tx_number_4 ⊕ T_tx_number), f_tx_number_4 x (ar 1) (fi 40 1) (fi 40 2) (fi 40 3) s = some q → zq (M_tx_number_4_40 X (zEx 93 S_tx_sign (zEx 97 S_tx_fail zE0)) ar fi m1 m2 m4 m5 x o) (fun t => O_tx_number_40 ar fi m1 m2 m4 m5 t = o) q → M_tx_number_4_40 X (zEx 93 S_tx_sign (zEx 97 S_tx_fail zE0)) ar fi m1 m2 m4 m5 x o s := by
  intro s q h hq
  obtain ⟨l2, l3, c40_4⟩ := s
  have h : b_tx_number_4 x (ar 1) (fi 40 1) (fi 40 2) (fi 40 3) l2 l3 c40_4 = some q := h
  unfold b_tx_number_4 at h
  show zR2 X zFT (zEx 93 S_tx_sign (zEx 97 S_tx_fail zE0)) zc_98 4 [.ref 40, .int x, .int l2, .int l3] [] (ar, (zuf fi 40 4 c40_4), (m1, m2, 1, m4, m5)) o
  refine zT_seg t4_tx_number_40 ?_
  obtain ⟨TT, hTT⟩ : ∃ T, T = zT X zFT (zEx 93 S_tx_sign (zEx 97 S_tx_fail zE0)) zc_98 o := ⟨_, rfl⟩
  rw [← hTT]
  refine zb_el h (fun hb h => zU_t hTT hb ?_) (fun hb h => zU_f hTT hb ?_)
  · rw [hTT]
    have hz := zsi h hq
    refine (zO_mk ?_ ?_).trans hz
    · first | with_reducible rfl | rfl
    · first | with_reducible rfl | exact hF0_tx_number _ _
  · refine zg_el h (fun hg h => zU_g hTT hg ?_)
    refine zl_el h (fun h => zU_l hTT ?_)
    refine zb_el h (fun hb h => zU_t hTT hb ?_) (fun hb h => zU_f hTT hb ?_)
    · refine zb_el h (fun hb h => zU_t hTT hb ?_) (fun hb h => zU_f hTT hb ?_)
      · rw [hTT]
        have hz := zsi h hq
        refine (zO_mk ?_ ?_).trans hz
        · first | with_reducible rfl | rfl
        · first | with_reducible rfl | exact hF0_tx_number _ _
      · refine zl_el h (fun h => zU_l hTT ?_)
        refine zl_el h (fun h => zU_l hTT ?_)
        rw [hTT]
        have hz := zsi h hq
        refine (zO_mk ?_ ?_).trans hz
        · first | with_reducible rfl | rfl
        · first | with_reducible rfl | exact hF1_tx_number _ _ _ _
    · refine zb_el h (fun hb h => zU_t hTT hb ?_) (fun hb h => zU_f hTT hb ?_)
      · refine zb_el h (fun hb h => zU_t hTT hb ?_) (fun hb h => zU_f hTT hb ?_)
        · rw [hTT]
          have hz := zsi h hq
          refine zR2_hp ?_ ?_ hz
          · first | with_reducible rfl | rfl
          · first | with_reducible rfl | exact hF2_tx_number _ _ _
        · refine zl_el h (fun h => zU_l hTT ?_)
          refine zl_el h (fun h => zU_l hTT ?_)
          rw [hTT]
          have hz := zsi h hq
          refine (zO_mk ?_ ?_).trans hz
          · first | with_reducible rfl | rfl
          · first | with_reducible rfl | exact hF1_tx_number _ _ _ _
      · refine zb_el h (fun hb h => zU_t hTT hb ?_) (fun hb h => zU_f hTT hb ?_)
        · rw [hTT]
          have hz := zsi h hq
          refine (zO_mk ?_ ?_).trans hz
          · first | with_reducible rfl | rfl
          · first | with_reducible rfl | exact hF0_tx_number _ _
        · refine zl_el h (fun h => zU_l hTT ?_)
          refine zl_el h (fun h => zU_l hTT ?_)
          rw [hTT]
          have hz := zsi h hq
          refine (zO_mk ?_ ?_).trans hz
          · first | with_reducible rfl | rfl
          · first | with_reducible rfl | exact hF1_tx_number _ _ _ _
set_option maxRecDepth 1000000 in
theorem t_tx_number_40 {X : Nat × (Nat → Int32)} {ar fi : Nat → Nat → Int32} {m1 m2 m4 m5 : Nat} {x : Int32} {G_tx_sign : Int32 → Int32 → Int32 → (Nat → Int32) → Bool} {W_tx_sign : Int32 → Int32 → Int32 → (Nat → Int32) → Int32} {F0_tx_fail : Int32 → Int32 → Int32 → Int32 → Int32} {F1_tx_fail : Int32 → Int32 → Int32 → Int32 → Int32} : zseg X zFT (zEx 93 (P_tx_sign G_tx_sign W_tx_sign) (zEx 97 (P_tx_fail F0_tx_fail F1_tx_fail) zE0)) zc_98 (fun p => Nat.beq p 4) 400 0 [.ref 40, .int x] [] (ar, fi, (m1, m2, 1, m4, m5)) = (
  some (.inl (4, [.ref 40, .int x, .int 0, .int 0], [], (ar, fi, (m1, m2, 1, m4, m5)))) : Option ((Nat × List Value × List Value × zH2) ⊕ zO2)) := by with_unfolding_all rfl
set_option maxRecDepth 20000 in
theorem e_tx_number_40 {X : Nat × (Nat → Int32)} {ar fi : Nat → Nat → Int32} {m1 m2 m4 m5 : Nat} {x : Int32} {o : zO2} : ∀ (q : T_tx_number), q_tx_number x (ar 1) (fi 40 1) (fi 40 2) (fi 40 3) (fi 40 4) = some q → (fun t => O_tx_number_40 ar fi m1 m2 m4 m5 t = o) q → zR2 X zFT (zEx 93 S_tx_sign (zEx 97 S_tx_fail zE0)) zc_98 0 [.ref 40, .int x] [] (ar, fi, (m1, m2, 1, m4, m5)) o := by
  intro q h hq
  unfold q_tx_number at h
  refine zT_seg t_tx_number_40 ?_
  obtain ⟨TT, hTT⟩ : ∃ T, T = zT X zFT (zEx 93 S_tx_sign (zEx 97 S_tx_fail zE0)) zc_98 o := ⟨_, rfl⟩
  rw [← hTT]
  rw [hTT]
  refine zR2_hp ?_ ?_ (zlp_K k_tx_number_4_40 h hq)
  · first | with_reducible rfl | rfl
  · first | with_reducible rfl | exact hF3_tx_number _
def O_tx_number_44 (ar fi : Nat → Nat → Int32) (m1 : Nat) (m2 : Nat) (m3 : Nat) (m5 : Nat) (t : T_tx_number) : zO2 := match t with
  | (t0, t1, t2, t3) => (some (.int (t0)), (ar, (zuf (zuf (zuf fi 44 2 t1) 44 3 t2) 44 4 t3), (m1, m2, m3, 1, m5)))
def M_tx_number_4_44 (X : Nat × (Nat → Int32)) (E : zTE) (ar fi : Nat → Nat → Int32) (m1 : Nat) (m2 : Nat) (m3 : Nat) (m5 : Nat) (x : Int32) (o : zO2) (s : U_tx_number_4) : Prop := match s with
  | (l2, l3, c44_4) => zR2 X zFT E zc_98 4 [.ref 44, .int x, .int l2, .int l3] [] (ar, (zuf fi 44 4 c44_4), (m1, m2, m3, 1, m5)) o
set_option maxRecDepth 1000000 in
theorem t4_tx_number_44 {X : Nat × (Nat → Int32)} {ar fi : Nat → Nat → Int32} {m1 m2 m3 m5 : Nat} {x : Int32} {l2 : Int32} {l3 : Int32} {c44_4 : Int32} {G_tx_sign : Int32 → Int32 → Int32 → (Nat → Int32) → Bool} {W_tx_sign : Int32 → Int32 → Int32 → (Nat → Int32) → Int32} {F0_tx_fail : Int32 → Int32 → Int32 → Int32 → Int32} {F1_tx_fail : Int32 → Int32 → Int32 → Int32 → Int32} : zseg X zFT (zEx 93 (P_tx_sign G_tx_sign W_tx_sign) (zEx 97 (P_tx_fail F0_tx_fail F1_tx_fail) zE0)) zc_98 (fun p => Nat.beq p 4) 400 4 [.ref 44, .int x, .int l2, .int l3] [] (ar, (zuf fi 44 4 c44_4), (m1, m2, m3, 1, m5)) = (
  bif decide (x < l3) then
   some (.inr (some (.int l2), (ar, (zuf fi 44 4 c44_4), (m1, m2, m3, 1, m5))))
  else
   zg (G_tx_sign (fi 44 2) c44_4 (fi 44 1) (ar 1)) (
   zl (W_tx_sign (fi 44 2) c44_4 (fi 44 1) (ar 1)) (fun v1 =>
   bif decide (v1 < 48) then
    bif !decide (l3 = 0) then
     some (.inr (some (.int l2), (ar, (zuf fi 44 4 c44_4), (m1, m2, m3, 1, m5))))
    else
     zl (F0_tx_fail 1 c44_4 (fi 44 2) (fi 44 3)) (fun v2 =>
     zl (F1_tx_fail 1 c44_4 (fi 44 2) (fi 44 3)) (fun v3 =>
     some (.inr (some (.int l2), (ar, (zuf (zuf (zuf fi 44 4 c44_4) 44 2 v2) 44 3 v3), (m1, m2, m3, 1, m5))))))
   else
    bif decide (v1 ≤ 57) then
     bif !decide (l3 = x) then
      some (.inl (4, [.ref 44, .int x, .int (((10 * l2) + v1) - 48), .int (l3 + 1)], [], (ar, (zuf (zuf fi 44 4 c44_4) 44 4 (c44_4 + 1)), (m1, m2, m3, 1, m5))))
     else
      zl (F0_tx_fail 2 c44_4 (fi 44 2) (fi 44 3)) (fun v4 =>
      zl (F1_tx_fail 2 c44_4 (fi 44 2) (fi 44 3)) (fun v5 =>
      some (.inr (some (.int l2), (ar, (zuf (zuf (zuf fi 44 4 c44_4) 44 2 v4) 44 3 v5), (m1, m2, m3, 1, m5))))))
    else
     bif !decide (l3 = 0) then
      some (.inr (some (.int l2), (ar, (zuf fi 44 4 c44_4), (m1, m2, m3, 1, m5))))
     else
      zl (F0_tx_fail 1 c44_4 (fi 44 2) (fi 44 3)) (fun v6 =>
      zl (F1_tx_fail 1 c44_4 (fi 44 2) (fi 44 3)) (fun v7 =>
      some (.inr (some (.int l2), (ar, (zuf (zuf (zuf fi 44 4 c44_4) 44 2 v6) 44 3 v7), (m1, m2, m3, 1, m5)))))))) : Option ((Nat × List Value × List Value × zH2) ⊕ zO2)) := by with_unfolding_all rfl
set_option maxRecDepth 20000 in
theorem k_tx_number_4_44 {X : Nat × (Nat → Int32)} {ar fi : Nat → Nat → Int32} {m1 m2 m3 m5 : Nat} {x : Int32} {o : zO2} : ∀ (s : U_tx_number_4) (q : U_tx_number_4 ⊕ T_tx_number), f_tx_number_4 x (ar 1) (fi 44 1) (fi 44 2) (fi 44 3) s = some q → zq (M_tx_number_4_44 X (zEx 93 S_tx_sign (zEx 97 S_tx_fail zE0)) ar fi m1 m2 m3 m5 x o) (fun t => O_tx_number_44 ar fi m1 m2 m3 m5 t = o) q → M_tx_number_4_44 X (zEx 93 S_tx_sign (zEx 97 S_tx_fail zE0)) ar fi m1 m2 m3 m5 x o s := by
  intro s q h hq
  obtain ⟨l2, l3, c44_4⟩ := s
  have h : b_tx_number_4 x (ar 1) (fi 44 1) (fi 44 2) (fi 44 3) l2 l3 c44_4 = some q := h
  unfold b_tx_number_4 at h
  show zR2 X zFT (zEx 93 S_tx_sign (zEx 97 S_tx_fail zE0)) zc_98 4 [.ref 44, .int x, .int l2, .int l3] [] (ar, (zuf fi 44 4 c44_4), (m1, m2, m3, 1, m5)) o
  refine zT_seg t4_tx_number_44 ?_
  obtain ⟨TT, hTT⟩ : ∃ T, T = zT X zFT (zEx 93 S_tx_sign (zEx 97 S_tx_fail zE0)) zc_98 o := ⟨_, rfl⟩
  rw [← hTT]
  refine zb_el h (fun hb h => zU_t hTT hb ?_) (fun hb h => zU_f hTT hb ?_)
  · rw [hTT]
    have hz := zsi h hq
    refine (zO_mk ?_ ?_).trans hz
    · first | with_reducible rfl | rfl
    · first | with_reducible rfl | exact hF4_tx_number _ _
  · refine zg_el h (fun hg h => zU_g hTT hg ?_)
    refine zl_el h (fun h => zU_l hTT ?_)
    refine zb_el h (fun hb h => zU_t hTT hb ?_) (fun hb h => zU_f hTT hb ?_)
    · refine zb_el h (fun hb h => zU_t hTT hb ?_) (fun hb h => zU_f hTT hb ?_)
      · rw [hTT]
        have hz := zsi h hq
        refine (zO_mk ?_ ?_).trans hz
        · first | with_reducible rfl | rfl
        · first | with_reducible rfl | exact hF4_tx_number _ _
      · refine zl_el h (fun h => zU_l hTT ?_)
        refine zl_el h (fun h => zU_l hTT ?_)
        rw [hTT]
        have hz := zsi h hq
        refine (zO_mk ?_ ?_).trans hz
        · first | with_reducible rfl | rfl
        · first | with_reducible rfl | exact hF5_tx_number _ _ _ _
    · refine zb_el h (fun hb h => zU_t hTT hb ?_) (fun hb h => zU_f hTT hb ?_)
      · refine zb_el h (fun hb h => zU_t hTT hb ?_) (fun hb h => zU_f hTT hb ?_)
        · rw [hTT]
          have hz := zsi h hq
          refine zR2_hp ?_ ?_ hz
          · first | with_reducible rfl | rfl
          · first | with_reducible rfl | exact hF6_tx_number _ _ _
        · refine zl_el h (fun h => zU_l hTT ?_)
          refine zl_el h (fun h => zU_l hTT ?_)
          rw [hTT]
          have hz := zsi h hq
          refine (zO_mk ?_ ?_).trans hz
          · first | with_reducible rfl | rfl
          · first | with_reducible rfl | exact hF5_tx_number _ _ _ _
      · refine zb_el h (fun hb h => zU_t hTT hb ?_) (fun hb h => zU_f hTT hb ?_)
        · rw [hTT]
          have hz := zsi h hq
          refine (zO_mk ?_ ?_).trans hz
          · first | with_reducible rfl | rfl
          · first | with_reducible rfl | exact hF4_tx_number _ _
        · refine zl_el h (fun h => zU_l hTT ?_)
          refine zl_el h (fun h => zU_l hTT ?_)
          rw [hTT]
          have hz := zsi h hq
          refine (zO_mk ?_ ?_).trans hz
          · first | with_reducible rfl | rfl
          · first | with_reducible rfl | exact hF5_tx_number _ _ _ _
set_option maxRecDepth 1000000 in
theorem t_tx_number_44 {X : Nat × (Nat → Int32)} {ar fi : Nat → Nat → Int32} {m1 m2 m3 m5 : Nat} {x : Int32} {G_tx_sign : Int32 → Int32 → Int32 → (Nat → Int32) → Bool} {W_tx_sign : Int32 → Int32 → Int32 → (Nat → Int32) → Int32} {F0_tx_fail : Int32 → Int32 → Int32 → Int32 → Int32} {F1_tx_fail : Int32 → Int32 → Int32 → Int32 → Int32} : zseg X zFT (zEx 93 (P_tx_sign G_tx_sign W_tx_sign) (zEx 97 (P_tx_fail F0_tx_fail F1_tx_fail) zE0)) zc_98 (fun p => Nat.beq p 4) 400 0 [.ref 44, .int x] [] (ar, fi, (m1, m2, m3, 1, m5)) = (
  some (.inl (4, [.ref 44, .int x, .int 0, .int 0], [], (ar, fi, (m1, m2, m3, 1, m5)))) : Option ((Nat × List Value × List Value × zH2) ⊕ zO2)) := by with_unfolding_all rfl
set_option maxRecDepth 20000 in
theorem e_tx_number_44 {X : Nat × (Nat → Int32)} {ar fi : Nat → Nat → Int32} {m1 m2 m3 m5 : Nat} {x : Int32} {o : zO2} : ∀ (q : T_tx_number), q_tx_number x (ar 1) (fi 44 1) (fi 44 2) (fi 44 3) (fi 44 4) = some q → (fun t => O_tx_number_44 ar fi m1 m2 m3 m5 t = o) q → zR2 X zFT (zEx 93 S_tx_sign (zEx 97 S_tx_fail zE0)) zc_98 0 [.ref 44, .int x] [] (ar, fi, (m1, m2, m3, 1, m5)) o := by
  intro q h hq
  unfold q_tx_number at h
  refine zT_seg t_tx_number_44 ?_
  obtain ⟨TT, hTT⟩ : ∃ T, T = zT X zFT (zEx 93 S_tx_sign (zEx 97 S_tx_fail zE0)) zc_98 o := ⟨_, rfl⟩
  rw [← hTT]
  rw [hTT]
  refine zR2_hp ?_ ?_ (zlp_K k_tx_number_4_44 h hq)
  · first | with_reducible rfl | rfl
  · first | with_reducible rfl | exact hF7_tx_number _
def O_tx_number_47 (ar fi : Nat → Nat → Int32) (m1 : Nat) (m2 : Nat) (m3 : Nat) (m4 : Nat) (t : T_tx_number) : zO2 := match t with
  | (t0, t1, t2, t3) => (some (.int (t0)), (ar, (zuf (zuf (zuf fi 47 2 t1) 47 3 t2) 47 4 t3), (m1, m2, m3, m4, 1)))
def M_tx_number_4_47 (X : Nat × (Nat → Int32)) (E : zTE) (ar fi : Nat → Nat → Int32) (m1 : Nat) (m2 : Nat) (m3 : Nat) (m4 : Nat) (x : Int32) (o : zO2) (s : U_tx_number_4) : Prop := match s with
  | (l2, l3, c47_4) => zR2 X zFT E zc_98 4 [.ref 47, .int x, .int l2, .int l3] [] (ar, (zuf fi 47 4 c47_4), (m1, m2, m3, m4, 1)) o
set_option maxRecDepth 1000000 in
theorem t4_tx_number_47 {X : Nat × (Nat → Int32)} {ar fi : Nat → Nat → Int32} {m1 m2 m3 m4 : Nat} {x : Int32} {l2 : Int32} {l3 : Int32} {c47_4 : Int32} {G_tx_sign : Int32 → Int32 → Int32 → (Nat → Int32) → Bool} {W_tx_sign : Int32 → Int32 → Int32 → (Nat → Int32) → Int32} {F0_tx_fail : Int32 → Int32 → Int32 → Int32 → Int32} {F1_tx_fail : Int32 → Int32 → Int32 → Int32 → Int32} : zseg X zFT (zEx 93 (P_tx_sign G_tx_sign W_tx_sign) (zEx 97 (P_tx_fail F0_tx_fail F1_tx_fail) zE0)) zc_98 (fun p => Nat.beq p 4) 400 4 [.ref 47, .int x, .int l2, .int l3] [] (ar, (zuf fi 47 4 c47_4), (m1, m2, m3, m4, 1)) = (
  bif decide (x < l3) then
   some (.inr (some (.int l2), (ar, (zuf fi 47 4 c47_4), (m1, m2, m3, m4, 1))))
  else
   zg (G_tx_sign (fi 47 2) c47_4 (fi 47 1) (ar 1)) (
   zl (W_tx_sign (fi 47 2) c47_4 (fi 47 1) (ar 1)) (fun v1 =>
   bif decide (v1 < 48) then
    bif !decide (l3 = 0) then
     some (.inr (some (.int l2), (ar, (zuf fi 47 4 c47_4), (m1, m2, m3, m4, 1))))
    else
     zl (F0_tx_fail 1 c47_4 (fi 47 2) (fi 47 3)) (fun v2 =>
     zl (F1_tx_fail 1 c47_4 (fi 47 2) (fi 47 3)) (fun v3 =>
     some (.inr (some (.int l2), (ar, (zuf (zuf (zuf fi 47 4 c47_4) 47 2 v2) 47 3 v3), (m1, m2, m3, m4, 1))))))
   else
    bif decide (v1 ≤ 57) then
     bif !decide (l3 = x) then
      some (.inl (4, [.ref 47, .int x, .int (((10 * l2) + v1) - 48), .int (l3 + 1)], [], (ar, (zuf (zuf fi 47 4 c47_4) 47 4 (c47_4 + 1)), (m1, m2, m3, m4, 1))))
     else
      zl (F0_tx_fail 2 c47_4 (fi 47 2) (fi 47 3)) (fun v4 =>
      zl (F1_tx_fail 2 c47_4 (fi 47 2) (fi 47 3)) (fun v5 =>
      some (.inr (some (.int l2), (ar, (zuf (zuf (zuf fi 47 4 c47_4) 47 2 v4) 47 3 v5), (m1, m2, m3, m4, 1))))))
    else
     bif !decide (l3 = 0) then
      some (.inr (some (.int l2), (ar, (zuf fi 47 4 c47_4), (m1, m2, m3, m4, 1))))
     else
      zl (F0_tx_fail 1 c47_4 (fi 47 2) (fi 47 3)) (fun v6 =>
      zl (F1_tx_fail 1 c47_4 (fi 47 2) (fi 47 3)) (fun v7 =>
      some (.inr (some (.int l2), (ar, (zuf (zuf (zuf fi 47 4 c47_4) 47 2 v6) 47 3 v7), (m1, m2, m3, m4, 1)))))))) : Option ((Nat × List Value × List Value × zH2) ⊕ zO2)) := by with_unfolding_all rfl
set_option maxRecDepth 20000 in
theorem k_tx_number_4_47 {X : Nat × (Nat → Int32)} {ar fi : Nat → Nat → Int32} {m1 m2 m3 m4 : Nat} {x : Int32} {o : zO2} : ∀ (s : U_tx_number_4) (q : U_tx_number_4 ⊕ T_tx_number), f_tx_number_4 x (ar 1) (fi 47 1) (fi 47 2) (fi 47 3) s = some q → zq (M_tx_number_4_47 X (zEx 93 S_tx_sign (zEx 97 S_tx_fail zE0)) ar fi m1 m2 m3 m4 x o) (fun t => O_tx_number_47 ar fi m1 m2 m3 m4 t = o) q → M_tx_number_4_47 X (zEx 93 S_tx_sign (zEx 97 S_tx_fail zE0)) ar fi m1 m2 m3 m4 x o s := by
  intro s q h hq
  obtain ⟨l2, l3, c47_4⟩ := s
  have h : b_tx_number_4 x (ar 1) (fi 47 1) (fi 47 2) (fi 47 3) l2 l3 c47_4 = some q := h
  unfold b_tx_number_4 at h
  show zR2 X zFT (zEx 93 S_tx_sign (zEx 97 S_tx_fail zE0)) zc_98 4 [.ref 47, .int x, .int l2, .int l3] [] (ar, (zuf fi 47 4 c47_4), (m1, m2, m3, m4, 1)) o
  refine zT_seg t4_tx_number_47 ?_
  obtain ⟨TT, hTT⟩ : ∃ T, T = zT X zFT (zEx 93 S_tx_sign (zEx 97 S_tx_fail zE0)) zc_98 o := ⟨_, rfl⟩
  rw [← hTT]
  refine zb_el h (fun hb h => zU_t hTT hb ?_) (fun hb h => zU_f hTT hb ?_)
  · rw [hTT]
    have hz := zsi h hq
    refine (zO_mk ?_ ?_).trans hz
    · first | with_reducible rfl | rfl
    · first | with_reducible rfl | exact hF8_tx_number _ _
  · refine zg_el h (fun hg h => zU_g hTT hg ?_)
    refine zl_el h (fun h => zU_l hTT ?_)
    refine zb_el h (fun hb h => zU_t hTT hb ?_) (fun hb h => zU_f hTT hb ?_)
    · refine zb_el h (fun hb h => zU_t hTT hb ?_) (fun hb h => zU_f hTT hb ?_)
      · rw [hTT]
        have hz := zsi h hq
        refine (zO_mk ?_ ?_).trans hz
        · first | with_reducible rfl | rfl
        · first | with_reducible rfl | exact hF8_tx_number _ _
      · refine zl_el h (fun h => zU_l hTT ?_)
        refine zl_el h (fun h => zU_l hTT ?_)
        rw [hTT]
        have hz := zsi h hq
        refine (zO_mk ?_ ?_).trans hz
        · first | with_reducible rfl | rfl
        · first | with_reducible rfl | exact hF9_tx_number _ _ _ _
    · refine zb_el h (fun hb h => zU_t hTT hb ?_) (fun hb h => zU_f hTT hb ?_)
      · refine zb_el h (fun hb h => zU_t hTT hb ?_) (fun hb h => zU_f hTT hb ?_)
        · rw [hTT]
          have hz := zsi h hq
          refine zR2_hp ?_ ?_ hz
          · first | with_reducible rfl | rfl
          · first | with_reducible rfl | exact hF10_tx_number _ _ _
        · refine zl_el h (fun h => zU_l hTT ?_)
          refine zl_el h (fun h => zU_l hTT ?_)
          rw [hTT]
          have hz := zsi h hq
          refine (zO_mk ?_ ?_).trans hz
          · first | with_reducible rfl | rfl
          · first | with_reducible rfl | exact hF9_tx_number _ _ _ _
      · refine zb_el h (fun hb h => zU_t hTT hb ?_) (fun hb h => zU_f hTT hb ?_)
        · rw [hTT]
          have hz := zsi h hq
          refine (zO_mk ?_ ?_).trans hz
          · first | with_reducible rfl | rfl
          · first | with_reducible rfl | exact hF8_tx_number _ _
        · refine zl_el h (fun h => zU_l hTT ?_)
          refine zl_el h (fun h => zU_l hTT ?_)
          rw [hTT]
          have hz := zsi h hq
          refine (zO_mk ?_ ?_).trans hz
          · first | with_reducible rfl | rfl
          · first | with_reducible rfl | exact hF9_tx_number _ _ _ _
set_option maxRecDepth 1000000 in
theorem t_tx_number_47 {X : Nat × (Nat → Int32)} {ar fi : Nat → Nat → Int32} {m1 m2 m3 m4 : Nat} {x : Int32} {G_tx_sign : Int32 → Int32 → Int32 → (Nat → Int32) → Bool} {W_tx_sign : Int32 → Int32 → Int32 → (Nat → Int32) → Int32} {F0_tx_fail : Int32 → Int32 → Int32 → Int32 → Int32} {F1_tx_fail : Int32 → Int32 → Int32 → Int32 → Int32} : zseg X zFT (zEx 93 (P_tx_sign G_tx_sign W_tx_sign) (zEx 97 (P_tx_fail F0_tx_fail F1_tx_fail) zE0)) zc_98 (fun p => Nat.beq p 4) 400 0 [.ref 47, .int x] [] (ar, fi, (m1, m2, m3, m4, 1)) = (
  some (.inl (4, [.ref 47, .int x, .int 0, .int 0], [], (ar, fi, (m1, m2, m3, m4, 1)))) : Option ((Nat × List Value × List Value × zH2) ⊕ zO2)) := by with_unfolding_all rfl
set_option maxRecDepth 20000 in
theorem e_tx_number_47 {X : Nat × (Nat → Int32)} {ar fi : Nat → Nat → Int32} {m1 m2 m3 m4 : Nat} {x : Int32} {o : zO2} : ∀ (q : T_tx_number), q_tx_number x (ar 1) (fi 47 1) (fi 47 2) (fi 47 3) (fi 47 4) = some q → (fun t => O_tx_number_47 ar fi m1 m2 m3 m4 t = o) q → zR2 X zFT (zEx 93 S_tx_sign (zEx 97 S_tx_fail zE0)) zc_98 0 [.ref 47, .int x] [] (ar, fi, (m1, m2, m3, m4, 1)) o := by
  intro q h hq
  unfold q_tx_number at h
  refine zT_seg t_tx_number_47 ?_
  obtain ⟨TT, hTT⟩ : ∃ T, T = zT X zFT (zEx 93 S_tx_sign (zEx 97 S_tx_fail zE0)) zc_98 o := ⟨_, rfl⟩
  rw [← hTT]
  rw [hTT]
  refine zR2_hp ?_ ?_ (zlp_K k_tx_number_4_47 h hq)
  · first | with_reducible rfl | rfl
  · first | with_reducible rfl | exact hF11_tx_number _
theorem ok_tx_number (X : Nat × (Nat → Int32)) : zOkS X 98 S_tx_number 2 := zOkS_new (zOkE_cons (ok_tx_sign X) (by decide) (zOkE_cons (ok_tx_fail X) (by decide) (zOkE_nil X 1))) (by
  intro args g o h
  obtain ⟨ar, fi, m1, m2, m3, m4, m5⟩ := g
  unfold S_tx_number P_tx_number at h
  split at h
  · refine zb_el h (fun hI0 k0 => ?_) (fun _ h10 => ?_)
    · try simp only [Bool.and_eq_true] at hI0
      obtain ⟨j0, j1⟩ := hI0
      have e0 := Nat.eq_of_beq_eq_true j0
      subst e0
      have e9 : m3 = 1 := Nat.eq_of_beq_eq_true j1
      subst e9
      exact zpe_el k0 (fun t ht ho => by obtain ⟨t0, t1, t2, t3⟩ := t; exact e_tx_number_40 _ ht ho)
    · skip
      refine zb_el h10 (fun hI1 k1 => ?_) (fun _ h11 => ?_)
      · try simp only [Bool.and_eq_true] at hI1
        obtain ⟨j0, j1⟩ := hI1
        have e0 := Nat.eq_of_beq_eq_true j0
        subst e0
        have e9 : m4 = 1 := Nat.eq_of_beq_eq_true j1
        subst e9
        exact zpe_el k1 (fun t ht ho => by obtain ⟨t0, t1, t2, t3⟩ := t; exact e_tx_number_44 _ ht ho)
      · skip
        refine zb_el h11 (fun hI2 k2 => ?_) (fun _ h12 => ?_)
        · try simp only [Bool.and_eq_true] at hI2
          obtain ⟨j0, j1⟩ := hI2
          have e0 := Nat.eq_of_beq_eq_true j0
          subst e0
          have e9 : m5 = 1 := Nat.eq_of_beq_eq_true j1
          subst e9
          exact zpe_el k2 (fun t ht ho => by obtain ⟨t0, t1, t2, t3⟩ := t; exact e_tx_number_47 _ ht ho)
        · cases h12
  · cases h)
