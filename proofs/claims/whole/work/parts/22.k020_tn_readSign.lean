abbrev T_tn_readSign : Type := Int32 × (Nat → Int32) × Int32 × Int32 × Int32
abbrev U_tn_readSign_104 : Type := Int32 × (Nat → Int32)
def b_tn_readSign_104 (x : Int32) (y : Int32) (f44_2 : Int32) (f44_3 : Int32) (l4 : Int32) (l5 : Int32) (c44_4 : Int32) (l6 : Int32) (b43 : Nat → Int32) : Option (U_tn_readSign_104 ⊕ T_tn_readSign) :=
  bif decide (l4 ≤ l6) then
   some (.inr (x + l4, b43, f44_2, f44_3, c44_4))
  else
   zg (g_tn_put (x + l6) y l5 b43) (
   zl (a0_tn_put (x + l6) y l5 b43) (fun v18 =>
   some (.inl (l6 + 1, v18))))
def f_tn_readSign_104 (x : Int32) (y : Int32) (f44_2 : Int32) (f44_3 : Int32) (l4 : Int32) (l5 : Int32) (c44_4 : Int32) : U_tn_readSign_104 → Option (U_tn_readSign_104 ⊕ T_tn_readSign) := fun s => b_tn_readSign_104 x y f44_2 f44_3 l4 l5 c44_4 s.1 s.2
noncomputable def l_tn_readSign_104 (x : Int32) (y : Int32) (f44_2 : Int32) (f44_3 : Int32) (l4 : Int32) (l5 : Int32) (c44_4 : Int32) (l6 : Int32) (b43 : Nat → Int32) : Option T_tn_readSign := zlp (f_tn_readSign_104 x y f44_2 f44_3 l4 l5 c44_4) (l6, b43)
noncomputable def q_tn_readSign (x : Int32) (y : Int32) (a1 : Nat → Int32) (a43 : Nat → Int32) (f44_1 : Int32) (f44_2 : Int32) (f44_3 : Int32) (f44_4 : Int32) : Option T_tn_readSign :=
  zg (g_tn_isCount (f44_2) (f44_4) (f44_1) a1) (
  zl (w_tn_isCount (f44_2) (f44_4) (f44_1) a1) (fun v1 =>
  bif decide (v1 = 0) then
   zg (g_tx_sign (f44_2) (f44_4) (f44_1) a1) (
   zl (w_tx_sign (f44_2) (f44_4) (f44_1) a1) (fun v2 =>
   zl (w_tn_kindOf v2) (fun v3 =>
   bif decide (0 ≤ v3) then
    bif decide (x + 1 ≤ 12) then
     zl (f0_tx_skip (f44_4)) (fun v4 =>
     l_tn_readSign_104 x y f44_2 f44_3 1 v3 v4 0 a43)
    else
     zl (f0_tx_fail 6 (f44_4) (f44_2) (f44_3)) (fun v5 =>
     zl (f1_tx_fail 6 (f44_4) (f44_2) (f44_3)) (fun v6 =>
     some (x + 1, a43, v5, v6, f44_4)))
   else
    zl (f0_tx_fail 1 (f44_4) (f44_2) (f44_3)) (fun v7 =>
    zl (f1_tx_fail 1 (f44_4) (f44_2) (f44_3)) (fun v8 =>
    some (x + 1, a43, v7, v8, f44_4))))))
  else
   zg (g_tx_sign (f44_2) (f44_4) (f44_1) a1) (
   zl (w_tx_sign (f44_2) (f44_4) (f44_1) a1) (fun v9 =>
   zl (f0_tx_skip (f44_4)) (fun v10 =>
   zg (g_tx_sign (f44_2) v10 (f44_1) a1) (
   zl (w_tx_sign (f44_2) v10 (f44_1) a1) (fun v11 =>
   zl (w_tn_kindOf v11) (fun v12 =>
   bif decide (0 ≤ v12) then
    bif decide (x + (v9 - 48) ≤ 12) then
     zl (f0_tx_skip v10) (fun v13 =>
     l_tn_readSign_104 x y f44_2 f44_3 (v9 - 48) v12 v13 0 a43)
    else
     zl (f0_tx_fail 6 (f44_4) (f44_2) (f44_3)) (fun v14 =>
     zl (f1_tx_fail 6 (f44_4) (f44_2) (f44_3)) (fun v15 =>
     some (x + (v9 - 48), a43, v14, v15, v10)))
   else
    zl (f0_tx_fail 1 v10 (f44_2) (f44_3)) (fun v16 =>
    zl (f1_tx_fail 1 v10 (f44_2) (f44_3)) (fun v17 =>
    some (x + (v9 - 48), a43, v16, v17, v10)))))))))))
def P_tn_readSign (Q : Int32 → Int32 → (Nat → Int32) → (Nat → Int32) → Int32 → Int32 → Int32 → Int32 → Option (Int32 × (Nat → Int32) × Int32 × Int32 × Int32)) : zSp := fun as g => match as with
  | [.ref a, .int x, .int y] => bif Nat.beq a 42 && Nat.beq g.2.2.2.2.2.1 1 then zpe (Q x y (g.1 1) (g.1 43) (g.2.1 44 1) (g.2.1 44 2) (g.2.1 44 3) (g.2.1 44 4)) (fun t => (some (.int (t.1)), ((zua g.1 43 t.2.1), (zuf (zuf (zuf g.2.1 44 2 t.2.2.1) 44 3 t.2.2.2.1) 44 4 t.2.2.2.2), g.2.2))) else none
  | _ => none
noncomputable abbrev S_tn_readSign : zSp := P_tn_readSign q_tn_readSign
theorem hF7_tn_readSign (F : Nat → Nat → Int32) (w0 w1 w2 : Int32) : (zuf (zuf (zuf F 44 4 w0) 44 2 w1) 44 3 w2) = (zuf (zuf (zuf F 44 2 w1) 44 3 w2) 44 4 w0) := zufk_ix F [((44, 4), w0), ((44, 2), w1), ((44, 3), w2)] [((44, 2), some 1), ((44, 3), some 2), ((44, 4), some 0)] rfl
theorem hF6_tn_readSign (F : Nat → Nat → Int32) (w0 w1 : Int32) : (zuf (zuf F 44 4 w0) 44 4 w1) = (zuf F 44 4 w1) := zufk_ix F [((44, 4), w0), ((44, 4), w1)] [((44, 4), some 1)] rfl
theorem hF5_tn_readSign (F : Nat → Nat → Int32) (w0 w1 : Int32) : (zuf (zuf F 44 2 w0) 44 3 w1) = (zuf (zuf (zuf F 44 2 w0) 44 3 w1) 44 4 (F 44 4)) := zufk_ix F [((44, 2), w0), ((44, 3), w1)] [((44, 2), some 0), ((44, 3), some 1), ((44, 4), none)] rfl
theorem hA4_tn_readSign (F : Nat → Nat → Int32) : F = (zua F 43 (F 43)) := zuak_ix F [] [(43, none)] rfl
theorem hF3_tn_readSign (F : Nat → Nat → Int32) (w0 : Int32) : (zuf F 44 4 w0) = (zuf F 44 4 w0) := zufk_ix F [((44, 4), w0)] [((44, 4), some 0)] rfl
theorem hA2_tn_readSign (F : Nat → Nat → Int32) (w0 w1 : Nat → Int32) : (zua (zua F 43 w0) 43 w1) = (zua F 43 w1) := zuak_ix F [(43, w0), (43, w1)] [(43, some 1)] rfl
theorem hF1_tn_readSign (F : Nat → Nat → Int32) (w0 : Int32) : (zuf F 44 4 w0) = (zuf (zuf (zuf F 44 2 (F 44 2)) 44 3 (F 44 3)) 44 4 w0) := zufk_ix F [((44, 4), w0)] [((44, 2), none), ((44, 3), none), ((44, 4), some 0)] rfl
theorem hA0_tn_readSign (F : Nat → Nat → Int32) (w0 : Nat → Int32) : (zua F 43 w0) = (zua F 43 w0) := zuak_ix F [(43, w0)] [(43, some 0)] rfl
def O_tn_readSign (ar fi : Nat → Nat → Int32) (m1 : Nat) (m2 : Nat) (m3 : Nat) (m5 : Nat) (t : T_tn_readSign) : zO2 := match t with
  | (t0, t1, t2, t3, t4) => (some (.int (t0)), ((zua ar 43 t1), (zuf (zuf (zuf fi 44 2 t2) 44 3 t3) 44 4 t4), (m1, m2, m3, 1, m5)))
def M_tn_readSign_104 (X : Nat × (Nat → Int32)) (E : zTE) (ar fi : Nat → Nat → Int32) (m1 : Nat) (m2 : Nat) (m3 : Nat) (m5 : Nat) (x : Int32) (y : Int32) (l3 : Int32) (l4 : Int32) (l5 : Int32) (c44_4 : Int32) (o : zO2) (s : U_tn_readSign_104) : Prop := match s with
  | (l6, b43) => zR2 X zFT E zc_105 104 [.ref 42, .int x, .int y, .int l3, .int l4, .int l5, .int l6] [] ((zua ar 43 b43), (zuf fi 44 4 c44_4), (m1, m2, m3, 1, m5)) o
set_option maxRecDepth 1000000 in
theorem t104_tn_readSign {X : Nat × (Nat → Int32)} {ar fi : Nat → Nat → Int32} {m1 m2 m3 m5 : Nat} {x y : Int32} {l3 : Int32} {l4 : Int32} {l5 : Int32} {l6 : Int32} {b43 : Nat → Int32} {c44_4 : Int32} {G_tn_isCount : Int32 → Int32 → Int32 → (Nat → Int32) → Bool} {W_tn_isCount : Int32 → Int32 → Int32 → (Nat → Int32) → Int32} {G_tx_sign : Int32 → Int32 → Int32 → (Nat → Int32) → Bool} {W_tx_sign : Int32 → Int32 → Int32 → (Nat → Int32) → Int32} {F0_tx_skip : Int32 → Int32} {W_tn_kindOf : Int32 → Int32} {F0_tx_fail : Int32 → Int32 → Int32 → Int32 → Int32} {F1_tx_fail : Int32 → Int32 → Int32 → Int32 → Int32} {G_tn_put : Int32 → Int32 → Int32 → (Nat → Int32) → Bool} {A0_tn_put : Int32 → Int32 → Int32 → (Nat → Int32) → Nat → Int32} : zseg X zFT (zEx 104 (P_tn_isCount G_tn_isCount W_tn_isCount) (zEx 93 (P_tx_sign G_tx_sign W_tx_sign) (zEx 95 (P_tx_skip F0_tx_skip) (zEx 107 (P_tn_kindOf W_tn_kindOf) (zEx 97 (P_tx_fail F0_tx_fail F1_tx_fail) (zEx 106 (P_tn_put G_tn_put A0_tn_put) zE0)))))) zc_105 (fun p => Nat.beq p 104) 400 104 [.ref 42, .int x, .int y, .int l3, .int l4, .int l5, .int l6] [] ((zua ar 43 b43), (zuf fi 44 4 c44_4), (m1, m2, m3, 1, m5)) = (
  bif decide (l4 ≤ l6) then
   some (.inr (some (.int (x + l4)), ((zua ar 43 b43), (zuf fi 44 4 c44_4), (m1, m2, m3, 1, m5))))
  else
   zg (G_tn_put (x + l6) y l5 b43) (
   zl (A0_tn_put (x + l6) y l5 b43) (fun v18 =>
   some (.inl (104, [.ref 42, .int x, .int y, .int l3, .int l4, .int l5, .int (l6 + 1)], [], ((zua (zua ar 43 b43) 43 v18), (zuf fi 44 4 c44_4), (m1, m2, m3, 1, m5)))))) : Option ((Nat × List Value × List Value × zH2) ⊕ zO2)) := by with_unfolding_all rfl
set_option maxRecDepth 20000 in
theorem k_tn_readSign_104 {X : Nat × (Nat → Int32)} {ar fi : Nat → Nat → Int32} {m1 m2 m3 m5 : Nat} {x y : Int32} {l3 : Int32} {l4 : Int32} {l5 : Int32} {c44_4 : Int32} {o : zO2} : ∀ (s : U_tn_readSign_104) (q : U_tn_readSign_104 ⊕ T_tn_readSign), f_tn_readSign_104 x y (fi 44 2) (fi 44 3) l4 l5 c44_4 s = some q → zq (M_tn_readSign_104 X (zEx 104 S_tn_isCount (zEx 93 S_tx_sign (zEx 95 S_tx_skip (zEx 107 S_tn_kindOf (zEx 97 S_tx_fail (zEx 106 S_tn_put zE0)))))) ar fi m1 m2 m3 m5 x y l3 l4 l5 c44_4 o) (fun t => O_tn_readSign ar fi m1 m2 m3 m5 t = o) q → M_tn_readSign_104 X (zEx 104 S_tn_isCount (zEx 93 S_tx_sign (zEx 95 S_tx_skip (zEx 107 S_tn_kindOf (zEx 97 S_tx_fail (zEx 106 S_tn_put zE0)))))) ar fi m1 m2 m3 m5 x y l3 l4 l5 c44_4 o s := by
  intro s q h hq
  obtain ⟨l6, b43⟩ := s
  have h : b_tn_readSign_104 x y (fi 44 2) (fi 44 3) l4 l5 c44_4 l6 b43 = some q := h
  unfold b_tn_readSign_104 at h
  show zR2 X zFT (zEx 104 S_tn_isCount (zEx 93 S_tx_sign (zEx 95 S_tx_skip (zEx 107 S_tn_kindOf (zEx 97 S_tx_fail (zEx 106 S_tn_put zE0)))))) zc_105 104 [.ref 42, .int x, .int y, .int l3, .int l4, .int l5, .int l6] [] ((zua ar 43 b43), (zuf fi 44 4 c44_4), (m1, m2, m3, 1, m5)) o
  refine zT_seg t104_tn_readSign ?_
  obtain ⟨TT, hTT⟩ : ∃ T, T = zT X zFT (zEx 104 S_tn_isCount (zEx 93 S_tx_sign (zEx 95 S_tx_skip (zEx 107 S_tn_kindOf (zEx 97 S_tx_fail (zEx 106 S_tn_put zE0)))))) zc_105 o := ⟨_, rfl⟩
  rw [← hTT]
  refine zb_el h (fun hb h => zU_t hTT hb ?_) (fun hb h => zU_f hTT hb ?_)
  · rw [hTT]
    have hz := zsi h hq
    refine (zO_mk ?_ ?_).trans hz
    · first | with_reducible rfl | exact hA0_tn_readSign _ _
    · first | with_reducible rfl | exact hF1_tn_readSign _ _
  · refine zg_el h (fun hg h => zU_g hTT hg ?_)
    refine zl_el h (fun h => zU_l hTT ?_)
    rw [hTT]
    have hz := zsi h hq
    refine zR2_hp ?_ ?_ hz
    · first | with_reducible rfl | exact hA2_tn_readSign _ _ _
    · first | with_reducible rfl | exact hF3_tn_readSign _ _
set_option maxRecDepth 1000000 in
theorem t_tn_readSign {X : Nat × (Nat → Int32)} {ar fi : Nat → Nat → Int32} {m1 m2 m3 m5 : Nat} {x y : Int32} {G_tn_isCount : Int32 → Int32 → Int32 → (Nat → Int32) → Bool} {W_tn_isCount : Int32 → Int32 → Int32 → (Nat → Int32) → Int32} {G_tx_sign : Int32 → Int32 → Int32 → (Nat → Int32) → Bool} {W_tx_sign : Int32 → Int32 → Int32 → (Nat → Int32) → Int32} {F0_tx_skip : Int32 → Int32} {W_tn_kindOf : Int32 → Int32} {F0_tx_fail : Int32 → Int32 → Int32 → Int32 → Int32} {F1_tx_fail : Int32 → Int32 → Int32 → Int32 → Int32} {G_tn_put : Int32 → Int32 → Int32 → (Nat → Int32) → Bool} {A0_tn_put : Int32 → Int32 → Int32 → (Nat → Int32) → Nat → Int32} : zseg X zFT (zEx 104 (P_tn_isCount G_tn_isCount W_tn_isCount) (zEx 93 (P_tx_sign G_tx_sign W_tx_sign) (zEx 95 (P_tx_skip F0_tx_skip) (zEx 107 (P_tn_kindOf W_tn_kindOf) (zEx 97 (P_tx_fail F0_tx_fail F1_tx_fail) (zEx 106 (P_tn_put G_tn_put A0_tn_put) zE0)))))) zc_105 (fun p => Nat.beq p 104) 400 0 [.ref 42, .int x, .int y] [] (ar, fi, (m1, m2, m3, 1, m5)) = (
  zg (G_tn_isCount (fi 44 2) (fi 44 4) (fi 44 1) (ar 1)) (
  zl (W_tn_isCount (fi 44 2) (fi 44 4) (fi 44 1) (ar 1)) (fun v1 =>
  bif decide (v1 = 0) then
   zg (G_tx_sign (fi 44 2) (fi 44 4) (fi 44 1) (ar 1)) (
   zl (W_tx_sign (fi 44 2) (fi 44 4) (fi 44 1) (ar 1)) (fun v2 =>
   zl (W_tn_kindOf v2) (fun v3 =>
   bif decide (0 ≤ v3) then
    bif decide (x + 1 ≤ 12) then
     zl (F0_tx_skip (fi 44 4)) (fun v4 =>
     some (.inl (104, [.ref 42, .int x, .int y, .int (fi 44 4), .int 1, .int v3, .int 0], [], (ar, (zuf fi 44 4 v4), (m1, m2, m3, 1, m5)))))
    else
     zl (F0_tx_fail 6 (fi 44 4) (fi 44 2) (fi 44 3)) (fun v5 =>
     zl (F1_tx_fail 6 (fi 44 4) (fi 44 2) (fi 44 3)) (fun v6 =>
     some (.inr (some (.int (x + 1)), (ar, (zuf (zuf fi 44 2 v5) 44 3 v6), (m1, m2, m3, 1, m5))))))
   else
    zl (F0_tx_fail 1 (fi 44 4) (fi 44 2) (fi 44 3)) (fun v7 =>
    zl (F1_tx_fail 1 (fi 44 4) (fi 44 2) (fi 44 3)) (fun v8 =>
    some (.inr (some (.int (x + 1)), (ar, (zuf (zuf fi 44 2 v7) 44 3 v8), (m1, m2, m3, 1, m5)))))))))
  else
   zg (G_tx_sign (fi 44 2) (fi 44 4) (fi 44 1) (ar 1)) (
   zl (W_tx_sign (fi 44 2) (fi 44 4) (fi 44 1) (ar 1)) (fun v9 =>
   zl (F0_tx_skip (fi 44 4)) (fun v10 =>
   zg (G_tx_sign (fi 44 2) v10 (fi 44 1) (ar 1)) (
   zl (W_tx_sign (fi 44 2) v10 (fi 44 1) (ar 1)) (fun v11 =>
   zl (W_tn_kindOf v11) (fun v12 =>
   bif decide (0 ≤ v12) then
    bif decide (x + (v9 - 48) ≤ 12) then
     zl (F0_tx_skip v10) (fun v13 =>
     some (.inl (104, [.ref 42, .int x, .int y, .int (fi 44 4), .int (v9 - 48), .int v12, .int 0], [], (ar, (zuf (zuf fi 44 4 v10) 44 4 v13), (m1, m2, m3, 1, m5)))))
    else
     zl (F0_tx_fail 6 (fi 44 4) (fi 44 2) (fi 44 3)) (fun v14 =>
     zl (F1_tx_fail 6 (fi 44 4) (fi 44 2) (fi 44 3)) (fun v15 =>
     some (.inr (some (.int (x + (v9 - 48))), (ar, (zuf (zuf (zuf fi 44 4 v10) 44 2 v14) 44 3 v15), (m1, m2, m3, 1, m5))))))
   else
    zl (F0_tx_fail 1 v10 (fi 44 2) (fi 44 3)) (fun v16 =>
    zl (F1_tx_fail 1 v10 (fi 44 2) (fi 44 3)) (fun v17 =>
    some (.inr (some (.int (x + (v9 - 48))), (ar, (zuf (zuf (zuf fi 44 4 v10) 44 2 v16) 44 3 v17), (m1, m2, m3, 1, m5)))))))))))))) : Option ((Nat × List Value × List Value × zH2) ⊕ zO2)) := by with_unfolding_all rfl
set_option maxRecDepth 20000 in
theorem e_tn_readSign {X : Nat × (Nat → Int32)} {ar fi : Nat → Nat → Int32} {m1 m2 m3 m5 : Nat} {x y : Int32} {o : zO2} : ∀ (q : T_tn_readSign), q_tn_readSign x y (ar 1) (ar 43) (fi 44 1) (fi 44 2) (fi 44 3) (fi 44 4) = some q → (fun t => O_tn_readSign ar fi m1 m2 m3 m5 t = o) q → zR2 X zFT (zEx 104 S_tn_isCount (zEx 93 S_tx_sign (zEx 95 S_tx_skip (zEx 107 S_tn_kindOf (zEx 97 S_tx_fail (zEx 106 S_tn_put zE0)))))) zc_105 0 [.ref 42, .int x, .int y] [] (ar, fi, (m1, m2, m3, 1, m5)) o := by
  intro q h hq
  unfold q_tn_readSign at h
  refine zT_seg t_tn_readSign ?_
  obtain ⟨TT, hTT⟩ : ∃ T, T = zT X zFT (zEx 104 S_tn_isCount (zEx 93 S_tx_sign (zEx 95 S_tx_skip (zEx 107 S_tn_kindOf (zEx 97 S_tx_fail (zEx 106 S_tn_put zE0)))))) zc_105 o := ⟨_, rfl⟩
  rw [← hTT]
  refine zg_el h (fun hg h => zU_g hTT hg ?_)
  refine zl_el h (fun h => zU_l hTT ?_)
  refine zb_el h (fun hb h => zU_t hTT hb ?_) (fun hb h => zU_f hTT hb ?_)
  · refine zg_el h (fun hg h => zU_g hTT hg ?_)
    refine zl_el h (fun h => zU_l hTT ?_)
    refine zl_el h (fun h => zU_l hTT ?_)
    refine zb_el h (fun hb h => zU_t hTT hb ?_) (fun hb h => zU_f hTT hb ?_)
    · refine zb_el h (fun hb h => zU_t hTT hb ?_) (fun hb h => zU_f hTT hb ?_)
      · refine zl_el h (fun h => zU_l hTT ?_)
        rw [hTT]
        refine zR2_hp ?_ ?_ (zlp_K k_tn_readSign_104 h hq)
        · first | with_reducible rfl | exact hA4_tn_readSign _
        · first | with_reducible rfl | exact hF3_tn_readSign _ _
      · refine zl_el h (fun h => zU_l hTT ?_)
        refine zl_el h (fun h => zU_l hTT ?_)
        rw [hTT]
        have hz := zsi (P := (fun t => O_tn_readSign ar fi m1 m2 m3 m5 t = o)) h hq
        refine (zO_mk ?_ ?_).trans hz
        · first | with_reducible rfl | exact hA4_tn_readSign _
        · first | with_reducible rfl | exact hF5_tn_readSign _ _ _
    · refine zl_el h (fun h => zU_l hTT ?_)
      refine zl_el h (fun h => zU_l hTT ?_)
      rw [hTT]
      have hz := zsi (P := (fun t => O_tn_readSign ar fi m1 m2 m3 m5 t = o)) h hq
      refine (zO_mk ?_ ?_).trans hz
      · first | with_reducible rfl | exact hA4_tn_readSign _
      · first | with_reducible rfl | exact hF5_tn_readSign _ _ _
  · refine zg_el h (fun hg h => zU_g hTT hg ?_)
    refine zl_el h (fun h => zU_l hTT ?_)
    refine zl_el h (fun h => zU_l hTT ?_)
    refine zg_el h (fun hg h => zU_g hTT hg ?_)
    refine zl_el h (fun h => zU_l hTT ?_)
    refine zl_el h (fun h => zU_l hTT ?_)
    refine zb_el h (fun hb h => zU_t hTT hb ?_) (fun hb h => zU_f hTT hb ?_)
    · refine zb_el h (fun hb h => zU_t hTT hb ?_) (fun hb h => zU_f hTT hb ?_)
      · refine zl_el h (fun h => zU_l hTT ?_)
        rw [hTT]
        refine zR2_hp ?_ ?_ (zlp_K k_tn_readSign_104 h hq)
        · first | with_reducible rfl | exact hA4_tn_readSign _
        · first | with_reducible rfl | exact hF6_tn_readSign _ _ _
      · refine zl_el h (fun h => zU_l hTT ?_)
        refine zl_el h (fun h => zU_l hTT ?_)
        rw [hTT]
        have hz := zsi (P := (fun t => O_tn_readSign ar fi m1 m2 m3 m5 t = o)) h hq
        refine (zO_mk ?_ ?_).trans hz
        · first | with_reducible rfl | exact hA4_tn_readSign _
        · first | with_reducible rfl | exact hF7_tn_readSign _ _ _ _
    · refine zl_el h (fun h => zU_l hTT ?_)
      refine zl_el h (fun h => zU_l hTT ?_)
      rw [hTT]
      have hz := zsi (P := (fun t => O_tn_readSign ar fi m1 m2 m3 m5 t = o)) h hq
      refine (zO_mk ?_ ?_).trans hz
      · first | with_reducible rfl | exact hA4_tn_readSign _
      · first | with_reducible rfl | exact hF7_tn_readSign _ _ _ _
theorem ok_tn_readSign (X : Nat × (Nat → Int32)) : zOkS X 105 S_tn_readSign 4 := zOkS_new (zOkE_cons (ok_tn_isCount X) (by decide) (zOkE_cons (ok_tx_sign X) (by decide) (zOkE_cons (ok_tx_skip X) (by decide) (zOkE_cons (ok_tn_kindOf X) (by decide) (zOkE_cons (ok_tx_fail X) (by decide) (zOkE_cons (ok_tn_put X) (by decide) (zOkE_nil X 3))))))) (by
  intro args g o h
  obtain ⟨ar, fi, m1, m2, m3, m4, m5⟩ := g
  unfold S_tn_readSign P_tn_readSign at h
  split at h
  · refine zb_el h (fun hI0 k0 => ?_) (fun _ h10 => ?_)
    · try simp only [Bool.and_eq_true] at hI0
      obtain ⟨j0, j1⟩ := hI0
      have e0 := Nat.eq_of_beq_eq_true j0
      subst e0
      have e9 : m4 = 1 := Nat.eq_of_beq_eq_true j1
      subst e9
      exact zpe_el k0 (fun t ht ho => by obtain ⟨t0, t1, t2, t3, t4⟩ := t; exact e_tn_readSign _ ht ho)
    · cases h10
  · cases h)
