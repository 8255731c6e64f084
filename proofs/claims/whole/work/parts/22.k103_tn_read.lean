abbrev T_tn_read : Type := Int32 × (Nat → Int32) × Int32 × Int32 × Int32 × Int32
abbrev U_tn_read_35 : Type := Int32 × Int32 × (Nat → Int32) × Int32 × Int32 × Int32
abbrev U_tn_read_11 : Type := Int32 × (Nat → Int32)
noncomputable def b_tn_read_35 (a1 : Nat → Int32) (c44_1 : Int32) (l3 : Int32) (l4 : Int32) (b43 : Nat → Int32) (c44_2 : Int32) (c44_3 : Int32) (c44_4 : Int32) : Option (U_tn_read_35 ⊕ T_tn_read) :=
  bif decide (8 < l4) then
   zl (w_tx_answerOr 0 c44_2 c44_3) (fun v5 =>
   some (.inr (v5, b43, c44_1, c44_2, c44_3, c44_4)))
  else
   bif decide (l3 = 0) then
    zl (w_tx_answerOr 0 c44_2 c44_3) (fun v6 =>
    some (.inr (v6, b43, c44_1, c44_2, c44_3, c44_4)))
   else
    zbd (q_tn_readRow l4 a1 b43 c44_1 c44_2 c44_3 c44_4) (fun v7 =>
    zg (g_tx_sign ((v7.2.1)) ((v7.2.2.2)) c44_1 a1) (
    zl (w_tx_sign ((v7.2.1)) ((v7.2.2.2)) c44_1 a1) (fun v8 =>
    bif !decide (v8 = 47) then
     some (.inl (0, l4 + 1, ((v7.1)), (v7.2.1), (v7.2.2.1), (v7.2.2.2)))
    else
     zl (f0_tx_skip ((v7.2.2.2))) (fun v9 =>
     some (.inl (1, l4 + 1, ((v7.1)), (v7.2.1), (v7.2.2.1), v9))))))
noncomputable def f_tn_read_35 (a1 : Nat → Int32) (c44_1 : Int32) : U_tn_read_35 → Option (U_tn_read_35 ⊕ T_tn_read) := fun s => b_tn_read_35 a1 c44_1 s.1 s.2.1 s.2.2.1 s.2.2.2.1 s.2.2.2.2.1 s.2.2.2.2.2
noncomputable def l_tn_read_35 (a1 : Nat → Int32) (c44_1 : Int32) (l3 : Int32) (l4 : Int32) (b43 : Nat → Int32) (c44_2 : Int32) (c44_3 : Int32) (c44_4 : Int32) : Option T_tn_read := zlp (f_tn_read_35 a1 c44_1) (l3, l4, b43, c44_2, c44_3, c44_4)
noncomputable def b_tn_read_11 (a1 : Nat → Int32) (c44_1 : Int32) (c44_2 : Int32) (c44_3 : Int32) (c44_4 : Int32) (l3 : Int32) (b43 : Nat → Int32) : Option (U_tn_read_11 ⊕ T_tn_read) :=
  bif decide (96 ≤ l3) then
   zbd (l_tn_read_35 a1 c44_1 1 0 b43 c44_2 c44_3 c44_4) (fun k => some (.inr k))
  else
   zg (zin l3 96) (
   some (.inl (l3 + 1, (zup b43 (l3.toNatClampNeg) 0))))
noncomputable def f_tn_read_11 (a1 : Nat → Int32) (c44_1 : Int32) (c44_2 : Int32) (c44_3 : Int32) (c44_4 : Int32) : U_tn_read_11 → Option (U_tn_read_11 ⊕ T_tn_read) := fun s => b_tn_read_11 a1 c44_1 c44_2 c44_3 c44_4 s.1 s.2
noncomputable def l_tn_read_11 (a1 : Nat → Int32) (c44_1 : Int32) (c44_2 : Int32) (c44_3 : Int32) (c44_4 : Int32) (l3 : Int32) (b43 : Nat → Int32) : Option T_tn_read := zlp (f_tn_read_11 a1 c44_1 c44_2 c44_3 c44_4) (l3, b43)
noncomputable def q_tn_read (y : Int32) (a1 : Nat → Int32) (a43 : Nat → Int32) : Option T_tn_read :=
  zl (f0_tx_begin y) (fun v1 =>
  zl (f1_tx_begin y) (fun v2 =>
  zl (f2_tx_begin y) (fun v3 =>
  zl (f3_tx_begin y) (fun v4 =>
  l_tn_read_11 a1 v1 v2 v3 v4 0 a43))))
def P_tn_read (Q : Int32 → (Nat → Int32) → (Nat → Int32) → Option (Int32 × (Nat → Int32) × Int32 × Int32 × Int32 × Int32)) : zSp := fun as g => match as with
  | [.ref a, .ref b, .int y] => bif Nat.beq a 42 && Nat.beq b 1 then zpe (Q y (g.1 1) (g.1 43)) (fun t => (some (.int (t.1)), ((zua g.1 43 t.2.1), (zuf (zuf (zuf (zuf g.2.1 44 1 t.2.2.1) 44 2 t.2.2.2.1) 44 3 t.2.2.2.2.1) 44 4 t.2.2.2.2.2), (g.2.2.1, g.2.2.2.1, g.2.2.2.2.1, 1, g.2.2.2.2.2.2)))) else none
  | _ => none
noncomputable abbrev S_tn_read : zSp := P_tn_read q_tn_read
theorem hA5_tn_read (F : Nat → Nat → Int32) : F = (zua F 43 (F 43)) := zuak_ix F [] [(43, none)] rfl
theorem hF4_tn_read (F : Nat → Nat → Int32) (w0 w1 w2 w3 w4 w5 w6 w7 : Int32) : (zuf (zuf (zuf (zuf (zuf (zuf (zuf (zuf F 44 1 w0) 44 2 w1) 44 3 w2) 44 4 w3) 44 2 w4) 44 3 w5) 44 4 w6) 44 4 w7) = (zuf (zuf (zuf (zuf F 44 1 w0) 44 2 w4) 44 3 w5) 44 4 w7) := zufk_ix F [((44, 1), w0), ((44, 2), w1), ((44, 3), w2), ((44, 4), w3), ((44, 2), w4), ((44, 3), w5), ((44, 4), w6), ((44, 4), w7)] [((44, 1), some 0), ((44, 2), some 4), ((44, 3), some 5), ((44, 4), some 7)] rfl
theorem hF3_tn_read (F : Nat → Nat → Int32) (w0 w1 w2 w3 w4 w5 w6 : Int32) : (zuf (zuf (zuf (zuf (zuf (zuf (zuf F 44 1 w0) 44 2 w1) 44 3 w2) 44 4 w3) 44 2 w4) 44 3 w5) 44 4 w6) = (zuf (zuf (zuf (zuf F 44 1 w0) 44 2 w4) 44 3 w5) 44 4 w6) := zufk_ix F [((44, 1), w0), ((44, 2), w1), ((44, 3), w2), ((44, 4), w3), ((44, 2), w4), ((44, 3), w5), ((44, 4), w6)] [((44, 1), some 0), ((44, 2), some 4), ((44, 3), some 5), ((44, 4), some 6)] rfl
theorem hA2_tn_read (F : Nat → Nat → Int32) (w0 w1 : Nat → Int32) : (zua (zua F 43 w0) 43 w1) = (zua F 43 w1) := zuak_ix F [(43, w0), (43, w1)] [(43, some 1)] rfl
theorem hF1_tn_read (F : Nat → Nat → Int32) (w0 w1 w2 w3 : Int32) : (zuf (zuf (zuf (zuf F 44 1 w0) 44 2 w1) 44 3 w2) 44 4 w3) = (zuf (zuf (zuf (zuf F 44 1 w0) 44 2 w1) 44 3 w2) 44 4 w3) := zufk_ix F [((44, 1), w0), ((44, 2), w1), ((44, 3), w2), ((44, 4), w3)] [((44, 1), some 0), ((44, 2), some 1), ((44, 3), some 2), ((44, 4), some 3)] rfl
theorem hA0_tn_read (F : Nat → Nat → Int32) (w0 : Nat → Int32) : (zua F 43 w0) = (zua F 43 w0) := zuak_ix F [(43, w0)] [(43, some 0)] rfl
def O_tn_read (ar fi : Nat → Nat → Int32) (m1 : Nat) (m2 : Nat) (m3 : Nat) (m4 : Nat) (m5 : Nat) (t : T_tn_read) : zO2 := match t with
  | (t0, t1, t2, t3, t4, t5) => (some (.int (t0)), ((zua ar 43 t1), (zuf (zuf (zuf (zuf fi 44 1 t2) 44 2 t3) 44 3 t4) 44 4 t5), (m1, m2, m3, 1, m5)))
def M_tn_read_35 (X : Nat × (Nat → Int32)) (E : zTE) (ar fi : Nat → Nat → Int32) (m1 : Nat) (m2 : Nat) (m3 : Nat) (m4 : Nat) (m5 : Nat) (y : Int32) (c44_1 : Int32) (o : zO2) (s : U_tn_read_35) : Prop := match s with
  | (l3, l4, b43, c44_2, c44_3, c44_4) => zR2 X zFT E zc_101 35 [.ref 42, .ref 1, .int y, .int l3, .int l4] [] ((zua ar 43 b43), (zuf (zuf (zuf (zuf fi 44 1 c44_1) 44 2 c44_2) 44 3 c44_3) 44 4 c44_4), (m1, m2, m3, 1, m5)) o
def M_tn_read_11 (X : Nat × (Nat → Int32)) (E : zTE) (ar fi : Nat → Nat → Int32) (m1 : Nat) (m2 : Nat) (m3 : Nat) (m4 : Nat) (m5 : Nat) (y : Int32) (c44_1 : Int32) (c44_2 : Int32) (c44_3 : Int32) (c44_4 : Int32) (o : zO2) (s : U_tn_read_11) : Prop := match s with
  | (l3, b43) => zR2 X zFT E zc_101 11 [.ref 42, .ref 1, .int y, .int l3] [] ((zua ar 43 b43), (zuf (zuf (zuf (zuf fi 44 1 c44_1) 44 2 c44_2) 44 3 c44_3) 44 4 c44_4), (m1, m2, m3, 1, m5)) o
set_option maxRecDepth 1000000 in
theorem t35_tn_read {X : Nat × (Nat → Int32)} {ar fi : Nat → Nat → Int32} {m1 m2 m3 m4 m5 : Nat} {y : Int32} {l3 : Int32} {l4 : Int32} {b43 : Nat → Int32} {c44_1 : Int32} {c44_2 : Int32} {c44_3 : Int32} {c44_4 : Int32} {F0_tx_begin : Int32 → Int32} {F1_tx_begin : Int32 → Int32} {F2_tx_begin : Int32 → Int32} {F3_tx_begin : Int32 → Int32} {Q_tn_readRow : Int32 → (Nat → Int32) → (Nat → Int32) → Int32 → Int32 → Int32 → Int32 → Option ((Nat → Int32) × Int32 × Int32 × Int32)} {G_tx_sign : Int32 → Int32 → Int32 → (Nat → Int32) → Bool} {W_tx_sign : Int32 → Int32 → Int32 → (Nat → Int32) → Int32} {F0_tx_skip : Int32 → Int32} {W_tx_answerOr : Int32 → Int32 → Int32 → Int32} : zseg X zFT (zEx 90 (P_tx_begin F0_tx_begin F1_tx_begin F2_tx_begin F3_tx_begin) (zEx 102 (P_tn_readRow Q_tn_readRow) (zEx 93 (P_tx_sign G_tx_sign W_tx_sign) (zEx 95 (P_tx_skip F0_tx_skip) (zEx 99 (P_tx_answerOr W_tx_answerOr) zE0))))) zc_101 (fun p => Nat.beq p 35 || Nat.beq p 11) 400 35 [.ref 42, .ref 1, .int y, .int l3, .int l4] [] ((zua ar 43 b43), (zuf (zuf (zuf (zuf fi 44 1 c44_1) 44 2 c44_2) 44 3 c44_3) 44 4 c44_4), (m1, m2, m3, 1, m5)) = (
  bif decide (8 < l4) then
   zl (W_tx_answerOr 0 c44_2 c44_3) (fun v5 =>
   some (.inr (some (.int v5), ((zua ar 43 b43), (zuf (zuf (zuf (zuf fi 44 1 c44_1) 44 2 c44_2) 44 3 c44_3) 44 4 c44_4), (m1, m2, m3, 1, m5)))))
  else
   bif decide (l3 = 0) then
    zl (W_tx_answerOr 0 c44_2 c44_3) (fun v6 =>
    some (.inr (some (.int v6), ((zua ar 43 b43), (zuf (zuf (zuf (zuf fi 44 1 c44_1) 44 2 c44_2) 44 3 c44_3) 44 4 c44_4), (m1, m2, m3, 1, m5)))))
   else
    zl (Q_tn_readRow l4 (ar 1) b43 c44_1 c44_2 c44_3 c44_4) (fun v7 => zg v7.isSome (
    zg (G_tx_sign (((zgt v7).2.1)) (((zgt v7).2.2.2)) c44_1 (ar 1)) (
    zl (W_tx_sign (((zgt v7).2.1)) (((zgt v7).2.2.2)) c44_1 (ar 1)) (fun v8 =>
    bif !decide (v8 = 47) then
     some (.inl (35, [.ref 42, .ref 1, .int y, .int 0, .int (l4 + 1)], [], ((zua (zua ar 43 b43) 43 (((zgt v7).1))), (zuf (zuf (zuf (zuf (zuf (zuf (zuf fi 44 1 c44_1) 44 2 c44_2) 44 3 c44_3) 44 4 c44_4) 44 2 (((zgt v7).2.1))) 44 3 (((zgt v7).2.2.1))) 44 4 (((zgt v7).2.2.2))), (m1, m2, m3, 1, m5))))
    else
     zl (F0_tx_skip (((zgt v7).2.2.2))) (fun v9 =>
     some (.inl (35, [.ref 42, .ref 1, .int y, .int 1, .int (l4 + 1)], [], ((zua (zua ar 43 b43) 43 (((zgt v7).1))), (zuf (zuf (zuf (zuf (zuf (zuf (zuf (zuf fi 44 1 c44_1) 44 2 c44_2) 44 3 c44_3) 44 4 c44_4) 44 2 (((zgt v7).2.1))) 44 3 (((zgt v7).2.2.1))) 44 4 (((zgt v7).2.2.2))) 44 4 v9), (m1, m2, m3, 1, m5))))))))) : Option ((Nat × List Value × List Value × zH2) ⊕ zO2)) := by with_unfolding_all rfl
set_option maxRecDepth 20000 in
theorem k_tn_read_35 {X : Nat × (Nat → Int32)} {ar fi : Nat → Nat → Int32} {m1 m2 m3 m4 m5 : Nat} {y : Int32} {c44_1 : Int32} {o : zO2} : ∀ (s : U_tn_read_35) (q : U_tn_read_35 ⊕ T_tn_read), f_tn_read_35 (ar 1) c44_1 s = some q → zq (M_tn_read_35 X (zEx 90 S_tx_begin (zEx 102 S_tn_readRow (zEx 93 S_tx_sign (zEx 95 S_tx_skip (zEx 99 S_tx_answerOr zE0))))) ar fi m1 m2 m3 m4 m5 y c44_1 o) (fun t => O_tn_read ar fi m1 m2 m3 m4 m5 t = o) q → M_tn_read_35 X (zEx 90 S_tx_begin (zEx 102 S_tn_readRow (zEx 93 S_tx_sign (zEx 95 S_tx_skip (zEx 99 S_tx_answerOr zE0))))) ar fi m1 m2 m3 m4 m5 y c44_1 o s := by
  intro s q h hq
  obtain ⟨l3, l4, b43, c44_2, c44_3, c44_4⟩ := s
  have h : b_tn_read_35 (ar 1) c44_1 l3 l4 b43 c44_2 c44_3 c44_4 = some q := h
  unfold b_tn_read_35 at h
  show zR2 X zFT (zEx 90 S_tx_begin (zEx 102 S_tn_readRow (zEx 93 S_tx_sign (zEx 95 S_tx_skip (zEx 99 S_tx_answerOr zE0))))) zc_101 35 [.ref 42, .ref 1, .int y, .int l3, .int l4] [] ((zua ar 43 b43), (zuf (zuf (zuf (zuf fi 44 1 c44_1) 44 2 c44_2) 44 3 c44_3) 44 4 c44_4), (m1, m2, m3, 1, m5)) o
  refine zT_seg (t35_tn_read (m4 := m4)) ?_
  obtain ⟨TT, hTT⟩ : ∃ T, T = zT X zFT (zEx 90 S_tx_begin (zEx 102 S_tn_readRow (zEx 93 S_tx_sign (zEx 95 S_tx_skip (zEx 99 S_tx_answerOr zE0))))) zc_101 o := ⟨_, rfl⟩
  rw [← hTT]
  refine zb_el h (fun hb h => zU_t hTT hb ?_) (fun hb h => zU_f hTT hb ?_)
  · refine zl_el h (fun h => zU_l hTT ?_)
    rw [hTT]
    have hz := zsi h hq
    refine (zO_mk ?_ ?_).trans hz
    · first | with_reducible rfl | exact hA0_tn_read _ _
    · first | with_reducible rfl | exact hF1_tn_read _ _ _ _ _
  · refine zb_el h (fun hb h => zU_t hTT hb ?_) (fun hb h => zU_f hTT hb ?_)
    · refine zl_el h (fun h => zU_l hTT ?_)
      rw [hTT]
      have hz := zsi h hq
      refine (zO_mk ?_ ?_).trans hz
      · first | with_reducible rfl | exact hA0_tn_read _ _
      · first | with_reducible rfl | exact hF1_tn_read _ _ _ _ _
    · refine zbd_el h (fun v7 hv h => zU_c hTT hv ?_)
      refine zg_el h (fun hg h => zU_g hTT hg ?_)
      refine zl_el h (fun h => zU_l hTT ?_)
      refine zb_el h (fun hb h => zU_t hTT hb ?_) (fun hb h => zU_f hTT hb ?_)
      · rw [hTT]
        have hz := zsi h hq
        refine zR2_hp ?_ ?_ hz
        · first | with_reducible rfl | exact hA2_tn_read _ _ _
        · first | with_reducible rfl | exact hF3_tn_read _ _ _ _ _ _ _ _
      · refine zl_el h (fun h => zU_l hTT ?_)
        rw [hTT]
        have hz := zsi h hq
        refine zR2_hp ?_ ?_ hz
        · first | with_reducible rfl | exact hA2_tn_read _ _ _
        · first | with_reducible rfl | exact hF4_tn_read _ _ _ _ _ _ _ _ _
set_option maxRecDepth 1000000 in
theorem t11_tn_read {X : Nat × (Nat → Int32)} {ar fi : Nat → Nat → Int32} {m1 m2 m3 m4 m5 : Nat} {y : Int32} {l3 : Int32} {b43 : Nat → Int32} {c44_1 : Int32} {c44_2 : Int32} {c44_3 : Int32} {c44_4 : Int32} {F0_tx_begin : Int32 → Int32} {F1_tx_begin : Int32 → Int32} {F2_tx_begin : Int32 → Int32} {F3_tx_begin : Int32 → Int32} {Q_tn_readRow : Int32 → (Nat → Int32) → (Nat → Int32) → Int32 → Int32 → Int32 → Int32 → Option ((Nat → Int32) × Int32 × Int32 × Int32)} {G_tx_sign : Int32 → Int32 → Int32 → (Nat → Int32) → Bool} {W_tx_sign : Int32 → Int32 → Int32 → (Nat → Int32) → Int32} {F0_tx_skip : Int32 → Int32} {W_tx_answerOr : Int32 → Int32 → Int32 → Int32} : zseg X zFT (zEx 90 (P_tx_begin F0_tx_begin F1_tx_begin F2_tx_begin F3_tx_begin) (zEx 102 (P_tn_readRow Q_tn_readRow) (zEx 93 (P_tx_sign G_tx_sign W_tx_sign) (zEx 95 (P_tx_skip F0_tx_skip) (zEx 99 (P_tx_answerOr W_tx_answerOr) zE0))))) zc_101 (fun p => Nat.beq p 35 || Nat.beq p 11) 400 11 [.ref 42, .ref 1, .int y, .int l3] [] ((zua ar 43 b43), (zuf (zuf (zuf (zuf fi 44 1 c44_1) 44 2 c44_2) 44 3 c44_3) 44 4 c44_4), (m1, m2, m3, 1, m5)) = (
  bif decide (96 ≤ l3) then
   some (.inl (35, [.ref 42, .ref 1, .int y, .int 1, .int 0], [], ((zua ar 43 b43), (zuf (zuf (zuf (zuf fi 44 1 c44_1) 44 2 c44_2) 44 3 c44_3) 44 4 c44_4), (m1, m2, m3, 1, m5))))
  else
   zg (Nat.beq 16 16 && (zin l3 96)) (
   some (.inl (11, [.ref 42, .ref 1, .int y, .int (l3 + 1)], [], ((zua (zua ar 43 b43) 43 (zup b43 (l3.toNatClampNeg) 0)), (zuf (zuf (zuf (zuf fi 44 1 c44_1) 44 2 c44_2) 44 3 c44_3) 44 4 c44_4), (m1, m2, m3, 1, m5))))) : Option ((Nat × List Value × List Value × zH2) ⊕ zO2)) := by with_unfolding_all rfl
set_option maxRecDepth 20000 in
theorem k_tn_read_11 {X : Nat × (Nat → Int32)} {ar fi : Nat → Nat → Int32} {m1 m2 m3 m4 m5 : Nat} {y : Int32} {c44_1 : Int32} {c44_2 : Int32} {c44_3 : Int32} {c44_4 : Int32} {o : zO2} : ∀ (s : U_tn_read_11) (q : U_tn_read_11 ⊕ T_tn_read), f_tn_read_11 (ar 1) c44_1 c44_2 c44_3 c44_4 s = some q → zq (M_tn_read_11 X (zEx 90 S_tx_begin (zEx 102 S_tn_readRow (zEx 93 S_tx_sign (zEx 95 S_tx_skip (zEx 99 S_tx_answerOr zE0))))) ar fi m1 m2 m3 m4 m5 y c44_1 c44_2 c44_3 c44_4 o) (fun t => O_tn_read ar fi m1 m2 m3 m4 m5 t = o) q → M_tn_read_11 X (zEx 90 S_tx_begin (zEx 102 S_tn_readRow (zEx 93 S_tx_sign (zEx 95 S_tx_skip (zEx 99 S_tx_answerOr zE0))))) ar fi m1 m2 m3 m4 m5 y c44_1 c44_2 c44_3 c44_4 o s := by
  intro s q h hq
  obtain ⟨l3, b43⟩ := s
  have h : b_tn_read_11 (ar 1) c44_1 c44_2 c44_3 c44_4 l3 b43 = some q := h
  unfold b_tn_read_11 at h
  show zR2 X zFT (zEx 90 S_tx_begin (zEx 102 S_tn_readRow (zEx 93 S_tx_sign (zEx 95 S_tx_skip (zEx 99 S_tx_answerOr zE0))))) zc_101 11 [.ref 42, .ref 1, .int y, .int l3] [] ((zua ar 43 b43), (zuf (zuf (zuf (zuf fi 44 1 c44_1) 44 2 c44_2) 44 3 c44_3) 44 4 c44_4), (m1, m2, m3, 1, m5)) o
  refine zT_seg (t11_tn_read (m4 := m4)) ?_
  obtain ⟨TT, hTT⟩ : ∃ T, T = zT X zFT (zEx 90 S_tx_begin (zEx 102 S_tn_readRow (zEx 93 S_tx_sign (zEx 95 S_tx_skip (zEx 99 S_tx_answerOr zE0))))) zc_101 o := ⟨_, rfl⟩
  rw [← hTT]
  refine zb_el h (fun hb h => zU_t hTT hb ?_) (fun hb h => zU_f hTT hb ?_)
  · rw [hTT]
    refine zbd_el h (fun r hr h => ?_)
    have hz := zsi h hq
    refine zR2_hp ?_ ?_ (zlp_K (k_tn_read_35 (m4 := m4)) hr hz)
    · first | with_reducible rfl | exact hA0_tn_read _ _
    · first | with_reducible rfl | exact hF1_tn_read _ _ _ _ _
  · refine zg_el h (fun hg h => zU_ga hTT hg ?_)
    rw [hTT]
    have hz := zsi h hq
    refine zR2_hp ?_ ?_ hz
    · first | with_reducible rfl | exact hA2_tn_read _ _ _
    · first | with_reducible rfl | exact hF1_tn_read _ _ _ _ _
set_option maxRecDepth 1000000 in
theorem t_tn_read {X : Nat × (Nat → Int32)} {ar fi : Nat → Nat → Int32} {m1 m2 m3 m4 m5 : Nat} {y : Int32} {F0_tx_begin : Int32 → Int32} {F1_tx_begin : Int32 → Int32} {F2_tx_begin : Int32 → Int32} {F3_tx_begin : Int32 → Int32} {Q_tn_readRow : Int32 → (Nat → Int32) → (Nat → Int32) → Int32 → Int32 → Int32 → Int32 → Option ((Nat → Int32) × Int32 × Int32 × Int32)} {G_tx_sign : Int32 → Int32 → Int32 → (Nat → Int32) → Bool} {W_tx_sign : Int32 → Int32 → Int32 → (Nat → Int32) → Int32} {F0_tx_skip : Int32 → Int32} {W_tx_answerOr : Int32 → Int32 → Int32 → Int32} : zseg X zFT (zEx 90 (P_tx_begin F0_tx_begin F1_tx_begin F2_tx_begin F3_tx_begin) (zEx 102 (P_tn_readRow Q_tn_readRow) (zEx 93 (P_tx_sign G_tx_sign W_tx_sign) (zEx 95 (P_tx_skip F0_tx_skip) (zEx 99 (P_tx_answerOr W_tx_answerOr) zE0))))) zc_101 (fun p => Nat.beq p 35 || Nat.beq p 11) 400 0 [.ref 42, .ref 1, .int y] [] (ar, fi, (m1, m2, m3, m4, m5)) = (
  zl (F0_tx_begin y) (fun v1 =>
  zl (F1_tx_begin y) (fun v2 =>
  zl (F2_tx_begin y) (fun v3 =>
  zl (F3_tx_begin y) (fun v4 =>
  some (.inl (11, [.ref 42, .ref 1, .int y, .int 0], [], (ar, (zuf (zuf (zuf (zuf fi 44 1 v1) 44 2 v2) 44 3 v3) 44 4 v4), (m1, m2, m3, 1, m5)))))))) : Option ((Nat × List Value × List Value × zH2) ⊕ zO2)) := by with_unfolding_all rfl
set_option maxRecDepth 20000 in
theorem e_tn_read {X : Nat × (Nat → Int32)} {ar fi : Nat → Nat → Int32} {m1 m2 m3 m4 m5 : Nat} {y : Int32} {o : zO2} : ∀ (q : T_tn_read), q_tn_read y (ar 1) (ar 43) = some q → (fun t => O_tn_read ar fi m1 m2 m3 m4 m5 t = o) q → zR2 X zFT (zEx 90 S_tx_begin (zEx 102 S_tn_readRow (zEx 93 S_tx_sign (zEx 95 S_tx_skip (zEx 99 S_tx_answerOr zE0))))) zc_101 0 [.ref 42, .ref 1, .int y] [] (ar, fi, (m1, m2, m3, m4, m5)) o := by
  intro q h hq
  unfold q_tn_read at h
  refine zT_seg t_tn_read ?_
  obtain ⟨TT, hTT⟩ : ∃ T, T = zT X zFT (zEx 90 S_tx_begin (zEx 102 S_tn_readRow (zEx 93 S_tx_sign (zEx 95 S_tx_skip (zEx 99 S_tx_answerOr zE0))))) zc_101 o := ⟨_, rfl⟩
  rw [← hTT]
  refine zl_el h (fun h => zU_l hTT ?_)
  refine zl_el h (fun h => zU_l hTT ?_)
  refine zl_el h (fun h => zU_l hTT ?_)
  refine zl_el h (fun h => zU_l hTT ?_)
  rw [hTT]
  refine zR2_hp ?_ ?_ (zlp_K (k_tn_read_11 (m4 := m4)) h hq)
  · first | with_reducible rfl | exact hA5_tn_read _
  · first | with_reducible rfl | exact hF1_tn_read _ _ _ _ _
theorem ok_tn_read (X : Nat × (Nat → Int32)) : zOkS X 101 S_tn_read 6 := zOkS_new (zOkE_cons (ok_tx_begin X) (by decide) (zOkE_cons (ok_tn_readRow X) (by decide) (zOkE_cons (ok_tx_sign X) (by decide) (zOkE_cons (ok_tx_skip X) (by decide) (zOkE_cons (ok_tx_answerOr X) (by decide) (zOkE_nil X 5)))))) (by
  intro args g o h
  obtain ⟨ar, fi, m1, m2, m3, m4, m5⟩ := g
  unfold S_tn_read P_tn_read at h
  split at h
  · refine zb_el h (fun hI0 k0 => ?_) (fun _ h10 => ?_)
    · try simp only [Bool.and_eq_true] at hI0
      obtain ⟨j0, j1⟩ := hI0
      have e0 := Nat.eq_of_beq_eq_true j0
      subst e0
      have e1 := Nat.eq_of_beq_eq_true j1
      subst e1
      exact zpe_el k0 (fun t ht ho => by obtain ⟨t0, t1, t2, t3, t4, t5⟩ := t; exact e_tn_read _ ht ho)
    · cases h10
  · cases h)
