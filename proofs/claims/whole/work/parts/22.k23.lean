abbrev T_od_read : Type := Int32 × (Nat → Int32) × (Nat → Int32) × (Nat → Int32) × (Nat → Int32) × (Nat → Int32) × (Nat → Int32) × Int32 × Int32 × Int32 × Int32 × Int32 × Int32 × Int32
abbrev U_od_read_18 : Type := Int32 × Int32 × Int32 × (Nat → Int32) × (Nat → Int32) × (Nat → Int32) × (Nat → Int32) × (Nat → Int32) × (Nat → Int32) × Int32 × Int32 × Int32 × Int32 × Int32 × Int32
noncomputable def b_od_read_18 (a1 : Nat → Int32) (c47_1 : Int32) (l4 : Int32) (l5 : Int32) (l6 : Int32) (b17 : Nat → Int32) (b18 : Nat → Int32) (b19 : Nat → Int32) (b20 : Nat → Int32) (b21 : Nat → Int32) (b22 : Nat → Int32) (c16_6 : Int32) (c16_7 : Int32) (c16_8 : Int32) (c47_2 : Int32) (c47_3 : Int32) (c47_4 : Int32) : Option (U_od_read_18 ⊕ T_od_read) :=
  bif decide (16 < l6) then
   zl (w_tx_answerOr l4 c47_2 c47_3) (fun v5 =>
   some (.inr (v5, b17, b18, b19, b20, b21, b22, c16_6, c16_7, c16_8, c47_1, c47_2, c47_3, c47_4)))
  else
   bif decide (l5 = 0) then
    zl (w_tx_answerOr l4 c47_2 c47_3) (fun v6 =>
    some (.inr (v6, b17, b18, b19, b20, b21, b22, c16_6, c16_7, c16_8, c47_1, c47_2, c47_3, c47_4)))
   else
    zbd (q_od_readLine l6 a1 b17 b18 b19 b20 b21 b22 c16_6 c16_7 c16_8 c47_1 c47_2 c47_3 c47_4) (fun v7 =>
    zg (g_tx_sign ((v7.2.2.2.2.2.2.2.2.2.1)) ((v7.2.2.2.2.2.2.2.2.2.2.2)) c47_1 a1) (
    zl (w_tx_sign ((v7.2.2.2.2.2.2.2.2.2.1)) ((v7.2.2.2.2.2.2.2.2.2.2.2)) c47_1 a1) (fun v8 =>
    bif !decide (v8 = 59) then
     some (.inl (l4 + 1, 0, l6 + 1, ((v7.1)), ((v7.2.1)), ((v7.2.2.1)), ((v7.2.2.2.1)), ((v7.2.2.2.2.1)), ((v7.2.2.2.2.2.1)), (v7.2.2.2.2.2.2.1), (v7.2.2.2.2.2.2.2.1), (v7.2.2.2.2.2.2.2.2.1), (v7.2.2.2.2.2.2.2.2.2.1), (v7.2.2.2.2.2.2.2.2.2.2.1), (v7.2.2.2.2.2.2.2.2.2.2.2)))
    else
     zl (f0_tx_skip ((v7.2.2.2.2.2.2.2.2.2.2.2))) (fun v9 =>
     some (.inl (l4 + 1, 1, l6 + 1, ((v7.1)), ((v7.2.1)), ((v7.2.2.1)), ((v7.2.2.2.1)), ((v7.2.2.2.2.1)), ((v7.2.2.2.2.2.1)), (v7.2.2.2.2.2.2.1), (v7.2.2.2.2.2.2.2.1), (v7.2.2.2.2.2.2.2.2.1), (v7.2.2.2.2.2.2.2.2.2.1), (v7.2.2.2.2.2.2.2.2.2.2.1), v9))))))
noncomputable def f_od_read_18 (a1 : Nat → Int32) (c47_1 : Int32) : U_od_read_18 → Option (U_od_read_18 ⊕ T_od_read) := fun s => b_od_read_18 a1 c47_1 s.1 s.2.1 s.2.2.1 s.2.2.2.1 s.2.2.2.2.1 s.2.2.2.2.2.1 s.2.2.2.2.2.2.1 s.2.2.2.2.2.2.2.1 s.2.2.2.2.2.2.2.2.1 s.2.2.2.2.2.2.2.2.2.1 s.2.2.2.2.2.2.2.2.2.2.1 s.2.2.2.2.2.2.2.2.2.2.2.1 s.2.2.2.2.2.2.2.2.2.2.2.2.1 s.2.2.2.2.2.2.2.2.2.2.2.2.2.1 s.2.2.2.2.2.2.2.2.2.2.2.2.2.2
noncomputable def l_od_read_18 (a1 : Nat → Int32) (c47_1 : Int32) (l4 : Int32) (l5 : Int32) (l6 : Int32) (b17 : Nat → Int32) (b18 : Nat → Int32) (b19 : Nat → Int32) (b20 : Nat → Int32) (b21 : Nat → Int32) (b22 : Nat → Int32) (c16_6 : Int32) (c16_7 : Int32) (c16_8 : Int32) (c47_2 : Int32) (c47_3 : Int32) (c47_4 : Int32) : Option T_od_read := zlp (f_od_read_18 a1 c47_1) (l4, l5, l6, b17, b18, b19, b20, b21, b22, c16_6, c16_7, c16_8, c47_2, c47_3, c47_4)
noncomputable def q_od_read (y : Int32) (a1 : Nat → Int32) (a17 : Nat → Int32) (a18 : Nat → Int32) (a19 : Nat → Int32) (a20 : Nat → Int32) (a21 : Nat → Int32) (a22 : Nat → Int32) (f16_6 : Int32) (f16_7 : Int32) (f16_8 : Int32) : Option T_od_read :=
  zl (f0_tx_begin y) (fun v1 =>
  zl (f1_tx_begin y) (fun v2 =>
  zl (f2_tx_begin y) (fun v3 =>
  zl (f3_tx_begin y) (fun v4 =>
  l_od_read_18 a1 v1 0 1 0 a17 a18 a19 a20 a21 a22 (f16_6) (f16_7) (f16_8) v2 v3 v4))))
def P_od_read (Q : Int32 → (Nat → Int32) → (Nat → Int32) → (Nat → Int32) → (Nat → Int32) → (Nat → Int32) → (Nat → Int32) → (Nat → Int32) → Int32 → Int32 → Int32 → Option (Int32 × (Nat → Int32) × (Nat → Int32) × (Nat → Int32) × (Nat → Int32) × (Nat → Int32) × (Nat → Int32) × Int32 × Int32 × Int32 × Int32 × Int32 × Int32 × Int32)) : zSp := fun as g => match as with
  | [.ref a, .ref b, .int y, .ref c] => bif Nat.beq a 46 && Nat.beq b 1 && Nat.beq c 16 then zpe (Q y (g.1 1) (g.1 17) (g.1 18) (g.1 19) (g.1 20) (g.1 21) (g.1 22) (g.2.1 16 6) (g.2.1 16 7) (g.2.1 16 8)) (fun t => (some (.int (t.1)), ((zua (zua (zua (zua (zua (zua g.1 17 t.2.1) 18 t.2.2.1) 19 t.2.2.2.1) 20 t.2.2.2.2.1) 21 t.2.2.2.2.2.1) 22 t.2.2.2.2.2.2.1), (zuf (zuf (zuf (zuf (zuf (zuf (zuf g.2.1 16 6 t.2.2.2.2.2.2.2.1) 16 7 t.2.2.2.2.2.2.2.2.1) 16 8 t.2.2.2.2.2.2.2.2.2.1) 47 1 t.2.2.2.2.2.2.2.2.2.2.1) 47 2 t.2.2.2.2.2.2.2.2.2.2.2.1) 47 3 t.2.2.2.2.2.2.2.2.2.2.2.2.1) 47 4 t.2.2.2.2.2.2.2.2.2.2.2.2.2), (g.2.2.1, g.2.2.2.1, g.2.2.2.2.1, g.2.2.2.2.2.1, 1)))) else none
  | _ => none
noncomputable abbrev S_od_read : zSp := P_od_read q_od_read
def O_od_read (ar fi : Nat → Nat → Int32) (m1 : Nat) (m2 : Nat) (m3 : Nat) (m4 : Nat) (m5 : Nat) (t : T_od_read) : zO2 := (some (.int (t.1)), ((zua (zua (zua (zua (zua (zua ar 17 t.2.1) 18 t.2.2.1) 19 t.2.2.2.1) 20 t.2.2.2.2.1) 21 t.2.2.2.2.2.1) 22 t.2.2.2.2.2.2.1), (zuf (zuf (zuf (zuf (zuf (zuf (zuf fi 16 6 t.2.2.2.2.2.2.2.1) 16 7 t.2.2.2.2.2.2.2.2.1) 16 8 t.2.2.2.2.2.2.2.2.2.1) 47 1 t.2.2.2.2.2.2.2.2.2.2.1) 47 2 t.2.2.2.2.2.2.2.2.2.2.2.1) 47 3 t.2.2.2.2.2.2.2.2.2.2.2.2.1) 47 4 t.2.2.2.2.2.2.2.2.2.2.2.2.2), (m1, m2, m3, m4, 1)))
def M_od_read_18 (X : Nat × (Nat → Int32)) (E : zTE) (ar fi : Nat → Nat → Int32) (m1 : Nat) (m2 : Nat) (m3 : Nat) (m4 : Nat) (m5 : Nat) (y : Int32) (c47_1 : Int32) (o : zO2) (s : U_od_read_18) : Prop := zR2 X zFT E zc_56 18 [.ref 46, .ref 1, .int y, .ref 16, .int s.1, .int s.2.1, .int s.2.2.1] [] ((zua (zua (zua (zua (zua (zua ar 17 s.2.2.2.1) 18 s.2.2.2.2.1) 19 s.2.2.2.2.2.1) 20 s.2.2.2.2.2.2.1) 21 s.2.2.2.2.2.2.2.1) 22 s.2.2.2.2.2.2.2.2.1), (zuf (zuf (zuf (zuf (zuf (zuf (zuf fi 16 6 s.2.2.2.2.2.2.2.2.2.1) 16 7 s.2.2.2.2.2.2.2.2.2.2.1) 16 8 s.2.2.2.2.2.2.2.2.2.2.2.1) 47 1 c47_1) 47 2 s.2.2.2.2.2.2.2.2.2.2.2.2.1) 47 3 s.2.2.2.2.2.2.2.2.2.2.2.2.2.1) 47 4 s.2.2.2.2.2.2.2.2.2.2.2.2.2.2), (m1, m2, m3, m4, 1)) o
set_option maxRecDepth 20000 in
theorem t18_od_read {X : Nat × (Nat → Int32)} {ar fi : Nat → Nat → Int32} {m1 m2 m3 m4 m5 : Nat} {y : Int32} {l4 : Int32} {l5 : Int32} {l6 : Int32} {b17 : Nat → Int32} {b18 : Nat → Int32} {b19 : Nat → Int32} {b20 : Nat → Int32} {b21 : Nat → Int32} {b22 : Nat → Int32} {c16_6 : Int32} {c16_7 : Int32} {c16_8 : Int32} {c47_1 : Int32} {c47_2 : Int32} {c47_3 : Int32} {c47_4 : Int32} {F0_tx_begin : Int32 → Int32} {F1_tx_begin : Int32 → Int32} {F2_tx_begin : Int32 → Int32} {F3_tx_begin : Int32 → Int32} {Q_od_readLine : Int32 → (Nat → Int32) → (Nat → Int32) → (Nat → Int32) → (Nat → Int32) → (Nat → Int32) → (Nat → Int32) → (Nat → Int32) → Int32 → Int32 → Int32 → Int32 → Int32 → Int32 → Int32 → Option ((Nat → Int32) × (Nat → Int32) × (Nat → Int32) × (Nat → Int32) × (Nat → Int32) × (Nat → Int32) × Int32 × Int32 × Int32 × Int32 × Int32 × Int32)} {G_tx_sign : Int32 → Int32 → Int32 → (Nat → Int32) → Bool} {W_tx_sign : Int32 → Int32 → Int32 → (Nat → Int32) → Int32} {F0_tx_skip : Int32 → Int32} {W_tx_answerOr : Int32 → Int32 → Int32 → Int32} : zseg X zFT (zEx 90 (P_tx_begin F0_tx_begin F1_tx_begin F2_tx_begin F3_tx_begin) (zEx 57 (P_od_readLine Q_od_readLine) (zEx 93 (P_tx_sign G_tx_sign W_tx_sign) (zEx 95 (P_tx_skip F0_tx_skip) (zEx 99 (P_tx_answerOr W_tx_answerOr) zE0))))) zc_56 (fun p => Nat.beq p 18) 400 18 [.ref 46, .ref 1, .int y, .ref 16, .int l4, .int l5, .int l6] [] ((zua (zua (zua (zua (zua (zua ar 17 b17) 18 b18) 19 b19) 20 b20) 21 b21) 22 b22), (zuf (zuf (zuf (zuf (zuf (zuf (zuf fi 16 6 c16_6) 16 7 c16_7) 16 8 c16_8) 47 1 c47_1) 47 2 c47_2) 47 3 c47_3) 47 4 c47_4), (m1, m2, m3, m4, 1)) = (
  bif decide (16 < l6) then
   zl (W_tx_answerOr l4 c47_2 c47_3) (fun v5 =>
   some (.inr (some (.int v5), ((zua (zua (zua (zua (zua (zua ar 17 b17) 18 b18) 19 b19) 20 b20) 21 b21) 22 b22), (zuf (zuf (zuf (zuf (zuf (zuf (zuf fi 16 6 c16_6) 16 7 c16_7) 16 8 c16_8) 47 1 c47_1) 47 2 c47_2) 47 3 c47_3) 47 4 c47_4), (m1, m2, m3, m4, 1)))))
  else
   bif decide (l5 = 0) then
    zl (W_tx_answerOr l4 c47_2 c47_3) (fun v6 =>
    some (.inr (some (.int v6), ((zua (zua (zua (zua (zua (zua ar 17 b17) 18 b18) 19 b19) 20 b20) 21 b21) 22 b22), (zuf (zuf (zuf (zuf (zuf (zuf (zuf fi 16 6 c16_6) 16 7 c16_7) 16 8 c16_8) 47 1 c47_1) 47 2 c47_2) 47 3 c47_3) 47 4 c47_4), (m1, m2, m3, m4, 1)))))
   else
    zl (Q_od_readLine l6 (ar 1) b17 b18 b19 b20 b21 b22 c16_6 c16_7 c16_8 c47_1 c47_2 c47_3 c47_4) (fun v7 => zg v7.isSome (
    zg (G_tx_sign (((zgt v7).2.2.2.2.2.2.2.2.2.1)) (((zgt v7).2.2.2.2.2.2.2.2.2.2.2)) c47_1 (ar 1)) (
    zl (W_tx_sign (((zgt v7).2.2.2.2.2.2.2.2.2.1)) (((zgt v7).2.2.2.2.2.2.2.2.2.2.2)) c47_1 (ar 1)) (fun v8 =>
    bif !decide (v8 = 59) then
     some (.inl (18, [.ref 46, .ref 1, .int y, .ref 16, .int (l4 + 1), .int 0, .int (l6 + 1)], [], ((zua (zua (zua (zua (zua (zua (zua (zua (zua (zua (zua (zua ar 17 b17) 18 b18) 19 b19) 20 b20) 21 b21) 22 b22) 17 (((zgt v7).1))) 18 (((zgt v7).2.1))) 19 (((zgt v7).2.2.1))) 20 (((zgt v7).2.2.2.1))) 21 (((zgt v7).2.2.2.2.1))) 22 (((zgt v7).2.2.2.2.2.1))), (zuf (zuf (zuf (zuf (zuf (zuf (zuf (zuf (zuf (zuf (zuf (zuf (zuf fi 16 6 c16_6) 16 7 c16_7) 16 8 c16_8) 47 1 c47_1) 47 2 c47_2) 47 3 c47_3) 47 4 c47_4) 16 6 (((zgt v7).2.2.2.2.2.2.1))) 16 7 (((zgt v7).2.2.2.2.2.2.2.1))) 16 8 (((zgt v7).2.2.2.2.2.2.2.2.1))) 47 2 (((zgt v7).2.2.2.2.2.2.2.2.2.1))) 47 3 (((zgt v7).2.2.2.2.2.2.2.2.2.2.1))) 47 4 (((zgt v7).2.2.2.2.2.2.2.2.2.2.2))), (m1, m2, m3, m4, 1))))
    else
     zl (F0_tx_skip (((zgt v7).2.2.2.2.2.2.2.2.2.2.2))) (fun v9 =>
     some (.inl (18, [.ref 46, .ref 1, .int y, .ref 16, .int (l4 + 1), .int 1, .int (l6 + 1)], [], ((zua (zua (zua (zua (zua (zua (zua (zua (zua (zua (zua (zua ar 17 b17) 18 b18) 19 b19) 20 b20) 21 b21) 22 b22) 17 (((zgt v7).1))) 18 (((zgt v7).2.1))) 19 (((zgt v7).2.2.1))) 20 (((zgt v7).2.2.2.1))) 21 (((zgt v7).2.2.2.2.1))) 22 (((zgt v7).2.2.2.2.2.1))), (zuf (zuf (zuf (zuf (zuf (zuf (zuf (zuf (zuf (zuf (zuf (zuf (zuf (zuf fi 16 6 c16_6) 16 7 c16_7) 16 8 c16_8) 47 1 c47_1) 47 2 c47_2) 47 3 c47_3) 47 4 c47_4) 16 6 (((zgt v7).2.2.2.2.2.2.1))) 16 7 (((zgt v7).2.2.2.2.2.2.2.1))) 16 8 (((zgt v7).2.2.2.2.2.2.2.2.1))) 47 2 (((zgt v7).2.2.2.2.2.2.2.2.2.1))) 47 3 (((zgt v7).2.2.2.2.2.2.2.2.2.2.1))) 47 4 (((zgt v7).2.2.2.2.2.2.2.2.2.2.2))) 47 4 v9), (m1, m2, m3, m4, 1))))))))) : Option ((Nat × List Value × List Value × zH2) ⊕ zO2)) := rfl
theorem k_od_read_18 {X : Nat × (Nat → Int32)} {ar fi : Nat → Nat → Int32} {m1 m2 m3 m4 m5 : Nat} {y : Int32} {c47_1 : Int32} {o : zO2} : ∀ (s : U_od_read_18) (q : U_od_read_18 ⊕ T_od_read), f_od_read_18 (ar 1) c47_1 s = some q → zq (M_od_read_18 X (zEx 90 S_tx_begin (zEx 57 S_od_readLine (zEx 93 S_tx_sign (zEx 95 S_tx_skip (zEx 99 S_tx_answerOr zE0))))) ar fi m1 m2 m3 m4 m5 y c47_1 o) (fun t => O_od_read ar fi m1 m2 m3 m4 m5 t = o) q → M_od_read_18 X (zEx 90 S_tx_begin (zEx 57 S_od_readLine (zEx 93 S_tx_sign (zEx 95 S_tx_skip (zEx 99 S_tx_answerOr zE0))))) ar fi m1 m2 m3 m4 m5 y c47_1 o s := by
  intro s q h hq
  obtain ⟨l4, l5, l6, b17, b18, b19, b20, b21, b22, c16_6, c16_7, c16_8, c47_2, c47_3, c47_4⟩ := s
  have h : b_od_read_18 (ar 1) c47_1 l4 l5 l6 b17 b18 b19 b20 b21 b22 c16_6 c16_7 c16_8 c47_2 c47_3 c47_4 = some q := h
  unfold b_od_read_18 at h
  show zR2 X zFT (zEx 90 S_tx_begin (zEx 57 S_od_readLine (zEx 93 S_tx_sign (zEx 95 S_tx_skip (zEx 99 S_tx_answerOr zE0))))) zc_56 18 [.ref 46, .ref 1, .int y, .ref 16, .int l4, .int l5, .int l6] [] ((zua (zua (zua (zua (zua (zua ar 17 b17) 18 b18) 19 b19) 20 b20) 21 b21) 22 b22), (zuf (zuf (zuf (zuf (zuf (zuf (zuf fi 16 6 c16_6) 16 7 c16_7) 16 8 c16_8) 47 1 c47_1) 47 2 c47_2) 47 3 c47_3) 47 4 c47_4), (m1, m2, m3, m4, 1)) o
  refine zT_seg t18_od_read ?_
  refine zb_el h (fun hb h => zT_t hb ?_) (fun hb h => zT_f hb ?_)
  · refine zl_el h (fun h => zT_l ?_)
    have hz := zsi h hq
    refine (zO_mk ?_ ?_).trans hz
    · first | with_reducible rfl | (exact zuas_eq _ [(17, _), (18, _), (19, _), (20, _), (21, _), (22, _)] [(17, _), (18, _), (19, _), (20, _), (21, _), (22, _)] [17, 18, 19, 20, 21, 22] rfl rfl ⟨rfl, rfl, rfl, rfl, rfl, rfl, trivial⟩)
    · first | with_reducible rfl | (exact zufs_eq _ [(16, 6, _), (16, 7, _), (16, 8, _), (47, 1, _), (47, 2, _), (47, 3, _), (47, 4, _)] [(16, 6, _), (16, 7, _), (16, 8, _), (47, 1, _), (47, 2, _), (47, 3, _), (47, 4, _)] [(16, 6), (16, 7), (16, 8), (47, 1), (47, 2), (47, 3), (47, 4)] rfl rfl ⟨rfl, rfl, rfl, rfl, rfl, rfl, rfl, trivial⟩)
  · refine zb_el h (fun hb h => zT_t hb ?_) (fun hb h => zT_f hb ?_)
    · refine zl_el h (fun h => zT_l ?_)
      have hz := zsi h hq
      refine (zO_mk ?_ ?_).trans hz
      · first | with_reducible rfl | (exact zuas_eq _ [(17, _), (18, _), (19, _), (20, _), (21, _), (22, _)] [(17, _), (18, _), (19, _), (20, _), (21, _), (22, _)] [17, 18, 19, 20, 21, 22] rfl rfl ⟨rfl, rfl, rfl, rfl, rfl, rfl, trivial⟩)
      · first | with_reducible rfl | (exact zufs_eq _ [(16, 6, _), (16, 7, _), (16, 8, _), (47, 1, _), (47, 2, _), (47, 3, _), (47, 4, _)] [(16, 6, _), (16, 7, _), (16, 8, _), (47, 1, _), (47, 2, _), (47, 3, _), (47, 4, _)] [(16, 6), (16, 7), (16, 8), (47, 1), (47, 2), (47, 3), (47, 4)] rfl rfl ⟨rfl, rfl, rfl, rfl, rfl, rfl, rfl, trivial⟩)
    · refine zbd_el h (fun v7 hv h => zT_c hv ?_)
      refine zg_el h (fun hg h => zT_g hg ?_)
      refine zl_el h (fun h => zT_l ?_)
      refine zb_el h (fun hb h => zT_t hb ?_) (fun hb h => zT_f hb ?_)
      · have hz := zsi h hq
        refine zR2_hp ?_ ?_ hz
        · first | with_reducible rfl | (exact zuas_eq _ [(17, _), (18, _), (19, _), (20, _), (21, _), (22, _), (17, _), (18, _), (19, _), (20, _), (21, _), (22, _)] [(17, _), (18, _), (19, _), (20, _), (21, _), (22, _)] [17, 18, 19, 20, 21, 22] rfl rfl ⟨rfl, rfl, rfl, rfl, rfl, rfl, trivial⟩)
        · first | with_reducible rfl | (exact zufs_eq _ [(16, 6, _), (16, 7, _), (16, 8, _), (47, 1, _), (47, 2, _), (47, 3, _), (47, 4, _), (16, 6, _), (16, 7, _), (16, 8, _), (47, 2, _), (47, 3, _), (47, 4, _)] [(16, 6, _), (16, 7, _), (16, 8, _), (47, 1, _), (47, 2, _), (47, 3, _), (47, 4, _)] [(16, 6), (16, 7), (16, 8), (47, 1), (47, 2), (47, 3), (47, 4)] rfl rfl ⟨rfl, rfl, rfl, rfl, rfl, rfl, rfl, trivial⟩)
      · refine zl_el h (fun h => zT_l ?_)
        have hz := zsi h hq
        refine zR2_hp ?_ ?_ hz
        · first | with_reducible rfl | (exact zuas_eq _ [(17, _), (18, _), (19, _), (20, _), (21, _), (22, _), (17, _), (18, _), (19, _), (20, _), (21, _), (22, _)] [(17, _), (18, _), (19, _), (20, _), (21, _), (22, _)] [17, 18, 19, 20, 21, 22] rfl rfl ⟨rfl, rfl, rfl, rfl, rfl, rfl, trivial⟩)
        · first | with_reducible rfl | (exact zufs_eq _ [(16, 6, _), (16, 7, _), (16, 8, _), (47, 1, _), (47, 2, _), (47, 3, _), (47, 4, _), (16, 6, _), (16, 7, _), (16, 8, _), (47, 2, _), (47, 3, _), (47, 4, _), (47, 4, _)] [(16, 6, _), (16, 7, _), (16, 8, _), (47, 1, _), (47, 2, _), (47, 3, _), (47, 4, _)] [(16, 6), (16, 7), (16, 8), (47, 1), (47, 2), (47, 3), (47, 4)] rfl rfl ⟨rfl, rfl, rfl, rfl, rfl, rfl, rfl, trivial⟩)
set_option maxRecDepth 20000 in
theorem t_od_read {X : Nat × (Nat → Int32)} {ar fi : Nat → Nat → Int32} {m1 m2 m3 m4 m5 : Nat} {y : Int32} {F0_tx_begin : Int32 → Int32} {F1_tx_begin : Int32 → Int32} {F2_tx_begin : Int32 → Int32} {F3_tx_begin : Int32 → Int32} {Q_od_readLine : Int32 → (Nat → Int32) → (Nat → Int32) → (Nat → Int32) → (Nat → Int32) → (Nat → Int32) → (Nat → Int32) → (Nat → Int32) → Int32 → Int32 → Int32 → Int32 → Int32 → Int32 → Int32 → Option ((Nat → Int32) × (Nat → Int32) × (Nat → Int32) × (Nat → Int32) × (Nat → Int32) × (Nat → Int32) × Int32 × Int32 × Int32 × Int32 × Int32 × Int32)} {G_tx_sign : Int32 → Int32 → Int32 → (Nat → Int32) → Bool} {W_tx_sign : Int32 → Int32 → Int32 → (Nat → Int32) → Int32} {F0_tx_skip : Int32 → Int32} {W_tx_answerOr : Int32 → Int32 → Int32 → Int32} : zseg X zFT (zEx 90 (P_tx_begin F0_tx_begin F1_tx_begin F2_tx_begin F3_tx_begin) (zEx 57 (P_od_readLine Q_od_readLine) (zEx 93 (P_tx_sign G_tx_sign W_tx_sign) (zEx 95 (P_tx_skip F0_tx_skip) (zEx 99 (P_tx_answerOr W_tx_answerOr) zE0))))) zc_56 (fun p => Nat.beq p 18) 400 0 [.ref 46, .ref 1, .int y, .ref 16] [] (ar, fi, (m1, m2, m3, m4, m5)) = (
  zl (F0_tx_begin y) (fun v1 =>
  zl (F1_tx_begin y) (fun v2 =>
  zl (F2_tx_begin y) (fun v3 =>
  zl (F3_tx_begin y) (fun v4 =>
  some (.inl (18, [.ref 46, .ref 1, .int y, .ref 16, .int 0, .int 1, .int 0], [], (ar, (zuf (zuf (zuf (zuf fi 47 1 v1) 47 2 v2) 47 3 v3) 47 4 v4), (m1, m2, m3, m4, 1)))))))) : Option ((Nat × List Value × List Value × zH2) ⊕ zO2)) := rfl
theorem e_od_read {X : Nat × (Nat → Int32)} {ar fi : Nat → Nat → Int32} {m1 m2 m3 m4 m5 : Nat} {y : Int32} {o : zO2} : ∀ (q : T_od_read), q_od_read y (ar 1) (ar 17) (ar 18) (ar 19) (ar 20) (ar 21) (ar 22) (fi 16 6) (fi 16 7) (fi 16 8) = some q → (fun t => O_od_read ar fi m1 m2 m3 m4 m5 t = o) q → zR2 X zFT (zEx 90 S_tx_begin (zEx 57 S_od_readLine (zEx 93 S_tx_sign (zEx 95 S_tx_skip (zEx 99 S_tx_answerOr zE0))))) zc_56 0 [.ref 46, .ref 1, .int y, .ref 16] [] (ar, fi, (m1, m2, m3, m4, m5)) o := by
  intro q h hq
  unfold q_od_read at h
  refine zT_seg t_od_read ?_
  refine zl_el h (fun h => zT_l ?_)
  refine zl_el h (fun h => zT_l ?_)
  refine zl_el h (fun h => zT_l ?_)
  refine zl_el h (fun h => zT_l ?_)
  refine zR2_hp ?_ ?_ (zlp_K k_od_read_18 h hq)
  · first | with_reducible rfl | (exact zuas_eq _ [] [(17, _), (18, _), (19, _), (20, _), (21, _), (22, _)] [17, 18, 19, 20, 21, 22] rfl rfl ⟨rfl, rfl, rfl, rfl, rfl, rfl, trivial⟩)
  · first | with_reducible rfl | (exact zufs_eq _ [(47, 1, _), (47, 2, _), (47, 3, _), (47, 4, _)] [(16, 6, _), (16, 7, _), (16, 8, _), (47, 1, _), (47, 2, _), (47, 3, _), (47, 4, _)] [(16, 6), (16, 7), (16, 8), (47, 1), (47, 2), (47, 3), (47, 4)] rfl rfl ⟨rfl, rfl, rfl, rfl, rfl, rfl, rfl, trivial⟩)
theorem ok_od_read (X : Nat × (Nat → Int32)) : zOkS X 56 S_od_read 7 := zOkS_new (zOkE_cons (ok_tx_begin X) (by decide) (zOkE_cons (ok_od_readLine X) (by decide) (zOkE_cons (ok_tx_sign X) (by decide) (zOkE_cons (ok_tx_skip X) (by decide) (zOkE_cons (ok_tx_answerOr X) (by decide) (zOkE_nil X 6)))))) (by
  intro args g o h
  obtain ⟨ar, fi, m1, m2, m3, m4, m5⟩ := g
  unfold S_od_read P_od_read at h
  split at h
  · refine zb_el h (fun hI0 k0 => ?_) (fun _ h10 => ?_)
    · try simp only [Bool.and_eq_true] at hI0
      obtain ⟨⟨j0, j1⟩, j2⟩ := hI0
      have e0 := Nat.eq_of_beq_eq_true j0
      subst e0
      have e1 := Nat.eq_of_beq_eq_true j1
      subst e1
      have e2 := Nat.eq_of_beq_eq_true j2
      subst e2
      exact zpe_el k0 (fun t ht ho => e_od_read t ht ho)
    · cases h10
  · cases h)
abbrev T_if_orders : Type := Int32 × (Nat → Int32) × (Nat → Int32) × (Nat → Int32) × (Nat → Int32) × (Nat → Int32) × (Nat → Int32) × (Nat → Int32) × (Nat → Int32) × (Nat → Int32) × (Nat → Int32) × (Nat → Int32) × (Nat → Int32) × Int32 × Int32 × Int32 × Int32 × Int32 × Int32 × Int32 × Int32 × Int32 × Int32 × Int32 × Int32 × Int32 × Int32 × Int32 × Nat
noncomputable def q_if_orders (x : Int32) (a1 : Nat → Int32) (a3 : Nat → Int32) (a4 : Nat → Int32) (a5 : Nat → Int32) (a6 : Nat → Int32) (a7 : Nat → Int32) (a8 : Nat → Int32) (a17 : Nat → Int32) (a18 : Nat → Int32) (a19 : Nat → Int32) (a20 : Nat → Int32) (a21 : Nat → Int32) (a22 : Nat → Int32) (f0_1 : Int32) (f2_6 : Int32) (f2_7 : Int32) (f2_8 : Int32) (f2_9 : Int32) (f2_10 : Int32) (f16_6 : Int32) (f16_7 : Int32) (f16_8 : Int32) (f16_9 : Int32) (f16_10 : Int32) (f47_1 : Int32) (f47_2 : Int32) (f47_3 : Int32) (f47_4 : Int32) : Option T_if_orders :=
  zl (w_if_canTake x 1 120 (f0_1)) (fun v1 =>
  bif !decide (v1 = 0) then
   zl (a0_sc_copyFrom a3 a17 a4 a18 a5 a19 a6 a20 a7 a21 a8 a22 (f2_6) (f2_7) (f2_8) (f2_9) (f2_10)) (fun v2 =>
   zl (a1_sc_copyFrom a3 a17 a4 a18 a5 a19 a6 a20 a7 a21 a8 a22 (f2_6) (f2_7) (f2_8) (f2_9) (f2_10)) (fun v3 =>
   zl (a2_sc_copyFrom a3 a17 a4 a18 a5 a19 a6 a20 a7 a21 a8 a22 (f2_6) (f2_7) (f2_8) (f2_9) (f2_10)) (fun v4 =>
   zl (a3_sc_copyFrom a3 a17 a4 a18 a5 a19 a6 a20 a7 a21 a8 a22 (f2_6) (f2_7) (f2_8) (f2_9) (f2_10)) (fun v5 =>
   zl (a4_sc_copyFrom a3 a17 a4 a18 a5 a19 a6 a20 a7 a21 a8 a22 (f2_6) (f2_7) (f2_8) (f2_9) (f2_10)) (fun v6 =>
   zl (a5_sc_copyFrom a3 a17 a4 a18 a5 a19 a6 a20 a7 a21 a8 a22 (f2_6) (f2_7) (f2_8) (f2_9) (f2_10)) (fun v7 =>
   zl (f0_sc_copyFrom a3 a17 a4 a18 a5 a19 a6 a20 a7 a21 a8 a22 (f2_6) (f2_7) (f2_8) (f2_9) (f2_10)) (fun v8 =>
   zl (f1_sc_copyFrom a3 a17 a4 a18 a5 a19 a6 a20 a7 a21 a8 a22 (f2_6) (f2_7) (f2_8) (f2_9) (f2_10)) (fun v9 =>
   zl (f2_sc_copyFrom a3 a17 a4 a18 a5 a19 a6 a20 a7 a21 a8 a22 (f2_6) (f2_7) (f2_8) (f2_9) (f2_10)) (fun v10 =>
   zl (f3_sc_copyFrom a3 a17 a4 a18 a5 a19 a6 a20 a7 a21 a8 a22 (f2_6) (f2_7) (f2_8) (f2_9) (f2_10)) (fun v11 =>
   zl (f4_sc_copyFrom a3 a17 a4 a18 a5 a19 a6 a20 a7 a21 a8 a22 (f2_6) (f2_7) (f2_8) (f2_9) (f2_10)) (fun v12 =>
   zbd (q_od_read x a1 v2 v3 v4 v5 v6 v7 v8 v9 v10) (fun v13 =>
   bif decide ((v13.1) < 0) then
    some ((v13.1), a3, a4, a5, a6, a7, a8, ((v13.2.1)), ((v13.2.2.1)), ((v13.2.2.2.1)), ((v13.2.2.2.2.1)), ((v13.2.2.2.2.2.1)), ((v13.2.2.2.2.2.2.1)), 0, f2_6, f2_7, f2_8, f2_9, f2_10, (v13.2.2.2.2.2.2.2.1), (v13.2.2.2.2.2.2.2.2.1), (v13.2.2.2.2.2.2.2.2.2.1), v11, v12, (v13.2.2.2.2.2.2.2.2.2.2.1), (v13.2.2.2.2.2.2.2.2.2.2.2.1), (v13.2.2.2.2.2.2.2.2.2.2.2.2.1), (v13.2.2.2.2.2.2.2.2.2.2.2.2.2), 0)
   else
    zl (a0_sc_copyFrom ((v13.2.1)) a3 ((v13.2.2.1)) a4 ((v13.2.2.2.1)) a5 ((v13.2.2.2.2.1)) a6 ((v13.2.2.2.2.2.1)) a7 ((v13.2.2.2.2.2.2.1)) a8 ((v13.2.2.2.2.2.2.2.1)) ((v13.2.2.2.2.2.2.2.2.1)) ((v13.2.2.2.2.2.2.2.2.2.1)) v11 v12) (fun v14 =>
    zl (a1_sc_copyFrom ((v13.2.1)) a3 ((v13.2.2.1)) a4 ((v13.2.2.2.1)) a5 ((v13.2.2.2.2.1)) a6 ((v13.2.2.2.2.2.1)) a7 ((v13.2.2.2.2.2.2.1)) a8 ((v13.2.2.2.2.2.2.2.1)) ((v13.2.2.2.2.2.2.2.2.1)) ((v13.2.2.2.2.2.2.2.2.2.1)) v11 v12) (fun v15 =>
    zl (a2_sc_copyFrom ((v13.2.1)) a3 ((v13.2.2.1)) a4 ((v13.2.2.2.1)) a5 ((v13.2.2.2.2.1)) a6 ((v13.2.2.2.2.2.1)) a7 ((v13.2.2.2.2.2.2.1)) a8 ((v13.2.2.2.2.2.2.2.1)) ((v13.2.2.2.2.2.2.2.2.1)) ((v13.2.2.2.2.2.2.2.2.2.1)) v11 v12) (fun v16 =>
    zl (a3_sc_copyFrom ((v13.2.1)) a3 ((v13.2.2.1)) a4 ((v13.2.2.2.1)) a5 ((v13.2.2.2.2.1)) a6 ((v13.2.2.2.2.2.1)) a7 ((v13.2.2.2.2.2.2.1)) a8 ((v13.2.2.2.2.2.2.2.1)) ((v13.2.2.2.2.2.2.2.2.1)) ((v13.2.2.2.2.2.2.2.2.2.1)) v11 v12) (fun v17 =>
    zl (a4_sc_copyFrom ((v13.2.1)) a3 ((v13.2.2.1)) a4 ((v13.2.2.2.1)) a5 ((v13.2.2.2.2.1)) a6 ((v13.2.2.2.2.2.1)) a7 ((v13.2.2.2.2.2.2.1)) a8 ((v13.2.2.2.2.2.2.2.1)) ((v13.2.2.2.2.2.2.2.2.1)) ((v13.2.2.2.2.2.2.2.2.2.1)) v11 v12) (fun v18 =>
    zl (a5_sc_copyFrom ((v13.2.1)) a3 ((v13.2.2.1)) a4 ((v13.2.2.2.1)) a5 ((v13.2.2.2.2.1)) a6 ((v13.2.2.2.2.2.1)) a7 ((v13.2.2.2.2.2.2.1)) a8 ((v13.2.2.2.2.2.2.2.1)) ((v13.2.2.2.2.2.2.2.2.1)) ((v13.2.2.2.2.2.2.2.2.2.1)) v11 v12) (fun v19 =>
    zl (f0_sc_copyFrom ((v13.2.1)) a3 ((v13.2.2.1)) a4 ((v13.2.2.2.1)) a5 ((v13.2.2.2.2.1)) a6 ((v13.2.2.2.2.2.1)) a7 ((v13.2.2.2.2.2.2.1)) a8 ((v13.2.2.2.2.2.2.2.1)) ((v13.2.2.2.2.2.2.2.2.1)) ((v13.2.2.2.2.2.2.2.2.2.1)) v11 v12) (fun v20 =>
    zl (f1_sc_copyFrom ((v13.2.1)) a3 ((v13.2.2.1)) a4 ((v13.2.2.2.1)) a5 ((v13.2.2.2.2.1)) a6 ((v13.2.2.2.2.2.1)) a7 ((v13.2.2.2.2.2.2.1)) a8 ((v13.2.2.2.2.2.2.2.1)) ((v13.2.2.2.2.2.2.2.2.1)) ((v13.2.2.2.2.2.2.2.2.2.1)) v11 v12) (fun v21 =>
    zl (f2_sc_copyFrom ((v13.2.1)) a3 ((v13.2.2.1)) a4 ((v13.2.2.2.1)) a5 ((v13.2.2.2.2.1)) a6 ((v13.2.2.2.2.2.1)) a7 ((v13.2.2.2.2.2.2.1)) a8 ((v13.2.2.2.2.2.2.2.1)) ((v13.2.2.2.2.2.2.2.2.1)) ((v13.2.2.2.2.2.2.2.2.2.1)) v11 v12) (fun v22 =>
    zl (f3_sc_copyFrom ((v13.2.1)) a3 ((v13.2.2.1)) a4 ((v13.2.2.2.1)) a5 ((v13.2.2.2.2.1)) a6 ((v13.2.2.2.2.2.1)) a7 ((v13.2.2.2.2.2.2.1)) a8 ((v13.2.2.2.2.2.2.2.1)) ((v13.2.2.2.2.2.2.2.2.1)) ((v13.2.2.2.2.2.2.2.2.2.1)) v11 v12) (fun v23 =>
    zl (f4_sc_copyFrom ((v13.2.1)) a3 ((v13.2.2.1)) a4 ((v13.2.2.2.1)) a5 ((v13.2.2.2.2.1)) a6 ((v13.2.2.2.2.2.1)) a7 ((v13.2.2.2.2.2.2.1)) a8 ((v13.2.2.2.2.2.2.2.1)) ((v13.2.2.2.2.2.2.2.2.1)) ((v13.2.2.2.2.2.2.2.2.2.1)) v11 v12) (fun v24 =>
    some ((v13.1), v14, v15, v16, v17, v18, v19, ((v13.2.1)), ((v13.2.2.1)), ((v13.2.2.2.1)), ((v13.2.2.2.2.1)), ((v13.2.2.2.2.2.1)), ((v13.2.2.2.2.2.2.1)), 0, v20, v21, v22, v23, v24, (v13.2.2.2.2.2.2.2.1), (v13.2.2.2.2.2.2.2.2.1), (v13.2.2.2.2.2.2.2.2.2.1), v11, v12, (v13.2.2.2.2.2.2.2.2.2.2.1), (v13.2.2.2.2.2.2.2.2.2.2.2.1), (v13.2.2.2.2.2.2.2.2.2.2.2.2.1), (v13.2.2.2.2.2.2.2.2.2.2.2.2.2), 0))))))))))))))))))))))))
  else
   some ((-1), a3, a4, a5, a6, a7, a8, a17, a18, a19, a20, a21, a22, f0_1, f2_6, f2_7, f2_8, f2_9, f2_10, f16_6, f16_7, f16_8, f16_9, f16_10, f47_1, f47_2, f47_3, f47_4, 1))
def P_if_orders (Q : Int32 → (Nat → Int32) → (Nat → Int32) → (Nat → Int32) → (Nat → Int32) → (Nat → Int32) → (Nat → Int32) → (Nat → Int32) → (Nat → Int32) → (Nat → Int32) → (Nat → Int32) → (Nat → Int32) → (Nat → Int32) → (Nat → Int32) → Int32 → Int32 → Int32 → Int32 → Int32 → Int32 → Int32 → Int32 → Int32 → Int32 → Int32 → Int32 → Int32 → Int32 → Int32 → Option (Int32 × (Nat → Int32) × (Nat → Int32) × (Nat → Int32) × (Nat → Int32) × (Nat → Int32) × (Nat → Int32) × (Nat → Int32) × (Nat → Int32) × (Nat → Int32) × (Nat → Int32) × (Nat → Int32) × (Nat → Int32) × Int32 × Int32 × Int32 × Int32 × Int32 × Int32 × Int32 × Int32 × Int32 × Int32 × Int32 × Int32 × Int32 × Int32 × Int32 × Nat)) : zSp := fun as g => match as with
  | [.ref a, .int x] => bif Nat.beq a 0 then zpe (Q x (g.1 1) (g.1 3) (g.1 4) (g.1 5) (g.1 6) (g.1 7) (g.1 8) (g.1 17) (g.1 18) (g.1 19) (g.1 20) (g.1 21) (g.1 22) (g.2.1 0 1) (g.2.1 2 6) (g.2.1 2 7) (g.2.1 2 8) (g.2.1 2 9) (g.2.1 2 10) (g.2.1 16 6) (g.2.1 16 7) (g.2.1 16 8) (g.2.1 16 9) (g.2.1 16 10) (g.2.1 47 1) (g.2.1 47 2) (g.2.1 47 3) (g.2.1 47 4)) (fun t => (some (.int (t.1)), ((zua (zua (zua (zua (zua (zua (zua (zua (zua (zua (zua (zua g.1 3 t.2.1) 4 t.2.2.1) 5 t.2.2.2.1) 6 t.2.2.2.2.1) 7 t.2.2.2.2.2.1) 8 t.2.2.2.2.2.2.1) 17 t.2.2.2.2.2.2.2.1) 18 t.2.2.2.2.2.2.2.2.1) 19 t.2.2.2.2.2.2.2.2.2.1) 20 t.2.2.2.2.2.2.2.2.2.2.1) 21 t.2.2.2.2.2.2.2.2.2.2.2.1) 22 t.2.2.2.2.2.2.2.2.2.2.2.2.1), (zuf (zuf (zuf (zuf (zuf (zuf (zuf (zuf (zuf (zuf (zuf (zuf (zuf (zuf (zuf g.2.1 0 1 t.2.2.2.2.2.2.2.2.2.2.2.2.2.1) 2 6 t.2.2.2.2.2.2.2.2.2.2.2.2.2.2.1) 2 7 t.2.2.2.2.2.2.2.2.2.2.2.2.2.2.2.1) 2 8 t.2.2.2.2.2.2.2.2.2.2.2.2.2.2.2.2.1) 2 9 t.2.2.2.2.2.2.2.2.2.2.2.2.2.2.2.2.2.1) 2 10 t.2.2.2.2.2.2.2.2.2.2.2.2.2.2.2.2.2.2.1) 16 6 t.2.2.2.2.2.2.2.2.2.2.2.2.2.2.2.2.2.2.2.1) 16 7 t.2.2.2.2.2.2.2.2.2.2.2.2.2.2.2.2.2.2.2.2.1) 16 8 t.2.2.2.2.2.2.2.2.2.2.2.2.2.2.2.2.2.2.2.2.2.1) 16 9 t.2.2.2.2.2.2.2.2.2.2.2.2.2.2.2.2.2.2.2.2.2.2.1) 16 10 t.2.2.2.2.2.2.2.2.2.2.2.2.2.2.2.2.2.2.2.2.2.2.2.1) 47 1 t.2.2.2.2.2.2.2.2.2.2.2.2.2.2.2.2.2.2.2.2.2.2.2.2.1) 47 2 t.2.2.2.2.2.2.2.2.2.2.2.2.2.2.2.2.2.2.2.2.2.2.2.2.2.1) 47 3 t.2.2.2.2.2.2.2.2.2.2.2.2.2.2.2.2.2.2.2.2.2.2.2.2.2.2.1) 47 4 t.2.2.2.2.2.2.2.2.2.2.2.2.2.2.2.2.2.2.2.2.2.2.2.2.2.2.2.1), (bif Nat.beq t.2.2.2.2.2.2.2.2.2.2.2.2.2.2.2.2.2.2.2.2.2.2.2.2.2.2.2.2 0 then (g.2.2.1, g.2.2.2.1, g.2.2.2.2.1, g.2.2.2.2.2.1, 1) else (g.2.2.1, g.2.2.2.1, g.2.2.2.2.1, g.2.2.2.2.2.1, g.2.2.2.2.2.2))))) else none
  | _ => none
noncomputable abbrev S_if_orders : zSp := P_if_orders q_if_orders
def O_if_orders (ar fi : Nat → Nat → Int32) (m1 : Nat) (m2 : Nat) (m3 : Nat) (m4 : Nat) (m5 : Nat) (t : T_if_orders) : zO2 := (some (.int (t.1)), ((zua (zua (zua (zua (zua (zua (zua (zua (zua (zua (zua (zua ar 3 t.2.1) 4 t.2.2.1) 5 t.2.2.2.1) 6 t.2.2.2.2.1) 7 t.2.2.2.2.2.1) 8 t.2.2.2.2.2.2.1) 17 t.2.2.2.2.2.2.2.1) 18 t.2.2.2.2.2.2.2.2.1) 19 t.2.2.2.2.2.2.2.2.2.1) 20 t.2.2.2.2.2.2.2.2.2.2.1) 21 t.2.2.2.2.2.2.2.2.2.2.2.1) 22 t.2.2.2.2.2.2.2.2.2.2.2.2.1), (zuf (zuf (zuf (zuf (zuf (zuf (zuf (zuf (zuf (zuf (zuf (zuf (zuf (zuf (zuf fi 0 1 t.2.2.2.2.2.2.2.2.2.2.2.2.2.1) 2 6 t.2.2.2.2.2.2.2.2.2.2.2.2.2.2.1) 2 7 t.2.2.2.2.2.2.2.2.2.2.2.2.2.2.2.1) 2 8 t.2.2.2.2.2.2.2.2.2.2.2.2.2.2.2.2.1) 2 9 t.2.2.2.2.2.2.2.2.2.2.2.2.2.2.2.2.2.1) 2 10 t.2.2.2.2.2.2.2.2.2.2.2.2.2.2.2.2.2.2.1) 16 6 t.2.2.2.2.2.2.2.2.2.2.2.2.2.2.2.2.2.2.2.1) 16 7 t.2.2.2.2.2.2.2.2.2.2.2.2.2.2.2.2.2.2.2.2.1) 16 8 t.2.2.2.2.2.2.2.2.2.2.2.2.2.2.2.2.2.2.2.2.2.1) 16 9 t.2.2.2.2.2.2.2.2.2.2.2.2.2.2.2.2.2.2.2.2.2.2.1) 16 10 t.2.2.2.2.2.2.2.2.2.2.2.2.2.2.2.2.2.2.2.2.2.2.2.1) 47 1 t.2.2.2.2.2.2.2.2.2.2.2.2.2.2.2.2.2.2.2.2.2.2.2.2.1) 47 2 t.2.2.2.2.2.2.2.2.2.2.2.2.2.2.2.2.2.2.2.2.2.2.2.2.2.1) 47 3 t.2.2.2.2.2.2.2.2.2.2.2.2.2.2.2.2.2.2.2.2.2.2.2.2.2.2.1) 47 4 t.2.2.2.2.2.2.2.2.2.2.2.2.2.2.2.2.2.2.2.2.2.2.2.2.2.2.2.1), (bif Nat.beq t.2.2.2.2.2.2.2.2.2.2.2.2.2.2.2.2.2.2.2.2.2.2.2.2.2.2.2.2 0 then (m1, m2, m3, m4, 1) else (m1, m2, m3, m4, m5))))
set_option maxRecDepth 20000 in
theorem t_if_orders {X : Nat × (Nat → Int32)} {ar fi : Nat → Nat → Int32} {m1 m2 m3 m4 m5 : Nat} {x : Int32} {W_if_canTake : Int32 → Int32 → Int32 → Int32 → Int32} {A0_sc_copyFrom : (Nat → Int32) → (Nat → Int32) → (Nat → Int32) → (Nat → Int32) → (Nat → Int32) → (Nat → Int32) → (Nat → Int32) → (Nat → Int32) → (Nat → Int32) → (Nat → Int32) → (Nat → Int32) → (Nat → Int32) → Int32 → Int32 → Int32 → Int32 → Int32 → Nat → Int32} {A1_sc_copyFrom : (Nat → Int32) → (Nat → Int32) → (Nat → Int32) → (Nat → Int32) → (Nat → Int32) → (Nat → Int32) → (Nat → Int32) → (Nat → Int32) → (Nat → Int32) → (Nat → Int32) → (Nat → Int32) → (Nat → Int32) → Int32 → Int32 → Int32 → Int32 → Int32 → Nat → Int32} {A2_sc_copyFrom : (Nat → Int32) → (Nat → Int32) → (Nat → Int32) → (Nat → Int32) → (Nat → Int32) → (Nat → Int32) → (Nat → Int32) → (Nat → Int32) → (Nat → Int32) → (Nat → Int32) → (Nat → Int32) → (Nat → Int32) → Int32 → Int32 → Int32 → Int32 → Int32 → Nat → Int32} {A3_sc_copyFrom : (Nat → Int32) → (Nat → Int32) → (Nat → Int32) → (Nat → Int32) → (Nat → Int32) → (Nat → Int32) → (Nat → Int32) → (Nat → Int32) → (Nat → Int32) → (Nat → Int32) → (Nat → Int32) → (Nat → Int32) → Int32 → Int32 → Int32 → Int32 → Int32 → Nat → Int32} {A4_sc_copyFrom : (Nat → Int32) → (Nat → Int32) → (Nat → Int32) → (Nat → Int32) → (Nat → Int32) → (Nat → Int32) → (Nat → Int32) → (Nat → Int32) → (Nat → Int32) → (Nat → Int32) → (Nat → Int32) → (Nat → Int32) → Int32 → Int32 → Int32 → Int32 → Int32 → Nat → Int32} {A5_sc_copyFrom : (Nat → Int32) → (Nat → Int32) → (Nat → Int32) → (Nat → Int32) → (Nat → Int32) → (Nat → Int32) → (Nat → Int32) → (Nat → Int32) → (Nat → Int32) → (Nat → Int32) → (Nat → Int32) → (Nat → Int32) → Int32 → Int32 → Int32 → Int32 → Int32 → Nat → Int32} {F0_sc_copyFrom : (Nat → Int32) → (Nat → Int32) → (Nat → Int32) → (Nat → Int32) → (Nat → Int32) → (Nat → Int32) → (Nat → Int32) → (Nat → Int32) → (Nat → Int32) → (Nat → Int32) → (Nat → Int32) → (Nat → Int32) → Int32 → Int32 → Int32 → Int32 → Int32 → Int32} {F1_sc_copyFrom : (Nat → Int32) → (Nat → Int32) → (Nat → Int32) → (Nat → Int32) → (Nat → Int32) → (Nat → Int32) → (Nat → Int32) → (Nat → Int32) → (Nat → Int32) → (Nat → Int32) → (Nat → Int32) → (Nat → Int32) → Int32 → Int32 → Int32 → Int32 → Int32 → Int32} {F2_sc_copyFrom : (Nat → Int32) → (Nat → Int32) → (Nat → Int32) → (Nat → Int32) → (Nat → Int32) → (Nat → Int32) → (Nat → Int32) → (Nat → Int32) → (Nat → Int32) → (Nat → Int32) → (Nat → Int32) → (Nat → Int32) → Int32 → Int32 → Int32 → Int32 → Int32 → Int32} {F3_sc_copyFrom : (Nat → Int32) → (Nat → Int32) → (Nat → Int32) → (Nat → Int32) → (Nat → Int32) → (Nat → Int32) → (Nat → Int32) → (Nat → Int32) → (Nat → Int32) → (Nat → Int32) → (Nat → Int32) → (Nat → Int32) → Int32 → Int32 → Int32 → Int32 → Int32 → Int32} {F4_sc_copyFrom : (Nat → Int32) → (Nat → Int32) → (Nat → Int32) → (Nat → Int32) → (Nat → Int32) → (Nat → Int32) → (Nat → Int32) → (Nat → Int32) → (Nat → Int32) → (Nat → Int32) → (Nat → Int32) → (Nat → Int32) → Int32 → Int32 → Int32 → Int32 → Int32 → Int32} {Q_od_read : Int32 → (Nat → Int32) → (Nat → Int32) → (Nat → Int32) → (Nat → Int32) → (Nat → Int32) → (Nat → Int32) → (Nat → Int32) → Int32 → Int32 → Int32 → Option (Int32 × (Nat → Int32) × (Nat → Int32) × (Nat → Int32) × (Nat → Int32) × (Nat → Int32) × (Nat → Int32) × Int32 × Int32 × Int32 × Int32 × Int32 × Int32 × Int32)} : zseg X zFT (zEx 136 (P_if_canTake W_if_canTake) (zEx 67 (P_sc_copyFrom A0_sc_copyFrom A1_sc_copyFrom A2_sc_copyFrom A3_sc_copyFrom A4_sc_copyFrom A5_sc_copyFrom F0_sc_copyFrom F1_sc_copyFrom F2_sc_copyFrom F3_sc_copyFrom F4_sc_copyFrom) (zEx 56 (P_od_read Q_od_read) zE0))) zc_112 (fun p => false) 400 0 [.ref 0, .int x] [] (ar, fi, (m1, m2, m3, m4, m5)) = (
  zl (W_if_canTake x 1 120 (fi 0 1)) (fun v1 =>
  bif !decide (v1 = 0) then
   zl (A0_sc_copyFrom (ar 3) (ar 17) (ar 4) (ar 18) (ar 5) (ar 19) (ar 6) (ar 20) (ar 7) (ar 21) (ar 8) (ar 22) (fi 2 6) (fi 2 7) (fi 2 8) (fi 2 9) (fi 2 10)) (fun v2 =>
   zl (A1_sc_copyFrom (ar 3) (ar 17) (ar 4) (ar 18) (ar 5) (ar 19) (ar 6) (ar 20) (ar 7) (ar 21) (ar 8) (ar 22) (fi 2 6) (fi 2 7) (fi 2 8) (fi 2 9) (fi 2 10)) (fun v3 =>
   zl (A2_sc_copyFrom (ar 3) (ar 17) (ar 4) (ar 18) (ar 5) (ar 19) (ar 6) (ar 20) (ar 7) (ar 21) (ar 8) (ar 22) (fi 2 6) (fi 2 7) (fi 2 8) (fi 2 9) (fi 2 10)) (fun v4 =>
   zl (A3_sc_copyFrom (ar 3) (ar 17) (ar 4) (ar 18) (ar 5) (ar 19) (ar 6) (ar 20) (ar 7) (ar 21) (ar 8) (ar 22) (fi 2 6) (fi 2 7) (fi 2 8) (fi 2 9) (fi 2 10)) (fun v5 =>
   zl (A4_sc_copyFrom (ar 3) (ar 17) (ar 4) (ar 18) (ar 5) (ar 19) (ar 6) (ar 20) (ar 7) (ar 21) (ar 8) (ar 22) (fi 2 6) (fi 2 7) (fi 2 8) (fi 2 9) (fi 2 10)) (fun v6 =>
   zl (A5_sc_copyFrom (ar 3) (ar 17) (ar 4) (ar 18) (ar 5) (ar 19) (ar 6) (ar 20) (ar 7) (ar 21) (ar 8) (ar 22) (fi 2 6) (fi 2 7) (fi 2 8) (fi 2 9) (fi 2 10)) (fun v7 =>
   zl (F0_sc_copyFrom (ar 3) (ar 17) (ar 4) (ar 18) (ar 5) (ar 19) (ar 6) (ar 20) (ar 7) (ar 21) (ar 8) (ar 22) (fi 2 6) (fi 2 7) (fi 2 8) (fi 2 9) (fi 2 10)) (fun v8 =>
   zl (F1_sc_copyFrom (ar 3) (ar 17) (ar 4) (ar 18) (ar 5) (ar 19) (ar 6) (ar 20) (ar 7) (ar 21) (ar 8) (ar 22) (fi 2 6) (fi 2 7) (fi 2 8) (fi 2 9) (fi 2 10)) (fun v9 =>
   zl (F2_sc_copyFrom (ar 3) (ar 17) (ar 4) (ar 18) (ar 5) (ar 19) (ar 6) (ar 20) (ar 7) (ar 21) (ar 8) (ar 22) (fi 2 6) (fi 2 7) (fi 2 8) (fi 2 9) (fi 2 10)) (fun v10 =>
   zl (F3_sc_copyFrom (ar 3) (ar 17) (ar 4) (ar 18) (ar 5) (ar 19) (ar 6) (ar 20) (ar 7) (ar 21) (ar 8) (ar 22) (fi 2 6) (fi 2 7) (fi 2 8) (fi 2 9) (fi 2 10)) (fun v11 =>
   zl (F4_sc_copyFrom (ar 3) (ar 17) (ar 4) (ar 18) (ar 5) (ar 19) (ar 6) (ar 20) (ar 7) (ar 21) (ar 8) (ar 22) (fi 2 6) (fi 2 7) (fi 2 8) (fi 2 9) (fi 2 10)) (fun v12 =>
   zl (Q_od_read x (ar 1) v2 v3 v4 v5 v6 v7 v8 v9 v10) (fun v13 => zg v13.isSome (
   bif decide (((zgt v13).1) < 0) then
    some (.inr (some (.int (((zgt v13).1))), ((zua (zua (zua (zua (zua (zua (zua (zua (zua (zua (zua (zua ar 17 v2) 18 v3) 19 v4) 20 v5) 21 v6) 22 v7) 17 (((zgt v13).2.1))) 18 (((zgt v13).2.2.1))) 19 (((zgt v13).2.2.2.1))) 20 (((zgt v13).2.2.2.2.1))) 21 (((zgt v13).2.2.2.2.2.1))) 22 (((zgt v13).2.2.2.2.2.2.1))), (zuf (zuf (zuf (zuf (zuf (zuf (zuf (zuf (zuf (zuf (zuf (zuf (zuf fi 0 1 0) 16 6 v8) 16 7 v9) 16 8 v10) 16 9 v11) 16 10 v12) 16 6 (((zgt v13).2.2.2.2.2.2.2.1))) 16 7 (((zgt v13).2.2.2.2.2.2.2.2.1))) 16 8 (((zgt v13).2.2.2.2.2.2.2.2.2.1))) 47 1 (((zgt v13).2.2.2.2.2.2.2.2.2.2.1))) 47 2 (((zgt v13).2.2.2.2.2.2.2.2.2.2.2.1))) 47 3 (((zgt v13).2.2.2.2.2.2.2.2.2.2.2.2.1))) 47 4 (((zgt v13).2.2.2.2.2.2.2.2.2.2.2.2.2))), (m1, m2, m3, m4, 1))))
   else
    zl (A0_sc_copyFrom (((zgt v13).2.1)) (ar 3) (((zgt v13).2.2.1)) (ar 4) (((zgt v13).2.2.2.1)) (ar 5) (((zgt v13).2.2.2.2.1)) (ar 6) (((zgt v13).2.2.2.2.2.1)) (ar 7) (((zgt v13).2.2.2.2.2.2.1)) (ar 8) (((zgt v13).2.2.2.2.2.2.2.1)) (((zgt v13).2.2.2.2.2.2.2.2.1)) (((zgt v13).2.2.2.2.2.2.2.2.2.1)) v11 v12) (fun v14 =>
    zl (A1_sc_copyFrom (((zgt v13).2.1)) (ar 3) (((zgt v13).2.2.1)) (ar 4) (((zgt v13).2.2.2.1)) (ar 5) (((zgt v13).2.2.2.2.1)) (ar 6) (((zgt v13).2.2.2.2.2.1)) (ar 7) (((zgt v13).2.2.2.2.2.2.1)) (ar 8) (((zgt v13).2.2.2.2.2.2.2.1)) (((zgt v13).2.2.2.2.2.2.2.2.1)) (((zgt v13).2.2.2.2.2.2.2.2.2.1)) v11 v12) (fun v15 =>
    zl (A2_sc_copyFrom (((zgt v13).2.1)) (ar 3) (((zgt v13).2.2.1)) (ar 4) (((zgt v13).2.2.2.1)) (ar 5) (((zgt v13).2.2.2.2.1)) (ar 6) (((zgt v13).2.2.2.2.2.1)) (ar 7) (((zgt v13).2.2.2.2.2.2.1)) (ar 8) (((zgt v13).2.2.2.2.2.2.2.1)) (((zgt v13).2.2.2.2.2.2.2.2.1)) (((zgt v13).2.2.2.2.2.2.2.2.2.1)) v11 v12) (fun v16 =>
    zl (A3_sc_copyFrom (((zgt v13).2.1)) (ar 3) (((zgt v13).2.2.1)) (ar 4) (((zgt v13).2.2.2.1)) (ar 5) (((zgt v13).2.2.2.2.1)) (ar 6) (((zgt v13).2.2.2.2.2.1)) (ar 7) (((zgt v13).2.2.2.2.2.2.1)) (ar 8) (((zgt v13).2.2.2.2.2.2.2.1)) (((zgt v13).2.2.2.2.2.2.2.2.1)) (((zgt v13).2.2.2.2.2.2.2.2.2.1)) v11 v12) (fun v17 =>
    zl (A4_sc_copyFrom (((zgt v13).2.1)) (ar 3) (((zgt v13).2.2.1)) (ar 4) (((zgt v13).2.2.2.1)) (ar 5) (((zgt v13).2.2.2.2.1)) (ar 6) (((zgt v13).2.2.2.2.2.1)) (ar 7) (((zgt v13).2.2.2.2.2.2.1)) (ar 8) (((zgt v13).2.2.2.2.2.2.2.1)) (((zgt v13).2.2.2.2.2.2.2.2.1)) (((zgt v13).2.2.2.2.2.2.2.2.2.1)) v11 v12) (fun v18 =>
    zl (A5_sc_copyFrom (((zgt v13).2.1)) (ar 3) (((zgt v13).2.2.1)) (ar 4) (((zgt v13).2.2.2.1)) (ar 5) (((zgt v13).2.2.2.2.1)) (ar 6) (((zgt v13).2.2.2.2.2.1)) (ar 7) (((zgt v13).2.2.2.2.2.2.1)) (ar 8) (((zgt v13).2.2.2.2.2.2.2.1)) (((zgt v13).2.2.2.2.2.2.2.2.1)) (((zgt v13).2.2.2.2.2.2.2.2.2.1)) v11 v12) (fun v19 =>
    zl (F0_sc_copyFrom (((zgt v13).2.1)) (ar 3) (((zgt v13).2.2.1)) (ar 4) (((zgt v13).2.2.2.1)) (ar 5) (((zgt v13).2.2.2.2.1)) (ar 6) (((zgt v13).2.2.2.2.2.1)) (ar 7) (((zgt v13).2.2.2.2.2.2.1)) (ar 8) (((zgt v13).2.2.2.2.2.2.2.1)) (((zgt v13).2.2.2.2.2.2.2.2.1)) (((zgt v13).2.2.2.2.2.2.2.2.2.1)) v11 v12) (fun v20 =>
    zl (F1_sc_copyFrom (((zgt v13).2.1)) (ar 3) (((zgt v13).2.2.1)) (ar 4) (((zgt v13).2.2.2.1)) (ar 5) (((zgt v13).2.2.2.2.1)) (ar 6) (((zgt v13).2.2.2.2.2.1)) (ar 7) (((zgt v13).2.2.2.2.2.2.1)) (ar 8) (((zgt v13).2.2.2.2.2.2.2.1)) (((zgt v13).2.2.2.2.2.2.2.2.1)) (((zgt v13).2.2.2.2.2.2.2.2.2.1)) v11 v12) (fun v21 =>
    zl (F2_sc_copyFrom (((zgt v13).2.1)) (ar 3) (((zgt v13).2.2.1)) (ar 4) (((zgt v13).2.2.2.1)) (ar 5) (((zgt v13).2.2.2.2.1)) (ar 6) (((zgt v13).2.2.2.2.2.1)) (ar 7) (((zgt v13).2.2.2.2.2.2.1)) (ar 8) (((zgt v13).2.2.2.2.2.2.2.1)) (((zgt v13).2.2.2.2.2.2.2.2.1)) (((zgt v13).2.2.2.2.2.2.2.2.2.1)) v11 v12) (fun v22 =>
    zl (F3_sc_copyFrom (((zgt v13).2.1)) (ar 3) (((zgt v13).2.2.1)) (ar 4) (((zgt v13).2.2.2.1)) (ar 5) (((zgt v13).2.2.2.2.1)) (ar 6) (((zgt v13).2.2.2.2.2.1)) (ar 7) (((zgt v13).2.2.2.2.2.2.1)) (ar 8) (((zgt v13).2.2.2.2.2.2.2.1)) (((zgt v13).2.2.2.2.2.2.2.2.1)) (((zgt v13).2.2.2.2.2.2.2.2.2.1)) v11 v12) (fun v23 =>
    zl (F4_sc_copyFrom (((zgt v13).2.1)) (ar 3) (((zgt v13).2.2.1)) (ar 4) (((zgt v13).2.2.2.1)) (ar 5) (((zgt v13).2.2.2.2.1)) (ar 6) (((zgt v13).2.2.2.2.2.1)) (ar 7) (((zgt v13).2.2.2.2.2.2.1)) (ar 8) (((zgt v13).2.2.2.2.2.2.2.1)) (((zgt v13).2.2.2.2.2.2.2.2.1)) (((zgt v13).2.2.2.2.2.2.2.2.2.1)) v11 v12) (fun v24 =>
    some (.inr (some (.int (((zgt v13).1))), ((zua (zua (zua (zua (zua (zua (zua (zua (zua (zua (zua (zua (zua (zua (zua (zua (zua (zua ar 17 v2) 18 v3) 19 v4) 20 v5) 21 v6) 22 v7) 17 (((zgt v13).2.1))) 18 (((zgt v13).2.2.1))) 19 (((zgt v13).2.2.2.1))) 20 (((zgt v13).2.2.2.2.1))) 21 (((zgt v13).2.2.2.2.2.1))) 22 (((zgt v13).2.2.2.2.2.2.1))) 3 v14) 4 v15) 5 v16) 6 v17) 7 v18) 8 v19), (zuf (zuf (zuf (zuf (zuf (zuf (zuf (zuf (zuf (zuf (zuf (zuf (zuf (zuf (zuf (zuf (zuf (zuf fi 0 1 0) 16 6 v8) 16 7 v9) 16 8 v10) 16 9 v11) 16 10 v12) 16 6 (((zgt v13).2.2.2.2.2.2.2.1))) 16 7 (((zgt v13).2.2.2.2.2.2.2.2.1))) 16 8 (((zgt v13).2.2.2.2.2.2.2.2.2.1))) 47 1 (((zgt v13).2.2.2.2.2.2.2.2.2.2.1))) 47 2 (((zgt v13).2.2.2.2.2.2.2.2.2.2.2.1))) 47 3 (((zgt v13).2.2.2.2.2.2.2.2.2.2.2.2.1))) 47 4 (((zgt v13).2.2.2.2.2.2.2.2.2.2.2.2.2))) 2 6 v20) 2 7 v21) 2 8 v22) 2 9 v23) 2 10 v24), (m1, m2, m3, m4, 1))))))))))))))))))))))))))))
  else
   some (.inr (some (.int (-1)), (ar, fi, (m1, m2, m3, m4, m5))))) : Option ((Nat × List Value × List Value × zH2) ⊕ zO2)) := rfl
theorem e_if_orders {X : Nat × (Nat → Int32)} {ar fi : Nat → Nat → Int32} {m1 m2 m3 m4 m5 : Nat} {x : Int32} {o : zO2} : ∀ (q : T_if_orders), q_if_orders x (ar 1) (ar 3) (ar 4) (ar 5) (ar 6) (ar 7) (ar 8) (ar 17) (ar 18) (ar 19) (ar 20) (ar 21) (ar 22) (fi 0 1) (fi 2 6) (fi 2 7) (fi 2 8) (fi 2 9) (fi 2 10) (fi 16 6) (fi 16 7) (fi 16 8) (fi 16 9) (fi 16 10) (fi 47 1) (fi 47 2) (fi 47 3) (fi 47 4) = some q → (fun t => O_if_orders ar fi m1 m2 m3 m4 m5 t = o) q → zR2 X zFT (zEx 136 S_if_canTake (zEx 67 S_sc_copyFrom (zEx 56 S_od_read zE0))) zc_112 0 [.ref 0, .int x] [] (ar, fi, (m1, m2, m3, m4, m5)) o := by
  intro q h hq
  unfold q_if_orders at h
  refine zT_seg t_if_orders ?_
  refine zl_el h (fun h => zT_l ?_)
  refine zb_el h (fun hb h => zT_t hb ?_) (fun hb h => zT_f hb ?_)
  · refine zl_el h (fun h => zT_l ?_)
    refine zl_el h (fun h => zT_l ?_)
    refine zl_el h (fun h => zT_l ?_)
    refine zl_el h (fun h => zT_l ?_)
    refine zl_el h (fun h => zT_l ?_)
    refine zl_el h (fun h => zT_l ?_)
    refine zl_el h (fun h => zT_l ?_)
    refine zl_el h (fun h => zT_l ?_)
    refine zl_el h (fun h => zT_l ?_)
    refine zl_el h (fun h => zT_l ?_)
    refine zl_el h (fun h => zT_l ?_)
    refine zbd_el h (fun v13 hv h => zT_c hv ?_)
    refine zb_el h (fun hb h => zT_t hb ?_) (fun hb h => zT_f hb ?_)
    · have hz := zsi h hq
      refine (zO_mk ?_ ?_).trans hz
      · first | with_reducible rfl | (exact zuas_eq _ [(17, _), (18, _), (19, _), (20, _), (21, _), (22, _), (17, _), (18, _), (19, _), (20, _), (21, _), (22, _)] [(3, _), (4, _), (5, _), (6, _), (7, _), (8, _), (17, _), (18, _), (19, _), (20, _), (21, _), (22, _)] [3, 4, 5, 6, 7, 8, 17, 18, 19, 20, 21, 22] rfl rfl ⟨rfl, rfl, rfl, rfl, rfl, rfl, rfl, rfl, rfl, rfl, rfl, rfl, trivial⟩)
      · first | with_reducible rfl | (exact zufs_eq _ [(0, 1, _), (16, 6, _), (16, 7, _), (16, 8, _), (16, 9, _), (16, 10, _), (16, 6, _), (16, 7, _), (16, 8, _), (47, 1, _), (47, 2, _), (47, 3, _), (47, 4, _)] [(0, 1, _), (2, 6, _), (2, 7, _), (2, 8, _), (2, 9, _), (2, 10, _), (16, 6, _), (16, 7, _), (16, 8, _), (16, 9, _), (16, 10, _), (47, 1, _), (47, 2, _), (47, 3, _), (47, 4, _)] [(0, 1), (2, 6), (2, 7), (2, 8), (2, 9), (2, 10), (16, 6), (16, 7), (16, 8), (16, 9), (16, 10), (47, 1), (47, 2), (47, 3), (47, 4)] rfl rfl ⟨rfl, rfl, rfl, rfl, rfl, rfl, rfl, rfl, rfl, rfl, rfl, rfl, rfl, rfl, rfl, trivial⟩)
    · refine zl_el h (fun h => zT_l ?_)
      refine zl_el h (fun h => zT_l ?_)
      refine zl_el h (fun h => zT_l ?_)
      refine zl_el h (fun h => zT_l ?_)
      refine zl_el h (fun h => zT_l ?_)
      refine zl_el h (fun h => zT_l ?_)
      refine zl_el h (fun h => zT_l ?_)
      refine zl_el h (fun h => zT_l ?_)
      refine zl_el h (fun h => zT_l ?_)
      refine zl_el h (fun h => zT_l ?_)
      refine zl_el h (fun h => zT_l ?_)
      have hz := zsi h hq
      refine (zO_mk ?_ ?_).trans hz
      · first | with_reducible rfl | (exact zuas_eq _ [(17, _), (18, _), (19, _), (20, _), (21, _), (22, _), (17, _), (18, _), (19, _), (20, _), (21, _), (22, _), (3, _), (4, _), (5, _), (6, _), (7, _), (8, _)] [(3, _), (4, _), (5, _), (6, _), (7, _), (8, _), (17, _), (18, _), (19, _), (20, _), (21, _), (22, _)] [3, 4, 5, 6, 7, 8, 17, 18, 19, 20, 21, 22] rfl rfl ⟨rfl, rfl, rfl, rfl, rfl, rfl, rfl, rfl, rfl, rfl, rfl, rfl, trivial⟩)
      · first | with_reducible rfl | (exact zufs_eq _ [(0, 1, _), (16, 6, _), (16, 7, _), (16, 8, _), (16, 9, _), (16, 10, _), (16, 6, _), (16, 7, _), (16, 8, _), (47, 1, _), (47, 2, _), (47, 3, _), (47, 4, _), (2, 6, _), (2, 7, _), (2, 8, _), (2, 9, _), (2, 10, _)] [(0, 1, _), (2, 6, _), (2, 7, _), (2, 8, _), (2, 9, _), (2, 10, _), (16, 6, _), (16, 7, _), (16, 8, _), (16, 9, _), (16, 10, _), (47, 1, _), (47, 2, _), (47, 3, _), (47, 4, _)] [(0, 1), (2, 6), (2, 7), (2, 8), (2, 9), (2, 10), (16, 6), (16, 7), (16, 8), (16, 9), (16, 10), (47, 1), (47, 2), (47, 3), (47, 4)] rfl rfl ⟨rfl, rfl, rfl, rfl, rfl, rfl, rfl, rfl, rfl, rfl, rfl, rfl, rfl, rfl, rfl, trivial⟩)
  · have hz := zsi h hq
    refine (zO_mk ?_ ?_).trans hz
    · first | with_reducible rfl | (exact zuas_eq _ [] [(3, _), (4, _), (5, _), (6, _), (7, _), (8, _), (17, _), (18, _), (19, _), (20, _), (21, _), (22, _)] [3, 4, 5, 6, 7, 8, 17, 18, 19, 20, 21, 22] rfl rfl ⟨rfl, rfl, rfl, rfl, rfl, rfl, rfl, rfl, rfl, rfl, rfl, rfl, trivial⟩)
    · first | with_reducible rfl | (exact zufs_eq _ [] [(0, 1, _), (2, 6, _), (2, 7, _), (2, 8, _), (2, 9, _), (2, 10, _), (16, 6, _), (16, 7, _), (16, 8, _), (16, 9, _), (16, 10, _), (47, 1, _), (47, 2, _), (47, 3, _), (47, 4, _)] [(0, 1), (2, 6), (2, 7), (2, 8), (2, 9), (2, 10), (16, 6), (16, 7), (16, 8), (16, 9), (16, 10), (47, 1), (47, 2), (47, 3), (47, 4)] rfl rfl ⟨rfl, rfl, rfl, rfl, rfl, rfl, rfl, rfl, rfl, rfl, rfl, rfl, rfl, rfl, rfl, trivial⟩)
theorem ok_if_orders (X : Nat × (Nat → Int32)) : zOkS X 112 S_if_orders 8 := zOkS_new (zOkE_cons (ok_if_canTake X) (by decide) (zOkE_cons (ok_sc_copyFrom X) (by decide) (zOkE_cons (ok_od_read X) (by decide) (zOkE_nil X 7)))) (by
  intro args g o h
  obtain ⟨ar, fi, m1, m2, m3, m4, m5⟩ := g
  unfold S_if_orders P_if_orders at h
  split at h
  · refine zb_el h (fun hI0 k0 => ?_) (fun _ h10 => ?_)
    · try simp only [Bool.and_eq_true] at hI0
      have j0 := hI0
      have e0 := Nat.eq_of_beq_eq_true j0
      subst e0
      exact zpe_el k0 (fun t ht ho => e_if_orders t ht ho)
    · cases h10
  · cases h)
abbrev T_if_minutes : Type := Int32 × (Nat → Int32) × (Nat → Int32) × (Nat → Int32) × (Nat → Int32) × (Nat → Int32) × Int32 × Int32 × Int32
noncomputable def q_if_minutes (x : Int32) (a3 : Nat → Int32) (a4 : Nat → Int32) (a5 : Nat → Int32) (a6 : Nat → Int32) (a7 : Nat → Int32) (a8 : Nat → Int32) (a24 : Nat → Int32) (a25 : Nat → Int32) (a26 : Nat → Int32) (a27 : Nat → Int32) (a28 : Nat → Int32) (a29 : Nat → Int32) (a30 : Nat → Int32) (a50 : Nat → Int32) (a51 : Nat → Int32) (f2_6 : Int32) (f2_7 : Int32) (f2_8 : Int32) (f2_9 : Int32) (f2_10 : Int32) (f23_8 : Int32) (f23_9 : Int32) : Option T_if_minutes :=
  zl (w_if_isWithin x 1 100) (fun v1 =>
  bif !decide (v1 = 0) then
   zbd (q_fr_burnFor x a3 a4 a5 a6 a7 a8 a24 a25 a26 a27 a28 a29 a30 a50 a51 (f2_6) (f2_7) (f2_8) (f2_9) (f2_10) (f23_8) (f23_9)) (fun v2 =>
   zl (w_sc_placesThatAre 1 ((v2.1))) (fun v3 =>
   some (v3, ((v2.1)), ((v2.2.1)), ((v2.2.2.1)), ((v2.2.2.2.1)), ((v2.2.2.2.2.1)), (v2.2.2.2.2.2.1), (v2.2.2.2.2.2.2.1), (v2.2.2.2.2.2.2.2))))
  else
   some ((-1), a4, a5, a26, a50, a51, f2_7, f2_9, f2_10))
def P_if_minutes (Q : Int32 → (Nat → Int32) → (Nat → Int32) → (Nat → Int32) → (Nat → Int32) → (Nat → Int32) → (Nat → Int32) → (Nat → Int32) → (Nat → Int32) → (Nat → Int32) → (Nat → Int32) → (Nat → Int32) → (Nat → Int32) → (Nat → Int32) → (Nat → Int32) → (Nat → Int32) → Int32 → Int32 → Int32 → Int32 → Int32 → Int32 → Int32 → Option (Int32 × (Nat → Int32) × (Nat → Int32) × (Nat → Int32) × (Nat → Int32) × (Nat → Int32) × Int32 × Int32 × Int32)) : zSp := fun as g => match as with
  | [.ref a, .int x] => bif Nat.beq a 0 && Nat.beq g.2.2.1 23 then zpe (Q x (g.1 3) (g.1 4) (g.1 5) (g.1 6) (g.1 7) (g.1 8) (g.1 24) (g.1 25) (g.1 26) (g.1 27) (g.1 28) (g.1 29) (g.1 30) (g.1 50) (g.1 51) (g.2.1 2 6) (g.2.1 2 7) (g.2.1 2 8) (g.2.1 2 9) (g.2.1 2 10) (g.2.1 23 8) (g.2.1 23 9)) (fun t => (some (.int (t.1)), ((zua (zua (zua (zua (zua g.1 4 t.2.1) 5 t.2.2.1) 26 t.2.2.2.1) 50 t.2.2.2.2.1) 51 t.2.2.2.2.2.1), (zuf (zuf (zuf g.2.1 2 7 t.2.2.2.2.2.2.1) 2 9 t.2.2.2.2.2.2.2.1) 2 10 t.2.2.2.2.2.2.2.2), g.2.2))) else bif Nat.beq a 0 && Nat.beq g.2.2.1 31 then zpe (Q x (g.1 3) (g.1 4) (g.1 5) (g.1 6) (g.1 7) (g.1 8) (g.1 32) (g.1 33) (g.1 34) (g.1 35) (g.1 36) (g.1 37) (g.1 38) (g.1 50) (g.1 51) (g.2.1 2 6) (g.2.1 2 7) (g.2.1 2 8) (g.2.1 2 9) (g.2.1 2 10) (g.2.1 31 8) (g.2.1 31 9)) (fun t => (some (.int (t.1)), ((zua (zua (zua (zua (zua g.1 4 t.2.1) 5 t.2.2.1) 34 t.2.2.2.1) 50 t.2.2.2.2.1) 51 t.2.2.2.2.2.1), (zuf (zuf (zuf g.2.1 2 7 t.2.2.2.2.2.2.1) 2 9 t.2.2.2.2.2.2.2.1) 2 10 t.2.2.2.2.2.2.2.2), g.2.2))) else none
  | _ => none
noncomputable abbrev S_if_minutes : zSp := P_if_minutes q_if_minutes
def O_if_minutes_0_v0 (ar fi : Nat → Nat → Int32) (m2 : Nat) (m3 : Nat) (m4 : Nat) (m5 : Nat) (t : T_if_minutes) : zO2 := (some (.int (t.1)), ((zua (zua (zua (zua (zua ar 4 t.2.1) 5 t.2.2.1) 26 t.2.2.2.1) 50 t.2.2.2.2.1) 51 t.2.2.2.2.2.1), (zuf (zuf (zuf fi 2 7 t.2.2.2.2.2.2.1) 2 9 t.2.2.2.2.2.2.2.1) 2 10 t.2.2.2.2.2.2.2.2), (23, m2, m3, m4, m5)))
set_option maxRecDepth 20000 in
theorem t_if_minutes_0_v0 {X : Nat × (Nat → Int32)} {ar fi : Nat → Nat → Int32} {m2 m3 m4 m5 : Nat} {x : Int32} {W_if_isWithin : Int32 → Int32 → Int32 → Int32} {Q_fr_burnFor : Int32 → (Nat → Int32) → (Nat → Int32) → (Nat → Int32) → (Nat → Int32) → (Nat → Int32) → (Nat → Int32) → (Nat → Int32) → (Nat → Int32) → (Nat → Int32) → (Nat → Int32) → (Nat → Int32) → (Nat → Int32) → (Nat → Int32) → (Nat → Int32) → (Nat → Int32) → Int32 → Int32 → Int32 → Int32 → Int32 → Int32 → Int32 → Option ((Nat → Int32) × (Nat → Int32) × (Nat → Int32) × (Nat → Int32) × (Nat → Int32) × Int32 × Int32 × Int32)} {W_sc_placesThatAre : Int32 → (Nat → Int32) → Int32} : zseg X zFT (zEx 137 (P_if_isWithin W_if_isWithin) (zEx 20 (P_fr_burnFor Q_fr_burnFor) (zEx 76 (P_sc_placesThatAre W_sc_placesThatAre) zE0))) zc_113 (fun p => false) 400 0 [.ref 0, .int x] [] (ar, fi, (23, m2, m3, m4, m5)) = (
  zl (W_if_isWithin x 1 100) (fun v1 =>
  bif !decide (v1 = 0) then
   zl (Q_fr_burnFor x (ar 3) (ar 4) (ar 5) (ar 6) (ar 7) (ar 8) (ar 24) (ar 25) (ar 26) (ar 27) (ar 28) (ar 29) (ar 30) (ar 50) (ar 51) (fi 2 6) (fi 2 7) (fi 2 8) (fi 2 9) (fi 2 10) (fi 23 8) (fi 23 9)) (fun v2 => zg v2.isSome (
   zl (W_sc_placesThatAre 1 (((zgt v2).1))) (fun v3 =>
   some (.inr (some (.int v3), ((zua (zua (zua (zua (zua ar 4 (((zgt v2).1))) 5 (((zgt v2).2.1))) 26 (((zgt v2).2.2.1))) 50 (((zgt v2).2.2.2.1))) 51 (((zgt v2).2.2.2.2.1))), (zuf (zuf (zuf fi 2 7 (((zgt v2).2.2.2.2.2.1))) 2 9 (((zgt v2).2.2.2.2.2.2.1))) 2 10 (((zgt v2).2.2.2.2.2.2.2))), (23, m2, m3, m4, m5)))))))
  else
   some (.inr (some (.int (-1)), (ar, fi, (23, m2, m3, m4, m5))))) : Option ((Nat × List Value × List Value × zH2) ⊕ zO2)) := rfl
theorem e_if_minutes_0_v0 {X : Nat × (Nat → Int32)} {ar fi : Nat → Nat → Int32} {m2 m3 m4 m5 : Nat} {x : Int32} {o : zO2} : ∀ (q : T_if_minutes), q_if_minutes x (ar 3) (ar 4) (ar 5) (ar 6) (ar 7) (ar 8) (ar 24) (ar 25) (ar 26) (ar 27) (ar 28) (ar 29) (ar 30) (ar 50) (ar 51) (fi 2 6) (fi 2 7) (fi 2 8) (fi 2 9) (fi 2 10) (fi 23 8) (fi 23 9) = some q → (fun t => O_if_minutes_0_v0 ar fi m2 m3 m4 m5 t = o) q → zR2 X zFT (zEx 137 S_if_isWithin (zEx 20 S_fr_burnFor (zEx 76 S_sc_placesThatAre zE0))) zc_113 0 [.ref 0, .int x] [] (ar, fi, (23, m2, m3, m4, m5)) o := by
  intro q h hq
  unfold q_if_minutes at h
  refine zT_seg t_if_minutes_0_v0 ?_
  refine zl_el h (fun h => zT_l ?_)
  refine zb_el h (fun hb h => zT_t hb ?_) (fun hb h => zT_f hb ?_)
  · refine zbd_el h (fun v2 hv h => zT_c hv ?_)
    refine zl_el h (fun h => zT_l ?_)
    have hz := zsi h hq
    refine (zO_mk ?_ ?_).trans hz
    · first | with_reducible rfl | (exact zuas_eq _ [(4, _), (5, _), (26, _), (50, _), (51, _)] [(4, _), (5, _), (26, _), (50, _), (51, _)] [4, 5, 26, 50, 51] rfl rfl ⟨rfl, rfl, rfl, rfl, rfl, trivial⟩)
    · first | with_reducible rfl | (exact zufs_eq _ [(2, 7, _), (2, 9, _), (2, 10, _)] [(2, 7, _), (2, 9, _), (2, 10, _)] [(2, 7), (2, 9), (2, 10)] rfl rfl ⟨rfl, rfl, rfl, trivial⟩)
  · have hz := zsi h hq
    refine (zO_mk ?_ ?_).trans hz
    · first | with_reducible rfl | (exact zuas_eq _ [] [(4, _), (5, _), (26, _), (50, _), (51, _)] [4, 5, 26, 50, 51] rfl rfl ⟨rfl, rfl, rfl, rfl, rfl, trivial⟩)
    · first | with_reducible rfl | (exact zufs_eq _ [] [(2, 7, _), (2, 9, _), (2, 10, _)] [(2, 7), (2, 9), (2, 10)] rfl rfl ⟨rfl, rfl, rfl, trivial⟩)
def O_if_minutes_0_v1 (ar fi : Nat → Nat → Int32) (m2 : Nat) (m3 : Nat) (m4 : Nat) (m5 : Nat) (t : T_if_minutes) : zO2 := (some (.int (t.1)), ((zua (zua (zua (zua (zua ar 4 t.2.1) 5 t.2.2.1) 34 t.2.2.2.1) 50 t.2.2.2.2.1) 51 t.2.2.2.2.2.1), (zuf (zuf (zuf fi 2 7 t.2.2.2.2.2.2.1) 2 9 t.2.2.2.2.2.2.2.1) 2 10 t.2.2.2.2.2.2.2.2), (31, m2, m3, m4, m5)))
set_option maxRecDepth 20000 in
theorem t_if_minutes_0_v1 {X : Nat × (Nat → Int32)} {ar fi : Nat → Nat → Int32} {m2 m3 m4 m5 : Nat} {x : Int32} {W_if_isWithin : Int32 → Int32 → Int32 → Int32} {Q_fr_burnFor : Int32 → (Nat → Int32) → (Nat → Int32) → (Nat → Int32) → (Nat → Int32) → (Nat → Int32) → (Nat → Int32) → (Nat → Int32) → (Nat → Int32) → (Nat → Int32) → (Nat → Int32) → (Nat → Int32) → (Nat → Int32) → (Nat → Int32) → (Nat → Int32) → (Nat → Int32) → Int32 → Int32 → Int32 → Int32 → Int32 → Int32 → Int32 → Option ((Nat → Int32) × (Nat → Int32) × (Nat → Int32) × (Nat → Int32) × (Nat → Int32) × Int32 × Int32 × Int32)} {W_sc_placesThatAre : Int32 → (Nat → Int32) → Int32} : zseg X zFT (zEx 137 (P_if_isWithin W_if_isWithin) (zEx 20 (P_fr_burnFor Q_fr_burnFor) (zEx 76 (P_sc_placesThatAre W_sc_placesThatAre) zE0))) zc_113 (fun p => false) 400 0 [.ref 0, .int x] [] (ar, fi, (31, m2, m3, m4, m5)) = (
  zl (W_if_isWithin x 1 100) (fun v1 =>
  bif !decide (v1 = 0) then
   zl (Q_fr_burnFor x (ar 3) (ar 4) (ar 5) (ar 6) (ar 7) (ar 8) (ar 32) (ar 33) (ar 34) (ar 35) (ar 36) (ar 37) (ar 38) (ar 50) (ar 51) (fi 2 6) (fi 2 7) (fi 2 8) (fi 2 9) (fi 2 10) (fi 31 8) (fi 31 9)) (fun v2 => zg v2.isSome (
   zl (W_sc_placesThatAre 1 (((zgt v2).1))) (fun v3 =>
   some (.inr (some (.int v3), ((zua (zua (zua (zua (zua ar 4 (((zgt v2).1))) 5 (((zgt v2).2.1))) 34 (((zgt v2).2.2.1))) 50 (((zgt v2).2.2.2.1))) 51 (((zgt v2).2.2.2.2.1))), (zuf (zuf (zuf fi 2 7 (((zgt v2).2.2.2.2.2.1))) 2 9 (((zgt v2).2.2.2.2.2.2.1))) 2 10 (((zgt v2).2.2.2.2.2.2.2))), (31, m2, m3, m4, m5)))))))
  else
   some (.inr (some (.int (-1)), (ar, fi, (31, m2, m3, m4, m5))))) : Option ((Nat × List Value × List Value × zH2) ⊕ zO2)) := rfl
theorem e_if_minutes_0_v1 {X : Nat × (Nat → Int32)} {ar fi : Nat → Nat → Int32} {m2 m3 m4 m5 : Nat} {x : Int32} {o : zO2} : ∀ (q : T_if_minutes), q_if_minutes x (ar 3) (ar 4) (ar 5) (ar 6) (ar 7) (ar 8) (ar 32) (ar 33) (ar 34) (ar 35) (ar 36) (ar 37) (ar 38) (ar 50) (ar 51) (fi 2 6) (fi 2 7) (fi 2 8) (fi 2 9) (fi 2 10) (fi 31 8) (fi 31 9) = some q → (fun t => O_if_minutes_0_v1 ar fi m2 m3 m4 m5 t = o) q → zR2 X zFT (zEx 137 S_if_isWithin (zEx 20 S_fr_burnFor (zEx 76 S_sc_placesThatAre zE0))) zc_113 0 [.ref 0, .int x] [] (ar, fi, (31, m2, m3, m4, m5)) o := by
  intro q h hq
  unfold q_if_minutes at h
  refine zT_seg t_if_minutes_0_v1 ?_
  refine zl_el h (fun h => zT_l ?_)
  refine zb_el h (fun hb h => zT_t hb ?_) (fun hb h => zT_f hb ?_)
  · refine zbd_el h (fun v2 hv h => zT_c hv ?_)
    refine zl_el h (fun h => zT_l ?_)
    have hz := zsi h hq
    refine (zO_mk ?_ ?_).trans hz
    · first | with_reducible rfl | (exact zuas_eq _ [(4, _), (5, _), (34, _), (50, _), (51, _)] [(4, _), (5, _), (34, _), (50, _), (51, _)] [4, 5, 34, 50, 51] rfl rfl ⟨rfl, rfl, rfl, rfl, rfl, trivial⟩)
    · first | with_reducible rfl | (exact zufs_eq _ [(2, 7, _), (2, 9, _), (2, 10, _)] [(2, 7, _), (2, 9, _), (2, 10, _)] [(2, 7), (2, 9), (2, 10)] rfl rfl ⟨rfl, rfl, rfl, trivial⟩)
  · have hz := zsi h hq
    refine (zO_mk ?_ ?_).trans hz
    · first | with_reducible rfl | (exact zuas_eq _ [] [(4, _), (5, _), (34, _), (50, _), (51, _)] [4, 5, 34, 50, 51] rfl rfl ⟨rfl, rfl, rfl, rfl, rfl, trivial⟩)
    · first | with_reducible rfl | (exact zufs_eq _ [] [(2, 7, _), (2, 9, _), (2, 10, _)] [(2, 7), (2, 9), (2, 10)] rfl rfl ⟨rfl, rfl, rfl, trivial⟩)
theorem ok_if_minutes (X : Nat × (Nat → Int32)) : zOkS X 113 S_if_minutes 8 := zOkS_new (zOkE_cons (ok_if_isWithin X) (by decide) (zOkE_cons (ok_fr_burnFor X) (by decide) (zOkE_cons (ok_sc_placesThatAre X) (by decide) (zOkE_nil X 7)))) (by
  intro args g o h
  obtain ⟨ar, fi, m1, m2, m3, m4, m5⟩ := g
  unfold S_if_minutes P_if_minutes at h
  split at h
  · refine zb_el h (fun hI0 k0 => ?_) (fun _ h10 => ?_)
    · try simp only [Bool.and_eq_true] at hI0
      obtain ⟨j0, j1⟩ := hI0
      have e0 := Nat.eq_of_beq_eq_true j0
      subst e0
      have e9 : m1 = 23 := Nat.eq_of_beq_eq_true j1
      subst e9
      exact zpe_el k0 (fun t ht ho => e_if_minutes_0_v0 t ht ho)
    · skip
      refine zb_el h10 (fun hI1 k1 => ?_) (fun _ h11 => ?_)
      · try simp only [Bool.and_eq_true] at hI1
        obtain ⟨j0, j1⟩ := hI1
        have e0 := Nat.eq_of_beq_eq_true j0
        subst e0
        have e9 : m1 = 31 := Nat.eq_of_beq_eq_true j1
        subst e9
        exact zpe_el k1 (fun t ht ho => e_if_minutes_0_v1 t ht ho)
      · cases h11
  · cases h)
