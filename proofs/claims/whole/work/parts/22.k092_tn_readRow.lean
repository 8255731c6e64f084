abbrev T_tn_readRow : Type := (Nat → Int32) × Int32 × Int32 × Int32
abbrev U_tn_readRow_35 : Type := Int32 × Int32 × Int32 × (Nat → Int32) × Int32 × Int32 × Int32
noncomputable def b_tn_readRow_35 (x : Int32) (a1 : Nat → Int32) (f44_1 : Int32) (l2 : Int32) (l3 : Int32) (l4 : Int32) (b43 : Nat → Int32) (c44_2 : Int32) (c44_3 : Int32) (c44_4 : Int32) : Option (U_tn_readRow_35 ⊕ T_tn_readRow) :=
  bif decide (12 < l4) then
   some (.inr (b43, c44_2, c44_3, c44_4))
  else
   bif decide (l3 = 0) then
    some (.inr (b43, c44_2, c44_3, c44_4))
   else
    zbd (q_tn_readSign l2 x a1 b43 (f44_1) c44_2 c44_3 c44_4) (fun v4 =>
    zl (w_tx_isGood ((v4.2.2.1))) (fun v5 =>
    bif decide (v5 = 0) then
     some (.inl ((v4.1), 0, l4 + 1, ((v4.2.1)), (v4.2.2.1), (v4.2.2.2.1), (v4.2.2.2.2)))
    else
     zl (w_tx_isAtEnd ((v4.2.2.2.2)) (f44_1)) (fun v6 =>
     bif !decide (v6 = 0) then
      some (.inl ((v4.1), 0, l4 + 1, ((v4.2.1)), (v4.2.2.1), (v4.2.2.2.1), (v4.2.2.2.2)))
     else
      zg (g_tx_sign ((v4.2.2.1)) ((v4.2.2.2.2)) (f44_1) a1) (
      zl (w_tx_sign ((v4.2.2.1)) ((v4.2.2.2.2)) (f44_1) a1) (fun v7 =>
      bif decide (v7 = 47) then
       some (.inl ((v4.1), 0, l4 + 1, ((v4.2.1)), (v4.2.2.1), (v4.2.2.2.1), (v4.2.2.2.2)))
      else
       some (.inl ((v4.1), 1, l4 + 1, ((v4.2.1)), (v4.2.2.1), (v4.2.2.2.1), (v4.2.2.2.2))))))))
noncomputable def f_tn_readRow_35 (x : Int32) (a1 : Nat → Int32) (f44_1 : Int32) : U_tn_readRow_35 → Option (U_tn_readRow_35 ⊕ T_tn_readRow) := fun s => b_tn_readRow_35 x a1 f44_1 s.1 s.2.1 s.2.2.1 s.2.2.2.1 s.2.2.2.2.1 s.2.2.2.2.2.1 s.2.2.2.2.2.2
noncomputable def l_tn_readRow_35 (x : Int32) (a1 : Nat → Int32) (f44_1 : Int32) (l2 : Int32) (l3 : Int32) (l4 : Int32) (b43 : Nat → Int32) (c44_2 : Int32) (c44_3 : Int32) (c44_4 : Int32) : Option T_tn_readRow := zlp (f_tn_readRow_35 x a1 f44_1) (l2, l3, l4, b43, c44_2, c44_3, c44_4)
noncomputable def q_tn_readRow (x : Int32) (a1 : Nat → Int32) (a43 : Nat → Int32) (f44_1 : Int32) (f44_2 : Int32) (f44_3 : Int32) (f44_4 : Int32) : Option T_tn_readRow :=
  bif !decide (x = 8) then
   l_tn_readRow_35 x a1 f44_1 0 1 0 a43 (f44_2) (f44_3) (f44_4)
  else
   zg (g_tn_canBeginSign (f44_2) (f44_4) (f44_1) a1) (
   zl (w_tn_canBeginSign (f44_2) (f44_4) (f44_1) a1) (fun v1 =>
   bif decide (v1 = 0) then
    l_tn_readRow_35 x a1 f44_1 0 1 0 a43 (f44_2) (f44_3) (f44_4)
   else
    zl (f0_tx_fail 4 (f44_4) (f44_2) (f44_3)) (fun v2 =>
    zl (f1_tx_fail 4 (f44_4) (f44_2) (f44_3)) (fun v3 =>
    l_tn_readRow_35 x a1 f44_1 0 1 0 a43 v2 v3 (f44_4)))))
def P_tn_readRow (Q : Int32 → (Nat → Int32) → (Nat → Int32) → Int32 → Int32 → Int32 → Int32 → Option ((Nat → Int32) × Int32 × Int32 × Int32)) : zSp := fun as g => match as with
  | [.ref a, .int x] => bif Nat.beq a 42 && Nat.beq g.2.2.2.2.2.1 1 then zpe (Q x (g.1 1) (g.1 43) (g.2.1 44 1) (g.2.1 44 2) (g.2.1 44 3) (g.2.1 44 4)) (fun t => (none, ((zua g.1 43 t.1), (zuf (zuf (zuf g.2.1 44 2 t.2.1) 44 3 t.2.2.1) 44 4 t.2.2.2), g.2.2))) else none
  | _ => none
noncomputable abbrev S_tn_readRow : zSp := P_tn_readRow q_tn_readRow
theorem hF6_tn_readRow (F : Nat → Nat → Int32) (w0 w1 : Int32) : (zuf (zuf F 44 2 w0) 44 3 w1) = (zuf (zuf (zuf F 44 2 w0) 44 3 w1) 44 4 (F 44 4)) := zufk_ix F [((44, 2), w0), ((44, 3), w1)] [((44, 2), some 0), ((44, 3), some 1), ((44, 4), none)] rfl
theorem hF5_tn_readRow (F : Nat → Nat → Int32) : F = (zuf (zuf (zuf F 44 2 (F 44 2)) 44 3 (F 44 3)) 44 4 (F 44 4)) := zufk_ix F [] [((44, 2), none), ((44, 3), none), ((44, 4), none)] rfl
theorem hA4_tn_readRow (F : Nat → Nat → Int32) : F = (zua F 43 (F 43)) := zuak_ix F [] [(43, none)] rfl
theorem hF3_tn_readRow (F : Nat → Nat → Int32) (w0 w1 w2 w3 w4 w5 : Int32) : (zuf (zuf (zuf (zuf (zuf (zuf F 44 2 w0) 44 3 w1) 44 4 w2) 44 2 w3) 44 3 w4) 44 4 w5) = (zuf (zuf (zuf F 44 2 w3) 44 3 w4) 44 4 w5) := zufk_ix F [((44, 2), w0), ((44, 3), w1), ((44, 4), w2), ((44, 2), w3), ((44, 3), w4), ((44, 4), w5)] [((44, 2), some 3), ((44, 3), some 4), ((44, 4), some 5)] rfl
theorem hA2_tn_readRow (F : Nat → Nat → Int32) (w0 w1 : Nat → Int32) : (zua (zua F 43 w0) 43 w1) = (zua F 43 w1) := zuak_ix F [(43, w0), (43, w1)] [(43, some 1)] rfl
theorem hF1_tn_readRow (F : Nat → Nat → Int32) (w0 w1 w2 : Int32) : (zuf (zuf (zuf F 44 2 w0) 44 3 w1) 44 4 w2) = (zuf (zuf (zuf F 44 2 w0) 44 3 w1) 44 4 w2) := zufk_ix F [((44, 2), w0), ((44, 3), w1), ((44, 4), w2)] [((44, 2), some 0), ((44, 3), some 1), ((44, 4), some 2)] rfl
theorem hA0_tn_readRow (F : Nat → Nat → Int32) (w0 : Nat → Int32) : (zua F 43 w0) = (zua F 43 w0) := zuak_ix F [(43, w0)] [(43, some 0)] rfl
def O_tn_readRow (ar fi : Nat → Nat → Int32) (m1 : Nat) (m2 : Nat) (m3 : Nat) (m5 : Nat) (t : T_tn_readRow) : zO2 := match t with
  | (t0, t1, t2, t3) => (none, ((zua ar 43 t0), (zuf (zuf (zuf fi 44 2 t1) 44 3 t2) 44 4 t3), (m1, m2, m3, 1, m5)))
def M_tn_readRow_35 (X : Nat × (Nat → Int32)) (E : zTE) (ar fi : Nat → Nat → Int32) (m1 : Nat) (m2 : Nat) (m3 : Nat) (m5 : Nat) (x : Int32) (o : zO2) (s : U_tn_readRow_35) : Prop := match s with
  | (l2, l3, l4, b43, c44_2, c44_3, c44_4) => zR2 X zFT E zc_102 35 [.ref 42, .int x, .int l2, .int l3, .int l4] [] ((zua ar 43 b43), (zuf (zuf (zuf fi 44 2 c44_2) 44 3 c44_3) 44 4 c44_4), (m1, m2, m3, 1, m5)) o
set_option maxRecDepth 1000000 in
theorem t35_tn_readRow {X : Nat × (Nat → Int32)} {ar fi : Nat → Nat → Int32} {m1 m2 m3 m5 : Nat} {x : Int32} {l2 : Int32} {l3 : Int32} {l4 : Int32} {b43 : Nat → Int32} {c44_2 : Int32} {c44_3 : Int32} {c44_4 : Int32} {G_tn_canBeginSign : Int32 → Int32 → Int32 → (Nat → Int32) → Bool} {W_tn_canBeginSign : Int32 → Int32 → Int32 → (Nat → Int32) → Int32} {F0_tx_fail : Int32 → Int32 → Int32 → Int32 → Int32} {F1_tx_fail : Int32 → Int32 → Int32 → Int32 → Int32} {Q_tn_readSign : Int32 → Int32 → (Nat → Int32) → (Nat → Int32) → Int32 → Int32 → Int32 → Int32 → Option (Int32 × (Nat → Int32) × Int32 × Int32 × Int32)} {W_tx_isGood : Int32 → Int32} {W_tx_isAtEnd : Int32 → Int32 → Int32} {G_tx_sign : Int32 → Int32 → Int32 → (Nat → Int32) → Bool} {W_tx_sign : Int32 → Int32 → Int32 → (Nat → Int32) → Int32} : zseg X zFT (zEx 103 (P_tn_canBeginSign G_tn_canBeginSign W_tn_canBeginSign) (zEx 97 (P_tx_fail F0_tx_fail F1_tx_fail) (zEx 105 (P_tn_readSign Q_tn_readSign) (zEx 91 (P_tx_isGood W_tx_isGood) (zEx 92 (P_tx_isAtEnd W_tx_isAtEnd) (zEx 93 (P_tx_sign G_tx_sign W_tx_sign) zE0)))))) zc_102 (fun p => Nat.beq p 35) 400 35 [.ref 42, .int x, .int l2, .int l3, .int l4] [] ((zua ar 43 b43), (zuf (zuf (zuf fi 44 2 c44_2) 44 3 c44_3) 44 4 c44_4), (m1, m2, m3, 1, m5)) = (
  bif decide (12 < l4) then
   some (.inr (none, ((zua ar 43 b43), (zuf (zuf (zuf fi 44 2 c44_2) 44 3 c44_3) 44 4 c44_4), (m1, m2, m3, 1, m5))))
  else
   bif decide (l3 = 0) then
    some (.inr (none, ((zua ar 43 b43), (zuf (zuf (zuf fi 44 2 c44_2) 44 3 c44_3) 44 4 c44_4), (m1, m2, m3, 1, m5))))
   else
    zl (Q_tn_readSign l2 x (ar 1) b43 (fi 44 1) c44_2 c44_3 c44_4) (fun v4 => zg v4.isSome (
    zl (W_tx_isGood (((zgt v4).2.2.1))) (fun v5 =>
    bif decide (v5 = 0) then
     some (.inl (35, [.ref 42, .int x, .int (((zgt v4).1)), .int 0, .int (l4 + 1)], [], ((zua (zua ar 43 b43) 43 (((zgt v4).2.1))), (zuf (zuf (zuf (zuf (zuf (zuf fi 44 2 c44_2) 44 3 c44_3) 44 4 c44_4) 44 2 (((zgt v4).2.2.1))) 44 3 (((zgt v4).2.2.2.1))) 44 4 (((zgt v4).2.2.2.2))), (m1, m2, m3, 1, m5))))
    else
     zl (W_tx_isAtEnd (((zgt v4).2.2.2.2)) (fi 44 1)) (fun v6 =>
     bif !decide (v6 = 0) then
      some (.inl (35, [.ref 42, .int x, .int (((zgt v4).1)), .int 0, .int (l4 + 1)], [], ((zua (zua ar 43 b43) 43 (((zgt v4).2.1))), (zuf (zuf (zuf (zuf (zuf (zuf fi 44 2 c44_2) 44 3 c44_3) 44 4 c44_4) 44 2 (((zgt v4).2.2.1))) 44 3 (((zgt v4).2.2.2.1))) 44 4 (((zgt v4).2.2.2.2))), (m1, m2, m3, 1, m5))))
     else
      zg (G_tx_sign (((zgt v4).2.2.1)) (((zgt v4).2.2.2.2)) (fi 44 1) (ar 1)) (
      zl (W_tx_sign (((zgt v4).2.2.1)) (((zgt v4).2.2.2.2)) (fi 44 1) (ar 1)) (fun v7 =>
      bif decide (v7 = 47) then
       some (.inl (35, [.ref 42, .int x, .int (((zgt v4).1)), .int 0, .int (l4 + 1)], [], ((zua (zua ar 43 b43) 43 (((zgt v4).2.1))), (zuf (zuf (zuf (zuf (zuf (zuf fi 44 2 c44_2) 44 3 c44_3) 44 4 c44_4) 44 2 (((zgt v4).2.2.1))) 44 3 (((zgt v4).2.2.2.1))) 44 4 (((zgt v4).2.2.2.2))), (m1, m2, m3, 1, m5))))
      else
       some (.inl (35, [.ref 42, .int x, .int (((zgt v4).1)), .int 1, .int (l4 + 1)], [], ((zua (zua ar 43 b43) 43 (((zgt v4).2.1))), (zuf (zuf (zuf (zuf (zuf (zuf fi 44 2 c44_2) 44 3 c44_3) 44 4 c44_4) 44 2 (((zgt v4).2.2.1))) 44 3 (((zgt v4).2.2.2.1))) 44 4 (((zgt v4).2.2.2.2))), (m1, m2, m3, 1, m5)))))))))) : Option ((Nat × List Value × List Value × zH2) ⊕ zO2)) := by with_unfolding_all rfl
set_option maxRecDepth 20000 in
theorem k_tn_readRow_35 {X : Nat × (Nat → Int32)} {ar fi : Nat → Nat → Int32} {m1 m2 m3 m5 : Nat} {x : Int32} {o : zO2} : ∀ (s : U_tn_readRow_35) (q : U_tn_readRow_35 ⊕ T_tn_readRow), f_tn_readRow_35 x (ar 1) (fi 44 1) s = some q → zq (M_tn_readRow_35 X (zEx 103 S_tn_canBeginSign (zEx 97 S_tx_fail (zEx 105 S_tn_readSign (zEx 91 S_tx_isGood (zEx 92 S_tx_isAtEnd (zEx 93 S_tx_sign zE0)))))) ar fi m1 m2 m3 m5 x o) (fun t => O_tn_readRow ar fi m1 m2 m3 m5 t = o) q → M_tn_readRow_35 X (zEx 103 S_tn_canBeginSign (zEx 97 S_tx_fail (zEx 105 S_tn_readSign (zEx 91 S_tx_isGood (zEx 92 S_tx_isAtEnd (zEx 93 S_tx_sign zE0)))))) ar fi m1 m2 m3 m5 x o s := by
  intro s q h hq
  obtain ⟨l2, l3, l4, b43, c44_2, c44_3, c44_4⟩ := s
  have h : b_tn_readRow_35 x (ar 1) (fi 44 1) l2 l3 l4 b43 c44_2 c44_3 c44_4 = some q := h
  unfold b_tn_readRow_35 at h
  show zR2 X zFT (zEx 103 S_tn_canBeginSign (zEx 97 S_tx_fail (zEx 105 S_tn_readSign (zEx 91 S_tx_isGood (zEx 92 S_tx_isAtEnd (zEx 93 S_tx_sign zE0)))))) zc_102 35 [.ref 42, .int x, .int l2, .int l3, .int l4] [] ((zua ar 43 b43), (zuf (zuf (zuf fi 44 2 c44_2) 44 3 c44_3) 44 4 c44_4), (m1, m2, m3, 1, m5)) o
  refine zT_seg t35_tn_readRow ?_
  obtain ⟨TT, hTT⟩ : ∃ T, T = zT X zFT (zEx 103 S_tn_canBeginSign (zEx 97 S_tx_fail (zEx 105 S_tn_readSign (zEx 91 S_tx_isGood (zEx 92 S_tx_isAtEnd (zEx 93 S_tx_sign zE0)))))) zc_102 o := ⟨_, rfl⟩
  rw [← hTT]
  refine zb_el h (fun hb h => zU_t hTT hb ?_) (fun hb h => zU_f hTT hb ?_)
  · rw [hTT]
    have hz := zsi h hq
    refine (zO_mk ?_ ?_).trans hz
    · first | with_reducible rfl | exact hA0_tn_readRow _ _
    · first | with_reducible rfl | exact hF1_tn_readRow _ _ _ _
  · refine zb_el h (fun hb h => zU_t hTT hb ?_) (fun hb h => zU_f hTT hb ?_)
    · rw [hTT]
      have hz := zsi h hq
      refine (zO_mk ?_ ?_).trans hz
      · first | with_reducible rfl | exact hA0_tn_readRow _ _
      · first | with_reducible rfl | exact hF1_tn_readRow _ _ _ _
    · refine zbd_el h (fun v4 hv h => zU_c hTT hv ?_)
      refine zl_el h (fun h => zU_l hTT ?_)
      refine zb_el h (fun hb h => zU_t hTT hb ?_) (fun hb h => zU_f hTT hb ?_)
      · rw [hTT]
        have hz := zsi h hq
        refine zR2_hp ?_ ?_ hz
        · first | with_reducible rfl | exact hA2_tn_readRow _ _ _
        · first | with_reducible rfl | exact hF3_tn_readRow _ _ _ _ _ _ _
      · refine zl_el h (fun h => zU_l hTT ?_)
        refine zb_el h (fun hb h => zU_t hTT hb ?_) (fun hb h => zU_f hTT hb ?_)
        · rw [hTT]
          have hz := zsi h hq
          refine zR2_hp ?_ ?_ hz
          · first | with_reducible rfl | exact hA2_tn_readRow _ _ _
          · first | with_reducible rfl | exact hF3_tn_readRow _ _ _ _ _ _ _
        · refine zg_el h (fun hg h => zU_g hTT hg ?_)
          refine zl_el h (fun h => zU_l hTT ?_)
          refine zb_el h (fun hb h => zU_t hTT hb ?_) (fun hb h => zU_f hTT hb ?_)
          · rw [hTT]
            have hz := zsi h hq
            refine zR2_hp ?_ ?_ hz
            · first | with_reducible rfl | exact hA2_tn_readRow _ _ _
            · first | with_reducible rfl | exact hF3_tn_readRow _ _ _ _ _ _ _
          · rw [hTT]
            have hz := zsi h hq
            refine zR2_hp ?_ ?_ hz
            · first | with_reducible rfl | exact hA2_tn_readRow _ _ _
            · first | with_reducible rfl | exact hF3_tn_readRow _ _ _ _ _ _ _
set_option maxRecDepth 1000000 in
theorem t_tn_readRow {X : Nat × (Nat → Int32)} {ar fi : Nat → Nat → Int32} {m1 m2 m3 m5 : Nat} {x : Int32} {G_tn_canBeginSign : Int32 → Int32 → Int32 → (Nat → Int32) → Bool} {W_tn_canBeginSign : Int32 → Int32 → Int32 → (Nat → Int32) → Int32} {F0_tx_fail : Int32 → Int32 → Int32 → Int32 → Int32} {F1_tx_fail : Int32 → Int32 → Int32 → Int32 → Int32} {Q_tn_readSign : Int32 → Int32 → (Nat → Int32) → (Nat → Int32) → Int32 → Int32 → Int32 → Int32 → Option (Int32 × (Nat → Int32) × Int32 × Int32 × Int32)} {W_tx_isGood : Int32 → Int32} {W_tx_isAtEnd : Int32 → Int32 → Int32} {G_tx_sign : Int32 → Int32 → Int32 → (Nat → Int32) → Bool} {W_tx_sign : Int32 → Int32 → Int32 → (Nat → Int32) → Int32} : zseg X zFT (zEx 103 (P_tn_canBeginSign G_tn_canBeginSign W_tn_canBeginSign) (zEx 97 (P_tx_fail F0_tx_fail F1_tx_fail) (zEx 105 (P_tn_readSign Q_tn_readSign) (zEx 91 (P_tx_isGood W_tx_isGood) (zEx 92 (P_tx_isAtEnd W_tx_isAtEnd) (zEx 93 (P_tx_sign G_tx_sign W_tx_sign) zE0)))))) zc_102 (fun p => Nat.beq p 35) 400 0 [.ref 42, .int x] [] (ar, fi, (m1, m2, m3, 1, m5)) = (
  bif !decide (x = 8) then
   some (.inl (35, [.ref 42, .int x, .int 0, .int 1, .int 0], [], (ar, fi, (m1, m2, m3, 1, m5))))
  else
   zg (G_tn_canBeginSign (fi 44 2) (fi 44 4) (fi 44 1) (ar 1)) (
   zl (W_tn_canBeginSign (fi 44 2) (fi 44 4) (fi 44 1) (ar 1)) (fun v1 =>
   bif decide (v1 = 0) then
    some (.inl (35, [.ref 42, .int x, .int 0, .int 1, .int 0], [], (ar, fi, (m1, m2, m3, 1, m5))))
   else
    zl (F0_tx_fail 4 (fi 44 4) (fi 44 2) (fi 44 3)) (fun v2 =>
    zl (F1_tx_fail 4 (fi 44 4) (fi 44 2) (fi 44 3)) (fun v3 =>
    some (.inl (35, [.ref 42, .int x, .int 0, .int 1, .int 0], [], (ar, (zuf (zuf fi 44 2 v2) 44 3 v3), (m1, m2, m3, 1, m5)))))))) : Option ((Nat × List Value × List Value × zH2) ⊕ zO2)) := by with_unfolding_all rfl
set_option maxRecDepth 20000 in
theorem e_tn_readRow {X : Nat × (Nat → Int32)} {ar fi : Nat → Nat → Int32} {m1 m2 m3 m5 : Nat} {x : Int32} {o : zO2} : ∀ (q : T_tn_readRow), q_tn_readRow x (ar 1) (ar 43) (fi 44 1) (fi 44 2) (fi 44 3) (fi 44 4) = some q → (fun t => O_tn_readRow ar fi m1 m2 m3 m5 t = o) q → zR2 X zFT (zEx 103 S_tn_canBeginSign (zEx 97 S_tx_fail (zEx 105 S_tn_readSign (zEx 91 S_tx_isGood (zEx 92 S_tx_isAtEnd (zEx 93 S_tx_sign zE0)))))) zc_102 0 [.ref 42, .int x] [] (ar, fi, (m1, m2, m3, 1, m5)) o := by
  intro q h hq
  unfold q_tn_readRow at h
  refine zT_seg t_tn_readRow ?_
  obtain ⟨TT, hTT⟩ : ∃ T, T = zT X zFT (zEx 103 S_tn_canBeginSign (zEx 97 S_tx_fail (zEx 105 S_tn_readSign (zEx 91 S_tx_isGood (zEx 92 S_tx_isAtEnd (zEx 93 S_tx_sign zE0)))))) zc_102 o := ⟨_, rfl⟩
  rw [← hTT]
  refine zb_el h (fun hb h => zU_t hTT hb ?_) (fun hb h => zU_f hTT hb ?_)
  · rw [hTT]
    refine zR2_hp ?_ ?_ (zlp_K k_tn_readRow_35 h hq)
    · first | with_reducible rfl | exact hA4_tn_readRow _
    · first | with_reducible rfl | exact hF5_tn_readRow _
  · refine zg_el h (fun hg h => zU_g hTT hg ?_)
    refine zl_el h (fun h => zU_l hTT ?_)
    refine zb_el h (fun hb h => zU_t hTT hb ?_) (fun hb h => zU_f hTT hb ?_)
    · rw [hTT]
      refine zR2_hp ?_ ?_ (zlp_K k_tn_readRow_35 h hq)
      · first | with_reducible rfl | exact hA4_tn_readRow _
      · first | with_reducible rfl | exact hF5_tn_readRow _
    · refine zl_el h (fun h => zU_l hTT ?_)
      refine zl_el h (fun h => zU_l hTT ?_)
      rw [hTT]
      refine zR2_hp ?_ ?_ (zlp_K k_tn_readRow_35 h hq)
      · first | with_reducible rfl | exact hA4_tn_readRow _
      · first | with_reducible rfl | exact hF6_tn_readRow _ _ _
theorem ok_tn_readRow (X : Nat × (Nat → Int32)) : zOkS X 102 S_tn_readRow 5 := zOkS_new (zOkE_cons (ok_tn_canBeginSign X) (by decide) (zOkE_cons (ok_tx_fail X) (by decide) (zOkE_cons (ok_tn_readSign X) (by decide) (zOkE_cons (ok_tx_isGood X) (by decide) (zOkE_cons (ok_tx_isAtEnd X) (by decide) (zOkE_cons (ok_tx_sign X) (by decide) (zOkE_nil X 4))))))) (by
  intro args g o h
  obtain ⟨ar, fi, m1, m2, m3, m4, m5⟩ := g
  unfold S_tn_readRow P_tn_readRow at h
  split at h
  · refine zb_el h (fun hI0 k0 => ?_) (fun _ h10 => ?_)
    · try simp only [Bool.and_eq_true] at hI0
      obtain ⟨j0, j1⟩ := hI0
      have e0 := Nat.eq_of_beq_eq_true j0
      subst e0
      have e9 : m4 = 1 := Nat.eq_of_beq_eq_true j1
      subst e9
      exact zpe_el k0 (fun t ht ho => by obtain ⟨t0, t1, t2, t3⟩ := t; exact e_tn_readRow _ ht ho)
    · cases h10
  · cases h)
