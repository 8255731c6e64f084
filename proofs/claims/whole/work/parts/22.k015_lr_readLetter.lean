abbrev T_lr_readLetter : Type := Int32 × (Nat → Int32) × (Nat → Int32) × Int32 × Int32 × Int32
def q_lr_readLetter (y : Int32) (a1 : Nat → Int32) (a27 : Nat → Int32) (a28 : Nat → Int32) (f23_7 : Int32) (f23_9 : Int32) (f40_1 : Int32) (f40_2 : Int32) (f40_3 : Int32) (f40_4 : Int32) : Option T_lr_readLetter :=
  zg (g_tx_sign (f40_2) (f40_4) (f40_1) a1) (
  zl (w_tx_sign (f40_2) (f40_4) (f40_1) a1) (fun v1 =>
  bif decide (v1 = 98) then
   bif decide (y < 16) then
    zl (f0_tx_skip (f40_4)) (fun v2 =>
    zg (g_lw_beginRule v1 (f23_9) a27 a28 (f23_7)) (
    zl (a0_lw_beginRule v1 (f23_9) a27 a28 (f23_7)) (fun v3 =>
    zl (a1_lw_beginRule v1 (f23_9) a27 a28 (f23_7)) (fun v4 =>
    some (v1, v3, v4, f40_2, f40_3, v2)))))
   else
    zl (f0_tx_fail 4 (f40_4) (f40_2) (f40_3)) (fun v5 =>
    zl (f1_tx_fail 4 (f40_4) (f40_2) (f40_3)) (fun v6 =>
    some (v1, a27, a28, v5, v6, f40_4)))
  else
   bif decide (v1 = 115) then
    bif decide (y < 16) then
     zl (f0_tx_skip (f40_4)) (fun v7 =>
     zg (g_lw_beginRule v1 (f23_9) a27 a28 (f23_7)) (
     zl (a0_lw_beginRule v1 (f23_9) a27 a28 (f23_7)) (fun v8 =>
     zl (a1_lw_beginRule v1 (f23_9) a27 a28 (f23_7)) (fun v9 =>
     some (v1, v8, v9, f40_2, f40_3, v7)))))
    else
     zl (f0_tx_fail 4 (f40_4) (f40_2) (f40_3)) (fun v10 =>
     zl (f1_tx_fail 4 (f40_4) (f40_2) (f40_3)) (fun v11 =>
     some (v1, a27, a28, v10, v11, f40_4)))
   else
    bif decide (v1 = 120) then
     bif decide (y < 16) then
      zl (f0_tx_skip (f40_4)) (fun v12 =>
      zg (g_lw_beginRule v1 (f23_9) a27 a28 (f23_7)) (
      zl (a0_lw_beginRule v1 (f23_9) a27 a28 (f23_7)) (fun v13 =>
      zl (a1_lw_beginRule v1 (f23_9) a27 a28 (f23_7)) (fun v14 =>
      some (v1, v13, v14, f40_2, f40_3, v12)))))
     else
      zl (f0_tx_fail 4 (f40_4) (f40_2) (f40_3)) (fun v15 =>
      zl (f1_tx_fail 4 (f40_4) (f40_2) (f40_3)) (fun v16 =>
      some (v1, a27, a28, v15, v16, f40_4)))
    else
     zl (f0_tx_fail 1 (f40_4) (f40_2) (f40_3)) (fun v17 =>
     zl (f1_tx_fail 1 (f40_4) (f40_2) (f40_3)) (fun v18 =>
     some (v1, a27, a28, v17, v18, f40_4)))))
def P_lr_readLetter (Q : Int32 → (Nat → Int32) → (Nat → Int32) → (Nat → Int32) → Int32 → Int32 → Int32 → Int32 → Int32 → Int32 → Option (Int32 × (Nat → Int32) × (Nat → Int32) × Int32 × Int32 × Int32)) : zSp := fun as g => match as with
  | [.ref a, .ref b, .int y] => bif Nat.beq a 39 && Nat.beq b 23 && Nat.beq g.2.2.2.2.1 1 then zpe (Q y (g.1 1) (g.1 27) (g.1 28) (g.2.1 23 7) (g.2.1 23 9) (g.2.1 40 1) (g.2.1 40 2) (g.2.1 40 3) (g.2.1 40 4)) (fun t => (some (.int (t.1)), ((zua (zua g.1 27 t.2.1) 28 t.2.2.1), (zuf (zuf (zuf g.2.1 40 2 t.2.2.2.1) 40 3 t.2.2.2.2.1) 40 4 t.2.2.2.2.2), g.2.2))) else bif Nat.beq a 39 && Nat.beq b 31 && Nat.beq g.2.2.2.2.1 1 then zpe (Q y (g.1 1) (g.1 35) (g.1 36) (g.2.1 31 7) (g.2.1 31 9) (g.2.1 40 1) (g.2.1 40 2) (g.2.1 40 3) (g.2.1 40 4)) (fun t => (some (.int (t.1)), ((zua (zua g.1 35 t.2.1) 36 t.2.2.1), (zuf (zuf (zuf g.2.1 40 2 t.2.2.2.1) 40 3 t.2.2.2.2.1) 40 4 t.2.2.2.2.2), g.2.2))) else none
  | _ => none
noncomputable abbrev S_lr_readLetter : zSp := P_lr_readLetter q_lr_readLetter
theorem hA5_lr_readLetter (F : Nat → Nat → Int32) : F = (zua (zua F 35 (F 35)) 36 (F 36)) := zuak_ix F [] [(35, none), (36, none)] rfl
theorem hA4_lr_readLetter (F : Nat → Nat → Int32) (w0 w1 : Nat → Int32) : (zua (zua F 35 w0) 36 w1) = (zua (zua F 35 w0) 36 w1) := zuak_ix F [(35, w0), (36, w1)] [(35, some 0), (36, some 1)] rfl
theorem hF3_lr_readLetter (F : Nat → Nat → Int32) (w0 w1 : Int32) : (zuf (zuf F 40 2 w0) 40 3 w1) = (zuf (zuf (zuf F 40 2 w0) 40 3 w1) 40 4 (F 40 4)) := zufk_ix F [((40, 2), w0), ((40, 3), w1)] [((40, 2), some 0), ((40, 3), some 1), ((40, 4), none)] rfl
theorem hA2_lr_readLetter (F : Nat → Nat → Int32) : F = (zua (zua F 27 (F 27)) 28 (F 28)) := zuak_ix F [] [(27, none), (28, none)] rfl
theorem hF1_lr_readLetter (F : Nat → Nat → Int32) (w0 : Int32) : (zuf F 40 4 w0) = (zuf (zuf (zuf F 40 2 (F 40 2)) 40 3 (F 40 3)) 40 4 w0) := zufk_ix F [((40, 4), w0)] [((40, 2), none), ((40, 3), none), ((40, 4), some 0)] rfl
theorem hA0_lr_readLetter (F : Nat → Nat → Int32) (w0 w1 : Nat → Int32) : (zua (zua F 27 w0) 28 w1) = (zua (zua F 27 w0) 28 w1) := zuak_ix F [(27, w0), (28, w1)] [(27, some 0), (28, some 1)] rfl
def O_lr_readLetter_39_23 (ar fi : Nat → Nat → Int32) (m1 : Nat) (m2 : Nat) (m4 : Nat) (m5 : Nat) (t : T_lr_readLetter) : zO2 := match t with
  | (t0, t1, t2, t3, t4, t5) => (some (.int (t0)), ((zua (zua ar 27 t1) 28 t2), (zuf (zuf (zuf fi 40 2 t3) 40 3 t4) 40 4 t5), (m1, m2, 1, m4, m5)))
set_option maxRecDepth 1000000 in
theorem t_lr_readLetter_39_23 {X : Nat × (Nat → Int32)} {ar fi : Nat → Nat → Int32} {m1 m2 m4 m5 : Nat} {y : Int32} {G_tx_sign : Int32 → Int32 → Int32 → (Nat → Int32) → Bool} {W_tx_sign : Int32 → Int32 → Int32 → (Nat → Int32) → Int32} {F0_tx_fail : Int32 → Int32 → Int32 → Int32 → Int32} {F1_tx_fail : Int32 → Int32 → Int32 → Int32 → Int32} {F0_tx_skip : Int32 → Int32} {G_lw_beginRule : Int32 → Int32 → (Nat → Int32) → (Nat → Int32) → Int32 → Bool} {A0_lw_beginRule : Int32 → Int32 → (Nat → Int32) → (Nat → Int32) → Int32 → Nat → Int32} {A1_lw_beginRule : Int32 → Int32 → (Nat → Int32) → (Nat → Int32) → Int32 → Nat → Int32} : zseg X zFT (zEx 93 (P_tx_sign G_tx_sign W_tx_sign) (zEx 97 (P_tx_fail F0_tx_fail F1_tx_fail) (zEx 95 (P_tx_skip F0_tx_skip) (zEx 37 (P_lw_beginRule G_lw_beginRule A0_lw_beginRule A1_lw_beginRule) zE0)))) zc_50 (fun p => false) 400 0 [.ref 39, .ref 23, .int y] [] (ar, fi, (m1, m2, 1, m4, m5)) = (
  zg (G_tx_sign (fi 40 2) (fi 40 4) (fi 40 1) (ar 1)) (
  zl (W_tx_sign (fi 40 2) (fi 40 4) (fi 40 1) (ar 1)) (fun v1 =>
  bif decide (v1 = 98) then
   bif decide (y < 16) then
    zl (F0_tx_skip (fi 40 4)) (fun v2 =>
    zg (G_lw_beginRule v1 (fi 23 9) (ar 27) (ar 28) (fi 23 7)) (
    zl (A0_lw_beginRule v1 (fi 23 9) (ar 27) (ar 28) (fi 23 7)) (fun v3 =>
    zl (A1_lw_beginRule v1 (fi 23 9) (ar 27) (ar 28) (fi 23 7)) (fun v4 =>
    some (.inr (some (.int v1), ((zua (zua ar 27 v3) 28 v4), (zuf fi 40 4 v2), (m1, m2, 1, m4, m5))))))))
   else
    zl (F0_tx_fail 4 (fi 40 4) (fi 40 2) (fi 40 3)) (fun v5 =>
    zl (F1_tx_fail 4 (fi 40 4) (fi 40 2) (fi 40 3)) (fun v6 =>
    some (.inr (some (.int v1), (ar, (zuf (zuf fi 40 2 v5) 40 3 v6), (m1, m2, 1, m4, m5))))))
  else
   bif decide (v1 = 115) then
    bif decide (y < 16) then
     zl (F0_tx_skip (fi 40 4)) (fun v7 =>
     zg (G_lw_beginRule v1 (fi 23 9) (ar 27) (ar 28) (fi 23 7)) (
     zl (A0_lw_beginRule v1 (fi 23 9) (ar 27) (ar 28) (fi 23 7)) (fun v8 =>
     zl (A1_lw_beginRule v1 (fi 23 9) (ar 27) (ar 28) (fi 23 7)) (fun v9 =>
     some (.inr (some (.int v1), ((zua (zua ar 27 v8) 28 v9), (zuf fi 40 4 v7), (m1, m2, 1, m4, m5))))))))
    else
     zl (F0_tx_fail 4 (fi 40 4) (fi 40 2) (fi 40 3)) (fun v10 =>
     zl (F1_tx_fail 4 (fi 40 4) (fi 40 2) (fi 40 3)) (fun v11 =>
     some (.inr (some (.int v1), (ar, (zuf (zuf fi 40 2 v10) 40 3 v11), (m1, m2, 1, m4, m5))))))
   else
    bif decide (v1 = 120) then
     bif decide (y < 16) then
      zl (F0_tx_skip (fi 40 4)) (fun v12 =>
      zg (G_lw_beginRule v1 (fi 23 9) (ar 27) (ar 28) (fi 23 7)) (
      zl (A0_lw_beginRule v1 (fi 23 9) (ar 27) (ar 28) (fi 23 7)) (fun v13 =>
      zl (A1_lw_beginRule v1 (fi 23 9) (ar 27) (ar 28) (fi 23 7)) (fun v14 =>
      some (.inr (some (.int v1), ((zua (zua ar 27 v13) 28 v14), (zuf fi 40 4 v12), (m1, m2, 1, m4, m5))))))))
     else
      zl (F0_tx_fail 4 (fi 40 4) (fi 40 2) (fi 40 3)) (fun v15 =>
      zl (F1_tx_fail 4 (fi 40 4) (fi 40 2) (fi 40 3)) (fun v16 =>
      some (.inr (some (.int v1), (ar, (zuf (zuf fi 40 2 v15) 40 3 v16), (m1, m2, 1, m4, m5))))))
    else
     zl (F0_tx_fail 1 (fi 40 4) (fi 40 2) (fi 40 3)) (fun v17 =>
     zl (F1_tx_fail 1 (fi 40 4) (fi 40 2) (fi 40 3)) (fun v18 =>
     some (.inr (some (.int v1), (ar, (zuf (zuf fi 40 2 v17) 40 3 v18), (m1, m2, 1, m4, m5)))))))) : Option ((Nat × List Value × List Value × zH2) ⊕ zO2)) := by with_unfolding_all rfl
set_option maxRecDepth 20000 in
theorem e_lr_readLetter_39_23 {X : Nat × (Nat → Int32)} {ar fi : Nat → Nat → Int32} {m1 m2 m4 m5 : Nat} {y : Int32} {o : zO2} : ∀ (q : T_lr_readLetter), q_lr_readLetter y (ar 1) (ar 27) (ar 28) (fi 23 7) (fi 23 9) (fi 40 1) (fi 40 2) (fi 40 3) (fi 40 4) = some q → (fun t => O_lr_readLetter_39_23 ar fi m1 m2 m4 m5 t = o) q → zR2 X zFT (zEx 93 S_tx_sign (zEx 97 S_tx_fail (zEx 95 S_tx_skip (zEx 37 S_lw_beginRule zE0)))) zc_50 0 [.ref 39, .ref 23, .int y] [] (ar, fi, (m1, m2, 1, m4, m5)) o := by
  intro q h hq
  unfold q_lr_readLetter at h
  refine zT_seg t_lr_readLetter_39_23 ?_
  obtain ⟨TT, hTT⟩ : ∃ T, T = zT X zFT (zEx 93 S_tx_sign (zEx 97 S_tx_fail (zEx 95 S_tx_skip (zEx 37 S_lw_beginRule zE0)))) zc_50 o := ⟨_, rfl⟩
  rw [← hTT]
  refine zg_el h (fun hg h => zU_g hTT hg ?_)
  refine zl_el h (fun h => zU_l hTT ?_)
  refine zb_el h (fun hb h => zU_t hTT hb ?_) (fun hb h => zU_f hTT hb ?_)
  · refine zb_el h (fun hb h => zU_t hTT hb ?_) (fun hb h => zU_f hTT hb ?_)
    · refine zl_el h (fun h => zU_l hTT ?_)
      refine zg_el h (fun hg h => zU_g hTT hg ?_)
      refine zl_el h (fun h => zU_l hTT ?_)
      refine zl_el h (fun h => zU_l hTT ?_)
      rw [hTT]
      have hz := zsi (P := (fun t => O_lr_readLetter_39_23 ar fi m1 m2 m4 m5 t = o)) h hq
      refine (zO_mk ?_ ?_).trans hz
      · first | with_reducible rfl | exact hA0_lr_readLetter _ _ _
      · first | with_reducible rfl | exact hF1_lr_readLetter _ _
    · refine zl_el h (fun h => zU_l hTT ?_)
      refine zl_el h (fun h => zU_l hTT ?_)
      rw [hTT]
      have hz := zsi (P := (fun t => O_lr_readLetter_39_23 ar fi m1 m2 m4 m5 t = o)) h hq
      refine (zO_mk ?_ ?_).trans hz
      · first | with_reducible rfl | exact hA2_lr_readLetter _
      · first | with_reducible rfl | exact hF3_lr_readLetter _ _ _
  · refine zb_el h (fun hb h => zU_t hTT hb ?_) (fun hb h => zU_f hTT hb ?_)
    · refine zb_el h (fun hb h => zU_t hTT hb ?_) (fun hb h => zU_f hTT hb ?_)
      · refine zl_el h (fun h => zU_l hTT ?_)
        refine zg_el h (fun hg h => zU_g hTT hg ?_)
        refine zl_el h (fun h => zU_l hTT ?_)
        refine zl_el h (fun h => zU_l hTT ?_)
        rw [hTT]
        have hz := zsi (P := (fun t => O_lr_readLetter_39_23 ar fi m1 m2 m4 m5 t = o)) h hq
        refine (zO_mk ?_ ?_).trans hz
        · first | with_reducible rfl | exact hA0_lr_readLetter _ _ _
        · first | with_reducible rfl | exact hF1_lr_readLetter _ _
      · refine zl_el h (fun h => zU_l hTT ?_)
        refine zl_el h (fun h => zU_l hTT ?_)
        rw [hTT]
        have hz := zsi (P := (fun t => O_lr_readLetter_39_23 ar fi m1 m2 m4 m5 t = o)) h hq
        refine (zO_mk ?_ ?_).trans hz
        · first | with_reducible rfl | exact hA2_lr_readLetter _
        · first | with_reducible rfl | exact hF3_lr_readLetter _ _ _
    · refine zb_el h (fun hb h => zU_t hTT hb ?_) (fun hb h => zU_f hTT hb ?_)
      · refine zb_el h (fun hb h => zU_t hTT hb ?_) (fun hb h => zU_f hTT hb ?_)
        · refine zl_el h (fun h => zU_l hTT ?_)
          refine zg_el h (fun hg h => zU_g hTT hg ?_)
          refine zl_el h (fun h => zU_l hTT ?_)
          refine zl_el h (fun h => zU_l hTT ?_)
          rw [hTT]
          have hz := zsi (P := (fun t => O_lr_readLetter_39_23 ar fi m1 m2 m4 m5 t = o)) h hq
          refine (zO_mk ?_ ?_).trans hz
          · first | with_reducible rfl | exact hA0_lr_readLetter _ _ _
          · first | with_reducible rfl | exact hF1_lr_readLetter _ _
        · refine zl_el h (fun h => zU_l hTT ?_)
          refine zl_el h (fun h => zU_l hTT ?_)
          rw [hTT]
          have hz := zsi (P := (fun t => O_lr_readLetter_39_23 ar fi m1 m2 m4 m5 t = o)) h hq
          refine (zO_mk ?_ ?_).trans hz
          · first | with_reducible rfl | exact hA2_lr_readLetter _
          · first | with_reducible rfl | exact hF3_lr_readLetter _ _ _
      · refine zl_el h (fun h => zU_l hTT ?_)
        refine zl_el h (fun h => zU_l hTT ?_)
        rw [hTT]
        have hz := zsi (P := (fun t => O_lr_readLetter_39_23 ar fi m1 m2 m4 m5 t = o)) h hq
        refine (zO_mk ?_ ?_).trans hz
        · first | with_reducible rfl | exact hA2_lr_readLetter _
        · first | with_reducible rfl | exact hF3_lr_readLetter _ _ _
def O_lr_readLetter_39_31 (ar fi : Nat → Nat → Int32) (m1 : Nat) (m2 : Nat) (m4 : Nat) (m5 : Nat) (t : T_lr_readLetter) : zO2 := match t with
  | (t0, t1, t2, t3, t4, t5) => (some (.int (t0)), ((zua (zua ar 35 t1) 36 t2), (zuf (zuf (zuf fi 40 2 t3) 40 3 t4) 40 4 t5), (m1, m2, 1, m4, m5)))
set_option maxRecDepth 1000000 in
theorem t_lr_readLetter_39_31 {X : Nat × (Nat → Int32)} {ar fi : Nat → Nat → Int32} {m1 m2 m4 m5 : Nat} {y : Int32} {G_tx_sign : Int32 → Int32 → Int32 → (Nat → Int32) → Bool} {W_tx_sign : Int32 → Int32 → Int32 → (Nat → Int32) → Int32} {F0_tx_fail : Int32 → Int32 → Int32 → Int32 → Int32} {F1_tx_fail : Int32 → Int32 → Int32 → Int32 → Int32} {F0_tx_skip : Int32 → Int32} {G_lw_beginRule : Int32 → Int32 → (Nat → Int32) → (Nat → Int32) → Int32 → Bool} {A0_lw_beginRule : Int32 → Int32 → (Nat → Int32) → (Nat → Int32) → Int32 → Nat → Int32} {A1_lw_beginRule : Int32 → Int32 → (Nat → Int32) → (Nat → Int32) → Int32 → Nat → Int32} : zseg X zFT (zEx 93 (P_tx_sign G_tx_sign W_tx_sign) (zEx 97 (P_tx_fail F0_tx_fail F1_tx_fail) (zEx 95 (P_tx_skip F0_tx_skip) (zEx 37 (P_lw_beginRule G_lw_beginRule A0_lw_beginRule A1_lw_beginRule) zE0)))) zc_50 (fun p => false) 400 0 [.ref 39, .ref 31, .int y] [] (ar, fi, (m1, m2, 1, m4, m5)) = (
  zg (G_tx_sign (fi 40 2) (fi 40 4) (fi 40 1) (ar 1)) (
  zl (W_tx_sign (fi 40 2) (fi 40 4) (fi 40 1) (ar 1)) (fun v1 =>
  bif decide (v1 = 98) then
   bif decide (y < 16) then
    zl (F0_tx_skip (fi 40 4)) (fun v2 =>
    zg (G_lw_beginRule v1 (fi 31 9) (ar 35) (ar 36) (fi 31 7)) (
    zl (A0_lw_beginRule v1 (fi 31 9) (ar 35) (ar 36) (fi 31 7)) (fun v3 =>
    zl (A1_lw_beginRule v1 (fi 31 9) (ar 35) (ar 36) (fi 31 7)) (fun v4 =>
    some (.inr (some (.int v1), ((zua (zua ar 35 v3) 36 v4), (zuf fi 40 4 v2), (m1, m2, 1, m4, m5))))))))
   else
    zl (F0_tx_fail 4 (fi 40 4) (fi 40 2) (fi 40 3)) (fun v5 =>
    zl (F1_tx_fail 4 (fi 40 4) (fi 40 2) (fi 40 3)) (fun v6 =>
    some (.inr (some (.int v1), (ar, (zuf (zuf fi 40 2 v5) 40 3 v6), (m1, m2, 1, m4, m5))))))
  else
   bif decide (v1 = 115) then
    bif decide (y < 16) then
     zl (F0_tx_skip (fi 40 4)) (fun v7 =>
     zg (G_lw_beginRule v1 (fi 31 9) (ar 35) (ar 36) (fi 31 7)) (
     zl (A0_lw_beginRule v1 (fi 31 9) (ar 35) (ar 36) (fi 31 7)) (fun v8 =>
     zl (A1_lw_beginRule v1 (fi 31 9) (ar 35) (ar 36) (fi 31 7)) (fun v9 =>
     some (.inr (some (.int v1), ((zua (zua ar 35 v8) 36 v9), (zuf fi 40 4 v7), (m1, m2, 1, m4, m5))))))))
    else
     zl (F0_tx_fail 4 (fi 40 4) (fi 40 2) (fi 40 3)) (fun v10 =>
     zl (F1_tx_fail 4 (fi 40 4) (fi 40 2) (fi 40 3)) (fun v11 =>
     some (.inr (some (.int v1), (ar, (zuf (zuf fi 40 2 v10) 40 3 v11), (m1, m2, 1, m4, m5))))))
   else
    bif decide (v1 = 120) then
     bif decide (y < 16) then
      zl (F0_tx_skip (fi 40 4)) (fun v12 =>
      zg (G_lw_beginRule v1 (fi 31 9) (ar 35) (ar 36) (fi 31 7)) (
      zl (A0_lw_beginRule v1 (fi 31 9) (ar 35) (ar 36) (fi 31 7)) (fun v13 =>
      zl (A1_lw_beginRule v1 (fi 31 9) (ar 35) (ar 36) (fi 31 7)) (fun v14 =>
      some (.inr (some (.int v1), ((zua (zua ar 35 v13) 36 v14), (zuf fi 40 4 v12), (m1, m2, 1, m4, m5))))))))
     else
      zl (F0_tx_fail 4 (fi 40 4) (fi 40 2) (fi 40 3)) (fun v15 =>
      zl (F1_tx_fail 4 (fi 40 4) (fi 40 2) (fi 40 3)) (fun v16 =>
      some (.inr (some (.int v1), (ar, (zuf (zuf fi 40 2 v15) 40 3 v16), (m1, m2, 1, m4, m5))))))
    else
     zl (F0_tx_fail 1 (fi 40 4) (fi 40 2) (fi 40 3)) (fun v17 =>
     zl (F1_tx_fail 1 (fi 40 4) (fi 40 2) (fi 40 3)) (fun v18 =>
     some (.inr (some (.int v1), (ar, (zuf (zuf fi 40 2 v17) 40 3 v18), (m1, m2, 1, m4, m5)))))))) : Option ((Nat × List Value × List Value × zH2) ⊕ zO2)) := by with_unfolding_all rfl
set_option maxRecDepth 20000 in
theorem e_lr_readLetter_39_31 {X : Nat × (Nat → Int32)} {ar fi : Nat → Nat → Int32} {m1 m2 m4 m5 : Nat} {y : Int32} {o : zO2} : ∀ (q : T_lr_readLetter), q_lr_readLetter y (ar 1) (ar 35) (ar 36) (fi 31 7) (fi 31 9) (fi 40 1) (fi 40 2) (fi 40 3) (fi 40 4) = some q → (fun t => O_lr_readLetter_39_31 ar fi m1 m2 m4 m5 t = o) q → zR2 X zFT (zEx 93 S_tx_sign (zEx 97 S_tx_fail (zEx 95 S_tx_skip (zEx 37 S_lw_beginRule zE0)))) zc_50 0 [.ref 39, .ref 31, .int y] [] (ar, fi, (m1, m2, 1, m4, m5)) o := by
  intro q h hq
  unfold q_lr_readLetter at h
  refine zT_seg t_lr_readLetter_39_31 ?_
  obtain ⟨TT, hTT⟩ : ∃ T, T = zT X zFT (zEx 93 S_tx_sign (zEx 97 S_tx_fail (zEx 95 S_tx_skip (zEx 37 S_lw_beginRule zE0)))) zc_50 o := ⟨_, rfl⟩
  rw [← hTT]
  refine zg_el h (fun hg h => zU_g hTT hg ?_)
  refine zl_el h (fun h => zU_l hTT ?_)
  refine zb_el h (fun hb h => zU_t hTT hb ?_) (fun hb h => zU_f hTT hb ?_)
  · refine zb_el h (fun hb h => zU_t hTT hb ?_) (fun hb h => zU_f hTT hb ?_)
    · refine zl_el h (fun h => zU_l hTT ?_)
      refine zg_el h (fun hg h => zU_g hTT hg ?_)
      refine zl_el h (fun h => zU_l hTT ?_)
      refine zl_el h (fun h => zU_l hTT ?_)
      rw [hTT]
      have hz := zsi (P := (fun t => O_lr_readLetter_39_31 ar fi m1 m2 m4 m5 t = o)) h hq
      refine (zO_mk ?_ ?_).trans hz
      · first | with_reducible rfl | exact hA4_lr_readLetter _ _ _
      · first | with_reducible rfl | exact hF1_lr_readLetter _ _
    · refine zl_el h (fun h => zU_l hTT ?_)
      refine zl_el h (fun h => zU_l hTT ?_)
      rw [hTT]
      have hz := zsi (P := (fun t => O_lr_readLetter_39_31 ar fi m1 m2 m4 m5 t = o)) h hq
      refine (zO_mk ?_ ?_).trans hz
      · first | with_reducible rfl | exact hA5_lr_readLetter _
      · first | with_reducible rfl | exact hF3_lr_readLetter _ _ _
  · refine zb_el h (fun hb h => zU_t hTT hb ?_) (fun hb h => zU_f hTT hb ?_)
    · refine zb_el h (fun hb h => zU_t hTT hb ?_) (fun hb h => zU_f hTT hb ?_)
      · refine zl_el h (fun h => zU_l hTT ?_)
        refine zg_el h (fun hg h => zU_g hTT hg ?_)
        refine zl_el h (fun h => zU_l hTT ?_)
        refine zl_el h (fun h => zU_l hTT ?_)
        rw [hTT]
        have hz := zsi (P := (fun t => O_lr_readLetter_39_31 ar fi m1 m2 m4 m5 t = o)) h hq
        refine (zO_mk ?_ ?_).trans hz
        · first | with_reducible rfl | exact hA4_lr_readLetter _ _ _
        · first | with_reducible rfl | exact hF1_lr_readLetter _ _
      · refine zl_el h (fun h => zU_l hTT ?_)
        refine zl_el h (fun h => zU_l hTT ?_)
        rw [hTT]
        have hz := zsi (P := (fun t => O_lr_readLetter_39_31 ar fi m1 m2 m4 m5 t = o)) h hq
        refine (zO_mk ?_ ?_).trans hz
        · first | with_reducible rfl | exact hA5_lr_readLetter _
        · first | with_reducible rfl | exact hF3_lr_readLetter _ _ _
    · refine zb_el h (fun hb h => zU_t hTT hb ?_) (fun hb h => zU_f hTT hb ?_)
      · refine zb_el h (fun hb h => zU_t hTT hb ?_) (fun hb h => zU_f hTT hb ?_)
        · refine zl_el h (fun h => zU_l hTT ?_)
          refine zg_el h (fun hg h => zU_g hTT hg ?_)
          refine zl_el h (fun h => zU_l hTT ?_)
          refine zl_el h (fun h => zU_l hTT ?_)
          rw [hTT]
          have hz := zsi (P := (fun t => O_lr_readLetter_39_31 ar fi m1 m2 m4 m5 t = o)) h hq
          refine (zO_mk ?_ ?_).trans hz
          · first | with_reducible rfl | exact hA4_lr_readLetter _ _ _
          · first | with_reducible rfl | exact hF1_lr_readLetter _ _
        · refine zl_el h (fun h => zU_l hTT ?_)
          refine zl_el h (fun h => zU_l hTT ?_)
          rw [hTT]
          have hz := zsi (P := (fun t => O_lr_readLetter_39_31 ar fi m1 m2 m4 m5 t = o)) h hq
          refine (zO_mk ?_ ?_).trans hz
          · first | with_reducible rfl | exact hA5_lr_readLetter _
          · first | with_reducible rfl | exact hF3_lr_readLetter _ _ _
      · refine zl_el h (fun h => zU_l hTT ?_)
        refine zl_el h (fun h => zU_l hTT ?_)
        rw [hTT]
        have hz := zsi (P := (fun t => O_lr_readLetter_39_31 ar fi m1 m2 m4 m5 t = o)) h hq
        refine (zO_mk ?_ ?_).trans hz
        · first | with_reducible rfl | exact hA5_lr_readLetter _
        · first | with_reducible rfl | exact hF3_lr_readLetter _ _ _
theorem ok_lr_readLetter (X : Nat × (Nat → Int32)) : zOkS X 50 S_lr_readLetter 2 := zOkS_new (zOkE_cons (ok_tx_sign X) (by decide) (zOkE_cons (ok_tx_fail X) (by decide) (zOkE_cons (ok_tx_skip X) (by decide) (zOkE_cons (ok_lw_beginRule X) (by decide) (zOkE_nil X 1))))) (by
  intro args g o h
  obtain ⟨ar, fi, m1, m2, m3, m4, m5⟩ := g
  unfold S_lr_readLetter P_lr_readLetter at h
  split at h
  · refine zb_el h (fun hI0 k0 => ?_) (fun _ h10 => ?_)
    · try simp only [Bool.and_eq_true] at hI0
      obtain ⟨⟨j0, j1⟩, j2⟩ := hI0
      have e0 := Nat.eq_of_beq_eq_true j0
      subst e0
      have e1 := Nat.eq_of_beq_eq_true j1
      subst e1
      have e9 : m3 = 1 := Nat.eq_of_beq_eq_true j2
      subst e9
      exact zpe_el k0 (fun t ht ho => by obtain ⟨t0, t1, t2, t3, t4, t5⟩ := t; exact e_lr_readLetter_39_23 _ ht ho)
    · skip
      refine zb_el h10 (fun hI1 k1 => ?_) (fun _ h11 => ?_)
      · try simp only [Bool.and_eq_true] at hI1
        obtain ⟨⟨j0, j1⟩, j2⟩ := hI1
        have e0 := Nat.eq_of_beq_eq_true j0
        subst e0
        have e1 := Nat.eq_of_beq_eq_true j1
        subst e1
        have e9 : m3 = 1 := Nat.eq_of_beq_eq_true j2
        subst e9
        exact zpe_el k1 (fun t ht ho => by obtain ⟨t0, t1, t2, t3, t4, t5⟩ := t; exact e_lr_readLetter_39_31 _ ht ho)
      · cases h11
  · cases h)
