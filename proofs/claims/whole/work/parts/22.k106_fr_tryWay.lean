abbrev T_fr_tryWay : Type := (Nat → Int32) × (Nat → Int32) × (Nat → Int32) × (Nat → Int32) × Int32
noncomputable def q_fr_tryWay (z : Int32) (u : Int32) (a3 : Nat → Int32) (a4 : Nat → Int32) (a5 : Nat → Int32) (a6 : Nat → Int32) (a7 : Nat → Int32) (a8 : Nat → Int32) (a24 : Nat → Int32) (a25 : Nat → Int32) (a26 : Nat → Int32) (a27 : Nat → Int32) (a28 : Nat → Int32) (a29 : Nat → Int32) (a30 : Nat → Int32) (a50 : Nat → Int32) (f2_6 : Int32) (f2_7 : Int32) (f2_8 : Int32) (f2_9 : Int32) (f2_10 : Int32) (f23_8 : Int32) (f23_9 : Int32) : Option T_fr_tryWay :=
  zl (w_if_nextTo z u) (fun v1 =>
  bif decide (v1 < 0) then
   some (a4, a5, a26, a50, f2_10)
  else
   zg (g_sc_isWholeWood v1 a3 a4) (
   zl (w_sc_isWholeWood v1 a3 a4) (fun v2 =>
   bif !decide (v2 = 0) then
    zg (zin z 96) (
    zg (g_fr_setLetters v1 (a5 (z.toNatClampNeg)) u 0 (f23_8) a4 a50 (f2_8) (f2_9) (f2_6) (f2_7) a6 a8 a7) (
    zl (a0_fr_setLetters v1 (a5 (z.toNatClampNeg)) u 0 (f23_8) a4 a50 (f2_8) (f2_9) (f2_6) (f2_7) a6 a8 a7) (fun v3 =>
    zbd (q_lw_amountOf 115 0 10 a24 a25 a26 a27 a28 a29 a30 v3 (f23_9)) (fun v4 =>
    zl (w_sc_draw (f2_10)) (fun v5 =>
    zl (f0_sc_draw (f2_10)) (fun v6 =>
    bif decide ((v4.1) ≤ v5) then
     some (a4, a5, ((v4.2)), v3, v6)
    else
     zg (g_fr_setLetters v1 0 0 0 (f23_8) a4 v3 (f2_8) (f2_9) (f2_6) (f2_7) a6 a8 a7) (
     zl (a0_fr_setLetters v1 0 0 0 (f23_8) a4 v3 (f2_8) (f2_9) (f2_6) (f2_7) a6 a8 a7) (fun v7 =>
     zbd (q_lw_amountOf 98 1 9 a24 a25 ((v4.2)) a27 a28 a29 a30 v7 (f23_9)) (fun v8 =>
     zg (g_sc_setState v1 1 ((v8.1)) a4 a5) (
     zl (a0_sc_setState v1 1 ((v8.1)) a4 a5) (fun v9 =>
     zl (a1_sc_setState v1 1 ((v8.1)) a4 a5) (fun v10 =>
     some (v9, v10, ((v8.2)), v7, v6)))))))))))))
   else
    some (a4, a5, a26, a50, f2_10))))
def P_fr_tryWay (Q : Int32 → Int32 → (Nat → Int32) → (Nat → Int32) → (Nat → Int32) → (Nat → Int32) → (Nat → Int32) → (Nat → Int32) → (Nat → Int32) → (Nat → Int32) → (Nat → Int32) → (Nat → Int32) → (Nat → Int32) → (Nat → Int32) → (Nat → Int32) → (Nat → Int32) → Int32 → Int32 → Int32 → Int32 → Int32 → Int32 → Int32 → Option ((Nat → Int32) × (Nat → Int32) × (Nat → Int32) × (Nat → Int32) × Int32)) : zSp := fun as g => match as with
  | [.ref a, .ref b, .ref c, .int z, .int u] => bif Nat.beq a 49 && Nat.beq b 2 && Nat.beq c 23 then zpe (Q z u (g.1 3) (g.1 4) (g.1 5) (g.1 6) (g.1 7) (g.1 8) (g.1 24) (g.1 25) (g.1 26) (g.1 27) (g.1 28) (g.1 29) (g.1 30) (g.1 50) (g.2.1 2 6) (g.2.1 2 7) (g.2.1 2 8) (g.2.1 2 9) (g.2.1 2 10) (g.2.1 23 8) (g.2.1 23 9)) (fun t => (none, ((zua (zua (zua (zua g.1 4 t.1) 5 t.2.1) 26 t.2.2.1) 50 t.2.2.2.1), (zuf g.2.1 2 10 t.2.2.2.2), g.2.2))) else bif Nat.beq a 49 && Nat.beq b 2 && Nat.beq c 31 then zpe (Q z u (g.1 3) (g.1 4) (g.1 5) (g.1 6) (g.1 7) (g.1 8) (g.1 32) (g.1 33) (g.1 34) (g.1 35) (g.1 36) (g.1 37) (g.1 38) (g.1 50) (g.2.1 2 6) (g.2.1 2 7) (g.2.1 2 8) (g.2.1 2 9) (g.2.1 2 10) (g.2.1 31 8) (g.2.1 31 9)) (fun t => (none, ((zua (zua (zua (zua g.1 4 t.1) 5 t.2.1) 34 t.2.2.1) 50 t.2.2.2.1), (zuf g.2.1 2 10 t.2.2.2.2), g.2.2))) else bif Nat.beq a 49 && Nat.beq b 16 && Nat.beq c 23 then zpe (Q z u (g.1 17) (g.1 18) (g.1 19) (g.1 20) (g.1 21) (g.1 22) (g.1 24) (g.1 25) (g.1 26) (g.1 27) (g.1 28) (g.1 29) (g.1 30) (g.1 50) (g.2.1 16 6) (g.2.1 16 7) (g.2.1 16 8) (g.2.1 16 9) (g.2.1 16 10) (g.2.1 23 8) (g.2.1 23 9)) (fun t => (none, ((zua (zua (zua (zua g.1 18 t.1) 19 t.2.1) 26 t.2.2.1) 50 t.2.2.2.1), (zuf g.2.1 16 10 t.2.2.2.2), g.2.2))) else bif Nat.beq a 49 && Nat.beq b 16 && Nat.beq c 31 then zpe (Q z u (g.1 17) (g.1 18) (g.1 19) (g.1 20) (g.1 21) (g.1 22) (g.1 32) (g.1 33) (g.1 34) (g.1 35) (g.1 36) (g.1 37) (g.1 38) (g.1 50) (g.2.1 16 6) (g.2.1 16 7) (g.2.1 16 8) (g.2.1 16 9) (g.2.1 16 10) (g.2.1 31 8) (g.2.1 31 9)) (fun t => (none, ((zua (zua (zua (zua g.1 18 t.1) 19 t.2.1) 34 t.2.2.1) 50 t.2.2.2.1), (zuf g.2.1 16 10 t.2.2.2.2), g.2.2))) else none
  | _ => none
noncomputable abbrev S_fr_tryWay : zSp := P_fr_tryWay q_fr_tryWay
theorem hA15_fr_tryWay (F : Nat → Nat → Int32) (w0 w1 w2 w3 w4 w5 : Nat → Int32) : (zua (zua (zua (zua (zua (zua F 50 w0) 34 w1) 50 w2) 34 w3) 18 w4) 19 w5) = (zua (zua (zua (zua F 18 w4) 19 w5) 34 w3) 50 w2) := zuak_ix F [(50, w0), (34, w1), (50, w2), (34, w3), (18, w4), (19, w5)] [(18, some 4), (19, some 5), (34, some 3), (50, some 2)] rfl
theorem hA14_fr_tryWay (F : Nat → Nat → Int32) (w0 w1 : Nat → Int32) : (zua (zua F 50 w0) 34 w1) = (zua (zua (zua (zua F 18 (F 18)) 19 (F 19)) 34 w1) 50 w0) := zuak_ix F [(50, w0), (34, w1)] [(18, none), (19, none), (34, some 1), (50, some 0)] rfl
theorem hA13_fr_tryWay (F : Nat → Nat → Int32) : F = (zua (zua (zua (zua F 18 (F 18)) 19 (F 19)) 34 (F 34)) 50 (F 50)) := zuak_ix F [] [(18, none), (19, none), (34, none), (50, none)] rfl
theorem hA12_fr_tryWay (F : Nat → Nat → Int32) (w0 w1 w2 w3 w4 w5 : Nat → Int32) : (zua (zua (zua (zua (zua (zua F 50 w0) 26 w1) 50 w2) 26 w3) 18 w4) 19 w5) = (zua (zua (zua (zua F 18 w4) 19 w5) 26 w3) 50 w2) := zuak_ix F [(50, w0), (26, w1), (50, w2), (26, w3), (18, w4), (19, w5)] [(18, some 4), (19, some 5), (26, some 3), (50, some 2)] rfl
theorem hF11_fr_tryWay (F : Nat → Nat → Int32) (w0 : Int32) : (zuf F 16 10 w0) = (zuf F 16 10 w0) := zufk_ix F [((16, 10), w0)] [((16, 10), some 0)] rfl
theorem hA10_fr_tryWay (F : Nat → Nat → Int32) (w0 w1 : Nat → Int32) : (zua (zua F 50 w0) 26 w1) = (zua (zua (zua (zua F 18 (F 18)) 19 (F 19)) 26 w1) 50 w0) := zuak_ix F [(50, w0), (26, w1)] [(18, none), (19, none), (26, some 1), (50, some 0)] rfl
theorem hF9_fr_tryWay (F : Nat → Nat → Int32) : F = (zuf F 16 10 (F 16 10)) := zufk_ix F [] [((16, 10), none)] rfl
theorem hA8_fr_tryWay (F : Nat → Nat → Int32) : F = (zua (zua (zua (zua F 18 (F 18)) 19 (F 19)) 26 (F 26)) 50 (F 50)) := zuak_ix F [] [(18, none), (19, none), (26, none), (50, none)] rfl
theorem hA7_fr_tryWay (F : Nat → Nat → Int32) (w0 w1 w2 w3 w4 w5 : Nat → Int32) : (zua (zua (zua (zua (zua (zua F 50 w0) 34 w1) 50 w2) 34 w3) 4 w4) 5 w5) = (zua (zua (zua (zua F 4 w4) 5 w5) 34 w3) 50 w2) := zuak_ix F [(50, w0), (34, w1), (50, w2), (34, w3), (4, w4), (5, w5)] [(4, some 4), (5, some 5), (34, some 3), (50, some 2)] rfl
theorem hA6_fr_tryWay (F : Nat → Nat → Int32) (w0 w1 : Nat → Int32) : (zua (zua F 50 w0) 34 w1) = (zua (zua (zua (zua F 4 (F 4)) 5 (F 5)) 34 w1) 50 w0) := zuak_ix F [(50, w0), (34, w1)] [(4, none), (5, none), (34, some 1), (50, some 0)] rfl
theorem hA5_fr_tryWay (F : Nat → Nat → Int32) : F = (zua (zua (zua (zua F 4 (F 4)) 5 (F 5)) 34 (F 34)) 50 (F 50)) := zuak_ix F [] [(4, none), (5, none), (34, none), (50, none)] rfl
theorem hA4_fr_tryWay (F : Nat → Nat → Int32) (w0 w1 w2 w3 w4 w5 : Nat → Int32) : (zua (zua (zua (zua (zua (zua F 50 w0) 26 w1) 50 w2) 26 w3) 4 w4) 5 w5) = (zua (zua (zua (zua F 4 w4) 5 w5) 26 w3) 50 w2) := zuak_ix F [(50, w0), (26, w1), (50, w2), (26, w3), (4, w4), (5, w5)] [(4, some 4), (5, some 5), (26, some 3), (50, some 2)] rfl
theorem hF3_fr_tryWay (F : Nat → Nat → Int32) (w0 : Int32) : (zuf F 2 10 w0) = (zuf F 2 10 w0) := zufk_ix F [((2, 10), w0)] [((2, 10), some 0)] rfl
theorem hA2_fr_tryWay (F : Nat → Nat → Int32) (w0 w1 : Nat → Int32) : (zua (zua F 50 w0) 26 w1) = (zua (zua (zua (zua F 4 (F 4)) 5 (F 5)) 26 w1) 50 w0) := zuak_ix F [(50, w0), (26, w1)] [(4, none), (5, none), (26, some 1), (50, some 0)] rfl
theorem hF1_fr_tryWay (F : Nat → Nat → Int32) : F = (zuf F 2 10 (F 2 10)) := zufk_ix F [] [((2, 10), none)] rfl
theorem hA0_fr_tryWay (F : Nat → Nat → Int32) : F = (zua (zua (zua (zua F 4 (F 4)) 5 (F 5)) 26 (F 26)) 50 (F 50)) := zuak_ix F [] [(4, none), (5, none), (26, none), (50, none)] rfl
def O_fr_tryWay_49_2_23 (ar fi : Nat → Nat → Int32) (m1 : Nat) (m2 : Nat) (m3 : Nat) (m4 : Nat) (m5 : Nat) (t : T_fr_tryWay) : zO2 := match t with
  | (t0, t1, t2, t3, t4) => (none, ((zua (zua (zua (zua ar 4 t0) 5 t1) 26 t2) 50 t3), (zuf fi 2 10 t4), (m1, m2, m3, m4, m5)))
set_option maxRecDepth 1000000 in
theorem t_fr_tryWay_49_2_23 {X : Nat × (Nat → Int32)} {ar fi : Nat → Nat → Int32} {m1 m2 m3 m4 m5 : Nat} {z u : Int32} {W_if_nextTo : Int32 → Int32 → Int32} {G_sc_isWholeWood : Int32 → (Nat → Int32) → (Nat → Int32) → Bool} {W_sc_isWholeWood : Int32 → (Nat → Int32) → (Nat → Int32) → Int32} {G_fr_setLetters : Int32 → Int32 → Int32 → Int32 → Int32 → (Nat → Int32) → (Nat → Int32) → Int32 → Int32 → Int32 → Int32 → (Nat → Int32) → (Nat → Int32) → (Nat → Int32) → Bool} {A0_fr_setLetters : Int32 → Int32 → Int32 → Int32 → Int32 → (Nat → Int32) → (Nat → Int32) → Int32 → Int32 → Int32 → Int32 → (Nat → Int32) → (Nat → Int32) → (Nat → Int32) → Nat → Int32} {Q_lw_amountOf : Int32 → Int32 → Int32 → (Nat → Int32) → (Nat → Int32) → (Nat → Int32) → (Nat → Int32) → (Nat → Int32) → (Nat → Int32) → (Nat → Int32) → (Nat → Int32) → Int32 → Option (Int32 × (Nat → Int32))} {W_sc_draw : Int32 → Int32} {F0_sc_draw : Int32 → Int32} {G_sc_setState : Int32 → Int32 → Int32 → (Nat → Int32) → (Nat → Int32) → Bool} {A0_sc_setState : Int32 → Int32 → Int32 → (Nat → Int32) → (Nat → Int32) → Nat → Int32} {A1_sc_setState : Int32 → Int32 → Int32 → (Nat → Int32) → (Nat → Int32) → Nat → Int32} : zseg X zFT (zEx 140 (P_if_nextTo W_if_nextTo) (zEx 73 (P_sc_isWholeWood G_sc_isWholeWood W_sc_isWholeWood) (zEx 24 (P_fr_setLetters G_fr_setLetters A0_fr_setLetters) (zEx 43 (P_lw_amountOf Q_lw_amountOf) (zEx 72 (P_sc_draw W_sc_draw F0_sc_draw) (zEx 71 (P_sc_setState G_sc_setState A0_sc_setState A1_sc_setState) zE0)))))) zc_22 (fun p => false) 400 0 [.ref 49, .ref 2, .ref 23, .int z, .int u] [] (ar, fi, (m1, m2, m3, m4, m5)) = (
  zl (W_if_nextTo z u) (fun v1 =>
  bif decide (v1 < 0) then
   some (.inr (none, (ar, fi, (m1, m2, m3, m4, m5))))
  else
   zg (G_sc_isWholeWood v1 (ar 3) (ar 4)) (
   zl (W_sc_isWholeWood v1 (ar 3) (ar 4)) (fun v2 =>
   bif !decide (v2 = 0) then
    zg (Nat.beq 16 16 && (zin z 96)) (
    zg (G_fr_setLetters v1 ((ar 5) (z.toNatClampNeg)) u 0 (fi 23 8) (ar 4) (ar 50) (fi 2 8) (fi 2 9) (fi 2 6) (fi 2 7) (ar 6) (ar 8) (ar 7)) (
    zl (A0_fr_setLetters v1 ((ar 5) (z.toNatClampNeg)) u 0 (fi 23 8) (ar 4) (ar 50) (fi 2 8) (fi 2 9) (fi 2 6) (fi 2 7) (ar 6) (ar 8) (ar 7)) (fun v3 =>
    zl (Q_lw_amountOf 115 0 10 (ar 24) (ar 25) (ar 26) (ar 27) (ar 28) (ar 29) (ar 30) v3 (fi 23 9)) (fun v4 => zg v4.isSome (
    zl (W_sc_draw (fi 2 10)) (fun v5 =>
    zl (F0_sc_draw (fi 2 10)) (fun v6 =>
    bif decide (((zgt v4).1) ≤ v5) then
     some (.inr (none, ((zua (zua ar 50 v3) 26 (((zgt v4).2))), (zuf fi 2 10 v6), (m1, m2, m3, m4, m5))))
    else
     zg (G_fr_setLetters v1 0 0 0 (fi 23 8) (ar 4) v3 (fi 2 8) (fi 2 9) (fi 2 6) (fi 2 7) (ar 6) (ar 8) (ar 7)) (
     zl (A0_fr_setLetters v1 0 0 0 (fi 23 8) (ar 4) v3 (fi 2 8) (fi 2 9) (fi 2 6) (fi 2 7) (ar 6) (ar 8) (ar 7)) (fun v7 =>
     zl (Q_lw_amountOf 98 1 9 (ar 24) (ar 25) (((zgt v4).2)) (ar 27) (ar 28) (ar 29) (ar 30) v7 (fi 23 9)) (fun v8 => zg v8.isSome (
     zg (G_sc_setState v1 1 (((zgt v8).1)) (ar 4) (ar 5)) (
     zl (A0_sc_setState v1 1 (((zgt v8).1)) (ar 4) (ar 5)) (fun v9 =>
     zl (A1_sc_setState v1 1 (((zgt v8).1)) (ar 4) (ar 5)) (fun v10 =>
     some (.inr (none, ((zua (zua (zua (zua (zua (zua ar 50 v3) 26 (((zgt v4).2))) 50 v7) 26 (((zgt v8).2))) 4 v9) 5 v10), (zuf fi 2 10 v6), (m1, m2, m3, m4, m5))))))))))))))))))
   else
    some (.inr (none, (ar, fi, (m1, m2, m3, m4, m5))))))) : Option ((Nat × List Value × List Value × zH2) ⊕ zO2)) := by with_unfolding_all rfl
set_option maxRecDepth 20000 in
theorem e_fr_tryWay_49_2_23 {X : Nat × (Nat → Int32)} {ar fi : Nat → Nat → Int32} {m1 m2 m3 m4 m5 : Nat} {z u : Int32} {o : zO2} : ∀ (q : T_fr_tryWay), q_fr_tryWay z u (ar 3) (ar 4) (ar 5) (ar 6) (ar 7) (ar 8) (ar 24) (ar 25) (ar 26) (ar 27) (ar 28) (ar 29) (ar 30) (ar 50) (fi 2 6) (fi 2 7) (fi 2 8) (fi 2 9) (fi 2 10) (fi 23 8) (fi 23 9) = some q → (fun t => O_fr_tryWay_49_2_23 ar fi m1 m2 m3 m4 m5 t = o) q → zR2 X zFT (zEx 140 S_if_nextTo (zEx 73 S_sc_isWholeWood (zEx 24 S_fr_setLetters (zEx 43 S_lw_amountOf (zEx 72 S_sc_draw (zEx 71 S_sc_setState zE0)))))) zc_22 0 [.ref 49, .ref 2, .ref 23, .int z, .int u] [] (ar, fi, (m1, m2, m3, m4, m5)) o := by
  intro q h hq
  unfold q_fr_tryWay at h
  refine zT_seg t_fr_tryWay_49_2_23 ?_
  obtain ⟨TT, hTT⟩ : ∃ T, T = zT X zFT (zEx 140 S_if_nextTo (zEx 73 S_sc_isWholeWood (zEx 24 S_fr_setLetters (zEx 43 S_lw_amountOf (zEx 72 S_sc_draw (zEx 71 S_sc_setState zE0)))))) zc_22 o := ⟨_, rfl⟩
  rw [← hTT]
  refine zl_el h (fun h => zU_l hTT ?_)
  refine zb_el h (fun hb h => zU_t hTT hb ?_) (fun hb h => zU_f hTT hb ?_)
  · rw [hTT]
    have hz := zsi (P := (fun t => O_fr_tryWay_49_2_23 ar fi m1 m2 m3 m4 m5 t = o)) h hq
    refine (zO_mk ?_ ?_).trans hz
    · first | with_reducible rfl | exact hA0_fr_tryWay _
    · first | with_reducible rfl | exact hF1_fr_tryWay _
  · refine zg_el h (fun hg h => zU_g hTT hg ?_)
    refine zl_el h (fun h => zU_l hTT ?_)
    refine zb_el h (fun hb h => zU_t hTT hb ?_) (fun hb h => zU_f hTT hb ?_)
    · refine zg_el h (fun hg h => zU_ga hTT hg ?_)
      refine zg_el h (fun hg h => zU_g hTT hg ?_)
      refine zl_el h (fun h => zU_l hTT ?_)
      refine zbd_el h (fun v4 hv h => zU_c hTT hv ?_)
      refine zl_el h (fun h => zU_l hTT ?_)
      refine zl_el h (fun h => zU_l hTT ?_)
      refine zb_el h (fun hb h => zU_t hTT hb ?_) (fun hb h => zU_f hTT hb ?_)
      · rw [hTT]
        have hz := zsi (P := (fun t => O_fr_tryWay_49_2_23 ar fi m1 m2 m3 m4 m5 t = o)) h hq
        refine (zO_mk ?_ ?_).trans hz
        · first | with_reducible rfl | exact hA2_fr_tryWay _ _ _
        · first | with_reducible rfl | exact hF3_fr_tryWay _ _
      · refine zg_el h (fun hg h => zU_g hTT hg ?_)
        refine zl_el h (fun h => zU_l hTT ?_)
        refine zbd_el h (fun v8 hv h => zU_c hTT hv ?_)
        refine zg_el h (fun hg h => zU_g hTT hg ?_)
        refine zl_el h (fun h => zU_l hTT ?_)
        refine zl_el h (fun h => zU_l hTT ?_)
        rw [hTT]
        have hz := zsi (P := (fun t => O_fr_tryWay_49_2_23 ar fi m1 m2 m3 m4 m5 t = o)) h hq
        refine (zO_mk ?_ ?_).trans hz
        · first | with_reducible rfl | exact hA4_fr_tryWay _ _ _ _ _ _ _
        · first | with_reducible rfl | exact hF3_fr_tryWay _ _
    · rw [hTT]
      have hz := zsi (P := (fun t => O_fr_tryWay_49_2_23 ar fi m1 m2 m3 m4 m5 t = o)) h hq
      refine (zO_mk ?_ ?_).trans hz
      · first | with_reducible rfl | exact hA0_fr_tryWay _
      · first | with_reducible rfl | exact hF1_fr_tryWay _
def O_fr_tryWay_49_2_31 (ar fi : Nat → Nat → Int32) (m1 : Nat) (m2 : Nat) (m3 : Nat) (m4 : Nat) (m5 : Nat) (t : T_fr_tryWay) : zO2 := match t with
  | (t0, t1, t2, t3, t4) => (none, ((zua (zua (zua (zua ar 4 t0) 5 t1) 34 t2) 50 t3), (zuf fi 2 10 t4), (m1, m2, m3, m4, m5)))
set_option maxRecDepth 1000000 in
theorem t_fr_tryWay_49_2_31 {X : Nat × (Nat → Int32)} {ar fi : Nat → Nat → Int32} {m1 m2 m3 m4 m5 : Nat} {z u : Int32} {W_if_nextTo : Int32 → Int32 → Int32} {G_sc_isWholeWood : Int32 → (Nat → Int32) → (Nat → Int32) → Bool} {W_sc_isWholeWood : Int32 → (Nat → Int32) → (Nat → Int32) → Int32} {G_fr_setLetters : Int32 → Int32 → Int32 → Int32 → Int32 → (Nat → Int32) → (Nat → Int32) → Int32 → Int32 → Int32 → Int32 → (Nat → Int32) → (Nat → Int32) → (Nat → Int32) → Bool} {A0_fr_setLetters : Int32 → Int32 → Int32 → Int32 → Int32 → (Nat → Int32) → (Nat → Int32) → Int32 → Int32 → Int32 → Int32 → (Nat → Int32) → (Nat → Int32) → (Nat → Int32) → Nat → Int32} {Q_lw_amountOf : Int32 → Int32 → Int32 → (Nat → Int32) → (Nat → Int32) → (Nat → Int32) → (Nat → Int32) → (Nat → Int32) → (Nat → Int32) → (Nat → Int32) → (Nat → Int32) → Int32 → Option (Int32 × (Nat → Int32))} {W_sc_draw : Int32 → Int32} {F0_sc_draw : Int32 → Int32} {G_sc_setState : Int32 → Int32 → Int32 → (Nat → Int32) → (Nat → Int32) → Bool} {A0_sc_setState : Int32 → Int32 → Int32 → (Nat → Int32) → (Nat → Int32) → Nat → Int32} {A1_sc_setState : Int32 → Int32 → Int32 → (Nat → Int32) → (Nat → Int32) → Nat → Int32} : zseg X zFT (zEx 140 (P_if_nextTo W_if_nextTo) (zEx 73 (P_sc_isWholeWood G_sc_isWholeWood W_sc_isWholeWood) (zEx 24 (P_fr_setLetters G_fr_setLetters A0_fr_setLetters) (zEx 43 (P_lw_amountOf Q_lw_amountOf) (zEx 72 (P_sc_draw W_sc_draw F0_sc_draw) (zEx 71 (P_sc_setState G_sc_setState A0_sc_setState A1_sc_setState) zE0)))))) zc_22 (fun p => false) 400 0 [.ref 49, .ref 2, .ref 31, .int z, .int u] [] (ar, fi, (m1, m2, m3, m4, m5)) = (
  zl (W_if_nextTo z u) (fun v1 =>
  bif decide (v1 < 0) then
   some (.inr (none, (ar, fi, (m1, m2, m3, m4, m5))))
  else
   zg (G_sc_isWholeWood v1 (ar 3) (ar 4)) (
   zl (W_sc_isWholeWood v1 (ar 3) (ar 4)) (fun v2 =>
   bif !decide (v2 = 0) then
    zg (Nat.beq 16 16 && (zin z 96)) (
    zg (G_fr_setLetters v1 ((ar 5) (z.toNatClampNeg)) u 0 (fi 31 8) (ar 4) (ar 50) (fi 2 8) (fi 2 9) (fi 2 6) (fi 2 7) (ar 6) (ar 8) (ar 7)) (
    zl (A0_fr_setLetters v1 ((ar 5) (z.toNatClampNeg)) u 0 (fi 31 8) (ar 4) (ar 50) (fi 2 8) (fi 2 9) (fi 2 6) (fi 2 7) (ar 6) (ar 8) (ar 7)) (fun v3 =>
    zl (Q_lw_amountOf 115 0 10 (ar 32) (ar 33) (ar 34) (ar 35) (ar 36) (ar 37) (ar 38) v3 (fi 31 9)) (fun v4 => zg v4.isSome (
    zl (W_sc_draw (fi 2 10)) (fun v5 =>
    zl (F0_sc_draw (fi 2 10)) (fun v6 =>
    bif decide (((zgt v4).1) ≤ v5) then
     some (.inr (none, ((zua (zua ar 50 v3) 34 (((zgt v4).2))), (zuf fi 2 10 v6), (m1, m2, m3, m4, m5))))
    else
     zg (G_fr_setLetters v1 0 0 0 (fi 31 8) (ar 4) v3 (fi 2 8) (fi 2 9) (fi 2 6) (fi 2 7) (ar 6) (ar 8) (ar 7)) (
     zl (A0_fr_setLetters v1 0 0 0 (fi 31 8) (ar 4) v3 (fi 2 8) (fi 2 9) (fi 2 6) (fi 2 7) (ar 6) (ar 8) (ar 7)) (fun v7 =>
     zl (Q_lw_amountOf 98 1 9 (ar 32) (ar 33) (((zgt v4).2)) (ar 35) (ar 36) (ar 37) (ar 38) v7 (fi 31 9)) (fun v8 => zg v8.isSome (
     zg (G_sc_setState v1 1 (((zgt v8).1)) (ar 4) (ar 5)) (
     zl (A0_sc_setState v1 1 (((zgt v8).1)) (ar 4) (ar 5)) (fun v9 =>
     zl (A1_sc_setState v1 1 (((zgt v8).1)) (ar 4) (ar 5)) (fun v10 =>
     some (.inr (none, ((zua (zua (zua (zua (zua (zua ar 50 v3) 34 (((zgt v4).2))) 50 v7) 34 (((zgt v8).2))) 4 v9) 5 v10), (zuf fi 2 10 v6), (m1, m2, m3, m4, m5))))))))))))))))))
   else
    some (.inr (none, (ar, fi, (m1, m2, m3, m4, m5))))))) : Option ((Nat × List Value × List Value × zH2) ⊕ zO2)) := by with_unfolding_all rfl
set_option maxRecDepth 20000 in
theorem e_fr_tryWay_49_2_31 {X : Nat × (Nat → Int32)} {ar fi : Nat → Nat → Int32} {m1 m2 m3 m4 m5 : Nat} {z u : Int32} {o : zO2} : ∀ (q : T_fr_tryWay), q_fr_tryWay z u (ar 3) (ar 4) (ar 5) (ar 6) (ar 7) (ar 8) (ar 32) (ar 33) (ar 34) (ar 35) (ar 36) (ar 37) (ar 38) (ar 50) (fi 2 6) (fi 2 7) (fi 2 8) (fi 2 9) (fi 2 10) (fi 31 8) (fi 31 9) = some q → (fun t => O_fr_tryWay_49_2_31 ar fi m1 m2 m3 m4 m5 t = o) q → zR2 X zFT (zEx 140 S_if_nextTo (zEx 73 S_sc_isWholeWood (zEx 24 S_fr_setLetters (zEx 43 S_lw_amountOf (zEx 72 S_sc_draw (zEx 71 S_sc_setState zE0)))))) zc_22 0 [.ref 49, .ref 2, .ref 31, .int z, .int u] [] (ar, fi, (m1, m2, m3, m4, m5)) o := by
  intro q h hq
  unfold q_fr_tryWay at h
  refine zT_seg t_fr_tryWay_49_2_31 ?_
  obtain ⟨TT, hTT⟩ : ∃ T, T = zT X zFT (zEx 140 S_if_nextTo (zEx 73 S_sc_isWholeWood (zEx 24 S_fr_setLetters (zEx 43 S_lw_amountOf (zEx 72 S_sc_draw (zEx 71 S_sc_setState zE0)))))) zc_22 o := ⟨_, rfl⟩
  rw [← hTT]
  refine zl_el h (fun h => zU_l hTT ?_)
  refine zb_el h (fun hb h => zU_t hTT hb ?_) (fun hb h => zU_f hTT hb ?_)
  · rw [hTT]
    have hz := zsi (P := (fun t => O_fr_tryWay_49_2_31 ar fi m1 m2 m3 m4 m5 t = o)) h hq
    refine (zO_mk ?_ ?_).trans hz
    · first | with_reducible rfl | exact hA5_fr_tryWay _
    · first | with_reducible rfl | exact hF1_fr_tryWay _
  · refine zg_el h (fun hg h => zU_g hTT hg ?_)
    refine zl_el h (fun h => zU_l hTT ?_)
    refine zb_el h (fun hb h => zU_t hTT hb ?_) (fun hb h => zU_f hTT hb ?_)
    · refine zg_el h (fun hg h => zU_ga hTT hg ?_)
      refine zg_el h (fun hg h => zU_g hTT hg ?_)
      refine zl_el h (fun h => zU_l hTT ?_)
      refine zbd_el h (fun v4 hv h => zU_c hTT hv ?_)
      refine zl_el h (fun h => zU_l hTT ?_)
      refine zl_el h (fun h => zU_l hTT ?_)
      refine zb_el h (fun hb h => zU_t hTT hb ?_) (fun hb h => zU_f hTT hb ?_)
      · rw [hTT]
        have hz := zsi (P := (fun t => O_fr_tryWay_49_2_31 ar fi m1 m2 m3 m4 m5 t = o)) h hq
        refine (zO_mk ?_ ?_).trans hz
        · first | with_reducible rfl | exact hA6_fr_tryWay _ _ _
        · first | with_reducible rfl | exact hF3_fr_tryWay _ _
      · refine zg_el h (fun hg h => zU_g hTT hg ?_)
        refine zl_el h (fun h => zU_l hTT ?_)
        refine zbd_el h (fun v8 hv h => zU_c hTT hv ?_)
        refine zg_el h (fun hg h => zU_g hTT hg ?_)
        refine zl_el h (fun h => zU_l hTT ?_)
        refine zl_el h (fun h => zU_l hTT ?_)
        rw [hTT]
        have hz := zsi (P := (fun t => O_fr_tryWay_49_2_31 ar fi m1 m2 m3 m4 m5 t = o)) h hq
        refine (zO_mk ?_ ?_).trans hz
        · first | with_reducible rfl | exact hA7_fr_tryWay _ _ _ _ _ _ _
        · first | with_reducible rfl | exact hF3_fr_tryWay _ _
    · rw [hTT]
      have hz := zsi (P := (fun t => O_fr_tryWay_49_2_31 ar fi m1 m2 m3 m4 m5 t = o)) h hq
      refine (zO_mk ?_ ?_).trans hz
      · first | with_reducible rfl | exact hA5_fr_tryWay _
      · first | with_reducible rfl | exact hF1_fr_tryWay _
def O_fr_tryWay_49_16_23 (ar fi : Nat → Nat → Int32) (m1 : Nat) (m2 : Nat) (m3 : Nat) (m4 : Nat) (m5 : Nat) (t : T_fr_tryWay) : zO2 := match t with
  | (t0, t1, t2, t3, t4) => (none, ((zua (zua (zua (zua ar 18 t0) 19 t1) 26 t2) 50 t3), (zuf fi 16 10 t4), (m1, m2, m3, m4, m5)))
set_option maxRecDepth 1000000 in
theorem t_fr_tryWay_49_16_23 {X : Nat × (Nat → Int32)} {ar fi : Nat → Nat → Int32} {m1 m2 m3 m4 m5 : Nat} {z u : Int32} {W_if_nextTo : Int32 → Int32 → Int32} {G_sc_isWholeWood : Int32 → (Nat → Int32) → (Nat → Int32) → Bool} {W_sc_isWholeWood : Int32 → (Nat → Int32) → (Nat → Int32) → Int32} {G_fr_setLetters : Int32 → Int32 → Int32 → Int32 → Int32 → (Nat → Int32) → (Nat → Int32) → Int32 → Int32 → Int32 → Int32 → (Nat → Int32) → (Nat → Int32) → (Nat → Int32) → Bool} {A0_fr_setLetters : Int32 → Int32 → Int32 → Int32 → Int32 → (Nat → Int32) → (Nat → Int32) → Int32 → Int32 → Int32 → Int32 → (Nat → Int32) → (Nat → Int32) → (Nat → Int32) → Nat → Int32} {Q_lw_amountOf : Int32 → Int32 → Int32 → (Nat → Int32) → (Nat → Int32) → (Nat → Int32) → (Nat → Int32) → (Nat → Int32) → (Nat → Int32) → (Nat → Int32) → (Nat → Int32) → Int32 → Option (Int32 × (Nat → Int32))} {W_sc_draw : Int32 → Int32} {F0_sc_draw : Int32 → Int32} {G_sc_setState : Int32 → Int32 → Int32 → (Nat → Int32) → (Nat → Int32) → Bool} {A0_sc_setState : Int32 → Int32 → Int32 → (Nat → Int32) → (Nat → Int32) → Nat → Int32} {A1_sc_setState : Int32 → Int32 → Int32 → (Nat → Int32) → (Nat → Int32) → Nat → Int32} : zseg X zFT (zEx 140 (P_if_nextTo W_if_nextTo) (zEx 73 (P_sc_isWholeWood G_sc_isWholeWood W_sc_isWholeWood) (zEx 24 (P_fr_setLetters G_fr_setLetters A0_fr_setLetters) (zEx 43 (P_lw_amountOf Q_lw_amountOf) (zEx 72 (P_sc_draw W_sc_draw F0_sc_draw) (zEx 71 (P_sc_setState G_sc_setState A0_sc_setState A1_sc_setState) zE0)))))) zc_22 (fun p => false) 400 0 [.ref 49, .ref 16, .ref 23, .int z, .int u] [] (ar, fi, (m1, m2, m3, m4, m5)) = (
  zl (W_if_nextTo z u) (fun v1 =>
  bif decide (v1 < 0) then
   some (.inr (none, (ar, fi, (m1, m2, m3, m4, m5))))
  else
   zg (G_sc_isWholeWood v1 (ar 17) (ar 18)) (
   zl (W_sc_isWholeWood v1 (ar 17) (ar 18)) (fun v2 =>
   bif !decide (v2 = 0) then
    zg (Nat.beq 16 16 && (zin z 96)) (
    zg (G_fr_setLetters v1 ((ar 19) (z.toNatClampNeg)) u 0 (fi 23 8) (ar 18) (ar 50) (fi 16 8) (fi 16 9) (fi 16 6) (fi 16 7) (ar 20) (ar 22) (ar 21)) (
    zl (A0_fr_setLetters v1 ((ar 19) (z.toNatClampNeg)) u 0 (fi 23 8) (ar 18) (ar 50) (fi 16 8) (fi 16 9) (fi 16 6) (fi 16 7) (ar 20) (ar 22) (ar 21)) (fun v3 =>
    zl (Q_lw_amountOf 115 0 10 (ar 24) (ar 25) (ar 26) (ar 27) (ar 28) (ar 29) (ar 30) v3 (fi 23 9)) (fun v4 => zg v4.isSome (
    zl (W_sc_draw (fi 16 10)) (fun v5 =>
    zl (F0_sc_draw (fi 16 10)) (fun v6 =>
    bif decide (((zgt v4).1) ≤ v5) then
     some (.inr (none, ((zua (zua ar 50 v3) 26 (((zgt v4).2))), (zuf fi 16 10 v6), (m1, m2, m3, m4, m5))))
    else
     zg (G_fr_setLetters v1 0 0 0 (fi 23 8) (ar 18) v3 (fi 16 8) (fi 16 9) (fi 16 6) (fi 16 7) (ar 20) (ar 22) (ar 21)) (
     zl (A0_fr_setLetters v1 0 0 0 (fi 23 8) (ar 18) v3 (fi 16 8) (fi 16 9) (fi 16 6) (fi 16 7) (ar 20) (ar 22) (ar 21)) (fun v7 =>
     zl (Q_lw_amountOf 98 1 9 (ar 24) (ar 25) (((zgt v4).2)) (ar 27) (ar 28) (ar 29) (ar 30) v7 (fi 23 9)) (fun v8 => zg v8.isSome (
     zg (G_sc_setState v1 1 (((zgt v8).1)) (ar 18) (ar 19)) (
     zl (A0_sc_setState v1 1 (((zgt v8).1)) (ar 18) (ar 19)) (fun v9 =>
     zl (A1_sc_setState v1 1 (((zgt v8).1)) (ar 18) (ar 19)) (fun v10 =>
     some (.inr (none, ((zua (zua (zua (zua (zua (zua ar 50 v3) 26 (((zgt v4).2))) 50 v7) 26 (((zgt v8).2))) 18 v9) 19 v10), (zuf fi 16 10 v6), (m1, m2, m3, m4, m5))))))))))))))))))
   else
    some (.inr (none, (ar, fi, (m1, m2, m3, m4, m5))))))) : Option ((Nat × List Value × List Value × zH2) ⊕ zO2)) := by with_unfolding_all rfl
set_option maxRecDepth 20000 in
theorem e_fr_tryWay_49_16_23 {X : Nat × (Nat → Int32)} {ar fi : Nat → Nat → Int32} {m1 m2 m3 m4 m5 : Nat} {z u : Int32} {o : zO2} : ∀ (q : T_fr_tryWay), q_fr_tryWay z u (ar 17) (ar 18) (ar 19) (ar 20) (ar 21) (ar 22) (ar 24) (ar 25) (ar 26) (ar 27) (ar 28) (ar 29) (ar 30) (ar 50) (fi 16 6) (fi 16 7) (fi 16 8) (fi 16 9) (fi 16 10) (fi 23 8) (fi 23 9) = some q → (fun t => O_fr_tryWay_49_16_23 ar fi m1 m2 m3 m4 m5 t = o) q → zR2 X zFT (zEx 140 S_if_nextTo (zEx 73 S_sc_isWholeWood (zEx 24 S_fr_setLetters (zEx 43 S_lw_amountOf (zEx 72 S_sc_draw (zEx 71 S_sc_setState zE0)))))) zc_22 0 [.ref 49, .ref 16, .ref 23, .int z, .int u] [] (ar, fi, (m1, m2, m3, m4, m5)) o := by
  intro q h hq
  unfold q_fr_tryWay at h
  refine zT_seg t_fr_tryWay_49_16_23 ?_
  obtain ⟨TT, hTT⟩ : ∃ T, T = zT X zFT (zEx 140 S_if_nextTo (zEx 73 S_sc_isWholeWood (zEx 24 S_fr_setLetters (zEx 43 S_lw_amountOf (zEx 72 S_sc_draw (zEx 71 S_sc_setState zE0)))))) zc_22 o := ⟨_, rfl⟩
  rw [← hTT]
  refine zl_el h (fun h => zU_l hTT ?_)
  refine zb_el h (fun hb h => zU_t hTT hb ?_) (fun hb h => zU_f hTT hb ?_)
  · rw [hTT]
    have hz := zsi (P := (fun t => O_fr_tryWay_49_16_23 ar fi m1 m2 m3 m4 m5 t = o)) h hq
    refine (zO_mk ?_ ?_).trans hz
    · first | with_reducible rfl | exact hA8_fr_tryWay _
    · first | with_reducible rfl | exact hF9_fr_tryWay _
  · refine zg_el h (fun hg h => zU_g hTT hg ?_)
    refine zl_el h (fun h => zU_l hTT ?_)
    refine zb_el h (fun hb h => zU_t hTT hb ?_) (fun hb h => zU_f hTT hb ?_)
    · refine zg_el h (fun hg h => zU_ga hTT hg ?_)
      refine zg_el h (fun hg h => zU_g hTT hg ?_)
      refine zl_el h (fun h => zU_l hTT ?_)
      refine zbd_el h (fun v4 hv h => zU_c hTT hv ?_)
      refine zl_el h (fun h => zU_l hTT ?_)
      refine zl_el h (fun h => zU_l hTT ?_)
      refine zb_el h (fun hb h => zU_t hTT hb ?_) (fun hb h => zU_f hTT hb ?_)
      · rw [hTT]
        have hz := zsi (P := (fun t => O_fr_tryWay_49_16_23 ar fi m1 m2 m3 m4 m5 t = o)) h hq
        refine (zO_mk ?_ ?_).trans hz
        · first | with_reducible rfl | exact hA10_fr_tryWay _ _ _
        · first | with_reducible rfl | exact hF11_fr_tryWay _ _
      · refine zg_el h (fun hg h => zU_g hTT hg ?_)
        refine zl_el h (fun h => zU_l hTT ?_)
        refine zbd_el h (fun v8 hv h => zU_c hTT hv ?_)
        refine zg_el h (fun hg h => zU_g hTT hg ?_)
        refine zl_el h (fun h => zU_l hTT ?_)
        refine zl_el h (fun h => zU_l hTT ?_)
        rw [hTT]
        have hz := zsi (P := (fun t => O_fr_tryWay_49_16_23 ar fi m1 m2 m3 m4 m5 t = o)) h hq
        refine (zO_mk ?_ ?_).trans hz
        · first | with_reducible rfl | exact hA12_fr_tryWay _ _ _ _ _ _ _
        · first | with_reducible rfl | exact hF11_fr_tryWay _ _
    · rw [hTT]
      have hz := zsi (P := (fun t => O_fr_tryWay_49_16_23 ar fi m1 m2 m3 m4 m5 t = o)) h hq
      refine (zO_mk ?_ ?_).trans hz
      · first | with_reducible rfl | exact hA8_fr_tryWay _
      · first | with_reducible rfl | exact hF9_fr_tryWay _
def O_fr_tryWay_49_16_31 (ar fi : Nat → Nat → Int32) (m1 : Nat) (m2 : Nat) (m3 : Nat) (m4 : Nat) (m5 : Nat) (t : T_fr_tryWay) : zO2 := match t with
  | (t0, t1, t2, t3, t4) => (none, ((zua (zua (zua (zua ar 18 t0) 19 t1) 34 t2) 50 t3), (zuf fi 16 10 t4), (m1, m2, m3, m4, m5)))
set_option maxRecDepth 1000000 in
theorem t_fr_tryWay_49_16_31 {X : Nat × (Nat → Int32)} {ar fi : Nat → Nat → Int32} {m1 m2 m3 m4 m5 : Nat} {z u : Int32} {W_if_nextTo : Int32 → Int32 → Int32} {G_sc_isWholeWood : Int32 → (Nat → Int32) → (Nat → Int32) → Bool} {W_sc_isWholeWood : Int32 → (Nat → Int32) → (Nat → Int32) → Int32} {G_fr_setLetters : Int32 → Int32 → Int32 → Int32 → Int32 → (Nat → Int32) → (Nat → Int32) → Int32 → Int32 → Int32 → Int32 → (Nat → Int32) → (Nat → Int32) → (Nat → Int32) → Bool} {A0_fr_setLetters : Int32 → Int32 → Int32 → Int32 → Int32 → (Nat → Int32) → (Nat → Int32) → Int32 → Int32 → Int32 → Int32 → (Nat → Int32) → (Nat → Int32) → (Nat → Int32) → Nat → Int32} {Q_lw_amountOf : Int32 → Int32 → Int32 → (Nat → Int32) → (Nat → Int32) → (Nat → Int32) → (Nat → Int32) → (Nat → Int32) → (Nat → Int32) → (Nat → Int32) → (Nat → Int32) → Int32 → Option (Int32 × (Nat → Int32))} {W_sc_draw : Int32 → Int32} {F0_sc_draw : Int32 → Int32} {G_sc_setState : Int32 → Int32 → Int32 → (Nat → Int32) → (Nat → Int32) → Bool} {A0_sc_setState : Int32 → Int32 → Int32 → (Nat → Int32) → (Nat → Int32) → Nat → Int32} {A1_sc_setState : Int32 → Int32 → Int32 → (Nat → Int32) → (Nat → Int32) → Nat → Int32} : zseg X zFT (zEx 140 (P_if_nextTo W_if_nextTo) (zEx 73 (P_sc_isWholeWood G_sc_isWholeWood W_sc_isWholeWood) (zEx 24 (P_fr_setLetters G_fr_setLetters A0_fr_setLetters) (zEx 43 (P_lw_amountOf Q_lw_amountOf) (zEx 72 (P_sc_draw W_sc_draw F0_sc_draw) (zEx 71 (P_sc_setState G_sc_setState A0_sc_setState A1_sc_setState) zE0)))))) zc_22 (fun p => false) 400 0 [.ref 49, .ref 16, .ref 31, .int z, .int u] [] (ar, fi, (m1, m2, m3, m4, m5)) = (
  zl (W_if_nextTo z u) (fun v1 =>
  bif decide (v1 < 0) then
   some (.inr (none, (ar, fi, (m1, m2, m3, m4, m5))))
  else
   zg (G_sc_isWholeWood v1 (ar 17) (ar 18)) (
   zl (W_sc_isWholeWood v1 (ar 17) (ar 18)) (fun v2 =>
   bif !decide (v2 = 0) then
    zg (Nat.beq 16 16 && (zin z 96)) (
    zg (G_fr_setLetters v1 ((ar 19) (z.toNatClampNeg)) u 0 (fi 31 8) (ar 18) (ar 50) (fi 16 8) (fi 16 9) (fi 16 6) (fi 16 7) (ar 20) (ar 22) (ar 21)) (
    zl (A0_fr_setLetters v1 ((ar 19) (z.toNatClampNeg)) u 0 (fi 31 8) (ar 18) (ar 50) (fi 16 8) (fi 16 9) (fi 16 6) (fi 16 7) (ar 20) (ar 22) (ar 21)) (fun v3 =>
    zl (Q_lw_amountOf 115 0 10 (ar 32) (ar 33) (ar 34) (ar 35) (ar 36) (ar 37) (ar 38) v3 (fi 31 9)) (fun v4 => zg v4.isSome (
    zl (W_sc_draw (fi 16 10)) (fun v5 =>
    zl (F0_sc_draw (fi 16 10)) (fun v6 =>
    bif decide (((zgt v4).1) ≤ v5) then
     some (.inr (none, ((zua (zua ar 50 v3) 34 (((zgt v4).2))), (zuf fi 16 10 v6), (m1, m2, m3, m4, m5))))
    else
     zg (G_fr_setLetters v1 0 0 0 (fi 31 8) (ar 18) v3 (fi 16 8) (fi 16 9) (fi 16 6) (fi 16 7) (ar 20) (ar 22) (ar 21)) (
     zl (A0_fr_setLetters v1 0 0 0 (fi 31 8) (ar 18) v3 (fi 16 8) (fi 16 9) (fi 16 6) (fi 16 7) (ar 20) (ar 22) (ar 21)) (fun v7 =>
     zl (Q_lw_amountOf 98 1 9 (ar 32) (ar 33) (((zgt v4).2)) (ar 35) (ar 36) (ar 37) (ar 38) v7 (fi 31 9)) (fun v8 => zg v8.isSome (
     zg (G_sc_setState v1 1 (((zgt v8).1)) (ar 18) (ar 19)) (
     zl (A0_sc_setState v1 1 (((zgt v8).1)) (ar 18) (ar 19)) (fun v9 =>
     zl (A1_sc_setState v1 1 (((zgt v8).1)) (ar 18) (ar 19)) (fun v10 =>
     some (.inr (none, ((zua (zua (zua (zua (zua (zua ar 50 v3) 34 (((zgt v4).2))) 50 v7) 34 (((zgt v8).2))) 18 v9) 19 v10), (zuf fi 16 10 v6), (m1, m2, m3, m4, m5))))))))))))))))))
   else
    some (.inr (none, (ar, fi, (m1, m2, m3, m4, m5))))))) : Option ((Nat × List Value × List Value × zH2) ⊕ zO2)) := by with_unfolding_all rfl
set_option maxRecDepth 20000 in
theorem e_fr_tryWay_49_16_31 {X : Nat × (Nat → Int32)} {ar fi : Nat → Nat → Int32} {m1 m2 m3 m4 m5 : Nat} {z u : Int32} {o : zO2} : ∀ (q : T_fr_tryWay), q_fr_tryWay z u (ar 17) (ar 18) (ar 19) (ar 20) (ar 21) (ar 22) (ar 32) (ar 33) (ar 34) (ar 35) (ar 36) (ar 37) (ar 38) (ar 50) (fi 16 6) (fi 16 7) (fi 16 8) (fi 16 9) (fi 16 10) (fi 31 8) (fi 31 9) = some q → (fun t => O_fr_tryWay_49_16_31 ar fi m1 m2 m3 m4 m5 t = o) q → zR2 X zFT (zEx 140 S_if_nextTo (zEx 73 S_sc_isWholeWood (zEx 24 S_fr_setLetters (zEx 43 S_lw_amountOf (zEx 72 S_sc_draw (zEx 71 S_sc_setState zE0)))))) zc_22 0 [.ref 49, .ref 16, .ref 31, .int z, .int u] [] (ar, fi, (m1, m2, m3, m4, m5)) o := by
  intro q h hq
  unfold q_fr_tryWay at h
  refine zT_seg t_fr_tryWay_49_16_31 ?_
  obtain ⟨TT, hTT⟩ : ∃ T, T = zT X zFT (zEx 140 S_if_nextTo (zEx 73 S_sc_isWholeWood (zEx 24 S_fr_setLetters (zEx 43 S_lw_amountOf (zEx 72 S_sc_draw (zEx 71 S_sc_setState zE0)))))) zc_22 o := ⟨_, rfl⟩
  rw [← hTT]
  refine zl_el h (fun h => zU_l hTT ?_)
  refine zb_el h (fun hb h => zU_t hTT hb ?_) (fun hb h => zU_f hTT hb ?_)
  · rw [hTT]
    have hz := zsi (P := (fun t => O_fr_tryWay_49_16_31 ar fi m1 m2 m3 m4 m5 t = o)) h hq
    refine (zO_mk ?_ ?_).trans hz
    · first | with_reducible rfl | exact hA13_fr_tryWay _
    · first | with_reducible rfl | exact hF9_fr_tryWay _
  · refine zg_el h (fun hg h => zU_g hTT hg ?_)
    refine zl_el h (fun h => zU_l hTT ?_)
    refine zb_el h (fun hb h => zU_t hTT hb ?_) (fun hb h => zU_f hTT hb ?_)
    · refine zg_el h (fun hg h => zU_ga hTT hg ?_)
      refine zg_el h (fun hg h => zU_g hTT hg ?_)
      refine zl_el h (fun h => zU_l hTT ?_)
      refine zbd_el h (fun v4 hv h => zU_c hTT hv ?_)
      refine zl_el h (fun h => zU_l hTT ?_)
      refine zl_el h (fun h => zU_l hTT ?_)
      refine zb_el h (fun hb h => zU_t hTT hb ?_) (fun hb h => zU_f hTT hb ?_)
      · rw [hTT]
        have hz := zsi (P := (fun t => O_fr_tryWay_49_16_31 ar fi m1 m2 m3 m4 m5 t = o)) h hq
        refine (zO_mk ?_ ?_).trans hz
        · first | with_reducible rfl | exact hA14_fr_tryWay _ _ _
        · first | with_reducible rfl | exact hF11_fr_tryWay _ _
      · refine zg_el h (fun hg h => zU_g hTT hg ?_)
        refine zl_el h (fun h => zU_l hTT ?_)
        refine zbd_el h (fun v8 hv h => zU_c hTT hv ?_)
        refine zg_el h (fun hg h => zU_g hTT hg ?_)
        refine zl_el h (fun h => zU_l hTT ?_)
        refine zl_el h (fun h => zU_l hTT ?_)
        rw [hTT]
        have hz := zsi (P := (fun t => O_fr_tryWay_49_16_31 ar fi m1 m2 m3 m4 m5 t = o)) h hq
        refine (zO_mk ?_ ?_).trans hz
        · first | with_reducible rfl | exact hA15_fr_tryWay _ _ _ _ _ _ _
        · first | with_reducible rfl | exact hF11_fr_tryWay _ _
    · rw [hTT]
      have hz := zsi (P := (fun t => O_fr_tryWay_49_16_31 ar fi m1 m2 m3 m4 m5 t = o)) h hq
      refine (zO_mk ?_ ?_).trans hz
      · first | with_reducible rfl | exact hA13_fr_tryWay _
      · first | with_reducible rfl | exact hF9_fr_tryWay _
theorem ok_fr_tryWay (X : Nat × (Nat → Int32)) : zOkS X 22 S_fr_tryWay 5 := zOkS_new (zOkE_cons (ok_if_nextTo X) (by decide) (zOkE_cons (ok_sc_isWholeWood X) (by decide) (zOkE_cons (ok_fr_setLetters X) (by decide) (zOkE_cons (ok_lw_amountOf X) (by decide) (zOkE_cons (ok_sc_draw X) (by decide) (zOkE_cons (ok_sc_setState X) (by decide) (zOkE_nil X 4))))))) (by
  intro args g o h
  obtain ⟨ar, fi, m1, m2, m3, m4, m5⟩ := g
  unfold S_fr_tryWay P_fr_tryWay at h
  split at h
  · refine zb_el h (fun hI0 k0 => ?_) (fun _ h10 => ?_)
    · try simp only [Bool.and_eq_true] at hI0
      obtain ⟨⟨j0, j1⟩, j2⟩ := hI0
      have e0 := Nat.eq_of_beq_eq_true j0
      subst e0
      have e1 := Nat.eq_of_beq_eq_true j1
      subst e1
      have e2 := Nat.eq_of_beq_eq_true j2
      subst e2
      exact zpe_el k0 (fun t ht ho => by obtain ⟨t0, t1, t2, t3, t4⟩ := t; exact e_fr_tryWay_49_2_23 _ ht ho)
    · skip
      refine zb_el h10 (fun hI1 k1 => ?_) (fun _ h11 => ?_)
      · try simp only [Bool.and_eq_true] at hI1
        obtain ⟨⟨j0, j1⟩, j2⟩ := hI1
        have e0 := Nat.eq_of_beq_eq_true j0
        subst e0
        have e1 := Nat.eq_of_beq_eq_true j1
        subst e1
        have e2 := Nat.eq_of_beq_eq_true j2
        subst e2
        exact zpe_el k1 (fun t ht ho => by obtain ⟨t0, t1, t2, t3, t4⟩ := t; exact e_fr_tryWay_49_2_31 _ ht ho)
      · skip
        refine zb_el h11 (fun hI2 k2 => ?_) (fun _ h12 => ?_)
        · try simp only [Bool.and_eq_true] at hI2
          obtain ⟨⟨j0, j1⟩, j2⟩ := hI2
          have e0 := Nat.eq_of_beq_eq_true j0
          subst e0
          have e1 := Nat.eq_of_beq_eq_true j1
          subst e1
          have e2 := Nat.eq_of_beq_eq_true j2
          subst e2
          exact zpe_el k2 (fun t ht ho => by obtain ⟨t0, t1, t2, t3, t4⟩ := t; exact e_fr_tryWay_49_16_23 _ ht ho)
        · skip
          refine zb_el h12 (fun hI3 k3 => ?_) (fun _ h13 => ?_)
          · try simp only [Bool.and_eq_true] at hI3
            obtain ⟨⟨j0, j1⟩, j2⟩ := hI3
            have e0 := Nat.eq_of_beq_eq_true j0
            subst e0
            have e1 := Nat.eq_of_beq_eq_true j1
            subst e1
            have e2 := Nat.eq_of_beq_eq_true j2
            subst e2
            exact zpe_el k3 (fun t ht ho => by obtain ⟨t0, t1, t2, t3, t4⟩ := t; exact e_fr_tryWay_49_16_31 _ ht ho)
          · cases h13
  · cases h)
