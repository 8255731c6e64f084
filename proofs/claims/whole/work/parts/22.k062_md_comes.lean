abbrev T_md_comes : Type := Int32 × (Nat → Int32) × (Nat → Int32) × (Nat → Int32) × (Nat → Int32) × (Nat → Int32) × Int32
abbrev U_md_comes_42 : Type := Int32 × (Nat → Int32) × (Nat → Int32) × (Nat → Int32) × (Nat → Int32) × Int32
noncomputable def b_md_comes_42 (z : Int32) (a68 : Nat → Int32) (a77 : Nat → Int32) (a78 : Nat → Int32) (a79 : Nat → Int32) (a80 : Nat → Int32) (a81 : Nat → Int32) (f64_15 : Int32) (l4 : Int32) (b66 : Nat → Int32) (l5 : Int32) (b65 : Nat → Int32) (b82 : Nat → Int32) (b83 : Nat → Int32) (b85 : Nat → Int32) (c64_34 : Int32) : Option (U_md_comes_42 ⊕ T_md_comes) :=
  zg (zin (0 + l4) 315) (
  bif !decide (b65 ((0 + l4).toNatClampNeg) = 0) then
   zg (zin (0 + l4) 315) (
   bif decide (b65 ((0 + l4).toNatClampNeg) = 0) then
    zl (a0_md_copies b66 b65) (fun v4 =>
    some (.inr ((-2), v4, b66, b82, b83, b85, c64_34)))
   else
    zl (a0_md_copies b66 b65) (fun v5 =>
    some (.inr (l5, v5, b66, b82, b83, b85, c64_34))))
  else
   bif decide (z ≤ l5) then
    zg (zin (0 + l4) 315) (
    bif decide (b65 ((0 + l4).toNatClampNeg) = 0) then
     zl (a0_md_copies b66 b65) (fun v6 =>
     some (.inr ((-2), v6, b66, b82, b83, b85, c64_34)))
    else
     zl (a0_md_copies b66 b65) (fun v7 =>
     some (.inr (l5, v7, b66, b82, b83, b85, c64_34))))
   else
    zg (zin 313 315) (
    bif decide (9999 ≤ b65 ((313 : Int32).toNatClampNeg)) then
     zg (zin (0 + l4) 315) (
     bif decide (b65 ((0 + l4).toNatClampNeg) = 0) then
      zl (a0_md_copies b66 b65) (fun v8 =>
      some (.inr ((-2), v8, b66, b82, b83, b85, c64_34)))
     else
      zl (a0_md_copies b66 b65) (fun v9 =>
      some (.inr (l5, v9, b66, b82, b83, b85, c64_34))))
    else
     zbd (q_md_minuteGoes b65 a68 a77 a78 a79 a80 a81 b82 b83 b85 (f64_15) c64_34) (fun v10 =>
     some (.inl (l5 + 1, ((v10.1)), ((v10.2.1)), ((v10.2.2.1)), ((v10.2.2.2.1)), (v10.2.2.2.2))))))
noncomputable def f_md_comes_42 (z : Int32) (a68 : Nat → Int32) (a77 : Nat → Int32) (a78 : Nat → Int32) (a79 : Nat → Int32) (a80 : Nat → Int32) (a81 : Nat → Int32) (f64_15 : Int32) (l4 : Int32) (b66 : Nat → Int32) : U_md_comes_42 → Option (U_md_comes_42 ⊕ T_md_comes) := fun s => b_md_comes_42 z a68 a77 a78 a79 a80 a81 f64_15 l4 b66 s.1 s.2.1 s.2.2.1 s.2.2.2.1 s.2.2.2.2.1 s.2.2.2.2.2
noncomputable def l_md_comes_42 (z : Int32) (a68 : Nat → Int32) (a77 : Nat → Int32) (a78 : Nat → Int32) (a79 : Nat → Int32) (a80 : Nat → Int32) (a81 : Nat → Int32) (f64_15 : Int32) (l4 : Int32) (b66 : Nat → Int32) (l5 : Int32) (b65 : Nat → Int32) (b82 : Nat → Int32) (b83 : Nat → Int32) (b85 : Nat → Int32) (c64_34 : Int32) : Option T_md_comes := zlp (f_md_comes_42 z a68 a77 a78 a79 a80 a81 f64_15 l4 b66) (l5, b65, b82, b83, b85, c64_34)
noncomputable def q_md_comes (x : Int32) (y : Int32) (z : Int32) (a65 : Nat → Int32) (a66 : Nat → Int32) (a68 : Nat → Int32) (a77 : Nat → Int32) (a78 : Nat → Int32) (a79 : Nat → Int32) (a80 : Nat → Int32) (a81 : Nat → Int32) (a82 : Nat → Int32) (a83 : Nat → Int32) (a85 : Nat → Int32) (f64_15 : Int32) (f64_34 : Int32) : Option T_md_comes :=
  zl (w_md_isSpot x y) (fun v1 =>
  bif decide (v1 = 0) then
   some ((-1), a65, a66, a82, a83, a85, f64_34)
  else
   zl (w_md_in z 1 100) (fun v2 =>
   bif !decide (v2 = 0) then
    zl (a0_md_copies a65 a66) (fun v3 =>
    l_md_comes_42 z a68 a77 a78 a79 a80 a81 f64_15 ((12 * y) + x) v3 0 a65 a82 a83 a85 (f64_34))
   else
    some ((-1), a65, a66, a82, a83, a85, f64_34)))
def P_md_comes (Q : Int32 → Int32 → Int32 → (Nat → Int32) → (Nat → Int32) → (Nat → Int32) → (Nat → Int32) → (Nat → Int32) → (Nat → Int32) → (Nat → Int32) → (Nat → Int32) → (Nat → Int32) → (Nat → Int32) → (Nat → Int32) → Int32 → Int32 → Option (Int32 × (Nat → Int32) × (Nat → Int32) × (Nat → Int32) × (Nat → Int32) × (Nat → Int32) × Int32)) : zSp := fun as g => match as with
  | [.ref a, .int x, .int y, .int z] => bif Nat.beq a 64 then zpe (Q x y z (g.1 65) (g.1 66) (g.1 68) (g.1 77) (g.1 78) (g.1 79) (g.1 80) (g.1 81) (g.1 82) (g.1 83) (g.1 85) (g.2.1 64 15) (g.2.1 64 34)) (fun t => (some (.int (t.1)), ((zua (zua (zua (zua (zua g.1 65 t.2.1) 66 t.2.2.1) 82 t.2.2.2.1) 83 t.2.2.2.2.1) 85 t.2.2.2.2.2.1), (zuf g.2.1 64 34 t.2.2.2.2.2.2), g.2.2))) else none
  | _ => none
noncomputable abbrev S_md_comes : zSp := P_md_comes q_md_comes
theorem hA6_md_comes (F : Nat → Nat → Int32) (w0 : Nat → Int32) : (zua F 66 w0) = (zua (zua (zua (zua (zua F 65 (F 65)) 66 w0) 82 (F 82)) 83 (F 83)) 85 (F 85)) := zuak_ix F [(66, w0)] [(65, none), (66, some 0), (82, none), (83, none), (85, none)] rfl
theorem hF5_md_comes (F : Nat → Nat → Int32) : F = (zuf F 64 34 (F 64 34)) := zufk_ix F [] [((64, 34), none)] rfl
theorem hA4_md_comes (F : Nat → Nat → Int32) : F = (zua (zua (zua (zua (zua F 65 (F 65)) 66 (F 66)) 82 (F 82)) 83 (F 83)) 85 (F 85)) := zuak_ix F [] [(65, none), (66, none), (82, none), (83, none), (85, none)] rfl
theorem hF3_md_comes (F : Nat → Nat → Int32) (w0 w1 : Int32) : (zuf (zuf F 64 34 w0) 64 34 w1) = (zuf F 64 34 w1) := zufk_ix F [((64, 34), w0), ((64, 34), w1)] [((64, 34), some 1)] rfl
theorem hA2_md_comes (F : Nat → Nat → Int32) (w0 w1 w2 w3 w4 w5 w6 w7 w8 : Nat → Int32) : (zua (zua (zua (zua (zua (zua (zua (zua (zua F 65 w0) 66 w1) 82 w2) 83 w3) 85 w4) 65 w5) 82 w6) 83 w7) 85 w8) = (zua (zua (zua (zua (zua F 65 w5) 66 w1) 82 w6) 83 w7) 85 w8) := zuak_ix F [(65, w0), (66, w1), (82, w2), (83, w3), (85, w4), (65, w5), (82, w6), (83, w7), (85, w8)] [(65, some 5), (66, some 1), (82, some 6), (83, some 7), (85, some 8)] rfl
theorem hF1_md_comes (F : Nat → Nat → Int32) (w0 : Int32) : (zuf F 64 34 w0) = (zuf F 64 34 w0) := zufk_ix F [((64, 34), w0)] [((64, 34), some 0)] rfl
theorem hA0_md_comes (F : Nat → Nat → Int32) (w0 w1 w2 w3 w4 w5 : Nat → Int32) : (zua (zua (zua (zua (zua (zua F 65 w0) 66 w1) 82 w2) 83 w3) 85 w4) 65 w5) = (zua (zua (zua (zua (zua F 65 w5) 66 w1) 82 w2) 83 w3) 85 w4) := zuak_ix F [(65, w0), (66, w1), (82, w2), (83, w3), (85, w4), (65, w5)] [(65, some 5), (66, some 1), (82, some 2), (83, some 3), (85, some 4)] rfl
def O_md_comes (ar fi : Nat → Nat → Int32) (m1 : Nat) (m2 : Nat) (m3 : Nat) (m4 : Nat) (m5 : Nat) (t : T_md_comes) : zO2 := match t with
  | (t0, t1, t2, t3, t4, t5, t6) => (some (.int (t0)), ((zua (zua (zua (zua (zua ar 65 t1) 66 t2) 82 t3) 83 t4) 85 t5), (zuf fi 64 34 t6), (m1, m2, m3, m4, m5)))
def M_md_comes_42 (X : Nat × (Nat → Int32)) (E : zTE) (ar fi : Nat → Nat → Int32) (m1 : Nat) (m2 : Nat) (m3 : Nat) (m4 : Nat) (m5 : Nat) (x : Int32) (y : Int32) (z : Int32) (l4 : Int32) (b66 : Nat → Int32) (o : zO2) (s : U_md_comes_42) : Prop := match s with
  | (l5, b65, b82, b83, b85, c64_34) => zR2 X zFT E zc_215 42 [.ref 64, .int x, .int y, .int z, .int l4, .int l5] [] ((zua (zua (zua (zua (zua ar 65 b65) 66 b66) 82 b82) 83 b83) 85 b85), (zuf fi 64 34 c64_34), (m1, m2, m3, m4, m5)) o
set_option maxRecDepth 1000000 in
theorem t42_md_comes {X : Nat × (Nat → Int32)} {ar fi : Nat → Nat → Int32} {m1 m2 m3 m4 m5 : Nat} {x y z : Int32} {l4 : Int32} {l5 : Int32} {b65 : Nat → Int32} {b66 : Nat → Int32} {b82 : Nat → Int32} {b83 : Nat → Int32} {b85 : Nat → Int32} {c64_34 : Int32} {W_md_isSpot : Int32 → Int32 → Int32} {W_md_in : Int32 → Int32 → Int32 → Int32} {A0_md_copies : (Nat → Int32) → (Nat → Int32) → Nat → Int32} {Q_md_minuteGoes : (Nat → Int32) → (Nat → Int32) → (Nat → Int32) → (Nat → Int32) → (Nat → Int32) → (Nat → Int32) → (Nat → Int32) → (Nat → Int32) → (Nat → Int32) → (Nat → Int32) → Int32 → Int32 → Option ((Nat → Int32) × (Nat → Int32) × (Nat → Int32) × (Nat → Int32) × Int32)} : zseg X zFT (zEx 150 (P_md_isSpot W_md_isSpot) (zEx 143 (P_md_in W_md_in) (zEx 148 (P_md_copies A0_md_copies) (zEx 205 (P_md_minuteGoes Q_md_minuteGoes) zE0)))) zc_215 (fun p => Nat.beq p 42) 400 42 [.ref 64, .int x, .int y, .int z, .int l4, .int l5] [] ((zua (zua (zua (zua (zua ar 65 b65) 66 b66) 82 b82) 83 b83) 85 b85), (zuf fi 64 34 c64_34), (m1, m2, m3, m4, m5)) = (
  zg (Nat.beq 16 16 && (zin (0 + l4) 315)) (
  bif !decide (b65 ((0 + l4).toNatClampNeg) = 0) then
   zg (Nat.beq 16 16 && (zin (0 + l4) 315)) (
   bif decide (b65 ((0 + l4).toNatClampNeg) = 0) then
    zl (A0_md_copies b66 b65) (fun v4 =>
    some (.inr (some (.int (-2)), ((zua (zua (zua (zua (zua (zua ar 65 b65) 66 b66) 82 b82) 83 b83) 85 b85) 65 v4), (zuf fi 64 34 c64_34), (m1, m2, m3, m4, m5)))))
   else
    zl (A0_md_copies b66 b65) (fun v5 =>
    some (.inr (some (.int l5), ((zua (zua (zua (zua (zua (zua ar 65 b65) 66 b66) 82 b82) 83 b83) 85 b85) 65 v5), (zuf fi 64 34 c64_34), (m1, m2, m3, m4, m5))))))
  else
   bif decide (z ≤ l5) then
    zg (Nat.beq 16 16 && (zin (0 + l4) 315)) (
    bif decide (b65 ((0 + l4).toNatClampNeg) = 0) then
     zl (A0_md_copies b66 b65) (fun v6 =>
     some (.inr (some (.int (-2)), ((zua (zua (zua (zua (zua (zua ar 65 b65) 66 b66) 82 b82) 83 b83) 85 b85) 65 v6), (zuf fi 64 34 c64_34), (m1, m2, m3, m4, m5)))))
    else
     zl (A0_md_copies b66 b65) (fun v7 =>
     some (.inr (some (.int l5), ((zua (zua (zua (zua (zua (zua ar 65 b65) 66 b66) 82 b82) 83 b83) 85 b85) 65 v7), (zuf fi 64 34 c64_34), (m1, m2, m3, m4, m5))))))
   else
    zg (Nat.beq 16 16 && (zin 313 315)) (
    bif decide (9999 ≤ b65 ((313 : Int32).toNatClampNeg)) then
     zg (Nat.beq 16 16 && (zin (0 + l4) 315)) (
     bif decide (b65 ((0 + l4).toNatClampNeg) = 0) then
      zl (A0_md_copies b66 b65) (fun v8 =>
      some (.inr (some (.int (-2)), ((zua (zua (zua (zua (zua (zua ar 65 b65) 66 b66) 82 b82) 83 b83) 85 b85) 65 v8), (zuf fi 64 34 c64_34), (m1, m2, m3, m4, m5)))))
     else
      zl (A0_md_copies b66 b65) (fun v9 =>
      some (.inr (some (.int l5), ((zua (zua (zua (zua (zua (zua ar 65 b65) 66 b66) 82 b82) 83 b83) 85 b85) 65 v9), (zuf fi 64 34 c64_34), (m1, m2, m3, m4, m5))))))
    else
     zl (Q_md_minuteGoes b65 (ar 68) (ar 77) (ar 78) (ar 79) (ar 80) (ar 81) b82 b83 b85 (fi 64 15) c64_34) (fun v10 => zg v10.isSome (
     some (.inl (42, [.ref 64, .int x, .int y, .int z, .int l4, .int (l5 + 1)], [], ((zua (zua (zua (zua (zua (zua (zua (zua (zua ar 65 b65) 66 b66) 82 b82) 83 b83) 85 b85) 65 (((zgt v10).1))) 82 (((zgt v10).2.1))) 83 (((zgt v10).2.2.1))) 85 (((zgt v10).2.2.2.1))), (zuf (zuf fi 64 34 c64_34) 64 34 (((zgt v10).2.2.2.2))), (m1, m2, m3, m4, m5)))))))) : Option ((Nat × List Value × List Value × zH2) ⊕ zO2)) := by with_unfolding_all rfl
set_option maxRecDepth 20000 in
theorem k_md_comes_42 {X : Nat × (Nat → Int32)} {ar fi : Nat → Nat → Int32} {m1 m2 m3 m4 m5 : Nat} {x y z : Int32} {l4 : Int32} {b66 : Nat → Int32} {o : zO2} : ∀ (s : U_md_comes_42) (q : U_md_comes_42 ⊕ T_md_comes), f_md_comes_42 z (ar 68) (ar 77) (ar 78) (ar 79) (ar 80) (ar 81) (fi 64 15) l4 b66 s = some q → zq (M_md_comes_42 X (zEx 150 S_md_isSpot (zEx 143 S_md_in (zEx 148 S_md_copies (zEx 205 S_md_minuteGoes zE0)))) ar fi m1 m2 m3 m4 m5 x y z l4 b66 o) (fun t => O_md_comes ar fi m1 m2 m3 m4 m5 t = o) q → M_md_comes_42 X (zEx 150 S_md_isSpot (zEx 143 S_md_in (zEx 148 S_md_copies (zEx 205 S_md_minuteGoes zE0)))) ar fi m1 m2 m3 m4 m5 x y z l4 b66 o s := by
  intro s q h hq
  obtain ⟨l5, b65, b82, b83, b85, c64_34⟩ := s
  have h : b_md_comes_42 z (ar 68) (ar 77) (ar 78) (ar 79) (ar 80) (ar 81) (fi 64 15) l4 b66 l5 b65 b82 b83 b85 c64_34 = some q := h
  unfold b_md_comes_42 at h
  show zR2 X zFT (zEx 150 S_md_isSpot (zEx 143 S_md_in (zEx 148 S_md_copies (zEx 205 S_md_minuteGoes zE0)))) zc_215 42 [.ref 64, .int x, .int y, .int z, .int l4, .int l5] [] ((zua (zua (zua (zua (zua ar 65 b65) 66 b66) 82 b82) 83 b83) 85 b85), (zuf fi 64 34 c64_34), (m1, m2, m3, m4, m5)) o
  refine zT_seg t42_md_comes ?_
  obtain ⟨TT, hTT⟩ : ∃ T, T = zT X zFT (zEx 150 S_md_isSpot (zEx 143 S_md_in (zEx 148 S_md_copies (zEx 205 S_md_minuteGoes zE0)))) zc_215 o := ⟨_, rfl⟩
  rw [← hTT]
  refine zg_el h (fun hg h => zU_ga hTT hg ?_)
  refine zb_el h (fun hb h => zU_t hTT hb ?_) (fun hb h => zU_f hTT hb ?_)
  · refine zg_el h (fun hg h => zU_ga hTT hg ?_)
    refine zb_el h (fun hb h => zU_t hTT hb ?_) (fun hb h => zU_f hTT hb ?_)
    · refine zl_el h (fun h => zU_l hTT ?_)
      rw [hTT]
      have hz := zsi h hq
      refine (zO_mk ?_ ?_).trans hz
      · first | with_reducible rfl | exact hA0_md_comes _ _ _ _ _ _ _
      · first | with_reducible rfl | exact hF1_md_comes _ _
    · refine zl_el h (fun h => zU_l hTT ?_)
      rw [hTT]
      have hz := zsi h hq
      refine (zO_mk ?_ ?_).trans hz
      · first | with_reducible rfl | exact hA0_md_comes _ _ _ _ _ _ _
      · first | with_reducible rfl | exact hF1_md_comes _ _
  · refine zb_el h (fun hb h => zU_t hTT hb ?_) (fun hb h => zU_f hTT hb ?_)
    · refine zg_el h (fun hg h => zU_ga hTT hg ?_)
      refine zb_el h (fun hb h => zU_t hTT hb ?_) (fun hb h => zU_f hTT hb ?_)
      · refine zl_el h (fun h => zU_l hTT ?_)
        rw [hTT]
        have hz := zsi h hq
        refine (zO_mk ?_ ?_).trans hz
        · first | with_reducible rfl | exact hA0_md_comes _ _ _ _ _ _ _
        · first | with_reducible rfl | exact hF1_md_comes _ _
      · refine zl_el h (fun h => zU_l hTT ?_)
        rw [hTT]
        have hz := zsi h hq
        refine (zO_mk ?_ ?_).trans hz
        · first | with_reducible rfl | exact hA0_md_comes _ _ _ _ _ _ _
        · first | with_reducible rfl | exact hF1_md_comes _ _
    · refine zg_el h (fun hg h => zU_ga hTT hg ?_)
      refine zb_el h (fun hb h => zU_t hTT hb ?_) (fun hb h => zU_f hTT hb ?_)
      · refine zg_el h (fun hg h => zU_ga hTT hg ?_)
        refine zb_el h (fun hb h => zU_t hTT hb ?_) (fun hb h => zU_f hTT hb ?_)
        · refine zl_el h (fun h => zU_l hTT ?_)
          rw [hTT]
          have hz := zsi h hq
          refine (zO_mk ?_ ?_).trans hz
          · first | with_reducible rfl | exact hA0_md_comes _ _ _ _ _ _ _
          · first | with_reducible rfl | exact hF1_md_comes _ _
        · refine zl_el h (fun h => zU_l hTT ?_)
          rw [hTT]
          have hz := zsi h hq
          refine (zO_mk ?_ ?_).trans hz
          · first | with_reducible rfl | exact hA0_md_comes _ _ _ _ _ _ _
          · first | with_reducible rfl | exact hF1_md_comes _ _
      · refine zbd_el h (fun v10 hv h => zU_c hTT hv ?_)
        rw [hTT]
        have hz := zsi h hq
        refine zR2_hp ?_ ?_ hz
        · first | with_reducible rfl | exact hA2_md_comes _ _ _ _ _ _ _ _ _ _
        · first | with_reducible rfl | exact hF3_md_comes _ _ _
set_option maxRecDepth 1000000 in
theorem t_md_comes {X : Nat × (Nat → Int32)} {ar fi : Nat → Nat → Int32} {m1 m2 m3 m4 m5 : Nat} {x y z : Int32} {W_md_isSpot : Int32 → Int32 → Int32} {W_md_in : Int32 → Int32 → Int32 → Int32} {A0_md_copies : (Nat → Int32) → (Nat → Int32) → Nat → Int32} {Q_md_minuteGoes : (Nat → Int32) → (Nat → Int32) → (Nat → Int32) → (Nat → Int32) → (Nat → Int32) → (Nat → Int32) → (Nat → Int32) → (Nat → Int32) → (Nat → Int32) → (Nat → Int32) → Int32 → Int32 → Option ((Nat → Int32) × (Nat → Int32) × (Nat → Int32) × (Nat → Int32) × Int32)} : zseg X zFT (zEx 150 (P_md_isSpot W_md_isSpot) (zEx 143 (P_md_in W_md_in) (zEx 148 (P_md_copies A0_md_copies) (zEx 205 (P_md_minuteGoes Q_md_minuteGoes) zE0)))) zc_215 (fun p => Nat.beq p 42) 400 0 [.ref 64, .int x, .int y, .int z] [] (ar, fi, (m1, m2, m3, m4, m5)) = (
  zl (W_md_isSpot x y) (fun v1 =>
  bif decide (v1 = 0) then
   some (.inr (some (.int (-1)), (ar, fi, (m1, m2, m3, m4, m5))))
  else
   zl (W_md_in z 1 100) (fun v2 =>
   bif !decide (v2 = 0) then
    zl (A0_md_copies (ar 65) (ar 66)) (fun v3 =>
    some (.inl (42, [.ref 64, .int x, .int y, .int z, .int ((12 * y) + x), .int 0], [], ((zua ar 66 v3), fi, (m1, m2, m3, m4, m5)))))
   else
    some (.inr (some (.int (-1)), (ar, fi, (m1, m2, m3, m4, m5)))))) : Option ((Nat × List Value × List Value × zH2) ⊕ zO2)) := by with_unfolding_all rfl
set_option maxRecDepth 20000 in
theorem e_md_comes {X : Nat × (Nat → Int32)} {ar fi : Nat → Nat → Int32} {m1 m2 m3 m4 m5 : Nat} {x y z : Int32} {o : zO2} : ∀ (q : T_md_comes), q_md_comes x y z (ar 65) (ar 66) (ar 68) (ar 77) (ar 78) (ar 79) (ar 80) (ar 81) (ar 82) (ar 83) (ar 85) (fi 64 15) (fi 64 34) = some q → (fun t => O_md_comes ar fi m1 m2 m3 m4 m5 t = o) q → zR2 X zFT (zEx 150 S_md_isSpot (zEx 143 S_md_in (zEx 148 S_md_copies (zEx 205 S_md_minuteGoes zE0)))) zc_215 0 [.ref 64, .int x, .int y, .int z] [] (ar, fi, (m1, m2, m3, m4, m5)) o := by
  intro q h hq
  unfold q_md_comes at h
  refine zT_seg t_md_comes ?_
  obtain ⟨TT, hTT⟩ : ∃ T, T = zT X zFT (zEx 150 S_md_isSpot (zEx 143 S_md_in (zEx 148 S_md_copies (zEx 205 S_md_minuteGoes zE0)))) zc_215 o := ⟨_, rfl⟩
  rw [← hTT]
  refine zl_el h (fun h => zU_l hTT ?_)
  refine zb_el h (fun hb h => zU_t hTT hb ?_) (fun hb h => zU_f hTT hb ?_)
  · rw [hTT]
    have hz := zsi (P := (fun t => O_md_comes ar fi m1 m2 m3 m4 m5 t = o)) h hq
    refine (zO_mk ?_ ?_).trans hz
    · first | with_reducible rfl | exact hA4_md_comes _
    · first | with_reducible rfl | exact hF5_md_comes _
  · refine zl_el h (fun h => zU_l hTT ?_)
    refine zb_el h (fun hb h => zU_t hTT hb ?_) (fun hb h => zU_f hTT hb ?_)
    · refine zl_el h (fun h => zU_l hTT ?_)
      rw [hTT]
      refine zR2_hp ?_ ?_ (zlp_K k_md_comes_42 h hq)
      · first | with_reducible rfl | exact hA6_md_comes _ _
      · first | with_reducible rfl | exact hF5_md_comes _
    · rw [hTT]
      have hz := zsi (P := (fun t => O_md_comes ar fi m1 m2 m3 m4 m5 t = o)) h hq
      refine (zO_mk ?_ ?_).trans hz
      · first | with_reducible rfl | exact hA4_md_comes _
      · first | with_reducible rfl | exact hF5_md_comes _
theorem ok_md_comes (X : Nat × (Nat → Int32)) : zOkS X 215 S_md_comes 9 := zOkS_new (zOkE_cons (ok_md_isSpot X) (by decide) (zOkE_cons (ok_md_in X) (by decide) (zOkE_cons (ok_md_copies X) (by decide) (zOkE_cons (ok_md_minuteGoes X) (by decide) (zOkE_nil X 8))))) (by
  intro args g o h
  obtain ⟨ar, fi, m1, m2, m3, m4, m5⟩ := g
  unfold S_md_comes P_md_comes at h
  split at h
  · refine zb_el h (fun hI0 k0 => ?_) (fun _ h10 => ?_)
    · try simp only [Bool.and_eq_true] at hI0
      have j0 := hI0
      have e0 := Nat.eq_of_beq_eq_true j0
      subst e0
      exact zpe_el k0 (fun t ht ho => by obtain ⟨t0, t1, t2, t3, t4, t5, t6⟩ := t; exact e_md_comes _ ht ho)
    · cases h10
  · cases h)
