abbrev T_md_turnOf : Type := (Nat → Int32) × (Nat → Int32) × (Nat → Int32) × Int32
abbrev U_md_turnOf_7 : Type := Int32 × (Nat → Int32) × (Nat → Int32) × (Nat → Int32)
noncomputable def b_md_turnOf_7 (x : Int32) (a68 : Nat → Int32) (a77 : Nat → Int32) (a78 : Nat → Int32) (a79 : Nat → Int32) (a80 : Nat → Int32) (a81 : Nat → Int32) (f64_15 : Int32) (c64_34 : Int32) (l2 : Int32) (b65 : Nat → Int32) (b82 : Nat → Int32) (b83 : Nat → Int32) : Option (U_md_turnOf_7 ⊕ T_md_turnOf) :=
  bif decide (4 ≤ l2) then
   zg (zin (96 + x) 315) (
   zg (g_md_draws b65) (
   zl (w_md_draws b65) (fun v3 =>
   zl (a0_md_draws b65) (fun v4 =>
   zg (g_md_feels x (b65 ((96 + x).toNatClampNeg)) 0 v3 v4 b83) (
   zl (a0_md_feels x (b65 ((96 + x).toNatClampNeg)) 0 v3 v4 b83) (fun v5 =>
   zbd (q_md_holdsAny 120 a77 a78 a80 a81 b82 v5 (f64_15)) (fun v6 =>
   bif decide ((v6.1) = 0) then
    zg (zin (96 + x) 315) (
    zg (zin (96 + x) 315) (
    zg (zin (96 + x) 315) (
    bif !decide ((zup v4 ((96 + x).toNatClampNeg) ((v4 ((96 + x).toNatClampNeg)) - 1)) ((96 + x).toNatClampNeg) = 0) then
     some (.inr ((zup v4 ((96 + x).toNatClampNeg) ((v4 ((96 + x).toNatClampNeg)) - 1)), ((v6.2)), v5, c64_34))
    else
     zg (zin (0 + x) 315) (
     some (.inr ((zup (zup v4 ((96 + x).toNatClampNeg) ((v4 ((96 + x).toNatClampNeg)) - 1)) ((0 + x).toNatClampNeg) 2), ((v6.2)), v5, c64_34))))))
   else
    zg (zin (96 + x) 315) (
    zg (zin (96 + x) 315) (
    bif !decide ((zup v4 ((96 + x).toNatClampNeg) 0) ((96 + x).toNatClampNeg) = 0) then
     some (.inr ((zup v4 ((96 + x).toNatClampNeg) 0), ((v6.2)), v5, c64_34))
    else
     zg (zin (0 + x) 315) (
     some (.inr ((zup (zup v4 ((96 + x).toNatClampNeg) 0) ((0 + x).toNatClampNeg) 2), ((v6.2)), v5, c64_34))))))))))))
  else
   zbd (q_md_goesOver x l2 b65 a68 a77 a78 a79 a80 a81 b82 b83 (f64_15)) (fun v7 =>
   some (.inl (l2 + 1, ((v7.1)), ((v7.2.1)), ((v7.2.2)))))
noncomputable def f_md_turnOf_7 (x : Int32) (a68 : Nat → Int32) (a77 : Nat → Int32) (a78 : Nat → Int32) (a79 : Nat → Int32) (a80 : Nat → Int32) (a81 : Nat → Int32) (f64_15 : Int32) (c64_34 : Int32) : U_md_turnOf_7 → Option (U_md_turnOf_7 ⊕ T_md_turnOf) := fun s => b_md_turnOf_7 x a68 a77 a78 a79 a80 a81 f64_15 c64_34 s.1 s.2.1 s.2.2.1 s.2.2.2
noncomputable def l_md_turnOf_7 (x : Int32) (a68 : Nat → Int32) (a77 : Nat → Int32) (a78 : Nat → Int32) (a79 : Nat → Int32) (a80 : Nat → Int32) (a81 : Nat → Int32) (f64_15 : Int32) (c64_34 : Int32) (l2 : Int32) (b65 : Nat → Int32) (b82 : Nat → Int32) (b83 : Nat → Int32) : Option T_md_turnOf := zlp (f_md_turnOf_7 x a68 a77 a78 a79 a80 a81 f64_15 c64_34) (l2, b65, b82, b83)
noncomputable def q_md_turnOf (x : Int32) (a65 : Nat → Int32) (a68 : Nat → Int32) (a77 : Nat → Int32) (a78 : Nat → Int32) (a79 : Nat → Int32) (a80 : Nat → Int32) (a81 : Nat → Int32) (a82 : Nat → Int32) (a83 : Nat → Int32) (f64_15 : Int32) (f64_34 : Int32) : Option T_md_turnOf :=
  zl (a0_md_takesThings x a65 (f64_34)) (fun v1 =>
  zl (f0_md_takesThings x a65 (f64_34)) (fun v2 =>
  l_md_turnOf_7 x a68 a77 a78 a79 a80 a81 f64_15 v2 0 v1 a82 a83))
def P_md_turnOf (Q : Int32 → (Nat → Int32) → (Nat → Int32) → (Nat → Int32) → (Nat → Int32) → (Nat → Int32) → (Nat → Int32) → (Nat → Int32) → (Nat → Int32) → (Nat → Int32) → Int32 → Int32 → Option ((Nat → Int32) × (Nat → Int32) × (Nat → Int32) × Int32)) : zSp := fun as g => match as with
  | [.ref a, .int x] => bif Nat.beq a 64 then zpe (Q x (g.1 65) (g.1 68) (g.1 77) (g.1 78) (g.1 79) (g.1 80) (g.1 81) (g.1 82) (g.1 83) (g.2.1 64 15) (g.2.1 64 34)) (fun t => (none, ((zua (zua (zua g.1 65 t.1) 82 t.2.1) 83 t.2.2.1), (zuf g.2.1 64 34 t.2.2.2), g.2.2))) else none
  | _ => none
noncomputable abbrev S_md_turnOf : zSp := P_md_turnOf q_md_turnOf
theorem hA4_md_turnOf (F : Nat → Nat → Int32) (w0 : Nat → Int32) : (zua F 65 w0) = (zua (zua (zua F 65 w0) 82 (F 82)) 83 (F 83)) := zuak_ix F [(65, w0)] [(65, some 0), (82, none), (83, none)] rfl
theorem hA3_md_turnOf (F : Nat → Nat → Int32) (w0 w1 w2 w3 w4 w5 : Nat → Int32) : (zua (zua (zua (zua (zua (zua F 65 w0) 82 w1) 83 w2) 65 w3) 82 w4) 83 w5) = (zua (zua (zua F 65 w3) 82 w4) 83 w5) := zuak_ix F [(65, w0), (82, w1), (83, w2), (65, w3), (82, w4), (83, w5)] [(65, some 3), (82, some 4), (83, some 5)] rfl
theorem hA2_md_turnOf (F : Nat → Nat → Int32) (w0 w1 w2 w3 w4 w5 w6 w7 : Nat → Int32) : (zua (zua (zua (zua (zua (zua (zua (zua F 65 w0) 82 w1) 83 w2) 65 w3) 83 w4) 82 w5) 65 w6) 65 w7) = (zua (zua (zua F 65 w7) 82 w5) 83 w4) := zuak_ix F [(65, w0), (82, w1), (83, w2), (65, w3), (83, w4), (82, w5), (65, w6), (65, w7)] [(65, some 7), (82, some 5), (83, some 4)] rfl
theorem hF1_md_turnOf (F : Nat → Nat → Int32) (w0 : Int32) : (zuf F 64 34 w0) = (zuf F 64 34 w0) := zufk_ix F [((64, 34), w0)] [((64, 34), some 0)] rfl
theorem hA0_md_turnOf (F : Nat → Nat → Int32) (w0 w1 w2 w3 w4 w5 w6 : Nat → Int32) : (zua (zua (zua (zua (zua (zua (zua F 65 w0) 82 w1) 83 w2) 65 w3) 83 w4) 82 w5) 65 w6) = (zua (zua (zua F 65 w6) 82 w5) 83 w4) := zuak_ix F [(65, w0), (82, w1), (83, w2), (65, w3), (83, w4), (82, w5), (65, w6)] [(65, some 6), (82, some 5), (83, some 4)] rfl
def O_md_turnOf (ar fi : Nat → Nat → Int32) (m1 : Nat) (m2 : Nat) (m3 : Nat) (m4 : Nat) (m5 : Nat) (t : T_md_turnOf) : zO2 := match t with
  | (t0, t1, t2, t3) => (none, ((zua (zua (zua ar 65 t0) 82 t1) 83 t2), (zuf fi 64 34 t3), (m1, m2, m3, m4, m5)))
def M_md_turnOf_7 (X : Nat × (Nat → Int32)) (E : zTE) (ar fi : Nat → Nat → Int32) (m1 : Nat) (m2 : Nat) (m3 : Nat) (m4 : Nat) (m5 : Nat) (x : Int32) (c64_34 : Int32) (o : zO2) (s : U_md_turnOf_7) : Prop := match s with
  | (l2, b65, b82, b83) => zR2 X zFT E zc_204 7 [.ref 64, .int x, .int l2] [] ((zua (zua (zua ar 65 b65) 82 b82) 83 b83), (zuf fi 64 34 c64_34), (m1, m2, m3, m4, m5)) o
set_option maxRecDepth 1000000 in
theorem t7_md_turnOf {X : Nat × (Nat → Int32)} {ar fi : Nat → Nat → Int32} {m1 m2 m3 m4 m5 : Nat} {x : Int32} {l2 : Int32} {b65 : Nat → Int32} {b82 : Nat → Int32} {b83 : Nat → Int32} {c64_34 : Int32} {A0_md_takesThings : Int32 → (Nat → Int32) → Int32 → Nat → Int32} {F0_md_takesThings : Int32 → (Nat → Int32) → Int32 → Int32} {Q_md_goesOver : Int32 → Int32 → (Nat → Int32) → (Nat → Int32) → (Nat → Int32) → (Nat → Int32) → (Nat → Int32) → (Nat → Int32) → (Nat → Int32) → (Nat → Int32) → (Nat → Int32) → Int32 → Option ((Nat → Int32) × (Nat → Int32) × (Nat → Int32))} {G_md_draws : (Nat → Int32) → Bool} {W_md_draws : (Nat → Int32) → Int32} {A0_md_draws : (Nat → Int32) → Nat → Int32} {G_md_feels : Int32 → Int32 → Int32 → Int32 → (Nat → Int32) → (Nat → Int32) → Bool} {A0_md_feels : Int32 → Int32 → Int32 → Int32 → (Nat → Int32) → (Nat → Int32) → Nat → Int32} {Q_md_holdsAny : Int32 → (Nat → Int32) → (Nat → Int32) → (Nat → Int32) → (Nat → Int32) → (Nat → Int32) → (Nat → Int32) → Int32 → Option (Int32 × (Nat → Int32))} : zseg X zFT (zEx 202 (P_md_takesThings A0_md_takesThings F0_md_takesThings) (zEx 203 (P_md_goesOver Q_md_goesOver) (zEx 201 (P_md_draws G_md_draws W_md_draws A0_md_draws) (zEx 200 (P_md_feels G_md_feels A0_md_feels) (zEx 183 (P_md_holdsAny Q_md_holdsAny) zE0))))) zc_204 (fun p => Nat.beq p 7) 400 7 [.ref 64, .int x, .int l2] [] ((zua (zua (zua ar 65 b65) 82 b82) 83 b83), (zuf fi 64 34 c64_34), (m1, m2, m3, m4, m5)) = (
  bif decide (4 ≤ l2) then
   zg (Nat.beq 16 16 && (zin (96 + x) 315)) (
   zg (G_md_draws b65) (
   zl (W_md_draws b65) (fun v3 =>
   zl (A0_md_draws b65) (fun v4 =>
   zg (G_md_feels x (b65 ((96 + x).toNatClampNeg)) 0 v3 v4 b83) (
   zl (A0_md_feels x (b65 ((96 + x).toNatClampNeg)) 0 v3 v4 b83) (fun v5 =>
   zl (Q_md_holdsAny 120 (ar 77) (ar 78) (ar 80) (ar 81) b82 v5 (fi 64 15)) (fun v6 => zg v6.isSome (
   bif decide (((zgt v6).1) = 0) then
    zg (Nat.beq 16 16 && (zin (96 + x) 315)) (
    zg (Nat.beq 16 16 && (zin (96 + x) 315)) (
    zg (Nat.beq 16 16 && (zin (96 + x) 315)) (
    bif !decide ((zup v4 ((96 + x).toNatClampNeg) ((v4 ((96 + x).toNatClampNeg)) - 1)) ((96 + x).toNatClampNeg) = 0) then
     some (.inr (none, ((zua (zua (zua (zua (zua (zua (zua ar 65 b65) 82 b82) 83 b83) 65 v4) 83 v5) 82 (((zgt v6).2))) 65 (zup v4 ((96 + x).toNatClampNeg) ((v4 ((96 + x).toNatClampNeg)) - 1))), (zuf fi 64 34 c64_34), (m1, m2, m3, m4, m5))))
    else
     zg (Nat.beq 16 16 && (zin (0 + x) 315)) (
     some (.inr (none, ((zua (zua (zua (zua (zua (zua (zua (zua ar 65 b65) 82 b82) 83 b83) 65 v4) 83 v5) 82 (((zgt v6).2))) 65 (zup v4 ((96 + x).toNatClampNeg) ((v4 ((96 + x).toNatClampNeg)) - 1))) 65 (zup (zup v4 ((96 + x).toNatClampNeg) ((v4 ((96 + x).toNatClampNeg)) - 1)) ((0 + x).toNatClampNeg) 2)), (zuf fi 64 34 c64_34), (m1, m2, m3, m4, m5))))))))
   else
    zg (Nat.beq 16 16 && (zin (96 + x) 315)) (
    zg (Nat.beq 16 16 && (zin (96 + x) 315)) (
    bif !decide ((zup v4 ((96 + x).toNatClampNeg) 0) ((96 + x).toNatClampNeg) = 0) then
     some (.inr (none, ((zua (zua (zua (zua (zua (zua (zua ar 65 b65) 82 b82) 83 b83) 65 v4) 83 v5) 82 (((zgt v6).2))) 65 (zup v4 ((96 + x).toNatClampNeg) 0)), (zuf fi 64 34 c64_34), (m1, m2, m3, m4, m5))))
    else
     zg (Nat.beq 16 16 && (zin (0 + x) 315)) (
     some (.inr (none, ((zua (zua (zua (zua (zua (zua (zua (zua ar 65 b65) 82 b82) 83 b83) 65 v4) 83 v5) 82 (((zgt v6).2))) 65 (zup v4 ((96 + x).toNatClampNeg) 0)) 65 (zup (zup v4 ((96 + x).toNatClampNeg) 0) ((0 + x).toNatClampNeg) 2)), (zuf fi 64 34 c64_34), (m1, m2, m3, m4, m5)))))))))))))))
  else
   zl (Q_md_goesOver x l2 b65 (ar 68) (ar 77) (ar 78) (ar 79) (ar 80) (ar 81) b82 b83 (fi 64 15)) (fun v7 => zg v7.isSome (
   some (.inl (7, [.ref 64, .int x, .int (l2 + 1)], [], ((zua (zua (zua (zua (zua (zua ar 65 b65) 82 b82) 83 b83) 65 (((zgt v7).1))) 82 (((zgt v7).2.1))) 83 (((zgt v7).2.2))), (zuf fi 64 34 c64_34), (m1, m2, m3, m4, m5)))))) : Option ((Nat × List Value × List Value × zH2) ⊕ zO2)) := by with_unfolding_all rfl
set_option maxRecDepth 20000 in
theorem k_md_turnOf_7 {X : Nat × (Nat → Int32)} {ar fi : Nat → Nat → Int32} {m1 m2 m3 m4 m5 : Nat} {x : Int32} {c64_34 : Int32} {o : zO2} : ∀ (s : U_md_turnOf_7) (q : U_md_turnOf_7 ⊕ T_md_turnOf), f_md_turnOf_7 x (ar 68) (ar 77) (ar 78) (ar 79) (ar 80) (ar 81) (fi 64 15) c64_34 s = some q → zq (M_md_turnOf_7 X (zEx 202 S_md_takesThings (zEx 203 S_md_goesOver (zEx 201 S_md_draws (zEx 200 S_md_feels (zEx 183 S_md_holdsAny zE0))))) ar fi m1 m2 m3 m4 m5 x c64_34 o) (fun t => O_md_turnOf ar fi m1 m2 m3 m4 m5 t = o) q → M_md_turnOf_7 X (zEx 202 S_md_takesThings (zEx 203 S_md_goesOver (zEx 201 S_md_draws (zEx 200 S_md_feels (zEx 183 S_md_holdsAny zE0))))) ar fi m1 m2 m3 m4 m5 x c64_34 o s := by
  intro s q h hq
  obtain ⟨l2, b65, b82, b83⟩ := s
  have h : b_md_turnOf_7 x (ar 68) (ar 77) (ar 78) (ar 79) (ar 80) (ar 81) (fi 64 15) c64_34 l2 b65 b82 b83 = some q := h
  unfold b_md_turnOf_7 at h
  show zR2 X zFT (zEx 202 S_md_takesThings (zEx 203 S_md_goesOver (zEx 201 S_md_draws (zEx 200 S_md_feels (zEx 183 S_md_holdsAny zE0))))) zc_204 7 [.ref 64, .int x, .int l2] [] ((zua (zua (zua ar 65 b65) 82 b82) 83 b83), (zuf fi 64 34 c64_34), (m1, m2, m3, m4, m5)) o
  refine zT_seg t7_md_turnOf ?_
  obtain ⟨TT, hTT⟩ : ∃ T, T = zT X zFT (zEx 202 S_md_takesThings (zEx 203 S_md_goesOver (zEx 201 S_md_draws (zEx 200 S_md_feels (zEx 183 S_md_holdsAny zE0))))) zc_204 o := ⟨_, rfl⟩
  rw [← hTT]
  refine zb_el h (fun hb h => zU_t hTT hb ?_) (fun hb h => zU_f hTT hb ?_)
  · refine zg_el h (fun hg h => zU_ga hTT hg ?_)
    refine zg_el h (fun hg h => zU_g hTT hg ?_)
    refine zl_el h (fun h => zU_l hTT ?_)
    refine zl_el h (fun h => zU_l hTT ?_)
    refine zg_el h (fun hg h => zU_g hTT hg ?_)
    refine zl_el h (fun h => zU_l hTT ?_)
    refine zbd_el h (fun v6 hv h => zU_c hTT hv ?_)
    refine zb_el h (fun hb h => zU_t hTT hb ?_) (fun hb h => zU_f hTT hb ?_)
    · refine zg_el h (fun hg h => zU_ga hTT hg ?_)
      refine zg_el h (fun hg h => zU_ga hTT hg ?_)
      refine zg_el h (fun hg h => zU_ga hTT hg ?_)
      refine zb_el h (fun hb h => zU_t hTT hb ?_) (fun hb h => zU_f hTT hb ?_)
      · rw [hTT]
        have hz := zsi h hq
        refine (zO_mk ?_ ?_).trans hz
        · first | with_reducible rfl | exact hA0_md_turnOf _ _ _ _ _ _ _ _
        · first | with_reducible rfl | exact hF1_md_turnOf _ _
      · refine zg_el h (fun hg h => zU_ga hTT hg ?_)
        rw [hTT]
        have hz := zsi h hq
        refine (zO_mk ?_ ?_).trans hz
        · first | with_reducible rfl | exact hA2_md_turnOf _ _ _ _ _ _ _ _ _
        · first | with_reducible rfl | exact hF1_md_turnOf _ _
    · refine zg_el h (fun hg h => zU_ga hTT hg ?_)
      refine zg_el h (fun hg h => zU_ga hTT hg ?_)
      refine zb_el h (fun hb h => zU_t hTT hb ?_) (fun hb h => zU_f hTT hb ?_)
      · rw [hTT]
        have hz := zsi h hq
        refine (zO_mk ?_ ?_).trans hz
        · first | with_reducible rfl | exact hA0_md_turnOf _ _ _ _ _ _ _ _
        · first | with_reducible rfl | exact hF1_md_turnOf _ _
      · refine zg_el h (fun hg h => zU_ga hTT hg ?_)
        rw [hTT]
        have hz := zsi h hq
        refine (zO_mk ?_ ?_).trans hz
        · first | with_reducible rfl | exact hA2_md_turnOf _ _ _ _ _ _ _ _ _
        · first | with_reducible rfl | exact hF1_md_turnOf _ _
  · refine zbd_el h (fun v7 hv h => zU_c hTT hv ?_)
    rw [hTT]
    have hz := zsi h hq
    refine zR2_hp ?_ ?_ hz
    · first | with_reducible rfl | exact hA3_md_turnOf _ _ _ _ _ _ _
    · first | with_reducible rfl | exact hF1_md_turnOf _ _
set_option maxRecDepth 1000000 in
theorem t_md_turnOf {X : Nat × (Nat → Int32)} {ar fi : Nat → Nat → Int32} {m1 m2 m3 m4 m5 : Nat} {x : Int32} {A0_md_takesThings : Int32 → (Nat → Int32) → Int32 → Nat → Int32} {F0_md_takesThings : Int32 → (Nat → Int32) → Int32 → Int32} {Q_md_goesOver : Int32 → Int32 → (Nat → Int32) → (Nat → Int32) → (Nat → Int32) → (Nat → Int32) → (Nat → Int32) → (Nat → Int32) → (Nat → Int32) → (Nat → Int32) → (Nat → Int32) → Int32 → Option ((Nat → Int32) × (Nat → Int32) × (Nat → Int32))} {G_md_draws : (Nat → Int32) → Bool} {W_md_draws : (Nat → Int32) → Int32} {A0_md_draws : (Nat → Int32) → Nat → Int32} {G_md_feels : Int32 → Int32 → Int32 → Int32 → (Nat → Int32) → (Nat → Int32) → Bool} {A0_md_feels : Int32 → Int32 → Int32 → Int32 → (Nat → Int32) → (Nat → Int32) → Nat → Int32} {Q_md_holdsAny : Int32 → (Nat → Int32) → (Nat → Int32) → (Nat → Int32) → (Nat → Int32) → (Nat → Int32) → (Nat → Int32) → Int32 → Option (Int32 × (Nat → Int32))} : zseg X zFT (zEx 202 (P_md_takesThings A0_md_takesThings F0_md_takesThings) (zEx 203 (P_md_goesOver Q_md_goesOver) (zEx 201 (P_md_draws G_md_draws W_md_draws A0_md_draws) (zEx 200 (P_md_feels G_md_feels A0_md_feels) (zEx 183 (P_md_holdsAny Q_md_holdsAny) zE0))))) zc_204 (fun p => Nat.beq p 7) 400 0 [.ref 64, .int x] [] (ar, fi, (m1, m2, m3, m4, m5)) = (
  zl (A0_md_takesThings x (ar 65) (fi 64 34)) (fun v1 =>
  zl (F0_md_takesThings x (ar 65) (fi 64 34)) (fun v2 =>
  some (.inl (7, [.ref 64, .int x, .int 0], [], ((zua ar 65 v1), (zuf fi 64 34 v2), (m1, m2, m3, m4, m5)))))) : Option ((Nat × List Value × List Value × zH2) ⊕ zO2)) := by with_unfolding_all rfl
set_option maxRecDepth 20000 in
theorem e_md_turnOf {X : Nat × (Nat → Int32)} {ar fi : Nat → Nat → Int32} {m1 m2 m3 m4 m5 : Nat} {x : Int32} {o : zO2} : ∀ (q : T_md_turnOf), q_md_turnOf x (ar 65) (ar 68) (ar 77) (ar 78) (ar 79) (ar 80) (ar 81) (ar 82) (ar 83) (fi 64 15) (fi 64 34) = some q → (fun t => O_md_turnOf ar fi m1 m2 m3 m4 m5 t = o) q → zR2 X zFT (zEx 202 S_md_takesThings (zEx 203 S_md_goesOver (zEx 201 S_md_draws (zEx 200 S_md_feels (zEx 183 S_md_holdsAny zE0))))) zc_204 0 [.ref 64, .int x] [] (ar, fi, (m1, m2, m3, m4, m5)) o := by
  intro q h hq
  unfold q_md_turnOf at h
  refine zT_seg t_md_turnOf ?_
  obtain ⟨TT, hTT⟩ : ∃ T, T = zT X zFT (zEx 202 S_md_takesThings (zEx 203 S_md_goesOver (zEx 201 S_md_draws (zEx 200 S_md_feels (zEx 183 S_md_holdsAny zE0))))) zc_204 o := ⟨_, rfl⟩
  rw [← hTT]
  refine zl_el h (fun h => zU_l hTT ?_)
  refine zl_el h (fun h => zU_l hTT ?_)
  rw [hTT]
  refine zR2_hp ?_ ?_ (zlp_K k_md_turnOf_7 h hq)
  · first | with_reducible rfl | exact hA4_md_turnOf _ _
  · first | with_reducible rfl | exact hF1_md_turnOf _ _
theorem ok_md_turnOf (X : Nat × (Nat → Int32)) : zOkS X 204 S_md_turnOf 7 := zOkS_new (zOkE_cons (ok_md_takesThings X) (by decide) (zOkE_cons (ok_md_goesOver X) (by decide) (zOkE_cons (ok_md_draws X) (by decide) (zOkE_cons (ok_md_feels X) (by decide) (zOkE_cons (ok_md_holdsAny X) (by decide) (zOkE_nil X 6)))))) (by
  intro args g o h
  obtain ⟨ar, fi, m1, m2, m3, m4, m5⟩ := g
  unfold S_md_turnOf P_md_turnOf at h
  split at h
  · refine zb_el h (fun hI0 k0 => ?_) (fun _ h10 => ?_)
    · try simp only [Bool.and_eq_true] at hI0
      have j0 := hI0
      have e0 := Nat.eq_of_beq_eq_true j0
      subst e0
      exact zpe_el k0 (fun t ht ho => by obtain ⟨t0, t1, t2, t3⟩ := t; exact e_md_turnOf _ ht ho)
    · cases h10
  · cases h)
