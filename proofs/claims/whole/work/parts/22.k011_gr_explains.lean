abbrev T_gr_explains : Type := Int32 × (Nat → Int32) × (Nat → Int32) × Int32 × Int32
abbrev U_gr_explains_20 : Type := Int32
def b_gr_explains_20 (z : Int32) (a3 : Nat → Int32) (a4 : Nat → Int32) (b53 : Nat → Int32) (b54 : Nat → Int32) (c52_1 : Int32) (c52_3 : Int32) (l4 : Int32) : Option (U_gr_explains_20 ⊕ T_gr_explains) :=
  bif decide (96 ≤ l4) then
   some (.inr (1, b53, b54, c52_1, c52_3))
  else
   zg (zin l4 96) (
   bif decide (b53 (l4.toNatClampNeg) < 0) then
    zg (g_sc_isWoodOnFire l4 a3 a4) (
    zl (w_sc_isWoodOnFire l4 a3 a4) (fun v8 =>
    bif decide (0 = v8) then
     some (.inl (l4 + 1))
    else
     some (.inr (0, b53, b54, c52_1, c52_3))))
   else
    zg (zin l4 96) (
    bif decide (z < b53 (l4.toNatClampNeg)) then
     zg (g_sc_isWoodOnFire l4 a3 a4) (
     zl (w_sc_isWoodOnFire l4 a3 a4) (fun v9 =>
     bif decide (0 = v9) then
      some (.inl (l4 + 1))
     else
      some (.inr (0, b53, b54, c52_1, c52_3))))
    else
     zg (g_sc_isWoodOnFire l4 a3 a4) (
     zl (w_sc_isWoodOnFire l4 a3 a4) (fun v10 =>
     bif decide (1 = v10) then
      some (.inl (l4 + 1))
     else
      some (.inr (0, b53, b54, c52_1, c52_3))))))
def f_gr_explains_20 (z : Int32) (a3 : Nat → Int32) (a4 : Nat → Int32) (b53 : Nat → Int32) (b54 : Nat → Int32) (c52_1 : Int32) (c52_3 : Int32) : U_gr_explains_20 → Option (U_gr_explains_20 ⊕ T_gr_explains) := fun s => b_gr_explains_20 z a3 a4 b53 b54 c52_1 c52_3 s
noncomputable def l_gr_explains_20 (z : Int32) (a3 : Nat → Int32) (a4 : Nat → Int32) (b53 : Nat → Int32) (b54 : Nat → Int32) (c52_1 : Int32) (c52_3 : Int32) (l4 : Int32) : Option T_gr_explains := zlp (f_gr_explains_20 z a3 a4 b53 b54 c52_1 c52_3) l4
noncomputable def q_gr_explains (y : Int32) (z : Int32) (a3 : Nat → Int32) (a4 : Nat → Int32) (a53 : Nat → Int32) (a54 : Nat → Int32) : Option T_gr_explains :=
  zl (a0_gr_clear a53) (fun v1 =>
  zl (f0_gr_clear a53) (fun v2 =>
  zl (f1_gr_clear a53) (fun v3 =>
  zg (g_gr_light y v1 v2 a54) (
  zl (a0_gr_light y v1 v2 a54) (fun v4 =>
  zl (a1_gr_light y v1 v2 a54) (fun v5 =>
  zl (f0_gr_light y v1 v2 a54) (fun v6 =>
  zbd (q_gr_goOver a3 v4 v5 v6 v3) (fun v7 =>
  l_gr_explains_20 z a3 a4 ((v7.1)) ((v7.2.1)) ((v7.2.2.1)) ((v7.2.2.2)) 0))))))))
def P_gr_explains (Q : Int32 → Int32 → (Nat → Int32) → (Nat → Int32) → (Nat → Int32) → (Nat → Int32) → Option (Int32 × (Nat → Int32) × (Nat → Int32) × Int32 × Int32)) : zSp := fun as g => match as with
  | [.ref a, .ref b, .int y, .int z] => bif Nat.beq a 52 && Nat.beq b 2 then zpe (Q y z (g.1 3) (g.1 4) (g.1 53) (g.1 54)) (fun t => (some (.int (t.1)), ((zua (zua g.1 53 t.2.1) 54 t.2.2.1), (zuf (zuf g.2.1 52 1 t.2.2.2.1) 52 3 t.2.2.2.2), g.2.2))) else none
  | _ => none
noncomputable abbrev S_gr_explains : zSp := P_gr_explains q_gr_explains
theorem hF3_gr_explains (F : Nat → Nat → Int32) (w0 w1 w2 w3 w4 : Int32) : (zuf (zuf (zuf (zuf (zuf F 52 1 w0) 52 3 w1) 52 1 w2) 52 1 w3) 52 3 w4) = (zuf (zuf F 52 1 w3) 52 3 w4) := zufk_ix F [((52, 1), w0), ((52, 3), w1), ((52, 1), w2), ((52, 1), w3), ((52, 3), w4)] [((52, 1), some 3), ((52, 3), some 4)] rfl
theorem hA2_gr_explains (F : Nat → Nat → Int32) (w0 w1 w2 w3 w4 : Nat → Int32) : (zua (zua (zua (zua (zua F 53 w0) 53 w1) 54 w2) 53 w3) 54 w4) = (zua (zua F 53 w3) 54 w4) := zuak_ix F [(53, w0), (53, w1), (54, w2), (53, w3), (54, w4)] [(53, some 3), (54, some 4)] rfl
theorem hF1_gr_explains (F : Nat → Nat → Int32) (w0 w1 : Int32) : (zuf (zuf F 52 1 w0) 52 3 w1) = (zuf (zuf F 52 1 w0) 52 3 w1) := zufk_ix F [((52, 1), w0), ((52, 3), w1)] [((52, 1), some 0), ((52, 3), some 1)] rfl
theorem hA0_gr_explains (F : Nat → Nat → Int32) (w0 w1 : Nat → Int32) : (zua (zua F 53 w0) 54 w1) = (zua (zua F 53 w0) 54 w1) := zuak_ix F [(53, w0), (54, w1)] [(53, some 0), (54, some 1)] rfl
def O_gr_explains (ar fi : Nat → Nat → Int32) (m1 : Nat) (m2 : Nat) (m3 : Nat) (m4 : Nat) (m5 : Nat) (t : T_gr_explains) : zO2 := match t with
  | (t0, t1, t2, t3, t4) => (some (.int (t0)), ((zua (zua ar 53 t1) 54 t2), (zuf (zuf fi 52 1 t3) 52 3 t4), (m1, m2, m3, m4, m5)))
def M_gr_explains_20 (X : Nat × (Nat → Int32)) (E : zTE) (ar fi : Nat → Nat → Int32) (m1 : Nat) (m2 : Nat) (m3 : Nat) (m4 : Nat) (m5 : Nat) (y : Int32) (z : Int32) (b53 : Nat → Int32) (b54 : Nat → Int32) (c52_1 : Int32) (c52_3 : Int32) (o : zO2) (s : U_gr_explains_20) : Prop := zR2 X zFT E zc_31 20 [.ref 52, .ref 2, .int y, .int z, .int s] [] ((zua (zua ar 53 b53) 54 b54), (zuf (zuf fi 52 1 c52_1) 52 3 c52_3), (m1, m2, m3, m4, m5)) o
set_option maxRecDepth 1000000 in
theorem t20_gr_explains {X : Nat × (Nat → Int32)} {ar fi : Nat → Nat → Int32} {m1 m2 m3 m4 m5 : Nat} {y z : Int32} {l4 : Int32} {b53 : Nat → Int32} {b54 : Nat → Int32} {c52_1 : Int32} {c52_3 : Int32} {A0_gr_clear : (Nat → Int32) → Nat → Int32} {F0_gr_clear : (Nat → Int32) → Int32} {F1_gr_clear : (Nat → Int32) → Int32} {G_gr_light : Int32 → (Nat → Int32) → Int32 → (Nat → Int32) → Bool} {A0_gr_light : Int32 → (Nat → Int32) → Int32 → (Nat → Int32) → Nat → Int32} {A1_gr_light : Int32 → (Nat → Int32) → Int32 → (Nat → Int32) → Nat → Int32} {F0_gr_light : Int32 → (Nat → Int32) → Int32 → (Nat → Int32) → Int32} {Q_gr_goOver : (Nat → Int32) → (Nat → Int32) → (Nat → Int32) → Int32 → Int32 → Option ((Nat → Int32) × (Nat → Int32) × Int32 × Int32)} {G_sc_isWoodOnFire : Int32 → (Nat → Int32) → (Nat → Int32) → Bool} {W_sc_isWoodOnFire : Int32 → (Nat → Int32) → (Nat → Int32) → Int32} : zseg X zFT (zEx 26 (P_gr_clear A0_gr_clear F0_gr_clear F1_gr_clear) (zEx 27 (P_gr_light G_gr_light A0_gr_light A1_gr_light F0_gr_light) (zEx 29 (P_gr_goOver Q_gr_goOver) (zEx 74 (P_sc_isWoodOnFire G_sc_isWoodOnFire W_sc_isWoodOnFire) zE0)))) zc_31 (fun p => Nat.beq p 20) 400 20 [.ref 52, .ref 2, .int y, .int z, .int l4] [] ((zua (zua ar 53 b53) 54 b54), (zuf (zuf fi 52 1 c52_1) 52 3 c52_3), (m1, m2, m3, m4, m5)) = (
  bif decide (96 ≤ l4) then
   some (.inr (some (.int 1), ((zua (zua ar 53 b53) 54 b54), (zuf (zuf fi 52 1 c52_1) 52 3 c52_3), (m1, m2, m3, m4, m5))))
  else
   zg (Nat.beq 16 16 && (zin l4 96)) (
   bif decide (b53 (l4.toNatClampNeg) < 0) then
    zg (G_sc_isWoodOnFire l4 (ar 3) (ar 4)) (
    zl (W_sc_isWoodOnFire l4 (ar 3) (ar 4)) (fun v8 =>
    bif decide (0 = v8) then
     some (.inl (20, [.ref 52, .ref 2, .int y, .int z, .int (l4 + 1)], [], ((zua (zua ar 53 b53) 54 b54), (zuf (zuf fi 52 1 c52_1) 52 3 c52_3), (m1, m2, m3, m4, m5))))
    else
     some (.inr (some (.int 0), ((zua (zua ar 53 b53) 54 b54), (zuf (zuf fi 52 1 c52_1) 52 3 c52_3), (m1, m2, m3, m4, m5))))))
   else
    zg (Nat.beq 16 16 && (zin l4 96)) (
    bif decide (z < b53 (l4.toNatClampNeg)) then
     zg (G_sc_isWoodOnFire l4 (ar 3) (ar 4)) (
     zl (W_sc_isWoodOnFire l4 (ar 3) (ar 4)) (fun v9 =>
     bif decide (0 = v9) then
      some (.inl (20, [.ref 52, .ref 2, .int y, .int z, .int (l4 + 1)], [], ((zua (zua ar 53 b53) 54 b54), (zuf (zuf fi 52 1 c52_1) 52 3 c52_3), (m1, m2, m3, m4, m5))))
     else
      some (.inr (some (.int 0), ((zua (zua ar 53 b53) 54 b54), (zuf (zuf fi 52 1 c52_1) 52 3 c52_3), (m1, m2, m3, m4, m5))))))
    else
     zg (G_sc_isWoodOnFire l4 (ar 3) (ar 4)) (
     zl (W_sc_isWoodOnFire l4 (ar 3) (ar 4)) (fun v10 =>
     bif decide (1 = v10) then
      some (.inl (20, [.ref 52, .ref 2, .int y, .int z, .int (l4 + 1)], [], ((zua (zua ar 53 b53) 54 b54), (zuf (zuf fi 52 1 c52_1) 52 3 c52_3), (m1, m2, m3, m4, m5))))
     else
      some (.inr (some (.int 0), ((zua (zua ar 53 b53) 54 b54), (zuf (zuf fi 52 1 c52_1) 52 3 c52_3), (m1, m2, m3, m4, m5)))))))) : Option ((Nat × List Value × List Value × zH2) ⊕ zO2)) := by with_unfolding_all rfl
set_option maxRecDepth 20000 in
theorem k_gr_explains_20 {X : Nat × (Nat → Int32)} {ar fi : Nat → Nat → Int32} {m1 m2 m3 m4 m5 : Nat} {y z : Int32} {b53 : Nat → Int32} {b54 : Nat → Int32} {c52_1 : Int32} {c52_3 : Int32} {o : zO2} : ∀ (s : U_gr_explains_20) (q : U_gr_explains_20 ⊕ T_gr_explains), f_gr_explains_20 z (ar 3) (ar 4) b53 b54 c52_1 c52_3 s = some q → zq (M_gr_explains_20 X (zEx 26 S_gr_clear (zEx 27 S_gr_light (zEx 29 S_gr_goOver (zEx 74 S_sc_isWoodOnFire zE0)))) ar fi m1 m2 m3 m4 m5 y z b53 b54 c52_1 c52_3 o) (fun t => O_gr_explains ar fi m1 m2 m3 m4 m5 t = o) q → M_gr_explains_20 X (zEx 26 S_gr_clear (zEx 27 S_gr_light (zEx 29 S_gr_goOver (zEx 74 S_sc_isWoodOnFire zE0)))) ar fi m1 m2 m3 m4 m5 y z b53 b54 c52_1 c52_3 o s := by
  intro l4 q h hq
  have h : b_gr_explains_20 z (ar 3) (ar 4) b53 b54 c52_1 c52_3 l4 = some q := h
  unfold b_gr_explains_20 at h
  show zR2 X zFT (zEx 26 S_gr_clear (zEx 27 S_gr_light (zEx 29 S_gr_goOver (zEx 74 S_sc_isWoodOnFire zE0)))) zc_31 20 [.ref 52, .ref 2, .int y, .int z, .int l4] [] ((zua (zua ar 53 b53) 54 b54), (zuf (zuf fi 52 1 c52_1) 52 3 c52_3), (m1, m2, m3, m4, m5)) o
  refine zT_seg t20_gr_explains ?_
  obtain ⟨TT, hTT⟩ : ∃ T, T = zT X zFT (zEx 26 S_gr_clear (zEx 27 S_gr_light (zEx 29 S_gr_goOver (zEx 74 S_sc_isWoodOnFire zE0)))) zc_31 o := ⟨_, rfl⟩
  rw [← hTT]
  refine zb_el h (fun hb h => zU_t hTT hb ?_) (fun hb h => zU_f hTT hb ?_)
  · rw [hTT]
    have hz := zsi h hq
    refine (zO_mk ?_ ?_).trans hz
    · first | with_reducible rfl | exact hA0_gr_explains _ _ _
    · first | with_reducible rfl | exact hF1_gr_explains _ _ _
  · refine zg_el h (fun hg h => zU_ga hTT hg ?_)
    refine zb_el h (fun hb h => zU_t hTT hb ?_) (fun hb h => zU_f hTT hb ?_)
    · refine zg_el h (fun hg h => zU_g hTT hg ?_)
      refine zl_el h (fun h => zU_l hTT ?_)
      refine zb_el h (fun hb h => zU_t hTT hb ?_) (fun hb h => zU_f hTT hb ?_)
      · rw [hTT]
        have hz := zsi h hq
        refine zR2_hp ?_ ?_ hz
        · first | with_reducible rfl | exact hA0_gr_explains _ _ _
        · first | with_reducible rfl | exact hF1_gr_explains _ _ _
      · rw [hTT]
        have hz := zsi h hq
        refine (zO_mk ?_ ?_).trans hz
        · first | with_reducible rfl | exact hA0_gr_explains _ _ _
        · first | with_reducible rfl | exact hF1_gr_explains _ _ _
    · refine zg_el h (fun hg h => zU_ga hTT hg ?_)
      refine zb_el h (fun hb h => zU_t hTT hb ?_) (fun hb h => zU_f hTT hb ?_)
      · refine zg_el h (fun hg h => zU_g hTT hg ?_)
        refine zl_el h (fun h => zU_l hTT ?_)
        refine zb_el h (fun hb h => zU_t hTT hb ?_) (fun hb h => zU_f hTT hb ?_)
        · rw [hTT]
          have hz := zsi h hq
          refine zR2_hp ?_ ?_ hz
          · first | with_reducible rfl | exact hA0_gr_explains _ _ _
          · first | with_reducible rfl | exact hF1_gr_explains _ _ _
        · rw [hTT]
          have hz := zsi h hq
          refine (zO_mk ?_ ?_).trans hz
          · first | with_reducible rfl | exact hA0_gr_explains _ _ _
          · first | with_reducible rfl | exact hF1_gr_explains _ _ _
      · refine zg_el h (fun hg h => zU_g hTT hg ?_)
        refine zl_el h (fun h => zU_l hTT ?_)
        refine zb_el h (fun hb h => zU_t hTT hb ?_) (fun hb h => zU_f hTT hb ?_)
        · rw [hTT]
          have hz := zsi h hq
          refine zR2_hp ?_ ?_ hz
          · first | with_reducible rfl | exact hA0_gr_explains _ _ _
          · first | with_reducible rfl | exact hF1_gr_explains _ _ _
        · rw [hTT]
          have hz := zsi h hq
          refine (zO_mk ?_ ?_).trans hz
          · first | with_reducible rfl | exact hA0_gr_explains _ _ _
          · first | with_reducible rfl | exact hF1_gr_explains _ _ _
set_option maxRecDepth 1000000 in
theorem t_gr_explains {X : Nat × (Nat → Int32)} {ar fi : Nat → Nat → Int32} {m1 m2 m3 m4 m5 : Nat} {y z : Int32} {A0_gr_clear : (Nat → Int32) → Nat → Int32} {F0_gr_clear : (Nat → Int32) → Int32} {F1_gr_clear : (Nat → Int32) → Int32} {G_gr_light : Int32 → (Nat → Int32) → Int32 → (Nat → Int32) → Bool} {A0_gr_light : Int32 → (Nat → Int32) → Int32 → (Nat → Int32) → Nat → Int32} {A1_gr_light : Int32 → (Nat → Int32) → Int32 → (Nat → Int32) → Nat → Int32} {F0_gr_light : Int32 → (Nat → Int32) → Int32 → (Nat → Int32) → Int32} {Q_gr_goOver : (Nat → Int32) → (Nat → Int32) → (Nat → Int32) → Int32 → Int32 → Option ((Nat → Int32) × (Nat → Int32) × Int32 × Int32)} {G_sc_isWoodOnFire : Int32 → (Nat → Int32) → (Nat → Int32) → Bool} {W_sc_isWoodOnFire : Int32 → (Nat → Int32) → (Nat → Int32) → Int32} : zseg X zFT (zEx 26 (P_gr_clear A0_gr_clear F0_gr_clear F1_gr_clear) (zEx 27 (P_gr_light G_gr_light A0_gr_light A1_gr_light F0_gr_light) (zEx 29 (P_gr_goOver Q_gr_goOver) (zEx 74 (P_sc_isWoodOnFire G_sc_isWoodOnFire W_sc_isWoodOnFire) zE0)))) zc_31 (fun p => Nat.beq p 20) 400 0 [.ref 52, .ref 2, .int y, .int z] [] (ar, fi, (m1, m2, m3, m4, m5)) = (
  zl (A0_gr_clear (ar 53)) (fun v1 =>
  zl (F0_gr_clear (ar 53)) (fun v2 =>
  zl (F1_gr_clear (ar 53)) (fun v3 =>
  zg (G_gr_light y v1 v2 (ar 54)) (
  zl (A0_gr_light y v1 v2 (ar 54)) (fun v4 =>
  zl (A1_gr_light y v1 v2 (ar 54)) (fun v5 =>
  zl (F0_gr_light y v1 v2 (ar 54)) (fun v6 =>
  zl (Q_gr_goOver (ar 3) v4 v5 v6 v3) (fun v7 => zg v7.isSome (
  some (.inl (20, [.ref 52, .ref 2, .int y, .int z, .int 0], [], ((zua (zua (zua (zua (zua ar 53 v1) 53 v4) 54 v5) 53 (((zgt v7).1))) 54 (((zgt v7).2.1))), (zuf (zuf (zuf (zuf (zuf fi 52 1 v2) 52 3 v3) 52 1 v6) 52 1 (((zgt v7).2.2.1))) 52 3 (((zgt v7).2.2.2))), (m1, m2, m3, m4, m5))))))))))))) : Option ((Nat × List Value × List Value × zH2) ⊕ zO2)) := by with_unfolding_all rfl
set_option maxRecDepth 20000 in
theorem e_gr_explains {X : Nat × (Nat → Int32)} {ar fi : Nat → Nat → Int32} {m1 m2 m3 m4 m5 : Nat} {y z : Int32} {o : zO2} : ∀ (q : T_gr_explains), q_gr_explains y z (ar 3) (ar 4) (ar 53) (ar 54) = some q → (fun t => O_gr_explains ar fi m1 m2 m3 m4 m5 t = o) q → zR2 X zFT (zEx 26 S_gr_clear (zEx 27 S_gr_light (zEx 29 S_gr_goOver (zEx 74 S_sc_isWoodOnFire zE0)))) zc_31 0 [.ref 52, .ref 2, .int y, .int z] [] (ar, fi, (m1, m2, m3, m4, m5)) o := by
  intro q h hq
  unfold q_gr_explains at h
  refine zT_seg t_gr_explains ?_
  obtain ⟨TT, hTT⟩ : ∃ T, T = zT X zFT (zEx 26 S_gr_clear (zEx 27 S_gr_light (zEx 29 S_gr_goOver (zEx 74 S_sc_isWoodOnFire zE0)))) zc_31 o := ⟨_, rfl⟩
  rw [← hTT]
  refine zl_el h (fun h => zU_l hTT ?_)
  refine zl_el h (fun h => zU_l hTT ?_)
  refine zl_el h (fun h => zU_l hTT ?_)
  refine zg_el h (fun hg h => zU_g hTT hg ?_)
  refine zl_el h (fun h => zU_l hTT ?_)
  refine zl_el h (fun h => zU_l hTT ?_)
  refine zl_el h (fun h => zU_l hTT ?_)
  refine zbd_el h (fun v7 hv h => zU_c hTT hv ?_)
  rw [hTT]
  refine zR2_hp ?_ ?_ (zlp_K k_gr_explains_20 h hq)
  · first | with_reducible rfl | exact hA2_gr_explains _ _ _ _ _ _
  · first | with_reducible rfl | exact hF3_gr_explains _ _ _ _ _ _
theorem ok_gr_explains (X : Nat × (Nat → Int32)) : zOkS X 31 S_gr_explains 3 := zOkS_new (zOkE_cons (ok_gr_clear X) (by decide) (zOkE_cons (ok_gr_light X) (by decide) (zOkE_cons (ok_gr_goOver X) (by decide) (zOkE_cons (ok_sc_isWoodOnFire X) (by decide) (zOkE_nil X 2))))) (by
  intro args g o h
  obtain ⟨ar, fi, m1, m2, m3, m4, m5⟩ := g
  unfold S_gr_explains P_gr_explains at h
  split at h
  · refine zb_el h (fun hI0 k0 => ?_) (fun _ h10 => ?_)
    · try simp only [Bool.and_eq_true] at hI0
      obtain ⟨j0, j1⟩ := hI0
      have e0 := Nat.eq_of_beq_eq_true j0
      subst e0
      have e1 := Nat.eq_of_beq_eq_true j1
      subst e1
      exact zpe_el k0 (fun t ht ho => by obtain ⟨t0, t1, t2, t3, t4⟩ := t; exact e_gr_explains _ ht ho)
    · cases h10
  · cases h)
