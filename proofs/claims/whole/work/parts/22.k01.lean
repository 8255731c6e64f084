abbrev T_gr_burnFrom : Type := (Nat → Int32) × (Nat → Int32) × Int32 × Int32
abbrev U_gr_burnFrom_6 : Type := Int32 × (Nat → Int32) × (Nat → Int32) × Int32
noncomputable def b_gr_burnFrom_6 (a3 : Nat → Int32) (a4 : Nat → Int32) (c52_3 : Int32) (l2 : Int32) (b53 : Nat → Int32) (b54 : Nat → Int32) (c52_1 : Int32) : Option (U_gr_burnFrom_6 ⊕ T_gr_burnFrom) :=
  bif decide (96 ≤ l2) then
   zbd (q_gr_goOver a3 b53 b54 c52_1 c52_3) (fun v4 =>
   some (.inr (((v4.1)), ((v4.2.1)), (v4.2.2.1), (v4.2.2.2))))
  else
   zg (zin l2 96) (
   bif !decide (a4 (l2.toNatClampNeg) = 1) then
    some (.inl (l2 + 1, b53, b54, c52_1))
   else
    zg (g_gr_light l2 b53 c52_1 b54) (
    zl (a0_gr_light l2 b53 c52_1 b54) (fun v5 =>
    zl (a1_gr_light l2 b53 c52_1 b54) (fun v6 =>
    zl (f0_gr_light l2 b53 c52_1 b54) (fun v7 =>
    some (.inl (l2 + 1, v5, v6, v7)))))))
noncomputable def f_gr_burnFrom_6 (a3 : Nat → Int32) (a4 : Nat → Int32) (c52_3 : Int32) : U_gr_burnFrom_6 → Option (U_gr_burnFrom_6 ⊕ T_gr_burnFrom) := fun s => b_gr_burnFrom_6 a3 a4 c52_3 s.1 s.2.1 s.2.2.1 s.2.2.2
noncomputable def l_gr_burnFrom_6 (a3 : Nat → Int32) (a4 : Nat → Int32) (c52_3 : Int32) (l2 : Int32) (b53 : Nat → Int32) (b54 : Nat → Int32) (c52_1 : Int32) : Option T_gr_burnFrom := zlp (f_gr_burnFrom_6 a3 a4 c52_3) (l2, b53, b54, c52_1)
noncomputable def q_gr_burnFrom (a3 : Nat → Int32) (a4 : Nat → Int32) (a53 : Nat → Int32) (a54 : Nat → Int32) : Option T_gr_burnFrom :=
  zl (a0_gr_clear a53) (fun v1 =>
  zl (f0_gr_clear a53) (fun v2 =>
  zl (f1_gr_clear a53) (fun v3 =>
  l_gr_burnFrom_6 a3 a4 v3 0 v1 a54 v2)))
def P_gr_burnFrom (Q : (Nat → Int32) → (Nat → Int32) → (Nat → Int32) → (Nat → Int32) → Option ((Nat → Int32) × (Nat → Int32) × Int32 × Int32)) : zSp := fun as g => match as with
  | [.ref a, .ref b] => bif Nat.beq a 52 && Nat.beq b 2 then zpe (Q (g.1 3) (g.1 4) (g.1 53) (g.1 54)) (fun t => (none, ((zua (zua g.1 53 t.1) 54 t.2.1), (zuf (zuf g.2.1 52 1 t.2.2.1) 52 3 t.2.2.2), g.2.2))) else none
  | _ => none
noncomputable abbrev S_gr_burnFrom : zSp := P_gr_burnFrom q_gr_burnFrom
def O_gr_burnFrom (ar fi : Nat → Nat → Int32) (m1 : Nat) (m2 : Nat) (m3 : Nat) (m4 : Nat) (m5 : Nat) (t : T_gr_burnFrom) : zO2 := (none, ((zua (zua ar 53 t.1) 54 t.2.1), (zuf (zuf fi 52 1 t.2.2.1) 52 3 t.2.2.2), (m1, m2, m3, m4, m5)))
def M_gr_burnFrom_6 (X : Nat × (Nat → Int32)) (E : zTE) (ar fi : Nat → Nat → Int32) (m1 : Nat) (m2 : Nat) (m3 : Nat) (m4 : Nat) (m5 : Nat) (c52_3 : Int32) (o : zO2) (s : U_gr_burnFrom_6) : Prop := zR2 X zFT E zc_30 6 [.ref 52, .ref 2, .int s.1] [] ((zua (zua ar 53 s.2.1) 54 s.2.2.1), (zuf (zuf fi 52 1 s.2.2.2) 52 3 c52_3), (m1, m2, m3, m4, m5)) o
set_option maxRecDepth 20000 in
theorem t6_gr_burnFrom {X : Nat × (Nat → Int32)} {ar fi : Nat → Nat → Int32} {m1 m2 m3 m4 m5 : Nat} {l2 : Int32} {b53 : Nat → Int32} {b54 : Nat → Int32} {c52_1 : Int32} {c52_3 : Int32} {A0_gr_clear : (Nat → Int32) → Nat → Int32} {F0_gr_clear : (Nat → Int32) → Int32} {F1_gr_clear : (Nat → Int32) → Int32} {G_gr_light : Int32 → (Nat → Int32) → Int32 → (Nat → Int32) → Bool} {A0_gr_light : Int32 → (Nat → Int32) → Int32 → (Nat → Int32) → Nat → Int32} {A1_gr_light : Int32 → (Nat → Int32) → Int32 → (Nat → Int32) → Nat → Int32} {F0_gr_light : Int32 → (Nat → Int32) → Int32 → (Nat → Int32) → Int32} {Q_gr_goOver : (Nat → Int32) → (Nat → Int32) → (Nat → Int32) → Int32 → Int32 → Option ((Nat → Int32) × (Nat → Int32) × Int32 × Int32)} : zseg X zFT (zEx 26 (P_gr_clear A0_gr_clear F0_gr_clear F1_gr_clear) (zEx 27 (P_gr_light G_gr_light A0_gr_light A1_gr_light F0_gr_light) (zEx 29 (P_gr_goOver Q_gr_goOver) zE0))) zc_30 (fun p => Nat.beq p 6) 400 6 [.ref 52, .ref 2, .int l2] [] ((zua (zua ar 53 b53) 54 b54), (zuf (zuf fi 52 1 c52_1) 52 3 c52_3), (m1, m2, m3, m4, m5)) = (
  bif decide (96 ≤ l2) then
   zl (Q_gr_goOver (ar 3) b53 b54 c52_1 c52_3) (fun v4 => zg v4.isSome (
   some (.inr (none, ((zua (zua (zua (zua ar 53 b53) 54 b54) 53 (((zgt v4).1))) 54 (((zgt v4).2.1))), (zuf (zuf (zuf (zuf fi 52 1 c52_1) 52 3 c52_3) 52 1 (((zgt v4).2.2.1))) 52 3 (((zgt v4).2.2.2))), (m1, m2, m3, m4, m5))))))
  else
   zg (zin l2 96) (
   bif !decide ((ar 4) (l2.toNatClampNeg) = 1) then
    some (.inl (6, [.ref 52, .ref 2, .int (l2 + 1)], [], ((zua (zua ar 53 b53) 54 b54), (zuf (zuf fi 52 1 c52_1) 52 3 c52_3), (m1, m2, m3, m4, m5))))
   else
    zg (G_gr_light l2 b53 c52_1 b54) (
    zl (A0_gr_light l2 b53 c52_1 b54) (fun v5 =>
    zl (A1_gr_light l2 b53 c52_1 b54) (fun v6 =>
    zl (F0_gr_light l2 b53 c52_1 b54) (fun v7 =>
    some (.inl (6, [.ref 52, .ref 2, .int (l2 + 1)], [], ((zua (zua (zua (zua ar 53 b53) 54 b54) 53 v5) 54 v6), (zuf (zuf (zuf fi 52 1 c52_1) 52 3 c52_3) 52 1 v7), (m1, m2, m3, m4, m5))))))))) : Option ((Nat × List Value × List Value × zH2) ⊕ zO2)) := rfl
theorem k_gr_burnFrom_6 {X : Nat × (Nat → Int32)} {ar fi : Nat → Nat → Int32} {m1 m2 m3 m4 m5 : Nat} {c52_3 : Int32} {o : zO2} : ∀ (s : U_gr_burnFrom_6) (q : U_gr_burnFrom_6 ⊕ T_gr_burnFrom), f_gr_burnFrom_6 (ar 3) (ar 4) c52_3 s = some q → zq (M_gr_burnFrom_6 X (zEx 26 S_gr_clear (zEx 27 S_gr_light (zEx 29 S_gr_goOver zE0))) ar fi m1 m2 m3 m4 m5 c52_3 o) (fun t => O_gr_burnFrom ar fi m1 m2 m3 m4 m5 t = o) q → M_gr_burnFrom_6 X (zEx 26 S_gr_clear (zEx 27 S_gr_light (zEx 29 S_gr_goOver zE0))) ar fi m1 m2 m3 m4 m5 c52_3 o s := by
  intro s q h hq
  obtain ⟨l2, b53, b54, c52_1⟩ := s
  have h : b_gr_burnFrom_6 (ar 3) (ar 4) c52_3 l2 b53 b54 c52_1 = some q := h
  unfold b_gr_burnFrom_6 at h
  show zR2 X zFT (zEx 26 S_gr_clear (zEx 27 S_gr_light (zEx 29 S_gr_goOver zE0))) zc_30 6 [.ref 52, .ref 2, .int l2] [] ((zua (zua ar 53 b53) 54 b54), (zuf (zuf fi 52 1 c52_1) 52 3 c52_3), (m1, m2, m3, m4, m5)) o
  refine zT_seg t6_gr_burnFrom ?_
  refine zb_el h (fun hb h => zT_t hb ?_) (fun hb h => zT_f hb ?_)
  · refine zbd_el h (fun v4 hv h => zT_c hv ?_)
    have hz := zsi h hq
    refine (zO_mk ?_ ?_).trans hz
    · first | with_reducible rfl | (exact zuas_eq _ [(53, _), (54, _), (53, _), (54, _)] [(53, _), (54, _)] [53, 54] rfl rfl ⟨rfl, rfl, trivial⟩)
    · first | with_reducible rfl | (exact zufs_eq _ [(52, 1, _), (52, 3, _), (52, 1, _), (52, 3, _)] [(52, 1, _), (52, 3, _)] [(52, 1), (52, 3)] rfl rfl ⟨rfl, rfl, trivial⟩)
  · refine zg_el h (fun hg h => zT_g hg ?_)
    refine zb_el h (fun hb h => zT_t hb ?_) (fun hb h => zT_f hb ?_)
    · have hz := zsi h hq
      refine zR2_hp ?_ ?_ hz
      · first | with_reducible rfl | (exact zuas_eq _ [(53, _), (54, _)] [(53, _), (54, _)] [53, 54] rfl rfl ⟨rfl, rfl, trivial⟩)
      · first | with_reducible rfl | (exact zufs_eq _ [(52, 1, _), (52, 3, _)] [(52, 1, _), (52, 3, _)] [(52, 1), (52, 3)] rfl rfl ⟨rfl, rfl, trivial⟩)
    · refine zg_el h (fun hg h => zT_g hg ?_)
      refine zl_el h (fun h => zT_l ?_)
      refine zl_el h (fun h => zT_l ?_)
      refine zl_el h (fun h => zT_l ?_)
      have hz := zsi h hq
      refine zR2_hp ?_ ?_ hz
      · first | with_reducible rfl | (exact zuas_eq _ [(53, _), (54, _), (53, _), (54, _)] [(53, _), (54, _)] [53, 54] rfl rfl ⟨rfl, rfl, trivial⟩)
      · first | with_reducible rfl | (exact zufs_eq _ [(52, 1, _), (52, 3, _), (52, 1, _)] [(52, 1, _), (52, 3, _)] [(52, 1), (52, 3)] rfl rfl ⟨rfl, rfl, trivial⟩)
set_option maxRecDepth 20000 in
theorem t_gr_burnFrom {X : Nat × (Nat → Int32)} {ar fi : Nat → Nat → Int32} {m1 m2 m3 m4 m5 : Nat} {A0_gr_clear : (Nat → Int32) → Nat → Int32} {F0_gr_clear : (Nat → Int32) → Int32} {F1_gr_clear : (Nat → Int32) → Int32} {G_gr_light : Int32 → (Nat → Int32) → Int32 → (Nat → Int32) → Bool} {A0_gr_light : Int32 → (Nat → Int32) → Int32 → (Nat → Int32) → Nat → Int32} {A1_gr_light : Int32 → (Nat → Int32) → Int32 → (Nat → Int32) → Nat → Int32} {F0_gr_light : Int32 → (Nat → Int32) → Int32 → (Nat → Int32) → Int32} {Q_gr_goOver : (Nat → Int32) → (Nat → Int32) → (Nat → Int32) → Int32 → Int32 → Option ((Nat → Int32) × (Nat → Int32) × Int32 × Int32)} : zseg X zFT (zEx 26 (P_gr_clear A0_gr_clear F0_gr_clear F1_gr_clear) (zEx 27 (P_gr_light G_gr_light A0_gr_light A1_gr_light F0_gr_light) (zEx 29 (P_gr_goOver Q_gr_goOver) zE0))) zc_30 (fun p => Nat.beq p 6) 400 0 [.ref 52, .ref 2] [] (ar, fi, (m1, m2, m3, m4, m5)) = (
  zl (A0_gr_clear (ar 53)) (fun v1 =>
  zl (F0_gr_clear (ar 53)) (fun v2 =>
  zl (F1_gr_clear (ar 53)) (fun v3 =>
  some (.inl (6, [.ref 52, .ref 2, .int 0], [], ((zua ar 53 v1), (zuf (zuf fi 52 1 v2) 52 3 v3), (m1, m2, m3, m4, m5))))))) : Option ((Nat × List Value × List Value × zH2) ⊕ zO2)) := rfl
theorem e_gr_burnFrom {X : Nat × (Nat → Int32)} {ar fi : Nat → Nat → Int32} {m1 m2 m3 m4 m5 : Nat} {o : zO2} : ∀ (q : T_gr_burnFrom), q_gr_burnFrom (ar 3) (ar 4) (ar 53) (ar 54) = some q → (fun t => O_gr_burnFrom ar fi m1 m2 m3 m4 m5 t = o) q → zR2 X zFT (zEx 26 S_gr_clear (zEx 27 S_gr_light (zEx 29 S_gr_goOver zE0))) zc_30 0 [.ref 52, .ref 2] [] (ar, fi, (m1, m2, m3, m4, m5)) o := by
  intro q h hq
  unfold q_gr_burnFrom at h
  refine zT_seg t_gr_burnFrom ?_
  refine zl_el h (fun h => zT_l ?_)
  refine zl_el h (fun h => zT_l ?_)
  refine zl_el h (fun h => zT_l ?_)
  refine zR2_hp ?_ ?_ (zlp_K k_gr_burnFrom_6 h hq)
  · first | with_reducible rfl | (exact zuas_eq _ [(53, _)] [(53, _), (54, _)] [53, 54] rfl rfl ⟨rfl, rfl, trivial⟩)
  · first | with_reducible rfl | (exact zufs_eq _ [(52, 1, _), (52, 3, _)] [(52, 1, _), (52, 3, _)] [(52, 1), (52, 3)] rfl rfl ⟨rfl, rfl, trivial⟩)
theorem ok_gr_burnFrom (X : Nat × (Nat → Int32)) : zOkS X 30 S_gr_burnFrom 3 := zOkS_new (zOkE_cons (ok_gr_clear X) (by decide) (zOkE_cons (ok_gr_light X) (by decide) (zOkE_cons (ok_gr_goOver X) (by decide) (zOkE_nil X 2)))) (by
  intro args g o h
  obtain ⟨ar, fi, m1, m2, m3, m4, m5⟩ := g
  unfold S_gr_burnFrom P_gr_burnFrom at h
  split at h
  · refine zb_el h (fun hI0 k0 => ?_) (fun _ h10 => ?_)
    · try simp only [Bool.and_eq_true] at hI0
      obtain ⟨j0, j1⟩ := hI0
      have e0 := Nat.eq_of_beq_eq_true j0
      subst e0
      have e1 := Nat.eq_of_beq_eq_true j1
      subst e1
      exact zpe_el k0 (fun t ht ho => e_gr_burnFrom t ht ho)
    · cases h10
  · cases h)
abbrev T_gr_explains : Type := Int32 × (Nat → Int32) × (Nat → Int32) × Int32 × Int32
abbrev U_gr_explains_20 : Type := Int32
def b_gr_explains_20 (z : Int32) (a3 : Nat → Int32) (a4 : Nat → Int32) (b53 : Nat → Int32) (b54 : Nat → Int32) (c52_1 : Int32) (c52_3 : Int32) (l4 : Int32) : Option (U_gr_explains_20 ⊕ T_gr_explains) :=
  bif decide (96 ≤ l4) then
   some (.inr (1, b53, b54, c52_1, c52_3))
  else
   zg (zin l4 96) (
   bif decide (b53 (l4.toNatClampNeg) < 0) then
    zg (g_sc_isWoodOnFire l4 a3 a4) (
    zl (w_sc_isWoodOnFire l4 a3 a4) (fun v8 =>
    bif decide (0 = v8) then
     some (.inl (l4 + 1))
    else
     some (.inr (0, b53, b54, c52_1, c52_3))))
   else
    zg (zin l4 96) (
    bif decide (z < b53 (l4.toNatClampNeg)) then
     zg (g_sc_isWoodOnFire l4 a3 a4) (
     zl (w_sc_isWoodOnFire l4 a3 a4) (fun v9 =>
     bif decide (0 = v9) then
      some (.inl (l4 + 1))
     else
      some (.inr (0, b53, b54, c52_1, c52_3))))
    else
     zg (g_sc_isWoodOnFire l4 a3 a4) (
     zl (w_sc_isWoodOnFire l4 a3 a4) (fun v10 =>
     bif decide (1 = v10) then
      some (.inl (l4 + 1))
     else
      some (.inr (0, b53, b54, c52_1, c52_3))))))
def f_gr_explains_20 (z : Int32) (a3 : Nat → Int32) (a4 : Nat → Int32) (b53 : Nat → Int32) (b54 : Nat → Int32) (c52_1 : Int32) (c52_3 : Int32) : U_gr_explains_20 → Option (U_gr_explains_20 ⊕ T_gr_explains) := fun s => b_gr_explains_20 z a3 a4 b53 b54 c52_1 c52_3 s
noncomputable def l_gr_explains_20 (z : Int32) (a3 : Nat → Int32) (a4 : Nat → Int32) (b53 : Nat → Int32) (b54 : Nat → Int32) (c52_1 : Int32) (c52_3 : Int32) (l4 : Int32) : Option T_gr_explains := zlp (f_gr_explains_20 z a3 a4 b53 b54 c52_1 c52_3) l4
noncomputable def q_gr_explains (y : Int32) (z : Int32) (a3 : Nat → Int32) (a4 : Nat → Int32) (a53 : Nat → Int32) (a54 : Nat → Int32) : Option T_gr_explains :=
  zl (a0_gr_clear a53) (fun v1 =>
  zl (f0_gr_clear a53) (fun v2 =>
  zl (f1_gr_clear a53) (fun v3 =>
  zg (g_gr_light y v1 v2 a54) (
  zl (a0_gr_light y v1 v2 a54) (fun v4 =>
  zl (a1_gr_light y v1 v2 a54) (fun v5 =>
  zl (f0_gr_light y v1 v2 a54) (fun v6 =>
  zbd (q_gr_goOver a3 v4 v5 v6 v3) (fun v7 =>
  l_gr_explains_20 z a3 a4 ((v7.1)) ((v7.2.1)) ((v7.2.2.1)) ((v7.2.2.2)) 0))))))))
def P_gr_explains (Q : Int32 → Int32 → (Nat → Int32) → (Nat → Int32) → (Nat → Int32) → (Nat → Int32) → Option (Int32 × (Nat → Int32) × (Nat → Int32) × Int32 × Int32)) : zSp := fun as g => match as with
  | [.ref a, .ref b, .int y, .int z] => bif Nat.beq a 52 && Nat.beq b 2 then zpe (Q y z (g.1 3) (g.1 4) (g.1 53) (g.1 54)) (fun t => (some (.int (t.1)), ((zua (zua g.1 53 t.2.1) 54 t.2.2.1), (zuf (zuf g.2.1 52 1 t.2.2.2.1) 52 3 t.2.2.2.2), g.2.2))) else none
  | _ => none
noncomputable abbrev S_gr_explains : zSp := P_gr_explains q_gr_explains
def O_gr_explains (ar fi : Nat → Nat → Int32) (m1 : Nat) (m2 : Nat) (m3 : Nat) (m4 : Nat) (m5 : Nat) (t : T_gr_explains) : zO2 := (some (.int (t.1)), ((zua (zua ar 53 t.2.1) 54 t.2.2.1), (zuf (zuf fi 52 1 t.2.2.2.1) 52 3 t.2.2.2.2), (m1, m2, m3, m4, m5)))
def M_gr_explains_20 (X : Nat × (Nat → Int32)) (E : zTE) (ar fi : Nat → Nat → Int32) (m1 : Nat) (m2 : Nat) (m3 : Nat) (m4 : Nat) (m5 : Nat) (y : Int32) (z : Int32) (b53 : Nat → Int32) (b54 : Nat → Int32) (c52_1 : Int32) (c52_3 : Int32) (o : zO2) (s : U_gr_explains_20) : Prop := zR2 X zFT E zc_31 20 [.ref 52, .ref 2, .int y, .int z, .int s] [] ((zua (zua ar 53 b53) 54 b54), (zuf (zuf fi 52 1 c52_1) 52 3 c52_3), (m1, m2, m3, m4, m5)) o
set_option maxRecDepth 20000 in
theorem t20_gr_explains {X : Nat × (Nat → Int32)} {ar fi : Nat → Nat → Int32} {m1 m2 m3 m4 m5 : Nat} {y z : Int32} {l4 : Int32} {b53 : Nat → Int32} {b54 : Nat → Int32} {c52_1 : Int32} {c52_3 : Int32} {A0_gr_clear : (Nat → Int32) → Nat → Int32} {F0_gr_clear : (Nat → Int32) → Int32} {F1_gr_clear : (Nat → Int32) → Int32} {G_gr_light : Int32 → (Nat → Int32) → Int32 → (Nat → Int32) → Bool} {A0_gr_light : Int32 → (Nat → Int32) → Int32 → (Nat → Int32) → Nat → Int32} {A1_gr_light : Int32 → (Nat → Int32) → Int32 → (Nat → Int32) → Nat → Int32} {F0_gr_light : Int32 → (Nat → Int32) → Int32 → (Nat → Int32) → Int32} {Q_gr_goOver : (Nat → Int32) → (Nat → Int32) → (Nat → Int32) → Int32 → Int32 → Option ((Nat → Int32) × (Nat → Int32) × Int32 × Int32)} {G_sc_isWoodOnFire : Int32 → (Nat → Int32) → (Nat → Int32) → Bool} {W_sc_isWoodOnFire : Int32 → (Nat → Int32) → (Nat → Int32) → Int32} : zseg X zFT (zEx 26 (P_gr_clear A0_gr_clear F0_gr_clear F1_gr_clear) (zEx 27 (P_gr_light G_gr_light A0_gr_light A1_gr_light F0_gr_light) (zEx 29 (P_gr_goOver Q_gr_goOver) (zEx 74 (P_sc_isWoodOnFire G_sc_isWoodOnFire W_sc_isWoodOnFire) zE0)))) zc_31 (fun p => Nat.beq p 20) 400 20 [.ref 52, .ref 2, .int y, .int z, .int l4] [] ((zua (zua ar 53 b53) 54 b54), (zuf (zuf fi 52 1 c52_1) 52 3 c52_3), (m1, m2, m3, m4, m5)) = (
  bif decide (96 ≤ l4) then
   some (.inr (some (.int 1), ((zua (zua ar 53 b53) 54 b54), (zuf (zuf fi 52 1 c52_1) 52 3 c52_3), (m1, m2, m3, m4, m5))))
  else
   zg (zin l4 96) (
   bif decide (b53 (l4.toNatClampNeg) < 0) then
    zg (G_sc_isWoodOnFire l4 (ar 3) (ar 4)) (
    zl (W_sc_isWoodOnFire l4 (ar 3) (ar 4)) (fun v8 =>
    bif decide (0 = v8) then
     some (.inl (20, [.ref 52, .ref 2, .int y, .int z, .int (l4 + 1)], [], ((zua (zua ar 53 b53) 54 b54), (zuf (zuf fi 52 1 c52_1) 52 3 c52_3), (m1, m2, m3, m4, m5))))
    else
     some (.inr (some (.int 0), ((zua (zua ar 53 b53) 54 b54), (zuf (zuf fi 52 1 c52_1) 52 3 c52_3), (m1, m2, m3, m4, m5))))))
   else
    zg (zin l4 96) (
    bif decide (z < b53 (l4.toNatClampNeg)) then
     zg (G_sc_isWoodOnFire l4 (ar 3) (ar 4)) (
     zl (W_sc_isWoodOnFire l4 (ar 3) (ar 4)) (fun v9 =>
     bif decide (0 = v9) then
      some (.inl (20, [.ref 52, .ref 2, .int y, .int z, .int (l4 + 1)], [], ((zua (zua ar 53 b53) 54 b54), (zuf (zuf fi 52 1 c52_1) 52 3 c52_3), (m1, m2, m3, m4, m5))))
     else
      some (.inr (some (.int 0), ((zua (zua ar 53 b53) 54 b54), (zuf (zuf fi 52 1 c52_1) 52 3 c52_3), (m1, m2, m3, m4, m5))))))
    else
     zg (G_sc_isWoodOnFire l4 (ar 3) (ar 4)) (
     zl (W_sc_isWoodOnFire l4 (ar 3) (ar 4)) (fun v10 =>
     bif decide (1 = v10) then
      some (.inl (20, [.ref 52, .ref 2, .int y, .int z, .int (l4 + 1)], [], ((zua (zua ar 53 b53) 54 b54), (zuf (zuf fi 52 1 c52_1) 52 3 c52_3), (m1, m2, m3, m4, m5))))
     else
      some (.inr (some (.int 0), ((zua (zua ar 53 b53) 54 b54), (zuf (zuf fi 52 1 c52_1) 52 3 c52_3), (m1, m2, m3, m4, m5)))))))) : Option ((Nat × List Value × List Value × zH2) ⊕ zO2)) := rfl
theorem k_gr_explains_20 {X : Nat × (Nat → Int32)} {ar fi : Nat → Nat → Int32} {m1 m2 m3 m4 m5 : Nat} {y z : Int32} {b53 : Nat → Int32} {b54 : Nat → Int32} {c52_1 : Int32} {c52_3 : Int32} {o : zO2} : ∀ (s : U_gr_explains_20) (q : U_gr_explains_20 ⊕ T_gr_explains), f_gr_explains_20 z (ar 3) (ar 4) b53 b54 c52_1 c52_3 s = some q → zq (M_gr_explains_20 X (zEx 26 S_gr_clear (zEx 27 S_gr_light (zEx 29 S_gr_goOver (zEx 74 S_sc_isWoodOnFire zE0)))) ar fi m1 m2 m3 m4 m5 y z b53 b54 c52_1 c52_3 o) (fun t => O_gr_explains ar fi m1 m2 m3 m4 m5 t = o) q → M_gr_explains_20 X (zEx 26 S_gr_clear (zEx 27 S_gr_light (zEx 29 S_gr_goOver (zEx 74 S_sc_isWoodOnFire zE0)))) ar fi m1 m2 m3 m4 m5 y z b53 b54 c52_1 c52_3 o s := by
  intro l4 q h hq
  have h : b_gr_explains_20 z (ar 3) (ar 4) b53 b54 c52_1 c52_3 l4 = some q := h
  unfold b_gr_explains_20 at h
  show zR2 X zFT (zEx 26 S_gr_clear (zEx 27 S_gr_light (zEx 29 S_gr_goOver (zEx 74 S_sc_isWoodOnFire zE0)))) zc_31 20 [.ref 52, .ref 2, .int y, .int z, .int l4] [] ((zua (zua ar 53 b53) 54 b54), (zuf (zuf fi 52 1 c52_1) 52 3 c52_3), (m1, m2, m3, m4, m5)) o
  refine zT_seg t20_gr_explains ?_
  refine zb_el h (fun hb h => zT_t hb ?_) (fun hb h => zT_f hb ?_)
  · have hz := zsi h hq
    refine (zO_mk ?_ ?_).trans hz
    · first | with_reducible rfl | (exact zuas_eq _ [(53, _), (54, _)] [(53, _), (54, _)] [53, 54] rfl rfl ⟨rfl, rfl, trivial⟩)
    · first | with_reducible rfl | (exact zufs_eq _ [(52, 1, _), (52, 3, _)] [(52, 1, _), (52, 3, _)] [(52, 1), (52, 3)] rfl rfl ⟨rfl, rfl, trivial⟩)
  · refine zg_el h (fun hg h => zT_g hg ?_)
    refine zb_el h (fun hb h => zT_t hb ?_) (fun hb h => zT_f hb ?_)
    · refine zg_el h (fun hg h => zT_g hg ?_)
      refine zl_el h (fun h => zT_l ?_)
      refine zb_el h (fun hb h => zT_t hb ?_) (fun hb h => zT_f hb ?_)
      · have hz := zsi h hq
        refine zR2_hp ?_ ?_ hz
        · first | with_reducible rfl | (exact zuas_eq _ [(53, _), (54, _)] [(53, _), (54, _)] [53, 54] rfl rfl ⟨rfl, rfl, trivial⟩)
        · first | with_reducible rfl | (exact zufs_eq _ [(52, 1, _), (52, 3, _)] [(52, 1, _), (52, 3, _)] [(52, 1), (52, 3)] rfl rfl ⟨rfl, rfl, trivial⟩)
      · have hz := zsi h hq
        refine (zO_mk ?_ ?_).trans hz
        · first | with_reducible rfl | (exact zuas_eq _ [(53, _), (54, _)] [(53, _), (54, _)] [53, 54] rfl rfl ⟨rfl, rfl, trivial⟩)
        · first | with_reducible rfl | (exact zufs_eq _ [(52, 1, _), (52, 3, _)] [(52, 1, _), (52, 3, _)] [(52, 1), (52, 3)] rfl rfl ⟨rfl, rfl, trivial⟩)
    · refine zg_el h (fun hg h => zT_g hg ?_)
      refine zb_el h (fun hb h => zT_t hb ?_) (fun hb h => zT_f hb ?_)
      · refine zg_el h (fun hg h => zT_g hg ?_)
        refine zl_el h (fun h => zT_l ?_)
        refine zb_el h (fun hb h => zT_t hb ?_) (fun hb h => zT_f hb ?_)
        · have hz := zsi h hq
          refine zR2_hp ?_ ?_ hz
          · first | with_reducible rfl | (exact zuas_eq _ [(53, _), (54, _)] [(53, _), (54, _)] [53, 54] rfl rfl ⟨rfl, rfl, trivial⟩)
          · first | with_reducible rfl | (exact zufs_eq _ [(52, 1, _), (52, 3, _)] [(52, 1, _), (52, 3, _)] [(52, 1), (52, 3)] rfl rfl ⟨rfl, rfl, trivial⟩)
        · have hz := zsi h hq
          refine (zO_mk ?_ ?_).trans hz
          · first | with_reducible rfl | (exact zuas_eq _ [(53, _), (54, _)] [(53, _), (54, _)] [53, 54] rfl rfl ⟨rfl, rfl, trivial⟩)
          · first | with_reducible rfl | (exact zufs_eq _ [(52, 1, _), (52, 3, _)] [(52, 1, _), (52, 3, _)] [(52, 1), (52, 3)] rfl rfl ⟨rfl, rfl, trivial⟩)
      · refine zg_el h (fun hg h => zT_g hg ?_)
        refine zl_el h (fun h => zT_l ?_)
        refine zb_el h (fun hb h => zT_t hb ?_) (fun hb h => zT_f hb ?_)
        · have hz := zsi h hq
          refine zR2_hp ?_ ?_ hz
          · first | with_reducible rfl | (exact zuas_eq _ [(53, _), (54, _)] [(53, _), (54, _)] [53, 54] rfl rfl ⟨rfl, rfl, trivial⟩)
          · first | with_reducible rfl | (exact zufs_eq _ [(52, 1, _), (52, 3, _)] [(52, 1, _), (52, 3, _)] [(52, 1), (52, 3)] rfl rfl ⟨rfl, rfl, trivial⟩)
        · have hz := zsi h hq
          refine (zO_mk ?_ ?_).trans hz
          · first | with_reducible rfl | (exact zuas_eq _ [(53, _), (54, _)] [(53, _), (54, _)] [53, 54] rfl rfl ⟨rfl, rfl, trivial⟩)
          · first | with_reducible rfl | (exact zufs_eq _ [(52, 1, _), (52, 3, _)] [(52, 1, _), (52, 3, _)] [(52, 1), (52, 3)] rfl rfl ⟨rfl, rfl, trivial⟩)
set_option maxRecDepth 20000 in
theorem t_gr_explains {X : Nat × (Nat → Int32)} {ar fi : Nat → Nat → Int32} {m1 m2 m3 m4 m5 : Nat} {y z : Int32} {A0_gr_clear : (Nat → Int32) → Nat → Int32} {F0_gr_clear : (Nat → Int32) → Int32} {F1_gr_clear : (Nat → Int32) → Int32} {G_gr_light : Int32 → (Nat → Int32) → Int32 → (Nat → Int32) → Bool} {A0_gr_light : Int32 → (Nat → Int32) → Int32 → (Nat → Int32) → Nat → Int32} {A1_gr_light : Int32 → (Nat → Int32) → Int32 → (Nat → Int32) → Nat → Int32} {F0_gr_light : Int32 → (Nat → Int32) → Int32 → (Nat → Int32) → Int32} {Q_gr_goOver : (Nat → Int32) → (Nat → Int32) → (Nat → Int32) → Int32 → Int32 → Option ((Nat → Int32) × (Nat → Int32) × Int32 × Int32)} {G_sc_isWoodOnFire : Int32 → (Nat → Int32) → (Nat → Int32) → Bool} {W_sc_isWoodOnFire : Int32 → (Nat → Int32) → (Nat → Int32) → Int32} : zseg X zFT (zEx 26 (P_gr_clear A0_gr_clear F0_gr_clear F1_gr_clear) (zEx 27 (P_gr_light G_gr_light A0_gr_light A1_gr_light F0_gr_light) (zEx 29 (P_gr_goOver Q_gr_goOver) (zEx 74 (P_sc_isWoodOnFire G_sc_isWoodOnFire W_sc_isWoodOnFire) zE0)))) zc_31 (fun p => Nat.beq p 20) 400 0 [.ref 52, .ref 2, .int y, .int z] [] (ar, fi, (m1, m2, m3, m4, m5)) = (
  zl (A0_gr_clear (ar 53)) (fun v1 =>
  zl (F0_gr_clear (ar 53)) (fun v2 =>
  zl (F1_gr_clear (ar 53)) (fun v3 =>
  zg (G_gr_light y v1 v2 (ar 54)) (
  zl (A0_gr_light y v1 v2 (ar 54)) (fun v4 =>
  zl (A1_gr_light y v1 v2 (ar 54)) (fun v5 =>
  zl (F0_gr_light y v1 v2 (ar 54)) (fun v6 =>
  zl (Q_gr_goOver (ar 3) v4 v5 v6 v3) (fun v7 => zg v7.isSome (
  some (.inl (20, [.ref 52, .ref 2, .int y, .int z, .int 0], [], ((zua (zua (zua (zua (zua ar 53 v1) 53 v4) 54 v5) 53 (((zgt v7).1))) 54 (((zgt v7).2.1))), (zuf (zuf (zuf (zuf (zuf fi 52 1 v2) 52 3 v3) 52 1 v6) 52 1 (((zgt v7).2.2.1))) 52 3 (((zgt v7).2.2.2))), (m1, m2, m3, m4, m5))))))))))))) : Option ((Nat × List Value × List Value × zH2) ⊕ zO2)) := rfl
theorem e_gr_explains {X : Nat × (Nat → Int32)} {ar fi : Nat → Nat → Int32} {m1 m2 m3 m4 m5 : Nat} {y z : Int32} {o : zO2} : ∀ (q : T_gr_explains), q_gr_explains y z (ar 3) (ar 4) (ar 53) (ar 54) = some q → (fun t => O_gr_explains ar fi m1 m2 m3 m4 m5 t = o) q → zR2 X zFT (zEx 26 S_gr_clear (zEx 27 S_gr_light (zEx 29 S_gr_goOver (zEx 74 S_sc_isWoodOnFire zE0)))) zc_31 0 [.ref 52, .ref 2, .int y, .int z] [] (ar, fi, (m1, m2, m3, m4, m5)) o := by
  intro q h hq
  unfold q_gr_explains at h
  refine zT_seg t_gr_explains ?_
  refine zl_el h (fun h => zT_l ?_)
  refine zl_el h (fun h => zT_l ?_)
  refine zl_el h (fun h => zT_l ?_)
  refine zg_el h (fun hg h => zT_g hg ?_)
  refine zl_el h (fun h => zT_l ?_)
  refine zl_el h (fun h => zT_l ?_)
  refine zl_el h (fun h => zT_l ?_)
  refine zbd_el h (fun v7 hv h => zT_c hv ?_)
  refine zR2_hp ?_ ?_ (zlp_K k_gr_explains_20 h hq)
  · first | with_reducible rfl | (exact zuas_eq _ [(53, _), (53, _), (54, _), (53, _), (54, _)] [(53, _), (54, _)] [53, 54] rfl rfl ⟨rfl, rfl, trivial⟩)
  · first | with_reducible rfl | (exact zufs_eq _ [(52, 1, _), (52, 3, _), (52, 1, _), (52, 1, _), (52, 3, _)] [(52, 1, _), (52, 3, _)] [(52, 1), (52, 3)] rfl rfl ⟨rfl, rfl, trivial⟩)
theorem ok_gr_explains (X : Nat × (Nat → Int32)) : zOkS X 31 S_gr_explains 3 := zOkS_new (zOkE_cons (ok_gr_clear X) (by decide) (zOkE_cons (ok_gr_light X) (by decide) (zOkE_cons (ok_gr_goOver X) (by decide) (zOkE_cons (ok_sc_isWoodOnFire X) (by decide) (zOkE_nil X 2))))) (by
  intro args g o h
  obtain ⟨ar, fi, m1, m2, m3, m4, m5⟩ := g
  unfold S_gr_explains P_gr_explains at h
  split at h
  · refine zb_el h (fun hI0 k0 => ?_) (fun _ h10 => ?_)
    · try simp only [Bool.and_eq_true] at hI0
      obtain ⟨j0, j1⟩ := hI0
      have e0 := Nat.eq_of_beq_eq_true j0
      subst e0
      have e1 := Nat.eq_of_beq_eq_true j1
      subst e1
      exact zpe_el k0 (fun t ht ho => e_gr_explains t ht ho)
    · cases h10
  · cases h)
abbrev T_gr_walkOut : Type := Int32 × (Nat → Int32) × (Nat → Int32)
abbrev U_gr_walkOut_2 : Type := Int32 × (Nat → Int32)
abbrev U_gr_walkOut_40 : Type := Int32 × Int32 × (Nat → Int32) × (Nat → Int32)
abbrev U_gr_walkOut_92 : Type := Int32 × Int32 × (Nat → Int32) × (Nat → Int32)
def b_gr_walkOut_92 (a3 : Nat → Int32) (a53 : Nat → Int32) (l4 : Int32) (l5 : Int32) (l6 : Int32) (l3 : Int32) (l7 : Int32) (b55 : Nat → Int32) (b56 : Nat → Int32) : Option (U_gr_walkOut_92 ⊕ (U_gr_walkOut_40 ⊕ T_gr_walkOut)) :=
  bif decide (4 ≤ l7) then
   some (.inr (.inl (l3, l4 + 1, b55, b56)))
  else
   zl (w_if_nextTo l5 l7) (fun v2 =>
   bif decide (v2 < 0) then
    some (.inl (l3, l7 + 1, b55, b56))
   else
    zg (zin v2 96) (
    bif decide (0 ≤ b55 (v2.toNatClampNeg)) then
     some (.inl (l3, l7 + 1, b55, b56))
    else
     bif decide (96 ≤ l3) then
      some (.inl (l3, l7 + 1, b55, b56))
     else
      zg (zin v2 96) (
      bif decide (a3 (v2.toNatClampNeg) = 3) then
       some (.inl (l3, l7 + 1, b55, b56))
      else
       zg (g_gr_isFreeAt v2 l6 a53) (
       zl (w_gr_isFreeAt v2 l6 a53) (fun v3 =>
       bif decide (v3 = 0) then
        some (.inl (l3, l7 + 1, b55, b56))
       else
        zg (zin v2 96) (
        zg (zin l3 96) (
        some (.inl (l3 + 1, l7 + 1, (zup b55 (v2.toNatClampNeg) l6), (zup b56 (l3.toNatClampNeg) v2))))))))))
def f_gr_walkOut_92 (a3 : Nat → Int32) (a53 : Nat → Int32) (l4 : Int32) (l5 : Int32) (l6 : Int32) : U_gr_walkOut_92 → Option (U_gr_walkOut_92 ⊕ (U_gr_walkOut_40 ⊕ T_gr_walkOut)) := fun s => b_gr_walkOut_92 a3 a53 l4 l5 l6 s.1 s.2.1 s.2.2.1 s.2.2.2
noncomputable def l_gr_walkOut_92 (a3 : Nat → Int32) (a53 : Nat → Int32) (l4 : Int32) (l5 : Int32) (l6 : Int32) (l3 : Int32) (l7 : Int32) (b55 : Nat → Int32) (b56 : Nat → Int32) : Option (U_gr_walkOut_40 ⊕ T_gr_walkOut) := zlp (f_gr_walkOut_92 a3 a53 l4 l5 l6) (l3, l7, b55, b56)
noncomputable def b_gr_walkOut_40 (a3 : Nat → Int32) (a53 : Nat → Int32) (l3 : Int32) (l4 : Int32) (b55 : Nat → Int32) (b56 : Nat → Int32) : Option (U_gr_walkOut_40 ⊕ T_gr_walkOut) :=
  bif decide (l3 ≤ l4) then
   some (.inr ((-2), b55, b56))
  else
   bif decide (96 ≤ l4) then
    some (.inr ((-2), b55, b56))
   else
    zg (zin l4 96) (
    zg (zin (b56 (l4.toNatClampNeg)) 96) (
    zl (w_gr_isEdge (b56 (l4.toNatClampNeg))) (fun v1 =>
    bif decide (v1 = 0) then
     l_gr_walkOut_92 a3 a53 l4 (b56 (l4.toNatClampNeg)) ((b55 ((b56 (l4.toNatClampNeg)).toNatClampNeg)) + 1) l3 0 b55 b56
    else
     zg (zin (b56 (l4.toNatClampNeg)) 96) (
     some (.inr (b55 ((b56 (l4.toNatClampNeg)).toNatClampNeg), b55, b56))))))
noncomputable def f_gr_walkOut_40 (a3 : Nat → Int32) (a53 : Nat → Int32) : U_gr_walkOut_40 → Option (U_gr_walkOut_40 ⊕ T_gr_walkOut) := fun s => b_gr_walkOut_40 a3 a53 s.1 s.2.1 s.2.2.1 s.2.2.2
noncomputable def l_gr_walkOut_40 (a3 : Nat → Int32) (a53 : Nat → Int32) (l3 : Int32) (l4 : Int32) (b55 : Nat → Int32) (b56 : Nat → Int32) : Option T_gr_walkOut := zlp (f_gr_walkOut_40 a3 a53) (l3, l4, b55, b56)
noncomputable def b_gr_walkOut_2 (y : Int32) (a3 : Nat → Int32) (a53 : Nat → Int32) (b56 : Nat → Int32) (l3 : Int32) (b55 : Nat → Int32) : Option (U_gr_walkOut_2 ⊕ T_gr_walkOut) :=
  bif decide (96 ≤ l3) then
   zg (zin y 96) (
   zg (zin 0 96) (
   zbd (l_gr_walkOut_40 a3 a53 1 0 (zup b55 (y.toNatClampNeg) 0) (zup b56 ((0 : Int32).toNatClampNeg) y)) (fun k => some (.inr k))))
  else
   zg (zin l3 96) (
   some (.inl (l3 + 1, (zup b55 (l3.toNatClampNeg) (-1)))))
noncomputable def f_gr_walkOut_2 (y : Int32) (a3 : Nat → Int32) (a53 : Nat → Int32) (b56 : Nat → Int32) : U_gr_walkOut_2 → Option (U_gr_walkOut_2 ⊕ T_gr_walkOut) := fun s => b_gr_walkOut_2 y a3 a53 b56 s.1 s.2
noncomputable def l_gr_walkOut_2 (y : Int32) (a3 : Nat → Int32) (a53 : Nat → Int32) (b56 : Nat → Int32) (l3 : Int32) (b55 : Nat → Int32) : Option T_gr_walkOut := zlp (f_gr_walkOut_2 y a3 a53 b56) (l3, b55)
noncomputable def q_gr_walkOut (y : Int32) (a3 : Nat → Int32) (a53 : Nat → Int32) (a55 : Nat → Int32) (a56 : Nat → Int32) : Option T_gr_walkOut :=
  l_gr_walkOut_2 y a3 a53 a56 0 a55
def P_gr_walkOut (Q : Int32 → (Nat → Int32) → (Nat → Int32) → (Nat → Int32) → (Nat → Int32) → Option (Int32 × (Nat → Int32) × (Nat → Int32))) : zSp := fun as g => match as with
  | [.ref a, .ref b, .int y] => bif Nat.beq a 52 && Nat.beq b 3 then zpe (Q y (g.1 3) (g.1 53) (g.1 55) (g.1 56)) (fun t => (some (.int (t.1)), ((zua (zua g.1 55 t.2.1) 56 t.2.2), g.2.1, g.2.2))) else none
  | _ => none
noncomputable abbrev S_gr_walkOut : zSp := P_gr_walkOut q_gr_walkOut
def O_gr_walkOut (ar fi : Nat → Nat → Int32) (m1 : Nat) (m2 : Nat) (m3 : Nat) (m4 : Nat) (m5 : Nat) (t : T_gr_walkOut) : zO2 := (some (.int (t.1)), ((zua (zua ar 55 t.2.1) 56 t.2.2), fi, (m1, m2, m3, m4, m5)))
def M_gr_walkOut_92 (X : Nat × (Nat → Int32)) (E : zTE) (ar fi : Nat → Nat → Int32) (m1 : Nat) (m2 : Nat) (m3 : Nat) (m4 : Nat) (m5 : Nat) (y : Int32) (l4 : Int32) (l5 : Int32) (l6 : Int32) (o : zO2) (s : U_gr_walkOut_92) : Prop := zR2 X zFT E zc_32 92 [.ref 52, .ref 3, .int y, .int s.1, .int l4, .int l5, .int l6, .int s.2.1] [] ((zua (zua ar 55 s.2.2.1) 56 s.2.2.2), fi, (m1, m2, m3, m4, m5)) o
def M_gr_walkOut_40 (X : Nat × (Nat → Int32)) (E : zTE) (ar fi : Nat → Nat → Int32) (m1 : Nat) (m2 : Nat) (m3 : Nat) (m4 : Nat) (m5 : Nat) (y : Int32) (o : zO2) (s : U_gr_walkOut_40) : Prop := zR2 X zFT E zc_32 40 [.ref 52, .ref 3, .int y, .int s.1, .int s.2.1] [] ((zua (zua ar 55 s.2.2.1) 56 s.2.2.2), fi, (m1, m2, m3, m4, m5)) o
def M_gr_walkOut_2 (X : Nat × (Nat → Int32)) (E : zTE) (ar fi : Nat → Nat → Int32) (m1 : Nat) (m2 : Nat) (m3 : Nat) (m4 : Nat) (m5 : Nat) (y : Int32) (b56 : Nat → Int32) (o : zO2) (s : U_gr_walkOut_2) : Prop := zR2 X zFT E zc_32 2 [.ref 52, .ref 3, .int y, .int s.1] [] ((zua (zua ar 55 s.2) 56 b56), fi, (m1, m2, m3, m4, m5)) o
set_option maxRecDepth 20000 in
theorem t92_gr_walkOut {X : Nat × (Nat → Int32)} {ar fi : Nat → Nat → Int32} {m1 m2 m3 m4 m5 : Nat} {y : Int32} {l3 : Int32} {l4 : Int32} {l5 : Int32} {l6 : Int32} {l7 : Int32} {b55 : Nat → Int32} {b56 : Nat → Int32} {W_gr_isEdge : Int32 → Int32} {W_if_nextTo : Int32 → Int32 → Int32} {G_gr_isFreeAt : Int32 → Int32 → (Nat → Int32) → Bool} {W_gr_isFreeAt : Int32 → Int32 → (Nat → Int32) → Int32} : zseg X zFT (zEx 34 (P_gr_isEdge W_gr_isEdge) (zEx 140 (P_if_nextTo W_if_nextTo) (zEx 33 (P_gr_isFreeAt G_gr_isFreeAt W_gr_isFreeAt) zE0))) zc_32 (fun p => Nat.beq p 2 || Nat.beq p 40 || Nat.beq p 92) 400 92 [.ref 52, .ref 3, .int y, .int l3, .int l4, .int l5, .int l6, .int l7] [] ((zua (zua ar 55 b55) 56 b56), fi, (m1, m2, m3, m4, m5)) = (
  bif decide (4 ≤ l7) then
   some (.inl (40, [.ref 52, .ref 3, .int y, .int l3, .int (l4 + 1)], [], ((zua (zua ar 55 b55) 56 b56), fi, (m1, m2, m3, m4, m5))))
  else
   zl (W_if_nextTo l5 l7) (fun v2 =>
   bif decide (v2 < 0) then
    some (.inl (92, [.ref 52, .ref 3, .int y, .int l3, .int l4, .int l5, .int l6, .int (l7 + 1)], [], ((zua (zua ar 55 b55) 56 b56), fi, (m1, m2, m3, m4, m5))))
   else
    zg (zin v2 96) (
    bif decide (0 ≤ b55 (v2.toNatClampNeg)) then
     some (.inl (92, [.ref 52, .ref 3, .int y, .int l3, .int l4, .int l5, .int l6, .int (l7 + 1)], [], ((zua (zua ar 55 b55) 56 b56), fi, (m1, m2, m3, m4, m5))))
    else
     bif decide (96 ≤ l3) then
      some (.inl (92, [.ref 52, .ref 3, .int y, .int l3, .int l4, .int l5, .int l6, .int (l7 + 1)], [], ((zua (zua ar 55 b55) 56 b56), fi, (m1, m2, m3, m4, m5))))
     else
      zg (zin v2 96) (
      bif decide ((ar 3) (v2.toNatClampNeg) = 3) then
       some (.inl (92, [.ref 52, .ref 3, .int y, .int l3, .int l4, .int l5, .int l6, .int (l7 + 1)], [], ((zua (zua ar 55 b55) 56 b56), fi, (m1, m2, m3, m4, m5))))
      else
       zg (G_gr_isFreeAt v2 l6 (ar 53)) (
       zl (W_gr_isFreeAt v2 l6 (ar 53)) (fun v3 =>
       bif decide (v3 = 0) then
        some (.inl (92, [.ref 52, .ref 3, .int y, .int l3, .int l4, .int l5, .int l6, .int (l7 + 1)], [], ((zua (zua ar 55 b55) 56 b56), fi, (m1, m2, m3, m4, m5))))
       else
        zg (zin v2 96) (
        zg (zin l3 96) (
        some (.inl (92, [.ref 52, .ref 3, .int y, .int (l3 + 1), .int l4, .int l5, .int l6, .int (l7 + 1)], [], ((zua (zua (zua (zua ar 55 b55) 56 b56) 55 (zup b55 (v2.toNatClampNeg) l6)) 56 (zup b56 (l3.toNatClampNeg) v2)), fi, (m1, m2, m3, m4, m5))))))))))) : Option ((Nat × List Value × List Value × zH2) ⊕ zO2)) := rfl
theorem k_gr_walkOut_92 {X : Nat × (Nat → Int32)} {ar fi : Nat → Nat → Int32} {m1 m2 m3 m4 m5 : Nat} {y : Int32} {l4 : Int32} {l5 : Int32} {l6 : Int32} {o : zO2} : ∀ (s : U_gr_walkOut_92) (q : U_gr_walkOut_92 ⊕ (U_gr_walkOut_40 ⊕ T_gr_walkOut)), f_gr_walkOut_92 (ar 3) (ar 53) l4 l5 l6 s = some q → zq (M_gr_walkOut_92 X (zEx 34 S_gr_isEdge (zEx 140 S_if_nextTo (zEx 33 S_gr_isFreeAt zE0))) ar fi m1 m2 m3 m4 m5 y l4 l5 l6 o) (zq (M_gr_walkOut_40 X (zEx 34 S_gr_isEdge (zEx 140 S_if_nextTo (zEx 33 S_gr_isFreeAt zE0))) ar fi m1 m2 m3 m4 m5 y o) (fun t => O_gr_walkOut ar fi m1 m2 m3 m4 m5 t = o)) q → M_gr_walkOut_92 X (zEx 34 S_gr_isEdge (zEx 140 S_if_nextTo (zEx 33 S_gr_isFreeAt zE0))) ar fi m1 m2 m3 m4 m5 y l4 l5 l6 o s := by
  intro s q h hq
  obtain ⟨l3, l7, b55, b56⟩ := s
  have h : b_gr_walkOut_92 (ar 3) (ar 53) l4 l5 l6 l3 l7 b55 b56 = some q := h
  unfold b_gr_walkOut_92 at h
  show zR2 X zFT (zEx 34 S_gr_isEdge (zEx 140 S_if_nextTo (zEx 33 S_gr_isFreeAt zE0))) zc_32 92 [.ref 52, .ref 3, .int y, .int l3, .int l4, .int l5, .int l6, .int l7] [] ((zua (zua ar 55 b55) 56 b56), fi, (m1, m2, m3, m4, m5)) o
  refine zT_seg t92_gr_walkOut ?_
  refine zb_el h (fun hb h => zT_t hb ?_) (fun hb h => zT_f hb ?_)
  · have hz := zsi h hq
    refine zR2_hp ?_ ?_ hz
    · first | with_reducible rfl | (exact zuas_eq _ [(55, _), (56, _)] [(55, _), (56, _)] [55, 56] rfl rfl ⟨rfl, rfl, trivial⟩)
    · first | with_reducible rfl | (rfl)
  · refine zl_el h (fun h => zT_l ?_)
    refine zb_el h (fun hb h => zT_t hb ?_) (fun hb h => zT_f hb ?_)
    · have hz := zsi h hq
      refine zR2_hp ?_ ?_ hz
      · first | with_reducible rfl | (exact zuas_eq _ [(55, _), (56, _)] [(55, _), (56, _)] [55, 56] rfl rfl ⟨rfl, rfl, trivial⟩)
      · first | with_reducible rfl | (rfl)
    · refine zg_el h (fun hg h => zT_g hg ?_)
      refine zb_el h (fun hb h => zT_t hb ?_) (fun hb h => zT_f hb ?_)
      · have hz := zsi h hq
        refine zR2_hp ?_ ?_ hz
        · first | with_reducible rfl | (exact zuas_eq _ [(55, _), (56, _)] [(55, _), (56, _)] [55, 56] rfl rfl ⟨rfl, rfl, trivial⟩)
        · first | with_reducible rfl | (rfl)
      · refine zb_el h (fun hb h => zT_t hb ?_) (fun hb h => zT_f hb ?_)
        · have hz := zsi h hq
          refine zR2_hp ?_ ?_ hz
          · first | with_reducible rfl | (exact zuas_eq _ [(55, _), (56, _)] [(55, _), (56, _)] [55, 56] rfl rfl ⟨rfl, rfl, trivial⟩)
          · first | with_reducible rfl | (rfl)
        · refine zg_el h (fun hg h => zT_g hg ?_)
          refine zb_el h (fun hb h => zT_t hb ?_) (fun hb h => zT_f hb ?_)
          · have hz := zsi h hq
            refine zR2_hp ?_ ?_ hz
            · first | with_reducible rfl | (exact zuas_eq _ [(55, _), (56, _)] [(55, _), (56, _)] [55, 56] rfl rfl ⟨rfl, rfl, trivial⟩)
            · first | with_reducible rfl | (rfl)
          · refine zg_el h (fun hg h => zT_g hg ?_)
            refine zl_el h (fun h => zT_l ?_)
            refine zb_el h (fun hb h => zT_t hb ?_) (fun hb h => zT_f hb ?_)
            · have hz := zsi h hq
              refine zR2_hp ?_ ?_ hz
              · first | with_reducible rfl | (exact zuas_eq _ [(55, _), (56, _)] [(55, _), (56, _)] [55, 56] rfl rfl ⟨rfl, rfl, trivial⟩)
              · first | with_reducible rfl | (rfl)
            · refine zg_el h (fun hg h => zT_g hg ?_)
              refine zg_el h (fun hg h => zT_g hg ?_)
              have hz := zsi h hq
              refine zR2_hp ?_ ?_ hz
              · first | with_reducible rfl | (exact zuas_eq _ [(55, _), (56, _), (55, _), (56, _)] [(55, _), (56, _)] [55, 56] rfl rfl ⟨rfl, rfl, trivial⟩)
              · first | with_reducible rfl | (rfl)
set_option maxRecDepth 20000 in
theorem t40_gr_walkOut {X : Nat × (Nat → Int32)} {ar fi : Nat → Nat → Int32} {m1 m2 m3 m4 m5 : Nat} {y : Int32} {l3 : Int32} {l4 : Int32} {b55 : Nat → Int32} {b56 : Nat → Int32} {W_gr_isEdge : Int32 → Int32} {W_if_nextTo : Int32 → Int32 → Int32} {G_gr_isFreeAt : Int32 → Int32 → (Nat → Int32) → Bool} {W_gr_isFreeAt : Int32 → Int32 → (Nat → Int32) → Int32} : zseg X zFT (zEx 34 (P_gr_isEdge W_gr_isEdge) (zEx 140 (P_if_nextTo W_if_nextTo) (zEx 33 (P_gr_isFreeAt G_gr_isFreeAt W_gr_isFreeAt) zE0))) zc_32 (fun p => Nat.beq p 2 || Nat.beq p 40 || Nat.beq p 92) 400 40 [.ref 52, .ref 3, .int y, .int l3, .int l4] [] ((zua (zua ar 55 b55) 56 b56), fi, (m1, m2, m3, m4, m5)) = (
  bif decide (l3 ≤ l4) then
   some (.inr (some (.int (-2)), ((zua (zua ar 55 b55) 56 b56), fi, (m1, m2, m3, m4, m5))))
  else
   bif decide (96 ≤ l4) then
    some (.inr (some (.int (-2)), ((zua (zua ar 55 b55) 56 b56), fi, (m1, m2, m3, m4, m5))))
   else
    zg (zin l4 96) (
    zg (zin (b56 (l4.toNatClampNeg)) 96) (
    zl (W_gr_isEdge (b56 (l4.toNatClampNeg))) (fun v1 =>
    bif decide (v1 = 0) then
     some (.inl (92, [.ref 52, .ref 3, .int y, .int l3, .int l4, .int (b56 (l4.toNatClampNeg)), .int ((b55 ((b56 (l4.toNatClampNeg)).toNatClampNeg)) + 1), .int 0], [], ((zua (zua ar 55 b55) 56 b56), fi, (m1, m2, m3, m4, m5))))
    else
     zg (zin (b56 (l4.toNatClampNeg)) 96) (
     some (.inr (some (.int (b55 ((b56 (l4.toNatClampNeg)).toNatClampNeg))), ((zua (zua ar 55 b55) 56 b56), fi, (m1, m2, m3, m4, m5)))))))) : Option ((Nat × List Value × List Value × zH2) ⊕ zO2)) := rfl
theorem k_gr_walkOut_40 {X : Nat × (Nat → Int32)} {ar fi : Nat → Nat → Int32} {m1 m2 m3 m4 m5 : Nat} {y : Int32} {o : zO2} : ∀ (s : U_gr_walkOut_40) (q : U_gr_walkOut_40 ⊕ T_gr_walkOut), f_gr_walkOut_40 (ar 3) (ar 53) s = some q → zq (M_gr_walkOut_40 X (zEx 34 S_gr_isEdge (zEx 140 S_if_nextTo (zEx 33 S_gr_isFreeAt zE0))) ar fi m1 m2 m3 m4 m5 y o) (fun t => O_gr_walkOut ar fi m1 m2 m3 m4 m5 t = o) q → M_gr_walkOut_40 X (zEx 34 S_gr_isEdge (zEx 140 S_if_nextTo (zEx 33 S_gr_isFreeAt zE0))) ar fi m1 m2 m3 m4 m5 y o s := by
  intro s q h hq
  obtain ⟨l3, l4, b55, b56⟩ := s
  have h : b_gr_walkOut_40 (ar 3) (ar 53) l3 l4 b55 b56 = some q := h
  unfold b_gr_walkOut_40 at h
  show zR2 X zFT (zEx 34 S_gr_isEdge (zEx 140 S_if_nextTo (zEx 33 S_gr_isFreeAt zE0))) zc_32 40 [.ref 52, .ref 3, .int y, .int l3, .int l4] [] ((zua (zua ar 55 b55) 56 b56), fi, (m1, m2, m3, m4, m5)) o
  refine zT_seg t40_gr_walkOut ?_
  refine zb_el h (fun hb h => zT_t hb ?_) (fun hb h => zT_f hb ?_)
  · have hz := zsi h hq
    refine (zO_mk ?_ ?_).trans hz
    · first | with_reducible rfl | (exact zuas_eq _ [(55, _), (56, _)] [(55, _), (56, _)] [55, 56] rfl rfl ⟨rfl, rfl, trivial⟩)
    · first | with_reducible rfl | (rfl)
  · refine zb_el h (fun hb h => zT_t hb ?_) (fun hb h => zT_f hb ?_)
    · have hz := zsi h hq
      refine (zO_mk ?_ ?_).trans hz
      · first | with_reducible rfl | (exact zuas_eq _ [(55, _), (56, _)] [(55, _), (56, _)] [55, 56] rfl rfl ⟨rfl, rfl, trivial⟩)
      · first | with_reducible rfl | (rfl)
    · refine zg_el h (fun hg h => zT_g hg ?_)
      refine zg_el h (fun hg h => zT_g hg ?_)
      refine zl_el h (fun h => zT_l ?_)
      refine zb_el h (fun hb h => zT_t hb ?_) (fun hb h => zT_f hb ?_)
      · refine zR2_hp ?_ ?_ (zlp_K k_gr_walkOut_92 h hq)
        · first | with_reducible rfl | (exact zuas_eq _ [(55, _), (56, _)] [(55, _), (56, _)] [55, 56] rfl rfl ⟨rfl, rfl, trivial⟩)
        · first | with_reducible rfl | (rfl)
      · refine zg_el h (fun hg h => zT_g hg ?_)
        have hz := zsi h hq
        refine (zO_mk ?_ ?_).trans hz
        · first | with_reducible rfl | (exact zuas_eq _ [(55, _), (56, _)] [(55, _), (56, _)] [55, 56] rfl rfl ⟨rfl, rfl, trivial⟩)
        · first | with_reducible rfl | (rfl)
set_option maxRecDepth 20000 in
theorem t2_gr_walkOut {X : Nat × (Nat → Int32)} {ar fi : Nat → Nat → Int32} {m1 m2 m3 m4 m5 : Nat} {y : Int32} {l3 : Int32} {b55 : Nat → Int32} {b56 : Nat → Int32} {W_gr_isEdge : Int32 → Int32} {W_if_nextTo : Int32 → Int32 → Int32} {G_gr_isFreeAt : Int32 → Int32 → (Nat → Int32) → Bool} {W_gr_isFreeAt : Int32 → Int32 → (Nat → Int32) → Int32} : zseg X zFT (zEx 34 (P_gr_isEdge W_gr_isEdge) (zEx 140 (P_if_nextTo W_if_nextTo) (zEx 33 (P_gr_isFreeAt G_gr_isFreeAt W_gr_isFreeAt) zE0))) zc_32 (fun p => Nat.beq p 2 || Nat.beq p 40 || Nat.beq p 92) 400 2 [.ref 52, .ref 3, .int y, .int l3] [] ((zua (zua ar 55 b55) 56 b56), fi, (m1, m2, m3, m4, m5)) = (
  bif decide (96 ≤ l3) then
   zg (zin y 96) (
   zg (zin 0 96) (
   some (.inl (40, [.ref 52, .ref 3, .int y, .int 1, .int 0], [], ((zua (zua (zua (zua ar 55 b55) 56 b56) 55 (zup b55 (y.toNatClampNeg) 0)) 56 (zup b56 ((0 : Int32).toNatClampNeg) y)), fi, (m1, m2, m3, m4, m5))))))
  else
   zg (zin l3 96) (
   some (.inl (2, [.ref 52, .ref 3, .int y, .int (l3 + 1)], [], ((zua (zua (zua ar 55 b55) 56 b56) 55 (zup b55 (l3.toNatClampNeg) (-1))), fi, (m1, m2, m3, m4, m5))))) : Option ((Nat × List Value × List Value × zH2) ⊕ zO2)) := rfl
theorem k_gr_walkOut_2 {X : Nat × (Nat → Int32)} {ar fi : Nat → Nat → Int32} {m1 m2 m3 m4 m5 : Nat} {y : Int32} {b56 : Nat → Int32} {o : zO2} : ∀ (s : U_gr_walkOut_2) (q : U_gr_walkOut_2 ⊕ T_gr_walkOut), f_gr_walkOut_2 y (ar 3) (ar 53) b56 s = some q → zq (M_gr_walkOut_2 X (zEx 34 S_gr_isEdge (zEx 140 S_if_nextTo (zEx 33 S_gr_isFreeAt zE0))) ar fi m1 m2 m3 m4 m5 y b56 o) (fun t => O_gr_walkOut ar fi m1 m2 m3 m4 m5 t = o) q → M_gr_walkOut_2 X (zEx 34 S_gr_isEdge (zEx 140 S_if_nextTo (zEx 33 S_gr_isFreeAt zE0))) ar fi m1 m2 m3 m4 m5 y b56 o s := by
  intro s q h hq
  obtain ⟨l3, b55⟩ := s
  have h : b_gr_walkOut_2 y (ar 3) (ar 53) b56 l3 b55 = some q := h
  unfold b_gr_walkOut_2 at h
  show zR2 X zFT (zEx 34 S_gr_isEdge (zEx 140 S_if_nextTo (zEx 33 S_gr_isFreeAt zE0))) zc_32 2 [.ref 52, .ref 3, .int y, .int l3] [] ((zua (zua ar 55 b55) 56 b56), fi, (m1, m2, m3, m4, m5)) o
  refine zT_seg t2_gr_walkOut ?_
  refine zb_el h (fun hb h => zT_t hb ?_) (fun hb h => zT_f hb ?_)
  · refine zg_el h (fun hg h => zT_g hg ?_)
    refine zg_el h (fun hg h => zT_g hg ?_)
    refine zbd_el h (fun r hr h => ?_)
    have hz := zsi h hq
    refine zR2_hp ?_ ?_ (zlp_K k_gr_walkOut_40 hr hz)
    · first | with_reducible rfl | (exact zuas_eq _ [(55, _), (56, _), (55, _), (56, _)] [(55, _), (56, _)] [55, 56] rfl rfl ⟨rfl, rfl, trivial⟩)
    · first | with_reducible rfl | (rfl)
  · refine zg_el h (fun hg h => zT_g hg ?_)
    have hz := zsi h hq
    refine zR2_hp ?_ ?_ hz
    · first | with_reducible rfl | (exact zuas_eq _ [(55, _), (56, _), (55, _)] [(55, _), (56, _)] [55, 56] rfl rfl ⟨rfl, rfl, trivial⟩)
    · first | with_reducible rfl | (rfl)
set_option maxRecDepth 20000 in
theorem t_gr_walkOut {X : Nat × (Nat → Int32)} {ar fi : Nat → Nat → Int32} {m1 m2 m3 m4 m5 : Nat} {y : Int32} {W_gr_isEdge : Int32 → Int32} {W_if_nextTo : Int32 → Int32 → Int32} {G_gr_isFreeAt : Int32 → Int32 → (Nat → Int32) → Bool} {W_gr_isFreeAt : Int32 → Int32 → (Nat → Int32) → Int32} : zseg X zFT (zEx 34 (P_gr_isEdge W_gr_isEdge) (zEx 140 (P_if_nextTo W_if_nextTo) (zEx 33 (P_gr_isFreeAt G_gr_isFreeAt W_gr_isFreeAt) zE0))) zc_32 (fun p => Nat.beq p 2 || Nat.beq p 40 || Nat.beq p 92) 400 0 [.ref 52, .ref 3, .int y] [] (ar, fi, (m1, m2, m3, m4, m5)) = (
  some (.inl (2, [.ref 52, .ref 3, .int y, .int 0], [], (ar, fi, (m1, m2, m3, m4, m5)))) : Option ((Nat × List Value × List Value × zH2) ⊕ zO2)) := rfl
theorem e_gr_walkOut {X : Nat × (Nat → Int32)} {ar fi : Nat → Nat → Int32} {m1 m2 m3 m4 m5 : Nat} {y : Int32} {o : zO2} : ∀ (q : T_gr_walkOut), q_gr_walkOut y (ar 3) (ar 53) (ar 55) (ar 56) = some q → (fun t => O_gr_walkOut ar fi m1 m2 m3 m4 m5 t = o) q → zR2 X zFT (zEx 34 S_gr_isEdge (zEx 140 S_if_nextTo (zEx 33 S_gr_isFreeAt zE0))) zc_32 0 [.ref 52, .ref 3, .int y] [] (ar, fi, (m1, m2, m3, m4, m5)) o := by
  intro q h hq
  unfold q_gr_walkOut at h
  refine zT_seg t_gr_walkOut ?_
  refine zR2_hp ?_ ?_ (zlp_K k_gr_walkOut_2 h hq)
  · first | with_reducible rfl | (exact zuas_eq _ [] [(55, _), (56, _)] [55, 56] rfl rfl ⟨rfl, rfl, trivial⟩)
  · first | with_reducible rfl | (rfl)
theorem ok_gr_walkOut (X : Nat × (Nat → Int32)) : zOkS X 32 S_gr_walkOut 2 := zOkS_new (zOkE_cons (ok_gr_isEdge X) (by decide) (zOkE_cons (ok_if_nextTo X) (by decide) (zOkE_cons (ok_gr_isFreeAt X) (by decide) (zOkE_nil X 1)))) (by
  intro args g o h
  obtain ⟨ar, fi, m1, m2, m3, m4, m5⟩ := g
  unfold S_gr_walkOut P_gr_walkOut at h
  split at h
  · refine zb_el h (fun hI0 k0 => ?_) (fun _ h10 => ?_)
    · try simp only [Bool.and_eq_true] at hI0
      obtain ⟨j0, j1⟩ := hI0
      have e0 := Nat.eq_of_beq_eq_true j0
      subst e0
      have e1 := Nat.eq_of_beq_eq_true j1
      subst e1
      exact zpe_el k0 (fun t ht ho => e_gr_walkOut t ht ho)
    · cases h10
  · cases h)
abbrev T_lw_aimHere : Type := (Nat → Int32)
abbrev U_lw_aimHere_4 : Type := Int32 × Int32 × (Nat → Int32)
def b_lw_aimHere_4 (f23_7 : Int32) (l2 : Int32) (l3 : Int32) (b25 : Nat → Int32) : Option (U_lw_aimHere_4 ⊕ T_lw_aimHere) :=
  bif decide (240 ≤ l3) then
   some (.inr b25)
  else
   bif decide (l2 < 0) then
    some (.inr b25)
   else
    bif decide (240 ≤ l2) then
     some (.inr b25)
    else
     zg (zin l2 240) (
     zg (zin l2 240) (
     some (.inl (b25 (l2.toNatClampNeg), l3 + 1, (zup b25 (l2.toNatClampNeg) (f23_7))))))
def f_lw_aimHere_4 (f23_7 : Int32) : U_lw_aimHere_4 → Option (U_lw_aimHere_4 ⊕ T_lw_aimHere) := fun s => b_lw_aimHere_4 f23_7 s.1 s.2.1 s.2.2
noncomputable def l_lw_aimHere_4 (f23_7 : Int32) (l2 : Int32) (l3 : Int32) (b25 : Nat → Int32) : Option T_lw_aimHere := zlp (f_lw_aimHere_4 f23_7) (l2, l3, b25)
noncomputable def q_lw_aimHere (x : Int32) (a25 : Nat → Int32) (f23_7 : Int32) : Option T_lw_aimHere :=
  l_lw_aimHere_4 f23_7 x 0 a25
def P_lw_aimHere (Q : Int32 → (Nat → Int32) → Int32 → Option ((Nat → Int32))) : zSp := fun as g => match as with
  | [.ref a, .int x] => bif Nat.beq a 23 then zpe (Q x (g.1 25) (g.2.1 23 7)) (fun t => (none, ((zua g.1 25 t), g.2.1, g.2.2))) else bif Nat.beq a 31 then zpe (Q x (g.1 33) (g.2.1 31 7)) (fun t => (none, ((zua g.1 33 t), g.2.1, g.2.2))) else none
  | _ => none
noncomputable abbrev S_lw_aimHere : zSp := P_lw_aimHere q_lw_aimHere
def O_lw_aimHere_23 (ar fi : Nat → Nat → Int32) (m1 : Nat) (m2 : Nat) (m3 : Nat) (m4 : Nat) (m5 : Nat) (t : T_lw_aimHere) : zO2 := (none, ((zua ar 25 t), fi, (m1, m2, m3, m4, m5)))
def M_lw_aimHere_4_23 (X : Nat × (Nat → Int32)) (E : zTE) (ar fi : Nat → Nat → Int32) (m1 : Nat) (m2 : Nat) (m3 : Nat) (m4 : Nat) (m5 : Nat) (x : Int32) (o : zO2) (s : U_lw_aimHere_4) : Prop := zR2 X zFT E zc_41 4 [.ref 23, .int x, .int s.1, .int s.2.1] [] ((zua ar 25 s.2.2), fi, (m1, m2, m3, m4, m5)) o
set_option maxRecDepth 20000 in
theorem t4_lw_aimHere_23 {X : Nat × (Nat → Int32)} {ar fi : Nat → Nat → Int32} {m1 m2 m3 m4 m5 : Nat} {x : Int32} {l2 : Int32} {l3 : Int32} {b25 : Nat → Int32} : zseg X zFT zE0 zc_41 (fun p => Nat.beq p 4) 400 4 [.ref 23, .int x, .int l2, .int l3] [] ((zua ar 25 b25), fi, (m1, m2, m3, m4, m5)) = (
  bif decide (240 ≤ l3) then
   some (.inr (none, ((zua ar 25 b25), fi, (m1, m2, m3, m4, m5))))
  else
   bif decide (l2 < 0) then
    some (.inr (none, ((zua ar 25 b25), fi, (m1, m2, m3, m4, m5))))
   else
    bif decide (240 ≤ l2) then
     some (.inr (none, ((zua ar 25 b25), fi, (m1, m2, m3, m4, m5))))
    else
     zg (zin l2 240) (
     zg (zin l2 240) (
     some (.inl (4, [.ref 23, .int x, .int (b25 (l2.toNatClampNeg)), .int (l3 + 1)], [], ((zua (zua ar 25 b25) 25 (zup b25 (l2.toNatClampNeg) (fi 23 7))), fi, (m1, m2, m3, m4, m5)))))) : Option ((Nat × List Value × List Value × zH2) ⊕ zO2)) := rfl
theorem k_lw_aimHere_4_23 {X : Nat × (Nat → Int32)} {ar fi : Nat → Nat → Int32} {m1 m2 m3 m4 m5 : Nat} {x : Int32} {o : zO2} : ∀ (s : U_lw_aimHere_4) (q : U_lw_aimHere_4 ⊕ T_lw_aimHere), f_lw_aimHere_4 (fi 23 7) s = some q → zq (M_lw_aimHere_4_23 X zE0 ar fi m1 m2 m3 m4 m5 x o) (fun t => O_lw_aimHere_23 ar fi m1 m2 m3 m4 m5 t = o) q → M_lw_aimHere_4_23 X zE0 ar fi m1 m2 m3 m4 m5 x o s := by
  intro s q h hq
  obtain ⟨l2, l3, b25⟩ := s
  have h : b_lw_aimHere_4 (fi 23 7) l2 l3 b25 = some q := h
  unfold b_lw_aimHere_4 at h
  show zR2 X zFT zE0 zc_41 4 [.ref 23, .int x, .int l2, .int l3] [] ((zua ar 25 b25), fi, (m1, m2, m3, m4, m5)) o
  refine zT_seg t4_lw_aimHere_23 ?_
  refine zb_el h (fun hb h => zT_t hb ?_) (fun hb h => zT_f hb ?_)
  · have hz := zsi h hq
    refine (zO_mk ?_ ?_).trans hz
    · first | with_reducible rfl | (exact zuas_eq _ [(25, _)] [(25, _)] [25] rfl rfl ⟨rfl, trivial⟩)
    · first | with_reducible rfl | (rfl)
  · refine zb_el h (fun hb h => zT_t hb ?_) (fun hb h => zT_f hb ?_)
    · have hz := zsi h hq
      refine (zO_mk ?_ ?_).trans hz
      · first | with_reducible rfl | (exact zuas_eq _ [(25, _)] [(25, _)] [25] rfl rfl ⟨rfl, trivial⟩)
      · first | with_reducible rfl | (rfl)
    · refine zb_el h (fun hb h => zT_t hb ?_) (fun hb h => zT_f hb ?_)
      · have hz := zsi h hq
        refine (zO_mk ?_ ?_).trans hz
        · first | with_reducible rfl | (exact zuas_eq _ [(25, _)] [(25, _)] [25] rfl rfl ⟨rfl, trivial⟩)
        · first | with_reducible rfl | (rfl)
      · refine zg_el h (fun hg h => zT_g hg ?_)
        refine zg_el h (fun hg h => zT_g hg ?_)
        have hz := zsi h hq
        refine zR2_hp ?_ ?_ hz
        · first | with_reducible rfl | (exact zuas_eq _ [(25, _), (25, _)] [(25, _)] [25] rfl rfl ⟨rfl, trivial⟩)
        · first | with_reducible rfl | (rfl)
set_option maxRecDepth 20000 in
theorem t_lw_aimHere_23 {X : Nat × (Nat → Int32)} {ar fi : Nat → Nat → Int32} {m1 m2 m3 m4 m5 : Nat} {x : Int32} : zseg X zFT zE0 zc_41 (fun p => Nat.beq p 4) 400 0 [.ref 23, .int x] [] (ar, fi, (m1, m2, m3, m4, m5)) = (
  some (.inl (4, [.ref 23, .int x, .int x, .int 0], [], (ar, fi, (m1, m2, m3, m4, m5)))) : Option ((Nat × List Value × List Value × zH2) ⊕ zO2)) := rfl
theorem e_lw_aimHere_23 {X : Nat × (Nat → Int32)} {ar fi : Nat → Nat → Int32} {m1 m2 m3 m4 m5 : Nat} {x : Int32} {o : zO2} : ∀ (q : T_lw_aimHere), q_lw_aimHere x (ar 25) (fi 23 7) = some q → (fun t => O_lw_aimHere_23 ar fi m1 m2 m3 m4 m5 t = o) q → zR2 X zFT zE0 zc_41 0 [.ref 23, .int x] [] (ar, fi, (m1, m2, m3, m4, m5)) o := by
  intro q h hq
  unfold q_lw_aimHere at h
  refine zT_seg t_lw_aimHere_23 ?_
  refine zR2_hp ?_ ?_ (zlp_K k_lw_aimHere_4_23 h hq)
  · first | with_reducible rfl | (exact zuas_eq _ [] [(25, _)] [25] rfl rfl ⟨rfl, trivial⟩)
  · first | with_reducible rfl | (rfl)
def O_lw_aimHere_31 (ar fi : Nat → Nat → Int32) (m1 : Nat) (m2 : Nat) (m3 : Nat) (m4 : Nat) (m5 : Nat) (t : T_lw_aimHere) : zO2 := (none, ((zua ar 33 t), fi, (m1, m2, m3, m4, m5)))
def M_lw_aimHere_4_31 (X : Nat × (Nat → Int32)) (E : zTE) (ar fi : Nat → Nat → Int32) (m1 : Nat) (m2 : Nat) (m3 : Nat) (m4 : Nat) (m5 : Nat) (x : Int32) (o : zO2) (s : U_lw_aimHere_4) : Prop := zR2 X zFT E zc_41 4 [.ref 31, .int x, .int s.1, .int s.2.1] [] ((zua ar 33 s.2.2), fi, (m1, m2, m3, m4, m5)) o
set_option maxRecDepth 20000 in
theorem t4_lw_aimHere_31 {X : Nat × (Nat → Int32)} {ar fi : Nat → Nat → Int32} {m1 m2 m3 m4 m5 : Nat} {x : Int32} {l2 : Int32} {l3 : Int32} {b33 : Nat → Int32} : zseg X zFT zE0 zc_41 (fun p => Nat.beq p 4) 400 4 [.ref 31, .int x, .int l2, .int l3] [] ((zua ar 33 b33), fi, (m1, m2, m3, m4, m5)) = (
  bif decide (240 ≤ l3) then
   some (.inr (none, ((zua ar 33 b33), fi, (m1, m2, m3, m4, m5))))
  else
   bif decide (l2 < 0) then
    some (.inr (none, ((zua ar 33 b33), fi, (m1, m2, m3, m4, m5))))
   else
    bif decide (240 ≤ l2) then
     some (.inr (none, ((zua ar 33 b33), fi, (m1, m2, m3, m4, m5))))
    else
     zg (zin l2 240) (
     zg (zin l2 240) (
     some (.inl (4, [.ref 31, .int x, .int (b33 (l2.toNatClampNeg)), .int (l3 + 1)], [], ((zua (zua ar 33 b33) 33 (zup b33 (l2.toNatClampNeg) (fi 31 7))), fi, (m1, m2, m3, m4, m5)))))) : Option ((Nat × List Value × List Value × zH2) ⊕ zO2)) := rfl
theorem k_lw_aimHere_4_31 {X : Nat × (Nat → Int32)} {ar fi : Nat → Nat → Int32} {m1 m2 m3 m4 m5 : Nat} {x : Int32} {o : zO2} : ∀ (s : U_lw_aimHere_4) (q : U_lw_aimHere_4 ⊕ T_lw_aimHere), f_lw_aimHere_4 (fi 31 7) s = some q → zq (M_lw_aimHere_4_31 X zE0 ar fi m1 m2 m3 m4 m5 x o) (fun t => O_lw_aimHere_31 ar fi m1 m2 m3 m4 m5 t = o) q → M_lw_aimHere_4_31 X zE0 ar fi m1 m2 m3 m4 m5 x o s := by
  intro s q h hq
  obtain ⟨l2, l3, b33⟩ := s
  have h : b_lw_aimHere_4 (fi 31 7) l2 l3 b33 = some q := h
  unfold b_lw_aimHere_4 at h
  show zR2 X zFT zE0 zc_41 4 [.ref 31, .int x, .int l2, .int l3] [] ((zua ar 33 b33), fi, (m1, m2, m3, m4, m5)) o
  refine zT_seg t4_lw_aimHere_31 ?_
  refine zb_el h (fun hb h => zT_t hb ?_) (fun hb h => zT_f hb ?_)
  · have hz := zsi h hq
    refine (zO_mk ?_ ?_).trans hz
    · first | with_reducible rfl | (exact zuas_eq _ [(33, _)] [(33, _)] [33] rfl rfl ⟨rfl, trivial⟩)
    · first | with_reducible rfl | (rfl)
  · refine zb_el h (fun hb h => zT_t hb ?_) (fun hb h => zT_f hb ?_)
    · have hz := zsi h hq
      refine (zO_mk ?_ ?_).trans hz
      · first | with_reducible rfl | (exact zuas_eq _ [(33, _)] [(33, _)] [33] rfl rfl ⟨rfl, trivial⟩)
      · first | with_reducible rfl | (rfl)
    · refine zb_el h (fun hb h => zT_t hb ?_) (fun hb h => zT_f hb ?_)
      · have hz := zsi h hq
        refine (zO_mk ?_ ?_).trans hz
        · first | with_reducible rfl | (exact zuas_eq _ [(33, _)] [(33, _)] [33] rfl rfl ⟨rfl, trivial⟩)
        · first | with_reducible rfl | (rfl)
      · refine zg_el h (fun hg h => zT_g hg ?_)
        refine zg_el h (fun hg h => zT_g hg ?_)
        have hz := zsi h hq
        refine zR2_hp ?_ ?_ hz
        · first | with_reducible rfl | (exact zuas_eq _ [(33, _), (33, _)] [(33, _)] [33] rfl rfl ⟨rfl, trivial⟩)
        · first | with_reducible rfl | (rfl)
set_option maxRecDepth 20000 in
theorem t_lw_aimHere_31 {X : Nat × (Nat → Int32)} {ar fi : Nat → Nat → Int32} {m1 m2 m3 m4 m5 : Nat} {x : Int32} : zseg X zFT zE0 zc_41 (fun p => Nat.beq p 4) 400 0 [.ref 31, .int x] [] (ar, fi, (m1, m2, m3, m4, m5)) = (
  some (.inl (4, [.ref 31, .int x, .int x, .int 0], [], (ar, fi, (m1, m2, m3, m4, m5)))) : Option ((Nat × List Value × List Value × zH2) ⊕ zO2)) := rfl
theorem e_lw_aimHere_31 {X : Nat × (Nat → Int32)} {ar fi : Nat → Nat → Int32} {m1 m2 m3 m4 m5 : Nat} {x : Int32} {o : zO2} : ∀ (q : T_lw_aimHere), q_lw_aimHere x (ar 33) (fi 31 7) = some q → (fun t => O_lw_aimHere_31 ar fi m1 m2 m3 m4 m5 t = o) q → zR2 X zFT zE0 zc_41 0 [.ref 31, .int x] [] (ar, fi, (m1, m2, m3, m4, m5)) o := by
  intro q h hq
  unfold q_lw_aimHere at h
  refine zT_seg t_lw_aimHere_31 ?_
  refine zR2_hp ?_ ?_ (zlp_K k_lw_aimHere_4_31 h hq)
  · first | with_reducible rfl | (exact zuas_eq _ [] [(33, _)] [33] rfl rfl ⟨rfl, trivial⟩)
  · first | with_reducible rfl | (rfl)
theorem ok_lw_aimHere (X : Nat × (Nat → Int32)) : zOkS X 41 S_lw_aimHere 1 := zOkS_new (zOkE_nil X 0) (by
  intro args g o h
  obtain ⟨ar, fi, m1, m2, m3, m4, m5⟩ := g
  unfold S_lw_aimHere P_lw_aimHere at h
  split at h
  · refine zb_el h (fun hI0 k0 => ?_) (fun _ h10 => ?_)
    · try simp only [Bool.and_eq_true] at hI0
      have j0 := hI0
      have e0 := Nat.eq_of_beq_eq_true j0
      subst e0
      exact zpe_el k0 (fun t ht ho => e_lw_aimHere_23 t ht ho)
    · skip
      refine zb_el h10 (fun hI1 k1 => ?_) (fun _ h11 => ?_)
      · try simp only [Bool.and_eq_true] at hI1
        have j0 := hI1
        have e0 := Nat.eq_of_beq_eq_true j0
        subst e0
        exact zpe_el k1 (fun t ht ho => e_lw_aimHere_31 t ht ho)
      · cases h11
  · cases h)
