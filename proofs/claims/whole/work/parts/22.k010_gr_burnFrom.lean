abbrev T_gr_burnFrom : Type := (Nat → Int32) × (Nat → Int32) × Int32 × Int32
abbrev U_gr_burnFrom_6 : Type := Int32 × (Nat → Int32) × (Nat → Int32) × Int32
noncomputable def b_gr_burnFrom_6 (a3 : Nat → Int32) (a4 : Nat → Int32) (c52_3 : Int32) (l2 : Int32) (b53 : Nat → Int32) (b54 : Nat → Int32) (c52_1 : Int32) : Option (U_gr_burnFrom_6 ⊕ T_gr_burnFrom) :=
  bif decide (96 ≤ l2) then
   zbd (q_gr_goOver a3 b53 b54 c52_1 c52_3) (fun v4 =>
   some (.inr (((v4.1)), ((v4.2.1)), (v4.2.2.1), (v4.2.2.2))))
  else
   zg (zin l2 96) (
   bif !decide (a4 (l2.toNatClampNeg) = 1) then
    some (.inl (l2 + 1, b53, b54, c52_1))
   else
    zg (g_gr_light l2 b53 c52_1 b54) (
    zl (a0_gr_light l2 b53 c52_1 b54) (fun v5 =>
    zl (a1_gr_light l2 b53 c52_1 b54) (fun v6 =>
    zl (f0_gr_light l2 b53 c52_1 b54) (fun v7 =>
    some (.inl (l2 + 1, v5, v6, v7)))))))
noncomputable def f_gr_burnFrom_6 (a3 : Nat → Int32) (a4 : Nat → Int32) (c52_3 : Int32) : U_gr_burnFrom_6 → Option (U_gr_burnFrom_6 ⊕ T_gr_burnFrom) := fun s => b_gr_burnFrom_6 a3 a4 c52_3 s.1 s.2.1 s.2.2.1 s.2.2.2
noncomputable def l_gr_burnFrom_6 (a3 : Nat → Int32) (a4 : Nat → Int32) (c52_3 : Int32) (l2 : Int32) (b53 : Nat → Int32) (b54 : Nat → Int32) (c52_1 : Int32) : Option T_gr_burnFrom := zlp (f_gr_burnFrom_6 a3 a4 c52_3) (l2, b53, b54, c52_1)
noncomputable def q_gr_burnFrom (a3 : Nat → Int32) (a4 : Nat → Int32) (a53 : Nat → Int32) (a54 : Nat → Int32) : Option T_gr_burnFrom :=
  zl (a0_gr_clear a53) (fun v1 =>
  zl (f0_gr_clear a53) (fun v2 =>
  zl (f1_gr_clear a53) (fun v3 =>
  l_gr_burnFrom_6 a3 a4 v3 0 v1 a54 v2)))
def P_gr_burnFrom (Q : (Nat → Int32) → (Nat → Int32) → (Nat → Int32) → (Nat → Int32) → Option ((Nat → Int32) × (Nat → Int32) × Int32 × Int32)) : zSp := fun as g => match as with
  | [.ref a, .ref b] => bif Nat.beq a 52 && Nat.beq b 2 then zpe (Q (g.1 3) (g.1 4) (g.1 53) (g.1 54)) (fun t => (none, ((zua (zua g.1 53 t.1) 54 t.2.1), (zuf (zuf g.2.1 52 1 t.2.2.1) 52 3 t.2.2.2), g.2.2))) else none
  | _ => none
noncomputable abbrev S_gr_burnFrom : zSp := P_gr_burnFrom q_gr_burnFrom
theorem hA5_gr_burnFrom (F : Nat → Nat → Int32) (w0 : Nat → Int32) : (zua F 53 w0) = (zua (zua F 53 w0) 54 (F 54)) := zuak_ix F [(53, w0)] [(53, some 0), (54, none)] rfl
theorem hF4_gr_burnFrom (F : Nat → Nat → Int32) (w0 w1 w2 : Int32) : (zuf (zuf (zuf F 52 1 w0) 52 3 w1) 52 1 w2) = (zuf (zuf F 52 1 w2) 52 3 w1) := zufk_ix F [((52, 1), w0), ((52, 3), w1), ((52, 1), w2)] [((52, 1), some 2), ((52, 3), some 1)] rfl
theorem hF3_gr_burnFrom (F : Nat → Nat → Int32) (w0 w1 : Int32) : (zuf (zuf F 52 1 w0) 52 3 w1) = (zuf (zuf F 52 1 w0) 52 3 w1) := zufk_ix F [((52, 1), w0), ((52, 3), w1)] [((52, 1), some 0), ((52, 3), some 1)] rfl
theorem hA2_gr_burnFrom (F : Nat → Nat → Int32) (w0 w1 : Nat → Int32) : (zua (zua F 53 w0) 54 w1) = (zua (zua F 53 w0) 54 w1) := zuak_ix F [(53, w0), (54, w1)] [(53, some 0), (54, some 1)] rfl
theorem hF1_gr_burnFrom (F : Nat → Nat → Int32) (w0 w1 w2 w3 : Int32) : (zuf (zuf (zuf (zuf F 52 1 w0) 52 3 w1) 52 1 w2) 52 3 w3) = (zuf (zuf F 52 1 w2) 52 3 w3) := zufk_ix F [((52, 1), w0), ((52, 3), w1), ((52, 1), w2), ((52, 3), w3)] [((52, 1), some 2), ((52, 3), some 3)] rfl
theorem hA0_gr_burnFrom (F : Nat → Nat → Int32) (w0 w1 w2 w3 : Nat → Int32) : (zua (zua (zua (zua F 53 w0) 54 w1) 53 w2) 54 w3) = (zua (zua F 53 w2) 54 w3) := zuak_ix F [(53, w0), (54, w1), (53, w2), (54, w3)] [(53, some 2), (54, some 3)] rfl
def O_gr_burnFrom (ar fi : Nat → Nat → Int32) (m1 : Nat) (m2 : Nat) (m3 : Nat) (m4 : Nat) (m5 : Nat) (t : T_gr_burnFrom) : zO2 := match t with
  | (t0, t1, t2, t3) => (none, ((zua (zua ar 53 t0) 54 t1), (zuf (zuf fi 52 1 t2) 52 3 t3), (m1, m2, m3, m4, m5)))
def M_gr_burnFrom_6 (X : Nat × (Nat → Int32)) (E : zTE) (ar fi : Nat → Nat → Int32) (m1 : Nat) (m2 : Nat) (m3 : Nat) (m4 : Nat) (m5 : Nat) (c52_3 : Int32) (o : zO2) (s : U_gr_burnFrom_6) : Prop := match s with
  | (l2, b53, b54, c52_1) => zR2 X zFT E zc_30 6 [.ref 52, .ref 2, .int l2] [] ((zua (zua ar 53 b53) 54 b54), (zuf (zuf fi 52 1 c52_1) 52 3 c52_3), (m1, m2, m3, m4, m5)) o
set_option maxRecDepth 1000000 in
theorem t6_gr_burnFrom {X : Nat × (Nat → Int32)} {ar fi : Nat → Nat → Int32} {m1 m2 m3 m4 m5 : Nat} {l2 : Int32} {b53 : Nat → Int32} {b54 : Nat → Int32} {c52_1 : Int32} {c52_3 : Int32} {A0_gr_clear : (Nat → Int32) → Nat → Int32} {F0_gr_clear : (Nat → Int32) → Int32} {F1_gr_clear : (Nat → Int32) → Int32} {G_gr_light : Int32 → (Nat → Int32) → Int32 → (Nat → Int32) → Bool} {A0_gr_light : Int32 → (Nat → Int32) → Int32 → (Nat → Int32) → Nat → Int32} {A1_gr_light : Int32 → (Nat → Int32) → Int32 → (Nat → Int32) → Nat → Int32} {F0_gr_light : Int32 → (Nat → Int32) → Int32 → (Nat → Int32) → Int32} {Q_gr_goOver : (Nat → Int32) → (Nat → Int32) → (Nat → Int32) → Int32 → Int32 → Option ((Nat → Int32) × (Nat → Int32) × Int32 × Int32)} : zseg X zFT (zEx 26 (P_gr_clear A0_gr_clear F0_gr_clear F1_gr_clear) (zEx 27 (P_gr_light G_gr_light A0_gr_light A1_gr_light F0_gr_light) (zEx 29 (P_gr_goOver Q_gr_goOver) zE0))) zc_30 (fun p => Nat.beq p 6) 400 6 [.ref 52, .ref 2, .int l2] [] ((zua (zua ar 53 b53) 54 b54), (zuf (zuf fi 52 1 c52_1) 52 3 c52_3), (m1, m2, m3, m4, m5)) = (
  bif decide (96 ≤ l2) then
   zl (Q_gr_goOver (ar 3) b53 b54 c52_1 c52_3) (fun v4 => zg v4.isSome (
   some (.inr (none, ((zua (zua (zua (zua ar 53 b53) 54 b54) 53 (((zgt v4).1))) 54 (((zgt v4).2.1))), (zuf (zuf (zuf (zuf fi 52 1 c52_1) 52 3 c52_3) 52 1 (((zgt v4).2.2.1))) 52 3 (((zgt v4).2.2.2))), (m1, m2, m3, m4, m5))))))
  else
   zg (Nat.beq 16 16 && (zin l2 96)) (
   bif !decide ((ar 4) (l2.toNatClampNeg) = 1) then
    some (.inl (6, [.ref 52, .ref 2, .int (l2 + 1)], [], ((zua (zua ar 53 b53) 54 b54), (zuf (zuf fi 52 1 c52_1) 52 3 c52_3), (m1, m2, m3, m4, m5))))
   else
    zg (G_gr_light l2 b53 c52_1 b54) (
    zl (A0_gr_light l2 b53 c52_1 b54) (fun v5 =>
    zl (A1_gr_light l2 b53 c52_1 b54) (fun v6 =>
    zl (F0_gr_light l2 b53 c52_1 b54) (fun v7 =>
    some (.inl (6, [.ref 52, .ref 2, .int (l2 + 1)], [], ((zua (zua (zua (zua ar 53 b53) 54 b54) 53 v5) 54 v6), (zuf (zuf (zuf fi 52 1 c52_1) 52 3 c52_3) 52 1 v7), (m1, m2, m3, m4, m5))))))))) : Option ((Nat × List Value × List Value × zH2) ⊕ zO2)) := by with_unfolding_all rfl
set_option maxRecDepth 20000 in
theorem k_gr_burnFrom_6 {X : Nat × (Nat → Int32)} {ar fi : Nat → Nat → Int32} {m1 m2 m3 m4 m5 : Nat} {c52_3 : Int32} {o : zO2} : ∀ (s : U_gr_burnFrom_6) (q : U_gr_burnFrom_6 ⊕ T_gr_burnFrom), f_gr_burnFrom_6 (ar 3) (ar 4) c52_3 s = some q → zq (M_gr_burnFrom_6 X (zEx 26 S_gr_clear (zEx 27 S_gr_light (zEx 29 S_gr_goOver zE0))) ar fi m1 m2 m3 m4 m5 c52_3 o) (fun t => O_gr_burnFrom ar fi m1 m2 m3 m4 m5 t = o) q → M_gr_burnFrom_6 X (zEx 26 S_gr_clear (zEx 27 S_gr_light (zEx 29 S_gr_goOver zE0))) ar fi m1 m2 m3 m4 m5 c52_3 o s := by
  intro s q h hq
  obtain ⟨l2, b53, b54, c52_1⟩ := s
  have h : b_gr_burnFrom_6 (ar 3) (ar 4) c52_3 l2 b53 b54 c52_1 = some q := h
  unfold b_gr_burnFrom_6 at h
  show zR2 X zFT (zEx 26 S_gr_clear (zEx 27 S_gr_light (zEx 29 S_gr_goOver zE0))) zc_30 6 [.ref 52, .ref 2, .int l2] [] ((zua (zua ar 53 b53) 54 b54), (zuf (zuf fi 52 1 c52_1) 52 3 c52_3), (m1, m2, m3, m4, m5)) o
  refine zT_seg t6_gr_burnFrom ?_
  obtain ⟨TT, hTT⟩ : ∃ T, T = zT X zFT (zEx 26 S_gr_clear (zEx 27 S_gr_light (zEx 29 S_gr_goOver zE0))) zc_30 o := ⟨_, rfl⟩
  rw [← hTT]
  refine zb_el h (fun hb h => zU_t hTT hb ?_) (fun hb h => zU_f hTT hb ?_)
  · refine zbd_el h (fun v4 hv h => zU_c hTT hv ?_)
    rw [hTT]
    have hz := zsi h hq
    refine (zO_mk ?_ ?_).trans hz
    · first | with_reducible rfl | exact hA0_gr_burnFrom _ _ _ _ _
    · first | with_reducible rfl | exact hF1_gr_burnFrom _ _ _ _ _
  · refine zg_el h (fun hg h => zU_ga hTT hg ?_)
    refine zb_el h (fun hb h => zU_t hTT hb ?_) (fun hb h => zU_f hTT hb ?_)
    · rw [hTT]
      have hz := zsi h hq
      refine zR2_hp ?_ ?_ hz
      · first | with_reducible rfl | exact hA2_gr_burnFrom _ _ _
      · first | with_reducible rfl | exact hF3_gr_burnFrom _ _ _
    · refine zg_el h (fun hg h => zU_g hTT hg ?_)
      refine zl_el h (fun h => zU_l hTT ?_)
      refine zl_el h (fun h => zU_l hTT ?_)
      refine zl_el h (fun h => zU_l hTT ?_)
      rw [hTT]
      have hz := zsi h hq
      refine zR2_hp ?_ ?_ hz
      · first | with_reducible rfl | exact hA0_gr_burnFrom _ _ _ _ _
      · first | with_reducible rfl | exact hF4_gr_burnFrom _ _ _ _
set_option maxRecDepth 1000000 in
theorem t_gr_burnFrom {X : Nat × (Nat → Int32)} {ar fi : Nat → Nat → Int32} {m1 m2 m3 m4 m5 : Nat} {A0_gr_clear : (Nat → Int32) → Nat → Int32} {F0_gr_clear : (Nat → Int32) → Int32} {F1_gr_clear : (Nat → Int32) → Int32} {G_gr_light : Int32 → (Nat → Int32) → Int32 → (Nat → Int32) → Bool} {A0_gr_light : Int32 → (Nat → Int32) → Int32 → (Nat → Int32) → Nat → Int32} {A1_gr_light : Int32 → (Nat → Int32) → Int32 → (Nat → Int32) → Nat → Int32} {F0_gr_light : Int32 → (Nat → Int32) → Int32 → (Nat → Int32) → Int32} {Q_gr_goOver : (Nat → Int32) → (Nat → Int32) → (Nat → Int32) → Int32 → Int32 → Option ((Nat → Int32) × (Nat → Int32) × Int32 × Int32)} : zseg X zFT (zEx 26 (P_gr_clear A0_gr_clear F0_gr_clear F1_gr_clear) (zEx 27 (P_gr_light G_gr_light A0_gr_light A1_gr_light F0_gr_light) (zEx 29 (P_gr_goOver Q_gr_goOver) zE0))) zc_30 (fun p => Nat.beq p 6) 400 0 [.ref 52, .ref 2] [] (ar, fi, (m1, m2, m3, m4, m5)) = (
  zl (A0_gr_clear (ar 53)) (fun v1 =>
  zl (F0_gr_clear (ar 53)) (fun v2 =>
  zl (F1_gr_clear (ar 53)) (fun v3 =>
  some (.inl (6, [.ref 52, .ref 2, .int 0], [], ((zua ar 53 v1), (zuf (zuf fi 52 1 v2) 52 3 v3), (m1, m2, m3, m4, m5))))))) : Option ((Nat × List Value × List Value × zH2) ⊕ zO2)) := by with_unfolding_all rfl
set_option maxRecDepth 20000 in
theorem e_gr_burnFrom {X : Nat × (Nat → Int32)} {ar fi : Nat → Nat → Int32} {m1 m2 m3 m4 m5 : Nat} {o : zO2} : ∀ (q : T_gr_burnFrom), q_gr_burnFrom (ar 3) (ar 4) (ar 53) (ar 54) = some q → (fun t => O_gr_burnFrom ar fi m1 m2 m3 m4 m5 t = o) q → zR2 X zFT (zEx 26 S_gr_clear (zEx 27 S_gr_light (zEx 29 S_gr_goOver zE0))) zc_30 0 [.ref 52, .ref 2] [] (ar, fi, (m1, m2, m3, m4, m5)) o := by
  intro q h hq
  unfold q_gr_burnFrom at h
  refine zT_seg t_gr_burnFrom ?_
  obtain ⟨TT, hTT⟩ : ∃ T, T = zT X zFT (zEx 26 S_gr_clear (zEx 27 S_gr_light (zEx 29 S_gr_goOver zE0))) zc_30 o := ⟨_, rfl⟩
  rw [← hTT]
  refine zl_el h (fun h => zU_l hTT ?_)
  refine zl_el h (fun h => zU_l hTT ?_)
  refine zl_el h (fun h => zU_l hTT ?_)
  rw [hTT]
  refine zR2_hp ?_ ?_ (zlp_K k_gr_burnFrom_6 h hq)
  · first | with_reducible rfl | exact hA5_gr_burnFrom _ _
  · first | with_reducible rfl | exact hF3_gr_burnFrom _ _ _
theorem ok_gr_burnFrom (X : Nat × (Nat → Int32)) : zOkS X 30 S_gr_burnFrom 3 := zOkS_new (zOkE_cons (ok_gr_clear X) (by decide) (zOkE_cons (ok_gr_light X) (by decide) (zOkE_cons (ok_gr_goOver X) (by decide) (zOkE_nil X 2)))) (by
  intro args g o h
  obtain ⟨ar, fi, m1, m2, m3, m4, m5⟩ := g
  unfold S_gr_burnFrom P_gr_burnFrom at h
  split at h
  · refine zb_el h (fun hI0 k0 => ?_) (fun _ h10 => ?_)
    · try simp only [Bool.and_eq_true] at hI0
      obtain ⟨j0, j1⟩ := hI0
      have e0 := Nat.eq_of_beq_eq_true j0
      subst e0
      have e1 := Nat.eq_of_beq_eq_true j1
      subst e1
      exact zpe_el k0 (fun t ht ho => by obtain ⟨t0, t1, t2, t3⟩ := t; exact e_gr_burnFrom _ ht ho)
    · cases h10
  · cases h)
