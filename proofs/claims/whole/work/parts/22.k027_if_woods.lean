abbrev T_if_woods : Type := Int32 × (Nat → Int32) × (Nat → Int32) × Int32 × Int32
abbrev U_if_woods_25 : Type := Int32 × Int32 × Int32 × (Nat → Int32) × (Nat → Int32) × Int32 × Int32
noncomputable def b_if_woods_25 (x : Int32) (a3 : Nat → Int32) (l2 : Int32) (l3 : Int32) (l4 : Int32) (b53 : Nat → Int32) (b54 : Nat → Int32) (c52_1 : Int32) (c52_3 : Int32) : Option (U_if_woods_25 ⊕ T_if_woods) :=
  bif decide (96 ≤ l4) then
   bif !decide (x = 0) then
    some (.inr (l3, b53, b54, c52_1, c52_3))
   else
    some (.inr (l2, b53, b54, c52_1, c52_3))
  else
   zg (zin l4 96) (
   bif !decide (a3 (l4.toNatClampNeg) = 1) then
    some (.inl (l2, l3, l4 + 1, b53, b54, c52_1, c52_3))
   else
    zg (zin l4 96) (
    bif decide (0 ≤ b53 (l4.toNatClampNeg)) then
     some (.inl (l2, l3, l4 + 1, b53, b54, c52_1, c52_3))
    else
     zg (g_gr_light l4 b53 c52_1 b54) (
     zl (a0_gr_light l4 b53 c52_1 b54) (fun v5 =>
     zl (a1_gr_light l4 b53 c52_1 b54) (fun v6 =>
     zl (f0_gr_light l4 b53 c52_1 b54) (fun v7 =>
     zbd (q_gr_goOver a3 v5 v6 v7 c52_3) (fun v8 =>
     some (.inl (l2 + 1, (if l3 < ((v8.2.2.1)) - c52_1 then ((v8.2.2.1)) - c52_1 else l3), l4 + 1, ((v8.1)), ((v8.2.1)), (v8.2.2.1), (v8.2.2.2))))))))))
noncomputable def f_if_woods_25 (x : Int32) (a3 : Nat → Int32) : U_if_woods_25 → Option (U_if_woods_25 ⊕ T_if_woods) := fun s => b_if_woods_25 x a3 s.1 s.2.1 s.2.2.1 s.2.2.2.1 s.2.2.2.2.1 s.2.2.2.2.2.1 s.2.2.2.2.2.2
noncomputable def l_if_woods_25 (x : Int32) (a3 : Nat → Int32) (l2 : Int32) (l3 : Int32) (l4 : Int32) (b53 : Nat → Int32) (b54 : Nat → Int32) (c52_1 : Int32) (c52_3 : Int32) : Option T_if_woods := zlp (f_if_woods_25 x a3) (l2, l3, l4, b53, b54, c52_1, c52_3)
noncomputable def q_if_woods (x : Int32) (a3 : Nat → Int32) (a53 : Nat → Int32) (a54 : Nat → Int32) (f52_1 : Int32) (f52_3 : Int32) : Option T_if_woods :=
  zl (w_if_isWithin x 0 1) (fun v1 =>
  bif !decide (v1 = 0) then
   zl (a0_gr_clear a53) (fun v2 =>
   zl (f0_gr_clear a53) (fun v3 =>
   zl (f1_gr_clear a53) (fun v4 =>
   l_if_woods_25 x a3 0 0 0 v2 a54 v3 v4)))
  else
   some ((-1), a53, a54, f52_1, f52_3))
def P_if_woods (Q : Int32 → (Nat → Int32) → (Nat → Int32) → (Nat → Int32) → Int32 → Int32 → Option (Int32 × (Nat → Int32) × (Nat → Int32) × Int32 × Int32)) : zSp := fun as g => match as with
  | [.ref a, .int x] => bif Nat.beq a 0 then zpe (Q x (g.1 3) (g.1 53) (g.1 54) (g.2.1 52 1) (g.2.1 52 3)) (fun t => (some (.int (t.1)), ((zua (zua g.1 53 t.2.1) 54 t.2.2.1), (zuf (zuf g.2.1 52 1 t.2.2.2.1) 52 3 t.2.2.2.2), g.2.2))) else none
  | _ => none
noncomputable abbrev S_if_woods : zSp := P_if_woods q_if_woods
theorem hF6_if_woods (F : Nat → Nat → Int32) : F = (zuf (zuf F 52 1 (F 52 1)) 52 3 (F 52 3)) := zufk_ix F [] [((52, 1), none), ((52, 3), none)] rfl
theorem hA5_if_woods (F : Nat → Nat → Int32) : F = (zua (zua F 53 (F 53)) 54 (F 54)) := zuak_ix F [] [(53, none), (54, none)] rfl
theorem hA4_if_woods (F : Nat → Nat → Int32) (w0 : Nat → Int32) : (zua F 53 w0) = (zua (zua F 53 w0) 54 (F 54)) := zuak_ix F [(53, w0)] [(53, some 0), (54, none)] rfl
theorem hF3_if_woods (F : Nat → Nat → Int32) (w0 w1 w2 w3 w4 : Int32) : (zuf (zuf (zuf (zuf (zuf F 52 1 w0) 52 3 w1) 52 1 w2) 52 1 w3) 52 3 w4) = (zuf (zuf F 52 1 w3) 52 3 w4) := zufk_ix F [((52, 1), w0), ((52, 3), w1), ((52, 1), w2), ((52, 1), w3), ((52, 3), w4)] [((52, 1), some 3), ((52, 3), some 4)] rfl
theorem hA2_if_woods (F : Nat → Nat → Int32) (w0 w1 w2 w3 w4 w5 : Nat → Int32) : (zua (zua (zua (zua (zua (zua F 53 w0) 54 w1) 53 w2) 54 w3) 53 w4) 54 w5) = (zua (zua F 53 w4) 54 w5) := zuak_ix F [(53, w0), (54, w1), (53, w2), (54, w3), (53, w4), (54, w5)] [(53, some 4), (54, some 5)] rfl
theorem hF1_if_woods (F : Nat → Nat → Int32) (w0 w1 : Int32) : (zuf (zuf F 52 1 w0) 52 3 w1) = (zuf (zuf F 52 1 w0) 52 3 w1) := zufk_ix F [((52, 1), w0), ((52, 3), w1)] [((52, 1), some 0), ((52, 3), some 1)] rfl
theorem hA0_if_woods (F : Nat → Nat → Int32) (w0 w1 : Nat → Int32) : (zua (zua F 53 w0) 54 w1) = (zua (zua F 53 w0) 54 w1) := zuak_ix F [(53, w0), (54, w1)] [(53, some 0), (54, some 1)] rfl
def O_if_woods (ar fi : Nat → Nat → Int32) (m1 : Nat) (m2 : Nat) (m3 : Nat) (m4 : Nat) (m5 : Nat) (t : T_if_woods) : zO2 := match t with
  | (t0, t1, t2, t3, t4) => (some (.int (t0)), ((zua (zua ar 53 t1) 54 t2), (zuf (zuf fi 52 1 t3) 52 3 t4), (m1, m2, m3, m4, m5)))
def M_if_woods_25 (X : Nat × (Nat → Int32)) (E : zTE) (ar fi : Nat → Nat → Int32) (m1 : Nat) (m2 : Nat) (m3 : Nat) (m4 : Nat) (m5 : Nat) (x : Int32) (o : zO2) (s : U_if_woods_25) : Prop := match s with
  | (l2, l3, l4, b53, b54, c52_1, c52_3) => zR2 X zFT E zc_129 25 [.ref 0, .int x, .int l2, .int l3, .int l4] [] ((zua (zua ar 53 b53) 54 b54), (zuf (zuf fi 52 1 c52_1) 52 3 c52_3), (m1, m2, m3, m4, m5)) o
set_option maxRecDepth 1000000 in
theorem t25_if_woods {X : Nat × (Nat → Int32)} {ar fi : Nat → Nat → Int32} {m1 m2 m3 m4 m5 : Nat} {x : Int32} {l2 : Int32} {l3 : Int32} {l4 : Int32} {b53 : Nat → Int32} {b54 : Nat → Int32} {c52_1 : Int32} {c52_3 : Int32} {W_if_isWithin : Int32 → Int32 → Int32 → Int32} {A0_gr_clear : (Nat → Int32) → Nat → Int32} {F0_gr_clear : (Nat → Int32) → Int32} {F1_gr_clear : (Nat → Int32) → Int32} {G_gr_light : Int32 → (Nat → Int32) → Int32 → (Nat → Int32) → Bool} {A0_gr_light : Int32 → (Nat → Int32) → Int32 → (Nat → Int32) → Nat → Int32} {A1_gr_light : Int32 → (Nat → Int32) → Int32 → (Nat → Int32) → Nat → Int32} {F0_gr_light : Int32 → (Nat → Int32) → Int32 → (Nat → Int32) → Int32} {Q_gr_goOver : (Nat → Int32) → (Nat → Int32) → (Nat → Int32) → Int32 → Int32 → Option ((Nat → Int32) × (Nat → Int32) × Int32 × Int32)} : zseg X zFT (zEx 137 (P_if_isWithin W_if_isWithin) (zEx 26 (P_gr_clear A0_gr_clear F0_gr_clear F1_gr_clear) (zEx 27 (P_gr_light G_gr_light A0_gr_light A1_gr_light F0_gr_light) (zEx 29 (P_gr_goOver Q_gr_goOver) zE0)))) zc_129 (fun p => Nat.beq p 25) 400 25 [.ref 0, .int x, .int l2, .int l3, .int l4] [] ((zua (zua ar 53 b53) 54 b54), (zuf (zuf fi 52 1 c52_1) 52 3 c52_3), (m1, m2, m3, m4, m5)) = (
  bif decide (96 ≤ l4) then
   bif !decide (x = 0) then
    some (.inr (some (.int l3), ((zua (zua ar 53 b53) 54 b54), (zuf (zuf fi 52 1 c52_1) 52 3 c52_3), (m1, m2, m3, m4, m5))))
   else
    some (.inr (some (.int l2), ((zua (zua ar 53 b53) 54 b54), (zuf (zuf fi 52 1 c52_1) 52 3 c52_3), (m1, m2, m3, m4, m5))))
  else
   zg (Nat.beq 16 16 && (zin l4 96)) (
   bif !decide ((ar 3) (l4.toNatClampNeg) = 1) then
    some (.inl (25, [.ref 0, .int x, .int l2, .int l3, .int (l4 + 1)], [], ((zua (zua ar 53 b53) 54 b54), (zuf (zuf fi 52 1 c52_1) 52 3 c52_3), (m1, m2, m3, m4, m5))))
   else
    zg (Nat.beq 16 16 && (zin l4 96)) (
    bif decide (0 ≤ b53 (l4.toNatClampNeg)) then
     some (.inl (25, [.ref 0, .int x, .int l2, .int l3, .int (l4 + 1)], [], ((zua (zua ar 53 b53) 54 b54), (zuf (zuf fi 52 1 c52_1) 52 3 c52_3), (m1, m2, m3, m4, m5))))
    else
     zg (G_gr_light l4 b53 c52_1 b54) (
     zl (A0_gr_light l4 b53 c52_1 b54) (fun v5 =>
     zl (A1_gr_light l4 b53 c52_1 b54) (fun v6 =>
     zl (F0_gr_light l4 b53 c52_1 b54) (fun v7 =>
     zl (Q_gr_goOver (ar 3) v5 v6 v7 c52_3) (fun v8 => zg v8.isSome (
     some (.inl (25, [.ref 0, .int x, .int (l2 + 1), .int (if l3 < (((zgt v8).2.2.1)) - c52_1 then (((zgt v8).2.2.1)) - c52_1 else l3), .int (l4 + 1)], [], ((zua (zua (zua (zua (zua (zua ar 53 b53) 54 b54) 53 v5) 54 v6) 53 (((zgt v8).1))) 54 (((zgt v8).2.1))), (zuf (zuf (zuf (zuf (zuf fi 52 1 c52_1) 52 3 c52_3) 52 1 v7) 52 1 (((zgt v8).2.2.1))) 52 3 (((zgt v8).2.2.2))), (m1, m2, m3, m4, m5)))))))))))) : Option ((Nat × List Value × List Value × zH2) ⊕ zO2)) := by with_unfolding_all rfl
set_option maxRecDepth 20000 in
theorem k_if_woods_25 {X : Nat × (Nat → Int32)} {ar fi : Nat → Nat → Int32} {m1 m2 m3 m4 m5 : Nat} {x : Int32} {o : zO2} : ∀ (s : U_if_woods_25) (q : U_if_woods_25 ⊕ T_if_woods), f_if_woods_25 x (ar 3) s = some q → zq (M_if_woods_25 X (zEx 137 S_if_isWithin (zEx 26 S_gr_clear (zEx 27 S_gr_light (zEx 29 S_gr_goOver zE0)))) ar fi m1 m2 m3 m4 m5 x o) (fun t => O_if_woods ar fi m1 m2 m3 m4 m5 t = o) q → M_if_woods_25 X (zEx 137 S_if_isWithin (zEx 26 S_gr_clear (zEx 27 S_gr_light (zEx 29 S_gr_goOver zE0)))) ar fi m1 m2 m3 m4 m5 x o s := by
  intro s q h hq
  obtain ⟨l2, l3, l4, b53, b54, c52_1, c52_3⟩ := s
  have h : b_if_woods_25 x (ar 3) l2 l3 l4 b53 b54 c52_1 c52_3 = some q := h
  unfold b_if_woods_25 at h
  show zR2 X zFT (zEx 137 S_if_isWithin (zEx 26 S_gr_clear (zEx 27 S_gr_light (zEx 29 S_gr_goOver zE0)))) zc_129 25 [.ref 0, .int x, .int l2, .int l3, .int l4] [] ((zua (zua ar 53 b53) 54 b54), (zuf (zuf fi 52 1 c52_1) 52 3 c52_3), (m1, m2, m3, m4, m5)) o
  refine zT_seg t25_if_woods ?_
  obtain ⟨TT, hTT⟩ : ∃ T, T = zT X zFT (zEx 137 S_if_isWithin (zEx 26 S_gr_clear (zEx 27 S_gr_light (zEx 29 S_gr_goOver zE0)))) zc_129 o := ⟨_, rfl⟩
  rw [← hTT]
  refine zb_el h (fun hb h => zU_t hTT hb ?_) (fun hb h => zU_f hTT hb ?_)
  · refine zb_el h (fun hb h => zU_t hTT hb ?_) (fun hb h => zU_f hTT hb ?_)
    · rw [hTT]
      have hz := zsi h hq
      refine (zO_mk ?_ ?_).trans hz
      · first | with_reducible rfl | exact hA0_if_woods _ _ _
      · first | with_reducible rfl | exact hF1_if_woods _ _ _
    · rw [hTT]
      have hz := zsi h hq
      refine (zO_mk ?_ ?_).trans hz
      · first | with_reducible rfl | exact hA0_if_woods _ _ _
      · first | with_reducible rfl | exact hF1_if_woods _ _ _
  · refine zg_el h (fun hg h => zU_ga hTT hg ?_)
    refine zb_el h (fun hb h => zU_t hTT hb ?_) (fun hb h => zU_f hTT hb ?_)
    · rw [hTT]
      have hz := zsi h hq
      refine zR2_hp ?_ ?_ hz
      · first | with_reducible rfl | exact hA0_if_woods _ _ _
      · first | with_reducible rfl | exact hF1_if_woods _ _ _
    · refine zg_el h (fun hg h => zU_ga hTT hg ?_)
      refine zb_el h (fun hb h => zU_t hTT hb ?_) (fun hb h => zU_f hTT hb ?_)
      · rw [hTT]
        have hz := zsi h hq
        refine zR2_hp ?_ ?_ hz
        · first | with_reducible rfl | exact hA0_if_woods _ _ _
        · first | with_reducible rfl | exact hF1_if_woods _ _ _
      · refine zg_el h (fun hg h => zU_g hTT hg ?_)
        refine zl_el h (fun h => zU_l hTT ?_)
        refine zl_el h (fun h => zU_l hTT ?_)
        refine zl_el h (fun h => zU_l hTT ?_)
        refine zbd_el h (fun v8 hv h => zU_c hTT hv ?_)
        rw [hTT]
        have hz := zsi h hq
        refine zR2_hp ?_ ?_ hz
        · first | with_reducible rfl | exact hA2_if_woods _ _ _ _ _ _ _
        · first | with_reducible rfl | exact hF3_if_woods _ _ _ _ _ _
set_option maxRecDepth 1000000 in
theorem t_if_woods {X : Nat × (Nat → Int32)} {ar fi : Nat → Nat → Int32} {m1 m2 m3 m4 m5 : Nat} {x : Int32} {W_if_isWithin : Int32 → Int32 → Int32 → Int32} {A0_gr_clear : (Nat → Int32) → Nat → Int32} {F0_gr_clear : (Nat → Int32) → Int32} {F1_gr_clear : (Nat → Int32) → Int32} {G_gr_light : Int32 → (Nat → Int32) → Int32 → (Nat → Int32) → Bool} {A0_gr_light : Int32 → (Nat → Int32) → Int32 → (Nat → Int32) → Nat → Int32} {A1_gr_light : Int32 → (Nat → Int32) → Int32 → (Nat → Int32) → Nat → Int32} {F0_gr_light : Int32 → (Nat → Int32) → Int32 → (Nat → Int32) → Int32} {Q_gr_goOver : (Nat → Int32) → (Nat → Int32) → (Nat → Int32) → Int32 → Int32 → Option ((Nat → Int32) × (Nat → Int32) × Int32 × Int32)} : zseg X zFT (zEx 137 (P_if_isWithin W_if_isWithin) (zEx 26 (P_gr_clear A0_gr_clear F0_gr_clear F1_gr_clear) (zEx 27 (P_gr_light G_gr_light A0_gr_light A1_gr_light F0_gr_light) (zEx 29 (P_gr_goOver Q_gr_goOver) zE0)))) zc_129 (fun p => Nat.beq p 25) 400 0 [.ref 0, .int x] [] (ar, fi, (m1, m2, m3, m4, m5)) = (
  zl (W_if_isWithin x 0 1) (fun v1 =>
  bif !decide (v1 = 0) then
   zl (A0_gr_clear (ar 53)) (fun v2 =>
   zl (F0_gr_clear (ar 53)) (fun v3 =>
   zl (F1_gr_clear (ar 53)) (fun v4 =>
   some (.inl (25, [.ref 0, .int x, .int 0, .int 0, .int 0], [], ((zua ar 53 v2), (zuf (zuf fi 52 1 v3) 52 3 v4), (m1, m2, m3, m4, m5)))))))
  else
   some (.inr (some (.int (-1)), (ar, fi, (m1, m2, m3, m4, m5))))) : Option ((Nat × List Value × List Value × zH2) ⊕ zO2)) := by with_unfolding_all rfl
set_option maxRecDepth 20000 in
theorem e_if_woods {X : Nat × (Nat → Int32)} {ar fi : Nat → Nat → Int32} {m1 m2 m3 m4 m5 : Nat} {x : Int32} {o : zO2} : ∀ (q : T_if_woods), q_if_woods x (ar 3) (ar 53) (ar 54) (fi 52 1) (fi 52 3) = some q → (fun t => O_if_woods ar fi m1 m2 m3 m4 m5 t = o) q → zR2 X zFT (zEx 137 S_if_isWithin (zEx 26 S_gr_clear (zEx 27 S_gr_light (zEx 29 S_gr_goOver zE0)))) zc_129 0 [.ref 0, .int x] [] (ar, fi, (m1, m2, m3, m4, m5)) o := by
  intro q h hq
  unfold q_if_woods at h
  refine zT_seg t_if_woods ?_
  obtain ⟨TT, hTT⟩ : ∃ T, T = zT X zFT (zEx 137 S_if_isWithin (zEx 26 S_gr_clear (zEx 27 S_gr_light (zEx 29 S_gr_goOver zE0)))) zc_129 o := ⟨_, rfl⟩
  rw [← hTT]
  refine zl_el h (fun h => zU_l hTT ?_)
  refine zb_el h (fun hb h => zU_t hTT hb ?_) (fun hb h => zU_f hTT hb ?_)
  · refine zl_el h (fun h => zU_l hTT ?_)
    refine zl_el h (fun h => zU_l hTT ?_)
    refine zl_el h (fun h => zU_l hTT ?_)
    rw [hTT]
    refine zR2_hp ?_ ?_ (zlp_K k_if_woods_25 h hq)
    · first | with_reducible rfl | exact hA4_if_woods _ _
    · first | with_reducible rfl | exact hF1_if_woods _ _ _
  · rw [hTT]
    have hz := zsi (P := (fun t => O_if_woods ar fi m1 m2 m3 m4 m5 t = o)) h hq
    refine (zO_mk ?_ ?_).trans hz
    · first | with_reducible rfl | exact hA5_if_woods _
    · first | with_reducible rfl | exact hF6_if_woods _
theorem ok_if_woods (X : Nat × (Nat → Int32)) : zOkS X 129 S_if_woods 3 := zOkS_new (zOkE_cons (ok_if_isWithin X) (by decide) (zOkE_cons (ok_gr_clear X) (by decide) (zOkE_cons (ok_gr_light X) (by decide) (zOkE_cons (ok_gr_goOver X) (by decide) (zOkE_nil X 2))))) (by
  intro args g o h
  obtain ⟨ar, fi, m1, m2, m3, m4, m5⟩ := g
  unfold S_if_woods P_if_woods at h
  split at h
  · refine zb_el h (fun hI0 k0 => ?_) (fun _ h10 => ?_)
    · try simp only [Bool.and_eq_true] at hI0
      have j0 := hI0
      have e0 := Nat.eq_of_beq_eq_true j0
      subst e0
      exact zpe_el k0 (fun t ht ho => by obtain ⟨t0, t1, t2, t3, t4⟩ := t; exact e_if_woods _ ht ho)
    · cases h10
  · cases h)
