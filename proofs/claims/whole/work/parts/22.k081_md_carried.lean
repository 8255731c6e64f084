abbrev T_md_carried : Type := Int32 × (Nat → Int32) × Int32
abbrev U_md_carried_68 : Type := Int32 × Int32
abbrev U_md_carried_29 : Type := Int32
noncomputable def b_md_carried_68 (x : Int32) (a70 : Nat → Int32) (b94 : Nat → Int32) (c64_6 : Int32) (l2 : Int32) (l3 : Int32) : Option (U_md_carried_68 ⊕ T_md_carried) :=
  bif decide (1 <<< (x &&& 31) ≤ l3) then
   some (.inr (l2, b94, c64_6))
  else
   zbd (q_md_worthOf l3 x a70 b94) (fun v5 =>
   zl (w_md_max l2 (v5)) (fun v6 =>
   some (.inl (v6, l3 + 1))))
noncomputable def f_md_carried_68 (x : Int32) (a70 : Nat → Int32) (b94 : Nat → Int32) (c64_6 : Int32) : U_md_carried_68 → Option (U_md_carried_68 ⊕ T_md_carried) := fun s => b_md_carried_68 x a70 b94 c64_6 s.1 s.2
noncomputable def l_md_carried_68 (x : Int32) (a70 : Nat → Int32) (b94 : Nat → Int32) (c64_6 : Int32) (l2 : Int32) (l3 : Int32) : Option T_md_carried := zlp (f_md_carried_68 x a70 b94 c64_6) (l2, l3)
noncomputable def b_md_carried_29 (x : Int32) (a70 : Nat → Int32) (b94 : Nat → Int32) (c64_6 : Int32) (l2 : Int32) : Option (U_md_carried_29 ⊕ T_md_carried) :=
  bif decide (x ≤ l2) then
   zbd (q_md_laysRow x a70 b94) (fun v2 =>
   zbd (l_md_carried_68 x a70 (v2) c64_6 0 0) (fun k => some (.inr k)))
  else
   zg (g_md_octet (3 * l2) a70) (
   zl (w_md_octet (3 * l2) a70) (fun v3 =>
   zl (w_md_in v3 1 60) (fun v4 =>
   bif !decide (v4 = 0) then
    some (.inl (l2 + 1))
   else
    some (.inr ((-2), b94, c64_6)))))
noncomputable def f_md_carried_29 (x : Int32) (a70 : Nat → Int32) (b94 : Nat → Int32) (c64_6 : Int32) : U_md_carried_29 → Option (U_md_carried_29 ⊕ T_md_carried) := fun s => b_md_carried_29 x a70 b94 c64_6 s
noncomputable def l_md_carried_29 (x : Int32) (a70 : Nat → Int32) (b94 : Nat → Int32) (c64_6 : Int32) (l2 : Int32) : Option T_md_carried := zlp (f_md_carried_29 x a70 b94 c64_6) l2
noncomputable def q_md_carried (x : Int32) (a70 : Nat → Int32) (a94 : Nat → Int32) (f64_6 : Int32) : Option T_md_carried :=
  zl (w_md_in x 1 10) (fun v1 =>
  bif decide (v1 = 0) then
   some ((-1), a94, f64_6)
  else
   bif decide (3 * x ≤ f64_6) then
    l_md_carried_29 x a70 a94 0 0
   else
    some ((-1), a94, f64_6))
def P_md_carried (Q : Int32 → (Nat → Int32) → (Nat → Int32) → Int32 → Option (Int32 × (Nat → Int32) × Int32)) : zSp := fun as g => match as with
  | [.ref a, .int x] => bif Nat.beq a 64 then zpe (Q x (g.1 70) (g.1 94) (g.2.1 64 6)) (fun t => (some (.int (t.1)), ((zua g.1 94 t.2.1), (zuf g.2.1 64 6 t.2.2), g.2.2))) else none
  | _ => none
noncomputable abbrev S_md_carried : zSp := P_md_carried q_md_carried
theorem hF4_md_carried (F : Nat → Nat → Int32) : F = (zuf F 64 6 (F 64 6)) := zufk_ix F [] [((64, 6), none)] rfl
theorem hA3_md_carried (F : Nat → Nat → Int32) : F = (zua F 94 (F 94)) := zuak_ix F [] [(94, none)] rfl
theorem hA2_md_carried (F : Nat → Nat → Int32) (w0 w1 : Nat → Int32) : (zua (zua F 94 w0) 94 w1) = (zua F 94 w1) := zuak_ix F [(94, w0), (94, w1)] [(94, some 1)] rfl
theorem hF1_md_carried (F : Nat → Nat → Int32) (w0 : Int32) : (zuf F 64 6 w0) = (zuf F 64 6 w0) := zufk_ix F [((64, 6), w0)] [((64, 6), some 0)] rfl
theorem hA0_md_carried (F : Nat → Nat → Int32) (w0 : Nat → Int32) : (zua F 94 w0) = (zua F 94 w0) := zuak_ix F [(94, w0)] [(94, some 0)] rfl
def O_md_carried (ar fi : Nat → Nat → Int32) (m1 : Nat) (m2 : Nat) (m3 : Nat) (m4 : Nat) (m5 : Nat) (t : T_md_carried) : zO2 := match t with
  | (t0, t1, t2) => (some (.int (t0)), ((zua ar 94 t1), (zuf fi 64 6 t2), (m1, m2, m3, m4, m5)))
def M_md_carried_68 (X : Nat × (Nat → Int32)) (E : zTE) (ar fi : Nat → Nat → Int32) (m1 : Nat) (m2 : Nat) (m3 : Nat) (m4 : Nat) (m5 : Nat) (x : Int32) (b94 : Nat → Int32) (c64_6 : Int32) (o : zO2) (s : U_md_carried_68) : Prop := match s with
  | (l2, l3) => zR2 X zFT E zc_240 68 [.ref 64, .int x, .int l2, .int l3] [] ((zua ar 94 b94), (zuf fi 64 6 c64_6), (m1, m2, m3, m4, m5)) o
def M_md_carried_29 (X : Nat × (Nat → Int32)) (E : zTE) (ar fi : Nat → Nat → Int32) (m1 : Nat) (m2 : Nat) (m3 : Nat) (m4 : Nat) (m5 : Nat) (x : Int32) (b94 : Nat → Int32) (c64_6 : Int32) (o : zO2) (s : U_md_carried_29) : Prop := zR2 X zFT E zc_240 29 [.ref 64, .int x, .int s] [] ((zua ar 94 b94), (zuf fi 64 6 c64_6), (m1, m2, m3, m4, m5)) o
set_option maxRecDepth 1000000 in
theorem t68_md_carried {X : Nat × (Nat → Int32)} {ar fi : Nat → Nat → Int32} {m1 m2 m3 m4 m5 : Nat} {x : Int32} {l2 : Int32} {l3 : Int32} {b94 : Nat → Int32} {c64_6 : Int32} {W_md_in : Int32 → Int32 → Int32 → Int32} {G_md_octet : Int32 → (Nat → Int32) → Bool} {W_md_octet : Int32 → (Nat → Int32) → Int32} {Q_md_laysRow : Int32 → (Nat → Int32) → (Nat → Int32) → Option ((Nat → Int32))} {Q_md_worthOf : Int32 → Int32 → (Nat → Int32) → (Nat → Int32) → Option (Int32)} {W_md_max : Int32 → Int32 → Int32} : zseg X zFT (zEx 143 (P_md_in W_md_in) (zEx 157 (P_md_octet G_md_octet W_md_octet) (zEx 238 (P_md_laysRow Q_md_laysRow) (zEx 239 (P_md_worthOf Q_md_worthOf) (zEx 144 (P_md_max W_md_max) zE0))))) zc_240 (fun p => Nat.beq p 68 || Nat.beq p 29) 400 68 [.ref 64, .int x, .int l2, .int l3] [] ((zua ar 94 b94), (zuf fi 64 6 c64_6), (m1, m2, m3, m4, m5)) = (
  bif decide (1 <<< (x &&& 31) ≤ l3) then
   some (.inr (some (.int l2), ((zua ar 94 b94), (zuf fi 64 6 c64_6), (m1, m2, m3, m4, m5))))
  else
   zl (Q_md_worthOf l3 x (ar 70) b94) (fun v5 => zg v5.isSome (
   zl (W_md_max l2 (((zgt v5)))) (fun v6 =>
   some (.inl (68, [.ref 64, .int x, .int v6, .int (l3 + 1)], [], ((zua ar 94 b94), (zuf fi 64 6 c64_6), (m1, m2, m3, m4, m5))))))) : Option ((Nat × List Value × List Value × zH2) ⊕ zO2)) := by with_unfolding_all rfl
set_option maxRecDepth 20000 in
theorem k_md_carried_68 {X : Nat × (Nat → Int32)} {ar fi : Nat → Nat → Int32} {m1 m2 m3 m4 m5 : Nat} {x : Int32} {b94 : Nat → Int32} {c64_6 : Int32} {o : zO2} : ∀ (s : U_md_carried_68) (q : U_md_carried_68 ⊕ T_md_carried), f_md_carried_68 x (ar 70) b94 c64_6 s = some q → zq (M_md_carried_68 X (zEx 143 S_md_in (zEx 157 S_md_octet (zEx 238 S_md_laysRow (zEx 239 S_md_worthOf (zEx 144 S_md_max zE0))))) ar fi m1 m2 m3 m4 m5 x b94 c64_6 o) (fun t => O_md_carried ar fi m1 m2 m3 m4 m5 t = o) q → M_md_carried_68 X (zEx 143 S_md_in (zEx 157 S_md_octet (zEx 238 S_md_laysRow (zEx 239 S_md_worthOf (zEx 144 S_md_max zE0))))) ar fi m1 m2 m3 m4 m5 x b94 c64_6 o s := by
  intro s q h hq
  obtain ⟨l2, l3⟩ := s
  have h : b_md_carried_68 x (ar 70) b94 c64_6 l2 l3 = some q := h
  unfold b_md_carried_68 at h
  show zR2 X zFT (zEx 143 S_md_in (zEx 157 S_md_octet (zEx 238 S_md_laysRow (zEx 239 S_md_worthOf (zEx 144 S_md_max zE0))))) zc_240 68 [.ref 64, .int x, .int l2, .int l3] [] ((zua ar 94 b94), (zuf fi 64 6 c64_6), (m1, m2, m3, m4, m5)) o
  refine zT_seg t68_md_carried ?_
  obtain ⟨TT, hTT⟩ : ∃ T, T = zT X zFT (zEx 143 S_md_in (zEx 157 S_md_octet (zEx 238 S_md_laysRow (zEx 239 S_md_worthOf (zEx 144 S_md_max zE0))))) zc_240 o := ⟨_, rfl⟩
  rw [← hTT]
  refine zb_el h (fun hb h => zU_t hTT hb ?_) (fun hb h => zU_f hTT hb ?_)
  · rw [hTT]
    have hz := zsi h hq
    refine (zO_mk ?_ ?_).trans hz
    · first | with_reducible rfl | exact hA0_md_carried _ _
    · first | with_reducible rfl | exact hF1_md_carried _ _
  · refine zbd_el h (fun v5 hv h => zU_c hTT hv ?_)
    refine zl_el h (fun h => zU_l hTT ?_)
    rw [hTT]
    have hz := zsi h hq
    refine zR2_hp ?_ ?_ hz
    · first | with_reducible rfl | exact hA0_md_carried _ _
    · first | with_reducible rfl | exact hF1_md_carried _ _
set_option maxRecDepth 1000000 in
theorem t29_md_carried {X : Nat × (Nat → Int32)} {ar fi : Nat → Nat → Int32} {m1 m2 m3 m4 m5 : Nat} {x : Int32} {l2 : Int32} {b94 : Nat → Int32} {c64_6 : Int32} {W_md_in : Int32 → Int32 → Int32 → Int32} {G_md_octet : Int32 → (Nat → Int32) → Bool} {W_md_octet : Int32 → (Nat → Int32) → Int32} {Q_md_laysRow : Int32 → (Nat → Int32) → (Nat → Int32) → Option ((Nat → Int32))} {Q_md_worthOf : Int32 → Int32 → (Nat → Int32) → (Nat → Int32) → Option (Int32)} {W_md_max : Int32 → Int32 → Int32} : zseg X zFT (zEx 143 (P_md_in W_md_in) (zEx 157 (P_md_octet G_md_octet W_md_octet) (zEx 238 (P_md_laysRow Q_md_laysRow) (zEx 239 (P_md_worthOf Q_md_worthOf) (zEx 144 (P_md_max W_md_max) zE0))))) zc_240 (fun p => Nat.beq p 68 || Nat.beq p 29) 400 29 [.ref 64, .int x, .int l2] [] ((zua ar 94 b94), (zuf fi 64 6 c64_6), (m1, m2, m3, m4, m5)) = (
  bif decide (x ≤ l2) then
   zl (Q_md_laysRow x (ar 70) b94) (fun v2 => zg v2.isSome (
   some (.inl (68, [.ref 64, .int x, .int 0, .int 0], [], ((zua (zua ar 94 b94) 94 (((zgt v2)))), (zuf fi 64 6 c64_6), (m1, m2, m3, m4, m5))))))
  else
   zg (G_md_octet (3 * l2) (ar 70)) (
   zl (W_md_octet (3 * l2) (ar 70)) (fun v3 =>
   zl (W_md_in v3 1 60) (fun v4 =>
   bif !decide (v4 = 0) then
    some (.inl (29, [.ref 64, .int x, .int (l2 + 1)], [], ((zua ar 94 b94), (zuf fi 64 6 c64_6), (m1, m2, m3, m4, m5))))
   else
    some (.inr (some (.int (-2)), ((zua ar 94 b94), (zuf fi 64 6 c64_6), (m1, m2, m3, m4, m5))))))) : Option ((Nat × List Value × List Value × zH2) ⊕ zO2)) := by with_unfolding_all rfl
set_option maxRecDepth 20000 in
theorem k_md_carried_29 {X : Nat × (Nat → Int32)} {ar fi : Nat → Nat → Int32} {m1 m2 m3 m4 m5 : Nat} {x : Int32} {b94 : Nat → Int32} {c64_6 : Int32} {o : zO2} : ∀ (s : U_md_carried_29) (q : U_md_carried_29 ⊕ T_md_carried), f_md_carried_29 x (ar 70) b94 c64_6 s = some q → zq (M_md_carried_29 X (zEx 143 S_md_in (zEx 157 S_md_octet (zEx 238 S_md_laysRow (zEx 239 S_md_worthOf (zEx 144 S_md_max zE0))))) ar fi m1 m2 m3 m4 m5 x b94 c64_6 o) (fun t => O_md_carried ar fi m1 m2 m3 m4 m5 t = o) q → M_md_carried_29 X (zEx 143 S_md_in (zEx 157 S_md_octet (zEx 238 S_md_laysRow (zEx 239 S_md_worthOf (zEx 144 S_md_max zE0))))) ar fi m1 m2 m3 m4 m5 x b94 c64_6 o s := by
  intro l2 q h hq
  have h : b_md_carried_29 x (ar 70) b94 c64_6 l2 = some q := h
  unfold b_md_carried_29 at h
  show zR2 X zFT (zEx 143 S_md_in (zEx 157 S_md_octet (zEx 238 S_md_laysRow (zEx 239 S_md_worthOf (zEx 144 S_md_max zE0))))) zc_240 29 [.ref 64, .int x, .int l2] [] ((zua ar 94 b94), (zuf fi 64 6 c64_6), (m1, m2, m3, m4, m5)) o
  refine zT_seg t29_md_carried ?_
  obtain ⟨TT, hTT⟩ : ∃ T, T = zT X zFT (zEx 143 S_md_in (zEx 157 S_md_octet (zEx 238 S_md_laysRow (zEx 239 S_md_worthOf (zEx 144 S_md_max zE0))))) zc_240 o := ⟨_, rfl⟩
  rw [← hTT]
  refine zb_el h (fun hb h => zU_t hTT hb ?_) (fun hb h => zU_f hTT hb ?_)
  · refine zbd_el h (fun v2 hv h => zU_c hTT hv ?_)
    rw [hTT]
    refine zbd_el h (fun r hr h => ?_)
    have hz := zsi h hq
    refine zR2_hp ?_ ?_ (zlp_K k_md_carried_68 hr hz)
    · first | with_reducible rfl | exact hA2_md_carried _ _ _
    · first | with_reducible rfl | exact hF1_md_carried _ _
  · refine zg_el h (fun hg h => zU_g hTT hg ?_)
    refine zl_el h (fun h => zU_l hTT ?_)
    refine zl_el h (fun h => zU_l hTT ?_)
    refine zb_el h (fun hb h => zU_t hTT hb ?_) (fun hb h => zU_f hTT hb ?_)
    · rw [hTT]
      have hz := zsi h hq
      refine zR2_hp ?_ ?_ hz
      · first | with_reducible rfl | exact hA0_md_carried _ _
      · first | with_reducible rfl | exact hF1_md_carried _ _
    · rw [hTT]
      have hz := zsi h hq
      refine (zO_mk ?_ ?_).trans hz
      · first | with_reducible rfl | exact hA0_md_carried _ _
      · first | with_reducible rfl | exact hF1_md_carried _ _
set_option maxRecDepth 1000000 in
theorem t_md_carried {X : Nat × (Nat → Int32)} {ar fi : Nat → Nat → Int32} {m1 m2 m3 m4 m5 : Nat} {x : Int32} {W_md_in : Int32 → Int32 → Int32 → Int32} {G_md_octet : Int32 → (Nat → Int32) → Bool} {W_md_octet : Int32 → (Nat → Int32) → Int32} {Q_md_laysRow : Int32 → (Nat → Int32) → (Nat → Int32) → Option ((Nat → Int32))} {Q_md_worthOf : Int32 → Int32 → (Nat → Int32) → (Nat → Int32) → Option (Int32)} {W_md_max : Int32 → Int32 → Int32} : zseg X zFT (zEx 143 (P_md_in W_md_in) (zEx 157 (P_md_octet G_md_octet W_md_octet) (zEx 238 (P_md_laysRow Q_md_laysRow) (zEx 239 (P_md_worthOf Q_md_worthOf) (zEx 144 (P_md_max W_md_max) zE0))))) zc_240 (fun p => Nat.beq p 68 || Nat.beq p 29) 400 0 [.ref 64, .int x] [] (ar, fi, (m1, m2, m3, m4, m5)) = (
  zl (W_md_in x 1 10) (fun v1 =>
  bif decide (v1 = 0) then
   some (.inr (some (.int (-1)), (ar, fi, (m1, m2, m3, m4, m5))))
  else
   bif decide (3 * x ≤ fi 64 6) then
    some (.inl (29, [.ref 64, .int x, .int 0], [], (ar, (zuf fi 64 6 0), (m1, m2, m3, m4, m5))))
   else
    some (.inr (some (.int (-1)), (ar, fi, (m1, m2, m3, m4, m5))))) : Option ((Nat × List Value × List Value × zH2) ⊕ zO2)) := by with_unfolding_all rfl
set_option maxRecDepth 20000 in
theorem e_md_carried {X : Nat × (Nat → Int32)} {ar fi : Nat → Nat → Int32} {m1 m2 m3 m4 m5 : Nat} {x : Int32} {o : zO2} : ∀ (q : T_md_carried), q_md_carried x (ar 70) (ar 94) (fi 64 6) = some q → (fun t => O_md_carried ar fi m1 m2 m3 m4 m5 t = o) q → zR2 X zFT (zEx 143 S_md_in (zEx 157 S_md_octet (zEx 238 S_md_laysRow (zEx 239 S_md_worthOf (zEx 144 S_md_max zE0))))) zc_240 0 [.ref 64, .int x] [] (ar, fi, (m1, m2, m3, m4, m5)) o := by
  intro q h hq
  unfold q_md_carried at h
  refine zT_seg t_md_carried ?_
  obtain ⟨TT, hTT⟩ : ∃ T, T = zT X zFT (zEx 143 S_md_in (zEx 157 S_md_octet (zEx 238 S_md_laysRow (zEx 239 S_md_worthOf (zEx 144 S_md_max zE0))))) zc_240 o := ⟨_, rfl⟩
  rw [← hTT]
  refine zl_el h (fun h => zU_l hTT ?_)
  refine zb_el h (fun hb h => zU_t hTT hb ?_) (fun hb h => zU_f hTT hb ?_)
  · rw [hTT]
    have hz := zsi (P := (fun t => O_md_carried ar fi m1 m2 m3 m4 m5 t = o)) h hq
    refine (zO_mk ?_ ?_).trans hz
    · first | with_reducible rfl | exact hA3_md_carried _
    · first | with_reducible rfl | exact hF4_md_carried _
  · refine zb_el h (fun hb h => zU_t hTT hb ?_) (fun hb h => zU_f hTT hb ?_)
    · rw [hTT]
      refine zR2_hp ?_ ?_ (zlp_K k_md_carried_29 h hq)
      · first | with_reducible rfl | exact hA3_md_carried _
      · first | with_reducible rfl | exact hF1_md_carried _ _
    · rw [hTT]
      have hz := zsi (P := (fun t => O_md_carried ar fi m1 m2 m3 m4 m5 t = o)) h hq
      refine (zO_mk ?_ ?_).trans hz
      · first | with_reducible rfl | exact hA3_md_carried _
      · first | with_reducible rfl | exact hF4_md_carried _
theorem ok_md_carried (X : Nat × (Nat → Int32)) : zOkS X 240 S_md_carried 3 := zOkS_new (zOkE_cons (ok_md_in X) (by decide) (zOkE_cons (ok_md_octet X) (by decide) (zOkE_cons (ok_md_laysRow X) (by decide) (zOkE_cons (ok_md_worthOf X) (by decide) (zOkE_cons (ok_md_max X) (by decide) (zOkE_nil X 2)))))) (by
  intro args g o h
  obtain ⟨ar, fi, m1, m2, m3, m4, m5⟩ := g
  unfold S_md_carried P_md_carried at h
  split at h
  · refine zb_el h (fun hI0 k0 => ?_) (fun _ h10 => ?_)
    · try simp only [Bool.and_eq_true] at hI0
      have j0 := hI0
      have e0 := Nat.eq_of_beq_eq_true j0
      subst e0
      exact zpe_el k0 (fun t ht ho => by obtain ⟨t0, t1, t2⟩ := t; exact e_md_carried _ ht ho)
    · cases h10
  · cases h)
