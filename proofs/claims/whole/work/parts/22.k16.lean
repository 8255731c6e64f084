abbrev T_md_carried : Type := Int32 × (Nat → Int32) × Int32
abbrev U_md_carried_68 : Type := Int32 × Int32
abbrev U_md_carried_29 : Type := Int32
noncomputable def b_md_carried_68 (x : Int32) (a70 : Nat → Int32) (b94 : Nat → Int32) (c64_6 : Int32) (l2 : Int32) (l3 : Int32) : Option (U_md_carried_68 ⊕ T_md_carried) :=
  bif decide (1 <<< (x &&& 31) ≤ l3) then
   some (.inr (l2, b94, c64_6))
  else
   zbd (q_md_worthOf l3 x a70 b94) (fun v5 =>
   zl (w_md_max l2 (v5)) (fun v6 =>
   some (.inl (v6, l3 + 1))))
noncomputable def f_md_carried_68 (x : Int32) (a70 : Nat → Int32) (b94 : Nat → Int32) (c64_6 : Int32) : U_md_carried_68 → Option (U_md_carried_68 ⊕ T_md_carried) := fun s => b_md_carried_68 x a70 b94 c64_6 s.1 s.2
noncomputable def l_md_carried_68 (x : Int32) (a70 : Nat → Int32) (b94 : Nat → Int32) (c64_6 : Int32) (l2 : Int32) (l3 : Int32) : Option T_md_carried := zlp (f_md_carried_68 x a70 b94 c64_6) (l2, l3)
noncomputable def b_md_carried_29 (x : Int32) (a70 : Nat → Int32) (b94 : Nat → Int32) (c64_6 : Int32) (l2 : Int32) : Option (U_md_carried_29 ⊕ T_md_carried) :=
  bif decide (x ≤ l2) then
   zbd (q_md_laysRow x a70 b94) (fun v2 =>
   zbd (l_md_carried_68 x a70 (v2) c64_6 0 0) (fun k => some (.inr k)))
  else
   zg (g_md_octet (3 * l2) a70) (
   zl (w_md_octet (3 * l2) a70) (fun v3 =>
   zl (w_md_in v3 1 60) (fun v4 =>
   bif !decide (v4 = 0) then
    some (.inl (l2 + 1))
   else
    some (.inr ((-2), b94, c64_6)))))
noncomputable def f_md_carried_29 (x : Int32) (a70 : Nat → Int32) (b94 : Nat → Int32) (c64_6 : Int32) : U_md_carried_29 → Option (U_md_carried_29 ⊕ T_md_carried) := fun s => b_md_carried_29 x a70 b94 c64_6 s
noncomputable def l_md_carried_29 (x : Int32) (a70 : Nat → Int32) (b94 : Nat → Int32) (c64_6 : Int32) (l2 : Int32) : Option T_md_carried := zlp (f_md_carried_29 x a70 b94 c64_6) l2
noncomputable def q_md_carried (x : Int32) (a70 : Nat → Int32) (a94 : Nat → Int32) (f64_6 : Int32) : Option T_md_carried :=
  zl (w_md_in x 1 10) (fun v1 =>
  bif decide (v1 = 0) then
   some ((-1), a94, f64_6)
  else
   bif decide (3 * x ≤ f64_6) then
    l_md_carried_29 x a70 a94 0 0
   else
    some ((-1), a94, f64_6))
def P_md_carried (Q : Int32 → (Nat → Int32) → (Nat → Int32) → Int32 → Option (Int32 × (Nat → Int32) × Int32)) : zSp := fun as g => match as with
  | [.ref a, .int x] => bif Nat.beq a 64 then zpe (Q x (g.1 70) (g.1 94) (g.2.1 64 6)) (fun t => (some (.int (t.1)), ((zua g.1 94 t.2.1), (zuf g.2.1 64 6 t.2.2), g.2.2))) else none
  | _ => none
noncomputable abbrev S_md_carried : zSp := P_md_carried q_md_carried
def O_md_carried (ar fi : Nat → Nat → Int32) (m1 : Nat) (m2 : Nat) (m3 : Nat) (m4 : Nat) (m5 : Nat) (t : T_md_carried) : zO2 := (some (.int (t.1)), ((zua ar 94 t.2.1), (zuf fi 64 6 t.2.2), (m1, m2, m3, m4, m5)))
def M_md_carried_68 (X : Nat × (Nat → Int32)) (E : zTE) (ar fi : Nat → Nat → Int32) (m1 : Nat) (m2 : Nat) (m3 : Nat) (m4 : Nat) (m5 : Nat) (x : Int32) (b94 : Nat → Int32) (c64_6 : Int32) (o : zO2) (s : U_md_carried_68) : Prop := zR2 X zFT E zc_240 68 [.ref 64, .int x, .int s.1, .int s.2] [] ((zua ar 94 b94), (zuf fi 64 6 c64_6), (m1, m2, m3, m4, m5)) o
def M_md_carried_29 (X : Nat × (Nat → Int32)) (E : zTE) (ar fi : Nat → Nat → Int32) (m1 : Nat) (m2 : Nat) (m3 : Nat) (m4 : Nat) (m5 : Nat) (x : Int32) (b94 : Nat → Int32) (c64_6 : Int32) (o : zO2) (s : U_md_carried_29) : Prop := zR2 X zFT E zc_240 29 [.ref 64, .int x, .int s] [] ((zua ar 94 b94), (zuf fi 64 6 c64_6), (m1, m2, m3, m4, m5)) o
set_option maxRecDepth 20000 in
theorem t68_md_carried {X : Nat × (Nat → Int32)} {ar fi : Nat → Nat → Int32} {m1 m2 m3 m4 m5 : Nat} {x : Int32} {l2 : Int32} {l3 : Int32} {b94 : Nat → Int32} {c64_6 : Int32} {W_md_in : Int32 → Int32 → Int32 → Int32} {G_md_octet : Int32 → (Nat → Int32) → Bool} {W_md_octet : Int32 → (Nat → Int32) → Int32} {Q_md_laysRow : Int32 → (Nat → Int32) → (Nat → Int32) → Option ((Nat → Int32))} {Q_md_worthOf : Int32 → Int32 → (Nat → Int32) → (Nat → Int32) → Option (Int32)} {W_md_max : Int32 → Int32 → Int32} : zseg X zFT (zEx 143 (P_md_in W_md_in) (zEx 157 (P_md_octet G_md_octet W_md_octet) (zEx 238 (P_md_laysRow Q_md_laysRow) (zEx 239 (P_md_worthOf Q_md_worthOf) (zEx 144 (P_md_max W_md_max) zE0))))) zc_240 (fun p => Nat.beq p 68 || Nat.beq p 29) 400 68 [.ref 64, .int x, .int l2, .int l3] [] ((zua ar 94 b94), (zuf fi 64 6 c64_6), (m1, m2, m3, m4, m5)) = (
  bif decide (1 <<< (x &&& 31) ≤ l3) then
   some (.inr (some (.int l2), ((zua ar 94 b94), (zuf fi 64 6 c64_6), (m1, m2, m3, m4, m5))))
  else
   zl (Q_md_worthOf l3 x (ar 70) b94) (fun v5 => zg v5.isSome (
   zl (W_md_max l2 (((zgt v5)))) (fun v6 =>
   some (.inl (68, [.ref 64, .int x, .int v6, .int (l3 + 1)], [], ((zua ar 94 b94), (zuf fi 64 6 c64_6), (m1, m2, m3, m4, m5))))))) : Option ((Nat × List Value × List Value × zH2) ⊕ zO2)) := rfl
theorem k_md_carried_68 {X : Nat × (Nat → Int32)} {ar fi : Nat → Nat → Int32} {m1 m2 m3 m4 m5 : Nat} {x : Int32} {b94 : Nat → Int32} {c64_6 : Int32} {o : zO2} : ∀ (s : U_md_carried_68) (q : U_md_carried_68 ⊕ T_md_carried), f_md_carried_68 x (ar 70) b94 c64_6 s = some q → zq (M_md_carried_68 X (zEx 143 S_md_in (zEx 157 S_md_octet (zEx 238 S_md_laysRow (zEx 239 S_md_worthOf (zEx 144 S_md_max zE0))))) ar fi m1 m2 m3 m4 m5 x b94 c64_6 o) (fun t => O_md_carried ar fi m1 m2 m3 m4 m5 t = o) q → M_md_carried_68 X (zEx 143 S_md_in (zEx 157 S_md_octet (zEx 238 S_md_laysRow (zEx 239 S_md_worthOf (zEx 144 S_md_max zE0))))) ar fi m1 m2 m3 m4 m5 x b94 c64_6 o s := by
  intro s q h hq
  obtain ⟨l2, l3⟩ := s
  have h : b_md_carried_68 x (ar 70) b94 c64_6 l2 l3 = some q := h
  unfold b_md_carried_68 at h
  show zR2 X zFT (zEx 143 S_md_in (zEx 157 S_md_octet (zEx 238 S_md_laysRow (zEx 239 S_md_worthOf (zEx 144 S_md_max zE0))))) zc_240 68 [.ref 64, .int x, .int l2, .int l3] [] ((zua ar 94 b94), (zuf fi 64 6 c64_6), (m1, m2, m3, m4, m5)) o
  refine zT_seg t68_md_carried ?_
  refine zb_el h (fun hb h => zT_t hb ?_) (fun hb h => zT_f hb ?_)
  · have hz := zsi h hq
    refine (zO_mk ?_ ?_).trans hz
    · first | with_reducible rfl | (exact zuas_eq _ [(94, _)] [(94, _)] [94] rfl rfl ⟨rfl, trivial⟩)
    · first | with_reducible rfl | (exact zufs_eq _ [(64, 6, _)] [(64, 6, _)] [(64, 6)] rfl rfl ⟨rfl, trivial⟩)
  · refine zbd_el h (fun v5 hv h => zT_c hv ?_)
    refine zl_el h (fun h => zT_l ?_)
    have hz := zsi h hq
    refine zR2_hp ?_ ?_ hz
    · first | with_reducible rfl | (exact zuas_eq _ [(94, _)] [(94, _)] [94] rfl rfl ⟨rfl, trivial⟩)
    · first | with_reducible rfl | (exact zufs_eq _ [(64, 6, _)] [(64, 6, _)] [(64, 6)] rfl rfl ⟨rfl, trivial⟩)
set_option maxRecDepth 20000 in
theorem t29_md_carried {X : Nat × (Nat → Int32)} {ar fi : Nat → Nat → Int32} {m1 m2 m3 m4 m5 : Nat} {x : Int32} {l2 : Int32} {b94 : Nat → Int32} {c64_6 : Int32} {W_md_in : Int32 → Int32 → Int32 → Int32} {G_md_octet : Int32 → (Nat → Int32) → Bool} {W_md_octet : Int32 → (Nat → Int32) → Int32} {Q_md_laysRow : Int32 → (Nat → Int32) → (Nat → Int32) → Option ((Nat → Int32))} {Q_md_worthOf : Int32 → Int32 → (Nat → Int32) → (Nat → Int32) → Option (Int32)} {W_md_max : Int32 → Int32 → Int32} : zseg X zFT (zEx 143 (P_md_in W_md_in) (zEx 157 (P_md_octet G_md_octet W_md_octet) (zEx 238 (P_md_laysRow Q_md_laysRow) (zEx 239 (P_md_worthOf Q_md_worthOf) (zEx 144 (P_md_max W_md_max) zE0))))) zc_240 (fun p => Nat.beq p 68 || Nat.beq p 29) 400 29 [.ref 64, .int x, .int l2] [] ((zua ar 94 b94), (zuf fi 64 6 c64_6), (m1, m2, m3, m4, m5)) = (
  bif decide (x ≤ l2) then
   zl (Q_md_laysRow x (ar 70) b94) (fun v2 => zg v2.isSome (
   some (.inl (68, [.ref 64, .int x, .int 0, .int 0], [], ((zua (zua ar 94 b94) 94 (((zgt v2)))), (zuf fi 64 6 c64_6), (m1, m2, m3, m4, m5))))))
  else
   zg (G_md_octet (3 * l2) (ar 70)) (
   zl (W_md_octet (3 * l2) (ar 70)) (fun v3 =>
   zl (W_md_in v3 1 60) (fun v4 =>
   bif !decide (v4 = 0) then
    some (.inl (29, [.ref 64, .int x, .int (l2 + 1)], [], ((zua ar 94 b94), (zuf fi 64 6 c64_6), (m1, m2, m3, m4, m5))))
   else
    some (.inr (some (.int (-2)), ((zua ar 94 b94), (zuf fi 64 6 c64_6), (m1, m2, m3, m4, m5))))))) : Option ((Nat × List Value × List Value × zH2) ⊕ zO2)) := rfl
theorem k_md_carried_29 {X : Nat × (Nat → Int32)} {ar fi : Nat → Nat → Int32} {m1 m2 m3 m4 m5 : Nat} {x : Int32} {b94 : Nat → Int32} {c64_6 : Int32} {o : zO2} : ∀ (s : U_md_carried_29) (q : U_md_carried_29 ⊕ T_md_carried), f_md_carried_29 x (ar 70) b94 c64_6 s = some q → zq (M_md_carried_29 X (zEx 143 S_md_in (zEx 157 S_md_octet (zEx 238 S_md_laysRow (zEx 239 S_md_worthOf (zEx 144 S_md_max zE0))))) ar fi m1 m2 m3 m4 m5 x b94 c64_6 o) (fun t => O_md_carried ar fi m1 m2 m3 m4 m5 t = o) q → M_md_carried_29 X (zEx 143 S_md_in (zEx 157 S_md_octet (zEx 238 S_md_laysRow (zEx 239 S_md_worthOf (zEx 144 S_md_max zE0))))) ar fi m1 m2 m3 m4 m5 x b94 c64_6 o s := by
  intro l2 q h hq
  have h : b_md_carried_29 x (ar 70) b94 c64_6 l2 = some q := h
  unfold b_md_carried_29 at h
  show zR2 X zFT (zEx 143 S_md_in (zEx 157 S_md_octet (zEx 238 S_md_laysRow (zEx 239 S_md_worthOf (zEx 144 S_md_max zE0))))) zc_240 29 [.ref 64, .int x, .int l2] [] ((zua ar 94 b94), (zuf fi 64 6 c64_6), (m1, m2, m3, m4, m5)) o
  refine zT_seg t29_md_carried ?_
  refine zb_el h (fun hb h => zT_t hb ?_) (fun hb h => zT_f hb ?_)
  · refine zbd_el h (fun v2 hv h => zT_c hv ?_)
    refine zbd_el h (fun r hr h => ?_)
    have hz := zsi h hq
    refine zR2_hp ?_ ?_ (zlp_K k_md_carried_68 hr hz)
    · first | with_reducible rfl | (exact zuas_eq _ [(94, _), (94, _)] [(94, _)] [94] rfl rfl ⟨rfl, trivial⟩)
    · first | with_reducible rfl | (exact zufs_eq _ [(64, 6, _)] [(64, 6, _)] [(64, 6)] rfl rfl ⟨rfl, trivial⟩)
  · refine zg_el h (fun hg h => zT_g hg ?_)
    refine zl_el h (fun h => zT_l ?_)
    refine zl_el h (fun h => zT_l ?_)
    refine zb_el h (fun hb h => zT_t hb ?_) (fun hb h => zT_f hb ?_)
    · have hz := zsi h hq
      refine zR2_hp ?_ ?_ hz
      · first | with_reducible rfl | (exact zuas_eq _ [(94, _)] [(94, _)] [94] rfl rfl ⟨rfl, trivial⟩)
      · first | with_reducible rfl | (exact zufs_eq _ [(64, 6, _)] [(64, 6, _)] [(64, 6)] rfl rfl ⟨rfl, trivial⟩)
    · have hz := zsi h hq
      refine (zO_mk ?_ ?_).trans hz
      · first | with_reducible rfl | (exact zuas_eq _ [(94, _)] [(94, _)] [94] rfl rfl ⟨rfl, trivial⟩)
      · first | with_reducible rfl | (exact zufs_eq _ [(64, 6, _)] [(64, 6, _)] [(64, 6)] rfl rfl ⟨rfl, trivial⟩)
set_option maxRecDepth 20000 in
theorem t_md_carried {X : Nat × (Nat → Int32)} {ar fi : Nat → Nat → Int32} {m1 m2 m3 m4 m5 : Nat} {x : Int32} {W_md_in : Int32 → Int32 → Int32 → Int32} {G_md_octet : Int32 → (Nat → Int32) → Bool} {W_md_octet : Int32 → (Nat → Int32) → Int32} {Q_md_laysRow : Int32 → (Nat → Int32) → (Nat → Int32) → Option ((Nat → Int32))} {Q_md_worthOf : Int32 → Int32 → (Nat → Int32) → (Nat → Int32) → Option (Int32)} {W_md_max : Int32 → Int32 → Int32} : zseg X zFT (zEx 143 (P_md_in W_md_in) (zEx 157 (P_md_octet G_md_octet W_md_octet) (zEx 238 (P_md_laysRow Q_md_laysRow) (zEx 239 (P_md_worthOf Q_md_worthOf) (zEx 144 (P_md_max W_md_max) zE0))))) zc_240 (fun p => Nat.beq p 68 || Nat.beq p 29) 400 0 [.ref 64, .int x] [] (ar, fi, (m1, m2, m3, m4, m5)) = (
  zl (W_md_in x 1 10) (fun v1 =>
  bif decide (v1 = 0) then
   some (.inr (some (.int (-1)), (ar, fi, (m1, m2, m3, m4, m5))))
  else
   bif decide (3 * x ≤ fi 64 6) then
    some (.inl (29, [.ref 64, .int x, .int 0], [], (ar, (zuf fi 64 6 0), (m1, m2, m3, m4, m5))))
   else
    some (.inr (some (.int (-1)), (ar, fi, (m1, m2, m3, m4, m5))))) : Option ((Nat × List Value × List Value × zH2) ⊕ zO2)) := rfl
theorem e_md_carried {X : Nat × (Nat → Int32)} {ar fi : Nat → Nat → Int32} {m1 m2 m3 m4 m5 : Nat} {x : Int32} {o : zO2} : ∀ (q : T_md_carried), q_md_carried x (ar 70) (ar 94) (fi 64 6) = some q → (fun t => O_md_carried ar fi m1 m2 m3 m4 m5 t = o) q → zR2 X zFT (zEx 143 S_md_in (zEx 157 S_md_octet (zEx 238 S_md_laysRow (zEx 239 S_md_worthOf (zEx 144 S_md_max zE0))))) zc_240 0 [.ref 64, .int x] [] (ar, fi, (m1, m2, m3, m4, m5)) o := by
  intro q h hq
  unfold q_md_carried at h
  refine zT_seg t_md_carried ?_
  refine zl_el h (fun h => zT_l ?_)
  refine zb_el h (fun hb h => zT_t hb ?_) (fun hb h => zT_f hb ?_)
  · have hz := zsi h hq
    refine (zO_mk ?_ ?_).trans hz
    · first | with_reducible rfl | (exact zuas_eq _ [] [(94, _)] [94] rfl rfl ⟨rfl, trivial⟩)
    · first | with_reducible rfl | (exact zufs_eq _ [] [(64, 6, _)] [(64, 6)] rfl rfl ⟨rfl, trivial⟩)
  · refine zb_el h (fun hb h => zT_t hb ?_) (fun hb h => zT_f hb ?_)
    · refine zR2_hp ?_ ?_ (zlp_K k_md_carried_29 h hq)
      · first | with_reducible rfl | (exact zuas_eq _ [] [(94, _)] [94] rfl rfl ⟨rfl, trivial⟩)
      · first | with_reducible rfl | (exact zufs_eq _ [(64, 6, _)] [(64, 6, _)] [(64, 6)] rfl rfl ⟨rfl, trivial⟩)
    · have hz := zsi h hq
      refine (zO_mk ?_ ?_).trans hz
      · first | with_reducible rfl | (exact zuas_eq _ [] [(94, _)] [94] rfl rfl ⟨rfl, trivial⟩)
      · first | with_reducible rfl | (exact zufs_eq _ [] [(64, 6, _)] [(64, 6)] rfl rfl ⟨rfl, trivial⟩)
theorem ok_md_carried (X : Nat × (Nat → Int32)) : zOkS X 240 S_md_carried 3 := zOkS_new (zOkE_cons (ok_md_in X) (by decide) (zOkE_cons (ok_md_octet X) (by decide) (zOkE_cons (ok_md_laysRow X) (by decide) (zOkE_cons (ok_md_worthOf X) (by decide) (zOkE_cons (ok_md_max X) (by decide) (zOkE_nil X 2)))))) (by
  intro args g o h
  obtain ⟨ar, fi, m1, m2, m3, m4, m5⟩ := g
  unfold S_md_carried P_md_carried at h
  split at h
  · refine zb_el h (fun hI0 k0 => ?_) (fun _ h10 => ?_)
    · try simp only [Bool.and_eq_true] at hI0
      have j0 := hI0
      have e0 := Nat.eq_of_beq_eq_true j0
      subst e0
      exact zpe_el k0 (fun t ht ho => e_md_carried t ht ho)
    · cases h10
  · cases h)
abbrev T_md_premium : Type := Int32 × Int32
abbrev U_md_premium_44 : Type := Int32 × Int32 × Int32
def b_md_premium_44 (x : Int32) (y : Int32) (a70 : Nat → Int32) (c64_6 : Int32) (l3 : Int32) (l4 : Int32) (l5 : Int32) : Option (U_md_premium_44 ⊕ T_md_premium) :=
  bif decide (x ≤ l5) then
   bif !decide (y = 0) then
    some (.inr (l4, c64_6))
   else
    some (.inr (l3, c64_6))
  else
   zg (g_md_octet ((2 * l5) + 1) a70) (
   zl (w_md_octet ((2 * l5) + 1) a70) (fun v3 =>
   bif decide (v3 ≤ 10) then
    zg (g_md_octet (2 * l5) a70) (
    zl (w_md_octet (2 * l5) a70) (fun v4 =>
    zg (g_md_octet ((2 * l5) + 1) a70) (
    zl (w_md_octet ((2 * l5) + 1) a70) (fun v5 =>
    zg (g_md_octet ((2 * l5) + 1) a70) (
    zl (w_md_octet ((2 * l5) + 1) a70) (fun v6 =>
    some (.inl (l3 + (v4 * v5), l4 * v6, l5 + 1))))))))
   else
    some (.inr ((-2), c64_6))))
def f_md_premium_44 (x : Int32) (y : Int32) (a70 : Nat → Int32) (c64_6 : Int32) : U_md_premium_44 → Option (U_md_premium_44 ⊕ T_md_premium) := fun s => b_md_premium_44 x y a70 c64_6 s.1 s.2.1 s.2.2
noncomputable def l_md_premium_44 (x : Int32) (y : Int32) (a70 : Nat → Int32) (c64_6 : Int32) (l3 : Int32) (l4 : Int32) (l5 : Int32) : Option T_md_premium := zlp (f_md_premium_44 x y a70 c64_6) (l3, l4, l5)
noncomputable def q_md_premium (x : Int32) (y : Int32) (a70 : Nat → Int32) (f64_6 : Int32) : Option T_md_premium :=
  zl (w_md_in x 1 8) (fun v1 =>
  bif decide (v1 = 0) then
   some ((-1), f64_6)
  else
   zl (w_md_in y 0 1) (fun v2 =>
   bif decide (v2 = 0) then
    some ((-1), f64_6)
   else
    bif decide (2 * x ≤ f64_6) then
     l_md_premium_44 x y a70 0 0 1 0
    else
     some ((-1), f64_6)))
def P_md_premium (Q : Int32 → Int32 → (Nat → Int32) → Int32 → Option (Int32 × Int32)) : zSp := fun as g => match as with
  | [.ref a, .int x, .int y] => bif Nat.beq a 64 then zpe (Q x y (g.1 70) (g.2.1 64 6)) (fun t => (some (.int (t.1)), (g.1, (zuf g.2.1 64 6 t.2), g.2.2))) else none
  | _ => none
noncomputable abbrev S_md_premium : zSp := P_md_premium q_md_premium
def O_md_premium (ar fi : Nat → Nat → Int32) (m1 : Nat) (m2 : Nat) (m3 : Nat) (m4 : Nat) (m5 : Nat) (t : T_md_premium) : zO2 := (some (.int (t.1)), (ar, (zuf fi 64 6 t.2), (m1, m2, m3, m4, m5)))
def M_md_premium_44 (X : Nat × (Nat → Int32)) (E : zTE) (ar fi : Nat → Nat → Int32) (m1 : Nat) (m2 : Nat) (m3 : Nat) (m4 : Nat) (m5 : Nat) (x : Int32) (y : Int32) (c64_6 : Int32) (o : zO2) (s : U_md_premium_44) : Prop := zR2 X zFT E zc_241 44 [.ref 64, .int x, .int y, .int s.1, .int s.2.1, .int s.2.2] [] (ar, (zuf fi 64 6 c64_6), (m1, m2, m3, m4, m5)) o
set_option maxRecDepth 20000 in
theorem t44_md_premium {X : Nat × (Nat → Int32)} {ar fi : Nat → Nat → Int32} {m1 m2 m3 m4 m5 : Nat} {x y : Int32} {l3 : Int32} {l4 : Int32} {l5 : Int32} {c64_6 : Int32} {W_md_in : Int32 → Int32 → Int32 → Int32} {G_md_octet : Int32 → (Nat → Int32) → Bool} {W_md_octet : Int32 → (Nat → Int32) → Int32} : zseg X zFT (zEx 143 (P_md_in W_md_in) (zEx 157 (P_md_octet G_md_octet W_md_octet) zE0)) zc_241 (fun p => Nat.beq p 44) 400 44 [.ref 64, .int x, .int y, .int l3, .int l4, .int l5] [] (ar, (zuf fi 64 6 c64_6), (m1, m2, m3, m4, m5)) = (
  bif decide (x ≤ l5) then
   bif !decide (y = 0) then
    some (.inr (some (.int l4), (ar, (zuf fi 64 6 c64_6), (m1, m2, m3, m4, m5))))
   else
    some (.inr (some (.int l3), (ar, (zuf fi 64 6 c64_6), (m1, m2, m3, m4, m5))))
  else
   zg (G_md_octet ((2 * l5) + 1) (ar 70)) (
   zl (W_md_octet ((2 * l5) + 1) (ar 70)) (fun v3 =>
   bif decide (v3 ≤ 10) then
    zg (G_md_octet (2 * l5) (ar 70)) (
    zl (W_md_octet (2 * l5) (ar 70)) (fun v4 =>
    zg (G_md_octet ((2 * l5) + 1) (ar 70)) (
    zl (W_md_octet ((2 * l5) + 1) (ar 70)) (fun v5 =>
    zg (G_md_octet ((2 * l5) + 1) (ar 70)) (
    zl (W_md_octet ((2 * l5) + 1) (ar 70)) (fun v6 =>
    some (.inl (44, [.ref 64, .int x, .int y, .int (l3 + (v4 * v5)), .int (l4 * v6), .int (l5 + 1)], [], (ar, (zuf fi 64 6 c64_6), (m1, m2, m3, m4, m5))))))))))
   else
    some (.inr (some (.int (-2)), (ar, (zuf fi 64 6 c64_6), (m1, m2, m3, m4, m5)))))) : Option ((Nat × List Value × List Value × zH2) ⊕ zO2)) := rfl
theorem k_md_premium_44 {X : Nat × (Nat → Int32)} {ar fi : Nat → Nat → Int32} {m1 m2 m3 m4 m5 : Nat} {x y : Int32} {c64_6 : Int32} {o : zO2} : ∀ (s : U_md_premium_44) (q : U_md_premium_44 ⊕ T_md_premium), f_md_premium_44 x y (ar 70) c64_6 s = some q → zq (M_md_premium_44 X (zEx 143 S_md_in (zEx 157 S_md_octet zE0)) ar fi m1 m2 m3 m4 m5 x y c64_6 o) (fun t => O_md_premium ar fi m1 m2 m3 m4 m5 t = o) q → M_md_premium_44 X (zEx 143 S_md_in (zEx 157 S_md_octet zE0)) ar fi m1 m2 m3 m4 m5 x y c64_6 o s := by
  intro s q h hq
  obtain ⟨l3, l4, l5⟩ := s
  have h : b_md_premium_44 x y (ar 70) c64_6 l3 l4 l5 = some q := h
  unfold b_md_premium_44 at h
  show zR2 X zFT (zEx 143 S_md_in (zEx 157 S_md_octet zE0)) zc_241 44 [.ref 64, .int x, .int y, .int l3, .int l4, .int l5] [] (ar, (zuf fi 64 6 c64_6), (m1, m2, m3, m4, m5)) o
  refine zT_seg t44_md_premium ?_
  refine zb_el h (fun hb h => zT_t hb ?_) (fun hb h => zT_f hb ?_)
  · refine zb_el h (fun hb h => zT_t hb ?_) (fun hb h => zT_f hb ?_)
    · have hz := zsi h hq
      refine (zO_mk ?_ ?_).trans hz
      · first | with_reducible rfl | (rfl)
      · first | with_reducible rfl | (exact zufs_eq _ [(64, 6, _)] [(64, 6, _)] [(64, 6)] rfl rfl ⟨rfl, trivial⟩)
    · have hz := zsi h hq
      refine (zO_mk ?_ ?_).trans hz
      · first | with_reducible rfl | (rfl)
      · first | with_reducible rfl | (exact zufs_eq _ [(64, 6, _)] [(64, 6, _)] [(64, 6)] rfl rfl ⟨rfl, trivial⟩)
  · refine zg_el h (fun hg h => zT_g hg ?_)
    refine zl_el h (fun h => zT_l ?_)
    refine zb_el h (fun hb h => zT_t hb ?_) (fun hb h => zT_f hb ?_)
    · refine zg_el h (fun hg h => zT_g hg ?_)
      refine zl_el h (fun h => zT_l ?_)
      refine zg_el h (fun hg h => zT_g hg ?_)
      refine zl_el h (fun h => zT_l ?_)
      refine zg_el h (fun hg h => zT_g hg ?_)
      refine zl_el h (fun h => zT_l ?_)
      have hz := zsi h hq
      refine zR2_hp ?_ ?_ hz
      · first | with_reducible rfl | (rfl)
      · first | with_reducible rfl | (exact zufs_eq _ [(64, 6, _)] [(64, 6, _)] [(64, 6)] rfl rfl ⟨rfl, trivial⟩)
    · have hz := zsi h hq
      refine (zO_mk ?_ ?_).trans hz
      · first | with_reducible rfl | (rfl)
      · first | with_reducible rfl | (exact zufs_eq _ [(64, 6, _)] [(64, 6, _)] [(64, 6)] rfl rfl ⟨rfl, trivial⟩)
set_option maxRecDepth 20000 in
theorem t_md_premium {X : Nat × (Nat → Int32)} {ar fi : Nat → Nat → Int32} {m1 m2 m3 m4 m5 : Nat} {x y : Int32} {W_md_in : Int32 → Int32 → Int32 → Int32} {G_md_octet : Int32 → (Nat → Int32) → Bool} {W_md_octet : Int32 → (Nat → Int32) → Int32} : zseg X zFT (zEx 143 (P_md_in W_md_in) (zEx 157 (P_md_octet G_md_octet W_md_octet) zE0)) zc_241 (fun p => Nat.beq p 44) 400 0 [.ref 64, .int x, .int y] [] (ar, fi, (m1, m2, m3, m4, m5)) = (
  zl (W_md_in x 1 8) (fun v1 =>
  bif decide (v1 = 0) then
   some (.inr (some (.int (-1)), (ar, fi, (m1, m2, m3, m4, m5))))
  else
   zl (W_md_in y 0 1) (fun v2 =>
   bif decide (v2 = 0) then
    some (.inr (some (.int (-1)), (ar, fi, (m1, m2, m3, m4, m5))))
   else
    bif decide (2 * x ≤ fi 64 6) then
     some (.inl (44, [.ref 64, .int x, .int y, .int 0, .int 1, .int 0], [], (ar, (zuf fi 64 6 0), (m1, m2, m3, m4, m5))))
    else
     some (.inr (some (.int (-1)), (ar, fi, (m1, m2, m3, m4, m5)))))) : Option ((Nat × List Value × List Value × zH2) ⊕ zO2)) := rfl
theorem e_md_premium {X : Nat × (Nat → Int32)} {ar fi : Nat → Nat → Int32} {m1 m2 m3 m4 m5 : Nat} {x y : Int32} {o : zO2} : ∀ (q : T_md_premium), q_md_premium x y (ar 70) (fi 64 6) = some q → (fun t => O_md_premium ar fi m1 m2 m3 m4 m5 t = o) q → zR2 X zFT (zEx 143 S_md_in (zEx 157 S_md_octet zE0)) zc_241 0 [.ref 64, .int x, .int y] [] (ar, fi, (m1, m2, m3, m4, m5)) o := by
  intro q h hq
  unfold q_md_premium at h
  refine zT_seg t_md_premium ?_
  refine zl_el h (fun h => zT_l ?_)
  refine zb_el h (fun hb h => zT_t hb ?_) (fun hb h => zT_f hb ?_)
  · have hz := zsi h hq
    refine (zO_mk ?_ ?_).trans hz
    · first | with_reducible rfl | (rfl)
    · first | with_reducible rfl | (exact zufs_eq _ [] [(64, 6, _)] [(64, 6)] rfl rfl ⟨rfl, trivial⟩)
  · refine zl_el h (fun h => zT_l ?_)
    refine zb_el h (fun hb h => zT_t hb ?_) (fun hb h => zT_f hb ?_)
    · have hz := zsi h hq
      refine (zO_mk ?_ ?_).trans hz
      · first | with_reducible rfl | (rfl)
      · first | with_reducible rfl | (exact zufs_eq _ [] [(64, 6, _)] [(64, 6)] rfl rfl ⟨rfl, trivial⟩)
    · refine zb_el h (fun hb h => zT_t hb ?_) (fun hb h => zT_f hb ?_)
      · refine zR2_hp ?_ ?_ (zlp_K k_md_premium_44 h hq)
        · first | with_reducible rfl | (rfl)
        · first | with_reducible rfl | (exact zufs_eq _ [(64, 6, _)] [(64, 6, _)] [(64, 6)] rfl rfl ⟨rfl, trivial⟩)
      · have hz := zsi h hq
        refine (zO_mk ?_ ?_).trans hz
        · first | with_reducible rfl | (rfl)
        · first | with_reducible rfl | (exact zufs_eq _ [] [(64, 6, _)] [(64, 6)] rfl rfl ⟨rfl, trivial⟩)
theorem ok_md_premium (X : Nat × (Nat → Int32)) : zOkS X 241 S_md_premium 2 := zOkS_new (zOkE_cons (ok_md_in X) (by decide) (zOkE_cons (ok_md_octet X) (by decide) (zOkE_nil X 1))) (by
  intro args g o h
  obtain ⟨ar, fi, m1, m2, m3, m4, m5⟩ := g
  unfold S_md_premium P_md_premium at h
  split at h
  · refine zb_el h (fun hI0 k0 => ?_) (fun _ h10 => ?_)
    · try simp only [Bool.and_eq_true] at hI0
      have j0 := hI0
      have e0 := Nat.eq_of_beq_eq_true j0
      subst e0
      exact zpe_el k0 (fun t ht ho => e_md_premium t ht ho)
    · cases h10
  · cases h)
abbrev T_md_undo : Type := Int32 × (Nat → Int32)
abbrev U_md_undo_22 : Type := Int32 × (Nat → Int32)
def b_md_undo_22 (a68 : Nat → Int32) (l1 : Int32) (b65 : Nat → Int32) : Option (U_md_undo_22 ⊕ T_md_undo) :=
  bif decide (96 ≤ l1) then
   some (.inr (1, b65))
  else
   zg (g_md_isWood l1 a68) (
   zl (w_md_isWood l1 a68) (fun v2 =>
   bif !decide (v2 = 0) then
    some (.inl (l1 + 1, b65))
   else
    zg (g_md_becomesWhole l1 b65) (
    zl (a0_md_becomesWhole l1 b65) (fun v3 =>
    some (.inl (l1 + 1, v3))))))
def f_md_undo_22 (a68 : Nat → Int32) : U_md_undo_22 → Option (U_md_undo_22 ⊕ T_md_undo) := fun s => b_md_undo_22 a68 s.1 s.2
noncomputable def l_md_undo_22 (a68 : Nat → Int32) (l1 : Int32) (b65 : Nat → Int32) : Option T_md_undo := zlp (f_md_undo_22 a68) (l1, b65)
noncomputable def q_md_undo (a65 : Nat → Int32) (a67 : Nat → Int32) (a68 : Nat → Int32) (f64_45 : Int32) : Option T_md_undo :=
  bif !decide (f64_45 = 0) then
   zl (a0_md_copies a67 a65) (fun v1 =>
   l_md_undo_22 a68 0 v1)
  else
   some (0, a65)
def P_md_undo (Q : (Nat → Int32) → (Nat → Int32) → (Nat → Int32) → Int32 → Option (Int32 × (Nat → Int32))) : zSp := fun as g => match as with
  | [.ref a] => bif Nat.beq a 64 then zpe (Q (g.1 65) (g.1 67) (g.1 68) (g.2.1 64 45)) (fun t => (some (.int (t.1)), ((zua g.1 65 t.2), g.2.1, g.2.2))) else none
  | _ => none
noncomputable abbrev S_md_undo : zSp := P_md_undo q_md_undo
def O_md_undo (ar fi : Nat → Nat → Int32) (m1 : Nat) (m2 : Nat) (m3 : Nat) (m4 : Nat) (m5 : Nat) (t : T_md_undo) : zO2 := (some (.int (t.1)), ((zua ar 65 t.2), fi, (m1, m2, m3, m4, m5)))
def M_md_undo_22 (X : Nat × (Nat → Int32)) (E : zTE) (ar fi : Nat → Nat → Int32) (m1 : Nat) (m2 : Nat) (m3 : Nat) (m4 : Nat) (m5 : Nat) (o : zO2) (s : U_md_undo_22) : Prop := zR2 X zFT E zc_244 22 [.ref 64, .int s.1] [] ((zua ar 65 s.2), fi, (m1, m2, m3, m4, m5)) o
set_option maxRecDepth 20000 in
theorem t22_md_undo {X : Nat × (Nat → Int32)} {ar fi : Nat → Nat → Int32} {m1 m2 m3 m4 m5 : Nat} {l1 : Int32} {b65 : Nat → Int32} {A0_md_copies : (Nat → Int32) → (Nat → Int32) → Nat → Int32} {G_md_isWood : Int32 → (Nat → Int32) → Bool} {W_md_isWood : Int32 → (Nat → Int32) → Int32} {G_md_becomesWhole : Int32 → (Nat → Int32) → Bool} {A0_md_becomesWhole : Int32 → (Nat → Int32) → Nat → Int32} : zseg X zFT (zEx 148 (P_md_copies A0_md_copies) (zEx 152 (P_md_isWood G_md_isWood W_md_isWood) (zEx 188 (P_md_becomesWhole G_md_becomesWhole A0_md_becomesWhole) zE0))) zc_244 (fun p => Nat.beq p 22) 400 22 [.ref 64, .int l1] [] ((zua ar 65 b65), fi, (m1, m2, m3, m4, m5)) = (
  bif decide (96 ≤ l1) then
   some (.inr (some (.int 1), ((zua ar 65 b65), fi, (m1, m2, m3, m4, m5))))
  else
   zg (G_md_isWood l1 (ar 68)) (
   zl (W_md_isWood l1 (ar 68)) (fun v2 =>
   bif !decide (v2 = 0) then
    some (.inl (22, [.ref 64, .int (l1 + 1)], [], ((zua ar 65 b65), fi, (m1, m2, m3, m4, m5))))
   else
    zg (G_md_becomesWhole l1 b65) (
    zl (A0_md_becomesWhole l1 b65) (fun v3 =>
    some (.inl (22, [.ref 64, .int (l1 + 1)], [], ((zua (zua ar 65 b65) 65 v3), fi, (m1, m2, m3, m4, m5)))))))) : Option ((Nat × List Value × List Value × zH2) ⊕ zO2)) := rfl
theorem k_md_undo_22 {X : Nat × (Nat → Int32)} {ar fi : Nat → Nat → Int32} {m1 m2 m3 m4 m5 : Nat} {o : zO2} : ∀ (s : U_md_undo_22) (q : U_md_undo_22 ⊕ T_md_undo), f_md_undo_22 (ar 68) s = some q → zq (M_md_undo_22 X (zEx 148 S_md_copies (zEx 152 S_md_isWood (zEx 188 S_md_becomesWhole zE0))) ar fi m1 m2 m3 m4 m5 o) (fun t => O_md_undo ar fi m1 m2 m3 m4 m5 t = o) q → M_md_undo_22 X (zEx 148 S_md_copies (zEx 152 S_md_isWood (zEx 188 S_md_becomesWhole zE0))) ar fi m1 m2 m3 m4 m5 o s := by
  intro s q h hq
  obtain ⟨l1, b65⟩ := s
  have h : b_md_undo_22 (ar 68) l1 b65 = some q := h
  unfold b_md_undo_22 at h
  show zR2 X zFT (zEx 148 S_md_copies (zEx 152 S_md_isWood (zEx 188 S_md_becomesWhole zE0))) zc_244 22 [.ref 64, .int l1] [] ((zua ar 65 b65), fi, (m1, m2, m3, m4, m5)) o
  refine zT_seg t22_md_undo ?_
  refine zb_el h (fun hb h => zT_t hb ?_) (fun hb h => zT_f hb ?_)
  · have hz := zsi h hq
    refine (zO_mk ?_ ?_).trans hz
    · first | with_reducible rfl | (exact zuas_eq _ [(65, _)] [(65, _)] [65] rfl rfl ⟨rfl, trivial⟩)
    · first | with_reducible rfl | (rfl)
  · refine zg_el h (fun hg h => zT_g hg ?_)
    refine zl_el h (fun h => zT_l ?_)
    refine zb_el h (fun hb h => zT_t hb ?_) (fun hb h => zT_f hb ?_)
    · have hz := zsi h hq
      refine zR2_hp ?_ ?_ hz
      · first | with_reducible rfl | (exact zuas_eq _ [(65, _)] [(65, _)] [65] rfl rfl ⟨rfl, trivial⟩)
      · first | with_reducible rfl | (rfl)
    · refine zg_el h (fun hg h => zT_g hg ?_)
      refine zl_el h (fun h => zT_l ?_)
      have hz := zsi h hq
      refine zR2_hp ?_ ?_ hz
      · first | with_reducible rfl | (exact zuas_eq _ [(65, _), (65, _)] [(65, _)] [65] rfl rfl ⟨rfl, trivial⟩)
      · first | with_reducible rfl | (rfl)
set_option maxRecDepth 20000 in
theorem t_md_undo {X : Nat × (Nat → Int32)} {ar fi : Nat → Nat → Int32} {m1 m2 m3 m4 m5 : Nat} {A0_md_copies : (Nat → Int32) → (Nat → Int32) → Nat → Int32} {G_md_isWood : Int32 → (Nat → Int32) → Bool} {W_md_isWood : Int32 → (Nat → Int32) → Int32} {G_md_becomesWhole : Int32 → (Nat → Int32) → Bool} {A0_md_becomesWhole : Int32 → (Nat → Int32) → Nat → Int32} : zseg X zFT (zEx 148 (P_md_copies A0_md_copies) (zEx 152 (P_md_isWood G_md_isWood W_md_isWood) (zEx 188 (P_md_becomesWhole G_md_becomesWhole A0_md_becomesWhole) zE0))) zc_244 (fun p => Nat.beq p 22) 400 0 [.ref 64] [] (ar, fi, (m1, m2, m3, m4, m5)) = (
  bif !decide (fi 64 45 = 0) then
   zl (A0_md_copies (ar 67) (ar 65)) (fun v1 =>
   some (.inl (22, [.ref 64, .int 0], [], ((zua ar 65 v1), fi, (m1, m2, m3, m4, m5)))))
  else
   some (.inr (some (.int 0), (ar, fi, (m1, m2, m3, m4, m5)))) : Option ((Nat × List Value × List Value × zH2) ⊕ zO2)) := rfl
theorem e_md_undo {X : Nat × (Nat → Int32)} {ar fi : Nat → Nat → Int32} {m1 m2 m3 m4 m5 : Nat} {o : zO2} : ∀ (q : T_md_undo), q_md_undo (ar 65) (ar 67) (ar 68) (fi 64 45) = some q → (fun t => O_md_undo ar fi m1 m2 m3 m4 m5 t = o) q → zR2 X zFT (zEx 148 S_md_copies (zEx 152 S_md_isWood (zEx 188 S_md_becomesWhole zE0))) zc_244 0 [.ref 64] [] (ar, fi, (m1, m2, m3, m4, m5)) o := by
  intro q h hq
  unfold q_md_undo at h
  refine zT_seg t_md_undo ?_
  refine zb_el h (fun hb h => zT_t hb ?_) (fun hb h => zT_f hb ?_)
  · refine zl_el h (fun h => zT_l ?_)
    refine zR2_hp ?_ ?_ (zlp_K k_md_undo_22 h hq)
    · first | with_reducible rfl | (exact zuas_eq _ [(65, _)] [(65, _)] [65] rfl rfl ⟨rfl, trivial⟩)
    · first | with_reducible rfl | (rfl)
  · have hz := zsi h hq
    refine (zO_mk ?_ ?_).trans hz
    · first | with_reducible rfl | (exact zuas_eq _ [] [(65, _)] [65] rfl rfl ⟨rfl, trivial⟩)
    · first | with_reducible rfl | (rfl)
theorem ok_md_undo (X : Nat × (Nat → Int32)) : zOkS X 244 S_md_undo 4 := zOkS_new (zOkE_cons (ok_md_copies X) (by decide) (zOkE_cons (ok_md_isWood X) (by decide) (zOkE_cons (ok_md_becomesWhole X) (by decide) (zOkE_nil X 3)))) (by
  intro args g o h
  obtain ⟨ar, fi, m1, m2, m3, m4, m5⟩ := g
  unfold S_md_undo P_md_undo at h
  split at h
  · refine zb_el h (fun hI0 k0 => ?_) (fun _ h10 => ?_)
    · try simp only [Bool.and_eq_true] at hI0
      have j0 := hI0
      have e0 := Nat.eq_of_beq_eq_true j0
      subst e0
      exact zpe_el k0 (fun t ht ho => e_md_undo t ht ho)
    · cases h10
  · cases h)
abbrev T_md_check : Type := Int32 × Int32
abbrev U_md_check_28 : Type := Int32
def b_md_check_28 (x : Int32) (a65 : Nat → Int32) (a70 : Nat → Int32) (c64_6 : Int32) (l2 : Int32) : Option (U_md_check_28 ⊕ T_md_check) :=
  bif decide (x ≤ l2) then
   some (.inr ((-1), c64_6))
  else
   zg (g_md_octet l2 a70) (
   zl (w_md_octet l2 a70) (fun v2 =>
   zg (g_md_isThing l2 a65) (
   zl (w_md_isThing l2 a65) (fun v3 =>
   bif decide (v3 = 0) then
    bif decide (v2 = 0) then
     some (.inl (l2 + 1))
    else
     some (.inr (l2, c64_6))
   else
    zg (zin (288 + l2) 315) (
    bif !decide (a65 ((288 + l2).toNatClampNeg) = 0) then
     bif decide (v2 = 0) then
      some (.inl (l2 + 1))
     else
      some (.inr (l2, c64_6))
    else
     zg (zin (240 + l2) 315) (
     bif decide (v2 = (a65 ((240 + l2).toNatClampNeg)) - (a65 ((240 + l2).toNatClampNeg)) / 256 * 256) then
      some (.inl (l2 + 1))
     else
      some (.inr (l2, c64_6))))))))
def f_md_check_28 (x : Int32) (a65 : Nat → Int32) (a70 : Nat → Int32) (c64_6 : Int32) : U_md_check_28 → Option (U_md_check_28 ⊕ T_md_check) := fun s => b_md_check_28 x a65 a70 c64_6 s
noncomputable def l_md_check_28 (x : Int32) (a65 : Nat → Int32) (a70 : Nat → Int32) (c64_6 : Int32) (l2 : Int32) : Option T_md_check := zlp (f_md_check_28 x a65 a70 c64_6) l2
noncomputable def q_md_check (x : Int32) (a65 : Nat → Int32) (a70 : Nat → Int32) (f64_6 : Int32) : Option T_md_check :=
  zl (w_md_in x 0 24) (fun v1 =>
  bif decide (v1 = 0) then
   some ((-2), f64_6)
  else
   bif decide (x ≤ f64_6) then
    l_md_check_28 x a65 a70 0 0
   else
    some ((-2), f64_6))
def P_md_check (Q : Int32 → (Nat → Int32) → (Nat → Int32) → Int32 → Option (Int32 × Int32)) : zSp := fun as g => match as with
  | [.ref a, .int x] => bif Nat.beq a 64 then zpe (Q x (g.1 65) (g.1 70) (g.2.1 64 6)) (fun t => (some (.int (t.1)), (g.1, (zuf g.2.1 64 6 t.2), g.2.2))) else none
  | _ => none
noncomputable abbrev S_md_check : zSp := P_md_check q_md_check
def O_md_check (ar fi : Nat → Nat → Int32) (m1 : Nat) (m2 : Nat) (m3 : Nat) (m4 : Nat) (m5 : Nat) (t : T_md_check) : zO2 := (some (.int (t.1)), (ar, (zuf fi 64 6 t.2), (m1, m2, m3, m4, m5)))
def M_md_check_28 (X : Nat × (Nat → Int32)) (E : zTE) (ar fi : Nat → Nat → Int32) (m1 : Nat) (m2 : Nat) (m3 : Nat) (m4 : Nat) (m5 : Nat) (x : Int32) (c64_6 : Int32) (o : zO2) (s : U_md_check_28) : Prop := zR2 X zFT E zc_245 28 [.ref 64, .int x, .int s] [] (ar, (zuf fi 64 6 c64_6), (m1, m2, m3, m4, m5)) o
set_option maxRecDepth 20000 in
theorem t28_md_check {X : Nat × (Nat → Int32)} {ar fi : Nat → Nat → Int32} {m1 m2 m3 m4 m5 : Nat} {x : Int32} {l2 : Int32} {c64_6 : Int32} {W_md_in : Int32 → Int32 → Int32 → Int32} {G_md_octet : Int32 → (Nat → Int32) → Bool} {W_md_octet : Int32 → (Nat → Int32) → Int32} {G_md_isThing : Int32 → (Nat → Int32) → Bool} {W_md_isThing : Int32 → (Nat → Int32) → Int32} : zseg X zFT (zEx 143 (P_md_in W_md_in) (zEx 157 (P_md_octet G_md_octet W_md_octet) (zEx 153 (P_md_isThing G_md_isThing W_md_isThing) zE0))) zc_245 (fun p => Nat.beq p 28) 400 28 [.ref 64, .int x, .int l2] [] (ar, (zuf fi 64 6 c64_6), (m1, m2, m3, m4, m5)) = (
  bif decide (x ≤ l2) then
   some (.inr (some (.int (-1)), (ar, (zuf fi 64 6 c64_6), (m1, m2, m3, m4, m5))))
  else
   zg (G_md_octet l2 (ar 70)) (
   zl (W_md_octet l2 (ar 70)) (fun v2 =>
   zg (G_md_isThing l2 (ar 65)) (
   zl (W_md_isThing l2 (ar 65)) (fun v3 =>
   bif decide (v3 = 0) then
    bif decide (v2 = 0) then
     some (.inl (28, [.ref 64, .int x, .int (l2 + 1)], [], (ar, (zuf fi 64 6 c64_6), (m1, m2, m3, m4, m5))))
    else
     some (.inr (some (.int l2), (ar, (zuf fi 64 6 c64_6), (m1, m2, m3, m4, m5))))
   else
    zg (zin (288 + l2) 315) (
    bif !decide ((ar 65) ((288 + l2).toNatClampNeg) = 0) then
     bif decide (v2 = 0) then
      some (.inl (28, [.ref 64, .int x, .int (l2 + 1)], [], (ar, (zuf fi 64 6 c64_6), (m1, m2, m3, m4, m5))))
     else
      some (.inr (some (.int l2), (ar, (zuf fi 64 6 c64_6), (m1, m2, m3, m4, m5))))
    else
     zg (zin (240 + l2) 315) (
     bif decide (v2 = ((ar 65) ((240 + l2).toNatClampNeg)) - ((ar 65) ((240 + l2).toNatClampNeg)) / 256 * 256) then
      some (.inl (28, [.ref 64, .int x, .int (l2 + 1)], [], (ar, (zuf fi 64 6 c64_6), (m1, m2, m3, m4, m5))))
     else
      some (.inr (some (.int l2), (ar, (zuf fi 64 6 c64_6), (m1, m2, m3, m4, m5)))))))))) : Option ((Nat × List Value × List Value × zH2) ⊕ zO2)) := rfl
theorem k_md_check_28 {X : Nat × (Nat → Int32)} {ar fi : Nat → Nat → Int32} {m1 m2 m3 m4 m5 : Nat} {x : Int32} {c64_6 : Int32} {o : zO2} : ∀ (s : U_md_check_28) (q : U_md_check_28 ⊕ T_md_check), f_md_check_28 x (ar 65) (ar 70) c64_6 s = some q → zq (M_md_check_28 X (zEx 143 S_md_in (zEx 157 S_md_octet (zEx 153 S_md_isThing zE0))) ar fi m1 m2 m3 m4 m5 x c64_6 o) (fun t => O_md_check ar fi m1 m2 m3 m4 m5 t = o) q → M_md_check_28 X (zEx 143 S_md_in (zEx 157 S_md_octet (zEx 153 S_md_isThing zE0))) ar fi m1 m2 m3 m4 m5 x c64_6 o s := by
  intro l2 q h hq
  have h : b_md_check_28 x (ar 65) (ar 70) c64_6 l2 = some q := h
  unfold b_md_check_28 at h
  show zR2 X zFT (zEx 143 S_md_in (zEx 157 S_md_octet (zEx 153 S_md_isThing zE0))) zc_245 28 [.ref 64, .int x, .int l2] [] (ar, (zuf fi 64 6 c64_6), (m1, m2, m3, m4, m5)) o
  refine zT_seg t28_md_check ?_
  refine zb_el h (fun hb h => zT_t hb ?_) (fun hb h => zT_f hb ?_)
  · have hz := zsi h hq
    refine (zO_mk ?_ ?_).trans hz
    · first | with_reducible rfl | (rfl)
    · first | with_reducible rfl | (exact zufs_eq _ [(64, 6, _)] [(64, 6, _)] [(64, 6)] rfl rfl ⟨rfl, trivial⟩)
  · refine zg_el h (fun hg h => zT_g hg ?_)
    refine zl_el h (fun h => zT_l ?_)
    refine zg_el h (fun hg h => zT_g hg ?_)
    refine zl_el h (fun h => zT_l ?_)
    refine zb_el h (fun hb h => zT_t hb ?_) (fun hb h => zT_f hb ?_)
    · refine zb_el h (fun hb h => zT_t hb ?_) (fun hb h => zT_f hb ?_)
      · have hz := zsi h hq
        refine zR2_hp ?_ ?_ hz
        · first | with_reducible rfl | (rfl)
        · first | with_reducible rfl | (exact zufs_eq _ [(64, 6, _)] [(64, 6, _)] [(64, 6)] rfl rfl ⟨rfl, trivial⟩)
      · have hz := zsi h hq
        refine (zO_mk ?_ ?_).trans hz
        · first | with_reducible rfl | (rfl)
        · first | with_reducible rfl | (exact zufs_eq _ [(64, 6, _)] [(64, 6, _)] [(64, 6)] rfl rfl ⟨rfl, trivial⟩)
    · refine zg_el h (fun hg h => zT_g hg ?_)
      refine zb_el h (fun hb h => zT_t hb ?_) (fun hb h => zT_f hb ?_)
      · refine zb_el h (fun hb h => zT_t hb ?_) (fun hb h => zT_f hb ?_)
        · have hz := zsi h hq
          refine zR2_hp ?_ ?_ hz
          · first | with_reducible rfl | (rfl)
          · first | with_reducible rfl | (exact zufs_eq _ [(64, 6, _)] [(64, 6, _)] [(64, 6)] rfl rfl ⟨rfl, trivial⟩)
        · have hz := zsi h hq
          refine (zO_mk ?_ ?_).trans hz
          · first | with_reducible rfl | (rfl)
          · first | with_reducible rfl | (exact zufs_eq _ [(64, 6, _)] [(64, 6, _)] [(64, 6)] rfl rfl ⟨rfl, trivial⟩)
      · refine zg_el h (fun hg h => zT_g hg ?_)
        refine zb_el h (fun hb h => zT_t hb ?_) (fun hb h => zT_f hb ?_)
        · have hz := zsi h hq
          refine zR2_hp ?_ ?_ hz
          · first | with_reducible rfl | (rfl)
          · first | with_reducible rfl | (exact zufs_eq _ [(64, 6, _)] [(64, 6, _)] [(64, 6)] rfl rfl ⟨rfl, trivial⟩)
        · have hz := zsi h hq
          refine (zO_mk ?_ ?_).trans hz
          · first | with_reducible rfl | (rfl)
          · first | with_reducible rfl | (exact zufs_eq _ [(64, 6, _)] [(64, 6, _)] [(64, 6)] rfl rfl ⟨rfl, trivial⟩)
set_option maxRecDepth 20000 in
theorem t_md_check {X : Nat × (Nat → Int32)} {ar fi : Nat → Nat → Int32} {m1 m2 m3 m4 m5 : Nat} {x : Int32} {W_md_in : Int32 → Int32 → Int32 → Int32} {G_md_octet : Int32 → (Nat → Int32) → Bool} {W_md_octet : Int32 → (Nat → Int32) → Int32} {G_md_isThing : Int32 → (Nat → Int32) → Bool} {W_md_isThing : Int32 → (Nat → Int32) → Int32} : zseg X zFT (zEx 143 (P_md_in W_md_in) (zEx 157 (P_md_octet G_md_octet W_md_octet) (zEx 153 (P_md_isThing G_md_isThing W_md_isThing) zE0))) zc_245 (fun p => Nat.beq p 28) 400 0 [.ref 64, .int x] [] (ar, fi, (m1, m2, m3, m4, m5)) = (
  zl (W_md_in x 0 24) (fun v1 =>
  bif decide (v1 = 0) then
   some (.inr (some (.int (-2)), (ar, fi, (m1, m2, m3, m4, m5))))
  else
   bif decide (x ≤ fi 64 6) then
    some (.inl (28, [.ref 64, .int x, .int 0], [], (ar, (zuf fi 64 6 0), (m1, m2, m3, m4, m5))))
   else
    some (.inr (some (.int (-2)), (ar, fi, (m1, m2, m3, m4, m5))))) : Option ((Nat × List Value × List Value × zH2) ⊕ zO2)) := rfl
theorem e_md_check {X : Nat × (Nat → Int32)} {ar fi : Nat → Nat → Int32} {m1 m2 m3 m4 m5 : Nat} {x : Int32} {o : zO2} : ∀ (q : T_md_check), q_md_check x (ar 65) (ar 70) (fi 64 6) = some q → (fun t => O_md_check ar fi m1 m2 m3 m4 m5 t = o) q → zR2 X zFT (zEx 143 S_md_in (zEx 157 S_md_octet (zEx 153 S_md_isThing zE0))) zc_245 0 [.ref 64, .int x] [] (ar, fi, (m1, m2, m3, m4, m5)) o := by
  intro q h hq
  unfold q_md_check at h
  refine zT_seg t_md_check ?_
  refine zl_el h (fun h => zT_l ?_)
  refine zb_el h (fun hb h => zT_t hb ?_) (fun hb h => zT_f hb ?_)
  · have hz := zsi h hq
    refine (zO_mk ?_ ?_).trans hz
    · first | with_reducible rfl | (rfl)
    · first | with_reducible rfl | (exact zufs_eq _ [] [(64, 6, _)] [(64, 6)] rfl rfl ⟨rfl, trivial⟩)
  · refine zb_el h (fun hb h => zT_t hb ?_) (fun hb h => zT_f hb ?_)
    · refine zR2_hp ?_ ?_ (zlp_K k_md_check_28 h hq)
      · first | with_reducible rfl | (rfl)
      · first | with_reducible rfl | (exact zufs_eq _ [(64, 6, _)] [(64, 6, _)] [(64, 6)] rfl rfl ⟨rfl, trivial⟩)
    · have hz := zsi h hq
      refine (zO_mk ?_ ?_).trans hz
      · first | with_reducible rfl | (rfl)
      · first | with_reducible rfl | (exact zufs_eq _ [] [(64, 6, _)] [(64, 6)] rfl rfl ⟨rfl, trivial⟩)
theorem ok_md_check (X : Nat × (Nat → Int32)) : zOkS X 245 S_md_check 3 := zOkS_new (zOkE_cons (ok_md_in X) (by decide) (zOkE_cons (ok_md_octet X) (by decide) (zOkE_cons (ok_md_isThing X) (by decide) (zOkE_nil X 2)))) (by
  intro args g o h
  obtain ⟨ar, fi, m1, m2, m3, m4, m5⟩ := g
  unfold S_md_check P_md_check at h
  split at h
  · refine zb_el h (fun hI0 k0 => ?_) (fun _ h10 => ?_)
    · try simp only [Bool.and_eq_true] at hI0
      have j0 := hI0
      have e0 := Nat.eq_of_beq_eq_true j0
      subst e0
      exact zpe_el k0 (fun t ht ho => e_md_check t ht ho)
    · cases h10
  · cases h)
abbrev T_cl_bestPolicies : Type := Int32
abbrev U_cl_bestPolicies_11 : Type := Int32 × Int32 × Int32 × Int32
noncomputable def b_cl_bestPolicies_11 (y : Int32) (z : Int32) (a1 : Nat → Int32) (l3 : Int32) (l4 : Int32) (l5 : Int32) (l6 : Int32) : Option (U_cl_bestPolicies_11 ⊕ T_cl_bestPolicies) :=
  bif decide (1 <<< (y &&& 31) ≤ l6) then
   some (.inr l3)
  else
   zbd (q_cl_sumOf y l6 1 a1) (fun v1 =>
   bif decide (v1 ≤ z) then
    zbd (q_cl_sumOf y l6 0 a1) (fun v2 =>
    bif decide (l4 < v2) then
     some (.inl (l6, v2, v1, l6 + 1))
    else
     bif !decide (v2 = l4) then
      some (.inl (l3, l4, l5, l6 + 1))
     else
      bif decide (l5 ≤ v1) then
       some (.inl (l3, l4, l5, l6 + 1))
      else
       some (.inl (l6, v2, v1, l6 + 1)))
   else
    some (.inl (l3, l4, l5, l6 + 1)))
noncomputable def f_cl_bestPolicies_11 (y : Int32) (z : Int32) (a1 : Nat → Int32) : U_cl_bestPolicies_11 → Option (U_cl_bestPolicies_11 ⊕ T_cl_bestPolicies) := fun s => b_cl_bestPolicies_11 y z a1 s.1 s.2.1 s.2.2.1 s.2.2.2
noncomputable def l_cl_bestPolicies_11 (y : Int32) (z : Int32) (a1 : Nat → Int32) (l3 : Int32) (l4 : Int32) (l5 : Int32) (l6 : Int32) : Option T_cl_bestPolicies := zlp (f_cl_bestPolicies_11 y z a1) (l3, l4, l5, l6)
noncomputable def q_cl_bestPolicies (y : Int32) (z : Int32) (a1 : Nat → Int32) : Option T_cl_bestPolicies :=
  l_cl_bestPolicies_11 y z a1 0 0 0 1
def P_cl_bestPolicies (Q : Int32 → Int32 → (Nat → Int32) → Option (Int32)) : zSp := fun as g => match as with
  | [.ref a, .int y, .int z] => bif Nat.beq a 1 then zpe (Q y z (g.1 1)) (fun t => (some (.int t), (g.1, g.2.1, g.2.2))) else none
  | _ => none
noncomputable abbrev S_cl_bestPolicies : zSp := P_cl_bestPolicies q_cl_bestPolicies
def O_cl_bestPolicies (ar fi : Nat → Nat → Int32) (m1 : Nat) (m2 : Nat) (m3 : Nat) (m4 : Nat) (m5 : Nat) (t : T_cl_bestPolicies) : zO2 := (some (.int t), (ar, fi, (m1, m2, m3, m4, m5)))
def M_cl_bestPolicies_11 (X : Nat × (Nat → Int32)) (E : zTE) (ar fi : Nat → Nat → Int32) (m1 : Nat) (m2 : Nat) (m3 : Nat) (m4 : Nat) (m5 : Nat) (y : Int32) (z : Int32) (o : zO2) (s : U_cl_bestPolicies_11) : Prop := zR2 X zFT E zc_1 11 [.ref 1, .int y, .int z, .int s.1, .int s.2.1, .int s.2.2.1, .int s.2.2.2] [] (ar, fi, (m1, m2, m3, m4, m5)) o
set_option maxRecDepth 20000 in
theorem t11_cl_bestPolicies {X : Nat × (Nat → Int32)} {ar fi : Nat → Nat → Int32} {m1 m2 m3 m4 m5 : Nat} {y z : Int32} {l3 : Int32} {l4 : Int32} {l5 : Int32} {l6 : Int32} {Q_cl_sumOf : Int32 → Int32 → Int32 → (Nat → Int32) → Option (Int32)} : zseg X zFT (zEx 2 (P_cl_sumOf Q_cl_sumOf) zE0) zc_1 (fun p => Nat.beq p 11) 400 11 [.ref 1, .int y, .int z, .int l3, .int l4, .int l5, .int l6] [] (ar, fi, (m1, m2, m3, m4, m5)) = (
  bif decide (1 <<< (y &&& 31) ≤ l6) then
   some (.inr (some (.int l3), (ar, fi, (m1, m2, m3, m4, m5))))
  else
   zl (Q_cl_sumOf y l6 1 (ar 1)) (fun v1 => zg v1.isSome (
   bif decide (((zgt v1)) ≤ z) then
    zl (Q_cl_sumOf y l6 0 (ar 1)) (fun v2 => zg v2.isSome (
    bif decide (l4 < ((zgt v2))) then
     some (.inl (11, [.ref 1, .int y, .int z, .int l6, .int (((zgt v2))), .int (((zgt v1))), .int (l6 + 1)], [], (ar, fi, (m1, m2, m3, m4, m5))))
    else
     bif !decide (((zgt v2)) = l4) then
      some (.inl (11, [.ref 1, .int y, .int z, .int l3, .int l4, .int l5, .int (l6 + 1)], [], (ar, fi, (m1, m2, m3, m4, m5))))
     else
      bif decide (l5 ≤ ((zgt v1))) then
       some (.inl (11, [.ref 1, .int y, .int z, .int l3, .int l4, .int l5, .int (l6 + 1)], [], (ar, fi, (m1, m2, m3, m4, m5))))
      else
       some (.inl (11, [.ref 1, .int y, .int z, .int l6, .int (((zgt v2))), .int (((zgt v1))), .int (l6 + 1)], [], (ar, fi, (m1, m2, m3, m4, m5))))))
   else
    some (.inl (11, [.ref 1, .int y, .int z, .int l3, .int l4, .int l5, .int (l6 + 1)], [], (ar, fi, (m1, m2, m3, m4, m5)))))) : Option ((Nat × List Value × List Value × zH2) ⊕ zO2)) := rfl
theorem k_cl_bestPolicies_11 {X : Nat × (Nat → Int32)} {ar fi : Nat → Nat → Int32} {m1 m2 m3 m4 m5 : Nat} {y z : Int32} {o : zO2} : ∀ (s : U_cl_bestPolicies_11) (q : U_cl_bestPolicies_11 ⊕ T_cl_bestPolicies), f_cl_bestPolicies_11 y z (ar 1) s = some q → zq (M_cl_bestPolicies_11 X (zEx 2 S_cl_sumOf zE0) ar fi m1 m2 m3 m4 m5 y z o) (fun t => O_cl_bestPolicies ar fi m1 m2 m3 m4 m5 t = o) q → M_cl_bestPolicies_11 X (zEx 2 S_cl_sumOf zE0) ar fi m1 m2 m3 m4 m5 y z o s := by
  intro s q h hq
  obtain ⟨l3, l4, l5, l6⟩ := s
  have h : b_cl_bestPolicies_11 y z (ar 1) l3 l4 l5 l6 = some q := h
  unfold b_cl_bestPolicies_11 at h
  show zR2 X zFT (zEx 2 S_cl_sumOf zE0) zc_1 11 [.ref 1, .int y, .int z, .int l3, .int l4, .int l5, .int l6] [] (ar, fi, (m1, m2, m3, m4, m5)) o
  refine zT_seg t11_cl_bestPolicies ?_
  refine zb_el h (fun hb h => zT_t hb ?_) (fun hb h => zT_f hb ?_)
  · have hz := zsi h hq
    refine (zO_mk ?_ ?_).trans hz
    · first | with_reducible rfl | (rfl)
    · first | with_reducible rfl | (rfl)
  · refine zbd_el h (fun v1 hv h => zT_c hv ?_)
    refine zb_el h (fun hb h => zT_t hb ?_) (fun hb h => zT_f hb ?_)
    · refine zbd_el h (fun v2 hv h => zT_c hv ?_)
      refine zb_el h (fun hb h => zT_t hb ?_) (fun hb h => zT_f hb ?_)
      · have hz := zsi h hq
        refine zR2_hp ?_ ?_ hz
        · first | with_reducible rfl | (rfl)
        · first | with_reducible rfl | (rfl)
      · refine zb_el h (fun hb h => zT_t hb ?_) (fun hb h => zT_f hb ?_)
        · have hz := zsi h hq
          refine zR2_hp ?_ ?_ hz
          · first | with_reducible rfl | (rfl)
          · first | with_reducible rfl | (rfl)
        · refine zb_el h (fun hb h => zT_t hb ?_) (fun hb h => zT_f hb ?_)
          · have hz := zsi h hq
            refine zR2_hp ?_ ?_ hz
            · first | with_reducible rfl | (rfl)
            · first | with_reducible rfl | (rfl)
          · have hz := zsi h hq
            refine zR2_hp ?_ ?_ hz
            · first | with_reducible rfl | (rfl)
            · first | with_reducible rfl | (rfl)
    · have hz := zsi h hq
      refine zR2_hp ?_ ?_ hz
      · first | with_reducible rfl | (rfl)
      · first | with_reducible rfl | (rfl)
set_option maxRecDepth 20000 in
theorem t_cl_bestPolicies {X : Nat × (Nat → Int32)} {ar fi : Nat → Nat → Int32} {m1 m2 m3 m4 m5 : Nat} {y z : Int32} {Q_cl_sumOf : Int32 → Int32 → Int32 → (Nat → Int32) → Option (Int32)} : zseg X zFT (zEx 2 (P_cl_sumOf Q_cl_sumOf) zE0) zc_1 (fun p => Nat.beq p 11) 400 0 [.ref 1, .int y, .int z] [] (ar, fi, (m1, m2, m3, m4, m5)) = (
  some (.inl (11, [.ref 1, .int y, .int z, .int 0, .int 0, .int 0, .int 1], [], (ar, fi, (m1, m2, m3, m4, m5)))) : Option ((Nat × List Value × List Value × zH2) ⊕ zO2)) := rfl
theorem e_cl_bestPolicies {X : Nat × (Nat → Int32)} {ar fi : Nat → Nat → Int32} {m1 m2 m3 m4 m5 : Nat} {y z : Int32} {o : zO2} : ∀ (q : T_cl_bestPolicies), q_cl_bestPolicies y z (ar 1) = some q → (fun t => O_cl_bestPolicies ar fi m1 m2 m3 m4 m5 t = o) q → zR2 X zFT (zEx 2 S_cl_sumOf zE0) zc_1 0 [.ref 1, .int y, .int z] [] (ar, fi, (m1, m2, m3, m4, m5)) o := by
  intro q h hq
  unfold q_cl_bestPolicies at h
  refine zT_seg t_cl_bestPolicies ?_
  refine zR2_hp ?_ ?_ (zlp_K k_cl_bestPolicies_11 h hq)
  · first | with_reducible rfl | (rfl)
  · first | with_reducible rfl | (rfl)
theorem ok_cl_bestPolicies (X : Nat × (Nat → Int32)) : zOkS X 1 S_cl_bestPolicies 2 := zOkS_new (zOkE_cons (ok_cl_sumOf X) (by decide) (zOkE_nil X 1)) (by
  intro args g o h
  obtain ⟨ar, fi, m1, m2, m3, m4, m5⟩ := g
  unfold S_cl_bestPolicies P_cl_bestPolicies at h
  split at h
  · refine zb_el h (fun hI0 k0 => ?_) (fun _ h10 => ?_)
    · try simp only [Bool.and_eq_true] at hI0
      have j0 := hI0
      have e0 := Nat.eq_of_beq_eq_true j0
      subst e0
      exact zpe_el k0 (fun t ht ho => e_cl_bestPolicies t ht ho)
    · cases h10
  · cases h)
abbrev T_cl_ruinedBy : Type := Int32
abbrev U_cl_ruinedBy_19 : Type := Int32 × Int32
abbrev U_cl_ruinedBy_7 : Type := Int32 × Int32
noncomputable def b_cl_ruinedBy_19 (y : Int32) (a1 : Nat → Int32) (l3 : Int32) (l4 : Int32) (l5 : Int32) (l6 : Int32) : Option (U_cl_ruinedBy_19 ⊕ (U_cl_ruinedBy_7 ⊕ T_cl_ruinedBy)) :=
  bif decide (y ≤ l6) then
   some (.inr (.inl (l5, l4 + 1)))
  else
   bif !decide (((Int32.toUInt32 l3 >>> (Int32.toUInt32 l6 &&& Int32.toUInt32 31)).toInt32) &&& 1 = 0) then
    some (.inl (l5, l6 + 1))
   else
    zbd (q_cl_canPay y l3 l6 a1) (fun v1 =>
    bif !decide (v1 = 0) then
     some (.inl (l5, l6 + 1))
    else
     some (.inl (l5 ||| (1 <<< (l6 &&& 31)), l6 + 1)))
noncomputable def f_cl_ruinedBy_19 (y : Int32) (a1 : Nat → Int32) (l3 : Int32) (l4 : Int32) : U_cl_ruinedBy_19 → Option (U_cl_ruinedBy_19 ⊕ (U_cl_ruinedBy_7 ⊕ T_cl_ruinedBy)) := fun s => b_cl_ruinedBy_19 y a1 l3 l4 s.1 s.2
noncomputable def l_cl_ruinedBy_19 (y : Int32) (a1 : Nat → Int32) (l3 : Int32) (l4 : Int32) (l5 : Int32) (l6 : Int32) : Option (U_cl_ruinedBy_7 ⊕ T_cl_ruinedBy) := zlp (f_cl_ruinedBy_19 y a1 l3 l4) (l5, l6)
noncomputable def b_cl_ruinedBy_7 (y : Int32) (a1 : Nat → Int32) (l3 : Int32) (l4 : Int32) : Option (U_cl_ruinedBy_7 ⊕ T_cl_ruinedBy) :=
  bif decide (y ≤ l4) then
   some (.inr l3)
  else
   l_cl_ruinedBy_19 y a1 l3 l4 l3 0
noncomputable def f_cl_ruinedBy_7 (y : Int32) (a1 : Nat → Int32) : U_cl_ruinedBy_7 → Option (U_cl_ruinedBy_7 ⊕ T_cl_ruinedBy) := fun s => b_cl_ruinedBy_7 y a1 s.1 s.2
noncomputable def l_cl_ruinedBy_7 (y : Int32) (a1 : Nat → Int32) (l3 : Int32) (l4 : Int32) : Option T_cl_ruinedBy := zlp (f_cl_ruinedBy_7 y a1) (l3, l4)
noncomputable def q_cl_ruinedBy (y : Int32) (z : Int32) (a1 : Nat → Int32) : Option T_cl_ruinedBy :=
  l_cl_ruinedBy_7 y a1 (1 <<< (z &&& 31)) 0
def P_cl_ruinedBy (Q : Int32 → Int32 → (Nat → Int32) → Option (Int32)) : zSp := fun as g => match as with
  | [.ref a, .int y, .int z] => bif Nat.beq a 1 then zpe (Q y z (g.1 1)) (fun t => (some (.int t), (g.1, g.2.1, g.2.2))) else none
  | _ => none
noncomputable abbrev S_cl_ruinedBy : zSp := P_cl_ruinedBy q_cl_ruinedBy
def O_cl_ruinedBy (ar fi : Nat → Nat → Int32) (m1 : Nat) (m2 : Nat) (m3 : Nat) (m4 : Nat) (m5 : Nat) (t : T_cl_ruinedBy) : zO2 := (some (.int t), (ar, fi, (m1, m2, m3, m4, m5)))
def M_cl_ruinedBy_19 (X : Nat × (Nat → Int32)) (E : zTE) (ar fi : Nat → Nat → Int32) (m1 : Nat) (m2 : Nat) (m3 : Nat) (m4 : Nat) (m5 : Nat) (y : Int32) (z : Int32) (l3 : Int32) (l4 : Int32) (o : zO2) (s : U_cl_ruinedBy_19) : Prop := zR2 X zFT E zc_5 19 [.ref 1, .int y, .int z, .int l3, .int l4, .int s.1, .int s.2] [] (ar, fi, (m1, m2, m3, m4, m5)) o
def M_cl_ruinedBy_7 (X : Nat × (Nat → Int32)) (E : zTE) (ar fi : Nat → Nat → Int32) (m1 : Nat) (m2 : Nat) (m3 : Nat) (m4 : Nat) (m5 : Nat) (y : Int32) (z : Int32) (o : zO2) (s : U_cl_ruinedBy_7) : Prop := zR2 X zFT E zc_5 7 [.ref 1, .int y, .int z, .int s.1, .int s.2] [] (ar, fi, (m1, m2, m3, m4, m5)) o
set_option maxRecDepth 20000 in
theorem t19_cl_ruinedBy {X : Nat × (Nat → Int32)} {ar fi : Nat → Nat → Int32} {m1 m2 m3 m4 m5 : Nat} {y z : Int32} {l3 : Int32} {l4 : Int32} {l5 : Int32} {l6 : Int32} {Q_cl_canPay : Int32 → Int32 → Int32 → (Nat → Int32) → Option (Int32)} : zseg X zFT (zEx 6 (P_cl_canPay Q_cl_canPay) zE0) zc_5 (fun p => Nat.beq p 19 || Nat.beq p 7) 400 19 [.ref 1, .int y, .int z, .int l3, .int l4, .int l5, .int l6] [] (ar, fi, (m1, m2, m3, m4, m5)) = (
  bif decide (y ≤ l6) then
   some (.inl (7, [.ref 1, .int y, .int z, .int l5, .int (l4 + 1)], [], (ar, fi, (m1, m2, m3, m4, m5))))
  else
   bif !decide (((Int32.toUInt32 l3 >>> (Int32.toUInt32 l6 &&& Int32.toUInt32 31)).toInt32) &&& 1 = 0) then
    some (.inl (19, [.ref 1, .int y, .int z, .int l3, .int l4, .int l5, .int (l6 + 1)], [], (ar, fi, (m1, m2, m3, m4, m5))))
   else
    zl (Q_cl_canPay y l3 l6 (ar 1)) (fun v1 => zg v1.isSome (
    bif !decide (((zgt v1)) = 0) then
     some (.inl (19, [.ref 1, .int y, .int z, .int l3, .int l4, .int l5, .int (l6 + 1)], [], (ar, fi, (m1, m2, m3, m4, m5))))
    else
     some (.inl (19, [.ref 1, .int y, .int z, .int l3, .int l4, .int (l5 ||| (1 <<< (l6 &&& 31))), .int (l6 + 1)], [], (ar, fi, (m1, m2, m3, m4, m5)))))) : Option ((Nat × List Value × List Value × zH2) ⊕ zO2)) := rfl
theorem k_cl_ruinedBy_19 {X : Nat × (Nat → Int32)} {ar fi : Nat → Nat → Int32} {m1 m2 m3 m4 m5 : Nat} {y z : Int32} {l3 : Int32} {l4 : Int32} {o : zO2} : ∀ (s : U_cl_ruinedBy_19) (q : U_cl_ruinedBy_19 ⊕ (U_cl_ruinedBy_7 ⊕ T_cl_ruinedBy)), f_cl_ruinedBy_19 y (ar 1) l3 l4 s = some q → zq (M_cl_ruinedBy_19 X (zEx 6 S_cl_canPay zE0) ar fi m1 m2 m3 m4 m5 y z l3 l4 o) (zq (M_cl_ruinedBy_7 X (zEx 6 S_cl_canPay zE0) ar fi m1 m2 m3 m4 m5 y z o) (fun t => O_cl_ruinedBy ar fi m1 m2 m3 m4 m5 t = o)) q → M_cl_ruinedBy_19 X (zEx 6 S_cl_canPay zE0) ar fi m1 m2 m3 m4 m5 y z l3 l4 o s := by
  intro s q h hq
  obtain ⟨l5, l6⟩ := s
  have h : b_cl_ruinedBy_19 y (ar 1) l3 l4 l5 l6 = some q := h
  unfold b_cl_ruinedBy_19 at h
  show zR2 X zFT (zEx 6 S_cl_canPay zE0) zc_5 19 [.ref 1, .int y, .int z, .int l3, .int l4, .int l5, .int l6] [] (ar, fi, (m1, m2, m3, m4, m5)) o
  refine zT_seg t19_cl_ruinedBy ?_
  refine zb_el h (fun hb h => zT_t hb ?_) (fun hb h => zT_f hb ?_)
  · have hz := zsi h hq
    refine zR2_hp ?_ ?_ hz
    · first | with_reducible rfl | (rfl)
    · first | with_reducible rfl | (rfl)
  · refine zb_el h (fun hb h => zT_t hb ?_) (fun hb h => zT_f hb ?_)
    · have hz := zsi h hq
      refine zR2_hp ?_ ?_ hz
      · first | with_reducible rfl | (rfl)
      · first | with_reducible rfl | (rfl)
    · refine zbd_el h (fun v1 hv h => zT_c hv ?_)
      refine zb_el h (fun hb h => zT_t hb ?_) (fun hb h => zT_f hb ?_)
      · have hz := zsi h hq
        refine zR2_hp ?_ ?_ hz
        · first | with_reducible rfl | (rfl)
        · first | with_reducible rfl | (rfl)
      · have hz := zsi h hq
        refine zR2_hp ?_ ?_ hz
        · first | with_reducible rfl | (rfl)
        · first | with_reducible rfl | (rfl)
set_option maxRecDepth 20000 in
theorem t7_cl_ruinedBy {X : Nat × (Nat → Int32)} {ar fi : Nat → Nat → Int32} {m1 m2 m3 m4 m5 : Nat} {y z : Int32} {l3 : Int32} {l4 : Int32} {Q_cl_canPay : Int32 → Int32 → Int32 → (Nat → Int32) → Option (Int32)} : zseg X zFT (zEx 6 (P_cl_canPay Q_cl_canPay) zE0) zc_5 (fun p => Nat.beq p 19 || Nat.beq p 7) 400 7 [.ref 1, .int y, .int z, .int l3, .int l4] [] (ar, fi, (m1, m2, m3, m4, m5)) = (
  bif decide (y ≤ l4) then
   some (.inr (some (.int l3), (ar, fi, (m1, m2, m3, m4, m5))))
  else
   some (.inl (19, [.ref 1, .int y, .int z, .int l3, .int l4, .int l3, .int 0], [], (ar, fi, (m1, m2, m3, m4, m5)))) : Option ((Nat × List Value × List Value × zH2) ⊕ zO2)) := rfl
theorem k_cl_ruinedBy_7 {X : Nat × (Nat → Int32)} {ar fi : Nat → Nat → Int32} {m1 m2 m3 m4 m5 : Nat} {y z : Int32} {o : zO2} : ∀ (s : U_cl_ruinedBy_7) (q : U_cl_ruinedBy_7 ⊕ T_cl_ruinedBy), f_cl_ruinedBy_7 y (ar 1) s = some q → zq (M_cl_ruinedBy_7 X (zEx 6 S_cl_canPay zE0) ar fi m1 m2 m3 m4 m5 y z o) (fun t => O_cl_ruinedBy ar fi m1 m2 m3 m4 m5 t = o) q → M_cl_ruinedBy_7 X (zEx 6 S_cl_canPay zE0) ar fi m1 m2 m3 m4 m5 y z o s := by
  intro s q h hq
  obtain ⟨l3, l4⟩ := s
  have h : b_cl_ruinedBy_7 y (ar 1) l3 l4 = some q := h
  unfold b_cl_ruinedBy_7 at h
  show zR2 X zFT (zEx 6 S_cl_canPay zE0) zc_5 7 [.ref 1, .int y, .int z, .int l3, .int l4] [] (ar, fi, (m1, m2, m3, m4, m5)) o
  refine zT_seg t7_cl_ruinedBy ?_
  refine zb_el h (fun hb h => zT_t hb ?_) (fun hb h => zT_f hb ?_)
  · have hz := zsi h hq
    refine (zO_mk ?_ ?_).trans hz
    · first | with_reducible rfl | (rfl)
    · first | with_reducible rfl | (rfl)
  · refine zR2_hp ?_ ?_ (zlp_K k_cl_ruinedBy_19 h hq)
    · first | with_reducible rfl | (rfl)
    · first | with_reducible rfl | (rfl)
set_option maxRecDepth 20000 in
theorem t_cl_ruinedBy {X : Nat × (Nat → Int32)} {ar fi : Nat → Nat → Int32} {m1 m2 m3 m4 m5 : Nat} {y z : Int32} {Q_cl_canPay : Int32 → Int32 → Int32 → (Nat → Int32) → Option (Int32)} : zseg X zFT (zEx 6 (P_cl_canPay Q_cl_canPay) zE0) zc_5 (fun p => Nat.beq p 19 || Nat.beq p 7) 400 0 [.ref 1, .int y, .int z] [] (ar, fi, (m1, m2, m3, m4, m5)) = (
  some (.inl (7, [.ref 1, .int y, .int z, .int (1 <<< (z &&& 31)), .int 0], [], (ar, fi, (m1, m2, m3, m4, m5)))) : Option ((Nat × List Value × List Value × zH2) ⊕ zO2)) := rfl
theorem e_cl_ruinedBy {X : Nat × (Nat → Int32)} {ar fi : Nat → Nat → Int32} {m1 m2 m3 m4 m5 : Nat} {y z : Int32} {o : zO2} : ∀ (q : T_cl_ruinedBy), q_cl_ruinedBy y z (ar 1) = some q → (fun t => O_cl_ruinedBy ar fi m1 m2 m3 m4 m5 t = o) q → zR2 X zFT (zEx 6 S_cl_canPay zE0) zc_5 0 [.ref 1, .int y, .int z] [] (ar, fi, (m1, m2, m3, m4, m5)) o := by
  intro q h hq
  unfold q_cl_ruinedBy at h
  refine zT_seg t_cl_ruinedBy ?_
  refine zR2_hp ?_ ?_ (zlp_K k_cl_ruinedBy_7 h hq)
  · first | with_reducible rfl | (rfl)
  · first | with_reducible rfl | (rfl)
theorem ok_cl_ruinedBy (X : Nat × (Nat → Int32)) : zOkS X 5 S_cl_ruinedBy 2 := zOkS_new (zOkE_cons (ok_cl_canPay X) (by decide) (zOkE_nil X 1)) (by
  intro args g o h
  obtain ⟨ar, fi, m1, m2, m3, m4, m5⟩ := g
  unfold S_cl_ruinedBy P_cl_ruinedBy at h
  split at h
  · refine zb_el h (fun hI0 k0 => ?_) (fun _ h10 => ?_)
    · try simp only [Bool.and_eq_true] at hI0
      have j0 := hI0
      have e0 := Nat.eq_of_beq_eq_true j0
      subst e0
      exact zpe_el k0 (fun t ht ho => e_cl_ruinedBy t ht ho)
    · cases h10
  · cases h)
abbrev T_cl_mostCarried : Type := Int32 × (Nat → Int32)
abbrev U_cl_mostCarried_2 : Type := Int32 × (Nat → Int32)
abbrev U_cl_mostCarried_46 : Type := Int32 × Int32
noncomputable def b_cl_mostCarried_46 (y : Int32) (a1 : Nat → Int32) (b63 : Nat → Int32) (l3 : Int32) (l4 : Int32) : Option (U_cl_mostCarried_46 ⊕ T_cl_mostCarried) :=
  bif decide (1 <<< (y &&& 31) ≤ l4) then
   some (.inr (l3, b63))
  else
   zbd (q_cl_worthInTime y l4 a1 b63) (fun v2 =>
   some (.inl ((if l3 < v2 then v2 else l3), l4 + 1)))
noncomputable def f_cl_mostCarried_46 (y : Int32) (a1 : Nat → Int32) (b63 : Nat → Int32) : U_cl_mostCarried_46 → Option (U_cl_mostCarried_46 ⊕ T_cl_mostCarried) := fun s => b_cl_mostCarried_46 y a1 b63 s.1 s.2
noncomputable def l_cl_mostCarried_46 (y : Int32) (a1 : Nat → Int32) (b63 : Nat → Int32) (l3 : Int32) (l4 : Int32) : Option T_cl_mostCarried := zlp (f_cl_mostCarried_46 y a1 b63) (l3, l4)
noncomputable def b_cl_mostCarried_2 (y : Int32) (a1 : Nat → Int32) (l3 : Int32) (b63 : Nat → Int32) : Option (U_cl_mostCarried_2 ⊕ T_cl_mostCarried) :=
  bif decide (y ≤ l3) then
   zbd (l_cl_mostCarried_46 y a1 b63 0 1) (fun k => some (.inr k))
  else
   zg (zin (3 * l3) 260) (
   bif decide (a1 ((3 * l3).toNatClampNeg) < 1) then
    some (.inr ((-2), b63))
   else
    zg (zin (3 * l3) 260) (
    bif decide (a1 ((3 * l3).toNatClampNeg) ≤ 60) then
     zbd (q_cl_putInOrder l3 a1 b63) (fun v1 =>
     some (.inl (l3 + 1, (v1))))
    else
     some (.inr ((-2), b63))))
noncomputable def f_cl_mostCarried_2 (y : Int32) (a1 : Nat → Int32) : U_cl_mostCarried_2 → Option (U_cl_mostCarried_2 ⊕ T_cl_mostCarried) := fun s => b_cl_mostCarried_2 y a1 s.1 s.2
noncomputable def l_cl_mostCarried_2 (y : Int32) (a1 : Nat → Int32) (l3 : Int32) (b63 : Nat → Int32) : Option T_cl_mostCarried := zlp (f_cl_mostCarried_2 y a1) (l3, b63)
noncomputable def q_cl_mostCarried (y : Int32) (a1 : Nat → Int32) (a63 : Nat → Int32) : Option T_cl_mostCarried :=
  l_cl_mostCarried_2 y a1 0 a63
def P_cl_mostCarried (Q : Int32 → (Nat → Int32) → (Nat → Int32) → Option (Int32 × (Nat → Int32))) : zSp := fun as g => match as with
  | [.ref a, .ref b, .int y] => bif Nat.beq a 62 && Nat.beq b 1 then zpe (Q y (g.1 1) (g.1 63)) (fun t => (some (.int (t.1)), ((zua g.1 63 t.2), g.2.1, g.2.2))) else none
  | _ => none
noncomputable abbrev S_cl_mostCarried : zSp := P_cl_mostCarried q_cl_mostCarried
def O_cl_mostCarried (ar fi : Nat → Nat → Int32) (m1 : Nat) (m2 : Nat) (m3 : Nat) (m4 : Nat) (m5 : Nat) (t : T_cl_mostCarried) : zO2 := (some (.int (t.1)), ((zua ar 63 t.2), fi, (m1, m2, m3, m4, m5)))
def M_cl_mostCarried_46 (X : Nat × (Nat → Int32)) (E : zTE) (ar fi : Nat → Nat → Int32) (m1 : Nat) (m2 : Nat) (m3 : Nat) (m4 : Nat) (m5 : Nat) (y : Int32) (b63 : Nat → Int32) (o : zO2) (s : U_cl_mostCarried_46) : Prop := zR2 X zFT E zc_7 46 [.ref 62, .ref 1, .int y, .int s.1, .int s.2] [] ((zua ar 63 b63), fi, (m1, m2, m3, m4, m5)) o
def M_cl_mostCarried_2 (X : Nat × (Nat → Int32)) (E : zTE) (ar fi : Nat → Nat → Int32) (m1 : Nat) (m2 : Nat) (m3 : Nat) (m4 : Nat) (m5 : Nat) (y : Int32) (o : zO2) (s : U_cl_mostCarried_2) : Prop := zR2 X zFT E zc_7 2 [.ref 62, .ref 1, .int y, .int s.1] [] ((zua ar 63 s.2), fi, (m1, m2, m3, m4, m5)) o
set_option maxRecDepth 20000 in
theorem t46_cl_mostCarried {X : Nat × (Nat → Int32)} {ar fi : Nat → Nat → Int32} {m1 m2 m3 m4 m5 : Nat} {y : Int32} {l3 : Int32} {l4 : Int32} {b63 : Nat → Int32} {Q_cl_putInOrder : Int32 → (Nat → Int32) → (Nat → Int32) → Option ((Nat → Int32))} {Q_cl_worthInTime : Int32 → Int32 → (Nat → Int32) → (Nat → Int32) → Option (Int32)} : zseg X zFT (zEx 8 (P_cl_putInOrder Q_cl_putInOrder) (zEx 9 (P_cl_worthInTime Q_cl_worthInTime) zE0)) zc_7 (fun p => Nat.beq p 2 || Nat.beq p 46) 400 46 [.ref 62, .ref 1, .int y, .int l3, .int l4] [] ((zua ar 63 b63), fi, (m1, m2, m3, m4, m5)) = (
  bif decide (1 <<< (y &&& 31) ≤ l4) then
   some (.inr (some (.int l3), ((zua ar 63 b63), fi, (m1, m2, m3, m4, m5))))
  else
   zl (Q_cl_worthInTime y l4 (ar 1) b63) (fun v2 => zg v2.isSome (
   some (.inl (46, [.ref 62, .ref 1, .int y, .int (if l3 < ((zgt v2)) then ((zgt v2)) else l3), .int (l4 + 1)], [], ((zua ar 63 b63), fi, (m1, m2, m3, m4, m5)))))) : Option ((Nat × List Value × List Value × zH2) ⊕ zO2)) := rfl
theorem k_cl_mostCarried_46 {X : Nat × (Nat → Int32)} {ar fi : Nat → Nat → Int32} {m1 m2 m3 m4 m5 : Nat} {y : Int32} {b63 : Nat → Int32} {o : zO2} : ∀ (s : U_cl_mostCarried_46) (q : U_cl_mostCarried_46 ⊕ T_cl_mostCarried), f_cl_mostCarried_46 y (ar 1) b63 s = some q → zq (M_cl_mostCarried_46 X (zEx 8 S_cl_putInOrder (zEx 9 S_cl_worthInTime zE0)) ar fi m1 m2 m3 m4 m5 y b63 o) (fun t => O_cl_mostCarried ar fi m1 m2 m3 m4 m5 t = o) q → M_cl_mostCarried_46 X (zEx 8 S_cl_putInOrder (zEx 9 S_cl_worthInTime zE0)) ar fi m1 m2 m3 m4 m5 y b63 o s := by
  intro s q h hq
  obtain ⟨l3, l4⟩ := s
  have h : b_cl_mostCarried_46 y (ar 1) b63 l3 l4 = some q := h
  unfold b_cl_mostCarried_46 at h
  show zR2 X zFT (zEx 8 S_cl_putInOrder (zEx 9 S_cl_worthInTime zE0)) zc_7 46 [.ref 62, .ref 1, .int y, .int l3, .int l4] [] ((zua ar 63 b63), fi, (m1, m2, m3, m4, m5)) o
  refine zT_seg t46_cl_mostCarried ?_
  refine zb_el h (fun hb h => zT_t hb ?_) (fun hb h => zT_f hb ?_)
  · have hz := zsi h hq
    refine (zO_mk ?_ ?_).trans hz
    · first | with_reducible rfl | (exact zuas_eq _ [(63, _)] [(63, _)] [63] rfl rfl ⟨rfl, trivial⟩)
    · first | with_reducible rfl | (rfl)
  · refine zbd_el h (fun v2 hv h => zT_c hv ?_)
    have hz := zsi h hq
    refine zR2_hp ?_ ?_ hz
    · first | with_reducible rfl | (exact zuas_eq _ [(63, _)] [(63, _)] [63] rfl rfl ⟨rfl, trivial⟩)
    · first | with_reducible rfl | (rfl)
set_option maxRecDepth 20000 in
theorem t2_cl_mostCarried {X : Nat × (Nat → Int32)} {ar fi : Nat → Nat → Int32} {m1 m2 m3 m4 m5 : Nat} {y : Int32} {l3 : Int32} {b63 : Nat → Int32} {Q_cl_putInOrder : Int32 → (Nat → Int32) → (Nat → Int32) → Option ((Nat → Int32))} {Q_cl_worthInTime : Int32 → Int32 → (Nat → Int32) → (Nat → Int32) → Option (Int32)} : zseg X zFT (zEx 8 (P_cl_putInOrder Q_cl_putInOrder) (zEx 9 (P_cl_worthInTime Q_cl_worthInTime) zE0)) zc_7 (fun p => Nat.beq p 2 || Nat.beq p 46) 400 2 [.ref 62, .ref 1, .int y, .int l3] [] ((zua ar 63 b63), fi, (m1, m2, m3, m4, m5)) = (
  bif decide (y ≤ l3) then
   some (.inl (46, [.ref 62, .ref 1, .int y, .int 0, .int 1], [], ((zua ar 63 b63), fi, (m1, m2, m3, m4, m5))))
  else
   zg (zin (3 * l3) 260) (
   bif decide ((ar 1) ((3 * l3).toNatClampNeg) < 1) then
    some (.inr (some (.int (-2)), ((zua ar 63 b63), fi, (m1, m2, m3, m4, m5))))
   else
    zg (zin (3 * l3) 260) (
    bif decide ((ar 1) ((3 * l3).toNatClampNeg) ≤ 60) then
     zl (Q_cl_putInOrder l3 (ar 1) b63) (fun v1 => zg v1.isSome (
     some (.inl (2, [.ref 62, .ref 1, .int y, .int (l3 + 1)], [], ((zua (zua ar 63 b63) 63 (((zgt v1)))), fi, (m1, m2, m3, m4, m5))))))
    else
     some (.inr (some (.int (-2)), ((zua ar 63 b63), fi, (m1, m2, m3, m4, m5)))))) : Option ((Nat × List Value × List Value × zH2) ⊕ zO2)) := rfl
theorem k_cl_mostCarried_2 {X : Nat × (Nat → Int32)} {ar fi : Nat → Nat → Int32} {m1 m2 m3 m4 m5 : Nat} {y : Int32} {o : zO2} : ∀ (s : U_cl_mostCarried_2) (q : U_cl_mostCarried_2 ⊕ T_cl_mostCarried), f_cl_mostCarried_2 y (ar 1) s = some q → zq (M_cl_mostCarried_2 X (zEx 8 S_cl_putInOrder (zEx 9 S_cl_worthInTime zE0)) ar fi m1 m2 m3 m4 m5 y o) (fun t => O_cl_mostCarried ar fi m1 m2 m3 m4 m5 t = o) q → M_cl_mostCarried_2 X (zEx 8 S_cl_putInOrder (zEx 9 S_cl_worthInTime zE0)) ar fi m1 m2 m3 m4 m5 y o s := by
  intro s q h hq
  obtain ⟨l3, b63⟩ := s
  have h : b_cl_mostCarried_2 y (ar 1) l3 b63 = some q := h
  unfold b_cl_mostCarried_2 at h
  show zR2 X zFT (zEx 8 S_cl_putInOrder (zEx 9 S_cl_worthInTime zE0)) zc_7 2 [.ref 62, .ref 1, .int y, .int l3] [] ((zua ar 63 b63), fi, (m1, m2, m3, m4, m5)) o
  refine zT_seg t2_cl_mostCarried ?_
  refine zb_el h (fun hb h => zT_t hb ?_) (fun hb h => zT_f hb ?_)
  · refine zbd_el h (fun r hr h => ?_)
    have hz := zsi h hq
    refine zR2_hp ?_ ?_ (zlp_K k_cl_mostCarried_46 hr hz)
    · first | with_reducible rfl | (exact zuas_eq _ [(63, _)] [(63, _)] [63] rfl rfl ⟨rfl, trivial⟩)
    · first | with_reducible rfl | (rfl)
  · refine zg_el h (fun hg h => zT_g hg ?_)
    refine zb_el h (fun hb h => zT_t hb ?_) (fun hb h => zT_f hb ?_)
    · have hz := zsi h hq
      refine (zO_mk ?_ ?_).trans hz
      · first | with_reducible rfl | (exact zuas_eq _ [(63, _)] [(63, _)] [63] rfl rfl ⟨rfl, trivial⟩)
      · first | with_reducible rfl | (rfl)
    · refine zg_el h (fun hg h => zT_g hg ?_)
      refine zb_el h (fun hb h => zT_t hb ?_) (fun hb h => zT_f hb ?_)
      · refine zbd_el h (fun v1 hv h => zT_c hv ?_)
        have hz := zsi h hq
        refine zR2_hp ?_ ?_ hz
        · first | with_reducible rfl | (exact zuas_eq _ [(63, _), (63, _)] [(63, _)] [63] rfl rfl ⟨rfl, trivial⟩)
        · first | with_reducible rfl | (rfl)
      · have hz := zsi h hq
        refine (zO_mk ?_ ?_).trans hz
        · first | with_reducible rfl | (exact zuas_eq _ [(63, _)] [(63, _)] [63] rfl rfl ⟨rfl, trivial⟩)
        · first | with_reducible rfl | (rfl)
set_option maxRecDepth 20000 in
theorem t_cl_mostCarried {X : Nat × (Nat → Int32)} {ar fi : Nat → Nat → Int32} {m1 m2 m3 m4 m5 : Nat} {y : Int32} {Q_cl_putInOrder : Int32 → (Nat → Int32) → (Nat → Int32) → Option ((Nat → Int32))} {Q_cl_worthInTime : Int32 → Int32 → (Nat → Int32) → (Nat → Int32) → Option (Int32)} : zseg X zFT (zEx 8 (P_cl_putInOrder Q_cl_putInOrder) (zEx 9 (P_cl_worthInTime Q_cl_worthInTime) zE0)) zc_7 (fun p => Nat.beq p 2 || Nat.beq p 46) 400 0 [.ref 62, .ref 1, .int y] [] (ar, fi, (m1, m2, m3, m4, m5)) = (
  some (.inl (2, [.ref 62, .ref 1, .int y, .int 0], [], (ar, fi, (m1, m2, m3, m4, m5)))) : Option ((Nat × List Value × List Value × zH2) ⊕ zO2)) := rfl
theorem e_cl_mostCarried {X : Nat × (Nat → Int32)} {ar fi : Nat → Nat → Int32} {m1 m2 m3 m4 m5 : Nat} {y : Int32} {o : zO2} : ∀ (q : T_cl_mostCarried), q_cl_mostCarried y (ar 1) (ar 63) = some q → (fun t => O_cl_mostCarried ar fi m1 m2 m3 m4 m5 t = o) q → zR2 X zFT (zEx 8 S_cl_putInOrder (zEx 9 S_cl_worthInTime zE0)) zc_7 0 [.ref 62, .ref 1, .int y] [] (ar, fi, (m1, m2, m3, m4, m5)) o := by
  intro q h hq
  unfold q_cl_mostCarried at h
  refine zT_seg t_cl_mostCarried ?_
  refine zR2_hp ?_ ?_ (zlp_K k_cl_mostCarried_2 h hq)
  · first | with_reducible rfl | (exact zuas_eq _ [] [(63, _)] [63] rfl rfl ⟨rfl, trivial⟩)
  · first | with_reducible rfl | (rfl)
theorem ok_cl_mostCarried (X : Nat × (Nat → Int32)) : zOkS X 7 S_cl_mostCarried 2 := zOkS_new (zOkE_cons (ok_cl_putInOrder X) (by decide) (zOkE_cons (ok_cl_worthInTime X) (by decide) (zOkE_nil X 1))) (by
  intro args g o h
  obtain ⟨ar, fi, m1, m2, m3, m4, m5⟩ := g
  unfold S_cl_mostCarried P_cl_mostCarried at h
  split at h
  · refine zb_el h (fun hI0 k0 => ?_) (fun _ h10 => ?_)
    · try simp only [Bool.and_eq_true] at hI0
      obtain ⟨j0, j1⟩ := hI0
      have e0 := Nat.eq_of_beq_eq_true j0
      subst e0
      have e1 := Nat.eq_of_beq_eq_true j1
      subst e1
      exact zpe_el k0 (fun t ht ho => e_cl_mostCarried t ht ho)
    · cases h10
  · cases h)
abbrev T_cu_findWay : Type := Int32 × (Nat → Int32) × (Nat → Int32) × Int32
abbrev U_cu_findWay_45 : Type := Int32 × (Nat → Int32) × (Nat → Int32) × Int32
abbrev U_cu_findWay_3 : Type := Int32 × (Nat → Int32)
noncomputable def b_cu_findWay_45 (z : Int32) (a3 : Nat → Int32) (a58 : Nat → Int32) (a59 : Nat → Int32) (l4 : Int32) (b60 : Nat → Int32) (b61 : Nat → Int32) (c57_4 : Int32) : Option (U_cu_findWay_45 ⊕ T_cu_findWay) :=
  bif decide (c57_4 ≤ l4) then
   zg (zin z 192) (
   bif decide (b60 (z.toNatClampNeg) < 0) then
    some (.inr (0, b60, b61, c57_4))
   else
    some (.inr (1, b60, b61, c57_4)))
  else
   bif decide (192 ≤ l4) then
    zg (zin z 192) (
    bif decide (b60 (z.toNatClampNeg) < 0) then
     some (.inr (0, b60, b61, c57_4))
    else
     some (.inr (1, b60, b61, c57_4)))
   else
    zg (zin z 192) (
    bif decide (0 ≤ b60 (z.toNatClampNeg)) then
     zg (zin z 192) (
     bif decide (b60 (z.toNatClampNeg) < 0) then
      some (.inr (0, b60, b61, c57_4))
     else
      some (.inr (1, b60, b61, c57_4)))
    else
     zg (zin l4 192) (
     bif decide (b61 (l4.toNatClampNeg) < 96) then
      zg (zin l4 192) (
      zbd (q_cu_enter (b61 (l4.toNatClampNeg)) a3 a58 a59 b60 b61 c57_4) (fun v4 =>
      some (.inl (l4 + 1, ((v4.1)), ((v4.2.1)), (v4.2.2)))))
     else
      zg (zin l4 192) (
      zbd (q_cu_leave ((b61 (l4.toNatClampNeg)) - 96) a3 a58 a59 b60 b61 c57_4) (fun v5 =>
      some (.inl (l4 + 1, ((v5.1)), ((v5.2.1)), (v5.2.2)))))))
noncomputable def f_cu_findWay_45 (z : Int32) (a3 : Nat → Int32) (a58 : Nat → Int32) (a59 : Nat → Int32) : U_cu_findWay_45 → Option (U_cu_findWay_45 ⊕ T_cu_findWay) := fun s => b_cu_findWay_45 z a3 a58 a59 s.1 s.2.1 s.2.2.1 s.2.2.2
noncomputable def l_cu_findWay_45 (z : Int32) (a3 : Nat → Int32) (a58 : Nat → Int32) (a59 : Nat → Int32) (l4 : Int32) (b60 : Nat → Int32) (b61 : Nat → Int32) (c57_4 : Int32) : Option T_cu_findWay := zlp (f_cu_findWay_45 z a3 a58 a59) (l4, b60, b61, c57_4)
noncomputable def b_cu_findWay_3 (y : Int32) (z : Int32) (a3 : Nat → Int32) (a58 : Nat → Int32) (a59 : Nat → Int32) (b61 : Nat → Int32) (l4 : Int32) (b60 : Nat → Int32) : Option (U_cu_findWay_3 ⊕ T_cu_findWay) :=
  bif decide (192 ≤ l4) then
   zg (g_cu_visit (96 + y) (96 + y) b60 0 b61) (
   zl (a0_cu_visit (96 + y) (96 + y) b60 0 b61) (fun v1 =>
   zl (a1_cu_visit (96 + y) (96 + y) b60 0 b61) (fun v2 =>
   zl (f0_cu_visit (96 + y) (96 + y) b60 0 b61) (fun v3 =>
   zbd (l_cu_findWay_45 z a3 a58 a59 0 v1 v2 v3) (fun k => some (.inr k))))))
  else
   zg (zin l4 192) (
   some (.inl (l4 + 1, (zup b60 (l4.toNatClampNeg) (-1)))))
noncomputable def f_cu_findWay_3 (y : Int32) (z : Int32) (a3 : Nat → Int32) (a58 : Nat → Int32) (a59 : Nat → Int32) (b61 : Nat → Int32) : U_cu_findWay_3 → Option (U_cu_findWay_3 ⊕ T_cu_findWay) := fun s => b_cu_findWay_3 y z a3 a58 a59 b61 s.1 s.2
noncomputable def l_cu_findWay_3 (y : Int32) (z : Int32) (a3 : Nat → Int32) (a58 : Nat → Int32) (a59 : Nat → Int32) (b61 : Nat → Int32) (l4 : Int32) (b60 : Nat → Int32) : Option T_cu_findWay := zlp (f_cu_findWay_3 y z a3 a58 a59 b61) (l4, b60)
noncomputable def q_cu_findWay (y : Int32) (z : Int32) (a3 : Nat → Int32) (a58 : Nat → Int32) (a59 : Nat → Int32) (a60 : Nat → Int32) (a61 : Nat → Int32) (f57_4 : Int32) : Option T_cu_findWay :=
  l_cu_findWay_3 y z a3 a58 a59 a61 0 a60
def P_cu_findWay (Q : Int32 → Int32 → (Nat → Int32) → (Nat → Int32) → (Nat → Int32) → (Nat → Int32) → (Nat → Int32) → Int32 → Option (Int32 × (Nat → Int32) × (Nat → Int32) × Int32)) : zSp := fun as g => match as with
  | [.ref a, .ref b, .int y, .int z] => bif Nat.beq a 57 && Nat.beq b 3 then zpe (Q y z (g.1 3) (g.1 58) (g.1 59) (g.1 60) (g.1 61) (g.2.1 57 4)) (fun t => (some (.int (t.1)), ((zua (zua g.1 60 t.2.1) 61 t.2.2.1), (zuf g.2.1 57 4 t.2.2.2), g.2.2))) else none
  | _ => none
noncomputable abbrev S_cu_findWay : zSp := P_cu_findWay q_cu_findWay
def O_cu_findWay (ar fi : Nat → Nat → Int32) (m1 : Nat) (m2 : Nat) (m3 : Nat) (m4 : Nat) (m5 : Nat) (t : T_cu_findWay) : zO2 := (some (.int (t.1)), ((zua (zua ar 60 t.2.1) 61 t.2.2.1), (zuf fi 57 4 t.2.2.2), (m1, m2, m3, m4, m5)))
def M_cu_findWay_45 (X : Nat × (Nat → Int32)) (E : zTE) (ar fi : Nat → Nat → Int32) (m1 : Nat) (m2 : Nat) (m3 : Nat) (m4 : Nat) (m5 : Nat) (y : Int32) (z : Int32) (o : zO2) (s : U_cu_findWay_45) : Prop := zR2 X zFT E zc_13 45 [.ref 57, .ref 3, .int y, .int z, .int s.1] [] ((zua (zua ar 60 s.2.1) 61 s.2.2.1), (zuf fi 57 4 s.2.2.2), (m1, m2, m3, m4, m5)) o
def M_cu_findWay_3 (X : Nat × (Nat → Int32)) (E : zTE) (ar fi : Nat → Nat → Int32) (m1 : Nat) (m2 : Nat) (m3 : Nat) (m4 : Nat) (m5 : Nat) (y : Int32) (z : Int32) (b61 : Nat → Int32) (c57_4 : Int32) (o : zO2) (s : U_cu_findWay_3) : Prop := zR2 X zFT E zc_13 3 [.ref 57, .ref 3, .int y, .int z, .int s.1] [] ((zua (zua ar 60 s.2) 61 b61), (zuf fi 57 4 c57_4), (m1, m2, m3, m4, m5)) o
set_option maxRecDepth 20000 in
theorem t45_cu_findWay {X : Nat × (Nat → Int32)} {ar fi : Nat → Nat → Int32} {m1 m2 m3 m4 m5 : Nat} {y z : Int32} {l4 : Int32} {b60 : Nat → Int32} {b61 : Nat → Int32} {c57_4 : Int32} {G_cu_visit : Int32 → Int32 → (Nat → Int32) → Int32 → (Nat → Int32) → Bool} {A0_cu_visit : Int32 → Int32 → (Nat → Int32) → Int32 → (Nat → Int32) → Nat → Int32} {A1_cu_visit : Int32 → Int32 → (Nat → Int32) → Int32 → (Nat → Int32) → Nat → Int32} {F0_cu_visit : Int32 → Int32 → (Nat → Int32) → Int32 → (Nat → Int32) → Int32} {Q_cu_leave : Int32 → (Nat → Int32) → (Nat → Int32) → (Nat → Int32) → (Nat → Int32) → (Nat → Int32) → Int32 → Option ((Nat → Int32) × (Nat → Int32) × Int32)} {Q_cu_enter : Int32 → (Nat → Int32) → (Nat → Int32) → (Nat → Int32) → (Nat → Int32) → (Nat → Int32) → Int32 → Option ((Nat → Int32) × (Nat → Int32) × Int32)} : zseg X zFT (zEx 14 (P_cu_visit G_cu_visit A0_cu_visit A1_cu_visit F0_cu_visit) (zEx 15 (P_cu_leave Q_cu_leave) (zEx 16 (P_cu_enter Q_cu_enter) zE0))) zc_13 (fun p => Nat.beq p 45 || Nat.beq p 3) 400 45 [.ref 57, .ref 3, .int y, .int z, .int l4] [] ((zua (zua ar 60 b60) 61 b61), (zuf fi 57 4 c57_4), (m1, m2, m3, m4, m5)) = (
  bif decide (c57_4 ≤ l4) then
   zg (zin z 192) (
   bif decide (b60 (z.toNatClampNeg) < 0) then
    some (.inr (some (.int 0), ((zua (zua ar 60 b60) 61 b61), (zuf fi 57 4 c57_4), (m1, m2, m3, m4, m5))))
   else
    some (.inr (some (.int 1), ((zua (zua ar 60 b60) 61 b61), (zuf fi 57 4 c57_4), (m1, m2, m3, m4, m5)))))
  else
   bif decide (192 ≤ l4) then
    zg (zin z 192) (
    bif decide (b60 (z.toNatClampNeg) < 0) then
     some (.inr (some (.int 0), ((zua (zua ar 60 b60) 61 b61), (zuf fi 57 4 c57_4), (m1, m2, m3, m4, m5))))
    else
     some (.inr (some (.int 1), ((zua (zua ar 60 b60) 61 b61), (zuf fi 57 4 c57_4), (m1, m2, m3, m4, m5)))))
   else
    zg (zin z 192) (
    bif decide (0 ≤ b60 (z.toNatClampNeg)) then
     zg (zin z 192) (
     bif decide (b60 (z.toNatClampNeg) < 0) then
      some (.inr (some (.int 0), ((zua (zua ar 60 b60) 61 b61), (zuf fi 57 4 c57_4), (m1, m2, m3, m4, m5))))
     else
      some (.inr (some (.int 1), ((zua (zua ar 60 b60) 61 b61), (zuf fi 57 4 c57_4), (m1, m2, m3, m4, m5)))))
    else
     zg (zin l4 192) (
     bif decide (b61 (l4.toNatClampNeg) < 96) then
      zg (zin l4 192) (
      zl (Q_cu_enter (b61 (l4.toNatClampNeg)) (ar 3) (ar 58) (ar 59) b60 b61 c57_4) (fun v4 => zg v4.isSome (
      some (.inl (45, [.ref 57, .ref 3, .int y, .int z, .int (l4 + 1)], [], ((zua (zua (zua (zua ar 60 b60) 61 b61) 60 (((zgt v4).1))) 61 (((zgt v4).2.1))), (zuf (zuf fi 57 4 c57_4) 57 4 (((zgt v4).2.2))), (m1, m2, m3, m4, m5)))))))
     else
      zg (zin l4 192) (
      zl (Q_cu_leave ((b61 (l4.toNatClampNeg)) - 96) (ar 3) (ar 58) (ar 59) b60 b61 c57_4) (fun v5 => zg v5.isSome (
      some (.inl (45, [.ref 57, .ref 3, .int y, .int z, .int (l4 + 1)], [], ((zua (zua (zua (zua ar 60 b60) 61 b61) 60 (((zgt v5).1))) 61 (((zgt v5).2.1))), (zuf (zuf fi 57 4 c57_4) 57 4 (((zgt v5).2.2))), (m1, m2, m3, m4, m5))))))))) : Option ((Nat × List Value × List Value × zH2) ⊕ zO2)) := rfl
theorem k_cu_findWay_45 {X : Nat × (Nat → Int32)} {ar fi : Nat → Nat → Int32} {m1 m2 m3 m4 m5 : Nat} {y z : Int32} {o : zO2} : ∀ (s : U_cu_findWay_45) (q : U_cu_findWay_45 ⊕ T_cu_findWay), f_cu_findWay_45 z (ar 3) (ar 58) (ar 59) s = some q → zq (M_cu_findWay_45 X (zEx 14 S_cu_visit (zEx 15 S_cu_leave (zEx 16 S_cu_enter zE0))) ar fi m1 m2 m3 m4 m5 y z o) (fun t => O_cu_findWay ar fi m1 m2 m3 m4 m5 t = o) q → M_cu_findWay_45 X (zEx 14 S_cu_visit (zEx 15 S_cu_leave (zEx 16 S_cu_enter zE0))) ar fi m1 m2 m3 m4 m5 y z o s := by
  intro s q h hq
  obtain ⟨l4, b60, b61, c57_4⟩ := s
  have h : b_cu_findWay_45 z (ar 3) (ar 58) (ar 59) l4 b60 b61 c57_4 = some q := h
  unfold b_cu_findWay_45 at h
  show zR2 X zFT (zEx 14 S_cu_visit (zEx 15 S_cu_leave (zEx 16 S_cu_enter zE0))) zc_13 45 [.ref 57, .ref 3, .int y, .int z, .int l4] [] ((zua (zua ar 60 b60) 61 b61), (zuf fi 57 4 c57_4), (m1, m2, m3, m4, m5)) o
  refine zT_seg t45_cu_findWay ?_
  refine zb_el h (fun hb h => zT_t hb ?_) (fun hb h => zT_f hb ?_)
  · refine zg_el h (fun hg h => zT_g hg ?_)
    refine zb_el h (fun hb h => zT_t hb ?_) (fun hb h => zT_f hb ?_)
    · have hz := zsi h hq
      refine (zO_mk ?_ ?_).trans hz
      · first | with_reducible rfl | (exact zuas_eq _ [(60, _), (61, _)] [(60, _), (61, _)] [60, 61] rfl rfl ⟨rfl, rfl, trivial⟩)
      · first | with_reducible rfl | (exact zufs_eq _ [(57, 4, _)] [(57, 4, _)] [(57, 4)] rfl rfl ⟨rfl, trivial⟩)
    · have hz := zsi h hq
      refine (zO_mk ?_ ?_).trans hz
      · first | with_reducible rfl | (exact zuas_eq _ [(60, _), (61, _)] [(60, _), (61, _)] [60, 61] rfl rfl ⟨rfl, rfl, trivial⟩)
      · first | with_reducible rfl | (exact zufs_eq _ [(57, 4, _)] [(57, 4, _)] [(57, 4)] rfl rfl ⟨rfl, trivial⟩)
  · refine zb_el h (fun hb h => zT_t hb ?_) (fun hb h => zT_f hb ?_)
    · refine zg_el h (fun hg h => zT_g hg ?_)
      refine zb_el h (fun hb h => zT_t hb ?_) (fun hb h => zT_f hb ?_)
      · have hz := zsi h hq
        refine (zO_mk ?_ ?_).trans hz
        · first | with_reducible rfl | (exact zuas_eq _ [(60, _), (61, _)] [(60, _), (61, _)] [60, 61] rfl rfl ⟨rfl, rfl, trivial⟩)
        · first | with_reducible rfl | (exact zufs_eq _ [(57, 4, _)] [(57, 4, _)] [(57, 4)] rfl rfl ⟨rfl, trivial⟩)
      · have hz := zsi h hq
        refine (zO_mk ?_ ?_).trans hz
        · first | with_reducible rfl | (exact zuas_eq _ [(60, _), (61, _)] [(60, _), (61, _)] [60, 61] rfl rfl ⟨rfl, rfl, trivial⟩)
        · first | with_reducible rfl | (exact zufs_eq _ [(57, 4, _)] [(57, 4, _)] [(57, 4)] rfl rfl ⟨rfl, trivial⟩)
    · refine zg_el h (fun hg h => zT_g hg ?_)
      refine zb_el h (fun hb h => zT_t hb ?_) (fun hb h => zT_f hb ?_)
      · refine zg_el h (fun hg h => zT_g hg ?_)
        refine zb_el h (fun hb h => zT_t hb ?_) (fun hb h => zT_f hb ?_)
        · have hz := zsi h hq
          refine (zO_mk ?_ ?_).trans hz
          · first | with_reducible rfl | (exact zuas_eq _ [(60, _), (61, _)] [(60, _), (61, _)] [60, 61] rfl rfl ⟨rfl, rfl, trivial⟩)
          · first | with_reducible rfl | (exact zufs_eq _ [(57, 4, _)] [(57, 4, _)] [(57, 4)] rfl rfl ⟨rfl, trivial⟩)
        · have hz := zsi h hq
          refine (zO_mk ?_ ?_).trans hz
          · first | with_reducible rfl | (exact zuas_eq _ [(60, _), (61, _)] [(60, _), (61, _)] [60, 61] rfl rfl ⟨rfl, rfl, trivial⟩)
          · first | with_reducible rfl | (exact zufs_eq _ [(57, 4, _)] [(57, 4, _)] [(57, 4)] rfl rfl ⟨rfl, trivial⟩)
      · refine zg_el h (fun hg h => zT_g hg ?_)
        refine zb_el h (fun hb h => zT_t hb ?_) (fun hb h => zT_f hb ?_)
        · refine zg_el h (fun hg h => zT_g hg ?_)
          refine zbd_el h (fun v4 hv h => zT_c hv ?_)
          have hz := zsi h hq
          refine zR2_hp ?_ ?_ hz
          · first | with_reducible rfl | (exact zuas_eq _ [(60, _), (61, _), (60, _), (61, _)] [(60, _), (61, _)] [60, 61] rfl rfl ⟨rfl, rfl, trivial⟩)
          · first | with_reducible rfl | (exact zufs_eq _ [(57, 4, _), (57, 4, _)] [(57, 4, _)] [(57, 4)] rfl rfl ⟨rfl, trivial⟩)
        · refine zg_el h (fun hg h => zT_g hg ?_)
          refine zbd_el h (fun v5 hv h => zT_c hv ?_)
          have hz := zsi h hq
          refine zR2_hp ?_ ?_ hz
          · first | with_reducible rfl | (exact zuas_eq _ [(60, _), (61, _), (60, _), (61, _)] [(60, _), (61, _)] [60, 61] rfl rfl ⟨rfl, rfl, trivial⟩)
          · first | with_reducible rfl | (exact zufs_eq _ [(57, 4, _), (57, 4, _)] [(57, 4, _)] [(57, 4)] rfl rfl ⟨rfl, trivial⟩)
set_option maxRecDepth 20000 in
theorem t3_cu_findWay {X : Nat × (Nat → Int32)} {ar fi : Nat → Nat → Int32} {m1 m2 m3 m4 m5 : Nat} {y z : Int32} {l4 : Int32} {b60 : Nat → Int32} {b61 : Nat → Int32} {c57_4 : Int32} {G_cu_visit : Int32 → Int32 → (Nat → Int32) → Int32 → (Nat → Int32) → Bool} {A0_cu_visit : Int32 → Int32 → (Nat → Int32) → Int32 → (Nat → Int32) → Nat → Int32} {A1_cu_visit : Int32 → Int32 → (Nat → Int32) → Int32 → (Nat → Int32) → Nat → Int32} {F0_cu_visit : Int32 → Int32 → (Nat → Int32) → Int32 → (Nat → Int32) → Int32} {Q_cu_leave : Int32 → (Nat → Int32) → (Nat → Int32) → (Nat → Int32) → (Nat → Int32) → (Nat → Int32) → Int32 → Option ((Nat → Int32) × (Nat → Int32) × Int32)} {Q_cu_enter : Int32 → (Nat → Int32) → (Nat → Int32) → (Nat → Int32) → (Nat → Int32) → (Nat → Int32) → Int32 → Option ((Nat → Int32) × (Nat → Int32) × Int32)} : zseg X zFT (zEx 14 (P_cu_visit G_cu_visit A0_cu_visit A1_cu_visit F0_cu_visit) (zEx 15 (P_cu_leave Q_cu_leave) (zEx 16 (P_cu_enter Q_cu_enter) zE0))) zc_13 (fun p => Nat.beq p 45 || Nat.beq p 3) 400 3 [.ref 57, .ref 3, .int y, .int z, .int l4] [] ((zua (zua ar 60 b60) 61 b61), (zuf fi 57 4 c57_4), (m1, m2, m3, m4, m5)) = (
  bif decide (192 ≤ l4) then
   zg (G_cu_visit (96 + y) (96 + y) b60 0 b61) (
   zl (A0_cu_visit (96 + y) (96 + y) b60 0 b61) (fun v1 =>
   zl (A1_cu_visit (96 + y) (96 + y) b60 0 b61) (fun v2 =>
   zl (F0_cu_visit (96 + y) (96 + y) b60 0 b61) (fun v3 =>
   some (.inl (45, [.ref 57, .ref 3, .int y, .int z, .int 0], [], ((zua (zua (zua (zua ar 60 b60) 61 b61) 60 v1) 61 v2), (zuf (zuf (zuf fi 57 4 c57_4) 57 4 0) 57 4 v3), (m1, m2, m3, m4, m5))))))))
  else
   zg (zin l4 192) (
   some (.inl (3, [.ref 57, .ref 3, .int y, .int z, .int (l4 + 1)], [], ((zua (zua (zua ar 60 b60) 61 b61) 60 (zup b60 (l4.toNatClampNeg) (-1))), (zuf fi 57 4 c57_4), (m1, m2, m3, m4, m5))))) : Option ((Nat × List Value × List Value × zH2) ⊕ zO2)) := rfl
theorem k_cu_findWay_3 {X : Nat × (Nat → Int32)} {ar fi : Nat → Nat → Int32} {m1 m2 m3 m4 m5 : Nat} {y z : Int32} {b61 : Nat → Int32} {c57_4 : Int32} {o : zO2} : ∀ (s : U_cu_findWay_3) (q : U_cu_findWay_3 ⊕ T_cu_findWay), f_cu_findWay_3 y z (ar 3) (ar 58) (ar 59) b61 s = some q → zq (M_cu_findWay_3 X (zEx 14 S_cu_visit (zEx 15 S_cu_leave (zEx 16 S_cu_enter zE0))) ar fi m1 m2 m3 m4 m5 y z b61 c57_4 o) (fun t => O_cu_findWay ar fi m1 m2 m3 m4 m5 t = o) q → M_cu_findWay_3 X (zEx 14 S_cu_visit (zEx 15 S_cu_leave (zEx 16 S_cu_enter zE0))) ar fi m1 m2 m3 m4 m5 y z b61 c57_4 o s := by
  intro s q h hq
  obtain ⟨l4, b60⟩ := s
  have h : b_cu_findWay_3 y z (ar 3) (ar 58) (ar 59) b61 l4 b60 = some q := h
  unfold b_cu_findWay_3 at h
  show zR2 X zFT (zEx 14 S_cu_visit (zEx 15 S_cu_leave (zEx 16 S_cu_enter zE0))) zc_13 3 [.ref 57, .ref 3, .int y, .int z, .int l4] [] ((zua (zua ar 60 b60) 61 b61), (zuf fi 57 4 c57_4), (m1, m2, m3, m4, m5)) o
  refine zT_seg t3_cu_findWay ?_
  refine zb_el h (fun hb h => zT_t hb ?_) (fun hb h => zT_f hb ?_)
  · refine zg_el h (fun hg h => zT_g hg ?_)
    refine zl_el h (fun h => zT_l ?_)
    refine zl_el h (fun h => zT_l ?_)
    refine zl_el h (fun h => zT_l ?_)
    refine zbd_el h (fun r hr h => ?_)
    have hz := zsi h hq
    refine zR2_hp ?_ ?_ (zlp_K k_cu_findWay_45 hr hz)
    · first | with_reducible rfl | (exact zuas_eq _ [(60, _), (61, _), (60, _), (61, _)] [(60, _), (61, _)] [60, 61] rfl rfl ⟨rfl, rfl, trivial⟩)
    · first | with_reducible rfl | (exact zufs_eq _ [(57, 4, _), (57, 4, _), (57, 4, _)] [(57, 4, _)] [(57, 4)] rfl rfl ⟨rfl, trivial⟩)
  · refine zg_el h (fun hg h => zT_g hg ?_)
    have hz := zsi h hq
    refine zR2_hp ?_ ?_ hz
    · first | with_reducible rfl | (exact zuas_eq _ [(60, _), (61, _), (60, _)] [(60, _), (61, _)] [60, 61] rfl rfl ⟨rfl, rfl, trivial⟩)
    · first | with_reducible rfl | (exact zufs_eq _ [(57, 4, _)] [(57, 4, _)] [(57, 4)] rfl rfl ⟨rfl, trivial⟩)
set_option maxRecDepth 20000 in
theorem t_cu_findWay {X : Nat × (Nat → Int32)} {ar fi : Nat → Nat → Int32} {m1 m2 m3 m4 m5 : Nat} {y z : Int32} {G_cu_visit : Int32 → Int32 → (Nat → Int32) → Int32 → (Nat → Int32) → Bool} {A0_cu_visit : Int32 → Int32 → (Nat → Int32) → Int32 → (Nat → Int32) → Nat → Int32} {A1_cu_visit : Int32 → Int32 → (Nat → Int32) → Int32 → (Nat → Int32) → Nat → Int32} {F0_cu_visit : Int32 → Int32 → (Nat → Int32) → Int32 → (Nat → Int32) → Int32} {Q_cu_leave : Int32 → (Nat → Int32) → (Nat → Int32) → (Nat → Int32) → (Nat → Int32) → (Nat → Int32) → Int32 → Option ((Nat → Int32) × (Nat → Int32) × Int32)} {Q_cu_enter : Int32 → (Nat → Int32) → (Nat → Int32) → (Nat → Int32) → (Nat → Int32) → (Nat → Int32) → Int32 → Option ((Nat → Int32) × (Nat → Int32) × Int32)} : zseg X zFT (zEx 14 (P_cu_visit G_cu_visit A0_cu_visit A1_cu_visit F0_cu_visit) (zEx 15 (P_cu_leave Q_cu_leave) (zEx 16 (P_cu_enter Q_cu_enter) zE0))) zc_13 (fun p => Nat.beq p 45 || Nat.beq p 3) 400 0 [.ref 57, .ref 3, .int y, .int z] [] (ar, fi, (m1, m2, m3, m4, m5)) = (
  some (.inl (3, [.ref 57, .ref 3, .int y, .int z, .int 0], [], (ar, fi, (m1, m2, m3, m4, m5)))) : Option ((Nat × List Value × List Value × zH2) ⊕ zO2)) := rfl
theorem e_cu_findWay {X : Nat × (Nat → Int32)} {ar fi : Nat → Nat → Int32} {m1 m2 m3 m4 m5 : Nat} {y z : Int32} {o : zO2} : ∀ (q : T_cu_findWay), q_cu_findWay y z (ar 3) (ar 58) (ar 59) (ar 60) (ar 61) (fi 57 4) = some q → (fun t => O_cu_findWay ar fi m1 m2 m3 m4 m5 t = o) q → zR2 X zFT (zEx 14 S_cu_visit (zEx 15 S_cu_leave (zEx 16 S_cu_enter zE0))) zc_13 0 [.ref 57, .ref 3, .int y, .int z] [] (ar, fi, (m1, m2, m3, m4, m5)) o := by
  intro q h hq
  unfold q_cu_findWay at h
  refine zT_seg t_cu_findWay ?_
  refine zR2_hp ?_ ?_ (zlp_K k_cu_findWay_3 h hq)
  · first | with_reducible rfl | (exact zuas_eq _ [] [(60, _), (61, _)] [60, 61] rfl rfl ⟨rfl, rfl, trivial⟩)
  · first | with_reducible rfl | (exact zufs_eq _ [] [(57, 4, _)] [(57, 4)] rfl rfl ⟨rfl, trivial⟩)
theorem ok_cu_findWay (X : Nat × (Nat → Int32)) : zOkS X 13 S_cu_findWay 3 := zOkS_new (zOkE_cons (ok_cu_visit X) (by decide) (zOkE_cons (ok_cu_leave X) (by decide) (zOkE_cons (ok_cu_enter X) (by decide) (zOkE_nil X 2)))) (by
  intro args g o h
  obtain ⟨ar, fi, m1, m2, m3, m4, m5⟩ := g
  unfold S_cu_findWay P_cu_findWay at h
  split at h
  · refine zb_el h (fun hI0 k0 => ?_) (fun _ h10 => ?_)
    · try simp only [Bool.and_eq_true] at hI0
      obtain ⟨j0, j1⟩ := hI0
      have e0 := Nat.eq_of_beq_eq_true j0
      subst e0
      have e1 := Nat.eq_of_beq_eq_true j1
      subst e1
      exact zpe_el k0 (fun t ht ho => e_cu_findWay t ht ho)
    · cases h10
  · cases h)
