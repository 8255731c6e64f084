abbrev T_md_safe : Type := Int32 × (Nat → Int32) × (Nat → Int32)
abbrev U_md_safe_24 : Type := Int32 × Int32 × Int32
def b_md_safe_24 (x : Int32) (a68 : Nat → Int32) (b86 : Nat → Int32) (b87 : Nat → Int32) (l2 : Int32) (l3 : Int32) (l4 : Int32) : Option (U_md_safe_24 ⊕ T_md_safe) :=
  bif decide (l4 < 0) then
   bif !decide (x = 0) then
    some (.inr (l3, b86, b87))
   else
    some (.inr (l2, b86, b87))
  else
   zg (g_md_isWood l4 a68) (
   zl (w_md_isWood l4 a68) (fun v3 =>
   bif decide (v3 = 0) then
    some (.inl (l2, l3, l4 + (-1)))
   else
    zg (zin l4 96) (
    bif decide (b86 (l4.toNatClampNeg) = (-1)) then
     some (.inl (l2 + 1, l4, l4 + (-1)))
    else
     some (.inl (l2, l3, l4 + (-1))))))
def f_md_safe_24 (x : Int32) (a68 : Nat → Int32) (b86 : Nat → Int32) (b87 : Nat → Int32) : U_md_safe_24 → Option (U_md_safe_24 ⊕ T_md_safe) := fun s => b_md_safe_24 x a68 b86 b87 s.1 s.2.1 s.2.2
noncomputable def l_md_safe_24 (x : Int32) (a68 : Nat → Int32) (b86 : Nat → Int32) (b87 : Nat → Int32) (l2 : Int32) (l3 : Int32) (l4 : Int32) : Option T_md_safe := zlp (f_md_safe_24 x a68 b86 b87) (l2, l3, l4)
noncomputable def q_md_safe (x : Int32) (a65 : Nat → Int32) (a68 : Nat → Int32) (a86 : Nat → Int32) (a87 : Nat → Int32) : Option T_md_safe :=
  zl (w_md_in x 0 1) (fun v1 =>
  bif !decide (v1 = 0) then
   zbd (q_md_laysFireNow a65 a68 a86 a87) (fun v2 =>
   l_md_safe_24 x a68 ((v2.1)) ((v2.2)) 0 (-2) 95)
  else
   some ((-1), a86, a87))
def P_md_safe (Q : Int32 → (Nat → Int32) → (Nat → Int32) → (Nat → Int32) → (Nat → Int32) → Option (Int32 × (Nat → Int32) × (Nat → Int32))) : zSp := fun as g => match as with
  | [.ref a, .int x] => bif Nat.beq a 64 then zpe (Q x (g.1 65) (g.1 68) (g.1 86) (g.1 87)) (fun t => (some (.int (t.1)), ((zua (zua g.1 86 t.2.1) 87 t.2.2), g.2.1, g.2.2))) else none
  | _ => none
noncomputable abbrev S_md_safe : zSp := P_md_safe q_md_safe
theorem hA1_md_safe (F : Nat → Nat → Int32) : F = (zua (zua F 86 (F 86)) 87 (F 87)) := zuak_ix F [] [(86, none), (87, none)] rfl
theorem hA0_md_safe (F : Nat → Nat → Int32) (w0 w1 : Nat → Int32) : (zua (zua F 86 w0) 87 w1) = (zua (zua F 86 w0) 87 w1) := zuak_ix F [(86, w0), (87, w1)] [(86, some 0), (87, some 1)] rfl
def O_md_safe (ar fi : Nat → Nat → Int32) (m1 : Nat) (m2 : Nat) (m3 : Nat) (m4 : Nat) (m5 : Nat) (t : T_md_safe) : zO2 := match t with
  | (t0, t1, t2) => (some (.int (t0)), ((zua (zua ar 86 t1) 87 t2), fi, (m1, m2, m3, m4, m5)))
def M_md_safe_24 (X : Nat × (Nat → Int32)) (E : zTE) (ar fi : Nat → Nat → Int32) (m1 : Nat) (m2 : Nat) (m3 : Nat) (m4 : Nat) (m5 : Nat) (x : Int32) (b86 : Nat → Int32) (b87 : Nat → Int32) (o : zO2) (s : U_md_safe_24) : Prop := match s with
  | (l2, l3, l4) => zR2 X zFT E zc_231 24 [.ref 64, .int x, .int l2, .int l3, .int l4] [] ((zua (zua ar 86 b86) 87 b87), fi, (m1, m2, m3, m4, m5)) o
set_option maxRecDepth 1000000 in
theorem t24_md_safe {X : Nat × (Nat → Int32)} {ar fi : Nat → Nat → Int32} {m1 m2 m3 m4 m5 : Nat} {x : Int32} {l2 : Int32} {l3 : Int32} {l4 : Int32} {b86 : Nat → Int32} {b87 : Nat → Int32} {W_md_in : Int32 → Int32 → Int32 → Int32} {Q_md_laysFireNow : (Nat → Int32) → (Nat → Int32) → (Nat → Int32) → (Nat → Int32) → Option ((Nat → Int32) × (Nat → Int32))} {G_md_isWood : Int32 → (Nat → Int32) → Bool} {W_md_isWood : Int32 → (Nat → Int32) → Int32} : zseg X zFT (zEx 143 (P_md_in W_md_in) (zEx 220 (P_md_laysFireNow Q_md_laysFireNow) (zEx 152 (P_md_isWood G_md_isWood W_md_isWood) zE0))) zc_231 (fun p => Nat.beq p 24) 400 24 [.ref 64, .int x, .int l2, .int l3, .int l4] [] ((zua (zua ar 86 b86) 87 b87), fi, (m1, m2, m3, m4, m5)) = (
  bif decide (l4 < 0) then
   bif !decide (x = 0) then
    some (.inr (some (.int l3), ((zua (zua ar 86 b86) 87 b87), fi, (m1, m2, m3, m4, m5))))
   else
    some (.inr (some (.int l2), ((zua (zua ar 86 b86) 87 b87), fi, (m1, m2, m3, m4, m5))))
  else
   zg (G_md_isWood l4 (ar 68)) (
   zl (W_md_isWood l4 (ar 68)) (fun v3 =>
   bif decide (v3 = 0) then
    some (.inl (24, [.ref 64, .int x, .int l2, .int l3, .int (l4 + (-1))], [], ((zua (zua ar 86 b86) 87 b87), fi, (m1, m2, m3, m4, m5))))
   else
    zg (Nat.beq 16 16 && (zin l4 96)) (
    bif decide (b86 (l4.toNatClampNeg) = (-1)) then
     some (.inl (24, [.ref 64, .int x, .int (l2 + 1), .int l4, .int (l4 + (-1))], [], ((zua (zua ar 86 b86) 87 b87), fi, (m1, m2, m3, m4, m5))))
    else
     some (.inl (24, [.ref 64, .int x, .int l2, .int l3, .int (l4 + (-1))], [], ((zua (zua ar 86 b86) 87 b87), fi, (m1, m2, m3, m4, m5))))))) : Option ((Nat × List Value × List Value × zH2) ⊕ zO2)) := by with_unfolding_all rfl
set_option maxRecDepth 20000 in
theorem k_md_safe_24 {X : Nat × (Nat → Int32)} {ar fi : Nat → Nat → Int32} {m1 m2 m3 m4 m5 : Nat} {x : Int32} {b86 : Nat → Int32} {b87 : Nat → Int32} {o : zO2} : ∀ (s : U_md_safe_24) (q : U_md_safe_24 ⊕ T_md_safe), f_md_safe_24 x (ar 68) b86 b87 s = some q → zq (M_md_safe_24 X (zEx 143 S_md_in (zEx 220 S_md_laysFireNow (zEx 152 S_md_isWood zE0))) ar fi m1 m2 m3 m4 m5 x b86 b87 o) (fun t => O_md_safe ar fi m1 m2 m3 m4 m5 t = o) q → M_md_safe_24 X (zEx 143 S_md_in (zEx 220 S_md_laysFireNow (zEx 152 S_md_isWood zE0))) ar fi m1 m2 m3 m4 m5 x b86 b87 o s := by
  intro s q h hq
  obtain ⟨l2, l3, l4⟩ := s
  have h : b_md_safe_24 x (ar 68) b86 b87 l2 l3 l4 = some q := h
  unfold b_md_safe_24 at h
  show zR2 X zFT (zEx 143 S_md_in (zEx 220 S_md_laysFireNow (zEx 152 S_md_isWood zE0))) zc_231 24 [.ref 64, .int x, .int l2, .int l3, .int l4] [] ((zua (zua ar 86 b86) 87 b87), fi, (m1, m2, m3, m4, m5)) o
  refine zT_seg t24_md_safe ?_
  obtain ⟨TT, hTT⟩ : ∃ T, T = zT X zFT (zEx 143 S_md_in (zEx 220 S_md_laysFireNow (zEx 152 S_md_isWood zE0))) zc_231 o := ⟨_, rfl⟩
  rw [← hTT]
  refine zb_el h (fun hb h => zU_t hTT hb ?_) (fun hb h => zU_f hTT hb ?_)
  · refine zb_el h (fun hb h => zU_t hTT hb ?_) (fun hb h => zU_f hTT hb ?_)
    · rw [hTT]
      have hz := zsi h hq
      refine (zO_mk ?_ ?_).trans hz
      · first | with_reducible rfl | exact hA0_md_safe _ _ _
      · first | with_reducible rfl | rfl
    · rw [hTT]
      have hz := zsi h hq
      refine (zO_mk ?_ ?_).trans hz
      · first | with_reducible rfl | exact hA0_md_safe _ _ _
      · first | with_reducible rfl | rfl
  · refine zg_el h (fun hg h => zU_g hTT hg ?_)
    refine zl_el h (fun h => zU_l hTT ?_)
    refine zb_el h (fun hb h => zU_t hTT hb ?_) (fun hb h => zU_f hTT hb ?_)
    · rw [hTT]
      have hz := zsi h hq
      refine zR2_hp ?_ ?_ hz
      · first | with_reducible rfl | exact hA0_md_safe _ _ _
      · first | with_reducible rfl | rfl
    · refine zg_el h (fun hg h => zU_ga hTT hg ?_)
      refine zb_el h (fun hb h => zU_t hTT hb ?_) (fun hb h => zU_f hTT hb ?_)
      · rw [hTT]
        have hz := zsi h hq
        refine zR2_hp ?_ ?_ hz
        · first | with_reducible rfl | exact hA0_md_safe _ _ _
        · first | with_reducible rfl | rfl
      · rw [hTT]
        have hz := zsi h hq
        refine zR2_hp ?_ ?_ hz
        · first | with_reducible rfl | exact hA0_md_safe _ _ _
        · first | with_reducible rfl | rfl
set_option maxRecDepth 1000000 in
theorem t_md_safe {X : Nat × (Nat → Int32)} {ar fi : Nat → Nat → Int32} {m1 m2 m3 m4 m5 : Nat} {x : Int32} {W_md_in : Int32 → Int32 → Int32 → Int32} {Q_md_laysFireNow : (Nat → Int32) → (Nat → Int32) → (Nat → Int32) → (Nat → Int32) → Option ((Nat → Int32) × (Nat → Int32))} {G_md_isWood : Int32 → (Nat → Int32) → Bool} {W_md_isWood : Int32 → (Nat → Int32) → Int32} : zseg X zFT (zEx 143 (P_md_in W_md_in) (zEx 220 (P_md_laysFireNow Q_md_laysFireNow) (zEx 152 (P_md_isWood G_md_isWood W_md_isWood) zE0))) zc_231 (fun p => Nat.beq p 24) 400 0 [.ref 64, .int x] [] (ar, fi, (m1, m2, m3, m4, m5)) = (
  zl (W_md_in x 0 1) (fun v1 =>
  bif !decide (v1 = 0) then
   zl (Q_md_laysFireNow (ar 65) (ar 68) (ar 86) (ar 87)) (fun v2 => zg v2.isSome (
   some (.inl (24, [.ref 64, .int x, .int 0, .int (-2), .int 95], [], ((zua (zua ar 86 (((zgt v2).1))) 87 (((zgt v2).2))), fi, (m1, m2, m3, m4, m5))))))
  else
   some (.inr (some (.int (-1)), (ar, fi, (m1, m2, m3, m4, m5))))) : Option ((Nat × List Value × List Value × zH2) ⊕ zO2)) := by with_unfolding_all rfl
set_option maxRecDepth 20000 in
theorem e_md_safe {X : Nat × (Nat → Int32)} {ar fi : Nat → Nat → Int32} {m1 m2 m3 m4 m5 : Nat} {x : Int32} {o : zO2} : ∀ (q : T_md_safe), q_md_safe x (ar 65) (ar 68) (ar 86) (ar 87) = some q → (fun t => O_md_safe ar fi m1 m2 m3 m4 m5 t = o) q → zR2 X zFT (zEx 143 S_md_in (zEx 220 S_md_laysFireNow (zEx 152 S_md_isWood zE0))) zc_231 0 [.ref 64, .int x] [] (ar, fi, (m1, m2, m3, m4, m5)) o := by
  intro q h hq
  unfold q_md_safe at h
  refine zT_seg t_md_safe ?_
  obtain ⟨TT, hTT⟩ : ∃ T, T = zT X zFT (zEx 143 S_md_in (zEx 220 S_md_laysFireNow (zEx 152 S_md_isWood zE0))) zc_231 o := ⟨_, rfl⟩
  rw [← hTT]
  refine zl_el h (fun h => zU_l hTT ?_)
  refine zb_el h (fun hb h => zU_t hTT hb ?_) (fun hb h => zU_f hTT hb ?_)
  · refine zbd_el h (fun v2 hv h => zU_c hTT hv ?_)
    rw [hTT]
    refine zR2_hp ?_ ?_ (zlp_K k_md_safe_24 h hq)
    · first | with_reducible rfl | exact hA0_md_safe _ _ _
    · first | with_reducible rfl | rfl
  · rw [hTT]
    have hz := zsi (P := (fun t => O_md_safe ar fi m1 m2 m3 m4 m5 t = o)) h hq
    refine (zO_mk ?_ ?_).trans hz
    · first | with_reducible rfl | exact hA1_md_safe _
    · first | with_reducible rfl | rfl
theorem ok_md_safe (X : Nat × (Nat → Int32)) : zOkS X 231 S_md_safe 6 := zOkS_new (zOkE_cons (ok_md_in X) (by decide) (zOkE_cons (ok_md_laysFireNow X) (by decide) (zOkE_cons (ok_md_isWood X) (by decide) (zOkE_nil X 5)))) (by
  intro args g o h
  obtain ⟨ar, fi, m1, m2, m3, m4, m5⟩ := g
  unfold S_md_safe P_md_safe at h
  split at h
  · refine zb_el h (fun hI0 k0 => ?_) (fun _ h10 => ?_)
    · try simp only [Bool.and_eq_true] at hI0
      have j0 := hI0
      have e0 := Nat.eq_of_beq_eq_true j0
      subst e0
      exact zpe_el k0 (fun t ht ho => by obtain ⟨t0, t1, t2⟩ := t; exact e_md_safe _ ht ho)
    · cases h10
  · cases h)
