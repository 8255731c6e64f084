abbrev T_md_safe : Type := Int32 × (Nat → Int32) × (Nat → Int32)
abbrev U_md_safe_24 : Type := Int32 × Int32 × Int32
def b_md_safe_24 (x : Int32) (a68 : Nat → Int32) (b86 : Nat → Int32) (b87 : Nat → Int32) (l2 : Int32) (l3 : Int32) (l4 : Int32) : Option (U_md_safe_24 ⊕ T_md_safe) :=
  bif decide (l4 < 0) then
   bif !decide (x = 0) then
    some (.inr (l3, b86, b87))
   else
    some (.inr (l2, b86, b87))
  else
   zg (g_md_isWood l4 a68) (
   zl (w_md_isWood l4 a68) (fun v3 =>
   bif decide (v3 = 0) then
    some (.inl (l2, l3, l4 + (-1)))
   else
    zg (zin l4 96) (
    bif decide (b86 (l4.toNatClampNeg) = (-1)) then
     some (.inl (l2 + 1, l4, l4 + (-1)))
    else
     some (.inl (l2, l3, l4 + (-1))))))
def f_md_safe_24 (x : Int32) (a68 : Nat → Int32) (b86 : Nat → Int32) (b87 : Nat → Int32) : U_md_safe_24 → Option (U_md_safe_24 ⊕ T_md_safe) := fun s => b_md_safe_24 x a68 b86 b87 s.1 s.2.1 s.2.2
noncomputable def l_md_safe_24 (x : Int32) (a68 : Nat → Int32) (b86 : Nat → Int32) (b87 : Nat → Int32) (l2 : Int32) (l3 : Int32) (l4 : Int32) : Option T_md_safe := zlp (f_md_safe_24 x a68 b86 b87) (l2, l3, l4)
noncomputable def q_md_safe (x : Int32) (a65 : Nat → Int32) (a68 : Nat → Int32) (a86 : Nat → Int32) (a87 : Nat → Int32) : Option T_md_safe :=
  zl (w_md_in x 0 1) (fun v1 =>
  bif !decide (v1 = 0) then
   zbd (q_md_laysFireNow a65 a68 a86 a87) (fun v2 =>
   l_md_safe_24 x a68 ((v2.1)) ((v2.2)) 0 (-2) 95)
  else
   some ((-1), a86, a87))
def P_md_safe (Q : Int32 → (Nat → Int32) → (Nat → Int32) → (Nat → Int32) → (Nat → Int32) → Option (Int32 × (Nat → Int32) × (Nat → Int32))) : zSp := fun as g => match as with
  | [.ref a, .int x] => bif Nat.beq a 64 then zpe (Q x (g.1 65) (g.1 68) (g.1 86) (g.1 87)) (fun t => (some (.int (t.1)), ((zua (zua g.1 86 t.2.1) 87 t.2.2), g.2.1, g.2.2))) else none
  | _ => none
noncomputable abbrev S_md_safe : zSp := P_md_safe q_md_safe
def O_md_safe (ar fi : Nat → Nat → Int32) (m1 : Nat) (m2 : Nat) (m3 : Nat) (m4 : Nat) (m5 : Nat) (t : T_md_safe) : zO2 := (some (.int (t.1)), ((zua (zua ar 86 t.2.1) 87 t.2.2), fi, (m1, m2, m3, m4, m5)))
def M_md_safe_24 (X : Nat × (Nat → Int32)) (E : zTE) (ar fi : Nat → Nat → Int32) (m1 : Nat) (m2 : Nat) (m3 : Nat) (m4 : Nat) (m5 : Nat) (x : Int32) (b86 : Nat → Int32) (b87 : Nat → Int32) (o : zO2) (s : U_md_safe_24) : Prop := zR2 X zFT E zc_231 24 [.ref 64, .int x, .int s.1, .int s.2.1, .int s.2.2] [] ((zua (zua ar 86 b86) 87 b87), fi, (m1, m2, m3, m4, m5)) o
set_option maxRecDepth 20000 in
theorem t24_md_safe {X : Nat × (Nat → Int32)} {ar fi : Nat → Nat → Int32} {m1 m2 m3 m4 m5 : Nat} {x : Int32} {l2 : Int32} {l3 : Int32} {l4 : Int32} {b86 : Nat → Int32} {b87 : Nat → Int32} {W_md_in : Int32 → Int32 → Int32 → Int32} {Q_md_laysFireNow : (Nat → Int32) → (Nat → Int32) → (Nat → Int32) → (Nat → Int32) → Option ((Nat → Int32) × (Nat → Int32))} {G_md_isWood : Int32 → (Nat → Int32) → Bool} {W_md_isWood : Int32 → (Nat → Int32) → Int32} : zseg X zFT (zEx 143 (P_md_in W_md_in) (zEx 220 (P_md_laysFireNow Q_md_laysFireNow) (zEx 152 (P_md_isWood G_md_isWood W_md_isWood) zE0))) zc_231 (fun p => Nat.beq p 24) 400 24 [.ref 64, .int x, .int l2, .int l3, .int l4] [] ((zua (zua ar 86 b86) 87 b87), fi, (m1, m2, m3, m4, m5)) = (
  bif decide (l4 < 0) then
   bif !decide (x = 0) then
    some (.inr (some (.int l3), ((zua (zua ar 86 b86) 87 b87), fi, (m1, m2, m3, m4, m5))))
   else
    some (.inr (some (.int l2), ((zua (zua ar 86 b86) 87 b87), fi, (m1, m2, m3, m4, m5))))
  else
   zg (G_md_isWood l4 (ar 68)) (
   zl (W_md_isWood l4 (ar 68)) (fun v3 =>
   bif decide (v3 = 0) then
    some (.inl (24, [.ref 64, .int x, .int l2, .int l3, .int (l4 + (-1))], [], ((zua (zua ar 86 b86) 87 b87), fi, (m1, m2, m3, m4, m5))))
   else
    zg (zin l4 96) (
    bif decide (b86 (l4.toNatClampNeg) = (-1)) then
     some (.inl (24, [.ref 64, .int x, .int (l2 + 1), .int l4, .int (l4 + (-1))], [], ((zua (zua ar 86 b86) 87 b87), fi, (m1, m2, m3, m4, m5))))
    else
     some (.inl (24, [.ref 64, .int x, .int l2, .int l3, .int (l4 + (-1))], [], ((zua (zua ar 86 b86) 87 b87), fi, (m1, m2, m3, m4, m5))))))) : Option ((Nat × List Value × List Value × zH2) ⊕ zO2)) := rfl
theorem k_md_safe_24 {X : Nat × (Nat → Int32)} {ar fi : Nat → Nat → Int32} {m1 m2 m3 m4 m5 : Nat} {x : Int32} {b86 : Nat → Int32} {b87 : Nat → Int32} {o : zO2} : ∀ (s : U_md_safe_24) (q : U_md_safe_24 ⊕ T_md_safe), f_md_safe_24 x (ar 68) b86 b87 s = some q → zq (M_md_safe_24 X (zEx 143 S_md_in (zEx 220 S_md_laysFireNow (zEx 152 S_md_isWood zE0))) ar fi m1 m2 m3 m4 m5 x b86 b87 o) (fun t => O_md_safe ar fi m1 m2 m3 m4 m5 t = o) q → M_md_safe_24 X (zEx 143 S_md_in (zEx 220 S_md_laysFireNow (zEx 152 S_md_isWood zE0))) ar fi m1 m2 m3 m4 m5 x b86 b87 o s := by
  intro s q h hq
  obtain ⟨l2, l3, l4⟩ := s
  have h : b_md_safe_24 x (ar 68) b86 b87 l2 l3 l4 = some q := h
  unfold b_md_safe_24 at h
  show zR2 X zFT (zEx 143 S_md_in (zEx 220 S_md_laysFireNow (zEx 152 S_md_isWood zE0))) zc_231 24 [.ref 64, .int x, .int l2, .int l3, .int l4] [] ((zua (zua ar 86 b86) 87 b87), fi, (m1, m2, m3, m4, m5)) o
  refine zT_seg t24_md_safe ?_
  refine zb_el h (fun hb h => zT_t hb ?_) (fun hb h => zT_f hb ?_)
  · refine zb_el h (fun hb h => zT_t hb ?_) (fun hb h => zT_f hb ?_)
    · have hz := zsi h hq
      refine (zO_mk ?_ ?_).trans hz
      · first | with_reducible rfl | (exact zuas_eq _ [(86, _), (87, _)] [(86, _), (87, _)] [86, 87] rfl rfl ⟨rfl, rfl, trivial⟩)
      · first | with_reducible rfl | (rfl)
    · have hz := zsi h hq
      refine (zO_mk ?_ ?_).trans hz
      · first | with_reducible rfl | (exact zuas_eq _ [(86, _), (87, _)] [(86, _), (87, _)] [86, 87] rfl rfl ⟨rfl, rfl, trivial⟩)
      · first | with_reducible rfl | (rfl)
  · refine zg_el h (fun hg h => zT_g hg ?_)
    refine zl_el h (fun h => zT_l ?_)
    refine zb_el h (fun hb h => zT_t hb ?_) (fun hb h => zT_f hb ?_)
    · have hz := zsi h hq
      refine zR2_hp ?_ ?_ hz
      · first | with_reducible rfl | (exact zuas_eq _ [(86, _), (87, _)] [(86, _), (87, _)] [86, 87] rfl rfl ⟨rfl, rfl, trivial⟩)
      · first | with_reducible rfl | (rfl)
    · refine zg_el h (fun hg h => zT_g hg ?_)
      refine zb_el h (fun hb h => zT_t hb ?_) (fun hb h => zT_f hb ?_)
      · have hz := zsi h hq
        refine zR2_hp ?_ ?_ hz
        · first | with_reducible rfl | (exact zuas_eq _ [(86, _), (87, _)] [(86, _), (87, _)] [86, 87] rfl rfl ⟨rfl, rfl, trivial⟩)
        · first | with_reducible rfl | (rfl)
      · have hz := zsi h hq
        refine zR2_hp ?_ ?_ hz
        · first | with_reducible rfl | (exact zuas_eq _ [(86, _), (87, _)] [(86, _), (87, _)] [86, 87] rfl rfl ⟨rfl, rfl, trivial⟩)
        · first | with_reducible rfl | (rfl)
set_option maxRecDepth 20000 in
theorem t_md_safe {X : Nat × (Nat → Int32)} {ar fi : Nat → Nat → Int32} {m1 m2 m3 m4 m5 : Nat} {x : Int32} {W_md_in : Int32 → Int32 → Int32 → Int32} {Q_md_laysFireNow : (Nat → Int32) → (Nat → Int32) → (Nat → Int32) → (Nat → Int32) → Option ((Nat → Int32) × (Nat → Int32))} {G_md_isWood : Int32 → (Nat → Int32) → Bool} {W_md_isWood : Int32 → (Nat → Int32) → Int32} : zseg X zFT (zEx 143 (P_md_in W_md_in) (zEx 220 (P_md_laysFireNow Q_md_laysFireNow) (zEx 152 (P_md_isWood G_md_isWood W_md_isWood) zE0))) zc_231 (fun p => Nat.beq p 24) 400 0 [.ref 64, .int x] [] (ar, fi, (m1, m2, m3, m4, m5)) = (
  zl (W_md_in x 0 1) (fun v1 =>
  bif !decide (v1 = 0) then
   zl (Q_md_laysFireNow (ar 65) (ar 68) (ar 86) (ar 87)) (fun v2 => zg v2.isSome (
   some (.inl (24, [.ref 64, .int x, .int 0, .int (-2), .int 95], [], ((zua (zua ar 86 (((zgt v2).1))) 87 (((zgt v2).2))), fi, (m1, m2, m3, m4, m5))))))
  else
   some (.inr (some (.int (-1)), (ar, fi, (m1, m2, m3, m4, m5))))) : Option ((Nat × List Value × List Value × zH2) ⊕ zO2)) := rfl
theorem e_md_safe {X : Nat × (Nat → Int32)} {ar fi : Nat → Nat → Int32} {m1 m2 m3 m4 m5 : Nat} {x : Int32} {o : zO2} : ∀ (q : T_md_safe), q_md_safe x (ar 65) (ar 68) (ar 86) (ar 87) = some q → (fun t => O_md_safe ar fi m1 m2 m3 m4 m5 t = o) q → zR2 X zFT (zEx 143 S_md_in (zEx 220 S_md_laysFireNow (zEx 152 S_md_isWood zE0))) zc_231 0 [.ref 64, .int x] [] (ar, fi, (m1, m2, m3, m4, m5)) o := by
  intro q h hq
  unfold q_md_safe at h
  refine zT_seg t_md_safe ?_
  refine zl_el h (fun h => zT_l ?_)
  refine zb_el h (fun hb h => zT_t hb ?_) (fun hb h => zT_f hb ?_)
  · refine zbd_el h (fun v2 hv h => zT_c hv ?_)
    refine zR2_hp ?_ ?_ (zlp_K k_md_safe_24 h hq)
    · first | with_reducible rfl | (exact zuas_eq _ [(86, _), (87, _)] [(86, _), (87, _)] [86, 87] rfl rfl ⟨rfl, rfl, trivial⟩)
    · first | with_reducible rfl | (rfl)
  · have hz := zsi h hq
    refine (zO_mk ?_ ?_).trans hz
    · first | with_reducible rfl | (exact zuas_eq _ [] [(86, _), (87, _)] [86, 87] rfl rfl ⟨rfl, rfl, trivial⟩)
    · first | with_reducible rfl | (rfl)
theorem ok_md_safe (X : Nat × (Nat → Int32)) : zOkS X 231 S_md_safe 6 := zOkS_new (zOkE_cons (ok_md_in X) (by decide) (zOkE_cons (ok_md_laysFireNow X) (by decide) (zOkE_cons (ok_md_isWood X) (by decide) (zOkE_nil X 5)))) (by
  intro args g o h
  obtain ⟨ar, fi, m1, m2, m3, m4, m5⟩ := g
  unfold S_md_safe P_md_safe at h
  split at h
  · refine zb_el h (fun hI0 k0 => ?_) (fun _ h10 => ?_)
    · try simp only [Bool.and_eq_true] at hI0
      have j0 := hI0
      have e0 := Nat.eq_of_beq_eq_true j0
      subst e0
      exact zpe_el k0 (fun t ht ho => e_md_safe t ht ho)
    · cases h10
  · cases h)
abbrev T_md_woods : Type := Int32 × (Nat → Int32) × (Nat → Int32)
abbrev U_md_woods_22 : Type := Int32 × Int32 × Int32 × (Nat → Int32) × (Nat → Int32)
noncomputable def b_md_woods_22 (x : Int32) (a68 : Nat → Int32) (l2 : Int32) (l3 : Int32) (l4 : Int32) (b86 : Nat → Int32) (b87 : Nat → Int32) : Option (U_md_woods_22 ⊕ T_md_woods) :=
  bif decide (96 ≤ l4) then
   bif !decide (x = 0) then
    some (.inr (l3, b86, b87))
   else
    some (.inr (l2, b86, b87))
  else
   zg (g_md_isWood l4 a68) (
   zl (w_md_isWood l4 a68) (fun v3 =>
   bif decide (v3 = 0) then
    some (.inl (l2, l3, l4 + 1, b86, b87))
   else
    zg (zin l4 96) (
    bif decide (b86 (l4.toNatClampNeg) = (-1)) then
     zl (w_md_woodSeen b86) (fun v4 =>
     zg (zin l4 96) (
     zg (zin 0 192) (
     zbd (q_md_laysFire 1 a68 (zup b86 (l4.toNatClampNeg) 0) (zup b87 ((0 : Int32).toNatClampNeg) l4)) (fun v5 =>
     zl (w_md_woodSeen ((v5.1))) (fun v6 =>
     zl (w_md_max l3 (v6 - v4)) (fun v7 =>
     some (.inl (l2 + 1, v7, l4 + 1, ((v5.1)), ((v5.2))))))))))
    else
     some (.inl (l2, l3, l4 + 1, b86, b87)))))
noncomputable def f_md_woods_22 (x : Int32) (a68 : Nat → Int32) : U_md_woods_22 → Option (U_md_woods_22 ⊕ T_md_woods) := fun s => b_md_woods_22 x a68 s.1 s.2.1 s.2.2.1 s.2.2.2.1 s.2.2.2.2
noncomputable def l_md_woods_22 (x : Int32) (a68 : Nat → Int32) (l2 : Int32) (l3 : Int32) (l4 : Int32) (b86 : Nat → Int32) (b87 : Nat → Int32) : Option T_md_woods := zlp (f_md_woods_22 x a68) (l2, l3, l4, b86, b87)
noncomputable def q_md_woods (x : Int32) (a68 : Nat → Int32) (a86 : Nat → Int32) (a87 : Nat → Int32) : Option T_md_woods :=
  zl (w_md_in x 0 1) (fun v1 =>
  bif !decide (v1 = 0) then
   zl (a0_md_clearsFire a86) (fun v2 =>
   l_md_woods_22 x a68 0 0 0 v2 a87)
  else
   some ((-1), a86, a87))
def P_md_woods (Q : Int32 → (Nat → Int32) → (Nat → Int32) → (Nat → Int32) → Option (Int32 × (Nat → Int32) × (Nat → Int32))) : zSp := fun as g => match as with
  | [.ref a, .int x] => bif Nat.beq a 64 then zpe (Q x (g.1 68) (g.1 86) (g.1 87)) (fun t => (some (.int (t.1)), ((zua (zua g.1 86 t.2.1) 87 t.2.2), g.2.1, g.2.2))) else none
  | _ => none
noncomputable abbrev S_md_woods : zSp := P_md_woods q_md_woods
def O_md_woods (ar fi : Nat → Nat → Int32) (m1 : Nat) (m2 : Nat) (m3 : Nat) (m4 : Nat) (m5 : Nat) (t : T_md_woods) : zO2 := (some (.int (t.1)), ((zua (zua ar 86 t.2.1) 87 t.2.2), fi, (m1, m2, m3, m4, m5)))
def M_md_woods_22 (X : Nat × (Nat → Int32)) (E : zTE) (ar fi : Nat → Nat → Int32) (m1 : Nat) (m2 : Nat) (m3 : Nat) (m4 : Nat) (m5 : Nat) (x : Int32) (o : zO2) (s : U_md_woods_22) : Prop := zR2 X zFT E zc_232 22 [.ref 64, .int x, .int s.1, .int s.2.1, .int s.2.2.1] [] ((zua (zua ar 86 s.2.2.2.1) 87 s.2.2.2.2), fi, (m1, m2, m3, m4, m5)) o
set_option maxRecDepth 20000 in
theorem t22_md_woods {X : Nat × (Nat → Int32)} {ar fi : Nat → Nat → Int32} {m1 m2 m3 m4 m5 : Nat} {x : Int32} {l2 : Int32} {l3 : Int32} {l4 : Int32} {b86 : Nat → Int32} {b87 : Nat → Int32} {W_md_in : Int32 → Int32 → Int32 → Int32} {A0_md_clearsFire : (Nat → Int32) → Nat → Int32} {G_md_isWood : Int32 → (Nat → Int32) → Bool} {W_md_isWood : Int32 → (Nat → Int32) → Int32} {W_md_woodSeen : (Nat → Int32) → Int32} {Q_md_laysFire : Int32 → (Nat → Int32) → (Nat → Int32) → (Nat → Int32) → Option ((Nat → Int32) × (Nat → Int32))} {W_md_max : Int32 → Int32 → Int32} : zseg X zFT (zEx 143 (P_md_in W_md_in) (zEx 218 (P_md_clearsFire A0_md_clearsFire) (zEx 152 (P_md_isWood G_md_isWood W_md_isWood) (zEx 233 (P_md_woodSeen W_md_woodSeen) (zEx 217 (P_md_laysFire Q_md_laysFire) (zEx 144 (P_md_max W_md_max) zE0)))))) zc_232 (fun p => Nat.beq p 22) 400 22 [.ref 64, .int x, .int l2, .int l3, .int l4] [] ((zua (zua ar 86 b86) 87 b87), fi, (m1, m2, m3, m4, m5)) = (
  bif decide (96 ≤ l4) then
   bif !decide (x = 0) then
    some (.inr (some (.int l3), ((zua (zua ar 86 b86) 87 b87), fi, (m1, m2, m3, m4, m5))))
   else
    some (.inr (some (.int l2), ((zua (zua ar 86 b86) 87 b87), fi, (m1, m2, m3, m4, m5))))
  else
   zg (G_md_isWood l4 (ar 68)) (
   zl (W_md_isWood l4 (ar 68)) (fun v3 =>
   bif decide (v3 = 0) then
    some (.inl (22, [.ref 64, .int x, .int l2, .int l3, .int (l4 + 1)], [], ((zua (zua ar 86 b86) 87 b87), fi, (m1, m2, m3, m4, m5))))
   else
    zg (zin l4 96) (
    bif decide (b86 (l4.toNatClampNeg) = (-1)) then
     zl (W_md_woodSeen b86) (fun v4 =>
     zg (zin l4 96) (
     zg (zin 0 192) (
     zl (Q_md_laysFire 1 (ar 68) (zup b86 (l4.toNatClampNeg) 0) (zup b87 ((0 : Int32).toNatClampNeg) l4)) (fun v5 => zg v5.isSome (
     zl (W_md_woodSeen (((zgt v5).1))) (fun v6 =>
     zl (W_md_max l3 (v6 - v4)) (fun v7 =>
     some (.inl (22, [.ref 64, .int x, .int (l2 + 1), .int v7, .int (l4 + 1)], [], ((zua (zua (zua (zua (zua (zua ar 86 b86) 87 b87) 86 (zup b86 (l4.toNatClampNeg) 0)) 87 (zup b87 ((0 : Int32).toNatClampNeg) l4)) 86 (((zgt v5).1))) 87 (((zgt v5).2))), fi, (m1, m2, m3, m4, m5)))))))))))
    else
     some (.inl (22, [.ref 64, .int x, .int l2, .int l3, .int (l4 + 1)], [], ((zua (zua ar 86 b86) 87 b87), fi, (m1, m2, m3, m4, m5))))))) : Option ((Nat × List Value × List Value × zH2) ⊕ zO2)) := rfl
theorem k_md_woods_22 {X : Nat × (Nat → Int32)} {ar fi : Nat → Nat → Int32} {m1 m2 m3 m4 m5 : Nat} {x : Int32} {o : zO2} : ∀ (s : U_md_woods_22) (q : U_md_woods_22 ⊕ T_md_woods), f_md_woods_22 x (ar 68) s = some q → zq (M_md_woods_22 X (zEx 143 S_md_in (zEx 218 S_md_clearsFire (zEx 152 S_md_isWood (zEx 233 S_md_woodSeen (zEx 217 S_md_laysFire (zEx 144 S_md_max zE0)))))) ar fi m1 m2 m3 m4 m5 x o) (fun t => O_md_woods ar fi m1 m2 m3 m4 m5 t = o) q → M_md_woods_22 X (zEx 143 S_md_in (zEx 218 S_md_clearsFire (zEx 152 S_md_isWood (zEx 233 S_md_woodSeen (zEx 217 S_md_laysFire (zEx 144 S_md_max zE0)))))) ar fi m1 m2 m3 m4 m5 x o s := by
  intro s q h hq
  obtain ⟨l2, l3, l4, b86, b87⟩ := s
  have h : b_md_woods_22 x (ar 68) l2 l3 l4 b86 b87 = some q := h
  unfold b_md_woods_22 at h
  show zR2 X zFT (zEx 143 S_md_in (zEx 218 S_md_clearsFire (zEx 152 S_md_isWood (zEx 233 S_md_woodSeen (zEx 217 S_md_laysFire (zEx 144 S_md_max zE0)))))) zc_232 22 [.ref 64, .int x, .int l2, .int l3, .int l4] [] ((zua (zua ar 86 b86) 87 b87), fi, (m1, m2, m3, m4, m5)) o
  refine zT_seg t22_md_woods ?_
  refine zb_el h (fun hb h => zT_t hb ?_) (fun hb h => zT_f hb ?_)
  · refine zb_el h (fun hb h => zT_t hb ?_) (fun hb h => zT_f hb ?_)
    · have hz := zsi h hq
      refine (zO_mk ?_ ?_).trans hz
      · first | with_reducible rfl | (exact zuas_eq _ [(86, _), (87, _)] [(86, _), (87, _)] [86, 87] rfl rfl ⟨rfl, rfl, trivial⟩)
      · first | with_reducible rfl | (rfl)
    · have hz := zsi h hq
      refine (zO_mk ?_ ?_).trans hz
      · first | with_reducible rfl | (exact zuas_eq _ [(86, _), (87, _)] [(86, _), (87, _)] [86, 87] rfl rfl ⟨rfl, rfl, trivial⟩)
      · first | with_reducible rfl | (rfl)
  · refine zg_el h (fun hg h => zT_g hg ?_)
    refine zl_el h (fun h => zT_l ?_)
    refine zb_el h (fun hb h => zT_t hb ?_) (fun hb h => zT_f hb ?_)
    · have hz := zsi h hq
      refine zR2_hp ?_ ?_ hz
      · first | with_reducible rfl | (exact zuas_eq _ [(86, _), (87, _)] [(86, _), (87, _)] [86, 87] rfl rfl ⟨rfl, rfl, trivial⟩)
      · first | with_reducible rfl | (rfl)
    · refine zg_el h (fun hg h => zT_g hg ?_)
      refine zb_el h (fun hb h => zT_t hb ?_) (fun hb h => zT_f hb ?_)
      · refine zl_el h (fun h => zT_l ?_)
        refine zg_el h (fun hg h => zT_g hg ?_)
        refine zg_el h (fun hg h => zT_g hg ?_)
        refine zbd_el h (fun v5 hv h => zT_c hv ?_)
        refine zl_el h (fun h => zT_l ?_)
        refine zl_el h (fun h => zT_l ?_)
        have hz := zsi h hq
        refine zR2_hp ?_ ?_ hz
        · first | with_reducible rfl | (exact zuas_eq _ [(86, _), (87, _), (86, _), (87, _), (86, _), (87, _)] [(86, _), (87, _)] [86, 87] rfl rfl ⟨rfl, rfl, trivial⟩)
        · first | with_reducible rfl | (rfl)
      · have hz := zsi h hq
        refine zR2_hp ?_ ?_ hz
        · first | with_reducible rfl | (exact zuas_eq _ [(86, _), (87, _)] [(86, _), (87, _)] [86, 87] rfl rfl ⟨rfl, rfl, trivial⟩)
        · first | with_reducible rfl | (rfl)
set_option maxRecDepth 20000 in
theorem t_md_woods {X : Nat × (Nat → Int32)} {ar fi : Nat → Nat → Int32} {m1 m2 m3 m4 m5 : Nat} {x : Int32} {W_md_in : Int32 → Int32 → Int32 → Int32} {A0_md_clearsFire : (Nat → Int32) → Nat → Int32} {G_md_isWood : Int32 → (Nat → Int32) → Bool} {W_md_isWood : Int32 → (Nat → Int32) → Int32} {W_md_woodSeen : (Nat → Int32) → Int32} {Q_md_laysFire : Int32 → (Nat → Int32) → (Nat → Int32) → (Nat → Int32) → Option ((Nat → Int32) × (Nat → Int32))} {W_md_max : Int32 → Int32 → Int32} : zseg X zFT (zEx 143 (P_md_in W_md_in) (zEx 218 (P_md_clearsFire A0_md_clearsFire) (zEx 152 (P_md_isWood G_md_isWood W_md_isWood) (zEx 233 (P_md_woodSeen W_md_woodSeen) (zEx 217 (P_md_laysFire Q_md_laysFire) (zEx 144 (P_md_max W_md_max) zE0)))))) zc_232 (fun p => Nat.beq p 22) 400 0 [.ref 64, .int x] [] (ar, fi, (m1, m2, m3, m4, m5)) = (
  zl (W_md_in x 0 1) (fun v1 =>
  bif !decide (v1 = 0) then
   zl (A0_md_clearsFire (ar 86)) (fun v2 =>
   some (.inl (22, [.ref 64, .int x, .int 0, .int 0, .int 0], [], ((zua ar 86 v2), fi, (m1, m2, m3, m4, m5)))))
  else
   some (.inr (some (.int (-1)), (ar, fi, (m1, m2, m3, m4, m5))))) : Option ((Nat × List Value × List Value × zH2) ⊕ zO2)) := rfl
theorem e_md_woods {X : Nat × (Nat → Int32)} {ar fi : Nat → Nat → Int32} {m1 m2 m3 m4 m5 : Nat} {x : Int32} {o : zO2} : ∀ (q : T_md_woods), q_md_woods x (ar 68) (ar 86) (ar 87) = some q → (fun t => O_md_woods ar fi m1 m2 m3 m4 m5 t = o) q → zR2 X zFT (zEx 143 S_md_in (zEx 218 S_md_clearsFire (zEx 152 S_md_isWood (zEx 233 S_md_woodSeen (zEx 217 S_md_laysFire (zEx 144 S_md_max zE0)))))) zc_232 0 [.ref 64, .int x] [] (ar, fi, (m1, m2, m3, m4, m5)) o := by
  intro q h hq
  unfold q_md_woods at h
  refine zT_seg t_md_woods ?_
  refine zl_el h (fun h => zT_l ?_)
  refine zb_el h (fun hb h => zT_t hb ?_) (fun hb h => zT_f hb ?_)
  · refine zl_el h (fun h => zT_l ?_)
    refine zR2_hp ?_ ?_ (zlp_K k_md_woods_22 h hq)
    · first | with_reducible rfl | (exact zuas_eq _ [(86, _)] [(86, _), (87, _)] [86, 87] rfl rfl ⟨rfl, rfl, trivial⟩)
    · first | with_reducible rfl | (rfl)
  · have hz := zsi h hq
    refine (zO_mk ?_ ?_).trans hz
    · first | with_reducible rfl | (exact zuas_eq _ [] [(86, _), (87, _)] [86, 87] rfl rfl ⟨rfl, rfl, trivial⟩)
    · first | with_reducible rfl | (rfl)
theorem ok_md_woods (X : Nat × (Nat → Int32)) : zOkS X 232 S_md_woods 5 := zOkS_new (zOkE_cons (ok_md_in X) (by decide) (zOkE_cons (ok_md_clearsFire X) (by decide) (zOkE_cons (ok_md_isWood X) (by decide) (zOkE_cons (ok_md_woodSeen X) (by decide) (zOkE_cons (ok_md_laysFire X) (by decide) (zOkE_cons (ok_md_max X) (by decide) (zOkE_nil X 4))))))) (by
  intro args g o h
  obtain ⟨ar, fi, m1, m2, m3, m4, m5⟩ := g
  unfold S_md_woods P_md_woods at h
  split at h
  · refine zb_el h (fun hI0 k0 => ?_) (fun _ h10 => ?_)
    · try simp only [Bool.and_eq_true] at hI0
      have j0 := hI0
      have e0 := Nat.eq_of_beq_eq_true j0
      subst e0
      exact zpe_el k0 (fun t ht ho => e_md_woods t ht ho)
    · cases h10
  · cases h)
abbrev T_md_insure : Type := Int32 × Int32
abbrev U_md_insure_59 : Type := Int32 × Int32 × Int32 × Int32
abbrev U_md_insure_76 : Type := Int32 × Int32 × Int32
def b_md_insure_76 (x : Int32) (y : Int32) (a70 : Nat → Int32) (l4 : Int32) (l5 : Int32) (l6 : Int32) (l7 : Int32) (l8 : Int32) (l9 : Int32) (l10 : Int32) : Option (U_md_insure_76 ⊕ (U_md_insure_59 ⊕ T_md_insure)) :=
  bif decide (x ≤ l10) then
   bif decide (y < l9) then
    some (.inr (.inl (l4, l5, l6, l7 + 1)))
   else
    bif decide (l8 < l5) then
     some (.inr (.inl (l4, l5, l6, l7 + 1)))
    else
     bif !decide (l8 = l5) then
      some (.inr (.inl (l7, l8, l9, l7 + 1)))
     else
      bif decide (l9 < l6) then
       some (.inr (.inl (l7, l8, l9, l7 + 1)))
      else
       some (.inr (.inl (l4, l5, l6, l7 + 1)))
  else
   zl (w_md_has l7 l10) (fun v4 =>
   bif !decide (v4 = 0) then
    zg (g_md_octet (2 * l10) a70) (
    zl (w_md_octet (2 * l10) a70) (fun v5 =>
    zg (g_md_octet ((2 * l10) + 1) a70) (
    zl (w_md_octet ((2 * l10) + 1) a70) (fun v6 =>
    some (.inl (l8 + v5, l9 + v6, l10 + 1))))))
   else
    some (.inl (l8, l9, l10 + 1)))
def f_md_insure_76 (x : Int32) (y : Int32) (a70 : Nat → Int32) (l4 : Int32) (l5 : Int32) (l6 : Int32) (l7 : Int32) : U_md_insure_76 → Option (U_md_insure_76 ⊕ (U_md_insure_59 ⊕ T_md_insure)) := fun s => b_md_insure_76 x y a70 l4 l5 l6 l7 s.1 s.2.1 s.2.2
noncomputable def l_md_insure_76 (x : Int32) (y : Int32) (a70 : Nat → Int32) (l4 : Int32) (l5 : Int32) (l6 : Int32) (l7 : Int32) (l8 : Int32) (l9 : Int32) (l10 : Int32) : Option (U_md_insure_59 ⊕ T_md_insure) := zlp (f_md_insure_76 x y a70 l4 l5 l6 l7) (l8, l9, l10)
noncomputable def b_md_insure_59 (x : Int32) (y : Int32) (z : Int32) (a70 : Nat → Int32) (c64_6 : Int32) (l4 : Int32) (l5 : Int32) (l6 : Int32) (l7 : Int32) : Option (U_md_insure_59 ⊕ T_md_insure) :=
  bif decide (1 <<< (x &&& 31) ≤ l7) then
   bif !decide (z = 0) then
    bif !decide (z = 1) then
     some (.inr (l4, c64_6))
    else
     some (.inr (l6, c64_6))
   else
    some (.inr (l5, c64_6))
  else
   l_md_insure_76 x y a70 l4 l5 l6 l7 0 0 0
noncomputable def f_md_insure_59 (x : Int32) (y : Int32) (z : Int32) (a70 : Nat → Int32) (c64_6 : Int32) : U_md_insure_59 → Option (U_md_insure_59 ⊕ T_md_insure) := fun s => b_md_insure_59 x y z a70 c64_6 s.1 s.2.1 s.2.2.1 s.2.2.2
noncomputable def l_md_insure_59 (x : Int32) (y : Int32) (z : Int32) (a70 : Nat → Int32) (c64_6 : Int32) (l4 : Int32) (l5 : Int32) (l6 : Int32) (l7 : Int32) : Option T_md_insure := zlp (f_md_insure_59 x y z a70 c64_6) (l4, l5, l6, l7)
noncomputable def q_md_insure (x : Int32) (y : Int32) (z : Int32) (a70 : Nat → Int32) (f64_6 : Int32) : Option T_md_insure :=
  zl (w_md_in x 1 10) (fun v1 =>
  bif decide (v1 = 0) then
   some ((-1), f64_6)
  else
   zl (w_md_in y 0 2550) (fun v2 =>
   bif decide (v2 = 0) then
    some ((-1), f64_6)
   else
    zl (w_md_in z 0 2) (fun v3 =>
    bif decide (v3 = 0) then
     some ((-1), f64_6)
    else
     bif decide (2 * x ≤ f64_6) then
      l_md_insure_59 x y z a70 0 0 0 0 1
     else
      some ((-1), f64_6))))
def P_md_insure (Q : Int32 → Int32 → Int32 → (Nat → Int32) → Int32 → Option (Int32 × Int32)) : zSp := fun as g => match as with
  | [.ref a, .int x, .int y, .int z] => bif Nat.beq a 64 then zpe (Q x y z (g.1 70) (g.2.1 64 6)) (fun t => (some (.int (t.1)), (g.1, (zuf g.2.1 64 6 t.2), g.2.2))) else none
  | _ => none
noncomputable abbrev S_md_insure : zSp := P_md_insure q_md_insure
def O_md_insure (ar fi : Nat → Nat → Int32) (m1 : Nat) (m2 : Nat) (m3 : Nat) (m4 : Nat) (m5 : Nat) (t : T_md_insure) : zO2 := (some (.int (t.1)), (ar, (zuf fi 64 6 t.2), (m1, m2, m3, m4, m5)))
def M_md_insure_76 (X : Nat × (Nat → Int32)) (E : zTE) (ar fi : Nat → Nat → Int32) (m1 : Nat) (m2 : Nat) (m3 : Nat) (m4 : Nat) (m5 : Nat) (x : Int32) (y : Int32) (z : Int32) (l4 : Int32) (l5 : Int32) (l6 : Int32) (l7 : Int32) (c64_6 : Int32) (o : zO2) (s : U_md_insure_76) : Prop := zR2 X zFT E zc_234 76 [.ref 64, .int x, .int y, .int z, .int l4, .int l5, .int l6, .int l7, .int s.1, .int s.2.1, .int s.2.2] [] (ar, (zuf fi 64 6 c64_6), (m1, m2, m3, m4, m5)) o
def M_md_insure_59 (X : Nat × (Nat → Int32)) (E : zTE) (ar fi : Nat → Nat → Int32) (m1 : Nat) (m2 : Nat) (m3 : Nat) (m4 : Nat) (m5 : Nat) (x : Int32) (y : Int32) (z : Int32) (c64_6 : Int32) (o : zO2) (s : U_md_insure_59) : Prop := zR2 X zFT E zc_234 59 [.ref 64, .int x, .int y, .int z, .int s.1, .int s.2.1, .int s.2.2.1, .int s.2.2.2] [] (ar, (zuf fi 64 6 c64_6), (m1, m2, m3, m4, m5)) o
set_option maxRecDepth 20000 in
theorem t76_md_insure {X : Nat × (Nat → Int32)} {ar fi : Nat → Nat → Int32} {m1 m2 m3 m4 m5 : Nat} {x y z : Int32} {l4 : Int32} {l5 : Int32} {l6 : Int32} {l7 : Int32} {l8 : Int32} {l9 : Int32} {l10 : Int32} {c64_6 : Int32} {W_md_in : Int32 → Int32 → Int32 → Int32} {W_md_has : Int32 → Int32 → Int32} {G_md_octet : Int32 → (Nat → Int32) → Bool} {W_md_octet : Int32 → (Nat → Int32) → Int32} : zseg X zFT (zEx 143 (P_md_in W_md_in) (zEx 146 (P_md_has W_md_has) (zEx 157 (P_md_octet G_md_octet W_md_octet) zE0))) zc_234 (fun p => Nat.beq p 59 || Nat.beq p 76) 400 76 [.ref 64, .int x, .int y, .int z, .int l4, .int l5, .int l6, .int l7, .int l8, .int l9, .int l10] [] (ar, (zuf fi 64 6 c64_6), (m1, m2, m3, m4, m5)) = (
  bif decide (x ≤ l10) then
   bif decide (y < l9) then
    some (.inl (59, [.ref 64, .int x, .int y, .int z, .int l4, .int l5, .int l6, .int (l7 + 1)], [], (ar, (zuf fi 64 6 c64_6), (m1, m2, m3, m4, m5))))
   else
    bif decide (l8 < l5) then
     some (.inl (59, [.ref 64, .int x, .int y, .int z, .int l4, .int l5, .int l6, .int (l7 + 1)], [], (ar, (zuf fi 64 6 c64_6), (m1, m2, m3, m4, m5))))
    else
     bif !decide (l8 = l5) then
      some (.inl (59, [.ref 64, .int x, .int y, .int z, .int l7, .int l8, .int l9, .int (l7 + 1)], [], (ar, (zuf fi 64 6 c64_6), (m1, m2, m3, m4, m5))))
     else
      bif decide (l9 < l6) then
       some (.inl (59, [.ref 64, .int x, .int y, .int z, .int l7, .int l8, .int l9, .int (l7 + 1)], [], (ar, (zuf fi 64 6 c64_6), (m1, m2, m3, m4, m5))))
      else
       some (.inl (59, [.ref 64, .int x, .int y, .int z, .int l4, .int l5, .int l6, .int (l7 + 1)], [], (ar, (zuf fi 64 6 c64_6), (m1, m2, m3, m4, m5))))
  else
   zl (W_md_has l7 l10) (fun v4 =>
   bif !decide (v4 = 0) then
    zg (G_md_octet (2 * l10) (ar 70)) (
    zl (W_md_octet (2 * l10) (ar 70)) (fun v5 =>
    zg (G_md_octet ((2 * l10) + 1) (ar 70)) (
    zl (W_md_octet ((2 * l10) + 1) (ar 70)) (fun v6 =>
    some (.inl (76, [.ref 64, .int x, .int y, .int z, .int l4, .int l5, .int l6, .int l7, .int (l8 + v5), .int (l9 + v6), .int (l10 + 1)], [], (ar, (zuf fi 64 6 c64_6), (m1, m2, m3, m4, m5))))))))
   else
    some (.inl (76, [.ref 64, .int x, .int y, .int z, .int l4, .int l5, .int l6, .int l7, .int l8, .int l9, .int (l10 + 1)], [], (ar, (zuf fi 64 6 c64_6), (m1, m2, m3, m4, m5))))) : Option ((Nat × List Value × List Value × zH2) ⊕ zO2)) := rfl
theorem k_md_insure_76 {X : Nat × (Nat → Int32)} {ar fi : Nat → Nat → Int32} {m1 m2 m3 m4 m5 : Nat} {x y z : Int32} {l4 : Int32} {l5 : Int32} {l6 : Int32} {l7 : Int32} {c64_6 : Int32} {o : zO2} : ∀ (s : U_md_insure_76) (q : U_md_insure_76 ⊕ (U_md_insure_59 ⊕ T_md_insure)), f_md_insure_76 x y (ar 70) l4 l5 l6 l7 s = some q → zq (M_md_insure_76 X (zEx 143 S_md_in (zEx 146 S_md_has (zEx 157 S_md_octet zE0))) ar fi m1 m2 m3 m4 m5 x y z l4 l5 l6 l7 c64_6 o) (zq (M_md_insure_59 X (zEx 143 S_md_in (zEx 146 S_md_has (zEx 157 S_md_octet zE0))) ar fi m1 m2 m3 m4 m5 x y z c64_6 o) (fun t => O_md_insure ar fi m1 m2 m3 m4 m5 t = o)) q → M_md_insure_76 X (zEx 143 S_md_in (zEx 146 S_md_has (zEx 157 S_md_octet zE0))) ar fi m1 m2 m3 m4 m5 x y z l4 l5 l6 l7 c64_6 o s := by
  intro s q h hq
  obtain ⟨l8, l9, l10⟩ := s
  have h : b_md_insure_76 x y (ar 70) l4 l5 l6 l7 l8 l9 l10 = some q := h
  unfold b_md_insure_76 at h
  show zR2 X zFT (zEx 143 S_md_in (zEx 146 S_md_has (zEx 157 S_md_octet zE0))) zc_234 76 [.ref 64, .int x, .int y, .int z, .int l4, .int l5, .int l6, .int l7, .int l8, .int l9, .int l10] [] (ar, (zuf fi 64 6 c64_6), (m1, m2, m3, m4, m5)) o
  refine zT_seg t76_md_insure ?_
  refine zb_el h (fun hb h => zT_t hb ?_) (fun hb h => zT_f hb ?_)
  · refine zb_el h (fun hb h => zT_t hb ?_) (fun hb h => zT_f hb ?_)
    · have hz := zsi h hq
      refine zR2_hp ?_ ?_ hz
      · first | with_reducible rfl | (rfl)
      · first | with_reducible rfl | (exact zufs_eq _ [(64, 6, _)] [(64, 6, _)] [(64, 6)] rfl rfl ⟨rfl, trivial⟩)
    · refine zb_el h (fun hb h => zT_t hb ?_) (fun hb h => zT_f hb ?_)
      · have hz := zsi h hq
        refine zR2_hp ?_ ?_ hz
        · first | with_reducible rfl | (rfl)
        · first | with_reducible rfl | (exact zufs_eq _ [(64, 6, _)] [(64, 6, _)] [(64, 6)] rfl rfl ⟨rfl, trivial⟩)
      · refine zb_el h (fun hb h => zT_t hb ?_) (fun hb h => zT_f hb ?_)
        · have hz := zsi h hq
          refine zR2_hp ?_ ?_ hz
          · first | with_reducible rfl | (rfl)
          · first | with_reducible rfl | (exact zufs_eq _ [(64, 6, _)] [(64, 6, _)] [(64, 6)] rfl rfl ⟨rfl, trivial⟩)
        · refine zb_el h (fun hb h => zT_t hb ?_) (fun hb h => zT_f hb ?_)
          · have hz := zsi h hq
            refine zR2_hp ?_ ?_ hz
            · first | with_reducible rfl | (rfl)
            · first | with_reducible rfl | (exact zufs_eq _ [(64, 6, _)] [(64, 6, _)] [(64, 6)] rfl rfl ⟨rfl, trivial⟩)
          · have hz := zsi h hq
            refine zR2_hp ?_ ?_ hz
            · first | with_reducible rfl | (rfl)
            · first | with_reducible rfl | (exact zufs_eq _ [(64, 6, _)] [(64, 6, _)] [(64, 6)] rfl rfl ⟨rfl, trivial⟩)
  · refine zl_el h (fun h => zT_l ?_)
    refine zb_el h (fun hb h => zT_t hb ?_) (fun hb h => zT_f hb ?_)
    · refine zg_el h (fun hg h => zT_g hg ?_)
      refine zl_el h (fun h => zT_l ?_)
      refine zg_el h (fun hg h => zT_g hg ?_)
      refine zl_el h (fun h => zT_l ?_)
      have hz := zsi h hq
      refine zR2_hp ?_ ?_ hz
      · first | with_reducible rfl | (rfl)
      · first | with_reducible rfl | (exact zufs_eq _ [(64, 6, _)] [(64, 6, _)] [(64, 6)] rfl rfl ⟨rfl, trivial⟩)
    · have hz := zsi h hq
      refine zR2_hp ?_ ?_ hz
      · first | with_reducible rfl | (rfl)
      · first | with_reducible rfl | (exact zufs_eq _ [(64, 6, _)] [(64, 6, _)] [(64, 6)] rfl rfl ⟨rfl, trivial⟩)
set_option maxRecDepth 20000 in
theorem t59_md_insure {X : Nat × (Nat → Int32)} {ar fi : Nat → Nat → Int32} {m1 m2 m3 m4 m5 : Nat} {x y z : Int32} {l4 : Int32} {l5 : Int32} {l6 : Int32} {l7 : Int32} {c64_6 : Int32} {W_md_in : Int32 → Int32 → Int32 → Int32} {W_md_has : Int32 → Int32 → Int32} {G_md_octet : Int32 → (Nat → Int32) → Bool} {W_md_octet : Int32 → (Nat → Int32) → Int32} : zseg X zFT (zEx 143 (P_md_in W_md_in) (zEx 146 (P_md_has W_md_has) (zEx 157 (P_md_octet G_md_octet W_md_octet) zE0))) zc_234 (fun p => Nat.beq p 59 || Nat.beq p 76) 400 59 [.ref 64, .int x, .int y, .int z, .int l4, .int l5, .int l6, .int l7] [] (ar, (zuf fi 64 6 c64_6), (m1, m2, m3, m4, m5)) = (
  bif decide (1 <<< (x &&& 31) ≤ l7) then
   bif !decide (z = 0) then
    bif !decide (z = 1) then
     some (.inr (some (.int l4), (ar, (zuf fi 64 6 c64_6), (m1, m2, m3, m4, m5))))
    else
     some (.inr (some (.int l6), (ar, (zuf fi 64 6 c64_6), (m1, m2, m3, m4, m5))))
   else
    some (.inr (some (.int l5), (ar, (zuf fi 64 6 c64_6), (m1, m2, m3, m4, m5))))
  else
   some (.inl (76, [.ref 64, .int x, .int y, .int z, .int l4, .int l5, .int l6, .int l7, .int 0, .int 0, .int 0], [], (ar, (zuf fi 64 6 c64_6), (m1, m2, m3, m4, m5)))) : Option ((Nat × List Value × List Value × zH2) ⊕ zO2)) := rfl
theorem k_md_insure_59 {X : Nat × (Nat → Int32)} {ar fi : Nat → Nat → Int32} {m1 m2 m3 m4 m5 : Nat} {x y z : Int32} {c64_6 : Int32} {o : zO2} : ∀ (s : U_md_insure_59) (q : U_md_insure_59 ⊕ T_md_insure), f_md_insure_59 x y z (ar 70) c64_6 s = some q → zq (M_md_insure_59 X (zEx 143 S_md_in (zEx 146 S_md_has (zEx 157 S_md_octet zE0))) ar fi m1 m2 m3 m4 m5 x y z c64_6 o) (fun t => O_md_insure ar fi m1 m2 m3 m4 m5 t = o) q → M_md_insure_59 X (zEx 143 S_md_in (zEx 146 S_md_has (zEx 157 S_md_octet zE0))) ar fi m1 m2 m3 m4 m5 x y z c64_6 o s := by
  intro s q h hq
  obtain ⟨l4, l5, l6, l7⟩ := s
  have h : b_md_insure_59 x y z (ar 70) c64_6 l4 l5 l6 l7 = some q := h
  unfold b_md_insure_59 at h
  show zR2 X zFT (zEx 143 S_md_in (zEx 146 S_md_has (zEx 157 S_md_octet zE0))) zc_234 59 [.ref 64, .int x, .int y, .int z, .int l4, .int l5, .int l6, .int l7] [] (ar, (zuf fi 64 6 c64_6), (m1, m2, m3, m4, m5)) o
  refine zT_seg t59_md_insure ?_
  refine zb_el h (fun hb h => zT_t hb ?_) (fun hb h => zT_f hb ?_)
  · refine zb_el h (fun hb h => zT_t hb ?_) (fun hb h => zT_f hb ?_)
    · refine zb_el h (fun hb h => zT_t hb ?_) (fun hb h => zT_f hb ?_)
      · have hz := zsi h hq
        refine (zO_mk ?_ ?_).trans hz
        · first | with_reducible rfl | (rfl)
        · first | with_reducible rfl | (exact zufs_eq _ [(64, 6, _)] [(64, 6, _)] [(64, 6)] rfl rfl ⟨rfl, trivial⟩)
      · have hz := zsi h hq
        refine (zO_mk ?_ ?_).trans hz
        · first | with_reducible rfl | (rfl)
        · first | with_reducible rfl | (exact zufs_eq _ [(64, 6, _)] [(64, 6, _)] [(64, 6)] rfl rfl ⟨rfl, trivial⟩)
    · have hz := zsi h hq
      refine (zO_mk ?_ ?_).trans hz
      · first | with_reducible rfl | (rfl)
      · first | with_reducible rfl | (exact zufs_eq _ [(64, 6, _)] [(64, 6, _)] [(64, 6)] rfl rfl ⟨rfl, trivial⟩)
  · refine zR2_hp ?_ ?_ (zlp_K k_md_insure_76 h hq)
    · first | with_reducible rfl | (rfl)
    · first | with_reducible rfl | (exact zufs_eq _ [(64, 6, _)] [(64, 6, _)] [(64, 6)] rfl rfl ⟨rfl, trivial⟩)
set_option maxRecDepth 20000 in
theorem t_md_insure {X : Nat × (Nat → Int32)} {ar fi : Nat → Nat → Int32} {m1 m2 m3 m4 m5 : Nat} {x y z : Int32} {W_md_in : Int32 → Int32 → Int32 → Int32} {W_md_has : Int32 → Int32 → Int32} {G_md_octet : Int32 → (Nat → Int32) → Bool} {W_md_octet : Int32 → (Nat → Int32) → Int32} : zseg X zFT (zEx 143 (P_md_in W_md_in) (zEx 146 (P_md_has W_md_has) (zEx 157 (P_md_octet G_md_octet W_md_octet) zE0))) zc_234 (fun p => Nat.beq p 59 || Nat.beq p 76) 400 0 [.ref 64, .int x, .int y, .int z] [] (ar, fi, (m1, m2, m3, m4, m5)) = (
  zl (W_md_in x 1 10) (fun v1 =>
  bif decide (v1 = 0) then
   some (.inr (some (.int (-1)), (ar, fi, (m1, m2, m3, m4, m5))))
  else
   zl (W_md_in y 0 2550) (fun v2 =>
   bif decide (v2 = 0) then
    some (.inr (some (.int (-1)), (ar, fi, (m1, m2, m3, m4, m5))))
   else
    zl (W_md_in z 0 2) (fun v3 =>
    bif decide (v3 = 0) then
     some (.inr (some (.int (-1)), (ar, fi, (m1, m2, m3, m4, m5))))
    else
     bif decide (2 * x ≤ fi 64 6) then
      some (.inl (59, [.ref 64, .int x, .int y, .int z, .int 0, .int 0, .int 0, .int 1], [], (ar, (zuf fi 64 6 0), (m1, m2, m3, m4, m5))))
     else
      some (.inr (some (.int (-1)), (ar, fi, (m1, m2, m3, m4, m5))))))) : Option ((Nat × List Value × List Value × zH2) ⊕ zO2)) := rfl
theorem e_md_insure {X : Nat × (Nat → Int32)} {ar fi : Nat → Nat → Int32} {m1 m2 m3 m4 m5 : Nat} {x y z : Int32} {o : zO2} : ∀ (q : T_md_insure), q_md_insure x y z (ar 70) (fi 64 6) = some q → (fun t => O_md_insure ar fi m1 m2 m3 m4 m5 t = o) q → zR2 X zFT (zEx 143 S_md_in (zEx 146 S_md_has (zEx 157 S_md_octet zE0))) zc_234 0 [.ref 64, .int x, .int y, .int z] [] (ar, fi, (m1, m2, m3, m4, m5)) o := by
  intro q h hq
  unfold q_md_insure at h
  refine zT_seg t_md_insure ?_
  refine zl_el h (fun h => zT_l ?_)
  refine zb_el h (fun hb h => zT_t hb ?_) (fun hb h => zT_f hb ?_)
  · have hz := zsi h hq
    refine (zO_mk ?_ ?_).trans hz
    · first | with_reducible rfl | (rfl)
    · first | with_reducible rfl | (exact zufs_eq _ [] [(64, 6, _)] [(64, 6)] rfl rfl ⟨rfl, trivial⟩)
  · refine zl_el h (fun h => zT_l ?_)
    refine zb_el h (fun hb h => zT_t hb ?_) (fun hb h => zT_f hb ?_)
    · have hz := zsi h hq
      refine (zO_mk ?_ ?_).trans hz
      · first | with_reducible rfl | (rfl)
      · first | with_reducible rfl | (exact zufs_eq _ [] [(64, 6, _)] [(64, 6)] rfl rfl ⟨rfl, trivial⟩)
    · refine zl_el h (fun h => zT_l ?_)
      refine zb_el h (fun hb h => zT_t hb ?_) (fun hb h => zT_f hb ?_)
      · have hz := zsi h hq
        refine (zO_mk ?_ ?_).trans hz
        · first | with_reducible rfl | (rfl)
        · first | with_reducible rfl | (exact zufs_eq _ [] [(64, 6, _)] [(64, 6)] rfl rfl ⟨rfl, trivial⟩)
      · refine zb_el h (fun hb h => zT_t hb ?_) (fun hb h => zT_f hb ?_)
        · refine zR2_hp ?_ ?_ (zlp_K k_md_insure_59 h hq)
          · first | with_reducible rfl | (rfl)
          · first | with_reducible rfl | (exact zufs_eq _ [(64, 6, _)] [(64, 6, _)] [(64, 6)] rfl rfl ⟨rfl, trivial⟩)
        · have hz := zsi h hq
          refine (zO_mk ?_ ?_).trans hz
          · first | with_reducible rfl | (rfl)
          · first | with_reducible rfl | (exact zufs_eq _ [] [(64, 6, _)] [(64, 6)] rfl rfl ⟨rfl, trivial⟩)
theorem ok_md_insure (X : Nat × (Nat → Int32)) : zOkS X 234 S_md_insure 2 := zOkS_new (zOkE_cons (ok_md_in X) (by decide) (zOkE_cons (ok_md_has X) (by decide) (zOkE_cons (ok_md_octet X) (by decide) (zOkE_nil X 1)))) (by
  intro args g o h
  obtain ⟨ar, fi, m1, m2, m3, m4, m5⟩ := g
  unfold S_md_insure P_md_insure at h
  split at h
  · refine zb_el h (fun hI0 k0 => ?_) (fun _ h10 => ?_)
    · try simp only [Bool.and_eq_true] at hI0
      have j0 := hI0
      have e0 := Nat.eq_of_beq_eq_true j0
      subst e0
      exact zpe_el k0 (fun t ht ho => e_md_insure t ht ho)
    · cases h10
  · cases h)
abbrev T_md_roundFigure : Type := Int32
abbrev U_md_roundFigure_17 : Type := Int32 × Int32
def b_md_roundFigure_17 (x : Int32) (l2 : Int32) (l3 : Int32) : Option (U_md_roundFigure_17 ⊕ T_md_roundFigure) :=
  bif decide (1000000 < l3) then
   some (.inr l2)
  else
   zl (w_md_size (l3 - x)) (fun v2 =>
   zl (w_md_size (l2 - x)) (fun v3 =>
   bif decide (v3 ≤ v2) then
    zl (w_md_size ((2 * l3) - x)) (fun v4 =>
    zl (w_md_size (l2 - x)) (fun v5 =>
    bif decide (v5 ≤ v4) then
     zl (w_md_size ((5 * l3) - x)) (fun v6 =>
     zl (w_md_size (l2 - x)) (fun v7 =>
     bif decide (v7 ≤ v6) then
      some (.inl (l2, l3 * 10))
     else
      some (.inl (5 * l3, l3 * 10))))
    else
     zl (w_md_size ((5 * l3) - x)) (fun v8 =>
     zl (w_md_size ((2 * l3) - x)) (fun v9 =>
     bif decide (v9 ≤ v8) then
      some (.inl (2 * l3, l3 * 10))
     else
      some (.inl (5 * l3, l3 * 10))))))
   else
    zl (w_md_size ((2 * l3) - x)) (fun v10 =>
    zl (w_md_size (l3 - x)) (fun v11 =>
    bif decide (v11 ≤ v10) then
     zl (w_md_size ((5 * l3) - x)) (fun v12 =>
     zl (w_md_size (l3 - x)) (fun v13 =>
     bif decide (v13 ≤ v12) then
      some (.inl (l3, l3 * 10))
     else
      some (.inl (5 * l3, l3 * 10))))
    else
     zl (w_md_size ((5 * l3) - x)) (fun v14 =>
     zl (w_md_size ((2 * l3) - x)) (fun v15 =>
     bif decide (v15 ≤ v14) then
      some (.inl (2 * l3, l3 * 10))
     else
      some (.inl (5 * l3, l3 * 10))))))))
def f_md_roundFigure_17 (x : Int32) : U_md_roundFigure_17 → Option (U_md_roundFigure_17 ⊕ T_md_roundFigure) := fun s => b_md_roundFigure_17 x s.1 s.2
noncomputable def l_md_roundFigure_17 (x : Int32) (l2 : Int32) (l3 : Int32) : Option T_md_roundFigure := zlp (f_md_roundFigure_17 x) (l2, l3)
noncomputable def q_md_roundFigure (x : Int32) : Option T_md_roundFigure :=
  zl (w_md_in x 1 999999) (fun v1 =>
  bif !decide (v1 = 0) then
   l_md_roundFigure_17 x 1 1
  else
   some (-1))
def P_md_roundFigure (Q : Int32 → Option (Int32)) : zSp := fun as g => match as with
  | [.ref a, .int x] => bif Nat.beq a 64 then zpe (Q x) (fun t => (some (.int t), (g.1, g.2.1, g.2.2))) else none
  | _ => none
noncomputable abbrev S_md_roundFigure : zSp := P_md_roundFigure q_md_roundFigure
def O_md_roundFigure (ar fi : Nat → Nat → Int32) (m1 : Nat) (m2 : Nat) (m3 : Nat) (m4 : Nat) (m5 : Nat) (t : T_md_roundFigure) : zO2 := (some (.int t), (ar, fi, (m1, m2, m3, m4, m5)))
def M_md_roundFigure_17 (X : Nat × (Nat → Int32)) (E : zTE) (ar fi : Nat → Nat → Int32) (m1 : Nat) (m2 : Nat) (m3 : Nat) (m4 : Nat) (m5 : Nat) (x : Int32) (o : zO2) (s : U_md_roundFigure_17) : Prop := zR2 X zFT E zc_235 17 [.ref 64, .int x, .int s.1, .int s.2] [] (ar, fi, (m1, m2, m3, m4, m5)) o
set_option maxRecDepth 20000 in
theorem t17_md_roundFigure {X : Nat × (Nat → Int32)} {ar fi : Nat → Nat → Int32} {m1 m2 m3 m4 m5 : Nat} {x : Int32} {l2 : Int32} {l3 : Int32} {W_md_in : Int32 → Int32 → Int32 → Int32} {W_md_size : Int32 → Int32} : zseg X zFT (zEx 143 (P_md_in W_md_in) (zEx 145 (P_md_size W_md_size) zE0)) zc_235 (fun p => Nat.beq p 17) 400 17 [.ref 64, .int x, .int l2, .int l3] [] (ar, fi, (m1, m2, m3, m4, m5)) = (
  bif decide (1000000 < l3) then
   some (.inr (some (.int l2), (ar, fi, (m1, m2, m3, m4, m5))))
  else
   zl (W_md_size (l3 - x)) (fun v2 =>
   zl (W_md_size (l2 - x)) (fun v3 =>
   bif decide (v3 ≤ v2) then
    zl (W_md_size ((2 * l3) - x)) (fun v4 =>
    zl (W_md_size (l2 - x)) (fun v5 =>
    bif decide (v5 ≤ v4) then
     zl (W_md_size ((5 * l3) - x)) (fun v6 =>
     zl (W_md_size (l2 - x)) (fun v7 =>
     bif decide (v7 ≤ v6) then
      some (.inl (17, [.ref 64, .int x, .int l2, .int (l3 * 10)], [], (ar, fi, (m1, m2, m3, m4, m5))))
     else
      some (.inl (17, [.ref 64, .int x, .int (5 * l3), .int (l3 * 10)], [], (ar, fi, (m1, m2, m3, m4, m5))))))
    else
     zl (W_md_size ((5 * l3) - x)) (fun v8 =>
     zl (W_md_size ((2 * l3) - x)) (fun v9 =>
     bif decide (v9 ≤ v8) then
      some (.inl (17, [.ref 64, .int x, .int (2 * l3), .int (l3 * 10)], [], (ar, fi, (m1, m2, m3, m4, m5))))
     else
      some (.inl (17, [.ref 64, .int x, .int (5 * l3), .int (l3 * 10)], [], (ar, fi, (m1, m2, m3, m4, m5))))))))
   else
    zl (W_md_size ((2 * l3) - x)) (fun v10 =>
    zl (W_md_size (l3 - x)) (fun v11 =>
    bif decide (v11 ≤ v10) then
     zl (W_md_size ((5 * l3) - x)) (fun v12 =>
     zl (W_md_size (l3 - x)) (fun v13 =>
     bif decide (v13 ≤ v12) then
      some (.inl (17, [.ref 64, .int x, .int l3, .int (l3 * 10)], [], (ar, fi, (m1, m2, m3, m4, m5))))
     else
      some (.inl (17, [.ref 64, .int x, .int (5 * l3), .int (l3 * 10)], [], (ar, fi, (m1, m2, m3, m4, m5))))))
    else
     zl (W_md_size ((5 * l3) - x)) (fun v14 =>
     zl (W_md_size ((2 * l3) - x)) (fun v15 =>
     bif decide (v15 ≤ v14) then
      some (.inl (17, [.ref 64, .int x, .int (2 * l3), .int (l3 * 10)], [], (ar, fi, (m1, m2, m3, m4, m5))))
     else
      some (.inl (17, [.ref 64, .int x, .int (5 * l3), .int (l3 * 10)], [], (ar, fi, (m1, m2, m3, m4, m5)))))))))) : Option ((Nat × List Value × List Value × zH2) ⊕ zO2)) := rfl
theorem k_md_roundFigure_17 {X : Nat × (Nat → Int32)} {ar fi : Nat → Nat → Int32} {m1 m2 m3 m4 m5 : Nat} {x : Int32} {o : zO2} : ∀ (s : U_md_roundFigure_17) (q : U_md_roundFigure_17 ⊕ T_md_roundFigure), f_md_roundFigure_17 x s = some q → zq (M_md_roundFigure_17 X (zEx 143 S_md_in (zEx 145 S_md_size zE0)) ar fi m1 m2 m3 m4 m5 x o) (fun t => O_md_roundFigure ar fi m1 m2 m3 m4 m5 t = o) q → M_md_roundFigure_17 X (zEx 143 S_md_in (zEx 145 S_md_size zE0)) ar fi m1 m2 m3 m4 m5 x o s := by
  intro s q h hq
  obtain ⟨l2, l3⟩ := s
  have h : b_md_roundFigure_17 x l2 l3 = some q := h
  unfold b_md_roundFigure_17 at h
  show zR2 X zFT (zEx 143 S_md_in (zEx 145 S_md_size zE0)) zc_235 17 [.ref 64, .int x, .int l2, .int l3] [] (ar, fi, (m1, m2, m3, m4, m5)) o
  refine zT_seg t17_md_roundFigure ?_
  refine zb_el h (fun hb h => zT_t hb ?_) (fun hb h => zT_f hb ?_)
  · have hz := zsi h hq
    refine (zO_mk ?_ ?_).trans hz
    · first | with_reducible rfl | (rfl)
    · first | with_reducible rfl | (rfl)
  · refine zl_el h (fun h => zT_l ?_)
    refine zl_el h (fun h => zT_l ?_)
    refine zb_el h (fun hb h => zT_t hb ?_) (fun hb h => zT_f hb ?_)
    · refine zl_el h (fun h => zT_l ?_)
      refine zl_el h (fun h => zT_l ?_)
      refine zb_el h (fun hb h => zT_t hb ?_) (fun hb h => zT_f hb ?_)
      · refine zl_el h (fun h => zT_l ?_)
        refine zl_el h (fun h => zT_l ?_)
        refine zb_el h (fun hb h => zT_t hb ?_) (fun hb h => zT_f hb ?_)
        · have hz := zsi h hq
          refine zR2_hp ?_ ?_ hz
          · first | with_reducible rfl | (rfl)
          · first | with_reducible rfl | (rfl)
        · have hz := zsi h hq
          refine zR2_hp ?_ ?_ hz
          · first | with_reducible rfl | (rfl)
          · first | with_reducible rfl | (rfl)
      · refine zl_el h (fun h => zT_l ?_)
        refine zl_el h (fun h => zT_l ?_)
        refine zb_el h (fun hb h => zT_t hb ?_) (fun hb h => zT_f hb ?_)
        · have hz := zsi h hq
          refine zR2_hp ?_ ?_ hz
          · first | with_reducible rfl | (rfl)
          · first | with_reducible rfl | (rfl)
        · have hz := zsi h hq
          refine zR2_hp ?_ ?_ hz
          · first | with_reducible rfl | (rfl)
          · first | with_reducible rfl | (rfl)
    · refine zl_el h (fun h => zT_l ?_)
      refine zl_el h (fun h => zT_l ?_)
      refine zb_el h (fun hb h => zT_t hb ?_) (fun hb h => zT_f hb ?_)
      · refine zl_el h (fun h => zT_l ?_)
        refine zl_el h (fun h => zT_l ?_)
        refine zb_el h (fun hb h => zT_t hb ?_) (fun hb h => zT_f hb ?_)
        · have hz := zsi h hq
          refine zR2_hp ?_ ?_ hz
          · first | with_reducible rfl | (rfl)
          · first | with_reducible rfl | (rfl)
        · have hz := zsi h hq
          refine zR2_hp ?_ ?_ hz
          · first | with_reducible rfl | (rfl)
          · first | with_reducible rfl | (rfl)
      · refine zl_el h (fun h => zT_l ?_)
        refine zl_el h (fun h => zT_l ?_)
        refine zb_el h (fun hb h => zT_t hb ?_) (fun hb h => zT_f hb ?_)
        · have hz := zsi h hq
          refine zR2_hp ?_ ?_ hz
          · first | with_reducible rfl | (rfl)
          · first | with_reducible rfl | (rfl)
        · have hz := zsi h hq
          refine zR2_hp ?_ ?_ hz
          · first | with_reducible rfl | (rfl)
          · first | with_reducible rfl | (rfl)
set_option maxRecDepth 20000 in
theorem t_md_roundFigure {X : Nat × (Nat → Int32)} {ar fi : Nat → Nat → Int32} {m1 m2 m3 m4 m5 : Nat} {x : Int32} {W_md_in : Int32 → Int32 → Int32 → Int32} {W_md_size : Int32 → Int32} : zseg X zFT (zEx 143 (P_md_in W_md_in) (zEx 145 (P_md_size W_md_size) zE0)) zc_235 (fun p => Nat.beq p 17) 400 0 [.ref 64, .int x] [] (ar, fi, (m1, m2, m3, m4, m5)) = (
  zl (W_md_in x 1 999999) (fun v1 =>
  bif !decide (v1 = 0) then
   some (.inl (17, [.ref 64, .int x, .int 1, .int 1], [], (ar, fi, (m1, m2, m3, m4, m5))))
  else
   some (.inr (some (.int (-1)), (ar, fi, (m1, m2, m3, m4, m5))))) : Option ((Nat × List Value × List Value × zH2) ⊕ zO2)) := rfl
theorem e_md_roundFigure {X : Nat × (Nat → Int32)} {ar fi : Nat → Nat → Int32} {m1 m2 m3 m4 m5 : Nat} {x : Int32} {o : zO2} : ∀ (q : T_md_roundFigure), q_md_roundFigure x = some q → (fun t => O_md_roundFigure ar fi m1 m2 m3 m4 m5 t = o) q → zR2 X zFT (zEx 143 S_md_in (zEx 145 S_md_size zE0)) zc_235 0 [.ref 64, .int x] [] (ar, fi, (m1, m2, m3, m4, m5)) o := by
  intro q h hq
  unfold q_md_roundFigure at h
  refine zT_seg t_md_roundFigure ?_
  refine zl_el h (fun h => zT_l ?_)
  refine zb_el h (fun hb h => zT_t hb ?_) (fun hb h => zT_f hb ?_)
  · refine zR2_hp ?_ ?_ (zlp_K k_md_roundFigure_17 h hq)
    · first | with_reducible rfl | (rfl)
    · first | with_reducible rfl | (rfl)
  · have hz := zsi h hq
    refine (zO_mk ?_ ?_).trans hz
    · first | with_reducible rfl | (rfl)
    · first | with_reducible rfl | (rfl)
theorem ok_md_roundFigure (X : Nat × (Nat → Int32)) : zOkS X 235 S_md_roundFigure 2 := zOkS_new (zOkE_cons (ok_md_in X) (by decide) (zOkE_cons (ok_md_size X) (by decide) (zOkE_nil X 1))) (by
  intro args g o h
  obtain ⟨ar, fi, m1, m2, m3, m4, m5⟩ := g
  unfold S_md_roundFigure P_md_roundFigure at h
  split at h
  · refine zb_el h (fun hI0 k0 => ?_) (fun _ h10 => ?_)
    · try simp only [Bool.and_eq_true] at hI0
      have j0 := hI0
      have e0 := Nat.eq_of_beq_eq_true j0
      subst e0
      exact zpe_el k0 (fun t ht ho => e_md_roundFigure t ht ho)
    · cases h10
  · cases h)
abbrev T_md_restOf : Type := Int32
abbrev U_md_restOf_14 : Type := Int32 × Int32
def b_md_restOf_14 (x : Int32) (y : Int32) (z : Int32) (a70 : Nat → Int32) (l4 : Int32) (l5 : Int32) : Option (U_md_restOf_14 ⊕ T_md_restOf) :=
  bif decide (y ≤ l5) then
   some (.inr l4)
  else
   bif decide (l5 = x) then
    some (.inl (l4, l5 + 1))
   else
    zl (w_md_has z l5) (fun v2 =>
    bif !decide (v2 = 0) then
     some (.inl (l4, l5 + 1))
    else
     zg (g_md_octet ((y * l5) + x) a70) (
     zl (w_md_octet ((y * l5) + x) a70) (fun v3 =>
     zg (g_md_octet ((y * x) + l5) a70) (
     zl (w_md_octet ((y * x) + l5) a70) (fun v4 =>
     some (.inl ((l4 + v3) - v4, l5 + 1)))))))
def f_md_restOf_14 (x : Int32) (y : Int32) (z : Int32) (a70 : Nat → Int32) : U_md_restOf_14 → Option (U_md_restOf_14 ⊕ T_md_restOf) := fun s => b_md_restOf_14 x y z a70 s.1 s.2
noncomputable def l_md_restOf_14 (x : Int32) (y : Int32) (z : Int32) (a70 : Nat → Int32) (l4 : Int32) (l5 : Int32) : Option T_md_restOf := zlp (f_md_restOf_14 x y z a70) (l4, l5)
noncomputable def q_md_restOf (x : Int32) (y : Int32) (z : Int32) (a70 : Nat → Int32) : Option T_md_restOf :=
  zg (g_md_octet ((y * x) + x) a70) (
  zl (w_md_octet ((y * x) + x) a70) (fun v1 =>
  l_md_restOf_14 x y z a70 v1 0))
def P_md_restOf (Q : Int32 → Int32 → Int32 → (Nat → Int32) → Option (Int32)) : zSp := fun as g => match as with
  | [.ref a, .int x, .int y, .int z] => bif Nat.beq a 64 then zpe (Q x y z (g.1 70)) (fun t => (some (.int t), (g.1, g.2.1, g.2.2))) else none
  | _ => none
noncomputable abbrev S_md_restOf : zSp := P_md_restOf q_md_restOf
def O_md_restOf (ar fi : Nat → Nat → Int32) (m1 : Nat) (m2 : Nat) (m3 : Nat) (m4 : Nat) (m5 : Nat) (t : T_md_restOf) : zO2 := (some (.int t), (ar, fi, (m1, m2, m3, m4, m5)))
def M_md_restOf_14 (X : Nat × (Nat → Int32)) (E : zTE) (ar fi : Nat → Nat → Int32) (m1 : Nat) (m2 : Nat) (m3 : Nat) (m4 : Nat) (m5 : Nat) (x : Int32) (y : Int32) (z : Int32) (o : zO2) (s : U_md_restOf_14) : Prop := zR2 X zFT E zc_236 14 [.ref 64, .int x, .int y, .int z, .int s.1, .int s.2] [] (ar, fi, (m1, m2, m3, m4, m5)) o
set_option maxRecDepth 20000 in
theorem t14_md_restOf {X : Nat × (Nat → Int32)} {ar fi : Nat → Nat → Int32} {m1 m2 m3 m4 m5 : Nat} {x y z : Int32} {l4 : Int32} {l5 : Int32} {G_md_octet : Int32 → (Nat → Int32) → Bool} {W_md_octet : Int32 → (Nat → Int32) → Int32} {W_md_has : Int32 → Int32 → Int32} : zseg X zFT (zEx 157 (P_md_octet G_md_octet W_md_octet) (zEx 146 (P_md_has W_md_has) zE0)) zc_236 (fun p => Nat.beq p 14) 400 14 [.ref 64, .int x, .int y, .int z, .int l4, .int l5] [] (ar, fi, (m1, m2, m3, m4, m5)) = (
  bif decide (y ≤ l5) then
   some (.inr (some (.int l4), (ar, fi, (m1, m2, m3, m4, m5))))
  else
   bif decide (l5 = x) then
    some (.inl (14, [.ref 64, .int x, .int y, .int z, .int l4, .int (l5 + 1)], [], (ar, fi, (m1, m2, m3, m4, m5))))
   else
    zl (W_md_has z l5) (fun v2 =>
    bif !decide (v2 = 0) then
     some (.inl (14, [.ref 64, .int x, .int y, .int z, .int l4, .int (l5 + 1)], [], (ar, fi, (m1, m2, m3, m4, m5))))
    else
     zg (G_md_octet ((y * l5) + x) (ar 70)) (
     zl (W_md_octet ((y * l5) + x) (ar 70)) (fun v3 =>
     zg (G_md_octet ((y * x) + l5) (ar 70)) (
     zl (W_md_octet ((y * x) + l5) (ar 70)) (fun v4 =>
     some (.inl (14, [.ref 64, .int x, .int y, .int z, .int ((l4 + v3) - v4), .int (l5 + 1)], [], (ar, fi, (m1, m2, m3, m4, m5))))))))) : Option ((Nat × List Value × List Value × zH2) ⊕ zO2)) := rfl
theorem k_md_restOf_14 {X : Nat × (Nat → Int32)} {ar fi : Nat → Nat → Int32} {m1 m2 m3 m4 m5 : Nat} {x y z : Int32} {o : zO2} : ∀ (s : U_md_restOf_14) (q : U_md_restOf_14 ⊕ T_md_restOf), f_md_restOf_14 x y z (ar 70) s = some q → zq (M_md_restOf_14 X (zEx 157 S_md_octet (zEx 146 S_md_has zE0)) ar fi m1 m2 m3 m4 m5 x y z o) (fun t => O_md_restOf ar fi m1 m2 m3 m4 m5 t = o) q → M_md_restOf_14 X (zEx 157 S_md_octet (zEx 146 S_md_has zE0)) ar fi m1 m2 m3 m4 m5 x y z o s := by
  intro s q h hq
  obtain ⟨l4, l5⟩ := s
  have h : b_md_restOf_14 x y z (ar 70) l4 l5 = some q := h
  unfold b_md_restOf_14 at h
  show zR2 X zFT (zEx 157 S_md_octet (zEx 146 S_md_has zE0)) zc_236 14 [.ref 64, .int x, .int y, .int z, .int l4, .int l5] [] (ar, fi, (m1, m2, m3, m4, m5)) o
  refine zT_seg t14_md_restOf ?_
  refine zb_el h (fun hb h => zT_t hb ?_) (fun hb h => zT_f hb ?_)
  · have hz := zsi h hq
    refine (zO_mk ?_ ?_).trans hz
    · first | with_reducible rfl | (rfl)
    · first | with_reducible rfl | (rfl)
  · refine zb_el h (fun hb h => zT_t hb ?_) (fun hb h => zT_f hb ?_)
    · have hz := zsi h hq
      refine zR2_hp ?_ ?_ hz
      · first | with_reducible rfl | (rfl)
      · first | with_reducible rfl | (rfl)
    · refine zl_el h (fun h => zT_l ?_)
      refine zb_el h (fun hb h => zT_t hb ?_) (fun hb h => zT_f hb ?_)
      · have hz := zsi h hq
        refine zR2_hp ?_ ?_ hz
        · first | with_reducible rfl | (rfl)
        · first | with_reducible rfl | (rfl)
      · refine zg_el h (fun hg h => zT_g hg ?_)
        refine zl_el h (fun h => zT_l ?_)
        refine zg_el h (fun hg h => zT_g hg ?_)
        refine zl_el h (fun h => zT_l ?_)
        have hz := zsi h hq
        refine zR2_hp ?_ ?_ hz
        · first | with_reducible rfl | (rfl)
        · first | with_reducible rfl | (rfl)
set_option maxRecDepth 20000 in
theorem t_md_restOf {X : Nat × (Nat → Int32)} {ar fi : Nat → Nat → Int32} {m1 m2 m3 m4 m5 : Nat} {x y z : Int32} {G_md_octet : Int32 → (Nat → Int32) → Bool} {W_md_octet : Int32 → (Nat → Int32) → Int32} {W_md_has : Int32 → Int32 → Int32} : zseg X zFT (zEx 157 (P_md_octet G_md_octet W_md_octet) (zEx 146 (P_md_has W_md_has) zE0)) zc_236 (fun p => Nat.beq p 14) 400 0 [.ref 64, .int x, .int y, .int z] [] (ar, fi, (m1, m2, m3, m4, m5)) = (
  zg (G_md_octet ((y * x) + x) (ar 70)) (
  zl (W_md_octet ((y * x) + x) (ar 70)) (fun v1 =>
  some (.inl (14, [.ref 64, .int x, .int y, .int z, .int v1, .int 0], [], (ar, fi, (m1, m2, m3, m4, m5)))))) : Option ((Nat × List Value × List Value × zH2) ⊕ zO2)) := rfl
theorem e_md_restOf {X : Nat × (Nat → Int32)} {ar fi : Nat → Nat → Int32} {m1 m2 m3 m4 m5 : Nat} {x y z : Int32} {o : zO2} : ∀ (q : T_md_restOf), q_md_restOf x y z (ar 70) = some q → (fun t => O_md_restOf ar fi m1 m2 m3 m4 m5 t = o) q → zR2 X zFT (zEx 157 S_md_octet (zEx 146 S_md_has zE0)) zc_236 0 [.ref 64, .int x, .int y, .int z] [] (ar, fi, (m1, m2, m3, m4, m5)) o := by
  intro q h hq
  unfold q_md_restOf at h
  refine zT_seg t_md_restOf ?_
  refine zg_el h (fun hg h => zT_g hg ?_)
  refine zl_el h (fun h => zT_l ?_)
  refine zR2_hp ?_ ?_ (zlp_K k_md_restOf_14 h hq)
  · first | with_reducible rfl | (rfl)
  · first | with_reducible rfl | (rfl)
theorem ok_md_restOf (X : Nat × (Nat → Int32)) : zOkS X 236 S_md_restOf 2 := zOkS_new (zOkE_cons (ok_md_octet X) (by decide) (zOkE_cons (ok_md_has X) (by decide) (zOkE_nil X 1))) (by
  intro args g o h
  obtain ⟨ar, fi, m1, m2, m3, m4, m5⟩ := g
  unfold S_md_restOf P_md_restOf at h
  split at h
  · refine zb_el h (fun hI0 k0 => ?_) (fun _ h10 => ?_)
    · try simp only [Bool.and_eq_true] at hI0
      have j0 := hI0
      have e0 := Nat.eq_of_beq_eq_true j0
      subst e0
      exact zpe_el k0 (fun t ht ho => e_md_restOf t ht ho)
    · cases h10
  · cases h)
abbrev T_md_ruin : Type := Int32 × Int32
abbrev U_md_ruin_69 : Type := Int32 × Int32
abbrev U_md_ruin_55 : Type := Int32 × Int32
noncomputable def b_md_ruin_69 (x : Int32) (a70 : Nat → Int32) (l4 : Int32) (l5 : Int32) (l6 : Int32) : Option (U_md_ruin_69 ⊕ (U_md_ruin_55 ⊕ T_md_ruin)) :=
  bif decide (x ≤ l6) then
   some (.inr (.inl (l4, l5)))
  else
   zl (w_md_has l4 l6) (fun v5 =>
   bif !decide (v5 = 0) then
    some (.inl (l5, l6 + 1))
   else
    zbd (q_md_restOf l6 x l4 a70) (fun v6 =>
    bif decide (0 ≤ v6) then
     some (.inl (l5, l6 + 1))
    else
     some (.inl (l5 ||| (1 <<< (l6 &&& 31)), l6 + 1))))
noncomputable def f_md_ruin_69 (x : Int32) (a70 : Nat → Int32) (l4 : Int32) : U_md_ruin_69 → Option (U_md_ruin_69 ⊕ (U_md_ruin_55 ⊕ T_md_ruin)) := fun s => b_md_ruin_69 x a70 l4 s.1 s.2
noncomputable def l_md_ruin_69 (x : Int32) (a70 : Nat → Int32) (l4 : Int32) (l5 : Int32) (l6 : Int32) : Option (U_md_ruin_55 ⊕ T_md_ruin) := zlp (f_md_ruin_69 x a70 l4) (l5, l6)
noncomputable def b_md_ruin_55 (x : Int32) (z : Int32) (a70 : Nat → Int32) (c64_6 : Int32) (l4 : Int32) (l5 : Int32) : Option (U_md_ruin_55 ⊕ T_md_ruin) :=
  bif decide (l5 = l4) then
   bif !decide (z = 0) then
    some (.inr (l4, c64_6))
   else
    zl (w_md_bits l4) (fun v4 =>
    some (.inr (v4, c64_6)))
  else
   l_md_ruin_69 x a70 l5 l5 0
noncomputable def f_md_ruin_55 (x : Int32) (z : Int32) (a70 : Nat → Int32) (c64_6 : Int32) : U_md_ruin_55 → Option (U_md_ruin_55 ⊕ T_md_ruin) := fun s => b_md_ruin_55 x z a70 c64_6 s.1 s.2
noncomputable def l_md_ruin_55 (x : Int32) (z : Int32) (a70 : Nat → Int32) (c64_6 : Int32) (l4 : Int32) (l5 : Int32) : Option T_md_ruin := zlp (f_md_ruin_55 x z a70 c64_6) (l4, l5)
noncomputable def q_md_ruin (x : Int32) (y : Int32) (z : Int32) (a70 : Nat → Int32) (f64_6 : Int32) : Option T_md_ruin :=
  zl (w_md_in x 2 6) (fun v1 =>
  bif decide (v1 = 0) then
   some ((-1), f64_6)
  else
   zl (w_md_in y 0 (x - 1)) (fun v2 =>
   bif decide (v2 = 0) then
    some ((-1), f64_6)
   else
    zl (w_md_in z 0 1) (fun v3 =>
    bif decide (v3 = 0) then
     some ((-1), f64_6)
    else
     bif decide (x * x ≤ f64_6) then
      l_md_ruin_55 x z a70 0 0 (1 <<< (y &&& 31))
     else
      some ((-1), f64_6))))
def P_md_ruin (Q : Int32 → Int32 → Int32 → (Nat → Int32) → Int32 → Option (Int32 × Int32)) : zSp := fun as g => match as with
  | [.ref a, .int x, .int y, .int z] => bif Nat.beq a 64 then zpe (Q x y z (g.1 70) (g.2.1 64 6)) (fun t => (some (.int (t.1)), (g.1, (zuf g.2.1 64 6 t.2), g.2.2))) else none
  | _ => none
noncomputable abbrev S_md_ruin : zSp := P_md_ruin q_md_ruin
def O_md_ruin (ar fi : Nat → Nat → Int32) (m1 : Nat) (m2 : Nat) (m3 : Nat) (m4 : Nat) (m5 : Nat) (t : T_md_ruin) : zO2 := (some (.int (t.1)), (ar, (zuf fi 64 6 t.2), (m1, m2, m3, m4, m5)))
def M_md_ruin_69 (X : Nat × (Nat → Int32)) (E : zTE) (ar fi : Nat → Nat → Int32) (m1 : Nat) (m2 : Nat) (m3 : Nat) (m4 : Nat) (m5 : Nat) (x : Int32) (y : Int32) (z : Int32) (l4 : Int32) (c64_6 : Int32) (o : zO2) (s : U_md_ruin_69) : Prop := zR2 X zFT E zc_237 69 [.ref 64, .int x, .int y, .int z, .int l4, .int s.1, .int s.2] [] (ar, (zuf fi 64 6 c64_6), (m1, m2, m3, m4, m5)) o
def M_md_ruin_55 (X : Nat × (Nat → Int32)) (E : zTE) (ar fi : Nat → Nat → Int32) (m1 : Nat) (m2 : Nat) (m3 : Nat) (m4 : Nat) (m5 : Nat) (x : Int32) (y : Int32) (z : Int32) (c64_6 : Int32) (o : zO2) (s : U_md_ruin_55) : Prop := zR2 X zFT E zc_237 55 [.ref 64, .int x, .int y, .int z, .int s.1, .int s.2] [] (ar, (zuf fi 64 6 c64_6), (m1, m2, m3, m4, m5)) o
set_option maxRecDepth 20000 in
theorem t69_md_ruin {X : Nat × (Nat → Int32)} {ar fi : Nat → Nat → Int32} {m1 m2 m3 m4 m5 : Nat} {x y z : Int32} {l4 : Int32} {l5 : Int32} {l6 : Int32} {c64_6 : Int32} {W_md_in : Int32 → Int32 → Int32 → Int32} {W_md_has : Int32 → Int32 → Int32} {Q_md_restOf : Int32 → Int32 → Int32 → (Nat → Int32) → Option (Int32)} {W_md_bits : Int32 → Int32} : zseg X zFT (zEx 143 (P_md_in W_md_in) (zEx 146 (P_md_has W_md_has) (zEx 236 (P_md_restOf Q_md_restOf) (zEx 147 (P_md_bits W_md_bits) zE0)))) zc_237 (fun p => Nat.beq p 69 || Nat.beq p 55) 400 69 [.ref 64, .int x, .int y, .int z, .int l4, .int l5, .int l6] [] (ar, (zuf fi 64 6 c64_6), (m1, m2, m3, m4, m5)) = (
  bif decide (x ≤ l6) then
   some (.inl (55, [.ref 64, .int x, .int y, .int z, .int l4, .int l5], [], (ar, (zuf fi 64 6 c64_6), (m1, m2, m3, m4, m5))))
  else
   zl (W_md_has l4 l6) (fun v5 =>
   bif !decide (v5 = 0) then
    some (.inl (69, [.ref 64, .int x, .int y, .int z, .int l4, .int l5, .int (l6 + 1)], [], (ar, (zuf fi 64 6 c64_6), (m1, m2, m3, m4, m5))))
   else
    zl (Q_md_restOf l6 x l4 (ar 70)) (fun v6 => zg v6.isSome (
    bif decide (0 ≤ ((zgt v6))) then
     some (.inl (69, [.ref 64, .int x, .int y, .int z, .int l4, .int l5, .int (l6 + 1)], [], (ar, (zuf fi 64 6 c64_6), (m1, m2, m3, m4, m5))))
    else
     some (.inl (69, [.ref 64, .int x, .int y, .int z, .int l4, .int (l5 ||| (1 <<< (l6 &&& 31))), .int (l6 + 1)], [], (ar, (zuf fi 64 6 c64_6), (m1, m2, m3, m4, m5))))))) : Option ((Nat × List Value × List Value × zH2) ⊕ zO2)) := rfl
theorem k_md_ruin_69 {X : Nat × (Nat → Int32)} {ar fi : Nat → Nat → Int32} {m1 m2 m3 m4 m5 : Nat} {x y z : Int32} {l4 : Int32} {c64_6 : Int32} {o : zO2} : ∀ (s : U_md_ruin_69) (q : U_md_ruin_69 ⊕ (U_md_ruin_55 ⊕ T_md_ruin)), f_md_ruin_69 x (ar 70) l4 s = some q → zq (M_md_ruin_69 X (zEx 143 S_md_in (zEx 146 S_md_has (zEx 236 S_md_restOf (zEx 147 S_md_bits zE0)))) ar fi m1 m2 m3 m4 m5 x y z l4 c64_6 o) (zq (M_md_ruin_55 X (zEx 143 S_md_in (zEx 146 S_md_has (zEx 236 S_md_restOf (zEx 147 S_md_bits zE0)))) ar fi m1 m2 m3 m4 m5 x y z c64_6 o) (fun t => O_md_ruin ar fi m1 m2 m3 m4 m5 t = o)) q → M_md_ruin_69 X (zEx 143 S_md_in (zEx 146 S_md_has (zEx 236 S_md_restOf (zEx 147 S_md_bits zE0)))) ar fi m1 m2 m3 m4 m5 x y z l4 c64_6 o s := by
  intro s q h hq
  obtain ⟨l5, l6⟩ := s
  have h : b_md_ruin_69 x (ar 70) l4 l5 l6 = some q := h
  unfold b_md_ruin_69 at h
  show zR2 X zFT (zEx 143 S_md_in (zEx 146 S_md_has (zEx 236 S_md_restOf (zEx 147 S_md_bits zE0)))) zc_237 69 [.ref 64, .int x, .int y, .int z, .int l4, .int l5, .int l6] [] (ar, (zuf fi 64 6 c64_6), (m1, m2, m3, m4, m5)) o
  refine zT_seg t69_md_ruin ?_
  refine zb_el h (fun hb h => zT_t hb ?_) (fun hb h => zT_f hb ?_)
  · have hz := zsi h hq
    refine zR2_hp ?_ ?_ hz
    · first | with_reducible rfl | (rfl)
    · first | with_reducible rfl | (exact zufs_eq _ [(64, 6, _)] [(64, 6, _)] [(64, 6)] rfl rfl ⟨rfl, trivial⟩)
  · refine zl_el h (fun h => zT_l ?_)
    refine zb_el h (fun hb h => zT_t hb ?_) (fun hb h => zT_f hb ?_)
    · have hz := zsi h hq
      refine zR2_hp ?_ ?_ hz
      · first | with_reducible rfl | (rfl)
      · first | with_reducible rfl | (exact zufs_eq _ [(64, 6, _)] [(64, 6, _)] [(64, 6)] rfl rfl ⟨rfl, trivial⟩)
    · refine zbd_el h (fun v6 hv h => zT_c hv ?_)
      refine zb_el h (fun hb h => zT_t hb ?_) (fun hb h => zT_f hb ?_)
      · have hz := zsi h hq
        refine zR2_hp ?_ ?_ hz
        · first | with_reducible rfl | (rfl)
        · first | with_reducible rfl | (exact zufs_eq _ [(64, 6, _)] [(64, 6, _)] [(64, 6)] rfl rfl ⟨rfl, trivial⟩)
      · have hz := zsi h hq
        refine zR2_hp ?_ ?_ hz
        · first | with_reducible rfl | (rfl)
        · first | with_reducible rfl | (exact zufs_eq _ [(64, 6, _)] [(64, 6, _)] [(64, 6)] rfl rfl ⟨rfl, trivial⟩)
set_option maxRecDepth 20000 in
theorem t55_md_ruin {X : Nat × (Nat → Int32)} {ar fi : Nat → Nat → Int32} {m1 m2 m3 m4 m5 : Nat} {x y z : Int32} {l4 : Int32} {l5 : Int32} {c64_6 : Int32} {W_md_in : Int32 → Int32 → Int32 → Int32} {W_md_has : Int32 → Int32 → Int32} {Q_md_restOf : Int32 → Int32 → Int32 → (Nat → Int32) → Option (Int32)} {W_md_bits : Int32 → Int32} : zseg X zFT (zEx 143 (P_md_in W_md_in) (zEx 146 (P_md_has W_md_has) (zEx 236 (P_md_restOf Q_md_restOf) (zEx 147 (P_md_bits W_md_bits) zE0)))) zc_237 (fun p => Nat.beq p 69 || Nat.beq p 55) 400 55 [.ref 64, .int x, .int y, .int z, .int l4, .int l5] [] (ar, (zuf fi 64 6 c64_6), (m1, m2, m3, m4, m5)) = (
  bif decide (l5 = l4) then
   bif !decide (z = 0) then
    some (.inr (some (.int l4), (ar, (zuf fi 64 6 c64_6), (m1, m2, m3, m4, m5))))
   else
    zl (W_md_bits l4) (fun v4 =>
    some (.inr (some (.int v4), (ar, (zuf fi 64 6 c64_6), (m1, m2, m3, m4, m5)))))
  else
   some (.inl (69, [.ref 64, .int x, .int y, .int z, .int l5, .int l5, .int 0], [], (ar, (zuf fi 64 6 c64_6), (m1, m2, m3, m4, m5)))) : Option ((Nat × List Value × List Value × zH2) ⊕ zO2)) := rfl
theorem k_md_ruin_55 {X : Nat × (Nat → Int32)} {ar fi : Nat → Nat → Int32} {m1 m2 m3 m4 m5 : Nat} {x y z : Int32} {c64_6 : Int32} {o : zO2} : ∀ (s : U_md_ruin_55) (q : U_md_ruin_55 ⊕ T_md_ruin), f_md_ruin_55 x z (ar 70) c64_6 s = some q → zq (M_md_ruin_55 X (zEx 143 S_md_in (zEx 146 S_md_has (zEx 236 S_md_restOf (zEx 147 S_md_bits zE0)))) ar fi m1 m2 m3 m4 m5 x y z c64_6 o) (fun t => O_md_ruin ar fi m1 m2 m3 m4 m5 t = o) q → M_md_ruin_55 X (zEx 143 S_md_in (zEx 146 S_md_has (zEx 236 S_md_restOf (zEx 147 S_md_bits zE0)))) ar fi m1 m2 m3 m4 m5 x y z c64_6 o s := by
  intro s q h hq
  obtain ⟨l4, l5⟩ := s
  have h : b_md_ruin_55 x z (ar 70) c64_6 l4 l5 = some q := h
  unfold b_md_ruin_55 at h
  show zR2 X zFT (zEx 143 S_md_in (zEx 146 S_md_has (zEx 236 S_md_restOf (zEx 147 S_md_bits zE0)))) zc_237 55 [.ref 64, .int x, .int y, .int z, .int l4, .int l5] [] (ar, (zuf fi 64 6 c64_6), (m1, m2, m3, m4, m5)) o
  refine zT_seg t55_md_ruin ?_
  refine zb_el h (fun hb h => zT_t hb ?_) (fun hb h => zT_f hb ?_)
  · refine zb_el h (fun hb h => zT_t hb ?_) (fun hb h => zT_f hb ?_)
    · have hz := zsi h hq
      refine (zO_mk ?_ ?_).trans hz
      · first | with_reducible rfl | (rfl)
      · first | with_reducible rfl | (exact zufs_eq _ [(64, 6, _)] [(64, 6, _)] [(64, 6)] rfl rfl ⟨rfl, trivial⟩)
    · refine zl_el h (fun h => zT_l ?_)
      have hz := zsi h hq
      refine (zO_mk ?_ ?_).trans hz
      · first | with_reducible rfl | (rfl)
      · first | with_reducible rfl | (exact zufs_eq _ [(64, 6, _)] [(64, 6, _)] [(64, 6)] rfl rfl ⟨rfl, trivial⟩)
  · refine zR2_hp ?_ ?_ (zlp_K k_md_ruin_69 h hq)
    · first | with_reducible rfl | (rfl)
    · first | with_reducible rfl | (exact zufs_eq _ [(64, 6, _)] [(64, 6, _)] [(64, 6)] rfl rfl ⟨rfl, trivial⟩)
set_option maxRecDepth 20000 in
theorem t_md_ruin {X : Nat × (Nat → Int32)} {ar fi : Nat → Nat → Int32} {m1 m2 m3 m4 m5 : Nat} {x y z : Int32} {W_md_in : Int32 → Int32 → Int32 → Int32} {W_md_has : Int32 → Int32 → Int32} {Q_md_restOf : Int32 → Int32 → Int32 → (Nat → Int32) → Option (Int32)} {W_md_bits : Int32 → Int32} : zseg X zFT (zEx 143 (P_md_in W_md_in) (zEx 146 (P_md_has W_md_has) (zEx 236 (P_md_restOf Q_md_restOf) (zEx 147 (P_md_bits W_md_bits) zE0)))) zc_237 (fun p => Nat.beq p 69 || Nat.beq p 55) 400 0 [.ref 64, .int x, .int y, .int z] [] (ar, fi, (m1, m2, m3, m4, m5)) = (
  zl (W_md_in x 2 6) (fun v1 =>
  bif decide (v1 = 0) then
   some (.inr (some (.int (-1)), (ar, fi, (m1, m2, m3, m4, m5))))
  else
   zl (W_md_in y 0 (x - 1)) (fun v2 =>
   bif decide (v2 = 0) then
    some (.inr (some (.int (-1)), (ar, fi, (m1, m2, m3, m4, m5))))
   else
    zl (W_md_in z 0 1) (fun v3 =>
    bif decide (v3 = 0) then
     some (.inr (some (.int (-1)), (ar, fi, (m1, m2, m3, m4, m5))))
    else
     bif decide (x * x ≤ fi 64 6) then
      some (.inl (55, [.ref 64, .int x, .int y, .int z, .int 0, .int (1 <<< (y &&& 31))], [], (ar, (zuf fi 64 6 0), (m1, m2, m3, m4, m5))))
     else
      some (.inr (some (.int (-1)), (ar, fi, (m1, m2, m3, m4, m5))))))) : Option ((Nat × List Value × List Value × zH2) ⊕ zO2)) := rfl
theorem e_md_ruin {X : Nat × (Nat → Int32)} {ar fi : Nat → Nat → Int32} {m1 m2 m3 m4 m5 : Nat} {x y z : Int32} {o : zO2} : ∀ (q : T_md_ruin), q_md_ruin x y z (ar 70) (fi 64 6) = some q → (fun t => O_md_ruin ar fi m1 m2 m3 m4 m5 t = o) q → zR2 X zFT (zEx 143 S_md_in (zEx 146 S_md_has (zEx 236 S_md_restOf (zEx 147 S_md_bits zE0)))) zc_237 0 [.ref 64, .int x, .int y, .int z] [] (ar, fi, (m1, m2, m3, m4, m5)) o := by
  intro q h hq
  unfold q_md_ruin at h
  refine zT_seg t_md_ruin ?_
  refine zl_el h (fun h => zT_l ?_)
  refine zb_el h (fun hb h => zT_t hb ?_) (fun hb h => zT_f hb ?_)
  · have hz := zsi h hq
    refine (zO_mk ?_ ?_).trans hz
    · first | with_reducible rfl | (rfl)
    · first | with_reducible rfl | (exact zufs_eq _ [] [(64, 6, _)] [(64, 6)] rfl rfl ⟨rfl, trivial⟩)
  · refine zl_el h (fun h => zT_l ?_)
    refine zb_el h (fun hb h => zT_t hb ?_) (fun hb h => zT_f hb ?_)
    · have hz := zsi h hq
      refine (zO_mk ?_ ?_).trans hz
      · first | with_reducible rfl | (rfl)
      · first | with_reducible rfl | (exact zufs_eq _ [] [(64, 6, _)] [(64, 6)] rfl rfl ⟨rfl, trivial⟩)
    · refine zl_el h (fun h => zT_l ?_)
      refine zb_el h (fun hb h => zT_t hb ?_) (fun hb h => zT_f hb ?_)
      · have hz := zsi h hq
        refine (zO_mk ?_ ?_).trans hz
        · first | with_reducible rfl | (rfl)
        · first | with_reducible rfl | (exact zufs_eq _ [] [(64, 6, _)] [(64, 6)] rfl rfl ⟨rfl, trivial⟩)
      · refine zb_el h (fun hb h => zT_t hb ?_) (fun hb h => zT_f hb ?_)
        · refine zR2_hp ?_ ?_ (zlp_K k_md_ruin_55 h hq)
          · first | with_reducible rfl | (rfl)
          · first | with_reducible rfl | (exact zufs_eq _ [(64, 6, _)] [(64, 6, _)] [(64, 6)] rfl rfl ⟨rfl, trivial⟩)
        · have hz := zsi h hq
          refine (zO_mk ?_ ?_).trans hz
          · first | with_reducible rfl | (rfl)
          · first | with_reducible rfl | (exact zufs_eq _ [] [(64, 6, _)] [(64, 6)] rfl rfl ⟨rfl, trivial⟩)
theorem ok_md_ruin (X : Nat × (Nat → Int32)) : zOkS X 237 S_md_ruin 3 := zOkS_new (zOkE_cons (ok_md_in X) (by decide) (zOkE_cons (ok_md_has X) (by decide) (zOkE_cons (ok_md_restOf X) (by decide) (zOkE_cons (ok_md_bits X) (by decide) (zOkE_nil X 2))))) (by
  intro args g o h
  obtain ⟨ar, fi, m1, m2, m3, m4, m5⟩ := g
  unfold S_md_ruin P_md_ruin at h
  split at h
  · refine zb_el h (fun hI0 k0 => ?_) (fun _ h10 => ?_)
    · try simp only [Bool.and_eq_true] at hI0
      have j0 := hI0
      have e0 := Nat.eq_of_beq_eq_true j0
      subst e0
      exact zpe_el k0 (fun t ht ho => e_md_ruin t ht ho)
    · cases h10
  · cases h)
abbrev T_md_laysRow : Type := (Nat → Int32)
abbrev U_md_laysRow_2 : Type := Int32 × (Nat → Int32)
abbrev U_md_laysRow_9 : Type := Int32 × (Nat → Int32)
def b_md_laysRow_9 (a70 : Nat → Int32) (l2 : Int32) (l3 : Int32) (b94 : Nat → Int32) : Option (U_md_laysRow_9 ⊕ (U_md_laysRow_2 ⊕ T_md_laysRow)) :=
  bif decide (l3 ≤ 0) then
   zg (zin l3 10) (
   some (.inr (.inl (l2 + 1, (zup b94 (l3.toNatClampNeg) l2)))))
  else
   zg (zin (l3 - 1) 10) (
   zg (g_md_octet ((3 * (b94 ((l3 - 1).toNatClampNeg))) + 2) a70) (
   zl (w_md_octet ((3 * (b94 ((l3 - 1).toNatClampNeg))) + 2) a70) (fun v1 =>
   zg (g_md_octet ((3 * l2) + 2) a70) (
   zl (w_md_octet ((3 * l2) + 2) a70) (fun v2 =>
   bif decide (v1 ≤ v2) then
    zg (zin l3 10) (
    some (.inr (.inl (l2 + 1, (zup b94 (l3.toNatClampNeg) l2)))))
   else
    zg (zin (l3 - 1) 10) (
    zg (zin l3 10) (
    some (.inl (l3 - 1, (zup b94 (l3.toNatClampNeg) (b94 ((l3 - 1).toNatClampNeg))))))))))))
def f_md_laysRow_9 (a70 : Nat → Int32) (l2 : Int32) : U_md_laysRow_9 → Option (U_md_laysRow_9 ⊕ (U_md_laysRow_2 ⊕ T_md_laysRow)) := fun s => b_md_laysRow_9 a70 l2 s.1 s.2
noncomputable def l_md_laysRow_9 (a70 : Nat → Int32) (l2 : Int32) (l3 : Int32) (b94 : Nat → Int32) : Option (U_md_laysRow_2 ⊕ T_md_laysRow) := zlp (f_md_laysRow_9 a70 l2) (l3, b94)
noncomputable def b_md_laysRow_2 (x : Int32) (a70 : Nat → Int32) (l2 : Int32) (b94 : Nat → Int32) : Option (U_md_laysRow_2 ⊕ T_md_laysRow) :=
  bif decide (x ≤ l2) then
   some (.inr b94)
  else
   l_md_laysRow_9 a70 l2 l2 b94
noncomputable def f_md_laysRow_2 (x : Int32) (a70 : Nat → Int32) : U_md_laysRow_2 → Option (U_md_laysRow_2 ⊕ T_md_laysRow) := fun s => b_md_laysRow_2 x a70 s.1 s.2
noncomputable def l_md_laysRow_2 (x : Int32) (a70 : Nat → Int32) (l2 : Int32) (b94 : Nat → Int32) : Option T_md_laysRow := zlp (f_md_laysRow_2 x a70) (l2, b94)
noncomputable def q_md_laysRow (x : Int32) (a70 : Nat → Int32) (a94 : Nat → Int32) : Option T_md_laysRow :=
  l_md_laysRow_2 x a70 0 a94
def P_md_laysRow (Q : Int32 → (Nat → Int32) → (Nat → Int32) → Option ((Nat → Int32))) : zSp := fun as g => match as with
  | [.ref a, .int x] => bif Nat.beq a 64 then zpe (Q x (g.1 70) (g.1 94)) (fun t => (none, ((zua g.1 94 t), g.2.1, g.2.2))) else none
  | _ => none
noncomputable abbrev S_md_laysRow : zSp := P_md_laysRow q_md_laysRow
def O_md_laysRow (ar fi : Nat → Nat → Int32) (m1 : Nat) (m2 : Nat) (m3 : Nat) (m4 : Nat) (m5 : Nat) (t : T_md_laysRow) : zO2 := (none, ((zua ar 94 t), fi, (m1, m2, m3, m4, m5)))
def M_md_laysRow_9 (X : Nat × (Nat → Int32)) (E : zTE) (ar fi : Nat → Nat → Int32) (m1 : Nat) (m2 : Nat) (m3 : Nat) (m4 : Nat) (m5 : Nat) (x : Int32) (l2 : Int32) (o : zO2) (s : U_md_laysRow_9) : Prop := zR2 X zFT E zc_238 9 [.ref 64, .int x, .int l2, .int s.1] [] ((zua ar 94 s.2), fi, (m1, m2, m3, m4, m5)) o
def M_md_laysRow_2 (X : Nat × (Nat → Int32)) (E : zTE) (ar fi : Nat → Nat → Int32) (m1 : Nat) (m2 : Nat) (m3 : Nat) (m4 : Nat) (m5 : Nat) (x : Int32) (o : zO2) (s : U_md_laysRow_2) : Prop := zR2 X zFT E zc_238 2 [.ref 64, .int x, .int s.1] [] ((zua ar 94 s.2), fi, (m1, m2, m3, m4, m5)) o
set_option maxRecDepth 20000 in
theorem t9_md_laysRow {X : Nat × (Nat → Int32)} {ar fi : Nat → Nat → Int32} {m1 m2 m3 m4 m5 : Nat} {x : Int32} {l2 : Int32} {l3 : Int32} {b94 : Nat → Int32} {G_md_octet : Int32 → (Nat → Int32) → Bool} {W_md_octet : Int32 → (Nat → Int32) → Int32} : zseg X zFT (zEx 157 (P_md_octet G_md_octet W_md_octet) zE0) zc_238 (fun p => Nat.beq p 2 || Nat.beq p 9) 400 9 [.ref 64, .int x, .int l2, .int l3] [] ((zua ar 94 b94), fi, (m1, m2, m3, m4, m5)) = (
  bif decide (l3 ≤ 0) then
   zg (zin l3 10) (
   some (.inl (2, [.ref 64, .int x, .int (l2 + 1)], [], ((zua (zua ar 94 b94) 94 (zup b94 (l3.toNatClampNeg) l2)), fi, (m1, m2, m3, m4, m5)))))
  else
   zg (zin (l3 - 1) 10) (
   zg (G_md_octet ((3 * (b94 ((l3 - 1).toNatClampNeg))) + 2) (ar 70)) (
   zl (W_md_octet ((3 * (b94 ((l3 - 1).toNatClampNeg))) + 2) (ar 70)) (fun v1 =>
   zg (G_md_octet ((3 * l2) + 2) (ar 70)) (
   zl (W_md_octet ((3 * l2) + 2) (ar 70)) (fun v2 =>
   bif decide (v1 ≤ v2) then
    zg (zin l3 10) (
    some (.inl (2, [.ref 64, .int x, .int (l2 + 1)], [], ((zua (zua ar 94 b94) 94 (zup b94 (l3.toNatClampNeg) l2)), fi, (m1, m2, m3, m4, m5)))))
   else
    zg (zin (l3 - 1) 10) (
    zg (zin l3 10) (
    some (.inl (9, [.ref 64, .int x, .int l2, .int (l3 - 1)], [], ((zua (zua ar 94 b94) 94 (zup b94 (l3.toNatClampNeg) (b94 ((l3 - 1).toNatClampNeg)))), fi, (m1, m2, m3, m4, m5))))))))))) : Option ((Nat × List Value × List Value × zH2) ⊕ zO2)) := rfl
theorem k_md_laysRow_9 {X : Nat × (Nat → Int32)} {ar fi : Nat → Nat → Int32} {m1 m2 m3 m4 m5 : Nat} {x : Int32} {l2 : Int32} {o : zO2} : ∀ (s : U_md_laysRow_9) (q : U_md_laysRow_9 ⊕ (U_md_laysRow_2 ⊕ T_md_laysRow)), f_md_laysRow_9 (ar 70) l2 s = some q → zq (M_md_laysRow_9 X (zEx 157 S_md_octet zE0) ar fi m1 m2 m3 m4 m5 x l2 o) (zq (M_md_laysRow_2 X (zEx 157 S_md_octet zE0) ar fi m1 m2 m3 m4 m5 x o) (fun t => O_md_laysRow ar fi m1 m2 m3 m4 m5 t = o)) q → M_md_laysRow_9 X (zEx 157 S_md_octet zE0) ar fi m1 m2 m3 m4 m5 x l2 o s := by
  intro s q h hq
  obtain ⟨l3, b94⟩ := s
  have h : b_md_laysRow_9 (ar 70) l2 l3 b94 = some q := h
  unfold b_md_laysRow_9 at h
  show zR2 X zFT (zEx 157 S_md_octet zE0) zc_238 9 [.ref 64, .int x, .int l2, .int l3] [] ((zua ar 94 b94), fi, (m1, m2, m3, m4, m5)) o
  refine zT_seg t9_md_laysRow ?_
  refine zb_el h (fun hb h => zT_t hb ?_) (fun hb h => zT_f hb ?_)
  · refine zg_el h (fun hg h => zT_g hg ?_)
    have hz := zsi h hq
    refine zR2_hp ?_ ?_ hz
    · first | with_reducible rfl | (exact zuas_eq _ [(94, _), (94, _)] [(94, _)] [94] rfl rfl ⟨rfl, trivial⟩)
    · first | with_reducible rfl | (rfl)
  · refine zg_el h (fun hg h => zT_g hg ?_)
    refine zg_el h (fun hg h => zT_g hg ?_)
    refine zl_el h (fun h => zT_l ?_)
    refine zg_el h (fun hg h => zT_g hg ?_)
    refine zl_el h (fun h => zT_l ?_)
    refine zb_el h (fun hb h => zT_t hb ?_) (fun hb h => zT_f hb ?_)
    · refine zg_el h (fun hg h => zT_g hg ?_)
      have hz := zsi h hq
      refine zR2_hp ?_ ?_ hz
      · first | with_reducible rfl | (exact zuas_eq _ [(94, _), (94, _)] [(94, _)] [94] rfl rfl ⟨rfl, trivial⟩)
      · first | with_reducible rfl | (rfl)
    · refine zg_el h (fun hg h => zT_g hg ?_)
      refine zg_el h (fun hg h => zT_g hg ?_)
      have hz := zsi h hq
      refine zR2_hp ?_ ?_ hz
      · first | with_reducible rfl | (exact zuas_eq _ [(94, _), (94, _)] [(94, _)] [94] rfl rfl ⟨rfl, trivial⟩)
      · first | with_reducible rfl | (rfl)
set_option maxRecDepth 20000 in
theorem t2_md_laysRow {X : Nat × (Nat → Int32)} {ar fi : Nat → Nat → Int32} {m1 m2 m3 m4 m5 : Nat} {x : Int32} {l2 : Int32} {b94 : Nat → Int32} {G_md_octet : Int32 → (Nat → Int32) → Bool} {W_md_octet : Int32 → (Nat → Int32) → Int32} : zseg X zFT (zEx 157 (P_md_octet G_md_octet W_md_octet) zE0) zc_238 (fun p => Nat.beq p 2 || Nat.beq p 9) 400 2 [.ref 64, .int x, .int l2] [] ((zua ar 94 b94), fi, (m1, m2, m3, m4, m5)) = (
  bif decide (x ≤ l2) then
   some (.inr (none, ((zua ar 94 b94), fi, (m1, m2, m3, m4, m5))))
  else
   some (.inl (9, [.ref 64, .int x, .int l2, .int l2], [], ((zua ar 94 b94), fi, (m1, m2, m3, m4, m5)))) : Option ((Nat × List Value × List Value × zH2) ⊕ zO2)) := rfl
theorem k_md_laysRow_2 {X : Nat × (Nat → Int32)} {ar fi : Nat → Nat → Int32} {m1 m2 m3 m4 m5 : Nat} {x : Int32} {o : zO2} : ∀ (s : U_md_laysRow_2) (q : U_md_laysRow_2 ⊕ T_md_laysRow), f_md_laysRow_2 x (ar 70) s = some q → zq (M_md_laysRow_2 X (zEx 157 S_md_octet zE0) ar fi m1 m2 m3 m4 m5 x o) (fun t => O_md_laysRow ar fi m1 m2 m3 m4 m5 t = o) q → M_md_laysRow_2 X (zEx 157 S_md_octet zE0) ar fi m1 m2 m3 m4 m5 x o s := by
  intro s q h hq
  obtain ⟨l2, b94⟩ := s
  have h : b_md_laysRow_2 x (ar 70) l2 b94 = some q := h
  unfold b_md_laysRow_2 at h
  show zR2 X zFT (zEx 157 S_md_octet zE0) zc_238 2 [.ref 64, .int x, .int l2] [] ((zua ar 94 b94), fi, (m1, m2, m3, m4, m5)) o
  refine zT_seg t2_md_laysRow ?_
  refine zb_el h (fun hb h => zT_t hb ?_) (fun hb h => zT_f hb ?_)
  · have hz := zsi h hq
    refine (zO_mk ?_ ?_).trans hz
    · first | with_reducible rfl | (exact zuas_eq _ [(94, _)] [(94, _)] [94] rfl rfl ⟨rfl, trivial⟩)
    · first | with_reducible rfl | (rfl)
  · refine zR2_hp ?_ ?_ (zlp_K k_md_laysRow_9 h hq)
    · first | with_reducible rfl | (exact zuas_eq _ [(94, _)] [(94, _)] [94] rfl rfl ⟨rfl, trivial⟩)
    · first | with_reducible rfl | (rfl)
set_option maxRecDepth 20000 in
theorem t_md_laysRow {X : Nat × (Nat → Int32)} {ar fi : Nat → Nat → Int32} {m1 m2 m3 m4 m5 : Nat} {x : Int32} {G_md_octet : Int32 → (Nat → Int32) → Bool} {W_md_octet : Int32 → (Nat → Int32) → Int32} : zseg X zFT (zEx 157 (P_md_octet G_md_octet W_md_octet) zE0) zc_238 (fun p => Nat.beq p 2 || Nat.beq p 9) 400 0 [.ref 64, .int x] [] (ar, fi, (m1, m2, m3, m4, m5)) = (
  some (.inl (2, [.ref 64, .int x, .int 0], [], (ar, fi, (m1, m2, m3, m4, m5)))) : Option ((Nat × List Value × List Value × zH2) ⊕ zO2)) := rfl
theorem e_md_laysRow {X : Nat × (Nat → Int32)} {ar fi : Nat → Nat → Int32} {m1 m2 m3 m4 m5 : Nat} {x : Int32} {o : zO2} : ∀ (q : T_md_laysRow), q_md_laysRow x (ar 70) (ar 94) = some q → (fun t => O_md_laysRow ar fi m1 m2 m3 m4 m5 t = o) q → zR2 X zFT (zEx 157 S_md_octet zE0) zc_238 0 [.ref 64, .int x] [] (ar, fi, (m1, m2, m3, m4, m5)) o := by
  intro q h hq
  unfold q_md_laysRow at h
  refine zT_seg t_md_laysRow ?_
  refine zR2_hp ?_ ?_ (zlp_K k_md_laysRow_2 h hq)
  · first | with_reducible rfl | (exact zuas_eq _ [] [(94, _)] [94] rfl rfl ⟨rfl, trivial⟩)
  · first | with_reducible rfl | (rfl)
theorem ok_md_laysRow (X : Nat × (Nat → Int32)) : zOkS X 238 S_md_laysRow 2 := zOkS_new (zOkE_cons (ok_md_octet X) (by decide) (zOkE_nil X 1)) (by
  intro args g o h
  obtain ⟨ar, fi, m1, m2, m3, m4, m5⟩ := g
  unfold S_md_laysRow P_md_laysRow at h
  split at h
  · refine zb_el h (fun hI0 k0 => ?_) (fun _ h10 => ?_)
    · try simp only [Bool.and_eq_true] at hI0
      have j0 := hI0
      have e0 := Nat.eq_of_beq_eq_true j0
      subst e0
      exact zpe_el k0 (fun t ht ho => e_md_laysRow t ht ho)
    · cases h10
  · cases h)
abbrev T_md_worthOf : Type := Int32
abbrev U_md_worthOf_8 : Type := Int32 × Int32 × Int32
def b_md_worthOf_8 (x : Int32) (y : Int32) (a70 : Nat → Int32) (a94 : Nat → Int32) (l3 : Int32) (l4 : Int32) (l5 : Int32) : Option (U_md_worthOf_8 ⊕ T_md_worthOf) :=
  bif decide (y ≤ l5) then
   some (.inr l4)
  else
   zg (zin l5 10) (
   zl (w_md_has x (a94 (l5.toNatClampNeg))) (fun v1 =>
   bif !decide (v1 = 0) then
    zg (g_md_octet (3 * (a94 (l5.toNatClampNeg))) a70) (
    zl (w_md_octet (3 * (a94 (l5.toNatClampNeg))) a70) (fun v2 =>
    zg (g_md_octet ((3 * (a94 (l5.toNatClampNeg))) + 1) a70) (
    zl (w_md_octet ((3 * (a94 (l5.toNatClampNeg))) + 1) a70) (fun v3 =>
    zg (g_md_octet ((3 * (a94 (l5.toNatClampNeg))) + 2) a70) (
    zl (w_md_octet ((3 * (a94 (l5.toNatClampNeg))) + 2) a70) (fun v4 =>
    bif decide (l3 + v2 ≤ v4) then
     some (.inl (l3 + v2, l4 + v3, l5 + 1))
    else
     some (.inr 0)))))))
   else
    some (.inl (l3, l4, l5 + 1))))
def f_md_worthOf_8 (x : Int32) (y : Int32) (a70 : Nat → Int32) (a94 : Nat → Int32) : U_md_worthOf_8 → Option (U_md_worthOf_8 ⊕ T_md_worthOf) := fun s => b_md_worthOf_8 x y a70 a94 s.1 s.2.1 s.2.2
noncomputable def l_md_worthOf_8 (x : Int32) (y : Int32) (a70 : Nat → Int32) (a94 : Nat → Int32) (l3 : Int32) (l4 : Int32) (l5 : Int32) : Option T_md_worthOf := zlp (f_md_worthOf_8 x y a70 a94) (l3, l4, l5)
noncomputable def q_md_worthOf (x : Int32) (y : Int32) (a70 : Nat → Int32) (a94 : Nat → Int32) : Option T_md_worthOf :=
  l_md_worthOf_8 x y a70 a94 0 0 0
def P_md_worthOf (Q : Int32 → Int32 → (Nat → Int32) → (Nat → Int32) → Option (Int32)) : zSp := fun as g => match as with
  | [.ref a, .int x, .int y] => bif Nat.beq a 64 then zpe (Q x y (g.1 70) (g.1 94)) (fun t => (some (.int t), (g.1, g.2.1, g.2.2))) else none
  | _ => none
noncomputable abbrev S_md_worthOf : zSp := P_md_worthOf q_md_worthOf
def O_md_worthOf (ar fi : Nat → Nat → Int32) (m1 : Nat) (m2 : Nat) (m3 : Nat) (m4 : Nat) (m5 : Nat) (t : T_md_worthOf) : zO2 := (some (.int t), (ar, fi, (m1, m2, m3, m4, m5)))
def M_md_worthOf_8 (X : Nat × (Nat → Int32)) (E : zTE) (ar fi : Nat → Nat → Int32) (m1 : Nat) (m2 : Nat) (m3 : Nat) (m4 : Nat) (m5 : Nat) (x : Int32) (y : Int32) (o : zO2) (s : U_md_worthOf_8) : Prop := zR2 X zFT E zc_239 8 [.ref 64, .int x, .int y, .int s.1, .int s.2.1, .int s.2.2] [] (ar, fi, (m1, m2, m3, m4, m5)) o
set_option maxRecDepth 20000 in
theorem t8_md_worthOf {X : Nat × (Nat → Int32)} {ar fi : Nat → Nat → Int32} {m1 m2 m3 m4 m5 : Nat} {x y : Int32} {l3 : Int32} {l4 : Int32} {l5 : Int32} {W_md_has : Int32 → Int32 → Int32} {G_md_octet : Int32 → (Nat → Int32) → Bool} {W_md_octet : Int32 → (Nat → Int32) → Int32} : zseg X zFT (zEx 146 (P_md_has W_md_has) (zEx 157 (P_md_octet G_md_octet W_md_octet) zE0)) zc_239 (fun p => Nat.beq p 8) 400 8 [.ref 64, .int x, .int y, .int l3, .int l4, .int l5] [] (ar, fi, (m1, m2, m3, m4, m5)) = (
  bif decide (y ≤ l5) then
   some (.inr (some (.int l4), (ar, fi, (m1, m2, m3, m4, m5))))
  else
   zg (zin l5 10) (
   zl (W_md_has x ((ar 94) (l5.toNatClampNeg))) (fun v1 =>
   bif !decide (v1 = 0) then
    zg (G_md_octet (3 * ((ar 94) (l5.toNatClampNeg))) (ar 70)) (
    zl (W_md_octet (3 * ((ar 94) (l5.toNatClampNeg))) (ar 70)) (fun v2 =>
    zg (G_md_octet ((3 * ((ar 94) (l5.toNatClampNeg))) + 1) (ar 70)) (
    zl (W_md_octet ((3 * ((ar 94) (l5.toNatClampNeg))) + 1) (ar 70)) (fun v3 =>
    zg (G_md_octet ((3 * ((ar 94) (l5.toNatClampNeg))) + 2) (ar 70)) (
    zl (W_md_octet ((3 * ((ar 94) (l5.toNatClampNeg))) + 2) (ar 70)) (fun v4 =>
    bif decide (l3 + v2 ≤ v4) then
     some (.inl (8, [.ref 64, .int x, .int y, .int (l3 + v2), .int (l4 + v3), .int (l5 + 1)], [], (ar, fi, (m1, m2, m3, m4, m5))))
    else
     some (.inr (some (.int 0), (ar, fi, (m1, m2, m3, m4, m5))))))))))
   else
    some (.inl (8, [.ref 64, .int x, .int y, .int l3, .int l4, .int (l5 + 1)], [], (ar, fi, (m1, m2, m3, m4, m5)))))) : Option ((Nat × List Value × List Value × zH2) ⊕ zO2)) := rfl
theorem k_md_worthOf_8 {X : Nat × (Nat → Int32)} {ar fi : Nat → Nat → Int32} {m1 m2 m3 m4 m5 : Nat} {x y : Int32} {o : zO2} : ∀ (s : U_md_worthOf_8) (q : U_md_worthOf_8 ⊕ T_md_worthOf), f_md_worthOf_8 x y (ar 70) (ar 94) s = some q → zq (M_md_worthOf_8 X (zEx 146 S_md_has (zEx 157 S_md_octet zE0)) ar fi m1 m2 m3 m4 m5 x y o) (fun t => O_md_worthOf ar fi m1 m2 m3 m4 m5 t = o) q → M_md_worthOf_8 X (zEx 146 S_md_has (zEx 157 S_md_octet zE0)) ar fi m1 m2 m3 m4 m5 x y o s := by
  intro s q h hq
  obtain ⟨l3, l4, l5⟩ := s
  have h : b_md_worthOf_8 x y (ar 70) (ar 94) l3 l4 l5 = some q := h
  unfold b_md_worthOf_8 at h
  show zR2 X zFT (zEx 146 S_md_has (zEx 157 S_md_octet zE0)) zc_239 8 [.ref 64, .int x, .int y, .int l3, .int l4, .int l5] [] (ar, fi, (m1, m2, m3, m4, m5)) o
  refine zT_seg t8_md_worthOf ?_
  refine zb_el h (fun hb h => zT_t hb ?_) (fun hb h => zT_f hb ?_)
  · have hz := zsi h hq
    refine (zO_mk ?_ ?_).trans hz
    · first | with_reducible rfl | (rfl)
    · first | with_reducible rfl | (rfl)
  · refine zg_el h (fun hg h => zT_g hg ?_)
    refine zl_el h (fun h => zT_l ?_)
    refine zb_el h (fun hb h => zT_t hb ?_) (fun hb h => zT_f hb ?_)
    · refine zg_el h (fun hg h => zT_g hg ?_)
      refine zl_el h (fun h => zT_l ?_)
      refine zg_el h (fun hg h => zT_g hg ?_)
      refine zl_el h (fun h => zT_l ?_)
      refine zg_el h (fun hg h => zT_g hg ?_)
      refine zl_el h (fun h => zT_l ?_)
      refine zb_el h (fun hb h => zT_t hb ?_) (fun hb h => zT_f hb ?_)
      · have hz := zsi h hq
        refine zR2_hp ?_ ?_ hz
        · first | with_reducible rfl | (rfl)
        · first | with_reducible rfl | (rfl)
      · have hz := zsi h hq
        refine (zO_mk ?_ ?_).trans hz
        · first | with_reducible rfl | (rfl)
        · first | with_reducible rfl | (rfl)
    · have hz := zsi h hq
      refine zR2_hp ?_ ?_ hz
      · first | with_reducible rfl | (rfl)
      · first | with_reducible rfl | (rfl)
set_option maxRecDepth 20000 in
theorem t_md_worthOf {X : Nat × (Nat → Int32)} {ar fi : Nat → Nat → Int32} {m1 m2 m3 m4 m5 : Nat} {x y : Int32} {W_md_has : Int32 → Int32 → Int32} {G_md_octet : Int32 → (Nat → Int32) → Bool} {W_md_octet : Int32 → (Nat → Int32) → Int32} : zseg X zFT (zEx 146 (P_md_has W_md_has) (zEx 157 (P_md_octet G_md_octet W_md_octet) zE0)) zc_239 (fun p => Nat.beq p 8) 400 0 [.ref 64, .int x, .int y] [] (ar, fi, (m1, m2, m3, m4, m5)) = (
  some (.inl (8, [.ref 64, .int x, .int y, .int 0, .int 0, .int 0], [], (ar, fi, (m1, m2, m3, m4, m5)))) : Option ((Nat × List Value × List Value × zH2) ⊕ zO2)) := rfl
theorem e_md_worthOf {X : Nat × (Nat → Int32)} {ar fi : Nat → Nat → Int32} {m1 m2 m3 m4 m5 : Nat} {x y : Int32} {o : zO2} : ∀ (q : T_md_worthOf), q_md_worthOf x y (ar 70) (ar 94) = some q → (fun t => O_md_worthOf ar fi m1 m2 m3 m4 m5 t = o) q → zR2 X zFT (zEx 146 S_md_has (zEx 157 S_md_octet zE0)) zc_239 0 [.ref 64, .int x, .int y] [] (ar, fi, (m1, m2, m3, m4, m5)) o := by
  intro q h hq
  unfold q_md_worthOf at h
  refine zT_seg t_md_worthOf ?_
  refine zR2_hp ?_ ?_ (zlp_K k_md_worthOf_8 h hq)
  · first | with_reducible rfl | (rfl)
  · first | with_reducible rfl | (rfl)
theorem ok_md_worthOf (X : Nat × (Nat → Int32)) : zOkS X 239 S_md_worthOf 2 := zOkS_new (zOkE_cons (ok_md_has X) (by decide) (zOkE_cons (ok_md_octet X) (by decide) (zOkE_nil X 1))) (by
  intro args g o h
  obtain ⟨ar, fi, m1, m2, m3, m4, m5⟩ := g
  unfold S_md_worthOf P_md_worthOf at h
  split at h
  · refine zb_el h (fun hI0 k0 => ?_) (fun _ h10 => ?_)
    · try simp only [Bool.and_eq_true] at hI0
      have j0 := hI0
      have e0 := Nat.eq_of_beq_eq_true j0
      subst e0
      exact zpe_el k0 (fun t ht ho => e_md_worthOf t ht ho)
    · cases h10
  · cases h)
