abbrev T_md_couldBegin : Type := Int32 × (Nat → Int32) × (Nat → Int32)
abbrev U_md_couldBegin_7 : Type := Int32
def b_md_couldBegin_7 (y : Int32) (a65 : Nat → Int32) (a68 : Nat → Int32) (b86 : Nat → Int32) (b87 : Nat → Int32) (l3 : Int32) : Option (U_md_couldBegin_7 ⊕ T_md_couldBegin) :=
  bif decide (96 ≤ l3) then
   some (.inr (1, b86, b87))
  else
   zg (g_md_isWood l3 a68) (
   zl (w_md_isWood l3 a68) (fun v2 =>
   bif decide (v2 = 0) then
    some (.inl (l3 + 1))
   else
    zg (zin l3 96) (
    zl (w_md_in (b86 (l3.toNatClampNeg)) 0 y) (fun v3 =>
    zg (zin (0 + l3) 315) (
    bif decide (a65 ((0 + l3).toNatClampNeg) = 0) then
     bif decide (v3 = 0) then
      some (.inl (l3 + 1))
     else
      some (.inr (0, b86, b87))
    else
     bif decide (v3 = 1) then
      some (.inl (l3 + 1))
     else
      some (.inr (0, b86, b87)))))))
def f_md_couldBegin_7 (y : Int32) (a65 : Nat → Int32) (a68 : Nat → Int32) (b86 : Nat → Int32) (b87 : Nat → Int32) : U_md_couldBegin_7 → Option (U_md_couldBegin_7 ⊕ T_md_couldBegin) := fun s => b_md_couldBegin_7 y a65 a68 b86 b87 s
noncomputable def l_md_couldBegin_7 (y : Int32) (a65 : Nat → Int32) (a68 : Nat → Int32) (b86 : Nat → Int32) (b87 : Nat → Int32) (l3 : Int32) : Option T_md_couldBegin := zlp (f_md_couldBegin_7 y a65 a68 b86 b87) l3
noncomputable def q_md_couldBegin (x : Int32) (y : Int32) (a65 : Nat → Int32) (a68 : Nat → Int32) (a86 : Nat → Int32) (a87 : Nat → Int32) : Option T_md_couldBegin :=
  zbd (q_md_laysFireFrom x a68 a86 a87) (fun v1 =>
  l_md_couldBegin_7 y a65 a68 ((v1.1)) ((v1.2)) 0)
def P_md_couldBegin (Q : Int32 → Int32 → (Nat → Int32) → (Nat → Int32) → (Nat → Int32) → (Nat → Int32) → Option (Int32 × (Nat → Int32) × (Nat → Int32))) : zSp := fun as g => match as with
  | [.ref a, .int x, .int y] => bif Nat.beq a 64 then zpe (Q x y (g.1 65) (g.1 68) (g.1 86) (g.1 87)) (fun t => (some (.int (t.1)), ((zua (zua g.1 86 t.2.1) 87 t.2.2), g.2.1, g.2.2))) else none
  | _ => none
noncomputable abbrev S_md_couldBegin : zSp := P_md_couldBegin q_md_couldBegin
theorem hA0_md_couldBegin (F : Nat → Nat → Int32) (w0 w1 : Nat → Int32) : (zua (zua F 86 w0) 87 w1) = (zua (zua F 86 w0) 87 w1) := zuak_ix F [(86, w0), (87, w1)] [(86, some 0), (87, some 1)] rfl
def O_md_couldBegin (ar fi : Nat → Nat → Int32) (m1 : Nat) (m2 : Nat) (m3 : Nat) (m4 : Nat) (m5 : Nat) (t : T_md_couldBegin) : zO2 := match t with
  | (t0, t1, t2) => (some (.int (t0)), ((zua (zua ar 86 t1) 87 t2), fi, (m1, m2, m3, m4, m5)))
def M_md_couldBegin_7 (X : Nat × (Nat → Int32)) (E : zTE) (ar fi : Nat → Nat → Int32) (m1 : Nat) (m2 : Nat) (m3 : Nat) (m4 : Nat) (m5 : Nat) (x : Int32) (y : Int32) (b86 : Nat → Int32) (b87 : Nat → Int32) (o : zO2) (s : U_md_couldBegin_7) : Prop := zR2 X zFT E zc_222 7 [.ref 64, .int x, .int y, .int s] [] ((zua (zua ar 86 b86) 87 b87), fi, (m1, m2, m3, m4, m5)) o
set_option maxRecDepth 1000000 in
theorem t7_md_couldBegin {X : Nat × (Nat → Int32)} {ar fi : Nat → Nat → Int32} {m1 m2 m3 m4 m5 : Nat} {x y : Int32} {l3 : Int32} {b86 : Nat → Int32} {b87 : Nat → Int32} {Q_md_laysFireFrom : Int32 → (Nat → Int32) → (Nat → Int32) → (Nat → Int32) → Option ((Nat → Int32) × (Nat → Int32))} {G_md_isWood : Int32 → (Nat → Int32) → Bool} {W_md_isWood : Int32 → (Nat → Int32) → Int32} {W_md_in : Int32 → Int32 → Int32 → Int32} : zseg X zFT (zEx 219 (P_md_laysFireFrom Q_md_laysFireFrom) (zEx 152 (P_md_isWood G_md_isWood W_md_isWood) (zEx 143 (P_md_in W_md_in) zE0))) zc_222 (fun p => Nat.beq p 7) 400 7 [.ref 64, .int x, .int y, .int l3] [] ((zua (zua ar 86 b86) 87 b87), fi, (m1, m2, m3, m4, m5)) = (
  bif decide (96 ≤ l3) then
   some (.inr (some (.int 1), ((zua (zua ar 86 b86) 87 b87), fi, (m1, m2, m3, m4, m5))))
  else
   zg (G_md_isWood l3 (ar 68)) (
   zl (W_md_isWood l3 (ar 68)) (fun v2 =>
   bif decide (v2 = 0) then
    some (.inl (7, [.ref 64, .int x, .int y, .int (l3 + 1)], [], ((zua (zua ar 86 b86) 87 b87), fi, (m1, m2, m3, m4, m5))))
   else
    zg (Nat.beq 16 16 && (zin l3 96)) (
    zl (W_md_in (b86 (l3.toNatClampNeg)) 0 y) (fun v3 =>
    zg (Nat.beq 16 16 && (zin (0 + l3) 315)) (
    bif decide ((ar 65) ((0 + l3).toNatClampNeg) = 0) then
     bif decide (v3 = 0) then
      some (.inl (7, [.ref 64, .int x, .int y, .int (l3 + 1)], [], ((zua (zua ar 86 b86) 87 b87), fi, (m1, m2, m3, m4, m5))))
     else
      some (.inr (some (.int 0), ((zua (zua ar 86 b86) 87 b87), fi, (m1, m2, m3, m4, m5))))
    else
     bif decide (v3 = 1) then
      some (.inl (7, [.ref 64, .int x, .int y, .int (l3 + 1)], [], ((zua (zua ar 86 b86) 87 b87), fi, (m1, m2, m3, m4, m5))))
     else
      some (.inr (some (.int 0), ((zua (zua ar 86 b86) 87 b87), fi, (m1, m2, m3, m4, m5))))))))) : Option ((Nat × List Value × List Value × zH2) ⊕ zO2)) := by with_unfolding_all rfl
set_option maxRecDepth 20000 in
theorem k_md_couldBegin_7 {X : Nat × (Nat → Int32)} {ar fi : Nat → Nat → Int32} {m1 m2 m3 m4 m5 : Nat} {x y : Int32} {b86 : Nat → Int32} {b87 : Nat → Int32} {o : zO2} : ∀ (s : U_md_couldBegin_7) (q : U_md_couldBegin_7 ⊕ T_md_couldBegin), f_md_couldBegin_7 y (ar 65) (ar 68) b86 b87 s = some q → zq (M_md_couldBegin_7 X (zEx 219 S_md_laysFireFrom (zEx 152 S_md_isWood (zEx 143 S_md_in zE0))) ar fi m1 m2 m3 m4 m5 x y b86 b87 o) (fun t => O_md_couldBegin ar fi m1 m2 m3 m4 m5 t = o) q → M_md_couldBegin_7 X (zEx 219 S_md_laysFireFrom (zEx 152 S_md_isWood (zEx 143 S_md_in zE0))) ar fi m1 m2 m3 m4 m5 x y b86 b87 o s := by
  intro l3 q h hq
  have h : b_md_couldBegin_7 y (ar 65) (ar 68) b86 b87 l3 = some q := h
  unfold b_md_couldBegin_7 at h
  show zR2 X zFT (zEx 219 S_md_laysFireFrom (zEx 152 S_md_isWood (zEx 143 S_md_in zE0))) zc_222 7 [.ref 64, .int x, .int y, .int l3] [] ((zua (zua ar 86 b86) 87 b87), fi, (m1, m2, m3, m4, m5)) o
  refine zT_seg t7_md_couldBegin ?_
  obtain ⟨TT, hTT⟩ : ∃ T, T = zT X zFT (zEx 219 S_md_laysFireFrom (zEx 152 S_md_isWood (zEx 143 S_md_in zE0))) zc_222 o := ⟨_, rfl⟩
  rw [← hTT]
  refine zb_el h (fun hb h => zU_t hTT hb ?_) (fun hb h => zU_f hTT hb ?_)
  · rw [hTT]
    have hz := zsi h hq
    refine (zO_mk ?_ ?_).trans hz
    · first | with_reducible rfl | exact hA0_md_couldBegin _ _ _
    · first | with_reducible rfl | rfl
  · refine zg_el h (fun hg h => zU_g hTT hg ?_)
    refine zl_el h (fun h => zU_l hTT ?_)
    refine zb_el h (fun hb h => zU_t hTT hb ?_) (fun hb h => zU_f hTT hb ?_)
    · rw [hTT]
      have hz := zsi h hq
      refine zR2_hp ?_ ?_ hz
      · first | with_reducible rfl | exact hA0_md_couldBegin _ _ _
      · first | with_reducible rfl | rfl
    · refine zg_el h (fun hg h => zU_ga hTT hg ?_)
      refine zl_el h (fun h => zU_l hTT ?_)
      refine zg_el h (fun hg h => zU_ga hTT hg ?_)
      refine zb_el h (fun hb h => zU_t hTT hb ?_) (fun hb h => zU_f hTT hb ?_)
      · refine zb_el h (fun hb h => zU_t hTT hb ?_) (fun hb h => zU_f hTT hb ?_)
        · rw [hTT]
          have hz := zsi h hq
          refine zR2_hp ?_ ?_ hz
          · first | with_reducible rfl | exact hA0_md_couldBegin _ _ _
          · first | with_reducible rfl | rfl
        · rw [hTT]
          have hz := zsi h hq
          refine (zO_mk ?_ ?_).trans hz
          · first | with_reducible rfl | exact hA0_md_couldBegin _ _ _
          · first | with_reducible rfl | rfl
      · refine zb_el h (fun hb h => zU_t hTT hb ?_) (fun hb h => zU_f hTT hb ?_)
        · rw [hTT]
          have hz := zsi h hq
          refine zR2_hp ?_ ?_ hz
          · first | with_reducible rfl | exact hA0_md_couldBegin _ _ _
          · first | with_reducible rfl | rfl
        · rw [hTT]
          have hz := zsi h hq
          refine (zO_mk ?_ ?_).trans hz
          · first | with_reducible rfl | exact hA0_md_couldBegin _ _ _
          · first | with_reducible rfl | rfl
set_option maxRecDepth 1000000 in
theorem t_md_couldBegin {X : Nat × (Nat → Int32)} {ar fi : Nat → Nat → Int32} {m1 m2 m3 m4 m5 : Nat} {x y : Int32} {Q_md_laysFireFrom : Int32 → (Nat → Int32) → (Nat → Int32) → (Nat → Int32) → Option ((Nat → Int32) × (Nat → Int32))} {G_md_isWood : Int32 → (Nat → Int32) → Bool} {W_md_isWood : Int32 → (Nat → Int32) → Int32} {W_md_in : Int32 → Int32 → Int32 → Int32} : zseg X zFT (zEx 219 (P_md_laysFireFrom Q_md_laysFireFrom) (zEx 152 (P_md_isWood G_md_isWood W_md_isWood) (zEx 143 (P_md_in W_md_in) zE0))) zc_222 (fun p => Nat.beq p 7) 400 0 [.ref 64, .int x, .int y] [] (ar, fi, (m1, m2, m3, m4, m5)) = (
  zl (Q_md_laysFireFrom x (ar 68) (ar 86) (ar 87)) (fun v1 => zg v1.isSome (
  some (.inl (7, [.ref 64, .int x, .int y, .int 0], [], ((zua (zua ar 86 (((zgt v1).1))) 87 (((zgt v1).2))), fi, (m1, m2, m3, m4, m5)))))) : Option ((Nat × List Value × List Value × zH2) ⊕ zO2)) := by with_unfolding_all rfl
set_option maxRecDepth 20000 in
theorem e_md_couldBegin {X : Nat × (Nat → Int32)} {ar fi : Nat → Nat → Int32} {m1 m2 m3 m4 m5 : Nat} {x y : Int32} {o : zO2} : ∀ (q : T_md_couldBegin), q_md_couldBegin x y (ar 65) (ar 68) (ar 86) (ar 87) = some q → (fun t => O_md_couldBegin ar fi m1 m2 m3 m4 m5 t = o) q → zR2 X zFT (zEx 219 S_md_laysFireFrom (zEx 152 S_md_isWood (zEx 143 S_md_in zE0))) zc_222 0 [.ref 64, .int x, .int y] [] (ar, fi, (m1, m2, m3, m4, m5)) o := by
  intro q h hq
  unfold q_md_couldBegin at h
  refine zT_seg t_md_couldBegin ?_
  obtain ⟨TT, hTT⟩ : ∃ T, T = zT X zFT (zEx 219 S_md_laysFireFrom (zEx 152 S_md_isWood (zEx 143 S_md_in zE0))) zc_222 o := ⟨_, rfl⟩
  rw [← hTT]
  refine zbd_el h (fun v1 hv h => zU_c hTT hv ?_)
  rw [hTT]
  refine zR2_hp ?_ ?_ (zlp_K k_md_couldBegin_7 h hq)
  · first | with_reducible rfl | exact hA0_md_couldBegin _ _ _
  · first | with_reducible rfl | rfl
theorem ok_md_couldBegin (X : Nat × (Nat → Int32)) : zOkS X 222 S_md_couldBegin 6 := zOkS_new (zOkE_cons (ok_md_laysFireFrom X) (by decide) (zOkE_cons (ok_md_isWood X) (by decide) (zOkE_cons (ok_md_in X) (by decide) (zOkE_nil X 5)))) (by
  intro args g o h
  obtain ⟨ar, fi, m1, m2, m3, m4, m5⟩ := g
  unfold S_md_couldBegin P_md_couldBegin at h
  split at h
  · refine zb_el h (fun hI0 k0 => ?_) (fun _ h10 => ?_)
    · try simp only [Bool.and_eq_true] at hI0
      have j0 := hI0
      have e0 := Nat.eq_of_beq_eq_true j0
      subst e0
      exact zpe_el k0 (fun t ht ho => by obtain ⟨t0, t1, t2⟩ := t; exact e_md_couldBegin _ ht ho)
    · cases h10
  · cases h)
