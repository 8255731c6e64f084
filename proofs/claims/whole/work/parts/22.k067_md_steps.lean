abbrev T_md_steps : Type := Int32 × (Nat → Int32) × (Nat → Int32)
noncomputable def q_md_steps (x : Int32) (y : Int32) (a68 : Nat → Int32) (a86 : Nat → Int32) (a87 : Nat → Int32) : Option T_md_steps :=
  zg (g_md_isPlace x) (
  zl (w_md_isPlace x) (fun v1 =>
  bif decide (v1 = 0) then
   some ((-1), a86, a87)
  else
   zg (g_md_isPlace y) (
   zl (w_md_isPlace y) (fun v2 =>
   bif !decide (v2 = 0) then
    zg (g_md_isWood x a68) (
    zl (w_md_isWood x a68) (fun v3 =>
    bif decide (v3 = 0) then
     some ((-3), a86, a87)
    else
     zg (g_md_isWood y a68) (
     zl (w_md_isWood y a68) (fun v4 =>
     bif !decide (v4 = 0) then
      zbd (q_md_laysFireFrom x a68 a86 a87) (fun v5 =>
      zg (zin y 96) (
      bif !decide (((v5.1)) (y.toNatClampNeg) = (-1)) then
       zg (zin y 96) (
       some (((v5.1)) (y.toNatClampNeg), ((v5.1)), ((v5.2))))
      else
       some ((-2), ((v5.1)), ((v5.2)))))
     else
      some ((-3), a86, a87)))))
   else
    some ((-1), a86, a87)))))
def P_md_steps (Q : Int32 → Int32 → (Nat → Int32) → (Nat → Int32) → (Nat → Int32) → Option (Int32 × (Nat → Int32) × (Nat → Int32))) : zSp := fun as g => match as with
  | [.ref a, .int x, .int y] => bif Nat.beq a 64 then zpe (Q x y (g.1 68) (g.1 86) (g.1 87)) (fun t => (some (.int (t.1)), ((zua (zua g.1 86 t.2.1) 87 t.2.2), g.2.1, g.2.2))) else none
  | _ => none
noncomputable abbrev S_md_steps : zSp := P_md_steps q_md_steps
theorem hA1_md_steps (F : Nat → Nat → Int32) (w0 w1 : Nat → Int32) : (zua (zua F 86 w0) 87 w1) = (zua (zua F 86 w0) 87 w1) := zuak_ix F [(86, w0), (87, w1)] [(86, some 0), (87, some 1)] rfl
theorem hA0_md_steps (F : Nat → Nat → Int32) : F = (zua (zua F 86 (F 86)) 87 (F 87)) := zuak_ix F [] [(86, none), (87, none)] rfl
def O_md_steps (ar fi : Nat → Nat → Int32) (m1 : Nat) (m2 : Nat) (m3 : Nat) (m4 : Nat) (m5 : Nat) (t : T_md_steps) : zO2 := match t with
  | (t0, t1, t2) => (some (.int (t0)), ((zua (zua ar 86 t1) 87 t2), fi, (m1, m2, m3, m4, m5)))
set_option maxRecDepth 1000000 in
theorem t_md_steps {X : Nat × (Nat → Int32)} {ar fi : Nat → Nat → Int32} {m1 m2 m3 m4 m5 : Nat} {x y : Int32} {G_md_isPlace : Int32 → Bool} {W_md_isPlace : Int32 → Int32} {G_md_isWood : Int32 → (Nat → Int32) → Bool} {W_md_isWood : Int32 → (Nat → Int32) → Int32} {Q_md_laysFireFrom : Int32 → (Nat → Int32) → (Nat → Int32) → (Nat → Int32) → Option ((Nat → Int32) × (Nat → Int32))} : zseg X zFT (zEx 149 (P_md_isPlace G_md_isPlace W_md_isPlace) (zEx 152 (P_md_isWood G_md_isWood W_md_isWood) (zEx 219 (P_md_laysFireFrom Q_md_laysFireFrom) zE0))) zc_221 (fun p => false) 400 0 [.ref 64, .int x, .int y] [] (ar, fi, (m1, m2, m3, m4, m5)) = (
  zg (G_md_isPlace x) (
  zl (W_md_isPlace x) (fun v1 =>
  bif decide (v1 = 0) then
   some (.inr (some (.int (-1)), (ar, fi, (m1, m2, m3, m4, m5))))
  else
   zg (G_md_isPlace y) (
   zl (W_md_isPlace y) (fun v2 =>
   bif !decide (v2 = 0) then
    zg (G_md_isWood x (ar 68)) (
    zl (W_md_isWood x (ar 68)) (fun v3 =>
    bif decide (v3 = 0) then
     some (.inr (some (.int (-3)), (ar, fi, (m1, m2, m3, m4, m5))))
    else
     zg (G_md_isWood y (ar 68)) (
     zl (W_md_isWood y (ar 68)) (fun v4 =>
     bif !decide (v4 = 0) then
      zl (Q_md_laysFireFrom x (ar 68) (ar 86) (ar 87)) (fun v5 => zg v5.isSome (
      zg (Nat.beq 16 16 && (zin y 96)) (
      bif !decide ((((zgt v5).1)) (y.toNatClampNeg) = (-1)) then
       zg (Nat.beq 16 16 && (zin y 96)) (
       some (.inr (some (.int ((((zgt v5).1)) (y.toNatClampNeg))), ((zua (zua ar 86 (((zgt v5).1))) 87 (((zgt v5).2))), fi, (m1, m2, m3, m4, m5)))))
      else
       some (.inr (some (.int (-2)), ((zua (zua ar 86 (((zgt v5).1))) 87 (((zgt v5).2))), fi, (m1, m2, m3, m4, m5)))))))
     else
      some (.inr (some (.int (-3)), (ar, fi, (m1, m2, m3, m4, m5))))))))
   else
    some (.inr (some (.int (-1)), (ar, fi, (m1, m2, m3, m4, m5)))))))) : Option ((Nat × List Value × List Value × zH2) ⊕ zO2)) := by with_unfolding_all rfl
set_option maxRecDepth 20000 in
theorem e_md_steps {X : Nat × (Nat → Int32)} {ar fi : Nat → Nat → Int32} {m1 m2 m3 m4 m5 : Nat} {x y : Int32} {o : zO2} : ∀ (q : T_md_steps), q_md_steps x y (ar 68) (ar 86) (ar 87) = some q → (fun t => O_md_steps ar fi m1 m2 m3 m4 m5 t = o) q → zR2 X zFT (zEx 149 S_md_isPlace (zEx 152 S_md_isWood (zEx 219 S_md_laysFireFrom zE0))) zc_221 0 [.ref 64, .int x, .int y] [] (ar, fi, (m1, m2, m3, m4, m5)) o := by
  intro q h hq
  unfold q_md_steps at h
  refine zT_seg t_md_steps ?_
  obtain ⟨TT, hTT⟩ : ∃ T, T = zT X zFT (zEx 149 S_md_isPlace (zEx 152 S_md_isWood (zEx 219 S_md_laysFireFrom zE0))) zc_221 o := ⟨_, rfl⟩
  rw [← hTT]
  refine zg_el h (fun hg h => zU_g hTT hg ?_)
  refine zl_el h (fun h => zU_l hTT ?_)
  refine zb_el h (fun hb h => zU_t hTT hb ?_) (fun hb h => zU_f hTT hb ?_)
  · rw [hTT]
    have hz := zsi (P := (fun t => O_md_steps ar fi m1 m2 m3 m4 m5 t = o)) h hq
    refine (zO_mk ?_ ?_).trans hz
    · first | with_reducible rfl | exact hA0_md_steps _
    · first | with_reducible rfl | rfl
  · refine zg_el h (fun hg h => zU_g hTT hg ?_)
    refine zl_el h (fun h => zU_l hTT ?_)
    refine zb_el h (fun hb h => zU_t hTT hb ?_) (fun hb h => zU_f hTT hb ?_)
    · refine zg_el h (fun hg h => zU_g hTT hg ?_)
      refine zl_el h (fun h => zU_l hTT ?_)
      refine zb_el h (fun hb h => zU_t hTT hb ?_) (fun hb h => zU_f hTT hb ?_)
      · rw [hTT]
        have hz := zsi (P := (fun t => O_md_steps ar fi m1 m2 m3 m4 m5 t = o)) h hq
        refine (zO_mk ?_ ?_).trans hz
        · first | with_reducible rfl | exact hA0_md_steps _
        · first | with_reducible rfl | rfl
      · refine zg_el h (fun hg h => zU_g hTT hg ?_)
        refine zl_el h (fun h => zU_l hTT ?_)
        refine zb_el h (fun hb h => zU_t hTT hb ?_) (fun hb h => zU_f hTT hb ?_)
        · refine zbd_el h (fun v5 hv h => zU_c hTT hv ?_)
          refine zg_el h (fun hg h => zU_ga hTT hg ?_)
          refine zb_el h (fun hb h => zU_t hTT hb ?_) (fun hb h => zU_f hTT hb ?_)
          · refine zg_el h (fun hg h => zU_ga hTT hg ?_)
            rw [hTT]
            have hz := zsi (P := (fun t => O_md_steps ar fi m1 m2 m3 m4 m5 t = o)) h hq
            refine (zO_mk ?_ ?_).trans hz
            · first | with_reducible rfl | exact hA1_md_steps _ _ _
            · first | with_reducible rfl | rfl
          · rw [hTT]
            have hz := zsi (P := (fun t => O_md_steps ar fi m1 m2 m3 m4 m5 t = o)) h hq
            refine (zO_mk ?_ ?_).trans hz
            · first | with_reducible rfl | exact hA1_md_steps _ _ _
            · first | with_reducible rfl | rfl
        · rw [hTT]
          have hz := zsi (P := (fun t => O_md_steps ar fi m1 m2 m3 m4 m5 t = o)) h hq
          refine (zO_mk ?_ ?_).trans hz
          · first | with_reducible rfl | exact hA0_md_steps _
          · first | with_reducible rfl | rfl
    · rw [hTT]
      have hz := zsi (P := (fun t => O_md_steps ar fi m1 m2 m3 m4 m5 t = o)) h hq
      refine (zO_mk ?_ ?_).trans hz
      · first | with_reducible rfl | exact hA0_md_steps _
      · first | with_reducible rfl | rfl
theorem ok_md_steps (X : Nat × (Nat → Int32)) : zOkS X 221 S_md_steps 6 := zOkS_new (zOkE_cons (ok_md_isPlace X) (by decide) (zOkE_cons (ok_md_isWood X) (by decide) (zOkE_cons (ok_md_laysFireFrom X) (by decide) (zOkE_nil X 5)))) (by
  intro args g o h
  obtain ⟨ar, fi, m1, m2, m3, m4, m5⟩ := g
  unfold S_md_steps P_md_steps at h
  split at h
  · refine zb_el h (fun hI0 k0 => ?_) (fun _ h10 => ?_)
    · try simp only [Bool.and_eq_true] at hI0
      have j0 := hI0
      have e0 := Nat.eq_of_beq_eq_true j0
      subst e0
      exact zpe_el k0 (fun t ht ho => by obtain ⟨t0, t1, t2⟩ := t; exact e_md_steps _ ht ho)
    · cases h10
  · cases h)
