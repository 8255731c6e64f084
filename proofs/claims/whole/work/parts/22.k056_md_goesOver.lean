abbrev T_md_goesOver : Type := (Nat → Int32) × (Nat → Int32) × (Nat → Int32)
noncomputable def q_md_goesOver (x : Int32) (y : Int32) (a65 : Nat → Int32) (a68 : Nat → Int32) (a77 : Nat → Int32) (a78 : Nat → Int32) (a79 : Nat → Int32) (a80 : Nat → Int32) (a81 : Nat → Int32) (a82 : Nat → Int32) (a83 : Nat → Int32) (f64_15 : Int32) : Option T_md_goesOver :=
  zl (w_md_beside x y) (fun v1 =>
  zg (g_md_isWood v1 a68) (
  zl (w_md_isWood v1 a68) (fun v2 =>
  bif decide (v2 = 0) then
   some (a65, a82, a83)
  else
   zg (zin (0 + v1) 315) (
   bif decide (a65 ((0 + v1).toNatClampNeg) = 0) then
    zg (zin (96 + x) 315) (
    zg (g_md_feels v1 (a65 ((96 + x).toNatClampNeg)) y 0 a65 a83) (
    zl (a0_md_feels v1 (a65 ((96 + x).toNatClampNeg)) y 0 a65 a83) (fun v3 =>
    zbd (q_md_byLaw 115 0 10 a77 a78 a79 a80 a81 a82 v3 (f64_15)) (fun v4 =>
    zg (g_md_draws a65) (
    zl (w_md_draws a65) (fun v5 =>
    zl (a0_md_draws a65) (fun v6 =>
    bif decide (v5 < (v4.1)) then
     zg (g_md_feels v1 0 0 0 v6 v3) (
     zl (a0_md_feels v1 0 0 0 v6 v3) (fun v7 =>
     zbd (q_md_byLaw 98 1 9 a77 a78 a79 a80 a81 ((v4.2)) v7 (f64_15)) (fun v8 =>
     zg (zin (96 + v1) 315) (
     zg (zin (0 + v1) 315) (
     some ((zup (zup v6 ((96 + v1).toNatClampNeg) ((v8.1))) ((0 + v1).toNatClampNeg) 1), ((v8.2)), v7))))))
    else
     some (v6, ((v4.2)), v3))))))))
   else
    some (a65, a82, a83)))))
def P_md_goesOver (Q : Int32 → Int32 → (Nat → Int32) → (Nat → Int32) → (Nat → Int32) → (Nat → Int32) → (Nat → Int32) → (Nat → Int32) → (Nat → Int32) → (Nat → Int32) → (Nat → Int32) → Int32 → Option ((Nat → Int32) × (Nat → Int32) × (Nat → Int32))) : zSp := fun as g => match as with
  | [.ref a, .int x, .int y] => bif Nat.beq a 64 then zpe (Q x y (g.1 65) (g.1 68) (g.1 77) (g.1 78) (g.1 79) (g.1 80) (g.1 81) (g.1 82) (g.1 83) (g.2.1 64 15)) (fun t => (none, ((zua (zua (zua g.1 65 t.1) 82 t.2.1) 83 t.2.2), g.2.1, g.2.2))) else none
  | _ => none
noncomputable abbrev S_md_goesOver : zSp := P_md_goesOver q_md_goesOver
theorem hA2_md_goesOver (F : Nat → Nat → Int32) (w0 w1 w2 : Nat → Int32) : (zua (zua (zua F 83 w0) 82 w1) 65 w2) = (zua (zua (zua F 65 w2) 82 w1) 83 w0) := zuak_ix F [(83, w0), (82, w1), (65, w2)] [(65, some 2), (82, some 1), (83, some 0)] rfl
theorem hA1_md_goesOver (F : Nat → Nat → Int32) (w0 w1 w2 w3 w4 w5 w6 : Nat → Int32) : (zua (zua (zua (zua (zua (zua (zua F 83 w0) 82 w1) 65 w2) 83 w3) 82 w4) 65 w5) 65 w6) = (zua (zua (zua F 65 w6) 82 w4) 83 w3) := zuak_ix F [(83, w0), (82, w1), (65, w2), (83, w3), (82, w4), (65, w5), (65, w6)] [(65, some 6), (82, some 4), (83, some 3)] rfl
theorem hA0_md_goesOver (F : Nat → Nat → Int32) : F = (zua (zua (zua F 65 (F 65)) 82 (F 82)) 83 (F 83)) := zuak_ix F [] [(65, none), (82, none), (83, none)] rfl
def O_md_goesOver (ar fi : Nat → Nat → Int32) (m1 : Nat) (m2 : Nat) (m3 : Nat) (m4 : Nat) (m5 : Nat) (t : T_md_goesOver) : zO2 := match t with
  | (t0, t1, t2) => (none, ((zua (zua (zua ar 65 t0) 82 t1) 83 t2), fi, (m1, m2, m3, m4, m5)))
set_option maxRecDepth 1000000 in
theorem t_md_goesOver {X : Nat × (Nat → Int32)} {ar fi : Nat → Nat → Int32} {m1 m2 m3 m4 m5 : Nat} {x y : Int32} {W_md_beside : Int32 → Int32 → Int32} {G_md_isWood : Int32 → (Nat → Int32) → Bool} {W_md_isWood : Int32 → (Nat → Int32) → Int32} {G_md_feels : Int32 → Int32 → Int32 → Int32 → (Nat → Int32) → (Nat → Int32) → Bool} {A0_md_feels : Int32 → Int32 → Int32 → Int32 → (Nat → Int32) → (Nat → Int32) → Nat → Int32} {Q_md_byLaw : Int32 → Int32 → Int32 → (Nat → Int32) → (Nat → Int32) → (Nat → Int32) → (Nat → Int32) → (Nat → Int32) → (Nat → Int32) → (Nat → Int32) → Int32 → Option (Int32 × (Nat → Int32))} {G_md_draws : (Nat → Int32) → Bool} {W_md_draws : (Nat → Int32) → Int32} {A0_md_draws : (Nat → Int32) → Nat → Int32} : zseg X zFT (zEx 151 (P_md_beside W_md_beside) (zEx 152 (P_md_isWood G_md_isWood W_md_isWood) (zEx 200 (P_md_feels G_md_feels A0_md_feels) (zEx 182 (P_md_byLaw Q_md_byLaw) (zEx 201 (P_md_draws G_md_draws W_md_draws A0_md_draws) zE0))))) zc_203 (fun p => false) 400 0 [.ref 64, .int x, .int y] [] (ar, fi, (m1, m2, m3, m4, m5)) = (
  zl (W_md_beside x y) (fun v1 =>
  zg (G_md_isWood v1 (ar 68)) (
  zl (W_md_isWood v1 (ar 68)) (fun v2 =>
  bif decide (v2 = 0) then
   some (.inr (none, (ar, fi, (m1, m2, m3, m4, m5))))
  else
   zg (Nat.beq 16 16 && (zin (0 + v1) 315)) (
   bif decide ((ar 65) ((0 + v1).toNatClampNeg) = 0) then
    zg (Nat.beq 16 16 && (zin (96 + x) 315)) (
    zg (G_md_feels v1 ((ar 65) ((96 + x).toNatClampNeg)) y 0 (ar 65) (ar 83)) (
    zl (A0_md_feels v1 ((ar 65) ((96 + x).toNatClampNeg)) y 0 (ar 65) (ar 83)) (fun v3 =>
    zl (Q_md_byLaw 115 0 10 (ar 77) (ar 78) (ar 79) (ar 80) (ar 81) (ar 82) v3 (fi 64 15)) (fun v4 => zg v4.isSome (
    zg (G_md_draws (ar 65)) (
    zl (W_md_draws (ar 65)) (fun v5 =>
    zl (A0_md_draws (ar 65)) (fun v6 =>
    bif decide (v5 < ((zgt v4).1)) then
     zg (G_md_feels v1 0 0 0 v6 v3) (
     zl (A0_md_feels v1 0 0 0 v6 v3) (fun v7 =>
     zl (Q_md_byLaw 98 1 9 (ar 77) (ar 78) (ar 79) (ar 80) (ar 81) (((zgt v4).2)) v7 (fi 64 15)) (fun v8 => zg v8.isSome (
     zg (Nat.beq 16 16 && (zin (96 + v1) 315)) (
     zg (Nat.beq 16 16 && (zin (0 + v1) 315)) (
     some (.inr (none, ((zua (zua (zua (zua (zua (zua (zua ar 83 v3) 82 (((zgt v4).2))) 65 v6) 83 v7) 82 (((zgt v8).2))) 65 (zup v6 ((96 + v1).toNatClampNeg) (((zgt v8).1)))) 65 (zup (zup v6 ((96 + v1).toNatClampNeg) (((zgt v8).1))) ((0 + v1).toNatClampNeg) 1)), fi, (m1, m2, m3, m4, m5))))))))))
    else
     some (.inr (none, ((zua (zua (zua ar 83 v3) 82 (((zgt v4).2))) 65 v6), fi, (m1, m2, m3, m4, m5))))))))))))
   else
    some (.inr (none, (ar, fi, (m1, m2, m3, m4, m5)))))))) : Option ((Nat × List Value × List Value × zH2) ⊕ zO2)) := by with_unfolding_all rfl
set_option maxRecDepth 20000 in
theorem e_md_goesOver {X : Nat × (Nat → Int32)} {ar fi : Nat → Nat → Int32} {m1 m2 m3 m4 m5 : Nat} {x y : Int32} {o : zO2} : ∀ (q : T_md_goesOver), q_md_goesOver x y (ar 65) (ar 68) (ar 77) (ar 78) (ar 79) (ar 80) (ar 81) (ar 82) (ar 83) (fi 64 15) = some q → (fun t => O_md_goesOver ar fi m1 m2 m3 m4 m5 t = o) q → zR2 X zFT (zEx 151 S_md_beside (zEx 152 S_md_isWood (zEx 200 S_md_feels (zEx 182 S_md_byLaw (zEx 201 S_md_draws zE0))))) zc_203 0 [.ref 64, .int x, .int y] [] (ar, fi, (m1, m2, m3, m4, m5)) o := by
  intro q h hq
  unfold q_md_goesOver at h
  refine zT_seg t_md_goesOver ?_
  obtain ⟨TT, hTT⟩ : ∃ T, T = zT X zFT (zEx 151 S_md_beside (zEx 152 S_md_isWood (zEx 200 S_md_feels (zEx 182 S_md_byLaw (zEx 201 S_md_draws zE0))))) zc_203 o := ⟨_, rfl⟩
  rw [← hTT]
  refine zl_el h (fun h => zU_l hTT ?_)
  refine zg_el h (fun hg h => zU_g hTT hg ?_)
  refine zl_el h (fun h => zU_l hTT ?_)
  refine zb_el h (fun hb h => zU_t hTT hb ?_) (fun hb h => zU_f hTT hb ?_)
  · rw [hTT]
    have hz := zsi (P := (fun t => O_md_goesOver ar fi m1 m2 m3 m4 m5 t = o)) h hq
    refine (zO_mk ?_ ?_).trans hz
    · first | with_reducible rfl | exact hA0_md_goesOver _
    · first | with_reducible rfl | rfl
  · refine zg_el h (fun hg h => zU_ga hTT hg ?_)
    refine zb_el h (fun hb h => zU_t hTT hb ?_) (fun hb h => zU_f hTT hb ?_)
    · refine zg_el h (fun hg h => zU_ga hTT hg ?_)
      refine zg_el h (fun hg h => zU_g hTT hg ?_)
      refine zl_el h (fun h => zU_l hTT ?_)
      refine zbd_el h (fun v4 hv h => zU_c hTT hv ?_)
      refine zg_el h (fun hg h => zU_g hTT hg ?_)
      refine zl_el h (fun h => zU_l hTT ?_)
      refine zl_el h (fun h => zU_l hTT ?_)
      refine zb_el h (fun hb h => zU_t hTT hb ?_) (fun hb h => zU_f hTT hb ?_)
      · refine zg_el h (fun hg h => zU_g hTT hg ?_)
        refine zl_el h (fun h => zU_l hTT ?_)
        refine zbd_el h (fun v8 hv h => zU_c hTT hv ?_)
        refine zg_el h (fun hg h => zU_ga hTT hg ?_)
        refine zg_el h (fun hg h => zU_ga hTT hg ?_)
        rw [hTT]
        have hz := zsi (P := (fun t => O_md_goesOver ar fi m1 m2 m3 m4 m5 t = o)) h hq
        refine (zO_mk ?_ ?_).trans hz
        · first | with_reducible rfl | exact hA1_md_goesOver _ _ _ _ _ _ _ _
        · first | with_reducible rfl | rfl
      · rw [hTT]
        have hz := zsi (P := (fun t => O_md_goesOver ar fi m1 m2 m3 m4 m5 t = o)) h hq
        refine (zO_mk ?_ ?_).trans hz
        · first | with_reducible rfl | exact hA2_md_goesOver _ _ _ _
        · first | with_reducible rfl | rfl
    · rw [hTT]
      have hz := zsi (P := (fun t => O_md_goesOver ar fi m1 m2 m3 m4 m5 t = o)) h hq
      refine (zO_mk ?_ ?_).trans hz
      · first | with_reducible rfl | exact hA0_md_goesOver _
      · first | with_reducible rfl | rfl
theorem ok_md_goesOver (X : Nat × (Nat → Int32)) : zOkS X 203 S_md_goesOver 6 := zOkS_new (zOkE_cons (ok_md_beside X) (by decide) (zOkE_cons (ok_md_isWood X) (by decide) (zOkE_cons (ok_md_feels X) (by decide) (zOkE_cons (ok_md_byLaw X) (by decide) (zOkE_cons (ok_md_draws X) (by decide) (zOkE_nil X 5)))))) (by
  intro args g o h
  obtain ⟨ar, fi, m1, m2, m3, m4, m5⟩ := g
  unfold S_md_goesOver P_md_goesOver at h
  split at h
  · refine zb_el h (fun hI0 k0 => ?_) (fun _ h10 => ?_)
    · try simp only [Bool.and_eq_true] at hI0
      have j0 := hI0
      have e0 := Nat.eq_of_beq_eq_true j0
      subst e0
      exact zpe_el k0 (fun t ht ho => by obtain ⟨t0, t1, t2⟩ := t; exact e_md_goesOver _ ht ho)
    · cases h10
  · cases h)
