abbrev T_md_goesOver : Type := (Nat → Int32) × (Nat → Int32) × (Nat → Int32)
noncomputable def q_md_goesOver (x : Int32) (y : Int32) (a65 : Nat → Int32) (a68 : Nat → Int32) (a77 : Nat → Int32) (a78 : Nat → Int32) (a79 : Nat → Int32) (a80 : Nat → Int32) (a81 : Nat → Int32) (a82 : Nat → Int32) (a83 : Nat → Int32) (f64_15 : Int32) : Option T_md_goesOver :=
  zl (w_md_beside x y) (fun v1 =>
  zg (g_md_isWood v1 a68) (
  zl (w_md_isWood v1 a68) (fun v2 =>
  bif decide (v2 = 0) then
   some (a65, a82, a83)
  else
   zg (zin (0 + v1) 315) (
   bif decide (a65 ((0 + v1).toNatClampNeg) = 0) then
    zg (zin (96 + x) 315) (
    zg (g_md_feels v1 (a65 ((96 + x).toNatClampNeg)) y 0 a65 a83) (
    zl (a0_md_feels v1 (a65 ((96 + x).toNatClampNeg)) y 0 a65 a83) (fun v3 =>
    zbd (q_md_byLaw 115 0 10 a77 a78 a79 a80 a81 a82 v3 (f64_15)) (fun v4 =>
    zg (g_md_draws a65) (
    zl (w_md_draws a65) (fun v5 =>
    zl (a0_md_draws a65) (fun v6 =>
    bif decide (v5 < (v4.1)) then
     zg (g_md_feels v1 0 0 0 v6 v3) (
     zl (a0_md_feels v1 0 0 0 v6 v3) (fun v7 =>
     zbd (q_md_byLaw 98 1 9 a77 a78 a79 a80 a81 ((v4.2)) v7 (f64_15)) (fun v8 =>
     zg (zin (96 + v1) 315) (
     zg (zin (0 + v1) 315) (
     some ((zup (zup v6 ((96 + v1).toNatClampNeg) ((v8.1))) ((0 + v1).toNatClampNeg) 1), ((v8.2)), v7))))))
    else
     some (v6, ((v4.2)), v3))))))))
   else
    some (a65, a82, a83)))))
def P_md_goesOver (Q : Int32 → Int32 → (Nat → Int32) → (Nat → Int32) → (Nat → Int32) → (Nat → Int32) → (Nat → Int32) → (Nat → Int32) → (Nat → Int32) → (Nat → Int32) → (Nat → Int32) → Int32 → Option ((Nat → Int32) × (Nat → Int32) × (Nat → Int32))) : zSp := fun as g => match as with
  | [.ref a, .int x, .int y] => bif Nat.beq a 64 then zpe (Q x y (g.1 65) (g.1 68) (g.1 77) (g.1 78) (g.1 79) (g.1 80) (g.1 81) (g.1 82) (g.1 83) (g.2.1 64 15)) (fun t => (none, ((zua (zua (zua g.1 65 t.1) 82 t.2.1) 83 t.2.2), g.2.1, g.2.2))) else none
  | _ => none
noncomputable abbrev S_md_goesOver : zSp := P_md_goesOver q_md_goesOver
def O_md_goesOver (ar fi : Nat → Nat → Int32) (m1 : Nat) (m2 : Nat) (m3 : Nat) (m4 : Nat) (m5 : Nat) (t : T_md_goesOver) : zO2 := (none, ((zua (zua (zua ar 65 t.1) 82 t.2.1) 83 t.2.2), fi, (m1, m2, m3, m4, m5)))
set_option maxRecDepth 20000 in
theorem t_md_goesOver {X : Nat × (Nat → Int32)} {ar fi : Nat → Nat → Int32} {m1 m2 m3 m4 m5 : Nat} {x y : Int32} {W_md_beside : Int32 → Int32 → Int32} {G_md_isWood : Int32 → (Nat → Int32) → Bool} {W_md_isWood : Int32 → (Nat → Int32) → Int32} {G_md_feels : Int32 → Int32 → Int32 → Int32 → (Nat → Int32) → (Nat → Int32) → Bool} {A0_md_feels : Int32 → Int32 → Int32 → Int32 → (Nat → Int32) → (Nat → Int32) → Nat → Int32} {Q_md_byLaw : Int32 → Int32 → Int32 → (Nat → Int32) → (Nat → Int32) → (Nat → Int32) → (Nat → Int32) → (Nat → Int32) → (Nat → Int32) → (Nat → Int32) → Int32 → Option (Int32 × (Nat → Int32))} {G_md_draws : (Nat → Int32) → Bool} {W_md_draws : (Nat → Int32) → Int32} {A0_md_draws : (Nat → Int32) → Nat → Int32} : zseg X zFT (zEx 151 (P_md_beside W_md_beside) (zEx 152 (P_md_isWood G_md_isWood W_md_isWood) (zEx 200 (P_md_feels G_md_feels A0_md_feels) (zEx 182 (P_md_byLaw Q_md_byLaw) (zEx 201 (P_md_draws G_md_draws W_md_draws A0_md_draws) zE0))))) zc_203 (fun p => false) 400 0 [.ref 64, .int x, .int y] [] (ar, fi, (m1, m2, m3, m4, m5)) = (
  zl (W_md_beside x y) (fun v1 =>
  zg (G_md_isWood v1 (ar 68)) (
  zl (W_md_isWood v1 (ar 68)) (fun v2 =>
  bif decide (v2 = 0) then
   some (.inr (none, (ar, fi, (m1, m2, m3, m4, m5))))
  else
   zg (zin (0 + v1) 315) (
   bif decide ((ar 65) ((0 + v1).toNatClampNeg) = 0) then
    zg (zin (96 + x) 315) (
    zg (G_md_feels v1 ((ar 65) ((96 + x).toNatClampNeg)) y 0 (ar 65) (ar 83)) (
    zl (A0_md_feels v1 ((ar 65) ((96 + x).toNatClampNeg)) y 0 (ar 65) (ar 83)) (fun v3 =>
    zl (Q_md_byLaw 115 0 10 (ar 77) (ar 78) (ar 79) (ar 80) (ar 81) (ar 82) v3 (fi 64 15)) (fun v4 => zg v4.isSome (
    zg (G_md_draws (ar 65)) (
    zl (W_md_draws (ar 65)) (fun v5 =>
    zl (A0_md_draws (ar 65)) (fun v6 =>
    bif decide (v5 < ((zgt v4).1)) then
     zg (G_md_feels v1 0 0 0 v6 v3) (
     zl (A0_md_feels v1 0 0 0 v6 v3) (fun v7 =>
     zl (Q_md_byLaw 98 1 9 (ar 77) (ar 78) (ar 79) (ar 80) (ar 81) (((zgt v4).2)) v7 (fi 64 15)) (fun v8 => zg v8.isSome (
     zg (zin (96 + v1) 315) (
     zg (zin (0 + v1) 315) (
     some (.inr (none, ((zua (zua (zua (zua (zua (zua (zua ar 83 v3) 82 (((zgt v4).2))) 65 v6) 83 v7) 82 (((zgt v8).2))) 65 (zup v6 ((96 + v1).toNatClampNeg) (((zgt v8).1)))) 65 (zup (zup v6 ((96 + v1).toNatClampNeg) (((zgt v8).1))) ((0 + v1).toNatClampNeg) 1)), fi, (m1, m2, m3, m4, m5))))))))))
    else
     some (.inr (none, ((zua (zua (zua ar 83 v3) 82 (((zgt v4).2))) 65 v6), fi, (m1, m2, m3, m4, m5))))))))))))
   else
    some (.inr (none, (ar, fi, (m1, m2, m3, m4, m5)))))))) : Option ((Nat × List Value × List Value × zH2) ⊕ zO2)) := rfl
theorem e_md_goesOver {X : Nat × (Nat → Int32)} {ar fi : Nat → Nat → Int32} {m1 m2 m3 m4 m5 : Nat} {x y : Int32} {o : zO2} : ∀ (q : T_md_goesOver), q_md_goesOver x y (ar 65) (ar 68) (ar 77) (ar 78) (ar 79) (ar 80) (ar 81) (ar 82) (ar 83) (fi 64 15) = some q → (fun t => O_md_goesOver ar fi m1 m2 m3 m4 m5 t = o) q → zR2 X zFT (zEx 151 S_md_beside (zEx 152 S_md_isWood (zEx 200 S_md_feels (zEx 182 S_md_byLaw (zEx 201 S_md_draws zE0))))) zc_203 0 [.ref 64, .int x, .int y] [] (ar, fi, (m1, m2, m3, m4, m5)) o := by
  intro q h hq
  unfold q_md_goesOver at h
  refine zT_seg t_md_goesOver ?_
  refine zl_el h (fun h => zT_l ?_)
  refine zg_el h (fun hg h => zT_g hg ?_)
  refine zl_el h (fun h => zT_l ?_)
  refine zb_el h (fun hb h => zT_t hb ?_) (fun hb h => zT_f hb ?_)
  · have hz := zsi h hq
    refine (zO_mk ?_ ?_).trans hz
    · first | with_reducible rfl | (exact zuas_eq _ [] [(65, _), (82, _), (83, _)] [65, 82, 83] rfl rfl ⟨rfl, rfl, rfl, trivial⟩)
    · first | with_reducible rfl | (rfl)
  · refine zg_el h (fun hg h => zT_g hg ?_)
    refine zb_el h (fun hb h => zT_t hb ?_) (fun hb h => zT_f hb ?_)
    · refine zg_el h (fun hg h => zT_g hg ?_)
      refine zg_el h (fun hg h => zT_g hg ?_)
      refine zl_el h (fun h => zT_l ?_)
      refine zbd_el h (fun v4 hv h => zT_c hv ?_)
      refine zg_el h (fun hg h => zT_g hg ?_)
      refine zl_el h (fun h => zT_l ?_)
      refine zl_el h (fun h => zT_l ?_)
      refine zb_el h (fun hb h => zT_t hb ?_) (fun hb h => zT_f hb ?_)
      · refine zg_el h (fun hg h => zT_g hg ?_)
        refine zl_el h (fun h => zT_l ?_)
        refine zbd_el h (fun v8 hv h => zT_c hv ?_)
        refine zg_el h (fun hg h => zT_g hg ?_)
        refine zg_el h (fun hg h => zT_g hg ?_)
        have hz := zsi h hq
        refine (zO_mk ?_ ?_).trans hz
        · first | with_reducible rfl | (exact zuas_eq _ [(83, _), (82, _), (65, _), (83, _), (82, _), (65, _), (65, _)] [(65, _), (82, _), (83, _)] [65, 82, 83] rfl rfl ⟨rfl, rfl, rfl, trivial⟩)
        · first | with_reducible rfl | (rfl)
      · have hz := zsi h hq
        refine (zO_mk ?_ ?_).trans hz
        · first | with_reducible rfl | (exact zuas_eq _ [(83, _), (82, _), (65, _)] [(65, _), (82, _), (83, _)] [65, 82, 83] rfl rfl ⟨rfl, rfl, rfl, trivial⟩)
        · first | with_reducible rfl | (rfl)
    · have hz := zsi h hq
      refine (zO_mk ?_ ?_).trans hz
      · first | with_reducible rfl | (exact zuas_eq _ [] [(65, _), (82, _), (83, _)] [65, 82, 83] rfl rfl ⟨rfl, rfl, rfl, trivial⟩)
      · first | with_reducible rfl | (rfl)
theorem ok_md_goesOver (X : Nat × (Nat → Int32)) : zOkS X 203 S_md_goesOver 6 := zOkS_new (zOkE_cons (ok_md_beside X) (by decide) (zOkE_cons (ok_md_isWood X) (by decide) (zOkE_cons (ok_md_feels X) (by decide) (zOkE_cons (ok_md_byLaw X) (by decide) (zOkE_cons (ok_md_draws X) (by decide) (zOkE_nil X 5)))))) (by
  intro args g o h
  obtain ⟨ar, fi, m1, m2, m3, m4, m5⟩ := g
  unfold S_md_goesOver P_md_goesOver at h
  split at h
  · refine zb_el h (fun hI0 k0 => ?_) (fun _ h10 => ?_)
    · try simp only [Bool.and_eq_true] at hI0
      have j0 := hI0
      have e0 := Nat.eq_of_beq_eq_true j0
      subst e0
      exact zpe_el k0 (fun t ht ho => e_md_goesOver t ht ho)
    · cases h10
  · cases h)
abbrev T_md_turnOf : Type := (Nat → Int32) × (Nat → Int32) × (Nat → Int32) × Int32
abbrev U_md_turnOf_7 : Type := Int32 × (Nat → Int32) × (Nat → Int32) × (Nat → Int32)
noncomputable def b_md_turnOf_7 (x : Int32) (a68 : Nat → Int32) (a77 : Nat → Int32) (a78 : Nat → Int32) (a79 : Nat → Int32) (a80 : Nat → Int32) (a81 : Nat → Int32) (f64_15 : Int32) (c64_34 : Int32) (l2 : Int32) (b65 : Nat → Int32) (b82 : Nat → Int32) (b83 : Nat → Int32) : Option (U_md_turnOf_7 ⊕ T_md_turnOf) :=
  bif decide (4 ≤ l2) then
   zg (zin (96 + x) 315) (
   zg (g_md_draws b65) (
   zl (w_md_draws b65) (fun v3 =>
   zl (a0_md_draws b65) (fun v4 =>
   zg (g_md_feels x (b65 ((96 + x).toNatClampNeg)) 0 v3 v4 b83) (
   zl (a0_md_feels x (b65 ((96 + x).toNatClampNeg)) 0 v3 v4 b83) (fun v5 =>
   zbd (q_md_holdsAny 120 a77 a78 a80 a81 b82 v5 (f64_15)) (fun v6 =>
   bif decide ((v6.1) = 0) then
    zg (zin (96 + x) 315) (
    zg (zin (96 + x) 315) (
    zg (zin (96 + x) 315) (
    bif !decide ((zup v4 ((96 + x).toNatClampNeg) ((v4 ((96 + x).toNatClampNeg)) - 1)) ((96 + x).toNatClampNeg) = 0) then
     some (.inr ((zup v4 ((96 + x).toNatClampNeg) ((v4 ((96 + x).toNatClampNeg)) - 1)), ((v6.2)), v5, c64_34))
    else
     zg (zin (0 + x) 315) (
     some (.inr ((zup (zup v4 ((96 + x).toNatClampNeg) ((v4 ((96 + x).toNatClampNeg)) - 1)) ((0 + x).toNatClampNeg) 2), ((v6.2)), v5, c64_34))))))
   else
    zg (zin (96 + x) 315) (
    zg (zin (96 + x) 315) (
    bif !decide ((zup v4 ((96 + x).toNatClampNeg) 0) ((96 + x).toNatClampNeg) = 0) then
     some (.inr ((zup v4 ((96 + x).toNatClampNeg) 0), ((v6.2)), v5, c64_34))
    else
     zg (zin (0 + x) 315) (
     some (.inr ((zup (zup v4 ((96 + x).toNatClampNeg) 0) ((0 + x).toNatClampNeg) 2), ((v6.2)), v5, c64_34))))))))))))
  else
   zbd (q_md_goesOver x l2 b65 a68 a77 a78 a79 a80 a81 b82 b83 (f64_15)) (fun v7 =>
   some (.inl (l2 + 1, ((v7.1)), ((v7.2.1)), ((v7.2.2)))))
noncomputable def f_md_turnOf_7 (x : Int32) (a68 : Nat → Int32) (a77 : Nat → Int32) (a78 : Nat → Int32) (a79 : Nat → Int32) (a80 : Nat → Int32) (a81 : Nat → Int32) (f64_15 : Int32) (c64_34 : Int32) : U_md_turnOf_7 → Option (U_md_turnOf_7 ⊕ T_md_turnOf) := fun s => b_md_turnOf_7 x a68 a77 a78 a79 a80 a81 f64_15 c64_34 s.1 s.2.1 s.2.2.1 s.2.2.2
noncomputable def l_md_turnOf_7 (x : Int32) (a68 : Nat → Int32) (a77 : Nat → Int32) (a78 : Nat → Int32) (a79 : Nat → Int32) (a80 : Nat → Int32) (a81 : Nat → Int32) (f64_15 : Int32) (c64_34 : Int32) (l2 : Int32) (b65 : Nat → Int32) (b82 : Nat → Int32) (b83 : Nat → Int32) : Option T_md_turnOf := zlp (f_md_turnOf_7 x a68 a77 a78 a79 a80 a81 f64_15 c64_34) (l2, b65, b82, b83)
noncomputable def q_md_turnOf (x : Int32) (a65 : Nat → Int32) (a68 : Nat → Int32) (a77 : Nat → Int32) (a78 : Nat → Int32) (a79 : Nat → Int32) (a80 : Nat → Int32) (a81 : Nat → Int32) (a82 : Nat → Int32) (a83 : Nat → Int32) (f64_15 : Int32) (f64_34 : Int32) : Option T_md_turnOf :=
  zl (a0_md_takesThings x a65 (f64_34)) (fun v1 =>
  zl (f0_md_takesThings x a65 (f64_34)) (fun v2 =>
  l_md_turnOf_7 x a68 a77 a78 a79 a80 a81 f64_15 v2 0 v1 a82 a83))
def P_md_turnOf (Q : Int32 → (Nat → Int32) → (Nat → Int32) → (Nat → Int32) → (Nat → Int32) → (Nat → Int32) → (Nat → Int32) → (Nat → Int32) → (Nat → Int32) → (Nat → Int32) → Int32 → Int32 → Option ((Nat → Int32) × (Nat → Int32) × (Nat → Int32) × Int32)) : zSp := fun as g => match as with
  | [.ref a, .int x] => bif Nat.beq a 64 then zpe (Q x (g.1 65) (g.1 68) (g.1 77) (g.1 78) (g.1 79) (g.1 80) (g.1 81) (g.1 82) (g.1 83) (g.2.1 64 15) (g.2.1 64 34)) (fun t => (none, ((zua (zua (zua g.1 65 t.1) 82 t.2.1) 83 t.2.2.1), (zuf g.2.1 64 34 t.2.2.2), g.2.2))) else none
  | _ => none
noncomputable abbrev S_md_turnOf : zSp := P_md_turnOf q_md_turnOf
def O_md_turnOf (ar fi : Nat → Nat → Int32) (m1 : Nat) (m2 : Nat) (m3 : Nat) (m4 : Nat) (m5 : Nat) (t : T_md_turnOf) : zO2 := (none, ((zua (zua (zua ar 65 t.1) 82 t.2.1) 83 t.2.2.1), (zuf fi 64 34 t.2.2.2), (m1, m2, m3, m4, m5)))
def M_md_turnOf_7 (X : Nat × (Nat → Int32)) (E : zTE) (ar fi : Nat → Nat → Int32) (m1 : Nat) (m2 : Nat) (m3 : Nat) (m4 : Nat) (m5 : Nat) (x : Int32) (c64_34 : Int32) (o : zO2) (s : U_md_turnOf_7) : Prop := zR2 X zFT E zc_204 7 [.ref 64, .int x, .int s.1] [] ((zua (zua (zua ar 65 s.2.1) 82 s.2.2.1) 83 s.2.2.2), (zuf fi 64 34 c64_34), (m1, m2, m3, m4, m5)) o
set_option maxRecDepth 20000 in
theorem t7_md_turnOf {X : Nat × (Nat → Int32)} {ar fi : Nat → Nat → Int32} {m1 m2 m3 m4 m5 : Nat} {x : Int32} {l2 : Int32} {b65 : Nat → Int32} {b82 : Nat → Int32} {b83 : Nat → Int32} {c64_34 : Int32} {A0_md_takesThings : Int32 → (Nat → Int32) → Int32 → Nat → Int32} {F0_md_takesThings : Int32 → (Nat → Int32) → Int32 → Int32} {Q_md_goesOver : Int32 → Int32 → (Nat → Int32) → (Nat → Int32) → (Nat → Int32) → (Nat → Int32) → (Nat → Int32) → (Nat → Int32) → (Nat → Int32) → (Nat → Int32) → (Nat → Int32) → Int32 → Option ((Nat → Int32) × (Nat → Int32) × (Nat → Int32))} {G_md_draws : (Nat → Int32) → Bool} {W_md_draws : (Nat → Int32) → Int32} {A0_md_draws : (Nat → Int32) → Nat → Int32} {G_md_feels : Int32 → Int32 → Int32 → Int32 → (Nat → Int32) → (Nat → Int32) → Bool} {A0_md_feels : Int32 → Int32 → Int32 → Int32 → (Nat → Int32) → (Nat → Int32) → Nat → Int32} {Q_md_holdsAny : Int32 → (Nat → Int32) → (Nat → Int32) → (Nat → Int32) → (Nat → Int32) → (Nat → Int32) → (Nat → Int32) → Int32 → Option (Int32 × (Nat → Int32))} : zseg X zFT (zEx 202 (P_md_takesThings A0_md_takesThings F0_md_takesThings) (zEx 203 (P_md_goesOver Q_md_goesOver) (zEx 201 (P_md_draws G_md_draws W_md_draws A0_md_draws) (zEx 200 (P_md_feels G_md_feels A0_md_feels) (zEx 183 (P_md_holdsAny Q_md_holdsAny) zE0))))) zc_204 (fun p => Nat.beq p 7) 400 7 [.ref 64, .int x, .int l2] [] ((zua (zua (zua ar 65 b65) 82 b82) 83 b83), (zuf fi 64 34 c64_34), (m1, m2, m3, m4, m5)) = (
  bif decide (4 ≤ l2) then
   zg (zin (96 + x) 315) (
   zg (G_md_draws b65) (
   zl (W_md_draws b65) (fun v3 =>
   zl (A0_md_draws b65) (fun v4 =>
   zg (G_md_feels x (b65 ((96 + x).toNatClampNeg)) 0 v3 v4 b83) (
   zl (A0_md_feels x (b65 ((96 + x).toNatClampNeg)) 0 v3 v4 b83) (fun v5 =>
   zl (Q_md_holdsAny 120 (ar 77) (ar 78) (ar 80) (ar 81) b82 v5 (fi 64 15)) (fun v6 => zg v6.isSome (
   bif decide (((zgt v6).1) = 0) then
    zg (zin (96 + x) 315) (
    zg (zin (96 + x) 315) (
    zg (zin (96 + x) 315) (
    bif !decide ((zup v4 ((96 + x).toNatClampNeg) ((v4 ((96 + x).toNatClampNeg)) - 1)) ((96 + x).toNatClampNeg) = 0) then
     some (.inr (none, ((zua (zua (zua (zua (zua (zua (zua ar 65 b65) 82 b82) 83 b83) 65 v4) 83 v5) 82 (((zgt v6).2))) 65 (zup v4 ((96 + x).toNatClampNeg) ((v4 ((96 + x).toNatClampNeg)) - 1))), (zuf fi 64 34 c64_34), (m1, m2, m3, m4, m5))))
    else
     zg (zin (0 + x) 315) (
     some (.inr (none, ((zua (zua (zua (zua (zua (zua (zua (zua ar 65 b65) 82 b82) 83 b83) 65 v4) 83 v5) 82 (((zgt v6).2))) 65 (zup v4 ((96 + x).toNatClampNeg) ((v4 ((96 + x).toNatClampNeg)) - 1))) 65 (zup (zup v4 ((96 + x).toNatClampNeg) ((v4 ((96 + x).toNatClampNeg)) - 1)) ((0 + x).toNatClampNeg) 2)), (zuf fi 64 34 c64_34), (m1, m2, m3, m4, m5))))))))
   else
    zg (zin (96 + x) 315) (
    zg (zin (96 + x) 315) (
    bif !decide ((zup v4 ((96 + x).toNatClampNeg) 0) ((96 + x).toNatClampNeg) = 0) then
     some (.inr (none, ((zua (zua (zua (zua (zua (zua (zua ar 65 b65) 82 b82) 83 b83) 65 v4) 83 v5) 82 (((zgt v6).2))) 65 (zup v4 ((96 + x).toNatClampNeg) 0)), (zuf fi 64 34 c64_34), (m1, m2, m3, m4, m5))))
    else
     zg (zin (0 + x) 315) (
     some (.inr (none, ((zua (zua (zua (zua (zua (zua (zua (zua ar 65 b65) 82 b82) 83 b83) 65 v4) 83 v5) 82 (((zgt v6).2))) 65 (zup v4 ((96 + x).toNatClampNeg) 0)) 65 (zup (zup v4 ((96 + x).toNatClampNeg) 0) ((0 + x).toNatClampNeg) 2)), (zuf fi 64 34 c64_34), (m1, m2, m3, m4, m5)))))))))))))))
  else
   zl (Q_md_goesOver x l2 b65 (ar 68) (ar 77) (ar 78) (ar 79) (ar 80) (ar 81) b82 b83 (fi 64 15)) (fun v7 => zg v7.isSome (
   some (.inl (7, [.ref 64, .int x, .int (l2 + 1)], [], ((zua (zua (zua (zua (zua (zua ar 65 b65) 82 b82) 83 b83) 65 (((zgt v7).1))) 82 (((zgt v7).2.1))) 83 (((zgt v7).2.2))), (zuf fi 64 34 c64_34), (m1, m2, m3, m4, m5)))))) : Option ((Nat × List Value × List Value × zH2) ⊕ zO2)) := rfl
theorem k_md_turnOf_7 {X : Nat × (Nat → Int32)} {ar fi : Nat → Nat → Int32} {m1 m2 m3 m4 m5 : Nat} {x : Int32} {c64_34 : Int32} {o : zO2} : ∀ (s : U_md_turnOf_7) (q : U_md_turnOf_7 ⊕ T_md_turnOf), f_md_turnOf_7 x (ar 68) (ar 77) (ar 78) (ar 79) (ar 80) (ar 81) (fi 64 15) c64_34 s = some q → zq (M_md_turnOf_7 X (zEx 202 S_md_takesThings (zEx 203 S_md_goesOver (zEx 201 S_md_draws (zEx 200 S_md_feels (zEx 183 S_md_holdsAny zE0))))) ar fi m1 m2 m3 m4 m5 x c64_34 o) (fun t => O_md_turnOf ar fi m1 m2 m3 m4 m5 t = o) q → M_md_turnOf_7 X (zEx 202 S_md_takesThings (zEx 203 S_md_goesOver (zEx 201 S_md_draws (zEx 200 S_md_feels (zEx 183 S_md_holdsAny zE0))))) ar fi m1 m2 m3 m4 m5 x c64_34 o s := by
  intro s q h hq
  obtain ⟨l2, b65, b82, b83⟩ := s
  have h : b_md_turnOf_7 x (ar 68) (ar 77) (ar 78) (ar 79) (ar 80) (ar 81) (fi 64 15) c64_34 l2 b65 b82 b83 = some q := h
  unfold b_md_turnOf_7 at h
  show zR2 X zFT (zEx 202 S_md_takesThings (zEx 203 S_md_goesOver (zEx 201 S_md_draws (zEx 200 S_md_feels (zEx 183 S_md_holdsAny zE0))))) zc_204 7 [.ref 64, .int x, .int l2] [] ((zua (zua (zua ar 65 b65) 82 b82) 83 b83), (zuf fi 64 34 c64_34), (m1, m2, m3, m4, m5)) o
  refine zT_seg t7_md_turnOf ?_
  refine zb_el h (fun hb h => zT_t hb ?_) (fun hb h => zT_f hb ?_)
  · refine zg_el h (fun hg h => zT_g hg ?_)
    refine zg_el h (fun hg h => zT_g hg ?_)
    refine zl_el h (fun h => zT_l ?_)
    refine zl_el h (fun h => zT_l ?_)
    refine zg_el h (fun hg h => zT_g hg ?_)
    refine zl_el h (fun h => zT_l ?_)
    refine zbd_el h (fun v6 hv h => zT_c hv ?_)
    refine zb_el h (fun hb h => zT_t hb ?_) (fun hb h => zT_f hb ?_)
    · refine zg_el h (fun hg h => zT_g hg ?_)
      refine zg_el h (fun hg h => zT_g hg ?_)
      refine zg_el h (fun hg h => zT_g hg ?_)
      refine zb_el h (fun hb h => zT_t hb ?_) (fun hb h => zT_f hb ?_)
      · have hz := zsi h hq
        refine (zO_mk ?_ ?_).trans hz
        · first | with_reducible rfl | (exact zuas_eq _ [(65, _), (82, _), (83, _), (65, _), (83, _), (82, _), (65, _)] [(65, _), (82, _), (83, _)] [65, 82, 83] rfl rfl ⟨rfl, rfl, rfl, trivial⟩)
        · first | with_reducible rfl | (exact zufs_eq _ [(64, 34, _)] [(64, 34, _)] [(64, 34)] rfl rfl ⟨rfl, trivial⟩)
      · refine zg_el h (fun hg h => zT_g hg ?_)
        have hz := zsi h hq
        refine (zO_mk ?_ ?_).trans hz
        · first | with_reducible rfl | (exact zuas_eq _ [(65, _), (82, _), (83, _), (65, _), (83, _), (82, _), (65, _), (65, _)] [(65, _), (82, _), (83, _)] [65, 82, 83] rfl rfl ⟨rfl, rfl, rfl, trivial⟩)
        · first | with_reducible rfl | (exact zufs_eq _ [(64, 34, _)] [(64, 34, _)] [(64, 34)] rfl rfl ⟨rfl, trivial⟩)
    · refine zg_el h (fun hg h => zT_g hg ?_)
      refine zg_el h (fun hg h => zT_g hg ?_)
      refine zb_el h (fun hb h => zT_t hb ?_) (fun hb h => zT_f hb ?_)
      · have hz := zsi h hq
        refine (zO_mk ?_ ?_).trans hz
        · first | with_reducible rfl | (exact zuas_eq _ [(65, _), (82, _), (83, _), (65, _), (83, _), (82, _), (65, _)] [(65, _), (82, _), (83, _)] [65, 82, 83] rfl rfl ⟨rfl, rfl, rfl, trivial⟩)
        · first | with_reducible rfl | (exact zufs_eq _ [(64, 34, _)] [(64, 34, _)] [(64, 34)] rfl rfl ⟨rfl, trivial⟩)
      · refine zg_el h (fun hg h => zT_g hg ?_)
        have hz := zsi h hq
        refine (zO_mk ?_ ?_).trans hz
        · first | with_reducible rfl | (exact zuas_eq _ [(65, _), (82, _), (83, _), (65, _), (83, _), (82, _), (65, _), (65, _)] [(65, _), (82, _), (83, _)] [65, 82, 83] rfl rfl ⟨rfl, rfl, rfl, trivial⟩)
        · first | with_reducible rfl | (exact zufs_eq _ [(64, 34, _)] [(64, 34, _)] [(64, 34)] rfl rfl ⟨rfl, trivial⟩)
  · refine zbd_el h (fun v7 hv h => zT_c hv ?_)
    have hz := zsi h hq
    refine zR2_hp ?_ ?_ hz
    · first | with_reducible rfl | (exact zuas_eq _ [(65, _), (82, _), (83, _), (65, _), (82, _), (83, _)] [(65, _), (82, _), (83, _)] [65, 82, 83] rfl rfl ⟨rfl, rfl, rfl, trivial⟩)
    · first | with_reducible rfl | (exact zufs_eq _ [(64, 34, _)] [(64, 34, _)] [(64, 34)] rfl rfl ⟨rfl, trivial⟩)
set_option maxRecDepth 20000 in
theorem t_md_turnOf {X : Nat × (Nat → Int32)} {ar fi : Nat → Nat → Int32} {m1 m2 m3 m4 m5 : Nat} {x : Int32} {A0_md_takesThings : Int32 → (Nat → Int32) → Int32 → Nat → Int32} {F0_md_takesThings : Int32 → (Nat → Int32) → Int32 → Int32} {Q_md_goesOver : Int32 → Int32 → (Nat → Int32) → (Nat → Int32) → (Nat → Int32) → (Nat → Int32) → (Nat → Int32) → (Nat → Int32) → (Nat → Int32) → (Nat → Int32) → (Nat → Int32) → Int32 → Option ((Nat → Int32) × (Nat → Int32) × (Nat → Int32))} {G_md_draws : (Nat → Int32) → Bool} {W_md_draws : (Nat → Int32) → Int32} {A0_md_draws : (Nat → Int32) → Nat → Int32} {G_md_feels : Int32 → Int32 → Int32 → Int32 → (Nat → Int32) → (Nat → Int32) → Bool} {A0_md_feels : Int32 → Int32 → Int32 → Int32 → (Nat → Int32) → (Nat → Int32) → Nat → Int32} {Q_md_holdsAny : Int32 → (Nat → Int32) → (Nat → Int32) → (Nat → Int32) → (Nat → Int32) → (Nat → Int32) → (Nat → Int32) → Int32 → Option (Int32 × (Nat → Int32))} : zseg X zFT (zEx 202 (P_md_takesThings A0_md_takesThings F0_md_takesThings) (zEx 203 (P_md_goesOver Q_md_goesOver) (zEx 201 (P_md_draws G_md_draws W_md_draws A0_md_draws) (zEx 200 (P_md_feels G_md_feels A0_md_feels) (zEx 183 (P_md_holdsAny Q_md_holdsAny) zE0))))) zc_204 (fun p => Nat.beq p 7) 400 0 [.ref 64, .int x] [] (ar, fi, (m1, m2, m3, m4, m5)) = (
  zl (A0_md_takesThings x (ar 65) (fi 64 34)) (fun v1 =>
  zl (F0_md_takesThings x (ar 65) (fi 64 34)) (fun v2 =>
  some (.inl (7, [.ref 64, .int x, .int 0], [], ((zua ar 65 v1), (zuf fi 64 34 v2), (m1, m2, m3, m4, m5)))))) : Option ((Nat × List Value × List Value × zH2) ⊕ zO2)) := rfl
theorem e_md_turnOf {X : Nat × (Nat → Int32)} {ar fi : Nat → Nat → Int32} {m1 m2 m3 m4 m5 : Nat} {x : Int32} {o : zO2} : ∀ (q : T_md_turnOf), q_md_turnOf x (ar 65) (ar 68) (ar 77) (ar 78) (ar 79) (ar 80) (ar 81) (ar 82) (ar 83) (fi 64 15) (fi 64 34) = some q → (fun t => O_md_turnOf ar fi m1 m2 m3 m4 m5 t = o) q → zR2 X zFT (zEx 202 S_md_takesThings (zEx 203 S_md_goesOver (zEx 201 S_md_draws (zEx 200 S_md_feels (zEx 183 S_md_holdsAny zE0))))) zc_204 0 [.ref 64, .int x] [] (ar, fi, (m1, m2, m3, m4, m5)) o := by
  intro q h hq
  unfold q_md_turnOf at h
  refine zT_seg t_md_turnOf ?_
  refine zl_el h (fun h => zT_l ?_)
  refine zl_el h (fun h => zT_l ?_)
  refine zR2_hp ?_ ?_ (zlp_K k_md_turnOf_7 h hq)
  · first | with_reducible rfl | (exact zuas_eq _ [(65, _)] [(65, _), (82, _), (83, _)] [65, 82, 83] rfl rfl ⟨rfl, rfl, rfl, trivial⟩)
  · first | with_reducible rfl | (exact zufs_eq _ [(64, 34, _)] [(64, 34, _)] [(64, 34)] rfl rfl ⟨rfl, trivial⟩)
theorem ok_md_turnOf (X : Nat × (Nat → Int32)) : zOkS X 204 S_md_turnOf 7 := zOkS_new (zOkE_cons (ok_md_takesThings X) (by decide) (zOkE_cons (ok_md_goesOver X) (by decide) (zOkE_cons (ok_md_draws X) (by decide) (zOkE_cons (ok_md_feels X) (by decide) (zOkE_cons (ok_md_holdsAny X) (by decide) (zOkE_nil X 6)))))) (by
  intro args g o h
  obtain ⟨ar, fi, m1, m2, m3, m4, m5⟩ := g
  unfold S_md_turnOf P_md_turnOf at h
  split at h
  · refine zb_el h (fun hI0 k0 => ?_) (fun _ h10 => ?_)
    · try simp only [Bool.and_eq_true] at hI0
      have j0 := hI0
      have e0 := Nat.eq_of_beq_eq_true j0
      subst e0
      exact zpe_el k0 (fun t ht ho => e_md_turnOf t ht ho)
    · cases h10
  · cases h)
abbrev T_md_minuteGoes : Type := (Nat → Int32) × (Nat → Int32) × (Nat → Int32) × (Nat → Int32) × Int32
abbrev U_md_minuteGoes_39 : Type := Int32 × (Nat → Int32) × (Nat → Int32) × (Nat → Int32) × Int32
abbrev U_md_minuteGoes_2 : Type := Int32 × (Nat → Int32)
noncomputable def b_md_minuteGoes_39 (a68 : Nat → Int32) (a77 : Nat → Int32) (a78 : Nat → Int32) (a79 : Nat → Int32) (a80 : Nat → Int32) (a81 : Nat → Int32) (f64_15 : Int32) (b85 : Nat → Int32) (l1 : Int32) (b65 : Nat → Int32) (b82 : Nat → Int32) (b83 : Nat → Int32) (c64_34 : Int32) : Option (U_md_minuteGoes_39 ⊕ T_md_minuteGoes) :=
  bif decide (96 ≤ l1) then
   zg (zin 313 315) (
   zg (zin 313 315) (
   some (.inr ((zup b65 ((313 : Int32).toNatClampNeg) ((b65 ((313 : Int32).toNatClampNeg)) + 1)), b82, b83, b85, c64_34))))
  else
   zg (zin l1 96) (
   bif decide (b85 (l1.toNatClampNeg) = 0) then
    some (.inl (l1 + 1, b65, b82, b83, c64_34))
   else
    zbd (q_md_turnOf l1 b65 a68 a77 a78 a79 a80 a81 b82 b83 (f64_15) c64_34) (fun v1 =>
    some (.inl (l1 + 1, ((v1.1)), ((v1.2.1)), ((v1.2.2.1)), (v1.2.2.2)))))
noncomputable def f_md_minuteGoes_39 (a68 : Nat → Int32) (a77 : Nat → Int32) (a78 : Nat → Int32) (a79 : Nat → Int32) (a80 : Nat → Int32) (a81 : Nat → Int32) (f64_15 : Int32) (b85 : Nat → Int32) : U_md_minuteGoes_39 → Option (U_md_minuteGoes_39 ⊕ T_md_minuteGoes) := fun s => b_md_minuteGoes_39 a68 a77 a78 a79 a80 a81 f64_15 b85 s.1 s.2.1 s.2.2.1 s.2.2.2.1 s.2.2.2.2
noncomputable def l_md_minuteGoes_39 (a68 : Nat → Int32) (a77 : Nat → Int32) (a78 : Nat → Int32) (a79 : Nat → Int32) (a80 : Nat → Int32) (a81 : Nat → Int32) (f64_15 : Int32) (b85 : Nat → Int32) (l1 : Int32) (b65 : Nat → Int32) (b82 : Nat → Int32) (b83 : Nat → Int32) (c64_34 : Int32) : Option T_md_minuteGoes := zlp (f_md_minuteGoes_39 a68 a77 a78 a79 a80 a81 f64_15 b85) (l1, b65, b82, b83, c64_34)
noncomputable def b_md_minuteGoes_2 (a68 : Nat → Int32) (a77 : Nat → Int32) (a78 : Nat → Int32) (a79 : Nat → Int32) (a80 : Nat → Int32) (a81 : Nat → Int32) (f64_15 : Int32) (b65 : Nat → Int32) (b82 : Nat → Int32) (b83 : Nat → Int32) (c64_34 : Int32) (l1 : Int32) (b85 : Nat → Int32) : Option (U_md_minuteGoes_2 ⊕ T_md_minuteGoes) :=
  bif decide (96 ≤ l1) then
   zbd (l_md_minuteGoes_39 a68 a77 a78 a79 a80 a81 f64_15 b85 0 b65 b82 b83 c64_34) (fun k => some (.inr k))
  else
   zg (zin (0 + l1) 315) (
   bif !decide (b65 ((0 + l1).toNatClampNeg) = 1) then
    zg (zin l1 96) (
    some (.inl (l1 + 1, (zup b85 (l1.toNatClampNeg) (0 &&& 1)))))
   else
    zg (zin l1 96) (
    some (.inl (l1 + 1, (zup b85 (l1.toNatClampNeg) (1 &&& 1))))))
noncomputable def f_md_minuteGoes_2 (a68 : Nat → Int32) (a77 : Nat → Int32) (a78 : Nat → Int32) (a79 : Nat → Int32) (a80 : Nat → Int32) (a81 : Nat → Int32) (f64_15 : Int32) (b65 : Nat → Int32) (b82 : Nat → Int32) (b83 : Nat → Int32) (c64_34 : Int32) : U_md_minuteGoes_2 → Option (U_md_minuteGoes_2 ⊕ T_md_minuteGoes) := fun s => b_md_minuteGoes_2 a68 a77 a78 a79 a80 a81 f64_15 b65 b82 b83 c64_34 s.1 s.2
noncomputable def l_md_minuteGoes_2 (a68 : Nat → Int32) (a77 : Nat → Int32) (a78 : Nat → Int32) (a79 : Nat → Int32) (a80 : Nat → Int32) (a81 : Nat → Int32) (f64_15 : Int32) (b65 : Nat → Int32) (b82 : Nat → Int32) (b83 : Nat → Int32) (c64_34 : Int32) (l1 : Int32) (b85 : Nat → Int32) : Option T_md_minuteGoes := zlp (f_md_minuteGoes_2 a68 a77 a78 a79 a80 a81 f64_15 b65 b82 b83 c64_34) (l1, b85)
noncomputable def q_md_minuteGoes (a65 : Nat → Int32) (a68 : Nat → Int32) (a77 : Nat → Int32) (a78 : Nat → Int32) (a79 : Nat → Int32) (a80 : Nat → Int32) (a81 : Nat → Int32) (a82 : Nat → Int32) (a83 : Nat → Int32) (a85 : Nat → Int32) (f64_15 : Int32) (f64_34 : Int32) : Option T_md_minuteGoes :=
  l_md_minuteGoes_2 a68 a77 a78 a79 a80 a81 f64_15 a65 a82 a83 (f64_34) 0 a85
def P_md_minuteGoes (Q : (Nat → Int32) → (Nat → Int32) → (Nat → Int32) → (Nat → Int32) → (Nat → Int32) → (Nat → Int32) → (Nat → Int32) → (Nat → Int32) → (Nat → Int32) → (Nat → Int32) → Int32 → Int32 → Option ((Nat → Int32) × (Nat → Int32) × (Nat → Int32) × (Nat → Int32) × Int32)) : zSp := fun as g => match as with
  | [.ref a] => bif Nat.beq a 64 then zpe (Q (g.1 65) (g.1 68) (g.1 77) (g.1 78) (g.1 79) (g.1 80) (g.1 81) (g.1 82) (g.1 83) (g.1 85) (g.2.1 64 15) (g.2.1 64 34)) (fun t => (none, ((zua (zua (zua (zua g.1 65 t.1) 82 t.2.1) 83 t.2.2.1) 85 t.2.2.2.1), (zuf g.2.1 64 34 t.2.2.2.2), g.2.2))) else none
  | _ => none
noncomputable abbrev S_md_minuteGoes : zSp := P_md_minuteGoes q_md_minuteGoes
def O_md_minuteGoes (ar fi : Nat → Nat → Int32) (m1 : Nat) (m2 : Nat) (m3 : Nat) (m4 : Nat) (m5 : Nat) (t : T_md_minuteGoes) : zO2 := (none, ((zua (zua (zua (zua ar 65 t.1) 82 t.2.1) 83 t.2.2.1) 85 t.2.2.2.1), (zuf fi 64 34 t.2.2.2.2), (m1, m2, m3, m4, m5)))
def M_md_minuteGoes_39 (X : Nat × (Nat → Int32)) (E : zTE) (ar fi : Nat → Nat → Int32) (m1 : Nat) (m2 : Nat) (m3 : Nat) (m4 : Nat) (m5 : Nat) (b85 : Nat → Int32) (o : zO2) (s : U_md_minuteGoes_39) : Prop := zR2 X zFT E zc_205 39 [.ref 64, .int s.1] [] ((zua (zua (zua (zua ar 65 s.2.1) 82 s.2.2.1) 83 s.2.2.2.1) 85 b85), (zuf fi 64 34 s.2.2.2.2), (m1, m2, m3, m4, m5)) o
def M_md_minuteGoes_2 (X : Nat × (Nat → Int32)) (E : zTE) (ar fi : Nat → Nat → Int32) (m1 : Nat) (m2 : Nat) (m3 : Nat) (m4 : Nat) (m5 : Nat) (b65 : Nat → Int32) (b82 : Nat → Int32) (b83 : Nat → Int32) (c64_34 : Int32) (o : zO2) (s : U_md_minuteGoes_2) : Prop := zR2 X zFT E zc_205 2 [.ref 64, .int s.1] [] ((zua (zua (zua (zua ar 65 b65) 82 b82) 83 b83) 85 s.2), (zuf fi 64 34 c64_34), (m1, m2, m3, m4, m5)) o
set_option maxRecDepth 20000 in
theorem t39_md_minuteGoes {X : Nat × (Nat → Int32)} {ar fi : Nat → Nat → Int32} {m1 m2 m3 m4 m5 : Nat} {l1 : Int32} {b65 : Nat → Int32} {b82 : Nat → Int32} {b83 : Nat → Int32} {b85 : Nat → Int32} {c64_34 : Int32} {Q_md_turnOf : Int32 → (Nat → Int32) → (Nat → Int32) → (Nat → Int32) → (Nat → Int32) → (Nat → Int32) → (Nat → Int32) → (Nat → Int32) → (Nat → Int32) → (Nat → Int32) → Int32 → Int32 → Option ((Nat → Int32) × (Nat → Int32) × (Nat → Int32) × Int32)} : zseg X zFT (zEx 204 (P_md_turnOf Q_md_turnOf) zE0) zc_205 (fun p => Nat.beq p 39 || Nat.beq p 2) 400 39 [.ref 64, .int l1] [] ((zua (zua (zua (zua ar 65 b65) 82 b82) 83 b83) 85 b85), (zuf fi 64 34 c64_34), (m1, m2, m3, m4, m5)) = (
  bif decide (96 ≤ l1) then
   zg (zin 313 315) (
   zg (zin 313 315) (
   some (.inr (none, ((zua (zua (zua (zua (zua ar 65 b65) 82 b82) 83 b83) 85 b85) 65 (zup b65 ((313 : Int32).toNatClampNeg) ((b65 ((313 : Int32).toNatClampNeg)) + 1))), (zuf fi 64 34 c64_34), (m1, m2, m3, m4, m5))))))
  else
   zg (zin l1 96) (
   bif decide (b85 (l1.toNatClampNeg) = 0) then
    some (.inl (39, [.ref 64, .int (l1 + 1)], [], ((zua (zua (zua (zua ar 65 b65) 82 b82) 83 b83) 85 b85), (zuf fi 64 34 c64_34), (m1, m2, m3, m4, m5))))
   else
    zl (Q_md_turnOf l1 b65 (ar 68) (ar 77) (ar 78) (ar 79) (ar 80) (ar 81) b82 b83 (fi 64 15) c64_34) (fun v1 => zg v1.isSome (
    some (.inl (39, [.ref 64, .int (l1 + 1)], [], ((zua (zua (zua (zua (zua (zua (zua ar 65 b65) 82 b82) 83 b83) 85 b85) 65 (((zgt v1).1))) 82 (((zgt v1).2.1))) 83 (((zgt v1).2.2.1))), (zuf (zuf fi 64 34 c64_34) 64 34 (((zgt v1).2.2.2))), (m1, m2, m3, m4, m5))))))) : Option ((Nat × List Value × List Value × zH2) ⊕ zO2)) := rfl
theorem k_md_minuteGoes_39 {X : Nat × (Nat → Int32)} {ar fi : Nat → Nat → Int32} {m1 m2 m3 m4 m5 : Nat} {b85 : Nat → Int32} {o : zO2} : ∀ (s : U_md_minuteGoes_39) (q : U_md_minuteGoes_39 ⊕ T_md_minuteGoes), f_md_minuteGoes_39 (ar 68) (ar 77) (ar 78) (ar 79) (ar 80) (ar 81) (fi 64 15) b85 s = some q → zq (M_md_minuteGoes_39 X (zEx 204 S_md_turnOf zE0) ar fi m1 m2 m3 m4 m5 b85 o) (fun t => O_md_minuteGoes ar fi m1 m2 m3 m4 m5 t = o) q → M_md_minuteGoes_39 X (zEx 204 S_md_turnOf zE0) ar fi m1 m2 m3 m4 m5 b85 o s := by
  intro s q h hq
  obtain ⟨l1, b65, b82, b83, c64_34⟩ := s
  have h : b_md_minuteGoes_39 (ar 68) (ar 77) (ar 78) (ar 79) (ar 80) (ar 81) (fi 64 15) b85 l1 b65 b82 b83 c64_34 = some q := h
  unfold b_md_minuteGoes_39 at h
  show zR2 X zFT (zEx 204 S_md_turnOf zE0) zc_205 39 [.ref 64, .int l1] [] ((zua (zua (zua (zua ar 65 b65) 82 b82) 83 b83) 85 b85), (zuf fi 64 34 c64_34), (m1, m2, m3, m4, m5)) o
  refine zT_seg t39_md_minuteGoes ?_
  refine zb_el h (fun hb h => zT_t hb ?_) (fun hb h => zT_f hb ?_)
  · refine zg_el h (fun hg h => zT_g hg ?_)
    refine zg_el h (fun hg h => zT_g hg ?_)
    have hz := zsi h hq
    refine (zO_mk ?_ ?_).trans hz
    · first | with_reducible rfl | (exact zuas_eq _ [(65, _), (82, _), (83, _), (85, _), (65, _)] [(65, _), (82, _), (83, _), (85, _)] [65, 82, 83, 85] rfl rfl ⟨rfl, rfl, rfl, rfl, trivial⟩)
    · first | with_reducible rfl | (exact zufs_eq _ [(64, 34, _)] [(64, 34, _)] [(64, 34)] rfl rfl ⟨rfl, trivial⟩)
  · refine zg_el h (fun hg h => zT_g hg ?_)
    refine zb_el h (fun hb h => zT_t hb ?_) (fun hb h => zT_f hb ?_)
    · have hz := zsi h hq
      refine zR2_hp ?_ ?_ hz
      · first | with_reducible rfl | (exact zuas_eq _ [(65, _), (82, _), (83, _), (85, _)] [(65, _), (82, _), (83, _), (85, _)] [65, 82, 83, 85] rfl rfl ⟨rfl, rfl, rfl, rfl, trivial⟩)
      · first | with_reducible rfl | (exact zufs_eq _ [(64, 34, _)] [(64, 34, _)] [(64, 34)] rfl rfl ⟨rfl, trivial⟩)
    · refine zbd_el h (fun v1 hv h => zT_c hv ?_)
      have hz := zsi h hq
      refine zR2_hp ?_ ?_ hz
      · first | with_reducible rfl | (exact zuas_eq _ [(65, _), (82, _), (83, _), (85, _), (65, _), (82, _), (83, _)] [(65, _), (82, _), (83, _), (85, _)] [65, 82, 83, 85] rfl rfl ⟨rfl, rfl, rfl, rfl, trivial⟩)
      · first | with_reducible rfl | (exact zufs_eq _ [(64, 34, _), (64, 34, _)] [(64, 34, _)] [(64, 34)] rfl rfl ⟨rfl, trivial⟩)
set_option maxRecDepth 20000 in
theorem t2_md_minuteGoes {X : Nat × (Nat → Int32)} {ar fi : Nat → Nat → Int32} {m1 m2 m3 m4 m5 : Nat} {l1 : Int32} {b65 : Nat → Int32} {b82 : Nat → Int32} {b83 : Nat → Int32} {b85 : Nat → Int32} {c64_34 : Int32} {Q_md_turnOf : Int32 → (Nat → Int32) → (Nat → Int32) → (Nat → Int32) → (Nat → Int32) → (Nat → Int32) → (Nat → Int32) → (Nat → Int32) → (Nat → Int32) → (Nat → Int32) → Int32 → Int32 → Option ((Nat → Int32) × (Nat → Int32) × (Nat → Int32) × Int32)} : zseg X zFT (zEx 204 (P_md_turnOf Q_md_turnOf) zE0) zc_205 (fun p => Nat.beq p 39 || Nat.beq p 2) 400 2 [.ref 64, .int l1] [] ((zua (zua (zua (zua ar 65 b65) 82 b82) 83 b83) 85 b85), (zuf fi 64 34 c64_34), (m1, m2, m3, m4, m5)) = (
  bif decide (96 ≤ l1) then
   some (.inl (39, [.ref 64, .int 0], [], ((zua (zua (zua (zua ar 65 b65) 82 b82) 83 b83) 85 b85), (zuf fi 64 34 c64_34), (m1, m2, m3, m4, m5))))
  else
   zg (zin (0 + l1) 315) (
   bif !decide (b65 ((0 + l1).toNatClampNeg) = 1) then
    zg (zin l1 96) (
    some (.inl (2, [.ref 64, .int (l1 + 1)], [], ((zua (zua (zua (zua (zua ar 65 b65) 82 b82) 83 b83) 85 b85) 85 (zup b85 (l1.toNatClampNeg) (0 &&& 1))), (zuf fi 64 34 c64_34), (m1, m2, m3, m4, m5)))))
   else
    zg (zin l1 96) (
    some (.inl (2, [.ref 64, .int (l1 + 1)], [], ((zua (zua (zua (zua (zua ar 65 b65) 82 b82) 83 b83) 85 b85) 85 (zup b85 (l1.toNatClampNeg) (1 &&& 1))), (zuf fi 64 34 c64_34), (m1, m2, m3, m4, m5)))))) : Option ((Nat × List Value × List Value × zH2) ⊕ zO2)) := rfl
theorem k_md_minuteGoes_2 {X : Nat × (Nat → Int32)} {ar fi : Nat → Nat → Int32} {m1 m2 m3 m4 m5 : Nat} {b65 : Nat → Int32} {b82 : Nat → Int32} {b83 : Nat → Int32} {c64_34 : Int32} {o : zO2} : ∀ (s : U_md_minuteGoes_2) (q : U_md_minuteGoes_2 ⊕ T_md_minuteGoes), f_md_minuteGoes_2 (ar 68) (ar 77) (ar 78) (ar 79) (ar 80) (ar 81) (fi 64 15) b65 b82 b83 c64_34 s = some q → zq (M_md_minuteGoes_2 X (zEx 204 S_md_turnOf zE0) ar fi m1 m2 m3 m4 m5 b65 b82 b83 c64_34 o) (fun t => O_md_minuteGoes ar fi m1 m2 m3 m4 m5 t = o) q → M_md_minuteGoes_2 X (zEx 204 S_md_turnOf zE0) ar fi m1 m2 m3 m4 m5 b65 b82 b83 c64_34 o s := by
  intro s q h hq
  obtain ⟨l1, b85⟩ := s
  have h : b_md_minuteGoes_2 (ar 68) (ar 77) (ar 78) (ar 79) (ar 80) (ar 81) (fi 64 15) b65 b82 b83 c64_34 l1 b85 = some q := h
  unfold b_md_minuteGoes_2 at h
  show zR2 X zFT (zEx 204 S_md_turnOf zE0) zc_205 2 [.ref 64, .int l1] [] ((zua (zua (zua (zua ar 65 b65) 82 b82) 83 b83) 85 b85), (zuf fi 64 34 c64_34), (m1, m2, m3, m4, m5)) o
  refine zT_seg t2_md_minuteGoes ?_
  refine zb_el h (fun hb h => zT_t hb ?_) (fun hb h => zT_f hb ?_)
  · refine zbd_el h (fun r hr h => ?_)
    have hz := zsi h hq
    refine zR2_hp ?_ ?_ (zlp_K k_md_minuteGoes_39 hr hz)
    · first | with_reducible rfl | (exact zuas_eq _ [(65, _), (82, _), (83, _), (85, _)] [(65, _), (82, _), (83, _), (85, _)] [65, 82, 83, 85] rfl rfl ⟨rfl, rfl, rfl, rfl, trivial⟩)
    · first | with_reducible rfl | (exact zufs_eq _ [(64, 34, _)] [(64, 34, _)] [(64, 34)] rfl rfl ⟨rfl, trivial⟩)
  · refine zg_el h (fun hg h => zT_g hg ?_)
    refine zb_el h (fun hb h => zT_t hb ?_) (fun hb h => zT_f hb ?_)
    · refine zg_el h (fun hg h => zT_g hg ?_)
      have hz := zsi h hq
      refine zR2_hp ?_ ?_ hz
      · first | with_reducible rfl | (exact zuas_eq _ [(65, _), (82, _), (83, _), (85, _), (85, _)] [(65, _), (82, _), (83, _), (85, _)] [65, 82, 83, 85] rfl rfl ⟨rfl, rfl, rfl, rfl, trivial⟩)
      · first | with_reducible rfl | (exact zufs_eq _ [(64, 34, _)] [(64, 34, _)] [(64, 34)] rfl rfl ⟨rfl, trivial⟩)
    · refine zg_el h (fun hg h => zT_g hg ?_)
      have hz := zsi h hq
      refine zR2_hp ?_ ?_ hz
      · first | with_reducible rfl | (exact zuas_eq _ [(65, _), (82, _), (83, _), (85, _), (85, _)] [(65, _), (82, _), (83, _), (85, _)] [65, 82, 83, 85] rfl rfl ⟨rfl, rfl, rfl, rfl, trivial⟩)
      · first | with_reducible rfl | (exact zufs_eq _ [(64, 34, _)] [(64, 34, _)] [(64, 34)] rfl rfl ⟨rfl, trivial⟩)
set_option maxRecDepth 20000 in
theorem t_md_minuteGoes {X : Nat × (Nat → Int32)} {ar fi : Nat → Nat → Int32} {m1 m2 m3 m4 m5 : Nat} {Q_md_turnOf : Int32 → (Nat → Int32) → (Nat → Int32) → (Nat → Int32) → (Nat → Int32) → (Nat → Int32) → (Nat → Int32) → (Nat → Int32) → (Nat → Int32) → (Nat → Int32) → Int32 → Int32 → Option ((Nat → Int32) × (Nat → Int32) × (Nat → Int32) × Int32)} : zseg X zFT (zEx 204 (P_md_turnOf Q_md_turnOf) zE0) zc_205 (fun p => Nat.beq p 39 || Nat.beq p 2) 400 0 [.ref 64] [] (ar, fi, (m1, m2, m3, m4, m5)) = (
  some (.inl (2, [.ref 64, .int 0], [], (ar, fi, (m1, m2, m3, m4, m5)))) : Option ((Nat × List Value × List Value × zH2) ⊕ zO2)) := rfl
theorem e_md_minuteGoes {X : Nat × (Nat → Int32)} {ar fi : Nat → Nat → Int32} {m1 m2 m3 m4 m5 : Nat} {o : zO2} : ∀ (q : T_md_minuteGoes), q_md_minuteGoes (ar 65) (ar 68) (ar 77) (ar 78) (ar 79) (ar 80) (ar 81) (ar 82) (ar 83) (ar 85) (fi 64 15) (fi 64 34) = some q → (fun t => O_md_minuteGoes ar fi m1 m2 m3 m4 m5 t = o) q → zR2 X zFT (zEx 204 S_md_turnOf zE0) zc_205 0 [.ref 64] [] (ar, fi, (m1, m2, m3, m4, m5)) o := by
  intro q h hq
  unfold q_md_minuteGoes at h
  refine zT_seg t_md_minuteGoes ?_
  refine zR2_hp ?_ ?_ (zlp_K k_md_minuteGoes_2 h hq)
  · first | with_reducible rfl | (exact zuas_eq _ [] [(65, _), (82, _), (83, _), (85, _)] [65, 82, 83, 85] rfl rfl ⟨rfl, rfl, rfl, rfl, trivial⟩)
  · first | with_reducible rfl | (exact zufs_eq _ [] [(64, 34, _)] [(64, 34)] rfl rfl ⟨rfl, trivial⟩)
theorem ok_md_minuteGoes (X : Nat × (Nat → Int32)) : zOkS X 205 S_md_minuteGoes 8 := zOkS_new (zOkE_cons (ok_md_turnOf X) (by decide) (zOkE_nil X 7)) (by
  intro args g o h
  obtain ⟨ar, fi, m1, m2, m3, m4, m5⟩ := g
  unfold S_md_minuteGoes P_md_minuteGoes at h
  split at h
  · refine zb_el h (fun hI0 k0 => ?_) (fun _ h10 => ?_)
    · try simp only [Bool.and_eq_true] at hI0
      have j0 := hI0
      have e0 := Nat.eq_of_beq_eq_true j0
      subst e0
      exact zpe_el k0 (fun t ht ho => e_md_minuteGoes t ht ho)
    · cases h10
  · cases h)
abbrev T_md_minutesGo : Type := (Nat → Int32) × (Nat → Int32) × (Nat → Int32) × (Nat → Int32) × Int32
abbrev U_md_minutesGo_7 : Type := Int32 × (Nat → Int32) × (Nat → Int32) × (Nat → Int32) × (Nat → Int32) × Int32
noncomputable def b_md_minutesGo_7 (x : Int32) (a68 : Nat → Int32) (a77 : Nat → Int32) (a78 : Nat → Int32) (a79 : Nat → Int32) (a80 : Nat → Int32) (a81 : Nat → Int32) (f64_15 : Int32) (l2 : Int32) (b65 : Nat → Int32) (b82 : Nat → Int32) (b83 : Nat → Int32) (b85 : Nat → Int32) (c64_34 : Int32) : Option (U_md_minutesGo_7 ⊕ T_md_minutesGo) :=
  bif decide (x ≤ l2) then
   some (.inr (b65, b82, b83, b85, c64_34))
  else
   zg (zin 313 315) (
   bif decide (9999 ≤ b65 ((313 : Int32).toNatClampNeg)) then
    some (.inr (b65, b82, b83, b85, c64_34))
   else
    zbd (q_md_minuteGoes b65 a68 a77 a78 a79 a80 a81 b82 b83 b85 (f64_15) c64_34) (fun v1 =>
    some (.inl (l2 + 1, ((v1.1)), ((v1.2.1)), ((v1.2.2.1)), ((v1.2.2.2.1)), (v1.2.2.2.2)))))
noncomputable def f_md_minutesGo_7 (x : Int32) (a68 : Nat → Int32) (a77 : Nat → Int32) (a78 : Nat → Int32) (a79 : Nat → Int32) (a80 : Nat → Int32) (a81 : Nat → Int32) (f64_15 : Int32) : U_md_minutesGo_7 → Option (U_md_minutesGo_7 ⊕ T_md_minutesGo) := fun s => b_md_minutesGo_7 x a68 a77 a78 a79 a80 a81 f64_15 s.1 s.2.1 s.2.2.1 s.2.2.2.1 s.2.2.2.2.1 s.2.2.2.2.2
noncomputable def l_md_minutesGo_7 (x : Int32) (a68 : Nat → Int32) (a77 : Nat → Int32) (a78 : Nat → Int32) (a79 : Nat → Int32) (a80 : Nat → Int32) (a81 : Nat → Int32) (f64_15 : Int32) (l2 : Int32) (b65 : Nat → Int32) (b82 : Nat → Int32) (b83 : Nat → Int32) (b85 : Nat → Int32) (c64_34 : Int32) : Option T_md_minutesGo := zlp (f_md_minutesGo_7 x a68 a77 a78 a79 a80 a81 f64_15) (l2, b65, b82, b83, b85, c64_34)
noncomputable def q_md_minutesGo (x : Int32) (a65 : Nat → Int32) (a68 : Nat → Int32) (a77 : Nat → Int32) (a78 : Nat → Int32) (a79 : Nat → Int32) (a80 : Nat → Int32) (a81 : Nat → Int32) (a82 : Nat → Int32) (a83 : Nat → Int32) (a85 : Nat → Int32) (f64_15 : Int32) : Option T_md_minutesGo :=
  l_md_minutesGo_7 x a68 a77 a78 a79 a80 a81 f64_15 0 a65 a82 a83 a85 0
def P_md_minutesGo (Q : Int32 → (Nat → Int32) → (Nat → Int32) → (Nat → Int32) → (Nat → Int32) → (Nat → Int32) → (Nat → Int32) → (Nat → Int32) → (Nat → Int32) → (Nat → Int32) → (Nat → Int32) → Int32 → Option ((Nat → Int32) × (Nat → Int32) × (Nat → Int32) × (Nat → Int32) × Int32)) : zSp := fun as g => match as with
  | [.ref a, .int x] => bif Nat.beq a 64 then zpe (Q x (g.1 65) (g.1 68) (g.1 77) (g.1 78) (g.1 79) (g.1 80) (g.1 81) (g.1 82) (g.1 83) (g.1 85) (g.2.1 64 15)) (fun t => (none, ((zua (zua (zua (zua g.1 65 t.1) 82 t.2.1) 83 t.2.2.1) 85 t.2.2.2.1), (zuf g.2.1 64 34 t.2.2.2.2), g.2.2))) else none
  | _ => none
noncomputable abbrev S_md_minutesGo : zSp := P_md_minutesGo q_md_minutesGo
def O_md_minutesGo (ar fi : Nat → Nat → Int32) (m1 : Nat) (m2 : Nat) (m3 : Nat) (m4 : Nat) (m5 : Nat) (t : T_md_minutesGo) : zO2 := (none, ((zua (zua (zua (zua ar 65 t.1) 82 t.2.1) 83 t.2.2.1) 85 t.2.2.2.1), (zuf fi 64 34 t.2.2.2.2), (m1, m2, m3, m4, m5)))
def M_md_minutesGo_7 (X : Nat × (Nat → Int32)) (E : zTE) (ar fi : Nat → Nat → Int32) (m1 : Nat) (m2 : Nat) (m3 : Nat) (m4 : Nat) (m5 : Nat) (x : Int32) (o : zO2) (s : U_md_minutesGo_7) : Prop := zR2 X zFT E zc_206 7 [.ref 64, .int x, .int s.1] [] ((zua (zua (zua (zua ar 65 s.2.1) 82 s.2.2.1) 83 s.2.2.2.1) 85 s.2.2.2.2.1), (zuf fi 64 34 s.2.2.2.2.2), (m1, m2, m3, m4, m5)) o
set_option maxRecDepth 20000 in
theorem t7_md_minutesGo {X : Nat × (Nat → Int32)} {ar fi : Nat → Nat → Int32} {m1 m2 m3 m4 m5 : Nat} {x : Int32} {l2 : Int32} {b65 : Nat → Int32} {b82 : Nat → Int32} {b83 : Nat → Int32} {b85 : Nat → Int32} {c64_34 : Int32} {Q_md_minuteGoes : (Nat → Int32) → (Nat → Int32) → (Nat → Int32) → (Nat → Int32) → (Nat → Int32) → (Nat → Int32) → (Nat → Int32) → (Nat → Int32) → (Nat → Int32) → (Nat → Int32) → Int32 → Int32 → Option ((Nat → Int32) × (Nat → Int32) × (Nat → Int32) × (Nat → Int32) × Int32)} : zseg X zFT (zEx 205 (P_md_minuteGoes Q_md_minuteGoes) zE0) zc_206 (fun p => Nat.beq p 7) 400 7 [.ref 64, .int x, .int l2] [] ((zua (zua (zua (zua ar 65 b65) 82 b82) 83 b83) 85 b85), (zuf fi 64 34 c64_34), (m1, m2, m3, m4, m5)) = (
  bif decide (x ≤ l2) then
   some (.inr (none, ((zua (zua (zua (zua ar 65 b65) 82 b82) 83 b83) 85 b85), (zuf fi 64 34 c64_34), (m1, m2, m3, m4, m5))))
  else
   zg (zin 313 315) (
   bif decide (9999 ≤ b65 ((313 : Int32).toNatClampNeg)) then
    some (.inr (none, ((zua (zua (zua (zua ar 65 b65) 82 b82) 83 b83) 85 b85), (zuf fi 64 34 c64_34), (m1, m2, m3, m4, m5))))
   else
    zl (Q_md_minuteGoes b65 (ar 68) (ar 77) (ar 78) (ar 79) (ar 80) (ar 81) b82 b83 b85 (fi 64 15) c64_34) (fun v1 => zg v1.isSome (
    some (.inl (7, [.ref 64, .int x, .int (l2 + 1)], [], ((zua (zua (zua (zua (zua (zua (zua (zua ar 65 b65) 82 b82) 83 b83) 85 b85) 65 (((zgt v1).1))) 82 (((zgt v1).2.1))) 83 (((zgt v1).2.2.1))) 85 (((zgt v1).2.2.2.1))), (zuf (zuf fi 64 34 c64_34) 64 34 (((zgt v1).2.2.2.2))), (m1, m2, m3, m4, m5))))))) : Option ((Nat × List Value × List Value × zH2) ⊕ zO2)) := rfl
theorem k_md_minutesGo_7 {X : Nat × (Nat → Int32)} {ar fi : Nat → Nat → Int32} {m1 m2 m3 m4 m5 : Nat} {x : Int32} {o : zO2} : ∀ (s : U_md_minutesGo_7) (q : U_md_minutesGo_7 ⊕ T_md_minutesGo), f_md_minutesGo_7 x (ar 68) (ar 77) (ar 78) (ar 79) (ar 80) (ar 81) (fi 64 15) s = some q → zq (M_md_minutesGo_7 X (zEx 205 S_md_minuteGoes zE0) ar fi m1 m2 m3 m4 m5 x o) (fun t => O_md_minutesGo ar fi m1 m2 m3 m4 m5 t = o) q → M_md_minutesGo_7 X (zEx 205 S_md_minuteGoes zE0) ar fi m1 m2 m3 m4 m5 x o s := by
  intro s q h hq
  obtain ⟨l2, b65, b82, b83, b85, c64_34⟩ := s
  have h : b_md_minutesGo_7 x (ar 68) (ar 77) (ar 78) (ar 79) (ar 80) (ar 81) (fi 64 15) l2 b65 b82 b83 b85 c64_34 = some q := h
  unfold b_md_minutesGo_7 at h
  show zR2 X zFT (zEx 205 S_md_minuteGoes zE0) zc_206 7 [.ref 64, .int x, .int l2] [] ((zua (zua (zua (zua ar 65 b65) 82 b82) 83 b83) 85 b85), (zuf fi 64 34 c64_34), (m1, m2, m3, m4, m5)) o
  refine zT_seg t7_md_minutesGo ?_
  refine zb_el h (fun hb h => zT_t hb ?_) (fun hb h => zT_f hb ?_)
  · have hz := zsi h hq
    refine (zO_mk ?_ ?_).trans hz
    · first | with_reducible rfl | (exact zuas_eq _ [(65, _), (82, _), (83, _), (85, _)] [(65, _), (82, _), (83, _), (85, _)] [65, 82, 83, 85] rfl rfl ⟨rfl, rfl, rfl, rfl, trivial⟩)
    · first | with_reducible rfl | (exact zufs_eq _ [(64, 34, _)] [(64, 34, _)] [(64, 34)] rfl rfl ⟨rfl, trivial⟩)
  · refine zg_el h (fun hg h => zT_g hg ?_)
    refine zb_el h (fun hb h => zT_t hb ?_) (fun hb h => zT_f hb ?_)
    · have hz := zsi h hq
      refine (zO_mk ?_ ?_).trans hz
      · first | with_reducible rfl | (exact zuas_eq _ [(65, _), (82, _), (83, _), (85, _)] [(65, _), (82, _), (83, _), (85, _)] [65, 82, 83, 85] rfl rfl ⟨rfl, rfl, rfl, rfl, trivial⟩)
      · first | with_reducible rfl | (exact zufs_eq _ [(64, 34, _)] [(64, 34, _)] [(64, 34)] rfl rfl ⟨rfl, trivial⟩)
    · refine zbd_el h (fun v1 hv h => zT_c hv ?_)
      have hz := zsi h hq
      refine zR2_hp ?_ ?_ hz
      · first | with_reducible rfl | (exact zuas_eq _ [(65, _), (82, _), (83, _), (85, _), (65, _), (82, _), (83, _), (85, _)] [(65, _), (82, _), (83, _), (85, _)] [65, 82, 83, 85] rfl rfl ⟨rfl, rfl, rfl, rfl, trivial⟩)
      · first | with_reducible rfl | (exact zufs_eq _ [(64, 34, _), (64, 34, _)] [(64, 34, _)] [(64, 34)] rfl rfl ⟨rfl, trivial⟩)
set_option maxRecDepth 20000 in
theorem t_md_minutesGo {X : Nat × (Nat → Int32)} {ar fi : Nat → Nat → Int32} {m1 m2 m3 m4 m5 : Nat} {x : Int32} {Q_md_minuteGoes : (Nat → Int32) → (Nat → Int32) → (Nat → Int32) → (Nat → Int32) → (Nat → Int32) → (Nat → Int32) → (Nat → Int32) → (Nat → Int32) → (Nat → Int32) → (Nat → Int32) → Int32 → Int32 → Option ((Nat → Int32) × (Nat → Int32) × (Nat → Int32) × (Nat → Int32) × Int32)} : zseg X zFT (zEx 205 (P_md_minuteGoes Q_md_minuteGoes) zE0) zc_206 (fun p => Nat.beq p 7) 400 0 [.ref 64, .int x] [] (ar, fi, (m1, m2, m3, m4, m5)) = (
  some (.inl (7, [.ref 64, .int x, .int 0], [], (ar, (zuf fi 64 34 0), (m1, m2, m3, m4, m5)))) : Option ((Nat × List Value × List Value × zH2) ⊕ zO2)) := rfl
theorem e_md_minutesGo {X : Nat × (Nat → Int32)} {ar fi : Nat → Nat → Int32} {m1 m2 m3 m4 m5 : Nat} {x : Int32} {o : zO2} : ∀ (q : T_md_minutesGo), q_md_minutesGo x (ar 65) (ar 68) (ar 77) (ar 78) (ar 79) (ar 80) (ar 81) (ar 82) (ar 83) (ar 85) (fi 64 15) = some q → (fun t => O_md_minutesGo ar fi m1 m2 m3 m4 m5 t = o) q → zR2 X zFT (zEx 205 S_md_minuteGoes zE0) zc_206 0 [.ref 64, .int x] [] (ar, fi, (m1, m2, m3, m4, m5)) o := by
  intro q h hq
  unfold q_md_minutesGo at h
  refine zT_seg t_md_minutesGo ?_
  refine zR2_hp ?_ ?_ (zlp_K k_md_minutesGo_7 h hq)
  · first | with_reducible rfl | (exact zuas_eq _ [] [(65, _), (82, _), (83, _), (85, _)] [65, 82, 83, 85] rfl rfl ⟨rfl, rfl, rfl, rfl, trivial⟩)
  · first | with_reducible rfl | (exact zufs_eq _ [(64, 34, _)] [(64, 34, _)] [(64, 34)] rfl rfl ⟨rfl, trivial⟩)
theorem ok_md_minutesGo (X : Nat × (Nat → Int32)) : zOkS X 206 S_md_minutesGo 9 := zOkS_new (zOkE_cons (ok_md_minuteGoes X) (by decide) (zOkE_nil X 8)) (by
  intro args g o h
  obtain ⟨ar, fi, m1, m2, m3, m4, m5⟩ := g
  unfold S_md_minutesGo P_md_minutesGo at h
  split at h
  · refine zb_el h (fun hI0 k0 => ?_) (fun _ h10 => ?_)
    · try simp only [Bool.and_eq_true] at hI0
      have j0 := hI0
      have e0 := Nat.eq_of_beq_eq_true j0
      subst e0
      exact zpe_el k0 (fun t ht ho => e_md_minutesGo t ht ho)
    · cases h10
  · cases h)
abbrev T_md_minutes : Type := Int32 × (Nat → Int32) × (Nat → Int32) × (Nat → Int32) × (Nat → Int32) × Int32
noncomputable def q_md_minutes (x : Int32) (a65 : Nat → Int32) (a68 : Nat → Int32) (a77 : Nat → Int32) (a78 : Nat → Int32) (a79 : Nat → Int32) (a80 : Nat → Int32) (a81 : Nat → Int32) (a82 : Nat → Int32) (a83 : Nat → Int32) (a85 : Nat → Int32) (f64_15 : Int32) (f64_34 : Int32) : Option T_md_minutes :=
  zl (w_md_in x 1 100) (fun v1 =>
  bif !decide (v1 = 0) then
   zbd (q_md_minutesGo x a65 a68 a77 a78 a79 a80 a81 a82 a83 a85 (f64_15)) (fun v2 =>
   zl (w_md_faring 1 ((v2.1))) (fun v3 =>
   some (v3, ((v2.1)), ((v2.2.1)), ((v2.2.2.1)), ((v2.2.2.2.1)), (v2.2.2.2.2))))
  else
   some ((-1), a65, a82, a83, a85, f64_34))
def P_md_minutes (Q : Int32 → (Nat → Int32) → (Nat → Int32) → (Nat → Int32) → (Nat → Int32) → (Nat → Int32) → (Nat → Int32) → (Nat → Int32) → (Nat → Int32) → (Nat → Int32) → (Nat → Int32) → Int32 → Int32 → Option (Int32 × (Nat → Int32) × (Nat → Int32) × (Nat → Int32) × (Nat → Int32) × Int32)) : zSp := fun as g => match as with
  | [.ref a, .int x] => bif Nat.beq a 64 then zpe (Q x (g.1 65) (g.1 68) (g.1 77) (g.1 78) (g.1 79) (g.1 80) (g.1 81) (g.1 82) (g.1 83) (g.1 85) (g.2.1 64 15) (g.2.1 64 34)) (fun t => (some (.int (t.1)), ((zua (zua (zua (zua g.1 65 t.2.1) 82 t.2.2.1) 83 t.2.2.2.1) 85 t.2.2.2.2.1), (zuf g.2.1 64 34 t.2.2.2.2.2), g.2.2))) else none
  | _ => none
noncomputable abbrev S_md_minutes : zSp := P_md_minutes q_md_minutes
def O_md_minutes (ar fi : Nat → Nat → Int32) (m1 : Nat) (m2 : Nat) (m3 : Nat) (m4 : Nat) (m5 : Nat) (t : T_md_minutes) : zO2 := (some (.int (t.1)), ((zua (zua (zua (zua ar 65 t.2.1) 82 t.2.2.1) 83 t.2.2.2.1) 85 t.2.2.2.2.1), (zuf fi 64 34 t.2.2.2.2.2), (m1, m2, m3, m4, m5)))
set_option maxRecDepth 20000 in
theorem t_md_minutes {X : Nat × (Nat → Int32)} {ar fi : Nat → Nat → Int32} {m1 m2 m3 m4 m5 : Nat} {x : Int32} {W_md_in : Int32 → Int32 → Int32 → Int32} {Q_md_minutesGo : Int32 → (Nat → Int32) → (Nat → Int32) → (Nat → Int32) → (Nat → Int32) → (Nat → Int32) → (Nat → Int32) → (Nat → Int32) → (Nat → Int32) → (Nat → Int32) → (Nat → Int32) → Int32 → Option ((Nat → Int32) × (Nat → Int32) × (Nat → Int32) × (Nat → Int32) × Int32)} {W_md_faring : Int32 → (Nat → Int32) → Int32} : zseg X zFT (zEx 143 (P_md_in W_md_in) (zEx 206 (P_md_minutesGo Q_md_minutesGo) (zEx 207 (P_md_faring W_md_faring) zE0))) zc_208 (fun p => false) 400 0 [.ref 64, .int x] [] (ar, fi, (m1, m2, m3, m4, m5)) = (
  zl (W_md_in x 1 100) (fun v1 =>
  bif !decide (v1 = 0) then
   zl (Q_md_minutesGo x (ar 65) (ar 68) (ar 77) (ar 78) (ar 79) (ar 80) (ar 81) (ar 82) (ar 83) (ar 85) (fi 64 15)) (fun v2 => zg v2.isSome (
   zl (W_md_faring 1 (((zgt v2).1))) (fun v3 =>
   some (.inr (some (.int v3), ((zua (zua (zua (zua ar 65 (((zgt v2).1))) 82 (((zgt v2).2.1))) 83 (((zgt v2).2.2.1))) 85 (((zgt v2).2.2.2.1))), (zuf fi 64 34 (((zgt v2).2.2.2.2))), (m1, m2, m3, m4, m5)))))))
  else
   some (.inr (some (.int (-1)), (ar, fi, (m1, m2, m3, m4, m5))))) : Option ((Nat × List Value × List Value × zH2) ⊕ zO2)) := rfl
theorem e_md_minutes {X : Nat × (Nat → Int32)} {ar fi : Nat → Nat → Int32} {m1 m2 m3 m4 m5 : Nat} {x : Int32} {o : zO2} : ∀ (q : T_md_minutes), q_md_minutes x (ar 65) (ar 68) (ar 77) (ar 78) (ar 79) (ar 80) (ar 81) (ar 82) (ar 83) (ar 85) (fi 64 15) (fi 64 34) = some q → (fun t => O_md_minutes ar fi m1 m2 m3 m4 m5 t = o) q → zR2 X zFT (zEx 143 S_md_in (zEx 206 S_md_minutesGo (zEx 207 S_md_faring zE0))) zc_208 0 [.ref 64, .int x] [] (ar, fi, (m1, m2, m3, m4, m5)) o := by
  intro q h hq
  unfold q_md_minutes at h
  refine zT_seg t_md_minutes ?_
  refine zl_el h (fun h => zT_l ?_)
  refine zb_el h (fun hb h => zT_t hb ?_) (fun hb h => zT_f hb ?_)
  · refine zbd_el h (fun v2 hv h => zT_c hv ?_)
    refine zl_el h (fun h => zT_l ?_)
    have hz := zsi h hq
    refine (zO_mk ?_ ?_).trans hz
    · first | with_reducible rfl | (exact zuas_eq _ [(65, _), (82, _), (83, _), (85, _)] [(65, _), (82, _), (83, _), (85, _)] [65, 82, 83, 85] rfl rfl ⟨rfl, rfl, rfl, rfl, trivial⟩)
    · first | with_reducible rfl | (exact zufs_eq _ [(64, 34, _)] [(64, 34, _)] [(64, 34)] rfl rfl ⟨rfl, trivial⟩)
  · have hz := zsi h hq
    refine (zO_mk ?_ ?_).trans hz
    · first | with_reducible rfl | (exact zuas_eq _ [] [(65, _), (82, _), (83, _), (85, _)] [65, 82, 83, 85] rfl rfl ⟨rfl, rfl, rfl, rfl, trivial⟩)
    · first | with_reducible rfl | (exact zufs_eq _ [] [(64, 34, _)] [(64, 34)] rfl rfl ⟨rfl, trivial⟩)
theorem ok_md_minutes (X : Nat × (Nat → Int32)) : zOkS X 208 S_md_minutes 10 := zOkS_new (zOkE_cons (ok_md_in X) (by decide) (zOkE_cons (ok_md_minutesGo X) (by decide) (zOkE_cons (ok_md_faring X) (by decide) (zOkE_nil X 9)))) (by
  intro args g o h
  obtain ⟨ar, fi, m1, m2, m3, m4, m5⟩ := g
  unfold S_md_minutes P_md_minutes at h
  split at h
  · refine zb_el h (fun hI0 k0 => ?_) (fun _ h10 => ?_)
    · try simp only [Bool.and_eq_true] at hI0
      have j0 := hI0
      have e0 := Nat.eq_of_beq_eq_true j0
      subst e0
      exact zpe_el k0 (fun t ht ho => e_md_minutes t ht ho)
    · cases h10
  · cases h)
abbrev T_md_tried : Type := Int32 × (Nat → Int32) × (Nat → Int32) × (Nat → Int32) × (Nat → Int32) × (Nat → Int32) × Int32
noncomputable def q_md_tried (x : Int32) (y : Int32) (a65 : Nat → Int32) (a66 : Nat → Int32) (a68 : Nat → Int32) (a77 : Nat → Int32) (a78 : Nat → Int32) (a79 : Nat → Int32) (a80 : Nat → Int32) (a81 : Nat → Int32) (a82 : Nat → Int32) (a83 : Nat → Int32) (a85 : Nat → Int32) (f64_15 : Int32) (f64_34 : Int32) : Option T_md_tried :=
  zl (w_md_in x 1 100) (fun v1 =>
  bif decide (v1 = 0) then
   some ((-1), a65, a66, a82, a83, a85, f64_34)
  else
   zl (w_md_in y 0 4) (fun v2 =>
   bif !decide (v2 = 0) then
    zl (a0_md_copies a65 a66) (fun v3 =>
    zbd (q_md_minutesGo x a65 a68 a77 a78 a79 a80 a81 a82 a83 a85 (f64_15)) (fun v4 =>
    bif decide (y = 0) then
     zl (w_md_faring 1 ((v4.1))) (fun v12 =>
     zl (a0_md_copies v3 ((v4.1))) (fun v13 =>
     some (v12, v13, v3, ((v4.2.1)), ((v4.2.2.1)), ((v4.2.2.2.1)), (v4.2.2.2.2))))
    else
     bif decide (y = 1) then
      zl (w_md_faring 2 ((v4.1))) (fun v10 =>
      zl (a0_md_copies v3 ((v4.1))) (fun v11 =>
      some (v10, v11, v3, ((v4.2.1)), ((v4.2.2.1)), ((v4.2.2.2.1)), (v4.2.2.2.2))))
     else
      bif decide (y = 2) then
       zl (a0_md_copies v3 ((v4.1))) (fun v9 =>
       some ((v4.2.2.2.2), v9, v3, ((v4.2.1)), ((v4.2.2.1)), ((v4.2.2.2.1)), (v4.2.2.2.2)))
      else
       bif decide (y = 3) then
        zl (w_md_goneSet ((v4.1))) (fun v7 =>
        zl (a0_md_copies v3 ((v4.1))) (fun v8 =>
        some (v7, v8, v3, ((v4.2.1)), ((v4.2.2.1)), ((v4.2.2.2.1)), (v4.2.2.2.2))))
       else
        zl (w_md_sumsInRuins ((v4.1))) (fun v5 =>
        zl (a0_md_copies v3 ((v4.1))) (fun v6 =>
        some (v5, v6, v3, ((v4.2.1)), ((v4.2.2.1)), ((v4.2.2.2.1)), (v4.2.2.2.2))))))
   else
    some ((-1), a65, a66, a82, a83, a85, f64_34)))
def P_md_tried (Q : Int32 → Int32 → (Nat → Int32) → (Nat → Int32) → (Nat → Int32) → (Nat → Int32) → (Nat → Int32) → (Nat → Int32) → (Nat → Int32) → (Nat → Int32) → (Nat → Int32) → (Nat → Int32) → (Nat → Int32) → Int32 → Int32 → Option (Int32 × (Nat → Int32) × (Nat → Int32) × (Nat → Int32) × (Nat → Int32) × (Nat → Int32) × Int32)) : zSp := fun as g => match as with
  | [.ref a, .int x, .int y] => bif Nat.beq a 64 then zpe (Q x y (g.1 65) (g.1 66) (g.1 68) (g.1 77) (g.1 78) (g.1 79) (g.1 80) (g.1 81) (g.1 82) (g.1 83) (g.1 85) (g.2.1 64 15) (g.2.1 64 34)) (fun t => (some (.int (t.1)), ((zua (zua (zua (zua (zua g.1 65 t.2.1) 66 t.2.2.1) 82 t.2.2.2.1) 83 t.2.2.2.2.1) 85 t.2.2.2.2.2.1), (zuf g.2.1 64 34 t.2.2.2.2.2.2), g.2.2))) else none
  | _ => none
noncomputable abbrev S_md_tried : zSp := P_md_tried q_md_tried
def O_md_tried (ar fi : Nat → Nat → Int32) (m1 : Nat) (m2 : Nat) (m3 : Nat) (m4 : Nat) (m5 : Nat) (t : T_md_tried) : zO2 := (some (.int (t.1)), ((zua (zua (zua (zua (zua ar 65 t.2.1) 66 t.2.2.1) 82 t.2.2.2.1) 83 t.2.2.2.2.1) 85 t.2.2.2.2.2.1), (zuf fi 64 34 t.2.2.2.2.2.2), (m1, m2, m3, m4, m5)))
set_option maxRecDepth 20000 in
theorem t_md_tried {X : Nat × (Nat → Int32)} {ar fi : Nat → Nat → Int32} {m1 m2 m3 m4 m5 : Nat} {x y : Int32} {W_md_in : Int32 → Int32 → Int32 → Int32} {A0_md_copies : (Nat → Int32) → (Nat → Int32) → Nat → Int32} {Q_md_minutesGo : Int32 → (Nat → Int32) → (Nat → Int32) → (Nat → Int32) → (Nat → Int32) → (Nat → Int32) → (Nat → Int32) → (Nat → Int32) → (Nat → Int32) → (Nat → Int32) → (Nat → Int32) → Int32 → Option ((Nat → Int32) × (Nat → Int32) × (Nat → Int32) × (Nat → Int32) × Int32)} {W_md_faring : Int32 → (Nat → Int32) → Int32} {W_md_goneSet : (Nat → Int32) → Int32} {W_md_sumsInRuins : (Nat → Int32) → Int32} : zseg X zFT (zEx 143 (P_md_in W_md_in) (zEx 148 (P_md_copies A0_md_copies) (zEx 206 (P_md_minutesGo Q_md_minutesGo) (zEx 207 (P_md_faring W_md_faring) (zEx 209 (P_md_goneSet W_md_goneSet) (zEx 210 (P_md_sumsInRuins W_md_sumsInRuins) zE0)))))) zc_211 (fun p => false) 400 0 [.ref 64, .int x, .int y] [] (ar, fi, (m1, m2, m3, m4, m5)) = (
  zl (W_md_in x 1 100) (fun v1 =>
  bif decide (v1 = 0) then
   some (.inr (some (.int (-1)), (ar, fi, (m1, m2, m3, m4, m5))))
  else
   zl (W_md_in y 0 4) (fun v2 =>
   bif !decide (v2 = 0) then
    zl (A0_md_copies (ar 65) (ar 66)) (fun v3 =>
    zl (Q_md_minutesGo x (ar 65) (ar 68) (ar 77) (ar 78) (ar 79) (ar 80) (ar 81) (ar 82) (ar 83) (ar 85) (fi 64 15)) (fun v4 => zg v4.isSome (
    bif decide (y = 0) then
     zl (W_md_faring 1 (((zgt v4).1))) (fun v12 =>
     zl (A0_md_copies v3 (((zgt v4).1))) (fun v13 =>
     some (.inr (some (.int v12), ((zua (zua (zua (zua (zua (zua ar 66 v3) 65 (((zgt v4).1))) 82 (((zgt v4).2.1))) 83 (((zgt v4).2.2.1))) 85 (((zgt v4).2.2.2.1))) 65 v13), (zuf fi 64 34 (((zgt v4).2.2.2.2))), (m1, m2, m3, m4, m5))))))
    else
     bif decide (y = 1) then
      zl (W_md_faring 2 (((zgt v4).1))) (fun v10 =>
      zl (A0_md_copies v3 (((zgt v4).1))) (fun v11 =>
      some (.inr (some (.int v10), ((zua (zua (zua (zua (zua (zua ar 66 v3) 65 (((zgt v4).1))) 82 (((zgt v4).2.1))) 83 (((zgt v4).2.2.1))) 85 (((zgt v4).2.2.2.1))) 65 v11), (zuf fi 64 34 (((zgt v4).2.2.2.2))), (m1, m2, m3, m4, m5))))))
     else
      bif decide (y = 2) then
       zl (A0_md_copies v3 (((zgt v4).1))) (fun v9 =>
       some (.inr (some (.int (((zgt v4).2.2.2.2))), ((zua (zua (zua (zua (zua (zua ar 66 v3) 65 (((zgt v4).1))) 82 (((zgt v4).2.1))) 83 (((zgt v4).2.2.1))) 85 (((zgt v4).2.2.2.1))) 65 v9), (zuf fi 64 34 (((zgt v4).2.2.2.2))), (m1, m2, m3, m4, m5)))))
      else
       bif decide (y = 3) then
        zl (W_md_goneSet (((zgt v4).1))) (fun v7 =>
        zl (A0_md_copies v3 (((zgt v4).1))) (fun v8 =>
        some (.inr (some (.int v7), ((zua (zua (zua (zua (zua (zua ar 66 v3) 65 (((zgt v4).1))) 82 (((zgt v4).2.1))) 83 (((zgt v4).2.2.1))) 85 (((zgt v4).2.2.2.1))) 65 v8), (zuf fi 64 34 (((zgt v4).2.2.2.2))), (m1, m2, m3, m4, m5))))))
       else
        zl (W_md_sumsInRuins (((zgt v4).1))) (fun v5 =>
        zl (A0_md_copies v3 (((zgt v4).1))) (fun v6 =>
        some (.inr (some (.int v5), ((zua (zua (zua (zua (zua (zua ar 66 v3) 65 (((zgt v4).1))) 82 (((zgt v4).2.1))) 83 (((zgt v4).2.2.1))) 85 (((zgt v4).2.2.2.1))) 65 v6), (zuf fi 64 34 (((zgt v4).2.2.2.2))), (m1, m2, m3, m4, m5)))))))))
   else
    some (.inr (some (.int (-1)), (ar, fi, (m1, m2, m3, m4, m5)))))) : Option ((Nat × List Value × List Value × zH2) ⊕ zO2)) := rfl
theorem e_md_tried {X : Nat × (Nat → Int32)} {ar fi : Nat → Nat → Int32} {m1 m2 m3 m4 m5 : Nat} {x y : Int32} {o : zO2} : ∀ (q : T_md_tried), q_md_tried x y (ar 65) (ar 66) (ar 68) (ar 77) (ar 78) (ar 79) (ar 80) (ar 81) (ar 82) (ar 83) (ar 85) (fi 64 15) (fi 64 34) = some q → (fun t => O_md_tried ar fi m1 m2 m3 m4 m5 t = o) q → zR2 X zFT (zEx 143 S_md_in (zEx 148 S_md_copies (zEx 206 S_md_minutesGo (zEx 207 S_md_faring (zEx 209 S_md_goneSet (zEx 210 S_md_sumsInRuins zE0)))))) zc_211 0 [.ref 64, .int x, .int y] [] (ar, fi, (m1, m2, m3, m4, m5)) o := by
  intro q h hq
  unfold q_md_tried at h
  refine zT_seg t_md_tried ?_
  refine zl_el h (fun h => zT_l ?_)
  refine zb_el h (fun hb h => zT_t hb ?_) (fun hb h => zT_f hb ?_)
  · have hz := zsi h hq
    refine (zO_mk ?_ ?_).trans hz
    · first | with_reducible rfl | (exact zuas_eq _ [] [(65, _), (66, _), (82, _), (83, _), (85, _)] [65, 66, 82, 83, 85] rfl rfl ⟨rfl, rfl, rfl, rfl, rfl, trivial⟩)
    · first | with_reducible rfl | (exact zufs_eq _ [] [(64, 34, _)] [(64, 34)] rfl rfl ⟨rfl, trivial⟩)
  · refine zl_el h (fun h => zT_l ?_)
    refine zb_el h (fun hb h => zT_t hb ?_) (fun hb h => zT_f hb ?_)
    · refine zl_el h (fun h => zT_l ?_)
      refine zbd_el h (fun v4 hv h => zT_c hv ?_)
      refine zb_el h (fun hb h => zT_t hb ?_) (fun hb h => zT_f hb ?_)
      · refine zl_el h (fun h => zT_l ?_)
        refine zl_el h (fun h => zT_l ?_)
        have hz := zsi h hq
        refine (zO_mk ?_ ?_).trans hz
        · first | with_reducible rfl | (exact zuas_eq _ [(66, _), (65, _), (82, _), (83, _), (85, _), (65, _)] [(65, _), (66, _), (82, _), (83, _), (85, _)] [65, 66, 82, 83, 85] rfl rfl ⟨rfl, rfl, rfl, rfl, rfl, trivial⟩)
        · first | with_reducible rfl | (exact zufs_eq _ [(64, 34, _)] [(64, 34, _)] [(64, 34)] rfl rfl ⟨rfl, trivial⟩)
      · refine zb_el h (fun hb h => zT_t hb ?_) (fun hb h => zT_f hb ?_)
        · refine zl_el h (fun h => zT_l ?_)
          refine zl_el h (fun h => zT_l ?_)
          have hz := zsi h hq
          refine (zO_mk ?_ ?_).trans hz
          · first | with_reducible rfl | (exact zuas_eq _ [(66, _), (65, _), (82, _), (83, _), (85, _), (65, _)] [(65, _), (66, _), (82, _), (83, _), (85, _)] [65, 66, 82, 83, 85] rfl rfl ⟨rfl, rfl, rfl, rfl, rfl, trivial⟩)
          · first | with_reducible rfl | (exact zufs_eq _ [(64, 34, _)] [(64, 34, _)] [(64, 34)] rfl rfl ⟨rfl, trivial⟩)
        · refine zb_el h (fun hb h => zT_t hb ?_) (fun hb h => zT_f hb ?_)
          · refine zl_el h (fun h => zT_l ?_)
            have hz := zsi h hq
            refine (zO_mk ?_ ?_).trans hz
            · first | with_reducible rfl | (exact zuas_eq _ [(66, _), (65, _), (82, _), (83, _), (85, _), (65, _)] [(65, _), (66, _), (82, _), (83, _), (85, _)] [65, 66, 82, 83, 85] rfl rfl ⟨rfl, rfl, rfl, rfl, rfl, trivial⟩)
            · first | with_reducible rfl | (exact zufs_eq _ [(64, 34, _)] [(64, 34, _)] [(64, 34)] rfl rfl ⟨rfl, trivial⟩)
          · refine zb_el h (fun hb h => zT_t hb ?_) (fun hb h => zT_f hb ?_)
            · refine zl_el h (fun h => zT_l ?_)
              refine zl_el h (fun h => zT_l ?_)
              have hz := zsi h hq
              refine (zO_mk ?_ ?_).trans hz
              · first | with_reducible rfl | (exact zuas_eq _ [(66, _), (65, _), (82, _), (83, _), (85, _), (65, _)] [(65, _), (66, _), (82, _), (83, _), (85, _)] [65, 66, 82, 83, 85] rfl rfl ⟨rfl, rfl, rfl, rfl, rfl, trivial⟩)
              · first | with_reducible rfl | (exact zufs_eq _ [(64, 34, _)] [(64, 34, _)] [(64, 34)] rfl rfl ⟨rfl, trivial⟩)
            · refine zl_el h (fun h => zT_l ?_)
              refine zl_el h (fun h => zT_l ?_)
              have hz := zsi h hq
              refine (zO_mk ?_ ?_).trans hz
              · first | with_reducible rfl | (exact zuas_eq _ [(66, _), (65, _), (82, _), (83, _), (85, _), (65, _)] [(65, _), (66, _), (82, _), (83, _), (85, _)] [65, 66, 82, 83, 85] rfl rfl ⟨rfl, rfl, rfl, rfl, rfl, trivial⟩)
              · first | with_reducible rfl | (exact zufs_eq _ [(64, 34, _)] [(64, 34, _)] [(64, 34)] rfl rfl ⟨rfl, trivial⟩)
    · have hz := zsi h hq
      refine (zO_mk ?_ ?_).trans hz
      · first | with_reducible rfl | (exact zuas_eq _ [] [(65, _), (66, _), (82, _), (83, _), (85, _)] [65, 66, 82, 83, 85] rfl rfl ⟨rfl, rfl, rfl, rfl, rfl, trivial⟩)
      · first | with_reducible rfl | (exact zufs_eq _ [] [(64, 34, _)] [(64, 34)] rfl rfl ⟨rfl, trivial⟩)
theorem ok_md_tried (X : Nat × (Nat → Int32)) : zOkS X 211 S_md_tried 10 := zOkS_new (zOkE_cons (ok_md_in X) (by decide) (zOkE_cons (ok_md_copies X) (by decide) (zOkE_cons (ok_md_minutesGo X) (by decide) (zOkE_cons (ok_md_faring X) (by decide) (zOkE_cons (ok_md_goneSet X) (by decide) (zOkE_cons (ok_md_sumsInRuins X) (by decide) (zOkE_nil X 9))))))) (by
  intro args g o h
  obtain ⟨ar, fi, m1, m2, m3, m4, m5⟩ := g
  unfold S_md_tried P_md_tried at h
  split at h
  · refine zb_el h (fun hI0 k0 => ?_) (fun _ h10 => ?_)
    · try simp only [Bool.and_eq_true] at hI0
      have j0 := hI0
      have e0 := Nat.eq_of_beq_eq_true j0
      subst e0
      exact zpe_el k0 (fun t ht ho => e_md_tried t ht ho)
    · cases h10
  · cases h)
abbrev T_md_comes : Type := Int32 × (Nat → Int32) × (Nat → Int32) × (Nat → Int32) × (Nat → Int32) × (Nat → Int32) × Int32
abbrev U_md_comes_42 : Type := Int32 × (Nat → Int32) × (Nat → Int32) × (Nat → Int32) × (Nat → Int32) × Int32
noncomputable def b_md_comes_42 (z : Int32) (a68 : Nat → Int32) (a77 : Nat → Int32) (a78 : Nat → Int32) (a79 : Nat → Int32) (a80 : Nat → Int32) (a81 : Nat → Int32) (f64_15 : Int32) (l4 : Int32) (b66 : Nat → Int32) (l5 : Int32) (b65 : Nat → Int32) (b82 : Nat → Int32) (b83 : Nat → Int32) (b85 : Nat → Int32) (c64_34 : Int32) : Option (U_md_comes_42 ⊕ T_md_comes) :=
  zg (zin (0 + l4) 315) (
  bif !decide (b65 ((0 + l4).toNatClampNeg) = 0) then
   zg (zin (0 + l4) 315) (
   bif decide (b65 ((0 + l4).toNatClampNeg) = 0) then
    zl (a0_md_copies b66 b65) (fun v4 =>
    some (.inr ((-2), v4, b66, b82, b83, b85, c64_34)))
   else
    zl (a0_md_copies b66 b65) (fun v5 =>
    some (.inr (l5, v5, b66, b82, b83, b85, c64_34))))
  else
   bif decide (z ≤ l5) then
    zg (zin (0 + l4) 315) (
    bif decide (b65 ((0 + l4).toNatClampNeg) = 0) then
     zl (a0_md_copies b66 b65) (fun v6 =>
     some (.inr ((-2), v6, b66, b82, b83, b85, c64_34)))
    else
     zl (a0_md_copies b66 b65) (fun v7 =>
     some (.inr (l5, v7, b66, b82, b83, b85, c64_34))))
   else
    zg (zin 313 315) (
    bif decide (9999 ≤ b65 ((313 : Int32).toNatClampNeg)) then
     zg (zin (0 + l4) 315) (
     bif decide (b65 ((0 + l4).toNatClampNeg) = 0) then
      zl (a0_md_copies b66 b65) (fun v8 =>
      some (.inr ((-2), v8, b66, b82, b83, b85, c64_34)))
     else
      zl (a0_md_copies b66 b65) (fun v9 =>
      some (.inr (l5, v9, b66, b82, b83, b85, c64_34))))
    else
     zbd (q_md_minuteGoes b65 a68 a77 a78 a79 a80 a81 b82 b83 b85 (f64_15) c64_34) (fun v10 =>
     some (.inl (l5 + 1, ((v10.1)), ((v10.2.1)), ((v10.2.2.1)), ((v10.2.2.2.1)), (v10.2.2.2.2))))))
noncomputable def f_md_comes_42 (z : Int32) (a68 : Nat → Int32) (a77 : Nat → Int32) (a78 : Nat → Int32) (a79 : Nat → Int32) (a80 : Nat → Int32) (a81 : Nat → Int32) (f64_15 : Int32) (l4 : Int32) (b66 : Nat → Int32) : U_md_comes_42 → Option (U_md_comes_42 ⊕ T_md_comes) := fun s => b_md_comes_42 z a68 a77 a78 a79 a80 a81 f64_15 l4 b66 s.1 s.2.1 s.2.2.1 s.2.2.2.1 s.2.2.2.2.1 s.2.2.2.2.2
noncomputable def l_md_comes_42 (z : Int32) (a68 : Nat → Int32) (a77 : Nat → Int32) (a78 : Nat → Int32) (a79 : Nat → Int32) (a80 : Nat → Int32) (a81 : Nat → Int32) (f64_15 : Int32) (l4 : Int32) (b66 : Nat → Int32) (l5 : Int32) (b65 : Nat → Int32) (b82 : Nat → Int32) (b83 : Nat → Int32) (b85 : Nat → Int32) (c64_34 : Int32) : Option T_md_comes := zlp (f_md_comes_42 z a68 a77 a78 a79 a80 a81 f64_15 l4 b66) (l5, b65, b82, b83, b85, c64_34)
noncomputable def q_md_comes (x : Int32) (y : Int32) (z : Int32) (a65 : Nat → Int32) (a66 : Nat → Int32) (a68 : Nat → Int32) (a77 : Nat → Int32) (a78 : Nat → Int32) (a79 : Nat → Int32) (a80 : Nat → Int32) (a81 : Nat → Int32) (a82 : Nat → Int32) (a83 : Nat → Int32) (a85 : Nat → Int32) (f64_15 : Int32) (f64_34 : Int32) : Option T_md_comes :=
  zl (w_md_isSpot x y) (fun v1 =>
  bif decide (v1 = 0) then
   some ((-1), a65, a66, a82, a83, a85, f64_34)
  else
   zl (w_md_in z 1 100) (fun v2 =>
   bif !decide (v2 = 0) then
    zl (a0_md_copies a65 a66) (fun v3 =>
    l_md_comes_42 z a68 a77 a78 a79 a80 a81 f64_15 ((12 * y) + x) v3 0 a65 a82 a83 a85 (f64_34))
   else
    some ((-1), a65, a66, a82, a83, a85, f64_34)))
def P_md_comes (Q : Int32 → Int32 → Int32 → (Nat → Int32) → (Nat → Int32) → (Nat → Int32) → (Nat → Int32) → (Nat → Int32) → (Nat → Int32) → (Nat → Int32) → (Nat → Int32) → (Nat → Int32) → (Nat → Int32) → (Nat → Int32) → Int32 → Int32 → Option (Int32 × (Nat → Int32) × (Nat → Int32) × (Nat → Int32) × (Nat → Int32) × (Nat → Int32) × Int32)) : zSp := fun as g => match as with
  | [.ref a, .int x, .int y, .int z] => bif Nat.beq a 64 then zpe (Q x y z (g.1 65) (g.1 66) (g.1 68) (g.1 77) (g.1 78) (g.1 79) (g.1 80) (g.1 81) (g.1 82) (g.1 83) (g.1 85) (g.2.1 64 15) (g.2.1 64 34)) (fun t => (some (.int (t.1)), ((zua (zua (zua (zua (zua g.1 65 t.2.1) 66 t.2.2.1) 82 t.2.2.2.1) 83 t.2.2.2.2.1) 85 t.2.2.2.2.2.1), (zuf g.2.1 64 34 t.2.2.2.2.2.2), g.2.2))) else none
  | _ => none
noncomputable abbrev S_md_comes : zSp := P_md_comes q_md_comes
def O_md_comes (ar fi : Nat → Nat → Int32) (m1 : Nat) (m2 : Nat) (m3 : Nat) (m4 : Nat) (m5 : Nat) (t : T_md_comes) : zO2 := (some (.int (t.1)), ((zua (zua (zua (zua (zua ar 65 t.2.1) 66 t.2.2.1) 82 t.2.2.2.1) 83 t.2.2.2.2.1) 85 t.2.2.2.2.2.1), (zuf fi 64 34 t.2.2.2.2.2.2), (m1, m2, m3, m4, m5)))
def M_md_comes_42 (X : Nat × (Nat → Int32)) (E : zTE) (ar fi : Nat → Nat → Int32) (m1 : Nat) (m2 : Nat) (m3 : Nat) (m4 : Nat) (m5 : Nat) (x : Int32) (y : Int32) (z : Int32) (l4 : Int32) (b66 : Nat → Int32) (o : zO2) (s : U_md_comes_42) : Prop := zR2 X zFT E zc_215 42 [.ref 64, .int x, .int y, .int z, .int l4, .int s.1] [] ((zua (zua (zua (zua (zua ar 65 s.2.1) 66 b66) 82 s.2.2.1) 83 s.2.2.2.1) 85 s.2.2.2.2.1), (zuf fi 64 34 s.2.2.2.2.2), (m1, m2, m3, m4, m5)) o
set_option maxRecDepth 20000 in
theorem t42_md_comes {X : Nat × (Nat → Int32)} {ar fi : Nat → Nat → Int32} {m1 m2 m3 m4 m5 : Nat} {x y z : Int32} {l4 : Int32} {l5 : Int32} {b65 : Nat → Int32} {b66 : Nat → Int32} {b82 : Nat → Int32} {b83 : Nat → Int32} {b85 : Nat → Int32} {c64_34 : Int32} {W_md_isSpot : Int32 → Int32 → Int32} {W_md_in : Int32 → Int32 → Int32 → Int32} {A0_md_copies : (Nat → Int32) → (Nat → Int32) → Nat → Int32} {Q_md_minuteGoes : (Nat → Int32) → (Nat → Int32) → (Nat → Int32) → (Nat → Int32) → (Nat → Int32) → (Nat → Int32) → (Nat → Int32) → (Nat → Int32) → (Nat → Int32) → (Nat → Int32) → Int32 → Int32 → Option ((Nat → Int32) × (Nat → Int32) × (Nat → Int32) × (Nat → Int32) × Int32)} : zseg X zFT (zEx 150 (P_md_isSpot W_md_isSpot) (zEx 143 (P_md_in W_md_in) (zEx 148 (P_md_copies A0_md_copies) (zEx 205 (P_md_minuteGoes Q_md_minuteGoes) zE0)))) zc_215 (fun p => Nat.beq p 42) 400 42 [.ref 64, .int x, .int y, .int z, .int l4, .int l5] [] ((zua (zua (zua (zua (zua ar 65 b65) 66 b66) 82 b82) 83 b83) 85 b85), (zuf fi 64 34 c64_34), (m1, m2, m3, m4, m5)) = (
  zg (zin (0 + l4) 315) (
  bif !decide (b65 ((0 + l4).toNatClampNeg) = 0) then
   zg (zin (0 + l4) 315) (
   bif decide (b65 ((0 + l4).toNatClampNeg) = 0) then
    zl (A0_md_copies b66 b65) (fun v4 =>
    some (.inr (some (.int (-2)), ((zua (zua (zua (zua (zua (zua ar 65 b65) 66 b66) 82 b82) 83 b83) 85 b85) 65 v4), (zuf fi 64 34 c64_34), (m1, m2, m3, m4, m5)))))
   else
    zl (A0_md_copies b66 b65) (fun v5 =>
    some (.inr (some (.int l5), ((zua (zua (zua (zua (zua (zua ar 65 b65) 66 b66) 82 b82) 83 b83) 85 b85) 65 v5), (zuf fi 64 34 c64_34), (m1, m2, m3, m4, m5))))))
  else
   bif decide (z ≤ l5) then
    zg (zin (0 + l4) 315) (
    bif decide (b65 ((0 + l4).toNatClampNeg) = 0) then
     zl (A0_md_copies b66 b65) (fun v6 =>
     some (.inr (some (.int (-2)), ((zua (zua (zua (zua (zua (zua ar 65 b65) 66 b66) 82 b82) 83 b83) 85 b85) 65 v6), (zuf fi 64 34 c64_34), (m1, m2, m3, m4, m5)))))
    else
     zl (A0_md_copies b66 b65) (fun v7 =>
     some (.inr (some (.int l5), ((zua (zua (zua (zua (zua (zua ar 65 b65) 66 b66) 82 b82) 83 b83) 85 b85) 65 v7), (zuf fi 64 34 c64_34), (m1, m2, m3, m4, m5))))))
   else
    zg (zin 313 315) (
    bif decide (9999 ≤ b65 ((313 : Int32).toNatClampNeg)) then
     zg (zin (0 + l4) 315) (
     bif decide (b65 ((0 + l4).toNatClampNeg) = 0) then
      zl (A0_md_copies b66 b65) (fun v8 =>
      some (.inr (some (.int (-2)), ((zua (zua (zua (zua (zua (zua ar 65 b65) 66 b66) 82 b82) 83 b83) 85 b85) 65 v8), (zuf fi 64 34 c64_34), (m1, m2, m3, m4, m5)))))
     else
      zl (A0_md_copies b66 b65) (fun v9 =>
      some (.inr (some (.int l5), ((zua (zua (zua (zua (zua (zua ar 65 b65) 66 b66) 82 b82) 83 b83) 85 b85) 65 v9), (zuf fi 64 34 c64_34), (m1, m2, m3, m4, m5))))))
    else
     zl (Q_md_minuteGoes b65 (ar 68) (ar 77) (ar 78) (ar 79) (ar 80) (ar 81) b82 b83 b85 (fi 64 15) c64_34) (fun v10 => zg v10.isSome (
     some (.inl (42, [.ref 64, .int x, .int y, .int z, .int l4, .int (l5 + 1)], [], ((zua (zua (zua (zua (zua (zua (zua (zua (zua ar 65 b65) 66 b66) 82 b82) 83 b83) 85 b85) 65 (((zgt v10).1))) 82 (((zgt v10).2.1))) 83 (((zgt v10).2.2.1))) 85 (((zgt v10).2.2.2.1))), (zuf (zuf fi 64 34 c64_34) 64 34 (((zgt v10).2.2.2.2))), (m1, m2, m3, m4, m5)))))))) : Option ((Nat × List Value × List Value × zH2) ⊕ zO2)) := rfl
theorem k_md_comes_42 {X : Nat × (Nat → Int32)} {ar fi : Nat → Nat → Int32} {m1 m2 m3 m4 m5 : Nat} {x y z : Int32} {l4 : Int32} {b66 : Nat → Int32} {o : zO2} : ∀ (s : U_md_comes_42) (q : U_md_comes_42 ⊕ T_md_comes), f_md_comes_42 z (ar 68) (ar 77) (ar 78) (ar 79) (ar 80) (ar 81) (fi 64 15) l4 b66 s = some q → zq (M_md_comes_42 X (zEx 150 S_md_isSpot (zEx 143 S_md_in (zEx 148 S_md_copies (zEx 205 S_md_minuteGoes zE0)))) ar fi m1 m2 m3 m4 m5 x y z l4 b66 o) (fun t => O_md_comes ar fi m1 m2 m3 m4 m5 t = o) q → M_md_comes_42 X (zEx 150 S_md_isSpot (zEx 143 S_md_in (zEx 148 S_md_copies (zEx 205 S_md_minuteGoes zE0)))) ar fi m1 m2 m3 m4 m5 x y z l4 b66 o s := by
  intro s q h hq
  obtain ⟨l5, b65, b82, b83, b85, c64_34⟩ := s
  have h : b_md_comes_42 z (ar 68) (ar 77) (ar 78) (ar 79) (ar 80) (ar 81) (fi 64 15) l4 b66 l5 b65 b82 b83 b85 c64_34 = some q := h
  unfold b_md_comes_42 at h
  show zR2 X zFT (zEx 150 S_md_isSpot (zEx 143 S_md_in (zEx 148 S_md_copies (zEx 205 S_md_minuteGoes zE0)))) zc_215 42 [.ref 64, .int x, .int y, .int z, .int l4, .int l5] [] ((zua (zua (zua (zua (zua ar 65 b65) 66 b66) 82 b82) 83 b83) 85 b85), (zuf fi 64 34 c64_34), (m1, m2, m3, m4, m5)) o
  refine zT_seg t42_md_comes ?_
  refine zg_el h (fun hg h => zT_g hg ?_)
  refine zb_el h (fun hb h => zT_t hb ?_) (fun hb h => zT_f hb ?_)
  · refine zg_el h (fun hg h => zT_g hg ?_)
    refine zb_el h (fun hb h => zT_t hb ?_) (fun hb h => zT_f hb ?_)
    · refine zl_el h (fun h => zT_l ?_)
      have hz := zsi h hq
      refine (zO_mk ?_ ?_).trans hz
      · first | with_reducible rfl | (exact zuas_eq _ [(65, _), (66, _), (82, _), (83, _), (85, _), (65, _)] [(65, _), (66, _), (82, _), (83, _), (85, _)] [65, 66, 82, 83, 85] rfl rfl ⟨rfl, rfl, rfl, rfl, rfl, trivial⟩)
      · first | with_reducible rfl | (exact zufs_eq _ [(64, 34, _)] [(64, 34, _)] [(64, 34)] rfl rfl ⟨rfl, trivial⟩)
    · refine zl_el h (fun h => zT_l ?_)
      have hz := zsi h hq
      refine (zO_mk ?_ ?_).trans hz
      · first | with_reducible rfl | (exact zuas_eq _ [(65, _), (66, _), (82, _), (83, _), (85, _), (65, _)] [(65, _), (66, _), (82, _), (83, _), (85, _)] [65, 66, 82, 83, 85] rfl rfl ⟨rfl, rfl, rfl, rfl, rfl, trivial⟩)
      · first | with_reducible rfl | (exact zufs_eq _ [(64, 34, _)] [(64, 34, _)] [(64, 34)] rfl rfl ⟨rfl, trivial⟩)
  · refine zb_el h (fun hb h => zT_t hb ?_) (fun hb h => zT_f hb ?_)
    · refine zg_el h (fun hg h => zT_g hg ?_)
      refine zb_el h (fun hb h => zT_t hb ?_) (fun hb h => zT_f hb ?_)
      · refine zl_el h (fun h => zT_l ?_)
        have hz := zsi h hq
        refine (zO_mk ?_ ?_).trans hz
        · first | with_reducible rfl | (exact zuas_eq _ [(65, _), (66, _), (82, _), (83, _), (85, _), (65, _)] [(65, _), (66, _), (82, _), (83, _), (85, _)] [65, 66, 82, 83, 85] rfl rfl ⟨rfl, rfl, rfl, rfl, rfl, trivial⟩)
        · first | with_reducible rfl | (exact zufs_eq _ [(64, 34, _)] [(64, 34, _)] [(64, 34)] rfl rfl ⟨rfl, trivial⟩)
      · refine zl_el h (fun h => zT_l ?_)
        have hz := zsi h hq
        refine (zO_mk ?_ ?_).trans hz
        · first | with_reducible rfl | (exact zuas_eq _ [(65, _), (66, _), (82, _), (83, _), (85, _), (65, _)] [(65, _), (66, _), (82, _), (83, _), (85, _)] [65, 66, 82, 83, 85] rfl rfl ⟨rfl, rfl, rfl, rfl, rfl, trivial⟩)
        · first | with_reducible rfl | (exact zufs_eq _ [(64, 34, _)] [(64, 34, _)] [(64, 34)] rfl rfl ⟨rfl, trivial⟩)
    · refine zg_el h (fun hg h => zT_g hg ?_)
      refine zb_el h (fun hb h => zT_t hb ?_) (fun hb h => zT_f hb ?_)
      · refine zg_el h (fun hg h => zT_g hg ?_)
        refine zb_el h (fun hb h => zT_t hb ?_) (fun hb h => zT_f hb ?_)
        · refine zl_el h (fun h => zT_l ?_)
          have hz := zsi h hq
          refine (zO_mk ?_ ?_).trans hz
          · first | with_reducible rfl | (exact zuas_eq _ [(65, _), (66, _), (82, _), (83, _), (85, _), (65, _)] [(65, _), (66, _), (82, _), (83, _), (85, _)] [65, 66, 82, 83, 85] rfl rfl ⟨rfl, rfl, rfl, rfl, rfl, trivial⟩)
          · first | with_reducible rfl | (exact zufs_eq _ [(64, 34, _)] [(64, 34, _)] [(64, 34)] rfl rfl ⟨rfl, trivial⟩)
        · refine zl_el h (fun h => zT_l ?_)
          have hz := zsi h hq
          refine (zO_mk ?_ ?_).trans hz
          · first | with_reducible rfl | (exact zuas_eq _ [(65, _), (66, _), (82, _), (83, _), (85, _), (65, _)] [(65, _), (66, _), (82, _), (83, _), (85, _)] [65, 66, 82, 83, 85] rfl rfl ⟨rfl, rfl, rfl, rfl, rfl, trivial⟩)
          · first | with_reducible rfl | (exact zufs_eq _ [(64, 34, _)] [(64, 34, _)] [(64, 34)] rfl rfl ⟨rfl, trivial⟩)
      · refine zbd_el h (fun v10 hv h => zT_c hv ?_)
        have hz := zsi h hq
        refine zR2_hp ?_ ?_ hz
        · first | with_reducible rfl | (exact zuas_eq _ [(65, _), (66, _), (82, _), (83, _), (85, _), (65, _), (82, _), (83, _), (85, _)] [(65, _), (66, _), (82, _), (83, _), (85, _)] [65, 66, 82, 83, 85] rfl rfl ⟨rfl, rfl, rfl, rfl, rfl, trivial⟩)
        · first | with_reducible rfl | (exact zufs_eq _ [(64, 34, _), (64, 34, _)] [(64, 34, _)] [(64, 34)] rfl rfl ⟨rfl, trivial⟩)
set_option maxRecDepth 20000 in
theorem t_md_comes {X : Nat × (Nat → Int32)} {ar fi : Nat → Nat → Int32} {m1 m2 m3 m4 m5 : Nat} {x y z : Int32} {W_md_isSpot : Int32 → Int32 → Int32} {W_md_in : Int32 → Int32 → Int32 → Int32} {A0_md_copies : (Nat → Int32) → (Nat → Int32) → Nat → Int32} {Q_md_minuteGoes : (Nat → Int32) → (Nat → Int32) → (Nat → Int32) → (Nat → Int32) → (Nat → Int32) → (Nat → Int32) → (Nat → Int32) → (Nat → Int32) → (Nat → Int32) → (Nat → Int32) → Int32 → Int32 → Option ((Nat → Int32) × (Nat → Int32) × (Nat → Int32) × (Nat → Int32) × Int32)} : zseg X zFT (zEx 150 (P_md_isSpot W_md_isSpot) (zEx 143 (P_md_in W_md_in) (zEx 148 (P_md_copies A0_md_copies) (zEx 205 (P_md_minuteGoes Q_md_minuteGoes) zE0)))) zc_215 (fun p => Nat.beq p 42) 400 0 [.ref 64, .int x, .int y, .int z] [] (ar, fi, (m1, m2, m3, m4, m5)) = (
  zl (W_md_isSpot x y) (fun v1 =>
  bif decide (v1 = 0) then
   some (.inr (some (.int (-1)), (ar, fi, (m1, m2, m3, m4, m5))))
  else
   zl (W_md_in z 1 100) (fun v2 =>
   bif !decide (v2 = 0) then
    zl (A0_md_copies (ar 65) (ar 66)) (fun v3 =>
    some (.inl (42, [.ref 64, .int x, .int y, .int z, .int ((12 * y) + x), .int 0], [], ((zua ar 66 v3), fi, (m1, m2, m3, m4, m5)))))
   else
    some (.inr (some (.int (-1)), (ar, fi, (m1, m2, m3, m4, m5)))))) : Option ((Nat × List Value × List Value × zH2) ⊕ zO2)) := rfl
theorem e_md_comes {X : Nat × (Nat → Int32)} {ar fi : Nat → Nat → Int32} {m1 m2 m3 m4 m5 : Nat} {x y z : Int32} {o : zO2} : ∀ (q : T_md_comes), q_md_comes x y z (ar 65) (ar 66) (ar 68) (ar 77) (ar 78) (ar 79) (ar 80) (ar 81) (ar 82) (ar 83) (ar 85) (fi 64 15) (fi 64 34) = some q → (fun t => O_md_comes ar fi m1 m2 m3 m4 m5 t = o) q → zR2 X zFT (zEx 150 S_md_isSpot (zEx 143 S_md_in (zEx 148 S_md_copies (zEx 205 S_md_minuteGoes zE0)))) zc_215 0 [.ref 64, .int x, .int y, .int z] [] (ar, fi, (m1, m2, m3, m4, m5)) o := by
  intro q h hq
  unfold q_md_comes at h
  refine zT_seg t_md_comes ?_
  refine zl_el h (fun h => zT_l ?_)
  refine zb_el h (fun hb h => zT_t hb ?_) (fun hb h => zT_f hb ?_)
  · have hz := zsi h hq
    refine (zO_mk ?_ ?_).trans hz
    · first | with_reducible rfl | (exact zuas_eq _ [] [(65, _), (66, _), (82, _), (83, _), (85, _)] [65, 66, 82, 83, 85] rfl rfl ⟨rfl, rfl, rfl, rfl, rfl, trivial⟩)
    · first | with_reducible rfl | (exact zufs_eq _ [] [(64, 34, _)] [(64, 34)] rfl rfl ⟨rfl, trivial⟩)
  · refine zl_el h (fun h => zT_l ?_)
    refine zb_el h (fun hb h => zT_t hb ?_) (fun hb h => zT_f hb ?_)
    · refine zl_el h (fun h => zT_l ?_)
      refine zR2_hp ?_ ?_ (zlp_K k_md_comes_42 h hq)
      · first | with_reducible rfl | (exact zuas_eq _ [(66, _)] [(65, _), (66, _), (82, _), (83, _), (85, _)] [65, 66, 82, 83, 85] rfl rfl ⟨rfl, rfl, rfl, rfl, rfl, trivial⟩)
      · first | with_reducible rfl | (exact zufs_eq _ [] [(64, 34, _)] [(64, 34)] rfl rfl ⟨rfl, trivial⟩)
    · have hz := zsi h hq
      refine (zO_mk ?_ ?_).trans hz
      · first | with_reducible rfl | (exact zuas_eq _ [] [(65, _), (66, _), (82, _), (83, _), (85, _)] [65, 66, 82, 83, 85] rfl rfl ⟨rfl, rfl, rfl, rfl, rfl, trivial⟩)
      · first | with_reducible rfl | (exact zufs_eq _ [] [(64, 34, _)] [(64, 34)] rfl rfl ⟨rfl, trivial⟩)
theorem ok_md_comes (X : Nat × (Nat → Int32)) : zOkS X 215 S_md_comes 9 := zOkS_new (zOkE_cons (ok_md_isSpot X) (by decide) (zOkE_cons (ok_md_in X) (by decide) (zOkE_cons (ok_md_copies X) (by decide) (zOkE_cons (ok_md_minuteGoes X) (by decide) (zOkE_nil X 8))))) (by
  intro args g o h
  obtain ⟨ar, fi, m1, m2, m3, m4, m5⟩ := g
  unfold S_md_comes P_md_comes at h
  split at h
  · refine zb_el h (fun hI0 k0 => ?_) (fun _ h10 => ?_)
    · try simp only [Bool.and_eq_true] at hI0
      have j0 := hI0
      have e0 := Nat.eq_of_beq_eq_true j0
      subst e0
      exact zpe_el k0 (fun t ht ho => e_md_comes t ht ho)
    · cases h10
  · cases h)
