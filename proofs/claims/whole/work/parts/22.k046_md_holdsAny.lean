abbrev T_md_holdsAny : Type := Int32 × (Nat → Int32)
abbrev U_md_holdsAny_2 : Type := Int32 × (Nat → Int32)
noncomputable def b_md_holdsAny_2 (x : Int32) (a77 : Nat → Int32) (a78 : Nat → Int32) (a80 : Nat → Int32) (a81 : Nat → Int32) (a83 : Nat → Int32) (f64_15 : Int32) (l2 : Int32) (b82 : Nat → Int32) : Option (U_md_holdsAny_2 ⊕ T_md_holdsAny) :=
  bif decide (f64_15 ≤ l2) then
   some (.inr (0, b82))
  else
   zg (zin l2 16) (
   bif !decide (a78 (l2.toNatClampNeg) = x) then
    some (.inl (l2 + 1, b82))
   else
    zg (zin l2 16) (
    zg (zin l2 16) (
    zbd (q_md_reckonsTo (a80 (l2.toNatClampNeg)) (a81 (l2.toNatClampNeg)) a77 b82 a83) (fun v1 =>
    bif !decide ((v1.1) = 1) then
     some (.inl (l2 + 1, ((v1.2))))
    else
     some (.inr (1, ((v1.2))))))))
noncomputable def f_md_holdsAny_2 (x : Int32) (a77 : Nat → Int32) (a78 : Nat → Int32) (a80 : Nat → Int32) (a81 : Nat → Int32) (a83 : Nat → Int32) (f64_15 : Int32) : U_md_holdsAny_2 → Option (U_md_holdsAny_2 ⊕ T_md_holdsAny) := fun s => b_md_holdsAny_2 x a77 a78 a80 a81 a83 f64_15 s.1 s.2
noncomputable def l_md_holdsAny_2 (x : Int32) (a77 : Nat → Int32) (a78 : Nat → Int32) (a80 : Nat → Int32) (a81 : Nat → Int32) (a83 : Nat → Int32) (f64_15 : Int32) (l2 : Int32) (b82 : Nat → Int32) : Option T_md_holdsAny := zlp (f_md_holdsAny_2 x a77 a78 a80 a81 a83 f64_15) (l2, b82)
noncomputable def q_md_holdsAny (x : Int32) (a77 : Nat → Int32) (a78 : Nat → Int32) (a80 : Nat → Int32) (a81 : Nat → Int32) (a82 : Nat → Int32) (a83 : Nat → Int32) (f64_15 : Int32) : Option T_md_holdsAny :=
  l_md_holdsAny_2 x a77 a78 a80 a81 a83 f64_15 0 a82
def P_md_holdsAny (Q : Int32 → (Nat → Int32) → (Nat → Int32) → (Nat → Int32) → (Nat → Int32) → (Nat → Int32) → (Nat → Int32) → Int32 → Option (Int32 × (Nat → Int32))) : zSp := fun as g => match as with
  | [.ref a, .int x] => bif Nat.beq a 64 then zpe (Q x (g.1 77) (g.1 78) (g.1 80) (g.1 81) (g.1 82) (g.1 83) (g.2.1 64 15)) (fun t => (some (.int (t.1)), ((zua g.1 82 t.2), g.2.1, g.2.2))) else none
  | _ => none
noncomputable abbrev S_md_holdsAny : zSp := P_md_holdsAny q_md_holdsAny
theorem hA2_md_holdsAny (F : Nat → Nat → Int32) : F = (zua F 82 (F 82)) := zuak_ix F [] [(82, none)] rfl
theorem hA1_md_holdsAny (F : Nat → Nat → Int32) (w0 w1 : Nat → Int32) : (zua (zua F 82 w0) 82 w1) = (zua F 82 w1) := zuak_ix F [(82, w0), (82, w1)] [(82, some 1)] rfl
theorem hA0_md_holdsAny (F : Nat → Nat → Int32) (w0 : Nat → Int32) : (zua F 82 w0) = (zua F 82 w0) := zuak_ix F [(82, w0)] [(82, some 0)] rfl
def O_md_holdsAny (ar fi : Nat → Nat → Int32) (m1 : Nat) (m2 : Nat) (m3 : Nat) (m4 : Nat) (m5 : Nat) (t : T_md_holdsAny) : zO2 := match t with
  | (t0, t1) => (some (.int (t0)), ((zua ar 82 t1), fi, (m1, m2, m3, m4, m5)))
def M_md_holdsAny_2 (X : Nat × (Nat → Int32)) (E : zTE) (ar fi : Nat → Nat → Int32) (m1 : Nat) (m2 : Nat) (m3 : Nat) (m4 : Nat) (m5 : Nat) (x : Int32) (o : zO2) (s : U_md_holdsAny_2) : Prop := match s with
  | (l2, b82) => zR2 X zFT E zc_183 2 [.ref 64, .int x, .int l2] [] ((zua ar 82 b82), fi, (m1, m2, m3, m4, m5)) o
set_option maxRecDepth 1000000 in
theorem t2_md_holdsAny {X : Nat × (Nat → Int32)} {ar fi : Nat → Nat → Int32} {m1 m2 m3 m4 m5 : Nat} {x : Int32} {l2 : Int32} {b82 : Nat → Int32} {Q_md_reckonsTo : Int32 → Int32 → (Nat → Int32) → (Nat → Int32) → (Nat → Int32) → Option (Int32 × (Nat → Int32))} : zseg X zFT (zEx 181 (P_md_reckonsTo Q_md_reckonsTo) zE0) zc_183 (fun p => Nat.beq p 2) 400 2 [.ref 64, .int x, .int l2] [] ((zua ar 82 b82), fi, (m1, m2, m3, m4, m5)) = (
  bif decide (fi 64 15 ≤ l2) then
   some (.inr (some (.int 0), ((zua ar 82 b82), fi, (m1, m2, m3, m4, m5))))
  else
   zg (Nat.beq 16 16 && (zin l2 16)) (
   bif !decide ((ar 78) (l2.toNatClampNeg) = x) then
    some (.inl (2, [.ref 64, .int x, .int (l2 + 1)], [], ((zua ar 82 b82), fi, (m1, m2, m3, m4, m5))))
   else
    zg (Nat.beq 16 16 && (zin l2 16)) (
    zg (Nat.beq 16 16 && (zin l2 16)) (
    zl (Q_md_reckonsTo ((ar 80) (l2.toNatClampNeg)) ((ar 81) (l2.toNatClampNeg)) (ar 77) b82 (ar 83)) (fun v1 => zg v1.isSome (
    bif !decide (((zgt v1).1) = 1) then
     some (.inl (2, [.ref 64, .int x, .int (l2 + 1)], [], ((zua (zua ar 82 b82) 82 (((zgt v1).2))), fi, (m1, m2, m3, m4, m5))))
    else
     some (.inr (some (.int 1), ((zua (zua ar 82 b82) 82 (((zgt v1).2))), fi, (m1, m2, m3, m4, m5))))))))) : Option ((Nat × List Value × List Value × zH2) ⊕ zO2)) := by with_unfolding_all rfl
set_option maxRecDepth 20000 in
theorem k_md_holdsAny_2 {X : Nat × (Nat → Int32)} {ar fi : Nat → Nat → Int32} {m1 m2 m3 m4 m5 : Nat} {x : Int32} {o : zO2} : ∀ (s : U_md_holdsAny_2) (q : U_md_holdsAny_2 ⊕ T_md_holdsAny), f_md_holdsAny_2 x (ar 77) (ar 78) (ar 80) (ar 81) (ar 83) (fi 64 15) s = some q → zq (M_md_holdsAny_2 X (zEx 181 S_md_reckonsTo zE0) ar fi m1 m2 m3 m4 m5 x o) (fun t => O_md_holdsAny ar fi m1 m2 m3 m4 m5 t = o) q → M_md_holdsAny_2 X (zEx 181 S_md_reckonsTo zE0) ar fi m1 m2 m3 m4 m5 x o s := by
  intro s q h hq
  obtain ⟨l2, b82⟩ := s
  have h : b_md_holdsAny_2 x (ar 77) (ar 78) (ar 80) (ar 81) (ar 83) (fi 64 15) l2 b82 = some q := h
  unfold b_md_holdsAny_2 at h
  show zR2 X zFT (zEx 181 S_md_reckonsTo zE0) zc_183 2 [.ref 64, .int x, .int l2] [] ((zua ar 82 b82), fi, (m1, m2, m3, m4, m5)) o
  refine zT_seg t2_md_holdsAny ?_
  obtain ⟨TT, hTT⟩ : ∃ T, T = zT X zFT (zEx 181 S_md_reckonsTo zE0) zc_183 o := ⟨_, rfl⟩
  rw [← hTT]
  refine zb_el h (fun hb h => zU_t hTT hb ?_) (fun hb h => zU_f hTT hb ?_)
  · rw [hTT]
    have hz := zsi h hq
    refine (zO_mk ?_ ?_).trans hz
    · first | with_reducible rfl | exact hA0_md_holdsAny _ _
    · first | with_reducible rfl | rfl
  · refine zg_el h (fun hg h => zU_ga hTT hg ?_)
    refine zb_el h (fun hb h => zU_t hTT hb ?_) (fun hb h => zU_f hTT hb ?_)
    · rw [hTT]
      have hz := zsi h hq
      refine zR2_hp ?_ ?_ hz
      · first | with_reducible rfl | exact hA0_md_holdsAny _ _
      · first | with_reducible rfl | rfl
    · refine zg_el h (fun hg h => zU_ga hTT hg ?_)
      refine zg_el h (fun hg h => zU_ga hTT hg ?_)
      refine zbd_el h (fun v1 hv h => zU_c hTT hv ?_)
      refine zb_el h (fun hb h => zU_t hTT hb ?_) (fun hb h => zU_f hTT hb ?_)
      · rw [hTT]
        have hz := zsi h hq
        refine zR2_hp ?_ ?_ hz
        · first | with_reducible rfl | exact hA1_md_holdsAny _ _ _
        · first | with_reducible rfl | rfl
      · rw [hTT]
        have hz := zsi h hq
        refine (zO_mk ?_ ?_).trans hz
        · first | with_reducible rfl | exact hA1_md_holdsAny _ _ _
        · first | with_reducible rfl | rfl
set_option maxRecDepth 1000000 in
theorem t_md_holdsAny {X : Nat × (Nat → Int32)} {ar fi : Nat → Nat → Int32} {m1 m2 m3 m4 m5 : Nat} {x : Int32} {Q_md_reckonsTo : Int32 → Int32 → (Nat → Int32) → (Nat → Int32) → (Nat → Int32) → Option (Int32 × (Nat → Int32))} : zseg X zFT (zEx 181 (P_md_reckonsTo Q_md_reckonsTo) zE0) zc_183 (fun p => Nat.beq p 2) 400 0 [.ref 64, .int x] [] (ar, fi, (m1, m2, m3, m4, m5)) = (
  some (.inl (2, [.ref 64, .int x, .int 0], [], (ar, fi, (m1, m2, m3, m4, m5)))) : Option ((Nat × List Value × List Value × zH2) ⊕ zO2)) := by with_unfolding_all rfl
set_option maxRecDepth 20000 in
theorem e_md_holdsAny {X : Nat × (Nat → Int32)} {ar fi : Nat → Nat → Int32} {m1 m2 m3 m4 m5 : Nat} {x : Int32} {o : zO2} : ∀ (q : T_md_holdsAny), q_md_holdsAny x (ar 77) (ar 78) (ar 80) (ar 81) (ar 82) (ar 83) (fi 64 15) = some q → (fun t => O_md_holdsAny ar fi m1 m2 m3 m4 m5 t = o) q → zR2 X zFT (zEx 181 S_md_reckonsTo zE0) zc_183 0 [.ref 64, .int x] [] (ar, fi, (m1, m2, m3, m4, m5)) o := by
  intro q h hq
  unfold q_md_holdsAny at h
  refine zT_seg t_md_holdsAny ?_
  obtain ⟨TT, hTT⟩ : ∃ T, T = zT X zFT (zEx 181 S_md_reckonsTo zE0) zc_183 o := ⟨_, rfl⟩
  rw [← hTT]
  rw [hTT]
  refine zR2_hp ?_ ?_ (zlp_K k_md_holdsAny_2 h hq)
  · first | with_reducible rfl | exact hA2_md_holdsAny _
  · first | with_reducible rfl | rfl
theorem ok_md_holdsAny (X : Nat × (Nat → Int32)) : zOkS X 183 S_md_holdsAny 3 := zOkS_new (zOkE_cons (ok_md_reckonsTo X) (by decide) (zOkE_nil X 2)) (by
  intro args g o h
  obtain ⟨ar, fi, m1, m2, m3, m4, m5⟩ := g
  unfold S_md_holdsAny P_md_holdsAny at h
  split at h
  · refine zb_el h (fun hI0 k0 => ?_) (fun _ h10 => ?_)
    · try simp only [Bool.and_eq_true] at hI0
      have j0 := hI0
      have e0 := Nat.eq_of_beq_eq_true j0
      subst e0
      exact zpe_el k0 (fun t ht ho => by obtain ⟨t0, t1⟩ := t; exact e_md_holdsAny _ ht ho)
    · cases h10
  · cases h)
