abbrev T_md_byLaw : Type := Int32 × (Nat → Int32)
abbrev U_md_byLaw_3 : Type := Int32 × (Nat → Int32)
noncomputable def b_md_byLaw_3 (x : Int32) (y : Int32) (z : Int32) (a77 : Nat → Int32) (a78 : Nat → Int32) (a79 : Nat → Int32) (a80 : Nat → Int32) (a81 : Nat → Int32) (a83 : Nat → Int32) (f64_15 : Int32) (l4 : Int32) (b82 : Nat → Int32) : Option (U_md_byLaw_3 ⊕ T_md_byLaw) :=
  bif decide (f64_15 ≤ l4) then
   some (.inr (y, b82))
  else
   zg (zin l4 16) (
   bif !decide (a78 (l4.toNatClampNeg) = x) then
    some (.inl (l4 + 1, b82))
   else
    zg (zin l4 16) (
    zg (zin l4 16) (
    zbd (q_md_reckonsTo (a80 (l4.toNatClampNeg)) (a81 (l4.toNatClampNeg)) a77 b82 a83) (fun v1 =>
    bif decide ((v1.1) = 1) then
     zg (zin l4 16) (
     zg (zin l4 16) (
     zbd (q_md_reckonsTo (a79 (l4.toNatClampNeg)) (a80 (l4.toNatClampNeg)) a77 ((v1.2)) a83) (fun v2 =>
     bif decide (y ≤ (v2.1)) then
      bif decide ((v2.1) ≤ z) then
       some (.inr ((v2.1), ((v2.2))))
      else
       some (.inr (z, ((v2.2))))
     else
      some (.inr (y, ((v2.2)))))))
    else
     some (.inl (l4 + 1, ((v1.2))))))))
noncomputable def f_md_byLaw_3 (x : Int32) (y : Int32) (z : Int32) (a77 : Nat → Int32) (a78 : Nat → Int32) (a79 : Nat → Int32) (a80 : Nat → Int32) (a81 : Nat → Int32) (a83 : Nat → Int32) (f64_15 : Int32) : U_md_byLaw_3 → Option (U_md_byLaw_3 ⊕ T_md_byLaw) := fun s => b_md_byLaw_3 x y z a77 a78 a79 a80 a81 a83 f64_15 s.1 s.2
noncomputable def l_md_byLaw_3 (x : Int32) (y : Int32) (z : Int32) (a77 : Nat → Int32) (a78 : Nat → Int32) (a79 : Nat → Int32) (a80 : Nat → Int32) (a81 : Nat → Int32) (a83 : Nat → Int32) (f64_15 : Int32) (l4 : Int32) (b82 : Nat → Int32) : Option T_md_byLaw := zlp (f_md_byLaw_3 x y z a77 a78 a79 a80 a81 a83 f64_15) (l4, b82)
noncomputable def q_md_byLaw (x : Int32) (y : Int32) (z : Int32) (a77 : Nat → Int32) (a78 : Nat → Int32) (a79 : Nat → Int32) (a80 : Nat → Int32) (a81 : Nat → Int32) (a82 : Nat → Int32) (a83 : Nat → Int32) (f64_15 : Int32) : Option T_md_byLaw :=
  l_md_byLaw_3 x y z a77 a78 a79 a80 a81 a83 f64_15 0 a82
def P_md_byLaw (Q : Int32 → Int32 → Int32 → (Nat → Int32) → (Nat → Int32) → (Nat → Int32) → (Nat → Int32) → (Nat → Int32) → (Nat → Int32) → (Nat → Int32) → Int32 → Option (Int32 × (Nat → Int32))) : zSp := fun as g => match as with
  | [.ref a, .int x, .int y, .int z] => bif Nat.beq a 64 then zpe (Q x y z (g.1 77) (g.1 78) (g.1 79) (g.1 80) (g.1 81) (g.1 82) (g.1 83) (g.2.1 64 15)) (fun t => (some (.int (t.1)), ((zua g.1 82 t.2), g.2.1, g.2.2))) else none
  | _ => none
noncomputable abbrev S_md_byLaw : zSp := P_md_byLaw q_md_byLaw
theorem hA3_md_byLaw (F : Nat → Nat → Int32) : F = (zua F 82 (F 82)) := zuak_ix F [] [(82, none)] rfl
theorem hA2_md_byLaw (F : Nat → Nat → Int32) (w0 w1 : Nat → Int32) : (zua (zua F 82 w0) 82 w1) = (zua F 82 w1) := zuak_ix F [(82, w0), (82, w1)] [(82, some 1)] rfl
theorem hA1_md_byLaw (F : Nat → Nat → Int32) (w0 w1 w2 : Nat → Int32) : (zua (zua (zua F 82 w0) 82 w1) 82 w2) = (zua F 82 w2) := zuak_ix F [(82, w0), (82, w1), (82, w2)] [(82, some 2)] rfl
theorem hA0_md_byLaw (F : Nat → Nat → Int32) (w0 : Nat → Int32) : (zua F 82 w0) = (zua F 82 w0) := zuak_ix F [(82, w0)] [(82, some 0)] rfl
def O_md_byLaw (ar fi : Nat → Nat → Int32) (m1 : Nat) (m2 : Nat) (m3 : Nat) (m4 : Nat) (m5 : Nat) (t : T_md_byLaw) : zO2 := match t with
  | (t0, t1) => (some (.int (t0)), ((zua ar 82 t1), fi, (m1, m2, m3, m4, m5)))
def M_md_byLaw_3 (X : Nat × (Nat → Int32)) (E : zTE) (ar fi : Nat → Nat → Int32) (m1 : Nat) (m2 : Nat) (m3 : Nat) (m4 : Nat) (m5 : Nat) (x : Int32) (y : Int32) (z : Int32) (o : zO2) (s : U_md_byLaw_3) : Prop := match s with
  | (l4, b82) => zR2 X zFT E zc_182 3 [.ref 64, .int x, .int y, .int z, .int l4] [] ((zua ar 82 b82), fi, (m1, m2, m3, m4, m5)) o
set_option maxRecDepth 1000000 in
theorem t3_md_byLaw {X : Nat × (Nat → Int32)} {ar fi : Nat → Nat → Int32} {m1 m2 m3 m4 m5 : Nat} {x y z : Int32} {l4 : Int32} {b82 : Nat → Int32} {Q_md_reckonsTo : Int32 → Int32 → (Nat → Int32) → (Nat → Int32) → (Nat → Int32) → Option (Int32 × (Nat → Int32))} : zseg X zFT (zEx 181 (P_md_reckonsTo Q_md_reckonsTo) zE0) zc_182 (fun p => Nat.beq p 3) 400 3 [.ref 64, .int x, .int y, .int z, .int l4] [] ((zua ar 82 b82), fi, (m1, m2, m3, m4, m5)) = (
  bif decide (fi 64 15 ≤ l4) then
   some (.inr (some (.int y), ((zua ar 82 b82), fi, (m1, m2, m3, m4, m5))))
  else
   zg (Nat.beq 16 16 && (zin l4 16)) (
   bif !decide ((ar 78) (l4.toNatClampNeg) = x) then
    some (.inl (3, [.ref 64, .int x, .int y, .int z, .int (l4 + 1)], [], ((zua ar 82 b82), fi, (m1, m2, m3, m4, m5))))
   else
    zg (Nat.beq 16 16 && (zin l4 16)) (
    zg (Nat.beq 16 16 && (zin l4 16)) (
    zl (Q_md_reckonsTo ((ar 80) (l4.toNatClampNeg)) ((ar 81) (l4.toNatClampNeg)) (ar 77) b82 (ar 83)) (fun v1 => zg v1.isSome (
    bif decide (((zgt v1).1) = 1) then
     zg (Nat.beq 16 16 && (zin l4 16)) (
     zg (Nat.beq 16 16 && (zin l4 16)) (
     zl (Q_md_reckonsTo ((ar 79) (l4.toNatClampNeg)) ((ar 80) (l4.toNatClampNeg)) (ar 77) (((zgt v1).2)) (ar 83)) (fun v2 => zg v2.isSome (
     bif decide (y ≤ ((zgt v2).1)) then
      bif decide (((zgt v2).1) ≤ z) then
       some (.inr (some (.int (((zgt v2).1))), ((zua (zua (zua ar 82 b82) 82 (((zgt v1).2))) 82 (((zgt v2).2))), fi, (m1, m2, m3, m4, m5))))
      else
       some (.inr (some (.int z), ((zua (zua (zua ar 82 b82) 82 (((zgt v1).2))) 82 (((zgt v2).2))), fi, (m1, m2, m3, m4, m5))))
     else
      some (.inr (some (.int y), ((zua (zua (zua ar 82 b82) 82 (((zgt v1).2))) 82 (((zgt v2).2))), fi, (m1, m2, m3, m4, m5))))))))
    else
     some (.inl (3, [.ref 64, .int x, .int y, .int z, .int (l4 + 1)], [], ((zua (zua ar 82 b82) 82 (((zgt v1).2))), fi, (m1, m2, m3, m4, m5))))))))) : Option ((Nat × List Value × List Value × zH2) ⊕ zO2)) := by with_unfolding_all rfl
set_option maxRecDepth 20000 in
theorem k_md_byLaw_3 {X : Nat × (Nat → Int32)} {ar fi : Nat → Nat → Int32} {m1 m2 m3 m4 m5 : Nat} {x y z : Int32} {o : zO2} : ∀ (s : U_md_byLaw_3) (q : U_md_byLaw_3 ⊕ T_md_byLaw), f_md_byLaw_3 x y z (ar 77) (ar 78) (ar 79) (ar 80) (ar 81) (ar 83) (fi 64 15) s = some q → zq (M_md_byLaw_3 X (zEx 181 S_md_reckonsTo zE0) ar fi m1 m2 m3 m4 m5 x y z o) (fun t => O_md_byLaw ar fi m1 m2 m3 m4 m5 t = o) q → M_md_byLaw_3 X (zEx 181 S_md_reckonsTo zE0) ar fi m1 m2 m3 m4 m5 x y z o s := by
  intro s q h hq
  obtain ⟨l4, b82⟩ := s
  have h : b_md_byLaw_3 x y z (ar 77) (ar 78) (ar 79) (ar 80) (ar 81) (ar 83) (fi 64 15) l4 b82 = some q := h
  unfold b_md_byLaw_3 at h
  show zR2 X zFT (zEx 181 S_md_reckonsTo zE0) zc_182 3 [.ref 64, .int x, .int y, .int z, .int l4] [] ((zua ar 82 b82), fi, (m1, m2, m3, m4, m5)) o
  refine zT_seg t3_md_byLaw ?_
  obtain ⟨TT, hTT⟩ : ∃ T, T = zT X zFT (zEx 181 S_md_reckonsTo zE0) zc_182 o := ⟨_, rfl⟩
  rw [← hTT]
  refine zb_el h (fun hb h => zU_t hTT hb ?_) (fun hb h => zU_f hTT hb ?_)
  · rw [hTT]
    have hz := zsi h hq
    refine (zO_mk ?_ ?_).trans hz
    · first | with_reducible rfl | exact hA0_md_byLaw _ _
    · first | with_reducible rfl | rfl
  · refine zg_el h (fun hg h => zU_ga hTT hg ?_)
    refine zb_el h (fun hb h => zU_t hTT hb ?_) (fun hb h => zU_f hTT hb ?_)
    · rw [hTT]
      have hz := zsi h hq
      refine zR2_hp ?_ ?_ hz
      · first | with_reducible rfl | exact hA0_md_byLaw _ _
      · first | with_reducible rfl | rfl
    · refine zg_el h (fun hg h => zU_ga hTT hg ?_)
      refine zg_el h (fun hg h => zU_ga hTT hg ?_)
      refine zbd_el h (fun v1 hv h => zU_c hTT hv ?_)
      refine zb_el h (fun hb h => zU_t hTT hb ?_) (fun hb h => zU_f hTT hb ?_)
      · refine zg_el h (fun hg h => zU_ga hTT hg ?_)
        refine zg_el h (fun hg h => zU_ga hTT hg ?_)
        refine zbd_el h (fun v2 hv h => zU_c hTT hv ?_)
        refine zb_el h (fun hb h => zU_t hTT hb ?_) (fun hb h => zU_f hTT hb ?_)
        · refine zb_el h (fun hb h => zU_t hTT hb ?_) (fun hb h => zU_f hTT hb ?_)
          · rw [hTT]
            have hz := zsi h hq
            refine (zO_mk ?_ ?_).trans hz
            · first | with_reducible rfl | exact hA1_md_byLaw _ _ _ _
            · first | with_reducible rfl | rfl
          · rw [hTT]
            have hz := zsi h hq
            refine (zO_mk ?_ ?_).trans hz
            · first | with_reducible rfl | exact hA1_md_byLaw _ _ _ _
            · first | with_reducible rfl | rfl
        · rw [hTT]
          have hz := zsi h hq
          refine (zO_mk ?_ ?_).trans hz
          · first | with_reducible rfl | exact hA1_md_byLaw _ _ _ _
          · first | with_reducible rfl | rfl
      · rw [hTT]
        have hz := zsi h hq
        refine zR2_hp ?_ ?_ hz
        · first | with_reducible rfl | exact hA2_md_byLaw _ _ _
        · first | with_reducible rfl | rfl
set_option maxRecDepth 1000000 in
theorem t_md_byLaw {X : Nat × (Nat → Int32)} {ar fi : Nat → Nat → Int32} {m1 m2 m3 m4 m5 : Nat} {x y z : Int32} {Q_md_reckonsTo : Int32 → Int32 → (Nat → Int32) → (Nat → Int32) → (Nat → Int32) → Option (Int32 × (Nat → Int32))} : zseg X zFT (zEx 181 (P_md_reckonsTo Q_md_reckonsTo) zE0) zc_182 (fun p => Nat.beq p 3) 400 0 [.ref 64, .int x, .int y, .int z] [] (ar, fi, (m1, m2, m3, m4, m5)) = (
  some (.inl (3, [.ref 64, .int x, .int y, .int z, .int 0], [], (ar, fi, (m1, m2, m3, m4, m5)))) : Option ((Nat × List Value × List Value × zH2) ⊕ zO2)) := by with_unfolding_all rfl
set_option maxRecDepth 20000 in
theorem e_md_byLaw {X : Nat × (Nat → Int32)} {ar fi : Nat → Nat → Int32} {m1 m2 m3 m4 m5 : Nat} {x y z : Int32} {o : zO2} : ∀ (q : T_md_byLaw), q_md_byLaw x y z (ar 77) (ar 78) (ar 79) (ar 80) (ar 81) (ar 82) (ar 83) (fi 64 15) = some q → (fun t => O_md_byLaw ar fi m1 m2 m3 m4 m5 t = o) q → zR2 X zFT (zEx 181 S_md_reckonsTo zE0) zc_182 0 [.ref 64, .int x, .int y, .int z] [] (ar, fi, (m1, m2, m3, m4, m5)) o := by
  intro q h hq
  unfold q_md_byLaw at h
  refine zT_seg t_md_byLaw ?_
  obtain ⟨TT, hTT⟩ : ∃ T, T = zT X zFT (zEx 181 S_md_reckonsTo zE0) zc_182 o := ⟨_, rfl⟩
  rw [← hTT]
  rw [hTT]
  refine zR2_hp ?_ ?_ (zlp_K k_md_byLaw_3 h hq)
  · first | with_reducible rfl | exact hA3_md_byLaw _
  · first | with_reducible rfl | rfl
theorem ok_md_byLaw (X : Nat × (Nat → Int32)) : zOkS X 182 S_md_byLaw 3 := zOkS_new (zOkE_cons (ok_md_reckonsTo X) (by decide) (zOkE_nil X 2)) (by
  intro args g o h
  obtain ⟨ar, fi, m1, m2, m3, m4, m5⟩ := g
  unfold S_md_byLaw P_md_byLaw at h
  split at h
  · refine zb_el h (fun hI0 k0 => ?_) (fun _ h10 => ?_)
    · try simp only [Bool.and_eq_true] at hI0
      have j0 := hI0
      have e0 := Nat.eq_of_beq_eq_true j0
      subst e0
      exact zpe_el k0 (fun t ht ho => by obtain ⟨t0, t1⟩ := t; exact e_md_byLaw _ ht ho)
    · cases h10
  · cases h)
