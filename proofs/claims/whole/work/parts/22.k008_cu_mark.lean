abbrev T_cu_mark : Type := (Nat → Int32)
abbrev U_cu_mark_3 : Type := Int32 × (Nat → Int32)
def b_cu_mark_3 (x : Int32) (y : Int32) (z : Int32) (l4 : Int32) (b59 : Nat → Int32) : Option (U_cu_mark_3 ⊕ T_cu_mark) :=
  bif decide (4 ≤ l4) then
   some (.inr b59)
  else
   zl (w_if_nextTo x l4) (fun v1 =>
   bif !decide (v1 = y) then
    some (.inl (l4 + 1, b59))
   else
    zg (zin ((4 * x) + l4) 384) (
    some (.inl (l4 + 1, (zup b59 (((4 * x) + l4).toNatClampNeg) (z &&& 1))))))
def f_cu_mark_3 (x : Int32) (y : Int32) (z : Int32) : U_cu_mark_3 → Option (U_cu_mark_3 ⊕ T_cu_mark) := fun s => b_cu_mark_3 x y z s.1 s.2
noncomputable def l_cu_mark_3 (x : Int32) (y : Int32) (z : Int32) (l4 : Int32) (b59 : Nat → Int32) : Option T_cu_mark := zlp (f_cu_mark_3 x y z) (l4, b59)
noncomputable def q_cu_mark (x : Int32) (y : Int32) (z : Int32) (a59 : Nat → Int32) : Option T_cu_mark :=
  l_cu_mark_3 x y z 0 a59
def P_cu_mark (Q : Int32 → Int32 → Int32 → (Nat → Int32) → Option ((Nat → Int32))) : zSp := fun as g => match as with
  | [.ref a, .int x, .int y, .int z] => bif Nat.beq a 57 then zpe (Q x y z (g.1 59)) (fun t => (none, ((zua g.1 59 t), g.2.1, g.2.2))) else none
  | _ => none
noncomputable abbrev S_cu_mark : zSp := P_cu_mark q_cu_mark
theorem hA2_cu_mark (F : Nat → Nat → Int32) : F = (zua F 59 (F 59)) := zuak_ix F [] [(59, none)] rfl
theorem hA1_cu_mark (F : Nat → Nat → Int32) (w0 w1 : Nat → Int32) : (zua (zua F 59 w0) 59 w1) = (zua F 59 w1) := zuak_ix F [(59, w0), (59, w1)] [(59, some 1)] rfl
theorem hA0_cu_mark (F : Nat → Nat → Int32) (w0 : Nat → Int32) : (zua F 59 w0) = (zua F 59 w0) := zuak_ix F [(59, w0)] [(59, some 0)] rfl
def O_cu_mark (ar fi : Nat → Nat → Int32) (m1 : Nat) (m2 : Nat) (m3 : Nat) (m4 : Nat) (m5 : Nat) (t : T_cu_mark) : zO2 := (none, ((zua ar 59 t), fi, (m1, m2, m3, m4, m5)))
def M_cu_mark_3 (X : Nat × (Nat → Int32)) (E : zTE) (ar fi : Nat → Nat → Int32) (m1 : Nat) (m2 : Nat) (m3 : Nat) (m4 : Nat) (m5 : Nat) (x : Int32) (y : Int32) (z : Int32) (o : zO2) (s : U_cu_mark_3) : Prop := match s with
  | (l4, b59) => zR2 X zFT E zc_18 3 [.ref 57, .int x, .int y, .int z, .int l4] [] ((zua ar 59 b59), fi, (m1, m2, m3, m4, m5)) o
set_option maxRecDepth 1000000 in
theorem t3_cu_mark {X : Nat × (Nat → Int32)} {ar fi : Nat → Nat → Int32} {m1 m2 m3 m4 m5 : Nat} {x y z : Int32} {l4 : Int32} {b59 : Nat → Int32} {W_if_nextTo : Int32 → Int32 → Int32} : zseg X zFT (zEx 140 (P_if_nextTo W_if_nextTo) zE0) zc_18 (fun p => Nat.beq p 3) 400 3 [.ref 57, .int x, .int y, .int z, .int l4] [] ((zua ar 59 b59), fi, (m1, m2, m3, m4, m5)) = (
  bif decide (4 ≤ l4) then
   some (.inr (none, ((zua ar 59 b59), fi, (m1, m2, m3, m4, m5))))
  else
   zl (W_if_nextTo x l4) (fun v1 =>
   bif !decide (v1 = y) then
    some (.inl (3, [.ref 57, .int x, .int y, .int z, .int (l4 + 1)], [], ((zua ar 59 b59), fi, (m1, m2, m3, m4, m5))))
   else
    zg ((Nat.beq 18 17 || Nat.beq 18 18) && (zin ((4 * x) + l4) 384)) (
    some (.inl (3, [.ref 57, .int x, .int y, .int z, .int (l4 + 1)], [], ((zua (zua ar 59 b59) 59 (zup b59 (((4 * x) + l4).toNatClampNeg) (z &&& 1))), fi, (m1, m2, m3, m4, m5)))))) : Option ((Nat × List Value × List Value × zH2) ⊕ zO2)) := by with_unfolding_all rfl
set_option maxRecDepth 20000 in
theorem k_cu_mark_3 {X : Nat × (Nat → Int32)} {ar fi : Nat → Nat → Int32} {m1 m2 m3 m4 m5 : Nat} {x y z : Int32} {o : zO2} : ∀ (s : U_cu_mark_3) (q : U_cu_mark_3 ⊕ T_cu_mark), f_cu_mark_3 x y z s = some q → zq (M_cu_mark_3 X (zEx 140 S_if_nextTo zE0) ar fi m1 m2 m3 m4 m5 x y z o) (fun t => O_cu_mark ar fi m1 m2 m3 m4 m5 t = o) q → M_cu_mark_3 X (zEx 140 S_if_nextTo zE0) ar fi m1 m2 m3 m4 m5 x y z o s := by
  intro s q h hq
  obtain ⟨l4, b59⟩ := s
  have h : b_cu_mark_3 x y z l4 b59 = some q := h
  unfold b_cu_mark_3 at h
  show zR2 X zFT (zEx 140 S_if_nextTo zE0) zc_18 3 [.ref 57, .int x, .int y, .int z, .int l4] [] ((zua ar 59 b59), fi, (m1, m2, m3, m4, m5)) o
  refine zT_seg t3_cu_mark ?_
  obtain ⟨TT, hTT⟩ : ∃ T, T = zT X zFT (zEx 140 S_if_nextTo zE0) zc_18 o := ⟨_, rfl⟩
  rw [← hTT]
  refine zb_el h (fun hb h => zU_t hTT hb ?_) (fun hb h => zU_f hTT hb ?_)
  · rw [hTT]
    have hz := zsi h hq
    refine (zO_mk ?_ ?_).trans hz
    · first | with_reducible rfl | exact hA0_cu_mark _ _
    · first | with_reducible rfl | rfl
  · refine zl_el h (fun h => zU_l hTT ?_)
    refine zb_el h (fun hb h => zU_t hTT hb ?_) (fun hb h => zU_f hTT hb ?_)
    · rw [hTT]
      have hz := zsi h hq
      refine zR2_hp ?_ ?_ hz
      · first | with_reducible rfl | exact hA0_cu_mark _ _
      · first | with_reducible rfl | rfl
    · refine zg_el h (fun hg h => zU_gc hTT hg ?_)
      rw [hTT]
      have hz := zsi h hq
      refine zR2_hp ?_ ?_ hz
      · first | with_reducible rfl | exact hA1_cu_mark _ _ _
      · first | with_reducible rfl | rfl
set_option maxRecDepth 1000000 in
theorem t_cu_mark {X : Nat × (Nat → Int32)} {ar fi : Nat → Nat → Int32} {m1 m2 m3 m4 m5 : Nat} {x y z : Int32} {W_if_nextTo : Int32 → Int32 → Int32} : zseg X zFT (zEx 140 (P_if_nextTo W_if_nextTo) zE0) zc_18 (fun p => Nat.beq p 3) 400 0 [.ref 57, .int x, .int y, .int z] [] (ar, fi, (m1, m2, m3, m4, m5)) = (
  some (.inl (3, [.ref 57, .int x, .int y, .int z, .int 0], [], (ar, fi, (m1, m2, m3, m4, m5)))) : Option ((Nat × List Value × List Value × zH2) ⊕ zO2)) := by with_unfolding_all rfl
set_option maxRecDepth 20000 in
theorem e_cu_mark {X : Nat × (Nat → Int32)} {ar fi : Nat → Nat → Int32} {m1 m2 m3 m4 m5 : Nat} {x y z : Int32} {o : zO2} : ∀ (q : T_cu_mark), q_cu_mark x y z (ar 59) = some q → (fun t => O_cu_mark ar fi m1 m2 m3 m4 m5 t = o) q → zR2 X zFT (zEx 140 S_if_nextTo zE0) zc_18 0 [.ref 57, .int x, .int y, .int z] [] (ar, fi, (m1, m2, m3, m4, m5)) o := by
  intro q h hq
  unfold q_cu_mark at h
  refine zT_seg t_cu_mark ?_
  obtain ⟨TT, hTT⟩ : ∃ T, T = zT X zFT (zEx 140 S_if_nextTo zE0) zc_18 o := ⟨_, rfl⟩
  rw [← hTT]
  rw [hTT]
  refine zR2_hp ?_ ?_ (zlp_K k_cu_mark_3 h hq)
  · first | with_reducible rfl | exact hA2_cu_mark _
  · first | with_reducible rfl | rfl
theorem ok_cu_mark (X : Nat × (Nat → Int32)) : zOkS X 18 S_cu_mark 2 := zOkS_new (zOkE_cons (ok_if_nextTo X) (by decide) (zOkE_nil X 1)) (by
  intro args g o h
  obtain ⟨ar, fi, m1, m2, m3, m4, m5⟩ := g
  unfold S_cu_mark P_cu_mark at h
  split at h
  · refine zb_el h (fun hI0 k0 => ?_) (fun _ h10 => ?_)
    · try simp only [Bool.and_eq_true] at hI0
      have j0 := hI0
      have e0 := Nat.eq_of_beq_eq_true j0
      subst e0
      exact zpe_el k0 (fun t ht ho => e_cu_mark t ht ho)
    · cases h10
  · cases h)
