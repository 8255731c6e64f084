abbrev T_if_areNext : Type := Int32
abbrev U_if_areNext_2 : Type := Int32
def b_if_areNext_2 (x : Int32) (y : Int32) (l2 : Int32) : Option (U_if_areNext_2 ⊕ T_if_areNext) :=
  bif decide (4 ≤ l2) then
   some (.inr 0)
  else
   zl (w_if_nextTo x l2) (fun v1 =>
   bif !decide (v1 = y) then
    some (.inl (l2 + 1))
   else
    some (.inr 1))
def f_if_areNext_2 (x : Int32) (y : Int32) : U_if_areNext_2 → Option (U_if_areNext_2 ⊕ T_if_areNext) := fun s => b_if_areNext_2 x y s
noncomputable def l_if_areNext_2 (x : Int32) (y : Int32) (l2 : Int32) : Option T_if_areNext := zlp (f_if_areNext_2 x y) l2
noncomputable def q_if_areNext (x : Int32) (y : Int32) : Option T_if_areNext :=
  l_if_areNext_2 x y 0
def P_if_areNext (Q : Int32 → Int32 → Option (Int32)) : zSp := fun as g => match as with
  | [.int x, .int y] => zpe (Q x y) (fun t => (some (.int t), (g.1, g.2.1, g.2.2)))
  | _ => none
noncomputable abbrev S_if_areNext : zSp := P_if_areNext q_if_areNext
def O_if_areNext (ar fi : Nat → Nat → Int32) (m1 : Nat) (m2 : Nat) (m3 : Nat) (m4 : Nat) (m5 : Nat) (t : T_if_areNext) : zO2 := (some (.int t), (ar, fi, (m1, m2, m3, m4, m5)))
def M_if_areNext_2 (X : Nat × (Nat → Int32)) (E : zTE) (ar fi : Nat → Nat → Int32) (m1 : Nat) (m2 : Nat) (m3 : Nat) (m4 : Nat) (m5 : Nat) (x : Int32) (y : Int32) (o : zO2) (s : U_if_areNext_2) : Prop := zR2 X zFT E zc_141 2 [.int x, .int y, .int s] [] (ar, fi, (m1, m2, m3, m4, m5)) o
set_option maxRecDepth 1000000 in
theorem t2_if_areNext {X : Nat × (Nat → Int32)} {ar fi : Nat → Nat → Int32} {m1 m2 m3 m4 m5 : Nat} {x y : Int32} {l2 : Int32} {W_if_nextTo : Int32 → Int32 → Int32} : zseg X zFT (zEx 140 (P_if_nextTo W_if_nextTo) zE0) zc_141 (fun p => Nat.beq p 2) 400 2 [.int x, .int y, .int l2] [] (ar, fi, (m1, m2, m3, m4, m5)) = (
  bif decide (4 ≤ l2) then
   some (.inr (some (.int 0), (ar, fi, (m1, m2, m3, m4, m5))))
  else
   zl (W_if_nextTo x l2) (fun v1 =>
   bif !decide (v1 = y) then
    some (.inl (2, [.int x, .int y, .int (l2 + 1)], [], (ar, fi, (m1, m2, m3, m4, m5))))
   else
    some (.inr (some (.int 1), (ar, fi, (m1, m2, m3, m4, m5))))) : Option ((Nat × List Value × List Value × zH2) ⊕ zO2)) := by with_unfolding_all rfl
set_option maxRecDepth 20000 in
theorem k_if_areNext_2 {X : Nat × (Nat → Int32)} {ar fi : Nat → Nat → Int32} {m1 m2 m3 m4 m5 : Nat} {x y : Int32} {o : zO2} : ∀ (s : U_if_areNext_2) (q : U_if_areNext_2 ⊕ T_if_areNext), f_if_areNext_2 x y s = some q → zq (M_if_areNext_2 X (zEx 140 S_if_nextTo zE0) ar fi m1 m2 m3 m4 m5 x y o) (fun t => O_if_areNext ar fi m1 m2 m3 m4 m5 t = o) q → M_if_areNext_2 X (zEx 140 S_if_nextTo zE0) ar fi m1 m2 m3 m4 m5 x y o s := by
  intro l2 q h hq
  have h : b_if_areNext_2 x y l2 = some q := h
  unfold b_if_areNext_2 at h
  show zR2 X zFT (zEx 140 S_if_nextTo zE0) zc_141 2 [.int x, .int y, .int l2] [] (ar, fi, (m1, m2, m3, m4, m5)) o
  refine zT_seg t2_if_areNext ?_
  obtain ⟨TT, hTT⟩ : ∃ T, T = zT X zFT (zEx 140 S_if_nextTo zE0) zc_141 o := ⟨_, rfl⟩
  rw [← hTT]
  refine zb_el h (fun hb h => zU_t hTT hb ?_) (fun hb h => zU_f hTT hb ?_)
  · rw [hTT]
    have hz := zsi h hq
    refine (zO_mk ?_ ?_).trans hz
    · first | with_reducible rfl | rfl
    · first | with_reducible rfl | rfl
  · refine zl_el h (fun h => zU_l hTT ?_)
    refine zb_el h (fun hb h => zU_t hTT hb ?_) (fun hb h => zU_f hTT hb ?_)
    · rw [hTT]
      have hz := zsi h hq
      refine zR2_hp ?_ ?_ hz
      · first | with_reducible rfl | rfl
      · first | with_reducible rfl | rfl
    · rw [hTT]
      have hz := zsi h hq
      refine (zO_mk ?_ ?_).trans hz
      · first | with_reducible rfl | rfl
      · first | with_reducible rfl | rfl
set_option maxRecDepth 1000000 in
theorem t_if_areNext {X : Nat × (Nat → Int32)} {ar fi : Nat → Nat → Int32} {m1 m2 m3 m4 m5 : Nat} {x y : Int32} {W_if_nextTo : Int32 → Int32 → Int32} : zseg X zFT (zEx 140 (P_if_nextTo W_if_nextTo) zE0) zc_141 (fun p => Nat.beq p 2) 400 0 [.int x, .int y] [] (ar, fi, (m1, m2, m3, m4, m5)) = (
  some (.inl (2, [.int x, .int y, .int 0], [], (ar, fi, (m1, m2, m3, m4, m5)))) : Option ((Nat × List Value × List Value × zH2) ⊕ zO2)) := by with_unfolding_all rfl
set_option maxRecDepth 20000 in
theorem e_if_areNext {X : Nat × (Nat → Int32)} {ar fi : Nat → Nat → Int32} {m1 m2 m3 m4 m5 : Nat} {x y : Int32} {o : zO2} : ∀ (q : T_if_areNext), q_if_areNext x y = some q → (fun t => O_if_areNext ar fi m1 m2 m3 m4 m5 t = o) q → zR2 X zFT (zEx 140 S_if_nextTo zE0) zc_141 0 [.int x, .int y] [] (ar, fi, (m1, m2, m3, m4, m5)) o := by
  intro q h hq
  unfold q_if_areNext at h
  refine zT_seg t_if_areNext ?_
  obtain ⟨TT, hTT⟩ : ∃ T, T = zT X zFT (zEx 140 S_if_nextTo zE0) zc_141 o := ⟨_, rfl⟩
  rw [← hTT]
  rw [hTT]
  refine zR2_hp ?_ ?_ (zlp_K k_if_areNext_2 h hq)
  · first | with_reducible rfl | rfl
  · first | with_reducible rfl | rfl
theorem ok_if_areNext (X : Nat × (Nat → Int32)) : zOkS X 141 S_if_areNext 2 := zOkS_new (zOkE_cons (ok_if_nextTo X) (by decide) (zOkE_nil X 1)) (by
  intro args g o h
  obtain ⟨ar, fi, m1, m2, m3, m4, m5⟩ := g
  unfold S_if_areNext P_if_areNext at h
  split at h
  · exact zpe_el h (fun t ht ho => e_if_areNext t ht ho)
  · cases h)
