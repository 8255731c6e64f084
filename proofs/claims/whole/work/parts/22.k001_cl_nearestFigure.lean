abbrev T_cl_nearestFigure : Type := Int32
abbrev U_cl_nearestFigure_4 : Type := Int32 × Int32
def b_cl_nearestFigure_4 (x : Int32) (l1 : Int32) (l2 : Int32) : Option (U_cl_nearestFigure_4 ⊕ T_cl_nearestFigure) :=
  bif decide (1000000 < l2) then
   some (.inr l1)
  else
   zl (w_cl_nearer x l1 l2) (fun v1 =>
   zl (w_cl_nearer x v1 (2 * l2)) (fun v2 =>
   zl (w_cl_nearer x v2 (5 * l2)) (fun v3 =>
   some (.inl (v3, l2 * 10)))))
def f_cl_nearestFigure_4 (x : Int32) : U_cl_nearestFigure_4 → Option (U_cl_nearestFigure_4 ⊕ T_cl_nearestFigure) := fun s => b_cl_nearestFigure_4 x s.1 s.2
noncomputable def l_cl_nearestFigure_4 (x : Int32) (l1 : Int32) (l2 : Int32) : Option T_cl_nearestFigure := zlp (f_cl_nearestFigure_4 x) (l1, l2)
noncomputable def q_cl_nearestFigure (x : Int32) : Option T_cl_nearestFigure :=
  l_cl_nearestFigure_4 x 1 1
def P_cl_nearestFigure (Q : Int32 → Option (Int32)) : zSp := fun as g => match as with
  | [.int x] => zpe (Q x) (fun t => (some (.int t), (g.1, g.2.1, g.2.2)))
  | _ => none
noncomputable abbrev S_cl_nearestFigure : zSp := P_cl_nearestFigure q_cl_nearestFigure
def O_cl_nearestFigure (ar fi : Nat → Nat → Int32) (m1 : Nat) (m2 : Nat) (m3 : Nat) (m4 : Nat) (m5 : Nat) (t : T_cl_nearestFigure) : zO2 := (some (.int t), (ar, fi, (m1, m2, m3, m4, m5)))
def M_cl_nearestFigure_4 (X : Nat × (Nat → Int32)) (E : zTE) (ar fi : Nat → Nat → Int32) (m1 : Nat) (m2 : Nat) (m3 : Nat) (m4 : Nat) (m5 : Nat) (x : Int32) (o : zO2) (s : U_cl_nearestFigure_4) : Prop := match s with
  | (l1, l2) => zR2 X zFT E zc_3 4 [.int x, .int l1, .int l2] [] (ar, fi, (m1, m2, m3, m4, m5)) o
set_option maxRecDepth 1000000 in
theorem t4_cl_nearestFigure {X : Nat × (Nat → Int32)} {ar fi : Nat → Nat → Int32} {m1 m2 m3 m4 m5 : Nat} {x : Int32} {l1 : Int32} {l2 : Int32} {W_cl_nearer : Int32 → Int32 → Int32 → Int32} : zseg X zFT (zEx 4 (P_cl_nearer W_cl_nearer) zE0) zc_3 (fun p => Nat.beq p 4) 400 4 [.int x, .int l1, .int l2] [] (ar, fi, (m1, m2, m3, m4, m5)) = (
  bif decide (1000000 < l2) then
   some (.inr (some (.int l1), (ar, fi, (m1, m2, m3, m4, m5))))
  else
   zl (W_cl_nearer x l1 l2) (fun v1 =>
   zl (W_cl_nearer x v1 (2 * l2)) (fun v2 =>
   zl (W_cl_nearer x v2 (5 * l2)) (fun v3 =>
   some (.inl (4, [.int x, .int v3, .int (l2 * 10)], [], (ar, fi, (m1, m2, m3, m4, m5))))))) : Option ((Nat × List Value × List Value × zH2) ⊕ zO2)) := by with_unfolding_all rfl
set_option maxRecDepth 20000 in
theorem k_cl_nearestFigure_4 {X : Nat × (Nat → Int32)} {ar fi : Nat → Nat → Int32} {m1 m2 m3 m4 m5 : Nat} {x : Int32} {o : zO2} : ∀ (s : U_cl_nearestFigure_4) (q : U_cl_nearestFigure_4 ⊕ T_cl_nearestFigure), f_cl_nearestFigure_4 x s = some q → zq (M_cl_nearestFigure_4 X (zEx 4 S_cl_nearer zE0) ar fi m1 m2 m3 m4 m5 x o) (fun t => O_cl_nearestFigure ar fi m1 m2 m3 m4 m5 t = o) q → M_cl_nearestFigure_4 X (zEx 4 S_cl_nearer zE0) ar fi m1 m2 m3 m4 m5 x o s := by
  intro s q h hq
  obtain ⟨l1, l2⟩ := s
  have h : b_cl_nearestFigure_4 x l1 l2 = some q := h
  unfold b_cl_nearestFigure_4 at h
  show zR2 X zFT (zEx 4 S_cl_nearer zE0) zc_3 4 [.int x, .int l1, .int l2] [] (ar, fi, (m1, m2, m3, m4, m5)) o
  refine zT_seg t4_cl_nearestFigure ?_
  obtain ⟨TT, hTT⟩ : ∃ T, T = zT X zFT (zEx 4 S_cl_nearer zE0) zc_3 o := ⟨_, rfl⟩
  rw [← hTT]
  refine zb_el h (fun hb h => zU_t hTT hb ?_) (fun hb h => zU_f hTT hb ?_)
  · rw [hTT]
    have hz := zsi h hq
    refine (zO_mk ?_ ?_).trans hz
    · first | with_reducible rfl | rfl
    · first | with_reducible rfl | rfl
  · refine zl_el h (fun h => zU_l hTT ?_)
    refine zl_el h (fun h => zU_l hTT ?_)
    refine zl_el h (fun h => zU_l hTT ?_)
    rw [hTT]
    have hz := zsi h hq
    refine zR2_hp ?_ ?_ hz
    · first | with_reducible rfl | rfl
    · first | with_reducible rfl | rfl
set_option maxRecDepth 1000000 in
theorem t_cl_nearestFigure {X : Nat × (Nat → Int32)} {ar fi : Nat → Nat → Int32} {m1 m2 m3 m4 m5 : Nat} {x : Int32} {W_cl_nearer : Int32 → Int32 → Int32 → Int32} : zseg X zFT (zEx 4 (P_cl_nearer W_cl_nearer) zE0) zc_3 (fun p => Nat.beq p 4) 400 0 [.int x] [] (ar, fi, (m1, m2, m3, m4, m5)) = (
  some (.inl (4, [.int x, .int 1, .int 1], [], (ar, fi, (m1, m2, m3, m4, m5)))) : Option ((Nat × List Value × List Value × zH2) ⊕ zO2)) := by with_unfolding_all rfl
set_option maxRecDepth 20000 in
theorem e_cl_nearestFigure {X : Nat × (Nat → Int32)} {ar fi : Nat → Nat → Int32} {m1 m2 m3 m4 m5 : Nat} {x : Int32} {o : zO2} : ∀ (q : T_cl_nearestFigure), q_cl_nearestFigure x = some q → (fun t => O_cl_nearestFigure ar fi m1 m2 m3 m4 m5 t = o) q → zR2 X zFT (zEx 4 S_cl_nearer zE0) zc_3 0 [.int x] [] (ar, fi, (m1, m2, m3, m4, m5)) o := by
  intro q h hq
  unfold q_cl_nearestFigure at h
  refine zT_seg t_cl_nearestFigure ?_
  obtain ⟨TT, hTT⟩ : ∃ T, T = zT X zFT (zEx 4 S_cl_nearer zE0) zc_3 o := ⟨_, rfl⟩
  rw [← hTT]
  rw [hTT]
  refine zR2_hp ?_ ?_ (zlp_K k_cl_nearestFigure_4 h hq)
  · first | with_reducible rfl | rfl
  · first | with_reducible rfl | rfl
theorem ok_cl_nearestFigure (X : Nat × (Nat → Int32)) : zOkS X 3 S_cl_nearestFigure 2 := zOkS_new (zOkE_cons (ok_cl_nearer X) (by decide) (zOkE_nil X 1)) (by
  intro args g o h
  obtain ⟨ar, fi, m1, m2, m3, m4, m5⟩ := g
  unfold S_cl_nearestFigure P_cl_nearestFigure at h
  split at h
  · exact zpe_el h (fun t ht ho => e_cl_nearestFigure t ht ho)
  · cases h)
