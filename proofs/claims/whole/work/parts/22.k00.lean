abbrev T_cl_sumOf : Type := Int32
abbrev U_cl_sumOf_6 : Type := Int32 × Int32
def b_cl_sumOf_6 (y : Int32) (z : Int32) (u : Int32) (a1 : Nat → Int32) (l4 : Int32) (l5 : Int32) : Option (U_cl_sumOf_6 ⊕ T_cl_sumOf) :=
  bif decide (y ≤ l5) then
   some (.inr l4)
  else
   bif decide (((Int32.toUInt32 z >>> (Int32.toUInt32 l5 &&& Int32.toUInt32 31)).toInt32) &&& 1 = 0) then
    some (.inl (l4, l5 + 1))
   else
    zg (zin ((2 * l5) + u) 260) (
    some (.inl (l4 + (a1 (((2 * l5) + u).toNatClampNeg)), l5 + 1)))
def f_cl_sumOf_6 (y : Int32) (z : Int32) (u : Int32) (a1 : Nat → Int32) : U_cl_sumOf_6 → Option (U_cl_sumOf_6 ⊕ T_cl_sumOf) := fun s => b_cl_sumOf_6 y z u a1 s.1 s.2
noncomputable def l_cl_sumOf_6 (y : Int32) (z : Int32) (u : Int32) (a1 : Nat → Int32) (l4 : Int32) (l5 : Int32) : Option T_cl_sumOf := zlp (f_cl_sumOf_6 y z u a1) (l4, l5)
noncomputable def q_cl_sumOf (y : Int32) (z : Int32) (u : Int32) (a1 : Nat → Int32) : Option T_cl_sumOf :=
  l_cl_sumOf_6 y z u a1 0 0
def P_cl_sumOf (Q : Int32 → Int32 → Int32 → (Nat → Int32) → Option (Int32)) : zSp := fun as g => match as with
  | [.ref a, .int y, .int z, .int u] => bif Nat.beq a 1 then zpe (Q y z u (g.1 1)) (fun t => (some (.int t), (g.1, g.2.1, g.2.2))) else none
  | _ => none
noncomputable abbrev S_cl_sumOf : zSp := P_cl_sumOf q_cl_sumOf
def O_cl_sumOf (ar fi : Nat → Nat → Int32) (m1 : Nat) (m2 : Nat) (m3 : Nat) (m4 : Nat) (m5 : Nat) (t : T_cl_sumOf) : zO2 := (some (.int t), (ar, fi, (m1, m2, m3, m4, m5)))
def M_cl_sumOf_6 (X : Nat × (Nat → Int32)) (E : zTE) (ar fi : Nat → Nat → Int32) (m1 : Nat) (m2 : Nat) (m3 : Nat) (m4 : Nat) (m5 : Nat) (y : Int32) (z : Int32) (u : Int32) (o : zO2) (s : U_cl_sumOf_6) : Prop := zR2 X zFT E zc_2 6 [.ref 1, .int y, .int z, .int u, .int s.1, .int s.2] [] (ar, fi, (m1, m2, m3, m4, m5)) o
set_option maxRecDepth 20000 in
theorem t6_cl_sumOf {X : Nat × (Nat → Int32)} {ar fi : Nat → Nat → Int32} {m1 m2 m3 m4 m5 : Nat} {y z u : Int32} {l4 : Int32} {l5 : Int32} : zseg X zFT zE0 zc_2 (fun p => Nat.beq p 6) 400 6 [.ref 1, .int y, .int z, .int u, .int l4, .int l5] [] (ar, fi, (m1, m2, m3, m4, m5)) = (
  bif decide (y ≤ l5) then
   some (.inr (some (.int l4), (ar, fi, (m1, m2, m3, m4, m5))))
  else
   bif decide (((Int32.toUInt32 z >>> (Int32.toUInt32 l5 &&& Int32.toUInt32 31)).toInt32) &&& 1 = 0) then
    some (.inl (6, [.ref 1, .int y, .int z, .int u, .int l4, .int (l5 + 1)], [], (ar, fi, (m1, m2, m3, m4, m5))))
   else
    zg (zin ((2 * l5) + u) 260) (
    some (.inl (6, [.ref 1, .int y, .int z, .int u, .int (l4 + ((ar 1) (((2 * l5) + u).toNatClampNeg))), .int (l5 + 1)], [], (ar, fi, (m1, m2, m3, m4, m5))))) : Option ((Nat × List Value × List Value × zH2) ⊕ zO2)) := rfl
theorem k_cl_sumOf_6 {X : Nat × (Nat → Int32)} {ar fi : Nat → Nat → Int32} {m1 m2 m3 m4 m5 : Nat} {y z u : Int32} {o : zO2} : ∀ (s : U_cl_sumOf_6) (q : U_cl_sumOf_6 ⊕ T_cl_sumOf), f_cl_sumOf_6 y z u (ar 1) s = some q → zq (M_cl_sumOf_6 X zE0 ar fi m1 m2 m3 m4 m5 y z u o) (fun t => O_cl_sumOf ar fi m1 m2 m3 m4 m5 t = o) q → M_cl_sumOf_6 X zE0 ar fi m1 m2 m3 m4 m5 y z u o s := by
  intro s q h hq
  obtain ⟨l4, l5⟩ := s
  have h : b_cl_sumOf_6 y z u (ar 1) l4 l5 = some q := h
  unfold b_cl_sumOf_6 at h
  show zR2 X zFT zE0 zc_2 6 [.ref 1, .int y, .int z, .int u, .int l4, .int l5] [] (ar, fi, (m1, m2, m3, m4, m5)) o
  refine zT_seg t6_cl_sumOf ?_
  refine zb_el h (fun hb h => zT_t hb ?_) (fun hb h => zT_f hb ?_)
  · have hz := zsi h hq
    refine (zO_mk ?_ ?_).trans hz
    · first | with_reducible rfl | (rfl)
    · first | with_reducible rfl | (rfl)
  · refine zb_el h (fun hb h => zT_t hb ?_) (fun hb h => zT_f hb ?_)
    · have hz := zsi h hq
      refine zR2_hp ?_ ?_ hz
      · first | with_reducible rfl | (rfl)
      · first | with_reducible rfl | (rfl)
    · refine zg_el h (fun hg h => zT_g hg ?_)
      have hz := zsi h hq
      refine zR2_hp ?_ ?_ hz
      · first | with_reducible rfl | (rfl)
      · first | with_reducible rfl | (rfl)
set_option maxRecDepth 20000 in
theorem t_cl_sumOf {X : Nat × (Nat → Int32)} {ar fi : Nat → Nat → Int32} {m1 m2 m3 m4 m5 : Nat} {y z u : Int32} : zseg X zFT zE0 zc_2 (fun p => Nat.beq p 6) 400 0 [.ref 1, .int y, .int z, .int u] [] (ar, fi, (m1, m2, m3, m4, m5)) = (
  some (.inl (6, [.ref 1, .int y, .int z, .int u, .int 0, .int 0], [], (ar, fi, (m1, m2, m3, m4, m5)))) : Option ((Nat × List Value × List Value × zH2) ⊕ zO2)) := rfl
theorem e_cl_sumOf {X : Nat × (Nat → Int32)} {ar fi : Nat → Nat → Int32} {m1 m2 m3 m4 m5 : Nat} {y z u : Int32} {o : zO2} : ∀ (q : T_cl_sumOf), q_cl_sumOf y z u (ar 1) = some q → (fun t => O_cl_sumOf ar fi m1 m2 m3 m4 m5 t = o) q → zR2 X zFT zE0 zc_2 0 [.ref 1, .int y, .int z, .int u] [] (ar, fi, (m1, m2, m3, m4, m5)) o := by
  intro q h hq
  unfold q_cl_sumOf at h
  refine zT_seg t_cl_sumOf ?_
  refine zR2_hp ?_ ?_ (zlp_K k_cl_sumOf_6 h hq)
  · first | with_reducible rfl | (rfl)
  · first | with_reducible rfl | (rfl)
theorem ok_cl_sumOf (X : Nat × (Nat → Int32)) : zOkS X 2 S_cl_sumOf 1 := zOkS_new (zOkE_nil X 0) (by
  intro args g o h
  obtain ⟨ar, fi, m1, m2, m3, m4, m5⟩ := g
  unfold S_cl_sumOf P_cl_sumOf at h
  split at h
  · refine zb_el h (fun hI0 k0 => ?_) (fun _ h10 => ?_)
    · try simp only [Bool.and_eq_true] at hI0
      have j0 := hI0
      have e0 := Nat.eq_of_beq_eq_true j0
      subst e0
      exact zpe_el k0 (fun t ht ho => e_cl_sumOf t ht ho)
    · cases h10
  · cases h)
abbrev T_cl_nearestFigure : Type := Int32
abbrev U_cl_nearestFigure_4 : Type := Int32 × Int32
def b_cl_nearestFigure_4 (x : Int32) (l1 : Int32) (l2 : Int32) : Option (U_cl_nearestFigure_4 ⊕ T_cl_nearestFigure) :=
  bif decide (1000000 < l2) then
   some (.inr l1)
  else
   zl (w_cl_nearer x l1 l2) (fun v1 =>
   zl (w_cl_nearer x v1 (2 * l2)) (fun v2 =>
   zl (w_cl_nearer x v2 (5 * l2)) (fun v3 =>
   some (.inl (v3, l2 * 10)))))
def f_cl_nearestFigure_4 (x : Int32) : U_cl_nearestFigure_4 → Option (U_cl_nearestFigure_4 ⊕ T_cl_nearestFigure) := fun s => b_cl_nearestFigure_4 x s.1 s.2
noncomputable def l_cl_nearestFigure_4 (x : Int32) (l1 : Int32) (l2 : Int32) : Option T_cl_nearestFigure := zlp (f_cl_nearestFigure_4 x) (l1, l2)
noncomputable def q_cl_nearestFigure (x : Int32) : Option T_cl_nearestFigure :=
  l_cl_nearestFigure_4 x 1 1
def P_cl_nearestFigure (Q : Int32 → Option (Int32)) : zSp := fun as g => match as with
  | [.int x] => zpe (Q x) (fun t => (some (.int t), (g.1, g.2.1, g.2.2)))
  | _ => none
noncomputable abbrev S_cl_nearestFigure : zSp := P_cl_nearestFigure q_cl_nearestFigure
def O_cl_nearestFigure (ar fi : Nat → Nat → Int32) (m1 : Nat) (m2 : Nat) (m3 : Nat) (m4 : Nat) (m5 : Nat) (t : T_cl_nearestFigure) : zO2 := (some (.int t), (ar, fi, (m1, m2, m3, m4, m5)))
def M_cl_nearestFigure_4 (X : Nat × (Nat → Int32)) (E : zTE) (ar fi : Nat → Nat → Int32) (m1 : Nat) (m2 : Nat) (m3 : Nat) (m4 : Nat) (m5 : Nat) (x : Int32) (o : zO2) (s : U_cl_nearestFigure_4) : Prop := zR2 X zFT E zc_3 4 [.int x, .int s.1, .int s.2] [] (ar, fi, (m1, m2, m3, m4, m5)) o
set_option maxRecDepth 20000 in
theorem t4_cl_nearestFigure {X : Nat × (Nat → Int32)} {ar fi : Nat → Nat → Int32} {m1 m2 m3 m4 m5 : Nat} {x : Int32} {l1 : Int32} {l2 : Int32} {W_cl_nearer : Int32 → Int32 → Int32 → Int32} : zseg X zFT (zEx 4 (P_cl_nearer W_cl_nearer) zE0) zc_3 (fun p => Nat.beq p 4) 400 4 [.int x, .int l1, .int l2] [] (ar, fi, (m1, m2, m3, m4, m5)) = (
  bif decide (1000000 < l2) then
   some (.inr (some (.int l1), (ar, fi, (m1, m2, m3, m4, m5))))
  else
   zl (W_cl_nearer x l1 l2) (fun v1 =>
   zl (W_cl_nearer x v1 (2 * l2)) (fun v2 =>
   zl (W_cl_nearer x v2 (5 * l2)) (fun v3 =>
   some (.inl (4, [.int x, .int v3, .int (l2 * 10)], [], (ar, fi, (m1, m2, m3, m4, m5))))))) : Option ((Nat × List Value × List Value × zH2) ⊕ zO2)) := rfl
theorem k_cl_nearestFigure_4 {X : Nat × (Nat → Int32)} {ar fi : Nat → Nat → Int32} {m1 m2 m3 m4 m5 : Nat} {x : Int32} {o : zO2} : ∀ (s : U_cl_nearestFigure_4) (q : U_cl_nearestFigure_4 ⊕ T_cl_nearestFigure), f_cl_nearestFigure_4 x s = some q → zq (M_cl_nearestFigure_4 X (zEx 4 S_cl_nearer zE0) ar fi m1 m2 m3 m4 m5 x o) (fun t => O_cl_nearestFigure ar fi m1 m2 m3 m4 m5 t = o) q → M_cl_nearestFigure_4 X (zEx 4 S_cl_nearer zE0) ar fi m1 m2 m3 m4 m5 x o s := by
  intro s q h hq
  obtain ⟨l1, l2⟩ := s
  have h : b_cl_nearestFigure_4 x l1 l2 = some q := h
  unfold b_cl_nearestFigure_4 at h
  show zR2 X zFT (zEx 4 S_cl_nearer zE0) zc_3 4 [.int x, .int l1, .int l2] [] (ar, fi, (m1, m2, m3, m4, m5)) o
  refine zT_seg t4_cl_nearestFigure ?_
  refine zb_el h (fun hb h => zT_t hb ?_) (fun hb h => zT_f hb ?_)
  · have hz := zsi h hq
    refine (zO_mk ?_ ?_).trans hz
    · first | with_reducible rfl | (rfl)
    · first | with_reducible rfl | (rfl)
  · refine zl_el h (fun h => zT_l ?_)
    refine zl_el h (fun h => zT_l ?_)
    refine zl_el h (fun h => zT_l ?_)
    have hz := zsi h hq
    refine zR2_hp ?_ ?_ hz
    · first | with_reducible rfl | (rfl)
    · first | with_reducible rfl | (rfl)
set_option maxRecDepth 20000 in
theorem t_cl_nearestFigure {X : Nat × (Nat → Int32)} {ar fi : Nat → Nat → Int32} {m1 m2 m3 m4 m5 : Nat} {x : Int32} {W_cl_nearer : Int32 → Int32 → Int32 → Int32} : zseg X zFT (zEx 4 (P_cl_nearer W_cl_nearer) zE0) zc_3 (fun p => Nat.beq p 4) 400 0 [.int x] [] (ar, fi, (m1, m2, m3, m4, m5)) = (
  some (.inl (4, [.int x, .int 1, .int 1], [], (ar, fi, (m1, m2, m3, m4, m5)))) : Option ((Nat × List Value × List Value × zH2) ⊕ zO2)) := rfl
theorem e_cl_nearestFigure {X : Nat × (Nat → Int32)} {ar fi : Nat → Nat → Int32} {m1 m2 m3 m4 m5 : Nat} {x : Int32} {o : zO2} : ∀ (q : T_cl_nearestFigure), q_cl_nearestFigure x = some q → (fun t => O_cl_nearestFigure ar fi m1 m2 m3 m4 m5 t = o) q → zR2 X zFT (zEx 4 S_cl_nearer zE0) zc_3 0 [.int x] [] (ar, fi, (m1, m2, m3, m4, m5)) o := by
  intro q h hq
  unfold q_cl_nearestFigure at h
  refine zT_seg t_cl_nearestFigure ?_
  refine zR2_hp ?_ ?_ (zlp_K k_cl_nearestFigure_4 h hq)
  · first | with_reducible rfl | (rfl)
  · first | with_reducible rfl | (rfl)
theorem ok_cl_nearestFigure (X : Nat × (Nat → Int32)) : zOkS X 3 S_cl_nearestFigure 2 := zOkS_new (zOkE_cons (ok_cl_nearer X) (by decide) (zOkE_nil X 1)) (by
  intro args g o h
  obtain ⟨ar, fi, m1, m2, m3, m4, m5⟩ := g
  unfold S_cl_nearestFigure P_cl_nearestFigure at h
  split at h
  · exact zpe_el h (fun t ht ho => e_cl_nearestFigure t ht ho)
  · cases h)
abbrev T_cl_canPay : Type := Int32
abbrev U_cl_canPay_12 : Type := Int32 × Int32
def b_cl_canPay_12 (y : Int32) (z : Int32) (u : Int32) (a1 : Nat → Int32) (l4 : Int32) (l5 : Int32) : Option (U_cl_canPay_12 ⊕ T_cl_canPay) :=
  bif decide (y ≤ l5) then
   bif decide (l4 < 0) then
    some (.inr 0)
   else
    some (.inr 1)
  else
   bif decide (l5 = u) then
    some (.inl (l4, l5 + 1))
   else
    bif !decide (((Int32.toUInt32 z >>> (Int32.toUInt32 l5 &&& Int32.toUInt32 31)).toInt32) &&& 1 = 0) then
     some (.inl (l4, l5 + 1))
    else
     zg (zin ((y * l5) + u) 260) (
     zg (zin ((y * u) + l5) 260) (
     some (.inl (l4 + ((a1 (((y * l5) + u).toNatClampNeg)) - (a1 (((y * u) + l5).toNatClampNeg))), l5 + 1))))
def f_cl_canPay_12 (y : Int32) (z : Int32) (u : Int32) (a1 : Nat → Int32) : U_cl_canPay_12 → Option (U_cl_canPay_12 ⊕ T_cl_canPay) := fun s => b_cl_canPay_12 y z u a1 s.1 s.2
noncomputable def l_cl_canPay_12 (y : Int32) (z : Int32) (u : Int32) (a1 : Nat → Int32) (l4 : Int32) (l5 : Int32) : Option T_cl_canPay := zlp (f_cl_canPay_12 y z u a1) (l4, l5)
noncomputable def q_cl_canPay (y : Int32) (z : Int32) (u : Int32) (a1 : Nat → Int32) : Option T_cl_canPay :=
  zg (zin ((y * u) + u) 260) (
  l_cl_canPay_12 y z u a1 (a1 (((y * u) + u).toNatClampNeg)) 0)
def P_cl_canPay (Q : Int32 → Int32 → Int32 → (Nat → Int32) → Option (Int32)) : zSp := fun as g => match as with
  | [.ref a, .int y, .int z, .int u] => bif Nat.beq a 1 then zpe (Q y z u (g.1 1)) (fun t => (some (.int t), (g.1, g.2.1, g.2.2))) else none
  | _ => none
noncomputable abbrev S_cl_canPay : zSp := P_cl_canPay q_cl_canPay
def O_cl_canPay (ar fi : Nat → Nat → Int32) (m1 : Nat) (m2 : Nat) (m3 : Nat) (m4 : Nat) (m5 : Nat) (t : T_cl_canPay) : zO2 := (some (.int t), (ar, fi, (m1, m2, m3, m4, m5)))
def M_cl_canPay_12 (X : Nat × (Nat → Int32)) (E : zTE) (ar fi : Nat → Nat → Int32) (m1 : Nat) (m2 : Nat) (m3 : Nat) (m4 : Nat) (m5 : Nat) (y : Int32) (z : Int32) (u : Int32) (o : zO2) (s : U_cl_canPay_12) : Prop := zR2 X zFT E zc_6 12 [.ref 1, .int y, .int z, .int u, .int s.1, .int s.2] [] (ar, fi, (m1, m2, m3, m4, m5)) o
set_option maxRecDepth 20000 in
theorem t12_cl_canPay {X : Nat × (Nat → Int32)} {ar fi : Nat → Nat → Int32} {m1 m2 m3 m4 m5 : Nat} {y z u : Int32} {l4 : Int32} {l5 : Int32} : zseg X zFT zE0 zc_6 (fun p => Nat.beq p 12) 400 12 [.ref 1, .int y, .int z, .int u, .int l4, .int l5] [] (ar, fi, (m1, m2, m3, m4, m5)) = (
  bif decide (y ≤ l5) then
   bif decide (l4 < 0) then
    some (.inr (some (.int 0), (ar, fi, (m1, m2, m3, m4, m5))))
   else
    some (.inr (some (.int 1), (ar, fi, (m1, m2, m3, m4, m5))))
  else
   bif decide (l5 = u) then
    some (.inl (12, [.ref 1, .int y, .int z, .int u, .int l4, .int (l5 + 1)], [], (ar, fi, (m1, m2, m3, m4, m5))))
   else
    bif !decide (((Int32.toUInt32 z >>> (Int32.toUInt32 l5 &&& Int32.toUInt32 31)).toInt32) &&& 1 = 0) then
     some (.inl (12, [.ref 1, .int y, .int z, .int u, .int l4, .int (l5 + 1)], [], (ar, fi, (m1, m2, m3, m4, m5))))
    else
     zg (zin ((y * l5) + u) 260) (
     zg (zin ((y * u) + l5) 260) (
     some (.inl (12, [.ref 1, .int y, .int z, .int u, .int (l4 + (((ar 1) (((y * l5) + u).toNatClampNeg)) - ((ar 1) (((y * u) + l5).toNatClampNeg)))), .int (l5 + 1)], [], (ar, fi, (m1, m2, m3, m4, m5)))))) : Option ((Nat × List Value × List Value × zH2) ⊕ zO2)) := rfl
theorem k_cl_canPay_12 {X : Nat × (Nat → Int32)} {ar fi : Nat → Nat → Int32} {m1 m2 m3 m4 m5 : Nat} {y z u : Int32} {o : zO2} : ∀ (s : U_cl_canPay_12) (q : U_cl_canPay_12 ⊕ T_cl_canPay), f_cl_canPay_12 y z u (ar 1) s = some q → zq (M_cl_canPay_12 X zE0 ar fi m1 m2 m3 m4 m5 y z u o) (fun t => O_cl_canPay ar fi m1 m2 m3 m4 m5 t = o) q → M_cl_canPay_12 X zE0 ar fi m1 m2 m3 m4 m5 y z u o s := by
  intro s q h hq
  obtain ⟨l4, l5⟩ := s
  have h : b_cl_canPay_12 y z u (ar 1) l4 l5 = some q := h
  unfold b_cl_canPay_12 at h
  show zR2 X zFT zE0 zc_6 12 [.ref 1, .int y, .int z, .int u, .int l4, .int l5] [] (ar, fi, (m1, m2, m3, m4, m5)) o
  refine zT_seg t12_cl_canPay ?_
  refine zb_el h (fun hb h => zT_t hb ?_) (fun hb h => zT_f hb ?_)
  · refine zb_el h (fun hb h => zT_t hb ?_) (fun hb h => zT_f hb ?_)
    · have hz := zsi h hq
      refine (zO_mk ?_ ?_).trans hz
      · first | with_reducible rfl | (rfl)
      · first | with_reducible rfl | (rfl)
    · have hz := zsi h hq
      refine (zO_mk ?_ ?_).trans hz
      · first | with_reducible rfl | (rfl)
      · first | with_reducible rfl | (rfl)
  · refine zb_el h (fun hb h => zT_t hb ?_) (fun hb h => zT_f hb ?_)
    · have hz := zsi h hq
      refine zR2_hp ?_ ?_ hz
      · first | with_reducible rfl | (rfl)
      · first | with_reducible rfl | (rfl)
    · refine zb_el h (fun hb h => zT_t hb ?_) (fun hb h => zT_f hb ?_)
      · have hz := zsi h hq
        refine zR2_hp ?_ ?_ hz
        · first | with_reducible rfl | (rfl)
        · first | with_reducible rfl | (rfl)
      · refine zg_el h (fun hg h => zT_g hg ?_)
        refine zg_el h (fun hg h => zT_g hg ?_)
        have hz := zsi h hq
        refine zR2_hp ?_ ?_ hz
        · first | with_reducible rfl | (rfl)
        · first | with_reducible rfl | (rfl)
set_option maxRecDepth 20000 in
theorem t_cl_canPay {X : Nat × (Nat → Int32)} {ar fi : Nat → Nat → Int32} {m1 m2 m3 m4 m5 : Nat} {y z u : Int32} : zseg X zFT zE0 zc_6 (fun p => Nat.beq p 12) 400 0 [.ref 1, .int y, .int z, .int u] [] (ar, fi, (m1, m2, m3, m4, m5)) = (
  zg (zin ((y * u) + u) 260) (
  some (.inl (12, [.ref 1, .int y, .int z, .int u, .int ((ar 1) (((y * u) + u).toNatClampNeg)), .int 0], [], (ar, fi, (m1, m2, m3, m4, m5))))) : Option ((Nat × List Value × List Value × zH2) ⊕ zO2)) := rfl
theorem e_cl_canPay {X : Nat × (Nat → Int32)} {ar fi : Nat → Nat → Int32} {m1 m2 m3 m4 m5 : Nat} {y z u : Int32} {o : zO2} : ∀ (q : T_cl_canPay), q_cl_canPay y z u (ar 1) = some q → (fun t => O_cl_canPay ar fi m1 m2 m3 m4 m5 t = o) q → zR2 X zFT zE0 zc_6 0 [.ref 1, .int y, .int z, .int u] [] (ar, fi, (m1, m2, m3, m4, m5)) o := by
  intro q h hq
  unfold q_cl_canPay at h
  refine zT_seg t_cl_canPay ?_
  refine zg_el h (fun hg h => zT_g hg ?_)
  refine zR2_hp ?_ ?_ (zlp_K k_cl_canPay_12 h hq)
  · first | with_reducible rfl | (rfl)
  · first | with_reducible rfl | (rfl)
theorem ok_cl_canPay (X : Nat × (Nat → Int32)) : zOkS X 6 S_cl_canPay 1 := zOkS_new (zOkE_nil X 0) (by
  intro args g o h
  obtain ⟨ar, fi, m1, m2, m3, m4, m5⟩ := g
  unfold S_cl_canPay P_cl_canPay at h
  split at h
  · refine zb_el h (fun hI0 k0 => ?_) (fun _ h10 => ?_)
    · try simp only [Bool.and_eq_true] at hI0
      have j0 := hI0
      have e0 := Nat.eq_of_beq_eq_true j0
      subst e0
      exact zpe_el k0 (fun t ht ho => e_cl_canPay t ht ho)
    · cases h10
  · cases h)
abbrev T_cl_putInOrder : Type := (Nat → Int32)
abbrev U_cl_putInOrder_2 : Type := Int32 × (Nat → Int32)
def b_cl_putInOrder_2 (y : Int32) (a1 : Nat → Int32) (l3 : Int32) (b63 : Nat → Int32) : Option (U_cl_putInOrder_2 ⊕ T_cl_putInOrder) :=
  bif decide (l3 ≤ 0) then
   zg (zin l3 10) (
   some (.inr (zup b63 (l3.toNatClampNeg) y)))
  else
   zg (zin (l3 - 1) 10) (
   zg (zin ((3 * (b63 ((l3 - 1).toNatClampNeg))) + 2) 260) (
   zg (zin ((3 * y) + 2) 260) (
   bif decide (a1 (((3 * (b63 ((l3 - 1).toNatClampNeg))) + 2).toNatClampNeg) ≤ a1 (((3 * y) + 2).toNatClampNeg)) then
    zg (zin l3 10) (
    some (.inr (zup b63 (l3.toNatClampNeg) y)))
   else
    zg (zin (l3 - 1) 10) (
    zg (zin l3 10) (
    some (.inl (l3 + (-1), (zup b63 (l3.toNatClampNeg) (b63 ((l3 - 1).toNatClampNeg))))))))))
def f_cl_putInOrder_2 (y : Int32) (a1 : Nat → Int32) : U_cl_putInOrder_2 → Option (U_cl_putInOrder_2 ⊕ T_cl_putInOrder) := fun s => b_cl_putInOrder_2 y a1 s.1 s.2
noncomputable def l_cl_putInOrder_2 (y : Int32) (a1 : Nat → Int32) (l3 : Int32) (b63 : Nat → Int32) : Option T_cl_putInOrder := zlp (f_cl_putInOrder_2 y a1) (l3, b63)
noncomputable def q_cl_putInOrder (y : Int32) (a1 : Nat → Int32) (a63 : Nat → Int32) : Option T_cl_putInOrder :=
  l_cl_putInOrder_2 y a1 y a63
def P_cl_putInOrder (Q : Int32 → (Nat → Int32) → (Nat → Int32) → Option ((Nat → Int32))) : zSp := fun as g => match as with
  | [.ref a, .ref b, .int y] => bif Nat.beq a 62 && Nat.beq b 1 then zpe (Q y (g.1 1) (g.1 63)) (fun t => (none, ((zua g.1 63 t), g.2.1, g.2.2))) else none
  | _ => none
noncomputable abbrev S_cl_putInOrder : zSp := P_cl_putInOrder q_cl_putInOrder
def O_cl_putInOrder (ar fi : Nat → Nat → Int32) (m1 : Nat) (m2 : Nat) (m3 : Nat) (m4 : Nat) (m5 : Nat) (t : T_cl_putInOrder) : zO2 := (none, ((zua ar 63 t), fi, (m1, m2, m3, m4, m5)))
def M_cl_putInOrder_2 (X : Nat × (Nat → Int32)) (E : zTE) (ar fi : Nat → Nat → Int32) (m1 : Nat) (m2 : Nat) (m3 : Nat) (m4 : Nat) (m5 : Nat) (y : Int32) (o : zO2) (s : U_cl_putInOrder_2) : Prop := zR2 X zFT E zc_8 2 [.ref 62, .ref 1, .int y, .int s.1] [] ((zua ar 63 s.2), fi, (m1, m2, m3, m4, m5)) o
set_option maxRecDepth 20000 in
theorem t2_cl_putInOrder {X : Nat × (Nat → Int32)} {ar fi : Nat → Nat → Int32} {m1 m2 m3 m4 m5 : Nat} {y : Int32} {l3 : Int32} {b63 : Nat → Int32} : zseg X zFT zE0 zc_8 (fun p => Nat.beq p 2) 400 2 [.ref 62, .ref 1, .int y, .int l3] [] ((zua ar 63 b63), fi, (m1, m2, m3, m4, m5)) = (
  bif decide (l3 ≤ 0) then
   zg (zin l3 10) (
   some (.inr (none, ((zua (zua ar 63 b63) 63 (zup b63 (l3.toNatClampNeg) y)), fi, (m1, m2, m3, m4, m5)))))
  else
   zg (zin (l3 - 1) 10) (
   zg (zin ((3 * (b63 ((l3 - 1).toNatClampNeg))) + 2) 260) (
   zg (zin ((3 * y) + 2) 260) (
   bif decide ((ar 1) (((3 * (b63 ((l3 - 1).toNatClampNeg))) + 2).toNatClampNeg) ≤ (ar 1) (((3 * y) + 2).toNatClampNeg)) then
    zg (zin l3 10) (
    some (.inr (none, ((zua (zua ar 63 b63) 63 (zup b63 (l3.toNatClampNeg) y)), fi, (m1, m2, m3, m4, m5)))))
   else
    zg (zin (l3 - 1) 10) (
    zg (zin l3 10) (
    some (.inl (2, [.ref 62, .ref 1, .int y, .int (l3 + (-1))], [], ((zua (zua ar 63 b63) 63 (zup b63 (l3.toNatClampNeg) (b63 ((l3 - 1).toNatClampNeg)))), fi, (m1, m2, m3, m4, m5))))))))) : Option ((Nat × List Value × List Value × zH2) ⊕ zO2)) := rfl
theorem k_cl_putInOrder_2 {X : Nat × (Nat → Int32)} {ar fi : Nat → Nat → Int32} {m1 m2 m3 m4 m5 : Nat} {y : Int32} {o : zO2} : ∀ (s : U_cl_putInOrder_2) (q : U_cl_putInOrder_2 ⊕ T_cl_putInOrder), f_cl_putInOrder_2 y (ar 1) s = some q → zq (M_cl_putInOrder_2 X zE0 ar fi m1 m2 m3 m4 m5 y o) (fun t => O_cl_putInOrder ar fi m1 m2 m3 m4 m5 t = o) q → M_cl_putInOrder_2 X zE0 ar fi m1 m2 m3 m4 m5 y o s := by
  intro s q h hq
  obtain ⟨l3, b63⟩ := s
  have h : b_cl_putInOrder_2 y (ar 1) l3 b63 = some q := h
  unfold b_cl_putInOrder_2 at h
  show zR2 X zFT zE0 zc_8 2 [.ref 62, .ref 1, .int y, .int l3] [] ((zua ar 63 b63), fi, (m1, m2, m3, m4, m5)) o
  refine zT_seg t2_cl_putInOrder ?_
  refine zb_el h (fun hb h => zT_t hb ?_) (fun hb h => zT_f hb ?_)
  · refine zg_el h (fun hg h => zT_g hg ?_)
    have hz := zsi h hq
    refine (zO_mk ?_ ?_).trans hz
    · first | with_reducible rfl | (exact zuas_eq _ [(63, _), (63, _)] [(63, _)] [63] rfl rfl ⟨rfl, trivial⟩)
    · first | with_reducible rfl | (rfl)
  · refine zg_el h (fun hg h => zT_g hg ?_)
    refine zg_el h (fun hg h => zT_g hg ?_)
    refine zg_el h (fun hg h => zT_g hg ?_)
    refine zb_el h (fun hb h => zT_t hb ?_) (fun hb h => zT_f hb ?_)
    · refine zg_el h (fun hg h => zT_g hg ?_)
      have hz := zsi h hq
      refine (zO_mk ?_ ?_).trans hz
      · first | with_reducible rfl | (exact zuas_eq _ [(63, _), (63, _)] [(63, _)] [63] rfl rfl ⟨rfl, trivial⟩)
      · first | with_reducible rfl | (rfl)
    · refine zg_el h (fun hg h => zT_g hg ?_)
      refine zg_el h (fun hg h => zT_g hg ?_)
      have hz := zsi h hq
      refine zR2_hp ?_ ?_ hz
      · first | with_reducible rfl | (exact zuas_eq _ [(63, _), (63, _)] [(63, _)] [63] rfl rfl ⟨rfl, trivial⟩)
      · first | with_reducible rfl | (rfl)
set_option maxRecDepth 20000 in
theorem t_cl_putInOrder {X : Nat × (Nat → Int32)} {ar fi : Nat → Nat → Int32} {m1 m2 m3 m4 m5 : Nat} {y : Int32} : zseg X zFT zE0 zc_8 (fun p => Nat.beq p 2) 400 0 [.ref 62, .ref 1, .int y] [] (ar, fi, (m1, m2, m3, m4, m5)) = (
  some (.inl (2, [.ref 62, .ref 1, .int y, .int y], [], (ar, fi, (m1, m2, m3, m4, m5)))) : Option ((Nat × List Value × List Value × zH2) ⊕ zO2)) := rfl
theorem e_cl_putInOrder {X : Nat × (Nat → Int32)} {ar fi : Nat → Nat → Int32} {m1 m2 m3 m4 m5 : Nat} {y : Int32} {o : zO2} : ∀ (q : T_cl_putInOrder), q_cl_putInOrder y (ar 1) (ar 63) = some q → (fun t => O_cl_putInOrder ar fi m1 m2 m3 m4 m5 t = o) q → zR2 X zFT zE0 zc_8 0 [.ref 62, .ref 1, .int y] [] (ar, fi, (m1, m2, m3, m4, m5)) o := by
  intro q h hq
  unfold q_cl_putInOrder at h
  refine zT_seg t_cl_putInOrder ?_
  refine zR2_hp ?_ ?_ (zlp_K k_cl_putInOrder_2 h hq)
  · first | with_reducible rfl | (exact zuas_eq _ [] [(63, _)] [63] rfl rfl ⟨rfl, trivial⟩)
  · first | with_reducible rfl | (rfl)
theorem ok_cl_putInOrder (X : Nat × (Nat → Int32)) : zOkS X 8 S_cl_putInOrder 1 := zOkS_new (zOkE_nil X 0) (by
  intro args g o h
  obtain ⟨ar, fi, m1, m2, m3, m4, m5⟩ := g
  unfold S_cl_putInOrder P_cl_putInOrder at h
  split at h
  · refine zb_el h (fun hI0 k0 => ?_) (fun _ h10 => ?_)
    · try simp only [Bool.and_eq_true] at hI0
      obtain ⟨j0, j1⟩ := hI0
      have e0 := Nat.eq_of_beq_eq_true j0
      subst e0
      have e1 := Nat.eq_of_beq_eq_true j1
      subst e1
      exact zpe_el k0 (fun t ht ho => e_cl_putInOrder t ht ho)
    · cases h10
  · cases h)
abbrev T_cl_worthInTime : Type := Int32
abbrev U_cl_worthInTime_9 : Type := Int32 × Int32 × Int32
def b_cl_worthInTime_9 (y : Int32) (z : Int32) (a1 : Nat → Int32) (a63 : Nat → Int32) (l4 : Int32) (l5 : Int32) (l6 : Int32) : Option (U_cl_worthInTime_9 ⊕ T_cl_worthInTime) :=
  bif decide (y ≤ l6) then
   some (.inr l4)
  else
   zg (zin l6 10) (
   bif decide (((Int32.toUInt32 z >>> (Int32.toUInt32 (a63 (l6.toNatClampNeg)) &&& Int32.toUInt32 31)).toInt32) &&& 1 = 0) then
    some (.inl (l4, l5, l6 + 1))
   else
    zg (zin (3 * (a63 (l6.toNatClampNeg))) 260) (
    zg (zin ((3 * (a63 (l6.toNatClampNeg))) + 1) 260) (
    zg (zin ((3 * (a63 (l6.toNatClampNeg))) + 2) 260) (
    bif decide (l5 + (a1 ((3 * (a63 (l6.toNatClampNeg))).toNatClampNeg)) ≤ a1 (((3 * (a63 (l6.toNatClampNeg))) + 2).toNatClampNeg)) then
     some (.inl (l4 + (a1 (((3 * (a63 (l6.toNatClampNeg))) + 1).toNatClampNeg)), l5 + (a1 ((3 * (a63 (l6.toNatClampNeg))).toNatClampNeg)), l6 + 1))
    else
     some (.inr 0)))))
def f_cl_worthInTime_9 (y : Int32) (z : Int32) (a1 : Nat → Int32) (a63 : Nat → Int32) : U_cl_worthInTime_9 → Option (U_cl_worthInTime_9 ⊕ T_cl_worthInTime) := fun s => b_cl_worthInTime_9 y z a1 a63 s.1 s.2.1 s.2.2
noncomputable def l_cl_worthInTime_9 (y : Int32) (z : Int32) (a1 : Nat → Int32) (a63 : Nat → Int32) (l4 : Int32) (l5 : Int32) (l6 : Int32) : Option T_cl_worthInTime := zlp (f_cl_worthInTime_9 y z a1 a63) (l4, l5, l6)
noncomputable def q_cl_worthInTime (y : Int32) (z : Int32) (a1 : Nat → Int32) (a63 : Nat → Int32) : Option T_cl_worthInTime :=
  l_cl_worthInTime_9 y z a1 a63 0 0 0
def P_cl_worthInTime (Q : Int32 → Int32 → (Nat → Int32) → (Nat → Int32) → Option (Int32)) : zSp := fun as g => match as with
  | [.ref a, .ref b, .int y, .int z] => bif Nat.beq a 62 && Nat.beq b 1 then zpe (Q y z (g.1 1) (g.1 63)) (fun t => (some (.int t), (g.1, g.2.1, g.2.2))) else none
  | _ => none
noncomputable abbrev S_cl_worthInTime : zSp := P_cl_worthInTime q_cl_worthInTime
def O_cl_worthInTime (ar fi : Nat → Nat → Int32) (m1 : Nat) (m2 : Nat) (m3 : Nat) (m4 : Nat) (m5 : Nat) (t : T_cl_worthInTime) : zO2 := (some (.int t), (ar, fi, (m1, m2, m3, m4, m5)))
def M_cl_worthInTime_9 (X : Nat × (Nat → Int32)) (E : zTE) (ar fi : Nat → Nat → Int32) (m1 : Nat) (m2 : Nat) (m3 : Nat) (m4 : Nat) (m5 : Nat) (y : Int32) (z : Int32) (o : zO2) (s : U_cl_worthInTime_9) : Prop := zR2 X zFT E zc_9 9 [.ref 62, .ref 1, .int y, .int z, .int s.1, .int s.2.1, .int s.2.2] [] (ar, fi, (m1, m2, m3, m4, m5)) o
set_option maxRecDepth 20000 in
theorem t9_cl_worthInTime {X : Nat × (Nat → Int32)} {ar fi : Nat → Nat → Int32} {m1 m2 m3 m4 m5 : Nat} {y z : Int32} {l4 : Int32} {l5 : Int32} {l6 : Int32} : zseg X zFT zE0 zc_9 (fun p => Nat.beq p 9) 400 9 [.ref 62, .ref 1, .int y, .int z, .int l4, .int l5, .int l6] [] (ar, fi, (m1, m2, m3, m4, m5)) = (
  bif decide (y ≤ l6) then
   some (.inr (some (.int l4), (ar, fi, (m1, m2, m3, m4, m5))))
  else
   zg (zin l6 10) (
   bif decide (((Int32.toUInt32 z >>> (Int32.toUInt32 ((ar 63) (l6.toNatClampNeg)) &&& Int32.toUInt32 31)).toInt32) &&& 1 = 0) then
    some (.inl (9, [.ref 62, .ref 1, .int y, .int z, .int l4, .int l5, .int (l6 + 1)], [], (ar, fi, (m1, m2, m3, m4, m5))))
   else
    zg (zin (3 * ((ar 63) (l6.toNatClampNeg))) 260) (
    zg (zin ((3 * ((ar 63) (l6.toNatClampNeg))) + 1) 260) (
    zg (zin ((3 * ((ar 63) (l6.toNatClampNeg))) + 2) 260) (
    bif decide (l5 + ((ar 1) ((3 * ((ar 63) (l6.toNatClampNeg))).toNatClampNeg)) ≤ (ar 1) (((3 * ((ar 63) (l6.toNatClampNeg))) + 2).toNatClampNeg)) then
     some (.inl (9, [.ref 62, .ref 1, .int y, .int z, .int (l4 + ((ar 1) (((3 * ((ar 63) (l6.toNatClampNeg))) + 1).toNatClampNeg))), .int (l5 + ((ar 1) ((3 * ((ar 63) (l6.toNatClampNeg))).toNatClampNeg))), .int (l6 + 1)], [], (ar, fi, (m1, m2, m3, m4, m5))))
    else
     some (.inr (some (.int 0), (ar, fi, (m1, m2, m3, m4, m5)))))))) : Option ((Nat × List Value × List Value × zH2) ⊕ zO2)) := rfl
theorem k_cl_worthInTime_9 {X : Nat × (Nat → Int32)} {ar fi : Nat → Nat → Int32} {m1 m2 m3 m4 m5 : Nat} {y z : Int32} {o : zO2} : ∀ (s : U_cl_worthInTime_9) (q : U_cl_worthInTime_9 ⊕ T_cl_worthInTime), f_cl_worthInTime_9 y z (ar 1) (ar 63) s = some q → zq (M_cl_worthInTime_9 X zE0 ar fi m1 m2 m3 m4 m5 y z o) (fun t => O_cl_worthInTime ar fi m1 m2 m3 m4 m5 t = o) q → M_cl_worthInTime_9 X zE0 ar fi m1 m2 m3 m4 m5 y z o s := by
  intro s q h hq
  obtain ⟨l4, l5, l6⟩ := s
  have h : b_cl_worthInTime_9 y z (ar 1) (ar 63) l4 l5 l6 = some q := h
  unfold b_cl_worthInTime_9 at h
  show zR2 X zFT zE0 zc_9 9 [.ref 62, .ref 1, .int y, .int z, .int l4, .int l5, .int l6] [] (ar, fi, (m1, m2, m3, m4, m5)) o
  refine zT_seg t9_cl_worthInTime ?_
  refine zb_el h (fun hb h => zT_t hb ?_) (fun hb h => zT_f hb ?_)
  · have hz := zsi h hq
    refine (zO_mk ?_ ?_).trans hz
    · first | with_reducible rfl | (rfl)
    · first | with_reducible rfl | (rfl)
  · refine zg_el h (fun hg h => zT_g hg ?_)
    refine zb_el h (fun hb h => zT_t hb ?_) (fun hb h => zT_f hb ?_)
    · have hz := zsi h hq
      refine zR2_hp ?_ ?_ hz
      · first | with_reducible rfl | (rfl)
      · first | with_reducible rfl | (rfl)
    · refine zg_el h (fun hg h => zT_g hg ?_)
      refine zg_el h (fun hg h => zT_g hg ?_)
      refine zg_el h (fun hg h => zT_g hg ?_)
      refine zb_el h (fun hb h => zT_t hb ?_) (fun hb h => zT_f hb ?_)
      · have hz := zsi h hq
        refine zR2_hp ?_ ?_ hz
        · first | with_reducible rfl | (rfl)
        · first | with_reducible rfl | (rfl)
      · have hz := zsi h hq
        refine (zO_mk ?_ ?_).trans hz
        · first | with_reducible rfl | (rfl)
        · first | with_reducible rfl | (rfl)
set_option maxRecDepth 20000 in
theorem t_cl_worthInTime {X : Nat × (Nat → Int32)} {ar fi : Nat → Nat → Int32} {m1 m2 m3 m4 m5 : Nat} {y z : Int32} : zseg X zFT zE0 zc_9 (fun p => Nat.beq p 9) 400 0 [.ref 62, .ref 1, .int y, .int z] [] (ar, fi, (m1, m2, m3, m4, m5)) = (
  some (.inl (9, [.ref 62, .ref 1, .int y, .int z, .int 0, .int 0, .int 0], [], (ar, fi, (m1, m2, m3, m4, m5)))) : Option ((Nat × List Value × List Value × zH2) ⊕ zO2)) := rfl
theorem e_cl_worthInTime {X : Nat × (Nat → Int32)} {ar fi : Nat → Nat → Int32} {m1 m2 m3 m4 m5 : Nat} {y z : Int32} {o : zO2} : ∀ (q : T_cl_worthInTime), q_cl_worthInTime y z (ar 1) (ar 63) = some q → (fun t => O_cl_worthInTime ar fi m1 m2 m3 m4 m5 t = o) q → zR2 X zFT zE0 zc_9 0 [.ref 62, .ref 1, .int y, .int z] [] (ar, fi, (m1, m2, m3, m4, m5)) o := by
  intro q h hq
  unfold q_cl_worthInTime at h
  refine zT_seg t_cl_worthInTime ?_
  refine zR2_hp ?_ ?_ (zlp_K k_cl_worthInTime_9 h hq)
  · first | with_reducible rfl | (rfl)
  · first | with_reducible rfl | (rfl)
theorem ok_cl_worthInTime (X : Nat × (Nat → Int32)) : zOkS X 9 S_cl_worthInTime 1 := zOkS_new (zOkE_nil X 0) (by
  intro args g o h
  obtain ⟨ar, fi, m1, m2, m3, m4, m5⟩ := g
  unfold S_cl_worthInTime P_cl_worthInTime at h
  split at h
  · refine zb_el h (fun hI0 k0 => ?_) (fun _ h10 => ?_)
    · try simp only [Bool.and_eq_true] at hI0
      obtain ⟨j0, j1⟩ := hI0
      have e0 := Nat.eq_of_beq_eq_true j0
      subst e0
      have e1 := Nat.eq_of_beq_eq_true j1
      subst e1
      exact zpe_el k0 (fun t ht ho => e_cl_worthInTime t ht ho)
    · cases h10
  · cases h)
abbrev T_cl_oddsOf : Type := Int32
abbrev U_cl_oddsOf_8 : Type := Int32 × Int32 × Int32
def b_cl_oddsOf_8 (y : Int32) (z : Int32) (a1 : Nat → Int32) (l3 : Int32) (l4 : Int32) (l5 : Int32) : Option (U_cl_oddsOf_8 ⊕ T_cl_oddsOf) :=
  bif decide (y ≤ l5) then
   bif !decide (z = 0) then
    some (.inr l4)
   else
    some (.inr l3)
  else
   zg (zin ((2 * l5) + 1) 260) (
   bif decide (a1 (((2 * l5) + 1).toNatClampNeg) ≤ 10) then
    zg (zin (2 * l5) 260) (
    some (.inl (l3 + ((a1 ((2 * l5).toNatClampNeg)) * (a1 (((2 * l5) + 1).toNatClampNeg))), l4 * (a1 (((2 * l5) + 1).toNatClampNeg)), l5 + 1)))
   else
    some (.inr (-2)))
def f_cl_oddsOf_8 (y : Int32) (z : Int32) (a1 : Nat → Int32) : U_cl_oddsOf_8 → Option (U_cl_oddsOf_8 ⊕ T_cl_oddsOf) := fun s => b_cl_oddsOf_8 y z a1 s.1 s.2.1 s.2.2
noncomputable def l_cl_oddsOf_8 (y : Int32) (z : Int32) (a1 : Nat → Int32) (l3 : Int32) (l4 : Int32) (l5 : Int32) : Option T_cl_oddsOf := zlp (f_cl_oddsOf_8 y z a1) (l3, l4, l5)
noncomputable def q_cl_oddsOf (y : Int32) (z : Int32) (a1 : Nat → Int32) : Option T_cl_oddsOf :=
  l_cl_oddsOf_8 y z a1 0 1 0
def P_cl_oddsOf (Q : Int32 → Int32 → (Nat → Int32) → Option (Int32)) : zSp := fun as g => match as with
  | [.ref a, .int y, .int z] => bif Nat.beq a 1 then zpe (Q y z (g.1 1)) (fun t => (some (.int t), (g.1, g.2.1, g.2.2))) else none
  | _ => none
noncomputable abbrev S_cl_oddsOf : zSp := P_cl_oddsOf q_cl_oddsOf
def O_cl_oddsOf (ar fi : Nat → Nat → Int32) (m1 : Nat) (m2 : Nat) (m3 : Nat) (m4 : Nat) (m5 : Nat) (t : T_cl_oddsOf) : zO2 := (some (.int t), (ar, fi, (m1, m2, m3, m4, m5)))
def M_cl_oddsOf_8 (X : Nat × (Nat → Int32)) (E : zTE) (ar fi : Nat → Nat → Int32) (m1 : Nat) (m2 : Nat) (m3 : Nat) (m4 : Nat) (m5 : Nat) (y : Int32) (z : Int32) (o : zO2) (s : U_cl_oddsOf_8) : Prop := zR2 X zFT E zc_10 8 [.ref 1, .int y, .int z, .int s.1, .int s.2.1, .int s.2.2] [] (ar, fi, (m1, m2, m3, m4, m5)) o
set_option maxRecDepth 20000 in
theorem t8_cl_oddsOf {X : Nat × (Nat → Int32)} {ar fi : Nat → Nat → Int32} {m1 m2 m3 m4 m5 : Nat} {y z : Int32} {l3 : Int32} {l4 : Int32} {l5 : Int32} : zseg X zFT zE0 zc_10 (fun p => Nat.beq p 8) 400 8 [.ref 1, .int y, .int z, .int l3, .int l4, .int l5] [] (ar, fi, (m1, m2, m3, m4, m5)) = (
  bif decide (y ≤ l5) then
   bif !decide (z = 0) then
    some (.inr (some (.int l4), (ar, fi, (m1, m2, m3, m4, m5))))
   else
    some (.inr (some (.int l3), (ar, fi, (m1, m2, m3, m4, m5))))
  else
   zg (zin ((2 * l5) + 1) 260) (
   bif decide ((ar 1) (((2 * l5) + 1).toNatClampNeg) ≤ 10) then
    zg (zin (2 * l5) 260) (
    some (.inl (8, [.ref 1, .int y, .int z, .int (l3 + (((ar 1) ((2 * l5).toNatClampNeg)) * ((ar 1) (((2 * l5) + 1).toNatClampNeg)))), .int (l4 * ((ar 1) (((2 * l5) + 1).toNatClampNeg))), .int (l5 + 1)], [], (ar, fi, (m1, m2, m3, m4, m5)))))
   else
    some (.inr (some (.int (-2)), (ar, fi, (m1, m2, m3, m4, m5))))) : Option ((Nat × List Value × List Value × zH2) ⊕ zO2)) := rfl
theorem k_cl_oddsOf_8 {X : Nat × (Nat → Int32)} {ar fi : Nat → Nat → Int32} {m1 m2 m3 m4 m5 : Nat} {y z : Int32} {o : zO2} : ∀ (s : U_cl_oddsOf_8) (q : U_cl_oddsOf_8 ⊕ T_cl_oddsOf), f_cl_oddsOf_8 y z (ar 1) s = some q → zq (M_cl_oddsOf_8 X zE0 ar fi m1 m2 m3 m4 m5 y z o) (fun t => O_cl_oddsOf ar fi m1 m2 m3 m4 m5 t = o) q → M_cl_oddsOf_8 X zE0 ar fi m1 m2 m3 m4 m5 y z o s := by
  intro s q h hq
  obtain ⟨l3, l4, l5⟩ := s
  have h : b_cl_oddsOf_8 y z (ar 1) l3 l4 l5 = some q := h
  unfold b_cl_oddsOf_8 at h
  show zR2 X zFT zE0 zc_10 8 [.ref 1, .int y, .int z, .int l3, .int l4, .int l5] [] (ar, fi, (m1, m2, m3, m4, m5)) o
  refine zT_seg t8_cl_oddsOf ?_
  refine zb_el h (fun hb h => zT_t hb ?_) (fun hb h => zT_f hb ?_)
  · refine zb_el h (fun hb h => zT_t hb ?_) (fun hb h => zT_f hb ?_)
    · have hz := zsi h hq
      refine (zO_mk ?_ ?_).trans hz
      · first | with_reducible rfl | (rfl)
      · first | with_reducible rfl | (rfl)
    · have hz := zsi h hq
      refine (zO_mk ?_ ?_).trans hz
      · first | with_reducible rfl | (rfl)
      · first | with_reducible rfl | (rfl)
  · refine zg_el h (fun hg h => zT_g hg ?_)
    refine zb_el h (fun hb h => zT_t hb ?_) (fun hb h => zT_f hb ?_)
    · refine zg_el h (fun hg h => zT_g hg ?_)
      have hz := zsi h hq
      refine zR2_hp ?_ ?_ hz
      · first | with_reducible rfl | (rfl)
      · first | with_reducible rfl | (rfl)
    · have hz := zsi h hq
      refine (zO_mk ?_ ?_).trans hz
      · first | with_reducible rfl | (rfl)
      · first | with_reducible rfl | (rfl)
set_option maxRecDepth 20000 in
theorem t_cl_oddsOf {X : Nat × (Nat → Int32)} {ar fi : Nat → Nat → Int32} {m1 m2 m3 m4 m5 : Nat} {y z : Int32} : zseg X zFT zE0 zc_10 (fun p => Nat.beq p 8) 400 0 [.ref 1, .int y, .int z] [] (ar, fi, (m1, m2, m3, m4, m5)) = (
  some (.inl (8, [.ref 1, .int y, .int z, .int 0, .int 1, .int 0], [], (ar, fi, (m1, m2, m3, m4, m5)))) : Option ((Nat × List Value × List Value × zH2) ⊕ zO2)) := rfl
theorem e_cl_oddsOf {X : Nat × (Nat → Int32)} {ar fi : Nat → Nat → Int32} {m1 m2 m3 m4 m5 : Nat} {y z : Int32} {o : zO2} : ∀ (q : T_cl_oddsOf), q_cl_oddsOf y z (ar 1) = some q → (fun t => O_cl_oddsOf ar fi m1 m2 m3 m4 m5 t = o) q → zR2 X zFT zE0 zc_10 0 [.ref 1, .int y, .int z] [] (ar, fi, (m1, m2, m3, m4, m5)) o := by
  intro q h hq
  unfold q_cl_oddsOf at h
  refine zT_seg t_cl_oddsOf ?_
  refine zR2_hp ?_ ?_ (zlp_K k_cl_oddsOf_8 h hq)
  · first | with_reducible rfl | (rfl)
  · first | with_reducible rfl | (rfl)
theorem ok_cl_oddsOf (X : Nat × (Nat → Int32)) : zOkS X 10 S_cl_oddsOf 1 := zOkS_new (zOkE_nil X 0) (by
  intro args g o h
  obtain ⟨ar, fi, m1, m2, m3, m4, m5⟩ := g
  unfold S_cl_oddsOf P_cl_oddsOf at h
  split at h
  · refine zb_el h (fun hI0 k0 => ?_) (fun _ h10 => ?_)
    · try simp only [Bool.and_eq_true] at hI0
      have j0 := hI0
      have e0 := Nat.eq_of_beq_eq_true j0
      subst e0
      exact zpe_el k0 (fun t ht ho => e_cl_oddsOf t ht ho)
    · cases h10
  · cases h)
abbrev T_cu_leave : Type := (Nat → Int32) × (Nat → Int32) × Int32
abbrev U_cu_leave_2 : Type := Int32 × (Nat → Int32) × (Nat → Int32) × Int32
def b_cu_leave_2 (y : Int32) (a3 : Nat → Int32) (a58 : Nat → Int32) (a59 : Nat → Int32) (l3 : Int32) (b60 : Nat → Int32) (b61 : Nat → Int32) (c57_4 : Int32) : Option (U_cu_leave_2 ⊕ T_cu_leave) :=
  bif decide (4 ≤ l3) then
   zg (zin y 96) (
   bif decide (a58 (y.toNatClampNeg) = 0) then
    some (.inr (b60, b61, c57_4))
   else
    zg (g_cu_visit y (96 + y) b60 c57_4 b61) (
    zl (a0_cu_visit y (96 + y) b60 c57_4 b61) (fun v1 =>
    zl (a1_cu_visit y (96 + y) b60 c57_4 b61) (fun v2 =>
    zl (f0_cu_visit y (96 + y) b60 c57_4 b61) (fun v3 =>
    some (.inr (v1, v2, v3)))))))
  else
   zl (w_if_nextTo y l3) (fun v4 =>
   bif decide (v4 < 0) then
    some (.inl (l3 + 1, b60, b61, c57_4))
   else
    zg (zin v4 96) (
    bif !decide (a3 (v4.toNatClampNeg) = 1) then
     some (.inl (l3 + 1, b60, b61, c57_4))
    else
     zg (zin ((4 * y) + l3) 384) (
     bif !decide (a59 (((4 * y) + l3).toNatClampNeg) = 0) then
      some (.inl (l3 + 1, b60, b61, c57_4))
     else
      zg (g_cu_visit v4 (96 + y) b60 c57_4 b61) (
      zl (a0_cu_visit v4 (96 + y) b60 c57_4 b61) (fun v5 =>
      zl (a1_cu_visit v4 (96 + y) b60 c57_4 b61) (fun v6 =>
      zl (f0_cu_visit v4 (96 + y) b60 c57_4 b61) (fun v7 =>
      some (.inl (l3 + 1, v5, v6, v7)))))))))
def f_cu_leave_2 (y : Int32) (a3 : Nat → Int32) (a58 : Nat → Int32) (a59 : Nat → Int32) : U_cu_leave_2 → Option (U_cu_leave_2 ⊕ T_cu_leave) := fun s => b_cu_leave_2 y a3 a58 a59 s.1 s.2.1 s.2.2.1 s.2.2.2
noncomputable def l_cu_leave_2 (y : Int32) (a3 : Nat → Int32) (a58 : Nat → Int32) (a59 : Nat → Int32) (l3 : Int32) (b60 : Nat → Int32) (b61 : Nat → Int32) (c57_4 : Int32) : Option T_cu_leave := zlp (f_cu_leave_2 y a3 a58 a59) (l3, b60, b61, c57_4)
noncomputable def q_cu_leave (y : Int32) (a3 : Nat → Int32) (a58 : Nat → Int32) (a59 : Nat → Int32) (a60 : Nat → Int32) (a61 : Nat → Int32) (f57_4 : Int32) : Option T_cu_leave :=
  l_cu_leave_2 y a3 a58 a59 0 a60 a61 (f57_4)
def P_cu_leave (Q : Int32 → (Nat → Int32) → (Nat → Int32) → (Nat → Int32) → (Nat → Int32) → (Nat → Int32) → Int32 → Option ((Nat → Int32) × (Nat → Int32) × Int32)) : zSp := fun as g => match as with
  | [.ref a, .ref b, .int y] => bif Nat.beq a 57 && Nat.beq b 3 then zpe (Q y (g.1 3) (g.1 58) (g.1 59) (g.1 60) (g.1 61) (g.2.1 57 4)) (fun t => (none, ((zua (zua g.1 60 t.1) 61 t.2.1), (zuf g.2.1 57 4 t.2.2), g.2.2))) else none
  | _ => none
noncomputable abbrev S_cu_leave : zSp := P_cu_leave q_cu_leave
def O_cu_leave (ar fi : Nat → Nat → Int32) (m1 : Nat) (m2 : Nat) (m3 : Nat) (m4 : Nat) (m5 : Nat) (t : T_cu_leave) : zO2 := (none, ((zua (zua ar 60 t.1) 61 t.2.1), (zuf fi 57 4 t.2.2), (m1, m2, m3, m4, m5)))
def M_cu_leave_2 (X : Nat × (Nat → Int32)) (E : zTE) (ar fi : Nat → Nat → Int32) (m1 : Nat) (m2 : Nat) (m3 : Nat) (m4 : Nat) (m5 : Nat) (y : Int32) (o : zO2) (s : U_cu_leave_2) : Prop := zR2 X zFT E zc_15 2 [.ref 57, .ref 3, .int y, .int s.1] [] ((zua (zua ar 60 s.2.1) 61 s.2.2.1), (zuf fi 57 4 s.2.2.2), (m1, m2, m3, m4, m5)) o
set_option maxRecDepth 20000 in
theorem t2_cu_leave {X : Nat × (Nat → Int32)} {ar fi : Nat → Nat → Int32} {m1 m2 m3 m4 m5 : Nat} {y : Int32} {l3 : Int32} {b60 : Nat → Int32} {b61 : Nat → Int32} {c57_4 : Int32} {W_if_nextTo : Int32 → Int32 → Int32} {G_cu_visit : Int32 → Int32 → (Nat → Int32) → Int32 → (Nat → Int32) → Bool} {A0_cu_visit : Int32 → Int32 → (Nat → Int32) → Int32 → (Nat → Int32) → Nat → Int32} {A1_cu_visit : Int32 → Int32 → (Nat → Int32) → Int32 → (Nat → Int32) → Nat → Int32} {F0_cu_visit : Int32 → Int32 → (Nat → Int32) → Int32 → (Nat → Int32) → Int32} : zseg X zFT (zEx 140 (P_if_nextTo W_if_nextTo) (zEx 14 (P_cu_visit G_cu_visit A0_cu_visit A1_cu_visit F0_cu_visit) zE0)) zc_15 (fun p => Nat.beq p 2) 400 2 [.ref 57, .ref 3, .int y, .int l3] [] ((zua (zua ar 60 b60) 61 b61), (zuf fi 57 4 c57_4), (m1, m2, m3, m4, m5)) = (
  bif decide (4 ≤ l3) then
   zg (zin y 96) (
   bif decide ((ar 58) (y.toNatClampNeg) = 0) then
    some (.inr (none, ((zua (zua ar 60 b60) 61 b61), (zuf fi 57 4 c57_4), (m1, m2, m3, m4, m5))))
   else
    zg (G_cu_visit y (96 + y) b60 c57_4 b61) (
    zl (A0_cu_visit y (96 + y) b60 c57_4 b61) (fun v1 =>
    zl (A1_cu_visit y (96 + y) b60 c57_4 b61) (fun v2 =>
    zl (F0_cu_visit y (96 + y) b60 c57_4 b61) (fun v3 =>
    some (.inr (none, ((zua (zua (zua (zua ar 60 b60) 61 b61) 60 v1) 61 v2), (zuf (zuf fi 57 4 c57_4) 57 4 v3), (m1, m2, m3, m4, m5)))))))))
  else
   zl (W_if_nextTo y l3) (fun v4 =>
   bif decide (v4 < 0) then
    some (.inl (2, [.ref 57, .ref 3, .int y, .int (l3 + 1)], [], ((zua (zua ar 60 b60) 61 b61), (zuf fi 57 4 c57_4), (m1, m2, m3, m4, m5))))
   else
    zg (zin v4 96) (
    bif !decide ((ar 3) (v4.toNatClampNeg) = 1) then
     some (.inl (2, [.ref 57, .ref 3, .int y, .int (l3 + 1)], [], ((zua (zua ar 60 b60) 61 b61), (zuf fi 57 4 c57_4), (m1, m2, m3, m4, m5))))
    else
     zg (zin ((4 * y) + l3) 384) (
     bif !decide ((ar 59) (((4 * y) + l3).toNatClampNeg) = 0) then
      some (.inl (2, [.ref 57, .ref 3, .int y, .int (l3 + 1)], [], ((zua (zua ar 60 b60) 61 b61), (zuf fi 57 4 c57_4), (m1, m2, m3, m4, m5))))
     else
      zg (G_cu_visit v4 (96 + y) b60 c57_4 b61) (
      zl (A0_cu_visit v4 (96 + y) b60 c57_4 b61) (fun v5 =>
      zl (A1_cu_visit v4 (96 + y) b60 c57_4 b61) (fun v6 =>
      zl (F0_cu_visit v4 (96 + y) b60 c57_4 b61) (fun v7 =>
      some (.inl (2, [.ref 57, .ref 3, .int y, .int (l3 + 1)], [], ((zua (zua (zua (zua ar 60 b60) 61 b61) 60 v5) 61 v6), (zuf (zuf fi 57 4 c57_4) 57 4 v7), (m1, m2, m3, m4, m5))))))))))) : Option ((Nat × List Value × List Value × zH2) ⊕ zO2)) := rfl
theorem k_cu_leave_2 {X : Nat × (Nat → Int32)} {ar fi : Nat → Nat → Int32} {m1 m2 m3 m4 m5 : Nat} {y : Int32} {o : zO2} : ∀ (s : U_cu_leave_2) (q : U_cu_leave_2 ⊕ T_cu_leave), f_cu_leave_2 y (ar 3) (ar 58) (ar 59) s = some q → zq (M_cu_leave_2 X (zEx 140 S_if_nextTo (zEx 14 S_cu_visit zE0)) ar fi m1 m2 m3 m4 m5 y o) (fun t => O_cu_leave ar fi m1 m2 m3 m4 m5 t = o) q → M_cu_leave_2 X (zEx 140 S_if_nextTo (zEx 14 S_cu_visit zE0)) ar fi m1 m2 m3 m4 m5 y o s := by
  intro s q h hq
  obtain ⟨l3, b60, b61, c57_4⟩ := s
  have h : b_cu_leave_2 y (ar 3) (ar 58) (ar 59) l3 b60 b61 c57_4 = some q := h
  unfold b_cu_leave_2 at h
  show zR2 X zFT (zEx 140 S_if_nextTo (zEx 14 S_cu_visit zE0)) zc_15 2 [.ref 57, .ref 3, .int y, .int l3] [] ((zua (zua ar 60 b60) 61 b61), (zuf fi 57 4 c57_4), (m1, m2, m3, m4, m5)) o
  refine zT_seg t2_cu_leave ?_
  refine zb_el h (fun hb h => zT_t hb ?_) (fun hb h => zT_f hb ?_)
  · refine zg_el h (fun hg h => zT_g hg ?_)
    refine zb_el h (fun hb h => zT_t hb ?_) (fun hb h => zT_f hb ?_)
    · have hz := zsi h hq
      refine (zO_mk ?_ ?_).trans hz
      · first | with_reducible rfl | (exact zuas_eq _ [(60, _), (61, _)] [(60, _), (61, _)] [60, 61] rfl rfl ⟨rfl, rfl, trivial⟩)
      · first | with_reducible rfl | (exact zufs_eq _ [(57, 4, _)] [(57, 4, _)] [(57, 4)] rfl rfl ⟨rfl, trivial⟩)
    · refine zg_el h (fun hg h => zT_g hg ?_)
      refine zl_el h (fun h => zT_l ?_)
      refine zl_el h (fun h => zT_l ?_)
      refine zl_el h (fun h => zT_l ?_)
      have hz := zsi h hq
      refine (zO_mk ?_ ?_).trans hz
      · first | with_reducible rfl | (exact zuas_eq _ [(60, _), (61, _), (60, _), (61, _)] [(60, _), (61, _)] [60, 61] rfl rfl ⟨rfl, rfl, trivial⟩)
      · first | with_reducible rfl | (exact zufs_eq _ [(57, 4, _), (57, 4, _)] [(57, 4, _)] [(57, 4)] rfl rfl ⟨rfl, trivial⟩)
  · refine zl_el h (fun h => zT_l ?_)
    refine zb_el h (fun hb h => zT_t hb ?_) (fun hb h => zT_f hb ?_)
    · have hz := zsi h hq
      refine zR2_hp ?_ ?_ hz
      · first | with_reducible rfl | (exact zuas_eq _ [(60, _), (61, _)] [(60, _), (61, _)] [60, 61] rfl rfl ⟨rfl, rfl, trivial⟩)
      · first | with_reducible rfl | (exact zufs_eq _ [(57, 4, _)] [(57, 4, _)] [(57, 4)] rfl rfl ⟨rfl, trivial⟩)
    · refine zg_el h (fun hg h => zT_g hg ?_)
      refine zb_el h (fun hb h => zT_t hb ?_) (fun hb h => zT_f hb ?_)
      · have hz := zsi h hq
        refine zR2_hp ?_ ?_ hz
        · first | with_reducible rfl | (exact zuas_eq _ [(60, _), (61, _)] [(60, _), (61, _)] [60, 61] rfl rfl ⟨rfl, rfl, trivial⟩)
        · first | with_reducible rfl | (exact zufs_eq _ [(57, 4, _)] [(57, 4, _)] [(57, 4)] rfl rfl ⟨rfl, trivial⟩)
      · refine zg_el h (fun hg h => zT_g hg ?_)
        refine zb_el h (fun hb h => zT_t hb ?_) (fun hb h => zT_f hb ?_)
        · have hz := zsi h hq
          refine zR2_hp ?_ ?_ hz
          · first | with_reducible rfl | (exact zuas_eq _ [(60, _), (61, _)] [(60, _), (61, _)] [60, 61] rfl rfl ⟨rfl, rfl, trivial⟩)
          · first | with_reducible rfl | (exact zufs_eq _ [(57, 4, _)] [(57, 4, _)] [(57, 4)] rfl rfl ⟨rfl, trivial⟩)
        · refine zg_el h (fun hg h => zT_g hg ?_)
          refine zl_el h (fun h => zT_l ?_)
          refine zl_el h (fun h => zT_l ?_)
          refine zl_el h (fun h => zT_l ?_)
          have hz := zsi h hq
          refine zR2_hp ?_ ?_ hz
          · first | with_reducible rfl | (exact zuas_eq _ [(60, _), (61, _), (60, _), (61, _)] [(60, _), (61, _)] [60, 61] rfl rfl ⟨rfl, rfl, trivial⟩)
          · first | with_reducible rfl | (exact zufs_eq _ [(57, 4, _), (57, 4, _)] [(57, 4, _)] [(57, 4)] rfl rfl ⟨rfl, trivial⟩)
set_option maxRecDepth 20000 in
theorem t_cu_leave {X : Nat × (Nat → Int32)} {ar fi : Nat → Nat → Int32} {m1 m2 m3 m4 m5 : Nat} {y : Int32} {W_if_nextTo : Int32 → Int32 → Int32} {G_cu_visit : Int32 → Int32 → (Nat → Int32) → Int32 → (Nat → Int32) → Bool} {A0_cu_visit : Int32 → Int32 → (Nat → Int32) → Int32 → (Nat → Int32) → Nat → Int32} {A1_cu_visit : Int32 → Int32 → (Nat → Int32) → Int32 → (Nat → Int32) → Nat → Int32} {F0_cu_visit : Int32 → Int32 → (Nat → Int32) → Int32 → (Nat → Int32) → Int32} : zseg X zFT (zEx 140 (P_if_nextTo W_if_nextTo) (zEx 14 (P_cu_visit G_cu_visit A0_cu_visit A1_cu_visit F0_cu_visit) zE0)) zc_15 (fun p => Nat.beq p 2) 400 0 [.ref 57, .ref 3, .int y] [] (ar, fi, (m1, m2, m3, m4, m5)) = (
  some (.inl (2, [.ref 57, .ref 3, .int y, .int 0], [], (ar, fi, (m1, m2, m3, m4, m5)))) : Option ((Nat × List Value × List Value × zH2) ⊕ zO2)) := rfl
theorem e_cu_leave {X : Nat × (Nat → Int32)} {ar fi : Nat → Nat → Int32} {m1 m2 m3 m4 m5 : Nat} {y : Int32} {o : zO2} : ∀ (q : T_cu_leave), q_cu_leave y (ar 3) (ar 58) (ar 59) (ar 60) (ar 61) (fi 57 4) = some q → (fun t => O_cu_leave ar fi m1 m2 m3 m4 m5 t = o) q → zR2 X zFT (zEx 140 S_if_nextTo (zEx 14 S_cu_visit zE0)) zc_15 0 [.ref 57, .ref 3, .int y] [] (ar, fi, (m1, m2, m3, m4, m5)) o := by
  intro q h hq
  unfold q_cu_leave at h
  refine zT_seg t_cu_leave ?_
  refine zR2_hp ?_ ?_ (zlp_K k_cu_leave_2 h hq)
  · first | with_reducible rfl | (exact zuas_eq _ [] [(60, _), (61, _)] [60, 61] rfl rfl ⟨rfl, rfl, trivial⟩)
  · first | with_reducible rfl | (exact zufs_eq _ [] [(57, 4, _)] [(57, 4)] rfl rfl ⟨rfl, trivial⟩)
theorem ok_cu_leave (X : Nat × (Nat → Int32)) : zOkS X 15 S_cu_leave 2 := zOkS_new (zOkE_cons (ok_if_nextTo X) (by decide) (zOkE_cons (ok_cu_visit X) (by decide) (zOkE_nil X 1))) (by
  intro args g o h
  obtain ⟨ar, fi, m1, m2, m3, m4, m5⟩ := g
  unfold S_cu_leave P_cu_leave at h
  split at h
  · refine zb_el h (fun hI0 k0 => ?_) (fun _ h10 => ?_)
    · try simp only [Bool.and_eq_true] at hI0
      obtain ⟨j0, j1⟩ := hI0
      have e0 := Nat.eq_of_beq_eq_true j0
      subst e0
      have e1 := Nat.eq_of_beq_eq_true j1
      subst e1
      exact zpe_el k0 (fun t ht ho => e_cu_leave t ht ho)
    · cases h10
  · cases h)
abbrev T_cu_enter : Type := (Nat → Int32) × (Nat → Int32) × Int32
abbrev U_cu_enter_20 : Type := Int32 × (Nat → Int32) × (Nat → Int32) × Int32
def b_cu_enter_20 (y : Int32) (a3 : Nat → Int32) (a59 : Nat → Int32) (l3 : Int32) (b60 : Nat → Int32) (b61 : Nat → Int32) (c57_4 : Int32) : Option (U_cu_enter_20 ⊕ T_cu_enter) :=
  bif decide (4 ≤ l3) then
   some (.inr (b60, b61, c57_4))
  else
   zl (w_if_nextTo y l3) (fun v4 =>
   bif decide (v4 < 0) then
    some (.inl (l3 + 1, b60, b61, c57_4))
   else
    zg (zin v4 96) (
    bif !decide (a3 (v4.toNatClampNeg) = 1) then
     some (.inl (l3 + 1, b60, b61, c57_4))
    else
     zg (zin ((4 * v4) + ((l3 + 2) - (l3 + 2) / 4 * 4)) 384) (
     bif decide (a59 (((4 * v4) + ((l3 + 2) - (l3 + 2) / 4 * 4)).toNatClampNeg) = 0) then
      some (.inl (l3 + 1, b60, b61, c57_4))
     else
      zg (g_cu_visit (96 + v4) y b60 c57_4 b61) (
      zl (a0_cu_visit (96 + v4) y b60 c57_4 b61) (fun v5 =>
      zl (a1_cu_visit (96 + v4) y b60 c57_4 b61) (fun v6 =>
      zl (f0_cu_visit (96 + v4) y b60 c57_4 b61) (fun v7 =>
      some (.inl (l3 + 1, v5, v6, v7)))))))))
def f_cu_enter_20 (y : Int32) (a3 : Nat → Int32) (a59 : Nat → Int32) : U_cu_enter_20 → Option (U_cu_enter_20 ⊕ T_cu_enter) := fun s => b_cu_enter_20 y a3 a59 s.1 s.2.1 s.2.2.1 s.2.2.2
noncomputable def l_cu_enter_20 (y : Int32) (a3 : Nat → Int32) (a59 : Nat → Int32) (l3 : Int32) (b60 : Nat → Int32) (b61 : Nat → Int32) (c57_4 : Int32) : Option T_cu_enter := zlp (f_cu_enter_20 y a3 a59) (l3, b60, b61, c57_4)
noncomputable def q_cu_enter (y : Int32) (a3 : Nat → Int32) (a58 : Nat → Int32) (a59 : Nat → Int32) (a60 : Nat → Int32) (a61 : Nat → Int32) (f57_4 : Int32) : Option T_cu_enter :=
  zg (zin y 96) (
  bif !decide (a58 (y.toNatClampNeg) = 0) then
   l_cu_enter_20 y a3 a59 0 a60 a61 (f57_4)
  else
   zg (g_cu_visit (96 + y) y a60 (f57_4) a61) (
   zl (a0_cu_visit (96 + y) y a60 (f57_4) a61) (fun v1 =>
   zl (a1_cu_visit (96 + y) y a60 (f57_4) a61) (fun v2 =>
   zl (f0_cu_visit (96 + y) y a60 (f57_4) a61) (fun v3 =>
   l_cu_enter_20 y a3 a59 0 v1 v2 v3)))))
def P_cu_enter (Q : Int32 → (Nat → Int32) → (Nat → Int32) → (Nat → Int32) → (Nat → Int32) → (Nat → Int32) → Int32 → Option ((Nat → Int32) × (Nat → Int32) × Int32)) : zSp := fun as g => match as with
  | [.ref a, .ref b, .int y] => bif Nat.beq a 57 && Nat.beq b 3 then zpe (Q y (g.1 3) (g.1 58) (g.1 59) (g.1 60) (g.1 61) (g.2.1 57 4)) (fun t => (none, ((zua (zua g.1 60 t.1) 61 t.2.1), (zuf g.2.1 57 4 t.2.2), g.2.2))) else none
  | _ => none
noncomputable abbrev S_cu_enter : zSp := P_cu_enter q_cu_enter
def O_cu_enter (ar fi : Nat → Nat → Int32) (m1 : Nat) (m2 : Nat) (m3 : Nat) (m4 : Nat) (m5 : Nat) (t : T_cu_enter) : zO2 := (none, ((zua (zua ar 60 t.1) 61 t.2.1), (zuf fi 57 4 t.2.2), (m1, m2, m3, m4, m5)))
def M_cu_enter_20 (X : Nat × (Nat → Int32)) (E : zTE) (ar fi : Nat → Nat → Int32) (m1 : Nat) (m2 : Nat) (m3 : Nat) (m4 : Nat) (m5 : Nat) (y : Int32) (o : zO2) (s : U_cu_enter_20) : Prop := zR2 X zFT E zc_16 20 [.ref 57, .ref 3, .int y, .int s.1] [] ((zua (zua ar 60 s.2.1) 61 s.2.2.1), (zuf fi 57 4 s.2.2.2), (m1, m2, m3, m4, m5)) o
set_option maxRecDepth 20000 in
theorem t20_cu_enter {X : Nat × (Nat → Int32)} {ar fi : Nat → Nat → Int32} {m1 m2 m3 m4 m5 : Nat} {y : Int32} {l3 : Int32} {b60 : Nat → Int32} {b61 : Nat → Int32} {c57_4 : Int32} {G_cu_visit : Int32 → Int32 → (Nat → Int32) → Int32 → (Nat → Int32) → Bool} {A0_cu_visit : Int32 → Int32 → (Nat → Int32) → Int32 → (Nat → Int32) → Nat → Int32} {A1_cu_visit : Int32 → Int32 → (Nat → Int32) → Int32 → (Nat → Int32) → Nat → Int32} {F0_cu_visit : Int32 → Int32 → (Nat → Int32) → Int32 → (Nat → Int32) → Int32} {W_if_nextTo : Int32 → Int32 → Int32} : zseg X zFT (zEx 14 (P_cu_visit G_cu_visit A0_cu_visit A1_cu_visit F0_cu_visit) (zEx 140 (P_if_nextTo W_if_nextTo) zE0)) zc_16 (fun p => Nat.beq p 20) 400 20 [.ref 57, .ref 3, .int y, .int l3] [] ((zua (zua ar 60 b60) 61 b61), (zuf fi 57 4 c57_4), (m1, m2, m3, m4, m5)) = (
  bif decide (4 ≤ l3) then
   some (.inr (none, ((zua (zua ar 60 b60) 61 b61), (zuf fi 57 4 c57_4), (m1, m2, m3, m4, m5))))
  else
   zl (W_if_nextTo y l3) (fun v4 =>
   bif decide (v4 < 0) then
    some (.inl (20, [.ref 57, .ref 3, .int y, .int (l3 + 1)], [], ((zua (zua ar 60 b60) 61 b61), (zuf fi 57 4 c57_4), (m1, m2, m3, m4, m5))))
   else
    zg (zin v4 96) (
    bif !decide ((ar 3) (v4.toNatClampNeg) = 1) then
     some (.inl (20, [.ref 57, .ref 3, .int y, .int (l3 + 1)], [], ((zua (zua ar 60 b60) 61 b61), (zuf fi 57 4 c57_4), (m1, m2, m3, m4, m5))))
    else
     zg (zin ((4 * v4) + ((l3 + 2) - (l3 + 2) / 4 * 4)) 384) (
     bif decide ((ar 59) (((4 * v4) + ((l3 + 2) - (l3 + 2) / 4 * 4)).toNatClampNeg) = 0) then
      some (.inl (20, [.ref 57, .ref 3, .int y, .int (l3 + 1)], [], ((zua (zua ar 60 b60) 61 b61), (zuf fi 57 4 c57_4), (m1, m2, m3, m4, m5))))
     else
      zg (G_cu_visit (96 + v4) y b60 c57_4 b61) (
      zl (A0_cu_visit (96 + v4) y b60 c57_4 b61) (fun v5 =>
      zl (A1_cu_visit (96 + v4) y b60 c57_4 b61) (fun v6 =>
      zl (F0_cu_visit (96 + v4) y b60 c57_4 b61) (fun v7 =>
      some (.inl (20, [.ref 57, .ref 3, .int y, .int (l3 + 1)], [], ((zua (zua (zua (zua ar 60 b60) 61 b61) 60 v5) 61 v6), (zuf (zuf fi 57 4 c57_4) 57 4 v7), (m1, m2, m3, m4, m5))))))))))) : Option ((Nat × List Value × List Value × zH2) ⊕ zO2)) := rfl
theorem k_cu_enter_20 {X : Nat × (Nat → Int32)} {ar fi : Nat → Nat → Int32} {m1 m2 m3 m4 m5 : Nat} {y : Int32} {o : zO2} : ∀ (s : U_cu_enter_20) (q : U_cu_enter_20 ⊕ T_cu_enter), f_cu_enter_20 y (ar 3) (ar 59) s = some q → zq (M_cu_enter_20 X (zEx 14 S_cu_visit (zEx 140 S_if_nextTo zE0)) ar fi m1 m2 m3 m4 m5 y o) (fun t => O_cu_enter ar fi m1 m2 m3 m4 m5 t = o) q → M_cu_enter_20 X (zEx 14 S_cu_visit (zEx 140 S_if_nextTo zE0)) ar fi m1 m2 m3 m4 m5 y o s := by
  intro s q h hq
  obtain ⟨l3, b60, b61, c57_4⟩ := s
  have h : b_cu_enter_20 y (ar 3) (ar 59) l3 b60 b61 c57_4 = some q := h
  unfold b_cu_enter_20 at h
  show zR2 X zFT (zEx 14 S_cu_visit (zEx 140 S_if_nextTo zE0)) zc_16 20 [.ref 57, .ref 3, .int y, .int l3] [] ((zua (zua ar 60 b60) 61 b61), (zuf fi 57 4 c57_4), (m1, m2, m3, m4, m5)) o
  refine zT_seg t20_cu_enter ?_
  refine zb_el h (fun hb h => zT_t hb ?_) (fun hb h => zT_f hb ?_)
  · have hz := zsi h hq
    refine (zO_mk ?_ ?_).trans hz
    · first | with_reducible rfl | (exact zuas_eq _ [(60, _), (61, _)] [(60, _), (61, _)] [60, 61] rfl rfl ⟨rfl, rfl, trivial⟩)
    · first | with_reducible rfl | (exact zufs_eq _ [(57, 4, _)] [(57, 4, _)] [(57, 4)] rfl rfl ⟨rfl, trivial⟩)
  · refine zl_el h (fun h => zT_l ?_)
    refine zb_el h (fun hb h => zT_t hb ?_) (fun hb h => zT_f hb ?_)
    · have hz := zsi h hq
      refine zR2_hp ?_ ?_ hz
      · first | with_reducible rfl | (exact zuas_eq _ [(60, _), (61, _)] [(60, _), (61, _)] [60, 61] rfl rfl ⟨rfl, rfl, trivial⟩)
      · first | with_reducible rfl | (exact zufs_eq _ [(57, 4, _)] [(57, 4, _)] [(57, 4)] rfl rfl ⟨rfl, trivial⟩)
    · refine zg_el h (fun hg h => zT_g hg ?_)
      refine zb_el h (fun hb h => zT_t hb ?_) (fun hb h => zT_f hb ?_)
      · have hz := zsi h hq
        refine zR2_hp ?_ ?_ hz
        · first | with_reducible rfl | (exact zuas_eq _ [(60, _), (61, _)] [(60, _), (61, _)] [60, 61] rfl rfl ⟨rfl, rfl, trivial⟩)
        · first | with_reducible rfl | (exact zufs_eq _ [(57, 4, _)] [(57, 4, _)] [(57, 4)] rfl rfl ⟨rfl, trivial⟩)
      · refine zg_el h (fun hg h => zT_g hg ?_)
        refine zb_el h (fun hb h => zT_t hb ?_) (fun hb h => zT_f hb ?_)
        · have hz := zsi h hq
          refine zR2_hp ?_ ?_ hz
          · first | with_reducible rfl | (exact zuas_eq _ [(60, _), (61, _)] [(60, _), (61, _)] [60, 61] rfl rfl ⟨rfl, rfl, trivial⟩)
          · first | with_reducible rfl | (exact zufs_eq _ [(57, 4, _)] [(57, 4, _)] [(57, 4)] rfl rfl ⟨rfl, trivial⟩)
        · refine zg_el h (fun hg h => zT_g hg ?_)
          refine zl_el h (fun h => zT_l ?_)
          refine zl_el h (fun h => zT_l ?_)
          refine zl_el h (fun h => zT_l ?_)
          have hz := zsi h hq
          refine zR2_hp ?_ ?_ hz
          · first | with_reducible rfl | (exact zuas_eq _ [(60, _), (61, _), (60, _), (61, _)] [(60, _), (61, _)] [60, 61] rfl rfl ⟨rfl, rfl, trivial⟩)
          · first | with_reducible rfl | (exact zufs_eq _ [(57, 4, _), (57, 4, _)] [(57, 4, _)] [(57, 4)] rfl rfl ⟨rfl, trivial⟩)
set_option maxRecDepth 20000 in
theorem t_cu_enter {X : Nat × (Nat → Int32)} {ar fi : Nat → Nat → Int32} {m1 m2 m3 m4 m5 : Nat} {y : Int32} {G_cu_visit : Int32 → Int32 → (Nat → Int32) → Int32 → (Nat → Int32) → Bool} {A0_cu_visit : Int32 → Int32 → (Nat → Int32) → Int32 → (Nat → Int32) → Nat → Int32} {A1_cu_visit : Int32 → Int32 → (Nat → Int32) → Int32 → (Nat → Int32) → Nat → Int32} {F0_cu_visit : Int32 → Int32 → (Nat → Int32) → Int32 → (Nat → Int32) → Int32} {W_if_nextTo : Int32 → Int32 → Int32} : zseg X zFT (zEx 14 (P_cu_visit G_cu_visit A0_cu_visit A1_cu_visit F0_cu_visit) (zEx 140 (P_if_nextTo W_if_nextTo) zE0)) zc_16 (fun p => Nat.beq p 20) 400 0 [.ref 57, .ref 3, .int y] [] (ar, fi, (m1, m2, m3, m4, m5)) = (
  zg (zin y 96) (
  bif !decide ((ar 58) (y.toNatClampNeg) = 0) then
   some (.inl (20, [.ref 57, .ref 3, .int y, .int 0], [], (ar, fi, (m1, m2, m3, m4, m5))))
  else
   zg (G_cu_visit (96 + y) y (ar 60) (fi 57 4) (ar 61)) (
   zl (A0_cu_visit (96 + y) y (ar 60) (fi 57 4) (ar 61)) (fun v1 =>
   zl (A1_cu_visit (96 + y) y (ar 60) (fi 57 4) (ar 61)) (fun v2 =>
   zl (F0_cu_visit (96 + y) y (ar 60) (fi 57 4) (ar 61)) (fun v3 =>
   some (.inl (20, [.ref 57, .ref 3, .int y, .int 0], [], ((zua (zua ar 60 v1) 61 v2), (zuf fi 57 4 v3), (m1, m2, m3, m4, m5))))))))) : Option ((Nat × List Value × List Value × zH2) ⊕ zO2)) := rfl
theorem e_cu_enter {X : Nat × (Nat → Int32)} {ar fi : Nat → Nat → Int32} {m1 m2 m3 m4 m5 : Nat} {y : Int32} {o : zO2} : ∀ (q : T_cu_enter), q_cu_enter y (ar 3) (ar 58) (ar 59) (ar 60) (ar 61) (fi 57 4) = some q → (fun t => O_cu_enter ar fi m1 m2 m3 m4 m5 t = o) q → zR2 X zFT (zEx 14 S_cu_visit (zEx 140 S_if_nextTo zE0)) zc_16 0 [.ref 57, .ref 3, .int y] [] (ar, fi, (m1, m2, m3, m4, m5)) o := by
  intro q h hq
  unfold q_cu_enter at h
  refine zT_seg t_cu_enter ?_
  refine zg_el h (fun hg h => zT_g hg ?_)
  refine zb_el h (fun hb h => zT_t hb ?_) (fun hb h => zT_f hb ?_)
  · refine zR2_hp ?_ ?_ (zlp_K k_cu_enter_20 h hq)
    · first | with_reducible rfl | (exact zuas_eq _ [] [(60, _), (61, _)] [60, 61] rfl rfl ⟨rfl, rfl, trivial⟩)
    · first | with_reducible rfl | (exact zufs_eq _ [] [(57, 4, _)] [(57, 4)] rfl rfl ⟨rfl, trivial⟩)
  · refine zg_el h (fun hg h => zT_g hg ?_)
    refine zl_el h (fun h => zT_l ?_)
    refine zl_el h (fun h => zT_l ?_)
    refine zl_el h (fun h => zT_l ?_)
    refine zR2_hp ?_ ?_ (zlp_K k_cu_enter_20 h hq)
    · first | with_reducible rfl | (exact zuas_eq _ [(60, _), (61, _)] [(60, _), (61, _)] [60, 61] rfl rfl ⟨rfl, rfl, trivial⟩)
    · first | with_reducible rfl | (exact zufs_eq _ [(57, 4, _)] [(57, 4, _)] [(57, 4)] rfl rfl ⟨rfl, trivial⟩)
theorem ok_cu_enter (X : Nat × (Nat → Int32)) : zOkS X 16 S_cu_enter 2 := zOkS_new (zOkE_cons (ok_cu_visit X) (by decide) (zOkE_cons (ok_if_nextTo X) (by decide) (zOkE_nil X 1))) (by
  intro args g o h
  obtain ⟨ar, fi, m1, m2, m3, m4, m5⟩ := g
  unfold S_cu_enter P_cu_enter at h
  split at h
  · refine zb_el h (fun hI0 k0 => ?_) (fun _ h10 => ?_)
    · try simp only [Bool.and_eq_true] at hI0
      obtain ⟨j0, j1⟩ := hI0
      have e0 := Nat.eq_of_beq_eq_true j0
      subst e0
      have e1 := Nat.eq_of_beq_eq_true j1
      subst e1
      exact zpe_el k0 (fun t ht ho => e_cu_enter t ht ho)
    · cases h10
  · cases h)
abbrev T_cu_mark : Type := (Nat → Int32)
abbrev U_cu_mark_3 : Type := Int32 × (Nat → Int32)
def b_cu_mark_3 (x : Int32) (y : Int32) (z : Int32) (l4 : Int32) (b59 : Nat → Int32) : Option (U_cu_mark_3 ⊕ T_cu_mark) :=
  bif decide (4 ≤ l4) then
   some (.inr b59)
  else
   zl (w_if_nextTo x l4) (fun v1 =>
   bif !decide (v1 = y) then
    some (.inl (l4 + 1, b59))
   else
    zg (zin ((4 * x) + l4) 384) (
    some (.inl (l4 + 1, (zup b59 (((4 * x) + l4).toNatClampNeg) (z &&& 1))))))
def f_cu_mark_3 (x : Int32) (y : Int32) (z : Int32) : U_cu_mark_3 → Option (U_cu_mark_3 ⊕ T_cu_mark) := fun s => b_cu_mark_3 x y z s.1 s.2
noncomputable def l_cu_mark_3 (x : Int32) (y : Int32) (z : Int32) (l4 : Int32) (b59 : Nat → Int32) : Option T_cu_mark := zlp (f_cu_mark_3 x y z) (l4, b59)
noncomputable def q_cu_mark (x : Int32) (y : Int32) (z : Int32) (a59 : Nat → Int32) : Option T_cu_mark :=
  l_cu_mark_3 x y z 0 a59
def P_cu_mark (Q : Int32 → Int32 → Int32 → (Nat → Int32) → Option ((Nat → Int32))) : zSp := fun as g => match as with
  | [.ref a, .int x, .int y, .int z] => bif Nat.beq a 57 then zpe (Q x y z (g.1 59)) (fun t => (none, ((zua g.1 59 t), g.2.1, g.2.2))) else none
  | _ => none
noncomputable abbrev S_cu_mark : zSp := P_cu_mark q_cu_mark
def O_cu_mark (ar fi : Nat → Nat → Int32) (m1 : Nat) (m2 : Nat) (m3 : Nat) (m4 : Nat) (m5 : Nat) (t : T_cu_mark) : zO2 := (none, ((zua ar 59 t), fi, (m1, m2, m3, m4, m5)))
def M_cu_mark_3 (X : Nat × (Nat → Int32)) (E : zTE) (ar fi : Nat → Nat → Int32) (m1 : Nat) (m2 : Nat) (m3 : Nat) (m4 : Nat) (m5 : Nat) (x : Int32) (y : Int32) (z : Int32) (o : zO2) (s : U_cu_mark_3) : Prop := zR2 X zFT E zc_18 3 [.ref 57, .int x, .int y, .int z, .int s.1] [] ((zua ar 59 s.2), fi, (m1, m2, m3, m4, m5)) o
set_option maxRecDepth 20000 in
theorem t3_cu_mark {X : Nat × (Nat → Int32)} {ar fi : Nat → Nat → Int32} {m1 m2 m3 m4 m5 : Nat} {x y z : Int32} {l4 : Int32} {b59 : Nat → Int32} {W_if_nextTo : Int32 → Int32 → Int32} : zseg X zFT (zEx 140 (P_if_nextTo W_if_nextTo) zE0) zc_18 (fun p => Nat.beq p 3) 400 3 [.ref 57, .int x, .int y, .int z, .int l4] [] ((zua ar 59 b59), fi, (m1, m2, m3, m4, m5)) = (
  bif decide (4 ≤ l4) then
   some (.inr (none, ((zua ar 59 b59), fi, (m1, m2, m3, m4, m5))))
  else
   zl (W_if_nextTo x l4) (fun v1 =>
   bif !decide (v1 = y) then
    some (.inl (3, [.ref 57, .int x, .int y, .int z, .int (l4 + 1)], [], ((zua ar 59 b59), fi, (m1, m2, m3, m4, m5))))
   else
    zg (zin ((4 * x) + l4) 384) (
    some (.inl (3, [.ref 57, .int x, .int y, .int z, .int (l4 + 1)], [], ((zua (zua ar 59 b59) 59 (zup b59 (((4 * x) + l4).toNatClampNeg) (z &&& 1))), fi, (m1, m2, m3, m4, m5)))))) : Option ((Nat × List Value × List Value × zH2) ⊕ zO2)) := rfl
theorem k_cu_mark_3 {X : Nat × (Nat → Int32)} {ar fi : Nat → Nat → Int32} {m1 m2 m3 m4 m5 : Nat} {x y z : Int32} {o : zO2} : ∀ (s : U_cu_mark_3) (q : U_cu_mark_3 ⊕ T_cu_mark), f_cu_mark_3 x y z s = some q → zq (M_cu_mark_3 X (zEx 140 S_if_nextTo zE0) ar fi m1 m2 m3 m4 m5 x y z o) (fun t => O_cu_mark ar fi m1 m2 m3 m4 m5 t = o) q → M_cu_mark_3 X (zEx 140 S_if_nextTo zE0) ar fi m1 m2 m3 m4 m5 x y z o s := by
  intro s q h hq
  obtain ⟨l4, b59⟩ := s
  have h : b_cu_mark_3 x y z l4 b59 = some q := h
  unfold b_cu_mark_3 at h
  show zR2 X zFT (zEx 140 S_if_nextTo zE0) zc_18 3 [.ref 57, .int x, .int y, .int z, .int l4] [] ((zua ar 59 b59), fi, (m1, m2, m3, m4, m5)) o
  refine zT_seg t3_cu_mark ?_
  refine zb_el h (fun hb h => zT_t hb ?_) (fun hb h => zT_f hb ?_)
  · have hz := zsi h hq
    refine (zO_mk ?_ ?_).trans hz
    · first | with_reducible rfl | (exact zuas_eq _ [(59, _)] [(59, _)] [59] rfl rfl ⟨rfl, trivial⟩)
    · first | with_reducible rfl | (rfl)
  · refine zl_el h (fun h => zT_l ?_)
    refine zb_el h (fun hb h => zT_t hb ?_) (fun hb h => zT_f hb ?_)
    · have hz := zsi h hq
      refine zR2_hp ?_ ?_ hz
      · first | with_reducible rfl | (exact zuas_eq _ [(59, _)] [(59, _)] [59] rfl rfl ⟨rfl, trivial⟩)
      · first | with_reducible rfl | (rfl)
    · refine zg_el h (fun hg h => zT_g hg ?_)
      have hz := zsi h hq
      refine zR2_hp ?_ ?_ hz
      · first | with_reducible rfl | (exact zuas_eq _ [(59, _), (59, _)] [(59, _)] [59] rfl rfl ⟨rfl, trivial⟩)
      · first | with_reducible rfl | (rfl)
set_option maxRecDepth 20000 in
theorem t_cu_mark {X : Nat × (Nat → Int32)} {ar fi : Nat → Nat → Int32} {m1 m2 m3 m4 m5 : Nat} {x y z : Int32} {W_if_nextTo : Int32 → Int32 → Int32} : zseg X zFT (zEx 140 (P_if_nextTo W_if_nextTo) zE0) zc_18 (fun p => Nat.beq p 3) 400 0 [.ref 57, .int x, .int y, .int z] [] (ar, fi, (m1, m2, m3, m4, m5)) = (
  some (.inl (3, [.ref 57, .int x, .int y, .int z, .int 0], [], (ar, fi, (m1, m2, m3, m4, m5)))) : Option ((Nat × List Value × List Value × zH2) ⊕ zO2)) := rfl
theorem e_cu_mark {X : Nat × (Nat → Int32)} {ar fi : Nat → Nat → Int32} {m1 m2 m3 m4 m5 : Nat} {x y z : Int32} {o : zO2} : ∀ (q : T_cu_mark), q_cu_mark x y z (ar 59) = some q → (fun t => O_cu_mark ar fi m1 m2 m3 m4 m5 t = o) q → zR2 X zFT (zEx 140 S_if_nextTo zE0) zc_18 0 [.ref 57, .int x, .int y, .int z] [] (ar, fi, (m1, m2, m3, m4, m5)) o := by
  intro q h hq
  unfold q_cu_mark at h
  refine zT_seg t_cu_mark ?_
  refine zR2_hp ?_ ?_ (zlp_K k_cu_mark_3 h hq)
  · first | with_reducible rfl | (exact zuas_eq _ [] [(59, _)] [59] rfl rfl ⟨rfl, trivial⟩)
  · first | with_reducible rfl | (rfl)
theorem ok_cu_mark (X : Nat × (Nat → Int32)) : zOkS X 18 S_cu_mark 2 := zOkS_new (zOkE_cons (ok_if_nextTo X) (by decide) (zOkE_nil X 1)) (by
  intro args g o h
  obtain ⟨ar, fi, m1, m2, m3, m4, m5⟩ := g
  unfold S_cu_mark P_cu_mark at h
  split at h
  · refine zb_el h (fun hI0 k0 => ?_) (fun _ h10 => ?_)
    · try simp only [Bool.and_eq_true] at hI0
      have j0 := hI0
      have e0 := Nat.eq_of_beq_eq_true j0
      subst e0
      exact zpe_el k0 (fun t ht ho => e_cu_mark t ht ho)
    · cases h10
  · cases h)
abbrev T_gr_goOver : Type := (Nat → Int32) × (Nat → Int32) × Int32 × Int32
abbrev U_gr_goOver_29 : Type := Int32 × (Nat → Int32) × (Nat → Int32) × Int32
abbrev U_gr_goOver_5 : Type := Int32 × (Nat → Int32) × (Nat → Int32) × Int32
def b_gr_goOver_29 (a3 : Nat → Int32) (l2 : Int32) (l3 : Int32) (l4 : Int32) (b53 : Nat → Int32) (b54 : Nat → Int32) (c52_1 : Int32) : Option (U_gr_goOver_29 ⊕ (U_gr_goOver_5 ⊕ T_gr_goOver)) :=
  bif decide (4 ≤ l4) then
   some (.inr (.inl (l2 + 1, b53, b54, c52_1)))
  else
   zl (w_if_nextTo l3 l4) (fun v1 =>
   bif decide (v1 < 0) then
    some (.inl (l4 + 1, b53, b54, c52_1))
   else
    zg (zin v1 96) (
    bif !decide (a3 (v1.toNatClampNeg) = 1) then
     some (.inl (l4 + 1, b53, b54, c52_1))
    else
     zg (zin l3 96) (
     zg (g_gr_reach v1 ((b53 (l3.toNatClampNeg)) + 1) b53 c52_1 b54) (
     zl (a0_gr_reach v1 ((b53 (l3.toNatClampNeg)) + 1) b53 c52_1 b54) (fun v2 =>
     zl (a1_gr_reach v1 ((b53 (l3.toNatClampNeg)) + 1) b53 c52_1 b54) (fun v3 =>
     zl (f0_gr_reach v1 ((b53 (l3.toNatClampNeg)) + 1) b53 c52_1 b54) (fun v4 =>
     some (.inl (l4 + 1, v2, v3, v4)))))))))
def f_gr_goOver_29 (a3 : Nat → Int32) (l2 : Int32) (l3 : Int32) : U_gr_goOver_29 → Option (U_gr_goOver_29 ⊕ (U_gr_goOver_5 ⊕ T_gr_goOver)) := fun s => b_gr_goOver_29 a3 l2 l3 s.1 s.2.1 s.2.2.1 s.2.2.2
noncomputable def l_gr_goOver_29 (a3 : Nat → Int32) (l2 : Int32) (l3 : Int32) (l4 : Int32) (b53 : Nat → Int32) (b54 : Nat → Int32) (c52_1 : Int32) : Option (U_gr_goOver_5 ⊕ T_gr_goOver) := zlp (f_gr_goOver_29 a3 l2 l3) (l4, b53, b54, c52_1)
noncomputable def b_gr_goOver_5 (a3 : Nat → Int32) (l2 : Int32) (b53 : Nat → Int32) (b54 : Nat → Int32) (c52_1 : Int32) : Option (U_gr_goOver_5 ⊕ T_gr_goOver) :=
  bif decide (c52_1 ≤ l2) then
   some (.inr (b53, b54, c52_1, c52_1))
  else
   bif decide (96 ≤ l2) then
    some (.inr (b53, b54, c52_1, c52_1))
   else
    zg (zin l2 96) (
    l_gr_goOver_29 a3 l2 (b54 (l2.toNatClampNeg)) 0 b53 b54 c52_1)
noncomputable def f_gr_goOver_5 (a3 : Nat → Int32) : U_gr_goOver_5 → Option (U_gr_goOver_5 ⊕ T_gr_goOver) := fun s => b_gr_goOver_5 a3 s.1 s.2.1 s.2.2.1 s.2.2.2
noncomputable def l_gr_goOver_5 (a3 : Nat → Int32) (l2 : Int32) (b53 : Nat → Int32) (b54 : Nat → Int32) (c52_1 : Int32) : Option T_gr_goOver := zlp (f_gr_goOver_5 a3) (l2, b53, b54, c52_1)
noncomputable def q_gr_goOver (a3 : Nat → Int32) (a53 : Nat → Int32) (a54 : Nat → Int32) (f52_1 : Int32) (f52_3 : Int32) : Option T_gr_goOver :=
  l_gr_goOver_5 a3 (f52_3) a53 a54 (f52_1)
def P_gr_goOver (Q : (Nat → Int32) → (Nat → Int32) → (Nat → Int32) → Int32 → Int32 → Option ((Nat → Int32) × (Nat → Int32) × Int32 × Int32)) : zSp := fun as g => match as with
  | [.ref a, .ref b] => bif Nat.beq a 52 && Nat.beq b 3 then zpe (Q (g.1 3) (g.1 53) (g.1 54) (g.2.1 52 1) (g.2.1 52 3)) (fun t => (none, ((zua (zua g.1 53 t.1) 54 t.2.1), (zuf (zuf g.2.1 52 1 t.2.2.1) 52 3 t.2.2.2), g.2.2))) else none
  | _ => none
noncomputable abbrev S_gr_goOver : zSp := P_gr_goOver q_gr_goOver
def O_gr_goOver (ar fi : Nat → Nat → Int32) (m1 : Nat) (m2 : Nat) (m3 : Nat) (m4 : Nat) (m5 : Nat) (t : T_gr_goOver) : zO2 := (none, ((zua (zua ar 53 t.1) 54 t.2.1), (zuf (zuf fi 52 1 t.2.2.1) 52 3 t.2.2.2), (m1, m2, m3, m4, m5)))
def M_gr_goOver_29 (X : Nat × (Nat → Int32)) (E : zTE) (ar fi : Nat → Nat → Int32) (m1 : Nat) (m2 : Nat) (m3 : Nat) (m4 : Nat) (m5 : Nat) (l2 : Int32) (l3 : Int32) (o : zO2) (s : U_gr_goOver_29) : Prop := zR2 X zFT E zc_29 29 [.ref 52, .ref 3, .int l2, .int l3, .int s.1] [] ((zua (zua ar 53 s.2.1) 54 s.2.2.1), (zuf fi 52 1 s.2.2.2), (m1, m2, m3, m4, m5)) o
def M_gr_goOver_5 (X : Nat × (Nat → Int32)) (E : zTE) (ar fi : Nat → Nat → Int32) (m1 : Nat) (m2 : Nat) (m3 : Nat) (m4 : Nat) (m5 : Nat) (o : zO2) (s : U_gr_goOver_5) : Prop := zR2 X zFT E zc_29 5 [.ref 52, .ref 3, .int s.1] [] ((zua (zua ar 53 s.2.1) 54 s.2.2.1), (zuf fi 52 1 s.2.2.2), (m1, m2, m3, m4, m5)) o
set_option maxRecDepth 20000 in
theorem t29_gr_goOver {X : Nat × (Nat → Int32)} {ar fi : Nat → Nat → Int32} {m1 m2 m3 m4 m5 : Nat} {l2 : Int32} {l3 : Int32} {l4 : Int32} {b53 : Nat → Int32} {b54 : Nat → Int32} {c52_1 : Int32} {W_if_nextTo : Int32 → Int32 → Int32} {G_gr_reach : Int32 → Int32 → (Nat → Int32) → Int32 → (Nat → Int32) → Bool} {A0_gr_reach : Int32 → Int32 → (Nat → Int32) → Int32 → (Nat → Int32) → Nat → Int32} {A1_gr_reach : Int32 → Int32 → (Nat → Int32) → Int32 → (Nat → Int32) → Nat → Int32} {F0_gr_reach : Int32 → Int32 → (Nat → Int32) → Int32 → (Nat → Int32) → Int32} : zseg X zFT (zEx 140 (P_if_nextTo W_if_nextTo) (zEx 28 (P_gr_reach G_gr_reach A0_gr_reach A1_gr_reach F0_gr_reach) zE0)) zc_29 (fun p => Nat.beq p 29 || Nat.beq p 5) 400 29 [.ref 52, .ref 3, .int l2, .int l3, .int l4] [] ((zua (zua ar 53 b53) 54 b54), (zuf fi 52 1 c52_1), (m1, m2, m3, m4, m5)) = (
  bif decide (4 ≤ l4) then
   some (.inl (5, [.ref 52, .ref 3, .int (l2 + 1)], [], ((zua (zua ar 53 b53) 54 b54), (zuf fi 52 1 c52_1), (m1, m2, m3, m4, m5))))
  else
   zl (W_if_nextTo l3 l4) (fun v1 =>
   bif decide (v1 < 0) then
    some (.inl (29, [.ref 52, .ref 3, .int l2, .int l3, .int (l4 + 1)], [], ((zua (zua ar 53 b53) 54 b54), (zuf fi 52 1 c52_1), (m1, m2, m3, m4, m5))))
   else
    zg (zin v1 96) (
    bif !decide ((ar 3) (v1.toNatClampNeg) = 1) then
     some (.inl (29, [.ref 52, .ref 3, .int l2, .int l3, .int (l4 + 1)], [], ((zua (zua ar 53 b53) 54 b54), (zuf fi 52 1 c52_1), (m1, m2, m3, m4, m5))))
    else
     zg (zin l3 96) (
     zg (G_gr_reach v1 ((b53 (l3.toNatClampNeg)) + 1) b53 c52_1 b54) (
     zl (A0_gr_reach v1 ((b53 (l3.toNatClampNeg)) + 1) b53 c52_1 b54) (fun v2 =>
     zl (A1_gr_reach v1 ((b53 (l3.toNatClampNeg)) + 1) b53 c52_1 b54) (fun v3 =>
     zl (F0_gr_reach v1 ((b53 (l3.toNatClampNeg)) + 1) b53 c52_1 b54) (fun v4 =>
     some (.inl (29, [.ref 52, .ref 3, .int l2, .int l3, .int (l4 + 1)], [], ((zua (zua (zua (zua ar 53 b53) 54 b54) 53 v2) 54 v3), (zuf (zuf fi 52 1 c52_1) 52 1 v4), (m1, m2, m3, m4, m5))))))))))) : Option ((Nat × List Value × List Value × zH2) ⊕ zO2)) := rfl
theorem k_gr_goOver_29 {X : Nat × (Nat → Int32)} {ar fi : Nat → Nat → Int32} {m1 m2 m3 m4 m5 : Nat} {l2 : Int32} {l3 : Int32} {o : zO2} : ∀ (s : U_gr_goOver_29) (q : U_gr_goOver_29 ⊕ (U_gr_goOver_5 ⊕ T_gr_goOver)), f_gr_goOver_29 (ar 3) l2 l3 s = some q → zq (M_gr_goOver_29 X (zEx 140 S_if_nextTo (zEx 28 S_gr_reach zE0)) ar fi m1 m2 m3 m4 m5 l2 l3 o) (zq (M_gr_goOver_5 X (zEx 140 S_if_nextTo (zEx 28 S_gr_reach zE0)) ar fi m1 m2 m3 m4 m5 o) (fun t => O_gr_goOver ar fi m1 m2 m3 m4 m5 t = o)) q → M_gr_goOver_29 X (zEx 140 S_if_nextTo (zEx 28 S_gr_reach zE0)) ar fi m1 m2 m3 m4 m5 l2 l3 o s := by
  intro s q h hq
  obtain ⟨l4, b53, b54, c52_1⟩ := s
  have h : b_gr_goOver_29 (ar 3) l2 l3 l4 b53 b54 c52_1 = some q := h
  unfold b_gr_goOver_29 at h
  show zR2 X zFT (zEx 140 S_if_nextTo (zEx 28 S_gr_reach zE0)) zc_29 29 [.ref 52, .ref 3, .int l2, .int l3, .int l4] [] ((zua (zua ar 53 b53) 54 b54), (zuf fi 52 1 c52_1), (m1, m2, m3, m4, m5)) o
  refine zT_seg t29_gr_goOver ?_
  refine zb_el h (fun hb h => zT_t hb ?_) (fun hb h => zT_f hb ?_)
  · have hz := zsi h hq
    refine zR2_hp ?_ ?_ hz
    · first | with_reducible rfl | (exact zuas_eq _ [(53, _), (54, _)] [(53, _), (54, _)] [53, 54] rfl rfl ⟨rfl, rfl, trivial⟩)
    · first | with_reducible rfl | (exact zufs_eq _ [(52, 1, _)] [(52, 1, _)] [(52, 1)] rfl rfl ⟨rfl, trivial⟩)
  · refine zl_el h (fun h => zT_l ?_)
    refine zb_el h (fun hb h => zT_t hb ?_) (fun hb h => zT_f hb ?_)
    · have hz := zsi h hq
      refine zR2_hp ?_ ?_ hz
      · first | with_reducible rfl | (exact zuas_eq _ [(53, _), (54, _)] [(53, _), (54, _)] [53, 54] rfl rfl ⟨rfl, rfl, trivial⟩)
      · first | with_reducible rfl | (exact zufs_eq _ [(52, 1, _)] [(52, 1, _)] [(52, 1)] rfl rfl ⟨rfl, trivial⟩)
    · refine zg_el h (fun hg h => zT_g hg ?_)
      refine zb_el h (fun hb h => zT_t hb ?_) (fun hb h => zT_f hb ?_)
      · have hz := zsi h hq
        refine zR2_hp ?_ ?_ hz
        · first | with_reducible rfl | (exact zuas_eq _ [(53, _), (54, _)] [(53, _), (54, _)] [53, 54] rfl rfl ⟨rfl, rfl, trivial⟩)
        · first | with_reducible rfl | (exact zufs_eq _ [(52, 1, _)] [(52, 1, _)] [(52, 1)] rfl rfl ⟨rfl, trivial⟩)
      · refine zg_el h (fun hg h => zT_g hg ?_)
        refine zg_el h (fun hg h => zT_g hg ?_)
        refine zl_el h (fun h => zT_l ?_)
        refine zl_el h (fun h => zT_l ?_)
        refine zl_el h (fun h => zT_l ?_)
        have hz := zsi h hq
        refine zR2_hp ?_ ?_ hz
        · first | with_reducible rfl | (exact zuas_eq _ [(53, _), (54, _), (53, _), (54, _)] [(53, _), (54, _)] [53, 54] rfl rfl ⟨rfl, rfl, trivial⟩)
        · first | with_reducible rfl | (exact zufs_eq _ [(52, 1, _), (52, 1, _)] [(52, 1, _)] [(52, 1)] rfl rfl ⟨rfl, trivial⟩)
set_option maxRecDepth 20000 in
theorem t5_gr_goOver {X : Nat × (Nat → Int32)} {ar fi : Nat → Nat → Int32} {m1 m2 m3 m4 m5 : Nat} {l2 : Int32} {b53 : Nat → Int32} {b54 : Nat → Int32} {c52_1 : Int32} {W_if_nextTo : Int32 → Int32 → Int32} {G_gr_reach : Int32 → Int32 → (Nat → Int32) → Int32 → (Nat → Int32) → Bool} {A0_gr_reach : Int32 → Int32 → (Nat → Int32) → Int32 → (Nat → Int32) → Nat → Int32} {A1_gr_reach : Int32 → Int32 → (Nat → Int32) → Int32 → (Nat → Int32) → Nat → Int32} {F0_gr_reach : Int32 → Int32 → (Nat → Int32) → Int32 → (Nat → Int32) → Int32} : zseg X zFT (zEx 140 (P_if_nextTo W_if_nextTo) (zEx 28 (P_gr_reach G_gr_reach A0_gr_reach A1_gr_reach F0_gr_reach) zE0)) zc_29 (fun p => Nat.beq p 29 || Nat.beq p 5) 400 5 [.ref 52, .ref 3, .int l2] [] ((zua (zua ar 53 b53) 54 b54), (zuf fi 52 1 c52_1), (m1, m2, m3, m4, m5)) = (
  bif decide (c52_1 ≤ l2) then
   some (.inr (none, ((zua (zua ar 53 b53) 54 b54), (zuf (zuf fi 52 1 c52_1) 52 3 c52_1), (m1, m2, m3, m4, m5))))
  else
   bif decide (96 ≤ l2) then
    some (.inr (none, ((zua (zua ar 53 b53) 54 b54), (zuf (zuf fi 52 1 c52_1) 52 3 c52_1), (m1, m2, m3, m4, m5))))
   else
    zg (zin l2 96) (
    some (.inl (29, [.ref 52, .ref 3, .int l2, .int (b54 (l2.toNatClampNeg)), .int 0], [], ((zua (zua ar 53 b53) 54 b54), (zuf fi 52 1 c52_1), (m1, m2, m3, m4, m5))))) : Option ((Nat × List Value × List Value × zH2) ⊕ zO2)) := rfl
theorem k_gr_goOver_5 {X : Nat × (Nat → Int32)} {ar fi : Nat → Nat → Int32} {m1 m2 m3 m4 m5 : Nat} {o : zO2} : ∀ (s : U_gr_goOver_5) (q : U_gr_goOver_5 ⊕ T_gr_goOver), f_gr_goOver_5 (ar 3) s = some q → zq (M_gr_goOver_5 X (zEx 140 S_if_nextTo (zEx 28 S_gr_reach zE0)) ar fi m1 m2 m3 m4 m5 o) (fun t => O_gr_goOver ar fi m1 m2 m3 m4 m5 t = o) q → M_gr_goOver_5 X (zEx 140 S_if_nextTo (zEx 28 S_gr_reach zE0)) ar fi m1 m2 m3 m4 m5 o s := by
  intro s q h hq
  obtain ⟨l2, b53, b54, c52_1⟩ := s
  have h : b_gr_goOver_5 (ar 3) l2 b53 b54 c52_1 = some q := h
  unfold b_gr_goOver_5 at h
  show zR2 X zFT (zEx 140 S_if_nextTo (zEx 28 S_gr_reach zE0)) zc_29 5 [.ref 52, .ref 3, .int l2] [] ((zua (zua ar 53 b53) 54 b54), (zuf fi 52 1 c52_1), (m1, m2, m3, m4, m5)) o
  refine zT_seg t5_gr_goOver ?_
  refine zb_el h (fun hb h => zT_t hb ?_) (fun hb h => zT_f hb ?_)
  · have hz := zsi h hq
    refine (zO_mk ?_ ?_).trans hz
    · first | with_reducible rfl | (exact zuas_eq _ [(53, _), (54, _)] [(53, _), (54, _)] [53, 54] rfl rfl ⟨rfl, rfl, trivial⟩)
    · first | with_reducible rfl | (exact zufs_eq _ [(52, 1, _), (52, 3, _)] [(52, 1, _), (52, 3, _)] [(52, 1), (52, 3)] rfl rfl ⟨rfl, rfl, trivial⟩)
  · refine zb_el h (fun hb h => zT_t hb ?_) (fun hb h => zT_f hb ?_)
    · have hz := zsi h hq
      refine (zO_mk ?_ ?_).trans hz
      · first | with_reducible rfl | (exact zuas_eq _ [(53, _), (54, _)] [(53, _), (54, _)] [53, 54] rfl rfl ⟨rfl, rfl, trivial⟩)
      · first | with_reducible rfl | (exact zufs_eq _ [(52, 1, _), (52, 3, _)] [(52, 1, _), (52, 3, _)] [(52, 1), (52, 3)] rfl rfl ⟨rfl, rfl, trivial⟩)
    · refine zg_el h (fun hg h => zT_g hg ?_)
      refine zR2_hp ?_ ?_ (zlp_K k_gr_goOver_29 h hq)
      · first | with_reducible rfl | (exact zuas_eq _ [(53, _), (54, _)] [(53, _), (54, _)] [53, 54] rfl rfl ⟨rfl, rfl, trivial⟩)
      · first | with_reducible rfl | (exact zufs_eq _ [(52, 1, _)] [(52, 1, _)] [(52, 1)] rfl rfl ⟨rfl, trivial⟩)
set_option maxRecDepth 20000 in
theorem t_gr_goOver {X : Nat × (Nat → Int32)} {ar fi : Nat → Nat → Int32} {m1 m2 m3 m4 m5 : Nat} {W_if_nextTo : Int32 → Int32 → Int32} {G_gr_reach : Int32 → Int32 → (Nat → Int32) → Int32 → (Nat → Int32) → Bool} {A0_gr_reach : Int32 → Int32 → (Nat → Int32) → Int32 → (Nat → Int32) → Nat → Int32} {A1_gr_reach : Int32 → Int32 → (Nat → Int32) → Int32 → (Nat → Int32) → Nat → Int32} {F0_gr_reach : Int32 → Int32 → (Nat → Int32) → Int32 → (Nat → Int32) → Int32} : zseg X zFT (zEx 140 (P_if_nextTo W_if_nextTo) (zEx 28 (P_gr_reach G_gr_reach A0_gr_reach A1_gr_reach F0_gr_reach) zE0)) zc_29 (fun p => Nat.beq p 29 || Nat.beq p 5) 400 0 [.ref 52, .ref 3] [] (ar, fi, (m1, m2, m3, m4, m5)) = (
  some (.inl (5, [.ref 52, .ref 3, .int (fi 52 3)], [], (ar, fi, (m1, m2, m3, m4, m5)))) : Option ((Nat × List Value × List Value × zH2) ⊕ zO2)) := rfl
theorem e_gr_goOver {X : Nat × (Nat → Int32)} {ar fi : Nat → Nat → Int32} {m1 m2 m3 m4 m5 : Nat} {o : zO2} : ∀ (q : T_gr_goOver), q_gr_goOver (ar 3) (ar 53) (ar 54) (fi 52 1) (fi 52 3) = some q → (fun t => O_gr_goOver ar fi m1 m2 m3 m4 m5 t = o) q → zR2 X zFT (zEx 140 S_if_nextTo (zEx 28 S_gr_reach zE0)) zc_29 0 [.ref 52, .ref 3] [] (ar, fi, (m1, m2, m3, m4, m5)) o := by
  intro q h hq
  unfold q_gr_goOver at h
  refine zT_seg t_gr_goOver ?_
  refine zR2_hp ?_ ?_ (zlp_K k_gr_goOver_5 h hq)
  · first | with_reducible rfl | (exact zuas_eq _ [] [(53, _), (54, _)] [53, 54] rfl rfl ⟨rfl, rfl, trivial⟩)
  · first | with_reducible rfl | (exact zufs_eq _ [] [(52, 1, _)] [(52, 1)] rfl rfl ⟨rfl, trivial⟩)
theorem ok_gr_goOver (X : Nat × (Nat → Int32)) : zOkS X 29 S_gr_goOver 2 := zOkS_new (zOkE_cons (ok_if_nextTo X) (by decide) (zOkE_cons (ok_gr_reach X) (by decide) (zOkE_nil X 1))) (by
  intro args g o h
  obtain ⟨ar, fi, m1, m2, m3, m4, m5⟩ := g
  unfold S_gr_goOver P_gr_goOver at h
  split at h
  · refine zb_el h (fun hI0 k0 => ?_) (fun _ h10 => ?_)
    · try simp only [Bool.and_eq_true] at hI0
      obtain ⟨j0, j1⟩ := hI0
      have e0 := Nat.eq_of_beq_eq_true j0
      subst e0
      have e1 := Nat.eq_of_beq_eq_true j1
      subst e1
      exact zpe_el k0 (fun t ht ho => e_gr_goOver t ht ho)
    · cases h10
  · cases h)
