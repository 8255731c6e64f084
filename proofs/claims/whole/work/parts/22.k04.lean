abbrev T_if_safe : Type := Int32 × (Nat → Int32) × (Nat → Int32) × Int32 × Int32
abbrev U_if_safe_31 : Type := Int32 × Int32 × Int32
def b_if_safe_31 (x : Int32) (a3 : Nat → Int32) (b53 : Nat → Int32) (b54 : Nat → Int32) (c52_1 : Int32) (c52_3 : Int32) (l2 : Int32) (l3 : Int32) (l4 : Int32) : Option (U_if_safe_31 ⊕ T_if_safe) :=
  bif decide (l4 < 0) then
   bif !decide (x = 0) then
    some (.inr (l3, b53, b54, c52_1, c52_3))
   else
    some (.inr (l2, b53, b54, c52_1, c52_3))
  else
   zg (zin l4 96) (
   bif !decide (a3 (l4.toNatClampNeg) = 1) then
    some (.inl (l2, l3, l4 + (-1)))
   else
    zg (zin l4 96) (
    bif decide (0 ≤ b53 (l4.toNatClampNeg)) then
     some (.inl (l2, l3, l4 + (-1)))
    else
     some (.inl (l2 + 1, l4, l4 + (-1)))))
def f_if_safe_31 (x : Int32) (a3 : Nat → Int32) (b53 : Nat → Int32) (b54 : Nat → Int32) (c52_1 : Int32) (c52_3 : Int32) : U_if_safe_31 → Option (U_if_safe_31 ⊕ T_if_safe) := fun s => b_if_safe_31 x a3 b53 b54 c52_1 c52_3 s.1 s.2.1 s.2.2
noncomputable def l_if_safe_31 (x : Int32) (a3 : Nat → Int32) (b53 : Nat → Int32) (b54 : Nat → Int32) (c52_1 : Int32) (c52_3 : Int32) (l2 : Int32) (l3 : Int32) (l4 : Int32) : Option T_if_safe := zlp (f_if_safe_31 x a3 b53 b54 c52_1 c52_3) (l2, l3, l4)
noncomputable def q_if_safe (x : Int32) (a3 : Nat → Int32) (a4 : Nat → Int32) (a53 : Nat → Int32) (a54 : Nat → Int32) (f52_1 : Int32) (f52_3 : Int32) : Option T_if_safe :=
  zl (w_if_isWithin x 0 1) (fun v1 =>
  bif !decide (v1 = 0) then
   zbd (q_gr_burnFrom a3 a4 a53 a54) (fun v2 =>
   l_if_safe_31 x a3 ((v2.1)) ((v2.2.1)) ((v2.2.2.1)) ((v2.2.2.2)) 0 (-2) 95)
  else
   some ((-1), a53, a54, f52_1, f52_3))
def P_if_safe (Q : Int32 → (Nat → Int32) → (Nat → Int32) → (Nat → Int32) → (Nat → Int32) → Int32 → Int32 → Option (Int32 × (Nat → Int32) × (Nat → Int32) × Int32 × Int32)) : zSp := fun as g => match as with
  | [.ref a, .int x] => bif Nat.beq a 0 then zpe (Q x (g.1 3) (g.1 4) (g.1 53) (g.1 54) (g.2.1 52 1) (g.2.1 52 3)) (fun t => (some (.int (t.1)), ((zua (zua g.1 53 t.2.1) 54 t.2.2.1), (zuf (zuf g.2.1 52 1 t.2.2.2.1) 52 3 t.2.2.2.2), g.2.2))) else none
  | _ => none
noncomputable abbrev S_if_safe : zSp := P_if_safe q_if_safe
def O_if_safe (ar fi : Nat → Nat → Int32) (m1 : Nat) (m2 : Nat) (m3 : Nat) (m4 : Nat) (m5 : Nat) (t : T_if_safe) : zO2 := (some (.int (t.1)), ((zua (zua ar 53 t.2.1) 54 t.2.2.1), (zuf (zuf fi 52 1 t.2.2.2.1) 52 3 t.2.2.2.2), (m1, m2, m3, m4, m5)))
def M_if_safe_31 (X : Nat × (Nat → Int32)) (E : zTE) (ar fi : Nat → Nat → Int32) (m1 : Nat) (m2 : Nat) (m3 : Nat) (m4 : Nat) (m5 : Nat) (x : Int32) (b53 : Nat → Int32) (b54 : Nat → Int32) (c52_1 : Int32) (c52_3 : Int32) (o : zO2) (s : U_if_safe_31) : Prop := zR2 X zFT E zc_123 31 [.ref 0, .int x, .int s.1, .int s.2.1, .int s.2.2] [] ((zua (zua ar 53 b53) 54 b54), (zuf (zuf fi 52 1 c52_1) 52 3 c52_3), (m1, m2, m3, m4, m5)) o
set_option maxRecDepth 20000 in
theorem t31_if_safe {X : Nat × (Nat → Int32)} {ar fi : Nat → Nat → Int32} {m1 m2 m3 m4 m5 : Nat} {x : Int32} {l2 : Int32} {l3 : Int32} {l4 : Int32} {b53 : Nat → Int32} {b54 : Nat → Int32} {c52_1 : Int32} {c52_3 : Int32} {W_if_isWithin : Int32 → Int32 → Int32 → Int32} {Q_gr_burnFrom : (Nat → Int32) → (Nat → Int32) → (Nat → Int32) → (Nat → Int32) → Option ((Nat → Int32) × (Nat → Int32) × Int32 × Int32)} : zseg X zFT (zEx 137 (P_if_isWithin W_if_isWithin) (zEx 30 (P_gr_burnFrom Q_gr_burnFrom) zE0)) zc_123 (fun p => Nat.beq p 31) 400 31 [.ref 0, .int x, .int l2, .int l3, .int l4] [] ((zua (zua ar 53 b53) 54 b54), (zuf (zuf fi 52 1 c52_1) 52 3 c52_3), (m1, m2, m3, m4, m5)) = (
  bif decide (l4 < 0) then
   bif !decide (x = 0) then
    some (.inr (some (.int l3), ((zua (zua ar 53 b53) 54 b54), (zuf (zuf fi 52 1 c52_1) 52 3 c52_3), (m1, m2, m3, m4, m5))))
   else
    some (.inr (some (.int l2), ((zua (zua ar 53 b53) 54 b54), (zuf (zuf fi 52 1 c52_1) 52 3 c52_3), (m1, m2, m3, m4, m5))))
  else
   zg (zin l4 96) (
   bif !decide ((ar 3) (l4.toNatClampNeg) = 1) then
    some (.inl (31, [.ref 0, .int x, .int l2, .int l3, .int (l4 + (-1))], [], ((zua (zua ar 53 b53) 54 b54), (zuf (zuf fi 52 1 c52_1) 52 3 c52_3), (m1, m2, m3, m4, m5))))
   else
    zg (zin l4 96) (
    bif decide (0 ≤ b53 (l4.toNatClampNeg)) then
     some (.inl (31, [.ref 0, .int x, .int l2, .int l3, .int (l4 + (-1))], [], ((zua (zua ar 53 b53) 54 b54), (zuf (zuf fi 52 1 c52_1) 52 3 c52_3), (m1, m2, m3, m4, m5))))
    else
     some (.inl (31, [.ref 0, .int x, .int (l2 + 1), .int l4, .int (l4 + (-1))], [], ((zua (zua ar 53 b53) 54 b54), (zuf (zuf fi 52 1 c52_1) 52 3 c52_3), (m1, m2, m3, m4, m5)))))) : Option ((Nat × List Value × List Value × zH2) ⊕ zO2)) := rfl
theorem k_if_safe_31 {X : Nat × (Nat → Int32)} {ar fi : Nat → Nat → Int32} {m1 m2 m3 m4 m5 : Nat} {x : Int32} {b53 : Nat → Int32} {b54 : Nat → Int32} {c52_1 : Int32} {c52_3 : Int32} {o : zO2} : ∀ (s : U_if_safe_31) (q : U_if_safe_31 ⊕ T_if_safe), f_if_safe_31 x (ar 3) b53 b54 c52_1 c52_3 s = some q → zq (M_if_safe_31 X (zEx 137 S_if_isWithin (zEx 30 S_gr_burnFrom zE0)) ar fi m1 m2 m3 m4 m5 x b53 b54 c52_1 c52_3 o) (fun t => O_if_safe ar fi m1 m2 m3 m4 m5 t = o) q → M_if_safe_31 X (zEx 137 S_if_isWithin (zEx 30 S_gr_burnFrom zE0)) ar fi m1 m2 m3 m4 m5 x b53 b54 c52_1 c52_3 o s := by
  intro s q h hq
  obtain ⟨l2, l3, l4⟩ := s
  have h : b_if_safe_31 x (ar 3) b53 b54 c52_1 c52_3 l2 l3 l4 = some q := h
  unfold b_if_safe_31 at h
  show zR2 X zFT (zEx 137 S_if_isWithin (zEx 30 S_gr_burnFrom zE0)) zc_123 31 [.ref 0, .int x, .int l2, .int l3, .int l4] [] ((zua (zua ar 53 b53) 54 b54), (zuf (zuf fi 52 1 c52_1) 52 3 c52_3), (m1, m2, m3, m4, m5)) o
  refine zT_seg t31_if_safe ?_
  refine zb_el h (fun hb h => zT_t hb ?_) (fun hb h => zT_f hb ?_)
  · refine zb_el h (fun hb h => zT_t hb ?_) (fun hb h => zT_f hb ?_)
    · have hz := zsi h hq
      refine (zO_mk ?_ ?_).trans hz
      · first | with_reducible rfl | (exact zuas_eq _ [(53, _), (54, _)] [(53, _), (54, _)] [53, 54] rfl rfl ⟨rfl, rfl, trivial⟩)
      · first | with_reducible rfl | (exact zufs_eq _ [(52, 1, _), (52, 3, _)] [(52, 1, _), (52, 3, _)] [(52, 1), (52, 3)] rfl rfl ⟨rfl, rfl, trivial⟩)
    · have hz := zsi h hq
      refine (zO_mk ?_ ?_).trans hz
      · first | with_reducible rfl | (exact zuas_eq _ [(53, _), (54, _)] [(53, _), (54, _)] [53, 54] rfl rfl ⟨rfl, rfl, trivial⟩)
      · first | with_reducible rfl | (exact zufs_eq _ [(52, 1, _), (52, 3, _)] [(52, 1, _), (52, 3, _)] [(52, 1), (52, 3)] rfl rfl ⟨rfl, rfl, trivial⟩)
  · refine zg_el h (fun hg h => zT_g hg ?_)
    refine zb_el h (fun hb h => zT_t hb ?_) (fun hb h => zT_f hb ?_)
    · have hz := zsi h hq
      refine zR2_hp ?_ ?_ hz
      · first | with_reducible rfl | (exact zuas_eq _ [(53, _), (54, _)] [(53, _), (54, _)] [53, 54] rfl rfl ⟨rfl, rfl, trivial⟩)
      · first | with_reducible rfl | (exact zufs_eq _ [(52, 1, _), (52, 3, _)] [(52, 1, _), (52, 3, _)] [(52, 1), (52, 3)] rfl rfl ⟨rfl, rfl, trivial⟩)
    · refine zg_el h (fun hg h => zT_g hg ?_)
      refine zb_el h (fun hb h => zT_t hb ?_) (fun hb h => zT_f hb ?_)
      · have hz := zsi h hq
        refine zR2_hp ?_ ?_ hz
        · first | with_reducible rfl | (exact zuas_eq _ [(53, _), (54, _)] [(53, _), (54, _)] [53, 54] rfl rfl ⟨rfl, rfl, trivial⟩)
        · first | with_reducible rfl | (exact zufs_eq _ [(52, 1, _), (52, 3, _)] [(52, 1, _), (52, 3, _)] [(52, 1), (52, 3)] rfl rfl ⟨rfl, rfl, trivial⟩)
      · have hz := zsi h hq
        refine zR2_hp ?_ ?_ hz
        · first | with_reducible rfl | (exact zuas_eq _ [(53, _), (54, _)] [(53, _), (54, _)] [53, 54] rfl rfl ⟨rfl, rfl, trivial⟩)
        · first | with_reducible rfl | (exact zufs_eq _ [(52, 1, _), (52, 3, _)] [(52, 1, _), (52, 3, _)] [(52, 1), (52, 3)] rfl rfl ⟨rfl, rfl, trivial⟩)
set_option maxRecDepth 20000 in
theorem t_if_safe {X : Nat × (Nat → Int32)} {ar fi : Nat → Nat → Int32} {m1 m2 m3 m4 m5 : Nat} {x : Int32} {W_if_isWithin : Int32 → Int32 → Int32 → Int32} {Q_gr_burnFrom : (Nat → Int32) → (Nat → Int32) → (Nat → Int32) → (Nat → Int32) → Option ((Nat → Int32) × (Nat → Int32) × Int32 × Int32)} : zseg X zFT (zEx 137 (P_if_isWithin W_if_isWithin) (zEx 30 (P_gr_burnFrom Q_gr_burnFrom) zE0)) zc_123 (fun p => Nat.beq p 31) 400 0 [.ref 0, .int x] [] (ar, fi, (m1, m2, m3, m4, m5)) = (
  zl (W_if_isWithin x 0 1) (fun v1 =>
  bif !decide (v1 = 0) then
   zl (Q_gr_burnFrom (ar 3) (ar 4) (ar 53) (ar 54)) (fun v2 => zg v2.isSome (
   some (.inl (31, [.ref 0, .int x, .int 0, .int (-2), .int 95], [], ((zua (zua ar 53 (((zgt v2).1))) 54 (((zgt v2).2.1))), (zuf (zuf fi 52 1 (((zgt v2).2.2.1))) 52 3 (((zgt v2).2.2.2))), (m1, m2, m3, m4, m5))))))
  else
   some (.inr (some (.int (-1)), (ar, fi, (m1, m2, m3, m4, m5))))) : Option ((Nat × List Value × List Value × zH2) ⊕ zO2)) := rfl
theorem e_if_safe {X : Nat × (Nat → Int32)} {ar fi : Nat → Nat → Int32} {m1 m2 m3 m4 m5 : Nat} {x : Int32} {o : zO2} : ∀ (q : T_if_safe), q_if_safe x (ar 3) (ar 4) (ar 53) (ar 54) (fi 52 1) (fi 52 3) = some q → (fun t => O_if_safe ar fi m1 m2 m3 m4 m5 t = o) q → zR2 X zFT (zEx 137 S_if_isWithin (zEx 30 S_gr_burnFrom zE0)) zc_123 0 [.ref 0, .int x] [] (ar, fi, (m1, m2, m3, m4, m5)) o := by
  intro q h hq
  unfold q_if_safe at h
  refine zT_seg t_if_safe ?_
  refine zl_el h (fun h => zT_l ?_)
  refine zb_el h (fun hb h => zT_t hb ?_) (fun hb h => zT_f hb ?_)
  · refine zbd_el h (fun v2 hv h => zT_c hv ?_)
    refine zR2_hp ?_ ?_ (zlp_K k_if_safe_31 h hq)
    · first | with_reducible rfl | (exact zuas_eq _ [(53, _), (54, _)] [(53, _), (54, _)] [53, 54] rfl rfl ⟨rfl, rfl, trivial⟩)
    · first | with_reducible rfl | (exact zufs_eq _ [(52, 1, _), (52, 3, _)] [(52, 1, _), (52, 3, _)] [(52, 1), (52, 3)] rfl rfl ⟨rfl, rfl, trivial⟩)
  · have hz := zsi h hq
    refine (zO_mk ?_ ?_).trans hz
    · first | with_reducible rfl | (exact zuas_eq _ [] [(53, _), (54, _)] [53, 54] rfl rfl ⟨rfl, rfl, trivial⟩)
    · first | with_reducible rfl | (exact zufs_eq _ [] [(52, 1, _), (52, 3, _)] [(52, 1), (52, 3)] rfl rfl ⟨rfl, rfl, trivial⟩)
theorem ok_if_safe (X : Nat × (Nat → Int32)) : zOkS X 123 S_if_safe 4 := zOkS_new (zOkE_cons (ok_if_isWithin X) (by decide) (zOkE_cons (ok_gr_burnFrom X) (by decide) (zOkE_nil X 3))) (by
  intro args g o h
  obtain ⟨ar, fi, m1, m2, m3, m4, m5⟩ := g
  unfold S_if_safe P_if_safe at h
  split at h
  · refine zb_el h (fun hI0 k0 => ?_) (fun _ h10 => ?_)
    · try simp only [Bool.and_eq_true] at hI0
      have j0 := hI0
      have e0 := Nat.eq_of_beq_eq_true j0
      subst e0
      exact zpe_el k0 (fun t ht ho => e_if_safe t ht ho)
    · cases h10
  · cases h)
abbrev T_if_roundFigure : Type := Int32
noncomputable def q_if_roundFigure (x : Int32) : Option T_if_roundFigure :=
  zl (w_if_isWithin x 1 999999) (fun v1 =>
  bif decide (v1 = 0) then
   some (-1)
  else
   zbd (q_cl_nearestFigure x) (fun v2 =>
   some (v2)))
def P_if_roundFigure (Q : Int32 → Option (Int32)) : zSp := fun as g => match as with
  | [.ref a, .int x] => bif Nat.beq a 0 then zpe (Q x) (fun t => (some (.int t), (g.1, g.2.1, g.2.2))) else none
  | _ => none
noncomputable abbrev S_if_roundFigure : zSp := P_if_roundFigure q_if_roundFigure
def O_if_roundFigure (ar fi : Nat → Nat → Int32) (m1 : Nat) (m2 : Nat) (m3 : Nat) (m4 : Nat) (m5 : Nat) (t : T_if_roundFigure) : zO2 := (some (.int t), (ar, fi, (m1, m2, m3, m4, m5)))
set_option maxRecDepth 20000 in
theorem t_if_roundFigure {X : Nat × (Nat → Int32)} {ar fi : Nat → Nat → Int32} {m1 m2 m3 m4 m5 : Nat} {x : Int32} {W_if_isWithin : Int32 → Int32 → Int32 → Int32} {Q_cl_nearestFigure : Int32 → Option (Int32)} : zseg X zFT (zEx 137 (P_if_isWithin W_if_isWithin) (zEx 3 (P_cl_nearestFigure Q_cl_nearestFigure) zE0)) zc_125 (fun p => false) 400 0 [.ref 0, .int x] [] (ar, fi, (m1, m2, m3, m4, m5)) = (
  zl (W_if_isWithin x 1 999999) (fun v1 =>
  bif decide (v1 = 0) then
   some (.inr (some (.int (-1)), (ar, fi, (m1, m2, m3, m4, m5))))
  else
   zl (Q_cl_nearestFigure x) (fun v2 => zg v2.isSome (
   some (.inr (some (.int (((zgt v2)))), (ar, fi, (m1, m2, m3, m4, m5))))))) : Option ((Nat × List Value × List Value × zH2) ⊕ zO2)) := rfl
theorem e_if_roundFigure {X : Nat × (Nat → Int32)} {ar fi : Nat → Nat → Int32} {m1 m2 m3 m4 m5 : Nat} {x : Int32} {o : zO2} : ∀ (q : T_if_roundFigure), q_if_roundFigure x = some q → (fun t => O_if_roundFigure ar fi m1 m2 m3 m4 m5 t = o) q → zR2 X zFT (zEx 137 S_if_isWithin (zEx 3 S_cl_nearestFigure zE0)) zc_125 0 [.ref 0, .int x] [] (ar, fi, (m1, m2, m3, m4, m5)) o := by
  intro q h hq
  unfold q_if_roundFigure at h
  refine zT_seg t_if_roundFigure ?_
  refine zl_el h (fun h => zT_l ?_)
  refine zb_el h (fun hb h => zT_t hb ?_) (fun hb h => zT_f hb ?_)
  · have hz := zsi h hq
    refine (zO_mk ?_ ?_).trans hz
    · first | with_reducible rfl | (rfl)
    · first | with_reducible rfl | (rfl)
  · refine zbd_el h (fun v2 hv h => zT_c hv ?_)
    have hz := zsi h hq
    refine (zO_mk ?_ ?_).trans hz
    · first | with_reducible rfl | (rfl)
    · first | with_reducible rfl | (rfl)
theorem ok_if_roundFigure (X : Nat × (Nat → Int32)) : zOkS X 125 S_if_roundFigure 3 := zOkS_new (zOkE_cons (ok_if_isWithin X) (by decide) (zOkE_cons (ok_cl_nearestFigure X) (by decide) (zOkE_nil X 2))) (by
  intro args g o h
  obtain ⟨ar, fi, m1, m2, m3, m4, m5⟩ := g
  unfold S_if_roundFigure P_if_roundFigure at h
  split at h
  · refine zb_el h (fun hI0 k0 => ?_) (fun _ h10 => ?_)
    · try simp only [Bool.and_eq_true] at hI0
      have j0 := hI0
      have e0 := Nat.eq_of_beq_eq_true j0
      subst e0
      exact zpe_el k0 (fun t ht ho => e_if_roundFigure t ht ho)
    · cases h10
  · cases h)
abbrev T_if_premium : Type := Int32 × Int32
noncomputable def q_if_premium (x : Int32) (y : Int32) (a1 : Nat → Int32) (f0_1 : Int32) : Option T_if_premium :=
  zl (w_if_isWithin x 1 8) (fun v1 =>
  bif decide (v1 = 0) then
   some ((-1), f0_1)
  else
   zl (w_if_isWithin y 0 1) (fun v2 =>
   bif decide (v2 = 0) then
    some ((-1), f0_1)
   else
    bif decide (2 * x ≤ f0_1) then
     zbd (q_cl_oddsOf x y a1) (fun v3 =>
     some (v3, 0))
    else
     some ((-1), f0_1)))
def P_if_premium (Q : Int32 → Int32 → (Nat → Int32) → Int32 → Option (Int32 × Int32)) : zSp := fun as g => match as with
  | [.ref a, .int x, .int y] => bif Nat.beq a 0 then zpe (Q x y (g.1 1) (g.2.1 0 1)) (fun t => (some (.int (t.1)), (g.1, (zuf g.2.1 0 1 t.2), g.2.2))) else none
  | _ => none
noncomputable abbrev S_if_premium : zSp := P_if_premium q_if_premium
def O_if_premium (ar fi : Nat → Nat → Int32) (m1 : Nat) (m2 : Nat) (m3 : Nat) (m4 : Nat) (m5 : Nat) (t : T_if_premium) : zO2 := (some (.int (t.1)), (ar, (zuf fi 0 1 t.2), (m1, m2, m3, m4, m5)))
set_option maxRecDepth 20000 in
theorem t_if_premium {X : Nat × (Nat → Int32)} {ar fi : Nat → Nat → Int32} {m1 m2 m3 m4 m5 : Nat} {x y : Int32} {W_if_isWithin : Int32 → Int32 → Int32 → Int32} {Q_cl_oddsOf : Int32 → Int32 → (Nat → Int32) → Option (Int32)} : zseg X zFT (zEx 137 (P_if_isWithin W_if_isWithin) (zEx 10 (P_cl_oddsOf Q_cl_oddsOf) zE0)) zc_128 (fun p => false) 400 0 [.ref 0, .int x, .int y] [] (ar, fi, (m1, m2, m3, m4, m5)) = (
  zl (W_if_isWithin x 1 8) (fun v1 =>
  bif decide (v1 = 0) then
   some (.inr (some (.int (-1)), (ar, fi, (m1, m2, m3, m4, m5))))
  else
   zl (W_if_isWithin y 0 1) (fun v2 =>
   bif decide (v2 = 0) then
    some (.inr (some (.int (-1)), (ar, fi, (m1, m2, m3, m4, m5))))
   else
    bif decide (2 * x ≤ fi 0 1) then
     zl (Q_cl_oddsOf x y (ar 1)) (fun v3 => zg v3.isSome (
     some (.inr (some (.int (((zgt v3)))), (ar, (zuf fi 0 1 0), (m1, m2, m3, m4, m5))))))
    else
     some (.inr (some (.int (-1)), (ar, fi, (m1, m2, m3, m4, m5)))))) : Option ((Nat × List Value × List Value × zH2) ⊕ zO2)) := rfl
theorem e_if_premium {X : Nat × (Nat → Int32)} {ar fi : Nat → Nat → Int32} {m1 m2 m3 m4 m5 : Nat} {x y : Int32} {o : zO2} : ∀ (q : T_if_premium), q_if_premium x y (ar 1) (fi 0 1) = some q → (fun t => O_if_premium ar fi m1 m2 m3 m4 m5 t = o) q → zR2 X zFT (zEx 137 S_if_isWithin (zEx 10 S_cl_oddsOf zE0)) zc_128 0 [.ref 0, .int x, .int y] [] (ar, fi, (m1, m2, m3, m4, m5)) o := by
  intro q h hq
  unfold q_if_premium at h
  refine zT_seg t_if_premium ?_
  refine zl_el h (fun h => zT_l ?_)
  refine zb_el h (fun hb h => zT_t hb ?_) (fun hb h => zT_f hb ?_)
  · have hz := zsi h hq
    refine (zO_mk ?_ ?_).trans hz
    · first | with_reducible rfl | (rfl)
    · first | with_reducible rfl | (exact zufs_eq _ [] [(0, 1, _)] [(0, 1)] rfl rfl ⟨rfl, trivial⟩)
  · refine zl_el h (fun h => zT_l ?_)
    refine zb_el h (fun hb h => zT_t hb ?_) (fun hb h => zT_f hb ?_)
    · have hz := zsi h hq
      refine (zO_mk ?_ ?_).trans hz
      · first | with_reducible rfl | (rfl)
      · first | with_reducible rfl | (exact zufs_eq _ [] [(0, 1, _)] [(0, 1)] rfl rfl ⟨rfl, trivial⟩)
    · refine zb_el h (fun hb h => zT_t hb ?_) (fun hb h => zT_f hb ?_)
      · refine zbd_el h (fun v3 hv h => zT_c hv ?_)
        have hz := zsi h hq
        refine (zO_mk ?_ ?_).trans hz
        · first | with_reducible rfl | (rfl)
        · first | with_reducible rfl | (exact zufs_eq _ [(0, 1, _)] [(0, 1, _)] [(0, 1)] rfl rfl ⟨rfl, trivial⟩)
      · have hz := zsi h hq
        refine (zO_mk ?_ ?_).trans hz
        · first | with_reducible rfl | (rfl)
        · first | with_reducible rfl | (exact zufs_eq _ [] [(0, 1, _)] [(0, 1)] rfl rfl ⟨rfl, trivial⟩)
theorem ok_if_premium (X : Nat × (Nat → Int32)) : zOkS X 128 S_if_premium 2 := zOkS_new (zOkE_cons (ok_if_isWithin X) (by decide) (zOkE_cons (ok_cl_oddsOf X) (by decide) (zOkE_nil X 1))) (by
  intro args g o h
  obtain ⟨ar, fi, m1, m2, m3, m4, m5⟩ := g
  unfold S_if_premium P_if_premium at h
  split at h
  · refine zb_el h (fun hI0 k0 => ?_) (fun _ h10 => ?_)
    · try simp only [Bool.and_eq_true] at hI0
      have j0 := hI0
      have e0 := Nat.eq_of_beq_eq_true j0
      subst e0
      exact zpe_el k0 (fun t ht ho => e_if_premium t ht ho)
    · cases h10
  · cases h)
abbrev T_if_woods : Type := Int32 × (Nat → Int32) × (Nat → Int32) × Int32 × Int32
abbrev U_if_woods_25 : Type := Int32 × Int32 × Int32 × (Nat → Int32) × (Nat → Int32) × Int32 × Int32
noncomputable def b_if_woods_25 (x : Int32) (a3 : Nat → Int32) (l2 : Int32) (l3 : Int32) (l4 : Int32) (b53 : Nat → Int32) (b54 : Nat → Int32) (c52_1 : Int32) (c52_3 : Int32) : Option (U_if_woods_25 ⊕ T_if_woods) :=
  bif decide (96 ≤ l4) then
   bif !decide (x = 0) then
    some (.inr (l3, b53, b54, c52_1, c52_3))
   else
    some (.inr (l2, b53, b54, c52_1, c52_3))
  else
   zg (zin l4 96) (
   bif !decide (a3 (l4.toNatClampNeg) = 1) then
    some (.inl (l2, l3, l4 + 1, b53, b54, c52_1, c52_3))
   else
    zg (zin l4 96) (
    bif decide (0 ≤ b53 (l4.toNatClampNeg)) then
     some (.inl (l2, l3, l4 + 1, b53, b54, c52_1, c52_3))
    else
     zg (g_gr_light l4 b53 c52_1 b54) (
     zl (a0_gr_light l4 b53 c52_1 b54) (fun v5 =>
     zl (a1_gr_light l4 b53 c52_1 b54) (fun v6 =>
     zl (f0_gr_light l4 b53 c52_1 b54) (fun v7 =>
     zbd (q_gr_goOver a3 v5 v6 v7 c52_3) (fun v8 =>
     some (.inl (l2 + 1, (if l3 < ((v8.2.2.1)) - c52_1 then ((v8.2.2.1)) - c52_1 else l3), l4 + 1, ((v8.1)), ((v8.2.1)), (v8.2.2.1), (v8.2.2.2))))))))))
noncomputable def f_if_woods_25 (x : Int32) (a3 : Nat → Int32) : U_if_woods_25 → Option (U_if_woods_25 ⊕ T_if_woods) := fun s => b_if_woods_25 x a3 s.1 s.2.1 s.2.2.1 s.2.2.2.1 s.2.2.2.2.1 s.2.2.2.2.2.1 s.2.2.2.2.2.2
noncomputable def l_if_woods_25 (x : Int32) (a3 : Nat → Int32) (l2 : Int32) (l3 : Int32) (l4 : Int32) (b53 : Nat → Int32) (b54 : Nat → Int32) (c52_1 : Int32) (c52_3 : Int32) : Option T_if_woods := zlp (f_if_woods_25 x a3) (l2, l3, l4, b53, b54, c52_1, c52_3)
noncomputable def q_if_woods (x : Int32) (a3 : Nat → Int32) (a53 : Nat → Int32) (a54 : Nat → Int32) (f52_1 : Int32) (f52_3 : Int32) : Option T_if_woods :=
  zl (w_if_isWithin x 0 1) (fun v1 =>
  bif !decide (v1 = 0) then
   zl (a0_gr_clear a53) (fun v2 =>
   zl (f0_gr_clear a53) (fun v3 =>
   zl (f1_gr_clear a53) (fun v4 =>
   l_if_woods_25 x a3 0 0 0 v2 a54 v3 v4)))
  else
   some ((-1), a53, a54, f52_1, f52_3))
def P_if_woods (Q : Int32 → (Nat → Int32) → (Nat → Int32) → (Nat → Int32) → Int32 → Int32 → Option (Int32 × (Nat → Int32) × (Nat → Int32) × Int32 × Int32)) : zSp := fun as g => match as with
  | [.ref a, .int x] => bif Nat.beq a 0 then zpe (Q x (g.1 3) (g.1 53) (g.1 54) (g.2.1 52 1) (g.2.1 52 3)) (fun t => (some (.int (t.1)), ((zua (zua g.1 53 t.2.1) 54 t.2.2.1), (zuf (zuf g.2.1 52 1 t.2.2.2.1) 52 3 t.2.2.2.2), g.2.2))) else none
  | _ => none
noncomputable abbrev S_if_woods : zSp := P_if_woods q_if_woods
def O_if_woods (ar fi : Nat → Nat → Int32) (m1 : Nat) (m2 : Nat) (m3 : Nat) (m4 : Nat) (m5 : Nat) (t : T_if_woods) : zO2 := (some (.int (t.1)), ((zua (zua ar 53 t.2.1) 54 t.2.2.1), (zuf (zuf fi 52 1 t.2.2.2.1) 52 3 t.2.2.2.2), (m1, m2, m3, m4, m5)))
def M_if_woods_25 (X : Nat × (Nat → Int32)) (E : zTE) (ar fi : Nat → Nat → Int32) (m1 : Nat) (m2 : Nat) (m3 : Nat) (m4 : Nat) (m5 : Nat) (x : Int32) (o : zO2) (s : U_if_woods_25) : Prop := zR2 X zFT E zc_129 25 [.ref 0, .int x, .int s.1, .int s.2.1, .int s.2.2.1] [] ((zua (zua ar 53 s.2.2.2.1) 54 s.2.2.2.2.1), (zuf (zuf fi 52 1 s.2.2.2.2.2.1) 52 3 s.2.2.2.2.2.2), (m1, m2, m3, m4, m5)) o
set_option maxRecDepth 20000 in
theorem t25_if_woods {X : Nat × (Nat → Int32)} {ar fi : Nat → Nat → Int32} {m1 m2 m3 m4 m5 : Nat} {x : Int32} {l2 : Int32} {l3 : Int32} {l4 : Int32} {b53 : Nat → Int32} {b54 : Nat → Int32} {c52_1 : Int32} {c52_3 : Int32} {W_if_isWithin : Int32 → Int32 → Int32 → Int32} {A0_gr_clear : (Nat → Int32) → Nat → Int32} {F0_gr_clear : (Nat → Int32) → Int32} {F1_gr_clear : (Nat → Int32) → Int32} {G_gr_light : Int32 → (Nat → Int32) → Int32 → (Nat → Int32) → Bool} {A0_gr_light : Int32 → (Nat → Int32) → Int32 → (Nat → Int32) → Nat → Int32} {A1_gr_light : Int32 → (Nat → Int32) → Int32 → (Nat → Int32) → Nat → Int32} {F0_gr_light : Int32 → (Nat → Int32) → Int32 → (Nat → Int32) → Int32} {Q_gr_goOver : (Nat → Int32) → (Nat → Int32) → (Nat → Int32) → Int32 → Int32 → Option ((Nat → Int32) × (Nat → Int32) × Int32 × Int32)} : zseg X zFT (zEx 137 (P_if_isWithin W_if_isWithin) (zEx 26 (P_gr_clear A0_gr_clear F0_gr_clear F1_gr_clear) (zEx 27 (P_gr_light G_gr_light A0_gr_light A1_gr_light F0_gr_light) (zEx 29 (P_gr_goOver Q_gr_goOver) zE0)))) zc_129 (fun p => Nat.beq p 25) 400 25 [.ref 0, .int x, .int l2, .int l3, .int l4] [] ((zua (zua ar 53 b53) 54 b54), (zuf (zuf fi 52 1 c52_1) 52 3 c52_3), (m1, m2, m3, m4, m5)) = (
  bif decide (96 ≤ l4) then
   bif !decide (x = 0) then
    some (.inr (some (.int l3), ((zua (zua ar 53 b53) 54 b54), (zuf (zuf fi 52 1 c52_1) 52 3 c52_3), (m1, m2, m3, m4, m5))))
   else
    some (.inr (some (.int l2), ((zua (zua ar 53 b53) 54 b54), (zuf (zuf fi 52 1 c52_1) 52 3 c52_3), (m1, m2, m3, m4, m5))))
  else
   zg (zin l4 96) (
   bif !decide ((ar 3) (l4.toNatClampNeg) = 1) then
    some (.inl (25, [.ref 0, .int x, .int l2, .int l3, .int (l4 + 1)], [], ((zua (zua ar 53 b53) 54 b54), (zuf (zuf fi 52 1 c52_1) 52 3 c52_3), (m1, m2, m3, m4, m5))))
   else
    zg (zin l4 96) (
    bif decide (0 ≤ b53 (l4.toNatClampNeg)) then
     some (.inl (25, [.ref 0, .int x, .int l2, .int l3, .int (l4 + 1)], [], ((zua (zua ar 53 b53) 54 b54), (zuf (zuf fi 52 1 c52_1) 52 3 c52_3), (m1, m2, m3, m4, m5))))
    else
     zg (G_gr_light l4 b53 c52_1 b54) (
     zl (A0_gr_light l4 b53 c52_1 b54) (fun v5 =>
     zl (A1_gr_light l4 b53 c52_1 b54) (fun v6 =>
     zl (F0_gr_light l4 b53 c52_1 b54) (fun v7 =>
     zl (Q_gr_goOver (ar 3) v5 v6 v7 c52_3) (fun v8 => zg v8.isSome (
     some (.inl (25, [.ref 0, .int x, .int (l2 + 1), .int (if l3 < (((zgt v8).2.2.1)) - c52_1 then (((zgt v8).2.2.1)) - c52_1 else l3), .int (l4 + 1)], [], ((zua (zua (zua (zua (zua (zua ar 53 b53) 54 b54) 53 v5) 54 v6) 53 (((zgt v8).1))) 54 (((zgt v8).2.1))), (zuf (zuf (zuf (zuf (zuf fi 52 1 c52_1) 52 3 c52_3) 52 1 v7) 52 1 (((zgt v8).2.2.1))) 52 3 (((zgt v8).2.2.2))), (m1, m2, m3, m4, m5)))))))))))) : Option ((Nat × List Value × List Value × zH2) ⊕ zO2)) := rfl
theorem k_if_woods_25 {X : Nat × (Nat → Int32)} {ar fi : Nat → Nat → Int32} {m1 m2 m3 m4 m5 : Nat} {x : Int32} {o : zO2} : ∀ (s : U_if_woods_25) (q : U_if_woods_25 ⊕ T_if_woods), f_if_woods_25 x (ar 3) s = some q → zq (M_if_woods_25 X (zEx 137 S_if_isWithin (zEx 26 S_gr_clear (zEx 27 S_gr_light (zEx 29 S_gr_goOver zE0)))) ar fi m1 m2 m3 m4 m5 x o) (fun t => O_if_woods ar fi m1 m2 m3 m4 m5 t = o) q → M_if_woods_25 X (zEx 137 S_if_isWithin (zEx 26 S_gr_clear (zEx 27 S_gr_light (zEx 29 S_gr_goOver zE0)))) ar fi m1 m2 m3 m4 m5 x o s := by
  intro s q h hq
  obtain ⟨l2, l3, l4, b53, b54, c52_1, c52_3⟩ := s
  have h : b_if_woods_25 x (ar 3) l2 l3 l4 b53 b54 c52_1 c52_3 = some q := h
  unfold b_if_woods_25 at h
  show zR2 X zFT (zEx 137 S_if_isWithin (zEx 26 S_gr_clear (zEx 27 S_gr_light (zEx 29 S_gr_goOver zE0)))) zc_129 25 [.ref 0, .int x, .int l2, .int l3, .int l4] [] ((zua (zua ar 53 b53) 54 b54), (zuf (zuf fi 52 1 c52_1) 52 3 c52_3), (m1, m2, m3, m4, m5)) o
  refine zT_seg t25_if_woods ?_
  refine zb_el h (fun hb h => zT_t hb ?_) (fun hb h => zT_f hb ?_)
  · refine zb_el h (fun hb h => zT_t hb ?_) (fun hb h => zT_f hb ?_)
    · have hz := zsi h hq
      refine (zO_mk ?_ ?_).trans hz
      · first | with_reducible rfl | (exact zuas_eq _ [(53, _), (54, _)] [(53, _), (54, _)] [53, 54] rfl rfl ⟨rfl, rfl, trivial⟩)
      · first | with_reducible rfl | (exact zufs_eq _ [(52, 1, _), (52, 3, _)] [(52, 1, _), (52, 3, _)] [(52, 1), (52, 3)] rfl rfl ⟨rfl, rfl, trivial⟩)
    · have hz := zsi h hq
      refine (zO_mk ?_ ?_).trans hz
      · first | with_reducible rfl | (exact zuas_eq _ [(53, _), (54, _)] [(53, _), (54, _)] [53, 54] rfl rfl ⟨rfl, rfl, trivial⟩)
      · first | with_reducible rfl | (exact zufs_eq _ [(52, 1, _), (52, 3, _)] [(52, 1, _), (52, 3, _)] [(52, 1), (52, 3)] rfl rfl ⟨rfl, rfl, trivial⟩)
  · refine zg_el h (fun hg h => zT_g hg ?_)
    refine zb_el h (fun hb h => zT_t hb ?_) (fun hb h => zT_f hb ?_)
    · have hz := zsi h hq
      refine zR2_hp ?_ ?_ hz
      · first | with_reducible rfl | (exact zuas_eq _ [(53, _), (54, _)] [(53, _), (54, _)] [53, 54] rfl rfl ⟨rfl, rfl, trivial⟩)
      · first | with_reducible rfl | (exact zufs_eq _ [(52, 1, _), (52, 3, _)] [(52, 1, _), (52, 3, _)] [(52, 1), (52, 3)] rfl rfl ⟨rfl, rfl, trivial⟩)
    · refine zg_el h (fun hg h => zT_g hg ?_)
      refine zb_el h (fun hb h => zT_t hb ?_) (fun hb h => zT_f hb ?_)
      · have hz := zsi h hq
        refine zR2_hp ?_ ?_ hz
        · first | with_reducible rfl | (exact zuas_eq _ [(53, _), (54, _)] [(53, _), (54, _)] [53, 54] rfl rfl ⟨rfl, rfl, trivial⟩)
        · first | with_reducible rfl | (exact zufs_eq _ [(52, 1, _), (52, 3, _)] [(52, 1, _), (52, 3, _)] [(52, 1), (52, 3)] rfl rfl ⟨rfl, rfl, trivial⟩)
      · refine zg_el h (fun hg h => zT_g hg ?_)
        refine zl_el h (fun h => zT_l ?_)
        refine zl_el h (fun h => zT_l ?_)
        refine zl_el h (fun h => zT_l ?_)
        refine zbd_el h (fun v8 hv h => zT_c hv ?_)
        have hz := zsi h hq
        refine zR2_hp ?_ ?_ hz
        · first | with_reducible rfl | (exact zuas_eq _ [(53, _), (54, _), (53, _), (54, _), (53, _), (54, _)] [(53, _), (54, _)] [53, 54] rfl rfl ⟨rfl, rfl, trivial⟩)
        · first | with_reducible rfl | (exact zufs_eq _ [(52, 1, _), (52, 3, _), (52, 1, _), (52, 1, _), (52, 3, _)] [(52, 1, _), (52, 3, _)] [(52, 1), (52, 3)] rfl rfl ⟨rfl, rfl, trivial⟩)
set_option maxRecDepth 20000 in
theorem t_if_woods {X : Nat × (Nat → Int32)} {ar fi : Nat → Nat → Int32} {m1 m2 m3 m4 m5 : Nat} {x : Int32} {W_if_isWithin : Int32 → Int32 → Int32 → Int32} {A0_gr_clear : (Nat → Int32) → Nat → Int32} {F0_gr_clear : (Nat → Int32) → Int32} {F1_gr_clear : (Nat → Int32) → Int32} {G_gr_light : Int32 → (Nat → Int32) → Int32 → (Nat → Int32) → Bool} {A0_gr_light : Int32 → (Nat → Int32) → Int32 → (Nat → Int32) → Nat → Int32} {A1_gr_light : Int32 → (Nat → Int32) → Int32 → (Nat → Int32) → Nat → Int32} {F0_gr_light : Int32 → (Nat → Int32) → Int32 → (Nat → Int32) → Int32} {Q_gr_goOver : (Nat → Int32) → (Nat → Int32) → (Nat → Int32) → Int32 → Int32 → Option ((Nat → Int32) × (Nat → Int32) × Int32 × Int32)} : zseg X zFT (zEx 137 (P_if_isWithin W_if_isWithin) (zEx 26 (P_gr_clear A0_gr_clear F0_gr_clear F1_gr_clear) (zEx 27 (P_gr_light G_gr_light A0_gr_light A1_gr_light F0_gr_light) (zEx 29 (P_gr_goOver Q_gr_goOver) zE0)))) zc_129 (fun p => Nat.beq p 25) 400 0 [.ref 0, .int x] [] (ar, fi, (m1, m2, m3, m4, m5)) = (
  zl (W_if_isWithin x 0 1) (fun v1 =>
  bif !decide (v1 = 0) then
   zl (A0_gr_clear (ar 53)) (fun v2 =>
   zl (F0_gr_clear (ar 53)) (fun v3 =>
   zl (F1_gr_clear (ar 53)) (fun v4 =>
   some (.inl (25, [.ref 0, .int x, .int 0, .int 0, .int 0], [], ((zua ar 53 v2), (zuf (zuf fi 52 1 v3) 52 3 v4), (m1, m2, m3, m4, m5)))))))
  else
   some (.inr (some (.int (-1)), (ar, fi, (m1, m2, m3, m4, m5))))) : Option ((Nat × List Value × List Value × zH2) ⊕ zO2)) := rfl
theorem e_if_woods {X : Nat × (Nat → Int32)} {ar fi : Nat → Nat → Int32} {m1 m2 m3 m4 m5 : Nat} {x : Int32} {o : zO2} : ∀ (q : T_if_woods), q_if_woods x (ar 3) (ar 53) (ar 54) (fi 52 1) (fi 52 3) = some q → (fun t => O_if_woods ar fi m1 m2 m3 m4 m5 t = o) q → zR2 X zFT (zEx 137 S_if_isWithin (zEx 26 S_gr_clear (zEx 27 S_gr_light (zEx 29 S_gr_goOver zE0)))) zc_129 0 [.ref 0, .int x] [] (ar, fi, (m1, m2, m3, m4, m5)) o := by
  intro q h hq
  unfold q_if_woods at h
  refine zT_seg t_if_woods ?_
  refine zl_el h (fun h => zT_l ?_)
  refine zb_el h (fun hb h => zT_t hb ?_) (fun hb h => zT_f hb ?_)
  · refine zl_el h (fun h => zT_l ?_)
    refine zl_el h (fun h => zT_l ?_)
    refine zl_el h (fun h => zT_l ?_)
    refine zR2_hp ?_ ?_ (zlp_K k_if_woods_25 h hq)
    · first | with_reducible rfl | (exact zuas_eq _ [(53, _)] [(53, _), (54, _)] [53, 54] rfl rfl ⟨rfl, rfl, trivial⟩)
    · first | with_reducible rfl | (exact zufs_eq _ [(52, 1, _), (52, 3, _)] [(52, 1, _), (52, 3, _)] [(52, 1), (52, 3)] rfl rfl ⟨rfl, rfl, trivial⟩)
  · have hz := zsi h hq
    refine (zO_mk ?_ ?_).trans hz
    · first | with_reducible rfl | (exact zuas_eq _ [] [(53, _), (54, _)] [53, 54] rfl rfl ⟨rfl, rfl, trivial⟩)
    · first | with_reducible rfl | (exact zufs_eq _ [] [(52, 1, _), (52, 3, _)] [(52, 1), (52, 3)] rfl rfl ⟨rfl, rfl, trivial⟩)
theorem ok_if_woods (X : Nat × (Nat → Int32)) : zOkS X 129 S_if_woods 3 := zOkS_new (zOkE_cons (ok_if_isWithin X) (by decide) (zOkE_cons (ok_gr_clear X) (by decide) (zOkE_cons (ok_gr_light X) (by decide) (zOkE_cons (ok_gr_goOver X) (by decide) (zOkE_nil X 2))))) (by
  intro args g o h
  obtain ⟨ar, fi, m1, m2, m3, m4, m5⟩ := g
  unfold S_if_woods P_if_woods at h
  split at h
  · refine zb_el h (fun hI0 k0 => ?_) (fun _ h10 => ?_)
    · try simp only [Bool.and_eq_true] at hI0
      have j0 := hI0
      have e0 := Nat.eq_of_beq_eq_true j0
      subst e0
      exact zpe_el k0 (fun t ht ho => e_if_woods t ht ho)
    · cases h10
  · cases h)
abbrev T_if_check : Type := Int32 × Int32
abbrev U_if_check_21 : Type := Int32
def b_if_check_21 (x : Int32) (a1 : Nat → Int32) (a7 : Nat → Int32) (f2_7 : Int32) (c0_1 : Int32) (l2 : Int32) : Option (U_if_check_21 ⊕ T_if_check) :=
  bif decide (x ≤ l2) then
   some (.inr ((-1), c0_1))
  else
   zg (zin l2 260) (
   zg (g_sc_lowValueOf l2 (f2_7) a7) (
   zl (w_sc_lowValueOf l2 (f2_7) a7) (fun v2 =>
   bif decide (a1 (l2.toNatClampNeg) = v2) then
    some (.inl (l2 + 1))
   else
    some (.inr (l2, c0_1)))))
def f_if_check_21 (x : Int32) (a1 : Nat → Int32) (a7 : Nat → Int32) (f2_7 : Int32) (c0_1 : Int32) : U_if_check_21 → Option (U_if_check_21 ⊕ T_if_check) := fun s => b_if_check_21 x a1 a7 f2_7 c0_1 s
noncomputable def l_if_check_21 (x : Int32) (a1 : Nat → Int32) (a7 : Nat → Int32) (f2_7 : Int32) (c0_1 : Int32) (l2 : Int32) : Option T_if_check := zlp (f_if_check_21 x a1 a7 f2_7 c0_1) l2
noncomputable def q_if_check (x : Int32) (a1 : Nat → Int32) (a7 : Nat → Int32) (f0_1 : Int32) (f2_7 : Int32) : Option T_if_check :=
  zl (w_if_canTake x 0 24 (f0_1)) (fun v1 =>
  bif !decide (v1 = 0) then
   l_if_check_21 x a1 a7 f2_7 0 0
  else
   some ((-2), f0_1))
def P_if_check (Q : Int32 → (Nat → Int32) → (Nat → Int32) → Int32 → Int32 → Option (Int32 × Int32)) : zSp := fun as g => match as with
  | [.ref a, .int x] => bif Nat.beq a 0 then zpe (Q x (g.1 1) (g.1 7) (g.2.1 0 1) (g.2.1 2 7)) (fun t => (some (.int (t.1)), (g.1, (zuf g.2.1 0 1 t.2), g.2.2))) else none
  | _ => none
noncomputable abbrev S_if_check : zSp := P_if_check q_if_check
def O_if_check (ar fi : Nat → Nat → Int32) (m1 : Nat) (m2 : Nat) (m3 : Nat) (m4 : Nat) (m5 : Nat) (t : T_if_check) : zO2 := (some (.int (t.1)), (ar, (zuf fi 0 1 t.2), (m1, m2, m3, m4, m5)))
def M_if_check_21 (X : Nat × (Nat → Int32)) (E : zTE) (ar fi : Nat → Nat → Int32) (m1 : Nat) (m2 : Nat) (m3 : Nat) (m4 : Nat) (m5 : Nat) (x : Int32) (c0_1 : Int32) (o : zO2) (s : U_if_check_21) : Prop := zR2 X zFT E zc_133 21 [.ref 0, .int x, .int s] [] (ar, (zuf fi 0 1 c0_1), (m1, m2, m3, m4, m5)) o
set_option maxRecDepth 20000 in
theorem t21_if_check {X : Nat × (Nat → Int32)} {ar fi : Nat → Nat → Int32} {m1 m2 m3 m4 m5 : Nat} {x : Int32} {l2 : Int32} {c0_1 : Int32} {W_if_canTake : Int32 → Int32 → Int32 → Int32 → Int32} {G_sc_lowValueOf : Int32 → Int32 → (Nat → Int32) → Bool} {W_sc_lowValueOf : Int32 → Int32 → (Nat → Int32) → Int32} : zseg X zFT (zEx 136 (P_if_canTake W_if_canTake) (zEx 88 (P_sc_lowValueOf G_sc_lowValueOf W_sc_lowValueOf) zE0)) zc_133 (fun p => Nat.beq p 21) 400 21 [.ref 0, .int x, .int l2] [] (ar, (zuf fi 0 1 c0_1), (m1, m2, m3, m4, m5)) = (
  bif decide (x ≤ l2) then
   some (.inr (some (.int (-1)), (ar, (zuf fi 0 1 c0_1), (m1, m2, m3, m4, m5))))
  else
   zg (zin l2 260) (
   zg (G_sc_lowValueOf l2 (fi 2 7) (ar 7)) (
   zl (W_sc_lowValueOf l2 (fi 2 7) (ar 7)) (fun v2 =>
   bif decide ((ar 1) (l2.toNatClampNeg) = v2) then
    some (.inl (21, [.ref 0, .int x, .int (l2 + 1)], [], (ar, (zuf fi 0 1 c0_1), (m1, m2, m3, m4, m5))))
   else
    some (.inr (some (.int l2), (ar, (zuf fi 0 1 c0_1), (m1, m2, m3, m4, m5))))))) : Option ((Nat × List Value × List Value × zH2) ⊕ zO2)) := rfl
theorem k_if_check_21 {X : Nat × (Nat → Int32)} {ar fi : Nat → Nat → Int32} {m1 m2 m3 m4 m5 : Nat} {x : Int32} {c0_1 : Int32} {o : zO2} : ∀ (s : U_if_check_21) (q : U_if_check_21 ⊕ T_if_check), f_if_check_21 x (ar 1) (ar 7) (fi 2 7) c0_1 s = some q → zq (M_if_check_21 X (zEx 136 S_if_canTake (zEx 88 S_sc_lowValueOf zE0)) ar fi m1 m2 m3 m4 m5 x c0_1 o) (fun t => O_if_check ar fi m1 m2 m3 m4 m5 t = o) q → M_if_check_21 X (zEx 136 S_if_canTake (zEx 88 S_sc_lowValueOf zE0)) ar fi m1 m2 m3 m4 m5 x c0_1 o s := by
  intro l2 q h hq
  have h : b_if_check_21 x (ar 1) (ar 7) (fi 2 7) c0_1 l2 = some q := h
  unfold b_if_check_21 at h
  show zR2 X zFT (zEx 136 S_if_canTake (zEx 88 S_sc_lowValueOf zE0)) zc_133 21 [.ref 0, .int x, .int l2] [] (ar, (zuf fi 0 1 c0_1), (m1, m2, m3, m4, m5)) o
  refine zT_seg t21_if_check ?_
  refine zb_el h (fun hb h => zT_t hb ?_) (fun hb h => zT_f hb ?_)
  · have hz := zsi h hq
    refine (zO_mk ?_ ?_).trans hz
    · first | with_reducible rfl | (rfl)
    · first | with_reducible rfl | (exact zufs_eq _ [(0, 1, _)] [(0, 1, _)] [(0, 1)] rfl rfl ⟨rfl, trivial⟩)
  · refine zg_el h (fun hg h => zT_g hg ?_)
    refine zg_el h (fun hg h => zT_g hg ?_)
    refine zl_el h (fun h => zT_l ?_)
    refine zb_el h (fun hb h => zT_t hb ?_) (fun hb h => zT_f hb ?_)
    · have hz := zsi h hq
      refine zR2_hp ?_ ?_ hz
      · first | with_reducible rfl | (rfl)
      · first | with_reducible rfl | (exact zufs_eq _ [(0, 1, _)] [(0, 1, _)] [(0, 1)] rfl rfl ⟨rfl, trivial⟩)
    · have hz := zsi h hq
      refine (zO_mk ?_ ?_).trans hz
      · first | with_reducible rfl | (rfl)
      · first | with_reducible rfl | (exact zufs_eq _ [(0, 1, _)] [(0, 1, _)] [(0, 1)] rfl rfl ⟨rfl, trivial⟩)
set_option maxRecDepth 20000 in
theorem t_if_check {X : Nat × (Nat → Int32)} {ar fi : Nat → Nat → Int32} {m1 m2 m3 m4 m5 : Nat} {x : Int32} {W_if_canTake : Int32 → Int32 → Int32 → Int32 → Int32} {G_sc_lowValueOf : Int32 → Int32 → (Nat → Int32) → Bool} {W_sc_lowValueOf : Int32 → Int32 → (Nat → Int32) → Int32} : zseg X zFT (zEx 136 (P_if_canTake W_if_canTake) (zEx 88 (P_sc_lowValueOf G_sc_lowValueOf W_sc_lowValueOf) zE0)) zc_133 (fun p => Nat.beq p 21) 400 0 [.ref 0, .int x] [] (ar, fi, (m1, m2, m3, m4, m5)) = (
  zl (W_if_canTake x 0 24 (fi 0 1)) (fun v1 =>
  bif !decide (v1 = 0) then
   some (.inl (21, [.ref 0, .int x, .int 0], [], (ar, (zuf fi 0 1 0), (m1, m2, m3, m4, m5))))
  else
   some (.inr (some (.int (-2)), (ar, fi, (m1, m2, m3, m4, m5))))) : Option ((Nat × List Value × List Value × zH2) ⊕ zO2)) := rfl
theorem e_if_check {X : Nat × (Nat → Int32)} {ar fi : Nat → Nat → Int32} {m1 m2 m3 m4 m5 : Nat} {x : Int32} {o : zO2} : ∀ (q : T_if_check), q_if_check x (ar 1) (ar 7) (fi 0 1) (fi 2 7) = some q → (fun t => O_if_check ar fi m1 m2 m3 m4 m5 t = o) q → zR2 X zFT (zEx 136 S_if_canTake (zEx 88 S_sc_lowValueOf zE0)) zc_133 0 [.ref 0, .int x] [] (ar, fi, (m1, m2, m3, m4, m5)) o := by
  intro q h hq
  unfold q_if_check at h
  refine zT_seg t_if_check ?_
  refine zl_el h (fun h => zT_l ?_)
  refine zb_el h (fun hb h => zT_t hb ?_) (fun hb h => zT_f hb ?_)
  · refine zR2_hp ?_ ?_ (zlp_K k_if_check_21 h hq)
    · first | with_reducible rfl | (rfl)
    · first | with_reducible rfl | (exact zufs_eq _ [(0, 1, _)] [(0, 1, _)] [(0, 1)] rfl rfl ⟨rfl, trivial⟩)
  · have hz := zsi h hq
    refine (zO_mk ?_ ?_).trans hz
    · first | with_reducible rfl | (rfl)
    · first | with_reducible rfl | (exact zufs_eq _ [] [(0, 1, _)] [(0, 1)] rfl rfl ⟨rfl, trivial⟩)
theorem ok_if_check (X : Nat × (Nat → Int32)) : zOkS X 133 S_if_check 3 := zOkS_new (zOkE_cons (ok_if_canTake X) (by decide) (zOkE_cons (ok_sc_lowValueOf X) (by decide) (zOkE_nil X 2))) (by
  intro args g o h
  obtain ⟨ar, fi, m1, m2, m3, m4, m5⟩ := g
  unfold S_if_check P_if_check at h
  split at h
  · refine zb_el h (fun hI0 k0 => ?_) (fun _ h10 => ?_)
    · try simp only [Bool.and_eq_true] at hI0
      have j0 := hI0
      have e0 := Nat.eq_of_beq_eq_true j0
      subst e0
      exact zpe_el k0 (fun t ht ho => e_if_check t ht ho)
    · cases h10
  · cases h)
abbrev T_if_putBytes : Type := (Nat → Int32) × Int32
abbrev U_if_putBytes_3 : Type := Int32 × (Nat → Int32) × Int32
def b_if_putBytes_3 (x : Int32) (l2 : Int32) (b1 : Nat → Int32) (c0_1 : Int32) : Option (U_if_putBytes_3 ⊕ T_if_putBytes) :=
  bif decide (l2 < 0) then
   some (.inr (b1, c0_1))
  else
   bif decide (260 ≤ c0_1) then
    some (.inr (b1, c0_1))
   else
    zg (zin c0_1 260) (
    some (.inl (l2 + (-8), (zup b1 (c0_1.toNatClampNeg) (((Int32.toUInt32 x >>> (Int32.toUInt32 l2 &&& Int32.toUInt32 31)).toInt32) &&& 255)), c0_1 + 1)))
def f_if_putBytes_3 (x : Int32) : U_if_putBytes_3 → Option (U_if_putBytes_3 ⊕ T_if_putBytes) := fun s => b_if_putBytes_3 x s.1 s.2.1 s.2.2
noncomputable def l_if_putBytes_3 (x : Int32) (l2 : Int32) (b1 : Nat → Int32) (c0_1 : Int32) : Option T_if_putBytes := zlp (f_if_putBytes_3 x) (l2, b1, c0_1)
noncomputable def q_if_putBytes (x : Int32) (a1 : Nat → Int32) (f0_1 : Int32) : Option T_if_putBytes :=
  l_if_putBytes_3 x 24 a1 (f0_1)
def P_if_putBytes (Q : Int32 → (Nat → Int32) → Int32 → Option ((Nat → Int32) × Int32)) : zSp := fun as g => match as with
  | [.ref a, .int x] => bif Nat.beq a 0 then zpe (Q x (g.1 1) (g.2.1 0 1)) (fun t => (none, ((zua g.1 1 t.1), (zuf g.2.1 0 1 t.2), g.2.2))) else none
  | _ => none
noncomputable abbrev S_if_putBytes : zSp := P_if_putBytes q_if_putBytes
def O_if_putBytes (ar fi : Nat → Nat → Int32) (m1 : Nat) (m2 : Nat) (m3 : Nat) (m4 : Nat) (m5 : Nat) (t : T_if_putBytes) : zO2 := (none, ((zua ar 1 t.1), (zuf fi 0 1 t.2), (m1, m2, m3, m4, m5)))
def M_if_putBytes_3 (X : Nat × (Nat → Int32)) (E : zTE) (ar fi : Nat → Nat → Int32) (m1 : Nat) (m2 : Nat) (m3 : Nat) (m4 : Nat) (m5 : Nat) (x : Int32) (o : zO2) (s : U_if_putBytes_3) : Prop := zR2 X zFT E zc_135 3 [.ref 0, .int x, .int s.1] [] ((zua ar 1 s.2.1), (zuf fi 0 1 s.2.2), (m1, m2, m3, m4, m5)) o
set_option maxRecDepth 20000 in
theorem t3_if_putBytes {X : Nat × (Nat → Int32)} {ar fi : Nat → Nat → Int32} {m1 m2 m3 m4 m5 : Nat} {x : Int32} {l2 : Int32} {b1 : Nat → Int32} {c0_1 : Int32} : zseg X zFT zE0 zc_135 (fun p => Nat.beq p 3) 400 3 [.ref 0, .int x, .int l2] [] ((zua ar 1 b1), (zuf fi 0 1 c0_1), (m1, m2, m3, m4, m5)) = (
  bif decide (l2 < 0) then
   some (.inr (none, ((zua ar 1 b1), (zuf fi 0 1 c0_1), (m1, m2, m3, m4, m5))))
  else
   bif decide (260 ≤ c0_1) then
    some (.inr (none, ((zua ar 1 b1), (zuf fi 0 1 c0_1), (m1, m2, m3, m4, m5))))
   else
    zg (zin c0_1 260) (
    some (.inl (3, [.ref 0, .int x, .int (l2 + (-8))], [], ((zua (zua ar 1 b1) 1 (zup b1 (c0_1.toNatClampNeg) (((Int32.toUInt32 x >>> (Int32.toUInt32 l2 &&& Int32.toUInt32 31)).toInt32) &&& 255))), (zuf (zuf fi 0 1 c0_1) 0 1 (c0_1 + 1)), (m1, m2, m3, m4, m5))))) : Option ((Nat × List Value × List Value × zH2) ⊕ zO2)) := rfl
theorem k_if_putBytes_3 {X : Nat × (Nat → Int32)} {ar fi : Nat → Nat → Int32} {m1 m2 m3 m4 m5 : Nat} {x : Int32} {o : zO2} : ∀ (s : U_if_putBytes_3) (q : U_if_putBytes_3 ⊕ T_if_putBytes), f_if_putBytes_3 x s = some q → zq (M_if_putBytes_3 X zE0 ar fi m1 m2 m3 m4 m5 x o) (fun t => O_if_putBytes ar fi m1 m2 m3 m4 m5 t = o) q → M_if_putBytes_3 X zE0 ar fi m1 m2 m3 m4 m5 x o s := by
  intro s q h hq
  obtain ⟨l2, b1, c0_1⟩ := s
  have h : b_if_putBytes_3 x l2 b1 c0_1 = some q := h
  unfold b_if_putBytes_3 at h
  show zR2 X zFT zE0 zc_135 3 [.ref 0, .int x, .int l2] [] ((zua ar 1 b1), (zuf fi 0 1 c0_1), (m1, m2, m3, m4, m5)) o
  refine zT_seg t3_if_putBytes ?_
  refine zb_el h (fun hb h => zT_t hb ?_) (fun hb h => zT_f hb ?_)
  · have hz := zsi h hq
    refine (zO_mk ?_ ?_).trans hz
    · first | with_reducible rfl | (exact zuas_eq _ [(1, _)] [(1, _)] [1] rfl rfl ⟨rfl, trivial⟩)
    · first | with_reducible rfl | (exact zufs_eq _ [(0, 1, _)] [(0, 1, _)] [(0, 1)] rfl rfl ⟨rfl, trivial⟩)
  · refine zb_el h (fun hb h => zT_t hb ?_) (fun hb h => zT_f hb ?_)
    · have hz := zsi h hq
      refine (zO_mk ?_ ?_).trans hz
      · first | with_reducible rfl | (exact zuas_eq _ [(1, _)] [(1, _)] [1] rfl rfl ⟨rfl, trivial⟩)
      · first | with_reducible rfl | (exact zufs_eq _ [(0, 1, _)] [(0, 1, _)] [(0, 1)] rfl rfl ⟨rfl, trivial⟩)
    · refine zg_el h (fun hg h => zT_g hg ?_)
      have hz := zsi h hq
      refine zR2_hp ?_ ?_ hz
      · first | with_reducible rfl | (exact zuas_eq _ [(1, _), (1, _)] [(1, _)] [1] rfl rfl ⟨rfl, trivial⟩)
      · first | with_reducible rfl | (exact zufs_eq _ [(0, 1, _), (0, 1, _)] [(0, 1, _)] [(0, 1)] rfl rfl ⟨rfl, trivial⟩)
set_option maxRecDepth 20000 in
theorem t_if_putBytes {X : Nat × (Nat → Int32)} {ar fi : Nat → Nat → Int32} {m1 m2 m3 m4 m5 : Nat} {x : Int32} : zseg X zFT zE0 zc_135 (fun p => Nat.beq p 3) 400 0 [.ref 0, .int x] [] (ar, fi, (m1, m2, m3, m4, m5)) = (
  some (.inl (3, [.ref 0, .int x, .int 24], [], (ar, fi, (m1, m2, m3, m4, m5)))) : Option ((Nat × List Value × List Value × zH2) ⊕ zO2)) := rfl
theorem e_if_putBytes {X : Nat × (Nat → Int32)} {ar fi : Nat → Nat → Int32} {m1 m2 m3 m4 m5 : Nat} {x : Int32} {o : zO2} : ∀ (q : T_if_putBytes), q_if_putBytes x (ar 1) (fi 0 1) = some q → (fun t => O_if_putBytes ar fi m1 m2 m3 m4 m5 t = o) q → zR2 X zFT zE0 zc_135 0 [.ref 0, .int x] [] (ar, fi, (m1, m2, m3, m4, m5)) o := by
  intro q h hq
  unfold q_if_putBytes at h
  refine zT_seg t_if_putBytes ?_
  refine zR2_hp ?_ ?_ (zlp_K k_if_putBytes_3 h hq)
  · first | with_reducible rfl | (exact zuas_eq _ [] [(1, _)] [1] rfl rfl ⟨rfl, trivial⟩)
  · first | with_reducible rfl | (exact zufs_eq _ [] [(0, 1, _)] [(0, 1)] rfl rfl ⟨rfl, trivial⟩)
theorem ok_if_putBytes (X : Nat × (Nat → Int32)) : zOkS X 135 S_if_putBytes 1 := zOkS_new (zOkE_nil X 0) (by
  intro args g o h
  obtain ⟨ar, fi, m1, m2, m3, m4, m5⟩ := g
  unfold S_if_putBytes P_if_putBytes at h
  split at h
  · refine zb_el h (fun hI0 k0 => ?_) (fun _ h10 => ?_)
    · try simp only [Bool.and_eq_true] at hI0
      have j0 := hI0
      have e0 := Nat.eq_of_beq_eq_true j0
      subst e0
      exact zpe_el k0 (fun t ht ho => e_if_putBytes t ht ho)
    · cases h10
  · cases h)
abbrev T_if_areNext : Type := Int32
abbrev U_if_areNext_2 : Type := Int32
def b_if_areNext_2 (x : Int32) (y : Int32) (l2 : Int32) : Option (U_if_areNext_2 ⊕ T_if_areNext) :=
  bif decide (4 ≤ l2) then
   some (.inr 0)
  else
   zl (w_if_nextTo x l2) (fun v1 =>
   bif !decide (v1 = y) then
    some (.inl (l2 + 1))
   else
    some (.inr 1))
def f_if_areNext_2 (x : Int32) (y : Int32) : U_if_areNext_2 → Option (U_if_areNext_2 ⊕ T_if_areNext) := fun s => b_if_areNext_2 x y s
noncomputable def l_if_areNext_2 (x : Int32) (y : Int32) (l2 : Int32) : Option T_if_areNext := zlp (f_if_areNext_2 x y) l2
noncomputable def q_if_areNext (x : Int32) (y : Int32) : Option T_if_areNext :=
  l_if_areNext_2 x y 0
def P_if_areNext (Q : Int32 → Int32 → Option (Int32)) : zSp := fun as g => match as with
  | [.int x, .int y] => zpe (Q x y) (fun t => (some (.int t), (g.1, g.2.1, g.2.2)))
  | _ => none
noncomputable abbrev S_if_areNext : zSp := P_if_areNext q_if_areNext
def O_if_areNext (ar fi : Nat → Nat → Int32) (m1 : Nat) (m2 : Nat) (m3 : Nat) (m4 : Nat) (m5 : Nat) (t : T_if_areNext) : zO2 := (some (.int t), (ar, fi, (m1, m2, m3, m4, m5)))
def M_if_areNext_2 (X : Nat × (Nat → Int32)) (E : zTE) (ar fi : Nat → Nat → Int32) (m1 : Nat) (m2 : Nat) (m3 : Nat) (m4 : Nat) (m5 : Nat) (x : Int32) (y : Int32) (o : zO2) (s : U_if_areNext_2) : Prop := zR2 X zFT E zc_141 2 [.int x, .int y, .int s] [] (ar, fi, (m1, m2, m3, m4, m5)) o
set_option maxRecDepth 20000 in
theorem t2_if_areNext {X : Nat × (Nat → Int32)} {ar fi : Nat → Nat → Int32} {m1 m2 m3 m4 m5 : Nat} {x y : Int32} {l2 : Int32} {W_if_nextTo : Int32 → Int32 → Int32} : zseg X zFT (zEx 140 (P_if_nextTo W_if_nextTo) zE0) zc_141 (fun p => Nat.beq p 2) 400 2 [.int x, .int y, .int l2] [] (ar, fi, (m1, m2, m3, m4, m5)) = (
  bif decide (4 ≤ l2) then
   some (.inr (some (.int 0), (ar, fi, (m1, m2, m3, m4, m5))))
  else
   zl (W_if_nextTo x l2) (fun v1 =>
   bif !decide (v1 = y) then
    some (.inl (2, [.int x, .int y, .int (l2 + 1)], [], (ar, fi, (m1, m2, m3, m4, m5))))
   else
    some (.inr (some (.int 1), (ar, fi, (m1, m2, m3, m4, m5))))) : Option ((Nat × List Value × List Value × zH2) ⊕ zO2)) := rfl
theorem k_if_areNext_2 {X : Nat × (Nat → Int32)} {ar fi : Nat → Nat → Int32} {m1 m2 m3 m4 m5 : Nat} {x y : Int32} {o : zO2} : ∀ (s : U_if_areNext_2) (q : U_if_areNext_2 ⊕ T_if_areNext), f_if_areNext_2 x y s = some q → zq (M_if_areNext_2 X (zEx 140 S_if_nextTo zE0) ar fi m1 m2 m3 m4 m5 x y o) (fun t => O_if_areNext ar fi m1 m2 m3 m4 m5 t = o) q → M_if_areNext_2 X (zEx 140 S_if_nextTo zE0) ar fi m1 m2 m3 m4 m5 x y o s := by
  intro l2 q h hq
  have h : b_if_areNext_2 x y l2 = some q := h
  unfold b_if_areNext_2 at h
  show zR2 X zFT (zEx 140 S_if_nextTo zE0) zc_141 2 [.int x, .int y, .int l2] [] (ar, fi, (m1, m2, m3, m4, m5)) o
  refine zT_seg t2_if_areNext ?_
  refine zb_el h (fun hb h => zT_t hb ?_) (fun hb h => zT_f hb ?_)
  · have hz := zsi h hq
    refine (zO_mk ?_ ?_).trans hz
    · first | with_reducible rfl | (rfl)
    · first | with_reducible rfl | (rfl)
  · refine zl_el h (fun h => zT_l ?_)
    refine zb_el h (fun hb h => zT_t hb ?_) (fun hb h => zT_f hb ?_)
    · have hz := zsi h hq
      refine zR2_hp ?_ ?_ hz
      · first | with_reducible rfl | (rfl)
      · first | with_reducible rfl | (rfl)
    · have hz := zsi h hq
      refine (zO_mk ?_ ?_).trans hz
      · first | with_reducible rfl | (rfl)
      · first | with_reducible rfl | (rfl)
set_option maxRecDepth 20000 in
theorem t_if_areNext {X : Nat × (Nat → Int32)} {ar fi : Nat → Nat → Int32} {m1 m2 m3 m4 m5 : Nat} {x y : Int32} {W_if_nextTo : Int32 → Int32 → Int32} : zseg X zFT (zEx 140 (P_if_nextTo W_if_nextTo) zE0) zc_141 (fun p => Nat.beq p 2) 400 0 [.int x, .int y] [] (ar, fi, (m1, m2, m3, m4, m5)) = (
  some (.inl (2, [.int x, .int y, .int 0], [], (ar, fi, (m1, m2, m3, m4, m5)))) : Option ((Nat × List Value × List Value × zH2) ⊕ zO2)) := rfl
theorem e_if_areNext {X : Nat × (Nat → Int32)} {ar fi : Nat → Nat → Int32} {m1 m2 m3 m4 m5 : Nat} {x y : Int32} {o : zO2} : ∀ (q : T_if_areNext), q_if_areNext x y = some q → (fun t => O_if_areNext ar fi m1 m2 m3 m4 m5 t = o) q → zR2 X zFT (zEx 140 S_if_nextTo zE0) zc_141 0 [.int x, .int y] [] (ar, fi, (m1, m2, m3, m4, m5)) o := by
  intro q h hq
  unfold q_if_areNext at h
  refine zT_seg t_if_areNext ?_
  refine zR2_hp ?_ ?_ (zlp_K k_if_areNext_2 h hq)
  · first | with_reducible rfl | (rfl)
  · first | with_reducible rfl | (rfl)
theorem ok_if_areNext (X : Nat × (Nat → Int32)) : zOkS X 141 S_if_areNext 2 := zOkS_new (zOkE_cons (ok_if_nextTo X) (by decide) (zOkE_nil X 1)) (by
  intro args g o h
  obtain ⟨ar, fi, m1, m2, m3, m4, m5⟩ := g
  unfold S_if_areNext P_if_areNext at h
  split at h
  · exact zpe_el h (fun t ht ho => e_if_areNext t ht ho)
  · cases h)
abbrev T_md_types : Type := (Nat → Int32) × Int32
abbrev U_md_types_2 : Type := Int32 × (Nat → Int32) × Int32
def b_md_types_2 (x : Int32) (l2 : Int32) (b70 : Nat → Int32) (c64_6 : Int32) : Option (U_md_types_2 ⊕ T_md_types) :=
  bif decide (l2 < 0) then
   some (.inr (b70, c64_6))
  else
   zg (zin c64_6 260) (
   some (.inl (l2 + (-1), (zup b70 (c64_6.toNatClampNeg) (Int32.toInt8 ((Int32.toInt8 (x >>> ((8 * l2) &&& 31))).toInt32)).toInt32), c64_6 + 1)))
def f_md_types_2 (x : Int32) : U_md_types_2 → Option (U_md_types_2 ⊕ T_md_types) := fun s => b_md_types_2 x s.1 s.2.1 s.2.2
noncomputable def l_md_types_2 (x : Int32) (l2 : Int32) (b70 : Nat → Int32) (c64_6 : Int32) : Option T_md_types := zlp (f_md_types_2 x) (l2, b70, c64_6)
noncomputable def q_md_types (x : Int32) (a70 : Nat → Int32) (f64_6 : Int32) : Option T_md_types :=
  l_md_types_2 x 3 a70 (f64_6)
def P_md_types (Q : Int32 → (Nat → Int32) → Int32 → Option ((Nat → Int32) × Int32)) : zSp := fun as g => match as with
  | [.ref a, .int x] => bif Nat.beq a 64 then zpe (Q x (g.1 70) (g.2.1 64 6)) (fun t => (none, ((zua g.1 70 t.1), (zuf g.2.1 64 6 t.2), g.2.2))) else none
  | _ => none
noncomputable abbrev S_md_types : zSp := P_md_types q_md_types
def O_md_types (ar fi : Nat → Nat → Int32) (m1 : Nat) (m2 : Nat) (m3 : Nat) (m4 : Nat) (m5 : Nat) (t : T_md_types) : zO2 := (none, ((zua ar 70 t.1), (zuf fi 64 6 t.2), (m1, m2, m3, m4, m5)))
def M_md_types_2 (X : Nat × (Nat → Int32)) (E : zTE) (ar fi : Nat → Nat → Int32) (m1 : Nat) (m2 : Nat) (m3 : Nat) (m4 : Nat) (m5 : Nat) (x : Int32) (o : zO2) (s : U_md_types_2) : Prop := zR2 X zFT E zc_155 2 [.ref 64, .int x, .int s.1] [] ((zua ar 70 s.2.1), (zuf fi 64 6 s.2.2), (m1, m2, m3, m4, m5)) o
set_option maxRecDepth 20000 in
theorem t2_md_types {X : Nat × (Nat → Int32)} {ar fi : Nat → Nat → Int32} {m1 m2 m3 m4 m5 : Nat} {x : Int32} {l2 : Int32} {b70 : Nat → Int32} {c64_6 : Int32} : zseg X zFT zE0 zc_155 (fun p => Nat.beq p 2) 400 2 [.ref 64, .int x, .int l2] [] ((zua ar 70 b70), (zuf fi 64 6 c64_6), (m1, m2, m3, m4, m5)) = (
  bif decide (l2 < 0) then
   some (.inr (none, ((zua ar 70 b70), (zuf fi 64 6 c64_6), (m1, m2, m3, m4, m5))))
  else
   zg (zin c64_6 260) (
   some (.inl (2, [.ref 64, .int x, .int (l2 + (-1))], [], ((zua (zua ar 70 b70) 70 (zup b70 (c64_6.toNatClampNeg) (Int32.toInt8 ((Int32.toInt8 (x >>> ((8 * l2) &&& 31))).toInt32)).toInt32)), (zuf (zuf fi 64 6 c64_6) 64 6 (c64_6 + 1)), (m1, m2, m3, m4, m5))))) : Option ((Nat × List Value × List Value × zH2) ⊕ zO2)) := rfl
theorem k_md_types_2 {X : Nat × (Nat → Int32)} {ar fi : Nat → Nat → Int32} {m1 m2 m3 m4 m5 : Nat} {x : Int32} {o : zO2} : ∀ (s : U_md_types_2) (q : U_md_types_2 ⊕ T_md_types), f_md_types_2 x s = some q → zq (M_md_types_2 X zE0 ar fi m1 m2 m3 m4 m5 x o) (fun t => O_md_types ar fi m1 m2 m3 m4 m5 t = o) q → M_md_types_2 X zE0 ar fi m1 m2 m3 m4 m5 x o s := by
  intro s q h hq
  obtain ⟨l2, b70, c64_6⟩ := s
  have h : b_md_types_2 x l2 b70 c64_6 = some q := h
  unfold b_md_types_2 at h
  show zR2 X zFT zE0 zc_155 2 [.ref 64, .int x, .int l2] [] ((zua ar 70 b70), (zuf fi 64 6 c64_6), (m1, m2, m3, m4, m5)) o
  refine zT_seg t2_md_types ?_
  refine zb_el h (fun hb h => zT_t hb ?_) (fun hb h => zT_f hb ?_)
  · have hz := zsi h hq
    refine (zO_mk ?_ ?_).trans hz
    · first | with_reducible rfl | (exact zuas_eq _ [(70, _)] [(70, _)] [70] rfl rfl ⟨rfl, trivial⟩)
    · first | with_reducible rfl | (exact zufs_eq _ [(64, 6, _)] [(64, 6, _)] [(64, 6)] rfl rfl ⟨rfl, trivial⟩)
  · refine zg_el h (fun hg h => zT_g hg ?_)
    have hz := zsi h hq
    refine zR2_hp ?_ ?_ hz
    · first | with_reducible rfl | (exact zuas_eq _ [(70, _), (70, _)] [(70, _)] [70] rfl rfl ⟨rfl, trivial⟩)
    · first | with_reducible rfl | (exact zufs_eq _ [(64, 6, _), (64, 6, _)] [(64, 6, _)] [(64, 6)] rfl rfl ⟨rfl, trivial⟩)
set_option maxRecDepth 20000 in
theorem t_md_types {X : Nat × (Nat → Int32)} {ar fi : Nat → Nat → Int32} {m1 m2 m3 m4 m5 : Nat} {x : Int32} : zseg X zFT zE0 zc_155 (fun p => Nat.beq p 2) 400 0 [.ref 64, .int x] [] (ar, fi, (m1, m2, m3, m4, m5)) = (
  some (.inl (2, [.ref 64, .int x, .int 3], [], (ar, fi, (m1, m2, m3, m4, m5)))) : Option ((Nat × List Value × List Value × zH2) ⊕ zO2)) := rfl
theorem e_md_types {X : Nat × (Nat → Int32)} {ar fi : Nat → Nat → Int32} {m1 m2 m3 m4 m5 : Nat} {x : Int32} {o : zO2} : ∀ (q : T_md_types), q_md_types x (ar 70) (fi 64 6) = some q → (fun t => O_md_types ar fi m1 m2 m3 m4 m5 t = o) q → zR2 X zFT zE0 zc_155 0 [.ref 64, .int x] [] (ar, fi, (m1, m2, m3, m4, m5)) o := by
  intro q h hq
  unfold q_md_types at h
  refine zT_seg t_md_types ?_
  refine zR2_hp ?_ ?_ (zlp_K k_md_types_2 h hq)
  · first | with_reducible rfl | (exact zuas_eq _ [] [(70, _)] [70] rfl rfl ⟨rfl, trivial⟩)
  · first | with_reducible rfl | (exact zufs_eq _ [] [(64, 6, _)] [(64, 6)] rfl rfl ⟨rfl, trivial⟩)
theorem ok_md_types (X : Nat × (Nat → Int32)) : zOkS X 155 S_md_types 1 := zOkS_new (zOkE_nil X 0) (by
  intro args g o h
  obtain ⟨ar, fi, m1, m2, m3, m4, m5⟩ := g
  unfold S_md_types P_md_types at h
  split at h
  · refine zb_el h (fun hI0 k0 => ?_) (fun _ h10 => ?_)
    · try simp only [Bool.and_eq_true] at hI0
      have j0 := hI0
      have e0 := Nat.eq_of_beq_eq_true j0
      subst e0
      exact zpe_el k0 (fun t ht ho => e_md_types t ht ho)
    · cases h10
  · cases h)
abbrev T_md_feed : Type := Int32 × (Nat → Int32) × Int32
noncomputable def q_md_feed (x : Int32) (y : Int32) (z : Int32) (u : Int32) (v : Int32) (a70 : Nat → Int32) (f64_6 : Int32) : Option T_md_feed :=
  bif decide ((f64_6) + 20 ≤ 260) then
   zbd (q_md_types x a70 (f64_6)) (fun v1 =>
   zbd (q_md_types y ((v1.1)) ((v1.2))) (fun v2 =>
   zbd (q_md_types z ((v2.1)) ((v2.2))) (fun v3 =>
   zbd (q_md_types u ((v3.1)) ((v3.2))) (fun v4 =>
   zbd (q_md_types v ((v4.1)) ((v4.2))) (fun v5 =>
   some ((v5.2), ((v5.1)), (v5.2)))))))
  else
   some ((-1), a70, f64_6)
def P_md_feed (Q : Int32 → Int32 → Int32 → Int32 → Int32 → (Nat → Int32) → Int32 → Option (Int32 × (Nat → Int32) × Int32)) : zSp := fun as g => match as with
  | [.ref a, .int x, .int y, .int z, .int u, .int v] => bif Nat.beq a 64 then zpe (Q x y z u v (g.1 70) (g.2.1 64 6)) (fun t => (some (.int (t.1)), ((zua g.1 70 t.2.1), (zuf g.2.1 64 6 t.2.2), g.2.2))) else none
  | _ => none
noncomputable abbrev S_md_feed : zSp := P_md_feed q_md_feed
def O_md_feed (ar fi : Nat → Nat → Int32) (m1 : Nat) (m2 : Nat) (m3 : Nat) (m4 : Nat) (m5 : Nat) (t : T_md_feed) : zO2 := (some (.int (t.1)), ((zua ar 70 t.2.1), (zuf fi 64 6 t.2.2), (m1, m2, m3, m4, m5)))
set_option maxRecDepth 20000 in
theorem t_md_feed {X : Nat × (Nat → Int32)} {ar fi : Nat → Nat → Int32} {m1 m2 m3 m4 m5 : Nat} {x y z u v : Int32} {Q_md_types : Int32 → (Nat → Int32) → Int32 → Option ((Nat → Int32) × Int32)} : zseg X zFT (zEx 155 (P_md_types Q_md_types) zE0) zc_156 (fun p => false) 400 0 [.ref 64, .int x, .int y, .int z, .int u, .int v] [] (ar, fi, (m1, m2, m3, m4, m5)) = (
  bif decide ((fi 64 6) + 20 ≤ 260) then
   zl (Q_md_types x (ar 70) (fi 64 6)) (fun v1 => zg v1.isSome (
   zl (Q_md_types y (((zgt v1).1)) (((zgt v1).2))) (fun v2 => zg v2.isSome (
   zl (Q_md_types z (((zgt v2).1)) (((zgt v2).2))) (fun v3 => zg v3.isSome (
   zl (Q_md_types u (((zgt v3).1)) (((zgt v3).2))) (fun v4 => zg v4.isSome (
   zl (Q_md_types v (((zgt v4).1)) (((zgt v4).2))) (fun v5 => zg v5.isSome (
   some (.inr (some (.int (((zgt v5).2))), ((zua (zua (zua (zua (zua ar 70 (((zgt v1).1))) 70 (((zgt v2).1))) 70 (((zgt v3).1))) 70 (((zgt v4).1))) 70 (((zgt v5).1))), (zuf (zuf (zuf (zuf (zuf fi 64 6 (((zgt v1).2))) 64 6 (((zgt v2).2))) 64 6 (((zgt v3).2))) 64 6 (((zgt v4).2))) 64 6 (((zgt v5).2))), (m1, m2, m3, m4, m5))))))))))))))
  else
   some (.inr (some (.int (-1)), (ar, fi, (m1, m2, m3, m4, m5)))) : Option ((Nat × List Value × List Value × zH2) ⊕ zO2)) := rfl
theorem e_md_feed {X : Nat × (Nat → Int32)} {ar fi : Nat → Nat → Int32} {m1 m2 m3 m4 m5 : Nat} {x y z u v : Int32} {o : zO2} : ∀ (q : T_md_feed), q_md_feed x y z u v (ar 70) (fi 64 6) = some q → (fun t => O_md_feed ar fi m1 m2 m3 m4 m5 t = o) q → zR2 X zFT (zEx 155 S_md_types zE0) zc_156 0 [.ref 64, .int x, .int y, .int z, .int u, .int v] [] (ar, fi, (m1, m2, m3, m4, m5)) o := by
  intro q h hq
  unfold q_md_feed at h
  refine zT_seg t_md_feed ?_
  refine zb_el h (fun hb h => zT_t hb ?_) (fun hb h => zT_f hb ?_)
  · refine zbd_el h (fun v1 hv h => zT_c hv ?_)
    refine zbd_el h (fun v2 hv h => zT_c hv ?_)
    refine zbd_el h (fun v3 hv h => zT_c hv ?_)
    refine zbd_el h (fun v4 hv h => zT_c hv ?_)
    refine zbd_el h (fun v5 hv h => zT_c hv ?_)
    have hz := zsi h hq
    refine (zO_mk ?_ ?_).trans hz
    · first | with_reducible rfl | (exact zuas_eq _ [(70, _), (70, _), (70, _), (70, _), (70, _)] [(70, _)] [70] rfl rfl ⟨rfl, trivial⟩)
    · first | with_reducible rfl | (exact zufs_eq _ [(64, 6, _), (64, 6, _), (64, 6, _), (64, 6, _), (64, 6, _)] [(64, 6, _)] [(64, 6)] rfl rfl ⟨rfl, trivial⟩)
  · have hz := zsi h hq
    refine (zO_mk ?_ ?_).trans hz
    · first | with_reducible rfl | (exact zuas_eq _ [] [(70, _)] [70] rfl rfl ⟨rfl, trivial⟩)
    · first | with_reducible rfl | (exact zufs_eq _ [] [(64, 6, _)] [(64, 6)] rfl rfl ⟨rfl, trivial⟩)
theorem ok_md_feed (X : Nat × (Nat → Int32)) : zOkS X 156 S_md_feed 2 := zOkS_new (zOkE_cons (ok_md_types X) (by decide) (zOkE_nil X 1)) (by
  intro args g o h
  obtain ⟨ar, fi, m1, m2, m3, m4, m5⟩ := g
  unfold S_md_feed P_md_feed at h
  split at h
  · refine zb_el h (fun hI0 k0 => ?_) (fun _ h10 => ?_)
    · try simp only [Bool.and_eq_true] at hI0
      have j0 := hI0
      have e0 := Nat.eq_of_beq_eq_true j0
      subst e0
      exact zpe_el k0 (fun t ht ho => e_md_feed t ht ho)
    · cases h10
  · cases h)
abbrev T_md_readsNumber : Type := Int32 × Int32 × Int32 × Int32
abbrev U_md_readsNumber_10 : Type := Int32 × Int32
def b_md_readsNumber_10 (a70 : Nat → Int32) (f64_8 : Int32) (f64_9 : Int32) (l1 : Int32) (c64_7 : Int32) (c64_10 : Int32) : Option (U_md_readsNumber_10 ⊕ T_md_readsNumber) :=
  zg (g_md_isDigit (f64_8) c64_7 a70) (
  zl (w_md_isDigit (f64_8) c64_7 a70) (fun v1 =>
  bif decide (v1 = 0) then
   some (.inr (1, c64_7, f64_9, c64_10))
  else
   bif !decide (c64_7 = l1 + 5) then
    zg (g_md_here (f64_8) c64_7 a70) (
    zl (w_md_here (f64_8) c64_7 a70) (fun v2 =>
    some (.inl (c64_7 + 1, ((10 * c64_10) + v2) - 48))))
   else
    zl (w_md_wrongAt 2 c64_7) (fun v3 =>
    zl (f0_md_wrongAt 2 c64_7) (fun v4 =>
    zg (decide (v3 = 0) || decide (v3 = 1)) (
    some (.inr (v3, c64_7, v4, c64_10)))))))
def f_md_readsNumber_10 (a70 : Nat → Int32) (f64_8 : Int32) (f64_9 : Int32) (l1 : Int32) : U_md_readsNumber_10 → Option (U_md_readsNumber_10 ⊕ T_md_readsNumber) := fun s => b_md_readsNumber_10 a70 f64_8 f64_9 l1 s.1 s.2
noncomputable def l_md_readsNumber_10 (a70 : Nat → Int32) (f64_8 : Int32) (f64_9 : Int32) (l1 : Int32) (c64_7 : Int32) (c64_10 : Int32) : Option T_md_readsNumber := zlp (f_md_readsNumber_10 a70 f64_8 f64_9 l1) (c64_7, c64_10)
noncomputable def q_md_readsNumber (a70 : Nat → Int32) (f64_7 : Int32) (f64_8 : Int32) (f64_9 : Int32) : Option T_md_readsNumber :=
  l_md_readsNumber_10 a70 f64_8 f64_9 (f64_7) (f64_7) 0
def P_md_readsNumber (Q : (Nat → Int32) → Int32 → Int32 → Int32 → Option (Int32 × Int32 × Int32 × Int32)) : zSp := fun as g => match as with
  | [.ref a] => bif Nat.beq a 64 then zpe (Q (g.1 70) (g.2.1 64 7) (g.2.1 64 8) (g.2.1 64 9)) (fun t => (some (.int (t.1)), (g.1, (zuf (zuf (zuf g.2.1 64 7 t.2.1) 64 9 t.2.2.1) 64 10 t.2.2.2), g.2.2))) else none
  | _ => none
noncomputable abbrev S_md_readsNumber : zSp := P_md_readsNumber q_md_readsNumber
def O_md_readsNumber (ar fi : Nat → Nat → Int32) (m1 : Nat) (m2 : Nat) (m3 : Nat) (m4 : Nat) (m5 : Nat) (t : T_md_readsNumber) : zO2 := (some (.int (t.1)), (ar, (zuf (zuf (zuf fi 64 7 t.2.1) 64 9 t.2.2.1) 64 10 t.2.2.2), (m1, m2, m3, m4, m5)))
def M_md_readsNumber_10 (X : Nat × (Nat → Int32)) (E : zTE) (ar fi : Nat → Nat → Int32) (m1 : Nat) (m2 : Nat) (m3 : Nat) (m4 : Nat) (m5 : Nat) (l1 : Int32) (o : zO2) (s : U_md_readsNumber_10) : Prop := zR2 X zFT E zc_162 10 [.ref 64, .int l1] [] (ar, (zuf (zuf fi 64 7 s.1) 64 10 s.2), (m1, m2, m3, m4, m5)) o
set_option maxRecDepth 20000 in
theorem t10_md_readsNumber {X : Nat × (Nat → Int32)} {ar fi : Nat → Nat → Int32} {m1 m2 m3 m4 m5 : Nat} {l1 : Int32} {c64_7 : Int32} {c64_10 : Int32} {G_md_isDigit : Int32 → Int32 → (Nat → Int32) → Bool} {W_md_isDigit : Int32 → Int32 → (Nat → Int32) → Int32} {W_md_wrongAt : Int32 → Int32 → Int32} {F0_md_wrongAt : Int32 → Int32 → Int32} {G_md_here : Int32 → Int32 → (Nat → Int32) → Bool} {W_md_here : Int32 → Int32 → (Nat → Int32) → Int32} : zseg X zFT (zEx 159 (P_md_isDigit G_md_isDigit W_md_isDigit) (zEx 160 (P_md_wrongAt W_md_wrongAt F0_md_wrongAt) (zEx 158 (P_md_here G_md_here W_md_here) zE0))) zc_162 (fun p => Nat.beq p 10) 400 10 [.ref 64, .int l1] [] (ar, (zuf (zuf fi 64 7 c64_7) 64 10 c64_10), (m1, m2, m3, m4, m5)) = (
  zg (G_md_isDigit (fi 64 8) c64_7 (ar 70)) (
  zl (W_md_isDigit (fi 64 8) c64_7 (ar 70)) (fun v1 =>
  bif decide (v1 = 0) then
   some (.inr (some (.int 1), (ar, (zuf (zuf fi 64 7 c64_7) 64 10 c64_10), (m1, m2, m3, m4, m5))))
  else
   bif !decide (c64_7 = l1 + 5) then
    zg (G_md_here (fi 64 8) c64_7 (ar 70)) (
    zl (W_md_here (fi 64 8) c64_7 (ar 70)) (fun v2 =>
    some (.inl (10, [.ref 64, .int l1], [], (ar, (zuf (zuf (zuf (zuf fi 64 7 c64_7) 64 10 c64_10) 64 10 (((10 * c64_10) + v2) - 48)) 64 7 (c64_7 + 1)), (m1, m2, m3, m4, m5))))))
   else
    zl (W_md_wrongAt 2 c64_7) (fun v3 =>
    zl (F0_md_wrongAt 2 c64_7) (fun v4 =>
    zg (decide (v3 = 0) || decide (v3 = 1)) (
    some (.inr (some (.int v3), (ar, (zuf (zuf (zuf fi 64 7 c64_7) 64 10 c64_10) 64 9 v4), (m1, m2, m3, m4, m5))))))))) : Option ((Nat × List Value × List Value × zH2) ⊕ zO2)) := rfl
theorem k_md_readsNumber_10 {X : Nat × (Nat → Int32)} {ar fi : Nat → Nat → Int32} {m1 m2 m3 m4 m5 : Nat} {l1 : Int32} {o : zO2} : ∀ (s : U_md_readsNumber_10) (q : U_md_readsNumber_10 ⊕ T_md_readsNumber), f_md_readsNumber_10 (ar 70) (fi 64 8) (fi 64 9) l1 s = some q → zq (M_md_readsNumber_10 X (zEx 159 S_md_isDigit (zEx 160 S_md_wrongAt (zEx 158 S_md_here zE0))) ar fi m1 m2 m3 m4 m5 l1 o) (fun t => O_md_readsNumber ar fi m1 m2 m3 m4 m5 t = o) q → M_md_readsNumber_10 X (zEx 159 S_md_isDigit (zEx 160 S_md_wrongAt (zEx 158 S_md_here zE0))) ar fi m1 m2 m3 m4 m5 l1 o s := by
  intro s q h hq
  obtain ⟨c64_7, c64_10⟩ := s
  have h : b_md_readsNumber_10 (ar 70) (fi 64 8) (fi 64 9) l1 c64_7 c64_10 = some q := h
  unfold b_md_readsNumber_10 at h
  show zR2 X zFT (zEx 159 S_md_isDigit (zEx 160 S_md_wrongAt (zEx 158 S_md_here zE0))) zc_162 10 [.ref 64, .int l1] [] (ar, (zuf (zuf fi 64 7 c64_7) 64 10 c64_10), (m1, m2, m3, m4, m5)) o
  refine zT_seg t10_md_readsNumber ?_
  refine zg_el h (fun hg h => zT_g hg ?_)
  refine zl_el h (fun h => zT_l ?_)
  refine zb_el h (fun hb h => zT_t hb ?_) (fun hb h => zT_f hb ?_)
  · have hz := zsi h hq
    refine (zO_mk ?_ ?_).trans hz
    · first | with_reducible rfl | (rfl)
    · first | with_reducible rfl | (exact zufs_eq _ [(64, 7, _), (64, 10, _)] [(64, 7, _), (64, 9, _), (64, 10, _)] [(64, 7), (64, 9), (64, 10)] rfl rfl ⟨rfl, rfl, rfl, trivial⟩)
  · refine zb_el h (fun hb h => zT_t hb ?_) (fun hb h => zT_f hb ?_)
    · refine zg_el h (fun hg h => zT_g hg ?_)
      refine zl_el h (fun h => zT_l ?_)
      have hz := zsi h hq
      refine zR2_hp ?_ ?_ hz
      · first | with_reducible rfl | (rfl)
      · first | with_reducible rfl | (exact zufs_eq _ [(64, 7, _), (64, 10, _), (64, 10, _), (64, 7, _)] [(64, 7, _), (64, 10, _)] [(64, 7), (64, 10)] rfl rfl ⟨rfl, rfl, trivial⟩)
    · refine zl_el h (fun h => zT_l ?_)
      refine zl_el h (fun h => zT_l ?_)
      refine zg_el h (fun hg h => zT_g hg ?_)
      have hz := zsi h hq
      refine (zO_mk ?_ ?_).trans hz
      · first | with_reducible rfl | (rfl)
      · first | with_reducible rfl | (exact zufs_eq _ [(64, 7, _), (64, 10, _), (64, 9, _)] [(64, 7, _), (64, 9, _), (64, 10, _)] [(64, 7), (64, 9), (64, 10)] rfl rfl ⟨rfl, rfl, rfl, trivial⟩)
set_option maxRecDepth 20000 in
theorem t_md_readsNumber {X : Nat × (Nat → Int32)} {ar fi : Nat → Nat → Int32} {m1 m2 m3 m4 m5 : Nat} {G_md_isDigit : Int32 → Int32 → (Nat → Int32) → Bool} {W_md_isDigit : Int32 → Int32 → (Nat → Int32) → Int32} {W_md_wrongAt : Int32 → Int32 → Int32} {F0_md_wrongAt : Int32 → Int32 → Int32} {G_md_here : Int32 → Int32 → (Nat → Int32) → Bool} {W_md_here : Int32 → Int32 → (Nat → Int32) → Int32} : zseg X zFT (zEx 159 (P_md_isDigit G_md_isDigit W_md_isDigit) (zEx 160 (P_md_wrongAt W_md_wrongAt F0_md_wrongAt) (zEx 158 (P_md_here G_md_here W_md_here) zE0))) zc_162 (fun p => Nat.beq p 10) 400 0 [.ref 64] [] (ar, fi, (m1, m2, m3, m4, m5)) = (
  some (.inl (10, [.ref 64, .int (fi 64 7)], [], (ar, (zuf fi 64 10 0), (m1, m2, m3, m4, m5)))) : Option ((Nat × List Value × List Value × zH2) ⊕ zO2)) := rfl
theorem e_md_readsNumber {X : Nat × (Nat → Int32)} {ar fi : Nat → Nat → Int32} {m1 m2 m3 m4 m5 : Nat} {o : zO2} : ∀ (q : T_md_readsNumber), q_md_readsNumber (ar 70) (fi 64 7) (fi 64 8) (fi 64 9) = some q → (fun t => O_md_readsNumber ar fi m1 m2 m3 m4 m5 t = o) q → zR2 X zFT (zEx 159 S_md_isDigit (zEx 160 S_md_wrongAt (zEx 158 S_md_here zE0))) zc_162 0 [.ref 64] [] (ar, fi, (m1, m2, m3, m4, m5)) o := by
  intro q h hq
  unfold q_md_readsNumber at h
  refine zT_seg t_md_readsNumber ?_
  refine zR2_hp ?_ ?_ (zlp_K k_md_readsNumber_10 h hq)
  · first | with_reducible rfl | (rfl)
  · first | with_reducible rfl | (exact zufs_eq _ [(64, 10, _)] [(64, 7, _), (64, 10, _)] [(64, 7), (64, 10)] rfl rfl ⟨rfl, rfl, trivial⟩)
theorem ok_md_readsNumber (X : Nat × (Nat → Int32)) : zOkS X 162 S_md_readsNumber 3 := zOkS_new (zOkE_cons (ok_md_isDigit X) (by decide) (zOkE_cons (ok_md_wrongAt X) (by decide) (zOkE_cons (ok_md_here X) (by decide) (zOkE_nil X 2)))) (by
  intro args g o h
  obtain ⟨ar, fi, m1, m2, m3, m4, m5⟩ := g
  unfold S_md_readsNumber P_md_readsNumber at h
  split at h
  · refine zb_el h (fun hI0 k0 => ?_) (fun _ h10 => ?_)
    · try simp only [Bool.and_eq_true] at hI0
      have j0 := hI0
      have e0 := Nat.eq_of_beq_eq_true j0
      subst e0
      exact zpe_el k0 (fun t ht ho => e_md_readsNumber t ht ho)
    · cases h10
  · cases h)
abbrev T_md_closesSums : Type := (Nat → Int32) × Int32 × Int32
abbrev U_md_closesSums_0 : Type := (Nat → Int32) × Int32 × Int32
def b_md_closesSums_0 (x : Int32) (a72 : Nat → Int32) (b71 : Nat → Int32) (c64_12 : Int32) (c64_13 : Int32) : Option (U_md_closesSums_0 ⊕ T_md_closesSums) :=
  zg (g_md_waitTop c64_13 a72) (
  zl (w_md_waitTop c64_13 a72) (fun v1 =>
  bif decide (v1 < 4) then
   bif decide (x = 0) then
    some (.inr (b71, c64_12, c64_13))
   else
    zg (g_md_waitTop c64_13 a72) (
    zl (w_md_waitTop c64_13 a72) (fun v2 =>
    bif decide (v2 = 2) then
     zg (g_md_waitTop c64_13 a72) (
     zl (w_md_waitTop c64_13 a72) (fun v3 =>
     zg (g_md_notes v3 0 c64_12 b71) (
     zl (a0_md_notes v3 0 c64_12 b71) (fun v4 =>
     zl (f0_md_notes v3 0 c64_12 b71) (fun v5 =>
     some (.inl (v4, v5, c64_13 - 1)))))))
    else
     zg (g_md_waitTop c64_13 a72) (
     zl (w_md_waitTop c64_13 a72) (fun v6 =>
     bif !decide (v6 = 3) then
      some (.inr (b71, c64_12, c64_13))
     else
      zg (g_md_waitTop c64_13 a72) (
      zl (w_md_waitTop c64_13 a72) (fun v7 =>
      zg (g_md_notes v7 0 c64_12 b71) (
      zl (a0_md_notes v7 0 c64_12 b71) (fun v8 =>
      zl (f0_md_notes v7 0 c64_12 b71) (fun v9 =>
      some (.inl (v8, v9, c64_13 - 1)))))))))))
  else
   zg (g_md_waitTop c64_13 a72) (
   zl (w_md_waitTop c64_13 a72) (fun v10 =>
   bif decide (v10 ≤ 6) then
    zg (g_md_waitTop c64_13 a72) (
    zl (w_md_waitTop c64_13 a72) (fun v11 =>
    zg (g_md_notes v11 0 c64_12 b71) (
    zl (a0_md_notes v11 0 c64_12 b71) (fun v12 =>
    zl (f0_md_notes v11 0 c64_12 b71) (fun v13 =>
    some (.inl (v12, v13, c64_13 - 1)))))))
   else
    bif decide (x = 0) then
     some (.inr (b71, c64_12, c64_13))
    else
     zg (g_md_waitTop c64_13 a72) (
     zl (w_md_waitTop c64_13 a72) (fun v14 =>
     bif decide (v14 = 2) then
      zg (g_md_waitTop c64_13 a72) (
      zl (w_md_waitTop c64_13 a72) (fun v15 =>
      zg (g_md_notes v15 0 c64_12 b71) (
      zl (a0_md_notes v15 0 c64_12 b71) (fun v16 =>
      zl (f0_md_notes v15 0 c64_12 b71) (fun v17 =>
      some (.inl (v16, v17, c64_13 - 1)))))))
     else
      zg (g_md_waitTop c64_13 a72) (
      zl (w_md_waitTop c64_13 a72) (fun v18 =>
      bif !decide (v18 = 3) then
       some (.inr (b71, c64_12, c64_13))
      else
       zg (g_md_waitTop c64_13 a72) (
       zl (w_md_waitTop c64_13 a72) (fun v19 =>
       zg (g_md_notes v19 0 c64_12 b71) (
       zl (a0_md_notes v19 0 c64_12 b71) (fun v20 =>
       zl (f0_md_notes v19 0 c64_12 b71) (fun v21 =>
       some (.inl (v20, v21, c64_13 - 1)))))))))))))))
def f_md_closesSums_0 (x : Int32) (a72 : Nat → Int32) : U_md_closesSums_0 → Option (U_md_closesSums_0 ⊕ T_md_closesSums) := fun s => b_md_closesSums_0 x a72 s.1 s.2.1 s.2.2
noncomputable def l_md_closesSums_0 (x : Int32) (a72 : Nat → Int32) (b71 : Nat → Int32) (c64_12 : Int32) (c64_13 : Int32) : Option T_md_closesSums := zlp (f_md_closesSums_0 x a72) (b71, c64_12, c64_13)
noncomputable def q_md_closesSums (x : Int32) (a71 : Nat → Int32) (a72 : Nat → Int32) (f64_12 : Int32) (f64_13 : Int32) : Option T_md_closesSums :=
  l_md_closesSums_0 x a72 a71 (f64_12) (f64_13)
def P_md_closesSums (Q : Int32 → (Nat → Int32) → (Nat → Int32) → Int32 → Int32 → Option ((Nat → Int32) × Int32 × Int32)) : zSp := fun as g => match as with
  | [.ref a, .int x] => bif Nat.beq a 64 then zpe (Q x (g.1 71) (g.1 72) (g.2.1 64 12) (g.2.1 64 13)) (fun t => (none, ((zua g.1 71 t.1), (zuf (zuf g.2.1 64 12 t.2.1) 64 13 t.2.2), g.2.2))) else none
  | _ => none
noncomputable abbrev S_md_closesSums : zSp := P_md_closesSums q_md_closesSums
def O_md_closesSums (ar fi : Nat → Nat → Int32) (m1 : Nat) (m2 : Nat) (m3 : Nat) (m4 : Nat) (m5 : Nat) (t : T_md_closesSums) : zO2 := (none, ((zua ar 71 t.1), (zuf (zuf fi 64 12 t.2.1) 64 13 t.2.2), (m1, m2, m3, m4, m5)))
def M_md_closesSums_0 (X : Nat × (Nat → Int32)) (E : zTE) (ar fi : Nat → Nat → Int32) (m1 : Nat) (m2 : Nat) (m3 : Nat) (m4 : Nat) (m5 : Nat) (x : Int32) (o : zO2) (s : U_md_closesSums_0) : Prop := zR2 X zFT E zc_168 0 [.ref 64, .int x] [] ((zua ar 71 s.1), (zuf (zuf fi 64 12 s.2.1) 64 13 s.2.2), (m1, m2, m3, m4, m5)) o
set_option maxRecDepth 20000 in
theorem t0_md_closesSums {X : Nat × (Nat → Int32)} {ar fi : Nat → Nat → Int32} {m1 m2 m3 m4 m5 : Nat} {x : Int32} {b71 : Nat → Int32} {c64_12 : Int32} {c64_13 : Int32} {G_md_waitTop : Int32 → (Nat → Int32) → Bool} {W_md_waitTop : Int32 → (Nat → Int32) → Int32} {G_md_notes : Int32 → Int32 → Int32 → (Nat → Int32) → Bool} {A0_md_notes : Int32 → Int32 → Int32 → (Nat → Int32) → Nat → Int32} {F0_md_notes : Int32 → Int32 → Int32 → (Nat → Int32) → Int32} : zseg X zFT (zEx 165 (P_md_waitTop G_md_waitTop W_md_waitTop) (zEx 163 (P_md_notes G_md_notes A0_md_notes F0_md_notes) zE0)) zc_168 (fun p => Nat.beq p 0) 400 0 [.ref 64, .int x] [] ((zua ar 71 b71), (zuf (zuf fi 64 12 c64_12) 64 13 c64_13), (m1, m2, m3, m4, m5)) = (
  zg (G_md_waitTop c64_13 (ar 72)) (
  zl (W_md_waitTop c64_13 (ar 72)) (fun v1 =>
  bif decide (v1 < 4) then
   bif decide (x = 0) then
    some (.inr (none, ((zua ar 71 b71), (zuf (zuf fi 64 12 c64_12) 64 13 c64_13), (m1, m2, m3, m4, m5))))
   else
    zg (G_md_waitTop c64_13 (ar 72)) (
    zl (W_md_waitTop c64_13 (ar 72)) (fun v2 =>
    bif decide (v2 = 2) then
     zg (G_md_waitTop c64_13 (ar 72)) (
     zl (W_md_waitTop c64_13 (ar 72)) (fun v3 =>
     zg (G_md_notes v3 0 c64_12 b71) (
     zl (A0_md_notes v3 0 c64_12 b71) (fun v4 =>
     zl (F0_md_notes v3 0 c64_12 b71) (fun v5 =>
     some (.inl (0, [.ref 64, .int x], [], ((zua (zua ar 71 b71) 71 v4), (zuf (zuf (zuf (zuf fi 64 12 c64_12) 64 13 c64_13) 64 12 v5) 64 13 (c64_13 - 1)), (m1, m2, m3, m4, m5)))))))))
    else
     zg (G_md_waitTop c64_13 (ar 72)) (
     zl (W_md_waitTop c64_13 (ar 72)) (fun v6 =>
     bif !decide (v6 = 3) then
      some (.inr (none, ((zua ar 71 b71), (zuf (zuf fi 64 12 c64_12) 64 13 c64_13), (m1, m2, m3, m4, m5))))
     else
      zg (G_md_waitTop c64_13 (ar 72)) (
      zl (W_md_waitTop c64_13 (ar 72)) (fun v7 =>
      zg (G_md_notes v7 0 c64_12 b71) (
      zl (A0_md_notes v7 0 c64_12 b71) (fun v8 =>
      zl (F0_md_notes v7 0 c64_12 b71) (fun v9 =>
      some (.inl (0, [.ref 64, .int x], [], ((zua (zua ar 71 b71) 71 v8), (zuf (zuf (zuf (zuf fi 64 12 c64_12) 64 13 c64_13) 64 12 v9) 64 13 (c64_13 - 1)), (m1, m2, m3, m4, m5)))))))))))))
  else
   zg (G_md_waitTop c64_13 (ar 72)) (
   zl (W_md_waitTop c64_13 (ar 72)) (fun v10 =>
   bif decide (v10 ≤ 6) then
    zg (G_md_waitTop c64_13 (ar 72)) (
    zl (W_md_waitTop c64_13 (ar 72)) (fun v11 =>
    zg (G_md_notes v11 0 c64_12 b71) (
    zl (A0_md_notes v11 0 c64_12 b71) (fun v12 =>
    zl (F0_md_notes v11 0 c64_12 b71) (fun v13 =>
    some (.inl (0, [.ref 64, .int x], [], ((zua (zua ar 71 b71) 71 v12), (zuf (zuf (zuf (zuf fi 64 12 c64_12) 64 13 c64_13) 64 12 v13) 64 13 (c64_13 - 1)), (m1, m2, m3, m4, m5)))))))))
   else
    bif decide (x = 0) then
     some (.inr (none, ((zua ar 71 b71), (zuf (zuf fi 64 12 c64_12) 64 13 c64_13), (m1, m2, m3, m4, m5))))
    else
     zg (G_md_waitTop c64_13 (ar 72)) (
     zl (W_md_waitTop c64_13 (ar 72)) (fun v14 =>
     bif decide (v14 = 2) then
      zg (G_md_waitTop c64_13 (ar 72)) (
      zl (W_md_waitTop c64_13 (ar 72)) (fun v15 =>
      zg (G_md_notes v15 0 c64_12 b71) (
      zl (A0_md_notes v15 0 c64_12 b71) (fun v16 =>
      zl (F0_md_notes v15 0 c64_12 b71) (fun v17 =>
      some (.inl (0, [.ref 64, .int x], [], ((zua (zua ar 71 b71) 71 v16), (zuf (zuf (zuf (zuf fi 64 12 c64_12) 64 13 c64_13) 64 12 v17) 64 13 (c64_13 - 1)), (m1, m2, m3, m4, m5)))))))))
     else
      zg (G_md_waitTop c64_13 (ar 72)) (
      zl (W_md_waitTop c64_13 (ar 72)) (fun v18 =>
      bif !decide (v18 = 3) then
       some (.inr (none, ((zua ar 71 b71), (zuf (zuf fi 64 12 c64_12) 64 13 c64_13), (m1, m2, m3, m4, m5))))
      else
       zg (G_md_waitTop c64_13 (ar 72)) (
       zl (W_md_waitTop c64_13 (ar 72)) (fun v19 =>
       zg (G_md_notes v19 0 c64_12 b71) (
       zl (A0_md_notes v19 0 c64_12 b71) (fun v20 =>
       zl (F0_md_notes v19 0 c64_12 b71) (fun v21 =>
       some (.inl (0, [.ref 64, .int x], [], ((zua (zua ar 71 b71) 71 v20), (zuf (zuf (zuf (zuf fi 64 12 c64_12) 64 13 c64_13) 64 12 v21) 64 13 (c64_13 - 1)), (m1, m2, m3, m4, m5))))))))))))))))) : Option ((Nat × List Value × List Value × zH2) ⊕ zO2)) := rfl
theorem k_md_closesSums_0 {X : Nat × (Nat → Int32)} {ar fi : Nat → Nat → Int32} {m1 m2 m3 m4 m5 : Nat} {x : Int32} {o : zO2} : ∀ (s : U_md_closesSums_0) (q : U_md_closesSums_0 ⊕ T_md_closesSums), f_md_closesSums_0 x (ar 72) s = some q → zq (M_md_closesSums_0 X (zEx 165 S_md_waitTop (zEx 163 S_md_notes zE0)) ar fi m1 m2 m3 m4 m5 x o) (fun t => O_md_closesSums ar fi m1 m2 m3 m4 m5 t = o) q → M_md_closesSums_0 X (zEx 165 S_md_waitTop (zEx 163 S_md_notes zE0)) ar fi m1 m2 m3 m4 m5 x o s := by
  intro s q h hq
  obtain ⟨b71, c64_12, c64_13⟩ := s
  have h : b_md_closesSums_0 x (ar 72) b71 c64_12 c64_13 = some q := h
  unfold b_md_closesSums_0 at h
  show zR2 X zFT (zEx 165 S_md_waitTop (zEx 163 S_md_notes zE0)) zc_168 0 [.ref 64, .int x] [] ((zua ar 71 b71), (zuf (zuf fi 64 12 c64_12) 64 13 c64_13), (m1, m2, m3, m4, m5)) o
  refine zT_seg t0_md_closesSums ?_
  refine zg_el h (fun hg h => zT_g hg ?_)
  refine zl_el h (fun h => zT_l ?_)
  refine zb_el h (fun hb h => zT_t hb ?_) (fun hb h => zT_f hb ?_)
  · refine zb_el h (fun hb h => zT_t hb ?_) (fun hb h => zT_f hb ?_)
    · have hz := zsi h hq
      refine (zO_mk ?_ ?_).trans hz
      · first | with_reducible rfl | (exact zuas_eq _ [(71, _)] [(71, _)] [71] rfl rfl ⟨rfl, trivial⟩)
      · first | with_reducible rfl | (exact zufs_eq _ [(64, 12, _), (64, 13, _)] [(64, 12, _), (64, 13, _)] [(64, 12), (64, 13)] rfl rfl ⟨rfl, rfl, trivial⟩)
    · refine zg_el h (fun hg h => zT_g hg ?_)
      refine zl_el h (fun h => zT_l ?_)
      refine zb_el h (fun hb h => zT_t hb ?_) (fun hb h => zT_f hb ?_)
      · refine zg_el h (fun hg h => zT_g hg ?_)
        refine zl_el h (fun h => zT_l ?_)
        refine zg_el h (fun hg h => zT_g hg ?_)
        refine zl_el h (fun h => zT_l ?_)
        refine zl_el h (fun h => zT_l ?_)
        have hz := zsi h hq
        refine zR2_hp ?_ ?_ hz
        · first | with_reducible rfl | (exact zuas_eq _ [(71, _), (71, _)] [(71, _)] [71] rfl rfl ⟨rfl, trivial⟩)
        · first | with_reducible rfl | (exact zufs_eq _ [(64, 12, _), (64, 13, _), (64, 12, _), (64, 13, _)] [(64, 12, _), (64, 13, _)] [(64, 12), (64, 13)] rfl rfl ⟨rfl, rfl, trivial⟩)
      · refine zg_el h (fun hg h => zT_g hg ?_)
        refine zl_el h (fun h => zT_l ?_)
        refine zb_el h (fun hb h => zT_t hb ?_) (fun hb h => zT_f hb ?_)
        · have hz := zsi h hq
          refine (zO_mk ?_ ?_).trans hz
          · first | with_reducible rfl | (exact zuas_eq _ [(71, _)] [(71, _)] [71] rfl rfl ⟨rfl, trivial⟩)
          · first | with_reducible rfl | (exact zufs_eq _ [(64, 12, _), (64, 13, _)] [(64, 12, _), (64, 13, _)] [(64, 12), (64, 13)] rfl rfl ⟨rfl, rfl, trivial⟩)
        · refine zg_el h (fun hg h => zT_g hg ?_)
          refine zl_el h (fun h => zT_l ?_)
          refine zg_el h (fun hg h => zT_g hg ?_)
          refine zl_el h (fun h => zT_l ?_)
          refine zl_el h (fun h => zT_l ?_)
          have hz := zsi h hq
          refine zR2_hp ?_ ?_ hz
          · first | with_reducible rfl | (exact zuas_eq _ [(71, _), (71, _)] [(71, _)] [71] rfl rfl ⟨rfl, trivial⟩)
          · first | with_reducible rfl | (exact zufs_eq _ [(64, 12, _), (64, 13, _), (64, 12, _), (64, 13, _)] [(64, 12, _), (64, 13, _)] [(64, 12), (64, 13)] rfl rfl ⟨rfl, rfl, trivial⟩)
  · refine zg_el h (fun hg h => zT_g hg ?_)
    refine zl_el h (fun h => zT_l ?_)
    refine zb_el h (fun hb h => zT_t hb ?_) (fun hb h => zT_f hb ?_)
    · refine zg_el h (fun hg h => zT_g hg ?_)
      refine zl_el h (fun h => zT_l ?_)
      refine zg_el h (fun hg h => zT_g hg ?_)
      refine zl_el h (fun h => zT_l ?_)
      refine zl_el h (fun h => zT_l ?_)
      have hz := zsi h hq
      refine zR2_hp ?_ ?_ hz
      · first | with_reducible rfl | (exact zuas_eq _ [(71, _), (71, _)] [(71, _)] [71] rfl rfl ⟨rfl, trivial⟩)
      · first | with_reducible rfl | (exact zufs_eq _ [(64, 12, _), (64, 13, _), (64, 12, _), (64, 13, _)] [(64, 12, _), (64, 13, _)] [(64, 12), (64, 13)] rfl rfl ⟨rfl, rfl, trivial⟩)
    · refine zb_el h (fun hb h => zT_t hb ?_) (fun hb h => zT_f hb ?_)
      · have hz := zsi h hq
        refine (zO_mk ?_ ?_).trans hz
        · first | with_reducible rfl | (exact zuas_eq _ [(71, _)] [(71, _)] [71] rfl rfl ⟨rfl, trivial⟩)
        · first | with_reducible rfl | (exact zufs_eq _ [(64, 12, _), (64, 13, _)] [(64, 12, _), (64, 13, _)] [(64, 12), (64, 13)] rfl rfl ⟨rfl, rfl, trivial⟩)
      · refine zg_el h (fun hg h => zT_g hg ?_)
        refine zl_el h (fun h => zT_l ?_)
        refine zb_el h (fun hb h => zT_t hb ?_) (fun hb h => zT_f hb ?_)
        · refine zg_el h (fun hg h => zT_g hg ?_)
          refine zl_el h (fun h => zT_l ?_)
          refine zg_el h (fun hg h => zT_g hg ?_)
          refine zl_el h (fun h => zT_l ?_)
          refine zl_el h (fun h => zT_l ?_)
          have hz := zsi h hq
          refine zR2_hp ?_ ?_ hz
          · first | with_reducible rfl | (exact zuas_eq _ [(71, _), (71, _)] [(71, _)] [71] rfl rfl ⟨rfl, trivial⟩)
          · first | with_reducible rfl | (exact zufs_eq _ [(64, 12, _), (64, 13, _), (64, 12, _), (64, 13, _)] [(64, 12, _), (64, 13, _)] [(64, 12), (64, 13)] rfl rfl ⟨rfl, rfl, trivial⟩)
        · refine zg_el h (fun hg h => zT_g hg ?_)
          refine zl_el h (fun h => zT_l ?_)
          refine zb_el h (fun hb h => zT_t hb ?_) (fun hb h => zT_f hb ?_)
          · have hz := zsi h hq
            refine (zO_mk ?_ ?_).trans hz
            · first | with_reducible rfl | (exact zuas_eq _ [(71, _)] [(71, _)] [71] rfl rfl ⟨rfl, trivial⟩)
            · first | with_reducible rfl | (exact zufs_eq _ [(64, 12, _), (64, 13, _)] [(64, 12, _), (64, 13, _)] [(64, 12), (64, 13)] rfl rfl ⟨rfl, rfl, trivial⟩)
          · refine zg_el h (fun hg h => zT_g hg ?_)
            refine zl_el h (fun h => zT_l ?_)
            refine zg_el h (fun hg h => zT_g hg ?_)
            refine zl_el h (fun h => zT_l ?_)
            refine zl_el h (fun h => zT_l ?_)
            have hz := zsi h hq
            refine zR2_hp ?_ ?_ hz
            · first | with_reducible rfl | (exact zuas_eq _ [(71, _), (71, _)] [(71, _)] [71] rfl rfl ⟨rfl, trivial⟩)
            · first | with_reducible rfl | (exact zufs_eq _ [(64, 12, _), (64, 13, _), (64, 12, _), (64, 13, _)] [(64, 12, _), (64, 13, _)] [(64, 12), (64, 13)] rfl rfl ⟨rfl, rfl, trivial⟩)
theorem e_md_closesSums {X : Nat × (Nat → Int32)} {ar fi : Nat → Nat → Int32} {m1 m2 m3 m4 m5 : Nat} {x : Int32} {o : zO2} : ∀ (q : T_md_closesSums), q_md_closesSums x (ar 71) (ar 72) (fi 64 12) (fi 64 13) = some q → (fun t => O_md_closesSums ar fi m1 m2 m3 m4 m5 t = o) q → zR2 X zFT (zEx 165 S_md_waitTop (zEx 163 S_md_notes zE0)) zc_168 0 [.ref 64, .int x] [] (ar, fi, (m1, m2, m3, m4, m5)) o := by
  intro q h hq
  unfold q_md_closesSums at h
  refine zR2_hp ?_ ?_ (zlp_K k_md_closesSums_0 h hq)
  · first | with_reducible rfl | (exact zuas_eq _ [] [(71, _)] [71] rfl rfl ⟨rfl, trivial⟩)
  · first | with_reducible rfl | (exact zufs_eq _ [] [(64, 12, _), (64, 13, _)] [(64, 12), (64, 13)] rfl rfl ⟨rfl, rfl, trivial⟩)
theorem ok_md_closesSums (X : Nat × (Nat → Int32)) : zOkS X 168 S_md_closesSums 2 := zOkS_new (zOkE_cons (ok_md_waitTop X) (by decide) (zOkE_cons (ok_md_notes X) (by decide) (zOkE_nil X 1))) (by
  intro args g o h
  obtain ⟨ar, fi, m1, m2, m3, m4, m5⟩ := g
  unfold S_md_closesSums P_md_closesSums at h
  split at h
  · refine zb_el h (fun hI0 k0 => ?_) (fun _ h10 => ?_)
    · try simp only [Bool.and_eq_true] at hI0
      have j0 := hI0
      have e0 := Nat.eq_of_beq_eq_true j0
      subst e0
      exact zpe_el k0 (fun t ht ho => e_md_closesSums t ht ho)
    · cases h10
  · cases h)
