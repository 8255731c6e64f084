abbrev T_if_safe : Type := Int32 × (Nat → Int32) × (Nat → Int32) × Int32 × Int32
abbrev U_if_safe_31 : Type := Int32 × Int32 × Int32
def b_if_safe_31 (x : Int32) (a3 : Nat → Int32) (b53 : Nat → Int32) (b54 : Nat → Int32) (c52_1 : Int32) (c52_3 : Int32) (l2 : Int32) (l3 : Int32) (l4 : Int32) : Option (U_if_safe_31 ⊕ T_if_safe) :=
  bif decide (l4 < 0) then
   bif !decide (x = 0) then
    some (.inr (l3, b53, b54, c52_1, c52_3))
   else
    some (.inr (l2, b53, b54, c52_1, c52_3))
  else
   zg (zin l4 96) (
   bif !decide (a3 (l4.toNatClampNeg) = 1) then
    some (.inl (l2, l3, l4 + (-1)))
   else
    zg (zin l4 96) (
    bif decide (0 ≤ b53 (l4.toNatClampNeg)) then
     some (.inl (l2, l3, l4 + (-1)))
    else
     some (.inl (l2 + 1, l4, l4 + (-1)))))
def f_if_safe_31 (x : Int32) (a3 : Nat → Int32) (b53 : Nat → Int32) (b54 : Nat → Int32) (c52_1 : Int32) (c52_3 : Int32) : U_if_safe_31 → Option (U_if_safe_31 ⊕ T_if_safe) := fun s => b_if_safe_31 x a3 b53 b54 c52_1 c52_3 s.1 s.2.1 s.2.2
noncomputable def l_if_safe_31 (x : Int32) (a3 : Nat → Int32) (b53 : Nat → Int32) (b54 : Nat → Int32) (c52_1 : Int32) (c52_3 : Int32) (l2 : Int32) (l3 : Int32) (l4 : Int32) : Option T_if_safe := zlp (f_if_safe_31 x a3 b53 b54 c52_1 c52_3) (l2, l3, l4)
noncomputable def q_if_safe (x : Int32) (a3 : Nat → Int32) (a4 : Nat → Int32) (a53 : Nat → Int32) (a54 : Nat → Int32) (f52_1 : Int32) (f52_3 : Int32) : Option T_if_safe :=
  zl (w_if_isWithin x 0 1) (fun v1 =>
  bif !decide (v1 = 0) then
   zbd (q_gr_burnFrom a3 a4 a53 a54) (fun v2 =>
   l_if_safe_31 x a3 ((v2.1)) ((v2.2.1)) ((v2.2.2.1)) ((v2.2.2.2)) 0 (-2) 95)
  else
   some ((-1), a53, a54, f52_1, f52_3))
def P_if_safe (Q : Int32 → (Nat → Int32) → (Nat → Int32) → (Nat → Int32) → (Nat → Int32) → Int32 → Int32 → Option (Int32 × (Nat → Int32) × (Nat → Int32) × Int32 × Int32)) : zSp := fun as g => match as with
  | [.ref a, .int x] => bif Nat.beq a 0 then zpe (Q x (g.1 3) (g.1 4) (g.1 53) (g.1 54) (g.2.1 52 1) (g.2.1 52 3)) (fun t => (some (.int (t.1)), ((zua (zua g.1 53 t.2.1) 54 t.2.2.1), (zuf (zuf g.2.1 52 1 t.2.2.2.1) 52 3 t.2.2.2.2), g.2.2))) else none
  | _ => none
noncomputable abbrev S_if_safe : zSp := P_if_safe q_if_safe
theorem hF3_if_safe (F : Nat → Nat → Int32) : F = (zuf (zuf F 52 1 (F 52 1)) 52 3 (F 52 3)) := zufk_ix F [] [((52, 1), none), ((52, 3), none)] rfl
theorem hA2_if_safe (F : Nat → Nat → Int32) : F = (zua (zua F 53 (F 53)) 54 (F 54)) := zuak_ix F [] [(53, none), (54, none)] rfl
theorem hF1_if_safe (F : Nat → Nat → Int32) (w0 w1 : Int32) : (zuf (zuf F 52 1 w0) 52 3 w1) = (zuf (zuf F 52 1 w0) 52 3 w1) := zufk_ix F [((52, 1), w0), ((52, 3), w1)] [((52, 1), some 0), ((52, 3), some 1)] rfl
theorem hA0_if_safe (F : Nat → Nat → Int32) (w0 w1 : Nat → Int32) : (zua (zua F 53 w0) 54 w1) = (zua (zua F 53 w0) 54 w1) := zuak_ix F [(53, w0), (54, w1)] [(53, some 0), (54, some 1)] rfl
def O_if_safe (ar fi : Nat → Nat → Int32) (m1 : Nat) (m2 : Nat) (m3 : Nat) (m4 : Nat) (m5 : Nat) (t : T_if_safe) : zO2 := match t with
  | (t0, t1, t2, t3, t4) => (some (.int (t0)), ((zua (zua ar 53 t1) 54 t2), (zuf (zuf fi 52 1 t3) 52 3 t4), (m1, m2, m3, m4, m5)))
def M_if_safe_31 (X : Nat × (Nat → Int32)) (E : zTE) (ar fi : Nat → Nat → Int32) (m1 : Nat) (m2 : Nat) (m3 : Nat) (m4 : Nat) (m5 : Nat) (x : Int32) (b53 : Nat → Int32) (b54 : Nat → Int32) (c52_1 : Int32) (c52_3 : Int32) (o : zO2) (s : U_if_safe_31) : Prop := match s with
  | (l2, l3, l4) => zR2 X zFT E zc_123 31 [.ref 0, .int x, .int l2, .int l3, .int l4] [] ((zua (zua ar 53 b53) 54 b54), (zuf (zuf fi 52 1 c52_1) 52 3 c52_3), (m1, m2, m3, m4, m5)) o
set_option maxRecDepth 1000000 in
theorem t31_if_safe {X : Nat × (Nat → Int32)} {ar fi : Nat → Nat → Int32} {m1 m2 m3 m4 m5 : Nat} {x : Int32} {l2 : Int32} {l3 : Int32} {l4 : Int32} {b53 : Nat → Int32} {b54 : Nat → Int32} {c52_1 : Int32} {c52_3 : Int32} {W_if_isWithin : Int32 → Int32 → Int32 → Int32} {Q_gr_burnFrom : (Nat → Int32) → (Nat → Int32) → (Nat → Int32) → (Nat → Int32) → Option ((Nat → Int32) × (Nat → Int32) × Int32 × Int32)} : zseg X zFT (zEx 137 (P_if_isWithin W_if_isWithin) (zEx 30 (P_gr_burnFrom Q_gr_burnFrom) zE0)) zc_123 (fun p => Nat.beq p 31) 400 31 [.ref 0, .int x, .int l2, .int l3, .int l4] [] ((zua (zua ar 53 b53) 54 b54), (zuf (zuf fi 52 1 c52_1) 52 3 c52_3), (m1, m2, m3, m4, m5)) = (
  bif decide (l4 < 0) then
   bif !decide (x = 0) then
    some (.inr (some (.int l3), ((zua (zua ar 53 b53) 54 b54), (zuf (zuf fi 52 1 c52_1) 52 3 c52_3), (m1, m2, m3, m4, m5))))
   else
    some (.inr (some (.int l2), ((zua (zua ar 53 b53) 54 b54), (zuf (zuf fi 52 1 c52_1) 52 3 c52_3), (m1, m2, m3, m4, m5))))
  else
   zg (Nat.beq 16 16 && (zin l4 96)) (
   bif !decide ((ar 3) (l4.toNatClampNeg) = 1) then
    some (.inl (31, [.ref 0, .int x, .int l2, .int l3, .int (l4 + (-1))], [], ((zua (zua ar 53 b53) 54 b54), (zuf (zuf fi 52 1 c52_1) 52 3 c52_3), (m1, m2, m3, m4, m5))))
   else
    zg (Nat.beq 16 16 && (zin l4 96)) (
    bif decide (0 ≤ b53 (l4.toNatClampNeg)) then
     some (.inl (31, [.ref 0, .int x, .int l2, .int l3, .int (l4 + (-1))], [], ((zua (zua ar 53 b53) 54 b54), (zuf (zuf fi 52 1 c52_1) 52 3 c52_3), (m1, m2, m3, m4, m5))))
    else
     some (.inl (31, [.ref 0, .int x, .int (l2 + 1), .int l4, .int (l4 + (-1))], [], ((zua (zua ar 53 b53) 54 b54), (zuf (zuf fi 52 1 c52_1) 52 3 c52_3), (m1, m2, m3, m4, m5)))))) : Option ((Nat × List Value × List Value × zH2) ⊕ zO2)) := by with_unfolding_all rfl
set_option maxRecDepth 20000 in
theorem k_if_safe_31 {X : Nat × (Nat → Int32)} {ar fi : Nat → Nat → Int32} {m1 m2 m3 m4 m5 : Nat} {x : Int32} {b53 : Nat → Int32} {b54 : Nat → Int32} {c52_1 : Int32} {c52_3 : Int32} {o : zO2} : ∀ (s : U_if_safe_31) (q : U_if_safe_31 ⊕ T_if_safe), f_if_safe_31 x (ar 3) b53 b54 c52_1 c52_3 s = some q → zq (M_if_safe_31 X (zEx 137 S_if_isWithin (zEx 30 S_gr_burnFrom zE0)) ar fi m1 m2 m3 m4 m5 x b53 b54 c52_1 c52_3 o) (fun t => O_if_safe ar fi m1 m2 m3 m4 m5 t = o) q → M_if_safe_31 X (zEx 137 S_if_isWithin (zEx 30 S_gr_burnFrom zE0)) ar fi m1 m2 m3 m4 m5 x b53 b54 c52_1 c52_3 o s := by
  intro s q h hq
  obtain ⟨l2, l3, l4⟩ := s
  have h : b_if_safe_31 x (ar 3) b53 b54 c52_1 c52_3 l2 l3 l4 = some q := h
  unfold b_if_safe_31 at h
  show zR2 X zFT (zEx 137 S_if_isWithin (zEx 30 S_gr_burnFrom zE0)) zc_123 31 [.ref 0, .int x, .int l2, .int l3, .int l4] [] ((zua (zua ar 53 b53) 54 b54), (zuf (zuf fi 52 1 c52_1) 52 3 c52_3), (m1, m2, m3, m4, m5)) o
  refine zT_seg t31_if_safe ?_
  obtain ⟨TT, hTT⟩ : ∃ T, T = zT X zFT (zEx 137 S_if_isWithin (zEx 30 S_gr_burnFrom zE0)) zc_123 o := ⟨_, rfl⟩
  rw [← hTT]
  refine zb_el h (fun hb h => zU_t hTT hb ?_) (fun hb h => zU_f hTT hb ?_)
  · refine zb_el h (fun hb h => zU_t hTT hb ?_) (fun hb h => zU_f hTT hb ?_)
    · rw [hTT]
      have hz := zsi h hq
      refine (zO_mk ?_ ?_).trans hz
      · first | with_reducible rfl | exact hA0_if_safe _ _ _
      · first | with_reducible rfl | exact hF1_if_safe _ _ _
    · rw [hTT]
      have hz := zsi h hq
      refine (zO_mk ?_ ?_).trans hz
      · first | with_reducible rfl | exact hA0_if_safe _ _ _
      · first | with_reducible rfl | exact hF1_if_safe _ _ _
  · refine zg_el h (fun hg h => zU_ga hTT hg ?_)
    refine zb_el h (fun hb h => zU_t hTT hb ?_) (fun hb h => zU_f hTT hb ?_)
    · rw [hTT]
      have hz := zsi h hq
      refine zR2_hp ?_ ?_ hz
      · first | with_reducible rfl | exact hA0_if_safe _ _ _
      · first | with_reducible rfl | exact hF1_if_safe _ _ _
    · refine zg_el h (fun hg h => zU_ga hTT hg ?_)
      refine zb_el h (fun hb h => zU_t hTT hb ?_) (fun hb h => zU_f hTT hb ?_)
      · rw [hTT]
        have hz := zsi h hq
        refine zR2_hp ?_ ?_ hz
        · first | with_reducible rfl | exact hA0_if_safe _ _ _
        · first | with_reducible rfl | exact hF1_if_safe _ _ _
      · rw [hTT]
        have hz := zsi h hq
        refine zR2_hp ?_ ?_ hz
        · first | with_reducible rfl | exact hA0_if_safe _ _ _
        · first | with_reducible rfl | exact hF1_if_safe _ _ _
set_option maxRecDepth 1000000 in
theorem t_if_safe {X : Nat × (Nat → Int32)} {ar fi : Nat → Nat → Int32} {m1 m2 m3 m4 m5 : Nat} {x : Int32} {W_if_isWithin : Int32 → Int32 → Int32 → Int32} {Q_gr_burnFrom : (Nat → Int32) → (Nat → Int32) → (Nat → Int32) → (Nat → Int32) → Option ((Nat → Int32) × (Nat → Int32) × Int32 × Int32)} : zseg X zFT (zEx 137 (P_if_isWithin W_if_isWithin) (zEx 30 (P_gr_burnFrom Q_gr_burnFrom) zE0)) zc_123 (fun p => Nat.beq p 31) 400 0 [.ref 0, .int x] [] (ar, fi, (m1, m2, m3, m4, m5)) = (
  zl (W_if_isWithin x 0 1) (fun v1 =>
  bif !decide (v1 = 0) then
   zl (Q_gr_burnFrom (ar 3) (ar 4) (ar 53) (ar 54)) (fun v2 => zg v2.isSome (
   some (.inl (31, [.ref 0, .int x, .int 0, .int (-2), .int 95], [], ((zua (zua ar 53 (((zgt v2).1))) 54 (((zgt v2).2.1))), (zuf (zuf fi 52 1 (((zgt v2).2.2.1))) 52 3 (((zgt v2).2.2.2))), (m1, m2, m3, m4, m5))))))
  else
   some (.inr (some (.int (-1)), (ar, fi, (m1, m2, m3, m4, m5))))) : Option ((Nat × List Value × List Value × zH2) ⊕ zO2)) := by with_unfolding_all rfl
set_option maxRecDepth 20000 in
theorem e_if_safe {X : Nat × (Nat → Int32)} {ar fi : Nat → Nat → Int32} {m1 m2 m3 m4 m5 : Nat} {x : Int32} {o : zO2} : ∀ (q : T_if_safe), q_if_safe x (ar 3) (ar 4) (ar 53) (ar 54) (fi 52 1) (fi 52 3) = some q → (fun t => O_if_safe ar fi m1 m2 m3 m4 m5 t = o) q → zR2 X zFT (zEx 137 S_if_isWithin (zEx 30 S_gr_burnFrom zE0)) zc_123 0 [.ref 0, .int x] [] (ar, fi, (m1, m2, m3, m4, m5)) o := by
  intro q h hq
  unfold q_if_safe at h
  refine zT_seg t_if_safe ?_
  obtain ⟨TT, hTT⟩ : ∃ T, T = zT X zFT (zEx 137 S_if_isWithin (zEx 30 S_gr_burnFrom zE0)) zc_123 o := ⟨_, rfl⟩
  rw [← hTT]
  refine zl_el h (fun h => zU_l hTT ?_)
  refine zb_el h (fun hb h => zU_t hTT hb ?_) (fun hb h => zU_f hTT hb ?_)
  · refine zbd_el h (fun v2 hv h => zU_c hTT hv ?_)
    rw [hTT]
    refine zR2_hp ?_ ?_ (zlp_K k_if_safe_31 h hq)
    · first | with_reducible rfl | exact hA0_if_safe _ _ _
    · first | with_reducible rfl | exact hF1_if_safe _ _ _
  · rw [hTT]
    have hz := zsi (P := (fun t => O_if_safe ar fi m1 m2 m3 m4 m5 t = o)) h hq
    refine (zO_mk ?_ ?_).trans hz
    · first | with_reducible rfl | exact hA2_if_safe _
    · first | with_reducible rfl | exact hF3_if_safe _
theorem ok_if_safe (X : Nat × (Nat → Int32)) : zOkS X 123 S_if_safe 4 := zOkS_new (zOkE_cons (ok_if_isWithin X) (by decide) (zOkE_cons (ok_gr_burnFrom X) (by decide) (zOkE_nil X 3))) (by
  intro args g o h
  obtain ⟨ar, fi, m1, m2, m3, m4, m5⟩ := g
  unfold S_if_safe P_if_safe at h
  split at h
  · refine zb_el h (fun hI0 k0 => ?_) (fun _ h10 => ?_)
    · try simp only [Bool.and_eq_true] at hI0
      have j0 := hI0
      have e0 := Nat.eq_of_beq_eq_true j0
      subst e0
      exact zpe_el k0 (fun t ht ho => by obtain ⟨t0, t1, t2, t3, t4⟩ := t; exact e_if_safe _ ht ho)
    · cases h10
  · cases h)
