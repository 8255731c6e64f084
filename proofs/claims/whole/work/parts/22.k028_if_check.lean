abbrev T_if_check : Type := Int32 × Int32
abbrev U_if_check_21 : Type := Int32
def b_if_check_21 (x : Int32) (a1 : Nat → Int32) (a7 : Nat → Int32) (f2_7 : Int32) (c0_1 : Int32) (l2 : Int32) : Option (U_if_check_21 ⊕ T_if_check) :=
  bif decide (x ≤ l2) then
   some (.inr ((-1), c0_1))
  else
   zg (zin l2 260) (
   zg (g_sc_lowValueOf l2 (f2_7) a7) (
   zl (w_sc_lowValueOf l2 (f2_7) a7) (fun v2 =>
   bif decide (a1 (l2.toNatClampNeg) = v2) then
    some (.inl (l2 + 1))
   else
    some (.inr (l2, c0_1)))))
def f_if_check_21 (x : Int32) (a1 : Nat → Int32) (a7 : Nat → Int32) (f2_7 : Int32) (c0_1 : Int32) : U_if_check_21 → Option (U_if_check_21 ⊕ T_if_check) := fun s => b_if_check_21 x a1 a7 f2_7 c0_1 s
noncomputable def l_if_check_21 (x : Int32) (a1 : Nat → Int32) (a7 : Nat → Int32) (f2_7 : Int32) (c0_1 : Int32) (l2 : Int32) : Option T_if_check := zlp (f_if_check_21 x a1 a7 f2_7 c0_1) l2
noncomputable def q_if_check (x : Int32) (a1 : Nat → Int32) (a7 : Nat → Int32) (f0_1 : Int32) (f2_7 : Int32) : Option T_if_check :=
  zl (w_if_canTake x 0 24 (f0_1)) (fun v1 =>
  bif !decide (v1 = 0) then
   l_if_check_21 x a1 a7 f2_7 0 0
  else
   some ((-2), f0_1))
def P_if_check (Q : Int32 → (Nat → Int32) → (Nat → Int32) → Int32 → Int32 → Option (Int32 × Int32)) : zSp := fun as g => match as with
  | [.ref a, .int x] => bif Nat.beq a 0 then zpe (Q x (g.1 1) (g.1 7) (g.2.1 0 1) (g.2.1 2 7)) (fun t => (some (.int (t.1)), (g.1, (zuf g.2.1 0 1 t.2), g.2.2))) else none
  | _ => none
noncomputable abbrev S_if_check : zSp := P_if_check q_if_check
theorem hF1_if_check (F : Nat → Nat → Int32) : F = (zuf F 0 1 (F 0 1)) := zufk_ix F [] [((0, 1), none)] rfl
theorem hF0_if_check (F : Nat → Nat → Int32) (w0 : Int32) : (zuf F 0 1 w0) = (zuf F 0 1 w0) := zufk_ix F [((0, 1), w0)] [((0, 1), some 0)] rfl
def O_if_check (ar fi : Nat → Nat → Int32) (m1 : Nat) (m2 : Nat) (m3 : Nat) (m4 : Nat) (m5 : Nat) (t : T_if_check) : zO2 := match t with
  | (t0, t1) => (some (.int (t0)), (ar, (zuf fi 0 1 t1), (m1, m2, m3, m4, m5)))
def M_if_check_21 (X : Nat × (Nat → Int32)) (E : zTE) (ar fi : Nat → Nat → Int32) (m1 : Nat) (m2 : Nat) (m3 : Nat) (m4 : Nat) (m5 : Nat) (x : Int32) (c0_1 : Int32) (o : zO2) (s : U_if_check_21) : Prop := zR2 X zFT E zc_133 21 [.ref 0, .int x, .int s] [] (ar, (zuf fi 0 1 c0_1), (m1, m2, m3, m4, m5)) o
set_option maxRecDepth 1000000 in
theorem t21_if_check {X : Nat × (Nat → Int32)} {ar fi : Nat → Nat → Int32} {m1 m2 m3 m4 m5 : Nat} {x : Int32} {l2 : Int32} {c0_1 : Int32} {W_if_canTake : Int32 → Int32 → Int32 → Int32 → Int32} {G_sc_lowValueOf : Int32 → Int32 → (Nat → Int32) → Bool} {W_sc_lowValueOf : Int32 → Int32 → (Nat → Int32) → Int32} : zseg X zFT (zEx 136 (P_if_canTake W_if_canTake) (zEx 88 (P_sc_lowValueOf G_sc_lowValueOf W_sc_lowValueOf) zE0)) zc_133 (fun p => Nat.beq p 21) 400 21 [.ref 0, .int x, .int l2] [] (ar, (zuf fi 0 1 c0_1), (m1, m2, m3, m4, m5)) = (
  bif decide (x ≤ l2) then
   some (.inr (some (.int (-1)), (ar, (zuf fi 0 1 c0_1), (m1, m2, m3, m4, m5))))
  else
   zg (Nat.beq 16 16 && (zin l2 260)) (
   zg (G_sc_lowValueOf l2 (fi 2 7) (ar 7)) (
   zl (W_sc_lowValueOf l2 (fi 2 7) (ar 7)) (fun v2 =>
   bif decide ((ar 1) (l2.toNatClampNeg) = v2) then
    some (.inl (21, [.ref 0, .int x, .int (l2 + 1)], [], (ar, (zuf fi 0 1 c0_1), (m1, m2, m3, m4, m5))))
   else
    some (.inr (some (.int l2), (ar, (zuf fi 0 1 c0_1), (m1, m2, m3, m4, m5))))))) : Option ((Nat × List Value × List Value × zH2) ⊕ zO2)) := by with_unfolding_all rfl
set_option maxRecDepth 20000 in
theorem k_if_check_21 {X : Nat × (Nat → Int32)} {ar fi : Nat → Nat → Int32} {m1 m2 m3 m4 m5 : Nat} {x : Int32} {c0_1 : Int32} {o : zO2} : ∀ (s : U_if_check_21) (q : U_if_check_21 ⊕ T_if_check), f_if_check_21 x (ar 1) (ar 7) (fi 2 7) c0_1 s = some q → zq (M_if_check_21 X (zEx 136 S_if_canTake (zEx 88 S_sc_lowValueOf zE0)) ar fi m1 m2 m3 m4 m5 x c0_1 o) (fun t => O_if_check ar fi m1 m2 m3 m4 m5 t = o) q → M_if_check_21 X (zEx 136 S_if_canTake (zEx 88 S_sc_lowValueOf zE0)) ar fi m1 m2 m3 m4 m5 x c0_1 o s := by
  intro l2 q h hq
  have h : b_if_check_21 x (ar 1) (ar 7) (fi 2 7) c0_1 l2 = some q := h
  unfold b_if_check_21 at h
  show zR2 X zFT (zEx 136 S_if_canTake (zEx 88 S_sc_lowValueOf zE0)) zc_133 21 [.ref 0, .int x, .int l2] [] (ar, (zuf fi 0 1 c0_1), (m1, m2, m3, m4, m5)) o
  refine zT_seg t21_if_check ?_
  obtain ⟨TT, hTT⟩ : ∃ T, T = zT X zFT (zEx 136 S_if_canTake (zEx 88 S_sc_lowValueOf zE0)) zc_133 o := ⟨_, rfl⟩
  rw [← hTT]
  refine zb_el h (fun hb h => zU_t hTT hb ?_) (fun hb h => zU_f hTT hb ?_)
  · rw [hTT]
    have hz := zsi h hq
    refine (zO_mk ?_ ?_).trans hz
    · first | with_reducible rfl | rfl
    · first | with_reducible rfl | exact hF0_if_check _ _
  · refine zg_el h (fun hg h => zU_ga hTT hg ?_)
    refine zg_el h (fun hg h => zU_g hTT hg ?_)
    refine zl_el h (fun h => zU_l hTT ?_)
    refine zb_el h (fun hb h => zU_t hTT hb ?_) (fun hb h => zU_f hTT hb ?_)
    · rw [hTT]
      have hz := zsi h hq
      refine zR2_hp ?_ ?_ hz
      · first | with_reducible rfl | rfl
      · first | with_reducible rfl | exact hF0_if_check _ _
    · rw [hTT]
      have hz := zsi h hq
      refine (zO_mk ?_ ?_).trans hz
      · first | with_reducible rfl | rfl
      · first | with_reducible rfl | exact hF0_if_check _ _
set_option maxRecDepth 1000000 in
theorem t_if_check {X : Nat × (Nat → Int32)} {ar fi : Nat → Nat → Int32} {m1 m2 m3 m4 m5 : Nat} {x : Int32} {W_if_canTake : Int32 → Int32 → Int32 → Int32 → Int32} {G_sc_lowValueOf : Int32 → Int32 → (Nat → Int32) → Bool} {W_sc_lowValueOf : Int32 → Int32 → (Nat → Int32) → Int32} : zseg X zFT (zEx 136 (P_if_canTake W_if_canTake) (zEx 88 (P_sc_lowValueOf G_sc_lowValueOf W_sc_lowValueOf) zE0)) zc_133 (fun p => Nat.beq p 21) 400 0 [.ref 0, .int x] [] (ar, fi, (m1, m2, m3, m4, m5)) = (
  zl (W_if_canTake x 0 24 (fi 0 1)) (fun v1 =>
  bif !decide (v1 = 0) then
   some (.inl (21, [.ref 0, .int x, .int 0], [], (ar, (zuf fi 0 1 0), (m1, m2, m3, m4, m5))))
  else
   some (.inr (some (.int (-2)), (ar, fi, (m1, m2, m3, m4, m5))))) : Option ((Nat × List Value × List Value × zH2) ⊕ zO2)) := by with_unfolding_all rfl
set_option maxRecDepth 20000 in
theorem e_if_check {X : Nat × (Nat → Int32)} {ar fi : Nat → Nat → Int32} {m1 m2 m3 m4 m5 : Nat} {x : Int32} {o : zO2} : ∀ (q : T_if_check), q_if_check x (ar 1) (ar 7) (fi 0 1) (fi 2 7) = some q → (fun t => O_if_check ar fi m1 m2 m3 m4 m5 t = o) q → zR2 X zFT (zEx 136 S_if_canTake (zEx 88 S_sc_lowValueOf zE0)) zc_133 0 [.ref 0, .int x] [] (ar, fi, (m1, m2, m3, m4, m5)) o := by
  intro q h hq
  unfold q_if_check at h
  refine zT_seg t_if_check ?_
  obtain ⟨TT, hTT⟩ : ∃ T, T = zT X zFT (zEx 136 S_if_canTake (zEx 88 S_sc_lowValueOf zE0)) zc_133 o := ⟨_, rfl⟩
  rw [← hTT]
  refine zl_el h (fun h => zU_l hTT ?_)
  refine zb_el h (fun hb h => zU_t hTT hb ?_) (fun hb h => zU_f hTT hb ?_)
  · rw [hTT]
    refine zR2_hp ?_ ?_ (zlp_K k_if_check_21 h hq)
    · first | with_reducible rfl | rfl
    · first | with_reducible rfl | exact hF0_if_check _ _
  · rw [hTT]
    have hz := zsi (P := (fun t => O_if_check ar fi m1 m2 m3 m4 m5 t = o)) h hq
    refine (zO_mk ?_ ?_).trans hz
    · first | with_reducible rfl | rfl
    · first | with_reducible rfl | exact hF1_if_check _
theorem ok_if_check (X : Nat × (Nat → Int32)) : zOkS X 133 S_if_check 3 := zOkS_new (zOkE_cons (ok_if_canTake X) (by decide) (zOkE_cons (ok_sc_lowValueOf X) (by decide) (zOkE_nil X 2))) (by
  intro args g o h
  obtain ⟨ar, fi, m1, m2, m3, m4, m5⟩ := g
  unfold S_if_check P_if_check at h
  split at h
  · refine zb_el h (fun hI0 k0 => ?_) (fun _ h10 => ?_)
    · try simp only [Bool.and_eq_true] at hI0
      have j0 := hI0
      have e0 := Nat.eq_of_beq_eq_true j0
      subst e0
      exact zpe_el k0 (fun t ht ho => by obtain ⟨t0, t1⟩ := t; exact e_if_check _ ht ho)
    · cases h10
  · cases h)
