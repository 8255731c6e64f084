abbrev T_if_premium : Type := Int32 × Int32
noncomputable def q_if_premium (x : Int32) (y : Int32) (a1 : Nat → Int32) (f0_1 : Int32) : Option T_if_premium :=
  zl (w_if_isWithin x 1 8) (fun v1 =>
  bif decide (v1 = 0) then
   some ((-1), f0_1)
  else
   zl (w_if_isWithin y 0 1) (fun v2 =>
   bif decide (v2 = 0) then
    some ((-1), f0_1)
   else
    bif decide (2 * x ≤ f0_1) then
     zbd (q_cl_oddsOf x y a1) (fun v3 =>
     some (v3, 0))
    else
     some ((-1), f0_1)))
def P_if_premium (Q : Int32 → Int32 → (Nat → Int32) → Int32 → Option (Int32 × Int32)) : zSp := fun as g => match as with
  | [.ref a, .int x, .int y] => bif Nat.beq a 0 then zpe (Q x y (g.1 1) (g.2.1 0 1)) (fun t => (some (.int (t.1)), (g.1, (zuf g.2.1 0 1 t.2), g.2.2))) else none
  | _ => none
noncomputable abbrev S_if_premium : zSp := P_if_premium q_if_premium
theorem hF1_if_premium (F : Nat → Nat → Int32) (w0 : Int32) : (zuf F 0 1 w0) = (zuf F 0 1 w0) := zufk_ix F [((0, 1), w0)] [((0, 1), some 0)] rfl
theorem hF0_if_premium (F : Nat → Nat → Int32) : F = (zuf F 0 1 (F 0 1)) := zufk_ix F [] [((0, 1), none)] rfl
def O_if_premium (ar fi : Nat → Nat → Int32) (m1 : Nat) (m2 : Nat) (m3 : Nat) (m4 : Nat) (m5 : Nat) (t : T_if_premium) : zO2 := match t with
  | (t0, t1) => (some (.int (t0)), (ar, (zuf fi 0 1 t1), (m1, m2, m3, m4, m5)))
set_option maxRecDepth 1000000 in
theorem t_if_premium {X : Nat × (Nat → Int32)} {ar fi : Nat → Nat → Int32} {m1 m2 m3 m4 m5 : Nat} {x y : Int32} {W_if_isWithin : Int32 → Int32 → Int32 → Int32} {Q_cl_oddsOf : Int32 → Int32 → (Nat → Int32) → Option (Int32)} : zseg X zFT (zEx 137 (P_if_isWithin W_if_isWithin) (zEx 10 (P_cl_oddsOf Q_cl_oddsOf) zE0)) zc_128 (fun p => false) 400 0 [.ref 0, .int x, .int y] [] (ar, fi, (m1, m2, m3, m4, m5)) = (
  zl (W_if_isWithin x 1 8) (fun v1 =>
  bif decide (v1 = 0) then
   some (.inr (some (.int (-1)), (ar, fi, (m1, m2, m3, m4, m5))))
  else
   zl (W_if_isWithin y 0 1) (fun v2 =>
   bif decide (v2 = 0) then
    some (.inr (some (.int (-1)), (ar, fi, (m1, m2, m3, m4, m5))))
   else
    bif decide (2 * x ≤ fi 0 1) then
     zl (Q_cl_oddsOf x y (ar 1)) (fun v3 => zg v3.isSome (
     some (.inr (some (.int (((zgt v3)))), (ar, (zuf fi 0 1 0), (m1, m2, m3, m4, m5))))))
    else
     some (.inr (some (.int (-1)), (ar, fi, (m1, m2, m3, m4, m5)))))) : Option ((Nat × List Value × List Value × zH2) ⊕ zO2)) := by with_unfolding_all rfl
set_option maxRecDepth 20000 in
theorem e_if_premium {X : Nat × (Nat → Int32)} {ar fi : Nat → Nat → Int32} {m1 m2 m3 m4 m5 : Nat} {x y : Int32} {o : zO2} : ∀ (q : T_if_premium), q_if_premium x y (ar 1) (fi 0 1) = some q → (fun t => O_if_premium ar fi m1 m2 m3 m4 m5 t = o) q → zR2 X zFT (zEx 137 S_if_isWithin (zEx 10 S_cl_oddsOf zE0)) zc_128 0 [.ref 0, .int x, .int y] [] (ar, fi, (m1, m2, m3, m4, m5)) o := by
  intro q h hq
  unfold q_if_premium at h
  refine zT_seg t_if_premium ?_
  obtain ⟨TT, hTT⟩ : ∃ T, T = zT X zFT (zEx 137 S_if_isWithin (zEx 10 S_cl_oddsOf zE0)) zc_128 o := ⟨_, rfl⟩
  rw [← hTT]
  refine zl_el h (fun h => zU_l hTT ?_)
  refine zb_el h (fun hb h => zU_t hTT hb ?_) (fun hb h => zU_f hTT hb ?_)
  · rw [hTT]
    have hz := zsi (P := (fun t => O_if_premium ar fi m1 m2 m3 m4 m5 t = o)) h hq
    refine (zO_mk ?_ ?_).trans hz
    · first | with_reducible rfl | rfl
    · first | with_reducible rfl | exact hF0_if_premium _
  · refine zl_el h (fun h => zU_l hTT ?_)
    refine zb_el h (fun hb h => zU_t hTT hb ?_) (fun hb h => zU_f hTT hb ?_)
    · rw [hTT]
      have hz := zsi (P := (fun t => O_if_premium ar fi m1 m2 m3 m4 m5 t = o)) h hq
      refine (zO_mk ?_ ?_).trans hz
      · first | with_reducible rfl | rfl
      · first | with_reducible rfl | exact hF0_if_premium _
    · refine zb_el h (fun hb h => zU_t hTT hb ?_) (fun hb h => zU_f hTT hb ?_)
      · refine zbd_el h (fun v3 hv h => zU_c hTT hv ?_)
        rw [hTT]
        have hz := zsi (P := (fun t => O_if_premium ar fi m1 m2 m3 m4 m5 t = o)) h hq
        refine (zO_mk ?_ ?_).trans hz
        · first | with_reducible rfl | rfl
        · first | with_reducible rfl | exact hF1_if_premium _ _
      · rw [hTT]
        have hz := zsi (P := (fun t => O_if_premium ar fi m1 m2 m3 m4 m5 t = o)) h hq
        refine (zO_mk ?_ ?_).trans hz
        · first | with_reducible rfl | rfl
        · first | with_reducible rfl | exact hF0_if_premium _
theorem ok_if_premium (X : Nat × (Nat → Int32)) : zOkS X 128 S_if_premium 2 := zOkS_new (zOkE_cons (ok_if_isWithin X) (by decide) (zOkE_cons (ok_cl_oddsOf X) (by decide) (zOkE_nil X 1))) (by
  intro args g o h
  obtain ⟨ar, fi, m1, m2, m3, m4, m5⟩ := g
  unfold S_if_premium P_if_premium at h
  split at h
  · refine zb_el h (fun hI0 k0 => ?_) (fun _ h10 => ?_)
    · try simp only [Bool.and_eq_true] at hI0
      have j0 := hI0
      have e0 := Nat.eq_of_beq_eq_true j0
      subst e0
      exact zpe_el k0 (fun t ht ho => by obtain ⟨t0, t1⟩ := t; exact e_if_premium _ ht ho)
    · cases h10
  · cases h)
