abbrev T_if_carried : Type := Int32 × (Nat → Int32) × Int32
noncomputable def q_if_carried (x : Int32) (a1 : Nat → Int32) (a63 : Nat → Int32) (f0_1 : Int32) : Option T_if_carried :=
  zl (w_if_isWithin x 1 10) (fun v1 =>
  bif decide (v1 = 0) then
   some ((-1), a63, f0_1)
  else
   bif decide (3 * x ≤ f0_1) then
    zbd (q_cl_mostCarried x a1 a63) (fun v2 =>
    some ((v2.1), ((v2.2)), 0))
   else
    some ((-1), a63, f0_1))
def P_if_carried (Q : Int32 → (Nat → Int32) → (Nat → Int32) → Int32 → Option (Int32 × (Nat → Int32) × Int32)) : zSp := fun as g => match as with
  | [.ref a, .int x] => bif Nat.beq a 0 then zpe (Q x (g.1 1) (g.1 63) (g.2.1 0 1)) (fun t => (some (.int (t.1)), ((zua g.1 63 t.2.1), (zuf g.2.1 0 1 t.2.2), g.2.2))) else none
  | _ => none
noncomputable abbrev S_if_carried : zSp := P_if_carried q_if_carried
theorem hF3_if_carried (F : Nat → Nat → Int32) (w0 : Int32) : (zuf F 0 1 w0) = (zuf F 0 1 w0) := zufk_ix F [((0, 1), w0)] [((0, 1), some 0)] rfl
theorem hA2_if_carried (F : Nat → Nat → Int32) (w0 : Nat → Int32) : (zua F 63 w0) = (zua F 63 w0) := zuak_ix F [(63, w0)] [(63, some 0)] rfl
theorem hF1_if_carried (F : Nat → Nat → Int32) : F = (zuf F 0 1 (F 0 1)) := zufk_ix F [] [((0, 1), none)] rfl
theorem hA0_if_carried (F : Nat → Nat → Int32) : F = (zua F 63 (F 63)) := zuak_ix F [] [(63, none)] rfl
def O_if_carried (ar fi : Nat → Nat → Int32) (m1 : Nat) (m2 : Nat) (m3 : Nat) (m4 : Nat) (m5 : Nat) (t : T_if_carried) : zO2 := match t with
  | (t0, t1, t2) => (some (.int (t0)), ((zua ar 63 t1), (zuf fi 0 1 t2), (m1, m2, m3, m4, m5)))
set_option maxRecDepth 1000000 in
theorem t_if_carried {X : Nat × (Nat → Int32)} {ar fi : Nat → Nat → Int32} {m1 m2 m3 m4 m5 : Nat} {x : Int32} {W_if_isWithin : Int32 → Int32 → Int32 → Int32} {Q_cl_mostCarried : Int32 → (Nat → Int32) → (Nat → Int32) → Option (Int32 × (Nat → Int32))} : zseg X zFT (zEx 137 (P_if_isWithin W_if_isWithin) (zEx 7 (P_cl_mostCarried Q_cl_mostCarried) zE0)) zc_127 (fun p => false) 400 0 [.ref 0, .int x] [] (ar, fi, (m1, m2, m3, m4, m5)) = (
  zl (W_if_isWithin x 1 10) (fun v1 =>
  bif decide (v1 = 0) then
   some (.inr (some (.int (-1)), (ar, fi, (m1, m2, m3, m4, m5))))
  else
   bif decide (3 * x ≤ fi 0 1) then
    zl (Q_cl_mostCarried x (ar 1) (ar 63)) (fun v2 => zg v2.isSome (
    some (.inr (some (.int (((zgt v2).1))), ((zua ar 63 (((zgt v2).2))), (zuf fi 0 1 0), (m1, m2, m3, m4, m5))))))
   else
    some (.inr (some (.int (-1)), (ar, fi, (m1, m2, m3, m4, m5))))) : Option ((Nat × List Value × List Value × zH2) ⊕ zO2)) := by with_unfolding_all rfl
set_option maxRecDepth 20000 in
theorem e_if_carried {X : Nat × (Nat → Int32)} {ar fi : Nat → Nat → Int32} {m1 m2 m3 m4 m5 : Nat} {x : Int32} {o : zO2} : ∀ (q : T_if_carried), q_if_carried x (ar 1) (ar 63) (fi 0 1) = some q → (fun t => O_if_carried ar fi m1 m2 m3 m4 m5 t = o) q → zR2 X zFT (zEx 137 S_if_isWithin (zEx 7 S_cl_mostCarried zE0)) zc_127 0 [.ref 0, .int x] [] (ar, fi, (m1, m2, m3, m4, m5)) o := by
  intro q h hq
  unfold q_if_carried at h
  refine zT_seg t_if_carried ?_
  obtain ⟨TT, hTT⟩ : ∃ T, T = zT X zFT (zEx 137 S_if_isWithin (zEx 7 S_cl_mostCarried zE0)) zc_127 o := ⟨_, rfl⟩
  rw [← hTT]
  refine zl_el h (fun h => zU_l hTT ?_)
  refine zb_el h (fun hb h => zU_t hTT hb ?_) (fun hb h => zU_f hTT hb ?_)
  · rw [hTT]
    have hz := zsi (P := (fun t => O_if_carried ar fi m1 m2 m3 m4 m5 t = o)) h hq
    refine (zO_mk ?_ ?_).trans hz
    · first | with_reducible rfl | exact hA0_if_carried _
    · first | with_reducible rfl | exact hF1_if_carried _
  · refine zb_el h (fun hb h => zU_t hTT hb ?_) (fun hb h => zU_f hTT hb ?_)
    · refine zbd_el h (fun v2 hv h => zU_c hTT hv ?_)
      rw [hTT]
      have hz := zsi (P := (fun t => O_if_carried ar fi m1 m2 m3 m4 m5 t = o)) h hq
      refine (zO_mk ?_ ?_).trans hz
      · first | with_reducible rfl | exact hA2_if_carried _ _
      · first | with_reducible rfl | exact hF3_if_carried _ _
    · rw [hTT]
      have hz := zsi (P := (fun t => O_if_carried ar fi m1 m2 m3 m4 m5 t = o)) h hq
      refine (zO_mk ?_ ?_).trans hz
      · first | with_reducible rfl | exact hA0_if_carried _
      · first | with_reducible rfl | exact hF1_if_carried _
theorem ok_if_carried (X : Nat × (Nat → Int32)) : zOkS X 127 S_if_carried 3 := zOkS_new (zOkE_cons (ok_if_isWithin X) (by decide) (zOkE_cons (ok_cl_mostCarried X) (by decide) (zOkE_nil X 2))) (by
  intro args g o h
  obtain ⟨ar, fi, m1, m2, m3, m4, m5⟩ := g
  unfold S_if_carried P_if_carried at h
  split at h
  · refine zb_el h (fun hI0 k0 => ?_) (fun _ h10 => ?_)
    · try simp only [Bool.and_eq_true] at hI0
      have j0 := hI0
      have e0 := Nat.eq_of_beq_eq_true j0
      subst e0
      exact zpe_el k0 (fun t ht ho => by obtain ⟨t0, t1, t2⟩ := t; exact e_if_carried _ ht ho)
    · cases h10
  · cases h)
