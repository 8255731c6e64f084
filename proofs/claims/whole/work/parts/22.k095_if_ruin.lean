abbrev T_if_ruin : Type := Int32 × Int32
noncomputable def q_if_ruin (x : Int32) (y : Int32) (z : Int32) (a1 : Nat → Int32) (f0_1 : Int32) : Option T_if_ruin :=
  zl (w_if_isWithin x 2 6) (fun v1 =>
  bif decide (v1 = 0) then
   some ((-1), f0_1)
  else
   zl (w_if_isWithin y 0 (x - 1)) (fun v2 =>
   bif decide (v2 = 0) then
    some ((-1), f0_1)
   else
    zl (w_if_isWithin z 0 1) (fun v3 =>
    bif decide (v3 = 0) then
     some ((-1), f0_1)
    else
     bif decide (x * x ≤ f0_1) then
      zbd (q_cl_ruinedBy x y a1) (fun v4 =>
      bif !decide (z = 0) then
       some (v4, 0)
      else
       zl (w_in_bitCount (v4)) (fun v5 =>
       some (v5, 0)))
     else
      some ((-1), f0_1))))
def P_if_ruin (Q : Int32 → Int32 → Int32 → (Nat → Int32) → Int32 → Option (Int32 × Int32)) : zSp := fun as g => match as with
  | [.ref a, .int x, .int y, .int z] => bif Nat.beq a 0 then zpe (Q x y z (g.1 1) (g.2.1 0 1)) (fun t => (some (.int (t.1)), (g.1, (zuf g.2.1 0 1 t.2), g.2.2))) else none
  | _ => none
noncomputable abbrev S_if_ruin : zSp := P_if_ruin q_if_ruin
theorem hF1_if_ruin (F : Nat → Nat → Int32) (w0 : Int32) : (zuf F 0 1 w0) = (zuf F 0 1 w0) := zufk_ix F [((0, 1), w0)] [((0, 1), some 0)] rfl
theorem hF0_if_ruin (F : Nat → Nat → Int32) : F = (zuf F 0 1 (F 0 1)) := zufk_ix F [] [((0, 1), none)] rfl
def O_if_ruin (ar fi : Nat → Nat → Int32) (m1 : Nat) (m2 : Nat) (m3 : Nat) (m4 : Nat) (m5 : Nat) (t : T_if_ruin) : zO2 := match t with
  | (t0, t1) => (some (.int (t0)), (ar, (zuf fi 0 1 t1), (m1, m2, m3, m4, m5)))
set_option maxRecDepth 1000000 in
theorem t_if_ruin {X : Nat × (Nat → Int32)} {ar fi : Nat → Nat → Int32} {m1 m2 m3 m4 m5 : Nat} {x y z : Int32} {W_if_isWithin : Int32 → Int32 → Int32 → Int32} {Q_cl_ruinedBy : Int32 → Int32 → (Nat → Int32) → Option (Int32)} {W_in_bitCount : Int32 → Int32} : zseg X zFT (zEx 137 (P_if_isWithin W_if_isWithin) (zEx 5 (P_cl_ruinedBy Q_cl_ruinedBy) (zEx 250 (P_in_bitCount W_in_bitCount) zE0))) zc_126 (fun p => false) 400 0 [.ref 0, .int x, .int y, .int z] [] (ar, fi, (m1, m2, m3, m4, m5)) = (
  zl (W_if_isWithin x 2 6) (fun v1 =>
  bif decide (v1 = 0) then
   some (.inr (some (.int (-1)), (ar, fi, (m1, m2, m3, m4, m5))))
  else
   zl (W_if_isWithin y 0 (x - 1)) (fun v2 =>
   bif decide (v2 = 0) then
    some (.inr (some (.int (-1)), (ar, fi, (m1, m2, m3, m4, m5))))
   else
    zl (W_if_isWithin z 0 1) (fun v3 =>
    bif decide (v3 = 0) then
     some (.inr (some (.int (-1)), (ar, fi, (m1, m2, m3, m4, m5))))
    else
     bif decide (x * x ≤ fi 0 1) then
      zl (Q_cl_ruinedBy x y (ar 1)) (fun v4 => zg v4.isSome (
      bif !decide (z = 0) then
       some (.inr (some (.int (((zgt v4)))), (ar, (zuf fi 0 1 0), (m1, m2, m3, m4, m5))))
      else
       zl (W_in_bitCount (((zgt v4)))) (fun v5 =>
       some (.inr (some (.int v5), (ar, (zuf fi 0 1 0), (m1, m2, m3, m4, m5)))))))
     else
      some (.inr (some (.int (-1)), (ar, fi, (m1, m2, m3, m4, m5))))))) : Option ((Nat × List Value × List Value × zH2) ⊕ zO2)) := by with_unfolding_all rfl
set_option maxRecDepth 20000 in
theorem e_if_ruin {X : Nat × (Nat → Int32)} {ar fi : Nat → Nat → Int32} {m1 m2 m3 m4 m5 : Nat} {x y z : Int32} {o : zO2} : ∀ (q : T_if_ruin), q_if_ruin x y z (ar 1) (fi 0 1) = some q → (fun t => O_if_ruin ar fi m1 m2 m3 m4 m5 t = o) q → zR2 X zFT (zEx 137 S_if_isWithin (zEx 5 S_cl_ruinedBy (zEx 250 S_in_bitCount zE0))) zc_126 0 [.ref 0, .int x, .int y, .int z] [] (ar, fi, (m1, m2, m3, m4, m5)) o := by
  intro q h hq
  unfold q_if_ruin at h
  refine zT_seg t_if_ruin ?_
  obtain ⟨TT, hTT⟩ : ∃ T, T = zT X zFT (zEx 137 S_if_isWithin (zEx 5 S_cl_ruinedBy (zEx 250 S_in_bitCount zE0))) zc_126 o := ⟨_, rfl⟩
  rw [← hTT]
  refine zl_el h (fun h => zU_l hTT ?_)
  refine zb_el h (fun hb h => zU_t hTT hb ?_) (fun hb h => zU_f hTT hb ?_)
  · rw [hTT]
    have hz := zsi (P := (fun t => O_if_ruin ar fi m1 m2 m3 m4 m5 t = o)) h hq
    refine (zO_mk ?_ ?_).trans hz
    · first | with_reducible rfl | rfl
    · first | with_reducible rfl | exact hF0_if_ruin _
  · refine zl_el h (fun h => zU_l hTT ?_)
    refine zb_el h (fun hb h => zU_t hTT hb ?_) (fun hb h => zU_f hTT hb ?_)
    · rw [hTT]
      have hz := zsi (P := (fun t => O_if_ruin ar fi m1 m2 m3 m4 m5 t = o)) h hq
      refine (zO_mk ?_ ?_).trans hz
      · first | with_reducible rfl | rfl
      · first | with_reducible rfl | exact hF0_if_ruin _
    · refine zl_el h (fun h => zU_l hTT ?_)
      refine zb_el h (fun hb h => zU_t hTT hb ?_) (fun hb h => zU_f hTT hb ?_)
      · rw [hTT]
        have hz := zsi (P := (fun t => O_if_ruin ar fi m1 m2 m3 m4 m5 t = o)) h hq
        refine (zO_mk ?_ ?_).trans hz
        · first | with_reducible rfl | rfl
        · first | with_reducible rfl | exact hF0_if_ruin _
      · refine zb_el h (fun hb h => zU_t hTT hb ?_) (fun hb h => zU_f hTT hb ?_)
        · refine zbd_el h (fun v4 hv h => zU_c hTT hv ?_)
          refine zb_el h (fun hb h => zU_t hTT hb ?_) (fun hb h => zU_f hTT hb ?_)
          · rw [hTT]
            have hz := zsi (P := (fun t => O_if_ruin ar fi m1 m2 m3 m4 m5 t = o)) h hq
            refine (zO_mk ?_ ?_).trans hz
            · first | with_reducible rfl | rfl
            · first | with_reducible rfl | exact hF1_if_ruin _ _
          · refine zl_el h (fun h => zU_l hTT ?_)
            rw [hTT]
            have hz := zsi (P := (fun t => O_if_ruin ar fi m1 m2 m3 m4 m5 t = o)) h hq
            refine (zO_mk ?_ ?_).trans hz
            · first | with_reducible rfl | rfl
            · first | with_reducible rfl | exact hF1_if_ruin _ _
        · rw [hTT]
          have hz := zsi (P := (fun t => O_if_ruin ar fi m1 m2 m3 m4 m5 t = o)) h hq
          refine (zO_mk ?_ ?_).trans hz
          · first | with_reducible rfl | rfl
          · first | with_reducible rfl | exact hF0_if_ruin _
theorem ok_if_ruin (X : Nat × (Nat → Int32)) : zOkS X 126 S_if_ruin 3 := zOkS_new (zOkE_cons (ok_if_isWithin X) (by decide) (zOkE_cons (ok_cl_ruinedBy X) (by decide) (zOkE_cons (ok_in_bitCount X) (by decide) (zOkE_nil X 2)))) (by
  intro args g o h
  obtain ⟨ar, fi, m1, m2, m3, m4, m5⟩ := g
  unfold S_if_ruin P_if_ruin at h
  split at h
  · refine zb_el h (fun hI0 k0 => ?_) (fun _ h10 => ?_)
    · try simp only [Bool.and_eq_true] at hI0
      have j0 := hI0
      have e0 := Nat.eq_of_beq_eq_true j0
      subst e0
      exact zpe_el k0 (fun t ht ho => by obtain ⟨t0, t1⟩ := t; exact e_if_ruin _ ht ho)
    · cases h10
  · cases h)
