abbrev T_if_roundFigure : Type := Int32
noncomputable def q_if_roundFigure (x : Int32) : Option T_if_roundFigure :=
  zl (w_if_isWithin x 1 999999) (fun v1 =>
  bif decide (v1 = 0) then
   some (-1)
  else
   zbd (q_cl_nearestFigure x) (fun v2 =>
   some (v2)))
def P_if_roundFigure (Q : Int32 → Option (Int32)) : zSp := fun as g => match as with
  | [.ref a, .int x] => bif Nat.beq a 0 then zpe (Q x) (fun t => (some (.int t), (g.1, g.2.1, g.2.2))) else none
  | _ => none
noncomputable abbrev S_if_roundFigure : zSp := P_if_roundFigure q_if_roundFigure
def O_if_roundFigure (ar fi : Nat → Nat → Int32) (m1 : Nat) (m2 : Nat) (m3 : Nat) (m4 : Nat) (m5 : Nat) (t : T_if_roundFigure) : zO2 := (some (.int t), (ar, fi, (m1, m2, m3, m4, m5)))
set_option maxRecDepth 1000000 in
theorem t_if_roundFigure {X : Nat × (Nat → Int32)} {ar fi : Nat → Nat → Int32} {m1 m2 m3 m4 m5 : Nat} {x : Int32} {W_if_isWithin : Int32 → Int32 → Int32 → Int32} {Q_cl_nearestFigure : Int32 → Option (Int32)} : zseg X zFT (zEx 137 (P_if_isWithin W_if_isWithin) (zEx 3 (P_cl_nearestFigure Q_cl_nearestFigure) zE0)) zc_125 (fun p => false) 400 0 [.ref 0, .int x] [] (ar, fi, (m1, m2, m3, m4, m5)) = (
  zl (W_if_isWithin x 1 999999) (fun v1 =>
  bif decide (v1 = 0) then
   some (.inr (some (.int (-1)), (ar, fi, (m1, m2, m3, m4, m5))))
  else
   zl (Q_cl_nearestFigure x) (fun v2 => zg v2.isSome (
   some (.inr (some (.int (((zgt v2)))), (ar, fi, (m1, m2, m3, m4, m5))))))) : Option ((Nat × List Value × List Value × zH2) ⊕ zO2)) := by with_unfolding_all rfl
set_option maxRecDepth 20000 in
theorem e_if_roundFigure {X : Nat × (Nat → Int32)} {ar fi : Nat → Nat → Int32} {m1 m2 m3 m4 m5 : Nat} {x : Int32} {o : zO2} : ∀ (q : T_if_roundFigure), q_if_roundFigure x = some q → (fun t => O_if_roundFigure ar fi m1 m2 m3 m4 m5 t = o) q → zR2 X zFT (zEx 137 S_if_isWithin (zEx 3 S_cl_nearestFigure zE0)) zc_125 0 [.ref 0, .int x] [] (ar, fi, (m1, m2, m3, m4, m5)) o := by
  intro q h hq
  unfold q_if_roundFigure at h
  refine zT_seg t_if_roundFigure ?_
  obtain ⟨TT, hTT⟩ : ∃ T, T = zT X zFT (zEx 137 S_if_isWithin (zEx 3 S_cl_nearestFigure zE0)) zc_125 o := ⟨_, rfl⟩
  rw [← hTT]
  refine zl_el h (fun h => zU_l hTT ?_)
  refine zb_el h (fun hb h => zU_t hTT hb ?_) (fun hb h => zU_f hTT hb ?_)
  · rw [hTT]
    have hz := zsi (P := (fun t => O_if_roundFigure ar fi m1 m2 m3 m4 m5 t = o)) h hq
    refine (zO_mk ?_ ?_).trans hz
    · first | with_reducible rfl | rfl
    · first | with_reducible rfl | rfl
  · refine zbd_el h (fun v2 hv h => zU_c hTT hv ?_)
    rw [hTT]
    have hz := zsi (P := (fun t => O_if_roundFigure ar fi m1 m2 m3 m4 m5 t = o)) h hq
    refine (zO_mk ?_ ?_).trans hz
    · first | with_reducible rfl | rfl
    · first | with_reducible rfl | rfl
theorem ok_if_roundFigure (X : Nat × (Nat → Int32)) : zOkS X 125 S_if_roundFigure 3 := zOkS_new (zOkE_cons (ok_if_isWithin X) (by decide) (zOkE_cons (ok_cl_nearestFigure X) (by decide) (zOkE_nil X 2))) (by
  intro args g o h
  obtain ⟨ar, fi, m1, m2, m3, m4, m5⟩ := g
  unfold S_if_roundFigure P_if_roundFigure at h
  split at h
  · refine zb_el h (fun hI0 k0 => ?_) (fun _ h10 => ?_)
    · try simp only [Bool.and_eq_true] at hI0
      have j0 := hI0
      have e0 := Nat.eq_of_beq_eq_true j0
      subst e0
      exact zpe_el k0 (fun t ht ho => e_if_roundFigure t ht ho)
    · cases h10
  · cases h)
