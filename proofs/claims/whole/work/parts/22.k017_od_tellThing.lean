abbrev T_od_tellThing : Type := (Nat → Int32) × Int32 × Int32
def q_od_tellThing (y : Int32) (z : Int32) (a20 : Nat → Int32) (f16_6 : Int32) (f16_7 : Int32) (f47_2 : Int32) : Option T_od_tellThing :=
  zl (w_tx_isGood (f47_2)) (fun v1 =>
  bif decide (v1 = 0) then
   some (a20, f16_6, f16_7)
  else
   zg (g_if_isNumber z) (
   zl (w_if_isNumber z) (fun v2 =>
   bif decide (v2 = 0) then
    some (a20, f16_6, f16_7)
   else
    zg (zin y 24) (
    some ((zup a20 (y.toNatClampNeg) z), (f16_6) ||| (1 <<< (y &&& 31)), (f16_7) &&& ((1 <<< (y &&& 31)) ^^^ (-1)))))))
def P_od_tellThing (Q : Int32 → Int32 → (Nat → Int32) → Int32 → Int32 → Int32 → Option ((Nat → Int32) × Int32 × Int32)) : zSp := fun as g => match as with
  | [.ref a, .ref b, .int y, .int z] => bif Nat.beq a 46 && Nat.beq b 16 && Nat.beq g.2.2.2.2.2.2 1 then zpe (Q y z (g.1 20) (g.2.1 16 6) (g.2.1 16 7) (g.2.1 47 2)) (fun t => (none, ((zua g.1 20 t.1), (zuf (zuf g.2.1 16 6 t.2.1) 16 7 t.2.2), g.2.2))) else none
  | _ => none
noncomputable abbrev S_od_tellThing : zSp := P_od_tellThing q_od_tellThing
theorem hF3_od_tellThing (F : Nat → Nat → Int32) (w0 w1 : Int32) : (zuf (zuf F 16 6 w0) 16 7 w1) = (zuf (zuf F 16 6 w0) 16 7 w1) := zufk_ix F [((16, 6), w0), ((16, 7), w1)] [((16, 6), some 0), ((16, 7), some 1)] rfl
theorem hA2_od_tellThing (F : Nat → Nat → Int32) (w0 : Nat → Int32) : (zua F 20 w0) = (zua F 20 w0) := zuak_ix F [(20, w0)] [(20, some 0)] rfl
theorem hF1_od_tellThing (F : Nat → Nat → Int32) : F = (zuf (zuf F 16 6 (F 16 6)) 16 7 (F 16 7)) := zufk_ix F [] [((16, 6), none), ((16, 7), none)] rfl
theorem hA0_od_tellThing (F : Nat → Nat → Int32) : F = (zua F 20 (F 20)) := zuak_ix F [] [(20, none)] rfl
def O_od_tellThing (ar fi : Nat → Nat → Int32) (m1 : Nat) (m2 : Nat) (m3 : Nat) (m4 : Nat) (t : T_od_tellThing) : zO2 := match t with
  | (t0, t1, t2) => (none, ((zua ar 20 t0), (zuf (zuf fi 16 6 t1) 16 7 t2), (m1, m2, m3, m4, 1)))
set_option maxRecDepth 1000000 in
theorem t_od_tellThing {X : Nat × (Nat → Int32)} {ar fi : Nat → Nat → Int32} {m1 m2 m3 m4 : Nat} {y z : Int32} {W_tx_isGood : Int32 → Int32} {G_if_isNumber : Int32 → Bool} {W_if_isNumber : Int32 → Int32} : zseg X zFT (zEx 91 (P_tx_isGood W_tx_isGood) (zEx 138 (P_if_isNumber G_if_isNumber W_if_isNumber) zE0)) zc_62 (fun p => false) 400 0 [.ref 46, .ref 16, .int y, .int z] [] (ar, fi, (m1, m2, m3, m4, 1)) = (
  zl (W_tx_isGood (fi 47 2)) (fun v1 =>
  bif decide (v1 = 0) then
   some (.inr (none, (ar, fi, (m1, m2, m3, m4, 1))))
  else
   zg (G_if_isNumber z) (
   zl (W_if_isNumber z) (fun v2 =>
   bif decide (v2 = 0) then
    some (.inr (none, (ar, fi, (m1, m2, m3, m4, 1))))
   else
    zg (Nat.beq 16 16 && (zin y 24)) (
    some (.inr (none, ((zua ar 20 (zup (ar 20) (y.toNatClampNeg) z)), (zuf (zuf fi 16 6 ((fi 16 6) ||| (1 <<< (y &&& 31)))) 16 7 ((fi 16 7) &&& ((1 <<< (y &&& 31)) ^^^ (-1)))), (m1, m2, m3, m4, 1)))))))) : Option ((Nat × List Value × List Value × zH2) ⊕ zO2)) := by with_unfolding_all rfl
set_option maxRecDepth 20000 in
theorem e_od_tellThing {X : Nat × (Nat → Int32)} {ar fi : Nat → Nat → Int32} {m1 m2 m3 m4 : Nat} {y z : Int32} {o : zO2} : ∀ (q : T_od_tellThing), q_od_tellThing y z (ar 20) (fi 16 6) (fi 16 7) (fi 47 2) = some q → (fun t => O_od_tellThing ar fi m1 m2 m3 m4 t = o) q → zR2 X zFT (zEx 91 S_tx_isGood (zEx 138 S_if_isNumber zE0)) zc_62 0 [.ref 46, .ref 16, .int y, .int z] [] (ar, fi, (m1, m2, m3, m4, 1)) o := by
  intro q h hq
  unfold q_od_tellThing at h
  refine zT_seg t_od_tellThing ?_
  obtain ⟨TT, hTT⟩ : ∃ T, T = zT X zFT (zEx 91 S_tx_isGood (zEx 138 S_if_isNumber zE0)) zc_62 o := ⟨_, rfl⟩
  rw [← hTT]
  refine zl_el h (fun h => zU_l hTT ?_)
  refine zb_el h (fun hb h => zU_t hTT hb ?_) (fun hb h => zU_f hTT hb ?_)
  · rw [hTT]
    have hz := zsi (P := (fun t => O_od_tellThing ar fi m1 m2 m3 m4 t = o)) h hq
    refine (zO_mk ?_ ?_).trans hz
    · first | with_reducible rfl | exact hA0_od_tellThing _
    · first | with_reducible rfl | exact hF1_od_tellThing _
  · refine zg_el h (fun hg h => zU_g hTT hg ?_)
    refine zl_el h (fun h => zU_l hTT ?_)
    refine zb_el h (fun hb h => zU_t hTT hb ?_) (fun hb h => zU_f hTT hb ?_)
    · rw [hTT]
      have hz := zsi (P := (fun t => O_od_tellThing ar fi m1 m2 m3 m4 t = o)) h hq
      refine (zO_mk ?_ ?_).trans hz
      · first | with_reducible rfl | exact hA0_od_tellThing _
      · first | with_reducible rfl | exact hF1_od_tellThing _
    · refine zg_el h (fun hg h => zU_ga hTT hg ?_)
      rw [hTT]
      have hz := zsi (P := (fun t => O_od_tellThing ar fi m1 m2 m3 m4 t = o)) h hq
      refine (zO_mk ?_ ?_).trans hz
      · first | with_reducible rfl | exact hA2_od_tellThing _ _
      · first | with_reducible rfl | exact hF3_od_tellThing _ _ _
theorem ok_od_tellThing (X : Nat × (Nat → Int32)) : zOkS X 62 S_od_tellThing 3 := zOkS_new (zOkE_cons (ok_tx_isGood X) (by decide) (zOkE_cons (ok_if_isNumber X) (by decide) (zOkE_nil X 2))) (by
  intro args g o h
  obtain ⟨ar, fi, m1, m2, m3, m4, m5⟩ := g
  unfold S_od_tellThing P_od_tellThing at h
  split at h
  · refine zb_el h (fun hI0 k0 => ?_) (fun _ h10 => ?_)
    · try simp only [Bool.and_eq_true] at hI0
      obtain ⟨⟨j0, j1⟩, j2⟩ := hI0
      have e0 := Nat.eq_of_beq_eq_true j0
      subst e0
      have e1 := Nat.eq_of_beq_eq_true j1
      subst e1
      have e9 : m5 = 1 := Nat.eq_of_beq_eq_true j2
      subst e9
      exact zpe_el k0 (fun t ht ho => by obtain ⟨t0, t1, t2⟩ := t; exact e_od_tellThing _ ht ho)
    · cases h10
  · cases h)
