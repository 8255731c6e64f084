abbrev T_if_getsOut : Type := Int32 × (Nat → Int32) × (Nat → Int32) × (Nat → Int32) × (Nat → Int32) × Int32 × Int32
noncomputable def q_if_getsOut (x : Int32) (a3 : Nat → Int32) (a4 : Nat → Int32) (a53 : Nat → Int32) (a54 : Nat → Int32) (a55 : Nat → Int32) (a56 : Nat → Int32) (f52_1 : Int32) (f52_3 : Int32) : Option T_if_getsOut :=
  zg (g_if_isNumber x) (
  zl (w_if_isNumber x) (fun v1 =>
  bif !decide (v1 = 0) then
   zg (zin x 96) (
   bif decide (a3 (x.toNatClampNeg) = 3) then
    some ((-3), a53, a54, a55, a56, f52_1, f52_3)
   else
    zg (zin x 96) (
    bif !decide (a4 (x.toNatClampNeg) = 1) then
     zbd (q_gr_burnFrom a3 a4 a53 a54) (fun v2 =>
     zbd (q_gr_walkOut x a3 ((v2.1)) a55 a56) (fun v3 =>
     some ((v3.1), ((v2.1)), ((v2.2.1)), ((v3.2.1)), ((v3.2.2)), (v2.2.2.1), (v2.2.2.2))))
    else
     some ((-3), a53, a54, a55, a56, f52_1, f52_3)))
  else
   some ((-1), a53, a54, a55, a56, f52_1, f52_3)))
def P_if_getsOut (Q : Int32 → (Nat → Int32) → (Nat → Int32) → (Nat → Int32) → (Nat → Int32) → (Nat → Int32) → (Nat → Int32) → Int32 → Int32 → Option (Int32 × (Nat → Int32) × (Nat → Int32) × (Nat → Int32) × (Nat → Int32) × Int32 × Int32)) : zSp := fun as g => match as with
  | [.ref a, .int x] => bif Nat.beq a 0 then zpe (Q x (g.1 3) (g.1 4) (g.1 53) (g.1 54) (g.1 55) (g.1 56) (g.2.1 52 1) (g.2.1 52 3)) (fun t => (some (.int (t.1)), ((zua (zua (zua (zua g.1 53 t.2.1) 54 t.2.2.1) 55 t.2.2.2.1) 56 t.2.2.2.2.1), (zuf (zuf g.2.1 52 1 t.2.2.2.2.2.1) 52 3 t.2.2.2.2.2.2), g.2.2))) else none
  | _ => none
noncomputable abbrev S_if_getsOut : zSp := P_if_getsOut q_if_getsOut
theorem hF3_if_getsOut (F : Nat → Nat → Int32) (w0 w1 : Int32) : (zuf (zuf F 52 1 w0) 52 3 w1) = (zuf (zuf F 52 1 w0) 52 3 w1) := zufk_ix F [((52, 1), w0), ((52, 3), w1)] [((52, 1), some 0), ((52, 3), some 1)] rfl
theorem hA2_if_getsOut (F : Nat → Nat → Int32) (w0 w1 w2 w3 : Nat → Int32) : (zua (zua (zua (zua F 53 w0) 54 w1) 55 w2) 56 w3) = (zua (zua (zua (zua F 53 w0) 54 w1) 55 w2) 56 w3) := zuak_ix F [(53, w0), (54, w1), (55, w2), (56, w3)] [(53, some 0), (54, some 1), (55, some 2), (56, some 3)] rfl
theorem hF1_if_getsOut (F : Nat → Nat → Int32) : F = (zuf (zuf F 52 1 (F 52 1)) 52 3 (F 52 3)) := zufk_ix F [] [((52, 1), none), ((52, 3), none)] rfl
theorem hA0_if_getsOut (F : Nat → Nat → Int32) : F = (zua (zua (zua (zua F 53 (F 53)) 54 (F 54)) 55 (F 55)) 56 (F 56)) := zuak_ix F [] [(53, none), (54, none), (55, none), (56, none)] rfl
def O_if_getsOut (ar fi : Nat → Nat → Int32) (m1 : Nat) (m2 : Nat) (m3 : Nat) (m4 : Nat) (m5 : Nat) (t : T_if_getsOut) : zO2 := match t with
  | (t0, t1, t2, t3, t4, t5, t6) => (some (.int (t0)), ((zua (zua (zua (zua ar 53 t1) 54 t2) 55 t3) 56 t4), (zuf (zuf fi 52 1 t5) 52 3 t6), (m1, m2, m3, m4, m5)))
set_option maxRecDepth 1000000 in
theorem t_if_getsOut {X : Nat × (Nat → Int32)} {ar fi : Nat → Nat → Int32} {m1 m2 m3 m4 m5 : Nat} {x : Int32} {G_if_isNumber : Int32 → Bool} {W_if_isNumber : Int32 → Int32} {Q_gr_burnFrom : (Nat → Int32) → (Nat → Int32) → (Nat → Int32) → (Nat → Int32) → Option ((Nat → Int32) × (Nat → Int32) × Int32 × Int32)} {Q_gr_walkOut : Int32 → (Nat → Int32) → (Nat → Int32) → (Nat → Int32) → (Nat → Int32) → Option (Int32 × (Nat → Int32) × (Nat → Int32))} : zseg X zFT (zEx 138 (P_if_isNumber G_if_isNumber W_if_isNumber) (zEx 30 (P_gr_burnFrom Q_gr_burnFrom) (zEx 32 (P_gr_walkOut Q_gr_walkOut) zE0))) zc_122 (fun p => false) 400 0 [.ref 0, .int x] [] (ar, fi, (m1, m2, m3, m4, m5)) = (
  zg (G_if_isNumber x) (
  zl (W_if_isNumber x) (fun v1 =>
  bif !decide (v1 = 0) then
   zg (Nat.beq 16 16 && (zin x 96)) (
   bif decide ((ar 3) (x.toNatClampNeg) = 3) then
    some (.inr (some (.int (-3)), (ar, fi, (m1, m2, m3, m4, m5))))
   else
    zg (Nat.beq 16 16 && (zin x 96)) (
    bif !decide ((ar 4) (x.toNatClampNeg) = 1) then
     zl (Q_gr_burnFrom (ar 3) (ar 4) (ar 53) (ar 54)) (fun v2 => zg v2.isSome (
     zl (Q_gr_walkOut x (ar 3) (((zgt v2).1)) (ar 55) (ar 56)) (fun v3 => zg v3.isSome (
     some (.inr (some (.int (((zgt v3).1))), ((zua (zua (zua (zua ar 53 (((zgt v2).1))) 54 (((zgt v2).2.1))) 55 (((zgt v3).2.1))) 56 (((zgt v3).2.2))), (zuf (zuf fi 52 1 (((zgt v2).2.2.1))) 52 3 (((zgt v2).2.2.2))), (m1, m2, m3, m4, m5))))))))
    else
     some (.inr (some (.int (-3)), (ar, fi, (m1, m2, m3, m4, m5))))))
  else
   some (.inr (some (.int (-1)), (ar, fi, (m1, m2, m3, m4, m5)))))) : Option ((Nat × List Value × List Value × zH2) ⊕ zO2)) := by with_unfolding_all rfl
set_option maxRecDepth 20000 in
theorem e_if_getsOut {X : Nat × (Nat → Int32)} {ar fi : Nat → Nat → Int32} {m1 m2 m3 m4 m5 : Nat} {x : Int32} {o : zO2} : ∀ (q : T_if_getsOut), q_if_getsOut x (ar 3) (ar 4) (ar 53) (ar 54) (ar 55) (ar 56) (fi 52 1) (fi 52 3) = some q → (fun t => O_if_getsOut ar fi m1 m2 m3 m4 m5 t = o) q → zR2 X zFT (zEx 138 S_if_isNumber (zEx 30 S_gr_burnFrom (zEx 32 S_gr_walkOut zE0))) zc_122 0 [.ref 0, .int x] [] (ar, fi, (m1, m2, m3, m4, m5)) o := by
  intro q h hq
  unfold q_if_getsOut at h
  refine zT_seg t_if_getsOut ?_
  obtain ⟨TT, hTT⟩ : ∃ T, T = zT X zFT (zEx 138 S_if_isNumber (zEx 30 S_gr_burnFrom (zEx 32 S_gr_walkOut zE0))) zc_122 o := ⟨_, rfl⟩
  rw [← hTT]
  refine zg_el h (fun hg h => zU_g hTT hg ?_)
  refine zl_el h (fun h => zU_l hTT ?_)
  refine zb_el h (fun hb h => zU_t hTT hb ?_) (fun hb h => zU_f hTT hb ?_)
  · refine zg_el h (fun hg h => zU_ga hTT hg ?_)
    refine zb_el h (fun hb h => zU_t hTT hb ?_) (fun hb h => zU_f hTT hb ?_)
    · rw [hTT]
      have hz := zsi (P := (fun t => O_if_getsOut ar fi m1 m2 m3 m4 m5 t = o)) h hq
      refine (zO_mk ?_ ?_).trans hz
      · first | with_reducible rfl | exact hA0_if_getsOut _
      · first | with_reducible rfl | exact hF1_if_getsOut _
    · refine zg_el h (fun hg h => zU_ga hTT hg ?_)
      refine zb_el h (fun hb h => zU_t hTT hb ?_) (fun hb h => zU_f hTT hb ?_)
      · refine zbd_el h (fun v2 hv h => zU_c hTT hv ?_)
        refine zbd_el h (fun v3 hv h => zU_c hTT hv ?_)
        rw [hTT]
        have hz := zsi (P := (fun t => O_if_getsOut ar fi m1 m2 m3 m4 m5 t = o)) h hq
        refine (zO_mk ?_ ?_).trans hz
        · first | with_reducible rfl | exact hA2_if_getsOut _ _ _ _ _
        · first | with_reducible rfl | exact hF3_if_getsOut _ _ _
      · rw [hTT]
        have hz := zsi (P := (fun t => O_if_getsOut ar fi m1 m2 m3 m4 m5 t = o)) h hq
        refine (zO_mk ?_ ?_).trans hz
        · first | with_reducible rfl | exact hA0_if_getsOut _
        · first | with_reducible rfl | exact hF1_if_getsOut _
  · rw [hTT]
    have hz := zsi (P := (fun t => O_if_getsOut ar fi m1 m2 m3 m4 m5 t = o)) h hq
    refine (zO_mk ?_ ?_).trans hz
    · first | with_reducible rfl | exact hA0_if_getsOut _
    · first | with_reducible rfl | exact hF1_if_getsOut _
theorem ok_if_getsOut (X : Nat × (Nat → Int32)) : zOkS X 122 S_if_getsOut 4 := zOkS_new (zOkE_cons (ok_if_isNumber X) (by decide) (zOkE_cons (ok_gr_burnFrom X) (by decide) (zOkE_cons (ok_gr_walkOut X) (by decide) (zOkE_nil X 3)))) (by
  intro args g o h
  obtain ⟨ar, fi, m1, m2, m3, m4, m5⟩ := g
  unfold S_if_getsOut P_if_getsOut at h
  split at h
  · refine zb_el h (fun hI0 k0 => ?_) (fun _ h10 => ?_)
    · try simp only [Bool.and_eq_true] at hI0
      have j0 := hI0
      have e0 := Nat.eq_of_beq_eq_true j0
      subst e0
      exact zpe_el k0 (fun t ht ho => by obtain ⟨t0, t1, t2, t3, t4, t5, t6⟩ := t; exact e_if_getsOut _ ht ho)
    · cases h10
  · cases h)
