abbrev T_if_steps : Type := Int32 × (Nat → Int32) × (Nat → Int32) × Int32 × Int32
noncomputable def q_if_steps (x : Int32) (y : Int32) (a3 : Nat → Int32) (a53 : Nat → Int32) (a54 : Nat → Int32) (f52_1 : Int32) (f52_3 : Int32) : Option T_if_steps :=
  zg (g_if_isNumber x) (
  zl (w_if_isNumber x) (fun v1 =>
  bif decide (v1 = 0) then
   some ((-1), a53, a54, f52_1, f52_3)
  else
   zg (g_if_isNumber y) (
   zl (w_if_isNumber y) (fun v2 =>
   bif !decide (v2 = 0) then
    zg (zin x 96) (
    bif !decide (a3 (x.toNatClampNeg) = 1) then
     some ((-3), a53, a54, f52_1, f52_3)
    else
     zg (zin y 96) (
     bif decide (a3 (y.toNatClampNeg) = 1) then
      zl (a0_gr_clear a53) (fun v3 =>
      zl (f0_gr_clear a53) (fun v4 =>
      zl (f1_gr_clear a53) (fun v5 =>
      zg (g_gr_light x v3 v4 a54) (
      zl (a0_gr_light x v3 v4 a54) (fun v6 =>
      zl (a1_gr_light x v3 v4 a54) (fun v7 =>
      zl (f0_gr_light x v3 v4 a54) (fun v8 =>
      zbd (q_gr_goOver a3 v6 v7 v8 v5) (fun v9 =>
      zg (zin y 96) (
      bif decide (0 ≤ ((v9.1)) (y.toNatClampNeg)) then
       some (((v9.1)) (y.toNatClampNeg), ((v9.1)), ((v9.2.1)), (v9.2.2.1), (v9.2.2.2))
      else
       some ((-2), ((v9.1)), ((v9.2.1)), (v9.2.2.1), (v9.2.2.2)))))))))))
     else
      some ((-3), a53, a54, f52_1, f52_3)))
   else
    some ((-1), a53, a54, f52_1, f52_3)))))
def P_if_steps (Q : Int32 → Int32 → (Nat → Int32) → (Nat → Int32) → (Nat → Int32) → Int32 → Int32 → Option (Int32 × (Nat → Int32) × (Nat → Int32) × Int32 × Int32)) : zSp := fun as g => match as with
  | [.ref a, .int x, .int y] => bif Nat.beq a 0 then zpe (Q x y (g.1 3) (g.1 53) (g.1 54) (g.2.1 52 1) (g.2.1 52 3)) (fun t => (some (.int (t.1)), ((zua (zua g.1 53 t.2.1) 54 t.2.2.1), (zuf (zuf g.2.1 52 1 t.2.2.2.1) 52 3 t.2.2.2.2), g.2.2))) else none
  | _ => none
noncomputable abbrev S_if_steps : zSp := P_if_steps q_if_steps
theorem hF3_if_steps (F : Nat → Nat → Int32) (w0 w1 w2 w3 w4 : Int32) : (zuf (zuf (zuf (zuf (zuf F 52 1 w0) 52 3 w1) 52 1 w2) 52 1 w3) 52 3 w4) = (zuf (zuf F 52 1 w3) 52 3 w4) := zufk_ix F [((52, 1), w0), ((52, 3), w1), ((52, 1), w2), ((52, 1), w3), ((52, 3), w4)] [((52, 1), some 3), ((52, 3), some 4)] rfl
theorem hA2_if_steps (F : Nat → Nat → Int32) (w0 w1 w2 w3 w4 : Nat → Int32) : (zua (zua (zua (zua (zua F 53 w0) 53 w1) 54 w2) 53 w3) 54 w4) = (zua (zua F 53 w3) 54 w4) := zuak_ix F [(53, w0), (53, w1), (54, w2), (53, w3), (54, w4)] [(53, some 3), (54, some 4)] rfl
theorem hF1_if_steps (F : Nat → Nat → Int32) : F = (zuf (zuf F 52 1 (F 52 1)) 52 3 (F 52 3)) := zufk_ix F [] [((52, 1), none), ((52, 3), none)] rfl
theorem hA0_if_steps (F : Nat → Nat → Int32) : F = (zua (zua F 53 (F 53)) 54 (F 54)) := zuak_ix F [] [(53, none), (54, none)] rfl
def O_if_steps (ar fi : Nat → Nat → Int32) (m1 : Nat) (m2 : Nat) (m3 : Nat) (m4 : Nat) (m5 : Nat) (t : T_if_steps) : zO2 := match t with
  | (t0, t1, t2, t3, t4) => (some (.int (t0)), ((zua (zua ar 53 t1) 54 t2), (zuf (zuf fi 52 1 t3) 52 3 t4), (m1, m2, m3, m4, m5)))
set_option maxRecDepth 1000000 in
theorem t_if_steps {X : Nat × (Nat → Int32)} {ar fi : Nat → Nat → Int32} {m1 m2 m3 m4 m5 : Nat} {x y : Int32} {G_if_isNumber : Int32 → Bool} {W_if_isNumber : Int32 → Int32} {A0_gr_clear : (Nat → Int32) → Nat → Int32} {F0_gr_clear : (Nat → Int32) → Int32} {F1_gr_clear : (Nat → Int32) → Int32} {G_gr_light : Int32 → (Nat → Int32) → Int32 → (Nat → Int32) → Bool} {A0_gr_light : Int32 → (Nat → Int32) → Int32 → (Nat → Int32) → Nat → Int32} {A1_gr_light : Int32 → (Nat → Int32) → Int32 → (Nat → Int32) → Nat → Int32} {F0_gr_light : Int32 → (Nat → Int32) → Int32 → (Nat → Int32) → Int32} {Q_gr_goOver : (Nat → Int32) → (Nat → Int32) → (Nat → Int32) → Int32 → Int32 → Option ((Nat → Int32) × (Nat → Int32) × Int32 × Int32)} : zseg X zFT (zEx 138 (P_if_isNumber G_if_isNumber W_if_isNumber) (zEx 26 (P_gr_clear A0_gr_clear F0_gr_clear F1_gr_clear) (zEx 27 (P_gr_light G_gr_light A0_gr_light A1_gr_light F0_gr_light) (zEx 29 (P_gr_goOver Q_gr_goOver) zE0)))) zc_119 (fun p => false) 400 0 [.ref 0, .int x, .int y] [] (ar, fi, (m1, m2, m3, m4, m5)) = (
  zg (G_if_isNumber x) (
  zl (W_if_isNumber x) (fun v1 =>
  bif decide (v1 = 0) then
   some (.inr (some (.int (-1)), (ar, fi, (m1, m2, m3, m4, m5))))
  else
   zg (G_if_isNumber y) (
   zl (W_if_isNumber y) (fun v2 =>
   bif !decide (v2 = 0) then
    zg (Nat.beq 16 16 && (zin x 96)) (
    bif !decide ((ar 3) (x.toNatClampNeg) = 1) then
     some (.inr (some (.int (-3)), (ar, fi, (m1, m2, m3, m4, m5))))
    else
     zg (Nat.beq 16 16 && (zin y 96)) (
     bif decide ((ar 3) (y.toNatClampNeg) = 1) then
      zl (A0_gr_clear (ar 53)) (fun v3 =>
      zl (F0_gr_clear (ar 53)) (fun v4 =>
      zl (F1_gr_clear (ar 53)) (fun v5 =>
      zg (G_gr_light x v3 v4 (ar 54)) (
      zl (A0_gr_light x v3 v4 (ar 54)) (fun v6 =>
      zl (A1_gr_light x v3 v4 (ar 54)) (fun v7 =>
      zl (F0_gr_light x v3 v4 (ar 54)) (fun v8 =>
      zl (Q_gr_goOver (ar 3) v6 v7 v8 v5) (fun v9 => zg v9.isSome (
      zg (Nat.beq 16 16 && (zin y 96)) (
      bif decide (0 ≤ (((zgt v9).1)) (y.toNatClampNeg)) then
       some (.inr (some (.int ((((zgt v9).1)) (y.toNatClampNeg))), ((zua (zua (zua (zua (zua ar 53 v3) 53 v6) 54 v7) 53 (((zgt v9).1))) 54 (((zgt v9).2.1))), (zuf (zuf (zuf (zuf (zuf fi 52 1 v4) 52 3 v5) 52 1 v8) 52 1 (((zgt v9).2.2.1))) 52 3 (((zgt v9).2.2.2))), (m1, m2, m3, m4, m5))))
      else
       some (.inr (some (.int (-2)), ((zua (zua (zua (zua (zua ar 53 v3) 53 v6) 54 v7) 53 (((zgt v9).1))) 54 (((zgt v9).2.1))), (zuf (zuf (zuf (zuf (zuf fi 52 1 v4) 52 3 v5) 52 1 v8) 52 1 (((zgt v9).2.2.1))) 52 3 (((zgt v9).2.2.2))), (m1, m2, m3, m4, m5))))))))))))))
     else
      some (.inr (some (.int (-3)), (ar, fi, (m1, m2, m3, m4, m5))))))
   else
    some (.inr (some (.int (-1)), (ar, fi, (m1, m2, m3, m4, m5)))))))) : Option ((Nat × List Value × List Value × zH2) ⊕ zO2)) := by with_unfolding_all rfl
set_option maxRecDepth 20000 in
theorem e_if_steps {X : Nat × (Nat → Int32)} {ar fi : Nat → Nat → Int32} {m1 m2 m3 m4 m5 : Nat} {x y : Int32} {o : zO2} : ∀ (q : T_if_steps), q_if_steps x y (ar 3) (ar 53) (ar 54) (fi 52 1) (fi 52 3) = some q → (fun t => O_if_steps ar fi m1 m2 m3 m4 m5 t = o) q → zR2 X zFT (zEx 138 S_if_isNumber (zEx 26 S_gr_clear (zEx 27 S_gr_light (zEx 29 S_gr_goOver zE0)))) zc_119 0 [.ref 0, .int x, .int y] [] (ar, fi, (m1, m2, m3, m4, m5)) o := by
  intro q h hq
  unfold q_if_steps at h
  refine zT_seg t_if_steps ?_
  obtain ⟨TT, hTT⟩ : ∃ T, T = zT X zFT (zEx 138 S_if_isNumber (zEx 26 S_gr_clear (zEx 27 S_gr_light (zEx 29 S_gr_goOver zE0)))) zc_119 o := ⟨_, rfl⟩
  rw [← hTT]
  refine zg_el h (fun hg h => zU_g hTT hg ?_)
  refine zl_el h (fun h => zU_l hTT ?_)
  refine zb_el h (fun hb h => zU_t hTT hb ?_) (fun hb h => zU_f hTT hb ?_)
  · rw [hTT]
    have hz := zsi (P := (fun t => O_if_steps ar fi m1 m2 m3 m4 m5 t = o)) h hq
    refine (zO_mk ?_ ?_).trans hz
    · first | with_reducible rfl | exact hA0_if_steps _
    · first | with_reducible rfl | exact hF1_if_steps _
  · refine zg_el h (fun hg h => zU_g hTT hg ?_)
    refine zl_el h (fun h => zU_l hTT ?_)
    refine zb_el h (fun hb h => zU_t hTT hb ?_) (fun hb h => zU_f hTT hb ?_)
    · refine zg_el h (fun hg h => zU_ga hTT hg ?_)
      refine zb_el h (fun hb h => zU_t hTT hb ?_) (fun hb h => zU_f hTT hb ?_)
      · rw [hTT]
        have hz := zsi (P := (fun t => O_if_steps ar fi m1 m2 m3 m4 m5 t = o)) h hq
        refine (zO_mk ?_ ?_).trans hz
        · first | with_reducible rfl | exact hA0_if_steps _
        · first | with_reducible rfl | exact hF1_if_steps _
      · refine zg_el h (fun hg h => zU_ga hTT hg ?_)
        refine zb_el h (fun hb h => zU_t hTT hb ?_) (fun hb h => zU_f hTT hb ?_)
        · refine zl_el h (fun h => zU_l hTT ?_)
          refine zl_el h (fun h => zU_l hTT ?_)
          refine zl_el h (fun h => zU_l hTT ?_)
          refine zg_el h (fun hg h => zU_g hTT hg ?_)
          refine zl_el h (fun h => zU_l hTT ?_)
          refine zl_el h (fun h => zU_l hTT ?_)
          refine zl_el h (fun h => zU_l hTT ?_)
          refine zbd_el h (fun v9 hv h => zU_c hTT hv ?_)
          refine zg_el h (fun hg h => zU_ga hTT hg ?_)
          refine zb_el h (fun hb h => zU_t hTT hb ?_) (fun hb h => zU_f hTT hb ?_)
          · rw [hTT]
            have hz := zsi (P := (fun t => O_if_steps ar fi m1 m2 m3 m4 m5 t = o)) h hq
            refine (zO_mk ?_ ?_).trans hz
            · first | with_reducible rfl | exact hA2_if_steps _ _ _ _ _ _
            · first | with_reducible rfl | exact hF3_if_steps _ _ _ _ _ _
          · rw [hTT]
            have hz := zsi (P := (fun t => O_if_steps ar fi m1 m2 m3 m4 m5 t = o)) h hq
            refine (zO_mk ?_ ?_).trans hz
            · first | with_reducible rfl | exact hA2_if_steps _ _ _ _ _ _
            · first | with_reducible rfl | exact hF3_if_steps _ _ _ _ _ _
        · rw [hTT]
          have hz := zsi (P := (fun t => O_if_steps ar fi m1 m2 m3 m4 m5 t = o)) h hq
          refine (zO_mk ?_ ?_).trans hz
          · first | with_reducible rfl | exact hA0_if_steps _
          · first | with_reducible rfl | exact hF1_if_steps _
    · rw [hTT]
      have hz := zsi (P := (fun t => O_if_steps ar fi m1 m2 m3 m4 m5 t = o)) h hq
      refine (zO_mk ?_ ?_).trans hz
      · first | with_reducible rfl | exact hA0_if_steps _
      · first | with_reducible rfl | exact hF1_if_steps _
theorem ok_if_steps (X : Nat × (Nat → Int32)) : zOkS X 119 S_if_steps 3 := zOkS_new (zOkE_cons (ok_if_isNumber X) (by decide) (zOkE_cons (ok_gr_clear X) (by decide) (zOkE_cons (ok_gr_light X) (by decide) (zOkE_cons (ok_gr_goOver X) (by decide) (zOkE_nil X 2))))) (by
  intro args g o h
  obtain ⟨ar, fi, m1, m2, m3, m4, m5⟩ := g
  unfold S_if_steps P_if_steps at h
  split at h
  · refine zb_el h (fun hI0 k0 => ?_) (fun _ h10 => ?_)
    · try simp only [Bool.and_eq_true] at hI0
      have j0 := hI0
      have e0 := Nat.eq_of_beq_eq_true j0
      subst e0
      exact zpe_el k0 (fun t ht ho => by obtain ⟨t0, t1, t2, t3, t4⟩ := t; exact e_if_steps _ ht ho)
    · cases h10
  · cases h)
