abbrev T_if_breaks : Type := Int32 × (Nat → Int32) × (Nat → Int32) × (Nat → Int32) × (Nat → Int32) × Int32
noncomputable def q_if_breaks (x : Int32) (y : Int32) (a3 : Nat → Int32) (a58 : Nat → Int32) (a59 : Nat → Int32) (a60 : Nat → Int32) (a61 : Nat → Int32) (f57_4 : Int32) : Option T_if_breaks :=
  zg (g_if_isNumber x) (
  zl (w_if_isNumber x) (fun v1 =>
  bif decide (v1 = 0) then
   some ((-1), a58, a59, a60, a61, f57_4)
  else
   zg (g_if_isNumber y) (
   zl (w_if_isNumber y) (fun v2 =>
   bif decide (v2 = 0) then
    some ((-1), a58, a59, a60, a61, f57_4)
   else
    bif !decide (x = y) then
     zg (zin x 96) (
     bif !decide (a3 (x.toNatClampNeg) = 1) then
      some ((-3), a58, a59, a60, a61, f57_4)
     else
      zg (zin y 96) (
      bif decide (a3 (y.toNatClampNeg) = 1) then
       zbd (q_if_areNext x y) (fun v3 =>
       bif decide (v3 = 0) then
        zbd (q_cu_fewest x y a3 a58 a59 a60 a61 (f57_4)) (fun v4 =>
        some ((v4.1), ((v4.2.1)), ((v4.2.2.1)), ((v4.2.2.2.1)), ((v4.2.2.2.2.1)), (v4.2.2.2.2.2)))
       else
        some ((-2), a58, a59, a60, a61, f57_4))
      else
       some ((-3), a58, a59, a60, a61, f57_4)))
    else
     some ((-1), a58, a59, a60, a61, f57_4)))))
def P_if_breaks (Q : Int32 → Int32 → (Nat → Int32) → (Nat → Int32) → (Nat → Int32) → (Nat → Int32) → (Nat → Int32) → Int32 → Option (Int32 × (Nat → Int32) × (Nat → Int32) × (Nat → Int32) × (Nat → Int32) × Int32)) : zSp := fun as g => match as with
  | [.ref a, .int x, .int y] => bif Nat.beq a 0 then zpe (Q x y (g.1 3) (g.1 58) (g.1 59) (g.1 60) (g.1 61) (g.2.1 57 4)) (fun t => (some (.int (t.1)), ((zua (zua (zua (zua g.1 58 t.2.1) 59 t.2.2.1) 60 t.2.2.2.1) 61 t.2.2.2.2.1), (zuf g.2.1 57 4 t.2.2.2.2.2), g.2.2))) else none
  | _ => none
noncomputable abbrev S_if_breaks : zSp := P_if_breaks q_if_breaks
theorem hF3_if_breaks (F : Nat → Nat → Int32) (w0 : Int32) : (zuf F 57 4 w0) = (zuf F 57 4 w0) := zufk_ix F [((57, 4), w0)] [((57, 4), some 0)] rfl
theorem hA2_if_breaks (F : Nat → Nat → Int32) (w0 w1 w2 w3 : Nat → Int32) : (zua (zua (zua (zua F 58 w0) 59 w1) 60 w2) 61 w3) = (zua (zua (zua (zua F 58 w0) 59 w1) 60 w2) 61 w3) := zuak_ix F [(58, w0), (59, w1), (60, w2), (61, w3)] [(58, some 0), (59, some 1), (60, some 2), (61, some 3)] rfl
theorem hF1_if_breaks (F : Nat → Nat → Int32) : F = (zuf F 57 4 (F 57 4)) := zufk_ix F [] [((57, 4), none)] rfl
theorem hA0_if_breaks (F : Nat → Nat → Int32) : F = (zua (zua (zua (zua F 58 (F 58)) 59 (F 59)) 60 (F 60)) 61 (F 61)) := zuak_ix F [] [(58, none), (59, none), (60, none), (61, none)] rfl
def O_if_breaks (ar fi : Nat → Nat → Int32) (m1 : Nat) (m2 : Nat) (m3 : Nat) (m4 : Nat) (m5 : Nat) (t : T_if_breaks) : zO2 := match t with
  | (t0, t1, t2, t3, t4, t5) => (some (.int (t0)), ((zua (zua (zua (zua ar 58 t1) 59 t2) 60 t3) 61 t4), (zuf fi 57 4 t5), (m1, m2, m3, m4, m5)))
set_option maxRecDepth 1000000 in
theorem t_if_breaks {X : Nat × (Nat → Int32)} {ar fi : Nat → Nat → Int32} {m1 m2 m3 m4 m5 : Nat} {x y : Int32} {G_if_isNumber : Int32 → Bool} {W_if_isNumber : Int32 → Int32} {Q_if_areNext : Int32 → Int32 → Option (Int32)} {Q_cu_fewest : Int32 → Int32 → (Nat → Int32) → (Nat → Int32) → (Nat → Int32) → (Nat → Int32) → (Nat → Int32) → Int32 → Option (Int32 × (Nat → Int32) × (Nat → Int32) × (Nat → Int32) × (Nat → Int32) × Int32)} : zseg X zFT (zEx 138 (P_if_isNumber G_if_isNumber W_if_isNumber) (zEx 141 (P_if_areNext Q_if_areNext) (zEx 12 (P_cu_fewest Q_cu_fewest) zE0))) zc_121 (fun p => false) 400 0 [.ref 0, .int x, .int y] [] (ar, fi, (m1, m2, m3, m4, m5)) = (
  zg (G_if_isNumber x) (
  zl (W_if_isNumber x) (fun v1 =>
  bif decide (v1 = 0) then
   some (.inr (some (.int (-1)), (ar, fi, (m1, m2, m3, m4, m5))))
  else
   zg (G_if_isNumber y) (
   zl (W_if_isNumber y) (fun v2 =>
   bif decide (v2 = 0) then
    some (.inr (some (.int (-1)), (ar, fi, (m1, m2, m3, m4, m5))))
   else
    bif !decide (x = y) then
     zg (Nat.beq 16 16 && (zin x 96)) (
     bif !decide ((ar 3) (x.toNatClampNeg) = 1) then
      some (.inr (some (.int (-3)), (ar, fi, (m1, m2, m3, m4, m5))))
     else
      zg (Nat.beq 16 16 && (zin y 96)) (
      bif decide ((ar 3) (y.toNatClampNeg) = 1) then
       zl (Q_if_areNext x y) (fun v3 => zg v3.isSome (
       bif decide (((zgt v3)) = 0) then
        zl (Q_cu_fewest x y (ar 3) (ar 58) (ar 59) (ar 60) (ar 61) (fi 57 4)) (fun v4 => zg v4.isSome (
        some (.inr (some (.int (((zgt v4).1))), ((zua (zua (zua (zua ar 58 (((zgt v4).2.1))) 59 (((zgt v4).2.2.1))) 60 (((zgt v4).2.2.2.1))) 61 (((zgt v4).2.2.2.2.1))), (zuf fi 57 4 (((zgt v4).2.2.2.2.2))), (m1, m2, m3, m4, m5))))))
       else
        some (.inr (some (.int (-2)), (ar, fi, (m1, m2, m3, m4, m5))))))
      else
       some (.inr (some (.int (-3)), (ar, fi, (m1, m2, m3, m4, m5))))))
    else
     some (.inr (some (.int (-1)), (ar, fi, (m1, m2, m3, m4, m5)))))))) : Option ((Nat × List Value × List Value × zH2) ⊕ zO2)) := by with_unfolding_all rfl
set_option maxRecDepth 20000 in
theorem e_if_breaks {X : Nat × (Nat → Int32)} {ar fi : Nat → Nat → Int32} {m1 m2 m3 m4 m5 : Nat} {x y : Int32} {o : zO2} : ∀ (q : T_if_breaks), q_if_breaks x y (ar 3) (ar 58) (ar 59) (ar 60) (ar 61) (fi 57 4) = some q → (fun t => O_if_breaks ar fi m1 m2 m3 m4 m5 t = o) q → zR2 X zFT (zEx 138 S_if_isNumber (zEx 141 S_if_areNext (zEx 12 S_cu_fewest zE0))) zc_121 0 [.ref 0, .int x, .int y] [] (ar, fi, (m1, m2, m3, m4, m5)) o := by
  intro q h hq
  unfold q_if_breaks at h
  refine zT_seg t_if_breaks ?_
  obtain ⟨TT, hTT⟩ : ∃ T, T = zT X zFT (zEx 138 S_if_isNumber (zEx 141 S_if_areNext (zEx 12 S_cu_fewest zE0))) zc_121 o := ⟨_, rfl⟩
  rw [← hTT]
  refine zg_el h (fun hg h => zU_g hTT hg ?_)
  refine zl_el h (fun h => zU_l hTT ?_)
  refine zb_el h (fun hb h => zU_t hTT hb ?_) (fun hb h => zU_f hTT hb ?_)
  · rw [hTT]
    have hz := zsi (P := (fun t => O_if_breaks ar fi m1 m2 m3 m4 m5 t = o)) h hq
    refine (zO_mk ?_ ?_).trans hz
    · first | with_reducible rfl | exact hA0_if_breaks _
    · first | with_reducible rfl | exact hF1_if_breaks _
  · refine zg_el h (fun hg h => zU_g hTT hg ?_)
    refine zl_el h (fun h => zU_l hTT ?_)
    refine zb_el h (fun hb h => zU_t hTT hb ?_) (fun hb h => zU_f hTT hb ?_)
    · rw [hTT]
      have hz := zsi (P := (fun t => O_if_breaks ar fi m1 m2 m3 m4 m5 t = o)) h hq
      refine (zO_mk ?_ ?_).trans hz
      · first | with_reducible rfl | exact hA0_if_breaks _
      · first | with_reducible rfl | exact hF1_if_breaks _
    · refine zb_el h (fun hb h => zU_t hTT hb ?_) (fun hb h => zU_f hTT hb ?_)
      · refine zg_el h (fun hg h => zU_ga hTT hg ?_)
        refine zb_el h (fun hb h => zU_t hTT hb ?_) (fun hb h => zU_f hTT hb ?_)
        · rw [hTT]
          have hz := zsi (P := (fun t => O_if_breaks ar fi m1 m2 m3 m4 m5 t = o)) h hq
          refine (zO_mk ?_ ?_).trans hz
          · first | with_reducible rfl | exact hA0_if_breaks _
          · first | with_reducible rfl | exact hF1_if_breaks _
        · refine zg_el h (fun hg h => zU_ga hTT hg ?_)
          refine zb_el h (fun hb h => zU_t hTT hb ?_) (fun hb h => zU_f hTT hb ?_)
          · refine zbd_el h (fun v3 hv h => zU_c hTT hv ?_)
            refine zb_el h (fun hb h => zU_t hTT hb ?_) (fun hb h => zU_f hTT hb ?_)
            · refine zbd_el h (fun v4 hv h => zU_c hTT hv ?_)
              rw [hTT]
              have hz := zsi (P := (fun t => O_if_breaks ar fi m1 m2 m3 m4 m5 t = o)) h hq
              refine (zO_mk ?_ ?_).trans hz
              · first | with_reducible rfl | exact hA2_if_breaks _ _ _ _ _
              · first | with_reducible rfl | exact hF3_if_breaks _ _
            · rw [hTT]
              have hz := zsi (P := (fun t => O_if_breaks ar fi m1 m2 m3 m4 m5 t = o)) h hq
              refine (zO_mk ?_ ?_).trans hz
              · first | with_reducible rfl | exact hA0_if_breaks _
              · first | with_reducible rfl | exact hF1_if_breaks _
          · rw [hTT]
            have hz := zsi (P := (fun t => O_if_breaks ar fi m1 m2 m3 m4 m5 t = o)) h hq
            refine (zO_mk ?_ ?_).trans hz
            · first | with_reducible rfl | exact hA0_if_breaks _
            · first | with_reducible rfl | exact hF1_if_breaks _
      · rw [hTT]
        have hz := zsi (P := (fun t => O_if_breaks ar fi m1 m2 m3 m4 m5 t = o)) h hq
        refine (zO_mk ?_ ?_).trans hz
        · first | with_reducible rfl | exact hA0_if_breaks _
        · first | with_reducible rfl | exact hF1_if_breaks _
theorem ok_if_breaks (X : Nat × (Nat → Int32)) : zOkS X 121 S_if_breaks 5 := zOkS_new (zOkE_cons (ok_if_isNumber X) (by decide) (zOkE_cons (ok_if_areNext X) (by decide) (zOkE_cons (ok_cu_fewest X) (by decide) (zOkE_nil X 4)))) (by
  intro args g o h
  obtain ⟨ar, fi, m1, m2, m3, m4, m5⟩ := g
  unfold S_if_breaks P_if_breaks at h
  split at h
  · refine zb_el h (fun hI0 k0 => ?_) (fun _ h10 => ?_)
    · try simp only [Bool.and_eq_true] at hI0
      have j0 := hI0
      have e0 := Nat.eq_of_beq_eq_true j0
      subst e0
      exact zpe_el k0 (fun t ht ho => by obtain ⟨t0, t1, t2, t3, t4, t5⟩ := t; exact e_if_breaks _ ht ho)
    · cases h10
  · cases h)
