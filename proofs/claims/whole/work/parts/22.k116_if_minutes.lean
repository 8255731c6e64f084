abbrev T_if_minutes : Type := Int32 × (Nat → Int32) × (Nat → Int32) × (Nat → Int32) × (Nat → Int32) × (Nat → Int32) × Int32 × Int32 × Int32
noncomputable def q_if_minutes (x : Int32) (a3 : Nat → Int32) (a4 : Nat → Int32) (a5 : Nat → Int32) (a6 : Nat → Int32) (a7 : Nat → Int32) (a8 : Nat → Int32) (a24 : Nat → Int32) (a25 : Nat → Int32) (a26 : Nat → Int32) (a27 : Nat → Int32) (a28 : Nat → Int32) (a29 : Nat → Int32) (a30 : Nat → Int32) (a50 : Nat → Int32) (a51 : Nat → Int32) (f2_6 : Int32) (f2_7 : Int32) (f2_8 : Int32) (f2_9 : Int32) (f2_10 : Int32) (f23_8 : Int32) (f23_9 : Int32) : Option T_if_minutes :=
  zl (w_if_isWithin x 1 100) (fun v1 =>
  bif !decide (v1 = 0) then
   zbd (q_fr_burnFor x a3 a4 a5 a6 a7 a8 a24 a25 a26 a27 a28 a29 a30 a50 a51 (f2_6) (f2_7) (f2_8) (f2_9) (f2_10) (f23_8) (f23_9)) (fun v2 =>
   zl (w_sc_placesThatAre 1 ((v2.1))) (fun v3 =>
   some (v3, ((v2.1)), ((v2.2.1)), ((v2.2.2.1)), ((v2.2.2.2.1)), ((v2.2.2.2.2.1)), (v2.2.2.2.2.2.1), (v2.2.2.2.2.2.2.1), (v2.2.2.2.2.2.2.2))))
  else
   some ((-1), a4, a5, a26, a50, a51, f2_7, f2_9, f2_10))
def P_if_minutes (Q : Int32 → (Nat → Int32) → (Nat → Int32) → (Nat → Int32) → (Nat → Int32) → (Nat → Int32) → (Nat → Int32) → (Nat → Int32) → (Nat → Int32) → (Nat → Int32) → (Nat → Int32) → (Nat → Int32) → (Nat → Int32) → (Nat → Int32) → (Nat → Int32) → (Nat → Int32) → Int32 → Int32 → Int32 → Int32 → Int32 → Int32 → Int32 → Option (Int32 × (Nat → Int32) × (Nat → Int32) × (Nat → Int32) × (Nat → Int32) × (Nat → Int32) × Int32 × Int32 × Int32)) : zSp := fun as g => match as with
  | [.ref a, .int x] => bif Nat.beq a 0 && Nat.beq g.2.2.1 23 then zpe (Q x (g.1 3) (g.1 4) (g.1 5) (g.1 6) (g.1 7) (g.1 8) (g.1 24) (g.1 25) (g.1 26) (g.1 27) (g.1 28) (g.1 29) (g.1 30) (g.1 50) (g.1 51) (g.2.1 2 6) (g.2.1 2 7) (g.2.1 2 8) (g.2.1 2 9) (g.2.1 2 10) (g.2.1 23 8) (g.2.1 23 9)) (fun t => (some (.int (t.1)), ((zua (zua (zua (zua (zua g.1 4 t.2.1) 5 t.2.2.1) 26 t.2.2.2.1) 50 t.2.2.2.2.1) 51 t.2.2.2.2.2.1), (zuf (zuf (zuf g.2.1 2 7 t.2.2.2.2.2.2.1) 2 9 t.2.2.2.2.2.2.2.1) 2 10 t.2.2.2.2.2.2.2.2), g.2.2))) else bif Nat.beq a 0 && Nat.beq g.2.2.1 31 then zpe (Q x (g.1 3) (g.1 4) (g.1 5) (g.1 6) (g.1 7) (g.1 8) (g.1 32) (g.1 33) (g.1 34) (g.1 35) (g.1 36) (g.1 37) (g.1 38) (g.1 50) (g.1 51) (g.2.1 2 6) (g.2.1 2 7) (g.2.1 2 8) (g.2.1 2 9) (g.2.1 2 10) (g.2.1 31 8) (g.2.1 31 9)) (fun t => (some (.int (t.1)), ((zua (zua (zua (zua (zua g.1 4 t.2.1) 5 t.2.2.1) 34 t.2.2.2.1) 50 t.2.2.2.2.1) 51 t.2.2.2.2.2.1), (zuf (zuf (zuf g.2.1 2 7 t.2.2.2.2.2.2.1) 2 9 t.2.2.2.2.2.2.2.1) 2 10 t.2.2.2.2.2.2.2.2), g.2.2))) else none
  | _ => none
noncomputable abbrev S_if_minutes : zSp := P_if_minutes q_if_minutes
theorem hA5_if_minutes (F : Nat → Nat → Int32) : F = (zua (zua (zua (zua (zua F 4 (F 4)) 5 (F 5)) 34 (F 34)) 50 (F 50)) 51 (F 51)) := zuak_ix F [] [(4, none), (5, none), (34, none), (50, none), (51, none)] rfl
theorem hA4_if_minutes (F : Nat → Nat → Int32) (w0 w1 w2 w3 w4 : Nat → Int32) : (zua (zua (zua (zua (zua F 4 w0) 5 w1) 34 w2) 50 w3) 51 w4) = (zua (zua (zua (zua (zua F 4 w0) 5 w1) 34 w2) 50 w3) 51 w4) := zuak_ix F [(4, w0), (5, w1), (34, w2), (50, w3), (51, w4)] [(4, some 0), (5, some 1), (34, some 2), (50, some 3), (51, some 4)] rfl
theorem hF3_if_minutes (F : Nat → Nat → Int32) : F = (zuf (zuf (zuf F 2 7 (F 2 7)) 2 9 (F 2 9)) 2 10 (F 2 10)) := zufk_ix F [] [((2, 7), none), ((2, 9), none), ((2, 10), none)] rfl
theorem hA2_if_minutes (F : Nat → Nat → Int32) : F = (zua (zua (zua (zua (zua F 4 (F 4)) 5 (F 5)) 26 (F 26)) 50 (F 50)) 51 (F 51)) := zuak_ix F [] [(4, none), (5, none), (26, none), (50, none), (51, none)] rfl
theorem hF1_if_minutes (F : Nat → Nat → Int32) (w0 w1 w2 : Int32) : (zuf (zuf (zuf F 2 7 w0) 2 9 w1) 2 10 w2) = (zuf (zuf (zuf F 2 7 w0) 2 9 w1) 2 10 w2) := zufk_ix F [((2, 7), w0), ((2, 9), w1), ((2, 10), w2)] [((2, 7), some 0), ((2, 9), some 1), ((2, 10), some 2)] rfl
theorem hA0_if_minutes (F : Nat → Nat → Int32) (w0 w1 w2 w3 w4 : Nat → Int32) : (zua (zua (zua (zua (zua F 4 w0) 5 w1) 26 w2) 50 w3) 51 w4) = (zua (zua (zua (zua (zua F 4 w0) 5 w1) 26 w2) 50 w3) 51 w4) := zuak_ix F [(4, w0), (5, w1), (26, w2), (50, w3), (51, w4)] [(4, some 0), (5, some 1), (26, some 2), (50, some 3), (51, some 4)] rfl
def O_if_minutes_0_v0 (ar fi : Nat → Nat → Int32) (m2 : Nat) (m3 : Nat) (m4 : Nat) (m5 : Nat) (t : T_if_minutes) : zO2 := match t with
  | (t0, t1, t2, t3, t4, t5, t6, t7, t8) => (some (.int (t0)), ((zua (zua (zua (zua (zua ar 4 t1) 5 t2) 26 t3) 50 t4) 51 t5), (zuf (zuf (zuf fi 2 7 t6) 2 9 t7) 2 10 t8), (23, m2, m3, m4, m5)))
set_option maxRecDepth 1000000 in
theorem t_if_minutes_0_v0 {X : Nat × (Nat → Int32)} {ar fi : Nat → Nat → Int32} {m2 m3 m4 m5 : Nat} {x : Int32} {W_if_isWithin : Int32 → Int32 → Int32 → Int32} {Q_fr_burnFor : Int32 → (Nat → Int32) → (Nat → Int32) → (Nat → Int32) → (Nat → Int32) → (Nat → Int32) → (Nat → Int32) → (Nat → Int32) → (Nat → Int32) → (Nat → Int32) → (Nat → Int32) → (Nat → Int32) → (Nat → Int32) → (Nat → Int32) → (Nat → Int32) → (Nat → Int32) → Int32 → Int32 → Int32 → Int32 → Int32 → Int32 → Int32 → Option ((Nat → Int32) × (Nat → Int32) × (Nat → Int32) × (Nat → Int32) × (Nat → Int32) × Int32 × Int32 × Int32)} {W_sc_placesThatAre : Int32 → (Nat → Int32) → Int32} : zseg X zFT (zEx 137 (P_if_isWithin W_if_isWithin) (zEx 20 (P_fr_burnFor Q_fr_burnFor) (zEx 76 (P_sc_placesThatAre W_sc_placesThatAre) zE0))) zc_113 (fun p => false) 400 0 [.ref 0, .int x] [] (ar, fi, (23, m2, m3, m4, m5)) = (
  zl (W_if_isWithin x 1 100) (fun v1 =>
  bif !decide (v1 = 0) then
   zl (Q_fr_burnFor x (ar 3) (ar 4) (ar 5) (ar 6) (ar 7) (ar 8) (ar 24) (ar 25) (ar 26) (ar 27) (ar 28) (ar 29) (ar 30) (ar 50) (ar 51) (fi 2 6) (fi 2 7) (fi 2 8) (fi 2 9) (fi 2 10) (fi 23 8) (fi 23 9)) (fun v2 => zg v2.isSome (
   zl (W_sc_placesThatAre 1 (((zgt v2).1))) (fun v3 =>
   some (.inr (some (.int v3), ((zua (zua (zua (zua (zua ar 4 (((zgt v2).1))) 5 (((zgt v2).2.1))) 26 (((zgt v2).2.2.1))) 50 (((zgt v2).2.2.2.1))) 51 (((zgt v2).2.2.2.2.1))), (zuf (zuf (zuf fi 2 7 (((zgt v2).2.2.2.2.2.1))) 2 9 (((zgt v2).2.2.2.2.2.2.1))) 2 10 (((zgt v2).2.2.2.2.2.2.2))), (23, m2, m3, m4, m5)))))))
  else
   some (.inr (some (.int (-1)), (ar, fi, (23, m2, m3, m4, m5))))) : Option ((Nat × List Value × List Value × zH2) ⊕ zO2)) := by with_unfolding_all rfl
set_option maxRecDepth 20000 in
theorem e_if_minutes_0_v0 {X : Nat × (Nat → Int32)} {ar fi : Nat → Nat → Int32} {m2 m3 m4 m5 : Nat} {x : Int32} {o : zO2} : ∀ (q : T_if_minutes), q_if_minutes x (ar 3) (ar 4) (ar 5) (ar 6) (ar 7) (ar 8) (ar 24) (ar 25) (ar 26) (ar 27) (ar 28) (ar 29) (ar 30) (ar 50) (ar 51) (fi 2 6) (fi 2 7) (fi 2 8) (fi 2 9) (fi 2 10) (fi 23 8) (fi 23 9) = some q → (fun t => O_if_minutes_0_v0 ar fi m2 m3 m4 m5 t = o) q → zR2 X zFT (zEx 137 S_if_isWithin (zEx 20 S_fr_burnFor (zEx 76 S_sc_placesThatAre zE0))) zc_113 0 [.ref 0, .int x] [] (ar, fi, (23, m2, m3, m4, m5)) o := by
  intro q h hq
  unfold q_if_minutes at h
  refine zT_seg t_if_minutes_0_v0 ?_
  obtain ⟨TT, hTT⟩ : ∃ T, T = zT X zFT (zEx 137 S_if_isWithin (zEx 20 S_fr_burnFor (zEx 76 S_sc_placesThatAre zE0))) zc_113 o := ⟨_, rfl⟩
  rw [← hTT]
  refine zl_el h (fun h => zU_l hTT ?_)
  refine zb_el h (fun hb h => zU_t hTT hb ?_) (fun hb h => zU_f hTT hb ?_)
  · refine zbd_el h (fun v2 hv h => zU_c hTT hv ?_)
    refine zl_el h (fun h => zU_l hTT ?_)
    rw [hTT]
    have hz := zsi (P := (fun t => O_if_minutes_0_v0 ar fi m2 m3 m4 m5 t = o)) h hq
    refine (zO_mk ?_ ?_).trans hz
    · first | with_reducible rfl | exact hA0_if_minutes _ _ _ _ _ _
    · first | with_reducible rfl | exact hF1_if_minutes _ _ _ _
  · rw [hTT]
    have hz := zsi (P := (fun t => O_if_minutes_0_v0 ar fi m2 m3 m4 m5 t = o)) h hq
    refine (zO_mk ?_ ?_).trans hz
    · first | with_reducible rfl | exact hA2_if_minutes _
    · first | with_reducible rfl | exact hF3_if_minutes _
def O_if_minutes_0_v1 (ar fi : Nat → Nat → Int32) (m2 : Nat) (m3 : Nat) (m4 : Nat) (m5 : Nat) (t : T_if_minutes) : zO2 := match t with
  | (t0, t1, t2, t3, t4, t5, t6, t7, t8) => (some (.int (t0)), ((zua (zua (zua (zua (zua ar 4 t1) 5 t2) 34 t3) 50 t4) 51 t5), (zuf (zuf (zuf fi 2 7 t6) 2 9 t7) 2 10 t8), (31, m2, m3, m4, m5)))
set_option maxRecDepth 1000000 in
theorem t_if_minutes_0_v1 {X : Nat × (Nat → Int32)} {ar fi : Nat → Nat → Int32} {m2 m3 m4 m5 : Nat} {x : Int32} {W_if_isWithin : Int32 → Int32 → Int32 → Int32} {Q_fr_burnFor : Int32 → (Nat → Int32) → (Nat → Int32) → (Nat → Int32) → (Nat → Int32) → (Nat → Int32) → (Nat → Int32) → (Nat → Int32) → (Nat → Int32) → (Nat → Int32) → (Nat → Int32) → (Nat → Int32) → (Nat → Int32) → (Nat → Int32) → (Nat → Int32) → (Nat → Int32) → Int32 → Int32 → Int32 → Int32 → Int32 → Int32 → Int32 → Option ((Nat → Int32) × (Nat → Int32) × (Nat → Int32) × (Nat → Int32) × (Nat → Int32) × Int32 × Int32 × Int32)} {W_sc_placesThatAre : Int32 → (Nat → Int32) → Int32} : zseg X zFT (zEx 137 (P_if_isWithin W_if_isWithin) (zEx 20 (P_fr_burnFor Q_fr_burnFor) (zEx 76 (P_sc_placesThatAre W_sc_placesThatAre) zE0))) zc_113 (fun p => false) 400 0 [.ref 0, .int x] [] (ar, fi, (31, m2, m3, m4, m5)) = (
  zl (W_if_isWithin x 1 100) (fun v1 =>
  bif !decide (v1 = 0) then
   zl (Q_fr_burnFor x (ar 3) (ar 4) (ar 5) (ar 6) (ar 7) (ar 8) (ar 32) (ar 33) (ar 34) (ar 35) (ar 36) (ar 37) (ar 38) (ar 50) (ar 51) (fi 2 6) (fi 2 7) (fi 2 8) (fi 2 9) (fi 2 10) (fi 31 8) (fi 31 9)) (fun v2 => zg v2.isSome (
   zl (W_sc_placesThatAre 1 (((zgt v2).1))) (fun v3 =>
   some (.inr (some (.int v3), ((zua (zua (zua (zua (zua ar 4 (((zgt v2).1))) 5 (((zgt v2).2.1))) 34 (((zgt v2).2.2.1))) 50 (((zgt v2).2.2.2.1))) 51 (((zgt v2).2.2.2.2.1))), (zuf (zuf (zuf fi 2 7 (((zgt v2).2.2.2.2.2.1))) 2 9 (((zgt v2).2.2.2.2.2.2.1))) 2 10 (((zgt v2).2.2.2.2.2.2.2))), (31, m2, m3, m4, m5)))))))
  else
   some (.inr (some (.int (-1)), (ar, fi, (31, m2, m3, m4, m5))))) : Option ((Nat × List Value × List Value × zH2) ⊕ zO2)) := by with_unfolding_all rfl
set_option maxRecDepth 20000 in
theorem e_if_minutes_0_v1 {X : Nat × (Nat → Int32)} {ar fi : Nat → Nat → Int32} {m2 m3 m4 m5 : Nat} {x : Int32} {o : zO2} : ∀ (q : T_if_minutes), q_if_minutes x (ar 3) (ar 4) (ar 5) (ar 6) (ar 7) (ar 8) (ar 32) (ar 33) (ar 34) (ar 35) (ar 36) (ar 37) (ar 38) (ar 50) (ar 51) (fi 2 6) (fi 2 7) (fi 2 8) (fi 2 9) (fi 2 10) (fi 31 8) (fi 31 9) = some q → (fun t => O_if_minutes_0_v1 ar fi m2 m3 m4 m5 t = o) q → zR2 X zFT (zEx 137 S_if_isWithin (zEx 20 S_fr_burnFor (zEx 76 S_sc_placesThatAre zE0))) zc_113 0 [.ref 0, .int x] [] (ar, fi, (31, m2, m3, m4, m5)) o := by
  intro q h hq
  unfold q_if_minutes at h
  refine zT_seg t_if_minutes_0_v1 ?_
  obtain ⟨TT, hTT⟩ : ∃ T, T = zT X zFT (zEx 137 S_if_isWithin (zEx 20 S_fr_burnFor (zEx 76 S_sc_placesThatAre zE0))) zc_113 o := ⟨_, rfl⟩
  rw [← hTT]
  refine zl_el h (fun h => zU_l hTT ?_)
  refine zb_el h (fun hb h => zU_t hTT hb ?_) (fun hb h => zU_f hTT hb ?_)
  · refine zbd_el h (fun v2 hv h => zU_c hTT hv ?_)
    refine zl_el h (fun h => zU_l hTT ?_)
    rw [hTT]
    have hz := zsi (P := (fun t => O_if_minutes_0_v1 ar fi m2 m3 m4 m5 t = o)) h hq
    refine (zO_mk ?_ ?_).trans hz
    · first | with_reducible rfl | exact hA4_if_minutes _ _ _ _ _ _
    · first | with_reducible rfl | exact hF1_if_minutes _ _ _ _
  · rw [hTT]
    have hz := zsi (P := (fun t => O_if_minutes_0_v1 ar fi m2 m3 m4 m5 t = o)) h hq
    refine (zO_mk ?_ ?_).trans hz
    · first | with_reducible rfl | exact hA5_if_minutes _
    · first | with_reducible rfl | exact hF3_if_minutes _
theorem ok_if_minutes (X : Nat × (Nat → Int32)) : zOkS X 113 S_if_minutes 8 := zOkS_new (zOkE_cons (ok_if_isWithin X) (by decide) (zOkE_cons (ok_fr_burnFor X) (by decide) (zOkE_cons (ok_sc_placesThatAre X) (by decide) (zOkE_nil X 7)))) (by
  intro args g o h
  obtain ⟨ar, fi, m1, m2, m3, m4, m5⟩ := g
  unfold S_if_minutes P_if_minutes at h
  split at h
  · refine zb_el h (fun hI0 k0 => ?_) (fun _ h10 => ?_)
    · try simp only [Bool.and_eq_true] at hI0
      obtain ⟨j0, j1⟩ := hI0
      have e0 := Nat.eq_of_beq_eq_true j0
      subst e0
      have e9 : m1 = 23 := Nat.eq_of_beq_eq_true j1
      subst e9
      exact zpe_el k0 (fun t ht ho => by obtain ⟨t0, t1, t2, t3, t4, t5, t6, t7, t8⟩ := t; exact e_if_minutes_0_v0 _ ht ho)
    · skip
      refine zb_el h10 (fun hI1 k1 => ?_) (fun _ h11 => ?_)
      · try simp only [Bool.and_eq_true] at hI1
        obtain ⟨j0, j1⟩ := hI1
        have e0 := Nat.eq_of_beq_eq_true j0
        subst e0
        have e9 : m1 = 31 := Nat.eq_of_beq_eq_true j1
        subst e9
        exact zpe_el k1 (fun t ht ho => by obtain ⟨t0, t1, t2, t3, t4, t5, t6, t7, t8⟩ := t; exact e_if_minutes_0_v1 _ ht ho)
      · cases h11
  · cases h)
