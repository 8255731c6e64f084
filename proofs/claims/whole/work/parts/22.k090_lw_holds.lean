abbrev T_lw_holds : Type := Int32 × (Nat → Int32)
noncomputable def q_lw_holds (x : Int32) (a24 : Nat → Int32) (a25 : Nat → Int32) (a26 : Nat → Int32) (a29 : Nat → Int32) (a30 : Nat → Int32) (a50 : Nat → Int32) : Option T_lw_holds :=
  zg (zin x 16) (
  zg (zin x 16) (
  zbd (q_lw_run (a29 (x.toNatClampNeg)) (a30 (x.toNatClampNeg)) a24 a25 a26 a50) (fun v1 =>
  bif decide ((v1.1) = 0) then
   some (0, ((v1.2)))
  else
   some (1, ((v1.2))))))
def P_lw_holds (Q : Int32 → (Nat → Int32) → (Nat → Int32) → (Nat → Int32) → (Nat → Int32) → (Nat → Int32) → (Nat → Int32) → Option (Int32 × (Nat → Int32))) : zSp := fun as g => match as with
  | [.ref a, .int x, .ref b] => bif Nat.beq a 23 && Nat.beq b 50 then zpe (Q x (g.1 24) (g.1 25) (g.1 26) (g.1 29) (g.1 30) (g.1 50)) (fun t => (some (.int (t.1)), ((zua g.1 26 t.2), g.2.1, g.2.2))) else bif Nat.beq a 31 && Nat.beq b 50 then zpe (Q x (g.1 32) (g.1 33) (g.1 34) (g.1 37) (g.1 38) (g.1 50)) (fun t => (some (.int (t.1)), ((zua g.1 34 t.2), g.2.1, g.2.2))) else none
  | _ => none
noncomputable abbrev S_lw_holds : zSp := P_lw_holds q_lw_holds
theorem hA1_lw_holds (F : Nat → Nat → Int32) (w0 : Nat → Int32) : (zua F 34 w0) = (zua F 34 w0) := zuak_ix F [(34, w0)] [(34, some 0)] rfl
theorem hA0_lw_holds (F : Nat → Nat → Int32) (w0 : Nat → Int32) : (zua F 26 w0) = (zua F 26 w0) := zuak_ix F [(26, w0)] [(26, some 0)] rfl
def O_lw_holds_23_50 (ar fi : Nat → Nat → Int32) (m1 : Nat) (m2 : Nat) (m3 : Nat) (m4 : Nat) (m5 : Nat) (t : T_lw_holds) : zO2 := match t with
  | (t0, t1) => (some (.int (t0)), ((zua ar 26 t1), fi, (m1, m2, m3, m4, m5)))
set_option maxRecDepth 1000000 in
theorem t_lw_holds_23_50 {X : Nat × (Nat → Int32)} {ar fi : Nat → Nat → Int32} {m1 m2 m3 m4 m5 : Nat} {x : Int32} {Q_lw_run : Int32 → Int32 → (Nat → Int32) → (Nat → Int32) → (Nat → Int32) → (Nat → Int32) → Option (Int32 × (Nat → Int32))} : zseg X zFT (zEx 46 (P_lw_run Q_lw_run) zE0) zc_45 (fun p => false) 400 0 [.ref 23, .int x, .ref 50] [] (ar, fi, (m1, m2, m3, m4, m5)) = (
  zg (Nat.beq 16 16 && (zin x 16)) (
  zg (Nat.beq 16 16 && (zin x 16)) (
  zl (Q_lw_run ((ar 29) (x.toNatClampNeg)) ((ar 30) (x.toNatClampNeg)) (ar 24) (ar 25) (ar 26) (ar 50)) (fun v1 => zg v1.isSome (
  bif decide (((zgt v1).1) = 0) then
   some (.inr (some (.int 0), ((zua ar 26 (((zgt v1).2))), fi, (m1, m2, m3, m4, m5))))
  else
   some (.inr (some (.int 1), ((zua ar 26 (((zgt v1).2))), fi, (m1, m2, m3, m4, m5)))))))) : Option ((Nat × List Value × List Value × zH2) ⊕ zO2)) := by with_unfolding_all rfl
set_option maxRecDepth 20000 in
theorem e_lw_holds_23_50 {X : Nat × (Nat → Int32)} {ar fi : Nat → Nat → Int32} {m1 m2 m3 m4 m5 : Nat} {x : Int32} {o : zO2} : ∀ (q : T_lw_holds), q_lw_holds x (ar 24) (ar 25) (ar 26) (ar 29) (ar 30) (ar 50) = some q → (fun t => O_lw_holds_23_50 ar fi m1 m2 m3 m4 m5 t = o) q → zR2 X zFT (zEx 46 S_lw_run zE0) zc_45 0 [.ref 23, .int x, .ref 50] [] (ar, fi, (m1, m2, m3, m4, m5)) o := by
  intro q h hq
  unfold q_lw_holds at h
  refine zT_seg t_lw_holds_23_50 ?_
  obtain ⟨TT, hTT⟩ : ∃ T, T = zT X zFT (zEx 46 S_lw_run zE0) zc_45 o := ⟨_, rfl⟩
  rw [← hTT]
  refine zg_el h (fun hg h => zU_ga hTT hg ?_)
  refine zg_el h (fun hg h => zU_ga hTT hg ?_)
  refine zbd_el h (fun v1 hv h => zU_c hTT hv ?_)
  refine zb_el h (fun hb h => zU_t hTT hb ?_) (fun hb h => zU_f hTT hb ?_)
  · rw [hTT]
    have hz := zsi (P := (fun t => O_lw_holds_23_50 ar fi m1 m2 m3 m4 m5 t = o)) h hq
    refine (zO_mk ?_ ?_).trans hz
    · first | with_reducible rfl | exact hA0_lw_holds _ _
    · first | with_reducible rfl | rfl
  · rw [hTT]
    have hz := zsi (P := (fun t => O_lw_holds_23_50 ar fi m1 m2 m3 m4 m5 t = o)) h hq
    refine (zO_mk ?_ ?_).trans hz
    · first | with_reducible rfl | exact hA0_lw_holds _ _
    · first | with_reducible rfl | rfl
def O_lw_holds_31_50 (ar fi : Nat → Nat → Int32) (m1 : Nat) (m2 : Nat) (m3 : Nat) (m4 : Nat) (m5 : Nat) (t : T_lw_holds) : zO2 := match t with
  | (t0, t1) => (some (.int (t0)), ((zua ar 34 t1), fi, (m1, m2, m3, m4, m5)))
set_option maxRecDepth 1000000 in
theorem t_lw_holds_31_50 {X : Nat × (Nat → Int32)} {ar fi : Nat → Nat → Int32} {m1 m2 m3 m4 m5 : Nat} {x : Int32} {Q_lw_run : Int32 → Int32 → (Nat → Int32) → (Nat → Int32) → (Nat → Int32) → (Nat → Int32) → Option (Int32 × (Nat → Int32))} : zseg X zFT (zEx 46 (P_lw_run Q_lw_run) zE0) zc_45 (fun p => false) 400 0 [.ref 31, .int x, .ref 50] [] (ar, fi, (m1, m2, m3, m4, m5)) = (
  zg (Nat.beq 16 16 && (zin x 16)) (
  zg (Nat.beq 16 16 && (zin x 16)) (
  zl (Q_lw_run ((ar 37) (x.toNatClampNeg)) ((ar 38) (x.toNatClampNeg)) (ar 32) (ar 33) (ar 34) (ar 50)) (fun v1 => zg v1.isSome (
  bif decide (((zgt v1).1) = 0) then
   some (.inr (some (.int 0), ((zua ar 34 (((zgt v1).2))), fi, (m1, m2, m3, m4, m5))))
  else
   some (.inr (some (.int 1), ((zua ar 34 (((zgt v1).2))), fi, (m1, m2, m3, m4, m5)))))))) : Option ((Nat × List Value × List Value × zH2) ⊕ zO2)) := by with_unfolding_all rfl
set_option maxRecDepth 20000 in
theorem e_lw_holds_31_50 {X : Nat × (Nat → Int32)} {ar fi : Nat → Nat → Int32} {m1 m2 m3 m4 m5 : Nat} {x : Int32} {o : zO2} : ∀ (q : T_lw_holds), q_lw_holds x (ar 32) (ar 33) (ar 34) (ar 37) (ar 38) (ar 50) = some q → (fun t => O_lw_holds_31_50 ar fi m1 m2 m3 m4 m5 t = o) q → zR2 X zFT (zEx 46 S_lw_run zE0) zc_45 0 [.ref 31, .int x, .ref 50] [] (ar, fi, (m1, m2, m3, m4, m5)) o := by
  intro q h hq
  unfold q_lw_holds at h
  refine zT_seg t_lw_holds_31_50 ?_
  obtain ⟨TT, hTT⟩ : ∃ T, T = zT X zFT (zEx 46 S_lw_run zE0) zc_45 o := ⟨_, rfl⟩
  rw [← hTT]
  refine zg_el h (fun hg h => zU_ga hTT hg ?_)
  refine zg_el h (fun hg h => zU_ga hTT hg ?_)
  refine zbd_el h (fun v1 hv h => zU_c hTT hv ?_)
  refine zb_el h (fun hb h => zU_t hTT hb ?_) (fun hb h => zU_f hTT hb ?_)
  · rw [hTT]
    have hz := zsi (P := (fun t => O_lw_holds_31_50 ar fi m1 m2 m3 m4 m5 t = o)) h hq
    refine (zO_mk ?_ ?_).trans hz
    · first | with_reducible rfl | exact hA1_lw_holds _ _
    · first | with_reducible rfl | rfl
  · rw [hTT]
    have hz := zsi (P := (fun t => O_lw_holds_31_50 ar fi m1 m2 m3 m4 m5 t = o)) h hq
    refine (zO_mk ?_ ?_).trans hz
    · first | with_reducible rfl | exact hA1_lw_holds _ _
    · first | with_reducible rfl | rfl
theorem ok_lw_holds (X : Nat × (Nat → Int32)) : zOkS X 45 S_lw_holds 3 := zOkS_new (zOkE_cons (ok_lw_run X) (by decide) (zOkE_nil X 2)) (by
  intro args g o h
  obtain ⟨ar, fi, m1, m2, m3, m4, m5⟩ := g
  unfold S_lw_holds P_lw_holds at h
  split at h
  · refine zb_el h (fun hI0 k0 => ?_) (fun _ h10 => ?_)
    · try simp only [Bool.and_eq_true] at hI0
      obtain ⟨j0, j1⟩ := hI0
      have e0 := Nat.eq_of_beq_eq_true j0
      subst e0
      have e1 := Nat.eq_of_beq_eq_true j1
      subst e1
      exact zpe_el k0 (fun t ht ho => by obtain ⟨t0, t1⟩ := t; exact e_lw_holds_23_50 _ ht ho)
    · skip
      refine zb_el h10 (fun hI1 k1 => ?_) (fun _ h11 => ?_)
      · try simp only [Bool.and_eq_true] at hI1
        obtain ⟨j0, j1⟩ := hI1
        have e0 := Nat.eq_of_beq_eq_true j0
        subst e0
        have e1 := Nat.eq_of_beq_eq_true j1
        subst e1
        exact zpe_el k1 (fun t ht ho => by obtain ⟨t0, t1⟩ := t; exact e_lw_holds_31_50 _ ht ho)
      · cases h11
  · cases h)
