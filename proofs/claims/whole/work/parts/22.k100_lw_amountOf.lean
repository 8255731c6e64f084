abbrev T_lw_amountOf : Type := Int32 × (Nat → Int32)
abbrev U_lw_amountOf_3 : Type := Int32 × (Nat → Int32)
noncomputable def b_lw_amountOf_3 (x : Int32) (z : Int32) (u : Int32) (a24 : Nat → Int32) (a25 : Nat → Int32) (a27 : Nat → Int32) (a28 : Nat → Int32) (a29 : Nat → Int32) (a30 : Nat → Int32) (a50 : Nat → Int32) (f23_9 : Int32) (l5 : Int32) (b26 : Nat → Int32) : Option (U_lw_amountOf_3 ⊕ T_lw_amountOf) :=
  bif decide (f23_9 ≤ l5) then
   some (.inr (z, b26))
  else
   zg (zin l5 16) (
   bif !decide (a27 (l5.toNatClampNeg) = x) then
    some (.inl (l5 + 1, b26))
   else
    zbd (q_lw_holds l5 a24 a25 b26 a29 a30 a50) (fun v1 =>
    bif decide ((v1.1) = 0) then
     some (.inl (l5 + 1, ((v1.2))))
    else
     zg (zin l5 16) (
     zg (zin l5 16) (
     zbd (q_lw_run (a28 (l5.toNatClampNeg)) (a29 (l5.toNatClampNeg)) a24 a25 ((v1.2)) a50) (fun v2 =>
     some (.inr ((if z < (if (v2.1) < u then (v2.1) else u) then (if (v2.1) < u then (v2.1) else u) else z), ((v2.2)))))))))
noncomputable def f_lw_amountOf_3 (x : Int32) (z : Int32) (u : Int32) (a24 : Nat → Int32) (a25 : Nat → Int32) (a27 : Nat → Int32) (a28 : Nat → Int32) (a29 : Nat → Int32) (a30 : Nat → Int32) (a50 : Nat → Int32) (f23_9 : Int32) : U_lw_amountOf_3 → Option (U_lw_amountOf_3 ⊕ T_lw_amountOf) := fun s => b_lw_amountOf_3 x z u a24 a25 a27 a28 a29 a30 a50 f23_9 s.1 s.2
noncomputable def l_lw_amountOf_3 (x : Int32) (z : Int32) (u : Int32) (a24 : Nat → Int32) (a25 : Nat → Int32) (a27 : Nat → Int32) (a28 : Nat → Int32) (a29 : Nat → Int32) (a30 : Nat → Int32) (a50 : Nat → Int32) (f23_9 : Int32) (l5 : Int32) (b26 : Nat → Int32) : Option T_lw_amountOf := zlp (f_lw_amountOf_3 x z u a24 a25 a27 a28 a29 a30 a50 f23_9) (l5, b26)
noncomputable def q_lw_amountOf (x : Int32) (z : Int32) (u : Int32) (a24 : Nat → Int32) (a25 : Nat → Int32) (a26 : Nat → Int32) (a27 : Nat → Int32) (a28 : Nat → Int32) (a29 : Nat → Int32) (a30 : Nat → Int32) (a50 : Nat → Int32) (f23_9 : Int32) : Option T_lw_amountOf :=
  l_lw_amountOf_3 x z u a24 a25 a27 a28 a29 a30 a50 f23_9 0 a26
def P_lw_amountOf (Q : Int32 → Int32 → Int32 → (Nat → Int32) → (Nat → Int32) → (Nat → Int32) → (Nat → Int32) → (Nat → Int32) → (Nat → Int32) → (Nat → Int32) → (Nat → Int32) → Int32 → Option (Int32 × (Nat → Int32))) : zSp := fun as g => match as with
  | [.ref a, .int x, .ref b, .int z, .int u] => bif Nat.beq a 23 && Nat.beq b 50 then zpe (Q x z u (g.1 24) (g.1 25) (g.1 26) (g.1 27) (g.1 28) (g.1 29) (g.1 30) (g.1 50) (g.2.1 23 9)) (fun t => (some (.int (t.1)), ((zua g.1 26 t.2), g.2.1, g.2.2))) else bif Nat.beq a 31 && Nat.beq b 50 then zpe (Q x z u (g.1 32) (g.1 33) (g.1 34) (g.1 35) (g.1 36) (g.1 37) (g.1 38) (g.1 50) (g.2.1 31 9)) (fun t => (some (.int (t.1)), ((zua g.1 34 t.2), g.2.1, g.2.2))) else none
  | _ => none
noncomputable abbrev S_lw_amountOf : zSp := P_lw_amountOf q_lw_amountOf
theorem hA7_lw_amountOf (F : Nat → Nat → Int32) : F = (zua F 34 (F 34)) := zuak_ix F [] [(34, none)] rfl
theorem hA6_lw_amountOf (F : Nat → Nat → Int32) (w0 w1 w2 : Nat → Int32) : (zua (zua (zua F 34 w0) 34 w1) 34 w2) = (zua F 34 w2) := zuak_ix F [(34, w0), (34, w1), (34, w2)] [(34, some 2)] rfl
theorem hA5_lw_amountOf (F : Nat → Nat → Int32) (w0 w1 : Nat → Int32) : (zua (zua F 34 w0) 34 w1) = (zua F 34 w1) := zuak_ix F [(34, w0), (34, w1)] [(34, some 1)] rfl
theorem hA4_lw_amountOf (F : Nat → Nat → Int32) (w0 : Nat → Int32) : (zua F 34 w0) = (zua F 34 w0) := zuak_ix F [(34, w0)] [(34, some 0)] rfl
theorem hA3_lw_amountOf (F : Nat → Nat → Int32) : F = (zua F 26 (F 26)) := zuak_ix F [] [(26, none)] rfl
theorem hA2_lw_amountOf (F : Nat → Nat → Int32) (w0 w1 w2 : Nat → Int32) : (zua (zua (zua F 26 w0) 26 w1) 26 w2) = (zua F 26 w2) := zuak_ix F [(26, w0), (26, w1), (26, w2)] [(26, some 2)] rfl
theorem hA1_lw_amountOf (F : Nat → Nat → Int32) (w0 w1 : Nat → Int32) : (zua (zua F 26 w0) 26 w1) = (zua F 26 w1) := zuak_ix F [(26, w0), (26, w1)] [(26, some 1)] rfl
theorem hA0_lw_amountOf (F : Nat → Nat → Int32) (w0 : Nat → Int32) : (zua F 26 w0) = (zua F 26 w0) := zuak_ix F [(26, w0)] [(26, some 0)] rfl
def O_lw_amountOf_23_50 (ar fi : Nat → Nat → Int32) (m1 : Nat) (m2 : Nat) (m3 : Nat) (m4 : Nat) (m5 : Nat) (t : T_lw_amountOf) : zO2 := match t with
  | (t0, t1) => (some (.int (t0)), ((zua ar 26 t1), fi, (m1, m2, m3, m4, m5)))
def M_lw_amountOf_3_23_50 (X : Nat × (Nat → Int32)) (E : zTE) (ar fi : Nat → Nat → Int32) (m1 : Nat) (m2 : Nat) (m3 : Nat) (m4 : Nat) (m5 : Nat) (x : Int32) (z : Int32) (u : Int32) (o : zO2) (s : U_lw_amountOf_3) : Prop := match s with
  | (l5, b26) => zR2 X zFT E zc_43 3 [.ref 23, .int x, .ref 50, .int z, .int u, .int l5] [] ((zua ar 26 b26), fi, (m1, m2, m3, m4, m5)) o
set_option maxRecDepth 1000000 in
theorem t3_lw_amountOf_23_50 {X : Nat × (Nat → Int32)} {ar fi : Nat → Nat → Int32} {m1 m2 m3 m4 m5 : Nat} {x z u : Int32} {l5 : Int32} {b26 : Nat → Int32} {Q_lw_holds : Int32 → (Nat → Int32) → (Nat → Int32) → (Nat → Int32) → (Nat → Int32) → (Nat → Int32) → (Nat → Int32) → Option (Int32 × (Nat → Int32))} {Q_lw_run : Int32 → Int32 → (Nat → Int32) → (Nat → Int32) → (Nat → Int32) → (Nat → Int32) → Option (Int32 × (Nat → Int32))} : zseg X zFT (zEx 45 (P_lw_holds Q_lw_holds) (zEx 46 (P_lw_run Q_lw_run) zE0)) zc_43 (fun p => Nat.beq p 3) 400 3 [.ref 23, .int x, .ref 50, .int z, .int u, .int l5] [] ((zua ar 26 b26), fi, (m1, m2, m3, m4, m5)) = (
  bif decide (fi 23 9 ≤ l5) then
   some (.inr (some (.int z), ((zua ar 26 b26), fi, (m1, m2, m3, m4, m5))))
  else
   zg (Nat.beq 16 16 && (zin l5 16)) (
   bif !decide ((ar 27) (l5.toNatClampNeg) = x) then
    some (.inl (3, [.ref 23, .int x, .ref 50, .int z, .int u, .int (l5 + 1)], [], ((zua ar 26 b26), fi, (m1, m2, m3, m4, m5))))
   else
    zl (Q_lw_holds l5 (ar 24) (ar 25) b26 (ar 29) (ar 30) (ar 50)) (fun v1 => zg v1.isSome (
    bif decide (((zgt v1).1) = 0) then
     some (.inl (3, [.ref 23, .int x, .ref 50, .int z, .int u, .int (l5 + 1)], [], ((zua (zua ar 26 b26) 26 (((zgt v1).2))), fi, (m1, m2, m3, m4, m5))))
    else
     zg (Nat.beq 16 16 && (zin l5 16)) (
     zg (Nat.beq 16 16 && (zin l5 16)) (
     zl (Q_lw_run ((ar 28) (l5.toNatClampNeg)) ((ar 29) (l5.toNatClampNeg)) (ar 24) (ar 25) (((zgt v1).2)) (ar 50)) (fun v2 => zg v2.isSome (
     some (.inr (some (.int (if z < (if ((zgt v2).1) < u then ((zgt v2).1) else u) then (if ((zgt v2).1) < u then ((zgt v2).1) else u) else z)), ((zua (zua (zua ar 26 b26) 26 (((zgt v1).2))) 26 (((zgt v2).2))), fi, (m1, m2, m3, m4, m5))))))))))) : Option ((Nat × List Value × List Value × zH2) ⊕ zO2)) := by with_unfolding_all rfl
set_option maxRecDepth 20000 in
theorem k_lw_amountOf_3_23_50 {X : Nat × (Nat → Int32)} {ar fi : Nat → Nat → Int32} {m1 m2 m3 m4 m5 : Nat} {x z u : Int32} {o : zO2} : ∀ (s : U_lw_amountOf_3) (q : U_lw_amountOf_3 ⊕ T_lw_amountOf), f_lw_amountOf_3 x z u (ar 24) (ar 25) (ar 27) (ar 28) (ar 29) (ar 30) (ar 50) (fi 23 9) s = some q → zq (M_lw_amountOf_3_23_50 X (zEx 45 S_lw_holds (zEx 46 S_lw_run zE0)) ar fi m1 m2 m3 m4 m5 x z u o) (fun t => O_lw_amountOf_23_50 ar fi m1 m2 m3 m4 m5 t = o) q → M_lw_amountOf_3_23_50 X (zEx 45 S_lw_holds (zEx 46 S_lw_run zE0)) ar fi m1 m2 m3 m4 m5 x z u o s := by
  intro s q h hq
  obtain ⟨l5, b26⟩ := s
  have h : b_lw_amountOf_3 x z u (ar 24) (ar 25) (ar 27) (ar 28) (ar 29) (ar 30) (ar 50) (fi 23 9) l5 b26 = some q := h
  unfold b_lw_amountOf_3 at h
  show zR2 X zFT (zEx 45 S_lw_holds (zEx 46 S_lw_run zE0)) zc_43 3 [.ref 23, .int x, .ref 50, .int z, .int u, .int l5] [] ((zua ar 26 b26), fi, (m1, m2, m3, m4, m5)) o
  refine zT_seg t3_lw_amountOf_23_50 ?_
  obtain ⟨TT, hTT⟩ : ∃ T, T = zT X zFT (zEx 45 S_lw_holds (zEx 46 S_lw_run zE0)) zc_43 o := ⟨_, rfl⟩
  rw [← hTT]
  refine zb_el h (fun hb h => zU_t hTT hb ?_) (fun hb h => zU_f hTT hb ?_)
  · rw [hTT]
    have hz := zsi h hq
    refine (zO_mk ?_ ?_).trans hz
    · first | with_reducible rfl | exact hA0_lw_amountOf _ _
    · first | with_reducible rfl | rfl
  · refine zg_el h (fun hg h => zU_ga hTT hg ?_)
    refine zb_el h (fun hb h => zU_t hTT hb ?_) (fun hb h => zU_f hTT hb ?_)
    · rw [hTT]
      have hz := zsi h hq
      refine zR2_hp ?_ ?_ hz
      · first | with_reducible rfl | exact hA0_lw_amountOf _ _
      · first | with_reducible rfl | rfl
    · refine zbd_el h (fun v1 hv h => zU_c hTT hv ?_)
      refine zb_el h (fun hb h => zU_t hTT hb ?_) (fun hb h => zU_f hTT hb ?_)
      · rw [hTT]
        have hz := zsi h hq
        refine zR2_hp ?_ ?_ hz
        · first | with_reducible rfl | exact hA1_lw_amountOf _ _ _
        · first | with_reducible rfl | rfl
      · refine zg_el h (fun hg h => zU_ga hTT hg ?_)
        refine zg_el h (fun hg h => zU_ga hTT hg ?_)
        refine zbd_el h (fun v2 hv h => zU_c hTT hv ?_)
        rw [hTT]
        have hz := zsi h hq
        refine (zO_mk ?_ ?_).trans hz
        · first | with_reducible rfl | exact hA2_lw_amountOf _ _ _ _
        · first | with_reducible rfl | rfl
set_option maxRecDepth 1000000 in
theorem t_lw_amountOf_23_50 {X : Nat × (Nat → Int32)} {ar fi : Nat → Nat → Int32} {m1 m2 m3 m4 m5 : Nat} {x z u : Int32} {Q_lw_holds : Int32 → (Nat → Int32) → (Nat → Int32) → (Nat → Int32) → (Nat → Int32) → (Nat → Int32) → (Nat → Int32) → Option (Int32 × (Nat → Int32))} {Q_lw_run : Int32 → Int32 → (Nat → Int32) → (Nat → Int32) → (Nat → Int32) → (Nat → Int32) → Option (Int32 × (Nat → Int32))} : zseg X zFT (zEx 45 (P_lw_holds Q_lw_holds) (zEx 46 (P_lw_run Q_lw_run) zE0)) zc_43 (fun p => Nat.beq p 3) 400 0 [.ref 23, .int x, .ref 50, .int z, .int u] [] (ar, fi, (m1, m2, m3, m4, m5)) = (
  some (.inl (3, [.ref 23, .int x, .ref 50, .int z, .int u, .int 0], [], (ar, fi, (m1, m2, m3, m4, m5)))) : Option ((Nat × List Value × List Value × zH2) ⊕ zO2)) := by with_unfolding_all rfl
set_option maxRecDepth 20000 in
theorem e_lw_amountOf_23_50 {X : Nat × (Nat → Int32)} {ar fi : Nat → Nat → Int32} {m1 m2 m3 m4 m5 : Nat} {x z u : Int32} {o : zO2} : ∀ (q : T_lw_amountOf), q_lw_amountOf x z u (ar 24) (ar 25) (ar 26) (ar 27) (ar 28) (ar 29) (ar 30) (ar 50) (fi 23 9) = some q → (fun t => O_lw_amountOf_23_50 ar fi m1 m2 m3 m4 m5 t = o) q → zR2 X zFT (zEx 45 S_lw_holds (zEx 46 S_lw_run zE0)) zc_43 0 [.ref 23, .int x, .ref 50, .int z, .int u] [] (ar, fi, (m1, m2, m3, m4, m5)) o := by
  intro q h hq
  unfold q_lw_amountOf at h
  refine zT_seg t_lw_amountOf_23_50 ?_
  obtain ⟨TT, hTT⟩ : ∃ T, T = zT X zFT (zEx 45 S_lw_holds (zEx 46 S_lw_run zE0)) zc_43 o := ⟨_, rfl⟩
  rw [← hTT]
  rw [hTT]
  refine zR2_hp ?_ ?_ (zlp_K k_lw_amountOf_3_23_50 h hq)
  · first | with_reducible rfl | exact hA3_lw_amountOf _
  · first | with_reducible rfl | rfl
def O_lw_amountOf_31_50 (ar fi : Nat → Nat → Int32) (m1 : Nat) (m2 : Nat) (m3 : Nat) (m4 : Nat) (m5 : Nat) (t : T_lw_amountOf) : zO2 := match t with
  | (t0, t1) => (some (.int (t0)), ((zua ar 34 t1), fi, (m1, m2, m3, m4, m5)))
def M_lw_amountOf_3_31_50 (X : Nat × (Nat → Int32)) (E : zTE) (ar fi : Nat → Nat → Int32) (m1 : Nat) (m2 : Nat) (m3 : Nat) (m4 : Nat) (m5 : Nat) (x : Int32) (z : Int32) (u : Int32) (o : zO2) (s : U_lw_amountOf_3) : Prop := match s with
  | (l5, b34) => zR2 X zFT E zc_43 3 [.ref 31, .int x, .ref 50, .int z, .int u, .int l5] [] ((zua ar 34 b34), fi, (m1, m2, m3, m4, m5)) o
set_option maxRecDepth 1000000 in
theorem t3_lw_amountOf_31_50 {X : Nat × (Nat → Int32)} {ar fi : Nat → Nat → Int32} {m1 m2 m3 m4 m5 : Nat} {x z u : Int32} {l5 : Int32} {b34 : Nat → Int32} {Q_lw_holds : Int32 → (Nat → Int32) → (Nat → Int32) → (Nat → Int32) → (Nat → Int32) → (Nat → Int32) → (Nat → Int32) → Option (Int32 × (Nat → Int32))} {Q_lw_run : Int32 → Int32 → (Nat → Int32) → (Nat → Int32) → (Nat → Int32) → (Nat → Int32) → Option (Int32 × (Nat → Int32))} : zseg X zFT (zEx 45 (P_lw_holds Q_lw_holds) (zEx 46 (P_lw_run Q_lw_run) zE0)) zc_43 (fun p => Nat.beq p 3) 400 3 [.ref 31, .int x, .ref 50, .int z, .int u, .int l5] [] ((zua ar 34 b34), fi, (m1, m2, m3, m4, m5)) = (
  bif decide (fi 31 9 ≤ l5) then
   some (.inr (some (.int z), ((zua ar 34 b34), fi, (m1, m2, m3, m4, m5))))
  else
   zg (Nat.beq 16 16 && (zin l5 16)) (
   bif !decide ((ar 35) (l5.toNatClampNeg) = x) then
    some (.inl (3, [.ref 31, .int x, .ref 50, .int z, .int u, .int (l5 + 1)], [], ((zua ar 34 b34), fi, (m1, m2, m3, m4, m5))))
   else
    zl (Q_lw_holds l5 (ar 32) (ar 33) b34 (ar 37) (ar 38) (ar 50)) (fun v1 => zg v1.isSome (
    bif decide (((zgt v1).1) = 0) then
     some (.inl (3, [.ref 31, .int x, .ref 50, .int z, .int u, .int (l5 + 1)], [], ((zua (zua ar 34 b34) 34 (((zgt v1).2))), fi, (m1, m2, m3, m4, m5))))
    else
     zg (Nat.beq 16 16 && (zin l5 16)) (
     zg (Nat.beq 16 16 && (zin l5 16)) (
     zl (Q_lw_run ((ar 36) (l5.toNatClampNeg)) ((ar 37) (l5.toNatClampNeg)) (ar 32) (ar 33) (((zgt v1).2)) (ar 50)) (fun v2 => zg v2.isSome (
     some (.inr (some (.int (if z < (if ((zgt v2).1) < u then ((zgt v2).1) else u) then (if ((zgt v2).1) < u then ((zgt v2).1) else u) else z)), ((zua (zua (zua ar 34 b34) 34 (((zgt v1).2))) 34 (((zgt v2).2))), fi, (m1, m2, m3, m4, m5))))))))))) : Option ((Nat × List Value × List Value × zH2) ⊕ zO2)) := by with_unfolding_all rfl
set_option maxRecDepth 20000 in
theorem k_lw_amountOf_3_31_50 {X : Nat × (Nat → Int32)} {ar fi : Nat → Nat → Int32} {m1 m2 m3 m4 m5 : Nat} {x z u : Int32} {o : zO2} : ∀ (s : U_lw_amountOf_3) (q : U_lw_amountOf_3 ⊕ T_lw_amountOf), f_lw_amountOf_3 x z u (ar 32) (ar 33) (ar 35) (ar 36) (ar 37) (ar 38) (ar 50) (fi 31 9) s = some q → zq (M_lw_amountOf_3_31_50 X (zEx 45 S_lw_holds (zEx 46 S_lw_run zE0)) ar fi m1 m2 m3 m4 m5 x z u o) (fun t => O_lw_amountOf_31_50 ar fi m1 m2 m3 m4 m5 t = o) q → M_lw_amountOf_3_31_50 X (zEx 45 S_lw_holds (zEx 46 S_lw_run zE0)) ar fi m1 m2 m3 m4 m5 x z u o s := by
  intro s q h hq
  obtain ⟨l5, b34⟩ := s
  have h : b_lw_amountOf_3 x z u (ar 32) (ar 33) (ar 35) (ar 36) (ar 37) (ar 38) (ar 50) (fi 31 9) l5 b34 = some q := h
  unfold b_lw_amountOf_3 at h
  show zR2 X zFT (zEx 45 S_lw_holds (zEx 46 S_lw_run zE0)) zc_43 3 [.ref 31, .int x, .ref 50, .int z, .int u, .int l5] [] ((zua ar 34 b34), fi, (m1, m2, m3, m4, m5)) o
  refine zT_seg t3_lw_amountOf_31_50 ?_
  obtain ⟨TT, hTT⟩ : ∃ T, T = zT X zFT (zEx 45 S_lw_holds (zEx 46 S_lw_run zE0)) zc_43 o := ⟨_, rfl⟩
  rw [← hTT]
  refine zb_el h (fun hb h => zU_t hTT hb ?_) (fun hb h => zU_f hTT hb ?_)
  · rw [hTT]
    have hz := zsi h hq
    refine (zO_mk ?_ ?_).trans hz
    · first | with_reducible rfl | exact hA4_lw_amountOf _ _
    · first | with_reducible rfl | rfl
  · refine zg_el h (fun hg h => zU_ga hTT hg ?_)
    refine zb_el h (fun hb h => zU_t hTT hb ?_) (fun hb h => zU_f hTT hb ?_)
    · rw [hTT]
      have hz := zsi h hq
      refine zR2_hp ?_ ?_ hz
      · first | with_reducible rfl | exact hA4_lw_amountOf _ _
      · first | with_reducible rfl | rfl
    · refine zbd_el h (fun v1 hv h => zU_c hTT hv ?_)
      refine zb_el h (fun hb h => zU_t hTT hb ?_) (fun hb h => zU_f hTT hb ?_)
      · rw [hTT]
        have hz := zsi h hq
        refine zR2_hp ?_ ?_ hz
        · first | with_reducible rfl | exact hA5_lw_amountOf _ _ _
        · first | with_reducible rfl | rfl
      · refine zg_el h (fun hg h => zU_ga hTT hg ?_)
        refine zg_el h (fun hg h => zU_ga hTT hg ?_)
        refine zbd_el h (fun v2 hv h => zU_c hTT hv ?_)
        rw [hTT]
        have hz := zsi h hq
        refine (zO_mk ?_ ?_).trans hz
        · first | with_reducible rfl | exact hA6_lw_amountOf _ _ _ _
        · first | with_reducible rfl | rfl
set_option maxRecDepth 1000000 in
theorem t_lw_amountOf_31_50 {X : Nat × (Nat → Int32)} {ar fi : Nat → Nat → Int32} {m1 m2 m3 m4 m5 : Nat} {x z u : Int32} {Q_lw_holds : Int32 → (Nat → Int32) → (Nat → Int32) → (Nat → Int32) → (Nat → Int32) → (Nat → Int32) → (Nat → Int32) → Option (Int32 × (Nat → Int32))} {Q_lw_run : Int32 → Int32 → (Nat → Int32) → (Nat → Int32) → (Nat → Int32) → (Nat → Int32) → Option (Int32 × (Nat → Int32))} : zseg X zFT (zEx 45 (P_lw_holds Q_lw_holds) (zEx 46 (P_lw_run Q_lw_run) zE0)) zc_43 (fun p => Nat.beq p 3) 400 0 [.ref 31, .int x, .ref 50, .int z, .int u] [] (ar, fi, (m1, m2, m3, m4, m5)) = (
  some (.inl (3, [.ref 31, .int x, .ref 50, .int z, .int u, .int 0], [], (ar, fi, (m1, m2, m3, m4, m5)))) : Option ((Nat × List Value × List Value × zH2) ⊕ zO2)) := by with_unfolding_all rfl
set_option maxRecDepth 20000 in
theorem e_lw_amountOf_31_50 {X : Nat × (Nat → Int32)} {ar fi : Nat → Nat → Int32} {m1 m2 m3 m4 m5 : Nat} {x z u : Int32} {o : zO2} : ∀ (q : T_lw_amountOf), q_lw_amountOf x z u (ar 32) (ar 33) (ar 34) (ar 35) (ar 36) (ar 37) (ar 38) (ar 50) (fi 31 9) = some q → (fun t => O_lw_amountOf_31_50 ar fi m1 m2 m3 m4 m5 t = o) q → zR2 X zFT (zEx 45 S_lw_holds (zEx 46 S_lw_run zE0)) zc_43 0 [.ref 31, .int x, .ref 50, .int z, .int u] [] (ar, fi, (m1, m2, m3, m4, m5)) o := by
  intro q h hq
  unfold q_lw_amountOf at h
  refine zT_seg t_lw_amountOf_31_50 ?_
  obtain ⟨TT, hTT⟩ : ∃ T, T = zT X zFT (zEx 45 S_lw_holds (zEx 46 S_lw_run zE0)) zc_43 o := ⟨_, rfl⟩
  rw [← hTT]
  rw [hTT]
  refine zR2_hp ?_ ?_ (zlp_K k_lw_amountOf_3_31_50 h hq)
  · first | with_reducible rfl | exact hA7_lw_amountOf _
  · first | with_reducible rfl | rfl
theorem ok_lw_amountOf (X : Nat × (Nat → Int32)) : zOkS X 43 S_lw_amountOf 4 := zOkS_new (zOkE_cons (ok_lw_holds X) (by decide) (zOkE_cons (ok_lw_run X) (by decide) (zOkE_nil X 3))) (by
  intro args g o h
  obtain ⟨ar, fi, m1, m2, m3, m4, m5⟩ := g
  unfold S_lw_amountOf P_lw_amountOf at h
  split at h
  · refine zb_el h (fun hI0 k0 => ?_) (fun _ h10 => ?_)
    · try simp only [Bool.and_eq_true] at hI0
      obtain ⟨j0, j1⟩ := hI0
      have e0 := Nat.eq_of_beq_eq_true j0
      subst e0
      have e1 := Nat.eq_of_beq_eq_true j1
      subst e1
      exact zpe_el k0 (fun t ht ho => by obtain ⟨t0, t1⟩ := t; exact e_lw_amountOf_23_50 _ ht ho)
    · skip
      refine zb_el h10 (fun hI1 k1 => ?_) (fun _ h11 => ?_)
      · try simp only [Bool.and_eq_true] at hI1
        obtain ⟨j0, j1⟩ := hI1
        have e0 := Nat.eq_of_beq_eq_true j0
        subst e0
        have e1 := Nat.eq_of_beq_eq_true j1
        subst e1
        exact zpe_el k1 (fun t ht ho => by obtain ⟨t0, t1⟩ := t; exact e_lw_amountOf_31_50 _ ht ho)
      · cases h11
  · cases h)
