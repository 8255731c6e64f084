abbrev T_md_roundFigure : Type := Int32
abbrev U_md_roundFigure_17 : Type := Int32 × Int32
def b_md_roundFigure_17 (x : Int32) (l2 : Int32) (l3 : Int32) : Option (U_md_roundFigure_17 ⊕ T_md_roundFigure) :=
  bif decide (1000000 < l3) then
   some (.inr l2)
  else
   zl (w_md_size (l3 - x)) (fun v2 =>
   zl (w_md_size (l2 - x)) (fun v3 =>
   bif decide (v3 ≤ v2) then
    zl (w_md_size ((2 * l3) - x)) (fun v4 =>
    zl (w_md_size (l2 - x)) (fun v5 =>
    bif decide (v5 ≤ v4) then
     zl (w_md_size ((5 * l3) - x)) (fun v6 =>
     zl (w_md_size (l2 - x)) (fun v7 =>
     bif decide (v7 ≤ v6) then
      some (.inl (l2, l3 * 10))
     else
      some (.inl (5 * l3, l3 * 10))))
    else
     zl (w_md_size ((5 * l3) - x)) (fun v8 =>
     zl (w_md_size ((2 * l3) - x)) (fun v9 =>
     bif decide (v9 ≤ v8) then
      some (.inl (2 * l3, l3 * 10))
     else
      some (.inl (5 * l3, l3 * 10))))))
   else
    zl (w_md_size ((2 * l3) - x)) (fun v10 =>
    zl (w_md_size (l3 - x)) (fun v11 =>
    bif decide (v11 ≤ v10) then
     zl (w_md_size ((5 * l3) - x)) (fun v12 =>
     zl (w_md_size (l3 - x)) (fun v13 =>
     bif decide (v13 ≤ v12) then
      some (.inl (l3, l3 * 10))
     else
      some (.inl (5 * l3, l3 * 10))))
    else
     zl (w_md_size ((5 * l3) - x)) (fun v14 =>
     zl (w_md_size ((2 * l3) - x)) (fun v15 =>
     bif decide (v15 ≤ v14) then
      some (.inl (2 * l3, l3 * 10))
     else
      some (.inl (5 * l3, l3 * 10))))))))
def f_md_roundFigure_17 (x : Int32) : U_md_roundFigure_17 → Option (U_md_roundFigure_17 ⊕ T_md_roundFigure) := fun s => b_md_roundFigure_17 x s.1 s.2
noncomputable def l_md_roundFigure_17 (x : Int32) (l2 : Int32) (l3 : Int32) : Option T_md_roundFigure := zlp (f_md_roundFigure_17 x) (l2, l3)
noncomputable def q_md_roundFigure (x : Int32) : Option T_md_roundFigure :=
  zl (w_md_in x 1 999999) (fun v1 =>
  bif !decide (v1 = 0) then
   l_md_roundFigure_17 x 1 1
  else
   some (-1))
def P_md_roundFigure (Q : Int32 → Option (Int32)) : zSp := fun as g => match as with
  | [.ref a, .int x] => bif Nat.beq a 64 then zpe (Q x) (fun t => (some (.int t), (g.1, g.2.1, g.2.2))) else none
  | _ => none
noncomputable abbrev S_md_roundFigure : zSp := P_md_roundFigure q_md_roundFigure
def O_md_roundFigure (ar fi : Nat → Nat → Int32) (m1 : Nat) (m2 : Nat) (m3 : Nat) (m4 : Nat) (m5 : Nat) (t : T_md_roundFigure) : zO2 := (some (.int t), (ar, fi, (m1, m2, m3, m4, m5)))
def M_md_roundFigure_17 (X : Nat × (Nat → Int32)) (E : zTE) (ar fi : Nat → Nat → Int32) (m1 : Nat) (m2 : Nat) (m3 : Nat) (m4 : Nat) (m5 : Nat) (x : Int32) (o : zO2) (s : U_md_roundFigure_17) : Prop := match s with
  | (l2, l3) => zR2 X zFT E zc_235 17 [.ref 64, .int x, .int l2, .int l3] [] (ar, fi, (m1, m2, m3, m4, m5)) o
set_option maxRecDepth 1000000 in
theorem t17_md_roundFigure {X : Nat × (Nat → Int32)} {ar fi : Nat → Nat → Int32} {m1 m2 m3 m4 m5 : Nat} {x : Int32} {l2 : Int32} {l3 : Int32} {W_md_in : Int32 → Int32 → Int32 → Int32} {W_md_size : Int32 → Int32} : zseg X zFT (zEx 143 (P_md_in W_md_in) (zEx 145 (P_md_size W_md_size) zE0)) zc_235 (fun p => Nat.beq p 17) 400 17 [.ref 64, .int x, .int l2, .int l3] [] (ar, fi, (m1, m2, m3, m4, m5)) = (
  bif decide (1000000 < l3) then
   some (.inr (some (.int l2), (ar, fi, (m1, m2, m3, m4, m5))))
  else
   zl (W_md_size (l3 - x)) (fun v2 =>
   zl (W_md_size (l2 - x)) (fun v3 =>
   bif decide (v3 ≤ v2) then
    zl (W_md_size ((2 * l3) - x)) (fun v4 =>
    zl (W_md_size (l2 - x)) (fun v5 =>
    bif decide (v5 ≤ v4) then
     zl (W_md_size ((5 * l3) - x)) (fun v6 =>
     zl (W_md_size (l2 - x)) (fun v7 =>
     bif decide (v7 ≤ v6) then
      some (.inl (17, [.ref 64, .int x, .int l2, .int (l3 * 10)], [], (ar, fi, (m1, m2, m3, m4, m5))))
     else
      some (.inl (17, [.ref 64, .int x, .int (5 * l3), .int (l3 * 10)], [], (ar, fi, (m1, m2, m3, m4, m5))))))
    else
     zl (W_md_size ((5 * l3) - x)) (fun v8 =>
     zl (W_md_size ((2 * l3) - x)) (fun v9 =>
     bif decide (v9 ≤ v8) then
      some (.inl (17, [.ref 64, .int x, .int (2 * l3), .int (l3 * 10)], [], (ar, fi, (m1, m2, m3, m4, m5))))
     else
      some (.inl (17, [.ref 64, .int x, .int (5 * l3), .int (l3 * 10)], [], (ar, fi, (m1, m2, m3, m4, m5))))))))
   else
    zl (W_md_size ((2 * l3) - x)) (fun v10 =>
    zl (W_md_size (l3 - x)) (fun v11 =>
    bif decide (v11 ≤ v10) then
     zl (W_md_size ((5 * l3) - x)) (fun v12 =>
     zl (W_md_size (l3 - x)) (fun v13 =>
     bif decide (v13 ≤ v12) then
      some (.inl (17, [.ref 64, .int x, .int l3, .int (l3 * 10)], [], (ar, fi, (m1, m2, m3, m4, m5))))
     else
      some (.inl (17, [.ref 64, .int x, .int (5 * l3), .int (l3 * 10)], [], (ar, fi, (m1, m2, m3, m4, m5))))))
    else
     zl (W_md_size ((5 * l3) - x)) (fun v14 =>
     zl (W_md_size ((2 * l3) - x)) (fun v15 =>
     bif decide (v15 ≤ v14) then
      some (.inl (17, [.ref 64, .int x, .int (2 * l3), .int (l3 * 10)], [], (ar, fi, (m1, m2, m3, m4, m5))))
     else
      some (.inl (17, [.ref 64, .int x, .int (5 * l3), .int (l3 * 10)], [], (ar, fi, (m1, m2, m3, m4, m5)))))))))) : Option ((Nat × List Value × List Value × zH2) ⊕ zO2)) := by with_unfolding_all rfl
set_option maxRecDepth 20000 in
theorem k_md_roundFigure_17 {X : Nat × (Nat → Int32)} {ar fi : Nat → Nat → Int32} {m1 m2 m3 m4 m5 : Nat} {x : Int32} {o : zO2} : ∀ (s : U_md_roundFigure_17) (q : U_md_roundFigure_17 ⊕ T_md_roundFigure), f_md_roundFigure_17 x s = some q → zq (M_md_roundFigure_17 X (zEx 143 S_md_in (zEx 145 S_md_size zE0)) ar fi m1 m2 m3 m4 m5 x o) (fun t => O_md_roundFigure ar fi m1 m2 m3 m4 m5 t = o) q → M_md_roundFigure_17 X (zEx 143 S_md_in (zEx 145 S_md_size zE0)) ar fi m1 m2 m3 m4 m5 x o s := by
  intro s q h hq
  obtain ⟨l2, l3⟩ := s
  have h : b_md_roundFigure_17 x l2 l3 = some q := h
  unfold b_md_roundFigure_17 at h
  show zR2 X zFT (zEx 143 S_md_in (zEx 145 S_md_size zE0)) zc_235 17 [.ref 64, .int x, .int l2, .int l3] [] (ar, fi, (m1, m2, m3, m4, m5)) o
  refine zT_seg t17_md_roundFigure ?_
  obtain ⟨TT, hTT⟩ : ∃ T, T = zT X zFT (zEx 143 S_md_in (zEx 145 S_md_size zE0)) zc_235 o := ⟨_, rfl⟩
  rw [← hTT]
  refine zb_el h (fun hb h => zU_t hTT hb ?_) (fun hb h => zU_f hTT hb ?_)
  · rw [hTT]
    have hz := zsi h hq
    refine (zO_mk ?_ ?_).trans hz
    · first | with_reducible rfl | rfl
    · first | with_reducible rfl | rfl
  · refine zl_el h (fun h => zU_l hTT ?_)
    refine zl_el h (fun h => zU_l hTT ?_)
    refine zb_el h (fun hb h => zU_t hTT hb ?_) (fun hb h => zU_f hTT hb ?_)
    · refine zl_el h (fun h => zU_l hTT ?_)
      refine zl_el h (fun h => zU_l hTT ?_)
      refine zb_el h (fun hb h => zU_t hTT hb ?_) (fun hb h => zU_f hTT hb ?_)
      · refine zl_el h (fun h => zU_l hTT ?_)
        refine zl_el h (fun h => zU_l hTT ?_)
        refine zb_el h (fun hb h => zU_t hTT hb ?_) (fun hb h => zU_f hTT hb ?_)
        · rw [hTT]
          have hz := zsi h hq
          refine zR2_hp ?_ ?_ hz
          · first | with_reducible rfl | rfl
          · first | with_reducible rfl | rfl
        · rw [hTT]
          have hz := zsi h hq
          refine zR2_hp ?_ ?_ hz
          · first | with_reducible rfl | rfl
          · first | with_reducible rfl | rfl
      · refine zl_el h (fun h => zU_l hTT ?_)
        refine zl_el h (fun h => zU_l hTT ?_)
        refine zb_el h (fun hb h => zU_t hTT hb ?_) (fun hb h => zU_f hTT hb ?_)
        · rw [hTT]
          have hz := zsi h hq
          refine zR2_hp ?_ ?_ hz
          · first | with_reducible rfl | rfl
          · first | with_reducible rfl | rfl
        · rw [hTT]
          have hz := zsi h hq
          refine zR2_hp ?_ ?_ hz
          · first | with_reducible rfl | rfl
          · first | with_reducible rfl | rfl
    · refine zl_el h (fun h => zU_l hTT ?_)
      refine zl_el h (fun h => zU_l hTT ?_)
      refine zb_el h (fun hb h => zU_t hTT hb ?_) (fun hb h => zU_f hTT hb ?_)
      · refine zl_el h (fun h => zU_l hTT ?_)
        refine zl_el h (fun h => zU_l hTT ?_)
        refine zb_el h (fun hb h => zU_t hTT hb ?_) (fun hb h => zU_f hTT hb ?_)
        · rw [hTT]
          have hz := zsi h hq
          refine zR2_hp ?_ ?_ hz
          · first | with_reducible rfl | rfl
          · first | with_reducible rfl | rfl
        · rw [hTT]
          have hz := zsi h hq
          refine zR2_hp ?_ ?_ hz
          · first | with_reducible rfl | rfl
          · first | with_reducible rfl | rfl
      · refine zl_el h (fun h => zU_l hTT ?_)
        refine zl_el h (fun h => zU_l hTT ?_)
        refine zb_el h (fun hb h => zU_t hTT hb ?_) (fun hb h => zU_f hTT hb ?_)
        · rw [hTT]
          have hz := zsi h hq
          refine zR2_hp ?_ ?_ hz
          · first | with_reducible rfl | rfl
          · first | with_reducible rfl | rfl
        · rw [hTT]
          have hz := zsi h hq
          refine zR2_hp ?_ ?_ hz
          · first | with_reducible rfl | rfl
          · first | with_reducible rfl | rfl
set_option maxRecDepth 1000000 in
theorem t_md_roundFigure {X : Nat × (Nat → Int32)} {ar fi : Nat → Nat → Int32} {m1 m2 m3 m4 m5 : Nat} {x : Int32} {W_md_in : Int32 → Int32 → Int32 → Int32} {W_md_size : Int32 → Int32} : zseg X zFT (zEx 143 (P_md_in W_md_in) (zEx 145 (P_md_size W_md_size) zE0)) zc_235 (fun p => Nat.beq p 17) 400 0 [.ref 64, .int x] [] (ar, fi, (m1, m2, m3, m4, m5)) = (
  zl (W_md_in x 1 999999) (fun v1 =>
  bif !decide (v1 = 0) then
   some (.inl (17, [.ref 64, .int x, .int 1, .int 1], [], (ar, fi, (m1, m2, m3, m4, m5))))
  else
   some (.inr (some (.int (-1)), (ar, fi, (m1, m2, m3, m4, m5))))) : Option ((Nat × List Value × List Value × zH2) ⊕ zO2)) := by with_unfolding_all rfl
set_option maxRecDepth 20000 in
theorem e_md_roundFigure {X : Nat × (Nat → Int32)} {ar fi : Nat → Nat → Int32} {m1 m2 m3 m4 m5 : Nat} {x : Int32} {o : zO2} : ∀ (q : T_md_roundFigure), q_md_roundFigure x = some q → (fun t => O_md_roundFigure ar fi m1 m2 m3 m4 m5 t = o) q → zR2 X zFT (zEx 143 S_md_in (zEx 145 S_md_size zE0)) zc_235 0 [.ref 64, .int x] [] (ar, fi, (m1, m2, m3, m4, m5)) o := by
  intro q h hq
  unfold q_md_roundFigure at h
  refine zT_seg t_md_roundFigure ?_
  obtain ⟨TT, hTT⟩ : ∃ T, T = zT X zFT (zEx 143 S_md_in (zEx 145 S_md_size zE0)) zc_235 o := ⟨_, rfl⟩
  rw [← hTT]
  refine zl_el h (fun h => zU_l hTT ?_)
  refine zb_el h (fun hb h => zU_t hTT hb ?_) (fun hb h => zU_f hTT hb ?_)
  · rw [hTT]
    refine zR2_hp ?_ ?_ (zlp_K k_md_roundFigure_17 h hq)
    · first | with_reducible rfl | rfl
    · first | with_reducible rfl | rfl
  · rw [hTT]
    have hz := zsi (P := (fun t => O_md_roundFigure ar fi m1 m2 m3 m4 m5 t = o)) h hq
    refine (zO_mk ?_ ?_).trans hz
    · first | with_reducible rfl | rfl
    · first | with_reducible rfl | rfl
theorem ok_md_roundFigure (X : Nat × (Nat → Int32)) : zOkS X 235 S_md_roundFigure 2 := zOkS_new (zOkE_cons (ok_md_in X) (by decide) (zOkE_cons (ok_md_size X) (by decide) (zOkE_nil X 1))) (by
  intro args g o h
  obtain ⟨ar, fi, m1, m2, m3, m4, m5⟩ := g
  unfold S_md_roundFigure P_md_roundFigure at h
  split at h
  · refine zb_el h (fun hI0 k0 => ?_) (fun _ h10 => ?_)
    · try simp only [Bool.and_eq_true] at hI0
      have j0 := hI0
      have e0 := Nat.eq_of_beq_eq_true j0
      subst e0
      exact zpe_el k0 (fun t ht ho => e_md_roundFigure t ht ho)
    · cases h10
  · cases h)
