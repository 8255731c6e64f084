abbrev T_md_ruin : Type := Int32 × Int32
abbrev U_md_ruin_69 : Type := Int32 × Int32
abbrev U_md_ruin_55 : Type := Int32 × Int32
noncomputable def b_md_ruin_69 (x : Int32) (a70 : Nat → Int32) (l4 : Int32) (l5 : Int32) (l6 : Int32) : Option (U_md_ruin_69 ⊕ (U_md_ruin_55 ⊕ T_md_ruin)) :=
  bif decide (x ≤ l6) then
   some (.inr (.inl (l4, l5)))
  else
   zl (w_md_has l4 l6) (fun v5 =>
   bif !decide (v5 = 0) then
    some (.inl (l5, l6 + 1))
   else
    zbd (q_md_restOf l6 x l4 a70) (fun v6 =>
    bif decide (0 ≤ v6) then
     some (.inl (l5, l6 + 1))
    else
     some (.inl (l5 ||| (1 <<< (l6 &&& 31)), l6 + 1))))
noncomputable def f_md_ruin_69 (x : Int32) (a70 : Nat → Int32) (l4 : Int32) : U_md_ruin_69 → Option (U_md_ruin_69 ⊕ (U_md_ruin_55 ⊕ T_md_ruin)) := fun s => b_md_ruin_69 x a70 l4 s.1 s.2
noncomputable def l_md_ruin_69 (x : Int32) (a70 : Nat → Int32) (l4 : Int32) (l5 : Int32) (l6 : Int32) : Option (U_md_ruin_55 ⊕ T_md_ruin) := zlp (f_md_ruin_69 x a70 l4) (l5, l6)
noncomputable def b_md_ruin_55 (x : Int32) (z : Int32) (a70 : Nat → Int32) (c64_6 : Int32) (l4 : Int32) (l5 : Int32) : Option (U_md_ruin_55 ⊕ T_md_ruin) :=
  bif decide (l5 = l4) then
   bif !decide (z = 0) then
    some (.inr (l4, c64_6))
   else
    zl (w_md_bits l4) (fun v4 =>
    some (.inr (v4, c64_6)))
  else
   l_md_ruin_69 x a70 l5 l5 0
noncomputable def f_md_ruin_55 (x : Int32) (z : Int32) (a70 : Nat → Int32) (c64_6 : Int32) : U_md_ruin_55 → Option (U_md_ruin_55 ⊕ T_md_ruin) := fun s => b_md_ruin_55 x z a70 c64_6 s.1 s.2
noncomputable def l_md_ruin_55 (x : Int32) (z : Int32) (a70 : Nat → Int32) (c64_6 : Int32) (l4 : Int32) (l5 : Int32) : Option T_md_ruin := zlp (f_md_ruin_55 x z a70 c64_6) (l4, l5)
noncomputable def q_md_ruin (x : Int32) (y : Int32) (z : Int32) (a70 : Nat → Int32) (f64_6 : Int32) : Option T_md_ruin :=
  zl (w_md_in x 2 6) (fun v1 =>
  bif decide (v1 = 0) then
   some ((-1), f64_6)
  else
   zl (w_md_in y 0 (x - 1)) (fun v2 =>
   bif decide (v2 = 0) then
    some ((-1), f64_6)
   else
    zl (w_md_in z 0 1) (fun v3 =>
    bif decide (v3 = 0) then
     some ((-1), f64_6)
    else
     bif decide (x * x ≤ f64_6) then
      l_md_ruin_55 x z a70 0 0 (1 <<< (y &&& 31))
     else
      some ((-1), f64_6))))
def P_md_ruin (Q : Int32 → Int32 → Int32 → (Nat → Int32) → Int32 → Option (Int32 × Int32)) : zSp := fun as g => match as with
  | [.ref a, .int x, .int y, .int z] => bif Nat.beq a 64 then zpe (Q x y z (g.1 70) (g.2.1 64 6)) (fun t => (some (.int (t.1)), (g.1, (zuf g.2.1 64 6 t.2), g.2.2))) else none
  | _ => none
noncomputable abbrev S_md_ruin : zSp := P_md_ruin q_md_ruin
theorem hF1_md_ruin (F : Nat → Nat → Int32) : F = (zuf F 64 6 (F 64 6)) := zufk_ix F [] [((64, 6), none)] rfl
theorem hF0_md_ruin (F : Nat → Nat → Int32) (w0 : Int32) : (zuf F 64 6 w0) = (zuf F 64 6 w0) := zufk_ix F [((64, 6), w0)] [((64, 6), some 0)] rfl
def O_md_ruin (ar fi : Nat → Nat → Int32) (m1 : Nat) (m2 : Nat) (m3 : Nat) (m4 : Nat) (m5 : Nat) (t : T_md_ruin) : zO2 := match t with
  | (t0, t1) => (some (.int (t0)), (ar, (zuf fi 64 6 t1), (m1, m2, m3, m4, m5)))
def M_md_ruin_69 (X : Nat × (Nat → Int32)) (E : zTE) (ar fi : Nat → Nat → Int32) (m1 : Nat) (m2 : Nat) (m3 : Nat) (m4 : Nat) (m5 : Nat) (x : Int32) (y : Int32) (z : Int32) (l4 : Int32) (c64_6 : Int32) (o : zO2) (s : U_md_ruin_69) : Prop := match s with
  | (l5, l6) => zR2 X zFT E zc_237 69 [.ref 64, .int x, .int y, .int z, .int l4, .int l5, .int l6] [] (ar, (zuf fi 64 6 c64_6), (m1, m2, m3, m4, m5)) o
def M_md_ruin_55 (X : Nat × (Nat → Int32)) (E : zTE) (ar fi : Nat → Nat → Int32) (m1 : Nat) (m2 : Nat) (m3 : Nat) (m4 : Nat) (m5 : Nat) (x : Int32) (y : Int32) (z : Int32) (c64_6 : Int32) (o : zO2) (s : U_md_ruin_55) : Prop := match s with
  | (l4, l5) => zR2 X zFT E zc_237 55 [.ref 64, .int x, .int y, .int z, .int l4, .int l5] [] (ar, (zuf fi 64 6 c64_6), (m1, m2, m3, m4, m5)) o
set_option maxRecDepth 1000000 in
theorem t69_md_ruin {X : Nat × (Nat → Int32)} {ar fi : Nat → Nat → Int32} {m1 m2 m3 m4 m5 : Nat} {x y z : Int32} {l4 : Int32} {l5 : Int32} {l6 : Int32} {c64_6 : Int32} {W_md_in : Int32 → Int32 → Int32 → Int32} {W_md_has : Int32 → Int32 → Int32} {Q_md_restOf : Int32 → Int32 → Int32 → (Nat → Int32) → Option (Int32)} {W_md_bits : Int32 → Int32} : zseg X zFT (zEx 143 (P_md_in W_md_in) (zEx 146 (P_md_has W_md_has) (zEx 236 (P_md_restOf Q_md_restOf) (zEx 147 (P_md_bits W_md_bits) zE0)))) zc_237 (fun p => Nat.beq p 69 || Nat.beq p 55) 400 69 [.ref 64, .int x, .int y, .int z, .int l4, .int l5, .int l6] [] (ar, (zuf fi 64 6 c64_6), (m1, m2, m3, m4, m5)) = (
  bif decide (x ≤ l6) then
   some (.inl (55, [.ref 64, .int x, .int y, .int z, .int l4, .int l5], [], (ar, (zuf fi 64 6 c64_6), (m1, m2, m3, m4, m5))))
  else
   zl (W_md_has l4 l6) (fun v5 =>
   bif !decide (v5 = 0) then
    some (.inl (69, [.ref 64, .int x, .int y, .int z, .int l4, .int l5, .int (l6 + 1)], [], (ar, (zuf fi 64 6 c64_6), (m1, m2, m3, m4, m5))))
   else
    zl (Q_md_restOf l6 x l4 (ar 70)) (fun v6 => zg v6.isSome (
    bif decide (0 ≤ ((zgt v6))) then
     some (.inl (69, [.ref 64, .int x, .int y, .int z, .int l4, .int l5, .int (l6 + 1)], [], (ar, (zuf fi 64 6 c64_6), (m1, m2, m3, m4, m5))))
    else
     some (.inl (69, [.ref 64, .int x, .int y, .int z, .int l4, .int (l5 ||| (1 <<< (l6 &&& 31))), .int (l6 + 1)], [], (ar, (zuf fi 64 6 c64_6), (m1, m2, m3, m4, m5))))))) : Option ((Nat × List Value × List Value × zH2) ⊕ zO2)) := by with_unfolding_all rfl
set_option maxRecDepth 20000 in
theorem k_md_ruin_69 {X : Nat × (Nat → Int32)} {ar fi : Nat → Nat → Int32} {m1 m2 m3 m4 m5 : Nat} {x y z : Int32} {l4 : Int32} {c64_6 : Int32} {o : zO2} : ∀ (s : U_md_ruin_69) (q : U_md_ruin_69 ⊕ (U_md_ruin_55 ⊕ T_md_ruin)), f_md_ruin_69 x (ar 70) l4 s = some q → zq (M_md_ruin_69 X (zEx 143 S_md_in (zEx 146 S_md_has (zEx 236 S_md_restOf (zEx 147 S_md_bits zE0)))) ar fi m1 m2 m3 m4 m5 x y z l4 c64_6 o) (zq (M_md_ruin_55 X (zEx 143 S_md_in (zEx 146 S_md_has (zEx 236 S_md_restOf (zEx 147 S_md_bits zE0)))) ar fi m1 m2 m3 m4 m5 x y z c64_6 o) (fun t => O_md_ruin ar fi m1 m2 m3 m4 m5 t = o)) q → M_md_ruin_69 X (zEx 143 S_md_in (zEx 146 S_md_has (zEx 236 S_md_restOf (zEx 147 S_md_bits zE0)))) ar fi m1 m2 m3 m4 m5 x y z l4 c64_6 o s := by
  intro s q h hq
  obtain ⟨l5, l6⟩ := s
  have h : b_md_ruin_69 x (ar 70) l4 l5 l6 = some q := h
  unfold b_md_ruin_69 at h
  show zR2 X zFT (zEx 143 S_md_in (zEx 146 S_md_has (zEx 236 S_md_restOf (zEx 147 S_md_bits zE0)))) zc_237 69 [.ref 64, .int x, .int y, .int z, .int l4, .int l5, .int l6] [] (ar, (zuf fi 64 6 c64_6), (m1, m2, m3, m4, m5)) o
  refine zT_seg t69_md_ruin ?_
  obtain ⟨TT, hTT⟩ : ∃ T, T = zT X zFT (zEx 143 S_md_in (zEx 146 S_md_has (zEx 236 S_md_restOf (zEx 147 S_md_bits zE0)))) zc_237 o := ⟨_, rfl⟩
  rw [← hTT]
  refine zb_el h (fun hb h => zU_t hTT hb ?_) (fun hb h => zU_f hTT hb ?_)
  · rw [hTT]
    have hz := zsi h hq
    refine zR2_hp ?_ ?_ hz
    · first | with_reducible rfl | rfl
    · first | with_reducible rfl | exact hF0_md_ruin _ _
  · refine zl_el h (fun h => zU_l hTT ?_)
    refine zb_el h (fun hb h => zU_t hTT hb ?_) (fun hb h => zU_f hTT hb ?_)
    · rw [hTT]
      have hz := zsi h hq
      refine zR2_hp ?_ ?_ hz
      · first | with_reducible rfl | rfl
      · first | with_reducible rfl | exact hF0_md_ruin _ _
    · refine zbd_el h (fun v6 hv h => zU_c hTT hv ?_)
      refine zb_el h (fun hb h => zU_t hTT hb ?_) (fun hb h => zU_f hTT hb ?_)
      · rw [hTT]
        have hz := zsi h hq
        refine zR2_hp ?_ ?_ hz
        · first | with_reducible rfl | rfl
        · first | with_reducible rfl | exact hF0_md_ruin _ _
      · rw [hTT]
        have hz := zsi h hq
        refine zR2_hp ?_ ?_ hz
        · first | with_reducible rfl | rfl
        · first | with_reducible rfl | exact hF0_md_ruin _ _
set_option maxRecDepth 1000000 in
theorem t55_md_ruin {X : Nat × (Nat → Int32)} {ar fi : Nat → Nat → Int32} {m1 m2 m3 m4 m5 : Nat} {x y z : Int32} {l4 : Int32} {l5 : Int32} {c64_6 : Int32} {W_md_in : Int32 → Int32 → Int32 → Int32} {W_md_has : Int32 → Int32 → Int32} {Q_md_restOf : Int32 → Int32 → Int32 → (Nat → Int32) → Option (Int32)} {W_md_bits : Int32 → Int32} : zseg X zFT (zEx 143 (P_md_in W_md_in) (zEx 146 (P_md_has W_md_has) (zEx 236 (P_md_restOf Q_md_restOf) (zEx 147 (P_md_bits W_md_bits) zE0)))) zc_237 (fun p => Nat.beq p 69 || Nat.beq p 55) 400 55 [.ref 64, .int x, .int y, .int z, .int l4, .int l5] [] (ar, (zuf fi 64 6 c64_6), (m1, m2, m3, m4, m5)) = (
  bif decide (l5 = l4) then
   bif !decide (z = 0) then
    some (.inr (some (.int l4), (ar, (zuf fi 64 6 c64_6), (m1, m2, m3, m4, m5))))
   else
    zl (W_md_bits l4) (fun v4 =>
    some (.inr (some (.int v4), (ar, (zuf fi 64 6 c64_6), (m1, m2, m3, m4, m5)))))
  else
   some (.inl (69, [.ref 64, .int x, .int y, .int z, .int l5, .int l5, .int 0], [], (ar, (zuf fi 64 6 c64_6), (m1, m2, m3, m4, m5)))) : Option ((Nat × List Value × List Value × zH2) ⊕ zO2)) := by with_unfolding_all rfl
set_option maxRecDepth 20000 in
theorem k_md_ruin_55 {X : Nat × (Nat → Int32)} {ar fi : Nat → Nat → Int32} {m1 m2 m3 m4 m5 : Nat} {x y z : Int32} {c64_6 : Int32} {o : zO2} : ∀ (s : U_md_ruin_55) (q : U_md_ruin_55 ⊕ T_md_ruin), f_md_ruin_55 x z (ar 70) c64_6 s = some q → zq (M_md_ruin_55 X (zEx 143 S_md_in (zEx 146 S_md_has (zEx 236 S_md_restOf (zEx 147 S_md_bits zE0)))) ar fi m1 m2 m3 m4 m5 x y z c64_6 o) (fun t => O_md_ruin ar fi m1 m2 m3 m4 m5 t = o) q → M_md_ruin_55 X (zEx 143 S_md_in (zEx 146 S_md_has (zEx 236 S_md_restOf (zEx 147 S_md_bits zE0)))) ar fi m1 m2 m3 m4 m5 x y z c64_6 o s := by
  intro s q h hq
  obtain ⟨l4, l5⟩ := s
  have h : b_md_ruin_55 x z (ar 70) c64_6 l4 l5 = some q := h
  unfold b_md_ruin_55 at h
  show zR2 X zFT (zEx 143 S_md_in (zEx 146 S_md_has (zEx 236 S_md_restOf (zEx 147 S_md_bits zE0)))) zc_237 55 [.ref 64, .int x, .int y, .int z, .int l4, .int l5] [] (ar, (zuf fi 64 6 c64_6), (m1, m2, m3, m4, m5)) o
  refine zT_seg t55_md_ruin ?_
  obtain ⟨TT, hTT⟩ : ∃ T, T = zT X zFT (zEx 143 S_md_in (zEx 146 S_md_has (zEx 236 S_md_restOf (zEx 147 S_md_bits zE0)))) zc_237 o := ⟨_, rfl⟩
  rw [← hTT]
  refine zb_el h (fun hb h => zU_t hTT hb ?_) (fun hb h => zU_f hTT hb ?_)
  · refine zb_el h (fun hb h => zU_t hTT hb ?_) (fun hb h => zU_f hTT hb ?_)
    · rw [hTT]
      have hz := zsi h hq
      refine (zO_mk ?_ ?_).trans hz
      · first | with_reducible rfl | rfl
      · first | with_reducible rfl | exact hF0_md_ruin _ _
    · refine zl_el h (fun h => zU_l hTT ?_)
      rw [hTT]
      have hz := zsi h hq
      refine (zO_mk ?_ ?_).trans hz
      · first | with_reducible rfl | rfl
      · first | with_reducible rfl | exact hF0_md_ruin _ _
  · rw [hTT]
    apply zR2_hp ?hA ?hF (zlp_K k_md_ruin_69 h hq)
    case hA => first | with_reducible rfl | rfl
    case hF => first | with_reducible rfl | exact hF0_md_ruin _ _
set_option maxRecDepth 1000000 in
theorem t_md_ruin {X : Nat × (Nat → Int32)} {ar fi : Nat → Nat → Int32} {m1 m2 m3 m4 m5 : Nat} {x y z : Int32} {W_md_in : Int32 → Int32 → Int32 → Int32} {W_md_has : Int32 → Int32 → Int32} {Q_md_restOf : Int32 → Int32 → Int32 → (Nat → Int32) → Option (Int32)} {W_md_bits : Int32 → Int32} : zseg X zFT (zEx 143 (P_md_in W_md_in) (zEx 146 (P_md_has W_md_has) (zEx 236 (P_md_restOf Q_md_restOf) (zEx 147 (P_md_bits W_md_bits) zE0)))) zc_237 (fun p => Nat.beq p 69 || Nat.beq p 55) 400 0 [.ref 64, .int x, .int y, .int z] [] (ar, fi, (m1, m2, m3, m4, m5)) = (
  zl (W_md_in x 2 6) (fun v1 =>
  bif decide (v1 = 0) then
   some (.inr (some (.int (-1)), (ar, fi, (m1, m2, m3, m4, m5))))
  else
   zl (W_md_in y 0 (x - 1)) (fun v2 =>
   bif decide (v2 = 0) then
    some (.inr (some (.int (-1)), (ar, fi, (m1, m2, m3, m4, m5))))
   else
    zl (W_md_in z 0 1) (fun v3 =>
    bif decide (v3 = 0) then
     some (.inr (some (.int (-1)), (ar, fi, (m1, m2, m3, m4, m5))))
    else
     bif decide (x * x ≤ fi 64 6) then
      some (.inl (55, [.ref 64, .int x, .int y, .int z, .int 0, .int (1 <<< (y &&& 31))], [], (ar, (zuf fi 64 6 0), (m1, m2, m3, m4, m5))))
     else
      some (.inr (some (.int (-1)), (ar, fi, (m1, m2, m3, m4, m5))))))) : Option ((Nat × List Value × List Value × zH2) ⊕ zO2)) := by with_unfolding_all rfl
set_option maxRecDepth 20000 in
theorem e_md_ruin {X : Nat × (Nat → Int32)} {ar fi : Nat → Nat → Int32} {m1 m2 m3 m4 m5 : Nat} {x y z : Int32} {o : zO2} : ∀ (q : T_md_ruin), q_md_ruin x y z (ar 70) (fi 64 6) = some q → (fun t => O_md_ruin ar fi m1 m2 m3 m4 m5 t = o) q → zR2 X zFT (zEx 143 S_md_in (zEx 146 S_md_has (zEx 236 S_md_restOf (zEx 147 S_md_bits zE0)))) zc_237 0 [.ref 64, .int x, .int y, .int z] [] (ar, fi, (m1, m2, m3, m4, m5)) o := by
  intro q h hq
  unfold q_md_ruin at h
  refine zT_seg t_md_ruin ?_
  obtain ⟨TT, hTT⟩ : ∃ T, T = zT X zFT (zEx 143 S_md_in (zEx 146 S_md_has (zEx 236 S_md_restOf (zEx 147 S_md_bits zE0)))) zc_237 o := ⟨_, rfl⟩
  rw [← hTT]
  refine zl_el h (fun h => zU_l hTT ?_)
  refine zb_el h (fun hb h => zU_t hTT hb ?_) (fun hb h => zU_f hTT hb ?_)
  · rw [hTT]
    have hz := zsi (P := (fun t => O_md_ruin ar fi m1 m2 m3 m4 m5 t = o)) h hq
    refine (zO_mk ?_ ?_).trans hz
    · first | with_reducible rfl | rfl
    · first | with_reducible rfl | exact hF1_md_ruin _
  · refine zl_el h (fun h => zU_l hTT ?_)
    refine zb_el h (fun hb h => zU_t hTT hb ?_) (fun hb h => zU_f hTT hb ?_)
    · rw [hTT]
      have hz := zsi (P := (fun t => O_md_ruin ar fi m1 m2 m3 m4 m5 t = o)) h hq
      refine (zO_mk ?_ ?_).trans hz
      · first | with_reducible rfl | rfl
      · first | with_reducible rfl | exact hF1_md_ruin _
    · refine zl_el h (fun h => zU_l hTT ?_)
      refine zb_el h (fun hb h => zU_t hTT hb ?_) (fun hb h => zU_f hTT hb ?_)
      · rw [hTT]
        have hz := zsi (P := (fun t => O_md_ruin ar fi m1 m2 m3 m4 m5 t = o)) h hq
        refine (zO_mk ?_ ?_).trans hz
        · first | with_reducible rfl | rfl
        · first | with_reducible rfl | exact hF1_md_ruin _
      · refine zb_el h (fun hb h => zU_t hTT hb ?_) (fun hb h => zU_f hTT hb ?_)
        · rw [hTT]
          refine zR2_hp ?_ ?_ (zlp_K k_md_ruin_55 h hq)
          · first | with_reducible rfl | rfl
          · first | with_reducible rfl | exact hF0_md_ruin _ _
        · rw [hTT]
          have hz := zsi (P := (fun t => O_md_ruin ar fi m1 m2 m3 m4 m5 t = o)) h hq
          refine (zO_mk ?_ ?_).trans hz
          · first | with_reducible rfl | rfl
          · first | with_reducible rfl | exact hF1_md_ruin _
theorem ok_md_ruin (X : Nat × (Nat → Int32)) : zOkS X 237 S_md_ruin 3 := zOkS_new (zOkE_cons (ok_md_in X) (by decide) (zOkE_cons (ok_md_has X) (by decide) (zOkE_cons (ok_md_restOf X) (by decide) (zOkE_cons (ok_md_bits X) (by decide) (zOkE_nil X 2))))) (by
  intro args g o h
  obtain ⟨ar, fi, m1, m2, m3, m4, m5⟩ := g
  unfold S_md_ruin P_md_ruin at h
  split at h
  · refine zb_el h (fun hI0 k0 => ?_) (fun _ h10 => ?_)
    · try simp only [Bool.and_eq_true] at hI0
      have j0 := hI0
      have e0 := Nat.eq_of_beq_eq_true j0
      subst e0
      exact zpe_el k0 (fun t ht ho => by obtain ⟨t0, t1⟩ := t; exact e_md_ruin _ ht ho)
    · cases h10
  · cases h)
