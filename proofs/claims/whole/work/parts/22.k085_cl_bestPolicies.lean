abbrev T_cl_bestPolicies : Type := Int32
abbrev U_cl_bestPolicies_11 : Type := Int32 × Int32 × Int32 × Int32
noncomputable def b_cl_bestPolicies_11 (y : Int32) (z : Int32) (a1 : Nat → Int32) (l3 : Int32) (l4 : Int32) (l5 : Int32) (l6 : Int32) : Option (U_cl_bestPolicies_11 ⊕ T_cl_bestPolicies) :=
  bif decide (1 <<< (y &&& 31) ≤ l6) then
   some (.inr l3)
  else
   zbd (q_cl_sumOf y l6 1 a1) (fun v1 =>
   bif decide (v1 ≤ z) then
    zbd (q_cl_sumOf y l6 0 a1) (fun v2 =>
    bif decide (l4 < v2) then
     some (.inl (l6, v2, v1, l6 + 1))
    else
     bif !decide (v2 = l4) then
      some (.inl (l3, l4, l5, l6 + 1))
     else
      bif decide (l5 ≤ v1) then
       some (.inl (l3, l4, l5, l6 + 1))
      else
       some (.inl (l6, v2, v1, l6 + 1)))
   else
    some (.inl (l3, l4, l5, l6 + 1)))
noncomputable def f_cl_bestPolicies_11 (y : Int32) (z : Int32) (a1 : Nat → Int32) : U_cl_bestPolicies_11 → Option (U_cl_bestPolicies_11 ⊕ T_cl_bestPolicies) := fun s => b_cl_bestPolicies_11 y z a1 s.1 s.2.1 s.2.2.1 s.2.2.2
noncomputable def l_cl_bestPolicies_11 (y : Int32) (z : Int32) (a1 : Nat → Int32) (l3 : Int32) (l4 : Int32) (l5 : Int32) (l6 : Int32) : Option T_cl_bestPolicies := zlp (f_cl_bestPolicies_11 y z a1) (l3, l4, l5, l6)
noncomputable def q_cl_bestPolicies (y : Int32) (z : Int32) (a1 : Nat → Int32) : Option T_cl_bestPolicies :=
  l_cl_bestPolicies_11 y z a1 0 0 0 1
def P_cl_bestPolicies (Q : Int32 → Int32 → (Nat → Int32) → Option (Int32)) : zSp := fun as g => match as with
  | [.ref a, .int y, .int z] => bif Nat.beq a 1 then zpe (Q y z (g.1 1)) (fun t => (some (.int t), (g.1, g.2.1, g.2.2))) else none
  | _ => none
noncomputable abbrev S_cl_bestPolicies : zSp := P_cl_bestPolicies q_cl_bestPolicies
def O_cl_bestPolicies (ar fi : Nat → Nat → Int32) (m1 : Nat) (m2 : Nat) (m3 : Nat) (m4 : Nat) (m5 : Nat) (t : T_cl_bestPolicies) : zO2 := (some (.int t), (ar, fi, (m1, m2, m3, m4, m5)))
def M_cl_bestPolicies_11 (X : Nat × (Nat → Int32)) (E : zTE) (ar fi : Nat → Nat → Int32) (m1 : Nat) (m2 : Nat) (m3 : Nat) (m4 : Nat) (m5 : Nat) (y : Int32) (z : Int32) (o : zO2) (s : U_cl_bestPolicies_11) : Prop := match s with
  | (l3, l4, l5, l6) => zR2 X zFT E zc_1 11 [.ref 1, .int y, .int z, .int l3, .int l4, .int l5, .int l6] [] (ar, fi, (m1, m2, m3, m4, m5)) o
set_option maxRecDepth 1000000 in
theorem t11_cl_bestPolicies {X : Nat × (Nat → Int32)} {ar fi : Nat → Nat → Int32} {m1 m2 m3 m4 m5 : Nat} {y z : Int32} {l3 : Int32} {l4 : Int32} {l5 : Int32} {l6 : Int32} {Q_cl_sumOf : Int32 → Int32 → Int32 → (Nat → Int32) → Option (Int32)} : zseg X zFT (zEx 2 (P_cl_sumOf Q_cl_sumOf) zE0) zc_1 (fun p => Nat.beq p 11) 400 11 [.ref 1, .int y, .int z, .int l3, .int l4, .int l5, .int l6] [] (ar, fi, (m1, m2, m3, m4, m5)) = (
  bif decide (1 <<< (y &&& 31) ≤ l6) then
   some (.inr (some (.int l3), (ar, fi, (m1, m2, m3, m4, m5))))
  else
   zl (Q_cl_sumOf y l6 1 (ar 1)) (fun v1 => zg v1.isSome (
   bif decide (((zgt v1)) ≤ z) then
    zl (Q_cl_sumOf y l6 0 (ar 1)) (fun v2 => zg v2.isSome (
    bif decide (l4 < ((zgt v2))) then
     some (.inl (11, [.ref 1, .int y, .int z, .int l6, .int (((zgt v2))), .int (((zgt v1))), .int (l6 + 1)], [], (ar, fi, (m1, m2, m3, m4, m5))))
    else
     bif !decide (((zgt v2)) = l4) then
      some (.inl (11, [.ref 1, .int y, .int z, .int l3, .int l4, .int l5, .int (l6 + 1)], [], (ar, fi, (m1, m2, m3, m4, m5))))
     else
      bif decide (l5 ≤ ((zgt v1))) then
       some (.inl (11, [.ref 1, .int y, .int z, .int l3, .int l4, .int l5, .int (l6 + 1)], [], (ar, fi, (m1, m2, m3, m4, m5))))
      else
       some (.inl (11, [.ref 1, .int y, .int z, .int l6, .int (((zgt v2))), .int (((zgt v1))), .int (l6 + 1)], [], (ar, fi, (m1, m2, m3, m4, m5))))))
   else
    some (.inl (11, [.ref 1, .int y, .int z, .int l3, .int l4, .int l5, .int (l6 + 1)], [], (ar, fi, (m1, m2, m3, m4, m5)))))) : Option ((Nat × List Value × List Value × zH2) ⊕ zO2)) := by with_unfolding_all rfl
set_option maxRecDepth 20000 in
theorem k_cl_bestPolicies_11 {X : Nat × (Nat → Int32)} {ar fi : Nat → Nat → Int32} {m1 m2 m3 m4 m5 : Nat} {y z : Int32} {o : zO2} : ∀ (s : U_cl_bestPolicies_11) (q : U_cl_bestPolicies_11 ⊕ T_cl_bestPolicies), f_cl_bestPolicies_11 y z (ar 1) s = some q → zq (M_cl_bestPolicies_11 X (zEx 2 S_cl_sumOf zE0) ar fi m1 m2 m3 m4 m5 y z o) (fun t => O_cl_bestPolicies ar fi m1 m2 m3 m4 m5 t = o) q → M_cl_bestPolicies_11 X (zEx 2 S_cl_sumOf zE0) ar fi m1 m2 m3 m4 m5 y z o s := by
  intro s q h hq
  obtain ⟨l3, l4, l5, l6⟩ := s
  have h : b_cl_bestPolicies_11 y z (ar 1) l3 l4 l5 l6 = some q := h
  unfold b_cl_bestPolicies_11 at h
  show zR2 X zFT (zEx 2 S_cl_sumOf zE0) zc_1 11 [.ref 1, .int y, .int z, .int l3, .int l4, .int l5, .int l6] [] (ar, fi, (m1, m2, m3, m4, m5)) o
  refine zT_seg t11_cl_bestPolicies ?_
  obtain ⟨TT, hTT⟩ : ∃ T, T = zT X zFT (zEx 2 S_cl_sumOf zE0) zc_1 o := ⟨_, rfl⟩
  rw [← hTT]
  refine zb_el h (fun hb h => zU_t hTT hb ?_) (fun hb h => zU_f hTT hb ?_)
  · rw [hTT]
    have hz := zsi h hq
    refine (zO_mk ?_ ?_).trans hz
    · first | with_reducible rfl | rfl
    · first | with_reducible rfl | rfl
  · refine zbd_el h (fun v1 hv h => zU_c hTT hv ?_)
    refine zb_el h (fun hb h => zU_t hTT hb ?_) (fun hb h => zU_f hTT hb ?_)
    · refine zbd_el h (fun v2 hv h => zU_c hTT hv ?_)
      refine zb_el h (fun hb h => zU_t hTT hb ?_) (fun hb h => zU_f hTT hb ?_)
      · rw [hTT]
        have hz := zsi h hq
        refine zR2_hp ?_ ?_ hz
        · first | with_reducible rfl | rfl
        · first | with_reducible rfl | rfl
      · refine zb_el h (fun hb h => zU_t hTT hb ?_) (fun hb h => zU_f hTT hb ?_)
        · rw [hTT]
          have hz := zsi h hq
          refine zR2_hp ?_ ?_ hz
          · first | with_reducible rfl | rfl
          · first | with_reducible rfl | rfl
        · refine zb_el h (fun hb h => zU_t hTT hb ?_) (fun hb h => zU_f hTT hb ?_)
          · rw [hTT]
            have hz := zsi h hq
            refine zR2_hp ?_ ?_ hz
            · first | with_reducible rfl | rfl
            · first | with_reducible rfl | rfl
          · rw [hTT]
            have hz := zsi h hq
            refine zR2_hp ?_ ?_ hz
            · first | with_reducible rfl | rfl
            · first | with_reducible rfl | rfl
    · rw [hTT]
      have hz := zsi h hq
      refine zR2_hp ?_ ?_ hz
      · first | with_reducible rfl | rfl
      · first | with_reducible rfl | rfl
set_option maxRecDepth 1000000 in
theorem t_cl_bestPolicies {X : Nat × (Nat → Int32)} {ar fi : Nat → Nat → Int32} {m1 m2 m3 m4 m5 : Nat} {y z : Int32} {Q_cl_sumOf : Int32 → Int32 → Int32 → (Nat → Int32) → Option (Int32)} : zseg X zFT (zEx 2 (P_cl_sumOf Q_cl_sumOf) zE0) zc_1 (fun p => Nat.beq p 11) 400 0 [.ref 1, .int y, .int z] [] (ar, fi, (m1, m2, m3, m4, m5)) = (
  some (.inl (11, [.ref 1, .int y, .int z, .int 0, .int 0, .int 0, .int 1], [], (ar, fi, (m1, m2, m3, m4, m5)))) : Option ((Nat × List Value × List Value × zH2) ⊕ zO2)) := by with_unfolding_all rfl
set_option maxRecDepth 20000 in
theorem e_cl_bestPolicies {X : Nat × (Nat → Int32)} {ar fi : Nat → Nat → Int32} {m1 m2 m3 m4 m5 : Nat} {y z : Int32} {o : zO2} : ∀ (q : T_cl_bestPolicies), q_cl_bestPolicies y z (ar 1) = some q → (fun t => O_cl_bestPolicies ar fi m1 m2 m3 m4 m5 t = o) q → zR2 X zFT (zEx 2 S_cl_sumOf zE0) zc_1 0 [.ref 1, .int y, .int z] [] (ar, fi, (m1, m2, m3, m4, m5)) o := by
  intro q h hq
  unfold q_cl_bestPolicies at h
  refine zT_seg t_cl_bestPolicies ?_
  obtain ⟨TT, hTT⟩ : ∃ T, T = zT X zFT (zEx 2 S_cl_sumOf zE0) zc_1 o := ⟨_, rfl⟩
  rw [← hTT]
  rw [hTT]
  refine zR2_hp ?_ ?_ (zlp_K k_cl_bestPolicies_11 h hq)
  · first | with_reducible rfl | rfl
  · first | with_reducible rfl | rfl
theorem ok_cl_bestPolicies (X : Nat × (Nat → Int32)) : zOkS X 1 S_cl_bestPolicies 2 := zOkS_new (zOkE_cons (ok_cl_sumOf X) (by decide) (zOkE_nil X 1)) (by
  intro args g o h
  obtain ⟨ar, fi, m1, m2, m3, m4, m5⟩ := g
  unfold S_cl_bestPolicies P_cl_bestPolicies at h
  split at h
  · refine zb_el h (fun hI0 k0 => ?_) (fun _ h10 => ?_)
    · try simp only [Bool.and_eq_true] at hI0
      have j0 := hI0
      have e0 := Nat.eq_of_beq_eq_true j0
      subst e0
      exact zpe_el k0 (fun t ht ho => e_cl_bestPolicies t ht ho)
    · cases h10
  · cases h)
