abbrev T_md_laysFireNow : Type := (Nat → Int32) × (Nat → Int32)
abbrev U_md_laysFireNow_8 : Type := Int32 × Int32 × (Nat → Int32) × (Nat → Int32)
noncomputable def b_md_laysFireNow_8 (a65 : Nat → Int32) (a68 : Nat → Int32) (l1 : Int32) (l2 : Int32) (b86 : Nat → Int32) (b87 : Nat → Int32) : Option (U_md_laysFireNow_8 ⊕ T_md_laysFireNow) :=
  bif decide (96 ≤ l2) then
   zbd (q_md_laysFire l1 a68 b86 b87) (fun v2 =>
   some (.inr (((v2.1)), ((v2.2)))))
  else
   zg (zin (0 + l2) 315) (
   bif decide (a65 ((0 + l2).toNatClampNeg) = 1) then
    zg (zin l2 96) (
    zg (zin l1 192) (
    some (.inl (l1 + 1, l2 + 1, (zup b86 (l2.toNatClampNeg) 0), (zup b87 (l1.toNatClampNeg) l2)))))
   else
    some (.inl (l1, l2 + 1, b86, b87)))
noncomputable def f_md_laysFireNow_8 (a65 : Nat → Int32) (a68 : Nat → Int32) : U_md_laysFireNow_8 → Option (U_md_laysFireNow_8 ⊕ T_md_laysFireNow) := fun s => b_md_laysFireNow_8 a65 a68 s.1 s.2.1 s.2.2.1 s.2.2.2
noncomputable def l_md_laysFireNow_8 (a65 : Nat → Int32) (a68 : Nat → Int32) (l1 : Int32) (l2 : Int32) (b86 : Nat → Int32) (b87 : Nat → Int32) : Option T_md_laysFireNow := zlp (f_md_laysFireNow_8 a65 a68) (l1, l2, b86, b87)
noncomputable def q_md_laysFireNow (a65 : Nat → Int32) (a68 : Nat → Int32) (a86 : Nat → Int32) (a87 : Nat → Int32) : Option T_md_laysFireNow :=
  zl (a0_md_clearsFire a86) (fun v1 =>
  l_md_laysFireNow_8 a65 a68 0 0 v1 a87)
def P_md_laysFireNow (Q : (Nat → Int32) → (Nat → Int32) → (Nat → Int32) → (Nat → Int32) → Option ((Nat → Int32) × (Nat → Int32))) : zSp := fun as g => match as with
  | [.ref a] => bif Nat.beq a 64 then zpe (Q (g.1 65) (g.1 68) (g.1 86) (g.1 87)) (fun t => (none, ((zua (zua g.1 86 t.1) 87 t.2), g.2.1, g.2.2))) else none
  | _ => none
noncomputable abbrev S_md_laysFireNow : zSp := P_md_laysFireNow q_md_laysFireNow
theorem hA2_md_laysFireNow (F : Nat → Nat → Int32) (w0 : Nat → Int32) : (zua F 86 w0) = (zua (zua F 86 w0) 87 (F 87)) := zuak_ix F [(86, w0)] [(86, some 0), (87, none)] rfl
theorem hA1_md_laysFireNow (F : Nat → Nat → Int32) (w0 w1 : Nat → Int32) : (zua (zua F 86 w0) 87 w1) = (zua (zua F 86 w0) 87 w1) := zuak_ix F [(86, w0), (87, w1)] [(86, some 0), (87, some 1)] rfl
theorem hA0_md_laysFireNow (F : Nat → Nat → Int32) (w0 w1 w2 w3 : Nat → Int32) : (zua (zua (zua (zua F 86 w0) 87 w1) 86 w2) 87 w3) = (zua (zua F 86 w2) 87 w3) := zuak_ix F [(86, w0), (87, w1), (86, w2), (87, w3)] [(86, some 2), (87, some 3)] rfl
def O_md_laysFireNow (ar fi : Nat → Nat → Int32) (m1 : Nat) (m2 : Nat) (m3 : Nat) (m4 : Nat) (m5 : Nat) (t : T_md_laysFireNow) : zO2 := match t with
  | (t0, t1) => (none, ((zua (zua ar 86 t0) 87 t1), fi, (m1, m2, m3, m4, m5)))
def M_md_laysFireNow_8 (X : Nat × (Nat → Int32)) (E : zTE) (ar fi : Nat → Nat → Int32) (m1 : Nat) (m2 : Nat) (m3 : Nat) (m4 : Nat) (m5 : Nat) (o : zO2) (s : U_md_laysFireNow_8) : Prop := match s with
  | (l1, l2, b86, b87) => zR2 X zFT E zc_220 8 [.ref 64, .int l1, .int l2] [] ((zua (zua ar 86 b86) 87 b87), fi, (m1, m2, m3, m4, m5)) o
set_option maxRecDepth 1000000 in
theorem t8_md_laysFireNow {X : Nat × (Nat → Int32)} {ar fi : Nat → Nat → Int32} {m1 m2 m3 m4 m5 : Nat} {l1 : Int32} {l2 : Int32} {b86 : Nat → Int32} {b87 : Nat → Int32} {A0_md_clearsFire : (Nat → Int32) → Nat → Int32} {Q_md_laysFire : Int32 → (Nat → Int32) → (Nat → Int32) → (Nat → Int32) → Option ((Nat → Int32) × (Nat → Int32))} : zseg X zFT (zEx 218 (P_md_clearsFire A0_md_clearsFire) (zEx 217 (P_md_laysFire Q_md_laysFire) zE0)) zc_220 (fun p => Nat.beq p 8) 400 8 [.ref 64, .int l1, .int l2] [] ((zua (zua ar 86 b86) 87 b87), fi, (m1, m2, m3, m4, m5)) = (
  bif decide (96 ≤ l2) then
   zl (Q_md_laysFire l1 (ar 68) b86 b87) (fun v2 => zg v2.isSome (
   some (.inr (none, ((zua (zua (zua (zua ar 86 b86) 87 b87) 86 (((zgt v2).1))) 87 (((zgt v2).2))), fi, (m1, m2, m3, m4, m5))))))
  else
   zg (Nat.beq 16 16 && (zin (0 + l2) 315)) (
   bif decide ((ar 65) ((0 + l2).toNatClampNeg) = 1) then
    zg (Nat.beq 16 16 && (zin l2 96)) (
    zg (Nat.beq 16 16 && (zin l1 192)) (
    some (.inl (8, [.ref 64, .int (l1 + 1), .int (l2 + 1)], [], ((zua (zua (zua (zua ar 86 b86) 87 b87) 86 (zup b86 (l2.toNatClampNeg) 0)) 87 (zup b87 (l1.toNatClampNeg) l2)), fi, (m1, m2, m3, m4, m5))))))
   else
    some (.inl (8, [.ref 64, .int l1, .int (l2 + 1)], [], ((zua (zua ar 86 b86) 87 b87), fi, (m1, m2, m3, m4, m5))))) : Option ((Nat × List Value × List Value × zH2) ⊕ zO2)) := by with_unfolding_all rfl
set_option maxRecDepth 20000 in
theorem k_md_laysFireNow_8 {X : Nat × (Nat → Int32)} {ar fi : Nat → Nat → Int32} {m1 m2 m3 m4 m5 : Nat} {o : zO2} : ∀ (s : U_md_laysFireNow_8) (q : U_md_laysFireNow_8 ⊕ T_md_laysFireNow), f_md_laysFireNow_8 (ar 65) (ar 68) s = some q → zq (M_md_laysFireNow_8 X (zEx 218 S_md_clearsFire (zEx 217 S_md_laysFire zE0)) ar fi m1 m2 m3 m4 m5 o) (fun t => O_md_laysFireNow ar fi m1 m2 m3 m4 m5 t = o) q → M_md_laysFireNow_8 X (zEx 218 S_md_clearsFire (zEx 217 S_md_laysFire zE0)) ar fi m1 m2 m3 m4 m5 o s := by
  intro s q h hq
  obtain ⟨l1, l2, b86, b87⟩ := s
  have h : b_md_laysFireNow_8 (ar 65) (ar 68) l1 l2 b86 b87 = some q := h
  unfold b_md_laysFireNow_8 at h
  show zR2 X zFT (zEx 218 S_md_clearsFire (zEx 217 S_md_laysFire zE0)) zc_220 8 [.ref 64, .int l1, .int l2] [] ((zua (zua ar 86 b86) 87 b87), fi, (m1, m2, m3, m4, m5)) o
  refine zT_seg t8_md_laysFireNow ?_
  obtain ⟨TT, hTT⟩ : ∃ T, T = zT X zFT (zEx 218 S_md_clearsFire (zEx 217 S_md_laysFire zE0)) zc_220 o := ⟨_, rfl⟩
  rw [← hTT]
  refine zb_el h (fun hb h => zU_t hTT hb ?_) (fun hb h => zU_f hTT hb ?_)
  · refine zbd_el h (fun v2 hv h => zU_c hTT hv ?_)
    rw [hTT]
    have hz := zsi h hq
    refine (zO_mk ?_ ?_).trans hz
    · first | with_reducible rfl | exact hA0_md_laysFireNow _ _ _ _ _
    · first | with_reducible rfl | rfl
  · refine zg_el h (fun hg h => zU_ga hTT hg ?_)
    refine zb_el h (fun hb h => zU_t hTT hb ?_) (fun hb h => zU_f hTT hb ?_)
    · refine zg_el h (fun hg h => zU_ga hTT hg ?_)
      refine zg_el h (fun hg h => zU_ga hTT hg ?_)
      rw [hTT]
      have hz := zsi h hq
      refine zR2_hp ?_ ?_ hz
      · first | with_reducible rfl | exact hA0_md_laysFireNow _ _ _ _ _
      · first | with_reducible rfl | rfl
    · rw [hTT]
      have hz := zsi h hq
      refine zR2_hp ?_ ?_ hz
      · first | with_reducible rfl | exact hA1_md_laysFireNow _ _ _
      · first | with_reducible rfl | rfl
set_option maxRecDepth 1000000 in
theorem t_md_laysFireNow {X : Nat × (Nat → Int32)} {ar fi : Nat → Nat → Int32} {m1 m2 m3 m4 m5 : Nat} {A0_md_clearsFire : (Nat → Int32) → Nat → Int32} {Q_md_laysFire : Int32 → (Nat → Int32) → (Nat → Int32) → (Nat → Int32) → Option ((Nat → Int32) × (Nat → Int32))} : zseg X zFT (zEx 218 (P_md_clearsFire A0_md_clearsFire) (zEx 217 (P_md_laysFire Q_md_laysFire) zE0)) zc_220 (fun p => Nat.beq p 8) 400 0 [.ref 64] [] (ar, fi, (m1, m2, m3, m4, m5)) = (
  zl (A0_md_clearsFire (ar 86)) (fun v1 =>
  some (.inl (8, [.ref 64, .int 0, .int 0], [], ((zua ar 86 v1), fi, (m1, m2, m3, m4, m5))))) : Option ((Nat × List Value × List Value × zH2) ⊕ zO2)) := by with_unfolding_all rfl
set_option maxRecDepth 20000 in
theorem e_md_laysFireNow {X : Nat × (Nat → Int32)} {ar fi : Nat → Nat → Int32} {m1 m2 m3 m4 m5 : Nat} {o : zO2} : ∀ (q : T_md_laysFireNow), q_md_laysFireNow (ar 65) (ar 68) (ar 86) (ar 87) = some q → (fun t => O_md_laysFireNow ar fi m1 m2 m3 m4 m5 t = o) q → zR2 X zFT (zEx 218 S_md_clearsFire (zEx 217 S_md_laysFire zE0)) zc_220 0 [.ref 64] [] (ar, fi, (m1, m2, m3, m4, m5)) o := by
  intro q h hq
  unfold q_md_laysFireNow at h
  refine zT_seg t_md_laysFireNow ?_
  obtain ⟨TT, hTT⟩ : ∃ T, T = zT X zFT (zEx 218 S_md_clearsFire (zEx 217 S_md_laysFire zE0)) zc_220 o := ⟨_, rfl⟩
  rw [← hTT]
  refine zl_el h (fun h => zU_l hTT ?_)
  rw [hTT]
  refine zR2_hp ?_ ?_ (zlp_K k_md_laysFireNow_8 h hq)
  · first | with_reducible rfl | exact hA2_md_laysFireNow _ _
  · first | with_reducible rfl | rfl
theorem ok_md_laysFireNow (X : Nat × (Nat → Int32)) : zOkS X 220 S_md_laysFireNow 5 := zOkS_new (zOkE_cons (ok_md_clearsFire X) (by decide) (zOkE_cons (ok_md_laysFire X) (by decide) (zOkE_nil X 4))) (by
  intro args g o h
  obtain ⟨ar, fi, m1, m2, m3, m4, m5⟩ := g
  unfold S_md_laysFireNow P_md_laysFireNow at h
  split at h
  · refine zb_el h (fun hI0 k0 => ?_) (fun _ h10 => ?_)
    · try simp only [Bool.and_eq_true] at hI0
      have j0 := hI0
      have e0 := Nat.eq_of_beq_eq_true j0
      subst e0
      exact zpe_el k0 (fun t ht ho => by obtain ⟨t0, t1⟩ := t; exact e_md_laysFireNow _ ht ho)
    · cases h10
  · cases h)
