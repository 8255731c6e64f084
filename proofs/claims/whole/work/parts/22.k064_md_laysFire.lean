abbrev T_md_laysFire : Type := (Nat → Int32) × (Nat → Int32)
abbrev U_md_laysFire_12 : Type := Int32 × Int32 × (Nat → Int32) × (Nat → Int32)
abbrev U_md_laysFire_4 : Type := Int32 × Int32 × (Nat → Int32) × (Nat → Int32)
def b_md_laysFire_12 (a68 : Nat → Int32) (l3 : Int32) (l2 : Int32) (l4 : Int32) (b86 : Nat → Int32) (b87 : Nat → Int32) : Option (U_md_laysFire_12 ⊕ (U_md_laysFire_4 ⊕ T_md_laysFire)) :=
  bif decide (4 ≤ l4) then
   some (.inr (.inl (l2, l3 + 1, b86, b87)))
  else
   zg (zin l3 192) (
   zl (w_md_beside (b87 (l3.toNatClampNeg)) l4) (fun v1 =>
   zg (g_md_isWood v1 a68) (
   zl (w_md_isWood v1 a68) (fun v2 =>
   bif decide (v2 = 0) then
    some (.inl (l2, l4 + 1, b86, b87))
   else
    zg (zin v1 96) (
    bif decide (b86 (v1.toNatClampNeg) = (-1)) then
     zg (zin l3 192) (
     zg (zin (b87 (l3.toNatClampNeg)) 96) (
     zg (zin v1 96) (
     zg (zin l2 192) (
     some (.inl (l2 + 1, l4 + 1, (zup b86 (v1.toNatClampNeg) ((b86 ((b87 (l3.toNatClampNeg)).toNatClampNeg)) + 1)), (zup b87 (l2.toNatClampNeg) v1)))))))
    else
     some (.inl (l2, l4 + 1, b86, b87)))))))
def f_md_laysFire_12 (a68 : Nat → Int32) (l3 : Int32) : U_md_laysFire_12 → Option (U_md_laysFire_12 ⊕ (U_md_laysFire_4 ⊕ T_md_laysFire)) := fun s => b_md_laysFire_12 a68 l3 s.1 s.2.1 s.2.2.1 s.2.2.2
noncomputable def l_md_laysFire_12 (a68 : Nat → Int32) (l3 : Int32) (l2 : Int32) (l4 : Int32) (b86 : Nat → Int32) (b87 : Nat → Int32) : Option (U_md_laysFire_4 ⊕ T_md_laysFire) := zlp (f_md_laysFire_12 a68 l3) (l2, l4, b86, b87)
noncomputable def b_md_laysFire_4 (a68 : Nat → Int32) (l2 : Int32) (l3 : Int32) (b86 : Nat → Int32) (b87 : Nat → Int32) : Option (U_md_laysFire_4 ⊕ T_md_laysFire) :=
  bif decide (l2 ≤ l3) then
   some (.inr (b86, b87))
  else
   l_md_laysFire_12 a68 l3 l2 0 b86 b87
noncomputable def f_md_laysFire_4 (a68 : Nat → Int32) : U_md_laysFire_4 → Option (U_md_laysFire_4 ⊕ T_md_laysFire) := fun s => b_md_laysFire_4 a68 s.1 s.2.1 s.2.2.1 s.2.2.2
noncomputable def l_md_laysFire_4 (a68 : Nat → Int32) (l2 : Int32) (l3 : Int32) (b86 : Nat → Int32) (b87 : Nat → Int32) : Option T_md_laysFire := zlp (f_md_laysFire_4 a68) (l2, l3, b86, b87)
noncomputable def q_md_laysFire (x : Int32) (a68 : Nat → Int32) (a86 : Nat → Int32) (a87 : Nat → Int32) : Option T_md_laysFire :=
  l_md_laysFire_4 a68 x 0 a86 a87
def P_md_laysFire (Q : Int32 → (Nat → Int32) → (Nat → Int32) → (Nat → Int32) → Option ((Nat → Int32) × (Nat → Int32))) : zSp := fun as g => match as with
  | [.ref a, .int x] => bif Nat.beq a 64 then zpe (Q x (g.1 68) (g.1 86) (g.1 87)) (fun t => (none, ((zua (zua g.1 86 t.1) 87 t.2), g.2.1, g.2.2))) else none
  | _ => none
noncomputable abbrev S_md_laysFire : zSp := P_md_laysFire q_md_laysFire
theorem hA2_md_laysFire (F : Nat → Nat → Int32) : F = (zua (zua F 86 (F 86)) 87 (F 87)) := zuak_ix F [] [(86, none), (87, none)] rfl
theorem hA1_md_laysFire (F : Nat → Nat → Int32) (w0 w1 w2 w3 : Nat → Int32) : (zua (zua (zua (zua F 86 w0) 87 w1) 86 w2) 87 w3) = (zua (zua F 86 w2) 87 w3) := zuak_ix F [(86, w0), (87, w1), (86, w2), (87, w3)] [(86, some 2), (87, some 3)] rfl
theorem hA0_md_laysFire (F : Nat → Nat → Int32) (w0 w1 : Nat → Int32) : (zua (zua F 86 w0) 87 w1) = (zua (zua F 86 w0) 87 w1) := zuak_ix F [(86, w0), (87, w1)] [(86, some 0), (87, some 1)] rfl
def O_md_laysFire (ar fi : Nat → Nat → Int32) (m1 : Nat) (m2 : Nat) (m3 : Nat) (m4 : Nat) (m5 : Nat) (t : T_md_laysFire) : zO2 := match t with
  | (t0, t1) => (none, ((zua (zua ar 86 t0) 87 t1), fi, (m1, m2, m3, m4, m5)))
def M_md_laysFire_12 (X : Nat × (Nat → Int32)) (E : zTE) (ar fi : Nat → Nat → Int32) (m1 : Nat) (m2 : Nat) (m3 : Nat) (m4 : Nat) (m5 : Nat) (x : Int32) (l3 : Int32) (o : zO2) (s : U_md_laysFire_12) : Prop := match s with
  | (l2, l4, b86, b87) => zR2 X zFT E zc_217 12 [.ref 64, .int x, .int l2, .int l3, .int l4] [] ((zua (zua ar 86 b86) 87 b87), fi, (m1, m2, m3, m4, m5)) o
def M_md_laysFire_4 (X : Nat × (Nat → Int32)) (E : zTE) (ar fi : Nat → Nat → Int32) (m1 : Nat) (m2 : Nat) (m3 : Nat) (m4 : Nat) (m5 : Nat) (x : Int32) (o : zO2) (s : U_md_laysFire_4) : Prop := match s with
  | (l2, l3, b86, b87) => zR2 X zFT E zc_217 4 [.ref 64, .int x, .int l2, .int l3] [] ((zua (zua ar 86 b86) 87 b87), fi, (m1, m2, m3, m4, m5)) o
set_option maxRecDepth 1000000 in
theorem t12_md_laysFire {X : Nat × (Nat → Int32)} {ar fi : Nat → Nat → Int32} {m1 m2 m3 m4 m5 : Nat} {x : Int32} {l2 : Int32} {l3 : Int32} {l4 : Int32} {b86 : Nat → Int32} {b87 : Nat → Int32} {W_md_beside : Int32 → Int32 → Int32} {G_md_isWood : Int32 → (Nat → Int32) → Bool} {W_md_isWood : Int32 → (Nat → Int32) → Int32} : zseg X zFT (zEx 151 (P_md_beside W_md_beside) (zEx 152 (P_md_isWood G_md_isWood W_md_isWood) zE0)) zc_217 (fun p => Nat.beq p 12 || Nat.beq p 4) 400 12 [.ref 64, .int x, .int l2, .int l3, .int l4] [] ((zua (zua ar 86 b86) 87 b87), fi, (m1, m2, m3, m4, m5)) = (
  bif decide (4 ≤ l4) then
   some (.inl (4, [.ref 64, .int x, .int l2, .int (l3 + 1)], [], ((zua (zua ar 86 b86) 87 b87), fi, (m1, m2, m3, m4, m5))))
  else
   zg (Nat.beq 16 16 && (zin l3 192)) (
   zl (W_md_beside (b87 (l3.toNatClampNeg)) l4) (fun v1 =>
   zg (G_md_isWood v1 (ar 68)) (
   zl (W_md_isWood v1 (ar 68)) (fun v2 =>
   bif decide (v2 = 0) then
    some (.inl (12, [.ref 64, .int x, .int l2, .int l3, .int (l4 + 1)], [], ((zua (zua ar 86 b86) 87 b87), fi, (m1, m2, m3, m4, m5))))
   else
    zg (Nat.beq 16 16 && (zin v1 96)) (
    bif decide (b86 (v1.toNatClampNeg) = (-1)) then
     zg (Nat.beq 16 16 && (zin l3 192)) (
     zg (Nat.beq 16 16 && (zin (b87 (l3.toNatClampNeg)) 96)) (
     zg (Nat.beq 16 16 && (zin v1 96)) (
     zg (Nat.beq 16 16 && (zin l2 192)) (
     some (.inl (12, [.ref 64, .int x, .int (l2 + 1), .int l3, .int (l4 + 1)], [], ((zua (zua (zua (zua ar 86 b86) 87 b87) 86 (zup b86 (v1.toNatClampNeg) ((b86 ((b87 (l3.toNatClampNeg)).toNatClampNeg)) + 1))) 87 (zup b87 (l2.toNatClampNeg) v1)), fi, (m1, m2, m3, m4, m5))))))))
    else
     some (.inl (12, [.ref 64, .int x, .int l2, .int l3, .int (l4 + 1)], [], ((zua (zua ar 86 b86) 87 b87), fi, (m1, m2, m3, m4, m5))))))))) : Option ((Nat × List Value × List Value × zH2) ⊕ zO2)) := by with_unfolding_all rfl
set_option maxRecDepth 20000 in
theorem k_md_laysFire_12 {X : Nat × (Nat → Int32)} {ar fi : Nat → Nat → Int32} {m1 m2 m3 m4 m5 : Nat} {x : Int32} {l3 : Int32} {o : zO2} : ∀ (s : U_md_laysFire_12) (q : U_md_laysFire_12 ⊕ (U_md_laysFire_4 ⊕ T_md_laysFire)), f_md_laysFire_12 (ar 68) l3 s = some q → zq (M_md_laysFire_12 X (zEx 151 S_md_beside (zEx 152 S_md_isWood zE0)) ar fi m1 m2 m3 m4 m5 x l3 o) (zq (M_md_laysFire_4 X (zEx 151 S_md_beside (zEx 152 S_md_isWood zE0)) ar fi m1 m2 m3 m4 m5 x o) (fun t => O_md_laysFire ar fi m1 m2 m3 m4 m5 t = o)) q → M_md_laysFire_12 X (zEx 151 S_md_beside (zEx 152 S_md_isWood zE0)) ar fi m1 m2 m3 m4 m5 x l3 o s := by
  intro s q h hq
  obtain ⟨l2, l4, b86, b87⟩ := s
  have h : b_md_laysFire_12 (ar 68) l3 l2 l4 b86 b87 = some q := h
  unfold b_md_laysFire_12 at h
  show zR2 X zFT (zEx 151 S_md_beside (zEx 152 S_md_isWood zE0)) zc_217 12 [.ref 64, .int x, .int l2, .int l3, .int l4] [] ((zua (zua ar 86 b86) 87 b87), fi, (m1, m2, m3, m4, m5)) o
  refine zT_seg t12_md_laysFire ?_
  obtain ⟨TT, hTT⟩ : ∃ T, T = zT X zFT (zEx 151 S_md_beside (zEx 152 S_md_isWood zE0)) zc_217 o := ⟨_, rfl⟩
  rw [← hTT]
  refine zb_el h (fun hb h => zU_t hTT hb ?_) (fun hb h => zU_f hTT hb ?_)
  · rw [hTT]
    have hz := zsi h hq
    refine zR2_hp ?_ ?_ hz
    · first | with_reducible rfl | exact hA0_md_laysFire _ _ _
    · first | with_reducible rfl | rfl
  · refine zg_el h (fun hg h => zU_ga hTT hg ?_)
    refine zl_el h (fun h => zU_l hTT ?_)
    refine zg_el h (fun hg h => zU_g hTT hg ?_)
    refine zl_el h (fun h => zU_l hTT ?_)
    refine zb_el h (fun hb h => zU_t hTT hb ?_) (fun hb h => zU_f hTT hb ?_)
    · rw [hTT]
      have hz := zsi h hq
      refine zR2_hp ?_ ?_ hz
      · first | with_reducible rfl | exact hA0_md_laysFire _ _ _
      · first | with_reducible rfl | rfl
    · refine zg_el h (fun hg h => zU_ga hTT hg ?_)
      refine zb_el h (fun hb h => zU_t hTT hb ?_) (fun hb h => zU_f hTT hb ?_)
      · refine zg_el h (fun hg h => zU_ga hTT hg ?_)
        refine zg_el h (fun hg h => zU_ga hTT hg ?_)
        refine zg_el h (fun hg h => zU_ga hTT hg ?_)
        refine zg_el h (fun hg h => zU_ga hTT hg ?_)
        rw [hTT]
        have hz := zsi h hq
        refine zR2_hp ?_ ?_ hz
        · first | with_reducible rfl | exact hA1_md_laysFire _ _ _ _ _
        · first | with_reducible rfl | rfl
      · rw [hTT]
        have hz := zsi h hq
        refine zR2_hp ?_ ?_ hz
        · first | with_reducible rfl | exact hA0_md_laysFire _ _ _
        · first | with_reducible rfl | rfl
set_option maxRecDepth 1000000 in
theorem t4_md_laysFire {X : Nat × (Nat → Int32)} {ar fi : Nat → Nat → Int32} {m1 m2 m3 m4 m5 : Nat} {x : Int32} {l2 : Int32} {l3 : Int32} {b86 : Nat → Int32} {b87 : Nat → Int32} {W_md_beside : Int32 → Int32 → Int32} {G_md_isWood : Int32 → (Nat → Int32) → Bool} {W_md_isWood : Int32 → (Nat → Int32) → Int32} : zseg X zFT (zEx 151 (P_md_beside W_md_beside) (zEx 152 (P_md_isWood G_md_isWood W_md_isWood) zE0)) zc_217 (fun p => Nat.beq p 12 || Nat.beq p 4) 400 4 [.ref 64, .int x, .int l2, .int l3] [] ((zua (zua ar 86 b86) 87 b87), fi, (m1, m2, m3, m4, m5)) = (
  bif decide (l2 ≤ l3) then
   some (.inr (none, ((zua (zua ar 86 b86) 87 b87), fi, (m1, m2, m3, m4, m5))))
  else
   some (.inl (12, [.ref 64, .int x, .int l2, .int l3, .int 0], [], ((zua (zua ar 86 b86) 87 b87), fi, (m1, m2, m3, m4, m5)))) : Option ((Nat × List Value × List Value × zH2) ⊕ zO2)) := by with_unfolding_all rfl
set_option maxRecDepth 20000 in
theorem k_md_laysFire_4 {X : Nat × (Nat → Int32)} {ar fi : Nat → Nat → Int32} {m1 m2 m3 m4 m5 : Nat} {x : Int32} {o : zO2} : ∀ (s : U_md_laysFire_4) (q : U_md_laysFire_4 ⊕ T_md_laysFire), f_md_laysFire_4 (ar 68) s = some q → zq (M_md_laysFire_4 X (zEx 151 S_md_beside (zEx 152 S_md_isWood zE0)) ar fi m1 m2 m3 m4 m5 x o) (fun t => O_md_laysFire ar fi m1 m2 m3 m4 m5 t = o) q → M_md_laysFire_4 X (zEx 151 S_md_beside (zEx 152 S_md_isWood zE0)) ar fi m1 m2 m3 m4 m5 x o s := by
  intro s q h hq
  obtain ⟨l2, l3, b86, b87⟩ := s
  have h : b_md_laysFire_4 (ar 68) l2 l3 b86 b87 = some q := h
  unfold b_md_laysFire_4 at h
  show zR2 X zFT (zEx 151 S_md_beside (zEx 152 S_md_isWood zE0)) zc_217 4 [.ref 64, .int x, .int l2, .int l3] [] ((zua (zua ar 86 b86) 87 b87), fi, (m1, m2, m3, m4, m5)) o
  refine zT_seg t4_md_laysFire ?_
  obtain ⟨TT, hTT⟩ : ∃ T, T = zT X zFT (zEx 151 S_md_beside (zEx 152 S_md_isWood zE0)) zc_217 o := ⟨_, rfl⟩
  rw [← hTT]
  refine zb_el h (fun hb h => zU_t hTT hb ?_) (fun hb h => zU_f hTT hb ?_)
  · rw [hTT]
    have hz := zsi h hq
    refine (zO_mk ?_ ?_).trans hz
    · first | with_reducible rfl | exact hA0_md_laysFire _ _ _
    · first | with_reducible rfl | rfl
  · rw [hTT]
    refine zR2_hp ?_ ?_ (zlp_K k_md_laysFire_12 h hq)
    · first | with_reducible rfl | exact hA0_md_laysFire _ _ _
    · first | with_reducible rfl | rfl
set_option maxRecDepth 1000000 in
theorem t_md_laysFire {X : Nat × (Nat → Int32)} {ar fi : Nat → Nat → Int32} {m1 m2 m3 m4 m5 : Nat} {x : Int32} {W_md_beside : Int32 → Int32 → Int32} {G_md_isWood : Int32 → (Nat → Int32) → Bool} {W_md_isWood : Int32 → (Nat → Int32) → Int32} : zseg X zFT (zEx 151 (P_md_beside W_md_beside) (zEx 152 (P_md_isWood G_md_isWood W_md_isWood) zE0)) zc_217 (fun p => Nat.beq p 12 || Nat.beq p 4) 400 0 [.ref 64, .int x] [] (ar, fi, (m1, m2, m3, m4, m5)) = (
  some (.inl (4, [.ref 64, .int x, .int x, .int 0], [], (ar, fi, (m1, m2, m3, m4, m5)))) : Option ((Nat × List Value × List Value × zH2) ⊕ zO2)) := by with_unfolding_all rfl
set_option maxRecDepth 20000 in
theorem e_md_laysFire {X : Nat × (Nat → Int32)} {ar fi : Nat → Nat → Int32} {m1 m2 m3 m4 m5 : Nat} {x : Int32} {o : zO2} : ∀ (q : T_md_laysFire), q_md_laysFire x (ar 68) (ar 86) (ar 87) = some q → (fun t => O_md_laysFire ar fi m1 m2 m3 m4 m5 t = o) q → zR2 X zFT (zEx 151 S_md_beside (zEx 152 S_md_isWood zE0)) zc_217 0 [.ref 64, .int x] [] (ar, fi, (m1, m2, m3, m4, m5)) o := by
  intro q h hq
  unfold q_md_laysFire at h
  refine zT_seg t_md_laysFire ?_
  obtain ⟨TT, hTT⟩ : ∃ T, T = zT X zFT (zEx 151 S_md_beside (zEx 152 S_md_isWood zE0)) zc_217 o := ⟨_, rfl⟩
  rw [← hTT]
  rw [hTT]
  refine zR2_hp ?_ ?_ (zlp_K k_md_laysFire_4 h hq)
  · first | with_reducible rfl | exact hA2_md_laysFire _
  · first | with_reducible rfl | rfl
theorem ok_md_laysFire (X : Nat × (Nat → Int32)) : zOkS X 217 S_md_laysFire 4 := zOkS_new (zOkE_cons (ok_md_beside X) (by decide) (zOkE_cons (ok_md_isWood X) (by decide) (zOkE_nil X 3))) (by
  intro args g o h
  obtain ⟨ar, fi, m1, m2, m3, m4, m5⟩ := g
  unfold S_md_laysFire P_md_laysFire at h
  split at h
  · refine zb_el h (fun hI0 k0 => ?_) (fun _ h10 => ?_)
    · try simp only [Bool.and_eq_true] at hI0
      have j0 := hI0
      have e0 := Nat.eq_of_beq_eq_true j0
      subst e0
      exact zpe_el k0 (fun t ht ho => by obtain ⟨t0, t1⟩ := t; exact e_md_laysFire _ ht ho)
    · cases h10
  · cases h)
