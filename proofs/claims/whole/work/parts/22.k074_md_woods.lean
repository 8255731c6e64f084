abbrev T_md_woods : Type := Int32 × (Nat → Int32) × (Nat → Int32)
abbrev U_md_woods_22 : Type := Int32 × Int32 × Int32 × (Nat → Int32) × (Nat → Int32)
noncomputable def b_md_woods_22 (x : Int32) (a68 : Nat → Int32) (l2 : Int32) (l3 : Int32) (l4 : Int32) (b86 : Nat → Int32) (b87 : Nat → Int32) : Option (U_md_woods_22 ⊕ T_md_woods) :=
  bif decide (96 ≤ l4) then
   bif !decide (x = 0) then
    some (.inr (l3, b86, b87))
   else
    some (.inr (l2, b86, b87))
  else
   zg (g_md_isWood l4 a68) (
   zl (w_md_isWood l4 a68) (fun v3 =>
   bif decide (v3 = 0) then
    some (.inl (l2, l3, l4 + 1, b86, b87))
   else
    zg (zin l4 96) (
    bif decide (b86 (l4.toNatClampNeg) = (-1)) then
     zl (w_md_woodSeen b86) (fun v4 =>
     zg (zin l4 96) (
     zg (zin 0 192) (
     zbd (q_md_laysFire 1 a68 (zup b86 (l4.toNatClampNeg) 0) (zup b87 ((0 : Int32).toNatClampNeg) l4)) (fun v5 =>
     zl (w_md_woodSeen ((v5.1))) (fun v6 =>
     zl (w_md_max l3 (v6 - v4)) (fun v7 =>
     some (.inl (l2 + 1, v7, l4 + 1, ((v5.1)), ((v5.2))))))))))
    else
     some (.inl (l2, l3, l4 + 1, b86, b87)))))
noncomputable def f_md_woods_22 (x : Int32) (a68 : Nat → Int32) : U_md_woods_22 → Option (U_md_woods_22 ⊕ T_md_woods) := fun s => b_md_woods_22 x a68 s.1 s.2.1 s.2.2.1 s.2.2.2.1 s.2.2.2.2
noncomputable def l_md_woods_22 (x : Int32) (a68 : Nat → Int32) (l2 : Int32) (l3 : Int32) (l4 : Int32) (b86 : Nat → Int32) (b87 : Nat → Int32) : Option T_md_woods := zlp (f_md_woods_22 x a68) (l2, l3, l4, b86, b87)
noncomputable def q_md_woods (x : Int32) (a68 : Nat → Int32) (a86 : Nat → Int32) (a87 : Nat → Int32) : Option T_md_woods :=
  zl (w_md_in x 0 1) (fun v1 =>
  bif !decide (v1 = 0) then
   zl (a0_md_clearsFire a86) (fun v2 =>
   l_md_woods_22 x a68 0 0 0 v2 a87)
  else
   some ((-1), a86, a87))
def P_md_woods (Q : Int32 → (Nat → Int32) → (Nat → Int32) → (Nat → Int32) → Option (Int32 × (Nat → Int32) × (Nat → Int32))) : zSp := fun as g => match as with
  | [.ref a, .int x] => bif Nat.beq a 64 then zpe (Q x (g.1 68) (g.1 86) (g.1 87)) (fun t => (some (.int (t.1)), ((zua (zua g.1 86 t.2.1) 87 t.2.2), g.2.1, g.2.2))) else none
  | _ => none
noncomputable abbrev S_md_woods : zSp := P_md_woods q_md_woods
theorem hA3_md_woods (F : Nat → Nat → Int32) : F = (zua (zua F 86 (F 86)) 87 (F 87)) := zuak_ix F [] [(86, none), (87, none)] rfl
theorem hA2_md_woods (F : Nat → Nat → Int32) (w0 : Nat → Int32) : (zua F 86 w0) = (zua (zua F 86 w0) 87 (F 87)) := zuak_ix F [(86, w0)] [(86, some 0), (87, none)] rfl
theorem hA1_md_woods (F : Nat → Nat → Int32) (w0 w1 w2 w3 w4 w5 : Nat → Int32) : (zua (zua (zua (zua (zua (zua F 86 w0) 87 w1) 86 w2) 87 w3) 86 w4) 87 w5) = (zua (zua F 86 w4) 87 w5) := zuak_ix F [(86, w0), (87, w1), (86, w2), (87, w3), (86, w4), (87, w5)] [(86, some 4), (87, some 5)] rfl
theorem hA0_md_woods (F : Nat → Nat → Int32) (w0 w1 : Nat → Int32) : (zua (zua F 86 w0) 87 w1) = (zua (zua F 86 w0) 87 w1) := zuak_ix F [(86, w0), (87, w1)] [(86, some 0), (87, some 1)] rfl
def O_md_woods (ar fi : Nat → Nat → Int32) (m1 : Nat) (m2 : Nat) (m3 : Nat) (m4 : Nat) (m5 : Nat) (t : T_md_woods) : zO2 := match t with
  | (t0, t1, t2) => (some (.int (t0)), ((zua (zua ar 86 t1) 87 t2), fi, (m1, m2, m3, m4, m5)))
def M_md_woods_22 (X : Nat × (Nat → Int32)) (E : zTE) (ar fi : Nat → Nat → Int32) (m1 : Nat) (m2 : Nat) (m3 : Nat) (m4 : Nat) (m5 : Nat) (x : Int32) (o : zO2) (s : U_md_woods_22) : Prop := match s with
  | (l2, l3, l4, b86, b87) => zR2 X zFT E zc_232 22 [.ref 64, .int x, .int l2, .int l3, .int l4] [] ((zua (zua ar 86 b86) 87 b87), fi, (m1, m2, m3, m4, m5)) o
set_option maxRecDepth 1000000 in
theorem t22_md_woods {X : Nat × (Nat → Int32)} {ar fi : Nat → Nat → Int32} {m1 m2 m3 m4 m5 : Nat} {x : Int32} {l2 : Int32} {l3 : Int32} {l4 : Int32} {b86 : Nat → Int32} {b87 : Nat → Int32} {W_md_in : Int32 → Int32 → Int32 → Int32} {A0_md_clearsFire : (Nat → Int32) → Nat → Int32} {G_md_isWood : Int32 → (Nat → Int32) → Bool} {W_md_isWood : Int32 → (Nat → Int32) → Int32} {W_md_woodSeen : (Nat → Int32) → Int32} {Q_md_laysFire : Int32 → (Nat → Int32) → (Nat → Int32) → (Nat → Int32) → Option ((Nat → Int32) × (Nat → Int32))} {W_md_max : Int32 → Int32 → Int32} : zseg X zFT (zEx 143 (P_md_in W_md_in) (zEx 218 (P_md_clearsFire A0_md_clearsFire) (zEx 152 (P_md_isWood G_md_isWood W_md_isWood) (zEx 233 (P_md_woodSeen W_md_woodSeen) (zEx 217 (P_md_laysFire Q_md_laysFire) (zEx 144 (P_md_max W_md_max) zE0)))))) zc_232 (fun p => Nat.beq p 22) 400 22 [.ref 64, .int x, .int l2, .int l3, .int l4] [] ((zua (zua ar 86 b86) 87 b87), fi, (m1, m2, m3, m4, m5)) = (
  bif decide (96 ≤ l4) then
   bif !decide (x = 0) then
    some (.inr (some (.int l3), ((zua (zua ar 86 b86) 87 b87), fi, (m1, m2, m3, m4, m5))))
   else
    some (.inr (some (.int l2), ((zua (zua ar 86 b86) 87 b87), fi, (m1, m2, m3, m4, m5))))
  else
   zg (G_md_isWood l4 (ar 68)) (
   zl (W_md_isWood l4 (ar 68)) (fun v3 =>
   bif decide (v3 = 0) then
    some (.inl (22, [.ref 64, .int x, .int l2, .int l3, .int (l4 + 1)], [], ((zua (zua ar 86 b86) 87 b87), fi, (m1, m2, m3, m4, m5))))
   else
    zg (Nat.beq 16 16 && (zin l4 96)) (
    bif decide (b86 (l4.toNatClampNeg) = (-1)) then
     zl (W_md_woodSeen b86) (fun v4 =>
     zg (Nat.beq 16 16 && (zin l4 96)) (
     zg (Nat.beq 16 16 && (zin 0 192)) (
     zl (Q_md_laysFire 1 (ar 68) (zup b86 (l4.toNatClampNeg) 0) (zup b87 ((0 : Int32).toNatClampNeg) l4)) (fun v5 => zg v5.isSome (
     zl (W_md_woodSeen (((zgt v5).1))) (fun v6 =>
     zl (W_md_max l3 (v6 - v4)) (fun v7 =>
     some (.inl (22, [.ref 64, .int x, .int (l2 + 1), .int v7, .int (l4 + 1)], [], ((zua (zua (zua (zua (zua (zua ar 86 b86) 87 b87) 86 (zup b86 (l4.toNatClampNeg) 0)) 87 (zup b87 ((0 : Int32).toNatClampNeg) l4)) 86 (((zgt v5).1))) 87 (((zgt v5).2))), fi, (m1, m2, m3, m4, m5)))))))))))
    else
     some (.inl (22, [.ref 64, .int x, .int l2, .int l3, .int (l4 + 1)], [], ((zua (zua ar 86 b86) 87 b87), fi, (m1, m2, m3, m4, m5))))))) : Option ((Nat × List Value × List Value × zH2) ⊕ zO2)) := by with_unfolding_all rfl
set_option maxRecDepth 20000 in
theorem k_md_woods_22 {X : Nat × (Nat → Int32)} {ar fi : Nat → Nat → Int32} {m1 m2 m3 m4 m5 : Nat} {x : Int32} {o : zO2} : ∀ (s : U_md_woods_22) (q : U_md_woods_22 ⊕ T_md_woods), f_md_woods_22 x (ar 68) s = some q → zq (M_md_woods_22 X (zEx 143 S_md_in (zEx 218 S_md_clearsFire (zEx 152 S_md_isWood (zEx 233 S_md_woodSeen (zEx 217 S_md_laysFire (zEx 144 S_md_max zE0)))))) ar fi m1 m2 m3 m4 m5 x o) (fun t => O_md_woods ar fi m1 m2 m3 m4 m5 t = o) q → M_md_woods_22 X (zEx 143 S_md_in (zEx 218 S_md_clearsFire (zEx 152 S_md_isWood (zEx 233 S_md_woodSeen (zEx 217 S_md_laysFire (zEx 144 S_md_max zE0)))))) ar fi m1 m2 m3 m4 m5 x o s := by
  intro s q h hq
  obtain ⟨l2, l3, l4, b86, b87⟩ := s
  have h : b_md_woods_22 x (ar 68) l2 l3 l4 b86 b87 = some q := h
  unfold b_md_woods_22 at h
  show zR2 X zFT (zEx 143 S_md_in (zEx 218 S_md_clearsFire (zEx 152 S_md_isWood (zEx 233 S_md_woodSeen (zEx 217 S_md_laysFire (zEx 144 S_md_max zE0)))))) zc_232 22 [.ref 64, .int x, .int l2, .int l3, .int l4] [] ((zua (zua ar 86 b86) 87 b87), fi, (m1, m2, m3, m4, m5)) o
  refine zT_seg t22_md_woods ?_
  obtain ⟨TT, hTT⟩ : ∃ T, T = zT X zFT (zEx 143 S_md_in (zEx 218 S_md_clearsFire (zEx 152 S_md_isWood (zEx 233 S_md_woodSeen (zEx 217 S_md_laysFire (zEx 144 S_md_max zE0)))))) zc_232 o := ⟨_, rfl⟩
  rw [← hTT]
  refine zb_el h (fun hb h => zU_t hTT hb ?_) (fun hb h => zU_f hTT hb ?_)
  · refine zb_el h (fun hb h => zU_t hTT hb ?_) (fun hb h => zU_f hTT hb ?_)
    · rw [hTT]
      have hz := zsi h hq
      refine (zO_mk ?_ ?_).trans hz
      · first | with_reducible rfl | exact hA0_md_woods _ _ _
      · first | with_reducible rfl | rfl
    · rw [hTT]
      have hz := zsi h hq
      refine (zO_mk ?_ ?_).trans hz
      · first | with_reducible rfl | exact hA0_md_woods _ _ _
      · first | with_reducible rfl | rfl
  · refine zg_el h (fun hg h => zU_g hTT hg ?_)
    refine zl_el h (fun h => zU_l hTT ?_)
    refine zb_el h (fun hb h => zU_t hTT hb ?_) (fun hb h => zU_f hTT hb ?_)
    · rw [hTT]
      have hz := zsi h hq
      refine zR2_hp ?_ ?_ hz
      · first | with_reducible rfl | exact hA0_md_woods _ _ _
      · first | with_reducible rfl | rfl
    · refine zg_el h (fun hg h => zU_ga hTT hg ?_)
      refine zb_el h (fun hb h => zU_t hTT hb ?_) (fun hb h => zU_f hTT hb ?_)
      · refine zl_el h (fun h => zU_l hTT ?_)
        refine zg_el h (fun hg h => zU_ga hTT hg ?_)
        refine zg_el h (fun hg h => zU_ga hTT hg ?_)
        refine zbd_el h (fun v5 hv h => zU_c hTT hv ?_)
        refine zl_el h (fun h => zU_l hTT ?_)
        refine zl_el h (fun h => zU_l hTT ?_)
        rw [hTT]
        have hz := zsi h hq
        refine zR2_hp ?_ ?_ hz
        · first | with_reducible rfl | exact hA1_md_woods _ _ _ _ _ _ _
        · first | with_reducible rfl | rfl
      · rw [hTT]
        have hz := zsi h hq
        refine zR2_hp ?_ ?_ hz
        · first | with_reducible rfl | exact hA0_md_woods _ _ _
        · first | with_reducible rfl | rfl
set_option maxRecDepth 1000000 in
theorem t_md_woods {X : Nat × (Nat → Int32)} {ar fi : Nat → Nat → Int32} {m1 m2 m3 m4 m5 : Nat} {x : Int32} {W_md_in : Int32 → Int32 → Int32 → Int32} {A0_md_clearsFire : (Nat → Int32) → Nat → Int32} {G_md_isWood : Int32 → (Nat → Int32) → Bool} {W_md_isWood : Int32 → (Nat → Int32) → Int32} {W_md_woodSeen : (Nat → Int32) → Int32} {Q_md_laysFire : Int32 → (Nat → Int32) → (Nat → Int32) → (Nat → Int32) → Option ((Nat → Int32) × (Nat → Int32))} {W_md_max : Int32 → Int32 → Int32} : zseg X zFT (zEx 143 (P_md_in W_md_in) (zEx 218 (P_md_clearsFire A0_md_clearsFire) (zEx 152 (P_md_isWood G_md_isWood W_md_isWood) (zEx 233 (P_md_woodSeen W_md_woodSeen) (zEx 217 (P_md_laysFire Q_md_laysFire) (zEx 144 (P_md_max W_md_max) zE0)))))) zc_232 (fun p => Nat.beq p 22) 400 0 [.ref 64, .int x] [] (ar, fi, (m1, m2, m3, m4, m5)) = (
  zl (W_md_in x 0 1) (fun v1 =>
  bif !decide (v1 = 0) then
   zl (A0_md_clearsFire (ar 86)) (fun v2 =>
   some (.inl (22, [.ref 64, .int x, .int 0, .int 0, .int 0], [], ((zua ar 86 v2), fi, (m1, m2, m3, m4, m5)))))
  else
   some (.inr (some (.int (-1)), (ar, fi, (m1, m2, m3, m4, m5))))) : Option ((Nat × List Value × List Value × zH2) ⊕ zO2)) := by with_unfolding_all rfl
set_option maxRecDepth 20000 in
theorem e_md_woods {X : Nat × (Nat → Int32)} {ar fi : Nat → Nat → Int32} {m1 m2 m3 m4 m5 : Nat} {x : Int32} {o : zO2} : ∀ (q : T_md_woods), q_md_woods x (ar 68) (ar 86) (ar 87) = some q → (fun t => O_md_woods ar fi m1 m2 m3 m4 m5 t = o) q → zR2 X zFT (zEx 143 S_md_in (zEx 218 S_md_clearsFire (zEx 152 S_md_isWood (zEx 233 S_md_woodSeen (zEx 217 S_md_laysFire (zEx 144 S_md_max zE0)))))) zc_232 0 [.ref 64, .int x] [] (ar, fi, (m1, m2, m3, m4, m5)) o := by
  intro q h hq
  unfold q_md_woods at h
  refine zT_seg t_md_woods ?_
  obtain ⟨TT, hTT⟩ : ∃ T, T = zT X zFT (zEx 143 S_md_in (zEx 218 S_md_clearsFire (zEx 152 S_md_isWood (zEx 233 S_md_woodSeen (zEx 217 S_md_laysFire (zEx 144 S_md_max zE0)))))) zc_232 o := ⟨_, rfl⟩
  rw [← hTT]
  refine zl_el h (fun h => zU_l hTT ?_)
  refine zb_el h (fun hb h => zU_t hTT hb ?_) (fun hb h => zU_f hTT hb ?_)
  · refine zl_el h (fun h => zU_l hTT ?_)
    rw [hTT]
    refine zR2_hp ?_ ?_ (zlp_K k_md_woods_22 h hq)
    · first | with_reducible rfl | exact hA2_md_woods _ _
    · first | with_reducible rfl | rfl
  · rw [hTT]
    have hz := zsi (P := (fun t => O_md_woods ar fi m1 m2 m3 m4 m5 t = o)) h hq
    refine (zO_mk ?_ ?_).trans hz
    · first | with_reducible rfl | exact hA3_md_woods _
    · first | with_reducible rfl | rfl
theorem ok_md_woods (X : Nat × (Nat → Int32)) : zOkS X 232 S_md_woods 5 := zOkS_new (zOkE_cons (ok_md_in X) (by decide) (zOkE_cons (ok_md_clearsFire X) (by decide) (zOkE_cons (ok_md_isWood X) (by decide) (zOkE_cons (ok_md_woodSeen X) (by decide) (zOkE_cons (ok_md_laysFire X) (by decide) (zOkE_cons (ok_md_max X) (by decide) (zOkE_nil X 4))))))) (by
  intro args g o h
  obtain ⟨ar, fi, m1, m2, m3, m4, m5⟩ := g
  unfold S_md_woods P_md_woods at h
  split at h
  · refine zb_el h (fun hI0 k0 => ?_) (fun _ h10 => ?_)
    · try simp only [Bool.and_eq_true] at hI0
      have j0 := hI0
      have e0 := Nat.eq_of_beq_eq_true j0
      subst e0
      exact zpe_el k0 (fun t ht ho => by obtain ⟨t0, t1, t2⟩ := t; exact e_md_woods _ ht ho)
    · cases h10
  · cases h)
