abbrev T_cu_takeWay : Type := (Nat → Int32) × (Nat → Int32)
abbrev U_cu_takeWay_5 : Type := Int32 × Int32 × (Nat → Int32) × (Nat → Int32)
noncomputable def b_cu_takeWay_5 (x : Int32) (a60 : Nat → Int32) (l3 : Int32) (l4 : Int32) (b58 : Nat → Int32) (b59 : Nat → Int32) : Option (U_cu_takeWay_5 ⊕ T_cu_takeWay) :=
  bif decide (192 ≤ l4) then
   some (.inr (b58, b59))
  else
   bif decide (l3 = 96 + x) then
    some (.inr (b58, b59))
   else
    zg (zin l3 192) (
    bif decide (0 ≤ a60 (l3.toNatClampNeg)) then
     bif decide (a60 (l3.toNatClampNeg) < 96) then
      bif !decide ((a60 (l3.toNatClampNeg)) - (a60 (l3.toNatClampNeg)) / 96 * 96 = l3 - l3 / 96 * 96) then
       zbd (q_cu_mark (l3 - l3 / 96 * 96) ((a60 (l3.toNatClampNeg)) - (a60 (l3.toNatClampNeg)) / 96 * 96) 0 b59) (fun v1 =>
       some (.inl (a60 (l3.toNatClampNeg), l4 + 1, b58, (v1))))
      else
       zg (zin ((a60 (l3.toNatClampNeg)) - (a60 (l3.toNatClampNeg)) / 96 * 96) 96) (
       some (.inl (a60 (l3.toNatClampNeg), l4 + 1, (zup b58 (((a60 (l3.toNatClampNeg)) - (a60 (l3.toNatClampNeg)) / 96 * 96).toNatClampNeg) (1 &&& 1)), b59)))
     else
      bif !decide ((a60 (l3.toNatClampNeg)) - (a60 (l3.toNatClampNeg)) / 96 * 96 = l3 - l3 / 96 * 96) then
       zbd (q_cu_mark ((a60 (l3.toNatClampNeg)) - (a60 (l3.toNatClampNeg)) / 96 * 96) (l3 - l3 / 96 * 96) 1 b59) (fun v2 =>
       some (.inl (a60 (l3.toNatClampNeg), l4 + 1, b58, (v2))))
      else
       zg (zin ((a60 (l3.toNatClampNeg)) - (a60 (l3.toNatClampNeg)) / 96 * 96) 96) (
       some (.inl (a60 (l3.toNatClampNeg), l4 + 1, (zup b58 (((a60 (l3.toNatClampNeg)) - (a60 (l3.toNatClampNeg)) / 96 * 96).toNatClampNeg) (0 &&& 1)), b59)))
    else
     some (.inr (b58, b59)))
noncomputable def f_cu_takeWay_5 (x : Int32) (a60 : Nat → Int32) : U_cu_takeWay_5 → Option (U_cu_takeWay_5 ⊕ T_cu_takeWay) := fun s => b_cu_takeWay_5 x a60 s.1 s.2.1 s.2.2.1 s.2.2.2
noncomputable def l_cu_takeWay_5 (x : Int32) (a60 : Nat → Int32) (l3 : Int32) (l4 : Int32) (b58 : Nat → Int32) (b59 : Nat → Int32) : Option T_cu_takeWay := zlp (f_cu_takeWay_5 x a60) (l3, l4, b58, b59)
noncomputable def q_cu_takeWay (x : Int32) (y : Int32) (a58 : Nat → Int32) (a59 : Nat → Int32) (a60 : Nat → Int32) : Option T_cu_takeWay :=
  l_cu_takeWay_5 x a60 y 0 a58 a59
def P_cu_takeWay (Q : Int32 → Int32 → (Nat → Int32) → (Nat → Int32) → (Nat → Int32) → Option ((Nat → Int32) × (Nat → Int32))) : zSp := fun as g => match as with
  | [.ref a, .int x, .int y] => bif Nat.beq a 57 then zpe (Q x y (g.1 58) (g.1 59) (g.1 60)) (fun t => (none, ((zua (zua g.1 58 t.1) 59 t.2), g.2.1, g.2.2))) else none
  | _ => none
noncomputable abbrev S_cu_takeWay : zSp := P_cu_takeWay q_cu_takeWay
theorem hA3_cu_takeWay (F : Nat → Nat → Int32) : F = (zua (zua F 58 (F 58)) 59 (F 59)) := zuak_ix F [] [(58, none), (59, none)] rfl
theorem hA2_cu_takeWay (F : Nat → Nat → Int32) (w0 w1 w2 : Nat → Int32) : (zua (zua (zua F 58 w0) 59 w1) 58 w2) = (zua (zua F 58 w2) 59 w1) := zuak_ix F [(58, w0), (59, w1), (58, w2)] [(58, some 2), (59, some 1)] rfl
theorem hA1_cu_takeWay (F : Nat → Nat → Int32) (w0 w1 w2 : Nat → Int32) : (zua (zua (zua F 58 w0) 59 w1) 59 w2) = (zua (zua F 58 w0) 59 w2) := zuak_ix F [(58, w0), (59, w1), (59, w2)] [(58, some 0), (59, some 2)] rfl
theorem hA0_cu_takeWay (F : Nat → Nat → Int32) (w0 w1 : Nat → Int32) : (zua (zua F 58 w0) 59 w1) = (zua (zua F 58 w0) 59 w1) := zuak_ix F [(58, w0), (59, w1)] [(58, some 0), (59, some 1)] rfl
def O_cu_takeWay (ar fi : Nat → Nat → Int32) (m1 : Nat) (m2 : Nat) (m3 : Nat) (m4 : Nat) (m5 : Nat) (t : T_cu_takeWay) : zO2 := match t with
  | (t0, t1) => (none, ((zua (zua ar 58 t0) 59 t1), fi, (m1, m2, m3, m4, m5)))
def M_cu_takeWay_5 (X : Nat × (Nat → Int32)) (E : zTE) (ar fi : Nat → Nat → Int32) (m1 : Nat) (m2 : Nat) (m3 : Nat) (m4 : Nat) (m5 : Nat) (x : Int32) (y : Int32) (o : zO2) (s : U_cu_takeWay_5) : Prop := match s with
  | (l3, l4, b58, b59) => zR2 X zFT E zc_17 5 [.ref 57, .int x, .int y, .int l3, .int l4] [] ((zua (zua ar 58 b58) 59 b59), fi, (m1, m2, m3, m4, m5)) o
set_option maxRecDepth 1000000 in
theorem t5_cu_takeWay {X : Nat × (Nat → Int32)} {ar fi : Nat → Nat → Int32} {m1 m2 m3 m4 m5 : Nat} {x y : Int32} {l3 : Int32} {l4 : Int32} {b58 : Nat → Int32} {b59 : Nat → Int32} {Q_cu_mark : Int32 → Int32 → Int32 → (Nat → Int32) → Option ((Nat → Int32))} : zseg X zFT (zEx 18 (P_cu_mark Q_cu_mark) zE0) zc_17 (fun p => Nat.beq p 5) 400 5 [.ref 57, .int x, .int y, .int l3, .int l4] [] ((zua (zua ar 58 b58) 59 b59), fi, (m1, m2, m3, m4, m5)) = (
  bif decide (192 ≤ l4) then
   some (.inr (none, ((zua (zua ar 58 b58) 59 b59), fi, (m1, m2, m3, m4, m5))))
  else
   bif decide (l3 = 96 + x) then
    some (.inr (none, ((zua (zua ar 58 b58) 59 b59), fi, (m1, m2, m3, m4, m5))))
   else
    zg (Nat.beq 16 16 && (zin l3 192)) (
    bif decide (0 ≤ (ar 60) (l3.toNatClampNeg)) then
     bif decide ((ar 60) (l3.toNatClampNeg) < 96) then
      zg (!decide ((96 : Int32) = 0)) (
      zg (!decide ((96 : Int32) = 0)) (
      bif !decide (((ar 60) (l3.toNatClampNeg)) - ((ar 60) (l3.toNatClampNeg)) / 96 * 96 = l3 - l3 / 96 * 96) then
       zl (Q_cu_mark (l3 - l3 / 96 * 96) (((ar 60) (l3.toNatClampNeg)) - ((ar 60) (l3.toNatClampNeg)) / 96 * 96) 0 b59) (fun v1 => zg v1.isSome (
       some (.inl (5, [.ref 57, .int x, .int y, .int ((ar 60) (l3.toNatClampNeg)), .int (l4 + 1)], [], ((zua (zua (zua ar 58 b58) 59 b59) 59 (((zgt v1)))), fi, (m1, m2, m3, m4, m5))))))
      else
       zg ((Nat.beq 18 17 || Nat.beq 18 18) && (zin (((ar 60) (l3.toNatClampNeg)) - ((ar 60) (l3.toNatClampNeg)) / 96 * 96) 96)) (
       some (.inl (5, [.ref 57, .int x, .int y, .int ((ar 60) (l3.toNatClampNeg)), .int (l4 + 1)], [], ((zua (zua (zua ar 58 b58) 59 b59) 58 (zup b58 ((((ar 60) (l3.toNatClampNeg)) - ((ar 60) (l3.toNatClampNeg)) / 96 * 96).toNatClampNeg) (1 &&& 1))), fi, (m1, m2, m3, m4, m5)))))))
     else
      zg (!decide ((96 : Int32) = 0)) (
      zg (!decide ((96 : Int32) = 0)) (
      bif !decide (((ar 60) (l3.toNatClampNeg)) - ((ar 60) (l3.toNatClampNeg)) / 96 * 96 = l3 - l3 / 96 * 96) then
       zl (Q_cu_mark (((ar 60) (l3.toNatClampNeg)) - ((ar 60) (l3.toNatClampNeg)) / 96 * 96) (l3 - l3 / 96 * 96) 1 b59) (fun v2 => zg v2.isSome (
       some (.inl (5, [.ref 57, .int x, .int y, .int ((ar 60) (l3.toNatClampNeg)), .int (l4 + 1)], [], ((zua (zua (zua ar 58 b58) 59 b59) 59 (((zgt v2)))), fi, (m1, m2, m3, m4, m5))))))
      else
       zg ((Nat.beq 18 17 || Nat.beq 18 18) && (zin (((ar 60) (l3.toNatClampNeg)) - ((ar 60) (l3.toNatClampNeg)) / 96 * 96) 96)) (
       some (.inl (5, [.ref 57, .int x, .int y, .int ((ar 60) (l3.toNatClampNeg)), .int (l4 + 1)], [], ((zua (zua (zua ar 58 b58) 59 b59) 58 (zup b58 ((((ar 60) (l3.toNatClampNeg)) - ((ar 60) (l3.toNatClampNeg)) / 96 * 96).toNatClampNeg) (0 &&& 1))), fi, (m1, m2, m3, m4, m5)))))))
    else
     some (.inr (none, ((zua (zua ar 58 b58) 59 b59), fi, (m1, m2, m3, m4, m5))))) : Option ((Nat × List Value × List Value × zH2) ⊕ zO2)) := rfl
set_option maxRecDepth 20000 in
theorem k_cu_takeWay_5 {X : Nat × (Nat → Int32)} {ar fi : Nat → Nat → Int32} {m1 m2 m3 m4 m5 : Nat} {x y : Int32} {o : zO2} : ∀ (s : U_cu_takeWay_5) (q : U_cu_takeWay_5 ⊕ T_cu_takeWay), f_cu_takeWay_5 x (ar 60) s = some q → zq (M_cu_takeWay_5 X (zEx 18 S_cu_mark zE0) ar fi m1 m2 m3 m4 m5 x y o) (fun t => O_cu_takeWay ar fi m1 m2 m3 m4 m5 t = o) q → M_cu_takeWay_5 X (zEx 18 S_cu_mark zE0) ar fi m1 m2 m3 m4 m5 x y o s := by
  intro s q h hq
  obtain ⟨l3, l4, b58, b59⟩ := s
  have h : b_cu_takeWay_5 x (ar 60) l3 l4 b58 b59 = some q := h
  unfold b_cu_takeWay_5 at h
  show zR2 X zFT (zEx 18 S_cu_mark zE0) zc_17 5 [.ref 57, .int x, .int y, .int l3, .int l4] [] ((zua (zua ar 58 b58) 59 b59), fi, (m1, m2, m3, m4, m5)) o
  refine zT_seg t5_cu_takeWay ?_
  obtain ⟨TT, hTT⟩ : ∃ T, T = zT X zFT (zEx 18 S_cu_mark zE0) zc_17 o := ⟨_, rfl⟩
  rw [← hTT]
  refine zb_el h (fun hb h => zU_t hTT hb ?_) (fun hb h => zU_f hTT hb ?_)
  · rw [hTT]
    have hz := zsi h hq
    refine (zO_mk ?_ ?_).trans hz
    · first | with_reducible rfl | exact hA0_cu_takeWay _ _ _
    · first | with_reducible rfl | rfl
  · refine zb_el h (fun hb h => zU_t hTT hb ?_) (fun hb h => zU_f hTT hb ?_)
    · rw [hTT]
      have hz := zsi h hq
      refine (zO_mk ?_ ?_).trans hz
      · first | with_reducible rfl | exact hA0_cu_takeWay _ _ _
      · first | with_reducible rfl | rfl
    · refine zg_el h (fun hg h => zU_ga hTT hg ?_)
      refine zb_el h (fun hb h => zU_t hTT hb ?_) (fun hb h => zU_f hTT hb ?_)
      · refine zb_el h (fun hb h => zU_t hTT hb ?_) (fun hb h => zU_f hTT hb ?_)
        · refine zU_g hTT rfl ?_
          refine zU_g hTT rfl ?_
          refine zb_el h (fun hb h => zU_t hTT hb ?_) (fun hb h => zU_f hTT hb ?_)
          · refine zbd_el h (fun v1 hv h => zU_c hTT hv ?_)
            rw [hTT]
            have hz := zsi h hq
            refine zR2_hp ?_ ?_ hz
            · first | with_reducible rfl | exact hA1_cu_takeWay _ _ _ _
            · first | with_reducible rfl | rfl
          · refine zg_el h (fun hg h => zU_gc hTT hg ?_)
            rw [hTT]
            have hz := zsi h hq
            refine zR2_hp ?_ ?_ hz
            · first | with_reducible rfl | exact hA2_cu_takeWay _ _ _ _
            · first | with_reducible rfl | rfl
        · refine zU_g hTT rfl ?_
          refine zU_g hTT rfl ?_
          refine zb_el h (fun hb h => zU_t hTT hb ?_) (fun hb h => zU_f hTT hb ?_)
          · refine zbd_el h (fun v2 hv h => zU_c hTT hv ?_)
            rw [hTT]
            have hz := zsi h hq
            refine zR2_hp ?_ ?_ hz
            · first | with_reducible rfl | exact hA1_cu_takeWay _ _ _ _
            · first | with_reducible rfl | rfl
          · refine zg_el h (fun hg h => zU_gc hTT hg ?_)
            rw [hTT]
            have hz := zsi h hq
            refine zR2_hp ?_ ?_ hz
            · first | with_reducible rfl | exact hA2_cu_takeWay _ _ _ _
            · first | with_reducible rfl | rfl
      · rw [hTT]
        have hz := zsi h hq
        refine (zO_mk ?_ ?_).trans hz
        · first | with_reducible rfl | exact hA0_cu_takeWay _ _ _
        · first | with_reducible rfl | rfl
set_option maxRecDepth 1000000 in
theorem t_cu_takeWay {X : Nat × (Nat → Int32)} {ar fi : Nat → Nat → Int32} {m1 m2 m3 m4 m5 : Nat} {x y : Int32} {Q_cu_mark : Int32 → Int32 → Int32 → (Nat → Int32) → Option ((Nat → Int32))} : zseg X zFT (zEx 18 (P_cu_mark Q_cu_mark) zE0) zc_17 (fun p => Nat.beq p 5) 400 0 [.ref 57, .int x, .int y] [] (ar, fi, (m1, m2, m3, m4, m5)) = (
  some (.inl (5, [.ref 57, .int x, .int y, .int y, .int 0], [], (ar, fi, (m1, m2, m3, m4, m5)))) : Option ((Nat × List Value × List Value × zH2) ⊕ zO2)) := by with_unfolding_all rfl
set_option maxRecDepth 20000 in
theorem e_cu_takeWay {X : Nat × (Nat → Int32)} {ar fi : Nat → Nat → Int32} {m1 m2 m3 m4 m5 : Nat} {x y : Int32} {o : zO2} : ∀ (q : T_cu_takeWay), q_cu_takeWay x y (ar 58) (ar 59) (ar 60) = some q → (fun t => O_cu_takeWay ar fi m1 m2 m3 m4 m5 t = o) q → zR2 X zFT (zEx 18 S_cu_mark zE0) zc_17 0 [.ref 57, .int x, .int y] [] (ar, fi, (m1, m2, m3, m4, m5)) o := by
  intro q h hq
  unfold q_cu_takeWay at h
  refine zT_seg t_cu_takeWay ?_
  obtain ⟨TT, hTT⟩ : ∃ T, T = zT X zFT (zEx 18 S_cu_mark zE0) zc_17 o := ⟨_, rfl⟩
  rw [← hTT]
  rw [hTT]
  refine zR2_hp ?_ ?_ (zlp_K k_cu_takeWay_5 h hq)
  · first | with_reducible rfl | exact hA3_cu_takeWay _
  · first | with_reducible rfl | rfl
theorem ok_cu_takeWay (X : Nat × (Nat → Int32)) : zOkS X 17 S_cu_takeWay 3 := zOkS_new (zOkE_cons (ok_cu_mark X) (by decide) (zOkE_nil X 2)) (by
  intro args g o h
  obtain ⟨ar, fi, m1, m2, m3, m4, m5⟩ := g
  unfold S_cu_takeWay P_cu_takeWay at h
  split at h
  · refine zb_el h (fun hI0 k0 => ?_) (fun _ h10 => ?_)
    · try simp only [Bool.and_eq_true] at hI0
      have j0 := hI0
      have e0 := Nat.eq_of_beq_eq_true j0
      subst e0
      exact zpe_el k0 (fun t ht ho => by obtain ⟨t0, t1⟩ := t; exact e_cu_takeWay _ ht ho)
    · cases h10
  · cases h)
