abbrev T_cl_canPay : Type := Int32
abbrev U_cl_canPay_12 : Type := Int32 × Int32
def b_cl_canPay_12 (y : Int32) (z : Int32) (u : Int32) (a1 : Nat → Int32) (l4 : Int32) (l5 : Int32) : Option (U_cl_canPay_12 ⊕ T_cl_canPay) :=
  bif decide (y ≤ l5) then
   bif decide (l4 < 0) then
    some (.inr 0)
   else
    some (.inr 1)
  else
   bif decide (l5 = u) then
    some (.inl (l4, l5 + 1))
   else
    bif !decide (((Int32.toUInt32 z >>> (Int32.toUInt32 l5 &&& Int32.toUInt32 31)).toInt32) &&& 1 = 0) then
     some (.inl (l4, l5 + 1))
    else
     zg (zin ((y * l5) + u) 260) (
     zg (zin ((y * u) + l5) 260) (
     some (.inl (l4 + ((a1 (((y * l5) + u).toNatClampNeg)) - (a1 (((y * u) + l5).toNatClampNeg))), l5 + 1))))
def f_cl_canPay_12 (y : Int32) (z : Int32) (u : Int32) (a1 : Nat → Int32) : U_cl_canPay_12 → Option (U_cl_canPay_12 ⊕ T_cl_canPay) := fun s => b_cl_canPay_12 y z u a1 s.1 s.2
noncomputable def l_cl_canPay_12 (y : Int32) (z : Int32) (u : Int32) (a1 : Nat → Int32) (l4 : Int32) (l5 : Int32) : Option T_cl_canPay := zlp (f_cl_canPay_12 y z u a1) (l4, l5)
noncomputable def q_cl_canPay (y : Int32) (z : Int32) (u : Int32) (a1 : Nat → Int32) : Option T_cl_canPay :=
  zg (zin ((y * u) + u) 260) (
  l_cl_canPay_12 y z u a1 (a1 (((y * u) + u).toNatClampNeg)) 0)
def P_cl_canPay (Q : Int32 → Int32 → Int32 → (Nat → Int32) → Option (Int32)) : zSp := fun as g => match as with
  | [.ref a, .int y, .int z, .int u] => bif Nat.beq a 1 then zpe (Q y z u (g.1 1)) (fun t => (some (.int t), (g.1, g.2.1, g.2.2))) else none
  | _ => none
noncomputable abbrev S_cl_canPay : zSp := P_cl_canPay q_cl_canPay
def O_cl_canPay (ar fi : Nat → Nat → Int32) (m1 : Nat) (m2 : Nat) (m3 : Nat) (m4 : Nat) (m5 : Nat) (t : T_cl_canPay) : zO2 := (some (.int t), (ar, fi, (m1, m2, m3, m4, m5)))
def M_cl_canPay_12 (X : Nat × (Nat → Int32)) (E : zTE) (ar fi : Nat → Nat → Int32) (m1 : Nat) (m2 : Nat) (m3 : Nat) (m4 : Nat) (m5 : Nat) (y : Int32) (z : Int32) (u : Int32) (o : zO2) (s : U_cl_canPay_12) : Prop := match s with
  | (l4, l5) => zR2 X zFT E zc_6 12 [.ref 1, .int y, .int z, .int u, .int l4, .int l5] [] (ar, fi, (m1, m2, m3, m4, m5)) o
set_option maxRecDepth 1000000 in
theorem t12_cl_canPay {X : Nat × (Nat → Int32)} {ar fi : Nat → Nat → Int32} {m1 m2 m3 m4 m5 : Nat} {y z u : Int32} {l4 : Int32} {l5 : Int32} : zseg X zFT zE0 zc_6 (fun p => Nat.beq p 12) 400 12 [.ref 1, .int y, .int z, .int u, .int l4, .int l5] [] (ar, fi, (m1, m2, m3, m4, m5)) = (
  bif decide (y ≤ l5) then
   bif decide (l4 < 0) then
    some (.inr (some (.int 0), (ar, fi, (m1, m2, m3, m4, m5))))
   else
    some (.inr (some (.int 1), (ar, fi, (m1, m2, m3, m4, m5))))
  else
   bif decide (l5 = u) then
    some (.inl (12, [.ref 1, .int y, .int z, .int u, .int l4, .int (l5 + 1)], [], (ar, fi, (m1, m2, m3, m4, m5))))
   else
    bif !decide (((Int32.toUInt32 z >>> (Int32.toUInt32 l5 &&& Int32.toUInt32 31)).toInt32) &&& 1 = 0) then
     some (.inl (12, [.ref 1, .int y, .int z, .int u, .int l4, .int (l5 + 1)], [], (ar, fi, (m1, m2, m3, m4, m5))))
    else
     zg (Nat.beq 16 16 && (zin ((y * l5) + u) 260)) (
     zg (Nat.beq 16 16 && (zin ((y * u) + l5) 260)) (
     some (.inl (12, [.ref 1, .int y, .int z, .int u, .int (l4 + (((ar 1) (((y * l5) + u).toNatClampNeg)) - ((ar 1) (((y * u) + l5).toNatClampNeg)))), .int (l5 + 1)], [], (ar, fi, (m1, m2, m3, m4, m5)))))) : Option ((Nat × List Value × List Value × zH2) ⊕ zO2)) := by with_unfolding_all rfl
set_option maxRecDepth 20000 in
theorem k_cl_canPay_12 {X : Nat × (Nat → Int32)} {ar fi : Nat → Nat → Int32} {m1 m2 m3 m4 m5 : Nat} {y z u : Int32} {o : zO2} : ∀ (s : U_cl_canPay_12) (q : U_cl_canPay_12 ⊕ T_cl_canPay), f_cl_canPay_12 y z u (ar 1) s = some q → zq (M_cl_canPay_12 X zE0 ar fi m1 m2 m3 m4 m5 y z u o) (fun t => O_cl_canPay ar fi m1 m2 m3 m4 m5 t = o) q → M_cl_canPay_12 X zE0 ar fi m1 m2 m3 m4 m5 y z u o s := by
  intro s q h hq
  obtain ⟨l4, l5⟩ := s
  have h : b_cl_canPay_12 y z u (ar 1) l4 l5 = some q := h
  unfold b_cl_canPay_12 at h
  show zR2 X zFT zE0 zc_6 12 [.ref 1, .int y, .int z, .int u, .int l4, .int l5] [] (ar, fi, (m1, m2, m3, m4, m5)) o
  refine zT_seg t12_cl_canPay ?_
  obtain ⟨TT, hTT⟩ : ∃ T, T = zT X zFT zE0 zc_6 o := ⟨_, rfl⟩
  rw [← hTT]
  refine zb_el h (fun hb h => zU_t hTT hb ?_) (fun hb h => zU_f hTT hb ?_)
  · refine zb_el h (fun hb h => zU_t hTT hb ?_) (fun hb h => zU_f hTT hb ?_)
    · rw [hTT]
      have hz := zsi h hq
      refine (zO_mk ?_ ?_).trans hz
      · first | with_reducible rfl | rfl
      · first | with_reducible rfl | rfl
    · rw [hTT]
      have hz := zsi h hq
      refine (zO_mk ?_ ?_).trans hz
      · first | with_reducible rfl | rfl
      · first | with_reducible rfl | rfl
  · refine zb_el h (fun hb h => zU_t hTT hb ?_) (fun hb h => zU_f hTT hb ?_)
    · rw [hTT]
      have hz := zsi h hq
      refine zR2_hp ?_ ?_ hz
      · first | with_reducible rfl | rfl
      · first | with_reducible rfl | rfl
    · refine zb_el h (fun hb h => zU_t hTT hb ?_) (fun hb h => zU_f hTT hb ?_)
      · rw [hTT]
        have hz := zsi h hq
        refine zR2_hp ?_ ?_ hz
        · first | with_reducible rfl | rfl
        · first | with_reducible rfl | rfl
      · refine zg_el h (fun hg h => zU_ga hTT hg ?_)
        refine zg_el h (fun hg h => zU_ga hTT hg ?_)
        rw [hTT]
        have hz := zsi h hq
        refine zR2_hp ?_ ?_ hz
        · first | with_reducible rfl | rfl
        · first | with_reducible rfl | rfl
set_option maxRecDepth 1000000 in
theorem t_cl_canPay {X : Nat × (Nat → Int32)} {ar fi : Nat → Nat → Int32} {m1 m2 m3 m4 m5 : Nat} {y z u : Int32} : zseg X zFT zE0 zc_6 (fun p => Nat.beq p 12) 400 0 [.ref 1, .int y, .int z, .int u] [] (ar, fi, (m1, m2, m3, m4, m5)) = (
  zg (Nat.beq 16 16 && (zin ((y * u) + u) 260)) (
  some (.inl (12, [.ref 1, .int y, .int z, .int u, .int ((ar 1) (((y * u) + u).toNatClampNeg)), .int 0], [], (ar, fi, (m1, m2, m3, m4, m5))))) : Option ((Nat × List Value × List Value × zH2) ⊕ zO2)) := by with_unfolding_all rfl
set_option maxRecDepth 20000 in
theorem e_cl_canPay {X : Nat × (Nat → Int32)} {ar fi : Nat → Nat → Int32} {m1 m2 m3 m4 m5 : Nat} {y z u : Int32} {o : zO2} : ∀ (q : T_cl_canPay), q_cl_canPay y z u (ar 1) = some q → (fun t => O_cl_canPay ar fi m1 m2 m3 m4 m5 t = o) q → zR2 X zFT zE0 zc_6 0 [.ref 1, .int y, .int z, .int u] [] (ar, fi, (m1, m2, m3, m4, m5)) o := by
  intro q h hq
  unfold q_cl_canPay at h
  refine zT_seg t_cl_canPay ?_
  obtain ⟨TT, hTT⟩ : ∃ T, T = zT X zFT zE0 zc_6 o := ⟨_, rfl⟩
  rw [← hTT]
  refine zg_el h (fun hg h => zU_ga hTT hg ?_)
  rw [hTT]
  refine zR2_hp ?_ ?_ (zlp_K k_cl_canPay_12 h hq)
  · first | with_reducible rfl | rfl
  · first | with_reducible rfl | rfl
theorem ok_cl_canPay (X : Nat × (Nat → Int32)) : zOkS X 6 S_cl_canPay 1 := zOkS_new (zOkE_nil X 0) (by
  intro args g o h
  obtain ⟨ar, fi, m1, m2, m3, m4, m5⟩ := g
  unfold S_cl_canPay P_cl_canPay at h
  split at h
  · refine zb_el h (fun hI0 k0 => ?_) (fun _ h10 => ?_)
    · try simp only [Bool.and_eq_true] at hI0
      have j0 := hI0
      have e0 := Nat.eq_of_beq_eq_true j0
      subst e0
      exact zpe_el k0 (fun t ht ho => e_cl_canPay t ht ho)
    · cases h10
  · cases h)
