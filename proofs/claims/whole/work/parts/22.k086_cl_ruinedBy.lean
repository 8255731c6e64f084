abbrev T_cl_ruinedBy : Type := Int32
abbrev U_cl_ruinedBy_19 : Type := Int32 × Int32
abbrev U_cl_ruinedBy_7 : Type := Int32 × Int32
noncomputable def b_cl_ruinedBy_19 (y : Int32) (a1 : Nat → Int32) (l3 : Int32) (l4 : Int32) (l5 : Int32) (l6 : Int32) : Option (U_cl_ruinedBy_19 ⊕ (U_cl_ruinedBy_7 ⊕ T_cl_ruinedBy)) :=
  bif decide (y ≤ l6) then
   some (.inr (.inl (l5, l4 + 1)))
  else
   bif !decide (((Int32.toUInt32 l3 >>> (Int32.toUInt32 l6 &&& Int32.toUInt32 31)).toInt32) &&& 1 = 0) then
    some (.inl (l5, l6 + 1))
   else
    zbd (q_cl_canPay y l3 l6 a1) (fun v1 =>
    bif !decide (v1 = 0) then
     some (.inl (l5, l6 + 1))
    else
     some (.inl (l5 ||| (1 <<< (l6 &&& 31)), l6 + 1)))
noncomputable def f_cl_ruinedBy_19 (y : Int32) (a1 : Nat → Int32) (l3 : Int32) (l4 : Int32) : U_cl_ruinedBy_19 → Option (U_cl_ruinedBy_19 ⊕ (U_cl_ruinedBy_7 ⊕ T_cl_ruinedBy)) := fun s => b_cl_ruinedBy_19 y a1 l3 l4 s.1 s.2
noncomputable def l_cl_ruinedBy_19 (y : Int32) (a1 : Nat → Int32) (l3 : Int32) (l4 : Int32) (l5 : Int32) (l6 : Int32) : Option (U_cl_ruinedBy_7 ⊕ T_cl_ruinedBy) := zlp (f_cl_ruinedBy_19 y a1 l3 l4) (l5, l6)
noncomputable def b_cl_ruinedBy_7 (y : Int32) (a1 : Nat → Int32) (l3 : Int32) (l4 : Int32) : Option (U_cl_ruinedBy_7 ⊕ T_cl_ruinedBy) :=
  bif decide (y ≤ l4) then
   some (.inr l3)
  else
   l_cl_ruinedBy_19 y a1 l3 l4 l3 0
noncomputable def f_cl_ruinedBy_7 (y : Int32) (a1 : Nat → Int32) : U_cl_ruinedBy_7 → Option (U_cl_ruinedBy_7 ⊕ T_cl_ruinedBy) := fun s => b_cl_ruinedBy_7 y a1 s.1 s.2
noncomputable def l_cl_ruinedBy_7 (y : Int32) (a1 : Nat → Int32) (l3 : Int32) (l4 : Int32) : Option T_cl_ruinedBy := zlp (f_cl_ruinedBy_7 y a1) (l3, l4)
noncomputable def q_cl_ruinedBy (y : Int32) (z : Int32) (a1 : Nat → Int32) : Option T_cl_ruinedBy :=
  l_cl_ruinedBy_7 y a1 (1 <<< (z &&& 31)) 0
def P_cl_ruinedBy (Q : Int32 → Int32 → (Nat → Int32) → Option (Int32)) : zSp := fun as g => match as with
  | [.ref a, .int y, .int z] => bif Nat.beq a 1 then zpe (Q y z (g.1 1)) (fun t => (some (.int t), (g.1, g.2.1, g.2.2))) else none
  | _ => none
noncomputable abbrev S_cl_ruinedBy : zSp := P_cl_ruinedBy q_cl_ruinedBy
def O_cl_ruinedBy (ar fi : Nat → Nat → Int32) (m1 : Nat) (m2 : Nat) (m3 : Nat) (m4 : Nat) (m5 : Nat) (t : T_cl_ruinedBy) : zO2 := (some (.int t), (ar, fi, (m1, m2, m3, m4, m5)))
def M_cl_ruinedBy_19 (X : Nat × (Nat → Int32)) (E : zTE) (ar fi : Nat → Nat → Int32) (m1 : Nat) (m2 : Nat) (m3 : Nat) (m4 : Nat) (m5 : Nat) (y : Int32) (z : Int32) (l3 : Int32) (l4 : Int32) (o : zO2) (s : U_cl_ruinedBy_19) : Prop := match s with
  | (l5, l6) => zR2 X zFT E zc_5 19 [.ref 1, .int y, .int z, .int l3, .int l4, .int l5, .int l6] [] (ar, fi, (m1, m2, m3, m4, m5)) o
def M_cl_ruinedBy_7 (X : Nat × (Nat → Int32)) (E : zTE) (ar fi : Nat → Nat → Int32) (m1 : Nat) (m2 : Nat) (m3 : Nat) (m4 : Nat) (m5 : Nat) (y : Int32) (z : Int32) (o : zO2) (s : U_cl_ruinedBy_7) : Prop := match s with
  | (l3, l4) => zR2 X zFT E zc_5 7 [.ref 1, .int y, .int z, .int l3, .int l4] [] (ar, fi, (m1, m2, m3, m4, m5)) o
set_option maxRecDepth 1000000 in
theorem t19_cl_ruinedBy {X : Nat × (Nat → Int32)} {ar fi : Nat → Nat → Int32} {m1 m2 m3 m4 m5 : Nat} {y z : Int32} {l3 : Int32} {l4 : Int32} {l5 : Int32} {l6 : Int32} {Q_cl_canPay : Int32 → Int32 → Int32 → (Nat → Int32) → Option (Int32)} : zseg X zFT (zEx 6 (P_cl_canPay Q_cl_canPay) zE0) zc_5 (fun p => Nat.beq p 19 || Nat.beq p 7) 400 19 [.ref 1, .int y, .int z, .int l3, .int l4, .int l5, .int l6] [] (ar, fi, (m1, m2, m3, m4, m5)) = (
  bif decide (y ≤ l6) then
   some (.inl (7, [.ref 1, .int y, .int z, .int l5, .int (l4 + 1)], [], (ar, fi, (m1, m2, m3, m4, m5))))
  else
   bif !decide (((Int32.toUInt32 l3 >>> (Int32.toUInt32 l6 &&& Int32.toUInt32 31)).toInt32) &&& 1 = 0) then
    some (.inl (19, [.ref 1, .int y, .int z, .int l3, .int l4, .int l5, .int (l6 + 1)], [], (ar, fi, (m1, m2, m3, m4, m5))))
   else
    zl (Q_cl_canPay y l3 l6 (ar 1)) (fun v1 => zg v1.isSome (
    bif !decide (((zgt v1)) = 0) then
     some (.inl (19, [.ref 1, .int y, .int z, .int l3, .int l4, .int l5, .int (l6 + 1)], [], (ar, fi, (m1, m2, m3, m4, m5))))
    else
     some (.inl (19, [.ref 1, .int y, .int z, .int l3, .int l4, .int (l5 ||| (1 <<< (l6 &&& 31))), .int (l6 + 1)], [], (ar, fi, (m1, m2, m3, m4, m5)))))) : Option ((Nat × List Value × List Value × zH2) ⊕ zO2)) := by with_unfolding_all rfl
set_option maxRecDepth 20000 in
theorem k_cl_ruinedBy_19 {X : Nat × (Nat → Int32)} {ar fi : Nat → Nat → Int32} {m1 m2 m3 m4 m5 : Nat} {y z : Int32} {l3 : Int32} {l4 : Int32} {o : zO2} : ∀ (s : U_cl_ruinedBy_19) (q : U_cl_ruinedBy_19 ⊕ (U_cl_ruinedBy_7 ⊕ T_cl_ruinedBy)), f_cl_ruinedBy_19 y (ar 1) l3 l4 s = some q → zq (M_cl_ruinedBy_19 X (zEx 6 S_cl_canPay zE0) ar fi m1 m2 m3 m4 m5 y z l3 l4 o) (zq (M_cl_ruinedBy_7 X (zEx 6 S_cl_canPay zE0) ar fi m1 m2 m3 m4 m5 y z o) (fun t => O_cl_ruinedBy ar fi m1 m2 m3 m4 m5 t = o)) q → M_cl_ruinedBy_19 X (zEx 6 S_cl_canPay zE0) ar fi m1 m2 m3 m4 m5 y z l3 l4 o s := by
  intro s q h hq
  obtain ⟨l5, l6⟩ := s
  have h : b_cl_ruinedBy_19 y (ar 1) l3 l4 l5 l6 = some q := h
  unfold b_cl_ruinedBy_19 at h
  show zR2 X zFT (zEx 6 S_cl_canPay zE0) zc_5 19 [.ref 1, .int y, .int z, .int l3, .int l4, .int l5, .int l6] [] (ar, fi, (m1, m2, m3, m4, m5)) o
  refine zT_seg t19_cl_ruinedBy ?_
  obtain ⟨TT, hTT⟩ : ∃ T, T = zT X zFT (zEx 6 S_cl_canPay zE0) zc_5 o := ⟨_, rfl⟩
  rw [← hTT]
  refine zb_el h (fun hb h => zU_t hTT hb ?_) (fun hb h => zU_f hTT hb ?_)
  · rw [hTT]
    have hz := zsi h hq
    refine zR2_hp ?_ ?_ hz
    · first | with_reducible rfl | rfl
    · first | with_reducible rfl | rfl
  · refine zb_el h (fun hb h => zU_t hTT hb ?_) (fun hb h => zU_f hTT hb ?_)
    · rw [hTT]
      have hz := zsi h hq
      refine zR2_hp ?_ ?_ hz
      · first | with_reducible rfl | rfl
      · first | with_reducible rfl | rfl
    · refine zbd_el h (fun v1 hv h => zU_c hTT hv ?_)
      refine zb_el h (fun hb h => zU_t hTT hb ?_) (fun hb h => zU_f hTT hb ?_)
      · rw [hTT]
        have hz := zsi h hq
        refine zR2_hp ?_ ?_ hz
        · first | with_reducible rfl | rfl
        · first | with_reducible rfl | rfl
      · rw [hTT]
        have hz := zsi h hq
        refine zR2_hp ?_ ?_ hz
        · first | with_reducible rfl | rfl
        · first | with_reducible rfl | rfl
set_option maxRecDepth 1000000 in
theorem t7_cl_ruinedBy {X : Nat × (Nat → Int32)} {ar fi : Nat → Nat → Int32} {m1 m2 m3 m4 m5 : Nat} {y z : Int32} {l3 : Int32} {l4 : Int32} {Q_cl_canPay : Int32 → Int32 → Int32 → (Nat → Int32) → Option (Int32)} : zseg X zFT (zEx 6 (P_cl_canPay Q_cl_canPay) zE0) zc_5 (fun p => Nat.beq p 19 || Nat.beq p 7) 400 7 [.ref 1, .int y, .int z, .int l3, .int l4] [] (ar, fi, (m1, m2, m3, m4, m5)) = (
  bif decide (y ≤ l4) then
   some (.inr (some (.int l3), (ar, fi, (m1, m2, m3, m4, m5))))
  else
   some (.inl (19, [.ref 1, .int y, .int z, .int l3, .int l4, .int l3, .int 0], [], (ar, fi, (m1, m2, m3, m4, m5)))) : Option ((Nat × List Value × List Value × zH2) ⊕ zO2)) := by with_unfolding_all rfl
set_option maxRecDepth 20000 in
theorem k_cl_ruinedBy_7 {X : Nat × (Nat → Int32)} {ar fi : Nat → Nat → Int32} {m1 m2 m3 m4 m5 : Nat} {y z : Int32} {o : zO2} : ∀ (s : U_cl_ruinedBy_7) (q : U_cl_ruinedBy_7 ⊕ T_cl_ruinedBy), f_cl_ruinedBy_7 y (ar 1) s = some q → zq (M_cl_ruinedBy_7 X (zEx 6 S_cl_canPay zE0) ar fi m1 m2 m3 m4 m5 y z o) (fun t => O_cl_ruinedBy ar fi m1 m2 m3 m4 m5 t = o) q → M_cl_ruinedBy_7 X (zEx 6 S_cl_canPay zE0) ar fi m1 m2 m3 m4 m5 y z o s := by
  intro s q h hq
  obtain ⟨l3, l4⟩ := s
  have h : b_cl_ruinedBy_7 y (ar 1) l3 l4 = some q := h
  unfold b_cl_ruinedBy_7 at h
  show zR2 X zFT (zEx 6 S_cl_canPay zE0) zc_5 7 [.ref 1, .int y, .int z, .int l3, .int l4] [] (ar, fi, (m1, m2, m3, m4, m5)) o
  refine zT_seg t7_cl_ruinedBy ?_
  obtain ⟨TT, hTT⟩ : ∃ T, T = zT X zFT (zEx 6 S_cl_canPay zE0) zc_5 o := ⟨_, rfl⟩
  rw [← hTT]
  refine zb_el h (fun hb h => zU_t hTT hb ?_) (fun hb h => zU_f hTT hb ?_)
  · rw [hTT]
    have hz := zsi h hq
    refine (zO_mk ?_ ?_).trans hz
    · first | with_reducible rfl | rfl
    · first | with_reducible rfl | rfl
  · rw [hTT]
    refine zR2_hp ?_ ?_ (zlp_K k_cl_ruinedBy_19 h hq)
    · first | with_reducible rfl | rfl
    · first | with_reducible rfl | rfl
set_option maxRecDepth 1000000 in
theorem t_cl_ruinedBy {X : Nat × (Nat → Int32)} {ar fi : Nat → Nat → Int32} {m1 m2 m3 m4 m5 : Nat} {y z : Int32} {Q_cl_canPay : Int32 → Int32 → Int32 → (Nat → Int32) → Option (Int32)} : zseg X zFT (zEx 6 (P_cl_canPay Q_cl_canPay) zE0) zc_5 (fun p => Nat.beq p 19 || Nat.beq p 7) 400 0 [.ref 1, .int y, .int z] [] (ar, fi, (m1, m2, m3, m4, m5)) = (
  some (.inl (7, [.ref 1, .int y, .int z, .int (1 <<< (z &&& 31)), .int 0], [], (ar, fi, (m1, m2, m3, m4, m5)))) : Option ((Nat × List Value × List Value × zH2) ⊕ zO2)) := by with_unfolding_all rfl
set_option maxRecDepth 20000 in
theorem e_cl_ruinedBy {X : Nat × (Nat → Int32)} {ar fi : Nat → Nat → Int32} {m1 m2 m3 m4 m5 : Nat} {y z : Int32} {o : zO2} : ∀ (q : T_cl_ruinedBy), q_cl_ruinedBy y z (ar 1) = some q → (fun t => O_cl_ruinedBy ar fi m1 m2 m3 m4 m5 t = o) q → zR2 X zFT (zEx 6 S_cl_canPay zE0) zc_5 0 [.ref 1, .int y, .int z] [] (ar, fi, (m1, m2, m3, m4, m5)) o := by
  intro q h hq
  unfold q_cl_ruinedBy at h
  refine zT_seg t_cl_ruinedBy ?_
  obtain ⟨TT, hTT⟩ : ∃ T, T = zT X zFT (zEx 6 S_cl_canPay zE0) zc_5 o := ⟨_, rfl⟩
  rw [← hTT]
  rw [hTT]
  refine zR2_hp ?_ ?_ (zlp_K k_cl_ruinedBy_7 h hq)
  · first | with_reducible rfl | rfl
  · first | with_reducible rfl | rfl
theorem ok_cl_ruinedBy (X : Nat × (Nat → Int32)) : zOkS X 5 S_cl_ruinedBy 2 := zOkS_new (zOkE_cons (ok_cl_canPay X) (by decide) (zOkE_nil X 1)) (by
  intro args g o h
  obtain ⟨ar, fi, m1, m2, m3, m4, m5⟩ := g
  unfold S_cl_ruinedBy P_cl_ruinedBy at h
  split at h
  · refine zb_el h (fun hI0 k0 => ?_) (fun _ h10 => ?_)
    · try simp only [Bool.and_eq_true] at hI0
      have j0 := hI0
      have e0 := Nat.eq_of_beq_eq_true j0
      subst e0
      exact zpe_el k0 (fun t ht ho => e_cl_ruinedBy t ht ho)
    · cases h10
  · cases h)
