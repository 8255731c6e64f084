abbrev T_if_putBytes : Type := (Nat → Int32) × Int32
abbrev U_if_putBytes_3 : Type := Int32 × (Nat → Int32) × Int32
def b_if_putBytes_3 (x : Int32) (l2 : Int32) (b1 : Nat → Int32) (c0_1 : Int32) : Option (U_if_putBytes_3 ⊕ T_if_putBytes) :=
  bif decide (l2 < 0) then
   some (.inr (b1, c0_1))
  else
   bif decide (260 ≤ c0_1) then
    some (.inr (b1, c0_1))
   else
    zg (zin c0_1 260) (
    some (.inl (l2 + (-8), (zup b1 (c0_1.toNatClampNeg) (((Int32.toUInt32 x >>> (Int32.toUInt32 l2 &&& Int32.toUInt32 31)).toInt32) &&& 255)), c0_1 + 1)))
def f_if_putBytes_3 (x : Int32) : U_if_putBytes_3 → Option (U_if_putBytes_3 ⊕ T_if_putBytes) := fun s => b_if_putBytes_3 x s.1 s.2.1 s.2.2
noncomputable def l_if_putBytes_3 (x : Int32) (l2 : Int32) (b1 : Nat → Int32) (c0_1 : Int32) : Option T_if_putBytes := zlp (f_if_putBytes_3 x) (l2, b1, c0_1)
noncomputable def q_if_putBytes (x : Int32) (a1 : Nat → Int32) (f0_1 : Int32) : Option T_if_putBytes :=
  l_if_putBytes_3 x 24 a1 (f0_1)
def P_if_putBytes (Q : Int32 → (Nat → Int32) → Int32 → Option ((Nat → Int32) × Int32)) : zSp := fun as g => match as with
  | [.ref a, .int x] => bif Nat.beq a 0 then zpe (Q x (g.1 1) (g.2.1 0 1)) (fun t => (none, ((zua g.1 1 t.1), (zuf g.2.1 0 1 t.2), g.2.2))) else none
  | _ => none
noncomputable abbrev S_if_putBytes : zSp := P_if_putBytes q_if_putBytes
theorem hF5_if_putBytes (F : Nat → Nat → Int32) : F = (zuf F 0 1 (F 0 1)) := zufk_ix F [] [((0, 1), none)] rfl
theorem hA4_if_putBytes (F : Nat → Nat → Int32) : F = (zua F 1 (F 1)) := zuak_ix F [] [(1, none)] rfl
theorem hF3_if_putBytes (F : Nat → Nat → Int32) (w0 w1 : Int32) : (zuf (zuf F 0 1 w0) 0 1 w1) = (zuf F 0 1 w1) := zufk_ix F [((0, 1), w0), ((0, 1), w1)] [((0, 1), some 1)] rfl
theorem hA2_if_putBytes (F : Nat → Nat → Int32) (w0 w1 : Nat → Int32) : (zua (zua F 1 w0) 1 w1) = (zua F 1 w1) := zuak_ix F [(1, w0), (1, w1)] [(1, some 1)] rfl
theorem hF1_if_putBytes (F : Nat → Nat → Int32) (w0 : Int32) : (zuf F 0 1 w0) = (zuf F 0 1 w0) := zufk_ix F [((0, 1), w0)] [((0, 1), some 0)] rfl
theorem hA0_if_putBytes (F : Nat → Nat → Int32) (w0 : Nat → Int32) : (zua F 1 w0) = (zua F 1 w0) := zuak_ix F [(1, w0)] [(1, some 0)] rfl
def O_if_putBytes (ar fi : Nat → Nat → Int32) (m1 : Nat) (m2 : Nat) (m3 : Nat) (m4 : Nat) (m5 : Nat) (t : T_if_putBytes) : zO2 := match t with
  | (t0, t1) => (none, ((zua ar 1 t0), (zuf fi 0 1 t1), (m1, m2, m3, m4, m5)))
def M_if_putBytes_3 (X : Nat × (Nat → Int32)) (E : zTE) (ar fi : Nat → Nat → Int32) (m1 : Nat) (m2 : Nat) (m3 : Nat) (m4 : Nat) (m5 : Nat) (x : Int32) (o : zO2) (s : U_if_putBytes_3) : Prop := match s with
  | (l2, b1, c0_1) => zR2 X zFT E zc_135 3 [.ref 0, .int x, .int l2] [] ((zua ar 1 b1), (zuf fi 0 1 c0_1), (m1, m2, m3, m4, m5)) o
set_option maxRecDepth 1000000 in
theorem t3_if_putBytes {X : Nat × (Nat → Int32)} {ar fi : Nat → Nat → Int32} {m1 m2 m3 m4 m5 : Nat} {x : Int32} {l2 : Int32} {b1 : Nat → Int32} {c0_1 : Int32} : zseg X zFT zE0 zc_135 (fun p => Nat.beq p 3) 400 3 [.ref 0, .int x, .int l2] [] ((zua ar 1 b1), (zuf fi 0 1 c0_1), (m1, m2, m3, m4, m5)) = (
  bif decide (l2 < 0) then
   some (.inr (none, ((zua ar 1 b1), (zuf fi 0 1 c0_1), (m1, m2, m3, m4, m5))))
  else
   bif decide (260 ≤ c0_1) then
    some (.inr (none, ((zua ar 1 b1), (zuf fi 0 1 c0_1), (m1, m2, m3, m4, m5))))
   else
    zg (Nat.beq 16 16 && (zin c0_1 260)) (
    some (.inl (3, [.ref 0, .int x, .int (l2 + (-8))], [], ((zua (zua ar 1 b1) 1 (zup b1 (c0_1.toNatClampNeg) (((Int32.toUInt32 x >>> (Int32.toUInt32 l2 &&& Int32.toUInt32 31)).toInt32) &&& 255))), (zuf (zuf fi 0 1 c0_1) 0 1 (c0_1 + 1)), (m1, m2, m3, m4, m5))))) : Option ((Nat × List Value × List Value × zH2) ⊕ zO2)) := by with_unfolding_all rfl
set_option maxRecDepth 20000 in
theorem k_if_putBytes_3 {X : Nat × (Nat → Int32)} {ar fi : Nat → Nat → Int32} {m1 m2 m3 m4 m5 : Nat} {x : Int32} {o : zO2} : ∀ (s : U_if_putBytes_3) (q : U_if_putBytes_3 ⊕ T_if_putBytes), f_if_putBytes_3 x s = some q → zq (M_if_putBytes_3 X zE0 ar fi m1 m2 m3 m4 m5 x o) (fun t => O_if_putBytes ar fi m1 m2 m3 m4 m5 t = o) q → M_if_putBytes_3 X zE0 ar fi m1 m2 m3 m4 m5 x o s := by
  intro s q h hq
  obtain ⟨l2, b1, c0_1⟩ := s
  have h : b_if_putBytes_3 x l2 b1 c0_1 = some q := h
  unfold b_if_putBytes_3 at h
  show zR2 X zFT zE0 zc_135 3 [.ref 0, .int x, .int l2] [] ((zua ar 1 b1), (zuf fi 0 1 c0_1), (m1, m2, m3, m4, m5)) o
  refine zT_seg t3_if_putBytes ?_
  obtain ⟨TT, hTT⟩ : ∃ T, T = zT X zFT zE0 zc_135 o := ⟨_, rfl⟩
  rw [← hTT]
  refine zb_el h (fun hb h => zU_t hTT hb ?_) (fun hb h => zU_f hTT hb ?_)
  · rw [hTT]
    have hz := zsi h hq
    refine (zO_mk ?_ ?_).trans hz
    · first | with_reducible rfl | exact hA0_if_putBytes _ _
    · first | with_reducible rfl | exact hF1_if_putBytes _ _
  · refine zb_el h (fun hb h => zU_t hTT hb ?_) (fun hb h => zU_f hTT hb ?_)
    · rw [hTT]
      have hz := zsi h hq
      refine (zO_mk ?_ ?_).trans hz
      · first | with_reducible rfl | exact hA0_if_putBytes _ _
      · first | with_reducible rfl | exact hF1_if_putBytes _ _
    · refine zg_el h (fun hg h => zU_ga hTT hg ?_)
      rw [hTT]
      have hz := zsi h hq
      refine zR2_hp ?_ ?_ hz
      · first | with_reducible rfl | exact hA2_if_putBytes _ _ _
      · first | with_reducible rfl | exact hF3_if_putBytes _ _ _
set_option maxRecDepth 1000000 in
theorem t_if_putBytes {X : Nat × (Nat → Int32)} {ar fi : Nat → Nat → Int32} {m1 m2 m3 m4 m5 : Nat} {x : Int32} : zseg X zFT zE0 zc_135 (fun p => Nat.beq p 3) 400 0 [.ref 0, .int x] [] (ar, fi, (m1, m2, m3, m4, m5)) = (
  some (.inl (3, [.ref 0, .int x, .int 24], [], (ar, fi, (m1, m2, m3, m4, m5)))) : Option ((Nat × List Value × List Value × zH2) ⊕ zO2)) := by with_unfolding_all rfl
set_option maxRecDepth 20000 in
theorem e_if_putBytes {X : Nat × (Nat → Int32)} {ar fi : Nat → Nat → Int32} {m1 m2 m3 m4 m5 : Nat} {x : Int32} {o : zO2} : ∀ (q : T_if_putBytes), q_if_putBytes x (ar 1) (fi 0 1) = some q → (fun t => O_if_putBytes ar fi m1 m2 m3 m4 m5 t = o) q → zR2 X zFT zE0 zc_135 0 [.ref 0, .int x] [] (ar, fi, (m1, m2, m3, m4, m5)) o := by
  intro q h hq
  unfold q_if_putBytes at h
  refine zT_seg t_if_putBytes ?_
  obtain ⟨TT, hTT⟩ : ∃ T, T = zT X zFT zE0 zc_135 o := ⟨_, rfl⟩
  rw [← hTT]
  rw [hTT]
  refine zR2_hp ?_ ?_ (zlp_K k_if_putBytes_3 h hq)
  · first | with_reducible rfl | exact hA4_if_putBytes _
  · first | with_reducible rfl | exact hF5_if_putBytes _
theorem ok_if_putBytes (X : Nat × (Nat → Int32)) : zOkS X 135 S_if_putBytes 1 := zOkS_new (zOkE_nil X 0) (by
  intro args g o h
  obtain ⟨ar, fi, m1, m2, m3, m4, m5⟩ := g
  unfold S_if_putBytes P_if_putBytes at h
  split at h
  · refine zb_el h (fun hI0 k0 => ?_) (fun _ h10 => ?_)
    · try simp only [Bool.and_eq_true] at hI0
      have j0 := hI0
      have e0 := Nat.eq_of_beq_eq_true j0
      subst e0
      exact zpe_el k0 (fun t ht ho => by obtain ⟨t0, t1⟩ := t; exact e_if_putBytes _ ht ho)
    · cases h10
  · cases h)
