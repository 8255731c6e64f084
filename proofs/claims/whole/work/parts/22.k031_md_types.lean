abbrev T_md_types : Type := (Nat → Int32) × Int32
abbrev U_md_types_2 : Type := Int32 × (Nat → Int32) × Int32
def b_md_types_2 (x : Int32) (l2 : Int32) (b70 : Nat → Int32) (c64_6 : Int32) : Option (U_md_types_2 ⊕ T_md_types) :=
  bif decide (l2 < 0) then
   some (.inr (b70, c64_6))
  else
   zg (zin c64_6 260) (
   some (.inl (l2 + (-1), (zup b70 (c64_6.toNatClampNeg) (Int32.toInt8 ((Int32.toInt8 (x >>> ((8 * l2) &&& 31))).toInt32)).toInt32), c64_6 + 1)))
def f_md_types_2 (x : Int32) : U_md_types_2 → Option (U_md_types_2 ⊕ T_md_types) := fun s => b_md_types_2 x s.1 s.2.1 s.2.2
noncomputable def l_md_types_2 (x : Int32) (l2 : Int32) (b70 : Nat → Int32) (c64_6 : Int32) : Option T_md_types := zlp (f_md_types_2 x) (l2, b70, c64_6)
noncomputable def q_md_types (x : Int32) (a70 : Nat → Int32) (f64_6 : Int32) : Option T_md_types :=
  l_md_types_2 x 3 a70 (f64_6)
def P_md_types (Q : Int32 → (Nat → Int32) → Int32 → Option ((Nat → Int32) × Int32)) : zSp := fun as g => match as with
  | [.ref a, .int x] => bif Nat.beq a 64 then zpe (Q x (g.1 70) (g.2.1 64 6)) (fun t => (none, ((zua g.1 70 t.1), (zuf g.2.1 64 6 t.2), g.2.2))) else none
  | _ => none
noncomputable abbrev S_md_types : zSp := P_md_types q_md_types
theorem hF5_md_types (F : Nat → Nat → Int32) : F = (zuf F 64 6 (F 64 6)) := zufk_ix F [] [((64, 6), none)] rfl
theorem hA4_md_types (F : Nat → Nat → Int32) : F = (zua F 70 (F 70)) := zuak_ix F [] [(70, none)] rfl
theorem hF3_md_types (F : Nat → Nat → Int32) (w0 w1 : Int32) : (zuf (zuf F 64 6 w0) 64 6 w1) = (zuf F 64 6 w1) := zufk_ix F [((64, 6), w0), ((64, 6), w1)] [((64, 6), some 1)] rfl
theorem hA2_md_types (F : Nat → Nat → Int32) (w0 w1 : Nat → Int32) : (zua (zua F 70 w0) 70 w1) = (zua F 70 w1) := zuak_ix F [(70, w0), (70, w1)] [(70, some 1)] rfl
theorem hF1_md_types (F : Nat → Nat → Int32) (w0 : Int32) : (zuf F 64 6 w0) = (zuf F 64 6 w0) := zufk_ix F [((64, 6), w0)] [((64, 6), some 0)] rfl
theorem hA0_md_types (F : Nat → Nat → Int32) (w0 : Nat → Int32) : (zua F 70 w0) = (zua F 70 w0) := zuak_ix F [(70, w0)] [(70, some 0)] rfl
def O_md_types (ar fi : Nat → Nat → Int32) (m1 : Nat) (m2 : Nat) (m3 : Nat) (m4 : Nat) (m5 : Nat) (t : T_md_types) : zO2 := match t with
  | (t0, t1) => (none, ((zua ar 70 t0), (zuf fi 64 6 t1), (m1, m2, m3, m4, m5)))
def M_md_types_2 (X : Nat × (Nat → Int32)) (E : zTE) (ar fi : Nat → Nat → Int32) (m1 : Nat) (m2 : Nat) (m3 : Nat) (m4 : Nat) (m5 : Nat) (x : Int32) (o : zO2) (s : U_md_types_2) : Prop := match s with
  | (l2, b70, c64_6) => zR2 X zFT E zc_155 2 [.ref 64, .int x, .int l2] [] ((zua ar 70 b70), (zuf fi 64 6 c64_6), (m1, m2, m3, m4, m5)) o
set_option maxRecDepth 1000000 in
theorem t2_md_types {X : Nat × (Nat → Int32)} {ar fi : Nat → Nat → Int32} {m1 m2 m3 m4 m5 : Nat} {x : Int32} {l2 : Int32} {b70 : Nat → Int32} {c64_6 : Int32} : zseg X zFT zE0 zc_155 (fun p => Nat.beq p 2) 400 2 [.ref 64, .int x, .int l2] [] ((zua ar 70 b70), (zuf fi 64 6 c64_6), (m1, m2, m3, m4, m5)) = (
  bif decide (l2 < 0) then
   some (.inr (none, ((zua ar 70 b70), (zuf fi 64 6 c64_6), (m1, m2, m3, m4, m5))))
  else
   zg ((Nat.beq 17 17 || Nat.beq 17 18) && (zin c64_6 260)) (
   some (.inl (2, [.ref 64, .int x, .int (l2 + (-1))], [], ((zua (zua ar 70 b70) 70 (zup b70 (c64_6.toNatClampNeg) (Int32.toInt8 ((Int32.toInt8 (x >>> ((8 * l2) &&& 31))).toInt32)).toInt32)), (zuf (zuf fi 64 6 c64_6) 64 6 (c64_6 + 1)), (m1, m2, m3, m4, m5))))) : Option ((Nat × List Value × List Value × zH2) ⊕ zO2)) := by with_unfolding_all rfl
set_option maxRecDepth 20000 in
theorem k_md_types_2 {X : Nat × (Nat → Int32)} {ar fi : Nat → Nat → Int32} {m1 m2 m3 m4 m5 : Nat} {x : Int32} {o : zO2} : ∀ (s : U_md_types_2) (q : U_md_types_2 ⊕ T_md_types), f_md_types_2 x s = some q → zq (M_md_types_2 X zE0 ar fi m1 m2 m3 m4 m5 x o) (fun t => O_md_types ar fi m1 m2 m3 m4 m5 t = o) q → M_md_types_2 X zE0 ar fi m1 m2 m3 m4 m5 x o s := by
  intro s q h hq
  obtain ⟨l2, b70, c64_6⟩ := s
  have h : b_md_types_2 x l2 b70 c64_6 = some q := h
  unfold b_md_types_2 at h
  show zR2 X zFT zE0 zc_155 2 [.ref 64, .int x, .int l2] [] ((zua ar 70 b70), (zuf fi 64 6 c64_6), (m1, m2, m3, m4, m5)) o
  refine zT_seg t2_md_types ?_
  obtain ⟨TT, hTT⟩ : ∃ T, T = zT X zFT zE0 zc_155 o := ⟨_, rfl⟩
  rw [← hTT]
  refine zb_el h (fun hb h => zU_t hTT hb ?_) (fun hb h => zU_f hTT hb ?_)
  · rw [hTT]
    have hz := zsi h hq
    refine (zO_mk ?_ ?_).trans hz
    · first | with_reducible rfl | exact hA0_md_types _ _
    · first | with_reducible rfl | exact hF1_md_types _ _
  · refine zg_el h (fun hg h => zU_gb hTT hg ?_)
    rw [hTT]
    have hz := zsi h hq
    refine zR2_hp ?_ ?_ hz
    · first | with_reducible rfl | exact hA2_md_types _ _ _
    · first | with_reducible rfl | exact hF3_md_types _ _ _
set_option maxRecDepth 1000000 in
theorem t_md_types {X : Nat × (Nat → Int32)} {ar fi : Nat → Nat → Int32} {m1 m2 m3 m4 m5 : Nat} {x : Int32} : zseg X zFT zE0 zc_155 (fun p => Nat.beq p 2) 400 0 [.ref 64, .int x] [] (ar, fi, (m1, m2, m3, m4, m5)) = (
  some (.inl (2, [.ref 64, .int x, .int 3], [], (ar, fi, (m1, m2, m3, m4, m5)))) : Option ((Nat × List Value × List Value × zH2) ⊕ zO2)) := by with_unfolding_all rfl
set_option maxRecDepth 20000 in
theorem e_md_types {X : Nat × (Nat → Int32)} {ar fi : Nat → Nat → Int32} {m1 m2 m3 m4 m5 : Nat} {x : Int32} {o : zO2} : ∀ (q : T_md_types), q_md_types x (ar 70) (fi 64 6) = some q → (fun t => O_md_types ar fi m1 m2 m3 m4 m5 t = o) q → zR2 X zFT zE0 zc_155 0 [.ref 64, .int x] [] (ar, fi, (m1, m2, m3, m4, m5)) o := by
  intro q h hq
  unfold q_md_types at h
  refine zT_seg t_md_types ?_
  obtain ⟨TT, hTT⟩ : ∃ T, T = zT X zFT zE0 zc_155 o := ⟨_, rfl⟩
  rw [← hTT]
  rw [hTT]
  refine zR2_hp ?_ ?_ (zlp_K k_md_types_2 h hq)
  · first | with_reducible rfl | exact hA4_md_types _
  · first | with_reducible rfl | exact hF5_md_types _
theorem ok_md_types (X : Nat × (Nat → Int32)) : zOkS X 155 S_md_types 1 := zOkS_new (zOkE_nil X 0) (by
  intro args g o h
  obtain ⟨ar, fi, m1, m2, m3, m4, m5⟩ := g
  unfold S_md_types P_md_types at h
  split at h
  · refine zb_el h (fun hI0 k0 => ?_) (fun _ h10 => ?_)
    · try simp only [Bool.and_eq_true] at hI0
      have j0 := hI0
      have e0 := Nat.eq_of_beq_eq_true j0
      subst e0
      exact zpe_el k0 (fun t ht ho => by obtain ⟨t0, t1⟩ := t; exact e_md_types _ ht ho)
    · cases h10
  · cases h)
