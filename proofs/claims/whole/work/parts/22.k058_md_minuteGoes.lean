abbrev T_md_minuteGoes : Type := (Nat → Int32) × (Nat → Int32) × (Nat → Int32) × (Nat → Int32) × Int32
abbrev U_md_minuteGoes_39 : Type := Int32 × (Nat → Int32) × (Nat → Int32) × (Nat → Int32) × Int32
abbrev U_md_minuteGoes_2 : Type := Int32 × (Nat → Int32)
noncomputable def b_md_minuteGoes_39 (a68 : Nat → Int32) (a77 : Nat → Int32) (a78 : Nat → Int32) (a79 : Nat → Int32) (a80 : Nat → Int32) (a81 : Nat → Int32) (f64_15 : Int32) (b85 : Nat → Int32) (l1 : Int32) (b65 : Nat → Int32) (b82 : Nat → Int32) (b83 : Nat → Int32) (c64_34 : Int32) : Option (U_md_minuteGoes_39 ⊕ T_md_minuteGoes) :=
  bif decide (96 ≤ l1) then
   zg (zin 313 315) (
   zg (zin 313 315) (
   some (.inr ((zup b65 ((313 : Int32).toNatClampNeg) ((b65 ((313 : Int32).toNatClampNeg)) + 1)), b82, b83, b85, c64_34))))
  else
   zg (zin l1 96) (
   bif decide (b85 (l1.toNatClampNeg) = 0) then
    some (.inl (l1 + 1, b65, b82, b83, c64_34))
   else
    zbd (q_md_turnOf l1 b65 a68 a77 a78 a79 a80 a81 b82 b83 (f64_15) c64_34) (fun v1 =>
    some (.inl (l1 + 1, ((v1.1)), ((v1.2.1)), ((v1.2.2.1)), (v1.2.2.2)))))
noncomputable def f_md_minuteGoes_39 (a68 : Nat → Int32) (a77 : Nat → Int32) (a78 : Nat → Int32) (a79 : Nat → Int32) (a80 : Nat → Int32) (a81 : Nat → Int32) (f64_15 : Int32) (b85 : Nat → Int32) : U_md_minuteGoes_39 → Option (U_md_minuteGoes_39 ⊕ T_md_minuteGoes) := fun s => b_md_minuteGoes_39 a68 a77 a78 a79 a80 a81 f64_15 b85 s.1 s.2.1 s.2.2.1 s.2.2.2.1 s.2.2.2.2
noncomputable def l_md_minuteGoes_39 (a68 : Nat → Int32) (a77 : Nat → Int32) (a78 : Nat → Int32) (a79 : Nat → Int32) (a80 : Nat → Int32) (a81 : Nat → Int32) (f64_15 : Int32) (b85 : Nat → Int32) (l1 : Int32) (b65 : Nat → Int32) (b82 : Nat → Int32) (b83 : Nat → Int32) (c64_34 : Int32) : Option T_md_minuteGoes := zlp (f_md_minuteGoes_39 a68 a77 a78 a79 a80 a81 f64_15 b85) (l1, b65, b82, b83, c64_34)
noncomputable def b_md_minuteGoes_2 (a68 : Nat → Int32) (a77 : Nat → Int32) (a78 : Nat → Int32) (a79 : Nat → Int32) (a80 : Nat → Int32) (a81 : Nat → Int32) (f64_15 : Int32) (b65 : Nat → Int32) (b82 : Nat → Int32) (b83 : Nat → Int32) (c64_34 : Int32) (l1 : Int32) (b85 : Nat → Int32) : Option (U_md_minuteGoes_2 ⊕ T_md_minuteGoes) :=
  bif decide (96 ≤ l1) then
   zbd (l_md_minuteGoes_39 a68 a77 a78 a79 a80 a81 f64_15 b85 0 b65 b82 b83 c64_34) (fun k => some (.inr k))
  else
   zg (zin (0 + l1) 315) (
   bif !decide (b65 ((0 + l1).toNatClampNeg) = 1) then
    zg (zin l1 96) (
    some (.inl (l1 + 1, (zup b85 (l1.toNatClampNeg) (0 &&& 1)))))
   else
    zg (zin l1 96) (
    some (.inl (l1 + 1, (zup b85 (l1.toNatClampNeg) (1 &&& 1))))))
noncomputable def f_md_minuteGoes_2 (a68 : Nat → Int32) (a77 : Nat → Int32) (a78 : Nat → Int32) (a79 : Nat → Int32) (a80 : Nat → Int32) (a81 : Nat → Int32) (f64_15 : Int32) (b65 : Nat → Int32) (b82 : Nat → Int32) (b83 : Nat → Int32) (c64_34 : Int32) : U_md_minuteGoes_2 → Option (U_md_minuteGoes_2 ⊕ T_md_minuteGoes) := fun s => b_md_minuteGoes_2 a68 a77 a78 a79 a80 a81 f64_15 b65 b82 b83 c64_34 s.1 s.2
noncomputable def l_md_minuteGoes_2 (a68 : Nat → Int32) (a77 : Nat → Int32) (a78 : Nat → Int32) (a79 : Nat → Int32) (a80 : Nat → Int32) (a81 : Nat → Int32) (f64_15 : Int32) (b65 : Nat → Int32) (b82 : Nat → Int32) (b83 : Nat → Int32) (c64_34 : Int32) (l1 : Int32) (b85 : Nat → Int32) : Option T_md_minuteGoes := zlp (f_md_minuteGoes_2 a68 a77 a78 a79 a80 a81 f64_15 b65 b82 b83 c64_34) (l1, b85)
noncomputable def q_md_minuteGoes (a65 : Nat → Int32) (a68 : Nat → Int32) (a77 : Nat → Int32) (a78 : Nat → Int32) (a79 : Nat → Int32) (a80 : Nat → Int32) (a81 : Nat → Int32) (a82 : Nat → Int32) (a83 : Nat → Int32) (a85 : Nat → Int32) (f64_15 : Int32) (f64_34 : Int32) : Option T_md_minuteGoes :=
  l_md_minuteGoes_2 a68 a77 a78 a79 a80 a81 f64_15 a65 a82 a83 (f64_34) 0 a85
def P_md_minuteGoes (Q : (Nat → Int32) → (Nat → Int32) → (Nat → Int32) → (Nat → Int32) → (Nat → Int32) → (Nat → Int32) → (Nat → Int32) → (Nat → Int32) → (Nat → Int32) → (Nat → Int32) → Int32 → Int32 → Option ((Nat → Int32) × (Nat → Int32) × (Nat → Int32) × (Nat → Int32) × Int32)) : zSp := fun as g => match as with
  | [.ref a] => bif Nat.beq a 64 then zpe (Q (g.1 65) (g.1 68) (g.1 77) (g.1 78) (g.1 79) (g.1 80) (g.1 81) (g.1 82) (g.1 83) (g.1 85) (g.2.1 64 15) (g.2.1 64 34)) (fun t => (none, ((zua (zua (zua (zua g.1 65 t.1) 82 t.2.1) 83 t.2.2.1) 85 t.2.2.2.1), (zuf g.2.1 64 34 t.2.2.2.2), g.2.2))) else none
  | _ => none
noncomputable abbrev S_md_minuteGoes : zSp := P_md_minuteGoes q_md_minuteGoes
theorem hF7_md_minuteGoes (F : Nat → Nat → Int32) : F = (zuf F 64 34 (F 64 34)) := zufk_ix F [] [((64, 34), none)] rfl
theorem hA6_md_minuteGoes (F : Nat → Nat → Int32) : F = (zua (zua (zua (zua F 65 (F 65)) 82 (F 82)) 83 (F 83)) 85 (F 85)) := zuak_ix F [] [(65, none), (82, none), (83, none), (85, none)] rfl
theorem hA5_md_minuteGoes (F : Nat → Nat → Int32) (w0 w1 w2 w3 w4 : Nat → Int32) : (zua (zua (zua (zua (zua F 65 w0) 82 w1) 83 w2) 85 w3) 85 w4) = (zua (zua (zua (zua F 65 w0) 82 w1) 83 w2) 85 w4) := zuak_ix F [(65, w0), (82, w1), (83, w2), (85, w3), (85, w4)] [(65, some 0), (82, some 1), (83, some 2), (85, some 4)] rfl
theorem hF4_md_minuteGoes (F : Nat → Nat → Int32) (w0 w1 : Int32) : (zuf (zuf F 64 34 w0) 64 34 w1) = (zuf F 64 34 w1) := zufk_ix F [((64, 34), w0), ((64, 34), w1)] [((64, 34), some 1)] rfl
theorem hA3_md_minuteGoes (F : Nat → Nat → Int32) (w0 w1 w2 w3 w4 w5 w6 : Nat → Int32) : (zua (zua (zua (zua (zua (zua (zua F 65 w0) 82 w1) 83 w2) 85 w3) 65 w4) 82 w5) 83 w6) = (zua (zua (zua (zua F 65 w4) 82 w5) 83 w6) 85 w3) := zuak_ix F [(65, w0), (82, w1), (83, w2), (85, w3), (65, w4), (82, w5), (83, w6)] [(65, some 4), (82, some 5), (83, some 6), (85, some 3)] rfl
theorem hA2_md_minuteGoes (F : Nat → Nat → Int32) (w0 w1 w2 w3 : Nat → Int32) : (zua (zua (zua (zua F 65 w0) 82 w1) 83 w2) 85 w3) = (zua (zua (zua (zua F 65 w0) 82 w1) 83 w2) 85 w3) := zuak_ix F [(65, w0), (82, w1), (83, w2), (85, w3)] [(65, some 0), (82, some 1), (83, some 2), (85, some 3)] rfl
theorem hF1_md_minuteGoes (F : Nat → Nat → Int32) (w0 : Int32) : (zuf F 64 34 w0) = (zuf F 64 34 w0) := zufk_ix F [((64, 34), w0)] [((64, 34), some 0)] rfl
theorem hA0_md_minuteGoes (F : Nat → Nat → Int32) (w0 w1 w2 w3 w4 : Nat → Int32) : (zua (zua (zua (zua (zua F 65 w0) 82 w1) 83 w2) 85 w3) 65 w4) = (zua (zua (zua (zua F 65 w4) 82 w1) 83 w2) 85 w3) := zuak_ix F [(65, w0), (82, w1), (83, w2), (85, w3), (65, w4)] [(65, some 4), (82, some 1), (83, some 2), (85, some 3)] rfl
def O_md_minuteGoes (ar fi : Nat → Nat → Int32) (m1 : Nat) (m2 : Nat) (m3 : Nat) (m4 : Nat) (m5 : Nat) (t : T_md_minuteGoes) : zO2 := match t with
  | (t0, t1, t2, t3, t4) => (none, ((zua (zua (zua (zua ar 65 t0) 82 t1) 83 t2) 85 t3), (zuf fi 64 34 t4), (m1, m2, m3, m4, m5)))
def M_md_minuteGoes_39 (X : Nat × (Nat → Int32)) (E : zTE) (ar fi : Nat → Nat → Int32) (m1 : Nat) (m2 : Nat) (m3 : Nat) (m4 : Nat) (m5 : Nat) (b85 : Nat → Int32) (o : zO2) (s : U_md_minuteGoes_39) : Prop := match s with
  | (l1, b65, b82, b83, c64_34) => zR2 X zFT E zc_205 39 [.ref 64, .int l1] [] ((zua (zua (zua (zua ar 65 b65) 82 b82) 83 b83) 85 b85), (zuf fi 64 34 c64_34), (m1, m2, m3, m4, m5)) o
def M_md_minuteGoes_2 (X : Nat × (Nat → Int32)) (E : zTE) (ar fi : Nat → Nat → Int32) (m1 : Nat) (m2 : Nat) (m3 : Nat) (m4 : Nat) (m5 : Nat) (b65 : Nat → Int32) (b82 : Nat → Int32) (b83 : Nat → Int32) (c64_34 : Int32) (o : zO2) (s : U_md_minuteGoes_2) : Prop := match s with
  | (l1, b85) => zR2 X zFT E zc_205 2 [.ref 64, .int l1] [] ((zua (zua (zua (zua ar 65 b65) 82 b82) 83 b83) 85 b85), (zuf fi 64 34 c64_34), (m1, m2, m3, m4, m5)) o
set_option maxRecDepth 1000000 in
theorem t39_md_minuteGoes {X : Nat × (Nat → Int32)} {ar fi : Nat → Nat → Int32} {m1 m2 m3 m4 m5 : Nat} {l1 : Int32} {b65 : Nat → Int32} {b82 : Nat → Int32} {b83 : Nat → Int32} {b85 : Nat → Int32} {c64_34 : Int32} {Q_md_turnOf : Int32 → (Nat → Int32) → (Nat → Int32) → (Nat → Int32) → (Nat → Int32) → (Nat → Int32) → (Nat → Int32) → (Nat → Int32) → (Nat → Int32) → (Nat → Int32) → Int32 → Int32 → Option ((Nat → Int32) × (Nat → Int32) × (Nat → Int32) × Int32)} : zseg X zFT (zEx 204 (P_md_turnOf Q_md_turnOf) zE0) zc_205 (fun p => Nat.beq p 39 || Nat.beq p 2) 400 39 [.ref 64, .int l1] [] ((zua (zua (zua (zua ar 65 b65) 82 b82) 83 b83) 85 b85), (zuf fi 64 34 c64_34), (m1, m2, m3, m4, m5)) = (
  bif decide (96 ≤ l1) then
   zg (Nat.beq 16 16 && (zin 313 315)) (
   zg (Nat.beq 16 16 && (zin 313 315)) (
   some (.inr (none, ((zua (zua (zua (zua (zua ar 65 b65) 82 b82) 83 b83) 85 b85) 65 (zup b65 ((313 : Int32).toNatClampNeg) ((b65 ((313 : Int32).toNatClampNeg)) + 1))), (zuf fi 64 34 c64_34), (m1, m2, m3, m4, m5))))))
  else
   zg ((Nat.beq 18 17 || Nat.beq 18 18) && (zin l1 96)) (
   bif decide (b85 (l1.toNatClampNeg) = 0) then
    some (.inl (39, [.ref 64, .int (l1 + 1)], [], ((zua (zua (zua (zua ar 65 b65) 82 b82) 83 b83) 85 b85), (zuf fi 64 34 c64_34), (m1, m2, m3, m4, m5))))
   else
    zl (Q_md_turnOf l1 b65 (ar 68) (ar 77) (ar 78) (ar 79) (ar 80) (ar 81) b82 b83 (fi 64 15) c64_34) (fun v1 => zg v1.isSome (
    some (.inl (39, [.ref 64, .int (l1 + 1)], [], ((zua (zua (zua (zua (zua (zua (zua ar 65 b65) 82 b82) 83 b83) 85 b85) 65 (((zgt v1).1))) 82 (((zgt v1).2.1))) 83 (((zgt v1).2.2.1))), (zuf (zuf fi 64 34 c64_34) 64 34 (((zgt v1).2.2.2))), (m1, m2, m3, m4, m5))))))) : Option ((Nat × List Value × List Value × zH2) ⊕ zO2)) := by with_unfolding_all rfl
set_option maxRecDepth 20000 in
theorem k_md_minuteGoes_39 {X : Nat × (Nat → Int32)} {ar fi : Nat → Nat → Int32} {m1 m2 m3 m4 m5 : Nat} {b85 : Nat → Int32} {o : zO2} : ∀ (s : U_md_minuteGoes_39) (q : U_md_minuteGoes_39 ⊕ T_md_minuteGoes), f_md_minuteGoes_39 (ar 68) (ar 77) (ar 78) (ar 79) (ar 80) (ar 81) (fi 64 15) b85 s = some q → zq (M_md_minuteGoes_39 X (zEx 204 S_md_turnOf zE0) ar fi m1 m2 m3 m4 m5 b85 o) (fun t => O_md_minuteGoes ar fi m1 m2 m3 m4 m5 t = o) q → M_md_minuteGoes_39 X (zEx 204 S_md_turnOf zE0) ar fi m1 m2 m3 m4 m5 b85 o s := by
  intro s q h hq
  obtain ⟨l1, b65, b82, b83, c64_34⟩ := s
  have h : b_md_minuteGoes_39 (ar 68) (ar 77) (ar 78) (ar 79) (ar 80) (ar 81) (fi 64 15) b85 l1 b65 b82 b83 c64_34 = some q := h
  unfold b_md_minuteGoes_39 at h
  show zR2 X zFT (zEx 204 S_md_turnOf zE0) zc_205 39 [.ref 64, .int l1] [] ((zua (zua (zua (zua ar 65 b65) 82 b82) 83 b83) 85 b85), (zuf fi 64 34 c64_34), (m1, m2, m3, m4, m5)) o
  refine zT_seg t39_md_minuteGoes ?_
  obtain ⟨TT, hTT⟩ : ∃ T, T = zT X zFT (zEx 204 S_md_turnOf zE0) zc_205 o := ⟨_, rfl⟩
  rw [← hTT]
  refine zb_el h (fun hb h => zU_t hTT hb ?_) (fun hb h => zU_f hTT hb ?_)
  · refine zg_el h (fun hg h => zU_ga hTT hg ?_)
    refine zg_el h (fun hg h => zU_ga hTT hg ?_)
    rw [hTT]
    have hz := zsi h hq
    refine (zO_mk ?_ ?_).trans hz
    · first | with_reducible rfl | exact hA0_md_minuteGoes _ _ _ _ _ _
    · first | with_reducible rfl | exact hF1_md_minuteGoes _ _
  · refine zg_el h (fun hg h => zU_gc hTT hg ?_)
    refine zb_el h (fun hb h => zU_t hTT hb ?_) (fun hb h => zU_f hTT hb ?_)
    · rw [hTT]
      have hz := zsi h hq
      refine zR2_hp ?_ ?_ hz
      · first | with_reducible rfl | exact hA2_md_minuteGoes _ _ _ _ _
      · first | with_reducible rfl | exact hF1_md_minuteGoes _ _
    · refine zbd_el h (fun v1 hv h => zU_c hTT hv ?_)
      rw [hTT]
      have hz := zsi h hq
      refine zR2_hp ?_ ?_ hz
      · first | with_reducible rfl | exact hA3_md_minuteGoes _ _ _ _ _ _ _ _
      · first | with_reducible rfl | exact hF4_md_minuteGoes _ _ _
set_option maxRecDepth 1000000 in
theorem t2_md_minuteGoes {X : Nat × (Nat → Int32)} {ar fi : Nat → Nat → Int32} {m1 m2 m3 m4 m5 : Nat} {l1 : Int32} {b65 : Nat → Int32} {b82 : Nat → Int32} {b83 : Nat → Int32} {b85 : Nat → Int32} {c64_34 : Int32} {Q_md_turnOf : Int32 → (Nat → Int32) → (Nat → Int32) → (Nat → Int32) → (Nat → Int32) → (Nat → Int32) → (Nat → Int32) → (Nat → Int32) → (Nat → Int32) → (Nat → Int32) → Int32 → Int32 → Option ((Nat → Int32) × (Nat → Int32) × (Nat → Int32) × Int32)} : zseg X zFT (zEx 204 (P_md_turnOf Q_md_turnOf) zE0) zc_205 (fun p => Nat.beq p 39 || Nat.beq p 2) 400 2 [.ref 64, .int l1] [] ((zua (zua (zua (zua ar 65 b65) 82 b82) 83 b83) 85 b85), (zuf fi 64 34 c64_34), (m1, m2, m3, m4, m5)) = (
  bif decide (96 ≤ l1) then
   some (.inl (39, [.ref 64, .int 0], [], ((zua (zua (zua (zua ar 65 b65) 82 b82) 83 b83) 85 b85), (zuf fi 64 34 c64_34), (m1, m2, m3, m4, m5))))
  else
   zg (Nat.beq 16 16 && (zin (0 + l1) 315)) (
   bif !decide (b65 ((0 + l1).toNatClampNeg) = 1) then
    zg ((Nat.beq 18 17 || Nat.beq 18 18) && (zin l1 96)) (
    some (.inl (2, [.ref 64, .int (l1 + 1)], [], ((zua (zua (zua (zua (zua ar 65 b65) 82 b82) 83 b83) 85 b85) 85 (zup b85 (l1.toNatClampNeg) (0 &&& 1))), (zuf fi 64 34 c64_34), (m1, m2, m3, m4, m5)))))
   else
    zg ((Nat.beq 18 17 || Nat.beq 18 18) && (zin l1 96)) (
    some (.inl (2, [.ref 64, .int (l1 + 1)], [], ((zua (zua (zua (zua (zua ar 65 b65) 82 b82) 83 b83) 85 b85) 85 (zup b85 (l1.toNatClampNeg) (1 &&& 1))), (zuf fi 64 34 c64_34), (m1, m2, m3, m4, m5)))))) : Option ((Nat × List Value × List Value × zH2) ⊕ zO2)) := by with_unfolding_all rfl
set_option maxRecDepth 20000 in
theorem k_md_minuteGoes_2 {X : Nat × (Nat → Int32)} {ar fi : Nat → Nat → Int32} {m1 m2 m3 m4 m5 : Nat} {b65 : Nat → Int32} {b82 : Nat → Int32} {b83 : Nat → Int32} {c64_34 : Int32} {o : zO2} : ∀ (s : U_md_minuteGoes_2) (q : U_md_minuteGoes_2 ⊕ T_md_minuteGoes), f_md_minuteGoes_2 (ar 68) (ar 77) (ar 78) (ar 79) (ar 80) (ar 81) (fi 64 15) b65 b82 b83 c64_34 s = some q → zq (M_md_minuteGoes_2 X (zEx 204 S_md_turnOf zE0) ar fi m1 m2 m3 m4 m5 b65 b82 b83 c64_34 o) (fun t => O_md_minuteGoes ar fi m1 m2 m3 m4 m5 t = o) q → M_md_minuteGoes_2 X (zEx 204 S_md_turnOf zE0) ar fi m1 m2 m3 m4 m5 b65 b82 b83 c64_34 o s := by
  intro s q h hq
  obtain ⟨l1, b85⟩ := s
  have h : b_md_minuteGoes_2 (ar 68) (ar 77) (ar 78) (ar 79) (ar 80) (ar 81) (fi 64 15) b65 b82 b83 c64_34 l1 b85 = some q := h
  unfold b_md_minuteGoes_2 at h
  show zR2 X zFT (zEx 204 S_md_turnOf zE0) zc_205 2 [.ref 64, .int l1] [] ((zua (zua (zua (zua ar 65 b65) 82 b82) 83 b83) 85 b85), (zuf fi 64 34 c64_34), (m1, m2, m3, m4, m5)) o
  refine zT_seg t2_md_minuteGoes ?_
  obtain ⟨TT, hTT⟩ : ∃ T, T = zT X zFT (zEx 204 S_md_turnOf zE0) zc_205 o := ⟨_, rfl⟩
  rw [← hTT]
  refine zb_el h (fun hb h => zU_t hTT hb ?_) (fun hb h => zU_f hTT hb ?_)
  · rw [hTT]
    refine zbd_el h (fun r hr h => ?_)
    have hz := zsi h hq
    refine zR2_hp ?_ ?_ (zlp_K k_md_minuteGoes_39 hr hz)
    · first | with_reducible rfl | exact hA2_md_minuteGoes _ _ _ _ _
    · first | with_reducible rfl | exact hF1_md_minuteGoes _ _
  · refine zg_el h (fun hg h => zU_ga hTT hg ?_)
    refine zb_el h (fun hb h => zU_t hTT hb ?_) (fun hb h => zU_f hTT hb ?_)
    · refine zg_el h (fun hg h => zU_gc hTT hg ?_)
      rw [hTT]
      have hz := zsi h hq
      refine zR2_hp ?_ ?_ hz
      · first | with_reducible rfl | exact hA5_md_minuteGoes _ _ _ _ _ _
      · first | with_reducible rfl | exact hF1_md_minuteGoes _ _
    · refine zg_el h (fun hg h => zU_gc hTT hg ?_)
      rw [hTT]
      have hz := zsi h hq
      refine zR2_hp ?_ ?_ hz
      · first | with_reducible rfl | exact hA5_md_minuteGoes _ _ _ _ _ _
      · first | with_reducible rfl | exact hF1_md_minuteGoes _ _
set_option maxRecDepth 1000000 in
theorem t_md_minuteGoes {X : Nat × (Nat → Int32)} {ar fi : Nat → Nat → Int32} {m1 m2 m3 m4 m5 : Nat} {Q_md_turnOf : Int32 → (Nat → Int32) → (Nat → Int32) → (Nat → Int32) → (Nat → Int32) → (Nat → Int32) → (Nat → Int32) → (Nat → Int32) → (Nat → Int32) → (Nat → Int32) → Int32 → Int32 → Option ((Nat → Int32) × (Nat → Int32) × (Nat → Int32) × Int32)} : zseg X zFT (zEx 204 (P_md_turnOf Q_md_turnOf) zE0) zc_205 (fun p => Nat.beq p 39 || Nat.beq p 2) 400 0 [.ref 64] [] (ar, fi, (m1, m2, m3, m4, m5)) = (
  some (.inl (2, [.ref 64, .int 0], [], (ar, fi, (m1, m2, m3, m4, m5)))) : Option ((Nat × List Value × List Value × zH2) ⊕ zO2)) := by with_unfolding_all rfl
set_option maxRecDepth 20000 in
theorem e_md_minuteGoes {X : Nat × (Nat → Int32)} {ar fi : Nat → Nat → Int32} {m1 m2 m3 m4 m5 : Nat} {o : zO2} : ∀ (q : T_md_minuteGoes), q_md_minuteGoes (ar 65) (ar 68) (ar 77) (ar 78) (ar 79) (ar 80) (ar 81) (ar 82) (ar 83) (ar 85) (fi 64 15) (fi 64 34) = some q → (fun t => O_md_minuteGoes ar fi m1 m2 m3 m4 m5 t = o) q → zR2 X zFT (zEx 204 S_md_turnOf zE0) zc_205 0 [.ref 64] [] (ar, fi, (m1, m2, m3, m4, m5)) o := by
  intro q h hq
  unfold q_md_minuteGoes at h
  refine zT_seg t_md_minuteGoes ?_
  obtain ⟨TT, hTT⟩ : ∃ T, T = zT X zFT (zEx 204 S_md_turnOf zE0) zc_205 o := ⟨_, rfl⟩
  rw [← hTT]
  rw [hTT]
  refine zR2_hp ?_ ?_ (zlp_K k_md_minuteGoes_2 h hq)
  · first | with_reducible rfl | exact hA6_md_minuteGoes _
  · first | with_reducible rfl | exact hF7_md_minuteGoes _
theorem ok_md_minuteGoes (X : Nat × (Nat → Int32)) : zOkS X 205 S_md_minuteGoes 8 := zOkS_new (zOkE_cons (ok_md_turnOf X) (by decide) (zOkE_nil X 7)) (by
  intro args g o h
  obtain ⟨ar, fi, m1, m2, m3, m4, m5⟩ := g
  unfold S_md_minuteGoes P_md_minuteGoes at h
  split at h
  · refine zb_el h (fun hI0 k0 => ?_) (fun _ h10 => ?_)
    · try simp only [Bool.and_eq_true] at hI0
      have j0 := hI0
      have e0 := Nat.eq_of_beq_eq_true j0
      subst e0
      exact zpe_el k0 (fun t ht ho => by obtain ⟨t0, t1, t2, t3, t4⟩ := t; exact e_md_minuteGoes _ ht ho)
    · cases h10
  · cases h)
