abbrev T_md_minutesGo : Type := (Nat → Int32) × (Nat → Int32) × (Nat → Int32) × (Nat → Int32) × Int32
abbrev U_md_minutesGo_7 : Type := Int32 × (Nat → Int32) × (Nat → Int32) × (Nat → Int32) × (Nat → Int32) × Int32
noncomputable def b_md_minutesGo_7 (x : Int32) (a68 : Nat → Int32) (a77 : Nat → Int32) (a78 : Nat → Int32) (a79 : Nat → Int32) (a80 : Nat → Int32) (a81 : Nat → Int32) (f64_15 : Int32) (l2 : Int32) (b65 : Nat → Int32) (b82 : Nat → Int32) (b83 : Nat → Int32) (b85 : Nat → Int32) (c64_34 : Int32) : Option (U_md_minutesGo_7 ⊕ T_md_minutesGo) :=
  bif decide (x ≤ l2) then
   some (.inr (b65, b82, b83, b85, c64_34))
  else
   zg (zin 313 315) (
   bif decide (9999 ≤ b65 ((313 : Int32).toNatClampNeg)) then
    some (.inr (b65, b82, b83, b85, c64_34))
   else
    zbd (q_md_minuteGoes b65 a68 a77 a78 a79 a80 a81 b82 b83 b85 (f64_15) c64_34) (fun v1 =>
    some (.inl (l2 + 1, ((v1.1)), ((v1.2.1)), ((v1.2.2.1)), ((v1.2.2.2.1)), (v1.2.2.2.2)))))
noncomputable def f_md_minutesGo_7 (x : Int32) (a68 : Nat → Int32) (a77 : Nat → Int32) (a78 : Nat → Int32) (a79 : Nat → Int32) (a80 : Nat → Int32) (a81 : Nat → Int32) (f64_15 : Int32) : U_md_minutesGo_7 → Option (U_md_minutesGo_7 ⊕ T_md_minutesGo) := fun s => b_md_minutesGo_7 x a68 a77 a78 a79 a80 a81 f64_15 s.1 s.2.1 s.2.2.1 s.2.2.2.1 s.2.2.2.2.1 s.2.2.2.2.2
noncomputable def l_md_minutesGo_7 (x : Int32) (a68 : Nat → Int32) (a77 : Nat → Int32) (a78 : Nat → Int32) (a79 : Nat → Int32) (a80 : Nat → Int32) (a81 : Nat → Int32) (f64_15 : Int32) (l2 : Int32) (b65 : Nat → Int32) (b82 : Nat → Int32) (b83 : Nat → Int32) (b85 : Nat → Int32) (c64_34 : Int32) : Option T_md_minutesGo := zlp (f_md_minutesGo_7 x a68 a77 a78 a79 a80 a81 f64_15) (l2, b65, b82, b83, b85, c64_34)
noncomputable def q_md_minutesGo (x : Int32) (a65 : Nat → Int32) (a68 : Nat → Int32) (a77 : Nat → Int32) (a78 : Nat → Int32) (a79 : Nat → Int32) (a80 : Nat → Int32) (a81 : Nat → Int32) (a82 : Nat → Int32) (a83 : Nat → Int32) (a85 : Nat → Int32) (f64_15 : Int32) : Option T_md_minutesGo :=
  l_md_minutesGo_7 x a68 a77 a78 a79 a80 a81 f64_15 0 a65 a82 a83 a85 0
def P_md_minutesGo (Q : Int32 → (Nat → Int32) → (Nat → Int32) → (Nat → Int32) → (Nat → Int32) → (Nat → Int32) → (Nat → Int32) → (Nat → Int32) → (Nat → Int32) → (Nat → Int32) → (Nat → Int32) → Int32 → Option ((Nat → Int32) × (Nat → Int32) × (Nat → Int32) × (Nat → Int32) × Int32)) : zSp := fun as g => match as with
  | [.ref a, .int x] => bif Nat.beq a 64 then zpe (Q x (g.1 65) (g.1 68) (g.1 77) (g.1 78) (g.1 79) (g.1 80) (g.1 81) (g.1 82) (g.1 83) (g.1 85) (g.2.1 64 15)) (fun t => (none, ((zua (zua (zua (zua g.1 65 t.1) 82 t.2.1) 83 t.2.2.1) 85 t.2.2.2.1), (zuf g.2.1 64 34 t.2.2.2.2), g.2.2))) else none
  | _ => none
noncomputable abbrev S_md_minutesGo : zSp := P_md_minutesGo q_md_minutesGo
theorem hA4_md_minutesGo (F : Nat → Nat → Int32) : F = (zua (zua (zua (zua F 65 (F 65)) 82 (F 82)) 83 (F 83)) 85 (F 85)) := zuak_ix F [] [(65, none), (82, none), (83, none), (85, none)] rfl
theorem hF3_md_minutesGo (F : Nat → Nat → Int32) (w0 w1 : Int32) : (zuf (zuf F 64 34 w0) 64 34 w1) = (zuf F 64 34 w1) := zufk_ix F [((64, 34), w0), ((64, 34), w1)] [((64, 34), some 1)] rfl
theorem hA2_md_minutesGo (F : Nat → Nat → Int32) (w0 w1 w2 w3 w4 w5 w6 w7 : Nat → Int32) : (zua (zua (zua (zua (zua (zua (zua (zua F 65 w0) 82 w1) 83 w2) 85 w3) 65 w4) 82 w5) 83 w6) 85 w7) = (zua (zua (zua (zua F 65 w4) 82 w5) 83 w6) 85 w7) := zuak_ix F [(65, w0), (82, w1), (83, w2), (85, w3), (65, w4), (82, w5), (83, w6), (85, w7)] [(65, some 4), (82, some 5), (83, some 6), (85, some 7)] rfl
theorem hF1_md_minutesGo (F : Nat → Nat → Int32) (w0 : Int32) : (zuf F 64 34 w0) = (zuf F 64 34 w0) := zufk_ix F [((64, 34), w0)] [((64, 34), some 0)] rfl
theorem hA0_md_minutesGo (F : Nat → Nat → Int32) (w0 w1 w2 w3 : Nat → Int32) : (zua (zua (zua (zua F 65 w0) 82 w1) 83 w2) 85 w3) = (zua (zua (zua (zua F 65 w0) 82 w1) 83 w2) 85 w3) := zuak_ix F [(65, w0), (82, w1), (83, w2), (85, w3)] [(65, some 0), (82, some 1), (83, some 2), (85, some 3)] rfl
def O_md_minutesGo (ar fi : Nat → Nat → Int32) (m1 : Nat) (m2 : Nat) (m3 : Nat) (m4 : Nat) (m5 : Nat) (t : T_md_minutesGo) : zO2 := match t with
  | (t0, t1, t2, t3, t4) => (none, ((zua (zua (zua (zua ar 65 t0) 82 t1) 83 t2) 85 t3), (zuf fi 64 34 t4), (m1, m2, m3, m4, m5)))
def M_md_minutesGo_7 (X : Nat × (Nat → Int32)) (E : zTE) (ar fi : Nat → Nat → Int32) (m1 : Nat) (m2 : Nat) (m3 : Nat) (m4 : Nat) (m5 : Nat) (x : Int32) (o : zO2) (s : U_md_minutesGo_7) : Prop := match s with
  | (l2, b65, b82, b83, b85, c64_34) => zR2 X zFT E zc_206 7 [.ref 64, .int x, .int l2] [] ((zua (zua (zua (zua ar 65 b65) 82 b82) 83 b83) 85 b85), (zuf fi 64 34 c64_34), (m1, m2, m3, m4, m5)) o
set_option maxRecDepth 1000000 in
theorem t7_md_minutesGo {X : Nat × (Nat → Int32)} {ar fi : Nat → Nat → Int32} {m1 m2 m3 m4 m5 : Nat} {x : Int32} {l2 : Int32} {b65 : Nat → Int32} {b82 : Nat → Int32} {b83 : Nat → Int32} {b85 : Nat → Int32} {c64_34 : Int32} {Q_md_minuteGoes : (Nat → Int32) → (Nat → Int32) → (Nat → Int32) → (Nat → Int32) → (Nat → Int32) → (Nat → Int32) → (Nat → Int32) → (Nat → Int32) → (Nat → Int32) → (Nat → Int32) → Int32 → Int32 → Option ((Nat → Int32) × (Nat → Int32) × (Nat → Int32) × (Nat → Int32) × Int32)} : zseg X zFT (zEx 205 (P_md_minuteGoes Q_md_minuteGoes) zE0) zc_206 (fun p => Nat.beq p 7) 400 7 [.ref 64, .int x, .int l2] [] ((zua (zua (zua (zua ar 65 b65) 82 b82) 83 b83) 85 b85), (zuf fi 64 34 c64_34), (m1, m2, m3, m4, m5)) = (
  bif decide (x ≤ l2) then
   some (.inr (none, ((zua (zua (zua (zua ar 65 b65) 82 b82) 83 b83) 85 b85), (zuf fi 64 34 c64_34), (m1, m2, m3, m4, m5))))
  else
   zg (Nat.beq 16 16 && (zin 313 315)) (
   bif decide (9999 ≤ b65 ((313 : Int32).toNatClampNeg)) then
    some (.inr (none, ((zua (zua (zua (zua ar 65 b65) 82 b82) 83 b83) 85 b85), (zuf fi 64 34 c64_34), (m1, m2, m3, m4, m5))))
   else
    zl (Q_md_minuteGoes b65 (ar 68) (ar 77) (ar 78) (ar 79) (ar 80) (ar 81) b82 b83 b85 (fi 64 15) c64_34) (fun v1 => zg v1.isSome (
    some (.inl (7, [.ref 64, .int x, .int (l2 + 1)], [], ((zua (zua (zua (zua (zua (zua (zua (zua ar 65 b65) 82 b82) 83 b83) 85 b85) 65 (((zgt v1).1))) 82 (((zgt v1).2.1))) 83 (((zgt v1).2.2.1))) 85 (((zgt v1).2.2.2.1))), (zuf (zuf fi 64 34 c64_34) 64 34 (((zgt v1).2.2.2.2))), (m1, m2, m3, m4, m5))))))) : Option ((Nat × List Value × List Value × zH2) ⊕ zO2)) := by with_unfolding_all rfl
set_option maxRecDepth 20000 in
theorem k_md_minutesGo_7 {X : Nat × (Nat → Int32)} {ar fi : Nat → Nat → Int32} {m1 m2 m3 m4 m5 : Nat} {x : Int32} {o : zO2} : ∀ (s : U_md_minutesGo_7) (q : U_md_minutesGo_7 ⊕ T_md_minutesGo), f_md_minutesGo_7 x (ar 68) (ar 77) (ar 78) (ar 79) (ar 80) (ar 81) (fi 64 15) s = some q → zq (M_md_minutesGo_7 X (zEx 205 S_md_minuteGoes zE0) ar fi m1 m2 m3 m4 m5 x o) (fun t => O_md_minutesGo ar fi m1 m2 m3 m4 m5 t = o) q → M_md_minutesGo_7 X (zEx 205 S_md_minuteGoes zE0) ar fi m1 m2 m3 m4 m5 x o s := by
  intro s q h hq
  obtain ⟨l2, b65, b82, b83, b85, c64_34⟩ := s
  have h : b_md_minutesGo_7 x (ar 68) (ar 77) (ar 78) (ar 79) (ar 80) (ar 81) (fi 64 15) l2 b65 b82 b83 b85 c64_34 = some q := h
  unfold b_md_minutesGo_7 at h
  show zR2 X zFT (zEx 205 S_md_minuteGoes zE0) zc_206 7 [.ref 64, .int x, .int l2] [] ((zua (zua (zua (zua ar 65 b65) 82 b82) 83 b83) 85 b85), (zuf fi 64 34 c64_34), (m1, m2, m3, m4, m5)) o
  refine zT_seg t7_md_minutesGo ?_
  obtain ⟨TT, hTT⟩ : ∃ T, T = zT X zFT (zEx 205 S_md_minuteGoes zE0) zc_206 o := ⟨_, rfl⟩
  rw [← hTT]
  refine zb_el h (fun hb h => zU_t hTT hb ?_) (fun hb h => zU_f hTT hb ?_)
  · rw [hTT]
    have hz := zsi h hq
    refine (zO_mk ?_ ?_).trans hz
    · first | with_reducible rfl | exact hA0_md_minutesGo _ _ _ _ _
    · first | with_reducible rfl | exact hF1_md_minutesGo _ _
  · refine zg_el h (fun hg h => zU_ga hTT hg ?_)
    refine zb_el h (fun hb h => zU_t hTT hb ?_) (fun hb h => zU_f hTT hb ?_)
    · rw [hTT]
      have hz := zsi h hq
      refine (zO_mk ?_ ?_).trans hz
      · first | with_reducible rfl | exact hA0_md_minutesGo _ _ _ _ _
      · first | with_reducible rfl | exact hF1_md_minutesGo _ _
    · refine zbd_el h (fun v1 hv h => zU_c hTT hv ?_)
      rw [hTT]
      have hz := zsi h hq
      refine zR2_hp ?_ ?_ hz
      · first | with_reducible rfl | exact hA2_md_minutesGo _ _ _ _ _ _ _ _ _
      · first | with_reducible rfl | exact hF3_md_minutesGo _ _ _
set_option maxRecDepth 1000000 in
theorem t_md_minutesGo {X : Nat × (Nat → Int32)} {ar fi : Nat → Nat → Int32} {m1 m2 m3 m4 m5 : Nat} {x : Int32} {Q_md_minuteGoes : (Nat → Int32) → (Nat → Int32) → (Nat → Int32) → (Nat → Int32) → (Nat → Int32) → (Nat → Int32) → (Nat → Int32) → (Nat → Int32) → (Nat → Int32) → (Nat → Int32) → Int32 → Int32 → Option ((Nat → Int32) × (Nat → Int32) × (Nat → Int32) × (Nat → Int32) × Int32)} : zseg X zFT (zEx 205 (P_md_minuteGoes Q_md_minuteGoes) zE0) zc_206 (fun p => Nat.beq p 7) 400 0 [.ref 64, .int x] [] (ar, fi, (m1, m2, m3, m4, m5)) = (
  some (.inl (7, [.ref 64, .int x, .int 0], [], (ar, (zuf fi 64 34 0), (m1, m2, m3, m4, m5)))) : Option ((Nat × List Value × List Value × zH2) ⊕ zO2)) := by with_unfolding_all rfl
set_option maxRecDepth 20000 in
theorem e_md_minutesGo {X : Nat × (Nat → Int32)} {ar fi : Nat → Nat → Int32} {m1 m2 m3 m4 m5 : Nat} {x : Int32} {o : zO2} : ∀ (q : T_md_minutesGo), q_md_minutesGo x (ar 65) (ar 68) (ar 77) (ar 78) (ar 79) (ar 80) (ar 81) (ar 82) (ar 83) (ar 85) (fi 64 15) = some q → (fun t => O_md_minutesGo ar fi m1 m2 m3 m4 m5 t = o) q → zR2 X zFT (zEx 205 S_md_minuteGoes zE0) zc_206 0 [.ref 64, .int x] [] (ar, fi, (m1, m2, m3, m4, m5)) o := by
  intro q h hq
  unfold q_md_minutesGo at h
  refine zT_seg t_md_minutesGo ?_
  obtain ⟨TT, hTT⟩ : ∃ T, T = zT X zFT (zEx 205 S_md_minuteGoes zE0) zc_206 o := ⟨_, rfl⟩
  rw [← hTT]
  rw [hTT]
  refine zR2_hp ?_ ?_ (zlp_K k_md_minutesGo_7 h hq)
  · first | with_reducible rfl | exact hA4_md_minutesGo _
  · first | with_reducible rfl | exact hF1_md_minutesGo _ _
theorem ok_md_minutesGo (X : Nat × (Nat → Int32)) : zOkS X 206 S_md_minutesGo 9 := zOkS_new (zOkE_cons (ok_md_minuteGoes X) (by decide) (zOkE_nil X 8)) (by
  intro args g o h
  obtain ⟨ar, fi, m1, m2, m3, m4, m5⟩ := g
  unfold S_md_minutesGo P_md_minutesGo at h
  split at h
  · refine zb_el h (fun hI0 k0 => ?_) (fun _ h10 => ?_)
    · try simp only [Bool.and_eq_true] at hI0
      have j0 := hI0
      have e0 := Nat.eq_of_beq_eq_true j0
      subst e0
      exact zpe_el k0 (fun t ht ho => by obtain ⟨t0, t1, t2, t3, t4⟩ := t; exact e_md_minutesGo _ ht ho)
    · cases h10
  · cases h)
