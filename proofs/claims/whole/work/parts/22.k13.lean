abbrev T_md_over : Type := Int32 × (Nat → Int32) × (Nat → Int32) × (Nat → Int32) × (Nat → Int32) × (Nat → Int32) × Int32
abbrev U_md_over_25 : Type := Int32 × (Nat → Int32) × (Nat → Int32) × (Nat → Int32) × (Nat → Int32) × Int32
noncomputable def b_md_over_25 (x : Int32) (a68 : Nat → Int32) (a77 : Nat → Int32) (a78 : Nat → Int32) (a79 : Nat → Int32) (a80 : Nat → Int32) (a81 : Nat → Int32) (f64_15 : Int32) (b66 : Nat → Int32) (l2 : Int32) (b65 : Nat → Int32) (b82 : Nat → Int32) (b83 : Nat → Int32) (b85 : Nat → Int32) (c64_34 : Int32) : Option (U_md_over_25 ⊕ T_md_over) :=
  zl (w_md_faring 1 b65) (fun v3 =>
  bif decide (v3 ≤ 0) then
   zl (w_md_faring 1 b65) (fun v4 =>
   bif !decide (v4 = 0) then
    zl (a0_md_copies b66 b65) (fun v5 =>
    some (.inr ((-2), v5, b66, b82, b83, b85, c64_34)))
   else
    zl (a0_md_copies b66 b65) (fun v6 =>
    some (.inr (l2, v6, b66, b82, b83, b85, c64_34))))
  else
   bif decide (x ≤ l2) then
    zl (w_md_faring 1 b65) (fun v7 =>
    bif !decide (v7 = 0) then
     zl (a0_md_copies b66 b65) (fun v8 =>
     some (.inr ((-2), v8, b66, b82, b83, b85, c64_34)))
    else
     zl (a0_md_copies b66 b65) (fun v9 =>
     some (.inr (l2, v9, b66, b82, b83, b85, c64_34))))
   else
    zg (zin 313 315) (
    bif decide (9999 ≤ b65 ((313 : Int32).toNatClampNeg)) then
     zl (w_md_faring 1 b65) (fun v10 =>
     bif !decide (v10 = 0) then
      zl (a0_md_copies b66 b65) (fun v11 =>
      some (.inr ((-2), v11, b66, b82, b83, b85, c64_34)))
     else
      zl (a0_md_copies b66 b65) (fun v12 =>
      some (.inr (l2, v12, b66, b82, b83, b85, c64_34))))
    else
     zbd (q_md_minuteGoes b65 a68 a77 a78 a79 a80 a81 b82 b83 b85 (f64_15) c64_34) (fun v13 =>
     some (.inl (l2 + 1, ((v13.1)), ((v13.2.1)), ((v13.2.2.1)), ((v13.2.2.2.1)), (v13.2.2.2.2))))))
noncomputable def f_md_over_25 (x : Int32) (a68 : Nat → Int32) (a77 : Nat → Int32) (a78 : Nat → Int32) (a79 : Nat → Int32) (a80 : Nat → Int32) (a81 : Nat → Int32) (f64_15 : Int32) (b66 : Nat → Int32) : U_md_over_25 → Option (U_md_over_25 ⊕ T_md_over) := fun s => b_md_over_25 x a68 a77 a78 a79 a80 a81 f64_15 b66 s.1 s.2.1 s.2.2.1 s.2.2.2.1 s.2.2.2.2.1 s.2.2.2.2.2
noncomputable def l_md_over_25 (x : Int32) (a68 : Nat → Int32) (a77 : Nat → Int32) (a78 : Nat → Int32) (a79 : Nat → Int32) (a80 : Nat → Int32) (a81 : Nat → Int32) (f64_15 : Int32) (b66 : Nat → Int32) (l2 : Int32) (b65 : Nat → Int32) (b82 : Nat → Int32) (b83 : Nat → Int32) (b85 : Nat → Int32) (c64_34 : Int32) : Option T_md_over := zlp (f_md_over_25 x a68 a77 a78 a79 a80 a81 f64_15 b66) (l2, b65, b82, b83, b85, c64_34)
noncomputable def q_md_over (x : Int32) (a65 : Nat → Int32) (a66 : Nat → Int32) (a68 : Nat → Int32) (a77 : Nat → Int32) (a78 : Nat → Int32) (a79 : Nat → Int32) (a80 : Nat → Int32) (a81 : Nat → Int32) (a82 : Nat → Int32) (a83 : Nat → Int32) (a85 : Nat → Int32) (f64_15 : Int32) (f64_34 : Int32) : Option T_md_over :=
  zl (w_md_in x 1 100) (fun v1 =>
  bif !decide (v1 = 0) then
   zl (a0_md_copies a65 a66) (fun v2 =>
   l_md_over_25 x a68 a77 a78 a79 a80 a81 f64_15 v2 0 a65 a82 a83 a85 (f64_34))
  else
   some ((-1), a65, a66, a82, a83, a85, f64_34))
def P_md_over (Q : Int32 → (Nat → Int32) → (Nat → Int32) → (Nat → Int32) → (Nat → Int32) → (Nat → Int32) → (Nat → Int32) → (Nat → Int32) → (Nat → Int32) → (Nat → Int32) → (Nat → Int32) → (Nat → Int32) → Int32 → Int32 → Option (Int32 × (Nat → Int32) × (Nat → Int32) × (Nat → Int32) × (Nat → Int32) × (Nat → Int32) × Int32)) : zSp := fun as g => match as with
  | [.ref a, .int x] => bif Nat.beq a 64 then zpe (Q x (g.1 65) (g.1 66) (g.1 68) (g.1 77) (g.1 78) (g.1 79) (g.1 80) (g.1 81) (g.1 82) (g.1 83) (g.1 85) (g.2.1 64 15) (g.2.1 64 34)) (fun t => (some (.int (t.1)), ((zua (zua (zua (zua (zua g.1 65 t.2.1) 66 t.2.2.1) 82 t.2.2.2.1) 83 t.2.2.2.2.1) 85 t.2.2.2.2.2.1), (zuf g.2.1 64 34 t.2.2.2.2.2.2), g.2.2))) else none
  | _ => none
noncomputable abbrev S_md_over : zSp := P_md_over q_md_over
def O_md_over (ar fi : Nat → Nat → Int32) (m1 : Nat) (m2 : Nat) (m3 : Nat) (m4 : Nat) (m5 : Nat) (t : T_md_over) : zO2 := (some (.int (t.1)), ((zua (zua (zua (zua (zua ar 65 t.2.1) 66 t.2.2.1) 82 t.2.2.2.1) 83 t.2.2.2.2.1) 85 t.2.2.2.2.2.1), (zuf fi 64 34 t.2.2.2.2.2.2), (m1, m2, m3, m4, m5)))
def M_md_over_25 (X : Nat × (Nat → Int32)) (E : zTE) (ar fi : Nat → Nat → Int32) (m1 : Nat) (m2 : Nat) (m3 : Nat) (m4 : Nat) (m5 : Nat) (x : Int32) (b66 : Nat → Int32) (o : zO2) (s : U_md_over_25) : Prop := zR2 X zFT E zc_216 25 [.ref 64, .int x, .int s.1] [] ((zua (zua (zua (zua (zua ar 65 s.2.1) 66 b66) 82 s.2.2.1) 83 s.2.2.2.1) 85 s.2.2.2.2.1), (zuf fi 64 34 s.2.2.2.2.2), (m1, m2, m3, m4, m5)) o
set_option maxRecDepth 20000 in
theorem t25_md_over {X : Nat × (Nat → Int32)} {ar fi : Nat → Nat → Int32} {m1 m2 m3 m4 m5 : Nat} {x : Int32} {l2 : Int32} {b65 : Nat → Int32} {b66 : Nat → Int32} {b82 : Nat → Int32} {b83 : Nat → Int32} {b85 : Nat → Int32} {c64_34 : Int32} {W_md_in : Int32 → Int32 → Int32 → Int32} {A0_md_copies : (Nat → Int32) → (Nat → Int32) → Nat → Int32} {W_md_faring : Int32 → (Nat → Int32) → Int32} {Q_md_minuteGoes : (Nat → Int32) → (Nat → Int32) → (Nat → Int32) → (Nat → Int32) → (Nat → Int32) → (Nat → Int32) → (Nat → Int32) → (Nat → Int32) → (Nat → Int32) → (Nat → Int32) → Int32 → Int32 → Option ((Nat → Int32) × (Nat → Int32) × (Nat → Int32) × (Nat → Int32) × Int32)} : zseg X zFT (zEx 143 (P_md_in W_md_in) (zEx 148 (P_md_copies A0_md_copies) (zEx 207 (P_md_faring W_md_faring) (zEx 205 (P_md_minuteGoes Q_md_minuteGoes) zE0)))) zc_216 (fun p => Nat.beq p 25) 400 25 [.ref 64, .int x, .int l2] [] ((zua (zua (zua (zua (zua ar 65 b65) 66 b66) 82 b82) 83 b83) 85 b85), (zuf fi 64 34 c64_34), (m1, m2, m3, m4, m5)) = (
  zl (W_md_faring 1 b65) (fun v3 =>
  bif decide (v3 ≤ 0) then
   zl (W_md_faring 1 b65) (fun v4 =>
   bif !decide (v4 = 0) then
    zl (A0_md_copies b66 b65) (fun v5 =>
    some (.inr (some (.int (-2)), ((zua (zua (zua (zua (zua (zua ar 65 b65) 66 b66) 82 b82) 83 b83) 85 b85) 65 v5), (zuf fi 64 34 c64_34), (m1, m2, m3, m4, m5)))))
   else
    zl (A0_md_copies b66 b65) (fun v6 =>
    some (.inr (some (.int l2), ((zua (zua (zua (zua (zua (zua ar 65 b65) 66 b66) 82 b82) 83 b83) 85 b85) 65 v6), (zuf fi 64 34 c64_34), (m1, m2, m3, m4, m5))))))
  else
   bif decide (x ≤ l2) then
    zl (W_md_faring 1 b65) (fun v7 =>
    bif !decide (v7 = 0) then
     zl (A0_md_copies b66 b65) (fun v8 =>
     some (.inr (some (.int (-2)), ((zua (zua (zua (zua (zua (zua ar 65 b65) 66 b66) 82 b82) 83 b83) 85 b85) 65 v8), (zuf fi 64 34 c64_34), (m1, m2, m3, m4, m5)))))
    else
     zl (A0_md_copies b66 b65) (fun v9 =>
     some (.inr (some (.int l2), ((zua (zua (zua (zua (zua (zua ar 65 b65) 66 b66) 82 b82) 83 b83) 85 b85) 65 v9), (zuf fi 64 34 c64_34), (m1, m2, m3, m4, m5))))))
   else
    zg (zin 313 315) (
    bif decide (9999 ≤ b65 ((313 : Int32).toNatClampNeg)) then
     zl (W_md_faring 1 b65) (fun v10 =>
     bif !decide (v10 = 0) then
      zl (A0_md_copies b66 b65) (fun v11 =>
      some (.inr (some (.int (-2)), ((zua (zua (zua (zua (zua (zua ar 65 b65) 66 b66) 82 b82) 83 b83) 85 b85) 65 v11), (zuf fi 64 34 c64_34), (m1, m2, m3, m4, m5)))))
     else
      zl (A0_md_copies b66 b65) (fun v12 =>
      some (.inr (some (.int l2), ((zua (zua (zua (zua (zua (zua ar 65 b65) 66 b66) 82 b82) 83 b83) 85 b85) 65 v12), (zuf fi 64 34 c64_34), (m1, m2, m3, m4, m5))))))
    else
     zl (Q_md_minuteGoes b65 (ar 68) (ar 77) (ar 78) (ar 79) (ar 80) (ar 81) b82 b83 b85 (fi 64 15) c64_34) (fun v13 => zg v13.isSome (
     some (.inl (25, [.ref 64, .int x, .int (l2 + 1)], [], ((zua (zua (zua (zua (zua (zua (zua (zua (zua ar 65 b65) 66 b66) 82 b82) 83 b83) 85 b85) 65 (((zgt v13).1))) 82 (((zgt v13).2.1))) 83 (((zgt v13).2.2.1))) 85 (((zgt v13).2.2.2.1))), (zuf (zuf fi 64 34 c64_34) 64 34 (((zgt v13).2.2.2.2))), (m1, m2, m3, m4, m5)))))))) : Option ((Nat × List Value × List Value × zH2) ⊕ zO2)) := rfl
theorem k_md_over_25 {X : Nat × (Nat → Int32)} {ar fi : Nat → Nat → Int32} {m1 m2 m3 m4 m5 : Nat} {x : Int32} {b66 : Nat → Int32} {o : zO2} : ∀ (s : U_md_over_25) (q : U_md_over_25 ⊕ T_md_over), f_md_over_25 x (ar 68) (ar 77) (ar 78) (ar 79) (ar 80) (ar 81) (fi 64 15) b66 s = some q → zq (M_md_over_25 X (zEx 143 S_md_in (zEx 148 S_md_copies (zEx 207 S_md_faring (zEx 205 S_md_minuteGoes zE0)))) ar fi m1 m2 m3 m4 m5 x b66 o) (fun t => O_md_over ar fi m1 m2 m3 m4 m5 t = o) q → M_md_over_25 X (zEx 143 S_md_in (zEx 148 S_md_copies (zEx 207 S_md_faring (zEx 205 S_md_minuteGoes zE0)))) ar fi m1 m2 m3 m4 m5 x b66 o s := by
  intro s q h hq
  obtain ⟨l2, b65, b82, b83, b85, c64_34⟩ := s
  have h : b_md_over_25 x (ar 68) (ar 77) (ar 78) (ar 79) (ar 80) (ar 81) (fi 64 15) b66 l2 b65 b82 b83 b85 c64_34 = some q := h
  unfold b_md_over_25 at h
  show zR2 X zFT (zEx 143 S_md_in (zEx 148 S_md_copies (zEx 207 S_md_faring (zEx 205 S_md_minuteGoes zE0)))) zc_216 25 [.ref 64, .int x, .int l2] [] ((zua (zua (zua (zua (zua ar 65 b65) 66 b66) 82 b82) 83 b83) 85 b85), (zuf fi 64 34 c64_34), (m1, m2, m3, m4, m5)) o
  refine zT_seg t25_md_over ?_
  refine zl_el h (fun h => zT_l ?_)
  refine zb_el h (fun hb h => zT_t hb ?_) (fun hb h => zT_f hb ?_)
  · refine zl_el h (fun h => zT_l ?_)
    refine zb_el h (fun hb h => zT_t hb ?_) (fun hb h => zT_f hb ?_)
    · refine zl_el h (fun h => zT_l ?_)
      have hz := zsi h hq
      refine (zO_mk ?_ ?_).trans hz
      · first | with_reducible rfl | (exact zuas_eq _ [(65, _), (66, _), (82, _), (83, _), (85, _), (65, _)] [(65, _), (66, _), (82, _), (83, _), (85, _)] [65, 66, 82, 83, 85] rfl rfl ⟨rfl, rfl, rfl, rfl, rfl, trivial⟩)
      · first | with_reducible rfl | (exact zufs_eq _ [(64, 34, _)] [(64, 34, _)] [(64, 34)] rfl rfl ⟨rfl, trivial⟩)
    · refine zl_el h (fun h => zT_l ?_)
      have hz := zsi h hq
      refine (zO_mk ?_ ?_).trans hz
      · first | with_reducible rfl | (exact zuas_eq _ [(65, _), (66, _), (82, _), (83, _), (85, _), (65, _)] [(65, _), (66, _), (82, _), (83, _), (85, _)] [65, 66, 82, 83, 85] rfl rfl ⟨rfl, rfl, rfl, rfl, rfl, trivial⟩)
      · first | with_reducible rfl | (exact zufs_eq _ [(64, 34, _)] [(64, 34, _)] [(64, 34)] rfl rfl ⟨rfl, trivial⟩)
  · refine zb_el h (fun hb h => zT_t hb ?_) (fun hb h => zT_f hb ?_)
    · refine zl_el h (fun h => zT_l ?_)
      refine zb_el h (fun hb h => zT_t hb ?_) (fun hb h => zT_f hb ?_)
      · refine zl_el h (fun h => zT_l ?_)
        have hz := zsi h hq
        refine (zO_mk ?_ ?_).trans hz
        · first | with_reducible rfl | (exact zuas_eq _ [(65, _), (66, _), (82, _), (83, _), (85, _), (65, _)] [(65, _), (66, _), (82, _), (83, _), (85, _)] [65, 66, 82, 83, 85] rfl rfl ⟨rfl, rfl, rfl, rfl, rfl, trivial⟩)
        · first | with_reducible rfl | (exact zufs_eq _ [(64, 34, _)] [(64, 34, _)] [(64, 34)] rfl rfl ⟨rfl, trivial⟩)
      · refine zl_el h (fun h => zT_l ?_)
        have hz := zsi h hq
        refine (zO_mk ?_ ?_).trans hz
        · first | with_reducible rfl | (exact zuas_eq _ [(65, _), (66, _), (82, _), (83, _), (85, _), (65, _)] [(65, _), (66, _), (82, _), (83, _), (85, _)] [65, 66, 82, 83, 85] rfl rfl ⟨rfl, rfl, rfl, rfl, rfl, trivial⟩)
        · first | with_reducible rfl | (exact zufs_eq _ [(64, 34, _)] [(64, 34, _)] [(64, 34)] rfl rfl ⟨rfl, trivial⟩)
    · refine zg_el h (fun hg h => zT_g hg ?_)
      refine zb_el h (fun hb h => zT_t hb ?_) (fun hb h => zT_f hb ?_)
      · refine zl_el h (fun h => zT_l ?_)
        refine zb_el h (fun hb h => zT_t hb ?_) (fun hb h => zT_f hb ?_)
        · refine zl_el h (fun h => zT_l ?_)
          have hz := zsi h hq
          refine (zO_mk ?_ ?_).trans hz
          · first | with_reducible rfl | (exact zuas_eq _ [(65, _), (66, _), (82, _), (83, _), (85, _), (65, _)] [(65, _), (66, _), (82, _), (83, _), (85, _)] [65, 66, 82, 83, 85] rfl rfl ⟨rfl, rfl, rfl, rfl, rfl, trivial⟩)
          · first | with_reducible rfl | (exact zufs_eq _ [(64, 34, _)] [(64, 34, _)] [(64, 34)] rfl rfl ⟨rfl, trivial⟩)
        · refine zl_el h (fun h => zT_l ?_)
          have hz := zsi h hq
          refine (zO_mk ?_ ?_).trans hz
          · first | with_reducible rfl | (exact zuas_eq _ [(65, _), (66, _), (82, _), (83, _), (85, _), (65, _)] [(65, _), (66, _), (82, _), (83, _), (85, _)] [65, 66, 82, 83, 85] rfl rfl ⟨rfl, rfl, rfl, rfl, rfl, trivial⟩)
          · first | with_reducible rfl | (exact zufs_eq _ [(64, 34, _)] [(64, 34, _)] [(64, 34)] rfl rfl ⟨rfl, trivial⟩)
      · refine zbd_el h (fun v13 hv h => zT_c hv ?_)
        have hz := zsi h hq
        refine zR2_hp ?_ ?_ hz
        · first | with_reducible rfl | (exact zuas_eq _ [(65, _), (66, _), (82, _), (83, _), (85, _), (65, _), (82, _), (83, _), (85, _)] [(65, _), (66, _), (82, _), (83, _), (85, _)] [65, 66, 82, 83, 85] rfl rfl ⟨rfl, rfl, rfl, rfl, rfl, trivial⟩)
        · first | with_reducible rfl | (exact zufs_eq _ [(64, 34, _), (64, 34, _)] [(64, 34, _)] [(64, 34)] rfl rfl ⟨rfl, trivial⟩)
set_option maxRecDepth 20000 in
theorem t_md_over {X : Nat × (Nat → Int32)} {ar fi : Nat → Nat → Int32} {m1 m2 m3 m4 m5 : Nat} {x : Int32} {W_md_in : Int32 → Int32 → Int32 → Int32} {A0_md_copies : (Nat → Int32) → (Nat → Int32) → Nat → Int32} {W_md_faring : Int32 → (Nat → Int32) → Int32} {Q_md_minuteGoes : (Nat → Int32) → (Nat → Int32) → (Nat → Int32) → (Nat → Int32) → (Nat → Int32) → (Nat → Int32) → (Nat → Int32) → (Nat → Int32) → (Nat → Int32) → (Nat → Int32) → Int32 → Int32 → Option ((Nat → Int32) × (Nat → Int32) × (Nat → Int32) × (Nat → Int32) × Int32)} : zseg X zFT (zEx 143 (P_md_in W_md_in) (zEx 148 (P_md_copies A0_md_copies) (zEx 207 (P_md_faring W_md_faring) (zEx 205 (P_md_minuteGoes Q_md_minuteGoes) zE0)))) zc_216 (fun p => Nat.beq p 25) 400 0 [.ref 64, .int x] [] (ar, fi, (m1, m2, m3, m4, m5)) = (
  zl (W_md_in x 1 100) (fun v1 =>
  bif !decide (v1 = 0) then
   zl (A0_md_copies (ar 65) (ar 66)) (fun v2 =>
   some (.inl (25, [.ref 64, .int x, .int 0], [], ((zua ar 66 v2), fi, (m1, m2, m3, m4, m5)))))
  else
   some (.inr (some (.int (-1)), (ar, fi, (m1, m2, m3, m4, m5))))) : Option ((Nat × List Value × List Value × zH2) ⊕ zO2)) := rfl
theorem e_md_over {X : Nat × (Nat → Int32)} {ar fi : Nat → Nat → Int32} {m1 m2 m3 m4 m5 : Nat} {x : Int32} {o : zO2} : ∀ (q : T_md_over), q_md_over x (ar 65) (ar 66) (ar 68) (ar 77) (ar 78) (ar 79) (ar 80) (ar 81) (ar 82) (ar 83) (ar 85) (fi 64 15) (fi 64 34) = some q → (fun t => O_md_over ar fi m1 m2 m3 m4 m5 t = o) q → zR2 X zFT (zEx 143 S_md_in (zEx 148 S_md_copies (zEx 207 S_md_faring (zEx 205 S_md_minuteGoes zE0)))) zc_216 0 [.ref 64, .int x] [] (ar, fi, (m1, m2, m3, m4, m5)) o := by
  intro q h hq
  unfold q_md_over at h
  refine zT_seg t_md_over ?_
  refine zl_el h (fun h => zT_l ?_)
  refine zb_el h (fun hb h => zT_t hb ?_) (fun hb h => zT_f hb ?_)
  · refine zl_el h (fun h => zT_l ?_)
    refine zR2_hp ?_ ?_ (zlp_K k_md_over_25 h hq)
    · first | with_reducible rfl | (exact zuas_eq _ [(66, _)] [(65, _), (66, _), (82, _), (83, _), (85, _)] [65, 66, 82, 83, 85] rfl rfl ⟨rfl, rfl, rfl, rfl, rfl, trivial⟩)
    · first | with_reducible rfl | (exact zufs_eq _ [] [(64, 34, _)] [(64, 34)] rfl rfl ⟨rfl, trivial⟩)
  · have hz := zsi h hq
    refine (zO_mk ?_ ?_).trans hz
    · first | with_reducible rfl | (exact zuas_eq _ [] [(65, _), (66, _), (82, _), (83, _), (85, _)] [65, 66, 82, 83, 85] rfl rfl ⟨rfl, rfl, rfl, rfl, rfl, trivial⟩)
    · first | with_reducible rfl | (exact zufs_eq _ [] [(64, 34, _)] [(64, 34)] rfl rfl ⟨rfl, trivial⟩)
theorem ok_md_over (X : Nat × (Nat → Int32)) : zOkS X 216 S_md_over 9 := zOkS_new (zOkE_cons (ok_md_in X) (by decide) (zOkE_cons (ok_md_copies X) (by decide) (zOkE_cons (ok_md_faring X) (by decide) (zOkE_cons (ok_md_minuteGoes X) (by decide) (zOkE_nil X 8))))) (by
  intro args g o h
  obtain ⟨ar, fi, m1, m2, m3, m4, m5⟩ := g
  unfold S_md_over P_md_over at h
  split at h
  · refine zb_el h (fun hI0 k0 => ?_) (fun _ h10 => ?_)
    · try simp only [Bool.and_eq_true] at hI0
      have j0 := hI0
      have e0 := Nat.eq_of_beq_eq_true j0
      subst e0
      exact zpe_el k0 (fun t ht ho => e_md_over t ht ho)
    · cases h10
  · cases h)
abbrev T_md_laysFire : Type := (Nat → Int32) × (Nat → Int32)
abbrev U_md_laysFire_12 : Type := Int32 × Int32 × (Nat → Int32) × (Nat → Int32)
abbrev U_md_laysFire_4 : Type := Int32 × Int32 × (Nat → Int32) × (Nat → Int32)
def b_md_laysFire_12 (a68 : Nat → Int32) (l3 : Int32) (l2 : Int32) (l4 : Int32) (b86 : Nat → Int32) (b87 : Nat → Int32) : Option (U_md_laysFire_12 ⊕ (U_md_laysFire_4 ⊕ T_md_laysFire)) :=
  bif decide (4 ≤ l4) then
   some (.inr (.inl (l2, l3 + 1, b86, b87)))
  else
   zg (zin l3 192) (
   zl (w_md_beside (b87 (l3.toNatClampNeg)) l4) (fun v1 =>
   zg (g_md_isWood v1 a68) (
   zl (w_md_isWood v1 a68) (fun v2 =>
   bif decide (v2 = 0) then
    some (.inl (l2, l4 + 1, b86, b87))
   else
    zg (zin v1 96) (
    bif decide (b86 (v1.toNatClampNeg) = (-1)) then
     zg (zin l3 192) (
     zg (zin (b87 (l3.toNatClampNeg)) 96) (
     zg (zin v1 96) (
     zg (zin l2 192) (
     some (.inl (l2 + 1, l4 + 1, (zup b86 (v1.toNatClampNeg) ((b86 ((b87 (l3.toNatClampNeg)).toNatClampNeg)) + 1)), (zup b87 (l2.toNatClampNeg) v1)))))))
    else
     some (.inl (l2, l4 + 1, b86, b87)))))))
def f_md_laysFire_12 (a68 : Nat → Int32) (l3 : Int32) : U_md_laysFire_12 → Option (U_md_laysFire_12 ⊕ (U_md_laysFire_4 ⊕ T_md_laysFire)) := fun s => b_md_laysFire_12 a68 l3 s.1 s.2.1 s.2.2.1 s.2.2.2
noncomputable def l_md_laysFire_12 (a68 : Nat → Int32) (l3 : Int32) (l2 : Int32) (l4 : Int32) (b86 : Nat → Int32) (b87 : Nat → Int32) : Option (U_md_laysFire_4 ⊕ T_md_laysFire) := zlp (f_md_laysFire_12 a68 l3) (l2, l4, b86, b87)
noncomputable def b_md_laysFire_4 (a68 : Nat → Int32) (l2 : Int32) (l3 : Int32) (b86 : Nat → Int32) (b87 : Nat → Int32) : Option (U_md_laysFire_4 ⊕ T_md_laysFire) :=
  bif decide (l2 ≤ l3) then
   some (.inr (b86, b87))
  else
   l_md_laysFire_12 a68 l3 l2 0 b86 b87
noncomputable def f_md_laysFire_4 (a68 : Nat → Int32) : U_md_laysFire_4 → Option (U_md_laysFire_4 ⊕ T_md_laysFire) := fun s => b_md_laysFire_4 a68 s.1 s.2.1 s.2.2.1 s.2.2.2
noncomputable def l_md_laysFire_4 (a68 : Nat → Int32) (l2 : Int32) (l3 : Int32) (b86 : Nat → Int32) (b87 : Nat → Int32) : Option T_md_laysFire := zlp (f_md_laysFire_4 a68) (l2, l3, b86, b87)
noncomputable def q_md_laysFire (x : Int32) (a68 : Nat → Int32) (a86 : Nat → Int32) (a87 : Nat → Int32) : Option T_md_laysFire :=
  l_md_laysFire_4 a68 x 0 a86 a87
def P_md_laysFire (Q : Int32 → (Nat → Int32) → (Nat → Int32) → (Nat → Int32) → Option ((Nat → Int32) × (Nat → Int32))) : zSp := fun as g => match as with
  | [.ref a, .int x] => bif Nat.beq a 64 then zpe (Q x (g.1 68) (g.1 86) (g.1 87)) (fun t => (none, ((zua (zua g.1 86 t.1) 87 t.2), g.2.1, g.2.2))) else none
  | _ => none
noncomputable abbrev S_md_laysFire : zSp := P_md_laysFire q_md_laysFire
def O_md_laysFire (ar fi : Nat → Nat → Int32) (m1 : Nat) (m2 : Nat) (m3 : Nat) (m4 : Nat) (m5 : Nat) (t : T_md_laysFire) : zO2 := (none, ((zua (zua ar 86 t.1) 87 t.2), fi, (m1, m2, m3, m4, m5)))
def M_md_laysFire_12 (X : Nat × (Nat → Int32)) (E : zTE) (ar fi : Nat → Nat → Int32) (m1 : Nat) (m2 : Nat) (m3 : Nat) (m4 : Nat) (m5 : Nat) (x : Int32) (l3 : Int32) (o : zO2) (s : U_md_laysFire_12) : Prop := zR2 X zFT E zc_217 12 [.ref 64, .int x, .int s.1, .int l3, .int s.2.1] [] ((zua (zua ar 86 s.2.2.1) 87 s.2.2.2), fi, (m1, m2, m3, m4, m5)) o
def M_md_laysFire_4 (X : Nat × (Nat → Int32)) (E : zTE) (ar fi : Nat → Nat → Int32) (m1 : Nat) (m2 : Nat) (m3 : Nat) (m4 : Nat) (m5 : Nat) (x : Int32) (o : zO2) (s : U_md_laysFire_4) : Prop := zR2 X zFT E zc_217 4 [.ref 64, .int x, .int s.1, .int s.2.1] [] ((zua (zua ar 86 s.2.2.1) 87 s.2.2.2), fi, (m1, m2, m3, m4, m5)) o
set_option maxRecDepth 20000 in
theorem t12_md_laysFire {X : Nat × (Nat → Int32)} {ar fi : Nat → Nat → Int32} {m1 m2 m3 m4 m5 : Nat} {x : Int32} {l2 : Int32} {l3 : Int32} {l4 : Int32} {b86 : Nat → Int32} {b87 : Nat → Int32} {W_md_beside : Int32 → Int32 → Int32} {G_md_isWood : Int32 → (Nat → Int32) → Bool} {W_md_isWood : Int32 → (Nat → Int32) → Int32} : zseg X zFT (zEx 151 (P_md_beside W_md_beside) (zEx 152 (P_md_isWood G_md_isWood W_md_isWood) zE0)) zc_217 (fun p => Nat.beq p 12 || Nat.beq p 4) 400 12 [.ref 64, .int x, .int l2, .int l3, .int l4] [] ((zua (zua ar 86 b86) 87 b87), fi, (m1, m2, m3, m4, m5)) = (
  bif decide (4 ≤ l4) then
   some (.inl (4, [.ref 64, .int x, .int l2, .int (l3 + 1)], [], ((zua (zua ar 86 b86) 87 b87), fi, (m1, m2, m3, m4, m5))))
  else
   zg (zin l3 192) (
   zl (W_md_beside (b87 (l3.toNatClampNeg)) l4) (fun v1 =>
   zg (G_md_isWood v1 (ar 68)) (
   zl (W_md_isWood v1 (ar 68)) (fun v2 =>
   bif decide (v2 = 0) then
    some (.inl (12, [.ref 64, .int x, .int l2, .int l3, .int (l4 + 1)], [], ((zua (zua ar 86 b86) 87 b87), fi, (m1, m2, m3, m4, m5))))
   else
    zg (zin v1 96) (
    bif decide (b86 (v1.toNatClampNeg) = (-1)) then
     zg (zin l3 192) (
     zg (zin (b87 (l3.toNatClampNeg)) 96) (
     zg (zin v1 96) (
     zg (zin l2 192) (
     some (.inl (12, [.ref 64, .int x, .int (l2 + 1), .int l3, .int (l4 + 1)], [], ((zua (zua (zua (zua ar 86 b86) 87 b87) 86 (zup b86 (v1.toNatClampNeg) ((b86 ((b87 (l3.toNatClampNeg)).toNatClampNeg)) + 1))) 87 (zup b87 (l2.toNatClampNeg) v1)), fi, (m1, m2, m3, m4, m5))))))))
    else
     some (.inl (12, [.ref 64, .int x, .int l2, .int l3, .int (l4 + 1)], [], ((zua (zua ar 86 b86) 87 b87), fi, (m1, m2, m3, m4, m5))))))))) : Option ((Nat × List Value × List Value × zH2) ⊕ zO2)) := rfl
theorem k_md_laysFire_12 {X : Nat × (Nat → Int32)} {ar fi : Nat → Nat → Int32} {m1 m2 m3 m4 m5 : Nat} {x : Int32} {l3 : Int32} {o : zO2} : ∀ (s : U_md_laysFire_12) (q : U_md_laysFire_12 ⊕ (U_md_laysFire_4 ⊕ T_md_laysFire)), f_md_laysFire_12 (ar 68) l3 s = some q → zq (M_md_laysFire_12 X (zEx 151 S_md_beside (zEx 152 S_md_isWood zE0)) ar fi m1 m2 m3 m4 m5 x l3 o) (zq (M_md_laysFire_4 X (zEx 151 S_md_beside (zEx 152 S_md_isWood zE0)) ar fi m1 m2 m3 m4 m5 x o) (fun t => O_md_laysFire ar fi m1 m2 m3 m4 m5 t = o)) q → M_md_laysFire_12 X (zEx 151 S_md_beside (zEx 152 S_md_isWood zE0)) ar fi m1 m2 m3 m4 m5 x l3 o s := by
  intro s q h hq
  obtain ⟨l2, l4, b86, b87⟩ := s
  have h : b_md_laysFire_12 (ar 68) l3 l2 l4 b86 b87 = some q := h
  unfold b_md_laysFire_12 at h
  show zR2 X zFT (zEx 151 S_md_beside (zEx 152 S_md_isWood zE0)) zc_217 12 [.ref 64, .int x, .int l2, .int l3, .int l4] [] ((zua (zua ar 86 b86) 87 b87), fi, (m1, m2, m3, m4, m5)) o
  refine zT_seg t12_md_laysFire ?_
  refine zb_el h (fun hb h => zT_t hb ?_) (fun hb h => zT_f hb ?_)
  · have hz := zsi h hq
    refine zR2_hp ?_ ?_ hz
    · first | with_reducible rfl | (exact zuas_eq _ [(86, _), (87, _)] [(86, _), (87, _)] [86, 87] rfl rfl ⟨rfl, rfl, trivial⟩)
    · first | with_reducible rfl | (rfl)
  · refine zg_el h (fun hg h => zT_g hg ?_)
    refine zl_el h (fun h => zT_l ?_)
    refine zg_el h (fun hg h => zT_g hg ?_)
    refine zl_el h (fun h => zT_l ?_)
    refine zb_el h (fun hb h => zT_t hb ?_) (fun hb h => zT_f hb ?_)
    · have hz := zsi h hq
      refine zR2_hp ?_ ?_ hz
      · first | with_reducible rfl | (exact zuas_eq _ [(86, _), (87, _)] [(86, _), (87, _)] [86, 87] rfl rfl ⟨rfl, rfl, trivial⟩)
      · first | with_reducible rfl | (rfl)
    · refine zg_el h (fun hg h => zT_g hg ?_)
      refine zb_el h (fun hb h => zT_t hb ?_) (fun hb h => zT_f hb ?_)
      · refine zg_el h (fun hg h => zT_g hg ?_)
        refine zg_el h (fun hg h => zT_g hg ?_)
        refine zg_el h (fun hg h => zT_g hg ?_)
        refine zg_el h (fun hg h => zT_g hg ?_)
        have hz := zsi h hq
        refine zR2_hp ?_ ?_ hz
        · first | with_reducible rfl | (exact zuas_eq _ [(86, _), (87, _), (86, _), (87, _)] [(86, _), (87, _)] [86, 87] rfl rfl ⟨rfl, rfl, trivial⟩)
        · first | with_reducible rfl | (rfl)
      · have hz := zsi h hq
        refine zR2_hp ?_ ?_ hz
        · first | with_reducible rfl | (exact zuas_eq _ [(86, _), (87, _)] [(86, _), (87, _)] [86, 87] rfl rfl ⟨rfl, rfl, trivial⟩)
        · first | with_reducible rfl | (rfl)
set_option maxRecDepth 20000 in
theorem t4_md_laysFire {X : Nat × (Nat → Int32)} {ar fi : Nat → Nat → Int32} {m1 m2 m3 m4 m5 : Nat} {x : Int32} {l2 : Int32} {l3 : Int32} {b86 : Nat → Int32} {b87 : Nat → Int32} {W_md_beside : Int32 → Int32 → Int32} {G_md_isWood : Int32 → (Nat → Int32) → Bool} {W_md_isWood : Int32 → (Nat → Int32) → Int32} : zseg X zFT (zEx 151 (P_md_beside W_md_beside) (zEx 152 (P_md_isWood G_md_isWood W_md_isWood) zE0)) zc_217 (fun p => Nat.beq p 12 || Nat.beq p 4) 400 4 [.ref 64, .int x, .int l2, .int l3] [] ((zua (zua ar 86 b86) 87 b87), fi, (m1, m2, m3, m4, m5)) = (
  bif decide (l2 ≤ l3) then
   some (.inr (none, ((zua (zua ar 86 b86) 87 b87), fi, (m1, m2, m3, m4, m5))))
  else
   some (.inl (12, [.ref 64, .int x, .int l2, .int l3, .int 0], [], ((zua (zua ar 86 b86) 87 b87), fi, (m1, m2, m3, m4, m5)))) : Option ((Nat × List Value × List Value × zH2) ⊕ zO2)) := rfl
theorem k_md_laysFire_4 {X : Nat × (Nat → Int32)} {ar fi : Nat → Nat → Int32} {m1 m2 m3 m4 m5 : Nat} {x : Int32} {o : zO2} : ∀ (s : U_md_laysFire_4) (q : U_md_laysFire_4 ⊕ T_md_laysFire), f_md_laysFire_4 (ar 68) s = some q → zq (M_md_laysFire_4 X (zEx 151 S_md_beside (zEx 152 S_md_isWood zE0)) ar fi m1 m2 m3 m4 m5 x o) (fun t => O_md_laysFire ar fi m1 m2 m3 m4 m5 t = o) q → M_md_laysFire_4 X (zEx 151 S_md_beside (zEx 152 S_md_isWood zE0)) ar fi m1 m2 m3 m4 m5 x o s := by
  intro s q h hq
  obtain ⟨l2, l3, b86, b87⟩ := s
  have h : b_md_laysFire_4 (ar 68) l2 l3 b86 b87 = some q := h
  unfold b_md_laysFire_4 at h
  show zR2 X zFT (zEx 151 S_md_beside (zEx 152 S_md_isWood zE0)) zc_217 4 [.ref 64, .int x, .int l2, .int l3] [] ((zua (zua ar 86 b86) 87 b87), fi, (m1, m2, m3, m4, m5)) o
  refine zT_seg t4_md_laysFire ?_
  refine zb_el h (fun hb h => zT_t hb ?_) (fun hb h => zT_f hb ?_)
  · have hz := zsi h hq
    refine (zO_mk ?_ ?_).trans hz
    · first | with_reducible rfl | (exact zuas_eq _ [(86, _), (87, _)] [(86, _), (87, _)] [86, 87] rfl rfl ⟨rfl, rfl, trivial⟩)
    · first | with_reducible rfl | (rfl)
  · refine zR2_hp ?_ ?_ (zlp_K k_md_laysFire_12 h hq)
    · first | with_reducible rfl | (exact zuas_eq _ [(86, _), (87, _)] [(86, _), (87, _)] [86, 87] rfl rfl ⟨rfl, rfl, trivial⟩)
    · first | with_reducible rfl | (rfl)
set_option maxRecDepth 20000 in
theorem t_md_laysFire {X : Nat × (Nat → Int32)} {ar fi : Nat → Nat → Int32} {m1 m2 m3 m4 m5 : Nat} {x : Int32} {W_md_beside : Int32 → Int32 → Int32} {G_md_isWood : Int32 → (Nat → Int32) → Bool} {W_md_isWood : Int32 → (Nat → Int32) → Int32} : zseg X zFT (zEx 151 (P_md_beside W_md_beside) (zEx 152 (P_md_isWood G_md_isWood W_md_isWood) zE0)) zc_217 (fun p => Nat.beq p 12 || Nat.beq p 4) 400 0 [.ref 64, .int x] [] (ar, fi, (m1, m2, m3, m4, m5)) = (
  some (.inl (4, [.ref 64, .int x, .int x, .int 0], [], (ar, fi, (m1, m2, m3, m4, m5)))) : Option ((Nat × List Value × List Value × zH2) ⊕ zO2)) := rfl
theorem e_md_laysFire {X : Nat × (Nat → Int32)} {ar fi : Nat → Nat → Int32} {m1 m2 m3 m4 m5 : Nat} {x : Int32} {o : zO2} : ∀ (q : T_md_laysFire), q_md_laysFire x (ar 68) (ar 86) (ar 87) = some q → (fun t => O_md_laysFire ar fi m1 m2 m3 m4 m5 t = o) q → zR2 X zFT (zEx 151 S_md_beside (zEx 152 S_md_isWood zE0)) zc_217 0 [.ref 64, .int x] [] (ar, fi, (m1, m2, m3, m4, m5)) o := by
  intro q h hq
  unfold q_md_laysFire at h
  refine zT_seg t_md_laysFire ?_
  refine zR2_hp ?_ ?_ (zlp_K k_md_laysFire_4 h hq)
  · first | with_reducible rfl | (exact zuas_eq _ [] [(86, _), (87, _)] [86, 87] rfl rfl ⟨rfl, rfl, trivial⟩)
  · first | with_reducible rfl | (rfl)
theorem ok_md_laysFire (X : Nat × (Nat → Int32)) : zOkS X 217 S_md_laysFire 4 := zOkS_new (zOkE_cons (ok_md_beside X) (by decide) (zOkE_cons (ok_md_isWood X) (by decide) (zOkE_nil X 3))) (by
  intro args g o h
  obtain ⟨ar, fi, m1, m2, m3, m4, m5⟩ := g
  unfold S_md_laysFire P_md_laysFire at h
  split at h
  · refine zb_el h (fun hI0 k0 => ?_) (fun _ h10 => ?_)
    · try simp only [Bool.and_eq_true] at hI0
      have j0 := hI0
      have e0 := Nat.eq_of_beq_eq_true j0
      subst e0
      exact zpe_el k0 (fun t ht ho => e_md_laysFire t ht ho)
    · cases h10
  · cases h)
abbrev T_md_laysFireFrom : Type := (Nat → Int32) × (Nat → Int32)
noncomputable def q_md_laysFireFrom (x : Int32) (a68 : Nat → Int32) (a86 : Nat → Int32) (a87 : Nat → Int32) : Option T_md_laysFireFrom :=
  zl (a0_md_clearsFire a86) (fun v1 =>
  zg (zin x 96) (
  zg (zin 0 192) (
  zbd (q_md_laysFire 1 a68 (zup v1 (x.toNatClampNeg) 0) (zup a87 ((0 : Int32).toNatClampNeg) x)) (fun v2 =>
  some (((v2.1)), ((v2.2)))))))
def P_md_laysFireFrom (Q : Int32 → (Nat → Int32) → (Nat → Int32) → (Nat → Int32) → Option ((Nat → Int32) × (Nat → Int32))) : zSp := fun as g => match as with
  | [.ref a, .int x] => bif Nat.beq a 64 then zpe (Q x (g.1 68) (g.1 86) (g.1 87)) (fun t => (none, ((zua (zua g.1 86 t.1) 87 t.2), g.2.1, g.2.2))) else none
  | _ => none
noncomputable abbrev S_md_laysFireFrom : zSp := P_md_laysFireFrom q_md_laysFireFrom
def O_md_laysFireFrom (ar fi : Nat → Nat → Int32) (m1 : Nat) (m2 : Nat) (m3 : Nat) (m4 : Nat) (m5 : Nat) (t : T_md_laysFireFrom) : zO2 := (none, ((zua (zua ar 86 t.1) 87 t.2), fi, (m1, m2, m3, m4, m5)))
set_option maxRecDepth 20000 in
theorem t_md_laysFireFrom {X : Nat × (Nat → Int32)} {ar fi : Nat → Nat → Int32} {m1 m2 m3 m4 m5 : Nat} {x : Int32} {A0_md_clearsFire : (Nat → Int32) → Nat → Int32} {Q_md_laysFire : Int32 → (Nat → Int32) → (Nat → Int32) → (Nat → Int32) → Option ((Nat → Int32) × (Nat → Int32))} : zseg X zFT (zEx 218 (P_md_clearsFire A0_md_clearsFire) (zEx 217 (P_md_laysFire Q_md_laysFire) zE0)) zc_219 (fun p => false) 400 0 [.ref 64, .int x] [] (ar, fi, (m1, m2, m3, m4, m5)) = (
  zl (A0_md_clearsFire (ar 86)) (fun v1 =>
  zg (zin x 96) (
  zg (zin 0 192) (
  zl (Q_md_laysFire 1 (ar 68) (zup v1 (x.toNatClampNeg) 0) (zup (ar 87) ((0 : Int32).toNatClampNeg) x)) (fun v2 => zg v2.isSome (
  some (.inr (none, ((zua (zua (zua (zua (zua ar 86 v1) 86 (zup v1 (x.toNatClampNeg) 0)) 87 (zup (ar 87) ((0 : Int32).toNatClampNeg) x)) 86 (((zgt v2).1))) 87 (((zgt v2).2))), fi, (m1, m2, m3, m4, m5))))))))) : Option ((Nat × List Value × List Value × zH2) ⊕ zO2)) := rfl
theorem e_md_laysFireFrom {X : Nat × (Nat → Int32)} {ar fi : Nat → Nat → Int32} {m1 m2 m3 m4 m5 : Nat} {x : Int32} {o : zO2} : ∀ (q : T_md_laysFireFrom), q_md_laysFireFrom x (ar 68) (ar 86) (ar 87) = some q → (fun t => O_md_laysFireFrom ar fi m1 m2 m3 m4 m5 t = o) q → zR2 X zFT (zEx 218 S_md_clearsFire (zEx 217 S_md_laysFire zE0)) zc_219 0 [.ref 64, .int x] [] (ar, fi, (m1, m2, m3, m4, m5)) o := by
  intro q h hq
  unfold q_md_laysFireFrom at h
  refine zT_seg t_md_laysFireFrom ?_
  refine zl_el h (fun h => zT_l ?_)
  refine zg_el h (fun hg h => zT_g hg ?_)
  refine zg_el h (fun hg h => zT_g hg ?_)
  refine zbd_el h (fun v2 hv h => zT_c hv ?_)
  have hz := zsi h hq
  refine (zO_mk ?_ ?_).trans hz
  · first | with_reducible rfl | (exact zuas_eq _ [(86, _), (86, _), (87, _), (86, _), (87, _)] [(86, _), (87, _)] [86, 87] rfl rfl ⟨rfl, rfl, trivial⟩)
  · first | with_reducible rfl | (rfl)
theorem ok_md_laysFireFrom (X : Nat × (Nat → Int32)) : zOkS X 219 S_md_laysFireFrom 5 := zOkS_new (zOkE_cons (ok_md_clearsFire X) (by decide) (zOkE_cons (ok_md_laysFire X) (by decide) (zOkE_nil X 4))) (by
  intro args g o h
  obtain ⟨ar, fi, m1, m2, m3, m4, m5⟩ := g
  unfold S_md_laysFireFrom P_md_laysFireFrom at h
  split at h
  · refine zb_el h (fun hI0 k0 => ?_) (fun _ h10 => ?_)
    · try simp only [Bool.and_eq_true] at hI0
      have j0 := hI0
      have e0 := Nat.eq_of_beq_eq_true j0
      subst e0
      exact zpe_el k0 (fun t ht ho => e_md_laysFireFrom t ht ho)
    · cases h10
  · cases h)
abbrev T_md_laysFireNow : Type := (Nat → Int32) × (Nat → Int32)
abbrev U_md_laysFireNow_8 : Type := Int32 × Int32 × (Nat → Int32) × (Nat → Int32)
noncomputable def b_md_laysFireNow_8 (a65 : Nat → Int32) (a68 : Nat → Int32) (l1 : Int32) (l2 : Int32) (b86 : Nat → Int32) (b87 : Nat → Int32) : Option (U_md_laysFireNow_8 ⊕ T_md_laysFireNow) :=
  bif decide (96 ≤ l2) then
   zbd (q_md_laysFire l1 a68 b86 b87) (fun v2 =>
   some (.inr (((v2.1)), ((v2.2)))))
  else
   zg (zin (0 + l2) 315) (
   bif decide (a65 ((0 + l2).toNatClampNeg) = 1) then
    zg (zin l2 96) (
    zg (zin l1 192) (
    some (.inl (l1 + 1, l2 + 1, (zup b86 (l2.toNatClampNeg) 0), (zup b87 (l1.toNatClampNeg) l2)))))
   else
    some (.inl (l1, l2 + 1, b86, b87)))
noncomputable def f_md_laysFireNow_8 (a65 : Nat → Int32) (a68 : Nat → Int32) : U_md_laysFireNow_8 → Option (U_md_laysFireNow_8 ⊕ T_md_laysFireNow) := fun s => b_md_laysFireNow_8 a65 a68 s.1 s.2.1 s.2.2.1 s.2.2.2
noncomputable def l_md_laysFireNow_8 (a65 : Nat → Int32) (a68 : Nat → Int32) (l1 : Int32) (l2 : Int32) (b86 : Nat → Int32) (b87 : Nat → Int32) : Option T_md_laysFireNow := zlp (f_md_laysFireNow_8 a65 a68) (l1, l2, b86, b87)
noncomputable def q_md_laysFireNow (a65 : Nat → Int32) (a68 : Nat → Int32) (a86 : Nat → Int32) (a87 : Nat → Int32) : Option T_md_laysFireNow :=
  zl (a0_md_clearsFire a86) (fun v1 =>
  l_md_laysFireNow_8 a65 a68 0 0 v1 a87)
def P_md_laysFireNow (Q : (Nat → Int32) → (Nat → Int32) → (Nat → Int32) → (Nat → Int32) → Option ((Nat → Int32) × (Nat → Int32))) : zSp := fun as g => match as with
  | [.ref a] => bif Nat.beq a 64 then zpe (Q (g.1 65) (g.1 68) (g.1 86) (g.1 87)) (fun t => (none, ((zua (zua g.1 86 t.1) 87 t.2), g.2.1, g.2.2))) else none
  | _ => none
noncomputable abbrev S_md_laysFireNow : zSp := P_md_laysFireNow q_md_laysFireNow
def O_md_laysFireNow (ar fi : Nat → Nat → Int32) (m1 : Nat) (m2 : Nat) (m3 : Nat) (m4 : Nat) (m5 : Nat) (t : T_md_laysFireNow) : zO2 := (none, ((zua (zua ar 86 t.1) 87 t.2), fi, (m1, m2, m3, m4, m5)))
def M_md_laysFireNow_8 (X : Nat × (Nat → Int32)) (E : zTE) (ar fi : Nat → Nat → Int32) (m1 : Nat) (m2 : Nat) (m3 : Nat) (m4 : Nat) (m5 : Nat) (o : zO2) (s : U_md_laysFireNow_8) : Prop := zR2 X zFT E zc_220 8 [.ref 64, .int s.1, .int s.2.1] [] ((zua (zua ar 86 s.2.2.1) 87 s.2.2.2), fi, (m1, m2, m3, m4, m5)) o
set_option maxRecDepth 20000 in
theorem t8_md_laysFireNow {X : Nat × (Nat → Int32)} {ar fi : Nat → Nat → Int32} {m1 m2 m3 m4 m5 : Nat} {l1 : Int32} {l2 : Int32} {b86 : Nat → Int32} {b87 : Nat → Int32} {A0_md_clearsFire : (Nat → Int32) → Nat → Int32} {Q_md_laysFire : Int32 → (Nat → Int32) → (Nat → Int32) → (Nat → Int32) → Option ((Nat → Int32) × (Nat → Int32))} : zseg X zFT (zEx 218 (P_md_clearsFire A0_md_clearsFire) (zEx 217 (P_md_laysFire Q_md_laysFire) zE0)) zc_220 (fun p => Nat.beq p 8) 400 8 [.ref 64, .int l1, .int l2] [] ((zua (zua ar 86 b86) 87 b87), fi, (m1, m2, m3, m4, m5)) = (
  bif decide (96 ≤ l2) then
   zl (Q_md_laysFire l1 (ar 68) b86 b87) (fun v2 => zg v2.isSome (
   some (.inr (none, ((zua (zua (zua (zua ar 86 b86) 87 b87) 86 (((zgt v2).1))) 87 (((zgt v2).2))), fi, (m1, m2, m3, m4, m5))))))
  else
   zg (zin (0 + l2) 315) (
   bif decide ((ar 65) ((0 + l2).toNatClampNeg) = 1) then
    zg (zin l2 96) (
    zg (zin l1 192) (
    some (.inl (8, [.ref 64, .int (l1 + 1), .int (l2 + 1)], [], ((zua (zua (zua (zua ar 86 b86) 87 b87) 86 (zup b86 (l2.toNatClampNeg) 0)) 87 (zup b87 (l1.toNatClampNeg) l2)), fi, (m1, m2, m3, m4, m5))))))
   else
    some (.inl (8, [.ref 64, .int l1, .int (l2 + 1)], [], ((zua (zua ar 86 b86) 87 b87), fi, (m1, m2, m3, m4, m5))))) : Option ((Nat × List Value × List Value × zH2) ⊕ zO2)) := rfl
theorem k_md_laysFireNow_8 {X : Nat × (Nat → Int32)} {ar fi : Nat → Nat → Int32} {m1 m2 m3 m4 m5 : Nat} {o : zO2} : ∀ (s : U_md_laysFireNow_8) (q : U_md_laysFireNow_8 ⊕ T_md_laysFireNow), f_md_laysFireNow_8 (ar 65) (ar 68) s = some q → zq (M_md_laysFireNow_8 X (zEx 218 S_md_clearsFire (zEx 217 S_md_laysFire zE0)) ar fi m1 m2 m3 m4 m5 o) (fun t => O_md_laysFireNow ar fi m1 m2 m3 m4 m5 t = o) q → M_md_laysFireNow_8 X (zEx 218 S_md_clearsFire (zEx 217 S_md_laysFire zE0)) ar fi m1 m2 m3 m4 m5 o s := by
  intro s q h hq
  obtain ⟨l1, l2, b86, b87⟩ := s
  have h : b_md_laysFireNow_8 (ar 65) (ar 68) l1 l2 b86 b87 = some q := h
  unfold b_md_laysFireNow_8 at h
  show zR2 X zFT (zEx 218 S_md_clearsFire (zEx 217 S_md_laysFire zE0)) zc_220 8 [.ref 64, .int l1, .int l2] [] ((zua (zua ar 86 b86) 87 b87), fi, (m1, m2, m3, m4, m5)) o
  refine zT_seg t8_md_laysFireNow ?_
  refine zb_el h (fun hb h => zT_t hb ?_) (fun hb h => zT_f hb ?_)
  · refine zbd_el h (fun v2 hv h => zT_c hv ?_)
    have hz := zsi h hq
    refine (zO_mk ?_ ?_).trans hz
    · first | with_reducible rfl | (exact zuas_eq _ [(86, _), (87, _), (86, _), (87, _)] [(86, _), (87, _)] [86, 87] rfl rfl ⟨rfl, rfl, trivial⟩)
    · first | with_reducible rfl | (rfl)
  · refine zg_el h (fun hg h => zT_g hg ?_)
    refine zb_el h (fun hb h => zT_t hb ?_) (fun hb h => zT_f hb ?_)
    · refine zg_el h (fun hg h => zT_g hg ?_)
      refine zg_el h (fun hg h => zT_g hg ?_)
      have hz := zsi h hq
      refine zR2_hp ?_ ?_ hz
      · first | with_reducible rfl | (exact zuas_eq _ [(86, _), (87, _), (86, _), (87, _)] [(86, _), (87, _)] [86, 87] rfl rfl ⟨rfl, rfl, trivial⟩)
      · first | with_reducible rfl | (rfl)
    · have hz := zsi h hq
      refine zR2_hp ?_ ?_ hz
      · first | with_reducible rfl | (exact zuas_eq _ [(86, _), (87, _)] [(86, _), (87, _)] [86, 87] rfl rfl ⟨rfl, rfl, trivial⟩)
      · first | with_reducible rfl | (rfl)
set_option maxRecDepth 20000 in
theorem t_md_laysFireNow {X : Nat × (Nat → Int32)} {ar fi : Nat → Nat → Int32} {m1 m2 m3 m4 m5 : Nat} {A0_md_clearsFire : (Nat → Int32) → Nat → Int32} {Q_md_laysFire : Int32 → (Nat → Int32) → (Nat → Int32) → (Nat → Int32) → Option ((Nat → Int32) × (Nat → Int32))} : zseg X zFT (zEx 218 (P_md_clearsFire A0_md_clearsFire) (zEx 217 (P_md_laysFire Q_md_laysFire) zE0)) zc_220 (fun p => Nat.beq p 8) 400 0 [.ref 64] [] (ar, fi, (m1, m2, m3, m4, m5)) = (
  zl (A0_md_clearsFire (ar 86)) (fun v1 =>
  some (.inl (8, [.ref 64, .int 0, .int 0], [], ((zua ar 86 v1), fi, (m1, m2, m3, m4, m5))))) : Option ((Nat × List Value × List Value × zH2) ⊕ zO2)) := rfl
theorem e_md_laysFireNow {X : Nat × (Nat → Int32)} {ar fi : Nat → Nat → Int32} {m1 m2 m3 m4 m5 : Nat} {o : zO2} : ∀ (q : T_md_laysFireNow), q_md_laysFireNow (ar 65) (ar 68) (ar 86) (ar 87) = some q → (fun t => O_md_laysFireNow ar fi m1 m2 m3 m4 m5 t = o) q → zR2 X zFT (zEx 218 S_md_clearsFire (zEx 217 S_md_laysFire zE0)) zc_220 0 [.ref 64] [] (ar, fi, (m1, m2, m3, m4, m5)) o := by
  intro q h hq
  unfold q_md_laysFireNow at h
  refine zT_seg t_md_laysFireNow ?_
  refine zl_el h (fun h => zT_l ?_)
  refine zR2_hp ?_ ?_ (zlp_K k_md_laysFireNow_8 h hq)
  · first | with_reducible rfl | (exact zuas_eq _ [(86, _)] [(86, _), (87, _)] [86, 87] rfl rfl ⟨rfl, rfl, trivial⟩)
  · first | with_reducible rfl | (rfl)
theorem ok_md_laysFireNow (X : Nat × (Nat → Int32)) : zOkS X 220 S_md_laysFireNow 5 := zOkS_new (zOkE_cons (ok_md_clearsFire X) (by decide) (zOkE_cons (ok_md_laysFire X) (by decide) (zOkE_nil X 4))) (by
  intro args g o h
  obtain ⟨ar, fi, m1, m2, m3, m4, m5⟩ := g
  unfold S_md_laysFireNow P_md_laysFireNow at h
  split at h
  · refine zb_el h (fun hI0 k0 => ?_) (fun _ h10 => ?_)
    · try simp only [Bool.and_eq_true] at hI0
      have j0 := hI0
      have e0 := Nat.eq_of_beq_eq_true j0
      subst e0
      exact zpe_el k0 (fun t ht ho => e_md_laysFireNow t ht ho)
    · cases h10
  · cases h)
abbrev T_md_steps : Type := Int32 × (Nat → Int32) × (Nat → Int32)
noncomputable def q_md_steps (x : Int32) (y : Int32) (a68 : Nat → Int32) (a86 : Nat → Int32) (a87 : Nat → Int32) : Option T_md_steps :=
  zg (g_md_isPlace x) (
  zl (w_md_isPlace x) (fun v1 =>
  bif decide (v1 = 0) then
   some ((-1), a86, a87)
  else
   zg (g_md_isPlace y) (
   zl (w_md_isPlace y) (fun v2 =>
   bif !decide (v2 = 0) then
    zg (g_md_isWood x a68) (
    zl (w_md_isWood x a68) (fun v3 =>
    bif decide (v3 = 0) then
     some ((-3), a86, a87)
    else
     zg (g_md_isWood y a68) (
     zl (w_md_isWood y a68) (fun v4 =>
     bif !decide (v4 = 0) then
      zbd (q_md_laysFireFrom x a68 a86 a87) (fun v5 =>
      zg (zin y 96) (
      bif !decide (((v5.1)) (y.toNatClampNeg) = (-1)) then
       zg (zin y 96) (
       some (((v5.1)) (y.toNatClampNeg), ((v5.1)), ((v5.2))))
      else
       some ((-2), ((v5.1)), ((v5.2)))))
     else
      some ((-3), a86, a87)))))
   else
    some ((-1), a86, a87)))))
def P_md_steps (Q : Int32 → Int32 → (Nat → Int32) → (Nat → Int32) → (Nat → Int32) → Option (Int32 × (Nat → Int32) × (Nat → Int32))) : zSp := fun as g => match as with
  | [.ref a, .int x, .int y] => bif Nat.beq a 64 then zpe (Q x y (g.1 68) (g.1 86) (g.1 87)) (fun t => (some (.int (t.1)), ((zua (zua g.1 86 t.2.1) 87 t.2.2), g.2.1, g.2.2))) else none
  | _ => none
noncomputable abbrev S_md_steps : zSp := P_md_steps q_md_steps
def O_md_steps (ar fi : Nat → Nat → Int32) (m1 : Nat) (m2 : Nat) (m3 : Nat) (m4 : Nat) (m5 : Nat) (t : T_md_steps) : zO2 := (some (.int (t.1)), ((zua (zua ar 86 t.2.1) 87 t.2.2), fi, (m1, m2, m3, m4, m5)))
set_option maxRecDepth 20000 in
theorem t_md_steps {X : Nat × (Nat → Int32)} {ar fi : Nat → Nat → Int32} {m1 m2 m3 m4 m5 : Nat} {x y : Int32} {G_md_isPlace : Int32 → Bool} {W_md_isPlace : Int32 → Int32} {G_md_isWood : Int32 → (Nat → Int32) → Bool} {W_md_isWood : Int32 → (Nat → Int32) → Int32} {Q_md_laysFireFrom : Int32 → (Nat → Int32) → (Nat → Int32) → (Nat → Int32) → Option ((Nat → Int32) × (Nat → Int32))} : zseg X zFT (zEx 149 (P_md_isPlace G_md_isPlace W_md_isPlace) (zEx 152 (P_md_isWood G_md_isWood W_md_isWood) (zEx 219 (P_md_laysFireFrom Q_md_laysFireFrom) zE0))) zc_221 (fun p => false) 400 0 [.ref 64, .int x, .int y] [] (ar, fi, (m1, m2, m3, m4, m5)) = (
  zg (G_md_isPlace x) (
  zl (W_md_isPlace x) (fun v1 =>
  bif decide (v1 = 0) then
   some (.inr (some (.int (-1)), (ar, fi, (m1, m2, m3, m4, m5))))
  else
   zg (G_md_isPlace y) (
   zl (W_md_isPlace y) (fun v2 =>
   bif !decide (v2 = 0) then
    zg (G_md_isWood x (ar 68)) (
    zl (W_md_isWood x (ar 68)) (fun v3 =>
    bif decide (v3 = 0) then
     some (.inr (some (.int (-3)), (ar, fi, (m1, m2, m3, m4, m5))))
    else
     zg (G_md_isWood y (ar 68)) (
     zl (W_md_isWood y (ar 68)) (fun v4 =>
     bif !decide (v4 = 0) then
      zl (Q_md_laysFireFrom x (ar 68) (ar 86) (ar 87)) (fun v5 => zg v5.isSome (
      zg (zin y 96) (
      bif !decide ((((zgt v5).1)) (y.toNatClampNeg) = (-1)) then
       zg (zin y 96) (
       some (.inr (some (.int ((((zgt v5).1)) (y.toNatClampNeg))), ((zua (zua ar 86 (((zgt v5).1))) 87 (((zgt v5).2))), fi, (m1, m2, m3, m4, m5)))))
      else
       some (.inr (some (.int (-2)), ((zua (zua ar 86 (((zgt v5).1))) 87 (((zgt v5).2))), fi, (m1, m2, m3, m4, m5)))))))
     else
      some (.inr (some (.int (-3)), (ar, fi, (m1, m2, m3, m4, m5))))))))
   else
    some (.inr (some (.int (-1)), (ar, fi, (m1, m2, m3, m4, m5)))))))) : Option ((Nat × List Value × List Value × zH2) ⊕ zO2)) := rfl
theorem e_md_steps {X : Nat × (Nat → Int32)} {ar fi : Nat → Nat → Int32} {m1 m2 m3 m4 m5 : Nat} {x y : Int32} {o : zO2} : ∀ (q : T_md_steps), q_md_steps x y (ar 68) (ar 86) (ar 87) = some q → (fun t => O_md_steps ar fi m1 m2 m3 m4 m5 t = o) q → zR2 X zFT (zEx 149 S_md_isPlace (zEx 152 S_md_isWood (zEx 219 S_md_laysFireFrom zE0))) zc_221 0 [.ref 64, .int x, .int y] [] (ar, fi, (m1, m2, m3, m4, m5)) o := by
  intro q h hq
  unfold q_md_steps at h
  refine zT_seg t_md_steps ?_
  refine zg_el h (fun hg h => zT_g hg ?_)
  refine zl_el h (fun h => zT_l ?_)
  refine zb_el h (fun hb h => zT_t hb ?_) (fun hb h => zT_f hb ?_)
  · have hz := zsi h hq
    refine (zO_mk ?_ ?_).trans hz
    · first | with_reducible rfl | (exact zuas_eq _ [] [(86, _), (87, _)] [86, 87] rfl rfl ⟨rfl, rfl, trivial⟩)
    · first | with_reducible rfl | (rfl)
  · refine zg_el h (fun hg h => zT_g hg ?_)
    refine zl_el h (fun h => zT_l ?_)
    refine zb_el h (fun hb h => zT_t hb ?_) (fun hb h => zT_f hb ?_)
    · refine zg_el h (fun hg h => zT_g hg ?_)
      refine zl_el h (fun h => zT_l ?_)
      refine zb_el h (fun hb h => zT_t hb ?_) (fun hb h => zT_f hb ?_)
      · have hz := zsi h hq
        refine (zO_mk ?_ ?_).trans hz
        · first | with_reducible rfl | (exact zuas_eq _ [] [(86, _), (87, _)] [86, 87] rfl rfl ⟨rfl, rfl, trivial⟩)
        · first | with_reducible rfl | (rfl)
      · refine zg_el h (fun hg h => zT_g hg ?_)
        refine zl_el h (fun h => zT_l ?_)
        refine zb_el h (fun hb h => zT_t hb ?_) (fun hb h => zT_f hb ?_)
        · refine zbd_el h (fun v5 hv h => zT_c hv ?_)
          refine zg_el h (fun hg h => zT_g hg ?_)
          refine zb_el h (fun hb h => zT_t hb ?_) (fun hb h => zT_f hb ?_)
          · refine zg_el h (fun hg h => zT_g hg ?_)
            have hz := zsi h hq
            refine (zO_mk ?_ ?_).trans hz
            · first | with_reducible rfl | (exact zuas_eq _ [(86, _), (87, _)] [(86, _), (87, _)] [86, 87] rfl rfl ⟨rfl, rfl, trivial⟩)
            · first | with_reducible rfl | (rfl)
          · have hz := zsi h hq
            refine (zO_mk ?_ ?_).trans hz
            · first | with_reducible rfl | (exact zuas_eq _ [(86, _), (87, _)] [(86, _), (87, _)] [86, 87] rfl rfl ⟨rfl, rfl, trivial⟩)
            · first | with_reducible rfl | (rfl)
        · have hz := zsi h hq
          refine (zO_mk ?_ ?_).trans hz
          · first | with_reducible rfl | (exact zuas_eq _ [] [(86, _), (87, _)] [86, 87] rfl rfl ⟨rfl, rfl, trivial⟩)
          · first | with_reducible rfl | (rfl)
    · have hz := zsi h hq
      refine (zO_mk ?_ ?_).trans hz
      · first | with_reducible rfl | (exact zuas_eq _ [] [(86, _), (87, _)] [86, 87] rfl rfl ⟨rfl, rfl, trivial⟩)
      · first | with_reducible rfl | (rfl)
theorem ok_md_steps (X : Nat × (Nat → Int32)) : zOkS X 221 S_md_steps 6 := zOkS_new (zOkE_cons (ok_md_isPlace X) (by decide) (zOkE_cons (ok_md_isWood X) (by decide) (zOkE_cons (ok_md_laysFireFrom X) (by decide) (zOkE_nil X 5)))) (by
  intro args g o h
  obtain ⟨ar, fi, m1, m2, m3, m4, m5⟩ := g
  unfold S_md_steps P_md_steps at h
  split at h
  · refine zb_el h (fun hI0 k0 => ?_) (fun _ h10 => ?_)
    · try simp only [Bool.and_eq_true] at hI0
      have j0 := hI0
      have e0 := Nat.eq_of_beq_eq_true j0
      subst e0
      exact zpe_el k0 (fun t ht ho => e_md_steps t ht ho)
    · cases h10
  · cases h)
abbrev T_md_couldBegin : Type := Int32 × (Nat → Int32) × (Nat → Int32)
abbrev U_md_couldBegin_7 : Type := Int32
def b_md_couldBegin_7 (y : Int32) (a65 : Nat → Int32) (a68 : Nat → Int32) (b86 : Nat → Int32) (b87 : Nat → Int32) (l3 : Int32) : Option (U_md_couldBegin_7 ⊕ T_md_couldBegin) :=
  bif decide (96 ≤ l3) then
   some (.inr (1, b86, b87))
  else
   zg (g_md_isWood l3 a68) (
   zl (w_md_isWood l3 a68) (fun v2 =>
   bif decide (v2 = 0) then
    some (.inl (l3 + 1))
   else
    zg (zin l3 96) (
    zl (w_md_in (b86 (l3.toNatClampNeg)) 0 y) (fun v3 =>
    zg (zin (0 + l3) 315) (
    bif decide (a65 ((0 + l3).toNatClampNeg) = 0) then
     bif decide (v3 = 0) then
      some (.inl (l3 + 1))
     else
      some (.inr (0, b86, b87))
    else
     bif decide (v3 = 1) then
      some (.inl (l3 + 1))
     else
      some (.inr (0, b86, b87)))))))
def f_md_couldBegin_7 (y : Int32) (a65 : Nat → Int32) (a68 : Nat → Int32) (b86 : Nat → Int32) (b87 : Nat → Int32) : U_md_couldBegin_7 → Option (U_md_couldBegin_7 ⊕ T_md_couldBegin) := fun s => b_md_couldBegin_7 y a65 a68 b86 b87 s
noncomputable def l_md_couldBegin_7 (y : Int32) (a65 : Nat → Int32) (a68 : Nat → Int32) (b86 : Nat → Int32) (b87 : Nat → Int32) (l3 : Int32) : Option T_md_couldBegin := zlp (f_md_couldBegin_7 y a65 a68 b86 b87) l3
noncomputable def q_md_couldBegin (x : Int32) (y : Int32) (a65 : Nat → Int32) (a68 : Nat → Int32) (a86 : Nat → Int32) (a87 : Nat → Int32) : Option T_md_couldBegin :=
  zbd (q_md_laysFireFrom x a68 a86 a87) (fun v1 =>
  l_md_couldBegin_7 y a65 a68 ((v1.1)) ((v1.2)) 0)
def P_md_couldBegin (Q : Int32 → Int32 → (Nat → Int32) → (Nat → Int32) → (Nat → Int32) → (Nat → Int32) → Option (Int32 × (Nat → Int32) × (Nat → Int32))) : zSp := fun as g => match as with
  | [.ref a, .int x, .int y] => bif Nat.beq a 64 then zpe (Q x y (g.1 65) (g.1 68) (g.1 86) (g.1 87)) (fun t => (some (.int (t.1)), ((zua (zua g.1 86 t.2.1) 87 t.2.2), g.2.1, g.2.2))) else none
  | _ => none
noncomputable abbrev S_md_couldBegin : zSp := P_md_couldBegin q_md_couldBegin
def O_md_couldBegin (ar fi : Nat → Nat → Int32) (m1 : Nat) (m2 : Nat) (m3 : Nat) (m4 : Nat) (m5 : Nat) (t : T_md_couldBegin) : zO2 := (some (.int (t.1)), ((zua (zua ar 86 t.2.1) 87 t.2.2), fi, (m1, m2, m3, m4, m5)))
def M_md_couldBegin_7 (X : Nat × (Nat → Int32)) (E : zTE) (ar fi : Nat → Nat → Int32) (m1 : Nat) (m2 : Nat) (m3 : Nat) (m4 : Nat) (m5 : Nat) (x : Int32) (y : Int32) (b86 : Nat → Int32) (b87 : Nat → Int32) (o : zO2) (s : U_md_couldBegin_7) : Prop := zR2 X zFT E zc_222 7 [.ref 64, .int x, .int y, .int s] [] ((zua (zua ar 86 b86) 87 b87), fi, (m1, m2, m3, m4, m5)) o
set_option maxRecDepth 20000 in
theorem t7_md_couldBegin {X : Nat × (Nat → Int32)} {ar fi : Nat → Nat → Int32} {m1 m2 m3 m4 m5 : Nat} {x y : Int32} {l3 : Int32} {b86 : Nat → Int32} {b87 : Nat → Int32} {Q_md_laysFireFrom : Int32 → (Nat → Int32) → (Nat → Int32) → (Nat → Int32) → Option ((Nat → Int32) × (Nat → Int32))} {G_md_isWood : Int32 → (Nat → Int32) → Bool} {W_md_isWood : Int32 → (Nat → Int32) → Int32} {W_md_in : Int32 → Int32 → Int32 → Int32} : zseg X zFT (zEx 219 (P_md_laysFireFrom Q_md_laysFireFrom) (zEx 152 (P_md_isWood G_md_isWood W_md_isWood) (zEx 143 (P_md_in W_md_in) zE0))) zc_222 (fun p => Nat.beq p 7) 400 7 [.ref 64, .int x, .int y, .int l3] [] ((zua (zua ar 86 b86) 87 b87), fi, (m1, m2, m3, m4, m5)) = (
  bif decide (96 ≤ l3) then
   some (.inr (some (.int 1), ((zua (zua ar 86 b86) 87 b87), fi, (m1, m2, m3, m4, m5))))
  else
   zg (G_md_isWood l3 (ar 68)) (
   zl (W_md_isWood l3 (ar 68)) (fun v2 =>
   bif decide (v2 = 0) then
    some (.inl (7, [.ref 64, .int x, .int y, .int (l3 + 1)], [], ((zua (zua ar 86 b86) 87 b87), fi, (m1, m2, m3, m4, m5))))
   else
    zg (zin l3 96) (
    zl (W_md_in (b86 (l3.toNatClampNeg)) 0 y) (fun v3 =>
    zg (zin (0 + l3) 315) (
    bif decide ((ar 65) ((0 + l3).toNatClampNeg) = 0) then
     bif decide (v3 = 0) then
      some (.inl (7, [.ref 64, .int x, .int y, .int (l3 + 1)], [], ((zua (zua ar 86 b86) 87 b87), fi, (m1, m2, m3, m4, m5))))
     else
      some (.inr (some (.int 0), ((zua (zua ar 86 b86) 87 b87), fi, (m1, m2, m3, m4, m5))))
    else
     bif decide (v3 = 1) then
      some (.inl (7, [.ref 64, .int x, .int y, .int (l3 + 1)], [], ((zua (zua ar 86 b86) 87 b87), fi, (m1, m2, m3, m4, m5))))
     else
      some (.inr (some (.int 0), ((zua (zua ar 86 b86) 87 b87), fi, (m1, m2, m3, m4, m5))))))))) : Option ((Nat × List Value × List Value × zH2) ⊕ zO2)) := rfl
theorem k_md_couldBegin_7 {X : Nat × (Nat → Int32)} {ar fi : Nat → Nat → Int32} {m1 m2 m3 m4 m5 : Nat} {x y : Int32} {b86 : Nat → Int32} {b87 : Nat → Int32} {o : zO2} : ∀ (s : U_md_couldBegin_7) (q : U_md_couldBegin_7 ⊕ T_md_couldBegin), f_md_couldBegin_7 y (ar 65) (ar 68) b86 b87 s = some q → zq (M_md_couldBegin_7 X (zEx 219 S_md_laysFireFrom (zEx 152 S_md_isWood (zEx 143 S_md_in zE0))) ar fi m1 m2 m3 m4 m5 x y b86 b87 o) (fun t => O_md_couldBegin ar fi m1 m2 m3 m4 m5 t = o) q → M_md_couldBegin_7 X (zEx 219 S_md_laysFireFrom (zEx 152 S_md_isWood (zEx 143 S_md_in zE0))) ar fi m1 m2 m3 m4 m5 x y b86 b87 o s := by
  intro l3 q h hq
  have h : b_md_couldBegin_7 y (ar 65) (ar 68) b86 b87 l3 = some q := h
  unfold b_md_couldBegin_7 at h
  show zR2 X zFT (zEx 219 S_md_laysFireFrom (zEx 152 S_md_isWood (zEx 143 S_md_in zE0))) zc_222 7 [.ref 64, .int x, .int y, .int l3] [] ((zua (zua ar 86 b86) 87 b87), fi, (m1, m2, m3, m4, m5)) o
  refine zT_seg t7_md_couldBegin ?_
  refine zb_el h (fun hb h => zT_t hb ?_) (fun hb h => zT_f hb ?_)
  · have hz := zsi h hq
    refine (zO_mk ?_ ?_).trans hz
    · first | with_reducible rfl | (exact zuas_eq _ [(86, _), (87, _)] [(86, _), (87, _)] [86, 87] rfl rfl ⟨rfl, rfl, trivial⟩)
    · first | with_reducible rfl | (rfl)
  · refine zg_el h (fun hg h => zT_g hg ?_)
    refine zl_el h (fun h => zT_l ?_)
    refine zb_el h (fun hb h => zT_t hb ?_) (fun hb h => zT_f hb ?_)
    · have hz := zsi h hq
      refine zR2_hp ?_ ?_ hz
      · first | with_reducible rfl | (exact zuas_eq _ [(86, _), (87, _)] [(86, _), (87, _)] [86, 87] rfl rfl ⟨rfl, rfl, trivial⟩)
      · first | with_reducible rfl | (rfl)
    · refine zg_el h (fun hg h => zT_g hg ?_)
      refine zl_el h (fun h => zT_l ?_)
      refine zg_el h (fun hg h => zT_g hg ?_)
      refine zb_el h (fun hb h => zT_t hb ?_) (fun hb h => zT_f hb ?_)
      · refine zb_el h (fun hb h => zT_t hb ?_) (fun hb h => zT_f hb ?_)
        · have hz := zsi h hq
          refine zR2_hp ?_ ?_ hz
          · first | with_reducible rfl | (exact zuas_eq _ [(86, _), (87, _)] [(86, _), (87, _)] [86, 87] rfl rfl ⟨rfl, rfl, trivial⟩)
          · first | with_reducible rfl | (rfl)
        · have hz := zsi h hq
          refine (zO_mk ?_ ?_).trans hz
          · first | with_reducible rfl | (exact zuas_eq _ [(86, _), (87, _)] [(86, _), (87, _)] [86, 87] rfl rfl ⟨rfl, rfl, trivial⟩)
          · first | with_reducible rfl | (rfl)
      · refine zb_el h (fun hb h => zT_t hb ?_) (fun hb h => zT_f hb ?_)
        · have hz := zsi h hq
          refine zR2_hp ?_ ?_ hz
          · first | with_reducible rfl | (exact zuas_eq _ [(86, _), (87, _)] [(86, _), (87, _)] [86, 87] rfl rfl ⟨rfl, rfl, trivial⟩)
          · first | with_reducible rfl | (rfl)
        · have hz := zsi h hq
          refine (zO_mk ?_ ?_).trans hz
          · first | with_reducible rfl | (exact zuas_eq _ [(86, _), (87, _)] [(86, _), (87, _)] [86, 87] rfl rfl ⟨rfl, rfl, trivial⟩)
          · first | with_reducible rfl | (rfl)
set_option maxRecDepth 20000 in
theorem t_md_couldBegin {X : Nat × (Nat → Int32)} {ar fi : Nat → Nat → Int32} {m1 m2 m3 m4 m5 : Nat} {x y : Int32} {Q_md_laysFireFrom : Int32 → (Nat → Int32) → (Nat → Int32) → (Nat → Int32) → Option ((Nat → Int32) × (Nat → Int32))} {G_md_isWood : Int32 → (Nat → Int32) → Bool} {W_md_isWood : Int32 → (Nat → Int32) → Int32} {W_md_in : Int32 → Int32 → Int32 → Int32} : zseg X zFT (zEx 219 (P_md_laysFireFrom Q_md_laysFireFrom) (zEx 152 (P_md_isWood G_md_isWood W_md_isWood) (zEx 143 (P_md_in W_md_in) zE0))) zc_222 (fun p => Nat.beq p 7) 400 0 [.ref 64, .int x, .int y] [] (ar, fi, (m1, m2, m3, m4, m5)) = (
  zl (Q_md_laysFireFrom x (ar 68) (ar 86) (ar 87)) (fun v1 => zg v1.isSome (
  some (.inl (7, [.ref 64, .int x, .int y, .int 0], [], ((zua (zua ar 86 (((zgt v1).1))) 87 (((zgt v1).2))), fi, (m1, m2, m3, m4, m5)))))) : Option ((Nat × List Value × List Value × zH2) ⊕ zO2)) := rfl
theorem e_md_couldBegin {X : Nat × (Nat → Int32)} {ar fi : Nat → Nat → Int32} {m1 m2 m3 m4 m5 : Nat} {x y : Int32} {o : zO2} : ∀ (q : T_md_couldBegin), q_md_couldBegin x y (ar 65) (ar 68) (ar 86) (ar 87) = some q → (fun t => O_md_couldBegin ar fi m1 m2 m3 m4 m5 t = o) q → zR2 X zFT (zEx 219 S_md_laysFireFrom (zEx 152 S_md_isWood (zEx 143 S_md_in zE0))) zc_222 0 [.ref 64, .int x, .int y] [] (ar, fi, (m1, m2, m3, m4, m5)) o := by
  intro q h hq
  unfold q_md_couldBegin at h
  refine zT_seg t_md_couldBegin ?_
  refine zbd_el h (fun v1 hv h => zT_c hv ?_)
  refine zR2_hp ?_ ?_ (zlp_K k_md_couldBegin_7 h hq)
  · first | with_reducible rfl | (exact zuas_eq _ [(86, _), (87, _)] [(86, _), (87, _)] [86, 87] rfl rfl ⟨rfl, rfl, trivial⟩)
  · first | with_reducible rfl | (rfl)
theorem ok_md_couldBegin (X : Nat × (Nat → Int32)) : zOkS X 222 S_md_couldBegin 6 := zOkS_new (zOkE_cons (ok_md_laysFireFrom X) (by decide) (zOkE_cons (ok_md_isWood X) (by decide) (zOkE_cons (ok_md_in X) (by decide) (zOkE_nil X 5)))) (by
  intro args g o h
  obtain ⟨ar, fi, m1, m2, m3, m4, m5⟩ := g
  unfold S_md_couldBegin P_md_couldBegin at h
  split at h
  · refine zb_el h (fun hI0 k0 => ?_) (fun _ h10 => ?_)
    · try simp only [Bool.and_eq_true] at hI0
      have j0 := hI0
      have e0 := Nat.eq_of_beq_eq_true j0
      subst e0
      exact zpe_el k0 (fun t ht ho => e_md_couldBegin t ht ho)
    · cases h10
  · cases h)
abbrev T_md_began : Type := Int32 × (Nat → Int32) × (Nat → Int32)
abbrev U_md_began_31 : Type := Int32 × Int32 × Int32 × (Nat → Int32) × (Nat → Int32)
noncomputable def b_md_began_31 (x : Int32) (y : Int32) (a65 : Nat → Int32) (a68 : Nat → Int32) (l3 : Int32) (l4 : Int32) (l5 : Int32) (b86 : Nat → Int32) (b87 : Nat → Int32) : Option (U_md_began_31 ⊕ T_md_began) :=
  bif decide (l5 < 0) then
   bif !decide (y = 0) then
    some (.inr (l4, b86, b87))
   else
    some (.inr (l3, b86, b87))
  else
   zg (g_md_isWood l5 a68) (
   zl (w_md_isWood l5 a68) (fun v3 =>
   bif decide (v3 = 0) then
    some (.inl (l3, l4, l5 + (-1), b86, b87))
   else
    zbd (q_md_couldBegin l5 x a65 a68 b86 b87) (fun v4 =>
    bif !decide ((v4.1) = 0) then
     some (.inl (l3 + 1, l5, l5 + (-1), ((v4.2.1)), ((v4.2.2))))
    else
     some (.inl (l3, l4, l5 + (-1), ((v4.2.1)), ((v4.2.2)))))))
noncomputable def f_md_began_31 (x : Int32) (y : Int32) (a65 : Nat → Int32) (a68 : Nat → Int32) : U_md_began_31 → Option (U_md_began_31 ⊕ T_md_began) := fun s => b_md_began_31 x y a65 a68 s.1 s.2.1 s.2.2.1 s.2.2.2.1 s.2.2.2.2
noncomputable def l_md_began_31 (x : Int32) (y : Int32) (a65 : Nat → Int32) (a68 : Nat → Int32) (l3 : Int32) (l4 : Int32) (l5 : Int32) (b86 : Nat → Int32) (b87 : Nat → Int32) : Option T_md_began := zlp (f_md_began_31 x y a65 a68) (l3, l4, l5, b86, b87)
noncomputable def q_md_began (x : Int32) (y : Int32) (a65 : Nat → Int32) (a68 : Nat → Int32) (a86 : Nat → Int32) (a87 : Nat → Int32) : Option T_md_began :=
  zl (w_md_in x 0 60) (fun v1 =>
  bif decide (v1 = 0) then
   some ((-1), a86, a87)
  else
   zl (w_md_in y 0 1) (fun v2 =>
   bif !decide (v2 = 0) then
    l_md_began_31 x y a65 a68 0 (-2) 95 a86 a87
   else
    some ((-1), a86, a87)))
def P_md_began (Q : Int32 → Int32 → (Nat → Int32) → (Nat → Int32) → (Nat → Int32) → (Nat → Int32) → Option (Int32 × (Nat → Int32) × (Nat → Int32))) : zSp := fun as g => match as with
  | [.ref a, .int x, .int y] => bif Nat.beq a 64 then zpe (Q x y (g.1 65) (g.1 68) (g.1 86) (g.1 87)) (fun t => (some (.int (t.1)), ((zua (zua g.1 86 t.2.1) 87 t.2.2), g.2.1, g.2.2))) else none
  | _ => none
noncomputable abbrev S_md_began : zSp := P_md_began q_md_began
def O_md_began (ar fi : Nat → Nat → Int32) (m1 : Nat) (m2 : Nat) (m3 : Nat) (m4 : Nat) (m5 : Nat) (t : T_md_began) : zO2 := (some (.int (t.1)), ((zua (zua ar 86 t.2.1) 87 t.2.2), fi, (m1, m2, m3, m4, m5)))
def M_md_began_31 (X : Nat × (Nat → Int32)) (E : zTE) (ar fi : Nat → Nat → Int32) (m1 : Nat) (m2 : Nat) (m3 : Nat) (m4 : Nat) (m5 : Nat) (x : Int32) (y : Int32) (o : zO2) (s : U_md_began_31) : Prop := zR2 X zFT E zc_223 31 [.ref 64, .int x, .int y, .int s.1, .int s.2.1, .int s.2.2.1] [] ((zua (zua ar 86 s.2.2.2.1) 87 s.2.2.2.2), fi, (m1, m2, m3, m4, m5)) o
set_option maxRecDepth 20000 in
theorem t31_md_began {X : Nat × (Nat → Int32)} {ar fi : Nat → Nat → Int32} {m1 m2 m3 m4 m5 : Nat} {x y : Int32} {l3 : Int32} {l4 : Int32} {l5 : Int32} {b86 : Nat → Int32} {b87 : Nat → Int32} {W_md_in : Int32 → Int32 → Int32 → Int32} {G_md_isWood : Int32 → (Nat → Int32) → Bool} {W_md_isWood : Int32 → (Nat → Int32) → Int32} {Q_md_couldBegin : Int32 → Int32 → (Nat → Int32) → (Nat → Int32) → (Nat → Int32) → (Nat → Int32) → Option (Int32 × (Nat → Int32) × (Nat → Int32))} : zseg X zFT (zEx 143 (P_md_in W_md_in) (zEx 152 (P_md_isWood G_md_isWood W_md_isWood) (zEx 222 (P_md_couldBegin Q_md_couldBegin) zE0))) zc_223 (fun p => Nat.beq p 31) 400 31 [.ref 64, .int x, .int y, .int l3, .int l4, .int l5] [] ((zua (zua ar 86 b86) 87 b87), fi, (m1, m2, m3, m4, m5)) = (
  bif decide (l5 < 0) then
   bif !decide (y = 0) then
    some (.inr (some (.int l4), ((zua (zua ar 86 b86) 87 b87), fi, (m1, m2, m3, m4, m5))))
   else
    some (.inr (some (.int l3), ((zua (zua ar 86 b86) 87 b87), fi, (m1, m2, m3, m4, m5))))
  else
   zg (G_md_isWood l5 (ar 68)) (
   zl (W_md_isWood l5 (ar 68)) (fun v3 =>
   bif decide (v3 = 0) then
    some (.inl (31, [.ref 64, .int x, .int y, .int l3, .int l4, .int (l5 + (-1))], [], ((zua (zua ar 86 b86) 87 b87), fi, (m1, m2, m3, m4, m5))))
   else
    zl (Q_md_couldBegin l5 x (ar 65) (ar 68) b86 b87) (fun v4 => zg v4.isSome (
    bif !decide (((zgt v4).1) = 0) then
     some (.inl (31, [.ref 64, .int x, .int y, .int (l3 + 1), .int l5, .int (l5 + (-1))], [], ((zua (zua (zua (zua ar 86 b86) 87 b87) 86 (((zgt v4).2.1))) 87 (((zgt v4).2.2))), fi, (m1, m2, m3, m4, m5))))
    else
     some (.inl (31, [.ref 64, .int x, .int y, .int l3, .int l4, .int (l5 + (-1))], [], ((zua (zua (zua (zua ar 86 b86) 87 b87) 86 (((zgt v4).2.1))) 87 (((zgt v4).2.2))), fi, (m1, m2, m3, m4, m5)))))))) : Option ((Nat × List Value × List Value × zH2) ⊕ zO2)) := rfl
theorem k_md_began_31 {X : Nat × (Nat → Int32)} {ar fi : Nat → Nat → Int32} {m1 m2 m3 m4 m5 : Nat} {x y : Int32} {o : zO2} : ∀ (s : U_md_began_31) (q : U_md_began_31 ⊕ T_md_began), f_md_began_31 x y (ar 65) (ar 68) s = some q → zq (M_md_began_31 X (zEx 143 S_md_in (zEx 152 S_md_isWood (zEx 222 S_md_couldBegin zE0))) ar fi m1 m2 m3 m4 m5 x y o) (fun t => O_md_began ar fi m1 m2 m3 m4 m5 t = o) q → M_md_began_31 X (zEx 143 S_md_in (zEx 152 S_md_isWood (zEx 222 S_md_couldBegin zE0))) ar fi m1 m2 m3 m4 m5 x y o s := by
  intro s q h hq
  obtain ⟨l3, l4, l5, b86, b87⟩ := s
  have h : b_md_began_31 x y (ar 65) (ar 68) l3 l4 l5 b86 b87 = some q := h
  unfold b_md_began_31 at h
  show zR2 X zFT (zEx 143 S_md_in (zEx 152 S_md_isWood (zEx 222 S_md_couldBegin zE0))) zc_223 31 [.ref 64, .int x, .int y, .int l3, .int l4, .int l5] [] ((zua (zua ar 86 b86) 87 b87), fi, (m1, m2, m3, m4, m5)) o
  refine zT_seg t31_md_began ?_
  refine zb_el h (fun hb h => zT_t hb ?_) (fun hb h => zT_f hb ?_)
  · refine zb_el h (fun hb h => zT_t hb ?_) (fun hb h => zT_f hb ?_)
    · have hz := zsi h hq
      refine (zO_mk ?_ ?_).trans hz
      · first | with_reducible rfl | (exact zuas_eq _ [(86, _), (87, _)] [(86, _), (87, _)] [86, 87] rfl rfl ⟨rfl, rfl, trivial⟩)
      · first | with_reducible rfl | (rfl)
    · have hz := zsi h hq
      refine (zO_mk ?_ ?_).trans hz
      · first | with_reducible rfl | (exact zuas_eq _ [(86, _), (87, _)] [(86, _), (87, _)] [86, 87] rfl rfl ⟨rfl, rfl, trivial⟩)
      · first | with_reducible rfl | (rfl)
  · refine zg_el h (fun hg h => zT_g hg ?_)
    refine zl_el h (fun h => zT_l ?_)
    refine zb_el h (fun hb h => zT_t hb ?_) (fun hb h => zT_f hb ?_)
    · have hz := zsi h hq
      refine zR2_hp ?_ ?_ hz
      · first | with_reducible rfl | (exact zuas_eq _ [(86, _), (87, _)] [(86, _), (87, _)] [86, 87] rfl rfl ⟨rfl, rfl, trivial⟩)
      · first | with_reducible rfl | (rfl)
    · refine zbd_el h (fun v4 hv h => zT_c hv ?_)
      refine zb_el h (fun hb h => zT_t hb ?_) (fun hb h => zT_f hb ?_)
      · have hz := zsi h hq
        refine zR2_hp ?_ ?_ hz
        · first | with_reducible rfl | (exact zuas_eq _ [(86, _), (87, _), (86, _), (87, _)] [(86, _), (87, _)] [86, 87] rfl rfl ⟨rfl, rfl, trivial⟩)
        · first | with_reducible rfl | (rfl)
      · have hz := zsi h hq
        refine zR2_hp ?_ ?_ hz
        · first | with_reducible rfl | (exact zuas_eq _ [(86, _), (87, _), (86, _), (87, _)] [(86, _), (87, _)] [86, 87] rfl rfl ⟨rfl, rfl, trivial⟩)
        · first | with_reducible rfl | (rfl)
set_option maxRecDepth 20000 in
theorem t_md_began {X : Nat × (Nat → Int32)} {ar fi : Nat → Nat → Int32} {m1 m2 m3 m4 m5 : Nat} {x y : Int32} {W_md_in : Int32 → Int32 → Int32 → Int32} {G_md_isWood : Int32 → (Nat → Int32) → Bool} {W_md_isWood : Int32 → (Nat → Int32) → Int32} {Q_md_couldBegin : Int32 → Int32 → (Nat → Int32) → (Nat → Int32) → (Nat → Int32) → (Nat → Int32) → Option (Int32 × (Nat → Int32) × (Nat → Int32))} : zseg X zFT (zEx 143 (P_md_in W_md_in) (zEx 152 (P_md_isWood G_md_isWood W_md_isWood) (zEx 222 (P_md_couldBegin Q_md_couldBegin) zE0))) zc_223 (fun p => Nat.beq p 31) 400 0 [.ref 64, .int x, .int y] [] (ar, fi, (m1, m2, m3, m4, m5)) = (
  zl (W_md_in x 0 60) (fun v1 =>
  bif decide (v1 = 0) then
   some (.inr (some (.int (-1)), (ar, fi, (m1, m2, m3, m4, m5))))
  else
   zl (W_md_in y 0 1) (fun v2 =>
   bif !decide (v2 = 0) then
    some (.inl (31, [.ref 64, .int x, .int y, .int 0, .int (-2), .int 95], [], (ar, fi, (m1, m2, m3, m4, m5))))
   else
    some (.inr (some (.int (-1)), (ar, fi, (m1, m2, m3, m4, m5)))))) : Option ((Nat × List Value × List Value × zH2) ⊕ zO2)) := rfl
theorem e_md_began {X : Nat × (Nat → Int32)} {ar fi : Nat → Nat → Int32} {m1 m2 m3 m4 m5 : Nat} {x y : Int32} {o : zO2} : ∀ (q : T_md_began), q_md_began x y (ar 65) (ar 68) (ar 86) (ar 87) = some q → (fun t => O_md_began ar fi m1 m2 m3 m4 m5 t = o) q → zR2 X zFT (zEx 143 S_md_in (zEx 152 S_md_isWood (zEx 222 S_md_couldBegin zE0))) zc_223 0 [.ref 64, .int x, .int y] [] (ar, fi, (m1, m2, m3, m4, m5)) o := by
  intro q h hq
  unfold q_md_began at h
  refine zT_seg t_md_began ?_
  refine zl_el h (fun h => zT_l ?_)
  refine zb_el h (fun hb h => zT_t hb ?_) (fun hb h => zT_f hb ?_)
  · have hz := zsi h hq
    refine (zO_mk ?_ ?_).trans hz
    · first | with_reducible rfl | (exact zuas_eq _ [] [(86, _), (87, _)] [86, 87] rfl rfl ⟨rfl, rfl, trivial⟩)
    · first | with_reducible rfl | (rfl)
  · refine zl_el h (fun h => zT_l ?_)
    refine zb_el h (fun hb h => zT_t hb ?_) (fun hb h => zT_f hb ?_)
    · refine zR2_hp ?_ ?_ (zlp_K k_md_began_31 h hq)
      · first | with_reducible rfl | (exact zuas_eq _ [] [(86, _), (87, _)] [86, 87] rfl rfl ⟨rfl, rfl, trivial⟩)
      · first | with_reducible rfl | (rfl)
    · have hz := zsi h hq
      refine (zO_mk ?_ ?_).trans hz
      · first | with_reducible rfl | (exact zuas_eq _ [] [(86, _), (87, _)] [86, 87] rfl rfl ⟨rfl, rfl, trivial⟩)
      · first | with_reducible rfl | (rfl)
theorem ok_md_began (X : Nat × (Nat → Int32)) : zOkS X 223 S_md_began 7 := zOkS_new (zOkE_cons (ok_md_in X) (by decide) (zOkE_cons (ok_md_isWood X) (by decide) (zOkE_cons (ok_md_couldBegin X) (by decide) (zOkE_nil X 6)))) (by
  intro args g o h
  obtain ⟨ar, fi, m1, m2, m3, m4, m5⟩ := g
  unfold S_md_began P_md_began at h
  split at h
  · refine zb_el h (fun hI0 k0 => ?_) (fun _ h10 => ?_)
    · try simp only [Bool.and_eq_true] at hI0
      have j0 := hI0
      have e0 := Nat.eq_of_beq_eq_true j0
      subst e0
      exact zpe_el k0 (fun t ht ho => e_md_began t ht ho)
    · cases h10
  · cases h)
