theorem zup_sort {α : Type} {f : Nat → α} {a b : Nat} {x y : α} (h : b < a) : zup (zup f a x) b y = zup (zup f b y) a x := zup_comm (Nat.ne_of_gt h)
def b_md_copies (p0 : Nat → Int32) (p1 : Nat → Int32) (k : Nat) (s : (Nat → Int32)) : (Nat → Int32) := (zup s ((nI k).toNatClampNeg) (p0 ((nI k).toNatClampNeg)))
def z_md_copies (p0 : Nat → Int32) (p1 : Nat → Int32) : (Nat → Int32) := zfo (b_md_copies p0 p1) 315 0 p1
def a0_md_copies (p0 : Nat → Int32) (p1 : Nat → Int32) : Nat → Int32 := (z_md_copies p0 p1)
theorem h_md_copies (p0 : Nat → Int32) (p1 : Nat → Int32) (k : Nat) (s : (Nat → Int32)) (hk : k < 315) : ((zin (nI k) 315) && (zin (nI k) 315)) = true := by
  have hz : zin (nI k) 315 = true := zin_nI hk (by omega)
  simp only [hz, Bool.and_self]
def P_md_copies (A0 : (Nat → Int32) → (Nat → Int32) → Nat → Int32) : zSp := fun as g => match as with
  | [.ref a, .ref b] => bif Nat.beq a 65 && Nat.beq b 66 then some (true, (none, ((zup g.1 66 (A0 (g.1 65) (g.1 66))), g.2.1, g.2.2))) else bif Nat.beq a 66 && Nat.beq b 65 then some (true, (none, ((zup g.1 65 (A0 (g.1 66) (g.1 65))), g.2.1, g.2.2))) else bif Nat.beq a 65 && Nat.beq b 67 then some (true, (none, ((zup g.1 67 (A0 (g.1 65) (g.1 67))), g.2.1, g.2.2))) else bif Nat.beq a 67 && Nat.beq b 65 then some (true, (none, ((zup g.1 65 (A0 (g.1 67) (g.1 65))), g.2.1, g.2.2))) else none
  | _ => none
abbrev S_md_copies : zSp := P_md_copies a0_md_copies
set_option maxRecDepth 10000 in
theorem t0_md_copies_65_66 {X : Nat × (Nat → Int32)} {ar fi : Nat → Nat → Int32} {m1 m2 m3 m4 m5 : Nat} : zseg X zFT zE0 zc_148 (fun p => Nat.beq p 2) 400 0 [.ref 65, .ref 66] [] (ar, fi, (m1, m2, m3, m4, m5)) = (
  some (.inl (2, [.ref 65, .ref 66, .int 0], [], (ar, fi, (m1, m2, m3, m4, m5)))) : Option ((Nat × List Value × List Value × zH2) ⊕ zO2)) := by with_unfolding_all rfl
set_option maxRecDepth 10000 in
theorem t1_md_copies_65_66 {X : Nat × (Nat → Int32)} {ar fi : Nat → Nat → Int32} {m1 m2 m3 m4 m5 : Nat} {S0 : Nat → Int32} {K : Int32} : zseg X zFT zE0 zc_148 (fun p => Nat.beq p 2) 400 2 [.ref 65, .ref 66, .int K] [] ((zup ar 66 S0), fi, (m1, m2, m3, m4, m5)) = (
  bif decide (315 ≤ K) then
   some (.inr (none, ((zup ar 66 S0), fi, (m1, m2, m3, m4, m5))))
  else
   zg (zin K 315) (
   zg (zin K 315) (
   some (.inl (2, [.ref 65, .ref 66, .int (K + 1)], [], ((zup (zup ar 66 S0) 66 (zup S0 (K.toNatClampNeg) ((ar 65) (K.toNatClampNeg)))), fi, (m1, m2, m3, m4, m5)))))) : Option ((Nat × List Value × List Value × zH2) ⊕ zO2)) := by with_unfolding_all rfl
set_option maxRecDepth 10000 in
theorem e_md_copies_65_66 {X : Nat × (Nat → Int32)} {ar fi : Nat → Nat → Int32} {m1 m2 m3 m4 m5 : Nat} : zR2 X zFT zE0 (zC 148) 0 [.ref 65, .ref 66] [] (ar, fi, (m1, m2, m3, m4, m5)) (none, ((zup ar 66 (a0_md_copies (ar 65) (ar 66))), fi, (m1, m2, m3, m4, m5))) := by
  refine zseg_go ?_ t0_md_copies_65_66
  have hl := zR2_loop (X := X) (FT := zFT) (E := zE0) (c := zC 148) (o := (none, ((zup ar 66 (a0_md_copies (ar 65) (ar 66))), fi, (m1, m2, m3, m4, m5)))) (σ := (Nat → Int32)) (fun k s => (2, [.ref 65, .ref 66, .int (nI k)], [], ((zup ar 66 s), fi, (m1, m2, m3, m4, m5)))) (b_md_copies (ar 65) (ar 66)) (fun _ _ => True) 315 0 (ar 66) trivial (fun k s h1 h2 _ => ⟨⟨(fun p => Nat.beq p 2), 400, ?_⟩, trivial⟩) ?_
  · dsimp only at hl ⊢
    try simp only [zup_zup, zup_same, zup_self] at hl ⊢
    exact hl
  · have hk : k < 315 := by omega
    refine t1_md_copies_65_66.trans ?_
    rw [show (decide (315 ≤ nI k)) = false from decide_eq_false (show ¬ ((315 : Int32) ≤ nI k) from nI_ge (b := 315) hk (by omega))]
    have hG := h_md_copies (ar 65) (ar 66) k s hk
    unfold b_md_copies
    rw [← nI_1 k]
    simp only [cond_false]
    all_goals try simp only [Bool.and_eq_true, Bool.true_and, Bool.and_true] at hG
    all_goals try simp only [hG, zg, cond_true, and_self]
    all_goals try simp (disch := decide) only [zup_sort, zup_zup, zup_same, zup_self]
    all_goals rfl
  · refine zseg_ret (stops := (fun p => Nat.beq p 2)) (n := 400) (t1_md_copies_65_66.trans ?_)
    rw [show (decide (315 ≤ nI (0 + 315))) = true from by decide]
    simp only [cond_true, a0_md_copies, z_md_copies]
    try simp (disch := decide) only [zup_sort, zup_zup, zup_same, zup_self]
    all_goals rfl
set_option maxRecDepth 10000 in
theorem t0_md_copies_66_65 {X : Nat × (Nat → Int32)} {ar fi : Nat → Nat → Int32} {m1 m2 m3 m4 m5 : Nat} : zseg X zFT zE0 zc_148 (fun p => Nat.beq p 2) 400 0 [.ref 66, .ref 65] [] (ar, fi, (m1, m2, m3, m4, m5)) = (
  some (.inl (2, [.ref 66, .ref 65, .int 0], [], (ar, fi, (m1, m2, m3, m4, m5)))) : Option ((Nat × List Value × List Value × zH2) ⊕ zO2)) := by with_unfolding_all rfl
set_option maxRecDepth 10000 in
theorem t1_md_copies_66_65 {X : Nat × (Nat → Int32)} {ar fi : Nat → Nat → Int32} {m1 m2 m3 m4 m5 : Nat} {S0 : Nat → Int32} {K : Int32} : zseg X zFT zE0 zc_148 (fun p => Nat.beq p 2) 400 2 [.ref 66, .ref 65, .int K] [] ((zup ar 65 S0), fi, (m1, m2, m3, m4, m5)) = (
  bif decide (315 ≤ K) then
   some (.inr (none, ((zup ar 65 S0), fi, (m1, m2, m3, m4, m5))))
  else
   zg (zin K 315) (
   zg (zin K 315) (
   some (.inl (2, [.ref 66, .ref 65, .int (K + 1)], [], ((zup (zup ar 65 S0) 65 (zup S0 (K.toNatClampNeg) ((ar 66) (K.toNatClampNeg)))), fi, (m1, m2, m3, m4, m5)))))) : Option ((Nat × List Value × List Value × zH2) ⊕ zO2)) := by with_unfolding_all rfl
set_option maxRecDepth 10000 in
theorem e_md_copies_66_65 {X : Nat × (Nat → Int32)} {ar fi : Nat → Nat → Int32} {m1 m2 m3 m4 m5 : Nat} : zR2 X zFT zE0 (zC 148) 0 [.ref 66, .ref 65] [] (ar, fi, (m1, m2, m3, m4, m5)) (none, ((zup ar 65 (a0_md_copies (ar 66) (ar 65))), fi, (m1, m2, m3, m4, m5))) := by
  refine zseg_go ?_ t0_md_copies_66_65
  have hl := zR2_loop (X := X) (FT := zFT) (E := zE0) (c := zC 148) (o := (none, ((zup ar 65 (a0_md_copies (ar 66) (ar 65))), fi, (m1, m2, m3, m4, m5)))) (σ := (Nat → Int32)) (fun k s => (2, [.ref 66, .ref 65, .int (nI k)], [], ((zup ar 65 s), fi, (m1, m2, m3, m4, m5)))) (b_md_copies (ar 66) (ar 65)) (fun _ _ => True) 315 0 (ar 65) trivial (fun k s h1 h2 _ => ⟨⟨(fun p => Nat.beq p 2), 400, ?_⟩, trivial⟩) ?_
  · dsimp only at hl ⊢
    try simp only [zup_zup, zup_same, zup_self] at hl ⊢
    exact hl
  · have hk : k < 315 := by omega
    refine t1_md_copies_66_65.trans ?_
    rw [show (decide (315 ≤ nI k)) = false from decide_eq_false (show ¬ ((315 : Int32) ≤ nI k) from nI_ge (b := 315) hk (by omega))]
    have hG := h_md_copies (ar 66) (ar 65) k s hk
    unfold b_md_copies
    rw [← nI_1 k]
    simp only [cond_false]
    all_goals try simp only [Bool.and_eq_true, Bool.true_and, Bool.and_true] at hG
    all_goals try simp only [hG, zg, cond_true, and_self]
    all_goals try simp (disch := decide) only [zup_sort, zup_zup, zup_same, zup_self]
    all_goals rfl
  · refine zseg_ret (stops := (fun p => Nat.beq p 2)) (n := 400) (t1_md_copies_66_65.trans ?_)
    rw [show (decide (315 ≤ nI (0 + 315))) = true from by decide]
    simp only [cond_true, a0_md_copies, z_md_copies]
    try simp (disch := decide) only [zup_sort, zup_zup, zup_same, zup_self]
    all_goals rfl
set_option maxRecDepth 10000 in
theorem t0_md_copies_65_67 {X : Nat × (Nat → Int32)} {ar fi : Nat → Nat → Int32} {m1 m2 m3 m4 m5 : Nat} : zseg X zFT zE0 zc_148 (fun p => Nat.beq p 2) 400 0 [.ref 65, .ref 67] [] (ar, fi, (m1, m2, m3, m4, m5)) = (
  some (.inl (2, [.ref 65, .ref 67, .int 0], [], (ar, fi, (m1, m2, m3, m4, m5)))) : Option ((Nat × List Value × List Value × zH2) ⊕ zO2)) := by with_unfolding_all rfl
set_option maxRecDepth 10000 in
theorem t1_md_copies_65_67 {X : Nat × (Nat → Int32)} {ar fi : Nat → Nat → Int32} {m1 m2 m3 m4 m5 : Nat} {S0 : Nat → Int32} {K : Int32} : zseg X zFT zE0 zc_148 (fun p => Nat.beq p 2) 400 2 [.ref 65, .ref 67, .int K] [] ((zup ar 67 S0), fi, (m1, m2, m3, m4, m5)) = (
  bif decide (315 ≤ K) then
   some (.inr (none, ((zup ar 67 S0), fi, (m1, m2, m3, m4, m5))))
  else
   zg (zin K 315) (
   zg (zin K 315) (
   some (.inl (2, [.ref 65, .ref 67, .int (K + 1)], [], ((zup (zup ar 67 S0) 67 (zup S0 (K.toNatClampNeg) ((ar 65) (K.toNatClampNeg)))), fi, (m1, m2, m3, m4, m5)))))) : Option ((Nat × List Value × List Value × zH2) ⊕ zO2)) := by with_unfolding_all rfl
set_option maxRecDepth 10000 in
theorem e_md_copies_65_67 {X : Nat × (Nat → Int32)} {ar fi : Nat → Nat → Int32} {m1 m2 m3 m4 m5 : Nat} : zR2 X zFT zE0 (zC 148) 0 [.ref 65, .ref 67] [] (ar, fi, (m1, m2, m3, m4, m5)) (none, ((zup ar 67 (a0_md_copies (ar 65) (ar 67))), fi, (m1, m2, m3, m4, m5))) := by
  refine zseg_go ?_ t0_md_copies_65_67
  have hl := zR2_loop (X := X) (FT := zFT) (E := zE0) (c := zC 148) (o := (none, ((zup ar 67 (a0_md_copies (ar 65) (ar 67))), fi, (m1, m2, m3, m4, m5)))) (σ := (Nat → Int32)) (fun k s => (2, [.ref 65, .ref 67, .int (nI k)], [], ((zup ar 67 s), fi, (m1, m2, m3, m4, m5)))) (b_md_copies (ar 65) (ar 67)) (fun _ _ => True) 315 0 (ar 67) trivial (fun k s h1 h2 _ => ⟨⟨(fun p => Nat.beq p 2), 400, ?_⟩, trivial⟩) ?_
  · dsimp only at hl ⊢
    try simp only [zup_zup, zup_same, zup_self] at hl ⊢
    exact hl
  · have hk : k < 315 := by omega
    refine t1_md_copies_65_67.trans ?_
    rw [show (decide (315 ≤ nI k)) = false from decide_eq_false (show ¬ ((315 : Int32) ≤ nI k) from nI_ge (b := 315) hk (by omega))]
    have hG := h_md_copies (ar 65) (ar 67) k s hk
    unfold b_md_copies
    rw [← nI_1 k]
    simp only [cond_false]
    all_goals try simp only [Bool.and_eq_true, Bool.true_and, Bool.and_true] at hG
    all_goals try simp only [hG, zg, cond_true, and_self]
    all_goals try simp (disch := decide) only [zup_sort, zup_zup, zup_same, zup_self]
    all_goals rfl
  · refine zseg_ret (stops := (fun p => Nat.beq p 2)) (n := 400) (t1_md_copies_65_67.trans ?_)
    rw [show (decide (315 ≤ nI (0 + 315))) = true from by decide]
    simp only [cond_true, a0_md_copies, z_md_copies]
    try simp (disch := decide) only [zup_sort, zup_zup, zup_same, zup_self]
    all_goals rfl
set_option maxRecDepth 10000 in
theorem t0_md_copies_67_65 {X : Nat × (Nat → Int32)} {ar fi : Nat → Nat → Int32} {m1 m2 m3 m4 m5 : Nat} : zseg X zFT zE0 zc_148 (fun p => Nat.beq p 2) 400 0 [.ref 67, .ref 65] [] (ar, fi, (m1, m2, m3, m4, m5)) = (
  some (.inl (2, [.ref 67, .ref 65, .int 0], [], (ar, fi, (m1, m2, m3, m4, m5)))) : Option ((Nat × List Value × List Value × zH2) ⊕ zO2)) := by with_unfolding_all rfl
set_option maxRecDepth 10000 in
theorem t1_md_copies_67_65 {X : Nat × (Nat → Int32)} {ar fi : Nat → Nat → Int32} {m1 m2 m3 m4 m5 : Nat} {S0 : Nat → Int32} {K : Int32} : zseg X zFT zE0 zc_148 (fun p => Nat.beq p 2) 400 2 [.ref 67, .ref 65, .int K] [] ((zup ar 65 S0), fi, (m1, m2, m3, m4, m5)) = (
  bif decide (315 ≤ K) then
   some (.inr (none, ((zup ar 65 S0), fi, (m1, m2, m3, m4, m5))))
  else
   zg (zin K 315) (
   zg (zin K 315) (
   some (.inl (2, [.ref 67, .ref 65, .int (K + 1)], [], ((zup (zup ar 65 S0) 65 (zup S0 (K.toNatClampNeg) ((ar 67) (K.toNatClampNeg)))), fi, (m1, m2, m3, m4, m5)))))) : Option ((Nat × List Value × List Value × zH2) ⊕ zO2)) := by with_unfolding_all rfl
set_option maxRecDepth 10000 in
theorem e_md_copies_67_65 {X : Nat × (Nat → Int32)} {ar fi : Nat → Nat → Int32} {m1 m2 m3 m4 m5 : Nat} : zR2 X zFT zE0 (zC 148) 0 [.ref 67, .ref 65] [] (ar, fi, (m1, m2, m3, m4, m5)) (none, ((zup ar 65 (a0_md_copies (ar 67) (ar 65))), fi, (m1, m2, m3, m4, m5))) := by
  refine zseg_go ?_ t0_md_copies_67_65
  have hl := zR2_loop (X := X) (FT := zFT) (E := zE0) (c := zC 148) (o := (none, ((zup ar 65 (a0_md_copies (ar 67) (ar 65))), fi, (m1, m2, m3, m4, m5)))) (σ := (Nat → Int32)) (fun k s => (2, [.ref 67, .ref 65, .int (nI k)], [], ((zup ar 65 s), fi, (m1, m2, m3, m4, m5)))) (b_md_copies (ar 67) (ar 65)) (fun _ _ => True) 315 0 (ar 65) trivial (fun k s h1 h2 _ => ⟨⟨(fun p => Nat.beq p 2), 400, ?_⟩, trivial⟩) ?_
  · dsimp only at hl ⊢
    try simp only [zup_zup, zup_same, zup_self] at hl ⊢
    exact hl
  · have hk : k < 315 := by omega
    refine t1_md_copies_67_65.trans ?_
    rw [show (decide (315 ≤ nI k)) = false from decide_eq_false (show ¬ ((315 : Int32) ≤ nI k) from nI_ge (b := 315) hk (by omega))]
    have hG := h_md_copies (ar 67) (ar 65) k s hk
    unfold b_md_copies
    rw [← nI_1 k]
    simp only [cond_false]
    all_goals try simp only [Bool.and_eq_true, Bool.true_and, Bool.and_true] at hG
    all_goals try simp only [hG, zg, cond_true, and_self]
    all_goals try simp (disch := decide) only [zup_sort, zup_zup, zup_same, zup_self]
    all_goals rfl
  · refine zseg_ret (stops := (fun p => Nat.beq p 2)) (n := 400) (t1_md_copies_67_65.trans ?_)
    rw [show (decide (315 ≤ nI (0 + 315))) = true from by decide]
    simp only [cond_true, a0_md_copies, z_md_copies]
    try simp (disch := decide) only [zup_sort, zup_zup, zup_same, zup_self]
    all_goals rfl
theorem ok_md_copies (X : Nat × (Nat → Int32)) : zOkS X 148 S_md_copies 1 := zOkS_new (zOkE_nil X 0) (by
  intro args g o h
  obtain ⟨ar, fi, m1, m2, m3, m4, m5⟩ := g
  unfold S_md_copies P_md_copies at h
  split at h
  · refine zb_el h (fun hI0 k0 => ?_) (fun _ h10 => ?_)
    · have h2 := Option.some.inj k0
      have hG := congrArg Prod.fst h2
      have ho := congrArg Prod.snd h2
      dsimp only at hG ho
      subst ho
      try simp only [Bool.and_eq_true] at hI0
      obtain ⟨j0, j1⟩ := hI0
      have e0 := Nat.eq_of_beq_eq_true j0
      subst e0
      have e1 := Nat.eq_of_beq_eq_true j1
      subst e1
      exact e_md_copies_65_66
    · skip
      refine zb_el h10 (fun hI1 k1 => ?_) (fun _ h11 => ?_)
      · have h2 := Option.some.inj k1
        have hG := congrArg Prod.fst h2
        have ho := congrArg Prod.snd h2
        dsimp only at hG ho
        subst ho
        try simp only [Bool.and_eq_true] at hI1
        obtain ⟨j0, j1⟩ := hI1
        have e0 := Nat.eq_of_beq_eq_true j0
        subst e0
        have e1 := Nat.eq_of_beq_eq_true j1
        subst e1
        exact e_md_copies_66_65
      · skip
        refine zb_el h11 (fun hI2 k2 => ?_) (fun _ h12 => ?_)
        · have h2 := Option.some.inj k2
          have hG := congrArg Prod.fst h2
          have ho := congrArg Prod.snd h2
          dsimp only at hG ho
          subst ho
          try simp only [Bool.and_eq_true] at hI2
          obtain ⟨j0, j1⟩ := hI2
          have e0 := Nat.eq_of_beq_eq_true j0
          subst e0
          have e1 := Nat.eq_of_beq_eq_true j1
          subst e1
          exact e_md_copies_65_67
        · skip
          refine zb_el h12 (fun hI3 k3 => ?_) (fun _ h13 => ?_)
          · have h2 := Option.some.inj k3
            have hG := congrArg Prod.fst h2
            have ho := congrArg Prod.snd h2
            dsimp only at hG ho
            subst ho
            try simp only [Bool.and_eq_true] at hI3
            obtain ⟨j0, j1⟩ := hI3
            have e0 := Nat.eq_of_beq_eq_true j0
            subst e0
            have e1 := Nat.eq_of_beq_eq_true j1
            subst e1
            exact e_md_copies_67_65
          · cases h13
  · cases h)
def b_md_clearsFire (p0 : Nat → Int32) (k : Nat) (s : (Nat → Int32)) : (Nat → Int32) := (zup s ((nI k).toNatClampNeg) (-1))
def z_md_clearsFire (p0 : Nat → Int32) : (Nat → Int32) := zfo (b_md_clearsFire p0) 96 0 p0
def a0_md_clearsFire (p0 : Nat → Int32) : Nat → Int32 := (z_md_clearsFire p0)
theorem h_md_clearsFire (p0 : Nat → Int32) (k : Nat) (s : (Nat → Int32)) (hk : k < 96) : (zin (nI k) 96) = true := by
  exact zin_nI hk (by omega)
def P_md_clearsFire (A0 : (Nat → Int32) → Nat → Int32) : zSp := fun as g => match as with
  | [.ref a] => bif Nat.beq a 64 then some (true, (none, ((zup g.1 86 (A0 (g.1 86))), g.2.1, g.2.2))) else none
  | _ => none
abbrev S_md_clearsFire : zSp := P_md_clearsFire a0_md_clearsFire
set_option maxRecDepth 10000 in
theorem t0_md_clearsFire {X : Nat × (Nat → Int32)} {ar fi : Nat → Nat → Int32} {m1 m2 m3 m4 m5 : Nat} : zseg X zFT zE0 zc_218 (fun p => Nat.beq p 2) 400 0 [.ref 64] [] (ar, fi, (m1, m2, m3, m4, m5)) = (
  some (.inl (2, [.ref 64, .int 0], [], (ar, fi, (m1, m2, m3, m4, m5)))) : Option ((Nat × List Value × List Value × zH2) ⊕ zO2)) := by with_unfolding_all rfl
set_option maxRecDepth 10000 in
theorem t1_md_clearsFire {X : Nat × (Nat → Int32)} {ar fi : Nat → Nat → Int32} {m1 m2 m3 m4 m5 : Nat} {S0 : Nat → Int32} {K : Int32} : zseg X zFT zE0 zc_218 (fun p => Nat.beq p 2) 400 2 [.ref 64, .int K] [] ((zup ar 86 S0), fi, (m1, m2, m3, m4, m5)) = (
  bif decide (96 ≤ K) then
   some (.inr (none, ((zup ar 86 S0), fi, (m1, m2, m3, m4, m5))))
  else
   zg (zin K 96) (
   some (.inl (2, [.ref 64, .int (K + 1)], [], ((zup (zup ar 86 S0) 86 (zup S0 (K.toNatClampNeg) (-1))), fi, (m1, m2, m3, m4, m5))))) : Option ((Nat × List Value × List Value × zH2) ⊕ zO2)) := by with_unfolding_all rfl
set_option maxRecDepth 10000 in
theorem e_md_clearsFire {X : Nat × (Nat → Int32)} {ar fi : Nat → Nat → Int32} {m1 m2 m3 m4 m5 : Nat} : zR2 X zFT zE0 (zC 218) 0 [.ref 64] [] (ar, fi, (m1, m2, m3, m4, m5)) (none, ((zup ar 86 (a0_md_clearsFire (ar 86))), fi, (m1, m2, m3, m4, m5))) := by
  refine zseg_go ?_ t0_md_clearsFire
  have hl := zR2_loop (X := X) (FT := zFT) (E := zE0) (c := zC 218) (o := (none, ((zup ar 86 (a0_md_clearsFire (ar 86))), fi, (m1, m2, m3, m4, m5)))) (σ := (Nat → Int32)) (fun k s => (2, [.ref 64, .int (nI k)], [], ((zup ar 86 s), fi, (m1, m2, m3, m4, m5)))) (b_md_clearsFire (ar 86)) (fun _ _ => True) 96 0 (ar 86) trivial (fun k s h1 h2 _ => ⟨⟨(fun p => Nat.beq p 2), 400, ?_⟩, trivial⟩) ?_
  · dsimp only at hl ⊢
    try simp only [zup_zup, zup_same, zup_self] at hl ⊢
    exact hl
  · have hk : k < 96 := by omega
    refine t1_md_clearsFire.trans ?_
    rw [show (decide (96 ≤ nI k)) = false from decide_eq_false (show ¬ ((96 : Int32) ≤ nI k) from nI_ge (b := 96) hk (by omega))]
    have hG := h_md_clearsFire (ar 86) k s hk
    unfold b_md_clearsFire
    rw [← nI_1 k]
    simp only [cond_false]
    all_goals try simp only [Bool.and_eq_true, Bool.true_and, Bool.and_true] at hG
    all_goals try simp only [hG, zg, cond_true, and_self]
    all_goals try simp (disch := decide) only [zup_sort, zup_zup, zup_same, zup_self]
    all_goals rfl
  · refine zseg_ret (stops := (fun p => Nat.beq p 2)) (n := 400) (t1_md_clearsFire.trans ?_)
    rw [show (decide (96 ≤ nI (0 + 96))) = true from by decide]
    simp only [cond_true, a0_md_clearsFire, z_md_clearsFire]
    try simp (disch := decide) only [zup_sort, zup_zup, zup_same, zup_self]
    all_goals rfl
theorem ok_md_clearsFire (X : Nat × (Nat → Int32)) : zOkS X 218 S_md_clearsFire 1 := zOkS_new (zOkE_nil X 0) (by
  intro args g o h
  obtain ⟨ar, fi, m1, m2, m3, m4, m5⟩ := g
  unfold S_md_clearsFire P_md_clearsFire at h
  split at h
  · refine zb_el h (fun hI0 k0 => ?_) (fun _ h10 => ?_)
    · have h2 := Option.some.inj k0
      have hG := congrArg Prod.fst h2
      have ho := congrArg Prod.snd h2
      dsimp only at hG ho
      subst ho
      try simp only [Bool.and_eq_true] at hI0
      have j0 := hI0
      have e0 := Nat.eq_of_beq_eq_true j0
      subst e0
      exact e_md_clearsFire
    · cases h10
  · cases h)
def b_sc_mendWhatIsNoWood (p0 : Nat → Int32) (p1 : Nat → Int32) (p2 : Nat → Int32) (k : Nat) (s : (Nat → Int32) × (Nat → Int32)) : (Nat → Int32) × (Nat → Int32) := ((bif decide (p0 ((nI k).toNatClampNeg) = 1) then s.1 else (a0_sc_setState (nI k) 0 0 s.1 s.2)), (bif decide (p0 ((nI k).toNatClampNeg) = 1) then s.2 else (a1_sc_setState (nI k) 0 0 s.1 s.2)))
def z_sc_mendWhatIsNoWood (p0 : Nat → Int32) (p1 : Nat → Int32) (p2 : Nat → Int32) : (Nat → Int32) × (Nat → Int32) := zfo (b_sc_mendWhatIsNoWood p0 p1 p2) 96 0 (p1, p2)
def a0_sc_mendWhatIsNoWood (p0 : Nat → Int32) (p1 : Nat → Int32) (p2 : Nat → Int32) : Nat → Int32 := (z_sc_mendWhatIsNoWood p0 p1 p2).1
def a1_sc_mendWhatIsNoWood (p0 : Nat → Int32) (p1 : Nat → Int32) (p2 : Nat → Int32) : Nat → Int32 := (z_sc_mendWhatIsNoWood p0 p1 p2).2
theorem h_sc_mendWhatIsNoWood (p0 : Nat → Int32) (p1 : Nat → Int32) (p2 : Nat → Int32) (k : Nat) (s : (Nat → Int32) × (Nat → Int32)) (hk : k < 96) : ((zin (nI k) 96) && (bif decide (p0 ((nI k).toNatClampNeg) = 1) then true else g_sc_setState (nI k) 0 0 s.1 s.2)) = true := by
  have hz : zin (nI k) 96 = true := zin_nI hk (by omega)
  simp only [hz, g_sc_setState, zm_e, Bool.and_self, Bool.and_true]
def P_sc_mendWhatIsNoWood (A0 : (Nat → Int32) → (Nat → Int32) → (Nat → Int32) → Nat → Int32) (A1 : (Nat → Int32) → (Nat → Int32) → (Nat → Int32) → Nat → Int32) : zSp := fun as g => match as with
  | [.ref a] => bif Nat.beq a 2 then some (true, (none, ((zup (zup g.1 4 (A0 (g.1 3) (g.1 4) (g.1 5))) 5 (A1 (g.1 3) (g.1 4) (g.1 5))), g.2.1, g.2.2))) else bif Nat.beq a 9 then some (true, (none, ((zup (zup g.1 11 (A0 (g.1 10) (g.1 11) (g.1 12))) 12 (A1 (g.1 10) (g.1 11) (g.1 12))), g.2.1, g.2.2))) else bif Nat.beq a 16 then some (true, (none, ((zup (zup g.1 18 (A0 (g.1 17) (g.1 18) (g.1 19))) 19 (A1 (g.1 17) (g.1 18) (g.1 19))), g.2.1, g.2.2))) else none
  | _ => none
abbrev S_sc_mendWhatIsNoWood : zSp := P_sc_mendWhatIsNoWood a0_sc_mendWhatIsNoWood a1_sc_mendWhatIsNoWood
set_option maxRecDepth 10000 in
theorem t0_sc_mendWhatIsNoWood_2 {X : Nat × (Nat → Int32)} {ar fi : Nat → Nat → Int32} {m1 m2 m3 m4 m5 : Nat} {G_sc_setState : Int32 → Int32 → Int32 → (Nat → Int32) → (Nat → Int32) → Bool} {A0_sc_setState : Int32 → Int32 → Int32 → (Nat → Int32) → (Nat → Int32) → Nat → Int32} {A1_sc_setState : Int32 → Int32 → Int32 → (Nat → Int32) → (Nat → Int32) → Nat → Int32} : zseg X zFT (zEx 71 (P_sc_setState G_sc_setState A0_sc_setState A1_sc_setState) zE0) zc_70 (fun p => Nat.beq p 2) 400 0 [.ref 2] [] (ar, fi, (m1, m2, m3, m4, m5)) = (
  some (.inl (2, [.ref 2, .int 0], [], (ar, fi, (m1, m2, m3, m4, m5)))) : Option ((Nat × List Value × List Value × zH2) ⊕ zO2)) := by with_unfolding_all rfl
set_option maxRecDepth 10000 in
theorem t1_sc_mendWhatIsNoWood_2 {X : Nat × (Nat → Int32)} {ar fi : Nat → Nat → Int32} {m1 m2 m3 m4 m5 : Nat} {S0 : Nat → Int32} {S1 : Nat → Int32} {K : Int32} {G_sc_setState : Int32 → Int32 → Int32 → (Nat → Int32) → (Nat → Int32) → Bool} {A0_sc_setState : Int32 → Int32 → Int32 → (Nat → Int32) → (Nat → Int32) → Nat → Int32} {A1_sc_setState : Int32 → Int32 → Int32 → (Nat → Int32) → (Nat → Int32) → Nat → Int32} : zseg X zFT (zEx 71 (P_sc_setState G_sc_setState A0_sc_setState A1_sc_setState) zE0) zc_70 (fun p => Nat.beq p 2) 400 2 [.ref 2, .int K] [] ((zup (zup ar 4 S0) 5 S1), fi, (m1, m2, m3, m4, m5)) = (
  bif decide (96 ≤ K) then
   some (.inr (none, ((zup (zup ar 4 S0) 5 S1), fi, (m1, m2, m3, m4, m5))))
  else
   zg (zin K 96) (
   bif decide ((ar 3) (K.toNatClampNeg) = 1) then
    some (.inl (2, [.ref 2, .int (K + 1)], [], ((zup (zup ar 4 S0) 5 S1), fi, (m1, m2, m3, m4, m5))))
   else
    zg (G_sc_setState K 0 0 S0 S1) (
    some (.inl (2, [.ref 2, .int (K + 1)], [], ((zup (zup (zup (zup ar 4 S0) 5 S1) 4 (A0_sc_setState K 0 0 S0 S1)) 5 (A1_sc_setState K 0 0 S0 S1)), fi, (m1, m2, m3, m4, m5)))))) : Option ((Nat × List Value × List Value × zH2) ⊕ zO2)) := by with_unfolding_all rfl
set_option maxRecDepth 10000 in
theorem e_sc_mendWhatIsNoWood_2 {X : Nat × (Nat → Int32)} {ar fi : Nat → Nat → Int32} {m1 m2 m3 m4 m5 : Nat} : zR2 X zFT (zEx 71 S_sc_setState zE0) (zC 70) 0 [.ref 2] [] (ar, fi, (m1, m2, m3, m4, m5)) (none, ((zup (zup ar 4 (a0_sc_mendWhatIsNoWood (ar 3) (ar 4) (ar 5))) 5 (a1_sc_mendWhatIsNoWood (ar 3) (ar 4) (ar 5))), fi, (m1, m2, m3, m4, m5))) := by
  refine zseg_go ?_ t0_sc_mendWhatIsNoWood_2
  have hl := zR2_loop (X := X) (FT := zFT) (E := (zEx 71 S_sc_setState zE0)) (c := zC 70) (o := (none, ((zup (zup ar 4 (a0_sc_mendWhatIsNoWood (ar 3) (ar 4) (ar 5))) 5 (a1_sc_mendWhatIsNoWood (ar 3) (ar 4) (ar 5))), fi, (m1, m2, m3, m4, m5)))) (σ := (Nat → Int32) × (Nat → Int32)) (fun k s => (2, [.ref 2, .int (nI k)], [], ((zup (zup ar 4 s.1) 5 s.2), fi, (m1, m2, m3, m4, m5)))) (b_sc_mendWhatIsNoWood (ar 3) (ar 4) (ar 5)) (fun _ _ => True) 96 0 ((ar 4), (ar 5)) trivial (fun k s h1 h2 _ => ⟨⟨(fun p => Nat.beq p 2), 400, ?_⟩, trivial⟩) ?_
  · dsimp only at hl ⊢
    try simp only [zup_zup, zup_same, zup_self] at hl ⊢
    exact hl
  · have hk : k < 96 := by omega
    refine t1_sc_mendWhatIsNoWood_2.trans ?_
    rw [show (decide (96 ≤ nI k)) = false from decide_eq_false (show ¬ ((96 : Int32) ≤ nI k) from nI_ge (b := 96) hk (by omega))]
    have hG := h_sc_mendWhatIsNoWood (ar 3) (ar 4) (ar 5) k s hk
    unfold b_sc_mendWhatIsNoWood
    rw [← nI_1 k]
    simp only [cond_false]
    cases hc1 : (decide ((ar 3) ((nI k).toNatClampNeg) = 1)) with
    | true =>
      try simp only [hc1, cond_true, cond_false] at hG ⊢
      all_goals try simp only [Bool.and_eq_true, Bool.true_and, Bool.and_true] at hG
      all_goals try simp only [hG, zg, cond_true, and_self]
      all_goals try simp (disch := decide) only [zup_sort, zup_zup, zup_same, zup_self]
      all_goals rfl
    | false =>
      try simp only [hc1, cond_true, cond_false] at hG ⊢
      all_goals try simp only [Bool.and_eq_true, Bool.true_and, Bool.and_true] at hG
      all_goals try simp only [hG, zg, cond_true, and_self]
      all_goals try simp (disch := decide) only [zup_sort, zup_zup, zup_same, zup_self]
      all_goals rfl
  · refine zseg_ret (stops := (fun p => Nat.beq p 2)) (n := 400) (t1_sc_mendWhatIsNoWood_2.trans ?_)
    rw [show (decide (96 ≤ nI (0 + 96))) = true from by decide]
    simp only [cond_true, a0_sc_mendWhatIsNoWood, a1_sc_mendWhatIsNoWood, z_sc_mendWhatIsNoWood]
    try simp (disch := decide) only [zup_sort, zup_zup, zup_same, zup_self]
    all_goals rfl
set_option maxRecDepth 10000 in
theorem t0_sc_mendWhatIsNoWood_9 {X : Nat × (Nat → Int32)} {ar fi : Nat → Nat → Int32} {m1 m2 m3 m4 m5 : Nat} {G_sc_setState : Int32 → Int32 → Int32 → (Nat → Int32) → (Nat → Int32) → Bool} {A0_sc_setState : Int32 → Int32 → Int32 → (Nat → Int32) → (Nat → Int32) → Nat → Int32} {A1_sc_setState : Int32 → Int32 → Int32 → (Nat → Int32) → (Nat → Int32) → Nat → Int32} : zseg X zFT (zEx 71 (P_sc_setState G_sc_setState A0_sc_setState A1_sc_setState) zE0) zc_70 (fun p => Nat.beq p 2) 400 0 [.ref 9] [] (ar, fi, (m1, m2, m3, m4, m5)) = (
  some (.inl (2, [.ref 9, .int 0], [], (ar, fi, (m1, m2, m3, m4, m5)))) : Option ((Nat × List Value × List Value × zH2) ⊕ zO2)) := by with_unfolding_all rfl
set_option maxRecDepth 10000 in
theorem t1_sc_mendWhatIsNoWood_9 {X : Nat × (Nat → Int32)} {ar fi : Nat → Nat → Int32} {m1 m2 m3 m4 m5 : Nat} {S0 : Nat → Int32} {S1 : Nat → Int32} {K : Int32} {G_sc_setState : Int32 → Int32 → Int32 → (Nat → Int32) → (Nat → Int32) → Bool} {A0_sc_setState : Int32 → Int32 → Int32 → (Nat → Int32) → (Nat → Int32) → Nat → Int32} {A1_sc_setState : Int32 → Int32 → Int32 → (Nat → Int32) → (Nat → Int32) → Nat → Int32} : zseg X zFT (zEx 71 (P_sc_setState G_sc_setState A0_sc_setState A1_sc_setState) zE0) zc_70 (fun p => Nat.beq p 2) 400 2 [.ref 9, .int K] [] ((zup (zup ar 11 S0) 12 S1), fi, (m1, m2, m3, m4, m5)) = (
  bif decide (96 ≤ K) then
   some (.inr (none, ((zup (zup ar 11 S0) 12 S1), fi, (m1, m2, m3, m4, m5))))
  else
   zg (zin K 96) (
   bif decide ((ar 10) (K.toNatClampNeg) = 1) then
    some (.inl (2, [.ref 9, .int (K + 1)], [], ((zup (zup ar 11 S0) 12 S1), fi, (m1, m2, m3, m4, m5))))
   else
    zg (G_sc_setState K 0 0 S0 S1) (
    some (.inl (2, [.ref 9, .int (K + 1)], [], ((zup (zup (zup (zup ar 11 S0) 12 S1) 11 (A0_sc_setState K 0 0 S0 S1)) 12 (A1_sc_setState K 0 0 S0 S1)), fi, (m1, m2, m3, m4, m5)))))) : Option ((Nat × List Value × List Value × zH2) ⊕ zO2)) := by with_unfolding_all rfl
set_option maxRecDepth 10000 in
theorem e_sc_mendWhatIsNoWood_9 {X : Nat × (Nat → Int32)} {ar fi : Nat → Nat → Int32} {m1 m2 m3 m4 m5 : Nat} : zR2 X zFT (zEx 71 S_sc_setState zE0) (zC 70) 0 [.ref 9] [] (ar, fi, (m1, m2, m3, m4, m5)) (none, ((zup (zup ar 11 (a0_sc_mendWhatIsNoWood (ar 10) (ar 11) (ar 12))) 12 (a1_sc_mendWhatIsNoWood (ar 10) (ar 11) (ar 12))), fi, (m1, m2, m3, m4, m5))) := by
  refine zseg_go ?_ t0_sc_mendWhatIsNoWood_9
  have hl := zR2_loop (X := X) (FT := zFT) (E := (zEx 71 S_sc_setState zE0)) (c := zC 70) (o := (none, ((zup (zup ar 11 (a0_sc_mendWhatIsNoWood (ar 10) (ar 11) (ar 12))) 12 (a1_sc_mendWhatIsNoWood (ar 10) (ar 11) (ar 12))), fi, (m1, m2, m3, m4, m5)))) (σ := (Nat → Int32) × (Nat → Int32)) (fun k s => (2, [.ref 9, .int (nI k)], [], ((zup (zup ar 11 s.1) 12 s.2), fi, (m1, m2, m3, m4, m5)))) (b_sc_mendWhatIsNoWood (ar 10) (ar 11) (ar 12)) (fun _ _ => True) 96 0 ((ar 11), (ar 12)) trivial (fun k s h1 h2 _ => ⟨⟨(fun p => Nat.beq p 2), 400, ?_⟩, trivial⟩) ?_
  · dsimp only at hl ⊢
    try simp only [zup_zup, zup_same, zup_self] at hl ⊢
    exact hl
  · have hk : k < 96 := by omega
    refine t1_sc_mendWhatIsNoWood_9.trans ?_
    rw [show (decide (96 ≤ nI k)) = false from decide_eq_false (show ¬ ((96 : Int32) ≤ nI k) from nI_ge (b := 96) hk (by omega))]
    have hG := h_sc_mendWhatIsNoWood (ar 10) (ar 11) (ar 12) k s hk
    unfold b_sc_mendWhatIsNoWood
    rw [← nI_1 k]
    simp only [cond_false]
    cases hc1 : (decide ((ar 10) ((nI k).toNatClampNeg) = 1)) with
    | true =>
      try simp only [hc1, cond_true, cond_false] at hG ⊢
      all_goals try simp only [Bool.and_eq_true, Bool.true_and, Bool.and_true] at hG
      all_goals try simp only [hG, zg, cond_true, and_self]
      all_goals try simp (disch := decide) only [zup_sort, zup_zup, zup_same, zup_self]
      all_goals rfl
    | false =>
      try simp only [hc1, cond_true, cond_false] at hG ⊢
      all_goals try simp only [Bool.and_eq_true, Bool.true_and, Bool.and_true] at hG
      all_goals try simp only [hG, zg, cond_true, and_self]
      all_goals try simp (disch := decide) only [zup_sort, zup_zup, zup_same, zup_self]
      all_goals rfl
  · refine zseg_ret (stops := (fun p => Nat.beq p 2)) (n := 400) (t1_sc_mendWhatIsNoWood_9.trans ?_)
    rw [show (decide (96 ≤ nI (0 + 96))) = true from by decide]
    simp only [cond_true, a0_sc_mendWhatIsNoWood, a1_sc_mendWhatIsNoWood, z_sc_mendWhatIsNoWood]
    try simp (disch := decide) only [zup_sort, zup_zup, zup_same, zup_self]
    all_goals rfl
set_option maxRecDepth 10000 in
theorem t0_sc_mendWhatIsNoWood_16 {X : Nat × (Nat → Int32)} {ar fi : Nat → Nat → Int32} {m1 m2 m3 m4 m5 : Nat} {G_sc_setState : Int32 → Int32 → Int32 → (Nat → Int32) → (Nat → Int32) → Bool} {A0_sc_setState : Int32 → Int32 → Int32 → (Nat → Int32) → (Nat → Int32) → Nat → Int32} {A1_sc_setState : Int32 → Int32 → Int32 → (Nat → Int32) → (Nat → Int32) → Nat → Int32} : zseg X zFT (zEx 71 (P_sc_setState G_sc_setState A0_sc_setState A1_sc_setState) zE0) zc_70 (fun p => Nat.beq p 2) 400 0 [.ref 16] [] (ar, fi, (m1, m2, m3, m4, m5)) = (
  some (.inl (2, [.ref 16, .int 0], [], (ar, fi, (m1, m2, m3, m4, m5)))) : Option ((Nat × List Value × List Value × zH2) ⊕ zO2)) := by with_unfolding_all rfl
set_option maxRecDepth 10000 in
theorem t1_sc_mendWhatIsNoWood_16 {X : Nat × (Nat → Int32)} {ar fi : Nat → Nat → Int32} {m1 m2 m3 m4 m5 : Nat} {S0 : Nat → Int32} {S1 : Nat → Int32} {K : Int32} {G_sc_setState : Int32 → Int32 → Int32 → (Nat → Int32) → (Nat → Int32) → Bool} {A0_sc_setState : Int32 → Int32 → Int32 → (Nat → Int32) → (Nat → Int32) → Nat → Int32} {A1_sc_setState : Int32 → Int32 → Int32 → (Nat → Int32) → (Nat → Int32) → Nat → Int32} : zseg X zFT (zEx 71 (P_sc_setState G_sc_setState A0_sc_setState A1_sc_setState) zE0) zc_70 (fun p => Nat.beq p 2) 400 2 [.ref 16, .int K] [] ((zup (zup ar 18 S0) 19 S1), fi, (m1, m2, m3, m4, m5)) = (
  bif decide (96 ≤ K) then
   some (.inr (none, ((zup (zup ar 18 S0) 19 S1), fi, (m1, m2, m3, m4, m5))))
  else
   zg (zin K 96) (
   bif decide ((ar 17) (K.toNatClampNeg) = 1) then
    some (.inl (2, [.ref 16, .int (K + 1)], [], ((zup (zup ar 18 S0) 19 S1), fi, (m1, m2, m3, m4, m5))))
   else
    zg (G_sc_setState K 0 0 S0 S1) (
    some (.inl (2, [.ref 16, .int (K + 1)], [], ((zup (zup (zup (zup ar 18 S0) 19 S1) 18 (A0_sc_setState K 0 0 S0 S1)) 19 (A1_sc_setState K 0 0 S0 S1)), fi, (m1, m2, m3, m4, m5)))))) : Option ((Nat × List Value × List Value × zH2) ⊕ zO2)) := by with_unfolding_all rfl
set_option maxRecDepth 10000 in
theorem e_sc_mendWhatIsNoWood_16 {X : Nat × (Nat → Int32)} {ar fi : Nat → Nat → Int32} {m1 m2 m3 m4 m5 : Nat} : zR2 X zFT (zEx 71 S_sc_setState zE0) (zC 70) 0 [.ref 16] [] (ar, fi, (m1, m2, m3, m4, m5)) (none, ((zup (zup ar 18 (a0_sc_mendWhatIsNoWood (ar 17) (ar 18) (ar 19))) 19 (a1_sc_mendWhatIsNoWood (ar 17) (ar 18) (ar 19))), fi, (m1, m2, m3, m4, m5))) := by
  refine zseg_go ?_ t0_sc_mendWhatIsNoWood_16
  have hl := zR2_loop (X := X) (FT := zFT) (E := (zEx 71 S_sc_setState zE0)) (c := zC 70) (o := (none, ((zup (zup ar 18 (a0_sc_mendWhatIsNoWood (ar 17) (ar 18) (ar 19))) 19 (a1_sc_mendWhatIsNoWood (ar 17) (ar 18) (ar 19))), fi, (m1, m2, m3, m4, m5)))) (σ := (Nat → Int32) × (Nat → Int32)) (fun k s => (2, [.ref 16, .int (nI k)], [], ((zup (zup ar 18 s.1) 19 s.2), fi, (m1, m2, m3, m4, m5)))) (b_sc_mendWhatIsNoWood (ar 17) (ar 18) (ar 19)) (fun _ _ => True) 96 0 ((ar 18), (ar 19)) trivial (fun k s h1 h2 _ => ⟨⟨(fun p => Nat.beq p 2), 400, ?_⟩, trivial⟩) ?_
  · dsimp only at hl ⊢
    try simp only [zup_zup, zup_same, zup_self] at hl ⊢
    exact hl
  · have hk : k < 96 := by omega
    refine t1_sc_mendWhatIsNoWood_16.trans ?_
    rw [show (decide (96 ≤ nI k)) = false from decide_eq_false (show ¬ ((96 : Int32) ≤ nI k) from nI_ge (b := 96) hk (by omega))]
    have hG := h_sc_mendWhatIsNoWood (ar 17) (ar 18) (ar 19) k s hk
    unfold b_sc_mendWhatIsNoWood
    rw [← nI_1 k]
    simp only [cond_false]
    cases hc1 : (decide ((ar 17) ((nI k).toNatClampNeg) = 1)) with
    | true =>
      try simp only [hc1, cond_true, cond_false] at hG ⊢
      all_goals try simp only [Bool.and_eq_true, Bool.true_and, Bool.and_true] at hG
      all_goals try simp only [hG, zg, cond_true, and_self]
      all_goals try simp (disch := decide) only [zup_sort, zup_zup, zup_same, zup_self]
      all_goals rfl
    | false =>
      try simp only [hc1, cond_true, cond_false] at hG ⊢
      all_goals try simp only [Bool.and_eq_true, Bool.true_and, Bool.and_true] at hG
      all_goals try simp only [hG, zg, cond_true, and_self]
      all_goals try simp (disch := decide) only [zup_sort, zup_zup, zup_same, zup_self]
      all_goals rfl
  · refine zseg_ret (stops := (fun p => Nat.beq p 2)) (n := 400) (t1_sc_mendWhatIsNoWood_16.trans ?_)
    rw [show (decide (96 ≤ nI (0 + 96))) = true from by decide]
    simp only [cond_true, a0_sc_mendWhatIsNoWood, a1_sc_mendWhatIsNoWood, z_sc_mendWhatIsNoWood]
    try simp (disch := decide) only [zup_sort, zup_zup, zup_same, zup_self]
    all_goals rfl
theorem ok_sc_mendWhatIsNoWood (X : Nat × (Nat → Int32)) : zOkS X 70 S_sc_mendWhatIsNoWood 2 := zOkS_new (zOkE_cons (ok_sc_setState X) (by decide) (zOkE_nil X 1)) (by
  intro args g o h
  obtain ⟨ar, fi, m1, m2, m3, m4, m5⟩ := g
  unfold S_sc_mendWhatIsNoWood P_sc_mendWhatIsNoWood at h
  split at h
  · refine zb_el h (fun hI0 k0 => ?_) (fun _ h10 => ?_)
    · have h2 := Option.some.inj k0
      have hG := congrArg Prod.fst h2
      have ho := congrArg Prod.snd h2
      dsimp only at hG ho
      subst ho
      try simp only [Bool.and_eq_true] at hI0
      have j0 := hI0
      have e0 := Nat.eq_of_beq_eq_true j0
      subst e0
      exact e_sc_mendWhatIsNoWood_2
    · skip
      refine zb_el h10 (fun hI1 k1 => ?_) (fun _ h11 => ?_)
      · have h2 := Option.some.inj k1
        have hG := congrArg Prod.fst h2
        have ho := congrArg Prod.snd h2
        dsimp only at hG ho
        subst ho
        try simp only [Bool.and_eq_true] at hI1
        have j0 := hI1
        have e0 := Nat.eq_of_beq_eq_true j0
        subst e0
        exact e_sc_mendWhatIsNoWood_9
      · skip
        refine zb_el h11 (fun hI2 k2 => ?_) (fun _ h12 => ?_)
        · have h2 := Option.some.inj k2
          have hG := congrArg Prod.fst h2
          have ho := congrArg Prod.snd h2
          dsimp only at hG ho
          subst ho
          try simp only [Bool.and_eq_true] at hI2
          have j0 := hI2
          have e0 := Nat.eq_of_beq_eq_true j0
          subst e0
          exact e_sc_mendWhatIsNoWood_16
        · cases h12
  · cases h)
def b_sc_loseBareThingsAt (x : Int32) (p0 : Nat → Int32) (p1 : Int32) (p2 : Nat → Int32) (p3 : Int32) (k : Nat) (s : Int32) : Int32 := (bif !decide (p0 ((nI k).toNatClampNeg) = 0) then s else (bif decide (w_sc_isLeftAt (nI k) x (p1) s p2 = 0) then s else s ||| (1 <<< ((nI k) &&& 31))))
def z_sc_loseBareThingsAt (x : Int32) (p0 : Nat → Int32) (p1 : Int32) (p2 : Nat → Int32) (p3 : Int32) : Int32 := zfo (b_sc_loseBareThingsAt x p0 p1 p2 p3) 24 0 p3
def f0_sc_loseBareThingsAt (x : Int32) (p0 : Nat → Int32) (p1 : Int32) (p2 : Nat → Int32) (p3 : Int32) : Int32 := (z_sc_loseBareThingsAt x p0 p1 p2 p3)
theorem h_sc_loseBareThingsAt (x : Int32) (p0 : Nat → Int32) (p1 : Int32) (p2 : Nat → Int32) (p3 : Int32) (k : Nat) (s : Int32) (hk : k < 24) : ((zin (nI k) 24) && (bif !decide (p0 ((nI k).toNatClampNeg) = 0) then true else g_sc_isLeftAt (nI k) x (p1) s p2)) = true := by
  have hz : zin (nI k) 24 = true := zin_nI hk (by omega)
  simp only [hz, g_sc_isLeftAt, zm_e, Bool.and_self, Bool.and_true]
def P_sc_loseBareThingsAt (F0 : Int32 → (Nat → Int32) → Int32 → (Nat → Int32) → Int32 → Int32) : zSp := fun as g => match as with
  | [.ref a, .int x] => bif Nat.beq a 2 then some (true, (none, (g.1, (zup g.2.1 2 (zup (g.2.1 2) 7 (F0 x (g.1 8) (g.2.1 2 6) (g.1 6) (g.2.1 2 7)))), g.2.2))) else bif Nat.beq a 9 then some (true, (none, (g.1, (zup g.2.1 9 (zup (g.2.1 9) 7 (F0 x (g.1 15) (g.2.1 9 6) (g.1 13) (g.2.1 9 7)))), g.2.2))) else bif Nat.beq a 16 then some (true, (none, (g.1, (zup g.2.1 16 (zup (g.2.1 16) 7 (F0 x (g.1 22) (g.2.1 16 6) (g.1 20) (g.2.1 16 7)))), g.2.2))) else none
  | _ => none
abbrev S_sc_loseBareThingsAt : zSp := P_sc_loseBareThingsAt f0_sc_loseBareThingsAt
set_option maxRecDepth 10000 in
theorem t0_sc_loseBareThingsAt_2 {X : Nat × (Nat → Int32)} {ar fi : Nat → Nat → Int32} {m1 m2 m3 m4 m5 : Nat} {x : Int32} {G_sc_isLeftAt : Int32 → Int32 → Int32 → Int32 → (Nat → Int32) → Bool} {W_sc_isLeftAt : Int32 → Int32 → Int32 → Int32 → (Nat → Int32) → Int32} : zseg X zFT (zEx 80 (P_sc_isLeftAt G_sc_isLeftAt W_sc_isLeftAt) zE0) zc_86 (fun p => Nat.beq p 2) 400 0 [.ref 2, .int x] [] (ar, fi, (m1, m2, m3, m4, m5)) = (
  some (.inl (2, [.ref 2, .int x, .int 0], [], (ar, fi, (m1, m2, m3, m4, m5)))) : Option ((Nat × List Value × List Value × zH2) ⊕ zO2)) := by with_unfolding_all rfl
set_option maxRecDepth 10000 in
theorem t1_sc_loseBareThingsAt_2 {X : Nat × (Nat → Int32)} {ar fi : Nat → Nat → Int32} {m1 m2 m3 m4 m5 : Nat} {x : Int32} {S0 : Int32} {K : Int32} {G_sc_isLeftAt : Int32 → Int32 → Int32 → Int32 → (Nat → Int32) → Bool} {W_sc_isLeftAt : Int32 → Int32 → Int32 → Int32 → (Nat → Int32) → Int32} : zseg X zFT (zEx 80 (P_sc_isLeftAt G_sc_isLeftAt W_sc_isLeftAt) zE0) zc_86 (fun p => Nat.beq p 2) 400 2 [.ref 2, .int x, .int K] [] (ar, (zup fi 2 (zup (fi 2) 7 S0)), (m1, m2, m3, m4, m5)) = (
  bif decide (24 ≤ K) then
   some (.inr (none, (ar, (zup fi 2 (zup (fi 2) 7 S0)), (m1, m2, m3, m4, m5))))
  else
   zg (zin K 24) (
   bif !decide ((ar 8) (K.toNatClampNeg) = 0) then
    some (.inl (2, [.ref 2, .int x, .int (K + 1)], [], (ar, (zup fi 2 (zup (fi 2) 7 S0)), (m1, m2, m3, m4, m5))))
   else
    zg (G_sc_isLeftAt K x (fi 2 6) S0 (ar 6)) (
    bif decide (W_sc_isLeftAt K x (fi 2 6) S0 (ar 6) = 0) then
     some (.inl (2, [.ref 2, .int x, .int (K + 1)], [], (ar, (zup fi 2 (zup (fi 2) 7 S0)), (m1, m2, m3, m4, m5))))
    else
     some (.inl (2, [.ref 2, .int x, .int (K + 1)], [], (ar, (zup (zup fi 2 (zup (fi 2) 7 S0)) 2 (zup ((zup fi 2 (zup (fi 2) 7 S0)) 2) 7 (S0 ||| (1 <<< (K &&& 31))))), (m1, m2, m3, m4, m5)))))) : Option ((Nat × List Value × List Value × zH2) ⊕ zO2)) := by with_unfolding_all rfl
set_option maxRecDepth 10000 in
theorem e_sc_loseBareThingsAt_2 {X : Nat × (Nat → Int32)} {ar fi : Nat → Nat → Int32} {m1 m2 m3 m4 m5 : Nat} {x : Int32} : zR2 X zFT (zEx 80 S_sc_isLeftAt zE0) (zC 86) 0 [.ref 2, .int x] [] (ar, fi, (m1, m2, m3, m4, m5)) (none, (ar, (zup fi 2 (zup (fi 2) 7 (f0_sc_loseBareThingsAt x (ar 8) (fi 2 6) (ar 6) (fi 2 7)))), (m1, m2, m3, m4, m5))) := by
  refine zseg_go ?_ t0_sc_loseBareThingsAt_2
  have hl := zR2_loop (X := X) (FT := zFT) (E := (zEx 80 S_sc_isLeftAt zE0)) (c := zC 86) (o := (none, (ar, (zup fi 2 (zup (fi 2) 7 (f0_sc_loseBareThingsAt x (ar 8) (fi 2 6) (ar 6) (fi 2 7)))), (m1, m2, m3, m4, m5)))) (σ := Int32) (fun k s => (2, [.ref 2, .int x, .int (nI k)], [], (ar, (zup fi 2 (zup (fi 2) 7 s)), (m1, m2, m3, m4, m5)))) (b_sc_loseBareThingsAt x (ar 8) (fi 2 6) (ar 6) (fi 2 7)) (fun _ _ => True) 24 0 (fi 2 7) trivial (fun k s h1 h2 _ => ⟨⟨(fun p => Nat.beq p 2), 400, ?_⟩, trivial⟩) ?_
  · dsimp only at hl ⊢
    try simp only [zup_zup, zup_same, zup_self] at hl ⊢
    exact hl
  · have hk : k < 24 := by omega
    refine t1_sc_loseBareThingsAt_2.trans ?_
    rw [show (decide (24 ≤ nI k)) = false from decide_eq_false (show ¬ ((24 : Int32) ≤ nI k) from nI_ge (b := 24) hk (by omega))]
    have hG := h_sc_loseBareThingsAt x (ar 8) (fi 2 6) (ar 6) (fi 2 7) k s hk
    unfold b_sc_loseBareThingsAt
    rw [← nI_1 k]
    simp only [cond_false]
    cases hc1 : (!decide ((ar 8) ((nI k).toNatClampNeg) = 0)) with
    | true =>
      try simp only [hc1, cond_true, cond_false] at hG ⊢
      all_goals try simp only [Bool.and_eq_true, Bool.true_and, Bool.and_true] at hG
      all_goals try simp only [hG, zg, cond_true, and_self]
      all_goals try simp (disch := decide) only [zup_sort, zup_zup, zup_same, zup_self]
      all_goals rfl
    | false =>
      try simp only [hc1, cond_true, cond_false] at hG ⊢
      cases hc2 : (decide (w_sc_isLeftAt (nI k) x (fi 2 6) s (ar 6) = 0)) with
      | true =>
        try simp only [hc2, cond_true, cond_false] at hG ⊢
        all_goals try simp only [Bool.and_eq_true, Bool.true_and, Bool.and_true] at hG
        all_goals try simp only [hG, zg, cond_true, and_self]
        all_goals try simp (disch := decide) only [zup_sort, zup_zup, zup_same, zup_self]
        all_goals rfl
      | false =>
        try simp only [hc2, cond_true, cond_false] at hG ⊢
        all_goals try simp only [Bool.and_eq_true, Bool.true_and, Bool.and_true] at hG
        all_goals try simp only [hG, zg, cond_true, and_self]
        all_goals try simp (disch := decide) only [zup_sort, zup_zup, zup_same, zup_self]
        all_goals rfl
  · refine zseg_ret (stops := (fun p => Nat.beq p 2)) (n := 400) (t1_sc_loseBareThingsAt_2.trans ?_)
    rw [show (decide (24 ≤ nI (0 + 24))) = true from by decide]
    simp only [cond_true, f0_sc_loseBareThingsAt, z_sc_loseBareThingsAt]
    try simp (disch := decide) only [zup_sort, zup_zup, zup_same, zup_self]
    all_goals rfl
set_option maxRecDepth 10000 in
theorem t0_sc_loseBareThingsAt_9 {X : Nat × (Nat → Int32)} {ar fi : Nat → Nat → Int32} {m1 m2 m3 m4 m5 : Nat} {x : Int32} {G_sc_isLeftAt : Int32 → Int32 → Int32 → Int32 → (Nat → Int32) → Bool} {W_sc_isLeftAt : Int32 → Int32 → Int32 → Int32 → (Nat → Int32) → Int32} : zseg X zFT (zEx 80 (P_sc_isLeftAt G_sc_isLeftAt W_sc_isLeftAt) zE0) zc_86 (fun p => Nat.beq p 2) 400 0 [.ref 9, .int x] [] (ar, fi, (m1, m2, m3, m4, m5)) = (
  some (.inl (2, [.ref 9, .int x, .int 0], [], (ar, fi, (m1, m2, m3, m4, m5)))) : Option ((Nat × List Value × List Value × zH2) ⊕ zO2)) := by with_unfolding_all rfl
set_option maxRecDepth 10000 in
theorem t1_sc_loseBareThingsAt_9 {X : Nat × (Nat → Int32)} {ar fi : Nat → Nat → Int32} {m1 m2 m3 m4 m5 : Nat} {x : Int32} {S0 : Int32} {K : Int32} {G_sc_isLeftAt : Int32 → Int32 → Int32 → Int32 → (Nat → Int32) → Bool} {W_sc_isLeftAt : Int32 → Int32 → Int32 → Int32 → (Nat → Int32) → Int32} : zseg X zFT (zEx 80 (P_sc_isLeftAt G_sc_isLeftAt W_sc_isLeftAt) zE0) zc_86 (fun p => Nat.beq p 2) 400 2 [.ref 9, .int x, .int K] [] (ar, (zup fi 9 (zup (fi 9) 7 S0)), (m1, m2, m3, m4, m5)) = (
  bif decide (24 ≤ K) then
   some (.inr (none, (ar, (zup fi 9 (zup (fi 9) 7 S0)), (m1, m2, m3, m4, m5))))
  else
   zg (zin K 24) (
   bif !decide ((ar 15) (K.toNatClampNeg) = 0) then
    some (.inl (2, [.ref 9, .int x, .int (K + 1)], [], (ar, (zup fi 9 (zup (fi 9) 7 S0)), (m1, m2, m3, m4, m5))))
   else
    zg (G_sc_isLeftAt K x (fi 9 6) S0 (ar 13)) (
    bif decide (W_sc_isLeftAt K x (fi 9 6) S0 (ar 13) = 0) then
     some (.inl (2, [.ref 9, .int x, .int (K + 1)], [], (ar, (zup fi 9 (zup (fi 9) 7 S0)), (m1, m2, m3, m4, m5))))
    else
     some (.inl (2, [.ref 9, .int x, .int (K + 1)], [], (ar, (zup (zup fi 9 (zup (fi 9) 7 S0)) 9 (zup ((zup fi 9 (zup (fi 9) 7 S0)) 9) 7 (S0 ||| (1 <<< (K &&& 31))))), (m1, m2, m3, m4, m5)))))) : Option ((Nat × List Value × List Value × zH2) ⊕ zO2)) := by with_unfolding_all rfl
set_option maxRecDepth 10000 in
theorem e_sc_loseBareThingsAt_9 {X : Nat × (Nat → Int32)} {ar fi : Nat → Nat → Int32} {m1 m2 m3 m4 m5 : Nat} {x : Int32} : zR2 X zFT (zEx 80 S_sc_isLeftAt zE0) (zC 86) 0 [.ref 9, .int x] [] (ar, fi, (m1, m2, m3, m4, m5)) (none, (ar, (zup fi 9 (zup (fi 9) 7 (f0_sc_loseBareThingsAt x (ar 15) (fi 9 6) (ar 13) (fi 9 7)))), (m1, m2, m3, m4, m5))) := by
  refine zseg_go ?_ t0_sc_loseBareThingsAt_9
  have hl := zR2_loop (X := X) (FT := zFT) (E := (zEx 80 S_sc_isLeftAt zE0)) (c := zC 86) (o := (none, (ar, (zup fi 9 (zup (fi 9) 7 (f0_sc_loseBareThingsAt x (ar 15) (fi 9 6) (ar 13) (fi 9 7)))), (m1, m2, m3, m4, m5)))) (σ := Int32) (fun k s => (2, [.ref 9, .int x, .int (nI k)], [], (ar, (zup fi 9 (zup (fi 9) 7 s)), (m1, m2, m3, m4, m5)))) (b_sc_loseBareThingsAt x (ar 15) (fi 9 6) (ar 13) (fi 9 7)) (fun _ _ => True) 24 0 (fi 9 7) trivial (fun k s h1 h2 _ => ⟨⟨(fun p => Nat.beq p 2), 400, ?_⟩, trivial⟩) ?_
  · dsimp only at hl ⊢
    try simp only [zup_zup, zup_same, zup_self] at hl ⊢
    exact hl
  · have hk : k < 24 := by omega
    refine t1_sc_loseBareThingsAt_9.trans ?_
    rw [show (decide (24 ≤ nI k)) = false from decide_eq_false (show ¬ ((24 : Int32) ≤ nI k) from nI_ge (b := 24) hk (by omega))]
    have hG := h_sc_loseBareThingsAt x (ar 15) (fi 9 6) (ar 13) (fi 9 7) k s hk
    unfold b_sc_loseBareThingsAt
    rw [← nI_1 k]
    simp only [cond_false]
    cases hc1 : (!decide ((ar 15) ((nI k).toNatClampNeg) = 0)) with
    | true =>
      try simp only [hc1, cond_true, cond_false] at hG ⊢
      all_goals try simp only [Bool.and_eq_true, Bool.true_and, Bool.and_true] at hG
      all_goals try simp only [hG, zg, cond_true, and_self]
      all_goals try simp (disch := decide) only [zup_sort, zup_zup, zup_same, zup_self]
      all_goals rfl
    | false =>
      try simp only [hc1, cond_true, cond_false] at hG ⊢
      cases hc2 : (decide (w_sc_isLeftAt (nI k) x (fi 9 6) s (ar 13) = 0)) with
      | true =>
        try simp only [hc2, cond_true, cond_false] at hG ⊢
        all_goals try simp only [Bool.and_eq_true, Bool.true_and, Bool.and_true] at hG
        all_goals try simp only [hG, zg, cond_true, and_self]
        all_goals try simp (disch := decide) only [zup_sort, zup_zup, zup_same, zup_self]
        all_goals rfl
      | false =>
        try simp only [hc2, cond_true, cond_false] at hG ⊢
        all_goals try simp only [Bool.and_eq_true, Bool.true_and, Bool.and_true] at hG
        all_goals try simp only [hG, zg, cond_true, and_self]
        all_goals try simp (disch := decide) only [zup_sort, zup_zup, zup_same, zup_self]
        all_goals rfl
  · refine zseg_ret (stops := (fun p => Nat.beq p 2)) (n := 400) (t1_sc_loseBareThingsAt_9.trans ?_)
    rw [show (decide (24 ≤ nI (0 + 24))) = true from by decide]
    simp only [cond_true, f0_sc_loseBareThingsAt, z_sc_loseBareThingsAt]
    try simp (disch := decide) only [zup_sort, zup_zup, zup_same, zup_self]
    all_goals rfl
set_option maxRecDepth 10000 in
theorem t0_sc_loseBareThingsAt_16 {X : Nat × (Nat → Int32)} {ar fi : Nat → Nat → Int32} {m1 m2 m3 m4 m5 : Nat} {x : Int32} {G_sc_isLeftAt : Int32 → Int32 → Int32 → Int32 → (Nat → Int32) → Bool} {W_sc_isLeftAt : Int32 → Int32 → Int32 → Int32 → (Nat → Int32) → Int32} : zseg X zFT (zEx 80 (P_sc_isLeftAt G_sc_isLeftAt W_sc_isLeftAt) zE0) zc_86 (fun p => Nat.beq p 2) 400 0 [.ref 16, .int x] [] (ar, fi, (m1, m2, m3, m4, m5)) = (
  some (.inl (2, [.ref 16, .int x, .int 0], [], (ar, fi, (m1, m2, m3, m4, m5)))) : Option ((Nat × List Value × List Value × zH2) ⊕ zO2)) := by with_unfolding_all rfl
set_option maxRecDepth 10000 in
theorem t1_sc_loseBareThingsAt_16 {X : Nat × (Nat → Int32)} {ar fi : Nat → Nat → Int32} {m1 m2 m3 m4 m5 : Nat} {x : Int32} {S0 : Int32} {K : Int32} {G_sc_isLeftAt : Int32 → Int32 → Int32 → Int32 → (Nat → Int32) → Bool} {W_sc_isLeftAt : Int32 → Int32 → Int32 → Int32 → (Nat → Int32) → Int32} : zseg X zFT (zEx 80 (P_sc_isLeftAt G_sc_isLeftAt W_sc_isLeftAt) zE0) zc_86 (fun p => Nat.beq p 2) 400 2 [.ref 16, .int x, .int K] [] (ar, (zup fi 16 (zup (fi 16) 7 S0)), (m1, m2, m3, m4, m5)) = (
  bif decide (24 ≤ K) then
   some (.inr (none, (ar, (zup fi 16 (zup (fi 16) 7 S0)), (m1, m2, m3, m4, m5))))
  else
   zg (zin K 24) (
   bif !decide ((ar 22) (K.toNatClampNeg) = 0) then
    some (.inl (2, [.ref 16, .int x, .int (K + 1)], [], (ar, (zup fi 16 (zup (fi 16) 7 S0)), (m1, m2, m3, m4, m5))))
   else
    zg (G_sc_isLeftAt K x (fi 16 6) S0 (ar 20)) (
    bif decide (W_sc_isLeftAt K x (fi 16 6) S0 (ar 20) = 0) then
     some (.inl (2, [.ref 16, .int x, .int (K + 1)], [], (ar, (zup fi 16 (zup (fi 16) 7 S0)), (m1, m2, m3, m4, m5))))
    else
     some (.inl (2, [.ref 16, .int x, .int (K + 1)], [], (ar, (zup (zup fi 16 (zup (fi 16) 7 S0)) 16 (zup ((zup fi 16 (zup (fi 16) 7 S0)) 16) 7 (S0 ||| (1 <<< (K &&& 31))))), (m1, m2, m3, m4, m5)))))) : Option ((Nat × List Value × List Value × zH2) ⊕ zO2)) := by with_unfolding_all rfl
set_option maxRecDepth 10000 in
theorem e_sc_loseBareThingsAt_16 {X : Nat × (Nat → Int32)} {ar fi : Nat → Nat → Int32} {m1 m2 m3 m4 m5 : Nat} {x : Int32} : zR2 X zFT (zEx 80 S_sc_isLeftAt zE0) (zC 86) 0 [.ref 16, .int x] [] (ar, fi, (m1, m2, m3, m4, m5)) (none, (ar, (zup fi 16 (zup (fi 16) 7 (f0_sc_loseBareThingsAt x (ar 22) (fi 16 6) (ar 20) (fi 16 7)))), (m1, m2, m3, m4, m5))) := by
  refine zseg_go ?_ t0_sc_loseBareThingsAt_16
  have hl := zR2_loop (X := X) (FT := zFT) (E := (zEx 80 S_sc_isLeftAt zE0)) (c := zC 86) (o := (none, (ar, (zup fi 16 (zup (fi 16) 7 (f0_sc_loseBareThingsAt x (ar 22) (fi 16 6) (ar 20) (fi 16 7)))), (m1, m2, m3, m4, m5)))) (σ := Int32) (fun k s => (2, [.ref 16, .int x, .int (nI k)], [], (ar, (zup fi 16 (zup (fi 16) 7 s)), (m1, m2, m3, m4, m5)))) (b_sc_loseBareThingsAt x (ar 22) (fi 16 6) (ar 20) (fi 16 7)) (fun _ _ => True) 24 0 (fi 16 7) trivial (fun k s h1 h2 _ => ⟨⟨(fun p => Nat.beq p 2), 400, ?_⟩, trivial⟩) ?_
  · dsimp only at hl ⊢
    try simp only [zup_zup, zup_same, zup_self] at hl ⊢
    exact hl
  · have hk : k < 24 := by omega
    refine t1_sc_loseBareThingsAt_16.trans ?_
    rw [show (decide (24 ≤ nI k)) = false from decide_eq_false (show ¬ ((24 : Int32) ≤ nI k) from nI_ge (b := 24) hk (by omega))]
    have hG := h_sc_loseBareThingsAt x (ar 22) (fi 16 6) (ar 20) (fi 16 7) k s hk
    unfold b_sc_loseBareThingsAt
    rw [← nI_1 k]
    simp only [cond_false]
    cases hc1 : (!decide ((ar 22) ((nI k).toNatClampNeg) = 0)) with
    | true =>
      try simp only [hc1, cond_true, cond_false] at hG ⊢
      all_goals try simp only [Bool.and_eq_true, Bool.true_and, Bool.and_true] at hG
      all_goals try simp only [hG, zg, cond_true, and_self]
      all_goals try simp (disch := decide) only [zup_sort, zup_zup, zup_same, zup_self]
      all_goals rfl
    | false =>
      try simp only [hc1, cond_true, cond_false] at hG ⊢
      cases hc2 : (decide (w_sc_isLeftAt (nI k) x (fi 16 6) s (ar 20) = 0)) with
      | true =>
        try simp only [hc2, cond_true, cond_false] at hG ⊢
        all_goals try simp only [Bool.and_eq_true, Bool.true_and, Bool.and_true] at hG
        all_goals try simp only [hG, zg, cond_true, and_self]
        all_goals try simp (disch := decide) only [zup_sort, zup_zup, zup_same, zup_self]
        all_goals rfl
      | false =>
        try simp only [hc2, cond_true, cond_false] at hG ⊢
        all_goals try simp only [Bool.and_eq_true, Bool.true_and, Bool.and_true] at hG
        all_goals try simp only [hG, zg, cond_true, and_self]
        all_goals try simp (disch := decide) only [zup_sort, zup_zup, zup_same, zup_self]
        all_goals rfl
  · refine zseg_ret (stops := (fun p => Nat.beq p 2)) (n := 400) (t1_sc_loseBareThingsAt_16.trans ?_)
    rw [show (decide (24 ≤ nI (0 + 24))) = true from by decide]
    simp only [cond_true, f0_sc_loseBareThingsAt, z_sc_loseBareThingsAt]
    try simp (disch := decide) only [zup_sort, zup_zup, zup_same, zup_self]
    all_goals rfl
theorem ok_sc_loseBareThingsAt (X : Nat × (Nat → Int32)) : zOkS X 86 S_sc_loseBareThingsAt 3 := zOkS_new (zOkE_cons (ok_sc_isLeftAt X) (by decide) (zOkE_nil X 2)) (by
  intro args g o h
  obtain ⟨ar, fi, m1, m2, m3, m4, m5⟩ := g
  unfold S_sc_loseBareThingsAt P_sc_loseBareThingsAt at h
  split at h
  · refine zb_el h (fun hI0 k0 => ?_) (fun _ h10 => ?_)
    · have h2 := Option.some.inj k0
      have hG := congrArg Prod.fst h2
      have ho := congrArg Prod.snd h2
      dsimp only at hG ho
      subst ho
      try simp only [Bool.and_eq_true] at hI0
      have j0 := hI0
      have e0 := Nat.eq_of_beq_eq_true j0
      subst e0
      exact e_sc_loseBareThingsAt_2
    · skip
      refine zb_el h10 (fun hI1 k1 => ?_) (fun _ h11 => ?_)
      · have h2 := Option.some.inj k1
        have hG := congrArg Prod.fst h2
        have ho := congrArg Prod.snd h2
        dsimp only at hG ho
        subst ho
        try simp only [Bool.and_eq_true] at hI1
        have j0 := hI1
        have e0 := Nat.eq_of_beq_eq_true j0
        subst e0
        exact e_sc_loseBareThingsAt_9
      · skip
        refine zb_el h11 (fun hI2 k2 => ?_) (fun _ h12 => ?_)
        · have h2 := Option.some.inj k2
          have hG := congrArg Prod.fst h2
          have ho := congrArg Prod.snd h2
          dsimp only at hG ho
          subst ho
          try simp only [Bool.and_eq_true] at hI2
          have j0 := hI2
          have e0 := Nat.eq_of_beq_eq_true j0
          subst e0
          exact e_sc_loseBareThingsAt_16
        · cases h12
  · cases h)
def b_sc_buildAnew (p0 : Nat → Int32) (p1 : Nat → Int32) (p2 : Nat → Int32) (p3 : Nat → Int32) (k : Nat) (s : (Nat → Int32) × (Nat → Int32) × (Nat → Int32)) : (Nat → Int32) × (Nat → Int32) × (Nat → Int32) := ((zup s.1 ((nI k).toNatClampNeg) (p0 ((nI k).toNatClampNeg))), (a0_sc_setState (nI k) 0 0 s.2.1 s.2.2), (a1_sc_setState (nI k) 0 0 s.2.1 s.2.2))
def z_sc_buildAnew (p0 : Nat → Int32) (p1 : Nat → Int32) (p2 : Nat → Int32) (p3 : Nat → Int32) : (Nat → Int32) × (Nat → Int32) × (Nat → Int32) := zfo (b_sc_buildAnew p0 p1 p2 p3) 96 0 (p1, p2, p3)
def a0_sc_buildAnew (p0 : Nat → Int32) (p1 : Nat → Int32) (p2 : Nat → Int32) (p3 : Nat → Int32) : Nat → Int32 := (z_sc_buildAnew p0 p1 p2 p3).1
def a1_sc_buildAnew (p0 : Nat → Int32) (p1 : Nat → Int32) (p2 : Nat → Int32) (p3 : Nat → Int32) : Nat → Int32 := (z_sc_buildAnew p0 p1 p2 p3).2.1
def a2_sc_buildAnew (p0 : Nat → Int32) (p1 : Nat → Int32) (p2 : Nat → Int32) (p3 : Nat → Int32) : Nat → Int32 := (z_sc_buildAnew p0 p1 p2 p3).2.2
theorem h_sc_buildAnew (p0 : Nat → Int32) (p1 : Nat → Int32) (p2 : Nat → Int32) (p3 : Nat → Int32) (k : Nat) (s : (Nat → Int32) × (Nat → Int32) × (Nat → Int32)) (hk : k < 96) : ((zin (nI k) 96) && ((zin (nI k) 96) && (g_sc_setState (nI k) 0 0 s.2.1 s.2.2))) = true := by
  have hz : zin (nI k) 96 = true := zin_nI hk (by omega)
  simp only [hz, g_sc_setState, zm_e, Bool.and_self, Bool.and_true]
def P_sc_buildAnew (A0 : (Nat → Int32) → (Nat → Int32) → (Nat → Int32) → (Nat → Int32) → Nat → Int32) (A1 : (Nat → Int32) → (Nat → Int32) → (Nat → Int32) → (Nat → Int32) → Nat → Int32) (A2 : (Nat → Int32) → (Nat → Int32) → (Nat → Int32) → (Nat → Int32) → Nat → Int32) : zSp := fun as g => match as with
  | [.ref a, .ref b] => bif Nat.beq a 2 && Nat.beq b 43 then some (true, (none, ((zup (zup (zup g.1 3 (A0 (g.1 43) (g.1 3) (g.1 4) (g.1 5))) 4 (A1 (g.1 43) (g.1 3) (g.1 4) (g.1 5))) 5 (A2 (g.1 43) (g.1 3) (g.1 4) (g.1 5))), g.2.1, g.2.2))) else none
  | _ => none
abbrev S_sc_buildAnew : zSp := P_sc_buildAnew a0_sc_buildAnew a1_sc_buildAnew a2_sc_buildAnew
set_option maxRecDepth 10000 in
theorem t0_sc_buildAnew {X : Nat × (Nat → Int32)} {ar fi : Nat → Nat → Int32} {m1 m2 m3 m4 m5 : Nat} {G_sc_setState : Int32 → Int32 → Int32 → (Nat → Int32) → (Nat → Int32) → Bool} {A0_sc_setState : Int32 → Int32 → Int32 → (Nat → Int32) → (Nat → Int32) → Nat → Int32} {A1_sc_setState : Int32 → Int32 → Int32 → (Nat → Int32) → (Nat → Int32) → Nat → Int32} : zseg X zFT (zEx 71 (P_sc_setState G_sc_setState A0_sc_setState A1_sc_setState) zE0) zc_69 (fun p => Nat.beq p 2) 400 0 [.ref 2, .ref 43] [] (ar, fi, (m1, m2, m3, m4, m5)) = (
  some (.inl (2, [.ref 2, .ref 43, .int 0], [], (ar, fi, (m1, m2, m3, m4, m5)))) : Option ((Nat × List Value × List Value × zH2) ⊕ zO2)) := by with_unfolding_all rfl
set_option maxRecDepth 10000 in
theorem t1_sc_buildAnew {X : Nat × (Nat → Int32)} {ar fi : Nat → Nat → Int32} {m1 m2 m3 m4 m5 : Nat} {S0 : Nat → Int32} {S1 : Nat → Int32} {S2 : Nat → Int32} {K : Int32} {G_sc_setState : Int32 → Int32 → Int32 → (Nat → Int32) → (Nat → Int32) → Bool} {A0_sc_setState : Int32 → Int32 → Int32 → (Nat → Int32) → (Nat → Int32) → Nat → Int32} {A1_sc_setState : Int32 → Int32 → Int32 → (Nat → Int32) → (Nat → Int32) → Nat → Int32} : zseg X zFT (zEx 71 (P_sc_setState G_sc_setState A0_sc_setState A1_sc_setState) zE0) zc_69 (fun p => Nat.beq p 2) 400 2 [.ref 2, .ref 43, .int K] [] ((zup (zup (zup ar 3 S0) 4 S1) 5 S2), fi, (m1, m2, m3, m4, m5)) = (
  bif decide (96 ≤ K) then
   some (.inr (none, ((zup (zup (zup ar 3 S0) 4 S1) 5 S2), fi, (m1, m2, m3, m4, m5))))
  else
   zg (zin K 96) (
   zg (zin K 96) (
   zg (G_sc_setState K 0 0 S1 S2) (
   some (.inl (2, [.ref 2, .ref 43, .int (K + 1)], [], ((zup (zup (zup (zup (zup (zup ar 3 S0) 4 S1) 5 S2) 3 (zup S0 (K.toNatClampNeg) ((ar 43) (K.toNatClampNeg)))) 4 (A0_sc_setState K 0 0 S1 S2)) 5 (A1_sc_setState K 0 0 S1 S2)), fi, (m1, m2, m3, m4, m5))))))) : Option ((Nat × List Value × List Value × zH2) ⊕ zO2)) := by with_unfolding_all rfl
set_option maxRecDepth 10000 in
theorem e_sc_buildAnew {X : Nat × (Nat → Int32)} {ar fi : Nat → Nat → Int32} {m1 m2 m3 m4 m5 : Nat} : zR2 X zFT (zEx 71 S_sc_setState zE0) (zC 69) 0 [.ref 2, .ref 43] [] (ar, fi, (m1, m2, m3, m4, m5)) (none, ((zup (zup (zup ar 3 (a0_sc_buildAnew (ar 43) (ar 3) (ar 4) (ar 5))) 4 (a1_sc_buildAnew (ar 43) (ar 3) (ar 4) (ar 5))) 5 (a2_sc_buildAnew (ar 43) (ar 3) (ar 4) (ar 5))), fi, (m1, m2, m3, m4, m5))) := by
  refine zseg_go ?_ t0_sc_buildAnew
  have hl := zR2_loop (X := X) (FT := zFT) (E := (zEx 71 S_sc_setState zE0)) (c := zC 69) (o := (none, ((zup (zup (zup ar 3 (a0_sc_buildAnew (ar 43) (ar 3) (ar 4) (ar 5))) 4 (a1_sc_buildAnew (ar 43) (ar 3) (ar 4) (ar 5))) 5 (a2_sc_buildAnew (ar 43) (ar 3) (ar 4) (ar 5))), fi, (m1, m2, m3, m4, m5)))) (σ := (Nat → Int32) × (Nat → Int32) × (Nat → Int32)) (fun k s => (2, [.ref 2, .ref 43, .int (nI k)], [], ((zup (zup (zup ar 3 s.1) 4 s.2.1) 5 s.2.2), fi, (m1, m2, m3, m4, m5)))) (b_sc_buildAnew (ar 43) (ar 3) (ar 4) (ar 5)) (fun _ _ => True) 96 0 ((ar 3), (ar 4), (ar 5)) trivial (fun k s h1 h2 _ => ⟨⟨(fun p => Nat.beq p 2), 400, ?_⟩, trivial⟩) ?_
  · dsimp only at hl ⊢
    try simp only [zup_zup, zup_same, zup_self] at hl ⊢
    exact hl
  · have hk : k < 96 := by omega
    refine t1_sc_buildAnew.trans ?_
    rw [show (decide (96 ≤ nI k)) = false from decide_eq_false (show ¬ ((96 : Int32) ≤ nI k) from nI_ge (b := 96) hk (by omega))]
    have hG := h_sc_buildAnew (ar 43) (ar 3) (ar 4) (ar 5) k s hk
    unfold b_sc_buildAnew
    rw [← nI_1 k]
    simp only [cond_false]
    all_goals try simp only [Bool.and_eq_true, Bool.true_and, Bool.and_true] at hG
    all_goals try simp only [hG, zg, cond_true, and_self]
    all_goals try simp (disch := decide) only [zup_sort, zup_zup, zup_same, zup_self]
    all_goals rfl
  · refine zseg_ret (stops := (fun p => Nat.beq p 2)) (n := 400) (t1_sc_buildAnew.trans ?_)
    rw [show (decide (96 ≤ nI (0 + 96))) = true from by decide]
    simp only [cond_true, a0_sc_buildAnew, a1_sc_buildAnew, a2_sc_buildAnew, z_sc_buildAnew]
    try simp (disch := decide) only [zup_sort, zup_zup, zup_same, zup_self]
    all_goals rfl
theorem ok_sc_buildAnew (X : Nat × (Nat → Int32)) : zOkS X 69 S_sc_buildAnew 2 := zOkS_new (zOkE_cons (ok_sc_setState X) (by decide) (zOkE_nil X 1)) (by
  intro args g o h
  obtain ⟨ar, fi, m1, m2, m3, m4, m5⟩ := g
  unfold S_sc_buildAnew P_sc_buildAnew at h
  split at h
  · refine zb_el h (fun hI0 k0 => ?_) (fun _ h10 => ?_)
    · have h2 := Option.some.inj k0
      have hG := congrArg Prod.fst h2
      have ho := congrArg Prod.snd h2
      dsimp only at hG ho
      subst ho
      try simp only [Bool.and_eq_true] at hI0
      obtain ⟨j0, j1⟩ := hI0
      have e0 := Nat.eq_of_beq_eq_true j0
      subst e0
      have e1 := Nat.eq_of_beq_eq_true j1
      subst e1
      exact e_sc_buildAnew
    · cases h10
  · cases h)
def b_md_takesThings (x : Int32) (p0 : Nat → Int32) (p1 : Int32) (k : Nat) (s : (Nat → Int32) × Int32) : (Nat → Int32) × Int32 := ((bif decide (w_md_liesAt (nI k) x s.1 = 0) then s.1 else (bif decide (s.1 ((264 + (nI k)).toNatClampNeg) = 0) then (zup s.1 ((288 + (nI k)).toNatClampNeg) 1) else s.1)), (bif decide (w_md_liesAt (nI k) x s.1 = 0) then s.2 else (bif decide (s.1 ((264 + (nI k)).toNatClampNeg) = 0) then s.2 + ((zup s.1 ((288 + (nI k)).toNatClampNeg) 1) ((240 + (nI k)).toNatClampNeg)) else s.2)))
def z_md_takesThings (x : Int32) (p0 : Nat → Int32) (p1 : Int32) : (Nat → Int32) × Int32 := zfo (b_md_takesThings x p0 p1) 24 0 (p0, p1)
def a0_md_takesThings (x : Int32) (p0 : Nat → Int32) (p1 : Int32) : Nat → Int32 := (z_md_takesThings x p0 p1).1
def f0_md_takesThings (x : Int32) (p0 : Nat → Int32) (p1 : Int32) : Int32 := (z_md_takesThings x p0 p1).2
theorem h_md_takesThings (x : Int32) (p0 : Nat → Int32) (p1 : Int32) (k : Nat) (s : (Nat → Int32) × Int32) (hk : k < 24) : ((g_md_liesAt (nI k) x s.1) && (bif decide (w_md_liesAt (nI k) x s.1 = 0) then true else (zin (264 + (nI k)) 315) && (bif decide (s.1 ((264 + (nI k)).toNatClampNeg) = 0) then (zin (288 + (nI k)) 315) && (zin (240 + (nI k)) 315) else true))) = true := by
  have h0 : ∀ c, c + 24 ≤ 315 → zin (nI c + nI k) 315 = true := fun c hc => zin_add c k 315 (by omega) (by omega)
  have h192 : zin (192 + nI k) 315 = true := h0 192 (by omega)
  have h216 : zin (216 + nI k) 315 = true := h0 216 (by omega)
  have h240 : zin (240 + nI k) 315 = true := h0 240 (by omega)
  have h264 : zin (264 + nI k) 315 = true := h0 264 (by omega)
  have h288 : zin (288 + nI k) 315 = true := h0 288 (by omega)
  simp only [g_md_liesAt, g_md_isThing, h192, h216, h240, h264, h288, zm_e, Bool.and_self, Bool.and_true]
def P_md_takesThings (A0 : Int32 → (Nat → Int32) → Int32 → Nat → Int32) (F0 : Int32 → (Nat → Int32) → Int32 → Int32) : zSp := fun as g => match as with
  | [.ref a, .int x] => bif Nat.beq a 64 then some (true, (none, ((zup g.1 65 (A0 x (g.1 65) (g.2.1 64 34))), (zup g.2.1 64 (zup (g.2.1 64) 34 (F0 x (g.1 65) (g.2.1 64 34)))), g.2.2))) else none
  | _ => none
abbrev S_md_takesThings : zSp := P_md_takesThings a0_md_takesThings f0_md_takesThings
set_option maxRecDepth 10000 in
theorem t0_md_takesThings {X : Nat × (Nat → Int32)} {ar fi : Nat → Nat → Int32} {m1 m2 m3 m4 m5 : Nat} {x : Int32} {G_md_liesAt : Int32 → Int32 → (Nat → Int32) → Bool} {W_md_liesAt : Int32 → Int32 → (Nat → Int32) → Int32} : zseg X zFT (zEx 154 (P_md_liesAt G_md_liesAt W_md_liesAt) zE0) zc_202 (fun p => Nat.beq p 2) 400 0 [.ref 64, .int x] [] (ar, fi, (m1, m2, m3, m4, m5)) = (
  some (.inl (2, [.ref 64, .int x, .int 0], [], (ar, fi, (m1, m2, m3, m4, m5)))) : Option ((Nat × List Value × List Value × zH2) ⊕ zO2)) := by with_unfolding_all rfl
set_option maxRecDepth 10000 in
theorem t1_md_takesThings {X : Nat × (Nat → Int32)} {ar fi : Nat → Nat → Int32} {m1 m2 m3 m4 m5 : Nat} {x : Int32} {S0 : Nat → Int32} {S1 : Int32} {K : Int32} {G_md_liesAt : Int32 → Int32 → (Nat → Int32) → Bool} {W_md_liesAt : Int32 → Int32 → (Nat → Int32) → Int32} : zseg X zFT (zEx 154 (P_md_liesAt G_md_liesAt W_md_liesAt) zE0) zc_202 (fun p => Nat.beq p 2) 400 2 [.ref 64, .int x, .int K] [] ((zup ar 65 S0), (zup fi 64 (zup (fi 64) 34 S1)), (m1, m2, m3, m4, m5)) = (
  bif decide (24 ≤ K) then
   some (.inr (none, ((zup ar 65 S0), (zup fi 64 (zup (fi 64) 34 S1)), (m1, m2, m3, m4, m5))))
  else
   zg (G_md_liesAt K x S0) (
   bif decide (W_md_liesAt K x S0 = 0) then
    some (.inl (2, [.ref 64, .int x, .int (K + 1)], [], ((zup ar 65 S0), (zup fi 64 (zup (fi 64) 34 S1)), (m1, m2, m3, m4, m5))))
   else
    zg (zin (264 + K) 315) (
    bif decide (S0 ((264 + K).toNatClampNeg) = 0) then
     zg (zin (288 + K) 315) (
     zg (zin (240 + K) 315) (
     some (.inl (2, [.ref 64, .int x, .int (K + 1)], [], ((zup (zup ar 65 S0) 65 (zup S0 ((288 + K).toNatClampNeg) 1)), (zup (zup fi 64 (zup (fi 64) 34 S1)) 64 (zup ((zup fi 64 (zup (fi 64) 34 S1)) 64) 34 (S1 + ((zup S0 ((288 + K).toNatClampNeg) 1) ((240 + K).toNatClampNeg))))), (m1, m2, m3, m4, m5))))))
    else
     some (.inl (2, [.ref 64, .int x, .int (K + 1)], [], ((zup ar 65 S0), (zup fi 64 (zup (fi 64) 34 S1)), (m1, m2, m3, m4, m5)))))) : Option ((Nat × List Value × List Value × zH2) ⊕ zO2)) := by with_unfolding_all rfl
set_option maxRecDepth 10000 in
theorem e_md_takesThings {X : Nat × (Nat → Int32)} {ar fi : Nat → Nat → Int32} {m1 m2 m3 m4 m5 : Nat} {x : Int32} : zR2 X zFT (zEx 154 S_md_liesAt zE0) (zC 202) 0 [.ref 64, .int x] [] (ar, fi, (m1, m2, m3, m4, m5)) (none, ((zup ar 65 (a0_md_takesThings x (ar 65) (fi 64 34))), (zup fi 64 (zup (fi 64) 34 (f0_md_takesThings x (ar 65) (fi 64 34)))), (m1, m2, m3, m4, m5))) := by
  refine zseg_go ?_ t0_md_takesThings
  have hl := zR2_loop (X := X) (FT := zFT) (E := (zEx 154 S_md_liesAt zE0)) (c := zC 202) (o := (none, ((zup ar 65 (a0_md_takesThings x (ar 65) (fi 64 34))), (zup fi 64 (zup (fi 64) 34 (f0_md_takesThings x (ar 65) (fi 64 34)))), (m1, m2, m3, m4, m5)))) (σ := (Nat → Int32) × Int32) (fun k s => (2, [.ref 64, .int x, .int (nI k)], [], ((zup ar 65 s.1), (zup fi 64 (zup (fi 64) 34 s.2)), (m1, m2, m3, m4, m5)))) (b_md_takesThings x (ar 65) (fi 64 34)) (fun _ _ => True) 24 0 ((ar 65), fi 64 34) trivial (fun k s h1 h2 _ => ⟨⟨(fun p => Nat.beq p 2), 400, ?_⟩, trivial⟩) ?_
  · dsimp only at hl ⊢
    try simp only [zup_zup, zup_same, zup_self] at hl ⊢
    exact hl
  · have hk : k < 24 := by omega
    refine t1_md_takesThings.trans ?_
    rw [show (decide (24 ≤ nI k)) = false from decide_eq_false (show ¬ ((24 : Int32) ≤ nI k) from nI_ge (b := 24) hk (by omega))]
    have hG := h_md_takesThings x (ar 65) (fi 64 34) k s hk
    unfold b_md_takesThings
    rw [← nI_1 k]
    simp only [cond_false]
    cases hc1 : (decide (w_md_liesAt (nI k) x s.1 = 0)) with
    | true =>
      try simp only [hc1, cond_true, cond_false] at hG ⊢
      all_goals try simp only [Bool.and_eq_true, Bool.true_and, Bool.and_true] at hG
      all_goals try simp only [hG, zg, cond_true, and_self]
      all_goals try simp (disch := decide) only [zup_sort, zup_zup, zup_same, zup_self]
      all_goals rfl
    | false =>
      try simp only [hc1, cond_true, cond_false] at hG ⊢
      cases hc2 : (decide (s.1 ((264 + (nI k)).toNatClampNeg) = 0)) with
      | true =>
        try simp only [hc2, cond_true, cond_false] at hG ⊢
        all_goals try simp only [Bool.and_eq_true, Bool.true_and, Bool.and_true] at hG
        all_goals try simp only [hG, zg, cond_true, and_self]
        all_goals try simp (disch := decide) only [zup_sort, zup_zup, zup_same, zup_self]
        all_goals rfl
      | false =>
        try simp only [hc2, cond_true, cond_false] at hG ⊢
        all_goals try simp only [Bool.and_eq_true, Bool.true_and, Bool.and_true] at hG
        all_goals try simp only [hG, zg, cond_true, and_self]
        all_goals try simp (disch := decide) only [zup_sort, zup_zup, zup_same, zup_self]
        all_goals rfl
  · refine zseg_ret (stops := (fun p => Nat.beq p 2)) (n := 400) (t1_md_takesThings.trans ?_)
    rw [show (decide (24 ≤ nI (0 + 24))) = true from by decide]
    simp only [cond_true, a0_md_takesThings, f0_md_takesThings, z_md_takesThings]
    try simp (disch := decide) only [zup_sort, zup_zup, zup_same, zup_self]
    all_goals rfl
theorem ok_md_takesThings (X : Nat × (Nat → Int32)) : zOkS X 202 S_md_takesThings 4 := zOkS_new (zOkE_cons (ok_md_liesAt X) (by decide) (zOkE_nil X 3)) (by
  intro args g o h
  obtain ⟨ar, fi, m1, m2, m3, m4, m5⟩ := g
  unfold S_md_takesThings P_md_takesThings at h
  split at h
  · refine zb_el h (fun hI0 k0 => ?_) (fun _ h10 => ?_)
    · have h2 := Option.some.inj k0
      have hG := congrArg Prod.fst h2
      have ho := congrArg Prod.snd h2
      dsimp only at hG ho
      subst ho
      try simp only [Bool.and_eq_true] at hI0
      have j0 := hI0
      have e0 := Nat.eq_of_beq_eq_true j0
      subst e0
      exact e_md_takesThings
    · cases h10
  · cases h)
