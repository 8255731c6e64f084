def b_sc_placesOf (x : Int32) (p0 : Nat → Int32) (k : Nat) (n : Int32) : Int32 := (bif !decide (p0 ((nI k).toNatClampNeg) = x) then n else n + 1)
def w_sc_placesOf (x : Int32) (p0 : Nat → Int32) : Int32 := zfo (b_sc_placesOf x p0) 96 0 0
theorem h_sc_placesOf (x : Int32) (p0 : Nat → Int32) (k : Nat) (n : Int32) (hk : k < 96) : (zin (nI k) 96) = true := by
  exact zin_nI hk (by omega)
def P_sc_placesOf (W : Int32 → (Nat → Int32) → Int32) : zSp := fun as g => match as with
  | [.ref a, .int x] => bif Nat.beq a 2 then some (true, (some (.int (W x (g.1 3))), (g.1, g.2.1, g.2.2))) else bif Nat.beq a 9 then some (true, (some (.int (W x (g.1 10))), (g.1, g.2.1, g.2.2))) else bif Nat.beq a 16 then some (true, (some (.int (W x (g.1 17))), (g.1, g.2.1, g.2.2))) else none
  | _ => none
abbrev S_sc_placesOf : zSp := P_sc_placesOf w_sc_placesOf
set_option maxRecDepth 10000 in
theorem t0_sc_placesOf_2 {X : Nat × (Nat → Int32)} {ar fi : Nat → Nat → Int32} {m1 m2 m3 m4 m5 : Nat} {x : Int32} : zseg X zFT zE0 zc_75 (fun p => Nat.beq p 4) 400 0 [.ref 2, .int x] [] (ar, fi, (m1, m2, m3, m4, m5)) = (
  some (.inl (4, [.ref 2, .int x, .int 0, .int 0], [], (ar, fi, (m1, m2, m3, m4, m5)))) : Option ((Nat × List Value × List Value × zH2) ⊕ zO2)) := rfl
set_option maxRecDepth 10000 in
theorem t1_sc_placesOf_2 {X : Nat × (Nat → Int32)} {ar fi : Nat → Nat → Int32} {m1 m2 m3 m4 m5 : Nat} {x : Int32} {r2 r3 : Int32} : zseg X zFT zE0 zc_75 (fun p => Nat.beq p 4) 400 4 [.ref 2, .int x, .int r2, .int r3] [] (ar, fi, (m1, m2, m3, m4, m5)) = (
  bif decide (96 ≤ r3) then
   some (.inr (some (.int r2), (ar, fi, (m1, m2, m3, m4, m5))))
  else
   zg (zin r3 96) (
   bif !decide ((ar 3) (r3.toNatClampNeg) = x) then
    some (.inl (4, [.ref 2, .int x, .int r2, .int (r3 + 1)], [], (ar, fi, (m1, m2, m3, m4, m5))))
   else
    some (.inl (4, [.ref 2, .int x, .int (r2 + 1), .int (r3 + 1)], [], (ar, fi, (m1, m2, m3, m4, m5))))) : Option ((Nat × List Value × List Value × zH2) ⊕ zO2)) := rfl
set_option maxRecDepth 10000 in
theorem e_sc_placesOf_2 {X : Nat × (Nat → Int32)} {ar fi : Nat → Nat → Int32} {m1 m2 m3 m4 m5 : Nat} {x : Int32} : zR2 X zFT zE0 (zC 75) 0 [.ref 2, .int x] [] (ar, fi, (m1, m2, m3, m4, m5)) (some (.int (w_sc_placesOf x (ar 3))), (ar, fi, (m1, m2, m3, m4, m5))) := by
  refine zseg_go ?_ t0_sc_placesOf_2
  refine zR2_loop (σ := Int32) (fun k n => (4, [.ref 2, .int x, .int n, .int (nI k)], [], (ar, fi, (m1, m2, m3, m4, m5)))) (b_sc_placesOf x (ar 3)) (fun _ _ => True) 96 0 0 trivial (fun k n h1 h2 _ => ⟨⟨(fun p => Nat.beq p 4), 400, ?_⟩, trivial⟩) ?_
  · have hk : k < 96 := by omega
    refine t1_sc_placesOf_2.trans ?_
    rw [show (decide (96 ≤ nI k)) = false from decide_eq_false (show ¬ ((96 : Int32) ≤ nI k) from nI_ge (b := 96) hk (by omega))]
    have hG := h_sc_placesOf x (ar 3) k n hk
    unfold b_sc_placesOf
    rw [← nI_1 k]
    simp only [cond_false]
    cases hc1 : (!decide ((ar 3) ((nI k).toNatClampNeg) = x)) with
    | true =>
      try simp only [hc1, cond_true, cond_false] at hG ⊢
      all_goals try simp only [Bool.and_eq_true, Bool.true_and, Bool.and_true] at hG
      all_goals try simp only [hG, zg, cond_true, and_self]
      all_goals rfl
    | false =>
      try simp only [hc1, cond_true, cond_false] at hG ⊢
      all_goals try simp only [Bool.and_eq_true, Bool.true_and, Bool.and_true] at hG
      all_goals try simp only [hG, zg, cond_true, and_self]
      all_goals rfl
  · refine zseg_ret (stops := (fun p => Nat.beq p 4)) (n := 400) (t1_sc_placesOf_2.trans ?_)
    rw [show (decide (96 ≤ nI (0 + 96))) = true from by decide]
    rfl
set_option maxRecDepth 10000 in
theorem t0_sc_placesOf_9 {X : Nat × (Nat → Int32)} {ar fi : Nat → Nat → Int32} {m1 m2 m3 m4 m5 : Nat} {x : Int32} : zseg X zFT zE0 zc_75 (fun p => Nat.beq p 4) 400 0 [.ref 9, .int x] [] (ar, fi, (m1, m2, m3, m4, m5)) = (
  some (.inl (4, [.ref 9, .int x, .int 0, .int 0], [], (ar, fi, (m1, m2, m3, m4, m5)))) : Option ((Nat × List Value × List Value × zH2) ⊕ zO2)) := rfl
set_option maxRecDepth 10000 in
theorem t1_sc_placesOf_9 {X : Nat × (Nat → Int32)} {ar fi : Nat → Nat → Int32} {m1 m2 m3 m4 m5 : Nat} {x : Int32} {r2 r3 : Int32} : zseg X zFT zE0 zc_75 (fun p => Nat.beq p 4) 400 4 [.ref 9, .int x, .int r2, .int r3] [] (ar, fi, (m1, m2, m3, m4, m5)) = (
  bif decide (96 ≤ r3) then
   some (.inr (some (.int r2), (ar, fi, (m1, m2, m3, m4, m5))))
  else
   zg (zin r3 96) (
   bif !decide ((ar 10) (r3.toNatClampNeg) = x) then
    some (.inl (4, [.ref 9, .int x, .int r2, .int (r3 + 1)], [], (ar, fi, (m1, m2, m3, m4, m5))))
   else
    some (.inl (4, [.ref 9, .int x, .int (r2 + 1), .int (r3 + 1)], [], (ar, fi, (m1, m2, m3, m4, m5))))) : Option ((Nat × List Value × List Value × zH2) ⊕ zO2)) := rfl
set_option maxRecDepth 10000 in
theorem e_sc_placesOf_9 {X : Nat × (Nat → Int32)} {ar fi : Nat → Nat → Int32} {m1 m2 m3 m4 m5 : Nat} {x : Int32} : zR2 X zFT zE0 (zC 75) 0 [.ref 9, .int x] [] (ar, fi, (m1, m2, m3, m4, m5)) (some (.int (w_sc_placesOf x (ar 10))), (ar, fi, (m1, m2, m3, m4, m5))) := by
  refine zseg_go ?_ t0_sc_placesOf_9
  refine zR2_loop (σ := Int32) (fun k n => (4, [.ref 9, .int x, .int n, .int (nI k)], [], (ar, fi, (m1, m2, m3, m4, m5)))) (b_sc_placesOf x (ar 10)) (fun _ _ => True) 96 0 0 trivial (fun k n h1 h2 _ => ⟨⟨(fun p => Nat.beq p 4), 400, ?_⟩, trivial⟩) ?_
  · have hk : k < 96 := by omega
    refine t1_sc_placesOf_9.trans ?_
    rw [show (decide (96 ≤ nI k)) = false from decide_eq_false (show ¬ ((96 : Int32) ≤ nI k) from nI_ge (b := 96) hk (by omega))]
    have hG := h_sc_placesOf x (ar 10) k n hk
    unfold b_sc_placesOf
    rw [← nI_1 k]
    simp only [cond_false]
    cases hc1 : (!decide ((ar 10) ((nI k).toNatClampNeg) = x)) with
    | true =>
      try simp only [hc1, cond_true, cond_false] at hG ⊢
      all_goals try simp only [Bool.and_eq_true, Bool.true_and, Bool.and_true] at hG
      all_goals try simp only [hG, zg, cond_true, and_self]
      all_goals rfl
    | false =>
      try simp only [hc1, cond_true, cond_false] at hG ⊢
      all_goals try simp only [Bool.and_eq_true, Bool.true_and, Bool.and_true] at hG
      all_goals try simp only [hG, zg, cond_true, and_self]
      all_goals rfl
  · refine zseg_ret (stops := (fun p => Nat.beq p 4)) (n := 400) (t1_sc_placesOf_9.trans ?_)
    rw [show (decide (96 ≤ nI (0 + 96))) = true from by decide]
    rfl
set_option maxRecDepth 10000 in
theorem t0_sc_placesOf_16 {X : Nat × (Nat → Int32)} {ar fi : Nat → Nat → Int32} {m1 m2 m3 m4 m5 : Nat} {x : Int32} : zseg X zFT zE0 zc_75 (fun p => Nat.beq p 4) 400 0 [.ref 16, .int x] [] (ar, fi, (m1, m2, m3, m4, m5)) = (
  some (.inl (4, [.ref 16, .int x, .int 0, .int 0], [], (ar, fi, (m1, m2, m3, m4, m5)))) : Option ((Nat × List Value × List Value × zH2) ⊕ zO2)) := rfl
set_option maxRecDepth 10000 in
theorem t1_sc_placesOf_16 {X : Nat × (Nat → Int32)} {ar fi : Nat → Nat → Int32} {m1 m2 m3 m4 m5 : Nat} {x : Int32} {r2 r3 : Int32} : zseg X zFT zE0 zc_75 (fun p => Nat.beq p 4) 400 4 [.ref 16, .int x, .int r2, .int r3] [] (ar, fi, (m1, m2, m3, m4, m5)) = (
  bif decide (96 ≤ r3) then
   some (.inr (some (.int r2), (ar, fi, (m1, m2, m3, m4, m5))))
  else
   zg (zin r3 96) (
   bif !decide ((ar 17) (r3.toNatClampNeg) = x) then
    some (.inl (4, [.ref 16, .int x, .int r2, .int (r3 + 1)], [], (ar, fi, (m1, m2, m3, m4, m5))))
   else
    some (.inl (4, [.ref 16, .int x, .int (r2 + 1), .int (r3 + 1)], [], (ar, fi, (m1, m2, m3, m4, m5))))) : Option ((Nat × List Value × List Value × zH2) ⊕ zO2)) := rfl
set_option maxRecDepth 10000 in
theorem e_sc_placesOf_16 {X : Nat × (Nat → Int32)} {ar fi : Nat → Nat → Int32} {m1 m2 m3 m4 m5 : Nat} {x : Int32} : zR2 X zFT zE0 (zC 75) 0 [.ref 16, .int x] [] (ar, fi, (m1, m2, m3, m4, m5)) (some (.int (w_sc_placesOf x (ar 17))), (ar, fi, (m1, m2, m3, m4, m5))) := by
  refine zseg_go ?_ t0_sc_placesOf_16
  refine zR2_loop (σ := Int32) (fun k n => (4, [.ref 16, .int x, .int n, .int (nI k)], [], (ar, fi, (m1, m2, m3, m4, m5)))) (b_sc_placesOf x (ar 17)) (fun _ _ => True) 96 0 0 trivial (fun k n h1 h2 _ => ⟨⟨(fun p => Nat.beq p 4), 400, ?_⟩, trivial⟩) ?_
  · have hk : k < 96 := by omega
    refine t1_sc_placesOf_16.trans ?_
    rw [show (decide (96 ≤ nI k)) = false from decide_eq_false (show ¬ ((96 : Int32) ≤ nI k) from nI_ge (b := 96) hk (by omega))]
    have hG := h_sc_placesOf x (ar 17) k n hk
    unfold b_sc_placesOf
    rw [← nI_1 k]
    simp only [cond_false]
    cases hc1 : (!decide ((ar 17) ((nI k).toNatClampNeg) = x)) with
    | true =>
      try simp only [hc1, cond_true, cond_false] at hG ⊢
      all_goals try simp only [Bool.and_eq_true, Bool.true_and, Bool.and_true] at hG
      all_goals try simp only [hG, zg, cond_true, and_self]
      all_goals rfl
    | false =>
      try simp only [hc1, cond_true, cond_false] at hG ⊢
      all_goals try simp only [Bool.and_eq_true, Bool.true_and, Bool.and_true] at hG
      all_goals try simp only [hG, zg, cond_true, and_self]
      all_goals rfl
  · refine zseg_ret (stops := (fun p => Nat.beq p 4)) (n := 400) (t1_sc_placesOf_16.trans ?_)
    rw [show (decide (96 ≤ nI (0 + 96))) = true from by decide]
    rfl
theorem ok_sc_placesOf (X : Nat × (Nat → Int32)) : zOkS X 75 S_sc_placesOf 1 := zOkS_new (zOkE_nil X 0) (by
  intro args g o h
  obtain ⟨ar, fi, m1, m2, m3, m4, m5⟩ := g
  unfold S_sc_placesOf P_sc_placesOf at h
  split at h
  · refine zb_el h (fun hI0 k0 => ?_) (fun _ h10 => ?_)
    · have h2 := Option.some.inj k0
      have hG := congrArg Prod.fst h2
      have ho := congrArg Prod.snd h2
      dsimp only at hG ho
      subst ho
      try simp only [Bool.and_eq_true] at hI0
      have j0 := hI0
      have e0 := Nat.eq_of_beq_eq_true j0
      subst e0
      exact e_sc_placesOf_2
    · skip
      refine zb_el h10 (fun hI1 k1 => ?_) (fun _ h11 => ?_)
      · have h2 := Option.some.inj k1
        have hG := congrArg Prod.fst h2
        have ho := congrArg Prod.snd h2
        dsimp only at hG ho
        subst ho
        try simp only [Bool.and_eq_true] at hI1
        have j0 := hI1
        have e0 := Nat.eq_of_beq_eq_true j0
        subst e0
        exact e_sc_placesOf_9
      · skip
        refine zb_el h11 (fun hI2 k2 => ?_) (fun _ h12 => ?_)
        · have h2 := Option.some.inj k2
          have hG := congrArg Prod.fst h2
          have ho := congrArg Prod.snd h2
          dsimp only at hG ho
          subst ho
          try simp only [Bool.and_eq_true] at hI2
          have j0 := hI2
          have e0 := Nat.eq_of_beq_eq_true j0
          subst e0
          exact e_sc_placesOf_16
        · cases h12
  · cases h)
def b_sc_placesThatAre (x : Int32) (p0 : Nat → Int32) (k : Nat) (n : Int32) : Int32 := (bif !decide (p0 ((nI k).toNatClampNeg) = x) then n else n + 1)
def w_sc_placesThatAre (x : Int32) (p0 : Nat → Int32) : Int32 := zfo (b_sc_placesThatAre x p0) 96 0 0
theorem h_sc_placesThatAre (x : Int32) (p0 : Nat → Int32) (k : Nat) (n : Int32) (hk : k < 96) : (zin (nI k) 96) = true := by
  exact zin_nI hk (by omega)
def P_sc_placesThatAre (W : Int32 → (Nat → Int32) → Int32) : zSp := fun as g => match as with
  | [.ref a, .int x] => bif Nat.beq a 2 then some (true, (some (.int (W x (g.1 4))), (g.1, g.2.1, g.2.2))) else bif Nat.beq a 9 then some (true, (some (.int (W x (g.1 11))), (g.1, g.2.1, g.2.2))) else bif Nat.beq a 16 then some (true, (some (.int (W x (g.1 18))), (g.1, g.2.1, g.2.2))) else none
  | _ => none
abbrev S_sc_placesThatAre : zSp := P_sc_placesThatAre w_sc_placesThatAre
set_option maxRecDepth 10000 in
theorem t0_sc_placesThatAre_2 {X : Nat × (Nat → Int32)} {ar fi : Nat → Nat → Int32} {m1 m2 m3 m4 m5 : Nat} {x : Int32} : zseg X zFT zE0 zc_76 (fun p => Nat.beq p 4) 400 0 [.ref 2, .int x] [] (ar, fi, (m1, m2, m3, m4, m5)) = (
  some (.inl (4, [.ref 2, .int x, .int 0, .int 0], [], (ar, fi, (m1, m2, m3, m4, m5)))) : Option ((Nat × List Value × List Value × zH2) ⊕ zO2)) := rfl
set_option maxRecDepth 10000 in
theorem t1_sc_placesThatAre_2 {X : Nat × (Nat → Int32)} {ar fi : Nat → Nat → Int32} {m1 m2 m3 m4 m5 : Nat} {x : Int32} {r2 r3 : Int32} : zseg X zFT zE0 zc_76 (fun p => Nat.beq p 4) 400 4 [.ref 2, .int x, .int r2, .int r3] [] (ar, fi, (m1, m2, m3, m4, m5)) = (
  bif decide (96 ≤ r3) then
   some (.inr (some (.int r2), (ar, fi, (m1, m2, m3, m4, m5))))
  else
   zg (zin r3 96) (
   bif !decide ((ar 4) (r3.toNatClampNeg) = x) then
    some (.inl (4, [.ref 2, .int x, .int r2, .int (r3 + 1)], [], (ar, fi, (m1, m2, m3, m4, m5))))
   else
    some (.inl (4, [.ref 2, .int x, .int (r2 + 1), .int (r3 + 1)], [], (ar, fi, (m1, m2, m3, m4, m5))))) : Option ((Nat × List Value × List Value × zH2) ⊕ zO2)) := rfl
set_option maxRecDepth 10000 in
theorem e_sc_placesThatAre_2 {X : Nat × (Nat → Int32)} {ar fi : Nat → Nat → Int32} {m1 m2 m3 m4 m5 : Nat} {x : Int32} : zR2 X zFT zE0 (zC 76) 0 [.ref 2, .int x] [] (ar, fi, (m1, m2, m3, m4, m5)) (some (.int (w_sc_placesThatAre x (ar 4))), (ar, fi, (m1, m2, m3, m4, m5))) := by
  refine zseg_go ?_ t0_sc_placesThatAre_2
  refine zR2_loop (σ := Int32) (fun k n => (4, [.ref 2, .int x, .int n, .int (nI k)], [], (ar, fi, (m1, m2, m3, m4, m5)))) (b_sc_placesThatAre x (ar 4)) (fun _ _ => True) 96 0 0 trivial (fun k n h1 h2 _ => ⟨⟨(fun p => Nat.beq p 4), 400, ?_⟩, trivial⟩) ?_
  · have hk : k < 96 := by omega
    refine t1_sc_placesThatAre_2.trans ?_
    rw [show (decide (96 ≤ nI k)) = false from decide_eq_false (show ¬ ((96 : Int32) ≤ nI k) from nI_ge (b := 96) hk (by omega))]
    have hG := h_sc_placesThatAre x (ar 4) k n hk
    unfold b_sc_placesThatAre
    rw [← nI_1 k]
    simp only [cond_false]
    cases hc1 : (!decide ((ar 4) ((nI k).toNatClampNeg) = x)) with
    | true =>
      try simp only [hc1, cond_true, cond_false] at hG ⊢
      all_goals try simp only [Bool.and_eq_true, Bool.true_and, Bool.and_true] at hG
      all_goals try simp only [hG, zg, cond_true, and_self]
      all_goals rfl
    | false =>
      try simp only [hc1, cond_true, cond_false] at hG ⊢
      all_goals try simp only [Bool.and_eq_true, Bool.true_and, Bool.and_true] at hG
      all_goals try simp only [hG, zg, cond_true, and_self]
      all_goals rfl
  · refine zseg_ret (stops := (fun p => Nat.beq p 4)) (n := 400) (t1_sc_placesThatAre_2.trans ?_)
    rw [show (decide (96 ≤ nI (0 + 96))) = true from by decide]
    rfl
set_option maxRecDepth 10000 in
theorem t0_sc_placesThatAre_9 {X : Nat × (Nat → Int32)} {ar fi : Nat → Nat → Int32} {m1 m2 m3 m4 m5 : Nat} {x : Int32} : zseg X zFT zE0 zc_76 (fun p => Nat.beq p 4) 400 0 [.ref 9, .int x] [] (ar, fi, (m1, m2, m3, m4, m5)) = (
  some (.inl (4, [.ref 9, .int x, .int 0, .int 0], [], (ar, fi, (m1, m2, m3, m4, m5)))) : Option ((Nat × List Value × List Value × zH2) ⊕ zO2)) := rfl
set_option maxRecDepth 10000 in
theorem t1_sc_placesThatAre_9 {X : Nat × (Nat → Int32)} {ar fi : Nat → Nat → Int32} {m1 m2 m3 m4 m5 : Nat} {x : Int32} {r2 r3 : Int32} : zseg X zFT zE0 zc_76 (fun p => Nat.beq p 4) 400 4 [.ref 9, .int x, .int r2, .int r3] [] (ar, fi, (m1, m2, m3, m4, m5)) = (
  bif decide (96 ≤ r3) then
   some (.inr (some (.int r2), (ar, fi, (m1, m2, m3, m4, m5))))
  else
   zg (zin r3 96) (
   bif !decide ((ar 11) (r3.toNatClampNeg) = x) then
    some (.inl (4, [.ref 9, .int x, .int r2, .int (r3 + 1)], [], (ar, fi, (m1, m2, m3, m4, m5))))
   else
    some (.inl (4, [.ref 9, .int x, .int (r2 + 1), .int (r3 + 1)], [], (ar, fi, (m1, m2, m3, m4, m5))))) : Option ((Nat × List Value × List Value × zH2) ⊕ zO2)) := rfl
set_option maxRecDepth 10000 in
theorem e_sc_placesThatAre_9 {X : Nat × (Nat → Int32)} {ar fi : Nat → Nat → Int32} {m1 m2 m3 m4 m5 : Nat} {x : Int32} : zR2 X zFT zE0 (zC 76) 0 [.ref 9, .int x] [] (ar, fi, (m1, m2, m3, m4, m5)) (some (.int (w_sc_placesThatAre x (ar 11))), (ar, fi, (m1, m2, m3, m4, m5))) := by
  refine zseg_go ?_ t0_sc_placesThatAre_9
  refine zR2_loop (σ := Int32) (fun k n => (4, [.ref 9, .int x, .int n, .int (nI k)], [], (ar, fi, (m1, m2, m3, m4, m5)))) (b_sc_placesThatAre x (ar 11)) (fun _ _ => True) 96 0 0 trivial (fun k n h1 h2 _ => ⟨⟨(fun p => Nat.beq p 4), 400, ?_⟩, trivial⟩) ?_
  · have hk : k < 96 := by omega
    refine t1_sc_placesThatAre_9.trans ?_
    rw [show (decide (96 ≤ nI k)) = false from decide_eq_false (show ¬ ((96 : Int32) ≤ nI k) from nI_ge (b := 96) hk (by omega))]
    have hG := h_sc_placesThatAre x (ar 11) k n hk
    unfold b_sc_placesThatAre
    rw [← nI_1 k]
    simp only [cond_false]
    cases hc1 : (!decide ((ar 11) ((nI k).toNatClampNeg) = x)) with
    | true =>
      try simp only [hc1, cond_true, cond_false] at hG ⊢
      all_goals try simp only [Bool.and_eq_true, Bool.true_and, Bool.and_true] at hG
      all_goals try simp only [hG, zg, cond_true, and_self]
      all_goals rfl
    | false =>
      try simp only [hc1, cond_true, cond_false] at hG ⊢
      all_goals try simp only [Bool.and_eq_true, Bool.true_and, Bool.and_true] at hG
      all_goals try simp only [hG, zg, cond_true, and_self]
      all_goals rfl
  · refine zseg_ret (stops := (fun p => Nat.beq p 4)) (n := 400) (t1_sc_placesThatAre_9.trans ?_)
    rw [show (decide (96 ≤ nI (0 + 96))) = true from by decide]
    rfl
set_option maxRecDepth 10000 in
theorem t0_sc_placesThatAre_16 {X : Nat × (Nat → Int32)} {ar fi : Nat → Nat → Int32} {m1 m2 m3 m4 m5 : Nat} {x : Int32} : zseg X zFT zE0 zc_76 (fun p => Nat.beq p 4) 400 0 [.ref 16, .int x] [] (ar, fi, (m1, m2, m3, m4, m5)) = (
  some (.inl (4, [.ref 16, .int x, .int 0, .int 0], [], (ar, fi, (m1, m2, m3, m4, m5)))) : Option ((Nat × List Value × List Value × zH2) ⊕ zO2)) := rfl
set_option maxRecDepth 10000 in
theorem t1_sc_placesThatAre_16 {X : Nat × (Nat → Int32)} {ar fi : Nat → Nat → Int32} {m1 m2 m3 m4 m5 : Nat} {x : Int32} {r2 r3 : Int32} : zseg X zFT zE0 zc_76 (fun p => Nat.beq p 4) 400 4 [.ref 16, .int x, .int r2, .int r3] [] (ar, fi, (m1, m2, m3, m4, m5)) = (
  bif decide (96 ≤ r3) then
   some (.inr (some (.int r2), (ar, fi, (m1, m2, m3, m4, m5))))
  else
   zg (zin r3 96) (
   bif !decide ((ar 18) (r3.toNatClampNeg) = x) then
    some (.inl (4, [.ref 16, .int x, .int r2, .int (r3 + 1)], [], (ar, fi, (m1, m2, m3, m4, m5))))
   else
    some (.inl (4, [.ref 16, .int x, .int (r2 + 1), .int (r3 + 1)], [], (ar, fi, (m1, m2, m3, m4, m5))))) : Option ((Nat × List Value × List Value × zH2) ⊕ zO2)) := rfl
set_option maxRecDepth 10000 in
theorem e_sc_placesThatAre_16 {X : Nat × (Nat → Int32)} {ar fi : Nat → Nat → Int32} {m1 m2 m3 m4 m5 : Nat} {x : Int32} : zR2 X zFT zE0 (zC 76) 0 [.ref 16, .int x] [] (ar, fi, (m1, m2, m3, m4, m5)) (some (.int (w_sc_placesThatAre x (ar 18))), (ar, fi, (m1, m2, m3, m4, m5))) := by
  refine zseg_go ?_ t0_sc_placesThatAre_16
  refine zR2_loop (σ := Int32) (fun k n => (4, [.ref 16, .int x, .int n, .int (nI k)], [], (ar, fi, (m1, m2, m3, m4, m5)))) (b_sc_placesThatAre x (ar 18)) (fun _ _ => True) 96 0 0 trivial (fun k n h1 h2 _ => ⟨⟨(fun p => Nat.beq p 4), 400, ?_⟩, trivial⟩) ?_
  · have hk : k < 96 := by omega
    refine t1_sc_placesThatAre_16.trans ?_
    rw [show (decide (96 ≤ nI k)) = false from decide_eq_false (show ¬ ((96 : Int32) ≤ nI k) from nI_ge (b := 96) hk (by omega))]
    have hG := h_sc_placesThatAre x (ar 18) k n hk
    unfold b_sc_placesThatAre
    rw [← nI_1 k]
    simp only [cond_false]
    cases hc1 : (!decide ((ar 18) ((nI k).toNatClampNeg) = x)) with
    | true =>
      try simp only [hc1, cond_true, cond_false] at hG ⊢
      all_goals try simp only [Bool.and_eq_true, Bool.true_and, Bool.and_true] at hG
      all_goals try simp only [hG, zg, cond_true, and_self]
      all_goals rfl
    | false =>
      try simp only [hc1, cond_true, cond_false] at hG ⊢
      all_goals try simp only [Bool.and_eq_true, Bool.true_and, Bool.and_true] at hG
      all_goals try simp only [hG, zg, cond_true, and_self]
      all_goals rfl
  · refine zseg_ret (stops := (fun p => Nat.beq p 4)) (n := 400) (t1_sc_placesThatAre_16.trans ?_)
    rw [show (decide (96 ≤ nI (0 + 96))) = true from by decide]
    rfl
theorem ok_sc_placesThatAre (X : Nat × (Nat → Int32)) : zOkS X 76 S_sc_placesThatAre 1 := zOkS_new (zOkE_nil X 0) (by
  intro args g o h
  obtain ⟨ar, fi, m1, m2, m3, m4, m5⟩ := g
  unfold S_sc_placesThatAre P_sc_placesThatAre at h
  split at h
  · refine zb_el h (fun hI0 k0 => ?_) (fun _ h10 => ?_)
    · have h2 := Option.some.inj k0
      have hG := congrArg Prod.fst h2
      have ho := congrArg Prod.snd h2
      dsimp only at hG ho
      subst ho
      try simp only [Bool.and_eq_true] at hI0
      have j0 := hI0
      have e0 := Nat.eq_of_beq_eq_true j0
      subst e0
      exact e_sc_placesThatAre_2
    · skip
      refine zb_el h10 (fun hI1 k1 => ?_) (fun _ h11 => ?_)
      · have h2 := Option.some.inj k1
        have hG := congrArg Prod.fst h2
        have ho := congrArg Prod.snd h2
        dsimp only at hG ho
        subst ho
        try simp only [Bool.and_eq_true] at hI1
        have j0 := hI1
        have e0 := Nat.eq_of_beq_eq_true j0
        subst e0
        exact e_sc_placesThatAre_9
      · skip
        refine zb_el h11 (fun hI2 k2 => ?_) (fun _ h12 => ?_)
        · have h2 := Option.some.inj k2
          have hG := congrArg Prod.fst h2
          have ho := congrArg Prod.snd h2
          dsimp only at hG ho
          subst ho
          try simp only [Bool.and_eq_true] at hI2
          have j0 := hI2
          have e0 := Nat.eq_of_beq_eq_true j0
          subst e0
          exact e_sc_placesThatAre_16
        · cases h12
  · cases h)
def b_md_faring (x : Int32) (p0 : Nat → Int32) (k : Nat) (n : Int32) : Int32 := (bif !decide (p0 ((0 + (nI k)).toNatClampNeg) = x) then n else n + 1)
def w_md_faring (x : Int32) (p0 : Nat → Int32) : Int32 := zfo (b_md_faring x p0) 96 0 0
theorem h_md_faring (x : Int32) (p0 : Nat → Int32) (k : Nat) (n : Int32) (hk : k < 96) : (zin (0 + (nI k)) 315) = true := by
  rw [show (0 + nI k) = nI k from Int32.zero_add _]
  exact zin_nI (by omega) (by omega)
def P_md_faring (W : Int32 → (Nat → Int32) → Int32) : zSp := fun as g => match as with
  | [.ref a, .int x] => bif Nat.beq a 64 then some (true, (some (.int (W x (g.1 65))), (g.1, g.2.1, g.2.2))) else none
  | _ => none
abbrev S_md_faring : zSp := P_md_faring w_md_faring
set_option maxRecDepth 10000 in
theorem t0_md_faring {X : Nat × (Nat → Int32)} {ar fi : Nat → Nat → Int32} {m1 m2 m3 m4 m5 : Nat} {x : Int32} : zseg X zFT zE0 zc_207 (fun p => Nat.beq p 4) 400 0 [.ref 64, .int x] [] (ar, fi, (m1, m2, m3, m4, m5)) = (
  some (.inl (4, [.ref 64, .int x, .int 0, .int 0], [], (ar, fi, (m1, m2, m3, m4, m5)))) : Option ((Nat × List Value × List Value × zH2) ⊕ zO2)) := rfl
set_option maxRecDepth 10000 in
theorem t1_md_faring {X : Nat × (Nat → Int32)} {ar fi : Nat → Nat → Int32} {m1 m2 m3 m4 m5 : Nat} {x : Int32} {r2 r3 : Int32} : zseg X zFT zE0 zc_207 (fun p => Nat.beq p 4) 400 4 [.ref 64, .int x, .int r2, .int r3] [] (ar, fi, (m1, m2, m3, m4, m5)) = (
  bif decide (96 ≤ r3) then
   some (.inr (some (.int r2), (ar, fi, (m1, m2, m3, m4, m5))))
  else
   zg (zin (0 + r3) 315) (
   bif !decide ((ar 65) ((0 + r3).toNatClampNeg) = x) then
    some (.inl (4, [.ref 64, .int x, .int r2, .int (r3 + 1)], [], (ar, fi, (m1, m2, m3, m4, m5))))
   else
    some (.inl (4, [.ref 64, .int x, .int (r2 + 1), .int (r3 + 1)], [], (ar, fi, (m1, m2, m3, m4, m5))))) : Option ((Nat × List Value × List Value × zH2) ⊕ zO2)) := rfl
set_option maxRecDepth 10000 in
theorem e_md_faring {X : Nat × (Nat → Int32)} {ar fi : Nat → Nat → Int32} {m1 m2 m3 m4 m5 : Nat} {x : Int32} : zR2 X zFT zE0 (zC 207) 0 [.ref 64, .int x] [] (ar, fi, (m1, m2, m3, m4, m5)) (some (.int (w_md_faring x (ar 65))), (ar, fi, (m1, m2, m3, m4, m5))) := by
  refine zseg_go ?_ t0_md_faring
  refine zR2_loop (σ := Int32) (fun k n => (4, [.ref 64, .int x, .int n, .int (nI k)], [], (ar, fi, (m1, m2, m3, m4, m5)))) (b_md_faring x (ar 65)) (fun _ _ => True) 96 0 0 trivial (fun k n h1 h2 _ => ⟨⟨(fun p => Nat.beq p 4), 400, ?_⟩, trivial⟩) ?_
  · have hk : k < 96 := by omega
    refine t1_md_faring.trans ?_
    rw [show (decide (96 ≤ nI k)) = false from decide_eq_false (show ¬ ((96 : Int32) ≤ nI k) from nI_ge (b := 96) hk (by omega))]
    have hG := h_md_faring x (ar 65) k n hk
    unfold b_md_faring
    rw [← nI_1 k]
    simp only [cond_false]
    cases hc1 : (!decide ((ar 65) ((0 + (nI k)).toNatClampNeg) = x)) with
    | true =>
      try simp only [hc1, cond_true, cond_false] at hG ⊢
      all_goals try simp only [Bool.and_eq_true, Bool.true_and, Bool.and_true] at hG
      all_goals try simp only [hG, zg, cond_true, and_self]
      all_goals rfl
    | false =>
      try simp only [hc1, cond_true, cond_false] at hG ⊢
      all_goals try simp only [Bool.and_eq_true, Bool.true_and, Bool.and_true] at hG
      all_goals try simp only [hG, zg, cond_true, and_self]
      all_goals rfl
  · refine zseg_ret (stops := (fun p => Nat.beq p 4)) (n := 400) (t1_md_faring.trans ?_)
    rw [show (decide (96 ≤ nI (0 + 96))) = true from by decide]
    rfl
theorem ok_md_faring (X : Nat × (Nat → Int32)) : zOkS X 207 S_md_faring 1 := zOkS_new (zOkE_nil X 0) (by
  intro args g o h
  obtain ⟨ar, fi, m1, m2, m3, m4, m5⟩ := g
  unfold S_md_faring P_md_faring at h
  split at h
  · refine zb_el h (fun hI0 k0 => ?_) (fun _ h10 => ?_)
    · have h2 := Option.some.inj k0
      have hG := congrArg Prod.fst h2
      have ho := congrArg Prod.snd h2
      dsimp only at hG ho
      subst ho
      try simp only [Bool.and_eq_true] at hI0
      have j0 := hI0
      have e0 := Nat.eq_of_beq_eq_true j0
      subst e0
      exact e_md_faring
    · cases h10
  · cases h)
