theorem zin_add (c k n : Nat) (h : c + k < n) (hn : n ≤ 2147483648) : zin (nI c + nI k) n = true := by
  rw [nI_add]
  exact zin_nI h hn
theorem zin_ex {x : Int32} {n : Nat} (h : zin x n = true) : ∃ j, j < n ∧ x = nI j := by
  have h1 := zin_of h
  have h2 : ¬ x < 0 := fun q => h1 (Or.inl q)
  have h3 : x.toNatClampNeg < n := Nat.not_le.mp fun q => h1 (Or.inr q)
  refine ⟨x.toNatClampNeg, h3, ?_⟩
  have h4 : 0 ≤ x.toInt := by
    have := Int32.not_lt.mp h2
    simpa using Int32.le_iff_toInt_le.mp this
  apply Int32.toInt_inj.mp
  have h5 : x.toInt = (x.toNatClampNeg : Int) := by
    show x.toInt = ((x.toInt.toNat : Nat) : Int)
    omega
  have h6 := Int32.toInt_lt x
  rw [h5] at h6 ⊢
  exact (nI_toInt (by omega)).symm
theorem nextTo_in : ∀ j, j < 96 → ∀ k, k < 4 → (bif decide (w_if_nextTo (nI j) (nI k) < 0) then true else zin (w_if_nextTo (nI j) (nI k)) 96) = true := by decide +kernel
theorem beside_in : ∀ j, j < 96 → ∀ k, k < 4 → (bif decide (w_md_beside (nI j) (nI k) = -1) then true else zin (0 + w_md_beside (nI j) (nI k)) 315) = true := by decide +kernel

def b_sc_placesOf (x : Int32) (p0 : Nat → Int32) (k : Nat) (n : Int32) : Int32 := (bif !decide (p0 ((nI k).toNatClampNeg) = x) then n else n + 1)
def w_sc_placesOf (x : Int32) (p0 : Nat → Int32) : Int32 := zfo (b_sc_placesOf x p0) 96 0 0
theorem h_sc_placesOf (x : Int32) (p0 : Nat → Int32) (k : Nat) (n : Int32) (hk : k < 96) : (zin (nI k) 96) = true := by
  exact zin_nI hk (by omega)
def P_sc_placesOf (W : Int32 → (Nat → Int32) → Int32) : zSp := fun as g => match as with
  | [.ref a, .int x] => bif Nat.beq a 2 then some (true, (some (.int (W x (g.1 3))), (g.1, g.2.1, g.2.2))) else bif Nat.beq a 9 then some (true, (some (.int (W x (g.1 10))), (g.1, g.2.1, g.2.2))) else bif Nat.beq a 16 then some (true, (some (.int (W x (g.1 17))), (g.1, g.2.1, g.2.2))) else none
  | _ => none
abbrev S_sc_placesOf : zSp := P_sc_placesOf w_sc_placesOf
set_option maxRecDepth 10000 in
theorem t0_sc_placesOf_2 {X : Nat × (Nat → Int32)} {ar fi : Nat → Nat → Int32} {m1 m2 m3 m4 m5 : Nat} {x : Int32} : zseg X zFT zE0 zc_75 (fun p => Nat.beq p 4) 400 0 [.ref 2, .int x] [] (ar, fi, (m1, m2, m3, m4, m5)) = (
  some (.inl (4, [.ref 2, .int x, .int 0, .int 0], [], (ar, fi, (m1, m2, m3, m4, m5)))) : Option ((Nat × List Value × List Value × zH2) ⊕ zO2)) := by with_unfolding_all rfl
set_option maxRecDepth 10000 in
theorem t1_sc_placesOf_2 {X : Nat × (Nat → Int32)} {ar fi : Nat → Nat → Int32} {m1 m2 m3 m4 m5 : Nat} {x : Int32} {r2 r3 : Int32} : zseg X zFT zE0 zc_75 (fun p => Nat.beq p 4) 400 4 [.ref 2, .int x, .int r2, .int r3] [] (ar, fi, (m1, m2, m3, m4, m5)) = (
  bif decide (96 ≤ r3) then
   some (.inr (some (.int r2), (ar, fi, (m1, m2, m3, m4, m5))))
  else
   zg (zin r3 96) (
   bif !decide ((ar 3) (r3.toNatClampNeg) = x) then
    some (.inl (4, [.ref 2, .int x, .int r2, .int (r3 + 1)], [], (ar, fi, (m1, m2, m3, m4, m5))))
   else
    some (.inl (4, [.ref 2, .int x, .int (r2 + 1), .int (r3 + 1)], [], (ar, fi, (m1, m2, m3, m4, m5))))) : Option ((Nat × List Value × List Value × zH2) ⊕ zO2)) := by with_unfolding_all rfl
set_option maxRecDepth 10000 in
theorem e_sc_placesOf_2 {X : Nat × (Nat → Int32)} {ar fi : Nat → Nat → Int32} {m1 m2 m3 m4 m5 : Nat} {x : Int32} : zR2 X zFT zE0 (zC 75) 0 [.ref 2, .int x] [] (ar, fi, (m1, m2, m3, m4, m5)) (some (.int (w_sc_placesOf x (ar 3))), (ar, fi, (m1, m2, m3, m4, m5))) := by
  refine zseg_go ?_ t0_sc_placesOf_2
  refine zR2_loop (σ := Int32) (fun k n => (4, [.ref 2, .int x, .int n, .int (nI k)], [], (ar, fi, (m1, m2, m3, m4, m5)))) (b_sc_placesOf x (ar 3)) (fun _ _ => True) 96 0 0 trivial (fun k n h1 h2 _ => ⟨⟨(fun p => Nat.beq p 4), 400, ?_⟩, trivial⟩) ?_
  · have hk : k < 96 := by omega
    refine t1_sc_placesOf_2.trans ?_
    rw [show (decide (96 ≤ nI k)) = false from decide_eq_false (show ¬ ((96 : Int32) ≤ nI k) from nI_ge (b := 96) hk (by omega))]
    have hG := h_sc_placesOf x (ar 3) k n hk
    unfold b_sc_placesOf
    rw [← nI_1 k]
    simp only [cond_false]
    cases hc1 : (!decide ((ar 3) ((nI k).toNatClampNeg) = x)) with
    | true =>
      try simp only [hc1, cond_true, cond_false] at hG ⊢
      all_goals try simp only [Bool.and_eq_true, Bool.true_and, Bool.and_true] at hG
      all_goals try simp only [hG, zg, cond_true, and_self]
      all_goals rfl
    | false =>
      try simp only [hc1, cond_true, cond_false] at hG ⊢
      all_goals try simp only [Bool.and_eq_true, Bool.true_and, Bool.and_true] at hG
      all_goals try simp only [hG, zg, cond_true, and_self]
      all_goals rfl
  · refine zseg_ret (stops := (fun p => Nat.beq p 4)) (n := 400) (t1_sc_placesOf_2.trans ?_)
    rw [show (decide (96 ≤ nI (0 + 96))) = true from by decide]
    rfl
set_option maxRecDepth 10000 in
theorem t0_sc_placesOf_9 {X : Nat × (Nat → Int32)} {ar fi : Nat → Nat → Int32} {m1 m2 m3 m4 m5 : Nat} {x : Int32} : zseg X zFT zE0 zc_75 (fun p => Nat.beq p 4) 400 0 [.ref 9, .int x] [] (ar, fi, (m1, m2, m3, m4, m5)) = (
  some (.inl (4, [.ref 9, .int x, .int 0, .int 0], [], (ar, fi, (m1, m2, m3, m4, m5)))) : Option ((Nat × List Value × List Value × zH2) ⊕ zO2)) := by with_unfolding_all rfl
set_option maxRecDepth 10000 in
theorem t1_sc_placesOf_9 {X : Nat × (Nat → Int32)} {ar fi : Nat → Nat → Int32} {m1 m2 m3 m4 m5 : Nat} {x : Int32} {r2 r3 : Int32} : zseg X zFT zE0 zc_75 (fun p => Nat.beq p 4) 400 4 [.ref 9, .int x, .int r2, .int r3] [] (ar, fi, (m1, m2, m3, m4, m5)) = (
  bif decide (96 ≤ r3) then
   some (.inr (some (.int r2), (ar, fi, (m1, m2, m3, m4, m5))))
  else
   zg (zin r3 96) (
   bif !decide ((ar 10) (r3.toNatClampNeg) = x) then
    some (.inl (4, [.ref 9, .int x, .int r2, .int (r3 + 1)], [], (ar, fi, (m1, m2, m3, m4, m5))))
   else
    some (.inl (4, [.ref 9, .int x, .int (r2 + 1), .int (r3 + 1)], [], (ar, fi, (m1, m2, m3, m4, m5))))) : Option ((Nat × List Value × List Value × zH2) ⊕ zO2)) := by with_unfolding_all rfl
set_option maxRecDepth 10000 in
theorem e_sc_placesOf_9 {X : Nat × (Nat → Int32)} {ar fi : Nat → Nat → Int32} {m1 m2 m3 m4 m5 : Nat} {x : Int32} : zR2 X zFT zE0 (zC 75) 0 [.ref 9, .int x] [] (ar, fi, (m1, m2, m3, m4, m5)) (some (.int (w_sc_placesOf x (ar 10))), (ar, fi, (m1, m2, m3, m4, m5))) := by
  refine zseg_go ?_ t0_sc_placesOf_9
  refine zR2_loop (σ := Int32) (fun k n => (4, [.ref 9, .int x, .int n, .int (nI k)], [], (ar, fi, (m1, m2, m3, m4, m5)))) (b_sc_placesOf x (ar 10)) (fun _ _ => True) 96 0 0 trivial (fun k n h1 h2 _ => ⟨⟨(fun p => Nat.beq p 4), 400, ?_⟩, trivial⟩) ?_
  · have hk : k < 96 := by omega
    refine t1_sc_placesOf_9.trans ?_
    rw [show (decide (96 ≤ nI k)) = false from decide_eq_false (show ¬ ((96 : Int32) ≤ nI k) from nI_ge (b := 96) hk (by omega))]
    have hG := h_sc_placesOf x (ar 10) k n hk
    unfold b_sc_placesOf
    rw [← nI_1 k]
    simp only [cond_false]
    cases hc1 : (!decide ((ar 10) ((nI k).toNatClampNeg) = x)) with
    | true =>
      try simp only [hc1, cond_true, cond_false] at hG ⊢
      all_goals try simp only [Bool.and_eq_true, Bool.true_and, Bool.and_true] at hG
      all_goals try simp only [hG, zg, cond_true, and_self]
      all_goals rfl
    | false =>
      try simp only [hc1, cond_true, cond_false] at hG ⊢
      all_goals try simp only [Bool.and_eq_true, Bool.true_and, Bool.and_true] at hG
      all_goals try simp only [hG, zg, cond_true, and_self]
      all_goals rfl
  · refine zseg_ret (stops := (fun p => Nat.beq p 4)) (n := 400) (t1_sc_placesOf_9.trans ?_)
    rw [show (decide (96 ≤ nI (0 + 96))) = true from by decide]
    rfl
set_option maxRecDepth 10000 in
theorem t0_sc_placesOf_16 {X : Nat × (Nat → Int32)} {ar fi : Nat → Nat → Int32} {m1 m2 m3 m4 m5 : Nat} {x : Int32} : zseg X zFT zE0 zc_75 (fun p => Nat.beq p 4) 400 0 [.ref 16, .int x] [] (ar, fi, (m1, m2, m3, m4, m5)) = (
  some (.inl (4, [.ref 16, .int x, .int 0, .int 0], [], (ar, fi, (m1, m2, m3, m4, m5)))) : Option ((Nat × List Value × List Value × zH2) ⊕ zO2)) := by with_unfolding_all rfl
set_option maxRecDepth 10000 in
theorem t1_sc_placesOf_16 {X : Nat × (Nat → Int32)} {ar fi : Nat → Nat → Int32} {m1 m2 m3 m4 m5 : Nat} {x : Int32} {r2 r3 : Int32} : zseg X zFT zE0 zc_75 (fun p => Nat.beq p 4) 400 4 [.ref 16, .int x, .int r2, .int r3] [] (ar, fi, (m1, m2, m3, m4, m5)) = (
  bif decide (96 ≤ r3) then
   some (.inr (some (.int r2), (ar, fi, (m1, m2, m3, m4, m5))))
  else
   zg (zin r3 96) (
   bif !decide ((ar 17) (r3.toNatClampNeg) = x) then
    some (.inl (4, [.ref 16, .int x, .int r2, .int (r3 + 1)], [], (ar, fi, (m1, m2, m3, m4, m5))))
   else
    some (.inl (4, [.ref 16, .int x, .int (r2 + 1), .int (r3 + 1)], [], (ar, fi, (m1, m2, m3, m4, m5))))) : Option ((Nat × List Value × List Value × zH2) ⊕ zO2)) := by with_unfolding_all rfl
set_option maxRecDepth 10000 in
theorem e_sc_placesOf_16 {X : Nat × (Nat → Int32)} {ar fi : Nat → Nat → Int32} {m1 m2 m3 m4 m5 : Nat} {x : Int32} : zR2 X zFT zE0 (zC 75) 0 [.ref 16, .int x] [] (ar, fi, (m1, m2, m3, m4, m5)) (some (.int (w_sc_placesOf x (ar 17))), (ar, fi, (m1, m2, m3, m4, m5))) := by
  refine zseg_go ?_ t0_sc_placesOf_16
  refine zR2_loop (σ := Int32) (fun k n => (4, [.ref 16, .int x, .int n, .int (nI k)], [], (ar, fi, (m1, m2, m3, m4, m5)))) (b_sc_placesOf x (ar 17)) (fun _ _ => True) 96 0 0 trivial (fun k n h1 h2 _ => ⟨⟨(fun p => Nat.beq p 4), 400, ?_⟩, trivial⟩) ?_
  · have hk : k < 96 := by omega
    refine t1_sc_placesOf_16.trans ?_
    rw [show (decide (96 ≤ nI k)) = false from decide_eq_false (show ¬ ((96 : Int32) ≤ nI k) from nI_ge (b := 96) hk (by omega))]
    have hG := h_sc_placesOf x (ar 17) k n hk
    unfold b_sc_placesOf
    rw [← nI_1 k]
    simp only [cond_false]
    cases hc1 : (!decide ((ar 17) ((nI k).toNatClampNeg) = x)) with
    | true =>
      try simp only [hc1, cond_true, cond_false] at hG ⊢
      all_goals try simp only [Bool.and_eq_true, Bool.true_and, Bool.and_true] at hG
      all_goals try simp only [hG, zg, cond_true, and_self]
      all_goals rfl
    | false =>
      try simp only [hc1, cond_true, cond_false] at hG ⊢
      all_goals try simp only [Bool.and_eq_true, Bool.true_and, Bool.and_true] at hG
      all_goals try simp only [hG, zg, cond_true, and_self]
      all_goals rfl
  · refine zseg_ret (stops := (fun p => Nat.beq p 4)) (n := 400) (t1_sc_placesOf_16.trans ?_)
    rw [show (decide (96 ≤ nI (0 + 96))) = true from by decide]
    rfl
theorem ok_sc_placesOf (X : Nat × (Nat → Int32)) : zOkS X 75 S_sc_placesOf 1 := zOkS_new (zOkE_nil X 0) (by
  intro args g o h
  obtain ⟨ar, fi, m1, m2, m3, m4, m5⟩ := g
  unfold S_sc_placesOf P_sc_placesOf at h
  split at h
  · refine zb_el h (fun hI0 k0 => ?_) (fun _ h10 => ?_)
    · have h2 := Option.some.inj k0
      have hG := congrArg Prod.fst h2
      have ho := congrArg Prod.snd h2
      dsimp only at hG ho
      subst ho
      try simp only [Bool.and_eq_true] at hI0
      have j0 := hI0
      have e0 := Nat.eq_of_beq_eq_true j0
      subst e0
      exact e_sc_placesOf_2
    · skip
      refine zb_el h10 (fun hI1 k1 => ?_) (fun _ h11 => ?_)
      · have h2 := Option.some.inj k1
        have hG := congrArg Prod.fst h2
        have ho := congrArg Prod.snd h2
        dsimp only at hG ho
        subst ho
        try simp only [Bool.and_eq_true] at hI1
        have j0 := hI1
        have e0 := Nat.eq_of_beq_eq_true j0
        subst e0
        exact e_sc_placesOf_9
      · skip
        refine zb_el h11 (fun hI2 k2 => ?_) (fun _ h12 => ?_)
        · have h2 := Option.some.inj k2
          have hG := congrArg Prod.fst h2
          have ho := congrArg Prod.snd h2
          dsimp only at hG ho
          subst ho
          try simp only [Bool.and_eq_true] at hI2
          have j0 := hI2
          have e0 := Nat.eq_of_beq_eq_true j0
          subst e0
          exact e_sc_placesOf_16
        · cases h12
  · cases h)
def b_sc_placesThatAre (x : Int32) (p0 : Nat → Int32) (k : Nat) (n : Int32) : Int32 := (bif !decide (p0 ((nI k).toNatClampNeg) = x) then n else n + 1)
def w_sc_placesThatAre (x : Int32) (p0 : Nat → Int32) : Int32 := zfo (b_sc_placesThatAre x p0) 96 0 0
theorem h_sc_placesThatAre (x : Int32) (p0 : Nat → Int32) (k : Nat) (n : Int32) (hk : k < 96) : (zin (nI k) 96) = true := by
  exact zin_nI hk (by omega)
def P_sc_placesThatAre (W : Int32 → (Nat → Int32) → Int32) : zSp := fun as g => match as with
  | [.ref a, .int x] => bif Nat.beq a 2 then some (true, (some (.int (W x (g.1 4))), (g.1, g.2.1, g.2.2))) else bif Nat.beq a 9 then some (true, (some (.int (W x (g.1 11))), (g.1, g.2.1, g.2.2))) else bif Nat.beq a 16 then some (true, (some (.int (W x (g.1 18))), (g.1, g.2.1, g.2.2))) else none
  | _ => none
abbrev S_sc_placesThatAre : zSp := P_sc_placesThatAre w_sc_placesThatAre
set_option maxRecDepth 10000 in
theorem t0_sc_placesThatAre_2 {X : Nat × (Nat → Int32)} {ar fi : Nat → Nat → Int32} {m1 m2 m3 m4 m5 : Nat} {x : Int32} : zseg X zFT zE0 zc_76 (fun p => Nat.beq p 4) 400 0 [.ref 2, .int x] [] (ar, fi, (m1, m2, m3, m4, m5)) = (
  some (.inl (4, [.ref 2, .int x, .int 0, .int 0], [], (ar, fi, (m1, m2, m3, m4, m5)))) : Option ((Nat × List Value × List Value × zH2) ⊕ zO2)) := by with_unfolding_all rfl
set_option maxRecDepth 10000 in
theorem t1_sc_placesThatAre_2 {X : Nat × (Nat → Int32)} {ar fi : Nat → Nat → Int32} {m1 m2 m3 m4 m5 : Nat} {x : Int32} {r2 r3 : Int32} : zseg X zFT zE0 zc_76 (fun p => Nat.beq p 4) 400 4 [.ref 2, .int x, .int r2, .int r3] [] (ar, fi, (m1, m2, m3, m4, m5)) = (
  bif decide (96 ≤ r3) then
   some (.inr (some (.int r2), (ar, fi, (m1, m2, m3, m4, m5))))
  else
   zg (zin r3 96) (
   bif !decide ((ar 4) (r3.toNatClampNeg) = x) then
    some (.inl (4, [.ref 2, .int x, .int r2, .int (r3 + 1)], [], (ar, fi, (m1, m2, m3, m4, m5))))
   else
    some (.inl (4, [.ref 2, .int x, .int (r2 + 1), .int (r3 + 1)], [], (ar, fi, (m1, m2, m3, m4, m5))))) : Option ((Nat × List Value × List Value × zH2) ⊕ zO2)) := by with_unfolding_all rfl
set_option maxRecDepth 10000 in
theorem e_sc_placesThatAre_2 {X : Nat × (Nat → Int32)} {ar fi : Nat → Nat → Int32} {m1 m2 m3 m4 m5 : Nat} {x : Int32} : zR2 X zFT zE0 (zC 76) 0 [.ref 2, .int x] [] (ar, fi, (m1, m2, m3, m4, m5)) (some (.int (w_sc_placesThatAre x (ar 4))), (ar, fi, (m1, m2, m3, m4, m5))) := by
  refine zseg_go ?_ t0_sc_placesThatAre_2
  refine zR2_loop (σ := Int32) (fun k n => (4, [.ref 2, .int x, .int n, .int (nI k)], [], (ar, fi, (m1, m2, m3, m4, m5)))) (b_sc_placesThatAre x (ar 4)) (fun _ _ => True) 96 0 0 trivial (fun k n h1 h2 _ => ⟨⟨(fun p => Nat.beq p 4), 400, ?_⟩, trivial⟩) ?_
  · have hk : k < 96 := by omega
    refine t1_sc_placesThatAre_2.trans ?_
    rw [show (decide (96 ≤ nI k)) = false from decide_eq_false (show ¬ ((96 : Int32) ≤ nI k) from nI_ge (b := 96) hk (by omega))]
    have hG := h_sc_placesThatAre x (ar 4) k n hk
    unfold b_sc_placesThatAre
    rw [← nI_1 k]
    simp only [cond_false]
    cases hc1 : (!decide ((ar 4) ((nI k).toNatClampNeg) = x)) with
    | true =>
      try simp only [hc1, cond_true, cond_false] at hG ⊢
      all_goals try simp only [Bool.and_eq_true, Bool.true_and, Bool.and_true] at hG
      all_goals try simp only [hG, zg, cond_true, and_self]
      all_goals rfl
    | false =>
      try simp only [hc1, cond_true, cond_false] at hG ⊢
      all_goals try simp only [Bool.and_eq_true, Bool.true_and, Bool.and_true] at hG
      all_goals try simp only [hG, zg, cond_true, and_self]
      all_goals rfl
  · refine zseg_ret (stops := (fun p => Nat.beq p 4)) (n := 400) (t1_sc_placesThatAre_2.trans ?_)
    rw [show (decide (96 ≤ nI (0 + 96))) = true from by decide]
    rfl
set_option maxRecDepth 10000 in
theorem t0_sc_placesThatAre_9 {X : Nat × (Nat → Int32)} {ar fi : Nat → Nat → Int32} {m1 m2 m3 m4 m5 : Nat} {x : Int32} : zseg X zFT zE0 zc_76 (fun p => Nat.beq p 4) 400 0 [.ref 9, .int x] [] (ar, fi, (m1, m2, m3, m4, m5)) = (
  some (.inl (4, [.ref 9, .int x, .int 0, .int 0], [], (ar, fi, (m1, m2, m3, m4, m5)))) : Option ((Nat × List Value × List Value × zH2) ⊕ zO2)) := by with_unfolding_all rfl
set_option maxRecDepth 10000 in
theorem t1_sc_placesThatAre_9 {X : Nat × (Nat → Int32)} {ar fi : Nat → Nat → Int32} {m1 m2 m3 m4 m5 : Nat} {x : Int32} {r2 r3 : Int32} : zseg X zFT zE0 zc_76 (fun p => Nat.beq p 4) 400 4 [.ref 9, .int x, .int r2, .int r3] [] (ar, fi, (m1, m2, m3, m4, m5)) = (
  bif decide (96 ≤ r3) then
   some (.inr (some (.int r2), (ar, fi, (m1, m2, m3, m4, m5))))
  else
   zg (zin r3 96) (
   bif !decide ((ar 11) (r3.toNatClampNeg) = x) then
    some (.inl (4, [.ref 9, .int x, .int r2, .int (r3 + 1)], [], (ar, fi, (m1, m2, m3, m4, m5))))
   else
    some (.inl (4, [.ref 9, .int x, .int (r2 + 1), .int (r3 + 1)], [], (ar, fi, (m1, m2, m3, m4, m5))))) : Option ((Nat × List Value × List Value × zH2) ⊕ zO2)) := by with_unfolding_all rfl
set_option maxRecDepth 10000 in
theorem e_sc_placesThatAre_9 {X : Nat × (Nat → Int32)} {ar fi : Nat → Nat → Int32} {m1 m2 m3 m4 m5 : Nat} {x : Int32} : zR2 X zFT zE0 (zC 76) 0 [.ref 9, .int x] [] (ar, fi, (m1, m2, m3, m4, m5)) (some (.int (w_sc_placesThatAre x (ar 11))), (ar, fi, (m1, m2, m3, m4, m5))) := by
  refine zseg_go ?_ t0_sc_placesThatAre_9
  refine zR2_loop (σ := Int32) (fun k n => (4, [.ref 9, .int x, .int n, .int (nI k)], [], (ar, fi, (m1, m2, m3, m4, m5)))) (b_sc_placesThatAre x (ar 11)) (fun _ _ => True) 96 0 0 trivial (fun k n h1 h2 _ => ⟨⟨(fun p => Nat.beq p 4), 400, ?_⟩, trivial⟩) ?_
  · have hk : k < 96 := by omega
    refine t1_sc_placesThatAre_9.trans ?_
    rw [show (decide (96 ≤ nI k)) = false from decide_eq_false (show ¬ ((96 : Int32) ≤ nI k) from nI_ge (b := 96) hk (by omega))]
    have hG := h_sc_placesThatAre x (ar 11) k n hk
    unfold b_sc_placesThatAre
    rw [← nI_1 k]
    simp only [cond_false]
    cases hc1 : (!decide ((ar 11) ((nI k).toNatClampNeg) = x)) with
    | true =>
      try simp only [hc1, cond_true, cond_false] at hG ⊢
      all_goals try simp only [Bool.and_eq_true, Bool.true_and, Bool.and_true] at hG
      all_goals try simp only [hG, zg, cond_true, and_self]
      all_goals rfl
    | false =>
      try simp only [hc1, cond_true, cond_false] at hG ⊢
      all_goals try simp only [Bool.and_eq_true, Bool.true_and, Bool.and_true] at hG
      all_goals try simp only [hG, zg, cond_true, and_self]
      all_goals rfl
  · refine zseg_ret (stops := (fun p => Nat.beq p 4)) (n := 400) (t1_sc_placesThatAre_9.trans ?_)
    rw [show (decide (96 ≤ nI (0 + 96))) = true from by decide]
    rfl
set_option maxRecDepth 10000 in
theorem t0_sc_placesThatAre_16 {X : Nat × (Nat → Int32)} {ar fi : Nat → Nat → Int32} {m1 m2 m3 m4 m5 : Nat} {x : Int32} : zseg X zFT zE0 zc_76 (fun p => Nat.beq p 4) 400 0 [.ref 16, .int x] [] (ar, fi, (m1, m2, m3, m4, m5)) = (
  some (.inl (4, [.ref 16, .int x, .int 0, .int 0], [], (ar, fi, (m1, m2, m3, m4, m5)))) : Option ((Nat × List Value × List Value × zH2) ⊕ zO2)) := by with_unfolding_all rfl
set_option maxRecDepth 10000 in
theorem t1_sc_placesThatAre_16 {X : Nat × (Nat → Int32)} {ar fi : Nat → Nat → Int32} {m1 m2 m3 m4 m5 : Nat} {x : Int32} {r2 r3 : Int32} : zseg X zFT zE0 zc_76 (fun p => Nat.beq p 4) 400 4 [.ref 16, .int x, .int r2, .int r3] [] (ar, fi, (m1, m2, m3, m4, m5)) = (
  bif decide (96 ≤ r3) then
   some (.inr (some (.int r2), (ar, fi, (m1, m2, m3, m4, m5))))
  else
   zg (zin r3 96) (
   bif !decide ((ar 18) (r3.toNatClampNeg) = x) then
    some (.inl (4, [.ref 16, .int x, .int r2, .int (r3 + 1)], [], (ar, fi, (m1, m2, m3, m4, m5))))
   else
    some (.inl (4, [.ref 16, .int x, .int (r2 + 1), .int (r3 + 1)], [], (ar, fi, (m1, m2, m3, m4, m5))))) : Option ((Nat × List Value × List Value × zH2) ⊕ zO2)) := by with_unfolding_all rfl
set_option maxRecDepth 10000 in
theorem e_sc_placesThatAre_16 {X : Nat × (Nat → Int32)} {ar fi : Nat → Nat → Int32} {m1 m2 m3 m4 m5 : Nat} {x : Int32} : zR2 X zFT zE0 (zC 76) 0 [.ref 16, .int x] [] (ar, fi, (m1, m2, m3, m4, m5)) (some (.int (w_sc_placesThatAre x (ar 18))), (ar, fi, (m1, m2, m3, m4, m5))) := by
  refine zseg_go ?_ t0_sc_placesThatAre_16
  refine zR2_loop (σ := Int32) (fun k n => (4, [.ref 16, .int x, .int n, .int (nI k)], [], (ar, fi, (m1, m2, m3, m4, m5)))) (b_sc_placesThatAre x (ar 18)) (fun _ _ => True) 96 0 0 trivial (fun k n h1 h2 _ => ⟨⟨(fun p => Nat.beq p 4), 400, ?_⟩, trivial⟩) ?_
  · have hk : k < 96 := by omega
    refine t1_sc_placesThatAre_16.trans ?_
    rw [show (decide (96 ≤ nI k)) = false from decide_eq_false (show ¬ ((96 : Int32) ≤ nI k) from nI_ge (b := 96) hk (by omega))]
    have hG := h_sc_placesThatAre x (ar 18) k n hk
    unfold b_sc_placesThatAre
    rw [← nI_1 k]
    simp only [cond_false]
    cases hc1 : (!decide ((ar 18) ((nI k).toNatClampNeg) = x)) with
    | true =>
      try simp only [hc1, cond_true, cond_false] at hG ⊢
      all_goals try simp only [Bool.and_eq_true, Bool.true_and, Bool.and_true] at hG
      all_goals try simp only [hG, zg, cond_true, and_self]
      all_goals rfl
    | false =>
      try simp only [hc1, cond_true, cond_false] at hG ⊢
      all_goals try simp only [Bool.and_eq_true, Bool.true_and, Bool.and_true] at hG
      all_goals try simp only [hG, zg, cond_true, and_self]
      all_goals rfl
  · refine zseg_ret (stops := (fun p => Nat.beq p 4)) (n := 400) (t1_sc_placesThatAre_16.trans ?_)
    rw [show (decide (96 ≤ nI (0 + 96))) = true from by decide]
    rfl
theorem ok_sc_placesThatAre (X : Nat × (Nat → Int32)) : zOkS X 76 S_sc_placesThatAre 1 := zOkS_new (zOkE_nil X 0) (by
  intro args g o h
  obtain ⟨ar, fi, m1, m2, m3, m4, m5⟩ := g
  unfold S_sc_placesThatAre P_sc_placesThatAre at h
  split at h
  · refine zb_el h (fun hI0 k0 => ?_) (fun _ h10 => ?_)
    · have h2 := Option.some.inj k0
      have hG := congrArg Prod.fst h2
      have ho := congrArg Prod.snd h2
      dsimp only at hG ho
      subst ho
      try simp only [Bool.and_eq_true] at hI0
      have j0 := hI0
      have e0 := Nat.eq_of_beq_eq_true j0
      subst e0
      exact e_sc_placesThatAre_2
    · skip
      refine zb_el h10 (fun hI1 k1 => ?_) (fun _ h11 => ?_)
      · have h2 := Option.some.inj k1
        have hG := congrArg Prod.fst h2
        have ho := congrArg Prod.snd h2
        dsimp only at hG ho
        subst ho
        try simp only [Bool.and_eq_true] at hI1
        have j0 := hI1
        have e0 := Nat.eq_of_beq_eq_true j0
        subst e0
        exact e_sc_placesThatAre_9
      · skip
        refine zb_el h11 (fun hI2 k2 => ?_) (fun _ h12 => ?_)
        · have h2 := Option.some.inj k2
          have hG := congrArg Prod.fst h2
          have ho := congrArg Prod.snd h2
          dsimp only at hG ho
          subst ho
          try simp only [Bool.and_eq_true] at hI2
          have j0 := hI2
          have e0 := Nat.eq_of_beq_eq_true j0
          subst e0
          exact e_sc_placesThatAre_16
        · cases h12
  · cases h)
def b_md_faring (x : Int32) (p0 : Nat → Int32) (k : Nat) (n : Int32) : Int32 := (bif !decide (p0 ((0 + (nI k)).toNatClampNeg) = x) then n else n + 1)
def w_md_faring (x : Int32) (p0 : Nat → Int32) : Int32 := zfo (b_md_faring x p0) 96 0 0
theorem h_md_faring (x : Int32) (p0 : Nat → Int32) (k : Nat) (n : Int32) (hk : k < 96) : (zin (0 + (nI k)) 315) = true := by
  exact zin_add 0 k 315 (by omega) (by omega)
def P_md_faring (W : Int32 → (Nat → Int32) → Int32) : zSp := fun as g => match as with
  | [.ref a, .int x] => bif Nat.beq a 64 then some (true, (some (.int (W x (g.1 65))), (g.1, g.2.1, g.2.2))) else none
  | _ => none
abbrev S_md_faring : zSp := P_md_faring w_md_faring
set_option maxRecDepth 10000 in
theorem t0_md_faring {X : Nat × (Nat → Int32)} {ar fi : Nat → Nat → Int32} {m1 m2 m3 m4 m5 : Nat} {x : Int32} : zseg X zFT zE0 zc_207 (fun p => Nat.beq p 4) 400 0 [.ref 64, .int x] [] (ar, fi, (m1, m2, m3, m4, m5)) = (
  some (.inl (4, [.ref 64, .int x, .int 0, .int 0], [], (ar, fi, (m1, m2, m3, m4, m5)))) : Option ((Nat × List Value × List Value × zH2) ⊕ zO2)) := by with_unfolding_all rfl
set_option maxRecDepth 10000 in
theorem t1_md_faring {X : Nat × (Nat → Int32)} {ar fi : Nat → Nat → Int32} {m1 m2 m3 m4 m5 : Nat} {x : Int32} {r2 r3 : Int32} : zseg X zFT zE0 zc_207 (fun p => Nat.beq p 4) 400 4 [.ref 64, .int x, .int r2, .int r3] [] (ar, fi, (m1, m2, m3, m4, m5)) = (
  bif decide (96 ≤ r3) then
   some (.inr (some (.int r2), (ar, fi, (m1, m2, m3, m4, m5))))
  else
   zg (zin (0 + r3) 315) (
   bif !decide ((ar 65) ((0 + r3).toNatClampNeg) = x) then
    some (.inl (4, [.ref 64, .int x, .int r2, .int (r3 + 1)], [], (ar, fi, (m1, m2, m3, m4, m5))))
   else
    some (.inl (4, [.ref 64, .int x, .int (r2 + 1), .int (r3 + 1)], [], (ar, fi, (m1, m2, m3, m4, m5))))) : Option ((Nat × List Value × List Value × zH2) ⊕ zO2)) := by with_unfolding_all rfl
set_option maxRecDepth 10000 in
theorem e_md_faring {X : Nat × (Nat → Int32)} {ar fi : Nat → Nat → Int32} {m1 m2 m3 m4 m5 : Nat} {x : Int32} : zR2 X zFT zE0 (zC 207) 0 [.ref 64, .int x] [] (ar, fi, (m1, m2, m3, m4, m5)) (some (.int (w_md_faring x (ar 65))), (ar, fi, (m1, m2, m3, m4, m5))) := by
  refine zseg_go ?_ t0_md_faring
  refine zR2_loop (σ := Int32) (fun k n => (4, [.ref 64, .int x, .int n, .int (nI k)], [], (ar, fi, (m1, m2, m3, m4, m5)))) (b_md_faring x (ar 65)) (fun _ _ => True) 96 0 0 trivial (fun k n h1 h2 _ => ⟨⟨(fun p => Nat.beq p 4), 400, ?_⟩, trivial⟩) ?_
  · have hk : k < 96 := by omega
    refine t1_md_faring.trans ?_
    rw [show (decide (96 ≤ nI k)) = false from decide_eq_false (show ¬ ((96 : Int32) ≤ nI k) from nI_ge (b := 96) hk (by omega))]
    have hG := h_md_faring x (ar 65) k n hk
    unfold b_md_faring
    rw [← nI_1 k]
    simp only [cond_false]
    cases hc1 : (!decide ((ar 65) ((0 + (nI k)).toNatClampNeg) = x)) with
    | true =>
      try simp only [hc1, cond_true, cond_false] at hG ⊢
      all_goals try simp only [Bool.and_eq_true, Bool.true_and, Bool.and_true] at hG
      all_goals try simp only [hG, zg, cond_true, and_self]
      all_goals rfl
    | false =>
      try simp only [hc1, cond_true, cond_false] at hG ⊢
      all_goals try simp only [Bool.and_eq_true, Bool.true_and, Bool.and_true] at hG
      all_goals try simp only [hG, zg, cond_true, and_self]
      all_goals rfl
  · refine zseg_ret (stops := (fun p => Nat.beq p 4)) (n := 400) (t1_md_faring.trans ?_)
    rw [show (decide (96 ≤ nI (0 + 96))) = true from by decide]
    rfl
theorem ok_md_faring (X : Nat × (Nat → Int32)) : zOkS X 207 S_md_faring 1 := zOkS_new (zOkE_nil X 0) (by
  intro args g o h
  obtain ⟨ar, fi, m1, m2, m3, m4, m5⟩ := g
  unfold S_md_faring P_md_faring at h
  split at h
  · refine zb_el h (fun hI0 k0 => ?_) (fun _ h10 => ?_)
    · have h2 := Option.some.inj k0
      have hG := congrArg Prod.fst h2
      have ho := congrArg Prod.snd h2
      dsimp only at hG ho
      subst ho
      try simp only [Bool.and_eq_true] at hI0
      have j0 := hI0
      have e0 := Nat.eq_of_beq_eq_true j0
      subst e0
      exact e_md_faring
    · cases h10
  · cases h)
def b_sc_burningNextTo (x : Int32) (p0 : Nat → Int32) (k : Nat) (n : Int32) : Int32 := (bif decide (w_if_nextTo x (nI k) < 0) then n else (bif !decide (p0 ((w_if_nextTo x (nI k)).toNatClampNeg) = 1) then n else n + 1))
def w_sc_burningNextTo (x : Int32) (p0 : Nat → Int32) : Int32 := zfo (b_sc_burningNextTo x p0) 4 0 0
def g_sc_burningNextTo (x : Int32) (p0 : Nat → Int32) : Bool := zin x 96
theorem h_sc_burningNextTo (x : Int32) (p0 : Nat → Int32) (k : Nat) (n : Int32) (hk : k < 4) (hP : g_sc_burningNextTo x p0 = true) : (bif decide (w_if_nextTo x (nI k) < 0) then true else zin (w_if_nextTo x (nI k)) 96) = true := by
  obtain ⟨j, hj, rfl⟩ := zin_ex hP
  exact nextTo_in j hj k hk
def P_sc_burningNextTo (G : Int32 → (Nat → Int32) → Bool) (W : Int32 → (Nat → Int32) → Int32) : zSp := fun as g => match as with
  | [.ref a, .int x] => bif Nat.beq a 2 then some (G x (g.1 4), (some (.int (W x (g.1 4))), (g.1, g.2.1, g.2.2))) else bif Nat.beq a 9 then some (G x (g.1 11), (some (.int (W x (g.1 11))), (g.1, g.2.1, g.2.2))) else bif Nat.beq a 16 then some (G x (g.1 18), (some (.int (W x (g.1 18))), (g.1, g.2.1, g.2.2))) else none
  | _ => none
abbrev S_sc_burningNextTo : zSp := P_sc_burningNextTo g_sc_burningNextTo w_sc_burningNextTo
set_option maxRecDepth 10000 in
theorem t0_sc_burningNextTo_2 {X : Nat × (Nat → Int32)} {ar fi : Nat → Nat → Int32} {m1 m2 m3 m4 m5 : Nat} {x : Int32} {W_if_nextTo : Int32 → Int32 → Int32} : zseg X zFT (zEx 140 (P_if_nextTo W_if_nextTo) zE0) zc_77 (fun p => Nat.beq p 4) 400 0 [.ref 2, .int x] [] (ar, fi, (m1, m2, m3, m4, m5)) = (
  some (.inl (4, [.ref 2, .int x, .int 0, .int 0], [], (ar, fi, (m1, m2, m3, m4, m5)))) : Option ((Nat × List Value × List Value × zH2) ⊕ zO2)) := by with_unfolding_all rfl
set_option maxRecDepth 10000 in
theorem t1_sc_burningNextTo_2 {X : Nat × (Nat → Int32)} {ar fi : Nat → Nat → Int32} {m1 m2 m3 m4 m5 : Nat} {x : Int32} {r2 r3 : Int32} {W_if_nextTo : Int32 → Int32 → Int32} : zseg X zFT (zEx 140 (P_if_nextTo W_if_nextTo) zE0) zc_77 (fun p => Nat.beq p 4) 400 4 [.ref 2, .int x, .int r2, .int r3] [] (ar, fi, (m1, m2, m3, m4, m5)) = (
  bif decide (4 ≤ r3) then
   some (.inr (some (.int r2), (ar, fi, (m1, m2, m3, m4, m5))))
  else
   bif decide (W_if_nextTo x r3 < 0) then
    some (.inl (4, [.ref 2, .int x, .int r2, .int (r3 + 1)], [], (ar, fi, (m1, m2, m3, m4, m5))))
   else
    zg (zin (W_if_nextTo x r3) 96) (
    bif !decide ((ar 4) ((W_if_nextTo x r3).toNatClampNeg) = 1) then
     some (.inl (4, [.ref 2, .int x, .int r2, .int (r3 + 1)], [], (ar, fi, (m1, m2, m3, m4, m5))))
    else
     some (.inl (4, [.ref 2, .int x, .int (r2 + 1), .int (r3 + 1)], [], (ar, fi, (m1, m2, m3, m4, m5))))) : Option ((Nat × List Value × List Value × zH2) ⊕ zO2)) := by with_unfolding_all rfl
set_option maxRecDepth 10000 in
theorem e_sc_burningNextTo_2 {X : Nat × (Nat → Int32)} {ar fi : Nat → Nat → Int32} {m1 m2 m3 m4 m5 : Nat} {x : Int32} (hP : g_sc_burningNextTo x (ar 4) = true) : zR2 X zFT (zEx 140 S_if_nextTo zE0) (zC 77) 0 [.ref 2, .int x] [] (ar, fi, (m1, m2, m3, m4, m5)) (some (.int (w_sc_burningNextTo x (ar 4))), (ar, fi, (m1, m2, m3, m4, m5))) := by
  refine zseg_go ?_ t0_sc_burningNextTo_2
  refine zR2_loop (σ := Int32) (fun k n => (4, [.ref 2, .int x, .int n, .int (nI k)], [], (ar, fi, (m1, m2, m3, m4, m5)))) (b_sc_burningNextTo x (ar 4)) (fun _ _ => True) 4 0 0 trivial (fun k n h1 h2 _ => ⟨⟨(fun p => Nat.beq p 4), 400, ?_⟩, trivial⟩) ?_
  · have hk : k < 4 := by omega
    refine t1_sc_burningNextTo_2.trans ?_
    rw [show (decide (4 ≤ nI k)) = false from decide_eq_false (show ¬ ((4 : Int32) ≤ nI k) from nI_ge (b := 4) hk (by omega))]
    have hG := h_sc_burningNextTo x (ar 4) k n hk hP
    unfold b_sc_burningNextTo
    rw [← nI_1 k]
    simp only [cond_false]
    cases hc1 : (decide (w_if_nextTo x (nI k) < 0)) with
    | true =>
      try simp only [hc1, cond_true, cond_false] at hG ⊢
      all_goals try simp only [Bool.and_eq_true, Bool.true_and, Bool.and_true] at hG
      all_goals try simp only [hG, zg, cond_true, and_self]
      all_goals rfl
    | false =>
      try simp only [hc1, cond_true, cond_false] at hG ⊢
      cases hc2 : (!decide ((ar 4) ((w_if_nextTo x (nI k)).toNatClampNeg) = 1)) with
      | true =>
        try simp only [hc2, cond_true, cond_false] at hG ⊢
        all_goals try simp only [Bool.and_eq_true, Bool.true_and, Bool.and_true] at hG
        all_goals try simp only [hG, zg, cond_true, and_self]
        all_goals rfl
      | false =>
        try simp only [hc2, cond_true, cond_false] at hG ⊢
        all_goals try simp only [Bool.and_eq_true, Bool.true_and, Bool.and_true] at hG
        all_goals try simp only [hG, zg, cond_true, and_self]
        all_goals rfl
  · refine zseg_ret (stops := (fun p => Nat.beq p 4)) (n := 400) (t1_sc_burningNextTo_2.trans ?_)
    rw [show (decide (4 ≤ nI (0 + 4))) = true from by decide]
    rfl
set_option maxRecDepth 10000 in
theorem t0_sc_burningNextTo_9 {X : Nat × (Nat → Int32)} {ar fi : Nat → Nat → Int32} {m1 m2 m3 m4 m5 : Nat} {x : Int32} {W_if_nextTo : Int32 → Int32 → Int32} : zseg X zFT (zEx 140 (P_if_nextTo W_if_nextTo) zE0) zc_77 (fun p => Nat.beq p 4) 400 0 [.ref 9, .int x] [] (ar, fi, (m1, m2, m3, m4, m5)) = (
  some (.inl (4, [.ref 9, .int x, .int 0, .int 0], [], (ar, fi, (m1, m2, m3, m4, m5)))) : Option ((Nat × List Value × List Value × zH2) ⊕ zO2)) := by with_unfolding_all rfl
set_option maxRecDepth 10000 in
theorem t1_sc_burningNextTo_9 {X : Nat × (Nat → Int32)} {ar fi : Nat → Nat → Int32} {m1 m2 m3 m4 m5 : Nat} {x : Int32} {r2 r3 : Int32} {W_if_nextTo : Int32 → Int32 → Int32} : zseg X zFT (zEx 140 (P_if_nextTo W_if_nextTo) zE0) zc_77 (fun p => Nat.beq p 4) 400 4 [.ref 9, .int x, .int r2, .int r3] [] (ar, fi, (m1, m2, m3, m4, m5)) = (
  bif decide (4 ≤ r3) then
   some (.inr (some (.int r2), (ar, fi, (m1, m2, m3, m4, m5))))
  else
   bif decide (W_if_nextTo x r3 < 0) then
    some (.inl (4, [.ref 9, .int x, .int r2, .int (r3 + 1)], [], (ar, fi, (m1, m2, m3, m4, m5))))
   else
    zg (zin (W_if_nextTo x r3) 96) (
    bif !decide ((ar 11) ((W_if_nextTo x r3).toNatClampNeg) = 1) then
     some (.inl (4, [.ref 9, .int x, .int r2, .int (r3 + 1)], [], (ar, fi, (m1, m2, m3, m4, m5))))
    else
     some (.inl (4, [.ref 9, .int x, .int (r2 + 1), .int (r3 + 1)], [], (ar, fi, (m1, m2, m3, m4, m5))))) : Option ((Nat × List Value × List Value × zH2) ⊕ zO2)) := by with_unfolding_all rfl
set_option maxRecDepth 10000 in
theorem e_sc_burningNextTo_9 {X : Nat × (Nat → Int32)} {ar fi : Nat → Nat → Int32} {m1 m2 m3 m4 m5 : Nat} {x : Int32} (hP : g_sc_burningNextTo x (ar 11) = true) : zR2 X zFT (zEx 140 S_if_nextTo zE0) (zC 77) 0 [.ref 9, .int x] [] (ar, fi, (m1, m2, m3, m4, m5)) (some (.int (w_sc_burningNextTo x (ar 11))), (ar, fi, (m1, m2, m3, m4, m5))) := by
  refine zseg_go ?_ t0_sc_burningNextTo_9
  refine zR2_loop (σ := Int32) (fun k n => (4, [.ref 9, .int x, .int n, .int (nI k)], [], (ar, fi, (m1, m2, m3, m4, m5)))) (b_sc_burningNextTo x (ar 11)) (fun _ _ => True) 4 0 0 trivial (fun k n h1 h2 _ => ⟨⟨(fun p => Nat.beq p 4), 400, ?_⟩, trivial⟩) ?_
  · have hk : k < 4 := by omega
    refine t1_sc_burningNextTo_9.trans ?_
    rw [show (decide (4 ≤ nI k)) = false from decide_eq_false (show ¬ ((4 : Int32) ≤ nI k) from nI_ge (b := 4) hk (by omega))]
    have hG := h_sc_burningNextTo x (ar 11) k n hk hP
    unfold b_sc_burningNextTo
    rw [← nI_1 k]
    simp only [cond_false]
    cases hc1 : (decide (w_if_nextTo x (nI k) < 0)) with
    | true =>
      try simp only [hc1, cond_true, cond_false] at hG ⊢
      all_goals try simp only [Bool.and_eq_true, Bool.true_and, Bool.and_true] at hG
      all_goals try simp only [hG, zg, cond_true, and_self]
      all_goals rfl
    | false =>
      try simp only [hc1, cond_true, cond_false] at hG ⊢
      cases hc2 : (!decide ((ar 11) ((w_if_nextTo x (nI k)).toNatClampNeg) = 1)) with
      | true =>
        try simp only [hc2, cond_true, cond_false] at hG ⊢
        all_goals try simp only [Bool.and_eq_true, Bool.true_and, Bool.and_true] at hG
        all_goals try simp only [hG, zg, cond_true, and_self]
        all_goals rfl
      | false =>
        try simp only [hc2, cond_true, cond_false] at hG ⊢
        all_goals try simp only [Bool.and_eq_true, Bool.true_and, Bool.and_true] at hG
        all_goals try simp only [hG, zg, cond_true, and_self]
        all_goals rfl
  · refine zseg_ret (stops := (fun p => Nat.beq p 4)) (n := 400) (t1_sc_burningNextTo_9.trans ?_)
    rw [show (decide (4 ≤ nI (0 + 4))) = true from by decide]
    rfl
set_option maxRecDepth 10000 in
theorem t0_sc_burningNextTo_16 {X : Nat × (Nat → Int32)} {ar fi : Nat → Nat → Int32} {m1 m2 m3 m4 m5 : Nat} {x : Int32} {W_if_nextTo : Int32 → Int32 → Int32} : zseg X zFT (zEx 140 (P_if_nextTo W_if_nextTo) zE0) zc_77 (fun p => Nat.beq p 4) 400 0 [.ref 16, .int x] [] (ar, fi, (m1, m2, m3, m4, m5)) = (
  some (.inl (4, [.ref 16, .int x, .int 0, .int 0], [], (ar, fi, (m1, m2, m3, m4, m5)))) : Option ((Nat × List Value × List Value × zH2) ⊕ zO2)) := by with_unfolding_all rfl
set_option maxRecDepth 10000 in
theorem t1_sc_burningNextTo_16 {X : Nat × (Nat → Int32)} {ar fi : Nat → Nat → Int32} {m1 m2 m3 m4 m5 : Nat} {x : Int32} {r2 r3 : Int32} {W_if_nextTo : Int32 → Int32 → Int32} : zseg X zFT (zEx 140 (P_if_nextTo W_if_nextTo) zE0) zc_77 (fun p => Nat.beq p 4) 400 4 [.ref 16, .int x, .int r2, .int r3] [] (ar, fi, (m1, m2, m3, m4, m5)) = (
  bif decide (4 ≤ r3) then
   some (.inr (some (.int r2), (ar, fi, (m1, m2, m3, m4, m5))))
  else
   bif decide (W_if_nextTo x r3 < 0) then
    some (.inl (4, [.ref 16, .int x, .int r2, .int (r3 + 1)], [], (ar, fi, (m1, m2, m3, m4, m5))))
   else
    zg (zin (W_if_nextTo x r3) 96) (
    bif !decide ((ar 18) ((W_if_nextTo x r3).toNatClampNeg) = 1) then
     some (.inl (4, [.ref 16, .int x, .int r2, .int (r3 + 1)], [], (ar, fi, (m1, m2, m3, m4, m5))))
    else
     some (.inl (4, [.ref 16, .int x, .int (r2 + 1), .int (r3 + 1)], [], (ar, fi, (m1, m2, m3, m4, m5))))) : Option ((Nat × List Value × List Value × zH2) ⊕ zO2)) := by with_unfolding_all rfl
set_option maxRecDepth 10000 in
theorem e_sc_burningNextTo_16 {X : Nat × (Nat → Int32)} {ar fi : Nat → Nat → Int32} {m1 m2 m3 m4 m5 : Nat} {x : Int32} (hP : g_sc_burningNextTo x (ar 18) = true) : zR2 X zFT (zEx 140 S_if_nextTo zE0) (zC 77) 0 [.ref 16, .int x] [] (ar, fi, (m1, m2, m3, m4, m5)) (some (.int (w_sc_burningNextTo x (ar 18))), (ar, fi, (m1, m2, m3, m4, m5))) := by
  refine zseg_go ?_ t0_sc_burningNextTo_16
  refine zR2_loop (σ := Int32) (fun k n => (4, [.ref 16, .int x, .int n, .int (nI k)], [], (ar, fi, (m1, m2, m3, m4, m5)))) (b_sc_burningNextTo x (ar 18)) (fun _ _ => True) 4 0 0 trivial (fun k n h1 h2 _ => ⟨⟨(fun p => Nat.beq p 4), 400, ?_⟩, trivial⟩) ?_
  · have hk : k < 4 := by omega
    refine t1_sc_burningNextTo_16.trans ?_
    rw [show (decide (4 ≤ nI k)) = false from decide_eq_false (show ¬ ((4 : Int32) ≤ nI k) from nI_ge (b := 4) hk (by omega))]
    have hG := h_sc_burningNextTo x (ar 18) k n hk hP
    unfold b_sc_burningNextTo
    rw [← nI_1 k]
    simp only [cond_false]
    cases hc1 : (decide (w_if_nextTo x (nI k) < 0)) with
    | true =>
      try simp only [hc1, cond_true, cond_false] at hG ⊢
      all_goals try simp only [Bool.and_eq_true, Bool.true_and, Bool.and_true] at hG
      all_goals try simp only [hG, zg, cond_true, and_self]
      all_goals rfl
    | false =>
      try simp only [hc1, cond_true, cond_false] at hG ⊢
      cases hc2 : (!decide ((ar 18) ((w_if_nextTo x (nI k)).toNatClampNeg) = 1)) with
      | true =>
        try simp only [hc2, cond_true, cond_false] at hG ⊢
        all_goals try simp only [Bool.and_eq_true, Bool.true_and, Bool.and_true] at hG
        all_goals try simp only [hG, zg, cond_true, and_self]
        all_goals rfl
      | false =>
        try simp only [hc2, cond_true, cond_false] at hG ⊢
        all_goals try simp only [Bool.and_eq_true, Bool.true_and, Bool.and_true] at hG
        all_goals try simp only [hG, zg, cond_true, and_self]
        all_goals rfl
  · refine zseg_ret (stops := (fun p => Nat.beq p 4)) (n := 400) (t1_sc_burningNextTo_16.trans ?_)
    rw [show (decide (4 ≤ nI (0 + 4))) = true from by decide]
    rfl
theorem ok_sc_burningNextTo (X : Nat × (Nat → Int32)) : zOkS X 77 S_sc_burningNextTo 2 := zOkS_new (zOkE_cons (ok_if_nextTo X) (by decide) (zOkE_nil X 1)) (by
  intro args g o h
  obtain ⟨ar, fi, m1, m2, m3, m4, m5⟩ := g
  unfold S_sc_burningNextTo P_sc_burningNextTo at h
  split at h
  · refine zb_el h (fun hI0 k0 => ?_) (fun _ h10 => ?_)
    · have h2 := Option.some.inj k0
      have hG := congrArg Prod.fst h2
      have ho := congrArg Prod.snd h2
      dsimp only at hG ho
      subst ho
      try simp only [Bool.and_eq_true] at hI0
      have j0 := hI0
      have e0 := Nat.eq_of_beq_eq_true j0
      subst e0
      exact e_sc_burningNextTo_2 hG
    · skip
      refine zb_el h10 (fun hI1 k1 => ?_) (fun _ h11 => ?_)
      · have h2 := Option.some.inj k1
        have hG := congrArg Prod.fst h2
        have ho := congrArg Prod.snd h2
        dsimp only at hG ho
        subst ho
        try simp only [Bool.and_eq_true] at hI1
        have j0 := hI1
        have e0 := Nat.eq_of_beq_eq_true j0
        subst e0
        exact e_sc_burningNextTo_9 hG
      · skip
        refine zb_el h11 (fun hI2 k2 => ?_) (fun _ h12 => ?_)
        · have h2 := Option.some.inj k2
          have hG := congrArg Prod.fst h2
          have ho := congrArg Prod.snd h2
          dsimp only at hG ho
          subst ho
          try simp only [Bool.and_eq_true] at hI2
          have j0 := hI2
          have e0 := Nat.eq_of_beq_eq_true j0
          subst e0
          exact e_sc_burningNextTo_16 hG
        · cases h12
  · cases h)
def b_sc_thingsAt (x : Int32) (p0 : Int32) (p1 : Int32) (p2 : Nat → Int32) (k : Nat) (n : Int32) : Int32 := (bif decide (w_sc_isLeftAt (nI k) x (p0) (p1) p2 = 0) then n else n ||| (1 <<< ((nI k) &&& 31)))
def w_sc_thingsAt (x : Int32) (p0 : Int32) (p1 : Int32) (p2 : Nat → Int32) : Int32 := zfo (b_sc_thingsAt x p0 p1 p2) 24 0 0
theorem h_sc_thingsAt (x : Int32) (p0 : Int32) (p1 : Int32) (p2 : Nat → Int32) (k : Nat) (n : Int32) (hk : k < 24) : (g_sc_isLeftAt (nI k) x (p0) (p1) p2) = true := by
  have hz : zin (nI k) 24 = true := zin_nI hk (by omega)
  simp only [hz, g_sc_isLeftAt, zm_e, Bool.and_true, Bool.and_self, Bool.true_and]
def P_sc_thingsAt (W : Int32 → Int32 → Int32 → (Nat → Int32) → Int32) : zSp := fun as g => match as with
  | [.ref a, .int x] => bif Nat.beq a 2 then some (true, (some (.int (W x (g.2.1 2 6) (g.2.1 2 7) (g.1 6))), (g.1, g.2.1, g.2.2))) else bif Nat.beq a 9 then some (true, (some (.int (W x (g.2.1 9 6) (g.2.1 9 7) (g.1 13))), (g.1, g.2.1, g.2.2))) else bif Nat.beq a 16 then some (true, (some (.int (W x (g.2.1 16 6) (g.2.1 16 7) (g.1 20))), (g.1, g.2.1, g.2.2))) else none
  | _ => none
abbrev S_sc_thingsAt : zSp := P_sc_thingsAt w_sc_thingsAt
set_option maxRecDepth 10000 in
theorem t0_sc_thingsAt_2 {X : Nat × (Nat → Int32)} {ar fi : Nat → Nat → Int32} {m1 m2 m3 m4 m5 : Nat} {x : Int32} {G_sc_isLeftAt : Int32 → Int32 → Int32 → Int32 → (Nat → Int32) → Bool} {W_sc_isLeftAt : Int32 → Int32 → Int32 → Int32 → (Nat → Int32) → Int32} : zseg X zFT (zEx 80 (P_sc_isLeftAt G_sc_isLeftAt W_sc_isLeftAt) zE0) zc_81 (fun p => Nat.beq p 4) 400 0 [.ref 2, .int x] [] (ar, fi, (m1, m2, m3, m4, m5)) = (
  some (.inl (4, [.ref 2, .int x, .int 0, .int 0], [], (ar, fi, (m1, m2, m3, m4, m5)))) : Option ((Nat × List Value × List Value × zH2) ⊕ zO2)) := by with_unfolding_all rfl
set_option maxRecDepth 10000 in
theorem t1_sc_thingsAt_2 {X : Nat × (Nat → Int32)} {ar fi : Nat → Nat → Int32} {m1 m2 m3 m4 m5 : Nat} {x : Int32} {r2 r3 : Int32} {G_sc_isLeftAt : Int32 → Int32 → Int32 → Int32 → (Nat → Int32) → Bool} {W_sc_isLeftAt : Int32 → Int32 → Int32 → Int32 → (Nat → Int32) → Int32} : zseg X zFT (zEx 80 (P_sc_isLeftAt G_sc_isLeftAt W_sc_isLeftAt) zE0) zc_81 (fun p => Nat.beq p 4) 400 4 [.ref 2, .int x, .int r2, .int r3] [] (ar, fi, (m1, m2, m3, m4, m5)) = (
  bif decide (24 ≤ r3) then
   some (.inr (some (.int r2), (ar, fi, (m1, m2, m3, m4, m5))))
  else
   zg (G_sc_isLeftAt r3 x (fi 2 6) (fi 2 7) (ar 6)) (
   bif decide (W_sc_isLeftAt r3 x (fi 2 6) (fi 2 7) (ar 6) = 0) then
    some (.inl (4, [.ref 2, .int x, .int r2, .int (r3 + 1)], [], (ar, fi, (m1, m2, m3, m4, m5))))
   else
    some (.inl (4, [.ref 2, .int x, .int (r2 ||| (1 <<< (r3 &&& 31))), .int (r3 + 1)], [], (ar, fi, (m1, m2, m3, m4, m5))))) : Option ((Nat × List Value × List Value × zH2) ⊕ zO2)) := by with_unfolding_all rfl
set_option maxRecDepth 10000 in
theorem e_sc_thingsAt_2 {X : Nat × (Nat → Int32)} {ar fi : Nat → Nat → Int32} {m1 m2 m3 m4 m5 : Nat} {x : Int32} : zR2 X zFT (zEx 80 S_sc_isLeftAt zE0) (zC 81) 0 [.ref 2, .int x] [] (ar, fi, (m1, m2, m3, m4, m5)) (some (.int (w_sc_thingsAt x (fi 2 6) (fi 2 7) (ar 6))), (ar, fi, (m1, m2, m3, m4, m5))) := by
  refine zseg_go ?_ t0_sc_thingsAt_2
  refine zR2_loop (σ := Int32) (fun k n => (4, [.ref 2, .int x, .int n, .int (nI k)], [], (ar, fi, (m1, m2, m3, m4, m5)))) (b_sc_thingsAt x (fi 2 6) (fi 2 7) (ar 6)) (fun _ _ => True) 24 0 0 trivial (fun k n h1 h2 _ => ⟨⟨(fun p => Nat.beq p 4), 400, ?_⟩, trivial⟩) ?_
  · have hk : k < 24 := by omega
    refine t1_sc_thingsAt_2.trans ?_
    rw [show (decide (24 ≤ nI k)) = false from decide_eq_false (show ¬ ((24 : Int32) ≤ nI k) from nI_ge (b := 24) hk (by omega))]
    have hG := h_sc_thingsAt x (fi 2 6) (fi 2 7) (ar 6) k n hk
    unfold b_sc_thingsAt
    rw [← nI_1 k]
    simp only [cond_false]
    cases hc1 : (decide (w_sc_isLeftAt (nI k) x (fi 2 6) (fi 2 7) (ar 6) = 0)) with
    | true =>
      try simp only [hc1, cond_true, cond_false] at hG ⊢
      all_goals try simp only [Bool.and_eq_true, Bool.true_and, Bool.and_true] at hG
      all_goals try simp only [hG, zg, cond_true, and_self]
      all_goals rfl
    | false =>
      try simp only [hc1, cond_true, cond_false] at hG ⊢
      all_goals try simp only [Bool.and_eq_true, Bool.true_and, Bool.and_true] at hG
      all_goals try simp only [hG, zg, cond_true, and_self]
      all_goals rfl
  · refine zseg_ret (stops := (fun p => Nat.beq p 4)) (n := 400) (t1_sc_thingsAt_2.trans ?_)
    rw [show (decide (24 ≤ nI (0 + 24))) = true from by decide]
    rfl
set_option maxRecDepth 10000 in
theorem t0_sc_thingsAt_9 {X : Nat × (Nat → Int32)} {ar fi : Nat → Nat → Int32} {m1 m2 m3 m4 m5 : Nat} {x : Int32} {G_sc_isLeftAt : Int32 → Int32 → Int32 → Int32 → (Nat → Int32) → Bool} {W_sc_isLeftAt : Int32 → Int32 → Int32 → Int32 → (Nat → Int32) → Int32} : zseg X zFT (zEx 80 (P_sc_isLeftAt G_sc_isLeftAt W_sc_isLeftAt) zE0) zc_81 (fun p => Nat.beq p 4) 400 0 [.ref 9, .int x] [] (ar, fi, (m1, m2, m3, m4, m5)) = (
  some (.inl (4, [.ref 9, .int x, .int 0, .int 0], [], (ar, fi, (m1, m2, m3, m4, m5)))) : Option ((Nat × List Value × List Value × zH2) ⊕ zO2)) := by with_unfolding_all rfl
set_option maxRecDepth 10000 in
theorem t1_sc_thingsAt_9 {X : Nat × (Nat → Int32)} {ar fi : Nat → Nat → Int32} {m1 m2 m3 m4 m5 : Nat} {x : Int32} {r2 r3 : Int32} {G_sc_isLeftAt : Int32 → Int32 → Int32 → Int32 → (Nat → Int32) → Bool} {W_sc_isLeftAt : Int32 → Int32 → Int32 → Int32 → (Nat → Int32) → Int32} : zseg X zFT (zEx 80 (P_sc_isLeftAt G_sc_isLeftAt W_sc_isLeftAt) zE0) zc_81 (fun p => Nat.beq p 4) 400 4 [.ref 9, .int x, .int r2, .int r3] [] (ar, fi, (m1, m2, m3, m4, m5)) = (
  bif decide (24 ≤ r3) then
   some (.inr (some (.int r2), (ar, fi, (m1, m2, m3, m4, m5))))
  else
   zg (G_sc_isLeftAt r3 x (fi 9 6) (fi 9 7) (ar 13)) (
   bif decide (W_sc_isLeftAt r3 x (fi 9 6) (fi 9 7) (ar 13) = 0) then
    some (.inl (4, [.ref 9, .int x, .int r2, .int (r3 + 1)], [], (ar, fi, (m1, m2, m3, m4, m5))))
   else
    some (.inl (4, [.ref 9, .int x, .int (r2 ||| (1 <<< (r3 &&& 31))), .int (r3 + 1)], [], (ar, fi, (m1, m2, m3, m4, m5))))) : Option ((Nat × List Value × List Value × zH2) ⊕ zO2)) := by with_unfolding_all rfl
set_option maxRecDepth 10000 in
theorem e_sc_thingsAt_9 {X : Nat × (Nat → Int32)} {ar fi : Nat → Nat → Int32} {m1 m2 m3 m4 m5 : Nat} {x : Int32} : zR2 X zFT (zEx 80 S_sc_isLeftAt zE0) (zC 81) 0 [.ref 9, .int x] [] (ar, fi, (m1, m2, m3, m4, m5)) (some (.int (w_sc_thingsAt x (fi 9 6) (fi 9 7) (ar 13))), (ar, fi, (m1, m2, m3, m4, m5))) := by
  refine zseg_go ?_ t0_sc_thingsAt_9
  refine zR2_loop (σ := Int32) (fun k n => (4, [.ref 9, .int x, .int n, .int (nI k)], [], (ar, fi, (m1, m2, m3, m4, m5)))) (b_sc_thingsAt x (fi 9 6) (fi 9 7) (ar 13)) (fun _ _ => True) 24 0 0 trivial (fun k n h1 h2 _ => ⟨⟨(fun p => Nat.beq p 4), 400, ?_⟩, trivial⟩) ?_
  · have hk : k < 24 := by omega
    refine t1_sc_thingsAt_9.trans ?_
    rw [show (decide (24 ≤ nI k)) = false from decide_eq_false (show ¬ ((24 : Int32) ≤ nI k) from nI_ge (b := 24) hk (by omega))]
    have hG := h_sc_thingsAt x (fi 9 6) (fi 9 7) (ar 13) k n hk
    unfold b_sc_thingsAt
    rw [← nI_1 k]
    simp only [cond_false]
    cases hc1 : (decide (w_sc_isLeftAt (nI k) x (fi 9 6) (fi 9 7) (ar 13) = 0)) with
    | true =>
      try simp only [hc1, cond_true, cond_false] at hG ⊢
      all_goals try simp only [Bool.and_eq_true, Bool.true_and, Bool.and_true] at hG
      all_goals try simp only [hG, zg, cond_true, and_self]
      all_goals rfl
    | false =>
      try simp only [hc1, cond_true, cond_false] at hG ⊢
      all_goals try simp only [Bool.and_eq_true, Bool.true_and, Bool.and_true] at hG
      all_goals try simp only [hG, zg, cond_true, and_self]
      all_goals rfl
  · refine zseg_ret (stops := (fun p => Nat.beq p 4)) (n := 400) (t1_sc_thingsAt_9.trans ?_)
    rw [show (decide (24 ≤ nI (0 + 24))) = true from by decide]
    rfl
set_option maxRecDepth 10000 in
theorem t0_sc_thingsAt_16 {X : Nat × (Nat → Int32)} {ar fi : Nat → Nat → Int32} {m1 m2 m3 m4 m5 : Nat} {x : Int32} {G_sc_isLeftAt : Int32 → Int32 → Int32 → Int32 → (Nat → Int32) → Bool} {W_sc_isLeftAt : Int32 → Int32 → Int32 → Int32 → (Nat → Int32) → Int32} : zseg X zFT (zEx 80 (P_sc_isLeftAt G_sc_isLeftAt W_sc_isLeftAt) zE0) zc_81 (fun p => Nat.beq p 4) 400 0 [.ref 16, .int x] [] (ar, fi, (m1, m2, m3, m4, m5)) = (
  some (.inl (4, [.ref 16, .int x, .int 0, .int 0], [], (ar, fi, (m1, m2, m3, m4, m5)))) : Option ((Nat × List Value × List Value × zH2) ⊕ zO2)) := by with_unfolding_all rfl
set_option maxRecDepth 10000 in
theorem t1_sc_thingsAt_16 {X : Nat × (Nat → Int32)} {ar fi : Nat → Nat → Int32} {m1 m2 m3 m4 m5 : Nat} {x : Int32} {r2 r3 : Int32} {G_sc_isLeftAt : Int32 → Int32 → Int32 → Int32 → (Nat → Int32) → Bool} {W_sc_isLeftAt : Int32 → Int32 → Int32 → Int32 → (Nat → Int32) → Int32} : zseg X zFT (zEx 80 (P_sc_isLeftAt G_sc_isLeftAt W_sc_isLeftAt) zE0) zc_81 (fun p => Nat.beq p 4) 400 4 [.ref 16, .int x, .int r2, .int r3] [] (ar, fi, (m1, m2, m3, m4, m5)) = (
  bif decide (24 ≤ r3) then
   some (.inr (some (.int r2), (ar, fi, (m1, m2, m3, m4, m5))))
  else
   zg (G_sc_isLeftAt r3 x (fi 16 6) (fi 16 7) (ar 20)) (
   bif decide (W_sc_isLeftAt r3 x (fi 16 6) (fi 16 7) (ar 20) = 0) then
    some (.inl (4, [.ref 16, .int x, .int r2, .int (r3 + 1)], [], (ar, fi, (m1, m2, m3, m4, m5))))
   else
    some (.inl (4, [.ref 16, .int x, .int (r2 ||| (1 <<< (r3 &&& 31))), .int (r3 + 1)], [], (ar, fi, (m1, m2, m3, m4, m5))))) : Option ((Nat × List Value × List Value × zH2) ⊕ zO2)) := by with_unfolding_all rfl
set_option maxRecDepth 10000 in
theorem e_sc_thingsAt_16 {X : Nat × (Nat → Int32)} {ar fi : Nat → Nat → Int32} {m1 m2 m3 m4 m5 : Nat} {x : Int32} : zR2 X zFT (zEx 80 S_sc_isLeftAt zE0) (zC 81) 0 [.ref 16, .int x] [] (ar, fi, (m1, m2, m3, m4, m5)) (some (.int (w_sc_thingsAt x (fi 16 6) (fi 16 7) (ar 20))), (ar, fi, (m1, m2, m3, m4, m5))) := by
  refine zseg_go ?_ t0_sc_thingsAt_16
  refine zR2_loop (σ := Int32) (fun k n => (4, [.ref 16, .int x, .int n, .int (nI k)], [], (ar, fi, (m1, m2, m3, m4, m5)))) (b_sc_thingsAt x (fi 16 6) (fi 16 7) (ar 20)) (fun _ _ => True) 24 0 0 trivial (fun k n h1 h2 _ => ⟨⟨(fun p => Nat.beq p 4), 400, ?_⟩, trivial⟩) ?_
  · have hk : k < 24 := by omega
    refine t1_sc_thingsAt_16.trans ?_
    rw [show (decide (24 ≤ nI k)) = false from decide_eq_false (show ¬ ((24 : Int32) ≤ nI k) from nI_ge (b := 24) hk (by omega))]
    have hG := h_sc_thingsAt x (fi 16 6) (fi 16 7) (ar 20) k n hk
    unfold b_sc_thingsAt
    rw [← nI_1 k]
    simp only [cond_false]
    cases hc1 : (decide (w_sc_isLeftAt (nI k) x (fi 16 6) (fi 16 7) (ar 20) = 0)) with
    | true =>
      try simp only [hc1, cond_true, cond_false] at hG ⊢
      all_goals try simp only [Bool.and_eq_true, Bool.true_and, Bool.and_true] at hG
      all_goals try simp only [hG, zg, cond_true, and_self]
      all_goals rfl
    | false =>
      try simp only [hc1, cond_true, cond_false] at hG ⊢
      all_goals try simp only [Bool.and_eq_true, Bool.true_and, Bool.and_true] at hG
      all_goals try simp only [hG, zg, cond_true, and_self]
      all_goals rfl
  · refine zseg_ret (stops := (fun p => Nat.beq p 4)) (n := 400) (t1_sc_thingsAt_16.trans ?_)
    rw [show (decide (24 ≤ nI (0 + 24))) = true from by decide]
    rfl
theorem ok_sc_thingsAt (X : Nat × (Nat → Int32)) : zOkS X 81 S_sc_thingsAt 3 := zOkS_new (zOkE_cons (ok_sc_isLeftAt X) (by decide) (zOkE_nil X 2)) (by
  intro args g o h
  obtain ⟨ar, fi, m1, m2, m3, m4, m5⟩ := g
  unfold S_sc_thingsAt P_sc_thingsAt at h
  split at h
  · refine zb_el h (fun hI0 k0 => ?_) (fun _ h10 => ?_)
    · have h2 := Option.some.inj k0
      have hG := congrArg Prod.fst h2
      have ho := congrArg Prod.snd h2
      dsimp only at hG ho
      subst ho
      try simp only [Bool.and_eq_true] at hI0
      have j0 := hI0
      have e0 := Nat.eq_of_beq_eq_true j0
      subst e0
      exact e_sc_thingsAt_2
    · skip
      refine zb_el h10 (fun hI1 k1 => ?_) (fun _ h11 => ?_)
      · have h2 := Option.some.inj k1
        have hG := congrArg Prod.fst h2
        have ho := congrArg Prod.snd h2
        dsimp only at hG ho
        subst ho
        try simp only [Bool.and_eq_true] at hI1
        have j0 := hI1
        have e0 := Nat.eq_of_beq_eq_true j0
        subst e0
        exact e_sc_thingsAt_9
      · skip
        refine zb_el h11 (fun hI2 k2 => ?_) (fun _ h12 => ?_)
        · have h2 := Option.some.inj k2
          have hG := congrArg Prod.fst h2
          have ho := congrArg Prod.snd h2
          dsimp only at hG ho
          subst ho
          try simp only [Bool.and_eq_true] at hI2
          have j0 := hI2
          have e0 := Nat.eq_of_beq_eq_true j0
          subst e0
          exact e_sc_thingsAt_16
        · cases h12
  · cases h)
def b_sc_bareValueAt (x : Int32) (p0 : Nat → Int32) (p1 : Int32) (p2 : Int32) (p3 : Nat → Int32) (p4 : Nat → Int32) (k : Nat) (n : Int32) : Int32 := (bif !decide (p0 ((nI k).toNatClampNeg) = 0) then n else (bif decide (w_sc_isLeftAt (nI k) x (p1) (p2) p3 = 0) then n else n + (p4 ((nI k).toNatClampNeg))))
def w_sc_bareValueAt (x : Int32) (p0 : Nat → Int32) (p1 : Int32) (p2 : Int32) (p3 : Nat → Int32) (p4 : Nat → Int32) : Int32 := zfo (b_sc_bareValueAt x p0 p1 p2 p3 p4) 24 0 0
theorem h_sc_bareValueAt (x : Int32) (p0 : Nat → Int32) (p1 : Int32) (p2 : Int32) (p3 : Nat → Int32) (p4 : Nat → Int32) (k : Nat) (n : Int32) (hk : k < 24) : ((zin (nI k) 24) && (bif !decide (p0 ((nI k).toNatClampNeg) = 0) then true else (g_sc_isLeftAt (nI k) x (p1) (p2) p3) && (bif decide (w_sc_isLeftAt (nI k) x (p1) (p2) p3 = 0) then true else zin (nI k) 24))) = true := by
  have hz : zin (nI k) 24 = true := zin_nI hk (by omega)
  simp only [hz, g_sc_isLeftAt, zm_e, Bool.and_true, Bool.and_self, Bool.true_and]
def P_sc_bareValueAt (W : Int32 → (Nat → Int32) → Int32 → Int32 → (Nat → Int32) → (Nat → Int32) → Int32) : zSp := fun as g => match as with
  | [.ref a, .int x] => bif Nat.beq a 2 then some (true, (some (.int (W x (g.1 8) (g.2.1 2 6) (g.2.1 2 7) (g.1 6) (g.1 7))), (g.1, g.2.1, g.2.2))) else bif Nat.beq a 9 then some (true, (some (.int (W x (g.1 15) (g.2.1 9 6) (g.2.1 9 7) (g.1 13) (g.1 14))), (g.1, g.2.1, g.2.2))) else bif Nat.beq a 16 then some (true, (some (.int (W x (g.1 22) (g.2.1 16 6) (g.2.1 16 7) (g.1 20) (g.1 21))), (g.1, g.2.1, g.2.2))) else none
  | _ => none
abbrev S_sc_bareValueAt : zSp := P_sc_bareValueAt w_sc_bareValueAt
set_option maxRecDepth 10000 in
theorem t0_sc_bareValueAt_2 {X : Nat × (Nat → Int32)} {ar fi : Nat → Nat → Int32} {m1 m2 m3 m4 m5 : Nat} {x : Int32} {G_sc_isLeftAt : Int32 → Int32 → Int32 → Int32 → (Nat → Int32) → Bool} {W_sc_isLeftAt : Int32 → Int32 → Int32 → Int32 → (Nat → Int32) → Int32} : zseg X zFT (zEx 80 (P_sc_isLeftAt G_sc_isLeftAt W_sc_isLeftAt) zE0) zc_82 (fun p => Nat.beq p 4) 400 0 [.ref 2, .int x] [] (ar, fi, (m1, m2, m3, m4, m5)) = (
  some (.inl (4, [.ref 2, .int x, .int 0, .int 0], [], (ar, fi, (m1, m2, m3, m4, m5)))) : Option ((Nat × List Value × List Value × zH2) ⊕ zO2)) := by with_unfolding_all rfl
set_option maxRecDepth 10000 in
theorem t1_sc_bareValueAt_2 {X : Nat × (Nat → Int32)} {ar fi : Nat → Nat → Int32} {m1 m2 m3 m4 m5 : Nat} {x : Int32} {r2 r3 : Int32} {G_sc_isLeftAt : Int32 → Int32 → Int32 → Int32 → (Nat → Int32) → Bool} {W_sc_isLeftAt : Int32 → Int32 → Int32 → Int32 → (Nat → Int32) → Int32} : zseg X zFT (zEx 80 (P_sc_isLeftAt G_sc_isLeftAt W_sc_isLeftAt) zE0) zc_82 (fun p => Nat.beq p 4) 400 4 [.ref 2, .int x, .int r2, .int r3] [] (ar, fi, (m1, m2, m3, m4, m5)) = (
  bif decide (24 ≤ r3) then
   some (.inr (some (.int r2), (ar, fi, (m1, m2, m3, m4, m5))))
  else
   zg (zin r3 24) (
   bif !decide ((ar 8) (r3.toNatClampNeg) = 0) then
    some (.inl (4, [.ref 2, .int x, .int r2, .int (r3 + 1)], [], (ar, fi, (m1, m2, m3, m4, m5))))
   else
    zg (G_sc_isLeftAt r3 x (fi 2 6) (fi 2 7) (ar 6)) (
    bif decide (W_sc_isLeftAt r3 x (fi 2 6) (fi 2 7) (ar 6) = 0) then
     some (.inl (4, [.ref 2, .int x, .int r2, .int (r3 + 1)], [], (ar, fi, (m1, m2, m3, m4, m5))))
    else
     zg (zin r3 24) (
     some (.inl (4, [.ref 2, .int x, .int (r2 + ((ar 7) (r3.toNatClampNeg))), .int (r3 + 1)], [], (ar, fi, (m1, m2, m3, m4, m5))))))) : Option ((Nat × List Value × List Value × zH2) ⊕ zO2)) := by with_unfolding_all rfl
set_option maxRecDepth 10000 in
theorem e_sc_bareValueAt_2 {X : Nat × (Nat → Int32)} {ar fi : Nat → Nat → Int32} {m1 m2 m3 m4 m5 : Nat} {x : Int32} : zR2 X zFT (zEx 80 S_sc_isLeftAt zE0) (zC 82) 0 [.ref 2, .int x] [] (ar, fi, (m1, m2, m3, m4, m5)) (some (.int (w_sc_bareValueAt x (ar 8) (fi 2 6) (fi 2 7) (ar 6) (ar 7))), (ar, fi, (m1, m2, m3, m4, m5))) := by
  refine zseg_go ?_ t0_sc_bareValueAt_2
  refine zR2_loop (σ := Int32) (fun k n => (4, [.ref 2, .int x, .int n, .int (nI k)], [], (ar, fi, (m1, m2, m3, m4, m5)))) (b_sc_bareValueAt x (ar 8) (fi 2 6) (fi 2 7) (ar 6) (ar 7)) (fun _ _ => True) 24 0 0 trivial (fun k n h1 h2 _ => ⟨⟨(fun p => Nat.beq p 4), 400, ?_⟩, trivial⟩) ?_
  · have hk : k < 24 := by omega
    refine t1_sc_bareValueAt_2.trans ?_
    rw [show (decide (24 ≤ nI k)) = false from decide_eq_false (show ¬ ((24 : Int32) ≤ nI k) from nI_ge (b := 24) hk (by omega))]
    have hG := h_sc_bareValueAt x (ar 8) (fi 2 6) (fi 2 7) (ar 6) (ar 7) k n hk
    unfold b_sc_bareValueAt
    rw [← nI_1 k]
    simp only [cond_false]
    cases hc1 : (!decide ((ar 8) ((nI k).toNatClampNeg) = 0)) with
    | true =>
      try simp only [hc1, cond_true, cond_false] at hG ⊢
      all_goals try simp only [Bool.and_eq_true, Bool.true_and, Bool.and_true] at hG
      all_goals try simp only [hG, zg, cond_true, and_self]
      all_goals rfl
    | false =>
      try simp only [hc1, cond_true, cond_false] at hG ⊢
      cases hc2 : (decide (w_sc_isLeftAt (nI k) x (fi 2 6) (fi 2 7) (ar 6) = 0)) with
      | true =>
        try simp only [hc2, cond_true, cond_false] at hG ⊢
        all_goals try simp only [Bool.and_eq_true, Bool.true_and, Bool.and_true] at hG
        all_goals try simp only [hG, zg, cond_true, and_self]
        all_goals rfl
      | false =>
        try simp only [hc2, cond_true, cond_false] at hG ⊢
        all_goals try simp only [Bool.and_eq_true, Bool.true_and, Bool.and_true] at hG
        all_goals try simp only [hG, zg, cond_true, and_self]
        all_goals rfl
  · refine zseg_ret (stops := (fun p => Nat.beq p 4)) (n := 400) (t1_sc_bareValueAt_2.trans ?_)
    rw [show (decide (24 ≤ nI (0 + 24))) = true from by decide]
    rfl
set_option maxRecDepth 10000 in
theorem t0_sc_bareValueAt_9 {X : Nat × (Nat → Int32)} {ar fi : Nat → Nat → Int32} {m1 m2 m3 m4 m5 : Nat} {x : Int32} {G_sc_isLeftAt : Int32 → Int32 → Int32 → Int32 → (Nat → Int32) → Bool} {W_sc_isLeftAt : Int32 → Int32 → Int32 → Int32 → (Nat → Int32) → Int32} : zseg X zFT (zEx 80 (P_sc_isLeftAt G_sc_isLeftAt W_sc_isLeftAt) zE0) zc_82 (fun p => Nat.beq p 4) 400 0 [.ref 9, .int x] [] (ar, fi, (m1, m2, m3, m4, m5)) = (
  some (.inl (4, [.ref 9, .int x, .int 0, .int 0], [], (ar, fi, (m1, m2, m3, m4, m5)))) : Option ((Nat × List Value × List Value × zH2) ⊕ zO2)) := by with_unfolding_all rfl
set_option maxRecDepth 10000 in
theorem t1_sc_bareValueAt_9 {X : Nat × (Nat → Int32)} {ar fi : Nat → Nat → Int32} {m1 m2 m3 m4 m5 : Nat} {x : Int32} {r2 r3 : Int32} {G_sc_isLeftAt : Int32 → Int32 → Int32 → Int32 → (Nat → Int32) → Bool} {W_sc_isLeftAt : Int32 → Int32 → Int32 → Int32 → (Nat → Int32) → Int32} : zseg X zFT (zEx 80 (P_sc_isLeftAt G_sc_isLeftAt W_sc_isLeftAt) zE0) zc_82 (fun p => Nat.beq p 4) 400 4 [.ref 9, .int x, .int r2, .int r3] [] (ar, fi, (m1, m2, m3, m4, m5)) = (
  bif decide (24 ≤ r3) then
   some (.inr (some (.int r2), (ar, fi, (m1, m2, m3, m4, m5))))
  else
   zg (zin r3 24) (
   bif !decide ((ar 15) (r3.toNatClampNeg) = 0) then
    some (.inl (4, [.ref 9, .int x, .int r2, .int (r3 + 1)], [], (ar, fi, (m1, m2, m3, m4, m5))))
   else
    zg (G_sc_isLeftAt r3 x (fi 9 6) (fi 9 7) (ar 13)) (
    bif decide (W_sc_isLeftAt r3 x (fi 9 6) (fi 9 7) (ar 13) = 0) then
     some (.inl (4, [.ref 9, .int x, .int r2, .int (r3 + 1)], [], (ar, fi, (m1, m2, m3, m4, m5))))
    else
     zg (zin r3 24) (
     some (.inl (4, [.ref 9, .int x, .int (r2 + ((ar 14) (r3.toNatClampNeg))), .int (r3 + 1)], [], (ar, fi, (m1, m2, m3, m4, m5))))))) : Option ((Nat × List Value × List Value × zH2) ⊕ zO2)) := by with_unfolding_all rfl
set_option maxRecDepth 10000 in
theorem e_sc_bareValueAt_9 {X : Nat × (Nat → Int32)} {ar fi : Nat → Nat → Int32} {m1 m2 m3 m4 m5 : Nat} {x : Int32} : zR2 X zFT (zEx 80 S_sc_isLeftAt zE0) (zC 82) 0 [.ref 9, .int x] [] (ar, fi, (m1, m2, m3, m4, m5)) (some (.int (w_sc_bareValueAt x (ar 15) (fi 9 6) (fi 9 7) (ar 13) (ar 14))), (ar, fi, (m1, m2, m3, m4, m5))) := by
  refine zseg_go ?_ t0_sc_bareValueAt_9
  refine zR2_loop (σ := Int32) (fun k n => (4, [.ref 9, .int x, .int n, .int (nI k)], [], (ar, fi, (m1, m2, m3, m4, m5)))) (b_sc_bareValueAt x (ar 15) (fi 9 6) (fi 9 7) (ar 13) (ar 14)) (fun _ _ => True) 24 0 0 trivial (fun k n h1 h2 _ => ⟨⟨(fun p => Nat.beq p 4), 400, ?_⟩, trivial⟩) ?_
  · have hk : k < 24 := by omega
    refine t1_sc_bareValueAt_9.trans ?_
    rw [show (decide (24 ≤ nI k)) = false from decide_eq_false (show ¬ ((24 : Int32) ≤ nI k) from nI_ge (b := 24) hk (by omega))]
    have hG := h_sc_bareValueAt x (ar 15) (fi 9 6) (fi 9 7) (ar 13) (ar 14) k n hk
    unfold b_sc_bareValueAt
    rw [← nI_1 k]
    simp only [cond_false]
    cases hc1 : (!decide ((ar 15) ((nI k).toNatClampNeg) = 0)) with
    | true =>
      try simp only [hc1, cond_true, cond_false] at hG ⊢
      all_goals try simp only [Bool.and_eq_true, Bool.true_and, Bool.and_true] at hG
      all_goals try simp only [hG, zg, cond_true, and_self]
      all_goals rfl
    | false =>
      try simp only [hc1, cond_true, cond_false] at hG ⊢
      cases hc2 : (decide (w_sc_isLeftAt (nI k) x (fi 9 6) (fi 9 7) (ar 13) = 0)) with
      | true =>
        try simp only [hc2, cond_true, cond_false] at hG ⊢
        all_goals try simp only [Bool.and_eq_true, Bool.true_and, Bool.and_true] at hG
        all_goals try simp only [hG, zg, cond_true, and_self]
        all_goals rfl
      | false =>
        try simp only [hc2, cond_true, cond_false] at hG ⊢
        all_goals try simp only [Bool.and_eq_true, Bool.true_and, Bool.and_true] at hG
        all_goals try simp only [hG, zg, cond_true, and_self]
        all_goals rfl
  · refine zseg_ret (stops := (fun p => Nat.beq p 4)) (n := 400) (t1_sc_bareValueAt_9.trans ?_)
    rw [show (decide (24 ≤ nI (0 + 24))) = true from by decide]
    rfl
set_option maxRecDepth 10000 in
theorem t0_sc_bareValueAt_16 {X : Nat × (Nat → Int32)} {ar fi : Nat → Nat → Int32} {m1 m2 m3 m4 m5 : Nat} {x : Int32} {G_sc_isLeftAt : Int32 → Int32 → Int32 → Int32 → (Nat → Int32) → Bool} {W_sc_isLeftAt : Int32 → Int32 → Int32 → Int32 → (Nat → Int32) → Int32} : zseg X zFT (zEx 80 (P_sc_isLeftAt G_sc_isLeftAt W_sc_isLeftAt) zE0) zc_82 (fun p => Nat.beq p 4) 400 0 [.ref 16, .int x] [] (ar, fi, (m1, m2, m3, m4, m5)) = (
  some (.inl (4, [.ref 16, .int x, .int 0, .int 0], [], (ar, fi, (m1, m2, m3, m4, m5)))) : Option ((Nat × List Value × List Value × zH2) ⊕ zO2)) := by with_unfolding_all rfl
set_option maxRecDepth 10000 in
theorem t1_sc_bareValueAt_16 {X : Nat × (Nat → Int32)} {ar fi : Nat → Nat → Int32} {m1 m2 m3 m4 m5 : Nat} {x : Int32} {r2 r3 : Int32} {G_sc_isLeftAt : Int32 → Int32 → Int32 → Int32 → (Nat → Int32) → Bool} {W_sc_isLeftAt : Int32 → Int32 → Int32 → Int32 → (Nat → Int32) → Int32} : zseg X zFT (zEx 80 (P_sc_isLeftAt G_sc_isLeftAt W_sc_isLeftAt) zE0) zc_82 (fun p => Nat.beq p 4) 400 4 [.ref 16, .int x, .int r2, .int r3] [] (ar, fi, (m1, m2, m3, m4, m5)) = (
  bif decide (24 ≤ r3) then
   some (.inr (some (.int r2), (ar, fi, (m1, m2, m3, m4, m5))))
  else
   zg (zin r3 24) (
   bif !decide ((ar 22) (r3.toNatClampNeg) = 0) then
    some (.inl (4, [.ref 16, .int x, .int r2, .int (r3 + 1)], [], (ar, fi, (m1, m2, m3, m4, m5))))
   else
    zg (G_sc_isLeftAt r3 x (fi 16 6) (fi 16 7) (ar 20)) (
    bif decide (W_sc_isLeftAt r3 x (fi 16 6) (fi 16 7) (ar 20) = 0) then
     some (.inl (4, [.ref 16, .int x, .int r2, .int (r3 + 1)], [], (ar, fi, (m1, m2, m3, m4, m5))))
    else
     zg (zin r3 24) (
     some (.inl (4, [.ref 16, .int x, .int (r2 + ((ar 21) (r3.toNatClampNeg))), .int (r3 + 1)], [], (ar, fi, (m1, m2, m3, m4, m5))))))) : Option ((Nat × List Value × List Value × zH2) ⊕ zO2)) := by with_unfolding_all rfl
set_option maxRecDepth 10000 in
theorem e_sc_bareValueAt_16 {X : Nat × (Nat → Int32)} {ar fi : Nat → Nat → Int32} {m1 m2 m3 m4 m5 : Nat} {x : Int32} : zR2 X zFT (zEx 80 S_sc_isLeftAt zE0) (zC 82) 0 [.ref 16, .int x] [] (ar, fi, (m1, m2, m3, m4, m5)) (some (.int (w_sc_bareValueAt x (ar 22) (fi 16 6) (fi 16 7) (ar 20) (ar 21))), (ar, fi, (m1, m2, m3, m4, m5))) := by
  refine zseg_go ?_ t0_sc_bareValueAt_16
  refine zR2_loop (σ := Int32) (fun k n => (4, [.ref 16, .int x, .int n, .int (nI k)], [], (ar, fi, (m1, m2, m3, m4, m5)))) (b_sc_bareValueAt x (ar 22) (fi 16 6) (fi 16 7) (ar 20) (ar 21)) (fun _ _ => True) 24 0 0 trivial (fun k n h1 h2 _ => ⟨⟨(fun p => Nat.beq p 4), 400, ?_⟩, trivial⟩) ?_
  · have hk : k < 24 := by omega
    refine t1_sc_bareValueAt_16.trans ?_
    rw [show (decide (24 ≤ nI k)) = false from decide_eq_false (show ¬ ((24 : Int32) ≤ nI k) from nI_ge (b := 24) hk (by omega))]
    have hG := h_sc_bareValueAt x (ar 22) (fi 16 6) (fi 16 7) (ar 20) (ar 21) k n hk
    unfold b_sc_bareValueAt
    rw [← nI_1 k]
    simp only [cond_false]
    cases hc1 : (!decide ((ar 22) ((nI k).toNatClampNeg) = 0)) with
    | true =>
      try simp only [hc1, cond_true, cond_false] at hG ⊢
      all_goals try simp only [Bool.and_eq_true, Bool.true_and, Bool.and_true] at hG
      all_goals try simp only [hG, zg, cond_true, and_self]
      all_goals rfl
    | false =>
      try simp only [hc1, cond_true, cond_false] at hG ⊢
      cases hc2 : (decide (w_sc_isLeftAt (nI k) x (fi 16 6) (fi 16 7) (ar 20) = 0)) with
      | true =>
        try simp only [hc2, cond_true, cond_false] at hG ⊢
        all_goals try simp only [Bool.and_eq_true, Bool.true_and, Bool.and_true] at hG
        all_goals try simp only [hG, zg, cond_true, and_self]
        all_goals rfl
      | false =>
        try simp only [hc2, cond_true, cond_false] at hG ⊢
        all_goals try simp only [Bool.and_eq_true, Bool.true_and, Bool.and_true] at hG
        all_goals try simp only [hG, zg, cond_true, and_self]
        all_goals rfl
  · refine zseg_ret (stops := (fun p => Nat.beq p 4)) (n := 400) (t1_sc_bareValueAt_16.trans ?_)
    rw [show (decide (24 ≤ nI (0 + 24))) = true from by decide]
    rfl
theorem ok_sc_bareValueAt (X : Nat × (Nat → Int32)) : zOkS X 82 S_sc_bareValueAt 3 := zOkS_new (zOkE_cons (ok_sc_isLeftAt X) (by decide) (zOkE_nil X 2)) (by
  intro args g o h
  obtain ⟨ar, fi, m1, m2, m3, m4, m5⟩ := g
  unfold S_sc_bareValueAt P_sc_bareValueAt at h
  split at h
  · refine zb_el h (fun hI0 k0 => ?_) (fun _ h10 => ?_)
    · have h2 := Option.some.inj k0
      have hG := congrArg Prod.fst h2
      have ho := congrArg Prod.snd h2
      dsimp only at hG ho
      subst ho
      try simp only [Bool.and_eq_true] at hI0
      have j0 := hI0
      have e0 := Nat.eq_of_beq_eq_true j0
      subst e0
      exact e_sc_bareValueAt_2
    · skip
      refine zb_el h10 (fun hI1 k1 => ?_) (fun _ h11 => ?_)
      · have h2 := Option.some.inj k1
        have hG := congrArg Prod.fst h2
        have ho := congrArg Prod.snd h2
        dsimp only at hG ho
        subst ho
        try simp only [Bool.and_eq_true] at hI1
        have j0 := hI1
        have e0 := Nat.eq_of_beq_eq_true j0
        subst e0
        exact e_sc_bareValueAt_9
      · skip
        refine zb_el h11 (fun hI2 k2 => ?_) (fun _ h12 => ?_)
        · have h2 := Option.some.inj k2
          have hG := congrArg Prod.fst h2
          have ho := congrArg Prod.snd h2
          dsimp only at hG ho
          subst ho
          try simp only [Bool.and_eq_true] at hI2
          have j0 := hI2
          have e0 := Nat.eq_of_beq_eq_true j0
          subst e0
          exact e_sc_bareValueAt_16
        · cases h12
  · cases h)
def b_sc_insuredSumAt (x : Int32) (p0 : Int32) (p1 : Int32) (p2 : Nat → Int32) (p3 : Nat → Int32) (k : Nat) (n : Int32) : Int32 := (bif decide (w_sc_isLeftAt (nI k) x (p0) (p1) p2 = 0) then n else n + (p3 ((nI k).toNatClampNeg)))
def w_sc_insuredSumAt (x : Int32) (p0 : Int32) (p1 : Int32) (p2 : Nat → Int32) (p3 : Nat → Int32) : Int32 := zfo (b_sc_insuredSumAt x p0 p1 p2 p3) 24 0 0
theorem h_sc_insuredSumAt (x : Int32) (p0 : Int32) (p1 : Int32) (p2 : Nat → Int32) (p3 : Nat → Int32) (k : Nat) (n : Int32) (hk : k < 24) : ((g_sc_isLeftAt (nI k) x (p0) (p1) p2) && (bif decide (w_sc_isLeftAt (nI k) x (p0) (p1) p2 = 0) then true else zin (nI k) 24)) = true := by
  have hz : zin (nI k) 24 = true := zin_nI hk (by omega)
  simp only [hz, g_sc_isLeftAt, zm_e, Bool.and_true, Bool.and_self, Bool.true_and]
def P_sc_insuredSumAt (W : Int32 → Int32 → Int32 → (Nat → Int32) → (Nat → Int32) → Int32) : zSp := fun as g => match as with
  | [.ref a, .int x] => bif Nat.beq a 2 then some (true, (some (.int (W x (g.2.1 2 6) (g.2.1 2 7) (g.1 6) (g.1 8))), (g.1, g.2.1, g.2.2))) else bif Nat.beq a 9 then some (true, (some (.int (W x (g.2.1 9 6) (g.2.1 9 7) (g.1 13) (g.1 15))), (g.1, g.2.1, g.2.2))) else bif Nat.beq a 16 then some (true, (some (.int (W x (g.2.1 16 6) (g.2.1 16 7) (g.1 20) (g.1 22))), (g.1, g.2.1, g.2.2))) else none
  | _ => none
abbrev S_sc_insuredSumAt : zSp := P_sc_insuredSumAt w_sc_insuredSumAt
set_option maxRecDepth 10000 in
theorem t0_sc_insuredSumAt_2 {X : Nat × (Nat → Int32)} {ar fi : Nat → Nat → Int32} {m1 m2 m3 m4 m5 : Nat} {x : Int32} {G_sc_isLeftAt : Int32 → Int32 → Int32 → Int32 → (Nat → Int32) → Bool} {W_sc_isLeftAt : Int32 → Int32 → Int32 → Int32 → (Nat → Int32) → Int32} : zseg X zFT (zEx 80 (P_sc_isLeftAt G_sc_isLeftAt W_sc_isLeftAt) zE0) zc_83 (fun p => Nat.beq p 4) 400 0 [.ref 2, .int x] [] (ar, fi, (m1, m2, m3, m4, m5)) = (
  some (.inl (4, [.ref 2, .int x, .int 0, .int 0], [], (ar, fi, (m1, m2, m3, m4, m5)))) : Option ((Nat × List Value × List Value × zH2) ⊕ zO2)) := by with_unfolding_all rfl
set_option maxRecDepth 10000 in
theorem t1_sc_insuredSumAt_2 {X : Nat × (Nat → Int32)} {ar fi : Nat → Nat → Int32} {m1 m2 m3 m4 m5 : Nat} {x : Int32} {r2 r3 : Int32} {G_sc_isLeftAt : Int32 → Int32 → Int32 → Int32 → (Nat → Int32) → Bool} {W_sc_isLeftAt : Int32 → Int32 → Int32 → Int32 → (Nat → Int32) → Int32} : zseg X zFT (zEx 80 (P_sc_isLeftAt G_sc_isLeftAt W_sc_isLeftAt) zE0) zc_83 (fun p => Nat.beq p 4) 400 4 [.ref 2, .int x, .int r2, .int r3] [] (ar, fi, (m1, m2, m3, m4, m5)) = (
  bif decide (24 ≤ r3) then
   some (.inr (some (.int r2), (ar, fi, (m1, m2, m3, m4, m5))))
  else
   zg (G_sc_isLeftAt r3 x (fi 2 6) (fi 2 7) (ar 6)) (
   bif decide (W_sc_isLeftAt r3 x (fi 2 6) (fi 2 7) (ar 6) = 0) then
    some (.inl (4, [.ref 2, .int x, .int r2, .int (r3 + 1)], [], (ar, fi, (m1, m2, m3, m4, m5))))
   else
    zg (zin r3 24) (
    some (.inl (4, [.ref 2, .int x, .int (r2 + ((ar 8) (r3.toNatClampNeg))), .int (r3 + 1)], [], (ar, fi, (m1, m2, m3, m4, m5)))))) : Option ((Nat × List Value × List Value × zH2) ⊕ zO2)) := by with_unfolding_all rfl
set_option maxRecDepth 10000 in
theorem e_sc_insuredSumAt_2 {X : Nat × (Nat → Int32)} {ar fi : Nat → Nat → Int32} {m1 m2 m3 m4 m5 : Nat} {x : Int32} : zR2 X zFT (zEx 80 S_sc_isLeftAt zE0) (zC 83) 0 [.ref 2, .int x] [] (ar, fi, (m1, m2, m3, m4, m5)) (some (.int (w_sc_insuredSumAt x (fi 2 6) (fi 2 7) (ar 6) (ar 8))), (ar, fi, (m1, m2, m3, m4, m5))) := by
  refine zseg_go ?_ t0_sc_insuredSumAt_2
  refine zR2_loop (σ := Int32) (fun k n => (4, [.ref 2, .int x, .int n, .int (nI k)], [], (ar, fi, (m1, m2, m3, m4, m5)))) (b_sc_insuredSumAt x (fi 2 6) (fi 2 7) (ar 6) (ar 8)) (fun _ _ => True) 24 0 0 trivial (fun k n h1 h2 _ => ⟨⟨(fun p => Nat.beq p 4), 400, ?_⟩, trivial⟩) ?_
  · have hk : k < 24 := by omega
    refine t1_sc_insuredSumAt_2.trans ?_
    rw [show (decide (24 ≤ nI k)) = false from decide_eq_false (show ¬ ((24 : Int32) ≤ nI k) from nI_ge (b := 24) hk (by omega))]
    have hG := h_sc_insuredSumAt x (fi 2 6) (fi 2 7) (ar 6) (ar 8) k n hk
    unfold b_sc_insuredSumAt
    rw [← nI_1 k]
    simp only [cond_false]
    cases hc1 : (decide (w_sc_isLeftAt (nI k) x (fi 2 6) (fi 2 7) (ar 6) = 0)) with
    | true =>
      try simp only [hc1, cond_true, cond_false] at hG ⊢
      all_goals try simp only [Bool.and_eq_true, Bool.true_and, Bool.and_true] at hG
      all_goals try simp only [hG, zg, cond_true, and_self]
      all_goals rfl
    | false =>
      try simp only [hc1, cond_true, cond_false] at hG ⊢
      all_goals try simp only [Bool.and_eq_true, Bool.true_and, Bool.and_true] at hG
      all_goals try simp only [hG, zg, cond_true, and_self]
      all_goals rfl
  · refine zseg_ret (stops := (fun p => Nat.beq p 4)) (n := 400) (t1_sc_insuredSumAt_2.trans ?_)
    rw [show (decide (24 ≤ nI (0 + 24))) = true from by decide]
    rfl
set_option maxRecDepth 10000 in
theorem t0_sc_insuredSumAt_9 {X : Nat × (Nat → Int32)} {ar fi : Nat → Nat → Int32} {m1 m2 m3 m4 m5 : Nat} {x : Int32} {G_sc_isLeftAt : Int32 → Int32 → Int32 → Int32 → (Nat → Int32) → Bool} {W_sc_isLeftAt : Int32 → Int32 → Int32 → Int32 → (Nat → Int32) → Int32} : zseg X zFT (zEx 80 (P_sc_isLeftAt G_sc_isLeftAt W_sc_isLeftAt) zE0) zc_83 (fun p => Nat.beq p 4) 400 0 [.ref 9, .int x] [] (ar, fi, (m1, m2, m3, m4, m5)) = (
  some (.inl (4, [.ref 9, .int x, .int 0, .int 0], [], (ar, fi, (m1, m2, m3, m4, m5)))) : Option ((Nat × List Value × List Value × zH2) ⊕ zO2)) := by with_unfolding_all rfl
set_option maxRecDepth 10000 in
theorem t1_sc_insuredSumAt_9 {X : Nat × (Nat → Int32)} {ar fi : Nat → Nat → Int32} {m1 m2 m3 m4 m5 : Nat} {x : Int32} {r2 r3 : Int32} {G_sc_isLeftAt : Int32 → Int32 → Int32 → Int32 → (Nat → Int32) → Bool} {W_sc_isLeftAt : Int32 → Int32 → Int32 → Int32 → (Nat → Int32) → Int32} : zseg X zFT (zEx 80 (P_sc_isLeftAt G_sc_isLeftAt W_sc_isLeftAt) zE0) zc_83 (fun p => Nat.beq p 4) 400 4 [.ref 9, .int x, .int r2, .int r3] [] (ar, fi, (m1, m2, m3, m4, m5)) = (
  bif decide (24 ≤ r3) then
   some (.inr (some (.int r2), (ar, fi, (m1, m2, m3, m4, m5))))
  else
   zg (G_sc_isLeftAt r3 x (fi 9 6) (fi 9 7) (ar 13)) (
   bif decide (W_sc_isLeftAt r3 x (fi 9 6) (fi 9 7) (ar 13) = 0) then
    some (.inl (4, [.ref 9, .int x, .int r2, .int (r3 + 1)], [], (ar, fi, (m1, m2, m3, m4, m5))))
   else
    zg (zin r3 24) (
    some (.inl (4, [.ref 9, .int x, .int (r2 + ((ar 15) (r3.toNatClampNeg))), .int (r3 + 1)], [], (ar, fi, (m1, m2, m3, m4, m5)))))) : Option ((Nat × List Value × List Value × zH2) ⊕ zO2)) := by with_unfolding_all rfl
set_option maxRecDepth 10000 in
theorem e_sc_insuredSumAt_9 {X : Nat × (Nat → Int32)} {ar fi : Nat → Nat → Int32} {m1 m2 m3 m4 m5 : Nat} {x : Int32} : zR2 X zFT (zEx 80 S_sc_isLeftAt zE0) (zC 83) 0 [.ref 9, .int x] [] (ar, fi, (m1, m2, m3, m4, m5)) (some (.int (w_sc_insuredSumAt x (fi 9 6) (fi 9 7) (ar 13) (ar 15))), (ar, fi, (m1, m2, m3, m4, m5))) := by
  refine zseg_go ?_ t0_sc_insuredSumAt_9
  refine zR2_loop (σ := Int32) (fun k n => (4, [.ref 9, .int x, .int n, .int (nI k)], [], (ar, fi, (m1, m2, m3, m4, m5)))) (b_sc_insuredSumAt x (fi 9 6) (fi 9 7) (ar 13) (ar 15)) (fun _ _ => True) 24 0 0 trivial (fun k n h1 h2 _ => ⟨⟨(fun p => Nat.beq p 4), 400, ?_⟩, trivial⟩) ?_
  · have hk : k < 24 := by omega
    refine t1_sc_insuredSumAt_9.trans ?_
    rw [show (decide (24 ≤ nI k)) = false from decide_eq_false (show ¬ ((24 : Int32) ≤ nI k) from nI_ge (b := 24) hk (by omega))]
    have hG := h_sc_insuredSumAt x (fi 9 6) (fi 9 7) (ar 13) (ar 15) k n hk
    unfold b_sc_insuredSumAt
    rw [← nI_1 k]
    simp only [cond_false]
    cases hc1 : (decide (w_sc_isLeftAt (nI k) x (fi 9 6) (fi 9 7) (ar 13) = 0)) with
    | true =>
      try simp only [hc1, cond_true, cond_false] at hG ⊢
      all_goals try simp only [Bool.and_eq_true, Bool.true_and, Bool.and_true] at hG
      all_goals try simp only [hG, zg, cond_true, and_self]
      all_goals rfl
    | false =>
      try simp only [hc1, cond_true, cond_false] at hG ⊢
      all_goals try simp only [Bool.and_eq_true, Bool.true_and, Bool.and_true] at hG
      all_goals try simp only [hG, zg, cond_true, and_self]
      all_goals rfl
  · refine zseg_ret (stops := (fun p => Nat.beq p 4)) (n := 400) (t1_sc_insuredSumAt_9.trans ?_)
    rw [show (decide (24 ≤ nI (0 + 24))) = true from by decide]
    rfl
set_option maxRecDepth 10000 in
theorem t0_sc_insuredSumAt_16 {X : Nat × (Nat → Int32)} {ar fi : Nat → Nat → Int32} {m1 m2 m3 m4 m5 : Nat} {x : Int32} {G_sc_isLeftAt : Int32 → Int32 → Int32 → Int32 → (Nat → Int32) → Bool} {W_sc_isLeftAt : Int32 → Int32 → Int32 → Int32 → (Nat → Int32) → Int32} : zseg X zFT (zEx 80 (P_sc_isLeftAt G_sc_isLeftAt W_sc_isLeftAt) zE0) zc_83 (fun p => Nat.beq p 4) 400 0 [.ref 16, .int x] [] (ar, fi, (m1, m2, m3, m4, m5)) = (
  some (.inl (4, [.ref 16, .int x, .int 0, .int 0], [], (ar, fi, (m1, m2, m3, m4, m5)))) : Option ((Nat × List Value × List Value × zH2) ⊕ zO2)) := by with_unfolding_all rfl
set_option maxRecDepth 10000 in
theorem t1_sc_insuredSumAt_16 {X : Nat × (Nat → Int32)} {ar fi : Nat → Nat → Int32} {m1 m2 m3 m4 m5 : Nat} {x : Int32} {r2 r3 : Int32} {G_sc_isLeftAt : Int32 → Int32 → Int32 → Int32 → (Nat → Int32) → Bool} {W_sc_isLeftAt : Int32 → Int32 → Int32 → Int32 → (Nat → Int32) → Int32} : zseg X zFT (zEx 80 (P_sc_isLeftAt G_sc_isLeftAt W_sc_isLeftAt) zE0) zc_83 (fun p => Nat.beq p 4) 400 4 [.ref 16, .int x, .int r2, .int r3] [] (ar, fi, (m1, m2, m3, m4, m5)) = (
  bif decide (24 ≤ r3) then
   some (.inr (some (.int r2), (ar, fi, (m1, m2, m3, m4, m5))))
  else
   zg (G_sc_isLeftAt r3 x (fi 16 6) (fi 16 7) (ar 20)) (
   bif decide (W_sc_isLeftAt r3 x (fi 16 6) (fi 16 7) (ar 20) = 0) then
    some (.inl (4, [.ref 16, .int x, .int r2, .int (r3 + 1)], [], (ar, fi, (m1, m2, m3, m4, m5))))
   else
    zg (zin r3 24) (
    some (.inl (4, [.ref 16, .int x, .int (r2 + ((ar 22) (r3.toNatClampNeg))), .int (r3 + 1)], [], (ar, fi, (m1, m2, m3, m4, m5)))))) : Option ((Nat × List Value × List Value × zH2) ⊕ zO2)) := by with_unfolding_all rfl
set_option maxRecDepth 10000 in
theorem e_sc_insuredSumAt_16 {X : Nat × (Nat → Int32)} {ar fi : Nat → Nat → Int32} {m1 m2 m3 m4 m5 : Nat} {x : Int32} : zR2 X zFT (zEx 80 S_sc_isLeftAt zE0) (zC 83) 0 [.ref 16, .int x] [] (ar, fi, (m1, m2, m3, m4, m5)) (some (.int (w_sc_insuredSumAt x (fi 16 6) (fi 16 7) (ar 20) (ar 22))), (ar, fi, (m1, m2, m3, m4, m5))) := by
  refine zseg_go ?_ t0_sc_insuredSumAt_16
  refine zR2_loop (σ := Int32) (fun k n => (4, [.ref 16, .int x, .int n, .int (nI k)], [], (ar, fi, (m1, m2, m3, m4, m5)))) (b_sc_insuredSumAt x (fi 16 6) (fi 16 7) (ar 20) (ar 22)) (fun _ _ => True) 24 0 0 trivial (fun k n h1 h2 _ => ⟨⟨(fun p => Nat.beq p 4), 400, ?_⟩, trivial⟩) ?_
  · have hk : k < 24 := by omega
    refine t1_sc_insuredSumAt_16.trans ?_
    rw [show (decide (24 ≤ nI k)) = false from decide_eq_false (show ¬ ((24 : Int32) ≤ nI k) from nI_ge (b := 24) hk (by omega))]
    have hG := h_sc_insuredSumAt x (fi 16 6) (fi 16 7) (ar 20) (ar 22) k n hk
    unfold b_sc_insuredSumAt
    rw [← nI_1 k]
    simp only [cond_false]
    cases hc1 : (decide (w_sc_isLeftAt (nI k) x (fi 16 6) (fi 16 7) (ar 20) = 0)) with
    | true =>
      try simp only [hc1, cond_true, cond_false] at hG ⊢
      all_goals try simp only [Bool.and_eq_true, Bool.true_and, Bool.and_true] at hG
      all_goals try simp only [hG, zg, cond_true, and_self]
      all_goals rfl
    | false =>
      try simp only [hc1, cond_true, cond_false] at hG ⊢
      all_goals try simp only [Bool.and_eq_true, Bool.true_and, Bool.and_true] at hG
      all_goals try simp only [hG, zg, cond_true, and_self]
      all_goals rfl
  · refine zseg_ret (stops := (fun p => Nat.beq p 4)) (n := 400) (t1_sc_insuredSumAt_16.trans ?_)
    rw [show (decide (24 ≤ nI (0 + 24))) = true from by decide]
    rfl
theorem ok_sc_insuredSumAt (X : Nat × (Nat → Int32)) : zOkS X 83 S_sc_insuredSumAt 3 := zOkS_new (zOkE_cons (ok_sc_isLeftAt X) (by decide) (zOkE_nil X 2)) (by
  intro args g o h
  obtain ⟨ar, fi, m1, m2, m3, m4, m5⟩ := g
  unfold S_sc_insuredSumAt P_sc_insuredSumAt at h
  split at h
  · refine zb_el h (fun hI0 k0 => ?_) (fun _ h10 => ?_)
    · have h2 := Option.some.inj k0
      have hG := congrArg Prod.fst h2
      have ho := congrArg Prod.snd h2
      dsimp only at hG ho
      subst ho
      try simp only [Bool.and_eq_true] at hI0
      have j0 := hI0
      have e0 := Nat.eq_of_beq_eq_true j0
      subst e0
      exact e_sc_insuredSumAt_2
    · skip
      refine zb_el h10 (fun hI1 k1 => ?_) (fun _ h11 => ?_)
      · have h2 := Option.some.inj k1
        have hG := congrArg Prod.fst h2
        have ho := congrArg Prod.snd h2
        dsimp only at hG ho
        subst ho
        try simp only [Bool.and_eq_true] at hI1
        have j0 := hI1
        have e0 := Nat.eq_of_beq_eq_true j0
        subst e0
        exact e_sc_insuredSumAt_9
      · skip
        refine zb_el h11 (fun hI2 k2 => ?_) (fun _ h12 => ?_)
        · have h2 := Option.some.inj k2
          have hG := congrArg Prod.fst h2
          have ho := congrArg Prod.snd h2
          dsimp only at hG ho
          subst ho
          try simp only [Bool.and_eq_true] at hI2
          have j0 := hI2
          have e0 := Nat.eq_of_beq_eq_true j0
          subst e0
          exact e_sc_insuredSumAt_16
        · cases h12
  · cases h)
def b_sc_lostValue (p0 : Int32) (p1 : Nat → Int32) (k : Nat) (n : Int32) : Int32 := (bif decide (w_sc_isGone (nI k) (p0) = 0) then n else n + (p1 ((nI k).toNatClampNeg)))
def w_sc_lostValue (p0 : Int32) (p1 : Nat → Int32) : Int32 := zfo (b_sc_lostValue p0 p1) 24 0 0
theorem h_sc_lostValue (p0 : Int32) (p1 : Nat → Int32) (k : Nat) (n : Int32) (hk : k < 24) : (bif decide (w_sc_isGone (nI k) (p0) = 0) then true else zin (nI k) 24) = true := by
  have hz : zin (nI k) 24 = true := zin_nI hk (by omega)
  simp only [hz, zm_e, Bool.and_true, Bool.and_self, Bool.true_and]
def P_sc_lostValue (W : Int32 → (Nat → Int32) → Int32) : zSp := fun as g => match as with
  | [.ref a] => bif Nat.beq a 2 then some (true, (some (.int (W (g.2.1 2 7) (g.1 7))), (g.1, g.2.1, g.2.2))) else bif Nat.beq a 9 then some (true, (some (.int (W (g.2.1 9 7) (g.1 14))), (g.1, g.2.1, g.2.2))) else bif Nat.beq a 16 then some (true, (some (.int (W (g.2.1 16 7) (g.1 21))), (g.1, g.2.1, g.2.2))) else none
  | _ => none
abbrev S_sc_lostValue : zSp := P_sc_lostValue w_sc_lostValue
set_option maxRecDepth 10000 in
theorem t0_sc_lostValue_2 {X : Nat × (Nat → Int32)} {ar fi : Nat → Nat → Int32} {m1 m2 m3 m4 m5 : Nat} {W_sc_isGone : Int32 → Int32 → Int32} : zseg X zFT (zEx 79 (P_sc_isGone W_sc_isGone) zE0) zc_85 (fun p => Nat.beq p 4) 400 0 [.ref 2] [] (ar, fi, (m1, m2, m3, m4, m5)) = (
  some (.inl (4, [.ref 2, .int 0, .int 0], [], (ar, fi, (m1, m2, m3, m4, m5)))) : Option ((Nat × List Value × List Value × zH2) ⊕ zO2)) := by with_unfolding_all rfl
set_option maxRecDepth 10000 in
theorem t1_sc_lostValue_2 {X : Nat × (Nat → Int32)} {ar fi : Nat → Nat → Int32} {m1 m2 m3 m4 m5 : Nat} {r1 r2 : Int32} {W_sc_isGone : Int32 → Int32 → Int32} : zseg X zFT (zEx 79 (P_sc_isGone W_sc_isGone) zE0) zc_85 (fun p => Nat.beq p 4) 400 4 [.ref 2, .int r1, .int r2] [] (ar, fi, (m1, m2, m3, m4, m5)) = (
  bif decide (24 ≤ r2) then
   some (.inr (some (.int r1), (ar, fi, (m1, m2, m3, m4, m5))))
  else
   bif decide (W_sc_isGone r2 (fi 2 7) = 0) then
    some (.inl (4, [.ref 2, .int r1, .int (r2 + 1)], [], (ar, fi, (m1, m2, m3, m4, m5))))
   else
    zg (zin r2 24) (
    some (.inl (4, [.ref 2, .int (r1 + ((ar 7) (r2.toNatClampNeg))), .int (r2 + 1)], [], (ar, fi, (m1, m2, m3, m4, m5))))) : Option ((Nat × List Value × List Value × zH2) ⊕ zO2)) := by with_unfolding_all rfl
set_option maxRecDepth 10000 in
theorem e_sc_lostValue_2 {X : Nat × (Nat → Int32)} {ar fi : Nat → Nat → Int32} {m1 m2 m3 m4 m5 : Nat} : zR2 X zFT (zEx 79 S_sc_isGone zE0) (zC 85) 0 [.ref 2] [] (ar, fi, (m1, m2, m3, m4, m5)) (some (.int (w_sc_lostValue (fi 2 7) (ar 7))), (ar, fi, (m1, m2, m3, m4, m5))) := by
  refine zseg_go ?_ t0_sc_lostValue_2
  refine zR2_loop (σ := Int32) (fun k n => (4, [.ref 2, .int n, .int (nI k)], [], (ar, fi, (m1, m2, m3, m4, m5)))) (b_sc_lostValue (fi 2 7) (ar 7)) (fun _ _ => True) 24 0 0 trivial (fun k n h1 h2 _ => ⟨⟨(fun p => Nat.beq p 4), 400, ?_⟩, trivial⟩) ?_
  · have hk : k < 24 := by omega
    refine t1_sc_lostValue_2.trans ?_
    rw [show (decide (24 ≤ nI k)) = false from decide_eq_false (show ¬ ((24 : Int32) ≤ nI k) from nI_ge (b := 24) hk (by omega))]
    have hG := h_sc_lostValue (fi 2 7) (ar 7) k n hk
    unfold b_sc_lostValue
    rw [← nI_1 k]
    simp only [cond_false]
    cases hc1 : (decide (w_sc_isGone (nI k) (fi 2 7) = 0)) with
    | true =>
      try simp only [hc1, cond_true, cond_false] at hG ⊢
      all_goals try simp only [Bool.and_eq_true, Bool.true_and, Bool.and_true] at hG
      all_goals try simp only [hG, zg, cond_true, and_self]
      all_goals rfl
    | false =>
      try simp only [hc1, cond_true, cond_false] at hG ⊢
      all_goals try simp only [Bool.and_eq_true, Bool.true_and, Bool.and_true] at hG
      all_goals try simp only [hG, zg, cond_true, and_self]
      all_goals rfl
  · refine zseg_ret (stops := (fun p => Nat.beq p 4)) (n := 400) (t1_sc_lostValue_2.trans ?_)
    rw [show (decide (24 ≤ nI (0 + 24))) = true from by decide]
    rfl
set_option maxRecDepth 10000 in
theorem t0_sc_lostValue_9 {X : Nat × (Nat → Int32)} {ar fi : Nat → Nat → Int32} {m1 m2 m3 m4 m5 : Nat} {W_sc_isGone : Int32 → Int32 → Int32} : zseg X zFT (zEx 79 (P_sc_isGone W_sc_isGone) zE0) zc_85 (fun p => Nat.beq p 4) 400 0 [.ref 9] [] (ar, fi, (m1, m2, m3, m4, m5)) = (
  some (.inl (4, [.ref 9, .int 0, .int 0], [], (ar, fi, (m1, m2, m3, m4, m5)))) : Option ((Nat × List Value × List Value × zH2) ⊕ zO2)) := by with_unfolding_all rfl
set_option maxRecDepth 10000 in
theorem t1_sc_lostValue_9 {X : Nat × (Nat → Int32)} {ar fi : Nat → Nat → Int32} {m1 m2 m3 m4 m5 : Nat} {r1 r2 : Int32} {W_sc_isGone : Int32 → Int32 → Int32} : zseg X zFT (zEx 79 (P_sc_isGone W_sc_isGone) zE0) zc_85 (fun p => Nat.beq p 4) 400 4 [.ref 9, .int r1, .int r2] [] (ar, fi, (m1, m2, m3, m4, m5)) = (
  bif decide (24 ≤ r2) then
   some (.inr (some (.int r1), (ar, fi, (m1, m2, m3, m4, m5))))
  else
   bif decide (W_sc_isGone r2 (fi 9 7) = 0) then
    some (.inl (4, [.ref 9, .int r1, .int (r2 + 1)], [], (ar, fi, (m1, m2, m3, m4, m5))))
   else
    zg (zin r2 24) (
    some (.inl (4, [.ref 9, .int (r1 + ((ar 14) (r2.toNatClampNeg))), .int (r2 + 1)], [], (ar, fi, (m1, m2, m3, m4, m5))))) : Option ((Nat × List Value × List Value × zH2) ⊕ zO2)) := by with_unfolding_all rfl
set_option maxRecDepth 10000 in
theorem e_sc_lostValue_9 {X : Nat × (Nat → Int32)} {ar fi : Nat → Nat → Int32} {m1 m2 m3 m4 m5 : Nat} : zR2 X zFT (zEx 79 S_sc_isGone zE0) (zC 85) 0 [.ref 9] [] (ar, fi, (m1, m2, m3, m4, m5)) (some (.int (w_sc_lostValue (fi 9 7) (ar 14))), (ar, fi, (m1, m2, m3, m4, m5))) := by
  refine zseg_go ?_ t0_sc_lostValue_9
  refine zR2_loop (σ := Int32) (fun k n => (4, [.ref 9, .int n, .int (nI k)], [], (ar, fi, (m1, m2, m3, m4, m5)))) (b_sc_lostValue (fi 9 7) (ar 14)) (fun _ _ => True) 24 0 0 trivial (fun k n h1 h2 _ => ⟨⟨(fun p => Nat.beq p 4), 400, ?_⟩, trivial⟩) ?_
  · have hk : k < 24 := by omega
    refine t1_sc_lostValue_9.trans ?_
    rw [show (decide (24 ≤ nI k)) = false from decide_eq_false (show ¬ ((24 : Int32) ≤ nI k) from nI_ge (b := 24) hk (by omega))]
    have hG := h_sc_lostValue (fi 9 7) (ar 14) k n hk
    unfold b_sc_lostValue
    rw [← nI_1 k]
    simp only [cond_false]
    cases hc1 : (decide (w_sc_isGone (nI k) (fi 9 7) = 0)) with
    | true =>
      try simp only [hc1, cond_true, cond_false] at hG ⊢
      all_goals try simp only [Bool.and_eq_true, Bool.true_and, Bool.and_true] at hG
      all_goals try simp only [hG, zg, cond_true, and_self]
      all_goals rfl
    | false =>
      try simp only [hc1, cond_true, cond_false] at hG ⊢
      all_goals try simp only [Bool.and_eq_true, Bool.true_and, Bool.and_true] at hG
      all_goals try simp only [hG, zg, cond_true, and_self]
      all_goals rfl
  · refine zseg_ret (stops := (fun p => Nat.beq p 4)) (n := 400) (t1_sc_lostValue_9.trans ?_)
    rw [show (decide (24 ≤ nI (0 + 24))) = true from by decide]
    rfl
set_option maxRecDepth 10000 in
theorem t0_sc_lostValue_16 {X : Nat × (Nat → Int32)} {ar fi : Nat → Nat → Int32} {m1 m2 m3 m4 m5 : Nat} {W_sc_isGone : Int32 → Int32 → Int32} : zseg X zFT (zEx 79 (P_sc_isGone W_sc_isGone) zE0) zc_85 (fun p => Nat.beq p 4) 400 0 [.ref 16] [] (ar, fi, (m1, m2, m3, m4, m5)) = (
  some (.inl (4, [.ref 16, .int 0, .int 0], [], (ar, fi, (m1, m2, m3, m4, m5)))) : Option ((Nat × List Value × List Value × zH2) ⊕ zO2)) := by with_unfolding_all rfl
set_option maxRecDepth 10000 in
theorem t1_sc_lostValue_16 {X : Nat × (Nat → Int32)} {ar fi : Nat → Nat → Int32} {m1 m2 m3 m4 m5 : Nat} {r1 r2 : Int32} {W_sc_isGone : Int32 → Int32 → Int32} : zseg X zFT (zEx 79 (P_sc_isGone W_sc_isGone) zE0) zc_85 (fun p => Nat.beq p 4) 400 4 [.ref 16, .int r1, .int r2] [] (ar, fi, (m1, m2, m3, m4, m5)) = (
  bif decide (24 ≤ r2) then
   some (.inr (some (.int r1), (ar, fi, (m1, m2, m3, m4, m5))))
  else
   bif decide (W_sc_isGone r2 (fi 16 7) = 0) then
    some (.inl (4, [.ref 16, .int r1, .int (r2 + 1)], [], (ar, fi, (m1, m2, m3, m4, m5))))
   else
    zg (zin r2 24) (
    some (.inl (4, [.ref 16, .int (r1 + ((ar 21) (r2.toNatClampNeg))), .int (r2 + 1)], [], (ar, fi, (m1, m2, m3, m4, m5))))) : Option ((Nat × List Value × List Value × zH2) ⊕ zO2)) := by with_unfolding_all rfl
set_option maxRecDepth 10000 in
theorem e_sc_lostValue_16 {X : Nat × (Nat → Int32)} {ar fi : Nat → Nat → Int32} {m1 m2 m3 m4 m5 : Nat} : zR2 X zFT (zEx 79 S_sc_isGone zE0) (zC 85) 0 [.ref 16] [] (ar, fi, (m1, m2, m3, m4, m5)) (some (.int (w_sc_lostValue (fi 16 7) (ar 21))), (ar, fi, (m1, m2, m3, m4, m5))) := by
  refine zseg_go ?_ t0_sc_lostValue_16
  refine zR2_loop (σ := Int32) (fun k n => (4, [.ref 16, .int n, .int (nI k)], [], (ar, fi, (m1, m2, m3, m4, m5)))) (b_sc_lostValue (fi 16 7) (ar 21)) (fun _ _ => True) 24 0 0 trivial (fun k n h1 h2 _ => ⟨⟨(fun p => Nat.beq p 4), 400, ?_⟩, trivial⟩) ?_
  · have hk : k < 24 := by omega
    refine t1_sc_lostValue_16.trans ?_
    rw [show (decide (24 ≤ nI k)) = false from decide_eq_false (show ¬ ((24 : Int32) ≤ nI k) from nI_ge (b := 24) hk (by omega))]
    have hG := h_sc_lostValue (fi 16 7) (ar 21) k n hk
    unfold b_sc_lostValue
    rw [← nI_1 k]
    simp only [cond_false]
    cases hc1 : (decide (w_sc_isGone (nI k) (fi 16 7) = 0)) with
    | true =>
      try simp only [hc1, cond_true, cond_false] at hG ⊢
      all_goals try simp only [Bool.and_eq_true, Bool.true_and, Bool.and_true] at hG
      all_goals try simp only [hG, zg, cond_true, and_self]
      all_goals rfl
    | false =>
      try simp only [hc1, cond_true, cond_false] at hG ⊢
      all_goals try simp only [Bool.and_eq_true, Bool.true_and, Bool.and_true] at hG
      all_goals try simp only [hG, zg, cond_true, and_self]
      all_goals rfl
  · refine zseg_ret (stops := (fun p => Nat.beq p 4)) (n := 400) (t1_sc_lostValue_16.trans ?_)
    rw [show (decide (24 ≤ nI (0 + 24))) = true from by decide]
    rfl
theorem ok_sc_lostValue (X : Nat × (Nat → Int32)) : zOkS X 85 S_sc_lostValue 2 := zOkS_new (zOkE_cons (ok_sc_isGone X) (by decide) (zOkE_nil X 1)) (by
  intro args g o h
  obtain ⟨ar, fi, m1, m2, m3, m4, m5⟩ := g
  unfold S_sc_lostValue P_sc_lostValue at h
  split at h
  · refine zb_el h (fun hI0 k0 => ?_) (fun _ h10 => ?_)
    · have h2 := Option.some.inj k0
      have hG := congrArg Prod.fst h2
      have ho := congrArg Prod.snd h2
      dsimp only at hG ho
      subst ho
      try simp only [Bool.and_eq_true] at hI0
      have j0 := hI0
      have e0 := Nat.eq_of_beq_eq_true j0
      subst e0
      exact e_sc_lostValue_2
    · skip
      refine zb_el h10 (fun hI1 k1 => ?_) (fun _ h11 => ?_)
      · have h2 := Option.some.inj k1
        have hG := congrArg Prod.fst h2
        have ho := congrArg Prod.snd h2
        dsimp only at hG ho
        subst ho
        try simp only [Bool.and_eq_true] at hI1
        have j0 := hI1
        have e0 := Nat.eq_of_beq_eq_true j0
        subst e0
        exact e_sc_lostValue_9
      · skip
        refine zb_el h11 (fun hI2 k2 => ?_) (fun _ h12 => ?_)
        · have h2 := Option.some.inj k2
          have hG := congrArg Prod.fst h2
          have ho := congrArg Prod.snd h2
          dsimp only at hG ho
          subst ho
          try simp only [Bool.and_eq_true] at hI2
          have j0 := hI2
          have e0 := Nat.eq_of_beq_eq_true j0
          subst e0
          exact e_sc_lostValue_16
        · cases h12
  · cases h)
def b_md_bits (x : Int32) (k : Nat) (n : Int32) : Int32 := n + ((x >>> ((nI k) &&& 31)) &&& 1)
def w_md_bits (x : Int32) : Int32 := zfo (b_md_bits x) 24 0 0
def P_md_bits (W : Int32 → Int32) : zSp := fun as g => match as with
  | [.int x] => some (true, (some (.int (W x)), (g.1, g.2.1, g.2.2)))
  | _ => none
abbrev S_md_bits : zSp := P_md_bits w_md_bits
set_option maxRecDepth 10000 in
theorem t0_md_bits {X : Nat × (Nat → Int32)} {ar fi : Nat → Nat → Int32} {m1 m2 m3 m4 m5 : Nat} {x : Int32} : zseg X zFT zE0 zc_147 (fun p => Nat.beq p 4) 400 0 [.int x] [] (ar, fi, (m1, m2, m3, m4, m5)) = (
  some (.inl (4, [.int x, .int 0, .int 0], [], (ar, fi, (m1, m2, m3, m4, m5)))) : Option ((Nat × List Value × List Value × zH2) ⊕ zO2)) := by with_unfolding_all rfl
set_option maxRecDepth 10000 in
theorem t1_md_bits {X : Nat × (Nat → Int32)} {ar fi : Nat → Nat → Int32} {m1 m2 m3 m4 m5 : Nat} {x : Int32} {r1 r2 : Int32} : zseg X zFT zE0 zc_147 (fun p => Nat.beq p 4) 400 4 [.int x, .int r1, .int r2] [] (ar, fi, (m1, m2, m3, m4, m5)) = (
  bif decide (24 ≤ r2) then
   some (.inr (some (.int r1), (ar, fi, (m1, m2, m3, m4, m5))))
  else
   some (.inl (4, [.int x, .int (r1 + ((x >>> (r2 &&& 31)) &&& 1)), .int (r2 + 1)], [], (ar, fi, (m1, m2, m3, m4, m5)))) : Option ((Nat × List Value × List Value × zH2) ⊕ zO2)) := by with_unfolding_all rfl
set_option maxRecDepth 10000 in
theorem e_md_bits {X : Nat × (Nat → Int32)} {ar fi : Nat → Nat → Int32} {m1 m2 m3 m4 m5 : Nat} {x : Int32} : zR2 X zFT zE0 (zC 147) 0 [.int x] [] (ar, fi, (m1, m2, m3, m4, m5)) (some (.int (w_md_bits x)), (ar, fi, (m1, m2, m3, m4, m5))) := by
  refine zseg_go ?_ t0_md_bits
  refine zR2_loop (σ := Int32) (fun k n => (4, [.int x, .int n, .int (nI k)], [], (ar, fi, (m1, m2, m3, m4, m5)))) (b_md_bits x) (fun _ _ => True) 24 0 0 trivial (fun k n h1 h2 _ => ⟨⟨(fun p => Nat.beq p 4), 400, ?_⟩, trivial⟩) ?_
  · have hk : k < 24 := by omega
    refine t1_md_bits.trans ?_
    rw [show (decide (24 ≤ nI k)) = false from decide_eq_false (show ¬ ((24 : Int32) ≤ nI k) from nI_ge (b := 24) hk (by omega))]
    unfold b_md_bits
    rw [← nI_1 k]
    simp only [cond_false]
    all_goals rfl
  · refine zseg_ret (stops := (fun p => Nat.beq p 4)) (n := 400) (t1_md_bits.trans ?_)
    rw [show (decide (24 ≤ nI (0 + 24))) = true from by decide]
    rfl
theorem ok_md_bits (X : Nat × (Nat → Int32)) : zOkS X 147 S_md_bits 1 := zOkS_new (zOkE_nil X 0) (by
  intro args g o h
  obtain ⟨ar, fi, m1, m2, m3, m4, m5⟩ := g
  unfold S_md_bits P_md_bits at h
  split at h
  · have h2 := Option.some.inj h
    have hG := congrArg Prod.fst h2
    have ho := congrArg Prod.snd h2
    dsimp only at hG ho
    subst ho
    exact e_md_bits
  · cases h)
def b_md_valuesAt (x : Int32) (p0 : Nat → Int32) (k : Nat) (n : Int32) : Int32 := (bif decide (w_md_liesAt (nI k) x p0 = 0) then n else (bif !decide (p0 ((264 + (nI k)).toNatClampNeg) = 0) then n else n + (p0 ((240 + (nI k)).toNatClampNeg))))
def w_md_valuesAt (x : Int32) (p0 : Nat → Int32) : Int32 := zfo (b_md_valuesAt x p0) 24 0 0
theorem h_md_valuesAt (x : Int32) (p0 : Nat → Int32) (k : Nat) (n : Int32) (hk : k < 24) : ((g_md_liesAt (nI k) x p0) && (bif decide (w_md_liesAt (nI k) x p0 = 0) then true else (zin (264 + (nI k)) 315) && (bif !decide (p0 ((264 + (nI k)).toNatClampNeg) = 0) then true else zin (240 + (nI k)) 315))) = true := by
  have h192 : zin (192 + nI k) 315 = true := zin_add 192 k 315 (by omega) (by omega)
  have h216 : zin (216 + nI k) 315 = true := zin_add 216 k 315 (by omega) (by omega)
  have h240 : zin (240 + nI k) 315 = true := zin_add 240 k 315 (by omega) (by omega)
  have h264 : zin (264 + nI k) 315 = true := zin_add 264 k 315 (by omega) (by omega)
  have h288 : zin (288 + nI k) 315 = true := zin_add 288 k 315 (by omega) (by omega)
  simp only [h192, h216, h240, h264, h288, g_md_liesAt, g_md_isThing, zm_e, Bool.and_true, Bool.and_self, Bool.true_and]
def P_md_valuesAt (W : Int32 → (Nat → Int32) → Int32) : zSp := fun as g => match as with
  | [.ref a, .int x] => bif Nat.beq a 64 then some (true, (some (.int (W x (g.1 65))), (g.1, g.2.1, g.2.2))) else none
  | _ => none
abbrev S_md_valuesAt : zSp := P_md_valuesAt w_md_valuesAt
set_option maxRecDepth 10000 in
theorem t0_md_valuesAt {X : Nat × (Nat → Int32)} {ar fi : Nat → Nat → Int32} {m1 m2 m3 m4 m5 : Nat} {x : Int32} {G_md_liesAt : Int32 → Int32 → (Nat → Int32) → Bool} {W_md_liesAt : Int32 → Int32 → (Nat → Int32) → Int32} : zseg X zFT (zEx 154 (P_md_liesAt G_md_liesAt W_md_liesAt) zE0) zc_197 (fun p => Nat.beq p 4) 400 0 [.ref 64, .int x] [] (ar, fi, (m1, m2, m3, m4, m5)) = (
  some (.inl (4, [.ref 64, .int x, .int 0, .int 0], [], (ar, fi, (m1, m2, m3, m4, m5)))) : Option ((Nat × List Value × List Value × zH2) ⊕ zO2)) := by with_unfolding_all rfl
set_option maxRecDepth 10000 in
theorem t1_md_valuesAt {X : Nat × (Nat → Int32)} {ar fi : Nat → Nat → Int32} {m1 m2 m3 m4 m5 : Nat} {x : Int32} {r2 r3 : Int32} {G_md_liesAt : Int32 → Int32 → (Nat → Int32) → Bool} {W_md_liesAt : Int32 → Int32 → (Nat → Int32) → Int32} : zseg X zFT (zEx 154 (P_md_liesAt G_md_liesAt W_md_liesAt) zE0) zc_197 (fun p => Nat.beq p 4) 400 4 [.ref 64, .int x, .int r2, .int r3] [] (ar, fi, (m1, m2, m3, m4, m5)) = (
  bif decide (24 ≤ r3) then
   some (.inr (some (.int r2), (ar, fi, (m1, m2, m3, m4, m5))))
  else
   zg (G_md_liesAt r3 x (ar 65)) (
   bif decide (W_md_liesAt r3 x (ar 65) = 0) then
    some (.inl (4, [.ref 64, .int x, .int r2, .int (r3 + 1)], [], (ar, fi, (m1, m2, m3, m4, m5))))
   else
    zg (zin (264 + r3) 315) (
    bif !decide ((ar 65) ((264 + r3).toNatClampNeg) = 0) then
     some (.inl (4, [.ref 64, .int x, .int r2, .int (r3 + 1)], [], (ar, fi, (m1, m2, m3, m4, m5))))
    else
     zg (zin (240 + r3) 315) (
     some (.inl (4, [.ref 64, .int x, .int (r2 + ((ar 65) ((240 + r3).toNatClampNeg))), .int (r3 + 1)], [], (ar, fi, (m1, m2, m3, m4, m5))))))) : Option ((Nat × List Value × List Value × zH2) ⊕ zO2)) := by with_unfolding_all rfl
set_option maxRecDepth 10000 in
theorem e_md_valuesAt {X : Nat × (Nat → Int32)} {ar fi : Nat → Nat → Int32} {m1 m2 m3 m4 m5 : Nat} {x : Int32} : zR2 X zFT (zEx 154 S_md_liesAt zE0) (zC 197) 0 [.ref 64, .int x] [] (ar, fi, (m1, m2, m3, m4, m5)) (some (.int (w_md_valuesAt x (ar 65))), (ar, fi, (m1, m2, m3, m4, m5))) := by
  refine zseg_go ?_ t0_md_valuesAt
  refine zR2_loop (σ := Int32) (fun k n => (4, [.ref 64, .int x, .int n, .int (nI k)], [], (ar, fi, (m1, m2, m3, m4, m5)))) (b_md_valuesAt x (ar 65)) (fun _ _ => True) 24 0 0 trivial (fun k n h1 h2 _ => ⟨⟨(fun p => Nat.beq p 4), 400, ?_⟩, trivial⟩) ?_
  · have hk : k < 24 := by omega
    refine t1_md_valuesAt.trans ?_
    rw [show (decide (24 ≤ nI k)) = false from decide_eq_false (show ¬ ((24 : Int32) ≤ nI k) from nI_ge (b := 24) hk (by omega))]
    have hG := h_md_valuesAt x (ar 65) k n hk
    unfold b_md_valuesAt
    rw [← nI_1 k]
    simp only [cond_false]
    cases hc1 : (decide (w_md_liesAt (nI k) x (ar 65) = 0)) with
    | true =>
      try simp only [hc1, cond_true, cond_false] at hG ⊢
      all_goals try simp only [Bool.and_eq_true, Bool.true_and, Bool.and_true] at hG
      all_goals try simp only [hG, zg, cond_true, and_self]
      all_goals rfl
    | false =>
      try simp only [hc1, cond_true, cond_false] at hG ⊢
      cases hc2 : (!decide ((ar 65) ((264 + (nI k)).toNatClampNeg) = 0)) with
      | true =>
        try simp only [hc2, cond_true, cond_false] at hG ⊢
        all_goals try simp only [Bool.and_eq_true, Bool.true_and, Bool.and_true] at hG
        all_goals try simp only [hG, zg, cond_true, and_self]
        all_goals rfl
      | false =>
        try simp only [hc2, cond_true, cond_false] at hG ⊢
        all_goals try simp only [Bool.and_eq_true, Bool.true_and, Bool.and_true] at hG
        all_goals try simp only [hG, zg, cond_true, and_self]
        all_goals rfl
  · refine zseg_ret (stops := (fun p => Nat.beq p 4)) (n := 400) (t1_md_valuesAt.trans ?_)
    rw [show (decide (24 ≤ nI (0 + 24))) = true from by decide]
    rfl
theorem ok_md_valuesAt (X : Nat × (Nat → Int32)) : zOkS X 197 S_md_valuesAt 4 := zOkS_new (zOkE_cons (ok_md_liesAt X) (by decide) (zOkE_nil X 3)) (by
  intro args g o h
  obtain ⟨ar, fi, m1, m2, m3, m4, m5⟩ := g
  unfold S_md_valuesAt P_md_valuesAt at h
  split at h
  · refine zb_el h (fun hI0 k0 => ?_) (fun _ h10 => ?_)
    · have h2 := Option.some.inj k0
      have hG := congrArg Prod.fst h2
      have ho := congrArg Prod.snd h2
      dsimp only at hG ho
      subst ho
      try simp only [Bool.and_eq_true] at hI0
      have j0 := hI0
      have e0 := Nat.eq_of_beq_eq_true j0
      subst e0
      exact e_md_valuesAt
    · cases h10
  · cases h)
def b_md_sumsAt (x : Int32) (p0 : Nat → Int32) (k : Nat) (n : Int32) : Int32 := (bif decide (w_md_liesAt (nI k) x p0 = 0) then n else n + (p0 ((264 + (nI k)).toNatClampNeg)))
def w_md_sumsAt (x : Int32) (p0 : Nat → Int32) : Int32 := zfo (b_md_sumsAt x p0) 24 0 0
theorem h_md_sumsAt (x : Int32) (p0 : Nat → Int32) (k : Nat) (n : Int32) (hk : k < 24) : ((g_md_liesAt (nI k) x p0) && (bif decide (w_md_liesAt (nI k) x p0 = 0) then true else zin (264 + (nI k)) 315)) = true := by
  have h192 : zin (192 + nI k) 315 = true := zin_add 192 k 315 (by omega) (by omega)
  have h216 : zin (216 + nI k) 315 = true := zin_add 216 k 315 (by omega) (by omega)
  have h264 : zin (264 + nI k) 315 = true := zin_add 264 k 315 (by omega) (by omega)
  have h288 : zin (288 + nI k) 315 = true := zin_add 288 k 315 (by omega) (by omega)
  simp only [h192, h216, h264, h288, g_md_liesAt, g_md_isThing, zm_e, Bool.and_true, Bool.and_self, Bool.true_and]
def P_md_sumsAt (W : Int32 → (Nat → Int32) → Int32) : zSp := fun as g => match as with
  | [.ref a, .int x] => bif Nat.beq a 64 then some (true, (some (.int (W x (g.1 65))), (g.1, g.2.1, g.2.2))) else none
  | _ => none
abbrev S_md_sumsAt : zSp := P_md_sumsAt w_md_sumsAt
set_option maxRecDepth 10000 in
theorem t0_md_sumsAt {X : Nat × (Nat → Int32)} {ar fi : Nat → Nat → Int32} {m1 m2 m3 m4 m5 : Nat} {x : Int32} {G_md_liesAt : Int32 → Int32 → (Nat → Int32) → Bool} {W_md_liesAt : Int32 → Int32 → (Nat → Int32) → Int32} : zseg X zFT (zEx 154 (P_md_liesAt G_md_liesAt W_md_liesAt) zE0) zc_198 (fun p => Nat.beq p 4) 400 0 [.ref 64, .int x] [] (ar, fi, (m1, m2, m3, m4, m5)) = (
  some (.inl (4, [.ref 64, .int x, .int 0, .int 0], [], (ar, fi, (m1, m2, m3, m4, m5)))) : Option ((Nat × List Value × List Value × zH2) ⊕ zO2)) := by with_unfolding_all rfl
set_option maxRecDepth 10000 in
theorem t1_md_sumsAt {X : Nat × (Nat → Int32)} {ar fi : Nat → Nat → Int32} {m1 m2 m3 m4 m5 : Nat} {x : Int32} {r2 r3 : Int32} {G_md_liesAt : Int32 → Int32 → (Nat → Int32) → Bool} {W_md_liesAt : Int32 → Int32 → (Nat → Int32) → Int32} : zseg X zFT (zEx 154 (P_md_liesAt G_md_liesAt W_md_liesAt) zE0) zc_198 (fun p => Nat.beq p 4) 400 4 [.ref 64, .int x, .int r2, .int r3] [] (ar, fi, (m1, m2, m3, m4, m5)) = (
  bif decide (24 ≤ r3) then
   some (.inr (some (.int r2), (ar, fi, (m1, m2, m3, m4, m5))))
  else
   zg (G_md_liesAt r3 x (ar 65)) (
   bif decide (W_md_liesAt r3 x (ar 65) = 0) then
    some (.inl (4, [.ref 64, .int x, .int r2, .int (r3 + 1)], [], (ar, fi, (m1, m2, m3, m4, m5))))
   else
    zg (zin (264 + r3) 315) (
    some (.inl (4, [.ref 64, .int x, .int (r2 + ((ar 65) ((264 + r3).toNatClampNeg))), .int (r3 + 1)], [], (ar, fi, (m1, m2, m3, m4, m5)))))) : Option ((Nat × List Value × List Value × zH2) ⊕ zO2)) := by with_unfolding_all rfl
set_option maxRecDepth 10000 in
theorem e_md_sumsAt {X : Nat × (Nat → Int32)} {ar fi : Nat → Nat → Int32} {m1 m2 m3 m4 m5 : Nat} {x : Int32} : zR2 X zFT (zEx 154 S_md_liesAt zE0) (zC 198) 0 [.ref 64, .int x] [] (ar, fi, (m1, m2, m3, m4, m5)) (some (.int (w_md_sumsAt x (ar 65))), (ar, fi, (m1, m2, m3, m4, m5))) := by
  refine zseg_go ?_ t0_md_sumsAt
  refine zR2_loop (σ := Int32) (fun k n => (4, [.ref 64, .int x, .int n, .int (nI k)], [], (ar, fi, (m1, m2, m3, m4, m5)))) (b_md_sumsAt x (ar 65)) (fun _ _ => True) 24 0 0 trivial (fun k n h1 h2 _ => ⟨⟨(fun p => Nat.beq p 4), 400, ?_⟩, trivial⟩) ?_
  · have hk : k < 24 := by omega
    refine t1_md_sumsAt.trans ?_
    rw [show (decide (24 ≤ nI k)) = false from decide_eq_false (show ¬ ((24 : Int32) ≤ nI k) from nI_ge (b := 24) hk (by omega))]
    have hG := h_md_sumsAt x (ar 65) k n hk
    unfold b_md_sumsAt
    rw [← nI_1 k]
    simp only [cond_false]
    cases hc1 : (decide (w_md_liesAt (nI k) x (ar 65) = 0)) with
    | true =>
      try simp only [hc1, cond_true, cond_false] at hG ⊢
      all_goals try simp only [Bool.and_eq_true, Bool.true_and, Bool.and_true] at hG
      all_goals try simp only [hG, zg, cond_true, and_self]
      all_goals rfl
    | false =>
      try simp only [hc1, cond_true, cond_false] at hG ⊢
      all_goals try simp only [Bool.and_eq_true, Bool.true_and, Bool.and_true] at hG
      all_goals try simp only [hG, zg, cond_true, and_self]
      all_goals rfl
  · refine zseg_ret (stops := (fun p => Nat.beq p 4)) (n := 400) (t1_md_sumsAt.trans ?_)
    rw [show (decide (24 ≤ nI (0 + 24))) = true from by decide]
    rfl
theorem ok_md_sumsAt (X : Nat × (Nat → Int32)) : zOkS X 198 S_md_sumsAt 4 := zOkS_new (zOkE_cons (ok_md_liesAt X) (by decide) (zOkE_nil X 3)) (by
  intro args g o h
  obtain ⟨ar, fi, m1, m2, m3, m4, m5⟩ := g
  unfold S_md_sumsAt P_md_sumsAt at h
  split at h
  · refine zb_el h (fun hI0 k0 => ?_) (fun _ h10 => ?_)
    · have h2 := Option.some.inj k0
      have hG := congrArg Prod.fst h2
      have ho := congrArg Prod.snd h2
      dsimp only at hG ho
      subst ho
      try simp only [Bool.and_eq_true] at hI0
      have j0 := hI0
      have e0 := Nat.eq_of_beq_eq_true j0
      subst e0
      exact e_md_sumsAt
    · cases h10
  · cases h)
def b_md_burnNextTo (x : Int32) (p0 : Nat → Int32) (k : Nat) (n : Int32) : Int32 := (bif decide (w_md_beside x (nI k) = (-1)) then n else (bif !decide (p0 ((0 + (w_md_beside x (nI k))).toNatClampNeg) = 1) then n else n + 1))
def w_md_burnNextTo (x : Int32) (p0 : Nat → Int32) : Int32 := zfo (b_md_burnNextTo x p0) 4 0 0
def g_md_burnNextTo (x : Int32) (p0 : Nat → Int32) : Bool := zin x 96
theorem h_md_burnNextTo (x : Int32) (p0 : Nat → Int32) (k : Nat) (n : Int32) (hk : k < 4) (hP : g_md_burnNextTo x p0 = true) : (bif decide (w_md_beside x (nI k) = (-1)) then true else zin (0 + (w_md_beside x (nI k))) 315) = true := by
  obtain ⟨j, hj, rfl⟩ := zin_ex hP
  exact beside_in j hj k hk
def P_md_burnNextTo (G : Int32 → (Nat → Int32) → Bool) (W : Int32 → (Nat → Int32) → Int32) : zSp := fun as g => match as with
  | [.ref a, .int x] => bif Nat.beq a 64 then some (G x (g.1 65), (some (.int (W x (g.1 65))), (g.1, g.2.1, g.2.2))) else none
  | _ => none
abbrev S_md_burnNextTo : zSp := P_md_burnNextTo g_md_burnNextTo w_md_burnNextTo
set_option maxRecDepth 10000 in
theorem t0_md_burnNextTo {X : Nat × (Nat → Int32)} {ar fi : Nat → Nat → Int32} {m1 m2 m3 m4 m5 : Nat} {x : Int32} {W_md_beside : Int32 → Int32 → Int32} : zseg X zFT (zEx 151 (P_md_beside W_md_beside) zE0) zc_199 (fun p => Nat.beq p 4) 400 0 [.ref 64, .int x] [] (ar, fi, (m1, m2, m3, m4, m5)) = (
  some (.inl (4, [.ref 64, .int x, .int 0, .int 0], [], (ar, fi, (m1, m2, m3, m4, m5)))) : Option ((Nat × List Value × List Value × zH2) ⊕ zO2)) := by with_unfolding_all rfl
set_option maxRecDepth 10000 in
theorem t1_md_burnNextTo {X : Nat × (Nat → Int32)} {ar fi : Nat → Nat → Int32} {m1 m2 m3 m4 m5 : Nat} {x : Int32} {r2 r3 : Int32} {W_md_beside : Int32 → Int32 → Int32} : zseg X zFT (zEx 151 (P_md_beside W_md_beside) zE0) zc_199 (fun p => Nat.beq p 4) 400 4 [.ref 64, .int x, .int r2, .int r3] [] (ar, fi, (m1, m2, m3, m4, m5)) = (
  bif decide (4 ≤ r3) then
   some (.inr (some (.int r2), (ar, fi, (m1, m2, m3, m4, m5))))
  else
   bif decide (W_md_beside x r3 = (-1)) then
    some (.inl (4, [.ref 64, .int x, .int r2, .int (r3 + 1)], [], (ar, fi, (m1, m2, m3, m4, m5))))
   else
    zg (zin (0 + (W_md_beside x r3)) 315) (
    bif !decide ((ar 65) ((0 + (W_md_beside x r3)).toNatClampNeg) = 1) then
     some (.inl (4, [.ref 64, .int x, .int r2, .int (r3 + 1)], [], (ar, fi, (m1, m2, m3, m4, m5))))
    else
     some (.inl (4, [.ref 64, .int x, .int (r2 + 1), .int (r3 + 1)], [], (ar, fi, (m1, m2, m3, m4, m5))))) : Option ((Nat × List Value × List Value × zH2) ⊕ zO2)) := by with_unfolding_all rfl
set_option maxRecDepth 10000 in
theorem e_md_burnNextTo {X : Nat × (Nat → Int32)} {ar fi : Nat → Nat → Int32} {m1 m2 m3 m4 m5 : Nat} {x : Int32} (hP : g_md_burnNextTo x (ar 65) = true) : zR2 X zFT (zEx 151 S_md_beside zE0) (zC 199) 0 [.ref 64, .int x] [] (ar, fi, (m1, m2, m3, m4, m5)) (some (.int (w_md_burnNextTo x (ar 65))), (ar, fi, (m1, m2, m3, m4, m5))) := by
  refine zseg_go ?_ t0_md_burnNextTo
  refine zR2_loop (σ := Int32) (fun k n => (4, [.ref 64, .int x, .int n, .int (nI k)], [], (ar, fi, (m1, m2, m3, m4, m5)))) (b_md_burnNextTo x (ar 65)) (fun _ _ => True) 4 0 0 trivial (fun k n h1 h2 _ => ⟨⟨(fun p => Nat.beq p 4), 400, ?_⟩, trivial⟩) ?_
  · have hk : k < 4 := by omega
    refine t1_md_burnNextTo.trans ?_
    rw [show (decide (4 ≤ nI k)) = false from decide_eq_false (show ¬ ((4 : Int32) ≤ nI k) from nI_ge (b := 4) hk (by omega))]
    have hG := h_md_burnNextTo x (ar 65) k n hk hP
    unfold b_md_burnNextTo
    rw [← nI_1 k]
    simp only [cond_false]
    cases hc1 : (decide (w_md_beside x (nI k) = (-1))) with
    | true =>
      try simp only [hc1, cond_true, cond_false] at hG ⊢
      all_goals try simp only [Bool.and_eq_true, Bool.true_and, Bool.and_true] at hG
      all_goals try simp only [hG, zg, cond_true, and_self]
      all_goals rfl
    | false =>
      try simp only [hc1, cond_true, cond_false] at hG ⊢
      cases hc2 : (!decide ((ar 65) ((0 + (w_md_beside x (nI k))).toNatClampNeg) = 1)) with
      | true =>
        try simp only [hc2, cond_true, cond_false] at hG ⊢
        all_goals try simp only [Bool.and_eq_true, Bool.true_and, Bool.and_true] at hG
        all_goals try simp only [hG, zg, cond_true, and_self]
        all_goals rfl
      | false =>
        try simp only [hc2, cond_true, cond_false] at hG ⊢
        all_goals try simp only [Bool.and_eq_true, Bool.true_and, Bool.and_true] at hG
        all_goals try simp only [hG, zg, cond_true, and_self]
        all_goals rfl
  · refine zseg_ret (stops := (fun p => Nat.beq p 4)) (n := 400) (t1_md_burnNextTo.trans ?_)
    rw [show (decide (4 ≤ nI (0 + 4))) = true from by decide]
    rfl
theorem ok_md_burnNextTo (X : Nat × (Nat → Int32)) : zOkS X 199 S_md_burnNextTo 4 := zOkS_new (zOkE_cons (ok_md_beside X) (by decide) (zOkE_nil X 3)) (by
  intro args g o h
  obtain ⟨ar, fi, m1, m2, m3, m4, m5⟩ := g
  unfold S_md_burnNextTo P_md_burnNextTo at h
  split at h
  · refine zb_el h (fun hI0 k0 => ?_) (fun _ h10 => ?_)
    · have h2 := Option.some.inj k0
      have hG := congrArg Prod.fst h2
      have ho := congrArg Prod.snd h2
      dsimp only at hG ho
      subst ho
      try simp only [Bool.and_eq_true] at hI0
      have j0 := hI0
      have e0 := Nat.eq_of_beq_eq_true j0
      subst e0
      exact e_md_burnNextTo hG
    · cases h10
  · cases h)
def b_md_goneSet (p0 : Nat → Int32) (k : Nat) (n : Int32) : Int32 := (bif decide (w_md_isThing (nI k) p0 = 0) then n else (bif !decide (p0 ((288 + (nI k)).toNatClampNeg) = 1) then n else n ||| (1 <<< ((nI k) &&& 31))))
def w_md_goneSet (p0 : Nat → Int32) : Int32 := zfo (b_md_goneSet p0) 24 0 0
theorem h_md_goneSet (p0 : Nat → Int32) (k : Nat) (n : Int32) (hk : k < 24) : ((g_md_isThing (nI k) p0) && (bif decide (w_md_isThing (nI k) p0 = 0) then true else zin (288 + (nI k)) 315)) = true := by
  have h192 : zin (192 + nI k) 315 = true := zin_add 192 k 315 (by omega) (by omega)
  have h288 : zin (288 + nI k) 315 = true := zin_add 288 k 315 (by omega) (by omega)
  simp only [h192, h288, g_md_isThing, zm_e, Bool.and_true, Bool.and_self, Bool.true_and]
def P_md_goneSet (W : (Nat → Int32) → Int32) : zSp := fun as g => match as with
  | [.ref a] => bif Nat.beq a 64 then some (true, (some (.int (W (g.1 65))), (g.1, g.2.1, g.2.2))) else none
  | _ => none
abbrev S_md_goneSet : zSp := P_md_goneSet w_md_goneSet
set_option maxRecDepth 10000 in
theorem t0_md_goneSet {X : Nat × (Nat → Int32)} {ar fi : Nat → Nat → Int32} {m1 m2 m3 m4 m5 : Nat} {G_md_isThing : Int32 → (Nat → Int32) → Bool} {W_md_isThing : Int32 → (Nat → Int32) → Int32} : zseg X zFT (zEx 153 (P_md_isThing G_md_isThing W_md_isThing) zE0) zc_209 (fun p => Nat.beq p 4) 400 0 [.ref 64] [] (ar, fi, (m1, m2, m3, m4, m5)) = (
  some (.inl (4, [.ref 64, .int 0, .int 0], [], (ar, fi, (m1, m2, m3, m4, m5)))) : Option ((Nat × List Value × List Value × zH2) ⊕ zO2)) := by with_unfolding_all rfl
set_option maxRecDepth 10000 in
theorem t1_md_goneSet {X : Nat × (Nat → Int32)} {ar fi : Nat → Nat → Int32} {m1 m2 m3 m4 m5 : Nat} {r1 r2 : Int32} {G_md_isThing : Int32 → (Nat → Int32) → Bool} {W_md_isThing : Int32 → (Nat → Int32) → Int32} : zseg X zFT (zEx 153 (P_md_isThing G_md_isThing W_md_isThing) zE0) zc_209 (fun p => Nat.beq p 4) 400 4 [.ref 64, .int r1, .int r2] [] (ar, fi, (m1, m2, m3, m4, m5)) = (
  bif decide (24 ≤ r2) then
   some (.inr (some (.int r1), (ar, fi, (m1, m2, m3, m4, m5))))
  else
   zg (G_md_isThing r2 (ar 65)) (
   bif decide (W_md_isThing r2 (ar 65) = 0) then
    some (.inl (4, [.ref 64, .int r1, .int (r2 + 1)], [], (ar, fi, (m1, m2, m3, m4, m5))))
   else
    zg (zin (288 + r2) 315) (
    bif !decide ((ar 65) ((288 + r2).toNatClampNeg) = 1) then
     some (.inl (4, [.ref 64, .int r1, .int (r2 + 1)], [], (ar, fi, (m1, m2, m3, m4, m5))))
    else
     some (.inl (4, [.ref 64, .int (r1 ||| (1 <<< (r2 &&& 31))), .int (r2 + 1)], [], (ar, fi, (m1, m2, m3, m4, m5)))))) : Option ((Nat × List Value × List Value × zH2) ⊕ zO2)) := by with_unfolding_all rfl
set_option maxRecDepth 10000 in
theorem e_md_goneSet {X : Nat × (Nat → Int32)} {ar fi : Nat → Nat → Int32} {m1 m2 m3 m4 m5 : Nat} : zR2 X zFT (zEx 153 S_md_isThing zE0) (zC 209) 0 [.ref 64] [] (ar, fi, (m1, m2, m3, m4, m5)) (some (.int (w_md_goneSet (ar 65))), (ar, fi, (m1, m2, m3, m4, m5))) := by
  refine zseg_go ?_ t0_md_goneSet
  refine zR2_loop (σ := Int32) (fun k n => (4, [.ref 64, .int n, .int (nI k)], [], (ar, fi, (m1, m2, m3, m4, m5)))) (b_md_goneSet (ar 65)) (fun _ _ => True) 24 0 0 trivial (fun k n h1 h2 _ => ⟨⟨(fun p => Nat.beq p 4), 400, ?_⟩, trivial⟩) ?_
  · have hk : k < 24 := by omega
    refine t1_md_goneSet.trans ?_
    rw [show (decide (24 ≤ nI k)) = false from decide_eq_false (show ¬ ((24 : Int32) ≤ nI k) from nI_ge (b := 24) hk (by omega))]
    have hG := h_md_goneSet (ar 65) k n hk
    unfold b_md_goneSet
    rw [← nI_1 k]
    simp only [cond_false]
    cases hc1 : (decide (w_md_isThing (nI k) (ar 65) = 0)) with
    | true =>
      try simp only [hc1, cond_true, cond_false] at hG ⊢
      all_goals try simp only [Bool.and_eq_true, Bool.true_and, Bool.and_true] at hG
      all_goals try simp only [hG, zg, cond_true, and_self]
      all_goals rfl
    | false =>
      try simp only [hc1, cond_true, cond_false] at hG ⊢
      cases hc2 : (!decide ((ar 65) ((288 + (nI k)).toNatClampNeg) = 1)) with
      | true =>
        try simp only [hc2, cond_true, cond_false] at hG ⊢
        all_goals try simp only [Bool.and_eq_true, Bool.true_and, Bool.and_true] at hG
        all_goals try simp only [hG, zg, cond_true, and_self]
        all_goals rfl
      | false =>
        try simp only [hc2, cond_true, cond_false] at hG ⊢
        all_goals try simp only [Bool.and_eq_true, Bool.true_and, Bool.and_true] at hG
        all_goals try simp only [hG, zg, cond_true, and_self]
        all_goals rfl
  · refine zseg_ret (stops := (fun p => Nat.beq p 4)) (n := 400) (t1_md_goneSet.trans ?_)
    rw [show (decide (24 ≤ nI (0 + 24))) = true from by decide]
    rfl
theorem ok_md_goneSet (X : Nat × (Nat → Int32)) : zOkS X 209 S_md_goneSet 3 := zOkS_new (zOkE_cons (ok_md_isThing X) (by decide) (zOkE_nil X 2)) (by
  intro args g o h
  obtain ⟨ar, fi, m1, m2, m3, m4, m5⟩ := g
  unfold S_md_goneSet P_md_goneSet at h
  split at h
  · refine zb_el h (fun hI0 k0 => ?_) (fun _ h10 => ?_)
    · have h2 := Option.some.inj k0
      have hG := congrArg Prod.fst h2
      have ho := congrArg Prod.snd h2
      dsimp only at hG ho
      subst ho
      try simp only [Bool.and_eq_true] at hI0
      have j0 := hI0
      have e0 := Nat.eq_of_beq_eq_true j0
      subst e0
      exact e_md_goneSet
    · cases h10
  · cases h)
def b_md_thingsAt (x : Int32) (p0 : Nat → Int32) (k : Nat) (n : Int32) : Int32 := (bif decide (w_md_liesAt (nI k) x p0 = 0) then n else n ||| (1 <<< ((nI k) &&& 31)))
def w_md_thingsAt (x : Int32) (p0 : Nat → Int32) : Int32 := zfo (b_md_thingsAt x p0) 24 0 0
theorem h_md_thingsAt (x : Int32) (p0 : Nat → Int32) (k : Nat) (n : Int32) (hk : k < 24) : (g_md_liesAt (nI k) x p0) = true := by
  have h192 : zin (192 + nI k) 315 = true := zin_add 192 k 315 (by omega) (by omega)
  have h216 : zin (216 + nI k) 315 = true := zin_add 216 k 315 (by omega) (by omega)
  have h288 : zin (288 + nI k) 315 = true := zin_add 288 k 315 (by omega) (by omega)
  simp only [h192, h216, h288, g_md_liesAt, g_md_isThing, zm_e, Bool.and_true, Bool.and_self, Bool.true_and]
def P_md_thingsAt (W : Int32 → (Nat → Int32) → Int32) : zSp := fun as g => match as with
  | [.ref a, .int x] => bif Nat.beq a 64 then some (true, (some (.int (W x (g.1 65))), (g.1, g.2.1, g.2.2))) else none
  | _ => none
abbrev S_md_thingsAt : zSp := P_md_thingsAt w_md_thingsAt
set_option maxRecDepth 10000 in
theorem t0_md_thingsAt {X : Nat × (Nat → Int32)} {ar fi : Nat → Nat → Int32} {m1 m2 m3 m4 m5 : Nat} {x : Int32} {G_md_liesAt : Int32 → Int32 → (Nat → Int32) → Bool} {W_md_liesAt : Int32 → Int32 → (Nat → Int32) → Int32} : zseg X zFT (zEx 154 (P_md_liesAt G_md_liesAt W_md_liesAt) zE0) zc_212 (fun p => Nat.beq p 4) 400 0 [.ref 64, .int x] [] (ar, fi, (m1, m2, m3, m4, m5)) = (
  some (.inl (4, [.ref 64, .int x, .int 0, .int 0], [], (ar, fi, (m1, m2, m3, m4, m5)))) : Option ((Nat × List Value × List Value × zH2) ⊕ zO2)) := by with_unfolding_all rfl
set_option maxRecDepth 10000 in
theorem t1_md_thingsAt {X : Nat × (Nat → Int32)} {ar fi : Nat → Nat → Int32} {m1 m2 m3 m4 m5 : Nat} {x : Int32} {r2 r3 : Int32} {G_md_liesAt : Int32 → Int32 → (Nat → Int32) → Bool} {W_md_liesAt : Int32 → Int32 → (Nat → Int32) → Int32} : zseg X zFT (zEx 154 (P_md_liesAt G_md_liesAt W_md_liesAt) zE0) zc_212 (fun p => Nat.beq p 4) 400 4 [.ref 64, .int x, .int r2, .int r3] [] (ar, fi, (m1, m2, m3, m4, m5)) = (
  bif decide (24 ≤ r3) then
   some (.inr (some (.int r2), (ar, fi, (m1, m2, m3, m4, m5))))
  else
   zg (G_md_liesAt r3 x (ar 65)) (
   bif decide (W_md_liesAt r3 x (ar 65) = 0) then
    some (.inl (4, [.ref 64, .int x, .int r2, .int (r3 + 1)], [], (ar, fi, (m1, m2, m3, m4, m5))))
   else
    some (.inl (4, [.ref 64, .int x, .int (r2 ||| (1 <<< (r3 &&& 31))), .int (r3 + 1)], [], (ar, fi, (m1, m2, m3, m4, m5))))) : Option ((Nat × List Value × List Value × zH2) ⊕ zO2)) := by with_unfolding_all rfl
set_option maxRecDepth 10000 in
theorem e_md_thingsAt {X : Nat × (Nat → Int32)} {ar fi : Nat → Nat → Int32} {m1 m2 m3 m4 m5 : Nat} {x : Int32} : zR2 X zFT (zEx 154 S_md_liesAt zE0) (zC 212) 0 [.ref 64, .int x] [] (ar, fi, (m1, m2, m3, m4, m5)) (some (.int (w_md_thingsAt x (ar 65))), (ar, fi, (m1, m2, m3, m4, m5))) := by
  refine zseg_go ?_ t0_md_thingsAt
  refine zR2_loop (σ := Int32) (fun k n => (4, [.ref 64, .int x, .int n, .int (nI k)], [], (ar, fi, (m1, m2, m3, m4, m5)))) (b_md_thingsAt x (ar 65)) (fun _ _ => True) 24 0 0 trivial (fun k n h1 h2 _ => ⟨⟨(fun p => Nat.beq p 4), 400, ?_⟩, trivial⟩) ?_
  · have hk : k < 24 := by omega
    refine t1_md_thingsAt.trans ?_
    rw [show (decide (24 ≤ nI k)) = false from decide_eq_false (show ¬ ((24 : Int32) ≤ nI k) from nI_ge (b := 24) hk (by omega))]
    have hG := h_md_thingsAt x (ar 65) k n hk
    unfold b_md_thingsAt
    rw [← nI_1 k]
    simp only [cond_false]
    cases hc1 : (decide (w_md_liesAt (nI k) x (ar 65) = 0)) with
    | true =>
      try simp only [hc1, cond_true, cond_false] at hG ⊢
      all_goals try simp only [Bool.and_eq_true, Bool.true_and, Bool.and_true] at hG
      all_goals try simp only [hG, zg, cond_true, and_self]
      all_goals rfl
    | false =>
      try simp only [hc1, cond_true, cond_false] at hG ⊢
      all_goals try simp only [Bool.and_eq_true, Bool.true_and, Bool.and_true] at hG
      all_goals try simp only [hG, zg, cond_true, and_self]
      all_goals rfl
  · refine zseg_ret (stops := (fun p => Nat.beq p 4)) (n := 400) (t1_md_thingsAt.trans ?_)
    rw [show (decide (24 ≤ nI (0 + 24))) = true from by decide]
    rfl
theorem ok_md_thingsAt (X : Nat × (Nat → Int32)) : zOkS X 212 S_md_thingsAt 4 := zOkS_new (zOkE_cons (ok_md_liesAt X) (by decide) (zOkE_nil X 3)) (by
  intro args g o h
  obtain ⟨ar, fi, m1, m2, m3, m4, m5⟩ := g
  unfold S_md_thingsAt P_md_thingsAt at h
  split at h
  · refine zb_el h (fun hI0 k0 => ?_) (fun _ h10 => ?_)
    · have h2 := Option.some.inj k0
      have hG := congrArg Prod.fst h2
      have ho := congrArg Prod.snd h2
      dsimp only at hG ho
      subst ho
      try simp only [Bool.and_eq_true] at hI0
      have j0 := hI0
      have e0 := Nat.eq_of_beq_eq_true j0
      subst e0
      exact e_md_thingsAt
    · cases h10
  · cases h)
def b_md_toldSet (p0 : Nat → Int32) (k : Nat) (n : Int32) : Int32 := (bif decide (w_md_isThing (nI k) p0 = 0) then n else n ||| (1 <<< ((nI k) &&& 31)))
def w_md_toldSet (p0 : Nat → Int32) : Int32 := zfo (b_md_toldSet p0) 24 0 0
theorem h_md_toldSet (p0 : Nat → Int32) (k : Nat) (n : Int32) (hk : k < 24) : (g_md_isThing (nI k) p0) = true := by
  have h192 : zin (192 + nI k) 315 = true := zin_add 192 k 315 (by omega) (by omega)
  simp only [h192, g_md_isThing, zm_e, Bool.and_true, Bool.and_self, Bool.true_and]
def P_md_toldSet (W : (Nat → Int32) → Int32) : zSp := fun as g => match as with
  | [.ref a] => bif Nat.beq a 64 then some (true, (some (.int (W (g.1 65))), (g.1, g.2.1, g.2.2))) else none
  | _ => none
abbrev S_md_toldSet : zSp := P_md_toldSet w_md_toldSet
set_option maxRecDepth 10000 in
theorem t0_md_toldSet {X : Nat × (Nat → Int32)} {ar fi : Nat → Nat → Int32} {m1 m2 m3 m4 m5 : Nat} {G_md_isThing : Int32 → (Nat → Int32) → Bool} {W_md_isThing : Int32 → (Nat → Int32) → Int32} : zseg X zFT (zEx 153 (P_md_isThing G_md_isThing W_md_isThing) zE0) zc_246 (fun p => Nat.beq p 4) 400 0 [.ref 64] [] (ar, fi, (m1, m2, m3, m4, m5)) = (
  some (.inl (4, [.ref 64, .int 0, .int 0], [], (ar, fi, (m1, m2, m3, m4, m5)))) : Option ((Nat × List Value × List Value × zH2) ⊕ zO2)) := by with_unfolding_all rfl
set_option maxRecDepth 10000 in
theorem t1_md_toldSet {X : Nat × (Nat → Int32)} {ar fi : Nat → Nat → Int32} {m1 m2 m3 m4 m5 : Nat} {r1 r2 : Int32} {G_md_isThing : Int32 → (Nat → Int32) → Bool} {W_md_isThing : Int32 → (Nat → Int32) → Int32} : zseg X zFT (zEx 153 (P_md_isThing G_md_isThing W_md_isThing) zE0) zc_246 (fun p => Nat.beq p 4) 400 4 [.ref 64, .int r1, .int r2] [] (ar, fi, (m1, m2, m3, m4, m5)) = (
  bif decide (24 ≤ r2) then
   some (.inr (some (.int r1), (ar, fi, (m1, m2, m3, m4, m5))))
  else
   zg (G_md_isThing r2 (ar 65)) (
   bif decide (W_md_isThing r2 (ar 65) = 0) then
    some (.inl (4, [.ref 64, .int r1, .int (r2 + 1)], [], (ar, fi, (m1, m2, m3, m4, m5))))
   else
    some (.inl (4, [.ref 64, .int (r1 ||| (1 <<< (r2 &&& 31))), .int (r2 + 1)], [], (ar, fi, (m1, m2, m3, m4, m5))))) : Option ((Nat × List Value × List Value × zH2) ⊕ zO2)) := by with_unfolding_all rfl
set_option maxRecDepth 10000 in
theorem e_md_toldSet {X : Nat × (Nat → Int32)} {ar fi : Nat → Nat → Int32} {m1 m2 m3 m4 m5 : Nat} : zR2 X zFT (zEx 153 S_md_isThing zE0) (zC 246) 0 [.ref 64] [] (ar, fi, (m1, m2, m3, m4, m5)) (some (.int (w_md_toldSet (ar 65))), (ar, fi, (m1, m2, m3, m4, m5))) := by
  refine zseg_go ?_ t0_md_toldSet
  refine zR2_loop (σ := Int32) (fun k n => (4, [.ref 64, .int n, .int (nI k)], [], (ar, fi, (m1, m2, m3, m4, m5)))) (b_md_toldSet (ar 65)) (fun _ _ => True) 24 0 0 trivial (fun k n h1 h2 _ => ⟨⟨(fun p => Nat.beq p 4), 400, ?_⟩, trivial⟩) ?_
  · have hk : k < 24 := by omega
    refine t1_md_toldSet.trans ?_
    rw [show (decide (24 ≤ nI k)) = false from decide_eq_false (show ¬ ((24 : Int32) ≤ nI k) from nI_ge (b := 24) hk (by omega))]
    have hG := h_md_toldSet (ar 65) k n hk
    unfold b_md_toldSet
    rw [← nI_1 k]
    simp only [cond_false]
    cases hc1 : (decide (w_md_isThing (nI k) (ar 65) = 0)) with
    | true =>
      try simp only [hc1, cond_true, cond_false] at hG ⊢
      all_goals try simp only [Bool.and_eq_true, Bool.true_and, Bool.and_true] at hG
      all_goals try simp only [hG, zg, cond_true, and_self]
      all_goals rfl
    | false =>
      try simp only [hc1, cond_true, cond_false] at hG ⊢
      all_goals try simp only [Bool.and_eq_true, Bool.true_and, Bool.and_true] at hG
      all_goals try simp only [hG, zg, cond_true, and_self]
      all_goals rfl
  · refine zseg_ret (stops := (fun p => Nat.beq p 4)) (n := 400) (t1_md_toldSet.trans ?_)
    rw [show (decide (24 ≤ nI (0 + 24))) = true from by decide]
    rfl
theorem ok_md_toldSet (X : Nat × (Nat → Int32)) : zOkS X 246 S_md_toldSet 3 := zOkS_new (zOkE_cons (ok_md_isThing X) (by decide) (zOkE_nil X 2)) (by
  intro args g o h
  obtain ⟨ar, fi, m1, m2, m3, m4, m5⟩ := g
  unfold S_md_toldSet P_md_toldSet at h
  split at h
  · refine zb_el h (fun hI0 k0 => ?_) (fun _ h10 => ?_)
    · have h2 := Option.some.inj k0
      have hG := congrArg Prod.fst h2
      have ho := congrArg Prod.snd h2
      dsimp only at hG ho
      subst ho
      try simp only [Bool.and_eq_true] at hI0
      have j0 := hI0
      have e0 := Nat.eq_of_beq_eq_true j0
      subst e0
      exact e_md_toldSet
    · cases h10
  · cases h)
def b_md_woodSeen (p0 : Nat → Int32) (k : Nat) (n : Int32) : Int32 := (bif decide (p0 ((nI k).toNatClampNeg) = (-1)) then n else n + 1)
def w_md_woodSeen (p0 : Nat → Int32) : Int32 := zfo (b_md_woodSeen p0) 96 0 0
theorem h_md_woodSeen (p0 : Nat → Int32) (k : Nat) (n : Int32) (hk : k < 96) : (zin (nI k) 96) = true := by
  exact zin_nI hk (by omega)
def P_md_woodSeen (W : (Nat → Int32) → Int32) : zSp := fun as g => match as with
  | [.ref a] => bif Nat.beq a 64 then some (true, (some (.int (W (g.1 86))), (g.1, g.2.1, g.2.2))) else none
  | _ => none
abbrev S_md_woodSeen : zSp := P_md_woodSeen w_md_woodSeen
set_option maxRecDepth 10000 in
theorem t0_md_woodSeen {X : Nat × (Nat → Int32)} {ar fi : Nat → Nat → Int32} {m1 m2 m3 m4 m5 : Nat} : zseg X zFT zE0 zc_233 (fun p => Nat.beq p 4) 400 0 [.ref 64] [] (ar, fi, (m1, m2, m3, m4, m5)) = (
  some (.inl (4, [.ref 64, .int 0, .int 0], [], (ar, fi, (m1, m2, m3, m4, m5)))) : Option ((Nat × List Value × List Value × zH2) ⊕ zO2)) := by with_unfolding_all rfl
set_option maxRecDepth 10000 in
theorem t1_md_woodSeen {X : Nat × (Nat → Int32)} {ar fi : Nat → Nat → Int32} {m1 m2 m3 m4 m5 : Nat} {r1 r2 : Int32} : zseg X zFT zE0 zc_233 (fun p => Nat.beq p 4) 400 4 [.ref 64, .int r1, .int r2] [] (ar, fi, (m1, m2, m3, m4, m5)) = (
  bif decide (96 ≤ r2) then
   some (.inr (some (.int r1), (ar, fi, (m1, m2, m3, m4, m5))))
  else
   zg (zin r2 96) (
   bif decide ((ar 86) (r2.toNatClampNeg) = (-1)) then
    some (.inl (4, [.ref 64, .int r1, .int (r2 + 1)], [], (ar, fi, (m1, m2, m3, m4, m5))))
   else
    some (.inl (4, [.ref 64, .int (r1 + 1), .int (r2 + 1)], [], (ar, fi, (m1, m2, m3, m4, m5))))) : Option ((Nat × List Value × List Value × zH2) ⊕ zO2)) := by with_unfolding_all rfl
set_option maxRecDepth 10000 in
theorem e_md_woodSeen {X : Nat × (Nat → Int32)} {ar fi : Nat → Nat → Int32} {m1 m2 m3 m4 m5 : Nat} : zR2 X zFT zE0 (zC 233) 0 [.ref 64] [] (ar, fi, (m1, m2, m3, m4, m5)) (some (.int (w_md_woodSeen (ar 86))), (ar, fi, (m1, m2, m3, m4, m5))) := by
  refine zseg_go ?_ t0_md_woodSeen
  refine zR2_loop (σ := Int32) (fun k n => (4, [.ref 64, .int n, .int (nI k)], [], (ar, fi, (m1, m2, m3, m4, m5)))) (b_md_woodSeen (ar 86)) (fun _ _ => True) 96 0 0 trivial (fun k n h1 h2 _ => ⟨⟨(fun p => Nat.beq p 4), 400, ?_⟩, trivial⟩) ?_
  · have hk : k < 96 := by omega
    refine t1_md_woodSeen.trans ?_
    rw [show (decide (96 ≤ nI k)) = false from decide_eq_false (show ¬ ((96 : Int32) ≤ nI k) from nI_ge (b := 96) hk (by omega))]
    have hG := h_md_woodSeen (ar 86) k n hk
    unfold b_md_woodSeen
    rw [← nI_1 k]
    simp only [cond_false]
    cases hc1 : (decide ((ar 86) ((nI k).toNatClampNeg) = (-1))) with
    | true =>
      try simp only [hc1, cond_true, cond_false] at hG ⊢
      all_goals try simp only [Bool.and_eq_true, Bool.true_and, Bool.and_true] at hG
      all_goals try simp only [hG, zg, cond_true, and_self]
      all_goals rfl
    | false =>
      try simp only [hc1, cond_true, cond_false] at hG ⊢
      all_goals try simp only [Bool.and_eq_true, Bool.true_and, Bool.and_true] at hG
      all_goals try simp only [hG, zg, cond_true, and_self]
      all_goals rfl
  · refine zseg_ret (stops := (fun p => Nat.beq p 4)) (n := 400) (t1_md_woodSeen.trans ?_)
    rw [show (decide (96 ≤ nI (0 + 96))) = true from by decide]
    rfl
theorem ok_md_woodSeen (X : Nat × (Nat → Int32)) : zOkS X 233 S_md_woodSeen 1 := zOkS_new (zOkE_nil X 0) (by
  intro args g o h
  obtain ⟨ar, fi, m1, m2, m3, m4, m5⟩ := g
  unfold S_md_woodSeen P_md_woodSeen at h
  split at h
  · refine zb_el h (fun hI0 k0 => ?_) (fun _ h10 => ?_)
    · have h2 := Option.some.inj k0
      have hG := congrArg Prod.fst h2
      have ho := congrArg Prod.snd h2
      dsimp only at hG ho
      subst ho
      try simp only [Bool.and_eq_true] at hI0
      have j0 := hI0
      have e0 := Nat.eq_of_beq_eq_true j0
      subst e0
      exact e_md_woodSeen
    · cases h10
  · cases h)
def b_md_sumsInRuins (p0 : Nat → Int32) (k : Nat) (n : Int32) : Int32 := (bif decide (p0 ((0 + (nI k)).toNatClampNeg) = 0) then n else n + (w_md_sumsAt (nI k) p0))
def w_md_sumsInRuins (p0 : Nat → Int32) : Int32 := zfo (b_md_sumsInRuins p0) 96 0 0
theorem h_md_sumsInRuins (p0 : Nat → Int32) (k : Nat) (n : Int32) (hk : k < 96) : (zin (0 + (nI k)) 315) = true := by
  exact zin_add 0 k 315 (by omega) (by omega)
def P_md_sumsInRuins (W : (Nat → Int32) → Int32) : zSp := fun as g => match as with
  | [.ref a] => bif Nat.beq a 64 then some (true, (some (.int (W (g.1 65))), (g.1, g.2.1, g.2.2))) else none
  | _ => none
abbrev S_md_sumsInRuins : zSp := P_md_sumsInRuins w_md_sumsInRuins
set_option maxRecDepth 10000 in
theorem t0_md_sumsInRuins {X : Nat × (Nat → Int32)} {ar fi : Nat → Nat → Int32} {m1 m2 m3 m4 m5 : Nat} {W_md_sumsAt : Int32 → (Nat → Int32) → Int32} : zseg X zFT (zEx 198 (P_md_sumsAt W_md_sumsAt) zE0) zc_210 (fun p => Nat.beq p 4) 400 0 [.ref 64] [] (ar, fi, (m1, m2, m3, m4, m5)) = (
  some (.inl (4, [.ref 64, .int 0, .int 0], [], (ar, fi, (m1, m2, m3, m4, m5)))) : Option ((Nat × List Value × List Value × zH2) ⊕ zO2)) := by with_unfolding_all rfl
set_option maxRecDepth 10000 in
theorem t1_md_sumsInRuins {X : Nat × (Nat → Int32)} {ar fi : Nat → Nat → Int32} {m1 m2 m3 m4 m5 : Nat} {r1 r2 : Int32} {W_md_sumsAt : Int32 → (Nat → Int32) → Int32} : zseg X zFT (zEx 198 (P_md_sumsAt W_md_sumsAt) zE0) zc_210 (fun p => Nat.beq p 4) 400 4 [.ref 64, .int r1, .int r2] [] (ar, fi, (m1, m2, m3, m4, m5)) = (
  bif decide (96 ≤ r2) then
   some (.inr (some (.int r1), (ar, fi, (m1, m2, m3, m4, m5))))
  else
   zg (zin (0 + r2) 315) (
   bif decide ((ar 65) ((0 + r2).toNatClampNeg) = 0) then
    some (.inl (4, [.ref 64, .int r1, .int (r2 + 1)], [], (ar, fi, (m1, m2, m3, m4, m5))))
   else
    some (.inl (4, [.ref 64, .int (r1 + (W_md_sumsAt r2 (ar 65))), .int (r2 + 1)], [], (ar, fi, (m1, m2, m3, m4, m5))))) : Option ((Nat × List Value × List Value × zH2) ⊕ zO2)) := by with_unfolding_all rfl
set_option maxRecDepth 10000 in
theorem e_md_sumsInRuins {X : Nat × (Nat → Int32)} {ar fi : Nat → Nat → Int32} {m1 m2 m3 m4 m5 : Nat} : zR2 X zFT (zEx 198 S_md_sumsAt zE0) (zC 210) 0 [.ref 64] [] (ar, fi, (m1, m2, m3, m4, m5)) (some (.int (w_md_sumsInRuins (ar 65))), (ar, fi, (m1, m2, m3, m4, m5))) := by
  refine zseg_go ?_ t0_md_sumsInRuins
  refine zR2_loop (σ := Int32) (fun k n => (4, [.ref 64, .int n, .int (nI k)], [], (ar, fi, (m1, m2, m3, m4, m5)))) (b_md_sumsInRuins (ar 65)) (fun _ _ => True) 96 0 0 trivial (fun k n h1 h2 _ => ⟨⟨(fun p => Nat.beq p 4), 400, ?_⟩, trivial⟩) ?_
  · have hk : k < 96 := by omega
    refine t1_md_sumsInRuins.trans ?_
    rw [show (decide (96 ≤ nI k)) = false from decide_eq_false (show ¬ ((96 : Int32) ≤ nI k) from nI_ge (b := 96) hk (by omega))]
    have hG := h_md_sumsInRuins (ar 65) k n hk
    unfold b_md_sumsInRuins
    rw [← nI_1 k]
    simp only [cond_false]
    cases hc1 : (decide ((ar 65) ((0 + (nI k)).toNatClampNeg) = 0)) with
    | true =>
      try simp only [hc1, cond_true, cond_false] at hG ⊢
      all_goals try simp only [Bool.and_eq_true, Bool.true_and, Bool.and_true] at hG
      all_goals try simp only [hG, zg, cond_true, and_self]
      all_goals rfl
    | false =>
      try simp only [hc1, cond_true, cond_false] at hG ⊢
      all_goals try simp only [Bool.and_eq_true, Bool.true_and, Bool.and_true] at hG
      all_goals try simp only [hG, zg, cond_true, and_self]
      all_goals rfl
  · refine zseg_ret (stops := (fun p => Nat.beq p 4)) (n := 400) (t1_md_sumsInRuins.trans ?_)
    rw [show (decide (96 ≤ nI (0 + 96))) = true from by decide]
    rfl
theorem ok_md_sumsInRuins (X : Nat × (Nat → Int32)) : zOkS X 210 S_md_sumsInRuins 5 := zOkS_new (zOkE_cons (ok_md_sumsAt X) (by decide) (zOkE_nil X 4)) (by
  intro args g o h
  obtain ⟨ar, fi, m1, m2, m3, m4, m5⟩ := g
  unfold S_md_sumsInRuins P_md_sumsInRuins at h
  split at h
  · refine zb_el h (fun hI0 k0 => ?_) (fun _ h10 => ?_)
    · have h2 := Option.some.inj k0
      have hG := congrArg Prod.fst h2
      have ho := congrArg Prod.snd h2
      dsimp only at hG ho
      subst ho
      try simp only [Bool.and_eq_true] at hI0
      have j0 := hI0
      have e0 := Nat.eq_of_beq_eq_true j0
      subst e0
      exact e_md_sumsInRuins
    · cases h10
  · cases h)
def b_md_lostAll (p0 : Nat → Int32) (k : Nat) (n : Int32) : Int32 := (bif decide (w_md_has (w_md_goneSet p0) (nI k) = 0) then n else n + (p0 ((240 + (nI k)).toNatClampNeg)))
def w_md_lostAll (p0 : Nat → Int32) : Int32 := zfo (b_md_lostAll p0) 24 0 0
theorem h_md_lostAll (p0 : Nat → Int32) (k : Nat) (n : Int32) (hk : k < 24) : (bif decide (w_md_has (w_md_goneSet p0) (nI k) = 0) then true else zin (240 + (nI k)) 315) = true := by
  have h240 : zin (240 + nI k) 315 = true := zin_add 240 k 315 (by omega) (by omega)
  simp only [h240, zm_e, Bool.and_true, Bool.and_self, Bool.true_and]
def P_md_lostAll (W : (Nat → Int32) → Int32) : zSp := fun as g => match as with
  | [.ref a] => bif Nat.beq a 64 then some (true, (some (.int (W (g.1 65))), (g.1, g.2.1, g.2.2))) else none
  | _ => none
abbrev S_md_lostAll : zSp := P_md_lostAll w_md_lostAll
set_option maxRecDepth 10000 in
theorem t0_md_lostAll {X : Nat × (Nat → Int32)} {ar fi : Nat → Nat → Int32} {m1 m2 m3 m4 m5 : Nat} {W_md_goneSet : (Nat → Int32) → Int32} {W_md_has : Int32 → Int32 → Int32} : zseg X zFT (zEx 209 (P_md_goneSet W_md_goneSet) (zEx 146 (P_md_has W_md_has) zE0)) zc_247 (fun p => Nat.beq p 4) 400 0 [.ref 64] [] (ar, fi, (m1, m2, m3, m4, m5)) = (
  some (.inl (4, [.ref 64, .int 0, .int 0], [], (ar, fi, (m1, m2, m3, m4, m5)))) : Option ((Nat × List Value × List Value × zH2) ⊕ zO2)) := by with_unfolding_all rfl
set_option maxRecDepth 10000 in
theorem t1_md_lostAll {X : Nat × (Nat → Int32)} {ar fi : Nat → Nat → Int32} {m1 m2 m3 m4 m5 : Nat} {r1 r2 : Int32} {W_md_goneSet : (Nat → Int32) → Int32} {W_md_has : Int32 → Int32 → Int32} : zseg X zFT (zEx 209 (P_md_goneSet W_md_goneSet) (zEx 146 (P_md_has W_md_has) zE0)) zc_247 (fun p => Nat.beq p 4) 400 4 [.ref 64, .int r1, .int r2] [] (ar, fi, (m1, m2, m3, m4, m5)) = (
  bif decide (24 ≤ r2) then
   some (.inr (some (.int r1), (ar, fi, (m1, m2, m3, m4, m5))))
  else
   bif decide (W_md_has (W_md_goneSet (ar 65)) r2 = 0) then
    some (.inl (4, [.ref 64, .int r1, .int (r2 + 1)], [], (ar, fi, (m1, m2, m3, m4, m5))))
   else
    zg (zin (240 + r2) 315) (
    some (.inl (4, [.ref 64, .int (r1 + ((ar 65) ((240 + r2).toNatClampNeg))), .int (r2 + 1)], [], (ar, fi, (m1, m2, m3, m4, m5))))) : Option ((Nat × List Value × List Value × zH2) ⊕ zO2)) := by with_unfolding_all rfl
set_option maxRecDepth 10000 in
theorem e_md_lostAll {X : Nat × (Nat → Int32)} {ar fi : Nat → Nat → Int32} {m1 m2 m3 m4 m5 : Nat} : zR2 X zFT (zEx 209 S_md_goneSet (zEx 146 S_md_has zE0)) (zC 247) 0 [.ref 64] [] (ar, fi, (m1, m2, m3, m4, m5)) (some (.int (w_md_lostAll (ar 65))), (ar, fi, (m1, m2, m3, m4, m5))) := by
  refine zseg_go ?_ t0_md_lostAll
  refine zR2_loop (σ := Int32) (fun k n => (4, [.ref 64, .int n, .int (nI k)], [], (ar, fi, (m1, m2, m3, m4, m5)))) (b_md_lostAll (ar 65)) (fun _ _ => True) 24 0 0 trivial (fun k n h1 h2 _ => ⟨⟨(fun p => Nat.beq p 4), 400, ?_⟩, trivial⟩) ?_
  · have hk : k < 24 := by omega
    refine t1_md_lostAll.trans ?_
    rw [show (decide (24 ≤ nI k)) = false from decide_eq_false (show ¬ ((24 : Int32) ≤ nI k) from nI_ge (b := 24) hk (by omega))]
    have hG := h_md_lostAll (ar 65) k n hk
    unfold b_md_lostAll
    rw [← nI_1 k]
    simp only [cond_false]
    cases hc1 : (decide (w_md_has (w_md_goneSet (ar 65)) (nI k) = 0)) with
    | true =>
      try simp only [hc1, cond_true, cond_false] at hG ⊢
      all_goals try simp only [Bool.and_eq_true, Bool.true_and, Bool.and_true] at hG
      all_goals try simp only [hG, zg, cond_true, and_self]
      all_goals rfl
    | false =>
      try simp only [hc1, cond_true, cond_false] at hG ⊢
      all_goals try simp only [Bool.and_eq_true, Bool.true_and, Bool.and_true] at hG
      all_goals try simp only [hG, zg, cond_true, and_self]
      all_goals rfl
  · refine zseg_ret (stops := (fun p => Nat.beq p 4)) (n := 400) (t1_md_lostAll.trans ?_)
    rw [show (decide (24 ≤ nI (0 + 24))) = true from by decide]
    rfl
theorem ok_md_lostAll (X : Nat × (Nat → Int32)) : zOkS X 247 S_md_lostAll 4 := zOkS_new (zOkE_cons (ok_md_goneSet X) (by decide) (zOkE_cons (ok_md_has X) (by decide) (zOkE_nil X 3))) (by
  intro args g o h
  obtain ⟨ar, fi, m1, m2, m3, m4, m5⟩ := g
  unfold S_md_lostAll P_md_lostAll at h
  split at h
  · refine zb_el h (fun hI0 k0 => ?_) (fun _ h10 => ?_)
    · have h2 := Option.some.inj k0
      have hG := congrArg Prod.fst h2
      have ho := congrArg Prod.snd h2
      dsimp only at hG ho
      subst ho
      try simp only [Bool.and_eq_true] at hI0
      have j0 := hI0
      have e0 := Nat.eq_of_beq_eq_true j0
      subst e0
      exact e_md_lostAll
    · cases h10
  · cases h)
