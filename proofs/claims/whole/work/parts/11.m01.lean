def g_sc_setState (x : Int32) (y : Int32) (z : Int32) (p0 : Nat → Int32) (p1 : Nat → Int32) : Bool := (zin x 96) && (zin x 96)
def a0_sc_setState (x : Int32) (y : Int32) (z : Int32) (p0 : Nat → Int32) (p1 : Nat → Int32) : Nat → Int32 := (zup p0 (x.toNatClampNeg) y)
def a1_sc_setState (x : Int32) (y : Int32) (z : Int32) (p0 : Nat → Int32) (p1 : Nat → Int32) : Nat → Int32 := (zup p1 (x.toNatClampNeg) z)
def P_sc_setState (G : Int32 → Int32 → Int32 → (Nat → Int32) → (Nat → Int32) → Bool) (A0 : Int32 → Int32 → Int32 → (Nat → Int32) → (Nat → Int32) → Nat → Int32) (A1 : Int32 → Int32 → Int32 → (Nat → Int32) → (Nat → Int32) → Nat → Int32) : zSp := fun as g => match as with
  | [.ref a, .int x, .int y, .int z] => bif Nat.beq a 2 then some (G x y z (g.1 4) (g.1 5), (none, ((zup (zup g.1 4 (A0 x y z (g.1 4) (g.1 5))) 5 (A1 x y z (g.1 4) (g.1 5))), g.2.1, g.2.2))) else bif Nat.beq a 9 then some (G x y z (g.1 11) (g.1 12), (none, ((zup (zup g.1 11 (A0 x y z (g.1 11) (g.1 12))) 12 (A1 x y z (g.1 11) (g.1 12))), g.2.1, g.2.2))) else bif Nat.beq a 16 then some (G x y z (g.1 18) (g.1 19), (none, ((zup (zup g.1 18 (A0 x y z (g.1 18) (g.1 19))) 19 (A1 x y z (g.1 18) (g.1 19))), g.2.1, g.2.2))) else none
  | _ => none
abbrev S_sc_setState : zSp := P_sc_setState g_sc_setState a0_sc_setState a1_sc_setState
set_option maxRecDepth 10000 in
theorem t_sc_setState_2 {X : Nat × (Nat → Int32)} {ar fi : Nat → Nat → Int32} {m1 m2 m3 m4 m5 : Nat} {x y z : Int32} : zseg X zFT zE0 zc_71 (fun _ => false) 400 0 [.ref 2, .int x, .int y, .int z] [] (ar, fi, (m1, m2, m3, m4, m5)) = (
  zg (zin x 96) (
  zg (zin x 96) (
  some (.inr (none, ((zup (zup ar 4 (zup (ar 4) (x.toNatClampNeg) y)) 5 (zup (ar 5) (x.toNatClampNeg) z)), fi, (m1, m2, m3, m4, m5)))))) : Option ((Nat × List Value × List Value × zH2) ⊕ zO2)) := by with_unfolding_all rfl
set_option maxRecDepth 10000 in
theorem e_sc_setState_2 {X : Nat × (Nat → Int32)} {ar fi : Nat → Nat → Int32} {m1 m2 m3 m4 m5 : Nat} {x y z : Int32} (hG : g_sc_setState x y z (ar 4) (ar 5) = true) : zseg X zFT zE0 zc_71 (fun _ => false) 400 0 [.ref 2, .int x, .int y, .int z] [] (ar, fi, (m1, m2, m3, m4, m5)) = some (.inr (none, ((zup (zup ar 4 (a0_sc_setState x y z (ar 4) (ar 5))) 5 (a1_sc_setState x y z (ar 4) (ar 5))), fi, (m1, m2, m3, m4, m5)))) := by
  rw [t_sc_setState_2]
  unfold g_sc_setState at hG
  unfold a0_sc_setState a1_sc_setState
  all_goals try simp only [Bool.and_eq_true, Bool.true_and, Bool.and_true] at hG
  all_goals try simp only [hG, zg, cond_true, and_self]
  all_goals try simp only [zup_zup, zup_same]
  all_goals first | rfl | (refine congrArg some (congrArg Sum.inr (Prod.ext rfl (Prod.ext ?_ (Prod.ext ?_ rfl)))) <;> first | rfl | (funext b; simp only [zup]; (repeat' split) <;> first | rfl | omega | (subst_vars; rfl) | (subst_vars; funext k; simp only [zup]; (repeat' split) <;> first | rfl | omega | (subst_vars; rfl) | (simp_all; done))))
set_option maxRecDepth 10000 in
theorem t_sc_setState_9 {X : Nat × (Nat → Int32)} {ar fi : Nat → Nat → Int32} {m1 m2 m3 m4 m5 : Nat} {x y z : Int32} : zseg X zFT zE0 zc_71 (fun _ => false) 400 0 [.ref 9, .int x, .int y, .int z] [] (ar, fi, (m1, m2, m3, m4, m5)) = (
  zg (zin x 96) (
  zg (zin x 96) (
  some (.inr (none, ((zup (zup ar 11 (zup (ar 11) (x.toNatClampNeg) y)) 12 (zup (ar 12) (x.toNatClampNeg) z)), fi, (m1, m2, m3, m4, m5)))))) : Option ((Nat × List Value × List Value × zH2) ⊕ zO2)) := by with_unfolding_all rfl
set_option maxRecDepth 10000 in
theorem e_sc_setState_9 {X : Nat × (Nat → Int32)} {ar fi : Nat → Nat → Int32} {m1 m2 m3 m4 m5 : Nat} {x y z : Int32} (hG : g_sc_setState x y z (ar 11) (ar 12) = true) : zseg X zFT zE0 zc_71 (fun _ => false) 400 0 [.ref 9, .int x, .int y, .int z] [] (ar, fi, (m1, m2, m3, m4, m5)) = some (.inr (none, ((zup (zup ar 11 (a0_sc_setState x y z (ar 11) (ar 12))) 12 (a1_sc_setState x y z (ar 11) (ar 12))), fi, (m1, m2, m3, m4, m5)))) := by
  rw [t_sc_setState_9]
  unfold g_sc_setState at hG
  unfold a0_sc_setState a1_sc_setState
  all_goals try simp only [Bool.and_eq_true, Bool.true_and, Bool.and_true] at hG
  all_goals try simp only [hG, zg, cond_true, and_self]
  all_goals try simp only [zup_zup, zup_same]
  all_goals first | rfl | (refine congrArg some (congrArg Sum.inr (Prod.ext rfl (Prod.ext ?_ (Prod.ext ?_ rfl)))) <;> first | rfl | (funext b; simp only [zup]; (repeat' split) <;> first | rfl | omega | (subst_vars; rfl) | (subst_vars; funext k; simp only [zup]; (repeat' split) <;> first | rfl | omega | (subst_vars; rfl) | (simp_all; done))))
set_option maxRecDepth 10000 in
theorem t_sc_setState_16 {X : Nat × (Nat → Int32)} {ar fi : Nat → Nat → Int32} {m1 m2 m3 m4 m5 : Nat} {x y z : Int32} : zseg X zFT zE0 zc_71 (fun _ => false) 400 0 [.ref 16, .int x, .int y, .int z] [] (ar, fi, (m1, m2, m3, m4, m5)) = (
  zg (zin x 96) (
  zg (zin x 96) (
  some (.inr (none, ((zup (zup ar 18 (zup (ar 18) (x.toNatClampNeg) y)) 19 (zup (ar 19) (x.toNatClampNeg) z)), fi, (m1, m2, m3, m4, m5)))))) : Option ((Nat × List Value × List Value × zH2) ⊕ zO2)) := by with_unfolding_all rfl
set_option maxRecDepth 10000 in
theorem e_sc_setState_16 {X : Nat × (Nat → Int32)} {ar fi : Nat → Nat → Int32} {m1 m2 m3 m4 m5 : Nat} {x y z : Int32} (hG : g_sc_setState x y z (ar 18) (ar 19) = true) : zseg X zFT zE0 zc_71 (fun _ => false) 400 0 [.ref 16, .int x, .int y, .int z] [] (ar, fi, (m1, m2, m3, m4, m5)) = some (.inr (none, ((zup (zup ar 18 (a0_sc_setState x y z (ar 18) (ar 19))) 19 (a1_sc_setState x y z (ar 18) (ar 19))), fi, (m1, m2, m3, m4, m5)))) := by
  rw [t_sc_setState_16]
  unfold g_sc_setState at hG
  unfold a0_sc_setState a1_sc_setState
  all_goals try simp only [Bool.and_eq_true, Bool.true_and, Bool.and_true] at hG
  all_goals try simp only [hG, zg, cond_true, and_self]
  all_goals try simp only [zup_zup, zup_same]
  all_goals first | rfl | (refine congrArg some (congrArg Sum.inr (Prod.ext rfl (Prod.ext ?_ (Prod.ext ?_ rfl)))) <;> first | rfl | (funext b; simp only [zup]; (repeat' split) <;> first | rfl | omega | (subst_vars; rfl) | (subst_vars; funext k; simp only [zup]; (repeat' split) <;> first | rfl | omega | (subst_vars; rfl) | (simp_all; done))))
theorem ok_sc_setState (X : Nat × (Nat → Int32)) : zOkS X 71 S_sc_setState 1 := zOkS_new (zOkE_nil X 0) (by
  intro args g o h
  obtain ⟨ar, fi, m1, m2, m3, m4, m5⟩ := g
  unfold S_sc_setState P_sc_setState at h
  split at h
  · refine zb_el h (fun hI0 k0 => ?_) (fun _ h10 => ?_)
    · have h2 := Option.some.inj k0
      have hG := congrArg Prod.fst h2
      have ho := congrArg Prod.snd h2
      dsimp only at hG ho
      subst ho
      try simp only [Bool.and_eq_true] at hI0
      have j0 := hI0
      have e0 := Nat.eq_of_beq_eq_true j0
      subst e0
      exact zseg_ret (e_sc_setState_2 hG)
    · skip
      refine zb_el h10 (fun hI1 k1 => ?_) (fun _ h11 => ?_)
      · have h2 := Option.some.inj k1
        have hG := congrArg Prod.fst h2
        have ho := congrArg Prod.snd h2
        dsimp only at hG ho
        subst ho
        try simp only [Bool.and_eq_true] at hI1
        have j0 := hI1
        have e0 := Nat.eq_of_beq_eq_true j0
        subst e0
        exact zseg_ret (e_sc_setState_9 hG)
      · skip
        refine zb_el h11 (fun hI2 k2 => ?_) (fun _ h12 => ?_)
        · have h2 := Option.some.inj k2
          have hG := congrArg Prod.fst h2
          have ho := congrArg Prod.snd h2
          dsimp only at hG ho
          subst ho
          try simp only [Bool.and_eq_true] at hI2
          have j0 := hI2
          have e0 := Nat.eq_of_beq_eq_true j0
          subst e0
          exact zseg_ret (e_sc_setState_16 hG)
        · cases h12
  · cases h)
def w_sc_draw (p0 : Int32) : Int32 := (((25173 * (p0)) + 13849) &&& 65535) - (((25173 * (p0)) + 13849) &&& 65535) / 10 * 10
def f0_sc_draw (p0 : Int32) : Int32 := ((25173 * (p0)) + 13849) &&& 65535
def P_sc_draw (W : Int32 → Int32) (F0 : Int32 → Int32) : zSp := fun as g => match as with
  | [.ref a] => bif Nat.beq a 2 then some (true, (some (.int (W (g.2.1 2 10))), (g.1, (zup g.2.1 2 (zup (g.2.1 2) 10 (F0 (g.2.1 2 10)))), g.2.2))) else bif Nat.beq a 9 then some (true, (some (.int (W (g.2.1 9 10))), (g.1, (zup g.2.1 9 (zup (g.2.1 9) 10 (F0 (g.2.1 9 10)))), g.2.2))) else bif Nat.beq a 16 then some (true, (some (.int (W (g.2.1 16 10))), (g.1, (zup g.2.1 16 (zup (g.2.1 16) 10 (F0 (g.2.1 16 10)))), g.2.2))) else none
  | _ => none
abbrev S_sc_draw : zSp := P_sc_draw w_sc_draw f0_sc_draw
set_option maxRecDepth 10000 in
theorem t_sc_draw_2 {X : Nat × (Nat → Int32)} {ar fi : Nat → Nat → Int32} {m1 m2 m3 m4 m5 : Nat} : zseg X zFT zE0 zc_72 (fun _ => false) 400 0 [.ref 2] [] (ar, fi, (m1, m2, m3, m4, m5)) = (
  some (.inr (some (.int ((((25173 * (fi 2 10)) + 13849) &&& 65535) - (((25173 * (fi 2 10)) + 13849) &&& 65535) / 10 * 10)), (ar, (zup fi 2 (zup (fi 2) 10 (((25173 * (fi 2 10)) + 13849) &&& 65535))), (m1, m2, m3, m4, m5)))) : Option ((Nat × List Value × List Value × zH2) ⊕ zO2)) := rfl
set_option maxRecDepth 10000 in
theorem e_sc_draw_2 {X : Nat × (Nat → Int32)} {ar fi : Nat → Nat → Int32} {m1 m2 m3 m4 m5 : Nat} : zseg X zFT zE0 zc_72 (fun _ => false) 400 0 [.ref 2] [] (ar, fi, (m1, m2, m3, m4, m5)) = some (.inr (some (.int (w_sc_draw (fi 2 10))), (ar, (zup fi 2 (zup (fi 2) 10 (f0_sc_draw (fi 2 10)))), (m1, m2, m3, m4, m5)))) := by
  rw [t_sc_draw_2]
  unfold w_sc_draw f0_sc_draw
  all_goals first | rfl | (refine congrArg some (congrArg Sum.inr (Prod.ext rfl (Prod.ext ?_ (Prod.ext ?_ rfl)))) <;> first | rfl | (funext b; simp only [zup]; (repeat' split) <;> first | rfl | omega | (subst_vars; rfl) | (subst_vars; funext k; simp only [zup]; (repeat' split) <;> first | rfl | omega | (subst_vars; rfl) | (simp_all; done))))
set_option maxRecDepth 10000 in
theorem t_sc_draw_9 {X : Nat × (Nat → Int32)} {ar fi : Nat → Nat → Int32} {m1 m2 m3 m4 m5 : Nat} : zseg X zFT zE0 zc_72 (fun _ => false) 400 0 [.ref 9] [] (ar, fi, (m1, m2, m3, m4, m5)) = (
  some (.inr (some (.int ((((25173 * (fi 9 10)) + 13849) &&& 65535) - (((25173 * (fi 9 10)) + 13849) &&& 65535) / 10 * 10)), (ar, (zup fi 9 (zup (fi 9) 10 (((25173 * (fi 9 10)) + 13849) &&& 65535))), (m1, m2, m3, m4, m5)))) : Option ((Nat × List Value × List Value × zH2) ⊕ zO2)) := rfl
set_option maxRecDepth 10000 in
theorem e_sc_draw_9 {X : Nat × (Nat → Int32)} {ar fi : Nat → Nat → Int32} {m1 m2 m3 m4 m5 : Nat} : zseg X zFT zE0 zc_72 (fun _ => false) 400 0 [.ref 9] [] (ar, fi, (m1, m2, m3, m4, m5)) = some (.inr (some (.int (w_sc_draw (fi 9 10))), (ar, (zup fi 9 (zup (fi 9) 10 (f0_sc_draw (fi 9 10)))), (m1, m2, m3, m4, m5)))) := by
  rw [t_sc_draw_9]
  unfold w_sc_draw f0_sc_draw
  all_goals first | rfl | (refine congrArg some (congrArg Sum.inr (Prod.ext rfl (Prod.ext ?_ (Prod.ext ?_ rfl)))) <;> first | rfl | (funext b; simp only [zup]; (repeat' split) <;> first | rfl | omega | (subst_vars; rfl) | (subst_vars; funext k; simp only [zup]; (repeat' split) <;> first | rfl | omega | (subst_vars; rfl) | (simp_all; done))))
set_option maxRecDepth 10000 in
theorem t_sc_draw_16 {X : Nat × (Nat → Int32)} {ar fi : Nat → Nat → Int32} {m1 m2 m3 m4 m5 : Nat} : zseg X zFT zE0 zc_72 (fun _ => false) 400 0 [.ref 16] [] (ar, fi, (m1, m2, m3, m4, m5)) = (
  some (.inr (some (.int ((((25173 * (fi 16 10)) + 13849) &&& 65535) - (((25173 * (fi 16 10)) + 13849) &&& 65535) / 10 * 10)), (ar, (zup fi 16 (zup (fi 16) 10 (((25173 * (fi 16 10)) + 13849) &&& 65535))), (m1, m2, m3, m4, m5)))) : Option ((Nat × List Value × List Value × zH2) ⊕ zO2)) := rfl
set_option maxRecDepth 10000 in
theorem e_sc_draw_16 {X : Nat × (Nat → Int32)} {ar fi : Nat → Nat → Int32} {m1 m2 m3 m4 m5 : Nat} : zseg X zFT zE0 zc_72 (fun _ => false) 400 0 [.ref 16] [] (ar, fi, (m1, m2, m3, m4, m5)) = some (.inr (some (.int (w_sc_draw (fi 16 10))), (ar, (zup fi 16 (zup (fi 16) 10 (f0_sc_draw (fi 16 10)))), (m1, m2, m3, m4, m5)))) := by
  rw [t_sc_draw_16]
  unfold w_sc_draw f0_sc_draw
  all_goals first | rfl | (refine congrArg some (congrArg Sum.inr (Prod.ext rfl (Prod.ext ?_ (Prod.ext ?_ rfl)))) <;> first | rfl | (funext b; simp only [zup]; (repeat' split) <;> first | rfl | omega | (subst_vars; rfl) | (subst_vars; funext k; simp only [zup]; (repeat' split) <;> first | rfl | omega | (subst_vars; rfl) | (simp_all; done))))
theorem ok_sc_draw (X : Nat × (Nat → Int32)) : zOkS X 72 S_sc_draw 1 := zOkS_new (zOkE_nil X 0) (by
  intro args g o h
  obtain ⟨ar, fi, m1, m2, m3, m4, m5⟩ := g
  unfold S_sc_draw P_sc_draw at h
  split at h
  · refine zb_el h (fun hI0 k0 => ?_) (fun _ h10 => ?_)
    · have h2 := Option.some.inj k0
      have hG := congrArg Prod.fst h2
      have ho := congrArg Prod.snd h2
      dsimp only at hG ho
      subst ho
      try simp only [Bool.and_eq_true] at hI0
      have j0 := hI0
      have e0 := Nat.eq_of_beq_eq_true j0
      subst e0
      exact zseg_ret (e_sc_draw_2)
    · skip
      refine zb_el h10 (fun hI1 k1 => ?_) (fun _ h11 => ?_)
      · have h2 := Option.some.inj k1
        have hG := congrArg Prod.fst h2
        have ho := congrArg Prod.snd h2
        dsimp only at hG ho
        subst ho
        try simp only [Bool.and_eq_true] at hI1
        have j0 := hI1
        have e0 := Nat.eq_of_beq_eq_true j0
        subst e0
        exact zseg_ret (e_sc_draw_9)
      · skip
        refine zb_el h11 (fun hI2 k2 => ?_) (fun _ h12 => ?_)
        · have h2 := Option.some.inj k2
          have hG := congrArg Prod.fst h2
          have ho := congrArg Prod.snd h2
          dsimp only at hG ho
          subst ho
          try simp only [Bool.and_eq_true] at hI2
          have j0 := hI2
          have e0 := Nat.eq_of_beq_eq_true j0
          subst e0
          exact zseg_ret (e_sc_draw_16)
        · cases h12
  · cases h)
def g_sc_isWholeWood (x : Int32) (p0 : Nat → Int32) (p1 : Nat → Int32) : Bool := (zin x 96) && (bif !decide (p0 (x.toNatClampNeg) = 1) then true else zin x 96)
def w_sc_isWholeWood (x : Int32) (p0 : Nat → Int32) (p1 : Nat → Int32) : Int32 := (bif !decide (p0 (x.toNatClampNeg) = 1) then 0 else (bif !decide (p1 (x.toNatClampNeg) = 0) then 0 else 1))
def P_sc_isWholeWood (G : Int32 → (Nat → Int32) → (Nat → Int32) → Bool) (W : Int32 → (Nat → Int32) → (Nat → Int32) → Int32) : zSp := fun as g => match as with
  | [.ref a, .int x] => bif Nat.beq a 2 then some (G x (g.1 3) (g.1 4), (some (.int (W x (g.1 3) (g.1 4))), (g.1, g.2.1, g.2.2))) else bif Nat.beq a 9 then some (G x (g.1 10) (g.1 11), (some (.int (W x (g.1 10) (g.1 11))), (g.1, g.2.1, g.2.2))) else bif Nat.beq a 16 then some (G x (g.1 17) (g.1 18), (some (.int (W x (g.1 17) (g.1 18))), (g.1, g.2.1, g.2.2))) else none
  | _ => none
abbrev S_sc_isWholeWood : zSp := P_sc_isWholeWood g_sc_isWholeWood w_sc_isWholeWood
set_option maxRecDepth 10000 in
theorem t_sc_isWholeWood_2 {X : Nat × (Nat → Int32)} {ar fi : Nat → Nat → Int32} {m1 m2 m3 m4 m5 : Nat} {x : Int32} : zseg X zFT zE0 zc_73 (fun _ => false) 400 0 [.ref 2, .int x] [] (ar, fi, (m1, m2, m3, m4, m5)) = (
  zg (zin x 96) (
  bif !decide ((ar 3) (x.toNatClampNeg) = 1) then
   some (.inr (some (.int 0), (ar, fi, (m1, m2, m3, m4, m5))))
  else
   zg (zin x 96) (
   bif !decide ((ar 4) (x.toNatClampNeg) = 0) then
    some (.inr (some (.int 0), (ar, fi, (m1, m2, m3, m4, m5))))
   else
    some (.inr (some (.int 1), (ar, fi, (m1, m2, m3, m4, m5)))))) : Option ((Nat × List Value × List Value × zH2) ⊕ zO2)) := by with_unfolding_all rfl
set_option maxRecDepth 10000 in
theorem e_sc_isWholeWood_2 {X : Nat × (Nat → Int32)} {ar fi : Nat → Nat → Int32} {m1 m2 m3 m4 m5 : Nat} {x : Int32} (hG : g_sc_isWholeWood x (ar 3) (ar 4) = true) : zseg X zFT zE0 zc_73 (fun _ => false) 400 0 [.ref 2, .int x] [] (ar, fi, (m1, m2, m3, m4, m5)) = some (.inr (some (.int (w_sc_isWholeWood x (ar 3) (ar 4))), (ar, fi, (m1, m2, m3, m4, m5)))) := by
  rw [t_sc_isWholeWood_2]
  unfold g_sc_isWholeWood at hG
  unfold w_sc_isWholeWood
  cases hc1 : (!decide ((ar 3) (x.toNatClampNeg) = 1)) with
  | true =>
    try simp only [hc1, cond_true, cond_false] at hG ⊢
    all_goals try simp only [Bool.and_eq_true, Bool.true_and, Bool.and_true] at hG
    all_goals try simp only [hG, zg, cond_true, and_self]
    all_goals first | rfl | (refine congrArg some (congrArg Sum.inr (Prod.ext rfl (Prod.ext ?_ (Prod.ext ?_ rfl)))) <;> first | rfl | (funext b; simp only [zup]; (repeat' split) <;> first | rfl | omega | (subst_vars; rfl) | (subst_vars; funext k; simp only [zup]; (repeat' split) <;> first | rfl | omega | (subst_vars; rfl) | (simp_all; done))))
  | false =>
    try simp only [hc1, cond_true, cond_false] at hG ⊢
    cases hc2 : (!decide ((ar 4) (x.toNatClampNeg) = 0)) with
    | true =>
      try simp only [hc2, cond_true, cond_false] at hG ⊢
      all_goals try simp only [Bool.and_eq_true, Bool.true_and, Bool.and_true] at hG
      all_goals try simp only [hG, zg, cond_true, and_self]
      all_goals first | rfl | (refine congrArg some (congrArg Sum.inr (Prod.ext rfl (Prod.ext ?_ (Prod.ext ?_ rfl)))) <;> first | rfl | (funext b; simp only [zup]; (repeat' split) <;> first | rfl | omega | (subst_vars; rfl) | (subst_vars; funext k; simp only [zup]; (repeat' split) <;> first | rfl | omega | (subst_vars; rfl) | (simp_all; done))))
    | false =>
      try simp only [hc2, cond_true, cond_false] at hG ⊢
      all_goals try simp only [Bool.and_eq_true, Bool.true_and, Bool.and_true] at hG
      all_goals try simp only [hG, zg, cond_true, and_self]
      all_goals first | rfl | (refine congrArg some (congrArg Sum.inr (Prod.ext rfl (Prod.ext ?_ (Prod.ext ?_ rfl)))) <;> first | rfl | (funext b; simp only [zup]; (repeat' split) <;> first | rfl | omega | (subst_vars; rfl) | (subst_vars; funext k; simp only [zup]; (repeat' split) <;> first | rfl | omega | (subst_vars; rfl) | (simp_all; done))))
set_option maxRecDepth 10000 in
theorem t_sc_isWholeWood_9 {X : Nat × (Nat → Int32)} {ar fi : Nat → Nat → Int32} {m1 m2 m3 m4 m5 : Nat} {x : Int32} : zseg X zFT zE0 zc_73 (fun _ => false) 400 0 [.ref 9, .int x] [] (ar, fi, (m1, m2, m3, m4, m5)) = (
  zg (zin x 96) (
  bif !decide ((ar 10) (x.toNatClampNeg) = 1) then
   some (.inr (some (.int 0), (ar, fi, (m1, m2, m3, m4, m5))))
  else
   zg (zin x 96) (
   bif !decide ((ar 11) (x.toNatClampNeg) = 0) then
    some (.inr (some (.int 0), (ar, fi, (m1, m2, m3, m4, m5))))
   else
    some (.inr (some (.int 1), (ar, fi, (m1, m2, m3, m4, m5)))))) : Option ((Nat × List Value × List Value × zH2) ⊕ zO2)) := by with_unfolding_all rfl
set_option maxRecDepth 10000 in
theorem e_sc_isWholeWood_9 {X : Nat × (Nat → Int32)} {ar fi : Nat → Nat → Int32} {m1 m2 m3 m4 m5 : Nat} {x : Int32} (hG : g_sc_isWholeWood x (ar 10) (ar 11) = true) : zseg X zFT zE0 zc_73 (fun _ => false) 400 0 [.ref 9, .int x] [] (ar, fi, (m1, m2, m3, m4, m5)) = some (.inr (some (.int (w_sc_isWholeWood x (ar 10) (ar 11))), (ar, fi, (m1, m2, m3, m4, m5)))) := by
  rw [t_sc_isWholeWood_9]
  unfold g_sc_isWholeWood at hG
  unfold w_sc_isWholeWood
  cases hc1 : (!decide ((ar 10) (x.toNatClampNeg) = 1)) with
  | true =>
    try simp only [hc1, cond_true, cond_false] at hG ⊢
    all_goals try simp only [Bool.and_eq_true, Bool.true_and, Bool.and_true] at hG
    all_goals try simp only [hG, zg, cond_true, and_self]
    all_goals first | rfl | (refine congrArg some (congrArg Sum.inr (Prod.ext rfl (Prod.ext ?_ (Prod.ext ?_ rfl)))) <;> first | rfl | (funext b; simp only [zup]; (repeat' split) <;> first | rfl | omega | (subst_vars; rfl) | (subst_vars; funext k; simp only [zup]; (repeat' split) <;> first | rfl | omega | (subst_vars; rfl) | (simp_all; done))))
  | false =>
    try simp only [hc1, cond_true, cond_false] at hG ⊢
    cases hc2 : (!decide ((ar 11) (x.toNatClampNeg) = 0)) with
    | true =>
      try simp only [hc2, cond_true, cond_false] at hG ⊢
      all_goals try simp only [Bool.and_eq_true, Bool.true_and, Bool.and_true] at hG
      all_goals try simp only [hG, zg, cond_true, and_self]
      all_goals first | rfl | (refine congrArg some (congrArg Sum.inr (Prod.ext rfl (Prod.ext ?_ (Prod.ext ?_ rfl)))) <;> first | rfl | (funext b; simp only [zup]; (repeat' split) <;> first | rfl | omega | (subst_vars; rfl) | (subst_vars; funext k; simp only [zup]; (repeat' split) <;> first | rfl | omega | (subst_vars; rfl) | (simp_all; done))))
    | false =>
      try simp only [hc2, cond_true, cond_false] at hG ⊢
      all_goals try simp only [Bool.and_eq_true, Bool.true_and, Bool.and_true] at hG
      all_goals try simp only [hG, zg, cond_true, and_self]
      all_goals first | rfl | (refine congrArg some (congrArg Sum.inr (Prod.ext rfl (Prod.ext ?_ (Prod.ext ?_ rfl)))) <;> first | rfl | (funext b; simp only [zup]; (repeat' split) <;> first | rfl | omega | (subst_vars; rfl) | (subst_vars; funext k; simp only [zup]; (repeat' split) <;> first | rfl | omega | (subst_vars; rfl) | (simp_all; done))))
set_option maxRecDepth 10000 in
theorem t_sc_isWholeWood_16 {X : Nat × (Nat → Int32)} {ar fi : Nat → Nat → Int32} {m1 m2 m3 m4 m5 : Nat} {x : Int32} : zseg X zFT zE0 zc_73 (fun _ => false) 400 0 [.ref 16, .int x] [] (ar, fi, (m1, m2, m3, m4, m5)) = (
  zg (zin x 96) (
  bif !decide ((ar 17) (x.toNatClampNeg) = 1) then
   some (.inr (some (.int 0), (ar, fi, (m1, m2, m3, m4, m5))))
  else
   zg (zin x 96) (
   bif !decide ((ar 18) (x.toNatClampNeg) = 0) then
    some (.inr (some (.int 0), (ar, fi, (m1, m2, m3, m4, m5))))
   else
    some (.inr (some (.int 1), (ar, fi, (m1, m2, m3, m4, m5)))))) : Option ((Nat × List Value × List Value × zH2) ⊕ zO2)) := by with_unfolding_all rfl
set_option maxRecDepth 10000 in
theorem e_sc_isWholeWood_16 {X : Nat × (Nat → Int32)} {ar fi : Nat → Nat → Int32} {m1 m2 m3 m4 m5 : Nat} {x : Int32} (hG : g_sc_isWholeWood x (ar 17) (ar 18) = true) : zseg X zFT zE0 zc_73 (fun _ => false) 400 0 [.ref 16, .int x] [] (ar, fi, (m1, m2, m3, m4, m5)) = some (.inr (some (.int (w_sc_isWholeWood x (ar 17) (ar 18))), (ar, fi, (m1, m2, m3, m4, m5)))) := by
  rw [t_sc_isWholeWood_16]
  unfold g_sc_isWholeWood at hG
  unfold w_sc_isWholeWood
  cases hc1 : (!decide ((ar 17) (x.toNatClampNeg) = 1)) with
  | true =>
    try simp only [hc1, cond_true, cond_false] at hG ⊢
    all_goals try simp only [Bool.and_eq_true, Bool.true_and, Bool.and_true] at hG
    all_goals try simp only [hG, zg, cond_true, and_self]
    all_goals first | rfl | (refine congrArg some (congrArg Sum.inr (Prod.ext rfl (Prod.ext ?_ (Prod.ext ?_ rfl)))) <;> first | rfl | (funext b; simp only [zup]; (repeat' split) <;> first | rfl | omega | (subst_vars; rfl) | (subst_vars; funext k; simp only [zup]; (repeat' split) <;> first | rfl | omega | (subst_vars; rfl) | (simp_all; done))))
  | false =>
    try simp only [hc1, cond_true, cond_false] at hG ⊢
    cases hc2 : (!decide ((ar 18) (x.toNatClampNeg) = 0)) with
    | true =>
      try simp only [hc2, cond_true, cond_false] at hG ⊢
      all_goals try simp only [Bool.and_eq_true, Bool.true_and, Bool.and_true] at hG
      all_goals try simp only [hG, zg, cond_true, and_self]
      all_goals first | rfl | (refine congrArg some (congrArg Sum.inr (Prod.ext rfl (Prod.ext ?_ (Prod.ext ?_ rfl)))) <;> first | rfl | (funext b; simp only [zup]; (repeat' split) <;> first | rfl | omega | (subst_vars; rfl) | (subst_vars; funext k; simp only [zup]; (repeat' split) <;> first | rfl | omega | (subst_vars; rfl) | (simp_all; done))))
    | false =>
      try simp only [hc2, cond_true, cond_false] at hG ⊢
      all_goals try simp only [Bool.and_eq_true, Bool.true_and, Bool.and_true] at hG
      all_goals try simp only [hG, zg, cond_true, and_self]
      all_goals first | rfl | (refine congrArg some (congrArg Sum.inr (Prod.ext rfl (Prod.ext ?_ (Prod.ext ?_ rfl)))) <;> first | rfl | (funext b; simp only [zup]; (repeat' split) <;> first | rfl | omega | (subst_vars; rfl) | (subst_vars; funext k; simp only [zup]; (repeat' split) <;> first | rfl | omega | (subst_vars; rfl) | (simp_all; done))))
theorem ok_sc_isWholeWood (X : Nat × (Nat → Int32)) : zOkS X 73 S_sc_isWholeWood 1 := zOkS_new (zOkE_nil X 0) (by
  intro args g o h
  obtain ⟨ar, fi, m1, m2, m3, m4, m5⟩ := g
  unfold S_sc_isWholeWood P_sc_isWholeWood at h
  split at h
  · refine zb_el h (fun hI0 k0 => ?_) (fun _ h10 => ?_)
    · have h2 := Option.some.inj k0
      have hG := congrArg Prod.fst h2
      have ho := congrArg Prod.snd h2
      dsimp only at hG ho
      subst ho
      try simp only [Bool.and_eq_true] at hI0
      have j0 := hI0
      have e0 := Nat.eq_of_beq_eq_true j0
      subst e0
      exact zseg_ret (e_sc_isWholeWood_2 hG)
    · skip
      refine zb_el h10 (fun hI1 k1 => ?_) (fun _ h11 => ?_)
      · have h2 := Option.some.inj k1
        have hG := congrArg Prod.fst h2
        have ho := congrArg Prod.snd h2
        dsimp only at hG ho
        subst ho
        try simp only [Bool.and_eq_true] at hI1
        have j0 := hI1
        have e0 := Nat.eq_of_beq_eq_true j0
        subst e0
        exact zseg_ret (e_sc_isWholeWood_9 hG)
      · skip
        refine zb_el h11 (fun hI2 k2 => ?_) (fun _ h12 => ?_)
        · have h2 := Option.some.inj k2
          have hG := congrArg Prod.fst h2
          have ho := congrArg Prod.snd h2
          dsimp only at hG ho
          subst ho
          try simp only [Bool.and_eq_true] at hI2
          have j0 := hI2
          have e0 := Nat.eq_of_beq_eq_true j0
          subst e0
          exact zseg_ret (e_sc_isWholeWood_16 hG)
        · cases h12
  · cases h)
def g_sc_isWoodOnFire (x : Int32) (p0 : Nat → Int32) (p1 : Nat → Int32) : Bool := (zin x 96) && (bif !decide (p0 (x.toNatClampNeg) = 1) then true else zin x 96)
def w_sc_isWoodOnFire (x : Int32) (p0 : Nat → Int32) (p1 : Nat → Int32) : Int32 := (bif !decide (p0 (x.toNatClampNeg) = 1) then 0 else (bif decide (p1 (x.toNatClampNeg) = 0) then 0 else 1))
def P_sc_isWoodOnFire (G : Int32 → (Nat → Int32) → (Nat → Int32) → Bool) (W : Int32 → (Nat → Int32) → (Nat → Int32) → Int32) : zSp := fun as g => match as with
  | [.ref a, .int x] => bif Nat.beq a 2 then some (G x (g.1 3) (g.1 4), (some (.int (W x (g.1 3) (g.1 4))), (g.1, g.2.1, g.2.2))) else bif Nat.beq a 9 then some (G x (g.1 10) (g.1 11), (some (.int (W x (g.1 10) (g.1 11))), (g.1, g.2.1, g.2.2))) else bif Nat.beq a 16 then some (G x (g.1 17) (g.1 18), (some (.int (W x (g.1 17) (g.1 18))), (g.1, g.2.1, g.2.2))) else none
  | _ => none
abbrev S_sc_isWoodOnFire : zSp := P_sc_isWoodOnFire g_sc_isWoodOnFire w_sc_isWoodOnFire
set_option maxRecDepth 10000 in
theorem t_sc_isWoodOnFire_2 {X : Nat × (Nat → Int32)} {ar fi : Nat → Nat → Int32} {m1 m2 m3 m4 m5 : Nat} {x : Int32} : zseg X zFT zE0 zc_74 (fun _ => false) 400 0 [.ref 2, .int x] [] (ar, fi, (m1, m2, m3, m4, m5)) = (
  zg (zin x 96) (
  bif !decide ((ar 3) (x.toNatClampNeg) = 1) then
   some (.inr (some (.int 0), (ar, fi, (m1, m2, m3, m4, m5))))
  else
   zg (zin x 96) (
   bif decide ((ar 4) (x.toNatClampNeg) = 0) then
    some (.inr (some (.int 0), (ar, fi, (m1, m2, m3, m4, m5))))
   else
    some (.inr (some (.int 1), (ar, fi, (m1, m2, m3, m4, m5)))))) : Option ((Nat × List Value × List Value × zH2) ⊕ zO2)) := by with_unfolding_all rfl
set_option maxRecDepth 10000 in
theorem e_sc_isWoodOnFire_2 {X : Nat × (Nat → Int32)} {ar fi : Nat → Nat → Int32} {m1 m2 m3 m4 m5 : Nat} {x : Int32} (hG : g_sc_isWoodOnFire x (ar 3) (ar 4) = true) : zseg X zFT zE0 zc_74 (fun _ => false) 400 0 [.ref 2, .int x] [] (ar, fi, (m1, m2, m3, m4, m5)) = some (.inr (some (.int (w_sc_isWoodOnFire x (ar 3) (ar 4))), (ar, fi, (m1, m2, m3, m4, m5)))) := by
  rw [t_sc_isWoodOnFire_2]
  unfold g_sc_isWoodOnFire at hG
  unfold w_sc_isWoodOnFire
  cases hc1 : (!decide ((ar 3) (x.toNatClampNeg) = 1)) with
  | true =>
    try simp only [hc1, cond_true, cond_false] at hG ⊢
    all_goals try simp only [Bool.and_eq_true, Bool.true_and, Bool.and_true] at hG
    all_goals try simp only [hG, zg, cond_true, and_self]
    all_goals first | rfl | (refine congrArg some (congrArg Sum.inr (Prod.ext rfl (Prod.ext ?_ (Prod.ext ?_ rfl)))) <;> first | rfl | (funext b; simp only [zup]; (repeat' split) <;> first | rfl | omega | (subst_vars; rfl) | (subst_vars; funext k; simp only [zup]; (repeat' split) <;> first | rfl | omega | (subst_vars; rfl) | (simp_all; done))))
  | false =>
    try simp only [hc1, cond_true, cond_false] at hG ⊢
    cases hc2 : (decide ((ar 4) (x.toNatClampNeg) = 0)) with
    | true =>
      try simp only [hc2, cond_true, cond_false] at hG ⊢
      all_goals try simp only [Bool.and_eq_true, Bool.true_and, Bool.and_true] at hG
      all_goals try simp only [hG, zg, cond_true, and_self]
      all_goals first | rfl | (refine congrArg some (congrArg Sum.inr (Prod.ext rfl (Prod.ext ?_ (Prod.ext ?_ rfl)))) <;> first | rfl | (funext b; simp only [zup]; (repeat' split) <;> first | rfl | omega | (subst_vars; rfl) | (subst_vars; funext k; simp only [zup]; (repeat' split) <;> first | rfl | omega | (subst_vars; rfl) | (simp_all; done))))
    | false =>
      try simp only [hc2, cond_true, cond_false] at hG ⊢
      all_goals try simp only [Bool.and_eq_true, Bool.true_and, Bool.and_true] at hG
      all_goals try simp only [hG, zg, cond_true, and_self]
      all_goals first | rfl | (refine congrArg some (congrArg Sum.inr (Prod.ext rfl (Prod.ext ?_ (Prod.ext ?_ rfl)))) <;> first | rfl | (funext b; simp only [zup]; (repeat' split) <;> first | rfl | omega | (subst_vars; rfl) | (subst_vars; funext k; simp only [zup]; (repeat' split) <;> first | rfl | omega | (subst_vars; rfl) | (simp_all; done))))
set_option maxRecDepth 10000 in
theorem t_sc_isWoodOnFire_9 {X : Nat × (Nat → Int32)} {ar fi : Nat → Nat → Int32} {m1 m2 m3 m4 m5 : Nat} {x : Int32} : zseg X zFT zE0 zc_74 (fun _ => false) 400 0 [.ref 9, .int x] [] (ar, fi, (m1, m2, m3, m4, m5)) = (
  zg (zin x 96) (
  bif !decide ((ar 10) (x.toNatClampNeg) = 1) then
   some (.inr (some (.int 0), (ar, fi, (m1, m2, m3, m4, m5))))
  else
   zg (zin x 96) (
   bif decide ((ar 11) (x.toNatClampNeg) = 0) then
    some (.inr (some (.int 0), (ar, fi, (m1, m2, m3, m4, m5))))
   else
    some (.inr (some (.int 1), (ar, fi, (m1, m2, m3, m4, m5)))))) : Option ((Nat × List Value × List Value × zH2) ⊕ zO2)) := by with_unfolding_all rfl
set_option maxRecDepth 10000 in
theorem e_sc_isWoodOnFire_9 {X : Nat × (Nat → Int32)} {ar fi : Nat → Nat → Int32} {m1 m2 m3 m4 m5 : Nat} {x : Int32} (hG : g_sc_isWoodOnFire x (ar 10) (ar 11) = true) : zseg X zFT zE0 zc_74 (fun _ => false) 400 0 [.ref 9, .int x] [] (ar, fi, (m1, m2, m3, m4, m5)) = some (.inr (some (.int (w_sc_isWoodOnFire x (ar 10) (ar 11))), (ar, fi, (m1, m2, m3, m4, m5)))) := by
  rw [t_sc_isWoodOnFire_9]
  unfold g_sc_isWoodOnFire at hG
  unfold w_sc_isWoodOnFire
  cases hc1 : (!decide ((ar 10) (x.toNatClampNeg) = 1)) with
  | true =>
    try simp only [hc1, cond_true, cond_false] at hG ⊢
    all_goals try simp only [Bool.and_eq_true, Bool.true_and, Bool.and_true] at hG
    all_goals try simp only [hG, zg, cond_true, and_self]
    all_goals first | rfl | (refine congrArg some (congrArg Sum.inr (Prod.ext rfl (Prod.ext ?_ (Prod.ext ?_ rfl)))) <;> first | rfl | (funext b; simp only [zup]; (repeat' split) <;> first | rfl | omega | (subst_vars; rfl) | (subst_vars; funext k; simp only [zup]; (repeat' split) <;> first | rfl | omega | (subst_vars; rfl) | (simp_all; done))))
  | false =>
    try simp only [hc1, cond_true, cond_false] at hG ⊢
    cases hc2 : (decide ((ar 11) (x.toNatClampNeg) = 0)) with
    | true =>
      try simp only [hc2, cond_true, cond_false] at hG ⊢
      all_goals try simp only [Bool.and_eq_true, Bool.true_and, Bool.and_true] at hG
      all_goals try simp only [hG, zg, cond_true, and_self]
      all_goals first | rfl | (refine congrArg some (congrArg Sum.inr (Prod.ext rfl (Prod.ext ?_ (Prod.ext ?_ rfl)))) <;> first | rfl | (funext b; simp only [zup]; (repeat' split) <;> first | rfl | omega | (subst_vars; rfl) | (subst_vars; funext k; simp only [zup]; (repeat' split) <;> first | rfl | omega | (subst_vars; rfl) | (simp_all; done))))
    | false =>
      try simp only [hc2, cond_true, cond_false] at hG ⊢
      all_goals try simp only [Bool.and_eq_true, Bool.true_and, Bool.and_true] at hG
      all_goals try simp only [hG, zg, cond_true, and_self]
      all_goals first | rfl | (refine congrArg some (congrArg Sum.inr (Prod.ext rfl (Prod.ext ?_ (Prod.ext ?_ rfl)))) <;> first | rfl | (funext b; simp only [zup]; (repeat' split) <;> first | rfl | omega | (subst_vars; rfl) | (subst_vars; funext k; simp only [zup]; (repeat' split) <;> first | rfl | omega | (subst_vars; rfl) | (simp_all; done))))
set_option maxRecDepth 10000 in
theorem t_sc_isWoodOnFire_16 {X : Nat × (Nat → Int32)} {ar fi : Nat → Nat → Int32} {m1 m2 m3 m4 m5 : Nat} {x : Int32} : zseg X zFT zE0 zc_74 (fun _ => false) 400 0 [.ref 16, .int x] [] (ar, fi, (m1, m2, m3, m4, m5)) = (
  zg (zin x 96) (
  bif !decide ((ar 17) (x.toNatClampNeg) = 1) then
   some (.inr (some (.int 0), (ar, fi, (m1, m2, m3, m4, m5))))
  else
   zg (zin x 96) (
   bif decide ((ar 18) (x.toNatClampNeg) = 0) then
    some (.inr (some (.int 0), (ar, fi, (m1, m2, m3, m4, m5))))
   else
    some (.inr (some (.int 1), (ar, fi, (m1, m2, m3, m4, m5)))))) : Option ((Nat × List Value × List Value × zH2) ⊕ zO2)) := by with_unfolding_all rfl
set_option maxRecDepth 10000 in
theorem e_sc_isWoodOnFire_16 {X : Nat × (Nat → Int32)} {ar fi : Nat → Nat → Int32} {m1 m2 m3 m4 m5 : Nat} {x : Int32} (hG : g_sc_isWoodOnFire x (ar 17) (ar 18) = true) : zseg X zFT zE0 zc_74 (fun _ => false) 400 0 [.ref 16, .int x] [] (ar, fi, (m1, m2, m3, m4, m5)) = some (.inr (some (.int (w_sc_isWoodOnFire x (ar 17) (ar 18))), (ar, fi, (m1, m2, m3, m4, m5)))) := by
  rw [t_sc_isWoodOnFire_16]
  unfold g_sc_isWoodOnFire at hG
  unfold w_sc_isWoodOnFire
  cases hc1 : (!decide ((ar 17) (x.toNatClampNeg) = 1)) with
  | true =>
    try simp only [hc1, cond_true, cond_false] at hG ⊢
    all_goals try simp only [Bool.and_eq_true, Bool.true_and, Bool.and_true] at hG
    all_goals try simp only [hG, zg, cond_true, and_self]
    all_goals first | rfl | (refine congrArg some (congrArg Sum.inr (Prod.ext rfl (Prod.ext ?_ (Prod.ext ?_ rfl)))) <;> first | rfl | (funext b; simp only [zup]; (repeat' split) <;> first | rfl | omega | (subst_vars; rfl) | (subst_vars; funext k; simp only [zup]; (repeat' split) <;> first | rfl | omega | (subst_vars; rfl) | (simp_all; done))))
  | false =>
    try simp only [hc1, cond_true, cond_false] at hG ⊢
    cases hc2 : (decide ((ar 18) (x.toNatClampNeg) = 0)) with
    | true =>
      try simp only [hc2, cond_true, cond_false] at hG ⊢
      all_goals try simp only [Bool.and_eq_true, Bool.true_and, Bool.and_true] at hG
      all_goals try simp only [hG, zg, cond_true, and_self]
      all_goals first | rfl | (refine congrArg some (congrArg Sum.inr (Prod.ext rfl (Prod.ext ?_ (Prod.ext ?_ rfl)))) <;> first | rfl | (funext b; simp only [zup]; (repeat' split) <;> first | rfl | omega | (subst_vars; rfl) | (subst_vars; funext k; simp only [zup]; (repeat' split) <;> first | rfl | omega | (subst_vars; rfl) | (simp_all; done))))
    | false =>
      try simp only [hc2, cond_true, cond_false] at hG ⊢
      all_goals try simp only [Bool.and_eq_true, Bool.true_and, Bool.and_true] at hG
      all_goals try simp only [hG, zg, cond_true, and_self]
      all_goals first | rfl | (refine congrArg some (congrArg Sum.inr (Prod.ext rfl (Prod.ext ?_ (Prod.ext ?_ rfl)))) <;> first | rfl | (funext b; simp only [zup]; (repeat' split) <;> first | rfl | omega | (subst_vars; rfl) | (subst_vars; funext k; simp only [zup]; (repeat' split) <;> first | rfl | omega | (subst_vars; rfl) | (simp_all; done))))
theorem ok_sc_isWoodOnFire (X : Nat × (Nat → Int32)) : zOkS X 74 S_sc_isWoodOnFire 1 := zOkS_new (zOkE_nil X 0) (by
  intro args g o h
  obtain ⟨ar, fi, m1, m2, m3, m4, m5⟩ := g
  unfold S_sc_isWoodOnFire P_sc_isWoodOnFire at h
  split at h
  · refine zb_el h (fun hI0 k0 => ?_) (fun _ h10 => ?_)
    · have h2 := Option.some.inj k0
      have hG := congrArg Prod.fst h2
      have ho := congrArg Prod.snd h2
      dsimp only at hG ho
      subst ho
      try simp only [Bool.and_eq_true] at hI0
      have j0 := hI0
      have e0 := Nat.eq_of_beq_eq_true j0
      subst e0
      exact zseg_ret (e_sc_isWoodOnFire_2 hG)
    · skip
      refine zb_el h10 (fun hI1 k1 => ?_) (fun _ h11 => ?_)
      · have h2 := Option.some.inj k1
        have hG := congrArg Prod.fst h2
        have ho := congrArg Prod.snd h2
        dsimp only at hG ho
        subst ho
        try simp only [Bool.and_eq_true] at hI1
        have j0 := hI1
        have e0 := Nat.eq_of_beq_eq_true j0
        subst e0
        exact zseg_ret (e_sc_isWoodOnFire_9 hG)
      · skip
        refine zb_el h11 (fun hI2 k2 => ?_) (fun _ h12 => ?_)
        · have h2 := Option.some.inj k2
          have hG := congrArg Prod.fst h2
          have ho := congrArg Prod.snd h2
          dsimp only at hG ho
          subst ho
          try simp only [Bool.and_eq_true] at hI2
          have j0 := hI2
          have e0 := Nat.eq_of_beq_eq_true j0
          subst e0
          exact zseg_ret (e_sc_isWoodOnFire_16 hG)
        · cases h12
  · cases h)
def w_sc_isTold (x : Int32) (p0 : Int32) : Int32 := (bif decide (((Int32.toUInt32 (p0) >>> (Int32.toUInt32 x &&& Int32.toUInt32 31)).toInt32) &&& 1 = 0) then 0 else 1)
def P_sc_isTold (W : Int32 → Int32 → Int32) : zSp := fun as g => match as with
  | [.ref a, .int x] => bif Nat.beq a 2 then some (true, (some (.int (W x (g.2.1 2 6))), (g.1, g.2.1, g.2.2))) else bif Nat.beq a 9 then some (true, (some (.int (W x (g.2.1 9 6))), (g.1, g.2.1, g.2.2))) else bif Nat.beq a 16 then some (true, (some (.int (W x (g.2.1 16 6))), (g.1, g.2.1, g.2.2))) else none
  | _ => none
abbrev S_sc_isTold : zSp := P_sc_isTold w_sc_isTold
set_option maxRecDepth 10000 in
theorem t_sc_isTold_2 {X : Nat × (Nat → Int32)} {ar fi : Nat → Nat → Int32} {m1 m2 m3 m4 m5 : Nat} {x : Int32} : zseg X zFT zE0 zc_78 (fun _ => false) 400 0 [.ref 2, .int x] [] (ar, fi, (m1, m2, m3, m4, m5)) = (
  bif decide (((Int32.toUInt32 (fi 2 6) >>> (Int32.toUInt32 x &&& Int32.toUInt32 31)).toInt32) &&& 1 = 0) then
   some (.inr (some (.int 0), (ar, fi, (m1, m2, m3, m4, m5))))
  else
   some (.inr (some (.int 1), (ar, fi, (m1, m2, m3, m4, m5)))) : Option ((Nat × List Value × List Value × zH2) ⊕ zO2)) := by with_unfolding_all rfl
set_option maxRecDepth 10000 in
theorem e_sc_isTold_2 {X : Nat × (Nat → Int32)} {ar fi : Nat → Nat → Int32} {m1 m2 m3 m4 m5 : Nat} {x : Int32} : zseg X zFT zE0 zc_78 (fun _ => false) 400 0 [.ref 2, .int x] [] (ar, fi, (m1, m2, m3, m4, m5)) = some (.inr (some (.int (w_sc_isTold x (fi 2 6))), (ar, fi, (m1, m2, m3, m4, m5)))) := by
  rw [t_sc_isTold_2]
  unfold w_sc_isTold
  cases hc1 : (decide (((Int32.toUInt32 (fi 2 6) >>> (Int32.toUInt32 x &&& Int32.toUInt32 31)).toInt32) &&& 1 = 0)) with
  | true =>
    try simp only [hc1, cond_true, cond_false]
    all_goals first | rfl | (refine congrArg some (congrArg Sum.inr (Prod.ext rfl (Prod.ext ?_ (Prod.ext ?_ rfl)))) <;> first | rfl | (funext b; simp only [zup]; (repeat' split) <;> first | rfl | omega | (subst_vars; rfl) | (subst_vars; funext k; simp only [zup]; (repeat' split) <;> first | rfl | omega | (subst_vars; rfl) | (simp_all; done))))
  | false =>
    try simp only [hc1, cond_true, cond_false]
    all_goals first | rfl | (refine congrArg some (congrArg Sum.inr (Prod.ext rfl (Prod.ext ?_ (Prod.ext ?_ rfl)))) <;> first | rfl | (funext b; simp only [zup]; (repeat' split) <;> first | rfl | omega | (subst_vars; rfl) | (subst_vars; funext k; simp only [zup]; (repeat' split) <;> first | rfl | omega | (subst_vars; rfl) | (simp_all; done))))
set_option maxRecDepth 10000 in
theorem t_sc_isTold_9 {X : Nat × (Nat → Int32)} {ar fi : Nat → Nat → Int32} {m1 m2 m3 m4 m5 : Nat} {x : Int32} : zseg X zFT zE0 zc_78 (fun _ => false) 400 0 [.ref 9, .int x] [] (ar, fi, (m1, m2, m3, m4, m5)) = (
  bif decide (((Int32.toUInt32 (fi 9 6) >>> (Int32.toUInt32 x &&& Int32.toUInt32 31)).toInt32) &&& 1 = 0) then
   some (.inr (some (.int 0), (ar, fi, (m1, m2, m3, m4, m5))))
  else
   some (.inr (some (.int 1), (ar, fi, (m1, m2, m3, m4, m5)))) : Option ((Nat × List Value × List Value × zH2) ⊕ zO2)) := by with_unfolding_all rfl
set_option maxRecDepth 10000 in
theorem e_sc_isTold_9 {X : Nat × (Nat → Int32)} {ar fi : Nat → Nat → Int32} {m1 m2 m3 m4 m5 : Nat} {x : Int32} : zseg X zFT zE0 zc_78 (fun _ => false) 400 0 [.ref 9, .int x] [] (ar, fi, (m1, m2, m3, m4, m5)) = some (.inr (some (.int (w_sc_isTold x (fi 9 6))), (ar, fi, (m1, m2, m3, m4, m5)))) := by
  rw [t_sc_isTold_9]
  unfold w_sc_isTold
  cases hc1 : (decide (((Int32.toUInt32 (fi 9 6) >>> (Int32.toUInt32 x &&& Int32.toUInt32 31)).toInt32) &&& 1 = 0)) with
  | true =>
    try simp only [hc1, cond_true, cond_false]
    all_goals first | rfl | (refine congrArg some (congrArg Sum.inr (Prod.ext rfl (Prod.ext ?_ (Prod.ext ?_ rfl)))) <;> first | rfl | (funext b; simp only [zup]; (repeat' split) <;> first | rfl | omega | (subst_vars; rfl) | (subst_vars; funext k; simp only [zup]; (repeat' split) <;> first | rfl | omega | (subst_vars; rfl) | (simp_all; done))))
  | false =>
    try simp only [hc1, cond_true, cond_false]
    all_goals first | rfl | (refine congrArg some (congrArg Sum.inr (Prod.ext rfl (Prod.ext ?_ (Prod.ext ?_ rfl)))) <;> first | rfl | (funext b; simp only [zup]; (repeat' split) <;> first | rfl | omega | (subst_vars; rfl) | (subst_vars; funext k; simp only [zup]; (repeat' split) <;> first | rfl | omega | (subst_vars; rfl) | (simp_all; done))))
set_option maxRecDepth 10000 in
theorem t_sc_isTold_16 {X : Nat × (Nat → Int32)} {ar fi : Nat → Nat → Int32} {m1 m2 m3 m4 m5 : Nat} {x : Int32} : zseg X zFT zE0 zc_78 (fun _ => false) 400 0 [.ref 16, .int x] [] (ar, fi, (m1, m2, m3, m4, m5)) = (
  bif decide (((Int32.toUInt32 (fi 16 6) >>> (Int32.toUInt32 x &&& Int32.toUInt32 31)).toInt32) &&& 1 = 0) then
   some (.inr (some (.int 0), (ar, fi, (m1, m2, m3, m4, m5))))
  else
   some (.inr (some (.int 1), (ar, fi, (m1, m2, m3, m4, m5)))) : Option ((Nat × List Value × List Value × zH2) ⊕ zO2)) := by with_unfolding_all rfl
set_option maxRecDepth 10000 in
theorem e_sc_isTold_16 {X : Nat × (Nat → Int32)} {ar fi : Nat → Nat → Int32} {m1 m2 m3 m4 m5 : Nat} {x : Int32} : zseg X zFT zE0 zc_78 (fun _ => false) 400 0 [.ref 16, .int x] [] (ar, fi, (m1, m2, m3, m4, m5)) = some (.inr (some (.int (w_sc_isTold x (fi 16 6))), (ar, fi, (m1, m2, m3, m4, m5)))) := by
  rw [t_sc_isTold_16]
  unfold w_sc_isTold
  cases hc1 : (decide (((Int32.toUInt32 (fi 16 6) >>> (Int32.toUInt32 x &&& Int32.toUInt32 31)).toInt32) &&& 1 = 0)) with
  | true =>
    try simp only [hc1, cond_true, cond_false]
    all_goals first | rfl | (refine congrArg some (congrArg Sum.inr (Prod.ext rfl (Prod.ext ?_ (Prod.ext ?_ rfl)))) <;> first | rfl | (funext b; simp only [zup]; (repeat' split) <;> first | rfl | omega | (subst_vars; rfl) | (subst_vars; funext k; simp only [zup]; (repeat' split) <;> first | rfl | omega | (subst_vars; rfl) | (simp_all; done))))
  | false =>
    try simp only [hc1, cond_true, cond_false]
    all_goals first | rfl | (refine congrArg some (congrArg Sum.inr (Prod.ext rfl (Prod.ext ?_ (Prod.ext ?_ rfl)))) <;> first | rfl | (funext b; simp only [zup]; (repeat' split) <;> first | rfl | omega | (subst_vars; rfl) | (subst_vars; funext k; simp only [zup]; (repeat' split) <;> first | rfl | omega | (subst_vars; rfl) | (simp_all; done))))
theorem ok_sc_isTold (X : Nat × (Nat → Int32)) : zOkS X 78 S_sc_isTold 1 := zOkS_new (zOkE_nil X 0) (by
  intro args g o h
  obtain ⟨ar, fi, m1, m2, m3, m4, m5⟩ := g
  unfold S_sc_isTold P_sc_isTold at h
  split at h
  · refine zb_el h (fun hI0 k0 => ?_) (fun _ h10 => ?_)
    · have h2 := Option.some.inj k0
      have hG := congrArg Prod.fst h2
      have ho := congrArg Prod.snd h2
      dsimp only at hG ho
      subst ho
      try simp only [Bool.and_eq_true] at hI0
      have j0 := hI0
      have e0 := Nat.eq_of_beq_eq_true j0
      subst e0
      exact zseg_ret (e_sc_isTold_2)
    · skip
      refine zb_el h10 (fun hI1 k1 => ?_) (fun _ h11 => ?_)
      · have h2 := Option.some.inj k1
        have hG := congrArg Prod.fst h2
        have ho := congrArg Prod.snd h2
        dsimp only at hG ho
        subst ho
        try simp only [Bool.and_eq_true] at hI1
        have j0 := hI1
        have e0 := Nat.eq_of_beq_eq_true j0
        subst e0
        exact zseg_ret (e_sc_isTold_9)
      · skip
        refine zb_el h11 (fun hI2 k2 => ?_) (fun _ h12 => ?_)
        · have h2 := Option.some.inj k2
          have hG := congrArg Prod.fst h2
          have ho := congrArg Prod.snd h2
          dsimp only at hG ho
          subst ho
          try simp only [Bool.and_eq_true] at hI2
          have j0 := hI2
          have e0 := Nat.eq_of_beq_eq_true j0
          subst e0
          exact zseg_ret (e_sc_isTold_16)
        · cases h12
  · cases h)
def w_sc_isGone (x : Int32) (p0 : Int32) : Int32 := (bif decide (((Int32.toUInt32 (p0) >>> (Int32.toUInt32 x &&& Int32.toUInt32 31)).toInt32) &&& 1 = 0) then 0 else 1)
def P_sc_isGone (W : Int32 → Int32 → Int32) : zSp := fun as g => match as with
  | [.ref a, .int x] => bif Nat.beq a 2 then some (true, (some (.int (W x (g.2.1 2 7))), (g.1, g.2.1, g.2.2))) else bif Nat.beq a 9 then some (true, (some (.int (W x (g.2.1 9 7))), (g.1, g.2.1, g.2.2))) else bif Nat.beq a 16 then some (true, (some (.int (W x (g.2.1 16 7))), (g.1, g.2.1, g.2.2))) else none
  | _ => none
abbrev S_sc_isGone : zSp := P_sc_isGone w_sc_isGone
set_option maxRecDepth 10000 in
theorem t_sc_isGone_2 {X : Nat × (Nat → Int32)} {ar fi : Nat → Nat → Int32} {m1 m2 m3 m4 m5 : Nat} {x : Int32} : zseg X zFT zE0 zc_79 (fun _ => false) 400 0 [.ref 2, .int x] [] (ar, fi, (m1, m2, m3, m4, m5)) = (
  bif decide (((Int32.toUInt32 (fi 2 7) >>> (Int32.toUInt32 x &&& Int32.toUInt32 31)).toInt32) &&& 1 = 0) then
   some (.inr (some (.int 0), (ar, fi, (m1, m2, m3, m4, m5))))
  else
   some (.inr (some (.int 1), (ar, fi, (m1, m2, m3, m4, m5)))) : Option ((Nat × List Value × List Value × zH2) ⊕ zO2)) := by with_unfolding_all rfl
set_option maxRecDepth 10000 in
theorem e_sc_isGone_2 {X : Nat × (Nat → Int32)} {ar fi : Nat → Nat → Int32} {m1 m2 m3 m4 m5 : Nat} {x : Int32} : zseg X zFT zE0 zc_79 (fun _ => false) 400 0 [.ref 2, .int x] [] (ar, fi, (m1, m2, m3, m4, m5)) = some (.inr (some (.int (w_sc_isGone x (fi 2 7))), (ar, fi, (m1, m2, m3, m4, m5)))) := by
  rw [t_sc_isGone_2]
  unfold w_sc_isGone
  cases hc1 : (decide (((Int32.toUInt32 (fi 2 7) >>> (Int32.toUInt32 x &&& Int32.toUInt32 31)).toInt32) &&& 1 = 0)) with
  | true =>
    try simp only [hc1, cond_true, cond_false]
    all_goals first | rfl | (refine congrArg some (congrArg Sum.inr (Prod.ext rfl (Prod.ext ?_ (Prod.ext ?_ rfl)))) <;> first | rfl | (funext b; simp only [zup]; (repeat' split) <;> first | rfl | omega | (subst_vars; rfl) | (subst_vars; funext k; simp only [zup]; (repeat' split) <;> first | rfl | omega | (subst_vars; rfl) | (simp_all; done))))
  | false =>
    try simp only [hc1, cond_true, cond_false]
    all_goals first | rfl | (refine congrArg some (congrArg Sum.inr (Prod.ext rfl (Prod.ext ?_ (Prod.ext ?_ rfl)))) <;> first | rfl | (funext b; simp only [zup]; (repeat' split) <;> first | rfl | omega | (subst_vars; rfl) | (subst_vars; funext k; simp only [zup]; (repeat' split) <;> first | rfl | omega | (subst_vars; rfl) | (simp_all; done))))
set_option maxRecDepth 10000 in
theorem t_sc_isGone_9 {X : Nat × (Nat → Int32)} {ar fi : Nat → Nat → Int32} {m1 m2 m3 m4 m5 : Nat} {x : Int32} : zseg X zFT zE0 zc_79 (fun _ => false) 400 0 [.ref 9, .int x] [] (ar, fi, (m1, m2, m3, m4, m5)) = (
  bif decide (((Int32.toUInt32 (fi 9 7) >>> (Int32.toUInt32 x &&& Int32.toUInt32 31)).toInt32) &&& 1 = 0) then
   some (.inr (some (.int 0), (ar, fi, (m1, m2, m3, m4, m5))))
  else
   some (.inr (some (.int 1), (ar, fi, (m1, m2, m3, m4, m5)))) : Option ((Nat × List Value × List Value × zH2) ⊕ zO2)) := by with_unfolding_all rfl
set_option maxRecDepth 10000 in
theorem e_sc_isGone_9 {X : Nat × (Nat → Int32)} {ar fi : Nat → Nat → Int32} {m1 m2 m3 m4 m5 : Nat} {x : Int32} : zseg X zFT zE0 zc_79 (fun _ => false) 400 0 [.ref 9, .int x] [] (ar, fi, (m1, m2, m3, m4, m5)) = some (.inr (some (.int (w_sc_isGone x (fi 9 7))), (ar, fi, (m1, m2, m3, m4, m5)))) := by
  rw [t_sc_isGone_9]
  unfold w_sc_isGone
  cases hc1 : (decide (((Int32.toUInt32 (fi 9 7) >>> (Int32.toUInt32 x &&& Int32.toUInt32 31)).toInt32) &&& 1 = 0)) with
  | true =>
    try simp only [hc1, cond_true, cond_false]
    all_goals first | rfl | (refine congrArg some (congrArg Sum.inr (Prod.ext rfl (Prod.ext ?_ (Prod.ext ?_ rfl)))) <;> first | rfl | (funext b; simp only [zup]; (repeat' split) <;> first | rfl | omega | (subst_vars; rfl) | (subst_vars; funext k; simp only [zup]; (repeat' split) <;> first | rfl | omega | (subst_vars; rfl) | (simp_all; done))))
  | false =>
    try simp only [hc1, cond_true, cond_false]
    all_goals first | rfl | (refine congrArg some (congrArg Sum.inr (Prod.ext rfl (Prod.ext ?_ (Prod.ext ?_ rfl)))) <;> first | rfl | (funext b; simp only [zup]; (repeat' split) <;> first | rfl | omega | (subst_vars; rfl) | (subst_vars; funext k; simp only [zup]; (repeat' split) <;> first | rfl | omega | (subst_vars; rfl) | (simp_all; done))))
set_option maxRecDepth 10000 in
theorem t_sc_isGone_16 {X : Nat × (Nat → Int32)} {ar fi : Nat → Nat → Int32} {m1 m2 m3 m4 m5 : Nat} {x : Int32} : zseg X zFT zE0 zc_79 (fun _ => false) 400 0 [.ref 16, .int x] [] (ar, fi, (m1, m2, m3, m4, m5)) = (
  bif decide (((Int32.toUInt32 (fi 16 7) >>> (Int32.toUInt32 x &&& Int32.toUInt32 31)).toInt32) &&& 1 = 0) then
   some (.inr (some (.int 0), (ar, fi, (m1, m2, m3, m4, m5))))
  else
   some (.inr (some (.int 1), (ar, fi, (m1, m2, m3, m4, m5)))) : Option ((Nat × List Value × List Value × zH2) ⊕ zO2)) := by with_unfolding_all rfl
set_option maxRecDepth 10000 in
theorem e_sc_isGone_16 {X : Nat × (Nat → Int32)} {ar fi : Nat → Nat → Int32} {m1 m2 m3 m4 m5 : Nat} {x : Int32} : zseg X zFT zE0 zc_79 (fun _ => false) 400 0 [.ref 16, .int x] [] (ar, fi, (m1, m2, m3, m4, m5)) = some (.inr (some (.int (w_sc_isGone x (fi 16 7))), (ar, fi, (m1, m2, m3, m4, m5)))) := by
  rw [t_sc_isGone_16]
  unfold w_sc_isGone
  cases hc1 : (decide (((Int32.toUInt32 (fi 16 7) >>> (Int32.toUInt32 x &&& Int32.toUInt32 31)).toInt32) &&& 1 = 0)) with
  | true =>
    try simp only [hc1, cond_true, cond_false]
    all_goals first | rfl | (refine congrArg some (congrArg Sum.inr (Prod.ext rfl (Prod.ext ?_ (Prod.ext ?_ rfl)))) <;> first | rfl | (funext b; simp only [zup]; (repeat' split) <;> first | rfl | omega | (subst_vars; rfl) | (subst_vars; funext k; simp only [zup]; (repeat' split) <;> first | rfl | omega | (subst_vars; rfl) | (simp_all; done))))
  | false =>
    try simp only [hc1, cond_true, cond_false]
    all_goals first | rfl | (refine congrArg some (congrArg Sum.inr (Prod.ext rfl (Prod.ext ?_ (Prod.ext ?_ rfl)))) <;> first | rfl | (funext b; simp only [zup]; (repeat' split) <;> first | rfl | omega | (subst_vars; rfl) | (subst_vars; funext k; simp only [zup]; (repeat' split) <;> first | rfl | omega | (subst_vars; rfl) | (simp_all; done))))
theorem ok_sc_isGone (X : Nat × (Nat → Int32)) : zOkS X 79 S_sc_isGone 1 := zOkS_new (zOkE_nil X 0) (by
  intro args g o h
  obtain ⟨ar, fi, m1, m2, m3, m4, m5⟩ := g
  unfold S_sc_isGone P_sc_isGone at h
  split at h
  · refine zb_el h (fun hI0 k0 => ?_) (fun _ h10 => ?_)
    · have h2 := Option.some.inj k0
      have hG := congrArg Prod.fst h2
      have ho := congrArg Prod.snd h2
      dsimp only at hG ho
      subst ho
      try simp only [Bool.and_eq_true] at hI0
      have j0 := hI0
      have e0 := Nat.eq_of_beq_eq_true j0
      subst e0
      exact zseg_ret (e_sc_isGone_2)
    · skip
      refine zb_el h10 (fun hI1 k1 => ?_) (fun _ h11 => ?_)
      · have h2 := Option.some.inj k1
        have hG := congrArg Prod.fst h2
        have ho := congrArg Prod.snd h2
        dsimp only at hG ho
        subst ho
        try simp only [Bool.and_eq_true] at hI1
        have j0 := hI1
        have e0 := Nat.eq_of_beq_eq_true j0
        subst e0
        exact zseg_ret (e_sc_isGone_9)
      · skip
        refine zb_el h11 (fun hI2 k2 => ?_) (fun _ h12 => ?_)
        · have h2 := Option.some.inj k2
          have hG := congrArg Prod.fst h2
          have ho := congrArg Prod.snd h2
          dsimp only at hG ho
          subst ho
          try simp only [Bool.and_eq_true] at hI2
          have j0 := hI2
          have e0 := Nat.eq_of_beq_eq_true j0
          subst e0
          exact zseg_ret (e_sc_isGone_16)
        · cases h12
  · cases h)
def g_sc_paidFor (x : Int32) (p0 : Nat → Int32) (p1 : Nat → Int32) : Bool := (zin x 24) && ((zin x 24) && (bif decide (p0 (x.toNatClampNeg) ≤ p1 (x.toNatClampNeg)) then true else bif decide (0 < p0 (x.toNatClampNeg)) then !decide ((p0 (x.toNatClampNeg)) = 0) else true))
def w_sc_paidFor (x : Int32) (p0 : Nat → Int32) (p1 : Nat → Int32) : Int32 := (bif decide (p0 (x.toNatClampNeg) ≤ p1 (x.toNatClampNeg)) then p0 (x.toNatClampNeg) else (bif decide (0 < p0 (x.toNatClampNeg)) then ((p1 (x.toNatClampNeg)) * (p1 (x.toNatClampNeg))) / (p0 (x.toNatClampNeg)) else p0 (x.toNatClampNeg)))
def P_sc_paidFor (G : Int32 → (Nat → Int32) → (Nat → Int32) → Bool) (W : Int32 → (Nat → Int32) → (Nat → Int32) → Int32) : zSp := fun as g => match as with
  | [.ref a, .int x] => bif Nat.beq a 2 then some (G x (g.1 7) (g.1 8), (some (.int (W x (g.1 7) (g.1 8))), (g.1, g.2.1, g.2.2))) else bif Nat.beq a 9 then some (G x (g.1 14) (g.1 15), (some (.int (W x (g.1 14) (g.1 15))), (g.1, g.2.1, g.2.2))) else bif Nat.beq a 16 then some (G x (g.1 21) (g.1 22), (some (.int (W x (g.1 21) (g.1 22))), (g.1, g.2.1, g.2.2))) else none
  | _ => none
abbrev S_sc_paidFor : zSp := P_sc_paidFor g_sc_paidFor w_sc_paidFor
set_option maxRecDepth 10000 in
theorem t_sc_paidFor_2 {X : Nat × (Nat → Int32)} {ar fi : Nat → Nat → Int32} {m1 m2 m3 m4 m5 : Nat} {x : Int32} : zseg X zFT zE0 zc_87 (fun _ => false) 400 0 [.ref 2, .int x] [] (ar, fi, (m1, m2, m3, m4, m5)) = (
  zg (zin x 24) (
  zg (zin x 24) (
  bif decide ((ar 7) (x.toNatClampNeg) ≤ (ar 8) (x.toNatClampNeg)) then
   some (.inr (some (.int ((ar 7) (x.toNatClampNeg))), (ar, fi, (m1, m2, m3, m4, m5))))
  else
   bif decide (0 < (ar 7) (x.toNatClampNeg)) then
    zg (!decide (((ar 7) (x.toNatClampNeg)) = 0)) (
    some (.inr (some (.int ((((ar 8) (x.toNatClampNeg)) * ((ar 8) (x.toNatClampNeg))) / ((ar 7) (x.toNatClampNeg)))), (ar, fi, (m1, m2, m3, m4, m5)))))
   else
    some (.inr (some (.int ((ar 7) (x.toNatClampNeg))), (ar, fi, (m1, m2, m3, m4, m5)))))) : Option ((Nat × List Value × List Value × zH2) ⊕ zO2)) := rfl
set_option maxRecDepth 10000 in
theorem e_sc_paidFor_2 {X : Nat × (Nat → Int32)} {ar fi : Nat → Nat → Int32} {m1 m2 m3 m4 m5 : Nat} {x : Int32} (hG : g_sc_paidFor x (ar 7) (ar 8) = true) : zseg X zFT zE0 zc_87 (fun _ => false) 400 0 [.ref 2, .int x] [] (ar, fi, (m1, m2, m3, m4, m5)) = some (.inr (some (.int (w_sc_paidFor x (ar 7) (ar 8))), (ar, fi, (m1, m2, m3, m4, m5)))) := by
  rw [t_sc_paidFor_2]
  unfold g_sc_paidFor at hG
  unfold w_sc_paidFor
  cases hc1 : (decide ((ar 7) (x.toNatClampNeg) ≤ (ar 8) (x.toNatClampNeg))) with
  | true =>
    try simp only [hc1, cond_true, cond_false] at hG ⊢
    all_goals try simp only [Bool.and_eq_true, Bool.true_and, Bool.and_true] at hG
    all_goals try simp only [hG, zg, cond_true, and_self]
    all_goals first | rfl | (refine congrArg some (congrArg Sum.inr (Prod.ext rfl (Prod.ext ?_ (Prod.ext ?_ rfl)))) <;> first | rfl | (funext b; simp only [zup]; (repeat' split) <;> first | rfl | omega | (subst_vars; rfl) | (subst_vars; funext k; simp only [zup]; (repeat' split) <;> first | rfl | omega | (subst_vars; rfl) | (simp_all; done))))
  | false =>
    try simp only [hc1, cond_true, cond_false] at hG ⊢
    cases hc2 : (decide (0 < (ar 7) (x.toNatClampNeg))) with
    | true =>
      try simp only [hc2, cond_true, cond_false] at hG ⊢
      all_goals try simp only [Bool.and_eq_true, Bool.true_and, Bool.and_true] at hG
      all_goals try simp only [hG, zg, cond_true, and_self]
      all_goals first | rfl | (refine congrArg some (congrArg Sum.inr (Prod.ext rfl (Prod.ext ?_ (Prod.ext ?_ rfl)))) <;> first | rfl | (funext b; simp only [zup]; (repeat' split) <;> first | rfl | omega | (subst_vars; rfl) | (subst_vars; funext k; simp only [zup]; (repeat' split) <;> first | rfl | omega | (subst_vars; rfl) | (simp_all; done))))
    | false =>
      try simp only [hc2, cond_true, cond_false] at hG ⊢
      all_goals try simp only [Bool.and_eq_true, Bool.true_and, Bool.and_true] at hG
      all_goals try simp only [hG, zg, cond_true, and_self]
      all_goals first | rfl | (refine congrArg some (congrArg Sum.inr (Prod.ext rfl (Prod.ext ?_ (Prod.ext ?_ rfl)))) <;> first | rfl | (funext b; simp only [zup]; (repeat' split) <;> first | rfl | omega | (subst_vars; rfl) | (subst_vars; funext k; simp only [zup]; (repeat' split) <;> first | rfl | omega | (subst_vars; rfl) | (simp_all; done))))
set_option maxRecDepth 10000 in
theorem t_sc_paidFor_9 {X : Nat × (Nat → Int32)} {ar fi : Nat → Nat → Int32} {m1 m2 m3 m4 m5 : Nat} {x : Int32} : zseg X zFT zE0 zc_87 (fun _ => false) 400 0 [.ref 9, .int x] [] (ar, fi, (m1, m2, m3, m4, m5)) = (
  zg (zin x 24) (
  zg (zin x 24) (
  bif decide ((ar 14) (x.toNatClampNeg) ≤ (ar 15) (x.toNatClampNeg)) then
   some (.inr (some (.int ((ar 14) (x.toNatClampNeg))), (ar, fi, (m1, m2, m3, m4, m5))))
  else
   bif decide (0 < (ar 14) (x.toNatClampNeg)) then
    zg (!decide (((ar 14) (x.toNatClampNeg)) = 0)) (
    some (.inr (some (.int ((((ar 15) (x.toNatClampNeg)) * ((ar 15) (x.toNatClampNeg))) / ((ar 14) (x.toNatClampNeg)))), (ar, fi, (m1, m2, m3, m4, m5)))))
   else
    some (.inr (some (.int ((ar 14) (x.toNatClampNeg))), (ar, fi, (m1, m2, m3, m4, m5)))))) : Option ((Nat × List Value × List Value × zH2) ⊕ zO2)) := rfl
set_option maxRecDepth 10000 in
theorem e_sc_paidFor_9 {X : Nat × (Nat → Int32)} {ar fi : Nat → Nat → Int32} {m1 m2 m3 m4 m5 : Nat} {x : Int32} (hG : g_sc_paidFor x (ar 14) (ar 15) = true) : zseg X zFT zE0 zc_87 (fun _ => false) 400 0 [.ref 9, .int x] [] (ar, fi, (m1, m2, m3, m4, m5)) = some (.inr (some (.int (w_sc_paidFor x (ar 14) (ar 15))), (ar, fi, (m1, m2, m3, m4, m5)))) := by
  rw [t_sc_paidFor_9]
  unfold g_sc_paidFor at hG
  unfold w_sc_paidFor
  cases hc1 : (decide ((ar 14) (x.toNatClampNeg) ≤ (ar 15) (x.toNatClampNeg))) with
  | true =>
    try simp only [hc1, cond_true, cond_false] at hG ⊢
    all_goals try simp only [Bool.and_eq_true, Bool.true_and, Bool.and_true] at hG
    all_goals try simp only [hG, zg, cond_true, and_self]
    all_goals first | rfl | (refine congrArg some (congrArg Sum.inr (Prod.ext rfl (Prod.ext ?_ (Prod.ext ?_ rfl)))) <;> first | rfl | (funext b; simp only [zup]; (repeat' split) <;> first | rfl | omega | (subst_vars; rfl) | (subst_vars; funext k; simp only [zup]; (repeat' split) <;> first | rfl | omega | (subst_vars; rfl) | (simp_all; done))))
  | false =>
    try simp only [hc1, cond_true, cond_false] at hG ⊢
    cases hc2 : (decide (0 < (ar 14) (x.toNatClampNeg))) with
    | true =>
      try simp only [hc2, cond_true, cond_false] at hG ⊢
      all_goals try simp only [Bool.and_eq_true, Bool.true_and, Bool.and_true] at hG
      all_goals try simp only [hG, zg, cond_true, and_self]
      all_goals first | rfl | (refine congrArg some (congrArg Sum.inr (Prod.ext rfl (Prod.ext ?_ (Prod.ext ?_ rfl)))) <;> first | rfl | (funext b; simp only [zup]; (repeat' split) <;> first | rfl | omega | (subst_vars; rfl) | (subst_vars; funext k; simp only [zup]; (repeat' split) <;> first | rfl | omega | (subst_vars; rfl) | (simp_all; done))))
    | false =>
      try simp only [hc2, cond_true, cond_false] at hG ⊢
      all_goals try simp only [Bool.and_eq_true, Bool.true_and, Bool.and_true] at hG
      all_goals try simp only [hG, zg, cond_true, and_self]
      all_goals first | rfl | (refine congrArg some (congrArg Sum.inr (Prod.ext rfl (Prod.ext ?_ (Prod.ext ?_ rfl)))) <;> first | rfl | (funext b; simp only [zup]; (repeat' split) <;> first | rfl | omega | (subst_vars; rfl) | (subst_vars; funext k; simp only [zup]; (repeat' split) <;> first | rfl | omega | (subst_vars; rfl) | (simp_all; done))))
set_option maxRecDepth 10000 in
theorem t_sc_paidFor_16 {X : Nat × (Nat → Int32)} {ar fi : Nat → Nat → Int32} {m1 m2 m3 m4 m5 : Nat} {x : Int32} : zseg X zFT zE0 zc_87 (fun _ => false) 400 0 [.ref 16, .int x] [] (ar, fi, (m1, m2, m3, m4, m5)) = (
  zg (zin x 24) (
  zg (zin x 24) (
  bif decide ((ar 21) (x.toNatClampNeg) ≤ (ar 22) (x.toNatClampNeg)) then
   some (.inr (some (.int ((ar 21) (x.toNatClampNeg))), (ar, fi, (m1, m2, m3, m4, m5))))
  else
   bif decide (0 < (ar 21) (x.toNatClampNeg)) then
    zg (!decide (((ar 21) (x.toNatClampNeg)) = 0)) (
    some (.inr (some (.int ((((ar 22) (x.toNatClampNeg)) * ((ar 22) (x.toNatClampNeg))) / ((ar 21) (x.toNatClampNeg)))), (ar, fi, (m1, m2, m3, m4, m5)))))
   else
    some (.inr (some (.int ((ar 21) (x.toNatClampNeg))), (ar, fi, (m1, m2, m3, m4, m5)))))) : Option ((Nat × List Value × List Value × zH2) ⊕ zO2)) := rfl
set_option maxRecDepth 10000 in
theorem e_sc_paidFor_16 {X : Nat × (Nat → Int32)} {ar fi : Nat → Nat → Int32} {m1 m2 m3 m4 m5 : Nat} {x : Int32} (hG : g_sc_paidFor x (ar 21) (ar 22) = true) : zseg X zFT zE0 zc_87 (fun _ => false) 400 0 [.ref 16, .int x] [] (ar, fi, (m1, m2, m3, m4, m5)) = some (.inr (some (.int (w_sc_paidFor x (ar 21) (ar 22))), (ar, fi, (m1, m2, m3, m4, m5)))) := by
  rw [t_sc_paidFor_16]
  unfold g_sc_paidFor at hG
  unfold w_sc_paidFor
  cases hc1 : (decide ((ar 21) (x.toNatClampNeg) ≤ (ar 22) (x.toNatClampNeg))) with
  | true =>
    try simp only [hc1, cond_true, cond_false] at hG ⊢
    all_goals try simp only [Bool.and_eq_true, Bool.true_and, Bool.and_true] at hG
    all_goals try simp only [hG, zg, cond_true, and_self]
    all_goals first | rfl | (refine congrArg some (congrArg Sum.inr (Prod.ext rfl (Prod.ext ?_ (Prod.ext ?_ rfl)))) <;> first | rfl | (funext b; simp only [zup]; (repeat' split) <;> first | rfl | omega | (subst_vars; rfl) | (subst_vars; funext k; simp only [zup]; (repeat' split) <;> first | rfl | omega | (subst_vars; rfl) | (simp_all; done))))
  | false =>
    try simp only [hc1, cond_true, cond_false] at hG ⊢
    cases hc2 : (decide (0 < (ar 21) (x.toNatClampNeg))) with
    | true =>
      try simp only [hc2, cond_true, cond_false] at hG ⊢
      all_goals try simp only [Bool.and_eq_true, Bool.true_and, Bool.and_true] at hG
      all_goals try simp only [hG, zg, cond_true, and_self]
      all_goals first | rfl | (refine congrArg some (congrArg Sum.inr (Prod.ext rfl (Prod.ext ?_ (Prod.ext ?_ rfl)))) <;> first | rfl | (funext b; simp only [zup]; (repeat' split) <;> first | rfl | omega | (subst_vars; rfl) | (subst_vars; funext k; simp only [zup]; (repeat' split) <;> first | rfl | omega | (subst_vars; rfl) | (simp_all; done))))
    | false =>
      try simp only [hc2, cond_true, cond_false] at hG ⊢
      all_goals try simp only [Bool.and_eq_true, Bool.true_and, Bool.and_true] at hG
      all_goals try simp only [hG, zg, cond_true, and_self]
      all_goals first | rfl | (refine congrArg some (congrArg Sum.inr (Prod.ext rfl (Prod.ext ?_ (Prod.ext ?_ rfl)))) <;> first | rfl | (funext b; simp only [zup]; (repeat' split) <;> first | rfl | omega | (subst_vars; rfl) | (subst_vars; funext k; simp only [zup]; (repeat' split) <;> first | rfl | omega | (subst_vars; rfl) | (simp_all; done))))
theorem ok_sc_paidFor (X : Nat × (Nat → Int32)) : zOkS X 87 S_sc_paidFor 1 := zOkS_new (zOkE_nil X 0) (by
  intro args g o h
  obtain ⟨ar, fi, m1, m2, m3, m4, m5⟩ := g
  unfold S_sc_paidFor P_sc_paidFor at h
  split at h
  · refine zb_el h (fun hI0 k0 => ?_) (fun _ h10 => ?_)
    · have h2 := Option.some.inj k0
      have hG := congrArg Prod.fst h2
      have ho := congrArg Prod.snd h2
      dsimp only at hG ho
      subst ho
      try simp only [Bool.and_eq_true] at hI0
      have j0 := hI0
      have e0 := Nat.eq_of_beq_eq_true j0
      subst e0
      exact zseg_ret (e_sc_paidFor_2 hG)
    · skip
      refine zb_el h10 (fun hI1 k1 => ?_) (fun _ h11 => ?_)
      · have h2 := Option.some.inj k1
        have hG := congrArg Prod.fst h2
        have ho := congrArg Prod.snd h2
        dsimp only at hG ho
        subst ho
        try simp only [Bool.and_eq_true] at hI1
        have j0 := hI1
        have e0 := Nat.eq_of_beq_eq_true j0
        subst e0
        exact zseg_ret (e_sc_paidFor_9 hG)
      · skip
        refine zb_el h11 (fun hI2 k2 => ?_) (fun _ h12 => ?_)
        · have h2 := Option.some.inj k2
          have hG := congrArg Prod.fst h2
          have ho := congrArg Prod.snd h2
          dsimp only at hG ho
          subst ho
          try simp only [Bool.and_eq_true] at hI2
          have j0 := hI2
          have e0 := Nat.eq_of_beq_eq_true j0
          subst e0
          exact zseg_ret (e_sc_paidFor_16 hG)
        · cases h12
  · cases h)
def w_tx_isGood (p0 : Int32) : Int32 := (bif !decide (p0 = 0) then 0 else 1)
def P_tx_isGood (W : Int32 → Int32) : zSp := fun as g => match as with
  | [.ref a] => bif Nat.beq a 40 && Nat.beq g.2.2.2.2.1 1 then some (true, (some (.int (W (g.2.1 40 2))), (g.1, g.2.1, g.2.2))) else bif Nat.beq a 44 && Nat.beq g.2.2.2.2.2.1 1 then some (true, (some (.int (W (g.2.1 44 2))), (g.1, g.2.1, g.2.2))) else bif Nat.beq a 47 && Nat.beq g.2.2.2.2.2.2 1 then some (true, (some (.int (W (g.2.1 47 2))), (g.1, g.2.1, g.2.2))) else none
  | _ => none
abbrev S_tx_isGood : zSp := P_tx_isGood w_tx_isGood
set_option maxRecDepth 10000 in
theorem t_tx_isGood_40 {X : Nat × (Nat → Int32)} {ar fi : Nat → Nat → Int32} {m1 m2 m4 m5 : Nat} : zseg X zFT zE0 zc_91 (fun _ => false) 400 0 [.ref 40] [] (ar, fi, (m1, m2, 1, m4, m5)) = (
  bif !decide (fi 40 2 = 0) then
   some (.inr (some (.int 0), (ar, fi, (m1, m2, 1, m4, m5))))
  else
   some (.inr (some (.int 1), (ar, fi, (m1, m2, 1, m4, m5)))) : Option ((Nat × List Value × List Value × zH2) ⊕ zO2)) := by with_unfolding_all rfl
set_option maxRecDepth 10000 in
theorem e_tx_isGood_40 {X : Nat × (Nat → Int32)} {ar fi : Nat → Nat → Int32} {m1 m2 m4 m5 : Nat} : zseg X zFT zE0 zc_91 (fun _ => false) 400 0 [.ref 40] [] (ar, fi, (m1, m2, 1, m4, m5)) = some (.inr (some (.int (w_tx_isGood (fi 40 2))), (ar, fi, (m1, m2, 1, m4, m5)))) := by
  rw [t_tx_isGood_40]
  unfold w_tx_isGood
  cases hc1 : (!decide (fi 40 2 = 0)) with
  | true =>
    try simp only [hc1, cond_true, cond_false]
    all_goals first | rfl | (refine congrArg some (congrArg Sum.inr (Prod.ext rfl (Prod.ext ?_ (Prod.ext ?_ rfl)))) <;> first | rfl | (funext b; simp only [zup]; (repeat' split) <;> first | rfl | omega | (subst_vars; rfl) | (subst_vars; funext k; simp only [zup]; (repeat' split) <;> first | rfl | omega | (subst_vars; rfl) | (simp_all; done))))
  | false =>
    try simp only [hc1, cond_true, cond_false]
    all_goals first | rfl | (refine congrArg some (congrArg Sum.inr (Prod.ext rfl (Prod.ext ?_ (Prod.ext ?_ rfl)))) <;> first | rfl | (funext b; simp only [zup]; (repeat' split) <;> first | rfl | omega | (subst_vars; rfl) | (subst_vars; funext k; simp only [zup]; (repeat' split) <;> first | rfl | omega | (subst_vars; rfl) | (simp_all; done))))
set_option maxRecDepth 10000 in
theorem t_tx_isGood_44 {X : Nat × (Nat → Int32)} {ar fi : Nat → Nat → Int32} {m1 m2 m3 m5 : Nat} : zseg X zFT zE0 zc_91 (fun _ => false) 400 0 [.ref 44] [] (ar, fi, (m1, m2, m3, 1, m5)) = (
  bif !decide (fi 44 2 = 0) then
   some (.inr (some (.int 0), (ar, fi, (m1, m2, m3, 1, m5))))
  else
   some (.inr (some (.int 1), (ar, fi, (m1, m2, m3, 1, m5)))) : Option ((Nat × List Value × List Value × zH2) ⊕ zO2)) := by with_unfolding_all rfl
set_option maxRecDepth 10000 in
theorem e_tx_isGood_44 {X : Nat × (Nat → Int32)} {ar fi : Nat → Nat → Int32} {m1 m2 m3 m5 : Nat} : zseg X zFT zE0 zc_91 (fun _ => false) 400 0 [.ref 44] [] (ar, fi, (m1, m2, m3, 1, m5)) = some (.inr (some (.int (w_tx_isGood (fi 44 2))), (ar, fi, (m1, m2, m3, 1, m5)))) := by
  rw [t_tx_isGood_44]
  unfold w_tx_isGood
  cases hc1 : (!decide (fi 44 2 = 0)) with
  | true =>
    try simp only [hc1, cond_true, cond_false]
    all_goals first | rfl | (refine congrArg some (congrArg Sum.inr (Prod.ext rfl (Prod.ext ?_ (Prod.ext ?_ rfl)))) <;> first | rfl | (funext b; simp only [zup]; (repeat' split) <;> first | rfl | omega | (subst_vars; rfl) | (subst_vars; funext k; simp only [zup]; (repeat' split) <;> first | rfl | omega | (subst_vars; rfl) | (simp_all; done))))
  | false =>
    try simp only [hc1, cond_true, cond_false]
    all_goals first | rfl | (refine congrArg some (congrArg Sum.inr (Prod.ext rfl (Prod.ext ?_ (Prod.ext ?_ rfl)))) <;> first | rfl | (funext b; simp only [zup]; (repeat' split) <;> first | rfl | omega | (subst_vars; rfl) | (subst_vars; funext k; simp only [zup]; (repeat' split) <;> first | rfl | omega | (subst_vars; rfl) | (simp_all; done))))
set_option maxRecDepth 10000 in
theorem t_tx_isGood_47 {X : Nat × (Nat → Int32)} {ar fi : Nat → Nat → Int32} {m1 m2 m3 m4 : Nat} : zseg X zFT zE0 zc_91 (fun _ => false) 400 0 [.ref 47] [] (ar, fi, (m1, m2, m3, m4, 1)) = (
  bif !decide (fi 47 2 = 0) then
   some (.inr (some (.int 0), (ar, fi, (m1, m2, m3, m4, 1))))
  else
   some (.inr (some (.int 1), (ar, fi, (m1, m2, m3, m4, 1)))) : Option ((Nat × List Value × List Value × zH2) ⊕ zO2)) := by with_unfolding_all rfl
set_option maxRecDepth 10000 in
theorem e_tx_isGood_47 {X : Nat × (Nat → Int32)} {ar fi : Nat → Nat → Int32} {m1 m2 m3 m4 : Nat} : zseg X zFT zE0 zc_91 (fun _ => false) 400 0 [.ref 47] [] (ar, fi, (m1, m2, m3, m4, 1)) = some (.inr (some (.int (w_tx_isGood (fi 47 2))), (ar, fi, (m1, m2, m3, m4, 1)))) := by
  rw [t_tx_isGood_47]
  unfold w_tx_isGood
  cases hc1 : (!decide (fi 47 2 = 0)) with
  | true =>
    try simp only [hc1, cond_true, cond_false]
    all_goals first | rfl | (refine congrArg some (congrArg Sum.inr (Prod.ext rfl (Prod.ext ?_ (Prod.ext ?_ rfl)))) <;> first | rfl | (funext b; simp only [zup]; (repeat' split) <;> first | rfl | omega | (subst_vars; rfl) | (subst_vars; funext k; simp only [zup]; (repeat' split) <;> first | rfl | omega | (subst_vars; rfl) | (simp_all; done))))
  | false =>
    try simp only [hc1, cond_true, cond_false]
    all_goals first | rfl | (refine congrArg some (congrArg Sum.inr (Prod.ext rfl (Prod.ext ?_ (Prod.ext ?_ rfl)))) <;> first | rfl | (funext b; simp only [zup]; (repeat' split) <;> first | rfl | omega | (subst_vars; rfl) | (subst_vars; funext k; simp only [zup]; (repeat' split) <;> first | rfl | omega | (subst_vars; rfl) | (simp_all; done))))
theorem ok_tx_isGood (X : Nat × (Nat → Int32)) : zOkS X 91 S_tx_isGood 1 := zOkS_new (zOkE_nil X 0) (by
  intro args g o h
  obtain ⟨ar, fi, m1, m2, m3, m4, m5⟩ := g
  unfold S_tx_isGood P_tx_isGood at h
  split at h
  · refine zb_el h (fun hI0 k0 => ?_) (fun _ h10 => ?_)
    · have h2 := Option.some.inj k0
      have hG := congrArg Prod.fst h2
      have ho := congrArg Prod.snd h2
      dsimp only at hG ho
      subst ho
      try simp only [Bool.and_eq_true] at hI0
      obtain ⟨j0, j1⟩ := hI0
      have e0 := Nat.eq_of_beq_eq_true j0
      subst e0
      have e9 : m3 = 1 := Nat.eq_of_beq_eq_true j1
      subst e9
      exact zseg_ret (e_tx_isGood_40)
    · skip
      refine zb_el h10 (fun hI1 k1 => ?_) (fun _ h11 => ?_)
      · have h2 := Option.some.inj k1
        have hG := congrArg Prod.fst h2
        have ho := congrArg Prod.snd h2
        dsimp only at hG ho
        subst ho
        try simp only [Bool.and_eq_true] at hI1
        obtain ⟨j0, j1⟩ := hI1
        have e0 := Nat.eq_of_beq_eq_true j0
        subst e0
        have e9 : m4 = 1 := Nat.eq_of_beq_eq_true j1
        subst e9
        exact zseg_ret (e_tx_isGood_44)
      · skip
        refine zb_el h11 (fun hI2 k2 => ?_) (fun _ h12 => ?_)
        · have h2 := Option.some.inj k2
          have hG := congrArg Prod.fst h2
          have ho := congrArg Prod.snd h2
          dsimp only at hG ho
          subst ho
          try simp only [Bool.and_eq_true] at hI2
          obtain ⟨j0, j1⟩ := hI2
          have e0 := Nat.eq_of_beq_eq_true j0
          subst e0
          have e9 : m5 = 1 := Nat.eq_of_beq_eq_true j1
          subst e9
          exact zseg_ret (e_tx_isGood_47)
        · cases h12
  · cases h)
def w_tx_isAtEnd (p0 : Int32) (p1 : Int32) : Int32 := (bif decide (p0 < p1) then 0 else 1)
def P_tx_isAtEnd (W : Int32 → Int32 → Int32) : zSp := fun as g => match as with
  | [.ref a] => bif Nat.beq a 40 && Nat.beq g.2.2.2.2.1 1 then some (true, (some (.int (W (g.2.1 40 4) (g.2.1 40 1))), (g.1, g.2.1, g.2.2))) else bif Nat.beq a 44 && Nat.beq g.2.2.2.2.2.1 1 then some (true, (some (.int (W (g.2.1 44 4) (g.2.1 44 1))), (g.1, g.2.1, g.2.2))) else bif Nat.beq a 47 && Nat.beq g.2.2.2.2.2.2 1 then some (true, (some (.int (W (g.2.1 47 4) (g.2.1 47 1))), (g.1, g.2.1, g.2.2))) else none
  | _ => none
abbrev S_tx_isAtEnd : zSp := P_tx_isAtEnd w_tx_isAtEnd
set_option maxRecDepth 10000 in
theorem t_tx_isAtEnd_40 {X : Nat × (Nat → Int32)} {ar fi : Nat → Nat → Int32} {m1 m2 m4 m5 : Nat} : zseg X zFT zE0 zc_92 (fun _ => false) 400 0 [.ref 40] [] (ar, fi, (m1, m2, 1, m4, m5)) = (
  bif decide (fi 40 4 < fi 40 1) then
   some (.inr (some (.int 0), (ar, fi, (m1, m2, 1, m4, m5))))
  else
   some (.inr (some (.int 1), (ar, fi, (m1, m2, 1, m4, m5)))) : Option ((Nat × List Value × List Value × zH2) ⊕ zO2)) := by with_unfolding_all rfl
set_option maxRecDepth 10000 in
theorem e_tx_isAtEnd_40 {X : Nat × (Nat → Int32)} {ar fi : Nat → Nat → Int32} {m1 m2 m4 m5 : Nat} : zseg X zFT zE0 zc_92 (fun _ => false) 400 0 [.ref 40] [] (ar, fi, (m1, m2, 1, m4, m5)) = some (.inr (some (.int (w_tx_isAtEnd (fi 40 4) (fi 40 1))), (ar, fi, (m1, m2, 1, m4, m5)))) := by
  rw [t_tx_isAtEnd_40]
  unfold w_tx_isAtEnd
  cases hc1 : (decide (fi 40 4 < fi 40 1)) with
  | true =>
    try simp only [hc1, cond_true, cond_false]
    all_goals first | rfl | (refine congrArg some (congrArg Sum.inr (Prod.ext rfl (Prod.ext ?_ (Prod.ext ?_ rfl)))) <;> first | rfl | (funext b; simp only [zup]; (repeat' split) <;> first | rfl | omega | (subst_vars; rfl) | (subst_vars; funext k; simp only [zup]; (repeat' split) <;> first | rfl | omega | (subst_vars; rfl) | (simp_all; done))))
  | false =>
    try simp only [hc1, cond_true, cond_false]
    all_goals first | rfl | (refine congrArg some (congrArg Sum.inr (Prod.ext rfl (Prod.ext ?_ (Prod.ext ?_ rfl)))) <;> first | rfl | (funext b; simp only [zup]; (repeat' split) <;> first | rfl | omega | (subst_vars; rfl) | (subst_vars; funext k; simp only [zup]; (repeat' split) <;> first | rfl | omega | (subst_vars; rfl) | (simp_all; done))))
set_option maxRecDepth 10000 in
theorem t_tx_isAtEnd_44 {X : Nat × (Nat → Int32)} {ar fi : Nat → Nat → Int32} {m1 m2 m3 m5 : Nat} : zseg X zFT zE0 zc_92 (fun _ => false) 400 0 [.ref 44] [] (ar, fi, (m1, m2, m3, 1, m5)) = (
  bif decide (fi 44 4 < fi 44 1) then
   some (.inr (some (.int 0), (ar, fi, (m1, m2, m3, 1, m5))))
  else
   some (.inr (some (.int 1), (ar, fi, (m1, m2, m3, 1, m5)))) : Option ((Nat × List Value × List Value × zH2) ⊕ zO2)) := by with_unfolding_all rfl
set_option maxRecDepth 10000 in
theorem e_tx_isAtEnd_44 {X : Nat × (Nat → Int32)} {ar fi : Nat → Nat → Int32} {m1 m2 m3 m5 : Nat} : zseg X zFT zE0 zc_92 (fun _ => false) 400 0 [.ref 44] [] (ar, fi, (m1, m2, m3, 1, m5)) = some (.inr (some (.int (w_tx_isAtEnd (fi 44 4) (fi 44 1))), (ar, fi, (m1, m2, m3, 1, m5)))) := by
  rw [t_tx_isAtEnd_44]
  unfold w_tx_isAtEnd
  cases hc1 : (decide (fi 44 4 < fi 44 1)) with
  | true =>
    try simp only [hc1, cond_true, cond_false]
    all_goals first | rfl | (refine congrArg some (congrArg Sum.inr (Prod.ext rfl (Prod.ext ?_ (Prod.ext ?_ rfl)))) <;> first | rfl | (funext b; simp only [zup]; (repeat' split) <;> first | rfl | omega | (subst_vars; rfl) | (subst_vars; funext k; simp only [zup]; (repeat' split) <;> first | rfl | omega | (subst_vars; rfl) | (simp_all; done))))
  | false =>
    try simp only [hc1, cond_true, cond_false]
    all_goals first | rfl | (refine congrArg some (congrArg Sum.inr (Prod.ext rfl (Prod.ext ?_ (Prod.ext ?_ rfl)))) <;> first | rfl | (funext b; simp only [zup]; (repeat' split) <;> first | rfl | omega | (subst_vars; rfl) | (subst_vars; funext k; simp only [zup]; (repeat' split) <;> first | rfl | omega | (subst_vars; rfl) | (simp_all; done))))
set_option maxRecDepth 10000 in
theorem t_tx_isAtEnd_47 {X : Nat × (Nat → Int32)} {ar fi : Nat → Nat → Int32} {m1 m2 m3 m4 : Nat} : zseg X zFT zE0 zc_92 (fun _ => false) 400 0 [.ref 47] [] (ar, fi, (m1, m2, m3, m4, 1)) = (
  bif decide (fi 47 4 < fi 47 1) then
   some (.inr (some (.int 0), (ar, fi, (m1, m2, m3, m4, 1))))
  else
   some (.inr (some (.int 1), (ar, fi, (m1, m2, m3, m4, 1)))) : Option ((Nat × List Value × List Value × zH2) ⊕ zO2)) := by with_unfolding_all rfl
set_option maxRecDepth 10000 in
theorem e_tx_isAtEnd_47 {X : Nat × (Nat → Int32)} {ar fi : Nat → Nat → Int32} {m1 m2 m3 m4 : Nat} : zseg X zFT zE0 zc_92 (fun _ => false) 400 0 [.ref 47] [] (ar, fi, (m1, m2, m3, m4, 1)) = some (.inr (some (.int (w_tx_isAtEnd (fi 47 4) (fi 47 1))), (ar, fi, (m1, m2, m3, m4, 1)))) := by
  rw [t_tx_isAtEnd_47]
  unfold w_tx_isAtEnd
  cases hc1 : (decide (fi 47 4 < fi 47 1)) with
  | true =>
    try simp only [hc1, cond_true, cond_false]
    all_goals first | rfl | (refine congrArg some (congrArg Sum.inr (Prod.ext rfl (Prod.ext ?_ (Prod.ext ?_ rfl)))) <;> first | rfl | (funext b; simp only [zup]; (repeat' split) <;> first | rfl | omega | (subst_vars; rfl) | (subst_vars; funext k; simp only [zup]; (repeat' split) <;> first | rfl | omega | (subst_vars; rfl) | (simp_all; done))))
  | false =>
    try simp only [hc1, cond_true, cond_false]
    all_goals first | rfl | (refine congrArg some (congrArg Sum.inr (Prod.ext rfl (Prod.ext ?_ (Prod.ext ?_ rfl)))) <;> first | rfl | (funext b; simp only [zup]; (repeat' split) <;> first | rfl | omega | (subst_vars; rfl) | (subst_vars; funext k; simp only [zup]; (repeat' split) <;> first | rfl | omega | (subst_vars; rfl) | (simp_all; done))))
theorem ok_tx_isAtEnd (X : Nat × (Nat → Int32)) : zOkS X 92 S_tx_isAtEnd 1 := zOkS_new (zOkE_nil X 0) (by
  intro args g o h
  obtain ⟨ar, fi, m1, m2, m3, m4, m5⟩ := g
  unfold S_tx_isAtEnd P_tx_isAtEnd at h
  split at h
  · refine zb_el h (fun hI0 k0 => ?_) (fun _ h10 => ?_)
    · have h2 := Option.some.inj k0
      have hG := congrArg Prod.fst h2
      have ho := congrArg Prod.snd h2
      dsimp only at hG ho
      subst ho
      try simp only [Bool.and_eq_true] at hI0
      obtain ⟨j0, j1⟩ := hI0
      have e0 := Nat.eq_of_beq_eq_true j0
      subst e0
      have e9 : m3 = 1 := Nat.eq_of_beq_eq_true j1
      subst e9
      exact zseg_ret (e_tx_isAtEnd_40)
    · skip
      refine zb_el h10 (fun hI1 k1 => ?_) (fun _ h11 => ?_)
      · have h2 := Option.some.inj k1
        have hG := congrArg Prod.fst h2
        have ho := congrArg Prod.snd h2
        dsimp only at hG ho
        subst ho
        try simp only [Bool.and_eq_true] at hI1
        obtain ⟨j0, j1⟩ := hI1
        have e0 := Nat.eq_of_beq_eq_true j0
        subst e0
        have e9 : m4 = 1 := Nat.eq_of_beq_eq_true j1
        subst e9
        exact zseg_ret (e_tx_isAtEnd_44)
      · skip
        refine zb_el h11 (fun hI2 k2 => ?_) (fun _ h12 => ?_)
        · have h2 := Option.some.inj k2
          have hG := congrArg Prod.fst h2
          have ho := congrArg Prod.snd h2
          dsimp only at hG ho
          subst ho
          try simp only [Bool.and_eq_true] at hI2
          obtain ⟨j0, j1⟩ := hI2
          have e0 := Nat.eq_of_beq_eq_true j0
          subst e0
          have e9 : m5 = 1 := Nat.eq_of_beq_eq_true j1
          subst e9
          exact zseg_ret (e_tx_isAtEnd_47)
        · cases h12
  · cases h)
def g_tx_sign (p0 : Int32) (p1 : Int32) (p2 : Int32) (p3 : Nat → Int32) : Bool := bif !decide (p0 = 0) then true else bif decide (p1 < 0) then true else bif decide (p2 ≤ p1) then true else zin (p1) 260
def w_tx_sign (p0 : Int32) (p1 : Int32) (p2 : Int32) (p3 : Nat → Int32) : Int32 := (bif !decide (p0 = 0) then (-1) else (bif decide (p1 < 0) then (-1) else (bif decide (p2 ≤ p1) then (-1) else p3 ((p1).toNatClampNeg))))
def P_tx_sign (G : Int32 → Int32 → Int32 → (Nat → Int32) → Bool) (W : Int32 → Int32 → Int32 → (Nat → Int32) → Int32) : zSp := fun as g => match as with
  | [.ref a] => bif Nat.beq a 40 && Nat.beq g.2.2.2.2.1 1 then some (G (g.2.1 40 2) (g.2.1 40 4) (g.2.1 40 1) (g.1 1), (some (.int (W (g.2.1 40 2) (g.2.1 40 4) (g.2.1 40 1) (g.1 1))), (g.1, g.2.1, g.2.2))) else bif Nat.beq a 44 && Nat.beq g.2.2.2.2.2.1 1 then some (G (g.2.1 44 2) (g.2.1 44 4) (g.2.1 44 1) (g.1 1), (some (.int (W (g.2.1 44 2) (g.2.1 44 4) (g.2.1 44 1) (g.1 1))), (g.1, g.2.1, g.2.2))) else bif Nat.beq a 47 && Nat.beq g.2.2.2.2.2.2 1 then some (G (g.2.1 47 2) (g.2.1 47 4) (g.2.1 47 1) (g.1 1), (some (.int (W (g.2.1 47 2) (g.2.1 47 4) (g.2.1 47 1) (g.1 1))), (g.1, g.2.1, g.2.2))) else none
  | _ => none
abbrev S_tx_sign : zSp := P_tx_sign g_tx_sign w_tx_sign
set_option maxRecDepth 10000 in
theorem t_tx_sign_40 {X : Nat × (Nat → Int32)} {ar fi : Nat → Nat → Int32} {m1 m2 m4 m5 : Nat} : zseg X zFT zE0 zc_93 (fun _ => false) 400 0 [.ref 40] [] (ar, fi, (m1, m2, 1, m4, m5)) = (
  bif !decide (fi 40 2 = 0) then
   some (.inr (some (.int (-1)), (ar, fi, (m1, m2, 1, m4, m5))))
  else
   bif decide (fi 40 4 < 0) then
    some (.inr (some (.int (-1)), (ar, fi, (m1, m2, 1, m4, m5))))
   else
    bif decide (fi 40 1 ≤ fi 40 4) then
     some (.inr (some (.int (-1)), (ar, fi, (m1, m2, 1, m4, m5))))
    else
     zg (zin (fi 40 4) 260) (
     some (.inr (some (.int ((ar 1) ((fi 40 4).toNatClampNeg))), (ar, fi, (m1, m2, 1, m4, m5))))) : Option ((Nat × List Value × List Value × zH2) ⊕ zO2)) := by with_unfolding_all rfl
set_option maxRecDepth 10000 in
theorem e_tx_sign_40 {X : Nat × (Nat → Int32)} {ar fi : Nat → Nat → Int32} {m1 m2 m4 m5 : Nat} (hG : g_tx_sign (fi 40 2) (fi 40 4) (fi 40 1) (ar 1) = true) : zseg X zFT zE0 zc_93 (fun _ => false) 400 0 [.ref 40] [] (ar, fi, (m1, m2, 1, m4, m5)) = some (.inr (some (.int (w_tx_sign (fi 40 2) (fi 40 4) (fi 40 1) (ar 1))), (ar, fi, (m1, m2, 1, m4, m5)))) := by
  rw [t_tx_sign_40]
  unfold g_tx_sign at hG
  unfold w_tx_sign
  cases hc1 : (!decide (fi 40 2 = 0)) with
  | true =>
    try simp only [hc1, cond_true, cond_false] at hG ⊢
    all_goals try simp only [Bool.and_eq_true, Bool.true_and, Bool.and_true] at hG
    all_goals try simp only [hG, zg, cond_true, and_self]
    all_goals first | rfl | (refine congrArg some (congrArg Sum.inr (Prod.ext rfl (Prod.ext ?_ (Prod.ext ?_ rfl)))) <;> first | rfl | (funext b; simp only [zup]; (repeat' split) <;> first | rfl | omega | (subst_vars; rfl) | (subst_vars; funext k; simp only [zup]; (repeat' split) <;> first | rfl | omega | (subst_vars; rfl) | (simp_all; done))))
  | false =>
    try simp only [hc1, cond_true, cond_false] at hG ⊢
    cases hc2 : (decide (fi 40 4 < 0)) with
    | true =>
      try simp only [hc2, cond_true, cond_false] at hG ⊢
      all_goals try simp only [Bool.and_eq_true, Bool.true_and, Bool.and_true] at hG
      all_goals try simp only [hG, zg, cond_true, and_self]
      all_goals first | rfl | (refine congrArg some (congrArg Sum.inr (Prod.ext rfl (Prod.ext ?_ (Prod.ext ?_ rfl)))) <;> first | rfl | (funext b; simp only [zup]; (repeat' split) <;> first | rfl | omega | (subst_vars; rfl) | (subst_vars; funext k; simp only [zup]; (repeat' split) <;> first | rfl | omega | (subst_vars; rfl) | (simp_all; done))))
    | false =>
      try simp only [hc2, cond_true, cond_false] at hG ⊢
      cases hc3 : (decide (fi 40 1 ≤ fi 40 4)) with
      | true =>
        try simp only [hc3, cond_true, cond_false] at hG ⊢
        all_goals try simp only [Bool.and_eq_true, Bool.true_and, Bool.and_true] at hG
        all_goals try simp only [hG, zg, cond_true, and_self]
        all_goals first | rfl | (refine congrArg some (congrArg Sum.inr (Prod.ext rfl (Prod.ext ?_ (Prod.ext ?_ rfl)))) <;> first | rfl | (funext b; simp only [zup]; (repeat' split) <;> first | rfl | omega | (subst_vars; rfl) | (subst_vars; funext k; simp only [zup]; (repeat' split) <;> first | rfl | omega | (subst_vars; rfl) | (simp_all; done))))
      | false =>
        try simp only [hc3, cond_true, cond_false] at hG ⊢
        all_goals try simp only [Bool.and_eq_true, Bool.true_and, Bool.and_true] at hG
        all_goals try simp only [hG, zg, cond_true, and_self]
        all_goals first | rfl | (refine congrArg some (congrArg Sum.inr (Prod.ext rfl (Prod.ext ?_ (Prod.ext ?_ rfl)))) <;> first | rfl | (funext b; simp only [zup]; (repeat' split) <;> first | rfl | omega | (subst_vars; rfl) | (subst_vars; funext k; simp only [zup]; (repeat' split) <;> first | rfl | omega | (subst_vars; rfl) | (simp_all; done))))
set_option maxRecDepth 10000 in
theorem t_tx_sign_44 {X : Nat × (Nat → Int32)} {ar fi : Nat → Nat → Int32} {m1 m2 m3 m5 : Nat} : zseg X zFT zE0 zc_93 (fun _ => false) 400 0 [.ref 44] [] (ar, fi, (m1, m2, m3, 1, m5)) = (
  bif !decide (fi 44 2 = 0) then
   some (.inr (some (.int (-1)), (ar, fi, (m1, m2, m3, 1, m5))))
  else
   bif decide (fi 44 4 < 0) then
    some (.inr (some (.int (-1)), (ar, fi, (m1, m2, m3, 1, m5))))
   else
    bif decide (fi 44 1 ≤ fi 44 4) then
     some (.inr (some (.int (-1)), (ar, fi, (m1, m2, m3, 1, m5))))
    else
     zg (zin (fi 44 4) 260) (
     some (.inr (some (.int ((ar 1) ((fi 44 4).toNatClampNeg))), (ar, fi, (m1, m2, m3, 1, m5))))) : Option ((Nat × List Value × List Value × zH2) ⊕ zO2)) := by with_unfolding_all rfl
set_option maxRecDepth 10000 in
theorem e_tx_sign_44 {X : Nat × (Nat → Int32)} {ar fi : Nat → Nat → Int32} {m1 m2 m3 m5 : Nat} (hG : g_tx_sign (fi 44 2) (fi 44 4) (fi 44 1) (ar 1) = true) : zseg X zFT zE0 zc_93 (fun _ => false) 400 0 [.ref 44] [] (ar, fi, (m1, m2, m3, 1, m5)) = some (.inr (some (.int (w_tx_sign (fi 44 2) (fi 44 4) (fi 44 1) (ar 1))), (ar, fi, (m1, m2, m3, 1, m5)))) := by
  rw [t_tx_sign_44]
  unfold g_tx_sign at hG
  unfold w_tx_sign
  cases hc1 : (!decide (fi 44 2 = 0)) with
  | true =>
    try simp only [hc1, cond_true, cond_false] at hG ⊢
    all_goals try simp only [Bool.and_eq_true, Bool.true_and, Bool.and_true] at hG
    all_goals try simp only [hG, zg, cond_true, and_self]
    all_goals first | rfl | (refine congrArg some (congrArg Sum.inr (Prod.ext rfl (Prod.ext ?_ (Prod.ext ?_ rfl)))) <;> first | rfl | (funext b; simp only [zup]; (repeat' split) <;> first | rfl | omega | (subst_vars; rfl) | (subst_vars; funext k; simp only [zup]; (repeat' split) <;> first | rfl | omega | (subst_vars; rfl) | (simp_all; done))))
  | false =>
    try simp only [hc1, cond_true, cond_false] at hG ⊢
    cases hc2 : (decide (fi 44 4 < 0)) with
    | true =>
      try simp only [hc2, cond_true, cond_false] at hG ⊢
      all_goals try simp only [Bool.and_eq_true, Bool.true_and, Bool.and_true] at hG
      all_goals try simp only [hG, zg, cond_true, and_self]
      all_goals first | rfl | (refine congrArg some (congrArg Sum.inr (Prod.ext rfl (Prod.ext ?_ (Prod.ext ?_ rfl)))) <;> first | rfl | (funext b; simp only [zup]; (repeat' split) <;> first | rfl | omega | (subst_vars; rfl) | (subst_vars; funext k; simp only [zup]; (repeat' split) <;> first | rfl | omega | (subst_vars; rfl) | (simp_all; done))))
    | false =>
      try simp only [hc2, cond_true, cond_false] at hG ⊢
      cases hc3 : (decide (fi 44 1 ≤ fi 44 4)) with
      | true =>
        try simp only [hc3, cond_true, cond_false] at hG ⊢
        all_goals try simp only [Bool.and_eq_true, Bool.true_and, Bool.and_true] at hG
        all_goals try simp only [hG, zg, cond_true, and_self]
        all_goals first | rfl | (refine congrArg some (congrArg Sum.inr (Prod.ext rfl (Prod.ext ?_ (Prod.ext ?_ rfl)))) <;> first | rfl | (funext b; simp only [zup]; (repeat' split) <;> first | rfl | omega | (subst_vars; rfl) | (subst_vars; funext k; simp only [zup]; (repeat' split) <;> first | rfl | omega | (subst_vars; rfl) | (simp_all; done))))
      | false =>
        try simp only [hc3, cond_true, cond_false] at hG ⊢
        all_goals try simp only [Bool.and_eq_true, Bool.true_and, Bool.and_true] at hG
        all_goals try simp only [hG, zg, cond_true, and_self]
        all_goals first | rfl | (refine congrArg some (congrArg Sum.inr (Prod.ext rfl (Prod.ext ?_ (Prod.ext ?_ rfl)))) <;> first | rfl | (funext b; simp only [zup]; (repeat' split) <;> first | rfl | omega | (subst_vars; rfl) | (subst_vars; funext k; simp only [zup]; (repeat' split) <;> first | rfl | omega | (subst_vars; rfl) | (simp_all; done))))
set_option maxRecDepth 10000 in
theorem t_tx_sign_47 {X : Nat × (Nat → Int32)} {ar fi : Nat → Nat → Int32} {m1 m2 m3 m4 : Nat} : zseg X zFT zE0 zc_93 (fun _ => false) 400 0 [.ref 47] [] (ar, fi, (m1, m2, m3, m4, 1)) = (
  bif !decide (fi 47 2 = 0) then
   some (.inr (some (.int (-1)), (ar, fi, (m1, m2, m3, m4, 1))))
  else
   bif decide (fi 47 4 < 0) then
    some (.inr (some (.int (-1)), (ar, fi, (m1, m2, m3, m4, 1))))
   else
    bif decide (fi 47 1 ≤ fi 47 4) then
     some (.inr (some (.int (-1)), (ar, fi, (m1, m2, m3, m4, 1))))
    else
     zg (zin (fi 47 4) 260) (
     some (.inr (some (.int ((ar 1) ((fi 47 4).toNatClampNeg))), (ar, fi, (m1, m2, m3, m4, 1))))) : Option ((Nat × List Value × List Value × zH2) ⊕ zO2)) := by with_unfolding_all rfl
set_option maxRecDepth 10000 in
theorem e_tx_sign_47 {X : Nat × (Nat → Int32)} {ar fi : Nat → Nat → Int32} {m1 m2 m3 m4 : Nat} (hG : g_tx_sign (fi 47 2) (fi 47 4) (fi 47 1) (ar 1) = true) : zseg X zFT zE0 zc_93 (fun _ => false) 400 0 [.ref 47] [] (ar, fi, (m1, m2, m3, m4, 1)) = some (.inr (some (.int (w_tx_sign (fi 47 2) (fi 47 4) (fi 47 1) (ar 1))), (ar, fi, (m1, m2, m3, m4, 1)))) := by
  rw [t_tx_sign_47]
  unfold g_tx_sign at hG
  unfold w_tx_sign
  cases hc1 : (!decide (fi 47 2 = 0)) with
  | true =>
    try simp only [hc1, cond_true, cond_false] at hG ⊢
    all_goals try simp only [Bool.and_eq_true, Bool.true_and, Bool.and_true] at hG
    all_goals try simp only [hG, zg, cond_true, and_self]
    all_goals first | rfl | (refine congrArg some (congrArg Sum.inr (Prod.ext rfl (Prod.ext ?_ (Prod.ext ?_ rfl)))) <;> first | rfl | (funext b; simp only [zup]; (repeat' split) <;> first | rfl | omega | (subst_vars; rfl) | (subst_vars; funext k; simp only [zup]; (repeat' split) <;> first | rfl | omega | (subst_vars; rfl) | (simp_all; done))))
  | false =>
    try simp only [hc1, cond_true, cond_false] at hG ⊢
    cases hc2 : (decide (fi 47 4 < 0)) with
    | true =>
      try simp only [hc2, cond_true, cond_false] at hG ⊢
      all_goals try simp only [Bool.and_eq_true, Bool.true_and, Bool.and_true] at hG
      all_goals try simp only [hG, zg, cond_true, and_self]
      all_goals first | rfl | (refine congrArg some (congrArg Sum.inr (Prod.ext rfl (Prod.ext ?_ (Prod.ext ?_ rfl)))) <;> first | rfl | (funext b; simp only [zup]; (repeat' split) <;> first | rfl | omega | (subst_vars; rfl) | (subst_vars; funext k; simp only [zup]; (repeat' split) <;> first | rfl | omega | (subst_vars; rfl) | (simp_all; done))))
    | false =>
      try simp only [hc2, cond_true, cond_false] at hG ⊢
      cases hc3 : (decide (fi 47 1 ≤ fi 47 4)) with
      | true =>
        try simp only [hc3, cond_true, cond_false] at hG ⊢
        all_goals try simp only [Bool.and_eq_true, Bool.true_and, Bool.and_true] at hG
        all_goals try simp only [hG, zg, cond_true, and_self]
        all_goals first | rfl | (refine congrArg some (congrArg Sum.inr (Prod.ext rfl (Prod.ext ?_ (Prod.ext ?_ rfl)))) <;> first | rfl | (funext b; simp only [zup]; (repeat' split) <;> first | rfl | omega | (subst_vars; rfl) | (subst_vars; funext k; simp only [zup]; (repeat' split) <;> first | rfl | omega | (subst_vars; rfl) | (simp_all; done))))
      | false =>
        try simp only [hc3, cond_true, cond_false] at hG ⊢
        all_goals try simp only [Bool.and_eq_true, Bool.true_and, Bool.and_true] at hG
        all_goals try simp only [hG, zg, cond_true, and_self]
        all_goals first | rfl | (refine congrArg some (congrArg Sum.inr (Prod.ext rfl (Prod.ext ?_ (Prod.ext ?_ rfl)))) <;> first | rfl | (funext b; simp only [zup]; (repeat' split) <;> first | rfl | omega | (subst_vars; rfl) | (subst_vars; funext k; simp only [zup]; (repeat' split) <;> first | rfl | omega | (subst_vars; rfl) | (simp_all; done))))
theorem ok_tx_sign (X : Nat × (Nat → Int32)) : zOkS X 93 S_tx_sign 1 := zOkS_new (zOkE_nil X 0) (by
  intro args g o h
  obtain ⟨ar, fi, m1, m2, m3, m4, m5⟩ := g
  unfold S_tx_sign P_tx_sign at h
  split at h
  · refine zb_el h (fun hI0 k0 => ?_) (fun _ h10 => ?_)
    · have h2 := Option.some.inj k0
      have hG := congrArg Prod.fst h2
      have ho := congrArg Prod.snd h2
      dsimp only at hG ho
      subst ho
      try simp only [Bool.and_eq_true] at hI0
      obtain ⟨j0, j1⟩ := hI0
      have e0 := Nat.eq_of_beq_eq_true j0
      subst e0
      have e9 : m3 = 1 := Nat.eq_of_beq_eq_true j1
      subst e9
      exact zseg_ret (e_tx_sign_40 hG)
    · skip
      refine zb_el h10 (fun hI1 k1 => ?_) (fun _ h11 => ?_)
      · have h2 := Option.some.inj k1
        have hG := congrArg Prod.fst h2
        have ho := congrArg Prod.snd h2
        dsimp only at hG ho
        subst ho
        try simp only [Bool.and_eq_true] at hI1
        obtain ⟨j0, j1⟩ := hI1
        have e0 := Nat.eq_of_beq_eq_true j0
        subst e0
        have e9 : m4 = 1 := Nat.eq_of_beq_eq_true j1
        subst e9
        exact zseg_ret (e_tx_sign_44 hG)
      · skip
        refine zb_el h11 (fun hI2 k2 => ?_) (fun _ h12 => ?_)
        · have h2 := Option.some.inj k2
          have hG := congrArg Prod.fst h2
          have ho := congrArg Prod.snd h2
          dsimp only at hG ho
          subst ho
          try simp only [Bool.and_eq_true] at hI2
          obtain ⟨j0, j1⟩ := hI2
          have e0 := Nat.eq_of_beq_eq_true j0
          subst e0
          have e9 : m5 = 1 := Nat.eq_of_beq_eq_true j1
          subst e9
          exact zseg_ret (e_tx_sign_47 hG)
        · cases h12
  · cases h)
def f0_tx_skip (p0 : Int32) : Int32 := (p0) + 1
def P_tx_skip (F0 : Int32 → Int32) : zSp := fun as g => match as with
  | [.ref a] => bif Nat.beq a 40 && Nat.beq g.2.2.2.2.1 1 then some (true, (none, (g.1, (zup g.2.1 40 (zup (g.2.1 40) 4 (F0 (g.2.1 40 4)))), g.2.2))) else bif Nat.beq a 44 && Nat.beq g.2.2.2.2.2.1 1 then some (true, (none, (g.1, (zup g.2.1 44 (zup (g.2.1 44) 4 (F0 (g.2.1 44 4)))), g.2.2))) else bif Nat.beq a 47 && Nat.beq g.2.2.2.2.2.2 1 then some (true, (none, (g.1, (zup g.2.1 47 (zup (g.2.1 47) 4 (F0 (g.2.1 47 4)))), g.2.2))) else none
  | _ => none
abbrev S_tx_skip : zSp := P_tx_skip f0_tx_skip
set_option maxRecDepth 10000 in
theorem t_tx_skip_40 {X : Nat × (Nat → Int32)} {ar fi : Nat → Nat → Int32} {m1 m2 m4 m5 : Nat} : zseg X zFT zE0 zc_95 (fun _ => false) 400 0 [.ref 40] [] (ar, fi, (m1, m2, 1, m4, m5)) = (
  some (.inr (none, (ar, (zup fi 40 (zup (fi 40) 4 ((fi 40 4) + 1))), (m1, m2, 1, m4, m5)))) : Option ((Nat × List Value × List Value × zH2) ⊕ zO2)) := by with_unfolding_all rfl
set_option maxRecDepth 10000 in
theorem e_tx_skip_40 {X : Nat × (Nat → Int32)} {ar fi : Nat → Nat → Int32} {m1 m2 m4 m5 : Nat} : zseg X zFT zE0 zc_95 (fun _ => false) 400 0 [.ref 40] [] (ar, fi, (m1, m2, 1, m4, m5)) = some (.inr (none, (ar, (zup fi 40 (zup (fi 40) 4 (f0_tx_skip (fi 40 4)))), (m1, m2, 1, m4, m5)))) := by
  rw [t_tx_skip_40]
  unfold f0_tx_skip
  all_goals first | rfl | (refine congrArg some (congrArg Sum.inr (Prod.ext rfl (Prod.ext ?_ (Prod.ext ?_ rfl)))) <;> first | rfl | (funext b; simp only [zup]; (repeat' split) <;> first | rfl | omega | (subst_vars; rfl) | (subst_vars; funext k; simp only [zup]; (repeat' split) <;> first | rfl | omega | (subst_vars; rfl) | (simp_all; done))))
set_option maxRecDepth 10000 in
theorem t_tx_skip_44 {X : Nat × (Nat → Int32)} {ar fi : Nat → Nat → Int32} {m1 m2 m3 m5 : Nat} : zseg X zFT zE0 zc_95 (fun _ => false) 400 0 [.ref 44] [] (ar, fi, (m1, m2, m3, 1, m5)) = (
  some (.inr (none, (ar, (zup fi 44 (zup (fi 44) 4 ((fi 44 4) + 1))), (m1, m2, m3, 1, m5)))) : Option ((Nat × List Value × List Value × zH2) ⊕ zO2)) := by with_unfolding_all rfl
set_option maxRecDepth 10000 in
theorem e_tx_skip_44 {X : Nat × (Nat → Int32)} {ar fi : Nat → Nat → Int32} {m1 m2 m3 m5 : Nat} : zseg X zFT zE0 zc_95 (fun _ => false) 400 0 [.ref 44] [] (ar, fi, (m1, m2, m3, 1, m5)) = some (.inr (none, (ar, (zup fi 44 (zup (fi 44) 4 (f0_tx_skip (fi 44 4)))), (m1, m2, m3, 1, m5)))) := by
  rw [t_tx_skip_44]
  unfold f0_tx_skip
  all_goals first | rfl | (refine congrArg some (congrArg Sum.inr (Prod.ext rfl (Prod.ext ?_ (Prod.ext ?_ rfl)))) <;> first | rfl | (funext b; simp only [zup]; (repeat' split) <;> first | rfl | omega | (subst_vars; rfl) | (subst_vars; funext k; simp only [zup]; (repeat' split) <;> first | rfl | omega | (subst_vars; rfl) | (simp_all; done))))
set_option maxRecDepth 10000 in
theorem t_tx_skip_47 {X : Nat × (Nat → Int32)} {ar fi : Nat → Nat → Int32} {m1 m2 m3 m4 : Nat} : zseg X zFT zE0 zc_95 (fun _ => false) 400 0 [.ref 47] [] (ar, fi, (m1, m2, m3, m4, 1)) = (
  some (.inr (none, (ar, (zup fi 47 (zup (fi 47) 4 ((fi 47 4) + 1))), (m1, m2, m3, m4, 1)))) : Option ((Nat × List Value × List Value × zH2) ⊕ zO2)) := by with_unfolding_all rfl
set_option maxRecDepth 10000 in
theorem e_tx_skip_47 {X : Nat × (Nat → Int32)} {ar fi : Nat → Nat → Int32} {m1 m2 m3 m4 : Nat} : zseg X zFT zE0 zc_95 (fun _ => false) 400 0 [.ref 47] [] (ar, fi, (m1, m2, m3, m4, 1)) = some (.inr (none, (ar, (zup fi 47 (zup (fi 47) 4 (f0_tx_skip (fi 47 4)))), (m1, m2, m3, m4, 1)))) := by
  rw [t_tx_skip_47]
  unfold f0_tx_skip
  all_goals first | rfl | (refine congrArg some (congrArg Sum.inr (Prod.ext rfl (Prod.ext ?_ (Prod.ext ?_ rfl)))) <;> first | rfl | (funext b; simp only [zup]; (repeat' split) <;> first | rfl | omega | (subst_vars; rfl) | (subst_vars; funext k; simp only [zup]; (repeat' split) <;> first | rfl | omega | (subst_vars; rfl) | (simp_all; done))))
theorem ok_tx_skip (X : Nat × (Nat → Int32)) : zOkS X 95 S_tx_skip 1 := zOkS_new (zOkE_nil X 0) (by
  intro args g o h
  obtain ⟨ar, fi, m1, m2, m3, m4, m5⟩ := g
  unfold S_tx_skip P_tx_skip at h
  split at h
  · refine zb_el h (fun hI0 k0 => ?_) (fun _ h10 => ?_)
    · have h2 := Option.some.inj k0
      have hG := congrArg Prod.fst h2
      have ho := congrArg Prod.snd h2
      dsimp only at hG ho
      subst ho
      try simp only [Bool.and_eq_true] at hI0
      obtain ⟨j0, j1⟩ := hI0
      have e0 := Nat.eq_of_beq_eq_true j0
      subst e0
      have e9 : m3 = 1 := Nat.eq_of_beq_eq_true j1
      subst e9
      exact zseg_ret (e_tx_skip_40)
    · skip
      refine zb_el h10 (fun hI1 k1 => ?_) (fun _ h11 => ?_)
      · have h2 := Option.some.inj k1
        have hG := congrArg Prod.fst h2
        have ho := congrArg Prod.snd h2
        dsimp only at hG ho
        subst ho
        try simp only [Bool.and_eq_true] at hI1
        obtain ⟨j0, j1⟩ := hI1
        have e0 := Nat.eq_of_beq_eq_true j0
        subst e0
        have e9 : m4 = 1 := Nat.eq_of_beq_eq_true j1
        subst e9
        exact zseg_ret (e_tx_skip_44)
      · skip
        refine zb_el h11 (fun hI2 k2 => ?_) (fun _ h12 => ?_)
        · have h2 := Option.some.inj k2
          have hG := congrArg Prod.fst h2
          have ho := congrArg Prod.snd h2
          dsimp only at hG ho
          subst ho
          try simp only [Bool.and_eq_true] at hI2
          obtain ⟨j0, j1⟩ := hI2
          have e0 := Nat.eq_of_beq_eq_true j0
          subst e0
          have e9 : m5 = 1 := Nat.eq_of_beq_eq_true j1
          subst e9
          exact zseg_ret (e_tx_skip_47)
        · cases h12
  · cases h)
def f0_tx_fail (x : Int32) (y : Int32) (p0 : Int32) (p1 : Int32) : Int32 := (bif !decide (p0 = 0) then p0 else x)
def f1_tx_fail (x : Int32) (y : Int32) (p0 : Int32) (p1 : Int32) : Int32 := (bif !decide (p0 = 0) then p1 else y)
def P_tx_fail (F0 : Int32 → Int32 → Int32 → Int32 → Int32) (F1 : Int32 → Int32 → Int32 → Int32 → Int32) : zSp := fun as g => match as with
  | [.ref a, .int x, .int y] => bif Nat.beq a 40 && Nat.beq g.2.2.2.2.1 1 then some (true, (none, (g.1, (zup (zup g.2.1 40 (zup (g.2.1 40) 2 (F0 x y (g.2.1 40 2) (g.2.1 40 3)))) 40 (zup ((zup g.2.1 40 (zup (g.2.1 40) 2 (F0 x y (g.2.1 40 2) (g.2.1 40 3)))) 40) 3 (F1 x y (g.2.1 40 2) (g.2.1 40 3)))), g.2.2))) else bif Nat.beq a 44 && Nat.beq g.2.2.2.2.2.1 1 then some (true, (none, (g.1, (zup (zup g.2.1 44 (zup (g.2.1 44) 2 (F0 x y (g.2.1 44 2) (g.2.1 44 3)))) 44 (zup ((zup g.2.1 44 (zup (g.2.1 44) 2 (F0 x y (g.2.1 44 2) (g.2.1 44 3)))) 44) 3 (F1 x y (g.2.1 44 2) (g.2.1 44 3)))), g.2.2))) else bif Nat.beq a 47 && Nat.beq g.2.2.2.2.2.2 1 then some (true, (none, (g.1, (zup (zup g.2.1 47 (zup (g.2.1 47) 2 (F0 x y (g.2.1 47 2) (g.2.1 47 3)))) 47 (zup ((zup g.2.1 47 (zup (g.2.1 47) 2 (F0 x y (g.2.1 47 2) (g.2.1 47 3)))) 47) 3 (F1 x y (g.2.1 47 2) (g.2.1 47 3)))), g.2.2))) else none
  | _ => none
abbrev S_tx_fail : zSp := P_tx_fail f0_tx_fail f1_tx_fail
set_option maxRecDepth 10000 in
theorem t_tx_fail_40 {X : Nat × (Nat → Int32)} {ar fi : Nat → Nat → Int32} {m1 m2 m4 m5 : Nat} {x y : Int32} : zseg X zFT zE0 zc_97 (fun _ => false) 400 0 [.ref 40, .int x, .int y] [] (ar, fi, (m1, m2, 1, m4, m5)) = (
  bif !decide (fi 40 2 = 0) then
   some (.inr (none, (ar, fi, (m1, m2, 1, m4, m5))))
  else
   some (.inr (none, (ar, (zup (zup fi 40 (zup (fi 40) 2 x)) 40 (zup ((zup fi 40 (zup (fi 40) 2 x)) 40) 3 y)), (m1, m2, 1, m4, m5)))) : Option ((Nat × List Value × List Value × zH2) ⊕ zO2)) := by with_unfolding_all rfl
set_option maxRecDepth 10000 in
theorem e_tx_fail_40 {X : Nat × (Nat → Int32)} {ar fi : Nat → Nat → Int32} {m1 m2 m4 m5 : Nat} {x y : Int32} : zseg X zFT zE0 zc_97 (fun _ => false) 400 0 [.ref 40, .int x, .int y] [] (ar, fi, (m1, m2, 1, m4, m5)) = some (.inr (none, (ar, (zup (zup fi 40 (zup (fi 40) 2 (f0_tx_fail x y (fi 40 2) (fi 40 3)))) 40 (zup ((zup fi 40 (zup (fi 40) 2 (f0_tx_fail x y (fi 40 2) (fi 40 3)))) 40) 3 (f1_tx_fail x y (fi 40 2) (fi 40 3)))), (m1, m2, 1, m4, m5)))) := by
  rw [t_tx_fail_40]
  unfold f0_tx_fail f1_tx_fail
  cases hc1 : (!decide (fi 40 2 = 0)) with
  | true =>
    try simp only [hc1, cond_true, cond_false]
    all_goals try simp only [zup_zup, zup_same]
    all_goals first | rfl | (refine congrArg some (congrArg Sum.inr (Prod.ext rfl (Prod.ext ?_ (Prod.ext ?_ rfl)))) <;> first | rfl | (funext b; simp only [zup]; (repeat' split) <;> first | rfl | omega | (subst_vars; rfl) | (subst_vars; funext k; simp only [zup]; (repeat' split) <;> first | rfl | omega | (subst_vars; rfl) | (simp_all; done))))
  | false =>
    try simp only [hc1, cond_true, cond_false]
    all_goals try simp only [zup_zup, zup_same]
    all_goals first | rfl | (refine congrArg some (congrArg Sum.inr (Prod.ext rfl (Prod.ext ?_ (Prod.ext ?_ rfl)))) <;> first | rfl | (funext b; simp only [zup]; (repeat' split) <;> first | rfl | omega | (subst_vars; rfl) | (subst_vars; funext k; simp only [zup]; (repeat' split) <;> first | rfl | omega | (subst_vars; rfl) | (simp_all; done))))
set_option maxRecDepth 10000 in
theorem t_tx_fail_44 {X : Nat × (Nat → Int32)} {ar fi : Nat → Nat → Int32} {m1 m2 m3 m5 : Nat} {x y : Int32} : zseg X zFT zE0 zc_97 (fun _ => false) 400 0 [.ref 44, .int x, .int y] [] (ar, fi, (m1, m2, m3, 1, m5)) = (
  bif !decide (fi 44 2 = 0) then
   some (.inr (none, (ar, fi, (m1, m2, m3, 1, m5))))
  else
   some (.inr (none, (ar, (zup (zup fi 44 (zup (fi 44) 2 x)) 44 (zup ((zup fi 44 (zup (fi 44) 2 x)) 44) 3 y)), (m1, m2, m3, 1, m5)))) : Option ((Nat × List Value × List Value × zH2) ⊕ zO2)) := by with_unfolding_all rfl
set_option maxRecDepth 10000 in
theorem e_tx_fail_44 {X : Nat × (Nat → Int32)} {ar fi : Nat → Nat → Int32} {m1 m2 m3 m5 : Nat} {x y : Int32} : zseg X zFT zE0 zc_97 (fun _ => false) 400 0 [.ref 44, .int x, .int y] [] (ar, fi, (m1, m2, m3, 1, m5)) = some (.inr (none, (ar, (zup (zup fi 44 (zup (fi 44) 2 (f0_tx_fail x y (fi 44 2) (fi 44 3)))) 44 (zup ((zup fi 44 (zup (fi 44) 2 (f0_tx_fail x y (fi 44 2) (fi 44 3)))) 44) 3 (f1_tx_fail x y (fi 44 2) (fi 44 3)))), (m1, m2, m3, 1, m5)))) := by
  rw [t_tx_fail_44]
  unfold f0_tx_fail f1_tx_fail
  cases hc1 : (!decide (fi 44 2 = 0)) with
  | true =>
    try simp only [hc1, cond_true, cond_false]
    all_goals try simp only [zup_zup, zup_same]
    all_goals first | rfl | (refine congrArg some (congrArg Sum.inr (Prod.ext rfl (Prod.ext ?_ (Prod.ext ?_ rfl)))) <;> first | rfl | (funext b; simp only [zup]; (repeat' split) <;> first | rfl | omega | (subst_vars; rfl) | (subst_vars; funext k; simp only [zup]; (repeat' split) <;> first | rfl | omega | (subst_vars; rfl) | (simp_all; done))))
  | false =>
    try simp only [hc1, cond_true, cond_false]
    all_goals try simp only [zup_zup, zup_same]
    all_goals first | rfl | (refine congrArg some (congrArg Sum.inr (Prod.ext rfl (Prod.ext ?_ (Prod.ext ?_ rfl)))) <;> first | rfl | (funext b; simp only [zup]; (repeat' split) <;> first | rfl | omega | (subst_vars; rfl) | (subst_vars; funext k; simp only [zup]; (repeat' split) <;> first | rfl | omega | (subst_vars; rfl) | (simp_all; done))))
set_option maxRecDepth 10000 in
theorem t_tx_fail_47 {X : Nat × (Nat → Int32)} {ar fi : Nat → Nat → Int32} {m1 m2 m3 m4 : Nat} {x y : Int32} : zseg X zFT zE0 zc_97 (fun _ => false) 400 0 [.ref 47, .int x, .int y] [] (ar, fi, (m1, m2, m3, m4, 1)) = (
  bif !decide (fi 47 2 = 0) then
   some (.inr (none, (ar, fi, (m1, m2, m3, m4, 1))))
  else
   some (.inr (none, (ar, (zup (zup fi 47 (zup (fi 47) 2 x)) 47 (zup ((zup fi 47 (zup (fi 47) 2 x)) 47) 3 y)), (m1, m2, m3, m4, 1)))) : Option ((Nat × List Value × List Value × zH2) ⊕ zO2)) := by with_unfolding_all rfl
set_option maxRecDepth 10000 in
theorem e_tx_fail_47 {X : Nat × (Nat → Int32)} {ar fi : Nat → Nat → Int32} {m1 m2 m3 m4 : Nat} {x y : Int32} : zseg X zFT zE0 zc_97 (fun _ => false) 400 0 [.ref 47, .int x, .int y] [] (ar, fi, (m1, m2, m3, m4, 1)) = some (.inr (none, (ar, (zup (zup fi 47 (zup (fi 47) 2 (f0_tx_fail x y (fi 47 2) (fi 47 3)))) 47 (zup ((zup fi 47 (zup (fi 47) 2 (f0_tx_fail x y (fi 47 2) (fi 47 3)))) 47) 3 (f1_tx_fail x y (fi 47 2) (fi 47 3)))), (m1, m2, m3, m4, 1)))) := by
  rw [t_tx_fail_47]
  unfold f0_tx_fail f1_tx_fail
  cases hc1 : (!decide (fi 47 2 = 0)) with
  | true =>
    try simp only [hc1, cond_true, cond_false]
    all_goals try simp only [zup_zup, zup_same]
    all_goals first | rfl | (refine congrArg some (congrArg Sum.inr (Prod.ext rfl (Prod.ext ?_ (Prod.ext ?_ rfl)))) <;> first | rfl | (funext b; simp only [zup]; (repeat' split) <;> first | rfl | omega | (subst_vars; rfl) | (subst_vars; funext k; simp only [zup]; (repeat' split) <;> first | rfl | omega | (subst_vars; rfl) | (simp_all; done))))
  | false =>
    try simp only [hc1, cond_true, cond_false]
    all_goals try simp only [zup_zup, zup_same]
    all_goals first | rfl | (refine congrArg some (congrArg Sum.inr (Prod.ext rfl (Prod.ext ?_ (Prod.ext ?_ rfl)))) <;> first | rfl | (funext b; simp only [zup]; (repeat' split) <;> first | rfl | omega | (subst_vars; rfl) | (subst_vars; funext k; simp only [zup]; (repeat' split) <;> first | rfl | omega | (subst_vars; rfl) | (simp_all; done))))
theorem ok_tx_fail (X : Nat × (Nat → Int32)) : zOkS X 97 S_tx_fail 1 := zOkS_new (zOkE_nil X 0) (by
  intro args g o h
  obtain ⟨ar, fi, m1, m2, m3, m4, m5⟩ := g
  unfold S_tx_fail P_tx_fail at h
  split at h
  · refine zb_el h (fun hI0 k0 => ?_) (fun _ h10 => ?_)
    · have h2 := Option.some.inj k0
      have hG := congrArg Prod.fst h2
      have ho := congrArg Prod.snd h2
      dsimp only at hG ho
      subst ho
      try simp only [Bool.and_eq_true] at hI0
      obtain ⟨j0, j1⟩ := hI0
      have e0 := Nat.eq_of_beq_eq_true j0
      subst e0
      have e9 : m3 = 1 := Nat.eq_of_beq_eq_true j1
      subst e9
      exact zseg_ret (e_tx_fail_40)
    · skip
      refine zb_el h10 (fun hI1 k1 => ?_) (fun _ h11 => ?_)
      · have h2 := Option.some.inj k1
        have hG := congrArg Prod.fst h2
        have ho := congrArg Prod.snd h2
        dsimp only at hG ho
        subst ho
        try simp only [Bool.and_eq_true] at hI1
        obtain ⟨j0, j1⟩ := hI1
        have e0 := Nat.eq_of_beq_eq_true j0
        subst e0
        have e9 : m4 = 1 := Nat.eq_of_beq_eq_true j1
        subst e9
        exact zseg_ret (e_tx_fail_44)
      · skip
        refine zb_el h11 (fun hI2 k2 => ?_) (fun _ h12 => ?_)
        · have h2 := Option.some.inj k2
          have hG := congrArg Prod.fst h2
          have ho := congrArg Prod.snd h2
          dsimp only at hG ho
          subst ho
          try simp only [Bool.and_eq_true] at hI2
          obtain ⟨j0, j1⟩ := hI2
          have e0 := Nat.eq_of_beq_eq_true j0
          subst e0
          have e9 : m5 = 1 := Nat.eq_of_beq_eq_true j1
          subst e9
          exact zseg_ret (e_tx_fail_47)
        · cases h12
  · cases h)
