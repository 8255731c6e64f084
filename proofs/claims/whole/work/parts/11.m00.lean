def w_cl_nearer (x : Int32) (y : Int32) (z : Int32) : Int32 := (bif decide ((if 0 ≤ x - y then x - y else 0 - (x - y)) ≤ (if 0 ≤ x - z then x - z else 0 - (x - z))) then y else z)
def P_cl_nearer (W : Int32 → Int32 → Int32 → Int32) : zSp := fun as g => match as with
  | [.int x, .int y, .int z] => some (true, (some (.int (W x y z)), (g.1, g.2.1, g.2.2)))
  | _ => none
abbrev S_cl_nearer : zSp := P_cl_nearer w_cl_nearer
set_option maxRecDepth 10000 in
theorem t_cl_nearer {X : Nat × (Nat → Int32)} {ar fi : Nat → Nat → Int32} {m1 m2 m3 m4 m5 : Nat} {x y z : Int32} : zseg X zFT zE0 zc_4 (fun _ => false) 400 0 [.int x, .int y, .int z] [] (ar, fi, (m1, m2, m3, m4, m5)) = (
  bif decide ((if 0 ≤ x - y then x - y else 0 - (x - y)) ≤ (if 0 ≤ x - z then x - z else 0 - (x - z))) then
   some (.inr (some (.int y), (ar, fi, (m1, m2, m3, m4, m5))))
  else
   some (.inr (some (.int z), (ar, fi, (m1, m2, m3, m4, m5)))) : Option ((Nat × List Value × List Value × zH2) ⊕ zO2)) := by with_unfolding_all rfl
set_option maxRecDepth 10000 in
theorem e_cl_nearer {X : Nat × (Nat → Int32)} {ar fi : Nat → Nat → Int32} {m1 m2 m3 m4 m5 : Nat} {x y z : Int32} : zseg X zFT zE0 zc_4 (fun _ => false) 400 0 [.int x, .int y, .int z] [] (ar, fi, (m1, m2, m3, m4, m5)) = some (.inr (some (.int (w_cl_nearer x y z)), (ar, fi, (m1, m2, m3, m4, m5)))) := by
  rw [t_cl_nearer]
  unfold w_cl_nearer
  cases hc1 : (decide ((if 0 ≤ x - y then x - y else 0 - (x - y)) ≤ (if 0 ≤ x - z then x - z else 0 - (x - z)))) with
  | true =>
    try simp only [hc1, cond_true, cond_false]
    all_goals first | rfl | (refine congrArg some (congrArg Sum.inr (Prod.ext rfl (Prod.ext ?_ (Prod.ext ?_ rfl)))) <;> first | rfl | (funext b; simp only [zup]; (repeat' split) <;> first | rfl | omega | (subst_vars; rfl) | (subst_vars; funext k; simp only [zup]; (repeat' split) <;> first | rfl | omega | (subst_vars; rfl) | (simp_all; done))))
  | false =>
    try simp only [hc1, cond_true, cond_false]
    all_goals first | rfl | (refine congrArg some (congrArg Sum.inr (Prod.ext rfl (Prod.ext ?_ (Prod.ext ?_ rfl)))) <;> first | rfl | (funext b; simp only [zup]; (repeat' split) <;> first | rfl | omega | (subst_vars; rfl) | (subst_vars; funext k; simp only [zup]; (repeat' split) <;> first | rfl | omega | (subst_vars; rfl) | (simp_all; done))))
theorem ok_cl_nearer (X : Nat × (Nat → Int32)) : zOkS X 4 S_cl_nearer 1 := zOkS_new (zOkE_nil X 0) (by
  intro args g o h
  obtain ⟨ar, fi, m1, m2, m3, m4, m5⟩ := g
  unfold S_cl_nearer P_cl_nearer at h
  split at h
  · have h2 := Option.some.inj h
    have hG := congrArg Prod.fst h2
    have ho := congrArg Prod.snd h2
    dsimp only at hG ho
    subst ho
    exact zseg_ret (e_cl_nearer)
  · cases h)
def g_cu_visit (x : Int32) (y : Int32) (p0 : Nat → Int32) (p1 : Int32) (p2 : Nat → Int32) : Bool := (zin x 192) && (bif decide (0 ≤ p0 (x.toNatClampNeg)) then true else bif decide (192 ≤ p1) then true else (zin x 192) && (zin (p1) 192))
def a0_cu_visit (x : Int32) (y : Int32) (p0 : Nat → Int32) (p1 : Int32) (p2 : Nat → Int32) : Nat → Int32 := (bif decide (0 ≤ p0 (x.toNatClampNeg)) then p0 else (bif decide (192 ≤ p1) then p0 else (zup p0 (x.toNatClampNeg) y)))
def a1_cu_visit (x : Int32) (y : Int32) (p0 : Nat → Int32) (p1 : Int32) (p2 : Nat → Int32) : Nat → Int32 := (bif decide (0 ≤ p0 (x.toNatClampNeg)) then p2 else (bif decide (192 ≤ p1) then p2 else (zup p2 ((p1).toNatClampNeg) x)))
def f0_cu_visit (x : Int32) (y : Int32) (p0 : Nat → Int32) (p1 : Int32) (p2 : Nat → Int32) : Int32 := (bif decide (0 ≤ p0 (x.toNatClampNeg)) then p1 else (bif decide (192 ≤ p1) then p1 else (p1) + 1))
def P_cu_visit (G : Int32 → Int32 → (Nat → Int32) → Int32 → (Nat → Int32) → Bool) (A0 : Int32 → Int32 → (Nat → Int32) → Int32 → (Nat → Int32) → Nat → Int32) (A1 : Int32 → Int32 → (Nat → Int32) → Int32 → (Nat → Int32) → Nat → Int32) (F0 : Int32 → Int32 → (Nat → Int32) → Int32 → (Nat → Int32) → Int32) : zSp := fun as g => match as with
  | [.ref a, .int x, .int y] => bif Nat.beq a 57 then some (G x y (g.1 60) (g.2.1 57 4) (g.1 61), (none, ((zup (zup g.1 60 (A0 x y (g.1 60) (g.2.1 57 4) (g.1 61))) 61 (A1 x y (g.1 60) (g.2.1 57 4) (g.1 61))), (zup g.2.1 57 (zup (g.2.1 57) 4 (F0 x y (g.1 60) (g.2.1 57 4) (g.1 61)))), g.2.2))) else none
  | _ => none
abbrev S_cu_visit : zSp := P_cu_visit g_cu_visit a0_cu_visit a1_cu_visit f0_cu_visit
set_option maxRecDepth 10000 in
theorem t_cu_visit {X : Nat × (Nat → Int32)} {ar fi : Nat → Nat → Int32} {m1 m2 m3 m4 m5 : Nat} {x y : Int32} : zseg X zFT zE0 zc_14 (fun _ => false) 400 0 [.ref 57, .int x, .int y] [] (ar, fi, (m1, m2, m3, m4, m5)) = (
  zg (zin x 192) (
  bif decide (0 ≤ (ar 60) (x.toNatClampNeg)) then
   some (.inr (none, (ar, fi, (m1, m2, m3, m4, m5))))
  else
   bif decide (192 ≤ fi 57 4) then
    some (.inr (none, (ar, fi, (m1, m2, m3, m4, m5))))
   else
    zg (zin x 192) (
    zg (zin (fi 57 4) 192) (
    some (.inr (none, ((zup (zup ar 60 (zup (ar 60) (x.toNatClampNeg) y)) 61 (zup (ar 61) ((fi 57 4).toNatClampNeg) x)), (zup fi 57 (zup (fi 57) 4 ((fi 57 4) + 1))), (m1, m2, m3, m4, m5))))))) : Option ((Nat × List Value × List Value × zH2) ⊕ zO2)) := by with_unfolding_all rfl
set_option maxRecDepth 10000 in
theorem e_cu_visit {X : Nat × (Nat → Int32)} {ar fi : Nat → Nat → Int32} {m1 m2 m3 m4 m5 : Nat} {x y : Int32} (hG : g_cu_visit x y (ar 60) (fi 57 4) (ar 61) = true) : zseg X zFT zE0 zc_14 (fun _ => false) 400 0 [.ref 57, .int x, .int y] [] (ar, fi, (m1, m2, m3, m4, m5)) = some (.inr (none, ((zup (zup ar 60 (a0_cu_visit x y (ar 60) (fi 57 4) (ar 61))) 61 (a1_cu_visit x y (ar 60) (fi 57 4) (ar 61))), (zup fi 57 (zup (fi 57) 4 (f0_cu_visit x y (ar 60) (fi 57 4) (ar 61)))), (m1, m2, m3, m4, m5)))) := by
  rw [t_cu_visit]
  unfold g_cu_visit at hG
  unfold a0_cu_visit a1_cu_visit f0_cu_visit
  cases hc1 : (decide (0 ≤ (ar 60) (x.toNatClampNeg))) with
  | true =>
    try simp only [hc1, cond_true, cond_false] at hG ⊢
    all_goals try simp only [Bool.and_eq_true, Bool.true_and, Bool.and_true] at hG
    all_goals try simp only [hG, zg, cond_true, and_self]
    all_goals try simp only [zup_zup, zup_same]
    all_goals first | rfl | (refine congrArg some (congrArg Sum.inr (Prod.ext rfl (Prod.ext ?_ (Prod.ext ?_ rfl)))) <;> first | rfl | (funext b; simp only [zup]; (repeat' split) <;> first | rfl | omega | (subst_vars; rfl) | (subst_vars; funext k; simp only [zup]; (repeat' split) <;> first | rfl | omega | (subst_vars; rfl) | (simp_all; done))))
  | false =>
    try simp only [hc1, cond_true, cond_false] at hG ⊢
    cases hc2 : (decide (192 ≤ fi 57 4)) with
    | true =>
      try simp only [hc2, cond_true, cond_false] at hG ⊢
      all_goals try simp only [Bool.and_eq_true, Bool.true_and, Bool.and_true] at hG
      all_goals try simp only [hG, zg, cond_true, and_self]
      all_goals try simp only [zup_zup, zup_same]
      all_goals first | rfl | (refine congrArg some (congrArg Sum.inr (Prod.ext rfl (Prod.ext ?_ (Prod.ext ?_ rfl)))) <;> first | rfl | (funext b; simp only [zup]; (repeat' split) <;> first | rfl | omega | (subst_vars; rfl) | (subst_vars; funext k; simp only [zup]; (repeat' split) <;> first | rfl | omega | (subst_vars; rfl) | (simp_all; done))))
    | false =>
      try simp only [hc2, cond_true, cond_false] at hG ⊢
      all_goals try simp only [Bool.and_eq_true, Bool.true_and, Bool.and_true] at hG
      all_goals try simp only [hG, zg, cond_true, and_self]
      all_goals try simp only [zup_zup, zup_same]
      all_goals first | rfl | (refine congrArg some (congrArg Sum.inr (Prod.ext rfl (Prod.ext ?_ (Prod.ext ?_ rfl)))) <;> first | rfl | (funext b; simp only [zup]; (repeat' split) <;> first | rfl | omega | (subst_vars; rfl) | (subst_vars; funext k; simp only [zup]; (repeat' split) <;> first | rfl | omega | (subst_vars; rfl) | (simp_all; done))))
theorem ok_cu_visit (X : Nat × (Nat → Int32)) : zOkS X 14 S_cu_visit 1 := zOkS_new (zOkE_nil X 0) (by
  intro args g o h
  obtain ⟨ar, fi, m1, m2, m3, m4, m5⟩ := g
  unfold S_cu_visit P_cu_visit at h
  split at h
  · refine zb_el h (fun hI0 k0 => ?_) (fun _ h10 => ?_)
    · have h2 := Option.some.inj k0
      have hG := congrArg Prod.fst h2
      have ho := congrArg Prod.snd h2
      dsimp only at hG ho
      subst ho
      try simp only [Bool.and_eq_true] at hI0
      have j0 := hI0
      have e0 := Nat.eq_of_beq_eq_true j0
      subst e0
      exact zseg_ret (e_cu_visit hG)
    · cases h10
  · cases h)
def g_gr_reach (x : Int32) (y : Int32) (p0 : Nat → Int32) (p1 : Int32) (p2 : Nat → Int32) : Bool := (zin x 96) && (bif decide (0 ≤ p0 (x.toNatClampNeg)) then true else bif decide (96 ≤ p1) then true else (zin x 96) && (zin (p1) 96))
def a0_gr_reach (x : Int32) (y : Int32) (p0 : Nat → Int32) (p1 : Int32) (p2 : Nat → Int32) : Nat → Int32 := (bif decide (0 ≤ p0 (x.toNatClampNeg)) then p0 else (bif decide (96 ≤ p1) then p0 else (zup p0 (x.toNatClampNeg) y)))
def a1_gr_reach (x : Int32) (y : Int32) (p0 : Nat → Int32) (p1 : Int32) (p2 : Nat → Int32) : Nat → Int32 := (bif decide (0 ≤ p0 (x.toNatClampNeg)) then p2 else (bif decide (96 ≤ p1) then p2 else (zup p2 ((p1).toNatClampNeg) x)))
def f0_gr_reach (x : Int32) (y : Int32) (p0 : Nat → Int32) (p1 : Int32) (p2 : Nat → Int32) : Int32 := (bif decide (0 ≤ p0 (x.toNatClampNeg)) then p1 else (bif decide (96 ≤ p1) then p1 else (p1) + 1))
def P_gr_reach (G : Int32 → Int32 → (Nat → Int32) → Int32 → (Nat → Int32) → Bool) (A0 : Int32 → Int32 → (Nat → Int32) → Int32 → (Nat → Int32) → Nat → Int32) (A1 : Int32 → Int32 → (Nat → Int32) → Int32 → (Nat → Int32) → Nat → Int32) (F0 : Int32 → Int32 → (Nat → Int32) → Int32 → (Nat → Int32) → Int32) : zSp := fun as g => match as with
  | [.ref a, .int x, .int y] => bif Nat.beq a 52 then some (G x y (g.1 53) (g.2.1 52 1) (g.1 54), (none, ((zup (zup g.1 53 (A0 x y (g.1 53) (g.2.1 52 1) (g.1 54))) 54 (A1 x y (g.1 53) (g.2.1 52 1) (g.1 54))), (zup g.2.1 52 (zup (g.2.1 52) 1 (F0 x y (g.1 53) (g.2.1 52 1) (g.1 54)))), g.2.2))) else none
  | _ => none
abbrev S_gr_reach : zSp := P_gr_reach g_gr_reach a0_gr_reach a1_gr_reach f0_gr_reach
set_option maxRecDepth 10000 in
theorem t_gr_reach {X : Nat × (Nat → Int32)} {ar fi : Nat → Nat → Int32} {m1 m2 m3 m4 m5 : Nat} {x y : Int32} : zseg X zFT zE0 zc_28 (fun _ => false) 400 0 [.ref 52, .int x, .int y] [] (ar, fi, (m1, m2, m3, m4, m5)) = (
  zg (zin x 96) (
  bif decide (0 ≤ (ar 53) (x.toNatClampNeg)) then
   some (.inr (none, (ar, fi, (m1, m2, m3, m4, m5))))
  else
   bif decide (96 ≤ fi 52 1) then
    some (.inr (none, (ar, fi, (m1, m2, m3, m4, m5))))
   else
    zg (zin x 96) (
    zg (zin (fi 52 1) 96) (
    some (.inr (none, ((zup (zup ar 53 (zup (ar 53) (x.toNatClampNeg) y)) 54 (zup (ar 54) ((fi 52 1).toNatClampNeg) x)), (zup fi 52 (zup (fi 52) 1 ((fi 52 1) + 1))), (m1, m2, m3, m4, m5))))))) : Option ((Nat × List Value × List Value × zH2) ⊕ zO2)) := by with_unfolding_all rfl
set_option maxRecDepth 10000 in
theorem e_gr_reach {X : Nat × (Nat → Int32)} {ar fi : Nat → Nat → Int32} {m1 m2 m3 m4 m5 : Nat} {x y : Int32} (hG : g_gr_reach x y (ar 53) (fi 52 1) (ar 54) = true) : zseg X zFT zE0 zc_28 (fun _ => false) 400 0 [.ref 52, .int x, .int y] [] (ar, fi, (m1, m2, m3, m4, m5)) = some (.inr (none, ((zup (zup ar 53 (a0_gr_reach x y (ar 53) (fi 52 1) (ar 54))) 54 (a1_gr_reach x y (ar 53) (fi 52 1) (ar 54))), (zup fi 52 (zup (fi 52) 1 (f0_gr_reach x y (ar 53) (fi 52 1) (ar 54)))), (m1, m2, m3, m4, m5)))) := by
  rw [t_gr_reach]
  unfold g_gr_reach at hG
  unfold a0_gr_reach a1_gr_reach f0_gr_reach
  cases hc1 : (decide (0 ≤ (ar 53) (x.toNatClampNeg))) with
  | true =>
    try simp only [hc1, cond_true, cond_false] at hG ⊢
    all_goals try simp only [Bool.and_eq_true, Bool.true_and, Bool.and_true] at hG
    all_goals try simp only [hG, zg, cond_true, and_self]
    all_goals try simp only [zup_zup, zup_same]
    all_goals first | rfl | (refine congrArg some (congrArg Sum.inr (Prod.ext rfl (Prod.ext ?_ (Prod.ext ?_ rfl)))) <;> first | rfl | (funext b; simp only [zup]; (repeat' split) <;> first | rfl | omega | (subst_vars; rfl) | (subst_vars; funext k; simp only [zup]; (repeat' split) <;> first | rfl | omega | (subst_vars; rfl) | (simp_all; done))))
  | false =>
    try simp only [hc1, cond_true, cond_false] at hG ⊢
    cases hc2 : (decide (96 ≤ fi 52 1)) with
    | true =>
      try simp only [hc2, cond_true, cond_false] at hG ⊢
      all_goals try simp only [Bool.and_eq_true, Bool.true_and, Bool.and_true] at hG
      all_goals try simp only [hG, zg, cond_true, and_self]
      all_goals try simp only [zup_zup, zup_same]
      all_goals first | rfl | (refine congrArg some (congrArg Sum.inr (Prod.ext rfl (Prod.ext ?_ (Prod.ext ?_ rfl)))) <;> first | rfl | (funext b; simp only [zup]; (repeat' split) <;> first | rfl | omega | (subst_vars; rfl) | (subst_vars; funext k; simp only [zup]; (repeat' split) <;> first | rfl | omega | (subst_vars; rfl) | (simp_all; done))))
    | false =>
      try simp only [hc2, cond_true, cond_false] at hG ⊢
      all_goals try simp only [Bool.and_eq_true, Bool.true_and, Bool.and_true] at hG
      all_goals try simp only [hG, zg, cond_true, and_self]
      all_goals try simp only [zup_zup, zup_same]
      all_goals first | rfl | (refine congrArg some (congrArg Sum.inr (Prod.ext rfl (Prod.ext ?_ (Prod.ext ?_ rfl)))) <;> first | rfl | (funext b; simp only [zup]; (repeat' split) <;> first | rfl | omega | (subst_vars; rfl) | (subst_vars; funext k; simp only [zup]; (repeat' split) <;> first | rfl | omega | (subst_vars; rfl) | (simp_all; done))))
theorem ok_gr_reach (X : Nat × (Nat → Int32)) : zOkS X 28 S_gr_reach 1 := zOkS_new (zOkE_nil X 0) (by
  intro args g o h
  obtain ⟨ar, fi, m1, m2, m3, m4, m5⟩ := g
  unfold S_gr_reach P_gr_reach at h
  split at h
  · refine zb_el h (fun hI0 k0 => ?_) (fun _ h10 => ?_)
    · have h2 := Option.some.inj k0
      have hG := congrArg Prod.fst h2
      have ho := congrArg Prod.snd h2
      dsimp only at hG ho
      subst ho
      try simp only [Bool.and_eq_true] at hI0
      have j0 := hI0
      have e0 := Nat.eq_of_beq_eq_true j0
      subst e0
      exact zseg_ret (e_gr_reach hG)
    · cases h10
  · cases h)
def g_gr_isFreeAt (x : Int32) (y : Int32) (p0 : Nat → Int32) : Bool := (zin x 96) && (bif decide (p0 (x.toNatClampNeg) < 0) then true else zin x 96)
def w_gr_isFreeAt (x : Int32) (y : Int32) (p0 : Nat → Int32) : Int32 := (bif decide (p0 (x.toNatClampNeg) < 0) then 1 else (bif decide (p0 (x.toNatClampNeg) ≤ y) then 0 else 1))
def P_gr_isFreeAt (G : Int32 → Int32 → (Nat → Int32) → Bool) (W : Int32 → Int32 → (Nat → Int32) → Int32) : zSp := fun as g => match as with
  | [.ref a, .int x, .int y] => bif Nat.beq a 52 then some (G x y (g.1 53), (some (.int (W x y (g.1 53))), (g.1, g.2.1, g.2.2))) else none
  | _ => none
abbrev S_gr_isFreeAt : zSp := P_gr_isFreeAt g_gr_isFreeAt w_gr_isFreeAt
set_option maxRecDepth 10000 in
theorem t_gr_isFreeAt {X : Nat × (Nat → Int32)} {ar fi : Nat → Nat → Int32} {m1 m2 m3 m4 m5 : Nat} {x y : Int32} : zseg X zFT zE0 zc_33 (fun _ => false) 400 0 [.ref 52, .int x, .int y] [] (ar, fi, (m1, m2, m3, m4, m5)) = (
  zg (zin x 96) (
  bif decide ((ar 53) (x.toNatClampNeg) < 0) then
   some (.inr (some (.int 1), (ar, fi, (m1, m2, m3, m4, m5))))
  else
   zg (zin x 96) (
   bif decide ((ar 53) (x.toNatClampNeg) ≤ y) then
    some (.inr (some (.int 0), (ar, fi, (m1, m2, m3, m4, m5))))
   else
    some (.inr (some (.int 1), (ar, fi, (m1, m2, m3, m4, m5)))))) : Option ((Nat × List Value × List Value × zH2) ⊕ zO2)) := by with_unfolding_all rfl
set_option maxRecDepth 10000 in
theorem e_gr_isFreeAt {X : Nat × (Nat → Int32)} {ar fi : Nat → Nat → Int32} {m1 m2 m3 m4 m5 : Nat} {x y : Int32} (hG : g_gr_isFreeAt x y (ar 53) = true) : zseg X zFT zE0 zc_33 (fun _ => false) 400 0 [.ref 52, .int x, .int y] [] (ar, fi, (m1, m2, m3, m4, m5)) = some (.inr (some (.int (w_gr_isFreeAt x y (ar 53))), (ar, fi, (m1, m2, m3, m4, m5)))) := by
  rw [t_gr_isFreeAt]
  unfold g_gr_isFreeAt at hG
  unfold w_gr_isFreeAt
  cases hc1 : (decide ((ar 53) (x.toNatClampNeg) < 0)) with
  | true =>
    try simp only [hc1, cond_true, cond_false] at hG ⊢
    all_goals try simp only [Bool.and_eq_true, Bool.true_and, Bool.and_true] at hG
    all_goals try simp only [hG, zg, cond_true, and_self]
    all_goals first | rfl | (refine congrArg some (congrArg Sum.inr (Prod.ext rfl (Prod.ext ?_ (Prod.ext ?_ rfl)))) <;> first | rfl | (funext b; simp only [zup]; (repeat' split) <;> first | rfl | omega | (subst_vars; rfl) | (subst_vars; funext k; simp only [zup]; (repeat' split) <;> first | rfl | omega | (subst_vars; rfl) | (simp_all; done))))
  | false =>
    try simp only [hc1, cond_true, cond_false] at hG ⊢
    cases hc2 : (decide ((ar 53) (x.toNatClampNeg) ≤ y)) with
    | true =>
      try simp only [hc2, cond_true, cond_false] at hG ⊢
      all_goals try simp only [Bool.and_eq_true, Bool.true_and, Bool.and_true] at hG
      all_goals try simp only [hG, zg, cond_true, and_self]
      all_goals first | rfl | (refine congrArg some (congrArg Sum.inr (Prod.ext rfl (Prod.ext ?_ (Prod.ext ?_ rfl)))) <;> first | rfl | (funext b; simp only [zup]; (repeat' split) <;> first | rfl | omega | (subst_vars; rfl) | (subst_vars; funext k; simp only [zup]; (repeat' split) <;> first | rfl | omega | (subst_vars; rfl) | (simp_all; done))))
    | false =>
      try simp only [hc2, cond_true, cond_false] at hG ⊢
      all_goals try simp only [Bool.and_eq_true, Bool.true_and, Bool.and_true] at hG
      all_goals try simp only [hG, zg, cond_true, and_self]
      all_goals first | rfl | (refine congrArg some (congrArg Sum.inr (Prod.ext rfl (Prod.ext ?_ (Prod.ext ?_ rfl)))) <;> first | rfl | (funext b; simp only [zup]; (repeat' split) <;> first | rfl | omega | (subst_vars; rfl) | (subst_vars; funext k; simp only [zup]; (repeat' split) <;> first | rfl | omega | (subst_vars; rfl) | (simp_all; done))))
theorem ok_gr_isFreeAt (X : Nat × (Nat → Int32)) : zOkS X 33 S_gr_isFreeAt 1 := zOkS_new (zOkE_nil X 0) (by
  intro args g o h
  obtain ⟨ar, fi, m1, m2, m3, m4, m5⟩ := g
  unfold S_gr_isFreeAt P_gr_isFreeAt at h
  split at h
  · refine zb_el h (fun hI0 k0 => ?_) (fun _ h10 => ?_)
    · have h2 := Option.some.inj k0
      have hG := congrArg Prod.fst h2
      have ho := congrArg Prod.snd h2
      dsimp only at hG ho
      subst ho
      try simp only [Bool.and_eq_true] at hI0
      have j0 := hI0
      have e0 := Nat.eq_of_beq_eq_true j0
      subst e0
      exact zseg_ret (e_gr_isFreeAt hG)
    · cases h10
  · cases h)
def w_gr_isEdge (x : Int32) : Int32 := (bif decide (x - x / 12 * 12 = 0) then 1 else (bif decide (x - x / 12 * 12 = 11) then 1 else (bif decide (x / 12 = 0) then 1 else (bif !decide (x / 12 = 7) then 0 else 1))))
def P_gr_isEdge (W : Int32 → Int32) : zSp := fun as g => match as with
  | [.int x] => some (true, (some (.int (W x)), (g.1, g.2.1, g.2.2)))
  | _ => none
abbrev S_gr_isEdge : zSp := P_gr_isEdge w_gr_isEdge
set_option maxRecDepth 10000 in
theorem t_gr_isEdge {X : Nat × (Nat → Int32)} {ar fi : Nat → Nat → Int32} {m1 m2 m3 m4 m5 : Nat} {x : Int32} : zseg X zFT zE0 zc_34 (fun _ => false) 400 0 [.int x] [] (ar, fi, (m1, m2, m3, m4, m5)) = (
  bif decide (x - x / 12 * 12 = 0) then
   some (.inr (some (.int 1), (ar, fi, (m1, m2, m3, m4, m5))))
  else
   bif decide (x - x / 12 * 12 = 11) then
    some (.inr (some (.int 1), (ar, fi, (m1, m2, m3, m4, m5))))
   else
    bif decide (x / 12 = 0) then
     some (.inr (some (.int 1), (ar, fi, (m1, m2, m3, m4, m5))))
    else
     bif !decide (x / 12 = 7) then
      some (.inr (some (.int 0), (ar, fi, (m1, m2, m3, m4, m5))))
     else
      some (.inr (some (.int 1), (ar, fi, (m1, m2, m3, m4, m5)))) : Option ((Nat × List Value × List Value × zH2) ⊕ zO2)) := rfl
set_option maxRecDepth 10000 in
theorem e_gr_isEdge {X : Nat × (Nat → Int32)} {ar fi : Nat → Nat → Int32} {m1 m2 m3 m4 m5 : Nat} {x : Int32} : zseg X zFT zE0 zc_34 (fun _ => false) 400 0 [.int x] [] (ar, fi, (m1, m2, m3, m4, m5)) = some (.inr (some (.int (w_gr_isEdge x)), (ar, fi, (m1, m2, m3, m4, m5)))) := by
  rw [t_gr_isEdge]
  unfold w_gr_isEdge
  cases hc1 : (decide (x - x / 12 * 12 = 0)) with
  | true =>
    try simp only [hc1, cond_true, cond_false]
    all_goals first | rfl | (refine congrArg some (congrArg Sum.inr (Prod.ext rfl (Prod.ext ?_ (Prod.ext ?_ rfl)))) <;> first | rfl | (funext b; simp only [zup]; (repeat' split) <;> first | rfl | omega | (subst_vars; rfl) | (subst_vars; funext k; simp only [zup]; (repeat' split) <;> first | rfl | omega | (subst_vars; rfl) | (simp_all; done))))
  | false =>
    try simp only [hc1, cond_true, cond_false]
    cases hc2 : (decide (x - x / 12 * 12 = 11)) with
    | true =>
      try simp only [hc2, cond_true, cond_false]
      all_goals first | rfl | (refine congrArg some (congrArg Sum.inr (Prod.ext rfl (Prod.ext ?_ (Prod.ext ?_ rfl)))) <;> first | rfl | (funext b; simp only [zup]; (repeat' split) <;> first | rfl | omega | (subst_vars; rfl) | (subst_vars; funext k; simp only [zup]; (repeat' split) <;> first | rfl | omega | (subst_vars; rfl) | (simp_all; done))))
    | false =>
      try simp only [hc2, cond_true, cond_false]
      cases hc3 : (decide (x / 12 = 0)) with
      | true =>
        try simp only [hc3, cond_true, cond_false]
        all_goals first | rfl | (refine congrArg some (congrArg Sum.inr (Prod.ext rfl (Prod.ext ?_ (Prod.ext ?_ rfl)))) <;> first | rfl | (funext b; simp only [zup]; (repeat' split) <;> first | rfl | omega | (subst_vars; rfl) | (subst_vars; funext k; simp only [zup]; (repeat' split) <;> first | rfl | omega | (subst_vars; rfl) | (simp_all; done))))
      | false =>
        try simp only [hc3, cond_true, cond_false]
        cases hc4 : (!decide (x / 12 = 7)) with
        | true =>
          try simp only [hc4, cond_true, cond_false]
          all_goals first | rfl | (refine congrArg some (congrArg Sum.inr (Prod.ext rfl (Prod.ext ?_ (Prod.ext ?_ rfl)))) <;> first | rfl | (funext b; simp only [zup]; (repeat' split) <;> first | rfl | omega | (subst_vars; rfl) | (subst_vars; funext k; simp only [zup]; (repeat' split) <;> first | rfl | omega | (subst_vars; rfl) | (simp_all; done))))
        | false =>
          try simp only [hc4, cond_true, cond_false]
          all_goals first | rfl | (refine congrArg some (congrArg Sum.inr (Prod.ext rfl (Prod.ext ?_ (Prod.ext ?_ rfl)))) <;> first | rfl | (funext b; simp only [zup]; (repeat' split) <;> first | rfl | omega | (subst_vars; rfl) | (subst_vars; funext k; simp only [zup]; (repeat' split) <;> first | rfl | omega | (subst_vars; rfl) | (simp_all; done))))
theorem ok_gr_isEdge (X : Nat × (Nat → Int32)) : zOkS X 34 S_gr_isEdge 1 := zOkS_new (zOkE_nil X 0) (by
  intro args g o h
  obtain ⟨ar, fi, m1, m2, m3, m4, m5⟩ := g
  unfold S_gr_isEdge P_gr_isEdge at h
  split at h
  · have h2 := Option.some.inj h
    have hG := congrArg Prod.fst h2
    have ho := congrArg Prod.snd h2
    dsimp only at hG ho
    subst ho
    exact zseg_ret (e_gr_isEdge)
  · cases h)
def f0_lw_clear : Int32 := 0
def f1_lw_clear : Int32 := 0
def f2_lw_clear : Int32 := 0
def P_lw_clear (F0 : Int32) (F1 : Int32) (F2 : Int32) : zSp := fun as g => match as with
  | [.ref a] => bif Nat.beq a 23 then some (true, (none, (g.1, (zup (zup (zup g.2.1 23 (zup (g.2.1 23) 7 (F0))) 23 (zup ((zup g.2.1 23 (zup (g.2.1 23) 7 (F0))) 23) 8 (F1))) 23 (zup ((zup (zup g.2.1 23 (zup (g.2.1 23) 7 (F0))) 23 (zup ((zup g.2.1 23 (zup (g.2.1 23) 7 (F0))) 23) 8 (F1))) 23) 9 (F2))), g.2.2))) else bif Nat.beq a 31 then some (true, (none, (g.1, (zup (zup (zup g.2.1 31 (zup (g.2.1 31) 7 (F0))) 31 (zup ((zup g.2.1 31 (zup (g.2.1 31) 7 (F0))) 31) 8 (F1))) 31 (zup ((zup (zup g.2.1 31 (zup (g.2.1 31) 7 (F0))) 31 (zup ((zup g.2.1 31 (zup (g.2.1 31) 7 (F0))) 31) 8 (F1))) 31) 9 (F2))), g.2.2))) else none
  | _ => none
abbrev S_lw_clear : zSp := P_lw_clear f0_lw_clear f1_lw_clear f2_lw_clear
set_option maxRecDepth 10000 in
theorem t_lw_clear_23 {X : Nat × (Nat → Int32)} {ar fi : Nat → Nat → Int32} {m1 m2 m3 m4 m5 : Nat} : zseg X zFT zE0 zc_36 (fun _ => false) 400 0 [.ref 23] [] (ar, fi, (m1, m2, m3, m4, m5)) = (
  some (.inr (none, (ar, (zup (zup (zup fi 23 (zup (fi 23) 7 0)) 23 (zup ((zup fi 23 (zup (fi 23) 7 0)) 23) 9 0)) 23 (zup ((zup (zup fi 23 (zup (fi 23) 7 0)) 23 (zup ((zup fi 23 (zup (fi 23) 7 0)) 23) 9 0)) 23) 8 0)), (m1, m2, m3, m4, m5)))) : Option ((Nat × List Value × List Value × zH2) ⊕ zO2)) := by with_unfolding_all rfl
set_option maxRecDepth 10000 in
theorem e_lw_clear_23 {X : Nat × (Nat → Int32)} {ar fi : Nat → Nat → Int32} {m1 m2 m3 m4 m5 : Nat} : zseg X zFT zE0 zc_36 (fun _ => false) 400 0 [.ref 23] [] (ar, fi, (m1, m2, m3, m4, m5)) = some (.inr (none, (ar, (zup (zup (zup fi 23 (zup (fi 23) 7 (f0_lw_clear))) 23 (zup ((zup fi 23 (zup (fi 23) 7 (f0_lw_clear))) 23) 8 (f1_lw_clear))) 23 (zup ((zup (zup fi 23 (zup (fi 23) 7 (f0_lw_clear))) 23 (zup ((zup fi 23 (zup (fi 23) 7 (f0_lw_clear))) 23) 8 (f1_lw_clear))) 23) 9 (f2_lw_clear))), (m1, m2, m3, m4, m5)))) := by
  rw [t_lw_clear_23]
  unfold f0_lw_clear f1_lw_clear f2_lw_clear
  all_goals try simp only [zup_zup, zup_same]
  all_goals first | rfl | (refine congrArg some (congrArg Sum.inr (Prod.ext rfl (Prod.ext ?_ (Prod.ext ?_ rfl)))) <;> first | rfl | (funext b; simp only [zup]; (repeat' split) <;> first | rfl | omega | (subst_vars; rfl) | (subst_vars; funext k; simp only [zup]; (repeat' split) <;> first | rfl | omega | (subst_vars; rfl) | (simp_all; done))))
set_option maxRecDepth 10000 in
theorem t_lw_clear_31 {X : Nat × (Nat → Int32)} {ar fi : Nat → Nat → Int32} {m1 m2 m3 m4 m5 : Nat} : zseg X zFT zE0 zc_36 (fun _ => false) 400 0 [.ref 31] [] (ar, fi, (m1, m2, m3, m4, m5)) = (
  some (.inr (none, (ar, (zup (zup (zup fi 31 (zup (fi 31) 7 0)) 31 (zup ((zup fi 31 (zup (fi 31) 7 0)) 31) 9 0)) 31 (zup ((zup (zup fi 31 (zup (fi 31) 7 0)) 31 (zup ((zup fi 31 (zup (fi 31) 7 0)) 31) 9 0)) 31) 8 0)), (m1, m2, m3, m4, m5)))) : Option ((Nat × List Value × List Value × zH2) ⊕ zO2)) := by with_unfolding_all rfl
set_option maxRecDepth 10000 in
theorem e_lw_clear_31 {X : Nat × (Nat → Int32)} {ar fi : Nat → Nat → Int32} {m1 m2 m3 m4 m5 : Nat} : zseg X zFT zE0 zc_36 (fun _ => false) 400 0 [.ref 31] [] (ar, fi, (m1, m2, m3, m4, m5)) = some (.inr (none, (ar, (zup (zup (zup fi 31 (zup (fi 31) 7 (f0_lw_clear))) 31 (zup ((zup fi 31 (zup (fi 31) 7 (f0_lw_clear))) 31) 8 (f1_lw_clear))) 31 (zup ((zup (zup fi 31 (zup (fi 31) 7 (f0_lw_clear))) 31 (zup ((zup fi 31 (zup (fi 31) 7 (f0_lw_clear))) 31) 8 (f1_lw_clear))) 31) 9 (f2_lw_clear))), (m1, m2, m3, m4, m5)))) := by
  rw [t_lw_clear_31]
  unfold f0_lw_clear f1_lw_clear f2_lw_clear
  all_goals try simp only [zup_zup, zup_same]
  all_goals first | rfl | (refine congrArg some (congrArg Sum.inr (Prod.ext rfl (Prod.ext ?_ (Prod.ext ?_ rfl)))) <;> first | rfl | (funext b; simp only [zup]; (repeat' split) <;> first | rfl | omega | (subst_vars; rfl) | (subst_vars; funext k; simp only [zup]; (repeat' split) <;> first | rfl | omega | (subst_vars; rfl) | (simp_all; done))))
theorem ok_lw_clear (X : Nat × (Nat → Int32)) : zOkS X 36 S_lw_clear 1 := zOkS_new (zOkE_nil X 0) (by
  intro args g o h
  obtain ⟨ar, fi, m1, m2, m3, m4, m5⟩ := g
  unfold S_lw_clear P_lw_clear at h
  split at h
  · refine zb_el h (fun hI0 k0 => ?_) (fun _ h10 => ?_)
    · have h2 := Option.some.inj k0
      have hG := congrArg Prod.fst h2
      have ho := congrArg Prod.snd h2
      dsimp only at hG ho
      subst ho
      try simp only [Bool.and_eq_true] at hI0
      have j0 := hI0
      have e0 := Nat.eq_of_beq_eq_true j0
      subst e0
      exact zseg_ret (e_lw_clear_23)
    · skip
      refine zb_el h10 (fun hI1 k1 => ?_) (fun _ h11 => ?_)
      · have h2 := Option.some.inj k1
        have hG := congrArg Prod.fst h2
        have ho := congrArg Prod.snd h2
        dsimp only at hG ho
        subst ho
        try simp only [Bool.and_eq_true] at hI1
        have j0 := hI1
        have e0 := Nat.eq_of_beq_eq_true j0
        subst e0
        exact zseg_ret (e_lw_clear_31)
      · cases h11
  · cases h)
def g_lw_beginRule (x : Int32) (p0 : Int32) (p1 : Nat → Int32) (p2 : Nat → Int32) (p3 : Int32) : Bool := bif decide (16 ≤ p0) then true else (zin (p0) 16) && (zin (p0) 16)
def a0_lw_beginRule (x : Int32) (p0 : Int32) (p1 : Nat → Int32) (p2 : Nat → Int32) (p3 : Int32) : Nat → Int32 := (bif decide (16 ≤ p0) then p1 else (zup p1 ((p0).toNatClampNeg) x))
def a1_lw_beginRule (x : Int32) (p0 : Int32) (p1 : Nat → Int32) (p2 : Nat → Int32) (p3 : Int32) : Nat → Int32 := (bif decide (16 ≤ p0) then p2 else (zup p2 ((p0).toNatClampNeg) (p3)))
def P_lw_beginRule (G : Int32 → Int32 → (Nat → Int32) → (Nat → Int32) → Int32 → Bool) (A0 : Int32 → Int32 → (Nat → Int32) → (Nat → Int32) → Int32 → Nat → Int32) (A1 : Int32 → Int32 → (Nat → Int32) → (Nat → Int32) → Int32 → Nat → Int32) : zSp := fun as g => match as with
  | [.ref a, .int x] => bif Nat.beq a 23 then some (G x (g.2.1 23 9) (g.1 27) (g.1 28) (g.2.1 23 7), (none, ((zup (zup g.1 27 (A0 x (g.2.1 23 9) (g.1 27) (g.1 28) (g.2.1 23 7))) 28 (A1 x (g.2.1 23 9) (g.1 27) (g.1 28) (g.2.1 23 7))), g.2.1, g.2.2))) else bif Nat.beq a 31 then some (G x (g.2.1 31 9) (g.1 35) (g.1 36) (g.2.1 31 7), (none, ((zup (zup g.1 35 (A0 x (g.2.1 31 9) (g.1 35) (g.1 36) (g.2.1 31 7))) 36 (A1 x (g.2.1 31 9) (g.1 35) (g.1 36) (g.2.1 31 7))), g.2.1, g.2.2))) else none
  | _ => none
abbrev S_lw_beginRule : zSp := P_lw_beginRule g_lw_beginRule a0_lw_beginRule a1_lw_beginRule
set_option maxRecDepth 10000 in
theorem t_lw_beginRule_23 {X : Nat × (Nat → Int32)} {ar fi : Nat → Nat → Int32} {m1 m2 m3 m4 m5 : Nat} {x : Int32} : zseg X zFT zE0 zc_37 (fun _ => false) 400 0 [.ref 23, .int x] [] (ar, fi, (m1, m2, m3, m4, m5)) = (
  bif decide (16 ≤ fi 23 9) then
   some (.inr (none, (ar, fi, (m1, m2, m3, m4, m5))))
  else
   zg (zin (fi 23 9) 16) (
   zg (zin (fi 23 9) 16) (
   some (.inr (none, ((zup (zup ar 27 (zup (ar 27) ((fi 23 9).toNatClampNeg) x)) 28 (zup (ar 28) ((fi 23 9).toNatClampNeg) (fi 23 7))), fi, (m1, m2, m3, m4, m5)))))) : Option ((Nat × List Value × List Value × zH2) ⊕ zO2)) := by with_unfolding_all rfl
set_option maxRecDepth 10000 in
theorem e_lw_beginRule_23 {X : Nat × (Nat → Int32)} {ar fi : Nat → Nat → Int32} {m1 m2 m3 m4 m5 : Nat} {x : Int32} (hG : g_lw_beginRule x (fi 23 9) (ar 27) (ar 28) (fi 23 7) = true) : zseg X zFT zE0 zc_37 (fun _ => false) 400 0 [.ref 23, .int x] [] (ar, fi, (m1, m2, m3, m4, m5)) = some (.inr (none, ((zup (zup ar 27 (a0_lw_beginRule x (fi 23 9) (ar 27) (ar 28) (fi 23 7))) 28 (a1_lw_beginRule x (fi 23 9) (ar 27) (ar 28) (fi 23 7))), fi, (m1, m2, m3, m4, m5)))) := by
  rw [t_lw_beginRule_23]
  unfold g_lw_beginRule at hG
  unfold a0_lw_beginRule a1_lw_beginRule
  cases hc1 : (decide (16 ≤ fi 23 9)) with
  | true =>
    try simp only [hc1, cond_true, cond_false] at hG ⊢
    all_goals try simp only [Bool.and_eq_true, Bool.true_and, Bool.and_true] at hG
    all_goals try simp only [hG, zg, cond_true, and_self]
    all_goals try simp only [zup_zup, zup_same]
    all_goals first | rfl | (refine congrArg some (congrArg Sum.inr (Prod.ext rfl (Prod.ext ?_ (Prod.ext ?_ rfl)))) <;> first | rfl | (funext b; simp only [zup]; (repeat' split) <;> first | rfl | omega | (subst_vars; rfl) | (subst_vars; funext k; simp only [zup]; (repeat' split) <;> first | rfl | omega | (subst_vars; rfl) | (simp_all; done))))
  | false =>
    try simp only [hc1, cond_true, cond_false] at hG ⊢
    all_goals try simp only [Bool.and_eq_true, Bool.true_and, Bool.and_true] at hG
    all_goals try simp only [hG, zg, cond_true, and_self]
    all_goals try simp only [zup_zup, zup_same]
    all_goals first | rfl | (refine congrArg some (congrArg Sum.inr (Prod.ext rfl (Prod.ext ?_ (Prod.ext ?_ rfl)))) <;> first | rfl | (funext b; simp only [zup]; (repeat' split) <;> first | rfl | omega | (subst_vars; rfl) | (subst_vars; funext k; simp only [zup]; (repeat' split) <;> first | rfl | omega | (subst_vars; rfl) | (simp_all; done))))
set_option maxRecDepth 10000 in
theorem t_lw_beginRule_31 {X : Nat × (Nat → Int32)} {ar fi : Nat → Nat → Int32} {m1 m2 m3 m4 m5 : Nat} {x : Int32} : zseg X zFT zE0 zc_37 (fun _ => false) 400 0 [.ref 31, .int x] [] (ar, fi, (m1, m2, m3, m4, m5)) = (
  bif decide (16 ≤ fi 31 9) then
   some (.inr (none, (ar, fi, (m1, m2, m3, m4, m5))))
  else
   zg (zin (fi 31 9) 16) (
   zg (zin (fi 31 9) 16) (
   some (.inr (none, ((zup (zup ar 35 (zup (ar 35) ((fi 31 9).toNatClampNeg) x)) 36 (zup (ar 36) ((fi 31 9).toNatClampNeg) (fi 31 7))), fi, (m1, m2, m3, m4, m5)))))) : Option ((Nat × List Value × List Value × zH2) ⊕ zO2)) := by with_unfolding_all rfl
set_option maxRecDepth 10000 in
theorem e_lw_beginRule_31 {X : Nat × (Nat → Int32)} {ar fi : Nat → Nat → Int32} {m1 m2 m3 m4 m5 : Nat} {x : Int32} (hG : g_lw_beginRule x (fi 31 9) (ar 35) (ar 36) (fi 31 7) = true) : zseg X zFT zE0 zc_37 (fun _ => false) 400 0 [.ref 31, .int x] [] (ar, fi, (m1, m2, m3, m4, m5)) = some (.inr (none, ((zup (zup ar 35 (a0_lw_beginRule x (fi 31 9) (ar 35) (ar 36) (fi 31 7))) 36 (a1_lw_beginRule x (fi 31 9) (ar 35) (ar 36) (fi 31 7))), fi, (m1, m2, m3, m4, m5)))) := by
  rw [t_lw_beginRule_31]
  unfold g_lw_beginRule at hG
  unfold a0_lw_beginRule a1_lw_beginRule
  cases hc1 : (decide (16 ≤ fi 31 9)) with
  | true =>
    try simp only [hc1, cond_true, cond_false] at hG ⊢
    all_goals try simp only [Bool.and_eq_true, Bool.true_and, Bool.and_true] at hG
    all_goals try simp only [hG, zg, cond_true, and_self]
    all_goals try simp only [zup_zup, zup_same]
    all_goals first | rfl | (refine congrArg some (congrArg Sum.inr (Prod.ext rfl (Prod.ext ?_ (Prod.ext ?_ rfl)))) <;> first | rfl | (funext b; simp only [zup]; (repeat' split) <;> first | rfl | omega | (subst_vars; rfl) | (subst_vars; funext k; simp only [zup]; (repeat' split) <;> first | rfl | omega | (subst_vars; rfl) | (simp_all; done))))
  | false =>
    try simp only [hc1, cond_true, cond_false] at hG ⊢
    all_goals try simp only [Bool.and_eq_true, Bool.true_and, Bool.and_true] at hG
    all_goals try simp only [hG, zg, cond_true, and_self]
    all_goals try simp only [zup_zup, zup_same]
    all_goals first | rfl | (refine congrArg some (congrArg Sum.inr (Prod.ext rfl (Prod.ext ?_ (Prod.ext ?_ rfl)))) <;> first | rfl | (funext b; simp only [zup]; (repeat' split) <;> first | rfl | omega | (subst_vars; rfl) | (subst_vars; funext k; simp only [zup]; (repeat' split) <;> first | rfl | omega | (subst_vars; rfl) | (simp_all; done))))
theorem ok_lw_beginRule (X : Nat × (Nat → Int32)) : zOkS X 37 S_lw_beginRule 1 := zOkS_new (zOkE_nil X 0) (by
  intro args g o h
  obtain ⟨ar, fi, m1, m2, m3, m4, m5⟩ := g
  unfold S_lw_beginRule P_lw_beginRule at h
  split at h
  · refine zb_el h (fun hI0 k0 => ?_) (fun _ h10 => ?_)
    · have h2 := Option.some.inj k0
      have hG := congrArg Prod.fst h2
      have ho := congrArg Prod.snd h2
      dsimp only at hG ho
      subst ho
      try simp only [Bool.and_eq_true] at hI0
      have j0 := hI0
      have e0 := Nat.eq_of_beq_eq_true j0
      subst e0
      exact zseg_ret (e_lw_beginRule_23 hG)
    · skip
      refine zb_el h10 (fun hI1 k1 => ?_) (fun _ h11 => ?_)
      · have h2 := Option.some.inj k1
        have hG := congrArg Prod.fst h2
        have ho := congrArg Prod.snd h2
        dsimp only at hG ho
        subst ho
        try simp only [Bool.and_eq_true] at hI1
        have j0 := hI1
        have e0 := Nat.eq_of_beq_eq_true j0
        subst e0
        exact zseg_ret (e_lw_beginRule_31 hG)
      · cases h11
  · cases h)
def g_lw_beginCondition (p0 : Int32) (p1 : Nat → Int32) (p2 : Int32) : Bool := bif decide (16 ≤ p0) then true else zin (p0) 16
def a0_lw_beginCondition (p0 : Int32) (p1 : Nat → Int32) (p2 : Int32) : Nat → Int32 := (bif decide (16 ≤ p0) then p1 else (zup p1 ((p0).toNatClampNeg) (p2)))
def P_lw_beginCondition (G : Int32 → (Nat → Int32) → Int32 → Bool) (A0 : Int32 → (Nat → Int32) → Int32 → Nat → Int32) : zSp := fun as g => match as with
  | [.ref a] => bif Nat.beq a 23 then some (G (g.2.1 23 9) (g.1 29) (g.2.1 23 7), (none, ((zup g.1 29 (A0 (g.2.1 23 9) (g.1 29) (g.2.1 23 7))), g.2.1, g.2.2))) else bif Nat.beq a 31 then some (G (g.2.1 31 9) (g.1 37) (g.2.1 31 7), (none, ((zup g.1 37 (A0 (g.2.1 31 9) (g.1 37) (g.2.1 31 7))), g.2.1, g.2.2))) else none
  | _ => none
abbrev S_lw_beginCondition : zSp := P_lw_beginCondition g_lw_beginCondition a0_lw_beginCondition
set_option maxRecDepth 10000 in
theorem t_lw_beginCondition_23 {X : Nat × (Nat → Int32)} {ar fi : Nat → Nat → Int32} {m1 m2 m3 m4 m5 : Nat} : zseg X zFT zE0 zc_38 (fun _ => false) 400 0 [.ref 23] [] (ar, fi, (m1, m2, m3, m4, m5)) = (
  bif decide (16 ≤ fi 23 9) then
   some (.inr (none, (ar, fi, (m1, m2, m3, m4, m5))))
  else
   zg (zin (fi 23 9) 16) (
   some (.inr (none, ((zup ar 29 (zup (ar 29) ((fi 23 9).toNatClampNeg) (fi 23 7))), fi, (m1, m2, m3, m4, m5))))) : Option ((Nat × List Value × List Value × zH2) ⊕ zO2)) := by with_unfolding_all rfl
set_option maxRecDepth 10000 in
theorem e_lw_beginCondition_23 {X : Nat × (Nat → Int32)} {ar fi : Nat → Nat → Int32} {m1 m2 m3 m4 m5 : Nat} (hG : g_lw_beginCondition (fi 23 9) (ar 29) (fi 23 7) = true) : zseg X zFT zE0 zc_38 (fun _ => false) 400 0 [.ref 23] [] (ar, fi, (m1, m2, m3, m4, m5)) = some (.inr (none, ((zup ar 29 (a0_lw_beginCondition (fi 23 9) (ar 29) (fi 23 7))), fi, (m1, m2, m3, m4, m5)))) := by
  rw [t_lw_beginCondition_23]
  unfold g_lw_beginCondition at hG
  unfold a0_lw_beginCondition
  cases hc1 : (decide (16 ≤ fi 23 9)) with
  | true =>
    try simp only [hc1, cond_true, cond_false] at hG ⊢
    all_goals try simp only [Bool.and_eq_true, Bool.true_and, Bool.and_true] at hG
    all_goals try simp only [hG, zg, cond_true, and_self]
    all_goals first | rfl | (refine congrArg some (congrArg Sum.inr (Prod.ext rfl (Prod.ext ?_ (Prod.ext ?_ rfl)))) <;> first | rfl | (funext b; simp only [zup]; (repeat' split) <;> first | rfl | omega | (subst_vars; rfl) | (subst_vars; funext k; simp only [zup]; (repeat' split) <;> first | rfl | omega | (subst_vars; rfl) | (simp_all; done))))
  | false =>
    try simp only [hc1, cond_true, cond_false] at hG ⊢
    all_goals try simp only [Bool.and_eq_true, Bool.true_and, Bool.and_true] at hG
    all_goals try simp only [hG, zg, cond_true, and_self]
    all_goals first | rfl | (refine congrArg some (congrArg Sum.inr (Prod.ext rfl (Prod.ext ?_ (Prod.ext ?_ rfl)))) <;> first | rfl | (funext b; simp only [zup]; (repeat' split) <;> first | rfl | omega | (subst_vars; rfl) | (subst_vars; funext k; simp only [zup]; (repeat' split) <;> first | rfl | omega | (subst_vars; rfl) | (simp_all; done))))
set_option maxRecDepth 10000 in
theorem t_lw_beginCondition_31 {X : Nat × (Nat → Int32)} {ar fi : Nat → Nat → Int32} {m1 m2 m3 m4 m5 : Nat} : zseg X zFT zE0 zc_38 (fun _ => false) 400 0 [.ref 31] [] (ar, fi, (m1, m2, m3, m4, m5)) = (
  bif decide (16 ≤ fi 31 9) then
   some (.inr (none, (ar, fi, (m1, m2, m3, m4, m5))))
  else
   zg (zin (fi 31 9) 16) (
   some (.inr (none, ((zup ar 37 (zup (ar 37) ((fi 31 9).toNatClampNeg) (fi 31 7))), fi, (m1, m2, m3, m4, m5))))) : Option ((Nat × List Value × List Value × zH2) ⊕ zO2)) := by with_unfolding_all rfl
set_option maxRecDepth 10000 in
theorem e_lw_beginCondition_31 {X : Nat × (Nat → Int32)} {ar fi : Nat → Nat → Int32} {m1 m2 m3 m4 m5 : Nat} (hG : g_lw_beginCondition (fi 31 9) (ar 37) (fi 31 7) = true) : zseg X zFT zE0 zc_38 (fun _ => false) 400 0 [.ref 31] [] (ar, fi, (m1, m2, m3, m4, m5)) = some (.inr (none, ((zup ar 37 (a0_lw_beginCondition (fi 31 9) (ar 37) (fi 31 7))), fi, (m1, m2, m3, m4, m5)))) := by
  rw [t_lw_beginCondition_31]
  unfold g_lw_beginCondition at hG
  unfold a0_lw_beginCondition
  cases hc1 : (decide (16 ≤ fi 31 9)) with
  | true =>
    try simp only [hc1, cond_true, cond_false] at hG ⊢
    all_goals try simp only [Bool.and_eq_true, Bool.true_and, Bool.and_true] at hG
    all_goals try simp only [hG, zg, cond_true, and_self]
    all_goals first | rfl | (refine congrArg some (congrArg Sum.inr (Prod.ext rfl (Prod.ext ?_ (Prod.ext ?_ rfl)))) <;> first | rfl | (funext b; simp only [zup]; (repeat' split) <;> first | rfl | omega | (subst_vars; rfl) | (subst_vars; funext k; simp only [zup]; (repeat' split) <;> first | rfl | omega | (subst_vars; rfl) | (simp_all; done))))
  | false =>
    try simp only [hc1, cond_true, cond_false] at hG ⊢
    all_goals try simp only [Bool.and_eq_true, Bool.true_and, Bool.and_true] at hG
    all_goals try simp only [hG, zg, cond_true, and_self]
    all_goals first | rfl | (refine congrArg some (congrArg Sum.inr (Prod.ext rfl (Prod.ext ?_ (Prod.ext ?_ rfl)))) <;> first | rfl | (funext b; simp only [zup]; (repeat' split) <;> first | rfl | omega | (subst_vars; rfl) | (subst_vars; funext k; simp only [zup]; (repeat' split) <;> first | rfl | omega | (subst_vars; rfl) | (simp_all; done))))
theorem ok_lw_beginCondition (X : Nat × (Nat → Int32)) : zOkS X 38 S_lw_beginCondition 1 := zOkS_new (zOkE_nil X 0) (by
  intro args g o h
  obtain ⟨ar, fi, m1, m2, m3, m4, m5⟩ := g
  unfold S_lw_beginCondition P_lw_beginCondition at h
  split at h
  · refine zb_el h (fun hI0 k0 => ?_) (fun _ h10 => ?_)
    · have h2 := Option.some.inj k0
      have hG := congrArg Prod.fst h2
      have ho := congrArg Prod.snd h2
      dsimp only at hG ho
      subst ho
      try simp only [Bool.and_eq_true] at hI0
      have j0 := hI0
      have e0 := Nat.eq_of_beq_eq_true j0
      subst e0
      exact zseg_ret (e_lw_beginCondition_23 hG)
    · skip
      refine zb_el h10 (fun hI1 k1 => ?_) (fun _ h11 => ?_)
      · have h2 := Option.some.inj k1
        have hG := congrArg Prod.fst h2
        have ho := congrArg Prod.snd h2
        dsimp only at hG ho
        subst ho
        try simp only [Bool.and_eq_true] at hI1
        have j0 := hI1
        have e0 := Nat.eq_of_beq_eq_true j0
        subst e0
        exact zseg_ret (e_lw_beginCondition_31 hG)
      · cases h11
  · cases h)
def g_lw_endRule (p0 : Int32) (p1 : Nat → Int32) (p2 : Int32) : Bool := bif decide (16 ≤ p0) then true else zin (p0) 16
def a0_lw_endRule (p0 : Int32) (p1 : Nat → Int32) (p2 : Int32) : Nat → Int32 := (bif decide (16 ≤ p0) then p1 else (zup p1 ((p0).toNatClampNeg) (p2)))
def f0_lw_endRule (p0 : Int32) (p1 : Nat → Int32) (p2 : Int32) : Int32 := (bif decide (16 ≤ p0) then p0 else (p0) + 1)
def P_lw_endRule (G : Int32 → (Nat → Int32) → Int32 → Bool) (A0 : Int32 → (Nat → Int32) → Int32 → Nat → Int32) (F0 : Int32 → (Nat → Int32) → Int32 → Int32) : zSp := fun as g => match as with
  | [.ref a] => bif Nat.beq a 23 then some (G (g.2.1 23 9) (g.1 30) (g.2.1 23 7), (none, ((zup g.1 30 (A0 (g.2.1 23 9) (g.1 30) (g.2.1 23 7))), (zup g.2.1 23 (zup (g.2.1 23) 9 (F0 (g.2.1 23 9) (g.1 30) (g.2.1 23 7)))), g.2.2))) else bif Nat.beq a 31 then some (G (g.2.1 31 9) (g.1 38) (g.2.1 31 7), (none, ((zup g.1 38 (A0 (g.2.1 31 9) (g.1 38) (g.2.1 31 7))), (zup g.2.1 31 (zup (g.2.1 31) 9 (F0 (g.2.1 31 9) (g.1 38) (g.2.1 31 7)))), g.2.2))) else none
  | _ => none
abbrev S_lw_endRule : zSp := P_lw_endRule g_lw_endRule a0_lw_endRule f0_lw_endRule
set_option maxRecDepth 10000 in
theorem t_lw_endRule_23 {X : Nat × (Nat → Int32)} {ar fi : Nat → Nat → Int32} {m1 m2 m3 m4 m5 : Nat} : zseg X zFT zE0 zc_39 (fun _ => false) 400 0 [.ref 23] [] (ar, fi, (m1, m2, m3, m4, m5)) = (
  bif decide (16 ≤ fi 23 9) then
   some (.inr (none, (ar, fi, (m1, m2, m3, m4, m5))))
  else
   zg (zin (fi 23 9) 16) (
   some (.inr (none, ((zup ar 30 (zup (ar 30) ((fi 23 9).toNatClampNeg) (fi 23 7))), (zup fi 23 (zup (fi 23) 9 ((fi 23 9) + 1))), (m1, m2, m3, m4, m5))))) : Option ((Nat × List Value × List Value × zH2) ⊕ zO2)) := by with_unfolding_all rfl
set_option maxRecDepth 10000 in
theorem e_lw_endRule_23 {X : Nat × (Nat → Int32)} {ar fi : Nat → Nat → Int32} {m1 m2 m3 m4 m5 : Nat} (hG : g_lw_endRule (fi 23 9) (ar 30) (fi 23 7) = true) : zseg X zFT zE0 zc_39 (fun _ => false) 400 0 [.ref 23] [] (ar, fi, (m1, m2, m3, m4, m5)) = some (.inr (none, ((zup ar 30 (a0_lw_endRule (fi 23 9) (ar 30) (fi 23 7))), (zup fi 23 (zup (fi 23) 9 (f0_lw_endRule (fi 23 9) (ar 30) (fi 23 7)))), (m1, m2, m3, m4, m5)))) := by
  rw [t_lw_endRule_23]
  unfold g_lw_endRule at hG
  unfold a0_lw_endRule f0_lw_endRule
  cases hc1 : (decide (16 ≤ fi 23 9)) with
  | true =>
    try simp only [hc1, cond_true, cond_false] at hG ⊢
    all_goals try simp only [Bool.and_eq_true, Bool.true_and, Bool.and_true] at hG
    all_goals try simp only [hG, zg, cond_true, and_self]
    all_goals try simp only [zup_zup, zup_same]
    all_goals first | rfl | (refine congrArg some (congrArg Sum.inr (Prod.ext rfl (Prod.ext ?_ (Prod.ext ?_ rfl)))) <;> first | rfl | (funext b; simp only [zup]; (repeat' split) <;> first | rfl | omega | (subst_vars; rfl) | (subst_vars; funext k; simp only [zup]; (repeat' split) <;> first | rfl | omega | (subst_vars; rfl) | (simp_all; done))))
  | false =>
    try simp only [hc1, cond_true, cond_false] at hG ⊢
    all_goals try simp only [Bool.and_eq_true, Bool.true_and, Bool.and_true] at hG
    all_goals try simp only [hG, zg, cond_true, and_self]
    all_goals try simp only [zup_zup, zup_same]
    all_goals first | rfl | (refine congrArg some (congrArg Sum.inr (Prod.ext rfl (Prod.ext ?_ (Prod.ext ?_ rfl)))) <;> first | rfl | (funext b; simp only [zup]; (repeat' split) <;> first | rfl | omega | (subst_vars; rfl) | (subst_vars; funext k; simp only [zup]; (repeat' split) <;> first | rfl | omega | (subst_vars; rfl) | (simp_all; done))))
set_option maxRecDepth 10000 in
theorem t_lw_endRule_31 {X : Nat × (Nat → Int32)} {ar fi : Nat → Nat → Int32} {m1 m2 m3 m4 m5 : Nat} : zseg X zFT zE0 zc_39 (fun _ => false) 400 0 [.ref 31] [] (ar, fi, (m1, m2, m3, m4, m5)) = (
  bif decide (16 ≤ fi 31 9) then
   some (.inr (none, (ar, fi, (m1, m2, m3, m4, m5))))
  else
   zg (zin (fi 31 9) 16) (
   some (.inr (none, ((zup ar 38 (zup (ar 38) ((fi 31 9).toNatClampNeg) (fi 31 7))), (zup fi 31 (zup (fi 31) 9 ((fi 31 9) + 1))), (m1, m2, m3, m4, m5))))) : Option ((Nat × List Value × List Value × zH2) ⊕ zO2)) := by with_unfolding_all rfl
set_option maxRecDepth 10000 in
theorem e_lw_endRule_31 {X : Nat × (Nat → Int32)} {ar fi : Nat → Nat → Int32} {m1 m2 m3 m4 m5 : Nat} (hG : g_lw_endRule (fi 31 9) (ar 38) (fi 31 7) = true) : zseg X zFT zE0 zc_39 (fun _ => false) 400 0 [.ref 31] [] (ar, fi, (m1, m2, m3, m4, m5)) = some (.inr (none, ((zup ar 38 (a0_lw_endRule (fi 31 9) (ar 38) (fi 31 7))), (zup fi 31 (zup (fi 31) 9 (f0_lw_endRule (fi 31 9) (ar 38) (fi 31 7)))), (m1, m2, m3, m4, m5)))) := by
  rw [t_lw_endRule_31]
  unfold g_lw_endRule at hG
  unfold a0_lw_endRule f0_lw_endRule
  cases hc1 : (decide (16 ≤ fi 31 9)) with
  | true =>
    try simp only [hc1, cond_true, cond_false] at hG ⊢
    all_goals try simp only [Bool.and_eq_true, Bool.true_and, Bool.and_true] at hG
    all_goals try simp only [hG, zg, cond_true, and_self]
    all_goals try simp only [zup_zup, zup_same]
    all_goals first | rfl | (refine congrArg some (congrArg Sum.inr (Prod.ext rfl (Prod.ext ?_ (Prod.ext ?_ rfl)))) <;> first | rfl | (funext b; simp only [zup]; (repeat' split) <;> first | rfl | omega | (subst_vars; rfl) | (subst_vars; funext k; simp only [zup]; (repeat' split) <;> first | rfl | omega | (subst_vars; rfl) | (simp_all; done))))
  | false =>
    try simp only [hc1, cond_true, cond_false] at hG ⊢
    all_goals try simp only [Bool.and_eq_true, Bool.true_and, Bool.and_true] at hG
    all_goals try simp only [hG, zg, cond_true, and_self]
    all_goals try simp only [zup_zup, zup_same]
    all_goals first | rfl | (refine congrArg some (congrArg Sum.inr (Prod.ext rfl (Prod.ext ?_ (Prod.ext ?_ rfl)))) <;> first | rfl | (funext b; simp only [zup]; (repeat' split) <;> first | rfl | omega | (subst_vars; rfl) | (subst_vars; funext k; simp only [zup]; (repeat' split) <;> first | rfl | omega | (subst_vars; rfl) | (simp_all; done))))
theorem ok_lw_endRule (X : Nat × (Nat → Int32)) : zOkS X 39 S_lw_endRule 1 := zOkS_new (zOkE_nil X 0) (by
  intro args g o h
  obtain ⟨ar, fi, m1, m2, m3, m4, m5⟩ := g
  unfold S_lw_endRule P_lw_endRule at h
  split at h
  · refine zb_el h (fun hI0 k0 => ?_) (fun _ h10 => ?_)
    · have h2 := Option.some.inj k0
      have hG := congrArg Prod.fst h2
      have ho := congrArg Prod.snd h2
      dsimp only at hG ho
      subst ho
      try simp only [Bool.and_eq_true] at hI0
      have j0 := hI0
      have e0 := Nat.eq_of_beq_eq_true j0
      subst e0
      exact zseg_ret (e_lw_endRule_23 hG)
    · skip
      refine zb_el h10 (fun hI1 k1 => ?_) (fun _ h11 => ?_)
      · have h2 := Option.some.inj k1
        have hG := congrArg Prod.fst h2
        have ho := congrArg Prod.snd h2
        dsimp only at hG ho
        subst ho
        try simp only [Bool.and_eq_true] at hI1
        have j0 := hI1
        have e0 := Nat.eq_of_beq_eq_true j0
        subst e0
        exact zseg_ret (e_lw_endRule_31 hG)
      · cases h11
  · cases h)
def g_lw_emit (x : Int32) (y : Int32) (p0 : Int32) (p1 : Nat → Int32) (p2 : Nat → Int32) (p3 : Int32) : Bool := bif decide (p0 < 240) then (zin (p0) 240) && (zin (p0) 240) else true
def w_lw_emit (x : Int32) (y : Int32) (p0 : Int32) (p1 : Nat → Int32) (p2 : Nat → Int32) (p3 : Int32) : Int32 := (bif decide (p0 < 240) then ((p0) + 1) - 1 else (-1))
def a0_lw_emit (x : Int32) (y : Int32) (p0 : Int32) (p1 : Nat → Int32) (p2 : Nat → Int32) (p3 : Int32) : Nat → Int32 := (bif decide (p0 < 240) then (zup p1 ((p0).toNatClampNeg) x) else p1)
def a1_lw_emit (x : Int32) (y : Int32) (p0 : Int32) (p1 : Nat → Int32) (p2 : Nat → Int32) (p3 : Int32) : Nat → Int32 := (bif decide (p0 < 240) then (zup p2 ((p0).toNatClampNeg) y) else p2)
def f0_lw_emit (x : Int32) (y : Int32) (p0 : Int32) (p1 : Nat → Int32) (p2 : Nat → Int32) (p3 : Int32) : Int32 := (bif decide (p0 < 240) then (p0) + 1 else p0)
def f1_lw_emit (x : Int32) (y : Int32) (p0 : Int32) (p1 : Nat → Int32) (p2 : Nat → Int32) (p3 : Int32) : Int32 := (bif decide (p0 < 240) then (bif !decide (x = 2) then p3 else (p3) ||| (1 <<< (y &&& 31))) else p3)
def P_lw_emit (G : Int32 → Int32 → Int32 → (Nat → Int32) → (Nat → Int32) → Int32 → Bool) (W : Int32 → Int32 → Int32 → (Nat → Int32) → (Nat → Int32) → Int32 → Int32) (A0 : Int32 → Int32 → Int32 → (Nat → Int32) → (Nat → Int32) → Int32 → Nat → Int32) (A1 : Int32 → Int32 → Int32 → (Nat → Int32) → (Nat → Int32) → Int32 → Nat → Int32) (F0 : Int32 → Int32 → Int32 → (Nat → Int32) → (Nat → Int32) → Int32 → Int32) (F1 : Int32 → Int32 → Int32 → (Nat → Int32) → (Nat → Int32) → Int32 → Int32) : zSp := fun as g => match as with
  | [.ref a, .int x, .int y] => bif Nat.beq a 23 then some (G x y (g.2.1 23 7) (g.1 24) (g.1 25) (g.2.1 23 8), (some (.int (W x y (g.2.1 23 7) (g.1 24) (g.1 25) (g.2.1 23 8))), ((zup (zup g.1 24 (A0 x y (g.2.1 23 7) (g.1 24) (g.1 25) (g.2.1 23 8))) 25 (A1 x y (g.2.1 23 7) (g.1 24) (g.1 25) (g.2.1 23 8))), (zup (zup g.2.1 23 (zup (g.2.1 23) 7 (F0 x y (g.2.1 23 7) (g.1 24) (g.1 25) (g.2.1 23 8)))) 23 (zup ((zup g.2.1 23 (zup (g.2.1 23) 7 (F0 x y (g.2.1 23 7) (g.1 24) (g.1 25) (g.2.1 23 8)))) 23) 8 (F1 x y (g.2.1 23 7) (g.1 24) (g.1 25) (g.2.1 23 8)))), g.2.2))) else bif Nat.beq a 31 then some (G x y (g.2.1 31 7) (g.1 32) (g.1 33) (g.2.1 31 8), (some (.int (W x y (g.2.1 31 7) (g.1 32) (g.1 33) (g.2.1 31 8))), ((zup (zup g.1 32 (A0 x y (g.2.1 31 7) (g.1 32) (g.1 33) (g.2.1 31 8))) 33 (A1 x y (g.2.1 31 7) (g.1 32) (g.1 33) (g.2.1 31 8))), (zup (zup g.2.1 31 (zup (g.2.1 31) 7 (F0 x y (g.2.1 31 7) (g.1 32) (g.1 33) (g.2.1 31 8)))) 31 (zup ((zup g.2.1 31 (zup (g.2.1 31) 7 (F0 x y (g.2.1 31 7) (g.1 32) (g.1 33) (g.2.1 31 8)))) 31) 8 (F1 x y (g.2.1 31 7) (g.1 32) (g.1 33) (g.2.1 31 8)))), g.2.2))) else none
  | _ => none
abbrev S_lw_emit : zSp := P_lw_emit g_lw_emit w_lw_emit a0_lw_emit a1_lw_emit f0_lw_emit f1_lw_emit
set_option maxRecDepth 10000 in
theorem t_lw_emit_23 {X : Nat × (Nat → Int32)} {ar fi : Nat → Nat → Int32} {m1 m2 m3 m4 m5 : Nat} {x y : Int32} : zseg X zFT zE0 zc_40 (fun _ => false) 400 0 [.ref 23, .int x, .int y] [] (ar, fi, (m1, m2, m3, m4, m5)) = (
  bif decide (fi 23 7 < 240) then
   zg (zin (fi 23 7) 240) (
   zg (zin (fi 23 7) 240) (
   bif !decide (x = 2) then
    some (.inr (some (.int (((fi 23 7) + 1) - 1)), ((zup (zup ar 24 (zup (ar 24) ((fi 23 7).toNatClampNeg) x)) 25 (zup (ar 25) ((fi 23 7).toNatClampNeg) y)), (zup fi 23 (zup (fi 23) 7 ((fi 23 7) + 1))), (m1, m2, m3, m4, m5))))
   else
    some (.inr (some (.int (((fi 23 7) + 1) - 1)), ((zup (zup ar 24 (zup (ar 24) ((fi 23 7).toNatClampNeg) x)) 25 (zup (ar 25) ((fi 23 7).toNatClampNeg) y)), (zup (zup fi 23 (zup (fi 23) 8 ((fi 23 8) ||| (1 <<< (y &&& 31))))) 23 (zup ((zup fi 23 (zup (fi 23) 8 ((fi 23 8) ||| (1 <<< (y &&& 31))))) 23) 7 ((fi 23 7) + 1))), (m1, m2, m3, m4, m5))))))
  else
   some (.inr (some (.int (-1)), (ar, fi, (m1, m2, m3, m4, m5)))) : Option ((Nat × List Value × List Value × zH2) ⊕ zO2)) := by with_unfolding_all rfl
set_option maxRecDepth 10000 in
theorem e_lw_emit_23 {X : Nat × (Nat → Int32)} {ar fi : Nat → Nat → Int32} {m1 m2 m3 m4 m5 : Nat} {x y : Int32} (hG : g_lw_emit x y (fi 23 7) (ar 24) (ar 25) (fi 23 8) = true) : zseg X zFT zE0 zc_40 (fun _ => false) 400 0 [.ref 23, .int x, .int y] [] (ar, fi, (m1, m2, m3, m4, m5)) = some (.inr (some (.int (w_lw_emit x y (fi 23 7) (ar 24) (ar 25) (fi 23 8))), ((zup (zup ar 24 (a0_lw_emit x y (fi 23 7) (ar 24) (ar 25) (fi 23 8))) 25 (a1_lw_emit x y (fi 23 7) (ar 24) (ar 25) (fi 23 8))), (zup (zup fi 23 (zup (fi 23) 7 (f0_lw_emit x y (fi 23 7) (ar 24) (ar 25) (fi 23 8)))) 23 (zup ((zup fi 23 (zup (fi 23) 7 (f0_lw_emit x y (fi 23 7) (ar 24) (ar 25) (fi 23 8)))) 23) 8 (f1_lw_emit x y (fi 23 7) (ar 24) (ar 25) (fi 23 8)))), (m1, m2, m3, m4, m5)))) := by
  rw [t_lw_emit_23]
  unfold g_lw_emit at hG
  unfold w_lw_emit a0_lw_emit a1_lw_emit f0_lw_emit f1_lw_emit
  cases hc1 : (decide (fi 23 7 < 240)) with
  | true =>
    try simp only [hc1, cond_true, cond_false] at hG ⊢
    cases hc2 : (!decide (x = 2)) with
    | true =>
      try simp only [hc2, cond_true, cond_false] at hG ⊢
      all_goals try simp only [Bool.and_eq_true, Bool.true_and, Bool.and_true] at hG
      all_goals try simp only [hG, zg, cond_true, and_self]
      all_goals try simp only [zup_zup, zup_same]
      all_goals first | rfl | (refine congrArg some (congrArg Sum.inr (Prod.ext rfl (Prod.ext ?_ (Prod.ext ?_ rfl)))) <;> first | rfl | (funext b; simp only [zup]; (repeat' split) <;> first | rfl | omega | (subst_vars; rfl) | (subst_vars; funext k; simp only [zup]; (repeat' split) <;> first | rfl | omega | (subst_vars; rfl) | (simp_all; done))))
    | false =>
      try simp only [hc2, cond_true, cond_false] at hG ⊢
      all_goals try simp only [Bool.and_eq_true, Bool.true_and, Bool.and_true] at hG
      all_goals try simp only [hG, zg, cond_true, and_self]
      all_goals try simp only [zup_zup, zup_same]
      all_goals first | rfl | (refine congrArg some (congrArg Sum.inr (Prod.ext rfl (Prod.ext ?_ (Prod.ext ?_ rfl)))) <;> first | rfl | (funext b; simp only [zup]; (repeat' split) <;> first | rfl | omega | (subst_vars; rfl) | (subst_vars; funext k; simp only [zup]; (repeat' split) <;> first | rfl | omega | (subst_vars; rfl) | (simp_all; done))))
  | false =>
    try simp only [hc1, cond_true, cond_false] at hG ⊢
    all_goals try simp only [Bool.and_eq_true, Bool.true_and, Bool.and_true] at hG
    all_goals try simp only [hG, zg, cond_true, and_self]
    all_goals try simp only [zup_zup, zup_same]
    all_goals first | rfl | (refine congrArg some (congrArg Sum.inr (Prod.ext rfl (Prod.ext ?_ (Prod.ext ?_ rfl)))) <;> first | rfl | (funext b; simp only [zup]; (repeat' split) <;> first | rfl | omega | (subst_vars; rfl) | (subst_vars; funext k; simp only [zup]; (repeat' split) <;> first | rfl | omega | (subst_vars; rfl) | (simp_all; done))))
set_option maxRecDepth 10000 in
theorem t_lw_emit_31 {X : Nat × (Nat → Int32)} {ar fi : Nat → Nat → Int32} {m1 m2 m3 m4 m5 : Nat} {x y : Int32} : zseg X zFT zE0 zc_40 (fun _ => false) 400 0 [.ref 31, .int x, .int y] [] (ar, fi, (m1, m2, m3, m4, m5)) = (
  bif decide (fi 31 7 < 240) then
   zg (zin (fi 31 7) 240) (
   zg (zin (fi 31 7) 240) (
   bif !decide (x = 2) then
    some (.inr (some (.int (((fi 31 7) + 1) - 1)), ((zup (zup ar 32 (zup (ar 32) ((fi 31 7).toNatClampNeg) x)) 33 (zup (ar 33) ((fi 31 7).toNatClampNeg) y)), (zup fi 31 (zup (fi 31) 7 ((fi 31 7) + 1))), (m1, m2, m3, m4, m5))))
   else
    some (.inr (some (.int (((fi 31 7) + 1) - 1)), ((zup (zup ar 32 (zup (ar 32) ((fi 31 7).toNatClampNeg) x)) 33 (zup (ar 33) ((fi 31 7).toNatClampNeg) y)), (zup (zup fi 31 (zup (fi 31) 8 ((fi 31 8) ||| (1 <<< (y &&& 31))))) 31 (zup ((zup fi 31 (zup (fi 31) 8 ((fi 31 8) ||| (1 <<< (y &&& 31))))) 31) 7 ((fi 31 7) + 1))), (m1, m2, m3, m4, m5))))))
  else
   some (.inr (some (.int (-1)), (ar, fi, (m1, m2, m3, m4, m5)))) : Option ((Nat × List Value × List Value × zH2) ⊕ zO2)) := by with_unfolding_all rfl
set_option maxRecDepth 10000 in
theorem e_lw_emit_31 {X : Nat × (Nat → Int32)} {ar fi : Nat → Nat → Int32} {m1 m2 m3 m4 m5 : Nat} {x y : Int32} (hG : g_lw_emit x y (fi 31 7) (ar 32) (ar 33) (fi 31 8) = true) : zseg X zFT zE0 zc_40 (fun _ => false) 400 0 [.ref 31, .int x, .int y] [] (ar, fi, (m1, m2, m3, m4, m5)) = some (.inr (some (.int (w_lw_emit x y (fi 31 7) (ar 32) (ar 33) (fi 31 8))), ((zup (zup ar 32 (a0_lw_emit x y (fi 31 7) (ar 32) (ar 33) (fi 31 8))) 33 (a1_lw_emit x y (fi 31 7) (ar 32) (ar 33) (fi 31 8))), (zup (zup fi 31 (zup (fi 31) 7 (f0_lw_emit x y (fi 31 7) (ar 32) (ar 33) (fi 31 8)))) 31 (zup ((zup fi 31 (zup (fi 31) 7 (f0_lw_emit x y (fi 31 7) (ar 32) (ar 33) (fi 31 8)))) 31) 8 (f1_lw_emit x y (fi 31 7) (ar 32) (ar 33) (fi 31 8)))), (m1, m2, m3, m4, m5)))) := by
  rw [t_lw_emit_31]
  unfold g_lw_emit at hG
  unfold w_lw_emit a0_lw_emit a1_lw_emit f0_lw_emit f1_lw_emit
  cases hc1 : (decide (fi 31 7 < 240)) with
  | true =>
    try simp only [hc1, cond_true, cond_false] at hG ⊢
    cases hc2 : (!decide (x = 2)) with
    | true =>
      try simp only [hc2, cond_true, cond_false] at hG ⊢
      all_goals try simp only [Bool.and_eq_true, Bool.true_and, Bool.and_true] at hG
      all_goals try simp only [hG, zg, cond_true, and_self]
      all_goals try simp only [zup_zup, zup_same]
      all_goals first | rfl | (refine congrArg some (congrArg Sum.inr (Prod.ext rfl (Prod.ext ?_ (Prod.ext ?_ rfl)))) <;> first | rfl | (funext b; simp only [zup]; (repeat' split) <;> first | rfl | omega | (subst_vars; rfl) | (subst_vars; funext k; simp only [zup]; (repeat' split) <;> first | rfl | omega | (subst_vars; rfl) | (simp_all; done))))
    | false =>
      try simp only [hc2, cond_true, cond_false] at hG ⊢
      all_goals try simp only [Bool.and_eq_true, Bool.true_and, Bool.and_true] at hG
      all_goals try simp only [hG, zg, cond_true, and_self]
      all_goals try simp only [zup_zup, zup_same]
      all_goals first | rfl | (refine congrArg some (congrArg Sum.inr (Prod.ext rfl (Prod.ext ?_ (Prod.ext ?_ rfl)))) <;> first | rfl | (funext b; simp only [zup]; (repeat' split) <;> first | rfl | omega | (subst_vars; rfl) | (subst_vars; funext k; simp only [zup]; (repeat' split) <;> first | rfl | omega | (subst_vars; rfl) | (simp_all; done))))
  | false =>
    try simp only [hc1, cond_true, cond_false] at hG ⊢
    all_goals try simp only [Bool.and_eq_true, Bool.true_and, Bool.and_true] at hG
    all_goals try simp only [hG, zg, cond_true, and_self]
    all_goals try simp only [zup_zup, zup_same]
    all_goals first | rfl | (refine congrArg some (congrArg Sum.inr (Prod.ext rfl (Prod.ext ?_ (Prod.ext ?_ rfl)))) <;> first | rfl | (funext b; simp only [zup]; (repeat' split) <;> first | rfl | omega | (subst_vars; rfl) | (subst_vars; funext k; simp only [zup]; (repeat' split) <;> first | rfl | omega | (subst_vars; rfl) | (simp_all; done))))
theorem ok_lw_emit (X : Nat × (Nat → Int32)) : zOkS X 40 S_lw_emit 1 := zOkS_new (zOkE_nil X 0) (by
  intro args g o h
  obtain ⟨ar, fi, m1, m2, m3, m4, m5⟩ := g
  unfold S_lw_emit P_lw_emit at h
  split at h
  · refine zb_el h (fun hI0 k0 => ?_) (fun _ h10 => ?_)
    · have h2 := Option.some.inj k0
      have hG := congrArg Prod.fst h2
      have ho := congrArg Prod.snd h2
      dsimp only at hG ho
      subst ho
      try simp only [Bool.and_eq_true] at hI0
      have j0 := hI0
      have e0 := Nat.eq_of_beq_eq_true j0
      subst e0
      exact zseg_ret (e_lw_emit_23 hG)
    · skip
      refine zb_el h10 (fun hI1 k1 => ?_) (fun _ h11 => ?_)
      · have h2 := Option.some.inj k1
        have hG := congrArg Prod.fst h2
        have ho := congrArg Prod.snd h2
        dsimp only at hG ho
        subst ho
        try simp only [Bool.and_eq_true] at hI1
        have j0 := hI1
        have e0 := Nat.eq_of_beq_eq_true j0
        subst e0
        exact zseg_ret (e_lw_emit_31 hG)
      · cases h11
  · cases h)
def w_lw_asksFor (x : Int32) (p0 : Int32) : Int32 := (bif decide (((Int32.toUInt32 (p0) >>> (Int32.toUInt32 x &&& Int32.toUInt32 31)).toInt32) &&& 1 = 0) then 0 else 1)
def P_lw_asksFor (W : Int32 → Int32 → Int32) : zSp := fun as g => match as with
  | [.ref a, .int x] => bif Nat.beq a 23 then some (true, (some (.int (W x (g.2.1 23 8))), (g.1, g.2.1, g.2.2))) else bif Nat.beq a 31 then some (true, (some (.int (W x (g.2.1 31 8))), (g.1, g.2.1, g.2.2))) else none
  | _ => none
abbrev S_lw_asksFor : zSp := P_lw_asksFor w_lw_asksFor
set_option maxRecDepth 10000 in
theorem t_lw_asksFor_23 {X : Nat × (Nat → Int32)} {ar fi : Nat → Nat → Int32} {m1 m2 m3 m4 m5 : Nat} {x : Int32} : zseg X zFT zE0 zc_42 (fun _ => false) 400 0 [.ref 23, .int x] [] (ar, fi, (m1, m2, m3, m4, m5)) = (
  bif decide (((Int32.toUInt32 (fi 23 8) >>> (Int32.toUInt32 x &&& Int32.toUInt32 31)).toInt32) &&& 1 = 0) then
   some (.inr (some (.int 0), (ar, fi, (m1, m2, m3, m4, m5))))
  else
   some (.inr (some (.int 1), (ar, fi, (m1, m2, m3, m4, m5)))) : Option ((Nat × List Value × List Value × zH2) ⊕ zO2)) := by with_unfolding_all rfl
set_option maxRecDepth 10000 in
theorem e_lw_asksFor_23 {X : Nat × (Nat → Int32)} {ar fi : Nat → Nat → Int32} {m1 m2 m3 m4 m5 : Nat} {x : Int32} : zseg X zFT zE0 zc_42 (fun _ => false) 400 0 [.ref 23, .int x] [] (ar, fi, (m1, m2, m3, m4, m5)) = some (.inr (some (.int (w_lw_asksFor x (fi 23 8))), (ar, fi, (m1, m2, m3, m4, m5)))) := by
  rw [t_lw_asksFor_23]
  unfold w_lw_asksFor
  cases hc1 : (decide (((Int32.toUInt32 (fi 23 8) >>> (Int32.toUInt32 x &&& Int32.toUInt32 31)).toInt32) &&& 1 = 0)) with
  | true =>
    try simp only [hc1, cond_true, cond_false]
    all_goals first | rfl | (refine congrArg some (congrArg Sum.inr (Prod.ext rfl (Prod.ext ?_ (Prod.ext ?_ rfl)))) <;> first | rfl | (funext b; simp only [zup]; (repeat' split) <;> first | rfl | omega | (subst_vars; rfl) | (subst_vars; funext k; simp only [zup]; (repeat' split) <;> first | rfl | omega | (subst_vars; rfl) | (simp_all; done))))
  | false =>
    try simp only [hc1, cond_true, cond_false]
    all_goals first | rfl | (refine congrArg some (congrArg Sum.inr (Prod.ext rfl (Prod.ext ?_ (Prod.ext ?_ rfl)))) <;> first | rfl | (funext b; simp only [zup]; (repeat' split) <;> first | rfl | omega | (subst_vars; rfl) | (subst_vars; funext k; simp only [zup]; (repeat' split) <;> first | rfl | omega | (subst_vars; rfl) | (simp_all; done))))
set_option maxRecDepth 10000 in
theorem t_lw_asksFor_31 {X : Nat × (Nat → Int32)} {ar fi : Nat → Nat → Int32} {m1 m2 m3 m4 m5 : Nat} {x : Int32} : zseg X zFT zE0 zc_42 (fun _ => false) 400 0 [.ref 31, .int x] [] (ar, fi, (m1, m2, m3, m4, m5)) = (
  bif decide (((Int32.toUInt32 (fi 31 8) >>> (Int32.toUInt32 x &&& Int32.toUInt32 31)).toInt32) &&& 1 = 0) then
   some (.inr (some (.int 0), (ar, fi, (m1, m2, m3, m4, m5))))
  else
   some (.inr (some (.int 1), (ar, fi, (m1, m2, m3, m4, m5)))) : Option ((Nat × List Value × List Value × zH2) ⊕ zO2)) := by with_unfolding_all rfl
set_option maxRecDepth 10000 in
theorem e_lw_asksFor_31 {X : Nat × (Nat → Int32)} {ar fi : Nat → Nat → Int32} {m1 m2 m3 m4 m5 : Nat} {x : Int32} : zseg X zFT zE0 zc_42 (fun _ => false) 400 0 [.ref 31, .int x] [] (ar, fi, (m1, m2, m3, m4, m5)) = some (.inr (some (.int (w_lw_asksFor x (fi 31 8))), (ar, fi, (m1, m2, m3, m4, m5)))) := by
  rw [t_lw_asksFor_31]
  unfold w_lw_asksFor
  cases hc1 : (decide (((Int32.toUInt32 (fi 31 8) >>> (Int32.toUInt32 x &&& Int32.toUInt32 31)).toInt32) &&& 1 = 0)) with
  | true =>
    try simp only [hc1, cond_true, cond_false]
    all_goals first | rfl | (refine congrArg some (congrArg Sum.inr (Prod.ext rfl (Prod.ext ?_ (Prod.ext ?_ rfl)))) <;> first | rfl | (funext b; simp only [zup]; (repeat' split) <;> first | rfl | omega | (subst_vars; rfl) | (subst_vars; funext k; simp only [zup]; (repeat' split) <;> first | rfl | omega | (subst_vars; rfl) | (simp_all; done))))
  | false =>
    try simp only [hc1, cond_true, cond_false]
    all_goals first | rfl | (refine congrArg some (congrArg Sum.inr (Prod.ext rfl (Prod.ext ?_ (Prod.ext ?_ rfl)))) <;> first | rfl | (funext b; simp only [zup]; (repeat' split) <;> first | rfl | omega | (subst_vars; rfl) | (subst_vars; funext k; simp only [zup]; (repeat' split) <;> first | rfl | omega | (subst_vars; rfl) | (simp_all; done))))
theorem ok_lw_asksFor (X : Nat × (Nat → Int32)) : zOkS X 42 S_lw_asksFor 1 := zOkS_new (zOkE_nil X 0) (by
  intro args g o h
  obtain ⟨ar, fi, m1, m2, m3, m4, m5⟩ := g
  unfold S_lw_asksFor P_lw_asksFor at h
  split at h
  · refine zb_el h (fun hI0 k0 => ?_) (fun _ h10 => ?_)
    · have h2 := Option.some.inj k0
      have hG := congrArg Prod.fst h2
      have ho := congrArg Prod.snd h2
      dsimp only at hG ho
      subst ho
      try simp only [Bool.and_eq_true] at hI0
      have j0 := hI0
      have e0 := Nat.eq_of_beq_eq_true j0
      subst e0
      exact zseg_ret (e_lw_asksFor_23)
    · skip
      refine zb_el h10 (fun hI1 k1 => ?_) (fun _ h11 => ?_)
      · have h2 := Option.some.inj k1
        have hG := congrArg Prod.fst h2
        have ho := congrArg Prod.snd h2
        dsimp only at hG ho
        subst ho
        try simp only [Bool.and_eq_true] at hI1
        have j0 := hI1
        have e0 := Nat.eq_of_beq_eq_true j0
        subst e0
        exact zseg_ret (e_lw_asksFor_31)
      · cases h11
  · cases h)
def g_lw_reckon (x : Int32) (y : Int32) (z : Int32) : Bool := bif decide (x = 37) then bif !decide (z = 0) then !decide (z = 0) else true else bif decide (x = 42) then true else bif decide (x = 43) then true else bif decide (x = 45) then true else bif decide (x = 47) then bif !decide (z = 0) then !decide (z = 0) else true else true
def w_lw_reckon (x : Int32) (y : Int32) (z : Int32) : Int32 := (bif decide (x = 37) then (bif !decide (z = 0) then y - y / z * z else 0) else (bif decide (x = 42) then y * z else (bif decide (x = 43) then y + z else (bif decide (x = 45) then y - z else (bif decide (x = 47) then (bif !decide (z = 0) then y / z else 0) else (bif decide (x = 60) then (bif decide (z ≤ y) then 0 else 1) else (bif decide (x = 62) then (bif decide (y ≤ z) then 0 else 1) else (bif !decide (y = z) then 0 else 1))))))))
def P_lw_reckon (G : Int32 → Int32 → Int32 → Bool) (W : Int32 → Int32 → Int32 → Int32) : zSp := fun as g => match as with
  | [.int x, .int y, .int z] => some (G x y z, (some (.int (W x y z)), (g.1, g.2.1, g.2.2)))
  | _ => none
abbrev S_lw_reckon : zSp := P_lw_reckon g_lw_reckon w_lw_reckon
set_option maxRecDepth 10000 in
theorem t_lw_reckon {X : Nat × (Nat → Int32)} {ar fi : Nat → Nat → Int32} {m1 m2 m3 m4 m5 : Nat} {x y z : Int32} : zseg X zFT zE0 zc_47 (fun _ => false) 400 0 [.int x, .int y, .int z] [] (ar, fi, (m1, m2, m3, m4, m5)) = (
  bif decide (x = 37) then
   bif !decide (z = 0) then
    zg (!decide (z = 0)) (
    some (.inr (some (.int (y - y / z * z)), (ar, fi, (m1, m2, m3, m4, m5)))))
   else
    some (.inr (some (.int 0), (ar, fi, (m1, m2, m3, m4, m5))))
  else
   bif decide (x = 42) then
    some (.inr (some (.int (y * z)), (ar, fi, (m1, m2, m3, m4, m5))))
   else
    bif decide (x = 43) then
     some (.inr (some (.int (y + z)), (ar, fi, (m1, m2, m3, m4, m5))))
    else
     bif decide (x = 45) then
      some (.inr (some (.int (y - z)), (ar, fi, (m1, m2, m3, m4, m5))))
     else
      bif decide (x = 47) then
       bif !decide (z = 0) then
        zg (!decide (z = 0)) (
        some (.inr (some (.int (y / z)), (ar, fi, (m1, m2, m3, m4, m5)))))
       else
        some (.inr (some (.int 0), (ar, fi, (m1, m2, m3, m4, m5))))
      else
       bif decide (x = 60) then
        bif decide (z ≤ y) then
         some (.inr (some (.int 0), (ar, fi, (m1, m2, m3, m4, m5))))
        else
         some (.inr (some (.int 1), (ar, fi, (m1, m2, m3, m4, m5))))
       else
        bif decide (x = 62) then
         bif decide (y ≤ z) then
          some (.inr (some (.int 0), (ar, fi, (m1, m2, m3, m4, m5))))
         else
          some (.inr (some (.int 1), (ar, fi, (m1, m2, m3, m4, m5))))
        else
         bif !decide (y = z) then
          some (.inr (some (.int 0), (ar, fi, (m1, m2, m3, m4, m5))))
         else
          some (.inr (some (.int 1), (ar, fi, (m1, m2, m3, m4, m5)))) : Option ((Nat × List Value × List Value × zH2) ⊕ zO2)) := rfl
set_option maxRecDepth 10000 in
theorem e_lw_reckon {X : Nat × (Nat → Int32)} {ar fi : Nat → Nat → Int32} {m1 m2 m3 m4 m5 : Nat} {x y z : Int32} (hG : g_lw_reckon x y z = true) : zseg X zFT zE0 zc_47 (fun _ => false) 400 0 [.int x, .int y, .int z] [] (ar, fi, (m1, m2, m3, m4, m5)) = some (.inr (some (.int (w_lw_reckon x y z)), (ar, fi, (m1, m2, m3, m4, m5)))) := by
  rw [t_lw_reckon]
  unfold g_lw_reckon at hG
  unfold w_lw_reckon
  cases hc1 : (decide (x = 37)) with
  | true =>
    try simp only [hc1, cond_true, cond_false] at hG ⊢
    cases hc2 : (!decide (z = 0)) with
    | true =>
      try simp only [hc2, cond_true, cond_false] at hG ⊢
      all_goals try simp only [Bool.and_eq_true, Bool.true_and, Bool.and_true] at hG
      all_goals try simp only [hG, zg, cond_true, and_self]
      all_goals first | rfl | (refine congrArg some (congrArg Sum.inr (Prod.ext rfl (Prod.ext ?_ (Prod.ext ?_ rfl)))) <;> first | rfl | (funext b; simp only [zup]; (repeat' split) <;> first | rfl | omega | (subst_vars; rfl) | (subst_vars; funext k; simp only [zup]; (repeat' split) <;> first | rfl | omega | (subst_vars; rfl) | (simp_all; done))))
    | false =>
      try simp only [hc2, cond_true, cond_false] at hG ⊢
      all_goals try simp only [Bool.and_eq_true, Bool.true_and, Bool.and_true] at hG
      all_goals try simp only [hG, zg, cond_true, and_self]
      all_goals first | rfl | (refine congrArg some (congrArg Sum.inr (Prod.ext rfl (Prod.ext ?_ (Prod.ext ?_ rfl)))) <;> first | rfl | (funext b; simp only [zup]; (repeat' split) <;> first | rfl | omega | (subst_vars; rfl) | (subst_vars; funext k; simp only [zup]; (repeat' split) <;> first | rfl | omega | (subst_vars; rfl) | (simp_all; done))))
  | false =>
    try simp only [hc1, cond_true, cond_false] at hG ⊢
    cases hc3 : (decide (x = 42)) with
    | true =>
      try simp only [hc3, cond_true, cond_false] at hG ⊢
      all_goals try simp only [Bool.and_eq_true, Bool.true_and, Bool.and_true] at hG
      all_goals try simp only [hG, zg, cond_true, and_self]
      all_goals first | rfl | (refine congrArg some (congrArg Sum.inr (Prod.ext rfl (Prod.ext ?_ (Prod.ext ?_ rfl)))) <;> first | rfl | (funext b; simp only [zup]; (repeat' split) <;> first | rfl | omega | (subst_vars; rfl) | (subst_vars; funext k; simp only [zup]; (repeat' split) <;> first | rfl | omega | (subst_vars; rfl) | (simp_all; done))))
    | false =>
      try simp only [hc3, cond_true, cond_false] at hG ⊢
      cases hc4 : (decide (x = 43)) with
      | true =>
        try simp only [hc4, cond_true, cond_false] at hG ⊢
        all_goals try simp only [Bool.and_eq_true, Bool.true_and, Bool.and_true] at hG
        all_goals try simp only [hG, zg, cond_true, and_self]
        all_goals first | rfl | (refine congrArg some (congrArg Sum.inr (Prod.ext rfl (Prod.ext ?_ (Prod.ext ?_ rfl)))) <;> first | rfl | (funext b; simp only [zup]; (repeat' split) <;> first | rfl | omega | (subst_vars; rfl) | (subst_vars; funext k; simp only [zup]; (repeat' split) <;> first | rfl | omega | (subst_vars; rfl) | (simp_all; done))))
      | false =>
        try simp only [hc4, cond_true, cond_false] at hG ⊢
        cases hc5 : (decide (x = 45)) with
        | true =>
          try simp only [hc5, cond_true, cond_false] at hG ⊢
          all_goals try simp only [Bool.and_eq_true, Bool.true_and, Bool.and_true] at hG
          all_goals try simp only [hG, zg, cond_true, and_self]
          all_goals first | rfl | (refine congrArg some (congrArg Sum.inr (Prod.ext rfl (Prod.ext ?_ (Prod.ext ?_ rfl)))) <;> first | rfl | (funext b; simp only [zup]; (repeat' split) <;> first | rfl | omega | (subst_vars; rfl) | (subst_vars; funext k; simp only [zup]; (repeat' split) <;> first | rfl | omega | (subst_vars; rfl) | (simp_all; done))))
        | false =>
          try simp only [hc5, cond_true, cond_false] at hG ⊢
          cases hc6 : (decide (x = 47)) with
          | true =>
            try simp only [hc6, cond_true, cond_false] at hG ⊢
            cases hc7 : (!decide (z = 0)) with
            | true =>
              try simp only [hc7, cond_true, cond_false] at hG ⊢
              all_goals try simp only [Bool.and_eq_true, Bool.true_and, Bool.and_true] at hG
              all_goals try simp only [hG, zg, cond_true, and_self]
              all_goals first | rfl | (refine congrArg some (congrArg Sum.inr (Prod.ext rfl (Prod.ext ?_ (Prod.ext ?_ rfl)))) <;> first | rfl | (funext b; simp only [zup]; (repeat' split) <;> first | rfl | omega | (subst_vars; rfl) | (subst_vars; funext k; simp only [zup]; (repeat' split) <;> first | rfl | omega | (subst_vars; rfl) | (simp_all; done))))
            | false =>
              try simp only [hc7, cond_true, cond_false] at hG ⊢
              all_goals try simp only [Bool.and_eq_true, Bool.true_and, Bool.and_true] at hG
              all_goals try simp only [hG, zg, cond_true, and_self]
              all_goals first | rfl | (refine congrArg some (congrArg Sum.inr (Prod.ext rfl (Prod.ext ?_ (Prod.ext ?_ rfl)))) <;> first | rfl | (funext b; simp only [zup]; (repeat' split) <;> first | rfl | omega | (subst_vars; rfl) | (subst_vars; funext k; simp only [zup]; (repeat' split) <;> first | rfl | omega | (subst_vars; rfl) | (simp_all; done))))
          | false =>
            try simp only [hc6, cond_true, cond_false] at hG ⊢
            cases hc8 : (decide (x = 60)) with
            | true =>
              try simp only [hc8, cond_true, cond_false] at hG ⊢
              cases hc9 : (decide (z ≤ y)) with
              | true =>
                try simp only [hc9, cond_true, cond_false] at hG ⊢
                all_goals try simp only [Bool.and_eq_true, Bool.true_and, Bool.and_true] at hG
                all_goals try simp only [hG, zg, cond_true, and_self]
                all_goals first | rfl | (refine congrArg some (congrArg Sum.inr (Prod.ext rfl (Prod.ext ?_ (Prod.ext ?_ rfl)))) <;> first | rfl | (funext b; simp only [zup]; (repeat' split) <;> first | rfl | omega | (subst_vars; rfl) | (subst_vars; funext k; simp only [zup]; (repeat' split) <;> first | rfl | omega | (subst_vars; rfl) | (simp_all; done))))
              | false =>
                try simp only [hc9, cond_true, cond_false] at hG ⊢
                all_goals try simp only [Bool.and_eq_true, Bool.true_and, Bool.and_true] at hG
                all_goals try simp only [hG, zg, cond_true, and_self]
                all_goals first | rfl | (refine congrArg some (congrArg Sum.inr (Prod.ext rfl (Prod.ext ?_ (Prod.ext ?_ rfl)))) <;> first | rfl | (funext b; simp only [zup]; (repeat' split) <;> first | rfl | omega | (subst_vars; rfl) | (subst_vars; funext k; simp only [zup]; (repeat' split) <;> first | rfl | omega | (subst_vars; rfl) | (simp_all; done))))
            | false =>
              try simp only [hc8, cond_true, cond_false] at hG ⊢
              cases hc10 : (decide (x = 62)) with
              | true =>
                try simp only [hc10, cond_true, cond_false] at hG ⊢
                cases hc11 : (decide (y ≤ z)) with
                | true =>
                  try simp only [hc11, cond_true, cond_false] at hG ⊢
                  all_goals try simp only [Bool.and_eq_true, Bool.true_and, Bool.and_true] at hG
                  all_goals try simp only [hG, zg, cond_true, and_self]
                  all_goals first | rfl | (refine congrArg some (congrArg Sum.inr (Prod.ext rfl (Prod.ext ?_ (Prod.ext ?_ rfl)))) <;> first | rfl | (funext b; simp only [zup]; (repeat' split) <;> first | rfl | omega | (subst_vars; rfl) | (subst_vars; funext k; simp only [zup]; (repeat' split) <;> first | rfl | omega | (subst_vars; rfl) | (simp_all; done))))
                | false =>
                  try simp only [hc11, cond_true, cond_false] at hG ⊢
                  all_goals try simp only [Bool.and_eq_true, Bool.true_and, Bool.and_true] at hG
                  all_goals try simp only [hG, zg, cond_true, and_self]
                  all_goals first | rfl | (refine congrArg some (congrArg Sum.inr (Prod.ext rfl (Prod.ext ?_ (Prod.ext ?_ rfl)))) <;> first | rfl | (funext b; simp only [zup]; (repeat' split) <;> first | rfl | omega | (subst_vars; rfl) | (subst_vars; funext k; simp only [zup]; (repeat' split) <;> first | rfl | omega | (subst_vars; rfl) | (simp_all; done))))
              | false =>
                try simp only [hc10, cond_true, cond_false] at hG ⊢
                cases hc12 : (!decide (y = z)) with
                | true =>
                  try simp only [hc12, cond_true, cond_false] at hG ⊢
                  all_goals try simp only [Bool.and_eq_true, Bool.true_and, Bool.and_true] at hG
                  all_goals try simp only [hG, zg, cond_true, and_self]
                  all_goals first | rfl | (refine congrArg some (congrArg Sum.inr (Prod.ext rfl (Prod.ext ?_ (Prod.ext ?_ rfl)))) <;> first | rfl | (funext b; simp only [zup]; (repeat' split) <;> first | rfl | omega | (subst_vars; rfl) | (subst_vars; funext k; simp only [zup]; (repeat' split) <;> first | rfl | omega | (subst_vars; rfl) | (simp_all; done))))
                | false =>
                  try simp only [hc12, cond_true, cond_false] at hG ⊢
                  all_goals try simp only [Bool.and_eq_true, Bool.true_and, Bool.and_true] at hG
                  all_goals try simp only [hG, zg, cond_true, and_self]
                  all_goals first | rfl | (refine congrArg some (congrArg Sum.inr (Prod.ext rfl (Prod.ext ?_ (Prod.ext ?_ rfl)))) <;> first | rfl | (funext b; simp only [zup]; (repeat' split) <;> first | rfl | omega | (subst_vars; rfl) | (subst_vars; funext k; simp only [zup]; (repeat' split) <;> first | rfl | omega | (subst_vars; rfl) | (simp_all; done))))
theorem ok_lw_reckon (X : Nat × (Nat → Int32)) : zOkS X 47 S_lw_reckon 1 := zOkS_new (zOkE_nil X 0) (by
  intro args g o h
  obtain ⟨ar, fi, m1, m2, m3, m4, m5⟩ := g
  unfold S_lw_reckon P_lw_reckon at h
  split at h
  · have h2 := Option.some.inj h
    have hG := congrArg Prod.fst h2
    have ho := congrArg Prod.snd h2
    dsimp only at hG ho
    subst ho
    exact zseg_ret (e_lw_reckon hG)
  · cases h)
