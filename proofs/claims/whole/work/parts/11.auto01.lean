def w_cl_nearer (x : Int32) (y : Int32) (z : Int32) (ar fi : Nat → Nat → Int32) : Int32 := (bif decide ((if 0 ≤ x - y then x - y else 0 - (x - y)) ≤ (if 0 ≤ x - z then x - z else 0 - (x - z))) then y else z)
set_option maxRecDepth 10000 in
theorem t_cl_nearer {X : Nat × (Nat → Int32)} {ar fi : Nat → Nat → Int32} {m : zM5} {x y z : Int32} : zseg X zFT zE0 zc_4 (fun _ => false) 400 0 [.int x, .int y, .int z] [] (ar, fi, m) = (
  bif decide ((if 0 ≤ x - y then x - y else 0 - (x - y)) ≤ (if 0 ≤ x - z then x - z else 0 - (x - z))) then
   some (.inr (some (.int y), (ar, fi, m)))
  else
   some (.inr (some (.int z), (ar, fi, m))) : Option ((Nat × List Value × List Value × zH2) ⊕ zO2)) := rfl
theorem e_cl_nearer {X : Nat × (Nat → Int32)} {ar fi : Nat → Nat → Int32} {m : zM5} {x y z : Int32} : zseg X zFT zE0 zc_4 (fun _ => false) 400 0 [.int x, .int y, .int z] [] (ar, fi, m) = some (.inr (some (.int (w_cl_nearer x y z ar fi)), (ar, fi, m))) := by
  rw [t_cl_nearer]
  show _ = (some (.inr (some (.int (bif decide ((if 0 ≤ x - y then x - y else 0 - (x - y)) ≤ (if 0 ≤ x - z then x - z else 0 - (x - z))) then y else z)), (ar, fi, m))) : Option ((Nat × List Value × List Value × zH2) ⊕ zO2))
  cases hc145 : (decide ((if 0 ≤ x - y then x - y else 0 - (x - y)) ≤ (if 0 ≤ x - z then x - z else 0 - (x - z)))) with
  | true =>
    try simp only [hc145, cond_true, cond_false]
    all_goals rfl
  | false =>
    try simp only [hc145, cond_true, cond_false]
    all_goals rfl
def S_cl_nearer : zSp := fun as g => match as with
  | [.int x, .int y, .int z] => some (true, (some (.int (w_cl_nearer x y z g.1 g.2.1)), (g.1, g.2.1, g.2.2)))
  | _ => none
theorem k_cl_nearer {X : Nat × (Nat → Int32)} : ∀ args g o, S_cl_nearer args g = some (true, o) → zR2 X zFT zE0 (zC 4) 0 args [] g o := by
  intro args g o h
  obtain ⟨ar, fi, m1, m2, m3, m4, m5⟩ := g
  unfold S_cl_nearer at h
  split at h
  · have h1 := h
    have h2 := Option.some.inj h1
    have hG := congrArg Prod.fst h2
    have ho := congrArg Prod.snd h2
    clear h h1 h2
    dsimp only at hG ho
    subst ho
    exact zseg_ret (e_cl_nearer)
  · cases h
def a_cu_visit (x : Int32) (y : Int32) (ar fi : Nat → Nat → Int32) : Nat → Nat → Int32 := (bif decide (0 ≤ (ar 60) (x.toNatClampNeg)) then ar else (bif decide (192 ≤ fi 57 4) then ar else (zup (zup ar 60 (zup (ar 60) (x.toNatClampNeg) y)) 61 (zup (ar 61) ((fi 57 4).toNatClampNeg) x))))
def f_cu_visit (x : Int32) (y : Int32) (ar fi : Nat → Nat → Int32) : Nat → Nat → Int32 := (bif decide (0 ≤ (ar 60) (x.toNatClampNeg)) then fi else (bif decide (192 ≤ fi 57 4) then fi else (zup fi 57 (zup (fi 57) 4 ((fi 57 4) + 1)))))
def g_cu_visit (x : Int32) (y : Int32) (ar fi : Nat → Nat → Int32) : Bool := (zin x 192) && (bif decide (0 ≤ (ar 60) (x.toNatClampNeg)) then true else bif decide (192 ≤ fi 57 4) then true else (zin x 192) && (zin (fi 57 4) 192))
set_option maxRecDepth 10000 in
theorem t_cu_visit {X : Nat × (Nat → Int32)} {ar fi : Nat → Nat → Int32} {m : zM5} {x y : Int32} : zseg X zFT zE0 zc_14 (fun _ => false) 400 0 [.ref 57, .int x, .int y] [] (ar, fi, m) = (
  zg (zin x 192) (
  bif decide (0 ≤ (ar 60) (x.toNatClampNeg)) then
   some (.inr (none, (ar, fi, m)))
  else
   bif decide (192 ≤ fi 57 4) then
    some (.inr (none, (ar, fi, m)))
   else
    zg (zin x 192) (
    zg (zin (fi 57 4) 192) (
    some (.inr (none, ((zup (zup ar 60 (zup (ar 60) (x.toNatClampNeg) y)) 61 (zup (ar 61) ((fi 57 4).toNatClampNeg) x)), (zup fi 57 (zup (fi 57) 4 ((fi 57 4) + 1))), m)))))) : Option ((Nat × List Value × List Value × zH2) ⊕ zO2)) := rfl
theorem e_cu_visit {X : Nat × (Nat → Int32)} {ar fi : Nat → Nat → Int32} {m : zM5} {x y : Int32} (hG : g_cu_visit x y ar fi = true) : zseg X zFT zE0 zc_14 (fun _ => false) 400 0 [.ref 57, .int x, .int y] [] (ar, fi, m) = some (.inr (none, (a_cu_visit x y ar fi, f_cu_visit x y ar fi, m))) := by
  rw [t_cu_visit]
  have hG : ((zin x 192) && (bif decide (0 ≤ (ar 60) (x.toNatClampNeg)) then true else bif decide (192 ≤ fi 57 4) then true else (zin x 192) && (zin (fi 57 4) 192))) = true := hG
  show _ = (some (.inr (none, ((bif decide (0 ≤ (ar 60) (x.toNatClampNeg)) then ar else (bif decide (192 ≤ fi 57 4) then ar else (zup (zup ar 60 (zup (ar 60) (x.toNatClampNeg) y)) 61 (zup (ar 61) ((fi 57 4).toNatClampNeg) x)))), (bif decide (0 ≤ (ar 60) (x.toNatClampNeg)) then fi else (bif decide (192 ≤ fi 57 4) then fi else (zup fi 57 (zup (fi 57) 4 ((fi 57 4) + 1))))), m))) : Option ((Nat × List Value × List Value × zH2) ⊕ zO2))
  cases hc146 : (decide (0 ≤ (ar 60) (x.toNatClampNeg))) with
  | true =>
    try simp only [hc146, cond_true, cond_false] at hG ⊢
    all_goals first | rfl | (simp only [zg, hG, cond_true]; done) | (simp only [Bool.and_eq_true, Bool.true_and, Bool.and_true] at hG; simp only [zg, hG, cond_true]; done)
  | false =>
    try simp only [hc146, cond_true, cond_false] at hG ⊢
    cases hc147 : (decide (192 ≤ fi 57 4)) with
    | true =>
      try simp only [hc147, cond_true, cond_false] at hG ⊢
      all_goals first | rfl | (simp only [zg, hG, cond_true]; done) | (simp only [Bool.and_eq_true, Bool.true_and, Bool.and_true] at hG; simp only [zg, hG, cond_true]; done)
    | false =>
      try simp only [hc147, cond_true, cond_false] at hG ⊢
      all_goals first | rfl | (simp only [zg, hG, cond_true]; done) | (simp only [Bool.and_eq_true, Bool.true_and, Bool.and_true] at hG; simp only [zg, hG, cond_true]; done)
def S_cu_visit : zSp := fun as g => match as with
  | [.ref q0, .int x, .int y] => bif (Nat.beq q0 57) then some (g_cu_visit x y g.1 g.2.1, (none, (a_cu_visit x y g.1 g.2.1, f_cu_visit x y g.1 g.2.1, g.2.2))) else none
  | _ => none
theorem k_cu_visit {X : Nat × (Nat → Int32)} : ∀ args g o, S_cu_visit args g = some (true, o) → zR2 X zFT zE0 (zC 14) 0 args [] g o := by
  intro args g o h
  obtain ⟨ar, fi, m1, m2, m3, m4, m5⟩ := g
  unfold S_cu_visit at h
  split at h
  · refine zb_el h (fun hI h1 => ?_) (fun _ h1 => by cases h1)
    have h2 := Option.some.inj h1
    have hG := congrArg Prod.fst h2
    have ho := congrArg Prod.snd h2
    clear h h1 h2
    dsimp only at hG ho
    subst ho
    try simp only [Bool.and_eq_true] at hI
    have hI0 := hI
    obtain rfl := Nat.eq_of_beq_eq_true hI0
    exact zseg_ret (e_cu_visit hG)
  · cases h
def a_gr_reach (x : Int32) (y : Int32) (ar fi : Nat → Nat → Int32) : Nat → Nat → Int32 := (bif decide (0 ≤ (ar 53) (x.toNatClampNeg)) then ar else (bif decide (96 ≤ fi 52 1) then ar else (zup (zup ar 53 (zup (ar 53) (x.toNatClampNeg) y)) 54 (zup (ar 54) ((fi 52 1).toNatClampNeg) x))))
def f_gr_reach (x : Int32) (y : Int32) (ar fi : Nat → Nat → Int32) : Nat → Nat → Int32 := (bif decide (0 ≤ (ar 53) (x.toNatClampNeg)) then fi else (bif decide (96 ≤ fi 52 1) then fi else (zup fi 52 (zup (fi 52) 1 ((fi 52 1) + 1)))))
def g_gr_reach (x : Int32) (y : Int32) (ar fi : Nat → Nat → Int32) : Bool := (zin x 96) && (bif decide (0 ≤ (ar 53) (x.toNatClampNeg)) then true else bif decide (96 ≤ fi 52 1) then true else (zin x 96) && (zin (fi 52 1) 96))
set_option maxRecDepth 10000 in
theorem t_gr_reach {X : Nat × (Nat → Int32)} {ar fi : Nat → Nat → Int32} {m : zM5} {x y : Int32} : zseg X zFT zE0 zc_28 (fun _ => false) 400 0 [.ref 52, .int x, .int y] [] (ar, fi, m) = (
  zg (zin x 96) (
  bif decide (0 ≤ (ar 53) (x.toNatClampNeg)) then
   some (.inr (none, (ar, fi, m)))
  else
   bif decide (96 ≤ fi 52 1) then
    some (.inr (none, (ar, fi, m)))
   else
    zg (zin x 96) (
    zg (zin (fi 52 1) 96) (
    some (.inr (none, ((zup (zup ar 53 (zup (ar 53) (x.toNatClampNeg) y)) 54 (zup (ar 54) ((fi 52 1).toNatClampNeg) x)), (zup fi 52 (zup (fi 52) 1 ((fi 52 1) + 1))), m)))))) : Option ((Nat × List Value × List Value × zH2) ⊕ zO2)) := rfl
theorem e_gr_reach {X : Nat × (Nat → Int32)} {ar fi : Nat → Nat → Int32} {m : zM5} {x y : Int32} (hG : g_gr_reach x y ar fi = true) : zseg X zFT zE0 zc_28 (fun _ => false) 400 0 [.ref 52, .int x, .int y] [] (ar, fi, m) = some (.inr (none, (a_gr_reach x y ar fi, f_gr_reach x y ar fi, m))) := by
  rw [t_gr_reach]
  have hG : ((zin x 96) && (bif decide (0 ≤ (ar 53) (x.toNatClampNeg)) then true else bif decide (96 ≤ fi 52 1) then true else (zin x 96) && (zin (fi 52 1) 96))) = true := hG
  show _ = (some (.inr (none, ((bif decide (0 ≤ (ar 53) (x.toNatClampNeg)) then ar else (bif decide (96 ≤ fi 52 1) then ar else (zup (zup ar 53 (zup (ar 53) (x.toNatClampNeg) y)) 54 (zup (ar 54) ((fi 52 1).toNatClampNeg) x)))), (bif decide (0 ≤ (ar 53) (x.toNatClampNeg)) then fi else (bif decide (96 ≤ fi 52 1) then fi else (zup fi 52 (zup (fi 52) 1 ((fi 52 1) + 1))))), m))) : Option ((Nat × List Value × List Value × zH2) ⊕ zO2))
  cases hc148 : (decide (0 ≤ (ar 53) (x.toNatClampNeg))) with
  | true =>
    try simp only [hc148, cond_true, cond_false] at hG ⊢
    all_goals first | rfl | (simp only [zg, hG, cond_true]; done) | (simp only [Bool.and_eq_true, Bool.true_and, Bool.and_true] at hG; simp only [zg, hG, cond_true]; done)
  | false =>
    try simp only [hc148, cond_true, cond_false] at hG ⊢
    cases hc149 : (decide (96 ≤ fi 52 1)) with
    | true =>
      try simp only [hc149, cond_true, cond_false] at hG ⊢
      all_goals first | rfl | (simp only [zg, hG, cond_true]; done) | (simp only [Bool.and_eq_true, Bool.true_and, Bool.and_true] at hG; simp only [zg, hG, cond_true]; done)
    | false =>
      try simp only [hc149, cond_true, cond_false] at hG ⊢
      all_goals first | rfl | (simp only [zg, hG, cond_true]; done) | (simp only [Bool.and_eq_true, Bool.true_and, Bool.and_true] at hG; simp only [zg, hG, cond_true]; done)
def S_gr_reach : zSp := fun as g => match as with
  | [.ref q0, .int x, .int y] => bif (Nat.beq q0 52) then some (g_gr_reach x y g.1 g.2.1, (none, (a_gr_reach x y g.1 g.2.1, f_gr_reach x y g.1 g.2.1, g.2.2))) else none
  | _ => none
theorem k_gr_reach {X : Nat × (Nat → Int32)} : ∀ args g o, S_gr_reach args g = some (true, o) → zR2 X zFT zE0 (zC 28) 0 args [] g o := by
  intro args g o h
  obtain ⟨ar, fi, m1, m2, m3, m4, m5⟩ := g
  unfold S_gr_reach at h
  split at h
  · refine zb_el h (fun hI h1 => ?_) (fun _ h1 => by cases h1)
    have h2 := Option.some.inj h1
    have hG := congrArg Prod.fst h2
    have ho := congrArg Prod.snd h2
    clear h h1 h2
    dsimp only at hG ho
    subst ho
    try simp only [Bool.and_eq_true] at hI
    have hI0 := hI
    obtain rfl := Nat.eq_of_beq_eq_true hI0
    exact zseg_ret (e_gr_reach hG)
  · cases h
def w_gr_isFreeAt (x : Int32) (y : Int32) (ar fi : Nat → Nat → Int32) : Int32 := (bif decide ((ar 53) (x.toNatClampNeg) < 0) then 1 else (bif decide ((ar 53) (x.toNatClampNeg) ≤ y) then 0 else 1))
def g_gr_isFreeAt (x : Int32) (y : Int32) (ar fi : Nat → Nat → Int32) : Bool := (zin x 96) && (bif decide ((ar 53) (x.toNatClampNeg) < 0) then true else zin x 96)
set_option maxRecDepth 10000 in
theorem t_gr_isFreeAt {X : Nat × (Nat → Int32)} {ar fi : Nat → Nat → Int32} {m : zM5} {x y : Int32} : zseg X zFT zE0 zc_33 (fun _ => false) 400 0 [.ref 52, .int x, .int y] [] (ar, fi, m) = (
  zg (zin x 96) (
  bif decide ((ar 53) (x.toNatClampNeg) < 0) then
   some (.inr (some (.int 1), (ar, fi, m)))
  else
   zg (zin x 96) (
   bif decide ((ar 53) (x.toNatClampNeg) ≤ y) then
    some (.inr (some (.int 0), (ar, fi, m)))
   else
    some (.inr (some (.int 1), (ar, fi, m))))) : Option ((Nat × List Value × List Value × zH2) ⊕ zO2)) := rfl
theorem e_gr_isFreeAt {X : Nat × (Nat → Int32)} {ar fi : Nat → Nat → Int32} {m : zM5} {x y : Int32} (hG : g_gr_isFreeAt x y ar fi = true) : zseg X zFT zE0 zc_33 (fun _ => false) 400 0 [.ref 52, .int x, .int y] [] (ar, fi, m) = some (.inr (some (.int (w_gr_isFreeAt x y ar fi)), (ar, fi, m))) := by
  rw [t_gr_isFreeAt]
  have hG : ((zin x 96) && (bif decide ((ar 53) (x.toNatClampNeg) < 0) then true else zin x 96)) = true := hG
  show _ = (some (.inr (some (.int (bif decide ((ar 53) (x.toNatClampNeg) < 0) then 1 else (bif decide ((ar 53) (x.toNatClampNeg) ≤ y) then 0 else 1))), (ar, fi, m))) : Option ((Nat × List Value × List Value × zH2) ⊕ zO2))
  cases hc150 : (decide ((ar 53) (x.toNatClampNeg) < 0)) with
  | true =>
    try simp only [hc150, cond_true, cond_false] at hG ⊢
    all_goals first | rfl | (simp only [zg, hG, cond_true]; done) | (simp only [Bool.and_eq_true, Bool.true_and, Bool.and_true] at hG; simp only [zg, hG, cond_true]; done)
  | false =>
    try simp only [hc150, cond_true, cond_false] at hG ⊢
    cases hc151 : (decide ((ar 53) (x.toNatClampNeg) ≤ y)) with
    | true =>
      try simp only [hc151, cond_true, cond_false] at hG ⊢
      all_goals first | rfl | (simp only [zg, hG, cond_true]; done) | (simp only [Bool.and_eq_true, Bool.true_and, Bool.and_true] at hG; simp only [zg, hG, cond_true]; done)
    | false =>
      try simp only [hc151, cond_true, cond_false] at hG ⊢
      all_goals first | rfl | (simp only [zg, hG, cond_true]; done) | (simp only [Bool.and_eq_true, Bool.true_and, Bool.and_true] at hG; simp only [zg, hG, cond_true]; done)
def S_gr_isFreeAt : zSp := fun as g => match as with
  | [.ref q0, .int x, .int y] => bif (Nat.beq q0 52) then some (g_gr_isFreeAt x y g.1 g.2.1, (some (.int (w_gr_isFreeAt x y g.1 g.2.1)), (g.1, g.2.1, g.2.2))) else none
  | _ => none
theorem k_gr_isFreeAt {X : Nat × (Nat → Int32)} : ∀ args g o, S_gr_isFreeAt args g = some (true, o) → zR2 X zFT zE0 (zC 33) 0 args [] g o := by
  intro args g o h
  obtain ⟨ar, fi, m1, m2, m3, m4, m5⟩ := g
  unfold S_gr_isFreeAt at h
  split at h
  · refine zb_el h (fun hI h1 => ?_) (fun _ h1 => by cases h1)
    have h2 := Option.some.inj h1
    have hG := congrArg Prod.fst h2
    have ho := congrArg Prod.snd h2
    clear h h1 h2
    dsimp only at hG ho
    subst ho
    try simp only [Bool.and_eq_true] at hI
    have hI0 := hI
    obtain rfl := Nat.eq_of_beq_eq_true hI0
    exact zseg_ret (e_gr_isFreeAt hG)
  · cases h
def w_gr_isEdge (x : Int32) (ar fi : Nat → Nat → Int32) : Int32 := (bif decide (x - x / 12 * 12 = 0) then 1 else (bif decide (x - x / 12 * 12 = 11) then 1 else (bif decide (x / 12 = 0) then 1 else (bif !decide (x / 12 = 7) then 0 else 1))))
set_option maxRecDepth 10000 in
theorem t_gr_isEdge {X : Nat × (Nat → Int32)} {ar fi : Nat → Nat → Int32} {m : zM5} {x : Int32} : zseg X zFT zE0 zc_34 (fun _ => false) 400 0 [.int x] [] (ar, fi, m) = (
  bif decide (x - x / 12 * 12 = 0) then
   some (.inr (some (.int 1), (ar, fi, m)))
  else
   bif decide (x - x / 12 * 12 = 11) then
    some (.inr (some (.int 1), (ar, fi, m)))
   else
    bif decide (x / 12 = 0) then
     some (.inr (some (.int 1), (ar, fi, m)))
    else
     bif !decide (x / 12 = 7) then
      some (.inr (some (.int 0), (ar, fi, m)))
     else
      some (.inr (some (.int 1), (ar, fi, m))) : Option ((Nat × List Value × List Value × zH2) ⊕ zO2)) := rfl
theorem e_gr_isEdge {X : Nat × (Nat → Int32)} {ar fi : Nat → Nat → Int32} {m : zM5} {x : Int32} : zseg X zFT zE0 zc_34 (fun _ => false) 400 0 [.int x] [] (ar, fi, m) = some (.inr (some (.int (w_gr_isEdge x ar fi)), (ar, fi, m))) := by
  rw [t_gr_isEdge]
  show _ = (some (.inr (some (.int (bif decide (x - x / 12 * 12 = 0) then 1 else (bif decide (x - x / 12 * 12 = 11) then 1 else (bif decide (x / 12 = 0) then 1 else (bif !decide (x / 12 = 7) then 0 else 1))))), (ar, fi, m))) : Option ((Nat × List Value × List Value × zH2) ⊕ zO2))
  cases hc152 : (decide (x - x / 12 * 12 = 0)) with
  | true =>
    try simp only [hc152, cond_true, cond_false]
    all_goals rfl
  | false =>
    try simp only [hc152, cond_true, cond_false]
    cases hc153 : (decide (x - x / 12 * 12 = 11)) with
    | true =>
      try simp only [hc153, cond_true, cond_false]
      all_goals rfl
    | false =>
      try simp only [hc153, cond_true, cond_false]
      cases hc154 : (decide (x / 12 = 0)) with
      | true =>
        try simp only [hc154, cond_true, cond_false]
        all_goals rfl
      | false =>
        try simp only [hc154, cond_true, cond_false]
        cases hc155 : (!decide (x / 12 = 7)) with
        | true =>
          try simp only [hc155, cond_true, cond_false]
          all_goals rfl
        | false =>
          try simp only [hc155, cond_true, cond_false]
          all_goals rfl
def S_gr_isEdge : zSp := fun as g => match as with
  | [.int x] => some (true, (some (.int (w_gr_isEdge x g.1 g.2.1)), (g.1, g.2.1, g.2.2)))
  | _ => none
theorem k_gr_isEdge {X : Nat × (Nat → Int32)} : ∀ args g o, S_gr_isEdge args g = some (true, o) → zR2 X zFT zE0 (zC 34) 0 args [] g o := by
  intro args g o h
  obtain ⟨ar, fi, m1, m2, m3, m4, m5⟩ := g
  unfold S_gr_isEdge at h
  split at h
  · have h1 := h
    have h2 := Option.some.inj h1
    have hG := congrArg Prod.fst h2
    have ho := congrArg Prod.snd h2
    clear h h1 h2
    dsimp only at hG ho
    subst ho
    exact zseg_ret (e_gr_isEdge)
  · cases h
def f_lw_clear (a : Nat) (ar fi : Nat → Nat → Int32) : Nat → Nat → Int32 := bif Nat.beq a 23 then (zup (zup (zup fi 23 (zup (fi 23) 7 0)) 23 (zup ((zup fi 23 (zup (fi 23) 7 0)) 23) 9 0)) 23 (zup ((zup (zup fi 23 (zup (fi 23) 7 0)) 23 (zup ((zup fi 23 (zup (fi 23) 7 0)) 23) 9 0)) 23) 8 0)) else (zup (zup (zup fi 31 (zup (fi 31) 7 0)) 31 (zup ((zup fi 31 (zup (fi 31) 7 0)) 31) 9 0)) 31 (zup ((zup (zup fi 31 (zup (fi 31) 7 0)) 31 (zup ((zup fi 31 (zup (fi 31) 7 0)) 31) 9 0)) 31) 8 0))
set_option maxRecDepth 10000 in
theorem t_lw_clear_23 {X : Nat × (Nat → Int32)} {ar fi : Nat → Nat → Int32} {m : zM5} : zseg X zFT zE0 zc_36 (fun _ => false) 400 0 [.ref 23] [] (ar, fi, m) = (
  some (.inr (none, (ar, (zup (zup (zup fi 23 (zup (fi 23) 7 0)) 23 (zup ((zup fi 23 (zup (fi 23) 7 0)) 23) 9 0)) 23 (zup ((zup (zup fi 23 (zup (fi 23) 7 0)) 23 (zup ((zup fi 23 (zup (fi 23) 7 0)) 23) 9 0)) 23) 8 0)), m))) : Option ((Nat × List Value × List Value × zH2) ⊕ zO2)) := rfl
theorem e_lw_clear_23 {X : Nat × (Nat → Int32)} {ar fi : Nat → Nat → Int32} {m : zM5} : zseg X zFT zE0 zc_36 (fun _ => false) 400 0 [.ref 23] [] (ar, fi, m) = some (.inr (none, (ar, f_lw_clear 23 ar fi, m))) := by
  rw [t_lw_clear_23]
  show _ = (some (.inr (none, (ar, (zup (zup (zup fi 23 (zup (fi 23) 7 0)) 23 (zup ((zup fi 23 (zup (fi 23) 7 0)) 23) 9 0)) 23 (zup ((zup (zup fi 23 (zup (fi 23) 7 0)) 23 (zup ((zup fi 23 (zup (fi 23) 7 0)) 23) 9 0)) 23) 8 0)), m))) : Option ((Nat × List Value × List Value × zH2) ⊕ zO2))
  all_goals rfl
set_option maxRecDepth 10000 in
theorem t_lw_clear_31 {X : Nat × (Nat → Int32)} {ar fi : Nat → Nat → Int32} {m : zM5} : zseg X zFT zE0 zc_36 (fun _ => false) 400 0 [.ref 31] [] (ar, fi, m) = (
  some (.inr (none, (ar, (zup (zup (zup fi 31 (zup (fi 31) 7 0)) 31 (zup ((zup fi 31 (zup (fi 31) 7 0)) 31) 9 0)) 31 (zup ((zup (zup fi 31 (zup (fi 31) 7 0)) 31 (zup ((zup fi 31 (zup (fi 31) 7 0)) 31) 9 0)) 31) 8 0)), m))) : Option ((Nat × List Value × List Value × zH2) ⊕ zO2)) := rfl
theorem e_lw_clear_31 {X : Nat × (Nat → Int32)} {ar fi : Nat → Nat → Int32} {m : zM5} : zseg X zFT zE0 zc_36 (fun _ => false) 400 0 [.ref 31] [] (ar, fi, m) = some (.inr (none, (ar, f_lw_clear 31 ar fi, m))) := by
  rw [t_lw_clear_31]
  show _ = (some (.inr (none, (ar, (zup (zup (zup fi 31 (zup (fi 31) 7 0)) 31 (zup ((zup fi 31 (zup (fi 31) 7 0)) 31) 9 0)) 31 (zup ((zup (zup fi 31 (zup (fi 31) 7 0)) 31 (zup ((zup fi 31 (zup (fi 31) 7 0)) 31) 9 0)) 31) 8 0)), m))) : Option ((Nat × List Value × List Value × zH2) ⊕ zO2))
  all_goals rfl
def S_lw_clear : zSp := fun as g => match as with
  | [.ref a] => bif ((Nat.beq a 23) || (Nat.beq a 31)) then some (true, (none, (g.1, f_lw_clear a g.1 g.2.1, g.2.2))) else none
  | _ => none
theorem k_lw_clear {X : Nat × (Nat → Int32)} : ∀ args g o, S_lw_clear args g = some (true, o) → zR2 X zFT zE0 (zC 36) 0 args [] g o := by
  intro args g o h
  obtain ⟨ar, fi, m1, m2, m3, m4, m5⟩ := g
  unfold S_lw_clear at h
  split at h
  · refine zb_el h (fun hI h1 => ?_) (fun _ h1 => by cases h1)
    have h2 := Option.some.inj h1
    have hG := congrArg Prod.fst h2
    have ho := congrArg Prod.snd h2
    clear h h1 h2
    dsimp only at hG ho
    subst ho
    try simp only [Bool.or_eq_true, Bool.and_eq_true] at hI
    rcases hI with hI0 | hI0
    · obtain rfl := Nat.eq_of_beq_eq_true hI0
      exact zseg_ret (e_lw_clear_23)
    · obtain rfl := Nat.eq_of_beq_eq_true hI0
      exact zseg_ret (e_lw_clear_31)
  · cases h
def a_lw_beginRule (a : Nat) (x : Int32) (ar fi : Nat → Nat → Int32) : Nat → Nat → Int32 := bif Nat.beq a 23 then (bif decide (16 ≤ fi 23 9) then ar else (zup (zup ar 27 (zup (ar 27) ((fi 23 9).toNatClampNeg) x)) 28 (zup (ar 28) ((fi 23 9).toNatClampNeg) (fi 23 7)))) else (bif decide (16 ≤ fi 31 9) then ar else (zup (zup ar 35 (zup (ar 35) ((fi 31 9).toNatClampNeg) x)) 36 (zup (ar 36) ((fi 31 9).toNatClampNeg) (fi 31 7))))
def g_lw_beginRule (a : Nat) (x : Int32) (ar fi : Nat → Nat → Int32) : Bool := bif Nat.beq a 23 then bif decide (16 ≤ fi 23 9) then true else (zin (fi 23 9) 16) && (zin (fi 23 9) 16) else bif decide (16 ≤ fi 31 9) then true else (zin (fi 31 9) 16) && (zin (fi 31 9) 16)
set_option maxRecDepth 10000 in
theorem t_lw_beginRule_23 {X : Nat × (Nat → Int32)} {ar fi : Nat → Nat → Int32} {m : zM5} {x : Int32} : zseg X zFT zE0 zc_37 (fun _ => false) 400 0 [.ref 23, .int x] [] (ar, fi, m) = (
  bif decide (16 ≤ fi 23 9) then
   some (.inr (none, (ar, fi, m)))
  else
   zg (zin (fi 23 9) 16) (
   zg (zin (fi 23 9) 16) (
   some (.inr (none, ((zup (zup ar 27 (zup (ar 27) ((fi 23 9).toNatClampNeg) x)) 28 (zup (ar 28) ((fi 23 9).toNatClampNeg) (fi 23 7))), fi, m))))) : Option ((Nat × List Value × List Value × zH2) ⊕ zO2)) := rfl
theorem e_lw_beginRule_23 {X : Nat × (Nat → Int32)} {ar fi : Nat → Nat → Int32} {m : zM5} {x : Int32} (hG : g_lw_beginRule 23 x ar fi = true) : zseg X zFT zE0 zc_37 (fun _ => false) 400 0 [.ref 23, .int x] [] (ar, fi, m) = some (.inr (none, (a_lw_beginRule 23 x ar fi, fi, m))) := by
  rw [t_lw_beginRule_23]
  have hG : (bif decide (16 ≤ fi 23 9) then true else (zin (fi 23 9) 16) && (zin (fi 23 9) 16)) = true := hG
  show _ = (some (.inr (none, ((bif decide (16 ≤ fi 23 9) then ar else (zup (zup ar 27 (zup (ar 27) ((fi 23 9).toNatClampNeg) x)) 28 (zup (ar 28) ((fi 23 9).toNatClampNeg) (fi 23 7)))), fi, m))) : Option ((Nat × List Value × List Value × zH2) ⊕ zO2))
  cases hc156 : (decide (16 ≤ fi 23 9)) with
  | true =>
    try simp only [hc156, cond_true, cond_false] at hG ⊢
    all_goals first | rfl | (simp only [zg, hG, cond_true]; done) | (simp only [Bool.and_eq_true, Bool.true_and, Bool.and_true] at hG; simp only [zg, hG, cond_true]; done)
  | false =>
    try simp only [hc156, cond_true, cond_false] at hG ⊢
    all_goals first | rfl | (simp only [zg, hG, cond_true]; done) | (simp only [Bool.and_eq_true, Bool.true_and, Bool.and_true] at hG; simp only [zg, hG, cond_true]; done)
set_option maxRecDepth 10000 in
theorem t_lw_beginRule_31 {X : Nat × (Nat → Int32)} {ar fi : Nat → Nat → Int32} {m : zM5} {x : Int32} : zseg X zFT zE0 zc_37 (fun _ => false) 400 0 [.ref 31, .int x] [] (ar, fi, m) = (
  bif decide (16 ≤ fi 31 9) then
   some (.inr (none, (ar, fi, m)))
  else
   zg (zin (fi 31 9) 16) (
   zg (zin (fi 31 9) 16) (
   some (.inr (none, ((zup (zup ar 35 (zup (ar 35) ((fi 31 9).toNatClampNeg) x)) 36 (zup (ar 36) ((fi 31 9).toNatClampNeg) (fi 31 7))), fi, m))))) : Option ((Nat × List Value × List Value × zH2) ⊕ zO2)) := rfl
theorem e_lw_beginRule_31 {X : Nat × (Nat → Int32)} {ar fi : Nat → Nat → Int32} {m : zM5} {x : Int32} (hG : g_lw_beginRule 31 x ar fi = true) : zseg X zFT zE0 zc_37 (fun _ => false) 400 0 [.ref 31, .int x] [] (ar, fi, m) = some (.inr (none, (a_lw_beginRule 31 x ar fi, fi, m))) := by
  rw [t_lw_beginRule_31]
  have hG : (bif decide (16 ≤ fi 31 9) then true else (zin (fi 31 9) 16) && (zin (fi 31 9) 16)) = true := hG
  show _ = (some (.inr (none, ((bif decide (16 ≤ fi 31 9) then ar else (zup (zup ar 35 (zup (ar 35) ((fi 31 9).toNatClampNeg) x)) 36 (zup (ar 36) ((fi 31 9).toNatClampNeg) (fi 31 7)))), fi, m))) : Option ((Nat × List Value × List Value × zH2) ⊕ zO2))
  cases hc157 : (decide (16 ≤ fi 31 9)) with
  | true =>
    try simp only [hc157, cond_true, cond_false] at hG ⊢
    all_goals first | rfl | (simp only [zg, hG, cond_true]; done) | (simp only [Bool.and_eq_true, Bool.true_and, Bool.and_true] at hG; simp only [zg, hG, cond_true]; done)
  | false =>
    try simp only [hc157, cond_true, cond_false] at hG ⊢
    all_goals first | rfl | (simp only [zg, hG, cond_true]; done) | (simp only [Bool.and_eq_true, Bool.true_and, Bool.and_true] at hG; simp only [zg, hG, cond_true]; done)
def S_lw_beginRule : zSp := fun as g => match as with
  | [.ref a, .int x] => bif ((Nat.beq a 23) || (Nat.beq a 31)) then some (g_lw_beginRule a x g.1 g.2.1, (none, (a_lw_beginRule a x g.1 g.2.1, g.2.1, g.2.2))) else none
  | _ => none
theorem k_lw_beginRule {X : Nat × (Nat → Int32)} : ∀ args g o, S_lw_beginRule args g = some (true, o) → zR2 X zFT zE0 (zC 37) 0 args [] g o := by
  intro args g o h
  obtain ⟨ar, fi, m1, m2, m3, m4, m5⟩ := g
  unfold S_lw_beginRule at h
  split at h
  · refine zb_el h (fun hI h1 => ?_) (fun _ h1 => by cases h1)
    have h2 := Option.some.inj h1
    have hG := congrArg Prod.fst h2
    have ho := congrArg Prod.snd h2
    clear h h1 h2
    dsimp only at hG ho
    subst ho
    try simp only [Bool.or_eq_true, Bool.and_eq_true] at hI
    rcases hI with hI0 | hI0
    · obtain rfl := Nat.eq_of_beq_eq_true hI0
      exact zseg_ret (e_lw_beginRule_23 hG)
    · obtain rfl := Nat.eq_of_beq_eq_true hI0
      exact zseg_ret (e_lw_beginRule_31 hG)
  · cases h
def a_lw_beginCondition (a : Nat) (ar fi : Nat → Nat → Int32) : Nat → Nat → Int32 := bif Nat.beq a 23 then (bif decide (16 ≤ fi 23 9) then ar else (zup ar 29 (zup (ar 29) ((fi 23 9).toNatClampNeg) (fi 23 7)))) else (bif decide (16 ≤ fi 31 9) then ar else (zup ar 37 (zup (ar 37) ((fi 31 9).toNatClampNeg) (fi 31 7))))
def g_lw_beginCondition (a : Nat) (ar fi : Nat → Nat → Int32) : Bool := bif Nat.beq a 23 then bif decide (16 ≤ fi 23 9) then true else zin (fi 23 9) 16 else bif decide (16 ≤ fi 31 9) then true else zin (fi 31 9) 16
set_option maxRecDepth 10000 in
theorem t_lw_beginCondition_23 {X : Nat × (Nat → Int32)} {ar fi : Nat → Nat → Int32} {m : zM5} : zseg X zFT zE0 zc_38 (fun _ => false) 400 0 [.ref 23] [] (ar, fi, m) = (
  bif decide (16 ≤ fi 23 9) then
   some (.inr (none, (ar, fi, m)))
  else
   zg (zin (fi 23 9) 16) (
   some (.inr (none, ((zup ar 29 (zup (ar 29) ((fi 23 9).toNatClampNeg) (fi 23 7))), fi, m)))) : Option ((Nat × List Value × List Value × zH2) ⊕ zO2)) := rfl
theorem e_lw_beginCondition_23 {X : Nat × (Nat → Int32)} {ar fi : Nat → Nat → Int32} {m : zM5} (hG : g_lw_beginCondition 23 ar fi = true) : zseg X zFT zE0 zc_38 (fun _ => false) 400 0 [.ref 23] [] (ar, fi, m) = some (.inr (none, (a_lw_beginCondition 23 ar fi, fi, m))) := by
  rw [t_lw_beginCondition_23]
  have hG : (bif decide (16 ≤ fi 23 9) then true else zin (fi 23 9) 16) = true := hG
  show _ = (some (.inr (none, ((bif decide (16 ≤ fi 23 9) then ar else (zup ar 29 (zup (ar 29) ((fi 23 9).toNatClampNeg) (fi 23 7)))), fi, m))) : Option ((Nat × List Value × List Value × zH2) ⊕ zO2))
  cases hc158 : (decide (16 ≤ fi 23 9)) with
  | true =>
    try simp only [hc158, cond_true, cond_false] at hG ⊢
    all_goals first | rfl | (simp only [zg, hG, cond_true]; done) | (simp only [Bool.and_eq_true, Bool.true_and, Bool.and_true] at hG; simp only [zg, hG, cond_true]; done)
  | false =>
    try simp only [hc158, cond_true, cond_false] at hG ⊢
    all_goals first | rfl | (simp only [zg, hG, cond_true]; done) | (simp only [Bool.and_eq_true, Bool.true_and, Bool.and_true] at hG; simp only [zg, hG, cond_true]; done)
set_option maxRecDepth 10000 in
theorem t_lw_beginCondition_31 {X : Nat × (Nat → Int32)} {ar fi : Nat → Nat → Int32} {m : zM5} : zseg X zFT zE0 zc_38 (fun _ => false) 400 0 [.ref 31] [] (ar, fi, m) = (
  bif decide (16 ≤ fi 31 9) then
   some (.inr (none, (ar, fi, m)))
  else
   zg (zin (fi 31 9) 16) (
   some (.inr (none, ((zup ar 37 (zup (ar 37) ((fi 31 9).toNatClampNeg) (fi 31 7))), fi, m)))) : Option ((Nat × List Value × List Value × zH2) ⊕ zO2)) := rfl
theorem e_lw_beginCondition_31 {X : Nat × (Nat → Int32)} {ar fi : Nat → Nat → Int32} {m : zM5} (hG : g_lw_beginCondition 31 ar fi = true) : zseg X zFT zE0 zc_38 (fun _ => false) 400 0 [.ref 31] [] (ar, fi, m) = some (.inr (none, (a_lw_beginCondition 31 ar fi, fi, m))) := by
  rw [t_lw_beginCondition_31]
  have hG : (bif decide (16 ≤ fi 31 9) then true else zin (fi 31 9) 16) = true := hG
  show _ = (some (.inr (none, ((bif decide (16 ≤ fi 31 9) then ar else (zup ar 37 (zup (ar 37) ((fi 31 9).toNatClampNeg) (fi 31 7)))), fi, m))) : Option ((Nat × List Value × List Value × zH2) ⊕ zO2))
  cases hc159 : (decide (16 ≤ fi 31 9)) with
  | true =>
    try simp only [hc159, cond_true, cond_false] at hG ⊢
    all_goals first | rfl | (simp only [zg, hG, cond_true]; done) | (simp only [Bool.and_eq_true, Bool.true_and, Bool.and_true] at hG; simp only [zg, hG, cond_true]; done)
  | false =>
    try simp only [hc159, cond_true, cond_false] at hG ⊢
    all_goals first | rfl | (simp only [zg, hG, cond_true]; done) | (simp only [Bool.and_eq_true, Bool.true_and, Bool.and_true] at hG; simp only [zg, hG, cond_true]; done)
def S_lw_beginCondition : zSp := fun as g => match as with
  | [.ref a] => bif ((Nat.beq a 23) || (Nat.beq a 31)) then some (g_lw_beginCondition a g.1 g.2.1, (none, (a_lw_beginCondition a g.1 g.2.1, g.2.1, g.2.2))) else none
  | _ => none
theorem k_lw_beginCondition {X : Nat × (Nat → Int32)} : ∀ args g o, S_lw_beginCondition args g = some (true, o) → zR2 X zFT zE0 (zC 38) 0 args [] g o := by
  intro args g o h
  obtain ⟨ar, fi, m1, m2, m3, m4, m5⟩ := g
  unfold S_lw_beginCondition at h
  split at h
  · refine zb_el h (fun hI h1 => ?_) (fun _ h1 => by cases h1)
    have h2 := Option.some.inj h1
    have hG := congrArg Prod.fst h2
    have ho := congrArg Prod.snd h2
    clear h h1 h2
    dsimp only at hG ho
    subst ho
    try simp only [Bool.or_eq_true, Bool.and_eq_true] at hI
    rcases hI with hI0 | hI0
    · obtain rfl := Nat.eq_of_beq_eq_true hI0
      exact zseg_ret (e_lw_beginCondition_23 hG)
    · obtain rfl := Nat.eq_of_beq_eq_true hI0
      exact zseg_ret (e_lw_beginCondition_31 hG)
  · cases h
def a_lw_endRule (a : Nat) (ar fi : Nat → Nat → Int32) : Nat → Nat → Int32 := bif Nat.beq a 23 then (bif decide (16 ≤ fi 23 9) then ar else (zup ar 30 (zup (ar 30) ((fi 23 9).toNatClampNeg) (fi 23 7)))) else (bif decide (16 ≤ fi 31 9) then ar else (zup ar 38 (zup (ar 38) ((fi 31 9).toNatClampNeg) (fi 31 7))))
def f_lw_endRule (a : Nat) (ar fi : Nat → Nat → Int32) : Nat → Nat → Int32 := bif Nat.beq a 23 then (bif decide (16 ≤ fi 23 9) then fi else (zup fi 23 (zup (fi 23) 9 ((fi 23 9) + 1)))) else (bif decide (16 ≤ fi 31 9) then fi else (zup fi 31 (zup (fi 31) 9 ((fi 31 9) + 1))))
def g_lw_endRule (a : Nat) (ar fi : Nat → Nat → Int32) : Bool := bif Nat.beq a 23 then bif decide (16 ≤ fi 23 9) then true else zin (fi 23 9) 16 else bif decide (16 ≤ fi 31 9) then true else zin (fi 31 9) 16
set_option maxRecDepth 10000 in
theorem t_lw_endRule_23 {X : Nat × (Nat → Int32)} {ar fi : Nat → Nat → Int32} {m : zM5} : zseg X zFT zE0 zc_39 (fun _ => false) 400 0 [.ref 23] [] (ar, fi, m) = (
  bif decide (16 ≤ fi 23 9) then
   some (.inr (none, (ar, fi, m)))
  else
   zg (zin (fi 23 9) 16) (
   some (.inr (none, ((zup ar 30 (zup (ar 30) ((fi 23 9).toNatClampNeg) (fi 23 7))), (zup fi 23 (zup (fi 23) 9 ((fi 23 9) + 1))), m)))) : Option ((Nat × List Value × List Value × zH2) ⊕ zO2)) := rfl
theorem e_lw_endRule_23 {X : Nat × (Nat → Int32)} {ar fi : Nat → Nat → Int32} {m : zM5} (hG : g_lw_endRule 23 ar fi = true) : zseg X zFT zE0 zc_39 (fun _ => false) 400 0 [.ref 23] [] (ar, fi, m) = some (.inr (none, (a_lw_endRule 23 ar fi, f_lw_endRule 23 ar fi, m))) := by
  rw [t_lw_endRule_23]
  have hG : (bif decide (16 ≤ fi 23 9) then true else zin (fi 23 9) 16) = true := hG
  show _ = (some (.inr (none, ((bif decide (16 ≤ fi 23 9) then ar else (zup ar 30 (zup (ar 30) ((fi 23 9).toNatClampNeg) (fi 23 7)))), (bif decide (16 ≤ fi 23 9) then fi else (zup fi 23 (zup (fi 23) 9 ((fi 23 9) + 1)))), m))) : Option ((Nat × List Value × List Value × zH2) ⊕ zO2))
  cases hc160 : (decide (16 ≤ fi 23 9)) with
  | true =>
    try simp only [hc160, cond_true, cond_false] at hG ⊢
    all_goals first | rfl | (simp only [zg, hG, cond_true]; done) | (simp only [Bool.and_eq_true, Bool.true_and, Bool.and_true] at hG; simp only [zg, hG, cond_true]; done)
  | false =>
    try simp only [hc160, cond_true, cond_false] at hG ⊢
    all_goals first | rfl | (simp only [zg, hG, cond_true]; done) | (simp only [Bool.and_eq_true, Bool.true_and, Bool.and_true] at hG; simp only [zg, hG, cond_true]; done)
set_option maxRecDepth 10000 in
theorem t_lw_endRule_31 {X : Nat × (Nat → Int32)} {ar fi : Nat → Nat → Int32} {m : zM5} : zseg X zFT zE0 zc_39 (fun _ => false) 400 0 [.ref 31] [] (ar, fi, m) = (
  bif decide (16 ≤ fi 31 9) then
   some (.inr (none, (ar, fi, m)))
  else
   zg (zin (fi 31 9) 16) (
   some (.inr (none, ((zup ar 38 (zup (ar 38) ((fi 31 9).toNatClampNeg) (fi 31 7))), (zup fi 31 (zup (fi 31) 9 ((fi 31 9) + 1))), m)))) : Option ((Nat × List Value × List Value × zH2) ⊕ zO2)) := rfl
theorem e_lw_endRule_31 {X : Nat × (Nat → Int32)} {ar fi : Nat → Nat → Int32} {m : zM5} (hG : g_lw_endRule 31 ar fi = true) : zseg X zFT zE0 zc_39 (fun _ => false) 400 0 [.ref 31] [] (ar, fi, m) = some (.inr (none, (a_lw_endRule 31 ar fi, f_lw_endRule 31 ar fi, m))) := by
  rw [t_lw_endRule_31]
  have hG : (bif decide (16 ≤ fi 31 9) then true else zin (fi 31 9) 16) = true := hG
  show _ = (some (.inr (none, ((bif decide (16 ≤ fi 31 9) then ar else (zup ar 38 (zup (ar 38) ((fi 31 9).toNatClampNeg) (fi 31 7)))), (bif decide (16 ≤ fi 31 9) then fi else (zup fi 31 (zup (fi 31) 9 ((fi 31 9) + 1)))), m))) : Option ((Nat × List Value × List Value × zH2) ⊕ zO2))
  cases hc161 : (decide (16 ≤ fi 31 9)) with
  | true =>
    try simp only [hc161, cond_true, cond_false] at hG ⊢
    all_goals first | rfl | (simp only [zg, hG, cond_true]; done) | (simp only [Bool.and_eq_true, Bool.true_and, Bool.and_true] at hG; simp only [zg, hG, cond_true]; done)
  | false =>
    try simp only [hc161, cond_true, cond_false] at hG ⊢
    all_goals first | rfl | (simp only [zg, hG, cond_true]; done) | (simp only [Bool.and_eq_true, Bool.true_and, Bool.and_true] at hG; simp only [zg, hG, cond_true]; done)
def S_lw_endRule : zSp := fun as g => match as with
  | [.ref a] => bif ((Nat.beq a 23) || (Nat.beq a 31)) then some (g_lw_endRule a g.1 g.2.1, (none, (a_lw_endRule a g.1 g.2.1, f_lw_endRule a g.1 g.2.1, g.2.2))) else none
  | _ => none
theorem k_lw_endRule {X : Nat × (Nat → Int32)} : ∀ args g o, S_lw_endRule args g = some (true, o) → zR2 X zFT zE0 (zC 39) 0 args [] g o := by
  intro args g o h
  obtain ⟨ar, fi, m1, m2, m3, m4, m5⟩ := g
  unfold S_lw_endRule at h
  split at h
  · refine zb_el h (fun hI h1 => ?_) (fun _ h1 => by cases h1)
    have h2 := Option.some.inj h1
    have hG := congrArg Prod.fst h2
    have ho := congrArg Prod.snd h2
    clear h h1 h2
    dsimp only at hG ho
    subst ho
    try simp only [Bool.or_eq_true, Bool.and_eq_true] at hI
    rcases hI with hI0 | hI0
    · obtain rfl := Nat.eq_of_beq_eq_true hI0
      exact zseg_ret (e_lw_endRule_23 hG)
    · obtain rfl := Nat.eq_of_beq_eq_true hI0
      exact zseg_ret (e_lw_endRule_31 hG)
  · cases h
def w_lw_emit (a : Nat) (x : Int32) (y : Int32) (ar fi : Nat → Nat → Int32) : Int32 := bif Nat.beq a 23 then (bif decide (fi 23 7 < 240) then ((fi 23 7) + 1) - 1 else (-1)) else (bif decide (fi 31 7 < 240) then ((fi 31 7) + 1) - 1 else (-1))
def a_lw_emit (a : Nat) (x : Int32) (y : Int32) (ar fi : Nat → Nat → Int32) : Nat → Nat → Int32 := bif Nat.beq a 23 then (bif decide (fi 23 7 < 240) then (zup (zup ar 24 (zup (ar 24) ((fi 23 7).toNatClampNeg) x)) 25 (zup (ar 25) ((fi 23 7).toNatClampNeg) y)) else ar) else (bif decide (fi 31 7 < 240) then (zup (zup ar 32 (zup (ar 32) ((fi 31 7).toNatClampNeg) x)) 33 (zup (ar 33) ((fi 31 7).toNatClampNeg) y)) else ar)
def f_lw_emit (a : Nat) (x : Int32) (y : Int32) (ar fi : Nat → Nat → Int32) : Nat → Nat → Int32 := bif Nat.beq a 23 then (bif decide (fi 23 7 < 240) then (bif !decide (x = 2) then (zup fi 23 (zup (fi 23) 7 ((fi 23 7) + 1))) else (zup (zup fi 23 (zup (fi 23) 8 ((fi 23 8) ||| (1 <<< (y &&& 31))))) 23 (zup ((zup fi 23 (zup (fi 23) 8 ((fi 23 8) ||| (1 <<< (y &&& 31))))) 23) 7 ((fi 23 7) + 1)))) else fi) else (bif decide (fi 31 7 < 240) then (bif !decide (x = 2) then (zup fi 31 (zup (fi 31) 7 ((fi 31 7) + 1))) else (zup (zup fi 31 (zup (fi 31) 8 ((fi 31 8) ||| (1 <<< (y &&& 31))))) 31 (zup ((zup fi 31 (zup (fi 31) 8 ((fi 31 8) ||| (1 <<< (y &&& 31))))) 31) 7 ((fi 31 7) + 1)))) else fi)
def g_lw_emit (a : Nat) (x : Int32) (y : Int32) (ar fi : Nat → Nat → Int32) : Bool := bif Nat.beq a 23 then bif decide (fi 23 7 < 240) then (zin (fi 23 7) 240) && (zin (fi 23 7) 240) else true else bif decide (fi 31 7 < 240) then (zin (fi 31 7) 240) && (zin (fi 31 7) 240) else true
set_option maxRecDepth 10000 in
theorem t_lw_emit_23 {X : Nat × (Nat → Int32)} {ar fi : Nat → Nat → Int32} {m : zM5} {x y : Int32} : zseg X zFT zE0 zc_40 (fun _ => false) 400 0 [.ref 23, .int x, .int y] [] (ar, fi, m) = (
  bif decide (fi 23 7 < 240) then
   zg (zin (fi 23 7) 240) (
   zg (zin (fi 23 7) 240) (
   bif !decide (x = 2) then
    some (.inr (some (.int (((fi 23 7) + 1) - 1)), ((zup (zup ar 24 (zup (ar 24) ((fi 23 7).toNatClampNeg) x)) 25 (zup (ar 25) ((fi 23 7).toNatClampNeg) y)), (zup fi 23 (zup (fi 23) 7 ((fi 23 7) + 1))), m)))
   else
    some (.inr (some (.int (((fi 23 7) + 1) - 1)), ((zup (zup ar 24 (zup (ar 24) ((fi 23 7).toNatClampNeg) x)) 25 (zup (ar 25) ((fi 23 7).toNatClampNeg) y)), (zup (zup fi 23 (zup (fi 23) 8 ((fi 23 8) ||| (1 <<< (y &&& 31))))) 23 (zup ((zup fi 23 (zup (fi 23) 8 ((fi 23 8) ||| (1 <<< (y &&& 31))))) 23) 7 ((fi 23 7) + 1))), m)))))
  else
   some (.inr (some (.int (-1)), (ar, fi, m))) : Option ((Nat × List Value × List Value × zH2) ⊕ zO2)) := rfl
theorem e_lw_emit_23 {X : Nat × (Nat → Int32)} {ar fi : Nat → Nat → Int32} {m : zM5} {x y : Int32} (hG : g_lw_emit 23 x y ar fi = true) : zseg X zFT zE0 zc_40 (fun _ => false) 400 0 [.ref 23, .int x, .int y] [] (ar, fi, m) = some (.inr (some (.int (w_lw_emit 23 x y ar fi)), (a_lw_emit 23 x y ar fi, f_lw_emit 23 x y ar fi, m))) := by
  rw [t_lw_emit_23]
  have hG : (bif decide (fi 23 7 < 240) then (zin (fi 23 7) 240) && (zin (fi 23 7) 240) else true) = true := hG
  show _ = (some (.inr (some (.int (bif decide (fi 23 7 < 240) then ((fi 23 7) + 1) - 1 else (-1))), ((bif decide (fi 23 7 < 240) then (zup (zup ar 24 (zup (ar 24) ((fi 23 7).toNatClampNeg) x)) 25 (zup (ar 25) ((fi 23 7).toNatClampNeg) y)) else ar), (bif decide (fi 23 7 < 240) then (bif !decide (x = 2) then (zup fi 23 (zup (fi 23) 7 ((fi 23 7) + 1))) else (zup (zup fi 23 (zup (fi 23) 8 ((fi 23 8) ||| (1 <<< (y &&& 31))))) 23 (zup ((zup fi 23 (zup (fi 23) 8 ((fi 23 8) ||| (1 <<< (y &&& 31))))) 23) 7 ((fi 23 7) + 1)))) else fi), m))) : Option ((Nat × List Value × List Value × zH2) ⊕ zO2))
  cases hc162 : (decide (fi 23 7 < 240)) with
  | true =>
    try simp only [hc162, cond_true, cond_false] at hG ⊢
    cases hc163 : (!decide (x = 2)) with
    | true =>
      try simp only [hc163, cond_true, cond_false] at hG ⊢
      all_goals first | rfl | (simp only [zg, hG, cond_true]; done) | (simp only [Bool.and_eq_true, Bool.true_and, Bool.and_true] at hG; simp only [zg, hG, cond_true]; done)
    | false =>
      try simp only [hc163, cond_true, cond_false] at hG ⊢
      all_goals first | rfl | (simp only [zg, hG, cond_true]; done) | (simp only [Bool.and_eq_true, Bool.true_and, Bool.and_true] at hG; simp only [zg, hG, cond_true]; done)
  | false =>
    try simp only [hc162, cond_true, cond_false] at hG ⊢
    all_goals first | rfl | (simp only [zg, hG, cond_true]; done) | (simp only [Bool.and_eq_true, Bool.true_and, Bool.and_true] at hG; simp only [zg, hG, cond_true]; done)
set_option maxRecDepth 10000 in
theorem t_lw_emit_31 {X : Nat × (Nat → Int32)} {ar fi : Nat → Nat → Int32} {m : zM5} {x y : Int32} : zseg X zFT zE0 zc_40 (fun _ => false) 400 0 [.ref 31, .int x, .int y] [] (ar, fi, m) = (
  bif decide (fi 31 7 < 240) then
   zg (zin (fi 31 7) 240) (
   zg (zin (fi 31 7) 240) (
   bif !decide (x = 2) then
    some (.inr (some (.int (((fi 31 7) + 1) - 1)), ((zup (zup ar 32 (zup (ar 32) ((fi 31 7).toNatClampNeg) x)) 33 (zup (ar 33) ((fi 31 7).toNatClampNeg) y)), (zup fi 31 (zup (fi 31) 7 ((fi 31 7) + 1))), m)))
   else
    some (.inr (some (.int (((fi 31 7) + 1) - 1)), ((zup (zup ar 32 (zup (ar 32) ((fi 31 7).toNatClampNeg) x)) 33 (zup (ar 33) ((fi 31 7).toNatClampNeg) y)), (zup (zup fi 31 (zup (fi 31) 8 ((fi 31 8) ||| (1 <<< (y &&& 31))))) 31 (zup ((zup fi 31 (zup (fi 31) 8 ((fi 31 8) ||| (1 <<< (y &&& 31))))) 31) 7 ((fi 31 7) + 1))), m)))))
  else
   some (.inr (some (.int (-1)), (ar, fi, m))) : Option ((Nat × List Value × List Value × zH2) ⊕ zO2)) := rfl
theorem e_lw_emit_31 {X : Nat × (Nat → Int32)} {ar fi : Nat → Nat → Int32} {m : zM5} {x y : Int32} (hG : g_lw_emit 31 x y ar fi = true) : zseg X zFT zE0 zc_40 (fun _ => false) 400 0 [.ref 31, .int x, .int y] [] (ar, fi, m) = some (.inr (some (.int (w_lw_emit 31 x y ar fi)), (a_lw_emit 31 x y ar fi, f_lw_emit 31 x y ar fi, m))) := by
  rw [t_lw_emit_31]
  have hG : (bif decide (fi 31 7 < 240) then (zin (fi 31 7) 240) && (zin (fi 31 7) 240) else true) = true := hG
  show _ = (some (.inr (some (.int (bif decide (fi 31 7 < 240) then ((fi 31 7) + 1) - 1 else (-1))), ((bif decide (fi 31 7 < 240) then (zup (zup ar 32 (zup (ar 32) ((fi 31 7).toNatClampNeg) x)) 33 (zup (ar 33) ((fi 31 7).toNatClampNeg) y)) else ar), (bif decide (fi 31 7 < 240) then (bif !decide (x = 2) then (zup fi 31 (zup (fi 31) 7 ((fi 31 7) + 1))) else (zup (zup fi 31 (zup (fi 31) 8 ((fi 31 8) ||| (1 <<< (y &&& 31))))) 31 (zup ((zup fi 31 (zup (fi 31) 8 ((fi 31 8) ||| (1 <<< (y &&& 31))))) 31) 7 ((fi 31 7) + 1)))) else fi), m))) : Option ((Nat × List Value × List Value × zH2) ⊕ zO2))
  cases hc164 : (decide (fi 31 7 < 240)) with
  | true =>
    try simp only [hc164, cond_true, cond_false] at hG ⊢
    cases hc165 : (!decide (x = 2)) with
    | true =>
      try simp only [hc165, cond_true, cond_false] at hG ⊢
      all_goals first | rfl | (simp only [zg, hG, cond_true]; done) | (simp only [Bool.and_eq_true, Bool.true_and, Bool.and_true] at hG; simp only [zg, hG, cond_true]; done)
    | false =>
      try simp only [hc165, cond_true, cond_false] at hG ⊢
      all_goals first | rfl | (simp only [zg, hG, cond_true]; done) | (simp only [Bool.and_eq_true, Bool.true_and, Bool.and_true] at hG; simp only [zg, hG, cond_true]; done)
  | false =>
    try simp only [hc164, cond_true, cond_false] at hG ⊢
    all_goals first | rfl | (simp only [zg, hG, cond_true]; done) | (simp only [Bool.and_eq_true, Bool.true_and, Bool.and_true] at hG; simp only [zg, hG, cond_true]; done)
def S_lw_emit : zSp := fun as g => match as with
  | [.ref a, .int x, .int y] => bif ((Nat.beq a 23) || (Nat.beq a 31)) then some (g_lw_emit a x y g.1 g.2.1, (some (.int (w_lw_emit a x y g.1 g.2.1)), (a_lw_emit a x y g.1 g.2.1, f_lw_emit a x y g.1 g.2.1, g.2.2))) else none
  | _ => none
theorem k_lw_emit {X : Nat × (Nat → Int32)} : ∀ args g o, S_lw_emit args g = some (true, o) → zR2 X zFT zE0 (zC 40) 0 args [] g o := by
  intro args g o h
  obtain ⟨ar, fi, m1, m2, m3, m4, m5⟩ := g
  unfold S_lw_emit at h
  split at h
  · refine zb_el h (fun hI h1 => ?_) (fun _ h1 => by cases h1)
    have h2 := Option.some.inj h1
    have hG := congrArg Prod.fst h2
    have ho := congrArg Prod.snd h2
    clear h h1 h2
    dsimp only at hG ho
    subst ho
    try simp only [Bool.or_eq_true, Bool.and_eq_true] at hI
    rcases hI with hI0 | hI0
    · obtain rfl := Nat.eq_of_beq_eq_true hI0
      exact zseg_ret (e_lw_emit_23 hG)
    · obtain rfl := Nat.eq_of_beq_eq_true hI0
      exact zseg_ret (e_lw_emit_31 hG)
  · cases h
def w_lw_asksFor (a : Nat) (x : Int32) (ar fi : Nat → Nat → Int32) : Int32 := bif Nat.beq a 23 then (bif decide (((Int32.toUInt32 (fi 23 8) >>> (Int32.toUInt32 x &&& Int32.toUInt32 31)).toInt32) &&& 1 = 0) then 0 else 1) else (bif decide (((Int32.toUInt32 (fi 31 8) >>> (Int32.toUInt32 x &&& Int32.toUInt32 31)).toInt32) &&& 1 = 0) then 0 else 1)
set_option maxRecDepth 10000 in
theorem t_lw_asksFor_23 {X : Nat × (Nat → Int32)} {ar fi : Nat → Nat → Int32} {m : zM5} {x : Int32} : zseg X zFT zE0 zc_42 (fun _ => false) 400 0 [.ref 23, .int x] [] (ar, fi, m) = (
  bif decide (((Int32.toUInt32 (fi 23 8) >>> (Int32.toUInt32 x &&& Int32.toUInt32 31)).toInt32) &&& 1 = 0) then
   some (.inr (some (.int 0), (ar, fi, m)))
  else
   some (.inr (some (.int 1), (ar, fi, m))) : Option ((Nat × List Value × List Value × zH2) ⊕ zO2)) := rfl
theorem e_lw_asksFor_23 {X : Nat × (Nat → Int32)} {ar fi : Nat → Nat → Int32} {m : zM5} {x : Int32} : zseg X zFT zE0 zc_42 (fun _ => false) 400 0 [.ref 23, .int x] [] (ar, fi, m) = some (.inr (some (.int (w_lw_asksFor 23 x ar fi)), (ar, fi, m))) := by
  rw [t_lw_asksFor_23]
  show _ = (some (.inr (some (.int (bif decide (((Int32.toUInt32 (fi 23 8) >>> (Int32.toUInt32 x &&& Int32.toUInt32 31)).toInt32) &&& 1 = 0) then 0 else 1)), (ar, fi, m))) : Option ((Nat × List Value × List Value × zH2) ⊕ zO2))
  cases hc166 : (decide (((Int32.toUInt32 (fi 23 8) >>> (Int32.toUInt32 x &&& Int32.toUInt32 31)).toInt32) &&& 1 = 0)) with
  | true =>
    try simp only [hc166, cond_true, cond_false]
    all_goals rfl
  | false =>
    try simp only [hc166, cond_true, cond_false]
    all_goals rfl
set_option maxRecDepth 10000 in
theorem t_lw_asksFor_31 {X : Nat × (Nat → Int32)} {ar fi : Nat → Nat → Int32} {m : zM5} {x : Int32} : zseg X zFT zE0 zc_42 (fun _ => false) 400 0 [.ref 31, .int x] [] (ar, fi, m) = (
  bif decide (((Int32.toUInt32 (fi 31 8) >>> (Int32.toUInt32 x &&& Int32.toUInt32 31)).toInt32) &&& 1 = 0) then
   some (.inr (some (.int 0), (ar, fi, m)))
  else
   some (.inr (some (.int 1), (ar, fi, m))) : Option ((Nat × List Value × List Value × zH2) ⊕ zO2)) := rfl
theorem e_lw_asksFor_31 {X : Nat × (Nat → Int32)} {ar fi : Nat → Nat → Int32} {m : zM5} {x : Int32} : zseg X zFT zE0 zc_42 (fun _ => false) 400 0 [.ref 31, .int x] [] (ar, fi, m) = some (.inr (some (.int (w_lw_asksFor 31 x ar fi)), (ar, fi, m))) := by
  rw [t_lw_asksFor_31]
  show _ = (some (.inr (some (.int (bif decide (((Int32.toUInt32 (fi 31 8) >>> (Int32.toUInt32 x &&& Int32.toUInt32 31)).toInt32) &&& 1 = 0) then 0 else 1)), (ar, fi, m))) : Option ((Nat × List Value × List Value × zH2) ⊕ zO2))
  cases hc167 : (decide (((Int32.toUInt32 (fi 31 8) >>> (Int32.toUInt32 x &&& Int32.toUInt32 31)).toInt32) &&& 1 = 0)) with
  | true =>
    try simp only [hc167, cond_true, cond_false]
    all_goals rfl
  | false =>
    try simp only [hc167, cond_true, cond_false]
    all_goals rfl
def S_lw_asksFor : zSp := fun as g => match as with
  | [.ref a, .int x] => bif ((Nat.beq a 23) || (Nat.beq a 31)) then some (true, (some (.int (w_lw_asksFor a x g.1 g.2.1)), (g.1, g.2.1, g.2.2))) else none
  | _ => none
theorem k_lw_asksFor {X : Nat × (Nat → Int32)} : ∀ args g o, S_lw_asksFor args g = some (true, o) → zR2 X zFT zE0 (zC 42) 0 args [] g o := by
  intro args g o h
  obtain ⟨ar, fi, m1, m2, m3, m4, m5⟩ := g
  unfold S_lw_asksFor at h
  split at h
  · refine zb_el h (fun hI h1 => ?_) (fun _ h1 => by cases h1)
    have h2 := Option.some.inj h1
    have hG := congrArg Prod.fst h2
    have ho := congrArg Prod.snd h2
    clear h h1 h2
    dsimp only at hG ho
    subst ho
    try simp only [Bool.or_eq_true, Bool.and_eq_true] at hI
    rcases hI with hI0 | hI0
    · obtain rfl := Nat.eq_of_beq_eq_true hI0
      exact zseg_ret (e_lw_asksFor_23)
    · obtain rfl := Nat.eq_of_beq_eq_true hI0
      exact zseg_ret (e_lw_asksFor_31)
  · cases h
def w_lw_reckon (x : Int32) (y : Int32) (z : Int32) (ar fi : Nat → Nat → Int32) : Int32 := (bif decide (x = 37) then (bif !decide (z = 0) then y - y / z * z else 0) else (bif decide (x = 42) then y * z else (bif decide (x = 43) then y + z else (bif decide (x = 45) then y - z else (bif decide (x = 47) then (bif !decide (z = 0) then y / z else 0) else (bif decide (x = 60) then (bif decide (z ≤ y) then 0 else 1) else (bif decide (x = 62) then (bif decide (y ≤ z) then 0 else 1) else (bif !decide (y = z) then 0 else 1))))))))
def g_lw_reckon (x : Int32) (y : Int32) (z : Int32) (ar fi : Nat → Nat → Int32) : Bool := bif decide (x = 37) then bif !decide (z = 0) then !decide (z = 0) else true else bif decide (x = 42) then true else bif decide (x = 43) then true else bif decide (x = 45) then true else bif decide (x = 47) then bif !decide (z = 0) then !decide (z = 0) else true else true
set_option maxRecDepth 10000 in
theorem t_lw_reckon {X : Nat × (Nat → Int32)} {ar fi : Nat → Nat → Int32} {m : zM5} {x y z : Int32} : zseg X zFT zE0 zc_47 (fun _ => false) 400 0 [.int x, .int y, .int z] [] (ar, fi, m) = (
  bif decide (x = 37) then
   bif !decide (z = 0) then
    zg (!decide (z = 0)) (
    some (.inr (some (.int (y - y / z * z)), (ar, fi, m))))
   else
    some (.inr (some (.int 0), (ar, fi, m)))
  else
   bif decide (x = 42) then
    some (.inr (some (.int (y * z)), (ar, fi, m)))
   else
    bif decide (x = 43) then
     some (.inr (some (.int (y + z)), (ar, fi, m)))
    else
     bif decide (x = 45) then
      some (.inr (some (.int (y - z)), (ar, fi, m)))
     else
      bif decide (x = 47) then
       bif !decide (z = 0) then
        zg (!decide (z = 0)) (
        some (.inr (some (.int (y / z)), (ar, fi, m))))
       else
        some (.inr (some (.int 0), (ar, fi, m)))
      else
       bif decide (x = 60) then
        bif decide (z ≤ y) then
         some (.inr (some (.int 0), (ar, fi, m)))
        else
         some (.inr (some (.int 1), (ar, fi, m)))
       else
        bif decide (x = 62) then
         bif decide (y ≤ z) then
          some (.inr (some (.int 0), (ar, fi, m)))
         else
          some (.inr (some (.int 1), (ar, fi, m)))
        else
         bif !decide (y = z) then
          some (.inr (some (.int 0), (ar, fi, m)))
         else
          some (.inr (some (.int 1), (ar, fi, m))) : Option ((Nat × List Value × List Value × zH2) ⊕ zO2)) := rfl
theorem e_lw_reckon {X : Nat × (Nat → Int32)} {ar fi : Nat → Nat → Int32} {m : zM5} {x y z : Int32} (hG : g_lw_reckon x y z ar fi = true) : zseg X zFT zE0 zc_47 (fun _ => false) 400 0 [.int x, .int y, .int z] [] (ar, fi, m) = some (.inr (some (.int (w_lw_reckon x y z ar fi)), (ar, fi, m))) := by
  rw [t_lw_reckon]
  have hG : (bif decide (x = 37) then bif !decide (z = 0) then !decide (z = 0) else true else bif decide (x = 42) then true else bif decide (x = 43) then true else bif decide (x = 45) then true else bif decide (x = 47) then bif !decide (z = 0) then !decide (z = 0) else true else true) = true := hG
  show _ = (some (.inr (some (.int (bif decide (x = 37) then (bif !decide (z = 0) then y - y / z * z else 0) else (bif decide (x = 42) then y * z else (bif decide (x = 43) then y + z else (bif decide (x = 45) then y - z else (bif decide (x = 47) then (bif !decide (z = 0) then y / z else 0) else (bif decide (x = 60) then (bif decide (z ≤ y) then 0 else 1) else (bif decide (x = 62) then (bif decide (y ≤ z) then 0 else 1) else (bif !decide (y = z) then 0 else 1))))))))), (ar, fi, m))) : Option ((Nat × List Value × List Value × zH2) ⊕ zO2))
  cases hc168 : (decide (x = 37)) with
  | true =>
    try simp only [hc168, cond_true, cond_false] at hG ⊢
    cases hc169 : (!decide (z = 0)) with
    | true =>
      try simp only [hc169, cond_true, cond_false] at hG ⊢
      all_goals first | rfl | (simp only [zg, hG, cond_true]; done) | (simp only [Bool.and_eq_true, Bool.true_and, Bool.and_true] at hG; simp only [zg, hG, cond_true]; done)
    | false =>
      try simp only [hc169, cond_true, cond_false] at hG ⊢
      all_goals first | rfl | (simp only [zg, hG, cond_true]; done) | (simp only [Bool.and_eq_true, Bool.true_and, Bool.and_true] at hG; simp only [zg, hG, cond_true]; done)
  | false =>
    try simp only [hc168, cond_true, cond_false] at hG ⊢
    cases hc170 : (decide (x = 42)) with
    | true =>
      try simp only [hc170, cond_true, cond_false] at hG ⊢
      all_goals first | rfl | (simp only [zg, hG, cond_true]; done) | (simp only [Bool.and_eq_true, Bool.true_and, Bool.and_true] at hG; simp only [zg, hG, cond_true]; done)
    | false =>
      try simp only [hc170, cond_true, cond_false] at hG ⊢
      cases hc171 : (decide (x = 43)) with
      | true =>
        try simp only [hc171, cond_true, cond_false] at hG ⊢
        all_goals first | rfl | (simp only [zg, hG, cond_true]; done) | (simp only [Bool.and_eq_true, Bool.true_and, Bool.and_true] at hG; simp only [zg, hG, cond_true]; done)
      | false =>
        try simp only [hc171, cond_true, cond_false] at hG ⊢
        cases hc172 : (decide (x = 45)) with
        | true =>
          try simp only [hc172, cond_true, cond_false] at hG ⊢
          all_goals first | rfl | (simp only [zg, hG, cond_true]; done) | (simp only [Bool.and_eq_true, Bool.true_and, Bool.and_true] at hG; simp only [zg, hG, cond_true]; done)
        | false =>
          try simp only [hc172, cond_true, cond_false] at hG ⊢
          cases hc173 : (decide (x = 47)) with
          | true =>
            try simp only [hc173, cond_true, cond_false] at hG ⊢
            cases hc174 : (!decide (z = 0)) with
            | true =>
              try simp only [hc174, cond_true, cond_false] at hG ⊢
              all_goals first | rfl | (simp only [zg, hG, cond_true]; done) | (simp only [Bool.and_eq_true, Bool.true_and, Bool.and_true] at hG; simp only [zg, hG, cond_true]; done)
            | false =>
              try simp only [hc174, cond_true, cond_false] at hG ⊢
              all_goals first | rfl | (simp only [zg, hG, cond_true]; done) | (simp only [Bool.and_eq_true, Bool.true_and, Bool.and_true] at hG; simp only [zg, hG, cond_true]; done)
          | false =>
            try simp only [hc173, cond_true, cond_false] at hG ⊢
            cases hc175 : (decide (x = 60)) with
            | true =>
              try simp only [hc175, cond_true, cond_false] at hG ⊢
              cases hc176 : (decide (z ≤ y)) with
              | true =>
                try simp only [hc176, cond_true, cond_false] at hG ⊢
                all_goals first | rfl | (simp only [zg, hG, cond_true]; done) | (simp only [Bool.and_eq_true, Bool.true_and, Bool.and_true] at hG; simp only [zg, hG, cond_true]; done)
              | false =>
                try simp only [hc176, cond_true, cond_false] at hG ⊢
                all_goals first | rfl | (simp only [zg, hG, cond_true]; done) | (simp only [Bool.and_eq_true, Bool.true_and, Bool.and_true] at hG; simp only [zg, hG, cond_true]; done)
            | false =>
              try simp only [hc175, cond_true, cond_false] at hG ⊢
              cases hc177 : (decide (x = 62)) with
              | true =>
                try simp only [hc177, cond_true, cond_false] at hG ⊢
                cases hc178 : (decide (y ≤ z)) with
                | true =>
                  try simp only [hc178, cond_true, cond_false] at hG ⊢
                  all_goals first | rfl | (simp only [zg, hG, cond_true]; done) | (simp only [Bool.and_eq_true, Bool.true_and, Bool.and_true] at hG; simp only [zg, hG, cond_true]; done)
                | false =>
                  try simp only [hc178, cond_true, cond_false] at hG ⊢
                  all_goals first | rfl | (simp only [zg, hG, cond_true]; done) | (simp only [Bool.and_eq_true, Bool.true_and, Bool.and_true] at hG; simp only [zg, hG, cond_true]; done)
              | false =>
                try simp only [hc177, cond_true, cond_false] at hG ⊢
                cases hc179 : (!decide (y = z)) with
                | true =>
                  try simp only [hc179, cond_true, cond_false] at hG ⊢
                  all_goals first | rfl | (simp only [zg, hG, cond_true]; done) | (simp only [Bool.and_eq_true, Bool.true_and, Bool.and_true] at hG; simp only [zg, hG, cond_true]; done)
                | false =>
                  try simp only [hc179, cond_true, cond_false] at hG ⊢
                  all_goals first | rfl | (simp only [zg, hG, cond_true]; done) | (simp only [Bool.and_eq_true, Bool.true_and, Bool.and_true] at hG; simp only [zg, hG, cond_true]; done)
def S_lw_reckon : zSp := fun as g => match as with
  | [.int x, .int y, .int z] => some (g_lw_reckon x y z g.1 g.2.1, (some (.int (w_lw_reckon x y z g.1 g.2.1)), (g.1, g.2.1, g.2.2)))
  | _ => none
theorem k_lw_reckon {X : Nat × (Nat → Int32)} : ∀ args g o, S_lw_reckon args g = some (true, o) → zR2 X zFT zE0 (zC 47) 0 args [] g o := by
  intro args g o h
  obtain ⟨ar, fi, m1, m2, m3, m4, m5⟩ := g
  unfold S_lw_reckon at h
  split at h
  · have h1 := h
    have h2 := Option.some.inj h1
    have hG := congrArg Prod.fst h2
    have ho := congrArg Prod.snd h2
    clear h h1 h2
    dsimp only at hG ho
    subst ho
    exact zseg_ret (e_lw_reckon hG)
  · cases h
def a_sc_setState (a : Nat) (x : Int32) (y : Int32) (z : Int32) (ar fi : Nat → Nat → Int32) : Nat → Nat → Int32 := bif Nat.beq a 2 then (zup (zup ar 4 (zup (ar 4) (x.toNatClampNeg) y)) 5 (zup (ar 5) (x.toNatClampNeg) z)) else bif Nat.beq a 9 then (zup (zup ar 11 (zup (ar 11) (x.toNatClampNeg) y)) 12 (zup (ar 12) (x.toNatClampNeg) z)) else (zup (zup ar 18 (zup (ar 18) (x.toNatClampNeg) y)) 19 (zup (ar 19) (x.toNatClampNeg) z))
def g_sc_setState (a : Nat) (x : Int32) (y : Int32) (z : Int32) (ar fi : Nat → Nat → Int32) : Bool := bif Nat.beq a 2 then (zin x 96) && (zin x 96) else bif Nat.beq a 9 then (zin x 96) && (zin x 96) else (zin x 96) && (zin x 96)
set_option maxRecDepth 10000 in
theorem t_sc_setState_2 {X : Nat × (Nat → Int32)} {ar fi : Nat → Nat → Int32} {m : zM5} {x y z : Int32} : zseg X zFT zE0 zc_71 (fun _ => false) 400 0 [.ref 2, .int x, .int y, .int z] [] (ar, fi, m) = (
  zg (zin x 96) (
  zg (zin x 96) (
  some (.inr (none, ((zup (zup ar 4 (zup (ar 4) (x.toNatClampNeg) y)) 5 (zup (ar 5) (x.toNatClampNeg) z)), fi, m))))) : Option ((Nat × List Value × List Value × zH2) ⊕ zO2)) := rfl
theorem e_sc_setState_2 {X : Nat × (Nat → Int32)} {ar fi : Nat → Nat → Int32} {m : zM5} {x y z : Int32} (hG : g_sc_setState 2 x y z ar fi = true) : zseg X zFT zE0 zc_71 (fun _ => false) 400 0 [.ref 2, .int x, .int y, .int z] [] (ar, fi, m) = some (.inr (none, (a_sc_setState 2 x y z ar fi, fi, m))) := by
  rw [t_sc_setState_2]
  have hG : ((zin x 96) && (zin x 96)) = true := hG
  show _ = (some (.inr (none, ((zup (zup ar 4 (zup (ar 4) (x.toNatClampNeg) y)) 5 (zup (ar 5) (x.toNatClampNeg) z)), fi, m))) : Option ((Nat × List Value × List Value × zH2) ⊕ zO2))
  all_goals first | rfl | (simp only [zg, hG, cond_true]; done) | (simp only [Bool.and_eq_true, Bool.true_and, Bool.and_true] at hG; simp only [zg, hG, cond_true]; done)
set_option maxRecDepth 10000 in
theorem t_sc_setState_9 {X : Nat × (Nat → Int32)} {ar fi : Nat → Nat → Int32} {m : zM5} {x y z : Int32} : zseg X zFT zE0 zc_71 (fun _ => false) 400 0 [.ref 9, .int x, .int y, .int z] [] (ar, fi, m) = (
  zg (zin x 96) (
  zg (zin x 96) (
  some (.inr (none, ((zup (zup ar 11 (zup (ar 11) (x.toNatClampNeg) y)) 12 (zup (ar 12) (x.toNatClampNeg) z)), fi, m))))) : Option ((Nat × List Value × List Value × zH2) ⊕ zO2)) := rfl
theorem e_sc_setState_9 {X : Nat × (Nat → Int32)} {ar fi : Nat → Nat → Int32} {m : zM5} {x y z : Int32} (hG : g_sc_setState 9 x y z ar fi = true) : zseg X zFT zE0 zc_71 (fun _ => false) 400 0 [.ref 9, .int x, .int y, .int z] [] (ar, fi, m) = some (.inr (none, (a_sc_setState 9 x y z ar fi, fi, m))) := by
  rw [t_sc_setState_9]
  have hG : ((zin x 96) && (zin x 96)) = true := hG
  show _ = (some (.inr (none, ((zup (zup ar 11 (zup (ar 11) (x.toNatClampNeg) y)) 12 (zup (ar 12) (x.toNatClampNeg) z)), fi, m))) : Option ((Nat × List Value × List Value × zH2) ⊕ zO2))
  all_goals first | rfl | (simp only [zg, hG, cond_true]; done) | (simp only [Bool.and_eq_true, Bool.true_and, Bool.and_true] at hG; simp only [zg, hG, cond_true]; done)
set_option maxRecDepth 10000 in
theorem t_sc_setState_16 {X : Nat × (Nat → Int32)} {ar fi : Nat → Nat → Int32} {m : zM5} {x y z : Int32} : zseg X zFT zE0 zc_71 (fun _ => false) 400 0 [.ref 16, .int x, .int y, .int z] [] (ar, fi, m) = (
  zg (zin x 96) (
  zg (zin x 96) (
  some (.inr (none, ((zup (zup ar 18 (zup (ar 18) (x.toNatClampNeg) y)) 19 (zup (ar 19) (x.toNatClampNeg) z)), fi, m))))) : Option ((Nat × List Value × List Value × zH2) ⊕ zO2)) := rfl
theorem e_sc_setState_16 {X : Nat × (Nat → Int32)} {ar fi : Nat → Nat → Int32} {m : zM5} {x y z : Int32} (hG : g_sc_setState 16 x y z ar fi = true) : zseg X zFT zE0 zc_71 (fun _ => false) 400 0 [.ref 16, .int x, .int y, .int z] [] (ar, fi, m) = some (.inr (none, (a_sc_setState 16 x y z ar fi, fi, m))) := by
  rw [t_sc_setState_16]
  have hG : ((zin x 96) && (zin x 96)) = true := hG
  show _ = (some (.inr (none, ((zup (zup ar 18 (zup (ar 18) (x.toNatClampNeg) y)) 19 (zup (ar 19) (x.toNatClampNeg) z)), fi, m))) : Option ((Nat × List Value × List Value × zH2) ⊕ zO2))
  all_goals first | rfl | (simp only [zg, hG, cond_true]; done) | (simp only [Bool.and_eq_true, Bool.true_and, Bool.and_true] at hG; simp only [zg, hG, cond_true]; done)
def S_sc_setState : zSp := fun as g => match as with
  | [.ref a, .int x, .int y, .int z] => bif ((Nat.beq a 2) || (Nat.beq a 9) || (Nat.beq a 16)) then some (g_sc_setState a x y z g.1 g.2.1, (none, (a_sc_setState a x y z g.1 g.2.1, g.2.1, g.2.2))) else none
  | _ => none
theorem k_sc_setState {X : Nat × (Nat → Int32)} : ∀ args g o, S_sc_setState args g = some (true, o) → zR2 X zFT zE0 (zC 71) 0 args [] g o := by
  intro args g o h
  obtain ⟨ar, fi, m1, m2, m3, m4, m5⟩ := g
  unfold S_sc_setState at h
  split at h
  · refine zb_el h (fun hI h1 => ?_) (fun _ h1 => by cases h1)
    have h2 := Option.some.inj h1
    have hG := congrArg Prod.fst h2
    have ho := congrArg Prod.snd h2
    clear h h1 h2
    dsimp only at hG ho
    subst ho
    try simp only [Bool.or_eq_true, Bool.and_eq_true] at hI
    rcases hI with (hI0 | hI0) | hI0
    · obtain rfl := Nat.eq_of_beq_eq_true hI0
      exact zseg_ret (e_sc_setState_2 hG)
    · obtain rfl := Nat.eq_of_beq_eq_true hI0
      exact zseg_ret (e_sc_setState_9 hG)
    · obtain rfl := Nat.eq_of_beq_eq_true hI0
      exact zseg_ret (e_sc_setState_16 hG)
  · cases h
def w_sc_draw (a : Nat) (ar fi : Nat → Nat → Int32) : Int32 := bif Nat.beq a 2 then (((25173 * (fi 2 10)) + 13849) &&& 65535) - (((25173 * (fi 2 10)) + 13849) &&& 65535) / 10 * 10 else bif Nat.beq a 9 then (((25173 * (fi 9 10)) + 13849) &&& 65535) - (((25173 * (fi 9 10)) + 13849) &&& 65535) / 10 * 10 else (((25173 * (fi 16 10)) + 13849) &&& 65535) - (((25173 * (fi 16 10)) + 13849) &&& 65535) / 10 * 10
def f_sc_draw (a : Nat) (ar fi : Nat → Nat → Int32) : Nat → Nat → Int32 := bif Nat.beq a 2 then (zup fi 2 (zup (fi 2) 10 (((25173 * (fi 2 10)) + 13849) &&& 65535))) else bif Nat.beq a 9 then (zup fi 9 (zup (fi 9) 10 (((25173 * (fi 9 10)) + 13849) &&& 65535))) else (zup fi 16 (zup (fi 16) 10 (((25173 * (fi 16 10)) + 13849) &&& 65535)))
set_option maxRecDepth 10000 in
theorem t_sc_draw_2 {X : Nat × (Nat → Int32)} {ar fi : Nat → Nat → Int32} {m : zM5} : zseg X zFT zE0 zc_72 (fun _ => false) 400 0 [.ref 2] [] (ar, fi, m) = (
  some (.inr (some (.int ((((25173 * (fi 2 10)) + 13849) &&& 65535) - (((25173 * (fi 2 10)) + 13849) &&& 65535) / 10 * 10)), (ar, (zup fi 2 (zup (fi 2) 10 (((25173 * (fi 2 10)) + 13849) &&& 65535))), m))) : Option ((Nat × List Value × List Value × zH2) ⊕ zO2)) := rfl
theorem e_sc_draw_2 {X : Nat × (Nat → Int32)} {ar fi : Nat → Nat → Int32} {m : zM5} : zseg X zFT zE0 zc_72 (fun _ => false) 400 0 [.ref 2] [] (ar, fi, m) = some (.inr (some (.int (w_sc_draw 2 ar fi)), (ar, f_sc_draw 2 ar fi, m))) := by
  rw [t_sc_draw_2]
  show _ = (some (.inr (some (.int ((((25173 * (fi 2 10)) + 13849) &&& 65535) - (((25173 * (fi 2 10)) + 13849) &&& 65535) / 10 * 10)), (ar, (zup fi 2 (zup (fi 2) 10 (((25173 * (fi 2 10)) + 13849) &&& 65535))), m))) : Option ((Nat × List Value × List Value × zH2) ⊕ zO2))
  all_goals rfl
set_option maxRecDepth 10000 in
theorem t_sc_draw_9 {X : Nat × (Nat → Int32)} {ar fi : Nat → Nat → Int32} {m : zM5} : zseg X zFT zE0 zc_72 (fun _ => false) 400 0 [.ref 9] [] (ar, fi, m) = (
  some (.inr (some (.int ((((25173 * (fi 9 10)) + 13849) &&& 65535) - (((25173 * (fi 9 10)) + 13849) &&& 65535) / 10 * 10)), (ar, (zup fi 9 (zup (fi 9) 10 (((25173 * (fi 9 10)) + 13849) &&& 65535))), m))) : Option ((Nat × List Value × List Value × zH2) ⊕ zO2)) := rfl
theorem e_sc_draw_9 {X : Nat × (Nat → Int32)} {ar fi : Nat → Nat → Int32} {m : zM5} : zseg X zFT zE0 zc_72 (fun _ => false) 400 0 [.ref 9] [] (ar, fi, m) = some (.inr (some (.int (w_sc_draw 9 ar fi)), (ar, f_sc_draw 9 ar fi, m))) := by
  rw [t_sc_draw_9]
  show _ = (some (.inr (some (.int ((((25173 * (fi 9 10)) + 13849) &&& 65535) - (((25173 * (fi 9 10)) + 13849) &&& 65535) / 10 * 10)), (ar, (zup fi 9 (zup (fi 9) 10 (((25173 * (fi 9 10)) + 13849) &&& 65535))), m))) : Option ((Nat × List Value × List Value × zH2) ⊕ zO2))
  all_goals rfl
set_option maxRecDepth 10000 in
theorem t_sc_draw_16 {X : Nat × (Nat → Int32)} {ar fi : Nat → Nat → Int32} {m : zM5} : zseg X zFT zE0 zc_72 (fun _ => false) 400 0 [.ref 16] [] (ar, fi, m) = (
  some (.inr (some (.int ((((25173 * (fi 16 10)) + 13849) &&& 65535) - (((25173 * (fi 16 10)) + 13849) &&& 65535) / 10 * 10)), (ar, (zup fi 16 (zup (fi 16) 10 (((25173 * (fi 16 10)) + 13849) &&& 65535))), m))) : Option ((Nat × List Value × List Value × zH2) ⊕ zO2)) := rfl
theorem e_sc_draw_16 {X : Nat × (Nat → Int32)} {ar fi : Nat → Nat → Int32} {m : zM5} : zseg X zFT zE0 zc_72 (fun _ => false) 400 0 [.ref 16] [] (ar, fi, m) = some (.inr (some (.int (w_sc_draw 16 ar fi)), (ar, f_sc_draw 16 ar fi, m))) := by
  rw [t_sc_draw_16]
  show _ = (some (.inr (some (.int ((((25173 * (fi 16 10)) + 13849) &&& 65535) - (((25173 * (fi 16 10)) + 13849) &&& 65535) / 10 * 10)), (ar, (zup fi 16 (zup (fi 16) 10 (((25173 * (fi 16 10)) + 13849) &&& 65535))), m))) : Option ((Nat × List Value × List Value × zH2) ⊕ zO2))
  all_goals rfl
def S_sc_draw : zSp := fun as g => match as with
  | [.ref a] => bif ((Nat.beq a 2) || (Nat.beq a 9) || (Nat.beq a 16)) then some (true, (some (.int (w_sc_draw a g.1 g.2.1)), (g.1, f_sc_draw a g.1 g.2.1, g.2.2))) else none
  | _ => none
theorem k_sc_draw {X : Nat × (Nat → Int32)} : ∀ args g o, S_sc_draw args g = some (true, o) → zR2 X zFT zE0 (zC 72) 0 args [] g o := by
  intro args g o h
  obtain ⟨ar, fi, m1, m2, m3, m4, m5⟩ := g
  unfold S_sc_draw at h
  split at h
  · refine zb_el h (fun hI h1 => ?_) (fun _ h1 => by cases h1)
    have h2 := Option.some.inj h1
    have hG := congrArg Prod.fst h2
    have ho := congrArg Prod.snd h2
    clear h h1 h2
    dsimp only at hG ho
    subst ho
    try simp only [Bool.or_eq_true, Bool.and_eq_true] at hI
    rcases hI with (hI0 | hI0) | hI0
    · obtain rfl := Nat.eq_of_beq_eq_true hI0
      exact zseg_ret (e_sc_draw_2)
    · obtain rfl := Nat.eq_of_beq_eq_true hI0
      exact zseg_ret (e_sc_draw_9)
    · obtain rfl := Nat.eq_of_beq_eq_true hI0
      exact zseg_ret (e_sc_draw_16)
  · cases h
def w_sc_isWholeWood (a : Nat) (x : Int32) (ar fi : Nat → Nat → Int32) : Int32 := bif Nat.beq a 2 then (bif !decide ((ar 3) (x.toNatClampNeg) = 1) then 0 else (bif !decide ((ar 4) (x.toNatClampNeg) = 0) then 0 else 1)) else bif Nat.beq a 9 then (bif !decide ((ar 10) (x.toNatClampNeg) = 1) then 0 else (bif !decide ((ar 11) (x.toNatClampNeg) = 0) then 0 else 1)) else (bif !decide ((ar 17) (x.toNatClampNeg) = 1) then 0 else (bif !decide ((ar 18) (x.toNatClampNeg) = 0) then 0 else 1))
def g_sc_isWholeWood (a : Nat) (x : Int32) (ar fi : Nat → Nat → Int32) : Bool := bif Nat.beq a 2 then (zin x 96) && (bif !decide ((ar 3) (x.toNatClampNeg) = 1) then true else zin x 96) else bif Nat.beq a 9 then (zin x 96) && (bif !decide ((ar 10) (x.toNatClampNeg) = 1) then true else zin x 96) else (zin x 96) && (bif !decide ((ar 17) (x.toNatClampNeg) = 1) then true else zin x 96)
set_option maxRecDepth 10000 in
theorem t_sc_isWholeWood_2 {X : Nat × (Nat → Int32)} {ar fi : Nat → Nat → Int32} {m : zM5} {x : Int32} : zseg X zFT zE0 zc_73 (fun _ => false) 400 0 [.ref 2, .int x] [] (ar, fi, m) = (
  zg (zin x 96) (
  bif !decide ((ar 3) (x.toNatClampNeg) = 1) then
   some (.inr (some (.int 0), (ar, fi, m)))
  else
   zg (zin x 96) (
   bif !decide ((ar 4) (x.toNatClampNeg) = 0) then
    some (.inr (some (.int 0), (ar, fi, m)))
   else
    some (.inr (some (.int 1), (ar, fi, m))))) : Option ((Nat × List Value × List Value × zH2) ⊕ zO2)) := rfl
theorem e_sc_isWholeWood_2 {X : Nat × (Nat → Int32)} {ar fi : Nat → Nat → Int32} {m : zM5} {x : Int32} (hG : g_sc_isWholeWood 2 x ar fi = true) : zseg X zFT zE0 zc_73 (fun _ => false) 400 0 [.ref 2, .int x] [] (ar, fi, m) = some (.inr (some (.int (w_sc_isWholeWood 2 x ar fi)), (ar, fi, m))) := by
  rw [t_sc_isWholeWood_2]
  have hG : ((zin x 96) && (bif !decide ((ar 3) (x.toNatClampNeg) = 1) then true else zin x 96)) = true := hG
  show _ = (some (.inr (some (.int (bif !decide ((ar 3) (x.toNatClampNeg) = 1) then 0 else (bif !decide ((ar 4) (x.toNatClampNeg) = 0) then 0 else 1))), (ar, fi, m))) : Option ((Nat × List Value × List Value × zH2) ⊕ zO2))
  cases hc180 : (!decide ((ar 3) (x.toNatClampNeg) = 1)) with
  | true =>
    try simp only [hc180, cond_true, cond_false] at hG ⊢
    all_goals first | rfl | (simp only [zg, hG, cond_true]; done) | (simp only [Bool.and_eq_true, Bool.true_and, Bool.and_true] at hG; simp only [zg, hG, cond_true]; done)
  | false =>
    try simp only [hc180, cond_true, cond_false] at hG ⊢
    cases hc181 : (!decide ((ar 4) (x.toNatClampNeg) = 0)) with
    | true =>
      try simp only [hc181, cond_true, cond_false] at hG ⊢
      all_goals first | rfl | (simp only [zg, hG, cond_true]; done) | (simp only [Bool.and_eq_true, Bool.true_and, Bool.and_true] at hG; simp only [zg, hG, cond_true]; done)
    | false =>
      try simp only [hc181, cond_true, cond_false] at hG ⊢
      all_goals first | rfl | (simp only [zg, hG, cond_true]; done) | (simp only [Bool.and_eq_true, Bool.true_and, Bool.and_true] at hG; simp only [zg, hG, cond_true]; done)
set_option maxRecDepth 10000 in
theorem t_sc_isWholeWood_9 {X : Nat × (Nat → Int32)} {ar fi : Nat → Nat → Int32} {m : zM5} {x : Int32} : zseg X zFT zE0 zc_73 (fun _ => false) 400 0 [.ref 9, .int x] [] (ar, fi, m) = (
  zg (zin x 96) (
  bif !decide ((ar 10) (x.toNatClampNeg) = 1) then
   some (.inr (some (.int 0), (ar, fi, m)))
  else
   zg (zin x 96) (
   bif !decide ((ar 11) (x.toNatClampNeg) = 0) then
    some (.inr (some (.int 0), (ar, fi, m)))
   else
    some (.inr (some (.int 1), (ar, fi, m))))) : Option ((Nat × List Value × List Value × zH2) ⊕ zO2)) := rfl
theorem e_sc_isWholeWood_9 {X : Nat × (Nat → Int32)} {ar fi : Nat → Nat → Int32} {m : zM5} {x : Int32} (hG : g_sc_isWholeWood 9 x ar fi = true) : zseg X zFT zE0 zc_73 (fun _ => false) 400 0 [.ref 9, .int x] [] (ar, fi, m) = some (.inr (some (.int (w_sc_isWholeWood 9 x ar fi)), (ar, fi, m))) := by
  rw [t_sc_isWholeWood_9]
  have hG : ((zin x 96) && (bif !decide ((ar 10) (x.toNatClampNeg) = 1) then true else zin x 96)) = true := hG
  show _ = (some (.inr (some (.int (bif !decide ((ar 10) (x.toNatClampNeg) = 1) then 0 else (bif !decide ((ar 11) (x.toNatClampNeg) = 0) then 0 else 1))), (ar, fi, m))) : Option ((Nat × List Value × List Value × zH2) ⊕ zO2))
  cases hc182 : (!decide ((ar 10) (x.toNatClampNeg) = 1)) with
  | true =>
    try simp only [hc182, cond_true, cond_false] at hG ⊢
    all_goals first | rfl | (simp only [zg, hG, cond_true]; done) | (simp only [Bool.and_eq_true, Bool.true_and, Bool.and_true] at hG; simp only [zg, hG, cond_true]; done)
  | false =>
    try simp only [hc182, cond_true, cond_false] at hG ⊢
    cases hc183 : (!decide ((ar 11) (x.toNatClampNeg) = 0)) with
    | true =>
      try simp only [hc183, cond_true, cond_false] at hG ⊢
      all_goals first | rfl | (simp only [zg, hG, cond_true]; done) | (simp only [Bool.and_eq_true, Bool.true_and, Bool.and_true] at hG; simp only [zg, hG, cond_true]; done)
    | false =>
      try simp only [hc183, cond_true, cond_false] at hG ⊢
      all_goals first | rfl | (simp only [zg, hG, cond_true]; done) | (simp only [Bool.and_eq_true, Bool.true_and, Bool.and_true] at hG; simp only [zg, hG, cond_true]; done)
set_option maxRecDepth 10000 in
theorem t_sc_isWholeWood_16 {X : Nat × (Nat → Int32)} {ar fi : Nat → Nat → Int32} {m : zM5} {x : Int32} : zseg X zFT zE0 zc_73 (fun _ => false) 400 0 [.ref 16, .int x] [] (ar, fi, m) = (
  zg (zin x 96) (
  bif !decide ((ar 17) (x.toNatClampNeg) = 1) then
   some (.inr (some (.int 0), (ar, fi, m)))
  else
   zg (zin x 96) (
   bif !decide ((ar 18) (x.toNatClampNeg) = 0) then
    some (.inr (some (.int 0), (ar, fi, m)))
   else
    some (.inr (some (.int 1), (ar, fi, m))))) : Option ((Nat × List Value × List Value × zH2) ⊕ zO2)) := rfl
theorem e_sc_isWholeWood_16 {X : Nat × (Nat → Int32)} {ar fi : Nat → Nat → Int32} {m : zM5} {x : Int32} (hG : g_sc_isWholeWood 16 x ar fi = true) : zseg X zFT zE0 zc_73 (fun _ => false) 400 0 [.ref 16, .int x] [] (ar, fi, m) = some (.inr (some (.int (w_sc_isWholeWood 16 x ar fi)), (ar, fi, m))) := by
  rw [t_sc_isWholeWood_16]
  have hG : ((zin x 96) && (bif !decide ((ar 17) (x.toNatClampNeg) = 1) then true else zin x 96)) = true := hG
  show _ = (some (.inr (some (.int (bif !decide ((ar 17) (x.toNatClampNeg) = 1) then 0 else (bif !decide ((ar 18) (x.toNatClampNeg) = 0) then 0 else 1))), (ar, fi, m))) : Option ((Nat × List Value × List Value × zH2) ⊕ zO2))
  cases hc184 : (!decide ((ar 17) (x.toNatClampNeg) = 1)) with
  | true =>
    try simp only [hc184, cond_true, cond_false] at hG ⊢
    all_goals first | rfl | (simp only [zg, hG, cond_true]; done) | (simp only [Bool.and_eq_true, Bool.true_and, Bool.and_true] at hG; simp only [zg, hG, cond_true]; done)
  | false =>
    try simp only [hc184, cond_true, cond_false] at hG ⊢
    cases hc185 : (!decide ((ar 18) (x.toNatClampNeg) = 0)) with
    | true =>
      try simp only [hc185, cond_true, cond_false] at hG ⊢
      all_goals first | rfl | (simp only [zg, hG, cond_true]; done) | (simp only [Bool.and_eq_true, Bool.true_and, Bool.and_true] at hG; simp only [zg, hG, cond_true]; done)
    | false =>
      try simp only [hc185, cond_true, cond_false] at hG ⊢
      all_goals first | rfl | (simp only [zg, hG, cond_true]; done) | (simp only [Bool.and_eq_true, Bool.true_and, Bool.and_true] at hG; simp only [zg, hG, cond_true]; done)
def S_sc_isWholeWood : zSp := fun as g => match as with
  | [.ref a, .int x] => bif ((Nat.beq a 2) || (Nat.beq a 9) || (Nat.beq a 16)) then some (g_sc_isWholeWood a x g.1 g.2.1, (some (.int (w_sc_isWholeWood a x g.1 g.2.1)), (g.1, g.2.1, g.2.2))) else none
  | _ => none
theorem k_sc_isWholeWood {X : Nat × (Nat → Int32)} : ∀ args g o, S_sc_isWholeWood args g = some (true, o) → zR2 X zFT zE0 (zC 73) 0 args [] g o := by
  intro args g o h
  obtain ⟨ar, fi, m1, m2, m3, m4, m5⟩ := g
  unfold S_sc_isWholeWood at h
  split at h
  · refine zb_el h (fun hI h1 => ?_) (fun _ h1 => by cases h1)
    have h2 := Option.some.inj h1
    have hG := congrArg Prod.fst h2
    have ho := congrArg Prod.snd h2
    clear h h1 h2
    dsimp only at hG ho
    subst ho
    try simp only [Bool.or_eq_true, Bool.and_eq_true] at hI
    rcases hI with (hI0 | hI0) | hI0
    · obtain rfl := Nat.eq_of_beq_eq_true hI0
      exact zseg_ret (e_sc_isWholeWood_2 hG)
    · obtain rfl := Nat.eq_of_beq_eq_true hI0
      exact zseg_ret (e_sc_isWholeWood_9 hG)
    · obtain rfl := Nat.eq_of_beq_eq_true hI0
      exact zseg_ret (e_sc_isWholeWood_16 hG)
  · cases h
def w_sc_isWoodOnFire (a : Nat) (x : Int32) (ar fi : Nat → Nat → Int32) : Int32 := bif Nat.beq a 2 then (bif !decide ((ar 3) (x.toNatClampNeg) = 1) then 0 else (bif decide ((ar 4) (x.toNatClampNeg) = 0) then 0 else 1)) else bif Nat.beq a 9 then (bif !decide ((ar 10) (x.toNatClampNeg) = 1) then 0 else (bif decide ((ar 11) (x.toNatClampNeg) = 0) then 0 else 1)) else (bif !decide ((ar 17) (x.toNatClampNeg) = 1) then 0 else (bif decide ((ar 18) (x.toNatClampNeg) = 0) then 0 else 1))
def g_sc_isWoodOnFire (a : Nat) (x : Int32) (ar fi : Nat → Nat → Int32) : Bool := bif Nat.beq a 2 then (zin x 96) && (bif !decide ((ar 3) (x.toNatClampNeg) = 1) then true else zin x 96) else bif Nat.beq a 9 then (zin x 96) && (bif !decide ((ar 10) (x.toNatClampNeg) = 1) then true else zin x 96) else (zin x 96) && (bif !decide ((ar 17) (x.toNatClampNeg) = 1) then true else zin x 96)
set_option maxRecDepth 10000 in
theorem t_sc_isWoodOnFire_2 {X : Nat × (Nat → Int32)} {ar fi : Nat → Nat → Int32} {m : zM5} {x : Int32} : zseg X zFT zE0 zc_74 (fun _ => false) 400 0 [.ref 2, .int x] [] (ar, fi, m) = (
  zg (zin x 96) (
  bif !decide ((ar 3) (x.toNatClampNeg) = 1) then
   some (.inr (some (.int 0), (ar, fi, m)))
  else
   zg (zin x 96) (
   bif decide ((ar 4) (x.toNatClampNeg) = 0) then
    some (.inr (some (.int 0), (ar, fi, m)))
   else
    some (.inr (some (.int 1), (ar, fi, m))))) : Option ((Nat × List Value × List Value × zH2) ⊕ zO2)) := rfl
theorem e_sc_isWoodOnFire_2 {X : Nat × (Nat → Int32)} {ar fi : Nat → Nat → Int32} {m : zM5} {x : Int32} (hG : g_sc_isWoodOnFire 2 x ar fi = true) : zseg X zFT zE0 zc_74 (fun _ => false) 400 0 [.ref 2, .int x] [] (ar, fi, m) = some (.inr (some (.int (w_sc_isWoodOnFire 2 x ar fi)), (ar, fi, m))) := by
  rw [t_sc_isWoodOnFire_2]
  have hG : ((zin x 96) && (bif !decide ((ar 3) (x.toNatClampNeg) = 1) then true else zin x 96)) = true := hG
  show _ = (some (.inr (some (.int (bif !decide ((ar 3) (x.toNatClampNeg) = 1) then 0 else (bif decide ((ar 4) (x.toNatClampNeg) = 0) then 0 else 1))), (ar, fi, m))) : Option ((Nat × List Value × List Value × zH2) ⊕ zO2))
  cases hc186 : (!decide ((ar 3) (x.toNatClampNeg) = 1)) with
  | true =>
    try simp only [hc186, cond_true, cond_false] at hG ⊢
    all_goals first | rfl | (simp only [zg, hG, cond_true]; done) | (simp only [Bool.and_eq_true, Bool.true_and, Bool.and_true] at hG; simp only [zg, hG, cond_true]; done)
  | false =>
    try simp only [hc186, cond_true, cond_false] at hG ⊢
    cases hc187 : (decide ((ar 4) (x.toNatClampNeg) = 0)) with
    | true =>
      try simp only [hc187, cond_true, cond_false] at hG ⊢
      all_goals first | rfl | (simp only [zg, hG, cond_true]; done) | (simp only [Bool.and_eq_true, Bool.true_and, Bool.and_true] at hG; simp only [zg, hG, cond_true]; done)
    | false =>
      try simp only [hc187, cond_true, cond_false] at hG ⊢
      all_goals first | rfl | (simp only [zg, hG, cond_true]; done) | (simp only [Bool.and_eq_true, Bool.true_and, Bool.and_true] at hG; simp only [zg, hG, cond_true]; done)
set_option maxRecDepth 10000 in
theorem t_sc_isWoodOnFire_9 {X : Nat × (Nat → Int32)} {ar fi : Nat → Nat → Int32} {m : zM5} {x : Int32} : zseg X zFT zE0 zc_74 (fun _ => false) 400 0 [.ref 9, .int x] [] (ar, fi, m) = (
  zg (zin x 96) (
  bif !decide ((ar 10) (x.toNatClampNeg) = 1) then
   some (.inr (some (.int 0), (ar, fi, m)))
  else
   zg (zin x 96) (
   bif decide ((ar 11) (x.toNatClampNeg) = 0) then
    some (.inr (some (.int 0), (ar, fi, m)))
   else
    some (.inr (some (.int 1), (ar, fi, m))))) : Option ((Nat × List Value × List Value × zH2) ⊕ zO2)) := rfl
theorem e_sc_isWoodOnFire_9 {X : Nat × (Nat → Int32)} {ar fi : Nat → Nat → Int32} {m : zM5} {x : Int32} (hG : g_sc_isWoodOnFire 9 x ar fi = true) : zseg X zFT zE0 zc_74 (fun _ => false) 400 0 [.ref 9, .int x] [] (ar, fi, m) = some (.inr (some (.int (w_sc_isWoodOnFire 9 x ar fi)), (ar, fi, m))) := by
  rw [t_sc_isWoodOnFire_9]
  have hG : ((zin x 96) && (bif !decide ((ar 10) (x.toNatClampNeg) = 1) then true else zin x 96)) = true := hG
  show _ = (some (.inr (some (.int (bif !decide ((ar 10) (x.toNatClampNeg) = 1) then 0 else (bif decide ((ar 11) (x.toNatClampNeg) = 0) then 0 else 1))), (ar, fi, m))) : Option ((Nat × List Value × List Value × zH2) ⊕ zO2))
  cases hc188 : (!decide ((ar 10) (x.toNatClampNeg) = 1)) with
  | true =>
    try simp only [hc188, cond_true, cond_false] at hG ⊢
    all_goals first | rfl | (simp only [zg, hG, cond_true]; done) | (simp only [Bool.and_eq_true, Bool.true_and, Bool.and_true] at hG; simp only [zg, hG, cond_true]; done)
  | false =>
    try simp only [hc188, cond_true, cond_false] at hG ⊢
    cases hc189 : (decide ((ar 11) (x.toNatClampNeg) = 0)) with
    | true =>
      try simp only [hc189, cond_true, cond_false] at hG ⊢
      all_goals first | rfl | (simp only [zg, hG, cond_true]; done) | (simp only [Bool.and_eq_true, Bool.true_and, Bool.and_true] at hG; simp only [zg, hG, cond_true]; done)
    | false =>
      try simp only [hc189, cond_true, cond_false] at hG ⊢
      all_goals first | rfl | (simp only [zg, hG, cond_true]; done) | (simp only [Bool.and_eq_true, Bool.true_and, Bool.and_true] at hG; simp only [zg, hG, cond_true]; done)
set_option maxRecDepth 10000 in
theorem t_sc_isWoodOnFire_16 {X : Nat × (Nat → Int32)} {ar fi : Nat → Nat → Int32} {m : zM5} {x : Int32} : zseg X zFT zE0 zc_74 (fun _ => false) 400 0 [.ref 16, .int x] [] (ar, fi, m) = (
  zg (zin x 96) (
  bif !decide ((ar 17) (x.toNatClampNeg) = 1) then
   some (.inr (some (.int 0), (ar, fi, m)))
  else
   zg (zin x 96) (
   bif decide ((ar 18) (x.toNatClampNeg) = 0) then
    some (.inr (some (.int 0), (ar, fi, m)))
   else
    some (.inr (some (.int 1), (ar, fi, m))))) : Option ((Nat × List Value × List Value × zH2) ⊕ zO2)) := rfl
theorem e_sc_isWoodOnFire_16 {X : Nat × (Nat → Int32)} {ar fi : Nat → Nat → Int32} {m : zM5} {x : Int32} (hG : g_sc_isWoodOnFire 16 x ar fi = true) : zseg X zFT zE0 zc_74 (fun _ => false) 400 0 [.ref 16, .int x] [] (ar, fi, m) = some (.inr (some (.int (w_sc_isWoodOnFire 16 x ar fi)), (ar, fi, m))) := by
  rw [t_sc_isWoodOnFire_16]
  have hG : ((zin x 96) && (bif !decide ((ar 17) (x.toNatClampNeg) = 1) then true else zin x 96)) = true := hG
  show _ = (some (.inr (some (.int (bif !decide ((ar 17) (x.toNatClampNeg) = 1) then 0 else (bif decide ((ar 18) (x.toNatClampNeg) = 0) then 0 else 1))), (ar, fi, m))) : Option ((Nat × List Value × List Value × zH2) ⊕ zO2))
  cases hc190 : (!decide ((ar 17) (x.toNatClampNeg) = 1)) with
  | true =>
    try simp only [hc190, cond_true, cond_false] at hG ⊢
    all_goals first | rfl | (simp only [zg, hG, cond_true]; done) | (simp only [Bool.and_eq_true, Bool.true_and, Bool.and_true] at hG; simp only [zg, hG, cond_true]; done)
  | false =>
    try simp only [hc190, cond_true, cond_false] at hG ⊢
    cases hc191 : (decide ((ar 18) (x.toNatClampNeg) = 0)) with
    | true =>
      try simp only [hc191, cond_true, cond_false] at hG ⊢
      all_goals first | rfl | (simp only [zg, hG, cond_true]; done) | (simp only [Bool.and_eq_true, Bool.true_and, Bool.and_true] at hG; simp only [zg, hG, cond_true]; done)
    | false =>
      try simp only [hc191, cond_true, cond_false] at hG ⊢
      all_goals first | rfl | (simp only [zg, hG, cond_true]; done) | (simp only [Bool.and_eq_true, Bool.true_and, Bool.and_true] at hG; simp only [zg, hG, cond_true]; done)
def S_sc_isWoodOnFire : zSp := fun as g => match as with
  | [.ref a, .int x] => bif ((Nat.beq a 2) || (Nat.beq a 9) || (Nat.beq a 16)) then some (g_sc_isWoodOnFire a x g.1 g.2.1, (some (.int (w_sc_isWoodOnFire a x g.1 g.2.1)), (g.1, g.2.1, g.2.2))) else none
  | _ => none
theorem k_sc_isWoodOnFire {X : Nat × (Nat → Int32)} : ∀ args g o, S_sc_isWoodOnFire args g = some (true, o) → zR2 X zFT zE0 (zC 74) 0 args [] g o := by
  intro args g o h
  obtain ⟨ar, fi, m1, m2, m3, m4, m5⟩ := g
  unfold S_sc_isWoodOnFire at h
  split at h
  · refine zb_el h (fun hI h1 => ?_) (fun _ h1 => by cases h1)
    have h2 := Option.some.inj h1
    have hG := congrArg Prod.fst h2
    have ho := congrArg Prod.snd h2
    clear h h1 h2
    dsimp only at hG ho
    subst ho
    try simp only [Bool.or_eq_true, Bool.and_eq_true] at hI
    rcases hI with (hI0 | hI0) | hI0
    · obtain rfl := Nat.eq_of_beq_eq_true hI0
      exact zseg_ret (e_sc_isWoodOnFire_2 hG)
    · obtain rfl := Nat.eq_of_beq_eq_true hI0
      exact zseg_ret (e_sc_isWoodOnFire_9 hG)
    · obtain rfl := Nat.eq_of_beq_eq_true hI0
      exact zseg_ret (e_sc_isWoodOnFire_16 hG)
  · cases h
def w_sc_isTold (a : Nat) (x : Int32) (ar fi : Nat → Nat → Int32) : Int32 := bif Nat.beq a 2 then (bif decide (((Int32.toUInt32 (fi 2 6) >>> (Int32.toUInt32 x &&& Int32.toUInt32 31)).toInt32) &&& 1 = 0) then 0 else 1) else bif Nat.beq a 9 then (bif decide (((Int32.toUInt32 (fi 9 6) >>> (Int32.toUInt32 x &&& Int32.toUInt32 31)).toInt32) &&& 1 = 0) then 0 else 1) else (bif decide (((Int32.toUInt32 (fi 16 6) >>> (Int32.toUInt32 x &&& Int32.toUInt32 31)).toInt32) &&& 1 = 0) then 0 else 1)
set_option maxRecDepth 10000 in
theorem t_sc_isTold_2 {X : Nat × (Nat → Int32)} {ar fi : Nat → Nat → Int32} {m : zM5} {x : Int32} : zseg X zFT zE0 zc_78 (fun _ => false) 400 0 [.ref 2, .int x] [] (ar, fi, m) = (
  bif decide (((Int32.toUInt32 (fi 2 6) >>> (Int32.toUInt32 x &&& Int32.toUInt32 31)).toInt32) &&& 1 = 0) then
   some (.inr (some (.int 0), (ar, fi, m)))
  else
   some (.inr (some (.int 1), (ar, fi, m))) : Option ((Nat × List Value × List Value × zH2) ⊕ zO2)) := rfl
theorem e_sc_isTold_2 {X : Nat × (Nat → Int32)} {ar fi : Nat → Nat → Int32} {m : zM5} {x : Int32} : zseg X zFT zE0 zc_78 (fun _ => false) 400 0 [.ref 2, .int x] [] (ar, fi, m) = some (.inr (some (.int (w_sc_isTold 2 x ar fi)), (ar, fi, m))) := by
  rw [t_sc_isTold_2]
  show _ = (some (.inr (some (.int (bif decide (((Int32.toUInt32 (fi 2 6) >>> (Int32.toUInt32 x &&& Int32.toUInt32 31)).toInt32) &&& 1 = 0) then 0 else 1)), (ar, fi, m))) : Option ((Nat × List Value × List Value × zH2) ⊕ zO2))
  cases hc192 : (decide (((Int32.toUInt32 (fi 2 6) >>> (Int32.toUInt32 x &&& Int32.toUInt32 31)).toInt32) &&& 1 = 0)) with
  | true =>
    try simp only [hc192, cond_true, cond_false]
    all_goals rfl
  | false =>
    try simp only [hc192, cond_true, cond_false]
    all_goals rfl
set_option maxRecDepth 10000 in
theorem t_sc_isTold_9 {X : Nat × (Nat → Int32)} {ar fi : Nat → Nat → Int32} {m : zM5} {x : Int32} : zseg X zFT zE0 zc_78 (fun _ => false) 400 0 [.ref 9, .int x] [] (ar, fi, m) = (
  bif decide (((Int32.toUInt32 (fi 9 6) >>> (Int32.toUInt32 x &&& Int32.toUInt32 31)).toInt32) &&& 1 = 0) then
   some (.inr (some (.int 0), (ar, fi, m)))
  else
   some (.inr (some (.int 1), (ar, fi, m))) : Option ((Nat × List Value × List Value × zH2) ⊕ zO2)) := rfl
theorem e_sc_isTold_9 {X : Nat × (Nat → Int32)} {ar fi : Nat → Nat → Int32} {m : zM5} {x : Int32} : zseg X zFT zE0 zc_78 (fun _ => false) 400 0 [.ref 9, .int x] [] (ar, fi, m) = some (.inr (some (.int (w_sc_isTold 9 x ar fi)), (ar, fi, m))) := by
  rw [t_sc_isTold_9]
  show _ = (some (.inr (some (.int (bif decide (((Int32.toUInt32 (fi 9 6) >>> (Int32.toUInt32 x &&& Int32.toUInt32 31)).toInt32) &&& 1 = 0) then 0 else 1)), (ar, fi, m))) : Option ((Nat × List Value × List Value × zH2) ⊕ zO2))
  cases hc193 : (decide (((Int32.toUInt32 (fi 9 6) >>> (Int32.toUInt32 x &&& Int32.toUInt32 31)).toInt32) &&& 1 = 0)) with
  | true =>
    try simp only [hc193, cond_true, cond_false]
    all_goals rfl
  | false =>
    try simp only [hc193, cond_true, cond_false]
    all_goals rfl
set_option maxRecDepth 10000 in
theorem t_sc_isTold_16 {X : Nat × (Nat → Int32)} {ar fi : Nat → Nat → Int32} {m : zM5} {x : Int32} : zseg X zFT zE0 zc_78 (fun _ => false) 400 0 [.ref 16, .int x] [] (ar, fi, m) = (
  bif decide (((Int32.toUInt32 (fi 16 6) >>> (Int32.toUInt32 x &&& Int32.toUInt32 31)).toInt32) &&& 1 = 0) then
   some (.inr (some (.int 0), (ar, fi, m)))
  else
   some (.inr (some (.int 1), (ar, fi, m))) : Option ((Nat × List Value × List Value × zH2) ⊕ zO2)) := rfl
theorem e_sc_isTold_16 {X : Nat × (Nat → Int32)} {ar fi : Nat → Nat → Int32} {m : zM5} {x : Int32} : zseg X zFT zE0 zc_78 (fun _ => false) 400 0 [.ref 16, .int x] [] (ar, fi, m) = some (.inr (some (.int (w_sc_isTold 16 x ar fi)), (ar, fi, m))) := by
  rw [t_sc_isTold_16]
  show _ = (some (.inr (some (.int (bif decide (((Int32.toUInt32 (fi 16 6) >>> (Int32.toUInt32 x &&& Int32.toUInt32 31)).toInt32) &&& 1 = 0) then 0 else 1)), (ar, fi, m))) : Option ((Nat × List Value × List Value × zH2) ⊕ zO2))
  cases hc194 : (decide (((Int32.toUInt32 (fi 16 6) >>> (Int32.toUInt32 x &&& Int32.toUInt32 31)).toInt32) &&& 1 = 0)) with
  | true =>
    try simp only [hc194, cond_true, cond_false]
    all_goals rfl
  | false =>
    try simp only [hc194, cond_true, cond_false]
    all_goals rfl
def S_sc_isTold : zSp := fun as g => match as with
  | [.ref a, .int x] => bif ((Nat.beq a 2) || (Nat.beq a 9) || (Nat.beq a 16)) then some (true, (some (.int (w_sc_isTold a x g.1 g.2.1)), (g.1, g.2.1, g.2.2))) else none
  | _ => none
theorem k_sc_isTold {X : Nat × (Nat → Int32)} : ∀ args g o, S_sc_isTold args g = some (true, o) → zR2 X zFT zE0 (zC 78) 0 args [] g o := by
  intro args g o h
  obtain ⟨ar, fi, m1, m2, m3, m4, m5⟩ := g
  unfold S_sc_isTold at h
  split at h
  · refine zb_el h (fun hI h1 => ?_) (fun _ h1 => by cases h1)
    have h2 := Option.some.inj h1
    have hG := congrArg Prod.fst h2
    have ho := congrArg Prod.snd h2
    clear h h1 h2
    dsimp only at hG ho
    subst ho
    try simp only [Bool.or_eq_true, Bool.and_eq_true] at hI
    rcases hI with (hI0 | hI0) | hI0
    · obtain rfl := Nat.eq_of_beq_eq_true hI0
      exact zseg_ret (e_sc_isTold_2)
    · obtain rfl := Nat.eq_of_beq_eq_true hI0
      exact zseg_ret (e_sc_isTold_9)
    · obtain rfl := Nat.eq_of_beq_eq_true hI0
      exact zseg_ret (e_sc_isTold_16)
  · cases h
def w_sc_isGone (a : Nat) (x : Int32) (ar fi : Nat → Nat → Int32) : Int32 := bif Nat.beq a 2 then (bif decide (((Int32.toUInt32 (fi 2 7) >>> (Int32.toUInt32 x &&& Int32.toUInt32 31)).toInt32) &&& 1 = 0) then 0 else 1) else bif Nat.beq a 9 then (bif decide (((Int32.toUInt32 (fi 9 7) >>> (Int32.toUInt32 x &&& Int32.toUInt32 31)).toInt32) &&& 1 = 0) then 0 else 1) else (bif decide (((Int32.toUInt32 (fi 16 7) >>> (Int32.toUInt32 x &&& Int32.toUInt32 31)).toInt32) &&& 1 = 0) then 0 else 1)
set_option maxRecDepth 10000 in
theorem t_sc_isGone_2 {X : Nat × (Nat → Int32)} {ar fi : Nat → Nat → Int32} {m : zM5} {x : Int32} : zseg X zFT zE0 zc_79 (fun _ => false) 400 0 [.ref 2, .int x] [] (ar, fi, m) = (
  bif decide (((Int32.toUInt32 (fi 2 7) >>> (Int32.toUInt32 x &&& Int32.toUInt32 31)).toInt32) &&& 1 = 0) then
   some (.inr (some (.int 0), (ar, fi, m)))
  else
   some (.inr (some (.int 1), (ar, fi, m))) : Option ((Nat × List Value × List Value × zH2) ⊕ zO2)) := rfl
theorem e_sc_isGone_2 {X : Nat × (Nat → Int32)} {ar fi : Nat → Nat → Int32} {m : zM5} {x : Int32} : zseg X zFT zE0 zc_79 (fun _ => false) 400 0 [.ref 2, .int x] [] (ar, fi, m) = some (.inr (some (.int (w_sc_isGone 2 x ar fi)), (ar, fi, m))) := by
  rw [t_sc_isGone_2]
  show _ = (some (.inr (some (.int (bif decide (((Int32.toUInt32 (fi 2 7) >>> (Int32.toUInt32 x &&& Int32.toUInt32 31)).toInt32) &&& 1 = 0) then 0 else 1)), (ar, fi, m))) : Option ((Nat × List Value × List Value × zH2) ⊕ zO2))
  cases hc195 : (decide (((Int32.toUInt32 (fi 2 7) >>> (Int32.toUInt32 x &&& Int32.toUInt32 31)).toInt32) &&& 1 = 0)) with
  | true =>
    try simp only [hc195, cond_true, cond_false]
    all_goals rfl
  | false =>
    try simp only [hc195, cond_true, cond_false]
    all_goals rfl
set_option maxRecDepth 10000 in
theorem t_sc_isGone_9 {X : Nat × (Nat → Int32)} {ar fi : Nat → Nat → Int32} {m : zM5} {x : Int32} : zseg X zFT zE0 zc_79 (fun _ => false) 400 0 [.ref 9, .int x] [] (ar, fi, m) = (
  bif decide (((Int32.toUInt32 (fi 9 7) >>> (Int32.toUInt32 x &&& Int32.toUInt32 31)).toInt32) &&& 1 = 0) then
   some (.inr (some (.int 0), (ar, fi, m)))
  else
   some (.inr (some (.int 1), (ar, fi, m))) : Option ((Nat × List Value × List Value × zH2) ⊕ zO2)) := rfl
theorem e_sc_isGone_9 {X : Nat × (Nat → Int32)} {ar fi : Nat → Nat → Int32} {m : zM5} {x : Int32} : zseg X zFT zE0 zc_79 (fun _ => false) 400 0 [.ref 9, .int x] [] (ar, fi, m) = some (.inr (some (.int (w_sc_isGone 9 x ar fi)), (ar, fi, m))) := by
  rw [t_sc_isGone_9]
  show _ = (some (.inr (some (.int (bif decide (((Int32.toUInt32 (fi 9 7) >>> (Int32.toUInt32 x &&& Int32.toUInt32 31)).toInt32) &&& 1 = 0) then 0 else 1)), (ar, fi, m))) : Option ((Nat × List Value × List Value × zH2) ⊕ zO2))
  cases hc196 : (decide (((Int32.toUInt32 (fi 9 7) >>> (Int32.toUInt32 x &&& Int32.toUInt32 31)).toInt32) &&& 1 = 0)) with
  | true =>
    try simp only [hc196, cond_true, cond_false]
    all_goals rfl
  | false =>
    try simp only [hc196, cond_true, cond_false]
    all_goals rfl
set_option maxRecDepth 10000 in
theorem t_sc_isGone_16 {X : Nat × (Nat → Int32)} {ar fi : Nat → Nat → Int32} {m : zM5} {x : Int32} : zseg X zFT zE0 zc_79 (fun _ => false) 400 0 [.ref 16, .int x] [] (ar, fi, m) = (
  bif decide (((Int32.toUInt32 (fi 16 7) >>> (Int32.toUInt32 x &&& Int32.toUInt32 31)).toInt32) &&& 1 = 0) then
   some (.inr (some (.int 0), (ar, fi, m)))
  else
   some (.inr (some (.int 1), (ar, fi, m))) : Option ((Nat × List Value × List Value × zH2) ⊕ zO2)) := rfl
theorem e_sc_isGone_16 {X : Nat × (Nat → Int32)} {ar fi : Nat → Nat → Int32} {m : zM5} {x : Int32} : zseg X zFT zE0 zc_79 (fun _ => false) 400 0 [.ref 16, .int x] [] (ar, fi, m) = some (.inr (some (.int (w_sc_isGone 16 x ar fi)), (ar, fi, m))) := by
  rw [t_sc_isGone_16]
  show _ = (some (.inr (some (.int (bif decide (((Int32.toUInt32 (fi 16 7) >>> (Int32.toUInt32 x &&& Int32.toUInt32 31)).toInt32) &&& 1 = 0) then 0 else 1)), (ar, fi, m))) : Option ((Nat × List Value × List Value × zH2) ⊕ zO2))
  cases hc197 : (decide (((Int32.toUInt32 (fi 16 7) >>> (Int32.toUInt32 x &&& Int32.toUInt32 31)).toInt32) &&& 1 = 0)) with
  | true =>
    try simp only [hc197, cond_true, cond_false]
    all_goals rfl
  | false =>
    try simp only [hc197, cond_true, cond_false]
    all_goals rfl
def S_sc_isGone : zSp := fun as g => match as with
  | [.ref a, .int x] => bif ((Nat.beq a 2) || (Nat.beq a 9) || (Nat.beq a 16)) then some (true, (some (.int (w_sc_isGone a x g.1 g.2.1)), (g.1, g.2.1, g.2.2))) else none
  | _ => none
theorem k_sc_isGone {X : Nat × (Nat → Int32)} : ∀ args g o, S_sc_isGone args g = some (true, o) → zR2 X zFT zE0 (zC 79) 0 args [] g o := by
  intro args g o h
  obtain ⟨ar, fi, m1, m2, m3, m4, m5⟩ := g
  unfold S_sc_isGone at h
  split at h
  · refine zb_el h (fun hI h1 => ?_) (fun _ h1 => by cases h1)
    have h2 := Option.some.inj h1
    have hG := congrArg Prod.fst h2
    have ho := congrArg Prod.snd h2
    clear h h1 h2
    dsimp only at hG ho
    subst ho
    try simp only [Bool.or_eq_true, Bool.and_eq_true] at hI
    rcases hI with (hI0 | hI0) | hI0
    · obtain rfl := Nat.eq_of_beq_eq_true hI0
      exact zseg_ret (e_sc_isGone_2)
    · obtain rfl := Nat.eq_of_beq_eq_true hI0
      exact zseg_ret (e_sc_isGone_9)
    · obtain rfl := Nat.eq_of_beq_eq_true hI0
      exact zseg_ret (e_sc_isGone_16)
  · cases h
def w_sc_paidFor (a : Nat) (x : Int32) (ar fi : Nat → Nat → Int32) : Int32 := bif Nat.beq a 2 then (bif decide ((ar 7) (x.toNatClampNeg) ≤ (ar 8) (x.toNatClampNeg)) then (ar 7) (x.toNatClampNeg) else (bif decide (0 < (ar 7) (x.toNatClampNeg)) then (((ar 8) (x.toNatClampNeg)) * ((ar 8) (x.toNatClampNeg))) / ((ar 7) (x.toNatClampNeg)) else (ar 7) (x.toNatClampNeg))) else bif Nat.beq a 9 then (bif decide ((ar 14) (x.toNatClampNeg) ≤ (ar 15) (x.toNatClampNeg)) then (ar 14) (x.toNatClampNeg) else (bif decide (0 < (ar 14) (x.toNatClampNeg)) then (((ar 15) (x.toNatClampNeg)) * ((ar 15) (x.toNatClampNeg))) / ((ar 14) (x.toNatClampNeg)) else (ar 14) (x.toNatClampNeg))) else (bif decide ((ar 21) (x.toNatClampNeg) ≤ (ar 22) (x.toNatClampNeg)) then (ar 21) (x.toNatClampNeg) else (bif decide (0 < (ar 21) (x.toNatClampNeg)) then (((ar 22) (x.toNatClampNeg)) * ((ar 22) (x.toNatClampNeg))) / ((ar 21) (x.toNatClampNeg)) else (ar 21) (x.toNatClampNeg)))
def g_sc_paidFor (a : Nat) (x : Int32) (ar fi : Nat → Nat → Int32) : Bool := bif Nat.beq a 2 then (zin x 24) && ((zin x 24) && (bif decide ((ar 7) (x.toNatClampNeg) ≤ (ar 8) (x.toNatClampNeg)) then true else bif decide (0 < (ar 7) (x.toNatClampNeg)) then !decide (((ar 7) (x.toNatClampNeg)) = 0) else true)) else bif Nat.beq a 9 then (zin x 24) && ((zin x 24) && (bif decide ((ar 14) (x.toNatClampNeg) ≤ (ar 15) (x.toNatClampNeg)) then true else bif decide (0 < (ar 14) (x.toNatClampNeg)) then !decide (((ar 14) (x.toNatClampNeg)) = 0) else true)) else (zin x 24) && ((zin x 24) && (bif decide ((ar 21) (x.toNatClampNeg) ≤ (ar 22) (x.toNatClampNeg)) then true else bif decide (0 < (ar 21) (x.toNatClampNeg)) then !decide (((ar 21) (x.toNatClampNeg)) = 0) else true))
set_option maxRecDepth 10000 in
theorem t_sc_paidFor_2 {X : Nat × (Nat → Int32)} {ar fi : Nat → Nat → Int32} {m : zM5} {x : Int32} : zseg X zFT zE0 zc_87 (fun _ => false) 400 0 [.ref 2, .int x] [] (ar, fi, m) = (
  zg (zin x 24) (
  zg (zin x 24) (
  bif decide ((ar 7) (x.toNatClampNeg) ≤ (ar 8) (x.toNatClampNeg)) then
   some (.inr (some (.int ((ar 7) (x.toNatClampNeg))), (ar, fi, m)))
  else
   bif decide (0 < (ar 7) (x.toNatClampNeg)) then
    zg (!decide (((ar 7) (x.toNatClampNeg)) = 0)) (
    some (.inr (some (.int ((((ar 8) (x.toNatClampNeg)) * ((ar 8) (x.toNatClampNeg))) / ((ar 7) (x.toNatClampNeg)))), (ar, fi, m))))
   else
    some (.inr (some (.int ((ar 7) (x.toNatClampNeg))), (ar, fi, m))))) : Option ((Nat × List Value × List Value × zH2) ⊕ zO2)) := rfl
theorem e_sc_paidFor_2 {X : Nat × (Nat → Int32)} {ar fi : Nat → Nat → Int32} {m : zM5} {x : Int32} (hG : g_sc_paidFor 2 x ar fi = true) : zseg X zFT zE0 zc_87 (fun _ => false) 400 0 [.ref 2, .int x] [] (ar, fi, m) = some (.inr (some (.int (w_sc_paidFor 2 x ar fi)), (ar, fi, m))) := by
  rw [t_sc_paidFor_2]
  have hG : ((zin x 24) && ((zin x 24) && (bif decide ((ar 7) (x.toNatClampNeg) ≤ (ar 8) (x.toNatClampNeg)) then true else bif decide (0 < (ar 7) (x.toNatClampNeg)) then !decide (((ar 7) (x.toNatClampNeg)) = 0) else true))) = true := hG
  show _ = (some (.inr (some (.int (bif decide ((ar 7) (x.toNatClampNeg) ≤ (ar 8) (x.toNatClampNeg)) then (ar 7) (x.toNatClampNeg) else (bif decide (0 < (ar 7) (x.toNatClampNeg)) then (((ar 8) (x.toNatClampNeg)) * ((ar 8) (x.toNatClampNeg))) / ((ar 7) (x.toNatClampNeg)) else (ar 7) (x.toNatClampNeg)))), (ar, fi, m))) : Option ((Nat × List Value × List Value × zH2) ⊕ zO2))
  cases hc198 : (decide ((ar 7) (x.toNatClampNeg) ≤ (ar 8) (x.toNatClampNeg))) with
  | true =>
    try simp only [hc198, cond_true, cond_false] at hG ⊢
    all_goals first | rfl | (simp only [zg, hG, cond_true]; done) | (simp only [Bool.and_eq_true, Bool.true_and, Bool.and_true] at hG; simp only [zg, hG, cond_true]; done)
  | false =>
    try simp only [hc198, cond_true, cond_false] at hG ⊢
    cases hc199 : (decide (0 < (ar 7) (x.toNatClampNeg))) with
    | true =>
      try simp only [hc199, cond_true, cond_false] at hG ⊢
      all_goals first | rfl | (simp only [zg, hG, cond_true]; done) | (simp only [Bool.and_eq_true, Bool.true_and, Bool.and_true] at hG; simp only [zg, hG, cond_true]; done)
    | false =>
      try simp only [hc199, cond_true, cond_false] at hG ⊢
      all_goals first | rfl | (simp only [zg, hG, cond_true]; done) | (simp only [Bool.and_eq_true, Bool.true_and, Bool.and_true] at hG; simp only [zg, hG, cond_true]; done)
set_option maxRecDepth 10000 in
theorem t_sc_paidFor_9 {X : Nat × (Nat → Int32)} {ar fi : Nat → Nat → Int32} {m : zM5} {x : Int32} : zseg X zFT zE0 zc_87 (fun _ => false) 400 0 [.ref 9, .int x] [] (ar, fi, m) = (
  zg (zin x 24) (
  zg (zin x 24) (
  bif decide ((ar 14) (x.toNatClampNeg) ≤ (ar 15) (x.toNatClampNeg)) then
   some (.inr (some (.int ((ar 14) (x.toNatClampNeg))), (ar, fi, m)))
  else
   bif decide (0 < (ar 14) (x.toNatClampNeg)) then
    zg (!decide (((ar 14) (x.toNatClampNeg)) = 0)) (
    some (.inr (some (.int ((((ar 15) (x.toNatClampNeg)) * ((ar 15) (x.toNatClampNeg))) / ((ar 14) (x.toNatClampNeg)))), (ar, fi, m))))
   else
    some (.inr (some (.int ((ar 14) (x.toNatClampNeg))), (ar, fi, m))))) : Option ((Nat × List Value × List Value × zH2) ⊕ zO2)) := rfl
theorem e_sc_paidFor_9 {X : Nat × (Nat → Int32)} {ar fi : Nat → Nat → Int32} {m : zM5} {x : Int32} (hG : g_sc_paidFor 9 x ar fi = true) : zseg X zFT zE0 zc_87 (fun _ => false) 400 0 [.ref 9, .int x] [] (ar, fi, m) = some (.inr (some (.int (w_sc_paidFor 9 x ar fi)), (ar, fi, m))) := by
  rw [t_sc_paidFor_9]
  have hG : ((zin x 24) && ((zin x 24) && (bif decide ((ar 14) (x.toNatClampNeg) ≤ (ar 15) (x.toNatClampNeg)) then true else bif decide (0 < (ar 14) (x.toNatClampNeg)) then !decide (((ar 14) (x.toNatClampNeg)) = 0) else true))) = true := hG
  show _ = (some (.inr (some (.int (bif decide ((ar 14) (x.toNatClampNeg) ≤ (ar 15) (x.toNatClampNeg)) then (ar 14) (x.toNatClampNeg) else (bif decide (0 < (ar 14) (x.toNatClampNeg)) then (((ar 15) (x.toNatClampNeg)) * ((ar 15) (x.toNatClampNeg))) / ((ar 14) (x.toNatClampNeg)) else (ar 14) (x.toNatClampNeg)))), (ar, fi, m))) : Option ((Nat × List Value × List Value × zH2) ⊕ zO2))
  cases hc200 : (decide ((ar 14) (x.toNatClampNeg) ≤ (ar 15) (x.toNatClampNeg))) with
  | true =>
    try simp only [hc200, cond_true, cond_false] at hG ⊢
    all_goals first | rfl | (simp only [zg, hG, cond_true]; done) | (simp only [Bool.and_eq_true, Bool.true_and, Bool.and_true] at hG; simp only [zg, hG, cond_true]; done)
  | false =>
    try simp only [hc200, cond_true, cond_false] at hG ⊢
    cases hc201 : (decide (0 < (ar 14) (x.toNatClampNeg))) with
    | true =>
      try simp only [hc201, cond_true, cond_false] at hG ⊢
      all_goals first | rfl | (simp only [zg, hG, cond_true]; done) | (simp only [Bool.and_eq_true, Bool.true_and, Bool.and_true] at hG; simp only [zg, hG, cond_true]; done)
    | false =>
      try simp only [hc201, cond_true, cond_false] at hG ⊢
      all_goals first | rfl | (simp only [zg, hG, cond_true]; done) | (simp only [Bool.and_eq_true, Bool.true_and, Bool.and_true] at hG; simp only [zg, hG, cond_true]; done)
set_option maxRecDepth 10000 in
theorem t_sc_paidFor_16 {X : Nat × (Nat → Int32)} {ar fi : Nat → Nat → Int32} {m : zM5} {x : Int32} : zseg X zFT zE0 zc_87 (fun _ => false) 400 0 [.ref 16, .int x] [] (ar, fi, m) = (
  zg (zin x 24) (
  zg (zin x 24) (
  bif decide ((ar 21) (x.toNatClampNeg) ≤ (ar 22) (x.toNatClampNeg)) then
   some (.inr (some (.int ((ar 21) (x.toNatClampNeg))), (ar, fi, m)))
  else
   bif decide (0 < (ar 21) (x.toNatClampNeg)) then
    zg (!decide (((ar 21) (x.toNatClampNeg)) = 0)) (
    some (.inr (some (.int ((((ar 22) (x.toNatClampNeg)) * ((ar 22) (x.toNatClampNeg))) / ((ar 21) (x.toNatClampNeg)))), (ar, fi, m))))
   else
    some (.inr (some (.int ((ar 21) (x.toNatClampNeg))), (ar, fi, m))))) : Option ((Nat × List Value × List Value × zH2) ⊕ zO2)) := rfl
theorem e_sc_paidFor_16 {X : Nat × (Nat → Int32)} {ar fi : Nat → Nat → Int32} {m : zM5} {x : Int32} (hG : g_sc_paidFor 16 x ar fi = true) : zseg X zFT zE0 zc_87 (fun _ => false) 400 0 [.ref 16, .int x] [] (ar, fi, m) = some (.inr (some (.int (w_sc_paidFor 16 x ar fi)), (ar, fi, m))) := by
  rw [t_sc_paidFor_16]
  have hG : ((zin x 24) && ((zin x 24) && (bif decide ((ar 21) (x.toNatClampNeg) ≤ (ar 22) (x.toNatClampNeg)) then true else bif decide (0 < (ar 21) (x.toNatClampNeg)) then !decide (((ar 21) (x.toNatClampNeg)) = 0) else true))) = true := hG
  show _ = (some (.inr (some (.int (bif decide ((ar 21) (x.toNatClampNeg) ≤ (ar 22) (x.toNatClampNeg)) then (ar 21) (x.toNatClampNeg) else (bif decide (0 < (ar 21) (x.toNatClampNeg)) then (((ar 22) (x.toNatClampNeg)) * ((ar 22) (x.toNatClampNeg))) / ((ar 21) (x.toNatClampNeg)) else (ar 21) (x.toNatClampNeg)))), (ar, fi, m))) : Option ((Nat × List Value × List Value × zH2) ⊕ zO2))
  cases hc202 : (decide ((ar 21) (x.toNatClampNeg) ≤ (ar 22) (x.toNatClampNeg))) with
  | true =>
    try simp only [hc202, cond_true, cond_false] at hG ⊢
    all_goals first | rfl | (simp only [zg, hG, cond_true]; done) | (simp only [Bool.and_eq_true, Bool.true_and, Bool.and_true] at hG; simp only [zg, hG, cond_true]; done)
  | false =>
    try simp only [hc202, cond_true, cond_false] at hG ⊢
    cases hc203 : (decide (0 < (ar 21) (x.toNatClampNeg))) with
    | true =>
      try simp only [hc203, cond_true, cond_false] at hG ⊢
      all_goals first | rfl | (simp only [zg, hG, cond_true]; done) | (simp only [Bool.and_eq_true, Bool.true_and, Bool.and_true] at hG; simp only [zg, hG, cond_true]; done)
    | false =>
      try simp only [hc203, cond_true, cond_false] at hG ⊢
      all_goals first | rfl | (simp only [zg, hG, cond_true]; done) | (simp only [Bool.and_eq_true, Bool.true_and, Bool.and_true] at hG; simp only [zg, hG, cond_true]; done)
def S_sc_paidFor : zSp := fun as g => match as with
  | [.ref a, .int x] => bif ((Nat.beq a 2) || (Nat.beq a 9) || (Nat.beq a 16)) then some (g_sc_paidFor a x g.1 g.2.1, (some (.int (w_sc_paidFor a x g.1 g.2.1)), (g.1, g.2.1, g.2.2))) else none
  | _ => none
theorem k_sc_paidFor {X : Nat × (Nat → Int32)} : ∀ args g o, S_sc_paidFor args g = some (true, o) → zR2 X zFT zE0 (zC 87) 0 args [] g o := by
  intro args g o h
  obtain ⟨ar, fi, m1, m2, m3, m4, m5⟩ := g
  unfold S_sc_paidFor at h
  split at h
  · refine zb_el h (fun hI h1 => ?_) (fun _ h1 => by cases h1)
    have h2 := Option.some.inj h1
    have hG := congrArg Prod.fst h2
    have ho := congrArg Prod.snd h2
    clear h h1 h2
    dsimp only at hG ho
    subst ho
    try simp only [Bool.or_eq_true, Bool.and_eq_true] at hI
    rcases hI with (hI0 | hI0) | hI0
    · obtain rfl := Nat.eq_of_beq_eq_true hI0
      exact zseg_ret (e_sc_paidFor_2 hG)
    · obtain rfl := Nat.eq_of_beq_eq_true hI0
      exact zseg_ret (e_sc_paidFor_9 hG)
    · obtain rfl := Nat.eq_of_beq_eq_true hI0
      exact zseg_ret (e_sc_paidFor_16 hG)
  · cases h
def w_tx_isGood (a : Nat) (ar fi : Nat → Nat → Int32) : Int32 := bif Nat.beq a 40 then (bif !decide (fi 40 2 = 0) then 0 else 1) else bif Nat.beq a 44 then (bif !decide (fi 44 2 = 0) then 0 else 1) else (bif !decide (fi 47 2 = 0) then 0 else 1)
set_option maxRecDepth 10000 in
theorem t_tx_isGood_40 {X : Nat × (Nat → Int32)} {ar fi : Nat → Nat → Int32} {m1 m2 m4 m5 : Nat} : zseg X zFT zE0 zc_91 (fun _ => false) 400 0 [.ref 40] [] (ar, fi, (m1, m2, 1, m4, m5)) = (
  bif !decide (fi 40 2 = 0) then
   some (.inr (some (.int 0), (ar, fi, (m1, m2, 1, m4, m5))))
  else
   some (.inr (some (.int 1), (ar, fi, (m1, m2, 1, m4, m5)))) : Option ((Nat × List Value × List Value × zH2) ⊕ zO2)) := rfl
theorem e_tx_isGood_40 {X : Nat × (Nat → Int32)} {ar fi : Nat → Nat → Int32} {m1 m2 m4 m5 : Nat} : zseg X zFT zE0 zc_91 (fun _ => false) 400 0 [.ref 40] [] (ar, fi, (m1, m2, 1, m4, m5)) = some (.inr (some (.int (w_tx_isGood 40 ar fi)), (ar, fi, (m1, m2, 1, m4, m5)))) := by
  rw [t_tx_isGood_40]
  show _ = (some (.inr (some (.int (bif !decide (fi 40 2 = 0) then 0 else 1)), (ar, fi, (m1, m2, 1, m4, m5)))) : Option ((Nat × List Value × List Value × zH2) ⊕ zO2))
  cases hc204 : (!decide (fi 40 2 = 0)) with
  | true =>
    try simp only [hc204, cond_true, cond_false]
    all_goals rfl
  | false =>
    try simp only [hc204, cond_true, cond_false]
    all_goals rfl
set_option maxRecDepth 10000 in
theorem t_tx_isGood_44 {X : Nat × (Nat → Int32)} {ar fi : Nat → Nat → Int32} {m1 m2 m3 m5 : Nat} : zseg X zFT zE0 zc_91 (fun _ => false) 400 0 [.ref 44] [] (ar, fi, (m1, m2, m3, 1, m5)) = (
  bif !decide (fi 44 2 = 0) then
   some (.inr (some (.int 0), (ar, fi, (m1, m2, m3, 1, m5))))
  else
   some (.inr (some (.int 1), (ar, fi, (m1, m2, m3, 1, m5)))) : Option ((Nat × List Value × List Value × zH2) ⊕ zO2)) := rfl
theorem e_tx_isGood_44 {X : Nat × (Nat → Int32)} {ar fi : Nat → Nat → Int32} {m1 m2 m3 m5 : Nat} : zseg X zFT zE0 zc_91 (fun _ => false) 400 0 [.ref 44] [] (ar, fi, (m1, m2, m3, 1, m5)) = some (.inr (some (.int (w_tx_isGood 44 ar fi)), (ar, fi, (m1, m2, m3, 1, m5)))) := by
  rw [t_tx_isGood_44]
  show _ = (some (.inr (some (.int (bif !decide (fi 44 2 = 0) then 0 else 1)), (ar, fi, (m1, m2, m3, 1, m5)))) : Option ((Nat × List Value × List Value × zH2) ⊕ zO2))
  cases hc205 : (!decide (fi 44 2 = 0)) with
  | true =>
    try simp only [hc205, cond_true, cond_false]
    all_goals rfl
  | false =>
    try simp only [hc205, cond_true, cond_false]
    all_goals rfl
set_option maxRecDepth 10000 in
theorem t_tx_isGood_47 {X : Nat × (Nat → Int32)} {ar fi : Nat → Nat → Int32} {m1 m2 m3 m4 : Nat} : zseg X zFT zE0 zc_91 (fun _ => false) 400 0 [.ref 47] [] (ar, fi, (m1, m2, m3, m4, 1)) = (
  bif !decide (fi 47 2 = 0) then
   some (.inr (some (.int 0), (ar, fi, (m1, m2, m3, m4, 1))))
  else
   some (.inr (some (.int 1), (ar, fi, (m1, m2, m3, m4, 1)))) : Option ((Nat × List Value × List Value × zH2) ⊕ zO2)) := rfl
theorem e_tx_isGood_47 {X : Nat × (Nat → Int32)} {ar fi : Nat → Nat → Int32} {m1 m2 m3 m4 : Nat} : zseg X zFT zE0 zc_91 (fun _ => false) 400 0 [.ref 47] [] (ar, fi, (m1, m2, m3, m4, 1)) = some (.inr (some (.int (w_tx_isGood 47 ar fi)), (ar, fi, (m1, m2, m3, m4, 1)))) := by
  rw [t_tx_isGood_47]
  show _ = (some (.inr (some (.int (bif !decide (fi 47 2 = 0) then 0 else 1)), (ar, fi, (m1, m2, m3, m4, 1)))) : Option ((Nat × List Value × List Value × zH2) ⊕ zO2))
  cases hc206 : (!decide (fi 47 2 = 0)) with
  | true =>
    try simp only [hc206, cond_true, cond_false]
    all_goals rfl
  | false =>
    try simp only [hc206, cond_true, cond_false]
    all_goals rfl
def S_tx_isGood : zSp := fun as g => match as with
  | [.ref a] => bif ((Nat.beq a 40 && Nat.beq g.2.2.2.2.1 1) || (Nat.beq a 44 && Nat.beq g.2.2.2.2.2.1 1) || (Nat.beq a 47 && Nat.beq g.2.2.2.2.2.2 1)) then some (true, (some (.int (w_tx_isGood a g.1 g.2.1)), (g.1, g.2.1, g.2.2))) else none
  | _ => none
theorem k_tx_isGood {X : Nat × (Nat → Int32)} : ∀ args g o, S_tx_isGood args g = some (true, o) → zR2 X zFT zE0 (zC 91) 0 args [] g o := by
  intro args g o h
  obtain ⟨ar, fi, m1, m2, m3, m4, m5⟩ := g
  unfold S_tx_isGood at h
  split at h
  · refine zb_el h (fun hI h1 => ?_) (fun _ h1 => by cases h1)
    have h2 := Option.some.inj h1
    have hG := congrArg Prod.fst h2
    have ho := congrArg Prod.snd h2
    clear h h1 h2
    dsimp only at hG ho
    subst ho
    try simp only [Bool.or_eq_true, Bool.and_eq_true] at hI
    rcases hI with (⟨hI0, hI1⟩ | ⟨hI0, hI1⟩) | ⟨hI0, hI1⟩
    · obtain rfl := Nat.eq_of_beq_eq_true hI0
      have hM : m3 = 1 := Nat.eq_of_beq_eq_true hI1
      subst hM
      exact zseg_ret (e_tx_isGood_40)
    · obtain rfl := Nat.eq_of_beq_eq_true hI0
      have hM : m4 = 1 := Nat.eq_of_beq_eq_true hI1
      subst hM
      exact zseg_ret (e_tx_isGood_44)
    · obtain rfl := Nat.eq_of_beq_eq_true hI0
      have hM : m5 = 1 := Nat.eq_of_beq_eq_true hI1
      subst hM
      exact zseg_ret (e_tx_isGood_47)
  · cases h
def w_tx_isAtEnd (a : Nat) (ar fi : Nat → Nat → Int32) : Int32 := bif Nat.beq a 40 then (bif decide (fi 40 4 < fi 40 1) then 0 else 1) else bif Nat.beq a 44 then (bif decide (fi 44 4 < fi 44 1) then 0 else 1) else (bif decide (fi 47 4 < fi 47 1) then 0 else 1)
set_option maxRecDepth 10000 in
theorem t_tx_isAtEnd_40 {X : Nat × (Nat → Int32)} {ar fi : Nat → Nat → Int32} {m1 m2 m4 m5 : Nat} : zseg X zFT zE0 zc_92 (fun _ => false) 400 0 [.ref 40] [] (ar, fi, (m1, m2, 1, m4, m5)) = (
  bif decide (fi 40 4 < fi 40 1) then
   some (.inr (some (.int 0), (ar, fi, (m1, m2, 1, m4, m5))))
  else
   some (.inr (some (.int 1), (ar, fi, (m1, m2, 1, m4, m5)))) : Option ((Nat × List Value × List Value × zH2) ⊕ zO2)) := rfl
theorem e_tx_isAtEnd_40 {X : Nat × (Nat → Int32)} {ar fi : Nat → Nat → Int32} {m1 m2 m4 m5 : Nat} : zseg X zFT zE0 zc_92 (fun _ => false) 400 0 [.ref 40] [] (ar, fi, (m1, m2, 1, m4, m5)) = some (.inr (some (.int (w_tx_isAtEnd 40 ar fi)), (ar, fi, (m1, m2, 1, m4, m5)))) := by
  rw [t_tx_isAtEnd_40]
  show _ = (some (.inr (some (.int (bif decide (fi 40 4 < fi 40 1) then 0 else 1)), (ar, fi, (m1, m2, 1, m4, m5)))) : Option ((Nat × List Value × List Value × zH2) ⊕ zO2))
  cases hc207 : (decide (fi 40 4 < fi 40 1)) with
  | true =>
    try simp only [hc207, cond_true, cond_false]
    all_goals rfl
  | false =>
    try simp only [hc207, cond_true, cond_false]
    all_goals rfl
set_option maxRecDepth 10000 in
theorem t_tx_isAtEnd_44 {X : Nat × (Nat → Int32)} {ar fi : Nat → Nat → Int32} {m1 m2 m3 m5 : Nat} : zseg X zFT zE0 zc_92 (fun _ => false) 400 0 [.ref 44] [] (ar, fi, (m1, m2, m3, 1, m5)) = (
  bif decide (fi 44 4 < fi 44 1) then
   some (.inr (some (.int 0), (ar, fi, (m1, m2, m3, 1, m5))))
  else
   some (.inr (some (.int 1), (ar, fi, (m1, m2, m3, 1, m5)))) : Option ((Nat × List Value × List Value × zH2) ⊕ zO2)) := rfl
theorem e_tx_isAtEnd_44 {X : Nat × (Nat → Int32)} {ar fi : Nat → Nat → Int32} {m1 m2 m3 m5 : Nat} : zseg X zFT zE0 zc_92 (fun _ => false) 400 0 [.ref 44] [] (ar, fi, (m1, m2, m3, 1, m5)) = some (.inr (some (.int (w_tx_isAtEnd 44 ar fi)), (ar, fi, (m1, m2, m3, 1, m5)))) := by
  rw [t_tx_isAtEnd_44]
  show _ = (some (.inr (some (.int (bif decide (fi 44 4 < fi 44 1) then 0 else 1)), (ar, fi, (m1, m2, m3, 1, m5)))) : Option ((Nat × List Value × List Value × zH2) ⊕ zO2))
  cases hc208 : (decide (fi 44 4 < fi 44 1)) with
  | true =>
    try simp only [hc208, cond_true, cond_false]
    all_goals rfl
  | false =>
    try simp only [hc208, cond_true, cond_false]
    all_goals rfl
set_option maxRecDepth 10000 in
theorem t_tx_isAtEnd_47 {X : Nat × (Nat → Int32)} {ar fi : Nat → Nat → Int32} {m1 m2 m3 m4 : Nat} : zseg X zFT zE0 zc_92 (fun _ => false) 400 0 [.ref 47] [] (ar, fi, (m1, m2, m3, m4, 1)) = (
  bif decide (fi 47 4 < fi 47 1) then
   some (.inr (some (.int 0), (ar, fi, (m1, m2, m3, m4, 1))))
  else
   some (.inr (some (.int 1), (ar, fi, (m1, m2, m3, m4, 1)))) : Option ((Nat × List Value × List Value × zH2) ⊕ zO2)) := rfl
theorem e_tx_isAtEnd_47 {X : Nat × (Nat → Int32)} {ar fi : Nat → Nat → Int32} {m1 m2 m3 m4 : Nat} : zseg X zFT zE0 zc_92 (fun _ => false) 400 0 [.ref 47] [] (ar, fi, (m1, m2, m3, m4, 1)) = some (.inr (some (.int (w_tx_isAtEnd 47 ar fi)), (ar, fi, (m1, m2, m3, m4, 1)))) := by
  rw [t_tx_isAtEnd_47]
  show _ = (some (.inr (some (.int (bif decide (fi 47 4 < fi 47 1) then 0 else 1)), (ar, fi, (m1, m2, m3, m4, 1)))) : Option ((Nat × List Value × List Value × zH2) ⊕ zO2))
  cases hc209 : (decide (fi 47 4 < fi 47 1)) with
  | true =>
    try simp only [hc209, cond_true, cond_false]
    all_goals rfl
  | false =>
    try simp only [hc209, cond_true, cond_false]
    all_goals rfl
def S_tx_isAtEnd : zSp := fun as g => match as with
  | [.ref a] => bif ((Nat.beq a 40 && Nat.beq g.2.2.2.2.1 1) || (Nat.beq a 44 && Nat.beq g.2.2.2.2.2.1 1) || (Nat.beq a 47 && Nat.beq g.2.2.2.2.2.2 1)) then some (true, (some (.int (w_tx_isAtEnd a g.1 g.2.1)), (g.1, g.2.1, g.2.2))) else none
  | _ => none
theorem k_tx_isAtEnd {X : Nat × (Nat → Int32)} : ∀ args g o, S_tx_isAtEnd args g = some (true, o) → zR2 X zFT zE0 (zC 92) 0 args [] g o := by
  intro args g o h
  obtain ⟨ar, fi, m1, m2, m3, m4, m5⟩ := g
  unfold S_tx_isAtEnd at h
  split at h
  · refine zb_el h (fun hI h1 => ?_) (fun _ h1 => by cases h1)
    have h2 := Option.some.inj h1
    have hG := congrArg Prod.fst h2
    have ho := congrArg Prod.snd h2
    clear h h1 h2
    dsimp only at hG ho
    subst ho
    try simp only [Bool.or_eq_true, Bool.and_eq_true] at hI
    rcases hI with (⟨hI0, hI1⟩ | ⟨hI0, hI1⟩) | ⟨hI0, hI1⟩
    · obtain rfl := Nat.eq_of_beq_eq_true hI0
      have hM : m3 = 1 := Nat.eq_of_beq_eq_true hI1
      subst hM
      exact zseg_ret (e_tx_isAtEnd_40)
    · obtain rfl := Nat.eq_of_beq_eq_true hI0
      have hM : m4 = 1 := Nat.eq_of_beq_eq_true hI1
      subst hM
      exact zseg_ret (e_tx_isAtEnd_44)
    · obtain rfl := Nat.eq_of_beq_eq_true hI0
      have hM : m5 = 1 := Nat.eq_of_beq_eq_true hI1
      subst hM
      exact zseg_ret (e_tx_isAtEnd_47)
  · cases h
def w_tx_sign (a : Nat) (ar fi : Nat → Nat → Int32) : Int32 := bif Nat.beq a 40 then (bif !decide (fi 40 2 = 0) then (-1) else (bif decide (fi 40 4 < 0) then (-1) else (bif decide (fi 40 1 ≤ fi 40 4) then (-1) else (ar 1) ((fi 40 4).toNatClampNeg)))) else bif Nat.beq a 44 then (bif !decide (fi 44 2 = 0) then (-1) else (bif decide (fi 44 4 < 0) then (-1) else (bif decide (fi 44 1 ≤ fi 44 4) then (-1) else (ar 1) ((fi 44 4).toNatClampNeg)))) else (bif !decide (fi 47 2 = 0) then (-1) else (bif decide (fi 47 4 < 0) then (-1) else (bif decide (fi 47 1 ≤ fi 47 4) then (-1) else (ar 1) ((fi 47 4).toNatClampNeg))))
def g_tx_sign (a : Nat) (ar fi : Nat → Nat → Int32) : Bool := bif Nat.beq a 40 then bif !decide (fi 40 2 = 0) then true else bif decide (fi 40 4 < 0) then true else bif decide (fi 40 1 ≤ fi 40 4) then true else zin (fi 40 4) 260 else bif Nat.beq a 44 then bif !decide (fi 44 2 = 0) then true else bif decide (fi 44 4 < 0) then true else bif decide (fi 44 1 ≤ fi 44 4) then true else zin (fi 44 4) 260 else bif !decide (fi 47 2 = 0) then true else bif decide (fi 47 4 < 0) then true else bif decide (fi 47 1 ≤ fi 47 4) then true else zin (fi 47 4) 260
set_option maxRecDepth 10000 in
theorem t_tx_sign_40 {X : Nat × (Nat → Int32)} {ar fi : Nat → Nat → Int32} {m1 m2 m4 m5 : Nat} : zseg X zFT zE0 zc_93 (fun _ => false) 400 0 [.ref 40] [] (ar, fi, (m1, m2, 1, m4, m5)) = (
  bif !decide (fi 40 2 = 0) then
   some (.inr (some (.int (-1)), (ar, fi, (m1, m2, 1, m4, m5))))
  else
   bif decide (fi 40 4 < 0) then
    some (.inr (some (.int (-1)), (ar, fi, (m1, m2, 1, m4, m5))))
   else
    bif decide (fi 40 1 ≤ fi 40 4) then
     some (.inr (some (.int (-1)), (ar, fi, (m1, m2, 1, m4, m5))))
    else
     zg (zin (fi 40 4) 260) (
     some (.inr (some (.int ((ar 1) ((fi 40 4).toNatClampNeg))), (ar, fi, (m1, m2, 1, m4, m5))))) : Option ((Nat × List Value × List Value × zH2) ⊕ zO2)) := rfl
theorem e_tx_sign_40 {X : Nat × (Nat → Int32)} {ar fi : Nat → Nat → Int32} {m1 m2 m4 m5 : Nat} (hG : g_tx_sign 40 ar fi = true) : zseg X zFT zE0 zc_93 (fun _ => false) 400 0 [.ref 40] [] (ar, fi, (m1, m2, 1, m4, m5)) = some (.inr (some (.int (w_tx_sign 40 ar fi)), (ar, fi, (m1, m2, 1, m4, m5)))) := by
  rw [t_tx_sign_40]
  have hG : (bif !decide (fi 40 2 = 0) then true else bif decide (fi 40 4 < 0) then true else bif decide (fi 40 1 ≤ fi 40 4) then true else zin (fi 40 4) 260) = true := hG
  show _ = (some (.inr (some (.int (bif !decide (fi 40 2 = 0) then (-1) else (bif decide (fi 40 4 < 0) then (-1) else (bif decide (fi 40 1 ≤ fi 40 4) then (-1) else (ar 1) ((fi 40 4).toNatClampNeg))))), (ar, fi, (m1, m2, 1, m4, m5)))) : Option ((Nat × List Value × List Value × zH2) ⊕ zO2))
  cases hc210 : (!decide (fi 40 2 = 0)) with
  | true =>
    try simp only [hc210, cond_true, cond_false] at hG ⊢
    all_goals first | rfl | (simp only [zg, hG, cond_true]; done) | (simp only [Bool.and_eq_true, Bool.true_and, Bool.and_true] at hG; simp only [zg, hG, cond_true]; done)
  | false =>
    try simp only [hc210, cond_true, cond_false] at hG ⊢
    cases hc211 : (decide (fi 40 4 < 0)) with
    | true =>
      try simp only [hc211, cond_true, cond_false] at hG ⊢
      all_goals first | rfl | (simp only [zg, hG, cond_true]; done) | (simp only [Bool.and_eq_true, Bool.true_and, Bool.and_true] at hG; simp only [zg, hG, cond_true]; done)
    | false =>
      try simp only [hc211, cond_true, cond_false] at hG ⊢
      cases hc212 : (decide (fi 40 1 ≤ fi 40 4)) with
      | true =>
        try simp only [hc212, cond_true, cond_false] at hG ⊢
        all_goals first | rfl | (simp only [zg, hG, cond_true]; done) | (simp only [Bool.and_eq_true, Bool.true_and, Bool.and_true] at hG; simp only [zg, hG, cond_true]; done)
      | false =>
        try simp only [hc212, cond_true, cond_false] at hG ⊢
        all_goals first | rfl | (simp only [zg, hG, cond_true]; done) | (simp only [Bool.and_eq_true, Bool.true_and, Bool.and_true] at hG; simp only [zg, hG, cond_true]; done)
set_option maxRecDepth 10000 in
theorem t_tx_sign_44 {X : Nat × (Nat → Int32)} {ar fi : Nat → Nat → Int32} {m1 m2 m3 m5 : Nat} : zseg X zFT zE0 zc_93 (fun _ => false) 400 0 [.ref 44] [] (ar, fi, (m1, m2, m3, 1, m5)) = (
  bif !decide (fi 44 2 = 0) then
   some (.inr (some (.int (-1)), (ar, fi, (m1, m2, m3, 1, m5))))
  else
   bif decide (fi 44 4 < 0) then
    some (.inr (some (.int (-1)), (ar, fi, (m1, m2, m3, 1, m5))))
   else
    bif decide (fi 44 1 ≤ fi 44 4) then
     some (.inr (some (.int (-1)), (ar, fi, (m1, m2, m3, 1, m5))))
    else
     zg (zin (fi 44 4) 260) (
     some (.inr (some (.int ((ar 1) ((fi 44 4).toNatClampNeg))), (ar, fi, (m1, m2, m3, 1, m5))))) : Option ((Nat × List Value × List Value × zH2) ⊕ zO2)) := rfl
theorem e_tx_sign_44 {X : Nat × (Nat → Int32)} {ar fi : Nat → Nat → Int32} {m1 m2 m3 m5 : Nat} (hG : g_tx_sign 44 ar fi = true) : zseg X zFT zE0 zc_93 (fun _ => false) 400 0 [.ref 44] [] (ar, fi, (m1, m2, m3, 1, m5)) = some (.inr (some (.int (w_tx_sign 44 ar fi)), (ar, fi, (m1, m2, m3, 1, m5)))) := by
  rw [t_tx_sign_44]
  have hG : (bif !decide (fi 44 2 = 0) then true else bif decide (fi 44 4 < 0) then true else bif decide (fi 44 1 ≤ fi 44 4) then true else zin (fi 44 4) 260) = true := hG
  show _ = (some (.inr (some (.int (bif !decide (fi 44 2 = 0) then (-1) else (bif decide (fi 44 4 < 0) then (-1) else (bif decide (fi 44 1 ≤ fi 44 4) then (-1) else (ar 1) ((fi 44 4).toNatClampNeg))))), (ar, fi, (m1, m2, m3, 1, m5)))) : Option ((Nat × List Value × List Value × zH2) ⊕ zO2))
  cases hc213 : (!decide (fi 44 2 = 0)) with
  | true =>
    try simp only [hc213, cond_true, cond_false] at hG ⊢
    all_goals first | rfl | (simp only [zg, hG, cond_true]; done) | (simp only [Bool.and_eq_true, Bool.true_and, Bool.and_true] at hG; simp only [zg, hG, cond_true]; done)
  | false =>
    try simp only [hc213, cond_true, cond_false] at hG ⊢
    cases hc214 : (decide (fi 44 4 < 0)) with
    | true =>
      try simp only [hc214, cond_true, cond_false] at hG ⊢
      all_goals first | rfl | (simp only [zg, hG, cond_true]; done) | (simp only [Bool.and_eq_true, Bool.true_and, Bool.and_true] at hG; simp only [zg, hG, cond_true]; done)
    | false =>
      try simp only [hc214, cond_true, cond_false] at hG ⊢
      cases hc215 : (decide (fi 44 1 ≤ fi 44 4)) with
      | true =>
        try simp only [hc215, cond_true, cond_false] at hG ⊢
        all_goals first | rfl | (simp only [zg, hG, cond_true]; done) | (simp only [Bool.and_eq_true, Bool.true_and, Bool.and_true] at hG; simp only [zg, hG, cond_true]; done)
      | false =>
        try simp only [hc215, cond_true, cond_false] at hG ⊢
        all_goals first | rfl | (simp only [zg, hG, cond_true]; done) | (simp only [Bool.and_eq_true, Bool.true_and, Bool.and_true] at hG; simp only [zg, hG, cond_true]; done)
set_option maxRecDepth 10000 in
theorem t_tx_sign_47 {X : Nat × (Nat → Int32)} {ar fi : Nat → Nat → Int32} {m1 m2 m3 m4 : Nat} : zseg X zFT zE0 zc_93 (fun _ => false) 400 0 [.ref 47] [] (ar, fi, (m1, m2, m3, m4, 1)) = (
  bif !decide (fi 47 2 = 0) then
   some (.inr (some (.int (-1)), (ar, fi, (m1, m2, m3, m4, 1))))
  else
   bif decide (fi 47 4 < 0) then
    some (.inr (some (.int (-1)), (ar, fi, (m1, m2, m3, m4, 1))))
   else
    bif decide (fi 47 1 ≤ fi 47 4) then
     some (.inr (some (.int (-1)), (ar, fi, (m1, m2, m3, m4, 1))))
    else
     zg (zin (fi 47 4) 260) (
     some (.inr (some (.int ((ar 1) ((fi 47 4).toNatClampNeg))), (ar, fi, (m1, m2, m3, m4, 1))))) : Option ((Nat × List Value × List Value × zH2) ⊕ zO2)) := rfl
theorem e_tx_sign_47 {X : Nat × (Nat → Int32)} {ar fi : Nat → Nat → Int32} {m1 m2 m3 m4 : Nat} (hG : g_tx_sign 47 ar fi = true) : zseg X zFT zE0 zc_93 (fun _ => false) 400 0 [.ref 47] [] (ar, fi, (m1, m2, m3, m4, 1)) = some (.inr (some (.int (w_tx_sign 47 ar fi)), (ar, fi, (m1, m2, m3, m4, 1)))) := by
  rw [t_tx_sign_47]
  have hG : (bif !decide (fi 47 2 = 0) then true else bif decide (fi 47 4 < 0) then true else bif decide (fi 47 1 ≤ fi 47 4) then true else zin (fi 47 4) 260) = true := hG
  show _ = (some (.inr (some (.int (bif !decide (fi 47 2 = 0) then (-1) else (bif decide (fi 47 4 < 0) then (-1) else (bif decide (fi 47 1 ≤ fi 47 4) then (-1) else (ar 1) ((fi 47 4).toNatClampNeg))))), (ar, fi, (m1, m2, m3, m4, 1)))) : Option ((Nat × List Value × List Value × zH2) ⊕ zO2))
  cases hc216 : (!decide (fi 47 2 = 0)) with
  | true =>
    try simp only [hc216, cond_true, cond_false] at hG ⊢
    all_goals first | rfl | (simp only [zg, hG, cond_true]; done) | (simp only [Bool.and_eq_true, Bool.true_and, Bool.and_true] at hG; simp only [zg, hG, cond_true]; done)
  | false =>
    try simp only [hc216, cond_true, cond_false] at hG ⊢
    cases hc217 : (decide (fi 47 4 < 0)) with
    | true =>
      try simp only [hc217, cond_true, cond_false] at hG ⊢
      all_goals first | rfl | (simp only [zg, hG, cond_true]; done) | (simp only [Bool.and_eq_true, Bool.true_and, Bool.and_true] at hG; simp only [zg, hG, cond_true]; done)
    | false =>
      try simp only [hc217, cond_true, cond_false] at hG ⊢
      cases hc218 : (decide (fi 47 1 ≤ fi 47 4)) with
      | true =>
        try simp only [hc218, cond_true, cond_false] at hG ⊢
        all_goals first | rfl | (simp only [zg, hG, cond_true]; done) | (simp only [Bool.and_eq_true, Bool.true_and, Bool.and_true] at hG; simp only [zg, hG, cond_true]; done)
      | false =>
        try simp only [hc218, cond_true, cond_false] at hG ⊢
        all_goals first | rfl | (simp only [zg, hG, cond_true]; done) | (simp only [Bool.and_eq_true, Bool.true_and, Bool.and_true] at hG; simp only [zg, hG, cond_true]; done)
def S_tx_sign : zSp := fun as g => match as with
  | [.ref a] => bif ((Nat.beq a 40 && Nat.beq g.2.2.2.2.1 1) || (Nat.beq a 44 && Nat.beq g.2.2.2.2.2.1 1) || (Nat.beq a 47 && Nat.beq g.2.2.2.2.2.2 1)) then some (g_tx_sign a g.1 g.2.1, (some (.int (w_tx_sign a g.1 g.2.1)), (g.1, g.2.1, g.2.2))) else none
  | _ => none
theorem k_tx_sign {X : Nat × (Nat → Int32)} : ∀ args g o, S_tx_sign args g = some (true, o) → zR2 X zFT zE0 (zC 93) 0 args [] g o := by
  intro args g o h
  obtain ⟨ar, fi, m1, m2, m3, m4, m5⟩ := g
  unfold S_tx_sign at h
  split at h
  · refine zb_el h (fun hI h1 => ?_) (fun _ h1 => by cases h1)
    have h2 := Option.some.inj h1
    have hG := congrArg Prod.fst h2
    have ho := congrArg Prod.snd h2
    clear h h1 h2
    dsimp only at hG ho
    subst ho
    try simp only [Bool.or_eq_true, Bool.and_eq_true] at hI
    rcases hI with (⟨hI0, hI1⟩ | ⟨hI0, hI1⟩) | ⟨hI0, hI1⟩
    · obtain rfl := Nat.eq_of_beq_eq_true hI0
      have hM : m3 = 1 := Nat.eq_of_beq_eq_true hI1
      subst hM
      exact zseg_ret (e_tx_sign_40 hG)
    · obtain rfl := Nat.eq_of_beq_eq_true hI0
      have hM : m4 = 1 := Nat.eq_of_beq_eq_true hI1
      subst hM
      exact zseg_ret (e_tx_sign_44 hG)
    · obtain rfl := Nat.eq_of_beq_eq_true hI0
      have hM : m5 = 1 := Nat.eq_of_beq_eq_true hI1
      subst hM
      exact zseg_ret (e_tx_sign_47 hG)
  · cases h
def f_tx_skip (a : Nat) (ar fi : Nat → Nat → Int32) : Nat → Nat → Int32 := bif Nat.beq a 40 then (zup fi 40 (zup (fi 40) 4 ((fi 40 4) + 1))) else bif Nat.beq a 44 then (zup fi 44 (zup (fi 44) 4 ((fi 44 4) + 1))) else (zup fi 47 (zup (fi 47) 4 ((fi 47 4) + 1)))
set_option maxRecDepth 10000 in
theorem t_tx_skip_40 {X : Nat × (Nat → Int32)} {ar fi : Nat → Nat → Int32} {m1 m2 m4 m5 : Nat} : zseg X zFT zE0 zc_95 (fun _ => false) 400 0 [.ref 40] [] (ar, fi, (m1, m2, 1, m4, m5)) = (
  some (.inr (none, (ar, (zup fi 40 (zup (fi 40) 4 ((fi 40 4) + 1))), (m1, m2, 1, m4, m5)))) : Option ((Nat × List Value × List Value × zH2) ⊕ zO2)) := rfl
theorem e_tx_skip_40 {X : Nat × (Nat → Int32)} {ar fi : Nat → Nat → Int32} {m1 m2 m4 m5 : Nat} : zseg X zFT zE0 zc_95 (fun _ => false) 400 0 [.ref 40] [] (ar, fi, (m1, m2, 1, m4, m5)) = some (.inr (none, (ar, f_tx_skip 40 ar fi, (m1, m2, 1, m4, m5)))) := by
  rw [t_tx_skip_40]
  show _ = (some (.inr (none, (ar, (zup fi 40 (zup (fi 40) 4 ((fi 40 4) + 1))), (m1, m2, 1, m4, m5)))) : Option ((Nat × List Value × List Value × zH2) ⊕ zO2))
  all_goals rfl
set_option maxRecDepth 10000 in
theorem t_tx_skip_44 {X : Nat × (Nat → Int32)} {ar fi : Nat → Nat → Int32} {m1 m2 m3 m5 : Nat} : zseg X zFT zE0 zc_95 (fun _ => false) 400 0 [.ref 44] [] (ar, fi, (m1, m2, m3, 1, m5)) = (
  some (.inr (none, (ar, (zup fi 44 (zup (fi 44) 4 ((fi 44 4) + 1))), (m1, m2, m3, 1, m5)))) : Option ((Nat × List Value × List Value × zH2) ⊕ zO2)) := rfl
theorem e_tx_skip_44 {X : Nat × (Nat → Int32)} {ar fi : Nat → Nat → Int32} {m1 m2 m3 m5 : Nat} : zseg X zFT zE0 zc_95 (fun _ => false) 400 0 [.ref 44] [] (ar, fi, (m1, m2, m3, 1, m5)) = some (.inr (none, (ar, f_tx_skip 44 ar fi, (m1, m2, m3, 1, m5)))) := by
  rw [t_tx_skip_44]
  show _ = (some (.inr (none, (ar, (zup fi 44 (zup (fi 44) 4 ((fi 44 4) + 1))), (m1, m2, m3, 1, m5)))) : Option ((Nat × List Value × List Value × zH2) ⊕ zO2))
  all_goals rfl
set_option maxRecDepth 10000 in
theorem t_tx_skip_47 {X : Nat × (Nat → Int32)} {ar fi : Nat → Nat → Int32} {m1 m2 m3 m4 : Nat} : zseg X zFT zE0 zc_95 (fun _ => false) 400 0 [.ref 47] [] (ar, fi, (m1, m2, m3, m4, 1)) = (
  some (.inr (none, (ar, (zup fi 47 (zup (fi 47) 4 ((fi 47 4) + 1))), (m1, m2, m3, m4, 1)))) : Option ((Nat × List Value × List Value × zH2) ⊕ zO2)) := rfl
theorem e_tx_skip_47 {X : Nat × (Nat → Int32)} {ar fi : Nat → Nat → Int32} {m1 m2 m3 m4 : Nat} : zseg X zFT zE0 zc_95 (fun _ => false) 400 0 [.ref 47] [] (ar, fi, (m1, m2, m3, m4, 1)) = some (.inr (none, (ar, f_tx_skip 47 ar fi, (m1, m2, m3, m4, 1)))) := by
  rw [t_tx_skip_47]
  show _ = (some (.inr (none, (ar, (zup fi 47 (zup (fi 47) 4 ((fi 47 4) + 1))), (m1, m2, m3, m4, 1)))) : Option ((Nat × List Value × List Value × zH2) ⊕ zO2))
  all_goals rfl
def S_tx_skip : zSp := fun as g => match as with
  | [.ref a] => bif ((Nat.beq a 40 && Nat.beq g.2.2.2.2.1 1) || (Nat.beq a 44 && Nat.beq g.2.2.2.2.2.1 1) || (Nat.beq a 47 && Nat.beq g.2.2.2.2.2.2 1)) then some (true, (none, (g.1, f_tx_skip a g.1 g.2.1, g.2.2))) else none
  | _ => none
theorem k_tx_skip {X : Nat × (Nat → Int32)} : ∀ args g o, S_tx_skip args g = some (true, o) → zR2 X zFT zE0 (zC 95) 0 args [] g o := by
  intro args g o h
  obtain ⟨ar, fi, m1, m2, m3, m4, m5⟩ := g
  unfold S_tx_skip at h
  split at h
  · refine zb_el h (fun hI h1 => ?_) (fun _ h1 => by cases h1)
    have h2 := Option.some.inj h1
    have hG := congrArg Prod.fst h2
    have ho := congrArg Prod.snd h2
    clear h h1 h2
    dsimp only at hG ho
    subst ho
    try simp only [Bool.or_eq_true, Bool.and_eq_true] at hI
    rcases hI with (⟨hI0, hI1⟩ | ⟨hI0, hI1⟩) | ⟨hI0, hI1⟩
    · obtain rfl := Nat.eq_of_beq_eq_true hI0
      have hM : m3 = 1 := Nat.eq_of_beq_eq_true hI1
      subst hM
      exact zseg_ret (e_tx_skip_40)
    · obtain rfl := Nat.eq_of_beq_eq_true hI0
      have hM : m4 = 1 := Nat.eq_of_beq_eq_true hI1
      subst hM
      exact zseg_ret (e_tx_skip_44)
    · obtain rfl := Nat.eq_of_beq_eq_true hI0
      have hM : m5 = 1 := Nat.eq_of_beq_eq_true hI1
      subst hM
      exact zseg_ret (e_tx_skip_47)
  · cases h
def f_tx_fail (a : Nat) (x : Int32) (y : Int32) (ar fi : Nat → Nat → Int32) : Nat → Nat → Int32 := bif Nat.beq a 40 then (bif !decide (fi 40 2 = 0) then fi else (zup (zup fi 40 (zup (fi 40) 2 x)) 40 (zup ((zup fi 40 (zup (fi 40) 2 x)) 40) 3 y))) else bif Nat.beq a 44 then (bif !decide (fi 44 2 = 0) then fi else (zup (zup fi 44 (zup (fi 44) 2 x)) 44 (zup ((zup fi 44 (zup (fi 44) 2 x)) 44) 3 y))) else (bif !decide (fi 47 2 = 0) then fi else (zup (zup fi 47 (zup (fi 47) 2 x)) 47 (zup ((zup fi 47 (zup (fi 47) 2 x)) 47) 3 y)))
set_option maxRecDepth 10000 in
theorem t_tx_fail_40 {X : Nat × (Nat → Int32)} {ar fi : Nat → Nat → Int32} {m1 m2 m4 m5 : Nat} {x y : Int32} : zseg X zFT zE0 zc_97 (fun _ => false) 400 0 [.ref 40, .int x, .int y] [] (ar, fi, (m1, m2, 1, m4, m5)) = (
  bif !decide (fi 40 2 = 0) then
   some (.inr (none, (ar, fi, (m1, m2, 1, m4, m5))))
  else
   some (.inr (none, (ar, (zup (zup fi 40 (zup (fi 40) 2 x)) 40 (zup ((zup fi 40 (zup (fi 40) 2 x)) 40) 3 y)), (m1, m2, 1, m4, m5)))) : Option ((Nat × List Value × List Value × zH2) ⊕ zO2)) := rfl
theorem e_tx_fail_40 {X : Nat × (Nat → Int32)} {ar fi : Nat → Nat → Int32} {m1 m2 m4 m5 : Nat} {x y : Int32} : zseg X zFT zE0 zc_97 (fun _ => false) 400 0 [.ref 40, .int x, .int y] [] (ar, fi, (m1, m2, 1, m4, m5)) = some (.inr (none, (ar, f_tx_fail 40 x y ar fi, (m1, m2, 1, m4, m5)))) := by
  rw [t_tx_fail_40]
  show _ = (some (.inr (none, (ar, (bif !decide (fi 40 2 = 0) then fi else (zup (zup fi 40 (zup (fi 40) 2 x)) 40 (zup ((zup fi 40 (zup (fi 40) 2 x)) 40) 3 y))), (m1, m2, 1, m4, m5)))) : Option ((Nat × List Value × List Value × zH2) ⊕ zO2))
  cases hc219 : (!decide (fi 40 2 = 0)) with
  | true =>
    try simp only [hc219, cond_true, cond_false]
    all_goals rfl
  | false =>
    try simp only [hc219, cond_true, cond_false]
    all_goals rfl
set_option maxRecDepth 10000 in
theorem t_tx_fail_44 {X : Nat × (Nat → Int32)} {ar fi : Nat → Nat → Int32} {m1 m2 m3 m5 : Nat} {x y : Int32} : zseg X zFT zE0 zc_97 (fun _ => false) 400 0 [.ref 44, .int x, .int y] [] (ar, fi, (m1, m2, m3, 1, m5)) = (
  bif !decide (fi 44 2 = 0) then
   some (.inr (none, (ar, fi, (m1, m2, m3, 1, m5))))
  else
   some (.inr (none, (ar, (zup (zup fi 44 (zup (fi 44) 2 x)) 44 (zup ((zup fi 44 (zup (fi 44) 2 x)) 44) 3 y)), (m1, m2, m3, 1, m5)))) : Option ((Nat × List Value × List Value × zH2) ⊕ zO2)) := rfl
theorem e_tx_fail_44 {X : Nat × (Nat → Int32)} {ar fi : Nat → Nat → Int32} {m1 m2 m3 m5 : Nat} {x y : Int32} : zseg X zFT zE0 zc_97 (fun _ => false) 400 0 [.ref 44, .int x, .int y] [] (ar, fi, (m1, m2, m3, 1, m5)) = some (.inr (none, (ar, f_tx_fail 44 x y ar fi, (m1, m2, m3, 1, m5)))) := by
  rw [t_tx_fail_44]
  show _ = (some (.inr (none, (ar, (bif !decide (fi 44 2 = 0) then fi else (zup (zup fi 44 (zup (fi 44) 2 x)) 44 (zup ((zup fi 44 (zup (fi 44) 2 x)) 44) 3 y))), (m1, m2, m3, 1, m5)))) : Option ((Nat × List Value × List Value × zH2) ⊕ zO2))
  cases hc220 : (!decide (fi 44 2 = 0)) with
  | true =>
    try simp only [hc220, cond_true, cond_false]
    all_goals rfl
  | false =>
    try simp only [hc220, cond_true, cond_false]
    all_goals rfl
set_option maxRecDepth 10000 in
theorem t_tx_fail_47 {X : Nat × (Nat → Int32)} {ar fi : Nat → Nat → Int32} {m1 m2 m3 m4 : Nat} {x y : Int32} : zseg X zFT zE0 zc_97 (fun _ => false) 400 0 [.ref 47, .int x, .int y] [] (ar, fi, (m1, m2, m3, m4, 1)) = (
  bif !decide (fi 47 2 = 0) then
   some (.inr (none, (ar, fi, (m1, m2, m3, m4, 1))))
  else
   some (.inr (none, (ar, (zup (zup fi 47 (zup (fi 47) 2 x)) 47 (zup ((zup fi 47 (zup (fi 47) 2 x)) 47) 3 y)), (m1, m2, m3, m4, 1)))) : Option ((Nat × List Value × List Value × zH2) ⊕ zO2)) := rfl
theorem e_tx_fail_47 {X : Nat × (Nat → Int32)} {ar fi : Nat → Nat → Int32} {m1 m2 m3 m4 : Nat} {x y : Int32} : zseg X zFT zE0 zc_97 (fun _ => false) 400 0 [.ref 47, .int x, .int y] [] (ar, fi, (m1, m2, m3, m4, 1)) = some (.inr (none, (ar, f_tx_fail 47 x y ar fi, (m1, m2, m3, m4, 1)))) := by
  rw [t_tx_fail_47]
  show _ = (some (.inr (none, (ar, (bif !decide (fi 47 2 = 0) then fi else (zup (zup fi 47 (zup (fi 47) 2 x)) 47 (zup ((zup fi 47 (zup (fi 47) 2 x)) 47) 3 y))), (m1, m2, m3, m4, 1)))) : Option ((Nat × List Value × List Value × zH2) ⊕ zO2))
  cases hc221 : (!decide (fi 47 2 = 0)) with
  | true =>
    try simp only [hc221, cond_true, cond_false]
    all_goals rfl
  | false =>
    try simp only [hc221, cond_true, cond_false]
    all_goals rfl
def S_tx_fail : zSp := fun as g => match as with
  | [.ref a, .int x, .int y] => bif ((Nat.beq a 40 && Nat.beq g.2.2.2.2.1 1) || (Nat.beq a 44 && Nat.beq g.2.2.2.2.2.1 1) || (Nat.beq a 47 && Nat.beq g.2.2.2.2.2.2 1)) then some (true, (none, (g.1, f_tx_fail a x y g.1 g.2.1, g.2.2))) else none
  | _ => none
theorem k_tx_fail {X : Nat × (Nat → Int32)} : ∀ args g o, S_tx_fail args g = some (true, o) → zR2 X zFT zE0 (zC 97) 0 args [] g o := by
  intro args g o h
  obtain ⟨ar, fi, m1, m2, m3, m4, m5⟩ := g
  unfold S_tx_fail at h
  split at h
  · refine zb_el h (fun hI h1 => ?_) (fun _ h1 => by cases h1)
    have h2 := Option.some.inj h1
    have hG := congrArg Prod.fst h2
    have ho := congrArg Prod.snd h2
    clear h h1 h2
    dsimp only at hG ho
    subst ho
    try simp only [Bool.or_eq_true, Bool.and_eq_true] at hI
    rcases hI with (⟨hI0, hI1⟩ | ⟨hI0, hI1⟩) | ⟨hI0, hI1⟩
    · obtain rfl := Nat.eq_of_beq_eq_true hI0
      have hM : m3 = 1 := Nat.eq_of_beq_eq_true hI1
      subst hM
      exact zseg_ret (e_tx_fail_40)
    · obtain rfl := Nat.eq_of_beq_eq_true hI0
      have hM : m4 = 1 := Nat.eq_of_beq_eq_true hI1
      subst hM
      exact zseg_ret (e_tx_fail_44)
    · obtain rfl := Nat.eq_of_beq_eq_true hI0
      have hM : m5 = 1 := Nat.eq_of_beq_eq_true hI1
      subst hM
      exact zseg_ret (e_tx_fail_47)
  · cases h
def w_tx_answerOr (a : Nat) (x : Int32) (ar fi : Nat → Nat → Int32) : Int32 := bif Nat.beq a 40 then (bif !decide (fi 40 2 = 0) then ((-1000) * (fi 40 2)) - (fi 40 3) else x) else bif Nat.beq a 44 then (bif !decide (fi 44 2 = 0) then ((-1000) * (fi 44 2)) - (fi 44 3) else x) else (bif !decide (fi 47 2 = 0) then ((-1000) * (fi 47 2)) - (fi 47 3) else x)
set_option maxRecDepth 10000 in
theorem t_tx_answerOr_40 {X : Nat × (Nat → Int32)} {ar fi : Nat → Nat → Int32} {m1 m2 m4 m5 : Nat} {x : Int32} : zseg X zFT zE0 zc_99 (fun _ => false) 400 0 [.ref 40, .int x] [] (ar, fi, (m1, m2, 1, m4, m5)) = (
  bif !decide (fi 40 2 = 0) then
   some (.inr (some (.int (((-1000) * (fi 40 2)) - (fi 40 3))), (ar, fi, (m1, m2, 1, m4, m5))))
  else
   some (.inr (some (.int x), (ar, fi, (m1, m2, 1, m4, m5)))) : Option ((Nat × List Value × List Value × zH2) ⊕ zO2)) := rfl
theorem e_tx_answerOr_40 {X : Nat × (Nat → Int32)} {ar fi : Nat → Nat → Int32} {m1 m2 m4 m5 : Nat} {x : Int32} : zseg X zFT zE0 zc_99 (fun _ => false) 400 0 [.ref 40, .int x] [] (ar, fi, (m1, m2, 1, m4, m5)) = some (.inr (some (.int (w_tx_answerOr 40 x ar fi)), (ar, fi, (m1, m2, 1, m4, m5)))) := by
  rw [t_tx_answerOr_40]
  show _ = (some (.inr (some (.int (bif !decide (fi 40 2 = 0) then ((-1000) * (fi 40 2)) - (fi 40 3) else x)), (ar, fi, (m1, m2, 1, m4, m5)))) : Option ((Nat × List Value × List Value × zH2) ⊕ zO2))
  cases hc222 : (!decide (fi 40 2 = 0)) with
  | true =>
    try simp only [hc222, cond_true, cond_false]
    all_goals rfl
  | false =>
    try simp only [hc222, cond_true, cond_false]
    all_goals rfl
set_option maxRecDepth 10000 in
theorem t_tx_answerOr_44 {X : Nat × (Nat → Int32)} {ar fi : Nat → Nat → Int32} {m1 m2 m3 m5 : Nat} {x : Int32} : zseg X zFT zE0 zc_99 (fun _ => false) 400 0 [.ref 44, .int x] [] (ar, fi, (m1, m2, m3, 1, m5)) = (
  bif !decide (fi 44 2 = 0) then
   some (.inr (some (.int (((-1000) * (fi 44 2)) - (fi 44 3))), (ar, fi, (m1, m2, m3, 1, m5))))
  else
   some (.inr (some (.int x), (ar, fi, (m1, m2, m3, 1, m5)))) : Option ((Nat × List Value × List Value × zH2) ⊕ zO2)) := rfl
theorem e_tx_answerOr_44 {X : Nat × (Nat → Int32)} {ar fi : Nat → Nat → Int32} {m1 m2 m3 m5 : Nat} {x : Int32} : zseg X zFT zE0 zc_99 (fun _ => false) 400 0 [.ref 44, .int x] [] (ar, fi, (m1, m2, m3, 1, m5)) = some (.inr (some (.int (w_tx_answerOr 44 x ar fi)), (ar, fi, (m1, m2, m3, 1, m5)))) := by
  rw [t_tx_answerOr_44]
  show _ = (some (.inr (some (.int (bif !decide (fi 44 2 = 0) then ((-1000) * (fi 44 2)) - (fi 44 3) else x)), (ar, fi, (m1, m2, m3, 1, m5)))) : Option ((Nat × List Value × List Value × zH2) ⊕ zO2))
  cases hc223 : (!decide (fi 44 2 = 0)) with
  | true =>
    try simp only [hc223, cond_true, cond_false]
    all_goals rfl
  | false =>
    try simp only [hc223, cond_true, cond_false]
    all_goals rfl
set_option maxRecDepth 10000 in
theorem t_tx_answerOr_47 {X : Nat × (Nat → Int32)} {ar fi : Nat → Nat → Int32} {m1 m2 m3 m4 : Nat} {x : Int32} : zseg X zFT zE0 zc_99 (fun _ => false) 400 0 [.ref 47, .int x] [] (ar, fi, (m1, m2, m3, m4, 1)) = (
  bif !decide (fi 47 2 = 0) then
   some (.inr (some (.int (((-1000) * (fi 47 2)) - (fi 47 3))), (ar, fi, (m1, m2, m3, m4, 1))))
  else
   some (.inr (some (.int x), (ar, fi, (m1, m2, m3, m4, 1)))) : Option ((Nat × List Value × List Value × zH2) ⊕ zO2)) := rfl
theorem e_tx_answerOr_47 {X : Nat × (Nat → Int32)} {ar fi : Nat → Nat → Int32} {m1 m2 m3 m4 : Nat} {x : Int32} : zseg X zFT zE0 zc_99 (fun _ => false) 400 0 [.ref 47, .int x] [] (ar, fi, (m1, m2, m3, m4, 1)) = some (.inr (some (.int (w_tx_answerOr 47 x ar fi)), (ar, fi, (m1, m2, m3, m4, 1)))) := by
  rw [t_tx_answerOr_47]
  show _ = (some (.inr (some (.int (bif !decide (fi 47 2 = 0) then ((-1000) * (fi 47 2)) - (fi 47 3) else x)), (ar, fi, (m1, m2, m3, m4, 1)))) : Option ((Nat × List Value × List Value × zH2) ⊕ zO2))
  cases hc224 : (!decide (fi 47 2 = 0)) with
  | true =>
    try simp only [hc224, cond_true, cond_false]
    all_goals rfl
  | false =>
    try simp only [hc224, cond_true, cond_false]
    all_goals rfl
def S_tx_answerOr : zSp := fun as g => match as with
  | [.ref a, .int x] => bif ((Nat.beq a 40 && Nat.beq g.2.2.2.2.1 1) || (Nat.beq a 44 && Nat.beq g.2.2.2.2.2.1 1) || (Nat.beq a 47 && Nat.beq g.2.2.2.2.2.2 1)) then some (true, (some (.int (w_tx_answerOr a x g.1 g.2.1)), (g.1, g.2.1, g.2.2))) else none
  | _ => none
theorem k_tx_answerOr {X : Nat × (Nat → Int32)} : ∀ args g o, S_tx_answerOr args g = some (true, o) → zR2 X zFT zE0 (zC 99) 0 args [] g o := by
  intro args g o h
  obtain ⟨ar, fi, m1, m2, m3, m4, m5⟩ := g
  unfold S_tx_answerOr at h
  split at h
  · refine zb_el h (fun hI h1 => ?_) (fun _ h1 => by cases h1)
    have h2 := Option.some.inj h1
    have hG := congrArg Prod.fst h2
    have ho := congrArg Prod.snd h2
    clear h h1 h2
    dsimp only at hG ho
    subst ho
    try simp only [Bool.or_eq_true, Bool.and_eq_true] at hI
    rcases hI with (⟨hI0, hI1⟩ | ⟨hI0, hI1⟩) | ⟨hI0, hI1⟩
    · obtain rfl := Nat.eq_of_beq_eq_true hI0
      have hM : m3 = 1 := Nat.eq_of_beq_eq_true hI1
      subst hM
      exact zseg_ret (e_tx_answerOr_40)
    · obtain rfl := Nat.eq_of_beq_eq_true hI0
      have hM : m4 = 1 := Nat.eq_of_beq_eq_true hI1
      subst hM
      exact zseg_ret (e_tx_answerOr_44)
    · obtain rfl := Nat.eq_of_beq_eq_true hI0
      have hM : m5 = 1 := Nat.eq_of_beq_eq_true hI1
      subst hM
      exact zseg_ret (e_tx_answerOr_47)
  · cases h
def w_tn_kindOf (x : Int32) (ar fi : Nat → Nat → Int32) : Int32 := (bif decide (x = 35) then 1 else (bif decide (x = 43) then 2 else (bif decide (x = 46) then 0 else (bif decide (x = 126) then 3 else (-1)))))
set_option maxRecDepth 10000 in
theorem t_tn_kindOf {X : Nat × (Nat → Int32)} {ar fi : Nat → Nat → Int32} {m : zM5} {x : Int32} : zseg X zFT zE0 zc_107 (fun _ => false) 400 0 [.int x] [] (ar, fi, m) = (
  bif decide (x = 35) then
   some (.inr (some (.int 1), (ar, fi, m)))
  else
   bif decide (x = 43) then
    some (.inr (some (.int 2), (ar, fi, m)))
   else
    bif decide (x = 46) then
     some (.inr (some (.int 0), (ar, fi, m)))
    else
     bif decide (x = 126) then
      some (.inr (some (.int 3), (ar, fi, m)))
     else
      some (.inr (some (.int (-1)), (ar, fi, m))) : Option ((Nat × List Value × List Value × zH2) ⊕ zO2)) := rfl
theorem e_tn_kindOf {X : Nat × (Nat → Int32)} {ar fi : Nat → Nat → Int32} {m : zM5} {x : Int32} : zseg X zFT zE0 zc_107 (fun _ => false) 400 0 [.int x] [] (ar, fi, m) = some (.inr (some (.int (w_tn_kindOf x ar fi)), (ar, fi, m))) := by
  rw [t_tn_kindOf]
  show _ = (some (.inr (some (.int (bif decide (x = 35) then 1 else (bif decide (x = 43) then 2 else (bif decide (x = 46) then 0 else (bif decide (x = 126) then 3 else (-1)))))), (ar, fi, m))) : Option ((Nat × List Value × List Value × zH2) ⊕ zO2))
  cases hc225 : (decide (x = 35)) with
  | true =>
    try simp only [hc225, cond_true, cond_false]
    all_goals rfl
  | false =>
    try simp only [hc225, cond_true, cond_false]
    cases hc226 : (decide (x = 43)) with
    | true =>
      try simp only [hc226, cond_true, cond_false]
      all_goals rfl
    | false =>
      try simp only [hc226, cond_true, cond_false]
      cases hc227 : (decide (x = 46)) with
      | true =>
        try simp only [hc227, cond_true, cond_false]
        all_goals rfl
      | false =>
        try simp only [hc227, cond_true, cond_false]
        cases hc228 : (decide (x = 126)) with
        | true =>
          try simp only [hc228, cond_true, cond_false]
          all_goals rfl
        | false =>
          try simp only [hc228, cond_true, cond_false]
          all_goals rfl
def S_tn_kindOf : zSp := fun as g => match as with
  | [.int x] => some (true, (some (.int (w_tn_kindOf x g.1 g.2.1)), (g.1, g.2.1, g.2.2)))
  | _ => none
theorem k_tn_kindOf {X : Nat × (Nat → Int32)} : ∀ args g o, S_tn_kindOf args g = some (true, o) → zR2 X zFT zE0 (zC 107) 0 args [] g o := by
  intro args g o h
  obtain ⟨ar, fi, m1, m2, m3, m4, m5⟩ := g
  unfold S_tn_kindOf at h
  split at h
  · have h1 := h
    have h2 := Option.some.inj h1
    have hG := congrArg Prod.fst h2
    have ho := congrArg Prod.snd h2
    clear h h1 h2
    dsimp only at hG ho
    subst ho
    exact zseg_ret (e_tn_kindOf)
  · cases h
def w_if_isWithin (x : Int32) (y : Int32) (z : Int32) (ar fi : Nat → Nat → Int32) : Int32 := (bif decide (x < y) then 0 else (bif decide (z < x) then 0 else 1))
set_option maxRecDepth 10000 in
theorem t_if_isWithin {X : Nat × (Nat → Int32)} {ar fi : Nat → Nat → Int32} {m : zM5} {x y z : Int32} : zseg X zFT zE0 zc_137 (fun _ => false) 400 0 [.int x, .int y, .int z] [] (ar, fi, m) = (
  bif decide (x < y) then
   some (.inr (some (.int 0), (ar, fi, m)))
  else
   bif decide (z < x) then
    some (.inr (some (.int 0), (ar, fi, m)))
   else
    some (.inr (some (.int 1), (ar, fi, m))) : Option ((Nat × List Value × List Value × zH2) ⊕ zO2)) := rfl
theorem e_if_isWithin {X : Nat × (Nat → Int32)} {ar fi : Nat → Nat → Int32} {m : zM5} {x y z : Int32} : zseg X zFT zE0 zc_137 (fun _ => false) 400 0 [.int x, .int y, .int z] [] (ar, fi, m) = some (.inr (some (.int (w_if_isWithin x y z ar fi)), (ar, fi, m))) := by
  rw [t_if_isWithin]
  show _ = (some (.inr (some (.int (bif decide (x < y) then 0 else (bif decide (z < x) then 0 else 1))), (ar, fi, m))) : Option ((Nat × List Value × List Value × zH2) ⊕ zO2))
  cases hc229 : (decide (x < y)) with
  | true =>
    try simp only [hc229, cond_true, cond_false]
    all_goals rfl
  | false =>
    try simp only [hc229, cond_true, cond_false]
    cases hc230 : (decide (z < x)) with
    | true =>
      try simp only [hc230, cond_true, cond_false]
      all_goals rfl
    | false =>
      try simp only [hc230, cond_true, cond_false]
      all_goals rfl
def S_if_isWithin : zSp := fun as g => match as with
  | [.int x, .int y, .int z] => some (true, (some (.int (w_if_isWithin x y z g.1 g.2.1)), (g.1, g.2.1, g.2.2)))
  | _ => none
theorem k_if_isWithin {X : Nat × (Nat → Int32)} : ∀ args g o, S_if_isWithin args g = some (true, o) → zR2 X zFT zE0 (zC 137) 0 args [] g o := by
  intro args g o h
  obtain ⟨ar, fi, m1, m2, m3, m4, m5⟩ := g
  unfold S_if_isWithin at h
  split at h
  · have h1 := h
    have h2 := Option.some.inj h1
    have hG := congrArg Prod.fst h2
    have ho := congrArg Prod.snd h2
    clear h h1 h2
    dsimp only at hG ho
    subst ho
    exact zseg_ret (e_if_isWithin)
  · cases h
def w_if_nextTo (x : Int32) (y : Int32) (ar fi : Nat → Nat → Int32) : Int32 := (bif decide (y = 0) then (bif decide (x / 12 ≤ 0) then (-1) else x - 12) else (bif decide (y = 1) then (bif decide (11 ≤ x - x / 12 * 12) then (-1) else x + 1) else (bif decide (y = 2) then (bif decide (7 ≤ x / 12) then (-1) else x + 12) else (bif decide (x - x / 12 * 12 ≤ 0) then (-1) else x - 1))))
set_option maxRecDepth 10000 in
theorem t_if_nextTo {X : Nat × (Nat → Int32)} {ar fi : Nat → Nat → Int32} {m : zM5} {x y : Int32} : zseg X zFT zE0 zc_140 (fun _ => false) 400 0 [.int x, .int y] [] (ar, fi, m) = (
  bif decide (y = 0) then
   bif decide (x / 12 ≤ 0) then
    some (.inr (some (.int (-1)), (ar, fi, m)))
   else
    some (.inr (some (.int (x - 12)), (ar, fi, m)))
  else
   bif decide (y = 1) then
    bif decide (11 ≤ x - x / 12 * 12) then
     some (.inr (some (.int (-1)), (ar, fi, m)))
    else
     some (.inr (some (.int (x + 1)), (ar, fi, m)))
   else
    bif decide (y = 2) then
     bif decide (7 ≤ x / 12) then
      some (.inr (some (.int (-1)), (ar, fi, m)))
     else
      some (.inr (some (.int (x + 12)), (ar, fi, m)))
    else
     bif decide (x - x / 12 * 12 ≤ 0) then
      some (.inr (some (.int (-1)), (ar, fi, m)))
     else
      some (.inr (some (.int (x - 1)), (ar, fi, m))) : Option ((Nat × List Value × List Value × zH2) ⊕ zO2)) := rfl
theorem e_if_nextTo {X : Nat × (Nat → Int32)} {ar fi : Nat → Nat → Int32} {m : zM5} {x y : Int32} : zseg X zFT zE0 zc_140 (fun _ => false) 400 0 [.int x, .int y] [] (ar, fi, m) = some (.inr (some (.int (w_if_nextTo x y ar fi)), (ar, fi, m))) := by
  rw [t_if_nextTo]
  show _ = (some (.inr (some (.int (bif decide (y = 0) then (bif decide (x / 12 ≤ 0) then (-1) else x - 12) else (bif decide (y = 1) then (bif decide (11 ≤ x - x / 12 * 12) then (-1) else x + 1) else (bif decide (y = 2) then (bif decide (7 ≤ x / 12) then (-1) else x + 12) else (bif decide (x - x / 12 * 12 ≤ 0) then (-1) else x - 1))))), (ar, fi, m))) : Option ((Nat × List Value × List Value × zH2) ⊕ zO2))
  cases hc231 : (decide (y = 0)) with
  | true =>
    try simp only [hc231, cond_true, cond_false]
    cases hc232 : (decide (x / 12 ≤ 0)) with
    | true =>
      try simp only [hc232, cond_true, cond_false]
      all_goals rfl
    | false =>
      try simp only [hc232, cond_true, cond_false]
      all_goals rfl
  | false =>
    try simp only [hc231, cond_true, cond_false]
    cases hc233 : (decide (y = 1)) with
    | true =>
      try simp only [hc233, cond_true, cond_false]
      cases hc234 : (decide (11 ≤ x - x / 12 * 12)) with
      | true =>
        try simp only [hc234, cond_true, cond_false]
        all_goals rfl
      | false =>
        try simp only [hc234, cond_true, cond_false]
        all_goals rfl
    | false =>
      try simp only [hc233, cond_true, cond_false]
      cases hc235 : (decide (y = 2)) with
      | true =>
        try simp only [hc235, cond_true, cond_false]
        cases hc236 : (decide (7 ≤ x / 12)) with
        | true =>
          try simp only [hc236, cond_true, cond_false]
          all_goals rfl
        | false =>
          try simp only [hc236, cond_true, cond_false]
          all_goals rfl
      | false =>
        try simp only [hc235, cond_true, cond_false]
        cases hc237 : (decide (x - x / 12 * 12 ≤ 0)) with
        | true =>
          try simp only [hc237, cond_true, cond_false]
          all_goals rfl
        | false =>
          try simp only [hc237, cond_true, cond_false]
          all_goals rfl
def S_if_nextTo : zSp := fun as g => match as with
  | [.int x, .int y] => some (true, (some (.int (w_if_nextTo x y g.1 g.2.1)), (g.1, g.2.1, g.2.2)))
  | _ => none
theorem k_if_nextTo {X : Nat × (Nat → Int32)} : ∀ args g o, S_if_nextTo args g = some (true, o) → zR2 X zFT zE0 (zC 140) 0 args [] g o := by
  intro args g o h
  obtain ⟨ar, fi, m1, m2, m3, m4, m5⟩ := g
  unfold S_if_nextTo at h
  split at h
  · have h1 := h
    have h2 := Option.some.inj h1
    have hG := congrArg Prod.fst h2
    have ho := congrArg Prod.snd h2
    clear h h1 h2
    dsimp only at hG ho
    subst ho
    exact zseg_ret (e_if_nextTo)
  · cases h
def w_md_in (x : Int32) (y : Int32) (z : Int32) (ar fi : Nat → Nat → Int32) : Int32 := (bif decide (x < y) then 0 else (bif decide (z < x) then 0 else 1))
set_option maxRecDepth 10000 in
theorem t_md_in {X : Nat × (Nat → Int32)} {ar fi : Nat → Nat → Int32} {m : zM5} {x y z : Int32} : zseg X zFT zE0 zc_143 (fun _ => false) 400 0 [.int x, .int y, .int z] [] (ar, fi, m) = (
  bif decide (x < y) then
   some (.inr (some (.int 0), (ar, fi, m)))
  else
   bif decide (z < x) then
    some (.inr (some (.int 0), (ar, fi, m)))
   else
    some (.inr (some (.int 1), (ar, fi, m))) : Option ((Nat × List Value × List Value × zH2) ⊕ zO2)) := rfl
theorem e_md_in {X : Nat × (Nat → Int32)} {ar fi : Nat → Nat → Int32} {m : zM5} {x y z : Int32} : zseg X zFT zE0 zc_143 (fun _ => false) 400 0 [.int x, .int y, .int z] [] (ar, fi, m) = some (.inr (some (.int (w_md_in x y z ar fi)), (ar, fi, m))) := by
  rw [t_md_in]
  show _ = (some (.inr (some (.int (bif decide (x < y) then 0 else (bif decide (z < x) then 0 else 1))), (ar, fi, m))) : Option ((Nat × List Value × List Value × zH2) ⊕ zO2))
  cases hc238 : (decide (x < y)) with
  | true =>
    try simp only [hc238, cond_true, cond_false]
    all_goals rfl
  | false =>
    try simp only [hc238, cond_true, cond_false]
    cases hc239 : (decide (z < x)) with
    | true =>
      try simp only [hc239, cond_true, cond_false]
      all_goals rfl
    | false =>
      try simp only [hc239, cond_true, cond_false]
      all_goals rfl
def S_md_in : zSp := fun as g => match as with
  | [.int x, .int y, .int z] => some (true, (some (.int (w_md_in x y z g.1 g.2.1)), (g.1, g.2.1, g.2.2)))
  | _ => none
theorem k_md_in {X : Nat × (Nat → Int32)} : ∀ args g o, S_md_in args g = some (true, o) → zR2 X zFT zE0 (zC 143) 0 args [] g o := by
  intro args g o h
  obtain ⟨ar, fi, m1, m2, m3, m4, m5⟩ := g
  unfold S_md_in at h
  split at h
  · have h1 := h
    have h2 := Option.some.inj h1
    have hG := congrArg Prod.fst h2
    have ho := congrArg Prod.snd h2
    clear h h1 h2
    dsimp only at hG ho
    subst ho
    exact zseg_ret (e_md_in)
  · cases h
def w_md_max (x : Int32) (y : Int32) (ar fi : Nat → Nat → Int32) : Int32 := (bif decide (x ≤ y) then y else x)
set_option maxRecDepth 10000 in
theorem t_md_max {X : Nat × (Nat → Int32)} {ar fi : Nat → Nat → Int32} {m : zM5} {x y : Int32} : zseg X zFT zE0 zc_144 (fun _ => false) 400 0 [.int x, .int y] [] (ar, fi, m) = (
  bif decide (x ≤ y) then
   some (.inr (some (.int y), (ar, fi, m)))
  else
   some (.inr (some (.int x), (ar, fi, m))) : Option ((Nat × List Value × List Value × zH2) ⊕ zO2)) := rfl
theorem e_md_max {X : Nat × (Nat → Int32)} {ar fi : Nat → Nat → Int32} {m : zM5} {x y : Int32} : zseg X zFT zE0 zc_144 (fun _ => false) 400 0 [.int x, .int y] [] (ar, fi, m) = some (.inr (some (.int (w_md_max x y ar fi)), (ar, fi, m))) := by
  rw [t_md_max]
  show _ = (some (.inr (some (.int (bif decide (x ≤ y) then y else x)), (ar, fi, m))) : Option ((Nat × List Value × List Value × zH2) ⊕ zO2))
  cases hc240 : (decide (x ≤ y)) with
  | true =>
    try simp only [hc240, cond_true, cond_false]
    all_goals rfl
  | false =>
    try simp only [hc240, cond_true, cond_false]
    all_goals rfl
def S_md_max : zSp := fun as g => match as with
  | [.int x, .int y] => some (true, (some (.int (w_md_max x y g.1 g.2.1)), (g.1, g.2.1, g.2.2)))
  | _ => none
theorem k_md_max {X : Nat × (Nat → Int32)} : ∀ args g o, S_md_max args g = some (true, o) → zR2 X zFT zE0 (zC 144) 0 args [] g o := by
  intro args g o h
  obtain ⟨ar, fi, m1, m2, m3, m4, m5⟩ := g
  unfold S_md_max at h
  split at h
  · have h1 := h
    have h2 := Option.some.inj h1
    have hG := congrArg Prod.fst h2
    have ho := congrArg Prod.snd h2
    clear h h1 h2
    dsimp only at hG ho
    subst ho
    exact zseg_ret (e_md_max)
  · cases h
def w_md_size (x : Int32) (ar fi : Nat → Nat → Int32) : Int32 := (bif decide (0 ≤ x) then x else (-x))
set_option maxRecDepth 10000 in
theorem t_md_size {X : Nat × (Nat → Int32)} {ar fi : Nat → Nat → Int32} {m : zM5} {x : Int32} : zseg X zFT zE0 zc_145 (fun _ => false) 400 0 [.int x] [] (ar, fi, m) = (
  bif decide (0 ≤ x) then
   some (.inr (some (.int x), (ar, fi, m)))
  else
   some (.inr (some (.int (-x)), (ar, fi, m))) : Option ((Nat × List Value × List Value × zH2) ⊕ zO2)) := rfl
theorem e_md_size {X : Nat × (Nat → Int32)} {ar fi : Nat → Nat → Int32} {m : zM5} {x : Int32} : zseg X zFT zE0 zc_145 (fun _ => false) 400 0 [.int x] [] (ar, fi, m) = some (.inr (some (.int (w_md_size x ar fi)), (ar, fi, m))) := by
  rw [t_md_size]
  show _ = (some (.inr (some (.int (bif decide (0 ≤ x) then x else (-x))), (ar, fi, m))) : Option ((Nat × List Value × List Value × zH2) ⊕ zO2))
  cases hc241 : (decide (0 ≤ x)) with
  | true =>
    try simp only [hc241, cond_true, cond_false]
    all_goals rfl
  | false =>
    try simp only [hc241, cond_true, cond_false]
    all_goals rfl
def S_md_size : zSp := fun as g => match as with
  | [.int x] => some (true, (some (.int (w_md_size x g.1 g.2.1)), (g.1, g.2.1, g.2.2)))
  | _ => none
theorem k_md_size {X : Nat × (Nat → Int32)} : ∀ args g o, S_md_size args g = some (true, o) → zR2 X zFT zE0 (zC 145) 0 args [] g o := by
  intro args g o h
  obtain ⟨ar, fi, m1, m2, m3, m4, m5⟩ := g
  unfold S_md_size at h
  split at h
  · have h1 := h
    have h2 := Option.some.inj h1
    have hG := congrArg Prod.fst h2
    have ho := congrArg Prod.snd h2
    clear h h1 h2
    dsimp only at hG ho
    subst ho
    exact zseg_ret (e_md_size)
  · cases h
def w_md_has (x : Int32) (y : Int32) (ar fi : Nat → Nat → Int32) : Int32 := (bif !decide ((x >>> (y &&& 31)) &&& 1 = 1) then 0 else 1)
set_option maxRecDepth 10000 in
theorem t_md_has {X : Nat × (Nat → Int32)} {ar fi : Nat → Nat → Int32} {m : zM5} {x y : Int32} : zseg X zFT zE0 zc_146 (fun _ => false) 400 0 [.int x, .int y] [] (ar, fi, m) = (
  bif !decide ((x >>> (y &&& 31)) &&& 1 = 1) then
   some (.inr (some (.int 0), (ar, fi, m)))
  else
   some (.inr (some (.int 1), (ar, fi, m))) : Option ((Nat × List Value × List Value × zH2) ⊕ zO2)) := rfl
theorem e_md_has {X : Nat × (Nat → Int32)} {ar fi : Nat → Nat → Int32} {m : zM5} {x y : Int32} : zseg X zFT zE0 zc_146 (fun _ => false) 400 0 [.int x, .int y] [] (ar, fi, m) = some (.inr (some (.int (w_md_has x y ar fi)), (ar, fi, m))) := by
  rw [t_md_has]
  show _ = (some (.inr (some (.int (bif !decide ((x >>> (y &&& 31)) &&& 1 = 1) then 0 else 1)), (ar, fi, m))) : Option ((Nat × List Value × List Value × zH2) ⊕ zO2))
  cases hc242 : (!decide ((x >>> (y &&& 31)) &&& 1 = 1)) with
  | true =>
    try simp only [hc242, cond_true, cond_false]
    all_goals rfl
  | false =>
    try simp only [hc242, cond_true, cond_false]
    all_goals rfl
def S_md_has : zSp := fun as g => match as with
  | [.int x, .int y] => some (true, (some (.int (w_md_has x y g.1 g.2.1)), (g.1, g.2.1, g.2.2)))
  | _ => none
theorem k_md_has {X : Nat × (Nat → Int32)} : ∀ args g o, S_md_has args g = some (true, o) → zR2 X zFT zE0 (zC 146) 0 args [] g o := by
  intro args g o h
  obtain ⟨ar, fi, m1, m2, m3, m4, m5⟩ := g
  unfold S_md_has at h
  split at h
  · have h1 := h
    have h2 := Option.some.inj h1
    have hG := congrArg Prod.fst h2
    have ho := congrArg Prod.snd h2
    clear h h1 h2
    dsimp only at hG ho
    subst ho
    exact zseg_ret (e_md_has)
  · cases h
def w_md_octet (x : Int32) (ar fi : Nat → Nat → Int32) : Int32 := ((ar 70) (x.toNatClampNeg)) &&& 255
def g_md_octet (x : Int32) (ar fi : Nat → Nat → Int32) : Bool := zin x 260
set_option maxRecDepth 10000 in
theorem t_md_octet {X : Nat × (Nat → Int32)} {ar fi : Nat → Nat → Int32} {m : zM5} {x : Int32} : zseg X zFT zE0 zc_157 (fun _ => false) 400 0 [.ref 64, .int x] [] (ar, fi, m) = (
  zg (zin x 260) (
  some (.inr (some (.int (((ar 70) (x.toNatClampNeg)) &&& 255)), (ar, fi, m)))) : Option ((Nat × List Value × List Value × zH2) ⊕ zO2)) := rfl
theorem e_md_octet {X : Nat × (Nat → Int32)} {ar fi : Nat → Nat → Int32} {m : zM5} {x : Int32} (hG : g_md_octet x ar fi = true) : zseg X zFT zE0 zc_157 (fun _ => false) 400 0 [.ref 64, .int x] [] (ar, fi, m) = some (.inr (some (.int (w_md_octet x ar fi)), (ar, fi, m))) := by
  rw [t_md_octet]
  have hG : (zin x 260) = true := hG
  show _ = (some (.inr (some (.int (((ar 70) (x.toNatClampNeg)) &&& 255)), (ar, fi, m))) : Option ((Nat × List Value × List Value × zH2) ⊕ zO2))
  all_goals first | rfl | (simp only [zg, hG, cond_true]; done) | (simp only [Bool.and_eq_true, Bool.true_and, Bool.and_true] at hG; simp only [zg, hG, cond_true]; done)
def S_md_octet : zSp := fun as g => match as with
  | [.ref q0, .int x] => bif (Nat.beq q0 64) then some (g_md_octet x g.1 g.2.1, (some (.int (w_md_octet x g.1 g.2.1)), (g.1, g.2.1, g.2.2))) else none
  | _ => none
theorem k_md_octet {X : Nat × (Nat → Int32)} : ∀ args g o, S_md_octet args g = some (true, o) → zR2 X zFT zE0 (zC 157) 0 args [] g o := by
  intro args g o h
  obtain ⟨ar, fi, m1, m2, m3, m4, m5⟩ := g
  unfold S_md_octet at h
  split at h
  · refine zb_el h (fun hI h1 => ?_) (fun _ h1 => by cases h1)
    have h2 := Option.some.inj h1
    have hG := congrArg Prod.fst h2
    have ho := congrArg Prod.snd h2
    clear h h1 h2
    dsimp only at hG ho
    subst ho
    try simp only [Bool.and_eq_true] at hI
    have hI0 := hI
    obtain rfl := Nat.eq_of_beq_eq_true hI0
    exact zseg_ret (e_md_octet hG)
  · cases h
def w_md_here (ar fi : Nat → Nat → Int32) : Int32 := (bif decide (fi 64 8 ≤ fi 64 7) then (-1) else ((ar 70) ((fi 64 7).toNatClampNeg)) &&& 255)
def g_md_here (ar fi : Nat → Nat → Int32) : Bool := bif decide (fi 64 8 ≤ fi 64 7) then true else zin (fi 64 7) 260
set_option maxRecDepth 10000 in
theorem t_md_here {X : Nat × (Nat → Int32)} {ar fi : Nat → Nat → Int32} {m : zM5} : zseg X zFT zE0 zc_158 (fun _ => false) 400 0 [.ref 64] [] (ar, fi, m) = (
  bif decide (fi 64 8 ≤ fi 64 7) then
   some (.inr (some (.int (-1)), (ar, fi, m)))
  else
   zg (zin (fi 64 7) 260) (
   some (.inr (some (.int (((ar 70) ((fi 64 7).toNatClampNeg)) &&& 255)), (ar, fi, m)))) : Option ((Nat × List Value × List Value × zH2) ⊕ zO2)) := rfl
theorem e_md_here {X : Nat × (Nat → Int32)} {ar fi : Nat → Nat → Int32} {m : zM5} (hG : g_md_here ar fi = true) : zseg X zFT zE0 zc_158 (fun _ => false) 400 0 [.ref 64] [] (ar, fi, m) = some (.inr (some (.int (w_md_here ar fi)), (ar, fi, m))) := by
  rw [t_md_here]
  have hG : (bif decide (fi 64 8 ≤ fi 64 7) then true else zin (fi 64 7) 260) = true := hG
  show _ = (some (.inr (some (.int (bif decide (fi 64 8 ≤ fi 64 7) then (-1) else ((ar 70) ((fi 64 7).toNatClampNeg)) &&& 255)), (ar, fi, m))) : Option ((Nat × List Value × List Value × zH2) ⊕ zO2))
  cases hc243 : (decide (fi 64 8 ≤ fi 64 7)) with
  | true =>
    try simp only [hc243, cond_true, cond_false] at hG ⊢
    all_goals first | rfl | (simp only [zg, hG, cond_true]; done) | (simp only [Bool.and_eq_true, Bool.true_and, Bool.and_true] at hG; simp only [zg, hG, cond_true]; done)
  | false =>
    try simp only [hc243, cond_true, cond_false] at hG ⊢
    all_goals first | rfl | (simp only [zg, hG, cond_true]; done) | (simp only [Bool.and_eq_true, Bool.true_and, Bool.and_true] at hG; simp only [zg, hG, cond_true]; done)
def S_md_here : zSp := fun as g => match as with
  | [.ref q0] => bif (Nat.beq q0 64) then some (g_md_here g.1 g.2.1, (some (.int (w_md_here g.1 g.2.1)), (g.1, g.2.1, g.2.2))) else none
  | _ => none
theorem k_md_here {X : Nat × (Nat → Int32)} : ∀ args g o, S_md_here args g = some (true, o) → zR2 X zFT zE0 (zC 158) 0 args [] g o := by
  intro args g o h
  obtain ⟨ar, fi, m1, m2, m3, m4, m5⟩ := g
  unfold S_md_here at h
  split at h
  · refine zb_el h (fun hI h1 => ?_) (fun _ h1 => by cases h1)
    have h2 := Option.some.inj h1
    have hG := congrArg Prod.fst h2
    have ho := congrArg Prod.snd h2
    clear h h1 h2
    dsimp only at hG ho
    subst ho
    try simp only [Bool.and_eq_true] at hI
    have hI0 := hI
    obtain rfl := Nat.eq_of_beq_eq_true hI0
    exact zseg_ret (e_md_here hG)
  · cases h
def w_md_wrongAt (x : Int32) (y : Int32) (ar fi : Nat → Nat → Int32) : Int32 := 0
def f_md_wrongAt (x : Int32) (y : Int32) (ar fi : Nat → Nat → Int32) : Nat → Nat → Int32 := (zup fi 64 (zup (fi 64) 9 (((-1000) * x) - y)))
set_option maxRecDepth 10000 in
theorem t_md_wrongAt {X : Nat × (Nat → Int32)} {ar fi : Nat → Nat → Int32} {m : zM5} {x y : Int32} : zseg X zFT zE0 zc_160 (fun _ => false) 400 0 [.ref 64, .int x, .int y] [] (ar, fi, m) = (
  some (.inr (some (.int 0), (ar, (zup fi 64 (zup (fi 64) 9 (((-1000) * x) - y))), m))) : Option ((Nat × List Value × List Value × zH2) ⊕ zO2)) := rfl
theorem e_md_wrongAt {X : Nat × (Nat → Int32)} {ar fi : Nat → Nat → Int32} {m : zM5} {x y : Int32} : zseg X zFT zE0 zc_160 (fun _ => false) 400 0 [.ref 64, .int x, .int y] [] (ar, fi, m) = some (.inr (some (.int (w_md_wrongAt x y ar fi)), (ar, f_md_wrongAt x y ar fi, m))) := by
  rw [t_md_wrongAt]
  show _ = (some (.inr (some (.int 0), (ar, (zup fi 64 (zup (fi 64) 9 (((-1000) * x) - y))), m))) : Option ((Nat × List Value × List Value × zH2) ⊕ zO2))
  all_goals rfl
def S_md_wrongAt : zSp := fun as g => match as with
  | [.ref q0, .int x, .int y] => bif (Nat.beq q0 64) then some (true, (some (.int (w_md_wrongAt x y g.1 g.2.1)), (g.1, f_md_wrongAt x y g.1 g.2.1, g.2.2))) else none
  | _ => none
theorem k_md_wrongAt {X : Nat × (Nat → Int32)} : ∀ args g o, S_md_wrongAt args g = some (true, o) → zR2 X zFT zE0 (zC 160) 0 args [] g o := by
  intro args g o h
  obtain ⟨ar, fi, m1, m2, m3, m4, m5⟩ := g
  unfold S_md_wrongAt at h
  split at h
  · refine zb_el h (fun hI h1 => ?_) (fun _ h1 => by cases h1)
    have h2 := Option.some.inj h1
    have hG := congrArg Prod.fst h2
    have ho := congrArg Prod.snd h2
    clear h h1 h2
    dsimp only at hG ho
    subst ho
    try simp only [Bool.and_eq_true] at hI
    have hI0 := hI
    obtain rfl := Nat.eq_of_beq_eq_true hI0
    exact zseg_ret (e_md_wrongAt)
  · cases h
def a_md_notes (x : Int32) (y : Int32) (ar fi : Nat → Nat → Int32) : Nat → Nat → Int32 := (zup ar 71 (zup (ar 71) ((fi 64 12).toNatClampNeg) ((1048576 * x) + y)))
def f_md_notes (x : Int32) (y : Int32) (ar fi : Nat → Nat → Int32) : Nat → Nat → Int32 := (zup fi 64 (zup (fi 64) 12 ((fi 64 12) + 1)))
def g_md_notes (x : Int32) (y : Int32) (ar fi : Nat → Nat → Int32) : Bool := zin (fi 64 12) 260
set_option maxRecDepth 10000 in
theorem t_md_notes {X : Nat × (Nat → Int32)} {ar fi : Nat → Nat → Int32} {m : zM5} {x y : Int32} : zseg X zFT zE0 zc_163 (fun _ => false) 400 0 [.ref 64, .int x, .int y] [] (ar, fi, m) = (
  zg (zin (fi 64 12) 260) (
  some (.inr (none, ((zup ar 71 (zup (ar 71) ((fi 64 12).toNatClampNeg) ((1048576 * x) + y))), (zup fi 64 (zup (fi 64) 12 ((fi 64 12) + 1))), m)))) : Option ((Nat × List Value × List Value × zH2) ⊕ zO2)) := rfl
theorem e_md_notes {X : Nat × (Nat → Int32)} {ar fi : Nat → Nat → Int32} {m : zM5} {x y : Int32} (hG : g_md_notes x y ar fi = true) : zseg X zFT zE0 zc_163 (fun _ => false) 400 0 [.ref 64, .int x, .int y] [] (ar, fi, m) = some (.inr (none, (a_md_notes x y ar fi, f_md_notes x y ar fi, m))) := by
  rw [t_md_notes]
  have hG : (zin (fi 64 12) 260) = true := hG
  show _ = (some (.inr (none, ((zup ar 71 (zup (ar 71) ((fi 64 12).toNatClampNeg) ((1048576 * x) + y))), (zup fi 64 (zup (fi 64) 12 ((fi 64 12) + 1))), m))) : Option ((Nat × List Value × List Value × zH2) ⊕ zO2))
  all_goals first | rfl | (simp only [zg, hG, cond_true]; done) | (simp only [Bool.and_eq_true, Bool.true_and, Bool.and_true] at hG; simp only [zg, hG, cond_true]; done)
def S_md_notes : zSp := fun as g => match as with
  | [.ref q0, .int x, .int y] => bif (Nat.beq q0 64) then some (g_md_notes x y g.1 g.2.1, (none, (a_md_notes x y g.1 g.2.1, f_md_notes x y g.1 g.2.1, g.2.2))) else none
  | _ => none
theorem k_md_notes {X : Nat × (Nat → Int32)} : ∀ args g o, S_md_notes args g = some (true, o) → zR2 X zFT zE0 (zC 163) 0 args [] g o := by
  intro args g o h
  obtain ⟨ar, fi, m1, m2, m3, m4, m5⟩ := g
  unfold S_md_notes at h
  split at h
  · refine zb_el h (fun hI h1 => ?_) (fun _ h1 => by cases h1)
    have h2 := Option.some.inj h1
    have hG := congrArg Prod.fst h2
    have ho := congrArg Prod.snd h2
    clear h h1 h2
    dsimp only at hG ho
    subst ho
    try simp only [Bool.and_eq_true] at hI
    have hI0 := hI
    obtain rfl := Nat.eq_of_beq_eq_true hI0
    exact zseg_ret (e_md_notes hG)
  · cases h
def w_md_waitTop (ar fi : Nat → Nat → Int32) : Int32 := (bif !decide (fi 64 13 = 0) then ((ar 72) (((fi 64 13) - 1).toNatClampNeg)) / 1048576 else (-1))
def g_md_waitTop (ar fi : Nat → Nat → Int32) : Bool := bif !decide (fi 64 13 = 0) then zin ((fi 64 13) - 1) 260 else true
set_option maxRecDepth 10000 in
theorem t_md_waitTop {X : Nat × (Nat → Int32)} {ar fi : Nat → Nat → Int32} {m : zM5} : zseg X zFT zE0 zc_165 (fun _ => false) 400 0 [.ref 64] [] (ar, fi, m) = (
  bif !decide (fi 64 13 = 0) then
   zg (zin ((fi 64 13) - 1) 260) (
   some (.inr (some (.int (((ar 72) (((fi 64 13) - 1).toNatClampNeg)) / 1048576)), (ar, fi, m))))
  else
   some (.inr (some (.int (-1)), (ar, fi, m))) : Option ((Nat × List Value × List Value × zH2) ⊕ zO2)) := rfl
theorem e_md_waitTop {X : Nat × (Nat → Int32)} {ar fi : Nat → Nat → Int32} {m : zM5} (hG : g_md_waitTop ar fi = true) : zseg X zFT zE0 zc_165 (fun _ => false) 400 0 [.ref 64] [] (ar, fi, m) = some (.inr (some (.int (w_md_waitTop ar fi)), (ar, fi, m))) := by
  rw [t_md_waitTop]
  have hG : (bif !decide (fi 64 13 = 0) then zin ((fi 64 13) - 1) 260 else true) = true := hG
  show _ = (some (.inr (some (.int (bif !decide (fi 64 13 = 0) then ((ar 72) (((fi 64 13) - 1).toNatClampNeg)) / 1048576 else (-1))), (ar, fi, m))) : Option ((Nat × List Value × List Value × zH2) ⊕ zO2))
  cases hc244 : (!decide (fi 64 13 = 0)) with
  | true =>
    try simp only [hc244, cond_true, cond_false] at hG ⊢
    all_goals first | rfl | (simp only [zg, hG, cond_true]; done) | (simp only [Bool.and_eq_true, Bool.true_and, Bool.and_true] at hG; simp only [zg, hG, cond_true]; done)
  | false =>
    try simp only [hc244, cond_true, cond_false] at hG ⊢
    all_goals first | rfl | (simp only [zg, hG, cond_true]; done) | (simp only [Bool.and_eq_true, Bool.true_and, Bool.and_true] at hG; simp only [zg, hG, cond_true]; done)
def S_md_waitTop : zSp := fun as g => match as with
  | [.ref q0] => bif (Nat.beq q0 64) then some (g_md_waitTop g.1 g.2.1, (some (.int (w_md_waitTop g.1 g.2.1)), (g.1, g.2.1, g.2.2))) else none
  | _ => none
theorem k_md_waitTop {X : Nat × (Nat → Int32)} : ∀ args g o, S_md_waitTop args g = some (true, o) → zR2 X zFT zE0 (zC 165) 0 args [] g o := by
  intro args g o h
  obtain ⟨ar, fi, m1, m2, m3, m4, m5⟩ := g
  unfold S_md_waitTop at h
  split at h
  · refine zb_el h (fun hI h1 => ?_) (fun _ h1 => by cases h1)
    have h2 := Option.some.inj h1
    have hG := congrArg Prod.fst h2
    have ho := congrArg Prod.snd h2
    clear h h1 h2
    dsimp only at hG ho
    subst ho
    try simp only [Bool.and_eq_true] at hI
    have hI0 := hI
    obtain rfl := Nat.eq_of_beq_eq_true hI0
    exact zseg_ret (e_md_waitTop hG)
  · cases h
def w_md_factOf (x : Int32) (ar fi : Nat → Nat → Int32) : Int32 := (bif decide (x = 100) then 5 else (bif decide (x = 101) then (-1) else (bif decide (x = 102) then (-1) else (bif decide (x = 103) then 6 else (bif decide (x = 104) then (-1) else (bif decide (x = 105) then 4 else (bif decide (x = 106) then (-1) else (bif decide (x = 107) then (-1) else (bif decide (x = 108) then (-1) else (bif decide (x = 109) then 1 else (bif decide (x = 110) then 2 else (bif decide (x = 111) then (-1) else (bif decide (x = 112) then 0 else (bif decide (x = 113) then (-1) else (bif decide (x = 114) then (-1) else (bif decide (x = 115) then (-1) else (bif decide (x = 116) then 7 else (bif decide (x = 117) then (-1) else (bif decide (x = 118) then 3 else (bif decide (x = 119) then 8 else (-1)))))))))))))))))))))
set_option maxRecDepth 10000 in
theorem t_md_factOf {X : Nat × (Nat → Int32)} {ar fi : Nat → Nat → Int32} {m : zM5} {x : Int32} : zseg X zFT zE0 zc_166 (fun _ => false) 400 0 [.int x] [] (ar, fi, m) = (
  bif decide (x = 100) then
   some (.inr (some (.int 5), (ar, fi, m)))
  else
   bif decide (x = 101) then
    some (.inr (some (.int (-1)), (ar, fi, m)))
   else
    bif decide (x = 102) then
     some (.inr (some (.int (-1)), (ar, fi, m)))
    else
     bif decide (x = 103) then
      some (.inr (some (.int 6), (ar, fi, m)))
     else
      bif decide (x = 104) then
       some (.inr (some (.int (-1)), (ar, fi, m)))
      else
       bif decide (x = 105) then
        some (.inr (some (.int 4), (ar, fi, m)))
       else
        bif decide (x = 106) then
         some (.inr (some (.int (-1)), (ar, fi, m)))
        else
         bif decide (x = 107) then
          some (.inr (some (.int (-1)), (ar, fi, m)))
         else
          bif decide (x = 108) then
           some (.inr (some (.int (-1)), (ar, fi, m)))
          else
           bif decide (x = 109) then
            some (.inr (some (.int 1), (ar, fi, m)))
           else
            bif decide (x = 110) then
             some (.inr (some (.int 2), (ar, fi, m)))
            else
             bif decide (x = 111) then
              some (.inr (some (.int (-1)), (ar, fi, m)))
             else
              bif decide (x = 112) then
               some (.inr (some (.int 0), (ar, fi, m)))
              else
               bif decide (x = 113) then
                some (.inr (some (.int (-1)), (ar, fi, m)))
               else
                bif decide (x = 114) then
                 some (.inr (some (.int (-1)), (ar, fi, m)))
                else
                 bif decide (x = 115) then
                  some (.inr (some (.int (-1)), (ar, fi, m)))
                 else
                  bif decide (x = 116) then
                   some (.inr (some (.int 7), (ar, fi, m)))
                  else
                   bif decide (x = 117) then
                    some (.inr (some (.int (-1)), (ar, fi, m)))
                   else
                    bif decide (x = 118) then
                     some (.inr (some (.int 3), (ar, fi, m)))
                    else
                     bif decide (x = 119) then
                      some (.inr (some (.int 8), (ar, fi, m)))
                     else
                      some (.inr (some (.int (-1)), (ar, fi, m))) : Option ((Nat × List Value × List Value × zH2) ⊕ zO2)) := rfl
theorem e_md_factOf {X : Nat × (Nat → Int32)} {ar fi : Nat → Nat → Int32} {m : zM5} {x : Int32} : zseg X zFT zE0 zc_166 (fun _ => false) 400 0 [.int x] [] (ar, fi, m) = some (.inr (some (.int (w_md_factOf x ar fi)), (ar, fi, m))) := by
  rw [t_md_factOf]
  show _ = (some (.inr (some (.int (bif decide (x = 100) then 5 else (bif decide (x = 101) then (-1) else (bif decide (x = 102) then (-1) else (bif decide (x = 103) then 6 else (bif decide (x = 104) then (-1) else (bif decide (x = 105) then 4 else (bif decide (x = 106) then (-1) else (bif decide (x = 107) then (-1) else (bif decide (x = 108) then (-1) else (bif decide (x = 109) then 1 else (bif decide (x = 110) then 2 else (bif decide (x = 111) then (-1) else (bif decide (x = 112) then 0 else (bif decide (x = 113) then (-1) else (bif decide (x = 114) then (-1) else (bif decide (x = 115) then (-1) else (bif decide (x = 116) then 7 else (bif decide (x = 117) then (-1) else (bif decide (x = 118) then 3 else (bif decide (x = 119) then 8 else (-1)))))))))))))))))))))), (ar, fi, m))) : Option ((Nat × List Value × List Value × zH2) ⊕ zO2))
  cases hc245 : (decide (x = 100)) with
  | true =>
    try simp only [hc245, cond_true, cond_false]
    all_goals rfl
  | false =>
    try simp only [hc245, cond_true, cond_false]
    cases hc246 : (decide (x = 101)) with
    | true =>
      try simp only [hc246, cond_true, cond_false]
      all_goals rfl
    | false =>
      try simp only [hc246, cond_true, cond_false]
      cases hc247 : (decide (x = 102)) with
      | true =>
        try simp only [hc247, cond_true, cond_false]
        all_goals rfl
      | false =>
        try simp only [hc247, cond_true, cond_false]
        cases hc248 : (decide (x = 103)) with
        | true =>
          try simp only [hc248, cond_true, cond_false]
          all_goals rfl
        | false =>
          try simp only [hc248, cond_true, cond_false]
          cases hc249 : (decide (x = 104)) with
          | true =>
            try simp only [hc249, cond_true, cond_false]
            all_goals rfl
          | false =>
            try simp only [hc249, cond_true, cond_false]
            cases hc250 : (decide (x = 105)) with
            | true =>
              try simp only [hc250, cond_true, cond_false]
              all_goals rfl
            | false =>
              try simp only [hc250, cond_true, cond_false]
              cases hc251 : (decide (x = 106)) with
              | true =>
                try simp only [hc251, cond_true, cond_false]
                all_goals rfl
              | false =>
                try simp only [hc251, cond_true, cond_false]
                cases hc252 : (decide (x = 107)) with
                | true =>
                  try simp only [hc252, cond_true, cond_false]
                  all_goals rfl
                | false =>
                  try simp only [hc252, cond_true, cond_false]
                  cases hc253 : (decide (x = 108)) with
                  | true =>
                    try simp only [hc253, cond_true, cond_false]
                    all_goals rfl
                  | false =>
                    try simp only [hc253, cond_true, cond_false]
                    cases hc254 : (decide (x = 109)) with
                    | true =>
                      try simp only [hc254, cond_true, cond_false]
                      all_goals rfl
                    | false =>
                      try simp only [hc254, cond_true, cond_false]
                      cases hc255 : (decide (x = 110)) with
                      | true =>
                        try simp only [hc255, cond_true, cond_false]
                        all_goals rfl
                      | false =>
                        try simp only [hc255, cond_true, cond_false]
                        cases hc256 : (decide (x = 111)) with
                        | true =>
                          try simp only [hc256, cond_true, cond_false]
                          all_goals rfl
                        | false =>
                          try simp only [hc256, cond_true, cond_false]
                          cases hc257 : (decide (x = 112)) with
                          | true =>
                            try simp only [hc257, cond_true, cond_false]
                            all_goals rfl
                          | false =>
                            try simp only [hc257, cond_true, cond_false]
                            cases hc258 : (decide (x = 113)) with
                            | true =>
                              try simp only [hc258, cond_true, cond_false]
                              all_goals rfl
                            | false =>
                              try simp only [hc258, cond_true, cond_false]
                              cases hc259 : (decide (x = 114)) with
                              | true =>
                                try simp only [hc259, cond_true, cond_false]
                                all_goals rfl
                              | false =>
                                try simp only [hc259, cond_true, cond_false]
                                cases hc260 : (decide (x = 115)) with
                                | true =>
                                  try simp only [hc260, cond_true, cond_false]
                                  all_goals rfl
                                | false =>
                                  try simp only [hc260, cond_true, cond_false]
                                  cases hc261 : (decide (x = 116)) with
                                  | true =>
                                    try simp only [hc261, cond_true, cond_false]
                                    all_goals rfl
                                  | false =>
                                    try simp only [hc261, cond_true, cond_false]
                                    cases hc262 : (decide (x = 117)) with
                                    | true =>
                                      try simp only [hc262, cond_true, cond_false]
                                      all_goals rfl
                                    | false =>
                                      try simp only [hc262, cond_true, cond_false]
                                      cases hc263 : (decide (x = 118)) with
                                      | true =>
                                        try simp only [hc263, cond_true, cond_false]
                                        all_goals rfl
                                      | false =>
                                        try simp only [hc263, cond_true, cond_false]
                                        cases hc264 : (decide (x = 119)) with
                                        | true =>
                                          try simp only [hc264, cond_true, cond_false]
                                          all_goals rfl
                                        | false =>
                                          try simp only [hc264, cond_true, cond_false]
                                          all_goals rfl
def S_md_factOf : zSp := fun as g => match as with
  | [.int x] => some (true, (some (.int (w_md_factOf x g.1 g.2.1)), (g.1, g.2.1, g.2.2)))
  | _ => none
theorem k_md_factOf {X : Nat × (Nat → Int32)} : ∀ args g o, S_md_factOf args g = some (true, o) → zR2 X zFT zE0 (zC 166) 0 args [] g o := by
  intro args g o h
  obtain ⟨ar, fi, m1, m2, m3, m4, m5⟩ := g
  unfold S_md_factOf at h
  split at h
  · have h1 := h
    have h2 := Option.some.inj h1
    have hG := congrArg Prod.fst h2
    have ho := congrArg Prod.snd h2
    clear h h1 h2
    dsimp only at hG ho
    subst ho
    exact zseg_ret (e_md_factOf)
  · cases h
def w_md_sumSign (x : Int32) (ar fi : Nat → Nat → Int32) : Int32 := (bif !decide (x = 43) then (bif !decide (x = 45) then (bif !decide (x = 42) then (bif !decide (x = 47) then (bif !decide (x = 37) then (-1) else 6) else 5) else 4) else 3) else 2)
set_option maxRecDepth 10000 in
theorem t_md_sumSign {X : Nat × (Nat → Int32)} {ar fi : Nat → Nat → Int32} {m : zM5} {x : Int32} : zseg X zFT zE0 zc_167 (fun _ => false) 400 0 [.int x] [] (ar, fi, m) = (
  bif !decide (x = 43) then
   bif !decide (x = 45) then
    bif !decide (x = 42) then
     bif !decide (x = 47) then
      bif !decide (x = 37) then
       some (.inr (some (.int (-1)), (ar, fi, m)))
      else
       some (.inr (some (.int 6), (ar, fi, m)))
     else
      some (.inr (some (.int 5), (ar, fi, m)))
    else
     some (.inr (some (.int 4), (ar, fi, m)))
   else
    some (.inr (some (.int 3), (ar, fi, m)))
  else
   some (.inr (some (.int 2), (ar, fi, m))) : Option ((Nat × List Value × List Value × zH2) ⊕ zO2)) := rfl
theorem e_md_sumSign {X : Nat × (Nat → Int32)} {ar fi : Nat → Nat → Int32} {m : zM5} {x : Int32} : zseg X zFT zE0 zc_167 (fun _ => false) 400 0 [.int x] [] (ar, fi, m) = some (.inr (some (.int (w_md_sumSign x ar fi)), (ar, fi, m))) := by
  rw [t_md_sumSign]
  show _ = (some (.inr (some (.int (bif !decide (x = 43) then (bif !decide (x = 45) then (bif !decide (x = 42) then (bif !decide (x = 47) then (bif !decide (x = 37) then (-1) else 6) else 5) else 4) else 3) else 2)), (ar, fi, m))) : Option ((Nat × List Value × List Value × zH2) ⊕ zO2))
  cases hc265 : (!decide (x = 43)) with
  | true =>
    try simp only [hc265, cond_true, cond_false]
    cases hc266 : (!decide (x = 45)) with
    | true =>
      try simp only [hc266, cond_true, cond_false]
      cases hc267 : (!decide (x = 42)) with
      | true =>
        try simp only [hc267, cond_true, cond_false]
        cases hc268 : (!decide (x = 47)) with
        | true =>
          try simp only [hc268, cond_true, cond_false]
          cases hc269 : (!decide (x = 37)) with
          | true =>
            try simp only [hc269, cond_true, cond_false]
            all_goals rfl
          | false =>
            try simp only [hc269, cond_true, cond_false]
            all_goals rfl
        | false =>
          try simp only [hc268, cond_true, cond_false]
          all_goals rfl
      | false =>
        try simp only [hc267, cond_true, cond_false]
        all_goals rfl
    | false =>
      try simp only [hc266, cond_true, cond_false]
      all_goals rfl
  | false =>
    try simp only [hc265, cond_true, cond_false]
    all_goals rfl
def S_md_sumSign : zSp := fun as g => match as with
  | [.int x] => some (true, (some (.int (w_md_sumSign x g.1 g.2.1)), (g.1, g.2.1, g.2.2)))
  | _ => none
theorem k_md_sumSign {X : Nat × (Nat → Int32)} : ∀ args g o, S_md_sumSign args g = some (true, o) → zR2 X zFT zE0 (zC 167) 0 args [] g o := by
  intro args g o h
  obtain ⟨ar, fi, m1, m2, m3, m4, m5⟩ := g
  unfold S_md_sumSign at h
  split at h
  · have h1 := h
    have h2 := Option.some.inj h1
    have hG := congrArg Prod.fst h2
    have ho := congrArg Prod.snd h2
    clear h h1 h2
    dsimp only at hG ho
    subst ho
    exact zseg_ret (e_md_sumSign)
  · cases h
def f_md_beginsText (x : Int32) (ar fi : Nat → Nat → Int32) : Nat → Nat → Int32 := (zup (zup (zup (zup fi 64 (zup (fi 64) 7 0)) 64 (zup ((zup fi 64 (zup (fi 64) 7 0)) 64) 8 x)) 64 (zup ((zup (zup fi 64 (zup (fi 64) 7 0)) 64 (zup ((zup fi 64 (zup (fi 64) 7 0)) 64) 8 x)) 64) 12 0)) 64 (zup ((zup (zup (zup fi 64 (zup (fi 64) 7 0)) 64 (zup ((zup fi 64 (zup (fi 64) 7 0)) 64) 8 x)) 64 (zup ((zup (zup fi 64 (zup (fi 64) 7 0)) 64 (zup ((zup fi 64 (zup (fi 64) 7 0)) 64) 8 x)) 64) 12 0)) 64) 14 0))
set_option maxRecDepth 10000 in
theorem t_md_beginsText {X : Nat × (Nat → Int32)} {ar fi : Nat → Nat → Int32} {m : zM5} {x : Int32} : zseg X zFT zE0 zc_178 (fun _ => false) 400 0 [.ref 64, .int x] [] (ar, fi, m) = (
  some (.inr (none, (ar, (zup (zup (zup (zup fi 64 (zup (fi 64) 7 0)) 64 (zup ((zup fi 64 (zup (fi 64) 7 0)) 64) 8 x)) 64 (zup ((zup (zup fi 64 (zup (fi 64) 7 0)) 64 (zup ((zup fi 64 (zup (fi 64) 7 0)) 64) 8 x)) 64) 12 0)) 64 (zup ((zup (zup (zup fi 64 (zup (fi 64) 7 0)) 64 (zup ((zup fi 64 (zup (fi 64) 7 0)) 64) 8 x)) 64 (zup ((zup (zup fi 64 (zup (fi 64) 7 0)) 64 (zup ((zup fi 64 (zup (fi 64) 7 0)) 64) 8 x)) 64) 12 0)) 64) 14 0)), m))) : Option ((Nat × List Value × List Value × zH2) ⊕ zO2)) := rfl
theorem e_md_beginsText {X : Nat × (Nat → Int32)} {ar fi : Nat → Nat → Int32} {m : zM5} {x : Int32} : zseg X zFT zE0 zc_178 (fun _ => false) 400 0 [.ref 64, .int x] [] (ar, fi, m) = some (.inr (none, (ar, f_md_beginsText x ar fi, m))) := by
  rw [t_md_beginsText]
  show _ = (some (.inr (none, (ar, (zup (zup (zup (zup fi 64 (zup (fi 64) 7 0)) 64 (zup ((zup fi 64 (zup (fi 64) 7 0)) 64) 8 x)) 64 (zup ((zup (zup fi 64 (zup (fi 64) 7 0)) 64 (zup ((zup fi 64 (zup (fi 64) 7 0)) 64) 8 x)) 64) 12 0)) 64 (zup ((zup (zup (zup fi 64 (zup (fi 64) 7 0)) 64 (zup ((zup fi 64 (zup (fi 64) 7 0)) 64) 8 x)) 64 (zup ((zup (zup fi 64 (zup (fi 64) 7 0)) 64 (zup ((zup fi 64 (zup (fi 64) 7 0)) 64) 8 x)) 64) 12 0)) 64) 14 0)), m))) : Option ((Nat × List Value × List Value × zH2) ⊕ zO2))
  all_goals rfl
def S_md_beginsText : zSp := fun as g => match as with
  | [.ref q0, .int x] => bif (Nat.beq q0 64) then some (true, (none, (g.1, f_md_beginsText x g.1 g.2.1, g.2.2))) else none
  | _ => none
theorem k_md_beginsText {X : Nat × (Nat → Int32)} : ∀ args g o, S_md_beginsText args g = some (true, o) → zR2 X zFT zE0 (zC 178) 0 args [] g o := by
  intro args g o h
  obtain ⟨ar, fi, m1, m2, m3, m4, m5⟩ := g
  unfold S_md_beginsText at h
  split at h
  · refine zb_el h (fun hI h1 => ?_) (fun _ h1 => by cases h1)
    have h2 := Option.some.inj h1
    have hG := congrArg Prod.fst h2
    have ho := congrArg Prod.snd h2
    clear h h1 h2
    dsimp only at hG ho
    subst ho
    try simp only [Bool.and_eq_true] at hI
    have hI0 := hI
    obtain rfl := Nat.eq_of_beq_eq_true hI0
    exact zseg_ret (e_md_beginsText)
  · cases h
def w_md_reckon (x : Int32) (y : Int32) (z : Int32) (ar fi : Nat → Nat → Int32) : Int32 := (bif decide (x = 2) then y + z else (bif decide (x = 3) then y - z else (bif decide (x = 4) then y * z else (bif decide (x = 5) then y / z else (bif decide (x = 6) then y - y / z * z else (bif decide (x = 7) then (bif decide (z ≤ y) then 0 else 1) else (bif decide (x = 8) then (bif decide (y ≤ z) then 0 else 1) else (bif !decide (y = z) then 0 else 1))))))))
def g_md_reckon (x : Int32) (y : Int32) (z : Int32) (ar fi : Nat → Nat → Int32) : Bool := bif decide (x = 2) then true else bif decide (x = 3) then true else bif decide (x = 4) then true else bif decide (x = 5) then !decide (z = 0) else bif decide (x = 6) then !decide (z = 0) else true
set_option maxRecDepth 10000 in
theorem t_md_reckon {X : Nat × (Nat → Int32)} {ar fi : Nat → Nat → Int32} {m : zM5} {x y z : Int32} : zseg X zFT zE0 zc_180 (fun _ => false) 400 0 [.int x, .int y, .int z] [] (ar, fi, m) = (
  bif decide (x = 2) then
   some (.inr (some (.int (y + z)), (ar, fi, m)))
  else
   bif decide (x = 3) then
    some (.inr (some (.int (y - z)), (ar, fi, m)))
   else
    bif decide (x = 4) then
     some (.inr (some (.int (y * z)), (ar, fi, m)))
    else
     bif decide (x = 5) then
      zg (!decide (z = 0)) (
      some (.inr (some (.int (y / z)), (ar, fi, m))))
     else
      bif decide (x = 6) then
       zg (!decide (z = 0)) (
       some (.inr (some (.int (y - y / z * z)), (ar, fi, m))))
      else
       bif decide (x = 7) then
        bif decide (z ≤ y) then
         some (.inr (some (.int 0), (ar, fi, m)))
        else
         some (.inr (some (.int 1), (ar, fi, m)))
       else
        bif decide (x = 8) then
         bif decide (y ≤ z) then
          some (.inr (some (.int 0), (ar, fi, m)))
         else
          some (.inr (some (.int 1), (ar, fi, m)))
        else
         bif !decide (y = z) then
          some (.inr (some (.int 0), (ar, fi, m)))
         else
          some (.inr (some (.int 1), (ar, fi, m))) : Option ((Nat × List Value × List Value × zH2) ⊕ zO2)) := rfl
theorem e_md_reckon {X : Nat × (Nat → Int32)} {ar fi : Nat → Nat → Int32} {m : zM5} {x y z : Int32} (hG : g_md_reckon x y z ar fi = true) : zseg X zFT zE0 zc_180 (fun _ => false) 400 0 [.int x, .int y, .int z] [] (ar, fi, m) = some (.inr (some (.int (w_md_reckon x y z ar fi)), (ar, fi, m))) := by
  rw [t_md_reckon]
  have hG : (bif decide (x = 2) then true else bif decide (x = 3) then true else bif decide (x = 4) then true else bif decide (x = 5) then !decide (z = 0) else bif decide (x = 6) then !decide (z = 0) else true) = true := hG
  show _ = (some (.inr (some (.int (bif decide (x = 2) then y + z else (bif decide (x = 3) then y - z else (bif decide (x = 4) then y * z else (bif decide (x = 5) then y / z else (bif decide (x = 6) then y - y / z * z else (bif decide (x = 7) then (bif decide (z ≤ y) then 0 else 1) else (bif decide (x = 8) then (bif decide (y ≤ z) then 0 else 1) else (bif !decide (y = z) then 0 else 1))))))))), (ar, fi, m))) : Option ((Nat × List Value × List Value × zH2) ⊕ zO2))
  cases hc270 : (decide (x = 2)) with
  | true =>
    try simp only [hc270, cond_true, cond_false] at hG ⊢
    all_goals first | rfl | (simp only [zg, hG, cond_true]; done) | (simp only [Bool.and_eq_true, Bool.true_and, Bool.and_true] at hG; simp only [zg, hG, cond_true]; done)
  | false =>
    try simp only [hc270, cond_true, cond_false] at hG ⊢
    cases hc271 : (decide (x = 3)) with
    | true =>
      try simp only [hc271, cond_true, cond_false] at hG ⊢
      all_goals first | rfl | (simp only [zg, hG, cond_true]; done) | (simp only [Bool.and_eq_true, Bool.true_and, Bool.and_true] at hG; simp only [zg, hG, cond_true]; done)
    | false =>
      try simp only [hc271, cond_true, cond_false] at hG ⊢
      cases hc272 : (decide (x = 4)) with
      | true =>
        try simp only [hc272, cond_true, cond_false] at hG ⊢
        all_goals first | rfl | (simp only [zg, hG, cond_true]; done) | (simp only [Bool.and_eq_true, Bool.true_and, Bool.and_true] at hG; simp only [zg, hG, cond_true]; done)
      | false =>
        try simp only [hc272, cond_true, cond_false] at hG ⊢
        cases hc273 : (decide (x = 5)) with
        | true =>
          try simp only [hc273, cond_true, cond_false] at hG ⊢
          all_goals first | rfl | (simp only [zg, hG, cond_true]; done) | (simp only [Bool.and_eq_true, Bool.true_and, Bool.and_true] at hG; simp only [zg, hG, cond_true]; done)
        | false =>
          try simp only [hc273, cond_true, cond_false] at hG ⊢
          cases hc274 : (decide (x = 6)) with
          | true =>
            try simp only [hc274, cond_true, cond_false] at hG ⊢
            all_goals first | rfl | (simp only [zg, hG, cond_true]; done) | (simp only [Bool.and_eq_true, Bool.true_and, Bool.and_true] at hG; simp only [zg, hG, cond_true]; done)
          | false =>
            try simp only [hc274, cond_true, cond_false] at hG ⊢
            cases hc275 : (decide (x = 7)) with
            | true =>
              try simp only [hc275, cond_true, cond_false] at hG ⊢
              cases hc276 : (decide (z ≤ y)) with
              | true =>
                try simp only [hc276, cond_true, cond_false] at hG ⊢
                all_goals first | rfl | (simp only [zg, hG, cond_true]; done) | (simp only [Bool.and_eq_true, Bool.true_and, Bool.and_true] at hG; simp only [zg, hG, cond_true]; done)
              | false =>
                try simp only [hc276, cond_true, cond_false] at hG ⊢
                all_goals first | rfl | (simp only [zg, hG, cond_true]; done) | (simp only [Bool.and_eq_true, Bool.true_and, Bool.and_true] at hG; simp only [zg, hG, cond_true]; done)
            | false =>
              try simp only [hc275, cond_true, cond_false] at hG ⊢
              cases hc277 : (decide (x = 8)) with
              | true =>
                try simp only [hc277, cond_true, cond_false] at hG ⊢
                cases hc278 : (decide (y ≤ z)) with
                | true =>
                  try simp only [hc278, cond_true, cond_false] at hG ⊢
                  all_goals first | rfl | (simp only [zg, hG, cond_true]; done) | (simp only [Bool.and_eq_true, Bool.true_and, Bool.and_true] at hG; simp only [zg, hG, cond_true]; done)
                | false =>
                  try simp only [hc278, cond_true, cond_false] at hG ⊢
                  all_goals first | rfl | (simp only [zg, hG, cond_true]; done) | (simp only [Bool.and_eq_true, Bool.true_and, Bool.and_true] at hG; simp only [zg, hG, cond_true]; done)
              | false =>
                try simp only [hc277, cond_true, cond_false] at hG ⊢
                cases hc279 : (!decide (y = z)) with
                | true =>
                  try simp only [hc279, cond_true, cond_false] at hG ⊢
                  all_goals first | rfl | (simp only [zg, hG, cond_true]; done) | (simp only [Bool.and_eq_true, Bool.true_and, Bool.and_true] at hG; simp only [zg, hG, cond_true]; done)
                | false =>
                  try simp only [hc279, cond_true, cond_false] at hG ⊢
                  all_goals first | rfl | (simp only [zg, hG, cond_true]; done) | (simp only [Bool.and_eq_true, Bool.true_and, Bool.and_true] at hG; simp only [zg, hG, cond_true]; done)
def S_md_reckon : zSp := fun as g => match as with
  | [.int x, .int y, .int z] => some (g_md_reckon x y z g.1 g.2.1, (some (.int (w_md_reckon x y z g.1 g.2.1)), (g.1, g.2.1, g.2.2)))
  | _ => none
theorem k_md_reckon {X : Nat × (Nat → Int32)} : ∀ args g o, S_md_reckon args g = some (true, o) → zR2 X zFT zE0 (zC 180) 0 args [] g o := by
  intro args g o h
  obtain ⟨ar, fi, m1, m2, m3, m4, m5⟩ := g
  unfold S_md_reckon at h
  split at h
  · have h1 := h
    have h2 := Option.some.inj h1
    have hG := congrArg Prod.fst h2
    have ho := congrArg Prod.snd h2
    clear h h1 h2
    dsimp only at hG ho
    subst ho
    exact zseg_ret (e_md_reckon hG)
  · cases h
def w_md_kindBy (x : Int32) (ar fi : Nat → Nat → Int32) : Int32 := (bif !decide (x = 46) then (bif !decide (x = 35) then (bif !decide (x = 43) then (bif !decide (x = 126) then (-1) else 3) else 2) else 1) else 0)
set_option maxRecDepth 10000 in
theorem t_md_kindBy {X : Nat × (Nat → Int32)} {ar fi : Nat → Nat → Int32} {m : zM5} {x : Int32} : zseg X zFT zE0 zc_184 (fun _ => false) 400 0 [.int x] [] (ar, fi, m) = (
  bif !decide (x = 46) then
   bif !decide (x = 35) then
    bif !decide (x = 43) then
     bif !decide (x = 126) then
      some (.inr (some (.int (-1)), (ar, fi, m)))
     else
      some (.inr (some (.int 3), (ar, fi, m)))
    else
     some (.inr (some (.int 2), (ar, fi, m)))
   else
    some (.inr (some (.int 1), (ar, fi, m)))
  else
   some (.inr (some (.int 0), (ar, fi, m))) : Option ((Nat × List Value × List Value × zH2) ⊕ zO2)) := rfl
theorem e_md_kindBy {X : Nat × (Nat → Int32)} {ar fi : Nat → Nat → Int32} {m : zM5} {x : Int32} : zseg X zFT zE0 zc_184 (fun _ => false) 400 0 [.int x] [] (ar, fi, m) = some (.inr (some (.int (w_md_kindBy x ar fi)), (ar, fi, m))) := by
  rw [t_md_kindBy]
  show _ = (some (.inr (some (.int (bif !decide (x = 46) then (bif !decide (x = 35) then (bif !decide (x = 43) then (bif !decide (x = 126) then (-1) else 3) else 2) else 1) else 0)), (ar, fi, m))) : Option ((Nat × List Value × List Value × zH2) ⊕ zO2))
  cases hc280 : (!decide (x = 46)) with
  | true =>
    try simp only [hc280, cond_true, cond_false]
    cases hc281 : (!decide (x = 35)) with
    | true =>
      try simp only [hc281, cond_true, cond_false]
      cases hc282 : (!decide (x = 43)) with
      | true =>
        try simp only [hc282, cond_true, cond_false]
        cases hc283 : (!decide (x = 126)) with
        | true =>
          try simp only [hc283, cond_true, cond_false]
          all_goals rfl
        | false =>
          try simp only [hc283, cond_true, cond_false]
          all_goals rfl
      | false =>
        try simp only [hc282, cond_true, cond_false]
        all_goals rfl
    | false =>
      try simp only [hc281, cond_true, cond_false]
      all_goals rfl
  | false =>
    try simp only [hc280, cond_true, cond_false]
    all_goals rfl
def S_md_kindBy : zSp := fun as g => match as with
  | [.int x] => some (true, (some (.int (w_md_kindBy x g.1 g.2.1)), (g.1, g.2.1, g.2.2)))
  | _ => none
theorem k_md_kindBy {X : Nat × (Nat → Int32)} : ∀ args g o, S_md_kindBy args g = some (true, o) → zR2 X zFT zE0 (zC 184) 0 args [] g o := by
  intro args g o h
  obtain ⟨ar, fi, m1, m2, m3, m4, m5⟩ := g
  unfold S_md_kindBy at h
  split at h
  · have h1 := h
    have h2 := Option.some.inj h1
    have hG := congrArg Prod.fst h2
    have ho := congrArg Prod.snd h2
    clear h h1 h2
    dsimp only at hG ho
    subst ho
    exact zseg_ret (e_md_kindBy)
  · cases h
def a_md_becomesWhole (x : Int32) (ar fi : Nat → Nat → Int32) : Nat → Nat → Int32 := (zup (zup ar 65 (zup (ar 65) ((0 + x).toNatClampNeg) 0)) 65 (zup (zup (ar 65) ((0 + x).toNatClampNeg) 0) ((96 + x).toNatClampNeg) 0))
def g_md_becomesWhole (x : Int32) (ar fi : Nat → Nat → Int32) : Bool := (zin (0 + x) 315) && (zin (96 + x) 315)
set_option maxRecDepth 10000 in
theorem t_md_becomesWhole {X : Nat × (Nat → Int32)} {ar fi : Nat → Nat → Int32} {m : zM5} {x : Int32} : zseg X zFT zE0 zc_188 (fun _ => false) 400 0 [.ref 64, .int x] [] (ar, fi, m) = (
  zg (zin (0 + x) 315) (
  zg (zin (96 + x) 315) (
  some (.inr (none, ((zup (zup ar 65 (zup (ar 65) ((0 + x).toNatClampNeg) 0)) 65 (zup (zup (ar 65) ((0 + x).toNatClampNeg) 0) ((96 + x).toNatClampNeg) 0)), fi, m))))) : Option ((Nat × List Value × List Value × zH2) ⊕ zO2)) := rfl
theorem e_md_becomesWhole {X : Nat × (Nat → Int32)} {ar fi : Nat → Nat → Int32} {m : zM5} {x : Int32} (hG : g_md_becomesWhole x ar fi = true) : zseg X zFT zE0 zc_188 (fun _ => false) 400 0 [.ref 64, .int x] [] (ar, fi, m) = some (.inr (none, (a_md_becomesWhole x ar fi, fi, m))) := by
  rw [t_md_becomesWhole]
  have hG : ((zin (0 + x) 315) && (zin (96 + x) 315)) = true := hG
  show _ = (some (.inr (none, ((zup (zup ar 65 (zup (ar 65) ((0 + x).toNatClampNeg) 0)) 65 (zup (zup (ar 65) ((0 + x).toNatClampNeg) 0) ((96 + x).toNatClampNeg) 0)), fi, m))) : Option ((Nat × List Value × List Value × zH2) ⊕ zO2))
  all_goals first | rfl | (simp only [zg, hG, cond_true]; done) | (simp only [Bool.and_eq_true, Bool.true_and, Bool.and_true] at hG; simp only [zg, hG, cond_true]; done)
def S_md_becomesWhole : zSp := fun as g => match as with
  | [.ref q0, .int x] => bif (Nat.beq q0 64) then some (g_md_becomesWhole x g.1 g.2.1, (none, (a_md_becomesWhole x g.1 g.2.1, g.2.1, g.2.2))) else none
  | _ => none
theorem k_md_becomesWhole {X : Nat × (Nat → Int32)} : ∀ args g o, S_md_becomesWhole args g = some (true, o) → zR2 X zFT zE0 (zC 188) 0 args [] g o := by
  intro args g o h
  obtain ⟨ar, fi, m1, m2, m3, m4, m5⟩ := g
  unfold S_md_becomesWhole at h
  split at h
  · refine zb_el h (fun hI h1 => ?_) (fun _ h1 => by cases h1)
    have h2 := Option.some.inj h1
    have hG := congrArg Prod.fst h2
    have ho := congrArg Prod.snd h2
    clear h h1 h2
    dsimp only at hG ho
    subst ho
    try simp only [Bool.and_eq_true] at hI
    have hI0 := hI
    obtain rfl := Nat.eq_of_beq_eq_true hI0
    exact zseg_ret (e_md_becomesWhole hG)
  · cases h
def w_md_draws (ar fi : Nat → Nat → Int32) : Int32 := ((zup (ar 65) ((314 : Int32).toNatClampNeg) (((25173 * ((ar 65) ((314 : Int32).toNatClampNeg))) + 13849) - ((25173 * ((ar 65) ((314 : Int32).toNatClampNeg))) + 13849) / 65536 * 65536)) ((314 : Int32).toNatClampNeg)) - ((zup (ar 65) ((314 : Int32).toNatClampNeg) (((25173 * ((ar 65) ((314 : Int32).toNatClampNeg))) + 13849) - ((25173 * ((ar 65) ((314 : Int32).toNatClampNeg))) + 13849) / 65536 * 65536)) ((314 : Int32).toNatClampNeg)) / 10 * 10
def a_md_draws (ar fi : Nat → Nat → Int32) : Nat → Nat → Int32 := (zup ar 65 (zup (ar 65) ((314 : Int32).toNatClampNeg) (((25173 * ((ar 65) ((314 : Int32).toNatClampNeg))) + 13849) - ((25173 * ((ar 65) ((314 : Int32).toNatClampNeg))) + 13849) / 65536 * 65536)))
def g_md_draws (ar fi : Nat → Nat → Int32) : Bool := (zin 314 315) && ((zin 314 315) && (zin 314 315))
set_option maxRecDepth 10000 in
theorem t_md_draws {X : Nat × (Nat → Int32)} {ar fi : Nat → Nat → Int32} {m : zM5} : zseg X zFT zE0 zc_201 (fun _ => false) 400 0 [.ref 64] [] (ar, fi, m) = (
  zg (zin 314 315) (
  zg (zin 314 315) (
  zg (zin 314 315) (
  some (.inr (some (.int (((zup (ar 65) ((314 : Int32).toNatClampNeg) (((25173 * ((ar 65) ((314 : Int32).toNatClampNeg))) + 13849) - ((25173 * ((ar 65) ((314 : Int32).toNatClampNeg))) + 13849) / 65536 * 65536)) ((314 : Int32).toNatClampNeg)) - ((zup (ar 65) ((314 : Int32).toNatClampNeg) (((25173 * ((ar 65) ((314 : Int32).toNatClampNeg))) + 13849) - ((25173 * ((ar 65) ((314 : Int32).toNatClampNeg))) + 13849) / 65536 * 65536)) ((314 : Int32).toNatClampNeg)) / 10 * 10)), ((zup ar 65 (zup (ar 65) ((314 : Int32).toNatClampNeg) (((25173 * ((ar 65) ((314 : Int32).toNatClampNeg))) + 13849) - ((25173 * ((ar 65) ((314 : Int32).toNatClampNeg))) + 13849) / 65536 * 65536))), fi, m)))))) : Option ((Nat × List Value × List Value × zH2) ⊕ zO2)) := rfl
theorem e_md_draws {X : Nat × (Nat → Int32)} {ar fi : Nat → Nat → Int32} {m : zM5} (hG : g_md_draws ar fi = true) : zseg X zFT zE0 zc_201 (fun _ => false) 400 0 [.ref 64] [] (ar, fi, m) = some (.inr (some (.int (w_md_draws ar fi)), (a_md_draws ar fi, fi, m))) := by
  rw [t_md_draws]
  have hG : ((zin 314 315) && ((zin 314 315) && (zin 314 315))) = true := hG
  show _ = (some (.inr (some (.int (((zup (ar 65) ((314 : Int32).toNatClampNeg) (((25173 * ((ar 65) ((314 : Int32).toNatClampNeg))) + 13849) - ((25173 * ((ar 65) ((314 : Int32).toNatClampNeg))) + 13849) / 65536 * 65536)) ((314 : Int32).toNatClampNeg)) - ((zup (ar 65) ((314 : Int32).toNatClampNeg) (((25173 * ((ar 65) ((314 : Int32).toNatClampNeg))) + 13849) - ((25173 * ((ar 65) ((314 : Int32).toNatClampNeg))) + 13849) / 65536 * 65536)) ((314 : Int32).toNatClampNeg)) / 10 * 10)), ((zup ar 65 (zup (ar 65) ((314 : Int32).toNatClampNeg) (((25173 * ((ar 65) ((314 : Int32).toNatClampNeg))) + 13849) - ((25173 * ((ar 65) ((314 : Int32).toNatClampNeg))) + 13849) / 65536 * 65536))), fi, m))) : Option ((Nat × List Value × List Value × zH2) ⊕ zO2))
  all_goals first | rfl | (simp only [zg, hG, cond_true]; done) | (simp only [Bool.and_eq_true, Bool.true_and, Bool.and_true] at hG; simp only [zg, hG, cond_true]; done)
def S_md_draws : zSp := fun as g => match as with
  | [.ref q0] => bif (Nat.beq q0 64) then some (g_md_draws g.1 g.2.1, (some (.int (w_md_draws g.1 g.2.1)), (a_md_draws g.1 g.2.1, g.2.1, g.2.2))) else none
  | _ => none
theorem k_md_draws {X : Nat × (Nat → Int32)} : ∀ args g o, S_md_draws args g = some (true, o) → zR2 X zFT zE0 (zC 201) 0 args [] g o := by
  intro args g o h
  obtain ⟨ar, fi, m1, m2, m3, m4, m5⟩ := g
  unfold S_md_draws at h
  split at h
  · refine zb_el h (fun hI h1 => ?_) (fun _ h1 => by cases h1)
    have h2 := Option.some.inj h1
    have hG := congrArg Prod.fst h2
    have ho := congrArg Prod.snd h2
    clear h h1 h2
    dsimp only at hG ho
    subst ho
    try simp only [Bool.and_eq_true] at hI
    have hI0 := hI
    obtain rfl := Nat.eq_of_beq_eq_true hI0
    exact zseg_ret (e_md_draws hG)
  · cases h
def a_md_visits (x : Int32) (y : Int32) (ar fi : Nat → Nat → Int32) : Nat → Nat → Int32 := (bif decide ((ar 90) (x.toNatClampNeg) = (-1)) then (zup (zup ar 90 (zup (ar 90) (x.toNatClampNeg) y)) 87 (zup (ar 87) ((fi 64 40).toNatClampNeg) x)) else ar)
def f_md_visits (x : Int32) (y : Int32) (ar fi : Nat → Nat → Int32) : Nat → Nat → Int32 := (bif decide ((ar 90) (x.toNatClampNeg) = (-1)) then (zup fi 64 (zup (fi 64) 40 ((fi 64 40) + 1))) else fi)
def g_md_visits (x : Int32) (y : Int32) (ar fi : Nat → Nat → Int32) : Bool := (zin x 192) && (bif decide ((ar 90) (x.toNatClampNeg) = (-1)) then (zin x 192) && (zin (fi 64 40) 192) else true)
set_option maxRecDepth 10000 in
theorem t_md_visits {X : Nat × (Nat → Int32)} {ar fi : Nat → Nat → Int32} {m : zM5} {x y : Int32} : zseg X zFT zE0 zc_224 (fun _ => false) 400 0 [.ref 64, .int x, .int y] [] (ar, fi, m) = (
  zg (zin x 192) (
  bif decide ((ar 90) (x.toNatClampNeg) = (-1)) then
   zg (zin x 192) (
   zg (zin (fi 64 40) 192) (
   some (.inr (none, ((zup (zup ar 90 (zup (ar 90) (x.toNatClampNeg) y)) 87 (zup (ar 87) ((fi 64 40).toNatClampNeg) x)), (zup fi 64 (zup (fi 64) 40 ((fi 64 40) + 1))), m)))))
  else
   some (.inr (none, (ar, fi, m)))) : Option ((Nat × List Value × List Value × zH2) ⊕ zO2)) := rfl
theorem e_md_visits {X : Nat × (Nat → Int32)} {ar fi : Nat → Nat → Int32} {m : zM5} {x y : Int32} (hG : g_md_visits x y ar fi = true) : zseg X zFT zE0 zc_224 (fun _ => false) 400 0 [.ref 64, .int x, .int y] [] (ar, fi, m) = some (.inr (none, (a_md_visits x y ar fi, f_md_visits x y ar fi, m))) := by
  rw [t_md_visits]
  have hG : ((zin x 192) && (bif decide ((ar 90) (x.toNatClampNeg) = (-1)) then (zin x 192) && (zin (fi 64 40) 192) else true)) = true := hG
  show _ = (some (.inr (none, ((bif decide ((ar 90) (x.toNatClampNeg) = (-1)) then (zup (zup ar 90 (zup (ar 90) (x.toNatClampNeg) y)) 87 (zup (ar 87) ((fi 64 40).toNatClampNeg) x)) else ar), (bif decide ((ar 90) (x.toNatClampNeg) = (-1)) then (zup fi 64 (zup (fi 64) 40 ((fi 64 40) + 1))) else fi), m))) : Option ((Nat × List Value × List Value × zH2) ⊕ zO2))
  cases hc284 : (decide ((ar 90) (x.toNatClampNeg) = (-1))) with
  | true =>
    try simp only [hc284, cond_true, cond_false] at hG ⊢
    all_goals first | rfl | (simp only [zg, hG, cond_true]; done) | (simp only [Bool.and_eq_true, Bool.true_and, Bool.and_true] at hG; simp only [zg, hG, cond_true]; done)
  | false =>
    try simp only [hc284, cond_true, cond_false] at hG ⊢
    all_goals first | rfl | (simp only [zg, hG, cond_true]; done) | (simp only [Bool.and_eq_true, Bool.true_and, Bool.and_true] at hG; simp only [zg, hG, cond_true]; done)
def S_md_visits : zSp := fun as g => match as with
  | [.ref q0, .int x, .int y] => bif (Nat.beq q0 64) then some (g_md_visits x y g.1 g.2.1, (none, (a_md_visits x y g.1 g.2.1, f_md_visits x y g.1 g.2.1, g.2.2))) else none
  | _ => none
theorem k_md_visits {X : Nat × (Nat → Int32)} : ∀ args g o, S_md_visits args g = some (true, o) → zR2 X zFT zE0 (zC 224) 0 args [] g o := by
  intro args g o h
  obtain ⟨ar, fi, m1, m2, m3, m4, m5⟩ := g
  unfold S_md_visits at h
  split at h
  · refine zb_el h (fun hI h1 => ?_) (fun _ h1 => by cases h1)
    have h2 := Option.some.inj h1
    have hG := congrArg Prod.fst h2
    have ho := congrArg Prod.snd h2
    clear h h1 h2
    dsimp only at hG ho
    subst ho
    try simp only [Bool.and_eq_true] at hI
    have hI0 := hI
    obtain rfl := Nat.eq_of_beq_eq_true hI0
    exact zseg_ret (e_md_visits hG)
  · cases h
def w_md_isAtEdge (x : Int32) (ar fi : Nat → Nat → Int32) : Int32 := (bif decide (x - x / 12 * 12 = 0) then 1 else (bif decide (x - x / 12 * 12 = 11) then 1 else (bif decide (x / 12 = 0) then 1 else (bif !decide (x / 12 = 7) then 0 else 1))))
set_option maxRecDepth 10000 in
theorem t_md_isAtEdge {X : Nat × (Nat → Int32)} {ar fi : Nat → Nat → Int32} {m : zM5} {x : Int32} : zseg X zFT zE0 zc_229 (fun _ => false) 400 0 [.int x] [] (ar, fi, m) = (
  bif decide (x - x / 12 * 12 = 0) then
   some (.inr (some (.int 1), (ar, fi, m)))
  else
   bif decide (x - x / 12 * 12 = 11) then
    some (.inr (some (.int 1), (ar, fi, m)))
   else
    bif decide (x / 12 = 0) then
     some (.inr (some (.int 1), (ar, fi, m)))
    else
     bif !decide (x / 12 = 7) then
      some (.inr (some (.int 0), (ar, fi, m)))
     else
      some (.inr (some (.int 1), (ar, fi, m))) : Option ((Nat × List Value × List Value × zH2) ⊕ zO2)) := rfl
theorem e_md_isAtEdge {X : Nat × (Nat → Int32)} {ar fi : Nat → Nat → Int32} {m : zM5} {x : Int32} : zseg X zFT zE0 zc_229 (fun _ => false) 400 0 [.int x] [] (ar, fi, m) = some (.inr (some (.int (w_md_isAtEdge x ar fi)), (ar, fi, m))) := by
  rw [t_md_isAtEdge]
  show _ = (some (.inr (some (.int (bif decide (x - x / 12 * 12 = 0) then 1 else (bif decide (x - x / 12 * 12 = 11) then 1 else (bif decide (x / 12 = 0) then 1 else (bif !decide (x / 12 = 7) then 0 else 1))))), (ar, fi, m))) : Option ((Nat × List Value × List Value × zH2) ⊕ zO2))
  cases hc285 : (decide (x - x / 12 * 12 = 0)) with
  | true =>
    try simp only [hc285, cond_true, cond_false]
    all_goals rfl
  | false =>
    try simp only [hc285, cond_true, cond_false]
    cases hc286 : (decide (x - x / 12 * 12 = 11)) with
    | true =>
      try simp only [hc286, cond_true, cond_false]
      all_goals rfl
    | false =>
      try simp only [hc286, cond_true, cond_false]
      cases hc287 : (decide (x / 12 = 0)) with
      | true =>
        try simp only [hc287, cond_true, cond_false]
        all_goals rfl
      | false =>
        try simp only [hc287, cond_true, cond_false]
        cases hc288 : (!decide (x / 12 = 7)) with
        | true =>
          try simp only [hc288, cond_true, cond_false]
          all_goals rfl
        | false =>
          try simp only [hc288, cond_true, cond_false]
          all_goals rfl
def S_md_isAtEdge : zSp := fun as g => match as with
  | [.int x] => some (true, (some (.int (w_md_isAtEdge x g.1 g.2.1)), (g.1, g.2.1, g.2.2)))
  | _ => none
theorem k_md_isAtEdge {X : Nat × (Nat → Int32)} : ∀ args g o, S_md_isAtEdge args g = some (true, o) → zR2 X zFT zE0 (zC 229) 0 args [] g o := by
  intro args g o h
  obtain ⟨ar, fi, m1, m2, m3, m4, m5⟩ := g
  unfold S_md_isAtEdge at h
  split at h
  · have h1 := h
    have h2 := Option.some.inj h1
    have hG := congrArg Prod.fst h2
    have ho := congrArg Prod.snd h2
    clear h h1 h2
    dsimp only at hG ho
    subst ho
    exact zseg_ret (e_md_isAtEdge)
  · cases h
def w_in_bitCount (x : Int32) (ar fi : Nat → Nat → Int32) : Int32 := (((((((x - (((Int32.toUInt32 x >>> (Int32.toUInt32 1 &&& Int32.toUInt32 31)).toInt32) &&& 1431655765)) &&& 858993459) + (((Int32.toUInt32 (x - (((Int32.toUInt32 x >>> (Int32.toUInt32 1 &&& Int32.toUInt32 31)).toInt32) &&& 1431655765)) >>> (Int32.toUInt32 2 &&& Int32.toUInt32 31)).toInt32) &&& 858993459)) + ((Int32.toUInt32 (((x - (((Int32.toUInt32 x >>> (Int32.toUInt32 1 &&& Int32.toUInt32 31)).toInt32) &&& 1431655765)) &&& 858993459) + (((Int32.toUInt32 (x - (((Int32.toUInt32 x >>> (Int32.toUInt32 1 &&& Int32.toUInt32 31)).toInt32) &&& 1431655765)) >>> (Int32.toUInt32 2 &&& Int32.toUInt32 31)).toInt32) &&& 858993459)) >>> (Int32.toUInt32 4 &&& Int32.toUInt32 31)).toInt32)) &&& 252645135) + ((Int32.toUInt32 (((((x - (((Int32.toUInt32 x >>> (Int32.toUInt32 1 &&& Int32.toUInt32 31)).toInt32) &&& 1431655765)) &&& 858993459) + (((Int32.toUInt32 (x - (((Int32.toUInt32 x >>> (Int32.toUInt32 1 &&& Int32.toUInt32 31)).toInt32) &&& 1431655765)) >>> (Int32.toUInt32 2 &&& Int32.toUInt32 31)).toInt32) &&& 858993459)) + ((Int32.toUInt32 (((x - (((Int32.toUInt32 x >>> (Int32.toUInt32 1 &&& Int32.toUInt32 31)).toInt32) &&& 1431655765)) &&& 858993459) + (((Int32.toUInt32 (x - (((Int32.toUInt32 x >>> (Int32.toUInt32 1 &&& Int32.toUInt32 31)).toInt32) &&& 1431655765)) >>> (Int32.toUInt32 2 &&& Int32.toUInt32 31)).toInt32) &&& 858993459)) >>> (Int32.toUInt32 4 &&& Int32.toUInt32 31)).toInt32)) &&& 252645135) >>> (Int32.toUInt32 8 &&& Int32.toUInt32 31)).toInt32)) + ((Int32.toUInt32 ((((((x - (((Int32.toUInt32 x >>> (Int32.toUInt32 1 &&& Int32.toUInt32 31)).toInt32) &&& 1431655765)) &&& 858993459) + (((Int32.toUInt32 (x - (((Int32.toUInt32 x >>> (Int32.toUInt32 1 &&& Int32.toUInt32 31)).toInt32) &&& 1431655765)) >>> (Int32.toUInt32 2 &&& Int32.toUInt32 31)).toInt32) &&& 858993459)) + ((Int32.toUInt32 (((x - (((Int32.toUInt32 x >>> (Int32.toUInt32 1 &&& Int32.toUInt32 31)).toInt32) &&& 1431655765)) &&& 858993459) + (((Int32.toUInt32 (x - (((Int32.toUInt32 x >>> (Int32.toUInt32 1 &&& Int32.toUInt32 31)).toInt32) &&& 1431655765)) >>> (Int32.toUInt32 2 &&& Int32.toUInt32 31)).toInt32) &&& 858993459)) >>> (Int32.toUInt32 4 &&& Int32.toUInt32 31)).toInt32)) &&& 252645135) + ((Int32.toUInt32 (((((x - (((Int32.toUInt32 x >>> (Int32.toUInt32 1 &&& Int32.toUInt32 31)).toInt32) &&& 1431655765)) &&& 858993459) + (((Int32.toUInt32 (x - (((Int32.toUInt32 x >>> (Int32.toUInt32 1 &&& Int32.toUInt32 31)).toInt32) &&& 1431655765)) >>> (Int32.toUInt32 2 &&& Int32.toUInt32 31)).toInt32) &&& 858993459)) + ((Int32.toUInt32 (((x - (((Int32.toUInt32 x >>> (Int32.toUInt32 1 &&& Int32.toUInt32 31)).toInt32) &&& 1431655765)) &&& 858993459) + (((Int32.toUInt32 (x - (((Int32.toUInt32 x >>> (Int32.toUInt32 1 &&& Int32.toUInt32 31)).toInt32) &&& 1431655765)) >>> (Int32.toUInt32 2 &&& Int32.toUInt32 31)).toInt32) &&& 858993459)) >>> (Int32.toUInt32 4 &&& Int32.toUInt32 31)).toInt32)) &&& 252645135) >>> (Int32.toUInt32 8 &&& Int32.toUInt32 31)).toInt32)) >>> (Int32.toUInt32 16 &&& Int32.toUInt32 31)).toInt32)) &&& 63
set_option maxRecDepth 10000 in
theorem t_in_bitCount {X : Nat × (Nat → Int32)} {ar fi : Nat → Nat → Int32} {m : zM5} {x : Int32} : zseg X zFT zE0 zc_250 (fun _ => false) 400 0 [.int x] [] (ar, fi, m) = (
  some (.inr (some (.int ((((((((x - (((Int32.toUInt32 x >>> (Int32.toUInt32 1 &&& Int32.toUInt32 31)).toInt32) &&& 1431655765)) &&& 858993459) + (((Int32.toUInt32 (x - (((Int32.toUInt32 x >>> (Int32.toUInt32 1 &&& Int32.toUInt32 31)).toInt32) &&& 1431655765)) >>> (Int32.toUInt32 2 &&& Int32.toUInt32 31)).toInt32) &&& 858993459)) + ((Int32.toUInt32 (((x - (((Int32.toUInt32 x >>> (Int32.toUInt32 1 &&& Int32.toUInt32 31)).toInt32) &&& 1431655765)) &&& 858993459) + (((Int32.toUInt32 (x - (((Int32.toUInt32 x >>> (Int32.toUInt32 1 &&& Int32.toUInt32 31)).toInt32) &&& 1431655765)) >>> (Int32.toUInt32 2 &&& Int32.toUInt32 31)).toInt32) &&& 858993459)) >>> (Int32.toUInt32 4 &&& Int32.toUInt32 31)).toInt32)) &&& 252645135) + ((Int32.toUInt32 (((((x - (((Int32.toUInt32 x >>> (Int32.toUInt32 1 &&& Int32.toUInt32 31)).toInt32) &&& 1431655765)) &&& 858993459) + (((Int32.toUInt32 (x - (((Int32.toUInt32 x >>> (Int32.toUInt32 1 &&& Int32.toUInt32 31)).toInt32) &&& 1431655765)) >>> (Int32.toUInt32 2 &&& Int32.toUInt32 31)).toInt32) &&& 858993459)) + ((Int32.toUInt32 (((x - (((Int32.toUInt32 x >>> (Int32.toUInt32 1 &&& Int32.toUInt32 31)).toInt32) &&& 1431655765)) &&& 858993459) + (((Int32.toUInt32 (x - (((Int32.toUInt32 x >>> (Int32.toUInt32 1 &&& Int32.toUInt32 31)).toInt32) &&& 1431655765)) >>> (Int32.toUInt32 2 &&& Int32.toUInt32 31)).toInt32) &&& 858993459)) >>> (Int32.toUInt32 4 &&& Int32.toUInt32 31)).toInt32)) &&& 252645135) >>> (Int32.toUInt32 8 &&& Int32.toUInt32 31)).toInt32)) + ((Int32.toUInt32 ((((((x - (((Int32.toUInt32 x >>> (Int32.toUInt32 1 &&& Int32.toUInt32 31)).toInt32) &&& 1431655765)) &&& 858993459) + (((Int32.toUInt32 (x - (((Int32.toUInt32 x >>> (Int32.toUInt32 1 &&& Int32.toUInt32 31)).toInt32) &&& 1431655765)) >>> (Int32.toUInt32 2 &&& Int32.toUInt32 31)).toInt32) &&& 858993459)) + ((Int32.toUInt32 (((x - (((Int32.toUInt32 x >>> (Int32.toUInt32 1 &&& Int32.toUInt32 31)).toInt32) &&& 1431655765)) &&& 858993459) + (((Int32.toUInt32 (x - (((Int32.toUInt32 x >>> (Int32.toUInt32 1 &&& Int32.toUInt32 31)).toInt32) &&& 1431655765)) >>> (Int32.toUInt32 2 &&& Int32.toUInt32 31)).toInt32) &&& 858993459)) >>> (Int32.toUInt32 4 &&& Int32.toUInt32 31)).toInt32)) &&& 252645135) + ((Int32.toUInt32 (((((x - (((Int32.toUInt32 x >>> (Int32.toUInt32 1 &&& Int32.toUInt32 31)).toInt32) &&& 1431655765)) &&& 858993459) + (((Int32.toUInt32 (x - (((Int32.toUInt32 x >>> (Int32.toUInt32 1 &&& Int32.toUInt32 31)).toInt32) &&& 1431655765)) >>> (Int32.toUInt32 2 &&& Int32.toUInt32 31)).toInt32) &&& 858993459)) + ((Int32.toUInt32 (((x - (((Int32.toUInt32 x >>> (Int32.toUInt32 1 &&& Int32.toUInt32 31)).toInt32) &&& 1431655765)) &&& 858993459) + (((Int32.toUInt32 (x - (((Int32.toUInt32 x >>> (Int32.toUInt32 1 &&& Int32.toUInt32 31)).toInt32) &&& 1431655765)) >>> (Int32.toUInt32 2 &&& Int32.toUInt32 31)).toInt32) &&& 858993459)) >>> (Int32.toUInt32 4 &&& Int32.toUInt32 31)).toInt32)) &&& 252645135) >>> (Int32.toUInt32 8 &&& Int32.toUInt32 31)).toInt32)) >>> (Int32.toUInt32 16 &&& Int32.toUInt32 31)).toInt32)) &&& 63)), (ar, fi, m))) : Option ((Nat × List Value × List Value × zH2) ⊕ zO2)) := rfl
theorem e_in_bitCount {X : Nat × (Nat → Int32)} {ar fi : Nat → Nat → Int32} {m : zM5} {x : Int32} : zseg X zFT zE0 zc_250 (fun _ => false) 400 0 [.int x] [] (ar, fi, m) = some (.inr (some (.int (w_in_bitCount x ar fi)), (ar, fi, m))) := by
  rw [t_in_bitCount]
  show _ = (some (.inr (some (.int ((((((((x - (((Int32.toUInt32 x >>> (Int32.toUInt32 1 &&& Int32.toUInt32 31)).toInt32) &&& 1431655765)) &&& 858993459) + (((Int32.toUInt32 (x - (((Int32.toUInt32 x >>> (Int32.toUInt32 1 &&& Int32.toUInt32 31)).toInt32) &&& 1431655765)) >>> (Int32.toUInt32 2 &&& Int32.toUInt32 31)).toInt32) &&& 858993459)) + ((Int32.toUInt32 (((x - (((Int32.toUInt32 x >>> (Int32.toUInt32 1 &&& Int32.toUInt32 31)).toInt32) &&& 1431655765)) &&& 858993459) + (((Int32.toUInt32 (x - (((Int32.toUInt32 x >>> (Int32.toUInt32 1 &&& Int32.toUInt32 31)).toInt32) &&& 1431655765)) >>> (Int32.toUInt32 2 &&& Int32.toUInt32 31)).toInt32) &&& 858993459)) >>> (Int32.toUInt32 4 &&& Int32.toUInt32 31)).toInt32)) &&& 252645135) + ((Int32.toUInt32 (((((x - (((Int32.toUInt32 x >>> (Int32.toUInt32 1 &&& Int32.toUInt32 31)).toInt32) &&& 1431655765)) &&& 858993459) + (((Int32.toUInt32 (x - (((Int32.toUInt32 x >>> (Int32.toUInt32 1 &&& Int32.toUInt32 31)).toInt32) &&& 1431655765)) >>> (Int32.toUInt32 2 &&& Int32.toUInt32 31)).toInt32) &&& 858993459)) + ((Int32.toUInt32 (((x - (((Int32.toUInt32 x >>> (Int32.toUInt32 1 &&& Int32.toUInt32 31)).toInt32) &&& 1431655765)) &&& 858993459) + (((Int32.toUInt32 (x - (((Int32.toUInt32 x >>> (Int32.toUInt32 1 &&& Int32.toUInt32 31)).toInt32) &&& 1431655765)) >>> (Int32.toUInt32 2 &&& Int32.toUInt32 31)).toInt32) &&& 858993459)) >>> (Int32.toUInt32 4 &&& Int32.toUInt32 31)).toInt32)) &&& 252645135) >>> (Int32.toUInt32 8 &&& Int32.toUInt32 31)).toInt32)) + ((Int32.toUInt32 ((((((x - (((Int32.toUInt32 x >>> (Int32.toUInt32 1 &&& Int32.toUInt32 31)).toInt32) &&& 1431655765)) &&& 858993459) + (((Int32.toUInt32 (x - (((Int32.toUInt32 x >>> (Int32.toUInt32 1 &&& Int32.toUInt32 31)).toInt32) &&& 1431655765)) >>> (Int32.toUInt32 2 &&& Int32.toUInt32 31)).toInt32) &&& 858993459)) + ((Int32.toUInt32 (((x - (((Int32.toUInt32 x >>> (Int32.toUInt32 1 &&& Int32.toUInt32 31)).toInt32) &&& 1431655765)) &&& 858993459) + (((Int32.toUInt32 (x - (((Int32.toUInt32 x >>> (Int32.toUInt32 1 &&& Int32.toUInt32 31)).toInt32) &&& 1431655765)) >>> (Int32.toUInt32 2 &&& Int32.toUInt32 31)).toInt32) &&& 858993459)) >>> (Int32.toUInt32 4 &&& Int32.toUInt32 31)).toInt32)) &&& 252645135) + ((Int32.toUInt32 (((((x - (((Int32.toUInt32 x >>> (Int32.toUInt32 1 &&& Int32.toUInt32 31)).toInt32) &&& 1431655765)) &&& 858993459) + (((Int32.toUInt32 (x - (((Int32.toUInt32 x >>> (Int32.toUInt32 1 &&& Int32.toUInt32 31)).toInt32) &&& 1431655765)) >>> (Int32.toUInt32 2 &&& Int32.toUInt32 31)).toInt32) &&& 858993459)) + ((Int32.toUInt32 (((x - (((Int32.toUInt32 x >>> (Int32.toUInt32 1 &&& Int32.toUInt32 31)).toInt32) &&& 1431655765)) &&& 858993459) + (((Int32.toUInt32 (x - (((Int32.toUInt32 x >>> (Int32.toUInt32 1 &&& Int32.toUInt32 31)).toInt32) &&& 1431655765)) >>> (Int32.toUInt32 2 &&& Int32.toUInt32 31)).toInt32) &&& 858993459)) >>> (Int32.toUInt32 4 &&& Int32.toUInt32 31)).toInt32)) &&& 252645135) >>> (Int32.toUInt32 8 &&& Int32.toUInt32 31)).toInt32)) >>> (Int32.toUInt32 16 &&& Int32.toUInt32 31)).toInt32)) &&& 63)), (ar, fi, m))) : Option ((Nat × List Value × List Value × zH2) ⊕ zO2))
  all_goals rfl
def S_in_bitCount : zSp := fun as g => match as with
  | [.int x] => some (true, (some (.int (w_in_bitCount x g.1 g.2.1)), (g.1, g.2.1, g.2.2)))
  | _ => none
theorem k_in_bitCount {X : Nat × (Nat → Int32)} : ∀ args g o, S_in_bitCount args g = some (true, o) → zR2 X zFT zE0 (zC 250) 0 args [] g o := by
  intro args g o h
  obtain ⟨ar, fi, m1, m2, m3, m4, m5⟩ := g
  unfold S_in_bitCount at h
  split at h
  · have h1 := h
    have h2 := Option.some.inj h1
    have hG := congrArg Prod.fst h2
    have ho := congrArg Prod.snd h2
    clear h h1 h2
    dsimp only at hG ho
    subst ho
    exact zseg_ret (e_in_bitCount)
  · cases h
def zT1 : zTE := (zEx 250 S_in_bitCount (zEx 229 S_md_isAtEdge (zEx 224 S_md_visits (zEx 201 S_md_draws (zEx 188 S_md_becomesWhole (zEx 184 S_md_kindBy (zEx 180 S_md_reckon (zEx 178 S_md_beginsText (zEx 167 S_md_sumSign (zEx 166 S_md_factOf (zEx 165 S_md_waitTop (zEx 163 S_md_notes (zEx 160 S_md_wrongAt (zEx 158 S_md_here (zEx 157 S_md_octet (zEx 146 S_md_has (zEx 145 S_md_size (zEx 144 S_md_max (zEx 143 S_md_in (zEx 140 S_if_nextTo (zEx 137 S_if_isWithin (zEx 107 S_tn_kindOf (zEx 99 S_tx_answerOr (zEx 97 S_tx_fail (zEx 95 S_tx_skip (zEx 93 S_tx_sign (zEx 92 S_tx_isAtEnd (zEx 91 S_tx_isGood (zEx 87 S_sc_paidFor (zEx 79 S_sc_isGone (zEx 78 S_sc_isTold (zEx 74 S_sc_isWoodOnFire (zEx 73 S_sc_isWholeWood (zEx 72 S_sc_draw (zEx 71 S_sc_setState (zEx 47 S_lw_reckon (zEx 42 S_lw_asksFor (zEx 40 S_lw_emit (zEx 39 S_lw_endRule (zEx 38 S_lw_beginCondition (zEx 37 S_lw_beginRule (zEx 36 S_lw_clear (zEx 34 S_gr_isEdge (zEx 33 S_gr_isFreeAt (zEx 28 S_gr_reach (zEx 14 S_cu_visit (zEx 4 S_cl_nearer zE0)))))))))))))))))))))))))))))))))))))))))))))))
theorem zOkE_zT1 (X : Nat × (Nat → Int32)) : zOkE X zT1 1 := zOk_many (zOk0 X) [(250, S_in_bitCount), (229, S_md_isAtEdge), (224, S_md_visits), (201, S_md_draws), (188, S_md_becomesWhole), (184, S_md_kindBy), (180, S_md_reckon), (178, S_md_beginsText), (167, S_md_sumSign), (166, S_md_factOf), (165, S_md_waitTop), (163, S_md_notes), (160, S_md_wrongAt), (158, S_md_here), (157, S_md_octet), (146, S_md_has), (145, S_md_size), (144, S_md_max), (143, S_md_in), (140, S_if_nextTo), (137, S_if_isWithin), (107, S_tn_kindOf), (99, S_tx_answerOr), (97, S_tx_fail), (95, S_tx_skip), (93, S_tx_sign), (92, S_tx_isAtEnd), (91, S_tx_isGood), (87, S_sc_paidFor), (79, S_sc_isGone), (78, S_sc_isTold), (74, S_sc_isWoodOnFire), (73, S_sc_isWholeWood), (72, S_sc_draw), (71, S_sc_setState), (47, S_lw_reckon), (42, S_lw_asksFor), (40, S_lw_emit), (39, S_lw_endRule), (38, S_lw_beginCondition), (37, S_lw_beginRule), (36, S_lw_clear), (34, S_gr_isEdge), (33, S_gr_isFreeAt), (28, S_gr_reach), (14, S_cu_visit), (4, S_cl_nearer)] (by
  intro q hq
  simp only [List.mem_cons, List.not_mem_nil, or_false] at hq
  rcases hq with rfl | rfl | rfl | rfl | rfl | rfl | rfl | rfl | rfl | rfl | rfl | rfl | rfl | rfl | rfl | rfl | rfl | rfl | rfl | rfl | rfl | rfl | rfl | rfl | rfl | rfl | rfl | rfl | rfl | rfl | rfl | rfl | rfl | rfl | rfl | rfl | rfl | rfl | rfl | rfl | rfl | rfl | rfl | rfl | rfl | rfl | rfl <;> intro args g o h
  · exact k_in_bitCount args g o h
  · exact k_md_isAtEdge args g o h
  · exact k_md_visits args g o h
  · exact k_md_draws args g o h
  · exact k_md_becomesWhole args g o h
  · exact k_md_kindBy args g o h
  · exact k_md_reckon args g o h
  · exact k_md_beginsText args g o h
  · exact k_md_sumSign args g o h
  · exact k_md_factOf args g o h
  · exact k_md_waitTop args g o h
  · exact k_md_notes args g o h
  · exact k_md_wrongAt args g o h
  · exact k_md_here args g o h
  · exact k_md_octet args g o h
  · exact k_md_has args g o h
  · exact k_md_size args g o h
  · exact k_md_max args g o h
  · exact k_md_in args g o h
  · exact k_if_nextTo args g o h
  · exact k_if_isWithin args g o h
  · exact k_tn_kindOf args g o h
  · exact k_tx_answerOr args g o h
  · exact k_tx_fail args g o h
  · exact k_tx_skip args g o h
  · exact k_tx_sign args g o h
  · exact k_tx_isAtEnd args g o h
  · exact k_tx_isGood args g o h
  · exact k_sc_paidFor args g o h
  · exact k_sc_isGone args g o h
  · exact k_sc_isTold args g o h
  · exact k_sc_isWoodOnFire args g o h
  · exact k_sc_isWholeWood args g o h
  · exact k_sc_draw args g o h
  · exact k_sc_setState args g o h
  · exact k_lw_reckon args g o h
  · exact k_lw_asksFor args g o h
  · exact k_lw_emit args g o h
  · exact k_lw_endRule args g o h
  · exact k_lw_beginCondition args g o h
  · exact k_lw_beginRule args g o h
  · exact k_lw_clear args g o h
  · exact k_gr_isEdge args g o h
  · exact k_gr_isFreeAt args g o h
  · exact k_gr_reach args g o h
  · exact k_cu_visit args g o h
  · exact k_cl_nearer args g o h)
