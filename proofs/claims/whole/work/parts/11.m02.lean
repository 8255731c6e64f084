def w_tx_answerOr (x : Int32) (p0 : Int32) (p1 : Int32) : Int32 := (bif !decide (p0 = 0) then ((-1000) * (p0)) - (p1) else x)
def P_tx_answerOr (W : Int32 → Int32 → Int32 → Int32) : zSp := fun as g => match as with
  | [.ref a, .int x] => bif Nat.beq a 40 && Nat.beq g.2.2.2.2.1 1 then some (true, (some (.int (W x (g.2.1 40 2) (g.2.1 40 3))), (g.1, g.2.1, g.2.2))) else bif Nat.beq a 44 && Nat.beq g.2.2.2.2.2.1 1 then some (true, (some (.int (W x (g.2.1 44 2) (g.2.1 44 3))), (g.1, g.2.1, g.2.2))) else bif Nat.beq a 47 && Nat.beq g.2.2.2.2.2.2 1 then some (true, (some (.int (W x (g.2.1 47 2) (g.2.1 47 3))), (g.1, g.2.1, g.2.2))) else none
  | _ => none
abbrev S_tx_answerOr : zSp := P_tx_answerOr w_tx_answerOr
set_option maxRecDepth 10000 in
theorem t_tx_answerOr_40 {X : Nat × (Nat → Int32)} {ar fi : Nat → Nat → Int32} {m1 m2 m4 m5 : Nat} {x : Int32} : zseg X zFT zE0 zc_99 (fun _ => false) 400 0 [.ref 40, .int x] [] (ar, fi, (m1, m2, 1, m4, m5)) = (
  bif !decide (fi 40 2 = 0) then
   some (.inr (some (.int (((-1000) * (fi 40 2)) - (fi 40 3))), (ar, fi, (m1, m2, 1, m4, m5))))
  else
   some (.inr (some (.int x), (ar, fi, (m1, m2, 1, m4, m5)))) : Option ((Nat × List Value × List Value × zH2) ⊕ zO2)) := by with_unfolding_all rfl
set_option maxRecDepth 10000 in
theorem e_tx_answerOr_40 {X : Nat × (Nat → Int32)} {ar fi : Nat → Nat → Int32} {m1 m2 m4 m5 : Nat} {x : Int32} : zseg X zFT zE0 zc_99 (fun _ => false) 400 0 [.ref 40, .int x] [] (ar, fi, (m1, m2, 1, m4, m5)) = some (.inr (some (.int (w_tx_answerOr x (fi 40 2) (fi 40 3))), (ar, fi, (m1, m2, 1, m4, m5)))) := by
  rw [t_tx_answerOr_40]
  unfold w_tx_answerOr
  cases hc1 : (!decide (fi 40 2 = 0)) with
  | true =>
    try simp only [hc1, cond_true, cond_false]
    all_goals first | rfl | (refine congrArg some (congrArg Sum.inr (Prod.ext rfl (Prod.ext ?_ (Prod.ext ?_ rfl)))) <;> first | rfl | (funext b; simp only [zup]; (repeat' split) <;> first | rfl | omega | (subst_vars; rfl) | (subst_vars; funext k; simp only [zup]; (repeat' split) <;> first | rfl | omega | (subst_vars; rfl) | (simp_all; done))))
  | false =>
    try simp only [hc1, cond_true, cond_false]
    all_goals first | rfl | (refine congrArg some (congrArg Sum.inr (Prod.ext rfl (Prod.ext ?_ (Prod.ext ?_ rfl)))) <;> first | rfl | (funext b; simp only [zup]; (repeat' split) <;> first | rfl | omega | (subst_vars; rfl) | (subst_vars; funext k; simp only [zup]; (repeat' split) <;> first | rfl | omega | (subst_vars; rfl) | (simp_all; done))))
set_option maxRecDepth 10000 in
theorem t_tx_answerOr_44 {X : Nat × (Nat → Int32)} {ar fi : Nat → Nat → Int32} {m1 m2 m3 m5 : Nat} {x : Int32} : zseg X zFT zE0 zc_99 (fun _ => false) 400 0 [.ref 44, .int x] [] (ar, fi, (m1, m2, m3, 1, m5)) = (
  bif !decide (fi 44 2 = 0) then
   some (.inr (some (.int (((-1000) * (fi 44 2)) - (fi 44 3))), (ar, fi, (m1, m2, m3, 1, m5))))
  else
   some (.inr (some (.int x), (ar, fi, (m1, m2, m3, 1, m5)))) : Option ((Nat × List Value × List Value × zH2) ⊕ zO2)) := by with_unfolding_all rfl
set_option maxRecDepth 10000 in
theorem e_tx_answerOr_44 {X : Nat × (Nat → Int32)} {ar fi : Nat → Nat → Int32} {m1 m2 m3 m5 : Nat} {x : Int32} : zseg X zFT zE0 zc_99 (fun _ => false) 400 0 [.ref 44, .int x] [] (ar, fi, (m1, m2, m3, 1, m5)) = some (.inr (some (.int (w_tx_answerOr x (fi 44 2) (fi 44 3))), (ar, fi, (m1, m2, m3, 1, m5)))) := by
  rw [t_tx_answerOr_44]
  unfold w_tx_answerOr
  cases hc1 : (!decide (fi 44 2 = 0)) with
  | true =>
    try simp only [hc1, cond_true, cond_false]
    all_goals first | rfl | (refine congrArg some (congrArg Sum.inr (Prod.ext rfl (Prod.ext ?_ (Prod.ext ?_ rfl)))) <;> first | rfl | (funext b; simp only [zup]; (repeat' split) <;> first | rfl | omega | (subst_vars; rfl) | (subst_vars; funext k; simp only [zup]; (repeat' split) <;> first | rfl | omega | (subst_vars; rfl) | (simp_all; done))))
  | false =>
    try simp only [hc1, cond_true, cond_false]
    all_goals first | rfl | (refine congrArg some (congrArg Sum.inr (Prod.ext rfl (Prod.ext ?_ (Prod.ext ?_ rfl)))) <;> first | rfl | (funext b; simp only [zup]; (repeat' split) <;> first | rfl | omega | (subst_vars; rfl) | (subst_vars; funext k; simp only [zup]; (repeat' split) <;> first | rfl | omega | (subst_vars; rfl) | (simp_all; done))))
set_option maxRecDepth 10000 in
theorem t_tx_answerOr_47 {X : Nat × (Nat → Int32)} {ar fi : Nat → Nat → Int32} {m1 m2 m3 m4 : Nat} {x : Int32} : zseg X zFT zE0 zc_99 (fun _ => false) 400 0 [.ref 47, .int x] [] (ar, fi, (m1, m2, m3, m4, 1)) = (
  bif !decide (fi 47 2 = 0) then
   some (.inr (some (.int (((-1000) * (fi 47 2)) - (fi 47 3))), (ar, fi, (m1, m2, m3, m4, 1))))
  else
   some (.inr (some (.int x), (ar, fi, (m1, m2, m3, m4, 1)))) : Option ((Nat × List Value × List Value × zH2) ⊕ zO2)) := by with_unfolding_all rfl
set_option maxRecDepth 10000 in
theorem e_tx_answerOr_47 {X : Nat × (Nat → Int32)} {ar fi : Nat → Nat → Int32} {m1 m2 m3 m4 : Nat} {x : Int32} : zseg X zFT zE0 zc_99 (fun _ => false) 400 0 [.ref 47, .int x] [] (ar, fi, (m1, m2, m3, m4, 1)) = some (.inr (some (.int (w_tx_answerOr x (fi 47 2) (fi 47 3))), (ar, fi, (m1, m2, m3, m4, 1)))) := by
  rw [t_tx_answerOr_47]
  unfold w_tx_answerOr
  cases hc1 : (!decide (fi 47 2 = 0)) with
  | true =>
    try simp only [hc1, cond_true, cond_false]
    all_goals first | rfl | (refine congrArg some (congrArg Sum.inr (Prod.ext rfl (Prod.ext ?_ (Prod.ext ?_ rfl)))) <;> first | rfl | (funext b; simp only [zup]; (repeat' split) <;> first | rfl | omega | (subst_vars; rfl) | (subst_vars; funext k; simp only [zup]; (repeat' split) <;> first | rfl | omega | (subst_vars; rfl) | (simp_all; done))))
  | false =>
    try simp only [hc1, cond_true, cond_false]
    all_goals first | rfl | (refine congrArg some (congrArg Sum.inr (Prod.ext rfl (Prod.ext ?_ (Prod.ext ?_ rfl)))) <;> first | rfl | (funext b; simp only [zup]; (repeat' split) <;> first | rfl | omega | (subst_vars; rfl) | (subst_vars; funext k; simp only [zup]; (repeat' split) <;> first | rfl | omega | (subst_vars; rfl) | (simp_all; done))))
theorem ok_tx_answerOr (X : Nat × (Nat → Int32)) : zOkS X 99 S_tx_answerOr 1 := zOkS_new (zOkE_nil X 0) (by
  intro args g o h
  obtain ⟨ar, fi, m1, m2, m3, m4, m5⟩ := g
  unfold S_tx_answerOr P_tx_answerOr at h
  split at h
  · refine zb_el h (fun hI0 k0 => ?_) (fun _ h10 => ?_)
    · have h2 := Option.some.inj k0
      have hG := congrArg Prod.fst h2
      have ho := congrArg Prod.snd h2
      dsimp only at hG ho
      subst ho
      try simp only [Bool.and_eq_true] at hI0
      obtain ⟨j0, j1⟩ := hI0
      have e0 := Nat.eq_of_beq_eq_true j0
      subst e0
      have e9 : m3 = 1 := Nat.eq_of_beq_eq_true j1
      subst e9
      exact zseg_ret (e_tx_answerOr_40)
    · skip
      refine zb_el h10 (fun hI1 k1 => ?_) (fun _ h11 => ?_)
      · have h2 := Option.some.inj k1
        have hG := congrArg Prod.fst h2
        have ho := congrArg Prod.snd h2
        dsimp only at hG ho
        subst ho
        try simp only [Bool.and_eq_true] at hI1
        obtain ⟨j0, j1⟩ := hI1
        have e0 := Nat.eq_of_beq_eq_true j0
        subst e0
        have e9 : m4 = 1 := Nat.eq_of_beq_eq_true j1
        subst e9
        exact zseg_ret (e_tx_answerOr_44)
      · skip
        refine zb_el h11 (fun hI2 k2 => ?_) (fun _ h12 => ?_)
        · have h2 := Option.some.inj k2
          have hG := congrArg Prod.fst h2
          have ho := congrArg Prod.snd h2
          dsimp only at hG ho
          subst ho
          try simp only [Bool.and_eq_true] at hI2
          obtain ⟨j0, j1⟩ := hI2
          have e0 := Nat.eq_of_beq_eq_true j0
          subst e0
          have e9 : m5 = 1 := Nat.eq_of_beq_eq_true j1
          subst e9
          exact zseg_ret (e_tx_answerOr_47)
        · cases h12
  · cases h)
def w_tn_kindOf (x : Int32) : Int32 := (bif decide (x = 35) then 1 else (bif decide (x = 43) then 2 else (bif decide (x = 46) then 0 else (bif decide (x = 126) then 3 else (-1)))))
def P_tn_kindOf (W : Int32 → Int32) : zSp := fun as g => match as with
  | [.int x] => some (true, (some (.int (W x)), (g.1, g.2.1, g.2.2)))
  | _ => none
abbrev S_tn_kindOf : zSp := P_tn_kindOf w_tn_kindOf
set_option maxRecDepth 10000 in
theorem t_tn_kindOf {X : Nat × (Nat → Int32)} {ar fi : Nat → Nat → Int32} {m1 m2 m3 m4 m5 : Nat} {x : Int32} : zseg X zFT zE0 zc_107 (fun _ => false) 400 0 [.int x] [] (ar, fi, (m1, m2, m3, m4, m5)) = (
  bif decide (x = 35) then
   some (.inr (some (.int 1), (ar, fi, (m1, m2, m3, m4, m5))))
  else
   bif decide (x = 43) then
    some (.inr (some (.int 2), (ar, fi, (m1, m2, m3, m4, m5))))
   else
    bif decide (x = 46) then
     some (.inr (some (.int 0), (ar, fi, (m1, m2, m3, m4, m5))))
    else
     bif decide (x = 126) then
      some (.inr (some (.int 3), (ar, fi, (m1, m2, m3, m4, m5))))
     else
      some (.inr (some (.int (-1)), (ar, fi, (m1, m2, m3, m4, m5)))) : Option ((Nat × List Value × List Value × zH2) ⊕ zO2)) := by with_unfolding_all rfl
set_option maxRecDepth 10000 in
theorem e_tn_kindOf {X : Nat × (Nat → Int32)} {ar fi : Nat → Nat → Int32} {m1 m2 m3 m4 m5 : Nat} {x : Int32} : zseg X zFT zE0 zc_107 (fun _ => false) 400 0 [.int x] [] (ar, fi, (m1, m2, m3, m4, m5)) = some (.inr (some (.int (w_tn_kindOf x)), (ar, fi, (m1, m2, m3, m4, m5)))) := by
  rw [t_tn_kindOf]
  unfold w_tn_kindOf
  cases hc1 : (decide (x = 35)) with
  | true =>
    try simp only [hc1, cond_true, cond_false]
    all_goals first | rfl | (refine congrArg some (congrArg Sum.inr (Prod.ext rfl (Prod.ext ?_ (Prod.ext ?_ rfl)))) <;> first | rfl | (funext b; simp only [zup]; (repeat' split) <;> first | rfl | omega | (subst_vars; rfl) | (subst_vars; funext k; simp only [zup]; (repeat' split) <;> first | rfl | omega | (subst_vars; rfl) | (simp_all; done))))
  | false =>
    try simp only [hc1, cond_true, cond_false]
    cases hc2 : (decide (x = 43)) with
    | true =>
      try simp only [hc2, cond_true, cond_false]
      all_goals first | rfl | (refine congrArg some (congrArg Sum.inr (Prod.ext rfl (Prod.ext ?_ (Prod.ext ?_ rfl)))) <;> first | rfl | (funext b; simp only [zup]; (repeat' split) <;> first | rfl | omega | (subst_vars; rfl) | (subst_vars; funext k; simp only [zup]; (repeat' split) <;> first | rfl | omega | (subst_vars; rfl) | (simp_all; done))))
    | false =>
      try simp only [hc2, cond_true, cond_false]
      cases hc3 : (decide (x = 46)) with
      | true =>
        try simp only [hc3, cond_true, cond_false]
        all_goals first | rfl | (refine congrArg some (congrArg Sum.inr (Prod.ext rfl (Prod.ext ?_ (Prod.ext ?_ rfl)))) <;> first | rfl | (funext b; simp only [zup]; (repeat' split) <;> first | rfl | omega | (subst_vars; rfl) | (subst_vars; funext k; simp only [zup]; (repeat' split) <;> first | rfl | omega | (subst_vars; rfl) | (simp_all; done))))
      | false =>
        try simp only [hc3, cond_true, cond_false]
        cases hc4 : (decide (x = 126)) with
        | true =>
          try simp only [hc4, cond_true, cond_false]
          all_goals first | rfl | (refine congrArg some (congrArg Sum.inr (Prod.ext rfl (Prod.ext ?_ (Prod.ext ?_ rfl)))) <;> first | rfl | (funext b; simp only [zup]; (repeat' split) <;> first | rfl | omega | (subst_vars; rfl) | (subst_vars; funext k; simp only [zup]; (repeat' split) <;> first | rfl | omega | (subst_vars; rfl) | (simp_all; done))))
        | false =>
          try simp only [hc4, cond_true, cond_false]
          all_goals first | rfl | (refine congrArg some (congrArg Sum.inr (Prod.ext rfl (Prod.ext ?_ (Prod.ext ?_ rfl)))) <;> first | rfl | (funext b; simp only [zup]; (repeat' split) <;> first | rfl | omega | (subst_vars; rfl) | (subst_vars; funext k; simp only [zup]; (repeat' split) <;> first | rfl | omega | (subst_vars; rfl) | (simp_all; done))))
theorem ok_tn_kindOf (X : Nat × (Nat → Int32)) : zOkS X 107 S_tn_kindOf 1 := zOkS_new (zOkE_nil X 0) (by
  intro args g o h
  obtain ⟨ar, fi, m1, m2, m3, m4, m5⟩ := g
  unfold S_tn_kindOf P_tn_kindOf at h
  split at h
  · have h2 := Option.some.inj h
    have hG := congrArg Prod.fst h2
    have ho := congrArg Prod.snd h2
    dsimp only at hG ho
    subst ho
    exact zseg_ret (e_tn_kindOf)
  · cases h)
def w_if_isWithin (x : Int32) (y : Int32) (z : Int32) : Int32 := (bif decide (x < y) then 0 else (bif decide (z < x) then 0 else 1))
def P_if_isWithin (W : Int32 → Int32 → Int32 → Int32) : zSp := fun as g => match as with
  | [.int x, .int y, .int z] => some (true, (some (.int (W x y z)), (g.1, g.2.1, g.2.2)))
  | _ => none
abbrev S_if_isWithin : zSp := P_if_isWithin w_if_isWithin
set_option maxRecDepth 10000 in
theorem t_if_isWithin {X : Nat × (Nat → Int32)} {ar fi : Nat → Nat → Int32} {m1 m2 m3 m4 m5 : Nat} {x y z : Int32} : zseg X zFT zE0 zc_137 (fun _ => false) 400 0 [.int x, .int y, .int z] [] (ar, fi, (m1, m2, m3, m4, m5)) = (
  bif decide (x < y) then
   some (.inr (some (.int 0), (ar, fi, (m1, m2, m3, m4, m5))))
  else
   bif decide (z < x) then
    some (.inr (some (.int 0), (ar, fi, (m1, m2, m3, m4, m5))))
   else
    some (.inr (some (.int 1), (ar, fi, (m1, m2, m3, m4, m5)))) : Option ((Nat × List Value × List Value × zH2) ⊕ zO2)) := by with_unfolding_all rfl
set_option maxRecDepth 10000 in
theorem e_if_isWithin {X : Nat × (Nat → Int32)} {ar fi : Nat → Nat → Int32} {m1 m2 m3 m4 m5 : Nat} {x y z : Int32} : zseg X zFT zE0 zc_137 (fun _ => false) 400 0 [.int x, .int y, .int z] [] (ar, fi, (m1, m2, m3, m4, m5)) = some (.inr (some (.int (w_if_isWithin x y z)), (ar, fi, (m1, m2, m3, m4, m5)))) := by
  rw [t_if_isWithin]
  unfold w_if_isWithin
  cases hc1 : (decide (x < y)) with
  | true =>
    try simp only [hc1, cond_true, cond_false]
    all_goals first | rfl | (refine congrArg some (congrArg Sum.inr (Prod.ext rfl (Prod.ext ?_ (Prod.ext ?_ rfl)))) <;> first | rfl | (funext b; simp only [zup]; (repeat' split) <;> first | rfl | omega | (subst_vars; rfl) | (subst_vars; funext k; simp only [zup]; (repeat' split) <;> first | rfl | omega | (subst_vars; rfl) | (simp_all; done))))
  | false =>
    try simp only [hc1, cond_true, cond_false]
    cases hc2 : (decide (z < x)) with
    | true =>
      try simp only [hc2, cond_true, cond_false]
      all_goals first | rfl | (refine congrArg some (congrArg Sum.inr (Prod.ext rfl (Prod.ext ?_ (Prod.ext ?_ rfl)))) <;> first | rfl | (funext b; simp only [zup]; (repeat' split) <;> first | rfl | omega | (subst_vars; rfl) | (subst_vars; funext k; simp only [zup]; (repeat' split) <;> first | rfl | omega | (subst_vars; rfl) | (simp_all; done))))
    | false =>
      try simp only [hc2, cond_true, cond_false]
      all_goals first | rfl | (refine congrArg some (congrArg Sum.inr (Prod.ext rfl (Prod.ext ?_ (Prod.ext ?_ rfl)))) <;> first | rfl | (funext b; simp only [zup]; (repeat' split) <;> first | rfl | omega | (subst_vars; rfl) | (subst_vars; funext k; simp only [zup]; (repeat' split) <;> first | rfl | omega | (subst_vars; rfl) | (simp_all; done))))
theorem ok_if_isWithin (X : Nat × (Nat → Int32)) : zOkS X 137 S_if_isWithin 1 := zOkS_new (zOkE_nil X 0) (by
  intro args g o h
  obtain ⟨ar, fi, m1, m2, m3, m4, m5⟩ := g
  unfold S_if_isWithin P_if_isWithin at h
  split at h
  · have h2 := Option.some.inj h
    have hG := congrArg Prod.fst h2
    have ho := congrArg Prod.snd h2
    dsimp only at hG ho
    subst ho
    exact zseg_ret (e_if_isWithin)
  · cases h)
def w_if_nextTo (x : Int32) (y : Int32) : Int32 := (bif decide (y = 0) then (bif decide (x / 12 ≤ 0) then (-1) else x - 12) else (bif decide (y = 1) then (bif decide (11 ≤ x - x / 12 * 12) then (-1) else x + 1) else (bif decide (y = 2) then (bif decide (7 ≤ x / 12) then (-1) else x + 12) else (bif decide (x - x / 12 * 12 ≤ 0) then (-1) else x - 1))))
def P_if_nextTo (W : Int32 → Int32 → Int32) : zSp := fun as g => match as with
  | [.int x, .int y] => some (true, (some (.int (W x y)), (g.1, g.2.1, g.2.2)))
  | _ => none
abbrev S_if_nextTo : zSp := P_if_nextTo w_if_nextTo
set_option maxRecDepth 10000 in
theorem t_if_nextTo {X : Nat × (Nat → Int32)} {ar fi : Nat → Nat → Int32} {m1 m2 m3 m4 m5 : Nat} {x y : Int32} : zseg X zFT zE0 zc_140 (fun _ => false) 400 0 [.int x, .int y] [] (ar, fi, (m1, m2, m3, m4, m5)) = (
  bif decide (y = 0) then
   bif decide (x / 12 ≤ 0) then
    some (.inr (some (.int (-1)), (ar, fi, (m1, m2, m3, m4, m5))))
   else
    some (.inr (some (.int (x - 12)), (ar, fi, (m1, m2, m3, m4, m5))))
  else
   bif decide (y = 1) then
    bif decide (11 ≤ x - x / 12 * 12) then
     some (.inr (some (.int (-1)), (ar, fi, (m1, m2, m3, m4, m5))))
    else
     some (.inr (some (.int (x + 1)), (ar, fi, (m1, m2, m3, m4, m5))))
   else
    bif decide (y = 2) then
     bif decide (7 ≤ x / 12) then
      some (.inr (some (.int (-1)), (ar, fi, (m1, m2, m3, m4, m5))))
     else
      some (.inr (some (.int (x + 12)), (ar, fi, (m1, m2, m3, m4, m5))))
    else
     bif decide (x - x / 12 * 12 ≤ 0) then
      some (.inr (some (.int (-1)), (ar, fi, (m1, m2, m3, m4, m5))))
     else
      some (.inr (some (.int (x - 1)), (ar, fi, (m1, m2, m3, m4, m5)))) : Option ((Nat × List Value × List Value × zH2) ⊕ zO2)) := rfl
set_option maxRecDepth 10000 in
theorem e_if_nextTo {X : Nat × (Nat → Int32)} {ar fi : Nat → Nat → Int32} {m1 m2 m3 m4 m5 : Nat} {x y : Int32} : zseg X zFT zE0 zc_140 (fun _ => false) 400 0 [.int x, .int y] [] (ar, fi, (m1, m2, m3, m4, m5)) = some (.inr (some (.int (w_if_nextTo x y)), (ar, fi, (m1, m2, m3, m4, m5)))) := by
  rw [t_if_nextTo]
  unfold w_if_nextTo
  simp only [zm_s, zm_r, zm_p, zm_i, zm_e]
theorem ok_if_nextTo (X : Nat × (Nat → Int32)) : zOkS X 140 S_if_nextTo 1 := zOkS_new (zOkE_nil X 0) (by
  intro args g o h
  obtain ⟨ar, fi, m1, m2, m3, m4, m5⟩ := g
  unfold S_if_nextTo P_if_nextTo at h
  split at h
  · have h2 := Option.some.inj h
    have hG := congrArg Prod.fst h2
    have ho := congrArg Prod.snd h2
    dsimp only at hG ho
    subst ho
    exact zseg_ret (e_if_nextTo)
  · cases h)
def w_md_in (x : Int32) (y : Int32) (z : Int32) : Int32 := (bif decide (x < y) then 0 else (bif decide (z < x) then 0 else 1))
def P_md_in (W : Int32 → Int32 → Int32 → Int32) : zSp := fun as g => match as with
  | [.int x, .int y, .int z] => some (true, (some (.int (W x y z)), (g.1, g.2.1, g.2.2)))
  | _ => none
abbrev S_md_in : zSp := P_md_in w_md_in
set_option maxRecDepth 10000 in
theorem t_md_in {X : Nat × (Nat → Int32)} {ar fi : Nat → Nat → Int32} {m1 m2 m3 m4 m5 : Nat} {x y z : Int32} : zseg X zFT zE0 zc_143 (fun _ => false) 400 0 [.int x, .int y, .int z] [] (ar, fi, (m1, m2, m3, m4, m5)) = (
  bif decide (x < y) then
   some (.inr (some (.int 0), (ar, fi, (m1, m2, m3, m4, m5))))
  else
   bif decide (z < x) then
    some (.inr (some (.int 0), (ar, fi, (m1, m2, m3, m4, m5))))
   else
    some (.inr (some (.int 1), (ar, fi, (m1, m2, m3, m4, m5)))) : Option ((Nat × List Value × List Value × zH2) ⊕ zO2)) := by with_unfolding_all rfl
set_option maxRecDepth 10000 in
theorem e_md_in {X : Nat × (Nat → Int32)} {ar fi : Nat → Nat → Int32} {m1 m2 m3 m4 m5 : Nat} {x y z : Int32} : zseg X zFT zE0 zc_143 (fun _ => false) 400 0 [.int x, .int y, .int z] [] (ar, fi, (m1, m2, m3, m4, m5)) = some (.inr (some (.int (w_md_in x y z)), (ar, fi, (m1, m2, m3, m4, m5)))) := by
  rw [t_md_in]
  unfold w_md_in
  cases hc1 : (decide (x < y)) with
  | true =>
    try simp only [hc1, cond_true, cond_false]
    all_goals first | rfl | (refine congrArg some (congrArg Sum.inr (Prod.ext rfl (Prod.ext ?_ (Prod.ext ?_ rfl)))) <;> first | rfl | (funext b; simp only [zup]; (repeat' split) <;> first | rfl | omega | (subst_vars; rfl) | (subst_vars; funext k; simp only [zup]; (repeat' split) <;> first | rfl | omega | (subst_vars; rfl) | (simp_all; done))))
  | false =>
    try simp only [hc1, cond_true, cond_false]
    cases hc2 : (decide (z < x)) with
    | true =>
      try simp only [hc2, cond_true, cond_false]
      all_goals first | rfl | (refine congrArg some (congrArg Sum.inr (Prod.ext rfl (Prod.ext ?_ (Prod.ext ?_ rfl)))) <;> first | rfl | (funext b; simp only [zup]; (repeat' split) <;> first | rfl | omega | (subst_vars; rfl) | (subst_vars; funext k; simp only [zup]; (repeat' split) <;> first | rfl | omega | (subst_vars; rfl) | (simp_all; done))))
    | false =>
      try simp only [hc2, cond_true, cond_false]
      all_goals first | rfl | (refine congrArg some (congrArg Sum.inr (Prod.ext rfl (Prod.ext ?_ (Prod.ext ?_ rfl)))) <;> first | rfl | (funext b; simp only [zup]; (repeat' split) <;> first | rfl | omega | (subst_vars; rfl) | (subst_vars; funext k; simp only [zup]; (repeat' split) <;> first | rfl | omega | (subst_vars; rfl) | (simp_all; done))))
theorem ok_md_in (X : Nat × (Nat → Int32)) : zOkS X 143 S_md_in 1 := zOkS_new (zOkE_nil X 0) (by
  intro args g o h
  obtain ⟨ar, fi, m1, m2, m3, m4, m5⟩ := g
  unfold S_md_in P_md_in at h
  split at h
  · have h2 := Option.some.inj h
    have hG := congrArg Prod.fst h2
    have ho := congrArg Prod.snd h2
    dsimp only at hG ho
    subst ho
    exact zseg_ret (e_md_in)
  · cases h)
def w_md_max (x : Int32) (y : Int32) : Int32 := (bif decide (x ≤ y) then y else x)
def P_md_max (W : Int32 → Int32 → Int32) : zSp := fun as g => match as with
  | [.int x, .int y] => some (true, (some (.int (W x y)), (g.1, g.2.1, g.2.2)))
  | _ => none
abbrev S_md_max : zSp := P_md_max w_md_max
set_option maxRecDepth 10000 in
theorem t_md_max {X : Nat × (Nat → Int32)} {ar fi : Nat → Nat → Int32} {m1 m2 m3 m4 m5 : Nat} {x y : Int32} : zseg X zFT zE0 zc_144 (fun _ => false) 400 0 [.int x, .int y] [] (ar, fi, (m1, m2, m3, m4, m5)) = (
  bif decide (x ≤ y) then
   some (.inr (some (.int y), (ar, fi, (m1, m2, m3, m4, m5))))
  else
   some (.inr (some (.int x), (ar, fi, (m1, m2, m3, m4, m5)))) : Option ((Nat × List Value × List Value × zH2) ⊕ zO2)) := by with_unfolding_all rfl
set_option maxRecDepth 10000 in
theorem e_md_max {X : Nat × (Nat → Int32)} {ar fi : Nat → Nat → Int32} {m1 m2 m3 m4 m5 : Nat} {x y : Int32} : zseg X zFT zE0 zc_144 (fun _ => false) 400 0 [.int x, .int y] [] (ar, fi, (m1, m2, m3, m4, m5)) = some (.inr (some (.int (w_md_max x y)), (ar, fi, (m1, m2, m3, m4, m5)))) := by
  rw [t_md_max]
  unfold w_md_max
  cases hc1 : (decide (x ≤ y)) with
  | true =>
    try simp only [hc1, cond_true, cond_false]
    all_goals first | rfl | (refine congrArg some (congrArg Sum.inr (Prod.ext rfl (Prod.ext ?_ (Prod.ext ?_ rfl)))) <;> first | rfl | (funext b; simp only [zup]; (repeat' split) <;> first | rfl | omega | (subst_vars; rfl) | (subst_vars; funext k; simp only [zup]; (repeat' split) <;> first | rfl | omega | (subst_vars; rfl) | (simp_all; done))))
  | false =>
    try simp only [hc1, cond_true, cond_false]
    all_goals first | rfl | (refine congrArg some (congrArg Sum.inr (Prod.ext rfl (Prod.ext ?_ (Prod.ext ?_ rfl)))) <;> first | rfl | (funext b; simp only [zup]; (repeat' split) <;> first | rfl | omega | (subst_vars; rfl) | (subst_vars; funext k; simp only [zup]; (repeat' split) <;> first | rfl | omega | (subst_vars; rfl) | (simp_all; done))))
theorem ok_md_max (X : Nat × (Nat → Int32)) : zOkS X 144 S_md_max 1 := zOkS_new (zOkE_nil X 0) (by
  intro args g o h
  obtain ⟨ar, fi, m1, m2, m3, m4, m5⟩ := g
  unfold S_md_max P_md_max at h
  split at h
  · have h2 := Option.some.inj h
    have hG := congrArg Prod.fst h2
    have ho := congrArg Prod.snd h2
    dsimp only at hG ho
    subst ho
    exact zseg_ret (e_md_max)
  · cases h)
def w_md_size (x : Int32) : Int32 := (bif decide (0 ≤ x) then x else (-x))
def P_md_size (W : Int32 → Int32) : zSp := fun as g => match as with
  | [.int x] => some (true, (some (.int (W x)), (g.1, g.2.1, g.2.2)))
  | _ => none
abbrev S_md_size : zSp := P_md_size w_md_size
set_option maxRecDepth 10000 in
theorem t_md_size {X : Nat × (Nat → Int32)} {ar fi : Nat → Nat → Int32} {m1 m2 m3 m4 m5 : Nat} {x : Int32} : zseg X zFT zE0 zc_145 (fun _ => false) 400 0 [.int x] [] (ar, fi, (m1, m2, m3, m4, m5)) = (
  bif decide (0 ≤ x) then
   some (.inr (some (.int x), (ar, fi, (m1, m2, m3, m4, m5))))
  else
   some (.inr (some (.int (-x)), (ar, fi, (m1, m2, m3, m4, m5)))) : Option ((Nat × List Value × List Value × zH2) ⊕ zO2)) := by with_unfolding_all rfl
set_option maxRecDepth 10000 in
theorem e_md_size {X : Nat × (Nat → Int32)} {ar fi : Nat → Nat → Int32} {m1 m2 m3 m4 m5 : Nat} {x : Int32} : zseg X zFT zE0 zc_145 (fun _ => false) 400 0 [.int x] [] (ar, fi, (m1, m2, m3, m4, m5)) = some (.inr (some (.int (w_md_size x)), (ar, fi, (m1, m2, m3, m4, m5)))) := by
  rw [t_md_size]
  unfold w_md_size
  cases hc1 : (decide (0 ≤ x)) with
  | true =>
    try simp only [hc1, cond_true, cond_false]
    all_goals first | rfl | (refine congrArg some (congrArg Sum.inr (Prod.ext rfl (Prod.ext ?_ (Prod.ext ?_ rfl)))) <;> first | rfl | (funext b; simp only [zup]; (repeat' split) <;> first | rfl | omega | (subst_vars; rfl) | (subst_vars; funext k; simp only [zup]; (repeat' split) <;> first | rfl | omega | (subst_vars; rfl) | (simp_all; done))))
  | false =>
    try simp only [hc1, cond_true, cond_false]
    all_goals first | rfl | (refine congrArg some (congrArg Sum.inr (Prod.ext rfl (Prod.ext ?_ (Prod.ext ?_ rfl)))) <;> first | rfl | (funext b; simp only [zup]; (repeat' split) <;> first | rfl | omega | (subst_vars; rfl) | (subst_vars; funext k; simp only [zup]; (repeat' split) <;> first | rfl | omega | (subst_vars; rfl) | (simp_all; done))))
theorem ok_md_size (X : Nat × (Nat → Int32)) : zOkS X 145 S_md_size 1 := zOkS_new (zOkE_nil X 0) (by
  intro args g o h
  obtain ⟨ar, fi, m1, m2, m3, m4, m5⟩ := g
  unfold S_md_size P_md_size at h
  split at h
  · have h2 := Option.some.inj h
    have hG := congrArg Prod.fst h2
    have ho := congrArg Prod.snd h2
    dsimp only at hG ho
    subst ho
    exact zseg_ret (e_md_size)
  · cases h)
def w_md_has (x : Int32) (y : Int32) : Int32 := (bif !decide ((x >>> (y &&& 31)) &&& 1 = 1) then 0 else 1)
def P_md_has (W : Int32 → Int32 → Int32) : zSp := fun as g => match as with
  | [.int x, .int y] => some (true, (some (.int (W x y)), (g.1, g.2.1, g.2.2)))
  | _ => none
abbrev S_md_has : zSp := P_md_has w_md_has
set_option maxRecDepth 10000 in
theorem t_md_has {X : Nat × (Nat → Int32)} {ar fi : Nat → Nat → Int32} {m1 m2 m3 m4 m5 : Nat} {x y : Int32} : zseg X zFT zE0 zc_146 (fun _ => false) 400 0 [.int x, .int y] [] (ar, fi, (m1, m2, m3, m4, m5)) = (
  bif !decide ((x >>> (y &&& 31)) &&& 1 = 1) then
   some (.inr (some (.int 0), (ar, fi, (m1, m2, m3, m4, m5))))
  else
   some (.inr (some (.int 1), (ar, fi, (m1, m2, m3, m4, m5)))) : Option ((Nat × List Value × List Value × zH2) ⊕ zO2)) := by with_unfolding_all rfl
set_option maxRecDepth 10000 in
theorem e_md_has {X : Nat × (Nat → Int32)} {ar fi : Nat → Nat → Int32} {m1 m2 m3 m4 m5 : Nat} {x y : Int32} : zseg X zFT zE0 zc_146 (fun _ => false) 400 0 [.int x, .int y] [] (ar, fi, (m1, m2, m3, m4, m5)) = some (.inr (some (.int (w_md_has x y)), (ar, fi, (m1, m2, m3, m4, m5)))) := by
  rw [t_md_has]
  unfold w_md_has
  cases hc1 : (!decide ((x >>> (y &&& 31)) &&& 1 = 1)) with
  | true =>
    try simp only [hc1, cond_true, cond_false]
    all_goals first | rfl | (refine congrArg some (congrArg Sum.inr (Prod.ext rfl (Prod.ext ?_ (Prod.ext ?_ rfl)))) <;> first | rfl | (funext b; simp only [zup]; (repeat' split) <;> first | rfl | omega | (subst_vars; rfl) | (subst_vars; funext k; simp only [zup]; (repeat' split) <;> first | rfl | omega | (subst_vars; rfl) | (simp_all; done))))
  | false =>
    try simp only [hc1, cond_true, cond_false]
    all_goals first | rfl | (refine congrArg some (congrArg Sum.inr (Prod.ext rfl (Prod.ext ?_ (Prod.ext ?_ rfl)))) <;> first | rfl | (funext b; simp only [zup]; (repeat' split) <;> first | rfl | omega | (subst_vars; rfl) | (subst_vars; funext k; simp only [zup]; (repeat' split) <;> first | rfl | omega | (subst_vars; rfl) | (simp_all; done))))
theorem ok_md_has (X : Nat × (Nat → Int32)) : zOkS X 146 S_md_has 1 := zOkS_new (zOkE_nil X 0) (by
  intro args g o h
  obtain ⟨ar, fi, m1, m2, m3, m4, m5⟩ := g
  unfold S_md_has P_md_has at h
  split at h
  · have h2 := Option.some.inj h
    have hG := congrArg Prod.fst h2
    have ho := congrArg Prod.snd h2
    dsimp only at hG ho
    subst ho
    exact zseg_ret (e_md_has)
  · cases h)
def g_md_octet (x : Int32) (p0 : Nat → Int32) : Bool := zin x 260
def w_md_octet (x : Int32) (p0 : Nat → Int32) : Int32 := (p0 (x.toNatClampNeg)) &&& 255
def P_md_octet (G : Int32 → (Nat → Int32) → Bool) (W : Int32 → (Nat → Int32) → Int32) : zSp := fun as g => match as with
  | [.ref a, .int x] => bif Nat.beq a 64 then some (G x (g.1 70), (some (.int (W x (g.1 70))), (g.1, g.2.1, g.2.2))) else none
  | _ => none
abbrev S_md_octet : zSp := P_md_octet g_md_octet w_md_octet
set_option maxRecDepth 10000 in
theorem t_md_octet {X : Nat × (Nat → Int32)} {ar fi : Nat → Nat → Int32} {m1 m2 m3 m4 m5 : Nat} {x : Int32} : zseg X zFT zE0 zc_157 (fun _ => false) 400 0 [.ref 64, .int x] [] (ar, fi, (m1, m2, m3, m4, m5)) = (
  zg (zin x 260) (
  some (.inr (some (.int (((ar 70) (x.toNatClampNeg)) &&& 255)), (ar, fi, (m1, m2, m3, m4, m5))))) : Option ((Nat × List Value × List Value × zH2) ⊕ zO2)) := by with_unfolding_all rfl
set_option maxRecDepth 10000 in
theorem e_md_octet {X : Nat × (Nat → Int32)} {ar fi : Nat → Nat → Int32} {m1 m2 m3 m4 m5 : Nat} {x : Int32} (hG : g_md_octet x (ar 70) = true) : zseg X zFT zE0 zc_157 (fun _ => false) 400 0 [.ref 64, .int x] [] (ar, fi, (m1, m2, m3, m4, m5)) = some (.inr (some (.int (w_md_octet x (ar 70))), (ar, fi, (m1, m2, m3, m4, m5)))) := by
  rw [t_md_octet]
  unfold g_md_octet at hG
  unfold w_md_octet
  all_goals try simp only [Bool.and_eq_true, Bool.true_and, Bool.and_true] at hG
  all_goals try simp only [hG, zg, cond_true, and_self]
  all_goals first | rfl | (refine congrArg some (congrArg Sum.inr (Prod.ext rfl (Prod.ext ?_ (Prod.ext ?_ rfl)))) <;> first | rfl | (funext b; simp only [zup]; (repeat' split) <;> first | rfl | omega | (subst_vars; rfl) | (subst_vars; funext k; simp only [zup]; (repeat' split) <;> first | rfl | omega | (subst_vars; rfl) | (simp_all; done))))
theorem ok_md_octet (X : Nat × (Nat → Int32)) : zOkS X 157 S_md_octet 1 := zOkS_new (zOkE_nil X 0) (by
  intro args g o h
  obtain ⟨ar, fi, m1, m2, m3, m4, m5⟩ := g
  unfold S_md_octet P_md_octet at h
  split at h
  · refine zb_el h (fun hI0 k0 => ?_) (fun _ h10 => ?_)
    · have h2 := Option.some.inj k0
      have hG := congrArg Prod.fst h2
      have ho := congrArg Prod.snd h2
      dsimp only at hG ho
      subst ho
      try simp only [Bool.and_eq_true] at hI0
      have j0 := hI0
      have e0 := Nat.eq_of_beq_eq_true j0
      subst e0
      exact zseg_ret (e_md_octet hG)
    · cases h10
  · cases h)
def g_md_here (p0 : Int32) (p1 : Int32) (p2 : Nat → Int32) : Bool := bif decide (p0 ≤ p1) then true else zin (p1) 260
def w_md_here (p0 : Int32) (p1 : Int32) (p2 : Nat → Int32) : Int32 := (bif decide (p0 ≤ p1) then (-1) else (p2 ((p1).toNatClampNeg)) &&& 255)
def P_md_here (G : Int32 → Int32 → (Nat → Int32) → Bool) (W : Int32 → Int32 → (Nat → Int32) → Int32) : zSp := fun as g => match as with
  | [.ref a] => bif Nat.beq a 64 then some (G (g.2.1 64 8) (g.2.1 64 7) (g.1 70), (some (.int (W (g.2.1 64 8) (g.2.1 64 7) (g.1 70))), (g.1, g.2.1, g.2.2))) else none
  | _ => none
abbrev S_md_here : zSp := P_md_here g_md_here w_md_here
set_option maxRecDepth 10000 in
theorem t_md_here {X : Nat × (Nat → Int32)} {ar fi : Nat → Nat → Int32} {m1 m2 m3 m4 m5 : Nat} : zseg X zFT zE0 zc_158 (fun _ => false) 400 0 [.ref 64] [] (ar, fi, (m1, m2, m3, m4, m5)) = (
  bif decide (fi 64 8 ≤ fi 64 7) then
   some (.inr (some (.int (-1)), (ar, fi, (m1, m2, m3, m4, m5))))
  else
   zg (zin (fi 64 7) 260) (
   some (.inr (some (.int (((ar 70) ((fi 64 7).toNatClampNeg)) &&& 255)), (ar, fi, (m1, m2, m3, m4, m5))))) : Option ((Nat × List Value × List Value × zH2) ⊕ zO2)) := by with_unfolding_all rfl
set_option maxRecDepth 10000 in
theorem e_md_here {X : Nat × (Nat → Int32)} {ar fi : Nat → Nat → Int32} {m1 m2 m3 m4 m5 : Nat} (hG : g_md_here (fi 64 8) (fi 64 7) (ar 70) = true) : zseg X zFT zE0 zc_158 (fun _ => false) 400 0 [.ref 64] [] (ar, fi, (m1, m2, m3, m4, m5)) = some (.inr (some (.int (w_md_here (fi 64 8) (fi 64 7) (ar 70))), (ar, fi, (m1, m2, m3, m4, m5)))) := by
  rw [t_md_here]
  unfold g_md_here at hG
  unfold w_md_here
  cases hc1 : (decide (fi 64 8 ≤ fi 64 7)) with
  | true =>
    try simp only [hc1, cond_true, cond_false] at hG ⊢
    all_goals try simp only [Bool.and_eq_true, Bool.true_and, Bool.and_true] at hG
    all_goals try simp only [hG, zg, cond_true, and_self]
    all_goals first | rfl | (refine congrArg some (congrArg Sum.inr (Prod.ext rfl (Prod.ext ?_ (Prod.ext ?_ rfl)))) <;> first | rfl | (funext b; simp only [zup]; (repeat' split) <;> first | rfl | omega | (subst_vars; rfl) | (subst_vars; funext k; simp only [zup]; (repeat' split) <;> first | rfl | omega | (subst_vars; rfl) | (simp_all; done))))
  | false =>
    try simp only [hc1, cond_true, cond_false] at hG ⊢
    all_goals try simp only [Bool.and_eq_true, Bool.true_and, Bool.and_true] at hG
    all_goals try simp only [hG, zg, cond_true, and_self]
    all_goals first | rfl | (refine congrArg some (congrArg Sum.inr (Prod.ext rfl (Prod.ext ?_ (Prod.ext ?_ rfl)))) <;> first | rfl | (funext b; simp only [zup]; (repeat' split) <;> first | rfl | omega | (subst_vars; rfl) | (subst_vars; funext k; simp only [zup]; (repeat' split) <;> first | rfl | omega | (subst_vars; rfl) | (simp_all; done))))
theorem ok_md_here (X : Nat × (Nat → Int32)) : zOkS X 158 S_md_here 1 := zOkS_new (zOkE_nil X 0) (by
  intro args g o h
  obtain ⟨ar, fi, m1, m2, m3, m4, m5⟩ := g
  unfold S_md_here P_md_here at h
  split at h
  · refine zb_el h (fun hI0 k0 => ?_) (fun _ h10 => ?_)
    · have h2 := Option.some.inj k0
      have hG := congrArg Prod.fst h2
      have ho := congrArg Prod.snd h2
      dsimp only at hG ho
      subst ho
      try simp only [Bool.and_eq_true] at hI0
      have j0 := hI0
      have e0 := Nat.eq_of_beq_eq_true j0
      subst e0
      exact zseg_ret (e_md_here hG)
    · cases h10
  · cases h)
def w_md_wrongAt (x : Int32) (y : Int32) : Int32 := 0
def f0_md_wrongAt (x : Int32) (y : Int32) : Int32 := ((-1000) * x) - y
def P_md_wrongAt (W : Int32 → Int32 → Int32) (F0 : Int32 → Int32 → Int32) : zSp := fun as g => match as with
  | [.ref a, .int x, .int y] => bif Nat.beq a 64 then some (true, (some (.int (W x y)), (g.1, (zup g.2.1 64 (zup (g.2.1 64) 9 (F0 x y))), g.2.2))) else none
  | _ => none
abbrev S_md_wrongAt : zSp := P_md_wrongAt w_md_wrongAt f0_md_wrongAt
set_option maxRecDepth 10000 in
theorem t_md_wrongAt {X : Nat × (Nat → Int32)} {ar fi : Nat → Nat → Int32} {m1 m2 m3 m4 m5 : Nat} {x y : Int32} : zseg X zFT zE0 zc_160 (fun _ => false) 400 0 [.ref 64, .int x, .int y] [] (ar, fi, (m1, m2, m3, m4, m5)) = (
  some (.inr (some (.int 0), (ar, (zup fi 64 (zup (fi 64) 9 (((-1000) * x) - y))), (m1, m2, m3, m4, m5)))) : Option ((Nat × List Value × List Value × zH2) ⊕ zO2)) := by with_unfolding_all rfl
set_option maxRecDepth 10000 in
theorem e_md_wrongAt {X : Nat × (Nat → Int32)} {ar fi : Nat → Nat → Int32} {m1 m2 m3 m4 m5 : Nat} {x y : Int32} : zseg X zFT zE0 zc_160 (fun _ => false) 400 0 [.ref 64, .int x, .int y] [] (ar, fi, (m1, m2, m3, m4, m5)) = some (.inr (some (.int (w_md_wrongAt x y)), (ar, (zup fi 64 (zup (fi 64) 9 (f0_md_wrongAt x y))), (m1, m2, m3, m4, m5)))) := by
  rw [t_md_wrongAt]
  unfold w_md_wrongAt f0_md_wrongAt
  all_goals first | rfl | (refine congrArg some (congrArg Sum.inr (Prod.ext rfl (Prod.ext ?_ (Prod.ext ?_ rfl)))) <;> first | rfl | (funext b; simp only [zup]; (repeat' split) <;> first | rfl | omega | (subst_vars; rfl) | (subst_vars; funext k; simp only [zup]; (repeat' split) <;> first | rfl | omega | (subst_vars; rfl) | (simp_all; done))))
theorem ok_md_wrongAt (X : Nat × (Nat → Int32)) : zOkS X 160 S_md_wrongAt 1 := zOkS_new (zOkE_nil X 0) (by
  intro args g o h
  obtain ⟨ar, fi, m1, m2, m3, m4, m5⟩ := g
  unfold S_md_wrongAt P_md_wrongAt at h
  split at h
  · refine zb_el h (fun hI0 k0 => ?_) (fun _ h10 => ?_)
    · have h2 := Option.some.inj k0
      have hG := congrArg Prod.fst h2
      have ho := congrArg Prod.snd h2
      dsimp only at hG ho
      subst ho
      try simp only [Bool.and_eq_true] at hI0
      have j0 := hI0
      have e0 := Nat.eq_of_beq_eq_true j0
      subst e0
      exact zseg_ret (e_md_wrongAt)
    · cases h10
  · cases h)
def g_md_notes (x : Int32) (y : Int32) (p0 : Int32) (p1 : Nat → Int32) : Bool := zin (p0) 260
def a0_md_notes (x : Int32) (y : Int32) (p0 : Int32) (p1 : Nat → Int32) : Nat → Int32 := (zup p1 ((p0).toNatClampNeg) ((1048576 * x) + y))
def f0_md_notes (x : Int32) (y : Int32) (p0 : Int32) (p1 : Nat → Int32) : Int32 := (p0) + 1
def P_md_notes (G : Int32 → Int32 → Int32 → (Nat → Int32) → Bool) (A0 : Int32 → Int32 → Int32 → (Nat → Int32) → Nat → Int32) (F0 : Int32 → Int32 → Int32 → (Nat → Int32) → Int32) : zSp := fun as g => match as with
  | [.ref a, .int x, .int y] => bif Nat.beq a 64 then some (G x y (g.2.1 64 12) (g.1 71), (none, ((zup g.1 71 (A0 x y (g.2.1 64 12) (g.1 71))), (zup g.2.1 64 (zup (g.2.1 64) 12 (F0 x y (g.2.1 64 12) (g.1 71)))), g.2.2))) else none
  | _ => none
abbrev S_md_notes : zSp := P_md_notes g_md_notes a0_md_notes f0_md_notes
set_option maxRecDepth 10000 in
theorem t_md_notes {X : Nat × (Nat → Int32)} {ar fi : Nat → Nat → Int32} {m1 m2 m3 m4 m5 : Nat} {x y : Int32} : zseg X zFT zE0 zc_163 (fun _ => false) 400 0 [.ref 64, .int x, .int y] [] (ar, fi, (m1, m2, m3, m4, m5)) = (
  zg (zin (fi 64 12) 260) (
  some (.inr (none, ((zup ar 71 (zup (ar 71) ((fi 64 12).toNatClampNeg) ((1048576 * x) + y))), (zup fi 64 (zup (fi 64) 12 ((fi 64 12) + 1))), (m1, m2, m3, m4, m5))))) : Option ((Nat × List Value × List Value × zH2) ⊕ zO2)) := by with_unfolding_all rfl
set_option maxRecDepth 10000 in
theorem e_md_notes {X : Nat × (Nat → Int32)} {ar fi : Nat → Nat → Int32} {m1 m2 m3 m4 m5 : Nat} {x y : Int32} (hG : g_md_notes x y (fi 64 12) (ar 71) = true) : zseg X zFT zE0 zc_163 (fun _ => false) 400 0 [.ref 64, .int x, .int y] [] (ar, fi, (m1, m2, m3, m4, m5)) = some (.inr (none, ((zup ar 71 (a0_md_notes x y (fi 64 12) (ar 71))), (zup fi 64 (zup (fi 64) 12 (f0_md_notes x y (fi 64 12) (ar 71)))), (m1, m2, m3, m4, m5)))) := by
  rw [t_md_notes]
  unfold g_md_notes at hG
  unfold a0_md_notes f0_md_notes
  all_goals try simp only [Bool.and_eq_true, Bool.true_and, Bool.and_true] at hG
  all_goals try simp only [hG, zg, cond_true, and_self]
  all_goals try simp only [zup_zup, zup_same]
  all_goals first | rfl | (refine congrArg some (congrArg Sum.inr (Prod.ext rfl (Prod.ext ?_ (Prod.ext ?_ rfl)))) <;> first | rfl | (funext b; simp only [zup]; (repeat' split) <;> first | rfl | omega | (subst_vars; rfl) | (subst_vars; funext k; simp only [zup]; (repeat' split) <;> first | rfl | omega | (subst_vars; rfl) | (simp_all; done))))
theorem ok_md_notes (X : Nat × (Nat → Int32)) : zOkS X 163 S_md_notes 1 := zOkS_new (zOkE_nil X 0) (by
  intro args g o h
  obtain ⟨ar, fi, m1, m2, m3, m4, m5⟩ := g
  unfold S_md_notes P_md_notes at h
  split at h
  · refine zb_el h (fun hI0 k0 => ?_) (fun _ h10 => ?_)
    · have h2 := Option.some.inj k0
      have hG := congrArg Prod.fst h2
      have ho := congrArg Prod.snd h2
      dsimp only at hG ho
      subst ho
      try simp only [Bool.and_eq_true] at hI0
      have j0 := hI0
      have e0 := Nat.eq_of_beq_eq_true j0
      subst e0
      exact zseg_ret (e_md_notes hG)
    · cases h10
  · cases h)
