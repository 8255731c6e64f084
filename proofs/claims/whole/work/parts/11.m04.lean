def g_od_endLine (p0 : Int32) (p1 : Int32) (p2 : Int32) (p3 : Nat → Int32) (p4 : Int32) : Bool := bif !decide (w_tx_isAtEnd (p0) (p1) = 0) then true else g_tx_sign (p2) (p0) (p1) p3
def f0_od_endLine (p0 : Int32) (p1 : Int32) (p2 : Int32) (p3 : Nat → Int32) (p4 : Int32) : Int32 := (bif !decide (w_tx_isAtEnd (p0) (p1) = 0) then p2 else (bif decide (w_tx_sign (p2) (p0) (p1) p3 = 59) then p2 else (f0_tx_fail 1 (p0) (p2) (p4))))
def f1_od_endLine (p0 : Int32) (p1 : Int32) (p2 : Int32) (p3 : Nat → Int32) (p4 : Int32) : Int32 := (bif !decide (w_tx_isAtEnd (p0) (p1) = 0) then p4 else (bif decide (w_tx_sign (p2) (p0) (p1) p3 = 59) then p4 else (f1_tx_fail 1 (p0) (p2) (p4))))
def P_od_endLine (G : Int32 → Int32 → Int32 → (Nat → Int32) → Int32 → Bool) (F0 : Int32 → Int32 → Int32 → (Nat → Int32) → Int32 → Int32) (F1 : Int32 → Int32 → Int32 → (Nat → Int32) → Int32 → Int32) : zSp := fun as g => match as with
  | [.ref a] => bif Nat.beq a 46 && Nat.beq g.2.2.2.2.2.2 1 then some (G (g.2.1 47 4) (g.2.1 47 1) (g.2.1 47 2) (g.1 1) (g.2.1 47 3), (none, (g.1, (zup (zup g.2.1 47 (zup (g.2.1 47) 2 (F0 (g.2.1 47 4) (g.2.1 47 1) (g.2.1 47 2) (g.1 1) (g.2.1 47 3)))) 47 (zup ((zup g.2.1 47 (zup (g.2.1 47) 2 (F0 (g.2.1 47 4) (g.2.1 47 1) (g.2.1 47 2) (g.1 1) (g.2.1 47 3)))) 47) 3 (F1 (g.2.1 47 4) (g.2.1 47 1) (g.2.1 47 2) (g.1 1) (g.2.1 47 3)))), g.2.2))) else none
  | _ => none
abbrev S_od_endLine : zSp := P_od_endLine g_od_endLine f0_od_endLine f1_od_endLine
set_option maxRecDepth 10000 in
theorem t_od_endLine {X : Nat × (Nat → Int32)} {ar fi : Nat → Nat → Int32} {m1 m2 m3 m4 : Nat} {W_tx_isAtEnd : Int32 → Int32 → Int32} {G_tx_sign : Int32 → Int32 → Int32 → (Nat → Int32) → Bool} {W_tx_sign : Int32 → Int32 → Int32 → (Nat → Int32) → Int32} {F0_tx_fail : Int32 → Int32 → Int32 → Int32 → Int32} {F1_tx_fail : Int32 → Int32 → Int32 → Int32 → Int32} : zseg X zFT (zEx 92 (P_tx_isAtEnd W_tx_isAtEnd) (zEx 93 (P_tx_sign G_tx_sign W_tx_sign) (zEx 97 (P_tx_fail F0_tx_fail F1_tx_fail) zE0))) zc_65 (fun _ => false) 400 0 [.ref 46] [] (ar, fi, (m1, m2, m3, m4, 1)) = (
  bif !decide (W_tx_isAtEnd (fi 47 4) (fi 47 1) = 0) then
   some (.inr (none, (ar, fi, (m1, m2, m3, m4, 1))))
  else
   zg (G_tx_sign (fi 47 2) (fi 47 4) (fi 47 1) (ar 1)) (
   bif decide (W_tx_sign (fi 47 2) (fi 47 4) (fi 47 1) (ar 1) = 59) then
    some (.inr (none, (ar, fi, (m1, m2, m3, m4, 1))))
   else
    some (.inr (none, (ar, (zup (zup fi 47 (zup (fi 47) 2 (F0_tx_fail 1 (fi 47 4) (fi 47 2) (fi 47 3)))) 47 (zup ((zup fi 47 (zup (fi 47) 2 (F0_tx_fail 1 (fi 47 4) (fi 47 2) (fi 47 3)))) 47) 3 (F1_tx_fail 1 (fi 47 4) (fi 47 2) (fi 47 3)))), (m1, m2, m3, m4, 1))))) : Option ((Nat × List Value × List Value × zH2) ⊕ zO2)) := by with_unfolding_all rfl
set_option maxRecDepth 10000 in
theorem e_od_endLine {X : Nat × (Nat → Int32)} {ar fi : Nat → Nat → Int32} {m1 m2 m3 m4 : Nat} (hG : g_od_endLine (fi 47 4) (fi 47 1) (fi 47 2) (ar 1) (fi 47 3) = true) : zseg X zFT (zEx 92 S_tx_isAtEnd (zEx 93 S_tx_sign (zEx 97 S_tx_fail zE0))) zc_65 (fun _ => false) 400 0 [.ref 46] [] (ar, fi, (m1, m2, m3, m4, 1)) = some (.inr (none, (ar, (zup (zup fi 47 (zup (fi 47) 2 (f0_od_endLine (fi 47 4) (fi 47 1) (fi 47 2) (ar 1) (fi 47 3)))) 47 (zup ((zup fi 47 (zup (fi 47) 2 (f0_od_endLine (fi 47 4) (fi 47 1) (fi 47 2) (ar 1) (fi 47 3)))) 47) 3 (f1_od_endLine (fi 47 4) (fi 47 1) (fi 47 2) (ar 1) (fi 47 3)))), (m1, m2, m3, m4, 1)))) := by
  rw [t_od_endLine]
  unfold g_od_endLine at hG
  unfold f0_od_endLine f1_od_endLine
  cases hc1 : (!decide (w_tx_isAtEnd (fi 47 4) (fi 47 1) = 0)) with
  | true =>
    try simp only [hc1, cond_true, cond_false] at hG ⊢
    all_goals try simp only [Bool.and_eq_true, Bool.true_and, Bool.and_true] at hG
    all_goals try simp only [hG, zg, cond_true, and_self]
    all_goals try simp only [zup_zup, zup_same]
    all_goals first | rfl | (refine congrArg some (congrArg Sum.inr (Prod.ext rfl (Prod.ext ?_ (Prod.ext ?_ rfl)))) <;> first | rfl | (funext b; simp only [zup]; (repeat' split) <;> first | rfl | omega | (subst_vars; rfl) | (subst_vars; funext k; simp only [zup]; (repeat' split) <;> first | rfl | omega | (subst_vars; rfl) | (simp_all; done))))
  | false =>
    try simp only [hc1, cond_true, cond_false] at hG ⊢
    cases hc2 : (decide (w_tx_sign (fi 47 2) (fi 47 4) (fi 47 1) (ar 1) = 59)) with
    | true =>
      try simp only [hc2, cond_true, cond_false] at hG ⊢
      all_goals try simp only [Bool.and_eq_true, Bool.true_and, Bool.and_true] at hG
      all_goals try simp only [hG, zg, cond_true, and_self]
      all_goals try simp only [zup_zup, zup_same]
      all_goals first | rfl | (refine congrArg some (congrArg Sum.inr (Prod.ext rfl (Prod.ext ?_ (Prod.ext ?_ rfl)))) <;> first | rfl | (funext b; simp only [zup]; (repeat' split) <;> first | rfl | omega | (subst_vars; rfl) | (subst_vars; funext k; simp only [zup]; (repeat' split) <;> first | rfl | omega | (subst_vars; rfl) | (simp_all; done))))
    | false =>
      try simp only [hc2, cond_true, cond_false] at hG ⊢
      all_goals try simp only [Bool.and_eq_true, Bool.true_and, Bool.and_true] at hG
      all_goals try simp only [hG, zg, cond_true, and_self]
      all_goals try simp only [zup_zup, zup_same]
      all_goals first | rfl | (refine congrArg some (congrArg Sum.inr (Prod.ext rfl (Prod.ext ?_ (Prod.ext ?_ rfl)))) <;> first | rfl | (funext b; simp only [zup]; (repeat' split) <;> first | rfl | omega | (subst_vars; rfl) | (subst_vars; funext k; simp only [zup]; (repeat' split) <;> first | rfl | omega | (subst_vars; rfl) | (simp_all; done))))
theorem ok_od_endLine (X : Nat × (Nat → Int32)) : zOkS X 65 S_od_endLine 2 := zOkS_new (zOkE_cons (ok_tx_isAtEnd X) (by decide) (zOkE_cons (ok_tx_sign X) (by decide) (zOkE_cons (ok_tx_fail X) (by decide) (zOkE_nil X 1)))) (by
  intro args g o h
  obtain ⟨ar, fi, m1, m2, m3, m4, m5⟩ := g
  unfold S_od_endLine P_od_endLine at h
  split at h
  · refine zb_el h (fun hI0 k0 => ?_) (fun _ h10 => ?_)
    · have h2 := Option.some.inj k0
      have hG := congrArg Prod.fst h2
      have ho := congrArg Prod.snd h2
      dsimp only at hG ho
      subst ho
      try simp only [Bool.and_eq_true] at hI0
      obtain ⟨j0, j1⟩ := hI0
      have e0 := Nat.eq_of_beq_eq_true j0
      subst e0
      have e9 : m5 = 1 := Nat.eq_of_beq_eq_true j1
      subst e9
      exact zseg_ret (e_od_endLine hG)
    · cases h10
  · cases h)
def g_sc_isLeftAt (x : Int32) (y : Int32) (p0 : Int32) (p1 : Int32) (p2 : Nat → Int32) : Bool := bif decide (w_sc_isTold x (p0) = 0) then true else bif !decide (w_sc_isGone x (p1) = 0) then true else zin x 24
def w_sc_isLeftAt (x : Int32) (y : Int32) (p0 : Int32) (p1 : Int32) (p2 : Nat → Int32) : Int32 := (bif decide (w_sc_isTold x (p0) = 0) then 0 else (bif !decide (w_sc_isGone x (p1) = 0) then 0 else (bif !decide (p2 (x.toNatClampNeg) = y) then 0 else 1)))
def P_sc_isLeftAt (G : Int32 → Int32 → Int32 → Int32 → (Nat → Int32) → Bool) (W : Int32 → Int32 → Int32 → Int32 → (Nat → Int32) → Int32) : zSp := fun as g => match as with
  | [.ref a, .int x, .int y] => bif Nat.beq a 2 then some (G x y (g.2.1 2 6) (g.2.1 2 7) (g.1 6), (some (.int (W x y (g.2.1 2 6) (g.2.1 2 7) (g.1 6))), (g.1, g.2.1, g.2.2))) else bif Nat.beq a 9 then some (G x y (g.2.1 9 6) (g.2.1 9 7) (g.1 13), (some (.int (W x y (g.2.1 9 6) (g.2.1 9 7) (g.1 13))), (g.1, g.2.1, g.2.2))) else bif Nat.beq a 16 then some (G x y (g.2.1 16 6) (g.2.1 16 7) (g.1 20), (some (.int (W x y (g.2.1 16 6) (g.2.1 16 7) (g.1 20))), (g.1, g.2.1, g.2.2))) else none
  | _ => none
abbrev S_sc_isLeftAt : zSp := P_sc_isLeftAt g_sc_isLeftAt w_sc_isLeftAt
set_option maxRecDepth 10000 in
theorem t_sc_isLeftAt_2 {X : Nat × (Nat → Int32)} {ar fi : Nat → Nat → Int32} {m1 m2 m3 m4 m5 : Nat} {x y : Int32} {W_sc_isTold : Int32 → Int32 → Int32} {W_sc_isGone : Int32 → Int32 → Int32} : zseg X zFT (zEx 78 (P_sc_isTold W_sc_isTold) (zEx 79 (P_sc_isGone W_sc_isGone) zE0)) zc_80 (fun _ => false) 400 0 [.ref 2, .int x, .int y] [] (ar, fi, (m1, m2, m3, m4, m5)) = (
  bif decide (W_sc_isTold x (fi 2 6) = 0) then
   some (.inr (some (.int 0), (ar, fi, (m1, m2, m3, m4, m5))))
  else
   bif !decide (W_sc_isGone x (fi 2 7) = 0) then
    some (.inr (some (.int 0), (ar, fi, (m1, m2, m3, m4, m5))))
   else
    zg (zin x 24) (
    bif !decide ((ar 6) (x.toNatClampNeg) = y) then
     some (.inr (some (.int 0), (ar, fi, (m1, m2, m3, m4, m5))))
    else
     some (.inr (some (.int 1), (ar, fi, (m1, m2, m3, m4, m5))))) : Option ((Nat × List Value × List Value × zH2) ⊕ zO2)) := by with_unfolding_all rfl
set_option maxRecDepth 10000 in
theorem e_sc_isLeftAt_2 {X : Nat × (Nat → Int32)} {ar fi : Nat → Nat → Int32} {m1 m2 m3 m4 m5 : Nat} {x y : Int32} (hG : g_sc_isLeftAt x y (fi 2 6) (fi 2 7) (ar 6) = true) : zseg X zFT (zEx 78 S_sc_isTold (zEx 79 S_sc_isGone zE0)) zc_80 (fun _ => false) 400 0 [.ref 2, .int x, .int y] [] (ar, fi, (m1, m2, m3, m4, m5)) = some (.inr (some (.int (w_sc_isLeftAt x y (fi 2 6) (fi 2 7) (ar 6))), (ar, fi, (m1, m2, m3, m4, m5)))) := by
  rw [t_sc_isLeftAt_2]
  unfold g_sc_isLeftAt at hG
  unfold w_sc_isLeftAt
  cases hc1 : (decide (w_sc_isTold x (fi 2 6) = 0)) with
  | true =>
    try simp only [hc1, cond_true, cond_false] at hG ⊢
    all_goals try simp only [Bool.and_eq_true, Bool.true_and, Bool.and_true] at hG
    all_goals try simp only [hG, zg, cond_true, and_self]
    all_goals first | rfl | (refine congrArg some (congrArg Sum.inr (Prod.ext rfl (Prod.ext ?_ (Prod.ext ?_ rfl)))) <;> first | rfl | (funext b; simp only [zup]; (repeat' split) <;> first | rfl | omega | (subst_vars; rfl) | (subst_vars; funext k; simp only [zup]; (repeat' split) <;> first | rfl | omega | (subst_vars; rfl) | (simp_all; done))))
  | false =>
    try simp only [hc1, cond_true, cond_false] at hG ⊢
    cases hc2 : (!decide (w_sc_isGone x (fi 2 7) = 0)) with
    | true =>
      try simp only [hc2, cond_true, cond_false] at hG ⊢
      all_goals try simp only [Bool.and_eq_true, Bool.true_and, Bool.and_true] at hG
      all_goals try simp only [hG, zg, cond_true, and_self]
      all_goals first | rfl | (refine congrArg some (congrArg Sum.inr (Prod.ext rfl (Prod.ext ?_ (Prod.ext ?_ rfl)))) <;> first | rfl | (funext b; simp only [zup]; (repeat' split) <;> first | rfl | omega | (subst_vars; rfl) | (subst_vars; funext k; simp only [zup]; (repeat' split) <;> first | rfl | omega | (subst_vars; rfl) | (simp_all; done))))
    | false =>
      try simp only [hc2, cond_true, cond_false] at hG ⊢
      cases hc3 : (!decide ((ar 6) (x.toNatClampNeg) = y)) with
      | true =>
        try simp only [hc3, cond_true, cond_false] at hG ⊢
        all_goals try simp only [Bool.and_eq_true, Bool.true_and, Bool.and_true] at hG
        all_goals try simp only [hG, zg, cond_true, and_self]
        all_goals first | rfl | (refine congrArg some (congrArg Sum.inr (Prod.ext rfl (Prod.ext ?_ (Prod.ext ?_ rfl)))) <;> first | rfl | (funext b; simp only [zup]; (repeat' split) <;> first | rfl | omega | (subst_vars; rfl) | (subst_vars; funext k; simp only [zup]; (repeat' split) <;> first | rfl | omega | (subst_vars; rfl) | (simp_all; done))))
      | false =>
        try simp only [hc3, cond_true, cond_false] at hG ⊢
        all_goals try simp only [Bool.and_eq_true, Bool.true_and, Bool.and_true] at hG
        all_goals try simp only [hG, zg, cond_true, and_self]
        all_goals first | rfl | (refine congrArg some (congrArg Sum.inr (Prod.ext rfl (Prod.ext ?_ (Prod.ext ?_ rfl)))) <;> first | rfl | (funext b; simp only [zup]; (repeat' split) <;> first | rfl | omega | (subst_vars; rfl) | (subst_vars; funext k; simp only [zup]; (repeat' split) <;> first | rfl | omega | (subst_vars; rfl) | (simp_all; done))))
set_option maxRecDepth 10000 in
theorem t_sc_isLeftAt_9 {X : Nat × (Nat → Int32)} {ar fi : Nat → Nat → Int32} {m1 m2 m3 m4 m5 : Nat} {x y : Int32} {W_sc_isTold : Int32 → Int32 → Int32} {W_sc_isGone : Int32 → Int32 → Int32} : zseg X zFT (zEx 78 (P_sc_isTold W_sc_isTold) (zEx 79 (P_sc_isGone W_sc_isGone) zE0)) zc_80 (fun _ => false) 400 0 [.ref 9, .int x, .int y] [] (ar, fi, (m1, m2, m3, m4, m5)) = (
  bif decide (W_sc_isTold x (fi 9 6) = 0) then
   some (.inr (some (.int 0), (ar, fi, (m1, m2, m3, m4, m5))))
  else
   bif !decide (W_sc_isGone x (fi 9 7) = 0) then
    some (.inr (some (.int 0), (ar, fi, (m1, m2, m3, m4, m5))))
   else
    zg (zin x 24) (
    bif !decide ((ar 13) (x.toNatClampNeg) = y) then
     some (.inr (some (.int 0), (ar, fi, (m1, m2, m3, m4, m5))))
    else
     some (.inr (some (.int 1), (ar, fi, (m1, m2, m3, m4, m5))))) : Option ((Nat × List Value × List Value × zH2) ⊕ zO2)) := by with_unfolding_all rfl
set_option maxRecDepth 10000 in
theorem e_sc_isLeftAt_9 {X : Nat × (Nat → Int32)} {ar fi : Nat → Nat → Int32} {m1 m2 m3 m4 m5 : Nat} {x y : Int32} (hG : g_sc_isLeftAt x y (fi 9 6) (fi 9 7) (ar 13) = true) : zseg X zFT (zEx 78 S_sc_isTold (zEx 79 S_sc_isGone zE0)) zc_80 (fun _ => false) 400 0 [.ref 9, .int x, .int y] [] (ar, fi, (m1, m2, m3, m4, m5)) = some (.inr (some (.int (w_sc_isLeftAt x y (fi 9 6) (fi 9 7) (ar 13))), (ar, fi, (m1, m2, m3, m4, m5)))) := by
  rw [t_sc_isLeftAt_9]
  unfold g_sc_isLeftAt at hG
  unfold w_sc_isLeftAt
  cases hc1 : (decide (w_sc_isTold x (fi 9 6) = 0)) with
  | true =>
    try simp only [hc1, cond_true, cond_false] at hG ⊢
    all_goals try simp only [Bool.and_eq_true, Bool.true_and, Bool.and_true] at hG
    all_goals try simp only [hG, zg, cond_true, and_self]
    all_goals first | rfl | (refine congrArg some (congrArg Sum.inr (Prod.ext rfl (Prod.ext ?_ (Prod.ext ?_ rfl)))) <;> first | rfl | (funext b; simp only [zup]; (repeat' split) <;> first | rfl | omega | (subst_vars; rfl) | (subst_vars; funext k; simp only [zup]; (repeat' split) <;> first | rfl | omega | (subst_vars; rfl) | (simp_all; done))))
  | false =>
    try simp only [hc1, cond_true, cond_false] at hG ⊢
    cases hc2 : (!decide (w_sc_isGone x (fi 9 7) = 0)) with
    | true =>
      try simp only [hc2, cond_true, cond_false] at hG ⊢
      all_goals try simp only [Bool.and_eq_true, Bool.true_and, Bool.and_true] at hG
      all_goals try simp only [hG, zg, cond_true, and_self]
      all_goals first | rfl | (refine congrArg some (congrArg Sum.inr (Prod.ext rfl (Prod.ext ?_ (Prod.ext ?_ rfl)))) <;> first | rfl | (funext b; simp only [zup]; (repeat' split) <;> first | rfl | omega | (subst_vars; rfl) | (subst_vars; funext k; simp only [zup]; (repeat' split) <;> first | rfl | omega | (subst_vars; rfl) | (simp_all; done))))
    | false =>
      try simp only [hc2, cond_true, cond_false] at hG ⊢
      cases hc3 : (!decide ((ar 13) (x.toNatClampNeg) = y)) with
      | true =>
        try simp only [hc3, cond_true, cond_false] at hG ⊢
        all_goals try simp only [Bool.and_eq_true, Bool.true_and, Bool.and_true] at hG
        all_goals try simp only [hG, zg, cond_true, and_self]
        all_goals first | rfl | (refine congrArg some (congrArg Sum.inr (Prod.ext rfl (Prod.ext ?_ (Prod.ext ?_ rfl)))) <;> first | rfl | (funext b; simp only [zup]; (repeat' split) <;> first | rfl | omega | (subst_vars; rfl) | (subst_vars; funext k; simp only [zup]; (repeat' split) <;> first | rfl | omega | (subst_vars; rfl) | (simp_all; done))))
      | false =>
        try simp only [hc3, cond_true, cond_false] at hG ⊢
        all_goals try simp only [Bool.and_eq_true, Bool.true_and, Bool.and_true] at hG
        all_goals try simp only [hG, zg, cond_true, and_self]
        all_goals first | rfl | (refine congrArg some (congrArg Sum.inr (Prod.ext rfl (Prod.ext ?_ (Prod.ext ?_ rfl)))) <;> first | rfl | (funext b; simp only [zup]; (repeat' split) <;> first | rfl | omega | (subst_vars; rfl) | (subst_vars; funext k; simp only [zup]; (repeat' split) <;> first | rfl | omega | (subst_vars; rfl) | (simp_all; done))))
set_option maxRecDepth 10000 in
theorem t_sc_isLeftAt_16 {X : Nat × (Nat → Int32)} {ar fi : Nat → Nat → Int32} {m1 m2 m3 m4 m5 : Nat} {x y : Int32} {W_sc_isTold : Int32 → Int32 → Int32} {W_sc_isGone : Int32 → Int32 → Int32} : zseg X zFT (zEx 78 (P_sc_isTold W_sc_isTold) (zEx 79 (P_sc_isGone W_sc_isGone) zE0)) zc_80 (fun _ => false) 400 0 [.ref 16, .int x, .int y] [] (ar, fi, (m1, m2, m3, m4, m5)) = (
  bif decide (W_sc_isTold x (fi 16 6) = 0) then
   some (.inr (some (.int 0), (ar, fi, (m1, m2, m3, m4, m5))))
  else
   bif !decide (W_sc_isGone x (fi 16 7) = 0) then
    some (.inr (some (.int 0), (ar, fi, (m1, m2, m3, m4, m5))))
   else
    zg (zin x 24) (
    bif !decide ((ar 20) (x.toNatClampNeg) = y) then
     some (.inr (some (.int 0), (ar, fi, (m1, m2, m3, m4, m5))))
    else
     some (.inr (some (.int 1), (ar, fi, (m1, m2, m3, m4, m5))))) : Option ((Nat × List Value × List Value × zH2) ⊕ zO2)) := by with_unfolding_all rfl
set_option maxRecDepth 10000 in
theorem e_sc_isLeftAt_16 {X : Nat × (Nat → Int32)} {ar fi : Nat → Nat → Int32} {m1 m2 m3 m4 m5 : Nat} {x y : Int32} (hG : g_sc_isLeftAt x y (fi 16 6) (fi 16 7) (ar 20) = true) : zseg X zFT (zEx 78 S_sc_isTold (zEx 79 S_sc_isGone zE0)) zc_80 (fun _ => false) 400 0 [.ref 16, .int x, .int y] [] (ar, fi, (m1, m2, m3, m4, m5)) = some (.inr (some (.int (w_sc_isLeftAt x y (fi 16 6) (fi 16 7) (ar 20))), (ar, fi, (m1, m2, m3, m4, m5)))) := by
  rw [t_sc_isLeftAt_16]
  unfold g_sc_isLeftAt at hG
  unfold w_sc_isLeftAt
  cases hc1 : (decide (w_sc_isTold x (fi 16 6) = 0)) with
  | true =>
    try simp only [hc1, cond_true, cond_false] at hG ⊢
    all_goals try simp only [Bool.and_eq_true, Bool.true_and, Bool.and_true] at hG
    all_goals try simp only [hG, zg, cond_true, and_self]
    all_goals first | rfl | (refine congrArg some (congrArg Sum.inr (Prod.ext rfl (Prod.ext ?_ (Prod.ext ?_ rfl)))) <;> first | rfl | (funext b; simp only [zup]; (repeat' split) <;> first | rfl | omega | (subst_vars; rfl) | (subst_vars; funext k; simp only [zup]; (repeat' split) <;> first | rfl | omega | (subst_vars; rfl) | (simp_all; done))))
  | false =>
    try simp only [hc1, cond_true, cond_false] at hG ⊢
    cases hc2 : (!decide (w_sc_isGone x (fi 16 7) = 0)) with
    | true =>
      try simp only [hc2, cond_true, cond_false] at hG ⊢
      all_goals try simp only [Bool.and_eq_true, Bool.true_and, Bool.and_true] at hG
      all_goals try simp only [hG, zg, cond_true, and_self]
      all_goals first | rfl | (refine congrArg some (congrArg Sum.inr (Prod.ext rfl (Prod.ext ?_ (Prod.ext ?_ rfl)))) <;> first | rfl | (funext b; simp only [zup]; (repeat' split) <;> first | rfl | omega | (subst_vars; rfl) | (subst_vars; funext k; simp only [zup]; (repeat' split) <;> first | rfl | omega | (subst_vars; rfl) | (simp_all; done))))
    | false =>
      try simp only [hc2, cond_true, cond_false] at hG ⊢
      cases hc3 : (!decide ((ar 20) (x.toNatClampNeg) = y)) with
      | true =>
        try simp only [hc3, cond_true, cond_false] at hG ⊢
        all_goals try simp only [Bool.and_eq_true, Bool.true_and, Bool.and_true] at hG
        all_goals try simp only [hG, zg, cond_true, and_self]
        all_goals first | rfl | (refine congrArg some (congrArg Sum.inr (Prod.ext rfl (Prod.ext ?_ (Prod.ext ?_ rfl)))) <;> first | rfl | (funext b; simp only [zup]; (repeat' split) <;> first | rfl | omega | (subst_vars; rfl) | (subst_vars; funext k; simp only [zup]; (repeat' split) <;> first | rfl | omega | (subst_vars; rfl) | (simp_all; done))))
      | false =>
        try simp only [hc3, cond_true, cond_false] at hG ⊢
        all_goals try simp only [Bool.and_eq_true, Bool.true_and, Bool.and_true] at hG
        all_goals try simp only [hG, zg, cond_true, and_self]
        all_goals first | rfl | (refine congrArg some (congrArg Sum.inr (Prod.ext rfl (Prod.ext ?_ (Prod.ext ?_ rfl)))) <;> first | rfl | (funext b; simp only [zup]; (repeat' split) <;> first | rfl | omega | (subst_vars; rfl) | (subst_vars; funext k; simp only [zup]; (repeat' split) <;> first | rfl | omega | (subst_vars; rfl) | (simp_all; done))))
theorem ok_sc_isLeftAt (X : Nat × (Nat → Int32)) : zOkS X 80 S_sc_isLeftAt 2 := zOkS_new (zOkE_cons (ok_sc_isTold X) (by decide) (zOkE_cons (ok_sc_isGone X) (by decide) (zOkE_nil X 1))) (by
  intro args g o h
  obtain ⟨ar, fi, m1, m2, m3, m4, m5⟩ := g
  unfold S_sc_isLeftAt P_sc_isLeftAt at h
  split at h
  · refine zb_el h (fun hI0 k0 => ?_) (fun _ h10 => ?_)
    · have h2 := Option.some.inj k0
      have hG := congrArg Prod.fst h2
      have ho := congrArg Prod.snd h2
      dsimp only at hG ho
      subst ho
      try simp only [Bool.and_eq_true] at hI0
      have j0 := hI0
      have e0 := Nat.eq_of_beq_eq_true j0
      subst e0
      exact zseg_ret (e_sc_isLeftAt_2 hG)
    · skip
      refine zb_el h10 (fun hI1 k1 => ?_) (fun _ h11 => ?_)
      · have h2 := Option.some.inj k1
        have hG := congrArg Prod.fst h2
        have ho := congrArg Prod.snd h2
        dsimp only at hG ho
        subst ho
        try simp only [Bool.and_eq_true] at hI1
        have j0 := hI1
        have e0 := Nat.eq_of_beq_eq_true j0
        subst e0
        exact zseg_ret (e_sc_isLeftAt_9 hG)
      · skip
        refine zb_el h11 (fun hI2 k2 => ?_) (fun _ h12 => ?_)
        · have h2 := Option.some.inj k2
          have hG := congrArg Prod.fst h2
          have ho := congrArg Prod.snd h2
          dsimp only at hG ho
          subst ho
          try simp only [Bool.and_eq_true] at hI2
          have j0 := hI2
          have e0 := Nat.eq_of_beq_eq_true j0
          subst e0
          exact zseg_ret (e_sc_isLeftAt_16 hG)
        · cases h12
  · cases h)
def g_sc_lowValueOf (x : Int32) (p0 : Int32) (p1 : Nat → Int32) : Bool := bif decide (w_sc_isGone x (p0) = 0) then zin x 24 else true
def w_sc_lowValueOf (x : Int32) (p0 : Int32) (p1 : Nat → Int32) : Int32 := (bif decide (w_sc_isGone x (p0) = 0) then (p1 (x.toNatClampNeg)) &&& 255 else 0)
def P_sc_lowValueOf (G : Int32 → Int32 → (Nat → Int32) → Bool) (W : Int32 → Int32 → (Nat → Int32) → Int32) : zSp := fun as g => match as with
  | [.ref a, .int x] => bif Nat.beq a 2 then some (G x (g.2.1 2 7) (g.1 7), (some (.int (W x (g.2.1 2 7) (g.1 7))), (g.1, g.2.1, g.2.2))) else bif Nat.beq a 9 then some (G x (g.2.1 9 7) (g.1 14), (some (.int (W x (g.2.1 9 7) (g.1 14))), (g.1, g.2.1, g.2.2))) else bif Nat.beq a 16 then some (G x (g.2.1 16 7) (g.1 21), (some (.int (W x (g.2.1 16 7) (g.1 21))), (g.1, g.2.1, g.2.2))) else none
  | _ => none
abbrev S_sc_lowValueOf : zSp := P_sc_lowValueOf g_sc_lowValueOf w_sc_lowValueOf
set_option maxRecDepth 10000 in
theorem t_sc_lowValueOf_2 {X : Nat × (Nat → Int32)} {ar fi : Nat → Nat → Int32} {m1 m2 m3 m4 m5 : Nat} {x : Int32} {W_sc_isGone : Int32 → Int32 → Int32} : zseg X zFT (zEx 79 (P_sc_isGone W_sc_isGone) zE0) zc_88 (fun _ => false) 400 0 [.ref 2, .int x] [] (ar, fi, (m1, m2, m3, m4, m5)) = (
  bif decide (W_sc_isGone x (fi 2 7) = 0) then
   zg (zin x 24) (
   some (.inr (some (.int (((ar 7) (x.toNatClampNeg)) &&& 255)), (ar, fi, (m1, m2, m3, m4, m5)))))
  else
   some (.inr (some (.int 0), (ar, fi, (m1, m2, m3, m4, m5)))) : Option ((Nat × List Value × List Value × zH2) ⊕ zO2)) := by with_unfolding_all rfl
set_option maxRecDepth 10000 in
theorem e_sc_lowValueOf_2 {X : Nat × (Nat → Int32)} {ar fi : Nat → Nat → Int32} {m1 m2 m3 m4 m5 : Nat} {x : Int32} (hG : g_sc_lowValueOf x (fi 2 7) (ar 7) = true) : zseg X zFT (zEx 79 S_sc_isGone zE0) zc_88 (fun _ => false) 400 0 [.ref 2, .int x] [] (ar, fi, (m1, m2, m3, m4, m5)) = some (.inr (some (.int (w_sc_lowValueOf x (fi 2 7) (ar 7))), (ar, fi, (m1, m2, m3, m4, m5)))) := by
  rw [t_sc_lowValueOf_2]
  unfold g_sc_lowValueOf at hG
  unfold w_sc_lowValueOf
  cases hc1 : (decide (w_sc_isGone x (fi 2 7) = 0)) with
  | true =>
    try simp only [hc1, cond_true, cond_false] at hG ⊢
    all_goals try simp only [Bool.and_eq_true, Bool.true_and, Bool.and_true] at hG
    all_goals try simp only [hG, zg, cond_true, and_self]
    all_goals first | rfl | (refine congrArg some (congrArg Sum.inr (Prod.ext rfl (Prod.ext ?_ (Prod.ext ?_ rfl)))) <;> first | rfl | (funext b; simp only [zup]; (repeat' split) <;> first | rfl | omega | (subst_vars; rfl) | (subst_vars; funext k; simp only [zup]; (repeat' split) <;> first | rfl | omega | (subst_vars; rfl) | (simp_all; done))))
  | false =>
    try simp only [hc1, cond_true, cond_false] at hG ⊢
    all_goals try simp only [Bool.and_eq_true, Bool.true_and, Bool.and_true] at hG
    all_goals try simp only [hG, zg, cond_true, and_self]
    all_goals first | rfl | (refine congrArg some (congrArg Sum.inr (Prod.ext rfl (Prod.ext ?_ (Prod.ext ?_ rfl)))) <;> first | rfl | (funext b; simp only [zup]; (repeat' split) <;> first | rfl | omega | (subst_vars; rfl) | (subst_vars; funext k; simp only [zup]; (repeat' split) <;> first | rfl | omega | (subst_vars; rfl) | (simp_all; done))))
set_option maxRecDepth 10000 in
theorem t_sc_lowValueOf_9 {X : Nat × (Nat → Int32)} {ar fi : Nat → Nat → Int32} {m1 m2 m3 m4 m5 : Nat} {x : Int32} {W_sc_isGone : Int32 → Int32 → Int32} : zseg X zFT (zEx 79 (P_sc_isGone W_sc_isGone) zE0) zc_88 (fun _ => false) 400 0 [.ref 9, .int x] [] (ar, fi, (m1, m2, m3, m4, m5)) = (
  bif decide (W_sc_isGone x (fi 9 7) = 0) then
   zg (zin x 24) (
   some (.inr (some (.int (((ar 14) (x.toNatClampNeg)) &&& 255)), (ar, fi, (m1, m2, m3, m4, m5)))))
  else
   some (.inr (some (.int 0), (ar, fi, (m1, m2, m3, m4, m5)))) : Option ((Nat × List Value × List Value × zH2) ⊕ zO2)) := by with_unfolding_all rfl
set_option maxRecDepth 10000 in
theorem e_sc_lowValueOf_9 {X : Nat × (Nat → Int32)} {ar fi : Nat → Nat → Int32} {m1 m2 m3 m4 m5 : Nat} {x : Int32} (hG : g_sc_lowValueOf x (fi 9 7) (ar 14) = true) : zseg X zFT (zEx 79 S_sc_isGone zE0) zc_88 (fun _ => false) 400 0 [.ref 9, .int x] [] (ar, fi, (m1, m2, m3, m4, m5)) = some (.inr (some (.int (w_sc_lowValueOf x (fi 9 7) (ar 14))), (ar, fi, (m1, m2, m3, m4, m5)))) := by
  rw [t_sc_lowValueOf_9]
  unfold g_sc_lowValueOf at hG
  unfold w_sc_lowValueOf
  cases hc1 : (decide (w_sc_isGone x (fi 9 7) = 0)) with
  | true =>
    try simp only [hc1, cond_true, cond_false] at hG ⊢
    all_goals try simp only [Bool.and_eq_true, Bool.true_and, Bool.and_true] at hG
    all_goals try simp only [hG, zg, cond_true, and_self]
    all_goals first | rfl | (refine congrArg some (congrArg Sum.inr (Prod.ext rfl (Prod.ext ?_ (Prod.ext ?_ rfl)))) <;> first | rfl | (funext b; simp only [zup]; (repeat' split) <;> first | rfl | omega | (subst_vars; rfl) | (subst_vars; funext k; simp only [zup]; (repeat' split) <;> first | rfl | omega | (subst_vars; rfl) | (simp_all; done))))
  | false =>
    try simp only [hc1, cond_true, cond_false] at hG ⊢
    all_goals try simp only [Bool.and_eq_true, Bool.true_and, Bool.and_true] at hG
    all_goals try simp only [hG, zg, cond_true, and_self]
    all_goals first | rfl | (refine congrArg some (congrArg Sum.inr (Prod.ext rfl (Prod.ext ?_ (Prod.ext ?_ rfl)))) <;> first | rfl | (funext b; simp only [zup]; (repeat' split) <;> first | rfl | omega | (subst_vars; rfl) | (subst_vars; funext k; simp only [zup]; (repeat' split) <;> first | rfl | omega | (subst_vars; rfl) | (simp_all; done))))
set_option maxRecDepth 10000 in
theorem t_sc_lowValueOf_16 {X : Nat × (Nat → Int32)} {ar fi : Nat → Nat → Int32} {m1 m2 m3 m4 m5 : Nat} {x : Int32} {W_sc_isGone : Int32 → Int32 → Int32} : zseg X zFT (zEx 79 (P_sc_isGone W_sc_isGone) zE0) zc_88 (fun _ => false) 400 0 [.ref 16, .int x] [] (ar, fi, (m1, m2, m3, m4, m5)) = (
  bif decide (W_sc_isGone x (fi 16 7) = 0) then
   zg (zin x 24) (
   some (.inr (some (.int (((ar 21) (x.toNatClampNeg)) &&& 255)), (ar, fi, (m1, m2, m3, m4, m5)))))
  else
   some (.inr (some (.int 0), (ar, fi, (m1, m2, m3, m4, m5)))) : Option ((Nat × List Value × List Value × zH2) ⊕ zO2)) := by with_unfolding_all rfl
set_option maxRecDepth 10000 in
theorem e_sc_lowValueOf_16 {X : Nat × (Nat → Int32)} {ar fi : Nat → Nat → Int32} {m1 m2 m3 m4 m5 : Nat} {x : Int32} (hG : g_sc_lowValueOf x (fi 16 7) (ar 21) = true) : zseg X zFT (zEx 79 S_sc_isGone zE0) zc_88 (fun _ => false) 400 0 [.ref 16, .int x] [] (ar, fi, (m1, m2, m3, m4, m5)) = some (.inr (some (.int (w_sc_lowValueOf x (fi 16 7) (ar 21))), (ar, fi, (m1, m2, m3, m4, m5)))) := by
  rw [t_sc_lowValueOf_16]
  unfold g_sc_lowValueOf at hG
  unfold w_sc_lowValueOf
  cases hc1 : (decide (w_sc_isGone x (fi 16 7) = 0)) with
  | true =>
    try simp only [hc1, cond_true, cond_false] at hG ⊢
    all_goals try simp only [Bool.and_eq_true, Bool.true_and, Bool.and_true] at hG
    all_goals try simp only [hG, zg, cond_true, and_self]
    all_goals first | rfl | (refine congrArg some (congrArg Sum.inr (Prod.ext rfl (Prod.ext ?_ (Prod.ext ?_ rfl)))) <;> first | rfl | (funext b; simp only [zup]; (repeat' split) <;> first | rfl | omega | (subst_vars; rfl) | (subst_vars; funext k; simp only [zup]; (repeat' split) <;> first | rfl | omega | (subst_vars; rfl) | (simp_all; done))))
  | false =>
    try simp only [hc1, cond_true, cond_false] at hG ⊢
    all_goals try simp only [Bool.and_eq_true, Bool.true_and, Bool.and_true] at hG
    all_goals try simp only [hG, zg, cond_true, and_self]
    all_goals first | rfl | (refine congrArg some (congrArg Sum.inr (Prod.ext rfl (Prod.ext ?_ (Prod.ext ?_ rfl)))) <;> first | rfl | (funext b; simp only [zup]; (repeat' split) <;> first | rfl | omega | (subst_vars; rfl) | (subst_vars; funext k; simp only [zup]; (repeat' split) <;> first | rfl | omega | (subst_vars; rfl) | (simp_all; done))))
theorem ok_sc_lowValueOf (X : Nat × (Nat → Int32)) : zOkS X 88 S_sc_lowValueOf 2 := zOkS_new (zOkE_cons (ok_sc_isGone X) (by decide) (zOkE_nil X 1)) (by
  intro args g o h
  obtain ⟨ar, fi, m1, m2, m3, m4, m5⟩ := g
  unfold S_sc_lowValueOf P_sc_lowValueOf at h
  split at h
  · refine zb_el h (fun hI0 k0 => ?_) (fun _ h10 => ?_)
    · have h2 := Option.some.inj k0
      have hG := congrArg Prod.fst h2
      have ho := congrArg Prod.snd h2
      dsimp only at hG ho
      subst ho
      try simp only [Bool.and_eq_true] at hI0
      have j0 := hI0
      have e0 := Nat.eq_of_beq_eq_true j0
      subst e0
      exact zseg_ret (e_sc_lowValueOf_2 hG)
    · skip
      refine zb_el h10 (fun hI1 k1 => ?_) (fun _ h11 => ?_)
      · have h2 := Option.some.inj k1
        have hG := congrArg Prod.fst h2
        have ho := congrArg Prod.snd h2
        dsimp only at hG ho
        subst ho
        try simp only [Bool.and_eq_true] at hI1
        have j0 := hI1
        have e0 := Nat.eq_of_beq_eq_true j0
        subst e0
        exact zseg_ret (e_sc_lowValueOf_9 hG)
      · skip
        refine zb_el h11 (fun hI2 k2 => ?_) (fun _ h12 => ?_)
        · have h2 := Option.some.inj k2
          have hG := congrArg Prod.fst h2
          have ho := congrArg Prod.snd h2
          dsimp only at hG ho
          subst ho
          try simp only [Bool.and_eq_true] at hI2
          have j0 := hI2
          have e0 := Nat.eq_of_beq_eq_true j0
          subst e0
          exact zseg_ret (e_sc_lowValueOf_16 hG)
        · cases h12
  · cases h)
def g_tx_isDigit (p0 : Int32) (p1 : Int32) (p2 : Int32) (p3 : Nat → Int32) : Bool := g_tx_sign (p0) (p1) (p2) p3
def w_tx_isDigit (p0 : Int32) (p1 : Int32) (p2 : Int32) (p3 : Nat → Int32) : Int32 := (bif decide (w_tx_sign (p0) (p1) (p2) p3 < 48) then 0 else (bif decide (57 < w_tx_sign (p0) (p1) (p2) p3) then 0 else 1))
def P_tx_isDigit (G : Int32 → Int32 → Int32 → (Nat → Int32) → Bool) (W : Int32 → Int32 → Int32 → (Nat → Int32) → Int32) : zSp := fun as g => match as with
  | [.ref a] => bif Nat.beq a 40 && Nat.beq g.2.2.2.2.1 1 then some (G (g.2.1 40 2) (g.2.1 40 4) (g.2.1 40 1) (g.1 1), (some (.int (W (g.2.1 40 2) (g.2.1 40 4) (g.2.1 40 1) (g.1 1))), (g.1, g.2.1, g.2.2))) else bif Nat.beq a 44 && Nat.beq g.2.2.2.2.2.1 1 then some (G (g.2.1 44 2) (g.2.1 44 4) (g.2.1 44 1) (g.1 1), (some (.int (W (g.2.1 44 2) (g.2.1 44 4) (g.2.1 44 1) (g.1 1))), (g.1, g.2.1, g.2.2))) else bif Nat.beq a 47 && Nat.beq g.2.2.2.2.2.2 1 then some (G (g.2.1 47 2) (g.2.1 47 4) (g.2.1 47 1) (g.1 1), (some (.int (W (g.2.1 47 2) (g.2.1 47 4) (g.2.1 47 1) (g.1 1))), (g.1, g.2.1, g.2.2))) else none
  | _ => none
abbrev S_tx_isDigit : zSp := P_tx_isDigit g_tx_isDigit w_tx_isDigit
set_option maxRecDepth 10000 in
theorem t_tx_isDigit_40 {X : Nat × (Nat → Int32)} {ar fi : Nat → Nat → Int32} {m1 m2 m4 m5 : Nat} {G_tx_sign : Int32 → Int32 → Int32 → (Nat → Int32) → Bool} {W_tx_sign : Int32 → Int32 → Int32 → (Nat → Int32) → Int32} : zseg X zFT (zEx 93 (P_tx_sign G_tx_sign W_tx_sign) zE0) zc_94 (fun _ => false) 400 0 [.ref 40] [] (ar, fi, (m1, m2, 1, m4, m5)) = (
  zg (G_tx_sign (fi 40 2) (fi 40 4) (fi 40 1) (ar 1)) (
  bif decide (W_tx_sign (fi 40 2) (fi 40 4) (fi 40 1) (ar 1) < 48) then
   some (.inr (some (.int 0), (ar, fi, (m1, m2, 1, m4, m5))))
  else
   bif decide (57 < W_tx_sign (fi 40 2) (fi 40 4) (fi 40 1) (ar 1)) then
    some (.inr (some (.int 0), (ar, fi, (m1, m2, 1, m4, m5))))
   else
    some (.inr (some (.int 1), (ar, fi, (m1, m2, 1, m4, m5))))) : Option ((Nat × List Value × List Value × zH2) ⊕ zO2)) := by with_unfolding_all rfl
set_option maxRecDepth 10000 in
theorem e_tx_isDigit_40 {X : Nat × (Nat → Int32)} {ar fi : Nat → Nat → Int32} {m1 m2 m4 m5 : Nat} (hG : g_tx_isDigit (fi 40 2) (fi 40 4) (fi 40 1) (ar 1) = true) : zseg X zFT (zEx 93 S_tx_sign zE0) zc_94 (fun _ => false) 400 0 [.ref 40] [] (ar, fi, (m1, m2, 1, m4, m5)) = some (.inr (some (.int (w_tx_isDigit (fi 40 2) (fi 40 4) (fi 40 1) (ar 1))), (ar, fi, (m1, m2, 1, m4, m5)))) := by
  rw [t_tx_isDigit_40]
  unfold g_tx_isDigit at hG
  unfold w_tx_isDigit
  cases hc1 : (decide (w_tx_sign (fi 40 2) (fi 40 4) (fi 40 1) (ar 1) < 48)) with
  | true =>
    try simp only [hc1, cond_true, cond_false] at hG ⊢
    all_goals try simp only [Bool.and_eq_true, Bool.true_and, Bool.and_true] at hG
    all_goals try simp only [hG, zg, cond_true, and_self]
    all_goals first | rfl | (refine congrArg some (congrArg Sum.inr (Prod.ext rfl (Prod.ext ?_ (Prod.ext ?_ rfl)))) <;> first | rfl | (funext b; simp only [zup]; (repeat' split) <;> first | rfl | omega | (subst_vars; rfl) | (subst_vars; funext k; simp only [zup]; (repeat' split) <;> first | rfl | omega | (subst_vars; rfl) | (simp_all; done))))
  | false =>
    try simp only [hc1, cond_true, cond_false] at hG ⊢
    cases hc2 : (decide (57 < w_tx_sign (fi 40 2) (fi 40 4) (fi 40 1) (ar 1))) with
    | true =>
      try simp only [hc2, cond_true, cond_false] at hG ⊢
      all_goals try simp only [Bool.and_eq_true, Bool.true_and, Bool.and_true] at hG
      all_goals try simp only [hG, zg, cond_true, and_self]
      all_goals first | rfl | (refine congrArg some (congrArg Sum.inr (Prod.ext rfl (Prod.ext ?_ (Prod.ext ?_ rfl)))) <;> first | rfl | (funext b; simp only [zup]; (repeat' split) <;> first | rfl | omega | (subst_vars; rfl) | (subst_vars; funext k; simp only [zup]; (repeat' split) <;> first | rfl | omega | (subst_vars; rfl) | (simp_all; done))))
    | false =>
      try simp only [hc2, cond_true, cond_false] at hG ⊢
      all_goals try simp only [Bool.and_eq_true, Bool.true_and, Bool.and_true] at hG
      all_goals try simp only [hG, zg, cond_true, and_self]
      all_goals first | rfl | (refine congrArg some (congrArg Sum.inr (Prod.ext rfl (Prod.ext ?_ (Prod.ext ?_ rfl)))) <;> first | rfl | (funext b; simp only [zup]; (repeat' split) <;> first | rfl | omega | (subst_vars; rfl) | (subst_vars; funext k; simp only [zup]; (repeat' split) <;> first | rfl | omega | (subst_vars; rfl) | (simp_all; done))))
set_option maxRecDepth 10000 in
theorem t_tx_isDigit_44 {X : Nat × (Nat → Int32)} {ar fi : Nat → Nat → Int32} {m1 m2 m3 m5 : Nat} {G_tx_sign : Int32 → Int32 → Int32 → (Nat → Int32) → Bool} {W_tx_sign : Int32 → Int32 → Int32 → (Nat → Int32) → Int32} : zseg X zFT (zEx 93 (P_tx_sign G_tx_sign W_tx_sign) zE0) zc_94 (fun _ => false) 400 0 [.ref 44] [] (ar, fi, (m1, m2, m3, 1, m5)) = (
  zg (G_tx_sign (fi 44 2) (fi 44 4) (fi 44 1) (ar 1)) (
  bif decide (W_tx_sign (fi 44 2) (fi 44 4) (fi 44 1) (ar 1) < 48) then
   some (.inr (some (.int 0), (ar, fi, (m1, m2, m3, 1, m5))))
  else
   bif decide (57 < W_tx_sign (fi 44 2) (fi 44 4) (fi 44 1) (ar 1)) then
    some (.inr (some (.int 0), (ar, fi, (m1, m2, m3, 1, m5))))
   else
    some (.inr (some (.int 1), (ar, fi, (m1, m2, m3, 1, m5))))) : Option ((Nat × List Value × List Value × zH2) ⊕ zO2)) := by with_unfolding_all rfl
set_option maxRecDepth 10000 in
theorem e_tx_isDigit_44 {X : Nat × (Nat → Int32)} {ar fi : Nat → Nat → Int32} {m1 m2 m3 m5 : Nat} (hG : g_tx_isDigit (fi 44 2) (fi 44 4) (fi 44 1) (ar 1) = true) : zseg X zFT (zEx 93 S_tx_sign zE0) zc_94 (fun _ => false) 400 0 [.ref 44] [] (ar, fi, (m1, m2, m3, 1, m5)) = some (.inr (some (.int (w_tx_isDigit (fi 44 2) (fi 44 4) (fi 44 1) (ar 1))), (ar, fi, (m1, m2, m3, 1, m5)))) := by
  rw [t_tx_isDigit_44]
  unfold g_tx_isDigit at hG
  unfold w_tx_isDigit
  cases hc1 : (decide (w_tx_sign (fi 44 2) (fi 44 4) (fi 44 1) (ar 1) < 48)) with
  | true =>
    try simp only [hc1, cond_true, cond_false] at hG ⊢
    all_goals try simp only [Bool.and_eq_true, Bool.true_and, Bool.and_true] at hG
    all_goals try simp only [hG, zg, cond_true, and_self]
    all_goals first | rfl | (refine congrArg some (congrArg Sum.inr (Prod.ext rfl (Prod.ext ?_ (Prod.ext ?_ rfl)))) <;> first | rfl | (funext b; simp only [zup]; (repeat' split) <;> first | rfl | omega | (subst_vars; rfl) | (subst_vars; funext k; simp only [zup]; (repeat' split) <;> first | rfl | omega | (subst_vars; rfl) | (simp_all; done))))
  | false =>
    try simp only [hc1, cond_true, cond_false] at hG ⊢
    cases hc2 : (decide (57 < w_tx_sign (fi 44 2) (fi 44 4) (fi 44 1) (ar 1))) with
    | true =>
      try simp only [hc2, cond_true, cond_false] at hG ⊢
      all_goals try simp only [Bool.and_eq_true, Bool.true_and, Bool.and_true] at hG
      all_goals try simp only [hG, zg, cond_true, and_self]
      all_goals first | rfl | (refine congrArg some (congrArg Sum.inr (Prod.ext rfl (Prod.ext ?_ (Prod.ext ?_ rfl)))) <;> first | rfl | (funext b; simp only [zup]; (repeat' split) <;> first | rfl | omega | (subst_vars; rfl) | (subst_vars; funext k; simp only [zup]; (repeat' split) <;> first | rfl | omega | (subst_vars; rfl) | (simp_all; done))))
    | false =>
      try simp only [hc2, cond_true, cond_false] at hG ⊢
      all_goals try simp only [Bool.and_eq_true, Bool.true_and, Bool.and_true] at hG
      all_goals try simp only [hG, zg, cond_true, and_self]
      all_goals first | rfl | (refine congrArg some (congrArg Sum.inr (Prod.ext rfl (Prod.ext ?_ (Prod.ext ?_ rfl)))) <;> first | rfl | (funext b; simp only [zup]; (repeat' split) <;> first | rfl | omega | (subst_vars; rfl) | (subst_vars; funext k; simp only [zup]; (repeat' split) <;> first | rfl | omega | (subst_vars; rfl) | (simp_all; done))))
set_option maxRecDepth 10000 in
theorem t_tx_isDigit_47 {X : Nat × (Nat → Int32)} {ar fi : Nat → Nat → Int32} {m1 m2 m3 m4 : Nat} {G_tx_sign : Int32 → Int32 → Int32 → (Nat → Int32) → Bool} {W_tx_sign : Int32 → Int32 → Int32 → (Nat → Int32) → Int32} : zseg X zFT (zEx 93 (P_tx_sign G_tx_sign W_tx_sign) zE0) zc_94 (fun _ => false) 400 0 [.ref 47] [] (ar, fi, (m1, m2, m3, m4, 1)) = (
  zg (G_tx_sign (fi 47 2) (fi 47 4) (fi 47 1) (ar 1)) (
  bif decide (W_tx_sign (fi 47 2) (fi 47 4) (fi 47 1) (ar 1) < 48) then
   some (.inr (some (.int 0), (ar, fi, (m1, m2, m3, m4, 1))))
  else
   bif decide (57 < W_tx_sign (fi 47 2) (fi 47 4) (fi 47 1) (ar 1)) then
    some (.inr (some (.int 0), (ar, fi, (m1, m2, m3, m4, 1))))
   else
    some (.inr (some (.int 1), (ar, fi, (m1, m2, m3, m4, 1))))) : Option ((Nat × List Value × List Value × zH2) ⊕ zO2)) := by with_unfolding_all rfl
set_option maxRecDepth 10000 in
theorem e_tx_isDigit_47 {X : Nat × (Nat → Int32)} {ar fi : Nat → Nat → Int32} {m1 m2 m3 m4 : Nat} (hG : g_tx_isDigit (fi 47 2) (fi 47 4) (fi 47 1) (ar 1) = true) : zseg X zFT (zEx 93 S_tx_sign zE0) zc_94 (fun _ => false) 400 0 [.ref 47] [] (ar, fi, (m1, m2, m3, m4, 1)) = some (.inr (some (.int (w_tx_isDigit (fi 47 2) (fi 47 4) (fi 47 1) (ar 1))), (ar, fi, (m1, m2, m3, m4, 1)))) := by
  rw [t_tx_isDigit_47]
  unfold g_tx_isDigit at hG
  unfold w_tx_isDigit
  cases hc1 : (decide (w_tx_sign (fi 47 2) (fi 47 4) (fi 47 1) (ar 1) < 48)) with
  | true =>
    try simp only [hc1, cond_true, cond_false] at hG ⊢
    all_goals try simp only [Bool.and_eq_true, Bool.true_and, Bool.and_true] at hG
    all_goals try simp only [hG, zg, cond_true, and_self]
    all_goals first | rfl | (refine congrArg some (congrArg Sum.inr (Prod.ext rfl (Prod.ext ?_ (Prod.ext ?_ rfl)))) <;> first | rfl | (funext b; simp only [zup]; (repeat' split) <;> first | rfl | omega | (subst_vars; rfl) | (subst_vars; funext k; simp only [zup]; (repeat' split) <;> first | rfl | omega | (subst_vars; rfl) | (simp_all; done))))
  | false =>
    try simp only [hc1, cond_true, cond_false] at hG ⊢
    cases hc2 : (decide (57 < w_tx_sign (fi 47 2) (fi 47 4) (fi 47 1) (ar 1))) with
    | true =>
      try simp only [hc2, cond_true, cond_false] at hG ⊢
      all_goals try simp only [Bool.and_eq_true, Bool.true_and, Bool.and_true] at hG
      all_goals try simp only [hG, zg, cond_true, and_self]
      all_goals first | rfl | (refine congrArg some (congrArg Sum.inr (Prod.ext rfl (Prod.ext ?_ (Prod.ext ?_ rfl)))) <;> first | rfl | (funext b; simp only [zup]; (repeat' split) <;> first | rfl | omega | (subst_vars; rfl) | (subst_vars; funext k; simp only [zup]; (repeat' split) <;> first | rfl | omega | (subst_vars; rfl) | (simp_all; done))))
    | false =>
      try simp only [hc2, cond_true, cond_false] at hG ⊢
      all_goals try simp only [Bool.and_eq_true, Bool.true_and, Bool.and_true] at hG
      all_goals try simp only [hG, zg, cond_true, and_self]
      all_goals first | rfl | (refine congrArg some (congrArg Sum.inr (Prod.ext rfl (Prod.ext ?_ (Prod.ext ?_ rfl)))) <;> first | rfl | (funext b; simp only [zup]; (repeat' split) <;> first | rfl | omega | (subst_vars; rfl) | (subst_vars; funext k; simp only [zup]; (repeat' split) <;> first | rfl | omega | (subst_vars; rfl) | (simp_all; done))))
theorem ok_tx_isDigit (X : Nat × (Nat → Int32)) : zOkS X 94 S_tx_isDigit 2 := zOkS_new (zOkE_cons (ok_tx_sign X) (by decide) (zOkE_nil X 1)) (by
  intro args g o h
  obtain ⟨ar, fi, m1, m2, m3, m4, m5⟩ := g
  unfold S_tx_isDigit P_tx_isDigit at h
  split at h
  · refine zb_el h (fun hI0 k0 => ?_) (fun _ h10 => ?_)
    · have h2 := Option.some.inj k0
      have hG := congrArg Prod.fst h2
      have ho := congrArg Prod.snd h2
      dsimp only at hG ho
      subst ho
      try simp only [Bool.and_eq_true] at hI0
      obtain ⟨j0, j1⟩ := hI0
      have e0 := Nat.eq_of_beq_eq_true j0
      subst e0
      have e9 : m3 = 1 := Nat.eq_of_beq_eq_true j1
      subst e9
      exact zseg_ret (e_tx_isDigit_40 hG)
    · skip
      refine zb_el h10 (fun hI1 k1 => ?_) (fun _ h11 => ?_)
      · have h2 := Option.some.inj k1
        have hG := congrArg Prod.fst h2
        have ho := congrArg Prod.snd h2
        dsimp only at hG ho
        subst ho
        try simp only [Bool.and_eq_true] at hI1
        obtain ⟨j0, j1⟩ := hI1
        have e0 := Nat.eq_of_beq_eq_true j0
        subst e0
        have e9 : m4 = 1 := Nat.eq_of_beq_eq_true j1
        subst e9
        exact zseg_ret (e_tx_isDigit_44 hG)
      · skip
        refine zb_el h11 (fun hI2 k2 => ?_) (fun _ h12 => ?_)
        · have h2 := Option.some.inj k2
          have hG := congrArg Prod.fst h2
          have ho := congrArg Prod.snd h2
          dsimp only at hG ho
          subst ho
          try simp only [Bool.and_eq_true] at hI2
          obtain ⟨j0, j1⟩ := hI2
          have e0 := Nat.eq_of_beq_eq_true j0
          subst e0
          have e9 : m5 = 1 := Nat.eq_of_beq_eq_true j1
          subst e9
          exact zseg_ret (e_tx_isDigit_47 hG)
        · cases h12
  · cases h)
def g_tx_expect (x : Int32) (p0 : Int32) (p1 : Int32) (p2 : Int32) (p3 : Nat → Int32) (p4 : Int32) : Bool := g_tx_sign (p0) (p1) (p2) p3
def f0_tx_expect (x : Int32) (p0 : Int32) (p1 : Int32) (p2 : Int32) (p3 : Nat → Int32) (p4 : Int32) : Int32 := (bif !decide (w_tx_sign (p0) (p1) (p2) p3 = x) then (f0_tx_fail 1 (p1) (p0) (p4)) else p0)
def f1_tx_expect (x : Int32) (p0 : Int32) (p1 : Int32) (p2 : Int32) (p3 : Nat → Int32) (p4 : Int32) : Int32 := (bif !decide (w_tx_sign (p0) (p1) (p2) p3 = x) then (f1_tx_fail 1 (p1) (p0) (p4)) else p4)
def f2_tx_expect (x : Int32) (p0 : Int32) (p1 : Int32) (p2 : Int32) (p3 : Nat → Int32) (p4 : Int32) : Int32 := (bif !decide (w_tx_sign (p0) (p1) (p2) p3 = x) then p1 else (p1) + 1)
def P_tx_expect (G : Int32 → Int32 → Int32 → Int32 → (Nat → Int32) → Int32 → Bool) (F0 : Int32 → Int32 → Int32 → Int32 → (Nat → Int32) → Int32 → Int32) (F1 : Int32 → Int32 → Int32 → Int32 → (Nat → Int32) → Int32 → Int32) (F2 : Int32 → Int32 → Int32 → Int32 → (Nat → Int32) → Int32 → Int32) : zSp := fun as g => match as with
  | [.ref a, .int x] => bif Nat.beq a 40 && Nat.beq g.2.2.2.2.1 1 then some (G x (g.2.1 40 2) (g.2.1 40 4) (g.2.1 40 1) (g.1 1) (g.2.1 40 3), (none, (g.1, (zup (zup (zup g.2.1 40 (zup (g.2.1 40) 2 (F0 x (g.2.1 40 2) (g.2.1 40 4) (g.2.1 40 1) (g.1 1) (g.2.1 40 3)))) 40 (zup ((zup g.2.1 40 (zup (g.2.1 40) 2 (F0 x (g.2.1 40 2) (g.2.1 40 4) (g.2.1 40 1) (g.1 1) (g.2.1 40 3)))) 40) 3 (F1 x (g.2.1 40 2) (g.2.1 40 4) (g.2.1 40 1) (g.1 1) (g.2.1 40 3)))) 40 (zup ((zup (zup g.2.1 40 (zup (g.2.1 40) 2 (F0 x (g.2.1 40 2) (g.2.1 40 4) (g.2.1 40 1) (g.1 1) (g.2.1 40 3)))) 40 (zup ((zup g.2.1 40 (zup (g.2.1 40) 2 (F0 x (g.2.1 40 2) (g.2.1 40 4) (g.2.1 40 1) (g.1 1) (g.2.1 40 3)))) 40) 3 (F1 x (g.2.1 40 2) (g.2.1 40 4) (g.2.1 40 1) (g.1 1) (g.2.1 40 3)))) 40) 4 (F2 x (g.2.1 40 2) (g.2.1 40 4) (g.2.1 40 1) (g.1 1) (g.2.1 40 3)))), g.2.2))) else bif Nat.beq a 44 && Nat.beq g.2.2.2.2.2.1 1 then some (G x (g.2.1 44 2) (g.2.1 44 4) (g.2.1 44 1) (g.1 1) (g.2.1 44 3), (none, (g.1, (zup (zup (zup g.2.1 44 (zup (g.2.1 44) 2 (F0 x (g.2.1 44 2) (g.2.1 44 4) (g.2.1 44 1) (g.1 1) (g.2.1 44 3)))) 44 (zup ((zup g.2.1 44 (zup (g.2.1 44) 2 (F0 x (g.2.1 44 2) (g.2.1 44 4) (g.2.1 44 1) (g.1 1) (g.2.1 44 3)))) 44) 3 (F1 x (g.2.1 44 2) (g.2.1 44 4) (g.2.1 44 1) (g.1 1) (g.2.1 44 3)))) 44 (zup ((zup (zup g.2.1 44 (zup (g.2.1 44) 2 (F0 x (g.2.1 44 2) (g.2.1 44 4) (g.2.1 44 1) (g.1 1) (g.2.1 44 3)))) 44 (zup ((zup g.2.1 44 (zup (g.2.1 44) 2 (F0 x (g.2.1 44 2) (g.2.1 44 4) (g.2.1 44 1) (g.1 1) (g.2.1 44 3)))) 44) 3 (F1 x (g.2.1 44 2) (g.2.1 44 4) (g.2.1 44 1) (g.1 1) (g.2.1 44 3)))) 44) 4 (F2 x (g.2.1 44 2) (g.2.1 44 4) (g.2.1 44 1) (g.1 1) (g.2.1 44 3)))), g.2.2))) else bif Nat.beq a 47 && Nat.beq g.2.2.2.2.2.2 1 then some (G x (g.2.1 47 2) (g.2.1 47 4) (g.2.1 47 1) (g.1 1) (g.2.1 47 3), (none, (g.1, (zup (zup (zup g.2.1 47 (zup (g.2.1 47) 2 (F0 x (g.2.1 47 2) (g.2.1 47 4) (g.2.1 47 1) (g.1 1) (g.2.1 47 3)))) 47 (zup ((zup g.2.1 47 (zup (g.2.1 47) 2 (F0 x (g.2.1 47 2) (g.2.1 47 4) (g.2.1 47 1) (g.1 1) (g.2.1 47 3)))) 47) 3 (F1 x (g.2.1 47 2) (g.2.1 47 4) (g.2.1 47 1) (g.1 1) (g.2.1 47 3)))) 47 (zup ((zup (zup g.2.1 47 (zup (g.2.1 47) 2 (F0 x (g.2.1 47 2) (g.2.1 47 4) (g.2.1 47 1) (g.1 1) (g.2.1 47 3)))) 47 (zup ((zup g.2.1 47 (zup (g.2.1 47) 2 (F0 x (g.2.1 47 2) (g.2.1 47 4) (g.2.1 47 1) (g.1 1) (g.2.1 47 3)))) 47) 3 (F1 x (g.2.1 47 2) (g.2.1 47 4) (g.2.1 47 1) (g.1 1) (g.2.1 47 3)))) 47) 4 (F2 x (g.2.1 47 2) (g.2.1 47 4) (g.2.1 47 1) (g.1 1) (g.2.1 47 3)))), g.2.2))) else none
  | _ => none
abbrev S_tx_expect : zSp := P_tx_expect g_tx_expect f0_tx_expect f1_tx_expect f2_tx_expect
set_option maxRecDepth 10000 in
theorem t_tx_expect_40 {X : Nat × (Nat → Int32)} {ar fi : Nat → Nat → Int32} {m1 m2 m4 m5 : Nat} {x : Int32} {G_tx_sign : Int32 → Int32 → Int32 → (Nat → Int32) → Bool} {W_tx_sign : Int32 → Int32 → Int32 → (Nat → Int32) → Int32} {F0_tx_fail : Int32 → Int32 → Int32 → Int32 → Int32} {F1_tx_fail : Int32 → Int32 → Int32 → Int32 → Int32} : zseg X zFT (zEx 93 (P_tx_sign G_tx_sign W_tx_sign) (zEx 97 (P_tx_fail F0_tx_fail F1_tx_fail) zE0)) zc_96 (fun _ => false) 400 0 [.ref 40, .int x] [] (ar, fi, (m1, m2, 1, m4, m5)) = (
  zg (G_tx_sign (fi 40 2) (fi 40 4) (fi 40 1) (ar 1)) (
  bif !decide (W_tx_sign (fi 40 2) (fi 40 4) (fi 40 1) (ar 1) = x) then
   some (.inr (none, (ar, (zup (zup fi 40 (zup (fi 40) 2 (F0_tx_fail 1 (fi 40 4) (fi 40 2) (fi 40 3)))) 40 (zup ((zup fi 40 (zup (fi 40) 2 (F0_tx_fail 1 (fi 40 4) (fi 40 2) (fi 40 3)))) 40) 3 (F1_tx_fail 1 (fi 40 4) (fi 40 2) (fi 40 3)))), (m1, m2, 1, m4, m5))))
  else
   some (.inr (none, (ar, (zup fi 40 (zup (fi 40) 4 ((fi 40 4) + 1))), (m1, m2, 1, m4, m5))))) : Option ((Nat × List Value × List Value × zH2) ⊕ zO2)) := by with_unfolding_all rfl
set_option maxRecDepth 10000 in
theorem e_tx_expect_40 {X : Nat × (Nat → Int32)} {ar fi : Nat → Nat → Int32} {m1 m2 m4 m5 : Nat} {x : Int32} (hG : g_tx_expect x (fi 40 2) (fi 40 4) (fi 40 1) (ar 1) (fi 40 3) = true) : zseg X zFT (zEx 93 S_tx_sign (zEx 97 S_tx_fail zE0)) zc_96 (fun _ => false) 400 0 [.ref 40, .int x] [] (ar, fi, (m1, m2, 1, m4, m5)) = some (.inr (none, (ar, (zup (zup (zup fi 40 (zup (fi 40) 2 (f0_tx_expect x (fi 40 2) (fi 40 4) (fi 40 1) (ar 1) (fi 40 3)))) 40 (zup ((zup fi 40 (zup (fi 40) 2 (f0_tx_expect x (fi 40 2) (fi 40 4) (fi 40 1) (ar 1) (fi 40 3)))) 40) 3 (f1_tx_expect x (fi 40 2) (fi 40 4) (fi 40 1) (ar 1) (fi 40 3)))) 40 (zup ((zup (zup fi 40 (zup (fi 40) 2 (f0_tx_expect x (fi 40 2) (fi 40 4) (fi 40 1) (ar 1) (fi 40 3)))) 40 (zup ((zup fi 40 (zup (fi 40) 2 (f0_tx_expect x (fi 40 2) (fi 40 4) (fi 40 1) (ar 1) (fi 40 3)))) 40) 3 (f1_tx_expect x (fi 40 2) (fi 40 4) (fi 40 1) (ar 1) (fi 40 3)))) 40) 4 (f2_tx_expect x (fi 40 2) (fi 40 4) (fi 40 1) (ar 1) (fi 40 3)))), (m1, m2, 1, m4, m5)))) := by
  rw [t_tx_expect_40]
  unfold g_tx_expect at hG
  unfold f0_tx_expect f1_tx_expect f2_tx_expect
  cases hc1 : (!decide (w_tx_sign (fi 40 2) (fi 40 4) (fi 40 1) (ar 1) = x)) with
  | true =>
    try simp only [hc1, cond_true, cond_false] at hG ⊢
    all_goals try simp only [Bool.and_eq_true, Bool.true_and, Bool.and_true] at hG
    all_goals try simp only [hG, zg, cond_true, and_self]
    all_goals try simp only [zup_zup, zup_same]
    all_goals first | rfl | (refine congrArg some (congrArg Sum.inr (Prod.ext rfl (Prod.ext ?_ (Prod.ext ?_ rfl)))) <;> first | rfl | (funext b; simp only [zup]; (repeat' split) <;> first | rfl | omega | (subst_vars; rfl) | (subst_vars; funext k; simp only [zup]; (repeat' split) <;> first | rfl | omega | (subst_vars; rfl) | (simp_all; done))))
  | false =>
    try simp only [hc1, cond_true, cond_false] at hG ⊢
    all_goals try simp only [Bool.and_eq_true, Bool.true_and, Bool.and_true] at hG
    all_goals try simp only [hG, zg, cond_true, and_self]
    all_goals try simp only [zup_zup, zup_same]
    all_goals first | rfl | (refine congrArg some (congrArg Sum.inr (Prod.ext rfl (Prod.ext ?_ (Prod.ext ?_ rfl)))) <;> first | rfl | (funext b; simp only [zup]; (repeat' split) <;> first | rfl | omega | (subst_vars; rfl) | (subst_vars; funext k; simp only [zup]; (repeat' split) <;> first | rfl | omega | (subst_vars; rfl) | (simp_all; done))))
set_option maxRecDepth 10000 in
theorem t_tx_expect_44 {X : Nat × (Nat → Int32)} {ar fi : Nat → Nat → Int32} {m1 m2 m3 m5 : Nat} {x : Int32} {G_tx_sign : Int32 → Int32 → Int32 → (Nat → Int32) → Bool} {W_tx_sign : Int32 → Int32 → Int32 → (Nat → Int32) → Int32} {F0_tx_fail : Int32 → Int32 → Int32 → Int32 → Int32} {F1_tx_fail : Int32 → Int32 → Int32 → Int32 → Int32} : zseg X zFT (zEx 93 (P_tx_sign G_tx_sign W_tx_sign) (zEx 97 (P_tx_fail F0_tx_fail F1_tx_fail) zE0)) zc_96 (fun _ => false) 400 0 [.ref 44, .int x] [] (ar, fi, (m1, m2, m3, 1, m5)) = (
  zg (G_tx_sign (fi 44 2) (fi 44 4) (fi 44 1) (ar 1)) (
  bif !decide (W_tx_sign (fi 44 2) (fi 44 4) (fi 44 1) (ar 1) = x) then
   some (.inr (none, (ar, (zup (zup fi 44 (zup (fi 44) 2 (F0_tx_fail 1 (fi 44 4) (fi 44 2) (fi 44 3)))) 44 (zup ((zup fi 44 (zup (fi 44) 2 (F0_tx_fail 1 (fi 44 4) (fi 44 2) (fi 44 3)))) 44) 3 (F1_tx_fail 1 (fi 44 4) (fi 44 2) (fi 44 3)))), (m1, m2, m3, 1, m5))))
  else
   some (.inr (none, (ar, (zup fi 44 (zup (fi 44) 4 ((fi 44 4) + 1))), (m1, m2, m3, 1, m5))))) : Option ((Nat × List Value × List Value × zH2) ⊕ zO2)) := by with_unfolding_all rfl
set_option maxRecDepth 10000 in
theorem e_tx_expect_44 {X : Nat × (Nat → Int32)} {ar fi : Nat → Nat → Int32} {m1 m2 m3 m5 : Nat} {x : Int32} (hG : g_tx_expect x (fi 44 2) (fi 44 4) (fi 44 1) (ar 1) (fi 44 3) = true) : zseg X zFT (zEx 93 S_tx_sign (zEx 97 S_tx_fail zE0)) zc_96 (fun _ => false) 400 0 [.ref 44, .int x] [] (ar, fi, (m1, m2, m3, 1, m5)) = some (.inr (none, (ar, (zup (zup (zup fi 44 (zup (fi 44) 2 (f0_tx_expect x (fi 44 2) (fi 44 4) (fi 44 1) (ar 1) (fi 44 3)))) 44 (zup ((zup fi 44 (zup (fi 44) 2 (f0_tx_expect x (fi 44 2) (fi 44 4) (fi 44 1) (ar 1) (fi 44 3)))) 44) 3 (f1_tx_expect x (fi 44 2) (fi 44 4) (fi 44 1) (ar 1) (fi 44 3)))) 44 (zup ((zup (zup fi 44 (zup (fi 44) 2 (f0_tx_expect x (fi 44 2) (fi 44 4) (fi 44 1) (ar 1) (fi 44 3)))) 44 (zup ((zup fi 44 (zup (fi 44) 2 (f0_tx_expect x (fi 44 2) (fi 44 4) (fi 44 1) (ar 1) (fi 44 3)))) 44) 3 (f1_tx_expect x (fi 44 2) (fi 44 4) (fi 44 1) (ar 1) (fi 44 3)))) 44) 4 (f2_tx_expect x (fi 44 2) (fi 44 4) (fi 44 1) (ar 1) (fi 44 3)))), (m1, m2, m3, 1, m5)))) := by
  rw [t_tx_expect_44]
  unfold g_tx_expect at hG
  unfold f0_tx_expect f1_tx_expect f2_tx_expect
  cases hc1 : (!decide (w_tx_sign (fi 44 2) (fi 44 4) (fi 44 1) (ar 1) = x)) with
  | true =>
    try simp only [hc1, cond_true, cond_false] at hG ⊢
    all_goals try simp only [Bool.and_eq_true, Bool.true_and, Bool.and_true] at hG
    all_goals try simp only [hG, zg, cond_true, and_self]
    all_goals try simp only [zup_zup, zup_same]
    all_goals first | rfl | (refine congrArg some (congrArg Sum.inr (Prod.ext rfl (Prod.ext ?_ (Prod.ext ?_ rfl)))) <;> first | rfl | (funext b; simp only [zup]; (repeat' split) <;> first | rfl | omega | (subst_vars; rfl) | (subst_vars; funext k; simp only [zup]; (repeat' split) <;> first | rfl | omega | (subst_vars; rfl) | (simp_all; done))))
  | false =>
    try simp only [hc1, cond_true, cond_false] at hG ⊢
    all_goals try simp only [Bool.and_eq_true, Bool.true_and, Bool.and_true] at hG
    all_goals try simp only [hG, zg, cond_true, and_self]
    all_goals try simp only [zup_zup, zup_same]
    all_goals first | rfl | (refine congrArg some (congrArg Sum.inr (Prod.ext rfl (Prod.ext ?_ (Prod.ext ?_ rfl)))) <;> first | rfl | (funext b; simp only [zup]; (repeat' split) <;> first | rfl | omega | (subst_vars; rfl) | (subst_vars; funext k; simp only [zup]; (repeat' split) <;> first | rfl | omega | (subst_vars; rfl) | (simp_all; done))))
set_option maxRecDepth 10000 in
theorem t_tx_expect_47 {X : Nat × (Nat → Int32)} {ar fi : Nat → Nat → Int32} {m1 m2 m3 m4 : Nat} {x : Int32} {G_tx_sign : Int32 → Int32 → Int32 → (Nat → Int32) → Bool} {W_tx_sign : Int32 → Int32 → Int32 → (Nat → Int32) → Int32} {F0_tx_fail : Int32 → Int32 → Int32 → Int32 → Int32} {F1_tx_fail : Int32 → Int32 → Int32 → Int32 → Int32} : zseg X zFT (zEx 93 (P_tx_sign G_tx_sign W_tx_sign) (zEx 97 (P_tx_fail F0_tx_fail F1_tx_fail) zE0)) zc_96 (fun _ => false) 400 0 [.ref 47, .int x] [] (ar, fi, (m1, m2, m3, m4, 1)) = (
  zg (G_tx_sign (fi 47 2) (fi 47 4) (fi 47 1) (ar 1)) (
  bif !decide (W_tx_sign (fi 47 2) (fi 47 4) (fi 47 1) (ar 1) = x) then
   some (.inr (none, (ar, (zup (zup fi 47 (zup (fi 47) 2 (F0_tx_fail 1 (fi 47 4) (fi 47 2) (fi 47 3)))) 47 (zup ((zup fi 47 (zup (fi 47) 2 (F0_tx_fail 1 (fi 47 4) (fi 47 2) (fi 47 3)))) 47) 3 (F1_tx_fail 1 (fi 47 4) (fi 47 2) (fi 47 3)))), (m1, m2, m3, m4, 1))))
  else
   some (.inr (none, (ar, (zup fi 47 (zup (fi 47) 4 ((fi 47 4) + 1))), (m1, m2, m3, m4, 1))))) : Option ((Nat × List Value × List Value × zH2) ⊕ zO2)) := by with_unfolding_all rfl
set_option maxRecDepth 10000 in
theorem e_tx_expect_47 {X : Nat × (Nat → Int32)} {ar fi : Nat → Nat → Int32} {m1 m2 m3 m4 : Nat} {x : Int32} (hG : g_tx_expect x (fi 47 2) (fi 47 4) (fi 47 1) (ar 1) (fi 47 3) = true) : zseg X zFT (zEx 93 S_tx_sign (zEx 97 S_tx_fail zE0)) zc_96 (fun _ => false) 400 0 [.ref 47, .int x] [] (ar, fi, (m1, m2, m3, m4, 1)) = some (.inr (none, (ar, (zup (zup (zup fi 47 (zup (fi 47) 2 (f0_tx_expect x (fi 47 2) (fi 47 4) (fi 47 1) (ar 1) (fi 47 3)))) 47 (zup ((zup fi 47 (zup (fi 47) 2 (f0_tx_expect x (fi 47 2) (fi 47 4) (fi 47 1) (ar 1) (fi 47 3)))) 47) 3 (f1_tx_expect x (fi 47 2) (fi 47 4) (fi 47 1) (ar 1) (fi 47 3)))) 47 (zup ((zup (zup fi 47 (zup (fi 47) 2 (f0_tx_expect x (fi 47 2) (fi 47 4) (fi 47 1) (ar 1) (fi 47 3)))) 47 (zup ((zup fi 47 (zup (fi 47) 2 (f0_tx_expect x (fi 47 2) (fi 47 4) (fi 47 1) (ar 1) (fi 47 3)))) 47) 3 (f1_tx_expect x (fi 47 2) (fi 47 4) (fi 47 1) (ar 1) (fi 47 3)))) 47) 4 (f2_tx_expect x (fi 47 2) (fi 47 4) (fi 47 1) (ar 1) (fi 47 3)))), (m1, m2, m3, m4, 1)))) := by
  rw [t_tx_expect_47]
  unfold g_tx_expect at hG
  unfold f0_tx_expect f1_tx_expect f2_tx_expect
  cases hc1 : (!decide (w_tx_sign (fi 47 2) (fi 47 4) (fi 47 1) (ar 1) = x)) with
  | true =>
    try simp only [hc1, cond_true, cond_false] at hG ⊢
    all_goals try simp only [Bool.and_eq_true, Bool.true_and, Bool.and_true] at hG
    all_goals try simp only [hG, zg, cond_true, and_self]
    all_goals try simp only [zup_zup, zup_same]
    all_goals first | rfl | (refine congrArg some (congrArg Sum.inr (Prod.ext rfl (Prod.ext ?_ (Prod.ext ?_ rfl)))) <;> first | rfl | (funext b; simp only [zup]; (repeat' split) <;> first | rfl | omega | (subst_vars; rfl) | (subst_vars; funext k; simp only [zup]; (repeat' split) <;> first | rfl | omega | (subst_vars; rfl) | (simp_all; done))))
  | false =>
    try simp only [hc1, cond_true, cond_false] at hG ⊢
    all_goals try simp only [Bool.and_eq_true, Bool.true_and, Bool.and_true] at hG
    all_goals try simp only [hG, zg, cond_true, and_self]
    all_goals try simp only [zup_zup, zup_same]
    all_goals first | rfl | (refine congrArg some (congrArg Sum.inr (Prod.ext rfl (Prod.ext ?_ (Prod.ext ?_ rfl)))) <;> first | rfl | (funext b; simp only [zup]; (repeat' split) <;> first | rfl | omega | (subst_vars; rfl) | (subst_vars; funext k; simp only [zup]; (repeat' split) <;> first | rfl | omega | (subst_vars; rfl) | (simp_all; done))))
theorem ok_tx_expect (X : Nat × (Nat → Int32)) : zOkS X 96 S_tx_expect 2 := zOkS_new (zOkE_cons (ok_tx_sign X) (by decide) (zOkE_cons (ok_tx_fail X) (by decide) (zOkE_nil X 1))) (by
  intro args g o h
  obtain ⟨ar, fi, m1, m2, m3, m4, m5⟩ := g
  unfold S_tx_expect P_tx_expect at h
  split at h
  · refine zb_el h (fun hI0 k0 => ?_) (fun _ h10 => ?_)
    · have h2 := Option.some.inj k0
      have hG := congrArg Prod.fst h2
      have ho := congrArg Prod.snd h2
      dsimp only at hG ho
      subst ho
      try simp only [Bool.and_eq_true] at hI0
      obtain ⟨j0, j1⟩ := hI0
      have e0 := Nat.eq_of_beq_eq_true j0
      subst e0
      have e9 : m3 = 1 := Nat.eq_of_beq_eq_true j1
      subst e9
      exact zseg_ret (e_tx_expect_40 hG)
    · skip
      refine zb_el h10 (fun hI1 k1 => ?_) (fun _ h11 => ?_)
      · have h2 := Option.some.inj k1
        have hG := congrArg Prod.fst h2
        have ho := congrArg Prod.snd h2
        dsimp only at hG ho
        subst ho
        try simp only [Bool.and_eq_true] at hI1
        obtain ⟨j0, j1⟩ := hI1
        have e0 := Nat.eq_of_beq_eq_true j0
        subst e0
        have e9 : m4 = 1 := Nat.eq_of_beq_eq_true j1
        subst e9
        exact zseg_ret (e_tx_expect_44 hG)
      · skip
        refine zb_el h11 (fun hI2 k2 => ?_) (fun _ h12 => ?_)
        · have h2 := Option.some.inj k2
          have hG := congrArg Prod.fst h2
          have ho := congrArg Prod.snd h2
          dsimp only at hG ho
          subst ho
          try simp only [Bool.and_eq_true] at hI2
          obtain ⟨j0, j1⟩ := hI2
          have e0 := Nat.eq_of_beq_eq_true j0
          subst e0
          have e9 : m5 = 1 := Nat.eq_of_beq_eq_true j1
          subst e9
          exact zseg_ret (e_tx_expect_47 hG)
        · cases h12
  · cases h)
def g_tn_isCount (p0 : Int32) (p1 : Int32) (p2 : Int32) (p3 : Nat → Int32) : Bool := (g_tx_sign (p0) (p1) (p2) p3) && (bif decide (w_tx_sign (p0) (p1) (p2) p3 < 50) then true else g_tx_sign (p0) (p1) (p2) p3)
def w_tn_isCount (p0 : Int32) (p1 : Int32) (p2 : Int32) (p3 : Nat → Int32) : Int32 := (bif decide (w_tx_sign (p0) (p1) (p2) p3 < 50) then 0 else (bif decide (57 < w_tx_sign (p0) (p1) (p2) p3) then 0 else 1))
def P_tn_isCount (G : Int32 → Int32 → Int32 → (Nat → Int32) → Bool) (W : Int32 → Int32 → Int32 → (Nat → Int32) → Int32) : zSp := fun as g => match as with
  | [.ref a] => bif Nat.beq a 42 && Nat.beq g.2.2.2.2.2.1 1 then some (G (g.2.1 44 2) (g.2.1 44 4) (g.2.1 44 1) (g.1 1), (some (.int (W (g.2.1 44 2) (g.2.1 44 4) (g.2.1 44 1) (g.1 1))), (g.1, g.2.1, g.2.2))) else none
  | _ => none
abbrev S_tn_isCount : zSp := P_tn_isCount g_tn_isCount w_tn_isCount
set_option maxRecDepth 10000 in
theorem t_tn_isCount {X : Nat × (Nat → Int32)} {ar fi : Nat → Nat → Int32} {m1 m2 m3 m5 : Nat} {G_tx_sign : Int32 → Int32 → Int32 → (Nat → Int32) → Bool} {W_tx_sign : Int32 → Int32 → Int32 → (Nat → Int32) → Int32} : zseg X zFT (zEx 93 (P_tx_sign G_tx_sign W_tx_sign) zE0) zc_104 (fun _ => false) 400 0 [.ref 42] [] (ar, fi, (m1, m2, m3, 1, m5)) = (
  zg (G_tx_sign (fi 44 2) (fi 44 4) (fi 44 1) (ar 1)) (
  bif decide (W_tx_sign (fi 44 2) (fi 44 4) (fi 44 1) (ar 1) < 50) then
   some (.inr (some (.int 0), (ar, fi, (m1, m2, m3, 1, m5))))
  else
   zg (G_tx_sign (fi 44 2) (fi 44 4) (fi 44 1) (ar 1)) (
   bif decide (57 < W_tx_sign (fi 44 2) (fi 44 4) (fi 44 1) (ar 1)) then
    some (.inr (some (.int 0), (ar, fi, (m1, m2, m3, 1, m5))))
   else
    some (.inr (some (.int 1), (ar, fi, (m1, m2, m3, 1, m5)))))) : Option ((Nat × List Value × List Value × zH2) ⊕ zO2)) := by with_unfolding_all rfl
set_option maxRecDepth 10000 in
theorem e_tn_isCount {X : Nat × (Nat → Int32)} {ar fi : Nat → Nat → Int32} {m1 m2 m3 m5 : Nat} (hG : g_tn_isCount (fi 44 2) (fi 44 4) (fi 44 1) (ar 1) = true) : zseg X zFT (zEx 93 S_tx_sign zE0) zc_104 (fun _ => false) 400 0 [.ref 42] [] (ar, fi, (m1, m2, m3, 1, m5)) = some (.inr (some (.int (w_tn_isCount (fi 44 2) (fi 44 4) (fi 44 1) (ar 1))), (ar, fi, (m1, m2, m3, 1, m5)))) := by
  rw [t_tn_isCount]
  unfold g_tn_isCount at hG
  unfold w_tn_isCount
  cases hc1 : (decide (w_tx_sign (fi 44 2) (fi 44 4) (fi 44 1) (ar 1) < 50)) with
  | true =>
    try simp only [hc1, cond_true, cond_false] at hG ⊢
    all_goals try simp only [Bool.and_eq_true, Bool.true_and, Bool.and_true] at hG
    all_goals try simp only [hG, zg, cond_true, and_self]
    all_goals first | rfl | (refine congrArg some (congrArg Sum.inr (Prod.ext rfl (Prod.ext ?_ (Prod.ext ?_ rfl)))) <;> first | rfl | (funext b; simp only [zup]; (repeat' split) <;> first | rfl | omega | (subst_vars; rfl) | (subst_vars; funext k; simp only [zup]; (repeat' split) <;> first | rfl | omega | (subst_vars; rfl) | (simp_all; done))))
  | false =>
    try simp only [hc1, cond_true, cond_false] at hG ⊢
    cases hc2 : (decide (57 < w_tx_sign (fi 44 2) (fi 44 4) (fi 44 1) (ar 1))) with
    | true =>
      try simp only [hc2, cond_true, cond_false] at hG ⊢
      all_goals try simp only [Bool.and_eq_true, Bool.true_and, Bool.and_true] at hG
      all_goals try simp only [hG, zg, cond_true, and_self]
      all_goals first | rfl | (refine congrArg some (congrArg Sum.inr (Prod.ext rfl (Prod.ext ?_ (Prod.ext ?_ rfl)))) <;> first | rfl | (funext b; simp only [zup]; (repeat' split) <;> first | rfl | omega | (subst_vars; rfl) | (subst_vars; funext k; simp only [zup]; (repeat' split) <;> first | rfl | omega | (subst_vars; rfl) | (simp_all; done))))
    | false =>
      try simp only [hc2, cond_true, cond_false] at hG ⊢
      all_goals try simp only [Bool.and_eq_true, Bool.true_and, Bool.and_true] at hG
      all_goals try simp only [hG, zg, cond_true, and_self]
      all_goals first | rfl | (refine congrArg some (congrArg Sum.inr (Prod.ext rfl (Prod.ext ?_ (Prod.ext ?_ rfl)))) <;> first | rfl | (funext b; simp only [zup]; (repeat' split) <;> first | rfl | omega | (subst_vars; rfl) | (subst_vars; funext k; simp only [zup]; (repeat' split) <;> first | rfl | omega | (subst_vars; rfl) | (simp_all; done))))
theorem ok_tn_isCount (X : Nat × (Nat → Int32)) : zOkS X 104 S_tn_isCount 2 := zOkS_new (zOkE_cons (ok_tx_sign X) (by decide) (zOkE_nil X 1)) (by
  intro args g o h
  obtain ⟨ar, fi, m1, m2, m3, m4, m5⟩ := g
  unfold S_tn_isCount P_tn_isCount at h
  split at h
  · refine zb_el h (fun hI0 k0 => ?_) (fun _ h10 => ?_)
    · have h2 := Option.some.inj k0
      have hG := congrArg Prod.fst h2
      have ho := congrArg Prod.snd h2
      dsimp only at hG ho
      subst ho
      try simp only [Bool.and_eq_true] at hI0
      obtain ⟨j0, j1⟩ := hI0
      have e0 := Nat.eq_of_beq_eq_true j0
      subst e0
      have e9 : m4 = 1 := Nat.eq_of_beq_eq_true j1
      subst e9
      exact zseg_ret (e_tn_isCount hG)
    · cases h10
  · cases h)
def g_if_thingIs (x : Int32) (y : Int32) (p0 : Int32) (p1 : Nat → Int32) (p2 : Nat → Int32) (p3 : Nat → Int32) (p4 : Int32) : Bool := bif decide (w_if_isWithin x 0 23 = 0) then true else bif !decide (w_sc_isTold x (p0) = 0) then bif decide (y = 0) then zin x 24 else bif decide (y = 1) then zin x 24 else bif decide (y = 2) then zin x 24 else bif decide (y = 3) then true else bif decide (y = 4) then g_sc_paidFor x p1 p2 else true else true
def w_if_thingIs (x : Int32) (y : Int32) (p0 : Int32) (p1 : Nat → Int32) (p2 : Nat → Int32) (p3 : Nat → Int32) (p4 : Int32) : Int32 := (bif decide (w_if_isWithin x 0 23 = 0) then (-1) else (bif !decide (w_sc_isTold x (p0) = 0) then (bif decide (y = 0) then p3 (x.toNatClampNeg) else (bif decide (y = 1) then p1 (x.toNatClampNeg) else (bif decide (y = 2) then p2 (x.toNatClampNeg) else (bif decide (y = 3) then (bif decide (w_sc_isGone x (p4) = 0) then 0 else 1) else (bif decide (y = 4) then w_sc_paidFor x p1 p2 else (-1)))))) else (-1)))
def P_if_thingIs (G : Int32 → Int32 → Int32 → (Nat → Int32) → (Nat → Int32) → (Nat → Int32) → Int32 → Bool) (W : Int32 → Int32 → Int32 → (Nat → Int32) → (Nat → Int32) → (Nat → Int32) → Int32 → Int32) : zSp := fun as g => match as with
  | [.ref a, .int x, .int y] => bif Nat.beq a 0 then some (G x y (g.2.1 2 6) (g.1 7) (g.1 8) (g.1 6) (g.2.1 2 7), (some (.int (W x y (g.2.1 2 6) (g.1 7) (g.1 8) (g.1 6) (g.2.1 2 7))), (g.1, g.2.1, g.2.2))) else none
  | _ => none
abbrev S_if_thingIs : zSp := P_if_thingIs g_if_thingIs w_if_thingIs
set_option maxRecDepth 10000 in
theorem t_if_thingIs {X : Nat × (Nat → Int32)} {ar fi : Nat → Nat → Int32} {m1 m2 m3 m4 m5 : Nat} {x y : Int32} {W_if_isWithin : Int32 → Int32 → Int32 → Int32} {W_sc_isTold : Int32 → Int32 → Int32} {W_sc_isGone : Int32 → Int32 → Int32} {G_sc_paidFor : Int32 → (Nat → Int32) → (Nat → Int32) → Bool} {W_sc_paidFor : Int32 → (Nat → Int32) → (Nat → Int32) → Int32} : zseg X zFT (zEx 137 (P_if_isWithin W_if_isWithin) (zEx 78 (P_sc_isTold W_sc_isTold) (zEx 79 (P_sc_isGone W_sc_isGone) (zEx 87 (P_sc_paidFor G_sc_paidFor W_sc_paidFor) zE0)))) zc_116 (fun _ => false) 400 0 [.ref 0, .int x, .int y] [] (ar, fi, (m1, m2, m3, m4, m5)) = (
  bif decide (W_if_isWithin x 0 23 = 0) then
   some (.inr (some (.int (-1)), (ar, fi, (m1, m2, m3, m4, m5))))
  else
   bif !decide (W_sc_isTold x (fi 2 6) = 0) then
    bif decide (y = 0) then
     zg (zin x 24) (
     some (.inr (some (.int ((ar 6) (x.toNatClampNeg))), (ar, fi, (m1, m2, m3, m4, m5)))))
    else
     bif decide (y = 1) then
      zg (zin x 24) (
      some (.inr (some (.int ((ar 7) (x.toNatClampNeg))), (ar, fi, (m1, m2, m3, m4, m5)))))
     else
      bif decide (y = 2) then
       zg (zin x 24) (
       some (.inr (some (.int ((ar 8) (x.toNatClampNeg))), (ar, fi, (m1, m2, m3, m4, m5)))))
      else
       bif decide (y = 3) then
        bif decide (W_sc_isGone x (fi 2 7) = 0) then
         some (.inr (some (.int 0), (ar, fi, (m1, m2, m3, m4, m5))))
        else
         some (.inr (some (.int 1), (ar, fi, (m1, m2, m3, m4, m5))))
       else
        bif decide (y = 4) then
         zg (G_sc_paidFor x (ar 7) (ar 8)) (
         some (.inr (some (.int (W_sc_paidFor x (ar 7) (ar 8))), (ar, fi, (m1, m2, m3, m4, m5)))))
        else
         some (.inr (some (.int (-1)), (ar, fi, (m1, m2, m3, m4, m5))))
   else
    some (.inr (some (.int (-1)), (ar, fi, (m1, m2, m3, m4, m5)))) : Option ((Nat × List Value × List Value × zH2) ⊕ zO2)) := by with_unfolding_all rfl
set_option maxRecDepth 10000 in
theorem e_if_thingIs {X : Nat × (Nat → Int32)} {ar fi : Nat → Nat → Int32} {m1 m2 m3 m4 m5 : Nat} {x y : Int32} (hG : g_if_thingIs x y (fi 2 6) (ar 7) (ar 8) (ar 6) (fi 2 7) = true) : zseg X zFT (zEx 137 S_if_isWithin (zEx 78 S_sc_isTold (zEx 79 S_sc_isGone (zEx 87 S_sc_paidFor zE0)))) zc_116 (fun _ => false) 400 0 [.ref 0, .int x, .int y] [] (ar, fi, (m1, m2, m3, m4, m5)) = some (.inr (some (.int (w_if_thingIs x y (fi 2 6) (ar 7) (ar 8) (ar 6) (fi 2 7))), (ar, fi, (m1, m2, m3, m4, m5)))) := by
  rw [t_if_thingIs]
  unfold g_if_thingIs at hG
  unfold w_if_thingIs
  cases hc1 : (decide (w_if_isWithin x 0 23 = 0)) with
  | true =>
    try simp only [hc1, cond_true, cond_false] at hG ⊢
    all_goals try simp only [Bool.and_eq_true, Bool.true_and, Bool.and_true] at hG
    all_goals try simp only [hG, zg, cond_true, and_self]
    all_goals first | rfl | (refine congrArg some (congrArg Sum.inr (Prod.ext rfl (Prod.ext ?_ (Prod.ext ?_ rfl)))) <;> first | rfl | (funext b; simp only [zup]; (repeat' split) <;> first | rfl | omega | (subst_vars; rfl) | (subst_vars; funext k; simp only [zup]; (repeat' split) <;> first | rfl | omega | (subst_vars; rfl) | (simp_all; done))))
  | false =>
    try simp only [hc1, cond_true, cond_false] at hG ⊢
    cases hc2 : (!decide (w_sc_isTold x (fi 2 6) = 0)) with
    | true =>
      try simp only [hc2, cond_true, cond_false] at hG ⊢
      cases hc3 : (decide (y = 0)) with
      | true =>
        try simp only [hc3, cond_true, cond_false] at hG ⊢
        all_goals try simp only [Bool.and_eq_true, Bool.true_and, Bool.and_true] at hG
        all_goals try simp only [hG, zg, cond_true, and_self]
        all_goals first | rfl | (refine congrArg some (congrArg Sum.inr (Prod.ext rfl (Prod.ext ?_ (Prod.ext ?_ rfl)))) <;> first | rfl | (funext b; simp only [zup]; (repeat' split) <;> first | rfl | omega | (subst_vars; rfl) | (subst_vars; funext k; simp only [zup]; (repeat' split) <;> first | rfl | omega | (subst_vars; rfl) | (simp_all; done))))
      | false =>
        try simp only [hc3, cond_true, cond_false] at hG ⊢
        cases hc4 : (decide (y = 1)) with
        | true =>
          try simp only [hc4, cond_true, cond_false] at hG ⊢
          all_goals try simp only [Bool.and_eq_true, Bool.true_and, Bool.and_true] at hG
          all_goals try simp only [hG, zg, cond_true, and_self]
          all_goals first | rfl | (refine congrArg some (congrArg Sum.inr (Prod.ext rfl (Prod.ext ?_ (Prod.ext ?_ rfl)))) <;> first | rfl | (funext b; simp only [zup]; (repeat' split) <;> first | rfl | omega | (subst_vars; rfl) | (subst_vars; funext k; simp only [zup]; (repeat' split) <;> first | rfl | omega | (subst_vars; rfl) | (simp_all; done))))
        | false =>
          try simp only [hc4, cond_true, cond_false] at hG ⊢
          cases hc5 : (decide (y = 2)) with
          | true =>
            try simp only [hc5, cond_true, cond_false] at hG ⊢
            all_goals try simp only [Bool.and_eq_true, Bool.true_and, Bool.and_true] at hG
            all_goals try simp only [hG, zg, cond_true, and_self]
            all_goals first | rfl | (refine congrArg some (congrArg Sum.inr (Prod.ext rfl (Prod.ext ?_ (Prod.ext ?_ rfl)))) <;> first | rfl | (funext b; simp only [zup]; (repeat' split) <;> first | rfl | omega | (subst_vars; rfl) | (subst_vars; funext k; simp only [zup]; (repeat' split) <;> first | rfl | omega | (subst_vars; rfl) | (simp_all; done))))
          | false =>
            try simp only [hc5, cond_true, cond_false] at hG ⊢
            cases hc6 : (decide (y = 3)) with
            | true =>
              try simp only [hc6, cond_true, cond_false] at hG ⊢
              cases hc7 : (decide (w_sc_isGone x (fi 2 7) = 0)) with
              | true =>
                try simp only [hc7, cond_true, cond_false] at hG ⊢
                all_goals try simp only [Bool.and_eq_true, Bool.true_and, Bool.and_true] at hG
                all_goals try simp only [hG, zg, cond_true, and_self]
                all_goals first | rfl | (refine congrArg some (congrArg Sum.inr (Prod.ext rfl (Prod.ext ?_ (Prod.ext ?_ rfl)))) <;> first | rfl | (funext b; simp only [zup]; (repeat' split) <;> first | rfl | omega | (subst_vars; rfl) | (subst_vars; funext k; simp only [zup]; (repeat' split) <;> first | rfl | omega | (subst_vars; rfl) | (simp_all; done))))
              | false =>
                try simp only [hc7, cond_true, cond_false] at hG ⊢
                all_goals try simp only [Bool.and_eq_true, Bool.true_and, Bool.and_true] at hG
                all_goals try simp only [hG, zg, cond_true, and_self]
                all_goals first | rfl | (refine congrArg some (congrArg Sum.inr (Prod.ext rfl (Prod.ext ?_ (Prod.ext ?_ rfl)))) <;> first | rfl | (funext b; simp only [zup]; (repeat' split) <;> first | rfl | omega | (subst_vars; rfl) | (subst_vars; funext k; simp only [zup]; (repeat' split) <;> first | rfl | omega | (subst_vars; rfl) | (simp_all; done))))
            | false =>
              try simp only [hc6, cond_true, cond_false] at hG ⊢
              cases hc8 : (decide (y = 4)) with
              | true =>
                try simp only [hc8, cond_true, cond_false] at hG ⊢
                all_goals try simp only [Bool.and_eq_true, Bool.true_and, Bool.and_true] at hG
                all_goals try simp only [hG, zg, cond_true, and_self]
                all_goals first | rfl | (refine congrArg some (congrArg Sum.inr (Prod.ext rfl (Prod.ext ?_ (Prod.ext ?_ rfl)))) <;> first | rfl | (funext b; simp only [zup]; (repeat' split) <;> first | rfl | omega | (subst_vars; rfl) | (subst_vars; funext k; simp only [zup]; (repeat' split) <;> first | rfl | omega | (subst_vars; rfl) | (simp_all; done))))
              | false =>
                try simp only [hc8, cond_true, cond_false] at hG ⊢
                all_goals try simp only [Bool.and_eq_true, Bool.true_and, Bool.and_true] at hG
                all_goals try simp only [hG, zg, cond_true, and_self]
                all_goals first | rfl | (refine congrArg some (congrArg Sum.inr (Prod.ext rfl (Prod.ext ?_ (Prod.ext ?_ rfl)))) <;> first | rfl | (funext b; simp only [zup]; (repeat' split) <;> first | rfl | omega | (subst_vars; rfl) | (subst_vars; funext k; simp only [zup]; (repeat' split) <;> first | rfl | omega | (subst_vars; rfl) | (simp_all; done))))
    | false =>
      try simp only [hc2, cond_true, cond_false] at hG ⊢
      all_goals try simp only [Bool.and_eq_true, Bool.true_and, Bool.and_true] at hG
      all_goals try simp only [hG, zg, cond_true, and_self]
      all_goals first | rfl | (refine congrArg some (congrArg Sum.inr (Prod.ext rfl (Prod.ext ?_ (Prod.ext ?_ rfl)))) <;> first | rfl | (funext b; simp only [zup]; (repeat' split) <;> first | rfl | omega | (subst_vars; rfl) | (subst_vars; funext k; simp only [zup]; (repeat' split) <;> first | rfl | omega | (subst_vars; rfl) | (simp_all; done))))
theorem ok_if_thingIs (X : Nat × (Nat → Int32)) : zOkS X 116 S_if_thingIs 2 := zOkS_new (zOkE_cons (ok_if_isWithin X) (by decide) (zOkE_cons (ok_sc_isTold X) (by decide) (zOkE_cons (ok_sc_isGone X) (by decide) (zOkE_cons (ok_sc_paidFor X) (by decide) (zOkE_nil X 1))))) (by
  intro args g o h
  obtain ⟨ar, fi, m1, m2, m3, m4, m5⟩ := g
  unfold S_if_thingIs P_if_thingIs at h
  split at h
  · refine zb_el h (fun hI0 k0 => ?_) (fun _ h10 => ?_)
    · have h2 := Option.some.inj k0
      have hG := congrArg Prod.fst h2
      have ho := congrArg Prod.snd h2
      dsimp only at hG ho
      subst ho
      try simp only [Bool.and_eq_true] at hI0
      have j0 := hI0
      have e0 := Nat.eq_of_beq_eq_true j0
      subst e0
      exact zseg_ret (e_if_thingIs hG)
    · cases h10
  · cases h)
def w_if_seed (x : Int32) (p0 : Int32) : Int32 := (bif !decide (w_if_isWithin x 0 65535 = 0) then 1 else 0)
def f0_if_seed (x : Int32) (p0 : Int32) : Int32 := (bif !decide (w_if_isWithin x 0 65535 = 0) then x else p0)
def P_if_seed (W : Int32 → Int32 → Int32) (F0 : Int32 → Int32 → Int32) : zSp := fun as g => match as with
  | [.ref a, .int x] => bif Nat.beq a 0 then some (true, (some (.int (W x (g.2.1 2 10))), (g.1, (zup g.2.1 2 (zup (g.2.1 2) 10 (F0 x (g.2.1 2 10)))), g.2.2))) else none
  | _ => none
abbrev S_if_seed : zSp := P_if_seed w_if_seed f0_if_seed
set_option maxRecDepth 10000 in
theorem t_if_seed {X : Nat × (Nat → Int32)} {ar fi : Nat → Nat → Int32} {m1 m2 m3 m4 m5 : Nat} {x : Int32} {W_if_isWithin : Int32 → Int32 → Int32 → Int32} : zseg X zFT (zEx 137 (P_if_isWithin W_if_isWithin) zE0) zc_130 (fun _ => false) 400 0 [.ref 0, .int x] [] (ar, fi, (m1, m2, m3, m4, m5)) = (
  bif !decide (W_if_isWithin x 0 65535 = 0) then
   some (.inr (some (.int 1), (ar, (zup fi 2 (zup (fi 2) 10 x)), (m1, m2, m3, m4, m5))))
  else
   some (.inr (some (.int 0), (ar, fi, (m1, m2, m3, m4, m5)))) : Option ((Nat × List Value × List Value × zH2) ⊕ zO2)) := by with_unfolding_all rfl
set_option maxRecDepth 10000 in
theorem e_if_seed {X : Nat × (Nat → Int32)} {ar fi : Nat → Nat → Int32} {m1 m2 m3 m4 m5 : Nat} {x : Int32} : zseg X zFT (zEx 137 S_if_isWithin zE0) zc_130 (fun _ => false) 400 0 [.ref 0, .int x] [] (ar, fi, (m1, m2, m3, m4, m5)) = some (.inr (some (.int (w_if_seed x (fi 2 10))), (ar, (zup fi 2 (zup (fi 2) 10 (f0_if_seed x (fi 2 10)))), (m1, m2, m3, m4, m5)))) := by
  rw [t_if_seed]
  unfold w_if_seed f0_if_seed
  cases hc1 : (!decide (w_if_isWithin x 0 65535 = 0)) with
  | true =>
    try simp only [hc1, cond_true, cond_false]
    all_goals first | rfl | (refine congrArg some (congrArg Sum.inr (Prod.ext rfl (Prod.ext ?_ (Prod.ext ?_ rfl)))) <;> first | rfl | (funext b; simp only [zup]; (repeat' split) <;> first | rfl | omega | (subst_vars; rfl) | (subst_vars; funext k; simp only [zup]; (repeat' split) <;> first | rfl | omega | (subst_vars; rfl) | (simp_all; done))))
  | false =>
    try simp only [hc1, cond_true, cond_false]
    all_goals first | rfl | (refine congrArg some (congrArg Sum.inr (Prod.ext rfl (Prod.ext ?_ (Prod.ext ?_ rfl)))) <;> first | rfl | (funext b; simp only [zup]; (repeat' split) <;> first | rfl | omega | (subst_vars; rfl) | (subst_vars; funext k; simp only [zup]; (repeat' split) <;> first | rfl | omega | (subst_vars; rfl) | (simp_all; done))))
theorem ok_if_seed (X : Nat × (Nat → Int32)) : zOkS X 130 S_if_seed 2 := zOkS_new (zOkE_cons (ok_if_isWithin X) (by decide) (zOkE_nil X 1)) (by
  intro args g o h
  obtain ⟨ar, fi, m1, m2, m3, m4, m5⟩ := g
  unfold S_if_seed P_if_seed at h
  split at h
  · refine zb_el h (fun hI0 k0 => ?_) (fun _ h10 => ?_)
    · have h2 := Option.some.inj k0
      have hG := congrArg Prod.fst h2
      have ho := congrArg Prod.snd h2
      dsimp only at hG ho
      subst ho
      try simp only [Bool.and_eq_true] at hI0
      have j0 := hI0
      have e0 := Nat.eq_of_beq_eq_true j0
      subst e0
      exact zseg_ret (e_if_seed)
    · cases h10
  · cases h)
def w_if_canTake (x : Int32) (y : Int32) (z : Int32) (p0 : Int32) : Int32 := (bif decide (w_if_isWithin x y z = 0) then 0 else (bif decide (p0 < x) then 0 else 1))
def P_if_canTake (W : Int32 → Int32 → Int32 → Int32 → Int32) : zSp := fun as g => match as with
  | [.ref a, .int x, .int y, .int z] => bif Nat.beq a 0 then some (true, (some (.int (W x y z (g.2.1 0 1))), (g.1, g.2.1, g.2.2))) else none
  | _ => none
abbrev S_if_canTake : zSp := P_if_canTake w_if_canTake
set_option maxRecDepth 10000 in
theorem t_if_canTake {X : Nat × (Nat → Int32)} {ar fi : Nat → Nat → Int32} {m1 m2 m3 m4 m5 : Nat} {x y z : Int32} {W_if_isWithin : Int32 → Int32 → Int32 → Int32} : zseg X zFT (zEx 137 (P_if_isWithin W_if_isWithin) zE0) zc_136 (fun _ => false) 400 0 [.ref 0, .int x, .int y, .int z] [] (ar, fi, (m1, m2, m3, m4, m5)) = (
  bif decide (W_if_isWithin x y z = 0) then
   some (.inr (some (.int 0), (ar, fi, (m1, m2, m3, m4, m5))))
  else
   bif decide (fi 0 1 < x) then
    some (.inr (some (.int 0), (ar, fi, (m1, m2, m3, m4, m5))))
   else
    some (.inr (some (.int 1), (ar, fi, (m1, m2, m3, m4, m5)))) : Option ((Nat × List Value × List Value × zH2) ⊕ zO2)) := by with_unfolding_all rfl
set_option maxRecDepth 10000 in
theorem e_if_canTake {X : Nat × (Nat → Int32)} {ar fi : Nat → Nat → Int32} {m1 m2 m3 m4 m5 : Nat} {x y z : Int32} : zseg X zFT (zEx 137 S_if_isWithin zE0) zc_136 (fun _ => false) 400 0 [.ref 0, .int x, .int y, .int z] [] (ar, fi, (m1, m2, m3, m4, m5)) = some (.inr (some (.int (w_if_canTake x y z (fi 0 1))), (ar, fi, (m1, m2, m3, m4, m5)))) := by
  rw [t_if_canTake]
  unfold w_if_canTake
  cases hc1 : (decide (w_if_isWithin x y z = 0)) with
  | true =>
    try simp only [hc1, cond_true, cond_false]
    all_goals first | rfl | (refine congrArg some (congrArg Sum.inr (Prod.ext rfl (Prod.ext ?_ (Prod.ext ?_ rfl)))) <;> first | rfl | (funext b; simp only [zup]; (repeat' split) <;> first | rfl | omega | (subst_vars; rfl) | (subst_vars; funext k; simp only [zup]; (repeat' split) <;> first | rfl | omega | (subst_vars; rfl) | (simp_all; done))))
  | false =>
    try simp only [hc1, cond_true, cond_false]
    cases hc2 : (decide (fi 0 1 < x)) with
    | true =>
      try simp only [hc2, cond_true, cond_false]
      all_goals first | rfl | (refine congrArg some (congrArg Sum.inr (Prod.ext rfl (Prod.ext ?_ (Prod.ext ?_ rfl)))) <;> first | rfl | (funext b; simp only [zup]; (repeat' split) <;> first | rfl | omega | (subst_vars; rfl) | (subst_vars; funext k; simp only [zup]; (repeat' split) <;> first | rfl | omega | (subst_vars; rfl) | (simp_all; done))))
    | false =>
      try simp only [hc2, cond_true, cond_false]
      all_goals first | rfl | (refine congrArg some (congrArg Sum.inr (Prod.ext rfl (Prod.ext ?_ (Prod.ext ?_ rfl)))) <;> first | rfl | (funext b; simp only [zup]; (repeat' split) <;> first | rfl | omega | (subst_vars; rfl) | (subst_vars; funext k; simp only [zup]; (repeat' split) <;> first | rfl | omega | (subst_vars; rfl) | (simp_all; done))))
theorem ok_if_canTake (X : Nat × (Nat → Int32)) : zOkS X 136 S_if_canTake 2 := zOkS_new (zOkE_cons (ok_if_isWithin X) (by decide) (zOkE_nil X 1)) (by
  intro args g o h
  obtain ⟨ar, fi, m1, m2, m3, m4, m5⟩ := g
  unfold S_if_canTake P_if_canTake at h
  split at h
  · refine zb_el h (fun hI0 k0 => ?_) (fun _ h10 => ?_)
    · have h2 := Option.some.inj k0
      have hG := congrArg Prod.fst h2
      have ho := congrArg Prod.snd h2
      dsimp only at hG ho
      subst ho
      try simp only [Bool.and_eq_true] at hI0
      have j0 := hI0
      have e0 := Nat.eq_of_beq_eq_true j0
      subst e0
      exact zseg_ret (e_if_canTake)
    · cases h10
  · cases h)
def g_if_isNumber (x : Int32) : Bool := decide (w_if_isWithin x 0 95 = 0) || decide (w_if_isWithin x 0 95 = 1)
def w_if_isNumber (x : Int32) : Int32 := w_if_isWithin x 0 95
def P_if_isNumber (G : Int32 → Bool) (W : Int32 → Int32) : zSp := fun as g => match as with
  | [.int x] => some (G x, (some (.int (W x)), (g.1, g.2.1, g.2.2)))
  | _ => none
abbrev S_if_isNumber : zSp := P_if_isNumber g_if_isNumber w_if_isNumber
set_option maxRecDepth 10000 in
theorem t_if_isNumber {X : Nat × (Nat → Int32)} {ar fi : Nat → Nat → Int32} {m1 m2 m3 m4 m5 : Nat} {x : Int32} {W_if_isWithin : Int32 → Int32 → Int32 → Int32} : zseg X zFT (zEx 137 (P_if_isWithin W_if_isWithin) zE0) zc_138 (fun _ => false) 400 0 [.int x] [] (ar, fi, (m1, m2, m3, m4, m5)) = (
  zg (decide (W_if_isWithin x 0 95 = 0) || decide (W_if_isWithin x 0 95 = 1)) (
  some (.inr (some (.int (W_if_isWithin x 0 95)), (ar, fi, (m1, m2, m3, m4, m5))))) : Option ((Nat × List Value × List Value × zH2) ⊕ zO2)) := by with_unfolding_all rfl
set_option maxRecDepth 10000 in
theorem e_if_isNumber {X : Nat × (Nat → Int32)} {ar fi : Nat → Nat → Int32} {m1 m2 m3 m4 m5 : Nat} {x : Int32} (hG : g_if_isNumber x = true) : zseg X zFT (zEx 137 S_if_isWithin zE0) zc_138 (fun _ => false) 400 0 [.int x] [] (ar, fi, (m1, m2, m3, m4, m5)) = some (.inr (some (.int (w_if_isNumber x)), (ar, fi, (m1, m2, m3, m4, m5)))) := by
  rw [t_if_isNumber]
  unfold g_if_isNumber at hG
  unfold w_if_isNumber
  all_goals try simp only [Bool.and_eq_true, Bool.true_and, Bool.and_true] at hG
  all_goals try simp only [hG, zg, cond_true, and_self]
  all_goals first | rfl | (refine congrArg some (congrArg Sum.inr (Prod.ext rfl (Prod.ext ?_ (Prod.ext ?_ rfl)))) <;> first | rfl | (funext b; simp only [zup]; (repeat' split) <;> first | rfl | omega | (subst_vars; rfl) | (subst_vars; funext k; simp only [zup]; (repeat' split) <;> first | rfl | omega | (subst_vars; rfl) | (simp_all; done))))
theorem ok_if_isNumber (X : Nat × (Nat → Int32)) : zOkS X 138 S_if_isNumber 2 := zOkS_new (zOkE_cons (ok_if_isWithin X) (by decide) (zOkE_nil X 1)) (by
  intro args g o h
  obtain ⟨ar, fi, m1, m2, m3, m4, m5⟩ := g
  unfold S_if_isNumber P_if_isNumber at h
  split at h
  · have h2 := Option.some.inj h
    have hG := congrArg Prod.fst h2
    have ho := congrArg Prod.snd h2
    dsimp only at hG ho
    subst ho
    exact zseg_ret (e_if_isNumber hG)
  · cases h)
def w_if_isPlace (x : Int32) (y : Int32) : Int32 := (bif decide (w_if_isWithin x 0 11 = 0) then 0 else (bif decide (w_if_isWithin y 0 7 = 0) then 0 else 1))
def P_if_isPlace (W : Int32 → Int32 → Int32) : zSp := fun as g => match as with
  | [.int x, .int y] => some (true, (some (.int (W x y)), (g.1, g.2.1, g.2.2)))
  | _ => none
abbrev S_if_isPlace : zSp := P_if_isPlace w_if_isPlace
set_option maxRecDepth 10000 in
theorem t_if_isPlace {X : Nat × (Nat → Int32)} {ar fi : Nat → Nat → Int32} {m1 m2 m3 m4 m5 : Nat} {x y : Int32} {W_if_isWithin : Int32 → Int32 → Int32 → Int32} : zseg X zFT (zEx 137 (P_if_isWithin W_if_isWithin) zE0) zc_139 (fun _ => false) 400 0 [.int x, .int y] [] (ar, fi, (m1, m2, m3, m4, m5)) = (
  bif decide (W_if_isWithin x 0 11 = 0) then
   some (.inr (some (.int 0), (ar, fi, (m1, m2, m3, m4, m5))))
  else
   bif decide (W_if_isWithin y 0 7 = 0) then
    some (.inr (some (.int 0), (ar, fi, (m1, m2, m3, m4, m5))))
   else
    some (.inr (some (.int 1), (ar, fi, (m1, m2, m3, m4, m5)))) : Option ((Nat × List Value × List Value × zH2) ⊕ zO2)) := by with_unfolding_all rfl
set_option maxRecDepth 10000 in
theorem e_if_isPlace {X : Nat × (Nat → Int32)} {ar fi : Nat → Nat → Int32} {m1 m2 m3 m4 m5 : Nat} {x y : Int32} : zseg X zFT (zEx 137 S_if_isWithin zE0) zc_139 (fun _ => false) 400 0 [.int x, .int y] [] (ar, fi, (m1, m2, m3, m4, m5)) = some (.inr (some (.int (w_if_isPlace x y)), (ar, fi, (m1, m2, m3, m4, m5)))) := by
  rw [t_if_isPlace]
  unfold w_if_isPlace
  cases hc1 : (decide (w_if_isWithin x 0 11 = 0)) with
  | true =>
    try simp only [hc1, cond_true, cond_false]
    all_goals first | rfl | (refine congrArg some (congrArg Sum.inr (Prod.ext rfl (Prod.ext ?_ (Prod.ext ?_ rfl)))) <;> first | rfl | (funext b; simp only [zup]; (repeat' split) <;> first | rfl | omega | (subst_vars; rfl) | (subst_vars; funext k; simp only [zup]; (repeat' split) <;> first | rfl | omega | (subst_vars; rfl) | (simp_all; done))))
  | false =>
    try simp only [hc1, cond_true, cond_false]
    cases hc2 : (decide (w_if_isWithin y 0 7 = 0)) with
    | true =>
      try simp only [hc2, cond_true, cond_false]
      all_goals first | rfl | (refine congrArg some (congrArg Sum.inr (Prod.ext rfl (Prod.ext ?_ (Prod.ext ?_ rfl)))) <;> first | rfl | (funext b; simp only [zup]; (repeat' split) <;> first | rfl | omega | (subst_vars; rfl) | (subst_vars; funext k; simp only [zup]; (repeat' split) <;> first | rfl | omega | (subst_vars; rfl) | (simp_all; done))))
    | false =>
      try simp only [hc2, cond_true, cond_false]
      all_goals first | rfl | (refine congrArg some (congrArg Sum.inr (Prod.ext rfl (Prod.ext ?_ (Prod.ext ?_ rfl)))) <;> first | rfl | (funext b; simp only [zup]; (repeat' split) <;> first | rfl | omega | (subst_vars; rfl) | (subst_vars; funext k; simp only [zup]; (repeat' split) <;> first | rfl | omega | (subst_vars; rfl) | (simp_all; done))))
theorem ok_if_isPlace (X : Nat × (Nat → Int32)) : zOkS X 139 S_if_isPlace 2 := zOkS_new (zOkE_cons (ok_if_isWithin X) (by decide) (zOkE_nil X 1)) (by
  intro args g o h
  obtain ⟨ar, fi, m1, m2, m3, m4, m5⟩ := g
  unfold S_if_isPlace P_if_isPlace at h
  split at h
  · have h2 := Option.some.inj h
    have hG := congrArg Prod.fst h2
    have ho := congrArg Prod.snd h2
    dsimp only at hG ho
    subst ho
    exact zseg_ret (e_if_isPlace)
  · cases h)
def g_md_isPlace (x : Int32) : Bool := decide (w_md_in x 0 95 = 0) || decide (w_md_in x 0 95 = 1)
def w_md_isPlace (x : Int32) : Int32 := w_md_in x 0 95
def P_md_isPlace (G : Int32 → Bool) (W : Int32 → Int32) : zSp := fun as g => match as with
  | [.int x] => some (G x, (some (.int (W x)), (g.1, g.2.1, g.2.2)))
  | _ => none
abbrev S_md_isPlace : zSp := P_md_isPlace g_md_isPlace w_md_isPlace
set_option maxRecDepth 10000 in
theorem t_md_isPlace {X : Nat × (Nat → Int32)} {ar fi : Nat → Nat → Int32} {m1 m2 m3 m4 m5 : Nat} {x : Int32} {W_md_in : Int32 → Int32 → Int32 → Int32} : zseg X zFT (zEx 143 (P_md_in W_md_in) zE0) zc_149 (fun _ => false) 400 0 [.int x] [] (ar, fi, (m1, m2, m3, m4, m5)) = (
  zg (decide (W_md_in x 0 95 = 0) || decide (W_md_in x 0 95 = 1)) (
  some (.inr (some (.int (W_md_in x 0 95)), (ar, fi, (m1, m2, m3, m4, m5))))) : Option ((Nat × List Value × List Value × zH2) ⊕ zO2)) := by with_unfolding_all rfl
set_option maxRecDepth 10000 in
theorem e_md_isPlace {X : Nat × (Nat → Int32)} {ar fi : Nat → Nat → Int32} {m1 m2 m3 m4 m5 : Nat} {x : Int32} (hG : g_md_isPlace x = true) : zseg X zFT (zEx 143 S_md_in zE0) zc_149 (fun _ => false) 400 0 [.int x] [] (ar, fi, (m1, m2, m3, m4, m5)) = some (.inr (some (.int (w_md_isPlace x)), (ar, fi, (m1, m2, m3, m4, m5)))) := by
  rw [t_md_isPlace]
  unfold g_md_isPlace at hG
  unfold w_md_isPlace
  all_goals try simp only [Bool.and_eq_true, Bool.true_and, Bool.and_true] at hG
  all_goals try simp only [hG, zg, cond_true, and_self]
  all_goals first | rfl | (refine congrArg some (congrArg Sum.inr (Prod.ext rfl (Prod.ext ?_ (Prod.ext ?_ rfl)))) <;> first | rfl | (funext b; simp only [zup]; (repeat' split) <;> first | rfl | omega | (subst_vars; rfl) | (subst_vars; funext k; simp only [zup]; (repeat' split) <;> first | rfl | omega | (subst_vars; rfl) | (simp_all; done))))
theorem ok_md_isPlace (X : Nat × (Nat → Int32)) : zOkS X 149 S_md_isPlace 2 := zOkS_new (zOkE_cons (ok_md_in X) (by decide) (zOkE_nil X 1)) (by
  intro args g o h
  obtain ⟨ar, fi, m1, m2, m3, m4, m5⟩ := g
  unfold S_md_isPlace P_md_isPlace at h
  split at h
  · have h2 := Option.some.inj h
    have hG := congrArg Prod.fst h2
    have ho := congrArg Prod.snd h2
    dsimp only at hG ho
    subst ho
    exact zseg_ret (e_md_isPlace hG)
  · cases h)
