def w_md_isSpot (x : Int32) (y : Int32) : Int32 := (bif decide (w_md_in x 0 11 = 0) then 0 else (bif decide (w_md_in y 0 7 = 0) then 0 else 1))
def P_md_isSpot (W : Int32 → Int32 → Int32) : zSp := fun as g => match as with
  | [.int x, .int y] => some (true, (some (.int (W x y)), (g.1, g.2.1, g.2.2)))
  | _ => none
abbrev S_md_isSpot : zSp := P_md_isSpot w_md_isSpot
set_option maxRecDepth 10000 in
theorem t_md_isSpot {X : Nat × (Nat → Int32)} {ar fi : Nat → Nat → Int32} {m1 m2 m3 m4 m5 : Nat} {x y : Int32} {W_md_in : Int32 → Int32 → Int32 → Int32} : zseg X zFT (zEx 143 (P_md_in W_md_in) zE0) zc_150 (fun _ => false) 400 0 [.int x, .int y] [] (ar, fi, (m1, m2, m3, m4, m5)) = (
  bif decide (W_md_in x 0 11 = 0) then
   some (.inr (some (.int 0), (ar, fi, (m1, m2, m3, m4, m5))))
  else
   bif decide (W_md_in y 0 7 = 0) then
    some (.inr (some (.int 0), (ar, fi, (m1, m2, m3, m4, m5))))
   else
    some (.inr (some (.int 1), (ar, fi, (m1, m2, m3, m4, m5)))) : Option ((Nat × List Value × List Value × zH2) ⊕ zO2)) := by with_unfolding_all rfl
set_option maxRecDepth 10000 in
theorem e_md_isSpot {X : Nat × (Nat → Int32)} {ar fi : Nat → Nat → Int32} {m1 m2 m3 m4 m5 : Nat} {x y : Int32} : zseg X zFT (zEx 143 S_md_in zE0) zc_150 (fun _ => false) 400 0 [.int x, .int y] [] (ar, fi, (m1, m2, m3, m4, m5)) = some (.inr (some (.int (w_md_isSpot x y)), (ar, fi, (m1, m2, m3, m4, m5)))) := by
  rw [t_md_isSpot]
  unfold w_md_isSpot
  cases hc1 : (decide (w_md_in x 0 11 = 0)) with
  | true =>
    try simp only [hc1, cond_true, cond_false]
    all_goals first | rfl | (refine congrArg some (congrArg Sum.inr (Prod.ext rfl (Prod.ext ?_ (Prod.ext ?_ rfl)))) <;> first | rfl | (funext b; simp only [zup]; (repeat' split) <;> first | rfl | omega | (subst_vars; rfl) | (subst_vars; funext k; simp only [zup]; (repeat' split) <;> first | rfl | omega | (subst_vars; rfl) | (simp_all; done))))
  | false =>
    try simp only [hc1, cond_true, cond_false]
    cases hc2 : (decide (w_md_in y 0 7 = 0)) with
    | true =>
      try simp only [hc2, cond_true, cond_false]
      all_goals first | rfl | (refine congrArg some (congrArg Sum.inr (Prod.ext rfl (Prod.ext ?_ (Prod.ext ?_ rfl)))) <;> first | rfl | (funext b; simp only [zup]; (repeat' split) <;> first | rfl | omega | (subst_vars; rfl) | (subst_vars; funext k; simp only [zup]; (repeat' split) <;> first | rfl | omega | (subst_vars; rfl) | (simp_all; done))))
    | false =>
      try simp only [hc2, cond_true, cond_false]
      all_goals first | rfl | (refine congrArg some (congrArg Sum.inr (Prod.ext rfl (Prod.ext ?_ (Prod.ext ?_ rfl)))) <;> first | rfl | (funext b; simp only [zup]; (repeat' split) <;> first | rfl | omega | (subst_vars; rfl) | (subst_vars; funext k; simp only [zup]; (repeat' split) <;> first | rfl | omega | (subst_vars; rfl) | (simp_all; done))))
theorem ok_md_isSpot (X : Nat × (Nat → Int32)) : zOkS X 150 S_md_isSpot 2 := zOkS_new (zOkE_cons (ok_md_in X) (by decide) (zOkE_nil X 1)) (by
  intro args g o h
  obtain ⟨ar, fi, m1, m2, m3, m4, m5⟩ := g
  unfold S_md_isSpot P_md_isSpot at h
  split at h
  · have h2 := Option.some.inj h
    have hG := congrArg Prod.fst h2
    have ho := congrArg Prod.snd h2
    dsimp only at hG ho
    subst ho
    exact zseg_ret (e_md_isSpot)
  · cases h)
def g_md_isThing (x : Int32) (p0 : Nat → Int32) : Bool := bif decide (w_md_in x 0 23 = 0) then true else zin (192 + x) 315
def w_md_isThing (x : Int32) (p0 : Nat → Int32) : Int32 := (bif decide (w_md_in x 0 23 = 0) then 0 else (bif !decide (p0 ((192 + x).toNatClampNeg) = 1) then 0 else 1))
def P_md_isThing (G : Int32 → (Nat → Int32) → Bool) (W : Int32 → (Nat → Int32) → Int32) : zSp := fun as g => match as with
  | [.ref a, .int x] => bif Nat.beq a 64 then some (G x (g.1 65), (some (.int (W x (g.1 65))), (g.1, g.2.1, g.2.2))) else none
  | _ => none
abbrev S_md_isThing : zSp := P_md_isThing g_md_isThing w_md_isThing
set_option maxRecDepth 10000 in
theorem t_md_isThing {X : Nat × (Nat → Int32)} {ar fi : Nat → Nat → Int32} {m1 m2 m3 m4 m5 : Nat} {x : Int32} {W_md_in : Int32 → Int32 → Int32 → Int32} : zseg X zFT (zEx 143 (P_md_in W_md_in) zE0) zc_153 (fun _ => false) 400 0 [.ref 64, .int x] [] (ar, fi, (m1, m2, m3, m4, m5)) = (
  bif decide (W_md_in x 0 23 = 0) then
   some (.inr (some (.int 0), (ar, fi, (m1, m2, m3, m4, m5))))
  else
   zg (zin (192 + x) 315) (
   bif !decide ((ar 65) ((192 + x).toNatClampNeg) = 1) then
    some (.inr (some (.int 0), (ar, fi, (m1, m2, m3, m4, m5))))
   else
    some (.inr (some (.int 1), (ar, fi, (m1, m2, m3, m4, m5))))) : Option ((Nat × List Value × List Value × zH2) ⊕ zO2)) := by with_unfolding_all rfl
set_option maxRecDepth 10000 in
theorem e_md_isThing {X : Nat × (Nat → Int32)} {ar fi : Nat → Nat → Int32} {m1 m2 m3 m4 m5 : Nat} {x : Int32} (hG : g_md_isThing x (ar 65) = true) : zseg X zFT (zEx 143 S_md_in zE0) zc_153 (fun _ => false) 400 0 [.ref 64, .int x] [] (ar, fi, (m1, m2, m3, m4, m5)) = some (.inr (some (.int (w_md_isThing x (ar 65))), (ar, fi, (m1, m2, m3, m4, m5)))) := by
  rw [t_md_isThing]
  unfold g_md_isThing at hG
  unfold w_md_isThing
  cases hc1 : (decide (w_md_in x 0 23 = 0)) with
  | true =>
    try simp only [hc1, cond_true, cond_false] at hG ⊢
    all_goals try simp only [Bool.and_eq_true, Bool.true_and, Bool.and_true] at hG
    all_goals try simp only [hG, zg, cond_true, and_self]
    all_goals first | rfl | (refine congrArg some (congrArg Sum.inr (Prod.ext rfl (Prod.ext ?_ (Prod.ext ?_ rfl)))) <;> first | rfl | (funext b; simp only [zup]; (repeat' split) <;> first | rfl | omega | (subst_vars; rfl) | (subst_vars; funext k; simp only [zup]; (repeat' split) <;> first | rfl | omega | (subst_vars; rfl) | (simp_all; done))))
  | false =>
    try simp only [hc1, cond_true, cond_false] at hG ⊢
    cases hc2 : (!decide ((ar 65) ((192 + x).toNatClampNeg) = 1)) with
    | true =>
      try simp only [hc2, cond_true, cond_false] at hG ⊢
      all_goals try simp only [Bool.and_eq_true, Bool.true_and, Bool.and_true] at hG
      all_goals try simp only [hG, zg, cond_true, and_self]
      all_goals first | rfl | (refine congrArg some (congrArg Sum.inr (Prod.ext rfl (Prod.ext ?_ (Prod.ext ?_ rfl)))) <;> first | rfl | (funext b; simp only [zup]; (repeat' split) <;> first | rfl | omega | (subst_vars; rfl) | (subst_vars; funext k; simp only [zup]; (repeat' split) <;> first | rfl | omega | (subst_vars; rfl) | (simp_all; done))))
    | false =>
      try simp only [hc2, cond_true, cond_false] at hG ⊢
      all_goals try simp only [Bool.and_eq_true, Bool.true_and, Bool.and_true] at hG
      all_goals try simp only [hG, zg, cond_true, and_self]
      all_goals first | rfl | (refine congrArg some (congrArg Sum.inr (Prod.ext rfl (Prod.ext ?_ (Prod.ext ?_ rfl)))) <;> first | rfl | (funext b; simp only [zup]; (repeat' split) <;> first | rfl | omega | (subst_vars; rfl) | (subst_vars; funext k; simp only [zup]; (repeat' split) <;> first | rfl | omega | (subst_vars; rfl) | (simp_all; done))))
theorem ok_md_isThing (X : Nat × (Nat → Int32)) : zOkS X 153 S_md_isThing 2 := zOkS_new (zOkE_cons (ok_md_in X) (by decide) (zOkE_nil X 1)) (by
  intro args g o h
  obtain ⟨ar, fi, m1, m2, m3, m4, m5⟩ := g
  unfold S_md_isThing P_md_isThing at h
  split at h
  · refine zb_el h (fun hI0 k0 => ?_) (fun _ h10 => ?_)
    · have h2 := Option.some.inj k0
      have hG := congrArg Prod.fst h2
      have ho := congrArg Prod.snd h2
      dsimp only at hG ho
      subst ho
      try simp only [Bool.and_eq_true] at hI0
      have j0 := hI0
      have e0 := Nat.eq_of_beq_eq_true j0
      subst e0
      exact zseg_ret (e_md_isThing hG)
    · cases h10
  · cases h)
def g_md_isDigit (p0 : Int32) (p1 : Int32) (p2 : Nat → Int32) : Bool := (g_md_here (p0) (p1) p2) && (bif decide (w_md_here (p0) (p1) p2 < 48) then true else g_md_here (p0) (p1) p2)
def w_md_isDigit (p0 : Int32) (p1 : Int32) (p2 : Nat → Int32) : Int32 := (bif decide (w_md_here (p0) (p1) p2 < 48) then 0 else (bif decide (57 < w_md_here (p0) (p1) p2) then 0 else 1))
def P_md_isDigit (G : Int32 → Int32 → (Nat → Int32) → Bool) (W : Int32 → Int32 → (Nat → Int32) → Int32) : zSp := fun as g => match as with
  | [.ref a] => bif Nat.beq a 64 then some (G (g.2.1 64 8) (g.2.1 64 7) (g.1 70), (some (.int (W (g.2.1 64 8) (g.2.1 64 7) (g.1 70))), (g.1, g.2.1, g.2.2))) else none
  | _ => none
abbrev S_md_isDigit : zSp := P_md_isDigit g_md_isDigit w_md_isDigit
set_option maxRecDepth 10000 in
theorem t_md_isDigit {X : Nat × (Nat → Int32)} {ar fi : Nat → Nat → Int32} {m1 m2 m3 m4 m5 : Nat} {G_md_here : Int32 → Int32 → (Nat → Int32) → Bool} {W_md_here : Int32 → Int32 → (Nat → Int32) → Int32} : zseg X zFT (zEx 158 (P_md_here G_md_here W_md_here) zE0) zc_159 (fun _ => false) 400 0 [.ref 64] [] (ar, fi, (m1, m2, m3, m4, m5)) = (
  zg (G_md_here (fi 64 8) (fi 64 7) (ar 70)) (
  bif decide (W_md_here (fi 64 8) (fi 64 7) (ar 70) < 48) then
   some (.inr (some (.int 0), (ar, fi, (m1, m2, m3, m4, m5))))
  else
   zg (G_md_here (fi 64 8) (fi 64 7) (ar 70)) (
   bif decide (57 < W_md_here (fi 64 8) (fi 64 7) (ar 70)) then
    some (.inr (some (.int 0), (ar, fi, (m1, m2, m3, m4, m5))))
   else
    some (.inr (some (.int 1), (ar, fi, (m1, m2, m3, m4, m5)))))) : Option ((Nat × List Value × List Value × zH2) ⊕ zO2)) := by with_unfolding_all rfl
set_option maxRecDepth 10000 in
theorem e_md_isDigit {X : Nat × (Nat → Int32)} {ar fi : Nat → Nat → Int32} {m1 m2 m3 m4 m5 : Nat} (hG : g_md_isDigit (fi 64 8) (fi 64 7) (ar 70) = true) : zseg X zFT (zEx 158 S_md_here zE0) zc_159 (fun _ => false) 400 0 [.ref 64] [] (ar, fi, (m1, m2, m3, m4, m5)) = some (.inr (some (.int (w_md_isDigit (fi 64 8) (fi 64 7) (ar 70))), (ar, fi, (m1, m2, m3, m4, m5)))) := by
  rw [t_md_isDigit]
  unfold g_md_isDigit at hG
  unfold w_md_isDigit
  cases hc1 : (decide (w_md_here (fi 64 8) (fi 64 7) (ar 70) < 48)) with
  | true =>
    try simp only [hc1, cond_true, cond_false] at hG ⊢
    all_goals try simp only [Bool.and_eq_true, Bool.true_and, Bool.and_true] at hG
    all_goals try simp only [hG, zg, cond_true, and_self]
    all_goals first | rfl | (refine congrArg some (congrArg Sum.inr (Prod.ext rfl (Prod.ext ?_ (Prod.ext ?_ rfl)))) <;> first | rfl | (funext b; simp only [zup]; (repeat' split) <;> first | rfl | omega | (subst_vars; rfl) | (subst_vars; funext k; simp only [zup]; (repeat' split) <;> first | rfl | omega | (subst_vars; rfl) | (simp_all; done))))
  | false =>
    try simp only [hc1, cond_true, cond_false] at hG ⊢
    cases hc2 : (decide (57 < w_md_here (fi 64 8) (fi 64 7) (ar 70))) with
    | true =>
      try simp only [hc2, cond_true, cond_false] at hG ⊢
      all_goals try simp only [Bool.and_eq_true, Bool.true_and, Bool.and_true] at hG
      all_goals try simp only [hG, zg, cond_true, and_self]
      all_goals first | rfl | (refine congrArg some (congrArg Sum.inr (Prod.ext rfl (Prod.ext ?_ (Prod.ext ?_ rfl)))) <;> first | rfl | (funext b; simp only [zup]; (repeat' split) <;> first | rfl | omega | (subst_vars; rfl) | (subst_vars; funext k; simp only [zup]; (repeat' split) <;> first | rfl | omega | (subst_vars; rfl) | (simp_all; done))))
    | false =>
      try simp only [hc2, cond_true, cond_false] at hG ⊢
      all_goals try simp only [Bool.and_eq_true, Bool.true_and, Bool.and_true] at hG
      all_goals try simp only [hG, zg, cond_true, and_self]
      all_goals first | rfl | (refine congrArg some (congrArg Sum.inr (Prod.ext rfl (Prod.ext ?_ (Prod.ext ?_ rfl)))) <;> first | rfl | (funext b; simp only [zup]; (repeat' split) <;> first | rfl | omega | (subst_vars; rfl) | (subst_vars; funext k; simp only [zup]; (repeat' split) <;> first | rfl | omega | (subst_vars; rfl) | (simp_all; done))))
theorem ok_md_isDigit (X : Nat × (Nat → Int32)) : zOkS X 159 S_md_isDigit 2 := zOkS_new (zOkE_cons (ok_md_here X) (by decide) (zOkE_nil X 1)) (by
  intro args g o h
  obtain ⟨ar, fi, m1, m2, m3, m4, m5⟩ := g
  unfold S_md_isDigit P_md_isDigit at h
  split at h
  · refine zb_el h (fun hI0 k0 => ?_) (fun _ h10 => ?_)
    · have h2 := Option.some.inj k0
      have hG := congrArg Prod.fst h2
      have ho := congrArg Prod.snd h2
      dsimp only at hG ho
      subst ho
      try simp only [Bool.and_eq_true] at hI0
      have j0 := hI0
      have e0 := Nat.eq_of_beq_eq_true j0
      subst e0
      exact zseg_ret (e_md_isDigit hG)
    · cases h10
  · cases h)
def g_md_takes (x : Int32) (p0 : Int32) (p1 : Int32) (p2 : Nat → Int32) (p3 : Int32) : Bool := (g_md_here (p0) (p1) p2) && (bif decide (w_md_here (p0) (p1) p2 = x) then true else decide (w_md_wrongAt 1 (p1) = 0) || decide (w_md_wrongAt 1 (p1) = 1))
def w_md_takes (x : Int32) (p0 : Int32) (p1 : Int32) (p2 : Nat → Int32) (p3 : Int32) : Int32 := (bif decide (w_md_here (p0) (p1) p2 = x) then 1 else w_md_wrongAt 1 (p1))
def f0_md_takes (x : Int32) (p0 : Int32) (p1 : Int32) (p2 : Nat → Int32) (p3 : Int32) : Int32 := (bif decide (w_md_here (p0) (p1) p2 = x) then (p1) + 1 else p1)
def f1_md_takes (x : Int32) (p0 : Int32) (p1 : Int32) (p2 : Nat → Int32) (p3 : Int32) : Int32 := (bif decide (w_md_here (p0) (p1) p2 = x) then p3 else (f0_md_wrongAt 1 (p1)))
def P_md_takes (G : Int32 → Int32 → Int32 → (Nat → Int32) → Int32 → Bool) (W : Int32 → Int32 → Int32 → (Nat → Int32) → Int32 → Int32) (F0 : Int32 → Int32 → Int32 → (Nat → Int32) → Int32 → Int32) (F1 : Int32 → Int32 → Int32 → (Nat → Int32) → Int32 → Int32) : zSp := fun as g => match as with
  | [.ref a, .int x] => bif Nat.beq a 64 then some (G x (g.2.1 64 8) (g.2.1 64 7) (g.1 70) (g.2.1 64 9), (some (.int (W x (g.2.1 64 8) (g.2.1 64 7) (g.1 70) (g.2.1 64 9))), (g.1, (zup (zup g.2.1 64 (zup (g.2.1 64) 7 (F0 x (g.2.1 64 8) (g.2.1 64 7) (g.1 70) (g.2.1 64 9)))) 64 (zup ((zup g.2.1 64 (zup (g.2.1 64) 7 (F0 x (g.2.1 64 8) (g.2.1 64 7) (g.1 70) (g.2.1 64 9)))) 64) 9 (F1 x (g.2.1 64 8) (g.2.1 64 7) (g.1 70) (g.2.1 64 9)))), g.2.2))) else none
  | _ => none
abbrev S_md_takes : zSp := P_md_takes g_md_takes w_md_takes f0_md_takes f1_md_takes
set_option maxRecDepth 10000 in
theorem t_md_takes {X : Nat × (Nat → Int32)} {ar fi : Nat → Nat → Int32} {m1 m2 m3 m4 m5 : Nat} {x : Int32} {G_md_here : Int32 → Int32 → (Nat → Int32) → Bool} {W_md_here : Int32 → Int32 → (Nat → Int32) → Int32} {W_md_wrongAt : Int32 → Int32 → Int32} {F0_md_wrongAt : Int32 → Int32 → Int32} : zseg X zFT (zEx 158 (P_md_here G_md_here W_md_here) (zEx 160 (P_md_wrongAt W_md_wrongAt F0_md_wrongAt) zE0)) zc_161 (fun _ => false) 400 0 [.ref 64, .int x] [] (ar, fi, (m1, m2, m3, m4, m5)) = (
  zg (G_md_here (fi 64 8) (fi 64 7) (ar 70)) (
  bif decide (W_md_here (fi 64 8) (fi 64 7) (ar 70) = x) then
   some (.inr (some (.int 1), (ar, (zup fi 64 (zup (fi 64) 7 ((fi 64 7) + 1))), (m1, m2, m3, m4, m5))))
  else
   zg (decide (W_md_wrongAt 1 (fi 64 7) = 0) || decide (W_md_wrongAt 1 (fi 64 7) = 1)) (
   some (.inr (some (.int (W_md_wrongAt 1 (fi 64 7))), (ar, (zup fi 64 (zup (fi 64) 9 (F0_md_wrongAt 1 (fi 64 7)))), (m1, m2, m3, m4, m5)))))) : Option ((Nat × List Value × List Value × zH2) ⊕ zO2)) := by with_unfolding_all rfl
set_option maxRecDepth 10000 in
theorem e_md_takes {X : Nat × (Nat → Int32)} {ar fi : Nat → Nat → Int32} {m1 m2 m3 m4 m5 : Nat} {x : Int32} (hG : g_md_takes x (fi 64 8) (fi 64 7) (ar 70) (fi 64 9) = true) : zseg X zFT (zEx 158 S_md_here (zEx 160 S_md_wrongAt zE0)) zc_161 (fun _ => false) 400 0 [.ref 64, .int x] [] (ar, fi, (m1, m2, m3, m4, m5)) = some (.inr (some (.int (w_md_takes x (fi 64 8) (fi 64 7) (ar 70) (fi 64 9))), (ar, (zup (zup fi 64 (zup (fi 64) 7 (f0_md_takes x (fi 64 8) (fi 64 7) (ar 70) (fi 64 9)))) 64 (zup ((zup fi 64 (zup (fi 64) 7 (f0_md_takes x (fi 64 8) (fi 64 7) (ar 70) (fi 64 9)))) 64) 9 (f1_md_takes x (fi 64 8) (fi 64 7) (ar 70) (fi 64 9)))), (m1, m2, m3, m4, m5)))) := by
  rw [t_md_takes]
  unfold g_md_takes at hG
  unfold w_md_takes f0_md_takes f1_md_takes
  cases hc1 : (decide (w_md_here (fi 64 8) (fi 64 7) (ar 70) = x)) with
  | true =>
    try simp only [hc1, cond_true, cond_false] at hG ⊢
    all_goals try simp only [Bool.and_eq_true, Bool.true_and, Bool.and_true] at hG
    all_goals try simp only [hG, zg, cond_true, and_self]
    all_goals try simp only [zup_zup, zup_same]
    all_goals first | rfl | (refine congrArg some (congrArg Sum.inr (Prod.ext rfl (Prod.ext ?_ (Prod.ext ?_ rfl)))) <;> first | rfl | (funext b; simp only [zup]; (repeat' split) <;> first | rfl | omega | (subst_vars; rfl) | (subst_vars; funext k; simp only [zup]; (repeat' split) <;> first | rfl | omega | (subst_vars; rfl) | (simp_all; done))))
  | false =>
    try simp only [hc1, cond_true, cond_false] at hG ⊢
    all_goals try simp only [Bool.and_eq_true, Bool.true_and, Bool.and_true] at hG
    all_goals try simp only [hG, zg, cond_true, and_self]
    all_goals try simp only [zup_zup, zup_same]
    all_goals first | rfl | (refine congrArg some (congrArg Sum.inr (Prod.ext rfl (Prod.ext ?_ (Prod.ext ?_ rfl)))) <;> first | rfl | (funext b; simp only [zup]; (repeat' split) <;> first | rfl | omega | (subst_vars; rfl) | (subst_vars; funext k; simp only [zup]; (repeat' split) <;> first | rfl | omega | (subst_vars; rfl) | (simp_all; done))))
theorem ok_md_takes (X : Nat × (Nat → Int32)) : zOkS X 161 S_md_takes 2 := zOkS_new (zOkE_cons (ok_md_here X) (by decide) (zOkE_cons (ok_md_wrongAt X) (by decide) (zOkE_nil X 1))) (by
  intro args g o h
  obtain ⟨ar, fi, m1, m2, m3, m4, m5⟩ := g
  unfold S_md_takes P_md_takes at h
  split at h
  · refine zb_el h (fun hI0 k0 => ?_) (fun _ h10 => ?_)
    · have h2 := Option.some.inj k0
      have hG := congrArg Prod.fst h2
      have ho := congrArg Prod.snd h2
      dsimp only at hG ho
      subst ho
      try simp only [Bool.and_eq_true] at hI0
      have j0 := hI0
      have e0 := Nat.eq_of_beq_eq_true j0
      subst e0
      exact zseg_ret (e_md_takes hG)
    · cases h10
  · cases h)
def g_md_jumps (x : Int32) (p0 : Int32) (p1 : Int32) (p2 : Nat → Int32) (p3 : Nat → Int32) (p4 : Int32) : Bool := (zin (p0) 260) && (g_md_notes x 0 (p1) p2)
def a0_md_jumps (x : Int32) (p0 : Int32) (p1 : Int32) (p2 : Nat → Int32) (p3 : Nat → Int32) (p4 : Int32) : Nat → Int32 := (zup p3 ((p0).toNatClampNeg) ((1048576 * x) + (p1)))
def a1_md_jumps (x : Int32) (p0 : Int32) (p1 : Int32) (p2 : Nat → Int32) (p3 : Nat → Int32) (p4 : Int32) : Nat → Int32 := (a0_md_notes x 0 (p1) p2)
def f0_md_jumps (x : Int32) (p0 : Int32) (p1 : Int32) (p2 : Nat → Int32) (p3 : Nat → Int32) (p4 : Int32) : Int32 := (p4) + 1
def f1_md_jumps (x : Int32) (p0 : Int32) (p1 : Int32) (p2 : Nat → Int32) (p3 : Nat → Int32) (p4 : Int32) : Int32 := (f0_md_notes x 0 (p1) p2)
def f2_md_jumps (x : Int32) (p0 : Int32) (p1 : Int32) (p2 : Nat → Int32) (p3 : Nat → Int32) (p4 : Int32) : Int32 := (p0) + 1
def P_md_jumps (G : Int32 → Int32 → Int32 → (Nat → Int32) → (Nat → Int32) → Int32 → Bool) (A0 : Int32 → Int32 → Int32 → (Nat → Int32) → (Nat → Int32) → Int32 → Nat → Int32) (A1 : Int32 → Int32 → Int32 → (Nat → Int32) → (Nat → Int32) → Int32 → Nat → Int32) (F0 : Int32 → Int32 → Int32 → (Nat → Int32) → (Nat → Int32) → Int32 → Int32) (F1 : Int32 → Int32 → Int32 → (Nat → Int32) → (Nat → Int32) → Int32 → Int32) (F2 : Int32 → Int32 → Int32 → (Nat → Int32) → (Nat → Int32) → Int32 → Int32) : zSp := fun as g => match as with
  | [.ref a, .int x] => bif Nat.beq a 64 then some (G x (g.2.1 64 13) (g.2.1 64 12) (g.1 71) (g.1 72) (g.2.1 64 7), (none, ((zup (zup g.1 72 (A0 x (g.2.1 64 13) (g.2.1 64 12) (g.1 71) (g.1 72) (g.2.1 64 7))) 71 (A1 x (g.2.1 64 13) (g.2.1 64 12) (g.1 71) (g.1 72) (g.2.1 64 7))), (zup (zup (zup g.2.1 64 (zup (g.2.1 64) 7 (F0 x (g.2.1 64 13) (g.2.1 64 12) (g.1 71) (g.1 72) (g.2.1 64 7)))) 64 (zup ((zup g.2.1 64 (zup (g.2.1 64) 7 (F0 x (g.2.1 64 13) (g.2.1 64 12) (g.1 71) (g.1 72) (g.2.1 64 7)))) 64) 12 (F1 x (g.2.1 64 13) (g.2.1 64 12) (g.1 71) (g.1 72) (g.2.1 64 7)))) 64 (zup ((zup (zup g.2.1 64 (zup (g.2.1 64) 7 (F0 x (g.2.1 64 13) (g.2.1 64 12) (g.1 71) (g.1 72) (g.2.1 64 7)))) 64 (zup ((zup g.2.1 64 (zup (g.2.1 64) 7 (F0 x (g.2.1 64 13) (g.2.1 64 12) (g.1 71) (g.1 72) (g.2.1 64 7)))) 64) 12 (F1 x (g.2.1 64 13) (g.2.1 64 12) (g.1 71) (g.1 72) (g.2.1 64 7)))) 64) 13 (F2 x (g.2.1 64 13) (g.2.1 64 12) (g.1 71) (g.1 72) (g.2.1 64 7)))), g.2.2))) else none
  | _ => none
abbrev S_md_jumps : zSp := P_md_jumps g_md_jumps a0_md_jumps a1_md_jumps f0_md_jumps f1_md_jumps f2_md_jumps
set_option maxRecDepth 10000 in
theorem t_md_jumps {X : Nat × (Nat → Int32)} {ar fi : Nat → Nat → Int32} {m1 m2 m3 m4 m5 : Nat} {x : Int32} {G_md_notes : Int32 → Int32 → Int32 → (Nat → Int32) → Bool} {A0_md_notes : Int32 → Int32 → Int32 → (Nat → Int32) → Nat → Int32} {F0_md_notes : Int32 → Int32 → Int32 → (Nat → Int32) → Int32} : zseg X zFT (zEx 163 (P_md_notes G_md_notes A0_md_notes F0_md_notes) zE0) zc_174 (fun _ => false) 400 0 [.ref 64, .int x] [] (ar, fi, (m1, m2, m3, m4, m5)) = (
  zg (zin (fi 64 13) 260) (
  zg (G_md_notes x 0 (fi 64 12) (ar 71)) (
  some (.inr (none, ((zup (zup ar 72 (zup (ar 72) ((fi 64 13).toNatClampNeg) ((1048576 * x) + (fi 64 12)))) 71 (A0_md_notes x 0 (fi 64 12) (ar 71))), (zup (zup (zup fi 64 (zup (fi 64) 13 ((fi 64 13) + 1))) 64 (zup ((zup fi 64 (zup (fi 64) 13 ((fi 64 13) + 1))) 64) 12 (F0_md_notes x 0 (fi 64 12) (ar 71)))) 64 (zup ((zup (zup fi 64 (zup (fi 64) 13 ((fi 64 13) + 1))) 64 (zup ((zup fi 64 (zup (fi 64) 13 ((fi 64 13) + 1))) 64) 12 (F0_md_notes x 0 (fi 64 12) (ar 71)))) 64) 7 ((fi 64 7) + 1))), (m1, m2, m3, m4, m5)))))) : Option ((Nat × List Value × List Value × zH2) ⊕ zO2)) := by with_unfolding_all rfl
set_option maxRecDepth 10000 in
theorem e_md_jumps {X : Nat × (Nat → Int32)} {ar fi : Nat → Nat → Int32} {m1 m2 m3 m4 m5 : Nat} {x : Int32} (hG : g_md_jumps x (fi 64 13) (fi 64 12) (ar 71) (ar 72) (fi 64 7) = true) : zseg X zFT (zEx 163 S_md_notes zE0) zc_174 (fun _ => false) 400 0 [.ref 64, .int x] [] (ar, fi, (m1, m2, m3, m4, m5)) = some (.inr (none, ((zup (zup ar 72 (a0_md_jumps x (fi 64 13) (fi 64 12) (ar 71) (ar 72) (fi 64 7))) 71 (a1_md_jumps x (fi 64 13) (fi 64 12) (ar 71) (ar 72) (fi 64 7))), (zup (zup (zup fi 64 (zup (fi 64) 7 (f0_md_jumps x (fi 64 13) (fi 64 12) (ar 71) (ar 72) (fi 64 7)))) 64 (zup ((zup fi 64 (zup (fi 64) 7 (f0_md_jumps x (fi 64 13) (fi 64 12) (ar 71) (ar 72) (fi 64 7)))) 64) 12 (f1_md_jumps x (fi 64 13) (fi 64 12) (ar 71) (ar 72) (fi 64 7)))) 64 (zup ((zup (zup fi 64 (zup (fi 64) 7 (f0_md_jumps x (fi 64 13) (fi 64 12) (ar 71) (ar 72) (fi 64 7)))) 64 (zup ((zup fi 64 (zup (fi 64) 7 (f0_md_jumps x (fi 64 13) (fi 64 12) (ar 71) (ar 72) (fi 64 7)))) 64) 12 (f1_md_jumps x (fi 64 13) (fi 64 12) (ar 71) (ar 72) (fi 64 7)))) 64) 13 (f2_md_jumps x (fi 64 13) (fi 64 12) (ar 71) (ar 72) (fi 64 7)))), (m1, m2, m3, m4, m5)))) := by
  rw [t_md_jumps]
  unfold g_md_jumps at hG
  unfold a0_md_jumps a1_md_jumps f0_md_jumps f1_md_jumps f2_md_jumps
  all_goals try simp only [Bool.and_eq_true, Bool.true_and, Bool.and_true] at hG
  all_goals try simp only [hG, zg, cond_true, and_self]
  all_goals try simp only [zup_zup, zup_same]
  all_goals first | rfl | (refine congrArg some (congrArg Sum.inr (Prod.ext rfl (Prod.ext ?_ (Prod.ext ?_ rfl)))) <;> first | rfl | (funext b; simp only [zup]; (repeat' split) <;> first | rfl | omega | (subst_vars; rfl) | (subst_vars; funext k; simp only [zup]; (repeat' split) <;> first | rfl | omega | (subst_vars; rfl) | (simp_all; done))))
theorem ok_md_jumps (X : Nat × (Nat → Int32)) : zOkS X 174 S_md_jumps 2 := zOkS_new (zOkE_cons (ok_md_notes X) (by decide) (zOkE_nil X 1)) (by
  intro args g o h
  obtain ⟨ar, fi, m1, m2, m3, m4, m5⟩ := g
  unfold S_md_jumps P_md_jumps at h
  split at h
  · refine zb_el h (fun hI0 k0 => ?_) (fun _ h10 => ?_)
    · have h2 := Option.some.inj k0
      have hG := congrArg Prod.fst h2
      have ho := congrArg Prod.snd h2
      dsimp only at hG ho
      subst ho
      try simp only [Bool.and_eq_true] at hI0
      have j0 := hI0
      have e0 := Nat.eq_of_beq_eq_true j0
      subst e0
      exact zseg_ret (e_md_jumps hG)
    · cases h10
  · cases h)
def g_md_canBeginRow (p0 : Int32) (p1 : Int32) (p2 : Nat → Int32) : Bool := (g_md_here (p0) (p1) p2) && (bif !decide (w_md_in (w_md_here (p0) (p1) p2) 50 57 = 0) then true else g_md_here (p0) (p1) p2)
def w_md_canBeginRow (p0 : Int32) (p1 : Int32) (p2 : Nat → Int32) : Int32 := (bif !decide (w_md_in (w_md_here (p0) (p1) p2) 50 57 = 0) then 1 else (bif decide (w_md_kindBy (w_md_here (p0) (p1) p2) = (-1)) then 0 else 1))
def P_md_canBeginRow (G : Int32 → Int32 → (Nat → Int32) → Bool) (W : Int32 → Int32 → (Nat → Int32) → Int32) : zSp := fun as g => match as with
  | [.ref a] => bif Nat.beq a 64 then some (G (g.2.1 64 8) (g.2.1 64 7) (g.1 70), (some (.int (W (g.2.1 64 8) (g.2.1 64 7) (g.1 70))), (g.1, g.2.1, g.2.2))) else none
  | _ => none
abbrev S_md_canBeginRow : zSp := P_md_canBeginRow g_md_canBeginRow w_md_canBeginRow
set_option maxRecDepth 10000 in
theorem t_md_canBeginRow {X : Nat × (Nat → Int32)} {ar fi : Nat → Nat → Int32} {m1 m2 m3 m4 m5 : Nat} {G_md_here : Int32 → Int32 → (Nat → Int32) → Bool} {W_md_here : Int32 → Int32 → (Nat → Int32) → Int32} {W_md_in : Int32 → Int32 → Int32 → Int32} {W_md_kindBy : Int32 → Int32} : zseg X zFT (zEx 158 (P_md_here G_md_here W_md_here) (zEx 143 (P_md_in W_md_in) (zEx 184 (P_md_kindBy W_md_kindBy) zE0))) zc_185 (fun _ => false) 400 0 [.ref 64] [] (ar, fi, (m1, m2, m3, m4, m5)) = (
  zg (G_md_here (fi 64 8) (fi 64 7) (ar 70)) (
  bif !decide (W_md_in (W_md_here (fi 64 8) (fi 64 7) (ar 70)) 50 57 = 0) then
   some (.inr (some (.int 1), (ar, fi, (m1, m2, m3, m4, m5))))
  else
   zg (G_md_here (fi 64 8) (fi 64 7) (ar 70)) (
   bif decide (W_md_kindBy (W_md_here (fi 64 8) (fi 64 7) (ar 70)) = (-1)) then
    some (.inr (some (.int 0), (ar, fi, (m1, m2, m3, m4, m5))))
   else
    some (.inr (some (.int 1), (ar, fi, (m1, m2, m3, m4, m5)))))) : Option ((Nat × List Value × List Value × zH2) ⊕ zO2)) := by with_unfolding_all rfl
set_option maxRecDepth 10000 in
theorem e_md_canBeginRow {X : Nat × (Nat → Int32)} {ar fi : Nat → Nat → Int32} {m1 m2 m3 m4 m5 : Nat} (hG : g_md_canBeginRow (fi 64 8) (fi 64 7) (ar 70) = true) : zseg X zFT (zEx 158 S_md_here (zEx 143 S_md_in (zEx 184 S_md_kindBy zE0))) zc_185 (fun _ => false) 400 0 [.ref 64] [] (ar, fi, (m1, m2, m3, m4, m5)) = some (.inr (some (.int (w_md_canBeginRow (fi 64 8) (fi 64 7) (ar 70))), (ar, fi, (m1, m2, m3, m4, m5)))) := by
  rw [t_md_canBeginRow]
  unfold g_md_canBeginRow at hG
  unfold w_md_canBeginRow
  cases hc1 : (!decide (w_md_in (w_md_here (fi 64 8) (fi 64 7) (ar 70)) 50 57 = 0)) with
  | true =>
    try simp only [hc1, cond_true, cond_false] at hG ⊢
    all_goals try simp only [Bool.and_eq_true, Bool.true_and, Bool.and_true] at hG
    all_goals try simp only [hG, zg, cond_true, and_self]
    all_goals first | rfl | (refine congrArg some (congrArg Sum.inr (Prod.ext rfl (Prod.ext ?_ (Prod.ext ?_ rfl)))) <;> first | rfl | (funext b; simp only [zup]; (repeat' split) <;> first | rfl | omega | (subst_vars; rfl) | (subst_vars; funext k; simp only [zup]; (repeat' split) <;> first | rfl | omega | (subst_vars; rfl) | (simp_all; done))))
  | false =>
    try simp only [hc1, cond_true, cond_false] at hG ⊢
    cases hc2 : (decide (w_md_kindBy (w_md_here (fi 64 8) (fi 64 7) (ar 70)) = (-1))) with
    | true =>
      try simp only [hc2, cond_true, cond_false] at hG ⊢
      all_goals try simp only [Bool.and_eq_true, Bool.true_and, Bool.and_true] at hG
      all_goals try simp only [hG, zg, cond_true, and_self]
      all_goals first | rfl | (refine congrArg some (congrArg Sum.inr (Prod.ext rfl (Prod.ext ?_ (Prod.ext ?_ rfl)))) <;> first | rfl | (funext b; simp only [zup]; (repeat' split) <;> first | rfl | omega | (subst_vars; rfl) | (subst_vars; funext k; simp only [zup]; (repeat' split) <;> first | rfl | omega | (subst_vars; rfl) | (simp_all; done))))
    | false =>
      try simp only [hc2, cond_true, cond_false] at hG ⊢
      all_goals try simp only [Bool.and_eq_true, Bool.true_and, Bool.and_true] at hG
      all_goals try simp only [hG, zg, cond_true, and_self]
      all_goals first | rfl | (refine congrArg some (congrArg Sum.inr (Prod.ext rfl (Prod.ext ?_ (Prod.ext ?_ rfl)))) <;> first | rfl | (funext b; simp only [zup]; (repeat' split) <;> first | rfl | omega | (subst_vars; rfl) | (subst_vars; funext k; simp only [zup]; (repeat' split) <;> first | rfl | omega | (subst_vars; rfl) | (simp_all; done))))
theorem ok_md_canBeginRow (X : Nat × (Nat → Int32)) : zOkS X 185 S_md_canBeginRow 2 := zOkS_new (zOkE_cons (ok_md_here X) (by decide) (zOkE_cons (ok_md_in X) (by decide) (zOkE_cons (ok_md_kindBy X) (by decide) (zOkE_nil X 1)))) (by
  intro args g o h
  obtain ⟨ar, fi, m1, m2, m3, m4, m5⟩ := g
  unfold S_md_canBeginRow P_md_canBeginRow at h
  split at h
  · refine zb_el h (fun hI0 k0 => ?_) (fun _ h10 => ?_)
    · have h2 := Option.some.inj k0
      have hG := congrArg Prod.fst h2
      have ho := congrArg Prod.snd h2
      dsimp only at hG ho
      subst ho
      try simp only [Bool.and_eq_true] at hI0
      have j0 := hI0
      have e0 := Nat.eq_of_beq_eq_true j0
      subst e0
      exact zseg_ret (e_md_canBeginRow hG)
    · cases h10
  · cases h)
def g_md_readsWind (p0 : Int32) (p1 : Int32) (p2 : Nat → Int32) (p3 : Nat → Int32) (p4 : Int32) : Bool := (g_md_here (p0) (p1) p2) && (bif !decide (w_md_in (w_md_here (p0) (p1) p2) 48 51 = 0) then (g_md_here (p0) (p1) p2) && (zin 312 315) else decide (w_md_wrongAt 1 (p1) = 0) || decide (w_md_wrongAt 1 (p1) = 1))
def w_md_readsWind (p0 : Int32) (p1 : Int32) (p2 : Nat → Int32) (p3 : Nat → Int32) (p4 : Int32) : Int32 := (bif !decide (w_md_in (w_md_here (p0) (p1) p2) 48 51 = 0) then 1 else w_md_wrongAt 1 (p1))
def a0_md_readsWind (p0 : Int32) (p1 : Int32) (p2 : Nat → Int32) (p3 : Nat → Int32) (p4 : Int32) : Nat → Int32 := (bif !decide (w_md_in (w_md_here (p0) (p1) p2) 48 51 = 0) then (zup p3 ((312 : Int32).toNatClampNeg) ((w_md_here (p0) (p1) p2) - 48)) else p3)
def f0_md_readsWind (p0 : Int32) (p1 : Int32) (p2 : Nat → Int32) (p3 : Nat → Int32) (p4 : Int32) : Int32 := (bif !decide (w_md_in (w_md_here (p0) (p1) p2) 48 51 = 0) then (p1) + 1 else p1)
def f1_md_readsWind (p0 : Int32) (p1 : Int32) (p2 : Nat → Int32) (p3 : Nat → Int32) (p4 : Int32) : Int32 := (bif !decide (w_md_in (w_md_here (p0) (p1) p2) 48 51 = 0) then p4 else (f0_md_wrongAt 1 (p1)))
def P_md_readsWind (G : Int32 → Int32 → (Nat → Int32) → (Nat → Int32) → Int32 → Bool) (W : Int32 → Int32 → (Nat → Int32) → (Nat → Int32) → Int32 → Int32) (A0 : Int32 → Int32 → (Nat → Int32) → (Nat → Int32) → Int32 → Nat → Int32) (F0 : Int32 → Int32 → (Nat → Int32) → (Nat → Int32) → Int32 → Int32) (F1 : Int32 → Int32 → (Nat → Int32) → (Nat → Int32) → Int32 → Int32) : zSp := fun as g => match as with
  | [.ref a] => bif Nat.beq a 64 then some (G (g.2.1 64 8) (g.2.1 64 7) (g.1 70) (g.1 65) (g.2.1 64 9), (some (.int (W (g.2.1 64 8) (g.2.1 64 7) (g.1 70) (g.1 65) (g.2.1 64 9))), ((zup g.1 65 (A0 (g.2.1 64 8) (g.2.1 64 7) (g.1 70) (g.1 65) (g.2.1 64 9))), (zup (zup g.2.1 64 (zup (g.2.1 64) 7 (F0 (g.2.1 64 8) (g.2.1 64 7) (g.1 70) (g.1 65) (g.2.1 64 9)))) 64 (zup ((zup g.2.1 64 (zup (g.2.1 64) 7 (F0 (g.2.1 64 8) (g.2.1 64 7) (g.1 70) (g.1 65) (g.2.1 64 9)))) 64) 9 (F1 (g.2.1 64 8) (g.2.1 64 7) (g.1 70) (g.1 65) (g.2.1 64 9)))), g.2.2))) else none
  | _ => none
abbrev S_md_readsWind : zSp := P_md_readsWind g_md_readsWind w_md_readsWind a0_md_readsWind f0_md_readsWind f1_md_readsWind
set_option maxRecDepth 10000 in
theorem t_md_readsWind {X : Nat × (Nat → Int32)} {ar fi : Nat → Nat → Int32} {m1 m2 m3 m4 m5 : Nat} {G_md_here : Int32 → Int32 → (Nat → Int32) → Bool} {W_md_here : Int32 → Int32 → (Nat → Int32) → Int32} {W_md_in : Int32 → Int32 → Int32 → Int32} {W_md_wrongAt : Int32 → Int32 → Int32} {F0_md_wrongAt : Int32 → Int32 → Int32} : zseg X zFT (zEx 158 (P_md_here G_md_here W_md_here) (zEx 143 (P_md_in W_md_in) (zEx 160 (P_md_wrongAt W_md_wrongAt F0_md_wrongAt) zE0))) zc_194 (fun _ => false) 400 0 [.ref 64] [] (ar, fi, (m1, m2, m3, m4, m5)) = (
  zg (G_md_here (fi 64 8) (fi 64 7) (ar 70)) (
  bif !decide (W_md_in (W_md_here (fi 64 8) (fi 64 7) (ar 70)) 48 51 = 0) then
   zg (G_md_here (fi 64 8) (fi 64 7) (ar 70)) (
   zg (zin 312 315) (
   some (.inr (some (.int 1), ((zup ar 65 (zup (ar 65) ((312 : Int32).toNatClampNeg) ((W_md_here (fi 64 8) (fi 64 7) (ar 70)) - 48))), (zup fi 64 (zup (fi 64) 7 ((fi 64 7) + 1))), (m1, m2, m3, m4, m5))))))
  else
   zg (decide (W_md_wrongAt 1 (fi 64 7) = 0) || decide (W_md_wrongAt 1 (fi 64 7) = 1)) (
   some (.inr (some (.int (W_md_wrongAt 1 (fi 64 7))), (ar, (zup fi 64 (zup (fi 64) 9 (F0_md_wrongAt 1 (fi 64 7)))), (m1, m2, m3, m4, m5)))))) : Option ((Nat × List Value × List Value × zH2) ⊕ zO2)) := by with_unfolding_all rfl
set_option maxRecDepth 10000 in
theorem e_md_readsWind {X : Nat × (Nat → Int32)} {ar fi : Nat → Nat → Int32} {m1 m2 m3 m4 m5 : Nat} (hG : g_md_readsWind (fi 64 8) (fi 64 7) (ar 70) (ar 65) (fi 64 9) = true) : zseg X zFT (zEx 158 S_md_here (zEx 143 S_md_in (zEx 160 S_md_wrongAt zE0))) zc_194 (fun _ => false) 400 0 [.ref 64] [] (ar, fi, (m1, m2, m3, m4, m5)) = some (.inr (some (.int (w_md_readsWind (fi 64 8) (fi 64 7) (ar 70) (ar 65) (fi 64 9))), ((zup ar 65 (a0_md_readsWind (fi 64 8) (fi 64 7) (ar 70) (ar 65) (fi 64 9))), (zup (zup fi 64 (zup (fi 64) 7 (f0_md_readsWind (fi 64 8) (fi 64 7) (ar 70) (ar 65) (fi 64 9)))) 64 (zup ((zup fi 64 (zup (fi 64) 7 (f0_md_readsWind (fi 64 8) (fi 64 7) (ar 70) (ar 65) (fi 64 9)))) 64) 9 (f1_md_readsWind (fi 64 8) (fi 64 7) (ar 70) (ar 65) (fi 64 9)))), (m1, m2, m3, m4, m5)))) := by
  rw [t_md_readsWind]
  unfold g_md_readsWind at hG
  unfold w_md_readsWind a0_md_readsWind f0_md_readsWind f1_md_readsWind
  cases hc1 : (!decide (w_md_in (w_md_here (fi 64 8) (fi 64 7) (ar 70)) 48 51 = 0)) with
  | true =>
    try simp only [hc1, cond_true, cond_false] at hG ⊢
    all_goals try simp only [Bool.and_eq_true, Bool.true_and, Bool.and_true] at hG
    all_goals try simp only [hG, zg, cond_true, and_self]
    all_goals try simp only [zup_zup, zup_same]
    all_goals first | rfl | (refine congrArg some (congrArg Sum.inr (Prod.ext rfl (Prod.ext ?_ (Prod.ext ?_ rfl)))) <;> first | rfl | (funext b; simp only [zup]; (repeat' split) <;> first | rfl | omega | (subst_vars; rfl) | (subst_vars; funext k; simp only [zup]; (repeat' split) <;> first | rfl | omega | (subst_vars; rfl) | (simp_all; done))))
  | false =>
    try simp only [hc1, cond_true, cond_false] at hG ⊢
    all_goals try simp only [Bool.and_eq_true, Bool.true_and, Bool.and_true] at hG
    all_goals try simp only [hG, zg, cond_true, and_self]
    all_goals try simp only [zup_zup, zup_same]
    all_goals first | rfl | (refine congrArg some (congrArg Sum.inr (Prod.ext rfl (Prod.ext ?_ (Prod.ext ?_ rfl)))) <;> first | rfl | (funext b; simp only [zup]; (repeat' split) <;> first | rfl | omega | (subst_vars; rfl) | (subst_vars; funext k; simp only [zup]; (repeat' split) <;> first | rfl | omega | (subst_vars; rfl) | (simp_all; done))))
theorem ok_md_readsWind (X : Nat × (Nat → Int32)) : zOkS X 194 S_md_readsWind 2 := zOkS_new (zOkE_cons (ok_md_here X) (by decide) (zOkE_cons (ok_md_in X) (by decide) (zOkE_cons (ok_md_wrongAt X) (by decide) (zOkE_nil X 1)))) (by
  intro args g o h
  obtain ⟨ar, fi, m1, m2, m3, m4, m5⟩ := g
  unfold S_md_readsWind P_md_readsWind at h
  split at h
  · refine zb_el h (fun hI0 k0 => ?_) (fun _ h10 => ?_)
    · have h2 := Option.some.inj k0
      have hG := congrArg Prod.fst h2
      have ho := congrArg Prod.snd h2
      dsimp only at hG ho
      subst ho
      try simp only [Bool.and_eq_true] at hI0
      have j0 := hI0
      have e0 := Nat.eq_of_beq_eq_true j0
      subst e0
      exact zseg_ret (e_md_readsWind hG)
    · cases h10
  · cases h)
def g_md_seed (x : Int32) (p0 : Nat → Int32) : Bool := bif !decide (w_md_in x 0 65535 = 0) then zin 314 315 else true
def w_md_seed (x : Int32) (p0 : Nat → Int32) : Int32 := (bif !decide (w_md_in x 0 65535 = 0) then 1 else 0)
def a0_md_seed (x : Int32) (p0 : Nat → Int32) : Nat → Int32 := (bif !decide (w_md_in x 0 65535 = 0) then (zup p0 ((314 : Int32).toNatClampNeg) x) else p0)
def P_md_seed (G : Int32 → (Nat → Int32) → Bool) (W : Int32 → (Nat → Int32) → Int32) (A0 : Int32 → (Nat → Int32) → Nat → Int32) : zSp := fun as g => match as with
  | [.ref a, .int x] => bif Nat.beq a 64 then some (G x (g.1 65), (some (.int (W x (g.1 65))), ((zup g.1 65 (A0 x (g.1 65))), g.2.1, g.2.2))) else none
  | _ => none
abbrev S_md_seed : zSp := P_md_seed g_md_seed w_md_seed a0_md_seed
set_option maxRecDepth 10000 in
theorem t_md_seed {X : Nat × (Nat → Int32)} {ar fi : Nat → Nat → Int32} {m1 m2 m3 m4 m5 : Nat} {x : Int32} {W_md_in : Int32 → Int32 → Int32 → Int32} : zseg X zFT (zEx 143 (P_md_in W_md_in) zE0) zc_242 (fun _ => false) 400 0 [.ref 64, .int x] [] (ar, fi, (m1, m2, m3, m4, m5)) = (
  bif !decide (W_md_in x 0 65535 = 0) then
   zg (zin 314 315) (
   some (.inr (some (.int 1), ((zup ar 65 (zup (ar 65) ((314 : Int32).toNatClampNeg) x)), fi, (m1, m2, m3, m4, m5)))))
  else
   some (.inr (some (.int 0), (ar, fi, (m1, m2, m3, m4, m5)))) : Option ((Nat × List Value × List Value × zH2) ⊕ zO2)) := by with_unfolding_all rfl
set_option maxRecDepth 10000 in
theorem e_md_seed {X : Nat × (Nat → Int32)} {ar fi : Nat → Nat → Int32} {m1 m2 m3 m4 m5 : Nat} {x : Int32} (hG : g_md_seed x (ar 65) = true) : zseg X zFT (zEx 143 S_md_in zE0) zc_242 (fun _ => false) 400 0 [.ref 64, .int x] [] (ar, fi, (m1, m2, m3, m4, m5)) = some (.inr (some (.int (w_md_seed x (ar 65))), ((zup ar 65 (a0_md_seed x (ar 65))), fi, (m1, m2, m3, m4, m5)))) := by
  rw [t_md_seed]
  unfold g_md_seed at hG
  unfold w_md_seed a0_md_seed
  cases hc1 : (!decide (w_md_in x 0 65535 = 0)) with
  | true =>
    try simp only [hc1, cond_true, cond_false] at hG ⊢
    all_goals try simp only [Bool.and_eq_true, Bool.true_and, Bool.and_true] at hG
    all_goals try simp only [hG, zg, cond_true, and_self]
    all_goals first | rfl | (refine congrArg some (congrArg Sum.inr (Prod.ext rfl (Prod.ext ?_ (Prod.ext ?_ rfl)))) <;> first | rfl | (funext b; simp only [zup]; (repeat' split) <;> first | rfl | omega | (subst_vars; rfl) | (subst_vars; funext k; simp only [zup]; (repeat' split) <;> first | rfl | omega | (subst_vars; rfl) | (simp_all; done))))
  | false =>
    try simp only [hc1, cond_true, cond_false] at hG ⊢
    all_goals try simp only [Bool.and_eq_true, Bool.true_and, Bool.and_true] at hG
    all_goals try simp only [hG, zg, cond_true, and_self]
    all_goals first | rfl | (refine congrArg some (congrArg Sum.inr (Prod.ext rfl (Prod.ext ?_ (Prod.ext ?_ rfl)))) <;> first | rfl | (funext b; simp only [zup]; (repeat' split) <;> first | rfl | omega | (subst_vars; rfl) | (subst_vars; funext k; simp only [zup]; (repeat' split) <;> first | rfl | omega | (subst_vars; rfl) | (simp_all; done))))
theorem ok_md_seed (X : Nat × (Nat → Int32)) : zOkS X 242 S_md_seed 2 := zOkS_new (zOkE_cons (ok_md_in X) (by decide) (zOkE_nil X 1)) (by
  intro args g o h
  obtain ⟨ar, fi, m1, m2, m3, m4, m5⟩ := g
  unfold S_md_seed P_md_seed at h
  split at h
  · refine zb_el h (fun hI0 k0 => ?_) (fun _ h10 => ?_)
    · have h2 := Option.some.inj k0
      have hG := congrArg Prod.fst h2
      have ho := congrArg Prod.snd h2
      dsimp only at hG ho
      subst ho
      try simp only [Bool.and_eq_true] at hI0
      have j0 := hI0
      have e0 := Nat.eq_of_beq_eq_true j0
      subst e0
      exact zseg_ret (e_md_seed hG)
    · cases h10
  · cases h)
def g_tn_canBeginSign (p0 : Int32) (p1 : Int32) (p2 : Int32) (p3 : Nat → Int32) : Bool := (g_tn_isCount (p0) (p1) (p2) p3) && (bif !decide (w_tn_isCount (p0) (p1) (p2) p3 = 0) then true else g_tx_sign (p0) (p1) (p2) p3)
def w_tn_canBeginSign (p0 : Int32) (p1 : Int32) (p2 : Int32) (p3 : Nat → Int32) : Int32 := (bif !decide (w_tn_isCount (p0) (p1) (p2) p3 = 0) then 1 else (bif decide (w_tn_kindOf (w_tx_sign (p0) (p1) (p2) p3) < 0) then 0 else 1))
def P_tn_canBeginSign (G : Int32 → Int32 → Int32 → (Nat → Int32) → Bool) (W : Int32 → Int32 → Int32 → (Nat → Int32) → Int32) : zSp := fun as g => match as with
  | [.ref a] => bif Nat.beq a 42 && Nat.beq g.2.2.2.2.2.1 1 then some (G (g.2.1 44 2) (g.2.1 44 4) (g.2.1 44 1) (g.1 1), (some (.int (W (g.2.1 44 2) (g.2.1 44 4) (g.2.1 44 1) (g.1 1))), (g.1, g.2.1, g.2.2))) else none
  | _ => none
abbrev S_tn_canBeginSign : zSp := P_tn_canBeginSign g_tn_canBeginSign w_tn_canBeginSign
set_option maxRecDepth 10000 in
theorem t_tn_canBeginSign {X : Nat × (Nat → Int32)} {ar fi : Nat → Nat → Int32} {m1 m2 m3 m5 : Nat} {G_tn_isCount : Int32 → Int32 → Int32 → (Nat → Int32) → Bool} {W_tn_isCount : Int32 → Int32 → Int32 → (Nat → Int32) → Int32} {G_tx_sign : Int32 → Int32 → Int32 → (Nat → Int32) → Bool} {W_tx_sign : Int32 → Int32 → Int32 → (Nat → Int32) → Int32} {W_tn_kindOf : Int32 → Int32} : zseg X zFT (zEx 104 (P_tn_isCount G_tn_isCount W_tn_isCount) (zEx 93 (P_tx_sign G_tx_sign W_tx_sign) (zEx 107 (P_tn_kindOf W_tn_kindOf) zE0))) zc_103 (fun _ => false) 400 0 [.ref 42] [] (ar, fi, (m1, m2, m3, 1, m5)) = (
  zg (G_tn_isCount (fi 44 2) (fi 44 4) (fi 44 1) (ar 1)) (
  bif !decide (W_tn_isCount (fi 44 2) (fi 44 4) (fi 44 1) (ar 1) = 0) then
   some (.inr (some (.int 1), (ar, fi, (m1, m2, m3, 1, m5))))
  else
   zg (G_tx_sign (fi 44 2) (fi 44 4) (fi 44 1) (ar 1)) (
   bif decide (W_tn_kindOf (W_tx_sign (fi 44 2) (fi 44 4) (fi 44 1) (ar 1)) < 0) then
    some (.inr (some (.int 0), (ar, fi, (m1, m2, m3, 1, m5))))
   else
    some (.inr (some (.int 1), (ar, fi, (m1, m2, m3, 1, m5)))))) : Option ((Nat × List Value × List Value × zH2) ⊕ zO2)) := by with_unfolding_all rfl
set_option maxRecDepth 10000 in
theorem e_tn_canBeginSign {X : Nat × (Nat → Int32)} {ar fi : Nat → Nat → Int32} {m1 m2 m3 m5 : Nat} (hG : g_tn_canBeginSign (fi 44 2) (fi 44 4) (fi 44 1) (ar 1) = true) : zseg X zFT (zEx 104 S_tn_isCount (zEx 93 S_tx_sign (zEx 107 S_tn_kindOf zE0))) zc_103 (fun _ => false) 400 0 [.ref 42] [] (ar, fi, (m1, m2, m3, 1, m5)) = some (.inr (some (.int (w_tn_canBeginSign (fi 44 2) (fi 44 4) (fi 44 1) (ar 1))), (ar, fi, (m1, m2, m3, 1, m5)))) := by
  rw [t_tn_canBeginSign]
  unfold g_tn_canBeginSign at hG
  unfold w_tn_canBeginSign
  cases hc1 : (!decide (w_tn_isCount (fi 44 2) (fi 44 4) (fi 44 1) (ar 1) = 0)) with
  | true =>
    try simp only [hc1, cond_true, cond_false] at hG ⊢
    all_goals try simp only [Bool.and_eq_true, Bool.true_and, Bool.and_true] at hG
    all_goals try simp only [hG, zg, cond_true, and_self]
    all_goals first | rfl | (refine congrArg some (congrArg Sum.inr (Prod.ext rfl (Prod.ext ?_ (Prod.ext ?_ rfl)))) <;> first | rfl | (funext b; simp only [zup]; (repeat' split) <;> first | rfl | omega | (subst_vars; rfl) | (subst_vars; funext k; simp only [zup]; (repeat' split) <;> first | rfl | omega | (subst_vars; rfl) | (simp_all; done))))
  | false =>
    try simp only [hc1, cond_true, cond_false] at hG ⊢
    cases hc2 : (decide (w_tn_kindOf (w_tx_sign (fi 44 2) (fi 44 4) (fi 44 1) (ar 1)) < 0)) with
    | true =>
      try simp only [hc2, cond_true, cond_false] at hG ⊢
      all_goals try simp only [Bool.and_eq_true, Bool.true_and, Bool.and_true] at hG
      all_goals try simp only [hG, zg, cond_true, and_self]
      all_goals first | rfl | (refine congrArg some (congrArg Sum.inr (Prod.ext rfl (Prod.ext ?_ (Prod.ext ?_ rfl)))) <;> first | rfl | (funext b; simp only [zup]; (repeat' split) <;> first | rfl | omega | (subst_vars; rfl) | (subst_vars; funext k; simp only [zup]; (repeat' split) <;> first | rfl | omega | (subst_vars; rfl) | (simp_all; done))))
    | false =>
      try simp only [hc2, cond_true, cond_false] at hG ⊢
      all_goals try simp only [Bool.and_eq_true, Bool.true_and, Bool.and_true] at hG
      all_goals try simp only [hG, zg, cond_true, and_self]
      all_goals first | rfl | (refine congrArg some (congrArg Sum.inr (Prod.ext rfl (Prod.ext ?_ (Prod.ext ?_ rfl)))) <;> first | rfl | (funext b; simp only [zup]; (repeat' split) <;> first | rfl | omega | (subst_vars; rfl) | (subst_vars; funext k; simp only [zup]; (repeat' split) <;> first | rfl | omega | (subst_vars; rfl) | (simp_all; done))))
theorem ok_tn_canBeginSign (X : Nat × (Nat → Int32)) : zOkS X 103 S_tn_canBeginSign 3 := zOkS_new (zOkE_cons (ok_tn_isCount X) (by decide) (zOkE_cons (ok_tx_sign X) (by decide) (zOkE_cons (ok_tn_kindOf X) (by decide) (zOkE_nil X 2)))) (by
  intro args g o h
  obtain ⟨ar, fi, m1, m2, m3, m4, m5⟩ := g
  unfold S_tn_canBeginSign P_tn_canBeginSign at h
  split at h
  · refine zb_el h (fun hI0 k0 => ?_) (fun _ h10 => ?_)
    · have h2 := Option.some.inj k0
      have hG := congrArg Prod.fst h2
      have ho := congrArg Prod.snd h2
      dsimp only at hG ho
      subst ho
      try simp only [Bool.and_eq_true] at hI0
      obtain ⟨j0, j1⟩ := hI0
      have e0 := Nat.eq_of_beq_eq_true j0
      subst e0
      have e9 : m4 = 1 := Nat.eq_of_beq_eq_true j1
      subst e9
      exact zseg_ret (e_tn_canBeginSign hG)
    · cases h10
  · cases h)
def g_tn_put (x : Int32) (y : Int32) (z : Int32) (p0 : Nat → Int32) : Bool := bif decide (w_if_isPlace x y = 0) then true else zin ((12 * y) + x) 96
def a0_tn_put (x : Int32) (y : Int32) (z : Int32) (p0 : Nat → Int32) : Nat → Int32 := (bif decide (w_if_isPlace x y = 0) then p0 else (zup p0 (((12 * y) + x).toNatClampNeg) z))
def P_tn_put (G : Int32 → Int32 → Int32 → (Nat → Int32) → Bool) (A0 : Int32 → Int32 → Int32 → (Nat → Int32) → Nat → Int32) : zSp := fun as g => match as with
  | [.ref a, .int x, .int y, .int z] => bif Nat.beq a 42 && Nat.beq g.2.2.2.2.2.1 1 then some (G x y z (g.1 43), (none, ((zup g.1 43 (A0 x y z (g.1 43))), g.2.1, g.2.2))) else none
  | _ => none
abbrev S_tn_put : zSp := P_tn_put g_tn_put a0_tn_put
set_option maxRecDepth 10000 in
theorem t_tn_put {X : Nat × (Nat → Int32)} {ar fi : Nat → Nat → Int32} {m1 m2 m3 m5 : Nat} {x y z : Int32} {W_if_isPlace : Int32 → Int32 → Int32} : zseg X zFT (zEx 139 (P_if_isPlace W_if_isPlace) zE0) zc_106 (fun _ => false) 400 0 [.ref 42, .int x, .int y, .int z] [] (ar, fi, (m1, m2, m3, 1, m5)) = (
  bif decide (W_if_isPlace x y = 0) then
   some (.inr (none, (ar, fi, (m1, m2, m3, 1, m5))))
  else
   zg (zin ((12 * y) + x) 96) (
   some (.inr (none, ((zup ar 43 (zup (ar 43) (((12 * y) + x).toNatClampNeg) z)), fi, (m1, m2, m3, 1, m5))))) : Option ((Nat × List Value × List Value × zH2) ⊕ zO2)) := by with_unfolding_all rfl
set_option maxRecDepth 10000 in
theorem e_tn_put {X : Nat × (Nat → Int32)} {ar fi : Nat → Nat → Int32} {m1 m2 m3 m5 : Nat} {x y z : Int32} (hG : g_tn_put x y z (ar 43) = true) : zseg X zFT (zEx 139 S_if_isPlace zE0) zc_106 (fun _ => false) 400 0 [.ref 42, .int x, .int y, .int z] [] (ar, fi, (m1, m2, m3, 1, m5)) = some (.inr (none, ((zup ar 43 (a0_tn_put x y z (ar 43))), fi, (m1, m2, m3, 1, m5)))) := by
  rw [t_tn_put]
  unfold g_tn_put at hG
  unfold a0_tn_put
  cases hc1 : (decide (w_if_isPlace x y = 0)) with
  | true =>
    try simp only [hc1, cond_true, cond_false] at hG ⊢
    all_goals try simp only [Bool.and_eq_true, Bool.true_and, Bool.and_true] at hG
    all_goals try simp only [hG, zg, cond_true, and_self]
    all_goals first | rfl | (refine congrArg some (congrArg Sum.inr (Prod.ext rfl (Prod.ext ?_ (Prod.ext ?_ rfl)))) <;> first | rfl | (funext b; simp only [zup]; (repeat' split) <;> first | rfl | omega | (subst_vars; rfl) | (subst_vars; funext k; simp only [zup]; (repeat' split) <;> first | rfl | omega | (subst_vars; rfl) | (simp_all; done))))
  | false =>
    try simp only [hc1, cond_true, cond_false] at hG ⊢
    all_goals try simp only [Bool.and_eq_true, Bool.true_and, Bool.and_true] at hG
    all_goals try simp only [hG, zg, cond_true, and_self]
    all_goals first | rfl | (refine congrArg some (congrArg Sum.inr (Prod.ext rfl (Prod.ext ?_ (Prod.ext ?_ rfl)))) <;> first | rfl | (funext b; simp only [zup]; (repeat' split) <;> first | rfl | omega | (subst_vars; rfl) | (subst_vars; funext k; simp only [zup]; (repeat' split) <;> first | rfl | omega | (subst_vars; rfl) | (simp_all; done))))
theorem ok_tn_put (X : Nat × (Nat → Int32)) : zOkS X 106 S_tn_put 3 := zOkS_new (zOkE_cons (ok_if_isPlace X) (by decide) (zOkE_nil X 2)) (by
  intro args g o h
  obtain ⟨ar, fi, m1, m2, m3, m4, m5⟩ := g
  unfold S_tn_put P_tn_put at h
  split at h
  · refine zb_el h (fun hI0 k0 => ?_) (fun _ h10 => ?_)
    · have h2 := Option.some.inj k0
      have hG := congrArg Prod.fst h2
      have ho := congrArg Prod.snd h2
      dsimp only at hG ho
      subst ho
      try simp only [Bool.and_eq_true] at hI0
      obtain ⟨j0, j1⟩ := hI0
      have e0 := Nat.eq_of_beq_eq_true j0
      subst e0
      have e9 : m4 = 1 := Nat.eq_of_beq_eq_true j1
      subst e9
      exact zseg_ret (e_tn_put hG)
    · cases h10
  · cases h)
def w_md_beside (x : Int32) (y : Int32) : Int32 := (bif !decide (y = 1) then (bif !decide (y = 3) then (bif !decide (y = 2) then (bif !decide (y = 0) then (bif decide (w_md_isSpot ((x - x / 12 * 12) + 0) ((x / 12) + 0) = 0) then (-1) else (12 * ((x / 12) + 0)) + ((x - x / 12 * 12) + 0)) else (bif decide (w_md_isSpot ((x - x / 12 * 12) + 0) ((x / 12) + (-1)) = 0) then (-1) else (12 * ((x / 12) + (-1))) + ((x - x / 12 * 12) + 0))) else (bif decide (w_md_isSpot ((x - x / 12 * 12) + 0) ((x / 12) + 1) = 0) then (-1) else (12 * ((x / 12) + 1)) + ((x - x / 12 * 12) + 0))) else (bif !decide (y = 2) then (bif !decide (y = 0) then (bif decide (w_md_isSpot ((x - x / 12 * 12) + (-1)) ((x / 12) + 0) = 0) then (-1) else (12 * ((x / 12) + 0)) + ((x - x / 12 * 12) + (-1))) else (bif decide (w_md_isSpot ((x - x / 12 * 12) + (-1)) ((x / 12) + (-1)) = 0) then (-1) else (12 * ((x / 12) + (-1))) + ((x - x / 12 * 12) + (-1)))) else (bif decide (w_md_isSpot ((x - x / 12 * 12) + (-1)) ((x / 12) + 1) = 0) then (-1) else (12 * ((x / 12) + 1)) + ((x - x / 12 * 12) + (-1))))) else (bif !decide (y = 2) then (bif !decide (y = 0) then (bif decide (w_md_isSpot ((x - x / 12 * 12) + 1) ((x / 12) + 0) = 0) then (-1) else (12 * ((x / 12) + 0)) + ((x - x / 12 * 12) + 1)) else (bif decide (w_md_isSpot ((x - x / 12 * 12) + 1) ((x / 12) + (-1)) = 0) then (-1) else (12 * ((x / 12) + (-1))) + ((x - x / 12 * 12) + 1))) else (bif decide (w_md_isSpot ((x - x / 12 * 12) + 1) ((x / 12) + 1) = 0) then (-1) else (12 * ((x / 12) + 1)) + ((x - x / 12 * 12) + 1))))
def P_md_beside (W : Int32 → Int32 → Int32) : zSp := fun as g => match as with
  | [.int x, .int y] => some (true, (some (.int (W x y)), (g.1, g.2.1, g.2.2)))
  | _ => none
abbrev S_md_beside : zSp := P_md_beside w_md_beside
set_option maxRecDepth 10000 in
theorem t_md_beside {X : Nat × (Nat → Int32)} {ar fi : Nat → Nat → Int32} {m1 m2 m3 m4 m5 : Nat} {x y : Int32} {W_md_isSpot : Int32 → Int32 → Int32} : zseg X zFT (zEx 150 (P_md_isSpot W_md_isSpot) zE0) zc_151 (fun _ => false) 400 0 [.int x, .int y] [] (ar, fi, (m1, m2, m3, m4, m5)) = (
  bif !decide (y = 1) then
   bif !decide (y = 3) then
    bif !decide (y = 2) then
     bif !decide (y = 0) then
      bif decide (W_md_isSpot ((x - x / 12 * 12) + 0) ((x / 12) + 0) = 0) then
       some (.inr (some (.int (-1)), (ar, fi, (m1, m2, m3, m4, m5))))
      else
       some (.inr (some (.int ((12 * ((x / 12) + 0)) + ((x - x / 12 * 12) + 0))), (ar, fi, (m1, m2, m3, m4, m5))))
     else
      bif decide (W_md_isSpot ((x - x / 12 * 12) + 0) ((x / 12) + (-1)) = 0) then
       some (.inr (some (.int (-1)), (ar, fi, (m1, m2, m3, m4, m5))))
      else
       some (.inr (some (.int ((12 * ((x / 12) + (-1))) + ((x - x / 12 * 12) + 0))), (ar, fi, (m1, m2, m3, m4, m5))))
    else
     bif decide (W_md_isSpot ((x - x / 12 * 12) + 0) ((x / 12) + 1) = 0) then
      some (.inr (some (.int (-1)), (ar, fi, (m1, m2, m3, m4, m5))))
     else
      some (.inr (some (.int ((12 * ((x / 12) + 1)) + ((x - x / 12 * 12) + 0))), (ar, fi, (m1, m2, m3, m4, m5))))
   else
    bif !decide (y = 2) then
     bif !decide (y = 0) then
      bif decide (W_md_isSpot ((x - x / 12 * 12) + (-1)) ((x / 12) + 0) = 0) then
       some (.inr (some (.int (-1)), (ar, fi, (m1, m2, m3, m4, m5))))
      else
       some (.inr (some (.int ((12 * ((x / 12) + 0)) + ((x - x / 12 * 12) + (-1)))), (ar, fi, (m1, m2, m3, m4, m5))))
     else
      bif decide (W_md_isSpot ((x - x / 12 * 12) + (-1)) ((x / 12) + (-1)) = 0) then
       some (.inr (some (.int (-1)), (ar, fi, (m1, m2, m3, m4, m5))))
      else
       some (.inr (some (.int ((12 * ((x / 12) + (-1))) + ((x - x / 12 * 12) + (-1)))), (ar, fi, (m1, m2, m3, m4, m5))))
    else
     bif decide (W_md_isSpot ((x - x / 12 * 12) + (-1)) ((x / 12) + 1) = 0) then
      some (.inr (some (.int (-1)), (ar, fi, (m1, m2, m3, m4, m5))))
     else
      some (.inr (some (.int ((12 * ((x / 12) + 1)) + ((x - x / 12 * 12) + (-1)))), (ar, fi, (m1, m2, m3, m4, m5))))
  else
   bif !decide (y = 2) then
    bif !decide (y = 0) then
     bif decide (W_md_isSpot ((x - x / 12 * 12) + 1) ((x / 12) + 0) = 0) then
      some (.inr (some (.int (-1)), (ar, fi, (m1, m2, m3, m4, m5))))
     else
      some (.inr (some (.int ((12 * ((x / 12) + 0)) + ((x - x / 12 * 12) + 1))), (ar, fi, (m1, m2, m3, m4, m5))))
    else
     bif decide (W_md_isSpot ((x - x / 12 * 12) + 1) ((x / 12) + (-1)) = 0) then
      some (.inr (some (.int (-1)), (ar, fi, (m1, m2, m3, m4, m5))))
     else
      some (.inr (some (.int ((12 * ((x / 12) + (-1))) + ((x - x / 12 * 12) + 1))), (ar, fi, (m1, m2, m3, m4, m5))))
   else
    bif decide (W_md_isSpot ((x - x / 12 * 12) + 1) ((x / 12) + 1) = 0) then
     some (.inr (some (.int (-1)), (ar, fi, (m1, m2, m3, m4, m5))))
    else
     some (.inr (some (.int ((12 * ((x / 12) + 1)) + ((x - x / 12 * 12) + 1))), (ar, fi, (m1, m2, m3, m4, m5)))) : Option ((Nat × List Value × List Value × zH2) ⊕ zO2)) := rfl
set_option maxRecDepth 10000 in
theorem e_md_beside {X : Nat × (Nat → Int32)} {ar fi : Nat → Nat → Int32} {m1 m2 m3 m4 m5 : Nat} {x y : Int32} : zseg X zFT (zEx 150 S_md_isSpot zE0) zc_151 (fun _ => false) 400 0 [.int x, .int y] [] (ar, fi, (m1, m2, m3, m4, m5)) = some (.inr (some (.int (w_md_beside x y)), (ar, fi, (m1, m2, m3, m4, m5)))) := by
  rw [t_md_beside]
  unfold w_md_beside
  simp only [zm_s, zm_r, zm_p, zm_i, zm_e]
theorem ok_md_beside (X : Nat × (Nat → Int32)) : zOkS X 151 S_md_beside 3 := zOkS_new (zOkE_cons (ok_md_isSpot X) (by decide) (zOkE_nil X 2)) (by
  intro args g o h
  obtain ⟨ar, fi, m1, m2, m3, m4, m5⟩ := g
  unfold S_md_beside P_md_beside at h
  split at h
  · have h2 := Option.some.inj h
    have hG := congrArg Prod.fst h2
    have ho := congrArg Prod.snd h2
    dsimp only at hG ho
    subst ho
    exact zseg_ret (e_md_beside)
  · cases h)
def g_md_isWood (x : Int32) (p0 : Nat → Int32) : Bool := (g_md_isPlace x) && (bif decide (w_md_isPlace x = 0) then true else zin x 96)
def w_md_isWood (x : Int32) (p0 : Nat → Int32) : Int32 := (bif decide (w_md_isPlace x = 0) then 0 else (bif !decide (p0 (x.toNatClampNeg) = 1) then 0 else 1))
def P_md_isWood (G : Int32 → (Nat → Int32) → Bool) (W : Int32 → (Nat → Int32) → Int32) : zSp := fun as g => match as with
  | [.ref a, .int x] => bif Nat.beq a 64 then some (G x (g.1 68), (some (.int (W x (g.1 68))), (g.1, g.2.1, g.2.2))) else none
  | _ => none
abbrev S_md_isWood : zSp := P_md_isWood g_md_isWood w_md_isWood
set_option maxRecDepth 10000 in
theorem t_md_isWood {X : Nat × (Nat → Int32)} {ar fi : Nat → Nat → Int32} {m1 m2 m3 m4 m5 : Nat} {x : Int32} {G_md_isPlace : Int32 → Bool} {W_md_isPlace : Int32 → Int32} : zseg X zFT (zEx 149 (P_md_isPlace G_md_isPlace W_md_isPlace) zE0) zc_152 (fun _ => false) 400 0 [.ref 64, .int x] [] (ar, fi, (m1, m2, m3, m4, m5)) = (
  zg (G_md_isPlace x) (
  bif decide (W_md_isPlace x = 0) then
   some (.inr (some (.int 0), (ar, fi, (m1, m2, m3, m4, m5))))
  else
   zg (zin x 96) (
   bif !decide ((ar 68) (x.toNatClampNeg) = 1) then
    some (.inr (some (.int 0), (ar, fi, (m1, m2, m3, m4, m5))))
   else
    some (.inr (some (.int 1), (ar, fi, (m1, m2, m3, m4, m5)))))) : Option ((Nat × List Value × List Value × zH2) ⊕ zO2)) := by with_unfolding_all rfl
set_option maxRecDepth 10000 in
theorem e_md_isWood {X : Nat × (Nat → Int32)} {ar fi : Nat → Nat → Int32} {m1 m2 m3 m4 m5 : Nat} {x : Int32} (hG : g_md_isWood x (ar 68) = true) : zseg X zFT (zEx 149 S_md_isPlace zE0) zc_152 (fun _ => false) 400 0 [.ref 64, .int x] [] (ar, fi, (m1, m2, m3, m4, m5)) = some (.inr (some (.int (w_md_isWood x (ar 68))), (ar, fi, (m1, m2, m3, m4, m5)))) := by
  rw [t_md_isWood]
  unfold g_md_isWood at hG
  unfold w_md_isWood
  cases hc1 : (decide (w_md_isPlace x = 0)) with
  | true =>
    try simp only [hc1, cond_true, cond_false] at hG ⊢
    all_goals try simp only [Bool.and_eq_true, Bool.true_and, Bool.and_true] at hG
    all_goals try simp only [hG, zg, cond_true, and_self]
    all_goals first | rfl | (refine congrArg some (congrArg Sum.inr (Prod.ext rfl (Prod.ext ?_ (Prod.ext ?_ rfl)))) <;> first | rfl | (funext b; simp only [zup]; (repeat' split) <;> first | rfl | omega | (subst_vars; rfl) | (subst_vars; funext k; simp only [zup]; (repeat' split) <;> first | rfl | omega | (subst_vars; rfl) | (simp_all; done))))
  | false =>
    try simp only [hc1, cond_true, cond_false] at hG ⊢
    cases hc2 : (!decide ((ar 68) (x.toNatClampNeg) = 1)) with
    | true =>
      try simp only [hc2, cond_true, cond_false] at hG ⊢
      all_goals try simp only [Bool.and_eq_true, Bool.true_and, Bool.and_true] at hG
      all_goals try simp only [hG, zg, cond_true, and_self]
      all_goals first | rfl | (refine congrArg some (congrArg Sum.inr (Prod.ext rfl (Prod.ext ?_ (Prod.ext ?_ rfl)))) <;> first | rfl | (funext b; simp only [zup]; (repeat' split) <;> first | rfl | omega | (subst_vars; rfl) | (subst_vars; funext k; simp only [zup]; (repeat' split) <;> first | rfl | omega | (subst_vars; rfl) | (simp_all; done))))
    | false =>
      try simp only [hc2, cond_true, cond_false] at hG ⊢
      all_goals try simp only [Bool.and_eq_true, Bool.true_and, Bool.and_true] at hG
      all_goals try simp only [hG, zg, cond_true, and_self]
      all_goals first | rfl | (refine congrArg some (congrArg Sum.inr (Prod.ext rfl (Prod.ext ?_ (Prod.ext ?_ rfl)))) <;> first | rfl | (funext b; simp only [zup]; (repeat' split) <;> first | rfl | omega | (subst_vars; rfl) | (subst_vars; funext k; simp only [zup]; (repeat' split) <;> first | rfl | omega | (subst_vars; rfl) | (simp_all; done))))
theorem ok_md_isWood (X : Nat × (Nat → Int32)) : zOkS X 152 S_md_isWood 3 := zOkS_new (zOkE_cons (ok_md_isPlace X) (by decide) (zOkE_nil X 2)) (by
  intro args g o h
  obtain ⟨ar, fi, m1, m2, m3, m4, m5⟩ := g
  unfold S_md_isWood P_md_isWood at h
  split at h
  · refine zb_el h (fun hI0 k0 => ?_) (fun _ h10 => ?_)
    · have h2 := Option.some.inj k0
      have hG := congrArg Prod.fst h2
      have ho := congrArg Prod.snd h2
      dsimp only at hG ho
      subst ho
      try simp only [Bool.and_eq_true] at hI0
      have j0 := hI0
      have e0 := Nat.eq_of_beq_eq_true j0
      subst e0
      exact zseg_ret (e_md_isWood hG)
    · cases h10
  · cases h)
