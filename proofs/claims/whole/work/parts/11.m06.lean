def g_md_liesAt (x : Int32) (y : Int32) (p0 : Nat → Int32) : Bool := (g_md_isThing x p0) && (bif decide (w_md_isThing x p0 = 0) then true else (zin (288 + x) 315) && (bif !decide (p0 ((288 + x).toNatClampNeg) = 0) then true else zin (216 + x) 315))
def w_md_liesAt (x : Int32) (y : Int32) (p0 : Nat → Int32) : Int32 := (bif decide (w_md_isThing x p0 = 0) then 0 else (bif !decide (p0 ((288 + x).toNatClampNeg) = 0) then 0 else (bif !decide (p0 ((216 + x).toNatClampNeg) = y) then 0 else 1)))
def P_md_liesAt (G : Int32 → Int32 → (Nat → Int32) → Bool) (W : Int32 → Int32 → (Nat → Int32) → Int32) : zSp := fun as g => match as with
  | [.ref a, .int x, .int y] => bif Nat.beq a 64 then some (G x y (g.1 65), (some (.int (W x y (g.1 65))), (g.1, g.2.1, g.2.2))) else none
  | _ => none
abbrev S_md_liesAt : zSp := P_md_liesAt g_md_liesAt w_md_liesAt
set_option maxRecDepth 10000 in
theorem t_md_liesAt {X : Nat × (Nat → Int32)} {ar fi : Nat → Nat → Int32} {m1 m2 m3 m4 m5 : Nat} {x y : Int32} {G_md_isThing : Int32 → (Nat → Int32) → Bool} {W_md_isThing : Int32 → (Nat → Int32) → Int32} : zseg X zFT (zEx 153 (P_md_isThing G_md_isThing W_md_isThing) zE0) zc_154 (fun _ => false) 400 0 [.ref 64, .int x, .int y] [] (ar, fi, (m1, m2, m3, m4, m5)) = (
  zg (G_md_isThing x (ar 65)) (
  bif decide (W_md_isThing x (ar 65) = 0) then
   some (.inr (some (.int 0), (ar, fi, (m1, m2, m3, m4, m5))))
  else
   zg (zin (288 + x) 315) (
   bif !decide ((ar 65) ((288 + x).toNatClampNeg) = 0) then
    some (.inr (some (.int 0), (ar, fi, (m1, m2, m3, m4, m5))))
   else
    zg (zin (216 + x) 315) (
    bif !decide ((ar 65) ((216 + x).toNatClampNeg) = y) then
     some (.inr (some (.int 0), (ar, fi, (m1, m2, m3, m4, m5))))
    else
     some (.inr (some (.int 1), (ar, fi, (m1, m2, m3, m4, m5))))))) : Option ((Nat × List Value × List Value × zH2) ⊕ zO2)) := by with_unfolding_all rfl
set_option maxRecDepth 10000 in
theorem e_md_liesAt {X : Nat × (Nat → Int32)} {ar fi : Nat → Nat → Int32} {m1 m2 m3 m4 m5 : Nat} {x y : Int32} (hG : g_md_liesAt x y (ar 65) = true) : zseg X zFT (zEx 153 S_md_isThing zE0) zc_154 (fun _ => false) 400 0 [.ref 64, .int x, .int y] [] (ar, fi, (m1, m2, m3, m4, m5)) = some (.inr (some (.int (w_md_liesAt x y (ar 65))), (ar, fi, (m1, m2, m3, m4, m5)))) := by
  rw [t_md_liesAt]
  unfold g_md_liesAt at hG
  unfold w_md_liesAt
  cases hc1 : (decide (w_md_isThing x (ar 65) = 0)) with
  | true =>
    try simp only [hc1, cond_true, cond_false] at hG ⊢
    all_goals try simp only [Bool.and_eq_true, Bool.true_and, Bool.and_true] at hG
    all_goals try simp only [hG, zg, cond_true, and_self]
    all_goals first | rfl | (refine congrArg some (congrArg Sum.inr (Prod.ext rfl (Prod.ext ?_ (Prod.ext ?_ rfl)))) <;> first | rfl | (funext b; simp only [zup]; (repeat' split) <;> first | rfl | omega | (subst_vars; rfl) | (subst_vars; funext k; simp only [zup]; (repeat' split) <;> first | rfl | omega | (subst_vars; rfl) | (simp_all; done))))
  | false =>
    try simp only [hc1, cond_true, cond_false] at hG ⊢
    cases hc2 : (!decide ((ar 65) ((288 + x).toNatClampNeg) = 0)) with
    | true =>
      try simp only [hc2, cond_true, cond_false] at hG ⊢
      all_goals try simp only [Bool.and_eq_true, Bool.true_and, Bool.and_true] at hG
      all_goals try simp only [hG, zg, cond_true, and_self]
      all_goals first | rfl | (refine congrArg some (congrArg Sum.inr (Prod.ext rfl (Prod.ext ?_ (Prod.ext ?_ rfl)))) <;> first | rfl | (funext b; simp only [zup]; (repeat' split) <;> first | rfl | omega | (subst_vars; rfl) | (subst_vars; funext k; simp only [zup]; (repeat' split) <;> first | rfl | omega | (subst_vars; rfl) | (simp_all; done))))
    | false =>
      try simp only [hc2, cond_true, cond_false] at hG ⊢
      cases hc3 : (!decide ((ar 65) ((216 + x).toNatClampNeg) = y)) with
      | true =>
        try simp only [hc3, cond_true, cond_false] at hG ⊢
        all_goals try simp only [Bool.and_eq_true, Bool.true_and, Bool.and_true] at hG
        all_goals try simp only [hG, zg, cond_true, and_self]
        all_goals first | rfl | (refine congrArg some (congrArg Sum.inr (Prod.ext rfl (Prod.ext ?_ (Prod.ext ?_ rfl)))) <;> first | rfl | (funext b; simp only [zup]; (repeat' split) <;> first | rfl | omega | (subst_vars; rfl) | (subst_vars; funext k; simp only [zup]; (repeat' split) <;> first | rfl | omega | (subst_vars; rfl) | (simp_all; done))))
      | false =>
        try simp only [hc3, cond_true, cond_false] at hG ⊢
        all_goals try simp only [Bool.and_eq_true, Bool.true_and, Bool.and_true] at hG
        all_goals try simp only [hG, zg, cond_true, and_self]
        all_goals first | rfl | (refine congrArg some (congrArg Sum.inr (Prod.ext rfl (Prod.ext ?_ (Prod.ext ?_ rfl)))) <;> first | rfl | (funext b; simp only [zup]; (repeat' split) <;> first | rfl | omega | (subst_vars; rfl) | (subst_vars; funext k; simp only [zup]; (repeat' split) <;> first | rfl | omega | (subst_vars; rfl) | (simp_all; done))))
theorem ok_md_liesAt (X : Nat × (Nat → Int32)) : zOkS X 154 S_md_liesAt 3 := zOkS_new (zOkE_cons (ok_md_isThing X) (by decide) (zOkE_nil X 2)) (by
  intro args g o h
  obtain ⟨ar, fi, m1, m2, m3, m4, m5⟩ := g
  unfold S_md_liesAt P_md_liesAt at h
  split at h
  · refine zb_el h (fun hI0 k0 => ?_) (fun _ h10 => ?_)
    · have h2 := Option.some.inj k0
      have hG := congrArg Prod.fst h2
      have ho := congrArg Prod.snd h2
      dsimp only at hG ho
      subst ho
      try simp only [Bool.and_eq_true] at hI0
      have j0 := hI0
      have e0 := Nat.eq_of_beq_eq_true j0
      subst e0
      exact zseg_ret (e_md_liesAt hG)
    · cases h10
  · cases h)
def g_md_thingIs (x : Int32) (y : Int32) (p0 : Nat → Int32) : Bool := (g_md_isThing x p0) && (bif !decide (w_md_isThing x p0 = 0) then (zin (240 + x) 315) && ((zin (264 + x) 315) && (bif decide (y = 0) then zin (216 + x) 315 else bif decide (y = 1) then true else bif decide (y = 2) then true else bif decide (y = 3) then zin (288 + x) 315 else bif decide (y = 4) then bif decide (p0 ((264 + x).toNatClampNeg) < p0 ((240 + x).toNatClampNeg)) then !decide ((p0 ((240 + x).toNatClampNeg)) = 0) else true else true)) else true)
def w_md_thingIs (x : Int32) (y : Int32) (p0 : Nat → Int32) : Int32 := (bif !decide (w_md_isThing x p0 = 0) then (bif decide (y = 0) then p0 ((216 + x).toNatClampNeg) else (bif decide (y = 1) then p0 ((240 + x).toNatClampNeg) else (bif decide (y = 2) then p0 ((264 + x).toNatClampNeg) else (bif decide (y = 3) then p0 ((288 + x).toNatClampNeg) else (bif decide (y = 4) then (bif decide (p0 ((264 + x).toNatClampNeg) < p0 ((240 + x).toNatClampNeg)) then ((p0 ((264 + x).toNatClampNeg)) * (p0 ((264 + x).toNatClampNeg))) / (p0 ((240 + x).toNatClampNeg)) else p0 ((240 + x).toNatClampNeg)) else (-1)))))) else (-1))
def P_md_thingIs (G : Int32 → Int32 → (Nat → Int32) → Bool) (W : Int32 → Int32 → (Nat → Int32) → Int32) : zSp := fun as g => match as with
  | [.ref a, .int x, .int y] => bif Nat.beq a 64 then some (G x y (g.1 65), (some (.int (W x y (g.1 65))), (g.1, g.2.1, g.2.2))) else none
  | _ => none
abbrev S_md_thingIs : zSp := P_md_thingIs g_md_thingIs w_md_thingIs
set_option maxRecDepth 10000 in
theorem t_md_thingIs {X : Nat × (Nat → Int32)} {ar fi : Nat → Nat → Int32} {m1 m2 m3 m4 m5 : Nat} {x y : Int32} {G_md_isThing : Int32 → (Nat → Int32) → Bool} {W_md_isThing : Int32 → (Nat → Int32) → Int32} : zseg X zFT (zEx 153 (P_md_isThing G_md_isThing W_md_isThing) zE0) zc_214 (fun _ => false) 400 0 [.ref 64, .int x, .int y] [] (ar, fi, (m1, m2, m3, m4, m5)) = (
  zg (G_md_isThing x (ar 65)) (
  bif !decide (W_md_isThing x (ar 65) = 0) then
   zg (zin (240 + x) 315) (
   zg (zin (264 + x) 315) (
   bif decide (y = 0) then
    zg (zin (216 + x) 315) (
    some (.inr (some (.int ((ar 65) ((216 + x).toNatClampNeg))), (ar, fi, (m1, m2, m3, m4, m5)))))
   else
    bif decide (y = 1) then
     some (.inr (some (.int ((ar 65) ((240 + x).toNatClampNeg))), (ar, fi, (m1, m2, m3, m4, m5))))
    else
     bif decide (y = 2) then
      some (.inr (some (.int ((ar 65) ((264 + x).toNatClampNeg))), (ar, fi, (m1, m2, m3, m4, m5))))
     else
      bif decide (y = 3) then
       zg (zin (288 + x) 315) (
       some (.inr (some (.int ((ar 65) ((288 + x).toNatClampNeg))), (ar, fi, (m1, m2, m3, m4, m5)))))
      else
       bif decide (y = 4) then
        bif decide ((ar 65) ((264 + x).toNatClampNeg) < (ar 65) ((240 + x).toNatClampNeg)) then
         zg (!decide (((ar 65) ((240 + x).toNatClampNeg)) = 0)) (
         some (.inr (some (.int ((((ar 65) ((264 + x).toNatClampNeg)) * ((ar 65) ((264 + x).toNatClampNeg))) / ((ar 65) ((240 + x).toNatClampNeg)))), (ar, fi, (m1, m2, m3, m4, m5)))))
        else
         some (.inr (some (.int ((ar 65) ((240 + x).toNatClampNeg))), (ar, fi, (m1, m2, m3, m4, m5))))
       else
        some (.inr (some (.int (-1)), (ar, fi, (m1, m2, m3, m4, m5))))))
  else
   some (.inr (some (.int (-1)), (ar, fi, (m1, m2, m3, m4, m5))))) : Option ((Nat × List Value × List Value × zH2) ⊕ zO2)) := rfl
set_option maxRecDepth 10000 in
theorem e_md_thingIs {X : Nat × (Nat → Int32)} {ar fi : Nat → Nat → Int32} {m1 m2 m3 m4 m5 : Nat} {x y : Int32} (hG : g_md_thingIs x y (ar 65) = true) : zseg X zFT (zEx 153 S_md_isThing zE0) zc_214 (fun _ => false) 400 0 [.ref 64, .int x, .int y] [] (ar, fi, (m1, m2, m3, m4, m5)) = some (.inr (some (.int (w_md_thingIs x y (ar 65))), (ar, fi, (m1, m2, m3, m4, m5)))) := by
  rw [t_md_thingIs]
  unfold g_md_thingIs at hG
  unfold w_md_thingIs
  cases hc1 : (!decide (w_md_isThing x (ar 65) = 0)) with
  | true =>
    try simp only [hc1, cond_true, cond_false] at hG ⊢
    cases hc2 : (decide (y = 0)) with
    | true =>
      try simp only [hc2, cond_true, cond_false] at hG ⊢
      all_goals try simp only [Bool.and_eq_true, Bool.true_and, Bool.and_true] at hG
      all_goals try simp only [hG, zg, cond_true, and_self]
      all_goals first | rfl | (refine congrArg some (congrArg Sum.inr (Prod.ext rfl (Prod.ext ?_ (Prod.ext ?_ rfl)))) <;> first | rfl | (funext b; simp only [zup]; (repeat' split) <;> first | rfl | omega | (subst_vars; rfl) | (subst_vars; funext k; simp only [zup]; (repeat' split) <;> first | rfl | omega | (subst_vars; rfl) | (simp_all; done))))
    | false =>
      try simp only [hc2, cond_true, cond_false] at hG ⊢
      cases hc3 : (decide (y = 1)) with
      | true =>
        try simp only [hc3, cond_true, cond_false] at hG ⊢
        all_goals try simp only [Bool.and_eq_true, Bool.true_and, Bool.and_true] at hG
        all_goals try simp only [hG, zg, cond_true, and_self]
        all_goals first | rfl | (refine congrArg some (congrArg Sum.inr (Prod.ext rfl (Prod.ext ?_ (Prod.ext ?_ rfl)))) <;> first | rfl | (funext b; simp only [zup]; (repeat' split) <;> first | rfl | omega | (subst_vars; rfl) | (subst_vars; funext k; simp only [zup]; (repeat' split) <;> first | rfl | omega | (subst_vars; rfl) | (simp_all; done))))
      | false =>
        try simp only [hc3, cond_true, cond_false] at hG ⊢
        cases hc4 : (decide (y = 2)) with
        | true =>
          try simp only [hc4, cond_true, cond_false] at hG ⊢
          all_goals try simp only [Bool.and_eq_true, Bool.true_and, Bool.and_true] at hG
          all_goals try simp only [hG, zg, cond_true, and_self]
          all_goals first | rfl | (refine congrArg some (congrArg Sum.inr (Prod.ext rfl (Prod.ext ?_ (Prod.ext ?_ rfl)))) <;> first | rfl | (funext b; simp only [zup]; (repeat' split) <;> first | rfl | omega | (subst_vars; rfl) | (subst_vars; funext k; simp only [zup]; (repeat' split) <;> first | rfl | omega | (subst_vars; rfl) | (simp_all; done))))
        | false =>
          try simp only [hc4, cond_true, cond_false] at hG ⊢
          cases hc5 : (decide (y = 3)) with
          | true =>
            try simp only [hc5, cond_true, cond_false] at hG ⊢
            all_goals try simp only [Bool.and_eq_true, Bool.true_and, Bool.and_true] at hG
            all_goals try simp only [hG, zg, cond_true, and_self]
            all_goals first | rfl | (refine congrArg some (congrArg Sum.inr (Prod.ext rfl (Prod.ext ?_ (Prod.ext ?_ rfl)))) <;> first | rfl | (funext b; simp only [zup]; (repeat' split) <;> first | rfl | omega | (subst_vars; rfl) | (subst_vars; funext k; simp only [zup]; (repeat' split) <;> first | rfl | omega | (subst_vars; rfl) | (simp_all; done))))
          | false =>
            try simp only [hc5, cond_true, cond_false] at hG ⊢
            cases hc6 : (decide (y = 4)) with
            | true =>
              try simp only [hc6, cond_true, cond_false] at hG ⊢
              cases hc7 : (decide ((ar 65) ((264 + x).toNatClampNeg) < (ar 65) ((240 + x).toNatClampNeg))) with
              | true =>
                try simp only [hc7, cond_true, cond_false] at hG ⊢
                all_goals try simp only [Bool.and_eq_true, Bool.true_and, Bool.and_true] at hG
                all_goals try simp only [hG, zg, cond_true, and_self]
                all_goals first | rfl | (refine congrArg some (congrArg Sum.inr (Prod.ext rfl (Prod.ext ?_ (Prod.ext ?_ rfl)))) <;> first | rfl | (funext b; simp only [zup]; (repeat' split) <;> first | rfl | omega | (subst_vars; rfl) | (subst_vars; funext k; simp only [zup]; (repeat' split) <;> first | rfl | omega | (subst_vars; rfl) | (simp_all; done))))
              | false =>
                try simp only [hc7, cond_true, cond_false] at hG ⊢
                all_goals try simp only [Bool.and_eq_true, Bool.true_and, Bool.and_true] at hG
                all_goals try simp only [hG, zg, cond_true, and_self]
                all_goals first | rfl | (refine congrArg some (congrArg Sum.inr (Prod.ext rfl (Prod.ext ?_ (Prod.ext ?_ rfl)))) <;> first | rfl | (funext b; simp only [zup]; (repeat' split) <;> first | rfl | omega | (subst_vars; rfl) | (subst_vars; funext k; simp only [zup]; (repeat' split) <;> first | rfl | omega | (subst_vars; rfl) | (simp_all; done))))
            | false =>
              try simp only [hc6, cond_true, cond_false] at hG ⊢
              all_goals try simp only [Bool.and_eq_true, Bool.true_and, Bool.and_true] at hG
              all_goals try simp only [hG, zg, cond_true, and_self]
              all_goals first | rfl | (refine congrArg some (congrArg Sum.inr (Prod.ext rfl (Prod.ext ?_ (Prod.ext ?_ rfl)))) <;> first | rfl | (funext b; simp only [zup]; (repeat' split) <;> first | rfl | omega | (subst_vars; rfl) | (subst_vars; funext k; simp only [zup]; (repeat' split) <;> first | rfl | omega | (subst_vars; rfl) | (simp_all; done))))
  | false =>
    try simp only [hc1, cond_true, cond_false] at hG ⊢
    all_goals try simp only [Bool.and_eq_true, Bool.true_and, Bool.and_true] at hG
    all_goals try simp only [hG, zg, cond_true, and_self]
    all_goals first | rfl | (refine congrArg some (congrArg Sum.inr (Prod.ext rfl (Prod.ext ?_ (Prod.ext ?_ rfl)))) <;> first | rfl | (funext b; simp only [zup]; (repeat' split) <;> first | rfl | omega | (subst_vars; rfl) | (subst_vars; funext k; simp only [zup]; (repeat' split) <;> first | rfl | omega | (subst_vars; rfl) | (simp_all; done))))
theorem ok_md_thingIs (X : Nat × (Nat → Int32)) : zOkS X 214 S_md_thingIs 3 := zOkS_new (zOkE_cons (ok_md_isThing X) (by decide) (zOkE_nil X 2)) (by
  intro args g o h
  obtain ⟨ar, fi, m1, m2, m3, m4, m5⟩ := g
  unfold S_md_thingIs P_md_thingIs at h
  split at h
  · refine zb_el h (fun hI0 k0 => ?_) (fun _ h10 => ?_)
    · have h2 := Option.some.inj k0
      have hG := congrArg Prod.fst h2
      have ho := congrArg Prod.snd h2
      dsimp only at hG ho
      subst ho
      try simp only [Bool.and_eq_true] at hI0
      have j0 := hI0
      have e0 := Nat.eq_of_beq_eq_true j0
      subst e0
      exact zseg_ret (e_md_thingIs hG)
    · cases h10
  · cases h)
