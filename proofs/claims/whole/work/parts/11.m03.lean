def g_md_waitTop (p0 : Int32) (p1 : Nat → Int32) : Bool := bif !decide (p0 = 0) then zin ((p0) - 1) 260 else true
def w_md_waitTop (p0 : Int32) (p1 : Nat → Int32) : Int32 := (bif !decide (p0 = 0) then (p1 (((p0) - 1).toNatClampNeg)) / 1048576 else (-1))
def P_md_waitTop (G : Int32 → (Nat → Int32) → Bool) (W : Int32 → (Nat → Int32) → Int32) : zSp := fun as g => match as with
  | [.ref a] => bif Nat.beq a 64 then some (G (g.2.1 64 13) (g.1 72), (some (.int (W (g.2.1 64 13) (g.1 72))), (g.1, g.2.1, g.2.2))) else none
  | _ => none
abbrev S_md_waitTop : zSp := P_md_waitTop g_md_waitTop w_md_waitTop
set_option maxRecDepth 10000 in
theorem t_md_waitTop {X : Nat × (Nat → Int32)} {ar fi : Nat → Nat → Int32} {m1 m2 m3 m4 m5 : Nat} : zseg X zFT zE0 zc_165 (fun _ => false) 400 0 [.ref 64] [] (ar, fi, (m1, m2, m3, m4, m5)) = (
  bif !decide (fi 64 13 = 0) then
   zg (zin ((fi 64 13) - 1) 260) (
   some (.inr (some (.int (((ar 72) (((fi 64 13) - 1).toNatClampNeg)) / 1048576)), (ar, fi, (m1, m2, m3, m4, m5)))))
  else
   some (.inr (some (.int (-1)), (ar, fi, (m1, m2, m3, m4, m5)))) : Option ((Nat × List Value × List Value × zH2) ⊕ zO2)) := rfl
set_option maxRecDepth 10000 in
theorem e_md_waitTop {X : Nat × (Nat → Int32)} {ar fi : Nat → Nat → Int32} {m1 m2 m3 m4 m5 : Nat} (hG : g_md_waitTop (fi 64 13) (ar 72) = true) : zseg X zFT zE0 zc_165 (fun _ => false) 400 0 [.ref 64] [] (ar, fi, (m1, m2, m3, m4, m5)) = some (.inr (some (.int (w_md_waitTop (fi 64 13) (ar 72))), (ar, fi, (m1, m2, m3, m4, m5)))) := by
  rw [t_md_waitTop]
  unfold g_md_waitTop at hG
  unfold w_md_waitTop
  cases hc1 : (!decide (fi 64 13 = 0)) with
  | true =>
    try simp only [hc1, cond_true, cond_false] at hG ⊢
    all_goals try simp only [Bool.and_eq_true, Bool.true_and, Bool.and_true] at hG
    all_goals try simp only [hG, zg, cond_true, and_self]
    all_goals first | rfl | (refine congrArg some (congrArg Sum.inr (Prod.ext rfl (Prod.ext ?_ (Prod.ext ?_ rfl)))) <;> first | rfl | (funext b; simp only [zup]; (repeat' split) <;> first | rfl | omega | (subst_vars; rfl) | (subst_vars; funext k; simp only [zup]; (repeat' split) <;> first | rfl | omega | (subst_vars; rfl) | (simp_all; done))))
  | false =>
    try simp only [hc1, cond_true, cond_false] at hG ⊢
    all_goals try simp only [Bool.and_eq_true, Bool.true_and, Bool.and_true] at hG
    all_goals try simp only [hG, zg, cond_true, and_self]
    all_goals first | rfl | (refine congrArg some (congrArg Sum.inr (Prod.ext rfl (Prod.ext ?_ (Prod.ext ?_ rfl)))) <;> first | rfl | (funext b; simp only [zup]; (repeat' split) <;> first | rfl | omega | (subst_vars; rfl) | (subst_vars; funext k; simp only [zup]; (repeat' split) <;> first | rfl | omega | (subst_vars; rfl) | (simp_all; done))))
theorem ok_md_waitTop (X : Nat × (Nat → Int32)) : zOkS X 165 S_md_waitTop 1 := zOkS_new (zOkE_nil X 0) (by
  intro args g o h
  obtain ⟨ar, fi, m1, m2, m3, m4, m5⟩ := g
  unfold S_md_waitTop P_md_waitTop at h
  split at h
  · refine zb_el h (fun hI0 k0 => ?_) (fun _ h10 => ?_)
    · have h2 := Option.some.inj k0
      have hG := congrArg Prod.fst h2
      have ho := congrArg Prod.snd h2
      dsimp only at hG ho
      subst ho
      try simp only [Bool.and_eq_true] at hI0
      have j0 := hI0
      have e0 := Nat.eq_of_beq_eq_true j0
      subst e0
      exact zseg_ret (e_md_waitTop hG)
    · cases h10
  · cases h)
def w_md_factOf (x : Int32) : Int32 := (bif decide (x = 100) then 5 else (bif decide (x = 101) then (-1) else (bif decide (x = 102) then (-1) else (bif decide (x = 103) then 6 else (bif decide (x = 104) then (-1) else (bif decide (x = 105) then 4 else (bif decide (x = 106) then (-1) else (bif decide (x = 107) then (-1) else (bif decide (x = 108) then (-1) else (bif decide (x = 109) then 1 else (bif decide (x = 110) then 2 else (bif decide (x = 111) then (-1) else (bif decide (x = 112) then 0 else (bif decide (x = 113) then (-1) else (bif decide (x = 114) then (-1) else (bif decide (x = 115) then (-1) else (bif decide (x = 116) then 7 else (bif decide (x = 117) then (-1) else (bif decide (x = 118) then 3 else (bif decide (x = 119) then 8 else (-1)))))))))))))))))))))
def P_md_factOf (W : Int32 → Int32) : zSp := fun as g => match as with
  | [.int x] => some (true, (some (.int (W x)), (g.1, g.2.1, g.2.2)))
  | _ => none
abbrev S_md_factOf : zSp := P_md_factOf w_md_factOf
set_option maxRecDepth 10000 in
theorem t_md_factOf {X : Nat × (Nat → Int32)} {ar fi : Nat → Nat → Int32} {m1 m2 m3 m4 m5 : Nat} {x : Int32} : zseg X zFT zE0 zc_166 (fun _ => false) 400 0 [.int x] [] (ar, fi, (m1, m2, m3, m4, m5)) = (
  bif decide (x = 100) then
   some (.inr (some (.int 5), (ar, fi, (m1, m2, m3, m4, m5))))
  else
   bif decide (x = 101) then
    some (.inr (some (.int (-1)), (ar, fi, (m1, m2, m3, m4, m5))))
   else
    bif decide (x = 102) then
     some (.inr (some (.int (-1)), (ar, fi, (m1, m2, m3, m4, m5))))
    else
     bif decide (x = 103) then
      some (.inr (some (.int 6), (ar, fi, (m1, m2, m3, m4, m5))))
     else
      bif decide (x = 104) then
       some (.inr (some (.int (-1)), (ar, fi, (m1, m2, m3, m4, m5))))
      else
       bif decide (x = 105) then
        some (.inr (some (.int 4), (ar, fi, (m1, m2, m3, m4, m5))))
       else
        bif decide (x = 106) then
         some (.inr (some (.int (-1)), (ar, fi, (m1, m2, m3, m4, m5))))
        else
         bif decide (x = 107) then
          some (.inr (some (.int (-1)), (ar, fi, (m1, m2, m3, m4, m5))))
         else
          bif decide (x = 108) then
           some (.inr (some (.int (-1)), (ar, fi, (m1, m2, m3, m4, m5))))
          else
           bif decide (x = 109) then
            some (.inr (some (.int 1), (ar, fi, (m1, m2, m3, m4, m5))))
           else
            bif decide (x = 110) then
             some (.inr (some (.int 2), (ar, fi, (m1, m2, m3, m4, m5))))
            else
             bif decide (x = 111) then
              some (.inr (some (.int (-1)), (ar, fi, (m1, m2, m3, m4, m5))))
             else
              bif decide (x = 112) then
               some (.inr (some (.int 0), (ar, fi, (m1, m2, m3, m4, m5))))
              else
               bif decide (x = 113) then
                some (.inr (some (.int (-1)), (ar, fi, (m1, m2, m3, m4, m5))))
               else
                bif decide (x = 114) then
                 some (.inr (some (.int (-1)), (ar, fi, (m1, m2, m3, m4, m5))))
                else
                 bif decide (x = 115) then
                  some (.inr (some (.int (-1)), (ar, fi, (m1, m2, m3, m4, m5))))
                 else
                  bif decide (x = 116) then
                   some (.inr (some (.int 7), (ar, fi, (m1, m2, m3, m4, m5))))
                  else
                   bif decide (x = 117) then
                    some (.inr (some (.int (-1)), (ar, fi, (m1, m2, m3, m4, m5))))
                   else
                    bif decide (x = 118) then
                     some (.inr (some (.int 3), (ar, fi, (m1, m2, m3, m4, m5))))
                    else
                     bif decide (x = 119) then
                      some (.inr (some (.int 8), (ar, fi, (m1, m2, m3, m4, m5))))
                     else
                      some (.inr (some (.int (-1)), (ar, fi, (m1, m2, m3, m4, m5)))) : Option ((Nat × List Value × List Value × zH2) ⊕ zO2)) := by with_unfolding_all rfl
set_option maxRecDepth 10000 in
theorem e_md_factOf {X : Nat × (Nat → Int32)} {ar fi : Nat → Nat → Int32} {m1 m2 m3 m4 m5 : Nat} {x : Int32} : zseg X zFT zE0 zc_166 (fun _ => false) 400 0 [.int x] [] (ar, fi, (m1, m2, m3, m4, m5)) = some (.inr (some (.int (w_md_factOf x)), (ar, fi, (m1, m2, m3, m4, m5)))) := by
  rw [t_md_factOf]
  unfold w_md_factOf
  simp only [zm_s, zm_r, zm_p, zm_i, zm_e]
theorem ok_md_factOf (X : Nat × (Nat → Int32)) : zOkS X 166 S_md_factOf 1 := zOkS_new (zOkE_nil X 0) (by
  intro args g o h
  obtain ⟨ar, fi, m1, m2, m3, m4, m5⟩ := g
  unfold S_md_factOf P_md_factOf at h
  split at h
  · have h2 := Option.some.inj h
    have hG := congrArg Prod.fst h2
    have ho := congrArg Prod.snd h2
    dsimp only at hG ho
    subst ho
    exact zseg_ret (e_md_factOf)
  · cases h)
def w_md_sumSign (x : Int32) : Int32 := (bif !decide (x = 43) then (bif !decide (x = 45) then (bif !decide (x = 42) then (bif !decide (x = 47) then (bif !decide (x = 37) then (-1) else 6) else 5) else 4) else 3) else 2)
def P_md_sumSign (W : Int32 → Int32) : zSp := fun as g => match as with
  | [.int x] => some (true, (some (.int (W x)), (g.1, g.2.1, g.2.2)))
  | _ => none
abbrev S_md_sumSign : zSp := P_md_sumSign w_md_sumSign
set_option maxRecDepth 10000 in
theorem t_md_sumSign {X : Nat × (Nat → Int32)} {ar fi : Nat → Nat → Int32} {m1 m2 m3 m4 m5 : Nat} {x : Int32} : zseg X zFT zE0 zc_167 (fun _ => false) 400 0 [.int x] [] (ar, fi, (m1, m2, m3, m4, m5)) = (
  bif !decide (x = 43) then
   bif !decide (x = 45) then
    bif !decide (x = 42) then
     bif !decide (x = 47) then
      bif !decide (x = 37) then
       some (.inr (some (.int (-1)), (ar, fi, (m1, m2, m3, m4, m5))))
      else
       some (.inr (some (.int 6), (ar, fi, (m1, m2, m3, m4, m5))))
     else
      some (.inr (some (.int 5), (ar, fi, (m1, m2, m3, m4, m5))))
    else
     some (.inr (some (.int 4), (ar, fi, (m1, m2, m3, m4, m5))))
   else
    some (.inr (some (.int 3), (ar, fi, (m1, m2, m3, m4, m5))))
  else
   some (.inr (some (.int 2), (ar, fi, (m1, m2, m3, m4, m5)))) : Option ((Nat × List Value × List Value × zH2) ⊕ zO2)) := by with_unfolding_all rfl
set_option maxRecDepth 10000 in
theorem e_md_sumSign {X : Nat × (Nat → Int32)} {ar fi : Nat → Nat → Int32} {m1 m2 m3 m4 m5 : Nat} {x : Int32} : zseg X zFT zE0 zc_167 (fun _ => false) 400 0 [.int x] [] (ar, fi, (m1, m2, m3, m4, m5)) = some (.inr (some (.int (w_md_sumSign x)), (ar, fi, (m1, m2, m3, m4, m5)))) := by
  rw [t_md_sumSign]
  unfold w_md_sumSign
  cases hc1 : (!decide (x = 43)) with
  | true =>
    try simp only [hc1, cond_true, cond_false]
    cases hc2 : (!decide (x = 45)) with
    | true =>
      try simp only [hc2, cond_true, cond_false]
      cases hc3 : (!decide (x = 42)) with
      | true =>
        try simp only [hc3, cond_true, cond_false]
        cases hc4 : (!decide (x = 47)) with
        | true =>
          try simp only [hc4, cond_true, cond_false]
          cases hc5 : (!decide (x = 37)) with
          | true =>
            try simp only [hc5, cond_true, cond_false]
            all_goals first | rfl | (refine congrArg some (congrArg Sum.inr (Prod.ext rfl (Prod.ext ?_ (Prod.ext ?_ rfl)))) <;> first | rfl | (funext b; simp only [zup]; (repeat' split) <;> first | rfl | omega | (subst_vars; rfl) | (subst_vars; funext k; simp only [zup]; (repeat' split) <;> first | rfl | omega | (subst_vars; rfl) | (simp_all; done))))
          | false =>
            try simp only [hc5, cond_true, cond_false]
            all_goals first | rfl | (refine congrArg some (congrArg Sum.inr (Prod.ext rfl (Prod.ext ?_ (Prod.ext ?_ rfl)))) <;> first | rfl | (funext b; simp only [zup]; (repeat' split) <;> first | rfl | omega | (subst_vars; rfl) | (subst_vars; funext k; simp only [zup]; (repeat' split) <;> first | rfl | omega | (subst_vars; rfl) | (simp_all; done))))
        | false =>
          try simp only [hc4, cond_true, cond_false]
          all_goals first | rfl | (refine congrArg some (congrArg Sum.inr (Prod.ext rfl (Prod.ext ?_ (Prod.ext ?_ rfl)))) <;> first | rfl | (funext b; simp only [zup]; (repeat' split) <;> first | rfl | omega | (subst_vars; rfl) | (subst_vars; funext k; simp only [zup]; (repeat' split) <;> first | rfl | omega | (subst_vars; rfl) | (simp_all; done))))
      | false =>
        try simp only [hc3, cond_true, cond_false]
        all_goals first | rfl | (refine congrArg some (congrArg Sum.inr (Prod.ext rfl (Prod.ext ?_ (Prod.ext ?_ rfl)))) <;> first | rfl | (funext b; simp only [zup]; (repeat' split) <;> first | rfl | omega | (subst_vars; rfl) | (subst_vars; funext k; simp only [zup]; (repeat' split) <;> first | rfl | omega | (subst_vars; rfl) | (simp_all; done))))
    | false =>
      try simp only [hc2, cond_true, cond_false]
      all_goals first | rfl | (refine congrArg some (congrArg Sum.inr (Prod.ext rfl (Prod.ext ?_ (Prod.ext ?_ rfl)))) <;> first | rfl | (funext b; simp only [zup]; (repeat' split) <;> first | rfl | omega | (subst_vars; rfl) | (subst_vars; funext k; simp only [zup]; (repeat' split) <;> first | rfl | omega | (subst_vars; rfl) | (simp_all; done))))
  | false =>
    try simp only [hc1, cond_true, cond_false]
    all_goals first | rfl | (refine congrArg some (congrArg Sum.inr (Prod.ext rfl (Prod.ext ?_ (Prod.ext ?_ rfl)))) <;> first | rfl | (funext b; simp only [zup]; (repeat' split) <;> first | rfl | omega | (subst_vars; rfl) | (subst_vars; funext k; simp only [zup]; (repeat' split) <;> first | rfl | omega | (subst_vars; rfl) | (simp_all; done))))
theorem ok_md_sumSign (X : Nat × (Nat → Int32)) : zOkS X 167 S_md_sumSign 1 := zOkS_new (zOkE_nil X 0) (by
  intro args g o h
  obtain ⟨ar, fi, m1, m2, m3, m4, m5⟩ := g
  unfold S_md_sumSign P_md_sumSign at h
  split at h
  · have h2 := Option.some.inj h
    have hG := congrArg Prod.fst h2
    have ho := congrArg Prod.snd h2
    dsimp only at hG ho
    subst ho
    exact zseg_ret (e_md_sumSign)
  · cases h)
def f0_md_beginsText (x : Int32) : Int32 := 0
def f1_md_beginsText (x : Int32) : Int32 := x
def f2_md_beginsText (x : Int32) : Int32 := 0
def f3_md_beginsText (x : Int32) : Int32 := 0
def P_md_beginsText (F0 : Int32 → Int32) (F1 : Int32 → Int32) (F2 : Int32 → Int32) (F3 : Int32 → Int32) : zSp := fun as g => match as with
  | [.ref a, .int x] => bif Nat.beq a 64 then some (true, (none, (g.1, (zup (zup (zup (zup g.2.1 64 (zup (g.2.1 64) 7 (F0 x))) 64 (zup ((zup g.2.1 64 (zup (g.2.1 64) 7 (F0 x))) 64) 8 (F1 x))) 64 (zup ((zup (zup g.2.1 64 (zup (g.2.1 64) 7 (F0 x))) 64 (zup ((zup g.2.1 64 (zup (g.2.1 64) 7 (F0 x))) 64) 8 (F1 x))) 64) 12 (F2 x))) 64 (zup ((zup (zup (zup g.2.1 64 (zup (g.2.1 64) 7 (F0 x))) 64 (zup ((zup g.2.1 64 (zup (g.2.1 64) 7 (F0 x))) 64) 8 (F1 x))) 64 (zup ((zup (zup g.2.1 64 (zup (g.2.1 64) 7 (F0 x))) 64 (zup ((zup g.2.1 64 (zup (g.2.1 64) 7 (F0 x))) 64) 8 (F1 x))) 64) 12 (F2 x))) 64) 14 (F3 x))), g.2.2))) else none
  | _ => none
abbrev S_md_beginsText : zSp := P_md_beginsText f0_md_beginsText f1_md_beginsText f2_md_beginsText f3_md_beginsText
set_option maxRecDepth 10000 in
theorem t_md_beginsText {X : Nat × (Nat → Int32)} {ar fi : Nat → Nat → Int32} {m1 m2 m3 m4 m5 : Nat} {x : Int32} : zseg X zFT zE0 zc_178 (fun _ => false) 400 0 [.ref 64, .int x] [] (ar, fi, (m1, m2, m3, m4, m5)) = (
  some (.inr (none, (ar, (zup (zup (zup (zup fi 64 (zup (fi 64) 7 0)) 64 (zup ((zup fi 64 (zup (fi 64) 7 0)) 64) 8 x)) 64 (zup ((zup (zup fi 64 (zup (fi 64) 7 0)) 64 (zup ((zup fi 64 (zup (fi 64) 7 0)) 64) 8 x)) 64) 12 0)) 64 (zup ((zup (zup (zup fi 64 (zup (fi 64) 7 0)) 64 (zup ((zup fi 64 (zup (fi 64) 7 0)) 64) 8 x)) 64 (zup ((zup (zup fi 64 (zup (fi 64) 7 0)) 64 (zup ((zup fi 64 (zup (fi 64) 7 0)) 64) 8 x)) 64) 12 0)) 64) 14 0)), (m1, m2, m3, m4, m5)))) : Option ((Nat × List Value × List Value × zH2) ⊕ zO2)) := by with_unfolding_all rfl
set_option maxRecDepth 10000 in
theorem e_md_beginsText {X : Nat × (Nat → Int32)} {ar fi : Nat → Nat → Int32} {m1 m2 m3 m4 m5 : Nat} {x : Int32} : zseg X zFT zE0 zc_178 (fun _ => false) 400 0 [.ref 64, .int x] [] (ar, fi, (m1, m2, m3, m4, m5)) = some (.inr (none, (ar, (zup (zup (zup (zup fi 64 (zup (fi 64) 7 (f0_md_beginsText x))) 64 (zup ((zup fi 64 (zup (fi 64) 7 (f0_md_beginsText x))) 64) 8 (f1_md_beginsText x))) 64 (zup ((zup (zup fi 64 (zup (fi 64) 7 (f0_md_beginsText x))) 64 (zup ((zup fi 64 (zup (fi 64) 7 (f0_md_beginsText x))) 64) 8 (f1_md_beginsText x))) 64) 12 (f2_md_beginsText x))) 64 (zup ((zup (zup (zup fi 64 (zup (fi 64) 7 (f0_md_beginsText x))) 64 (zup ((zup fi 64 (zup (fi 64) 7 (f0_md_beginsText x))) 64) 8 (f1_md_beginsText x))) 64 (zup ((zup (zup fi 64 (zup (fi 64) 7 (f0_md_beginsText x))) 64 (zup ((zup fi 64 (zup (fi 64) 7 (f0_md_beginsText x))) 64) 8 (f1_md_beginsText x))) 64) 12 (f2_md_beginsText x))) 64) 14 (f3_md_beginsText x))), (m1, m2, m3, m4, m5)))) := by
  rw [t_md_beginsText]
  unfold f0_md_beginsText f1_md_beginsText f2_md_beginsText f3_md_beginsText
  all_goals try simp only [zup_zup, zup_same]
  all_goals first | rfl | (refine congrArg some (congrArg Sum.inr (Prod.ext rfl (Prod.ext ?_ (Prod.ext ?_ rfl)))) <;> first | rfl | (funext b; simp only [zup]; (repeat' split) <;> first | rfl | omega | (subst_vars; rfl) | (subst_vars; funext k; simp only [zup]; (repeat' split) <;> first | rfl | omega | (subst_vars; rfl) | (simp_all; done))))
theorem ok_md_beginsText (X : Nat × (Nat → Int32)) : zOkS X 178 S_md_beginsText 1 := zOkS_new (zOkE_nil X 0) (by
  intro args g o h
  obtain ⟨ar, fi, m1, m2, m3, m4, m5⟩ := g
  unfold S_md_beginsText P_md_beginsText at h
  split at h
  · refine zb_el h (fun hI0 k0 => ?_) (fun _ h10 => ?_)
    · have h2 := Option.some.inj k0
      have hG := congrArg Prod.fst h2
      have ho := congrArg Prod.snd h2
      dsimp only at hG ho
      subst ho
      try simp only [Bool.and_eq_true] at hI0
      have j0 := hI0
      have e0 := Nat.eq_of_beq_eq_true j0
      subst e0
      exact zseg_ret (e_md_beginsText)
    · cases h10
  · cases h)
def g_md_reckon (x : Int32) (y : Int32) (z : Int32) : Bool := bif decide (x = 2) then true else bif decide (x = 3) then true else bif decide (x = 4) then true else bif decide (x = 5) then !decide (z = 0) else bif decide (x = 6) then !decide (z = 0) else true
def w_md_reckon (x : Int32) (y : Int32) (z : Int32) : Int32 := (bif decide (x = 2) then y + z else (bif decide (x = 3) then y - z else (bif decide (x = 4) then y * z else (bif decide (x = 5) then y / z else (bif decide (x = 6) then y - y / z * z else (bif decide (x = 7) then (bif decide (z ≤ y) then 0 else 1) else (bif decide (x = 8) then (bif decide (y ≤ z) then 0 else 1) else (bif !decide (y = z) then 0 else 1))))))))
def P_md_reckon (G : Int32 → Int32 → Int32 → Bool) (W : Int32 → Int32 → Int32 → Int32) : zSp := fun as g => match as with
  | [.int x, .int y, .int z] => some (G x y z, (some (.int (W x y z)), (g.1, g.2.1, g.2.2)))
  | _ => none
abbrev S_md_reckon : zSp := P_md_reckon g_md_reckon w_md_reckon
set_option maxRecDepth 10000 in
theorem t_md_reckon {X : Nat × (Nat → Int32)} {ar fi : Nat → Nat → Int32} {m1 m2 m3 m4 m5 : Nat} {x y z : Int32} : zseg X zFT zE0 zc_180 (fun _ => false) 400 0 [.int x, .int y, .int z] [] (ar, fi, (m1, m2, m3, m4, m5)) = (
  bif decide (x = 2) then
   some (.inr (some (.int (y + z)), (ar, fi, (m1, m2, m3, m4, m5))))
  else
   bif decide (x = 3) then
    some (.inr (some (.int (y - z)), (ar, fi, (m1, m2, m3, m4, m5))))
   else
    bif decide (x = 4) then
     some (.inr (some (.int (y * z)), (ar, fi, (m1, m2, m3, m4, m5))))
    else
     bif decide (x = 5) then
      zg (!decide (z = 0)) (
      some (.inr (some (.int (y / z)), (ar, fi, (m1, m2, m3, m4, m5)))))
     else
      bif decide (x = 6) then
       zg (!decide (z = 0)) (
       some (.inr (some (.int (y - y / z * z)), (ar, fi, (m1, m2, m3, m4, m5)))))
      else
       bif decide (x = 7) then
        bif decide (z ≤ y) then
         some (.inr (some (.int 0), (ar, fi, (m1, m2, m3, m4, m5))))
        else
         some (.inr (some (.int 1), (ar, fi, (m1, m2, m3, m4, m5))))
       else
        bif decide (x = 8) then
         bif decide (y ≤ z) then
          some (.inr (some (.int 0), (ar, fi, (m1, m2, m3, m4, m5))))
         else
          some (.inr (some (.int 1), (ar, fi, (m1, m2, m3, m4, m5))))
        else
         bif !decide (y = z) then
          some (.inr (some (.int 0), (ar, fi, (m1, m2, m3, m4, m5))))
         else
          some (.inr (some (.int 1), (ar, fi, (m1, m2, m3, m4, m5)))) : Option ((Nat × List Value × List Value × zH2) ⊕ zO2)) := rfl
set_option maxRecDepth 10000 in
theorem e_md_reckon {X : Nat × (Nat → Int32)} {ar fi : Nat → Nat → Int32} {m1 m2 m3 m4 m5 : Nat} {x y z : Int32} (hG : g_md_reckon x y z = true) : zseg X zFT zE0 zc_180 (fun _ => false) 400 0 [.int x, .int y, .int z] [] (ar, fi, (m1, m2, m3, m4, m5)) = some (.inr (some (.int (w_md_reckon x y z)), (ar, fi, (m1, m2, m3, m4, m5)))) := by
  rw [t_md_reckon]
  unfold g_md_reckon at hG
  unfold w_md_reckon
  cases hc1 : (decide (x = 2)) with
  | true =>
    try simp only [hc1, cond_true, cond_false] at hG ⊢
    all_goals try simp only [Bool.and_eq_true, Bool.true_and, Bool.and_true] at hG
    all_goals try simp only [hG, zg, cond_true, and_self]
    all_goals first | rfl | (refine congrArg some (congrArg Sum.inr (Prod.ext rfl (Prod.ext ?_ (Prod.ext ?_ rfl)))) <;> first | rfl | (funext b; simp only [zup]; (repeat' split) <;> first | rfl | omega | (subst_vars; rfl) | (subst_vars; funext k; simp only [zup]; (repeat' split) <;> first | rfl | omega | (subst_vars; rfl) | (simp_all; done))))
  | false =>
    try simp only [hc1, cond_true, cond_false] at hG ⊢
    cases hc2 : (decide (x = 3)) with
    | true =>
      try simp only [hc2, cond_true, cond_false] at hG ⊢
      all_goals try simp only [Bool.and_eq_true, Bool.true_and, Bool.and_true] at hG
      all_goals try simp only [hG, zg, cond_true, and_self]
      all_goals first | rfl | (refine congrArg some (congrArg Sum.inr (Prod.ext rfl (Prod.ext ?_ (Prod.ext ?_ rfl)))) <;> first | rfl | (funext b; simp only [zup]; (repeat' split) <;> first | rfl | omega | (subst_vars; rfl) | (subst_vars; funext k; simp only [zup]; (repeat' split) <;> first | rfl | omega | (subst_vars; rfl) | (simp_all; done))))
    | false =>
      try simp only [hc2, cond_true, cond_false] at hG ⊢
      cases hc3 : (decide (x = 4)) with
      | true =>
        try simp only [hc3, cond_true, cond_false] at hG ⊢
        all_goals try simp only [Bool.and_eq_true, Bool.true_and, Bool.and_true] at hG
        all_goals try simp only [hG, zg, cond_true, and_self]
        all_goals first | rfl | (refine congrArg some (congrArg Sum.inr (Prod.ext rfl (Prod.ext ?_ (Prod.ext ?_ rfl)))) <;> first | rfl | (funext b; simp only [zup]; (repeat' split) <;> first | rfl | omega | (subst_vars; rfl) | (subst_vars; funext k; simp only [zup]; (repeat' split) <;> first | rfl | omega | (subst_vars; rfl) | (simp_all; done))))
      | false =>
        try simp only [hc3, cond_true, cond_false] at hG ⊢
        cases hc4 : (decide (x = 5)) with
        | true =>
          try simp only [hc4, cond_true, cond_false] at hG ⊢
          all_goals try simp only [Bool.and_eq_true, Bool.true_and, Bool.and_true] at hG
          all_goals try simp only [hG, zg, cond_true, and_self]
          all_goals first | rfl | (refine congrArg some (congrArg Sum.inr (Prod.ext rfl (Prod.ext ?_ (Prod.ext ?_ rfl)))) <;> first | rfl | (funext b; simp only [zup]; (repeat' split) <;> first | rfl | omega | (subst_vars; rfl) | (subst_vars; funext k; simp only [zup]; (repeat' split) <;> first | rfl | omega | (subst_vars; rfl) | (simp_all; done))))
        | false =>
          try simp only [hc4, cond_true, cond_false] at hG ⊢
          cases hc5 : (decide (x = 6)) with
          | true =>
            try simp only [hc5, cond_true, cond_false] at hG ⊢
            all_goals try simp only [Bool.and_eq_true, Bool.true_and, Bool.and_true] at hG
            all_goals try simp only [hG, zg, cond_true, and_self]
            all_goals first | rfl | (refine congrArg some (congrArg Sum.inr (Prod.ext rfl (Prod.ext ?_ (Prod.ext ?_ rfl)))) <;> first | rfl | (funext b; simp only [zup]; (repeat' split) <;> first | rfl | omega | (subst_vars; rfl) | (subst_vars; funext k; simp only [zup]; (repeat' split) <;> first | rfl | omega | (subst_vars; rfl) | (simp_all; done))))
          | false =>
            try simp only [hc5, cond_true, cond_false] at hG ⊢
            cases hc6 : (decide (x = 7)) with
            | true =>
              try simp only [hc6, cond_true, cond_false] at hG ⊢
              cases hc7 : (decide (z ≤ y)) with
              | true =>
                try simp only [hc7, cond_true, cond_false] at hG ⊢
                all_goals try simp only [Bool.and_eq_true, Bool.true_and, Bool.and_true] at hG
                all_goals try simp only [hG, zg, cond_true, and_self]
                all_goals first | rfl | (refine congrArg some (congrArg Sum.inr (Prod.ext rfl (Prod.ext ?_ (Prod.ext ?_ rfl)))) <;> first | rfl | (funext b; simp only [zup]; (repeat' split) <;> first | rfl | omega | (subst_vars; rfl) | (subst_vars; funext k; simp only [zup]; (repeat' split) <;> first | rfl | omega | (subst_vars; rfl) | (simp_all; done))))
              | false =>
                try simp only [hc7, cond_true, cond_false] at hG ⊢
                all_goals try simp only [Bool.and_eq_true, Bool.true_and, Bool.and_true] at hG
                all_goals try simp only [hG, zg, cond_true, and_self]
                all_goals first | rfl | (refine congrArg some (congrArg Sum.inr (Prod.ext rfl (Prod.ext ?_ (Prod.ext ?_ rfl)))) <;> first | rfl | (funext b; simp only [zup]; (repeat' split) <;> first | rfl | omega | (subst_vars; rfl) | (subst_vars; funext k; simp only [zup]; (repeat' split) <;> first | rfl | omega | (subst_vars; rfl) | (simp_all; done))))
            | false =>
              try simp only [hc6, cond_true, cond_false] at hG ⊢
              cases hc8 : (decide (x = 8)) with
              | true =>
                try simp only [hc8, cond_true, cond_false] at hG ⊢
                cases hc9 : (decide (y ≤ z)) with
                | true =>
                  try simp only [hc9, cond_true, cond_false] at hG ⊢
                  all_goals try simp only [Bool.and_eq_true, Bool.true_and, Bool.and_true] at hG
                  all_goals try simp only [hG, zg, cond_true, and_self]
                  all_goals first | rfl | (refine congrArg some (congrArg Sum.inr (Prod.ext rfl (Prod.ext ?_ (Prod.ext ?_ rfl)))) <;> first | rfl | (funext b; simp only [zup]; (repeat' split) <;> first | rfl | omega | (subst_vars; rfl) | (subst_vars; funext k; simp only [zup]; (repeat' split) <;> first | rfl | omega | (subst_vars; rfl) | (simp_all; done))))
                | false =>
                  try simp only [hc9, cond_true, cond_false] at hG ⊢
                  all_goals try simp only [Bool.and_eq_true, Bool.true_and, Bool.and_true] at hG
                  all_goals try simp only [hG, zg, cond_true, and_self]
                  all_goals first | rfl | (refine congrArg some (congrArg Sum.inr (Prod.ext rfl (Prod.ext ?_ (Prod.ext ?_ rfl)))) <;> first | rfl | (funext b; simp only [zup]; (repeat' split) <;> first | rfl | omega | (subst_vars; rfl) | (subst_vars; funext k; simp only [zup]; (repeat' split) <;> first | rfl | omega | (subst_vars; rfl) | (simp_all; done))))
              | false =>
                try simp only [hc8, cond_true, cond_false] at hG ⊢
                cases hc10 : (!decide (y = z)) with
                | true =>
                  try simp only [hc10, cond_true, cond_false] at hG ⊢
                  all_goals try simp only [Bool.and_eq_true, Bool.true_and, Bool.and_true] at hG
                  all_goals try simp only [hG, zg, cond_true, and_self]
                  all_goals first | rfl | (refine congrArg some (congrArg Sum.inr (Prod.ext rfl (Prod.ext ?_ (Prod.ext ?_ rfl)))) <;> first | rfl | (funext b; simp only [zup]; (repeat' split) <;> first | rfl | omega | (subst_vars; rfl) | (subst_vars; funext k; simp only [zup]; (repeat' split) <;> first | rfl | omega | (subst_vars; rfl) | (simp_all; done))))
                | false =>
                  try simp only [hc10, cond_true, cond_false] at hG ⊢
                  all_goals try simp only [Bool.and_eq_true, Bool.true_and, Bool.and_true] at hG
                  all_goals try simp only [hG, zg, cond_true, and_self]
                  all_goals first | rfl | (refine congrArg some (congrArg Sum.inr (Prod.ext rfl (Prod.ext ?_ (Prod.ext ?_ rfl)))) <;> first | rfl | (funext b; simp only [zup]; (repeat' split) <;> first | rfl | omega | (subst_vars; rfl) | (subst_vars; funext k; simp only [zup]; (repeat' split) <;> first | rfl | omega | (subst_vars; rfl) | (simp_all; done))))
theorem ok_md_reckon (X : Nat × (Nat → Int32)) : zOkS X 180 S_md_reckon 1 := zOkS_new (zOkE_nil X 0) (by
  intro args g o h
  obtain ⟨ar, fi, m1, m2, m3, m4, m5⟩ := g
  unfold S_md_reckon P_md_reckon at h
  split at h
  · have h2 := Option.some.inj h
    have hG := congrArg Prod.fst h2
    have ho := congrArg Prod.snd h2
    dsimp only at hG ho
    subst ho
    exact zseg_ret (e_md_reckon hG)
  · cases h)
def w_md_kindBy (x : Int32) : Int32 := (bif !decide (x = 46) then (bif !decide (x = 35) then (bif !decide (x = 43) then (bif !decide (x = 126) then (-1) else 3) else 2) else 1) else 0)
def P_md_kindBy (W : Int32 → Int32) : zSp := fun as g => match as with
  | [.int x] => some (true, (some (.int (W x)), (g.1, g.2.1, g.2.2)))
  | _ => none
abbrev S_md_kindBy : zSp := P_md_kindBy w_md_kindBy
set_option maxRecDepth 10000 in
theorem t_md_kindBy {X : Nat × (Nat → Int32)} {ar fi : Nat → Nat → Int32} {m1 m2 m3 m4 m5 : Nat} {x : Int32} : zseg X zFT zE0 zc_184 (fun _ => false) 400 0 [.int x] [] (ar, fi, (m1, m2, m3, m4, m5)) = (
  bif !decide (x = 46) then
   bif !decide (x = 35) then
    bif !decide (x = 43) then
     bif !decide (x = 126) then
      some (.inr (some (.int (-1)), (ar, fi, (m1, m2, m3, m4, m5))))
     else
      some (.inr (some (.int 3), (ar, fi, (m1, m2, m3, m4, m5))))
    else
     some (.inr (some (.int 2), (ar, fi, (m1, m2, m3, m4, m5))))
   else
    some (.inr (some (.int 1), (ar, fi, (m1, m2, m3, m4, m5))))
  else
   some (.inr (some (.int 0), (ar, fi, (m1, m2, m3, m4, m5)))) : Option ((Nat × List Value × List Value × zH2) ⊕ zO2)) := by with_unfolding_all rfl
set_option maxRecDepth 10000 in
theorem e_md_kindBy {X : Nat × (Nat → Int32)} {ar fi : Nat → Nat → Int32} {m1 m2 m3 m4 m5 : Nat} {x : Int32} : zseg X zFT zE0 zc_184 (fun _ => false) 400 0 [.int x] [] (ar, fi, (m1, m2, m3, m4, m5)) = some (.inr (some (.int (w_md_kindBy x)), (ar, fi, (m1, m2, m3, m4, m5)))) := by
  rw [t_md_kindBy]
  unfold w_md_kindBy
  cases hc1 : (!decide (x = 46)) with
  | true =>
    try simp only [hc1, cond_true, cond_false]
    cases hc2 : (!decide (x = 35)) with
    | true =>
      try simp only [hc2, cond_true, cond_false]
      cases hc3 : (!decide (x = 43)) with
      | true =>
        try simp only [hc3, cond_true, cond_false]
        cases hc4 : (!decide (x = 126)) with
        | true =>
          try simp only [hc4, cond_true, cond_false]
          all_goals first | rfl | (refine congrArg some (congrArg Sum.inr (Prod.ext rfl (Prod.ext ?_ (Prod.ext ?_ rfl)))) <;> first | rfl | (funext b; simp only [zup]; (repeat' split) <;> first | rfl | omega | (subst_vars; rfl) | (subst_vars; funext k; simp only [zup]; (repeat' split) <;> first | rfl | omega | (subst_vars; rfl) | (simp_all; done))))
        | false =>
          try simp only [hc4, cond_true, cond_false]
          all_goals first | rfl | (refine congrArg some (congrArg Sum.inr (Prod.ext rfl (Prod.ext ?_ (Prod.ext ?_ rfl)))) <;> first | rfl | (funext b; simp only [zup]; (repeat' split) <;> first | rfl | omega | (subst_vars; rfl) | (subst_vars; funext k; simp only [zup]; (repeat' split) <;> first | rfl | omega | (subst_vars; rfl) | (simp_all; done))))
      | false =>
        try simp only [hc3, cond_true, cond_false]
        all_goals first | rfl | (refine congrArg some (congrArg Sum.inr (Prod.ext rfl (Prod.ext ?_ (Prod.ext ?_ rfl)))) <;> first | rfl | (funext b; simp only [zup]; (repeat' split) <;> first | rfl | omega | (subst_vars; rfl) | (subst_vars; funext k; simp only [zup]; (repeat' split) <;> first | rfl | omega | (subst_vars; rfl) | (simp_all; done))))
    | false =>
      try simp only [hc2, cond_true, cond_false]
      all_goals first | rfl | (refine congrArg some (congrArg Sum.inr (Prod.ext rfl (Prod.ext ?_ (Prod.ext ?_ rfl)))) <;> first | rfl | (funext b; simp only [zup]; (repeat' split) <;> first | rfl | omega | (subst_vars; rfl) | (subst_vars; funext k; simp only [zup]; (repeat' split) <;> first | rfl | omega | (subst_vars; rfl) | (simp_all; done))))
  | false =>
    try simp only [hc1, cond_true, cond_false]
    all_goals first | rfl | (refine congrArg some (congrArg Sum.inr (Prod.ext rfl (Prod.ext ?_ (Prod.ext ?_ rfl)))) <;> first | rfl | (funext b; simp only [zup]; (repeat' split) <;> first | rfl | omega | (subst_vars; rfl) | (subst_vars; funext k; simp only [zup]; (repeat' split) <;> first | rfl | omega | (subst_vars; rfl) | (simp_all; done))))
theorem ok_md_kindBy (X : Nat × (Nat → Int32)) : zOkS X 184 S_md_kindBy 1 := zOkS_new (zOkE_nil X 0) (by
  intro args g o h
  obtain ⟨ar, fi, m1, m2, m3, m4, m5⟩ := g
  unfold S_md_kindBy P_md_kindBy at h
  split at h
  · have h2 := Option.some.inj h
    have hG := congrArg Prod.fst h2
    have ho := congrArg Prod.snd h2
    dsimp only at hG ho
    subst ho
    exact zseg_ret (e_md_kindBy)
  · cases h)
def g_md_becomesWhole (x : Int32) (p0 : Nat → Int32) : Bool := (zin (0 + x) 315) && (zin (96 + x) 315)
def a0_md_becomesWhole (x : Int32) (p0 : Nat → Int32) : Nat → Int32 := (zup (zup p0 ((0 + x).toNatClampNeg) 0) ((96 + x).toNatClampNeg) 0)
def P_md_becomesWhole (G : Int32 → (Nat → Int32) → Bool) (A0 : Int32 → (Nat → Int32) → Nat → Int32) : zSp := fun as g => match as with
  | [.ref a, .int x] => bif Nat.beq a 64 then some (G x (g.1 65), (none, ((zup g.1 65 (A0 x (g.1 65))), g.2.1, g.2.2))) else none
  | _ => none
abbrev S_md_becomesWhole : zSp := P_md_becomesWhole g_md_becomesWhole a0_md_becomesWhole
set_option maxRecDepth 10000 in
theorem t_md_becomesWhole {X : Nat × (Nat → Int32)} {ar fi : Nat → Nat → Int32} {m1 m2 m3 m4 m5 : Nat} {x : Int32} : zseg X zFT zE0 zc_188 (fun _ => false) 400 0 [.ref 64, .int x] [] (ar, fi, (m1, m2, m3, m4, m5)) = (
  zg (zin (0 + x) 315) (
  zg (zin (96 + x) 315) (
  some (.inr (none, ((zup (zup ar 65 (zup (ar 65) ((0 + x).toNatClampNeg) 0)) 65 (zup (zup (ar 65) ((0 + x).toNatClampNeg) 0) ((96 + x).toNatClampNeg) 0)), fi, (m1, m2, m3, m4, m5)))))) : Option ((Nat × List Value × List Value × zH2) ⊕ zO2)) := by with_unfolding_all rfl
set_option maxRecDepth 10000 in
theorem e_md_becomesWhole {X : Nat × (Nat → Int32)} {ar fi : Nat → Nat → Int32} {m1 m2 m3 m4 m5 : Nat} {x : Int32} (hG : g_md_becomesWhole x (ar 65) = true) : zseg X zFT zE0 zc_188 (fun _ => false) 400 0 [.ref 64, .int x] [] (ar, fi, (m1, m2, m3, m4, m5)) = some (.inr (none, ((zup ar 65 (a0_md_becomesWhole x (ar 65))), fi, (m1, m2, m3, m4, m5)))) := by
  rw [t_md_becomesWhole]
  unfold g_md_becomesWhole at hG
  unfold a0_md_becomesWhole
  all_goals try simp only [Bool.and_eq_true, Bool.true_and, Bool.and_true] at hG
  all_goals try simp only [hG, zg, cond_true, and_self]
  all_goals first | rfl | (refine congrArg some (congrArg Sum.inr (Prod.ext rfl (Prod.ext ?_ (Prod.ext ?_ rfl)))) <;> first | rfl | (funext b; simp only [zup]; (repeat' split) <;> first | rfl | omega | (subst_vars; rfl) | (subst_vars; funext k; simp only [zup]; (repeat' split) <;> first | rfl | omega | (subst_vars; rfl) | (simp_all; done))))
theorem ok_md_becomesWhole (X : Nat × (Nat → Int32)) : zOkS X 188 S_md_becomesWhole 1 := zOkS_new (zOkE_nil X 0) (by
  intro args g o h
  obtain ⟨ar, fi, m1, m2, m3, m4, m5⟩ := g
  unfold S_md_becomesWhole P_md_becomesWhole at h
  split at h
  · refine zb_el h (fun hI0 k0 => ?_) (fun _ h10 => ?_)
    · have h2 := Option.some.inj k0
      have hG := congrArg Prod.fst h2
      have ho := congrArg Prod.snd h2
      dsimp only at hG ho
      subst ho
      try simp only [Bool.and_eq_true] at hI0
      have j0 := hI0
      have e0 := Nat.eq_of_beq_eq_true j0
      subst e0
      exact zseg_ret (e_md_becomesWhole hG)
    · cases h10
  · cases h)
def g_md_draws (p0 : Nat → Int32) : Bool := (zin 314 315) && ((zin 314 315) && (zin 314 315))
def w_md_draws (p0 : Nat → Int32) : Int32 := ((zup p0 ((314 : Int32).toNatClampNeg) (((25173 * (p0 ((314 : Int32).toNatClampNeg))) + 13849) - ((25173 * (p0 ((314 : Int32).toNatClampNeg))) + 13849) / 65536 * 65536)) ((314 : Int32).toNatClampNeg)) - ((zup p0 ((314 : Int32).toNatClampNeg) (((25173 * (p0 ((314 : Int32).toNatClampNeg))) + 13849) - ((25173 * (p0 ((314 : Int32).toNatClampNeg))) + 13849) / 65536 * 65536)) ((314 : Int32).toNatClampNeg)) / 10 * 10
def a0_md_draws (p0 : Nat → Int32) : Nat → Int32 := (zup p0 ((314 : Int32).toNatClampNeg) (((25173 * (p0 ((314 : Int32).toNatClampNeg))) + 13849) - ((25173 * (p0 ((314 : Int32).toNatClampNeg))) + 13849) / 65536 * 65536))
def P_md_draws (G : (Nat → Int32) → Bool) (W : (Nat → Int32) → Int32) (A0 : (Nat → Int32) → Nat → Int32) : zSp := fun as g => match as with
  | [.ref a] => bif Nat.beq a 64 then some (G (g.1 65), (some (.int (W (g.1 65))), ((zup g.1 65 (A0 (g.1 65))), g.2.1, g.2.2))) else none
  | _ => none
abbrev S_md_draws : zSp := P_md_draws g_md_draws w_md_draws a0_md_draws
set_option maxRecDepth 10000 in
theorem t_md_draws {X : Nat × (Nat → Int32)} {ar fi : Nat → Nat → Int32} {m1 m2 m3 m4 m5 : Nat} : zseg X zFT zE0 zc_201 (fun _ => false) 400 0 [.ref 64] [] (ar, fi, (m1, m2, m3, m4, m5)) = (
  zg (zin 314 315) (
  zg (zin 314 315) (
  zg (zin 314 315) (
  some (.inr (some (.int (((zup (ar 65) ((314 : Int32).toNatClampNeg) (((25173 * ((ar 65) ((314 : Int32).toNatClampNeg))) + 13849) - ((25173 * ((ar 65) ((314 : Int32).toNatClampNeg))) + 13849) / 65536 * 65536)) ((314 : Int32).toNatClampNeg)) - ((zup (ar 65) ((314 : Int32).toNatClampNeg) (((25173 * ((ar 65) ((314 : Int32).toNatClampNeg))) + 13849) - ((25173 * ((ar 65) ((314 : Int32).toNatClampNeg))) + 13849) / 65536 * 65536)) ((314 : Int32).toNatClampNeg)) / 10 * 10)), ((zup ar 65 (zup (ar 65) ((314 : Int32).toNatClampNeg) (((25173 * ((ar 65) ((314 : Int32).toNatClampNeg))) + 13849) - ((25173 * ((ar 65) ((314 : Int32).toNatClampNeg))) + 13849) / 65536 * 65536))), fi, (m1, m2, m3, m4, m5))))))) : Option ((Nat × List Value × List Value × zH2) ⊕ zO2)) := rfl
set_option maxRecDepth 10000 in
theorem e_md_draws {X : Nat × (Nat → Int32)} {ar fi : Nat → Nat → Int32} {m1 m2 m3 m4 m5 : Nat} (hG : g_md_draws (ar 65) = true) : zseg X zFT zE0 zc_201 (fun _ => false) 400 0 [.ref 64] [] (ar, fi, (m1, m2, m3, m4, m5)) = some (.inr (some (.int (w_md_draws (ar 65))), ((zup ar 65 (a0_md_draws (ar 65))), fi, (m1, m2, m3, m4, m5)))) := by
  rw [t_md_draws]
  unfold g_md_draws at hG
  unfold w_md_draws a0_md_draws
  all_goals try simp only [Bool.and_eq_true, Bool.true_and, Bool.and_true] at hG
  all_goals try simp only [hG, zg, cond_true, and_self]
  all_goals first | rfl | (refine congrArg some (congrArg Sum.inr (Prod.ext rfl (Prod.ext ?_ (Prod.ext ?_ rfl)))) <;> first | rfl | (funext b; simp only [zup]; (repeat' split) <;> first | rfl | omega | (subst_vars; rfl) | (subst_vars; funext k; simp only [zup]; (repeat' split) <;> first | rfl | omega | (subst_vars; rfl) | (simp_all; done))))
theorem ok_md_draws (X : Nat × (Nat → Int32)) : zOkS X 201 S_md_draws 1 := zOkS_new (zOkE_nil X 0) (by
  intro args g o h
  obtain ⟨ar, fi, m1, m2, m3, m4, m5⟩ := g
  unfold S_md_draws P_md_draws at h
  split at h
  · refine zb_el h (fun hI0 k0 => ?_) (fun _ h10 => ?_)
    · have h2 := Option.some.inj k0
      have hG := congrArg Prod.fst h2
      have ho := congrArg Prod.snd h2
      dsimp only at hG ho
      subst ho
      try simp only [Bool.and_eq_true] at hI0
      have j0 := hI0
      have e0 := Nat.eq_of_beq_eq_true j0
      subst e0
      exact zseg_ret (e_md_draws hG)
    · cases h10
  · cases h)
def g_md_visits (x : Int32) (y : Int32) (p0 : Nat → Int32) (p1 : Int32) (p2 : Nat → Int32) : Bool := (zin x 192) && (bif decide (p0 (x.toNatClampNeg) = (-1)) then (zin x 192) && (zin (p1) 192) else true)
def a0_md_visits (x : Int32) (y : Int32) (p0 : Nat → Int32) (p1 : Int32) (p2 : Nat → Int32) : Nat → Int32 := (bif decide (p0 (x.toNatClampNeg) = (-1)) then (zup p0 (x.toNatClampNeg) y) else p0)
def a1_md_visits (x : Int32) (y : Int32) (p0 : Nat → Int32) (p1 : Int32) (p2 : Nat → Int32) : Nat → Int32 := (bif decide (p0 (x.toNatClampNeg) = (-1)) then (zup p2 ((p1).toNatClampNeg) x) else p2)
def f0_md_visits (x : Int32) (y : Int32) (p0 : Nat → Int32) (p1 : Int32) (p2 : Nat → Int32) : Int32 := (bif decide (p0 (x.toNatClampNeg) = (-1)) then (p1) + 1 else p1)
def P_md_visits (G : Int32 → Int32 → (Nat → Int32) → Int32 → (Nat → Int32) → Bool) (A0 : Int32 → Int32 → (Nat → Int32) → Int32 → (Nat → Int32) → Nat → Int32) (A1 : Int32 → Int32 → (Nat → Int32) → Int32 → (Nat → Int32) → Nat → Int32) (F0 : Int32 → Int32 → (Nat → Int32) → Int32 → (Nat → Int32) → Int32) : zSp := fun as g => match as with
  | [.ref a, .int x, .int y] => bif Nat.beq a 64 then some (G x y (g.1 90) (g.2.1 64 40) (g.1 87), (none, ((zup (zup g.1 90 (A0 x y (g.1 90) (g.2.1 64 40) (g.1 87))) 87 (A1 x y (g.1 90) (g.2.1 64 40) (g.1 87))), (zup g.2.1 64 (zup (g.2.1 64) 40 (F0 x y (g.1 90) (g.2.1 64 40) (g.1 87)))), g.2.2))) else none
  | _ => none
abbrev S_md_visits : zSp := P_md_visits g_md_visits a0_md_visits a1_md_visits f0_md_visits
set_option maxRecDepth 10000 in
theorem t_md_visits {X : Nat × (Nat → Int32)} {ar fi : Nat → Nat → Int32} {m1 m2 m3 m4 m5 : Nat} {x y : Int32} : zseg X zFT zE0 zc_224 (fun _ => false) 400 0 [.ref 64, .int x, .int y] [] (ar, fi, (m1, m2, m3, m4, m5)) = (
  zg (zin x 192) (
  bif decide ((ar 90) (x.toNatClampNeg) = (-1)) then
   zg (zin x 192) (
   zg (zin (fi 64 40) 192) (
   some (.inr (none, ((zup (zup ar 90 (zup (ar 90) (x.toNatClampNeg) y)) 87 (zup (ar 87) ((fi 64 40).toNatClampNeg) x)), (zup fi 64 (zup (fi 64) 40 ((fi 64 40) + 1))), (m1, m2, m3, m4, m5))))))
  else
   some (.inr (none, (ar, fi, (m1, m2, m3, m4, m5))))) : Option ((Nat × List Value × List Value × zH2) ⊕ zO2)) := by with_unfolding_all rfl
set_option maxRecDepth 10000 in
theorem e_md_visits {X : Nat × (Nat → Int32)} {ar fi : Nat → Nat → Int32} {m1 m2 m3 m4 m5 : Nat} {x y : Int32} (hG : g_md_visits x y (ar 90) (fi 64 40) (ar 87) = true) : zseg X zFT zE0 zc_224 (fun _ => false) 400 0 [.ref 64, .int x, .int y] [] (ar, fi, (m1, m2, m3, m4, m5)) = some (.inr (none, ((zup (zup ar 90 (a0_md_visits x y (ar 90) (fi 64 40) (ar 87))) 87 (a1_md_visits x y (ar 90) (fi 64 40) (ar 87))), (zup fi 64 (zup (fi 64) 40 (f0_md_visits x y (ar 90) (fi 64 40) (ar 87)))), (m1, m2, m3, m4, m5)))) := by
  rw [t_md_visits]
  unfold g_md_visits at hG
  unfold a0_md_visits a1_md_visits f0_md_visits
  cases hc1 : (decide ((ar 90) (x.toNatClampNeg) = (-1))) with
  | true =>
    try simp only [hc1, cond_true, cond_false] at hG ⊢
    all_goals try simp only [Bool.and_eq_true, Bool.true_and, Bool.and_true] at hG
    all_goals try simp only [hG, zg, cond_true, and_self]
    all_goals try simp only [zup_zup, zup_same]
    all_goals first | rfl | (refine congrArg some (congrArg Sum.inr (Prod.ext rfl (Prod.ext ?_ (Prod.ext ?_ rfl)))) <;> first | rfl | (funext b; simp only [zup]; (repeat' split) <;> first | rfl | omega | (subst_vars; rfl) | (subst_vars; funext k; simp only [zup]; (repeat' split) <;> first | rfl | omega | (subst_vars; rfl) | (simp_all; done))))
  | false =>
    try simp only [hc1, cond_true, cond_false] at hG ⊢
    all_goals try simp only [Bool.and_eq_true, Bool.true_and, Bool.and_true] at hG
    all_goals try simp only [hG, zg, cond_true, and_self]
    all_goals try simp only [zup_zup, zup_same]
    all_goals first | rfl | (refine congrArg some (congrArg Sum.inr (Prod.ext rfl (Prod.ext ?_ (Prod.ext ?_ rfl)))) <;> first | rfl | (funext b; simp only [zup]; (repeat' split) <;> first | rfl | omega | (subst_vars; rfl) | (subst_vars; funext k; simp only [zup]; (repeat' split) <;> first | rfl | omega | (subst_vars; rfl) | (simp_all; done))))
theorem ok_md_visits (X : Nat × (Nat → Int32)) : zOkS X 224 S_md_visits 1 := zOkS_new (zOkE_nil X 0) (by
  intro args g o h
  obtain ⟨ar, fi, m1, m2, m3, m4, m5⟩ := g
  unfold S_md_visits P_md_visits at h
  split at h
  · refine zb_el h (fun hI0 k0 => ?_) (fun _ h10 => ?_)
    · have h2 := Option.some.inj k0
      have hG := congrArg Prod.fst h2
      have ho := congrArg Prod.snd h2
      dsimp only at hG ho
      subst ho
      try simp only [Bool.and_eq_true] at hI0
      have j0 := hI0
      have e0 := Nat.eq_of_beq_eq_true j0
      subst e0
      exact zseg_ret (e_md_visits hG)
    · cases h10
  · cases h)
def w_md_isAtEdge (x : Int32) : Int32 := (bif decide (x - x / 12 * 12 = 0) then 1 else (bif decide (x - x / 12 * 12 = 11) then 1 else (bif decide (x / 12 = 0) then 1 else (bif !decide (x / 12 = 7) then 0 else 1))))
def P_md_isAtEdge (W : Int32 → Int32) : zSp := fun as g => match as with
  | [.int x] => some (true, (some (.int (W x)), (g.1, g.2.1, g.2.2)))
  | _ => none
abbrev S_md_isAtEdge : zSp := P_md_isAtEdge w_md_isAtEdge
set_option maxRecDepth 10000 in
theorem t_md_isAtEdge {X : Nat × (Nat → Int32)} {ar fi : Nat → Nat → Int32} {m1 m2 m3 m4 m5 : Nat} {x : Int32} : zseg X zFT zE0 zc_229 (fun _ => false) 400 0 [.int x] [] (ar, fi, (m1, m2, m3, m4, m5)) = (
  bif decide (x - x / 12 * 12 = 0) then
   some (.inr (some (.int 1), (ar, fi, (m1, m2, m3, m4, m5))))
  else
   bif decide (x - x / 12 * 12 = 11) then
    some (.inr (some (.int 1), (ar, fi, (m1, m2, m3, m4, m5))))
   else
    bif decide (x / 12 = 0) then
     some (.inr (some (.int 1), (ar, fi, (m1, m2, m3, m4, m5))))
    else
     bif !decide (x / 12 = 7) then
      some (.inr (some (.int 0), (ar, fi, (m1, m2, m3, m4, m5))))
     else
      some (.inr (some (.int 1), (ar, fi, (m1, m2, m3, m4, m5)))) : Option ((Nat × List Value × List Value × zH2) ⊕ zO2)) := rfl
set_option maxRecDepth 10000 in
theorem e_md_isAtEdge {X : Nat × (Nat → Int32)} {ar fi : Nat → Nat → Int32} {m1 m2 m3 m4 m5 : Nat} {x : Int32} : zseg X zFT zE0 zc_229 (fun _ => false) 400 0 [.int x] [] (ar, fi, (m1, m2, m3, m4, m5)) = some (.inr (some (.int (w_md_isAtEdge x)), (ar, fi, (m1, m2, m3, m4, m5)))) := by
  rw [t_md_isAtEdge]
  unfold w_md_isAtEdge
  cases hc1 : (decide (x - x / 12 * 12 = 0)) with
  | true =>
    try simp only [hc1, cond_true, cond_false]
    all_goals first | rfl | (refine congrArg some (congrArg Sum.inr (Prod.ext rfl (Prod.ext ?_ (Prod.ext ?_ rfl)))) <;> first | rfl | (funext b; simp only [zup]; (repeat' split) <;> first | rfl | omega | (subst_vars; rfl) | (subst_vars; funext k; simp only [zup]; (repeat' split) <;> first | rfl | omega | (subst_vars; rfl) | (simp_all; done))))
  | false =>
    try simp only [hc1, cond_true, cond_false]
    cases hc2 : (decide (x - x / 12 * 12 = 11)) with
    | true =>
      try simp only [hc2, cond_true, cond_false]
      all_goals first | rfl | (refine congrArg some (congrArg Sum.inr (Prod.ext rfl (Prod.ext ?_ (Prod.ext ?_ rfl)))) <;> first | rfl | (funext b; simp only [zup]; (repeat' split) <;> first | rfl | omega | (subst_vars; rfl) | (subst_vars; funext k; simp only [zup]; (repeat' split) <;> first | rfl | omega | (subst_vars; rfl) | (simp_all; done))))
    | false =>
      try simp only [hc2, cond_true, cond_false]
      cases hc3 : (decide (x / 12 = 0)) with
      | true =>
        try simp only [hc3, cond_true, cond_false]
        all_goals first | rfl | (refine congrArg some (congrArg Sum.inr (Prod.ext rfl (Prod.ext ?_ (Prod.ext ?_ rfl)))) <;> first | rfl | (funext b; simp only [zup]; (repeat' split) <;> first | rfl | omega | (subst_vars; rfl) | (subst_vars; funext k; simp only [zup]; (repeat' split) <;> first | rfl | omega | (subst_vars; rfl) | (simp_all; done))))
      | false =>
        try simp only [hc3, cond_true, cond_false]
        cases hc4 : (!decide (x / 12 = 7)) with
        | true =>
          try simp only [hc4, cond_true, cond_false]
          all_goals first | rfl | (refine congrArg some (congrArg Sum.inr (Prod.ext rfl (Prod.ext ?_ (Prod.ext ?_ rfl)))) <;> first | rfl | (funext b; simp only [zup]; (repeat' split) <;> first | rfl | omega | (subst_vars; rfl) | (subst_vars; funext k; simp only [zup]; (repeat' split) <;> first | rfl | omega | (subst_vars; rfl) | (simp_all; done))))
        | false =>
          try simp only [hc4, cond_true, cond_false]
          all_goals first | rfl | (refine congrArg some (congrArg Sum.inr (Prod.ext rfl (Prod.ext ?_ (Prod.ext ?_ rfl)))) <;> first | rfl | (funext b; simp only [zup]; (repeat' split) <;> first | rfl | omega | (subst_vars; rfl) | (subst_vars; funext k; simp only [zup]; (repeat' split) <;> first | rfl | omega | (subst_vars; rfl) | (simp_all; done))))
theorem ok_md_isAtEdge (X : Nat × (Nat → Int32)) : zOkS X 229 S_md_isAtEdge 1 := zOkS_new (zOkE_nil X 0) (by
  intro args g o h
  obtain ⟨ar, fi, m1, m2, m3, m4, m5⟩ := g
  unfold S_md_isAtEdge P_md_isAtEdge at h
  split at h
  · have h2 := Option.some.inj h
    have hG := congrArg Prod.fst h2
    have ho := congrArg Prod.snd h2
    dsimp only at hG ho
    subst ho
    exact zseg_ret (e_md_isAtEdge)
  · cases h)
def w_in_bitCount (x : Int32) : Int32 := (((((((x - (((Int32.toUInt32 x >>> (Int32.toUInt32 1 &&& Int32.toUInt32 31)).toInt32) &&& 1431655765)) &&& 858993459) + (((Int32.toUInt32 (x - (((Int32.toUInt32 x >>> (Int32.toUInt32 1 &&& Int32.toUInt32 31)).toInt32) &&& 1431655765)) >>> (Int32.toUInt32 2 &&& Int32.toUInt32 31)).toInt32) &&& 858993459)) + ((Int32.toUInt32 (((x - (((Int32.toUInt32 x >>> (Int32.toUInt32 1 &&& Int32.toUInt32 31)).toInt32) &&& 1431655765)) &&& 858993459) + (((Int32.toUInt32 (x - (((Int32.toUInt32 x >>> (Int32.toUInt32 1 &&& Int32.toUInt32 31)).toInt32) &&& 1431655765)) >>> (Int32.toUInt32 2 &&& Int32.toUInt32 31)).toInt32) &&& 858993459)) >>> (Int32.toUInt32 4 &&& Int32.toUInt32 31)).toInt32)) &&& 252645135) + ((Int32.toUInt32 (((((x - (((Int32.toUInt32 x >>> (Int32.toUInt32 1 &&& Int32.toUInt32 31)).toInt32) &&& 1431655765)) &&& 858993459) + (((Int32.toUInt32 (x - (((Int32.toUInt32 x >>> (Int32.toUInt32 1 &&& Int32.toUInt32 31)).toInt32) &&& 1431655765)) >>> (Int32.toUInt32 2 &&& Int32.toUInt32 31)).toInt32) &&& 858993459)) + ((Int32.toUInt32 (((x - (((Int32.toUInt32 x >>> (Int32.toUInt32 1 &&& Int32.toUInt32 31)).toInt32) &&& 1431655765)) &&& 858993459) + (((Int32.toUInt32 (x - (((Int32.toUInt32 x >>> (Int32.toUInt32 1 &&& Int32.toUInt32 31)).toInt32) &&& 1431655765)) >>> (Int32.toUInt32 2 &&& Int32.toUInt32 31)).toInt32) &&& 858993459)) >>> (Int32.toUInt32 4 &&& Int32.toUInt32 31)).toInt32)) &&& 252645135) >>> (Int32.toUInt32 8 &&& Int32.toUInt32 31)).toInt32)) + ((Int32.toUInt32 ((((((x - (((Int32.toUInt32 x >>> (Int32.toUInt32 1 &&& Int32.toUInt32 31)).toInt32) &&& 1431655765)) &&& 858993459) + (((Int32.toUInt32 (x - (((Int32.toUInt32 x >>> (Int32.toUInt32 1 &&& Int32.toUInt32 31)).toInt32) &&& 1431655765)) >>> (Int32.toUInt32 2 &&& Int32.toUInt32 31)).toInt32) &&& 858993459)) + ((Int32.toUInt32 (((x - (((Int32.toUInt32 x >>> (Int32.toUInt32 1 &&& Int32.toUInt32 31)).toInt32) &&& 1431655765)) &&& 858993459) + (((Int32.toUInt32 (x - (((Int32.toUInt32 x >>> (Int32.toUInt32 1 &&& Int32.toUInt32 31)).toInt32) &&& 1431655765)) >>> (Int32.toUInt32 2 &&& Int32.toUInt32 31)).toInt32) &&& 858993459)) >>> (Int32.toUInt32 4 &&& Int32.toUInt32 31)).toInt32)) &&& 252645135) + ((Int32.toUInt32 (((((x - (((Int32.toUInt32 x >>> (Int32.toUInt32 1 &&& Int32.toUInt32 31)).toInt32) &&& 1431655765)) &&& 858993459) + (((Int32.toUInt32 (x - (((Int32.toUInt32 x >>> (Int32.toUInt32 1 &&& Int32.toUInt32 31)).toInt32) &&& 1431655765)) >>> (Int32.toUInt32 2 &&& Int32.toUInt32 31)).toInt32) &&& 858993459)) + ((Int32.toUInt32 (((x - (((Int32.toUInt32 x >>> (Int32.toUInt32 1 &&& Int32.toUInt32 31)).toInt32) &&& 1431655765)) &&& 858993459) + (((Int32.toUInt32 (x - (((Int32.toUInt32 x >>> (Int32.toUInt32 1 &&& Int32.toUInt32 31)).toInt32) &&& 1431655765)) >>> (Int32.toUInt32 2 &&& Int32.toUInt32 31)).toInt32) &&& 858993459)) >>> (Int32.toUInt32 4 &&& Int32.toUInt32 31)).toInt32)) &&& 252645135) >>> (Int32.toUInt32 8 &&& Int32.toUInt32 31)).toInt32)) >>> (Int32.toUInt32 16 &&& Int32.toUInt32 31)).toInt32)) &&& 63
def P_in_bitCount (W : Int32 → Int32) : zSp := fun as g => match as with
  | [.int x] => some (true, (some (.int (W x)), (g.1, g.2.1, g.2.2)))
  | _ => none
abbrev S_in_bitCount : zSp := P_in_bitCount w_in_bitCount
set_option maxRecDepth 10000 in
theorem t_in_bitCount {X : Nat × (Nat → Int32)} {ar fi : Nat → Nat → Int32} {m1 m2 m3 m4 m5 : Nat} {x : Int32} : zseg X zFT zE0 zc_250 (fun _ => false) 400 0 [.int x] [] (ar, fi, (m1, m2, m3, m4, m5)) = (
  some (.inr (some (.int ((((((((x - (((Int32.toUInt32 x >>> (Int32.toUInt32 1 &&& Int32.toUInt32 31)).toInt32) &&& 1431655765)) &&& 858993459) + (((Int32.toUInt32 (x - (((Int32.toUInt32 x >>> (Int32.toUInt32 1 &&& Int32.toUInt32 31)).toInt32) &&& 1431655765)) >>> (Int32.toUInt32 2 &&& Int32.toUInt32 31)).toInt32) &&& 858993459)) + ((Int32.toUInt32 (((x - (((Int32.toUInt32 x >>> (Int32.toUInt32 1 &&& Int32.toUInt32 31)).toInt32) &&& 1431655765)) &&& 858993459) + (((Int32.toUInt32 (x - (((Int32.toUInt32 x >>> (Int32.toUInt32 1 &&& Int32.toUInt32 31)).toInt32) &&& 1431655765)) >>> (Int32.toUInt32 2 &&& Int32.toUInt32 31)).toInt32) &&& 858993459)) >>> (Int32.toUInt32 4 &&& Int32.toUInt32 31)).toInt32)) &&& 252645135) + ((Int32.toUInt32 (((((x - (((Int32.toUInt32 x >>> (Int32.toUInt32 1 &&& Int32.toUInt32 31)).toInt32) &&& 1431655765)) &&& 858993459) + (((Int32.toUInt32 (x - (((Int32.toUInt32 x >>> (Int32.toUInt32 1 &&& Int32.toUInt32 31)).toInt32) &&& 1431655765)) >>> (Int32.toUInt32 2 &&& Int32.toUInt32 31)).toInt32) &&& 858993459)) + ((Int32.toUInt32 (((x - (((Int32.toUInt32 x >>> (Int32.toUInt32 1 &&& Int32.toUInt32 31)).toInt32) &&& 1431655765)) &&& 858993459) + (((Int32.toUInt32 (x - (((Int32.toUInt32 x >>> (Int32.toUInt32 1 &&& Int32.toUInt32 31)).toInt32) &&& 1431655765)) >>> (Int32.toUInt32 2 &&& Int32.toUInt32 31)).toInt32) &&& 858993459)) >>> (Int32.toUInt32 4 &&& Int32.toUInt32 31)).toInt32)) &&& 252645135) >>> (Int32.toUInt32 8 &&& Int32.toUInt32 31)).toInt32)) + ((Int32.toUInt32 ((((((x - (((Int32.toUInt32 x >>> (Int32.toUInt32 1 &&& Int32.toUInt32 31)).toInt32) &&& 1431655765)) &&& 858993459) + (((Int32.toUInt32 (x - (((Int32.toUInt32 x >>> (Int32.toUInt32 1 &&& Int32.toUInt32 31)).toInt32) &&& 1431655765)) >>> (Int32.toUInt32 2 &&& Int32.toUInt32 31)).toInt32) &&& 858993459)) + ((Int32.toUInt32 (((x - (((Int32.toUInt32 x >>> (Int32.toUInt32 1 &&& Int32.toUInt32 31)).toInt32) &&& 1431655765)) &&& 858993459) + (((Int32.toUInt32 (x - (((Int32.toUInt32 x >>> (Int32.toUInt32 1 &&& Int32.toUInt32 31)).toInt32) &&& 1431655765)) >>> (Int32.toUInt32 2 &&& Int32.toUInt32 31)).toInt32) &&& 858993459)) >>> (Int32.toUInt32 4 &&& Int32.toUInt32 31)).toInt32)) &&& 252645135) + ((Int32.toUInt32 (((((x - (((Int32.toUInt32 x >>> (Int32.toUInt32 1 &&& Int32.toUInt32 31)).toInt32) &&& 1431655765)) &&& 858993459) + (((Int32.toUInt32 (x - (((Int32.toUInt32 x >>> (Int32.toUInt32 1 &&& Int32.toUInt32 31)).toInt32) &&& 1431655765)) >>> (Int32.toUInt32 2 &&& Int32.toUInt32 31)).toInt32) &&& 858993459)) + ((Int32.toUInt32 (((x - (((Int32.toUInt32 x >>> (Int32.toUInt32 1 &&& Int32.toUInt32 31)).toInt32) &&& 1431655765)) &&& 858993459) + (((Int32.toUInt32 (x - (((Int32.toUInt32 x >>> (Int32.toUInt32 1 &&& Int32.toUInt32 31)).toInt32) &&& 1431655765)) >>> (Int32.toUInt32 2 &&& Int32.toUInt32 31)).toInt32) &&& 858993459)) >>> (Int32.toUInt32 4 &&& Int32.toUInt32 31)).toInt32)) &&& 252645135) >>> (Int32.toUInt32 8 &&& Int32.toUInt32 31)).toInt32)) >>> (Int32.toUInt32 16 &&& Int32.toUInt32 31)).toInt32)) &&& 63)), (ar, fi, (m1, m2, m3, m4, m5)))) : Option ((Nat × List Value × List Value × zH2) ⊕ zO2)) := by with_unfolding_all rfl
set_option maxRecDepth 10000 in
theorem e_in_bitCount {X : Nat × (Nat → Int32)} {ar fi : Nat → Nat → Int32} {m1 m2 m3 m4 m5 : Nat} {x : Int32} : zseg X zFT zE0 zc_250 (fun _ => false) 400 0 [.int x] [] (ar, fi, (m1, m2, m3, m4, m5)) = some (.inr (some (.int (w_in_bitCount x)), (ar, fi, (m1, m2, m3, m4, m5)))) := by
  rw [t_in_bitCount]
  unfold w_in_bitCount
  all_goals first | rfl | (refine congrArg some (congrArg Sum.inr (Prod.ext rfl (Prod.ext ?_ (Prod.ext ?_ rfl)))) <;> first | rfl | (funext b; simp only [zup]; (repeat' split) <;> first | rfl | omega | (subst_vars; rfl) | (subst_vars; funext k; simp only [zup]; (repeat' split) <;> first | rfl | omega | (subst_vars; rfl) | (simp_all; done))))
theorem ok_in_bitCount (X : Nat × (Nat → Int32)) : zOkS X 250 S_in_bitCount 1 := zOkS_new (zOkE_nil X 0) (by
  intro args g o h
  obtain ⟨ar, fi, m1, m2, m3, m4, m5⟩ := g
  unfold S_in_bitCount P_in_bitCount at h
  split at h
  · have h2 := Option.some.inj h
    have hG := congrArg Prod.fst h2
    have ho := congrArg Prod.snd h2
    dsimp only at hG ho
    subst ho
    exact zseg_ret (e_in_bitCount)
  · cases h)
def g_gr_light (x : Int32) (p0 : Nat → Int32) (p1 : Int32) (p2 : Nat → Int32) : Bool := g_gr_reach x 0 p0 (p1) p2
def a0_gr_light (x : Int32) (p0 : Nat → Int32) (p1 : Int32) (p2 : Nat → Int32) : Nat → Int32 := (a0_gr_reach x 0 p0 (p1) p2)
def a1_gr_light (x : Int32) (p0 : Nat → Int32) (p1 : Int32) (p2 : Nat → Int32) : Nat → Int32 := (a1_gr_reach x 0 p0 (p1) p2)
def f0_gr_light (x : Int32) (p0 : Nat → Int32) (p1 : Int32) (p2 : Nat → Int32) : Int32 := (f0_gr_reach x 0 p0 (p1) p2)
def P_gr_light (G : Int32 → (Nat → Int32) → Int32 → (Nat → Int32) → Bool) (A0 : Int32 → (Nat → Int32) → Int32 → (Nat → Int32) → Nat → Int32) (A1 : Int32 → (Nat → Int32) → Int32 → (Nat → Int32) → Nat → Int32) (F0 : Int32 → (Nat → Int32) → Int32 → (Nat → Int32) → Int32) : zSp := fun as g => match as with
  | [.ref a, .int x] => bif Nat.beq a 52 then some (G x (g.1 53) (g.2.1 52 1) (g.1 54), (none, ((zup (zup g.1 53 (A0 x (g.1 53) (g.2.1 52 1) (g.1 54))) 54 (A1 x (g.1 53) (g.2.1 52 1) (g.1 54))), (zup g.2.1 52 (zup (g.2.1 52) 1 (F0 x (g.1 53) (g.2.1 52 1) (g.1 54)))), g.2.2))) else none
  | _ => none
abbrev S_gr_light : zSp := P_gr_light g_gr_light a0_gr_light a1_gr_light f0_gr_light
set_option maxRecDepth 10000 in
theorem t_gr_light {X : Nat × (Nat → Int32)} {ar fi : Nat → Nat → Int32} {m1 m2 m3 m4 m5 : Nat} {x : Int32} {G_gr_reach : Int32 → Int32 → (Nat → Int32) → Int32 → (Nat → Int32) → Bool} {A0_gr_reach : Int32 → Int32 → (Nat → Int32) → Int32 → (Nat → Int32) → Nat → Int32} {A1_gr_reach : Int32 → Int32 → (Nat → Int32) → Int32 → (Nat → Int32) → Nat → Int32} {F0_gr_reach : Int32 → Int32 → (Nat → Int32) → Int32 → (Nat → Int32) → Int32} : zseg X zFT (zEx 28 (P_gr_reach G_gr_reach A0_gr_reach A1_gr_reach F0_gr_reach) zE0) zc_27 (fun _ => false) 400 0 [.ref 52, .int x] [] (ar, fi, (m1, m2, m3, m4, m5)) = (
  zg (G_gr_reach x 0 (ar 53) (fi 52 1) (ar 54)) (
  some (.inr (none, ((zup (zup ar 53 (A0_gr_reach x 0 (ar 53) (fi 52 1) (ar 54))) 54 (A1_gr_reach x 0 (ar 53) (fi 52 1) (ar 54))), (zup fi 52 (zup (fi 52) 1 (F0_gr_reach x 0 (ar 53) (fi 52 1) (ar 54)))), (m1, m2, m3, m4, m5))))) : Option ((Nat × List Value × List Value × zH2) ⊕ zO2)) := by with_unfolding_all rfl
set_option maxRecDepth 10000 in
theorem e_gr_light {X : Nat × (Nat → Int32)} {ar fi : Nat → Nat → Int32} {m1 m2 m3 m4 m5 : Nat} {x : Int32} (hG : g_gr_light x (ar 53) (fi 52 1) (ar 54) = true) : zseg X zFT (zEx 28 S_gr_reach zE0) zc_27 (fun _ => false) 400 0 [.ref 52, .int x] [] (ar, fi, (m1, m2, m3, m4, m5)) = some (.inr (none, ((zup (zup ar 53 (a0_gr_light x (ar 53) (fi 52 1) (ar 54))) 54 (a1_gr_light x (ar 53) (fi 52 1) (ar 54))), (zup fi 52 (zup (fi 52) 1 (f0_gr_light x (ar 53) (fi 52 1) (ar 54)))), (m1, m2, m3, m4, m5)))) := by
  rw [t_gr_light]
  unfold g_gr_light at hG
  unfold a0_gr_light a1_gr_light f0_gr_light
  all_goals try simp only [Bool.and_eq_true, Bool.true_and, Bool.and_true] at hG
  all_goals try simp only [hG, zg, cond_true, and_self]
  all_goals try simp only [zup_zup, zup_same]
  all_goals first | rfl | (refine congrArg some (congrArg Sum.inr (Prod.ext rfl (Prod.ext ?_ (Prod.ext ?_ rfl)))) <;> first | rfl | (funext b; simp only [zup]; (repeat' split) <;> first | rfl | omega | (subst_vars; rfl) | (subst_vars; funext k; simp only [zup]; (repeat' split) <;> first | rfl | omega | (subst_vars; rfl) | (simp_all; done))))
theorem ok_gr_light (X : Nat × (Nat → Int32)) : zOkS X 27 S_gr_light 2 := zOkS_new (zOkE_cons (ok_gr_reach X) (by decide) (zOkE_nil X 1)) (by
  intro args g o h
  obtain ⟨ar, fi, m1, m2, m3, m4, m5⟩ := g
  unfold S_gr_light P_gr_light at h
  split at h
  · refine zb_el h (fun hI0 k0 => ?_) (fun _ h10 => ?_)
    · have h2 := Option.some.inj k0
      have hG := congrArg Prod.fst h2
      have ho := congrArg Prod.snd h2
      dsimp only at hG ho
      subst ho
      try simp only [Bool.and_eq_true] at hI0
      have j0 := hI0
      have e0 := Nat.eq_of_beq_eq_true j0
      subst e0
      exact zseg_ret (e_gr_light hG)
    · cases h10
  · cases h)
