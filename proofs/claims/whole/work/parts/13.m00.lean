def g_if_placeIs (x : Int32) (y : Int32) (z : Int32) (p0 : Nat → Int32) (p1 : Nat → Int32) (p2 : Nat → Int32) (p3 : Int32) (p4 : Int32) (p5 : Nat → Int32) (p6 : Nat → Int32) (p7 : Nat → Int32) : Bool := bif !decide (w_if_isPlace x y = 0) then bif decide (z = 0) then zin ((12 * y) + x) 96 else bif decide (z = 1) then zin ((12 * y) + x) 96 else bif decide (z = 2) then zin ((12 * y) + x) 96 else true else true
def w_if_placeIs (x : Int32) (y : Int32) (z : Int32) (p0 : Nat → Int32) (p1 : Nat → Int32) (p2 : Nat → Int32) (p3 : Int32) (p4 : Int32) (p5 : Nat → Int32) (p6 : Nat → Int32) (p7 : Nat → Int32) : Int32 := (bif !decide (w_if_isPlace x y = 0) then (bif decide (z = 0) then p0 (((12 * y) + x).toNatClampNeg) else (bif decide (z = 1) then p1 (((12 * y) + x).toNatClampNeg) else (bif decide (z = 2) then p2 (((12 * y) + x).toNatClampNeg) else (bif decide (z = 3) then w_sc_thingsAt ((12 * y) + x) (p3) (p4) p5 else (bif decide (z = 4) then w_sc_bareValueAt ((12 * y) + x) p6 (p3) (p4) p5 p7 else (bif decide (z = 5) then w_sc_insuredSumAt ((12 * y) + x) (p3) (p4) p5 p6 else (-1))))))) else (-1))
def P_if_placeIs (G : Int32 → Int32 → Int32 → (Nat → Int32) → (Nat → Int32) → (Nat → Int32) → Int32 → Int32 → (Nat → Int32) → (Nat → Int32) → (Nat → Int32) → Bool) (W : Int32 → Int32 → Int32 → (Nat → Int32) → (Nat → Int32) → (Nat → Int32) → Int32 → Int32 → (Nat → Int32) → (Nat → Int32) → (Nat → Int32) → Int32) : zSp := fun as g => match as with
  | [.ref a, .int x, .int y, .int z] => bif Nat.beq a 0 then some (G x y z (g.1 3) (g.1 4) (g.1 5) (g.2.1 2 6) (g.2.1 2 7) (g.1 6) (g.1 8) (g.1 7), (some (.int (W x y z (g.1 3) (g.1 4) (g.1 5) (g.2.1 2 6) (g.2.1 2 7) (g.1 6) (g.1 8) (g.1 7))), (g.1, g.2.1, g.2.2))) else none
  | _ => none
abbrev S_if_placeIs : zSp := P_if_placeIs g_if_placeIs w_if_placeIs
set_option maxRecDepth 10000 in
theorem t_if_placeIs {X : Nat × (Nat → Int32)} {ar fi : Nat → Nat → Int32} {m1 m2 m3 m4 m5 : Nat} {x y z : Int32} {W_if_isPlace : Int32 → Int32 → Int32} {W_sc_thingsAt : Int32 → Int32 → Int32 → (Nat → Int32) → Int32} {W_sc_bareValueAt : Int32 → (Nat → Int32) → Int32 → Int32 → (Nat → Int32) → (Nat → Int32) → Int32} {W_sc_insuredSumAt : Int32 → Int32 → Int32 → (Nat → Int32) → (Nat → Int32) → Int32} : zseg X zFT (zEx 139 (P_if_isPlace W_if_isPlace) (zEx 81 (P_sc_thingsAt W_sc_thingsAt) (zEx 82 (P_sc_bareValueAt W_sc_bareValueAt) (zEx 83 (P_sc_insuredSumAt W_sc_insuredSumAt) zE0)))) zc_115 (fun _ => false) 400 0 [.ref 0, .int x, .int y, .int z] [] (ar, fi, (m1, m2, m3, m4, m5)) = (
  bif !decide (W_if_isPlace x y = 0) then
   bif decide (z = 0) then
    zg (zin ((12 * y) + x) 96) (
    some (.inr (some (.int ((ar 3) (((12 * y) + x).toNatClampNeg))), (ar, fi, (m1, m2, m3, m4, m5)))))
   else
    bif decide (z = 1) then
     zg (zin ((12 * y) + x) 96) (
     some (.inr (some (.int ((ar 4) (((12 * y) + x).toNatClampNeg))), (ar, fi, (m1, m2, m3, m4, m5)))))
    else
     bif decide (z = 2) then
      zg (zin ((12 * y) + x) 96) (
      some (.inr (some (.int ((ar 5) (((12 * y) + x).toNatClampNeg))), (ar, fi, (m1, m2, m3, m4, m5)))))
     else
      bif decide (z = 3) then
       some (.inr (some (.int (W_sc_thingsAt ((12 * y) + x) (fi 2 6) (fi 2 7) (ar 6))), (ar, fi, (m1, m2, m3, m4, m5))))
      else
       bif decide (z = 4) then
        some (.inr (some (.int (W_sc_bareValueAt ((12 * y) + x) (ar 8) (fi 2 6) (fi 2 7) (ar 6) (ar 7))), (ar, fi, (m1, m2, m3, m4, m5))))
       else
        bif decide (z = 5) then
         some (.inr (some (.int (W_sc_insuredSumAt ((12 * y) + x) (fi 2 6) (fi 2 7) (ar 6) (ar 8))), (ar, fi, (m1, m2, m3, m4, m5))))
        else
         some (.inr (some (.int (-1)), (ar, fi, (m1, m2, m3, m4, m5))))
  else
   some (.inr (some (.int (-1)), (ar, fi, (m1, m2, m3, m4, m5)))) : Option ((Nat × List Value × List Value × zH2) ⊕ zO2)) := by with_unfolding_all rfl
set_option maxRecDepth 10000 in
theorem e_if_placeIs {X : Nat × (Nat → Int32)} {ar fi : Nat → Nat → Int32} {m1 m2 m3 m4 m5 : Nat} {x y z : Int32} (hG : g_if_placeIs x y z (ar 3) (ar 4) (ar 5) (fi 2 6) (fi 2 7) (ar 6) (ar 8) (ar 7) = true) : zseg X zFT (zEx 139 S_if_isPlace (zEx 81 S_sc_thingsAt (zEx 82 S_sc_bareValueAt (zEx 83 S_sc_insuredSumAt zE0)))) zc_115 (fun _ => false) 400 0 [.ref 0, .int x, .int y, .int z] [] (ar, fi, (m1, m2, m3, m4, m5)) = some (.inr (some (.int (w_if_placeIs x y z (ar 3) (ar 4) (ar 5) (fi 2 6) (fi 2 7) (ar 6) (ar 8) (ar 7))), (ar, fi, (m1, m2, m3, m4, m5)))) := by
  rw [t_if_placeIs]
  unfold g_if_placeIs at hG
  unfold w_if_placeIs
  cases hc1 : (!decide (w_if_isPlace x y = 0)) with
  | true =>
    try simp only [hc1, cond_true, cond_false] at hG ⊢
    cases hc2 : (decide (z = 0)) with
    | true =>
      try simp only [hc2, cond_true, cond_false] at hG ⊢
      all_goals try simp only [Bool.and_eq_true, Bool.true_and, Bool.and_true] at hG
      all_goals try simp only [hG, zg, cond_true, and_self]
      all_goals first | rfl | (refine congrArg some (congrArg Sum.inr (Prod.ext rfl (Prod.ext ?_ (Prod.ext ?_ rfl)))) <;> first | rfl | (funext b; simp only [zup]; (repeat' split) <;> first | rfl | omega | (subst_vars; rfl) | (subst_vars; funext k; simp only [zup]; (repeat' split) <;> first | rfl | omega | (subst_vars; rfl) | (simp_all; done))))
    | false =>
      try simp only [hc2, cond_true, cond_false] at hG ⊢
      cases hc3 : (decide (z = 1)) with
      | true =>
        try simp only [hc3, cond_true, cond_false] at hG ⊢
        all_goals try simp only [Bool.and_eq_true, Bool.true_and, Bool.and_true] at hG
        all_goals try simp only [hG, zg, cond_true, and_self]
        all_goals first | rfl | (refine congrArg some (congrArg Sum.inr (Prod.ext rfl (Prod.ext ?_ (Prod.ext ?_ rfl)))) <;> first | rfl | (funext b; simp only [zup]; (repeat' split) <;> first | rfl | omega | (subst_vars; rfl) | (subst_vars; funext k; simp only [zup]; (repeat' split) <;> first | rfl | omega | (subst_vars; rfl) | (simp_all; done))))
      | false =>
        try simp only [hc3, cond_true, cond_false] at hG ⊢
        cases hc4 : (decide (z = 2)) with
        | true =>
          try simp only [hc4, cond_true, cond_false] at hG ⊢
          all_goals try simp only [Bool.and_eq_true, Bool.true_and, Bool.and_true] at hG
          all_goals try simp only [hG, zg, cond_true, and_self]
          all_goals first | rfl | (refine congrArg some (congrArg Sum.inr (Prod.ext rfl (Prod.ext ?_ (Prod.ext ?_ rfl)))) <;> first | rfl | (funext b; simp only [zup]; (repeat' split) <;> first | rfl | omega | (subst_vars; rfl) | (subst_vars; funext k; simp only [zup]; (repeat' split) <;> first | rfl | omega | (subst_vars; rfl) | (simp_all; done))))
        | false =>
          try simp only [hc4, cond_true, cond_false] at hG ⊢
          cases hc5 : (decide (z = 3)) with
          | true =>
            try simp only [hc5, cond_true, cond_false] at hG ⊢
            all_goals try simp only [Bool.and_eq_true, Bool.true_and, Bool.and_true] at hG
            all_goals try simp only [hG, zg, cond_true, and_self]
            all_goals first | rfl | (refine congrArg some (congrArg Sum.inr (Prod.ext rfl (Prod.ext ?_ (Prod.ext ?_ rfl)))) <;> first | rfl | (funext b; simp only [zup]; (repeat' split) <;> first | rfl | omega | (subst_vars; rfl) | (subst_vars; funext k; simp only [zup]; (repeat' split) <;> first | rfl | omega | (subst_vars; rfl) | (simp_all; done))))
          | false =>
            try simp only [hc5, cond_true, cond_false] at hG ⊢
            cases hc6 : (decide (z = 4)) with
            | true =>
              try simp only [hc6, cond_true, cond_false] at hG ⊢
              all_goals try simp only [Bool.and_eq_true, Bool.true_and, Bool.and_true] at hG
              all_goals try simp only [hG, zg, cond_true, and_self]
              all_goals first | rfl | (refine congrArg some (congrArg Sum.inr (Prod.ext rfl (Prod.ext ?_ (Prod.ext ?_ rfl)))) <;> first | rfl | (funext b; simp only [zup]; (repeat' split) <;> first | rfl | omega | (subst_vars; rfl) | (subst_vars; funext k; simp only [zup]; (repeat' split) <;> first | rfl | omega | (subst_vars; rfl) | (simp_all; done))))
            | false =>
              try simp only [hc6, cond_true, cond_false] at hG ⊢
              cases hc7 : (decide (z = 5)) with
              | true =>
                try simp only [hc7, cond_true, cond_false] at hG ⊢
                all_goals try simp only [Bool.and_eq_true, Bool.true_and, Bool.and_true] at hG
                all_goals try simp only [hG, zg, cond_true, and_self]
                all_goals first | rfl | (refine congrArg some (congrArg Sum.inr (Prod.ext rfl (Prod.ext ?_ (Prod.ext ?_ rfl)))) <;> first | rfl | (funext b; simp only [zup]; (repeat' split) <;> first | rfl | omega | (subst_vars; rfl) | (subst_vars; funext k; simp only [zup]; (repeat' split) <;> first | rfl | omega | (subst_vars; rfl) | (simp_all; done))))
              | false =>
                try simp only [hc7, cond_true, cond_false] at hG ⊢
                all_goals try simp only [Bool.and_eq_true, Bool.true_and, Bool.and_true] at hG
                all_goals try simp only [hG, zg, cond_true, and_self]
                all_goals first | rfl | (refine congrArg some (congrArg Sum.inr (Prod.ext rfl (Prod.ext ?_ (Prod.ext ?_ rfl)))) <;> first | rfl | (funext b; simp only [zup]; (repeat' split) <;> first | rfl | omega | (subst_vars; rfl) | (subst_vars; funext k; simp only [zup]; (repeat' split) <;> first | rfl | omega | (subst_vars; rfl) | (simp_all; done))))
  | false =>
    try simp only [hc1, cond_true, cond_false] at hG ⊢
    all_goals try simp only [Bool.and_eq_true, Bool.true_and, Bool.and_true] at hG
    all_goals try simp only [hG, zg, cond_true, and_self]
    all_goals first | rfl | (refine congrArg some (congrArg Sum.inr (Prod.ext rfl (Prod.ext ?_ (Prod.ext ?_ rfl)))) <;> first | rfl | (funext b; simp only [zup]; (repeat' split) <;> first | rfl | omega | (subst_vars; rfl) | (subst_vars; funext k; simp only [zup]; (repeat' split) <;> first | rfl | omega | (subst_vars; rfl) | (simp_all; done))))
theorem ok_if_placeIs (X : Nat × (Nat → Int32)) : zOkS X 115 S_if_placeIs 4 := zOkS_new (zOkE_cons (ok_if_isPlace X) (by decide) (zOkE_cons (ok_sc_thingsAt X) (by decide) (zOkE_cons (ok_sc_bareValueAt X) (by decide) (zOkE_cons (ok_sc_insuredSumAt X) (by decide) (zOkE_nil X 3))))) (by
  intro args g o h
  obtain ⟨ar, fi, m1, m2, m3, m4, m5⟩ := g
  unfold S_if_placeIs P_if_placeIs at h
  split at h
  · refine zb_el h (fun hI0 k0 => ?_) (fun _ h10 => ?_)
    · have h2 := Option.some.inj k0
      have hG := congrArg Prod.fst h2
      have ho := congrArg Prod.snd h2
      dsimp only at hG ho
      subst ho
      try simp only [Bool.and_eq_true] at hI0
      have j0 := hI0
      have e0 := Nat.eq_of_beq_eq_true j0
      subst e0
      exact zseg_ret (e_if_placeIs hG)
    · cases h10
  · cases h)
def w_if_count (x : Int32) (p0 : Int32) (p1 : Int32) (p2 : Int32) (p3 : Nat → Int32) (p4 : Int32) (p5 : Int32) (p6 : Int32) (p7 : Int32) (p8 : Nat → Int32) : Int32 := (bif decide (x = 0) then p0 else (bif decide (x = 1) then p1 else (bif decide (x = 2) then p2 else (bif decide (x = 3) then w_sc_placesThatAre 1 p3 else (bif decide (x = 4) then w_sc_placesThatAre 2 p3 else (bif decide (x = 5) then p4 else (bif decide (x = 6) then p5 else (bif decide (x = 7) then p6 else (bif decide (x = 8) then p7 else (bif decide (x = 9) then w_sc_lostValue (p2) p8 else (-1)))))))))))
def P_if_count (W : Int32 → Int32 → Int32 → Int32 → (Nat → Int32) → Int32 → Int32 → Int32 → Int32 → (Nat → Int32) → Int32) : zSp := fun as g => match as with
  | [.ref a, .int x] => bif Nat.beq a 0 && Nat.beq g.2.2.1 23 then some (true, (some (.int (W x (g.2.1 2 9) (g.2.1 2 6) (g.2.1 2 7) (g.1 4) (g.2.1 2 8) (g.2.1 23 9) (g.2.1 0 1) (g.2.1 2 10) (g.1 7))), (g.1, g.2.1, g.2.2))) else bif Nat.beq a 0 && Nat.beq g.2.2.1 31 then some (true, (some (.int (W x (g.2.1 2 9) (g.2.1 2 6) (g.2.1 2 7) (g.1 4) (g.2.1 2 8) (g.2.1 31 9) (g.2.1 0 1) (g.2.1 2 10) (g.1 7))), (g.1, g.2.1, g.2.2))) else none
  | _ => none
abbrev S_if_count : zSp := P_if_count w_if_count
set_option maxRecDepth 10000 in
theorem t_if_count_0_v0 {X : Nat × (Nat → Int32)} {ar fi : Nat → Nat → Int32} {m2 m3 m4 m5 : Nat} {x : Int32} {W_sc_placesThatAre : Int32 → (Nat → Int32) → Int32} {W_sc_lostValue : Int32 → (Nat → Int32) → Int32} : zseg X zFT (zEx 76 (P_sc_placesThatAre W_sc_placesThatAre) (zEx 85 (P_sc_lostValue W_sc_lostValue) zE0)) zc_134 (fun _ => false) 400 0 [.ref 0, .int x] [] (ar, fi, (23, m2, m3, m4, m5)) = (
  bif decide (x = 0) then
   some (.inr (some (.int (fi 2 9)), (ar, fi, (23, m2, m3, m4, m5))))
  else
   bif decide (x = 1) then
    some (.inr (some (.int (fi 2 6)), (ar, fi, (23, m2, m3, m4, m5))))
   else
    bif decide (x = 2) then
     some (.inr (some (.int (fi 2 7)), (ar, fi, (23, m2, m3, m4, m5))))
    else
     bif decide (x = 3) then
      some (.inr (some (.int (W_sc_placesThatAre 1 (ar 4))), (ar, fi, (23, m2, m3, m4, m5))))
     else
      bif decide (x = 4) then
       some (.inr (some (.int (W_sc_placesThatAre 2 (ar 4))), (ar, fi, (23, m2, m3, m4, m5))))
      else
       bif decide (x = 5) then
        some (.inr (some (.int (fi 2 8)), (ar, fi, (23, m2, m3, m4, m5))))
       else
        bif decide (x = 6) then
         some (.inr (some (.int (fi 23 9)), (ar, fi, (23, m2, m3, m4, m5))))
        else
         bif decide (x = 7) then
          some (.inr (some (.int (fi 0 1)), (ar, fi, (23, m2, m3, m4, m5))))
         else
          bif decide (x = 8) then
           some (.inr (some (.int (fi 2 10)), (ar, fi, (23, m2, m3, m4, m5))))
          else
           bif decide (x = 9) then
            some (.inr (some (.int (W_sc_lostValue (fi 2 7) (ar 7))), (ar, fi, (23, m2, m3, m4, m5))))
           else
            some (.inr (some (.int (-1)), (ar, fi, (23, m2, m3, m4, m5)))) : Option ((Nat × List Value × List Value × zH2) ⊕ zO2)) := by with_unfolding_all rfl
set_option maxRecDepth 10000 in
theorem e_if_count_0_v0 {X : Nat × (Nat → Int32)} {ar fi : Nat → Nat → Int32} {m2 m3 m4 m5 : Nat} {x : Int32} : zseg X zFT (zEx 76 S_sc_placesThatAre (zEx 85 S_sc_lostValue zE0)) zc_134 (fun _ => false) 400 0 [.ref 0, .int x] [] (ar, fi, (23, m2, m3, m4, m5)) = some (.inr (some (.int (w_if_count x (fi 2 9) (fi 2 6) (fi 2 7) (ar 4) (fi 2 8) (fi 23 9) (fi 0 1) (fi 2 10) (ar 7))), (ar, fi, (23, m2, m3, m4, m5)))) := by
  rw [t_if_count_0_v0]
  unfold w_if_count
  simp only [zm_s, zm_r, zm_p, zm_i, zm_e]
set_option maxRecDepth 10000 in
theorem t_if_count_0_v1 {X : Nat × (Nat → Int32)} {ar fi : Nat → Nat → Int32} {m2 m3 m4 m5 : Nat} {x : Int32} {W_sc_placesThatAre : Int32 → (Nat → Int32) → Int32} {W_sc_lostValue : Int32 → (Nat → Int32) → Int32} : zseg X zFT (zEx 76 (P_sc_placesThatAre W_sc_placesThatAre) (zEx 85 (P_sc_lostValue W_sc_lostValue) zE0)) zc_134 (fun _ => false) 400 0 [.ref 0, .int x] [] (ar, fi, (31, m2, m3, m4, m5)) = (
  bif decide (x = 0) then
   some (.inr (some (.int (fi 2 9)), (ar, fi, (31, m2, m3, m4, m5))))
  else
   bif decide (x = 1) then
    some (.inr (some (.int (fi 2 6)), (ar, fi, (31, m2, m3, m4, m5))))
   else
    bif decide (x = 2) then
     some (.inr (some (.int (fi 2 7)), (ar, fi, (31, m2, m3, m4, m5))))
    else
     bif decide (x = 3) then
      some (.inr (some (.int (W_sc_placesThatAre 1 (ar 4))), (ar, fi, (31, m2, m3, m4, m5))))
     else
      bif decide (x = 4) then
       some (.inr (some (.int (W_sc_placesThatAre 2 (ar 4))), (ar, fi, (31, m2, m3, m4, m5))))
      else
       bif decide (x = 5) then
        some (.inr (some (.int (fi 2 8)), (ar, fi, (31, m2, m3, m4, m5))))
       else
        bif decide (x = 6) then
         some (.inr (some (.int (fi 31 9)), (ar, fi, (31, m2, m3, m4, m5))))
        else
         bif decide (x = 7) then
          some (.inr (some (.int (fi 0 1)), (ar, fi, (31, m2, m3, m4, m5))))
         else
          bif decide (x = 8) then
           some (.inr (some (.int (fi 2 10)), (ar, fi, (31, m2, m3, m4, m5))))
          else
           bif decide (x = 9) then
            some (.inr (some (.int (W_sc_lostValue (fi 2 7) (ar 7))), (ar, fi, (31, m2, m3, m4, m5))))
           else
            some (.inr (some (.int (-1)), (ar, fi, (31, m2, m3, m4, m5)))) : Option ((Nat × List Value × List Value × zH2) ⊕ zO2)) := by with_unfolding_all rfl
set_option maxRecDepth 10000 in
theorem e_if_count_0_v1 {X : Nat × (Nat → Int32)} {ar fi : Nat → Nat → Int32} {m2 m3 m4 m5 : Nat} {x : Int32} : zseg X zFT (zEx 76 S_sc_placesThatAre (zEx 85 S_sc_lostValue zE0)) zc_134 (fun _ => false) 400 0 [.ref 0, .int x] [] (ar, fi, (31, m2, m3, m4, m5)) = some (.inr (some (.int (w_if_count x (fi 2 9) (fi 2 6) (fi 2 7) (ar 4) (fi 2 8) (fi 31 9) (fi 0 1) (fi 2 10) (ar 7))), (ar, fi, (31, m2, m3, m4, m5)))) := by
  rw [t_if_count_0_v1]
  unfold w_if_count
  simp only [zm_s, zm_r, zm_p, zm_i, zm_e]
theorem ok_if_count (X : Nat × (Nat → Int32)) : zOkS X 134 S_if_count 3 := zOkS_new (zOkE_cons (ok_sc_placesThatAre X) (by decide) (zOkE_cons (ok_sc_lostValue X) (by decide) (zOkE_nil X 2))) (by
  intro args g o h
  obtain ⟨ar, fi, m1, m2, m3, m4, m5⟩ := g
  unfold S_if_count P_if_count at h
  split at h
  · refine zb_el h (fun hI0 k0 => ?_) (fun _ h10 => ?_)
    · have h2 := Option.some.inj k0
      have hG := congrArg Prod.fst h2
      have ho := congrArg Prod.snd h2
      dsimp only at hG ho
      subst ho
      try simp only [Bool.and_eq_true] at hI0
      obtain ⟨j0, j1⟩ := hI0
      have e0 := Nat.eq_of_beq_eq_true j0
      subst e0
      have e9 : m1 = 23 := Nat.eq_of_beq_eq_true j1
      subst e9
      exact zseg_ret (e_if_count_0_v0)
    · skip
      refine zb_el h10 (fun hI1 k1 => ?_) (fun _ h11 => ?_)
      · have h2 := Option.some.inj k1
        have hG := congrArg Prod.fst h2
        have ho := congrArg Prod.snd h2
        dsimp only at hG ho
        subst ho
        try simp only [Bool.and_eq_true] at hI1
        obtain ⟨j0, j1⟩ := hI1
        have e0 := Nat.eq_of_beq_eq_true j0
        subst e0
        have e9 : m1 = 31 := Nat.eq_of_beq_eq_true j1
        subst e9
        exact zseg_ret (e_if_count_0_v1)
      · cases h11
  · cases h)
def g_md_feels (x : Int32) (y : Int32) (z : Int32) (u : Int32) (p0 : Nat → Int32) (p1 : Nat → Int32) : Bool := (zin 0 9) && ((zin 1 9) && ((g_md_burnNextTo x p0) && ((zin 2 9) && ((zin 3 9) && ((zin 4 9) && ((zin 5 9) && ((zin 312 315) && ((zin 6 9) && ((zin 313 315) && ((zin 7 9) && (zin 8 9)))))))))))
def a0_md_feels (x : Int32) (y : Int32) (z : Int32) (u : Int32) (p0 : Nat → Int32) (p1 : Nat → Int32) : Nat → Int32 := (zup (zup (zup (zup (zup (zup (zup (zup (zup p1 ((0 : Int32).toNatClampNeg) x) ((1 : Int32).toNatClampNeg) y) ((2 : Int32).toNatClampNeg) (w_md_burnNextTo x p0)) ((3 : Int32).toNatClampNeg) (w_md_valuesAt x p0)) ((4 : Int32).toNatClampNeg) (w_md_sumsAt x p0)) ((5 : Int32).toNatClampNeg) z) ((6 : Int32).toNatClampNeg) (p0 ((312 : Int32).toNatClampNeg))) ((7 : Int32).toNatClampNeg) ((p0 ((313 : Int32).toNatClampNeg)) - (p0 ((313 : Int32).toNatClampNeg)) / 100 * 100)) ((8 : Int32).toNatClampNeg) u)
def P_md_feels (G : Int32 → Int32 → Int32 → Int32 → (Nat → Int32) → (Nat → Int32) → Bool) (A0 : Int32 → Int32 → Int32 → Int32 → (Nat → Int32) → (Nat → Int32) → Nat → Int32) : zSp := fun as g => match as with
  | [.ref a, .int x, .int y, .int z, .int u] => bif Nat.beq a 64 then some (G x y z u (g.1 65) (g.1 83), (none, ((zup g.1 83 (A0 x y z u (g.1 65) (g.1 83))), g.2.1, g.2.2))) else none
  | _ => none
abbrev S_md_feels : zSp := P_md_feels g_md_feels a0_md_feels
set_option maxRecDepth 10000 in
theorem t_md_feels {X : Nat × (Nat → Int32)} {ar fi : Nat → Nat → Int32} {m1 m2 m3 m4 m5 : Nat} {x y z u : Int32} {G_md_burnNextTo : Int32 → (Nat → Int32) → Bool} {W_md_burnNextTo : Int32 → (Nat → Int32) → Int32} {W_md_valuesAt : Int32 → (Nat → Int32) → Int32} {W_md_sumsAt : Int32 → (Nat → Int32) → Int32} : zseg X zFT (zEx 199 (P_md_burnNextTo G_md_burnNextTo W_md_burnNextTo) (zEx 197 (P_md_valuesAt W_md_valuesAt) (zEx 198 (P_md_sumsAt W_md_sumsAt) zE0))) zc_200 (fun _ => false) 400 0 [.ref 64, .int x, .int y, .int z, .int u] [] (ar, fi, (m1, m2, m3, m4, m5)) = (
  zg (zin 0 9) (
  zg (zin 1 9) (
  zg (G_md_burnNextTo x (ar 65)) (
  zg (zin 2 9) (
  zg (zin 3 9) (
  zg (zin 4 9) (
  zg (zin 5 9) (
  zg (zin 312 315) (
  zg (zin 6 9) (
  zg (zin 313 315) (
  zg (zin 7 9) (
  zg (zin 8 9) (
  some (.inr (none, ((zup (zup (zup (zup (zup (zup (zup (zup (zup ar 83 (zup (ar 83) ((0 : Int32).toNatClampNeg) x)) 83 (zup (zup (ar 83) ((0 : Int32).toNatClampNeg) x) ((1 : Int32).toNatClampNeg) y)) 83 (zup (zup (zup (ar 83) ((0 : Int32).toNatClampNeg) x) ((1 : Int32).toNatClampNeg) y) ((2 : Int32).toNatClampNeg) (W_md_burnNextTo x (ar 65)))) 83 (zup (zup (zup (zup (ar 83) ((0 : Int32).toNatClampNeg) x) ((1 : Int32).toNatClampNeg) y) ((2 : Int32).toNatClampNeg) (W_md_burnNextTo x (ar 65))) ((3 : Int32).toNatClampNeg) (W_md_valuesAt x (ar 65)))) 83 (zup (zup (zup (zup (zup (ar 83) ((0 : Int32).toNatClampNeg) x) ((1 : Int32).toNatClampNeg) y) ((2 : Int32).toNatClampNeg) (W_md_burnNextTo x (ar 65))) ((3 : Int32).toNatClampNeg) (W_md_valuesAt x (ar 65))) ((4 : Int32).toNatClampNeg) (W_md_sumsAt x (ar 65)))) 83 (zup (zup (zup (zup (zup (zup (ar 83) ((0 : Int32).toNatClampNeg) x) ((1 : Int32).toNatClampNeg) y) ((2 : Int32).toNatClampNeg) (W_md_burnNextTo x (ar 65))) ((3 : Int32).toNatClampNeg) (W_md_valuesAt x (ar 65))) ((4 : Int32).toNatClampNeg) (W_md_sumsAt x (ar 65))) ((5 : Int32).toNatClampNeg) z)) 83 (zup (zup (zup (zup (zup (zup (zup (ar 83) ((0 : Int32).toNatClampNeg) x) ((1 : Int32).toNatClampNeg) y) ((2 : Int32).toNatClampNeg) (W_md_burnNextTo x (ar 65))) ((3 : Int32).toNatClampNeg) (W_md_valuesAt x (ar 65))) ((4 : Int32).toNatClampNeg) (W_md_sumsAt x (ar 65))) ((5 : Int32).toNatClampNeg) z) ((6 : Int32).toNatClampNeg) ((ar 65) ((312 : Int32).toNatClampNeg)))) 83 (zup (zup (zup (zup (zup (zup (zup (zup (ar 83) ((0 : Int32).toNatClampNeg) x) ((1 : Int32).toNatClampNeg) y) ((2 : Int32).toNatClampNeg) (W_md_burnNextTo x (ar 65))) ((3 : Int32).toNatClampNeg) (W_md_valuesAt x (ar 65))) ((4 : Int32).toNatClampNeg) (W_md_sumsAt x (ar 65))) ((5 : Int32).toNatClampNeg) z) ((6 : Int32).toNatClampNeg) ((ar 65) ((312 : Int32).toNatClampNeg))) ((7 : Int32).toNatClampNeg) (((ar 65) ((313 : Int32).toNatClampNeg)) - ((ar 65) ((313 : Int32).toNatClampNeg)) / 100 * 100))) 83 (zup (zup (zup (zup (zup (zup (zup (zup (zup (ar 83) ((0 : Int32).toNatClampNeg) x) ((1 : Int32).toNatClampNeg) y) ((2 : Int32).toNatClampNeg) (W_md_burnNextTo x (ar 65))) ((3 : Int32).toNatClampNeg) (W_md_valuesAt x (ar 65))) ((4 : Int32).toNatClampNeg) (W_md_sumsAt x (ar 65))) ((5 : Int32).toNatClampNeg) z) ((6 : Int32).toNatClampNeg) ((ar 65) ((312 : Int32).toNatClampNeg))) ((7 : Int32).toNatClampNeg) (((ar 65) ((313 : Int32).toNatClampNeg)) - ((ar 65) ((313 : Int32).toNatClampNeg)) / 100 * 100)) ((8 : Int32).toNatClampNeg) u)), fi, (m1, m2, m3, m4, m5)))))))))))))))) : Option ((Nat × List Value × List Value × zH2) ⊕ zO2)) := rfl
set_option maxRecDepth 10000 in
theorem e_md_feels {X : Nat × (Nat → Int32)} {ar fi : Nat → Nat → Int32} {m1 m2 m3 m4 m5 : Nat} {x y z u : Int32} (hG : g_md_feels x y z u (ar 65) (ar 83) = true) : zseg X zFT (zEx 199 S_md_burnNextTo (zEx 197 S_md_valuesAt (zEx 198 S_md_sumsAt zE0))) zc_200 (fun _ => false) 400 0 [.ref 64, .int x, .int y, .int z, .int u] [] (ar, fi, (m1, m2, m3, m4, m5)) = some (.inr (none, ((zup ar 83 (a0_md_feels x y z u (ar 65) (ar 83))), fi, (m1, m2, m3, m4, m5)))) := by
  rw [t_md_feels]
  unfold g_md_feels at hG
  unfold a0_md_feels
  all_goals try simp only [Bool.and_eq_true, Bool.true_and, Bool.and_true] at hG
  all_goals try simp only [hG, zg, cond_true, and_self]
  all_goals first | rfl | (refine congrArg some (congrArg Sum.inr (Prod.ext rfl (Prod.ext ?_ (Prod.ext ?_ rfl)))) <;> first | rfl | (funext b; simp only [zup]; (repeat' split) <;> first | rfl | omega | (subst_vars; rfl) | (subst_vars; funext k; simp only [zup]; (repeat' split) <;> first | rfl | omega | (subst_vars; rfl) | (simp_all; done))))
theorem ok_md_feels (X : Nat × (Nat → Int32)) : zOkS X 200 S_md_feels 5 := zOkS_new (zOkE_cons (ok_md_burnNextTo X) (by decide) (zOkE_cons (ok_md_valuesAt X) (by decide) (zOkE_cons (ok_md_sumsAt X) (by decide) (zOkE_nil X 4)))) (by
  intro args g o h
  obtain ⟨ar, fi, m1, m2, m3, m4, m5⟩ := g
  unfold S_md_feels P_md_feels at h
  split at h
  · refine zb_el h (fun hI0 k0 => ?_) (fun _ h10 => ?_)
    · have h2 := Option.some.inj k0
      have hG := congrArg Prod.fst h2
      have ho := congrArg Prod.snd h2
      dsimp only at hG ho
      subst ho
      try simp only [Bool.and_eq_true] at hI0
      have j0 := hI0
      have e0 := Nat.eq_of_beq_eq_true j0
      subst e0
      exact zseg_ret (e_md_feels hG)
    · cases h10
  · cases h)
def g_md_placeIs (x : Int32) (y : Int32) (z : Int32) (p0 : Nat → Int32) (p1 : Nat → Int32) : Bool := bif !decide (w_md_isSpot x y = 0) then bif decide (z = 0) then zin ((12 * y) + x) 96 else bif decide (z = 1) then zin (0 + ((12 * y) + x)) 315 else bif decide (z = 2) then zin (96 + ((12 * y) + x)) 315 else true else true
def w_md_placeIs (x : Int32) (y : Int32) (z : Int32) (p0 : Nat → Int32) (p1 : Nat → Int32) : Int32 := (bif !decide (w_md_isSpot x y = 0) then (bif decide (z = 0) then p0 (((12 * y) + x).toNatClampNeg) else (bif decide (z = 1) then p1 ((0 + ((12 * y) + x)).toNatClampNeg) else (bif decide (z = 2) then p1 ((96 + ((12 * y) + x)).toNatClampNeg) else (bif decide (z = 3) then w_md_thingsAt ((12 * y) + x) p1 else (bif decide (z = 4) then w_md_valuesAt ((12 * y) + x) p1 else (bif decide (z = 5) then w_md_sumsAt ((12 * y) + x) p1 else (-1))))))) else (-1))
def P_md_placeIs (G : Int32 → Int32 → Int32 → (Nat → Int32) → (Nat → Int32) → Bool) (W : Int32 → Int32 → Int32 → (Nat → Int32) → (Nat → Int32) → Int32) : zSp := fun as g => match as with
  | [.ref a, .int x, .int y, .int z] => bif Nat.beq a 64 then some (G x y z (g.1 68) (g.1 65), (some (.int (W x y z (g.1 68) (g.1 65))), (g.1, g.2.1, g.2.2))) else none
  | _ => none
abbrev S_md_placeIs : zSp := P_md_placeIs g_md_placeIs w_md_placeIs
set_option maxRecDepth 10000 in
theorem t_md_placeIs {X : Nat × (Nat → Int32)} {ar fi : Nat → Nat → Int32} {m1 m2 m3 m4 m5 : Nat} {x y z : Int32} {W_md_isSpot : Int32 → Int32 → Int32} {W_md_thingsAt : Int32 → (Nat → Int32) → Int32} {W_md_valuesAt : Int32 → (Nat → Int32) → Int32} {W_md_sumsAt : Int32 → (Nat → Int32) → Int32} : zseg X zFT (zEx 150 (P_md_isSpot W_md_isSpot) (zEx 212 (P_md_thingsAt W_md_thingsAt) (zEx 197 (P_md_valuesAt W_md_valuesAt) (zEx 198 (P_md_sumsAt W_md_sumsAt) zE0)))) zc_213 (fun _ => false) 400 0 [.ref 64, .int x, .int y, .int z] [] (ar, fi, (m1, m2, m3, m4, m5)) = (
  bif !decide (W_md_isSpot x y = 0) then
   bif decide (z = 0) then
    zg (zin ((12 * y) + x) 96) (
    some (.inr (some (.int ((ar 68) (((12 * y) + x).toNatClampNeg))), (ar, fi, (m1, m2, m3, m4, m5)))))
   else
    bif decide (z = 1) then
     zg (zin (0 + ((12 * y) + x)) 315) (
     some (.inr (some (.int ((ar 65) ((0 + ((12 * y) + x)).toNatClampNeg))), (ar, fi, (m1, m2, m3, m4, m5)))))
    else
     bif decide (z = 2) then
      zg (zin (96 + ((12 * y) + x)) 315) (
      some (.inr (some (.int ((ar 65) ((96 + ((12 * y) + x)).toNatClampNeg))), (ar, fi, (m1, m2, m3, m4, m5)))))
     else
      bif decide (z = 3) then
       some (.inr (some (.int (W_md_thingsAt ((12 * y) + x) (ar 65))), (ar, fi, (m1, m2, m3, m4, m5))))
      else
       bif decide (z = 4) then
        some (.inr (some (.int (W_md_valuesAt ((12 * y) + x) (ar 65))), (ar, fi, (m1, m2, m3, m4, m5))))
       else
        bif decide (z = 5) then
         some (.inr (some (.int (W_md_sumsAt ((12 * y) + x) (ar 65))), (ar, fi, (m1, m2, m3, m4, m5))))
        else
         some (.inr (some (.int (-1)), (ar, fi, (m1, m2, m3, m4, m5))))
  else
   some (.inr (some (.int (-1)), (ar, fi, (m1, m2, m3, m4, m5)))) : Option ((Nat × List Value × List Value × zH2) ⊕ zO2)) := by with_unfolding_all rfl
set_option maxRecDepth 10000 in
theorem e_md_placeIs {X : Nat × (Nat → Int32)} {ar fi : Nat → Nat → Int32} {m1 m2 m3 m4 m5 : Nat} {x y z : Int32} (hG : g_md_placeIs x y z (ar 68) (ar 65) = true) : zseg X zFT (zEx 150 S_md_isSpot (zEx 212 S_md_thingsAt (zEx 197 S_md_valuesAt (zEx 198 S_md_sumsAt zE0)))) zc_213 (fun _ => false) 400 0 [.ref 64, .int x, .int y, .int z] [] (ar, fi, (m1, m2, m3, m4, m5)) = some (.inr (some (.int (w_md_placeIs x y z (ar 68) (ar 65))), (ar, fi, (m1, m2, m3, m4, m5)))) := by
  rw [t_md_placeIs]
  unfold g_md_placeIs at hG
  unfold w_md_placeIs
  cases hc1 : (!decide (w_md_isSpot x y = 0)) with
  | true =>
    try simp only [hc1, cond_true, cond_false] at hG ⊢
    cases hc2 : (decide (z = 0)) with
    | true =>
      try simp only [hc2, cond_true, cond_false] at hG ⊢
      all_goals try simp only [Bool.and_eq_true, Bool.true_and, Bool.and_true] at hG
      all_goals try simp only [hG, zg, cond_true, and_self]
      all_goals first | rfl | (refine congrArg some (congrArg Sum.inr (Prod.ext rfl (Prod.ext ?_ (Prod.ext ?_ rfl)))) <;> first | rfl | (funext b; simp only [zup]; (repeat' split) <;> first | rfl | omega | (subst_vars; rfl) | (subst_vars; funext k; simp only [zup]; (repeat' split) <;> first | rfl | omega | (subst_vars; rfl) | (simp_all; done))))
    | false =>
      try simp only [hc2, cond_true, cond_false] at hG ⊢
      cases hc3 : (decide (z = 1)) with
      | true =>
        try simp only [hc3, cond_true, cond_false] at hG ⊢
        all_goals try simp only [Bool.and_eq_true, Bool.true_and, Bool.and_true] at hG
        all_goals try simp only [hG, zg, cond_true, and_self]
        all_goals first | rfl | (refine congrArg some (congrArg Sum.inr (Prod.ext rfl (Prod.ext ?_ (Prod.ext ?_ rfl)))) <;> first | rfl | (funext b; simp only [zup]; (repeat' split) <;> first | rfl | omega | (subst_vars; rfl) | (subst_vars; funext k; simp only [zup]; (repeat' split) <;> first | rfl | omega | (subst_vars; rfl) | (simp_all; done))))
      | false =>
        try simp only [hc3, cond_true, cond_false] at hG ⊢
        cases hc4 : (decide (z = 2)) with
        | true =>
          try simp only [hc4, cond_true, cond_false] at hG ⊢
          all_goals try simp only [Bool.and_eq_true, Bool.true_and, Bool.and_true] at hG
          all_goals try simp only [hG, zg, cond_true, and_self]
          all_goals first | rfl | (refine congrArg some (congrArg Sum.inr (Prod.ext rfl (Prod.ext ?_ (Prod.ext ?_ rfl)))) <;> first | rfl | (funext b; simp only [zup]; (repeat' split) <;> first | rfl | omega | (subst_vars; rfl) | (subst_vars; funext k; simp only [zup]; (repeat' split) <;> first | rfl | omega | (subst_vars; rfl) | (simp_all; done))))
        | false =>
          try simp only [hc4, cond_true, cond_false] at hG ⊢
          cases hc5 : (decide (z = 3)) with
          | true =>
            try simp only [hc5, cond_true, cond_false] at hG ⊢
            all_goals try simp only [Bool.and_eq_true, Bool.true_and, Bool.and_true] at hG
            all_goals try simp only [hG, zg, cond_true, and_self]
            all_goals first | rfl | (refine congrArg some (congrArg Sum.inr (Prod.ext rfl (Prod.ext ?_ (Prod.ext ?_ rfl)))) <;> first | rfl | (funext b; simp only [zup]; (repeat' split) <;> first | rfl | omega | (subst_vars; rfl) | (subst_vars; funext k; simp only [zup]; (repeat' split) <;> first | rfl | omega | (subst_vars; rfl) | (simp_all; done))))
          | false =>
            try simp only [hc5, cond_true, cond_false] at hG ⊢
            cases hc6 : (decide (z = 4)) with
            | true =>
              try simp only [hc6, cond_true, cond_false] at hG ⊢
              all_goals try simp only [Bool.and_eq_true, Bool.true_and, Bool.and_true] at hG
              all_goals try simp only [hG, zg, cond_true, and_self]
              all_goals first | rfl | (refine congrArg some (congrArg Sum.inr (Prod.ext rfl (Prod.ext ?_ (Prod.ext ?_ rfl)))) <;> first | rfl | (funext b; simp only [zup]; (repeat' split) <;> first | rfl | omega | (subst_vars; rfl) | (subst_vars; funext k; simp only [zup]; (repeat' split) <;> first | rfl | omega | (subst_vars; rfl) | (simp_all; done))))
            | false =>
              try simp only [hc6, cond_true, cond_false] at hG ⊢
              cases hc7 : (decide (z = 5)) with
              | true =>
                try simp only [hc7, cond_true, cond_false] at hG ⊢
                all_goals try simp only [Bool.and_eq_true, Bool.true_and, Bool.and_true] at hG
                all_goals try simp only [hG, zg, cond_true, and_self]
                all_goals first | rfl | (refine congrArg some (congrArg Sum.inr (Prod.ext rfl (Prod.ext ?_ (Prod.ext ?_ rfl)))) <;> first | rfl | (funext b; simp only [zup]; (repeat' split) <;> first | rfl | omega | (subst_vars; rfl) | (subst_vars; funext k; simp only [zup]; (repeat' split) <;> first | rfl | omega | (subst_vars; rfl) | (simp_all; done))))
              | false =>
                try simp only [hc7, cond_true, cond_false] at hG ⊢
                all_goals try simp only [Bool.and_eq_true, Bool.true_and, Bool.and_true] at hG
                all_goals try simp only [hG, zg, cond_true, and_self]
                all_goals first | rfl | (refine congrArg some (congrArg Sum.inr (Prod.ext rfl (Prod.ext ?_ (Prod.ext ?_ rfl)))) <;> first | rfl | (funext b; simp only [zup]; (repeat' split) <;> first | rfl | omega | (subst_vars; rfl) | (subst_vars; funext k; simp only [zup]; (repeat' split) <;> first | rfl | omega | (subst_vars; rfl) | (simp_all; done))))
  | false =>
    try simp only [hc1, cond_true, cond_false] at hG ⊢
    all_goals try simp only [Bool.and_eq_true, Bool.true_and, Bool.and_true] at hG
    all_goals try simp only [hG, zg, cond_true, and_self]
    all_goals first | rfl | (refine congrArg some (congrArg Sum.inr (Prod.ext rfl (Prod.ext ?_ (Prod.ext ?_ rfl)))) <;> first | rfl | (funext b; simp only [zup]; (repeat' split) <;> first | rfl | omega | (subst_vars; rfl) | (subst_vars; funext k; simp only [zup]; (repeat' split) <;> first | rfl | omega | (subst_vars; rfl) | (simp_all; done))))
theorem ok_md_placeIs (X : Nat × (Nat → Int32)) : zOkS X 213 S_md_placeIs 5 := zOkS_new (zOkE_cons (ok_md_isSpot X) (by decide) (zOkE_cons (ok_md_thingsAt X) (by decide) (zOkE_cons (ok_md_valuesAt X) (by decide) (zOkE_cons (ok_md_sumsAt X) (by decide) (zOkE_nil X 4))))) (by
  intro args g o h
  obtain ⟨ar, fi, m1, m2, m3, m4, m5⟩ := g
  unfold S_md_placeIs P_md_placeIs at h
  split at h
  · refine zb_el h (fun hI0 k0 => ?_) (fun _ h10 => ?_)
    · have h2 := Option.some.inj k0
      have hG := congrArg Prod.fst h2
      have ho := congrArg Prod.snd h2
      dsimp only at hG ho
      subst ho
      try simp only [Bool.and_eq_true] at hI0
      have j0 := hI0
      have e0 := Nat.eq_of_beq_eq_true j0
      subst e0
      exact zseg_ret (e_md_placeIs hG)
    · cases h10
  · cases h)
def g_md_count (x : Int32) (p0 : Nat → Int32) (p1 : Int32) (p2 : Int32) : Bool := bif decide (x = 0) then zin 313 315 else bif decide (x = 1) then true else bif decide (x = 2) then true else bif decide (x = 3) then true else bif decide (x = 4) then true else bif decide (x = 5) then zin 312 315 else bif decide (x = 6) then true else bif decide (x = 7) then true else bif decide (x = 8) then zin 314 315 else true
def w_md_count (x : Int32) (p0 : Nat → Int32) (p1 : Int32) (p2 : Int32) : Int32 := (bif decide (x = 0) then p0 ((313 : Int32).toNatClampNeg) else (bif decide (x = 1) then w_md_toldSet p0 else (bif decide (x = 2) then w_md_goneSet p0 else (bif decide (x = 3) then w_md_faring 1 p0 else (bif decide (x = 4) then w_md_faring 2 p0 else (bif decide (x = 5) then p0 ((312 : Int32).toNatClampNeg) else (bif decide (x = 6) then p1 else (bif decide (x = 7) then p2 else (bif decide (x = 8) then p0 ((314 : Int32).toNatClampNeg) else (bif decide (x = 9) then w_md_lostAll p0 else (-1)))))))))))
def P_md_count (G : Int32 → (Nat → Int32) → Int32 → Int32 → Bool) (W : Int32 → (Nat → Int32) → Int32 → Int32 → Int32) : zSp := fun as g => match as with
  | [.ref a, .int x] => bif Nat.beq a 64 then some (G x (g.1 65) (g.2.1 64 15) (g.2.1 64 6), (some (.int (W x (g.1 65) (g.2.1 64 15) (g.2.1 64 6))), (g.1, g.2.1, g.2.2))) else none
  | _ => none
abbrev S_md_count : zSp := P_md_count g_md_count w_md_count
set_option maxRecDepth 10000 in
theorem t_md_count {X : Nat × (Nat → Int32)} {ar fi : Nat → Nat → Int32} {m1 m2 m3 m4 m5 : Nat} {x : Int32} {W_md_toldSet : (Nat → Int32) → Int32} {W_md_goneSet : (Nat → Int32) → Int32} {W_md_faring : Int32 → (Nat → Int32) → Int32} {W_md_lostAll : (Nat → Int32) → Int32} : zseg X zFT (zEx 246 (P_md_toldSet W_md_toldSet) (zEx 209 (P_md_goneSet W_md_goneSet) (zEx 207 (P_md_faring W_md_faring) (zEx 247 (P_md_lostAll W_md_lostAll) zE0)))) zc_248 (fun _ => false) 400 0 [.ref 64, .int x] [] (ar, fi, (m1, m2, m3, m4, m5)) = (
  bif decide (x = 0) then
   zg (zin 313 315) (
   some (.inr (some (.int ((ar 65) ((313 : Int32).toNatClampNeg))), (ar, fi, (m1, m2, m3, m4, m5)))))
  else
   bif decide (x = 1) then
    some (.inr (some (.int (W_md_toldSet (ar 65))), (ar, fi, (m1, m2, m3, m4, m5))))
   else
    bif decide (x = 2) then
     some (.inr (some (.int (W_md_goneSet (ar 65))), (ar, fi, (m1, m2, m3, m4, m5))))
    else
     bif decide (x = 3) then
      some (.inr (some (.int (W_md_faring 1 (ar 65))), (ar, fi, (m1, m2, m3, m4, m5))))
     else
      bif decide (x = 4) then
       some (.inr (some (.int (W_md_faring 2 (ar 65))), (ar, fi, (m1, m2, m3, m4, m5))))
      else
       bif decide (x = 5) then
        zg (zin 312 315) (
        some (.inr (some (.int ((ar 65) ((312 : Int32).toNatClampNeg))), (ar, fi, (m1, m2, m3, m4, m5)))))
       else
        bif decide (x = 6) then
         some (.inr (some (.int (fi 64 15)), (ar, fi, (m1, m2, m3, m4, m5))))
        else
         bif decide (x = 7) then
          some (.inr (some (.int (fi 64 6)), (ar, fi, (m1, m2, m3, m4, m5))))
         else
          bif decide (x = 8) then
           zg (zin 314 315) (
           some (.inr (some (.int ((ar 65) ((314 : Int32).toNatClampNeg))), (ar, fi, (m1, m2, m3, m4, m5)))))
          else
           bif decide (x = 9) then
            some (.inr (some (.int (W_md_lostAll (ar 65))), (ar, fi, (m1, m2, m3, m4, m5))))
           else
            some (.inr (some (.int (-1)), (ar, fi, (m1, m2, m3, m4, m5)))) : Option ((Nat × List Value × List Value × zH2) ⊕ zO2)) := by with_unfolding_all rfl
set_option maxRecDepth 10000 in
theorem e_md_count {X : Nat × (Nat → Int32)} {ar fi : Nat → Nat → Int32} {m1 m2 m3 m4 m5 : Nat} {x : Int32} (hG : g_md_count x (ar 65) (fi 64 15) (fi 64 6) = true) : zseg X zFT (zEx 246 S_md_toldSet (zEx 209 S_md_goneSet (zEx 207 S_md_faring (zEx 247 S_md_lostAll zE0)))) zc_248 (fun _ => false) 400 0 [.ref 64, .int x] [] (ar, fi, (m1, m2, m3, m4, m5)) = some (.inr (some (.int (w_md_count x (ar 65) (fi 64 15) (fi 64 6))), (ar, fi, (m1, m2, m3, m4, m5)))) := by
  rw [t_md_count]
  unfold g_md_count at hG
  unfold w_md_count
  cases hc1 : (decide (x = 0)) with
  | true =>
    try simp only [hc1, cond_true, cond_false] at hG ⊢
    all_goals try simp only [Bool.and_eq_true, Bool.true_and, Bool.and_true] at hG
    all_goals try simp only [hG, zg, cond_true, and_self]
    all_goals first | rfl | (refine congrArg some (congrArg Sum.inr (Prod.ext rfl (Prod.ext ?_ (Prod.ext ?_ rfl)))) <;> first | rfl | (funext b; simp only [zup]; (repeat' split) <;> first | rfl | omega | (subst_vars; rfl) | (subst_vars; funext k; simp only [zup]; (repeat' split) <;> first | rfl | omega | (subst_vars; rfl) | (simp_all; done))))
  | false =>
    try simp only [hc1, cond_true, cond_false] at hG ⊢
    cases hc2 : (decide (x = 1)) with
    | true =>
      try simp only [hc2, cond_true, cond_false] at hG ⊢
      all_goals try simp only [Bool.and_eq_true, Bool.true_and, Bool.and_true] at hG
      all_goals try simp only [hG, zg, cond_true, and_self]
      all_goals first | rfl | (refine congrArg some (congrArg Sum.inr (Prod.ext rfl (Prod.ext ?_ (Prod.ext ?_ rfl)))) <;> first | rfl | (funext b; simp only [zup]; (repeat' split) <;> first | rfl | omega | (subst_vars; rfl) | (subst_vars; funext k; simp only [zup]; (repeat' split) <;> first | rfl | omega | (subst_vars; rfl) | (simp_all; done))))
    | false =>
      try simp only [hc2, cond_true, cond_false] at hG ⊢
      cases hc3 : (decide (x = 2)) with
      | true =>
        try simp only [hc3, cond_true, cond_false] at hG ⊢
        all_goals try simp only [Bool.and_eq_true, Bool.true_and, Bool.and_true] at hG
        all_goals try simp only [hG, zg, cond_true, and_self]
        all_goals first | rfl | (refine congrArg some (congrArg Sum.inr (Prod.ext rfl (Prod.ext ?_ (Prod.ext ?_ rfl)))) <;> first | rfl | (funext b; simp only [zup]; (repeat' split) <;> first | rfl | omega | (subst_vars; rfl) | (subst_vars; funext k; simp only [zup]; (repeat' split) <;> first | rfl | omega | (subst_vars; rfl) | (simp_all; done))))
      | false =>
        try simp only [hc3, cond_true, cond_false] at hG ⊢
        cases hc4 : (decide (x = 3)) with
        | true =>
          try simp only [hc4, cond_true, cond_false] at hG ⊢
          all_goals try simp only [Bool.and_eq_true, Bool.true_and, Bool.and_true] at hG
          all_goals try simp only [hG, zg, cond_true, and_self]
          all_goals first | rfl | (refine congrArg some (congrArg Sum.inr (Prod.ext rfl (Prod.ext ?_ (Prod.ext ?_ rfl)))) <;> first | rfl | (funext b; simp only [zup]; (repeat' split) <;> first | rfl | omega | (subst_vars; rfl) | (subst_vars; funext k; simp only [zup]; (repeat' split) <;> first | rfl | omega | (subst_vars; rfl) | (simp_all; done))))
        | false =>
          try simp only [hc4, cond_true, cond_false] at hG ⊢
          cases hc5 : (decide (x = 4)) with
          | true =>
            try simp only [hc5, cond_true, cond_false] at hG ⊢
            all_goals try simp only [Bool.and_eq_true, Bool.true_and, Bool.and_true] at hG
            all_goals try simp only [hG, zg, cond_true, and_self]
            all_goals first | rfl | (refine congrArg some (congrArg Sum.inr (Prod.ext rfl (Prod.ext ?_ (Prod.ext ?_ rfl)))) <;> first | rfl | (funext b; simp only [zup]; (repeat' split) <;> first | rfl | omega | (subst_vars; rfl) | (subst_vars; funext k; simp only [zup]; (repeat' split) <;> first | rfl | omega | (subst_vars; rfl) | (simp_all; done))))
          | false =>
            try simp only [hc5, cond_true, cond_false] at hG ⊢
            cases hc6 : (decide (x = 5)) with
            | true =>
              try simp only [hc6, cond_true, cond_false] at hG ⊢
              all_goals try simp only [Bool.and_eq_true, Bool.true_and, Bool.and_true] at hG
              all_goals try simp only [hG, zg, cond_true, and_self]
              all_goals first | rfl | (refine congrArg some (congrArg Sum.inr (Prod.ext rfl (Prod.ext ?_ (Prod.ext ?_ rfl)))) <;> first | rfl | (funext b; simp only [zup]; (repeat' split) <;> first | rfl | omega | (subst_vars; rfl) | (subst_vars; funext k; simp only [zup]; (repeat' split) <;> first | rfl | omega | (subst_vars; rfl) | (simp_all; done))))
            | false =>
              try simp only [hc6, cond_true, cond_false] at hG ⊢
              cases hc7 : (decide (x = 6)) with
              | true =>
                try simp only [hc7, cond_true, cond_false] at hG ⊢
                all_goals try simp only [Bool.and_eq_true, Bool.true_and, Bool.and_true] at hG
                all_goals try simp only [hG, zg, cond_true, and_self]
                all_goals first | rfl | (refine congrArg some (congrArg Sum.inr (Prod.ext rfl (Prod.ext ?_ (Prod.ext ?_ rfl)))) <;> first | rfl | (funext b; simp only [zup]; (repeat' split) <;> first | rfl | omega | (subst_vars; rfl) | (subst_vars; funext k; simp only [zup]; (repeat' split) <;> first | rfl | omega | (subst_vars; rfl) | (simp_all; done))))
              | false =>
                try simp only [hc7, cond_true, cond_false] at hG ⊢
                cases hc8 : (decide (x = 7)) with
                | true =>
                  try simp only [hc8, cond_true, cond_false] at hG ⊢
                  all_goals try simp only [Bool.and_eq_true, Bool.true_and, Bool.and_true] at hG
                  all_goals try simp only [hG, zg, cond_true, and_self]
                  all_goals first | rfl | (refine congrArg some (congrArg Sum.inr (Prod.ext rfl (Prod.ext ?_ (Prod.ext ?_ rfl)))) <;> first | rfl | (funext b; simp only [zup]; (repeat' split) <;> first | rfl | omega | (subst_vars; rfl) | (subst_vars; funext k; simp only [zup]; (repeat' split) <;> first | rfl | omega | (subst_vars; rfl) | (simp_all; done))))
                | false =>
                  try simp only [hc8, cond_true, cond_false] at hG ⊢
                  cases hc9 : (decide (x = 8)) with
                  | true =>
                    try simp only [hc9, cond_true, cond_false] at hG ⊢
                    all_goals try simp only [Bool.and_eq_true, Bool.true_and, Bool.and_true] at hG
                    all_goals try simp only [hG, zg, cond_true, and_self]
                    all_goals first | rfl | (refine congrArg some (congrArg Sum.inr (Prod.ext rfl (Prod.ext ?_ (Prod.ext ?_ rfl)))) <;> first | rfl | (funext b; simp only [zup]; (repeat' split) <;> first | rfl | omega | (subst_vars; rfl) | (subst_vars; funext k; simp only [zup]; (repeat' split) <;> first | rfl | omega | (subst_vars; rfl) | (simp_all; done))))
                  | false =>
                    try simp only [hc9, cond_true, cond_false] at hG ⊢
                    cases hc10 : (decide (x = 9)) with
                    | true =>
                      try simp only [hc10, cond_true, cond_false] at hG ⊢
                      all_goals try simp only [Bool.and_eq_true, Bool.true_and, Bool.and_true] at hG
                      all_goals try simp only [hG, zg, cond_true, and_self]
                      all_goals first | rfl | (refine congrArg some (congrArg Sum.inr (Prod.ext rfl (Prod.ext ?_ (Prod.ext ?_ rfl)))) <;> first | rfl | (funext b; simp only [zup]; (repeat' split) <;> first | rfl | omega | (subst_vars; rfl) | (subst_vars; funext k; simp only [zup]; (repeat' split) <;> first | rfl | omega | (subst_vars; rfl) | (simp_all; done))))
                    | false =>
                      try simp only [hc10, cond_true, cond_false] at hG ⊢
                      all_goals try simp only [Bool.and_eq_true, Bool.true_and, Bool.and_true] at hG
                      all_goals try simp only [hG, zg, cond_true, and_self]
                      all_goals first | rfl | (refine congrArg some (congrArg Sum.inr (Prod.ext rfl (Prod.ext ?_ (Prod.ext ?_ rfl)))) <;> first | rfl | (funext b; simp only [zup]; (repeat' split) <;> first | rfl | omega | (subst_vars; rfl) | (subst_vars; funext k; simp only [zup]; (repeat' split) <;> first | rfl | omega | (subst_vars; rfl) | (simp_all; done))))
theorem ok_md_count (X : Nat × (Nat → Int32)) : zOkS X 248 S_md_count 5 := zOkS_new (zOkE_cons (ok_md_toldSet X) (by decide) (zOkE_cons (ok_md_goneSet X) (by decide) (zOkE_cons (ok_md_faring X) (by decide) (zOkE_cons (ok_md_lostAll X) (by decide) (zOkE_nil X 4))))) (by
  intro args g o h
  obtain ⟨ar, fi, m1, m2, m3, m4, m5⟩ := g
  unfold S_md_count P_md_count at h
  split at h
  · refine zb_el h (fun hI0 k0 => ?_) (fun _ h10 => ?_)
    · have h2 := Option.some.inj k0
      have hG := congrArg Prod.fst h2
      have ho := congrArg Prod.snd h2
      dsimp only at hG ho
      subst ho
      try simp only [Bool.and_eq_true] at hI0
      have j0 := hI0
      have e0 := Nat.eq_of_beq_eq_true j0
      subst e0
      exact zseg_ret (e_md_count hG)
    · cases h10
  · cases h)
