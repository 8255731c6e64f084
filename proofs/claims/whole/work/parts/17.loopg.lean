def b_gr_clear (p0 : Nat → Int32) (k : Nat) (s : (Nat → Int32)) : (Nat → Int32) := (zup s ((nI k).toNatClampNeg) (-1))
def z_gr_clear (p0 : Nat → Int32) : (Nat → Int32) := zfo (b_gr_clear p0) 96 0 p0
def a0_gr_clear (p0 : Nat → Int32) : Nat → Int32 := (z_gr_clear p0)
def f0_gr_clear (p0 : Nat → Int32) : Int32 := 0
def f1_gr_clear (p0 : Nat → Int32) : Int32 := 0
theorem h_gr_clear (p0 : Nat → Int32) (k : Nat) (s : (Nat → Int32)) (hk : k < 96) : (zin (nI k) 96) = true := by
  exact zin_nI hk (by omega)
def P_gr_clear (A0 : (Nat → Int32) → Nat → Int32) (F0 : (Nat → Int32) → Int32) (F1 : (Nat → Int32) → Int32) : zSp := fun as g => match as with
  | [.ref a] => bif Nat.beq a 52 then some (true, (none, ((zup g.1 53 (A0 (g.1 53))), (zup (zup g.2.1 52 (zup (g.2.1 52) 1 (F0 (g.1 53)))) 52 (zup ((zup g.2.1 52 (zup (g.2.1 52) 1 (F0 (g.1 53)))) 52) 3 (F1 (g.1 53)))), g.2.2))) else none
  | _ => none
abbrev S_gr_clear : zSp := P_gr_clear a0_gr_clear f0_gr_clear f1_gr_clear
set_option maxRecDepth 10000 in
theorem t0_gr_clear {X : Nat × (Nat → Int32)} {ar fi : Nat → Nat → Int32} {m1 m2 m3 m4 m5 : Nat} : zseg X zFT zE0 zc_26 (fun p => Nat.beq p 2) 400 0 [.ref 52] [] (ar, fi, (m1, m2, m3, m4, m5)) = (
  some (.inl (2, [.ref 52, .int 0], [], (ar, fi, (m1, m2, m3, m4, m5)))) : Option ((Nat × List Value × List Value × zH2) ⊕ zO2)) := by with_unfolding_all rfl
set_option maxRecDepth 10000 in
theorem t1_gr_clear {X : Nat × (Nat → Int32)} {ar fi : Nat → Nat → Int32} {m1 m2 m3 m4 m5 : Nat} {S0 : Nat → Int32} {K : Int32} : zseg X zFT zE0 zc_26 (fun p => Nat.beq p 2) 400 2 [.ref 52, .int K] [] ((zup ar 53 S0), fi, (m1, m2, m3, m4, m5)) = (
  bif decide (96 ≤ K) then
   some (.inr (none, ((zup ar 53 S0), (zup (zup fi 52 (zup (fi 52) 1 0)) 52 (zup ((zup fi 52 (zup (fi 52) 1 0)) 52) 3 0)), (m1, m2, m3, m4, m5))))
  else
   zg (zin K 96) (
   some (.inl (2, [.ref 52, .int (K + 1)], [], ((zup (zup ar 53 S0) 53 (zup S0 (K.toNatClampNeg) (-1))), fi, (m1, m2, m3, m4, m5))))) : Option ((Nat × List Value × List Value × zH2) ⊕ zO2)) := by with_unfolding_all rfl
set_option maxRecDepth 10000 in
theorem e_gr_clear {X : Nat × (Nat → Int32)} {ar fi : Nat → Nat → Int32} {m1 m2 m3 m4 m5 : Nat} : zR2 X zFT zE0 (zC 26) 0 [.ref 52] [] (ar, fi, (m1, m2, m3, m4, m5)) (none, ((zup ar 53 (a0_gr_clear (ar 53))), (zup (zup fi 52 (zup (fi 52) 1 (f0_gr_clear (ar 53)))) 52 (zup ((zup fi 52 (zup (fi 52) 1 (f0_gr_clear (ar 53)))) 52) 3 (f1_gr_clear (ar 53)))), (m1, m2, m3, m4, m5))) := by
  refine zseg_go ?_ t0_gr_clear
  have hl := zR2_loop (X := X) (FT := zFT) (E := zE0) (c := zC 26) (o := (none, ((zup ar 53 (a0_gr_clear (ar 53))), (zup (zup fi 52 (zup (fi 52) 1 (f0_gr_clear (ar 53)))) 52 (zup ((zup fi 52 (zup (fi 52) 1 (f0_gr_clear (ar 53)))) 52) 3 (f1_gr_clear (ar 53)))), (m1, m2, m3, m4, m5)))) (σ := (Nat → Int32)) (fun k s => (2, [.ref 52, .int (nI k)], [], ((zup ar 53 s), fi, (m1, m2, m3, m4, m5)))) (b_gr_clear (ar 53)) (fun _ _ => True) 96 0 (ar 53) trivial (fun k s h1 h2 _ => ⟨⟨(fun p => Nat.beq p 2), 400, ?_⟩, trivial⟩) ?_
  · dsimp only at hl ⊢
    try simp only [zup_zup, zup_same, zup_self] at hl ⊢
    exact hl
  · have hk : k < 96 := by omega
    refine t1_gr_clear.trans ?_
    rw [show (decide (96 ≤ nI k)) = false from decide_eq_false (show ¬ ((96 : Int32) ≤ nI k) from nI_ge (b := 96) hk (by omega))]
    have hG := h_gr_clear (ar 53) k s hk
    unfold b_gr_clear
    rw [← nI_1 k]
    simp only [cond_false]
    all_goals try simp only [Bool.and_eq_true, Bool.true_and, Bool.and_true] at hG
    all_goals try simp only [hG, zg, cond_true, and_self]
    all_goals try simp (disch := decide) only [zup_sort, zup_zup, zup_same, zup_self]
    all_goals rfl
  · refine zseg_ret (stops := (fun p => Nat.beq p 2)) (n := 400) (t1_gr_clear.trans ?_)
    rw [show (decide (96 ≤ nI (0 + 96))) = true from by decide]
    simp only [cond_true, a0_gr_clear, f0_gr_clear, f1_gr_clear, z_gr_clear]
    try simp (disch := decide) only [zup_sort, zup_zup, zup_same, zup_self]
    all_goals rfl
theorem ok_gr_clear (X : Nat × (Nat → Int32)) : zOkS X 26 S_gr_clear 1 := zOkS_new (zOkE_nil X 0) (by
  intro args g o h
  obtain ⟨ar, fi, m1, m2, m3, m4, m5⟩ := g
  unfold S_gr_clear P_gr_clear at h
  split at h
  · refine zb_el h (fun hI0 k0 => ?_) (fun _ h10 => ?_)
    · have h2 := Option.some.inj k0
      have hG := congrArg Prod.fst h2
      have ho := congrArg Prod.snd h2
      dsimp only at hG ho
      subst ho
      try simp only [Bool.and_eq_true] at hI0
      have j0 := hI0
      have e0 := Nat.eq_of_beq_eq_true j0
      subst e0
      exact e_gr_clear
    · cases h10
  · cases h)
