theorem zup_skip {α : Type} {f : Nat → α} {a b : Nat} {x : α} (h : b ≠ a) : zup (zup f a x) b (f b) = zup f a x := by
  have h1 : f b = zup f a x b := (zup_ne h).symm
  rw [h1]
  exact zup_self
theorem zup_skip2 {α : Type} {f : Nat → α} {a b c : Nat} {x y : α} (h1 : c ≠ a) (h2 : c ≠ b) : zup (zup (zup f a x) b y) c (f c) = zup (zup f a x) b y := by
  have h3 : f c = zup (zup f a x) b y c := by rw [zup_ne h2, zup_ne h1]
  rw [h3]
  exact zup_self
theorem zup_skip3 {α : Type} {f : Nat → α} {a b c d : Nat} {x y z : α} (h1 : d ≠ a) (h2 : d ≠ b) (h3 : d ≠ c) : zup (zup (zup (zup f a x) b y) c z) d (f d) = zup (zup (zup f a x) b y) c z := by
  have h4 : f d = zup (zup (zup f a x) b y) c z d := by rw [zup_ne h3, zup_ne h2, zup_ne h1]
  rw [h4]
  exact zup_self
def g_md_opens (x : Int32) (p0 : Int32) (p1 : Int32) (p2 : Int32) (p3 : Nat → Int32) (p4 : Int32) : Bool := bif !decide (p0 = 6) then zin (p1) 260 else decide (w_md_wrongAt 5 (p2) = 0) || decide (w_md_wrongAt 5 (p2) = 1)
def w_md_opens (x : Int32) (p0 : Int32) (p1 : Int32) (p2 : Int32) (p3 : Nat → Int32) (p4 : Int32) : Int32 := (bif !decide (p0 = 6) then 1 else w_md_wrongAt 5 (p2))
def a0_md_opens (x : Int32) (p0 : Int32) (p1 : Int32) (p2 : Int32) (p3 : Nat → Int32) (p4 : Int32) : Nat → Int32 := (bif !decide (p0 = 6) then (zup p3 ((p1).toNatClampNeg) (1048576 * x)) else p3)
def f0_md_opens (x : Int32) (p0 : Int32) (p1 : Int32) (p2 : Int32) (p3 : Nat → Int32) (p4 : Int32) : Int32 := (bif !decide (p0 = 6) then (p2) + 1 else p2)
def f1_md_opens (x : Int32) (p0 : Int32) (p1 : Int32) (p2 : Int32) (p3 : Nat → Int32) (p4 : Int32) : Int32 := (bif !decide (p0 = 6) then p4 else (f0_md_wrongAt 5 (p2)))
def f2_md_opens (x : Int32) (p0 : Int32) (p1 : Int32) (p2 : Int32) (p3 : Nat → Int32) (p4 : Int32) : Int32 := (bif !decide (p0 = 6) then (p0) + 1 else p0)
def f3_md_opens (x : Int32) (p0 : Int32) (p1 : Int32) (p2 : Int32) (p3 : Nat → Int32) (p4 : Int32) : Int32 := (bif !decide (p0 = 6) then (p1) + 1 else p1)
def P_md_opens (G : Int32 → Int32 → Int32 → Int32 → (Nat → Int32) → Int32 → Bool) (W : Int32 → Int32 → Int32 → Int32 → (Nat → Int32) → Int32 → Int32) (A0 : Int32 → Int32 → Int32 → Int32 → (Nat → Int32) → Int32 → Nat → Int32) (F0 : Int32 → Int32 → Int32 → Int32 → (Nat → Int32) → Int32 → Int32) (F1 : Int32 → Int32 → Int32 → Int32 → (Nat → Int32) → Int32 → Int32) (F2 : Int32 → Int32 → Int32 → Int32 → (Nat → Int32) → Int32 → Int32) (F3 : Int32 → Int32 → Int32 → Int32 → (Nat → Int32) → Int32 → Int32) : zSp := fun as g => match as with
  | [.ref a, .int x] => bif Nat.beq a 64 then some (G x (g.2.1 64 11) (g.2.1 64 13) (g.2.1 64 7) (g.1 72) (g.2.1 64 9), (some (.int (W x (g.2.1 64 11) (g.2.1 64 13) (g.2.1 64 7) (g.1 72) (g.2.1 64 9))), ((zup g.1 72 (A0 x (g.2.1 64 11) (g.2.1 64 13) (g.2.1 64 7) (g.1 72) (g.2.1 64 9))), (zup (zup (zup (zup g.2.1 64 (zup (g.2.1 64) 7 (F0 x (g.2.1 64 11) (g.2.1 64 13) (g.2.1 64 7) (g.1 72) (g.2.1 64 9)))) 64 (zup ((zup g.2.1 64 (zup (g.2.1 64) 7 (F0 x (g.2.1 64 11) (g.2.1 64 13) (g.2.1 64 7) (g.1 72) (g.2.1 64 9)))) 64) 9 (F1 x (g.2.1 64 11) (g.2.1 64 13) (g.2.1 64 7) (g.1 72) (g.2.1 64 9)))) 64 (zup ((zup (zup g.2.1 64 (zup (g.2.1 64) 7 (F0 x (g.2.1 64 11) (g.2.1 64 13) (g.2.1 64 7) (g.1 72) (g.2.1 64 9)))) 64 (zup ((zup g.2.1 64 (zup (g.2.1 64) 7 (F0 x (g.2.1 64 11) (g.2.1 64 13) (g.2.1 64 7) (g.1 72) (g.2.1 64 9)))) 64) 9 (F1 x (g.2.1 64 11) (g.2.1 64 13) (g.2.1 64 7) (g.1 72) (g.2.1 64 9)))) 64) 11 (F2 x (g.2.1 64 11) (g.2.1 64 13) (g.2.1 64 7) (g.1 72) (g.2.1 64 9)))) 64 (zup ((zup (zup (zup g.2.1 64 (zup (g.2.1 64) 7 (F0 x (g.2.1 64 11) (g.2.1 64 13) (g.2.1 64 7) (g.1 72) (g.2.1 64 9)))) 64 (zup ((zup g.2.1 64 (zup (g.2.1 64) 7 (F0 x (g.2.1 64 11) (g.2.1 64 13) (g.2.1 64 7) (g.1 72) (g.2.1 64 9)))) 64) 9 (F1 x (g.2.1 64 11) (g.2.1 64 13) (g.2.1 64 7) (g.1 72) (g.2.1 64 9)))) 64 (zup ((zup (zup g.2.1 64 (zup (g.2.1 64) 7 (F0 x (g.2.1 64 11) (g.2.1 64 13) (g.2.1 64 7) (g.1 72) (g.2.1 64 9)))) 64 (zup ((zup g.2.1 64 (zup (g.2.1 64) 7 (F0 x (g.2.1 64 11) (g.2.1 64 13) (g.2.1 64 7) (g.1 72) (g.2.1 64 9)))) 64) 9 (F1 x (g.2.1 64 11) (g.2.1 64 13) (g.2.1 64 7) (g.1 72) (g.2.1 64 9)))) 64) 11 (F2 x (g.2.1 64 11) (g.2.1 64 13) (g.2.1 64 7) (g.1 72) (g.2.1 64 9)))) 64) 13 (F3 x (g.2.1 64 11) (g.2.1 64 13) (g.2.1 64 7) (g.1 72) (g.2.1 64 9)))), g.2.2))) else none
  | _ => none
abbrev S_md_opens : zSp := P_md_opens g_md_opens w_md_opens a0_md_opens f0_md_opens f1_md_opens f2_md_opens f3_md_opens
set_option maxRecDepth 10000 in
theorem t_md_opens {X : Nat × (Nat → Int32)} {ar fi : Nat → Nat → Int32} {m1 m2 m3 m4 m5 : Nat} {x : Int32} {W_md_wrongAt : Int32 → Int32 → Int32} {F0_md_wrongAt : Int32 → Int32 → Int32} : zseg X zFT (zEx 160 (P_md_wrongAt W_md_wrongAt F0_md_wrongAt) zE0) zc_164 (fun _ => false) 400 0 [.ref 64, .int x] [] (ar, fi, (m1, m2, m3, m4, m5)) = (
  bif !decide (fi 64 11 = 6) then
   zg (zin (fi 64 13) 260) (
   some (.inr (some (.int 1), ((zup ar 72 (zup (ar 72) ((fi 64 13).toNatClampNeg) (1048576 * x))), (zup (zup (zup fi 64 (zup (fi 64) 11 ((fi 64 11) + 1))) 64 (zup ((zup fi 64 (zup (fi 64) 11 ((fi 64 11) + 1))) 64) 13 ((fi 64 13) + 1))) 64 (zup ((zup (zup fi 64 (zup (fi 64) 11 ((fi 64 11) + 1))) 64 (zup ((zup fi 64 (zup (fi 64) 11 ((fi 64 11) + 1))) 64) 13 ((fi 64 13) + 1))) 64) 7 ((fi 64 7) + 1))), (m1, m2, m3, m4, m5)))))
  else
   zg (decide (W_md_wrongAt 5 (fi 64 7) = 0) || decide (W_md_wrongAt 5 (fi 64 7) = 1)) (
   some (.inr (some (.int (W_md_wrongAt 5 (fi 64 7))), (ar, (zup fi 64 (zup (fi 64) 9 (F0_md_wrongAt 5 (fi 64 7)))), (m1, m2, m3, m4, m5))))) : Option ((Nat × List Value × List Value × zH2) ⊕ zO2)) := by with_unfolding_all rfl
set_option maxRecDepth 10000 in
theorem e_md_opens {X : Nat × (Nat → Int32)} {ar fi : Nat → Nat → Int32} {m1 m2 m3 m4 m5 : Nat} {x : Int32} (hG : g_md_opens x (fi 64 11) (fi 64 13) (fi 64 7) (ar 72) (fi 64 9) = true) : zseg X zFT (zEx 160 S_md_wrongAt zE0) zc_164 (fun _ => false) 400 0 [.ref 64, .int x] [] (ar, fi, (m1, m2, m3, m4, m5)) = some (.inr (some (.int (w_md_opens x (fi 64 11) (fi 64 13) (fi 64 7) (ar 72) (fi 64 9))), ((zup ar 72 (a0_md_opens x (fi 64 11) (fi 64 13) (fi 64 7) (ar 72) (fi 64 9))), (zup (zup (zup (zup fi 64 (zup (fi 64) 7 (f0_md_opens x (fi 64 11) (fi 64 13) (fi 64 7) (ar 72) (fi 64 9)))) 64 (zup ((zup fi 64 (zup (fi 64) 7 (f0_md_opens x (fi 64 11) (fi 64 13) (fi 64 7) (ar 72) (fi 64 9)))) 64) 9 (f1_md_opens x (fi 64 11) (fi 64 13) (fi 64 7) (ar 72) (fi 64 9)))) 64 (zup ((zup (zup fi 64 (zup (fi 64) 7 (f0_md_opens x (fi 64 11) (fi 64 13) (fi 64 7) (ar 72) (fi 64 9)))) 64 (zup ((zup fi 64 (zup (fi 64) 7 (f0_md_opens x (fi 64 11) (fi 64 13) (fi 64 7) (ar 72) (fi 64 9)))) 64) 9 (f1_md_opens x (fi 64 11) (fi 64 13) (fi 64 7) (ar 72) (fi 64 9)))) 64) 11 (f2_md_opens x (fi 64 11) (fi 64 13) (fi 64 7) (ar 72) (fi 64 9)))) 64 (zup ((zup (zup (zup fi 64 (zup (fi 64) 7 (f0_md_opens x (fi 64 11) (fi 64 13) (fi 64 7) (ar 72) (fi 64 9)))) 64 (zup ((zup fi 64 (zup (fi 64) 7 (f0_md_opens x (fi 64 11) (fi 64 13) (fi 64 7) (ar 72) (fi 64 9)))) 64) 9 (f1_md_opens x (fi 64 11) (fi 64 13) (fi 64 7) (ar 72) (fi 64 9)))) 64 (zup ((zup (zup fi 64 (zup (fi 64) 7 (f0_md_opens x (fi 64 11) (fi 64 13) (fi 64 7) (ar 72) (fi 64 9)))) 64 (zup ((zup fi 64 (zup (fi 64) 7 (f0_md_opens x (fi 64 11) (fi 64 13) (fi 64 7) (ar 72) (fi 64 9)))) 64) 9 (f1_md_opens x (fi 64 11) (fi 64 13) (fi 64 7) (ar 72) (fi 64 9)))) 64) 11 (f2_md_opens x (fi 64 11) (fi 64 13) (fi 64 7) (ar 72) (fi 64 9)))) 64) 13 (f3_md_opens x (fi 64 11) (fi 64 13) (fi 64 7) (ar 72) (fi 64 9)))), (m1, m2, m3, m4, m5)))) := by
  rw [t_md_opens]
  unfold g_md_opens at hG
  unfold w_md_opens a0_md_opens f0_md_opens f1_md_opens f2_md_opens f3_md_opens
  cases hc1 : (!decide (fi 64 11 = 6)) with
  | true =>
    try simp only [hc1, cond_true, cond_false] at hG ⊢
    all_goals try simp only [Bool.and_eq_true, Bool.true_and, Bool.and_true] at hG
    all_goals try simp only [hG, zg, cond_true, and_self]
    all_goals try simp (disch := decide) only [zup_sort, zup_zup, zup_same, zup_self]
    all_goals try simp (disch := decide) only [zup_skip, zup_skip2, zup_skip3]
    all_goals rfl
  | false =>
    try simp only [hc1, cond_true, cond_false] at hG ⊢
    all_goals try simp only [Bool.and_eq_true, Bool.true_and, Bool.and_true] at hG
    all_goals try simp only [hG, zg, cond_true, and_self]
    all_goals try simp (disch := decide) only [zup_sort, zup_zup, zup_same, zup_self]
    all_goals try simp (disch := decide) only [zup_skip, zup_skip2, zup_skip3]
    all_goals rfl
theorem ok_md_opens (X : Nat × (Nat → Int32)) : zOkS X 164 S_md_opens 2 := zOkS_new (zOkE_cons (ok_md_wrongAt X) (by decide) (zOkE_nil X 1)) (by
  intro args g o h
  obtain ⟨ar, fi, m1, m2, m3, m4, m5⟩ := g
  unfold S_md_opens P_md_opens at h
  split at h
  · refine zb_el h (fun hI0 k0 => ?_) (fun _ h10 => ?_)
    · have h2 := Option.some.inj k0
      have hG := congrArg Prod.fst h2
      have ho := congrArg Prod.snd h2
      dsimp only at hG ho
      subst ho
      try simp only [Bool.and_eq_true] at hI0
      have j0 := hI0
      have e0 := Nat.eq_of_beq_eq_true j0
      subst e0
      exact zseg_ret (e_md_opens hG)
    · cases h10
  · cases h)
