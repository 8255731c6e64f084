theorem okS_lr_readCondition {X : Nat × (Nat → Int32)} {Q_lr_readCondition Q_lr_readTest Q_lr_readAmount Q_lr_readFactor : Int32 → (Nat → Int32) → (Nat → Int32) → (Nat → Int32) → Int32 → Int32 → Int32 → Int32 → Int32 → Int32 → Option ((Nat → Int32) × (Nat → Int32) × Int32 × Int32 × Int32 × Int32 × Int32)} {D1 : Nat} (hD : 2 ≤ D1) (h_lr_readTest : zOkS X 52 (P_lr_readTest Q_lr_readTest) D1) : zOkS X 51 (P_lr_readCondition (qG_lr_readCondition Q_lr_readCondition Q_lr_readTest Q_lr_readAmount Q_lr_readFactor)) (D1 + 1) := zOkS_new (zOkE_cons (h_lr_readTest) (by omega) (zOkE_cons (ok_tx_sign X) (by omega) (zOkE_cons (ok_lw_emit X) (by omega) (zOkE_cons (ok_lw_aimHere X) (by omega) (zOkE_cons (ok_tx_skip X) (by omega) (zOkE_nil X D1)))))) (by
  intro args g o h
  obtain ⟨ar, fi, m1, m2, m3, m4, m5⟩ := g
  unfold P_lr_readCondition at h
  split at h
  · refine zb_el h (fun hI0 k0 => ?_) (fun _ h10 => ?_)
    · try simp only [Bool.and_eq_true] at hI0
      obtain ⟨⟨j0, j1⟩, j2⟩ := hI0
      have e0 := Nat.eq_of_beq_eq_true j0
      subst e0
      have e1 := Nat.eq_of_beq_eq_true j1
      subst e1
      have e9 : m3 = 1 := Nat.eq_of_beq_eq_true j2
      subst e9
      exact zpe_el k0 (fun t ht ho => by obtain ⟨t0, t1, t2, t3, t4, t5, t6⟩ := t; exact e_lr_readCondition_39_23 _ ht ho)
    · skip
      refine zb_el h10 (fun hI1 k1 => ?_) (fun _ h11 => ?_)
      · try simp only [Bool.and_eq_true] at hI1
        obtain ⟨⟨j0, j1⟩, j2⟩ := hI1
        have e0 := Nat.eq_of_beq_eq_true j0
        subst e0
        have e1 := Nat.eq_of_beq_eq_true j1
        subst e1
        have e9 : m3 = 1 := Nat.eq_of_beq_eq_true j2
        subst e9
        exact zpe_el k1 (fun t ht ho => by obtain ⟨t0, t1, t2, t3, t4, t5, t6⟩ := t; exact e_lr_readCondition_39_31 _ ht ho)
      · cases h11
  · cases h)
theorem okS_lr_readTest {X : Nat × (Nat → Int32)} {Q_lr_readCondition Q_lr_readTest Q_lr_readAmount Q_lr_readFactor : Int32 → (Nat → Int32) → (Nat → Int32) → (Nat → Int32) → Int32 → Int32 → Int32 → Int32 → Int32 → Int32 → Option ((Nat → Int32) × (Nat → Int32) × Int32 × Int32 × Int32 × Int32 × Int32)} {D1 : Nat} (hD : 2 ≤ D1) (h_lr_readTest : zOkS X 52 (P_lr_readTest Q_lr_readTest) D1) (h_lr_readCondition : zOkS X 51 (P_lr_readCondition Q_lr_readCondition) D1) (h_lr_readAmount : zOkS X 53 (P_lr_readAmount Q_lr_readAmount) D1) : zOkS X 52 (P_lr_readTest (qG_lr_readTest Q_lr_readCondition Q_lr_readTest Q_lr_readAmount Q_lr_readFactor)) (D1 + 1) := zOkS_new (zOkE_cons (ok_tx_sign X) (by omega) (zOkE_cons (ok_tx_fail X) (by omega) (zOkE_cons (ok_tx_skip X) (by omega) (zOkE_cons (h_lr_readTest) (by omega) (zOkE_cons (ok_lw_emit X) (by omega) (zOkE_cons (h_lr_readCondition) (by omega) (zOkE_cons (ok_tx_expect X) (by omega) (zOkE_cons (h_lr_readAmount) (by omega) (zOkE_nil X D1))))))))) (by
  intro args g o h
  obtain ⟨ar, fi, m1, m2, m3, m4, m5⟩ := g
  unfold P_lr_readTest at h
  split at h
  · refine zb_el h (fun hI0 k0 => ?_) (fun _ h10 => ?_)
    · try simp only [Bool.and_eq_true] at hI0
      obtain ⟨⟨j0, j1⟩, j2⟩ := hI0
      have e0 := Nat.eq_of_beq_eq_true j0
      subst e0
      have e1 := Nat.eq_of_beq_eq_true j1
      subst e1
      have e9 : m3 = 1 := Nat.eq_of_beq_eq_true j2
      subst e9
      exact zpe_el k0 (fun t ht ho => by obtain ⟨t0, t1, t2, t3, t4, t5, t6⟩ := t; exact e_lr_readTest_39_23 _ ht ho)
    · skip
      refine zb_el h10 (fun hI1 k1 => ?_) (fun _ h11 => ?_)
      · try simp only [Bool.and_eq_true] at hI1
        obtain ⟨⟨j0, j1⟩, j2⟩ := hI1
        have e0 := Nat.eq_of_beq_eq_true j0
        subst e0
        have e1 := Nat.eq_of_beq_eq_true j1
        subst e1
        have e9 : m3 = 1 := Nat.eq_of_beq_eq_true j2
        subst e9
        exact zpe_el k1 (fun t ht ho => by obtain ⟨t0, t1, t2, t3, t4, t5, t6⟩ := t; exact e_lr_readTest_39_31 _ ht ho)
      · cases h11
  · cases h)
theorem okS_lr_readAmount {X : Nat × (Nat → Int32)} {Q_lr_readCondition Q_lr_readTest Q_lr_readAmount Q_lr_readFactor : Int32 → (Nat → Int32) → (Nat → Int32) → (Nat → Int32) → Int32 → Int32 → Int32 → Int32 → Int32 → Int32 → Option ((Nat → Int32) × (Nat → Int32) × Int32 × Int32 × Int32 × Int32 × Int32)} {D1 : Nat} (hD : 2 ≤ D1) (h_lr_readFactor : zOkS X 54 (P_lr_readFactor Q_lr_readFactor) D1) : zOkS X 53 (P_lr_readAmount (qG_lr_readAmount Q_lr_readCondition Q_lr_readTest Q_lr_readAmount Q_lr_readFactor)) (D1 + 1) := zOkS_new (zOkE_cons (h_lr_readFactor) (by omega) (zOkE_cons (ok_tx_sign X) (by omega) (zOkE_cons (ok_tx_skip X) (by omega) (zOkE_cons (ok_lw_emit X) (by omega) (zOkE_nil X D1))))) (by
  intro args g o h
  obtain ⟨ar, fi, m1, m2, m3, m4, m5⟩ := g
  unfold P_lr_readAmount at h
  split at h
  · refine zb_el h (fun hI0 k0 => ?_) (fun _ h10 => ?_)
    · try simp only [Bool.and_eq_true] at hI0
      obtain ⟨⟨j0, j1⟩, j2⟩ := hI0
      have e0 := Nat.eq_of_beq_eq_true j0
      subst e0
      have e1 := Nat.eq_of_beq_eq_true j1
      subst e1
      have e9 : m3 = 1 := Nat.eq_of_beq_eq_true j2
      subst e9
      exact zpe_el k0 (fun t ht ho => by obtain ⟨t0, t1, t2, t3, t4, t5, t6⟩ := t; exact e_lr_readAmount_39_23 _ ht ho)
    · skip
      refine zb_el h10 (fun hI1 k1 => ?_) (fun _ h11 => ?_)
      · try simp only [Bool.and_eq_true] at hI1
        obtain ⟨⟨j0, j1⟩, j2⟩ := hI1
        have e0 := Nat.eq_of_beq_eq_true j0
        subst e0
        have e1 := Nat.eq_of_beq_eq_true j1
        subst e1
        have e9 : m3 = 1 := Nat.eq_of_beq_eq_true j2
        subst e9
        exact zpe_el k1 (fun t ht ho => by obtain ⟨t0, t1, t2, t3, t4, t5, t6⟩ := t; exact e_lr_readAmount_39_31 _ ht ho)
      · cases h11
  · cases h)
theorem okS_lr_readFactor {X : Nat × (Nat → Int32)} {Q_lr_readCondition Q_lr_readTest Q_lr_readAmount Q_lr_readFactor : Int32 → (Nat → Int32) → (Nat → Int32) → (Nat → Int32) → Int32 → Int32 → Int32 → Int32 → Int32 → Int32 → Option ((Nat → Int32) × (Nat → Int32) × Int32 × Int32 × Int32 × Int32 × Int32)} {D1 : Nat} (hD : 2 ≤ D1) (h_lr_readAmount : zOkS X 53 (P_lr_readAmount Q_lr_readAmount) D1) : zOkS X 54 (P_lr_readFactor (qG_lr_readFactor Q_lr_readCondition Q_lr_readTest Q_lr_readAmount Q_lr_readFactor)) (D1 + 1) := zOkS_new (zOkE_cons (ok_tx_sign X) (by omega) (zOkE_cons (ok_tx_fail X) (by omega) (zOkE_cons (ok_tx_skip X) (by omega) (zOkE_cons (h_lr_readAmount) (by omega) (zOkE_cons (ok_tx_expect X) (by omega) (zOkE_cons (ok_tx_isDigit X) (by omega) (zOkE_cons (ok_tx_number X) (by omega) (zOkE_cons (ok_lw_emit X) (by omega) (zOkE_nil X D1))))))))) (by
  intro args g o h
  obtain ⟨ar, fi, m1, m2, m3, m4, m5⟩ := g
  unfold P_lr_readFactor at h
  split at h
  · refine zb_el h (fun hI0 k0 => ?_) (fun _ h10 => ?_)
    · try simp only [Bool.and_eq_true] at hI0
      obtain ⟨⟨j0, j1⟩, j2⟩ := hI0
      have e0 := Nat.eq_of_beq_eq_true j0
      subst e0
      have e1 := Nat.eq_of_beq_eq_true j1
      subst e1
      have e9 : m3 = 1 := Nat.eq_of_beq_eq_true j2
      subst e9
      exact zpe_el k0 (fun t ht ho => by obtain ⟨t0, t1, t2, t3, t4, t5, t6⟩ := t; exact e_lr_readFactor_39_23 _ ht ho)
    · skip
      refine zb_el h10 (fun hI1 k1 => ?_) (fun _ h11 => ?_)
      · try simp only [Bool.and_eq_true] at hI1
        obtain ⟨⟨j0, j1⟩, j2⟩ := hI1
        have e0 := Nat.eq_of_beq_eq_true j0
        subst e0
        have e1 := Nat.eq_of_beq_eq_true j1
        subst e1
        have e9 : m3 = 1 := Nat.eq_of_beq_eq_true j2
        subst e9
        exact zpe_el k1 (fun t ht ho => by obtain ⟨t0, t1, t2, t3, t4, t5, t6⟩ := t; exact e_lr_readFactor_39_31 _ ht ho)
      · cases h11
  · cases h)
noncomputable def G_lr : Nat → (Int32 → (Nat → Int32) → (Nat → Int32) → (Nat → Int32) → Int32 → Int32 → Int32 → Int32 → Int32 → Int32 → Option ((Nat → Int32) × (Nat → Int32) × Int32 × Int32 × Int32 × Int32 × Int32)) × (Int32 → (Nat → Int32) → (Nat → Int32) → (Nat → Int32) → Int32 → Int32 → Int32 → Int32 → Int32 → Int32 → Option ((Nat → Int32) × (Nat → Int32) × Int32 × Int32 × Int32 × Int32 × Int32)) × (Int32 → (Nat → Int32) → (Nat → Int32) → (Nat → Int32) → Int32 → Int32 → Int32 → Int32 → Int32 → Int32 → Option ((Nat → Int32) × (Nat → Int32) × Int32 × Int32 × Int32 × Int32 × Int32)) × (Int32 → (Nat → Int32) → (Nat → Int32) → (Nat → Int32) → Int32 → Int32 → Int32 → Int32 → Int32 → Int32 → Option ((Nat → Int32) × (Nat → Int32) × Int32 × Int32 × Int32 × Int32 × Int32))
  | 0 => ((fun _ _ _ _ _ _ _ _ _ _ => none), (fun _ _ _ _ _ _ _ _ _ _ => none), (fun _ _ _ _ _ _ _ _ _ _ => none), (fun _ _ _ _ _ _ _ _ _ _ => none))
  | n + 1 => (qG_lr_readCondition (G_lr n).1 (G_lr n).2.1 (G_lr n).2.2.1 (G_lr n).2.2.2, qG_lr_readTest (G_lr n).1 (G_lr n).2.1 (G_lr n).2.2.1 (G_lr n).2.2.2, qG_lr_readAmount (G_lr n).1 (G_lr n).2.1 (G_lr n).2.2.1 (G_lr n).2.2.2, qG_lr_readFactor (G_lr n).1 (G_lr n).2.1 (G_lr n).2.2.1 (G_lr n).2.2.2)
theorem okG_lr (X : Nat × (Nat → Int32)) : ∀ n, zOkS X 51 (P_lr_readCondition (G_lr n).1) (2 + n) ∧ zOkS X 52 (P_lr_readTest (G_lr n).2.1) (2 + n) ∧ zOkS X 53 (P_lr_readAmount (G_lr n).2.2.1) (2 + n) ∧ zOkS X 54 (P_lr_readFactor (G_lr n).2.2.2) (2 + n)
  | 0 => by
    refine ⟨?_, ?_, ?_, ?_⟩
    · intro args g o h
      obtain ⟨ar, fi, m1, m2, m3, m4, m5⟩ := g
      unfold P_lr_readCondition at h
      split at h
      · refine zb_el h (fun hI0 k0 => ?_) (fun _ h10 => ?_)
        · try simp only [Bool.and_eq_true] at hI0
          obtain ⟨⟨j0, j1⟩, j2⟩ := hI0
          have e0 := Nat.eq_of_beq_eq_true j0
          subst e0
          have e1 := Nat.eq_of_beq_eq_true j1
          subst e1
          have e9 : m3 = 1 := Nat.eq_of_beq_eq_true j2
          subst e9
          exact zpe_el k0 (fun t ht ho => by cases ht)
        · skip
          refine zb_el h10 (fun hI1 k1 => ?_) (fun _ h11 => ?_)
          · try simp only [Bool.and_eq_true] at hI1
            obtain ⟨⟨j0, j1⟩, j2⟩ := hI1
            have e0 := Nat.eq_of_beq_eq_true j0
            subst e0
            have e1 := Nat.eq_of_beq_eq_true j1
            subst e1
            have e9 : m3 = 1 := Nat.eq_of_beq_eq_true j2
            subst e9
            exact zpe_el k1 (fun t ht ho => by cases ht)
          · cases h11
      · cases h
    · intro args g o h
      obtain ⟨ar, fi, m1, m2, m3, m4, m5⟩ := g
      unfold P_lr_readTest at h
      split at h
      · refine zb_el h (fun hI0 k0 => ?_) (fun _ h10 => ?_)
        · try simp only [Bool.and_eq_true] at hI0
          obtain ⟨⟨j0, j1⟩, j2⟩ := hI0
          have e0 := Nat.eq_of_beq_eq_true j0
          subst e0
          have e1 := Nat.eq_of_beq_eq_true j1
          subst e1
          have e9 : m3 = 1 := Nat.eq_of_beq_eq_true j2
          subst e9
          exact zpe_el k0 (fun t ht ho => by cases ht)
        · skip
          refine zb_el h10 (fun hI1 k1 => ?_) (fun _ h11 => ?_)
          · try simp only [Bool.and_eq_true] at hI1
            obtain ⟨⟨j0, j1⟩, j2⟩ := hI1
            have e0 := Nat.eq_of_beq_eq_true j0
            subst e0
            have e1 := Nat.eq_of_beq_eq_true j1
            subst e1
            have e9 : m3 = 1 := Nat.eq_of_beq_eq_true j2
            subst e9
            exact zpe_el k1 (fun t ht ho => by cases ht)
          · cases h11
      · cases h
    · intro args g o h
      obtain ⟨ar, fi, m1, m2, m3, m4, m5⟩ := g
      unfold P_lr_readAmount at h
      split at h
      · refine zb_el h (fun hI0 k0 => ?_) (fun _ h10 => ?_)
        · try simp only [Bool.and_eq_true] at hI0
          obtain ⟨⟨j0, j1⟩, j2⟩ := hI0
          have e0 := Nat.eq_of_beq_eq_true j0
          subst e0
          have e1 := Nat.eq_of_beq_eq_true j1
          subst e1
          have e9 : m3 = 1 := Nat.eq_of_beq_eq_true j2
          subst e9
          exact zpe_el k0 (fun t ht ho => by cases ht)
        · skip
          refine zb_el h10 (fun hI1 k1 => ?_) (fun _ h11 => ?_)
          · try simp only [Bool.and_eq_true] at hI1
            obtain ⟨⟨j0, j1⟩, j2⟩ := hI1
            have e0 := Nat.eq_of_beq_eq_true j0
            subst e0
            have e1 := Nat.eq_of_beq_eq_true j1
            subst e1
            have e9 : m3 = 1 := Nat.eq_of_beq_eq_true j2
            subst e9
            exact zpe_el k1 (fun t ht ho => by cases ht)
          · cases h11
      · cases h
    · intro args g o h
      obtain ⟨ar, fi, m1, m2, m3, m4, m5⟩ := g
      unfold P_lr_readFactor at h
      split at h
      · refine zb_el h (fun hI0 k0 => ?_) (fun _ h10 => ?_)
        · try simp only [Bool.and_eq_true] at hI0
          obtain ⟨⟨j0, j1⟩, j2⟩ := hI0
          have e0 := Nat.eq_of_beq_eq_true j0
          subst e0
          have e1 := Nat.eq_of_beq_eq_true j1
          subst e1
          have e9 : m3 = 1 := Nat.eq_of_beq_eq_true j2
          subst e9
          exact zpe_el k0 (fun t ht ho => by cases ht)
        · skip
          refine zb_el h10 (fun hI1 k1 => ?_) (fun _ h11 => ?_)
          · try simp only [Bool.and_eq_true] at hI1
            obtain ⟨⟨j0, j1⟩, j2⟩ := hI1
            have e0 := Nat.eq_of_beq_eq_true j0
            subst e0
            have e1 := Nat.eq_of_beq_eq_true j1
            subst e1
            have e9 : m3 = 1 := Nat.eq_of_beq_eq_true j2
            subst e9
            exact zpe_el k1 (fun t ht ho => by cases ht)
          · cases h11
      · cases h
  | n + 1 => by
    obtain ⟨h1, h2, h3, h4⟩ := okG_lr X n
    exact ⟨okS_lr_readCondition (Q_lr_readCondition := (G_lr n).1) (Q_lr_readTest := (G_lr n).2.1) (Q_lr_readAmount := (G_lr n).2.2.1) (Q_lr_readFactor := (G_lr n).2.2.2) (Nat.le_add_right 2 n) h2, okS_lr_readTest (Q_lr_readCondition := (G_lr n).1) (Q_lr_readTest := (G_lr n).2.1) (Q_lr_readAmount := (G_lr n).2.2.1) (Q_lr_readFactor := (G_lr n).2.2.2) (Nat.le_add_right 2 n) h2 h1 h3, okS_lr_readAmount (Q_lr_readCondition := (G_lr n).1) (Q_lr_readTest := (G_lr n).2.1) (Q_lr_readAmount := (G_lr n).2.2.1) (Q_lr_readFactor := (G_lr n).2.2.2) (Nat.le_add_right 2 n) h4, okS_lr_readFactor (Q_lr_readCondition := (G_lr n).1) (Q_lr_readTest := (G_lr n).2.1) (Q_lr_readAmount := (G_lr n).2.2.1) (Q_lr_readFactor := (G_lr n).2.2.2) (Nat.le_add_right 2 n) h3⟩
noncomputable def q_lr_readCondition : Int32 → (Nat → Int32) → (Nat → Int32) → (Nat → Int32) → Int32 → Int32 → Int32 → Int32 → Int32 → Int32 → Option ((Nat → Int32) × (Nat → Int32) × Int32 × Int32 × Int32 × Int32 × Int32) := (G_lr 60).1
noncomputable abbrev S_lr_readCondition : zSp := P_lr_readCondition q_lr_readCondition
theorem ok_lr_readCondition (X : Nat × (Nat → Int32)) : zOkS X 51 S_lr_readCondition 62 := (okG_lr X 60).1
noncomputable def q_lr_readTest : Int32 → (Nat → Int32) → (Nat → Int32) → (Nat → Int32) → Int32 → Int32 → Int32 → Int32 → Int32 → Int32 → Option ((Nat → Int32) × (Nat → Int32) × Int32 × Int32 × Int32 × Int32 × Int32) := (G_lr 60).2.1
noncomputable abbrev S_lr_readTest : zSp := P_lr_readTest q_lr_readTest
theorem ok_lr_readTest (X : Nat × (Nat → Int32)) : zOkS X 52 S_lr_readTest 62 := (okG_lr X 60).2.1
noncomputable def q_lr_readAmount : Int32 → (Nat → Int32) → (Nat → Int32) → (Nat → Int32) → Int32 → Int32 → Int32 → Int32 → Int32 → Int32 → Option ((Nat → Int32) × (Nat → Int32) × Int32 × Int32 × Int32 × Int32 × Int32) := (G_lr 60).2.2.1
noncomputable abbrev S_lr_readAmount : zSp := P_lr_readAmount q_lr_readAmount
theorem ok_lr_readAmount (X : Nat × (Nat → Int32)) : zOkS X 53 S_lr_readAmount 62 := (okG_lr X 60).2.2.1
noncomputable def q_lr_readFactor : Int32 → (Nat → Int32) → (Nat → Int32) → (Nat → Int32) → Int32 → Int32 → Int32 → Int32 → Int32 → Int32 → Option ((Nat → Int32) × (Nat → Int32) × Int32 × Int32 × Int32 × Int32 × Int32) := (G_lr 60).2.2.2
noncomputable abbrev S_lr_readFactor : zSp := P_lr_readFactor q_lr_readFactor
theorem ok_lr_readFactor (X : Nat × (Nat → Int32)) : zOkS X 54 S_lr_readFactor 62 := (okG_lr X 60).2.2.2
