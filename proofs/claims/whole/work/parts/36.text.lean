/-! ===== D: texts; a town ===== -/
/-! rows that are no rfl rows (so that the kernel compares nothing by unfolding) -/
theorem cT {α : Type} {c : Bool} (a b : α) (h : c = true) : (bif c then a else b) = a := by cases h; rfl
theorem cF {α : Type} {c : Bool} (a b : α) (h : c = false) : (bif c then a else b) = b := by cases h; rfl
theorem cTt {α : Type} (a b : α) : (bif true then a else b) = a := cT a b (Bool.not_false)
theorem cFf {α : Type} (a b : α) : (bif false then a else b) = b := cF a b (Bool.not_true)
theorem nTt : (!true) = false := (Bool.not_eq_false' true).mpr (Eq.refl true)
theorem nFf : (!false) = true := (Bool.not_eq_true' false).mpr (Eq.refl false)
theorem zlp_relx {σ τ R S : Type} {f : σ → Option (σ ⊕ R)} {g : τ → Option (τ ⊕ S)} (I : Nat → σ → τ → Prop) (Q : R → S → Prop)
    (step : ∀ n s t, I n s t → (∃ m s' t', m < n ∧ f s = some (.inl s') ∧ g t = some (.inl t') ∧ I m s' t') ∨ (∃ r r', zlp f s = some r ∧ zlp g t = some r' ∧ Q r r')) :
    ∀ n s t, I n s t → ∃ r r', zlp f s = some r ∧ zlp g t = some r' ∧ Q r r' := by
  intro n
  induction n using Nat.strongRecOn with
  | ind n ih =>
    intro s t hI
    rcases step n s t hI with ⟨m, s', t', hm, hf, hg, hI'⟩ | h
    · obtain ⟨r, r', hr, hr', hQ⟩ := ih m hm s' t' hI'
      exact ⟨r, r', by rw [zlp_in hf]; exact hr, by rw [zlp_in hg]; exact hr', hQ⟩
    · exact h
/-- the sign at a place of a text; -1 behind its end -/
def sg (a : Nat → Int32) (L p : Nat) : Int32 := if p < L then a p else -1
theorem d_sign {a : Nat → Int32} {L p : Nat} (hL : L ≤ 260) (hp : p < 1000000) : g_tx_sign 0 (nI p) (nI L) a = true ∧ w_tx_sign 0 (nI p) (nI L) a = sg a L p := by
  unfold g_tx_sign w_tx_sign sg
  simp (disch := omega) only [show decide ((0 : Int32) = 0) = true from rfl, Bool.not_true, cond_false, nI_neg, nI_dle, nI_cl, nI_zin]
  by_cases h : p < L
  · rw [if_pos h, dF (show ¬ L ≤ p by omega), dT (show p < 260 by omega)]
    exact ⟨rfl, rfl⟩
  · rw [if_neg h, dT (show L ≤ p by omega)]
    exact ⟨rfl, rfl⟩
theorem d_signF {f : Int32} (hf : f ≠ 0) (p L : Int32) (a : Nat → Int32) : g_tx_sign f p L a = true ∧ w_tx_sign f p L a = -1 := by
  unfold g_tx_sign w_tx_sign
  rw [dF hf]
  exact ⟨rfl, rfl⟩
theorem d_here {a1 a70 : Nat → Int32} (h : RT a1 a70) {L p : Nat} (hL : L ≤ 260) (hp : p < 1000000) : g_md_here (nI L) (nI p) a70 = true ∧ w_md_here (nI L) (nI p) a70 = sg a1 L p := by
  unfold g_md_here w_md_here sg
  simp (disch := omega) only [nI_dle, nI_cl, nI_zin]
  by_cases hq : p < L
  · rw [if_pos hq, dF (show ¬ L ≤ p by omega), dT (show p < 260 by omega), ← h p (by omega)]
    exact ⟨rfl, rfl⟩
  · rw [if_neg hq, dT (show L ≤ p by omega)]
    exact ⟨rfl, rfl⟩
/-- a sign is a byte or -1 -/
theorem sg_byte {a1 a70 : Nat → Int32} (h : RT a1 a70) {L : Nat} (hL : L ≤ 260) (p : Nat) : (p < L ∧ ∃ c, c < 256 ∧ sg a1 L p = nI c) ∨ (L ≤ p ∧ sg a1 L p = -1) := by
  unfold sg
  by_cases hq : p < L
  · left
    rw [if_pos hq, h p (by omega)]
    obtain ⟨j, hj, e⟩ := pk_andE (a70 p) (m := 255) 8 (by decide)
    exact ⟨hq, j, by omega, e⟩
  · right
    rw [if_neg hq]
    exact ⟨by omega, rfl⟩
theorem d_kind (x : Int32) : w_tn_kindOf x = w_md_kindBy x ∧ (w_md_kindBy x = -1 ∨ ∃ k, k < 4 ∧ w_md_kindBy x = nI k) := by
  unfold w_tn_kindOf w_md_kindBy
  by_cases h1 : x = 46
  · subst h1; exact ⟨rfl, Or.inr ⟨0, by omega, rfl⟩⟩
  · by_cases h2 : x = 35
    · subst h2; exact ⟨rfl, Or.inr ⟨1, by omega, rfl⟩⟩
    · by_cases h3 : x = 43
      · subst h3; exact ⟨rfl, Or.inr ⟨2, by omega, rfl⟩⟩
      · by_cases h4 : x = 126
        · subst h4; exact ⟨rfl, Or.inr ⟨3, by omega, rfl⟩⟩
        · rw [dF h1, dF h2, dF h3, dF h4]; exact ⟨rfl, Or.inl rfl⟩
def KA (n : Nat) (b c : Nat → Int32) : Prop := ∀ k, k < n → b k = c k
theorem KA_put {n : Nat} {b c : Nat → Int32} (h : KA n b c) (k : Nat) (v : Int32) : KA n (zup b k v) (zup c k v) := by
  intro j hj
  by_cases q : j = k
  · subst q; rw [zup_same, zup_same]
  · rw [zup_ne q, zup_ne q]; exact h j hj
/-- what a sign puts down -/
theorem d_putSign {a1 a70 : Nat → Int32} (h : RT a1 a70) {L x y m p : Nat} (hL : L ≤ 260) (hp : p < 1000000) (hx : x + m ≤ 12) (hy : y < 8) (kd fp : Int32) {b c : Nat → Int32} (hb : KA 96 b c) :
    ∃ b' c', l_tn_readSign_104 (nI x) (nI y) 0 fp (nI m) kd (nI p) 0 b = some (nI (x + m), b', 0, fp, nI p) ∧ l_md_readsRow_129 (nI y) a70 (nI L) (nI x) (nI m) kd (nI p) 0 c = some (.inl (nI (x + m), b01 (decide (p < L) && !decide (sg a1 L p = 47)), c', nI p)) ∧ KA 96 b' c' := by
  obtain ⟨r, r', h1, h2, b', c', rfl, rfl, h3⟩ := zlp_rel (f := f_tn_readSign_104 (nI x) (nI y) 0 fp (nI m) kd (nI p)) (g := f_md_readsRow_129 (nI y) a70 (nI L) (nI x) (nI m) kd (nI p)) (fun q s t => ∃ k b c, k + q = m ∧ s = (nI k, b) ∧ t = (nI k, c) ∧ KA 96 b c)
      (fun r r' => ∃ b' c', r = (nI (x + m), b', 0, fp, nI p) ∧ r' = .inl (nI (x + m), b01 (decide (p < L) && !decide (sg a1 L p = 47)), c', nI p) ∧ KA 96 b' c') (by
    rintro q s t ⟨k, b, c, hk, rfl, rfl, hb⟩
    simp only [f_tn_readSign_104, f_md_readsRow_129, b_tn_readSign_104, b_md_readsRow_129]
    by_cases hkm : k = m
    · right
      have e := d_here h hL hp
      simp (disch := omega) only [nI_dle, dT, cond_true, nI_add, e, zg, zl]
      by_cases hq : p < L
      · rw [dF (show ¬ L ≤ p by omega)]
        simp only [cond_false]
        cases hs : decide (sg a1 L p = 47) with
        | true => exact ⟨_, _, rfl, rfl, b, c, rfl, by rw [dT hq]; rfl, hb⟩
        | false => exact ⟨_, _, rfl, rfl, b, c, rfl, by rw [dT hq]; rfl, hb⟩
      · rw [dT (show L ≤ p by omega)]
        exact ⟨_, _, rfl, rfl, b, c, rfl, by rw [dF hq]; rfl, hb⟩
    · left
      have e1 : (12 : Int32) * nI y + nI x + nI k = nI (12 * y + x + k) := by rw [show (12 : Int32) = nI 12 from rfl, pk_mul, nI_add, nI_add]
      have e2 : (12 : Int32) * nI y + nI (x + k) = nI (12 * y + x + k) := by rw [show (12 : Int32) = nI 12 from rfl, pk_mul, nI_add, Nat.add_assoc]
      have e3 : w_if_isPlace (nI (x + k)) (nI y) = 1 := by
        unfold w_if_isPlace
        rw [show w_if_isWithin (nI (x + k)) 0 11 = 1 from (d_in1 (a := 0) (b := 11) (by omega) (by omega) (by omega)).2, show w_if_isWithin (nI y) 0 7 = 1 from (d_in1 (a := 0) (b := 7) (by omega) (by omega) (by omega)).2]
        rfl
      have e4 : g_tn_put (nI (x + k)) (nI y) kd b = true := by
        unfold g_tn_put
        rw [e3, e2, nI_zin (by omega), dT (show 12 * y + x + k < 96 by omega)]
        rfl
      have e5 : a0_tn_put (nI (x + k)) (nI y) kd b = zup b (12 * y + x + k) kd := by
        unfold a0_tn_put
        rw [e3, e2, nI_cl (by omega)]
        rfl
      simp (disch := omega) only [nI_dle, dF, cond_false, nI_add, e4, e5, zg, zl, cond_true, nI_1]
      rw [show (12 : Int32) * nI y + nI x + nI k = nI (12 * y + x + k) from e1] 
      simp (disch := omega) only [nI_zin, nI_cl, dT, cond_true]
      exact ⟨q - 1, _, _, by omega, rfl, rfl, k + 1, _, _, by omega, rfl, rfl, KA_put hb _ _⟩) m (0, b) (0, c) ⟨0, b, c, by omega, rfl, rfl, hb⟩
  exact ⟨b', c', h1, h2, h3⟩
theorem d_isCount {a : Nat → Int32} {L p : Nat} (hL : L ≤ 260) (hp : p < 1000000) : g_tn_isCount 0 (nI p) (nI L) a = true ∧ w_tn_isCount 0 (nI p) (nI L) a = w_if_isWithin (sg a L p) 50 57 := by
  have e := d_sign (a := a) hL hp
  unfold g_tn_isCount w_tn_isCount w_if_isWithin
  rw [e.1, e.2]
  refine ⟨?_, rfl⟩
  cases decide (sg a L p < 50) <;> rfl
theorem d_fail0 (x y p1 : Int32) : f0_tx_fail x y 0 p1 = x ∧ f1_tx_fail x y 0 p1 = y := ⟨rfl, rfl⟩
theorem d_failF {p0 : Int32} (h : p0 ≠ 0) (x y p1 : Int32) : f0_tx_fail x y p0 p1 = p0 ∧ f1_tx_fail x y p0 p1 = p1 := by
  unfold f0_tx_fail f1_tx_fail
  rw [dF h]
  exact ⟨rfl, rfl⟩
theorem d_skip (p : Nat) : f0_tx_skip (nI p) = nI (p + 1) := nI_1 p
theorem d_wrong (x y : Int32) : w_md_wrongAt x y = 0 ∧ f0_md_wrongAt x y = (-1000) * x - y := ⟨rfl, rfl⟩
theorem kindBy_m1 : w_md_kindBy (-1) = -1 := by decide
theorem nI_nem1 {a : Nat} (ha : a < 2147483648) : nI a ≠ -1 := of_decide_eq_false (nI_nm1 ha)
/-- one sign of a row -/
theorem d_sgn {a1 a70 : Nat → Int32} (h : RT a1 a70) {L x y p : Nat} (hL : L ≤ 260) (hp : p < 1000) (hx : x ≤ 12) (hy : y < 8) (fp F9 : Int32) {b c : Nat → Int32} (hb : KA 96 b c) :
    (∃ m p' b' c', 1 ≤ m ∧ x + m ≤ 12 ∧ p < p' ∧ p' ≤ p + 2 ∧ p' ≤ L ∧ KA 96 b' c' ∧ q_tn_readSign (nI x) (nI y) a1 b (nI L) 0 fp (nI p) = some (nI (x + m), b', 0, fp, nI p') ∧
      b_md_readsRow_27 (nI y) a70 (nI L) F9 (nI x) 1 c (nI p) = some (.inl (nI (x + m), b01 (decide (p' < L) && !decide (sg a1 L p' = 47)), c', nI p'))) ∨
    (∃ v b' k pl ps c' ps', q_tn_readSign (nI x) (nI y) a1 b (nI L) 0 fp (nI p) = some (v, b', nI k, nI pl, ps) ∧ 1 ≤ k ∧ k ≤ 8 ∧ pl ≤ 1000 ∧ b_md_readsRow_27 (nI y) a70 (nI L) F9 (nI x) 1 c (nI p) = some (.inr (0, c', ps', f0_md_wrongAt (nI k) (nI pl)))) := by
  have hc := d_isCount (a := a1) hL (show p < 1000000 by omega)
  have s0 := d_sign (a := a1) hL (show p < 1000000 by omega)
  have s1 := d_sign (a := a1) hL (show p + 1 < 1000000 by omega)
  have h0 := d_here h hL (show p < 1000000 by omega)
  have h1 := d_here h hL (show p + 1 < 1000000 by omega)
  have eC : q_tn_readSign (nI x) (nI y) a1 b (nI L) 0 fp (nI p) = (bif decide (w_if_isWithin (sg a1 L p) 50 57 = 0) then
      (bif decide (0 ≤ w_tn_kindOf (sg a1 L p)) then (bif decide (nI (x + 1) ≤ 12) then l_tn_readSign_104 (nI x) (nI y) 0 fp 1 (w_tn_kindOf (sg a1 L p)) (nI (p + 1)) 0 b else some (nI (x + 1), b, 6, nI p, nI p)) else some (nI (x + 1), b, 1, nI p, nI p))
    else (bif decide (0 ≤ w_tn_kindOf (sg a1 L (p + 1))) then (bif decide (nI x + (sg a1 L p - 48) ≤ 12) then l_tn_readSign_104 (nI x) (nI y) 0 fp (sg a1 L p - 48) (w_tn_kindOf (sg a1 L (p + 1))) (nI (p + 1 + 1)) 0 b else some (nI x + (sg a1 L p - 48), b, 6, nI p, nI (p + 1))) else some (nI x + (sg a1 L p - 48), b, 1, nI (p + 1), nI (p + 1)))) := by
    unfold q_tn_readSign
    rw [hc.1, hc.2, s0.1, s0.2]
    simp only [zg, zl, cond_true, d_skip, nI_1]
    rw [s1.1, s1.2]
    rfl
  rw [eC]
  unfold b_md_readsRow_27
  rw [h0.1, h0.2]
  simp only [zg, zl, cond_true, show decide ((1 : Int32) = 0) = false from rfl, cond_false, nI_1]
  rw [h1.1, h1.2]
  simp only [cond_true]
  rcases d_within (sg a1 L p) (a := 50) (b := 57) (by omega) (by omega) with ⟨e1, e2⟩ | ⟨e1, e2, n, en, hn1, hn2⟩
  · -- no digit
    simp only [show w_if_isWithin (sg a1 L p) 50 57 = 0 from e1, show w_md_in (sg a1 L p) 50 57 = 0 from e2, show decide ((0 : Int32) = 0) = true from rfl, cond_true]
    obtain ⟨k1, k2⟩ := d_kind (sg a1 L p)
    rw [k1]
    rcases k2 with k2 | ⟨kd, hkd, k2⟩
    · rw [k2]
      right
      exact ⟨_, _, 1, p, _, _, _, rfl, by omega, by omega, by omega, rfl⟩
    · rw [k2, nI_nn (by omega), nI_nm1 (by omega), show (12 : Int32) = nI 12 from rfl, nI_dle (by omega) (by omega)]
      simp only [cTt, nFf]
      by_cases hx2 : x + 1 ≤ 12
      · rw [dT hx2]
        left
        have hpL : p + 1 ≤ L := by
          rcases sg_byte h hL p with ⟨q, -⟩ | ⟨-, q⟩
          · omega
          · rw [q] at k2
            rw [kindBy_m1] at k2
            exact absurd k2.symm (nI_nem1 (by omega))
        obtain ⟨b', c', q1, q2, q3⟩ := d_putSign h (p := p + 1) (m := 1) hL (by omega) hx2 hy (nI kd) fp hb
        exact ⟨1, p + 1, b', c', by omega, hx2, by omega, by omega, hpL, q3, q1, q2⟩
      · rw [dF hx2]
        right
        exact ⟨_, _, 6, p, _, _, _, rfl, by omega, by omega, by omega, rfl⟩
  · -- a digit
    simp only [show w_if_isWithin (sg a1 L p) 50 57 = 1 from e1, show w_md_in (sg a1 L p) 50 57 = 1 from e2, show decide ((1 : Int32) = 0) = false from rfl, cond_false]
    have e48 : sg a1 L p - 48 = nI (n - 48) := by rw [en, show (48 : Int32) = nI 48 from rfl, pk_sub (by omega)]
    rw [e48]
    obtain ⟨k1, k2⟩ := d_kind (sg a1 L (p + 1))
    rw [k1]
    rcases k2 with k2 | ⟨kd, hkd, k2⟩
    · rw [k2]
      right
      exact ⟨_, _, 1, p + 1, _, _, _, rfl, by omega, by omega, by omega, rfl⟩
    · rw [k2, nI_nn (by omega), nI_nm1 (by omega), show (12 : Int32) = nI 12 from rfl, nI_add, nI_dle (by omega) (by omega)]
      simp only [cTt, nFf]
      by_cases hx2 : x + (n - 48) ≤ 12
      · rw [dT hx2]
        left
        have hpL : p + 2 ≤ L := by
          rcases sg_byte h hL (p + 1) with ⟨q, -⟩ | ⟨-, q⟩
          · omega
          · rw [q] at k2
            rw [kindBy_m1] at k2
            exact absurd k2.symm (nI_nem1 (by omega))
        obtain ⟨b', c', q1, q2, q3⟩ := d_putSign h (p := p + 1 + 1) (m := n - 48) hL (by omega) hx2 hy (nI kd) fp hb
        refine ⟨n - 48, p + 1 + 1, b', c', by omega, hx2, by omega, by omega, hpL, q3, ?_, ?_⟩
        · exact q1
        · exact q2
      · rw [dF hx2]
        right
        exact ⟨_, _, 6, p, _, _, _, rfl, by omega, by omega, by omega, rfl⟩
/-- a sign behind a fault -/
theorem d_sgnF {k : Int32} (hk : k ≠ 0) (x y : Int32) (a1 b : Nat → Int32) (L pl ps : Int32) : q_tn_readSign x y a1 b L k pl ps = some (x + 1, b, k, pl, ps) := by
  have s0 := d_signF hk ps L a1
  have hc : g_tn_isCount k ps L a1 = true ∧ w_tn_isCount k ps L a1 = 0 := by
    unfold g_tn_isCount w_tn_isCount
    rw [s0.1, s0.2]
    exact ⟨rfl, rfl⟩
  unfold q_tn_readSign
  simp only [hc, s0, zg, zl, cond_true, show decide ((0 : Int32) = 0) = true from rfl, show w_tn_kindOf (-1) = -1 from rfl, show decide ((0 : Int32) ≤ -1) = false from rfl, cond_false, d_failF hk, decide_true, decide_false]
/-- a row's loop behind a fault: it ends -/
theorem d_rowF {k : Int32} (hk : k ≠ 0) (y : Int32) (a1 b : Nat → Int32) (L x l4 pl ps : Int32) : l_tn_readRow_35 y a1 L x 0 l4 b k pl ps = some (b, k, pl, ps) := by
  refine zlp_out ?_
  simp only [f_tn_readRow_35, b_tn_readRow_35, show decide ((0 : Int32) = 0) = true from rfl, cond_true]
  cases decide (12 < l4) <;> rfl
def okRow (a1 : Nat → Int32) (L : Nat) (fp F9 : Int32) (r : T_tn_readRow) (r' : T_md_readsRow) : Prop :=
  (∃ b c p, r = (b, 0, fp, nI p) ∧ r' = (1, c, nI p, F9) ∧ KA 96 b c ∧ p ≤ L ∧ (p < L → sg a1 L p = 47)) ∨ (∃ b k pl ps c ps', r = (b, nI k, nI pl, ps) ∧ 1 ≤ k ∧ k ≤ 8 ∧ pl ≤ 1000 ∧ r' = (0, c, ps', f0_md_wrongAt (nI k) (nI pl)))
theorem d_row {a1 a70 : Nat → Int32} (h : RT a1 a70) {L y p : Nat} (hL : L ≤ 260) (hp : p ≤ L) (hy : y < 8) (fp F9 : Int32) {b c : Nat → Int32} (hb : KA 96 b c) :
    ∃ r r', l_tn_readRow_35 (nI y) a1 (nI L) 0 1 0 b 0 fp (nI p) = some r ∧ l_md_readsRow_27 (nI y) a70 (nI L) F9 0 1 c (nI p) = some r' ∧ okRow a1 L fp F9 r r' := by
  refine zlp_relx (f := f_tn_readRow_35 (nI y) a1 (nI L)) (g := f_md_readsRow_27 (nI y) a70 (nI L) F9) (fun q s t => ∃ x k p b c, ∃ more : Bool, q = 2 * (12 - x) + (bif more then 1 else 0) ∧ k ≤ x ∧ x ≤ 12 ∧ p ≤ L ∧ s = (nI x, b01 more, nI k, b, 0, fp, nI p) ∧ t = (nI x, b01 more, c, nI p) ∧ KA 96 b c ∧ (more = false → p < L → sg a1 L p = 47)) (okRow a1 L fp F9) ?_ (2 * 12 + 1) (0, 1, 0, b, 0, fp, nI p) (0, 1, c, nI p) ⟨0, 0, p, b, c, true, rfl, by omega, by omega, hp, rfl, rfl, hb, fun e => by cases e⟩
  rintro q s t ⟨x, k, p, b, c, more, hq, hkx, hx, hp, rfl, rfl, hb, hm⟩
  cases more with
  | false =>
    right
    refine ⟨(b, 0, fp, nI p), (1, c, nI p, F9), zlp_out ?_, zlp_out ?_, Or.inl ⟨b, c, p, rfl, rfl, hb, hp, hm rfl⟩⟩
    · simp only [f_tn_readRow_35, b_tn_readRow_35, show decide (b01 false = 0) = true from rfl, cond_true]
      cases decide (12 < nI k) <;> rfl
    · rfl
  | true =>
    have ek : decide (12 < nI k) = false := by rw [show (12 : Int32) = nI 12 from rfl, nI_dlt (by omega) (by omega)]; exact dF (by omega)
    rcases d_sgn h (x := x) (y := y) (p := p) hL (by omega) hx hy fp F9 hb with ⟨m, p', b', c', hm1, hm2, hp1, hp2, hpL, hb', q1, q2⟩ | ⟨v, b', kk, pl, ps, c', ps', q1, hk1, hk2, hpl, q2⟩
    · left
      refine ⟨_, (nI (x + m), b01 (decide (p' < L) && !decide (sg a1 L p' = 47)), nI (k + 1), b', 0, fp, nI p'), (nI (x + m), b01 (decide (p' < L) && !decide (sg a1 L p' = 47)), c', nI p'), ?_, ?_, q2, x + m, k + 1, p', b', c', _, rfl, by omega, hm2, hpL, rfl, rfl, hb', ?_⟩
      · rw [hq]
        cases (decide (p' < L) && !decide (sg a1 L p' = 47)) <;> simp only [cond_true, cond_false] <;> omega
      · simp only [f_tn_readRow_35, b_tn_readRow_35, ek, show decide (b01 true = 0) = false from rfl, cond_false, q1, zbd, zl, show w_tx_isGood 0 = 1 from rfl, show decide ((1 : Int32) = 0) = false from rfl]
        have e := d_sign (a := a1) hL (show p' < 1000000 by omega)
        unfold w_tx_isAtEnd
        rw [e.1, e.2, nI_dlt (by omega) (by omega), nI_1]
        by_cases hpl : p' < L
        · rw [dT hpl]
          cases decide (sg a1 L p' = 47) <;> rfl
        · rw [dF hpl]
          rfl
      · intro e1 e2
        rw [dT e2, Bool.true_and] at e1
        have : decide (sg a1 L p' = 47) = true := by simpa using e1
        exact of_decide_eq_true this
    · right
      have hk0 : nI kk ≠ 0 := nI_ne0 (by omega) (by omega)
      refine ⟨(b', nI kk, nI pl, ps), _, ?_, zlp_out q2, Or.inr ⟨b', kk, pl, ps, c', ps', rfl, hk1, hk2, hpl, rfl⟩⟩
      have e : f_tn_readRow_35 (nI y) a1 (nI L) (nI x, b01 true, nI k, b, 0, fp, nI p) = some (.inl (v, 0, nI k + 1, b', nI kk, nI pl, ps)) := by
        simp only [f_tn_readRow_35, b_tn_readRow_35, ek, show decide (b01 true = 0) = false from rfl, cond_false, q1, zbd, zl]
        rw [show w_tx_isGood (nI kk) = 0 from by unfold w_tx_isGood; rw [dF hk0]; rfl]
        rfl
      rw [zlp_in e]
      exact d_rowF hk0 _ _ _ _ _ _ _ _
/-- any row -/
theorem d_rows {a1 a70 : Nat → Int32} (h : RT a1 a70) {L y p : Nat} (hL : L ≤ 260) (hp : p ≤ L) (hy : y ≤ 8) (fp F9 : Int32) {b c : Nat → Int32} (hb : KA 96 b c) :
    ∃ r r', q_tn_readRow (nI y) a1 b (nI L) 0 fp (nI p) = some r ∧ q_md_readsRow (nI y) a70 c (nI p) (nI L) F9 = some r' ∧ okRow a1 L fp F9 r r' ∧ (y = 8 → r'.1 = 0) := by
  unfold q_tn_readRow q_md_readsRow
  rw [show (8 : Int32) = nI 8 from rfl, nI_deq (by omega) (by omega)]
  by_cases hy8 : y = 8
  · rw [dT hy8]
    simp only [Bool.not_true, cond_false]
    have hc := d_isCount (a := a1) hL (show p < 1000000 by omega)
    have s0 := d_sign (a := a1) hL (show p < 1000000 by omega)
    have h0 := d_here h hL (show p < 1000000 by omega)
    obtain ⟨k1, k2⟩ := d_kind (sg a1 L p)
    have hcb : g_tn_canBeginSign 0 (nI p) (nI L) a1 = true ∧ g_md_canBeginRow (nI L) (nI p) a70 = true := by
      unfold g_tn_canBeginSign g_md_canBeginRow
      rw [hc.1, s0.1, h0.1]
      constructor
      · cases decide (w_tn_isCount 0 (nI p) (nI L) a1 = 0) <;> rfl
      · cases decide (w_md_in (w_md_here (nI L) (nI p) a70) 50 57 = 0) <;> rfl
    have fin4 : ∀ (pl ps : Int32), l_tn_readRow_35 (nI y) a1 (nI L) 0 1 0 b 4 pl ps = some (b, 4, pl, ps) := by
      intro pl ps
      have e : f_tn_readRow_35 (nI y) a1 (nI L) (0, 1, 0, b, 4, pl, ps) = some (.inl (0 + 1, 0, 0 + 1, b, 4, pl, ps)) := by
        simp only [f_tn_readRow_35, b_tn_readRow_35, d_sgnF (k := 4) (by decide)]
        rfl
      show zlp (f_tn_readRow_35 (nI y) a1 (nI L)) (0, 1, 0, b, 4, pl, ps) = _
      rw [zlp_in e]
      exact d_rowF (by decide) _ _ _ _ _ _ _ _
    by_cases hcan : w_md_canBeginRow (nI L) (nI p) a70 = 0
    · -- it can't begin: fault 1
      have hcan' : w_tn_canBeginSign 0 (nI p) (nI L) a1 = 0 ∧ w_if_isWithin (sg a1 L p) 50 57 = 0 ∧ w_md_in (sg a1 L p) 50 57 = 0 ∧ w_md_kindBy (sg a1 L p) = -1 := by
        unfold w_md_canBeginRow at hcan
        unfold w_tn_canBeginSign
        rw [hc.2, s0.2, k1]
        rw [h0.2] at hcan
        rcases d_within (sg a1 L p) (a := 50) (b := 57) (by omega) (by omega) with ⟨e1, e2⟩ | ⟨e1, e2, -⟩
        · rw [show w_md_in (sg a1 L p) 50 57 = 0 from e2] at hcan ⊢
          rw [show w_if_isWithin (sg a1 L p) 50 57 = 0 from e1]
          rcases k2 with k2 | ⟨kd, hkd, k2⟩
          · rw [k2]; exact ⟨rfl, rfl, rfl, rfl⟩
          · rw [k2, nI_nm1 (by omega)] at hcan
            exact absurd (show (1 : Int32) = 0 from hcan) (by decide)
        · rw [show w_md_in (sg a1 L p) 50 57 = 1 from e2] at hcan
          exact absurd (show (1 : Int32) = 0 from hcan) (by decide)
      obtain ⟨c1, c2, c3, c4⟩ := hcan'
      refine ⟨(b, 1, nI p, nI p), (0, c, nI p, f0_md_wrongAt 1 (nI p)), ?_, ?_, Or.inr ⟨b, 1, p, nI p, c, nI p, rfl, by omega, by omega, by omega, rfl⟩, fun _ => rfl⟩
      · rw [hcb.1, c1]
        simp only [zg, zl, cond_true, show decide ((0 : Int32) = 0) = true from rfl]
        have e : f_tn_readRow_35 (nI y) a1 (nI L) (0, 1, 0, b, 0, fp, nI p) = some (.inl (0 + 1, 0, 0 + 1, b, 1, nI p, nI p)) := by
          have q : q_tn_readSign 0 (nI y) a1 b (nI L) 0 fp (nI p) = some (0 + 1, b, 1, nI p, nI p) := by
            unfold q_tn_readSign
            simp only [hc, s0, zg, zl, cond_true, c2, show decide ((0 : Int32) = 0) = true from rfl, k1, c4, show decide ((0 : Int32) ≤ -1) = false from rfl, cond_false, d_fail0, decide_true, decide_false]
          simp only [f_tn_readRow_35, b_tn_readRow_35, q]
          rfl
        show zlp (f_tn_readRow_35 (nI y) a1 (nI L)) (0, 1, 0, b, 0, fp, nI p) = _
        rw [zlp_in e]
        exact d_rowF (by decide) _ _ _ _ _ _ _ _
      · rw [hcb.2, hcan]
        simp only [zg, zl, cond_true, show decide ((0 : Int32) = 0) = true from rfl]
        refine zlp_out ?_
        simp only [f_md_readsRow_27, b_md_readsRow_27, h0, zg, zl, cond_true, show decide ((1 : Int32) = 0) = false from rfl, cond_false, c3, show decide ((0 : Int32) = 0) = true from rfl, c4]
        rfl
    · -- fault 4
      have hcan' : w_tn_canBeginSign 0 (nI p) (nI L) a1 ≠ 0 := by
        unfold w_md_canBeginRow at hcan
        unfold w_tn_canBeginSign
        rw [hc.2, s0.2, k1]
        rw [h0.2] at hcan
        rcases d_within (sg a1 L p) (a := 50) (b := 57) (by omega) (by omega) with ⟨e1, e2⟩ | ⟨e1, e2, -⟩
        · rw [show w_md_in (sg a1 L p) 50 57 = 0 from e2] at hcan
          rw [show w_if_isWithin (sg a1 L p) 50 57 = 0 from e1]
          rcases k2 with k2 | ⟨kd, hkd, k2⟩
          · rw [k2] at hcan; exact absurd rfl hcan
          · rw [k2, nI_neg (by omega)]
            show (1 : Int32) ≠ 0
            decide
        · rw [show w_if_isWithin (sg a1 L p) 50 57 = 1 from e1]
          show (1 : Int32) ≠ 0
          decide
      refine ⟨(b, 4, nI p, nI p), (0, c, nI p, f0_md_wrongAt 4 (nI p)), ?_, ?_, Or.inr ⟨b, 4, p, nI p, c, nI p, rfl, by omega, by omega, by omega, rfl⟩, fun _ => rfl⟩
      · simp only [hcb.1, zg, zl, cond_true, dF hcan', cond_false, d_fail0]
        exact fin4 _ _
      · simp only [hcb.2, zg, zl, cond_true, dF hcan, cond_false]
        rfl
  · rw [dF hy8]
    simp only [Bool.not_false, cond_true]
    obtain ⟨r, r', h1, h2, h3⟩ := d_row h (y := y) hL hp (by omega) fp F9 hb
    exact ⟨r, r', h1, h2, h3, fun e => absurd e hy8⟩
