/-! ===== D: the law: what was read, kept ===== -/
theorem g_endR {r : Nat} (hr : r < 16) (en : Nat → Int32) (x : Int32) : g_lw_endRule (nI r) en x = true ∧ a0_lw_endRule (nI r) en x = zup en r x ∧ f0_lw_endRule (nI r) en x = nI (r + 1) := by
  unfold g_lw_endRule a0_lw_endRule f0_lw_endRule
  rw [nI_zin (by omega), nI_cl (by omega), nI_1, show (16 : Int32) = nI 16 from rfl, nI_dle (by omega) (by omega), dF (show ¬ 16 ≤ r by omega), dT hr]
  exact ⟨rfl, rfl, rfl⟩
/-- behind a rule -/
theorem cEnd_good {a1 : Nat → Int32} {L : Nat} (hL : L ≤ 240) {r p : Nat} (hr : r < 16) (hp : p ≤ L) (rl am co en ops args : Nat → Int32) (cm lu fp : Int32) :
    (p = L ∧ cEnd a1 (nI L) (nI r) rl am co en (nI r) (ops, args, cm, lu, 0, fp, nI p) = some (.inl (0, nI (r + 1), ops, args, rl, am, co, zup en r cm, cm, lu, nI (r + 1), 0, fp, nI p))) ∨
    (p < L ∧ sg a1 L p = 59 ∧ cEnd a1 (nI L) (nI r) rl am co en (nI r) (ops, args, cm, lu, 0, fp, nI p) = some (.inl (1, nI (r + 1), ops, args, rl, am, co, zup en r cm, cm, lu, nI (r + 1), 0, fp, nI (p + 1)))) ∨
    (p < L ∧ ¬ sg a1 L p = 59 ∧ cEnd a1 (nI L) (nI r) rl am co en (nI r) (ops, args, cm, lu, 0, fp, nI p) = some (.inl (0, nI (r + 1), ops, args, rl, am, co, zup en r cm, cm, lu, nI (r + 1), 1, nI p, nI p))) := by
  have e := d_sign (a := a1) (show L ≤ 260 by omega) (show p < 1000000 by omega)
  obtain ⟨g1, g2, g3⟩ := g_endR hr en cm
  have ea : w_tx_isAtEnd (nI p) (nI L) = b01 (decide (L ≤ p)) := by
    unfold w_tx_isAtEnd
    rw [nI_dlt (by omega) (by omega)]
    by_cases hq : L ≤ p
    · rw [dT hq, dF (by omega)]; rfl
    · rw [dF hq, dT (by omega)]; rfl
  by_cases hpL : p = L
  · left
    refine ⟨hpL, ?_⟩
    have hsg : sg a1 L p = -1 := by unfold sg; rw [if_neg (by omega)]
    unfold cEnd
    dsimp +instances only
    rw [g1, g2, g3, e.1, e.2, hsg, ea, dT (show L ≤ p by omega), nI_1]
    rfl
  · by_cases hs : sg a1 L p = 59
    · right; left
      refine ⟨by omega, hs, ?_⟩
      unfold cEnd
      dsimp +instances only
      rw [g1, g2, g3, e.1, e.2, hs, nI_1, d_skip]
      rfl
    · right; right
      refine ⟨by omega, hs, ?_⟩
      unfold cEnd
      dsimp +instances only
      rw [g1, g2, g3, e.1, e.2, ea, dF (show ¬ L ≤ p by omega), nI_1, dF hs]
      rfl
/-- the code is kept -/
theorem d_copy95 (b71 b72 b73 b74 b75 b76 b78 b79 b80 b81 : Nat → Int32) (c6 c7 c8 c9 c10 c11 : Int32) (c13 c14 c15 : Int32) {cm : Nat} (hcm : cm ≤ 240) : ∀ (m k : Nat) (b77 : Nat → Int32), k + m = cm → AR 0 k b77 b71 →
    ∃ b77', AR 0 cm b77' b71 ∧ zlp (f_md_law_95 b71 b72 b73 b74 b75 b76 b78 b79 b80 b81 c6 c7 c8 c9 c10 c11 (nI cm) c13 c14 c15) (nI k, b77) = l_md_law_123 b71 b72 b73 b74 b75 b76 b77' c6 c7 c8 c9 c10 c11 (nI cm) c13 c14 c15 0 b78 b79 b80 b81 := by
  intro m
  induction m with
  | zero =>
    intro k b77 hk hA
    have : k = cm := by omega
    subst this
    refine ⟨b77, hA, (zlp_bind _).trans ?_⟩
    have fs : f_md_law_95 b71 b72 b73 b74 b75 b76 b78 b79 b80 b81 c6 c7 c8 c9 c10 c11 (nI k) c13 c14 c15 (nI k, b77) = zbd (l_md_law_123 b71 b72 b73 b74 b75 b76 b77 c6 c7 c8 c9 c10 c11 (nI k) c13 c14 c15 0 b78 b79 b80 b81) (fun z => some (.inr z)) := by
      dsimp +instances only [f_md_law_95, b_md_law_95]
      rw [dT (Int32.le_refl (nI k)), cTt]
    rw [fs]
    cases l_md_law_123 b71 b72 b73 b74 b75 b76 b77 c6 c7 c8 c9 c10 c11 (nI k) c13 c14 c15 0 b78 b79 b80 b81 with
    | none => rfl
    | some v => rfl
  | succ m ih =>
    intro k b77 hk hA
    have fs : f_md_law_95 b71 b72 b73 b74 b75 b76 b78 b79 b80 b81 c6 c7 c8 c9 c10 c11 (nI cm) c13 c14 c15 (nI k, b77) = some (.inl (nI (k + 1), zup b77 k (b71 k))) := by
      dsimp +instances only [f_md_law_95, b_md_law_95]
      rw [nI_dle (by omega) (by omega), dF (show ¬ cm ≤ k by omega), cFf, nI_zin (by omega), dT (show k < 260 by omega), nI_cl (by omega), nI_1]
      rfl
    obtain ⟨b77', h1, h2⟩ := ih (k + 1) (zup b77 k (b71 k)) (by omega) (fun x _ hx => by
      by_cases hxk : x = k
      · subst hxk; exact zup_same
      · rw [zup_ne hxk]; exact hA x (by omega) (by omega))
    exact ⟨b77', h1, (zlp_in fs).trans h2⟩
theorem AR_snoc {b b' : Nat → Int32} {k : Nat} (h : AR 0 k b b') : AR 0 (k + 1) (zup b k (b' k)) b' := fun x _ hx => by
  by_cases hxk : x = k
  · subst hxk; exact zup_same
  · rw [zup_ne hxk]; exact h x (by omega) (by omega)
/-- the rules are kept -/
theorem d_copy123 (b71 b72 b73 b74 b75 b76 b77 : Nat → Int32) (c6 c7 c8 c9 c10 c11 c12 c13 c15 : Int32) {n : Nat} (hn : n ≤ 16) : ∀ (m k : Nat) (b78 b79 b80 b81 : Nat → Int32), k + m = n → AR 0 k b78 b73 → AR 0 k b79 b74 → AR 0 k b80 b75 → AR 0 k b81 b76 →
    ∃ b78' b79' b80' b81', AR 0 n b78' b73 ∧ AR 0 n b79' b74 ∧ AR 0 n b80' b75 ∧ AR 0 n b81' b76 ∧ zlp (f_md_law_123 b71 b72 b73 b74 b75 b76 b77 c6 c7 c8 c9 c10 c11 c12 c13 (nI n) c15) (nI k, b78, b79, b80, b81) = some (nI n, b71, b72, b73, b74, b75, b76, b77, b78', b79', b80', b81', c6, c7, c8, c9, c10, c11, c12, c13, nI n, c15) := by
  intro m
  induction m with
  | zero =>
    intro k b78 b79 b80 b81 hk h1 h2 h3 h4
    have : k = n := by omega
    subst this
    refine ⟨b78, b79, b80, b81, h1, h2, h3, h4, zlp_out ?_⟩
    dsimp +instances only [f_md_law_123, b_md_law_123]
    rw [dT (Int32.le_refl (nI k)), cTt]
  | succ m ih =>
    intro k b78 b79 b80 b81 hk h1 h2 h3 h4
    have fs : f_md_law_123 b71 b72 b73 b74 b75 b76 b77 c6 c7 c8 c9 c10 c11 c12 c13 (nI n) c15 (nI k, b78, b79, b80, b81) = some (.inl (nI (k + 1), zup b78 k (b73 k), zup b79 k (b74 k), zup b80 k (b75 k), zup b81 k (b76 k))) := by
      dsimp +instances only [f_md_law_123, b_md_law_123]
      rw [nI_dle (by omega) (by omega), dF (show ¬ n ≤ k by omega), cFf, nI_zin (by omega), dT (show k < 16 by omega), nI_cl (by omega), nI_1]
      rfl
    obtain ⟨b78', b79', b80', b81', g1, g2, g3, g4, g5⟩ := ih (k + 1) _ _ _ _ (by omega) (AR_snoc h1) (AR_snoc h2) (AR_snoc h3) (AR_snoc h4)
    exact ⟨b78', b79', b80', b81', g1, g2, g3, g4, (zlp_in fs).trans g5⟩
/-- a run that is through -/
theorem rC_end (o a L : Nat → Int32) {to k : Nat} (b : Nat → Int32) : rC o a L to (nI (0 + 1), nI to, nI k, b) = some (b 0, b) := by
  refine zlp_out ?_
  dsimp +instances only [f_lw_run_9, b_lw_run_9]
  rw [dT (Int32.le_refl (nI to))]
  cases decide (240 ≤ nI k) with
  | true => rfl
  | false =>
    cases decide (nI to < 0) with
    | true => rfl
    | false => rfl
theorem rM_end (c F : Nat → Int32) {to : Nat} (b : Nat → Int32) : rM c F to (nI (0 + 1), nI to, b) = some (b 0, b) := by
  refine zlp_out ?_
  dsimp +instances only [f_md_reckonsTo_16, b_md_reckonsTo_16]
  rw [dT (Int32.le_refl (nI to))]
  rfl
/-- a piece of code, run by both -/
theorem PV_run {W : Int32 → Prop} {ops args said codes : Nat → Int32} {lu : Int32} {hh i j cm : Nat} (hP : PV W ops args said lu hh i j) (hij : i ≤ j) (hj : j ≤ cm) (hcm : cm ≤ 240) (hh32 : hh ≤ 32) (hc : AR 0 cm codes said) {L F : Nat → Int32} (hA : AGL lu L F) (b c : Nat → Int32) :
    ∃ v b' c', q_lw_run (nI i) (nI j) ops args b L = some (v, b') ∧ q_md_reckonsTo (nI i) (nI j) codes c F = some (v, c') ∧ (v = 0 ∨ W v) := by
  have e1 : q_lw_run (nI i) (nI j) ops args b L = rC ops args L j (nI 0, nI i, nI 0, b) := rfl
  have e0 : 260 * (nI i / 260) = (0 : Int32) := by
    have := pk_div (a := i) (d := 260) (by omega) (by omega) (by omega)
    rw [show i / 260 = 0 by omega] at this
    rw [show (260 : Int32) = nI 260 from rfl, this]
    rfl
  have e2 : q_md_reckonsTo (nI i) (nI j) codes c F = rM codes F j (nI 0, nI i, c) := by
    unfold q_md_reckonsTo
    rw [e0]
    rfl
  rw [e1, e2]
  rcases hP ops args codes L F (AR_refl _ _ _) (AR_refl _ _ _) (AR_sub hc (Nat.zero_le _) hj) hA j 0 0 b c (Nat.le_refl _) (by omega) (by omega) (Nat.zero_le _) with ⟨v, k', b', c', h1, h2, h3, h4, h5, h6, h7⟩ | ⟨b', c', h1, h2⟩
  · refine ⟨v, b', c', ?_, ?_, Or.inr h7⟩
    · rw [h2, rC_end, h5]
    · rw [h3, rM_end, h6]
  · exact ⟨0, b', c', h1, h2, Or.inl rfl⟩
/-- a rule, as both keep it -/
def RI (ops args said rl am co en sl sf sh st : Nat → Int32) (lu : Int32) (cm q : Nat) : Prop :=
  ∃ i j k, i ≤ j ∧ j ≤ k ∧ k ≤ cm ∧ am q = nI i ∧ sf q = nI i ∧ co q = nI j ∧ sh q = nI j ∧ en q = nI k ∧ st q = nI k ∧ rl q = sl q ∧ (sl q = 98 ∨ sl q = 115 → PV WT ops args said lu 15 i j) ∧ PV WB ops args said lu 14 j k
theorem LW_of {ops args said rl am co en sl sf sh st codes cl cf ch ct : Nat → Int32} {lu : Int32} {cm n : Nat} (hn : n ≤ 16) (hcm : cm ≤ 240) (hR : ∀ q, q < n → RI ops args said rl am co en sl sf sh st lu cm q) (hc : AR 0 cm codes said) (h1 : AR 0 n cl sl) (h2 : AR 0 n cf sf) (h3 : AR 0 n ch sh) (h4 : AR 0 n ct st) : LW ops args rl am co en (nI n) lu codes cl cf ch ct (nI n) := by
  refine ⟨n, hn, rfl, rfl, fun q hq => ?_⟩
  obtain ⟨i, j, k, hij, hjk, hk, e1, e2, e3, e4, e5, e6, e7, hP, hQ⟩ := hR q hq
  have u1 : cl q = sl q := h1 q (Nat.zero_le _) hq
  have u2 : cf q = nI i := (h2 q (Nat.zero_le _) hq).trans e2
  have u3 : ch q = nI j := (h3 q (Nat.zero_le _) hq).trans e4
  have u4 : ct q = nI k := (h4 q (Nat.zero_le _) hq).trans e6
  refine ⟨e7.trans u1.symm, fun L F hA b c => ?_, fun hl L F hA b c => ?_⟩
  · rw [e3, e5, u3, u4]
    obtain ⟨v, b', c', x1, x2, x3⟩ := PV_run hQ hjk hk hcm (by omega) hc hA b c
    exact ⟨v, b', c', x1, x2, by rcases x3 with z | z | z; exact Or.inl z; exact Or.inl z; exact Or.inr z⟩
  · rw [e1, e3, u2, u3]
    obtain ⟨v, b', c', x1, x2, -⟩ := PV_run (hP (by rw [← u1]; exact hl)) hij (by omega) hcm (by omega) hc hA b c
    exact ⟨v, b', c', x1, x2⟩
theorem RI_ext {ops args said rl am co en sl sf sh st ops' args' said' rl' am' co' en' sl' sf' sh' st' : Nat → Int32} {lu lu' : Int32} {cm cm' q : Nat} (h : RI ops args said rl am co en sl sf sh st lu cm q) (hcm : cm ≤ cm') (e1 : AR 0 cm ops' ops) (e2 : AR 0 cm args' args) (e3 : AR 0 cm said' said) (hl : SB lu lu')
    (k1 : rl' q = rl q) (k2 : am' q = am q) (k3 : co' q = co q) (k4 : en' q = en q) (k5 : sl' q = sl q) (k6 : sf' q = sf q) (k7 : sh' q = sh q) (k8 : st' q = st q) : RI ops' args' said' rl' am' co' en' sl' sf' sh' st' lu' cm' q := by
  obtain ⟨i, j, k, hij, hjk, hk, f1, f2, f3, f4, f5, f6, f7, hP, hQ⟩ := h
  refine ⟨i, j, k, hij, hjk, by omega, k2.trans f1, k6.trans f2, k3.trans f3, k7.trans f4, k4.trans f5, k8.trans f6, k1.trans (f7.trans k5.symm), fun hl' => ?_, ?_⟩
  · rw [k5] at hl'
    exact PV_mono (PV_ext (hP hl') (AR_sub e1 (Nat.zero_le _) (by omega)) (AR_sub e2 (Nat.zero_le _) (by omega)) (AR_sub e3 (Nat.zero_le _) (by omega))) hl (Nat.le_refl _)
  · exact PV_mono (PV_ext hQ (AR_sub e1 (Nat.zero_le _) (by omega)) (AR_sub e2 (Nat.zero_le _) (by omega)) (AR_sub e3 (Nat.zero_le _) (by omega))) hl (Nat.le_refl _)
