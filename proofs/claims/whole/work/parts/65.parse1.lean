/-! ===== D: the law's text: helpers of both readers ===== -/
theorem d_emit {cm : Nat} (hc : cm < 240) (x y : Int32) (ops args : Nat → Int32) (lu : Int32) : g_lw_emit x y (nI cm) ops args lu = true ∧ w_lw_emit x y (nI cm) ops args lu = nI cm ∧ a0_lw_emit x y (nI cm) ops args lu = zup ops cm x ∧ a1_lw_emit x y (nI cm) ops args lu = zup args cm y ∧ f0_lw_emit x y (nI cm) ops args lu = nI (cm + 1) ∧ f1_lw_emit x y (nI cm) ops args lu = (bif !decide (x = 2) then lu else lu ||| (1 <<< (y &&& 31))) := by
  unfold g_lw_emit w_lw_emit a0_lw_emit a1_lw_emit f0_lw_emit f1_lw_emit
  rw [show (240 : Int32) = nI 240 from rfl, nI_dlt (by omega) (by omega), dT hc, nI_zin (by omega), dT hc, nI_cl (by omega), nI_1, show nI (cm + 1) - 1 = nI cm from by rw [show (1 : Int32) = nI 1 from rfl, pk_sub (by omega), Nat.add_sub_cancel]]
  exact ⟨rfl, rfl, rfl, rfl, rfl, rfl⟩
/-- a step put down, whatever comes of it -/
theorem d_emitAny {cm : Nat} (hc : cm ≤ 240) (x y : Int32) (ops args : Nat → Int32) (lu : Int32) : ∃ w ops' args' cm' lu', cm' ≤ 240 ∧ g_lw_emit x y (nI cm) ops args lu = true ∧ w_lw_emit x y (nI cm) ops args lu = w ∧ a0_lw_emit x y (nI cm) ops args lu = ops' ∧ a1_lw_emit x y (nI cm) ops args lu = args' ∧ f0_lw_emit x y (nI cm) ops args lu = nI cm' ∧ f1_lw_emit x y (nI cm) ops args lu = lu' := by
  by_cases h : cm < 240
  · obtain ⟨h1, h2, h3, h4, h5, h6⟩ := d_emit h x y ops args lu
    exact ⟨_, _, _, cm + 1, _, by omega, h1, h2, h3, h4, h5, h6⟩
  · refine ⟨_, _, _, cm, _, hc, ?_, rfl, rfl, rfl, ?_, rfl⟩
    · unfold g_lw_emit
      rw [show (240 : Int32) = nI 240 from rfl, nI_dlt (by omega) (by omega), dF h]
      rfl
    · unfold f0_lw_emit
      rw [show (240 : Int32) = nI 240 from rfl, nI_dlt (by omega) (by omega), dF h]
      rfl
theorem d_aimAny (x : Int32) (args : Nat → Int32) (sz : Int32) : ∃ args', q_lw_aimHere x args sz = some args' := by
  obtain ⟨r, h1, -⟩ := zlp_one (f := f_lw_aimHere_4 sz) (fun m s => ∃ k x b, k + m = 240 ∧ s = (x, nI k, b)) (fun _ => True) (by
    rintro m s ⟨k, x, b, hk, rfl⟩
    dsimp +instances only [f_lw_aimHere_4, b_lw_aimHere_4]
    rw [show (240 : Int32) = nI 240 from rfl, nI_dle (by omega) (by omega)]
    by_cases hk2 : 240 ≤ k
    · rw [dT hk2]; exact Or.inr ⟨_, rfl, trivial⟩
    · rw [dF hk2]
      by_cases h1 : x < 0
      · rw [dT h1]; exact Or.inr ⟨_, rfl, trivial⟩
      · rw [dF h1]
        obtain ⟨j, hj, rfl⟩ := nI_of h1
        rw [nI_dle (by omega) (by omega)]
        by_cases h2 : 240 ≤ j
        · rw [dT h2]; exact Or.inr ⟨_, rfl, trivial⟩
        · rw [dF h2, nI_zin (by omega), dT (show j < 240 by omega), nI_1]
          exact Or.inl ⟨m - 1, _, by omega, rfl, k + 1, _, _, by omega, rfl⟩) 240 (x, 0, args) ⟨0, x, args, by omega, rfl⟩
  exact ⟨r, h1⟩
/-- a chain of jumps that wait -/
def CHN (args : Nat → Int32) : Int32 → List Nat → Prop
  | x, [] => x = -1
  | x, p :: P => x = nI p ∧ p < 240 ∧ CHN args (args p) P
def DEC : Nat → List Nat → Prop
  | _, [] => True
  | e, p :: P => p < e ∧ DEC p P
theorem DEC_lt : ∀ {e : Nat} {P : List Nat}, DEC e P → ∀ x ∈ P, x < e
  | _, [], _, x, hx => by cases hx
  | e, p :: P, h, x, hx => by
    rcases List.mem_cons.mp hx with q | q
    · rw [q]; exact h.1
    · have := DEC_lt h.2 x q
      have := h.1
      omega
theorem DEC_len : ∀ {e : Nat} {P : List Nat}, DEC e P → P.length ≤ e
  | _, [], _ => Nat.zero_le _
  | e, p :: P, h => by
    have := DEC_len h.2
    have := h.1
    show P.length + 1 ≤ e
    omega
theorem DEC_up {e e' : Nat} {P : List Nat} (h : DEC e P) (he : e ≤ e') : DEC e' P := by
  cases P with
  | nil => trivial
  | cons p P => exact ⟨Nat.lt_of_lt_of_le h.1 he, h.2⟩
theorem CHN_congr {args args' : Nat → Int32} : ∀ {P : List Nat} {x : Int32}, CHN args x P → (∀ p ∈ P, args' p = args p) → CHN args' x P
  | [], _, h, _ => h
  | p :: P, x, h, e => by
    refine ⟨h.1, h.2.1, ?_⟩
    rw [e p List.mem_cons_self]
    exact CHN_congr h.2.2 (fun q hq => e q (List.mem_cons_of_mem _ hq))
theorem d_aimL (sz : Nat) : ∀ (P : List Nat) (k e : Nat) (x : Int32) (args : Nat → Int32), CHN args x P → DEC e P → P.length + k ≤ 239 → ∃ args', l_lw_aimHere_4 (nI sz) x (nI k) args = some args' ∧ (∀ p ∈ P, args' p = nI sz) ∧ (∀ z, z ∉ P → args' z = args z)
  | [], k, e, x, args, h, _, hk => by
    have hk : 0 + k ≤ 239 := hk
    have h : x = -1 := h
    subst h
    refine ⟨args, zlp_out ?_, fun p hp => (by cases hp), fun _ _ => rfl⟩
    dsimp +instances only [f_lw_aimHere_4, b_lw_aimHere_4]
    rw [show (240 : Int32) = nI 240 from rfl, nI_dle (by omega) (by omega), dF (by omega)]
    rfl
  | p :: P, k, e, x, args, h, hd, hk => by
    have hk : P.length + 1 + k ≤ 239 := hk
    obtain ⟨rfl, hp, hc⟩ := h
    have hlt := DEC_lt hd.2
    have hne : ∀ q ∈ P, q ≠ p := fun q hq e => by have := hlt q hq; omega
    obtain ⟨args', g1, g2, g3⟩ := d_aimL sz P (k + 1) p (args p) (zup args p (nI sz)) (CHN_congr hc (fun q hq => zup_ne (hne q hq))) hd.2 (by omega)
    refine ⟨args', ?_, fun q hq => ?_, fun z hz => ?_⟩
    · refine Eq.trans (zlp_in ?_) g1
      dsimp +instances only [f_lw_aimHere_4, b_lw_aimHere_4]
      rw [show (240 : Int32) = nI 240 from rfl, nI_dle (by omega) (by omega), dF (show ¬ 240 ≤ k by omega), nI_neg (by omega), nI_dle (by omega) (by omega), dF (show ¬ 240 ≤ p by omega), nI_zin (by omega), dT hp, nI_cl (by omega), nI_1]
      rfl
    · rcases List.mem_cons.mp hq with q1 | q1
      · subst q1
        rw [g3 q (fun hm => hne q hm rfl), zup_same]
      · exact g2 q q1
    · have hzp : z ≠ p := fun e => hz (by rw [e]; exact List.mem_cons_self)
      rw [g3 z (fun hm => hz (List.mem_cons_of_mem _ hm)), zup_ne hzp]
theorem d_aim {sz e : Nat} {P : List Nat} {x : Int32} {args : Nat → Int32} (h : CHN args x P) (hd : DEC e P) (he : e ≤ 239) : ∃ args', q_lw_aimHere x args (nI sz) = some args' ∧ (∀ p ∈ P, args' p = nI sz) ∧ (∀ z, z ∉ P → args' z = args z) := d_aimL sz P 0 e x args h hd (by have := DEC_len hd; omega)
/-! behind a fault the class's reader does nothing -/
theorem z_factor {f : Int32} (hf : f ≠ 0) (a1 : Nat → Int32) (n : Nat) (y : Int32) (ops args : Nat → Int32) (cm lu L fp ps : Int32) : (G_lr (n + 1)).2.2.2 y a1 ops args cm lu L f fp ps = some (ops, args, cm, lu, f, fp, ps) := by
  show qG_lr_readFactor (G_lr n).1 (G_lr n).2.1 (G_lr n).2.2.1 (G_lr n).2.2.2 y a1 ops args cm lu L f fp ps = _
  have e := d_signF hf ps L a1
  have e2 := d_failF hf 1 ps fp
  have e3 : g_tx_isDigit f ps L a1 = true ∧ w_tx_isDigit f ps L a1 = 0 := by
    unfold g_tx_isDigit w_tx_isDigit
    rw [e.1, e.2]
    exact ⟨rfl, rfl⟩
  unfold qG_lr_readFactor
  rw [e.1, e.2, e3.1, e3.2, e2.1, e2.2]
  rfl
theorem z_amount {f : Int32} (hf : f ≠ 0) (a1 : Nat → Int32) (n : Nat) (y : Int32) (ops args : Nat → Int32) (cm lu L fp ps : Int32) : (G_lr (n + 2)).2.2.1 y a1 ops args cm lu L f fp ps = some (ops, args, cm, lu, f, fp, ps) := by
  show qG_lr_readAmount (G_lr (n + 1)).1 (G_lr (n + 1)).2.1 (G_lr (n + 1)).2.2.1 (G_lr (n + 1)).2.2.2 y a1 ops args cm lu L f fp ps = _
  have e := d_signF hf ps L a1
  unfold qG_lr_readAmount
  rw [z_factor hf a1 n]
  refine zlp_out ?_
  dsimp +instances only [f_lr_readAmount_11, b_lr_readAmount_11]
  rw [e.1, e.2]
  rfl
theorem z_test {f : Int32} (hf : f ≠ 0) (a1 : Nat → Int32) (n : Nat) (y : Int32) (ops args : Nat → Int32) (cm lu L fp ps : Int32) : (G_lr (n + 3)).2.1 y a1 ops args cm lu L f fp ps = some (ops, args, cm, lu, f, fp, ps) := by
  show qG_lr_readTest (G_lr (n + 2)).1 (G_lr (n + 2)).2.1 (G_lr (n + 2)).2.2.1 (G_lr (n + 2)).2.2.2 y a1 ops args cm lu L f fp ps = _
  have e := d_signF hf ps L a1
  have e2 := d_failF hf 1 ps fp
  unfold qG_lr_readTest
  rw [e.1, e.2, z_amount hf a1 n]
  dsimp +instances only [zbd]
  rw [e.1, e.2, e2.1, e2.2]
  rfl
theorem z_cond {f : Int32} (hf : f ≠ 0) (a1 : Nat → Int32) (n : Nat) (y : Int32) (ops args : Nat → Int32) (cm lu L fp ps : Int32) : (G_lr (n + 4)).1 y a1 ops args cm lu L f fp ps = some (ops, args, cm, lu, f, fp, ps) := by
  show qG_lr_readCondition (G_lr (n + 3)).1 (G_lr (n + 3)).2.1 (G_lr (n + 3)).2.2.1 (G_lr (n + 3)).2.2.2 y a1 ops args cm lu L f fp ps = _
  have e := d_signF hf ps L a1
  have e2 : ∀ b : Nat → Int32, q_lw_aimHere (-1) b cm = some b := fun b => zlp_out rfl
  unfold qG_lr_readCondition
  rw [z_test hf a1 n]
  refine zlp_out ?_
  dsimp +instances only [f_lr_readCondition_14, b_lr_readCondition_14]
  rw [e.1, e.2, e2]
  dsimp +instances only [zbd]
  rw [e2]
  rfl
/-- an amount's loop behind a fault -/
theorem z_amountL {f : Int32} (hf : f ≠ 0) (a1 : Nat → Int32) (Q1 Q2 Q3 Q4 : Int32 → (Nat → Int32) → (Nat → Int32) → (Nat → Int32) → Int32 → Int32 → Int32 → Int32 → Int32 → Int32 → Option ((Nat → Int32) × (Nat → Int32) × Int32 × Int32 × Int32 × Int32 × Int32)) (y l3 : Int32) (l4 : Nat) (hl4 : l4 < 2147483648) (ops args : Nat → Int32) {cm : Nat} (hc : cm ≤ 240) (lu L fp ps : Int32) : ∃ ops' args' cm' lu', cm' ≤ 240 ∧ l_lr_readAmount_11 Q1 Q2 Q3 Q4 y a1 L l3 (nI l4) ops args (nI cm) lu f fp ps = some (ops', args', nI cm', lu', f, fp, ps) := by
  have e := d_signF hf ps L a1
  obtain ⟨w, ops', args', cm', lu', k1, k2, k3, k4, k5, k6, k7⟩ := d_emitAny hc l3 0 ops args lu
  have step : ∃ ops' args' cm' lu', cm' ≤ 240 ∧ f_lr_readAmount_11 Q1 Q2 Q3 Q4 y a1 L (l3, nI l4, ops, args, nI cm, lu, f, fp, ps) = some (.inr (ops', args', nI cm', lu', f, fp, ps)) := by
    dsimp +instances only [f_lr_readAmount_11, b_lr_readAmount_11]
    rw [e.1, e.2, k2, k4, k5, k6, k7]
    cases decide (240 ≤ nI l4) with
    | true => exact ⟨ops, args, cm, lu, hc, rfl⟩
    | false =>
      cases decide (l3 = 0) with
      | true => exact ⟨ops, args, cm, lu, hc, rfl⟩
      | false => exact ⟨ops', args', cm', lu', k1, rfl⟩
  obtain ⟨o', a', c', l', s1, s2⟩ := step
  exact ⟨o', a', c', l', s1, zlp_out s2⟩
/-- a condition's loop behind a fault -/
theorem z_condL {f : Int32} (hf : f ≠ 0) (a1 : Nat → Int32) (Q1 Q2 Q3 Q4 : Int32 → (Nat → Int32) → (Nat → Int32) → (Nat → Int32) → Int32 → Int32 → Int32 → Int32 → Int32 → Int32 → Option ((Nat → Int32) × (Nat → Int32) × Int32 × Int32 × Int32 × Int32 × Int32)) (y l3 l4 l5 : Int32) (ops args : Nat → Int32) (cm lu L fp ps : Int32) : ∃ args', l_lr_readCondition_14 Q1 Q2 Q3 Q4 y a1 L l3 l4 l5 ops args cm lu f fp ps = some (ops, args', cm, lu, f, fp, ps) := by
  have e := d_signF hf ps L a1
  obtain ⟨a2, h2⟩ := d_aimAny l3 args cm
  obtain ⟨a3, h3⟩ := d_aimAny l4 a2 cm
  refine ⟨a3, zlp_out ?_⟩
  dsimp +instances only [f_lr_readCondition_14, b_lr_readCondition_14]
  rw [e.1, e.2, h2]
  dsimp +instances only [zbd]
  rw [h3]
  cases decide (240 ≤ l5) <;> rfl
/-! the model's stack -/
theorem d_top0 (waits : Nat → Int32) : g_md_waitTop (nI 0) waits = true ∧ w_md_waitTop (nI 0) waits = -1 := ⟨rfl, rfl⟩
theorem d_topS {wt m x : Nat} {waits : Nat → Int32} (hw : wt < 260) (hm : m ≤ 15) (hx : x < 1048576) (h : waits wt = nI (1048576 * m + x)) : g_md_waitTop (nI (wt + 1)) waits = true ∧ w_md_waitTop (nI (wt + 1)) waits = nI m := by
  unfold g_md_waitTop w_md_waitTop
  rw [dF (show ¬ nI (wt + 1) = 0 from nI_ne0 (by omega) (by omega)), show nI (wt + 1) - 1 = nI wt from by rw [show (1 : Int32) = nI 1 from rfl, pk_sub (by omega), Nat.add_sub_cancel], nI_zin (by omega), dT hw, nI_cl (by omega), h, dec_op hm hx]
  exact ⟨rfl, rfl⟩
/-- what stands on top is no sign of a sum -/
def NS (waits : Nat → Int32) (wt : Nat) : Prop := wt = 0 ∨ ∃ w m x, wt = w + 1 ∧ w < 260 ∧ 10 ≤ m ∧ m ≤ 14 ∧ x < 1048576 ∧ waits w = nI (1048576 * m + x)
theorem NS_top {waits : Nat → Int32} {wt : Nat} (h : NS waits wt) : g_md_waitTop (nI wt) waits = true ∧ (w_md_waitTop (nI wt) waits = -1 ∨ ∃ m, 10 ≤ m ∧ m ≤ 14 ∧ w_md_waitTop (nI wt) waits = nI m) := by
  rcases h with rfl | ⟨w, m, x, rfl, h1, h2, h3, h4, h5⟩
  · exact ⟨rfl, Or.inl rfl⟩
  · obtain ⟨g1, g2⟩ := d_topS h1 (by omega) h4 h5
    exact ⟨g1, Or.inr ⟨m, h2, h3, g2⟩⟩
theorem NS_congr {waits waits' : Nat → Int32} {wt : Nat} (h : NS waits wt) (e : AR 0 wt waits' waits) : NS waits' wt := by
  rcases h with rfl | ⟨w, m, x, rfl, h1, h2, h3, h4, h5⟩
  · exact Or.inl rfl
  · exact Or.inr ⟨w, m, x, rfl, h1, h2, h3, h4, (e w (by omega) (by omega)).trans h5⟩
theorem d_note {cm : Nat} (hc : cm < 260) (m x : Nat) (said : Nat → Int32) : g_md_notes (nI m) (nI x) (nI cm) said = true ∧ a0_md_notes (nI m) (nI x) (nI cm) said = zup said cm (nI (1048576 * m + x)) ∧ f0_md_notes (nI m) (nI x) (nI cm) said = nI (cm + 1) := by
  unfold g_md_notes a0_md_notes f0_md_notes
  rw [nI_zin (by omega), dT hc, nI_cl (by omega), nI_1, show (1048576 : Int32) * nI m + nI x = nI (1048576 * m + x) from by rw [show (1048576 : Int32) = nI 1048576 from rfl, pk_mul, nI_add]]
  exact ⟨rfl, rfl, rfl⟩
/-- nothing to close -/
theorem cs_end {said waits : Nat → Int32} {wt : Nat} (h : NS waits wt) (x cm : Int32) : q_md_closesSums x said waits cm (nI wt) = some (said, cm, nI wt) := by
  obtain ⟨g1, g2⟩ := NS_top h
  refine zlp_out ?_
  dsimp +instances only [f_md_closesSums_0, b_md_closesSums_0]
  rw [g1]
  rcases g2 with g2 | ⟨m, h1, h2, g2⟩
  · rw [g2]
    cases decide (x = 0) <;> rfl
  · have h14 : m = 10 ∨ m = 11 ∨ m = 12 ∨ m = 13 ∨ m = 14 := by omega
    rw [g2]
    rcases h14 with rfl | rfl | rfl | rfl | rfl <;> cases decide (x = 0) <;> rfl
theorem cs_stop {said waits : Nat → Int32} {wt m : Nat} (hw : wt < 260) (hm : m = 2 ∨ m = 3) (h : waits wt = nI (1048576 * m + 0)) (cm : Int32) : q_md_closesSums 0 said waits cm (nI (wt + 1)) = some (said, cm, nI (wt + 1)) := by
  obtain ⟨g1, g2⟩ := d_topS hw (m := m) (by omega) (by omega) h
  refine zlp_out ?_
  dsimp +instances only [f_md_closesSums_0, b_md_closesSums_0]
  rw [g1, g2]
  rcases hm with rfl | rfl <;> rfl
theorem cs_step {said waits : Nat → Int32} {wt cm m : Nat} {x : Int32} (hw : wt < 260) (hc : cm < 260) (hm : m = 4 ∨ m = 5 ∨ m = 6 ∨ (x = 1 ∧ (m = 2 ∨ m = 3))) (h : waits wt = nI (1048576 * m + 0)) : q_md_closesSums x said waits (nI cm) (nI (wt + 1)) = q_md_closesSums x (zup said cm (nI (1048576 * m + 0))) waits (nI (cm + 1)) (nI wt) := by
  obtain ⟨g1, g2⟩ := d_topS hw (m := m) (by omega) (by omega) h
  obtain ⟨n1, n2, n3⟩ := d_note hc m 0 said
  refine zlp_in ?_
  dsimp +instances only [f_md_closesSums_0, b_md_closesSums_0]
  rw [g1, g2, show nI (wt + 1) - 1 = nI wt from by rw [show (1 : Int32) = nI 1 from rfl, pk_sub (by omega), Nat.add_sub_cancel]]
  dsimp +instances only [zl]
  rw [show g_md_notes (nI m) 0 (nI cm) said = true from n1, show a0_md_notes (nI m) 0 (nI cm) said = _ from n2, show f0_md_notes (nI m) 0 (nI cm) said = _ from n3]
  rcases hm with rfl | rfl | rfl | ⟨rfl, rfl | rfl⟩
  · rfl
  · rfl
  · rfl
  · rfl
  · rfl
theorem d_hasOpen {base wt : Nat} (waits : Nat → Int32) (hw : wt ≤ 260) (hb : base ≤ wt) : ∃ r : Bool, q_md_hasOpenSum (nI base) waits (nI wt) = some (b01 r) ∧ (r = true ↔ ∃ z, base ≤ z ∧ z < wt ∧ waits z / 1048576 = 14) := by
  obtain ⟨r, h1, v, rfl, h2⟩ := zlp_one (f := f_md_hasOpenSum_2 waits (nI wt)) (fun m s => ∃ k, k + m = wt ∧ s = nI k ∧ (∀ z, base ≤ z → z < k → ¬ waits z / 1048576 = 14) ∧ base ≤ k) (fun r => ∃ v : Bool, r = b01 v ∧ (v = true ↔ ∃ z, base ≤ z ∧ z < wt ∧ waits z / 1048576 = 14)) (by
    rintro m s ⟨k, hk, rfl, hz, hbk⟩
    dsimp +instances only [f_md_hasOpenSum_2, b_md_hasOpenSum_2]
    rw [nI_dle (by omega) (by omega)]
    by_cases hkw : wt ≤ k
    · right
      rw [dT hkw]
      exact ⟨_, rfl, false, rfl, fun q => (by cases q), fun ⟨z, z1, z2, z3⟩ => absurd z3 (hz z z1 (by omega))⟩
    · rw [dF hkw, nI_zin (by omega), dT (show k < 260 by omega), nI_cl (by omega), nI_1]
      by_cases e : waits k / 1048576 = 14
      · right
        rw [dT e]
        exact ⟨_, rfl, true, rfl, fun _ => ⟨k, hbk, by omega, e⟩, fun _ => rfl⟩
      · left
        rw [dF e]
        refine ⟨m - 1, _, by omega, rfl, k + 1, by omega, rfl, fun z z1 z2 => ?_, by omega⟩
        by_cases q : z = k
        · rw [q]; exact e
        · exact hz z z1 (by omega)) (wt - base) (nI base) ⟨base, by omega, rfl, fun z z1 z2 => by omega, Nat.le_refl _⟩
  exact ⟨v, h1, h2⟩
