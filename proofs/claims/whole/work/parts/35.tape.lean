/-! ===== D: feed, check ===== -/
theorem RT_put {a1 a70 : Nat → Int32} (h : RT a1 a70) {k : Nat} {v w : Int32} (e : v = w &&& 255) : RT (zup a1 k v) (zup a70 k w) := by
  intro j hj
  by_cases q : j = k
  · subst q; rw [zup_same, zup_same]; exact e
  · rw [zup_ne q, zup_ne q]; exact h j hj
theorem d_byte (x : Int32) {s : Nat} (hs : s + 8 ≤ 32) : ((Int32.toUInt32 x >>> (Int32.toUInt32 (nI s) &&& Int32.toUInt32 31)).toInt32) &&& 255 = ((Int32.toInt8 ((Int32.toInt8 (x >>> (nI s &&& 31))).toInt32)).toInt32) &&& 255 := by
  rw [bp_b, bp_b]
  apply b_ext
  intro i hi
  rw [b_and, b_and, b_255, b_ushr s (by omega), b_sshr s (by omega) x hi]
  by_cases h8 : i < 8
  · rw [if_pos (by omega)]
  · rw [decide_eq_false h8, Bool.and_false, Bool.and_false]
theorem d_put (x : Int32) {a1 a70 : Nat → Int32} (h : RT a1 a70) {t : Nat} (ht : t + 4 ≤ 260) : ∃ b c, q_if_putBytes x a1 (nI t) = some (b, nI (t + 4)) ∧ q_md_types x a70 (nI t) = some (c, nI (t + 4)) ∧ RT b c := by
  have st : ∀ (j : Nat) (b c : Nat → Int32) (s l : Int32) (s' l' : Int32) (z : Nat), t ≤ j → j < 260 → z + 8 ≤ 32 → s = nI z → (8 : Int32) * l = nI z → decide (s < 0) = false → decide (l < 0) = false → s + (-8) = s' → l + (-1) = l' →
      ∃ b' c', f_if_putBytes_3 x (s, b, nI j) = some (.inl (s', b', nI (j + 1))) ∧ f_md_types_2 x (l, c, nI j) = some (.inl (l', c', nI (j + 1))) ∧ (RT b c → RT b' c') := by
    intro j b c s l s' l' z hj1 hj2 hz e1 e2 e3 e4 e5 e6
    subst e1 e5 e6
    simp only [f_if_putBytes_3, f_md_types_2, b_if_putBytes_3, b_md_types_2]
    rw [e3, e4, e2, show (260 : Int32) = nI 260 from rfl]
    simp (disch := omega) only [nI_dle, dF, dT, cond_false, nI_zin, nI_cl, zg, cond_true, nI_1]
    exact ⟨_, _, rfl, rfl, fun hR => RT_put hR (d_byte x hz)⟩
  obtain ⟨b1, c1, p1, q1, r1⟩ := st t a1 a70 24 3 16 2 24 (by omega) (by omega) (by omega) rfl rfl rfl rfl rfl rfl
  obtain ⟨b2, c2, p2, q2, r2⟩ := st (t + 1) b1 c1 16 2 8 1 16 (by omega) (by omega) (by omega) rfl rfl rfl rfl rfl rfl
  obtain ⟨b3, c3, p3, q3, r3⟩ := st (t + 2) b2 c2 8 1 0 0 8 (by omega) (by omega) (by omega) rfl rfl rfl rfl rfl rfl
  obtain ⟨b4, c4, p4, q4, r4⟩ := st (t + 3) b3 c3 0 0 (-8) (-1) 0 (by omega) (by omega) (by omega) rfl rfl rfl rfl rfl rfl
  refine ⟨b4, c4, ?_, ?_, r4 (r3 (r2 (r1 h)))⟩
  · show zlp (f_if_putBytes_3 x) (24, a1, nI t) = _
    rw [zlp_in p1, zlp_in p2, zlp_in p3, zlp_in p4]
    exact zlp_out rfl
  · show zlp (f_md_types_2 x) (3, a70, nI t) = _
    rw [zlp_in q1, zlp_in q2, zlp_in q3, zlp_in q4]
    exact zlp_out rfl
theorem d_feed {a1 a70 : Nat → Int32} (h : RT a1 a70) {t : Nat} (ht : t ≤ 260) (x y z u v : Int32) : ∃ r b c t', q_if_feed x y z u v a1 (nI t) = some (r, b, nI t') ∧ q_md_feed x y z u v a70 (nI t) = some (r, c, nI t') ∧ RT b c ∧ t' ≤ 260 := by
  unfold q_if_feed q_md_feed
  rw [show (20 : Int32) = nI 20 from rfl, show (260 : Int32) = nI 260 from rfl, nI_add, nI_dle (by omega) (by omega)]
  by_cases hq : t + 20 ≤ 260
  · obtain ⟨b1, c1, p1, q1, r1⟩ := d_put x h (t := t) (by omega)
    obtain ⟨b2, c2, p2, q2, r2⟩ := d_put y r1 (t := t + 4) (by omega)
    obtain ⟨b3, c3, p3, q3, r3⟩ := d_put z r2 (t := t + 4 + 4) (by omega)
    obtain ⟨b4, c4, p4, q4, r4⟩ := d_put u r3 (t := t + 4 + 4 + 4) (by omega)
    obtain ⟨b5, c5, p5, q5, r5⟩ := d_put v r4 (t := t + 4 + 4 + 4 + 4) (by omega)
    refine ⟨nI (t + 4 + 4 + 4 + 4 + 4), b5, c5, t + 4 + 4 + 4 + 4 + 4, ?_, ?_, r5, by omega⟩
    · simp only [dT hq, cond_true, p1, p2, p3, p4, p5, zbd]
    · simp only [dT hq, cond_true, q1, q2, q3, q4, q5, zbd]
  · refine ⟨-1, a1, a70, t, ?_, ?_, h, ht⟩
    · simp only [dF hq, cond_false]
    · simp only [dF hq, cond_false]
theorem d_canTake (x : Int32) {a b : Nat} (hb : b < 2147483648) (ha : a ≤ b) {t : Nat} (ht : t ≤ 260) : (w_if_canTake x (nI a) (nI b) (nI t) = 0 ∧ (w_md_in x (nI a) (nI b) = 0 ∨ (w_md_in x (nI a) (nI b) = 1 ∧ decide (x ≤ nI t) = false))) ∨ (w_if_canTake x (nI a) (nI b) (nI t) = 1 ∧ w_md_in x (nI a) (nI b) = 1 ∧ ∃ n, x = nI n ∧ a ≤ n ∧ n ≤ b ∧ n ≤ t) := by
  unfold w_if_canTake
  rcases d_within x hb ha with ⟨e1, e2⟩ | ⟨e1, e2, n, rfl, h1, h2⟩
  · left
    rw [e1]
    exact ⟨rfl, Or.inl e2⟩
  · rw [e1, e2]
    by_cases hq : n ≤ t
    · right
      refine ⟨?_, rfl, n, rfl, h1, h2, hq⟩
      simp (disch := omega) only [nI_dlt, dF, cond_false]
      rfl
    · left
      refine ⟨?_, Or.inr ⟨rfl, ?_⟩⟩
      · simp (disch := omega) only [nI_dlt, dT, cond_true]
        rfl
      · rw [nI_dle (by omega) (by omega)]; exact dF hq
theorem d_check {a1 a70 at_ va su : Nat → Int32} {tl gn : Int32} {N : Nat → Int32} (h : RT a1 a70) (hr : RH at_ va su tl gn N) (hv : VH at_ va su tl gn) (x : Int32) {t : Nat} (ht : t ≤ 260) : ∃ v f', q_if_check x a1 va (nI t) gn = some (v, f') ∧ q_md_check x N a70 (nI t) = some (v, f') ∧ (f' = nI t ∨ f' = 0) := by
  unfold q_if_check q_md_check
  rcases d_canTake x (a := 0) (b := 24) (by omega) (by omega) ht with ⟨e1, e2⟩ | ⟨e1, e2, n, rfl, -, hn, hnt⟩
  · refine ⟨-2, nI t, ?_, ?_, Or.inl rfl⟩
    · rw [show w_if_canTake x 0 24 (nI t) = 0 from e1]; rfl
    · rcases e2 with e2 | ⟨e2, e3⟩
      · rw [show w_md_in x 0 24 = 0 from e2]; rfl
      · rw [show w_md_in x 0 24 = 1 from e2, e3]; rfl
  · rw [show w_if_canTake (nI n) 0 24 (nI t) = 1 from e1, show w_md_in (nI n) 0 24 = 1 from e2, nI_dle (by omega) (by omega), dT hnt]
    obtain ⟨r, r', h1, h2, h3⟩ := zlp_rel (f := f_if_check_21 (nI n) a1 va gn 0) (g := f_md_check_28 (nI n) N a70 0) (fun m s t => s = t ∧ ∃ k, k + m = n ∧ s = nI k) (fun r r' => r = r' ∧ r.2 = 0) (by
      rintro m s t ⟨rfl, k, hk, rfl⟩
      simp only [f_if_check_21, f_md_check_28, b_if_check_21, b_md_check_28]
      by_cases hkn : k = n
      · right
        simp (disch := omega) only [nI_dle, dT, cond_true]
        exact ⟨_, _, rfl, rfl, rfl, rfl⟩
      · obtain ⟨-, g2, -, -, g5⟩ := hr.1 k (by omega)
        obtain ⟨-, ⟨v, hv1, hv2⟩, -, hv3, hv4⟩ := hv k (by omega)
        have o := oct h (k := k) (by omega)
        have e4 : (288 : Int32) + nI k = nI (288 + k) := nI_add 288 k
        have e5 : (240 : Int32) + nI k = nI (240 + k) := nI_add 240 k
        have et := d_isThing hr (i := k) (by omega)
        have e6 : g_sc_lowValueOf (nI k) gn va = true ∧ w_sc_lowValueOf (nI k) gn va = bif bt gn k then 0 else nI (v % 256) := by
          unfold g_sc_lowValueOf w_sc_lowValueOf
          rw [d_isGone gn (by omega), b01_0, nI_zin (by omega), nI_cl (by omega), hv2, pk_andN (n := v) (by omega) 8 (by decide)]
          cases bt gn k
          · exact ⟨dT (by omega), rfl⟩
          · exact ⟨rfl, rfl⟩
        have e7 : nI v - nI v / 256 * 256 = nI (v % 256) := pk_rem (a := v) (d := 256) (by omega) (by omega) (by omega)
        have g2' : N (240 + k) = nI v := by rw [← g2]; exact hv2
        simp (disch := omega) only [nI_dle, dF, cond_false, nI_zin, nI_cl, dT, zg, zl, cond_true, o, e4, e5, e6, et, g5, g2', e7, nI_1, b01_0]
        cases hg : bt gn k with
        | true =>
          rw [hv4 hg]
          simp only [Bool.not_true, Bool.not_false, cond_false, cond_true]
          cases decide (a1 k = 0) with
          | true => left; exact ⟨m - 1, _, _, by omega, rfl, rfl, rfl, k + 1, by omega, rfl⟩
          | false => right; exact ⟨_, _, rfl, rfl, rfl, rfl⟩
        | false =>
          cases htl : bt tl k with
          | false =>
            have hv0 : nI v = nI 0 := by rw [← hv2]; exact hv3 htl
            have hv0 : v = 0 := (nI_eq (by omega) (by omega)).mp hv0
            subst hv0
            simp only [Bool.not_true, Bool.not_false, cond_false, cond_true]
            rw [show nI (0 % 256) = 0 from rfl]
            cases decide (a1 k = 0) with
            | true => left; exact ⟨m - 1, _, _, by omega, rfl, rfl, rfl, k + 1, by omega, rfl⟩
            | false => right; exact ⟨_, _, rfl, rfl, rfl, rfl⟩
          | true =>
            simp only [Bool.not_true, Bool.not_false, cond_false, cond_true]
            cases decide (a1 k = nI (v % 256)) with
            | true => left; exact ⟨m - 1, _, _, by omega, rfl, rfl, rfl, k + 1, by omega, rfl⟩
            | false => right; exact ⟨_, _, rfl, rfl, rfl, rfl⟩) n (0 : Int32) (0 : Int32) ⟨rfl, 0, by omega, rfl⟩
    obtain ⟨v, f'⟩ := r
    obtain ⟨rfl, h4⟩ := h3
    refine ⟨v, f', h1, h2, Or.inr h4⟩
