/-! ===== D: steps, began, safe, getsOut, woods ===== -/
theorem nI_down (j : Nat) : nI (j + 1) + (-1) = nI j := by
  rw [← Int32.sub_eq_add_neg, show (1 : Int32) = nI 1 from rfl, pk_sub (by omega), Nat.add_sub_cancel]
section dflow
variable {kd K : Nat → Int32}
theorem d_steps (hK : KA 96 kd K) (x y : Int32) (a53 a54 a86 a87 : Nat → Int32) (c1 c3 : Int32) : ∃ v r r', q_if_steps x y kd a53 a54 c1 c3 = some (v, r) ∧ q_md_steps x y K a86 a87 = some (v, r') := by
  unfold q_if_steps q_md_steps
  rcases d_num x with ⟨e1, e2, e3, e4⟩ | ⟨e1, e2, e3, e4, p, hp, rfl⟩
  · rw [e1, e2, e3, e4]
    exact ⟨_, _, _, rfl, rfl⟩
  rw [e1, e2, e3, e4]
  rcases d_num y with ⟨h1, h2, h3, h4⟩ | ⟨h1, h2, h3, h4, q, hq, rfl⟩
  · rw [h1, h2, h3, h4]
    exact ⟨_, _, _, rfl, rfl⟩
  rw [h1, h2, h3, h4]
  have hw1 := d_isWood (c := K) hp
  have hw2 := d_isWood (c := K) hq
  rw [← hK p hp] at hw1
  rw [← hK q hq] at hw2
  rw [hw1.1, hw1.2, hw2.1, hw2.2, nI_zin (by omega), dT hp, nI_cl (by omega), nI_zin (by omega), dT hq, nI_cl (by omega)]
  by_cases hk : kd p = 1
  · by_cases hk2 : kd q = 1
    · rw [dT hk, dT hk2]
      obtain ⟨m, D, Q, D', Q', g1, g2, g3, g4, g5, g6, g7⟩ := d_from hK hp a53 a54 a86 a87
      dsimp +instances only [zl, zg]
      simp only [cTt, nTt, nFf, show decide ((1 : Int32) = 0) = false from rfl, b01_0, cFf]
      rw [g1, g2, g3]
      dsimp +instances only [zbd]
      simp only [cTt]
      rw [← g5 q hq]
      rcases g4.1 q hq with e | ⟨d, hd, e⟩
      · rw [e]
        exact ⟨_, _, _, rfl, rfl⟩
      · have := FL_le g4
        rw [e, nI_nn (by omega), nI_nm1 (by omega)]
        exact ⟨_, _, _, rfl, rfl⟩
    · rw [dT hk, dF hk2]
      exact ⟨_, _, _, rfl, rfl⟩
  · rw [dF hk]
    exact ⟨_, _, _, rfl, rfl⟩
theorem d_explains (hK : KA 96 kd K) {st N : Nat → Int32} (hs : ∀ k, k < 96 → st k = N k) {p n : Nat} (hp : p < 96) (hkp : kd p = 1) (hn : n ≤ 60) (a53 a54 a86 a87 : Nat → Int32) :
    ∃ (v : Bool) (r : _) (r' : _), q_gr_explains (nI p) (nI n) kd st a53 a54 = some (b01 v, r) ∧ q_md_couldBegin (nI p) (nI n) N K a86 a87 = some (b01 v, r') ∧ (st p = 0 → v = false) := by
  obtain ⟨m, D, Q, D', Q', g1, g2, g3, g4, g5, g6, g7⟩ := d_from hK hp a53 a54 a86 a87
  have hle := FL_le g4
  obtain ⟨r, r', h1, h2, v, rfl, rfl, h3⟩ := zlp_rel (f := f_gr_explains_20 (nI n) kd st D Q (nI m) (nI m)) (g := f_md_couldBegin_7 (nI n) N K D' Q')
     (fun q s t => ∃ k, k + q = 96 ∧ s = nI k ∧ t = nI k ∧ (p < k → st p ≠ 0))
     (fun r r' => ∃ v : Bool, r = (b01 v, D, Q, nI m, nI m) ∧ r' = (b01 v, D', Q') ∧ (st p = 0 → v = false)) (by
    rintro q s t ⟨k, hk, rfl, rfl, hkp2⟩
    by_cases hkn : k = 96
    · right
      subst hkn
      exact ⟨_, _, rfl, rfl, true, rfl, rfl, fun h0 => absurd h0 (hkp2 (by omega))⟩
    · have hk96 : k < 96 := by omega
      have e96 : decide ((96 : Int32) ≤ nI k) = false := by rw [show (96 : Int32) = nI 96 from rfl, nI_dle (by omega) (by omega)]; exact dF (by omega)
      have hww : g_sc_isWoodOnFire (nI k) kd st = true ∧ w_sc_isWoodOnFire (nI k) kd st = b01 (decide (kd k = 1) && !decide (st k = 0)) := by
        unfold g_sc_isWoodOnFire w_sc_isWoodOnFire
        rw [nI_zin (by omega), dT hk96, nI_cl (by omega)]
        cases decide (kd k = 1) <;> cases decide (st k = 0) <;> exact ⟨rfl, rfl⟩
      have hw1 := d_isWood (c := K) hk96
      rw [← hK k hk96] at hw1
      have e0 : (0 : Int32) + nI k = nI k := Int32.zero_add _
      dsimp +instances only [f_gr_explains_20, b_gr_explains_20, f_md_couldBegin_7, b_md_couldBegin_7]
      rw [e96, cFf, cFf, e0, nI_zin (by omega), dT hk96, nI_zin (by omega), dT (show k < 315 by omega), nI_cl (by omega), hww.1, hww.2, hw1.1, hw1.2, ← g5 k hk96, ← hs k hk96, nI_1]
      dsimp +instances only [zg, zl]
      simp only [cTt]
      by_cases hk1 : kd k = 1
      · rw [dT hk1]
        have hin : ∀ b : Bool, (b = true ↔ ∃ d, d ≤ n ∧ D k = nI d) → w_md_in (D k) 0 (nI n) = b01 b ∧ (b = false → decide (D k < 0) = true ∨ (decide (D k < 0) = false ∧ decide (nI n < D k) = true)) ∧ (b = true → decide (D k < 0) = false ∧ decide (nI n < D k) = false) := by
          intro b hb
          unfold w_md_in
          rcases g4.1 k hk96 with e | ⟨d, hd, e⟩
          · have : b = false := by
              cases b
              · rfl
              · obtain ⟨d, q1, q2⟩ := hb.mp rfl
                rw [e] at q2
                exact absurd q2.symm (nI_ne1 (by omega))
            subst this
            rw [e]
            exact ⟨rfl, fun _ => Or.inl rfl, fun q => by cases q⟩
          · rw [e, nI_neg (by omega), nI_dlt (by omega) (by omega)]
            by_cases hdn : d ≤ n
            · have : b = true := hb.mpr ⟨d, hdn, e⟩
              subst this
              rw [dF (show ¬ n < d by omega)]
              exact ⟨rfl, fun q => (by cases q), fun _ => ⟨rfl, rfl⟩⟩
            · have : b = false := by
                cases b
                · rfl
                · obtain ⟨d', q1, q2⟩ := hb.mp rfl
                  rw [e] at q2
                  have := (nI_eq (by omega) (by omega)).mp q2
                  omega
              subst this
              rw [dT (show n < d by omega)]
              exact ⟨rfl, fun _ => Or.inr ⟨rfl, rfl⟩, fun q => (by cases q)⟩
        by_cases hB : ∃ d, d ≤ n ∧ D k = nI d
        · obtain ⟨q1, -, q2⟩ := hin true ⟨fun _ => hB, fun _ => rfl⟩
          obtain ⟨q2, q3⟩ := q2 rfl
          rw [q1, q2, q3]
          by_cases hst : st k = 0
          · rw [dT hst]
            right
            exact ⟨_, _, rfl, rfl, false, rfl, rfl, fun _ => rfl⟩
          · rw [dF hst]
            left
            exact ⟨q - 1, _, _, by omega, rfl, rfl, k + 1, by omega, rfl, rfl, fun h => by
              by_cases e : p = k
              · rw [e]; exact hst
              · exact hkp2 (by omega)⟩
        · obtain ⟨q1, q2, -⟩ := hin false ⟨fun h => (by cases h), fun h => absurd h hB⟩
          have hpk : p ≠ k := fun e => hB ⟨0, by omega, by rw [← e]; exact g7⟩
          rw [q1]
          rcases q2 rfl with q2 | ⟨q2, q3⟩
          · rw [q2]
            by_cases hst : st k = 0
            · rw [dT hst]
              left
              exact ⟨q - 1, _, _, by omega, rfl, rfl, k + 1, by omega, rfl, rfl, fun h => hkp2 (by omega)⟩
            · rw [dF hst]
              right
              exact ⟨_, _, rfl, rfl, false, rfl, rfl, fun _ => rfl⟩
          · rw [q2, q3]
            by_cases hst : st k = 0
            · rw [dT hst]
              left
              exact ⟨q - 1, _, _, by omega, rfl, rfl, k + 1, by omega, rfl, rfl, fun h => hkp2 (by omega)⟩
            · rw [dF hst]
              right
              exact ⟨_, _, rfl, rfl, false, rfl, rfl, fun _ => rfl⟩
      · have hpk : p ≠ k := fun e => hk1 (by rw [← e]; exact hkp)
        rw [dF hk1, g6 k hk96 hk1 (fun q => hpk q.symm)]
        left
        exact ⟨q - 1, _, _, by omega, rfl, rfl, k + 1, by omega, rfl, rfl, fun h => hkp2 (by omega)⟩) 96 0 0 ⟨0, by omega, rfl, rfl, fun h => by omega⟩
  refine ⟨v, (D, Q, nI m, nI m), (D', Q'), ?_, ?_, h3⟩
  · unfold q_gr_explains
    dsimp +instances only [zl]
    rw [g1, g2]
    exact h1
  · unfold q_md_couldBegin
    rw [g3]
    exact h2
theorem d_began (hK : KA 96 kd K) {st N : Nat → Int32} (hs : ∀ k, k < 96 → st k = N k) (x y : Int32) (a53 a54 a86 a87 : Nat → Int32) (c1 c3 : Int32) : ∃ v r r', q_if_began x y kd st a53 a54 c1 c3 = some (v, r) ∧ q_md_began x y N K a86 a87 = some (v, r') := by
  unfold q_if_began q_md_began
  rcases d_within x (a := 0) (b := 60) (by omega) (by omega) with ⟨e1, e2⟩ | ⟨e1, e2, n, rfl, -, hn⟩
  · rw [show w_if_isWithin x 0 60 = 0 from e1, show w_md_in x 0 60 = 0 from e2]
    exact ⟨_, _, _, rfl, rfl⟩
  rw [show w_if_isWithin (nI n) 0 60 = 1 from e1, show w_md_in (nI n) 0 60 = 1 from e2]
  clear e1 e2
  rcases d_within y (a := 0) (b := 1) (by omega) (by omega) with ⟨e1, e2⟩ | ⟨e1, e2, -⟩
  · rw [show w_if_isWithin y 0 1 = 0 from e1, show w_md_in y 0 1 = 0 from e2]
    exact ⟨_, _, _, rfl, rfl⟩
  rw [show w_if_isWithin y 0 1 = 1 from e1, show w_md_in y 0 1 = 1 from e2]
  obtain ⟨r, r', h1, h2, v, t, t', rfl, rfl⟩ := zlp_rel (f := f_if_began_31 (nI n) y kd st) (g := f_md_began_31 (nI n) y N K)
     (fun q s t => ∃ l3 l4 b53 b54 c1 c3 b86 b87, q ≤ 96 ∧ s = (l3, l4, nI q + (-1), b53, b54, c1, c3) ∧ t = (l3, l4, nI q + (-1), b86, b87))
     (fun r r' => ∃ v t t', r = (v, t) ∧ r' = (v, t')) (by
    rintro q s t ⟨l3, l4, b53, b54, c1, c3, b86, b87, hq, rfl, rfl⟩
    dsimp +instances only [f_if_began_31, f_md_began_31, b_if_began_31, b_md_began_31]
    cases q with
    | zero =>
      right
      rw [show decide (nI 0 + (-1) < 0) = true from rfl, cTt, cTt]
      cases decide (y = 0) <;> exact ⟨_, _, rfl, rfl, _, _, _, rfl, rfl⟩
    | succ k =>
      left
      have hk96 : k < 96 := by omega
      have hww : g_sc_isWoodOnFire (nI k) kd st = true ∧ w_sc_isWoodOnFire (nI k) kd st = b01 (decide (kd k = 1) && !decide (st k = 0)) := by
        unfold g_sc_isWoodOnFire w_sc_isWoodOnFire
        rw [nI_zin (by omega), dT hk96, nI_cl (by omega)]
        cases decide (kd k = 1) <;> cases decide (st k = 0) <;> exact ⟨rfl, rfl⟩
      have hw1 := d_isWood (c := K) hk96
      rw [← hK k hk96] at hw1
      rw [nI_down, nI_neg (by omega), cFf, cFf, hww.1, hww.2, hw1.1, hw1.2]
      dsimp +instances only [zg, zl]
      simp only [cTt]
      by_cases hk1 : kd k = 1
      · obtain ⟨v, t, t', p1, p2, p3⟩ := d_explains hK hs hk96 hk1 hn b53 b54 b86 b87
        rw [dT hk1, p1, p2]
        by_cases hst : st k = 0
        · rw [dT hst, p3 hst]
          exact ⟨k, _, _, by omega, rfl, rfl, l3, l4, _, _, _, _, _, _, by omega, rfl, rfl⟩
        · rw [dF hst]
          cases v with
          | false => exact ⟨k, _, _, by omega, rfl, rfl, l3, l4, _, _, _, _, _, _, by omega, rfl, rfl⟩
          | true => exact ⟨k, _, _, by omega, rfl, rfl, l3 + 1, nI k, _, _, _, _, _, _, by omega, rfl, rfl⟩
      · rw [dF hk1]
        exact ⟨k, _, _, by omega, rfl, rfl, l3, l4, _, _, _, _, _, _, by omega, rfl, rfl⟩) 96 (0, -2, 95, a53, a54, c1, c3) (0, -2, 95, a86, a87) ⟨0, -2, a53, a54, c1, c3, a86, a87, by omega, rfl, rfl⟩
  exact ⟨v, t, t', h1, h2⟩
/-- a fire from all places that burn -/
theorem d_now (hK : KA 96 kd K) {st N : Nat → Int32} (hs : ∀ k, k < 96 → st k = N k) (a53 a54 a86 a87 : Nat → Int32) :
    ∃ m D Q D' Q', q_gr_burnFrom kd st a53 a54 = some (D, Q, nI m, nI m) ∧ q_md_laysFireNow N K a86 a87 = some (D', Q') ∧ FL m D Q ∧ KA 96 D D' := by
  unfold q_gr_burnFrom q_md_laysFireNow
  dsimp +instances only [zl]
  obtain ⟨r, r', h1, h2, m, D, Q, D', Q', rfl, rfl, h3, h4⟩ := zlp_rel (f := f_gr_burnFrom_6 kd st (f1_gr_clear a53)) (g := f_md_laysFireNow_8 N K)
     (fun q s t => ∃ k m D Q D' Q', k + q = 96 ∧ s = (nI k, D, Q, nI (0 + m)) ∧ t = (nI m, nI k, D', Q') ∧ GI 0 m D Q D' Q' ∧ (∀ j, k ≤ j → j < 96 → D j = -1))
     (fun r r' => ∃ m D Q D' Q', r = (D, Q, nI m, nI m) ∧ r' = (D', Q') ∧ FL m D Q ∧ KA 96 D D') (by
    rintro q s t ⟨k, m, D, Q, D', Q', hk, rfl, rfl, hG, hj⟩
    dsimp +instances only [f_gr_burnFrom_6, f_md_laysFireNow_8, b_gr_burnFrom_6, b_md_laysFireNow_8]
    by_cases hkn : k = 96
    · right
      subst hkn
      obtain ⟨m1, D1, Q1, D1', Q1', q1, q2, q3, -⟩ := d_goOver hK hG
      rw [show decide ((96 : Int32) ≤ nI 96) = true from rfl, cTt, cTt, show f1_gr_clear a53 = nI 0 from rfl, q1, q2]
      refine ⟨_, _, rfl, rfl, m1, D1, Q1, D1', Q1', ?_, rfl, ?_, q3.2.1⟩
      · rw [Nat.zero_add]
      · have := q3.1
        rw [Nat.zero_add] at this
        exact this
    · left
      have hk96 : k < 96 := by omega
      have e96 : decide ((96 : Int32) ≤ nI k) = false := by rw [show (96 : Int32) = nI 96 from rfl, nI_dle (by omega) (by omega)]; exact dF (by omega)
      have e0 : (0 : Int32) + nI k = nI k := Int32.zero_add _
      rw [e96, cFf, cFf, e0, nI_zin (by omega), dT hk96, nI_zin (by omega), dT (show k < 315 by omega), nI_cl (by omega), ← hs k hk96]
      by_cases hst : st k = 1
      · obtain ⟨g1, g2, g3, g4, g5, g6⟩ := GI_light hG hk96 (hj k (by omega) hk96)
        rw [dT hst, g3, g4, g5, g6, nI_zin (by omega), dT (show m < 192 by omega), nI_cl (by omega), nI_1, nI_1]
        exact ⟨q - 1, _, _, by omega, rfl, rfl, k + 1, m + 1, _, _, _, _, by omega, rfl, rfl, g1, fun j h1 h2 => by rw [zup_ne (by omega)]; exact hj j (by omega) h2⟩
      · rw [dF hst, nI_1]
        exact ⟨q - 1, _, _, by omega, rfl, rfl, k + 1, m, D, Q, D', Q', by omega, rfl, rfl, hG, fun j h1 h2 => hj j (by omega) h2⟩) 96 (0, a0_gr_clear a53, a54, f0_gr_clear a53) (0, 0, a0_md_clearsFire a86, a87) ⟨0, 0, _, _, _, _, by omega, rfl, rfl, GI_none (d_clear a53) (d_clearM a86), fun j _ hj => d_clear a53 j hj⟩
  exact ⟨m, D, Q, D', Q', h1, h2, h3, h4⟩
theorem d_safe (hK : KA 96 kd K) {st N : Nat → Int32} (hs : ∀ k, k < 96 → st k = N k) (x : Int32) (a53 a54 a86 a87 : Nat → Int32) (c1 c3 : Int32) : ∃ v r r', q_if_safe x kd st a53 a54 c1 c3 = some (v, r) ∧ q_md_safe x N K a86 a87 = some (v, r') := by
  unfold q_if_safe q_md_safe
  rcases d_within x (a := 0) (b := 1) (by omega) (by omega) with ⟨e1, e2⟩ | ⟨e1, e2, -⟩
  · rw [show w_if_isWithin x 0 1 = 0 from e1, show w_md_in x 0 1 = 0 from e2]
    exact ⟨_, _, _, rfl, rfl⟩
  rw [show w_if_isWithin x 0 1 = 1 from e1, show w_md_in x 0 1 = 1 from e2]
  obtain ⟨m, D, Q, D', Q', g1, g2, g3, g4⟩ := d_now hK hs a53 a54 a86 a87
  have hle := FL_le g3
  rw [g1, g2]
  obtain ⟨r, r', h1, h2, v, t, t', rfl, rfl⟩ := zlp_rel (f := f_if_safe_31 x kd D Q (nI m) (nI m)) (g := f_md_safe_24 x K D' Q')
     (fun q s t => ∃ l2 l3, q ≤ 96 ∧ s = (l2, l3, nI q + (-1)) ∧ t = (l2, l3, nI q + (-1)))
     (fun r r' => ∃ v t t', r = (v, t) ∧ r' = (v, t')) (by
    rintro q s t ⟨l2, l3, hq, rfl, rfl⟩
    dsimp +instances only [f_if_safe_31, f_md_safe_24, b_if_safe_31, b_md_safe_24]
    cases q with
    | zero =>
      right
      rw [show decide (nI 0 + (-1) < 0) = true from rfl, cTt, cTt]
      cases decide (x = 0) <;> exact ⟨_, _, rfl, rfl, _, _, _, rfl, rfl⟩
    | succ k =>
      left
      have hk96 : k < 96 := by omega
      have hw1 := d_isWood (c := K) hk96
      rw [← hK k hk96] at hw1
      rw [nI_down, nI_neg (by omega), cFf, cFf, hw1.1, hw1.2, nI_zin (by omega), dT hk96, nI_cl (by omega), ← g4 k hk96]
      by_cases hk1 : kd k = 1
      · rw [dT hk1]
        rcases g3.1 k hk96 with e | ⟨d, hd, e⟩
        · rw [e]
          exact ⟨k, _, _, by omega, rfl, rfl, l2 + 1, nI k, by omega, rfl, rfl⟩
        · rw [e, nI_nn (by omega), nI_nm1 (by omega)]
          exact ⟨k, _, _, by omega, rfl, rfl, l2, l3, by omega, rfl, rfl⟩
      · rw [dF hk1]
        exact ⟨k, _, _, by omega, rfl, rfl, l2, l3, by omega, rfl, rfl⟩) 96 (0, -2, 95) (0, -2, 95) ⟨0, -2, by omega, rfl, rfl⟩
  exact ⟨v, t, t', h1, h2⟩
theorem d_woodSeen {t : Nat} {D Q D' : Nat → Int32} (h : FL t D Q) (h' : KA 96 D D') : w_md_woodSeen D' = nI t := by
  have := zfo_inv (f := b_md_woodSeen D') (P := fun m s => m ≤ 96 → s = nI (cnt (fun k => !decide (D k = -1)) m)) 96 0 0 (fun _ => rfl) (fun m s _ hm ih hm2 => by
    rw [ih (by omega)]
    unfold b_md_woodSeen
    rw [nI_cl (by omega), ← h' m (by omega)]
    show _ = nI (cnt (fun k => !decide (D k = -1)) m + (bif !decide (D m = -1) then 1 else 0))
    cases decide (D m = -1)
    · show nI _ + 1 = _
      rw [nI_1]
      rfl
    · rfl)
  unfold w_md_woodSeen
  rw [this (by omega), h.2.1]
theorem d_maxI (a b : Int32) : (if a < b then b else a) = w_md_max a b := by
  unfold w_md_max
  rcases d_tri a b with ⟨h1, -, -, -, h2, -⟩ | ⟨h1, -, -, -, h2, -⟩ | ⟨rfl, h1, -, -, -, h2, -⟩
  · rw [if_pos (of_decide_eq_true h1), h2]; rfl
  · rw [if_neg (of_decide_eq_false h1), h2]; rfl
  · rw [if_neg (of_decide_eq_false h1), h2]; rfl
theorem d_woods (hK : KA 96 kd K) (x : Int32) (a53 a54 a86 a87 : Nat → Int32) (c1 c3 : Int32) : ∃ v r r', q_if_woods x kd a53 a54 c1 c3 = some (v, r) ∧ q_md_woods x K a86 a87 = some (v, r') := by
  unfold q_if_woods q_md_woods
  rcases d_within x (a := 0) (b := 1) (by omega) (by omega) with ⟨e1, e2⟩ | ⟨e1, e2, -⟩
  · rw [show w_if_isWithin x 0 1 = 0 from e1, show w_md_in x 0 1 = 0 from e2]
    exact ⟨_, _, _, rfl, rfl⟩
  rw [show w_if_isWithin x 0 1 = 1 from e1, show w_md_in x 0 1 = 1 from e2]
  obtain ⟨r, r', h1, h2, v, t, t', rfl, rfl⟩ := zlp_rel (f := f_if_woods_25 x kd) (g := f_md_woods_22 x K)
     (fun q s t => ∃ k m l2 l3 D Q D' Q', k + q = 96 ∧ s = (l2, l3, nI k, D, Q, nI m, nI m) ∧ t = (l2, l3, nI k, D', Q') ∧ FL m D Q ∧ KA 96 D D')
     (fun r r' => ∃ v t t', r = (v, t) ∧ r' = (v, t')) (by
    rintro q s t ⟨k, m, l2, l3, D, Q, D', Q', hk, rfl, rfl, hF, hD⟩
    dsimp +instances only [f_if_woods_25, f_md_woods_22, b_if_woods_25, b_md_woods_22]
    have hle := FL_le hF
    by_cases hkn : k = 96
    · right
      subst hkn
      rw [show decide ((96 : Int32) ≤ nI 96) = true from rfl, cTt, cTt]
      cases decide (x = 0) <;> exact ⟨_, _, rfl, rfl, _, _, _, rfl, rfl⟩
    · left
      have hk96 : k < 96 := by omega
      have e96 : decide ((96 : Int32) ≤ nI k) = false := by rw [show (96 : Int32) = nI 96 from rfl, nI_dle (by omega) (by omega)]; exact dF (by omega)
      have hw1 := d_isWood (c := K) hk96
      rw [← hK k hk96] at hw1
      rw [e96, cFf, cFf, hw1.1, hw1.2, nI_zin (by omega), dT hk96, nI_cl (by omega), ← hD k hk96, nI_1]
      by_cases hk1 : kd k = 1
      · rw [dT hk1]
        rcases hF.1 k hk96 with e | ⟨d, hd, e⟩
        · have hG : GI m 0 D Q D' Q' := ⟨hF, hD, fun i hi => by omega⟩
          obtain ⟨g1, g2, g3, g4, g5, g6⟩ := GI_light hG hk96 e
          obtain ⟨m1, D1, Q1, D1', Q1', q1, q2, q3, -⟩ := d_goOver hK g1
          rw [Nat.add_zero] at g3 g4 g5 g6 q1
          rw [d_woodSeen hF hD, e]
          dsimp +instances only [zl, zg, zbd]
          simp only [cTt, cFf, nTt, b01_0, show decide ((0 : Int32) ≤ -1) = false from rfl, show decide ((-1 : Int32) = -1) = true from rfl, show zin 0 192 = true from rfl]
          rw [g3, g4, g5, g6, q1, show q_md_laysFire 1 K (zup D' k 0) (zup Q' ((0 : Int32).toNatClampNeg) (nI k)) = some (D1', Q1') from q2]
          simp only [cTt]
          rw [d_woodSeen q3.1 q3.2.1, d_maxI]
          exact ⟨q - 1, _, _, by omega, rfl, rfl, k + 1, m + m1, _, _, D1, Q1, D1', Q1', by omega, rfl, rfl, q3.1, q3.2.1⟩
        · rw [e, nI_nn (by omega), nI_nm1 (by omega)]
          exact ⟨q - 1, _, _, by omega, rfl, rfl, k + 1, m, l2, l3, D, Q, D', Q', by omega, rfl, rfl, hF, hD⟩
      · rw [dF hk1]
        exact ⟨q - 1, _, _, by omega, rfl, rfl, k + 1, m, l2, l3, D, Q, D', Q', by omega, rfl, rfl, hF, hD⟩) 96 (0, 0, 0, a0_gr_clear a53, a54, f0_gr_clear a53, f1_gr_clear a53) (0, 0, 0, a0_md_clearsFire a86, a87) ⟨0, 0, 0, 0, _, _, _, _, by omega, rfl, rfl, FL_none (d_clear a53), fun k hk => (d_clear a53 k hk).trans (d_clearM a86 k hk).symm⟩
  exact ⟨v, t, t', h1, h2⟩
end dflow
