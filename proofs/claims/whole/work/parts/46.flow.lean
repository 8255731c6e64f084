/-! ===== D: the fire's way over wood ===== -/
def cnt (p : Nat → Bool) : Nat → Nat
  | 0 => 0
  | n + 1 => cnt p n + (bif p n then 1 else 0)
theorem cnt_le (p : Nat → Bool) : ∀ n, cnt p n ≤ n
  | 0 => Nat.le_refl 0
  | n + 1 => by
    have := cnt_le p n
    unfold cnt
    cases p n <;> simp only [cond_true, cond_false] <;> omega
theorem cnt_congr {p q : Nat → Bool} : ∀ {n : Nat}, (∀ i, i < n → q i = p i) → cnt q n = cnt p n
  | 0, _ => rfl
  | n + 1, h => by
    unfold cnt
    rw [cnt_congr (n := n) (fun i hi => h i (by omega)), h n (by omega)]
theorem cnt_lt {p : Nat → Bool} {k : Nat} : ∀ {n : Nat}, k < n → p k = false → cnt p n < n
  | 0, h, _ => absurd h (by omega)
  | n + 1, h, e => by
    unfold cnt
    by_cases hk : k = n
    · subst hk
      have := cnt_le p k
      rw [e, cond_false]; omega
    · have := cnt_lt (n := n) (by omega) e
      cases p n <;> simp only [cond_true, cond_false] <;> omega
theorem cnt_upd {p q : Nat → Bool} {k : Nat} : ∀ {n : Nat}, k < n → p k = false → q k = true → (∀ i, i < n → i ≠ k → q i = p i) → cnt q n = cnt p n + 1
  | 0, h, _, _, _ => absurd h (by omega)
  | n + 1, h, e1, e2, e3 => by
    unfold cnt
    by_cases hk : k = n
    · subst hk
      rw [e1, e2, cnt_congr (p := p) (q := q) (fun i hi => e3 i (by omega) (by omega)), cond_true, cond_false]
    · rw [cnt_upd (n := n) (by omega) e1 e2 (fun i hi hn => e3 i (by omega) hn), e3 n (by omega) (fun q => hk q.symm)]
      omega
/-- what is reached, and in which order -/
def FL (t : Nat) (D Q : Nat → Int32) : Prop :=
  (∀ k, k < 96 → D k = -1 ∨ ∃ d, d ≤ t ∧ D k = nI d) ∧ t = cnt (fun k => !decide (D k = -1)) 96 ∧ (∀ i, i < t → ∃ p, p < 96 ∧ Q i = nI p ∧ ∃ d, d ≤ i ∧ D p = nI d)
theorem FL_le {t : Nat} {D Q : Nat → Int32} (h : FL t D Q) : t ≤ 96 := by
  rw [h.2.1]; exact cnt_le _ _
theorem nI_ne1 {d : Nat} (hd : d ≤ 100) : nI d ≠ -1 := fun e => by
  have h := nI_nm1 (a := d) (by omega)
  rw [e] at h
  exact absurd h (by decide)
theorem FL_add {t : Nat} {D Q : Nat → Int32} (h : FL t D Q) {v d : Nat} (hv : v < 96) (hD : D v = -1) (hd : d ≤ t) : t < 96 ∧ FL (t + 1) (zup D v (nI d)) (zup Q t (nI v)) := by
  have h1 : t < 96 := by
    rw [h.2.1]
    exact cnt_lt hv (by rw [hD]; rfl)
  refine ⟨h1, fun k hk => ?_, ?_, fun i hi => ?_⟩
  · by_cases e : k = v
    · subst e; exact Or.inr ⟨d, by omega, zup_same⟩
    · rw [zup_ne e]
      rcases h.1 k hk with q | ⟨d', q1, q2⟩
      · exact Or.inl q
      · exact Or.inr ⟨d', by omega, q2⟩
  · have := cnt_upd (p := fun k => !decide (D k = -1)) (q := fun k => !decide (zup D v (nI d) k = -1)) hv (by simp only [hD]; rfl) (by simp only [zup_same, dF (nI_ne1 (d := d) (by omega))]; rfl) (fun i _ hn => by simp only [zup_ne hn])
    rw [this, ← h.2.1]
  · by_cases e : i = t
    · subst e
      exact ⟨v, hv, zup_same, d, hd, zup_same⟩
    · obtain ⟨p, q1, q2, d', q3, q4⟩ := h.2.2 i (by omega)
      refine ⟨p, q1, by rw [zup_ne e]; exact q2, d', q3, ?_⟩
      by_cases ep : p = v
      · subst ep; rw [hD] at q4; exact absurd q4.symm (nI_ne1 (by omega))
      · rw [zup_ne ep]; exact q4
theorem d_reachN {v t : Nat} (hv : v < 96) (ht : t < 96) {D : Nat → Int32} (Q : Nat → Int32) (hD : D v = -1) (y : Int32) : g_gr_reach (nI v) y D (nI t) Q = true ∧ a0_gr_reach (nI v) y D (nI t) Q = zup D v y ∧ a1_gr_reach (nI v) y D (nI t) Q = zup Q t (nI v) ∧ f0_gr_reach (nI v) y D (nI t) Q = nI (t + 1) := by
  unfold g_gr_reach a0_gr_reach a1_gr_reach f0_gr_reach
  rw [show (96 : Int32) = nI 96 from rfl, nI_dle (by omega) (by omega), dF (show ¬ 96 ≤ t by omega), nI_cl (by omega), nI_cl (by omega), nI_zin (by omega), dT hv, nI_zin (by omega), dT ht, hD, nI_1]
  exact ⟨rfl, rfl, rfl, rfl⟩
theorem d_reachO {v d : Nat} (hv : v < 96) (hd : d ≤ 100) {D : Nat → Int32} (Q : Nat → Int32) (hD : D v = nI d) (y t : Int32) : g_gr_reach (nI v) y D t Q = true ∧ a0_gr_reach (nI v) y D t Q = D ∧ a1_gr_reach (nI v) y D t Q = Q ∧ f0_gr_reach (nI v) y D t Q = t := by
  unfold g_gr_reach a0_gr_reach a1_gr_reach f0_gr_reach
  rw [nI_cl (by omega), nI_zin (by omega), dT hv, hD, nI_nn (by omega)]
  exact ⟨rfl, rfl, rfl, rfl⟩
/-- both fires in step -/
def GI (base m : Nat) (D Q D' Q' : Nat → Int32) : Prop := FL (base + m) D Q ∧ KA 96 D D' ∧ (∀ i, i < m → Q (base + i) = Q' i)
theorem d_goIn {kd K : Nat → Int32} (hK : KA 96 kd K) {base j p dp : Nat} (hp : p < 96) {D0 Q0 D0' Q0' : Nat → Int32} {m0 : Nat} (h0 : GI base m0 D0 Q0 D0' Q0') (hj : j < m0) (hQ0 : Q0 (base + j) = nI p) (hD0 : D0 p = nI dp) (hdp : dp ≤ base + j) :
    ∃ m D Q D' Q', l_gr_goOver_29 kd (nI (base + j)) (nI p) 0 D0 Q0 (nI (base + m0)) = some (.inl (nI (base + (j + 1)), D, Q, nI (base + m))) ∧ l_md_laysFire_12 K (nI j) (nI m0) 0 D0' Q0' = some (.inl (nI m, nI (j + 1), D', Q')) ∧ GI base m D Q D' Q' ∧ j < m ∧ (∀ k, k < 96 → kd k ≠ 1 ∨ D0 k ≠ -1 → D k = D0 k) := by
  obtain ⟨r, r', h1, h2, m, D, Q, D', Q', rfl, rfl, h3, h4, h5⟩ := zlp_rel (f := f_gr_goOver_29 kd (nI (base + j)) (nI p)) (g := f_md_laysFire_12 K (nI j))
      (fun n s t => ∃ w m D Q D' Q', w + n = 4 ∧ s = (nI w, D, Q, nI (base + m)) ∧ t = (nI m, nI w, D', Q') ∧ GI base m D Q D' Q' ∧ j < m ∧ Q (base + j) = nI p ∧ D p = nI dp ∧ (∀ k, k < 96 → kd k ≠ 1 ∨ D0 k ≠ -1 → D k = D0 k))
      (fun r r' => ∃ m D Q D' Q', r = .inl (nI (base + (j + 1)), D, Q, nI (base + m)) ∧ r' = .inl (nI m, nI (j + 1), D', Q') ∧ GI base m D Q D' Q' ∧ j < m ∧ (∀ k, k < 96 → kd k ≠ 1 ∨ D0 k ≠ -1 → D k = D0 k)) (by
    rintro n s t ⟨w, m, D, Q, D', Q', hw, rfl, rfl, hG, hjm, hQ, hD, hU⟩
    have hle := FL_le hG.1
    by_cases hw4 : w = 4
    · right
      subst hw4
      refine ⟨_, _, ?_, ?_, m, D, Q, D', Q', rfl, rfl, hG, hjm, hU⟩
      · dsimp +instances only [f_gr_goOver_29, b_gr_goOver_29]
        rw [show decide ((4 : Int32) ≤ nI 4) = true from rfl, cTt, nI_1, Nat.add_assoc]
      · dsimp +instances only [f_md_laysFire_12, b_md_laysFire_12]
        rw [show decide ((4 : Int32) ≤ nI 4) = true from rfl, cTt, nI_1]
    · left
      have e4 : decide ((4 : Int32) ≤ nI w) = false := by rw [show (4 : Int32) = nI 4 from rfl, nI_dle (by omega) (by omega)]; exact dF (by omega)
      have hn := d_next p hp w (by omega)
      have hQ' : Q' j = nI p := (hG.2.2 j hjm).symm.trans hQ
      rcases nbI_cases (w := w) hp with ⟨e, -⟩ | ⟨e, hv⟩
      · refine ⟨n - 1, (nI (w + 1), D, Q, nI (base + m)), (nI m, nI (w + 1), D', Q'), by omega, ?_, ?_, w + 1, m, D, Q, D', Q', by omega, rfl, rfl, hG, hjm, hQ, hD, hU⟩
        · dsimp +instances only [f_gr_goOver_29, b_gr_goOver_29]
          rw [e4, cFf, hn.1, e, nI_1]
          rfl
        · dsimp +instances only [f_md_laysFire_12, b_md_laysFire_12]
          rw [e4, cFf, nI_zin (by omega), dT (show j < 192 by omega), nI_cl (by omega), hQ', hn.2, e, nI_1]
          rfl
      · rw [e] at hn
        generalize nb p w = v at hn hv e
        have hw1 := d_isWood (c := K) hv
        rw [← hK v hv] at hw1
        by_cases hk : kd v = 1
        · rw [dT hk] at hw1
          rcases hG.1.1 v hv with hDv | ⟨d, hd, hDv⟩
          · obtain ⟨ht, hF⟩ := FL_add hG.1 hv hDv (d := dp + 1) (by omega)
            obtain ⟨g1, g2, g3, g4⟩ := d_reachN hv ht Q hDv (nI (dp + 1))
            have hpv : p ≠ v := fun q => by subst q; rw [hDv] at hD; exact absurd hD.symm (nI_ne1 (by omega))
            refine ⟨n - 1, (nI (w + 1), zup D v (nI (dp + 1)), zup Q (base + m) (nI v), nI (base + (m + 1))), (nI (m + 1), nI (w + 1), zup D' v (nI (dp + 1)), zup Q' m (nI v)), by omega, ?_, ?_, w + 1, m + 1, _, _, _, _, by omega, rfl, rfl, ⟨hF, KA_put hG.2.1 _ _, fun i hi => ?_⟩, by omega, ?_, ?_, ?_⟩
            · dsimp +instances only [f_gr_goOver_29, b_gr_goOver_29]
              rw [e4, cFf, hn.1]
              simp only [zl]
              rw [nI_neg (by omega), cFf, nI_zin (by omega), dT hv, nI_cl (by omega), dT hk, nI_zin (by omega), dT hp, nI_cl (by omega), hD, nI_1, nI_1]
              simp only [zg, nTt, cFf, cTt, g1, g2, g3, g4, Nat.add_assoc]
            · dsimp +instances only [f_md_laysFire_12, b_md_laysFire_12]
              rw [e4, cFf, nI_zin (by omega), dT (show j < 192 by omega), nI_cl (by omega), hQ', hn.2]
              simp only [zl, zg, cTt]
              rw [hw1.1, hw1.2, nI_zin (by omega), dT hv, nI_cl (by omega), ← hG.2.1 v hv, hDv, nI_zin (by omega), dT hp, nI_cl (by omega), ← hG.2.1 p hp, hD, nI_zin (by omega), dT (show m < 192 by omega), nI_cl (by omega), nI_1, nI_1, nI_1]
              rfl
            · by_cases q : i = m
              · subst q; rw [zup_same, zup_same]
              · rw [zup_ne q, zup_ne (by omega)]; exact hG.2.2 i (by omega)
            · rw [zup_ne (by omega)]; exact hQ
            · rw [zup_ne hpv]; exact hD
            · intro k hk1 hk2
              have hkv : k ≠ v := fun q => by
                subst q
                rcases hk2 with hk2 | hk2
                · exact hk2 hk
                · exact hk2 (by rw [← hU k hk1 (Or.inr hk2)]; exact hDv)
              rw [zup_ne hkv]; exact hU k hk1 hk2
          · have hd' : d ≤ 100 := by omega
            obtain ⟨g1, g2, g3, g4⟩ := d_reachO hv hd' Q hDv (nI (dp + 1)) (nI (base + m))
            refine ⟨n - 1, (nI (w + 1), D, Q, nI (base + m)), (nI m, nI (w + 1), D', Q'), by omega, ?_, ?_, w + 1, m, D, Q, D', Q', by omega, rfl, rfl, hG, hjm, hQ, hD, hU⟩
            · dsimp +instances only [f_gr_goOver_29, b_gr_goOver_29]
              rw [e4, cFf, hn.1]
              simp only [zl]
              rw [nI_neg (by omega), cFf, nI_zin (by omega), dT hv, nI_cl (by omega), dT hk, nI_zin (by omega), dT hp, nI_cl (by omega), hD, nI_1, nI_1]
              simp only [zg, nTt, cFf, cTt, g1, g2, g3, g4]
            · dsimp +instances only [f_md_laysFire_12, b_md_laysFire_12]
              rw [e4, cFf, nI_zin (by omega), dT (show j < 192 by omega), nI_cl (by omega), hQ', hn.2]
              simp only [zl, zg, cTt]
              rw [hw1.1, hw1.2, nI_zin (by omega), dT hv, nI_cl (by omega), ← hG.2.1 v hv, hDv, nI_nm1 (by omega), nI_1]
              rfl
        · rw [dF hk] at hw1
          refine ⟨n - 1, (nI (w + 1), D, Q, nI (base + m)), (nI m, nI (w + 1), D', Q'), by omega, ?_, ?_, w + 1, m, D, Q, D', Q', by omega, rfl, rfl, hG, hjm, hQ, hD, hU⟩
          · dsimp +instances only [f_gr_goOver_29, b_gr_goOver_29]
            rw [e4, cFf, hn.1]
            simp only [zl]
            rw [nI_neg (by omega), cFf, nI_zin (by omega), dT hv, nI_cl (by omega), dF hk, nI_1]
            rfl
          · dsimp +instances only [f_md_laysFire_12, b_md_laysFire_12]
            rw [e4, cFf, nI_zin (by omega), dT (show j < 192 by omega), nI_cl (by omega), hQ', hn.2]
            simp only [zl, zg, cTt]
            rw [hw1.1, hw1.2, nI_1]
            rfl) 4 (0, D0, Q0, nI (base + m0)) (nI m0, 0, D0', Q0') ⟨0, m0, D0, Q0, D0', Q0', by omega, rfl, rfl, h0, hj, hQ0, hD0, fun _ _ _ => rfl⟩
  exact ⟨m, D, Q, D', Q', h1, h2, h3, h4, h5⟩
theorem d_goOver {kd K : Nat → Int32} (hK : KA 96 kd K) {base m0 : Nat} {D0 Q0 D0' Q0' : Nat → Int32} (h0 : GI base m0 D0 Q0 D0' Q0') :
    ∃ m D Q D' Q', q_gr_goOver kd D0 Q0 (nI (base + m0)) (nI base) = some (D, Q, nI (base + m), nI (base + m)) ∧ q_md_laysFire (nI m0) K D0' Q0' = some (D', Q') ∧ GI base m D Q D' Q' ∧ (∀ k, k < 96 → kd k ≠ 1 ∨ D0 k ≠ -1 → D k = D0 k) := by
  obtain ⟨r, r', h1, h2, m, D, Q, D', Q', rfl, rfl, h3, h4⟩ := zlp_rel (f := f_gr_goOver_5 kd) (g := f_md_laysFire_4 K)
      (fun n s t => ∃ j m D Q D' Q', (base + j) + n = 96 ∧ s = (nI (base + j), D, Q, nI (base + m)) ∧ t = (nI m, nI j, D', Q') ∧ GI base m D Q D' Q' ∧ j ≤ m ∧ (∀ k, k < 96 → kd k ≠ 1 ∨ D0 k ≠ -1 → D k = D0 k))
      (fun r r' => ∃ m D Q D' Q', r = (D, Q, nI (base + m), nI (base + m)) ∧ r' = (D', Q') ∧ GI base m D Q D' Q' ∧ (∀ k, k < 96 → kd k ≠ 1 ∨ D0 k ≠ -1 → D k = D0 k)) (by
    rintro n s t ⟨j, m, D, Q, D', Q', hj, rfl, rfl, hG, hjm, hU⟩
    have hle := FL_le hG.1
    by_cases hjm' : j = m
    · right
      refine ⟨_, _, ?_, ?_, m, D, Q, D', Q', rfl, rfl, hG, hU⟩
      · dsimp +instances only [f_gr_goOver_5, b_gr_goOver_5]
        rw [nI_dle (by omega) (by omega), dT (by omega), cTt]
      · dsimp +instances only [f_md_laysFire_4, b_md_laysFire_4]
        rw [nI_dle (by omega) (by omega), dT (by omega), cTt]
    · left
      obtain ⟨p, hp, hQ, d, hd, hD⟩ := hG.1.2.2 (base + j) (by omega)
      obtain ⟨m', D1, Q1, D1', Q1', q1, q2, q3, q4, q5⟩ := d_goIn hK hp hG (show j < m by omega) hQ hD hd
      have hQ' : Q' j = nI p := (hG.2.2 j (by omega)).symm.trans hQ
      refine ⟨n - 1, _, _, by omega, ?_, ?_, j + 1, m', D1, Q1, D1', Q1', by omega, rfl, rfl, q3, by omega, fun k hk1 hk2 => ?_⟩
      · dsimp +instances only [f_gr_goOver_5, b_gr_goOver_5]
        rw [nI_dle (by omega) (by omega), dF (by omega), cFf, show (96 : Int32) = nI 96 from rfl, nI_dle (by omega) (by omega), dF (by omega), cFf, nI_zin (by omega), dT (by omega), nI_cl (by omega), hQ, q1]
        rfl
      · dsimp +instances only [f_md_laysFire_4, b_md_laysFire_4]
        rw [nI_dle (by omega) (by omega), dF (by omega), cFf, q2]
      · have hu := hU k hk1 hk2
        rw [q5 k hk1 (by rw [hu]; exact hk2), hu]) (96 - base) (nI base, D0, Q0, nI (base + m0)) (nI m0, 0, D0', Q0') ⟨0, m0, D0, Q0, D0', Q0', by have := FL_le h0.1; omega, rfl, rfl, h0, by omega, fun _ _ _ => rfl⟩
  exact ⟨m, D, Q, D', Q', h1, h2, h3, h4⟩
theorem d_clear (D : Nat → Int32) : ∀ k, k < 96 → a0_gr_clear D k = -1 := by
  have h := zfo_inv (f := b_gr_clear D) (P := fun m s => m ≤ 96 → ∀ k, k < m → s k = -1) 96 0 D (fun _ k hk => by omega) (fun m s _ hm ih hm2 k hk => by
    unfold b_gr_clear
    rw [nI_cl (by omega)]
    by_cases e : k = m
    · subst e; rw [zup_same]
    · rw [zup_ne e]; exact ih (by omega) k (by omega))
  exact fun k hk => h (by omega) k (by omega)
theorem d_clearM (D : Nat → Int32) : ∀ k, k < 96 → a0_md_clearsFire D k = -1 := d_clear D
theorem cnt_zero {p : Nat → Bool} : ∀ {n : Nat}, (∀ k, k < n → p k = false) → cnt p n = 0
  | 0, _ => rfl
  | n + 1, h => by
    unfold cnt
    rw [cnt_zero (fun k hk => h k (by omega)), h n (by omega)]
    rfl
theorem FL_none {D Q : Nat → Int32} (h : ∀ k, k < 96 → D k = -1) : FL 0 D Q := by
  refine ⟨fun k hk => Or.inl (h k hk), ?_, fun i hi => by omega⟩
  exact (cnt_zero (fun k hk => by simp only [h k hk]; rfl)).symm
theorem GI_none {D Q D' Q' : Nat → Int32} (h : ∀ k, k < 96 → D k = -1) (h' : ∀ k, k < 96 → D' k = -1) : GI 0 0 D Q D' Q' := ⟨FL_none h, fun k hk => (h k hk).trans (h' k hk).symm, fun i hi => by omega⟩
/-- one place is lit -/
theorem GI_light {base m : Nat} {D Q D' Q' : Nat → Int32} (h : GI base m D Q D' Q') {v : Nat} (hv : v < 96) (hD : D v = -1) :
    GI base (m + 1) (zup D v 0) (zup Q (base + m) (nI v)) (zup D' v 0) (zup Q' m (nI v)) ∧ base + m < 96 ∧ g_gr_light (nI v) D (nI (base + m)) Q = true ∧ a0_gr_light (nI v) D (nI (base + m)) Q = zup D v 0 ∧ a1_gr_light (nI v) D (nI (base + m)) Q = zup Q (base + m) (nI v) ∧ f0_gr_light (nI v) D (nI (base + m)) Q = nI (base + (m + 1)) := by
  obtain ⟨ht, hF⟩ := FL_add h.1 hv hD (d := 0) (by omega)
  obtain ⟨g1, g2, g3, g4⟩ := d_reachN hv ht Q hD 0
  refine ⟨⟨hF, KA_put h.2.1 _ _, fun i hi => ?_⟩, ht, g1, g2, g3, g4⟩
  by_cases q : i = m
  · subst q; rw [zup_same, zup_same]
  · rw [zup_ne q, zup_ne (by omega)]; exact h.2.2 i (by omega)
/-- a fire from one place -/
theorem d_from {kd K : Nat → Int32} (hK : KA 96 kd K) {p : Nat} (hp : p < 96) (a53 a54 a86 a87 : Nat → Int32) :
    ∃ m D Q D' Q', g_gr_light (nI p) (a0_gr_clear a53) (f0_gr_clear a53) a54 = true ∧ q_gr_goOver kd (a0_gr_light (nI p) (a0_gr_clear a53) (f0_gr_clear a53) a54) (a1_gr_light (nI p) (a0_gr_clear a53) (f0_gr_clear a53) a54) (f0_gr_light (nI p) (a0_gr_clear a53) (f0_gr_clear a53) a54) (f1_gr_clear a53) = some (D, Q, nI m, nI m) ∧
      q_md_laysFireFrom (nI p) K a86 a87 = some (D', Q') ∧ FL m D Q ∧ KA 96 D D' ∧ (∀ k, k < 96 → kd k ≠ 1 → k ≠ p → D k = -1) ∧ D p = 0 := by
  obtain ⟨h1, -, h2, h3, h4, h5⟩ := GI_light (GI_none (Q := a54) (Q' := a87) (d_clear a53) (d_clearM a86)) hp (d_clear a53 p hp)
  obtain ⟨m, D, Q, D', Q', q1, q2, q3, q4⟩ := d_goOver hK h1
  rw [show nI (0 + 0) = f0_gr_clear a53 from rfl] at h2 h3 h4 h5
  refine ⟨m, D, Q, D', Q', h2, ?_, ?_, ?_, q3.2.1, fun k hk1 hk2 hk3 => ?_, ?_⟩
  · rw [h3, h4, h5]
    have e : nI (0 + m) = nI m := by rw [Nat.zero_add]
    rw [e] at q1
    exact q1
  · unfold q_md_laysFireFrom
    simp only [zl]
    rw [nI_zin (by omega), dT hp, nI_cl (by omega), show zin 0 192 = true from rfl]
    simp only [zg, cTt]
    rw [show q_md_laysFire 1 K (zup (a0_md_clearsFire a86) p 0) (zup a87 ((0 : Int32).toNatClampNeg) (nI p)) = some (D', Q') from q2]
    rfl
  · have := q3.1
    rw [Nat.zero_add] at this
    exact this
  · rw [q4 k hk1 (Or.inl hk2), zup_ne hk3]; exact d_clear a53 k hk1
  · rw [q4 p hp (Or.inr (by rw [zup_same]; decide)), zup_same]
theorem d_num (x : Int32) : (w_if_isNumber x = 0 ∧ w_md_isPlace x = 0 ∧ g_if_isNumber x = true ∧ g_md_isPlace x = true) ∨ (w_if_isNumber x = 1 ∧ w_md_isPlace x = 1 ∧ g_if_isNumber x = true ∧ g_md_isPlace x = true ∧ ∃ p, p < 96 ∧ x = nI p) := by
  unfold w_if_isNumber w_md_isPlace g_if_isNumber g_md_isPlace
  rcases d_within x (a := 0) (b := 95) (by omega) (by omega) with ⟨e1, e2⟩ | ⟨e1, e2, n, rfl, -, hn⟩
  · rw [show w_if_isWithin x 0 95 = 0 from e1, show w_md_in x 0 95 = 0 from e2]
    exact Or.inl ⟨rfl, rfl, rfl, rfl⟩
  · rw [show w_if_isWithin (nI n) 0 95 = 1 from e1, show w_md_in (nI n) 0 95 = 1 from e2]
    exact Or.inr ⟨rfl, rfl, rfl, rfl, n, by omega, rfl⟩
