/-! ===== D: getsOut ===== -/
section dwalk
variable {kd K : Nat → Int32}
theorem GI_put {m : Nat} {D Q D' Q' : Nat → Int32} (h : GI 0 m D Q D' Q') {v d : Nat} (hv : v < 96) (hD : D v = -1) (hd : d ≤ m) : m < 96 ∧ GI 0 (m + 1) (zup D v (nI d)) (zup Q m (nI v)) (zup D' v (nI d)) (zup Q' m (nI v)) := by
  have h1 := h.1
  rw [Nat.zero_add] at h1
  obtain ⟨ht, hF⟩ := FL_add h1 hv hD hd
  refine ⟨ht, ?_, KA_put h.2.1 _ _, fun i hi => ?_⟩
  · rw [Nat.zero_add]; exact hF
  · rw [Nat.zero_add]
    by_cases q : i = m
    · subst q; rw [zup_same, zup_same]
    · rw [zup_ne q, zup_ne q]
      have := h.2.2 i (by omega)
      rw [Nat.zero_add] at this
      exact this
theorem d_walkIn (hK : KA 96 kd K) {T T' : Nat → Int32} (hT : KA 96 T T') (hT2 : ∀ k, k < 96 → T k = -1 ∨ ∃ d, d ≤ 96 ∧ T k = nI d) {j p dp : Nat} (hp : p < 96) {D0 Q0 D0' Q0' : Nat → Int32} {m0 : Nat} (h0 : GI 0 m0 D0 Q0 D0' Q0') (hj : j < m0) (hD0 : D0 p = nI dp) (hdp : dp ≤ j) :
    ∃ m D Q D' Q', l_gr_walkOut_92 kd T (nI j) (nI p) (nI (dp + 1)) (nI m0) 0 D0 Q0 = some (.inl (nI m, nI (j + 1), D, Q)) ∧ l_md_getsOut_109 K (nI j) (nI p) T' (nI m0) 0 D0' Q0' = some (.inl (nI m, nI (j + 1), D', Q')) ∧ GI 0 m D Q D' Q' ∧ j < m := by
  obtain ⟨r, r', h1, h2, m, D, Q, D', Q', rfl, rfl, h3, h4⟩ := zlp_rel (f := f_gr_walkOut_92 kd T (nI j) (nI p) (nI (dp + 1))) (g := f_md_getsOut_109 K (nI j) (nI p) T')
      (fun n s t => ∃ w m D Q D' Q', w + n = 4 ∧ s = (nI m, nI w, D, Q) ∧ t = (nI m, nI w, D', Q') ∧ GI 0 m D Q D' Q' ∧ j < m ∧ D p = nI dp)
      (fun r r' => ∃ m D Q D' Q', r = .inl (nI m, nI (j + 1), D, Q) ∧ r' = .inl (nI m, nI (j + 1), D', Q') ∧ GI 0 m D Q D' Q' ∧ j < m) (by
    rintro n s t ⟨w, m, D, Q, D', Q', hw, rfl, rfl, hG, hjm, hD⟩
    have hle := FL_le hG.1
    dsimp +instances only [f_gr_walkOut_92, b_gr_walkOut_92, f_md_getsOut_109, b_md_getsOut_109]
    by_cases hw4 : w = 4
    · right
      subst hw4
      rw [show decide ((4 : Int32) ≤ nI 4) = true from rfl, cTt, cTt, nI_1]
      exact ⟨_, _, rfl, rfl, m, D, Q, D', Q', rfl, rfl, hG, hjm⟩
    · left
      have e4 : decide ((4 : Int32) ≤ nI w) = false := by rw [show (4 : Int32) = nI 4 from rfl, nI_dle (by omega) (by omega)]; exact dF (by omega)
      have hn := d_next p hp w (by omega)
      have stay : ∃ (m' : Nat) (s' t' : Int32 × Int32 × (Nat → Int32) × (Nat → Int32)), m' < n ∧ s' = (nI m, nI (w + 1), D, Q) ∧ t' = (nI m, nI (w + 1), D', Q') ∧ ∃ w m D Q D' Q', w + m' = 4 ∧ s' = (nI m, nI w, D, Q) ∧ t' = (nI m, nI w, D', Q') ∧ GI 0 m D Q D' Q' ∧ j < m ∧ D p = nI dp :=
        ⟨n - 1, _, _, by omega, rfl, rfl, w + 1, m, D, Q, D', Q', by omega, rfl, rfl, hG, hjm, hD⟩
      obtain ⟨sm, ss, st, sm1, se, te, sI⟩ := stay
      subst se te
      rw [e4, cFf, cFf, hn.1, hn.2, nI_1]
      rcases nbI_cases (w := w) hp with ⟨e, -⟩ | ⟨e, hv⟩
      · rw [e]
        exact ⟨sm, _, _, sm1, rfl, rfl, sI⟩
      · rw [e]
        generalize nb p w = v at hv
        dsimp +instances only [zl]
        rw [nI_neg (by omega), nI_nm1 (by omega), nI_zin (by omega), dT hv, nI_cl (by omega)]
        dsimp +instances only [zg]
        simp only [cTt, cFf]
        have ek := hK v hv
        rw [← ek, ← hG.2.1 v hv, ← hT v hv]
        rcases hG.1.1 v hv with hDv | ⟨d, hd, hDv⟩
        · have hmm : m < 96 := (GI_put hG hv hDv (d := 0) (by omega)).1
          rw [hDv, show (96 : Int32) = nI 96 from rfl, nI_dle (by omega) (by omega), dF (show ¬ 96 ≤ m by omega)]
          simp only [show decide ((0 : Int32) ≤ -1) = false from rfl, show decide ((-1 : Int32) = -1) = true from rfl, cTt, cFf]
          cases decide (kd v = 3) with
          | true =>
            exact ⟨sm, _, _, sm1, rfl, rfl, sI⟩
          | false =>
            simp only [cFf]
            have hpv : p ≠ v := fun q => by subst q; rw [hDv] at hD; exact absurd hD.symm (nI_ne1 (by omega))
            obtain ⟨-, hG2⟩ := GI_put hG hv hDv (d := dp + 1) (by omega)
            have hfree : g_gr_isFreeAt (nI v) (nI (dp + 1)) T = true ∧ w_gr_isFreeAt (nI v) (nI (dp + 1)) T = (bif decide (T v < 0) then 1 else bif decide (T v ≤ nI (dp + 1)) then 0 else 1) := by
              unfold g_gr_isFreeAt w_gr_isFreeAt
              rw [nI_zin (by omega), dT hv, nI_cl (by omega)]
              cases decide (T v < 0) <;> exact ⟨rfl, rfl⟩
            rw [hfree.1, hfree.2, nI_zin (by omega), dT hmm, nI_zin (by omega), dT hp, nI_cl (by omega), nI_cl (by omega), ← hG.2.1 p hp, hD, nI_1, nI_1]
            simp only [cTt]
            have go : ∃ w' m' D1 Q1 D1' Q1', w' + (n - 1) = 4 ∧ ((nI (m + 1), nI (w + 1), zup D v (nI (dp + 1)), zup Q m (nI v)) : Int32 × Int32 × (Nat → Int32) × (Nat → Int32)) = (nI m', nI w', D1, Q1) ∧ ((nI (m + 1), nI (w + 1), zup D' v (nI (dp + 1)), zup Q' m (nI v)) : Int32 × Int32 × (Nat → Int32) × (Nat → Int32)) = (nI m', nI w', D1', Q1') ∧ GI 0 m' D1 Q1 D1' Q1' ∧ j < m' ∧ D1 p = nI dp :=
              ⟨w + 1, m + 1, _, _, _, _, by omega, rfl, rfl, hG2, by omega, by rw [zup_ne hpv]; exact hD⟩
            rcases hT2 v hv with e1 | ⟨dt, hdt, e1⟩
            · rw [e1]
              exact ⟨n - 1, _, _, by omega, rfl, rfl, go⟩
            · rw [e1, nI_neg (by omega), nI_nm1 (by omega), nI_dle (by omega) (by omega), nI_dlt (by omega) (by omega)]
              by_cases hc : dt ≤ dp + 1
              · rw [dT hc, dF (show ¬ dp + 1 < dt by omega)]
                exact ⟨sm, _, _, sm1, rfl, rfl, sI⟩
              · rw [dF hc, dT (show dp + 1 < dt by omega)]
                exact ⟨n - 1, _, _, by omega, rfl, rfl, go⟩
        · rw [hDv, nI_nn (by omega), nI_nm1 (by omega)]
          cases decide (kd v = 3) <;> exact ⟨sm, _, _, sm1, rfl, rfl, sI⟩) 4 (nI m0, 0, D0, Q0) (nI m0, 0, D0', Q0') ⟨0, m0, D0, Q0, D0', Q0', by omega, rfl, rfl, h0, hj, hD0⟩
  exact ⟨m, D, Q, D', Q', h1, h2, h3, h4⟩
theorem d_edge (x : Int32) : w_gr_isEdge x = w_md_isAtEdge x := rfl
theorem d_walkL (hK : KA 96 kd K) {T T' : Nat → Int32} (hT : KA 96 T T') (hT2 : ∀ k, k < 96 → T k = -1 ∨ ∃ d, d ≤ 96 ∧ T k = nI d) (Q87 : Nat → Int32) {D0 Q0 D0' Q0' : Nat → Int32} {m0 : Nat} (h0 : GI 0 m0 D0 Q0 D0' Q0') :
    ∃ v r r', l_gr_walkOut_40 kd T (nI m0) 0 D0 Q0 = some (v, r) ∧ l_md_getsOut_77 K T' Q87 (nI m0) 0 D0' Q0' = some (v, r') := by
  obtain ⟨r, r', h1, h2, v, t, t', rfl, rfl⟩ := zlp_rel (f := f_gr_walkOut_40 kd T) (g := f_md_getsOut_77 K T' Q87)
      (fun n s t => ∃ j m D Q D' Q', j + n = 96 ∧ s = (nI m, nI j, D, Q) ∧ t = (nI m, nI j, D', Q') ∧ GI 0 m D Q D' Q' ∧ j ≤ m)
      (fun r r' => ∃ v t t', r = (v, t) ∧ r' = (v, t')) (by
    rintro n s t ⟨j, m, D, Q, D', Q', hj, rfl, rfl, hG, hjm⟩
    have hle := FL_le hG.1
    dsimp +instances only [f_gr_walkOut_40, b_gr_walkOut_40, f_md_getsOut_77, b_md_getsOut_77]
    by_cases hjm' : j = m
    · right
      rw [nI_dle (by omega) (by omega), dT (show m ≤ j by omega), cTt, cTt]
      exact ⟨_, _, rfl, rfl, _, _, _, rfl, rfl⟩
    · obtain ⟨p, hp, hQ, d, hd, hD⟩ := hG.1.2.2 (0 + j) (by omega)
      rw [Nat.zero_add] at hQ hd
      obtain ⟨m', D1, Q1, D1', Q1', q1, q2, q3, q4⟩ := d_walkIn hK hT hT2 hp hG (show j < m by omega) hD hd
      have hQ' : Q' j = nI p := by
        have := hG.2.2 j (by omega)
        rw [Nat.zero_add] at this
        exact this.symm.trans hQ
      rw [nI_dle (by omega) (by omega), dF (show ¬ m ≤ j by omega), cFf, cFf, show (96 : Int32) = nI 96 from rfl, nI_dle (by omega) (by omega), dF (show ¬ 96 ≤ j by omega), cFf, nI_zin (by omega), dT (show j < 96 by omega), nI_cl (by omega), hQ, hQ', nI_zin (by omega), dT hp, nI_cl (by omega), ← hG.2.1 p hp, hD, nI_1, q1, q2, d_edge]
      dsimp +instances only [zg, zl]
      simp only [cTt]
      cases decide (w_md_isAtEdge (nI p) = 0) with
      | true => left; exact ⟨n - 1, _, _, by omega, rfl, rfl, j + 1, m', D1, Q1, D1', Q1', by omega, rfl, rfl, q3, by omega⟩
      | false => right; exact ⟨_, _, rfl, rfl, _, _, _, rfl, rfl⟩) 96 (nI m0, 0, D0, Q0) (nI m0, 0, D0', Q0') ⟨0, m0, D0, Q0, D0', Q0', by omega, rfl, rfl, h0, by omega⟩
  exact ⟨v, t, t', h1, h2⟩
theorem d_getsOut (hK : KA 96 kd K) {st N : Nat → Int32} (hs : ∀ k, k < 96 → st k = N k) (x : Int32) (a53 a54 a55 a56 a86 a87 a92 a93 : Nat → Int32) (c1 c3 : Int32) : ∃ v r r', q_if_getsOut x kd st a53 a54 a55 a56 c1 c3 = some (v, r) ∧ q_md_getsOut x N K a86 a87 a92 a93 = some (v, r') := by
  unfold q_if_getsOut q_md_getsOut
  rcases d_num x with ⟨e1, e2, e3, e4⟩ | ⟨e1, e2, e3, e4, p, hp, rfl⟩
  · rw [e1, e2, e3, e4]
    exact ⟨_, _, _, rfl, rfl⟩
  have e0 : (0 : Int32) + nI p = nI p := Int32.zero_add _
  rw [e1, e2, e3, e4, e0, nI_zin (by omega), dT hp, nI_zin (by omega), dT (show p < 315 by omega), nI_cl (by omega), ← hK p hp, ← hs p hp]
  cases decide (kd p = 3) with
  | true => exact ⟨_, _, _, rfl, rfl⟩
  | false =>
    cases decide (st p = 1) with
    | true => exact ⟨_, _, _, rfl, rfl⟩
    | false =>
      obtain ⟨m, D, Q, D', Q', g1, g2, g3, g4⟩ := d_now hK hs a53 a54 a86 a87
      have hle := FL_le g3
      dsimp +instances only [zl, zg]
      simp only [cTt, cFf, nFf, show decide ((1 : Int32) = 0) = false from rfl]
      rw [g1, g2]
      dsimp +instances only [zbd]
      obtain ⟨r, r', h1, h2, v, t, t', rfl, rfl⟩ := zlp_rel (f := f_gr_walkOut_2 (nI p) kd D a56) (g := f_md_getsOut_40 (nI p) K D' Q' a93)
          (fun n s t => ∃ k W W', k + n = 96 ∧ s = (nI k, W) ∧ t = (nI k, W') ∧ (∀ j, j < k → W j = -1 ∧ W' j = -1))
          (fun r r' => ∃ v t t', r = (v, t) ∧ r' = (v, t')) (by
        rintro n s t ⟨k, W, W', hk, rfl, rfl, hW⟩
        dsimp +instances only [f_gr_walkOut_2, b_gr_walkOut_2, f_md_getsOut_40, b_md_getsOut_40]
        by_cases hkn : k = 96
        · right
          subst hkn
          have hG0 : GI 0 0 W a56 W' a93 := GI_none (fun j hj => (hW j hj).1) (fun j hj => (hW j hj).2)
          obtain ⟨-, hG⟩ := GI_put hG0 hp (hW p hp).1 (d := 0) (by omega)
          obtain ⟨v, t, t', q1, q2⟩ := d_walkL hK g4 (fun k hk => by
            rcases g3.1 k hk with e | ⟨d, hd, e⟩
            · exact Or.inl e
            · exact Or.inr ⟨d, by omega, e⟩) Q' hG
          rw [show decide ((96 : Int32) ≤ nI 96) = true from rfl, cTt, cTt, nI_zin (by omega), dT hp, nI_cl (by omega), show zin 0 96 = true from rfl]
          dsimp +instances only [zg]
          simp only [cTt]
          rw [show l_gr_walkOut_40 kd D 1 0 (zup W p 0) (zup a56 ((0 : Int32).toNatClampNeg) (nI p)) = some (v, t) from q1, show l_md_getsOut_77 K D' Q' 1 0 (zup W' p 0) (zup a93 ((0 : Int32).toNatClampNeg) (nI p)) = some (v, t') from q2]
          exact ⟨_, _, rfl, rfl, _, _, _, rfl, rfl⟩
        · left
          have e96 : decide ((96 : Int32) ≤ nI k) = false := by rw [show (96 : Int32) = nI 96 from rfl, nI_dle (by omega) (by omega)]; exact dF (by omega)
          rw [e96, cFf, cFf, nI_zin (by omega), dT (show k < 96 by omega), nI_cl (by omega), nI_1]
          refine ⟨n - 1, _, _, by omega, rfl, rfl, k + 1, _, _, by omega, rfl, rfl, fun j hj => ?_⟩
          by_cases e : j = k
          · subst e; rw [zup_same, zup_same]; exact ⟨rfl, rfl⟩
          · rw [zup_ne e, zup_ne e]; exact hW j (by omega)) 96 (0, a55) (0, a92) ⟨0, _, _, by omega, rfl, rfl, fun j hj => by omega⟩
      refine ⟨v, (D, Q, t.1, t.2, nI m, nI m), t', ?_, h2⟩
      rw [show q_gr_walkOut (nI p) kd D a55 a56 = some (v, t) from h1]
end dwalk
