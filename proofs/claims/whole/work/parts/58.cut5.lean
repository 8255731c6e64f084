/-! ===== D: breaks: a search ===== -/
section dcut5
variable {fr to : Nat} {kd T A ah be K : Nat → Int32}
def okS (fr to : Nat) (kd T A : Nat → Int32) (r : T_cu_findWay) (r' : T_md_findsWay) : Prop :=
  ∃ s s' : aS, r.2 = (s.1, s.2.1, nI s.2.2) ∧ r'.2 = (s'.2.1, s'.1, nI s'.2.2) ∧ ((r.1 = 0 ∧ r'.1 = 0) ∨ (r.1 = 1 ∧ r'.1 = 1 ∧ aG s ∧ s.1 to ≠ -1 ∧ (∃ ix, BI kd T A (96 + fr) s ix) ∧ (∀ v, v < 192 → v ≠ fr → s.1 v ≠ -1 → ∃ u, u < 192 ∧ s.1 v = nI u ∧ s'.1 (enc v) = nI (enc u))))
theorem d_cuOut {s : aS} (h : aG s) (hto : to < 96) (k : Int32) {u : Nat} (hu : u < 192) (hs : s.1 to = nI u) : f_cu_findWay_45 (nI to) kd T A (k, s.1, s.2.1, nI s.2.2) = some (.inr (1, s.1, s.2.1, nI s.2.2)) := by
  dsimp +instances only [f_cu_findWay_45, b_cu_findWay_45]
  rw [nI_zin (by omega), dT (show to < 192 by omega), nI_cl (by omega), hs, nI_neg (by omega), nI_nn (by omega)]
  cases decide (nI s.2.2 ≤ k) <;> cases decide (192 ≤ k) <;> rfl
theorem d_cuEnd {s : aS} (h : aG s) (hto : to < 96) {k : Nat} (hk : s.2.2 ≤ k) (hk2 : k ≤ 192) (hs : s.1 to = -1) : f_cu_findWay_45 (nI to) kd T A (nI k, s.1, s.2.1, nI s.2.2) = some (.inr (0, s.1, s.2.1, nI s.2.2)) := by
  have hle := aG_le h
  dsimp +instances only [f_cu_findWay_45, b_cu_findWay_45]
  rw [nI_zin (by omega), dT (show to < 192 by omega), nI_cl (by omega), hs, nI_dle (by omega) (by omega), dT hk]
  rfl
theorem d_mdEnd {s : aS} (h : aG s) {k : Nat} (hk : s.2.2 ≤ k) (hk2 : k ≤ 192) : f_md_findsWay_43 (nI fr) (nI to) K ah be (nI k, s.2.1, s.1, nI s.2.2) = some (.inr (0, s.2.1, s.1, nI s.2.2)) := by
  have hle := aG_le h
  dsimp +instances only [f_md_findsWay_43, b_md_findsWay_43]
  rw [nI_dle (by omega) (by omega), dT hk]
  rfl
theorem d_search (hF : FR fr to kd T A ah be) (hK : KA 96 kd K) {s s' : aS} (hG : aG s) (hG' : aG s') (hB : BQ fr 1000 s s') {ix : Nat → Nat} (hI : BI kd T A (96 + fr) s ix) (hs : s.1 (96 + fr) ≠ -1) :
    ∃ r' r, l_md_findsWay_43 (nI fr) (nI to) K ah be 0 s'.2.1 s'.1 (nI s'.2.2) = some r' ∧ l_cu_findWay_45 (nI to) kd T A 0 s.1 s.2.1 (nI s.2.2) = some r ∧ okS fr to kd T A r r' := by
  have hfr := hF.1
  have hto := hF.2.1
  refine zlp_rels (f := f_md_findsWay_43 (nI fr) (nI to) K ah be) (g := f_cu_findWay_45 (nI to) kd T A)
    (fun m t u => ∃ k k' d z z' ix, m + k = 193 ∧ t = (nI k', z'.2.1, z'.1, nI z'.2.2) ∧ u = (nI k, z.1, z.2.1, nI z.2.2) ∧ aG z ∧ aG z' ∧ BQ fr d z z' ∧ BI kd T A (96 + fr) z ix ∧ (k = sh d k' ∨ (k = d ∧ k' = d)) ∧ k ≤ z.2.2 ∧ (∀ i, i < k → z.2.1 i ≠ nI to) ∧ z.1 (96 + fr) ≠ -1)
    (fun r' r => okS fr to kd T A r r') ?_ 193 (0, s'.2.1, s'.1, nI s'.2.2) (0, s.1, s.2.1, nI s.2.2) ⟨0, 0, 1000, s, s', ix, rfl, rfl, rfl, hG, hG', hB, hI, Or.inl (by unfold sh; rw [if_pos (by omega)]), by omega, fun i hi => by omega, hs⟩
  rintro m t u ⟨k, k', d, z, z', ix, hm, rfl, rfl, hG, hG', hB, hI, hk, hkn, hnt, hs⟩
  have hle := aG_le hG
  have hle' := aG_le hG'
  by_cases hzt : z.1 to = -1
  · by_cases hkn2 : z.2.2 ≤ k
    · -- nothing more
      right; right
      have hk' : z'.2.2 ≤ k' ∧ k' ≤ 192 := by
        rcases hB.1 with ⟨q1, q2, q3⟩ | ⟨q1, q2, q3, q4⟩
        · rcases hk with hk | ⟨hk, -⟩
          · unfold sh at hk; split at hk <;> omega
          · omega
        · rcases hk with hk | ⟨hk, -⟩
          · unfold sh at hk; split at hk <;> omega
          · omega
      exact ⟨_, _, zlp_out (d_mdEnd hG' hk'.1 hk'.2), zlp_out (d_cuEnd hG hto hkn2 (by omega) hzt), z, z', rfl, rfl, Or.inl ⟨rfl, rfl⟩⟩
    · rcases hk with hk | ⟨hk, hk'⟩
      · left
        have hk' : k' < z'.2.2 := by
          rcases hB.1 with ⟨q1, q2, q3⟩ | ⟨q1, q2, q3, q4⟩ <;> unfold sh at hk <;> split at hk <;> omega
        obtain ⟨v, hv, hvf, e1, e2⟩ := hB.2.1 k' hk'
        rw [← hk] at e1
        have hvc : z.1 v ≠ -1 := by
          obtain ⟨v', p1, p2, p3⟩ := hG.2.2 k (by omega)
          have : v' = v := (nI_eq (by omega) (by omega)).mp (by rw [← p2, e1])
          rw [← this]; exact p3
        have hvt : v ≠ to := fun e => hvc (by rw [e]; exact hzt)
        have hvt2 : v ≠ 96 + to := fun e => hvc (by rw [e]; exact outTo hF hI hzt)
        have hl := cN_lt (kd := kd) (T := T) (A := A) hv
        obtain ⟨d', h1, h2⟩ := BQ_fold (fr := fr) hv (cN kd T A v) d z z' hl hB hG
        obtain ⟨ix', h3⟩ := BI_fold (s0 := 96 + fr) hv (cN kd T A v) z ix (fun x hx => ⟨hl x hx, hx⟩) hI hG hvc
        have hX := aF_X v (cN kd T A v) z
        refine ⟨m - 1, _, _, by omega, d_mdNode hF hK hv hvf hvt hvt2 hG' hk' e2, d_cuNode hto hv hG hzt (by omega) e1, k + 1, k' + 1, d', _, _, ix', by omega, rfl, rfl, aF_good hv hG hl, aF_good (enc_lt hv) hG' (mL_lt hl), h1, h3, ?_, Nat.le_trans (by omega) hX.1, fun i hi => ?_, by rw [hX.2.1 _ hs]; exact hs⟩
        · unfold sh at hk ⊢
          rcases h2 with rfl | ⟨r1, r2, r3⟩
          · split at hk <;> split <;> omega
          · split at hk <;> split <;> omega
        · rw [hX.2.2 i (by omega)]
          by_cases e : i = k
          · subst e
            rw [e1]
            exact fun q => hvt ((nI_eq (by omega) (by omega)).mp q)
          · exact hnt i (by omega)
      · right; left
        have hQ : z.2.1 k = nI fr := by
          rcases hB.1 with ⟨q1, q2, q3⟩ | ⟨q1, q2, q3, q4⟩
          · omega
          · rw [hk]; exact q3
        have hc : aF fr (cN kd T A fr) z = z := by
          rw [cN_in hfr, FR_inF hF]
          exact aV_old hs
        have st := d_cuNode (to := to) (kd := kd) (T := T) (A := A) hto (show fr < 192 by omega) hG hzt (show k < z.2.2 by omega) hQ
        rw [hc] at st
        refine ⟨m - 1, _, by omega, st, k + 1, k', d, z, z', ix, by omega, rfl, rfl, hG, hG', hB, hI, Or.inl ?_, by omega, fun i hi => ?_, hs⟩
        · unfold sh
          rw [if_neg (by omega)]
          omega
        · by_cases e : i = k
          · subst e
            rw [hQ]
            exact fun q => hF.2.2.1 ((nI_eq (by omega) (by omega)).mp q)
          · exact hnt i (by omega)
  · -- the aim is come to
    right; right
    obtain ⟨p1, p2, -⟩ := hI to (by omega) hzt
    have hkx : k ≤ ix to := Nat.le_of_not_lt (fun q => hnt _ q p2)
    obtain ⟨u, hu, eu⟩ : ∃ u, u < 192 ∧ z.1 to = nI u := by
      rcases hG.2.1 to (by omega) with q | q
      · exact absurd q hzt
      · exact q
    obtain ⟨j, hj1, hj2⟩ : ∃ j, sh d j = ix to ∧ j < z'.2.2 := by
      rcases hB.1 with ⟨q1, q2, q3⟩ | ⟨q1, q2, q3, q4⟩
      · exact ⟨ix to, by unfold sh; rw [if_pos (by omega)], by omega⟩
      · have hd : ix to ≠ d := fun e => by
          rw [e, q3] at p2
          exact hF.2.2.1 ((nI_eq (by omega) (by omega)).mp p2)
        by_cases q : ix to < d
        · exact ⟨ix to, by unfold sh; rw [if_pos q], by omega⟩
        · exact ⟨ix to - 1, by unfold sh; rw [if_neg (by omega)]; omega, by omega⟩
    obtain ⟨v, hv, hvf, e1, e2⟩ := hB.2.1 j hj2
    rw [hj1, p2] at e1
    have : to = v := (nI_eq (by omega) (by omega)).mp e1
    subst this
    rw [enc_in hto] at e2
    have hkj : k' ≤ j := by
      rcases hk with hk | ⟨hk, hk'⟩
      · unfold sh at hk hj1; split at hk <;> split at hj1 <;> omega
      · unfold sh at hj1; split at hj1 <;> omega
    obtain ⟨s2, g1, g2⟩ := d_mdRest hF hK (j - k') k' z' (by omega) hG' (fun i hi => by
      obtain ⟨v, q1, q2, -, q4⟩ := hB.2.1 i hi
      exact ⟨v, q1, q2, q4⟩) hj2 e2
    refine ⟨_, _, g1, zlp_out (d_cuOut hG hto (nI k) hu eu), z, s2, rfl, rfl, Or.inr ⟨rfl, rfl, hG, hzt, ⟨ix, hI⟩, fun v hv hvf hne => ?_⟩⟩
    rcases hB.2.2 v hv hvf with ⟨q, -⟩ | ⟨u, q1, q2, q3⟩
    · exact absurd q hne
    · exact ⟨u, q1, q2, by rw [g2.2.1 _ (by rw [q3]; exact nI_nem1 (by have := enc_lt q1; omega))]; exact q3⟩
theorem cnt_one {p : Nat → Bool} {k : Nat} : ∀ {n : Nat}, k < n → p k = true → (∀ i, i < n → i ≠ k → p i = false) → cnt p n = 1
  | 0, h, _, _ => absurd h (by omega)
  | n + 1, h, e1, e3 => by
    unfold cnt
    by_cases hk : k = n
    · subst hk
      rw [e1, cnt_zero (fun i hi => e3 i (by omega) (by omega))]
      rfl
    · rw [cnt_one (n := n) (by omega) e1 (fun i hi hn => e3 i (by omega) hn), e3 n (by omega) (fun q => hk q.symm)]
      rfl
/-- a search from cleared rows -/
theorem d_find (hF : FR fr to kd T A ah be) (hK : KA 96 kd K) (a60 a61 a87 a90 : Nat → Int32) (c c' : Int32) : ∃ r r', q_cu_findWay (nI fr) (nI to) kd T A a60 a61 c = some r ∧ q_md_findsWay (nI fr) (nI to) K a87 ah be a90 c' = some r' ∧ okS fr to kd T A r r' := by
  have hfr := hF.1
  have hto := hF.2.1
  refine zlp_rel (f := f_cu_findWay_3 (nI fr) (nI to) kd T A a61) (g := f_md_findsWay_2 (nI fr) (nI to) K ah be a87)
    (fun m t u => ∃ k b b', k + m = 192 ∧ t = (nI k, b) ∧ u = (nI k, b') ∧ (∀ j, j < k → b j = -1 ∧ b' j = -1)) (okS fr to kd T A) ?_ 192 (0, a60) (0, a90) ⟨0, a60, a90, by omega, rfl, rfl, fun j hj => by omega⟩
  rintro m t u ⟨k, b, b', hk, rfl, rfl, hb⟩
  dsimp +instances only [f_cu_findWay_3, b_cu_findWay_3, f_md_findsWay_2, b_md_findsWay_2]
  by_cases hkn : k = 192
  · right
    subst hkn
    have hG0 : ∀ (b q : Nat → Int32), (∀ j, j < 192 → b j = -1) → aG (b, q, 0) := fun b q h => ⟨(cnt_zero (fun k hk => by simp only [h k hk]; rfl)).symm, fun k hk => Or.inl (h k hk), fun i hi => absurd hi (Nat.not_lt_zero _)⟩
    have g1 := hG0 b a61 (fun j hj => (hb j hj).1)
    have g2 := hG0 b' a87 (fun j hj => (hb j hj).2)
    have v1 := d_cuVisit g1 (x := 96 + fr) (y := 96 + fr) (by omega)
    have v2 := d_mdVisit g2 (x := 2 * fr + 1) (y := 2 * fr + 1) (by omega)
    have n1 : (b, a61, 0).1 (96 + fr) = -1 := (hb _ (by omega)).1
    have n2 : (b', a87, 0).1 (2 * fr + 1) = -1 := (hb _ (by omega)).2
    have gG := aV_good g1 (x := 96 + fr) (y := 96 + fr) (by omega) (by omega)
    have gG' := aV_good g2 (x := 2 * fr + 1) (y := 2 * fr + 1) (by omega) (by omega)
    rw [aV_new n1] at gG v1
    rw [aV_new n2] at gG' v2
    have hB : BQ fr 1000 (zup b (96 + fr) (nI (96 + fr)), zup a61 0 (nI (96 + fr)), 0 + 1) (zup b' (2 * fr + 1) (nI (2 * fr + 1)), zup a87 0 (nI (2 * fr + 1)), 0 + 1) := by
      refine ⟨Or.inl ⟨rfl, rfl, ?_⟩, fun i hi => ?_, fun v hv hvf => ?_⟩
      · show zup b (96 + fr) (nI (96 + fr)) fr = -1
        rw [zup_ne (by omega)]; exact (hb _ (by omega)).1
      · have hi : i < 0 + 1 := hi
        have : i = 0 := by omega
        subst this
        exact ⟨96 + fr, by omega, by omega, show zup a61 0 (nI (96 + fr)) 0 = _ from zup_same, show zup a87 0 (nI (2 * fr + 1)) 0 = _ from by rw [enc_out]; exact zup_same⟩
      · show (zup b (96 + fr) (nI (96 + fr)) v = -1 ∧ zup b' (2 * fr + 1) (nI (2 * fr + 1)) (enc v) = -1) ∨ ∃ u, u < 192 ∧ zup b (96 + fr) (nI (96 + fr)) v = nI u ∧ zup b' (2 * fr + 1) (nI (2 * fr + 1)) (enc v) = nI (enc u)
        by_cases e : v = 96 + fr
        · subst e
          rw [enc_out, zup_same, zup_same]
          exact Or.inr ⟨96 + fr, by omega, rfl, by rw [enc_out]⟩
        · rw [zup_ne e, zup_ne (fun q => e (enc_inj (by rw [q, enc_out])))]
          exact Or.inl ⟨(hb v hv).1, (hb _ (enc_lt hv)).2⟩
    have hI : BI kd T A (96 + fr) (zup b (96 + fr) (nI (96 + fr)), zup a61 0 (nI (96 + fr)), 0 + 1) (fun _ => 0) := by
      intro v hv hne
      have hne : zup b (96 + fr) (nI (96 + fr)) v ≠ -1 := hne
      by_cases e : v = 96 + fr
      · subst e
        exact ⟨Nat.one_pos, show zup a61 0 (nI (96 + fr)) 0 = _ from zup_same, Or.inl rfl⟩
      · rw [zup_ne e] at hne
        exact absurd (hb v hv).1 hne
    obtain ⟨r', r, q1, q2, q3⟩ := d_search hF hK gG gG' hB hI (by show zup b (96 + fr) (nI (96 + fr)) (96 + fr) ≠ -1; rw [zup_same]; exact nI_nem1 (by omega))
    have e96 : (96 : Int32) + nI fr = nI (96 + fr) := nI_add 96 fr
    have e2 : (2 : Int32) * nI fr + 1 = nI (2 * fr + 1) := by rw [show (2 : Int32) = nI 2 from rfl, pk_mul, nI_1]
    refine ⟨r, r', ?_, ?_, q3⟩
    · rw [show decide ((192 : Int32) ≤ nI 192) = true from rfl, cTt, e96]
      dsimp +instances only [zl]
      rw [show g_cu_visit (nI (96 + fr)) (nI (96 + fr)) b 0 a61 = true from v1.1, show a0_cu_visit (nI (96 + fr)) (nI (96 + fr)) b 0 a61 = _ from v1.2.1, show a1_cu_visit (nI (96 + fr)) (nI (96 + fr)) b 0 a61 = _ from v1.2.2.1, show f0_cu_visit (nI (96 + fr)) (nI (96 + fr)) b 0 a61 = _ from v1.2.2.2]
      dsimp +instances only [zg]
      rw [cTt, zbd_q q2]
    · rw [show decide ((192 : Int32) ≤ nI 192) = true from rfl, cTt, e2]
      dsimp +instances only [zl]
      rw [show g_md_visits (nI (2 * fr + 1)) (nI (2 * fr + 1)) b' 0 a87 = true from v2.1, show a0_md_visits (nI (2 * fr + 1)) (nI (2 * fr + 1)) b' 0 a87 = _ from v2.2.1, show a1_md_visits (nI (2 * fr + 1)) (nI (2 * fr + 1)) b' 0 a87 = _ from v2.2.2.1, show f0_md_visits (nI (2 * fr + 1)) (nI (2 * fr + 1)) b' 0 a87 = _ from v2.2.2.2]
      dsimp +instances only [zg]
      rw [cTt, zbd_q q1]
  · left
    have e192 : decide ((192 : Int32) ≤ nI k) = false := by rw [show (192 : Int32) = nI 192 from rfl, nI_dle (by omega) (by omega)]; exact dF (by omega)
    rw [e192, cFf, cFf, nI_zin (by omega), dT (show k < 192 by omega), nI_cl (by omega), nI_1]
    refine ⟨m - 1, _, _, by omega, rfl, rfl, k + 1, _, _, by omega, rfl, rfl, fun j hj => ?_⟩
    by_cases e : j = k
    · subst e; rw [zup_same, zup_same]; exact ⟨rfl, rfl⟩
    · rw [zup_ne e, zup_ne e]; exact hb j (by omega)
end dcut5
