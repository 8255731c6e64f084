/-! ===== D: breaks ===== -/
section dbreaks
variable {fr to : Nat} {kd K : Nat → Int32}
theorem nbI_eq {p w q : Nat} (hp : p < 96) (hq : q < 96) : decide (nbI p w = nI q) = decide (nb p w = q) := by
  rcases nbI_cases (w := w) hp with ⟨e, e2⟩ | ⟨e, hv⟩
  · rw [e, e2, dF (fun z => nI_nem1 (by omega) z.symm), dF (by omega)]
  · rw [e, nI_deq (by omega) (by omega)]
def kA (A : Nat → Int32) (fr : Nat) : Nat := cnt (fun w => decide (A (4 * fr + w) = 1)) 4
theorem d_aug {T A ah be : Nat → Int32} (hF : FR fr to kd T A ah be) {r : T_cu_findWay} {r' : T_md_findsWay} (h : okS fr to kd T A r r') (R0 : Nat → Int32) :
    (r.1 = 0 ∧ r'.1 = 0) ∨ (r.1 = 1 ∧ r'.1 = 1 ∧ kA A fr < 4 ∧ ∃ T' A' ah' be' R, q_cu_takeWay (nI fr) (nI to) T A r.2.1 = some (T', A') ∧ q_md_goesAlong (nI fr) (nI to) ah be r'.2.2.1 R0 = some (ah', be', R) ∧ FR fr to kd T' A' ah' be' ∧ kA A' fr = kA A fr + 1) := by
  obtain ⟨s, s', e1, e2, h3⟩ := h
  rcases h3 with h3 | ⟨h4, h5, hG, hst, ⟨ix, hI⟩, hc⟩
  · exact Or.inl h3
  · right
    obtain ⟨hfr, hto, hft, -⟩ := id hF
    obtain ⟨m, c, hP, hcf⟩ := d_way1 hG hI hto hst
    obtain ⟨c0, cm, hm, clt, cst, cinj⟩ := id hP
    have noF := PW_noF hF hP
    have hcb : ∀ i, i < m → s'.1 (enc (c i)) = nI (enc (c (i + 1))) := fun i hi => by
      obtain ⟨u, u1, u2, u3⟩ := hc (c i) (clt i (by omega)) (noF i (by omega)) (by rw [hcf i hi]; exact nI_nem1 (by have := clt (i + 1) (by omega); omega))
      have : u = c (i + 1) := (nI_eq (by omega) (by have := clt (i + 1) (by omega); omega)).mp (by rw [← u2, hcf i hi])
      rw [u3, this]
    obtain ⟨T', A', q1, q2⟩ := d_takeWay hP hfr hcf
    obtain ⟨ah1, be1, ah2, be2, R, q3, q4, q5⟩ := d_along hfr hto hm c0 cm clt cinj hcb ah be R0
    have hm0 : 0 < m := Nat.pos_of_ne_zero (fun z => by subst z; omega)
    -- the first step of the way
    obtain ⟨w0, hw0, hn0, e0, hA0⟩ : ∃ w, w < 4 ∧ nb fr w ≠ 200 ∧ c (m - 1) = nb fr w ∧ A (4 * fr + w) = 0 := by
      rcases PW_step hP (show m - 1 < m by omega) with ⟨p', hp', f1, f2, f3⟩ | ⟨p', w, hp', hw, hn, f1, f2, f3⟩ | ⟨p', hp', f1, f2, f3⟩ | ⟨p', w, hp', hw, hn, f1, f2, f4, f3⟩ <;> rw [Nat.sub_add_cancel hm0, cm] at f1
      · omega
      · have := nb_lt hp' hn; omega
      · have : p' = fr := by omega
        subst this
        exact absurd hF.2.2.2.2.2.2.1 f3
      · have : p' = fr := by omega
        subst this
        exact ⟨w, hw, hn, f2, f3⟩
    have hk1 : kA A fr < 4 := cnt_lt hw0 (by rw [hA0]; rfl)
    have hA1 : A' (4 * fr + w0) = 1 := (q2.1 fr w0 hfr hw0).1 ⟨m - 1, by omega, by rw [Nat.sub_add_cancel hm0]; exact cm, e0, hn0⟩
    have hAo : ∀ w, w < 4 → w ≠ w0 → A' (4 * fr + w) = A (4 * fr + w) := fun w hw hne => (q2.1 fr w hfr hw).2.2 (fun ⟨i, a1, a2, a3, a4⟩ => by
      have := cinj (i + 1) m (by omega) (by omega) (by rw [a2, cm])
      have : i = m - 1 := by omega
      subst this
      exact hne (nb_inj fr hfr w0 hw0 w hw hn0 (by rw [← e0, a3])).symm) (fun ⟨i, a1, a2, a3, a4⟩ => by
      have := cinj i m (by omega) (by omega) (by rw [a3, cm])
      omega)
    have hk2 : kA A' fr = kA A fr + 1 := cnt_upd (k := w0) hw0 (by rw [hA0]; rfl) (by rw [hA1]; rfl) (fun w hw hne => by rw [hAo w hw hne])
    refine ⟨h4, h5, hk1, T', A', ah2, be2, R, ?_, ?_, FR_aug hF hP q2 q4 q5, hk2⟩
    · rw [e1]; exact q1
    · rw [e2]; exact q3
theorem d_ways (hF0 : ∀ T A ah be : Nat → Int32, (∀ p, p < 96 → T p = 0 ∧ ah p = -1 ∧ be p = -1) → (∀ i, i < 384 → A i = 0) → FR fr to kd T A ah be) (hK : KA 96 kd K) {T A ah be : Nat → Int32} (h1 : ∀ p, p < 96 → T p = 0 ∧ ah p = -1 ∧ be p = -1) (h2 : ∀ i, i < 384 → A i = 0) (hfr : fr < 96) (b60 b61 b87 b90 b91 : Nat → Int32) (c c' : Int32) :
    ∃ v r r', l_cu_fewest_55 (nI fr) (nI to) kd 0 0 T A b60 b61 c = some (v, r) ∧ l_md_waysApart_34 (nI fr) (nI to) K 0 b87 ah be b90 b91 c' = some (v, r') := by
  obtain ⟨r, r', q1, q2, v, t, t', rfl, rfl⟩ := zlp_rel (f := f_cu_fewest_55 (nI fr) (nI to) kd) (g := f_md_waysApart_34 (nI fr) (nI to) K)
    (fun n s t => ∃ k T A ah be b60 b61 c b87 b90 b91 c', k + n = 4 ∧ s = (nI k, nI k, T, A, b60, b61, c) ∧ t = (nI k, b87, ah, be, b90, b91, c') ∧ FR fr to kd T A ah be ∧ kA A fr = k)
    (fun r r' => ∃ v t t', r = (v, t) ∧ r' = (v, t')) (by
    rintro n s t ⟨k, T, A, ah, be, b60, b61, c, b87, b90, b91, c', hk, rfl, rfl, hF, hkA⟩
    obtain ⟨r, r', g1, g2, g3⟩ := d_find hF hK b60 b61 b87 b90 c c'
    dsimp +instances only [f_cu_fewest_55, b_cu_fewest_55, f_md_waysApart_34, b_md_waysApart_34]
    rw [zbd_q g1, zbd_q g2]
    rcases d_aug hF g3 b91 with ⟨e1, e2⟩ | ⟨e1, e2, e3, T', A', ah', be', R, e4, e5, e6, e7⟩
    · right
      rw [e1, e2]
      by_cases hk4 : k = 4
      · subst hk4
        exact ⟨_, _, rfl, rfl, _, _, _, rfl, rfl⟩
      · have e4 : decide ((4 : Int32) ≤ nI k) = false := by rw [show (4 : Int32) = nI 4 from rfl, nI_dle (by omega) (by omega)]; exact dF (by omega)
        rw [e4]
        exact ⟨_, _, rfl, rfl, _, _, _, rfl, rfl⟩
    · left
      have e4' : decide ((4 : Int32) ≤ nI k) = false := by rw [show (4 : Int32) = nI 4 from rfl, nI_dle (by omega) (by omega)]; exact dF (by omega)
      rw [e1, e2, e4', zbd_q e4, zbd_q e5, nI_1]
      exact ⟨n - 1, _, _, by omega, rfl, rfl, k + 1, T', A', ah', be', _, _, _, _, _, _, _, by omega, rfl, rfl, e6, by omega⟩) 4 (0, 0, T, A, b60, b61, c) (0, b87, ah, be, b90, b91, c') ⟨0, T, A, ah, be, b60, b61, c, b87, b90, b91, c', rfl, rfl, rfl, hF0 T A ah be h1 h2, cnt_zero (fun w hw => by rw [h2 (4 * fr + w) (by omega)]; rfl)⟩
  exact ⟨v, t, t', q1, q2⟩
theorem d_fewest (hF0 : ∀ T A ah be : Nat → Int32, (∀ p, p < 96 → T p = 0 ∧ ah p = -1 ∧ be p = -1) → (∀ i, i < 384 → A i = 0) → FR fr to kd T A ah be) (hK : KA 96 kd K) (hfr : fr < 96) (a58 a59 a60 a61 a87 a88 a89 a90 a91 : Nat → Int32) (c c' : Int32) :
    ∃ v r r', q_cu_fewest (nI fr) (nI to) kd a58 a59 a60 a61 c = some (v, r) ∧ q_md_waysApart (nI fr) (nI to) K a87 a88 a89 a90 a91 c' = some (v, r') := by
  -- the class's second row, whatever stands at the ways' beginning
  have arcs : ∀ T ah be : Nat → Int32, (∀ p, p < 96 → T p = 0 ∧ ah p = -1 ∧ be p = -1) → ∃ v r r', l_cu_fewest_27 (nI fr) (nI to) kd T a60 a61 c 0 a59 = some (v, r) ∧ l_md_waysApart_34 (nI fr) (nI to) K 0 a87 ah be a90 a91 c' = some (v, r') := by
    intro T ah be hT
    obtain ⟨r, q1, v, t, t', rfl, q2⟩ := zlp_one (f := f_cu_fewest_27 (nI fr) (nI to) kd T a60 a61 c) (fun n s => ∃ k b, k + n = 384 ∧ s = (nI k, b) ∧ ∀ j, j < k → b j = 0) (fun r => ∃ v t t', r = (v, t) ∧ l_md_waysApart_34 (nI fr) (nI to) K 0 a87 ah be a90 a91 c' = some (v, t')) (by
      rintro n s ⟨k, b, hk, rfl, hb⟩
      dsimp +instances only [f_cu_fewest_27, b_cu_fewest_27]
      by_cases hkn : k = 384
      · right
        subst hkn
        obtain ⟨v, t, t', g1, g2⟩ := d_ways hF0 hK hT hb hfr a60 a61 a87 a90 a91 c c'
        rw [show decide ((384 : Int32) ≤ nI 384) = true from rfl, cTt, g1]
        exact ⟨_, rfl, v, t, t', rfl, g2⟩
      · left
        have e : decide ((384 : Int32) ≤ nI k) = false := by rw [show (384 : Int32) = nI 384 from rfl, nI_dle (by omega) (by omega)]; exact dF (by omega)
        rw [e, cFf, nI_zin (by omega), dT (show k < 384 by omega), nI_cl (by omega), nI_1, show (0 : Int32) &&& 1 = 0 from rfl]
        refine ⟨n - 1, _, by omega, rfl, k + 1, _, by omega, rfl, fun j hj => ?_⟩
        by_cases e : j = k
        · subst e; exact zup_same
        · rw [zup_ne e]; exact hb j (by omega)) 384 (0, a59) ⟨0, a59, by omega, rfl, fun j hj => by omega⟩
    exact ⟨v, t, t', q1, q2⟩
  obtain ⟨r, r', q1, q2, v, t, t', rfl, rfl⟩ := zlp_rel (f := f_cu_fewest_3 (nI fr) (nI to) kd a59 a60 a61 c) (g := f_md_waysApart_5 (nI fr) (nI to) K 0 a87 a90 a91 c')
    (fun n s t => ∃ k b b1 b2, k + n = 96 ∧ s = (nI k, b) ∧ t = (nI k, b1, b2) ∧ ∀ j, j < k → b j = 0 ∧ b1 j = -1 ∧ b2 j = -1)
    (fun r r' => ∃ v t t', r = (v, t) ∧ r' = (v, t')) (by
    rintro n s t ⟨k, b, b1, b2, hk, rfl, rfl, hb⟩
    dsimp +instances only [f_cu_fewest_3, b_cu_fewest_3, f_md_waysApart_5, b_md_waysApart_5]
    by_cases hkn : k = 96
    · right
      subst hkn
      obtain ⟨v, t, t', g1, g2⟩ := arcs b b1 b2 hb
      rw [show decide ((96 : Int32) ≤ nI 96) = true from rfl, cTt, cTt, g1, g2]
      exact ⟨_, _, rfl, rfl, v, t, t', rfl, rfl⟩
    · left
      have e : decide ((96 : Int32) ≤ nI k) = false := by rw [show (96 : Int32) = nI 96 from rfl, nI_dle (by omega) (by omega)]; exact dF (by omega)
      rw [e, cFf, cFf, nI_zin (by omega), dT (show k < 96 by omega), nI_cl (by omega), nI_1, show (0 : Int32) &&& 1 = 0 from rfl]
      refine ⟨n - 1, _, _, by omega, rfl, rfl, k + 1, _, _, _, by omega, rfl, rfl, fun j hj => ?_⟩
      by_cases e : j = k
      · subst e; exact ⟨zup_same, zup_same, zup_same⟩
      · rw [zup_ne e, zup_ne e, zup_ne e]; exact hb j (by omega)) 96 (0, a58) (0, a88, a89) ⟨0, a58, a88, a89, by omega, rfl, rfl, fun j hj => by omega⟩
  exact ⟨v, t, t', q1, q2⟩
theorem d_breaks (hK : KA 96 kd K) (x y : Int32) (a58 a59 a60 a61 a87 a88 a89 a90 a91 : Nat → Int32) (c c' : Int32) :
    ∃ v r r', q_if_breaks x y kd a58 a59 a60 a61 c = some (v, r) ∧ q_md_breaks x y K a87 a88 a89 a90 a91 c' = some (v, r') := by
  unfold q_if_breaks q_md_breaks
  rcases d_num x with ⟨e1, e2, e3, e4⟩ | ⟨e1, e2, e3, e4, fr, hfr, rfl⟩
  · rw [e1, e2, e3, e4]
    exact ⟨_, _, _, rfl, rfl⟩
  rw [e1, e2, e3, e4]
  rcases d_num y with ⟨h1, h2, h3, h4⟩ | ⟨h1, h2, h3, h4, to, hto, rfl⟩
  · rw [h1, h2, h3, h4]
    exact ⟨_, _, _, rfl, rfl⟩
  have hw1 := d_isWood (c := K) hfr
  have hw2 := d_isWood (c := K) hto
  rw [← hK fr hfr] at hw1
  rw [← hK to hto] at hw2
  rw [h1, h2, h3, h4, hw1.1, hw1.2, hw2.1, hw2.2, nI_zin (by omega), dT hfr, nI_cl (by omega), nI_zin (by omega), dT hto, nI_cl (by omega), nI_deq (by omega) (by omega)]
  by_cases hft : fr = to
  · rw [dT hft]
    exact ⟨_, _, _, rfl, rfl⟩
  by_cases hk1 : kd fr = 1
  · by_cases hk2 : kd to = 1
    · rw [dF hft, dT hk1, dT hk2]
      dsimp +instances only [zl, zg]
      simp only [cTt, cFf, nTt, nFf, b01_0, show decide ((1 : Int32) = 0) = false from rfl]
      by_cases hnx : ∃ w, w < 4 ∧ nb fr w = to
      · -- they are next to each other
        obtain ⟨w, hw, hnw⟩ := hnx
        obtain ⟨r, r', q1, q2, rfl, r2, rfl⟩ := zlp_rel (f := f_if_areNext_2 (nI fr) (nI to)) (g := f_md_breaks_42 (nI fr) (nI to) K a87 a88 a89 a90 a91 c')
          (fun n s t => ∃ k, k ≤ w ∧ k + n = w ∧ s = nI k ∧ t = nI k) (fun r r' => r = 1 ∧ ∃ t, r' = (-2, t)) (by
          rintro n s t ⟨k, hk, hkn, rfl, rfl⟩
          have e4 : decide ((4 : Int32) ≤ nI k) = false := by rw [show (4 : Int32) = nI 4 from rfl, nI_dle (by omega) (by omega)]; exact dF (by omega)
          dsimp +instances only [f_if_areNext_2, b_if_areNext_2, f_md_breaks_42, b_md_breaks_42]
          rw [e4, cFf, cFf, (d_next fr hfr k (by omega)).1, (d_next fr hfr k (by omega)).2]
          dsimp +instances only [zl]
          rw [nbI_eq hfr hto, nI_1]
          by_cases e : nb fr k = to
          · rw [dT e]
            right
            exact ⟨_, _, rfl, rfl, rfl, _, rfl⟩
          · have : k ≠ w := fun z => e (by rw [z]; exact hnw)
            rw [dF e]
            left
            exact ⟨n - 1, _, _, by omega, rfl, rfl, k + 1, by omega, by omega, rfl, rfl⟩) w 0 0 ⟨0, by omega, by omega, rfl, rfl⟩
        rw [show q_if_areNext (nI fr) (nI to) = some 1 from q1, show l_md_breaks_42 (nI fr) (nI to) K a87 a88 a89 a90 a91 c' 0 = some (-2, r2) from q2]
        exact ⟨_, _, _, rfl, rfl⟩
      · have hnx' : ∀ w, w < 4 → nb fr w ≠ to := fun w hw e => hnx ⟨w, hw, e⟩
        obtain ⟨v, t, t', g1, g2⟩ := d_fewest (fr := fr) (to := to) (fun T A ah be z1 z2 => ⟨hfr, hto, hft, hnx', fun p w hp hw => Or.inl (z2 _ (by omega)), fun p hp => Or.inl (z1 p hp).1, (z1 fr hfr).1, (z1 fr hfr).2.1, hk1, fun p hp _ _ => Or.inl ⟨(z1 p hp).2.2, (z1 p hp).2.1, (z1 p hp).1, fun q w hq hw _ => z2 _ (by omega), fun w hw => z2 _ (by omega)⟩⟩) hK hfr a58 a59 a60 a61 a87 a88 a89 a90 a91 c c'
        obtain ⟨r, r', q1, q2, rfl, r2, rfl⟩ := zlp_rel (f := f_if_areNext_2 (nI fr) (nI to)) (g := f_md_breaks_42 (nI fr) (nI to) K a87 a88 a89 a90 a91 c')
          (fun n s t => ∃ k, k + n = 4 ∧ s = nI k ∧ t = nI k) (fun r r' => r = 0 ∧ ∃ t, r' = (v, t)) (by
          rintro n s t ⟨k, hkn, rfl, rfl⟩
          dsimp +instances only [f_if_areNext_2, b_if_areNext_2, f_md_breaks_42, b_md_breaks_42]
          by_cases hk4 : k = 4
          · right
            subst hk4
            rw [show decide ((4 : Int32) ≤ nI 4) = true from rfl, cTt, cTt, zbd_q g2]
            exact ⟨_, _, rfl, rfl, rfl, _, rfl⟩
          · left
            have e4 : decide ((4 : Int32) ≤ nI k) = false := by rw [show (4 : Int32) = nI 4 from rfl, nI_dle (by omega) (by omega)]; exact dF (by omega)
            rw [e4, cFf, cFf, (d_next fr hfr k (by omega)).1, (d_next fr hfr k (by omega)).2]
            dsimp +instances only [zl]
            rw [nbI_eq hfr hto, nI_1, dF (hnx' k (by omega))]
            exact ⟨n - 1, _, _, by omega, rfl, rfl, k + 1, by omega, rfl, rfl⟩) 4 0 0 ⟨0, by omega, rfl, rfl⟩
        rw [show q_if_areNext (nI fr) (nI to) = some 0 from q1, show l_md_breaks_42 (nI fr) (nI to) K a87 a88 a89 a90 a91 c' 0 = some (v, r2) from q2, g1]
        exact ⟨_, _, _, rfl, rfl⟩
    · rw [dF hft, dT hk1, dF hk2]
      exact ⟨_, _, _, rfl, rfl⟩
  · rw [dF hft, dF hk1]
    exact ⟨_, _, _, rfl, rfl⟩
end dbreaks
