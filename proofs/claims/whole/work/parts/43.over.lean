/-! ===== D: over ===== -/
theorem nI_deq0 {w : Nat} (hw : w ≤ 96) : decide (nI w = 0) = decide (w = 0) := nI_deq (a := w) (b := 0) (by omega) (by omega)
theorem nI_dle0 {w : Nat} (hw : w ≤ 96) : decide (nI w ≤ 0) = decide (w = 0) := by
  rw [show decide (nI w ≤ 0) = decide (w ≤ 0) from nI_dle (a := w) (b := 0) (by omega) (by omega)]
  by_cases h : w = 0
  · rw [dT h, dT (by omega)]
  · rw [dF h, dF (by omega)]
theorem faring_nI (N : Nat → Int32) (x : Int32) : ∃ w, w ≤ 96 ∧ w_md_faring x N = nI w := by
  have h := zfo_inv (f := b_md_faring x N) (P := fun k s => ∃ w, w ≤ k ∧ s = nI w) 96 0 0 ⟨0, by omega, rfl⟩ (fun j s _ hj => by
    rintro ⟨w, hw, rfl⟩
    unfold b_md_faring
    cases decide (N ((0 + (nI j)).toNatClampNeg) = x) with
    | true => exact ⟨w + 1, by omega, nI_1 w⟩
    | false => exact ⟨w, by omega, rfl⟩)
  obtain ⟨w, hw, e⟩ := h
  exact ⟨w, by omega, e⟩
section dover
variable {ops args rl am co en : Nat → Int32} {ru lu : Int32} {codes cl cf ch ct : Nat → Int32} {cn : Int32}
theorem d_overL (hW : LW ops args rl am co en ru lu codes cl cf ch ct cn) {kd K : Nat → Int32} (hK : KA 96 kd K) {st0 lf0 at_ va su : Nat → Int32} {tl gn0 wd mn0 x0 : Int32} {N0 : Nat → Int32} (h : RS st0 lf0 at_ va su tl gn0 wd mn0 x0 N0) {n : Nat} (hn : n ≤ 100) (b0 L0 e0 c0 F0 d0 A : Nat → Int32) (lost0 : Int32) :
    ∃ r r', l_if_over_25 (nI n) ops args rl am co en lu ru kd at_ va su tl wd 0 st0 lf0 b0 L0 e0 gn0 mn0 x0 = some r ∧ l_md_over_25 (nI n) K codes cl cf ch ct cn A 0 N0 c0 F0 d0 lost0 = some r' ∧ r.1 = r'.1 ∧ ∃ N, r'.2.1 = a0_md_copies A N ∧ r'.2.2.1 = A := by
  refine zlp_relx (f := f_if_over_25 (nI n) ops args rl am co en lu ru kd at_ va su tl wd) (g := f_md_over_25 (nI n) K codes cl cf ch ct cn A)
      (fun m s t => ∃ k st lf b L e gn mn x N c F d lost, k + m = n ∧ s = (nI k, st, lf, b, L, e, gn, mn, x) ∧ t = (nI k, N, c, F, d, lost) ∧ RS st lf at_ va su tl gn wd mn x N)
      (fun r r' => r.1 = r'.1 ∧ ∃ N, r'.2.1 = a0_md_copies A N ∧ r'.2.2.1 = A) ?_ n (0, st0, lf0, b0, L0, e0, gn0, mn0, x0) (0, N0, c0, F0, d0, lost0) ⟨0, st0, lf0, b0, L0, e0, gn0, mn0, x0, N0, c0, F0, d0, lost0, by omega, rfl, rfl, h⟩
  rintro m s t ⟨k, st, lf, b, L, e, gn, mn, x, N, c, F, d, lost, hk, rfl, rfl, hR⟩
  have e313 : N 313 = mn := (hR.2.2.2.2.1).symm
  have eF : w_sc_placesThatAre 1 st = w_md_faring 1 N := d_faring (fun k hk => (hR.1 k hk).1) 1
  obtain ⟨w, hw, eW⟩ := faring_nI N 1
  have hnk : decide (nI n < nI k) = false := by rw [nI_dlt (by omega) (by omega)]; exact dF (by omega)
  -- behind the last minute
  have late : ∀ (j k : Nat), k + j = n + 1 → 0 < w → decide (9999 ≤ mn) = true → zlp (f_if_over_25 (nI n) ops args rl am co en lu ru kd at_ va su tl wd) (nI k, st, lf, b, L, e, gn, mn, x) = some (-2, kd, st, lf, at_, va, su, b, L, e, tl, gn, wd, mn, x) := by
    intro j
    induction j with
    | zero =>
      intro k hk _ _
      refine zlp_out ?_
      simp only [f_if_over_25, b_if_over_25]
      rw [nI_dlt (by omega) (by omega), dT (by omega), cTt]
    | succ j ih =>
      intro k hk hs h9
      have s1 : f_if_over_25 (nI n) ops args rl am co en lu ru kd at_ va su tl wd (nI k, st, lf, b, L, e, gn, mn, x) = some (.inl (nI (k + 1), st, lf, b, L, e, gn, mn, x)) := by
        simp only [f_if_over_25, b_if_over_25]
        rw [nI_dlt (by omega) (by omega), dF (by omega), cFf, eF, eW, zl, nI_deq0 (by omega), dF (show ¬ w = 0 by omega), nFf, d_one0 kd st lf at_ va su b L e tl gn wd mn x h9, nI_1]
        rfl
      rw [zlp_in s1]
      exact ih (k + 1) (by omega) hs h9
  by_cases hs : 0 < w
  · cases h9 : decide (9999 ≤ mn) with
    | true =>
      right
      refine ⟨_, (-2, a0_md_copies A N, A, c, F, d, lost), late (n + 1 - k) k (by omega) hs h9, zlp_out ?_, rfl, N, by with_reducible rfl, by with_reducible rfl⟩
      simp only [f_md_over_25, b_md_over_25, eW, nI_dle0 (show w ≤ 96 by omega), nI_deq0 (show w ≤ 96 by omega), dF (show ¬ w = 0 by omega), show (313 : Int32).toNatClampNeg = 313 from rfl, show zin 313 315 = true from rfl, e313, h9, zg, zl, cTt, nTt, cFf]
      cases decide (nI n ≤ nI k) <;> rfl
    | false =>
      obtain ⟨st', lf', b', L', e', gn', x', N', c', F', d', lost', q1, q2, q3, -⟩ := d_minute hW hK hR b L e c F d lost
      have s1 : f_if_over_25 (nI n) ops args rl am co en lu ru kd at_ va su tl wd (nI k, st, lf, b, L, e, gn, mn, x) = some (.inl (nI (k + 1), st', lf', b', L', e', gn', mn + 1, x')) := by
        simp only [f_if_over_25, b_if_over_25]
        rw [hnk, cFf, eF, eW, zl, nI_deq0 (by omega), dF (show ¬ w = 0 by omega), nFf, d_one1 h9 q1, nI_1]
        rfl
      by_cases hkn : k = n
      · right
        refine ⟨(-2, kd, st', lf', at_, va, su, b', L', e', tl, gn', wd, mn + 1, x'), (-2, a0_md_copies A N, A, c, F, d, lost), ?_, zlp_out ?_, rfl, N, by with_reducible rfl, by with_reducible rfl⟩
        · rw [zlp_in s1]
          refine zlp_out ?_
          simp only [f_if_over_25, b_if_over_25]
          rw [nI_dlt (by omega) (by omega), dT (by omega), cTt]
        · simp only [f_md_over_25, b_md_over_25, eW, nI_dle0 (show w ≤ 96 by omega), nI_deq0 (show w ≤ 96 by omega), dF (show ¬ w = 0 by omega), zg, zl, cTt, nTt, cFf]
          rw [nI_dle (by omega) (by omega), dT (by omega)]
          rfl
      · left
        refine ⟨m - 1, _, (nI (k + 1), N', c', F', d', lost'), by omega, s1, ?_, k + 1, st', lf', b', L', e', gn', mn + 1, x', N', c', F', d', lost', by omega, rfl, rfl, q3⟩
        simp only [f_md_over_25, b_md_over_25, eW, nI_dle0 (show w ≤ 96 by omega), nI_deq0 (show w ≤ 96 by omega), dF (show ¬ w = 0 by omega), show (313 : Int32).toNatClampNeg = 313 from rfl, show zin 313 315 = true from rfl, e313, h9, zg, zl, cTt, nTt, cFf]
        rw [nI_dle (by omega) (by omega), dF (by omega), q2, nI_1]
        rfl
  · right
    refine ⟨(nI k, kd, st, lf, at_, va, su, b, L, e, tl, gn, wd, mn, x), (nI k, a0_md_copies A N, A, c, F, d, lost), zlp_out ?_, zlp_out ?_, rfl, N, by with_reducible rfl, by with_reducible rfl⟩
    · simp only [f_if_over_25, b_if_over_25]
      rw [hnk, cFf, eF, eW, zl, nI_deq0 (by omega), dT (show w = 0 by omega)]
      rfl
    · simp only [f_md_over_25, b_md_over_25, eW, nI_dle0 (show w ≤ 96 by omega), nI_deq0 (show w ≤ 96 by omega), dT (show w = 0 by omega), zg, zl, cTt, nTt, nFf, cFf]
end dover
