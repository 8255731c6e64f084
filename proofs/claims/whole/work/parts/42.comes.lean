/-! ===== D: comes, over ===== -/
theorem d_cpyA (b c : Nat → Int32) : KA 96 (va_cpy b c ((0 : Int32).toNatClampNeg) ((0 : Int32).toNatClampNeg) ((96 : Int32).toNatClampNeg)) b := fun _ hk => sb_cpy0 (n := 96) hk
theorem d_cpyT (b c : Nat → Int32) : KA 24 (va_cpy b c ((0 : Int32).toNatClampNeg) ((0 : Int32).toNatClampNeg) ((24 : Int32).toNatClampNeg)) b := fun _ hk => sb_cpy0 (n := 24) hk
section dcomes
variable {ops args rl am co en : Nat → Int32} {ru lu : Int32} {codes cl cf ch ct : Nat → Int32} {cn : Int32}
/-- one minute, as burnFor has it -/
theorem d_one0 (kd st lf at_ va su b L e : Nat → Int32) (tl gn wd mn x : Int32) (h9 : decide (9999 ≤ mn) = true) : q_fr_burnFor 1 kd st lf at_ va su ops args b rl am co en L e tl gn wd mn x lu ru = some (st, lf, b, L, e, gn, mn, x) := by
  refine zlp_out ?_
  simp only [f_fr_burnFor_3, b_fr_burnFor_3]
  rw [show decide ((1 : Int32) ≤ 0) = false from rfl, cFf, h9, cTt]
theorem d_one1 {kd st lf at_ va su b L e : Nat → Int32} {tl gn wd mn x : Int32} {st' lf' b' L' e' : Nat → Int32} {gn' x' : Int32} (h9 : decide (9999 ≤ mn) = false) (q : q_fr_passMinute kd st lf at_ va su ops args b rl am co en L e tl gn wd mn x lu ru = some (st', lf', b', L', e', gn', mn + 1, x')) : q_fr_burnFor 1 kd st lf at_ va su ops args b rl am co en L e tl gn wd mn x lu ru = some (st', lf', b', L', e', gn', mn + 1, x') := by
  have s1 : f_fr_burnFor_3 1 kd at_ va su ops args rl am co en tl wd lu ru (0, st, lf, b, L, e, gn, mn, x) = some (.inl (1, st', lf', b', L', e', gn', mn + 1, x')) := by
    simp only [f_fr_burnFor_3, b_fr_burnFor_3]
    rw [show decide ((1 : Int32) ≤ 0) = false from rfl, cFf, h9, cFf, q]
    rfl
  show zlp (f_fr_burnFor_3 1 kd at_ va su ops args rl am co en tl wd lu ru) (0, st, lf, b, L, e, gn, mn, x) = _
  rw [zlp_in s1]
  refine zlp_out ?_
  simp only [f_fr_burnFor_3, b_fr_burnFor_3]
  rw [show decide ((1 : Int32) ≤ 1) = true from rfl, cTt]
theorem d_comesL (hW : LW ops args rl am co en ru lu codes cl cf ch ct cn) {kd K : Nat → Int32} (hK : KA 96 kd K) {st0 lf0 at_ va su : Nat → Int32} {tl gn0 wd mn0 x0 : Int32} {N0 : Nat → Int32} (h : RS st0 lf0 at_ va su tl gn0 wd mn0 x0 N0) {n p : Nat} (hn : n ≤ 100) (hp : p < 96) (b0 L0 e0 c0 F0 d0 A : Nat → Int32) (lost0 : Int32) :
    ∃ r r', l_if_comes_42 (nI n) ops args rl am co en lu ru (nI p) kd at_ va su tl wd 0 st0 lf0 b0 L0 e0 gn0 mn0 x0 = some r ∧ l_md_comes_42 (nI n) K codes cl cf ch ct cn (nI p) A 0 N0 c0 F0 d0 lost0 = some r' ∧ r.1 = r'.1 ∧ ∃ N, r'.2.1 = a0_md_copies A N ∧ r'.2.2.1 = A := by
  have ep : (0 : Int32) + nI p = nI p := Int32.zero_add _
  refine zlp_relx (f := f_if_comes_42 (nI n) ops args rl am co en lu ru (nI p) kd at_ va su tl wd) (g := f_md_comes_42 (nI n) K codes cl cf ch ct cn (nI p) A)
      (fun m s t => ∃ k st lf b L e gn mn x N c F d lost, k + m = n ∧ s = (nI k, st, lf, b, L, e, gn, mn, x) ∧ t = (nI k, N, c, F, d, lost) ∧ RS st lf at_ va su tl gn wd mn x N)
      (fun r r' => r.1 = r'.1 ∧ ∃ N, r'.2.1 = a0_md_copies A N ∧ r'.2.2.1 = A) ?_ n (0, st0, lf0, b0, L0, e0, gn0, mn0, x0) (0, N0, c0, F0, d0, lost0) ⟨0, st0, lf0, b0, L0, e0, gn0, mn0, x0, N0, c0, F0, d0, lost0, by omega, rfl, rfl, h⟩
  rintro m s t ⟨k, st, lf, b, L, e, gn, mn, x, N, c, F, d, lost, hk, rfl, rfl, hR⟩
  have e313 : N 313 = mn := (hR.2.2.2.2.1).symm
  have eN : N p = st p := ((hR.1 p hp).1).symm
  have hnk : decide (nI n < nI k) = false := by rw [nI_dlt (by omega) (by omega)]; exact dF (by omega)
  have hz3 : zin (nI p) 315 = true := by rw [nI_zin (by omega)]; exact dT (by omega)
  have hz9 : zin (nI p) 96 = true := by rw [nI_zin (by omega)]; exact dT hp
  have hcl : (nI p).toNatClampNeg = p := nI_cl (by omega)
  -- behind the last minute
  have late : ∀ (j k : Nat), k + j = n + 1 → st p = 0 → decide (9999 ≤ mn) = true → zlp (f_if_comes_42 (nI n) ops args rl am co en lu ru (nI p) kd at_ va su tl wd) (nI k, st, lf, b, L, e, gn, mn, x) = some (-2, kd, st, lf, at_, va, su, b, L, e, tl, gn, wd, mn, x) := by
    intro j
    induction j with
    | zero =>
      intro k hk _ _
      refine zlp_out ?_
      simp only [f_if_comes_42, b_if_comes_42]
      rw [nI_dlt (by omega) (by omega), dT (by omega), cTt]
    | succ j ih =>
      intro k hk hs h9
      have s1 : f_if_comes_42 (nI n) ops args rl am co en lu ru (nI p) kd at_ va su tl wd (nI k, st, lf, b, L, e, gn, mn, x) = some (.inl (nI (k + 1), st, lf, b, L, e, gn, mn, x)) := by
        simp only [f_if_comes_42, b_if_comes_42]
        rw [nI_dlt (by omega) (by omega), dF (by omega), cFf, hz9, hcl, dT hs, d_one0 kd st lf at_ va su b L e tl gn wd mn x h9, nI_1]
        rfl
      rw [zlp_in s1]
      exact ih (k + 1) (by omega) hs h9
  by_cases hs : st p = 0
  · cases h9 : decide (9999 ≤ mn) with
    | true =>
      right
      refine ⟨_, (-2, a0_md_copies A N, A, c, F, d, lost), late (n + 1 - k) k (by omega) hs h9, zlp_out ?_, rfl, N, by with_reducible rfl, by with_reducible rfl⟩
      simp only [f_md_comes_42, b_md_comes_42, ep, hz3, hcl, eN, dT hs, show (313 : Int32).toNatClampNeg = 313 from rfl, show zin 313 315 = true from rfl, e313, h9, zg, zl, cTt, nTt, cFf]
      cases decide (nI n ≤ nI k) <;> rfl
    | false =>
      obtain ⟨st', lf', b', L', e', gn', x', N', c', F', d', lost', q1, q2, q3, -⟩ := d_minute hW hK hR b L e c F d lost
      have s1 : f_if_comes_42 (nI n) ops args rl am co en lu ru (nI p) kd at_ va su tl wd (nI k, st, lf, b, L, e, gn, mn, x) = some (.inl (nI (k + 1), st', lf', b', L', e', gn', mn + 1, x')) := by
        simp only [f_if_comes_42, b_if_comes_42]
        rw [hnk, cFf, hz9, hcl, dT hs, d_one1 h9 q1, nI_1]
        rfl
      by_cases hkn : k = n
      · right
        refine ⟨(-2, kd, st', lf', at_, va, su, b', L', e', tl, gn', wd, mn + 1, x'), (-2, a0_md_copies A N, A, c, F, d, lost), ?_, zlp_out ?_, rfl, N, by with_reducible rfl, by with_reducible rfl⟩
        · rw [zlp_in s1]
          refine zlp_out ?_
          simp only [f_if_comes_42, b_if_comes_42]
          rw [nI_dlt (by omega) (by omega), dT (by omega), cTt]
        · simp only [f_md_comes_42, b_md_comes_42, ep, hz3, hcl, eN, dT hs, zg, zl, cTt, nTt, cFf]
          rw [nI_dle (by omega) (by omega), dT (by omega)]
          rfl
      · left
        refine ⟨m - 1, _, (nI (k + 1), N', c', F', d', lost'), by omega, s1, ?_, k + 1, st', lf', b', L', e', gn', mn + 1, x', N', c', F', d', lost', by omega, rfl, rfl, q3⟩
        simp only [f_md_comes_42, b_md_comes_42, ep, hz3, hcl, eN, dT hs, show (313 : Int32).toNatClampNeg = 313 from rfl, show zin 313 315 = true from rfl, e313, h9, zg, zl, cTt, nTt, cFf]
        rw [nI_dle (by omega) (by omega), dF (by omega), q2, nI_1]
        rfl
  · right
    refine ⟨(nI k, kd, st, lf, at_, va, su, b, L, e, tl, gn, wd, mn, x), (nI k, a0_md_copies A N, A, c, F, d, lost), zlp_out ?_, zlp_out ?_, rfl, N, by with_reducible rfl, by with_reducible rfl⟩
    · simp only [f_if_comes_42, b_if_comes_42]
      rw [hnk, cFf, hz9, hcl, dF hs]
      rfl
    · simp only [f_md_comes_42, b_md_comes_42, ep, hz3, hcl, eN, dF hs, zg, zl, cTt, nFf, cFf]
end dcomes
