/-! ===== D: minutes ===== -/
section dmin
variable {ops args rl am co en : Nat → Int32} {ru lu : Int32} {codes cl cf ch ct : Nat → Int32} {cn : Int32}
theorem d_minutesGo (hW : LW ops args rl am co en ru lu codes cl cf ch ct cn) {kd K : Nat → Int32} (hK : KA 96 kd K) {st0 lf0 at_ va su : Nat → Int32} {tl gn0 wd mn0 x0 : Int32} {N0 : Nat → Int32} (h : RS st0 lf0 at_ va su tl gn0 wd mn0 x0 N0) {n : Nat} (hn : n ≤ 100) (b0 L0 e0 c0 F0 d0 : Nat → Int32) :
    ∃ st' lf' b' L' e' gn' mn' x' N' c' F' d' lost', q_fr_burnFor (nI n) kd st0 lf0 at_ va su ops args b0 rl am co en L0 e0 tl gn0 wd mn0 x0 lu ru = some (st', lf', b', L', e', gn', mn', x') ∧ q_md_minutesGo (nI n) N0 K codes cl cf ch ct c0 F0 d0 cn = some (N', c', F', d', lost') ∧ RS st' lf' at_ va su tl gn' wd mn' x' N' ∧ lost' + w_sc_lostValue gn0 va = 0 + w_sc_lostValue gn' va := by
  obtain ⟨r, r', h1, h2, st', lf', b', L', e', gn', mn', x', N', c', F', d', lost', rfl, rfl, h3, h4⟩ := zlp_rel (f := f_fr_burnFor_3 (nI n) kd at_ va su ops args rl am co en tl wd lu ru) (g := f_md_minutesGo_7 (nI n) K codes cl cf ch ct cn)
      (fun m s t => ∃ k st lf b L e gn mn x N c F d lost, k + m = n ∧ s = (nI k, st, lf, b, L, e, gn, mn, x) ∧ t = (nI k, N, c, F, d, lost) ∧ RS st lf at_ va su tl gn wd mn x N ∧ lost + w_sc_lostValue gn0 va = 0 + w_sc_lostValue gn va)
      (fun r r' => ∃ st' lf' b' L' e' gn' mn' x' N' c' F' d' lost', r = (st', lf', b', L', e', gn', mn', x') ∧ r' = (N', c', F', d', lost') ∧ RS st' lf' at_ va su tl gn' wd mn' x' N' ∧ lost' + w_sc_lostValue gn0 va = 0 + w_sc_lostValue gn' va) (by
    rintro m s t ⟨k, st, lf, b, L, e, gn, mn, x, N, c, F, d, lost, hk, rfl, rfl, hR, hlo⟩
    have e313 : N 313 = mn := (hR.2.2.2.2.1).symm
    simp only [f_fr_burnFor_3, f_md_minutesGo_7, b_fr_burnFor_3, b_md_minutesGo_7]
    simp only [show (313 : Int32).toNatClampNeg = 313 from rfl, show zin 313 315 = true from rfl, e313, zg, cTt]
    by_cases hkn : k = n
    · right
      rw [nI_dle (by omega) (by omega), dT (by omega), cTt, cTt]
      exact ⟨_, _, rfl, rfl, st, lf, b, L, e, gn, mn, x, N, c, F, d, lost, rfl, rfl, hR, hlo⟩
    · rw [nI_dle (by omega) (by omega), dF (by omega), cFf, cFf]
      cases h9 : decide (9999 ≤ mn) with
      | true =>
        right
        exact ⟨_, _, rfl, rfl, st, lf, b, L, e, gn, mn, x, N, c, F, d, lost, rfl, rfl, hR, hlo⟩
      | false =>
        left
        obtain ⟨st', lf', b', L', e', gn', x', N', c', F', d', lost', q1, q2, q3, q4⟩ := d_minute hW hK hR b L e c F d lost
        refine ⟨m - 1, (nI (k + 1), st', lf', b', L', e', gn', mn + 1, x'), (nI (k + 1), N', c', F', d', lost'), by omega, ?_, ?_, k + 1, st', lf', b', L', e', gn', mn + 1, x', N', c', F', d', lost', by omega, rfl, rfl, q3, ?_⟩
        · rw [q1, nI_1]; rfl
        · rw [q2, nI_1]; rfl
        · have e1 : lost' + w_sc_lostValue gn va + w_sc_lostValue gn0 va = 0 + w_sc_lostValue gn' va + w_sc_lostValue gn va := by
            rw [q4, Int32.add_assoc, Int32.add_comm (w_sc_lostValue gn' va), ← Int32.add_assoc, hlo, Int32.add_assoc, Int32.add_comm (w_sc_lostValue gn va), ← Int32.add_assoc]
          rw [Int32.add_assoc, Int32.add_comm (w_sc_lostValue gn va), ← Int32.add_assoc] at e1
          exact (Int32.add_left_inj (w_sc_lostValue gn va)).mp e1) n (0, st0, lf0, b0, L0, e0, gn0, mn0, x0) (0, N0, c0, F0, d0, 0) ⟨0, st0, lf0, b0, L0, e0, gn0, mn0, x0, N0, c0, F0, d0, 0, by omega, rfl, rfl, h, rfl⟩
  exact ⟨st', lf', b', L', e', gn', mn', x', N', c', F', d', lost', h1, h2, h3, h4⟩
theorem d_minutes (hW : LW ops args rl am co en ru lu codes cl cf ch ct cn) {kd K : Nat → Int32} (hK : KA 96 kd K) {st0 lf0 at_ va su : Nat → Int32} {tl gn0 wd mn0 x0 : Int32} {N0 : Nat → Int32} (h : RS st0 lf0 at_ va su tl gn0 wd mn0 x0 N0) (n : Int32) (b0 L0 e0 c0 F0 d0 : Nat → Int32) (lost0 : Int32) :
    ∃ v st' lf' b' L' e' gn' mn' x' N' c' F' d' lost', q_if_minutes n kd st0 lf0 at_ va su ops args b0 rl am co en L0 e0 tl gn0 wd mn0 x0 lu ru = some (v, st', lf', b', L', e', gn', mn', x') ∧ q_md_minutes n N0 K codes cl cf ch ct c0 F0 d0 cn lost0 = some (v, N', c', F', d', lost') ∧ RS st' lf' at_ va su tl gn' wd mn' x' N' := by
  unfold q_if_minutes q_md_minutes
  rcases d_within n (a := 1) (b := 100) (by omega) (by omega) with ⟨e1, e2⟩ | ⟨e1, e2, n, rfl, hn1, hn2⟩
  · rw [show w_if_isWithin n 1 100 = 0 from e1, show w_md_in n 1 100 = 0 from e2]
    exact ⟨_, _, _, _, _, _, _, _, _, _, _, _, _, _, rfl, rfl, h⟩
  · rw [show w_if_isWithin (nI n) 1 100 = 1 from e1, show w_md_in (nI n) 1 100 = 1 from e2]
    obtain ⟨st', lf', b', L', e', gn', mn', x', N', c', F', d', lost', q1, q2, q3, -⟩ := d_minutesGo hW hK h hn2 b0 L0 e0 c0 F0 d0
    have ef := d_faring (fun k hk => (q3.1 k hk).1) 1
    rw [q1, q2]
    refine ⟨w_sc_placesThatAre 1 st', st', lf', b', L', e', gn', mn', x', N', c', F', d', lost', rfl, ?_, q3⟩
    rw [ef]
    rfl
end dmin
/-! copies -/
theorem d_copies (b c : Nat → Int32) : (∀ k, k < 315 → a0_md_copies b c k = b k) ∧ (∀ k, 315 ≤ k → a0_md_copies b c k = c k) := by
  have h := zfo_inv (f := b_md_copies b c) (P := fun m s => m ≤ 315 → (∀ k, k < m → s k = b k) ∧ (∀ k, 315 ≤ k → s k = c k)) 315 0 c (fun _ => ⟨fun k hk => by omega, fun _ _ => rfl⟩) (fun m s _ hm ih hm2 => by
    obtain ⟨i1, i2⟩ := ih (by omega)
    unfold b_md_copies
    rw [nI_cl (by omega)]
    refine ⟨fun k hk => ?_, fun k hk => ?_⟩
    · by_cases e : k = m
      · subst e; rw [zup_same]
      · rw [zup_ne e]; exact i1 k (by omega)
    · rw [zup_ne (by omega)]; exact i2 k hk)
  obtain ⟨h1, h2⟩ := h (by omega)
  exact ⟨fun k hk => h1 k (by omega), h2⟩
theorem RS_congr {st lf at_ va su : Nat → Int32} {tl gn wd mn x : Int32} {N N' : Nat → Int32} (h : RS st lf at_ va su tl gn wd mn x N) (e : ∀ j, j < 315 → N' j = N j) : RS st lf at_ va su tl gn wd mn x N' := by
  obtain ⟨h1, h2, h3, h4, h5, h6, h7, h8⟩ := h
  refine ⟨fun k hk => ?_, ⟨fun i hi => ?_, h2.2⟩, h3, ?_, ?_, ?_, h7, h8⟩
  · rw [e k (by omega), e (96 + k) (by omega)]; exact h1 k hk
  · rw [e (216 + i) (by omega), e (240 + i) (by omega), e (264 + i) (by omega), e (192 + i) (by omega), e (288 + i) (by omega)]; exact h2.1 i hi
  · rw [e 312 (by omega)]; exact h4
  · rw [e 313 (by omega)]; exact h5
  · rw [e 314 (by omega)]; exact h6
theorem RS_congrC {st lf at_ va su st' lf' at' va' su' : Nat → Int32} {tl gn wd mn x : Int32} {N : Nat → Int32} (h : RS st lf at_ va su tl gn wd mn x N) (e1 : KA 96 st' st) (e2 : KA 96 lf' lf) (e3 : KA 24 at' at_) (e4 : KA 24 va' va) (e5 : KA 24 su' su) : RS st' lf' at' va' su' tl gn wd mn x N := by
  obtain ⟨h1, h2, h3, h4, h5, h6, h7, h8⟩ := h
  refine ⟨fun k hk => ?_, ⟨fun i hi => ?_, h2.2⟩, fun i hi => ?_, h4, h5, h6, h7, fun k hk hq => ?_⟩
  · rw [e1 k hk, e2 k hk]; exact h1 k hk
  · rw [e3 i hi, e4 i hi, e5 i hi]; exact h2.1 i hi
  · rw [e3 i hi, e4 i hi, e5 i hi]; exact h3 i hi
  · rw [e1 k hk] at hq; rw [e2 k hk]; exact h8 k hk hq
