/-! ===== D: a minute ===== -/
section dfire3
variable {ops args rl am co en : Nat → Int32} {ru lu : Int32} {codes cl cf ch ct : Nat → Int32} {cn : Int32}
theorem d_turn (hW : LW ops args rl am co en ru lu codes cl cf ch ct cn) {kd K : Nat → Int32} (hK : KA 96 kd K) {st0 lf0 at_ va su : Nat → Int32} {tl gn wd mn x0 : Int32} {N0 : Nat → Int32} (h : RS st0 lf0 at_ va su tl gn wd mn x0 N0) {p k : Nat} (hp : p < 96) (hk : k < 96) (hst : st0 p = 1) (b51 : Nat → Int32) (hb51 : b51 k = nI p) (b0 L0 c0 F0 : Nat → Int32) (lost : Int32) :
    ∃ st' lf' b' L' x' N' c' F', l_fr_passMinute_63 kd at_ va su ops args rl am co en tl wd mn lu ru (nI k) b51 gn 0 st0 lf0 b0 L0 x0 = some (.inl (nI (k + 1), st', lf', b', L', gn, x')) ∧ l_md_turnOf_7 (nI p) K codes cl cf ch ct cn lost 0 N0 c0 F0 = some (N', c', F', lost) ∧ RS st' lf' at_ va su tl gn wd mn x' N' ∧ (∀ j, j < 96 → j ≠ p → st0 j = 1 → st' j = 1) := by
  obtain ⟨r, r', h1, h2, st', lf', b', L', x', N', c', F', rfl, rfl, h3, h4⟩ := zlp_rel (f := f_fr_passMinute_63 kd at_ va su ops args rl am co en tl wd mn lu ru (nI k) b51 gn) (g := f_md_turnOf_7 (nI p) K codes cl cf ch ct cn lost)
      (fun m s t => ∃ w st lf b L x N c F, w + m = 4 ∧ s = (nI w, st, lf, b, L, x) ∧ t = (nI w, N, c, F) ∧ RS st lf at_ va su tl gn wd mn x N ∧ (∀ j, j < 96 → st0 j = 1 → st j = 1))
      (fun r r' => ∃ st' lf' b' L' x' N' c' F', r = .inl (nI (k + 1), st', lf', b', L', gn, x') ∧ r' = (N', c', F', lost) ∧ RS st' lf' at_ va su tl gn wd mn x' N' ∧ (∀ j, j < 96 → j ≠ p → st0 j = 1 → st' j = 1)) (by
    rintro m s t ⟨w, st, lf, b, L, x, N, c, F, hw, rfl, rfl, hR, hj⟩
    by_cases hw4 : w = 4
    · right
      subst hw4
      obtain ⟨st', lf', b', L', x', N', c', F', q1, q2, q3, q4⟩ := d_down hW K hR hp (hj p hp hst) b L c F lost
      refine ⟨_, _, ?_, q2, st', lf', b', L', x', N', c', F', rfl, rfl, q3, fun j hj1 hj2 hj3 => by rw [(q4 j hj2).1]; exact hj j hj1 hj3⟩
      simp only [f_fr_passMinute_63, b_fr_passMinute_63]
      rw [show decide ((4 : Int32) ≤ nI 4) = true from rfl, cTt, nI_zin (by omega), dT hk, nI_cl (by omega), hb51, q1, nI_1]
      rfl
    · left
      obtain ⟨st', lf', b', L', x', N', c', F', q1, q2, q3, q4⟩ := d_way hW hK hR hp (w := w) (by omega) b L c F
      have e4 : decide ((4 : Int32) ≤ nI w) = false := by rw [show (4 : Int32) = nI 4 from rfl, nI_dle (by omega) (by omega)]; exact dF (by omega)
      refine ⟨m - 1, (nI (w + 1), st', lf', b', L', x'), (nI (w + 1), N', c', F'), by omega, ?_, ?_, w + 1, st', lf', b', L', x', N', c', F', by omega, rfl, rfl, q3, fun j hj1 hj2 => ?_⟩
      · simp only [f_fr_passMinute_63, b_fr_passMinute_63]
        rw [e4, cFf, nI_zin (by omega), dT hk, nI_cl (by omega), hb51, q1, nI_1]
        rfl
      · simp only [f_md_turnOf_7, b_md_turnOf_7]
        rw [e4, cFf, q2, nI_1]
        rfl
      · rw [(q4 j hj1 (by rw [hj j hj1 hj2]; decide)).1]; exact hj j hj1 hj2) 4 (0, st0, lf0, b0, L0, x0) (0, N0, c0, F0) ⟨0, st0, lf0, b0, L0, x0, N0, c0, F0, by omega, rfl, rfl, h, fun _ _ q => q⟩
  exact ⟨st', lf', b', L', x', N', c', F', h1, h2, h3, h4⟩
/-- how many burn ahead of a place -/
def cntB (st : Nat → Int32) : Nat → Nat
  | 0 => 0
  | n + 1 => cntB st n + (bif decide (st n = 1) then 1 else 0)
theorem cntB_succ (st : Nat → Int32) (n : Nat) : cntB st (n + 1) = cntB st n + (bif decide (st n = 1) then 1 else 0) := rfl
theorem cntB_le (st : Nat → Int32) : ∀ n, cntB st n ≤ n
  | 0 => Nat.le_refl 0
  | n + 1 => by
    have := cntB_le st n
    rw [cntB_succ]
    cases decide (st n = 1) <;> simp only [cTt, cFf] <;> omega
theorem cntB_mono (st : Nat → Int32) {a b : Nat} (h : a ≤ b) : cntB st a ≤ cntB st b := by
  induction h with
  | refl => exact Nat.le_refl _
  | step _ ih => rw [Nat.succ_eq_add_one, cntB_succ]; omega
theorem cntB_lt (st : Nat → Int32) {a b : Nat} (h : a < b) (ha : st a = 1) : cntB st a < cntB st b := by
  have h1 := cntB_mono st (show a + 1 ≤ b from h)
  rw [cntB_succ, dT ha, cTt] at h1
  omega
theorem RS_clock {st lf at_ va su : Nat → Int32} {tl gn wd mn x : Int32} {N : Nat → Int32} (h : RS st lf at_ va su tl gn wd mn x N) (v : Int32) : RS st lf at_ va su tl gn wd v x (zup N 313 v) := by
  obtain ⟨h1, h2, h3, h4, h5, h6, h7, h8⟩ := h
  refine ⟨fun k hk => ?_, ⟨fun i hi => ?_, h2.2⟩, h3, ?_, ?_, ?_, h7, h8⟩
  · rw [zup_ne (by omega), zup_ne (by omega)]; exact h1 k hk
  · rw [zup_ne (by omega), zup_ne (by omega), zup_ne (by omega), zup_ne (by omega), zup_ne (by omega)]; exact h2.1 i hi
  · rw [zup_ne (by omega)]; exact h4
  · rw [zup_same]
  · rw [zup_ne (by omega)]; exact h6
theorem RS_lose {st lf at_ va su : Nat → Int32} {tl gn gn' wd mn x : Int32} {N N' : Nat → Int32} (h : RS st lf at_ va su tl gn wd mn x N) (h1' : RH at_ va su tl gn' N') (h2' : VH at_ va su tl gn') (h3' : ∀ j, j < 288 ∨ 312 ≤ j → N' j = N j) : RS st lf at_ va su tl gn' wd mn x N' := by
  obtain ⟨h1, h2, h3, h4, h5, h6, h7, h8⟩ := h
  refine ⟨fun k hk => ?_, h1', h2', ?_, ?_, ?_, h7, h8⟩
  · rw [h3' k (by omega), h3' (96 + k) (by omega)]; exact h1 k hk
  · rw [h3' 312 (by omega)]; exact h4
  · rw [h3' 313 (by omega)]; exact h5
  · rw [h3' 314 (by omega)]; exact h6
theorem d_minute (hW : LW ops args rl am co en ru lu codes cl cf ch ct cn) {kd K : Nat → Int32} (hK : KA 96 kd K) {st0 lf0 at_ va su : Nat → Int32} {tl gn0 wd mn x0 : Int32} {N0 : Nat → Int32} (h : RS st0 lf0 at_ va su tl gn0 wd mn x0 N0) (b0 L0 b51 c0 F0 d0 : Nat → Int32) (lost0 : Int32) :
    ∃ st' lf' b' L' b51' gn' x' N' c' F' d' lost', q_fr_passMinute kd st0 lf0 at_ va su ops args b0 rl am co en L0 b51 tl gn0 wd mn x0 lu ru = some (st', lf', b', L', b51', gn', mn + 1, x') ∧ q_md_minuteGoes N0 K codes cl cf ch ct c0 F0 d0 cn lost0 = some (N', c', F', d', lost') ∧ RS st' lf' at_ va su tl gn' wd (mn + 1) x' N' ∧ lost' + w_sc_lostValue gn0 va = lost0 + w_sc_lostValue gn' va := by
  have hst : ∀ k, k < 96 → st0 k = N0 k := fun k hk => (h.1 k hk).1
  -- the second half
  have half : ∀ (b51 d : Nat → Int32), (∀ q, q < 96 → d q = b01 (decide (st0 q = 1))) → (∀ q, q < 96 → st0 q = 1 → b51 (cntB st0 q) = nI q) →
      ∃ r r', l_fr_passMinute_43 kd at_ va su ops args rl am co en tl wd mn lu ru (nI (cntB st0 96)) b51 0 st0 lf0 b0 L0 gn0 x0 = some r ∧ l_md_minuteGoes_39 K codes cl cf ch ct cn d 0 N0 c0 F0 lost0 = some r' ∧
        ∃ st' lf' b' L' gn' x' N' c' F' lost', r = (st', lf', b', L', b51, gn', mn + 1, x') ∧ r' = (N', c', F', d, lost') ∧ RS st' lf' at_ va su tl gn' wd (mn + 1) x' N' ∧ lost' + w_sc_lostValue gn0 va = lost0 + w_sc_lostValue gn' va := by
    intro b51 d hd hb
    refine zlp_rels (f := f_fr_passMinute_43 kd at_ va su ops args rl am co en tl wd mn lu ru (nI (cntB st0 96)) b51) (g := f_md_minuteGoes_39 K codes cl cf ch ct cn d)
      (fun m s t => ∃ p st lf b L gn x N c F lost, p + m = 96 ∧ s = (nI (cntB st0 p), st, lf, b, L, gn, x) ∧ t = (nI p, N, c, F, lost) ∧ RS st lf at_ va su tl gn wd mn x N ∧ (∀ q, p ≤ q → q < 96 → st0 q = 1 → st q = 1) ∧ lost + w_sc_lostValue gn0 va = lost0 + w_sc_lostValue gn va)
      (fun r r' => ∃ st' lf' b' L' gn' x' N' c' F' lost', r = (st', lf', b', L', b51, gn', mn + 1, x') ∧ r' = (N', c', F', d, lost') ∧ RS st' lf' at_ va su tl gn' wd (mn + 1) x' N' ∧ lost' + w_sc_lostValue gn0 va = lost0 + w_sc_lostValue gn' va) ?_ 96 (0, st0, lf0, b0, L0, gn0, x0) (0, N0, c0, F0, lost0) ⟨0, st0, lf0, b0, L0, gn0, x0, N0, c0, F0, lost0, by omega, rfl, rfl, h, fun _ _ _ q => q, rfl⟩
    rintro m s t ⟨p, st, lf, b, L, gn, x, N, c, F, lost, hp, rfl, rfl, hR, hq, hlo⟩
    have hc96 := cntB_le st0 96
    have hcp := cntB_le st0 p
    by_cases hp96 : p = 96
    · right; right
      subst hp96
      have e313 : N 313 = mn := (hR.2.2.2.2.1).symm
      refine ⟨(st, lf, b, L, b51, gn, mn + 1, x), (zup N 313 (mn + 1), c, F, d, lost), zlp_out ?_, zlp_out ?_, st, lf, b, L, gn, x, _, c, F, lost, rfl, rfl, RS_clock hR (mn + 1), hlo⟩
      · simp only [f_fr_passMinute_43, b_fr_passMinute_43]
        rw [nI_dle (by omega) (by omega), dT (Nat.le_refl _), cTt]
      · simp only [f_md_minuteGoes_39, b_md_minuteGoes_39]
        rw [show decide ((96 : Int32) ≤ nI 96) = true from rfl, cTt, show (313 : Int32).toNatClampNeg = 313 from rfl, e313]
        rfl
    · have e96 : decide ((96 : Int32) ≤ nI p) = false := by rw [show (96 : Int32) = nI 96 from rfl, nI_dle (by omega) (by omega)]; exact dF (by omega)
      by_cases hb1 : st0 p = 1
      · left
        have hstp := hq p (Nat.le_refl p) (by omega) hb1
        have hlt := cntB_lt st0 (show p < 96 by omega) hb1
        obtain ⟨gn', N1, lost1, g1, g2, g3, g4, g5, g6, g7⟩ := d_lose hR.2.1 hR.2.2.1 (nI p) lost
        obtain ⟨st', lf', b', L', x', N', c', F', q1, q2, q3, q4⟩ := d_turn hW hK (RS_lose hR g4 g5 g6) (p := p) (k := cntB st0 p) (by omega) (by omega) hstp b51 (hb p (by omega) hb1) b L c F lost1
        refine ⟨m - 1, (nI (cntB st0 p + 1), st', lf', b', L', gn', x'), (nI (p + 1), N', c', F', lost1), by omega, ?_, ?_, p + 1, st', lf', b', L', gn', x', N', c', F', lost1, by omega, ?_, rfl, q3, fun q hq1 hq2 hq3 => q4 q hq2 (by omega) (hq q (by omega) hq2 hq3), ?_⟩
        · simp only [f_fr_passMinute_43, b_fr_passMinute_43]
          rw [nI_dle (by omega) (by omega), dF (by omega), cFf, nI_zin (by omega), dT (by omega), nI_cl (by omega), hb p (by omega) hb1, g1]
          simp only [zg, zl, cTt]
          rw [q1]
        · simp only [f_md_minuteGoes_39, b_md_minuteGoes_39]
          rw [e96, cFf, nI_zin (by omega), dT (by omega), nI_cl (by omega), hd p (by omega), dT hb1]
          have : q_md_turnOf (nI p) N K codes cl cf ch ct c F cn lost = some (N', c', F', lost1) := by
            unfold q_md_turnOf
            rw [g2, g3]
            exact q2
          rw [this, nI_1]
          rfl
        · rw [cntB_succ, dT hb1, cTt]
        · have := g7
          calc lost1 + w_sc_lostValue gn0 va = lost1 + w_sc_lostValue gn0 va := rfl
            _ = lost0 + w_sc_lostValue gn' va := by
              have e1 : lost1 + w_sc_lostValue gn va + w_sc_lostValue gn0 va = lost0 + w_sc_lostValue gn' va + w_sc_lostValue gn va := by
                rw [g7, Int32.add_assoc, Int32.add_comm (w_sc_lostValue gn' va), ← Int32.add_assoc, hlo, Int32.add_assoc, Int32.add_comm (w_sc_lostValue gn va), ← Int32.add_assoc]
              rw [Int32.add_assoc, Int32.add_comm (w_sc_lostValue gn va), ← Int32.add_assoc] at e1
              exact (Int32.add_left_inj (w_sc_lostValue gn va)).mp e1
      · right; left
        refine ⟨m - 1, (nI (p + 1), N, c, F, lost), by omega, ?_, p + 1, st, lf, b, L, gn, x, N, c, F, lost, by omega, ?_, rfl, hR, fun q hq1 hq2 hq3 => hq q (by omega) hq2 hq3, hlo⟩
        · simp only [f_md_minuteGoes_39, b_md_minuteGoes_39]
          rw [e96, cFf, nI_zin (by omega), dT (by omega), nI_cl (by omega), hd p (by omega), dF hb1, nI_1]
          rfl
        · rw [cntB_succ, dF hb1, cFf]
          rfl
  obtain ⟨r, r', h1, h2, st', lf', b', L', b51', gn', x', N', c', F', d', lost', rfl, rfl, h3, h4⟩ := zlp_relx (f := f_fr_passMinute_5 kd at_ va su ops args rl am co en tl wd mn lu ru st0 lf0 b0 L0 gn0 x0) (g := f_md_minuteGoes_2 K codes cl cf ch ct cn N0 c0 F0 lost0)
      (fun m s t => ∃ k b d, k + m = 96 ∧ s = (nI (cntB st0 k), nI k, b) ∧ t = (nI k, d) ∧ (∀ q, q < k → d q = b01 (decide (st0 q = 1))) ∧ (∀ q, q < k → st0 q = 1 → b (cntB st0 q) = nI q))
      (fun r r' => ∃ st' lf' b' L' b51' gn' x' N' c' F' d' lost', r = (st', lf', b', L', b51', gn', mn + 1, x') ∧ r' = (N', c', F', d', lost') ∧ RS st' lf' at_ va su tl gn' wd (mn + 1) x' N' ∧ lost' + w_sc_lostValue gn0 va = lost0 + w_sc_lostValue gn' va) (by
    rintro m s t ⟨k, b, d, hk, rfl, rfl, hd, hb⟩
    have hck := cntB_le st0 k
    by_cases hkn : k = 96
    · right
      subst hkn
      obtain ⟨r, r', g1, g2, st', lf', b', L', gn', x', N', c', F', lost', rfl, rfl, g3, g4⟩ := half b d hd hb
      refine ⟨_, _, zlp_out ?_, zlp_out ?_, st', lf', b', L', b, gn', x', N', c', F', d, lost', rfl, rfl, g3, g4⟩
      · simp only [f_fr_passMinute_5, b_fr_passMinute_5]
        rw [show decide ((96 : Int32) ≤ nI 96) = true from rfl, cTt, g1]
        rfl
      · simp only [f_md_minuteGoes_2, b_md_minuteGoes_2]
        rw [show decide ((96 : Int32) ≤ nI 96) = true from rfl, cTt, g2]
        rfl
    · left
      have e96 : decide ((96 : Int32) ≤ nI k) = false := by rw [show (96 : Int32) = nI 96 from rfl, nI_dle (by omega) (by omega)]; exact dF (by omega)
      have e0 : (0 : Int32) + nI k = nI k := Int32.zero_add _
      refine ⟨m - 1, (nI (cntB st0 (k + 1)), nI (k + 1), bif decide (st0 k = 1) then zup b (cntB st0 k) (nI k) else b), (nI (k + 1), zup d k (b01 (decide (st0 k = 1)))), by omega, ?_, ?_, k + 1, _, _, by omega, rfl, rfl, fun q hq => ?_, fun q hq hq1 => ?_⟩
      · simp only [f_fr_passMinute_5, b_fr_passMinute_5]
        rw [e96, cFf, nI_zin (by omega), dT (by omega), nI_cl (by omega), nI_zin (by omega), dT (show cntB st0 k < 96 by omega), nI_cl (by omega), nI_1, nI_1, cntB_succ]
        cases decide (st0 k = 1) <;> rfl
      · simp only [f_md_minuteGoes_2, b_md_minuteGoes_2]
        rw [e96, cFf, e0, nI_zin (by omega), dT (show k < 315 by omega), nI_zin (by omega), dT (show k < 96 by omega), nI_cl (by omega), nI_1, ← hst k (by omega)]
        cases decide (st0 k = 1) <;> rfl
      · by_cases e : q = k
        · subst e; rw [zup_same]
        · rw [zup_ne e]; exact hd q (by omega)
      · by_cases e : q = k
        · subst e; rw [dT hq1, cTt, zup_same]
        · have hlt := cntB_lt st0 (show q < k by omega) hq1
          cases decide (st0 k = 1)
          · rw [cFf]; exact hb q (by omega) hq1
          · rw [cTt, zup_ne (by omega)]; exact hb q (by omega) hq1) 96 (0, 0, b51) (0, d0) ⟨0, b51, d0, by omega, rfl, rfl, fun q hq => by omega, fun q hq => by omega⟩
  exact ⟨st', lf', b', L', b51', gn', x', N', c', F', d', lost', h1, h2, h3, h4⟩
end dfire3
