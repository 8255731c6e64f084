/-! ===== D: orders: all lines ===== -/
theorem d_mdBack (A B N K : Nat → Int32) (c7 c8 c9 c10 c12 c14 c30 c31 c32 : Int32) : ∃ K', l_md_orders_139 N A B 0 c7 c8 c9 c10 c12 c14 c30 c31 c32 0 K = some (c9, N, A, K', B, 0, c7, c8, c9, c10, c12, c14, c30, c31, c32) ∧ KA 96 K' B := by
  obtain ⟨r, h1, K', rfl, h2⟩ := zlp_one (f := f_md_orders_139 N A B 0 c7 c8 c9 c10 c12 c14 c30 c31 c32) (fun m s => ∃ k K', k + m = 96 ∧ s = (nI k, K') ∧ ∀ j, j < k → K' j = B j) (fun r => ∃ K', r = (c9, N, A, K', B, 0, c7, c8, c9, c10, c12, c14, c30, c31, c32) ∧ KA 96 K' B) (by
    rintro m s ⟨k, K', hk, rfl, hb⟩
    dsimp +instances only [f_md_orders_139, b_md_orders_139]
    by_cases hkn : k = 96
    · right
      subst hkn
      rw [show decide ((96 : Int32) ≤ nI 96) = true from rfl, cTt]
      exact ⟨_, rfl, K', rfl, hb⟩
    · left
      have e96 : decide ((96 : Int32) ≤ nI k) = false := by rw [show (96 : Int32) = nI 96 from rfl, nI_dle (by omega) (by omega)]; exact dF (by omega)
      rw [e96, cFf, nI_zin (by omega), dT (show k < 96 by omega), nI_cl (by omega), nI_1]
      refine ⟨m - 1, _, by omega, rfl, k + 1, _, by omega, rfl, fun j hj => ?_⟩
      by_cases e : j = k
      · subst e; rw [zup_same]
      · rw [zup_ne e]; exact hb j (by omega)) 96 (0, K) ⟨0, K, by omega, rfl, fun j hj => by omega⟩
  exact ⟨K', h1, h2⟩
theorem d_mdFail (a70 A B N K : Nat → Int32) (c8 c7 c9 c10 c12 c14 c30 c31 c32 : Int32) : ∃ K', l_md_orders_72 a70 A B c8 c12 c14 0 N K c7 c9 c10 c30 c31 c32 = some (c9, a0_md_copies A N, A, K', B, 0, c7, c8, c9, c10, c12, c14, c30, c31, c32) ∧ KA 96 K' B := by
  obtain ⟨K', h1, h2⟩ := d_mdBack A B (a0_md_copies A N) K c7 c8 c9 c10 c12 c14 c30 c31 c32
  refine ⟨K', zlp_out ?_, h2⟩
  dsimp +instances only [f_md_orders_72, b_md_orders_72]
  rw [show decide ((0 : Int32) = 0) = true from rfl, cTt, cTt]
  dsimp +instances only [zl]
  rw [h1]
  rfl
theorem d_odOut (a1 : Nat → Int32) (L l4 l6 : Int32) (kd st lf at_ va su : Nat → Int32) (tl gn wd f fp ps : Int32) : l_od_read_18 a1 L l4 0 l6 kd st lf at_ va su tl gn wd f fp ps = some (w_tx_answerOr l4 f fp, kd, st, lf, at_, va, su, tl, gn, wd, L, f, fp, ps) := by
  refine zlp_out ?_
  dsimp +instances only [f_od_read_18, b_od_read_18]
  rw [show decide ((0 : Int32) = 0) = true from rfl]
  cases decide (16 < l6) <;> rfl
def okOrd (A B : Nat → Int32) (mn x : Int32) (r : T_od_read) (r' : T_md_orders) : Prop :=
  (∃ n kd st lf at_ va su tl gn wd l f fp ps N K c7 c8 c9 c10 c12 c14 c30 c31 c32, n ≤ 16 ∧ r = (nI n, kd, st, lf, at_, va, su, tl, gn, wd, l, f, fp, ps) ∧ r' = (nI n, N, A, K, B, 0, c7, c8, c9, c10, c12, c14, c30, c31, c32) ∧ RS st lf at_ va su tl gn wd mn x N ∧ KA 96 kd K) ∨
  (∃ v kd st lf at_ va su tl gn wd l f fp ps N K c7 c8 c9 c10 c12 c14 c30 c31 c32, decide (0 ≤ v) = false ∧ r = (v, kd, st, lf, at_, va, su, tl, gn, wd, l, f, fp, ps) ∧ r' = (v, N, A, K, B, 0, c7, c8, c9, c10, c12, c14, c30, c31, c32) ∧ (∀ j, j < 315 → N j = A j) ∧ KA 96 K B)
theorem d_ansF {k pl : Nat} (hk : nI k ≠ 0) (z : Int32) : w_tx_answerOr z (nI k) (nI pl) = f0_md_wrongAt (nI k) (nI pl) := by
  unfold w_tx_answerOr f0_md_wrongAt
  rw [dF hk]
  rfl
theorem d_odLines {a1 a70 : Nat → Int32} (h : RT a1 a70) {L : Nat} (hL : L ≤ 260) (A B : Nat → Int32) (c12 c14 mn x : Int32) : ∀ (m y p : Nat) (kd st lf at_ va su N K : Nat → Int32) (tl gn wd fp F9 n0 s0 t0 : Int32), m + y = 16 → p ≤ L → RS st lf at_ va su tl gn wd mn x N → KA 96 kd K →
    ∃ r r', l_od_read_18 a1 (nI L) (nI y) 1 (nI y) kd st lf at_ va su tl gn wd 0 fp (nI p) = some r ∧ zbd (q_md_readsLine N K a70 (nI p) (nI L) F9 n0 (nI y) s0 t0) (fun v => l_md_orders_72 a70 A B (nI L) c12 c14 v.1 v.2.1 v.2.2.1 v.2.2.2.1 v.2.2.2.2.1 v.2.2.2.2.2.1 v.2.2.2.2.2.2.1 v.2.2.2.2.2.2.2.1 v.2.2.2.2.2.2.2.2) = some r' ∧ okOrd A B mn x r r' := by
  intro m
  induction m with
  | zero => 
    intro y p kd st lf at_ va su N K tl gn wd fp F9 n0 s0 t0 hy hp hR hK
    obtain ⟨kd', st', lf', at', va', su', tl', gn', wd', f, fp', ps, N', K', ret, ps', F, n, ln, s1, s2, q1, q2, q3⟩ := d_line h hK hR hL hp (show y ≤ 16 by omega) fp F9 n0 s0 t0
    have hy16 : y = 16 := by omega
    rw [zbd_q q2]
    have hf : f ≠ 0 ∧ ∃ k pl, 1 ≤ k ∧ k ≤ 8 ∧ pl ≤ 1000 ∧ f = nI k ∧ fp' = nI pl ∧ ((ret = 0 ∧ F = f0_md_wrongAt (nI k) (nI pl)) ∨ (k = 1 ∧ ret = 1 ∧ ps' = nI pl ∧ pl < L ∧ sg a1 L pl ≠ 59)) := by
      rcases q3 with ⟨-, -, ⟨-, -, -, hlt⟩, -⟩ | ⟨p2, rfl, rfl, rfl, rfl, h1, h2⟩ | ⟨k, pl, h1, h2, h3, rfl, rfl, rfl, rfl⟩
      · omega
      · exact ⟨by decide, 1, p2, by omega, by omega, by omega, rfl, rfl, Or.inr ⟨rfl, rfl, rfl, h1, h2⟩⟩
      · exact ⟨nI_ne0 (by omega) (by omega), k, pl, h1, h2, h3, rfl, rfl, Or.inl ⟨rfl, rfl⟩⟩
    obtain ⟨hf0, k, pl, h1, h2, h3, rfl, rfl, h4⟩ := hf
    have e := d_signF hf0 ps (nI L) a1
    have hst : f_od_read_18 a1 (nI L) (nI y, 1, nI y, kd, st, lf, at_, va, su, tl, gn, wd, 0, fp, nI p) = some (.inl (nI (y + 1), 0, nI (y + 1), kd', st', lf', at', va', su', tl', gn', wd', nI k, nI pl, ps)) := by
      dsimp +instances only [f_od_read_18, b_od_read_18]
      rw [show (16 : Int32) = nI 16 from rfl, nI_dlt (by omega) (by omega), dF (by omega), cFf, show decide ((1 : Int32) = 0) = false from rfl, cFf, zbd_q q1]
      dsimp +instances only
      rw [e.1, e.2, nI_1]
      rfl
    have hcl : l_od_read_18 a1 (nI L) (nI y) 1 (nI y) kd st lf at_ va su tl gn wd 0 fp (nI p) = some (f0_md_wrongAt (nI k) (nI pl), kd', st', lf', at', va', su', tl', gn', wd', nI L, nI k, nI pl, ps) := by
      show zlp (f_od_read_18 a1 (nI L)) (nI y, 1, nI y, kd, st, lf, at_, va, su, tl, gn, wd, 0, fp, nI p) = _
      rw [zlp_in hst, ← d_ansF hf0 (nI (y + 1))]
      exact d_odOut _ _ _ _ _ _ _ _ _ _ _ _ _ _ _ _
    rcases h4 with ⟨rfl, rfl⟩ | ⟨rfl, rfl, rfl, h5, h6⟩
    · obtain ⟨K2, g1, g2⟩ := d_mdFail a70 A B N' K' (nI L) ps' (f0_md_wrongAt (nI k) (nI pl)) n c12 c14 ln s1 s2
      exact ⟨_, _, hcl, g1, Or.inr ⟨_, kd', st', lf', at', va', su', tl', gn', wd', _, _, _, _, _, K2, _, _, _, _, _, _, _, _, _, d_neg h1 h2 (by omega), rfl, rfl, fun j hj => (d_copies _ _).1 j hj, g2⟩⟩
    · obtain ⟨K2, g1, g2⟩ := d_mdFail a70 A B N' K' (nI L) (nI pl) (f0_md_wrongAt 1 (nI pl)) n c12 c14 ln s1 s2
      rcases d_exp h (p := pl) (c := 59) hL (by omega) (by omega) fp F with ⟨e1, -⟩ | ⟨-, -, -, -, -, m1, m2, m3, m4⟩
      · exact absurd e1 h6
      · have hm : f_md_orders_72 a70 A B (nI L) c12 c14 (1, N', K', nI pl, F, n, ln, s1, s2) = some (.inl (0, N', K', nI pl, f0_md_wrongAt 1 (nI pl), n, ln, s1, s2)) := by
          dsimp +instances only [f_md_orders_72, b_md_orders_72]
          rw [show decide ((1 : Int32) = 0) = false from rfl, cFf, nI_dle (by omega) (by omega), dF (by omega), cFf, show g_md_takes 59 (nI L) (nI pl) a70 F = true from m1, show w_md_takes 59 (nI L) (nI pl) a70 F = 0 from m2, show f0_md_takes 59 (nI L) (nI pl) a70 F = nI pl from m3, show f1_md_takes 59 (nI L) (nI pl) a70 F = f0_md_wrongAt 1 (nI pl) from m4]
          rfl
        refine ⟨_, _, hcl, (zlp_in hm).trans g1, Or.inr ⟨_, kd', st', lf', at', va', su', tl', gn', wd', _, _, _, _, _, K2, _, _, _, _, _, _, _, _, _, d_neg h1 h2 (by omega), rfl, rfl, fun j hj => (d_copies _ _).1 j hj, g2⟩⟩
  | succ m ih =>
    intro y p kd st lf at_ va su N K tl gn wd fp F9 n0 s0 t0 hy hp hR hK
    obtain ⟨kd', st', lf', at', va', su', tl', gn', wd', f, fp', ps, N', K', ret, ps', F, n, ln, s1, s2, q1, q2, q3⟩ := d_line h hK hR hL hp (show y ≤ 16 by omega) fp F9 n0 s0 t0
    rw [zbd_q q2]
    have bad : f ≠ 0 → (∃ k pl, 1 ≤ k ∧ k ≤ 8 ∧ pl ≤ 1000 ∧ f = nI k ∧ fp' = nI pl ∧ ((ret = 0 ∧ F = f0_md_wrongAt (nI k) (nI pl)) ∨ (k = 1 ∧ ret = 1 ∧ ps' = nI pl ∧ pl < L ∧ sg a1 L pl ≠ 59))) →
        ∃ r r', l_od_read_18 a1 (nI L) (nI y) 1 (nI y) kd st lf at_ va su tl gn wd 0 fp (nI p) = some r ∧ l_md_orders_72 a70 A B (nI L) c12 c14 ret N' K' ps' F n ln s1 s2 = some r' ∧ okOrd A B mn x r r' := by
      rintro hf0 ⟨k, pl, h1, h2, h3, rfl, rfl, h4⟩
      have e := d_signF hf0 ps (nI L) a1
      have hst : f_od_read_18 a1 (nI L) (nI y, 1, nI y, kd, st, lf, at_, va, su, tl, gn, wd, 0, fp, nI p) = some (.inl (nI (y + 1), 0, nI (y + 1), kd', st', lf', at', va', su', tl', gn', wd', nI k, nI pl, ps)) := by
        dsimp +instances only [f_od_read_18, b_od_read_18]
        rw [show (16 : Int32) = nI 16 from rfl, nI_dlt (by omega) (by omega), dF (by omega), cFf, show decide ((1 : Int32) = 0) = false from rfl, cFf, zbd_q q1]
        dsimp +instances only
        rw [e.1, e.2, nI_1]
        rfl
      have hcl : l_od_read_18 a1 (nI L) (nI y) 1 (nI y) kd st lf at_ va su tl gn wd 0 fp (nI p) = some (f0_md_wrongAt (nI k) (nI pl), kd', st', lf', at', va', su', tl', gn', wd', nI L, nI k, nI pl, ps) := by
        show zlp (f_od_read_18 a1 (nI L)) (nI y, 1, nI y, kd, st, lf, at_, va, su, tl, gn, wd, 0, fp, nI p) = _
        rw [zlp_in hst, ← d_ansF hf0 (nI (y + 1))]
        exact d_odOut _ _ _ _ _ _ _ _ _ _ _ _ _ _ _ _
      rcases h4 with ⟨rfl, rfl⟩ | ⟨rfl, rfl, rfl, h5, h6⟩
      · obtain ⟨K2, g1, g2⟩ := d_mdFail a70 A B N' K' (nI L) ps' (f0_md_wrongAt (nI k) (nI pl)) n c12 c14 ln s1 s2
        exact ⟨_, _, hcl, g1, Or.inr ⟨_, kd', st', lf', at', va', su', tl', gn', wd', _, _, _, _, _, K2, _, _, _, _, _, _, _, _, _, d_neg h1 h2 (by omega), rfl, rfl, fun j hj => (d_copies _ _).1 j hj, g2⟩⟩
      · obtain ⟨K2, g1, g2⟩ := d_mdFail a70 A B N' K' (nI L) (nI pl) (f0_md_wrongAt 1 (nI pl)) n c12 c14 ln s1 s2
        rcases d_exp h (p := pl) (c := 59) hL (by omega) (by omega) fp F with ⟨e1, -⟩ | ⟨-, -, -, -, -, m1, m2, m3, m4⟩
        · exact absurd e1 h6
        · have hm : f_md_orders_72 a70 A B (nI L) c12 c14 (1, N', K', nI pl, F, n, ln, s1, s2) = some (.inl (0, N', K', nI pl, f0_md_wrongAt 1 (nI pl), n, ln, s1, s2)) := by
            dsimp +instances only [f_md_orders_72, b_md_orders_72]
            rw [show decide ((1 : Int32) = 0) = false from rfl, cFf, nI_dle (by omega) (by omega), dF (by omega), cFf, show g_md_takes 59 (nI L) (nI pl) a70 F = true from m1, show w_md_takes 59 (nI L) (nI pl) a70 F = 0 from m2, show f0_md_takes 59 (nI L) (nI pl) a70 F = nI pl from m3, show f1_md_takes 59 (nI L) (nI pl) a70 F = f0_md_wrongAt 1 (nI pl) from m4]
            rfl
          refine ⟨_, _, hcl, (zlp_in hm).trans g1, Or.inr ⟨_, kd', st', lf', at', va', su', tl', gn', wd', _, _, _, _, _, K2, _, _, _, _, _, _, _, _, _, d_neg h1 h2 (by omega), rfl, rfl, fun j hj => (d_copies _ _).1 j hj, g2⟩⟩
    rcases q3 with ⟨rfl, rfl, ⟨g1, g2, rfl, g4⟩, p2, g5, rfl, rfl, g6⟩ | ⟨p2, rfl, rfl, rfl, rfl, h1, h2⟩ | ⟨k, pl, h1, h2, h3, rfl, rfl, rfl, rfl⟩
    · have e := d_sign (a := a1) hL (show p2 < 1000000 by omega)
      by_cases hpL : p2 < L
      · have es := g6 hpL
        obtain ⟨r, r', k1, k2, k3⟩ := ih (y + 1) (p2 + 1) kd' st' lf' at' va' su' N' K' tl' gn' wd' fp' F n s1 s2 (by omega) (by omega) g1 g2
        have hst : f_od_read_18 a1 (nI L) (nI y, 1, nI y, kd, st, lf, at_, va, su, tl, gn, wd, 0, fp, nI p) = some (.inl (nI (y + 1), 1, nI (y + 1), kd', st', lf', at', va', su', tl', gn', wd', 0, fp', nI (p2 + 1))) := by
          dsimp +instances only [f_od_read_18, b_od_read_18]
          rw [show (16 : Int32) = nI 16 from rfl, nI_dlt (by omega) (by omega), dF (by omega), cFf, show decide ((1 : Int32) = 0) = false from rfl, cFf, zbd_q q1]
          dsimp +instances only
          rw [e.1, e.2, es, d_skip, nI_1]
          rfl
        refine ⟨r, r', (zlp_in hst).trans k1, ?_, k3⟩
        cases hz : q_md_readsLine N' K' a70 (nI (p2 + 1)) (nI L) F n (nI (y + 1)) s1 s2 with
        | none => rw [hz] at k2; cases k2
        | some v =>
          rw [hz] at k2
          rcases d_exp h (p := p2) (c := 59) hL (by omega) (by omega) fp F with ⟨-, -, -, -, -, -, m1, m2, m3, m4⟩ | ⟨e1, -⟩
          · obtain ⟨kd'', st'', lf'', at'', va'', su'', tl'', gn'', wd'', f'', fp'', ps'', N'', K'', ret, ps3, F3, n3, ln, s3, s4, -, y2, y3⟩ := d_line h g2 g1 hL (show p2 + 1 ≤ L by omega) (show y + 1 ≤ 16 by omega) fp' F n s1 s2
            rw [hz] at y2
            have y2 := Option.some.inj y2
            subst y2
            have hret := okT_ret y3
            have hr01 : ret = 0 ∨ ret = 1 := by
              rw [Bool.or_eq_true, decide_eq_true_eq, decide_eq_true_eq] at hret
              exact hret
            have hm : f_md_orders_72 a70 A B (nI L) c12 c14 (1, N', K', nI p2, F, n, nI (y + 1), s1, s2) = some (.inl (ret, N'', K'', ps3, F3, n3, ln, s3, s4)) := by
              dsimp +instances only [f_md_orders_72, b_md_orders_72]
              rw [show decide ((1 : Int32) = 0) = false from rfl, cFf, nI_dle (by omega) (by omega), dF (by omega), cFf, show g_md_takes 59 (nI L) (nI p2) a70 F = true from m1, show w_md_takes 59 (nI L) (nI p2) a70 F = 1 from m2, show f0_md_takes 59 (nI L) (nI p2) a70 F = nI (p2 + 1) from m3, show f1_md_takes 59 (nI L) (nI p2) a70 F = F from m4]
              dsimp +instances only [zl, zg]
              rw [show decide ((1 : Int32) = 0) = false from rfl, cFf, cTt, zbd_q hz]
              dsimp +instances only
              rcases hr01 with rfl | rfl <;> rfl
            exact (zlp_in hm).trans k2
          · exact absurd es e1
      · have esn : sg a1 L p2 = -1 := by unfold sg; exact if_neg hpL
        have hst : f_od_read_18 a1 (nI L) (nI y, 1, nI y, kd, st, lf, at_, va, su, tl, gn, wd, 0, fp, nI p) = some (.inl (nI (y + 1), 0, nI (y + 1), kd', st', lf', at', va', su', tl', gn', wd', 0, fp', nI p2)) := by
          dsimp +instances only [f_od_read_18, b_od_read_18]
          rw [show (16 : Int32) = nI 16 from rfl, nI_dlt (by omega) (by omega), dF (by omega), cFf, show decide ((1 : Int32) = 0) = false from rfl, cFf, zbd_q q1]
          dsimp +instances only
          rw [e.1, e.2, esn, nI_1]
          rfl
        have hcl : l_od_read_18 a1 (nI L) (nI y) 1 (nI y) kd st lf at_ va su tl gn wd 0 fp (nI p) = some (nI (y + 1), kd', st', lf', at', va', su', tl', gn', wd', nI L, 0, fp', nI p2) := by
          show zlp (f_od_read_18 a1 (nI L)) (nI y, 1, nI y, kd, st, lf, at_, va, su, tl, gn, wd, 0, fp, nI p) = _
          rw [zlp_in hst]
          exact d_odOut _ _ _ _ _ _ _ _ _ _ _ _ _ _ _ _
        have hm : l_md_orders_72 a70 A B (nI L) c12 c14 1 N' K' (nI p2) F n (nI (y + 1)) s1 s2 = some (nI (y + 1), N', A, K', B, 0, nI p2, nI L, F, n, c12, c14, nI (y + 1), s1, s2) := by
          refine zlp_out ?_
          dsimp +instances only [f_md_orders_72, b_md_orders_72]
          rw [show decide ((1 : Int32) = 0) = false from rfl, cFf, nI_dle (by omega) (by omega), dT (show L ≤ p2 by omega), cTt, cFf]
        exact ⟨_, _, hcl, hm, Or.inl ⟨y + 1, kd', st', lf', at', va', su', tl', gn', wd', _, _, _, _, N', K', _, _, _, _, _, _, _, _, _, by omega, rfl, rfl, g1, g2⟩⟩
    · exact bad (by decide) ⟨1, p2, by omega, by omega, by omega, rfl, rfl, Or.inr ⟨rfl, rfl, rfl, h1, h2⟩⟩
    · exact bad (nI_ne0 (by omega) (by omega)) ⟨k, pl, h1, h2, h3, rfl, rfl, Or.inl ⟨rfl, rfl⟩⟩
