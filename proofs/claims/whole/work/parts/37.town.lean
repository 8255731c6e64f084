/-! ===== D: a town ===== -/
theorem d_built (K a3 a4 a5 : Nat → Int32) : ∀ k, k < 96 → a0_sc_buildAnew K a3 a4 a5 k = K k ∧ a1_sc_buildAnew K a3 a4 a5 k = 0 ∧ a2_sc_buildAnew K a3 a4 a5 k = 0 := by
  have h := zfo_inv (f := b_sc_buildAnew K a3 a4 a5) (P := fun m s => m ≤ 96 → ∀ k, k < m → s.1 k = K k ∧ s.2.1 k = 0 ∧ s.2.2 k = 0) 96 0 (a3, a4, a5) (fun _ k hk => by omega) (fun m s _ hm ih hm2 k hk => by
    have ih := ih (by omega)
    show zup s.1 (nI m).toNatClampNeg (K (nI m).toNatClampNeg) k = K k ∧ zup s.2.1 (nI m).toNatClampNeg 0 k = 0 ∧ zup s.2.2 (nI m).toNatClampNeg 0 k = 0
    rw [nI_cl (by omega)]
    by_cases e : k = m
    · subst e; rw [zup_same, zup_same, zup_same]; exact ⟨rfl, rfl, rfl⟩
    · rw [zup_ne e, zup_ne e, zup_ne e]; exact ih k (by omega))
  intro k hk
  exact h (by omega) k (by omega)
theorem d_isWood {c : Nat → Int32} {k : Nat} (hk : k < 96) : w_md_isWood (nI k) c = b01 (decide (c k = 1)) ∧ g_md_isWood (nI k) c = true := by
  have e := (d_in1 (a := 0) (b := 95) (n := k) (by omega) (by omega) (by omega)).1
  unfold w_md_isWood g_md_isWood w_md_isPlace g_md_isPlace
  rw [show w_md_in (nI k) 0 95 = 1 from e, nI_cl (by omega), nI_zin (by omega), dT hk]
  refine ⟨?_, rfl⟩
  cases decide (c k = 1) <;> rfl
theorem d_whole {k : Nat} (hk : k < 96) (N : Nat → Int32) : g_md_becomesWhole (nI k) N = true ∧ a0_md_becomesWhole (nI k) N = zup (zup N k 0) (96 + k) 0 := by
  unfold g_md_becomesWhole a0_md_becomesWhole
  rw [show (0 : Int32) + nI k = nI k from Int32.zero_add _, show (96 : Int32) + nI k = nI (96 + k) from nI_add 96 k, nI_zin (by omega), nI_zin (by omega), nI_cl (by omega), nI_cl (by omega), dT (by omega), dT (by omega)]
  exact ⟨rfl, rfl⟩
theorem d_lays (c N0 K0 v3 : Nat → Int32) (f6 f7 f8 f9 f12 f14 : Int32) (hv : KA 96 v3 c) : ∃ N K, l_md_town_112 c f6 f7 f8 f9 f12 f14 0 0 N0 K0 = some (w_sc_placesOf 1 v3, N, K, c, f6, f7, f8, f9, f12, f14) ∧ KA 96 c K ∧ (∀ k, k < 192 → N k = 0) ∧ (∀ k, 192 ≤ k → N k = N0 k) := by
  obtain ⟨r, h1, N, K, h2, h3⟩ := zlp_one (f := f_md_town_112 c f6 f7 f8 f9 f12 f14) (fun m s => ∃ k N K, k + m = 96 ∧ s = (zfo (b_sc_placesOf 1 v3) k 0 0, nI k, N, K) ∧ (∀ j, j < k → c j = K j ∧ N j = 0 ∧ N (96 + j) = 0) ∧ (∀ j, 192 ≤ j → N j = N0 j)) (fun r => ∃ N K, r = (w_sc_placesOf 1 v3, N, K, c, f6, f7, f8, f9, f12, f14) ∧ (∀ j, j < 96 → c j = K j ∧ N j = 0 ∧ N (96 + j) = 0) ∧ (∀ j, 192 ≤ j → N j = N0 j)) (by
    rintro m s ⟨k, N, K, hk, rfl, g1, g2⟩
    simp only [f_md_town_112, b_md_town_112]
    rw [show (96 : Int32) = nI 96 from rfl]
    by_cases hkn : k = 96
    · right
      subst hkn
      simp (disch := omega) only [nI_dle, dT, cond_true]
      exact ⟨_, rfl, N, K, rfl, g1, g2⟩
    · left
      have e1 := d_whole (k := k) (by omega) N
      have e2 := d_isWood (c := zup K k (c k)) (k := k) (by omega)
      rw [zup_same] at e2
      refine ⟨m - 1, (zfo (b_sc_placesOf 1 v3) (k + 1) 0 0, nI (k + 1), zup (zup N k 0) (96 + k) 0, zup K k (c k)), by omega, ?_, k + 1, _, _, by omega, rfl, fun j hj => ?_, fun j hj => ?_⟩
      · simp (disch := omega) only [nI_dle, dF, cond_false, nI_zin, nI_cl, dT, zg, zl, cond_true, e1, e2, nI_1, b01_0]
        rw [zfo_last, Nat.zero_add]
        unfold b_sc_placesOf
        rw [nI_cl (by omega), hv k (by omega)]
        cases decide (c k = 1) <;> rfl
      · by_cases e : j = k
        · subst e
          rw [zup_same, zup_same, zup_ne (show j ≠ 96 + j by omega), zup_same]
          exact ⟨rfl, rfl, rfl⟩
        · obtain ⟨q1, q2, q3⟩ := g1 j (by omega)
          rw [zup_ne e, zup_ne (show j ≠ 96 + k by omega), zup_ne e, zup_ne (show 96 + j ≠ 96 + k by omega), zup_ne (show 96 + j ≠ k by omega)]
          exact ⟨q1, q2, q3⟩
      · rw [zup_ne (show j ≠ 96 + k by omega), zup_ne (show j ≠ k by omega)]
        exact g2 j hj) 96 (0, 0, N0, K0) ⟨0, N0, K0, by omega, rfl, fun j hj => by omega, fun j _ => rfl⟩
  subst h2
  refine ⟨N, K, h1, fun j hj => (h3.1 j hj).1, fun j hj => ?_, h3.2⟩
  by_cases e : j < 96
  · exact (h3.1 j e).2.1
  · have := (h3.1 (j - 96) (by omega)).2.2
    rw [show 96 + (j - 96) = j by omega] at this
    exact this
def okTown (N0 K0 : Nat → Int32) (r : T_tn_read) (r' : T_md_town) : Prop :=
  (∃ b c N K l1 l2 l3 l4 f7 f8 f9 f12 f14, r = (0, b, l1, l2, l3, l4) ∧ r' = (w_sc_placesOf 1 b, N, K, c, 0, f7, f8, f9, f12, f14) ∧ KA 96 b c ∧ KA 96 b K ∧ (∀ k, k < 192 → N k = 0) ∧ (∀ k, 192 ≤ k → N k = N0 k)) ∨
  (∃ v b c l1 l2 l3 l4 f7 f8 f9 f12 f14, decide (0 ≤ v) = false ∧ r = (v, b, l1, l2, l3, l4) ∧ r' = (v, N0, K0, c, 0, f7, f8, f9, f12, f14))
theorem d_neg {k : Nat} (h1 : 1 ≤ k) (h2 : k ≤ 8) {p : Nat} (hp : p < 100000) : decide (0 ≤ f0_md_wrongAt (nI k) (nI p)) = false := by
  unfold f0_md_wrongAt
  refine dF (fun h => ?_)
  rw [Int32.le_iff_toInt_le] at h
  have e1 : ((-1000) * nI k - nI p) = -(nI (1000 * k + p)) := by
    rw [show (-1000 : Int32) = -nI 1000 from rfl, Int32.neg_mul, pk_mul, ← Int32.neg_add, nI_add]
  rw [e1, sb_negT (by omega)] at h
  have : (0 : Int32).toInt = 0 := rfl
  omega
/-- behind the last row -/
theorem d_tnOut (a1 b : Nat → Int32) (L y f p ps : Int32) : l_tn_read_35 a1 L 0 y b f p ps = some (w_tx_answerOr 0 f p, b, L, f, p, ps) := by
  refine zlp_out ?_
  simp only [f_tn_read_35, b_tn_read_35, show decide ((0 : Int32) = 0) = true from rfl, cond_true, zl]
  cases decide (8 < y) <;> rfl
theorem d_tnFault {a1 a70 : Nat → Int32} {L y p : Nat} {N0 K0 b c : Nat → Int32} {F9 f12 f14 fp : Int32} {b' c' : Nat → Int32} {k pl : Nat} {ps ps' : Int32} (q1 : q_tn_readRow (nI y) a1 b (nI L) 0 fp (nI p) = some (b', nI k, nI pl, ps)) (q2 : q_md_readsRow (nI y) a70 c (nI p) (nI L) F9 = some (0, c', ps', f0_md_wrongAt (nI k) (nI pl))) (hk1 : 1 ≤ k) (hk2 : k ≤ 8) (hpl : pl ≤ 1000) (hy : y ≤ 8) :
    ∃ r r', l_tn_read_35 a1 (nI L) 1 (nI y) b 0 fp (nI p) = some r ∧ zbd (q_md_readsRow (nI y) a70 c (nI p) (nI L) F9) (fun v => l_md_town_54 a70 N0 K0 (nI L) f12 f14 (nI (y + 1)) v.1 v.2.1 v.2.2.1 v.2.2.2) = some r' ∧ okTown N0 K0 r r' := by
  have hk0 : nI k ≠ 0 := nI_ne0 (by omega) (by omega)
  have e := d_signF hk0 ps (nI L) a1
  have st : f_tn_read_35 a1 (nI L) (1, nI y, b, 0, fp, nI p) = some (.inl (0, nI (y + 1), b', nI k, nI pl, ps)) := by
    simp only [f_tn_read_35, b_tn_read_35]
    rw [show (8 : Int32) = nI 8 from rfl, nI_dlt (by omega) (by omega), dF (by omega)]
    simp only [cond_false, show decide ((1 : Int32) = 0) = false from rfl, q1, zbd, zl, zg, e, cond_true, show decide ((-1 : Int32) = 47) = false from rfl, Bool.not_false, nI_1]
  have ea : w_tx_answerOr 0 (nI k) (nI pl) = f0_md_wrongAt (nI k) (nI pl) := by
    unfold w_tx_answerOr f0_md_wrongAt
    rw [dF hk0]
    rfl
  refine ⟨_, _, ?_, ?_, Or.inr ⟨f0_md_wrongAt (nI k) (nI pl), b', c', nI L, nI k, nI pl, ps, ps', nI L, f0_md_wrongAt (nI k) (nI pl), f12, f14, d_neg hk1 hk2 (by omega), rfl, rfl⟩⟩
  · show zlp (f_tn_read_35 a1 (nI L)) (1, nI y, b, 0, fp, nI p) = _
    rw [zlp_in st, ← ea]
    exact d_tnOut _ _ _ _ _ _ _
  · rw [q2]
    exact zlp_out rfl
theorem d_tnRows {a1 a70 : Nat → Int32} (h : RT a1 a70) {L : Nat} (hL : L ≤ 260) (N0 K0 : Nat → Int32) (F9 f12 f14 fp : Int32) : ∀ (n y p : Nat) (b c : Nat → Int32), n + y = 8 → p ≤ L → KA 96 b c →
    ∃ r r', l_tn_read_35 a1 (nI L) 1 (nI y) b 0 fp (nI p) = some r ∧ zbd (q_md_readsRow (nI y) a70 c (nI p) (nI L) F9) (fun v => l_md_town_54 a70 N0 K0 (nI L) f12 f14 (nI (y + 1)) v.1 v.2.1 v.2.2.1 v.2.2.2) = some r' ∧ okTown N0 K0 r r' := by
  intro n
  induction n with
  | zero =>
    intro y p b c hy hp hb
    obtain ⟨r, r', q1, q2, q3, q4⟩ := d_rows h (y := y) hL hp (by omega) fp F9 hb
    rcases q3 with ⟨b', c', p', rfl, rfl, -⟩ | ⟨b', k, pl, ps, c', ps', rfl, hk1, hk2, hpl, rfl⟩
    · exact absurd (show (1 : Int32) = 0 from q4 (by omega)) (by decide)
    · exact d_tnFault q1 q2 hk1 hk2 hpl (by omega)
  | succ n ih =>
    intro y p b c hy hp hb
    obtain ⟨r, r', q1, q2, q3, -⟩ := d_rows h (y := y) hL hp (by omega) fp F9 hb
    rcases q3 with ⟨b', c', p', rfl, rfl, hb', hp', hsl⟩ | ⟨b', k, pl, ps, c', ps', rfl, hk1, hk2, hpl, rfl⟩
    · have e := d_sign (a := a1) hL (show p' < 1000000 by omega)
      by_cases hpL : p' < L
      · have es := hsl hpL
        obtain ⟨r, r', g1, g2, g3⟩ := ih (y + 1) (p' + 1) b' c' (by omega) (by omega) hb'
        have st : f_tn_read_35 a1 (nI L) (1, nI y, b, 0, fp, nI p) = some (.inl (1, nI (y + 1), b', 0, fp, nI (p' + 1))) := by
          simp only [f_tn_read_35, b_tn_read_35]
          rw [show (8 : Int32) = nI 8 from rfl, nI_dlt (by omega) (by omega), dF (by omega)]
          simp only [cond_false, show decide ((1 : Int32) = 0) = false from rfl, q1, zbd, zl, zg, e, es, cond_true, show decide ((47 : Int32) = 47) = true from rfl, decide_true, Bool.not_true, d_skip, nI_1]
        have st2 : zlp (f_md_town_54 a70 N0 K0 (nI L) f12 f14) (nI (y + 1), 1, c', nI p', F9) = some r' := by
          cases hz : q_md_readsRow (nI (y + 1)) a70 c' (nI (p' + 1)) (nI L) F9 with
          | none => rw [hz] at g2; cases g2
          | some v =>
            rw [hz] at g2
            have e3 : f_md_town_54 a70 N0 K0 (nI L) f12 f14 (nI (y + 1), 1, c', nI p', F9) = some (.inl (nI (y + 1 + 1), v.1, v.2.1, v.2.2.1, v.2.2.2)) := by
              simp only [f_md_town_54, b_md_town_54]
              rw [nI_dle (by omega) (by omega), dF (show ¬ L ≤ p' by omega)]
              simp only [cond_false, show decide ((1 : Int32) = 0) = false from rfl, nI_1, hz, zbd]
            rw [zlp_in e3]
            exact g2
        refine ⟨r, r', ?_, ?_, g3⟩
        · show zlp (f_tn_read_35 a1 (nI L)) (1, nI y, b, 0, fp, nI p) = _
          rw [zlp_in st]
          exact g1
        · rw [q2]
          exact st2
      · obtain ⟨N, K, g1, g2, g3, g4⟩ := d_lays c' N0 K0 b' 0 (nI p') (nI L) F9 f12 f14 hb'
        have esn : decide (sg a1 L p' = 47) = false := by unfold sg; rw [if_neg hpL]; rfl
        have st : f_tn_read_35 a1 (nI L) (1, nI y, b, 0, fp, nI p) = some (.inl (0, nI (y + 1), b', 0, fp, nI p')) := by
          simp only [f_tn_read_35, b_tn_read_35]
          rw [show (8 : Int32) = nI 8 from rfl, nI_dlt (by omega) (by omega), dF (by omega)]
          simp only [cond_false, show decide ((1 : Int32) = 0) = false from rfl, q1, zbd, zl, zg, e, esn, cond_true, Bool.not_false, nI_1]
        refine ⟨_, _, ?_, ?_, Or.inl ⟨b', c', N, K, nI L, 0, fp, nI p', nI p', nI L, F9, f12, f14, rfl, rfl, hb', fun k hk => (hb' k hk).trans (g2 k hk), g3, g4⟩⟩
        · show zlp (f_tn_read_35 a1 (nI L)) (1, nI y, b, 0, fp, nI p) = _
          rw [zlp_in st]
          exact d_tnOut _ _ _ _ _ _ _
        · rw [q2]
          refine zlp_out ?_
          simp only [f_md_town_54, b_md_town_54]
          rw [nI_dle (by omega) (by omega), dT (show L ≤ p' by omega)]
          simp only [cond_false, cond_true, show decide ((1 : Int32) = 0) = false from rfl, Bool.not_false, g1, zbd]
    · exact d_tnFault q1 q2 hk1 hk2 hpl (by omega)
theorem d_town {a1 a70 : Nat → Int32} (h : RT a1 a70) (x : Int32) {t : Nat} (ht : t ≤ 260) (a3 a4 a5 b0 N0 K0 c0 : Nat → Int32) (l1 l2 l3 l4 f7 f8 f9 f12 f14 : Int32) :
    ∃ r r', q_if_town x a1 a3 a4 a5 b0 (nI t) l1 l2 l3 l4 = some r ∧ q_md_town x N0 K0 a70 c0 (nI t) f7 f8 f9 f12 f14 = some r' ∧ r.1 = r'.1 ∧ r.2.2.2.2.2.1 = r'.2.2.2.2.1 ∧ (r.2.2.2.2.2.1 = nI t ∨ r.2.2.2.2.2.1 = 0) ∧
      ((r.2.1 = a3 ∧ r.2.2.1 = a4 ∧ r.2.2.2.1 = a5 ∧ r'.2.1 = N0 ∧ r'.2.2.1 = K0) ∨ (KA 96 r.2.1 r'.2.2.1 ∧ (∀ k, k < 96 → r.2.2.1 k = 0 ∧ r.2.2.2.1 k = 0) ∧ (∀ k, k < 192 → r'.2.1 k = 0) ∧ (∀ k, 192 ≤ k → r'.2.1 k = N0 k))) := by
  unfold q_if_town q_md_town
  rcases d_canTake x (a := 1) (b := 120) (by omega) (by omega) ht with ⟨e1, e2⟩ | ⟨e1, e2, L, rfl, hL1, hL2, hLt⟩
  · rw [show w_if_canTake x 1 120 (nI t) = 0 from e1]
    refine ⟨_, (-1, N0, K0, c0, nI t, f7, f8, f9, f12, f14), rfl, ?_, rfl, rfl, Or.inl rfl, Or.inl ⟨rfl, rfl, rfl, rfl, rfl⟩⟩
    rcases e2 with e2 | ⟨e2, e3⟩
    · rw [show w_md_in x 1 120 = 0 from e2]; rfl
    · rw [show w_md_in x 1 120 = 1 from e2, e3]; rfl
  · rw [show w_if_canTake (nI L) 1 120 (nI t) = 1 from e1, show w_md_in (nI L) 1 120 = 1 from e2, nI_dle (by omega) (by omega), dT hLt]
    simp only [zl, cond_true, show decide ((1 : Int32) = 0) = false from rfl, Bool.not_false, cond_false]
    have eb : f0_tx_begin (nI L) = nI L := by
      unfold f0_tx_begin
      exact if_neg (by show ¬ nI 260 < nI L; exact nI_nlt (by omega) (by omega))
    have key : ∃ r r', q_tn_read (nI L) a1 b0 = some r ∧ l_md_town_27 a70 N0 K0 (f0_md_beginsText (nI L)) (f1_md_beginsText (nI L)) f9 (f2_md_beginsText (nI L)) (f3_md_beginsText (nI L)) 0 c0 = some r' ∧ okTown N0 K0 r r' := by
      unfold q_tn_read
      simp only [zl, eb]
      refine zlp_relx (f := f_tn_read_11 a1 (nI L) 0 0 0) (g := f_md_town_27 a70 N0 K0 0 (nI L) f9 0 0) (fun m s t => ∃ k b c, k + m = 96 ∧ s = (nI k, b) ∧ t = (nI k, c) ∧ KA k b c) (okTown N0 K0) ?_ 96 (0, b0) (0, c0) ⟨0, b0, c0, by omega, rfl, rfl, fun k hk => by omega⟩
      rintro m s t ⟨k, b, c, hk, rfl, rfl, hb⟩
      by_cases hkn : k = 96
      · right
        subst hkn
        obtain ⟨r, r', g1, g2, g3⟩ := d_tnRows h (L := L) (by omega) N0 K0 f9 0 0 0 8 0 0 b c rfl (by omega) hb
        refine ⟨r, r', zlp_out ?_, zlp_out ?_, g3⟩
        · simp only [f_tn_read_11, b_tn_read_11]
          rw [show l_tn_read_35 a1 (nI L) 1 0 b 0 0 0 = some r from g1]
          rfl
        · simp only [f_md_town_27, b_md_town_27]
          cases hz : q_md_readsRow (nI 0) a70 c (nI 0) (nI L) f9 with
          | none => rw [hz] at g2; cases g2
          | some v =>
            rw [hz] at g2
            rw [show q_md_readsRow 0 a70 c 0 (nI L) f9 = some v from hz]
            have g2 : l_md_town_54 a70 N0 K0 (nI L) 0 0 1 v.1 v.2.1 v.2.2.1 v.2.2.2 = some r' := g2
            simp only [zbd, g2]
            rfl
      · left
        refine ⟨m - 1, (nI (k + 1), zup b k 0), (nI (k + 1), zup c k 0), by omega, ?_, ?_, k + 1, _, _, by omega, rfl, rfl, fun j hj => ?_⟩
        · simp only [f_tn_read_11, b_tn_read_11]
          rw [show (96 : Int32) = nI 96 from rfl]
          simp (disch := omega) only [nI_dle, dF, cond_false, nI_zin, nI_cl, dT, zg, cond_true, nI_1]
        · simp only [f_md_town_27, b_md_town_27]
          rw [show (96 : Int32) = nI 96 from rfl]
          simp (disch := omega) only [nI_dle, dF, cond_false, nI_zin, nI_cl, dT, zg, cond_true, nI_1]
        · by_cases q : j = k
          · subst q; rw [zup_same, zup_same]
          · rw [zup_ne q, zup_ne q]; exact hb j (by omega)
    obtain ⟨r, r', g1, g2, g3⟩ := key
    rw [g1, g2]
    rcases g3 with ⟨b, c, N, K, q1, q2, q3, q4, p7, p8, p9, p12, p14, rfl, rfl, hb, hK, hN1, hN2⟩ | ⟨v, b, c, q1, q2, q3, q4, p7, p8, p9, p12, p14, hv, rfl, rfl⟩
    · have hbu := d_built b a3 a4 a5
      have ep : w_sc_placesOf 1 (a0_sc_buildAnew b a3 a4 a5) = w_sc_placesOf 1 b := by
        unfold w_sc_placesOf
        refine zfo_congr 96 0 0 (fun k s _ hk => ?_)
        unfold b_sc_placesOf
        rw [nI_cl (by omega), (hbu k (by omega)).1]
      refine ⟨_, _, rfl, rfl, ep, rfl, Or.inr rfl, Or.inr ⟨fun k hk => ((hbu k hk).1).trans (hK k hk), fun k hk => (hbu k hk).2, hN1, hN2⟩⟩
    · simp only [zbd, hv, cond_false]
      exact ⟨_, _, rfl, rfl, rfl, rfl, Or.inr rfl, Or.inl ⟨rfl, rfl, rfl, rfl, rfl⟩⟩
