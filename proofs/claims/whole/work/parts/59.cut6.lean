/-! ===== D: breaks: the way that was found; the class lays it ===== -/
section dcut6
variable {fr to : Nat} {kd T A ah be K : Nat → Int32}
/-- a way from its end (0) to its beginning (m) -/
def PW (kd T A : Nat → Int32) (fr to m : Nat) (c : Nat → Nat) : Prop := c 0 = to ∧ c m = 96 + fr ∧ m ≤ 191 ∧ (∀ i, i ≤ m → c i < 192) ∧ (∀ i, i < m → c i ∈ cN kd T A (c (i + 1))) ∧ (∀ i j, i ≤ m → j ≤ m → c i = c j → i = j)
theorem d_chain {s : aS} (hG : aG s) {ix : Nat → Nat} (h : BI kd T A (96 + fr) s ix) : ∀ (N v : Nat), ix v ≤ N → v < 192 → s.1 v ≠ -1 → ∃ (m : Nat) (c : Nat → Nat), c 0 = v ∧ c m = 96 + fr ∧ (∀ i, i ≤ m → c i < 192 ∧ ix (c i) + i ≤ ix v) ∧ (∀ i, i < m → s.1 (c i) = nI (c (i + 1)) ∧ c i ∈ cN kd T A (c (i + 1)) ∧ ix (c (i + 1)) < ix (c i)) := by
  intro N
  induction N with
  | zero =>
    intro v hN hv hs
    obtain ⟨-, -, p3⟩ := h v hv hs
    rcases p3 with rfl | ⟨u, q1, q2, q3, q4, q5⟩
    · exact ⟨0, fun _ => 96 + fr, rfl, rfl, fun i hi => ⟨hv, by show ix (96 + fr) + i ≤ ix (96 + fr); omega⟩, fun i hi => by omega⟩
    · omega
  | succ N ih =>
    intro v hN hv hs
    obtain ⟨-, -, p3⟩ := h v hv hs
    rcases p3 with rfl | ⟨u, q1, q2, q3, q4, q5⟩
    · exact ⟨0, fun _ => 96 + fr, rfl, rfl, fun i hi => ⟨hv, by show ix (96 + fr) + i ≤ ix (96 + fr); omega⟩, fun i hi => by omega⟩
    · obtain ⟨m, c, g1, g2, g3, g4⟩ := ih u (by omega) q1 q3
      refine ⟨m + 1, fun i => match i with
        | 0 => v
        | i + 1 => c i, rfl, g2, fun i hi => ?_, fun i hi => ?_⟩
      · cases i with
        | zero => exact ⟨hv, Nat.le_refl _⟩
        | succ i =>
          obtain ⟨r1, r2⟩ := g3 i (by omega)
          exact ⟨r1, by show ix (c i) + (i + 1) ≤ ix v; omega⟩
      · cases i with
        | zero =>
          show s.1 v = nI (c 0) ∧ v ∈ cN kd T A (c 0) ∧ ix (c 0) < ix v
          rw [g1]
          exact ⟨q2, q5, q4⟩
        | succ i => exact g4 i (by omega)
theorem d_way1 {s : aS} (hG : aG s) {ix : Nat → Nat} (h : BI kd T A (96 + fr) s ix) (hto : to < 96) (hs : s.1 to ≠ -1) : ∃ m c, PW kd T A fr to m c ∧ (∀ i, i < m → s.1 (c i) = nI (c (i + 1))) := by
  obtain ⟨m, c, g1, g2, g3, g4⟩ := d_chain hG h (ix to) to (Nat.le_refl _) (by omega) hs
  have hix := (h to (by omega) hs).1
  have hle := aG_le hG
  have hmono : ∀ j i, i + j ≤ m → ix (c (i + j)) + j ≤ ix (c i) := by
    intro j
    induction j with
    | zero => intro i _; exact Nat.le_refl _
    | succ j ih =>
      intro i hi
      have h1 := ih i (by omega)
      have h2 := (g4 (i + j) (by omega)).2.2
      have e : i + (j + 1) = i + j + 1 := by omega
      rw [e]
      omega
  refine ⟨m, c, ⟨g1, g2, ?_, fun i hi => (g3 i hi).1, fun i hi => (g4 i hi).2.1, fun i j hi hj e => ?_⟩, fun i hi => (g4 i hi).1⟩
  · have := (g3 m (Nat.le_refl _)).2
    omega
  · rcases Nat.lt_trichotomy i j with q | q | q
    · have := hmono (j - i) i (by omega)
      rw [show i + (j - i) = j by omega, ← e] at this
      omega
    · exact q
    · have := hmono (i - j) j (by omega)
      rw [show j + (i - j) = i by omega, e] at this
      omega
/-- steps of a way: an arc is laid, taken off; a place is gone through, no more so -/
def pA (m : Nat) (c : Nat → Nat) (j p q : Nat) : Prop := ∃ i, j ≤ i ∧ i < m ∧ c (i + 1) = 96 + p ∧ c i = q ∧ p ≠ q
def pR (m : Nat) (c : Nat → Nat) (j p q : Nat) : Prop := ∃ i, j ≤ i ∧ i < m ∧ c (i + 1) = q ∧ c i = 96 + p ∧ p ≠ q
theorem d_mark {p w : Nat} (hp : p < 96) (hw : w < 4) (hn : nb p w ≠ 200) (z : Int32) (b : Nat → Int32) : q_cu_mark (nI p) (nI (nb p w)) z b = some (zup b (4 * p + w) (z &&& 1)) := by
  have hq := nb_lt hp hn
  obtain ⟨r, h1, rfl⟩ := zlp_one (f := f_cu_mark_3 (nI p) (nI (nb p w)) z) (fun m t => ∃ k, k + m = 4 ∧ t = (nI k, if w < k then zup b (4 * p + w) (z &&& 1) else b)) (fun r => r = zup b (4 * p + w) (z &&& 1)) (by
    rintro m t ⟨k, hk, rfl⟩
    dsimp +instances only [f_cu_mark_3, b_cu_mark_3]
    by_cases hk4 : k = 4
    · right
      subst hk4
      rw [show decide ((4 : Int32) ≤ nI 4) = true from rfl, cTt, if_pos hw]
      exact ⟨_, rfl, rfl⟩
    · left
      have e4 : decide ((4 : Int32) ≤ nI k) = false := by rw [show (4 : Int32) = nI 4 from rfl, nI_dle (by omega) (by omega)]; exact dF (by omega)
      refine ⟨m - 1, (nI (k + 1), if w < k + 1 then zup b (4 * p + w) (z &&& 1) else b), by omega, ?_, k + 1, by omega, rfl⟩
      rw [e4, cFf, (d_next p hp k (by omega)).1, nI_1]
      dsimp +instances only [zl]
      by_cases e : k = w
      · subst e
        have en : nbI p k = nI (nb p k) := by unfold nbI; rw [if_neg hn]
        rw [en, dT (rfl : nI (nb p k) = nI (nb p k)), if_neg (by omega), if_pos (by omega), show (4 : Int32) * nI p + nI k = nI (4 * p + k) from by rw [show (4 : Int32) = nI 4 from rfl, pk_mul, nI_add], nI_zin (by omega), dT (show 4 * p + k < 384 by omega), nI_cl (by omega)]
        rfl
      · have en : ¬ nbI p k = nI (nb p w) := by
          rcases nbI_cases (w := k) hp with ⟨q, -⟩ | ⟨q, q2⟩
          · rw [q]; exact fun z => nI_nem1 (by omega) z.symm
          · rw [q]
            exact fun z => e (nb_inj p hp w hw k (by omega) hn ((nI_eq (by omega) (by omega)).mp z).symm).symm
        rw [dF en]
        by_cases q : w < k
        · rw [if_pos q, if_pos (by omega)]; rfl
        · rw [if_neg q, if_neg (by omega)]; rfl) 4 (0, b) ⟨0, by omega, rfl⟩
  exact h1
theorem mod96 {v : Nat} (hv : v < 192) : nI v - nI v / 96 * 96 = nI (if v < 96 then v else v - 96) := by
  have := pk_rem (a := v) (d := 96) (by omega) (by omega) (by omega)
  have e : v % 96 = if v < 96 then v else v - 96 := by split <;> omega
  rw [e] at this
  exact this
/-- what the class has behind the steps up to j -/
def CU (T A : Nat → Int32) (m : Nat) (c : Nat → Nat) (j : Nat) (T' A' : Nat → Int32) : Prop :=
  (∀ p w, p < 96 → w < 4 → ((∃ i, i < j ∧ c (i + 1) = 96 + p ∧ c i = nb p w ∧ nb p w ≠ 200) → A' (4 * p + w) = 1) ∧ ((∃ i, i < j ∧ c (i + 1) = nb p w ∧ c i = 96 + p ∧ nb p w ≠ 200) → A' (4 * p + w) = 0) ∧ ((¬ ∃ i, i < j ∧ c (i + 1) = 96 + p ∧ c i = nb p w ∧ nb p w ≠ 200) → (¬ ∃ i, i < j ∧ c (i + 1) = nb p w ∧ c i = 96 + p ∧ nb p w ≠ 200) → A' (4 * p + w) = A (4 * p + w))) ∧
  (∀ p, p < 96 → ((∃ i, i < j ∧ c (i + 1) = p ∧ c i = 96 + p) → T' p = 1) ∧ ((∃ i, i < j ∧ c (i + 1) = 96 + p ∧ c i = p) → T' p = 0) ∧ ((¬ ∃ i, i < j ∧ c (i + 1) = p ∧ c i = 96 + p) → (¬ ∃ i, i < j ∧ c (i + 1) = 96 + p ∧ c i = p) → T' p = T p))
/-- what a step of a way is -/
theorem PW_step {m : Nat} {c : Nat → Nat} (hP : PW kd T A fr to m c) {i : Nat} (hi : i < m) :
    (∃ p, p < 96 ∧ c (i + 1) = p ∧ c i = 96 + p ∧ T p = 0) ∨ (∃ p w, p < 96 ∧ w < 4 ∧ nb p w ≠ 200 ∧ c (i + 1) = nb p w ∧ c i = 96 + p ∧ ¬ A (4 * p + w) = 0) ∨
    (∃ p, p < 96 ∧ c (i + 1) = 96 + p ∧ c i = p ∧ ¬ T p = 0) ∨ (∃ p w, p < 96 ∧ w < 4 ∧ nb p w ≠ 200 ∧ c (i + 1) = 96 + p ∧ c i = nb p w ∧ kd (nb p w) = 1 ∧ A (4 * p + w) = 0) := by
  have hm := hP.2.2.2.2.1 i hi
  have hu := hP.2.2.2.1 (i + 1) (by omega)
  by_cases h96 : c (i + 1) < 96
  · rw [cN_in h96] at hm
    rcases cI_mem h96 hm with ⟨r1, r2⟩ | ⟨w, r1, r2, r3, r4⟩
    · exact Or.inl ⟨_, h96, rfl, r1, r2⟩
    · have ho := nb_opp _ h96 w r1 r2
      refine Or.inr (Or.inl ⟨nb (c (i + 1)) w, nbo w, nb_lt h96 r2, ho.2, by omega, ho.1.symm, r3, r4⟩)
  · obtain ⟨p, hp⟩ : ∃ p, c (i + 1) = 96 + p := ⟨c (i + 1) - 96, by omega⟩
    rw [hp, cN_out] at hm
    rcases cO_mem (show p < 96 by omega) hm with ⟨r1, r2⟩ | ⟨w, r1, r2, r3, r4, r5⟩
    · exact Or.inr (Or.inr (Or.inl ⟨p, by omega, hp, r1, r2⟩))
    · rw [r3] at r4
      exact Or.inr (Or.inr (Or.inr ⟨p, w, by omega, r1, r2, hp, r3, r4, r5⟩))
theorem arc_eq {p w p' w' : Nat} (hp : p < 96) (hw : w < 4) (hw' : w' < 4) (h : 4 * p + w = 4 * p' + w') : p = p' ∧ w = w' := by omega
theorem d_takeWay {m : Nat} {c : Nat → Nat} (hP : PW kd T A fr to m c) (hfr : fr < 96) {cf : Nat → Int32} (hc : ∀ i, i < m → cf (c i) = nI (c (i + 1))) :
    ∃ T' A', q_cu_takeWay (nI fr) (nI to) T A cf = some (T', A') ∧ CU T A m c m T' A' := by
  obtain ⟨c0, cm, hm191, clt, cst, cinj⟩ := id hP
  obtain ⟨r, h1, T', A', rfl, h2⟩ := zlp_one (f := f_cu_takeWay_5 (nI fr) cf) (fun n t => ∃ j T' A', j + n = m ∧ t = (nI (c j), nI j, T', A') ∧ CU T A m c j T' A') (fun r => ∃ T' A', r = (T', A') ∧ CU T A m c m T' A') (by
    rintro n t ⟨j, T', A', hj, rfl, hU⟩
    have hcj := clt j (by omega)
    dsimp +instances only [f_cu_takeWay_5, b_cu_takeWay_5]
    rw [show (192 : Int32) = nI 192 from rfl, nI_dle (by omega) (by omega), dF (show ¬ 192 ≤ j by omega), cFf, show (96 : Int32) + nI fr = nI (96 + fr) from nI_add 96 fr, nI_deq (by omega) (by omega)]
    by_cases hjm : j = m
    · right
      subst hjm
      rw [dT cm]
      exact ⟨_, rfl, T', A', rfl, hU⟩
    · left
      have hne : ¬ c j = 96 + fr := fun e => hjm (cinj j m (by omega) (by omega) (by rw [e, cm]))
      have hcj1 := clt (j + 1) (by omega)
      rw [dF hne, cFf, nI_zin (by omega), dT (show c j < 192 by omega), nI_cl (by omega), hc j (by omega), nI_nn (by omega), show (96 : Int32) = nI 96 from rfl, nI_dlt (by omega) (by omega)]
      rw [show nI (c (j + 1)) - nI (c (j + 1)) / nI 96 * nI 96 = _ from mod96 hcj1, show nI (c j) - nI (c j) / nI 96 * nI 96 = _ from mod96 hcj, nI_1]
      dsimp +instances only [zg]
      rw [cTt, cTt]
      rcases PW_step hP (show j < m by omega) with ⟨p, hp, e1, e2, e3⟩ | ⟨p, w, hp, hw, hn, e1, e2, e3⟩ | ⟨p, hp, e1, e2, e3⟩ | ⟨p, w, hp, hw, hn, e1, e2, e4, e3⟩
      · -- a place is gone through
        rw [e1, e2, if_pos hp, if_neg (show ¬ 96 + p < 96 by omega), show 96 + p - 96 = p by omega, dT hp, dT (rfl : nI p = nI p), nI_zin (by omega), dT hp, nI_cl (by omega), show (1 : Int32) &&& 1 = 1 from rfl]
        refine ⟨n - 1, (nI p, nI (j + 1), zup T' p 1, A'), by omega, rfl, j + 1, zup T' p 1, A', by omega, by rw [e1], fun q w hq hw => ⟨?_, ?_, ?_⟩, fun q hq => ⟨?_, ?_, ?_⟩⟩
        · rintro ⟨i, hi, a1, a2, a3⟩
          refine (hU.1 q w hq hw).1 ⟨i, ?_, a1, a2, a3⟩
          rcases Nat.lt_or_ge i j with z | z
          · exact z
          · have : i = j := by omega
            subst this; omega
        · rintro ⟨i, hi, a1, a2, a3⟩
          refine (hU.1 q w hq hw).2.1 ⟨i, ?_, a1, a2, a3⟩
          rcases Nat.lt_or_ge i j with z | z
          · exact z
          · have : i = j := by omega
            subst this
            have : p = q := by omega
            subst this
            exact absurd (a1.symm.trans e1) (nb_ne p hp w hw)
        · exact fun a1 a2 => (hU.1 q w hq hw).2.2 (fun ⟨i, z1, z2⟩ => a1 ⟨i, by omega, z2⟩) (fun ⟨i, z1, z2⟩ => a2 ⟨i, by omega, z2⟩)
        · rintro ⟨i, hi, a1, a2⟩
          by_cases e : q = p
          · subst e; exact zup_same
          · rw [zup_ne e]
            refine (hU.2 q hq).1 ⟨i, ?_, a1, a2⟩
            rcases Nat.lt_or_ge i j with z | z
            · exact z
            · have : i = j := by omega
              subst this; omega
        · rintro ⟨i, hi, a1, a2⟩
          have hij : i ≠ j := fun z => by subst z; omega
          by_cases e : q = p
          · subst e
            rcases PW_step hP (show i < m by omega) with ⟨p', hp', f1, f2, f3⟩ | ⟨p', w', hp', hw', hn', f1, f2, f3⟩ | ⟨p', hp', f1, f2, f3⟩ | ⟨p', w', hp', hw', hn', f1, f2, f4, f3⟩
            · omega
            · omega
            · have : p' = q := by omega
              subst this; exact absurd e3 f3
            · have : p' = q := by omega
              subst this
              exact absurd (f2.symm.trans a2) (nb_ne p' hp' w' hw')
          · rw [zup_ne e]
            exact (hU.2 q hq).2.1 ⟨i, by omega, a1, a2⟩
        · intro a1 a2
          have e : q ≠ p := fun z => by subst z; exact a1 ⟨j, by omega, e1, e2⟩
          rw [zup_ne e]
          exact (hU.2 q hq).2.2 (fun ⟨i, z1, z2⟩ => a1 ⟨i, by omega, z2⟩) (fun ⟨i, z1, z2⟩ => a2 ⟨i, by omega, z2⟩)
      · -- an arc is taken off
        have hq := nb_lt hp hn
        have hnp : ¬ nI (nb p w) = nI p := fun z => nb_ne p hp w hw ((nI_eq (by omega) (by omega)).mp z)
        rw [e1, e2, if_pos hq, if_neg (show ¬ 96 + p < 96 by omega), show 96 + p - 96 = p by omega, dT hq, dF hnp, d_mark hp hw hn, show (0 : Int32) &&& 1 = 0 from rfl]
        refine ⟨n - 1, (nI (nb p w), nI (j + 1), T', zup A' (4 * p + w) 0), by omega, rfl, j + 1, T', zup A' (4 * p + w) 0, by omega, by rw [e1], fun q v hq hv => ⟨?_, ?_, ?_⟩, fun q hq => ⟨?_, ?_, ?_⟩⟩
        · rintro ⟨i, hi, a1, a2, a3⟩
          have hij : i ≠ j := fun z => by subst z; omega
          by_cases e : 4 * q + v = 4 * p + w
          · obtain ⟨rfl, rfl⟩ := arc_eq hq hv hw e
            exfalso
            rcases PW_step hP (show i < m by omega) with ⟨p', hp', f1, f2, f3⟩ | ⟨p', w', hp', hw', hn', f1, f2, f3⟩ | ⟨p', hp', f1, f2, f3⟩ | ⟨p', w', hp', hw', hn', f1, f2, f4, f3⟩
            · omega
            · omega
            · have : p' = q := by omega
              subst this
              exact absurd (a2.symm.trans f2) (nb_ne p' hp' v hv)
            · have : p' = q := by omega
              subst this
              have := nb_inj p' hp' v hv w' hw' hn (a2.symm.trans f2)
              subst this
              exact e3 f3
          · rw [zup_ne e]
            exact (hU.1 q v hq hv).1 ⟨i, by omega, a1, a2, a3⟩
        · rintro ⟨i, hi, a1, a2, a3⟩
          by_cases e : 4 * q + v = 4 * p + w
          · rw [e]; exact zup_same
          · rw [zup_ne e]
            refine (hU.1 q v hq hv).2.1 ⟨i, ?_, a1, a2, a3⟩
            rcases Nat.lt_or_ge i j with z | z
            · exact z
            · have : i = j := by omega
              subst this
              have : q = p := by omega
              subst this
              have := nb_inj q hp w hw v hv hn (e1.symm.trans a1)
              omega
        · intro a1 a2
          have e : 4 * q + v ≠ 4 * p + w := fun z => by
            obtain ⟨rfl, rfl⟩ := arc_eq hq hv hw z
            exact a2 ⟨j, by omega, e1, e2, hn⟩
          rw [zup_ne e]
          exact (hU.1 q v hq hv).2.2 (fun ⟨i, z1, z2⟩ => a1 ⟨i, by omega, z2⟩) (fun ⟨i, z1, z2⟩ => a2 ⟨i, by omega, z2⟩)
        · rintro ⟨i, hi, a1, a2⟩
          refine (hU.2 q hq).1 ⟨i, ?_, a1, a2⟩
          rcases Nat.lt_or_ge i j with z | z
          · exact z
          · have : i = j := by omega
            subst this
            have : q = p := by omega
            subst this
            exact absurd (e1.symm.trans a1) (nb_ne q hp w hw)
        · rintro ⟨i, hi, a1, a2⟩
          refine (hU.2 q hq).2.1 ⟨i, ?_, a1, a2⟩
          rcases Nat.lt_or_ge i j with z | z
          · exact z
          · have : i = j := by omega
            subst this; omega
        · exact fun a1 a2 => (hU.2 q hq).2.2 (fun ⟨i, z1, z2⟩ => a1 ⟨i, by omega, z2⟩) (fun ⟨i, z1, z2⟩ => a2 ⟨i, by omega, z2⟩)
      · -- a place is gone through no more
        rw [e1, e2, if_neg (show ¬ 96 + p < 96 by omega), if_pos hp, show 96 + p - 96 = p by omega, dF (show ¬ 96 + p < 96 by omega), dT (rfl : nI p = nI p), nI_zin (by omega), dT hp, nI_cl (by omega), show (0 : Int32) &&& 1 = 0 from rfl]
        refine ⟨n - 1, (nI (96 + p), nI (j + 1), zup T' p 0, A'), by omega, rfl, j + 1, zup T' p 0, A', by omega, by rw [e1], fun q w hq hw => ⟨?_, ?_, ?_⟩, fun q hq => ⟨?_, ?_, ?_⟩⟩
        · rintro ⟨i, hi, a1, a2, a3⟩
          refine (hU.1 q w hq hw).1 ⟨i, ?_, a1, a2, a3⟩
          rcases Nat.lt_or_ge i j with z | z
          · exact z
          · have : i = j := by omega
            subst this
            have : p = q := by omega
            subst this
            exact absurd (a2.symm.trans e2) (nb_ne p hp w hw)
        · rintro ⟨i, hi, a1, a2, a3⟩
          refine (hU.1 q w hq hw).2.1 ⟨i, ?_, a1, a2, a3⟩
          rcases Nat.lt_or_ge i j with z | z
          · exact z
          · have : i = j := by omega
            subst this; omega
        · exact fun a1 a2 => (hU.1 q w hq hw).2.2 (fun ⟨i, z1, z2⟩ => a1 ⟨i, by omega, z2⟩) (fun ⟨i, z1, z2⟩ => a2 ⟨i, by omega, z2⟩)
        · rintro ⟨i, hi, a1, a2⟩
          have hij : i ≠ j := fun z => by subst z; omega
          by_cases e : q = p
          · subst e
            rcases PW_step hP (show i < m by omega) with ⟨p', hp', f1, f2, f3⟩ | ⟨p', w', hp', hw', hn', f1, f2, f3⟩ | ⟨p', hp', f1, f2, f3⟩ | ⟨p', w', hp', hw', hn', f1, f2, f4, f3⟩
            · have : p' = q := by omega
              subst this; exact absurd f3 e3
            · have : p' = q := by omega
              subst this
              exact absurd (f1.symm.trans a1) (nb_ne p' hp' w' hw')
            · omega
            · omega
          · rw [zup_ne e]
            exact (hU.2 q hq).1 ⟨i, by omega, a1, a2⟩
        · rintro ⟨i, hi, a1, a2⟩
          by_cases e : q = p
          · subst e; exact zup_same
          · rw [zup_ne e]
            refine (hU.2 q hq).2.1 ⟨i, ?_, a1, a2⟩
            rcases Nat.lt_or_ge i j with z | z
            · exact z
            · have : i = j := by omega
              subst this; omega
        · intro a1 a2
          have e : q ≠ p := fun z => by subst z; exact a2 ⟨j, by omega, e1, e2⟩
          rw [zup_ne e]
          exact (hU.2 q hq).2.2 (fun ⟨i, z1, z2⟩ => a1 ⟨i, by omega, z2⟩) (fun ⟨i, z1, z2⟩ => a2 ⟨i, by omega, z2⟩)
      · -- an arc is laid
        have hq := nb_lt hp hn
        have hnp : ¬ nI p = nI (nb p w) := fun z => nb_ne p hp w hw ((nI_eq (by omega) (by omega)).mp z).symm
        rw [e1, e2, if_neg (show ¬ 96 + p < 96 by omega), if_pos hq, show 96 + p - 96 = p by omega, dF (show ¬ 96 + p < 96 by omega), dF hnp, d_mark hp hw hn, show (1 : Int32) &&& 1 = 1 from rfl]
        refine ⟨n - 1, (nI (96 + p), nI (j + 1), T', zup A' (4 * p + w) 1), by omega, rfl, j + 1, T', zup A' (4 * p + w) 1, by omega, by rw [e1], fun q v hq hv => ⟨?_, ?_, ?_⟩, fun q hq => ⟨?_, ?_, ?_⟩⟩
        · rintro ⟨i, hi, a1, a2, a3⟩
          by_cases e : 4 * q + v = 4 * p + w
          · rw [e]; exact zup_same
          · rw [zup_ne e]
            refine (hU.1 q v hq hv).1 ⟨i, ?_, a1, a2, a3⟩
            rcases Nat.lt_or_ge i j with z | z
            · exact z
            · have : i = j := by omega
              subst this
              have : q = p := by omega
              subst this
              have := nb_inj q hp w hw v hv hn (e2.symm.trans a2)
              omega
        · rintro ⟨i, hi, a1, a2, a3⟩
          have hij : i ≠ j := fun z => by subst z; omega
          by_cases e : 4 * q + v = 4 * p + w
          · obtain ⟨rfl, rfl⟩ := arc_eq hq hv hw e
            exfalso
            rcases PW_step hP (show i < m by omega) with ⟨p', hp', f1, f2, f3⟩ | ⟨p', w', hp', hw', hn', f1, f2, f3⟩ | ⟨p', hp', f1, f2, f3⟩ | ⟨p', w', hp', hw', hn', f1, f2, f4, f3⟩
            · have : p' = q := by omega
              subst this
              exact absurd (a1.symm.trans f1) (nb_ne p' hp' v hv)
            · have : p' = q := by omega
              subst this
              have := nb_inj p' hp' v hv w' hw' hn (a1.symm.trans f1)
              subst this
              exact f3 e3
            · omega
            · have := nb_lt hp' hn'
              omega
          · rw [zup_ne e]
            exact (hU.1 q v hq hv).2.1 ⟨i, by omega, a1, a2, a3⟩
        · intro a1 a2
          have e : 4 * q + v ≠ 4 * p + w := fun z => by
            obtain ⟨rfl, rfl⟩ := arc_eq hq hv hw z
            exact a1 ⟨j, by omega, e1, e2, hn⟩
          rw [zup_ne e]
          exact (hU.1 q v hq hv).2.2 (fun ⟨i, z1, z2⟩ => a1 ⟨i, by omega, z2⟩) (fun ⟨i, z1, z2⟩ => a2 ⟨i, by omega, z2⟩)
        · rintro ⟨i, hi, a1, a2⟩
          refine (hU.2 q hq).1 ⟨i, ?_, a1, a2⟩
          rcases Nat.lt_or_ge i j with z | z
          · exact z
          · have : i = j := by omega
            subst this; omega
        · rintro ⟨i, hi, a1, a2⟩
          refine (hU.2 q hq).2.1 ⟨i, ?_, a1, a2⟩
          rcases Nat.lt_or_ge i j with z | z
          · exact z
          · have : i = j := by omega
            subst this
            have : q = p := by omega
            subst this
            exact absurd (e2.symm.trans a2) (nb_ne q hp w hw)
        · exact fun a1 a2 => (hU.2 q hq).2.2 (fun ⟨i, z1, z2⟩ => a1 ⟨i, by omega, z2⟩) (fun ⟨i, z1, z2⟩ => a2 ⟨i, by omega, z2⟩)) m (nI to, 0, T, A) ⟨0, T, A, by omega, by rw [c0]; rfl, fun p w _ _ => ⟨fun ⟨i, hi, _⟩ => by omega, fun ⟨i, hi, _⟩ => by omega, fun _ _ => rfl⟩, fun p _ => ⟨fun ⟨i, hi, _⟩ => by omega, fun ⟨i, hi, _⟩ => by omega, fun _ _ => rfl⟩⟩
  exact ⟨T', A', h1, h2⟩
end dcut6
