/-! ===== D: breaks: the model lays the way ===== -/
section dcut7
variable {fr to : Nat} {kd T A ah be K : Nat → Int32}
theorem enc_odd {v : Nat} (hv : v < 192) : nI (enc v) - nI (enc v) / 2 * 2 = (if v < 96 then 0 else 1) ∧ nI (enc v) / 2 = nI (if v < 96 then v else v - 96) := by
  have hl := enc_lt hv
  have h1 := pk_rem (a := enc v) (d := 2) (by omega) (by omega) (by omega)
  have h2 := pk_div (a := enc v) (d := 2) (by omega) (by omega) (by omega)
  by_cases e : v < 96
  · rw [enc_in e] at h1 h2 ⊢
    rw [show 2 * v % 2 = 0 by omega] at h1
    rw [show 2 * v / 2 = v by omega] at h2
    rw [if_pos e, if_pos e]
    exact ⟨h1, h2⟩
  · obtain ⟨p, rfl⟩ : ∃ p, v = 96 + p := ⟨v - 96, by omega⟩
    rw [enc_out] at h1 h2 ⊢
    rw [show (2 * p + 1) % 2 = 1 by omega] at h1
    rw [show (2 * p + 1) / 2 = p by omega] at h2
    rw [if_neg e, if_neg e, show 96 + p - 96 = p by omega]
    exact ⟨h1, h2⟩
/-- behind the first pass, down to step j -/
def M1 (ah be : Nat → Int32) (m : Nat) (c : Nat → Nat) (j : Nat) (ah' be' : Nat → Int32) : Prop :=
  (∀ p, p < 96 → ((∃ i q, j ≤ i ∧ i < m ∧ q < 96 ∧ c (i + 1) = p ∧ c i = 96 + q ∧ p ≠ q) → be' p = -1) ∧ ((¬ ∃ i q, j ≤ i ∧ i < m ∧ q < 96 ∧ c (i + 1) = p ∧ c i = 96 + q ∧ p ≠ q) → be' p = be p)) ∧
  (∀ q, q < 96 → ((∃ i p, j ≤ i ∧ i < m ∧ p < 96 ∧ c (i + 1) = p ∧ c i = 96 + q ∧ p ≠ q ∧ ah q = nI p) → ah' q = -1) ∧ ((¬ ∃ i p, j ≤ i ∧ i < m ∧ p < 96 ∧ c (i + 1) = p ∧ c i = 96 + q ∧ p ≠ q ∧ ah q = nI p) → ah' q = ah q))
/-- behind the second pass, down to step j -/
def M2 (fr to : Nat) (ah be : Nat → Int32) (m : Nat) (c : Nat → Nat) (j : Nat) (ah' be' : Nat → Int32) : Prop :=
  (∀ q, q < 96 → (∀ i p, j ≤ i → i < m → p < 96 → c (i + 1) = 96 + p → c i = q → p ≠ q → q ≠ to → be' q = nI p) ∧ ((¬ ∃ i p, j ≤ i ∧ i < m ∧ p < 96 ∧ c (i + 1) = 96 + p ∧ c i = q ∧ p ≠ q ∧ q ≠ to) → be' q = be q)) ∧
  (∀ p, p < 96 → (∀ i q, j ≤ i → i < m → q < 96 → c (i + 1) = 96 + p → c i = q → p ≠ q → p ≠ fr → ah' p = nI q) ∧ ((¬ ∃ i q, j ≤ i ∧ i < m ∧ q < 96 ∧ c (i + 1) = 96 + p ∧ c i = q ∧ p ≠ q ∧ p ≠ fr) → ah' p = ah p))
theorem nI_le0 {k : Nat} (hk : k < 2147483648) : decide (nI k ≤ 0) = decide (k = 0) := by
  rw [show (0 : Int32) = nI 0 from rfl, nI_dle hk (by omega)]
  by_cases e : k = 0
  · rw [dT e, dT (by omega)]
  · rw [dF e, dF (by omega)]
theorem M2_skip {m j : Nat} {c : Nat → Nat} {ah' be' : Nat → Int32} (hU : M2 fr to ah be m c (j + 1) ah' be') (hs : ∀ p q, p < 96 → q < 96 → c (j + 1) = 96 + p → c j = q → p = q) : M2 fr to ah be m c j ah' be' := by
  refine ⟨fun q hq => ⟨fun i p a1 a2 a3 a4 a5 a6 a7 => ?_, fun a => ?_⟩, fun p hp => ⟨fun i q a1 a2 a3 a4 a5 a6 a7 => ?_, fun a => ?_⟩⟩
  · rcases Nat.lt_or_ge j i with z | z
    · exact (hU.1 q hq).1 i p z a2 a3 a4 a5 a6 a7
    · have : i = j := by omega
      subst this; exact absurd (hs p q a3 hq a4 a5) a6
  · exact (hU.1 q hq).2 (fun ⟨i, p, a1, a2⟩ => a ⟨i, p, by omega, a2⟩)
  · rcases Nat.lt_or_ge j i with z | z
    · exact (hU.2 p hp).1 i q z a2 a3 a4 a5 a6 a7
    · have : i = j := by omega
      subst this; exact absurd (hs p q hp a3 a4 a5) a6
  · exact (hU.2 p hp).2 (fun ⟨i, q, a1, a2⟩ => a ⟨i, q, by omega, a2⟩)
theorem M2_add {m j p q : Nat} {c : Nat → Nat} {ah' be' : Nat → Int32} (cinj : ∀ i j, i ≤ m → j ≤ m → c i = c j → i = j) (hj : j + 1 ≤ m) (hU : M2 fr to ah be m c (j + 1) ah' be') (hp : p < 96) (hq : q < 96) (e1 : c (j + 1) = 96 + p) (e2 : c j = q) (hpq : p ≠ q) :
    M2 fr to ah be m c j (if p = fr then ah' else zup ah' p (nI q)) (if q = to then be' else zup be' q (nI p)) := by
  refine ⟨fun q0 hq0 => ⟨fun i p0 a1 a2 a3 a4 a5 a6 a7 => ?_, fun a => ?_⟩, fun p0 hp0 => ⟨fun i q0 a1 a2 a3 a4 a5 a6 a7 => ?_, fun a => ?_⟩⟩
  · rcases Nat.lt_or_ge j i with z | z
    · have hne : q0 ≠ q := fun e => by
        have := cinj i j (by omega) (by omega) (by rw [a5, e2, e])
        omega
      have := (hU.1 q0 hq0).1 i p0 z a2 a3 a4 a5 a6 a7
      by_cases et : q = to
      · rw [if_pos et]; exact this
      · rw [if_neg et, zup_ne hne]; exact this
    · have : i = j := by omega
      subst this
      have h1 : q0 = q := by omega
      have h2 : p0 = p := by omega
      subst h1 h2
      rw [if_neg a7, zup_same]
  · have := (hU.1 q0 hq0).2 (fun ⟨i, p, a1, a2⟩ => a ⟨i, p, by omega, a2⟩)
    by_cases et : q = to
    · rw [if_pos et]; exact this
    · have hne : q0 ≠ q := fun e => by
        subst e
        exact a ⟨j, p, by omega, by omega, hp, e1, e2, hpq, et⟩
      rw [if_neg et, zup_ne hne]; exact this
  · rcases Nat.lt_or_ge j i with z | z
    · have hne : p0 ≠ p := fun e => by
        have := cinj (i + 1) (j + 1) (by omega) (by omega) (by rw [a4, e1, e])
        omega
      have := (hU.2 p0 hp0).1 i q0 z a2 a3 a4 a5 a6 a7
      by_cases et : p = fr
      · rw [if_pos et]; exact this
      · rw [if_neg et, zup_ne hne]; exact this
    · have : i = j := by omega
      subst this
      have h1 : q0 = q := by omega
      have h2 : p0 = p := by omega
      subst h1 h2
      rw [if_neg a7, zup_same]
  · have := (hU.2 p0 hp0).2 (fun ⟨i, q, a1, a2⟩ => a ⟨i, q, by omega, a2⟩)
    by_cases et : p = fr
    · rw [if_pos et]; exact this
    · have hne : p0 ≠ p := fun e => by
        subst e
        exact a ⟨j, q, by omega, by omega, hq, e1, e2, hpq, et⟩
      rw [if_neg et, zup_ne hne]; exact this
theorem d_pass2 {m : Nat} {c : Nat → Nat} (hfr : fr < 96) (hto : to < 96) (hm : m ≤ 191) (clt : ∀ i, i ≤ m → c i < 192) (cinj : ∀ i j, i ≤ m → j ≤ m → c i = c j → i = j) {R : Nat → Int32} (hR : ∀ i, i ≤ m → R i = nI (enc (c i))) (ah be : Nat → Int32) :
    ∃ ah' be', l_md_goesAlong_151 (nI fr) (nI to) R (nI m) ah be = some (ah', be', R) ∧ M2 fr to ah be m c 0 ah' be' := by
  obtain ⟨r, h1, ah', be', rfl, h2⟩ := zlp_one (f := f_md_goesAlong_151 (nI fr) (nI to) R) (fun n t => ∃ ah' be', n ≤ m ∧ t = (nI n, ah', be') ∧ M2 fr to ah be m c n ah' be') (fun r => ∃ ah' be', r = (ah', be', R) ∧ M2 fr to ah be m c 0 ah' be') (by
    rintro n t ⟨ah', be', hn, rfl, hU⟩
    dsimp +instances only [f_md_goesAlong_151, b_md_goesAlong_151]
    rw [nI_le0 (by omega)]
    by_cases hn0 : n = 0
    · right
      subst hn0
      exact ⟨_, rfl, ah', be', rfl, hU⟩
    · left
      obtain ⟨j, rfl⟩ : ∃ j, n = j + 1 := ⟨n - 1, by omega⟩
      have e1 := enc_odd (clt (j + 1) hn)
      have e2 := enc_odd (clt j (by omega))
      have l1 := clt (j + 1) hn
      have l2 := clt j (by omega)
      rw [dF hn0, cFf, show nI (j + 1) - 1 = nI j from by rw [show (1 : Int32) = nI 1 from rfl, pk_sub (by omega), Nat.add_sub_cancel], nI_zin (by omega), dT (show j + 1 < 192 by omega), nI_zin (by omega), dT (show j < 192 by omega), nI_cl (by omega), nI_cl (by omega), hR (j + 1) hn, hR j (by omega), e1.1, e1.2, e2.1, e2.2, nI_down]
      dsimp +instances only [zg]
      rw [cTt, cTt]
      by_cases c1 : c (j + 1) < 96
      · rw [if_pos c1]
        exact ⟨j, _, by omega, rfl, ah', be', by omega, rfl, M2_skip hU (fun p q _ _ z _ => by omega)⟩
      · rw [if_neg c1]
        by_cases c2 : c j < 96
        · rw [if_pos c2, if_neg c1, if_pos c2]
          obtain ⟨p, hp⟩ : ∃ p, c (j + 1) = 96 + p := ⟨c (j + 1) - 96, by omega⟩
          have hp96 : p < 96 := by omega
          rw [hp, show 96 + p - 96 = p by omega, nI_deq (by omega) (by omega), nI_deq (by omega) (by omega), nI_deq (by omega) (by omega), nI_zin (by omega), dT c2, nI_zin (by omega), dT hp96, nI_cl (by omega), nI_cl (by omega)]
          by_cases hpq : p = c j
          · rw [dT hpq]
            exact ⟨j, _, by omega, rfl, ah', be', by omega, rfl, M2_skip hU (fun p' q' _ _ z1 z2 => by omega)⟩
          · have hU' := M2_add cinj hn hU hp96 c2 hp rfl hpq
            rw [dF hpq]
            by_cases hpf : p = fr
            · rw [if_pos hpf] at hU'
              rw [dT hpf]
              by_cases hqt : c j = to
              · rw [if_pos hqt] at hU'
                rw [dT hqt]
                exact ⟨j, _, by omega, rfl, _, _, by omega, rfl, hU'⟩
              · rw [if_neg hqt] at hU'
                rw [dF hqt]
                exact ⟨j, _, by omega, rfl, _, _, by omega, rfl, hU'⟩
            · rw [if_neg hpf] at hU'
              rw [dF hpf]
              by_cases hqt : c j = to
              · rw [if_pos hqt] at hU'
                rw [dT hqt]
                exact ⟨j, _, by omega, rfl, _, _, by omega, rfl, hU'⟩
              · rw [if_neg hqt] at hU'
                rw [dF hqt]
                exact ⟨j, _, by omega, rfl, _, _, by omega, rfl, hU'⟩
        · rw [if_neg c2]
          exact ⟨j, _, by omega, rfl, ah', be', by omega, rfl, M2_skip hU (fun p q _ hq _ z => by omega)⟩) m (nI m, ah, be) ⟨ah, be, Nat.le_refl _, rfl, fun q hq => ⟨fun i p a1 a2 => by omega, fun _ => rfl⟩, fun p hp => ⟨fun i q a1 a2 => by omega, fun _ => rfl⟩⟩
  exact ⟨ah', be', h1, h2⟩
theorem M1_skip {m j : Nat} {c : Nat → Nat} {ah' be' : Nat → Int32} (hU : M1 ah be m c (j + 1) ah' be') (hs : ∀ p q, p < 96 → q < 96 → c (j + 1) = p → c j = 96 + q → p = q) : M1 ah be m c j ah' be' := by
  refine ⟨fun p hp => ⟨?_, fun a => ?_⟩, fun q hq => ⟨?_, fun a => ?_⟩⟩
  · rintro ⟨i, q, a1, a2, a3, a4, a5, a6⟩
    refine (hU.1 p hp).1 ⟨i, q, ?_, a2, a3, a4, a5, a6⟩
    rcases Nat.lt_or_ge j i with z | z
    · exact z
    · have : i = j := by omega
      subst this; exact absurd (hs p q hp a3 a4 a5) a6
  · exact (hU.1 p hp).2 (fun ⟨i, q, a1, a2⟩ => a ⟨i, q, by omega, a2⟩)
  · rintro ⟨i, p, a1, a2, a3, a4, a5, a6, a7⟩
    refine (hU.2 q hq).1 ⟨i, p, ?_, a2, a3, a4, a5, a6, a7⟩
    rcases Nat.lt_or_ge j i with z | z
    · exact z
    · have : i = j := by omega
      subst this; exact absurd (hs p q a3 hq a4 a5) a6
  · exact (hU.2 q hq).2 (fun ⟨i, p, a1, a2⟩ => a ⟨i, p, by omega, a2⟩)
theorem M1_rem {m j p q : Nat} {c : Nat → Nat} {ah' be' : Nat → Int32} (cinj : ∀ i j, i ≤ m → j ≤ m → c i = c j → i = j) (hj : j + 1 ≤ m) (hU : M1 ah be m c (j + 1) ah' be') (hp : p < 96) (hq : q < 96) (e1 : c (j + 1) = p) (e2 : c j = 96 + q) (hpq : p ≠ q) :
    ah' q = ah q ∧ M1 ah be m c j (if ah q = nI p then zup ah' q (-1) else ah') (zup be' p (-1)) := by
  have hah : ah' q = ah q := (hU.2 q hq).2 (fun ⟨i, p0, a1, a2, a3, a4, a5, a6, a7⟩ => by
    have := cinj i j (by omega) (by omega) (by rw [a5, e2])
    omega)
  refine ⟨hah, fun p0 hp0 => ⟨?_, fun a => ?_⟩, fun q0 hq0 => ⟨?_, fun a => ?_⟩⟩
  · rintro ⟨i, q0, a1, a2, a3, a4, a5, a6⟩
    by_cases e : p0 = p
    · subst e; exact zup_same
    · rw [zup_ne e]
      refine (hU.1 p0 hp0).1 ⟨i, q0, ?_, a2, a3, a4, a5, a6⟩
      rcases Nat.lt_or_ge j i with z | z
      · exact z
      · have : i = j := by omega
        subst this; omega
  · have hne : p0 ≠ p := fun e => by
      subst e
      exact a ⟨j, q, by omega, by omega, hq, e1, e2, hpq⟩
    rw [zup_ne hne]
    exact (hU.1 p0 hp0).2 (fun ⟨i, q, a1, a2⟩ => a ⟨i, q, by omega, a2⟩)
  · rintro ⟨i, p0, a1, a2, a3, a4, a5, a6, a7⟩
    by_cases e : q0 = q
    · subst e
      have : i = j := cinj i j (by omega) (by omega) (by rw [a5, e2])
      subst this
      have : p0 = p := by omega
      subst this
      rw [if_pos a7, zup_same]
    · have := (hU.2 q0 hq0).1 ⟨i, p0, by
        rcases Nat.lt_or_ge j i with z | z
        · exact z
        · have : i = j := by omega
          subst this; omega, a2, a3, a4, a5, a6, a7⟩
      by_cases ea : ah q = nI p
      · rw [if_pos ea, zup_ne e]; exact this
      · rw [if_neg ea]; exact this
  · have := (hU.2 q0 hq0).2 (fun ⟨i, p, a1, a2⟩ => a ⟨i, p, by omega, a2⟩)
    by_cases ea : ah q = nI p
    · have hne : q0 ≠ q := fun e => by
        subst e
        exact a ⟨j, p, by omega, by omega, hp, e1, e2, hpq, ea⟩
      rw [if_pos ea, zup_ne hne]; exact this
    · rw [if_neg ea]; exact this
theorem d_pass1 {m : Nat} {c : Nat → Nat} (hm : m ≤ 191) (clt : ∀ i, i ≤ m → c i < 192) (cinj : ∀ i j, i ≤ m → j ≤ m → c i = c j → i = j) {R : Nat → Int32} (hR : ∀ i, i ≤ m → R i = nI (enc (c i))) (ah be : Nat → Int32) (Q : T_md_goesAlong → Prop)
    (hQ : ∀ ah' be', M1 ah be m c 0 ah' be' → ∃ r, l_md_goesAlong_151 (nI fr) (nI to) R (nI m) ah' be' = some r ∧ Q r) :
    ∃ r, l_md_goesAlong_52 (nI fr) (nI to) (nI m) R (nI m) ah be = some r ∧ Q r := by
  refine zlp_one (f := f_md_goesAlong_52 (nI fr) (nI to) (nI m) R) (fun n t => ∃ ah' be', n ≤ m ∧ t = (nI n, ah', be') ∧ M1 ah be m c n ah' be') Q ?_ m (nI m, ah, be) ⟨ah, be, Nat.le_refl _, rfl, fun p hp => ⟨fun ⟨i, q, a1, a2, _⟩ => by omega, fun _ => rfl⟩, fun q hq => ⟨fun ⟨i, p, a1, a2, _⟩ => by omega, fun _ => rfl⟩⟩
  rintro n t ⟨ah', be', hn, rfl, hU⟩
  dsimp +instances only [f_md_goesAlong_52, b_md_goesAlong_52]
  rw [nI_le0 (by omega)]
  by_cases hn0 : n = 0
  · right
    subst hn0
    obtain ⟨r, g1, g2⟩ := hQ ah' be' hU
    refine ⟨r, ?_, g2⟩
    rw [g1]
    rfl
  · left
    obtain ⟨j, rfl⟩ : ∃ j, n = j + 1 := ⟨n - 1, by omega⟩
    have e1 := enc_odd (clt (j + 1) hn)
    have e2 := enc_odd (clt j (by omega))
    have l1 := clt (j + 1) hn
    have l2 := clt j (by omega)
    rw [dF hn0, cFf, show nI (j + 1) - 1 = nI j from by rw [show (1 : Int32) = nI 1 from rfl, pk_sub (by omega), Nat.add_sub_cancel], nI_zin (by omega), dT (show j + 1 < 192 by omega), nI_zin (by omega), dT (show j < 192 by omega), nI_cl (by omega), nI_cl (by omega), hR (j + 1) hn, hR j (by omega), e1.1, e1.2, e2.1, e2.2, nI_down]
    dsimp +instances only [zg]
    rw [cTt, cTt]
    by_cases c1 : c (j + 1) < 96
    · rw [if_pos c1]
      by_cases c2 : c j < 96
      · rw [if_pos c2]
        exact ⟨j, _, by omega, rfl, ah', be', by omega, rfl, M1_skip hU (fun p q _ _ _ z => by omega)⟩
      · obtain ⟨q, hq⟩ : ∃ q, c j = 96 + q := ⟨c j - 96, by omega⟩
        have hq96 : q < 96 := by omega
        rw [if_neg c2, if_neg c2, if_pos c1, hq, show 96 + q - 96 = q by omega, nI_deq (by omega) (by omega), nI_zin (by omega), dT hq96, nI_cl (by omega), nI_zin (by omega), dT c1, nI_cl (by omega)]
        by_cases hpq : c (j + 1) = q
        · rw [dT hpq]
          exact ⟨j, _, by omega, rfl, ah', be', by omega, rfl, M1_skip hU (fun p' q' _ _ z1 z2 => by omega)⟩
        · obtain ⟨hah, hU'⟩ := M1_rem cinj hn hU c1 hq96 rfl hq hpq
          rw [dF hpq, hah]
          by_cases ea : ah q = nI (c (j + 1))
          · rw [if_pos ea] at hU'
            rw [dT ea]
            exact ⟨j, _, by omega, rfl, _, _, by omega, rfl, hU'⟩
          · rw [if_neg ea] at hU'
            rw [dF ea]
            exact ⟨j, _, by omega, rfl, _, _, by omega, rfl, hU'⟩
    · rw [if_neg c1]
      exact ⟨j, _, by omega, rfl, ah', be', by omega, rfl, M1_skip hU (fun p q hp _ z _ => by omega)⟩
/-- the whole of it -/
theorem d_along {m : Nat} {c : Nat → Nat} (hfr : fr < 96) (hto : to < 96) (hm : m ≤ 191) (c0 : c 0 = to) (cm : c m = 96 + fr) (clt : ∀ i, i ≤ m → c i < 192) (cinj : ∀ i j, i ≤ m → j ≤ m → c i = c j → i = j) {cb : Nat → Int32} (hc : ∀ i, i < m → cb (enc (c i)) = nI (enc (c (i + 1)))) (ah be R0 : Nat → Int32) :
    ∃ ah1 be1 ah2 be2 R, q_md_goesAlong (nI fr) (nI to) ah be cb R0 = some (ah2, be2, R) ∧ M1 ah be m c 0 ah1 be1 ∧ M2 fr to ah1 be1 m c 0 ah2 be2 := by
  obtain ⟨r, h1, ah1, be1, ah2, be2, R, rfl, h2, h3⟩ := zlp_one (f := f_md_goesAlong_7 (nI fr) (nI to) cb ah be) (fun n t => ∃ j R, j + n = m ∧ t = (nI j, nI (enc (c j)), R) ∧ (∀ i, i < j → R i = nI (enc (c i)))) (fun r => ∃ ah1 be1 ah2 be2 R, r = (ah2, be2, R) ∧ M1 ah be m c 0 ah1 be1 ∧ M2 fr to ah1 be1 m c 0 ah2 be2) (by
    rintro n t ⟨j, R, hj, rfl, hR⟩
    have hcj := clt j (by omega)
    have hej := enc_lt hcj
    have e2 : (2 : Int32) * nI fr + 1 = nI (enc (96 + fr)) := by rw [show (2 : Int32) = nI 2 from rfl, pk_mul, nI_1, enc_out]
    have hef := enc_lt (show 96 + fr < 192 by omega)
    dsimp +instances only [f_md_goesAlong_7, b_md_goesAlong_7]
    rw [e2, nI_deq (by omega) (by omega), nI_zin (by omega), dT (show j < 192 by omega), nI_cl (by omega)]
    by_cases hjm : j = m
    · right
      subst hjm
      have hR' : ∀ i, i ≤ j → zup R j (nI (enc (c j))) i = nI (enc (c i)) := fun i hi => by
        by_cases e : i = j
        · subst e; exact zup_same
        · rw [zup_ne e]; exact hR i (by omega)
      obtain ⟨r, g1, ah1, be1, ah2, be2, R', rfl, g2, g3⟩ := d_pass1 (fr := fr) (to := to) hm clt cinj hR' ah be (fun r => ∃ ah1 be1 ah2 be2 R, r = (ah2, be2, R) ∧ M1 ah be j c 0 ah1 be1 ∧ M2 fr to ah1 be1 j c 0 ah2 be2) (fun ah1 be1 hM1 => by
        obtain ⟨ah2, be2, k1, k2⟩ := d_pass2 hfr hto hm clt cinj hR' ah1 be1
        exact ⟨_, k1, ah1, be1, ah2, be2, _, rfl, hM1, k2⟩)
      rw [dT (show enc (c j) = enc (96 + fr) by rw [cm])]
      refine ⟨_, ?_, ah1, be1, ah2, be2, R', rfl, g2, g3⟩
      dsimp +instances only [zg]
      rw [cTt, cTt, g1]
      rfl
    · left
      have hne : ¬ enc (c j) = enc (96 + fr) := fun e => hjm (cinj j m (by omega) (by omega) (by rw [cm]; exact enc_inj e))
      rw [dF hne, nI_zin (by omega), dT hej, nI_cl (by omega), hc j (by omega), nI_1]
      refine ⟨n - 1, _, by omega, rfl, j + 1, _, by omega, rfl, fun i hi => ?_⟩
      by_cases e : i = j
      · subst e; exact zup_same
      · rw [zup_ne e]; exact hR i (by omega)) m (0, nI (2 * to), R0) ⟨0, R0, by omega, by rw [c0, enc_in hto]; rfl, fun i hi => by omega⟩
  refine ⟨ah1, be1, ah2, be2, R, ?_, h2, h3⟩
  unfold q_md_goesAlong
  rw [show (2 : Int32) * nI to = nI (2 * to) from by rw [show (2 : Int32) = nI 2 from rfl, pk_mul]]
  exact h1
end dcut7
