/-! ===== D: breaks: the flow behind a way ===== -/
section dcut8
variable {fr to : Nat} {kd T A ah be : Nat → Int32}
theorem PW_noF (hF : FR fr to kd T A ah be) {m : Nat} {c : Nat → Nat} (hP : PW kd T A fr to m c) : ∀ i, i ≤ m → c i ≠ fr := by
  intro i hi e
  obtain ⟨c0, cm, hm, clt, cst, cinj⟩ := id hP
  have hfr := hF.1
  cases i with
  | zero => rw [c0] at e; exact hF.2.2.1 e.symm
  | succ i =>
    have h1 := cst i (by omega)
    rw [e, cN_in hfr, FR_inF hF] at h1
    have h2 := List.mem_singleton.mp h1
    have := cinj i m (by omega) (by omega) (by rw [h2, cm])
    omega
theorem PW_noT (hF : FR fr to kd T A ah be) {m : Nat} {c : Nat → Nat} (hP : PW kd T A fr to m c) : ∀ i, i ≤ m → c i ≠ 96 + to := by
  intro i hi e
  obtain ⟨c0, cm, hm, clt, cst, cinj⟩ := id hP
  have hto := hF.2.1
  by_cases hi' : i = m
  · subst hi'; rw [cm] at e; exact hF.2.2.1 (by omega)
  · rcases PW_step hP (show i < m by omega) with ⟨p, hp, f1, f2, f3⟩ | ⟨p, w, hp, hw, hn, f1, f2, f3⟩ | ⟨p, hp, f1, f2, f3⟩ | ⟨p, w, hp, hw, hn, f1, f2, f4, f3⟩
    · have : p = to := by omega
      subst this
      have := cinj (i + 1) 0 (by omega) (by omega) (by rw [f1, c0])
      omega
    · have : p = to := by omega
      subst this
      rcases hF.2.2.2.2.1 p w hp hw with z | ⟨-, -, -, z, -⟩
      · exact f3 z
      · exact z rfl
    · omega
    · have := nb_lt hp hn; omega
theorem FR_aug (hF : FR fr to kd T A ah be) {m : Nat} {c : Nat → Nat} (hP : PW kd T A fr to m c) {T' A' ah1 be1 ah2 be2 : Nat → Int32} (hU : CU T A m c m T' A') (h1 : M1 ah be m c 0 ah1 be1) (h2 : M2 fr to ah1 be1 m c 0 ah2 be2) : FR fr to kd T' A' ah2 be2 := by
  obtain ⟨c0, cm, hm, clt, cst, cinj⟩ := id hP
  obtain ⟨hfr, hto, hft, hnn, hA, hT01, hTf, hahf, hkf, hFU⟩ := id hF
  have noF := PW_noF hF hP
  have noT := PW_noT hF hP
  -- what stands where a place is on the way
  have inS : ∀ p i, p < 96 → p ≠ to → i ≤ m → c i = p → 0 < i ∧ i < m ∧ ((c (i + 1) = 96 + p ∧ ¬ T p = 0) ∨ (∃ a w, a < 96 ∧ w < 4 ∧ c (i + 1) = 96 + a ∧ p = nb a w ∧ a ≠ p ∧ kd p = 1 ∧ A (4 * a + w) = 0)) ∧ ((c (i - 1) = 96 + p ∧ T p = 0) ∨ (∃ q w, q < 96 ∧ w < 4 ∧ c (i - 1) = 96 + q ∧ p = nb q w ∧ q ≠ p ∧ ¬ A (4 * q + w) = 0)) := by
    intro p i hp hpt hi e
    have h0 : 0 < i := Nat.pos_of_ne_zero (fun z => by subst z; rw [c0] at e; exact hpt e.symm)
    have hm' : i < m := Nat.lt_of_le_of_ne hi (fun z => by subst z; omega)
    refine ⟨h0, hm', ?_, ?_⟩
    · rcases PW_step hP hm' with ⟨p', hp', f1, f2, f3⟩ | ⟨p', w, hp', hw, hn, f1, f2, f3⟩ | ⟨p', hp', f1, f2, f3⟩ | ⟨p', w, hp', hw, hn, f1, f2, f4, f3⟩
      · omega
      · omega
      · have : p' = p := by omega
        subst this; exact Or.inl ⟨f1, f3⟩
      · refine Or.inr ⟨p', w, hp', hw, f1, by omega, ?_, by rw [show p = nb p' w by omega]; exact f4, f3⟩
        intro z
        exact nb_ne p' hp' w hw (by omega)
    · rcases PW_step hP (show i - 1 < m by omega) with ⟨p', hp', f1, f2, f3⟩ | ⟨p', w, hp', hw, hn, f1, f2, f3⟩ | ⟨p', hp', f1, f2, f3⟩ | ⟨p', w, hp', hw, hn, f1, f2, f4, f3⟩ <;> rw [show i - 1 + 1 = i by omega] at f1
      · have : p' = p := by omega
        subst this; exact Or.inl ⟨f2, f3⟩
      · refine Or.inr ⟨p', w, hp', hw, f2, by omega, ?_, f3⟩
        intro z
        exact nb_ne p' hp' w hw (by omega)
      · omega
      · omega
  have outS : ∀ p o, p < 96 → p ≠ fr → o ≤ m → c o = 96 + p → 0 < o ∧ o < m ∧ ((c (o + 1) = p ∧ T p = 0) ∨ (∃ w, w < 4 ∧ nb p w ≠ 200 ∧ c (o + 1) = nb p w ∧ ¬ A (4 * p + w) = 0)) ∧ ((c (o - 1) = p ∧ ¬ T p = 0) ∨ (∃ w, w < 4 ∧ nb p w ≠ 200 ∧ c (o - 1) = nb p w ∧ A (4 * p + w) = 0)) := by
    intro p o hp hpf ho e
    have h0 : 0 < o := Nat.pos_of_ne_zero (fun z => by subst z; omega)
    have hm' : o < m := Nat.lt_of_le_of_ne ho (fun z => by subst z; omega)
    refine ⟨h0, hm', ?_, ?_⟩
    · rcases PW_step hP hm' with ⟨p', hp', f1, f2, f3⟩ | ⟨p', w, hp', hw, hn, f1, f2, f3⟩ | ⟨p', hp', f1, f2, f3⟩ | ⟨p', w, hp', hw, hn, f1, f2, f4, f3⟩
      · have : p' = p := by omega
        subst this; exact Or.inl ⟨f1, f3⟩
      · have : p' = p := by omega
        subst this; exact Or.inr ⟨w, hw, hn, f1, f3⟩
      · omega
      · have := nb_lt hp' hn; omega
    · rcases PW_step hP (show o - 1 < m by omega) with ⟨p', hp', f1, f2, f3⟩ | ⟨p', w, hp', hw, hn, f1, f2, f3⟩ | ⟨p', hp', f1, f2, f3⟩ | ⟨p', w, hp', hw, hn, f1, f2, f4, f3⟩ <;> rw [show o - 1 + 1 = o by omega] at f1
      · omega
      · have := nb_lt hp' hn; omega
      · have : p' = p := by omega
        subst this; exact Or.inl ⟨f2, f3⟩
      · have : p' = p := by omega
        subst this; exact Or.inr ⟨w, hw, hn, f2, f3⟩
  -- an arc, behind the way
  have arcIff : ∀ p w, p < 96 → w < 4 → (A' (4 * p + w) = 1 ↔ ((∃ i, i < m ∧ c (i + 1) = 96 + p ∧ c i = nb p w ∧ nb p w ≠ 200) ∨ (A (4 * p + w) = 1 ∧ ¬ ∃ i, i < m ∧ c (i + 1) = nb p w ∧ c i = 96 + p ∧ nb p w ≠ 200))) := by
    intro p w hp hw
    obtain ⟨u1, u2, u3⟩ := hU.1 p w hp hw
    by_cases ea : ∃ i, i < m ∧ c (i + 1) = 96 + p ∧ c i = nb p w ∧ nb p w ≠ 200
    · exact ⟨fun _ => Or.inl ea, fun _ => u1 ea⟩
    · by_cases er : ∃ i, i < m ∧ c (i + 1) = nb p w ∧ c i = 96 + p ∧ nb p w ≠ 200
      · rw [u2 er]
        exact ⟨fun z => absurd z (by decide), fun z => by
          rcases z with z | ⟨-, z⟩
          · exact absurd z ea
          · exact absurd er z⟩
      · rw [u3 ea er]
        exact ⟨fun z => Or.inr ⟨z, er⟩, fun z => by
          rcases z with z | ⟨z, -⟩
          · exact absurd z ea
          · exact z⟩
  have arc01 : ∀ p w, p < 96 → w < 4 → A' (4 * p + w) = 0 ∨ A' (4 * p + w) = 1 := by
    intro p w hp hw
    obtain ⟨u1, u2, u3⟩ := hU.1 p w hp hw
    by_cases ea : ∃ i, i < m ∧ c (i + 1) = 96 + p ∧ c i = nb p w ∧ nb p w ≠ 200
    · exact Or.inr (u1 ea)
    · by_cases er : ∃ i, i < m ∧ c (i + 1) = nb p w ∧ c i = 96 + p ∧ nb p w ≠ 200
      · exact Or.inl (u2 er)
      · rw [u3 ea er]
        rcases hA p w hp hw with z | ⟨z, -⟩
        · exact Or.inl z
        · exact Or.inr z
  have arc0 : ∀ p w, p < 96 → w < 4 → ¬ A' (4 * p + w) = 1 → A' (4 * p + w) = 0 := fun p w hp hw z => by
    rcases arc01 p w hp hw with y | y
    · exact y
    · exact absurd y z
  -- rows of the model, behind the way
  have beN : ∀ p, p < 96 → (∀ i, i ≤ m → c i ≠ p) → be2 p = be p := fun p hp hn => by
    rw [(h2.1 p hp).2 (fun ⟨i, q, a1, a2, a3, a4, a5, a6, a7⟩ => hn i (by omega) a5), (h1.1 p hp).2 (fun ⟨i, q, a1, a2, a3, a4, a5, a6⟩ => hn (i + 1) (by omega) a4)]
  have beA : ∀ p a i, p < 96 → a < 96 → p ≠ to → i < m → c i = p → c (i + 1) = 96 + a → a ≠ p → be2 p = nI a := fun p a i hp ha hpt hi e1 e2 hap => (h2.1 p hp).1 i a (Nat.zero_le _) hi ha e2 e1 hap hpt
  have beR : ∀ p q i, p < 96 → q < 96 → 0 < i → i < m → c i = p → c (i + 1) = 96 + p → c (i - 1) = 96 + q → q ≠ p → be2 p = -1 := fun p q i hp hq h0 hi e1 e2 e3 hqp => by
    rw [(h2.1 p hp).2 (fun ⟨i', q', a1, a2, a3, a4, a5, a6, a7⟩ => by
      have := cinj i' i (by omega) (by omega) (by rw [a5, e1])
      subst this
      omega)]
    exact (h1.1 p hp).1 ⟨i - 1, q, Nat.zero_le _, by omega, hq, by rw [show i - 1 + 1 = i by omega]; exact e1, e3, fun z => hqp z.symm⟩
  have ahN : ∀ p, p < 96 → (∀ i, i ≤ m → c i ≠ 96 + p) → ah2 p = ah p := fun p hp hn => by
    rw [(h2.2 p hp).2 (fun ⟨i, q, a1, a2, a3, a4, a5, a6, a7⟩ => hn (i + 1) (by omega) a4), (h1.2 p hp).2 (fun ⟨i, q, a1, a2, a3, a4, a5, a6, a7⟩ => hn i (by omega) a5)]
  have ahA : ∀ p q o, p < 96 → q < 96 → p ≠ fr → 0 < o → o ≤ m → c o = 96 + p → c (o - 1) = q → q ≠ p → ah2 p = nI q := fun p q o hp hq hpf h0 ho e1 e2 hqp => (h2.2 p hp).1 (o - 1) q (Nat.zero_le _) (by omega) hq (by rw [show o - 1 + 1 = o by omega]; exact e1) e2 (fun z => hqp z.symm) hpf
  have ahR : ∀ p q o, p < 96 → q < 96 → 0 < o → o < m → c o = 96 + p → c (o - 1) = p → c (o + 1) = q → q ≠ p → ah p = nI q → ah2 p = -1 := fun p q o hp hq h0 ho e1 e2 e3 hqp ea => by
    rw [(h2.2 p hp).2 (fun ⟨i', q', a1, a2, a3, a4, a5, a6, a7⟩ => by
      have := cinj (i' + 1) o (by omega) (by omega) (by rw [a4, e1])
      subst this
      rw [Nat.add_sub_cancel] at e2
      omega)]
    exact (h1.2 p hp).1 ⟨o, q, Nat.zero_le _, ho, hq, e3, e1, hqp, ea⟩
  refine ⟨hfr, hto, hft, hnn, fun p w hp hw => ?_, fun p hp => ?_, ?_, ?_, hkf, fun p hp hpf hpt => ?_⟩
  · rcases arc01 p w hp hw with z | z
    · exact Or.inl z
    · refine Or.inr ⟨z, ?_⟩
      rcases (arcIff p w hp hw).mp z with ⟨i, a1, a2, a3, a4⟩ | ⟨a1, -⟩
      · refine ⟨a4, fun q => noF i (by omega) (by rw [a3]; exact q), fun q => noT (i + 1) (by omega) (by rw [a2, q]), ?_⟩
        by_cases hpf : p = fr
        · rw [hpf]; exact hkf
        · obtain ⟨-, o2, o3, -⟩ := outS p (i + 1) hp hpf (by omega) a2
          rcases o3 with ⟨o3, o4⟩ | ⟨w', o3, o4, o5, o6⟩
          · have hpt : p ≠ to := fun q => noT (i + 1) (by omega) (by rw [a2, q])
            obtain ⟨-, -, i3, -⟩ := inS p (i + 1 + 1) hp hpt (by omega) o3
            rcases i3 with ⟨-, i3⟩ | ⟨a, w', -, -, -, -, -, i3, -⟩
            · exact absurd o4 i3
            · exact i3
          · rcases hA p w' hp o3 with z | ⟨-, -, -, -, z⟩
            · exact absurd z o6
            · exact z
      · rcases hA p w hp hw with z | ⟨-, z⟩
        · rw [a1] at z; exact absurd z (by decide)
        · exact z
  · obtain ⟨u1, u2, u3⟩ := hU.2 p hp
    by_cases ea : ∃ i, i < m ∧ c (i + 1) = p ∧ c i = 96 + p
    · exact Or.inr (u1 ea)
    · by_cases er : ∃ i, i < m ∧ c (i + 1) = 96 + p ∧ c i = p
      · exact Or.inl (u2 er)
      · rw [u3 ea er]; exact hT01 p hp
  · rw [(hU.2 fr hfr).2.2 (fun ⟨i, a1, a2, _⟩ => noF (i + 1) (by omega) a2) (fun ⟨i, a1, _, a2⟩ => noF i (by omega) a2)]
    exact hTf
  · have e1 := (h2.2 fr hfr).2 (fun ⟨i, q, a1, a2, a3, a4, a5, a6, a7⟩ => a7 rfl)
    have e2 := (h1.2 fr hfr).2 (fun ⟨i, q, a1, a2, a3, a4, a5, a6, a7⟩ => by
      rw [hahf] at a7
      exact nI_nem1 (by omega) a7.symm)
    rw [e1, e2]; exact hahf
  · rcases hFU p hp hpf hpt with ⟨g1, g2, g3, g4, g5⟩ | ⟨b, a, wb, g1, g2, g3, g4, g5, g6, g7, g8, g9⟩
    · -- it was free
      by_cases IN : ∃ i, i ≤ m ∧ c i = p
      · obtain ⟨i, hi, ei⟩ := IN
        obtain ⟨i0, im, ip, is⟩ := inS p i hp hpt hi ei
        have is' : c (i - 1) = 96 + p := by
          rcases is with ⟨z, -⟩ | ⟨q, w, z1, z2, z3, z4, z5, z6⟩
          · exact z
          · exact absurd (g4 q w z1 z2 z4.symm) z6
        obtain ⟨a, w, ha, hw, ea, en, hap, -, -⟩ : ∃ a w, a < 96 ∧ w < 4 ∧ c (i + 1) = 96 + a ∧ p = nb a w ∧ a ≠ p ∧ kd p = 1 ∧ A (4 * a + w) = 0 := by
          rcases ip with ⟨-, z⟩ | z
          · exact absurd g3 z
          · exact z
        obtain ⟨o0, om, -, os⟩ := outS p (i - 1) hp hpf (by omega) is'
        obtain ⟨w', hw', hn', eo, -⟩ : ∃ w, w < 4 ∧ nb p w ≠ 200 ∧ c (i - 1 - 1) = nb p w ∧ A (4 * p + w) = 0 := by
          rcases os with ⟨-, z⟩ | z
          · exact absurd g3 z
          · exact z
        have hq' := nb_lt hp hn'
        refine Or.inr ⟨a, nb p w', w, ha, hq', hw, en.symm, beA p a i hp ha hpt im ei ea hap, ahA p (nb p w') (i - 1) hp hq' hpf (by omega) (by omega) is' eo (nb_ne p hp w' hw'), (hU.2 p hp).1 ⟨i - 1, by omega, by rw [Nat.sub_add_cancel i0]; exact ei, is'⟩, fun q v hq hv env => ?_, fun v hv => ?_⟩
        · rw [arcIff q v hq hv]
          refine ⟨fun z => ?_, fun z => ?_⟩
          · rcases z with ⟨i', a1, a2, a3, a4⟩ | ⟨z, -⟩
            · have := cinj i' i (by omega) (by omega) (by rw [a3, env, ei])
              subst this; omega
            · rw [g4 q v hq hv env] at z; exact absurd z (by decide)
          · subst z
            exact Or.inl ⟨i, im, ea, by rw [env]; exact ei, by omega⟩
        · rw [arcIff p v hp hv]
          refine ⟨fun z => ?_, fun z => ?_⟩
          · rcases z with ⟨i', a1, a2, a3, a4⟩ | ⟨z, -⟩
            · have := cinj (i' + 1) (i - 1) (by omega) (by omega) (by rw [a2, is'])
              rw [← a3, ← eo, ← this, Nat.add_sub_cancel]
            · rw [g5 v hv] at z; exact absurd z (by decide)
          · exact Or.inl ⟨i - 1 - 1, by omega, by rw [Nat.sub_add_cancel o0]; exact is', by rw [z]; exact eo, by omega⟩
      · have hin : ∀ i, i ≤ m → c i ≠ p := fun i hi e => IN ⟨i, hi, e⟩
        have hout : ∀ i, i ≤ m → c i ≠ 96 + p := fun o ho e => by
          obtain ⟨o0, om, op, -⟩ := outS p o hp hpf ho e
          rcases op with ⟨z, -⟩ | ⟨w, z1, -, -, z2⟩
          · exact hin (o + 1) (by omega) z
          · exact z2 (g5 w z1)
        refine Or.inl ⟨by rw [beN p hp hin]; exact g1, by rw [ahN p hp hout]; exact g2, ?_, fun q w hq hw en => arc0 q w hq hw (fun z => ?_), fun w hw => arc0 p w hp hw (fun z => ?_)⟩
        · rw [(hU.2 p hp).2.2 (fun ⟨i, a1, a2, _⟩ => hin (i + 1) (by omega) a2) (fun ⟨i, a1, _, a2⟩ => hin i (by omega) a2)]
          exact g3
        · rcases (arcIff q w hq hw).mp z with ⟨i, a1, a2, a3, a4⟩ | ⟨z, -⟩
          · exact hin i (by omega) (by rw [a3]; exact en)
          · rw [g4 q w hq hw en] at z; exact absurd z (by decide)
        · rcases (arcIff p w hp hw).mp z with ⟨i, a1, a2, a3, a4⟩ | ⟨z, -⟩
          · exact hout (i + 1) (by omega) a2
          · rw [g5 w hw] at z; exact absurd z (by decide)
    · -- it was used
      have hT0 : ¬ T p = 0 := by rw [g7]; decide
      have hAb : ∀ q w, q < 96 → w < 4 → p = nb q w → ¬ A (4 * q + w) = 0 → q = b := fun q w hq hw en hn => (g8 q w hq hw en.symm).mp (by
        rcases A01 hF hq hw with ⟨z, -⟩ | ⟨-, z⟩
        · exact absurd z hn
        · exact z)
      have hAa : ∀ w, w < 4 → ¬ A (4 * p + w) = 0 → nb p w = a := fun w hw hn => (g9 w hw).mp (by
        rcases A01 hF hp hw with ⟨z, -⟩ | ⟨-, z⟩
        · exact absurd z hn
        · exact z)
      have hbp : b ≠ p := fun z => nb_ne b g1 wb g3 (by rw [g4, z])
      by_cases EDGE : ∃ i, i < m ∧ c (i + 1) = 96 + p ∧ c i = p
      · -- it is left: free now
        obtain ⟨i, im, e1, e2⟩ := EDGE
        obtain ⟨i0, -, -, is⟩ := inS p i hp hpt (by omega) e2
        obtain ⟨q, w, hq, hw, es, en, hqp, hAq⟩ : ∃ q w, q < 96 ∧ w < 4 ∧ c (i - 1) = 96 + q ∧ p = nb q w ∧ q ≠ p ∧ ¬ A (4 * q + w) = 0 := by
          rcases is with ⟨-, z⟩ | z
          · exact absurd z hT0
          · exact z
        obtain ⟨o0, om, op, -⟩ := outS p (i + 1) hp hpf (by omega) e1
        obtain ⟨wa, hwa, hna, ea, hAp⟩ : ∃ w, w < 4 ∧ nb p w ≠ 200 ∧ c (i + 1 + 1) = nb p w ∧ ¬ A (4 * p + w) = 0 := by
          rcases op with ⟨-, z⟩ | z
          · exact absurd z hT0
          · exact z
        have hqb : q = b := hAb q w hq hw en hAq
        have haa : nb p wa = a := hAa wa hwa hAp
        have ha96 := nb_lt hp hna
        refine Or.inl ⟨beR p q i hp hq i0 im e2 e1 es hqp, ahR p (nb p wa) (i + 1) hp ha96 (by omega) om e1 (by rw [Nat.add_sub_cancel]; exact e2) ea (nb_ne p hp wa hwa) (by rw [g6, haa]), (hU.2 p hp).2.1 ⟨i, im, e1, e2⟩, fun q' v hq' hv env => arc0 q' v hq' hv (fun z => ?_), fun v hv => arc0 p v hp hv (fun z => ?_)⟩
        · rcases (arcIff q' v hq' hv).mp z with ⟨i', a1, a2, a3, a4⟩ | ⟨z, z2⟩
          · have := cinj i' i (by omega) (by omega) (by rw [a3, env, e2])
            subst this
            have : q' = p := by omega
            subst this
            exact nb_ne q' hq' v hv env
          · have : q' = b := (g8 q' v hq' hv env).mp z
            exact z2 ⟨i - 1, by omega, by rw [show i - 1 + 1 = i by omega, env]; exact e2, by rw [es, hqb, this], by omega⟩
        · rcases (arcIff p v hp hv).mp z with ⟨i', a1, a2, a3, a4⟩ | ⟨z, z2⟩
          · have := cinj (i' + 1) (i + 1) (by omega) (by omega) (by rw [a2, e1])
            have : i' = i := by omega
            subst this
            exact nb_ne p hp v hv (by rw [← a3]; exact e2)
          · have hva : nb p v = a := (g9 v hv).mp z
            exact z2 ⟨i + 1, om, by rw [ea, haa, hva], e1, by omega⟩
      · -- it is used still
        have hTp : T' p = 1 := by
          rw [(hU.2 p hp).2.2 (fun ⟨i, a1, a2, a3⟩ => by
            obtain ⟨-, -, -, is⟩ := inS p (i + 1) hp hpt (by omega) a2
            rw [Nat.add_sub_cancel] at is
            rcases is with ⟨-, z⟩ | ⟨q, w, -, -, z, -, z2, -⟩
            · exact hT0 z
            · omega) EDGE]
          exact g7
        have inSide : ∃ b' wb', b' < 96 ∧ wb' < 4 ∧ nb b' wb' = p ∧ be2 p = nI b' ∧ (∀ q w, q < 96 → w < 4 → nb q w = p → (A' (4 * q + w) = 1 ↔ q = b')) := by
          by_cases IN : ∃ i, i ≤ m ∧ c i = p
          · obtain ⟨i, hi, ei⟩ := IN
            obtain ⟨i0, im, ip, is⟩ := inS p i hp hpt hi ei
            obtain ⟨q, w, hq, hw, es, en, hqp, hAq⟩ : ∃ q w, q < 96 ∧ w < 4 ∧ c (i - 1) = 96 + q ∧ p = nb q w ∧ q ≠ p ∧ ¬ A (4 * q + w) = 0 := by
              rcases is with ⟨-, z⟩ | z
              · exact absurd z hT0
              · exact z
            have hqb : q = b := hAb q w hq hw en hAq
            obtain ⟨x, wx, hx, hwx, ex, enx, hxp, -, hAx⟩ : ∃ a w, a < 96 ∧ w < 4 ∧ c (i + 1) = 96 + a ∧ p = nb a w ∧ a ≠ p ∧ kd p = 1 ∧ A (4 * a + w) = 0 := by
              rcases ip with ⟨z, -⟩ | z
              · exact absurd ⟨i, im, z, ei⟩ EDGE
              · exact z
            refine ⟨x, wx, hx, hwx, enx.symm, beA p x i hp hx hpt im ei ex hxp, fun q' v hq' hv env => ?_⟩
            rw [arcIff q' v hq' hv]
            refine ⟨fun z => ?_, fun z => ?_⟩
            · rcases z with ⟨i', a1, a2, a3, a4⟩ | ⟨z, z2⟩
              · have := cinj i' i (by omega) (by omega) (by rw [a3, env, ei])
                subst this; omega
              · have : q' = b := (g8 q' v hq' hv env).mp z
                exact absurd ⟨i - 1, by omega, by rw [show i - 1 + 1 = i by omega, env]; exact ei, by rw [es, hqb, this], by omega⟩ z2
            · subst z
              exact Or.inl ⟨i, im, ex, by rw [env]; exact ei, by omega⟩
          · have hin : ∀ i, i ≤ m → c i ≠ p := fun i hi e => IN ⟨i, hi, e⟩
            refine ⟨b, wb, g1, g3, g4, by rw [beN p hp hin]; exact g5, fun q w hq hw en => ?_⟩
            rw [arcIff q w hq hw, ← g8 q w hq hw en]
            refine ⟨fun z => ?_, fun z => Or.inr ⟨z, fun ⟨i, a1, a2, a3, a4⟩ => hin (i + 1) (by omega) (by rw [a2]; exact en)⟩⟩
            rcases z with ⟨i, a1, a2, a3, a4⟩ | ⟨z, -⟩
            · exact absurd (a3.trans en) (hin i (by omega))
            · exact z
        have outSide : ∃ a', a' < 96 ∧ ah2 p = nI a' ∧ (∀ w, w < 4 → (A' (4 * p + w) = 1 ↔ nb p w = a')) := by
          by_cases OUT : ∃ o, o ≤ m ∧ c o = 96 + p
          · obtain ⟨o, ho, eo⟩ := OUT
            obtain ⟨o0, om, op, os⟩ := outS p o hp hpf ho eo
            obtain ⟨wa, hwa, hna, ea, hAp⟩ : ∃ w, w < 4 ∧ nb p w ≠ 200 ∧ c (o + 1) = nb p w ∧ ¬ A (4 * p + w) = 0 := by
              rcases op with ⟨-, z⟩ | z
              · exact absurd z hT0
              · exact z
            have haa : nb p wa = a := hAa wa hwa hAp
            obtain ⟨w', hw', hn', es, -⟩ : ∃ w, w < 4 ∧ nb p w ≠ 200 ∧ c (o - 1) = nb p w ∧ A (4 * p + w) = 0 := by
              rcases os with ⟨z, -⟩ | z
              · exact absurd ⟨o - 1, by omega, by rw [show o - 1 + 1 = o by omega]; exact eo, z⟩ EDGE
              · exact z
            have hq' := nb_lt hp hn'
            refine ⟨nb p w', hq', ahA p (nb p w') o hp hq' hpf o0 ho eo es (nb_ne p hp w' hw'), fun v hv => ?_⟩
            rw [arcIff p v hp hv]
            refine ⟨fun z => ?_, fun z => ?_⟩
            · rcases z with ⟨i', a1, a2, a3, a4⟩ | ⟨z, z2⟩
              · have := cinj (i' + 1) o (by omega) (by omega) (by rw [a2, eo])
                rw [← a3, ← es, ← this, Nat.add_sub_cancel]
              · have hva : nb p v = a := (g9 v hv).mp z
                exact absurd ⟨o, om, by rw [ea, haa, hva], eo, by omega⟩ z2
            · exact Or.inl ⟨o - 1, by omega, by rw [show o - 1 + 1 = o by omega]; exact eo, by rw [z]; exact es, by omega⟩
          · have hout : ∀ i, i ≤ m → c i ≠ 96 + p := fun i hi e => OUT ⟨i, hi, e⟩
            refine ⟨a, g2, by rw [ahN p hp hout]; exact g6, fun w hw => ?_⟩
            rw [arcIff p w hp hw, ← g9 w hw]
            refine ⟨fun z => ?_, fun z => Or.inr ⟨z, fun ⟨i, a1, a2, a3, a4⟩ => hout i (by omega) a3⟩⟩
            rcases z with ⟨i, a1, a2, a3, a4⟩ | ⟨z, -⟩
            · exact absurd a2 (hout (i + 1) (by omega))
            · exact z
        obtain ⟨b', wb', k1, k2, k3, k4, k5⟩ := inSide
        obtain ⟨a', k6, k7, k8⟩ := outSide
        exact Or.inr ⟨b', a', wb', k1, k6, k2, k3, k4, k7, hTp, k5, k8⟩
end dcut8
