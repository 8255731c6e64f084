/-! ===== D: minutes ===== -/
theorem zlp_rels {σ τ R S : Type} {f : σ → Option (σ ⊕ R)} {g : τ → Option (τ ⊕ S)} (I : Nat → σ → τ → Prop) (Q : R → S → Prop)
    (step : ∀ n s t, I n s t → (∃ m s' t', m < n ∧ f s = some (.inl s') ∧ g t = some (.inl t') ∧ I m s' t') ∨ (∃ m t', m < n ∧ g t = some (.inl t') ∧ I m s t') ∨ (∃ r r', zlp f s = some r ∧ zlp g t = some r' ∧ Q r r')) :
    ∀ n s t, I n s t → ∃ r r', zlp f s = some r ∧ zlp g t = some r' ∧ Q r r' := by
  intro n
  induction n using Nat.strongRecOn with
  | ind n ih =>
    intro s t hI
    rcases step n s t hI with ⟨m, s', t', hm, hf, hg, hI'⟩ | ⟨m, t', hm, hg, hI'⟩ | h
    · obtain ⟨r, r', hr, hr', hQ⟩ := ih m hm s' t' hI'
      exact ⟨r, r', by rw [zlp_in hf]; exact hr, by rw [zlp_in hg]; exact hr', hQ⟩
    · obtain ⟨r, r', hr, hr', hQ⟩ := ih m hm s t' hI'
      exact ⟨r, r', hr, by rw [zlp_in hg]; exact hr', hQ⟩
    · exact h
/-- letters that count are the same -/
def AGL (lu : Int32) (L F : Nat → Int32) : Prop := ∀ i, i < 9 → (i = 2 ∨ i = 3 ∨ i = 4 → bt lu i = true) → L i = F i
/-- the law, as both have it: what its rules come to -/
def LW (ops args rl am co en : Nat → Int32) (ru lu : Int32) (codes cl cf ch ct : Nat → Int32) (cn : Int32) : Prop :=
  ∃ n, n ≤ 16 ∧ ru = nI n ∧ cn = nI n ∧ ∀ q, q < n → rl q = cl q ∧
    (∀ L F, AGL lu L F → ∀ b c, ∃ v b' c', q_lw_run (co q) (en q) ops args b L = some (v, b') ∧ q_md_reckonsTo (ch q) (ct q) codes c F = some (v, c') ∧ (v = 0 ∨ v = 1)) ∧
    (cl q = 98 ∨ cl q = 115 → ∀ L F, AGL lu L F → ∀ b c, ∃ v b' c', q_lw_run (am q) (co q) ops args b L = some (v, b') ∧ q_md_reckonsTo (cf q) (ch q) codes c F = some (v, c'))
/-- how places and things fare, as both have it -/
def RS (st lf at_ va su : Nat → Int32) (tl gn wd mn x : Int32) (N : Nat → Int32) : Prop :=
  (∀ k, k < 96 → st k = N k ∧ lf k = N (96 + k)) ∧ RH at_ va su tl gn N ∧ VH at_ va su tl gn ∧ wd = N 312 ∧ mn = N 313 ∧ x = N 314 ∧ (∃ q, q < 65536 ∧ x = nI q) ∧ (∀ k, k < 96 → st k = 1 → ∃ l, 1 ≤ l ∧ l ≤ 9 ∧ lf k = nI l)
section dlaw
variable {ops args rl am co en : Nat → Int32} {ru lu : Int32} {codes cl cf ch ct : Nat → Int32} {cn : Int32}
theorem d_holdsL (h : LW ops args rl am co en ru lu codes cl cf ch ct cn) {q : Nat} {n : Nat} (hn : ru = nI n) (hq : q < n) (hn16 : n ≤ 16) {L F : Nat → Int32} (hA : AGL lu L F) (b c : Nat → Int32) :
    ∃ (v : Bool) (b' c' : Nat → Int32), q_lw_holds (nI q) ops args b co en L = some (b01 v, b') ∧ q_md_reckonsTo (ch q) (ct q) codes c F = some (b01 v, c') := by
  obtain ⟨n', hn', e1, -, hr⟩ := h
  have en : n' = n := (nI_eq (by omega) (by omega)).mp (by rw [← e1, hn])
  subst en
  obtain ⟨-, h2, -⟩ := hr q hq
  obtain ⟨v, b', c', g1, g2, g3⟩ := h2 L F hA b c
  unfold q_lw_holds
  rw [nI_zin (by omega), dT (by omega), nI_cl (by omega)]
  simp only [zg, cond_true, g1, zbd]
  rcases g3 with rfl | rfl
  · exact ⟨false, b', c', rfl, g2⟩
  · exact ⟨true, b', c', rfl, g2⟩
theorem d_clamp (v z u : Int32) (hz : z ≤ u) : (if z < (if v < u then v else u) then (if v < u then v else u) else z) = (bif decide (z ≤ v) then (bif decide (v ≤ u) then v else u) else z) := by
  rcases d_tri v u with ⟨a, b, c, d, e, f⟩ | ⟨a, b, c, d, e, f⟩ | ⟨rfl, a, b, c, d, e, f⟩
  · rw [if_pos (of_decide_eq_true a), e]
    rcases d_tri z v with ⟨a', b', c', d', e', f'⟩ | ⟨a', b', c', d', e', f'⟩ | ⟨rfl, a', b', c', d', e', f'⟩
    · rw [if_pos (of_decide_eq_true a'), e']; rfl
    · rw [if_neg (of_decide_eq_false a'), e']; rfl
    · rw [if_neg (of_decide_eq_false a'), e']; rfl
  · rw [if_neg (of_decide_eq_false a), e]
    have hzv : decide (z ≤ v) = true := dT (Int32.le_trans hz (of_decide_eq_true f))
    rw [hzv]
    rcases d_tri z u with ⟨a', b', c', d', e', f'⟩ | ⟨a', b', c', d', e', f'⟩ | ⟨rfl, a', b', c', d', e', f'⟩
    · rw [if_pos (of_decide_eq_true a')]; rfl
    · rw [decide_eq_true hz] at e'; cases e'
    · rw [if_neg (of_decide_eq_false a')]; rfl
  · rw [if_neg (of_decide_eq_false a), e]
    rcases d_tri z v with ⟨a', b', c', d', e', f'⟩ | ⟨a', b', c', d', e', f'⟩ | ⟨rfl, a', b', c', d', e', f'⟩
    · rw [if_pos (of_decide_eq_true a'), e']; rfl
    · rw [if_neg (of_decide_eq_false a'), e']; rfl
    · rw [if_neg (of_decide_eq_false a'), e']; rfl
theorem d_amount (h : LW ops args rl am co en ru lu codes cl cf ch ct cn) {L F : Nat → Int32} (hA : AGL lu L F) (x z u : Int32) (hx : x = 98 ∨ x = 115) (hz : z ≤ u) (b c : Nat → Int32) :
    ∃ v b' c', q_lw_amountOf x z u ops args b rl am co en L ru = some (v, b') ∧ q_md_byLaw x z u codes cl cf ch ct c F cn = some (v, c') ∧ z ≤ v ∧ v ≤ u := by
  have h0 := h
  obtain ⟨n, hn, rfl, rfl, hr⟩ := h
  obtain ⟨r, r', h1, h2, v, b', c', rfl, rfl, h3⟩ := zlp_rel (f := f_lw_amountOf_3 x z u ops args rl am co en L (nI n)) (g := f_md_byLaw_3 x z u codes cl cf ch ct F (nI n)) (fun m s t => ∃ k b c, k + m = n ∧ s = (nI k, b) ∧ t = (nI k, c)) (fun r r' => ∃ v b' c', r = (v, b') ∧ r' = (v, c') ∧ z ≤ v ∧ v ≤ u) (by
    rintro m s t ⟨k, b, c, hk, rfl, rfl⟩
    simp only [f_lw_amountOf_3, f_md_byLaw_3, b_lw_amountOf_3, b_md_byLaw_3]
    by_cases hkn : k = n
    · right
      simp (disch := omega) only [nI_dle, dT, cond_true]
      exact ⟨_, _, rfl, rfl, z, b, c, rfl, rfl, Int32.le_refl z, hz⟩
    · obtain ⟨g1, -, g3⟩ := hr k (by omega)
      obtain ⟨v, b', c', p1, p2⟩ := d_holdsL h0 rfl (q := k) (by omega) hn hA b c
      simp (disch := omega) only [nI_dle, dF, cond_false, nI_zin, nI_cl, dT, zg, cond_true, g1, p1, p2, zbd, nI_1]
      cases hd : decide (cl k = x) with
      | false => left; exact ⟨m - 1, _, _, by omega, rfl, rfl, k + 1, b, c, by omega, rfl, rfl⟩
      | true =>
        simp only [Bool.not_true, cond_false]
        cases v with
        | false => left; exact ⟨m - 1, _, _, by omega, rfl, rfl, k + 1, b', c', by omega, rfl, rfl⟩
        | true =>
          right
          obtain ⟨w, b'', c'', p3, p4⟩ := g3 (by rw [of_decide_eq_true hd]; exact hx) L F hA b' c'
          simp only [show decide (b01 true = 0) = false from rfl, show decide (b01 true = 1) = true from rfl, cond_false, cond_true, p3, p4, d_clamp w z u hz]
          rcases d_tri z w with ⟨-, -, -, -, e, -⟩ | ⟨-, -, -, -, e, -⟩ | ⟨-, -, -, -, -, e, -⟩ <;> simp only [e, cond_true, cond_false]
          · rcases d_tri w u with ⟨-, -, -, -, e', -⟩ | ⟨-, -, -, -, e', -⟩ | ⟨-, -, -, -, -, e', -⟩ <;> simp only [e', cond_true, cond_false]
            · exact ⟨_, _, rfl, rfl, _, _, _, rfl, rfl, of_decide_eq_true e, of_decide_eq_true e'⟩
            · exact ⟨_, _, rfl, rfl, _, _, _, rfl, rfl, hz, Int32.le_refl u⟩
            · exact ⟨_, _, rfl, rfl, _, _, _, rfl, rfl, of_decide_eq_true e, of_decide_eq_true e'⟩
          · exact ⟨_, _, rfl, rfl, _, _, _, rfl, rfl, Int32.le_refl z, hz⟩
          · rcases d_tri w u with ⟨-, -, -, -, e', -⟩ | ⟨-, -, -, -, e', -⟩ | ⟨-, -, -, -, -, e', -⟩ <;> simp only [e', cond_true, cond_false]
            · exact ⟨_, _, rfl, rfl, _, _, _, rfl, rfl, of_decide_eq_true e, of_decide_eq_true e'⟩
            · exact ⟨_, _, rfl, rfl, _, _, _, rfl, rfl, hz, Int32.le_refl u⟩
            · exact ⟨_, _, rfl, rfl, _, _, _, rfl, rfl, of_decide_eq_true e, of_decide_eq_true e'⟩) n (0, b) (0, c) ⟨0, b, c, by omega, rfl, rfl⟩
  exact ⟨v, b', c', h1, h2, h3⟩
theorem d_any (h : LW ops args rl am co en ru lu codes cl cf ch ct cn) {L F : Nat → Int32} (hA : AGL lu L F) (x : Int32) (b c : Nat → Int32) :
    ∃ (v : Bool) (b' c' : Nat → Int32), q_lw_anyHolds x ops args b rl co en L ru = some (b01 v, b') ∧ q_md_holdsAny x codes cl ch ct c F cn = some (b01 v, c') := by
  have h0 := h
  obtain ⟨n, hn, rfl, rfl, hr⟩ := h
  obtain ⟨r, r', h1, h2, v, b', c', rfl, rfl⟩ := zlp_rel (f := f_lw_anyHolds_2 x ops args rl co en L (nI n)) (g := f_md_holdsAny_2 x codes cl ch ct F (nI n)) (fun m s t => ∃ k b c, k + m = n ∧ s = (nI k, b) ∧ t = (nI k, c)) (fun r r' => ∃ (v : Bool) (b' c' : Nat → Int32), r = (b01 v, b') ∧ r' = (b01 v, c')) (by
    rintro m s t ⟨k, b, c, hk, rfl, rfl⟩
    simp only [f_lw_anyHolds_2, f_md_holdsAny_2, b_lw_anyHolds_2, b_md_holdsAny_2]
    by_cases hkn : k = n
    · right
      simp (disch := omega) only [nI_dle, dT, cond_true]
      exact ⟨_, _, rfl, rfl, false, b, c, rfl, rfl⟩
    · obtain ⟨g1, -, -⟩ := hr k (by omega)
      obtain ⟨v, b', c', p1, p2⟩ := d_holdsL h0 rfl (q := k) (by omega) hn hA b c
      simp (disch := omega) only [nI_dle, dF, cond_false, nI_zin, nI_cl, dT, zg, cond_true, g1, p1, p2, zbd, nI_1]
      cases decide (cl k = x) with
      | false => left; exact ⟨m - 1, _, _, by omega, rfl, rfl, k + 1, b, c, by omega, rfl, rfl⟩
      | true =>
        simp only [Bool.not_true, cond_false]
        cases v with
        | false => left; exact ⟨m - 1, _, _, by omega, rfl, rfl, k + 1, b', c', by omega, rfl, rfl⟩
        | true => right; exact ⟨_, _, rfl, rfl, true, b', c', rfl, rfl⟩) n (0, b) (0, c) ⟨0, b, c, by omega, rfl, rfl⟩
  exact ⟨v, b', c', h1, h2⟩
end dlaw
theorem d_asks (lu : Int32) {i : Nat} (hi : i < 32) : w_lw_asksFor (nI i) lu = b01 (bt lu i) := by
  unfold w_lw_asksFor
  rw [ubit lu hi]
  cases bt lu i <;> rfl
theorem d_letters {st lf at_ va su : Nat → Int32} {tl gn wd mn x : Int32} {N : Nat → Int32} (h : RS st lf at_ va su tl gn wd mn x N) (lu : Int32) {p : Nat} (hp : p < 96) (u v w : Int32) (L F : Nat → Int32) :
    g_fr_setLetters (nI p) u v w lu st L wd mn tl gn at_ su va = true ∧ g_md_feels (nI p) u v w N F = true ∧ AGL lu (a0_fr_setLetters (nI p) u v w lu st L wd mn tl gn at_ su va) (a0_md_feels (nI p) u v w N F) := by
  obtain ⟨h1, h2, h3, rfl, rfl, h6, h7, h8⟩ := h
  have hb := d_burningNext (st := st) (N := N) (fun k hk => (h1 k hk).1) hp
  have hv := d_bareValueAt h2 (nI p)
  have hs := d_insuredSumAt h2 (nI p)
  have a2 : w_lw_asksFor 2 lu = b01 (bt lu 2) := d_asks lu (i := 2) (by omega)
  have a3 : w_lw_asksFor 3 lu = b01 (bt lu 3) := d_asks lu (i := 3) (by omega)
  have a4 : w_lw_asksFor 4 lu = b01 (bt lu 4) := d_asks lu (i := 4) (by omega)
  refine ⟨?_, ?_, ?_⟩
  · unfold g_fr_setLetters
    rw [a2, a3, a4, hb.2.1, b01_0, b01_0, b01_0]
    cases bt lu 2 <;> cases bt lu 3 <;> cases bt lu 4 <;> rfl
  · unfold g_md_feels
    rw [hb.2.2]
    rfl
  · intro i hi hq
    unfold a0_fr_setLetters a0_md_feels
    rw [a2, a3, a4, b01_0, b01_0, b01_0]
    have h9 : i = 0 ∨ i = 1 ∨ i = 2 ∨ i = 3 ∨ i = 4 ∨ i = 5 ∨ i = 6 ∨ i = 7 ∨ i = 8 := by omega
    rcases h9 with rfl | rfl | rfl | rfl | rfl | rfl | rfl | rfl | rfl
    · cases bt lu 2 <;> cases bt lu 3 <;> cases bt lu 4 <;> rfl
    · cases bt lu 2 <;> cases bt lu 3 <;> cases bt lu 4 <;> rfl
    · rw [hq (Or.inl rfl)]
      cases bt lu 3 <;> cases bt lu 4 <;> exact hb.1
    · rw [hq (Or.inr (Or.inl rfl))]
      cases bt lu 2 <;> cases bt lu 4 <;> exact hv
    · rw [hq (Or.inr (Or.inr rfl))]
      cases bt lu 2 <;> cases bt lu 3 <;> exact hs
    · cases bt lu 2 <;> cases bt lu 3 <;> cases bt lu 4 <;> rfl
    · cases bt lu 2 <;> cases bt lu 3 <;> cases bt lu 4 <;> rfl
    · cases bt lu 2 <;> cases bt lu 3 <;> cases bt lu 4 <;> rfl
    · cases bt lu 2 <;> cases bt lu 3 <;> cases bt lu 4 <;> rfl
theorem d_draw {x : Int32} {N : Nat → Int32} (hx : x = N 314) (hq : ∃ q, q < 65536 ∧ x = nI q) : ∃ q' d, q' < 65536 ∧ w_sc_draw x = nI d ∧ f0_sc_draw x = nI q' ∧ g_md_draws N = true ∧ w_md_draws N = nI d ∧ a0_md_draws N = zup N 314 (nI q') := by
  obtain ⟨q, hq, rfl⟩ := hq
  have e1 : (25173 : Int32) * nI q + 13849 = nI (25173 * q + 13849) := by rw [show (25173 : Int32) = nI 25173 from rfl, show (13849 : Int32) = nI 13849 from rfl, pk_mul, nI_add]
  have e2 : nI (25173 * q + 13849) &&& 65535 = nI ((25173 * q + 13849) % 65536) := pk_andN (by omega) 16 (by decide)
  have e3 : nI (25173 * q + 13849) - nI (25173 * q + 13849) / 65536 * 65536 = nI ((25173 * q + 13849) % 65536) := pk_rem (d := 65536) (by omega) (by omega) (by omega)
  have e4 : nI ((25173 * q + 13849) % 65536) - nI ((25173 * q + 13849) % 65536) / 10 * 10 = nI ((25173 * q + 13849) % 65536 % 10) := pk_rem (d := 10) (by omega) (by omega) (by omega)
  have e5 : (314 : Int32).toNatClampNeg = 314 := rfl
  refine ⟨(25173 * q + 13849) % 65536, (25173 * q + 13849) % 65536 % 10, by omega, ?_, ?_, rfl, ?_, ?_⟩
  · unfold w_sc_draw; rw [e1, e2, e4]
  · unfold f0_sc_draw; rw [e1, e2]
  · unfold w_md_draws; rw [e5, zup_same, ← hx, e1, e3, e4]
  · unfold a0_md_draws; rw [e5, ← hx, e1, e3]
/-- a scene with another number drawn -/
theorem RS_draw {st lf at_ va su : Nat → Int32} {tl gn wd mn x : Int32} {N : Nat → Int32} (h : RS st lf at_ va su tl gn wd mn x N) {q : Nat} (hq : q < 65536) : RS st lf at_ va su tl gn wd mn (nI q) (zup N 314 (nI q)) := by
  obtain ⟨h1, h2, h3, h4, h5, h6, h7, h8⟩ := h
  refine ⟨fun k hk => ?_, ⟨fun i hi => ?_, h2.2⟩, h3, ?_, ?_, ?_, ⟨q, hq, rfl⟩, h8⟩
  · rw [zup_ne (by omega), zup_ne (by omega)]; exact h1 k hk
  · rw [zup_ne (by omega), zup_ne (by omega), zup_ne (by omega), zup_ne (by omega), zup_ne (by omega)]; exact h2.1 i hi
  · rw [zup_ne (by omega)]; exact h4
  · rw [zup_ne (by omega)]; exact h5
  · rw [zup_same]
/-- a scene with a place's state and minutes set -/
theorem RS_set {st lf at_ va su : Nat → Int32} {tl gn wd mn x : Int32} {N : Nat → Int32} (h : RS st lf at_ va su tl gn wd mn x N) {p : Nat} (hp : p < 96) (s l : Int32) (hl : s = 1 → ∃ m, 1 ≤ m ∧ m ≤ 9 ∧ l = nI m) : RS (zup st p s) (zup lf p l) at_ va su tl gn wd mn x (zup (zup N (96 + p) l) p s) := by
  obtain ⟨h1, h2, h3, h4, h5, h6, h7, h8⟩ := h
  refine ⟨fun k hk => ?_, ⟨fun i hi => ?_, h2.2⟩, h3, ?_, ?_, ?_, h7, fun k hk => ?_⟩
  · by_cases e : k = p
    · subst e
      rw [zup_same, zup_same, zup_same, zup_ne (show 96 + k ≠ k by omega), zup_same]; exact ⟨rfl, rfl⟩
    · rw [zup_ne e, zup_ne e, zup_ne e, zup_ne (show k ≠ 96 + p by omega), zup_ne (show 96 + k ≠ p by omega), zup_ne (show 96 + k ≠ 96 + p by omega)]; exact h1 k hk
  · rw [zup_ne (by omega), zup_ne (by omega), zup_ne (by omega), zup_ne (by omega), zup_ne (by omega), zup_ne (by omega), zup_ne (by omega), zup_ne (by omega), zup_ne (by omega), zup_ne (by omega)]; exact h2.1 i hi
  · rw [zup_ne (by omega), zup_ne (by omega)]; exact h4
  · rw [zup_ne (by omega), zup_ne (by omega)]; exact h5
  · rw [zup_ne (by omega), zup_ne (by omega)]; exact h6
  · by_cases e : k = p
    · subst e
      rw [zup_same, zup_same]; exact hl
    · rw [zup_ne e, zup_ne e]; exact h8 k hk
theorem zup_swap {α : Type} {f : Nat → α} {a b : Nat} {x y : α} (h : a ≠ b) : zup (zup f a x) b y = zup (zup f b y) a x := zup_comm h
section dfire
variable {ops args rl am co en : Nat → Int32} {ru lu : Int32} {codes cl cf ch ct : Nat → Int32} {cn : Int32}
/-- one way -/
theorem d_way (hW : LW ops args rl am co en ru lu codes cl cf ch ct cn) {kd K : Nat → Int32} (hK : KA 96 kd K) {st lf at_ va su : Nat → Int32} {tl gn wd mn x : Int32} {N : Nat → Int32} (h : RS st lf at_ va su tl gn wd mn x N) {p w : Nat} (hp : p < 96) (hw : w < 4) (b L c F : Nat → Int32) :
    ∃ st' lf' b' L' x' N' c' F', q_fr_tryWay (nI p) (nI w) kd st lf at_ va su ops args b rl am co en L tl gn wd mn x lu ru = some (st', lf', b', L', x') ∧ q_md_goesOver (nI p) (nI w) N K codes cl cf ch ct c F cn = some (N', c', F') ∧ RS st' lf' at_ va su tl gn wd mn x' N' ∧ (∀ k, k < 96 → st k ≠ 0 → st' k = st k ∧ lf' k = lf k) := by
  have hn := d_next p hp w hw
  unfold q_fr_tryWay q_md_goesOver
  rw [hn.1, hn.2]
  rcases nbI_cases (w := w) hp with ⟨e, -⟩ | ⟨e, hq⟩
  · rw [e]
    refine ⟨st, lf, b, L, x, N, c, F, rfl, rfl, h, fun k _ _ => ⟨rfl, rfl⟩⟩
  · rw [e]
    generalize nb p w = q at hq
    have e0 : (0 : Int32) + nI q = nI q := Int32.zero_add _
    have e96 : (96 : Int32) + nI q = nI (96 + q) := nI_add 96 q
    have e96p : (96 : Int32) + nI p = nI (96 + p) := nI_add 96 p
    have hw1 := d_isWood (c := K) hq
    have hww : g_sc_isWholeWood (nI q) kd st = true ∧ w_sc_isWholeWood (nI q) kd st = b01 (decide (K q = 1) && decide (st q = 0)) := by
      unfold g_sc_isWholeWood w_sc_isWholeWood
      rw [nI_cl (by omega), nI_zin (by omega), dT hq, hK q hq]
      cases decide (K q = 1) <;> cases decide (st q = 0) <;> exact ⟨rfl, rfl⟩
    obtain ⟨h1, h2, h3, h4, h5, h6, h7, h8⟩ := id h
    simp (disch := omega) only [zl, nI_neg, cond_false, hww, hw1, zg, cond_true, b01_0, e0, e96, e96p, nI_zin, nI_cl, dT, ← (h1 q hq).1]
    by_cases hk : K q = 1
    · by_cases hs : st q = 0
      · rw [dT hk, dT hs]
        simp only [Bool.and_self, Bool.not_true, cond_false, Bool.not_false, cond_true]
        have hl := d_letters h lu hq (lf p) (nI w) 0 L F
        rw [(h1 p hp).2] at hl
        obtain ⟨v, b', c', q1, q2, -, -⟩ := d_amount hW hl.2.2 115 0 10 (Or.inr rfl) (by decide) b c
        obtain ⟨x', d, hx', w1, w2, w3, w4, w5⟩ := d_draw h6 h7
        have hR' := RS_draw h hx'
        rw [(h1 p hp).2]
        simp only [hl.1, hl.2.1, q1, q2, zbd, w1, w2, w3, w4, w5, cond_true]
        rcases d_tri (nI d) v with ⟨a, b1, c1, d1, e1, f1⟩ | ⟨a, b1, c1, d1, e1, f1⟩ | ⟨-, a, b1, c1, d1, e1, f1⟩
        · -- it goes over
          have hl2 := d_letters hR' lu hq 0 0 0 (a0_fr_setLetters (nI q) (N (96 + p)) (nI w) 0 lu st L wd mn tl gn at_ su va) (a0_md_feels (nI q) (N (96 + p)) (nI w) 0 N F)
          obtain ⟨v2, b2, c2, q3, q4, g1, g2⟩ := d_amount hW hl2.2.2 98 1 9 (Or.inl rfl) (by decide) b' c'
          have gs : g_sc_setState (nI q) 1 v2 st lf = true := by unfold g_sc_setState; rw [nI_zin (by omega), dT hq]; rfl
          have hv2 : ∃ m, 1 ≤ m ∧ m ≤ 9 ∧ v2 = nI m := by
            obtain ⟨m, rfl, hm1, hm2⟩ := nI_within (x := v2) (a := 1) (b := 9) (by omega) (fun hh => absurd g1 (by rw [Int32.not_le]; exact hh)) (fun hh => absurd g2 (by rw [Int32.not_le]; exact hh)) (by omega)
            exact ⟨m, hm1, hm2, rfl⟩
          simp only [a, f1, cond_true, cond_false, hl2.1, hl2.2.1, q3, q4, gs]
          refine ⟨_, _, _, _, _, _, _, _, rfl, rfl, ?_, fun k hk1 hk2 => ?_⟩
          · have := RS_set hR' hq 1 v2 (fun _ => hv2)
            unfold a0_sc_setState a1_sc_setState
            rw [nI_cl (by omega)]
            exact this
          · unfold a0_sc_setState a1_sc_setState
            rw [nI_cl (by omega)]
            have : k ≠ q := fun e => hk2 (by rw [e]; exact hs)
            rw [zup_ne this, zup_ne this]
            exact ⟨rfl, rfl⟩
        · simp only [a, f1, cond_true, cond_false]
          exact ⟨_, _, _, _, _, _, _, _, rfl, rfl, hR', fun k _ _ => ⟨rfl, rfl⟩⟩
        · simp only [a, f1, cond_true, cond_false]
          exact ⟨_, _, _, _, _, _, _, _, rfl, rfl, hR', fun k _ _ => ⟨rfl, rfl⟩⟩
      · rw [dT hk, dF hs]
        exact ⟨st, lf, b, L, x, N, c, F, rfl, rfl, h, fun k _ _ => ⟨rfl, rfl⟩⟩
    · rw [dF hk]
      exact ⟨st, lf, b, L, x, N, c, F, rfl, rfl, h, fun k _ _ => ⟨rfl, rfl⟩⟩
end dfire
