/-! ===== D: scenes ===== -/
def b01 (b : Bool) : Int32 := bif b then 1 else 0
theorem b01_0 (b : Bool) : decide (b01 b = 0) = !b := by cases b <;> rfl
theorem b01_1 (b : Bool) : decide (b01 b = 1) = b := by cases b <;> rfl
theorem li_add (a : Nat) (n : Nat) (x : Int32) (h : x = nI a) : x + nI n = nI (a + n) := by subst h; exact nI_add a n
theorem d_in1 {a b n : Nat} (hb : b < 2147483648) (h1 : a ≤ n) (h2 : n ≤ b) : w_md_in (nI n) (nI a) (nI b) = 1 ∧ w_if_isWithin (nI n) (nI a) (nI b) = 1 := by
  unfold w_md_in w_if_isWithin
  simp (disch := omega) only [nI_dlt, dF, cond_false, and_self]
/-- things, as both have them -/
def RH (at_ va su : Nat → Int32) (tl gn : Int32) (N : Nat → Int32) : Prop :=
  (∀ i, i < 24 → at_ i = N (216 + i) ∧ va i = N (240 + i) ∧ su i = N (264 + i) ∧ N (192 + i) = b01 (bt tl i) ∧ N (288 + i) = b01 (bt gn i)) ∧ (∀ i, 24 ≤ i → bt tl i = false ∧ bt gn i = false)
/-- what is sure of things -/
def VH (at_ va su : Nat → Int32) (tl gn : Int32) : Prop :=
  ∀ i, i < 24 → (∃ p, p < 96 ∧ at_ i = nI p) ∧ (∃ v, v ≤ 9999 ∧ va i = nI v) ∧ (∃ v, v ≤ 9999 ∧ su i = nI v) ∧ (bt tl i = false → va i = 0) ∧ (bt gn i = true → bt tl i = true)
section dthings
variable {at_ va su : Nat → Int32} {tl gn : Int32} {N : Nat → Int32}
theorem d_isTold (tl : Int32) {i : Nat} (hi : i < 32) : w_sc_isTold (nI i) tl = b01 (bt tl i) := by
  unfold w_sc_isTold
  rw [ubit tl hi]
  cases bt tl i <;> rfl
theorem d_isGone (gn : Int32) {i : Nat} (hi : i < 32) : w_sc_isGone (nI i) gn = b01 (bt gn i) := by
  unfold w_sc_isGone
  rw [ubit gn hi]
  cases bt gn i <;> rfl
theorem d_isThing (h : RH at_ va su tl gn N) {i : Nat} (hi : i < 24) : w_md_isThing (nI i) N = b01 (bt tl i) ∧ g_md_isThing (nI i) N = true := by
  obtain ⟨-, -, -, h1, -⟩ := h.1 i hi
  have e := (d_in1 (a := 0) (b := 23) (n := i) (by omega) (by omega) (by omega)).1
  have e2 : (192 : Int32) + nI i = nI (192 + i) := nI_add 192 i
  unfold w_md_isThing g_md_isThing
  rw [show w_md_in (nI i) 0 23 = 1 from e, e2, nI_cl (by omega), h1, nI_zin (by omega), dT (show 192 + i < 315 by omega), b01_1]
  refine ⟨?_, rfl⟩
  cases bt tl i <;> rfl
theorem d_isThing' (N : Nat → Int32) (x : Int32) (hx : w_md_in x 0 23 = 0) : w_md_isThing x N = 0 ∧ g_md_isThing x N = true := by
  unfold w_md_isThing g_md_isThing
  rw [hx]
  exact ⟨rfl, rfl⟩
def lyB (at_ : Nat → Int32) (tl gn : Int32) (i : Nat) (p : Int32) : Bool := bt tl i && (!bt gn i && decide (at_ i = p))
theorem d_isLeftAt {i : Nat} (hi : i < 24) (p : Int32) : w_sc_isLeftAt (nI i) p tl gn at_ = b01 (lyB at_ tl gn i p) ∧ g_sc_isLeftAt (nI i) p tl gn at_ = true := by
  unfold w_sc_isLeftAt g_sc_isLeftAt lyB
  rw [d_isTold tl (by omega), d_isGone gn (by omega), nI_cl (by omega), nI_zin (by omega), dT hi, b01_0, b01_0]
  cases bt tl i <;> cases bt gn i <;> cases decide (at_ i = p) <;> exact ⟨rfl, rfl⟩
theorem d_liesAt (h : RH at_ va su tl gn N) {i : Nat} (hi : i < 24) (p : Int32) : w_md_liesAt (nI i) p N = b01 (lyB at_ tl gn i p) ∧ g_md_liesAt (nI i) p N = true := by
  obtain ⟨h0, -, -, -, h2⟩ := h.1 i hi
  obtain ⟨e1, e3⟩ := d_isThing h hi
  have e4 : (288 : Int32) + nI i = nI (288 + i) := nI_add 288 i
  have e5 : (216 : Int32) + nI i = nI (216 + i) := nI_add 216 i
  unfold w_md_liesAt g_md_liesAt lyB
  rw [e1, e3, e4, e5, nI_cl (by omega), nI_cl (by omega), h2, ← h0, nI_zin (by omega), nI_zin (by omega), dT (show 288 + i < 315 by omega), dT (show 216 + i < 315 by omega), b01_0, b01_0]
  cases bt tl i <;> cases bt gn i <;> cases decide (at_ i = p) <;> exact ⟨rfl, rfl⟩
theorem d_thingsAt (h : RH at_ va su tl gn N) (p : Int32) : w_sc_thingsAt p tl gn at_ = w_md_thingsAt p N := by
  unfold w_sc_thingsAt w_md_thingsAt
  refine zfo_congr 24 0 0 (fun k s _ hk => ?_)
  unfold b_sc_thingsAt b_md_thingsAt
  rw [(d_isLeftAt (i := k) (by omega) p).1, (d_liesAt h (i := k) (by omega) p).1]
theorem d_bareValueAt (h : RH at_ va su tl gn N) (p : Int32) : w_sc_bareValueAt p su tl gn at_ va = w_md_valuesAt p N := by
  unfold w_sc_bareValueAt w_md_valuesAt
  refine zfo_congr 24 0 0 (fun k s _ hk => ?_)
  obtain ⟨-, h2, h3, -, -⟩ := h.1 k (by omega)
  have e4 : (264 : Int32) + nI k = nI (264 + k) := nI_add 264 k
  have e5 : (240 : Int32) + nI k = nI (240 + k) := nI_add 240 k
  unfold b_sc_bareValueAt b_md_valuesAt
  rw [(d_isLeftAt (i := k) (by omega) p).1, (d_liesAt h (i := k) (by omega) p).1, e4, e5, nI_cl (by omega), nI_cl (by omega), nI_cl (by omega), ← h2, ← h3, b01_0]
  cases lyB at_ tl gn k p <;> cases decide (su k = 0) <;> rfl
theorem d_insuredSumAt (h : RH at_ va su tl gn N) (p : Int32) : w_sc_insuredSumAt p tl gn at_ su = w_md_sumsAt p N := by
  unfold w_sc_insuredSumAt w_md_sumsAt
  refine zfo_congr 24 0 0 (fun k s _ hk => ?_)
  obtain ⟨-, -, h3, -, -⟩ := h.1 k (by omega)
  have e4 : (264 : Int32) + nI k = nI (264 + k) := nI_add 264 k
  unfold b_sc_insuredSumAt b_md_sumsAt
  rw [(d_isLeftAt (i := k) (by omega) p).1, (d_liesAt h (i := k) (by omega) p).1, e4, nI_cl (by omega), nI_cl (by omega), ← h3]
/-- a set of 24 bits, put together one by one -/
theorem d_set24 {f : Nat → Int32 → Int32} {t : Nat → Bool} {x : Int32} (hf : ∀ k s, k < 24 → f k s = bif t k then s ||| (1 <<< (nI k &&& 31)) else s) (hx : ∀ i, i < 24 → bt x i = t i) (hh : ∀ i, 24 ≤ i → bt x i = false) : zfo f 24 0 0 = x := by
  have h := zfo_inv (f := f) (P := fun k s => k ≤ 24 → ∀ i, i < 32 → bt s i = (decide (i < k) && bt x i)) 24 0 0 (fun _ i _ => by rw [b_0]; rfl) (fun k s _ hk ih hk2 i hi => by
    have ih := ih (by omega) i hi
    rw [hf k s (by omega)]
    cases ht : t k with
    | false =>
      simp only [cond_false]
      rw [ih]
      by_cases e : i = k
      · subst e
        rw [hx i (by omega), ht, Bool.and_false, Bool.and_false]
      · rw [show decide (i < k) = decide (i < k + 1) from by
          by_cases q : i < k
          · rw [decide_eq_true q, decide_eq_true (by omega)]
          · rw [decide_eq_false q, decide_eq_false (by omega)]]
    | true =>
      simp only [cond_true]
      rw [b_or, ih, bt_shl1 (by omega) hi]
      by_cases e : i = k
      · subst e
        rw [hx i (by omega), ht, decide_eq_true rfl, decide_eq_true (show i < i + 1 by omega), Bool.or_true]
        rfl
      · rw [decide_eq_false e, Bool.or_false, show decide (i < k) = decide (i < k + 1) from by
          by_cases q : i < k
          · rw [decide_eq_true q, decide_eq_true (by omega)]
          · rw [decide_eq_false q, decide_eq_false (by omega)]])
  apply b_ext
  intro i hi
  have h2 : bt (zfo f 24 0 0) i = (decide (i < 24) && bt x i) := h (by omega) i hi
  rw [h2]
  by_cases q : i < 24
  · rw [decide_eq_true q, Bool.true_and]
  · rw [decide_eq_false q, hh i (by omega)]; rfl
theorem d_toldSet (h : RH at_ va su tl gn N) : w_md_toldSet N = tl := by
  unfold w_md_toldSet
  refine d_set24 (t := fun i => bt tl i) (fun k s hk => ?_) (fun _ _ => rfl) (fun i hi => (h.2 i hi).1)
  unfold b_md_toldSet
  rw [(d_isThing h hk).1, b01_0]
  cases bt tl k <;> rfl
theorem d_goneSet (h : RH at_ va su tl gn N) (hv : VH at_ va su tl gn) : w_md_goneSet N = gn := by
  unfold w_md_goneSet
  refine d_set24 (t := fun i => bt gn i) (fun k s hk => ?_) (fun _ _ => rfl) (fun i hi => (h.2 i hi).2)
  obtain ⟨-, -, -, -, h2⟩ := h.1 k hk
  have hg := (hv k hk).2.2.2.2
  have e4 : (288 : Int32) + nI k = nI (288 + k) := nI_add 288 k
  unfold b_md_goneSet
  rw [(d_isThing h hk).1, b01_0, e4, nI_cl (by omega), h2, b01_1]
  cases hq : bt gn k with
  | true => rw [hg hq]; rfl
  | false => cases bt tl k <;> rfl
theorem d_lostValue (h : RH at_ va su tl gn N) (hv : VH at_ va su tl gn) : w_sc_lostValue gn va = w_md_lostAll N := by
  unfold w_sc_lostValue w_md_lostAll
  refine zfo_congr 24 0 0 (fun k s _ hk => ?_)
  obtain ⟨-, h2, -, -, -⟩ := h.1 k (by omega)
  have e5 : (240 : Int32) + nI k = nI (240 + k) := nI_add 240 k
  unfold b_sc_lostValue b_md_lostAll
  rw [d_goneSet h hv, hbit gn (by omega), d_isGone gn (by omega), e5, nI_cl (by omega), nI_cl (by omega), ← h2]
  rfl
end dthings
/-! places -/
theorem d_faring {st N : Nat → Int32} (h : ∀ k, k < 96 → st k = N k) (w : Int32) : w_sc_placesThatAre w st = w_md_faring w N := by
  unfold w_sc_placesThatAre w_md_faring
  refine zfo_congr 96 0 0 (fun k s _ hk => ?_)
  unfold b_sc_placesThatAre b_md_faring
  rw [show (0 : Int32) + nI k = nI k from Int32.zero_add (nI k), nI_cl (by omega), h k (by omega)]
/-- the place beside another one; 200: none -/
def nb (k w : Nat) : Nat := if w = 0 then (if 12 ≤ k then k - 12 else 200) else if w = 1 then (if k % 12 < 11 then k + 1 else 200) else if w = 2 then (if k < 84 then k + 12 else 200) else if 0 < k % 12 then k - 1 else 200
def nbI (k w : Nat) : Int32 := if nb k w = 200 then -1 else nI (nb k w)
theorem d_next : ∀ k, k < 96 → ∀ w, w < 4 → w_if_nextTo (nI k) (nI w) = nbI k w ∧ w_md_beside (nI k) (nI w) = nbI k w := by decide +kernel
theorem nb_lt {k w : Nat} (hk : k < 96) (h : nb k w ≠ 200) : nb k w < 96 := by
  unfold nb at *
  split at h <;> (try split at h) <;> (try split at h) <;> (try split at h) <;> (try split at h) <;> first | (exact absurd rfl h) | (split <;> (try split) <;> (try split) <;> (try split) <;> (try split) <;> omega)
theorem nbI_cases {k w : Nat} (hk : k < 96) : (nbI k w = -1 ∧ nb k w = 200) ∨ (nbI k w = nI (nb k w) ∧ nb k w < 96) := by
  unfold nbI
  by_cases h : nb k w = 200
  · exact Or.inl ⟨if_pos h, h⟩
  · exact Or.inr ⟨if_neg h, nb_lt hk h⟩
theorem d_burningNext {st N : Nat → Int32} (h : ∀ k, k < 96 → st k = N k) {p : Nat} (hp : p < 96) : w_sc_burningNextTo (nI p) st = w_md_burnNextTo (nI p) N ∧ g_sc_burningNextTo (nI p) st = true ∧ g_md_burnNextTo (nI p) N = true := by
  refine ⟨?_, ?_, ?_⟩
  · unfold w_sc_burningNextTo w_md_burnNextTo
    refine zfo_congr 4 0 0 (fun k s _ hk => ?_)
    unfold b_sc_burningNextTo b_md_burnNextTo
    rw [(d_next p hp k (by omega)).1, (d_next p hp k (by omega)).2]
    rcases nbI_cases (w := k) hp with ⟨e, -⟩ | ⟨e, hq⟩
    · rw [e]; rfl
    · rw [e, nI_neg (by omega), nI_nm1 (by omega), show (0 : Int32) + nI (nb p k) = nI (nb p k) from Int32.zero_add _, nI_cl (by omega), h _ hq]
  · unfold g_sc_burningNextTo; rw [nI_zin (by omega)]; exact dT hp
  · unfold g_md_burnNextTo; rw [nI_zin (by omega)]; exact dT hp
/-! a sum over things of what lies at places that are not whole -/
def sumf (f : Nat → Int32) (n : Nat) : Int32 := zfo (fun k s => s + f k) n 0 0
theorem zfo_acc (f : Nat → Int32) : ∀ (n k : Nat) (s : Int32), zfo (fun k s => s + f k) n k s = s + zfo (fun k s => s + f k) n k 0
  | 0, _, s => by show s = s + 0; rw [Int32.add_zero]
  | n + 1, k, s => by
    show zfo _ n (k + 1) (s + f k) = s + zfo _ n (k + 1) (0 + f k)
    rw [zfo_acc f n (k + 1) (s + f k), zfo_acc f n (k + 1) (0 + f k), Int32.zero_add, Int32.add_assoc]
theorem sumf_succ (f : Nat → Int32) (n : Nat) : sumf f (n + 1) = sumf f n + f n := by
  unfold sumf
  rw [zfo_last, Nat.zero_add]
theorem sumf_congr {f g : Nat → Int32} : ∀ {n : Nat}, (∀ k, k < n → f k = g k) → sumf f n = sumf g n
  | 0, _ => rfl
  | n + 1, h => by rw [sumf_succ, sumf_succ, sumf_congr (fun k hk => h k (by omega)), h n (by omega)]
theorem sumf_add (f g : Nat → Int32) : ∀ n, sumf f n + sumf g n = sumf (fun k => f k + g k) n
  | 0 => by show (0 : Int32) + 0 = 0; rfl
  | n + 1 => by
    rw [sumf_succ, sumf_succ, sumf_succ, ← sumf_add f g n]
    rw [Int32.add_assoc, Int32.add_assoc, ← Int32.add_assoc (f n), Int32.add_comm (f n) (sumf g n), Int32.add_assoc]
theorem sumf_zero : ∀ n, sumf (fun _ => 0) n = 0
  | 0 => rfl
  | n + 1 => by rw [sumf_succ, sumf_zero n]; rfl
theorem d_ruins {st at_ va su : Nat → Int32} {tl gn : Int32} {N : Nat → Int32} (hs : ∀ k, k < 96 → st k = N k) (h : RH at_ va su tl gn N) (hv : VH at_ va su tl gn) : q_sc_sumsInFire st at_ su tl gn = some (w_md_sumsInRuins N) := by
  have e1 : ∀ p, p < 96 → w_md_sumsAt (nI p) N = sumf (fun i => bif lyB at_ tl gn i (nI p) then su i else 0) 24 := by
    intro p hp
    unfold w_md_sumsAt sumf
    refine zfo_congr 24 0 0 (fun k s _ hk => ?_)
    obtain ⟨-, -, h3, -, -⟩ := h.1 k (by omega)
    have e4 : (264 : Int32) + nI k = nI (264 + k) := nI_add 264 k
    unfold b_md_sumsAt
    rw [(d_liesAt h (i := k) (by omega) _).1, b01_0, e4, nI_cl (by omega), ← h3]
    show (bif !lyB at_ tl gn k (nI p) then s else s + su k) = s + (bif lyB at_ tl gn k (nI p) then su k else 0)
    cases lyB at_ tl gn k (nI p)
    · show s = s + 0
      rw [Int32.add_zero]
    · rfl
  have key : ∀ m, m ≤ 96 → zfo (b_md_sumsInRuins N) m 0 0 = sumf (fun i => bif (bt tl i && (!bt gn i && (decide ((at_ i).toNatClampNeg < m) && !decide (st (at_ i).toNatClampNeg = 0)))) then su i else 0) 24 := by
    intro m
    induction m with
    | zero =>
      intro _
      refine Eq.symm ((sumf_congr (g := fun _ => 0) (fun k hk => ?_)).trans (sumf_zero 24))
      simp only [Nat.not_lt_zero, decide_false, Bool.false_and, Bool.and_false, cond_false]
    | succ m ih =>
      intro hm
      rw [zfo_last, Nat.zero_add, ih (by omega)]
      unfold b_md_sumsInRuins
      rw [show (0 : Int32) + nI m = nI m from Int32.zero_add _, nI_cl (by omega), e1 m (by omega), ← hs m (by omega)]
      cases hq : decide (st m = 0) with
      | true =>
        simp only [cond_true]
        refine sumf_congr (fun k hk => ?_)
        obtain ⟨⟨p, hp, ep⟩, -⟩ := hv k hk
        rw [ep, nI_cl (by omega)]
        by_cases e : p = m
        · subst e
          simp only [hq, Bool.not_true, Bool.and_false]
        · rw [show decide (p < m) = decide (p < m + 1) from by
            by_cases z : p < m
            · rw [decide_eq_true z, decide_eq_true (by omega)]
            · rw [decide_eq_false z, decide_eq_false (by omega)]]
      | false =>
        simp only [cond_false]
        rw [sumf_add]
        refine sumf_congr (fun k hk => ?_)
        obtain ⟨⟨p, hp, ep⟩, -⟩ := hv k hk
        unfold lyB
        rw [ep, nI_cl (by omega), nI_deq (by omega) (by omega)]
        by_cases e : p = m
        · subst e
          rw [hq, decide_eq_true (rfl : p = p), decide_eq_false (show ¬ p < p by omega), decide_eq_true (show p < p + 1 by omega)]
          cases bt tl k <;> cases bt gn k <;> first | rfl | exact Int32.zero_add _
        · rw [decide_eq_false e, show decide (p < m) = decide (p < m + 1) from by
            by_cases z : p < m
            · rw [decide_eq_true z, decide_eq_true (by omega)]
            · rw [decide_eq_false z, decide_eq_false (by omega)]]
          simp only [Bool.and_false, cond_false]
          exact Int32.add_zero _
  obtain ⟨r, h1, h2⟩ := zlp_one (f := f_sc_sumsInFire_4 st at_ su tl gn) (fun m s => ∃ k, k + m = 24 ∧ s = (sumf (fun i => bif (bt tl i && (!bt gn i && (decide ((at_ i).toNatClampNeg < 96) && !decide (st (at_ i).toNatClampNeg = 0)))) then su i else 0) k, nI k)) (fun r => r = w_md_sumsInRuins N) (by
    rintro m s ⟨k, hk, rfl⟩
    simp only [f_sc_sumsInFire_4, b_sc_sumsInFire_4]
    rw [show (24 : Int32) = nI 24 from rfl]
    by_cases hkn : k = 24
    · right
      subst hkn
      simp (disch := omega) only [nI_dle, dT, cond_true]
      refine ⟨_, rfl, ?_⟩
      unfold w_md_sumsInRuins
      rw [key 96 (by omega)]
    · left
      obtain ⟨⟨p, hp, ep⟩, -⟩ := hv k (by omega)
      refine ⟨m - 1, (sumf _ (k + 1), nI (k + 1)), by omega, ?_, k + 1, by omega, rfl⟩
      rw [sumf_succ]
      simp (disch := omega) only [nI_dle, dF, cond_false, d_isTold, d_isGone, zl, zg, b01_0, nI_cl, nI_zin, dT, cond_true, ep, nI_1]
      cases bt tl k <;> cases bt gn k <;> cases decide (st p = 0) <;> simp only [Bool.not_true, Bool.not_false, Bool.and_true, Bool.and_false, Bool.true_and, Bool.false_and, cond_true, cond_false, Int32.add_zero]) 24 (0, 0) ⟨0, by omega, rfl⟩
  subst h2
  exact h1
