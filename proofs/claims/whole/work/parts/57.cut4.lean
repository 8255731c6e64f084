/-! ===== D: breaks: one search, both in step ===== -/
section dcut4
variable {fr to : Nat} {kd T A ah be K : Nat → Int32}
theorem BQ_fold {y : Nat} (hy : y < 192) : ∀ (l : List Nat) (d : Nat) (s s' : aS), (∀ x ∈ l, x < 192) → BQ fr d s s' → aG s → ∃ d', BQ fr d' (aF y l s) (aF (enc y) (mL fr l) s') ∧ (d' = d ∨ (d = 1000 ∧ s.2.2 ≤ d' ∧ d' < 1000))
  | [], d, s, s', _, h, _ => ⟨d, h, Or.inl rfl⟩
  | x :: l, d, s, s', hl, h, hG => by
    have hx := hl x List.mem_cons_self
    have hl' : ∀ z ∈ l, z < 192 := fun z hz => hl z (List.mem_cons_of_mem _ hz)
    have hG' := aV_good hG hx hy
    have hle := aG_le hG
    by_cases e : x = fr
    · obtain ⟨d1, h1, h2⟩ := BQ_dead h hG hy
      have em : mL fr (x :: l) = mL fr l := by
        unfold mL
        rw [List.filter_cons_of_neg (by rw [dT e]; decide)]
      rw [em]
      have e' : aV x y s = aV fr y s := by rw [e]
      obtain ⟨d2, h3, h4⟩ := BQ_fold hy l d1 (aV x y s) s' hl' (by rw [e']; exact h1) hG'
      have hX := (aV_X x y s).1
      refine ⟨d2, h3, ?_⟩
      rcases h2 with rfl | ⟨q1, q2⟩
      · rcases h4 with rfl | ⟨r1, r2, r3⟩
        · exact Or.inl rfl
        · exact Or.inr ⟨r1, by omega, r3⟩
      · rcases h4 with rfl | ⟨r1, r2, r3⟩
        · exact Or.inr ⟨q1, by omega, by omega⟩
        · exact Or.inr ⟨q1, by omega, r3⟩
    · have em : mL fr (x :: l) = enc x :: mL fr l := by
        unfold mL
        rw [List.filter_cons_of_pos (by rw [dF e]; rfl)]
        rfl
      rw [em]
      obtain ⟨d2, h3, h4⟩ := BQ_fold hy l d (aV x y s) (aV (enc x) (enc y) s') hl' (BQ_visit h hG hx e hy) hG'
      have hX := (aV_X x y s).1
      refine ⟨d2, h3, ?_⟩
      rcases h4 with rfl | ⟨r1, r2, r3⟩
      · exact Or.inl rfl
      · exact Or.inr ⟨r1, by omega, r3⟩
/-- the queue of the model holds such nodes alone -/
def mQ (fr : Nat) (s : aS) : Prop := ∀ i, i < s.2.2 → ∃ v, v < 192 ∧ v ≠ fr ∧ s.2.1 i = nI (enc v)
theorem mQ_visit {x y : Nat} {s : aS} (h : mQ fr s) (hx : x < 192) (hxf : x ≠ fr) : mQ fr (aV (enc x) y s) := by
  by_cases e : s.1 (enc x) = -1
  · rw [aV_new e]
    intro i hi
    have hi : i < s.2.2 + 1 := hi
    show ∃ v, v < 192 ∧ v ≠ fr ∧ zup s.2.1 s.2.2 (nI (enc x)) i = nI (enc v)
    by_cases q : i = s.2.2
    · subst q; exact ⟨x, hx, hxf, zup_same⟩
    · rw [zup_ne q]; exact h i (by omega)
  · rw [aV_old e]; exact h
theorem mQ_fold {y : Nat} : ∀ (l : List Nat) (s : aS), (∀ x ∈ l, x < 192) → mQ fr s → mQ fr (aF y (mL fr l) s)
  | [], _, _, h => h
  | x :: l, s, hl, h => by
    have hx := hl x List.mem_cons_self
    have hl' : ∀ z ∈ l, z < 192 := fun z hz => hl z (List.mem_cons_of_mem _ hz)
    by_cases e : x = fr
    · have em : mL fr (x :: l) = mL fr l := by
        unfold mL
        rw [List.filter_cons_of_neg (by rw [dT e]; decide)]
      rw [em]
      exact mQ_fold l s hl' h
    · have em : mL fr (x :: l) = enc x :: mL fr l := by
        unfold mL
        rw [List.filter_cons_of_pos (by rw [dF e]; rfl)]
        rfl
      rw [em]
      exact mQ_fold l _ hl' (mQ_visit h hx e)
/-- the model's search goes on till it takes the aim out of its queue -/
theorem d_mdRest (hF : FR fr to kd T A ah be) (hK : KA 96 kd K) {j : Nat} : ∀ (m k : Nat) (s : aS), m + k = j → aG s → mQ fr s → j < s.2.2 → s.2.1 j = nI (2 * to) → ∃ s', l_md_findsWay_43 (nI fr) (nI to) K ah be (nI k) s.2.1 s.1 (nI s.2.2) = some (1, s'.2.1, s'.1, nI s'.2.2) ∧ aX s s' := by
  intro m
  induction m with
  | zero =>
    intro k s hk hG hQ hj hjQ
    have : k = j := by omega
    subst this
    exact ⟨s, zlp_out (d_mdTo hF hG hj (Or.inl rfl) hjQ), aX_refl s⟩
  | succ m ih =>
    intro k s hk hG hQ hj hjQ
    obtain ⟨v, hv, hvf, eQ⟩ := hQ k (by omega)
    by_cases e1 : v = to
    · subst e1
      rw [enc_in hF.2.1] at eQ
      exact ⟨s, zlp_out (d_mdTo hF hG (by omega) (Or.inl rfl) eQ), aX_refl s⟩
    · by_cases e2 : v = 96 + to
      · subst e2
        rw [enc_out] at eQ
        exact ⟨s, zlp_out (d_mdTo hF hG (by omega) (Or.inr rfl) eQ), aX_refl s⟩
      · have st := d_mdNode hF hK hv hvf e1 e2 hG (show k < s.2.2 by omega) eQ
        have hl := cN_lt (kd := kd) (T := T) (A := A) hv
        have hX := aF_X (enc v) (mL fr (cN kd T A v)) s
        obtain ⟨s', g1, g2⟩ := ih (k + 1) (aF (enc v) (mL fr (cN kd T A v)) s) (by omega) (aF_good (enc_lt hv) hG (mL_lt hl)) (mQ_fold _ _ hl hQ) (Nat.lt_of_lt_of_le hj hX.1) ((hX.2.2 j hj).trans hjQ)
        exact ⟨s', (zlp_in st).trans g1, aX_tr hX g2⟩
/-- how each node was come to -/
def BI (kd T A : Nat → Int32) (s0 : Nat) (s : aS) (ix : Nat → Nat) : Prop := ∀ v, v < 192 → s.1 v ≠ -1 → ix v < s.2.2 ∧ s.2.1 (ix v) = nI v ∧ (v = s0 ∨ ∃ u, u < 192 ∧ s.1 v = nI u ∧ s.1 u ≠ -1 ∧ ix u < ix v ∧ v ∈ cN kd T A u)
theorem BI_visit {s0 x y : Nat} {s : aS} {ix : Nat → Nat} (h : BI kd T A s0 s ix) (hG : aG s) (hy : y < 192) (hs : s.1 y ≠ -1) (hx : x < 192) (hm : x ∈ cN kd T A y) : ∃ ix', BI kd T A s0 (aV x y s) ix' := by
  by_cases e : s.1 x = -1
  · rw [aV_new e]
    refine ⟨fun v => if v = x then s.2.2 else ix v, fun v hv hne => ?_⟩
    show (if v = x then s.2.2 else ix v) < s.2.2 + 1 ∧ zup s.2.1 s.2.2 (nI x) (if v = x then s.2.2 else ix v) = nI v ∧ (v = s0 ∨ ∃ u, u < 192 ∧ zup s.1 x (nI y) v = nI u ∧ zup s.1 x (nI y) u ≠ -1 ∧ (if u = x then s.2.2 else ix u) < (if v = x then s.2.2 else ix v) ∧ v ∈ cN kd T A u)
    by_cases ev : v = x
    · subst ev
      have hyx : y ≠ v := fun q => hs (by rw [q]; exact e)
      rw [if_pos rfl, zup_same]
      refine ⟨Nat.lt_succ_self _, rfl, Or.inr ⟨y, hy, zup_same, ?_, ?_, hm⟩⟩
      · rw [zup_ne hyx]; exact hs
      · rw [if_neg hyx]; exact (h y hy hs).1
    · have hne : s.1 v ≠ -1 := by
        have hne : zup s.1 x (nI y) v ≠ -1 := hne
        rw [zup_ne ev] at hne
        exact hne
      obtain ⟨p1, p2, p3⟩ := h v hv hne
      rw [if_neg ev, zup_ne (by omega)]
      refine ⟨by omega, p2, ?_⟩
      rcases p3 with p3 | ⟨u, q1, q2, q3, q4, q5⟩
      · exact Or.inl p3
      · have hux : u ≠ x := fun q => q3 (by rw [q]; exact e)
        exact Or.inr ⟨u, q1, by rw [zup_ne ev]; exact q2, by rw [zup_ne hux]; exact q3, by rw [if_neg hux]; exact q4, q5⟩
  · rw [aV_old e]
    exact ⟨ix, h⟩
theorem BI_fold {s0 y : Nat} (hy : y < 192) : ∀ (l : List Nat) (s : aS) (ix : Nat → Nat), (∀ x ∈ l, x < 192 ∧ x ∈ cN kd T A y) → BI kd T A s0 s ix → aG s → s.1 y ≠ -1 → ∃ ix', BI kd T A s0 (aF y l s) ix'
  | [], s, ix, _, h, _, _ => ⟨ix, h⟩
  | x :: l, s, ix, hl, h, hG, hs => by
    have hx := hl x List.mem_cons_self
    obtain ⟨ix1, h1⟩ := BI_visit h hG hy hs hx.1 hx.2
    exact BI_fold hy l (aV x y s) ix1 (fun z hz => hl z (List.mem_cons_of_mem _ hz)) h1 (aV_good hG hx.1 hy) (by rw [(aV_X x y s).2.1 y hs]; exact hs)
/-- what goes out of a way in is a way out, and so on -/
theorem cO_mem {p x : Nat} (hp : p < 96) (h : x ∈ cO kd T A p) : (x = p ∧ ¬ T p = 0) ∨ (∃ w, w < 4 ∧ nb p w ≠ 200 ∧ x = nb p w ∧ kd x = 1 ∧ A (4 * p + w) = 0) := by
  have key : ∀ w, w ≤ 4 → x ∈ cws kd A p w → ∃ w, w < 4 ∧ nb p w ≠ 200 ∧ x = nb p w ∧ kd x = 1 ∧ A (4 * p + w) = 0 := by
    intro w
    induction w with
    | zero => intro _ h; cases h
    | succ w ih =>
      intro hw h
      rcases List.mem_append.mp h with h | h
      · exact ih (by omega) h
      · unfold cw at h
        by_cases e : nb p w = 200
        · rw [dT e] at h; cases h
        · rw [dF e] at h
          by_cases e1 : kd (nb p w) = 1
          · by_cases e2 : A (4 * p + w) = 0
            · rw [dT e1, dT e2] at h
              have := List.mem_singleton.mp h
              subst this
              exact ⟨w, by omega, e, rfl, e1, e2⟩
            · rw [dT e1, dF e2] at h; cases h
          · rw [dF e1] at h; cases h
  rcases List.mem_append.mp h with h | h
  · exact Or.inr (key 4 (by omega) h)
  · by_cases e : T p = 0
    · rw [dT e] at h; cases h
    · rw [dF e] at h
      exact Or.inl ⟨List.mem_singleton.mp h, e⟩
theorem cI_mem {p x : Nat} (hp : p < 96) (h : x ∈ cI kd T A p) : (x = 96 + p ∧ T p = 0) ∨ (∃ w, w < 4 ∧ nb p w ≠ 200 ∧ x = 96 + nb p w ∧ ¬ A (4 * nb p w + nbo w) = 0) := by
  have key : ∀ w, w ≤ 4 → x ∈ ews kd A p w → ∃ w, w < 4 ∧ nb p w ≠ 200 ∧ x = 96 + nb p w ∧ ¬ A (4 * nb p w + nbo w) = 0 := by
    intro w
    induction w with
    | zero => intro _ h; cases h
    | succ w ih =>
      intro hw h
      rcases List.mem_append.mp h with h | h
      · exact ih (by omega) h
      · unfold ew at h
        by_cases e : nb p w = 200
        · rw [dT e] at h; cases h
        · rw [dF e] at h
          by_cases e1 : kd (nb p w) = 1
          · by_cases e2 : A (4 * nb p w + nbo w) = 0
            · rw [dT e1, dT e2] at h; cases h
            · rw [dT e1, dF e2] at h
              exact ⟨w, by omega, e, List.mem_singleton.mp h, e2⟩
          · rw [dF e1] at h; cases h
  rcases List.mem_append.mp h with h | h
  · by_cases e : T p = 0
    · rw [dT e] at h
      exact Or.inl ⟨List.mem_singleton.mp h, e⟩
    · rw [dF e] at h; cases h
  · exact Or.inr (key 4 (by omega) h)
/-- the way out of the aim is come to only by its way in -/
theorem outTo (hF : FR fr to kd T A ah be) {s : aS} {ix : Nat → Nat} (h : BI kd T A (96 + fr) s ix) (hs : s.1 to = -1) : s.1 (96 + to) = -1 := by
  have hto := hF.2.1
  by_cases e : s.1 (96 + to) = -1
  · exact e
  · obtain ⟨-, -, p3⟩ := h (96 + to) (by omega) e
    rcases p3 with p3 | ⟨u, q1, q2, q3, q4, q5⟩
    · exact absurd p3 (by have := hF.2.2.1; omega)
    · by_cases hu : u < 96
      · rw [cN_in hu] at q5
        rcases cI_mem hu q5 with ⟨r1, -⟩ | ⟨w, r1, r2, r3, r4⟩
        · have : u = to := by omega
          subst this
          exact absurd hs q3
        · have hnt : nb u w = to := by omega
          have ho := nb_opp u hu w r1 r2
          rw [hnt] at ho r4
          rcases hF.2.2.2.2.1 to (nbo w) hto ho.2 with z | ⟨-, -, -, z, -⟩
          · exact absurd z r4
          · exact absurd rfl z
      · obtain ⟨p, rfl⟩ : ∃ p, u = 96 + p := ⟨u - 96, by omega⟩
        rw [cN_out] at q5
        rcases cO_mem (by omega) q5 with ⟨r1, -⟩ | ⟨w, r1, r2, r3, -⟩
        · omega
        · have := nb_lt (show p < 96 by omega) r2
          omega
end dcut4
