/-! ===== D: breaks: the flow as both have it; a node of the model ===== -/
def FU (T A ah be : Nat → Int32) (p : Nat) : Prop :=
  (be p = -1 ∧ ah p = -1 ∧ T p = 0 ∧ (∀ q w, q < 96 → w < 4 → nb q w = p → A (4 * q + w) = 0) ∧ (∀ w, w < 4 → A (4 * p + w) = 0)) ∨
  (∃ b a wb, b < 96 ∧ a < 96 ∧ wb < 4 ∧ nb b wb = p ∧ be p = nI b ∧ ah p = nI a ∧ T p = 1 ∧ (∀ q w, q < 96 → w < 4 → nb q w = p → (A (4 * q + w) = 1 ↔ q = b)) ∧ (∀ w, w < 4 → (A (4 * p + w) = 1 ↔ nb p w = a)))
def FR (fr to : Nat) (kd T A ah be : Nat → Int32) : Prop :=
  fr < 96 ∧ to < 96 ∧ fr ≠ to ∧ (∀ w, w < 4 → nb fr w ≠ to) ∧
  (∀ p w, p < 96 → w < 4 → A (4 * p + w) = 0 ∨ (A (4 * p + w) = 1 ∧ nb p w ≠ 200 ∧ nb p w ≠ fr ∧ p ≠ to ∧ kd p = 1)) ∧
  (∀ p, p < 96 → T p = 0 ∨ T p = 1) ∧ T fr = 0 ∧ ah fr = -1 ∧ kd fr = 1 ∧ (∀ p, p < 96 → p ≠ fr → p ≠ to → FU T A ah be p)
def enc (v : Nat) : Nat := if v < 96 then 2 * v else 2 * v - 191
theorem enc_in {v : Nat} (h : v < 96) : enc v = 2 * v := if_pos h
theorem enc_out {p : Nat} : enc (96 + p) = 2 * p + 1 := by unfold enc; rw [if_neg (by omega)]; omega
theorem enc_lt {v : Nat} (h : v < 192) : enc v < 192 := by unfold enc; split <;> omega
theorem enc_inj {u v : Nat} (h : enc u = enc v) : u = v := by unfold enc at h; split at h <;> split at h <;> omega
def mL (fr : Nat) (l : List Nat) : List Nat := (l.filter (fun x => !decide (x = fr))).map enc
theorem mL_app (fr : Nat) (l m : List Nat) : mL fr (l ++ m) = mL fr l ++ mL fr m := by unfold mL; rw [List.filter_append, List.map_append]
theorem mL_lt {fr : Nat} {l : List Nat} (h : ∀ x ∈ l, x < 192) : ∀ x ∈ mL fr l, x < 192 := by
  intro x hx
  unfold mL at hx
  obtain ⟨y, hy, rfl⟩ := List.mem_map.mp hx
  exact enc_lt (h y (List.mem_filter.mp hy).1)
section dcut2
variable {fr to : Nat} {kd T A ah be K : Nat → Int32}
theorem A01 (hF : FR fr to kd T A ah be) {p w : Nat} (hp : p < 96) (hw : w < 4) : (A (4 * p + w) = 0 ∧ ¬ A (4 * p + w) = 1) ∨ (¬ A (4 * p + w) = 0 ∧ A (4 * p + w) = 1) := by
  rcases hF.2.2.2.2.1 p w hp hw with h | ⟨h, -⟩
  · rw [h]; exact Or.inl ⟨rfl, by decide⟩
  · rw [h]; exact Or.inr ⟨by decide, rfl⟩
theorem FR_out (hF : FR fr to kd T A ah be) {p w : Nat} (hp : p < 96) (hpt : p ≠ to) (hw : w < 4) (hn : nb p w ≠ 200) (hnf : nb p w ≠ fr) : (p ≠ fr → (ah p = nI (nb p w) ↔ A (4 * p + w) = 1)) ∧ (p = fr → ah p ≠ nI (nb p w) ∧ (be (nb p w) = nI fr ↔ A (4 * p + w) = 1)) := by
  have hq := nb_lt hp hn
  refine ⟨fun hpf => ?_, fun e => ?_⟩
  · rcases hF.2.2.2.2.2.2.2.2.2 p hp hpf hpt with ⟨h1, h2, h3, h4, h5⟩ | ⟨b, a, wb, h1, h2, h3, h4, h5, h6, h7, h8, h9⟩
    · rw [h2, h5 w hw]
      exact ⟨fun e => absurd e.symm (nI_nem1 (by omega)), fun e => absurd e (by decide)⟩
    · rw [h6, h9 w hw]
      exact ⟨fun e => ((nI_eq (by omega) (by omega)).mp e).symm, fun e => by rw [e]⟩
  · subst e
    rw [hF.2.2.2.2.2.2.2.1]
    refine ⟨fun e => nI_nem1 (by omega) e.symm, ?_⟩
    have ht := hF.2.2.2.1 w hw
    rcases hF.2.2.2.2.2.2.2.2.2 (nb p w) hq hnf ht with ⟨h1, h2, h3, h4, h5⟩ | ⟨b, a, wb, h1, h2, h3, h4, h5, h6, h7, h8, h9⟩
    · rw [h1, h4 p w hp hw rfl]
      exact ⟨fun e => absurd e.symm (nI_nem1 (by omega)), fun e => absurd e (by decide)⟩
    · rw [h5, h8 p w hp hw rfl]
      exact ⟨fun e => ((nI_eq (by omega) (by omega)).mp e).symm, fun e => by rw [e]⟩
theorem FR_T (hF : FR fr to kd T A ah be) {p : Nat} (hp : p < 96) (hpt : p ≠ to) : (p = fr ∧ T p = 0) ∨ (p ≠ fr ∧ be p = -1 ∧ T p = 0) ∨ (p ≠ fr ∧ ¬ be p = -1 ∧ T p = 1) := by
  by_cases e : p = fr
  · subst e; exact Or.inl ⟨rfl, hF.2.2.2.2.2.2.1⟩
  · rcases hF.2.2.2.2.2.2.2.2.2 p hp e hpt with ⟨h1, h2, h3, h4, h5⟩ | ⟨b, a, wb, h1, h2, h3, h4, h5, h6, h7, h8, h9⟩
    · exact Or.inr (Or.inl ⟨e, h1, h3⟩)
    · exact Or.inr (Or.inr ⟨e, by rw [h5]; exact nI_nem1 (by omega), h7⟩)
theorem d_mdOut (hF : FR fr to kd T A ah be) (hK : KA 96 kd K) {p : Nat} (hp : p < 96) (hpt : p ≠ to) {s : aS} (h : aG s) {k : Nat} (hk : k < s.2.2) (hQ : s.2.1 k = nI (2 * p + 1)) :
    f_md_findsWay_43 (nI fr) (nI to) K ah be (nI k, s.2.1, s.1, nI s.2.2) = some (.inl (nI (k + 1), (aF (2 * p + 1) (mL fr (cO kd T A p)) s).2.1, (aF (2 * p + 1) (mL fr (cO kd T A p)) s).1, nI (aF (2 * p + 1) (mL fr (cO kd T A p)) s).2.2)) := by
  have hfr := hF.1
  have hto := hF.2.1
  have hle := aG_le h
  have er : nI (2 * p + 1) - nI (2 * p + 1) / 2 * 2 = 1 := by
    have := pk_rem (a := 2 * p + 1) (d := 2) (by omega) (by omega) (by omega)
    rw [show (2 * p + 1) % 2 = 1 by omega] at this
    exact this
  have ed : nI (2 * p + 1) / 2 = nI p := by
    have := pk_div (a := 2 * p + 1) (d := 2) (by omega) (by omega) (by omega)
    rw [show (2 * p + 1) / 2 = p by omega] at this
    exact this
  -- the ways
  have inner : ∀ l6 : Int32, l6 = (bif decide (T p = 0) then 0 else 1) → l_md_findsWay_120 (nI fr) K ah be (nI k) (nI p) l6 0 s.2.1 s.1 (nI s.2.2) = some (.inl (nI (k + 1), (aF (2 * p + 1) (mL fr (cO kd T A p)) s).2.1, (aF (2 * p + 1) (mL fr (cO kd T A p)) s).1, nI (aF (2 * p + 1) (mL fr (cO kd T A p)) s).2.2)) := by
    intro l6 hl6
    obtain ⟨r, h1, rfl⟩ := zlp_one (f := f_md_findsWay_120 (nI fr) K ah be (nI k) (nI p) l6) (fun m t => ∃ w, w + m = 4 ∧ t = (nI w, (aF (2 * p + 1) (mL fr (cws kd A p w)) s).2.1, (aF (2 * p + 1) (mL fr (cws kd A p w)) s).1, nI (aF (2 * p + 1) (mL fr (cws kd A p w)) s).2.2)) (fun r => r = .inl (nI (k + 1), (aF (2 * p + 1) (mL fr (cO kd T A p)) s).2.1, (aF (2 * p + 1) (mL fr (cO kd T A p)) s).1, nI (aF (2 * p + 1) (mL fr (cO kd T A p)) s).2.2)) (by
      rintro m t ⟨w, hw, rfl⟩
      have hl : ∀ x ∈ mL fr (cws kd A p w), x < 192 := mL_lt (fun x hx => by have := cws_lt hp w x hx; omega)
      have hG := aF_good (y := 2 * p + 1) (by omega) h hl
      have hX := aF_X (2 * p + 1) (mL fr (cws kd A p w)) s
      have hQ' : (aF (2 * p + 1) (mL fr (cws kd A p w)) s).2.1 k = nI (2 * p + 1) := (hX.2.2 k hk).trans hQ
      dsimp +instances only [f_md_findsWay_120, b_md_findsWay_120]
      by_cases hw4 : w = 4
      · right
        subst hw4
        have e2 : (2 : Int32) * nI p = nI (2 * p) := by rw [show (2 : Int32) = nI 2 from rfl, pk_mul]
        unfold cO
        rw [show decide ((4 : Int32) ≤ nI 4) = true from rfl, cTt, nI_zin (by omega), dT (show k < 192 by omega), nI_cl (by omega), hQ', e2, mL_app, aF_app, nI_1, hl6]
        generalize aF (2 * p + 1) (mL fr (cws kd A p 4)) s = z at hG
        have hV := d_mdVisit hG (x := 2 * p) (y := 2 * p + 1) (by omega)
        dsimp +instances only [zg, zl]
        rw [hV.1, hV.2.1, hV.2.2.1, hV.2.2.2]
        rcases FR_T hF hp hpt with ⟨-, e⟩ | ⟨-, -, e⟩ | ⟨e1, -, e⟩
        · rw [e]; exact ⟨_, rfl, rfl⟩
        · rw [e]; exact ⟨_, rfl, rfl⟩
        · rw [e]
          refine ⟨_, rfl, ?_⟩
          have em : mL fr [p] = [2 * p] := by
            unfold mL
            rw [List.filter_cons_of_pos (by rw [dF e1]; rfl)]
            show [enc p] = [2 * p]
            rw [enc_in hp]
          rw [show (bif decide ((1 : Int32) = 0) then [] else [p]) = [p] from rfl, em]
          rfl
      · left
        have e4 : decide ((4 : Int32) ≤ nI w) = false := by rw [show (4 : Int32) = nI 4 from rfl, nI_dle (by omega) (by omega)]; exact dF (by omega)
        have ec : aF (2 * p + 1) (mL fr (cws kd A p (w + 1))) s = aF (2 * p + 1) (mL fr (cw kd A p w)) (aF (2 * p + 1) (mL fr (cws kd A p w)) s) := by
          show aF (2 * p + 1) (mL fr (cws kd A p w ++ cw kd A p w)) s = _
          rw [mL_app, aF_app]
        refine ⟨m - 1, (nI (w + 1), (aF (2 * p + 1) (mL fr (cws kd A p (w + 1))) s).2.1, (aF (2 * p + 1) (mL fr (cws kd A p (w + 1))) s).1, nI (aF (2 * p + 1) (mL fr (cws kd A p (w + 1))) s).2.2), by omega, ?_, w + 1, by omega, rfl⟩
        rw [e4, cFf, (d_next p hp w (by omega)).2, ec]
        generalize aF (2 * p + 1) (mL fr (cws kd A p w)) s = z at hG hQ'
        dsimp +instances only [zl]
        unfold cw
        rcases nbI_cases (w := w) hp with ⟨e, e2⟩ | ⟨e, hv⟩
        · rw [e, e2, dT (rfl : 200 = 200), nI_1]
          rfl
        · have ne : nb p w ≠ 200 := by omega
          have hw1 := d_isWood (c := K) hv
          rw [← hK _ hv] at hw1
          have hV := d_mdVisit hG (x := 2 * nb p w) (y := 2 * p + 1) (by omega)
          rw [e, dF ne, hw1.1, hw1.2, show (2 : Int32) * nI (nb p w) = nI (2 * nb p w) from by rw [show (2 : Int32) = nI 2 from rfl, pk_mul], nI_zin (by omega), dT hp, nI_cl (by omega), nI_zin (by omega), dT (show k < 192 by omega), nI_cl (by omega), nI_zin (by omega), dT hv, nI_cl (by omega), hQ', nI_1, nI_deq (by omega) (by omega), nI_deq (by omega) (by omega)]
          dsimp +instances only [zg]
          rw [hV.1, hV.2.1, hV.2.2.1, hV.2.2.2]
          by_cases hk1 : kd (nb p w) = 1
          · rw [dT hk1]
            by_cases hf : nb p w = fr
            · -- the class goes there, the model doesn't
              rw [dT hf]
              have : mL fr (bif (!false) && (true && decide (A (4 * p + w) = 0)) then [nb p w] else []) = [] := by
                unfold mL
                cases decide (A (4 * p + w) = 0)
                · rfl
                · show List.map enc (List.filter (fun x => !decide (x = fr)) [nb p w]) = []
                  rw [List.filter_cons_of_neg (by rw [dT hf]; decide)]
                  rfl
              rw [this]
              rfl
            · rw [dF hf]
              have em : mL fr [nb p w] = [2 * nb p w] := by
                unfold mL
                rw [List.filter_cons_of_pos (by rw [dF hf]; rfl)]
                show [enc (nb p w)] = [2 * nb p w]
                rw [enc_in hv]
              have ho := FR_out hF hp hpt (show w < 4 by omega) ne hf
              rcases A01 hF hp (show w < 4 by omega) with ⟨a1, a2⟩ | ⟨a1, a2⟩
              · rw [dT a1, show (bif (!false) && (true && true) then [nb p w] else []) = [nb p w] from rfl, em]
                by_cases hpf : p = fr
                · have hb := ho.2 hpf
                  rw [dT hpf, dF hb.1, dF (fun q => a2 (hb.2.mp q))]
                  rfl
                · have ha := ho.1 hpf
                  rw [dF hpf, dF (fun q => a2 (ha.mp q))]
                  rfl
              · rw [dF a1, show (bif (!false) && (true && false) then [nb p w] else []) = [] from rfl]
                by_cases hpf : p = fr
                · have hb := ho.2 hpf
                  rw [dT hpf, dF hb.1, dT (hb.2.mpr a2)]
                  rfl
                · have ha := ho.1 hpf
                  rw [dT (ha.mpr a2)]
                  rfl
          · rw [dF hk1]
            rfl) 4 (0, s.2.1, s.1, nI s.2.2) ⟨0, by omega, rfl⟩
    exact h1
  dsimp +instances only [f_md_findsWay_43, b_md_findsWay_43]
  rw [nI_dle (by omega) (by omega), dF (show ¬ s.2.2 ≤ k by omega), cFf, nI_zin (by omega), dT (show k < 192 by omega), nI_cl (by omega), hQ, er, ed, nI_zin (by omega), dT hp, nI_cl (by omega), nI_deq (by omega) (by omega), nI_deq (by omega) (by omega), dF hpt]
  dsimp +instances only [zg]
  rcases FR_T hF hp hpt with ⟨e1, e⟩ | ⟨e1, e2, e⟩ | ⟨e1, e2, e⟩
  · rw [dT e1, inner 0 (by rw [e]; rfl)]
    rfl
  · rw [dF e1, dT e2, inner 0 (by rw [e]; rfl)]
    rfl
  · rw [dF e1, dF e2, inner 1 (by rw [e]; rfl)]
    rfl
theorem ews_none {p : Nat} (hp : p < 96) (h : ∀ w, w < 4 → nb p w ≠ 200 → A (4 * nb p w + nbo w) = 0) : ∀ w, w ≤ 4 → ews kd A p w = []
  | 0, _ => rfl
  | w + 1, hw => by
    show ews kd A p w ++ ew kd A p w = []
    rw [ews_none hp h w (by omega)]
    unfold ew
    by_cases e : nb p w = 200
    · rw [dT e]; rfl
    · rw [dF e, dT (h w (by omega) e)]
      cases decide (kd (nb p w) = 1) <;> rfl
end dcut2
