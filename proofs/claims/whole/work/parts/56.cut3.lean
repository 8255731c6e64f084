/-! ===== D: breaks: nodes, both in step ===== -/
section dcut3
variable {fr to : Nat} {kd T A ah be K : Nat → Int32}
theorem ews_one {p b w0 : Nat} (hp : p < 96) (hw0 : w0 < 4) (hb : nb p w0 = b) (hb96 : b < 96) (hk : kd b = 1) (h : ∀ w, w < 4 → nb p w ≠ 200 → (A (4 * nb p w + nbo w) = 0 ↔ nb p w ≠ b)) : ∀ w, w ≤ 4 → ews kd A p w = if w0 < w then [96 + b] else []
  | 0, _ => rfl
  | w + 1, hw => by
    show ews kd A p w ++ ew kd A p w = _
    rw [ews_one hp hw0 hb hb96 hk h w (by omega)]
    unfold ew
    by_cases e : w = w0
    · subst e
      rw [if_neg (by omega), if_pos (by omega), hb, dF (show ¬ b = 200 by omega), dT hk, dF (show ¬ A (4 * b + nbo w) = 0 from fun q => (h w (by omega) (by omega)).mp (by rw [hb]; exact q) hb)]
      rfl
    · have : ew kd A p w = [] := by
        unfold ew
        by_cases e2 : nb p w = 200
        · rw [dT e2]; rfl
        · have hne : nb p w ≠ b := fun q => e ((nb_inj p hp w0 hw0 w (by omega) (by omega) (by rw [hb, q])).symm)
          rw [dF e2, dT ((h w (by omega) e2).mpr hne)]
          cases decide (kd (nb p w) = 1) <;> rfl
      unfold ew at this
      rw [this, List.append_nil]
      by_cases q : w0 < w
      · rw [if_pos q, if_pos (by omega)]
      · rw [if_neg q, if_neg (by omega)]
theorem FR_in (hF : FR fr to kd T A ah be) {p : Nat} (hp : p < 96) (hpf : p ≠ fr) (hpt : p ≠ to) : (be p = -1 ∧ cI kd T A p = [96 + p]) ∨ (∃ b, b < 96 ∧ be p = nI b ∧ cI kd T A p = [96 + b]) := by
  unfold cI
  rcases hF.2.2.2.2.2.2.2.2.2 p hp hpf hpt with ⟨h1, h2, h3, h4, h5⟩ | ⟨b, a, wb, h1, h2, h3, h4, h5, h6, h7, h8, h9⟩
  · left
    refine ⟨h1, ?_⟩
    rw [h3, ews_none hp (fun w hw hn => h4 _ _ (nb_lt hp hn) (nb_opp p hp w hw hn).2 (nb_opp p hp w hw hn).1) 4 (by omega)]
    rfl
  · right
    refine ⟨b, h1, h5, ?_⟩
    have hnb : nb b wb ≠ 200 := by omega
    have ho := nb_opp b h1 wb h3 hnb
    rw [h4] at ho
    have hA : A (4 * b + wb) = 1 := (h8 b wb h1 h3 h4).mpr rfl
    have hkb : kd b = 1 := by
      rcases hF.2.2.2.2.1 b wb h1 h3 with q | ⟨-, -, -, -, q⟩
      · rw [hA] at q; exact absurd q (by decide)
      · exact q
    rw [h7, ews_one hp ho.2 ho.1 h1 hkb (fun w hw hn => by
      have hq := nb_lt hp hn
      have ho2 := nb_opp p hp w hw hn
      have := h8 _ _ hq ho2.2 ho2.1
      rcases A01 hF hq ho2.2 with ⟨a1, a2⟩ | ⟨a1, a2⟩
      · exact ⟨fun _ e => a2 (this.mpr e), fun _ => a1⟩
      · exact ⟨fun e => absurd e a1, fun e => absurd (this.mp a2) e⟩) 4 (by omega), if_pos (by omega)]
    rfl
theorem FR_inF (hF : FR fr to kd T A ah be) : cI kd T A fr = [96 + fr] := by
  have hp := hF.1
  unfold cI
  rw [hF.2.2.2.2.2.2.1, ews_none hp (fun w hw hn => by
    have ho := nb_opp fr hp w hw hn
    rcases hF.2.2.2.2.1 _ _ (nb_lt hp hn) ho.2 with q | ⟨-, -, q, -⟩
    · exact q
    · exact absurd ho.1 q) 4 (by omega)]
  rfl
def cN (kd T A : Nat → Int32) (v : Nat) : List Nat := if v < 96 then cI kd T A v else cO kd T A (v - 96)
theorem cN_in {v : Nat} (h : v < 96) : cN kd T A v = cI kd T A v := if_pos h
theorem cN_out {p : Nat} : cN kd T A (96 + p) = cO kd T A p := by unfold cN; rw [if_neg (by omega), Nat.add_sub_cancel_left]
theorem cN_lt {v : Nat} (h : v < 192) : ∀ x ∈ cN kd T A v, x < 192 := by
  by_cases hv : v < 96
  · rw [cN_in hv]; exact cI_lt hv
  · obtain ⟨p, rfl⟩ : ∃ p, v = 96 + p := ⟨v - 96, by omega⟩
    rw [cN_out]; exact cO_lt (by omega)
theorem d_mdIn (hF : FR fr to kd T A ah be) {p : Nat} (hp : p < 96) (hpf : p ≠ fr) (hpt : p ≠ to) {s : aS} (h : aG s) {k : Nat} (hk : k < s.2.2) (hQ : s.2.1 k = nI (2 * p)) :
    f_md_findsWay_43 (nI fr) (nI to) K ah be (nI k, s.2.1, s.1, nI s.2.2) = some (.inl (nI (k + 1), (aF (2 * p) (mL fr (cI kd T A p)) s).2.1, (aF (2 * p) (mL fr (cI kd T A p)) s).1, nI (aF (2 * p) (mL fr (cI kd T A p)) s).2.2)) := by
  have hfr := hF.1
  have hto := hF.2.1
  have hle := aG_le h
  have er : nI (2 * p) - nI (2 * p) / 2 * 2 = 0 := by
    have := pk_rem (a := 2 * p) (d := 2) (by omega) (by omega) (by omega)
    rw [show (2 * p) % 2 = 0 by omega] at this
    exact this
  have ed : nI (2 * p) / 2 = nI p := by
    have := pk_div (a := 2 * p) (d := 2) (by omega) (by omega) (by omega)
    rw [show (2 * p) / 2 = p by omega] at this
    exact this
  have em : ∀ b, mL fr [96 + b] = [2 * b + 1] := fun b => by
    unfold mL
    rw [List.filter_cons_of_pos (by rw [dF (show ¬ 96 + b = fr by omega)]; rfl)]
    show [enc (96 + b)] = [2 * b + 1]
    rw [enc_out]
  dsimp +instances only [f_md_findsWay_43, b_md_findsWay_43]
  rw [nI_dle (by omega) (by omega), dF (show ¬ s.2.2 ≤ k by omega), cFf, nI_zin (by omega), dT (show k < 192 by omega), nI_cl (by omega), hQ, er, ed, nI_zin (by omega), dT hp, nI_cl (by omega), nI_deq (by omega) (by omega), nI_deq (by omega) (by omega), dF hpt, dF hpf, nI_1]
  dsimp +instances only [zg, zl]
  rcases FR_in hF hp hpf hpt with ⟨e1, e2⟩ | ⟨b, hb, e1, e2⟩
  · have hV := d_mdVisit h (x := 2 * p + 1) (y := 2 * p) (by omega)
    rw [e2, em, dT e1, show (2 : Int32) * nI p + 1 = nI (2 * p + 1) from by rw [show (2 : Int32) = nI 2 from rfl, pk_mul, nI_1], hV.1, hV.2.1, hV.2.2.1, hV.2.2.2]
    rfl
  · have hV := d_mdVisit h (x := 2 * b + 1) (y := 2 * p) (by omega)
    rw [e2, em, e1, nI_nm1 (by omega), show (2 : Int32) * nI b + 1 = nI (2 * b + 1) from by rw [show (2 : Int32) = nI 2 from rfl, pk_mul, nI_1], hV.1, hV.2.1, hV.2.2.1, hV.2.2.2]
    rfl
theorem d_mdTo (hF : FR fr to kd T A ah be) {s : aS} (h : aG s) {k : Nat} (hk : k < s.2.2) {u : Nat} (hu : u = 2 * to ∨ u = 2 * to + 1) (hQ : s.2.1 k = nI u) :
    f_md_findsWay_43 (nI fr) (nI to) K ah be (nI k, s.2.1, s.1, nI s.2.2) = some (.inr (1, s.2.1, s.1, nI s.2.2)) := by
  have hto := hF.2.1
  have hle := aG_le h
  have ed : nI u / 2 = nI to := by
    have := pk_div (a := u) (d := 2) (by omega) (by omega) (by omega)
    rw [show u / 2 = to by omega] at this
    exact this
  dsimp +instances only [f_md_findsWay_43, b_md_findsWay_43]
  rw [nI_dle (by omega) (by omega), dF (show ¬ s.2.2 ≤ k by omega), cFf, nI_zin (by omega), dT (show k < 192 by omega), nI_cl (by omega), hQ, ed, dT (rfl : nI to = nI to)]
  cases decide (nI u - nI to * 2 = 1) <;> rfl
/-- a node of the model, by the class's number of it -/
theorem d_mdNode (hF : FR fr to kd T A ah be) (hK : KA 96 kd K) {v : Nat} (hv : v < 192) (hvf : v ≠ fr) (hvt : v ≠ to) (hvt2 : v ≠ 96 + to) {s : aS} (h : aG s) {k : Nat} (hk : k < s.2.2) (hQ : s.2.1 k = nI (enc v)) :
    f_md_findsWay_43 (nI fr) (nI to) K ah be (nI k, s.2.1, s.1, nI s.2.2) = some (.inl (nI (k + 1), (aF (enc v) (mL fr (cN kd T A v)) s).2.1, (aF (enc v) (mL fr (cN kd T A v)) s).1, nI (aF (enc v) (mL fr (cN kd T A v)) s).2.2)) := by
  by_cases hv96 : v < 96
  · rw [enc_in hv96] at hQ ⊢
    rw [cN_in hv96]
    exact d_mdIn hF hv96 hvf hvt h hk hQ
  · obtain ⟨p, rfl⟩ : ∃ p, v = 96 + p := ⟨v - 96, by omega⟩
    rw [enc_out] at hQ ⊢
    rw [cN_out]
    exact d_mdOut hF hK (by omega) (fun e => hvt2 (by rw [e])) h hk hQ
/-- a node of the class -/
theorem d_cuNode {v : Nat} (hto : to < 96) (hv : v < 192) {s : aS} (h : aG s) (hs : s.1 to = -1) {k : Nat} (hk : k < s.2.2) (hQ : s.2.1 k = nI v) :
    f_cu_findWay_45 (nI to) kd T A (nI k, s.1, s.2.1, nI s.2.2) = some (.inl (nI (k + 1), (aF v (cN kd T A v) s).1, (aF v (cN kd T A v) s).2.1, nI (aF v (cN kd T A v) s).2.2)) := by
  have hle := aG_le h
  dsimp +instances only [f_cu_findWay_45, b_cu_findWay_45]
  rw [nI_dle (by omega) (by omega), dF (show ¬ s.2.2 ≤ k by omega), cFf, show (192 : Int32) = nI 192 from rfl, nI_dle (by omega) (by omega), dF (show ¬ 192 ≤ k by omega), cFf, nI_zin (by omega), dT (show to < 192 by omega), nI_cl (by omega), hs, nI_zin (by omega), dT (show k < 192 by omega), nI_cl (by omega), hQ, show (96 : Int32) = nI 96 from rfl, nI_dlt (by omega) (by omega), nI_1]
  dsimp +instances only [zg]
  by_cases hv96 : v < 96
  · rw [dT hv96, d_enter hv96 h, cN_in hv96]
    rfl
  · obtain ⟨p, rfl⟩ : ∃ p, v = 96 + p := ⟨v - 96, by omega⟩
    rw [dF hv96, pk_sub (by omega), show 96 + p - 96 = p by omega, d_leave (by omega) h, cN_out]
    rfl
/-! both queues -/
def sh (d i : Nat) : Nat := if i < d then i else i + 1
def BQ (fr d : Nat) (s s' : aS) : Prop :=
  ((d = 1000 ∧ s.2.2 = s'.2.2 ∧ s.1 fr = -1) ∨ (d < s.2.2 ∧ s.2.2 = s'.2.2 + 1 ∧ s.2.1 d = nI fr ∧ s.1 fr ≠ -1)) ∧
  (∀ i, i < s'.2.2 → ∃ v, v < 192 ∧ v ≠ fr ∧ s.2.1 (sh d i) = nI v ∧ s'.2.1 i = nI (enc v)) ∧
  (∀ v, v < 192 → v ≠ fr → (s.1 v = -1 ∧ s'.1 (enc v) = -1) ∨ ∃ u, u < 192 ∧ s.1 v = nI u ∧ s'.1 (enc v) = nI (enc u))
theorem BQ_visit {d x y : Nat} {s s' : aS} (h : BQ fr d s s') (hG : aG s) (hx : x < 192) (hxf : x ≠ fr) (hy : y < 192) : BQ fr d (aV x y s) (aV (enc x) (enc y) s') := by
  have hle := aG_le hG
  rcases h.2.2 x hx hxf with ⟨e1, e2⟩ | ⟨u, hu, e1, e2⟩
  · rw [aV_new e1, aV_new e2]
    refine ⟨?_, fun i hi => ?_, fun v hv hvf => ?_⟩
    · rcases h.1 with ⟨q1, q2, q3⟩ | ⟨q1, q2, q3, q4⟩
      · exact Or.inl ⟨q1, by show s.2.2 + 1 = s'.2.2 + 1; omega, by show zup s.1 x (nI y) fr = -1; rw [zup_ne (fun e => hxf e.symm)]; exact q3⟩
      · exact Or.inr ⟨by show d < s.2.2 + 1; omega, by show s.2.2 + 1 = s'.2.2 + 1 + 1; omega, by show zup s.2.1 s.2.2 (nI x) d = nI fr; rw [zup_ne (by omega)]; exact q3, by show zup s.1 x (nI y) fr ≠ -1; rw [zup_ne (fun e => hxf e.symm)]; exact q4⟩
    · have hi : i < s'.2.2 + 1 := hi
      show ∃ v, v < 192 ∧ v ≠ fr ∧ zup s.2.1 s.2.2 (nI x) (sh d i) = nI v ∧ zup s'.2.1 s'.2.2 (nI (enc x)) i = nI (enc v)
      by_cases e : i = s'.2.2
      · have es : sh d i = s.2.2 := by
          unfold sh
          rcases h.1 with ⟨q1, q2, q3⟩ | ⟨q1, q2, q3, q4⟩
          · rw [if_pos (by omega)]; omega
          · rw [if_neg (by omega)]; omega
        rw [es, e, zup_same, zup_same]
        exact ⟨x, hx, hxf, rfl, rfl⟩
      · have es : sh d i ≠ s.2.2 := by
          unfold sh
          rcases h.1 with ⟨q1, q2, q3⟩ | ⟨q1, q2, q3, q4⟩
          · rw [if_pos (by omega)]; omega
          · split <;> omega
        rw [zup_ne es, zup_ne e]
        exact h.2.1 i (by omega)
    · show (zup s.1 x (nI y) v = -1 ∧ zup s'.1 (enc x) (nI (enc y)) (enc v) = -1) ∨ ∃ u, u < 192 ∧ zup s.1 x (nI y) v = nI u ∧ zup s'.1 (enc x) (nI (enc y)) (enc v) = nI (enc u)
      by_cases e : v = x
      · subst e
        rw [zup_same, zup_same]
        exact Or.inr ⟨y, hy, rfl, rfl⟩
      · rw [zup_ne e, zup_ne (fun q => e (enc_inj q))]
        exact h.2.2 v hv hvf
  · rw [aV_old (by rw [e1]; exact nI_nem1 (by omega)), aV_old (by rw [e2]; exact nI_nem1 (by have := enc_lt hu; omega))]
    exact h
theorem BQ_dead {d y : Nat} {s s' : aS} (h : BQ fr d s s') (hG : aG s) (hy192 : y < 192) : ∃ d', BQ fr d' (aV fr y s) s' ∧ (d' = d ∨ (d = 1000 ∧ d' = s.2.2)) := by
  have hle := aG_le hG
  rcases h.1 with ⟨q1, q2, q3⟩ | ⟨q1, q2, q3, q4⟩
  · have hy : nI y ≠ -1 := nI_nem1 (by omega)
    · rw [aV_new q3]
      refine ⟨s.2.2, ⟨Or.inr ⟨Nat.lt_succ_self _, by show s.2.2 + 1 = s'.2.2 + 1; omega, zup_same, by show zup s.1 fr (nI y) fr ≠ -1; rw [zup_same]; exact hy⟩, fun i hi => ?_, fun v hv hvf => ?_⟩, Or.inr ⟨q1, rfl⟩⟩
      · obtain ⟨v, p1, p2, p3, p4⟩ := h.2.1 i hi
        have e1 : sh d i = i := by unfold sh; rw [if_pos (by omega)]
        have e2 : sh s.2.2 i = i := by unfold sh; rw [if_pos (by omega)]
        rw [e1] at p3
        refine ⟨v, p1, p2, ?_, p4⟩
        show zup s.2.1 s.2.2 (nI fr) (sh s.2.2 i) = nI v
        rw [e2, zup_ne (by omega)]
        exact p3
      · show (zup s.1 fr (nI y) v = -1 ∧ s'.1 (enc v) = -1) ∨ ∃ u, u < 192 ∧ zup s.1 fr (nI y) v = nI u ∧ s'.1 (enc v) = nI (enc u)
        rw [zup_ne hvf]
        exact h.2.2 v hv hvf
  · rw [aV_old q4]
    exact ⟨d, h, Or.inl rfl⟩
end dcut3
