/-! ===== D: a thing, asked for ===== -/
section dthi
variable {st lf at_ va su : Nat → Int32} {tl gn wd mn x : Int32} {N : Nat → Int32}
theorem d_isGoneB (gn : Int32) {i : Nat} (hi : i < 32) : w_sc_isGone (nI i) gn = b01 (bt gn i) := d_isTold gn hi
theorem d_thingIs (h : RS st lf at_ va su tl gn wd mn x N) (q y : Int32) : g_if_thingIs q y tl va su at_ gn = true ∧ g_md_thingIs q y N = true ∧ w_if_thingIs q y tl va su at_ gn = w_md_thingIs q y N := by
  obtain ⟨h1, h2, h3, h4, h5, h6, h7, h8⟩ := h
  unfold g_if_thingIs g_md_thingIs w_if_thingIs w_md_thingIs
  have k : ∀ c : Bool, (bif c then true else true) = true := fun c => by cases c <;> rfl
  rcases d_within q (a := 0) (b := 23) (by omega) (by omega) with ⟨e1, e2⟩ | ⟨e1, e2, i, rfl, hi1, hi2⟩
  · obtain ⟨f1, f2⟩ := d_isThing' N q e2
    rw [show w_if_isWithin q 0 23 = 0 from e1, f1, f2]
    exact ⟨rfl, rfl, rfl⟩
  · have hi : i < 24 := by omega
    obtain ⟨f1, f2⟩ := d_isThing h2 hi
    obtain ⟨r1, r2, r3, r4, r5⟩ := h2.1 i hi
    obtain ⟨-, ⟨v, hv, ev⟩, ⟨s, hs, es⟩, -, -⟩ := h3 i hi
    rw [show w_if_isWithin (nI i) 0 23 = 1 from e1, f1, f2, d_isTold tl (show i < 32 by omega), d_isGoneB gn (show i < 32 by omega)]
    have a1 : (216 : Int32) + nI i = nI (216 + i) := by rw [show (216 : Int32) = nI 216 from rfl, nI_add]
    have a2 : (240 : Int32) + nI i = nI (240 + i) := by rw [show (240 : Int32) = nI 240 from rfl, nI_add]
    have a3 : (264 : Int32) + nI i = nI (264 + i) := by rw [show (264 : Int32) = nI 264 from rfl, nI_add]
    have a4 : (288 : Int32) + nI i = nI (288 + i) := by rw [show (288 : Int32) = nI 288 from rfl, nI_add]
    cases bt tl i with
    | false => exact ⟨rfl, rfl, rfl⟩
    | true =>
      have p1 : g_sc_paidFor (nI i) va su = true := by
        unfold g_sc_paidFor
        rw [nI_zin (by omega), dT hi, nI_cl (by omega), ev, es, nI_dle (by omega) (by omega), show (0 : Int32) = nI 0 from rfl, nI_dlt (by omega) (by omega), nI_deq (by omega) (by omega)]
        by_cases hvs : v ≤ s
        · rw [dT hvs]; rfl
        · rw [dF hvs, dT (show 0 < v by omega), dF (show ¬ v = 0 by omega)]; rfl
      have p2 : w_sc_paidFor (nI i) va su = (bif decide (N (264 + i) < N (240 + i)) then (N (264 + i) * N (264 + i)) / N (240 + i) else N (240 + i)) := by
        unfold w_sc_paidFor
        rw [nI_cl (by omega), ← r2, ← r3, ev, es, nI_dle (by omega) (by omega), show (0 : Int32) = nI 0 from rfl, nI_dlt (by omega) (by omega), nI_dlt (by omega) (by omega)]
        by_cases hvs : v ≤ s
        · rw [dT hvs, dF (show ¬ s < v by omega)]; rfl
        · rw [dF hvs, dT (show 0 < v by omega), dT (show s < v by omega)]; rfl
      have p3 : (bif decide (N (264 + i) < N (240 + i)) then !decide (N (240 + i) = 0) else true) = true := by
        rw [← r2, ← r3, ev, es, nI_dlt (by omega) (by omega), show (0 : Int32) = nI 0 from rfl, nI_deq (by omega) (by omega)]
        by_cases hvs : s < v
        · rw [dT hvs, dF (show ¬ v = 0 by omega)]; rfl
        · rw [dF hvs]; rfl
      rw [a1, a2, a3, a4, nI_zin (a := i) (N := 24) (by omega), nI_zin (a := 216 + i) (N := 315) (by omega), nI_zin (a := 240 + i) (N := 315) (by omega), nI_zin (a := 264 + i) (N := 315) (by omega), nI_zin (a := 288 + i) (N := 315) (by omega), dT hi, dT (show 216 + i < 315 by omega), dT (show 240 + i < 315 by omega), dT (show 264 + i < 315 by omega), dT (show 288 + i < 315 by omega), nI_cl (a := i) (by omega), nI_cl (a := 216 + i) (by omega), nI_cl (a := 240 + i) (by omega), nI_cl (a := 264 + i) (by omega), nI_cl (a := 288 + i) (by omega), p1, p2, p3, r1, r2, r3, r5]
      have p4 : (bif decide (b01 (bt gn i) = 0) then (0 : Int32) else 1) = b01 (bt gn i) := by cases bt gn i <;> rfl
      rw [p4]
      refine ⟨?_, ?_, rfl⟩
      · first | (simp only [k]; done) | (simp only [k]; rfl)
      · first | (simp only [k]; done) | (simp only [k]; rfl)
end dthi
