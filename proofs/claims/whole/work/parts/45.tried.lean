/-! ===== D: tried ===== -/
theorem zbd_q {α β : Type} {o : Option α} {r : α} {f : α → Option β} (h : o = some r) : zbd o f = f r := by rw [h]; rfl
section dtried
variable {ops args rl am co en : Nat → Int32} {ru lu : Int32} {codes cl cf ch ct : Nat → Int32} {cn : Int32}
theorem d_tried (hW : LW ops args rl am co en ru lu codes cl cf ch ct cn) {kd K : Nat → Int32} (hK : KA 96 kd K) {st lf at_ va su : Nat → Int32} {tl gn wd mn x : Int32} {N : Nat → Int32} (h : RS st lf at_ va su tl gn wd mn x N) (n y : Int32) (kd2 st2 lf2 at2 va2 su2 : Nat → Int32) (tl2 gn2 wd2 mn2 x2 : Int32) (A b L e c F d : Nat → Int32) (lost : Int32) :
    ∃ v r t, q_if_tried n y kd st lf at_ va su kd2 st2 lf2 at2 va2 su2 ops args b rl am co en L e tl gn wd mn x tl2 gn2 wd2 mn2 x2 lu ru = some (v, r) ∧ q_md_tried n y N A K codes cl cf ch ct c F d cn lost = some (v, t) ∧ ∀ j, j < 315 → t.1 j = N j := by
  have hR := RS_congrC h (d_cpyA st st2) (d_cpyA lf lf2) (d_cpyT at_ at2) (d_cpyT va va2) (d_cpyT su su2)
  unfold q_if_tried q_md_tried
  rcases d_within n (a := 1) (b := 100) (by omega) (by omega) with ⟨e1, e2⟩ | ⟨e1, e2, n, rfl, hn1, hn2⟩
  · rw [show w_if_isWithin n 1 100 = 0 from e1, show w_md_in n 1 100 = 0 from e2]
    exact ⟨_, _, _, rfl, rfl, fun _ _ => rfl⟩
  rw [show w_if_isWithin (nI n) 1 100 = 1 from e1, show w_md_in (nI n) 1 100 = 1 from e2]
  clear e1 e2
  rcases d_within y (a := 0) (b := 4) (by omega) (by omega) with ⟨e1, e2⟩ | ⟨e1, e2, y, rfl, -, hy⟩
  · rw [show w_if_isWithin y 0 4 = 0 from e1, show w_md_in y 0 4 = 0 from e2]
    exact ⟨_, _, _, rfl, rfl, fun _ _ => rfl⟩
  rw [show w_if_isWithin (nI y) 0 4 = 1 from e1, show w_md_in (nI y) 0 4 = 1 from e2]
  obtain ⟨st', lf', b', L', e', gn', mn', x', N', c', F', d', lost', q1, q2, q3, q4⟩ := d_minutesGo hW (fun k hk => (d_cpyA kd kd2 k hk).trans (hK k hk)) hR hn2 b L e c F d
  have hN : ∀ j, j < 315 → a0_md_copies (a0_md_copies N A) N' j = N j := fun j hj => by rw [(d_copies _ _).1 j hj, (d_copies _ _).1 j hj]
  have ef1 := d_faring (fun k hk => (q3.1 k hk).1) 1
  have ef2 := d_faring (fun k hk => (q3.1 k hk).1) 2
  have eg := d_goneSet q3.2.1 q3.2.2.1
  have er := d_ruins (fun k hk => (q3.1 k hk).1) q3.2.1 q3.2.2.1
  have el : w_sc_lostValue gn (va_cpy va va2 ((0 : Int32).toNatClampNeg) ((0 : Int32).toNatClampNeg) ((24 : Int32).toNatClampNeg)) = w_sc_lostValue gn va := by
    rw [d_LV, d_LV]
    exact sumf_congr (fun i hi => by rw [d_cpyT va va2 i hi])
  rw [el] at q4
  have ev : w_sc_lostValue gn' (va_cpy va va2 ((0 : Int32).toNatClampNeg) ((0 : Int32).toNatClampNeg) ((24 : Int32).toNatClampNeg)) - w_sc_lostValue gn va = lost' := by
    rw [Int32.zero_add] at q4
    rw [← q4, Int32.add_sub_cancel]
  have hy' : y = 0 ∨ y = 1 ∨ y = 2 ∨ y = 3 ∨ y = 4 := by omega
  rcases hy' with rfl | rfl | rfl | rfl | rfl
  · refine ⟨w_md_faring 1 N', (va_cpy kd kd2 ((0 : Int32).toNatClampNeg) ((0 : Int32).toNatClampNeg) ((96 : Int32).toNatClampNeg), st', lf', va_cpy at_ at2 ((0 : Int32).toNatClampNeg) ((0 : Int32).toNatClampNeg) ((24 : Int32).toNatClampNeg), va_cpy va va2 ((0 : Int32).toNatClampNeg) ((0 : Int32).toNatClampNeg) ((24 : Int32).toNatClampNeg), va_cpy su su2 ((0 : Int32).toNatClampNeg) ((0 : Int32).toNatClampNeg) ((24 : Int32).toNatClampNeg), b', L', e', tl, gn', wd, mn', x'), (a0_md_copies (a0_md_copies N A) N', a0_md_copies N A, c', F', d', lost'), (zbd_q q1).trans ?_, (zbd_q q2).trans ?_, by with_reducible exact hN⟩
    · rw [← ef1]; rfl
    · rfl
  · refine ⟨w_md_faring 2 N', (va_cpy kd kd2 ((0 : Int32).toNatClampNeg) ((0 : Int32).toNatClampNeg) ((96 : Int32).toNatClampNeg), st', lf', va_cpy at_ at2 ((0 : Int32).toNatClampNeg) ((0 : Int32).toNatClampNeg) ((24 : Int32).toNatClampNeg), va_cpy va va2 ((0 : Int32).toNatClampNeg) ((0 : Int32).toNatClampNeg) ((24 : Int32).toNatClampNeg), va_cpy su su2 ((0 : Int32).toNatClampNeg) ((0 : Int32).toNatClampNeg) ((24 : Int32).toNatClampNeg), b', L', e', tl, gn', wd, mn', x'), (a0_md_copies (a0_md_copies N A) N', a0_md_copies N A, c', F', d', lost'), (zbd_q q1).trans ?_, (zbd_q q2).trans ?_, by with_reducible exact hN⟩
    · rw [← ef2]; rfl
    · rfl
  · refine ⟨lost', (va_cpy kd kd2 ((0 : Int32).toNatClampNeg) ((0 : Int32).toNatClampNeg) ((96 : Int32).toNatClampNeg), st', lf', va_cpy at_ at2 ((0 : Int32).toNatClampNeg) ((0 : Int32).toNatClampNeg) ((24 : Int32).toNatClampNeg), va_cpy va va2 ((0 : Int32).toNatClampNeg) ((0 : Int32).toNatClampNeg) ((24 : Int32).toNatClampNeg), va_cpy su su2 ((0 : Int32).toNatClampNeg) ((0 : Int32).toNatClampNeg) ((24 : Int32).toNatClampNeg), b', L', e', tl, gn', wd, mn', x'), (a0_md_copies (a0_md_copies N A) N', a0_md_copies N A, c', F', d', lost'), (zbd_q q1).trans ?_, (zbd_q q2).trans ?_, by with_reducible exact hN⟩
    · rw [← ev]; rfl
    · rfl
  · refine ⟨gn', (va_cpy kd kd2 ((0 : Int32).toNatClampNeg) ((0 : Int32).toNatClampNeg) ((96 : Int32).toNatClampNeg), st', lf', va_cpy at_ at2 ((0 : Int32).toNatClampNeg) ((0 : Int32).toNatClampNeg) ((24 : Int32).toNatClampNeg), va_cpy va va2 ((0 : Int32).toNatClampNeg) ((0 : Int32).toNatClampNeg) ((24 : Int32).toNatClampNeg), va_cpy su su2 ((0 : Int32).toNatClampNeg) ((0 : Int32).toNatClampNeg) ((24 : Int32).toNatClampNeg), b', L', e', tl, gn', wd, mn', x'), (a0_md_copies (a0_md_copies N A) N', a0_md_copies N A, c', F', d', lost'), (zbd_q q1).trans ?_, (zbd_q q2).trans ?_, by with_reducible exact hN⟩
    · rfl
    · rw [← eg]; rfl
  · refine ⟨w_md_sumsInRuins N', (va_cpy kd kd2 ((0 : Int32).toNatClampNeg) ((0 : Int32).toNatClampNeg) ((96 : Int32).toNatClampNeg), st', lf', va_cpy at_ at2 ((0 : Int32).toNatClampNeg) ((0 : Int32).toNatClampNeg) ((24 : Int32).toNatClampNeg), va_cpy va va2 ((0 : Int32).toNatClampNeg) ((0 : Int32).toNatClampNeg) ((24 : Int32).toNatClampNeg), va_cpy su su2 ((0 : Int32).toNatClampNeg) ((0 : Int32).toNatClampNeg) ((24 : Int32).toNatClampNeg), b', L', e', tl, gn', wd, mn', x'), (a0_md_copies (a0_md_copies N A) N', a0_md_copies N A, c', F', d', lost'), (zbd_q q1).trans ?_, (zbd_q q2).trans ?_, by with_reducible exact hN⟩
    · refine (zbd_q er).trans ?_; rfl
    · rfl
end dtried
