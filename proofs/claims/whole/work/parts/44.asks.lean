/-! ===== D: comes, over, tried ===== -/
theorem d_place (x y : Int32) : (w_if_isPlace x y = 0 ∧ w_md_isSpot x y = 0) ∨ (w_if_isPlace x y = 1 ∧ w_md_isSpot x y = 1 ∧ ∃ i j, x = nI i ∧ y = nI j ∧ i < 12 ∧ j < 8 ∧ (12 * y) + x = nI (12 * j + i)) := by
  unfold w_if_isPlace w_md_isSpot
  rcases d_within x (a := 0) (b := 11) (by omega) (by omega) with ⟨e1, e2⟩ | ⟨e1, e2, i, rfl, -, hi⟩
  · left
    rw [show w_if_isWithin x 0 11 = 0 from e1, show w_md_in x 0 11 = 0 from e2]
    exact ⟨rfl, rfl⟩
  · rw [show w_if_isWithin (nI i) 0 11 = 1 from e1, show w_md_in (nI i) 0 11 = 1 from e2]
    rcases d_within y (a := 0) (b := 7) (by omega) (by omega) with ⟨e1, e2⟩ | ⟨e1, e2, j, rfl, -, hj⟩
    · left
      rw [show w_if_isWithin y 0 7 = 0 from e1, show w_md_in y 0 7 = 0 from e2]
      exact ⟨rfl, rfl⟩
    · right
      rw [show w_if_isWithin (nI j) 0 7 = 1 from e1, show w_md_in (nI j) 0 7 = 1 from e2]
      refine ⟨rfl, rfl, i, j, rfl, rfl, by omega, by omega, ?_⟩
      rw [show (12 : Int32) = nI 12 from rfl, pk_mul, nI_add]
section dasks
variable {ops args rl am co en : Nat → Int32} {ru lu : Int32} {codes cl cf ch ct : Nat → Int32} {cn : Int32}
theorem d_over (hW : LW ops args rl am co en ru lu codes cl cf ch ct cn) {kd K : Nat → Int32} (hK : KA 96 kd K) {st lf at_ va su : Nat → Int32} {tl gn wd mn x : Int32} {N : Nat → Int32} (h : RS st lf at_ va su tl gn wd mn x N) (n : Int32) (kd2 st2 lf2 at2 va2 su2 : Nat → Int32) (tl2 gn2 wd2 mn2 x2 : Int32) (A b L e c F d : Nat → Int32) (lost : Int32) :
    ∃ v r t, q_if_over n kd st lf at_ va su kd2 st2 lf2 at2 va2 su2 ops args b rl am co en L e tl gn wd mn x tl2 gn2 wd2 mn2 x2 lu ru = some (v, r) ∧ q_md_over n N A K codes cl cf ch ct c F d cn lost = some (v, t) ∧ ∀ j, j < 315 → t.1 j = N j := by
  have hR := RS_congrC h (d_cpyA st st2) (d_cpyA lf lf2) (d_cpyT at_ at2) (d_cpyT va va2) (d_cpyT su su2)
  unfold q_if_over q_md_over
  rcases d_within n (a := 1) (b := 100) (by omega) (by omega) with ⟨e1, e2⟩ | ⟨e1, e2, n, rfl, hn1, hn2⟩
  · rw [show w_if_isWithin n 1 100 = 0 from e1, show w_md_in n 1 100 = 0 from e2]
    exact ⟨_, _, _, rfl, rfl, fun _ _ => rfl⟩
  · rw [show w_if_isWithin (nI n) 1 100 = 1 from e1, show w_md_in (nI n) 1 100 = 1 from e2]
    obtain ⟨r, r', q1, q2, q3, N', q4, -⟩ := d_overL hW (fun k hk => (d_cpyA kd kd2 k hk).trans (hK k hk)) hR hn2 b L e c F d (a0_md_copies N A) lost
    refine ⟨r.1, r.2, r'.2, q1, ?_, fun j hj => ?_⟩
    · rw [q3]; exact q2
    · rw [q4, (d_copies _ _).1 j hj, (d_copies _ _).1 j hj]
theorem d_comes (hW : LW ops args rl am co en ru lu codes cl cf ch ct cn) {kd K : Nat → Int32} (hK : KA 96 kd K) {st lf at_ va su : Nat → Int32} {tl gn wd mn x : Int32} {N : Nat → Int32} (h : RS st lf at_ va su tl gn wd mn x N) (px py n : Int32) (kd2 st2 lf2 at2 va2 su2 : Nat → Int32) (tl2 gn2 wd2 mn2 x2 : Int32) (A b L e c F d : Nat → Int32) (lost : Int32) :
    ∃ v r t, q_if_comes px py n kd st lf at_ va su kd2 st2 lf2 at2 va2 su2 ops args b rl am co en L e tl gn wd mn x tl2 gn2 wd2 mn2 x2 lu ru = some (v, r) ∧ q_md_comes px py n N A K codes cl cf ch ct c F d cn lost = some (v, t) ∧ ∀ j, j < 315 → t.1 j = N j := by
  have hR := RS_congrC h (d_cpyA st st2) (d_cpyA lf lf2) (d_cpyT at_ at2) (d_cpyT va va2) (d_cpyT su su2)
  unfold q_if_comes q_md_comes
  rcases d_place px py with ⟨e1, e2⟩ | ⟨e1, e2, i, j, -, -, hi, hj, e3⟩
  · rw [e1, e2]
    exact ⟨_, _, _, rfl, rfl, fun _ _ => rfl⟩
  rw [e1, e2, e3]
  clear e1 e2 e3
  rcases d_within n (a := 1) (b := 100) (by omega) (by omega) with ⟨e1, e2⟩ | ⟨e1, e2, n, rfl, hn1, hn2⟩
  · rw [show w_if_isWithin n 1 100 = 0 from e1, show w_md_in n 1 100 = 0 from e2]
    exact ⟨_, _, _, rfl, rfl, fun _ _ => rfl⟩
  · rw [show w_if_isWithin (nI n) 1 100 = 1 from e1, show w_md_in (nI n) 1 100 = 1 from e2]
    obtain ⟨r, r', q1, q2, q3, N', q4, -⟩ := d_comesL hW (fun k hk => (d_cpyA kd kd2 k hk).trans (hK k hk)) hR hn2 (p := 12 * j + i) (by omega) b L e c F d (a0_md_copies N A) lost
    refine ⟨r.1, r.2, r'.2, q1, ?_, fun j hj => ?_⟩
    · rw [q3]; exact q2
    · rw [q4, (d_copies _ _).1 j hj, (d_copies _ _).1 j hj]
end dasks
