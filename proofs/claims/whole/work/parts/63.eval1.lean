/-! ===== D: the law: one step of both machines ===== -/
theorem zlp_bind {σ R : Type} {f : σ → Option (σ ⊕ R)} (s : σ) : zlp f s = zbd (f s) (fun q => zsm q (zlp f) some) := by
  cases h : f s with
  | none =>
    cases hz : zlp f s with
    | none => rfl
    | some r =>
      obtain ⟨n, hn⟩ := zlp_to hz
      cases n with
      | zero => cases hn
      | succ n =>
        unfold zitn at hn
        rw [h] at hn
        cases hn
  | some q =>
    cases q with
    | inl s' => exact zlp_in h
    | inr r => exact zlp_out h
theorem dec_op {m x : Nat} (hm : m ≤ 15) (hx : x < 1048576) : nI (1048576 * m + x) / 1048576 = nI m := by
  have := pk_div (a := 1048576 * m + x) (d := 1048576) (by omega) (by omega) (by omega)
  rw [show (1048576 * m + x) / 1048576 = m by omega] at this
  exact this
theorem dec_arg {m x : Nat} (hm : m ≤ 15) (hx : x < 1048576) : nI (1048576 * m + x) - nI m * 1048576 = nI x := by
  rw [show (1048576 : Int32) = nI 1048576 from rfl, pk_mul, pk_sub (by omega), show 1048576 * m + x - m * 1048576 = x by omega]
noncomputable def rC (o a L : Nat → Int32) (to : Nat) (s : U_lw_run_9) : Option T_lw_run := zlp (f_lw_run_9 (nI to) o a L) s
noncomputable def rM (c F : Nat → Int32) (to : Nat) (s : U_md_reckonsTo_16) : Option T_md_reckonsTo := zlp (f_md_reckonsTo_16 (nI to) c F 0) s
section dsteps
variable {o a L c F : Nat → Int32} {to i k d : Nat} {b : Nat → Int32}
theorem sC_push (hi : i < to) (hto : to ≤ 240) (hk : k < 240) (hd : d < 32) (ho : o i = 1) : rC o a L to (nI d, nI i, nI k, b) = rC o a L to (nI (d + 1), nI (i + 1), nI (k + 1), zup b d (a i)) := by
  refine zlp_in ?_
  dsimp +instances only [f_lw_run_9, b_lw_run_9]
  rw [show (240 : Int32) = nI 240 from rfl, nI_dle (by omega) (by omega), dF (show ¬ 240 ≤ k by omega), nI_neg (by omega), nI_dle (by omega) (by omega), dF (show ¬ to ≤ i by omega), nI_zin (by omega), dT (show i < 240 by omega), nI_cl (by omega), ho, show (32 : Int32) = nI 32 from rfl, nI_dlt (by omega) (by omega), dT hd, nI_zin (by omega), dT hd, nI_cl (by omega), nI_1 d, nI_1 i, nI_1 k]
  rfl
theorem sC_letter (hi : i < to) (hto : to ≤ 240) (hk : k < 240) (hd : d < 32) (ho : o i = 2) {x : Nat} (hx : x < 9) (ha : a i = nI x) : rC o a L to (nI d, nI i, nI k, b) = rC o a L to (nI (d + 1), nI (i + 1), nI (k + 1), zup b d (L x)) := by
  refine zlp_in ?_
  dsimp +instances only [f_lw_run_9, b_lw_run_9]
  rw [show (240 : Int32) = nI 240 from rfl, nI_dle (by omega) (by omega), dF (show ¬ 240 ≤ k by omega), nI_neg (by omega), nI_dle (by omega) (by omega), dF (show ¬ to ≤ i by omega), nI_zin (by omega), dT (show i < 240 by omega), nI_cl (by omega), ho, ha, show (32 : Int32) = nI 32 from rfl, nI_dlt (by omega) (by omega), dT hd, nI_zin (by omega), dT hx, nI_cl (by omega), nI_zin (by omega), dT hd, nI_cl (by omega), nI_1 d, nI_1 i, nI_1 k]
  rfl
theorem sC_not (hi : i < to) (hto : to ≤ 240) (hk : k < 240) (hd : d < 32) (ho : o i = 3) : rC o a L to (nI (d + 1), nI i, nI k, b) = rC o a L to (nI (d + 1), nI (i + 1), nI (k + 1), zup b d (1 - b d)) := by
  refine zlp_in ?_
  dsimp +instances only [f_lw_run_9, b_lw_run_9]
  rw [show (240 : Int32) = nI 240 from rfl, nI_dle (by omega) (by omega), dF (show ¬ 240 ≤ k by omega), nI_neg (by omega), nI_dle (by omega) (by omega), dF (show ¬ to ≤ i by omega), nI_zin (by omega), dT (show i < 240 by omega), nI_cl (by omega), ho, show nI (d + 1) - 1 = nI d from by rw [show (1 : Int32) = nI 1 from rfl, pk_sub (by omega), Nat.add_sub_cancel], show decide ((1 : Int32) ≤ nI (d + 1)) = true from by rw [show (1 : Int32) = nI 1 from rfl, nI_dle (by omega) (by omega)]; exact dT (by omega), nI_zin (by omega), dT hd, nI_cl (by omega), nI_1 i, nI_1 k]
  rfl
/-- and: a 0 jumps -/
theorem sC_and (hi : i < to) (hto : to ≤ 240) (hk : k < 240) (hd : d < 32) (ho : o i = 4) : (b d = 0 → rC o a L to (nI (d + 1), nI i, nI k, b) = rC o a L to (nI (d + 1), a i, nI (k + 1), b)) ∧ (¬ b d = 0 → rC o a L to (nI (d + 1), nI i, nI k, b) = rC o a L to (nI d, nI (i + 1), nI (k + 1), b)) := by
  refine ⟨fun hb => ?_, fun hb => ?_⟩
  · refine zlp_in ?_
    dsimp +instances only [f_lw_run_9, b_lw_run_9]
    rw [show (240 : Int32) = nI 240 from rfl, nI_dle (by omega) (by omega), dF (show ¬ 240 ≤ k by omega), nI_neg (by omega), nI_dle (by omega) (by omega), dF (show ¬ to ≤ i by omega), nI_zin (by omega), dT (show i < 240 by omega), nI_cl (by omega), ho, show nI (d + 1) - 1 = nI d from by rw [show (1 : Int32) = nI 1 from rfl, pk_sub (by omega), Nat.add_sub_cancel], show decide ((1 : Int32) ≤ nI (d + 1)) = true from by rw [show (1 : Int32) = nI 1 from rfl, nI_dle (by omega) (by omega)]; exact dT (by omega), nI_zin (by omega), dT hd, nI_cl (by omega), hb, nI_1 k]
    rfl
  · refine zlp_in ?_
    dsimp +instances only [f_lw_run_9, b_lw_run_9]
    rw [show (240 : Int32) = nI 240 from rfl, nI_dle (by omega) (by omega), dF (show ¬ 240 ≤ k by omega), nI_neg (by omega), nI_dle (by omega) (by omega), dF (show ¬ to ≤ i by omega), nI_zin (by omega), dT (show i < 240 by omega), nI_cl (by omega), ho, show nI (d + 1) - 1 = nI d from by rw [show (1 : Int32) = nI 1 from rfl, pk_sub (by omega), Nat.add_sub_cancel], show decide ((1 : Int32) ≤ nI (d + 1)) = true from by rw [show (1 : Int32) = nI 1 from rfl, nI_dle (by omega) (by omega)]; exact dT (by omega), nI_zin (by omega), dT hd, nI_cl (by omega), dF hb, nI_1 i, nI_down, nI_1 k]
    rfl
/-- or: what is no 0 jumps -/
theorem sC_or (hi : i < to) (hto : to ≤ 240) (hk : k < 240) (hd : d < 32) (ho : o i = 5) : (¬ b d = 0 → rC o a L to (nI (d + 1), nI i, nI k, b) = rC o a L to (nI (d + 1), a i, nI (k + 1), b)) ∧ (b d = 0 → rC o a L to (nI (d + 1), nI i, nI k, b) = rC o a L to (nI d, nI (i + 1), nI (k + 1), b)) := by
  refine ⟨fun hb => ?_, fun hb => ?_⟩
  · refine zlp_in ?_
    dsimp +instances only [f_lw_run_9, b_lw_run_9]
    rw [show (240 : Int32) = nI 240 from rfl, nI_dle (by omega) (by omega), dF (show ¬ 240 ≤ k by omega), nI_neg (by omega), nI_dle (by omega) (by omega), dF (show ¬ to ≤ i by omega), nI_zin (by omega), dT (show i < 240 by omega), nI_cl (by omega), ho, show nI (d + 1) - 1 = nI d from by rw [show (1 : Int32) = nI 1 from rfl, pk_sub (by omega), Nat.add_sub_cancel], show decide ((1 : Int32) ≤ nI (d + 1)) = true from by rw [show (1 : Int32) = nI 1 from rfl, nI_dle (by omega) (by omega)]; exact dT (by omega), nI_zin (by omega), dT hd, nI_cl (by omega), dF hb, nI_1 k]
    rfl
  · refine zlp_in ?_
    dsimp +instances only [f_lw_run_9, b_lw_run_9]
    rw [show (240 : Int32) = nI 240 from rfl, nI_dle (by omega) (by omega), dF (show ¬ 240 ≤ k by omega), nI_neg (by omega), nI_dle (by omega) (by omega), dF (show ¬ to ≤ i by omega), nI_zin (by omega), dT (show i < 240 by omega), nI_cl (by omega), ho, show nI (d + 1) - 1 = nI d from by rw [show (1 : Int32) = nI 1 from rfl, pk_sub (by omega), Nat.add_sub_cancel], show decide ((1 : Int32) ≤ nI (d + 1)) = true from by rw [show (1 : Int32) = nI 1 from rfl, nI_dle (by omega) (by omega)]; exact dT (by omega), nI_zin (by omega), dT hd, nI_cl (by omega), hb, nI_1 i, nI_down, nI_1 k]
    rfl
theorem sC_bin (hi : i < to) (hto : to ≤ 240) (hk : k < 240) (hd : d + 1 < 32) {x : Int32} (hx : x = 43 ∨ x = 45 ∨ x = 42 ∨ x = 60 ∨ x = 62 ∨ x = 61) (ho : o i = x) : rC o a L to (nI (d + 2), nI i, nI k, b) = rC o a L to (nI (d + 1), nI (i + 1), nI (k + 1), zup b d (w_lw_reckon x (b d) (b (d + 1)))) := by
  refine zlp_in ?_
  dsimp +instances only [f_lw_run_9, b_lw_run_9]
  rw [show (240 : Int32) = nI 240 from rfl, nI_dle (by omega) (by omega), dF (show ¬ 240 ≤ k by omega), nI_neg (by omega), nI_dle (by omega) (by omega), dF (show ¬ to ≤ i by omega), nI_zin (by omega), dT (show i < 240 by omega), nI_cl (by omega), ho, show decide ((1 : Int32) ≤ nI (d + 2)) = true from by rw [show (1 : Int32) = nI 1 from rfl, nI_dle (by omega) (by omega)]; exact dT (by omega), show nI (d + 2) + (-1) = nI (d + 1) from nI_down (d + 1), show nI (d + 1) - 1 = nI d from by rw [show (1 : Int32) = nI 1 from rfl, pk_sub (by omega), Nat.add_sub_cancel], show decide (nI (d + 1) < (1 : Int32)) = false from by rw [show (1 : Int32) = nI 1 from rfl, nI_dlt (by omega) (by omega)]; exact dF (by omega), nI_zin (a := d) (N := 32) (by omega), dT (show d < 32 by omega), nI_zin (a := d + 1) (N := 32) (by omega), dT hd, nI_cl (a := d) (by omega), nI_cl (a := d + 1) (by omega), nI_1 i, nI_1 k]
  rcases hx with rfl | rfl | rfl | rfl | rfl | rfl <;> rfl
theorem sC_div (hi : i < to) (hto : to ≤ 240) (hk : k < 240) (hd : d + 1 < 32) {x : Int32} (hx : x = 47 ∨ x = 37) (ho : o i = x) : (b (d + 1) = 0 → rC o a L to (nI (d + 2), nI i, nI k, b) = some (0, b)) ∧ (¬ b (d + 1) = 0 → rC o a L to (nI (d + 2), nI i, nI k, b) = rC o a L to (nI (d + 1), nI (i + 1), nI (k + 1), zup b d (w_lw_reckon x (b d) (b (d + 1))))) := by
  refine ⟨fun hb => ?_, fun hb => ?_⟩
  · refine zlp_out ?_
    dsimp +instances only [f_lw_run_9, b_lw_run_9]
    rw [show (240 : Int32) = nI 240 from rfl, nI_dle (by omega) (by omega), dF (show ¬ 240 ≤ k by omega), nI_neg (by omega), nI_dle (by omega) (by omega), dF (show ¬ to ≤ i by omega), nI_zin (by omega), dT (show i < 240 by omega), nI_cl (by omega), ho, show decide ((1 : Int32) ≤ nI (d + 2)) = true from by rw [show (1 : Int32) = nI 1 from rfl, nI_dle (by omega) (by omega)]; exact dT (by omega), show nI (d + 2) + (-1) = nI (d + 1) from nI_down (d + 1), show nI (d + 1) - 1 = nI d from by rw [show (1 : Int32) = nI 1 from rfl, pk_sub (by omega), Nat.add_sub_cancel], show decide (nI (d + 1) < (1 : Int32)) = false from by rw [show (1 : Int32) = nI 1 from rfl, nI_dlt (by omega) (by omega)]; exact dF (by omega), nI_zin (a := d + 1) (N := 32) (by omega), dT hd, nI_cl (a := d + 1) (by omega), hb]
    rcases hx with rfl | rfl <;> rfl
  · refine zlp_in ?_
    dsimp +instances only [f_lw_run_9, b_lw_run_9]
    rw [show (240 : Int32) = nI 240 from rfl, nI_dle (by omega) (by omega), dF (show ¬ 240 ≤ k by omega), nI_neg (by omega), nI_dle (by omega) (by omega), dF (show ¬ to ≤ i by omega), nI_zin (by omega), dT (show i < 240 by omega), nI_cl (by omega), ho, show decide ((1 : Int32) ≤ nI (d + 2)) = true from by rw [show (1 : Int32) = nI 1 from rfl, nI_dle (by omega) (by omega)]; exact dT (by omega), show nI (d + 2) + (-1) = nI (d + 1) from nI_down (d + 1), show nI (d + 1) - 1 = nI d from by rw [show (1 : Int32) = nI 1 from rfl, pk_sub (by omega), Nat.add_sub_cancel], show decide (nI (d + 1) < (1 : Int32)) = false from by rw [show (1 : Int32) = nI 1 from rfl, nI_dlt (by omega) (by omega)]; exact dF (by omega), nI_zin (a := d + 1) (N := 32) (by omega), dT hd, nI_cl (a := d + 1) (by omega), nI_zin (a := d) (N := 32) (by omega), dT (show d < 32 by omega), nI_cl (a := d) (by omega), dF hb, nI_1 i, nI_1 k]
    have hg : g_lw_reckon x (b d) (b (d + 1)) = true := by
      unfold g_lw_reckon
      rw [dF hb]
      rcases hx with rfl | rfl <;> rfl
    rw [hg]
    rcases hx with rfl | rfl <;> rfl
/-! the model -/
theorem sM_push (hi : i < to) (hto : to ≤ 240) (hd : d < 32) {x : Nat} (hx : x < 1048576) (hc : c i = nI (1048576 * 0 + x)) : rM c F to (nI d, nI i, b) = rM c F to (nI (d + 1), nI (i + 1), zup b d (nI x)) := by
  refine zlp_in ?_
  dsimp +instances only [f_md_reckonsTo_16, b_md_reckonsTo_16]
  rw [nI_dle (by omega) (by omega), dF (show ¬ to ≤ i by omega), nI_zin (by omega), dT (show i < 260 by omega), nI_cl (by omega), hc, dec_op (by omega) hx, dec_arg (by omega) hx, nI_zin (a := d) (N := 260) (by omega), dT (show d < 260 by omega), nI_cl (a := d) (by omega), nI_1 d, nI_1 i]
  rfl
theorem sM_letter (hi : i < to) (hto : to ≤ 240) (hd : d < 32) {x : Nat} (hx : x < 9) (hc : c i = nI (1048576 * 1 + x)) : rM c F to (nI d, nI i, b) = rM c F to (nI (d + 1), nI (i + 1), zup b d (F x)) := by
  refine zlp_in ?_
  dsimp +instances only [f_md_reckonsTo_16, b_md_reckonsTo_16]
  rw [nI_dle (by omega) (by omega), dF (show ¬ to ≤ i by omega), nI_zin (by omega), dT (show i < 260 by omega), nI_cl (by omega), hc, dec_op (by omega) (by omega), dec_arg (by omega) (by omega), nI_zin (a := x) (N := 9) (by omega), dT hx, nI_cl (a := x) (by omega), nI_zin (a := d) (N := 260) (by omega), dT (show d < 260 by omega), nI_cl (a := d) (by omega), nI_1 d, nI_1 i]
  rfl
theorem sM_not (hi : i < to) (hto : to ≤ 240) (hd : d < 32) (hc : c i = nI (1048576 * 10 + 0)) : rM c F to (nI (d + 1), nI i, b) = rM c F to (nI (d + 1), nI (i + 1), zup b d (1 - b d)) := by
  refine zlp_in ?_
  dsimp +instances only [f_md_reckonsTo_16, b_md_reckonsTo_16]
  rw [nI_dle (by omega) (by omega), dF (show ¬ to ≤ i by omega), nI_zin (by omega), dT (show i < 260 by omega), nI_cl (by omega), hc, dec_op (by omega) (by omega), show nI (d + 1) - 1 = nI d from by rw [show (1 : Int32) = nI 1 from rfl, pk_sub (by omega), Nat.add_sub_cancel], nI_zin (a := d) (N := 260) (by omega), dT (show d < 260 by omega), nI_cl (a := d) (by omega), nI_1 i]
  rfl
theorem sM_and (hi : i < to) (hto : to ≤ 240) (hd : d < 32) {x : Nat} (hx : x < 1048576) (hc : c i = nI (1048576 * 11 + x)) : (b d = 0 → rM c F to (nI (d + 1), nI i, b) = rM c F to (nI (d + 1), nI x, b)) ∧ (¬ b d = 0 → rM c F to (nI (d + 1), nI i, b) = rM c F to (nI d, nI (i + 1), b)) := by
  refine ⟨fun hb => ?_, fun hb => ?_⟩
  · refine zlp_in ?_
    dsimp +instances only [f_md_reckonsTo_16, b_md_reckonsTo_16]
    rw [nI_dle (by omega) (by omega), dF (show ¬ to ≤ i by omega), nI_zin (by omega), dT (show i < 260 by omega), nI_cl (by omega), hc, dec_op (by omega) hx, dec_arg (by omega) hx, show nI (d + 1) - 1 = nI d from by rw [show (1 : Int32) = nI 1 from rfl, pk_sub (by omega), Nat.add_sub_cancel], nI_zin (a := d) (N := 260) (by omega), dT (show d < 260 by omega), nI_cl (a := d) (by omega), hb, Int32.zero_add]
    rfl
  · refine zlp_in ?_
    dsimp +instances only [f_md_reckonsTo_16, b_md_reckonsTo_16]
    rw [nI_dle (by omega) (by omega), dF (show ¬ to ≤ i by omega), nI_zin (by omega), dT (show i < 260 by omega), nI_cl (by omega), hc, dec_op (by omega) hx, show nI (d + 1) - 1 = nI d from by rw [show (1 : Int32) = nI 1 from rfl, pk_sub (by omega), Nat.add_sub_cancel], nI_zin (a := d) (N := 260) (by omega), dT (show d < 260 by omega), nI_cl (a := d) (by omega), dF hb, nI_1 i]
    rfl
theorem sM_or (hi : i < to) (hto : to ≤ 240) (hd : d < 32) {x : Nat} (hx : x < 1048576) (hc : c i = nI (1048576 * 12 + x)) : (b d = 1 → rM c F to (nI (d + 1), nI i, b) = rM c F to (nI (d + 1), nI x, b)) ∧ (¬ b d = 1 → rM c F to (nI (d + 1), nI i, b) = rM c F to (nI d, nI (i + 1), b)) := by
  refine ⟨fun hb => ?_, fun hb => ?_⟩
  · refine zlp_in ?_
    dsimp +instances only [f_md_reckonsTo_16, b_md_reckonsTo_16]
    rw [nI_dle (by omega) (by omega), dF (show ¬ to ≤ i by omega), nI_zin (by omega), dT (show i < 260 by omega), nI_cl (by omega), hc, dec_op (by omega) hx, dec_arg (by omega) hx, show nI (d + 1) - 1 = nI d from by rw [show (1 : Int32) = nI 1 from rfl, pk_sub (by omega), Nat.add_sub_cancel], nI_zin (a := d) (N := 260) (by omega), dT (show d < 260 by omega), nI_cl (a := d) (by omega), hb, Int32.zero_add]
    rfl
  · refine zlp_in ?_
    dsimp +instances only [f_md_reckonsTo_16, b_md_reckonsTo_16]
    rw [nI_dle (by omega) (by omega), dF (show ¬ to ≤ i by omega), nI_zin (by omega), dT (show i < 260 by omega), nI_cl (by omega), hc, dec_op (by omega) hx, show nI (d + 1) - 1 = nI d from by rw [show (1 : Int32) = nI 1 from rfl, pk_sub (by omega), Nat.add_sub_cancel], nI_zin (a := d) (N := 260) (by omega), dT (show d < 260 by omega), nI_cl (a := d) (by omega), dF hb, nI_1 i]
    rfl
theorem sM_bin (hi : i < to) (hto : to ≤ 240) (hd : d + 1 < 32) {m : Nat} (hm : m = 2 ∨ m = 3 ∨ m = 4 ∨ m = 7 ∨ m = 8 ∨ m = 9) (hc : c i = nI (1048576 * m + 0)) : rM c F to (nI (d + 2), nI i, b) = rM c F to (nI (d + 1), nI (i + 1), zup b d (w_md_reckon (nI m) (b d) (b (d + 1)))) := by
  refine zlp_in ?_
  dsimp +instances only [f_md_reckonsTo_16, b_md_reckonsTo_16]
  rw [nI_dle (by omega) (by omega), dF (show ¬ to ≤ i by omega), nI_zin (by omega), dT (show i < 260 by omega), nI_cl (by omega), hc, dec_op (by omega) (by omega), show nI (d + 2) - 1 = nI (d + 1) from by rw [show (1 : Int32) = nI 1 from rfl, pk_sub (by omega)]; rfl, show nI (d + 1) - 1 = nI d from by rw [show (1 : Int32) = nI 1 from rfl, pk_sub (by omega), Nat.add_sub_cancel], nI_zin (a := d + 1) (N := 260) (by omega), dT (show d + 1 < 260 by omega), nI_zin (a := d) (N := 260) (by omega), dT (show d < 260 by omega), nI_cl (a := d + 1) (by omega), nI_cl (a := d) (by omega), nI_1 i]
  rcases hm with rfl | rfl | rfl | rfl | rfl | rfl <;> rfl
theorem sM_div (hi : i < to) (hto : to ≤ 240) (hd : d + 1 < 32) {m : Nat} (hm : m = 5 ∨ m = 6) (hc : c i = nI (1048576 * m + 0)) : (b (d + 1) = 0 → rM c F to (nI (d + 2), nI i, b) = some (0, b)) ∧ (¬ b (d + 1) = 0 → rM c F to (nI (d + 2), nI i, b) = rM c F to (nI (d + 1), nI (i + 1), zup b d (w_md_reckon (nI m) (b d) (b (d + 1))))) := by
  refine ⟨fun hb => ?_, fun hb => ?_⟩
  · refine zlp_out ?_
    dsimp +instances only [f_md_reckonsTo_16, b_md_reckonsTo_16]
    rw [nI_dle (by omega) (by omega), dF (show ¬ to ≤ i by omega), nI_zin (by omega), dT (show i < 260 by omega), nI_cl (by omega), hc, dec_op (by omega) (by omega), show nI (d + 2) - 1 = nI (d + 1) from by rw [show (1 : Int32) = nI 1 from rfl, pk_sub (by omega)]; rfl, nI_zin (a := d + 1) (N := 260) (by omega), dT (show d + 1 < 260 by omega), nI_cl (a := d + 1) (by omega), hb]
    rcases hm with rfl | rfl <;> rfl
  · refine zlp_in ?_
    dsimp +instances only [f_md_reckonsTo_16, b_md_reckonsTo_16]
    rw [nI_dle (by omega) (by omega), dF (show ¬ to ≤ i by omega), nI_zin (by omega), dT (show i < 260 by omega), nI_cl (by omega), hc, dec_op (by omega) (by omega), show nI (d + 2) - 1 = nI (d + 1) from by rw [show (1 : Int32) = nI 1 from rfl, pk_sub (by omega)]; rfl, show nI (d + 1) - 1 = nI d from by rw [show (1 : Int32) = nI 1 from rfl, pk_sub (by omega), Nat.add_sub_cancel], nI_zin (a := d + 1) (N := 260) (by omega), dT (show d + 1 < 260 by omega), nI_zin (a := d) (N := 260) (by omega), dT (show d < 260 by omega), nI_cl (a := d + 1) (by omega), nI_cl (a := d) (by omega), nI_1 i]
    have hg : g_md_reckon (nI m) (b d) (b (d + 1)) = true := by
      unfold g_md_reckon
      rw [dF hb]
      rcases hm with rfl | rfl <;> rfl
    rw [hg, dF hb]
    rcases hm with rfl | rfl <;> rfl
end dsteps
