/-! ===== the law, run ===== -/
theorem LE_ok {X : Nat × (Nat → Int32)} : zOkE X LE 64 := zOkE_cons (ok_if_feed X) (by decide) (zOkE_cons (ok_md_feed X) (by decide) (zOkE_cons (ok_if_law X) (by decide) (zOkE_cons (ok_md_law X) (by decide) (zOkE_cons (ok_if_town X) (by decide) (zOkE_cons (ok_md_town X) (by decide) (zOkE_cons (ok_if_orders X) (by decide) (zOkE_cons (ok_md_orders X) (by decide) (zOkE_cons (ok_if_minutes X) (by decide) (zOkE_cons (ok_md_minutes X) (by decide) (zOkE_cons (ok_if_tried X) (by decide) (zOkE_cons (ok_md_tried X) (by decide) (zOkE_cons (ok_if_placeIs X) (by decide) (zOkE_cons (ok_md_placeIs X) (by decide) (zOkE_cons (ok_if_thingIs X) (by decide) (zOkE_cons (ok_md_thingIs X) (by decide) (zOkE_cons (ok_if_comes X) (by decide) (zOkE_cons (ok_md_comes X) (by decide) (zOkE_cons (ok_if_over X) (by decide) (zOkE_cons (ok_md_over X) (by decide) (zOkE_cons (ok_if_steps X) (by decide) (zOkE_cons (ok_md_steps X) (by decide) (zOkE_cons (ok_if_began X) (by decide) (zOkE_cons (ok_md_began X) (by decide) (zOkE_cons (ok_if_breaks X) (by decide) (zOkE_cons (ok_md_breaks X) (by decide) (zOkE_cons (ok_if_getsOut X) (by decide) (zOkE_cons (ok_md_getsOut X) (by decide) (zOkE_cons (ok_if_safe X) (by decide) (zOkE_cons (ok_md_safe X) (by decide) (zOkE_cons (ok_if_insure X) (by decide) (zOkE_cons (ok_md_insure X) (by decide) (zOkE_cons (ok_if_roundFigure X) (by decide) (zOkE_cons (ok_md_roundFigure X) (by decide) (zOkE_cons (ok_if_ruin X) (by decide) (zOkE_cons (ok_md_ruin X) (by decide) (zOkE_cons (ok_if_carried X) (by decide) (zOkE_cons (ok_md_carried X) (by decide) (zOkE_cons (ok_if_premium X) (by decide) (zOkE_cons (ok_md_premium X) (by decide) (zOkE_cons (ok_if_woods X) (by decide) (zOkE_cons (ok_md_woods X) (by decide) (zOkE_cons (ok_if_seed X) (by decide) (zOkE_cons (ok_md_seed X) (by decide) (zOkE_cons (ok_if_keep X) (by decide) (zOkE_cons (ok_md_keep X) (by decide) (zOkE_cons (ok_if_undo X) (by decide) (zOkE_cons (ok_md_undo X) (by decide) (zOkE_cons (ok_if_check X) (by decide) (zOkE_cons (ok_md_check X) (by decide) (zOkE_cons (ok_if_count X) (by decide) (zOkE_cons (ok_md_count X) (by decide) (zOkE_nil X 64))))))))))))))))))))))))))))))))))))))))))))))))))))
theorem lp_all {X : Nat × (Nat → Int32)} (hn : X.1 ≤ 3072) {g : zH2} (hG : Rel g) : ∃ g', zR2 X zFT LE zc_249 18 [.float 0, .ref 0, .ref 64, .int 0] [] g (some (.int 1), g') := by
  by_cases h6 : 6 ≤ X.1
  · exact lp_step rfl h6 hn _ 0 g rfl (by omega) hG
  · refine ⟨g, zseg_ret (lc_head.trans ?_)⟩
    have : X.1 = 0 ∨ X.1 = 1 ∨ X.1 = 2 ∨ X.1 = 3 ∨ X.1 = 4 ∨ X.1 = 5 := by omega
    rcases this with e | e | e | e | e | e <;> rw [e] <;> rfl
/-- the beginning -/
theorem Rel_g0 : Rel g0 := by
  have a65 : AR0 65 = zup (fun _ => 0) 314 1 := rfl
  refine ⟨fun k _ => ?_, ⟨0, by omega, rfl, rfl⟩, fun _ _ => rfl, ?_, Or.inl ⟨rfl, rfl⟩, Or.inl ⟨rfl, rfl, 0, by omega, rfl, rfl, fun q hq => absurd hq (by omega)⟩⟩
  · show (0 : Int32) = 0 &&& 255
    decide
  · show RS (fun _ => 0) (fun _ => 0) (fun _ => 0) (fun _ => 0) (fun _ => 0) 0 0 0 0 1 (AR0 65)
    rw [a65]
    refine ⟨fun k hk => ⟨(zup_ne (f := fun _ => (0 : Int32)) (x := 1) (a := 314) (b := k) (by omega)).symm, (zup_ne (f := fun _ => (0 : Int32)) (x := 1) (a := 314) (b := 96 + k) (by omega)).symm⟩, ⟨fun i hi => ?_, fun i _ => ⟨b_0 i, b_0 i⟩⟩, fun i hi => ⟨⟨0, by omega, rfl⟩, ⟨0, by omega, rfl⟩, ⟨0, by omega, rfl⟩, fun _ => rfl, fun q => by rw [b_0] at q; cases q⟩, rfl, rfl, rfl, ⟨1, by omega, rfl⟩, fun k hk hs => absurd (show (0 : Int32) = 1 from hs) (by decide)⟩
    rw [b_0, zup_ne (by omega), zup_ne (by omega), zup_ne (by omega), zup_ne (by omega), zup_ne (by omega)]
    exact ⟨rfl, rfl, rfl, rfl, rfl⟩
def zE3 (X : Nat × (Nat → Int32)) (E : Nat → List Value → zH → Option zO) : Nat → List Value → zH → Option zO := fun u args h => match zexc X 5 u args h with
  | some o => some o
  | none => E u args h
set_option maxRecDepth 100000 in
set_option maxHeartbeats 4000000 in
theorem ct_run3 {X : Nat × (Nat → Int32)} {E : Nat → List Value → zH → Option zO} (n : Nat) : zrun X zFT (zE3 X E) zc_249 (n + 10) 0 [.float 0] [] zh0 = zrun X zFT (zE3 X E) zc_249 n 18 [.float 0, .ref 0, .ref 64, .int 0] [] (SH, AR0, FI0, RF0) := rfl
theorem zE3_to {X : Nat × (Nat → Int32)} {d : Nat} (hd : 5 ≤ d) (u : Nat) (args : List Value) (h : zH) (o : zO) (he : zex X zFT zC d u args h = some o) : zE3 X (zex X zFT zC d) u args h = some o := by
  unfold zE3
  cases hc : zexc X 5 u args h with
  | none => exact he
  | some o2 =>
    have := zexc_ok 5 u args h o2 hc d hd
    rw [he] at this
    exact this.symm
theorem zE3_of {X : Nat × (Nat → Int32)} {d : Nat} (hd : 5 ≤ d) (u : Nat) (args : List Value) (h : zH) (o : zO) (he : zE3 X (zex X zFT zC d) u args h = some o) : zex X zFT zC d u args h = some o := by
  unfold zE3 at he
  cases hc : zexc X 5 u args h with
  | none => rw [hc] at he; exact he
  | some o2 =>
    rw [hc] at he
    have := zexc_ok 5 u args h o2 hc d hd
    rw [this]
    exact he
theorem law_run {X : Nat × (Nat → Int32)} (hn : X.1 ≤ 3072) : ∃ g', zR X zFT (zex X zFT zC 64) zc_249 0 [.float 0] [] zh0 (some (.int 1), emb g') := by
  obtain ⟨g', n, h⟩ := lp_all hn Rel_g0
  have h2 : zrun X zFT (zex X zFT zC 64) zc_249 n 18 [.float 0, .ref 0, .ref 64, .int 0] [] (emb g0) = some (some (.int 1), emb g') := zrun2_sim (fun u args g r g' he => zex2_sim 64 u args g r g' (LE_ok u args g (r, g') he 64 (Nat.le_refl _))) h
  have h3 := zrun_E (zE3_to (X := X) (show 5 ≤ 64 by omega)) n 18 _ _ _ h2
  rw [← ct_emb, ← ct_run3] at h3
  exact ⟨g', n + 10, zrun_E (zE3_of (X := X) (show 5 ≤ 64 by omega)) _ _ _ _ _ h3⟩
