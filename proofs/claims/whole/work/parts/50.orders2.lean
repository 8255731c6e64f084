/-! ===== D: orders: lines ===== -/
/-- how a line comes out: good; good but what stands behind it; a fault -/
def okT (a1 : Nat → Int32) (L : Nat) (G : Prop) (f fp ps ret ps' F : Int32) : Prop :=
  (f = 0 ∧ ret = 1 ∧ G ∧ ∃ p, p ≤ L ∧ ps = nI p ∧ ps' = nI p ∧ (p < L → sg a1 L p = 59)) ∨
  (∃ p, f = 1 ∧ fp = nI p ∧ ret = 1 ∧ ps' = nI p ∧ p < L ∧ sg a1 L p ≠ 59) ∨
  (∃ k pl, 1 ≤ k ∧ k ≤ 8 ∧ pl ≤ 1000 ∧ f = nI k ∧ fp = nI pl ∧ ret = 0 ∧ F = f0_md_wrongAt (nI k) (nI pl))
theorem okT_ret {a1 : Nat → Int32} {L : Nat} {G : Prop} {f fp ps ret ps' F : Int32} (h : okT a1 L G f fp ps ret ps' F) : (decide (ret = 0) || decide (ret = 1)) = true := by
  rcases h with ⟨-, rfl, -⟩ | ⟨p, -, -, rfl, -⟩ | ⟨k, pl, -, -, -, -, -, rfl, -⟩ <;> rfl
theorem d_endL {a1 : Nat → Int32} {L p : Nat} (hL : L ≤ 260) (hp : p ≤ L) {G : Prop} (hG : G) (fp F : Int32) : g_od_endLine (nI p) (nI L) 0 a1 fp = true ∧ okT a1 L G (f0_od_endLine (nI p) (nI L) 0 a1 fp) (f1_od_endLine (nI p) (nI L) 0 a1 fp) (nI p) 1 (nI p) F := by
  have e := d_sign (a := a1) hL (show p < 1000000 by omega)
  unfold g_od_endLine f0_od_endLine f1_od_endLine w_tx_isAtEnd
  rw [e.1, e.2, nI_dlt (by omega) (by omega)]
  by_cases h : p < L
  · rw [dT h]
    refine ⟨rfl, ?_⟩
    by_cases hs : sg a1 L p = 59
    · rw [dT hs]
      exact Or.inl ⟨rfl, rfl, hG, p, hp, rfl, rfl, fun _ => hs⟩
    · rw [dF hs]
      exact Or.inr (Or.inl ⟨p, rfl, rfl, rfl, rfl, h, hs⟩)
  · rw [dF h]
    exact ⟨rfl, Or.inl ⟨rfl, rfl, hG, p, hp, rfl, rfl, fun q => absurd q h⟩⟩
theorem d_endLF {f : Int32} (hf : f ≠ 0) (a1 : Nat → Int32) (p L fp : Int32) : g_od_endLine p L f a1 fp = true ∧ f0_od_endLine p L f a1 fp = f ∧ f1_od_endLine p L f a1 fp = fp := by
  have e := d_signF hf p L a1
  have e2 := d_failF hf 1 p fp
  unfold g_od_endLine f0_od_endLine f1_od_endLine
  rw [e.1, e.2, e2.1, e2.2]
  cases decide (w_tx_isAtEnd p L = 0) <;> exact ⟨rfl, rfl, rfl⟩
theorem d_goodF {f : Int32} (hf : f ≠ 0) : w_tx_isGood f = 0 := by
  unfold w_tx_isGood
  rw [dF hf]
  rfl
theorem d_isNum {s : Nat} (hs : s < 96) : g_if_isNumber (nI s) = true ∧ w_if_isNumber (nI s) = 1 := by
  rcases d_num (nI s) with ⟨h1, -⟩ | ⟨h1, -, h2, -⟩
  · unfold w_if_isNumber at h1
    rw [show w_if_isWithin (nI s) 0 95 = 1 from (d_in1 (a := 0) (b := 95) (by omega) (by omega) (by omega)).2] at h1
    exact absurd h1 (by decide)
  · exact ⟨h2, h1⟩
section dlines
variable {a1 a70 : Nat → Int32} {kd K st lf at_ va su N : Nat → Int32} {tl gn wd mn x : Int32}
theorem d_lighting (h : RT a1 a70) (hK : KA 96 kd K) (hR : RS st lf at_ va su tl gn wd mn x N) {L p : Nat} (hL : L ≤ 260) (hp : p + 1 ≤ L) (fp F9 n0 s0 : Int32) :
    ∃ st' lf' f fp' ps N' ret ps' F n s1 s2, q_od_readLighting a1 kd st lf (nI L) 0 fp (nI p) = some (st', lf', f, fp', ps) ∧ q_md_readsFire N K a70 (nI (p + 1)) (nI L) F9 n0 s0 = some (ret, N', ps', F, n, s1, s2) ∧ okT a1 L (RS st' lf' at_ va su tl gn wd mn x N') f fp' ps ret ps' F := by
  unfold q_od_readLighting q_md_readsFire
  rw [d_skip]
  dsimp +instances only [zl]
  rcases d_spot h hL hp fp F9 n0 s0 with ⟨s, p', n', hs, hp', q1, q2⟩ | ⟨v, k, pl, ps, ps', n', s1, s2, h1, h2, h3, q1, q2⟩
  · rw [q1, q2]
    dsimp +instances only [zbd]
    simp only [show w_tx_isGood 0 = 1 from rfl, show decide ((1 : Int32) = 0) = false from rfl, nFf, cTt, cFf]
    have hww : g_sc_isWholeWood (nI s) kd st = true ∧ w_sc_isWholeWood (nI s) kd st = b01 (decide (K s = 1) && decide (st s = 0)) := by
      unfold g_sc_isWholeWood w_sc_isWholeWood
      rw [nI_cl (by omega), nI_zin (by omega), dT hs, hK s hs]
      cases decide (K s = 1) <;> cases decide (st s = 0) <;> exact ⟨rfl, rfl⟩
    have hw1 := d_isWood (c := K) hs
    have hn := d_isNum hs
    have e0 : (0 : Int32) + nI s = nI s := Int32.zero_add _
    have e96 : (96 : Int32) + nI s = nI (96 + s) := nI_add 96 s
    have hNs := (hR.1 s hs).1
    rw [hn.1, hn.2, hww.1, hww.2, hw1.1, hw1.2, e0, e96, nI_zin (by omega), dT (show s < 315 by omega), nI_zin (by omega), dT (show 96 + s < 315 by omega), nI_cl (by omega), nI_cl (by omega), ← hNs]
    dsimp +instances only [zg]
    simp only [cTt, show decide ((1 : Int32) = 0) = false from rfl, cFf]
    have bad : ∃ (f fp' : Int32), f = 8 ∧ fp' = nI (p + 1) ∧ g_od_endLine (nI p') (nI L) 8 a1 (nI (p + 1)) = true ∧ f0_od_endLine (nI p') (nI L) 8 a1 (nI (p + 1)) = f ∧ f1_od_endLine (nI p') (nI L) 8 a1 (nI (p + 1)) = fp' := by
      have := d_endLF (show (8 : Int32) ≠ 0 by decide) a1 (nI p') (nI L) (nI (p + 1))
      exact ⟨_, _, rfl, rfl, this.1, this.2.1, this.2.2⟩
    obtain ⟨f, fp', rfl, rfl, b1, b2, b3⟩ := bad
    by_cases hk : K s = 1
    · by_cases hst : st s = 0
      · rw [dT hk, dT hst]
        have gs : g_sc_setState (nI s) 1 3 st lf = true := by unfold g_sc_setState; rw [nI_zin (by omega), dT hs]; rfl
        have as : a0_sc_setState (nI s) 1 3 st lf = zup st s 1 ∧ a1_sc_setState (nI s) 1 3 st lf = zup lf s 3 := by unfold a0_sc_setState a1_sc_setState; rw [nI_cl (by omega)]; exact ⟨rfl, rfl⟩
        have hR' := RS_set hR hs 1 3 (fun _ => ⟨3, by omega, by omega, rfl⟩)
        rw [zup_swap (by omega)] at hR'
        obtain ⟨c1, c2⟩ := d_endL (a1 := a1) hL hp' hR' fp F9
        simp only [Bool.and_self, b01_0, nTt, cFf, gs, as.1, as.2, cTt, c1]
        exact ⟨_, _, _, _, _, _, _, _, _, _, _, _, rfl, rfl, c2⟩
      · rw [dT hk, dF hst]
        simp only [Bool.and_false, b01_0, nTt, nFf, cFf, cTt, d_fail0, b1, b2, b3]
        exact ⟨_, _, _, _, _, _, _, _, _, _, _, _, rfl, rfl, Or.inr (Or.inr ⟨8, p + 1, by omega, by omega, by omega, rfl, rfl, rfl, rfl⟩)⟩
    · rw [dF hk]
      simp only [Bool.false_and, b01_0, nTt, nFf, cFf, cTt, d_fail0, b1, b2, b3]
      exact ⟨_, _, _, _, _, _, _, _, _, _, _, _, rfl, rfl, Or.inr (Or.inr ⟨8, p + 1, by omega, by omega, by omega, rfl, rfl, rfl, rfl⟩)⟩
  · have hk0 : nI k ≠ 0 := nI_ne0 (by omega) (by omega)
    have he := d_endLF hk0 a1 ps (nI L) (nI pl)
    rw [q1, q2]
    dsimp +instances only [zbd, zg]
    simp only [d_goodF hk0, show decide ((0 : Int32) = 0) = true from rfl, cTt, nTt, cFf, he]
    exact ⟨_, _, _, _, _, _, _, _, _, _, _, _, rfl, rfl, Or.inr (Or.inr ⟨k, pl, h1, by omega, h3, rfl, rfl, rfl, rfl⟩)⟩
theorem d_watering (h : RT a1 a70) (hK : KA 96 kd K) (hR : RS st lf at_ va su tl gn wd mn x N) {L p : Nat} (hL : L ≤ 260) (hp : p + 1 ≤ L) (fp F9 n0 s0 : Int32) :
    ∃ kd' st' lf' f fp' ps N' K' ret ps' F n s1 s2, q_od_readWatering a1 kd st lf (nI L) 0 fp (nI p) = some (kd', st', lf', f, fp', ps) ∧ q_md_readsWater N K a70 (nI (p + 1)) (nI L) F9 n0 s0 = some (ret, N', K', ps', F, n, s1, s2) ∧ okT a1 L (RS st' lf' at_ va su tl gn wd mn x N' ∧ KA 96 kd' K') f fp' ps ret ps' F := by
  unfold q_od_readWatering q_md_readsWater
  rw [d_skip]
  dsimp +instances only [zl]
  rcases d_spot h hL hp fp F9 n0 s0 with ⟨s, p', n', hs, hp', q1, q2⟩ | ⟨v, k, pl, ps, ps', n', s1, s2, h1, h2, h3, q1, q2⟩
  · rw [q1, q2]
    have hn := d_isNum hs
    have hw := d_whole hs N
    have gs : g_sc_setState (nI s) 0 0 st lf = true := by unfold g_sc_setState; rw [nI_zin (by omega), dT hs]; rfl
    have as : a0_sc_setState (nI s) 0 0 st lf = zup st s 0 ∧ a1_sc_setState (nI s) 0 0 st lf = zup lf s 0 := by unfold a0_sc_setState a1_sc_setState; rw [nI_cl (by omega)]; exact ⟨rfl, rfl⟩
    have hR' := RS_set hR hs 0 0 (fun q => absurd q (by decide))
    rw [zup_swap (by omega)] at hR'
    obtain ⟨c1, c2⟩ := d_endL (a1 := a1) hL hp' (And.intro hR' (KA_put hK s 3)) fp F9
    dsimp +instances only [zbd]
    rw [c1, nI_zin (by omega), dT hs, nI_cl (by omega), hn.1, hn.2, hw.1, hw.2, gs, as.1, as.2]
    dsimp +instances only [zg]
    simp only [cTt, show decide ((1 : Int32) = 0) = false from rfl, cFf, nFf]
    generalize f0_od_endLine (nI p') (nI L) 0 a1 fp = f at c2
    generalize f1_od_endLine (nI p') (nI L) 0 a1 fp = g at c2
    rcases c2 with ⟨rfl, c3⟩ | ⟨p2, rfl, c3⟩ | ⟨k, pl, -, -, -, -, -, c3, -⟩
    · exact ⟨_, _, _, _, _, _, _, _, _, _, _, _, _, _, rfl, rfl, Or.inl ⟨rfl, c3⟩⟩
    · exact ⟨_, _, _, _, _, _, _, _, _, _, _, _, _, _, rfl, rfl, Or.inr (Or.inl ⟨p2, rfl, c3⟩)⟩
    · exact absurd c3 (by decide)
  · have hk0 : nI k ≠ 0 := nI_ne0 (by omega) (by omega)
    have he := d_endLF hk0 a1 ps (nI L) (nI pl)
    rw [q1, q2]
    dsimp +instances only [zbd, zg]
    simp only [he, d_goodF hk0, show decide ((0 : Int32) = 0) = true from rfl, cTt, nTt, cFf]
    exact ⟨_, _, _, _, _, _, _, _, _, _, _, _, _, _, rfl, rfl, Or.inr (Or.inr ⟨k, pl, h1, by omega, h3, rfl, rfl, rfl, rfl⟩)⟩
theorem RS_wind (hR : RS st lf at_ va su tl gn wd mn x N) (v : Int32) : RS st lf at_ va su tl gn v mn x (zup N 312 v) := by
  obtain ⟨h1, h2, h3, h4, h5, h6, h7, h8⟩ := hR
  refine ⟨fun k hk => ?_, ⟨fun i hi => ?_, h2.2⟩, h3, ?_, ?_, ?_, h7, h8⟩
  · rw [zup_ne (by omega), zup_ne (by omega)]; exact h1 k hk
  · rw [zup_ne (by omega), zup_ne (by omega), zup_ne (by omega), zup_ne (by omega), zup_ne (by omega)]; exact h2.1 i hi
  · rw [zup_same]
  · rw [zup_ne (by omega)]; exact h5
  · rw [zup_ne (by omega)]; exact h6
theorem d_wind (h : RT a1 a70) (hR : RS st lf at_ va su tl gn wd mn x N) {L p : Nat} (hL : L ≤ 260) (hp : p + 1 ≤ L) (fp F9 : Int32) :
    ∃ wd' f fp' ps, q_od_readWind a1 wd (nI L) 0 fp (nI p) = some (wd', f, fp', ps) ∧ g_md_readsWind (nI L) (nI (p + 1)) a70 N F9 = true ∧ okT a1 L (RS st lf at_ va su tl gn wd' mn x (a0_md_readsWind (nI L) (nI (p + 1)) a70 N F9)) f fp' ps (w_md_readsWind (nI L) (nI (p + 1)) a70 N F9) (f0_md_readsWind (nI L) (nI (p + 1)) a70 N F9) (f1_md_readsWind (nI L) (nI (p + 1)) a70 N F9) := by
  have e := d_sign (a := a1) hL (show p + 1 < 1000000 by omega)
  have e' := d_here h hL (show p + 1 < 1000000 by omega)
  unfold q_od_readWind g_md_readsWind a0_md_readsWind w_md_readsWind f0_md_readsWind f1_md_readsWind
  rw [d_skip, e'.1, e'.2, nI_1]
  dsimp +instances only [zl]
  rw [e.1, e.2, d_skip]
  dsimp +instances only [zg]
  simp only [cTt]
  by_cases h1 : sg a1 L (p + 1) < 48
  · have hi : w_md_in (sg a1 L (p + 1)) 48 51 = 0 := by unfold w_md_in; rw [dT h1]; rfl
    rw [dT h1, hi]
    exact ⟨_, _, _, _, rfl, rfl, Or.inr (Or.inr ⟨1, p + 1, by omega, by omega, by omega, rfl, rfl, rfl, rfl⟩)⟩
  · by_cases h2 : 51 < sg a1 L (p + 1)
    · have hi : w_md_in (sg a1 L (p + 1)) 48 51 = 0 := by unfold w_md_in; rw [dF h1, dT h2]; rfl
      rw [dF h1, dT h2, hi]
      exact ⟨_, _, _, _, rfl, rfl, Or.inr (Or.inr ⟨1, p + 1, by omega, by omega, by omega, rfl, rfl, rfl, rfl⟩)⟩
    · have hi : w_md_in (sg a1 L (p + 1)) 48 51 = 1 := by unfold w_md_in; rw [dF h1, dF h2]; rfl
      obtain ⟨c, ec, hc1, hc2⟩ := nI_within (a := 48) (b := 51) (by omega) h1 h2 (by omega)
      have hin : p + 1 < L := sg_in (by rw [ec]; exact nI_nem1 (by omega))
      obtain ⟨c1, c2⟩ := d_endL (a1 := a1) hL (show p + 1 + 1 ≤ L by omega) (RS_wind hR (sg a1 L (p + 1) - 48)) fp F9
      rw [dF h1, dF h2, hi, c1]
      exact ⟨_, _, _, _, rfl, rfl, c2⟩
/-- a thing is told -/
theorem RS_tell (hR : RS st lf at_ va su tl gn wd mn x N) {i s : Nat} (hi : i < 24) (hs : s < 96) :
    RS st lf (zup at_ i (nI s)) va su (tl ||| (1 <<< (nI i &&& 31))) (gn &&& ((1 <<< (nI i &&& 31)) ^^^ (-1))) wd mn x (zup (zup (zup N (192 + i) 1) (216 + i) (nI s)) (288 + i) 0) := by
  obtain ⟨h1, h2, h3, h4, h5, h6, h7, h8⟩ := hR
  have ht : ∀ j, j < 32 → bt (tl ||| (1 <<< (nI i &&& 31))) j = (bt tl j || decide (j = i)) := fun j hj => by rw [b_or, bt_shl1 (by omega) hj]
  have hg : ∀ j, j < 32 → bt (gn &&& ((1 <<< (nI i &&& 31)) ^^^ (-1))) j = (bt gn j && !decide (j = i)) := fun j hj => by rw [b_and, b_xor, bt_shl1 (by omega) hj, b_m1 j hj, Bool.xor_true]
  refine ⟨fun k hk => ?_, ⟨fun j hj => ?_, fun j hj => ?_⟩, fun j hj => ?_, ?_, ?_, ?_, h7, h8⟩
  · rw [zup_ne (by omega), zup_ne (by omega), zup_ne (by omega), zup_ne (by omega), zup_ne (by omega), zup_ne (by omega)]; exact h1 k hk
  · obtain ⟨p1, p2, p3, p4, p5⟩ := h2.1 j hj
    rw [zup_ne (show 216 + j ≠ 288 + i by omega), zup_ne (show 240 + j ≠ 288 + i by omega), zup_ne (show 240 + j ≠ 216 + i by omega), zup_ne (show 240 + j ≠ 192 + i by omega), zup_ne (show 264 + j ≠ 288 + i by omega), zup_ne (show 264 + j ≠ 216 + i by omega), zup_ne (show 264 + j ≠ 192 + i by omega), zup_ne (show 192 + j ≠ 288 + i by omega), zup_ne (show 192 + j ≠ 216 + i by omega), ht j (by omega), hg j (by omega)]
    by_cases e : j = i
    · subst e
      rw [zup_same, zup_same, zup_same, zup_same, decide_eq_true rfl, Bool.or_true]
      refine ⟨rfl, p2, p3, rfl, ?_⟩
      rw [show (!true) = false from rfl, Bool.and_false]
      rfl
    · rw [zup_ne e, zup_ne (show 216 + j ≠ 216 + i by omega), zup_ne (show 216 + j ≠ 192 + i by omega), zup_ne (show 192 + j ≠ 192 + i by omega), zup_ne (show 288 + j ≠ 288 + i by omega), zup_ne (show 288 + j ≠ 216 + i by omega), zup_ne (show 288 + j ≠ 192 + i by omega), decide_eq_false e, Bool.or_false, show (!false) = true from rfl, Bool.and_true]
      exact ⟨p1, p2, p3, p4, p5⟩
  · by_cases hj32 : j < 32
    · rw [ht j hj32, hg j hj32, decide_eq_false (by omega), Bool.or_false, (h2.2 j hj).1, (h2.2 j hj).2]
      exact ⟨rfl, rfl⟩
    · exact ⟨b_big (by omega), b_big (by omega)⟩
  · obtain ⟨p1, p2, p3, p4, p5⟩ := h3 j hj
    rw [ht j (by omega), hg j (by omega)]
    by_cases e : j = i
    · subst e
      rw [zup_same, decide_eq_true rfl, Bool.or_true]
      exact ⟨⟨s, hs, rfl⟩, p2, p3, fun q => (by cases q), fun _ => rfl⟩
    · rw [zup_ne e, decide_eq_false e, Bool.or_false, show (!false) = true from rfl, Bool.and_true]
      exact ⟨p1, p2, p3, p4, p5⟩
  · rw [zup_ne (by omega), zup_ne (by omega), zup_ne (by omega)]; exact h4
  · rw [zup_ne (by omega), zup_ne (by omega), zup_ne (by omega)]; exact h5
  · rw [zup_ne (by omega), zup_ne (by omega), zup_ne (by omega)]; exact h6
theorem RS_value (hR : RS st lf at_ va su tl gn wd mn x N) {i v : Nat} (hi : i < 24) (hv : v ≤ 9999) (ht : bt tl i = true) : RS st lf at_ (zup va i (nI v)) su tl gn wd mn x (zup N (240 + i) (nI v)) := by
  obtain ⟨h1, h2, h3, h4, h5, h6, h7, h8⟩ := hR
  refine ⟨fun k hk => ?_, ⟨fun j hj => ?_, h2.2⟩, fun j hj => ?_, ?_, ?_, ?_, h7, h8⟩
  · rw [zup_ne (by omega), zup_ne (by omega)]; exact h1 k hk
  · obtain ⟨p1, p2, p3, p4, p5⟩ := h2.1 j hj
    rw [zup_ne (show 216 + j ≠ 240 + i by omega), zup_ne (show 264 + j ≠ 240 + i by omega), zup_ne (show 192 + j ≠ 240 + i by omega), zup_ne (show 288 + j ≠ 240 + i by omega)]
    refine ⟨p1, ?_, p3, p4, p5⟩
    by_cases e : j = i
    · subst e; rw [zup_same, zup_same]
    · rw [zup_ne e, zup_ne (by omega)]; exact p2
  · obtain ⟨p1, p2, p3, p4, p5⟩ := h3 j hj
    by_cases e : j = i
    · subst e
      rw [zup_same]
      exact ⟨p1, ⟨v, hv, rfl⟩, p3, fun q => (by rw [ht] at q; cases q), p5⟩
    · rw [zup_ne e]; exact ⟨p1, p2, p3, p4, p5⟩
  · rw [zup_ne (by omega)]; exact h4
  · rw [zup_ne (by omega)]; exact h5
  · rw [zup_ne (by omega)]; exact h6
theorem RS_sum (hR : RS st lf at_ va su tl gn wd mn x N) {i v : Nat} (hi : i < 24) (hv : v ≤ 9999) : RS st lf at_ va (zup su i (nI v)) tl gn wd mn x (zup N (264 + i) (nI v)) := by
  obtain ⟨h1, h2, h3, h4, h5, h6, h7, h8⟩ := hR
  refine ⟨fun k hk => ?_, ⟨fun j hj => ?_, h2.2⟩, fun j hj => ?_, ?_, ?_, ?_, h7, h8⟩
  · rw [zup_ne (by omega), zup_ne (by omega)]; exact h1 k hk
  · obtain ⟨p1, p2, p3, p4, p5⟩ := h2.1 j hj
    rw [zup_ne (show 216 + j ≠ 264 + i by omega), zup_ne (show 240 + j ≠ 264 + i by omega), zup_ne (show 192 + j ≠ 264 + i by omega), zup_ne (show 288 + j ≠ 264 + i by omega)]
    refine ⟨p1, p2, ?_, p4, p5⟩
    by_cases e : j = i
    · subst e; rw [zup_same, zup_same]
    · rw [zup_ne e, zup_ne (by omega)]; exact p3
  · obtain ⟨p1, p2, p3, p4, p5⟩ := h3 j hj
    by_cases e : j = i
    · subst e
      rw [zup_same]
      exact ⟨p1, p2, ⟨v, hv, rfl⟩, p4, p5⟩
    · rw [zup_ne e]; exact ⟨p1, p2, p3, p4, p5⟩
  · rw [zup_ne (by omega)]; exact h4
  · rw [zup_ne (by omega)]; exact h5
  · rw [zup_ne (by omega)]; exact h6
end dlines
