/-! ===== D: a place's turn ===== -/
theorem sumf_upd {f g : Nat → Int32} {k : Nat} {d : Int32} : ∀ {n : Nat}, k < n → (∀ i, i < n → i ≠ k → g i = f i) → g k = f k + d → sumf g n = sumf f n + d
  | 0, hk, _, _ => by omega
  | n + 1, hk, h1, h2 => by
    rw [sumf_succ, sumf_succ]
    by_cases e : k = n
    · subst e
      rw [h2, sumf_congr (fun i hi => h1 i (by omega) (by omega)), Int32.add_assoc]
    · rw [sumf_upd (by omega) (fun i hi => h1 i (by omega)) h2, h1 n (by omega) (fun q => e q.symm), Int32.add_assoc, Int32.add_assoc, Int32.add_comm d]
theorem d_LV (g : Int32) (va : Nat → Int32) : w_sc_lostValue g va = sumf (fun i => bif bt g i then va i else 0) 24 := by
  unfold w_sc_lostValue sumf
  refine zfo_congr 24 0 0 (fun k s _ hk => ?_)
  unfold b_sc_lostValue
  rw [d_isGone g (by omega), b01_0, nI_cl (by omega)]
  show (bif !bt g k then s else s + va k) = s + (bif bt g k then va k else 0)
  cases bt g k
  · show s = s + 0
    rw [Int32.add_zero]
  · rfl
theorem d_lose {at_ va su : Nat → Int32} {tl gn : Int32} {N : Nat → Int32} (h : RH at_ va su tl gn N) (hv : VH at_ va su tl gn) (p lost : Int32) :
    ∃ gn' N' lost', f0_sc_loseBareThingsAt p su tl at_ gn = gn' ∧ a0_md_takesThings p N lost = N' ∧ f0_md_takesThings p N lost = lost' ∧ RH at_ va su tl gn' N' ∧ VH at_ va su tl gn' ∧ (∀ j, j < 288 ∨ 312 ≤ j → N' j = N j) ∧ lost' + w_sc_lostValue gn va = lost + w_sc_lostValue gn' va := by
  refine ⟨_, _, _, rfl, rfl, rfl, ?_⟩
  have key := zfo_rel (f := b_sc_loseBareThingsAt p su tl at_ gn) (g := b_md_takesThings p N lost) (P := fun k s t => k ≤ 24 → RH at_ va su tl s t.1 ∧ VH at_ va su tl s ∧ (∀ j, j < 288 ∨ 312 ≤ j → t.1 j = N j) ∧ t.2 + w_sc_lostValue gn va = lost + w_sc_lostValue s va) 24 0 gn (N, lost) (fun _ => ⟨h, hv, fun _ _ => rfl, rfl⟩) (by
    intro k s t _ hk ih hk2
    obtain ⟨i1, i2, i3, i4⟩ := ih (by omega)
    have hk : k < 24 := by omega
    obtain ⟨-, q2, q3, -, -⟩ := i1.1 k hk
    have e4 : (264 : Int32) + nI k = nI (264 + k) := nI_add 264 k
    have e5 : (240 : Int32) + nI k = nI (240 + k) := nI_add 240 k
    have e6 : (288 : Int32) + nI k = nI (288 + k) := nI_add 288 k
    unfold b_sc_loseBareThingsAt b_md_takesThings
    rw [(d_isLeftAt (i := k) hk p).1, (d_liesAt i1 hk p).1, e4, e5, e6, nI_cl (by omega), nI_cl (by omega), nI_cl (by omega), nI_cl (by omega), ← q3, zup_ne (show 240 + k ≠ 288 + k by omega), ← q2, b01_0]
    cases hly : lyB at_ tl s k p with
    | false =>
      cases decide (su k = 0) <;> exact ⟨i1, i2, i3, i4⟩
    | true =>
      cases hsu : decide (su k = 0) with
      | false => exact ⟨i1, i2, i3, i4⟩
      | true =>
        have hly2 : bt tl k = true ∧ bt s k = false := by
          unfold lyB at hly
          cases h1 : bt tl k <;> cases h2 : bt s k <;> rw [h1, h2] at hly <;> first | exact ⟨rfl, rfl⟩ | cases hly
        have hbt : ∀ i, i < 32 → bt (s ||| (1 <<< (nI k &&& 31))) i = (bt s i || decide (i = k)) := fun i hi => by rw [b_or, bt_shl1 (by omega) hi]
        refine ⟨⟨fun i hi => ?_, fun i hi => ?_⟩, fun i hi => ?_, fun j hj => ?_, ?_⟩
        · obtain ⟨p1, p2, p3, p4, p5⟩ := i1.1 i hi
          show at_ i = zup t.1 (288 + k) 1 (216 + i) ∧ va i = zup t.1 (288 + k) 1 (240 + i) ∧ su i = zup t.1 (288 + k) 1 (264 + i) ∧ zup t.1 (288 + k) 1 (192 + i) = b01 (bt tl i) ∧ zup t.1 (288 + k) 1 (288 + i) = b01 (bt (s ||| (1 <<< (nI k &&& 31))) i)
          rw [zup_ne (show 216 + i ≠ 288 + k by omega), zup_ne (show 240 + i ≠ 288 + k by omega), zup_ne (show 264 + i ≠ 288 + k by omega), zup_ne (show 192 + i ≠ 288 + k by omega), hbt i (by omega)]
          refine ⟨p1, p2, p3, p4, ?_⟩
          by_cases e : i = k
          · subst e
            rw [zup_same, decide_eq_true rfl, Bool.or_true]
            rfl
          · rw [zup_ne (show 288 + i ≠ 288 + k by omega), decide_eq_false e, Bool.or_false]
            exact p5
        · by_cases hi32 : i < 32
          · show bt tl i = false ∧ bt (s ||| (1 <<< (nI k &&& 31))) i = false
            rw [hbt i hi32, decide_eq_false (by omega), Bool.or_false]
            exact i1.2 i hi
          · exact ⟨b_big (by omega), b_big (by omega)⟩
        · obtain ⟨p1, p2, p3, p4, p5⟩ := i2 i hi
          refine ⟨p1, p2, p3, p4, fun hb => ?_⟩
          have hb : bt (s ||| (1 <<< (nI k &&& 31))) i = true := hb
          rw [hbt i (by omega)] at hb
          by_cases e : i = k
          · rw [e]; exact hly2.1
          · rw [decide_eq_false e, Bool.or_false] at hb
            exact p5 hb
        · show zup t.1 (288 + k) 1 j = N j
          rw [zup_ne (by omega)]
          exact i3 j hj
        · show t.2 + va k + w_sc_lostValue gn va = lost + w_sc_lostValue (s ||| (1 <<< (nI k &&& 31))) va
          have e7 : w_sc_lostValue (s ||| (1 <<< (nI k &&& 31))) va = w_sc_lostValue s va + va k := by
            rw [d_LV, d_LV]
            refine sumf_upd (k := k) hk (fun i hi hne => ?_) ?_
            · rw [hbt i (by omega), decide_eq_false hne, Bool.or_false]
            · rw [hbt k (by omega), decide_eq_true rfl, Bool.or_true, hly2.2]
              exact (Int32.zero_add (va k)).symm
          rw [e7, ← Int32.add_assoc, ← i4, Int32.add_assoc, Int32.add_comm (va k), ← Int32.add_assoc])
  exact key (by omega)
section dfire2
variable {ops args rl am co en : Nat → Int32} {ru lu : Int32} {codes cl cf ch ct : Nat → Int32} {cn : Int32}
/-- a place burns down -/
theorem d_down (hW : LW ops args rl am co en ru lu codes cl cf ch ct cn) (K : Nat → Int32) {st lf at_ va su : Nat → Int32} {tl gn wd mn x : Int32} {N : Nat → Int32} (h : RS st lf at_ va su tl gn wd mn x N) {p : Nat} (hp : p < 96) (hst : st p = 1) (b L c F : Nat → Int32) (lost : Int32) :
    ∃ st' lf' b' L' x' N' c' F', q_fr_burnDown (nI p) st lf at_ va su ops args b rl co en L tl gn wd mn x lu ru = some (st', lf', b', L', x') ∧ b_md_turnOf_7 (nI p) K codes cl cf ch ct cn lost 4 N c F = some (.inr (N', c', F', lost)) ∧ RS st' lf' at_ va su tl gn wd mn x' N' ∧ (∀ k, k ≠ p → st' k = st k ∧ lf' k = lf k) := by
  obtain ⟨h1, h2, h3, h4, h5, h6, h7, h8⟩ := id h
  obtain ⟨l, hl1, hl2, hl⟩ := h8 p hp hst
  obtain ⟨x', d, hx', w1, w2, w3, w4, w5⟩ := d_draw h6 h7
  have hR' := RS_draw h hx'
  have e96p : (96 : Int32) + nI p = nI (96 + p) := nI_add 96 p
  have e0 : (0 : Int32) + nI p = nI p := Int32.zero_add _
  have hlN : N (96 + p) = nI l := by rw [← (h1 p hp).2]; exact hl
  have hL := d_letters hR' lu hp (nI l) 0 (nI d) L F
  obtain ⟨v, b', c', q1, q2⟩ := d_any hW hL.2.2 120 b c
  have gs : ∀ s z, g_sc_setState (nI p) s z st lf = true := fun s z => by unfold g_sc_setState; rw [nI_zin (by omega), dT hp]; rfl
  have as : ∀ s z, a0_sc_setState (nI p) s z st lf = zup st p s ∧ a1_sc_setState (nI p) s z st lf = zup lf p z := fun s z => by unfold a0_sc_setState a1_sc_setState; rw [nI_cl (by omega)]; exact ⟨rfl, rfl⟩
  have hne : ∀ (s z : Int32) (k : Nat), k ≠ p → zup st p s k = st k ∧ zup lf p z k = lf k := fun s z k hk => by rw [zup_ne hk, zup_ne hk]; exact ⟨rfl, rfl⟩
  have v4l : zup N 314 (nI x') (96 + p) = nI l := by rw [zup_ne (by omega)]; exact hlN
  have v4p : zup N 314 (nI x') p = 1 := by rw [zup_ne (by omega), ← (h1 p hp).1]; exact hst
  have mdl : b_md_turnOf_7 (nI p) K codes cl cf ch ct cn lost 4 N c F = some (.inr ((bif v || decide (l = 1) then zup (zup (zup N 314 (nI x')) (96 + p) 0) p 2 else zup (zup N 314 (nI x')) (96 + p) (nI (l - 1))), c', a0_md_feels (nI p) (nI l) 0 (nI d) (zup N 314 (nI x')) F, lost)) := by
    unfold b_md_turnOf_7
    rw [e96p, e0, nI_cl (by omega), nI_cl (by omega), nI_zin (by omega), nI_zin (by omega), dT (show 96 + p < 315 by omega), dT (show p < 315 by omega), hlN, w3, w4, w5]
    simp only [zl, zg, cTt, show decide ((4 : Int32) ≤ 4) = true from rfl]
    rw [hL.2.1, q2, zup_same, zup_same, v4l]
    have el : nI l - 1 = nI (l - 1) := by rw [show (1 : Int32) = nI 1 from rfl, pk_sub (by omega)]
    rw [el]
    cases v with
    | true => rfl
    | false =>
      by_cases e : l = 1
      · subst e; rfl
      · have : decide (nI (l - 1) = 0) = false := dF (nI_ne0 (by omega) (by omega))
        simp only [zbd, cTt, b01_0, nFf, this, Bool.false_or, dF e, cFf]
  unfold q_fr_burnDown
  rw [w1, w2, nI_zin (by omega), dT hp, nI_cl (by omega), hl]
  simp only [zl, zg, cTt, hL.1, gs, as]
  by_cases e : l = 1
  · subst e
    rw [show decide (nI 1 ≤ 1) = true from rfl, cTt]
    refine ⟨_, _, _, _, _, _, _, _, rfl, mdl, ?_, hne 2 0⟩
    rw [dT (rfl : 1 = 1), Bool.or_true, cTt]
    exact RS_set hR' hp 2 0 (fun q => absurd q (by decide))
  · have e1 : decide (nI l ≤ 1) = false := by rw [show (1 : Int32) = nI 1 from rfl, nI_dle (by omega) (by omega)]; exact dF (by omega)
    have el : nI l - 1 = nI (l - 1) := by rw [show (1 : Int32) = nI 1 from rfl, pk_sub (by omega)]
    rw [e1, cFf, q1, el]
    cases v with
    | true =>
      refine ⟨_, _, _, _, _, _, _, _, rfl, mdl, ?_, hne 2 0⟩
      exact RS_set hR' hp 2 0 (fun q => absurd q (by decide))
    | false =>
      refine ⟨_, _, _, _, _, _, _, _, rfl, mdl, ?_, hne 1 (nI (l - 1))⟩
      rw [Bool.false_or, dF e, cFf]
      have hs := RS_set hR' hp 1 (nI (l - 1)) (fun _ => ⟨l - 1, by omega, by omega, rfl⟩)
      have hz : zup (zup (zup N 314 (nI x')) (96 + p) (nI (l - 1))) p 1 = zup (zup N 314 (nI x')) (96 + p) (nI (l - 1)) := by
        have hq : zup (zup N 314 (nI x')) (96 + p) (nI (l - 1)) p = 1 := by rw [zup_ne (by omega)]; exact v4p
        rw [← hq]
        exact zup_self
      rw [hz] at hs
      exact hs
end dfire2
