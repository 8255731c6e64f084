/-! ===== D: the law: all its rules ===== -/
section dlw
variable {a1 a70 : Nat → Int32} {L : Nat}
theorem lr_done (a1 : Nat → Int32) (L l5 : Int32) (ops args rl am co en : Nat → Int32) (cm lu ru fp ps : Int32) :
    zlp (f_lr_read_19 a1 L) (0, l5, ops, args, rl, am, co, en, cm, lu, ru, 0, fp, ps) = some (ru, ops, args, rl, am, co, en, cm, lu, ru, L, 0, fp, ps) := by
  refine zlp_out ?_
  dsimp +instances only [f_lr_read_19, b_lr_read_19]
  cases decide (16 < l5) with
  | false => rfl
  | true => rfl
/-- what the reading of a law leaves -/
def LQ (a77 a78 a79 a80 a81 : Nat → Int32) (f15 : Int32) (t : T_lr_read) (t' : T_md_law) : Prop :=
  (∃ k pl, 1 ≤ k ∧ k ≤ 8 ∧ pl ≤ 1000 ∧ t.1 = f0_md_wrongAt (nI k) (nI pl) ∧ ∃ b71 b72 b73 b74 b75 b76 c7 c8 c10 c11 c12 c13 c14, t' = (f0_md_wrongAt (nI k) (nI pl), b71, b72, b73, b74, b75, b76, a77, a78, a79, a80, a81, 0, c7, c8, f0_md_wrongAt (nI k) (nI pl), c10, c11, c12, c13, c14, f15)) ∨
  (∃ n ops args rl am co en cm lu w1 w2 w3 w4 b71 b72 b73 b74 b75 b76 codes cl cf ch ct c7 c8 c9 c10 c11 c12 c13 c14, 1 ≤ n ∧ n ≤ 16 ∧ t = (nI n, ops, args, rl, am, co, en, cm, lu, nI n, w1, w2, w3, w4) ∧ t' = (nI n, b71, b72, b73, b74, b75, b76, codes, cl, cf, ch, ct, 0, c7, c8, c9, c10, c11, c12, c13, c14, nI n) ∧ LW ops args rl am co en (nI n) lu codes cl cf ch ct (nI n))
theorem ml_zero (a70 a77 a78 a79 a80 a81 : Nat → Int32) (L f15 : Int32) (b71 b72 b73 b74 b75 b76 : Nat → Int32) (c7 c9 c10 c11 c12 c13 c14 : Int32) : l_md_law_31 a70 a77 a78 a79 a80 a81 L f15 0 b71 b72 b73 b74 b75 b76 c7 c9 c10 c11 c12 c13 c14 = some (c9, b71, b72, b73, b74, b75, b76, a77, a78, a79, a80, a81, 0, c7, L, c9, c10, c11, c12, c13, c14, f15) := zlp_out rfl
theorem ml_bad (h : RT a1 a70) (hL : L ≤ 240) {p : Nat} (hp : p < L) (hs : ¬ sg a1 L p = 59) (a77 a78 a79 a80 a81 : Nat → Int32) (f15 : Int32) (b71 b72 b73 b74 b75 b76 : Nat → Int32) (c9 c10 c11 c12 c13 c14 : Int32) : l_md_law_31 a70 a77 a78 a79 a80 a81 (nI L) f15 1 b71 b72 b73 b74 b75 b76 (nI p) c9 c10 c11 c12 c13 c14 = some (f0_md_wrongAt 1 (nI p), b71, b72, b73, b74, b75, b76, a77, a78, a79, a80, a81, 0, nI p, nI L, f0_md_wrongAt 1 (nI p), c10, c11, c12, c13, c14, f15) := by
  rcases d_exp h (L := L) (p := p) (c := 59) (by omega) (by omega) (by omega) 0 c9 with ⟨s1, -⟩ | ⟨-, -, -, -, -, m1, m2, m3, m4⟩
  · exact absurd s1 hs
  · refine (zlp_in ?_).trans (ml_zero a70 a77 a78 a79 a80 a81 (nI L) f15 b71 b72 b73 b74 b75 b76 (nI p) (f0_md_wrongAt 1 (nI p)) c10 c11 c12 c13 c14)
    dsimp +instances only [f_md_law_31, b_md_law_31]
    rw [show g_md_takes 59 (nI L) (nI p) a70 c9 = true from m1, show w_md_takes 59 (nI L) (nI p) a70 c9 = 0 from m2, show f0_md_takes 59 (nI L) (nI p) a70 c9 = nI p from m3, show f1_md_takes 59 (nI L) (nI p) a70 c9 = f0_md_wrongAt 1 (nI p) from m4, nI_dle (by omega) (by omega), dF (show ¬ L ≤ p by omega)]
    rfl
theorem ml_next (h : RT a1 a70) (hL : L ≤ 240) {p : Nat} (hp : p < L) (hs : sg a1 L p = 59) (a77 a78 a79 a80 a81 : Nat → Int32) (f15 : Int32) (b71 b72 b73 b74 b75 b76 : Nat → Int32) (c9 c10 c11 c12 c13 c14 : Int32) {v : T_md_readsRule} (hv : q_md_readsRule a70 b71 b72 b73 b74 b75 b76 (nI (p + 1)) (nI L) c9 c10 c11 c12 c13 c14 = some v) (hv1 : v.1 = 0 ∨ v.1 = 1) : l_md_law_31 a70 a77 a78 a79 a80 a81 (nI L) f15 1 b71 b72 b73 b74 b75 b76 (nI p) c9 c10 c11 c12 c13 c14 = l_md_law_31 a70 a77 a78 a79 a80 a81 (nI L) f15 v.1 v.2.1 v.2.2.1 v.2.2.2.1 v.2.2.2.2.1 v.2.2.2.2.2.1 v.2.2.2.2.2.2.1 v.2.2.2.2.2.2.2.1 v.2.2.2.2.2.2.2.2.1 v.2.2.2.2.2.2.2.2.2.1 v.2.2.2.2.2.2.2.2.2.2.1 v.2.2.2.2.2.2.2.2.2.2.2.1 v.2.2.2.2.2.2.2.2.2.2.2.2.1 v.2.2.2.2.2.2.2.2.2.2.2.2.2 := by
  rcases d_exp h (L := L) (p := p) (c := 59) (by omega) (by omega) (by omega) 0 c9 with ⟨-, -, -, -, -, -, m1, m2, m3, m4⟩ | ⟨s1, -⟩
  · refine zlp_in ?_
    dsimp +instances only [f_md_law_31, b_md_law_31]
    rw [show g_md_takes 59 (nI L) (nI p) a70 c9 = true from m1, show w_md_takes 59 (nI L) (nI p) a70 c9 = 1 from m2, show f0_md_takes 59 (nI L) (nI p) a70 c9 = nI (p + 1) from m3, show f1_md_takes 59 (nI L) (nI p) a70 c9 = c9 from m4, nI_dle (by omega) (by omega), dF (show ¬ L ≤ p by omega)]
    dsimp +instances only [zl, zg]
    rw [show decide ((1 : Int32) = 0) = false from rfl, cFf, cFf, cTt, cFf, zbd_q hv]
    rcases hv1 with e | e
    · rw [e]; rfl
    · rw [e]; rfl
  · exact absurd hs s1
theorem ml_end {p : Nat} (hp : p = L) (a70 a77 a78 a79 a80 a81 : Nat → Int32) (f15 : Int32) (b71 b72 b73 b74 b75 b76 : Nat → Int32) (c9 c10 c11 c12 c13 c14 : Int32) {t : T_md_law} (ht : l_md_law_95 b71 b72 b73 b74 b75 b76 a78 a79 a80 a81 0 (nI p) (nI L) c9 c10 c11 c12 c13 c14 c14 0 a77 = some t) : l_md_law_31 a70 a77 a78 a79 a80 a81 (nI L) f15 1 b71 b72 b73 b74 b75 b76 (nI p) c9 c10 c11 c12 c13 c14 = some t := by
  refine zlp_out ?_
  dsimp +instances only [f_md_law_31, b_md_law_31]
  rw [dT (show nI L ≤ nI p by rw [hp]; exact Int32.le_refl _), show decide ((1 : Int32) = 0) = false from rfl, cFf, cTt, nFf, cTt, zbd_q ht]
theorem d_lawL (h : RT a1 a70) (hL : L ≤ 240) (a77 a78 a79 a80 a81 : Nat → Int32) (f15 : Int32) : ∀ (m r p cm : Nat) (ops args rl am co en said waits sl sf sh st : Nat → Int32) (lu F9 fp n0 o11 w13 : Int32), L - p = m → r ≤ 16 → p ≤ L → cm ≤ p → (∀ q, q < r → RI ops args said rl am co en sl sf sh st lu cm q) →
    ∃ (v : T_md_readsRule) (t : T_lr_read) (t' : T_md_law), q_md_readsRule a70 said waits sl sf sh st (nI p) (nI L) F9 n0 o11 (nI cm) w13 (nI r) = some v ∧ (v.1 = 0 ∨ v.1 = 1) ∧ zlp (f_lr_read_19 a1 (nI L)) (1, nI r, ops, args, rl, am, co, en, nI cm, lu, nI r, 0, fp, nI p) = some t ∧
      l_md_law_31 a70 a77 a78 a79 a80 a81 (nI L) f15 v.1 v.2.1 v.2.2.1 v.2.2.2.1 v.2.2.2.2.1 v.2.2.2.2.2.1 v.2.2.2.2.2.2.1 v.2.2.2.2.2.2.2.1 v.2.2.2.2.2.2.2.2.1 v.2.2.2.2.2.2.2.2.2.1 v.2.2.2.2.2.2.2.2.2.2.1 v.2.2.2.2.2.2.2.2.2.2.2.1 v.2.2.2.2.2.2.2.2.2.2.2.2.1 v.2.2.2.2.2.2.2.2.2.2.2.2.2 = some t' ∧ LQ a77 a78 a79 a80 a81 f15 t t' := by
  intro m
  induction m using Nat.strongRecOn with
  | ind m ih =>
    intro r p cm ops args rl am co en said waits sl sf sh st lu F9 fp n0 o11 w13 hm hr hp hcm hRI
    rcases d_rule h hL hr hp hcm ops args rl am co en said waits sl sf sh st lu F9 fp n0 o11 w13 with ⟨c, ops', args', said', waits', lu', p', cm1, cm', n1, o', w', g0, g1, g2, g3, g4, g5, hx, hz, g6, g7, g8, g9, g10, g11⟩ | ⟨k, pl, b1, b2, b3, ⟨ops', args', rl', am', co', en', cm', lu', ru', ps', hx⟩, ⟨v, hz, z1, z2⟩⟩
    · have hRI' : ∀ q, q < r + 1 → RI ops' args' said' (zup rl r c) (zup am r (nI cm)) (zup co r (nI cm1)) (zup en r (nI cm')) (zup sl r c) (zup sf r (nI cm)) (zup sh r (nI cm1)) (zup st r (nI cm')) lu' cm' q := by
        intro q hq
        by_cases hqr : q = r
        · subst hqr
          refine ⟨cm, cm1, cm', g3, by omega, Nat.le_refl _, zup_same, zup_same, zup_same, zup_same, zup_same, zup_same, by rw [zup_same, zup_same], fun hl => ?_, g11⟩
          rw [zup_same] at hl
          exact g10 hl
        · exact RI_ext (hRI q (by omega)) (by omega) g6 g7 g8 g9 (zup_ne hqr) (zup_ne hqr) (zup_ne hqr) (zup_ne hqr) (zup_ne hqr) (zup_ne hqr) (zup_ne hqr) (zup_ne hqr)
      rcases cEnd_good (a1 := a1) hL g0 g2 (zup rl r c) (zup am r (nI cm)) (zup co r (nI cm1)) en ops' args' (nI cm') lu' fp with ⟨q1, he⟩ | ⟨q1, q2, he⟩ | ⟨q1, q2, he⟩
      · obtain ⟨codes, k1, k2⟩ := d_copy95 said' waits' (zup sl r c) (zup sf r (nI cm)) (zup sh r (nI cm1)) (zup st r (nI cm')) a78 a79 a80 a81 0 (nI p') (nI L) F9 n1 o' w' (nI (r + 1)) (nI (r + 1)) (show cm' ≤ 240 by omega) cm' 0 a77 (by omega) (fun x _ hx => by omega)
        obtain ⟨cl, cf, ch, ct, k3, k4, k5, k6, k7⟩ := d_copy123 said' waits' (zup sl r c) (zup sf r (nI cm)) (zup sh r (nI cm1)) (zup st r (nI cm')) codes 0 (nI p') (nI L) F9 n1 o' (nI cm') w' (nI (r + 1)) (show r + 1 ≤ 16 by omega) (r + 1) 0 a78 a79 a80 a81 (by omega) (fun x _ hx => by omega) (fun x _ hx => by omega) (fun x _ hx => by omega) (fun x _ hx => by omega)
        refine ⟨_, _, _, hz, Or.inr rfl, (zlp_in (hx.trans he)).trans (lr_done a1 (nI L) (nI (r + 1)) ops' args' _ _ _ _ (nI cm') lu' (nI (r + 1)) fp (nI p')), ml_end q1 a70 a77 a78 a79 a80 a81 f15 said' waits' _ _ _ _ F9 n1 o' (nI cm') w' (nI (r + 1)) (k2.trans k7), Or.inr ?_⟩
        exact ⟨r + 1, ops', args', _, _, _, _, nI cm', lu', nI L, 0, fp, nI p', said', waits', _, _, _, _, codes, cl, cf, ch, ct, _, _, _, _, _, _, _, _, by omega, by omega, rfl, rfl, LW_of (by omega) (show cm' ≤ 240 by omega) hRI' k1 k3 k4 k5 k6⟩
      · obtain ⟨v, t, t', i1, i2, i3, i4, i5⟩ := ih (L - (p' + 1)) (by omega) (r + 1) (p' + 1) cm' ops' args' (zup rl r c) (zup am r (nI cm)) (zup co r (nI cm1)) (zup en r (nI cm')) said' waits' (zup sl r c) (zup sf r (nI cm)) (zup sh r (nI cm1)) (zup st r (nI cm')) lu' F9 fp n1 o' w' rfl (by omega) (by omega) (by omega) hRI'
        exact ⟨_, t, t', hz, Or.inr rfl, (zlp_in (hx.trans he)).trans i3, (ml_next h hL q1 q2 a77 a78 a79 a80 a81 f15 said' waits' _ _ _ _ F9 n1 o' (nI cm') w' (nI (r + 1)) i1 i2).trans i4, i5⟩
      · obtain ⟨t, t1, t2⟩ := lr_bad (k := 1) (pl := p') (by decide) a1 (nI L) (nI (r + 1)) ops' args' (zup rl r c) (zup am r (nI cm)) (zup co r (nI cm1)) (zup en r (nI cm')) (nI cm') lu' (nI (r + 1)) (nI p')
        exact ⟨_, t, _, hz, Or.inr rfl, (zlp_in (hx.trans he)).trans t1, ml_bad h hL q1 q2 a77 a78 a79 a80 a81 f15 said' waits' _ _ _ _ F9 n1 o' (nI cm') w' (nI (r + 1)), Or.inl ⟨1, p', by omega, by omega, by omega, t2, _, _, _, _, _, _, _, _, _, _, _, _, _, rfl⟩⟩
    · obtain ⟨t, t1, t2⟩ := lr_bad (pl := pl) (nI_ne0 (n := k) (by omega) (by omega)) a1 (nI L) (nI r + 1) ops' args' rl' am' co' en' cm' lu' ru' ps'
      refine ⟨v, t, _, hz, Or.inl z1, (zlp_in hx).trans t1, ?_, Or.inl ⟨k, pl, b1, b2, b3, t2, v.2.1, v.2.2.1, v.2.2.2.1, v.2.2.2.2.1, v.2.2.2.2.2.1, v.2.2.2.2.2.2.1, v.2.2.2.2.2.2.2.1, nI L, v.2.2.2.2.2.2.2.2.2.1, v.2.2.2.2.2.2.2.2.2.2.1, v.2.2.2.2.2.2.2.2.2.2.2.1, v.2.2.2.2.2.2.2.2.2.2.2.2.1, v.2.2.2.2.2.2.2.2.2.2.2.2.2, rfl⟩⟩
      rw [z1, ← z2]
      exact ml_zero _ _ _ _ _ _ _ _ _ _ _ _ _ _ _ _ _ _ _ _ _
end dlw
