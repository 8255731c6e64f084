/-! ===== D: the law's text: a rule, whole ===== -/
theorem g_begC {r : Nat} (hr : r ≤ 16) (co : Nat → Int32) (x : Int32) : g_lw_beginCondition (nI r) co x = true := by
  unfold g_lw_beginCondition
  rw [nI_zin (by omega), show (16 : Int32) = nI 16 from rfl, nI_dle (by omega) (by omega)]
  by_cases h : 16 ≤ r
  · rw [dT h]; rfl
  · rw [dF h, dT (by omega)]; rfl
theorem a_begC {r : Nat} (hr : r < 16) (co : Nat → Int32) (x : Int32) : a0_lw_beginCondition (nI r) co x = zup co r x := by
  unfold a0_lw_beginCondition
  rw [nI_cl (by omega), show (16 : Int32) = nI 16 from rfl, nI_dle (by omega) (by omega), dF (by omega)]
  rfl
theorem cTail_bad {f : Int32} (hf : f ≠ 0) (a1 : Nat → Int32) (L : Int32) {r : Nat} (hr : r ≤ 16) (l5 : Int32) (rl am co en : Nat → Int32) (x : Int32) (ops args : Nat → Int32) (cm lu fp ps : Int32) :
    ∃ co' en' ru', zg (g_lw_beginCondition (nI r) co x) (zbd (cCond a1 L ops args cm lu f fp ps) (cEnd a1 L l5 rl am (a0_lw_beginCondition (nI r) co x) en (nI r))) = some (.inl (0, l5 + 1, ops, args, rl, am, co', en', cm, lu, ru', f, fp, ps)) := by
  obtain ⟨en', ru', hq⟩ := cEnd_bad hf a1 L l5 rl am (a0_lw_beginCondition (nI r) co x) en hr ops args cm lu fp ps
  refine ⟨a0_lw_beginCondition (nI r) co x, en', ru', ?_⟩
  rw [g_begC hr, cCond_bad hf]
  exact hq
section drul3
variable {a1 a70 : Nat → Int32} {L : Nat}
/-- a rule that was read -/
def RG (a1 a70 : Nat → Int32) (L : Nat) (ops args rl am co en said sl sf sh st : Nat → Int32) (lu : Int32) (r p cm : Nat) (F9 fp : Int32) (x : Option (U_lr_read_19 ⊕ T_lr_read)) (z : Option T_md_readsRule) : Prop :=
  ∃ c ops' args' said' waits' lu' p' cm1 cm' n1 o' w', r < 16 ∧ p < p' ∧ p' ≤ L ∧ cm ≤ cm1 ∧ cm1 < cm' ∧ cm' ≤ p' ∧
    x = cEnd a1 (nI L) (nI r) (zup rl r c) (zup am r (nI cm)) (zup co r (nI cm1)) en (nI r) (ops', args', nI cm', lu', 0, fp, nI p') ∧
    z = some (1, said', waits', zup sl r c, zup sf r (nI cm), zup sh r (nI cm1), zup st r (nI cm'), nI p', F9, n1, o', nI cm', w', nI (r + 1)) ∧
    AR 0 cm ops' ops ∧ AR 0 cm args' args ∧ AR 0 cm said' said ∧ SB lu lu' ∧ (c = 98 ∨ c = 115 → PV WT ops' args' said' lu' 15 cm cm1) ∧ PV WB ops' args' said' lu' 14 cm1 cm'
/-- a rule with a fault -/
def RB (r : Nat) (x : Option (U_lr_read_19 ⊕ T_lr_read)) (z : Option T_md_readsRule) : Prop :=
  ∃ k pl, 1 ≤ k ∧ k ≤ 8 ∧ pl ≤ 1000 ∧ (∃ ops' args' rl' am' co' en' cm' lu' ru' ps', x = some (.inl (0, nI r + 1, ops', args', rl', am', co', en', cm', lu', ru', nI k, nI pl, ps'))) ∧ (∃ t : T_md_readsRule, z = some t ∧ t.1 = 0 ∧ t.2.2.2.2.2.2.2.2.1 = f0_md_wrongAt (nI k) (nI pl))
theorem d_rule (h : RT a1 a70) (hL : L ≤ 240) {r p cm : Nat} (hr : r ≤ 16) (hp : p ≤ L) (hcm : cm ≤ p) (ops args rl am co en said waits sl sf sh st : Nat → Int32) (lu F9 fp n0 o11 w13 : Int32) :
    RG a1 a70 L ops args rl am co en said sl sf sh st lu r p cm F9 fp (b_lr_read_19 a1 (nI L) 1 (nI r) ops args rl am co en (nI cm) lu (nI r) 0 fp (nI p)) (q_md_readsRule a70 said waits sl sf sh st (nI p) (nI L) F9 n0 o11 (nI cm) w13 (nI r)) ∨
    RB r (b_lr_read_19 a1 (nI L) 1 (nI r) ops args rl am co en (nI cm) lu (nI r) 0 fp (nI p)) (q_md_readsRule a70 said waits sl sf sh st (nI p) (nI L) F9 n0 o11 (nI cm) w13 (nI r)) := by
  have h16 : ¬ (16 : Int32) < nI r := by
    have := nI_dlt (a := 16) (b := r) (by omega) (by omega)
    rw [dF (show ¬ 16 < r by omega)] at this
    exact of_decide_eq_false this
  rw [lr_body a1 (nI L) (nI r) h16]
  by_cases hx : sg a1 L p = 98 ∨ sg a1 L p = 115 ∨ sg a1 L p = 120
  · by_cases hr16 : r = 16
    · subst hr16
      right
      rw [d_lt16 hL hp rl am fp rfl hx, mR_16 h hL hp rfl hx]
      refine ⟨4, p, by omega, by omega, by omega, ?_, ⟨_, rfl, rfl, rfl⟩⟩
      have h40 : (4 : Int32) ≠ 0 := by decide
      show ∃ ops' args' rl' am' co' en' cm' lu' ru' ps', (bif decide (sg a1 L p = 98) || decide (sg a1 L p = 115) then _ else _) = _
      cases decide (sg a1 L p = 98) || decide (sg a1 L p = 115) with
      | true =>
        obtain ⟨co', en', ru', hq⟩ := cTail_bad h40 a1 (nI L) (Nat.le_refl 16) (nI 16) rl am co en (nI cm) ops args (nI cm) lu (nI p) (nI p)
        refine ⟨ops, args, rl, am, co', en', nI cm, lu, ru', nI p, ?_⟩
        rw [cTt]
        have z : q_lr_readAmount 0 a1 ops args (nI cm) lu (nI L) 4 (nI p) (nI p) = some (ops, args, nI cm, lu, 4, nI p, nI p) := z_amount h40 a1 58 0 ops args (nI cm) lu (nI L) (nI p) (nI p)
        dsimp +instances only
        rw [zbd_q z]
        exact hq
      | false =>
        obtain ⟨co', en', ru', hq⟩ := cTail_bad h40 a1 (nI L) (Nat.le_refl 16) (nI 16) rl am co en (nI cm) ops args (nI cm) lu (nI p) (nI p)
        refine ⟨ops, args, rl, am, co', en', nI cm, lu, ru', nI p, ?_⟩
        rw [cFf]
        exact hq
    · have hr' : r < 16 := by omega
      have hin : p < L := sg_in (by rcases hx with e | e | e <;> rw [e] <;> decide)
      rw [d_lt hL hr' hp rl am fp rfl hx]
      by_cases h120 : sg a1 L p = 120
      · rw [mR_x h hL hr' hp h120, h120]
        show RG a1 a70 L ops args rl am co en said sl sf sh st lu r p cm F9 fp (zg (g_lw_beginCondition (nI r) co (nI cm)) (zbd (cCond a1 (nI L) ops args (nI cm) lu 0 fp (nI (p + 1))) (cEnd a1 (nI L) (nI r) (zup rl r 120) (zup am r (nI cm)) (a0_lw_beginCondition (nI r) co (nI cm)) en (nI r)))) _ ∨ RB r (zg (g_lw_beginCondition (nI r) co (nI cm)) (zbd (cCond a1 (nI L) ops args (nI cm) lu 0 fp (nI (p + 1))) (cEnd a1 (nI L) (nI r) (zup rl r 120) (zup am r (nI cm)) (a0_lw_beginCondition (nI r) co (nI cm)) en (nI r)))) _
        rcases d_cc h hL ops args said waits lu (p + 1) cm F9 n0 fp 0 0 (by omega) (by omega) with ⟨ops', args', said', waits', lu', p', cm', n1, o', w', g1, g2, g3, g4, g5, g6, g7, g8, g9, g10, g11⟩ | ⟨k, pl, b1, b2, b3, ⟨ops', args', cm', lu', ps, b4, b5⟩, ⟨t, b6, b7, b8⟩⟩
        · left
          rw [g5, g6, g_begC hr, a_begC hr']
          exact ⟨120, ops', args', said', waits', lu', p', cm, cm', n1, o', w', hr', by omega, g2, Nat.le_refl _, g3, by omega, rfl, rfl, g7, g8, g9, g10, fun q => by rcases q with q | q <;> exact absurd q (by decide), g11⟩
        · right
          have hk0 : nI k ≠ 0 := nI_ne0 (by omega) (by omega)
          obtain ⟨en', ru', hq⟩ := cEnd_bad hk0 a1 (nI L) (nI r) (zup rl r 120) (zup am r (nI cm)) (a0_lw_beginCondition (nI r) co (nI cm)) en hr ops' args' (nI cm') lu' (nI pl) ps
          rw [b5, b6, g_begC hr]
          refine ⟨k, pl, b1, b2, b3, ⟨_, _, _, _, _, en', _, _, ru', _, hq⟩, ?_⟩
          show ∃ t', (bif !decide (t.1 = 0) then _ else _) = some t' ∧ _
          rw [b7, show decide ((0 : Int32) = 0) = true from rfl, nTt, cFf]
          exact ⟨_, rfl, rfl, b8⟩
      · have hc : sg a1 L p = 98 ∨ sg a1 L p = 115 := by
          rcases hx with e | e | e
          · exact Or.inl e
          · exact Or.inr e
          · exact absurd e h120
        have hor : (decide (sg a1 L p = 98) || decide (sg a1 L p = 115)) = true := by
          rcases hc with e | e <;> rw [e] <;> rfl
        rw [mR_amt h hL hr' hp rfl hc]
        have hJA : JA a1 a70 L 60 0 := (J_all h hL 6 59 0 rfl (by omega)).2
        have cs : zbd (some (sg a1 L p, zup rl r (sg a1 L p), zup am r (nI cm), (0 : Int32), fp, nI (p + 1))) (fun v10 => bif decide (v10.1 = 98) || decide (v10.1 = 115) then zbd (q_lr_readAmount 0 a1 ops args (nI cm) lu (nI L) v10.2.2.2.1 v10.2.2.2.2.1 v10.2.2.2.2.2) (fun v11 => zg (g_lw_beginCondition (nI r) co v11.2.2.1) (zbd (cCond a1 (nI L) v11.1 v11.2.1 v11.2.2.1 v11.2.2.2.1 v11.2.2.2.2.1 v11.2.2.2.2.2.1 v11.2.2.2.2.2.2) (cEnd a1 (nI L) (nI r) v10.2.1 v10.2.2.1 (a0_lw_beginCondition (nI r) co v11.2.2.1) en (nI r)))) else zg (g_lw_beginCondition (nI r) co (nI cm)) (zbd (cCond a1 (nI L) ops args (nI cm) lu v10.2.2.2.1 v10.2.2.2.2.1 v10.2.2.2.2.2) (cEnd a1 (nI L) (nI r) v10.2.1 v10.2.2.1 (a0_lw_beginCondition (nI r) co (nI cm)) en (nI r)))) = zbd ((G_lr 60).2.2.1 (nI 0) a1 ops args (nI cm) lu (nI L) 0 fp (nI (p + 1))) (fun v11 => zg (g_lw_beginCondition (nI r) co v11.2.2.1) (zbd (cCond a1 (nI L) v11.1 v11.2.1 v11.2.2.1 v11.2.2.2.1 v11.2.2.2.2.1 v11.2.2.2.2.2.1 v11.2.2.2.2.2.2) (cEnd a1 (nI L) (nI r) (zup rl r (sg a1 L p)) (zup am r (nI cm)) (a0_lw_beginCondition (nI r) co v11.2.2.1) en (nI r)))) := by
          show (bif decide (sg a1 L p = 98) || decide (sg a1 L p = 115) then _ else _) = _
          rw [hor, cTt]
          rfl
        rw [cs]
        rcases JS_of h hL (show 0 ≤ 6 by omega) hJA ops args said waits lu (p + 1) cm 0 F9 n0 fp (by omega) (by omega) (by omega) (Or.inl rfl) with ⟨ops1, args1, said1, waits1, lu1, p1, cm1, n1, f1, f2, f3, f4, f5, f6, f7, f8, f9, f10, f11, f12⟩ | ⟨k, pl, b1, b2, b3, ⟨ops', args', cm', lu', ps, b4, b5⟩, ⟨t, b6, b7, b8⟩⟩
        · rw [f5, show q_md_readsSum a70 said waits (nI (p + 1)) (nI L) F9 n0 0 (nI cm) 0 = _ from f6]
          show RG a1 a70 L ops args rl am co en said sl sf sh st lu r p cm F9 fp (zg (g_lw_beginCondition (nI r) co (nI cm1)) (zbd (cCond a1 (nI L) ops1 args1 (nI cm1) lu1 0 fp (nI p1)) (cEnd a1 (nI L) (nI r) (zup rl r (sg a1 L p)) (zup am r (nI cm)) (a0_lw_beginCondition (nI r) co (nI cm1)) en (nI r)))) (zbd (q_md_readsCondition a70 said1 waits1 (nI p1) (nI L) F9 n1 (nI 0) (nI cm1) (nI 0)) _) ∨ RB r (zg (g_lw_beginCondition (nI r) co (nI cm1)) (zbd (cCond a1 (nI L) ops1 args1 (nI cm1) lu1 0 fp (nI p1)) (cEnd a1 (nI L) (nI r) (zup rl r (sg a1 L p)) (zup am r (nI cm)) (a0_lw_beginCondition (nI r) co (nI cm1)) en (nI r)))) (zbd (q_md_readsCondition a70 said1 waits1 (nI p1) (nI L) F9 n1 (nI 0) (nI cm1) (nI 0)) _)
          rcases d_cc h hL ops1 args1 said1 waits1 lu1 p1 cm1 F9 n1 fp (nI 0) (nI 0) (by omega) (by omega) with ⟨ops', args', said', waits', lu', p', cm', n2, o', w', g1, g2, g3, g4, g5, g6, g7, g8, g9, g10, g11⟩ | ⟨k, pl, b1, b2, b3, ⟨ops', args', cm', lu', ps, b4, b5⟩, ⟨t, b6, b7, b8⟩⟩
          · left
            rw [g5, g6, g_begC hr, a_begC hr']
            exact ⟨sg a1 L p, ops', args', said', waits', lu', p', cm1, cm', n2, o', w', hr', by omega, g2, by omega, g3, by omega, rfl, rfl, AR_tr (AR_sub g7 (Nat.le_refl _) (by omega)) f7, AR_tr (AR_sub g8 (Nat.le_refl _) (by omega)) f8, AR_tr (AR_sub g9 (Nat.le_refl _) (by omega)) f9, SB_tr f11 g10, fun _ => PV_mono (PV_ext f12 (AR_sub g7 (Nat.zero_le _) (Nat.le_refl _)) (AR_sub g8 (Nat.zero_le _) (Nat.le_refl _)) (AR_sub g9 (Nat.zero_le _) (Nat.le_refl _))) g10 (by omega), g11⟩
          · right
            have hk0 : nI k ≠ 0 := nI_ne0 (by omega) (by omega)
            obtain ⟨en', ru', hq⟩ := cEnd_bad hk0 a1 (nI L) (nI r) (zup rl r (sg a1 L p)) (zup am r (nI cm)) (a0_lw_beginCondition (nI r) co (nI cm1)) en hr ops' args' (nI cm') lu' (nI pl) ps
            rw [b5, b6, g_begC hr]
            refine ⟨k, pl, b1, b2, b3, ⟨_, _, _, _, _, en', _, _, ru', _, hq⟩, ?_⟩
            show ∃ t', (bif !decide (t.1 = 0) then _ else _) = some t' ∧ _
            rw [b7, show decide ((0 : Int32) = 0) = true from rfl, nTt, cFf]
            exact ⟨_, rfl, rfl, b8⟩
        · right
          have hk0 : nI k ≠ 0 := nI_ne0 (by omega) (by omega)
          obtain ⟨co', en', ru', hq⟩ := cTail_bad hk0 a1 (nI L) hr (nI r) (zup rl r (sg a1 L p)) (zup am r (nI cm)) co en (nI cm') ops' args' (nI cm') lu' (nI pl) ps
          rw [b5, show q_md_readsSum a70 said waits (nI (p + 1)) (nI L) F9 n0 0 (nI cm) 0 = _ from b6]
          refine ⟨k, pl, b1, b2, b3, ⟨_, _, _, _, co', en', _, _, ru', _, hq⟩, ?_⟩
          show ∃ t', (bif !decide (t.1 = 0) then _ else _) = some t' ∧ _
          rw [b7, show decide ((0 : Int32) = 0) = true from rfl, nTt, cFf]
          exact ⟨_, rfl, rfl, b8⟩
  · have h1 : ¬ sg a1 L p = 98 := fun q => hx (Or.inl q)
    have h2 : ¬ sg a1 L p = 115 := fun q => hx (Or.inr (Or.inl q))
    have h3 : ¬ sg a1 L p = 120 := fun q => hx (Or.inr (Or.inr q))
    right
    rw [d_ltNo hL (nI r) hp rl am fp h1 h2 h3, mR_no h hL hp h1 h2 h3]
    refine ⟨1, p, by omega, by omega, by omega, ?_, ⟨_, rfl, rfl, rfl⟩⟩
    have h10 : (1 : Int32) ≠ 0 := by decide
    obtain ⟨co', en', ru', hq⟩ := cTail_bad h10 a1 (nI L) hr (nI r) rl am co en (nI cm) ops args (nI cm) lu (nI p) (nI p)
    refine ⟨ops, args, rl, am, co', en', nI cm, lu, ru', nI p, ?_⟩
    show (bif decide (sg a1 L p = 98) || decide (sg a1 L p = 115) then _ else _) = _
    rw [dF h1, dF h2]
    exact hq
end drul3
