/-! ===== D: the law's text: a rule ===== -/
theorem zbd_comp {A B C : Type} (g1 : Bool) (Q : Option A) (g2 : A → Bool) (k : A → B) (F : B → Option C) : zg g1 (zbd Q (fun v => zg (g2 v) (F (k v)))) = zbd (zg g1 (zbd Q (fun v => zg (g2 v) (some (k v))))) F := by
  cases g1 with
  | false => rfl
  | true =>
    cases Q with
    | none => rfl
    | some v =>
      show zg (g2 v) (F (k v)) = zbd (zg (g2 v) (some (k v))) F
      cases g2 v with
      | false => rfl
      | true => rfl
/-- ( condition ), as the class reads it -/
noncomputable def cCond (a1 : Nat → Int32) (L : Int32) (ops args : Nat → Int32) (cm lu f fp ps : Int32) : Option T7 :=
  zg (g_tx_expect 40 f ps L a1 fp) (zbd (q_lr_readCondition 1 a1 ops args cm lu L (f0_tx_expect 40 f ps L a1 fp) (f1_tx_expect 40 f ps L a1 fp) (f2_tx_expect 40 f ps L a1 fp)) (fun v => zg (g_tx_expect 41 v.2.2.2.2.1 v.2.2.2.2.2.2 L a1 v.2.2.2.2.2.1) (some (v.1, v.2.1, v.2.2.1, v.2.2.2.1, f0_tx_expect 41 v.2.2.2.2.1 v.2.2.2.2.2.2 L a1 v.2.2.2.2.2.1, f1_tx_expect 41 v.2.2.2.2.1 v.2.2.2.2.2.2 L a1 v.2.2.2.2.2.1, f2_tx_expect 41 v.2.2.2.2.1 v.2.2.2.2.2.2 L a1 v.2.2.2.2.2.1))))
theorem cC_comp {C : Type} (a1 : Nat → Int32) (L : Int32) (ops args : Nat → Int32) (cm lu f fp ps : Int32) (F : T7 → Option C) : zbd (cCond a1 L ops args cm lu f fp ps) F = zg (g_tx_expect 40 f ps L a1 fp) (zbd (q_lr_readCondition 1 a1 ops args cm lu L (f0_tx_expect 40 f ps L a1 fp) (f1_tx_expect 40 f ps L a1 fp) (f2_tx_expect 40 f ps L a1 fp)) (fun v => zg (g_tx_expect 41 v.2.2.2.2.1 v.2.2.2.2.2.2 L a1 v.2.2.2.2.2.1) (F (v.1, v.2.1, v.2.2.1, v.2.2.2.1, f0_tx_expect 41 v.2.2.2.2.1 v.2.2.2.2.2.2 L a1 v.2.2.2.2.2.1, f1_tx_expect 41 v.2.2.2.2.1 v.2.2.2.2.2.2 L a1 v.2.2.2.2.2.1, f2_tx_expect 41 v.2.2.2.2.1 v.2.2.2.2.2.2 L a1 v.2.2.2.2.2.1)))) := by
  unfold cCond
  exact (zbd_comp _ _ (fun v : T7 => g_tx_expect 41 v.2.2.2.2.1 v.2.2.2.2.2.2 L a1 v.2.2.2.2.2.1) (fun v : T7 => (v.1, v.2.1, v.2.2.1, v.2.2.2.1, f0_tx_expect 41 v.2.2.2.2.1 v.2.2.2.2.2.2 L a1 v.2.2.2.2.2.1, f1_tx_expect 41 v.2.2.2.2.1 v.2.2.2.2.2.2 L a1 v.2.2.2.2.2.1, f2_tx_expect 41 v.2.2.2.2.1 v.2.2.2.2.2.2 L a1 v.2.2.2.2.2.1)) F).symm
/-- what follows a rule, as the class reads it -/
noncomputable def cEnd (a1 : Nat → Int32) (L l5 : Int32) (rl am co en : Nat → Int32) (ru : Int32) (w : T7) : Option (U_lr_read_19 ⊕ T_lr_read) :=
  zg (g_lw_endRule ru en w.2.2.1) (zg (g_tx_sign w.2.2.2.2.1 w.2.2.2.2.2.2 L a1) (
    bif !decide (w_tx_sign w.2.2.2.2.1 w.2.2.2.2.2.2 L a1 = 59) then
     bif !decide (w_tx_isAtEnd w.2.2.2.2.2.2 L = 0) then
      some (.inl (0, l5 + 1, w.1, w.2.1, rl, am, co, a0_lw_endRule ru en w.2.2.1, w.2.2.1, w.2.2.2.1, f0_lw_endRule ru en w.2.2.1, w.2.2.2.2.1, w.2.2.2.2.2.1, w.2.2.2.2.2.2))
     else
      some (.inl (0, l5 + 1, w.1, w.2.1, rl, am, co, a0_lw_endRule ru en w.2.2.1, w.2.2.1, w.2.2.2.1, f0_lw_endRule ru en w.2.2.1, f0_tx_fail 1 w.2.2.2.2.2.2 w.2.2.2.2.1 w.2.2.2.2.2.1, f1_tx_fail 1 w.2.2.2.2.2.2 w.2.2.2.2.1 w.2.2.2.2.2.1, w.2.2.2.2.2.2))
    else
     some (.inl (1, l5 + 1, w.1, w.2.1, rl, am, co, a0_lw_endRule ru en w.2.2.1, w.2.2.1, w.2.2.2.1, f0_lw_endRule ru en w.2.2.1, w.2.2.2.2.1, w.2.2.2.2.2.1, f0_tx_skip w.2.2.2.2.2.2))))
/-- one round of the class's reading -/
theorem lr_body (a1 : Nat → Int32) (L l5 : Int32) (h16 : ¬ (16 : Int32) < l5) (ops args rl am co en : Nat → Int32) (cm lu ru f fp ps : Int32) :
    b_lr_read_19 a1 L 1 l5 ops args rl am co en cm lu ru f fp ps = zbd (q_lr_readLetter l5 a1 rl am cm ru L f fp ps) (fun v10 =>
      bif decide (v10.1 = 98) || decide (v10.1 = 115) then
       zbd (q_lr_readAmount 0 a1 ops args cm lu L v10.2.2.2.1 v10.2.2.2.2.1 v10.2.2.2.2.2) (fun v11 =>
        zg (g_lw_beginCondition ru co v11.2.2.1) (zbd (cCond a1 L v11.1 v11.2.1 v11.2.2.1 v11.2.2.2.1 v11.2.2.2.2.1 v11.2.2.2.2.2.1 v11.2.2.2.2.2.2) (cEnd a1 L l5 v10.2.1 v10.2.2.1 (a0_lw_beginCondition ru co v11.2.2.1) en ru)))
      else
       zg (g_lw_beginCondition ru co cm) (zbd (cCond a1 L ops args cm lu v10.2.2.2.1 v10.2.2.2.2.1 v10.2.2.2.2.2) (cEnd a1 L l5 v10.2.1 v10.2.2.1 (a0_lw_beginCondition ru co cm) en ru))) := by
  unfold b_lr_read_19
  rw [dF h16, cFf, show decide ((1 : Int32) = 0) = false from rfl, cFf]
  refine congrArg (zbd _) (funext fun v10 => ?_)
  cases decide (v10.1 = 98) with
  | true =>
    refine congrArg (zbd _) (funext fun v11 => ?_)
    refine congrArg (zg _) ?_
    rw [cC_comp]
    rfl
  | false =>
    cases decide (v10.1 = 115) with
    | true =>
      refine congrArg (zbd _) (funext fun v11 => ?_)
      refine congrArg (zg _) ?_
      rw [cC_comp]
      rfl
    | false =>
      refine congrArg (zg _) ?_
      rw [cC_comp]
      rfl
/-- behind a fault nothing is read -/
theorem cCond_bad {f : Int32} (hf : f ≠ 0) (a1 : Nat → Int32) (L : Int32) (ops args : Nat → Int32) (cm lu fp ps : Int32) : cCond a1 L ops args cm lu f fp ps = some (ops, args, cm, lu, f, fp, ps) := by
  have x := d_expF hf (c := 40) (by omega) a1 L fp ps
  have y := d_expF hf (c := 41) (by omega) a1 L fp ps
  have z : q_lr_readCondition 1 a1 ops args cm lu L f fp ps = some (ops, args, cm, lu, f, fp, ps) := z_cond hf a1 56 1 ops args cm lu L fp ps
  unfold cCond
  rw [show g_tx_expect 40 f ps L a1 fp = true from x.1, show f0_tx_expect 40 f ps L a1 fp = f from x.2.1, show f1_tx_expect 40 f ps L a1 fp = fp from x.2.2.1, show f2_tx_expect 40 f ps L a1 fp = ps from x.2.2.2, z]
  show zg (g_tx_expect 41 f ps L a1 fp) (some (ops, args, cm, lu, f0_tx_expect 41 f ps L a1 fp, f1_tx_expect 41 f ps L a1 fp, f2_tx_expect 41 f ps L a1 fp)) = _
  rw [show g_tx_expect 41 f ps L a1 fp = true from y.1, show f0_tx_expect 41 f ps L a1 fp = f from y.2.1, show f1_tx_expect 41 f ps L a1 fp = fp from y.2.2.1, show f2_tx_expect 41 f ps L a1 fp = ps from y.2.2.2]
  rfl
theorem cEnd_bad {f : Int32} (hf : f ≠ 0) (a1 : Nat → Int32) (L l5 : Int32) (rl am co en : Nat → Int32) {r : Nat} (hr : r ≤ 16) (ops args : Nat → Int32) (cm lu fp ps : Int32) :
    ∃ en' ru', cEnd a1 L l5 rl am co en (nI r) (ops, args, cm, lu, f, fp, ps) = some (.inl (0, l5 + 1, ops, args, rl, am, co, en', cm, lu, ru', f, fp, ps)) := by
  have e := d_signF hf ps L a1
  have g : g_lw_endRule (nI r) en cm = true := by
    unfold g_lw_endRule
    rw [nI_zin (by omega), show (16 : Int32) = nI 16 from rfl, nI_dle (by omega) (by omega)]
    by_cases h : 16 ≤ r
    · rw [dT h]; rfl
    · rw [dF h, dT (by omega)]; rfl
  refine ⟨a0_lw_endRule (nI r) en cm, f0_lw_endRule (nI r) en cm, ?_⟩
  unfold cEnd
  dsimp +instances only
  rw [g, e.1, e.2, (d_failF hf 1 ps fp).1, (d_failF hf 1 ps fp).2]
  cases h : decide (w_tx_isAtEnd ps L = 0) with
  | false => rfl
  | true => rfl
/-- the class's last round, behind a fault -/
theorem lr_bad {k pl : Nat} (hk : nI k ≠ 0) (a1 : Nat → Int32) (L l5 : Int32) (ops args rl am co en : Nat → Int32) (cm lu ru ps : Int32) :
    ∃ t : T_lr_read, zlp (f_lr_read_19 a1 L) (0, l5, ops, args, rl, am, co, en, cm, lu, ru, nI k, nI pl, ps) = some t ∧ t.1 = f0_md_wrongAt (nI k) (nI pl) := by
  refine ⟨(w_tx_answerOr ru (nI k) (nI pl), ops, args, rl, am, co, en, cm, lu, ru, L, nI k, nI pl, ps), zlp_out ?_, d_ansF hk ru⟩
  dsimp +instances only [f_lr_read_19, b_lr_read_19]
  cases decide (16 < l5) with
  | false => rfl
  | true => rfl
