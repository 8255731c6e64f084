/-! ===== D: the law's text: sums, in step ===== -/
abbrev T7 : Type := (Nat → Int32) × (Nat → Int32) × Int32 × Int32 × Int32 × Int32 × Int32
noncomputable def mS (a70 : Nat → Int32) (L base : Nat) (said waits : Nat → Int32) (p : Nat) (F9 n0 : Int32) (op cm wt : Nat) : Option T_md_readsSum := l_md_readsSum_14 a70 (nI L) (nI base) said waits (nI p) F9 n0 (nI op) (nI cm) (nI wt)
noncomputable def mK (a70 : Nat → Int32) (L base : Nat) (said waits : Nat → Int32) (p : Nat) (F9 n0 : Int32) (op cm wt : Nat) : Option T_md_readsSum :=
  zbd (q_md_readsFactor a70 said waits (nI p) (nI L) F9 n0 (nI op) (nI cm) (nI wt)) (fun v1 => bif !decide ((v1.1) = 0) then
   l_md_readsSum_14 a70 (nI L) (nI base) ((v1.2.1)) ((v1.2.2.1)) ((v1.2.2.2.1)) ((v1.2.2.2.2.1)) ((v1.2.2.2.2.2.1)) ((v1.2.2.2.2.2.2.1)) ((v1.2.2.2.2.2.2.2.1)) ((v1.2.2.2.2.2.2.2.2))
  else
   some (0, ((v1.2.1)), ((v1.2.2.1)), (v1.2.2.2.1), (v1.2.2.2.2.1), (v1.2.2.2.2.2.1), (v1.2.2.2.2.2.2.1), (v1.2.2.2.2.2.2.2.1), (v1.2.2.2.2.2.2.2.2)))
def cBad (k pl : Nat) (r : Option T7) : Prop := ∃ ops args cm lu ps, cm ≤ 240 ∧ r = some (ops, args, nI cm, lu, nI k, nI pl, ps)
def mBad (k pl : Nat) (r : Option T_md_readsSum) : Prop := ∃ t : T_md_readsSum, r = some t ∧ t.1 = 0 ∧ t.2.2.2.2.1 = f0_md_wrongAt (nI k) (nI pl)
def FB (x : Option T7) (y : Option T_md_readsSum) : Prop := ∃ k pl, 1 ≤ k ∧ k ≤ 8 ∧ pl ≤ 1000 ∧ cBad k pl x ∧ mBad k pl y
def FG (a70 : Nat → Int32) (L base : Nat) (ops args said waits : Nat → Int32) (lu : Int32) (p cm wt y h : Nat) (fp F9 : Int32) (x : Option T7) (z : Option T_md_readsSum) : Prop :=
  ∃ ops' args' said' waits' lu' p' cm' n1, p < p' ∧ p' ≤ L ∧ cm < cm' ∧ cm' + p ≤ cm + p' ∧ x = some (ops', args', nI cm', lu', 0, fp, nI p') ∧ z = mS a70 L base said' waits' p' F9 n1 y cm' wt ∧ AR 0 cm ops' ops ∧ AR 0 cm args' args ∧ AR 0 cm said' said ∧ AR 0 wt waits' waits ∧ SB lu lu' ∧ PV WT ops' args' said' lu' h cm cm'
def FA (a1 a70 : Nat → Int32) (L base : Nat) (ops args said waits : Nat → Int32) (lu : Int32) (p cm wt y h : Nat) (fp F9 : Int32) (x : Option T7) (z : Option T_md_readsSum) : Prop :=
  ∃ ops' args' said' saidE waits' lu' p' cmM cm' wt' n1, p < p' ∧ p' ≤ L ∧ cm < cm' ∧ cm' + p ≤ cm + p' ∧ x = some (ops', args', nI cm', lu', 0, fp, nI p') ∧ z = mS a70 L base said' waits' p' F9 n1 y cmM wt' ∧ q_md_closesSums 1 said' waits' (nI cmM) (nI wt') = some (saidE, nI cm', nI wt) ∧ wt ≤ wt' ∧ wt' ≤ p' ∧ (∀ z, wt ≤ z → z < wt' → ¬ waits' z / 1048576 = 14) ∧
    AR 0 cm ops' ops ∧ AR 0 cm args' args ∧ AR 0 cm saidE said ∧ AR 0 wt waits' waits ∧ SB lu lu' ∧ PV WT ops' args' saidE lu' h cm cm' ∧ w_md_sumSign (sg a1 L p') = -1
def JF (a1 a70 : Nat → Int32) (L n y : Nat) : Prop := ∀ (ops args said waits : Nat → Int32) (lu : Int32) (p cm wt base : Nat) (F9 n0 fp : Int32), p ≤ L → cm ≤ p → wt ≤ p → base ≤ wt →
  FG a70 L base ops args said waits lu p cm wt y (13 - 2 * y) fp F9 ((G_lr n).2.2.2 (nI y) a1 ops args (nI cm) lu (nI L) 0 fp (nI p)) (mK a70 L base said waits p F9 n0 y cm wt) ∨ FB ((G_lr n).2.2.2 (nI y) a1 ops args (nI cm) lu (nI L) 0 fp (nI p)) (mK a70 L base said waits p F9 n0 y cm wt)
def JA (a1 a70 : Nat → Int32) (L n y : Nat) : Prop := ∀ (ops args said waits : Nat → Int32) (lu : Int32) (p cm wt base : Nat) (F9 n0 fp : Int32), p ≤ L → cm ≤ p → wt ≤ p → base ≤ wt → NS waits wt →
  FA a1 a70 L base ops args said waits lu p cm wt y (15 - 2 * y) fp F9 ((G_lr n).2.2.1 (nI y) a1 ops args (nI cm) lu (nI L) 0 fp (nI p)) (mK a70 L base said waits p F9 n0 y cm wt) ∨ FB ((G_lr n).2.2.1 (nI y) a1 ops args (nI cm) lu (nI L) 0 fp (nI p)) (mK a70 L base said waits p F9 n0 y cm wt)
theorem ss_cases (c : Int32) : (c = 42 ∧ w_md_sumSign c = nI 4) ∨ (c = 47 ∧ w_md_sumSign c = nI 5) ∨ (c = 37 ∧ w_md_sumSign c = nI 6) ∨ (c = 43 ∧ w_md_sumSign c = nI 2) ∨ (c = 45 ∧ w_md_sumSign c = nI 3) ∨ (¬ c = 42 ∧ ¬ c = 47 ∧ ¬ c = 37 ∧ ¬ c = 43 ∧ ¬ c = 45 ∧ w_md_sumSign c = -1) := by
  unfold w_md_sumSign
  by_cases h1 : c = 42
  · subst h1; exact Or.inl ⟨rfl, rfl⟩
  · by_cases h2 : c = 47
    · subst h2; exact Or.inr (Or.inl ⟨rfl, rfl⟩)
    · by_cases h3 : c = 37
      · subst h3; exact Or.inr (Or.inr (Or.inl ⟨rfl, rfl⟩))
      · by_cases h4 : c = 43
        · subst h4; exact Or.inr (Or.inr (Or.inr (Or.inl ⟨rfl, rfl⟩)))
        · by_cases h5 : c = 45
          · subst h5; exact Or.inr (Or.inr (Or.inr (Or.inr (Or.inl ⟨rfl, rfl⟩))))
          · rw [dF h1, dF h2, dF h3, dF h4, dF h5]
            exact Or.inr (Or.inr (Or.inr (Or.inr (Or.inr ⟨h1, h2, h3, h4, h5, rfl⟩))))
section dsum
variable {a1 a70 : Nat → Int32} {L : Nat}
/-- the model behind a factor, at a sign -/
theorem mS_sign (h : RT a1 a70) (hL : L ≤ 240) {base p op cmM wtM m cmC ht : Nat} {said waits saidE : Nat → Int32} {x F9 n0 : Int32} (hp : p ≤ L) (hm : 2 ≤ m ∧ m ≤ 6) (hx : x = if 4 ≤ m then 0 else 1) (hs : w_md_sumSign (sg a1 L p) = nI m) (hc : q_md_closesSums x said waits (nI cmM) (nI wtM) = some (saidE, nI cmC, nI ht)) (hht : ht < 260) :
    mS a70 L base said waits p F9 n0 op cmM wtM = mK a70 L base saidE (zup waits ht (nI (1048576 * m + 0))) (p + 1) F9 n0 op cmC (ht + 1) := by
  have e := d_here h (show L ≤ 260 by omega) (show p < 1000000 by omega)
  have em : (1048576 : Int32) * nI m = nI (1048576 * m + 0) := by rw [show (1048576 : Int32) = nI 1048576 from rfl, pk_mul]; rfl
  unfold mS mK
  refine (zlp_bind _).trans ?_
  have fs : f_md_readsSum_14 a70 (nI L) (nI base) (said, waits, nI p, F9, n0, nI op, nI cmM, nI wtM) = zbd (q_md_readsFactor a70 saidE (zup waits ht (nI (1048576 * m + 0))) (nI (p + 1)) (nI L) F9 n0 (nI op) (nI cmC) (nI (ht + 1))) (fun v16 => bif !decide ((v16.1) = 0) then
     some (.inl (((v16.2.1)), ((v16.2.2.1)), (v16.2.2.2.1), (v16.2.2.2.2.1), (v16.2.2.2.2.2.1), (v16.2.2.2.2.2.2.1), (v16.2.2.2.2.2.2.2.1), (v16.2.2.2.2.2.2.2.2)))
    else
     some (.inr (0, ((v16.2.1)), ((v16.2.2.1)), (v16.2.2.2.1), (v16.2.2.2.2.1), (v16.2.2.2.2.2.1), (v16.2.2.2.2.2.2.1), (v16.2.2.2.2.2.2.2.1), (v16.2.2.2.2.2.2.2.2)))) := by
    dsimp +instances only [f_md_readsSum_14, b_md_readsSum_14]
    rw [e.1, e.2]
    dsimp +instances only [zl, zg]
    rw [hs, nI_nm1 (by omega), cTt, cFf, show (4 : Int32) = nI 4 from rfl, nI_dle (by omega) (by omega), em]
    by_cases h4 : 4 ≤ m
    · rw [if_pos h4] at hx
      subst hx
      rw [dT h4, cTt, zbd_q hc]
      dsimp +instances only
      rw [nI_zin (by omega), dT hht, nI_cl (by omega), nI_1, nI_1, cTt]
    · rw [if_neg h4] at hx
      subst hx
      rw [dF h4, cFf, zbd_q hc]
      dsimp +instances only
      rw [nI_zin (by omega), dT hht, nI_cl (by omega), nI_1, nI_1, cTt]
  rw [fs]
  cases q_md_readsFactor a70 saidE (zup waits ht (nI (1048576 * m + 0))) (nI (p + 1)) (nI L) F9 n0 (nI op) (nI cmC) (nI (ht + 1)) with
  | none => rfl
  | some v =>
    dsimp +instances only [zbd]
    cases decide (v.1 = 0) <;> rfl
/-- the sign that waits: as the class has it (a char), as the model (a number) -/
def wP (l3 : Int32) (w : Nat) : Prop := (l3 = 43 ∧ w = 2) ∨ (l3 = 45 ∧ w = 3)
theorem wP_op {l3 : Int32} {w : Nat} (h : wP l3 w) : opP l3 w ∧ (w = 2 ∨ w = 3) ∧ decide (l3 = 0) = false ∧ decide (l3 = 2) = false := by
  rcases h with ⟨rfl, rfl⟩ | ⟨rfl, rfl⟩
  · exact ⟨Or.inl ⟨rfl, rfl⟩, Or.inl rfl, rfl, rfl⟩
  · exact ⟨Or.inr (Or.inl ⟨rfl, rfl⟩), Or.inr rfl, rfl, rfl⟩
theorem d_amL (h : RT a1 a70) (hL : L ≤ 240) {n y : Nat} (hy : y ≤ 6) (hF : JF a1 a70 L n y) (ops0 args0 said0 waits0 : Nat → Int32) (lu0 : Int32) (p0 cm0 wt base : Nat) (fp F9 : Int32) (hbw : base ≤ wt) :
    ∀ (r : Nat) (ops args said waits saidE saidE2 : Nat → Int32) (lu l3 n0 : Int32) (p it c1 cmM cmC cm2 wtM ht : Nat), L - p ≤ r → p ≤ L → p0 < p → it + 1 ≤ p → cm0 ≤ c1 → c1 < cmC → cmC ≤ cm2 → cm2 + p0 ≤ cm0 + p → wtM ≤ p → wt ≤ ht → ht ≤ wtM → cm0 ≤ p0 → wt ≤ p0 →
      NS waits wt → (∀ z, wt ≤ z → z < wtM → ¬ waits z / 1048576 = 14) →
      q_md_closesSums 0 said waits (nI cmM) (nI wtM) = some (saidE, nI cmC, nI ht) → q_md_closesSums 1 said waits (nI cmM) (nI wtM) = some (saidE2, nI cm2, nI wt) →
      ((l3 = 0 ∧ cm2 = cmC ∧ ht = wt ∧ saidE2 = saidE ∧ c1 = cm0) ∨ (∃ w, wP l3 w ∧ cm2 = cmC + 1 ∧ ht = wt + 1 ∧ waits wt = nI (1048576 * w + 0) ∧ saidE2 = zup saidE cmC (nI (1048576 * w + 0)) ∧ PV WT ops args saidE lu (15 - 2 * y) cm0 c1)) →
      PV WT ops args saidE lu (14 - 2 * y) c1 cmC → AR 0 cm0 ops ops0 → AR 0 cm0 args args0 → AR 0 cm0 saidE said0 → AR 0 wt waits waits0 → SB lu0 lu →
      FA a1 a70 L base ops0 args0 said0 waits0 lu0 p0 cm0 wt y (15 - 2 * y) fp F9 (l_lr_readAmount_11 (G_lr n).1 (G_lr n).2.1 (G_lr n).2.2.1 (G_lr n).2.2.2 (nI y) a1 (nI L) l3 (nI it) ops args (nI cmC) lu 0 fp (nI p)) (mS a70 L base said waits p F9 n0 y cmM wtM) ∨
      FB (l_lr_readAmount_11 (G_lr n).1 (G_lr n).2.1 (G_lr n).2.2.1 (G_lr n).2.2.2 (nI y) a1 (nI L) l3 (nI it) ops args (nI cmC) lu 0 fp (nI p)) (mS a70 L base said waits p F9 n0 y cmM wtM) := by
  intro r
  induction r with
  | zero =>
    intro ops args said waits saidE saidE2 lu l3 n0 p it c1 cmM cmC cm2 wtM ht hr hp hp0 hit h1 h2 h3 h4 h5 h6 h7 h8 h9 hNS hno hc0 hc1 hw hT e1 e2 e3 e4 e5
    have hpL : ¬ p < L := by omega
    have es : sg a1 L p = -1 := by unfold sg; exact if_neg hpL
    have sgn := d_sign (a := a1) (show L ≤ 260 by omega) (show p < 1000000 by omega)
    have e240 : decide ((240 : Int32) ≤ nI it) = false := by rw [show (240 : Int32) = nI 240 from rfl, nI_dle (by omega) (by omega)]; exact dF (by omega)
    left
    rcases hw with ⟨rfl, rfl, rfl, rfl, rfl⟩ | ⟨w, w1, rfl, rfl, w4, rfl, w6⟩
    · refine ⟨ops, args, said, saidE2, waits, lu, p, cmM, cm2, wtM, n0, hp0, hp, by omega, by omega, zlp_out ?_, rfl, hc1, h7, h5, hno, e1, e2, e3, e4, e5, PV_mono hT (SB_refl _) (by omega), by rw [es]; rfl⟩
      dsimp +instances only [f_lr_readAmount_11, b_lr_readAmount_11]
      rw [e240, sgn.1, sgn.2, es]
      rfl
    · obtain ⟨o1, o2, o3, o4⟩ := wP_op w1
      have hcm : cmC < 240 := by omega
      obtain ⟨k1, k2, k3, k4, k5, k6⟩ := d_emit hcm l3 0 ops args lu
      rw [o4] at k6
      refine ⟨zup ops cmC l3, zup args cmC 0, said, zup saidE cmC (nI (1048576 * w + 0)), waits, lu, p, cmM, cmC + 1, wtM, n0, hp0, hp, by omega, by omega, zlp_out ?_, rfl, hc1, by omega, h5, hno, AR_tr (AR_up (by omega)) e1, AR_tr (AR_up (by omega)) e2, AR_tr (AR_up (by omega)) e3, e4, e5, ?_, by rw [es]; rfl⟩
      · dsimp +instances only [f_lr_readAmount_11, b_lr_readAmount_11]
        rw [e240, sgn.1, sgn.2, es, o3, k1, k3, k4, k5, k6]
        rfl
      · exact PV_bin (h := 15 - 2 * y) (h1 := 15 - 2 * y) (h2 := 14 - 2 * y) (PV_ext w6 (AR_up (by omega)) (AR_up (by omega)) (AR_up (by omega))) (PV_ext hT (AR_up (by omega)) (AR_up (by omega)) (AR_up (by omega))) h1 (by omega) o1 zup_same zup_same hcm (Nat.le_refl _) (by omega) (by omega) (fun _ _ => trivial)
  | succ r ih =>
    intro ops args said waits saidE saidE2 lu l3 n0 p it c1 cmM cmC cm2 wtM ht hr hp hp0 hit h1 h2 h3 h4 h5 h6 h7 h8 h9 hNS hno hc0 hc1 hw hT e1 e2 e3 e4 e5
    have sgn := d_sign (a := a1) (show L ≤ 260 by omega) (show p < 1000000 by omega)
    have e240 : decide ((240 : Int32) ≤ nI it) = false := by rw [show (240 : Int32) = nI 240 from rfl, nI_dle (by omega) (by omega)]; exact dF (by omega)
    -- a sign of a term
    have mul : ∀ (c : Int32) (m : Nat), (c = 42 ∧ m = 4) ∨ (c = 47 ∧ m = 5) ∨ (c = 37 ∧ m = 6) → sg a1 L p = c → w_md_sumSign c = nI m →
        FA a1 a70 L base ops0 args0 said0 waits0 lu0 p0 cm0 wt y (15 - 2 * y) fp F9 (l_lr_readAmount_11 (G_lr n).1 (G_lr n).2.1 (G_lr n).2.2.1 (G_lr n).2.2.2 (nI y) a1 (nI L) l3 (nI it) ops args (nI cmC) lu 0 fp (nI p)) (mS a70 L base said waits p F9 n0 y cmM wtM) ∨
        FB (l_lr_readAmount_11 (G_lr n).1 (G_lr n).2.1 (G_lr n).2.2.1 (G_lr n).2.2.2 (nI y) a1 (nI L) l3 (nI it) ops args (nI cmC) lu 0 fp (nI p)) (mS a70 L base said waits p F9 n0 y cmM wtM) := by
      intro c m hcm es hss
      have hop : opP c m := by
        rcases hcm with ⟨rfl, rfl⟩ | ⟨rfl, rfl⟩ | ⟨rfl, rfl⟩
        · exact Or.inr (Or.inr (Or.inl ⟨rfl, rfl⟩))
        · exact Or.inr (Or.inr (Or.inr (Or.inl ⟨rfl, rfl⟩)))
        · exact Or.inr (Or.inr (Or.inr (Or.inr (Or.inl ⟨rfl, rfl⟩))))
      have hm46 : m = 4 ∨ m = 5 ∨ m = 6 := by
        rcases hcm with ⟨-, z⟩ | ⟨-, z⟩ | ⟨-, z⟩ <;> omega
      have hc2 : decide (c = 2) = false := by
        rcases hcm with ⟨rfl, -⟩ | ⟨rfl, -⟩ | ⟨rfl, -⟩ <;> rfl
      have hin : p < L := sg_in (by rw [es]; rcases hcm with ⟨rfl, -⟩ | ⟨rfl, -⟩ | ⟨rfl, -⟩ <;> decide)
      have hms := mS_sign (base := base) (op := y) (x := 0) (F9 := F9) (n0 := n0) h hL hp (show 2 ≤ m ∧ m ≤ 6 by omega) (by rw [if_pos (by omega)]) (by rw [es]; exact hss) hc0 (show ht < 260 by omega)
      -- the class's step
      have st : ∀ r', (G_lr n).2.2.2 (nI y) a1 ops args (nI cmC) lu (nI L) 0 fp (nI (p + 1)) = some r' → g_lw_emit c 0 r'.2.2.1 r'.1 r'.2.1 r'.2.2.2.1 = true → f_lr_readAmount_11 (G_lr n).1 (G_lr n).2.1 (G_lr n).2.2.1 (G_lr n).2.2.2 (nI y) a1 (nI L) (l3, nI it, ops, args, nI cmC, lu, 0, fp, nI p) = some (.inl (l3, nI (it + 1), a0_lw_emit c 0 r'.2.2.1 r'.1 r'.2.1 r'.2.2.2.1, a1_lw_emit c 0 r'.2.2.1 r'.1 r'.2.1 r'.2.2.2.1, f0_lw_emit c 0 r'.2.2.1 r'.1 r'.2.1 r'.2.2.2.1, f1_lw_emit c 0 r'.2.2.1 r'.1 r'.2.1 r'.2.2.2.1, r'.2.2.2.2.1, r'.2.2.2.2.2.1, r'.2.2.2.2.2.2)) := by
        intro r' hr' hg
        dsimp +instances only [f_lr_readAmount_11, b_lr_readAmount_11]
        rw [e240, sgn.1, sgn.2, es, d_skip, nI_1]
        dsimp +instances only [zl]
        rw [hr']
        dsimp +instances only [zbd]
        rw [hg]
        rcases hcm with ⟨rfl, -⟩ | ⟨rfl, -⟩ | ⟨rfl, -⟩ <;> rfl
      rw [hms]
      rcases hF ops args saidE (zup waits ht (nI (1048576 * m + 0))) lu (p + 1) cmC (ht + 1) base F9 n0 fp (by omega) (by omega) (by omega) (by omega) with ⟨ops', args', said', waits', lu', p', cm', n1, g1, g2, g3, g4, g5, g6, g7, g8, g9, g10, g11, g12⟩ | ⟨k, pl, b1, b2, b3, ⟨ops', args', cm', lu', ps, b4, b5⟩, b6⟩
      · have hcm' : cm' < 240 := by omega
        obtain ⟨k1, k2, k3, k4, k5, k6⟩ := d_emit hcm' c 0 ops' args' lu'
        rw [hc2] at k6
        have st' := st _ g5 k1
        dsimp +instances only at st'
        rw [k3, k4, k5, k6] at st'
        have st' : f_lr_readAmount_11 (G_lr n).1 (G_lr n).2.1 (G_lr n).2.2.1 (G_lr n).2.2.2 (nI y) a1 (nI L) (l3, nI it, ops, args, nI cmC, lu, 0, fp, nI p) = some (.inl (l3, nI (it + 1), zup ops' cm' c, zup args' cm' 0, nI (cm' + 1), lu', 0, fp, nI p')) := st'
        have wht : waits' ht = nI (1048576 * m + 0) := (g10 ht (by omega) (by omega)).trans zup_same
        have wlo : ∀ z, z < ht → waits' z = waits z := fun z hz => (g10 z (by omega) (by omega)).trans (zup_ne (by omega))
        have hNS' : NS waits' wt := NS_congr hNS (fun z _ hz => wlo z (by omega))
        rw [g6]
        have key := ih (zup ops' cm' c) (zup args' cm' 0) said' waits' (zup said' cm' (nI (1048576 * m + 0))) (if ht = wt then zup said' cm' (nI (1048576 * m + 0)) else zup (zup said' cm' (nI (1048576 * m + 0))) (cm' + 1) (waits wt)) lu' l3 n1 p' (it + 1) c1 cm' (cm' + 1) (if ht = wt then cm' + 1 else cm' + 2) (ht + 1) ht (by omega) g2 (by omega) (by omega) h1 (by omega) (by split <;> omega)
          (by
            rcases hw with ⟨-, w2, w3, -⟩ | ⟨w, -, w2, w3, -⟩
            · rw [if_pos w3]; omega
            · rw [if_neg (by omega)]; omega) (by omega) h6 (by omega) h8 h9 hNS' (fun z z1 z2 => by
            by_cases q : z = ht
            · rw [q, wht, dec_op (by omega) (by omega)]
              rcases hm46 with rfl | rfl | rfl <;> decide
            · rw [wlo z (by omega)]; exact hno z z1 (by omega))
        have cst0 := cs_step (x := 0) (said := said') (waits := waits') (wt := ht) (cm := cm') (m := m) (by omega) (by omega) (by omega) wht
        have cst1 := cs_step (x := 1) (said := said') (waits := waits') (wt := ht) (cm := cm') (m := m) (by omega) (by omega) (by omega) wht
        have xE : AR c1 cmC (zup said' cm' (nI (1048576 * m + 0))) saidE := AR_tr (AR_up (by omega)) (AR_sub g9 (by omega) (by omega))
        have xO : AR c1 cmC (zup ops' cm' c) ops := AR_tr (AR_up (by omega)) (AR_sub g7 (by omega) (by omega))
        have xA : AR c1 cmC (zup args' cm' 0) args := AR_tr (AR_up (by omega)) (AR_sub g8 (by omega) (by omega))
        have term : PV WT (zup ops' cm' c) (zup args' cm' 0) (zup said' cm' (nI (1048576 * m + 0))) lu' (14 - 2 * y) c1 (cm' + 1) :=
          PV_bin (h := 14 - 2 * y) (h1 := 14 - 2 * y) (h2 := 13 - 2 * y) (PV_mono (PV_ext hT xO xA xE) g11 (Nat.le_refl _)) (PV_ext g12 (AR_up (by omega)) (AR_up (by omega)) (AR_up (by omega))) (by omega) (by omega) hop zup_same zup_same hcm' (Nat.le_refl _) (by omega) (by omega) (fun _ _ => trivial)
        have key2 := key (by
          rw [cst0]
          rcases hw with ⟨-, -, w3, -⟩ | ⟨w, w1, -, w3, w4, -⟩
          · rw [w3]; exact cs_end hNS' 0 _
          · rw [w3]
            exact cs_stop (by omega) (wP_op w1).2.1 ((wlo wt (by omega)).trans w4) _) (by
          rw [cst1]
          rcases hw with ⟨-, -, w3, -⟩ | ⟨w, w1, -, w3, w4, -⟩
          · rw [if_pos w3, if_pos w3, w3]; exact cs_end hNS' 1 _
          · rw [if_neg (by omega), if_neg (by omega), w3, cs_step (x := 1) (m := w) (by omega) (by omega) (Or.inr (Or.inr (Or.inr ⟨rfl, (wP_op w1).2.1⟩))) ((wlo wt (by omega)).trans w4), cs_end hNS' 1, w4]) (by
          rcases hw with ⟨w0, -, w3, -, w5⟩ | ⟨w, w1, -, w3, w4, -, w6⟩
          · exact Or.inl ⟨w0, by rw [if_pos w3], w3, by rw [if_pos w3], w5⟩
          · refine Or.inr ⟨w, w1, by rw [if_neg (by omega)], w3, (wlo wt (by omega)).trans w4, by rw [if_neg (by omega), w4], ?_⟩
            exact PV_mono (PV_ext w6 (AR_tr (AR_up (by omega)) (AR_sub g7 (by omega) (by omega))) (AR_tr (AR_up (by omega)) (AR_sub g8 (by omega) (by omega))) (AR_tr (AR_up (by omega)) (AR_sub g9 (by omega) (by omega)))) g11 (Nat.le_refl _)) term (AR_tr (AR_up (by omega)) (AR_tr (AR_sub g7 (by omega) (by omega)) e1)) (AR_tr (AR_up (by omega)) (AR_tr (AR_sub g8 (by omega) (by omega)) e2)) (AR_tr (AR_up (by omega)) (AR_tr (AR_sub g9 (by omega) (by omega)) e3)) (fun z z1 z2 => (wlo z (by omega)).trans (e4 z z1 z2)) (SB_tr e5 g11)
        have ecl : l_lr_readAmount_11 (G_lr n).1 (G_lr n).2.1 (G_lr n).2.2.1 (G_lr n).2.2.2 (nI y) a1 (nI L) l3 (nI it) ops args (nI cmC) lu 0 fp (nI p) = l_lr_readAmount_11 (G_lr n).1 (G_lr n).2.1 (G_lr n).2.2.1 (G_lr n).2.2.2 (nI y) a1 (nI L) l3 (nI (it + 1)) (zup ops' cm' c) (zup args' cm' 0) (nI (cm' + 1)) lu' 0 fp (nI p') := zlp_in st'
        rw [ecl]
        exact key2
      · right
        refine ⟨k, pl, b1, b2, b3, ?_, b6⟩
        obtain ⟨w, o2, a2, c2, l2, k1, k2, k3, k4, k5, k6, k7⟩ := d_emitAny b4 c 0 ops' args' lu'
        have st' := st _ b5 k2
        dsimp +instances only at st'
        rw [k4, k5, k6, k7] at st'
        obtain ⟨o3, a3, c3, l3', z1, z2⟩ := z_amountL (show nI k ≠ 0 from nI_ne0 (by omega) (by omega)) a1 (G_lr n).1 (G_lr n).2.1 (G_lr n).2.2.1 (G_lr n).2.2.2 (nI y) l3 (it + 1) (by omega) o2 a2 k1 l2 (nI L) (nI pl) ps
        exact ⟨o3, a3, c3, l3', ps, z1, (zlp_in st').trans z2⟩
    -- a sign of a sum
    have add : ∀ (c : Int32) (m : Nat), wP c m → sg a1 L p = c → w_md_sumSign c = nI m →
        FA a1 a70 L base ops0 args0 said0 waits0 lu0 p0 cm0 wt y (15 - 2 * y) fp F9 (l_lr_readAmount_11 (G_lr n).1 (G_lr n).2.1 (G_lr n).2.2.1 (G_lr n).2.2.2 (nI y) a1 (nI L) l3 (nI it) ops args (nI cmC) lu 0 fp (nI p)) (mS a70 L base said waits p F9 n0 y cmM wtM) ∨
        FB (l_lr_readAmount_11 (G_lr n).1 (G_lr n).2.1 (G_lr n).2.2.1 (G_lr n).2.2.2 (nI y) a1 (nI L) l3 (nI it) ops args (nI cmC) lu 0 fp (nI p)) (mS a70 L base said waits p F9 n0 y cmM wtM) := by
      intro c m hcm es hss
      have hm23 := (wP_op hcm).2.1
      have hin : p < L := sg_in (by rw [es]; rcases hcm with ⟨rfl, -⟩ | ⟨rfl, -⟩ <;> decide)
      have hms := mS_sign (base := base) (op := y) (x := 1) (F9 := F9) (n0 := n0) h hL hp (show 2 ≤ m ∧ m ≤ 6 by omega) (by rw [if_neg (by omega)]) (by rw [es]; exact hss) hc1 (show wt < 260 by omega)
      have pre : ∃ ops1 args1, (∀ r', (G_lr n).2.2.2 (nI y) a1 ops1 args1 (nI cm2) lu (nI L) 0 fp (nI (p + 1)) = some r' → f_lr_readAmount_11 (G_lr n).1 (G_lr n).2.1 (G_lr n).2.2.1 (G_lr n).2.2.2 (nI y) a1 (nI L) (l3, nI it, ops, args, nI cmC, lu, 0, fp, nI p) = some (.inl (c, nI (it + 1), r'.1, r'.2.1, r'.2.2.1, r'.2.2.2.1, r'.2.2.2.2.1, r'.2.2.2.2.2.1, r'.2.2.2.2.2.2))) ∧ PV WT ops1 args1 saidE2 lu (15 - 2 * y) cm0 cm2 ∧ AR 0 cmC ops1 ops ∧ AR 0 cmC args1 args ∧ AR 0 cmC saidE2 saidE := by
        rcases hw with ⟨rfl, rfl, rfl, rfl, rfl⟩ | ⟨w, w1, rfl, rfl, w4, rfl, w6⟩
        · refine ⟨ops, args, fun r' hr' => ?_, PV_mono hT (SB_refl _) (by omega), AR_refl _ _ _, AR_refl _ _ _, AR_refl _ _ _⟩
          dsimp +instances only [f_lr_readAmount_11, b_lr_readAmount_11]
          rw [e240, sgn.1, sgn.2, es, d_skip, nI_1]
          dsimp +instances only [zl]
          rw [hr']
          rcases hcm with ⟨rfl, -⟩ | ⟨rfl, -⟩ <;> rfl
        · obtain ⟨o1, o2, o3, o4⟩ := wP_op w1
          have hcm2 : cmC < 240 := by omega
          obtain ⟨k1, k2, k3, k4, k5, k6⟩ := d_emit hcm2 l3 0 ops args lu
          rw [o4, nFf, cTt] at k6
          refine ⟨zup ops cmC l3, zup args cmC 0, fun r' hr' => ?_, PV_bin (h := 15 - 2 * y) (h1 := 15 - 2 * y) (h2 := 14 - 2 * y) (PV_ext w6 (AR_up (by omega)) (AR_up (by omega)) (AR_up (by omega))) (PV_ext hT (AR_up (by omega)) (AR_up (by omega)) (AR_up (by omega))) h1 (by omega) o1 zup_same zup_same hcm2 (Nat.le_refl _) (by omega) (by omega) (fun _ _ => trivial), AR_up (by omega), AR_up (by omega), AR_up (by omega)⟩
          dsimp +instances only [f_lr_readAmount_11, b_lr_readAmount_11]
          rw [e240, sgn.1, sgn.2, es, d_skip, nI_1, o3, k1, k3, k4, k5, k6]
          dsimp +instances only [zl]
          rw [hr']
          rcases hcm with ⟨rfl, -⟩ | ⟨rfl, -⟩ <;> rfl
      obtain ⟨ops1, args1, st, pvS, x1, x2, x3⟩ := pre
      rw [hms]
      rcases hF ops1 args1 saidE2 (zup waits wt (nI (1048576 * m + 0))) lu (p + 1) cm2 (wt + 1) base F9 n0 fp (by omega) (by omega) (by omega) (by omega) with ⟨ops', args', said', waits', lu', p', cm', n1, g1, g2, g3, g4, g5, g6, g7, g8, g9, g10, g11, g12⟩ | ⟨k, pl, b1, b2, b3, ⟨ops', args', cm', lu', ps, b4, b5⟩, b6⟩
      · have st' : f_lr_readAmount_11 (G_lr n).1 (G_lr n).2.1 (G_lr n).2.2.1 (G_lr n).2.2.2 (nI y) a1 (nI L) (l3, nI it, ops, args, nI cmC, lu, 0, fp, nI p) = some (.inl (c, nI (it + 1), ops', args', nI cm', lu', 0, fp, nI p')) := st _ g5
        have wht : waits' wt = nI (1048576 * m + 0) := (g10 wt (by omega) (by omega)).trans zup_same
        have wlo : ∀ z, z < wt → waits' z = waits z := fun z hz => (g10 z (by omega) (by omega)).trans (zup_ne (by omega))
        have hNS' : NS waits' wt := NS_congr hNS (fun z _ hz => wlo z hz)
        rw [g6]
        have key := ih ops' args' said' waits' said' (zup said' cm' (nI (1048576 * m + 0))) lu' c n1 p' (it + 1) cm2 cm' cm' (cm' + 1) (wt + 1) (wt + 1) (by omega) g2 (by omega) (by omega) (by omega) (by omega) (by omega) (by omega) (by omega) (by omega) (by omega) h8 h9 hNS' (fun z z1 z2 => by
            have : z = wt := by omega
            rw [this, wht, dec_op (by omega) (by omega)]
            rcases hm23 with rfl | rfl <;> decide)
          (cs_stop (by omega) hm23 wht _) (by rw [cs_step (x := 1) (m := m) (by omega) (by omega) (Or.inr (Or.inr (Or.inr ⟨rfl, hm23⟩))) wht, cs_end hNS' 1])
          (Or.inr ⟨m, hcm, rfl, rfl, wht, rfl, PV_mono (PV_ext pvS (AR_sub g7 (by omega) (by omega)) (AR_sub g8 (by omega) (by omega)) (AR_sub g9 (by omega) (by omega))) g11 (Nat.le_refl _)⟩)
          (PV_mono g12 (SB_refl _) (by omega)) (AR_tr (AR_sub g7 (by omega) (by omega)) (AR_tr (AR_sub x1 (by omega) (by omega)) e1)) (AR_tr (AR_sub g8 (by omega) (by omega)) (AR_tr (AR_sub x2 (by omega) (by omega)) e2)) (AR_tr (AR_sub g9 (by omega) (by omega)) (AR_tr (AR_sub x3 (by omega) (by omega)) e3)) (fun z z1 z2 => (wlo z z2).trans (e4 z z1 z2)) (SB_tr e5 g11)
        have ecl : l_lr_readAmount_11 (G_lr n).1 (G_lr n).2.1 (G_lr n).2.2.1 (G_lr n).2.2.2 (nI y) a1 (nI L) l3 (nI it) ops args (nI cmC) lu 0 fp (nI p) = l_lr_readAmount_11 (G_lr n).1 (G_lr n).2.1 (G_lr n).2.2.1 (G_lr n).2.2.2 (nI y) a1 (nI L) c (nI (it + 1)) ops' args' (nI cm') lu' 0 fp (nI p') := zlp_in st'
        rw [ecl]
        exact key
      · right
        refine ⟨k, pl, b1, b2, b3, ?_, b6⟩
        have st' := st _ b5
        dsimp +instances only at st'
        obtain ⟨o3, a3, c3, l3', z1, z2⟩ := z_amountL (show nI k ≠ 0 from nI_ne0 (by omega) (by omega)) a1 (G_lr n).1 (G_lr n).2.1 (G_lr n).2.2.1 (G_lr n).2.2.2 (nI y) c (it + 1) (by omega) ops' args' b4 lu' (nI L) (nI pl) ps
        exact ⟨o3, a3, c3, l3', ps, z1, (zlp_in st').trans z2⟩
    rcases ss_cases (sg a1 L p) with ⟨s1, s2⟩ | ⟨s1, s2⟩ | ⟨s1, s2⟩ | ⟨s1, s2⟩ | ⟨s1, s2⟩ | ⟨s1, s2, s3, s4, s5, s6⟩
    · exact mul 42 4 (Or.inl ⟨rfl, rfl⟩) s1 rfl
    · exact mul 47 5 (Or.inr (Or.inl ⟨rfl, rfl⟩)) s1 rfl
    · exact mul 37 6 (Or.inr (Or.inr ⟨rfl, rfl⟩)) s1 rfl
    · exact add 43 2 (Or.inl ⟨rfl, rfl⟩) s1 rfl
    · exact add 45 3 (Or.inr ⟨rfl, rfl⟩) s1 rfl
    · left
      rcases hw with ⟨rfl, rfl, rfl, rfl, rfl⟩ | ⟨w, w1, rfl, rfl, w4, rfl, w6⟩
      · refine ⟨ops, args, said, saidE2, waits, lu, p, cmM, cm2, wtM, n0, hp0, hp, by omega, by omega, zlp_out ?_, rfl, hc1, h7, h5, hno, e1, e2, e3, e4, e5, PV_mono hT (SB_refl _) (by omega), s6⟩
        dsimp +instances only [f_lr_readAmount_11, b_lr_readAmount_11]
        rw [e240, sgn.1, sgn.2]
        dsimp +instances only [zl]
        rw [dF s1, dF s2, dF s3, dF s4, dF s5]
        rfl
      · obtain ⟨o1, o2, o3, o4⟩ := wP_op w1
        have hcm : cmC < 240 := by omega
        obtain ⟨k1, k2, k3, k4, k5, k6⟩ := d_emit hcm l3 0 ops args lu
        rw [o4] at k6
        refine ⟨zup ops cmC l3, zup args cmC 0, said, zup saidE cmC (nI (1048576 * w + 0)), waits, lu, p, cmM, cmC + 1, wtM, n0, hp0, hp, by omega, by omega, zlp_out ?_, rfl, hc1, by omega, h5, hno, AR_tr (AR_up (by omega)) e1, AR_tr (AR_up (by omega)) e2, AR_tr (AR_up (by omega)) e3, e4, e5, ?_, s6⟩
        · dsimp +instances only [f_lr_readAmount_11, b_lr_readAmount_11]
          rw [e240, sgn.1, sgn.2, o3, k1, k3, k4, k5, k6]
          dsimp +instances only [zl]
          rw [dF s1, dF s2, dF s3, dF s4, dF s5]
          rfl
        · exact PV_bin (h := 15 - 2 * y) (h1 := 15 - 2 * y) (h2 := 14 - 2 * y) (PV_ext w6 (AR_up (by omega)) (AR_up (by omega)) (AR_up (by omega))) (PV_ext hT (AR_up (by omega)) (AR_up (by omega)) (AR_up (by omega))) h1 (by omega) o1 zup_same zup_same hcm (Nat.le_refl _) (by omega) (by omega) (fun _ _ => trivial)
theorem JA_of (h : RT a1 a70) (hL : L ≤ 240) {n y : Nat} (hy : y ≤ 6) (hF : JF a1 a70 L n y) : JA a1 a70 L (n + 1) y := by
  intro ops args said waits lu p cm wt base F9 n0 fp hp hcm hwt hbw hNS
  have eq : (G_lr (n + 1)).2.2.1 (nI y) a1 ops args (nI cm) lu (nI L) 0 fp (nI p) = qG_lr_readAmount (G_lr n).1 (G_lr n).2.1 (G_lr n).2.2.1 (G_lr n).2.2.2 (nI y) a1 ops args (nI cm) lu (nI L) 0 fp (nI p) := rfl
  rw [eq]
  unfold qG_lr_readAmount
  rcases hF ops args said waits lu p cm wt base F9 n0 fp hp hcm hwt hbw with ⟨ops', args', said', waits', lu', p', cm', n1, g1, g2, g3, g4, g5, g6, g7, g8, g9, g10, g11, g12⟩ | ⟨k, pl, b1, b2, b3, ⟨ops', args', cm', lu', ps, b4, b5⟩, b6⟩
  · rw [zbd_q g5, g6]
    have hNS' := NS_congr hNS g10
    exact d_amL h hL hy hF ops args said waits lu p cm wt base fp F9 hbw (L - p') ops' args' said' waits' said' said' lu' 0 n1 p' 0 cm cm' cm' cm' wt wt (Nat.le_refl _) g2 g1 (by omega) (Nat.le_refl _) g3 (Nat.le_refl _) g4 (by omega) (Nat.le_refl _) (Nat.le_refl _) hcm hwt hNS' (fun z z1 z2 => by omega) (cs_end hNS' 0 _) (cs_end hNS' 1 _) (Or.inl ⟨rfl, rfl, rfl, rfl, rfl⟩) (PV_mono g12 (SB_refl _) (by omega)) g7 g8 g9 g10 g11
  · right
    obtain ⟨o3, a3, c3, l3', z1, z2⟩ := z_amountL (show nI k ≠ 0 from nI_ne0 (by omega) (by omega)) a1 (G_lr n).1 (G_lr n).2.1 (G_lr n).2.2.1 (G_lr n).2.2.2 (nI y) 0 0 (by omega) ops' args' b4 lu' (nI L) (nI pl) ps
    refine ⟨k, pl, b1, b2, b3, ⟨o3, a3, c3, l3', ps, z1, ?_⟩, b6⟩
    rw [zbd_q b5]
    exact z2
end dsum
