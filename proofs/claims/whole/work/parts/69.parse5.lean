/-! ===== D: the law's text: conditions, in step ===== -/
def TG (a70 : Nat → Int32) (L : Nat) (ops args said waits : Nat → Int32) (lu : Int32) (p cm wt y h : Nat) (fp F9 : Int32) (x : Option T7) (z : Option T_md_readsSum) : Prop :=
  ∃ ops' args' said' waits' lu' p' cm' n1, p < p' ∧ p' ≤ L ∧ cm < cm' ∧ cm' + p ≤ cm + p' ∧ x = some (ops', args', nI cm', lu', 0, fp, nI p') ∧ z = tE a70 L waits' F9 n1 said' (nI p') (nI y) (nI cm') (nI wt) ∧ AR 0 cm ops' ops ∧ AR 0 cm args' args ∧ AR 0 cm said' said ∧ AR 0 wt waits' waits ∧ SB lu lu' ∧ PV WB ops' args' said' lu' h cm cm'
def JT (a1 a70 : Nat → Int32) (L n y : Nat) : Prop := ∀ (ops args said waits : Nat → Int32) (lu : Int32) (p cm wt : Nat) (F9 n0 fp : Int32), p ≤ L → cm ≤ p → wt ≤ p → 1 ≤ wt → NS waits wt →
  TG a70 L ops args said waits lu p cm wt y (16 - 2 * y) fp F9 ((G_lr n).2.1 (nI y) a1 ops args (nI cm) lu (nI L) 0 fp (nI p)) (tK a70 L said waits p F9 n0 y cm wt) ∨ FB ((G_lr n).2.1 (nI y) a1 ops args (nI cm) lu (nI L) 0 fp (nI p)) (tK a70 L said waits p F9 n0 y cm wt)
def CG (a1 a70 : Nat → Int32) (L : Nat) (ops args said waits : Nat → Int32) (lu : Int32) (p cm wt0 y h : Nat) (fp F9 : Int32) (x : Option T7) (z : Option T_md_readsSum) : Prop :=
  ∃ ops' args' saidP said' waits' lu' p' cm' wtP n1, p < p' ∧ p' ≤ L ∧ cm < cm' ∧ cm' + p ≤ cm + p' ∧ x = some (ops', args', nI cm', lu', 0, fp, nI p') ∧ z = tL a70 L waits' F9 n1 saidP (nI p') (nI y) (nI cm') (nI wtP) ∧ q_md_lands 1 saidP waits' (nI cm') (nI wtP) = some (said', nI (wt0 + 1)) ∧ AR 0 cm ops' ops ∧ AR 0 cm args' args ∧ AR 0 cm said' said ∧ AR 0 (wt0 + 1) waits' waits ∧ SB lu lu' ∧ PV WB ops' args' said' lu' h cm cm' ∧ ¬ sg a1 L p' = 38 ∧ ¬ sg a1 L p' = 124
def JC (a1 a70 : Nat → Int32) (L n y : Nat) : Prop := ∀ (ops args said waits : Nat → Int32) (lu : Int32) (p cm wt0 : Nat) (F9 n0 fp : Int32), p ≤ L → cm + 1 ≤ p → wt0 + 1 ≤ p → waits wt0 = nI (1048576 * 13 + 0) →
  CG a1 a70 L ops args said waits lu p cm wt0 y (16 - 2 * y) fp F9 ((G_lr n).1 (nI y) a1 ops args (nI cm) lu (nI L) 0 fp (nI p)) (tK a70 L said waits p F9 n0 y cm (wt0 + 1)) ∨ FB ((G_lr n).1 (nI y) a1 ops args (nI cm) lu (nI L) 0 fp (nI p)) (tK a70 L said waits p F9 n0 y cm (wt0 + 1))
section dcond
variable {a1 a70 : Nat → Int32} {L : Nat}
/-- a jump of the model, from behind a test to the next one -/
theorem tL_jump (h : RT a1 a70) (hL : L ≤ 240) {said waits said0 : Nat → Int32} {p y e wtP wt1 m : Nat} {F9 n0 x : Int32} (hp : p ≤ L) (he : e < 260) (hw1 : wt1 < 260) (hs : (sg a1 L p = 38 ∧ m = 11 ∧ x = 0) ∨ (sg a1 L p = 124 ∧ m = 12 ∧ x = 1)) (hl : q_md_lands x said waits (nI e) (nI wtP) = some (said0, nI wt1)) :
    tL a70 L waits F9 n0 said (nI p) (nI y) (nI e) (nI wtP) = tK a70 L (zup said0 e (nI (1048576 * m + 0))) (zup waits wt1 (nI (1048576 * m + e))) (p + 1) F9 n0 y (e + 1) (wt1 + 1) := by
  have e1 := d_here h (show L ≤ 260 by omega) (show p < 1000000 by omega)
  have jm : ∀ k : Nat, g_md_jumps (nI k) (nI wt1) (nI e) said0 waits (nI p) = true ∧ a0_md_jumps (nI k) (nI wt1) (nI e) said0 waits (nI p) = zup waits wt1 (nI (1048576 * k + e)) ∧ a1_md_jumps (nI k) (nI wt1) (nI e) said0 waits (nI p) = zup said0 e (nI (1048576 * k + 0)) ∧ f0_md_jumps (nI k) (nI wt1) (nI e) said0 waits (nI p) = nI (p + 1) ∧ f1_md_jumps (nI k) (nI wt1) (nI e) said0 waits (nI p) = nI (e + 1) ∧ f2_md_jumps (nI k) (nI wt1) (nI e) said0 waits (nI p) = nI (wt1 + 1) := fun k => by
    obtain ⟨n1, n2, n3⟩ := d_note he k 0 said0
    unfold g_md_jumps a0_md_jumps a1_md_jumps f0_md_jumps f1_md_jumps f2_md_jumps
    rw [show g_md_notes (nI k) 0 (nI e) said0 = true from n1, show a0_md_notes (nI k) 0 (nI e) said0 = _ from n2, show f0_md_notes (nI k) 0 (nI e) said0 = _ from n3, nI_zin (by omega), dT hw1, nI_cl (by omega), nI_1, nI_1, show (1048576 : Int32) * nI k + nI e = nI (1048576 * k + e) from by rw [show (1048576 : Int32) = nI 1048576 from rfl, pk_mul, nI_add]]
    exact ⟨rfl, rfl, rfl, rfl, rfl, rfl⟩
  have j11 := jm 11
  have j12 := jm 12
  have hq : l_md_readsCondition_92 a70 (nI L) waits F9 n0 said (nI p) (nI y) (nI e) (nI wtP) = some (.inl (zup said0 e (nI (1048576 * m + 0)), zup waits wt1 (nI (1048576 * m + e)), nI (p + 1), F9, n0, nI y, nI (e + 1), nI (wt1 + 1))) := by
    refine zlp_out ?_
    dsimp +instances only [f_md_readsCondition_92, b_md_readsCondition_92]
    rw [e1.1, e1.2]
    rcases hs with ⟨hs, rfl, rfl⟩ | ⟨hs, rfl, rfl⟩
    · rw [hs]
      dsimp +instances only [zl, zg]
      rw [cTt, show decide ((38 : Int32) = 41) = false from rfl, nFf, cTt, cTt, show decide ((38 : Int32) = 38) = true from rfl, cTt, cTt, show decide ((38 : Int32) = 124) = false from rfl, nFf, cTt, zbd_q hl]
      dsimp +instances only
      rw [show g_md_jumps 11 (nI wt1) (nI e) said0 waits (nI p) = true from j11.1, show a0_md_jumps 11 (nI wt1) (nI e) said0 waits (nI p) = _ from j11.2.1, show a1_md_jumps 11 (nI wt1) (nI e) said0 waits (nI p) = _ from j11.2.2.1, show f0_md_jumps 11 (nI wt1) (nI e) said0 waits (nI p) = _ from j11.2.2.2.1, show f1_md_jumps 11 (nI wt1) (nI e) said0 waits (nI p) = _ from j11.2.2.2.2.1, show f2_md_jumps 11 (nI wt1) (nI e) said0 waits (nI p) = _ from j11.2.2.2.2.2]
      rfl
    · rw [hs]
      dsimp +instances only [zl, zg]
      rw [cTt, show decide ((124 : Int32) = 41) = false from rfl, nFf, cTt, cTt, show decide ((124 : Int32) = 38) = false from rfl, cFf, cTt, show decide ((124 : Int32) = 124) = true from rfl, cTt, cTt, nTt, cFf, zbd_q hl]
      dsimp +instances only
      rw [show g_md_jumps 12 (nI wt1) (nI e) said0 waits (nI p) = true from j12.1, show a0_md_jumps 12 (nI wt1) (nI e) said0 waits (nI p) = _ from j12.2.1, show a1_md_jumps 12 (nI wt1) (nI e) said0 waits (nI p) = _ from j12.2.2.1, show f0_md_jumps 12 (nI wt1) (nI e) said0 waits (nI p) = _ from j12.2.2.2.1, show f1_md_jumps 12 (nI wt1) (nI e) said0 waits (nI p) = _ from j12.2.2.2.2.1, show f2_md_jumps 12 (nI wt1) (nI e) said0 waits (nI p) = _ from j12.2.2.2.2.2]
      rfl
  unfold tL
  rw [zbd_q hq]
  rfl
theorem tE_tL {waits said : Nat → Int32} {wt m x : Nat} (hw : wt < 260) (hm : 11 ≤ m ∧ m ≤ 14) (hx : x < 1048576) (h : waits wt = nI (1048576 * m + x)) (F9 n0 c7 c11 c12 : Int32) : tE a70 L waits F9 n0 said c7 c11 c12 (nI (wt + 1)) = tL a70 L waits F9 n0 said c7 c11 c12 (nI (wt + 1)) := by
  unfold tE
  rw [zbd_q (ep_stop hw hm hx h c11 c12)]
theorem d_cdL (h : RT a1 a70) (hL : L ≤ 240) {n y : Nat} (hy : y ≤ 6) (hT : JT a1 a70 L n y) (ops0 args0 said0 waits0 : Nat → Int32) (lu0 : Int32) (p0 cm0 wt0 : Nat) (fp F9 : Int32) (hcp : cm0 + 1 ≤ p0) (hwp : wt0 + 1 ≤ p0) :
    ∀ (r : Nat) (ops args said waits : Nat → Int32) (lu l3 l4 n0 : Int32) (p it e wtP : Nat) (PA PO qa qo : List Nat), L - p ≤ r → p ≤ L → p0 < p → it + 1 ≤ p → cm0 < e → e + p0 ≤ cm0 + p → wtP ≤ p → wtP ≤ wt0 + 3 →
      CI ops args said lu (16 - 2 * y) cm0 e PA PO qa qo → CHN args l3 PA → CHN args l4 PO → DEC e PA → DEC e PO → (∀ x ∈ PA, cm0 ≤ x) → (∀ x ∈ PO, cm0 ≤ x) → (∀ x ∈ PA, x ∉ PO) →
      PN waits said (wt0 + 1) wtP qa qo → (∀ x ∈ qa, x < e ∧ cm0 ≤ x) → (∀ x ∈ qo, x < e ∧ cm0 ≤ x) → (∀ x ∈ qa, x ∉ qo) → waits wt0 = nI (1048576 * 13 + 0) →
      AR 0 cm0 ops ops0 → AR 0 cm0 args args0 → AR 0 cm0 said said0 → AR 0 (wt0 + 1) waits waits0 → SB lu0 lu →
      CG a1 a70 L ops0 args0 said0 waits0 lu0 p0 cm0 wt0 y (16 - 2 * y) fp F9 (l_lr_readCondition_14 (G_lr n).1 (G_lr n).2.1 (G_lr n).2.2.1 (G_lr n).2.2.2 (nI y) a1 (nI L) l3 l4 (nI it) ops args (nI e) lu 0 fp (nI p)) (tL a70 L waits F9 n0 said (nI p) (nI y) (nI e) (nI wtP)) ∨
      FB (l_lr_readCondition_14 (G_lr n).1 (G_lr n).2.1 (G_lr n).2.2.1 (G_lr n).2.2.2 (nI y) a1 (nI L) l3 l4 (nI it) ops args (nI e) lu 0 fp (nI p)) (tL a70 L waits F9 n0 said (nI p) (nI y) (nI e) (nI wtP)) := by
  intro r
  induction r with
  | zero =>
    intro ops args said waits lu l3 l4 n0 p it e wtP PA PO qa qo hr hp hp0 hit h1 h2 h3 h4 hCI hA hO dA dO mA mO mAO hPN hqa hqo hqq hop e1 e2 e3 e4 e5
    have es : sg a1 L p = -1 := by unfold sg; exact if_neg (by omega)
    have sgn := d_sign (a := a1) (show L ≤ 260 by omega) (show p < 1000000 by omega)
    have e240 : decide ((240 : Int32) ≤ nI it) = false := by rw [show (240 : Int32) = nI 240 from rfl, nI_dle (by omega) (by omega)]; exact dF (by omega)
    obtain ⟨ar1, j1, j2, j3⟩ := d_aim (sz := e) hA dA (by omega)
    have hO1 : CHN ar1 l4 PO := CHN_congr hO (fun q hq => j3 q (fun hm => mAO q hm hq))
    obtain ⟨ar2, j4, j5, j6⟩ := d_aim (sz := e) hO1 dO (by omega)
    obtain ⟨-, said1, k1, k2, k3, k4⟩ := PN_lands (cm := e) hPN (by omega) (by omega) hop
    left
    refine ⟨ops, ar2, said, said1, waits, lu, p, e, wtP, n0, hp0, hp, h1, by omega, zlp_out ?_, rfl, k1, e1, fun x x1 x2 => ?_, fun x x1 x2 => ?_, e4, e5, ?_, by rw [es]; decide, by rw [es]; decide⟩
    · dsimp +instances only [f_lr_readCondition_14, b_lr_readCondition_14]
      rw [e240, sgn.1, sgn.2, es, zbd_q j1, zbd_q j4]
      rfl
    · rw [j6 x (fun hm => by have := mO x hm; omega), j3 x (fun hm => by have := mA x hm; omega)]; exact e2 x x1 x2
    · rw [k4 x (fun hm => by have := (hqa x hm).2; omega) (fun hm => by have := (hqo x hm).2; omega)]; exact e3 x x1 x2
    · exact CI_end hCI (by omega) (fun x hx => ⟨DEC_lt dA x hx, mA x hx⟩) (fun x hx => ⟨DEC_lt dO x hx, mO x hx⟩) hqa hqo (fun x x1 x2 x3 x4 => by rw [j6 x x4, j3 x x3]) (fun x hx => by rw [j6 x (mAO x hx)]; exact j2 x hx) j5 (fun x x1 x2 x3 x4 => k4 x x3 x4) k2 k3
  | succ r ih =>
    intro ops args said waits lu l3 l4 n0 p it e wtP PA PO qa qo hr hp hp0 hit h1 h2 h3 h4 hCI hA hO dA dO mA mO mAO hPN hqa hqo hqq hop e1 e2 e3 e4 e5
    have sgn := d_sign (a := a1) (show L ≤ 260 by omega) (show p < 1000000 by omega)
    have e240 : decide ((240 : Int32) ≤ nI it) = false := by rw [show (240 : Int32) = nI 240 from rfl, nI_dle (by omega) (by omega)]; exact dF (by omega)
    have lA := DEC_lt dA
    have lO := DEC_lt dO
    by_cases s38 : sg a1 L p = 38
    · -- and
      have hin : p < L := sg_in (by rw [s38]; decide)
      have he : e < 240 := by omega
      obtain ⟨k1, k2, k3, k4, k5, k6⟩ := d_emit he 4 l3 ops args lu
      rw [show decide ((4 : Int32) = 2) = false from rfl, nFf, cTt] at k6
      obtain ⟨⟨sd0, wt1, q1, q2, q3, q4, q5, q6⟩, -⟩ := PN_lands (cm := e) hPN (by omega) (by omega) hop
      have hmj := tL_jump (y := y) (F9 := F9) (n0 := n0) (m := 11) (x := 0) h hL hp (by omega) (show wt1 < 260 by omega) (Or.inl ⟨s38, rfl, rfl⟩) q1
      have st : ∀ r', (G_lr n).2.1 (nI y) a1 (zup ops e 4) (zup args e l3) (nI (e + 1)) lu (nI L) 0 fp (nI (p + 1)) = some r' → f_lr_readCondition_14 (G_lr n).1 (G_lr n).2.1 (G_lr n).2.2.1 (G_lr n).2.2.2 (nI y) a1 (nI L) (l3, l4, nI it, ops, args, nI e, lu, 0, fp, nI p) = some (.inl (nI e, l4, nI (it + 1), r'.1, r'.2.1, r'.2.2.1, r'.2.2.2.1, r'.2.2.2.2.1, r'.2.2.2.2.2.1, r'.2.2.2.2.2.2)) := by
        intro r' hr'
        dsimp +instances only [f_lr_readCondition_14, b_lr_readCondition_14]
        rw [e240, sgn.1, sgn.2, s38, d_skip, nI_1, k1, k2, k3, k4, k5, k6]
        dsimp +instances only [zl]
        rw [zbd_q hr']
        rfl
      have hNS : NS (zup waits wt1 (nI (1048576 * 11 + e))) (wt1 + 1) := Or.inr ⟨wt1, 11, e, rfl, by omega, by omega, by omega, by omega, zup_same⟩
      rw [hmj]
      rcases hT (zup ops e 4) (zup args e l3) (zup sd0 e (nI (1048576 * 11 + 0))) (zup waits wt1 (nI (1048576 * 11 + e))) lu (p + 1) (e + 1) (wt1 + 1) F9 n0 fp (by omega) (by omega) (by omega) (by omega) hNS with ⟨ops', args', said', waits', lu', p', cm', n1, g1, g2, g3, g4, g5, g6, g7, g8, g9, g10, g11, g12⟩ | ⟨k, pl, b1, b2, b3, ⟨ops', args', cm', lu', ps, b4, b5⟩, b6⟩
      · have wtop : waits' wt1 = nI (1048576 * 11 + e) := (g10 wt1 (by omega) (by omega)).trans zup_same
        have wlo : ∀ z, z < wt1 → waits' z = waits z := fun z hz => (g10 z (by omega) (by omega)).trans (zup_ne (by omega))
        have sE : said' e = nI (1048576 * 11 + 0) := (g9 e (by omega) (by omega)).trans zup_same
        have sLo : ∀ x, x < e → said' x = sd0 x := fun x hx => (g9 x (by omega) (by omega)).trans (zup_ne (by omega))
        have aLo : ∀ x, x < e → args' x = args x := fun x hx => (g8 x (by omega) (by omega)).trans (zup_ne (by omega))
        have oLo : ∀ x, x < e → ops' x = ops x := fun x hx => (g7 x (by omega) (by omega)).trans (zup_ne (by omega))
        rw [g6, tE_tL (by omega) (show 11 ≤ 11 ∧ 11 ≤ 14 by omega) (by omega) wtop]
        have hCI' := CI_and hCI g11 g12 (by omega) (by omega) he (by omega) lA lO hqa (fun x hx => (hqo x hx).1) hqq (fun x x1 x2 => oLo x x2) ((g7 e (by omega) (by omega)).trans zup_same) (fun x x1 x2 _ _ => aLo x x2) (fun x x1 x2 x3 _ => by rw [sLo x x2]; exact q3 x x3) (fun x hx => by rw [sLo x (hqa x hx).1]; exact q2 x hx)
        have key := ih ops' args' said' waits' lu' (nI e) l4 n1 p' (it + 1) cm' (wt1 + 1) (e :: PA) PO [e] qo (by omega) g2 (by omega) (by omega) (by omega) (by omega) (by omega) (by
          rcases q6 with ⟨-, z⟩ | ⟨o, -, -, z, -⟩ <;> omega) hCI'
          ⟨rfl, he, by rw [g8 e (by omega) (by omega), zup_same]; exact CHN_congr hA (fun x hx => aLo x (lA x hx))⟩ (CHN_congr hO (fun x hx => aLo x (lO x hx))) ⟨by omega, DEC_up dA (Nat.le_refl _)⟩ (DEC_up dO (by omega)) (fun x hx => by
            rcases List.mem_cons.mp hx with q | q
            · omega
            · exact mA x q) mO (fun x hx hx2 => by
            rcases List.mem_cons.mp hx with q | q
            · have := lO x hx2; omega
            · exact mAO x q hx2) ⟨by
            rcases q6 with ⟨z1, z2⟩ | ⟨o, z1, z2, z3, z4⟩
            · exact Or.inr (Or.inl ⟨e, rfl, z1, by omega, he, by rw [← z2]; exact wtop⟩)
            · refine Or.inr (Or.inr (Or.inr ⟨e, o, rfl, z1, by omega, he, z2, ?_, ?_, ?_⟩))
              · have := (hqo o (by rw [z1]; exact List.mem_singleton.mpr rfl)).1
                omega
              · rw [wlo (wt0 + 1) (by omega)]; exact z4
              · rw [show wt0 + 1 + 1 = wt1 by omega]; exact wtop, fun x hx => by rw [List.mem_singleton.mp hx]; exact ⟨0, by omega, sE⟩, fun x hx => by
            obtain ⟨z, z1, z2⟩ := hPN.2.2 x hx
            exact ⟨z, z1, by rw [sLo x (hqo x hx).1, q3 x (fun hm => hqq x hm hx)]; exact z2⟩⟩ (fun x hx => by rw [List.mem_singleton.mp hx]; exact ⟨by omega, by omega⟩) (fun x hx => ⟨by have := (hqo x hx).1; omega, (hqo x hx).2⟩) (fun x hx hx2 => by
            have := List.mem_singleton.mp hx
            have := (hqo x hx2).1
            omega) (by rw [wlo wt0 (by omega)]; exact hop) (fun x x1 x2 => by rw [oLo x (by omega)]; exact e1 x x1 x2) (fun x x1 x2 => by rw [aLo x (by omega)]; exact e2 x x1 x2) (fun x x1 x2 => by rw [sLo x (by omega), q3 x (fun hm => by have := (hqa x hm).2; omega)]; exact e3 x x1 x2) (fun x x1 x2 => by rw [wlo x (by omega)]; exact e4 x x1 x2) (SB_tr e5 g11)
        have ecl : l_lr_readCondition_14 (G_lr n).1 (G_lr n).2.1 (G_lr n).2.2.1 (G_lr n).2.2.2 (nI y) a1 (nI L) l3 l4 (nI it) ops args (nI e) lu 0 fp (nI p) = l_lr_readCondition_14 (G_lr n).1 (G_lr n).2.1 (G_lr n).2.2.1 (G_lr n).2.2.2 (nI y) a1 (nI L) (nI e) l4 (nI (it + 1)) ops' args' (nI cm') lu' 0 fp (nI p') := zlp_in (st _ g5)
        rw [ecl]
        exact key
      · right
        refine ⟨k, pl, b1, b2, b3, ?_, b6⟩
        have st' := st _ b5
        dsimp +instances only at st'
        obtain ⟨a3, z2⟩ := z_condL (show nI k ≠ 0 from nI_ne0 (by omega) (by omega)) a1 (G_lr n).1 (G_lr n).2.1 (G_lr n).2.2.1 (G_lr n).2.2.2 (nI y) (nI e) l4 (nI (it + 1)) ops' args' (nI cm') lu' (nI L) (nI pl) ps
        exact ⟨ops', a3, cm', lu', ps, b4, (zlp_in st').trans z2⟩
    · by_cases s124 : sg a1 L p = 124
      · -- or
        have hin : p < L := sg_in (by rw [s124]; decide)
        have he : e < 240 := by omega
        obtain ⟨ar1, j1, j2, j3⟩ := d_aim (sz := e) hA dA (by omega)
        obtain ⟨k1, k2, k3, k4, k5, k6⟩ := d_emit he 5 l4 ops ar1 lu
        rw [show decide ((5 : Int32) = 2) = false from rfl, nFf, cTt] at k6
        obtain ⟨-, sd1, q1, q2, q3, q4⟩ := PN_lands (cm := e) hPN (by omega) (by omega) hop
        have hmj := tL_jump (y := y) (F9 := F9) (n0 := n0) (m := 12) (x := 1) h hL hp (by omega) (show wt0 + 1 < 260 by omega) (Or.inr ⟨s124, rfl, rfl⟩) q1
        have st : ∀ r', (G_lr n).2.1 (nI y) a1 (zup ops e 5) (zup ar1 e l4) (nI (e + 1)) lu (nI L) 0 fp (nI (p + 1)) = some r' → f_lr_readCondition_14 (G_lr n).1 (G_lr n).2.1 (G_lr n).2.2.1 (G_lr n).2.2.2 (nI y) a1 (nI L) (l3, l4, nI it, ops, args, nI e, lu, 0, fp, nI p) = some (.inl (-1, nI e, nI (it + 1), r'.1, r'.2.1, r'.2.2.1, r'.2.2.2.1, r'.2.2.2.2.1, r'.2.2.2.2.2.1, r'.2.2.2.2.2.2)) := by
          intro r' hr'
          dsimp +instances only [f_lr_readCondition_14, b_lr_readCondition_14]
          rw [e240, sgn.1, sgn.2, s124, d_skip, nI_1]
          dsimp +instances only [zl]
          rw [cFf, show decide ((124 : Int32) = 38) = false from rfl, nFf, cTt, show decide ((124 : Int32) = 124) = true from rfl, nTt, cFf, zbd_q j1]
          rw [k1, k2, k3, k4, k5, k6, zbd_q hr']
          rfl
        have hNS : NS (zup waits (wt0 + 1) (nI (1048576 * 12 + e))) (wt0 + 1 + 1) := Or.inr ⟨wt0 + 1, 12, e, rfl, by omega, by omega, by omega, by omega, zup_same⟩
        rw [hmj]
        have hw3 : wt0 + 1 ≤ wtP := by
          rcases hPN.1 with ⟨-, -, z⟩ | ⟨a, -, -, z, -⟩ | ⟨o, -, -, z, -⟩ | ⟨a, o, -, -, z, -⟩ <;> omega
        rcases hT (zup ops e 5) (zup ar1 e l4) (zup sd1 e (nI (1048576 * 12 + 0))) (zup waits (wt0 + 1) (nI (1048576 * 12 + e))) lu (p + 1) (e + 1) (wt0 + 1 + 1) F9 n0 fp (by omega) (by omega) (by omega) (by omega) hNS with ⟨ops', args', said', waits', lu', p', cm', n1, g1, g2, g3, g4, g5, g6, g7, g8, g9, g10, g11, g12⟩ | ⟨k, pl, b1, b2, b3, ⟨ops', args', cm', lu', ps, b4, b5⟩, b6⟩
        · have wtop : waits' (wt0 + 1) = nI (1048576 * 12 + e) := (g10 (wt0 + 1) (by omega) (by omega)).trans zup_same
          have wlo : ∀ z, z < wt0 + 1 → waits' z = waits z := fun z hz => (g10 z (by omega) (by omega)).trans (zup_ne (by omega))
          have sE : said' e = nI (1048576 * 12 + 0) := (g9 e (by omega) (by omega)).trans zup_same
          have sLo : ∀ x, x < e → said' x = sd1 x := fun x hx => (g9 x (by omega) (by omega)).trans (zup_ne (by omega))
          have aLo : ∀ x, x < e → args' x = ar1 x := fun x hx => (g8 x (by omega) (by omega)).trans (zup_ne (by omega))
          have oLo : ∀ x, x < e → ops' x = ops x := fun x hx => (g7 x (by omega) (by omega)).trans (zup_ne (by omega))
          rw [g6, tE_tL (by omega) (show 11 ≤ 12 ∧ 12 ≤ 14 by omega) (by omega) wtop]
          have hCI' := CI_or hCI g11 g12 (by omega) (by omega) he (by omega) (fun x hx => ⟨lA x hx, mA x hx⟩) lO mAO hqa hqo (fun x x1 x2 => oLo x x2) ((g7 e (by omega) (by omega)).trans zup_same) (fun x x1 x2 x3 _ => by rw [aLo x x2]; exact j3 x x3) (fun x hx => by rw [aLo x (lA x hx)]; exact j2 x hx) (fun x x1 x2 x3 x4 => by rw [sLo x x2]; exact q4 x x3 x4) (fun x hx => by rw [sLo x (hqa x hx).1]; exact q2 x hx) (fun x hx => by rw [sLo x (hqo x hx).1]; exact q3 x hx)
          have key := ih ops' args' said' waits' lu' (-1) (nI e) n1 p' (it + 1) cm' (wt0 + 1 + 1) [] (e :: PO) [] [e] (by omega) g2 (by omega) (by omega) (by omega) (by omega) (by omega) (by omega) hCI'
            rfl ⟨rfl, he, by rw [g8 e (by omega) (by omega), zup_same]; exact CHN_congr hO (fun x hx => by rw [aLo x (lO x hx)]; exact j3 x (fun hm => mAO x hm hx))⟩ trivial ⟨by omega, DEC_up dO (Nat.le_refl _)⟩ (fun x hx => (by cases hx)) (fun x hx => by
              rcases List.mem_cons.mp hx with q | q
              · omega
              · exact mO x q) (fun x hx => (by cases hx)) ⟨Or.inr (Or.inr (Or.inl ⟨e, rfl, rfl, rfl, he, wtop⟩)), fun x hx => (by cases hx), fun x hx => by rw [List.mem_singleton.mp hx]; exact ⟨0, by omega, sE⟩⟩ (fun x hx => (by cases hx)) (fun x hx => by rw [List.mem_singleton.mp hx]; exact ⟨by omega, by omega⟩) (fun x hx => (by cases hx)) (by rw [wlo wt0 (by omega)]; exact hop) (fun x x1 x2 => by rw [oLo x (by omega)]; exact e1 x x1 x2) (fun x x1 x2 => by rw [aLo x (by omega), j3 x (fun hm => by have := mA x hm; omega)]; exact e2 x x1 x2) (fun x x1 x2 => by rw [sLo x (by omega), q4 x (fun hm => by have := (hqa x hm).2; omega) (fun hm => by have := (hqo x hm).2; omega)]; exact e3 x x1 x2) (fun x x1 x2 => by rw [wlo x (by omega)]; exact e4 x x1 x2) (SB_tr e5 g11)
          have ecl : l_lr_readCondition_14 (G_lr n).1 (G_lr n).2.1 (G_lr n).2.2.1 (G_lr n).2.2.2 (nI y) a1 (nI L) l3 l4 (nI it) ops args (nI e) lu 0 fp (nI p) = l_lr_readCondition_14 (G_lr n).1 (G_lr n).2.1 (G_lr n).2.2.1 (G_lr n).2.2.2 (nI y) a1 (nI L) (-1) (nI e) (nI (it + 1)) ops' args' (nI cm') lu' 0 fp (nI p') := zlp_in (st _ g5)
          rw [ecl]
          exact key
        · right
          refine ⟨k, pl, b1, b2, b3, ?_, b6⟩
          have st' := st _ b5
          dsimp +instances only at st'
          obtain ⟨a3, z2⟩ := z_condL (show nI k ≠ 0 from nI_ne0 (by omega) (by omega)) a1 (G_lr n).1 (G_lr n).2.1 (G_lr n).2.2.1 (G_lr n).2.2.2 (nI y) (-1) (nI e) (nI (it + 1)) ops' args' (nI cm') lu' (nI L) (nI pl) ps
          exact ⟨ops', a3, cm', lu', ps, b4, (zlp_in st').trans z2⟩
      · -- the end
        obtain ⟨ar1, j1, j2, j3⟩ := d_aim (sz := e) hA dA (by omega)
        have hO1 : CHN ar1 l4 PO := CHN_congr hO (fun q hq => j3 q (fun hm => mAO q hm hq))
        obtain ⟨ar2, j4, j5, j6⟩ := d_aim (sz := e) hO1 dO (by omega)
        obtain ⟨-, said1, k1, k2, k3, k4⟩ := PN_lands (cm := e) hPN (by omega) (by omega) hop
        left
        refine ⟨ops, ar2, said, said1, waits, lu, p, e, wtP, n0, hp0, hp, h1, by omega, zlp_out ?_, rfl, k1, e1, fun x x1 x2 => ?_, fun x x1 x2 => ?_, e4, e5, ?_, s38, s124⟩
        · dsimp +instances only [f_lr_readCondition_14, b_lr_readCondition_14]
          rw [e240, sgn.1, sgn.2]
          dsimp +instances only [zl]
          rw [dF s38, dF s124, zbd_q j1, zbd_q j4]
          rfl
        · rw [j6 x (fun hm => by have := mO x hm; omega), j3 x (fun hm => by have := mA x hm; omega)]; exact e2 x x1 x2
        · rw [k4 x (fun hm => by have := (hqa x hm).2; omega) (fun hm => by have := (hqo x hm).2; omega)]; exact e3 x x1 x2
        · exact CI_end hCI (by omega) (fun x hx => ⟨lA x hx, mA x hx⟩) (fun x hx => ⟨lO x hx, mO x hx⟩) hqa hqo (fun x x1 x2 x3 x4 => by rw [j6 x x4, j3 x x3]) (fun x hx => by rw [j6 x (mAO x hx)]; exact j2 x hx) j5 (fun x x1 x2 x3 x4 => k4 x x3 x4) k2 k3
theorem JC_of (h : RT a1 a70) (hL : L ≤ 240) {n y : Nat} (hy : y ≤ 6) (hT : JT a1 a70 L n y) : JC a1 a70 L (n + 1) y := by
  intro ops args said waits lu p cm wt0 F9 n0 fp hp hcm hwt hop
  have eq : (G_lr (n + 1)).1 (nI y) a1 ops args (nI cm) lu (nI L) 0 fp (nI p) = qG_lr_readCondition (G_lr n).1 (G_lr n).2.1 (G_lr n).2.2.1 (G_lr n).2.2.2 (nI y) a1 ops args (nI cm) lu (nI L) 0 fp (nI p) := rfl
  rw [eq]
  unfold qG_lr_readCondition
  have hNS : NS waits (wt0 + 1) := Or.inr ⟨wt0, 13, 0, rfl, by omega, by omega, by omega, by omega, hop⟩
  rcases hT ops args said waits lu p cm (wt0 + 1) F9 n0 fp hp (by omega) hwt (by omega) hNS with ⟨ops', args', said', waits', lu', p', cm', n1, g1, g2, g3, g4, g5, g6, g7, g8, g9, g10, g11, g12⟩ | ⟨k, pl, b1, b2, b3, ⟨ops', args', cm', lu', ps, b4, b5⟩, b6⟩
  · have hop' : waits' wt0 = nI (1048576 * 13 + 0) := (g10 wt0 (by omega) (by omega)).trans hop
    rw [zbd_q g5, g6, tE_tL (by omega) (show 11 ≤ 13 ∧ 13 ≤ 14 by omega) (by omega) hop']
    exact d_cdL h hL hy hT ops args said waits lu p cm wt0 fp F9 hcm hwt (L - p') ops' args' said' waits' lu' (-1) (-1) n1 p' 0 cm' (wt0 + 1) [] [] [] [] (Nat.le_refl _) g2 g1 (by omega) g3 g4 (by omega) (by omega) (CI_start g12) rfl rfl trivial trivial (fun x hx => (by cases hx)) (fun x hx => (by cases hx)) (fun x hx => (by cases hx)) ⟨Or.inl ⟨rfl, rfl, rfl⟩, fun x hx => (by cases hx), fun x hx => (by cases hx)⟩ (fun x hx => (by cases hx)) (fun x hx => (by cases hx)) (fun x hx => (by cases hx)) hop' g7 g8 g9 g10 g11
  · right
    obtain ⟨a3, z2⟩ := z_condL (show nI k ≠ 0 from nI_ne0 (by omega) (by omega)) a1 (G_lr n).1 (G_lr n).2.1 (G_lr n).2.2.1 (G_lr n).2.2.2 (nI y) (-1) (-1) 0 ops' args' (nI cm') lu' (nI L) (nI pl) ps
    refine ⟨k, pl, b1, b2, b3, ⟨ops', a3, cm', lu', ps, b4, ?_⟩, b6⟩
    rw [zbd_q b5]
    exact z2
end dcond
