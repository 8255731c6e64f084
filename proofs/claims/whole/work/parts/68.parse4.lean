/-! ===== D: the law's text: helpers of conditions ===== -/
noncomputable def tL (a70 : Nat → Int32) (L : Nat) (waits : Nat → Int32) (F9 n0 : Int32) (said : Nat → Int32) (c7 c11 c12 c13 : Int32) : Option T_md_readsCondition := zbd (l_md_readsCondition_92 a70 (nI L) waits F9 n0 said c7 c11 c12 c13) (fun q => zsm q (zlp (f_md_readsCondition_40 a70 (nI L))) some)
noncomputable def tE (a70 : Nat → Int32) (L : Nat) (waits : Nat → Int32) (F9 n0 : Int32) (said : Nat → Int32) (c7 c11 c12 c13 : Int32) : Option T_md_readsCondition := zbd (q_md_endsPiece said waits c11 c12 c13) (fun v => tL a70 L waits F9 n0 v.1 c7 v.2.1 v.2.2.1 v.2.2.2)
noncomputable def tK (a70 : Nat → Int32) (L : Nat) (said waits : Nat → Int32) (p : Nat) (F9 n0 : Int32) (op cm wt : Nat) : Option T_md_readsCondition := l_md_readsCondition_40 a70 (nI L) said waits (nI p) F9 n0 (nI op) (nI cm) (nI wt)
section dtest
variable {a1 a70 : Nat → Int32} {L : Nat}
/-- a sum as tests and rules read it -/
theorem JS_of (h : RT a1 a70) (hL : L ≤ 240) {n y : Nat} (hy : y ≤ 6) (hA : JA a1 a70 L n y) (ops args said waits : Nat → Int32) (lu : Int32) (p cm wt : Nat) (F9 n0 fp : Int32) (hp : p ≤ L) (hcm : cm ≤ p) (hwt : wt ≤ p) (hNS : NS waits wt) :
    (∃ ops' args' said' waits' lu' p' cm' n1, p < p' ∧ p' ≤ L ∧ cm < cm' ∧ cm' + p ≤ cm + p' ∧ (G_lr n).2.2.1 (nI y) a1 ops args (nI cm) lu (nI L) 0 fp (nI p) = some (ops', args', nI cm', lu', 0, fp, nI p') ∧ q_md_readsSum a70 said waits (nI p) (nI L) F9 n0 (nI y) (nI cm) (nI wt) = some (1, said', waits', nI p', F9, n1, nI y, nI cm', nI wt) ∧ AR 0 cm ops' ops ∧ AR 0 cm args' args ∧ AR 0 cm said' said ∧ AR 0 wt waits' waits ∧ SB lu lu' ∧ PV WT ops' args' said' lu' (15 - 2 * y) cm cm') ∨
    FB ((G_lr n).2.2.1 (nI y) a1 ops args (nI cm) lu (nI L) 0 fp (nI p)) (q_md_readsSum a70 said waits (nI p) (nI L) F9 n0 (nI y) (nI cm) (nI wt)) := by
  have ek : q_md_readsSum a70 said waits (nI p) (nI L) F9 n0 (nI y) (nI cm) (nI wt) = mK a70 L wt said waits p F9 n0 y cm wt := rfl
  rw [ek]
  rcases hA ops args said waits lu p cm wt wt F9 n0 fp hp hcm hwt (Nat.le_refl _) hNS with ⟨ops', args', said', saidE, waits', lu', p', cmM, cm', wt', n1, g1, g2, g3, g4, g5, g6, g7, g8, g9, g10, g11, g12, g13, g14, g15, g16, g17⟩ | hb
  · left
    refine ⟨ops', args', saidE, waits', lu', p', cm', n1, g1, g2, g3, g4, g5, ?_, g11, g12, g13, g14, g15, g16⟩
    rw [g6]
    have e5 := d_here h (show L ≤ 260 by omega) (show p' < 1000000 by omega)
    obtain ⟨r, r1, r2⟩ := d_hasOpen (base := wt) (wt := wt') waits' (by omega) g8
    have hr : r = false := by
      cases hrr : r with
      | false => rfl
      | true =>
        obtain ⟨z, z1, z2, z3⟩ := r2.mp hrr
        exact absurd z3 (g10 z z1 z2)
    subst hr
    unfold mS
    refine zlp_out ?_
    dsimp +instances only [f_md_readsSum_14, b_md_readsSum_14]
    rw [e5.1, e5.2]
    dsimp +instances only [zl, zg]
    rw [g17, cTt, show decide ((-1 : Int32) = -1) = true from rfl, cTt, cTt]
    cases decide (sg a1 L p' = 93) with
    | true =>
      rw [nTt, cFf, zbd_q r1, b01_0, nFf, cTt, zbd_q r1, b01_0, nFf, cTt, zbd_q g7]
    | false =>
      rw [nFf, cTt, zbd_q r1, b01_0, nFf, cTt, zbd_q g7]
  · exact Or.inr hb
/-- the end of a piece -/
theorem ep_stop {said waits : Nat → Int32} {wt m x : Nat} (hw : wt < 260) (hm : 11 ≤ m ∧ m ≤ 14) (hx : x < 1048576) (h : waits wt = nI (1048576 * m + x)) (op cm : Int32) : q_md_endsPiece said waits op cm (nI (wt + 1)) = some (said, op, cm, nI (wt + 1)) := by
  obtain ⟨g1, g2⟩ := d_topS hw (m := m) (by omega) hx h
  refine zlp_out ?_
  dsimp +instances only [f_md_endsPiece_0, b_md_endsPiece_0]
  rw [g1, g2]
  have h14 : m = 11 ∨ m = 12 ∨ m = 13 ∨ m = 14 := by omega
  rcases h14 with rfl | rfl | rfl | rfl <;> rfl
theorem ep_not {said waits : Nat → Int32} {wt cm op : Nat} (hw : wt < 260) (hc : cm < 260) (h : waits wt = nI (1048576 * 10 + 0)) : q_md_endsPiece said waits (nI (op + 1)) (nI cm) (nI (wt + 1)) = q_md_endsPiece (zup said cm (nI (1048576 * 10 + 0))) waits (nI op) (nI (cm + 1)) (nI wt) := by
  obtain ⟨g1, g2⟩ := d_topS hw (m := 10) (by omega) (by omega) h
  obtain ⟨n1, n2, n3⟩ := d_note hc 10 0 said
  refine zlp_in ?_
  dsimp +instances only [f_md_endsPiece_0, b_md_endsPiece_0]
  rw [g1, g2, show nI (wt + 1) - 1 = nI wt from by rw [show (1 : Int32) = nI 1 from rfl, pk_sub (by omega), Nat.add_sub_cancel], show nI (op + 1) - 1 = nI op from by rw [show (1 : Int32) = nI 1 from rfl, pk_sub (by omega), Nat.add_sub_cancel]]
  dsimp +instances only [zl]
  rw [show g_md_notes 10 0 (nI cm) said = true from n1, show a0_md_notes 10 0 (nI cm) said = _ from n2, show f0_md_notes 10 0 (nI cm) said = _ from n3]
  rfl
/-- where jumps land -/
theorem ld_open {said waits : Nat → Int32} {wt : Nat} (hw : wt < 260) (h : waits wt = nI (1048576 * 13 + 0)) (x cm : Int32) : q_md_lands x said waits cm (nI (wt + 1)) = some (said, nI (wt + 1)) := by
  obtain ⟨g1, g2⟩ := d_topS hw (m := 13) (by omega) (by omega) h
  refine zlp_out ?_
  dsimp +instances only [f_md_lands_0, b_md_lands_0]
  rw [g1, g2]
  cases decide (x = 0) <;> rfl
theorem ld_if {said waits : Nat → Int32} {wt z : Nat} (hw : wt < 260) (hz : z < 1048576) (h : waits wt = nI (1048576 * 12 + z)) (cm : Int32) : q_md_lands 0 said waits cm (nI (wt + 1)) = some (said, nI (wt + 1)) := by
  obtain ⟨g1, g2⟩ := d_topS hw (m := 12) (by omega) hz h
  refine zlp_out ?_
  dsimp +instances only [f_md_lands_0, b_md_lands_0]
  rw [g1, g2]
  rfl
theorem ld_step {said waits : Nat → Int32} {wt cm t fr z : Nat} {x : Int32} (hw : wt < 260) (hc : cm < 1048576) (ht : t = 11 ∨ (t = 12 ∧ x = 1)) (hf : fr < 240) (hz : z < 1048576) (h : waits wt = nI (1048576 * t + fr)) (hs : said fr = nI (1048576 * t + z)) : q_md_lands x said waits (nI cm) (nI (wt + 1)) = q_md_lands x (zup said fr (nI (1048576 * t + cm))) waits (nI cm) (nI wt) := by
  have ht15 : t ≤ 15 := by omega
  obtain ⟨g1, g2⟩ := d_topS hw (m := t) ht15 (by omega) h
  refine zlp_in ?_
  dsimp +instances only [f_md_lands_0, b_md_lands_0]
  rw [g1, g2, show nI (wt + 1) - 1 = nI wt from by rw [show (1 : Int32) = nI 1 from rfl, pk_sub (by omega), Nat.add_sub_cancel], nI_zin (by omega), dT hw, nI_cl (by omega), h, dec_op ht15 (by omega), dec_arg ht15 (by omega), nI_zin (by omega), dT (show fr < 260 by omega), nI_cl (by omega), hs, dec_op ht15 hz, show (1048576 : Int32) * nI t + nI cm = nI (1048576 * t + cm) from by rw [show (1048576 : Int32) = nI 1048576 from rfl, pk_mul, nI_add]]
  rcases ht with rfl | ⟨rfl, rfl⟩
  · rfl
  · rfl
/-- jumps of one condition that wait in the model -/
def PN (waits said : Nat → Int32) (wt wtP : Nat) (qa qo : List Nat) : Prop :=
  ((qa = [] ∧ qo = [] ∧ wtP = wt) ∨ (∃ a, qa = [a] ∧ qo = [] ∧ wtP = wt + 1 ∧ a < 240 ∧ waits wt = nI (1048576 * 11 + a)) ∨ (∃ o, qa = [] ∧ qo = [o] ∧ wtP = wt + 1 ∧ o < 240 ∧ waits wt = nI (1048576 * 12 + o)) ∨
    (∃ a o, qa = [a] ∧ qo = [o] ∧ wtP = wt + 2 ∧ a < 240 ∧ o < 240 ∧ a ≠ o ∧ waits wt = nI (1048576 * 12 + o) ∧ waits (wt + 1) = nI (1048576 * 11 + a))) ∧
  (∀ x ∈ qa, ∃ z, z < 1048576 ∧ said x = nI (1048576 * 11 + z)) ∧ (∀ x ∈ qo, ∃ z, z < 1048576 ∧ said x = nI (1048576 * 12 + z))
theorem PN_lands {waits said : Nat → Int32} {wt0 wtP cm : Nat} {qa qo : List Nat} (h : PN waits said (wt0 + 1) wtP qa qo) (hw : wt0 + 3 < 260) (hc : cm < 1048576) (ho : waits wt0 = nI (1048576 * 13 + 0)) :
    (∃ said0 wt1, q_md_lands 0 said waits (nI cm) (nI wtP) = some (said0, nI wt1) ∧ (∀ x ∈ qa, said0 x = nI (1048576 * 11 + cm)) ∧ (∀ x, x ∉ qa → said0 x = said x) ∧ wt0 + 1 ≤ wt1 ∧ wt1 ≤ wtP ∧ ((qo = [] ∧ wt1 = wt0 + 1) ∨ (∃ o, qo = [o] ∧ o < 240 ∧ wt1 = wt0 + 2 ∧ waits (wt0 + 1) = nI (1048576 * 12 + o)))) ∧
    (∃ said1, q_md_lands 1 said waits (nI cm) (nI wtP) = some (said1, nI (wt0 + 1)) ∧ (∀ x ∈ qa, said1 x = nI (1048576 * 11 + cm)) ∧ (∀ x ∈ qo, said1 x = nI (1048576 * 12 + cm)) ∧ (∀ x, x ∉ qa → x ∉ qo → said1 x = said x)) := by
  obtain ⟨h1, h2, h3⟩ := h
  have oS := fun (s : Nat → Int32) (x cm : Int32) => ld_open (said := s) (show wt0 < 260 by omega) ho x cm
  rcases h1 with ⟨rfl, rfl, rfl⟩ | ⟨a, rfl, rfl, rfl, ha, hwa⟩ | ⟨o, rfl, rfl, rfl, ho', hwo⟩ | ⟨a, o, rfl, rfl, rfl, ha, ho', hao, hwo, hwa⟩
  · exact ⟨⟨said, wt0 + 1, oS _ _ _, fun x hx => (by cases hx), fun _ _ => rfl, Nat.le_refl _, Nat.le_refl _, Or.inl ⟨rfl, rfl⟩⟩, ⟨said, oS _ _ _, fun x hx => (by cases hx), fun x hx => (by cases hx), fun _ _ _ => rfl⟩⟩
  · obtain ⟨z, z1, z2⟩ := h2 a (List.mem_singleton.mpr rfl)
    have na : ∀ x, x ∉ ([a] : List Nat) → x ≠ a := fun x hx e => hx (List.mem_singleton.mpr e)
    refine ⟨⟨zup said a (nI (1048576 * 11 + cm)), wt0 + 1, ?_, fun x hx => ?_, fun x hx => zup_ne (na x hx), Nat.le_refl _, by omega, Or.inl ⟨rfl, rfl⟩⟩, ⟨zup said a (nI (1048576 * 11 + cm)), ?_, fun x hx => ?_, fun x hx => (by cases hx), fun x hx _ => zup_ne (na x hx)⟩⟩
    · rw [ld_step (by omega) hc (Or.inl rfl) ha z1 hwa z2]; exact oS _ _ _
    · rw [List.mem_singleton.mp hx]; exact zup_same
    · rw [ld_step (by omega) hc (Or.inl rfl) ha z1 hwa z2]; exact oS _ _ _
    · rw [List.mem_singleton.mp hx]; exact zup_same
  · obtain ⟨z, z1, z2⟩ := h3 o (List.mem_singleton.mpr rfl)
    refine ⟨⟨said, wt0 + 2, ld_if (by omega) (by omega) hwo _, fun x hx => (by cases hx), fun _ _ => rfl, by omega, Nat.le_refl _, Or.inr ⟨o, rfl, ho', rfl, hwo⟩⟩, ⟨zup said o (nI (1048576 * 12 + cm)), ?_, fun x hx => (by cases hx), fun x hx => ?_, fun x _ hx => zup_ne (fun e => hx (List.mem_singleton.mpr e))⟩⟩
    · rw [ld_step (by omega) hc (Or.inr ⟨rfl, rfl⟩) ho' z1 hwo z2]; exact oS _ _ _
    · rw [List.mem_singleton.mp hx]; exact zup_same
  · obtain ⟨z, z1, z2⟩ := h2 a (List.mem_singleton.mpr rfl)
    obtain ⟨z', z3, z4⟩ := h3 o (List.mem_singleton.mpr rfl)
    have na : ∀ x, x ∉ ([a] : List Nat) → x ≠ a := fun x hx e => hx (List.mem_singleton.mpr e)
    refine ⟨⟨zup said a (nI (1048576 * 11 + cm)), wt0 + 2, ?_, fun x hx => ?_, fun x hx => zup_ne (na x hx), by omega, by omega, Or.inr ⟨o, rfl, ho', rfl, hwo⟩⟩, ⟨zup (zup said a (nI (1048576 * 11 + cm))) o (nI (1048576 * 12 + cm)), ?_, fun x hx => ?_, fun x hx => ?_, fun x hx hx2 => ?_⟩⟩
    · rw [ld_step (wt := wt0 + 1 + 1) (by omega) hc (Or.inl rfl) ha z1 hwa z2]
      exact ld_if (by omega) (by omega) hwo _
    · rw [List.mem_singleton.mp hx]; exact zup_same
    · rw [ld_step (wt := wt0 + 1 + 1) (by omega) hc (Or.inl rfl) ha z1 hwa z2, ld_step (wt := wt0 + 1) (by omega) hc (Or.inr ⟨rfl, rfl⟩) ho' z3 hwo (by rw [zup_ne (fun e => hao e.symm)]; exact z4)]
      exact oS _ _ _
    · rw [List.mem_singleton.mp hx, zup_ne hao]; exact zup_same
    · rw [List.mem_singleton.mp hx]; exact zup_same
    · rw [zup_ne (fun e => hx2 (List.mem_singleton.mpr e)), zup_ne (na x hx)]
/-- a bracket or a ! is opened -/
theorem tK_open (h : RT a1 a70) (hL : L ≤ 240) {said waits : Nat → Int32} {p y cm wt m : Nat} {F9 n0 : Int32} (hp : p < L) (hy : y < 6) (hwt : wt ≤ p) (hs : (sg a1 L p = 33 ∧ m = 10) ∨ (sg a1 L p = 40 ∧ m = 13)) : tK a70 L said waits p F9 n0 y cm wt = tK a70 L said (zup waits wt (nI (1048576 * m + 0))) (p + 1) F9 n0 (y + 1) cm (wt + 1) := by
  have e := d_here h (show L ≤ 260 by omega) (show p < 1000000 by omega)
  have em : ∀ k : Nat, (1048576 : Int32) * nI k = nI (1048576 * k + 0) := fun k => by rw [show (1048576 : Int32) = nI 1048576 from rfl, pk_mul]; rfl
  refine zlp_in ?_
  dsimp +instances only [f_md_readsCondition_40, b_md_readsCondition_40]
  rw [e.1, e.2]
  unfold g_md_opens w_md_opens a0_md_opens f0_md_opens f1_md_opens f2_md_opens f3_md_opens
  rw [show (6 : Int32) = nI 6 from rfl, nI_deq (by omega) (by omega), dF (show ¬ y = 6 by omega), nI_zin (by omega), dT (show wt < 260 by omega), nI_cl (by omega), nI_1, nI_1, nI_1]
  rcases hs with ⟨hs, rfl⟩ | ⟨hs, rfl⟩
  · rw [hs, show (10 : Int32) = nI 10 from rfl, em 10]; rfl
  · rw [hs, show (13 : Int32) = nI 13 from rfl, em 13]; rfl
theorem tK_seven (h : RT a1 a70) (hL : L ≤ 240) {said waits : Nat → Int32} {p cm wt : Nat} {F9 n0 : Int32} (hp : p < L) (hs : sg a1 L p = 33 ∨ sg a1 L p = 40) : tK a70 L said waits p F9 n0 6 cm wt = some (0, said, waits, nI p, f0_md_wrongAt 5 (nI p), n0, nI 6, nI cm, nI wt) := by
  have e := d_here h (show L ≤ 260 by omega) (show p < 1000000 by omega)
  refine zlp_out ?_
  dsimp +instances only [f_md_readsCondition_40, b_md_readsCondition_40]
  rw [e.1, e.2]
  rcases hs with hs | hs <;> rw [hs] <;> rfl
theorem tK_cmp (h : RT a1 a70) (hL : L ≤ 240) {said waits : Nat → Int32} {p y cm wt : Nat} {F9 n0 : Int32} (hp : p ≤ L) (h1 : ¬ sg a1 L p = 33) (h2 : ¬ sg a1 L p = 40) : tK a70 L said waits p F9 n0 y cm wt = zbd (q_md_readsCompared a70 said waits (nI p) (nI L) F9 n0 (nI y) (nI cm) (nI wt)) (fun v => bif !decide (v.1 = 0) then tL a70 L v.2.2.1 v.2.2.2.2.1 v.2.2.2.2.2.1 v.2.1 v.2.2.2.1 v.2.2.2.2.2.2.1 v.2.2.2.2.2.2.2.1 v.2.2.2.2.2.2.2.2 else some (0, v.2.1, v.2.2.1, v.2.2.2.1, v.2.2.2.2.1, v.2.2.2.2.2.1, v.2.2.2.2.2.2.1, v.2.2.2.2.2.2.2.1, v.2.2.2.2.2.2.2.2)) := by
  have e := d_here h (show L ≤ 260 by omega) (show p < 1000000 by omega)
  refine (zlp_bind _).trans ?_
  have fs : f_md_readsCondition_40 a70 (nI L) (said, waits, nI p, F9, n0, nI y, nI cm, nI wt) = zbd (q_md_readsCompared a70 said waits (nI p) (nI L) F9 n0 (nI y) (nI cm) (nI wt)) (fun v25 =>
    bif !decide ((v25.1) = 0) then
     l_md_readsCondition_92 a70 (nI L) ((v25.2.2.1)) ((v25.2.2.2.2.1)) ((v25.2.2.2.2.2.1)) ((v25.2.1)) ((v25.2.2.2.1)) ((v25.2.2.2.2.2.2.1)) ((v25.2.2.2.2.2.2.2.1)) ((v25.2.2.2.2.2.2.2.2))
    else
     some (.inr (0, ((v25.2.1)), ((v25.2.2.1)), (v25.2.2.2.1), (v25.2.2.2.2.1), (v25.2.2.2.2.2.1), (v25.2.2.2.2.2.2.1), (v25.2.2.2.2.2.2.2.1), (v25.2.2.2.2.2.2.2.2)))) := by
    dsimp +instances only [f_md_readsCondition_40, b_md_readsCondition_40]
    rw [e.1, e.2]
    dsimp +instances only [zl, zg]
    rw [dF h1, dF h2]
    rfl
  rw [fs]
  cases q_md_readsCompared a70 said waits (nI p) (nI L) F9 n0 (nI y) (nI cm) (nI wt) with
  | none => rfl
  | some v =>
    dsimp +instances only [zbd]
    cases decide (v.1 = 0) <;> rfl
end dtest
