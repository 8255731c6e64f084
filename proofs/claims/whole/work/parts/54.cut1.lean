/-! ===== D: breaks: visits of nodes, as both do them ===== -/
/-- who came by whom, the queue, how many -/
abbrev aS : Type := (Nat → Int32) × (Nat → Int32) × Nat
def aV (x y : Nat) (s : aS) : aS := if s.1 x = -1 then (zup s.1 x (nI y), zup s.2.1 s.2.2 (nI x), s.2.2 + 1) else s
theorem aV_new {x y : Nat} {s : aS} (h : s.1 x = -1) : aV x y s = (zup s.1 x (nI y), zup s.2.1 s.2.2 (nI x), s.2.2 + 1) := if_pos h
theorem aV_old {x y : Nat} {s : aS} (h : s.1 x ≠ -1) : aV x y s = s := if_neg h
def aG (s : aS) : Prop := s.2.2 = cnt (fun k => !decide (s.1 k = -1)) 192 ∧ (∀ k, k < 192 → s.1 k = -1 ∨ ∃ u, u < 192 ∧ s.1 k = nI u) ∧ (∀ i, i < s.2.2 → ∃ v, v < 192 ∧ s.2.1 i = nI v ∧ s.1 v ≠ -1)
theorem aG_le {s : aS} (h : aG s) : s.2.2 ≤ 192 := by rw [h.1]; exact cnt_le _ _
theorem nI_ne1' {d : Nat} (hd : d < 2147483648) : nI d ≠ -1 := nI_nem1 hd
theorem aG_lt {s : aS} (h : aG s) {x : Nat} (hx : x < 192) (hs : s.1 x = -1) : s.2.2 < 192 := by
  rw [h.1]
  exact cnt_lt hx (by rw [hs]; rfl)
theorem aV_good {s : aS} (h : aG s) {x y : Nat} (hx : x < 192) (hy : y < 192) : aG (aV x y s) := by
  by_cases hs : s.1 x = -1
  · rw [aV_new hs]
    refine ⟨?_, fun k hk => ?_, fun i hi => ?_⟩
    · have := cnt_upd (p := fun k => !decide (s.1 k = -1)) (q := fun k => !decide (zup s.1 x (nI y) k = -1)) hx (by simp only [hs]; rfl) (by simp only [zup_same, dF (nI_ne1' (d := y) (by omega))]; rfl) (fun i _ hn => by simp only [zup_ne hn])
      show s.2.2 + 1 = _
      rw [this, ← h.1]
    · show zup s.1 x (nI y) k = -1 ∨ _
      by_cases e : k = x
      · subst e; exact Or.inr ⟨y, hy, zup_same⟩
      · rw [zup_ne e]
        rcases h.2.1 k hk with q | ⟨u, q1, q2⟩
        · exact Or.inl q
        · exact Or.inr ⟨u, q1, by show zup s.1 x (nI y) k = _; rw [zup_ne e]; exact q2⟩
    · show ∃ v, v < 192 ∧ zup s.2.1 s.2.2 (nI x) i = nI v ∧ zup s.1 x (nI y) v ≠ -1
      by_cases e : i = s.2.2
      · subst e
        exact ⟨x, hx, zup_same, by rw [zup_same]; exact nI_ne1' (by omega)⟩
      · have hi : i < s.2.2 + 1 := hi
        obtain ⟨v, q1, q2, q3⟩ := h.2.2 i (by omega)
        refine ⟨v, q1, by rw [zup_ne e]; exact q2, ?_⟩
        by_cases ev : v = x
        · subst ev; exact absurd hs q3
        · rw [zup_ne ev]; exact q3
  · rw [aV_old hs]; exact h
theorem d_cuVisit {s : aS} (h : aG s) {x y : Nat} (hx : x < 192) : g_cu_visit (nI x) (nI y) s.1 (nI s.2.2) s.2.1 = true ∧ a0_cu_visit (nI x) (nI y) s.1 (nI s.2.2) s.2.1 = (aV x y s).1 ∧ a1_cu_visit (nI x) (nI y) s.1 (nI s.2.2) s.2.1 = (aV x y s).2.1 ∧ f0_cu_visit (nI x) (nI y) s.1 (nI s.2.2) s.2.1 = nI (aV x y s).2.2 := by
  have hle := aG_le h
  unfold g_cu_visit a0_cu_visit a1_cu_visit f0_cu_visit
  rw [nI_zin (by omega), dT hx, nI_cl (by omega)]
  rcases h.2.1 x hx with e | ⟨u, hu, e⟩
  · have hlt := aG_lt h hx e
    rw [aV_new e, e, show (192 : Int32) = nI 192 from rfl, nI_dle (by omega) (by omega), dF (show ¬ 192 ≤ s.2.2 by omega), nI_zin (by omega), dT hlt, nI_cl (by omega), nI_1]
    exact ⟨rfl, rfl, rfl, rfl⟩
  · rw [aV_old (by rw [e]; exact nI_ne1' (by omega)), e, nI_nn (by omega)]
    exact ⟨rfl, rfl, rfl, rfl⟩
theorem d_mdVisit {s : aS} (h : aG s) {x y : Nat} (hx : x < 192) : g_md_visits (nI x) (nI y) s.1 (nI s.2.2) s.2.1 = true ∧ a0_md_visits (nI x) (nI y) s.1 (nI s.2.2) s.2.1 = (aV x y s).1 ∧ a1_md_visits (nI x) (nI y) s.1 (nI s.2.2) s.2.1 = (aV x y s).2.1 ∧ f0_md_visits (nI x) (nI y) s.1 (nI s.2.2) s.2.1 = nI (aV x y s).2.2 := by
  have hle := aG_le h
  unfold g_md_visits a0_md_visits a1_md_visits f0_md_visits
  rw [nI_zin (by omega), dT hx, nI_cl (by omega)]
  rcases h.2.1 x hx with e | ⟨u, hu, e⟩
  · have hlt := aG_lt h hx e
    rw [aV_new e, e, nI_zin (by omega), dT hlt, nI_cl (by omega), nI_1]
    exact ⟨rfl, rfl, rfl, rfl⟩
  · rw [aV_old (by rw [e]; exact nI_ne1' (by omega)), e, nI_nm1 (by omega)]
    exact ⟨rfl, rfl, rfl, rfl⟩
/-- many visits, all from y -/
def aF (y : Nat) (l : List Nat) (s : aS) : aS := l.foldl (fun s x => aV x y s) s
theorem aF_app (y : Nat) (l m : List Nat) (s : aS) : aF y (l ++ m) s = aF y m (aF y l s) := List.foldl_append
theorem aF_good {y : Nat} (hy : y < 192) : ∀ {l : List Nat} {s : aS}, aG s → (∀ x ∈ l, x < 192) → aG (aF y l s)
  | [], _, h, _ => h
  | x :: l, _, h, hl => aF_good hy (l := l) (aV_good h (hl x List.mem_cons_self) hy) (fun z hz => hl z (List.mem_cons_of_mem _ hz))
/-- what is known stays -/
def aX (s s' : aS) : Prop := s.2.2 ≤ s'.2.2 ∧ (∀ k, s.1 k ≠ -1 → s'.1 k = s.1 k) ∧ (∀ i, i < s.2.2 → s'.2.1 i = s.2.1 i)
theorem aX_refl (s : aS) : aX s s := ⟨Nat.le_refl _, fun _ _ => rfl, fun _ _ => rfl⟩
theorem aX_tr {s s' s'' : aS} (h : aX s s') (h' : aX s' s'') : aX s s'' := ⟨Nat.le_trans h.1 h'.1, fun k hk => by rw [h'.2.1 k (by rw [h.2.1 k hk]; exact hk), h.2.1 k hk], fun i hi => by rw [h'.2.2 i (Nat.lt_of_lt_of_le hi h.1), h.2.2 i hi]⟩
theorem aV_X (x y : Nat) (s : aS) : aX s (aV x y s) := by
  by_cases hs : s.1 x = -1
  · rw [aV_new hs]
    refine ⟨Nat.le_succ _, fun k hk => ?_, fun i hi => ?_⟩
    · show zup s.1 x (nI y) k = s.1 k
      rw [zup_ne (fun e => hk (by rw [e]; exact hs))]
    · show zup s.2.1 s.2.2 (nI x) i = s.2.1 i
      rw [zup_ne (by omega)]
  · rw [aV_old hs]; exact aX_refl s
theorem aF_X (y : Nat) : ∀ (l : List Nat) (s : aS), aX s (aF y l s)
  | [], s => aX_refl s
  | x :: l, s => aX_tr (aV_X x y s) (aF_X y l (aV x y s))
/-! the nodes beside a node: 0 to 95 a way in, 96 to 191 a way out -/
def nbo (w : Nat) : Nat := if w = 0 then 2 else if w = 1 then 3 else if w = 2 then 0 else 1
theorem nb_opp : ∀ k, k < 96 → ∀ w, w < 4 → nb k w ≠ 200 → nb (nb k w) (nbo w) = k ∧ nbo w < 4 := by decide +kernel
theorem nb_inj : ∀ k, k < 96 → ∀ w, w < 4 → ∀ w', w' < 4 → nb k w ≠ 200 → nb k w = nb k w' → w = w' := by decide +kernel
theorem nb_ne : ∀ k, k < 96 → ∀ w, w < 4 → nb k w ≠ k := by decide +kernel
def cw (kd A : Nat → Int32) (p w : Nat) : List Nat := bif !decide (nb p w = 200) && (decide (kd (nb p w) = 1) && decide (A (4 * p + w) = 0)) then [nb p w] else []
def cws (kd A : Nat → Int32) (p : Nat) : Nat → List Nat
  | 0 => []
  | w + 1 => cws kd A p w ++ cw kd A p w
def cO (kd T A : Nat → Int32) (p : Nat) : List Nat := cws kd A p 4 ++ (bif decide (T p = 0) then [] else [p])
def ew (kd A : Nat → Int32) (p w : Nat) : List Nat := bif !decide (nb p w = 200) && (decide (kd (nb p w) = 1) && !decide (A (4 * nb p w + nbo w) = 0)) then [96 + nb p w] else []
def ews (kd A : Nat → Int32) (p : Nat) : Nat → List Nat
  | 0 => []
  | w + 1 => ews kd A p w ++ ew kd A p w
def cI (kd T A : Nat → Int32) (p : Nat) : List Nat := (bif decide (T p = 0) then [96 + p] else []) ++ ews kd A p 4
theorem cw_lt {kd A : Nat → Int32} {p w : Nat} (hp : p < 96) : ∀ x ∈ cw kd A p w, x < 96 := by
  intro x hx
  unfold cw at hx
  by_cases h : nb p w = 200
  · rw [dT h] at hx; cases hx
  · have := nb_lt hp h
    rw [dF h] at hx
    cases hc : (decide (kd (nb p w) = 1) && decide (A (4 * p + w) = 0)) with
    | true => rw [hc] at hx; rw [List.mem_singleton.mp hx]; exact this
    | false => rw [hc] at hx; cases hx
theorem cws_lt {kd A : Nat → Int32} {p : Nat} (hp : p < 96) : ∀ (w : Nat), ∀ x ∈ cws kd A p w, x < 96
  | 0, x, hx => by cases hx
  | w + 1, x, hx => by
    rcases List.mem_append.mp hx with h | h
    · exact cws_lt hp w x h
    · exact cw_lt hp x h
theorem ew_lt {kd A : Nat → Int32} {p w : Nat} (hp : p < 96) : ∀ x ∈ ew kd A p w, x < 192 := by
  intro x hx
  unfold ew at hx
  by_cases h : nb p w = 200
  · rw [dT h] at hx; cases hx
  · have := nb_lt hp h
    rw [dF h] at hx
    cases hc : (decide (kd (nb p w) = 1) && !decide (A (4 * nb p w + nbo w) = 0)) with
    | true => rw [hc] at hx; rw [List.mem_singleton.mp hx]; omega
    | false => rw [hc] at hx; cases hx
theorem ews_lt {kd A : Nat → Int32} {p : Nat} (hp : p < 96) : ∀ (w : Nat), ∀ x ∈ ews kd A p w, x < 192
  | 0, x, hx => by cases hx
  | w + 1, x, hx => by
    rcases List.mem_append.mp hx with h | h
    · exact ews_lt hp w x h
    · exact ew_lt hp x h
theorem cO_lt {kd T A : Nat → Int32} {p : Nat} (hp : p < 96) : ∀ x ∈ cO kd T A p, x < 192 := by
  intro x hx
  rcases List.mem_append.mp hx with h | h
  · have := cws_lt hp 4 x h; omega
  · cases hT : decide (T p = 0) with
    | true => rw [hT] at h; cases h
    | false => rw [hT] at h; rw [List.mem_singleton.mp h]; omega
theorem cI_lt {kd T A : Nat → Int32} {p : Nat} (hp : p < 96) : ∀ x ∈ cI kd T A p, x < 192 := by
  intro x hx
  rcases List.mem_append.mp hx with h | h
  · cases hT : decide (T p = 0) with
    | true => rw [hT] at h; rw [List.mem_singleton.mp h]; omega
    | false => rw [hT] at h; cases h
  · exact ews_lt hp 4 x h
theorem aF_one (y x : Nat) (s : aS) : aF y [x] s = aV x y s := rfl
theorem d_leave {kd T A : Nat → Int32} {p : Nat} (hp : p < 96) {s : aS} (h : aG s) : q_cu_leave (nI p) kd T A s.1 s.2.1 (nI s.2.2) = some ((aF (96 + p) (cO kd T A p) s).1, (aF (96 + p) (cO kd T A p) s).2.1, nI (aF (96 + p) (cO kd T A p) s).2.2) := by
  obtain ⟨r, h1, rfl⟩ := zlp_one (f := f_cu_leave_2 (nI p) kd T A) (fun m t => ∃ w, w + m = 4 ∧ t = (nI w, (aF (96 + p) (cws kd A p w) s).1, (aF (96 + p) (cws kd A p w) s).2.1, nI (aF (96 + p) (cws kd A p w) s).2.2)) (fun r => r = ((aF (96 + p) (cO kd T A p) s).1, (aF (96 + p) (cO kd T A p) s).2.1, nI (aF (96 + p) (cO kd T A p) s).2.2)) (by
    rintro m t ⟨w, hw, rfl⟩
    have hG := aF_good (y := 96 + p) (by omega) h (l := cws kd A p w) (fun x hx => by have := cws_lt hp w x hx; omega)
    dsimp +instances only [f_cu_leave_2, b_cu_leave_2]
    have e96 : (96 : Int32) + nI p = nI (96 + p) := nI_add 96 p
    rw [e96]
    by_cases hw4 : w = 4
    · right
      subst hw4
      have hv := d_cuVisit hG (x := p) (y := 96 + p) (by omega)
      rw [show decide ((4 : Int32) ≤ nI 4) = true from rfl, cTt, nI_zin (by omega), dT hp, nI_cl (by omega)]
      unfold cO
      rw [aF_app]
      dsimp +instances only [zg, zl]
      cases decide (T p = 0) with
      | true => exact ⟨_, rfl, rfl⟩
      | false =>
        rw [hv.1, hv.2.1, hv.2.2.1, hv.2.2.2]
        exact ⟨_, rfl, rfl⟩
    · left
      have e4 : decide ((4 : Int32) ≤ nI w) = false := by rw [show (4 : Int32) = nI 4 from rfl, nI_dle (by omega) (by omega)]; exact dF (by omega)
      refine ⟨m - 1, (nI (w + 1), (aF (96 + p) (cws kd A p (w + 1)) s).1, (aF (96 + p) (cws kd A p (w + 1)) s).2.1, nI (aF (96 + p) (cws kd A p (w + 1)) s).2.2), by omega, ?_, w + 1, by omega, rfl⟩
      have ec : aF (96 + p) (cws kd A p (w + 1)) s = aF (96 + p) (cw kd A p w) (aF (96 + p) (cws kd A p w) s) := aF_app _ _ _ _
      rw [e4, cFf, (d_next p hp w (by omega)).1, ec]
      generalize aF (96 + p) (cws kd A p w) s = z at hG
      dsimp +instances only [zl]
      unfold cw
      rcases nbI_cases (w := w) hp with ⟨e, e2⟩ | ⟨e, hv⟩
      · rw [e, e2, dT (rfl : 200 = 200), nI_1]
        rfl
      · have ne : nb p w ≠ 200 := by omega
        have hV := d_cuVisit hG (x := nb p w) (y := 96 + p) (by omega)
        rw [e, dF ne, nI_neg (by omega), cFf, nI_zin (by omega), dT hv, nI_cl (by omega), show (4 : Int32) * nI p + nI w = nI (4 * p + w) from by rw [show (4 : Int32) = nI 4 from rfl, pk_mul, nI_add], nI_zin (by omega), dT (show 4 * p + w < 384 by omega), nI_cl (by omega), nI_1]
        dsimp +instances only [zg]
        rw [hV.1, hV.2.1, hV.2.2.1, hV.2.2.2]
        cases decide (kd (nb p w) = 1) with
        | false => rfl
        | true =>
          cases decide (A (4 * p + w) = 0) with
          | false => rfl
          | true => rfl) 4 (0, s.1, s.2.1, nI s.2.2) ⟨0, by omega, rfl⟩
  exact h1
theorem rem4 : ∀ w, w < 4 → (nI w + 2) - (nI w + 2) / 4 * 4 = nI (nbo w) := by decide +kernel
theorem d_enter {kd T A : Nat → Int32} {p : Nat} (hp : p < 96) {s : aS} (h : aG s) : q_cu_enter (nI p) kd T A s.1 s.2.1 (nI s.2.2) = some ((aF p (cI kd T A p) s).1, (aF p (cI kd T A p) s).2.1, nI (aF p (cI kd T A p) s).2.2) := by
  have key : ∀ z : aS, aG z → l_cu_enter_20 (nI p) kd A 0 z.1 z.2.1 (nI z.2.2) = some ((aF p (ews kd A p 4) z).1, (aF p (ews kd A p 4) z).2.1, nI (aF p (ews kd A p 4) z).2.2) := by
    intro s h
    obtain ⟨r, h1, rfl⟩ := zlp_one (f := f_cu_enter_20 (nI p) kd A) (fun m t => ∃ w, w + m = 4 ∧ t = (nI w, (aF p (ews kd A p w) s).1, (aF p (ews kd A p w) s).2.1, nI (aF p (ews kd A p w) s).2.2)) (fun r => r = ((aF p (ews kd A p 4) s).1, (aF p (ews kd A p 4) s).2.1, nI (aF p (ews kd A p 4) s).2.2)) (by
      rintro m t ⟨w, hw, rfl⟩
      have hG := aF_good (y := p) (by omega) h (l := ews kd A p w) (ews_lt hp w)
      dsimp +instances only [f_cu_enter_20, b_cu_enter_20]
      by_cases hw4 : w = 4
      · right
        subst hw4
        exact ⟨_, rfl, rfl⟩
      · left
        have e4 : decide ((4 : Int32) ≤ nI w) = false := by rw [show (4 : Int32) = nI 4 from rfl, nI_dle (by omega) (by omega)]; exact dF (by omega)
        refine ⟨m - 1, (nI (w + 1), (aF p (ews kd A p (w + 1)) s).1, (aF p (ews kd A p (w + 1)) s).2.1, nI (aF p (ews kd A p (w + 1)) s).2.2), by omega, ?_, w + 1, by omega, rfl⟩
        have ec : aF p (ews kd A p (w + 1)) s = aF p (ew kd A p w) (aF p (ews kd A p w) s) := aF_app _ _ _ _
        rw [e4, cFf, (d_next p hp w (by omega)).1, ec, rem4 w (by omega)]
        generalize aF p (ews kd A p w) s = z at hG
        dsimp +instances only [zl]
        unfold ew
        rcases nbI_cases (w := w) hp with ⟨e, e2⟩ | ⟨e, hv⟩
        · rw [e, e2, dT (rfl : 200 = 200), nI_1]
          rfl
        · have ne : nb p w ≠ 200 := by omega
          have ho := (nb_opp p hp w (by omega) ne).2
          have hV := d_cuVisit hG (x := 96 + nb p w) (y := p) (by omega)
          rw [e, dF ne, nI_neg (by omega), cFf, nI_zin (by omega), dT hv, nI_cl (by omega), show (4 : Int32) * nI (nb p w) + nI (nbo w) = nI (4 * nb p w + nbo w) from by rw [show (4 : Int32) = nI 4 from rfl, pk_mul, nI_add], show (96 : Int32) + nI (nb p w) = nI (96 + nb p w) from nI_add 96 _, nI_zin (by omega), dT (show 4 * nb p w + nbo w < 384 by omega), nI_cl (by omega), nI_1]
          dsimp +instances only [zg]
          rw [hV.1, hV.2.1, hV.2.2.1, hV.2.2.2]
          cases decide (kd (nb p w) = 1) with
          | false => rfl
          | true =>
            cases decide (A (4 * nb p w + nbo w) = 0) with
            | false => rfl
            | true => rfl) 4 (0, s.1, s.2.1, nI s.2.2) ⟨0, by omega, rfl⟩
    exact h1
  unfold q_cu_enter cI
  rw [nI_zin (by omega), dT hp, nI_cl (by omega), show (96 : Int32) + nI p = nI (96 + p) from nI_add 96 p, aF_app]
  dsimp +instances only [zg, zl]
  have hV := d_cuVisit h (x := 96 + p) (y := p) (by omega)
  rw [hV.1, hV.2.1, hV.2.2.1, hV.2.2.2, key _ h, key _ (aV_good h (by omega) (by omega))]
  cases decide (T p = 0) with
  | true => rfl
  | false => rfl
