/-! ===== the two constructors ===== -/
section zstE
variable {α β : Type} {a : α} {b : β}
theorem zcall_E {E E2 : Nat → List Value → zH → Option zO} (hE : ∀ u args h o, E u args h = some o → E2 u args h = some o) {hp : zH} {st : List Value} {u n : Nat} {f : Option Value → List Value → zH → Option α} {g : Option Value → List Value → zH → Option β} (h : zcall E hp st u n f = some a) (k : ∀ x y z, f x y z = some a → g x y z = some b) : zcall E2 hp st u n g = some b := by
  unfold zcall at h ⊢
  refine zg_nat h (fun h => ?_)
  unfold ze at h
  split at h
  next q hq =>
    rw [hE u _ hp q hq]
    exact k _ _ _ h
  next => cases h
set_option maxHeartbeats 4000000 in
theorem zst_E {X : Nat × (Nat → Int32)} {FT : Nat → Nat → Nat} {E E2 : Nat → List Value → zH → Option zO} (hE : ∀ u args h o, E u args h = some o → E2 u args h = some o) {q : zQ} {pc : Nat} {lv st : List Value} {h : zH} {k : Nat → List Value → List Value → zH → Option α} {ret : Option Value → zH → Option α} {k' : Nat → List Value → List Value → zH → Option β} {ret' : Option Value → zH → Option β}
    (hs : zst X FT E q pc lv st h k ret = some a) (hk : ∀ pc lv st h, k pc lv st h = some a → k' pc lv st h = some b) (hr : ∀ r h, ret r h = some a → ret' r h = some b) : zst X FT E2 q pc lv st h k' ret' = some b := by
  obtain ⟨i, len, r1, r2, x, sw, tr⟩ := q
  cases i <;> dsimp only [zst] at hs ⊢ <;>
    first
    | (cases hs; done)
    | exact hk _ _ _ _ hs
    | exact zi1_nat hs (fun _ _ hs => zsto_nat hs (fun _ hs => hk _ _ _ _ hs))
    | exact za1_nat hs (fun _ _ hs => zsto_nat hs (fun _ hs => hk _ _ _ _ hs))
    | exact zi2_nat hs (fun _ _ _ hs => hk _ _ _ _ hs)
    | exact zi2_nat hs (fun _ _ _ hs => zg_nat hs (hk _ _ _ _))
    | exact zi2_nat hs (fun _ _ _ hs => zb_nat hs (hk _ _ _ _) (hk _ _ _ _))
    | exact zi1_nat hs (fun _ _ hs => hk _ _ _ _ hs)
    | exact zi1_nat hs (fun _ _ hs => zg_nat hs (hk _ _ _ _))
    | exact zi1_nat hs (fun _ _ hs => zb_nat hs (hk _ _ _ _) (hk _ _ _ _))
    | exact zi1_nat hs (fun _ _ hs => zsw_nat (fun _ hs => hk _ _ _ _ hs) hs)
    | exact zb_nat hs (hk _ _ _ _) (hk _ _ _ _)
    | exact zlv_nat hs (fun _ hs => zvi_nat hs (fun _ hs => hk _ _ _ _ hs))
    | exact zlv_nat hs (fun _ hs => zva_nat hs (fun _ hs => hk _ _ _ _ hs))
    | exact zlv_nat hs (fun _ hs => zvi_nat hs (fun _ hs => zsto_nat hs (fun _ hs => hk _ _ _ _ hs)))
    | exact za1_nat hs (fun _ _ hs => zsh_nat hs (fun _ _ hs => zg_nat hs (hk _ _ _ _)))
    | exact zald_nat hs (fun _ _ hs => hk _ _ _ _ hs)
    | exact zast_nat hs (fun _ _ hs => hk _ _ _ _ hs)
    | exact zlen_nat hs (fun _ _ hs => hk _ _ _ _ hs)
    | exact zb_nat hs (fun hs => za1_nat hs (fun _ _ hs => zg_nat hs (hk _ _ _ _))) (fun hs => zrecv1_nat hs (fun hs => zcall_E hE hs (fun _ _ _ hs => hk _ _ _ _ hs)))
    | exact zb_nat hs (fun hs => zcopy_nat hs (fun _ _ hs => hk _ _ _ _ hs)) (fun hs => zb_nat hs (fun hs => zmath_nat hs (fun _ _ hs => hk _ _ _ _ hs)) (fun hs => zcall_E hE hs (fun _ _ _ hs => hk _ _ _ _ hs)))
    | exact zb_nat hs (fun hs => zixof_nat hs (fun _ _ hs => hk _ _ _ _ hs)) (fun hs => zrecv_nat hs (fun hs => zcall_E hE hs (fun _ _ _ hs => hk _ _ _ _ hs)))
    | (split at hs <;> first | (cases hs; done) | exact zg_nat hs (hk _ _ _ _) | exact zg_nat hs (hr _ _) | exact hr _ _ hs | exact zsh_nat hs (fun _ _ hs => zg_nat hs (fun hs => zput_nat hs (fun _ hs => hk _ _ _ _ hs))))
end zstE
theorem zrun_E {X : Nat × (Nat → Int32)} {FT : Nat → Nat → Nat} {E E2 : Nat → List Value → zH → Option zO} (hE : ∀ u args h o, E u args h = some o → E2 u args h = some o) {c : List (Nat × zQ)} {o : zO} : ∀ (n pc : Nat) (lv st : List Value) (h : zH), zrun X FT E c n pc lv st h = some o → zrun X FT E2 c n pc lv st h = some o := by
  intro n
  induction n with
  | zero => intro _ _ _ _ h; cases h
  | succ n ih =>
    intro pc lv st h hn
    unfold zrun at hn ⊢
    cases hq : zfind c pc with
    | none => rw [hq] at hn; cases hn
    | some q =>
      rw [hq] at hn
      exact zst_E hE hn (fun _ _ _ _ h => ih _ _ _ _ h) (fun _ _ h => h)
/-- calls run out -/
def zexc (X : Nat × (Nat → Int32)) : Nat → Nat → List Value → zH → Option zO
  | 0, _, _, _ => none
  | d + 1, u, args, h => zrun X zFT (zexc X d) (zC u) 400 0 args [] h
theorem zexc_ok {X : Nat × (Nat → Int32)} : ∀ (d u : Nat) (args : List Value) (h : zH) (o : zO), zexc X d u args h = some o → ∀ d', d ≤ d' → zex X zFT zC d' u args h = some o
  | 0, _, _, _, _, h => by cases h
  | d + 1, u, args, hp, o, h => by
    intro d' hd
    obtain ⟨d', rfl⟩ : ∃ q, d' = q + 1 := ⟨d' - 1, by omega⟩
    exact zex_of ⟨400, zrun_E (fun u args h o he => zexc_ok d u args h o he d' (by omega)) 400 0 args [] hp h⟩
def zdv : Nat → Value
  | 0 => .null
  | n + 1 => .ref n
def zsV (F : Nat → Nat → Value) (q : Nat × Nat × Nat) : Nat → Nat → Value := bif Nat.beq q.2.1 1000 then zup F q.1 (fun _ => .null) else zup F q.1 (zup (F q.1) q.2.1 (zdv q.2.2))
def zsN (F : Nat → Nat → Nat) (q : Nat × Nat × Nat) : Nat → Nat → Nat := bif Nat.beq q.2.1 1000 then zup F q.1 (fun _ => 0) else zup F q.1 (zup (F q.1) q.2.1 q.2.2)
def zLg : List (Nat × Nat × Nat) := [(0, 1000, 0), (0, 0, 2), (2, 1000, 0), (2, 0, 4), (2, 1, 5), (2, 2, 6), (2, 3, 7), (2, 4, 8), (2, 5, 9), (0, 2, 3), (9, 1000, 0), (9, 0, 11), (9, 1, 12), (9, 2, 13), (9, 3, 14), (9, 4, 15), (9, 5, 16), (0, 3, 10), (16, 1000, 0), (16, 0, 18), (16, 1, 19), (16, 2, 20), (16, 3, 21), (16, 4, 22), (16, 5, 23), (0, 4, 17), (23, 1000, 0), (23, 0, 25), (23, 1, 26), (23, 2, 27), (23, 3, 28), (23, 4, 29), (23, 5, 30), (23, 6, 31), (0, 6, 24), (31, 1000, 0), (31, 0, 33), (31, 1, 34), (31, 2, 35), (31, 3, 36), (31, 4, 37), (31, 5, 38), (31, 6, 39), (0, 7, 32), (39, 1000, 0), (40, 1000, 0), (40, 0, 42), (39, 0, 41), (0, 8, 40), (42, 1000, 0), (42, 0, 44), (44, 1000, 0), (44, 0, 46), (42, 1, 45), (0, 9, 43), (46, 1000, 0), (47, 1000, 0), (47, 0, 49), (46, 0, 48), (0, 10, 47), (49, 1000, 0), (49, 0, 51), (49, 1, 52), (0, 11, 50), (52, 1000, 0), (52, 0, 54), (52, 2, 55), (52, 4, 56), (52, 5, 57), (0, 12, 53), (57, 1000, 0), (57, 0, 59), (57, 1, 60), (57, 2, 61), (57, 3, 62), (0, 13, 58), (62, 1000, 0), (62, 0, 64), (0, 14, 63), (64, 1000, 0), (64, 0, 66), (64, 1, 67), (64, 2, 68), (64, 3, 69), (64, 4, 70), (64, 5, 71), (64, 16, 72), (64, 17, 73), (64, 18, 74), (64, 19, 75), (64, 20, 76), (64, 21, 77), (64, 22, 78), (64, 23, 79), (64, 24, 80), (64, 25, 81), (64, 26, 82), (64, 27, 83), (64, 28, 84), (64, 29, 85), (64, 33, 86), (64, 35, 87), (64, 36, 88), (64, 37, 89), (64, 38, 90), (64, 39, 91), (64, 41, 92), (64, 42, 93), (64, 43, 94), (64, 44, 95)]
def zTb : List (List Nat) := [[2, 0, 3, 10, 17, 0, 24, 32, 40, 43, 47, 50, 53, 58, 63], [], [4, 5, 6, 7, 8, 9, 0, 0, 0, 0, 0], [], [], [], [], [], [], [11, 12, 13, 14, 15, 16, 0, 0, 0, 0, 0], [], [], [], [], [], [], [18, 19, 20, 21, 22, 23, 0, 0, 0, 0, 0], [], [], [], [], [], [], [25, 26, 27, 28, 29, 30, 31, 0, 0, 0], [], [], [], [], [], [], [], [33, 34, 35, 36, 37, 38, 39, 0, 0, 0], [], [], [], [], [], [], [], [41], [42, 0, 0, 0, 0], [], [44, 45], [], [46, 0, 0, 0, 0], [], [48], [49, 0, 0, 0, 0], [], [51, 52], [], [], [54, 0, 55, 0, 56, 57], [], [], [], [], [59, 60, 61, 62, 0], [], [], [], [], [64], [], [66, 67, 68, 69, 70, 71, 0, 0, 0, 0, 0, 0, 0, 0, 0, 0, 72, 73, 74, 75, 76, 77, 78, 79, 80, 81, 82, 83, 84, 85, 0, 0, 0, 86, 0, 87, 88, 89, 90, 91, 0, 92, 93, 94, 95, 0], [], [], [], [], [], [], [], [], [], [], [], [], [], [], [], [], [], [], [], [], [], [], [], [], [], [], [], [], [], []]
def AR0 : Nat → Nat → Int32 := (zuf (zup (zup (zup (zup (zup (zup (zup (zup (zup (zup (zup (zup (zup (zup (zup (zup (zup (zup (zup (zup (zup (zup (zup (zup (zup (zup (zup (zup (zup (zup (zup (zup (zup (zup (zup (zup (zup (zup (zup (zup (zup (zup (zup (zup (zup (zup (zup (zup (zup (zup (zup (zup (zup (zup (zup (zup (zup (zup (zup (zup (zup (zup (zup (zup (zup (zup (zup (zup (zup (zup (zup (zup (zup (zup (zup (zup (zup (zup (fun _ _ => 0) 1 (fun _ => 0)) 3 (fun _ => 0)) 4 (fun _ => 0)) 5 (fun _ => 0)) 6 (fun _ => 0)) 7 (fun _ => 0)) 8 (fun _ => 0)) 10 (fun _ => 0)) 11 (fun _ => 0)) 12 (fun _ => 0)) 13 (fun _ => 0)) 14 (fun _ => 0)) 15 (fun _ => 0)) 17 (fun _ => 0)) 18 (fun _ => 0)) 19 (fun _ => 0)) 20 (fun _ => 0)) 21 (fun _ => 0)) 22 (fun _ => 0)) 24 (fun _ => 0)) 25 (fun _ => 0)) 26 (fun _ => 0)) 27 (fun _ => 0)) 28 (fun _ => 0)) 29 (fun _ => 0)) 30 (fun _ => 0)) 32 (fun _ => 0)) 33 (fun _ => 0)) 34 (fun _ => 0)) 35 (fun _ => 0)) 36 (fun _ => 0)) 37 (fun _ => 0)) 38 (fun _ => 0)) 41 (fun _ => 0)) 43 (fun _ => 0)) 45 (fun _ => 0)) 48 (fun _ => 0)) 50 (fun _ => 0)) 51 (fun _ => 0)) 53 (fun _ => 0)) 54 (fun _ => 0)) 55 (fun _ => 0)) 56 (fun _ => 0)) 58 (fun _ => 0)) 59 (fun _ => 0)) 60 (fun _ => 0)) 61 (fun _ => 0)) 63 (fun _ => 0)) 65 (fun _ => 0)) 66 (fun _ => 0)) 67 (fun _ => 0)) 68 (fun _ => 0)) 69 (fun _ => 0)) 70 (fun _ => 0)) 71 (fun _ => 0)) 72 (fun _ => 0)) 73 (fun _ => 0)) 74 (fun _ => 0)) 75 (fun _ => 0)) 76 (fun _ => 0)) 77 (fun _ => 0)) 78 (fun _ => 0)) 79 (fun _ => 0)) 80 (fun _ => 0)) 81 (fun _ => 0)) 82 (fun _ => 0)) 83 (fun _ => 0)) 84 (fun _ => 0)) 85 (fun _ => 0)) 86 (fun _ => 0)) 87 (fun _ => 0)) 88 (fun _ => 0)) 89 (fun _ => 0)) 90 (fun _ => 0)) 91 (fun _ => 0)) 92 (fun _ => 0)) 93 (fun _ => 0)) 94 (fun _ => 0)) 65 314 1)
def FI0 : Nat → Nat → Int32 := (zup (zup (zuf (zup (zuf (zuf (zup (zup (zuf (zuf (zuf (zuf (zup (zup (zuf (zuf (zuf (zuf (zup (zup (zuf (zuf (zuf (zuf (zup (zup (zuf (zuf (zuf (zup (zuf (zuf (zuf (zup (zuf (zuf (zuf (zuf (zuf (zuf (zup (zuf (zuf (zuf (zuf (zuf (zup (zuf (zuf (zuf (zuf (zuf (zup (zuf (zup (fun _ _ => 0) 0 (fun _ => 0)) 0 1 0) 2 (fun _ => 0)) 2 6 0) 2 7 0) 2 8 0) 2 9 0) 2 10 1) 9 (fun _ => 0)) 9 6 0) 9 7 0) 9 8 0) 9 9 0) 9 10 1) 16 (fun _ => 0)) 16 6 0) 16 7 0) 16 8 0) 16 9 0) 16 10 1) 0 5 0) 23 (fun _ => 0)) 23 7 0) 23 8 0) 23 9 0) 31 (fun _ => 0)) 31 7 0) 31 8 0) 31 9 0) 39 (fun _ => 0)) 40 (fun _ => 0)) 40 1 0) 40 2 0) 40 3 0) 40 4 0) 42 (fun _ => 0)) 44 (fun _ => 0)) 44 1 0) 44 2 0) 44 3 0) 44 4 0) 46 (fun _ => 0)) 47 (fun _ => 0)) 47 1 0) 47 2 0) 47 3 0) 47 4 0) 49 (fun _ => 0)) 52 (fun _ => 0)) 52 1 0) 52 3 0) 57 (fun _ => 0)) 57 4 0) 62 (fun _ => 0)) 64 (fun _ => 0))
def RF0 : Nat → Nat → Value := zLg.foldl zsV (fun _ _ => .null)
set_option maxRecDepth 100000 in
set_option maxHeartbeats 4000000 in
theorem ct_run {X : Nat × (Nat → Int32)} (n : Nat) : zrun X zFT (zexc X 5) zc_249 (n + 10) 0 [.float 0] [] zh0 = zrun X zFT (zexc X 5) zc_249 n 18 [.float 0, .ref 0, .ref 64, .int 0] [] (SH, AR0, FI0, RF0) := rfl
theorem zsV_N {F : Nat → Nat → Nat} {q : Nat × Nat × Nat} : zsV (fun a k => zdv (F a k)) q = fun a k => zdv (zsN F q a k) := by
  unfold zsV zsN
  cases Nat.beq q.2.1 1000 with
  | true =>
    funext a k
    by_cases h : a = q.1
    · subst h; simp only [cond_true, zup_same]; rfl
    · simp only [cond_true, zup_ne h]
  | false =>
    funext a k
    by_cases h : a = q.1
    · subst h
      simp only [cond_false, zup_same]
      by_cases hk : k = q.2.1
      · subst hk; simp only [zup_same]
      · simp only [zup_ne hk]
    · simp only [cond_false, zup_ne h]
theorem zsV_fold : ∀ (l : List (Nat × Nat × Nat)) (F : Nat → Nat → Nat), l.foldl zsV (fun a k => zdv (F a k)) = fun a k => zdv (l.foldl zsN F a k)
  | [], _ => rfl
  | q :: l, F => by
    rw [List.foldl_cons, List.foldl_cons, zsV_N]
    exact zsV_fold l _
theorem zsN_out {a k : Nat} (h : 95 ≤ a ∨ 46 ≤ k) : ∀ (l : List (Nat × Nat × Nat)) (F : Nat → Nat → Nat), (∀ q ∈ l, q.1 < 95 ∧ (q.2.1 < 46 ∨ q.2.1 = 1000)) → F a k = 0 → l.foldl zsN F a k = 0
  | [], _, _, h0 => h0
  | q :: l, F, hl, h0 => by
    rw [List.foldl_cons]
    refine zsN_out h l _ (fun q hq => hl q (List.mem_cons_of_mem _ hq)) ?_
    have h1 := hl q List.mem_cons_self
    unfold zsN
    by_cases ha : a = q.1
    · cases hb : Nat.beq q.2.1 1000 with
      | true => simp only [cond_true]; rw [ha, zup_same]
      | false =>
        have h2 : q.2.1 ≠ 1000 := fun e => by rw [e] at hb; cases hb
        simp only [cond_false]
        rw [ha, zup_same, zup_ne (by omega), ← ha]
        exact h0
    · cases Nat.beq q.2.1 1000 with
      | true => simp only [cond_true]; rw [zup_ne ha]; exact h0
      | false => simp only [cond_false]; rw [zup_ne ha]; exact h0
def zTf (a k : Nat) : Nat := (zTb.getD a []).getD k 0
set_option maxRecDepth 100000 in
theorem zLg_in : ∀ a, a < 95 → ∀ k, k < 46 → zLg.foldl zsN (fun _ _ => 0) a k = zTf a k := by decide +kernel
theorem zLg_b : ∀ q ∈ zLg, q.1 < 95 ∧ (q.2.1 < 46 ∨ q.2.1 = 1000) := by decide +kernel
theorem zTb_b : ∀ r ∈ zTb, r.length ≤ 46 := by decide +kernel
theorem zTb_n : zTb.length = 95 := by decide +kernel
theorem zRFl_map : RFl (23, 31, 41, 45, 48) = zTb.map (fun r => r.map zdv) := rfl
theorem zgetD_map {α β : Type} (f : α → β) (d : α) : ∀ (l : List α) (k : Nat), (l.map f).getD k (f d) = f (l.getD k d)
  | [], _ => rfl
  | _ :: _, 0 => rfl
  | _ :: l, k + 1 => zgetD_map f d l k
theorem zTf_out {a k : Nat} (h : 95 ≤ a ∨ 46 ≤ k) : zTf a k = 0 := by
  unfold zTf
  by_cases ha : a < 95
  · have hk : 46 ≤ k := by omega
    have hl : a < zTb.length := by rw [zTb_n]; exact ha
    rw [List.getD_eq_getElem?_getD (l := zTb), List.getElem?_eq_getElem hl, Option.getD_some]
    have h1 := zTb_b _ (List.getElem_mem hl)
    rw [List.getD_eq_getElem?_getD, List.getElem?_eq_none (by omega)]
    rfl
  · rw [List.getD_eq_getElem?_getD (l := zTb), List.getElem?_eq_none (by rw [zTb_n]; omega)]
    rfl
theorem RF0_eq : RF0 = RFf (23, 31, 41, 45, 48) := by
  have h1 : RF0 = fun a k => zdv (zLg.foldl zsN (fun _ _ => 0) a k) := zsV_fold zLg (fun _ _ => 0)
  rw [h1]
  funext a k
  have h2 : RFf (23, 31, 41, 45, 48) a k = zdv (zTf a k) := by
    unfold RFf zTf
    rw [zRFl_map]
    have h3 := zgetD_map (fun r : List Nat => r.map zdv) [] zTb a
    have h4 : (zTb.map (fun r => r.map zdv)).getD a [] = (zTb.getD a []).map zdv := h3
    rw [h4]
    exact zgetD_map zdv 0 _ k
  rw [h2]
  congr 1
  by_cases h : 95 ≤ a ∨ 46 ≤ k
  · rw [zTf_out h]
    exact zsN_out h zLg _ zLg_b rfl
  · exact zLg_in a (by omega) k (by omega)
def g0 : zH2 := (AR0, FI0, (23, 31, 41, 45, 48))
theorem ct_emb : (SH, AR0, FI0, RF0) = emb g0 := by
  rw [RF0_eq]
  rfl
