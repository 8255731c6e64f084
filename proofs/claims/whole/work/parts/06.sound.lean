/-! ===== the z-machine is the machine: words for the two worlds ===== -/
/-- first new address, the script's cell, the constant text's cell, the tables' numbers, the array classes -/
abbrev zG : Type := Nat × Nat × Nat × va_G × ClassId × ClassId × ClassId
def zt (G : zG) : Value → Value
  | .ref k => .ref (G.1 + k)
  | .float z => .ref (if z = 0 then G.2.1 else G.2.2.1)
  | v => v
def ztys (G : zG) : List (ClassId × FieldType) := [(G.2.2.2.2.1, .int), (G.2.2.2.2.2.1, .byte), (G.2.2.2.2.2.2, .boolean)]
def zcA (G : zG) (k : Nat) : ClassId := if k = 16 then G.2.2.2.2.1 else if k = 17 then G.2.2.2.2.2.1 else G.2.2.2.2.2.2
def zfs (G : zG) (h : zH) (c a n : Nat) : List Value := (List.range n).map (fun k => zt G (zfv zFT h c a k))
def zE1 (G : zG) (h : zH) (i : Nat) (q : Nat × Nat) : va_E := if q.1 < 16 then .inr (q.1, zfs G h q.1 i q.2) else .inl (zcA G q.1, q.2, .inl (h.2.1 i))
def zW (G : zG) (h : zH) : va_W := h.1.mapIdx (fun i q => (G.1 + i, zE1 G h i q))
def zA (G : zG) : Nat → Prop := fun q => G.1 ≤ q
def zOK (G : zG) (h : zH) (H : Heap) : Prop := H.size = G.1 + h.1.length ∧ va_P G.2.2.2.1 vwCl (zW G h) H
def zsz (h : zH) : Nat := (h.1.map (fun q => q.2)).sum
def zbyt : List Int32 := [112, 109, 110, 118, 105, 100, 103, 116, 119]
/-- the constant text and what its methods read -/
def zStr (G : zG) (U : State) : Prop := (∃ adK adV : Nat → Nat, adK 0 = G.2.2.1 ∧ vk_S 1 [9] [zbyt] adK adV (zA G) U U.heap) ∧ va_Z "java/lang/String" "COMPACT_STRINGS" "Z" (.int 1) (zA G) U U.heap
def zKS (G : zG) (X : Nat × (Nat → Int32)) (U : State) : Prop := va_K G.2.2.2.1 vwCl (ztys G) U ∧ (∀ w ∈ zNs, va_Nw w U) ∧ va_X G.2.1 X.1 X.2 U U.heap ∧ vk_R (zRs 5) 96 "pmnvidgtw" G.2.2.1 U ∧ zStr G U
def zloc (G : zG) (ls : Array Slot) (nL : Nat) (lv : List Value) : Prop := lv_has ls nL (lv.mapIdx (fun i v => (i, zt G v))) ∧ lv.length ≤ nL ∧ lv.all zcat = true
theorem zt_cat {G : zG} {v : Value} (h : zcat v = true) : (zt G v).category = 1 := by
  cases v <;> first | rfl | cases h
theorem zW_get {G : zG} {h : zH} {i : Nat} {q : Nat × Nat} (hq : h.1[i]? = some q) : (zW G h)[i]? = some (G.1 + i, zE1 G h i q) := by
  simp [zW, hq]
theorem zW_D (G : zG) (h : zH) : va_D (zA G) (zW G h) := by
  refine ⟨fun i j p q h1 h2 he => ?_, fun k q hk => ?_⟩
  · simp only [zW, List.getElem?_mapIdx, Option.map_eq_some_iff] at h1 h2
    obtain ⟨x, -, rfl⟩ := h1
    obtain ⟨y, -, rfl⟩ := h2
    exact Nat.add_left_cancel he
  · simp only [zW, List.getElem?_mapIdx, Option.map_eq_some_iff] at hk
    obtain ⟨x, -, rfl⟩ := hk
    exact Nat.le_add_right _ _
theorem zW_upd {G : zG} {h h' : zH} {a : Nat} {q : Nat × Nat} (hs : h'.1 = h.1) (ha : h.1[a]? = some q) (ho : ∀ (j : Nat) (q : Nat × Nat), j ≠ a → zE1 G h' j q = zE1 G h j q) : zW G h' = (zW G h).set a (G.1 + a, zE1 G h' a q) := by
  apply List.ext_getElem?
  intro j
  have hl : a < h.1.length := (List.getElem?_eq_some_iff.mp ha).1
  by_cases hj : a = j
  · subst hj
    rw [List.getElem?_set_self (by simp [zW]; exact hl), zW_get (by rw [hs]; exact ha)]
  · rw [List.getElem?_set_ne hj]
    simp only [zW, List.getElem?_mapIdx, hs]
    cases h.1[j]? with
    | none => rfl
    | some x => simp [ho j x (Ne.symm hj)]
theorem zup_same {α : Type} {f : Nat → α} {a : Nat} {x : α} : zup f a x a = x := by simp [zup]
theorem zup_ne {α : Type} {f : Nat → α} {a b : Nat} {x : α} (h : b ≠ a) : zup f a x b = f b := by simp [zup, h]
theorem zE1_arr {G : zG} {h : zH} {i : Nat} {c n : Nat} (hc : 16 ≤ c) : zE1 G h i (c, n) = .inl (zcA G c, n, .inl (h.2.1 i)) := by
  simp only [zE1]; rw [if_neg (by omega)]
theorem zE1_obj {G : zG} {h : zH} {i : Nat} {c n : Nat} (hc : c < 16) : zE1 G h i (c, n) = .inr (c, zfs G h c i n) := by
  simp only [zE1]; rw [if_pos hc]
theorem zfs_len {G : zG} {h : zH} {c a n : Nat} : (zfs G h c a n).length = n := by simp [zfs]
theorem zfs_get {G : zG} {h : zH} {c a n k : Nat} (hk : k < n) : (zfs G h c a n)[k]? = some (zt G (zfv zFT h c a k)) := by simp [zfs, hk]
/-- what a store into an array does to the world -/
theorem zW_ast {G : zG} {h : zH} {a c n i : Nat} {x : Int32} (ha : h.1[a]? = some (c, n)) (hc : 16 ≤ c) : zW G (h.1, zup h.2.1 a (zup (h.2.1 a) i x), h.2.2) = (zW G h).set a (G.1 + a, .inl (zcA G c, n, .inl (upd (h.2.1 a) i x))) := by
  rw [zW_upd (h := h) (h' := (h.1, zup h.2.1 a (zup (h.2.1 a) i x), h.2.2)) rfl ha, zE1_arr hc]
  · simp only [zup_same]
    rfl
  · intro j q hj
    simp only [zE1, zfs, zfv, zup_ne hj]
theorem zW_cpy {G : zG} {h : zH} {a c n : Nat} {f : Nat → Int32} (ha : h.1[a]? = some (c, n)) (hc : 16 ≤ c) : zW G (h.1, zup h.2.1 a f, h.2.2) = (zW G h).set a (G.1 + a, .inl (zcA G c, n, .inl f)) := by
  rw [zW_upd (h := h) (h' := (h.1, zup h.2.1 a f, h.2.2)) rfl ha, zE1_arr hc]
  · simp only [zup_same]
  · intro j q hj
    simp only [zE1, zfs, zfv, zup_ne hj]
/-- what a store into a field does to the world -/
theorem zW_putI {G : zG} {h : zH} {a c n k : Nat} {x : Int32} (ha : h.1[a]? = some (c, n)) (hc : c < 16) (hf : zFT c k ≠ 2) : zW G (h.1, h.2.1, zup h.2.2.1 a (zup (h.2.2.1 a) k x), h.2.2.2) = (zW G h).set a (G.1 + a, .inr (c, (zfs G h c a n).set k (.int x))) := by
  rw [zW_upd (h := h) (h' := (h.1, h.2.1, zup h.2.2.1 a (zup (h.2.2.1 a) k x), h.2.2.2)) rfl ha, zE1_obj hc]
  · congr 4
    apply List.ext_getElem?
    intro j
    by_cases hj : k = j
    · subst hj
      by_cases hk : k < n
      · rw [zfs_get hk, List.getElem?_set_self (by rw [zfs_len]; exact hk)]
        simp only [zfv, zup_same]
        rw [show Nat.beq (zFT c k) 2 = false by cases hb : Nat.beq (zFT c k) 2 <;> first | rfl | exact absurd (Nat.eq_of_beq_eq_true hb) hf]
        rfl
      · rw [List.getElem?_eq_none (by rw [zfs_len]; omega), List.getElem?_eq_none (by rw [List.length_set, zfs_len]; omega)]
    · rw [List.getElem?_set_ne hj]
      by_cases hk : j < n
      · rw [zfs_get hk, zfs_get hk]
        simp only [zfv, zup_same, zup_ne (Ne.symm hj)]
      · rw [List.getElem?_eq_none (by rw [zfs_len]; omega), List.getElem?_eq_none (by rw [zfs_len]; omega)]
  · intro j q hj
    simp only [zE1, zfs, zfv, zup_ne hj]
theorem zW_putR {G : zG} {h : zH} {a c n k y : Nat} (ha : h.1[a]? = some (c, n)) (hc : c < 16) (hf : zFT c k = 2) : zW G (h.1, h.2.1, h.2.2.1, zup h.2.2.2 a (zup (h.2.2.2 a) k (.ref y))) = (zW G h).set a (G.1 + a, .inr (c, (zfs G h c a n).set k (.ref (G.1 + y)))) := by
  rw [zW_upd (h := h) (h' := (h.1, h.2.1, h.2.2.1, zup h.2.2.2 a (zup (h.2.2.2 a) k (.ref y)))) rfl ha, zE1_obj hc]
  · congr 4
    apply List.ext_getElem?
    intro j
    by_cases hj : k = j
    · subst hj
      by_cases hk : k < n
      · rw [zfs_get hk, List.getElem?_set_self (by rw [zfs_len]; exact hk)]
        simp only [zfv, zup_same, hf]
        rfl
      · rw [List.getElem?_eq_none (by rw [zfs_len]; omega), List.getElem?_eq_none (by rw [List.length_set, zfs_len]; omega)]
    · rw [List.getElem?_set_ne hj]
      by_cases hk : j < n
      · rw [zfs_get hk, zfs_get hk]
        simp only [zfv, zup_same, zup_ne (Ne.symm hj)]
      · rw [List.getElem?_eq_none (by rw [zfs_len]; omega), List.getElem?_eq_none (by rw [zfs_len]; omega)]
  · intro j q hj
    simp only [zE1, zfs, zfv, zup_ne hj]
/-- a new cell -/
theorem zW_push {G : zG} {h h' : zH} {q : Nat × Nat} (hs : h'.1 = h.1 ++ [q]) (ho : ∀ (j : Nat) (q : Nat × Nat), j < h.1.length → zE1 G h' j q = zE1 G h j q) : zW G h' = zW G h ++ [(G.1 + h.1.length, zE1 G h' h.1.length q)] := by
  apply List.ext_getElem?
  intro j
  rcases Nat.lt_or_ge j h.1.length with hj | hj
  · rw [List.getElem?_append_left (by simp [zW]; exact hj)]
    simp only [zW, List.getElem?_mapIdx, hs]
    rw [List.getElem?_append_left hj]
    cases h.1[j]? with
    | none => rfl
    | some x => simp [ho j x hj]
  · rw [List.getElem?_append_right (by simp [zW]; exact hj)]
    simp only [zW, List.getElem?_mapIdx, hs, List.length_mapIdx]
    rw [List.getElem?_append_right hj]
    rcases Nat.eq_or_lt_of_le hj with e | e
    · subst e
      simp
    · obtain ⟨z, rfl⟩ : ∃ z, j = h.1.length + 1 + z := ⟨j - (h.1.length + 1), by omega⟩
      rw [show h.1.length + 1 + z - h.1.length = z + 1 by omega]
      rfl
theorem zsz_push {h : zH} {q : Nat × Nat} {r : (Nat → Nat → Int32) × (Nat → Nat → Int32) × (Nat → Nat → Value)} : zsz (h.1 ++ [q], r) = zsz h + q.2 := by simp [zsz]
/-! locals -/
theorem zloc_get {G : zG} {ls : Array Slot} {nL : Nat} {lv : List Value} (h : zloc G ls nL lv) {i : Nat} {v : Value} (hv : lv[i]? = some v) : ls[i]? = some (.val (zt G v)) := by
  refine h.1.2.2 (i, zt G v) ?_
  refine List.mem_of_getElem? (i := i) ?_
  simp [hv]
theorem zloc_trim {G : zG} {ls : Array Slot} {nL : Nat} {lv : List Value} (h : zloc G ls nL lv) (q : zQ) : zloc G ls nL (ztrim q lv) := by
  unfold ztrim
  cases Nat.beq q.2.2.2.2.2.2 0 with
  | true => exact h
  | false =>
    refine ⟨⟨h.1.1, h.1.2.1, fun p hp => ?_⟩, ?_, ?_⟩
    · obtain ⟨i, hi⟩ := List.getElem?_of_mem hp
      simp only [cond_false, List.getElem?_mapIdx, Option.map_eq_some_iff] at hi
      obtain ⟨v, hv, rfl⟩ := hi
      rw [List.getElem?_take] at hv
      split at hv
      · exact zloc_get h hv
      · cases hv
    · simp only [cond_false, List.length_take]
      have := h.2.1
      omega
    · simp only [cond_false]
      rw [List.all_eq_true]
      intro x hx
      exact List.all_eq_true.mp h.2.2 x (List.mem_of_mem_take hx)
theorem zloc_sto {G : zG} {ls ls' : Array Slot} {nL i : Nat} {lv : List Value} {v : Value} (h : zloc G ls nL lv) (hi : i < nL) (hv : zcat v = true)
    (h' : lv_has ls' nL ((i, zt G v) :: (lv.mapIdx (fun i v => (i, zt G v))).filter (fun q => !(q.1 == i) && !(q.1 + 1 == i && q.2.category == 2)))) : (i < lv.length → zloc G ls' nL (lv.set i v)) ∧ (i = lv.length → zloc G ls' nL (lv ++ [v])) := by
  have key : ∀ (j : Nat) (y : Value), j ≠ i → lv[j]? = some y → ls'[j]? = some (.val (zt G y)) := by
    intro j y hj hy
    refine h'.2.2 (j, zt G y) (List.mem_cons_of_mem _ (List.mem_filter.mpr ⟨List.mem_of_getElem? (i := j) (by simp [hy]), ?_⟩))
    have hc := zt_cat (G := G) (List.all_eq_true.mp h.2.2 y (List.mem_of_getElem? hy))
    simp [hj, hc]
  have key2 : ls'[i]? = some (.val (zt G v)) := h'.2.2 (i, zt G v) List.mem_cons_self
  refine ⟨fun hl => ⟨⟨h'.1, h'.2.1, fun p hp => ?_⟩, by simpa using h.2.1, ?_⟩, fun hl => ⟨⟨h'.1, h'.2.1, fun p hp => ?_⟩, by simp; omega, ?_⟩⟩
  · obtain ⟨j, hj⟩ := List.getElem?_of_mem hp
    simp only [List.getElem?_mapIdx, Option.map_eq_some_iff] at hj
    obtain ⟨y, hy, rfl⟩ := hj
    by_cases hji : j = i
    · subst hji
      rw [List.getElem?_set_self hl] at hy
      cases hy
      exact key2
    · rw [List.getElem?_set_ne (Ne.symm hji)] at hy
      exact key j y hji hy
  · rw [List.all_eq_true]
    intro x hx
    rcases List.mem_or_eq_of_mem_set hx with hx | rfl
    · exact List.all_eq_true.mp h.2.2 x hx
    · exact hv
  · obtain ⟨j, hj⟩ := List.getElem?_of_mem hp
    simp only [List.getElem?_mapIdx, Option.map_eq_some_iff] at hj
    obtain ⟨y, hy, rfl⟩ := hj
    rcases Nat.lt_or_ge j lv.length with hjl | hjl
    · rw [List.getElem?_append_left hjl] at hy
      exact key j y (by omega) hy
    · rw [List.getElem?_append_right hjl] at hy
      have : j - lv.length < 1 := by have := (List.getElem?_eq_some_iff.mp hy).1; simpa using this
      obtain rfl : j = i := by omega
      rw [show j - lv.length = 0 by omega] at hy
      cases hy
      exact key2
  · rw [List.all_append, h.2.2]
    simp [hv]
theorem zloc_entry {G : zG} {args : List Value} {nL : Nat} (hn : args.length ≤ nL) (hc : args.all zcat = true) : ∃ ls, entryFrame = entryFrame ∧ zloc G ls nL args ∧ ∀ m : MethodId, entryFrame m (args.map (zt G)).toArray nL = F0 m 0 ls [] := by
  have h1 : ∀ (l : List Value), l.all zcat = true → lg_sl (l.map (zt G)) = l.map (fun v => Slot.val (zt G v)) := by
    intro l hl
    induction l with
    | nil => rfl
    | cons a l ih =>
      rw [List.all_cons, Bool.and_eq_true] at hl
      have ha := zt_cat (G := G) hl.1
      have e := ih hl.2
      simp only [lg_sl] at e ⊢
      rw [List.map_cons, List.flatMap_cons, e, if_neg (by omega)]
      rfl
  have h2 : ∀ (l : List Value) (i : Nat), l.all zcat = true → lv_args i (l.map (zt G)) = l.mapIdx (fun j v => (i + j, zt G v)) := by
    intro l
    induction l with
    | nil => intro i _; rfl
    | cons a l ih =>
      intro i hl
      rw [List.all_cons, Bool.and_eq_true] at hl
      have ha := zt_cat (G := G) hl.1
      rw [List.map_cons, lv_args, if_neg (by omega), ih (i + 1) hl.2, List.mapIdx_cons]
      congr 1
      congr 1
      funext j v
      rw [Nat.add_assoc, Nat.add_comm 1 j]
  have hlen : (lg_sl (args.map (zt G))).length = args.length := by rw [h1 args hc, List.length_map]
  refine ⟨(lg_sl (args.map (zt G)) ++ List.replicate (nL - (lg_sl (args.map (zt G))).length) Slot.unset).toArray, rfl, ⟨?_, hn, hc⟩, fun m => lg_entry_eq m _ nL⟩
  have h3 := lv_entry (args.map (zt G)) (n := nL) (by rw [hlen]; exact hn)
  rw [h2 args 0 hc] at h3
  have e : (fun (j : Nat) (v : Value) => (0 + j, zt G v)) = (fun i v => (i, zt G v)) := by funext j v; rw [Nat.zero_add]
  rw [e] at h3
  exact h3
