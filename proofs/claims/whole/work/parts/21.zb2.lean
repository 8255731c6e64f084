/-! ===== heaps by cells, entries, walks ===== -/
def zua (F : Nat → Nat → Int32) (a : Nat) (x : Nat → Int32) : Nat → Nat → Int32 := zup F a x
theorem zua_zua {F : Nat → Nat → Int32} {a : Nat} {x y : Nat → Int32} : zua (zua F a x) a y = zua F a y := zup_zup
theorem zua_self {F : Nat → Nat → Int32} {a : Nat} : zua F a (F a) = F := zup_self
theorem zua_sort {F : Nat → Nat → Int32} {a b : Nat} {x y : Nat → Int32} (h : b < a) : zua (zua F a x) b y = zua (zua F b y) a x := zup_comm (Nat.ne_of_gt h)
def zpe {T : Type} [Inhabited T] (x : Option T) (f : T → zO2) : Option (Bool × zO2) := some (x.isSome, f (zgt x))
theorem zpe_el {T : Type} [Inhabited T] {x : Option T} {f : T → zO2} {o : zO2} {P : Prop} (h : zpe x f = some (true, o)) (k : ∀ t, x = some t → f t = o → P) : P := by
  cases x with
  | none => cases h
  | some t =>
    have h1 : f t = o := congrArg Prod.snd (Option.some.inj h)
    exact k t rfl h1
theorem zl_el {α β : Type} {P : Prop} {x : α} {f : α → Option β} {b : β} (h : zl x f = some b) (k : f x = some b → P) : P := k h
theorem zsi {α : Type} {P : α → Prop} {a q : α} (h : some a = some q) (hq : P q) : P a := by
  cases h
  exact hq
section zT2
variable {X : Nat × (Nat → Int32)} {FT : Nat → Nat → Nat} {E : zTE} {c : List (Nat × zQ)} {o : zO2}
theorem zT_l {α : Type} {x : α} {f : α → Option ((Nat × List Value × List Value × zH2) ⊕ zO2)} (h : zT X FT E c o (f x)) : zT X FT E c o (zl x f) := h
end zT2
/-! chains of cells -/
def zAll {α : Type} : List α → (α → Prop) → Prop
  | [], _ => True
  | a :: K, P => P a ∧ zAll K P
theorem zAll_mem {α : Type} {P : α → Prop} : ∀ {K : List α}, zAll K P → ∀ a ∈ K, P a
  | [], _, a, h => by cases h
  | x :: K, hK, a, h => by
    rcases List.mem_cons.mp h with rfl | h
    · exact hK.1
    · exact zAll_mem hK.2 a h
def zuas (F : Nat → Nat → Int32) : List (Nat × (Nat → Int32)) → Nat → Nat → Int32
  | [] => F
  | q :: l => zuas (zua F q.1 q.2) l
def zufs (F : Nat → Nat → Int32) : List (Nat × Nat × Int32) → Nat → Nat → Int32
  | [] => F
  | q :: l => zufs (zuf F q.1 q.2.1 q.2.2) l
theorem zuas_out : ∀ (l : List (Nat × (Nat → Int32))) (F : Nat → Nat → Int32) (K : List Nat), l.all (fun q => K.elem q.1) = true → ∀ a, a ∉ K → zuas F l a = F a
  | [], _, _, _, _, _ => rfl
  | q :: l, F, K, h, a, ha => by
    rw [List.all_cons, Bool.and_eq_true] at h
    have h1 := zuas_out l (zua F q.1 q.2) K h.2 a ha
    show zuas (zua F q.1 q.2) l a = F a
    rw [h1]
    have h2 : a ≠ q.1 := fun e => ha (by rw [e]; exact List.elem_iff.mp h.1)
    exact zup_ne h2
theorem zuas_eq (F : Nat → Nat → Int32) (l l' : List (Nat × (Nat → Int32))) (K : List Nat) (h1 : l.all (fun q => K.elem q.1) = true) (h2 : l'.all (fun q => K.elem q.1) = true) (h3 : zAll K (fun a => zuas F l a = zuas F l' a)) : zuas F l = zuas F l' := by
  funext a
  by_cases ha : a ∈ K
  · exact zAll_mem h3 a ha
  · rw [zuas_out l F K h1 a ha, zuas_out l' F K h2 a ha]
theorem zufs_out : ∀ (l : List (Nat × Nat × Int32)) (F : Nat → Nat → Int32) (K : List (Nat × Nat)), l.all (fun q => K.elem (q.1, q.2.1)) = true → ∀ a k, (a, k) ∉ K → zufs F l a k = F a k
  | [], _, _, _, _, _, _ => rfl
  | q :: l, F, K, h, a, k, ha => by
    rw [List.all_cons, Bool.and_eq_true] at h
    have h1 := zufs_out l (zuf F q.1 q.2.1 q.2.2) K h.2 a k ha
    show zufs (zuf F q.1 q.2.1 q.2.2) l a k = F a k
    rw [h1]
    have h2 : ¬ (a = q.1 ∧ k = q.2.1) := fun e => ha (by rw [e.1, e.2]; exact List.elem_iff.mp h.1)
    unfold zuf
    by_cases e : a = q.1
    · subst e
      rw [zup_same]
      exact zup_ne (fun e => h2 ⟨rfl, e⟩)
    · rw [zup_ne e]
theorem zufs_eq (F : Nat → Nat → Int32) (l l' : List (Nat × Nat × Int32)) (K : List (Nat × Nat)) (h1 : l.all (fun q => K.elem (q.1, q.2.1)) = true) (h2 : l'.all (fun q => K.elem (q.1, q.2.1)) = true) (h3 : zAll K (fun a => zufs F l a.1 a.2 = zufs F l' a.1 a.2)) : zufs F l = zufs F l' := by
  funext a k
  by_cases ha : (a, k) ∈ K
  · exact zAll_mem h3 (a, k) ha
  · rw [zufs_out l F K h1 a k ha, zufs_out l' F K h2 a k ha]
section zT3
variable {X : Nat × (Nat → Int32)} {FT : Nat → Nat → Nat} {E : zTE} {c : List (Nat × zQ)} {o : zO2}
theorem zT_ga {b : Bool} {t : Option ((Nat × List Value × List Value × zH2) ⊕ zO2)} (hb : b = true) (h : zT X FT E c o t) : zT X FT E c o (zg (Nat.beq 16 16 && b) t) := by
  subst hb
  exact h
theorem zT_gb {b : Bool} {t : Option ((Nat × List Value × List Value × zH2) ⊕ zO2)} (hb : b = true) (h : zT X FT E c o t) : zT X FT E c o (zg ((Nat.beq 17 17 || Nat.beq 17 18) && b) t) := by
  subst hb
  exact h
theorem zT_gc {b : Bool} {t : Option ((Nat × List Value × List Value × zH2) ⊕ zO2)} (hb : b = true) (h : zT X FT E c o t) : zT X FT E c o (zg ((Nat.beq 18 17 || Nat.beq 18 18) && b) t) := by
  subst hb
  exact h
theorem zT_gr {b : Bool} {t : Option ((Nat × List Value × List Value × zH2) ⊕ zO2)} (hb : b = true) (h : zT X FT E c o t) : zT X FT E c o (zg (Nat.beq 1 0 || b) t) := by
  subst hb
  exact h
end zT3
/-! chains of cells, by indices -/
section zix
variable {κ ν : Type}
def zlv9 [DecidableEq κ] : List (κ × ν) → κ → Option ν
  | [], _ => none
  | q :: l, k => match zlv9 l k with
    | some v => some v
    | none => if k = q.1 then some q.2 else none
def zli9 [DecidableEq κ] : List κ → κ → Option Nat
  | [], _ => none
  | q :: l, k => match zli9 l k with
    | some i => some (i + 1)
    | none => if k = q then some 0 else none
def zvl9 (d : ν) (l : List (κ × ν)) : Option Nat → ν
  | none => d
  | some i => match l[i]? with
    | some q => q.2
    | none => d
def zck9 [DecidableEq κ] (ks : List κ) (r : List (κ × Option Nat)) : Bool := r.all (fun q => decide (zli9 ks q.1 = q.2)) && ks.all (fun k => r.any (fun q => decide (q.1 = k)))
theorem zlv9_ix [DecidableEq κ] (d : ν) : ∀ (l : List (κ × ν)) (k : κ), (zlv9 l k).getD d = zvl9 d l (zli9 (l.map (fun q => q.1)) k) ∧ ((zlv9 l k).isSome = (zli9 (l.map (fun q => q.1)) k).isSome)
  | [], _ => ⟨rfl, rfl⟩
  | q :: l, k => by
    obtain ⟨h1, h2⟩ := zlv9_ix d l k
    rw [List.map_cons]
    unfold zlv9 zli9
    cases hv : zlv9 l k with
    | some v =>
      rw [hv] at h1 h2
      cases hi : zli9 (l.map (fun q => q.1)) k with
      | none => rw [hi] at h2; cases h2
      | some i =>
        rw [hi] at h1
        refine ⟨?_, rfl⟩
        show v = zvl9 d (q :: l) (some (i + 1))
        have h1 : v = zvl9 d l (some i) := h1
        rw [h1]
        rfl
    | none =>
      rw [hv] at h2
      cases hi : zli9 (l.map (fun q => q.1)) k with
      | some i => rw [hi] at h2; cases h2
      | none =>
        simp only
        by_cases e : k = q.1
        · rw [if_pos e, if_pos e]; exact ⟨rfl, rfl⟩
        · rw [if_neg e, if_neg e]; exact ⟨rfl, rfl⟩
theorem zlv9_cons [DecidableEq κ] (q : κ × ν) (l : List (κ × ν)) (k : κ) : zlv9 (q :: l) k = match zlv9 l k with
    | some v => some v
    | none => if k = q.1 then some q.2 else none := rfl
theorem zlv9_none [DecidableEq κ] : ∀ {l : List (κ × ν)} {k : κ}, (∀ q ∈ l, q.1 ≠ k) → zlv9 l k = none
  | [], _, _ => rfl
  | q :: l, k, h => by
    unfold zlv9
    rw [zlv9_none (fun q hq => h q (List.mem_cons_of_mem _ hq)), ]
    exact if_neg (fun e => h q List.mem_cons_self e.symm)
theorem zlv9_all [DecidableEq κ] {P : ν → Prop} {k : κ} : ∀ {l : List (κ × ν)}, (∀ q ∈ l, q.1 = k → P q.2) → (∃ q ∈ l, q.1 = k) → ∃ v, zlv9 l k = some v ∧ P v
  | [], _, h => by obtain ⟨q, h, _⟩ := h; cases h
  | q :: l, hp, h => by
    unfold zlv9
    cases hv : zlv9 l k with
    | some v =>
      by_cases hl : ∃ q ∈ l, q.1 = k
      · obtain ⟨v', h1, h2⟩ := zlv9_all (fun q hq => hp q (List.mem_cons_of_mem _ hq)) hl
        rw [hv] at h1
        cases h1
        exact ⟨v, rfl, h2⟩
      · rw [zlv9_none (fun q hq e => hl ⟨q, hq, e⟩)] at hv
        cases hv
    | none =>
      simp only
      obtain ⟨q', h1, h2⟩ := h
      rcases List.mem_cons.mp h1 with rfl | h1
      · rw [if_pos h2.symm]; exact ⟨_, rfl, hp _ List.mem_cons_self h2⟩
      · obtain ⟨v', h3, -⟩ := zlv9_all (P := fun _ => True) (fun _ _ _ => trivial) ⟨q', h1, h2⟩
        rw [hv] at h3
        cases h3
/-- what a key comes to is the same in both -/
theorem zck9_ok [DecidableEq κ] (f : κ → ν) (l : List (κ × ν)) (r : List (κ × Option Nat)) (h : zck9 (l.map (fun q => q.1)) r = true) (k : κ) : (zlv9 l k).getD (f k) = (zlv9 (r.map (fun q => (q.1, zvl9 (f q.1) l q.2))) k).getD (f k) := by
  unfold zck9 at h
  rw [Bool.and_eq_true, List.all_eq_true, List.all_eq_true] at h
  by_cases hk : ∃ q ∈ r, q.1 = k
  · obtain ⟨v, h1, h2⟩ := zlv9_all (l := r.map (fun q => (q.1, zvl9 (f q.1) l q.2))) (k := k) (P := fun v => v = (zlv9 l k).getD (f k)) (fun q hq e => by
      obtain ⟨q', h1, rfl⟩ := List.mem_map.mp hq
      have h2 := of_decide_eq_true (h.1 q' h1)
      have e : q'.1 = k := e
      show zvl9 (f q'.1) l q'.2 = _
      rw [(zlv9_ix (f k) l k).1, e, ← h2, e]) (by
      obtain ⟨q, h1, h2⟩ := hk
      exact ⟨_, List.mem_map.mpr ⟨q, h1, rfl⟩, h2⟩)
    rw [h1, h2]
    rfl
  · have h1 : zlv9 (r.map (fun q => (q.1, zvl9 (f q.1) l q.2))) k = none := zlv9_none (fun q hq e => by
      obtain ⟨q', h1, rfl⟩ := List.mem_map.mp hq
      exact hk ⟨q', h1, e⟩)
    have h2 : zlv9 l k = none := zlv9_none (fun q hq e => by
      have h3 := h.2 q.1 (List.mem_map.mpr ⟨q, hq, rfl⟩)
      obtain ⟨q', h4, h5⟩ := List.any_eq_true.mp h3
      exact hk ⟨q', h4, by rw [of_decide_eq_true h5, e]⟩)
    rw [h1, h2]
end zix
def zufk (F : Nat → Nat → Int32) : List ((Nat × Nat) × Int32) → Nat → Nat → Int32
  | [] => F
  | q :: l => zufk (zuf F q.1.1 q.1.2 q.2) l
theorem zufk_get : ∀ (l : List ((Nat × Nat) × Int32)) (F : Nat → Nat → Int32) (a k : Nat), zufk F l a k = (zlv9 l (a, k)).getD (F a k)
  | [], _, _, _ => rfl
  | q :: l, F, a, k => by
    show zufk (zuf F q.1.1 q.1.2 q.2) l a k = _
    rw [zufk_get l, zlv9_cons]
    cases zlv9 l (a, k) with
    | some v => rfl
    | none =>
      show zuf F q.1.1 q.1.2 q.2 a k = _
      by_cases e : (a, k) = q.1
      · have e1 : a = q.1.1 := congrArg Prod.fst e
        have e2 : k = q.1.2 := congrArg Prod.snd e
        simp only
        rw [if_pos e, e1, e2]
        unfold zuf
        rw [zup_same, zup_same]
        rfl
      · simp only
        rw [if_neg e]
        unfold zuf
        by_cases e1 : a = q.1.1
        · rw [e1, zup_same, zup_ne (fun e2 => e (Prod.ext e1 e2)), ]
          rfl
        · rw [zup_ne e1]
          rfl
theorem zufk_ix (F : Nat → Nat → Int32) (l : List ((Nat × Nat) × Int32)) (r : List ((Nat × Nat) × Option Nat)) (h : zck9 (l.map (fun q => q.1)) r = true) : zufk F l = zufk F (r.map (fun q => (q.1, zvl9 (F q.1.1 q.1.2) l q.2))) := by
  funext a k
  rw [zufk_get, zufk_get]
  exact zck9_ok (fun q => F q.1 q.2) l r h (a, k)
def zuak (F : Nat → Nat → Int32) : List (Nat × (Nat → Int32)) → Nat → Nat → Int32
  | [] => F
  | q :: l => zuak (zua F q.1 q.2) l
theorem zuak_get : ∀ (l : List (Nat × (Nat → Int32))) (F : Nat → Nat → Int32) (a : Nat), zuak F l a = (zlv9 l a).getD (F a)
  | [], _, _ => rfl
  | q :: l, F, a => by
    show zuak (zua F q.1 q.2) l a = _
    rw [zuak_get l, zlv9_cons]
    cases zlv9 l a with
    | some v => rfl
    | none =>
      show zua F q.1 q.2 a = _
      by_cases e : a = q.1
      · simp only
        rw [if_pos e, e]
        exact zup_same
      · simp only
        rw [if_neg e]
        exact zup_ne e
theorem zuak_ix (F : Nat → Nat → Int32) (l : List (Nat × (Nat → Int32))) (r : List (Nat × Option Nat)) (h : zck9 (l.map (fun q => q.1)) r = true) : zuak F l = zuak F (r.map (fun q => (q.1, zvl9 (F q.1) l q.2))) := by
  funext a
  rw [zuak_get, zuak_get]
  exact zck9_ok (fun q => F q) l r h a
/-! the same steps, with the predicate as a variable (so that nothing is reduced) -/
section zU
variable {TT : Option ((Nat × List Value × List Value × zH2) ⊕ zO2) → Prop} {X : Nat × (Nat → Int32)} {FT : Nat → Nat → Nat} {E : zTE} {c : List (Nat × zQ)} {o : zO2}
theorem zU_g (e : TT = zT X FT E c o) {b : Bool} {t : Option ((Nat × List Value × List Value × zH2) ⊕ zO2)} (hb : b = true) (h : TT t) : TT (zg b t) := by subst e; exact zT_g hb h
theorem zU_ga (e : TT = zT X FT E c o) {b : Bool} {t : Option ((Nat × List Value × List Value × zH2) ⊕ zO2)} (hb : b = true) (h : TT t) : TT (zg (Nat.beq 16 16 && b) t) := by subst e; exact zT_ga hb h
theorem zU_gb (e : TT = zT X FT E c o) {b : Bool} {t : Option ((Nat × List Value × List Value × zH2) ⊕ zO2)} (hb : b = true) (h : TT t) : TT (zg ((Nat.beq 17 17 || Nat.beq 17 18) && b) t) := by subst e; exact zT_gb hb h
theorem zU_gc (e : TT = zT X FT E c o) {b : Bool} {t : Option ((Nat × List Value × List Value × zH2) ⊕ zO2)} (hb : b = true) (h : TT t) : TT (zg ((Nat.beq 18 17 || Nat.beq 18 18) && b) t) := by subst e; exact zT_gc hb h
theorem zU_gr (e : TT = zT X FT E c o) {b : Bool} {t : Option ((Nat × List Value × List Value × zH2) ⊕ zO2)} (hb : b = true) (h : TT t) : TT (zg (Nat.beq 1 0 || b) t) := by subst e; exact zT_gr hb h
theorem zU_t (e : TT = zT X FT E c o) {b : Bool} {t u : Option ((Nat × List Value × List Value × zH2) ⊕ zO2)} (hb : b = true) (h : TT t) : TT (bif b then t else u) := by subst e; exact zT_t hb h
theorem zU_f (e : TT = zT X FT E c o) {b : Bool} {t u : Option ((Nat × List Value × List Value × zH2) ⊕ zO2)} (hb : b = false) (h : TT u) : TT (bif b then t else u) := by subst e; exact zT_f hb h
theorem zU_c (e : TT = zT X FT E c o) {α : Type} {z : Option α} {v : α} {g : Option α → Option ((Nat × List Value × List Value × zH2) ⊕ zO2)} (hz : z = some v) (h : TT (g (some v))) : TT (zl z (fun q => zg q.isSome (g q))) := by subst e; exact zT_c hz h
theorem zU_l (e : TT = zT X FT E c o) {α : Type} {x : α} {f : α → Option ((Nat × List Value × List Value × zH2) ⊕ zO2)} (h : TT (f x)) : TT (zl x f) := by subst e; exact zT_l h
end zU
