/-! ===== heaps by cells, entries, walks ===== -/
def zua (F : Nat → Nat → Int32) (a : Nat) (x : Nat → Int32) : Nat → Nat → Int32 := zup F a x
theorem zua_zua {F : Nat → Nat → Int32} {a : Nat} {x y : Nat → Int32} : zua (zua F a x) a y = zua F a y := zup_zup
theorem zua_self {F : Nat → Nat → Int32} {a : Nat} : zua F a (F a) = F := zup_self
theorem zua_sort {F : Nat → Nat → Int32} {a b : Nat} {x y : Nat → Int32} (h : b < a) : zua (zua F a x) b y = zua (zua F b y) a x := zup_comm (Nat.ne_of_gt h)
def zpe {T : Type} [Inhabited T] (x : Option T) (f : T → zO2) : Option (Bool × zO2) := some (x.isSome, f (zgt x))
theorem zpe_el {T : Type} [Inhabited T] {x : Option T} {f : T → zO2} {o : zO2} {P : Prop} (h : zpe x f = some (true, o)) (k : ∀ t, x = some t → f t = o → P) : P := by
  cases x with
  | none => cases h
  | some t =>
    have h1 : f t = o := congrArg Prod.snd (Option.some.inj h)
    exact k t rfl h1
theorem zl_el {α β : Type} {P : Prop} {x : α} {f : α → Option β} {b : β} (h : zl x f = some b) (k : f x = some b → P) : P := k h
theorem zsi {α : Type} {P : α → Prop} {a q : α} (h : some a = some q) (hq : P q) : P a := by
  cases h
  exact hq
section zT2
variable {X : Nat × (Nat → Int32)} {FT : Nat → Nat → Nat} {E : zTE} {c : List (Nat × zQ)} {o : zO2}
theorem zT_l {α : Type} {x : α} {f : α → Option ((Nat × List Value × List Value × zH2) ⊕ zO2)} (h : zT X FT E c o (f x)) : zT X FT E c o (zl x f) := h
end zT2
/-! chains of cells -/
def zAll {α : Type} : List α → (α → Prop) → Prop
  | [], _ => True
  | a :: K, P => P a ∧ zAll K P
theorem zAll_mem {α : Type} {P : α → Prop} : ∀ {K : List α}, zAll K P → ∀ a ∈ K, P a
  | [], _, a, h => by cases h
  | x :: K, hK, a, h => by
    rcases List.mem_cons.mp h with rfl | h
    · exact hK.1
    · exact zAll_mem hK.2 a h
def zuas (F : Nat → Nat → Int32) : List (Nat × (Nat → Int32)) → Nat → Nat → Int32
  | [] => F
  | q :: l => zuas (zua F q.1 q.2) l
def zufs (F : Nat → Nat → Int32) : List (Nat × Nat × Int32) → Nat → Nat → Int32
  | [] => F
  | q :: l => zufs (zuf F q.1 q.2.1 q.2.2) l
theorem zuas_out : ∀ (l : List (Nat × (Nat → Int32))) (F : Nat → Nat → Int32) (K : List Nat), l.all (fun q => K.elem q.1) = true → ∀ a, a ∉ K → zuas F l a = F a
  | [], _, _, _, _, _ => rfl
  | q :: l, F, K, h, a, ha => by
    rw [List.all_cons, Bool.and_eq_true] at h
    have h1 := zuas_out l (zua F q.1 q.2) K h.2 a ha
    show zuas (zua F q.1 q.2) l a = F a
    rw [h1]
    have h2 : a ≠ q.1 := fun e => ha (by rw [e]; exact List.elem_iff.mp h.1)
    exact zup_ne h2
theorem zuas_eq (F : Nat → Nat → Int32) (l l' : List (Nat × (Nat → Int32))) (K : List Nat) (h1 : l.all (fun q => K.elem q.1) = true) (h2 : l'.all (fun q => K.elem q.1) = true) (h3 : zAll K (fun a => zuas F l a = zuas F l' a)) : zuas F l = zuas F l' := by
  funext a
  by_cases ha : a ∈ K
  · exact zAll_mem h3 a ha
  · rw [zuas_out l F K h1 a ha, zuas_out l' F K h2 a ha]
theorem zufs_out : ∀ (l : List (Nat × Nat × Int32)) (F : Nat → Nat → Int32) (K : List (Nat × Nat)), l.all (fun q => K.elem (q.1, q.2.1)) = true → ∀ a k, (a, k) ∉ K → zufs F l a k = F a k
  | [], _, _, _, _, _, _ => rfl
  | q :: l, F, K, h, a, k, ha => by
    rw [List.all_cons, Bool.and_eq_true] at h
    have h1 := zufs_out l (zuf F q.1 q.2.1 q.2.2) K h.2 a k ha
    show zufs (zuf F q.1 q.2.1 q.2.2) l a k = F a k
    rw [h1]
    have h2 : ¬ (a = q.1 ∧ k = q.2.1) := fun e => ha (by rw [e.1, e.2]; exact List.elem_iff.mp h.1)
    unfold zuf
    by_cases e : a = q.1
    · subst e
      rw [zup_same]
      exact zup_ne (fun e => h2 ⟨rfl, e⟩)
    · rw [zup_ne e]
theorem zufs_eq (F : Nat → Nat → Int32) (l l' : List (Nat × Nat × Int32)) (K : List (Nat × Nat)) (h1 : l.all (fun q => K.elem (q.1, q.2.1)) = true) (h2 : l'.all (fun q => K.elem (q.1, q.2.1)) = true) (h3 : zAll K (fun a => zufs F l a.1 a.2 = zufs F l' a.1 a.2)) : zufs F l = zufs F l' := by
  funext a k
  by_cases ha : (a, k) ∈ K
  · exact zAll_mem h3 (a, k) ha
  · rw [zufs_out l F K h1 a k ha, zufs_out l' F K h2 a k ha]
section zT3
variable {X : Nat × (Nat → Int32)} {FT : Nat → Nat → Nat} {E : zTE} {c : List (Nat × zQ)} {o : zO2}
theorem zT_ga {b : Bool} {t : Option ((Nat × List Value × List Value × zH2) ⊕ zO2)} (hb : b = true) (h : zT X FT E c o t) : zT X FT E c o (zg (Nat.beq 16 16 && b) t) := by
  subst hb
  exact h
theorem zT_gb {b : Bool} {t : Option ((Nat × List Value × List Value × zH2) ⊕ zO2)} (hb : b = true) (h : zT X FT E c o t) : zT X FT E c o (zg ((Nat.beq 17 17 || Nat.beq 17 18) && b) t) := by
  subst hb
  exact h
theorem zT_gc {b : Bool} {t : Option ((Nat × List Value × List Value × zH2) ⊕ zO2)} (hb : b = true) (h : zT X FT E c o t) : zT X FT E c o (zg ((Nat.beq 18 17 || Nat.beq 18 18) && b) t) := by
  subst hb
  exact h
theorem zT_gr {b : Bool} {t : Option ((Nat × List Value × List Value × zH2) ⊕ zO2)} (hb : b = true) (h : zT X FT E c o t) : zT X FT E c o (zg (Nat.beq 1 0 || b) t) := by
  subst hb
  exact h
end zT3
