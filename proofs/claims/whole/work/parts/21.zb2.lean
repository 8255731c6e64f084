/-! ===== heaps by cells, entries, walks ===== -/
def zua (F : Nat → Nat → Int32) (a : Nat) (x : Nat → Int32) : Nat → Nat → Int32 := zup F a x
theorem zua_zua {F : Nat → Nat → Int32} {a : Nat} {x y : Nat → Int32} : zua (zua F a x) a y = zua F a y := zup_zup
theorem zua_self {F : Nat → Nat → Int32} {a : Nat} : zua F a (F a) = F := zup_self
theorem zua_sort {F : Nat → Nat → Int32} {a b : Nat} {x y : Nat → Int32} (h : b < a) : zua (zua F a x) b y = zua (zua F b y) a x := zup_comm (Nat.ne_of_gt h)
def zpe {T : Type} [Inhabited T] (x : Option T) (f : T → zO2) : Option (Bool × zO2) := some (x.isSome, f (zgt x))
theorem zpe_el {T : Type} [Inhabited T] {x : Option T} {f : T → zO2} {o : zO2} {P : Prop} (h : zpe x f = some (true, o)) (k : ∀ t, x = some t → f t = o → P) : P := by
  cases x with
  | none => cases h
  | some t =>
    have h1 : f t = o := congrArg Prod.snd (Option.some.inj h)
    exact k t rfl h1
theorem zl_el {α β : Type} {P : Prop} {x : α} {f : α → Option β} {b : β} (h : zl x f = some b) (k : f x = some b → P) : P := k h
theorem zsi {α : Type} {P : α → Prop} {a q : α} (h : some a = some q) (hq : P q) : P a := by
  cases h
  exact hq
section zT2
variable {X : Nat × (Nat → Int32)} {FT : Nat → Nat → Nat} {E : zTE} {c : List (Nat × zQ)} {o : zO2}
theorem zT_l {α : Type} {x : α} {f : α → Option ((Nat × List Value × List Value × zH2) ⊕ zO2)} (h : zT X FT E c o (f x)) : zT X FT E c o (zl x f) := h
end zT2
