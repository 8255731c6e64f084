/-! ===== contracts of the second kind: one partial function for each method, one for each loop ===== -/
def zl {α β : Type} (x : α) (f : α → β) : β := f x
def zgt {α : Type} [Inhabited α] (o : Option α) : α := match o with
  | some a => a
  | none => default
def zbd {α β : Type} (o : Option α) (f : α → Option β) : Option β := match o with
  | some a => f a
  | none => none
def zsm {α β γ : Type} (x : α ⊕ β) (f : α → γ) (g : β → γ) : γ := match x with
  | .inl a => f a
  | .inr b => g b
theorem zbd_el {α β : Type} {P : Prop} {o : Option α} {f : α → Option β} {b : β} (h : zbd o f = some b) (k : ∀ a, o = some a → f a = some b → P) : P := by
  cases o with
  | none => cases h
  | some a => exact k a rfl h
def zuf (F : Nat → Nat → Int32) (a k : Nat) (v : Int32) : Nat → Nat → Int32 := zup F a (zup (F a) k v)
theorem zuf_zuf {F : Nat → Nat → Int32} {a k : Nat} {v w : Int32} : zuf (zuf F a k v) a k w = zuf F a k w := by
  unfold zuf
  rw [zup_same, zup_zup, zup_zup]
theorem zuf_self {F : Nat → Nat → Int32} {a k : Nat} : zuf F a k (F a k) = F := by
  unfold zuf
  rw [zup_self, zup_self]
theorem zuf_sort1 {F : Nat → Nat → Int32} {a k b l : Nat} {v w : Int32} (h : b < a) : zuf (zuf F a k v) b l w = zuf (zuf F b l w) a k v := by
  unfold zuf
  rw [zup_ne (Nat.ne_of_lt h), zup_ne (Nat.ne_of_gt h), zup_comm (Nat.ne_of_gt h)]
theorem zuf_sort2 {F : Nat → Nat → Int32} {a k l : Nat} {v w : Int32} (h : l < k) : zuf (zuf F a k v) a l w = zuf (zuf F a l w) a k v := by
  unfold zuf
  rw [zup_same, zup_same, zup_zup, zup_zup, zup_comm (Nat.ne_of_gt h)]
def zq {σ R : Type} (M : σ → Prop) (K : R → Prop) : σ ⊕ R → Prop
  | .inl s => M s
  | .inr r => K r
theorem zsm_K {α β γ : Type} {A : α → Prop} {B : β → Prop} {r : α ⊕ β} {f : α → Option γ} {g : β → Option γ} {b : γ} (h : zsm r f g = some b) (k1 : ∀ x, f x = some b → A x) (k2 : ∀ y, g y = some b → B y) : zq A B r := by
  cases r with
  | inl x => exact k1 x h
  | inr y => exact k2 y h
section zTs
variable {X : Nat × (Nat → Int32)} {FT : Nat → Nat → Nat} {E : zTE} {c : List (Nat × zQ)} {o : zO2}
def zT (X : Nat × (Nat → Int32)) (FT : Nat → Nat → Nat) (E : zTE) (c : List (Nat × zQ)) (o : zO2) : Option ((Nat × List Value × List Value × zH2) ⊕ zO2) → Prop
  | some (.inl s) => zR2 X FT E c s.1 s.2.1 s.2.2.1 s.2.2.2 o
  | some (.inr o') => o' = o
  | none => False
theorem zT_seg {stops : Nat → Bool} {n pc : Nat} {lv st : List Value} {h : zH2} {t : Option ((Nat × List Value × List Value × zH2) ⊕ zO2)} (e : zseg X FT E c stops n pc lv st h = t) (hT : zT X FT E c o t) : zR2 X FT E c pc lv st h o := by
  cases t with
  | none => exact hT.elim
  | some q =>
    cases q with
    | inl s => exact zseg_go hT e
    | inr o' =>
      have hT : o' = o := hT
      subst hT
      exact zseg_ret e
theorem zT_g {b : Bool} {t : Option ((Nat × List Value × List Value × zH2) ⊕ zO2)} (hb : b = true) (h : zT X FT E c o t) : zT X FT E c o (zg b t) := by
  subst hb
  exact h
theorem zT_t {b : Bool} {t e : Option ((Nat × List Value × List Value × zH2) ⊕ zO2)} (hb : b = true) (h : zT X FT E c o t) : zT X FT E c o (bif b then t else e) := by
  subst hb
  exact h
theorem zT_f {b : Bool} {t e : Option ((Nat × List Value × List Value × zH2) ⊕ zO2)} (hb : b = false) (h : zT X FT E c o e) : zT X FT E c o (bif b then t else e) := by
  subst hb
  exact h
theorem zT_c {α : Type} {z : Option α} {v : α} {g : Option α → Option ((Nat × List Value × List Value × zH2) ⊕ zO2)} (hz : z = some v) (h : zT X FT E c o (g (some v))) : zT X FT E c o (zl z (fun q => zg q.isSome (g q))) := by
  subst hz
  exact h
theorem zR2_hp {pc : Nat} {lv st : List Value} {A1 A2 F1 F2 : Nat → Nat → Int32} {m : zM5} (hA : A2 = A1) (hF : F2 = F1) (h : zR2 X FT E c pc lv st (A1, F1, m) o) : zR2 X FT E c pc lv st (A2, F2, m) o := by
  subst hA hF
  exact h
theorem zO_mk {v : Option Value} {A1 A2 F1 F2 : Nat → Nat → Int32} {m : zM5} (hA : A2 = A1) (hF : F2 = F1) : ((v, (A2, F2, m)) : zO2) = (v, (A1, F1, m)) := by
  subst hA hF
  rfl
end zTs
section zlps
variable {σ R : Type}
def zitn (f : σ → Option (σ ⊕ R)) : Nat → σ → Option R
  | 0, _ => none
  | n + 1, s => match f s with
    | none => none
    | some (.inl s') => zitn f n s'
    | some (.inr r) => some r
/-- a loop: what it comes to, if it ends -/
noncomputable def zlp (f : σ → Option (σ ⊕ R)) (s : σ) : Option R := @dite _ (∃ r, ∃ n, zitn f n s = some r) (Classical.propDecidable _) (fun h => some (Classical.choose h)) (fun _ => none)
theorem zitn_succ {f : σ → Option (σ ⊕ R)} : ∀ {n : Nat} {s : σ} {r : R}, zitn f n s = some r → zitn f (n + 1) s = some r
  | 0, _, _, h => by cases h
  | n + 1, s, r, h => by
    unfold zitn at h ⊢
    cases hf : f s with
    | none => rw [hf] at h; cases h
    | some q =>
      rw [hf] at h
      cases q with
      | inl s' => exact zitn_succ h
      | inr r' => exact h
theorem zitn_le {f : σ → Option (σ ⊕ R)} {n m : Nat} {s : σ} {r : R} (hn : n ≤ m) (h : zitn f n s = some r) : zitn f m s = some r := by
  induction hn with
  | refl => exact h
  | step _ ih => exact zitn_succ ih
theorem zitn_det {f : σ → Option (σ ⊕ R)} {n m : Nat} {s : σ} {r r' : R} (h : zitn f n s = some r) (h' : zitn f m s = some r') : r = r' := by
  have e1 := zitn_le (Nat.le_max_left n m) h
  have e2 := zitn_le (Nat.le_max_right n m) h'
  rw [e1] at e2
  exact Option.some.inj e2
theorem zlp_of {f : σ → Option (σ ⊕ R)} {n : Nat} {s : σ} {r : R} (h : zitn f n s = some r) : zlp f s = some r := by
  have hh : ∃ r, ∃ n, zitn f n s = some r := ⟨r, n, h⟩
  unfold zlp
  rw [dif_pos hh]
  obtain ⟨m, hm⟩ := Classical.choose_spec hh
  exact congrArg some (zitn_det hm h)
theorem zlp_to {f : σ → Option (σ ⊕ R)} {s : σ} {r : R} (h : zlp f s = some r) : ∃ n, zitn f n s = some r := by
  unfold zlp at h
  by_cases hh : ∃ r, ∃ n, zitn f n s = some r
  · rw [dif_pos hh] at h
    rw [← Option.some.inj h]
    exact Classical.choose_spec hh
  · rw [dif_neg hh] at h
    cases h
theorem zlp_in {f : σ → Option (σ ⊕ R)} {s s' : σ} (h : f s = some (.inl s')) : zlp f s = zlp f s' := by
  cases hz : zlp f s' with
  | some r =>
    obtain ⟨n, hn⟩ := zlp_to hz
    refine zlp_of (n := n + 1) ?_
    unfold zitn
    rw [h]
    exact hn
  | none =>
    cases hy : zlp f s with
    | none => rfl
    | some r =>
      obtain ⟨n, hn⟩ := zlp_to hy
      cases n with
      | zero => cases hn
      | succ n =>
        unfold zitn at hn
        rw [h] at hn
        rw [zlp_of hn] at hz
        cases hz
theorem zlp_out {f : σ → Option (σ ⊕ R)} {s : σ} {r : R} (h : f s = some (.inr r)) : zlp f s = some r := by
  refine zlp_of (n := 1) ?_
  unfold zitn
  rw [h]
theorem zlp_K {f : σ → Option (σ ⊕ R)} {M : σ → Prop} {K : R → Prop} (hf : ∀ s q, f s = some q → zq M K q → M s) {s : σ} {r : R} (h : zlp f s = some r) (hK : K r) : M s := by
  obtain ⟨n, hn⟩ := zlp_to h
  induction n generalizing s with
  | zero => cases hn
  | succ n ih =>
    unfold zitn at hn
    cases hs : f s with
    | none => rw [hs] at hn; cases hn
    | some q =>
      rw [hs] at hn
      refine hf s q hs ?_
      cases q with
      | inl s' => exact ih (zlp_of hn) hn
      | inr r' =>
        have e := Option.some.inj hn
        subst e
        exact hK
end zlps
