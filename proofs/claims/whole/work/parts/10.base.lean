/-! ===== contracts as a table that grows: what a method answers, as a function ===== -/
section zst2e
variable {α β : Type} {a : α} {b : β}
theorem zcall2_E {E E2 : zTE} (hE : ∀ u args g o, E u args g = some (true, o) → E2 u args g = some (true, o)) {hp : zH2} {st : List Value} {u n : Nat} {f : Option Value → List Value → zH2 → Option α} {g : Option Value → List Value → zH2 → Option β} (h : zcall2 E hp st u n f = some a) (k : ∀ x y z, f x y z = some a → g x y z = some b) : zcall2 E2 hp st u n g = some b := by
  unfold zcall2 at h ⊢
  refine zg_nat h (fun h => ?_)
  unfold ze2 at h
  split at h
  next q hq =>
    obtain ⟨G, o⟩ := q
    refine zg_el h (fun hG h => ?_)
    have hG : G = true := hG
    subst hG
    rw [hE u _ hp o hq]
    exact k _ _ _ h
  next => cases h
set_option maxHeartbeats 4000000 in
theorem zst2_E {X : Nat × (Nat → Int32)} {FT : Nat → Nat → Nat} {E E2 : zTE} (hE : ∀ u args g o, E u args g = some (true, o) → E2 u args g = some (true, o)) {q : zQ} {pc : Nat} {lv st : List Value} {h : zH2} {k : Nat → List Value → List Value → zH2 → Option α} {ret : Option Value → zH2 → Option α} {k' : Nat → List Value → List Value → zH2 → Option β} {ret' : Option Value → zH2 → Option β}
    (hs : zst2 X FT E q pc lv st h k ret = some a) (hk : ∀ pc lv st h, k pc lv st h = some a → k' pc lv st h = some b) (hr : ∀ r h, ret r h = some a → ret' r h = some b) : zst2 X FT E2 q pc lv st h k' ret' = some b := by
  obtain ⟨i, len, r1, r2, x, sw, tr⟩ := q
  cases i <;> dsimp only [zst2] at hs ⊢ <;>
    first
    | (cases hs; done)
    | exact hk _ _ _ _ hs
    | exact zi1_nat hs (fun _ _ hs => zsto_nat hs (fun _ hs => hk _ _ _ _ hs))
    | exact za1_nat hs (fun _ _ hs => zsto_nat hs (fun _ hs => hk _ _ _ _ hs))
    | exact zi2_nat hs (fun _ _ _ hs => hk _ _ _ _ hs)
    | exact zi2_nat hs (fun _ _ _ hs => zg_nat hs (hk _ _ _ _))
    | exact zi2_nat hs (fun _ _ _ hs => zb_nat hs (hk _ _ _ _) (hk _ _ _ _))
    | exact zi1_nat hs (fun _ _ hs => hk _ _ _ _ hs)
    | exact zi1_nat hs (fun _ _ hs => zb_nat hs (hk _ _ _ _) (hk _ _ _ _))
    | exact zi1_nat hs (fun _ _ hs => zsw_nat (fun _ hs => hk _ _ _ _ hs) hs)
    | exact zb_nat hs (hk _ _ _ _) (hk _ _ _ _)
    | exact zlv_nat hs (fun _ hs => zvi_nat hs (fun _ hs => hk _ _ _ _ hs))
    | exact zlv_nat hs (fun _ hs => zva_nat hs (fun _ hs => hk _ _ _ _ hs))
    | exact zlv_nat hs (fun _ hs => zvi_nat hs (fun _ hs => zsto_nat hs (fun _ hs => hk _ _ _ _ hs)))
    | exact za1_nat hs (fun _ _ hs => zsh_nat hs (fun _ _ hs => zg_nat hs (hk _ _ _ _)))
    | exact zald_nat hs (fun _ _ hs => hk _ _ _ _ hs)
    | exact zast_nat hs (fun _ _ hs => hk _ _ _ _ hs)
    | exact zlen_nat hs (fun _ _ hs => hk _ _ _ _ hs)
    | exact zb_nat hs (fun hs => zcopy_nat hs (fun _ _ hs => hk _ _ _ _ hs)) (fun hs => zb_nat hs (fun hs => zmath_nat hs (fun _ _ hs => hk _ _ _ _ hs)) (fun hs => zcall2_E hE hs (fun _ _ _ hs => hk _ _ _ _ hs)))
    | exact zb_nat hs (fun hs => zixof_nat hs (fun _ _ hs => hk _ _ _ _ hs)) (fun hs => zrecv_nat hs (fun hs => zcall2_E hE hs (fun _ _ _ hs => hk _ _ _ _ hs)))
    | (split at hs <;> first | (cases hs; done) | exact zg_nat hs (hk _ _ _ _) | exact zg_nat hs (hr _ _) | exact hr _ _ hs | exact zsh_nat hs (fun _ _ hs => zg_nat hs (fun hs => zput2_nat hs (fun _ hs => hk _ _ _ _ hs))))
end zst2e
theorem zR2_E {X : Nat × (Nat → Int32)} {FT : Nat → Nat → Nat} {E E2 : zTE} (hE : ∀ u args g o, E u args g = some (true, o) → E2 u args g = some (true, o)) {c : List (Nat × zQ)} {pc : Nat} {lv st : List Value} {h : zH2} {o : zO2} (hR : zR2 X FT E c pc lv st h o) : zR2 X FT E2 c pc lv st h o := by
  obtain ⟨n, hn⟩ := hR
  suffices hh : ∀ (n pc : Nat) (lv st : List Value) (h : zH2), zrun2 X FT E c n pc lv st h = some o → zrun2 X FT E2 c n pc lv st h = some o from ⟨n, hh _ _ _ _ _ hn⟩
  clear hn
  intro n
  induction n with
  | zero => intro _ _ _ _ h; cases h
  | succ n ih =>
    intro pc lv st h hn
    unfold zrun2 at hn ⊢
    cases hq : zfind c pc with
    | none => rw [hq] at hn; cases hn
    | some q =>
      rw [hq] at hn
      exact zst2_E hE hn (fun _ _ _ _ h => ih _ _ _ _ h) (fun _ _ h => h)
theorem zlift_of {E : Nat → List Value → zH2 → Option zO2} {u : Nat} {args : List Value} {g : zH2} {o : zO2} (h : E u args g = some o) : zlift E u args g = some (true, o) := by unfold zlift; rw [h]; rfl
/-- a table of contracts holds from depth D on -/
def zOkE (X : Nat × (Nat → Int32)) (E : zTE) (D : Nat) : Prop := ∀ (u : Nat) (args : List Value) (g : zH2) (o : zO2), E u args g = some (true, o) → ∀ d, D ≤ d → zex2 X zFT zC d u args g = some o
abbrev zSp : Type := List Value → zH2 → Option (Bool × zO2)
def zEx (U : Nat) (S : zSp) (E : zTE) : zTE := fun u args g => bif Nat.beq u U then S args g else E u args g
def zE0 : zTE := fun _ _ _ => none
theorem zOk0 (X : Nat × (Nat → Int32)) : zOkE X zE0 0 := fun _ _ _ _ h => by cases h
theorem zOk_ext {X : Nat × (Nat → Int32)} {E : zTE} {D U : Nat} {S : zSp} (h : zOkE X E D) (hS : ∀ args g o, S args g = some (true, o) → zR2 X zFT E (zC U) 0 args [] g o) : zOkE X (zEx U S E) (D + 1) := by
  intro u args g o he d hd
  obtain ⟨d, rfl⟩ : ∃ d', d = d' + 1 := ⟨d - 1, by omega⟩
  unfold zEx at he
  refine zb_el he (fun e he => ?_) (fun _ he => h u args g o he (d + 1) (by omega))
  rw [Nat.eq_of_beq_eq_true e]
  exact zex2_of (zR2_E (fun u args g o he => zlift_of (h u args g o he d (by omega))) (hS args g o he))
/-! loops -/
def zfo {σ : Type} (f : Nat → σ → σ) : Nat → Nat → σ → σ
  | 0, _, s => s
  | n + 1, k, s => zfo f n (k + 1) (f k s)
theorem zfo_last {σ : Type} (f : Nat → σ → σ) : ∀ (n k : Nat) (s : σ), zfo f (n + 1) k s = f (k + n) (zfo f n k s)
  | 0, k, s => rfl
  | n + 1, k, s => by
    have h := zfo_last f n (k + 1) (f k s)
    show zfo f (n + 1) (k + 1) (f k s) = _
    rw [h, show k + 1 + n = k + (n + 1) by omega]
    rfl
theorem zfo_congr {σ : Type} {f g : Nat → σ → σ} : ∀ (n k : Nat) (s : σ), (∀ j s, k ≤ j → j < k + n → f j s = g j s) → zfo f n k s = zfo g n k s
  | 0, _, _, _ => rfl
  | n + 1, k, s, h => by
    show zfo f n (k + 1) (f k s) = zfo g n (k + 1) (g k s)
    rw [h k s (Nat.le_refl _) (by omega)]
    exact zfo_congr n (k + 1) _ (fun j s h1 h2 => h j s (by omega) (by omega))
/-- a property that a loop keeps -/
theorem zfo_inv {σ : Type} {f : Nat → σ → σ} {P : Nat → σ → Prop} : ∀ (n k : Nat) (s : σ), P k s → (∀ j s, k ≤ j → j < k + n → P j s → P (j + 1) (f j s)) → P (k + n) (zfo f n k s)
  | 0, _, _, h, _ => h
  | n + 1, k, s, h, hs => by
    have h1 := zfo_inv n (k + 1) (f k s) (hs k s (Nat.le_refl _) (by omega) h) (fun j s h1 h2 h3 => hs j s (by omega) (by omega) h3)
    rw [show k + (n + 1) = k + 1 + n by omega]
    exact h1
/-- two loops in step -/
theorem zfo_rel {σ τ : Type} {f : Nat → σ → σ} {g : Nat → τ → τ} {P : Nat → σ → τ → Prop} : ∀ (n k : Nat) (s : σ) (t : τ), P k s t → (∀ j s t, k ≤ j → j < k + n → P j s t → P (j + 1) (f j s) (g j t)) → P (k + n) (zfo f n k s) (zfo g n k t)
  | 0, _, _, _, h, _ => h
  | n + 1, k, s, t, h, hs => by
    have h1 := zfo_rel n (k + 1) (f k s) (g k t) (hs k s t (Nat.le_refl _) (by omega) h) (fun j s t h1 h2 h3 => hs j s t (by omega) (by omega) h3)
    rw [show k + (n + 1) = k + 1 + n by omega]
    exact h1
/-- a loop of the machine that goes n rounds, each to the next: P k s is its state at round k -/
theorem zR2_loop {σ : Type} {X : Nat × (Nat → Int32)} {FT : Nat → Nat → Nat} {E : zTE} {c : List (Nat × zQ)} {o : zO2} (P : Nat → σ → Nat × List Value × List Value × zH2) (f : Nat → σ → σ) (I : Nat → σ → Prop) : ∀ (n k : Nat) (s : σ), I k s →
    (∀ j s, k ≤ j → j < k + n → I j s → (∃ (stops : Nat → Bool) (fuel : Nat), zseg X FT E c stops fuel (P j s).1 (P j s).2.1 (P j s).2.2.1 (P j s).2.2.2 = some (.inl (P (j + 1) (f j s)))) ∧ I (j + 1) (f j s)) →
    zR2 X FT E c (P (k + n) (zfo f n k s)).1 (P (k + n) (zfo f n k s)).2.1 (P (k + n) (zfo f n k s)).2.2.1 (P (k + n) (zfo f n k s)).2.2.2 o → zR2 X FT E c (P k s).1 (P k s).2.1 (P k s).2.2.1 (P k s).2.2.2 o
  | 0, k, s, _, _, h => h
  | n + 1, k, s, hI, hs, h => by
    obtain ⟨⟨stops, fuel, h1⟩, h2⟩ := hs k s (Nat.le_refl _) (by omega) hI
    refine zseg_go ?_ h1
    refine zR2_loop P f I n (k + 1) (f k s) h2 (fun j s h3 h4 h5 => hs j s (by omega) (by omega) h5) ?_
    rw [show k + 1 + n = k + (n + 1) by omega]
    exact h
/-! guards and branches brought to the outside -/
section zmerge
variable {α : Type}
theorem zm_g {c : Bool} {p : Bool} {t u : Option α} : (bif c then zg p t else u) = zg (bif c then p else true) (bif c then t else u) := by cases c <;> rfl
theorem zm_h {c : Bool} {p : Bool} {t u : Option α} : (bif c then t else zg p u) = zg (bif c then true else p) (bif c then t else u) := by cases c <;> rfl
theorem zm_gg {p q : Bool} {t : Option α} : zg p (zg q t) = zg (p && q) t := by cases p <;> rfl
theorem zm_s {c : Bool} {x y : α} : (bif c then some x else some y) = some (bif c then x else y) := by cases c <;> rfl
theorem zm_r {β : Type} {c : Bool} {x y : β} : (bif c then (Sum.inr x : α ⊕ β) else .inr y) = .inr (bif c then x else y) := by cases c <;> rfl
theorem zm_l {β : Type} {c : Bool} {x y : β} : (bif c then (Sum.inl x : β ⊕ α) else .inl y) = .inl (bif c then x else y) := by cases c <;> rfl
theorem zm_p {β : Type} {c : Bool} {x1 y1 : α} {x2 y2 : β} : (bif c then (x1, x2) else (y1, y2)) = (bif c then x1 else y1, bif c then x2 else y2) := by cases c <;> rfl
theorem zm_i {c : Bool} {x y : Int32} : (bif c then Value.int x else .int y) = .int (bif c then x else y) := by cases c <;> rfl
theorem zm_e {c : Bool} {x : α} : (bif c then x else x) = x := by cases c <;> rfl
theorem zm_c {c : Bool} {x y : α} {r s : List α} : (bif c then x :: r else y :: s) = (bif c then x else y) :: (bif c then r else s) := by cases c <;> rfl
theorem zg_of {p : Bool} {t : Option α} (h : p = true) : zg p t = t := by subst h; rfl
end zmerge
theorem zOk_many {X : Nat × (Nat → Int32)} {E : zTE} {D : Nat} (h : zOkE X E D) (l : List (Nat × zSp)) (hl : ∀ q ∈ l, ∀ args g o, q.2 args g = some (true, o) → zR2 X zFT E (zC q.1) 0 args [] g o) : zOkE X (l.foldr (fun q e => zEx q.1 q.2 e) E) (D + 1) := by
  intro u args g o he d hd
  obtain ⟨d, rfl⟩ : ∃ d', d = d' + 1 := ⟨d - 1, by omega⟩
  induction l with
  | nil => exact h u args g o he (d + 1) (by omega)
  | cons q l ih =>
    have he : (bif Nat.beq u q.1 then q.2 args g else l.foldr (fun q e => zEx q.1 q.2 e) E u args g) = some (true, o) := he
    refine zb_el he (fun e he => ?_) (fun _ he => ih (fun q hq => hl q (List.mem_cons_of_mem _ hq)) he)
    rw [Nat.eq_of_beq_eq_true e]
    exact zex2_of (zR2_E (fun u args g o he => zlift_of (h u args g o he d (by omega))) (hl q List.mem_cons_self args g o he))
/-! a method's own contract -/
def zOkS (X : Nat × (Nat → Int32)) (u : Nat) (S : zSp) (D : Nat) : Prop := ∀ (args : List Value) (g : zH2) (o : zO2), S args g = some (true, o) → ∀ d, D ≤ d → zex2 X zFT zC d u args g = some o
theorem zOkE_nil (X : Nat × (Nat → Int32)) (D : Nat) : zOkE X zE0 D := fun _ _ _ _ h => by cases h
theorem zOkE_cons {X : Nat × (Nat → Int32)} {E : zTE} {D D' u : Nat} {S : zSp} (hs : zOkS X u S D') (hD : D' ≤ D) (h : zOkE X E D) : zOkE X (zEx u S E) D := by
  intro v args g o he d hd
  unfold zEx at he
  refine zb_el he (fun e he => ?_) (fun _ he => h v args g o he d hd)
  rw [Nat.eq_of_beq_eq_true e]
  exact hs args g o he d (by omega)
theorem zOkS_new {X : Nat × (Nat → Int32)} {E : zTE} {D u : Nat} {S : zSp} (h : zOkE X E D) (hS : ∀ args g o, S args g = some (true, o) → zR2 X zFT E (zC u) 0 args [] g o) : zOkS X u S (D + 1) := by
  intro args g o he d hd
  obtain ⟨d, rfl⟩ : ∃ d', d = d' + 1 := ⟨d - 1, by omega⟩
  exact zex2_of (zR2_E (fun u args g o he => zlift_of (h u args g o he d (by omega))) (hS args g o he))
theorem zup_zup {α : Type} {f : Nat → α} {a : Nat} {x y : α} : zup (zup f a x) a y = zup f a y := by
  funext b
  by_cases h : b = a
  · subst h; rw [zup_same, zup_same]
  · rw [zup_ne h, zup_ne h, zup_ne h]
theorem zup_self {α : Type} {f : Nat → α} {a : Nat} : zup f a (f a) = f := by
  funext b
  by_cases h : b = a
  · subst h; rw [zup_same]
  · rw [zup_ne h]
theorem zup_comm {α : Type} {f : Nat → α} {a b : Nat} {x y : α} (h : a ≠ b) : zup (zup f a x) b y = zup (zup f b y) a x := by
  funext c
  by_cases h1 : c = a
  · subst h1; rw [zup_ne h, zup_same, zup_same]
  · by_cases h2 : c = b
    · subst h2; rw [zup_same, zup_ne h1, zup_same]
    · rw [zup_ne h2, zup_ne h1, zup_ne h1, zup_ne h2]
/-! numbers at a loop's round -/
theorem zin_nI {k n : Nat} (h : k < n) (hn : n ≤ 2147483648) : zin (nI k) n = true := by
  have h1 : (nI k).toNatClampNeg = k := nI_clamp (by omega)
  have h2 : ¬ nI k < 0 := nI_pos (by omega)
  unfold zin
  rw [h1, decide_eq_false h2]
  simp only [Bool.not_false, Bool.true_and, Nat.blt, Nat.ble_eq]
  omega
theorem nI_dle {a b : Nat} (ha : a < 2147483648) (hb : b < 2147483648) : decide (nI a ≤ nI b) = decide (a ≤ b) := by
  by_cases h : a ≤ b
  · rw [decide_eq_true h, decide_eq_true (nI_le h (by omega))]
  · rw [decide_eq_false h, decide_eq_false (nI_ge (by omega) (by omega))]
theorem nI_dlt {a b : Nat} (ha : a < 2147483648) (hb : b < 2147483648) : decide (nI a < nI b) = decide (a < b) := by
  by_cases h : a < b
  · rw [decide_eq_true h, decide_eq_true (nI_lt h (by omega))]
  · rw [decide_eq_false h, decide_eq_false (nI_nlt (by omega) (by omega))]
