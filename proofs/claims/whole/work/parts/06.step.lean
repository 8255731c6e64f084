/-! ===== the z-machine is the machine: eliminations, growth, one step, a run, a method ===== -/
section zel
variable {α : Type} {a : α} {P : Prop}
theorem zi1_el {st : List Value} {f : Int32 → List Value → Option α} (h : zi1 st f = some a) (k : ∀ x r, st = .int x :: r → f x r = some a → P) : P := by
  unfold zi1 at h; split at h <;> first | exact k _ _ rfl h | cases h
theorem zi2_el {st : List Value} {f : Int32 → Int32 → List Value → Option α} (h : zi2 st f = some a) (k : ∀ x y r, st = .int y :: .int x :: r → f x y r = some a → P) : P := by
  unfold zi2 at h; split at h <;> first | exact k _ _ _ rfl h | cases h
theorem za1_el {st : List Value} {f : Nat → List Value → Option α} (h : za1 st f = some a) (k : ∀ x r, st = .ref x :: r → f x r = some a → P) : P := by
  unfold za1 at h; split at h <;> first | exact k _ _ rfl h | cases h
theorem zg_el {c : Bool} {t : Option α} (h : zg c t = some a) (k : c = true → t = some a → P) : P := by
  cases c with
  | true => exact k rfl h
  | false => cases h
theorem ze_el {o : Option zO} {f : Option Value → zH → Option α} (h : ze o f = some a) (k : ∀ x r, o = some (x, r) → f x r = some a → P) : P := by
  unfold ze at h; split at h <;> first | exact k _ _ rfl h | cases h
theorem zsh_el {hp : zH} {x : Nat} {f : Nat → Nat → Option α} (h : zsh hp x f = some a) (k : ∀ c n, hp.1[x]? = some (c, n) → f c n = some a → P) : P := by
  unfold zsh at h
  split at h
  next q hq => exact k q.1 q.2 hq h
  next => cases h
theorem zlv_el {lv : List Value} {i : Nat} {f : Value → Option α} (h : zlv lv i f = some a) (k : ∀ v, lv[i]? = some v → f v = some a → P) : P := by
  unfold zlv at h
  split at h
  next q hq => exact k q hq h
  next => cases h
theorem zvi_el {v : Value} {f : Int32 → Option α} (h : zvi v f = some a) (k : ∀ x, v = .int x → f x = some a → P) : P := by
  unfold zvi at h; split at h <;> first | exact k _ rfl h | cases h
theorem zva_el {v : Value} {f : Value → Option α} (h : zva v f = some a) (k : zcat v = true → (∀ G : zG, ∃ q, zt G v = .ref q) → f v = some a → P) : P := by
  unfold zva at h
  split at h
  · exact k rfl (fun G => ⟨_, rfl⟩) h
  · exact k rfl (fun G => ⟨_, rfl⟩) h
  · cases h
theorem zsto_el {lv : List Value} {i : Nat} {v : Value} {f : List Value → Option α} (h : zsto lv i v f = some a) (k1 : i < lv.length → f (lv.set i v) = some a → P) (k2 : i = lv.length → f (lv ++ [v]) = some a → P) : P := by
  unfold zsto at h
  cases h1 : Nat.blt i lv.length <;> rw [h1] at h <;> simp only [cond_true, cond_false] at h
  · cases h2 : Nat.beq i lv.length <;> rw [h2] at h <;> simp only [cond_true, cond_false] at h
    · cases h
    · exact k2 (Nat.eq_of_beq_eq_true h2) h
  · exact k1 (by simp only [Nat.blt, Nat.ble_eq] at h1; omega) h
theorem zb_el {c : Bool} {t1 t2 : Option α} (h : (bif c then t1 else t2) = some a) (k1 : c = true → t1 = some a → P) (k2 : c = false → t2 = some a → P) : P := by
  cases c with
  | true => exact k1 rfl h
  | false => exact k2 rfl h
theorem zcall_el {E : Nat → List Value → zH → Option zO} {hp : zH} {st : List Value} {u n : Nat} {f : Option Value → List Value → zH → Option α} (h : zcall E hp st u n f = some a) (k : ∀ x z, n ≤ st.length → zrest (st.drop n) = true → st.all zcat = true → E u (st.take n).reverse hp = some (x, z) → f x (st.drop n) z = some a → P) : P :=
  zg_el h (fun hc h => ze_el h (fun x z hE h => by
    simp only [Bool.and_eq_true] at hc
    refine k x z (Nat.le_of_ble_eq_true hc.1) ?_ hc.2.2 hE h
    rw [zrest, hc.2.1, Bool.true_and, List.all_eq_true]
    exact fun y hy => List.all_eq_true.mp hc.2.2 y (List.mem_of_mem_drop hy)))
theorem zrecv_el {hp : zH} {as : List Value} {c : Nat} {t : Option α} (h : zrecv hp as c t = some a) (k : ∀ b r n, as = .ref b :: r → hp.1[b]? = some (c, n) → t = some a → P) : P := by
  unfold zrecv at h
  split at h
  · exact zsh_el h (fun c' n hc h => zg_el h (fun g h => k _ _ n rfl (by rw [hc, Nat.eq_of_beq_eq_true g]) h))
  · cases h
theorem zrecv1_el {as : List Value} {t : Option α} (h : zrecv1 as t = some a) (k : ∀ b r, as = .ref b :: r → t = some a → P) : P := by
  unfold zrecv1 at h; split at h <;> first | exact k _ _ rfl h | cases h
theorem zput_el {FT : Nat → Nat → Nat} {hp : zH} {c x y : Nat} {v : Value} {f : zH → Option α} (h : zput FT hp c x y v f = some a)
    (k1 : ∀ z, v = .int z → (FT c y = 0 ∨ (FT c y = 1 ∧ (z = 0 ∨ z = 1))) → f (hp.1, hp.2.1, zup hp.2.2.1 x (zup (hp.2.2.1 x) y z), hp.2.2.2) = some a → P)
    (k2 : ∀ z, v = .ref z → FT c y = 2 → f (hp.1, hp.2.1, hp.2.2.1, zup hp.2.2.2 x (zup (hp.2.2.2 x) y (.ref z))) = some a → P) : P := by
  unfold zput at h
  split at h
  · refine zg_el h (fun g h => k1 _ rfl ?_ h)
    simp only [Bool.or_eq_true, Bool.and_eq_true, decide_eq_true_eq] at g
    rcases g with g | ⟨g1, g2⟩
    · exact Or.inl (Nat.eq_of_beq_eq_true g)
    · exact Or.inr ⟨Nat.eq_of_beq_eq_true g1, g2⟩
  · exact zg_el h (fun g h => k2 _ rfl (Nat.eq_of_beq_eq_true g) h)
  · cases h
theorem zin_of {i : Int32} {n : Nat} (h : zin i n = true) : vp_in i n := by
  simp only [zin, Bool.and_eq_true, Bool.not_eq_true', decide_eq_false_iff_not] at h
  intro q
  rcases q with q | q
  · exact h.1 q
  · have h2 := h.2
    simp only [Nat.blt, Nat.ble_eq] at h2
    omega
theorem zald_el {X : Nat × (Nat → Int32)} {hp : zH} {kd : Nat → Bool} {st : List Value} {f : Int32 → List Value → Option α} (h : zald X hp kd st f = some a)
    (k1 : ∀ i x r c n, st = .int i :: .ref x :: r → hp.1[x]? = some (c, n) → kd c = true → vp_in i n → f (hp.2.1 x i.toNatClampNeg) r = some a → P)
    (k2 : ∀ i r, st = .int i :: .float 0 :: r → kd 16 = true → vp_in i X.1 → f (X.2 i.toNatClampNeg) r = some a → P) : P := by
  unfold zald at h
  split at h
  · exact zsh_el h (fun c n hc h => zg_el h (fun g h => by rw [Bool.and_eq_true] at g; exact k1 _ _ _ c n rfl hc g.1 (zin_of g.2) h))
  · exact zg_el h (fun g h2 => by
      simp only [Bool.and_eq_true, decide_eq_true_eq] at g
      obtain ⟨g1, g2, g3⟩ := g
      exact k2 _ _ (by rw [g2]) g1 (zin_of g3) h2)
  · cases h
theorem zast_el {hp : zH} {kd : Nat → Bool} {st : List Value} {f : List Value → zH → Option α} (h : zast hp kd st f = some a)
    (k : ∀ v i x r c n, st = .int v :: .int i :: .ref x :: r → hp.1[x]? = some (c, n) → kd c = true → vp_in i n → f r (hp.1, zup hp.2.1 x (zup (hp.2.1 x) i.toNatClampNeg (znar c v)), hp.2.2) = some a → P) : P := by
  unfold zast at h
  split at h
  · exact zsh_el h (fun c n hc h => zg_el h (fun g h => by rw [Bool.and_eq_true] at g; exact k _ _ _ _ c n rfl hc g.1 (zin_of g.2) h))
  · cases h
theorem zlen_el {X : Nat × (Nat → Int32)} {hp : zH} {st : List Value} {f : Int32 → List Value → Option α} (h : zlen X hp st f = some a)
    (k1 : ∀ x r c n, st = .ref x :: r → hp.1[x]? = some (c, n) → 16 ≤ c → f (Int32.ofNat n) r = some a → P)
    (k2 : ∀ r, st = .float 0 :: r → f (Int32.ofNat X.1) r = some a → P) : P := by
  unfold zlen at h
  split at h
  · exact zsh_el h (fun c n hc h => zg_el h (fun g h => k1 _ _ c n rfl hc (Nat.le_of_ble_eq_true g) h))
  · exact zg_el h (fun g h2 => k2 _ (by rw [of_decide_eq_true g]) h2)
  · cases h
theorem zcopy_el {hp : zH} {st : List Value} {f : List Value → zH → Option α} (h : zcopy hp st f = some a)
    (k : ∀ n dp d sp s r n0 n1, st = .int n :: .int dp :: .ref d :: .int sp :: .ref s :: r → hp.1[s]? = some (16, n0) → hp.1[d]? = some (16, n1) → ¬ sp < 0 → ¬ dp < 0 → ¬ n < 0 → sp.toNatClampNeg + n.toNatClampNeg ≤ n0 → dp.toNatClampNeg + n.toNatClampNeg ≤ n1 → zrest r = true →
      f r (hp.1, zup hp.2.1 d (va_cpy (hp.2.1 s) (hp.2.1 d) sp.toNatClampNeg dp.toNatClampNeg n.toNatClampNeg), hp.2.2) = some a → P) : P := by
  unfold zcopy at h
  split at h
  · refine zsh_el h (fun c0 n0 h0 h => zsh_el h (fun c1 n1 h1 h => zg_el h (fun g h => ?_)))
    simp only [Bool.and_eq_true, Bool.not_eq_true', decide_eq_false_iff_not, Nat.ble_eq] at g
    obtain ⟨⟨⟨⟨⟨⟨⟨⟨g1, g2⟩, g3⟩, g4⟩, g5⟩, g6⟩, g7⟩, g8⟩, g9⟩ := g
    refine k _ _ _ _ _ _ n0 n1 rfl (by rw [h0, Nat.eq_of_beq_eq_true g1]) (by rw [h1, Nat.eq_of_beq_eq_true g2]) g3 g4 g5 g6 g7 ?_ h
    rw [zrest, g9, Bool.and_true]
    exact Nat.ble_eq.mpr g8
  · cases h
theorem zixof_el {st : List Value} {f : Int32 → List Value → Option α} (h : zixof st f = some a) (k : ∀ c r, st = .int c :: .float 1 :: r → zrest r = true → f (zix c) r = some a → P) : P := by
  unfold zixof at h
  split at h
  · refine zg_el h (fun g h2 => ?_)
    rw [Bool.and_eq_true] at g
    exact k _ _ (by rw [of_decide_eq_true g.1]) g.2 h2
  · cases h
theorem zmath_el {u : Nat} {st : List Value} {f : Int32 → List Value → Option α} (h : zmath u st f = some a)
    (k1 : ∀ x y r, u = 903 → st = .int y :: .int x :: r → zrest r = true → f (if x < y then y else x) r = some a → P)
    (k2 : ∀ x y r, u = 904 → st = .int y :: .int x :: r → zrest r = true → f (if y < x then y else x) r = some a → P)
    (k3 : ∀ x r, u ≠ 903 → u ≠ 904 → st = .int x :: r → zrest r = true → f (if 0 ≤ x then x else 0 - x) r = some a → P) : P :=
  zb_el h (fun g h => zi2_el h (fun x y r hs h => zg_el h (fun g2 h => k1 x y r (Nat.eq_of_beq_eq_true g) hs g2 h)))
    (fun g h => zb_el h (fun g' h => zi2_el h (fun x y r hs h => zg_el h (fun g2 h => k2 x y r (Nat.eq_of_beq_eq_true g') hs g2 h)))
      (fun g' h => zi1_el h (fun x r hs h => zg_el h (fun g2 h => k3 x r (Nat.ne_of_beq_eq_false g) (Nat.ne_of_beq_eq_false g') hs g2 h))))
theorem zsw_el {d : Nat} {x : Int32} {f : Nat → Option α} (k : ∀ t, f t = some a → P) : ∀ {l : List (Int32 × Nat)}, zsw l d x f = some a → P
  | [], h => k _ h
  | q :: r, h => by
    unfold zsw at h
    exact zb_el h (fun _ h => k _ h) (fun _ h => zsw_el k h)
/-! switches -/
theorem zckt_el {pc d : Nat} {x : Int32} {f : Nat → Option α} : ∀ {lo : Int} {sw : List (Int32 × Nat)} {os : List Int}, zckt pc lo sw os = true → zsw sw d x f = some a →
    (∃ (j : Nat) (off : Int) (t : Nat), os[j]? = some off ∧ x.toInt = lo + (j : Int) ∧ (pc : Int) + off = (t : Int) ∧ f t = some a) ∨ ((x.toInt < lo ∨ lo + (os.length : Int) ≤ x.toInt) ∧ f d = some a)
  | lo, [], [], _, h => Or.inr ⟨by simp; omega, h⟩
  | lo, [], _ :: _, g, _ => by cases g
  | lo, _ :: _, [], g, _ => by cases g
  | lo, q :: sw, o :: os, g, h => by
    simp only [zckt, Bool.and_eq_true, decide_eq_true_eq] at g
    obtain ⟨g1, g2, g3⟩ := g
    unfold zsw at h
    by_cases hx : x = q.1
    · rw [decide_eq_true hx] at h
      exact Or.inl ⟨0, o, q.2, rfl, by rw [hx, g1]; simp, g2, h⟩
    · rw [decide_eq_false hx] at h
      have hne : x.toInt ≠ lo := fun e => hx (Int32.toInt_inj.mp (by rw [e, g1]))
      rcases zckt_el g3 h with ⟨j, off, t, e1, e2, e3, e4⟩ | ⟨e1, e2⟩
      · exact Or.inl ⟨j + 1, off, t, by simpa using e1, by rw [e2]; push_cast; omega, e3, e4⟩
      · refine Or.inr ⟨?_, e2⟩
        simp only [List.length_cons]
        push_cast
        omega
theorem zckl_el {pc d : Nat} {dd : Int} (hd : (pc : Int) + dd = (d : Int)) {x : Int32} {f : Nat → Option α} : ∀ {sw : List (Int32 × Nat)} {ps : List (Int × Int)}, zckl pc sw ps = true → zsw sw d x f = some a →
    ∃ t : Nat, (pc : Int) + Op.lookupswitch.offset ps dd x.toInt = (t : Int) ∧ f t = some a
  | [], [], _, h => ⟨d, by rw [← hd]; rfl, h⟩
  | [], _ :: _, g, _ => by cases g
  | _ :: _, [], g, _ => by cases g
  | q :: sw, o :: os, g, h => by
    simp only [zckl, Bool.and_eq_true, decide_eq_true_eq] at g
    obtain ⟨g1, g2, g3⟩ := g
    unfold zsw at h
    by_cases hx : x = q.1
    · rw [decide_eq_true hx] at h
      refine ⟨q.2, ?_, h⟩
      rw [← g2, Op.lookupswitch.offset_cons, if_pos (by rw [hx, g1])]
    · rw [decide_eq_false hx] at h
      obtain ⟨t, e1, e2⟩ := zckl_el hd g3 h
      exact ⟨t, by obtain ⟨o1, o2⟩ := o; rw [lv_osw hx g1]; exact e1, e2⟩
end zel
/-! the heap grows -/
def zle (h h' : zH) : Prop := h.1.length ≤ h'.1.length ∧ zsz h ≤ zsz h'
theorem zle.rf (h : zH) : zle h h := ⟨Nat.le_refl _, Nat.le_refl _⟩
theorem zle.tr {h1 h2 h3 : zH} (a : zle h1 h2) (b : zle h2 h3) : zle h1 h3 := ⟨Nat.le_trans a.1 b.1, Nat.le_trans a.2 b.2⟩
theorem zle.push {h : zH} {q : Nat × Nat} {r : (Nat → Nat → Int32) × (Nat → Nat → Int32) × (Nat → Nat → Value)} : zle h (h.1 ++ [q], r) := ⟨by simp, by rw [zsz_push]; omega⟩
theorem zle.same {h : zH} {r : (Nat → Nat → Int32) × (Nat → Nat → Int32) × (Nat → Nat → Value)} : zle h (h.1, r) := ⟨Nat.le_refl _, Nat.le_refl _⟩
def zEm (E : Nat → List Value → zH → Option zO) : Prop := ∀ u args h o, E u args h = some o → zle h o.2
set_option maxHeartbeats 4000000 in
theorem zst_grow {α : Type} {a : α} {P : Prop} {X : Nat × (Nat → Int32)} {FT : Nat → Nat → Nat} {E : Nat → List Value → zH → Option zO} (hE : zEm E) {q : zQ} {pc : Nat} {lv st : List Value} {h : zH} {k : Nat → List Value → List Value → zH → Option α} {ret : Option Value → zH → Option α}
    (hs : zst X FT E q pc lv st h k ret = some a) (hk : ∀ pc lv st h', zle h h' → k pc lv st h' = some a → P) (hr : ∀ r h', zle h h' → ret r h' = some a → P) : P := by
  obtain ⟨i, len, r1, r2, x, sw, tr⟩ := q
  have k0 : ∀ {pc lv st}, k pc lv st h = some a → P := fun e => hk _ _ _ _ (zle.rf h) e
  cases i <;> dsimp only [zst] at hs <;>
    first
    | (cases hs; done)
    | exact k0 hs
    | exact hk _ _ _ _ zle.push hs
    | exact zi1_el hs (fun _ _ _ hs => zsto_el hs (fun _ hs => k0 hs) (fun _ hs => k0 hs))
    | exact za1_el hs (fun _ _ _ hs => zsto_el hs (fun _ hs => k0 hs) (fun _ hs => k0 hs))
    | exact zi2_el hs (fun _ _ _ _ hs => k0 hs)
    | exact zi2_el hs (fun _ _ _ _ hs => zg_el hs (fun _ hs => k0 hs))
    | exact zi2_el hs (fun _ _ _ _ hs => zb_el hs (fun _ hs => k0 hs) (fun _ hs => k0 hs))
    | exact zi1_el hs (fun _ _ _ hs => k0 hs)
    | exact zi1_el hs (fun _ _ _ hs => zg_el hs (fun _ hs => hk _ _ _ _ zle.push hs))
    | exact zi1_el hs (fun _ _ _ hs => zb_el hs (fun _ hs => k0 hs) (fun _ hs => k0 hs))
    | exact zi1_el hs (fun _ _ _ hs => zsw_el (fun _ hs => k0 hs) hs)
    | exact zb_el hs (fun _ hs => k0 hs) (fun _ hs => k0 hs)
    | exact zlv_el hs (fun _ _ hs => zvi_el hs (fun _ _ hs => k0 hs))
    | exact zlv_el hs (fun _ _ hs => zva_el hs (fun _ _ hs => k0 hs))
    | exact zlv_el hs (fun _ _ hs => zvi_el hs (fun _ _ hs => zsto_el hs (fun _ hs => k0 hs) (fun _ hs => k0 hs)))
    | exact za1_el hs (fun _ _ _ hs => zsh_el hs (fun _ _ _ hs => zg_el hs (fun _ hs => k0 hs)))
    | exact zald_el hs (fun _ _ _ _ _ _ _ _ _ hs => k0 hs) (fun _ _ _ _ _ hs => k0 hs)
    | exact zast_el hs (fun _ _ _ _ _ _ _ _ _ _ hs => hk _ _ _ _ zle.same hs)
    | exact zlen_el hs (fun _ _ _ _ _ _ _ hs => k0 hs) (fun _ _ hs => k0 hs)
    | exact zb_el hs (fun _ hs => za1_el hs (fun _ _ _ hs => zg_el hs (fun _ hs => k0 hs))) (fun _ hs => zrecv1_el hs (fun _ _ _ hs => zcall_el hs (fun _ _ _ _ _ e hs => hk _ _ _ _ (hE _ _ _ _ e) hs)))
    | exact zb_el hs (fun _ hs => zcopy_el hs (fun _ _ _ _ _ _ _ _ _ _ _ _ _ _ _ _ _ hs => hk _ _ _ _ zle.same hs)) (fun _ hs => zb_el hs (fun _ hs => zmath_el hs (fun _ _ _ _ _ _ hs => k0 hs) (fun _ _ _ _ _ _ hs => k0 hs) (fun _ _ _ _ _ _ hs => k0 hs)) (fun _ hs => zcall_el hs (fun _ _ _ _ _ e hs => hk _ _ _ _ (hE _ _ _ _ e) hs)))
    | exact zb_el hs (fun _ hs => zixof_el hs (fun _ _ _ _ hs => k0 hs)) (fun _ hs => zrecv_el hs (fun _ _ _ _ _ hs => zcall_el hs (fun _ _ _ _ _ e hs => hk _ _ _ _ (hE _ _ _ _ e) hs)))
    | (split at hs <;> first | (cases hs; done) | exact zg_el hs (fun _ hs => k0 hs) | exact zg_el hs (fun _ hs => hr _ _ (zle.rf h) hs) | exact hr _ _ (zle.rf h) hs | exact zsh_el hs (fun _ _ _ hs => zg_el hs (fun _ hs => zput_el hs (fun _ _ _ hs => hk _ _ _ _ zle.same hs) (fun _ _ _ hs => hk _ _ _ _ zle.same hs))))
theorem zrun_grow {X : Nat × (Nat → Int32)} {FT : Nat → Nat → Nat} {E : Nat → List Value → zH → Option zO} (hE : zEm E) {c : List (Nat × zQ)} : ∀ {n pc : Nat} {lv st : List Value} {h : zH} {o : zO}, zrun X FT E c n pc lv st h = some o → zle h o.2
  | 0, _, _, _, _, _, h => by cases h
  | n + 1, pc, lv, st, hp, o, h => by
    unfold zrun at h
    cases hq : zfind c pc with
    | none => rw [hq] at h; cases h
    | some q =>
      rw [hq] at h
      exact zst_grow hE h (fun _ _ _ _ l h => l.tr (zrun_grow hE h)) (fun _ _ l h => by cases h; exact l)
theorem zex_grow {X : Nat × (Nat → Int32)} {FT : Nat → Nat → Nat} {C : Nat → List (Nat × zQ)} : ∀ d, zEm (zex X FT C d)
  | 0 => fun u args h o e => by cases e
  | d + 1 => fun u args h o e => by
    obtain ⟨n, hn⟩ := zex_to e
    exact zrun_grow (zex_grow d) hn
