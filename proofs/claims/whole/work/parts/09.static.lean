def SH : List (Nat × Nat) := [(10, 15), (16, 260), (7, 11), (16, 96), (16, 96), (16, 96), (16, 24), (16, 24), (16, 24), (7, 11), (16, 96), (16, 96), (16, 96), (16, 24), (16, 24), (16, 24), (7, 11), (16, 96), (16, 96), (16, 96), (16, 24), (16, 24), (16, 24), (4, 10), (16, 240), (16, 240), (16, 32), (16, 16), (16, 16), (16, 16), (16, 16), (4, 10), (16, 240), (16, 240), (16, 32), (16, 16), (16, 16), (16, 16), (16, 16), (5, 1), (8, 5), (16, 0), (9, 2), (16, 96), (8, 5), (16, 0), (6, 1), (8, 5), (16, 0), (2, 2), (16, 9), (16, 96), (3, 6), (16, 96), (16, 96), (16, 96), (16, 96), (1, 5), (18, 96), (18, 384), (16, 192), (16, 192), (0, 1), (16, 10), (11, 46), (16, 315), (16, 315), (16, 315), (16, 96), (16, 96), (17, 260), (16, 260), (16, 260), (16, 16), (16, 16), (16, 16), (16, 16), (16, 260), (16, 16), (16, 16), (16, 16), (16, 16), (16, 260), (16, 9), (16, 96), (18, 96), (16, 96), (16, 192), (16, 96), (16, 96), (16, 192), (16, 192), (16, 96), (16, 96), (16, 10)]
/-- the law in force, the law drafted, the three texts' bytes -/
abbrev zM5 : Type := Nat × Nat × Nat × Nat × Nat
def RFl (m : zM5) : List (List Value) := [
  [.ref 1, .null, .ref 2, .ref 9, .ref 16, .null, .ref m.1, .ref m.2.1, .ref 39, .ref 42, .ref 46, .ref 49, .ref 52, .ref 57, .ref 62],
  [],
  [.ref 3, .ref 4, .ref 5, .ref 6, .ref 7, .ref 8, .null, .null, .null, .null, .null],
  [],
  [],
  [],
  [],
  [],
  [],
  [.ref 10, .ref 11, .ref 12, .ref 13, .ref 14, .ref 15, .null, .null, .null, .null, .null],
  [],
  [],
  [],
  [],
  [],
  [],
  [.ref 17, .ref 18, .ref 19, .ref 20, .ref 21, .ref 22, .null, .null, .null, .null, .null],
  [],
  [],
  [],
  [],
  [],
  [],
  [.ref 24, .ref 25, .ref 26, .ref 27, .ref 28, .ref 29, .ref 30, .null, .null, .null],
  [],
  [],
  [],
  [],
  [],
  [],
  [],
  [.ref 32, .ref 33, .ref 34, .ref 35, .ref 36, .ref 37, .ref 38, .null, .null, .null],
  [],
  [],
  [],
  [],
  [],
  [],
  [],
  [.ref 40],
  [.ref m.2.2.1, .null, .null, .null, .null],
  [],
  [.ref 43, .ref 44],
  [],
  [.ref m.2.2.2.1, .null, .null, .null, .null],
  [],
  [.ref 47],
  [.ref m.2.2.2.2, .null, .null, .null, .null],
  [],
  [.ref 50, .ref 51],
  [],
  [],
  [.ref 53, .null, .ref 54, .null, .ref 55, .ref 56],
  [],
  [],
  [],
  [],
  [.ref 58, .ref 59, .ref 60, .ref 61, .null],
  [],
  [],
  [],
  [],
  [.ref 63],
  [],
  [.ref 65, .ref 66, .ref 67, .ref 68, .ref 69, .ref 70, .null, .null, .null, .null, .null, .null, .null, .null, .null, .null, .ref 71, .ref 72, .ref 73, .ref 74, .ref 75, .ref 76, .ref 77, .ref 78, .ref 79, .ref 80, .ref 81, .ref 82, .ref 83, .ref 84, .null, .null, .null, .ref 85, .null, .ref 86, .ref 87, .ref 88, .ref 89, .ref 90, .null, .ref 91, .ref 92, .ref 93, .ref 94, .null],
  [],
  [],
  [],
  [],
  [],
  [],
  [],
  [],
  [],
  [],
  [],
  [],
  [],
  [],
  [],
  [],
  [],
  [],
  [],
  [],
  [],
  [],
  [],
  [],
  [],
  [],
  [],
  [],
  [],
  []]
def RFf (m : zM5) : Nat → Nat → Value := fun a k => ((RFl m).getD a []).getD k .null
abbrev zH2 : Type := (Nat → Nat → Int32) × (Nat → Nat → Int32) × zM5
abbrev zO2 : Type := Option Value × zH2
/-- a table of contracts: a guard, and the answer where the guard holds -/
abbrev zTE : Type := Nat → List Value → zH2 → Option (Bool × zO2)
def emb (g : zH2) : zH := (SH, g.1, g.2.1, RFf g.2.2)
section zst2s
variable {α : Type}
def ze2 (o : Option (Bool × zO2)) (f : Option Value → zH2 → Option α) : Option α := match o with
  | some q => zg q.1 (f q.2.1 q.2.2)
  | none => none
def zcall2 (E : zTE) (g : zH2) (st : List Value) (u n : Nat) (f : Option Value → List Value → zH2 → Option α) : Option α :=
  zg (Nat.ble n st.length && (Nat.ble (st.drop n).length 8 && st.all zcat)) (ze2 (E u (st.take n).reverse g) (fun r g' => f r (st.drop n) g'))
def zputm (m : zM5) (a k b : Nat) (f : zM5 → Option α) : Option α :=
  bif Nat.beq a 0 then (bif Nat.beq k 6 then f (b, m.2) else bif Nat.beq k 7 then f (m.1, b, m.2.2) else none)
  else bif Nat.beq k 0 then (bif Nat.beq a 40 then f (m.1, m.2.1, b, m.2.2.2) else bif Nat.beq a 44 then f (m.1, m.2.1, m.2.2.1, b, m.2.2.2.2) else bif Nat.beq a 47 then f (m.1, m.2.1, m.2.2.1, m.2.2.2.1, b) else none)
  else none
def zput2 (FT : Nat → Nat → Nat) (g : zH2) (c a k : Nat) (v : Value) (f : zH2 → Option α) : Option α := match v with
  | .int x => zg (Nat.beq (FT c k) 0 || (Nat.beq (FT c k) 1 && (decide (x = 0) || decide (x = 1)))) (f (g.1, zup g.2.1 a (zup (g.2.1 a) k x), g.2.2))
  | .ref b => zg (Nat.beq (FT c k) 2) (zputm g.2.2 a k b (fun m => f (g.1, g.2.1, m)))
  | _ => none
def zst2 (X : Nat × (Nat → Int32)) (FT : Nat → Nat → Nat) (E : zTE) (q : zQ) (pc : Nat) (lv st : List Value) (g : zH2) (k : Nat → List Value → List Value → zH2 → Option α) (ret : Option Value → zH2 → Option α) : Option α :=
  match q with
  | (i, _, r1, r2, x, sw, _) => match i with
    | .iconst _ => k (pc + 1) lv (.int x :: st) g
    | .bipush _ => k (pc + 2) lv (.int x :: st) g
    | .sipush _ => k (pc + 3) lv (.int x :: st) g
    | .ldc _ => bif Nat.beq r1 0 then k (pc + 2) lv (.int x :: st) g else k (pc + 2) lv (.float 1 :: st) g
    | .ldc_w _ => k (pc + 3) lv (.int x :: st) g
    | .iload _ => zlv lv r1 (fun v => zvi v (fun y => k (pc + 2) lv (.int y :: st) g))
    | .iload_n _ => zlv lv r1 (fun v => zvi v (fun y => k (pc + 1) lv (.int y :: st) g))
    | .aload _ => zlv lv r1 (fun v => zva v (fun y => k (pc + 2) lv (y :: st) g))
    | .aload_n _ => zlv lv r1 (fun v => zva v (fun y => k (pc + 1) lv (y :: st) g))
    | .istore _ => zi1 st (fun y r => zsto lv r1 (.int y) (fun lv => k (pc + 2) lv r g))
    | .istore_n _ => zi1 st (fun y r => zsto lv r1 (.int y) (fun lv => k (pc + 1) lv r g))
    | .astore _ => za1 st (fun y r => zsto lv r1 (.ref y) (fun lv => k (pc + 2) lv r g))
    | .astore_n _ => za1 st (fun y r => zsto lv r1 (.ref y) (fun lv => k (pc + 1) lv r g))
    | .iinc _ _ => zlv lv r1 (fun v => zvi v (fun y => zsto lv r1 (.int (y + x)) (fun lv => k (pc + 3) lv st g)))
    | .iadd => zi2 st (fun x y r => k (pc + 1) lv (.int (x + y) :: r) g)
    | .isub => zi2 st (fun x y r => k (pc + 1) lv (.int (x - y) :: r) g)
    | .imul => zi2 st (fun x y r => k (pc + 1) lv (.int (x * y) :: r) g)
    | .iand => zi2 st (fun x y r => k (pc + 1) lv (.int (x &&& y) :: r) g)
    | .ior => zi2 st (fun x y r => k (pc + 1) lv (.int (x ||| y) :: r) g)
    | .ixor => zi2 st (fun x y r => k (pc + 1) lv (.int (x ^^^ y) :: r) g)
    | .idiv => zi2 st (fun x y r => zg (!decide (y = 0)) (k (pc + 1) lv (.int (x / y) :: r) g))
    | .irem => zi2 st (fun x y r => zg (!decide (y = 0)) (k (pc + 1) lv (.int (x - x / y * y) :: r) g))
    | .ishl => zi2 st (fun x y r => k (pc + 1) lv (.int (x <<< (y &&& 31)) :: r) g)
    | .ishr => zi2 st (fun x y r => k (pc + 1) lv (.int (x >>> (y &&& 31)) :: r) g)
    | .iushr => zi2 st (fun x y r => k (pc + 1) lv (.int (x.toUInt32 >>> (y.toUInt32 &&& Int32.toUInt32 31)).toInt32 :: r) g)
    | .ineg => zi1 st (fun x r => k (pc + 1) lv (.int (-x) :: r) g)
    | .i2b => zi1 st (fun x r => k (pc + 1) lv (.int x.toInt8.toInt32 :: r) g)
    | .i2c => zi1 st (fun x r => k (pc + 1) lv (.int (x.toUInt32 % 65536).toInt32 :: r) g)
    | .dup => match st with
      | v :: r => zg (zcat v) (k (pc + 1) lv (v :: v :: r) g)
      | _ => none
    | .pop => match st with
      | v :: r => zg (zcat v) (k (pc + 1) lv r g)
      | _ => none
    | .goto _ => k r1 lv st g
    | .if_icmp c _ => zi2 st (fun x y r => bif zcmp c x y then k r1 lv r g else k (pc + 3) lv r g)
    | .ifCond c _ => zi1 st (fun x r => bif zcmp c x 0 then k r1 lv r g else k (pc + 3) lv r g)
    | .tableswitch _ _ _ _ => zi1 st (fun x r => zsw sw r1 x (fun t => k t lv r g))
    | .lookupswitch _ _ => zi1 st (fun x r => zsw sw r1 x (fun t => k t lv r g))
    | .getfield _ => za1 st (fun a r => zsh (emb g) a (fun c n => zg (Nat.beq c r1 && Nat.blt r2 n) (k (pc + 3) lv (zfv FT (emb g) r1 a r2 :: r) g)))
    | .putfield _ => match st with
      | v :: .ref a :: r => zsh (emb g) a (fun c n => zg (Nat.beq c r1 && Nat.blt r2 n) (zput2 FT g r1 a r2 v (fun g => k (pc + 3) lv r g)))
      | _ => none
    | .iaload => zald X (emb g) (fun c => Nat.beq c 16) st (fun v r => k (pc + 1) lv (.int v :: r) g)
    | .baload => zald X (emb g) (fun c => Nat.beq c 17 || Nat.beq c 18) st (fun v r => k (pc + 1) lv (.int v :: r) g)
    | .iastore => zast (emb g) (fun c => Nat.beq c 16) st (fun r h => k (pc + 1) lv r (h.2.1, g.2))
    | .bastore => zast (emb g) (fun c => Nat.beq c 17 || Nat.beq c 18) st (fun r h => k (pc + 1) lv r (h.2.1, g.2))
    | .arraylength => zlen X (emb g) st (fun v r => k (pc + 1) lv (.int v :: r) g)
    | .invokestatic _ => bif Nat.beq r1 901 then zcopy (emb g) st (fun r h => k (pc + 3) lv r (h.2.1, g.2)) else bif Nat.ble 903 r1 then zmath r1 st (fun v r => k (pc + 3) lv (.int v :: r) g) else zcall2 E g st r1 (r2 % 32) (fun v r g => k (pc + 3) lv (v.toList ++ r) g)
    | .invokevirtual _ => bif Nat.beq r1 902 then zixof st (fun v r => k (pc + 3) lv (.int v :: r) g) else zrecv (emb g) (st.take (r2 % 32)).reverse (r2 / 32) (zcall2 E g st r1 (r2 % 32) (fun v r g => k (pc + 3) lv (v.toList ++ r) g))
    | .ireturn => match st with
      | [.int v] => zg (Nat.beq r1 0 || (decide (v = 0) || decide (v = 1))) (ret (some (.int v)) g)
      | _ => none
    | .return_ => match st with
      | [] => ret none g
      | _ => none
    | _ => none
end zst2s
def zrun2 (X : Nat × (Nat → Int32)) (FT : Nat → Nat → Nat) (E : zTE) (c : List (Nat × zQ)) : Nat → Nat → List Value → List Value → zH2 → Option zO2
  | 0, _, _, _, _ => none
  | n + 1, pc, lv, st, h => match zfind c pc with
    | none => none
    | some q => zst2 X FT E q pc (ztrim q lv) st h (fun pc lv st h => zrun2 X FT E c n pc lv st h) (fun r h => some (r, h))
def zR2 (X : Nat × (Nat → Int32)) (FT : Nat → Nat → Nat) (E : zTE) (c : List (Nat × zQ)) (pc : Nat) (lv st : List Value) (h : zH2) (o : zO2) : Prop := ∃ n, zrun2 X FT E c n pc lv st h = some o
def zlift (E : Nat → List Value → zH2 → Option zO2) : zTE := fun u args g => (E u args g).map (fun o => (true, o))
noncomputable def zex2 (X : Nat × (Nat → Int32)) (FT : Nat → Nat → Nat) (C : Nat → List (Nat × zQ)) : Nat → Nat → List Value → zH2 → Option zO2
  | 0, _, _, _ => none
  | d + 1, u, args, h => @dite _ (∃ o, zR2 X FT (zlift (zex2 X FT C d)) (C u) 0 args [] h o) (Classical.propDecidable _) (fun hh => some (Classical.choose hh)) (fun _ => none)
/-- a stop: the locals that are dead there are dropped -/
def zstop (c : List (Nat × zQ)) (pc : Nat) (lv st : List Value) (h : zH2) : Option ((Nat × List Value × List Value × zH2) ⊕ zO2) := match zfind c pc with
  | some q => some (.inl (pc, ztrim q lv, st, h))
  | none => none
/-- a stretch: to the next of the places 'stops', or to the end -/
def zseg (X : Nat × (Nat → Int32)) (FT : Nat → Nat → Nat) (E : zTE) (c : List (Nat × zQ)) (stops : Nat → Bool) : Nat → Nat → List Value → List Value → zH2 → Option ((Nat × List Value × List Value × zH2) ⊕ zO2)
  | 0, _, _, _, _ => none
  | n + 1, pc, lv, st, h => match zfind c pc with
    | none => none
    | some q => zst2 X FT E q pc (ztrim q lv) st h (fun pc lv st h => bif stops pc then zstop c pc lv st h else zseg X FT E c stops n pc lv st h) (fun r h => some (.inr (r, h)))
section znat2
variable {α β : Type} {a : α} {b : β}
theorem ze2_nat {o : Option (Bool × zO2)} {f : Option Value → zH2 → Option α} {g : Option Value → zH2 → Option β} (h : ze2 o f = some a) (k : ∀ x r, f x r = some a → g x r = some b) : ze2 o g = some b := by
  unfold ze2 at *; split at h <;> first | exact zg_nat h (k _ _) | cases h
theorem zcall2_nat {E : zTE} {hp : zH2} {st : List Value} {u n : Nat} {f : Option Value → List Value → zH2 → Option α} {g : Option Value → List Value → zH2 → Option β} (h : zcall2 E hp st u n f = some a) (k : ∀ x y z, f x y z = some a → g x y z = some b) : zcall2 E hp st u n g = some b :=
  zg_nat h (fun h => ze2_nat h (fun _ _ h => k _ _ _ h))
theorem zputm_nat {m : zM5} {x y z : Nat} {f : zM5 → Option α} {g : zM5 → Option β} (h : zputm m x y z f = some a) (k : ∀ x, f x = some a → g x = some b) : zputm m x y z g = some b := by
  unfold zputm at *
  refine zb_nat h (fun h => zb_nat h (k _) (fun h => zb_nat h (k _) (fun h => by cases h))) (fun h => zb_nat h (fun h => zb_nat h (k _) (fun h => zb_nat h (k _) (fun h => zb_nat h (k _) (fun h => by cases h)))) (fun h => by cases h))
theorem zput2_nat {FT : Nat → Nat → Nat} {hp : zH2} {c x y : Nat} {v : Value} {f : zH2 → Option α} {g : zH2 → Option β} (h : zput2 FT hp c x y v f = some a) (k : ∀ x, f x = some a → g x = some b) : zput2 FT hp c x y v g = some b := by
  unfold zput2 at *; split at h <;> first | exact zg_nat h (k _) | exact zg_nat h (fun h => zputm_nat h (fun _ h => k _ h)) | cases h
set_option maxHeartbeats 4000000 in
theorem zst2_nat {X : Nat × (Nat → Int32)} {FT : Nat → Nat → Nat} {E : zTE} {q : zQ} {pc : Nat} {lv st : List Value} {h : zH2} {k : Nat → List Value → List Value → zH2 → Option α} {ret : Option Value → zH2 → Option α} {k' : Nat → List Value → List Value → zH2 → Option β} {ret' : Option Value → zH2 → Option β}
    (hs : zst2 X FT E q pc lv st h k ret = some a) (hk : ∀ pc lv st h, k pc lv st h = some a → k' pc lv st h = some b) (hr : ∀ r h, ret r h = some a → ret' r h = some b) : zst2 X FT E q pc lv st h k' ret' = some b := by
  obtain ⟨i, len, r1, r2, x, sw, tr⟩ := q
  cases i <;> dsimp only [zst2] at hs ⊢ <;>
    first
    | (cases hs; done)
    | exact hk _ _ _ _ hs
    | exact zi1_nat hs (fun _ _ hs => zsto_nat hs (fun _ hs => hk _ _ _ _ hs))
    | exact za1_nat hs (fun _ _ hs => zsto_nat hs (fun _ hs => hk _ _ _ _ hs))
    | exact zi2_nat hs (fun _ _ _ hs => hk _ _ _ _ hs)
    | exact zi2_nat hs (fun _ _ _ hs => zg_nat hs (hk _ _ _ _))
    | exact zi2_nat hs (fun _ _ _ hs => zb_nat hs (hk _ _ _ _) (hk _ _ _ _))
    | exact zi1_nat hs (fun _ _ hs => hk _ _ _ _ hs)
    | exact zi1_nat hs (fun _ _ hs => zb_nat hs (hk _ _ _ _) (hk _ _ _ _))
    | exact zi1_nat hs (fun _ _ hs => zsw_nat (fun _ hs => hk _ _ _ _ hs) hs)
    | exact zb_nat hs (hk _ _ _ _) (hk _ _ _ _)
    | exact zlv_nat hs (fun _ hs => zvi_nat hs (fun _ hs => hk _ _ _ _ hs))
    | exact zlv_nat hs (fun _ hs => zva_nat hs (fun _ hs => hk _ _ _ _ hs))
    | exact zlv_nat hs (fun _ hs => zvi_nat hs (fun _ hs => zsto_nat hs (fun _ hs => hk _ _ _ _ hs)))
    | exact za1_nat hs (fun _ _ hs => zsh_nat hs (fun _ _ hs => zg_nat hs (hk _ _ _ _)))
    | exact zald_nat hs (fun _ _ hs => hk _ _ _ _ hs)
    | exact zast_nat hs (fun _ _ hs => hk _ _ _ _ hs)
    | exact zlen_nat hs (fun _ _ hs => hk _ _ _ _ hs)
    | exact zb_nat hs (fun hs => zcopy_nat hs (fun _ _ hs => hk _ _ _ _ hs)) (fun hs => zb_nat hs (fun hs => zmath_nat hs (fun _ _ hs => hk _ _ _ _ hs)) (fun hs => zcall2_nat hs (fun _ _ _ hs => hk _ _ _ _ hs)))
    | exact zb_nat hs (fun hs => zixof_nat hs (fun _ _ hs => hk _ _ _ _ hs)) (fun hs => zrecv_nat hs (fun hs => zcall2_nat hs (fun _ _ _ hs => hk _ _ _ _ hs)))
    | (split at hs <;> first | (cases hs; done) | exact zg_nat hs (hk _ _ _ _) | exact zg_nat hs (hr _ _) | exact hr _ _ hs | exact zsh_nat hs (fun _ _ hs => zg_nat hs (fun hs => zput2_nat hs (fun _ hs => hk _ _ _ _ hs))))
/-! the static machine is the moving one -/
theorem zast_nat' {hp : zH} {kd : Nat → Bool} {st : List Value} {f : List Value → zH → Option α} {g : List Value → zH → Option β} (h : zast hp kd st f = some a) (k : ∀ x r, f x (hp.1, r, hp.2.2) = some a → g x (hp.1, r, hp.2.2) = some b) : zast hp kd st g = some b := by
  unfold zast at *; split at h <;> first | exact zsh_nat h (fun _ _ h => zg_nat h (k _ _)) | cases h
theorem zcopy_nat' {hp : zH} {st : List Value} {f : List Value → zH → Option α} {g : List Value → zH → Option β} (h : zcopy hp st f = some a) (k : ∀ x r, f x (hp.1, r, hp.2.2) = some a → g x (hp.1, r, hp.2.2) = some b) : zcopy hp st g = some b := by
  unfold zcopy at *; split at h <;> first | exact zsh_nat h (fun _ _ h => zsh_nat h (fun _ _ h => zg_nat h (k _ _))) | cases h
theorem zcall2_sim {E : Nat → List Value → zH → Option zO} {E2 : zTE} (hE : ∀ u args g r g', E2 u args g = some (true, r, g') → E u args (emb g) = some (r, emb g')) {hp : zH2} {st : List Value} {u n : Nat} {f : Option Value → List Value → zH2 → Option α} {g : Option Value → List Value → zH → Option β} (h : zcall2 E2 hp st u n f = some a) (k : ∀ x y z, f x y z = some a → g x y (emb z) = some b) : zcall E (emb hp) st u n g = some b := by
  unfold zcall2 at h
  unfold zcall
  refine zg_nat h (fun h => ?_)
  unfold ze2 at h
  split at h
  next q hq =>
    obtain ⟨G, r, g'⟩ := q
    refine zg_el h (fun hG h => ?_)
    have hG : G = true := hG
    subst hG
    rw [hE u _ hp r g' hq]
    exact k _ _ _ h
  next => cases h
theorem RF_set {m m' : zM5} {a k : Nat} {v : Value} {row : List Value} (hr : (RFl m)[a]? = some row) (hk : k < row.length) (he : RFl m' = (RFl m).set a (row.set k v)) : RFf m' = zup (RFf m) a (zup (RFf m a) k v) := by
  have ha : a < (RFl m).length := (List.getElem?_eq_some_iff.mp hr).1
  funext x y
  by_cases hx : x = a
  · subst hx
    rw [zup_same]
    by_cases hy : y = k
    · subst hy
      rw [zup_same]
      simp only [RFf, he, List.getD_eq_getElem?_getD, List.getElem?_set_self ha, Option.getD_some, List.getElem?_set_self hk]
    · rw [zup_ne hy]
      simp only [RFf, he, List.getD_eq_getElem?_getD, List.getElem?_set_self ha, Option.getD_some, List.getElem?_set_ne (Ne.symm hy), hr]
  · rw [zup_ne hx]
    simp only [RFf, he, List.getD_eq_getElem?_getD, List.getElem?_set_ne (Ne.symm hx)]
theorem RF_a {m : zM5} {z : Nat} : RFf (z, m.2) = zup (RFf m) 0 (zup (RFf m 0) 6 (.ref z)) := RF_set (m' := (z, m.2)) rfl (Nat.le_of_ble_eq_true rfl) rfl
theorem RF_b {m : zM5} {z : Nat} : RFf (m.1, z, m.2.2) = zup (RFf m) 0 (zup (RFf m 0) 7 (.ref z)) := RF_set (m' := (m.1, z, m.2.2)) rfl (Nat.le_of_ble_eq_true rfl) rfl
theorem RF_c {m : zM5} {z : Nat} : RFf (m.1, m.2.1, z, m.2.2.2) = zup (RFf m) 40 (zup (RFf m 40) 0 (.ref z)) := RF_set (m' := (m.1, m.2.1, z, m.2.2.2)) rfl (Nat.le_of_ble_eq_true rfl) rfl
theorem RF_d {m : zM5} {z : Nat} : RFf (m.1, m.2.1, m.2.2.1, z, m.2.2.2.2) = zup (RFf m) 44 (zup (RFf m 44) 0 (.ref z)) := RF_set (m' := (m.1, m.2.1, m.2.2.1, z, m.2.2.2.2)) rfl (Nat.le_of_ble_eq_true rfl) rfl
theorem RF_e {m : zM5} {z : Nat} : RFf (m.1, m.2.1, m.2.2.1, m.2.2.2.1, z) = zup (RFf m) 47 (zup (RFf m 47) 0 (.ref z)) := RF_set (m' := (m.1, m.2.1, m.2.2.1, m.2.2.2.1, z)) rfl (Nat.le_of_ble_eq_true rfl) rfl
theorem zputm_sim {m : zM5} {x y z : Nat} {f : zM5 → Option α} {g : (Nat → Nat → Value) → Option β} (h : zputm m x y z f = some a) (k : ∀ m, f m = some a → g (RFf m) = some b) : g (zup (RFf m) x (zup (RFf m x) y (.ref z))) = some b := by
  unfold zputm at h
  refine zb_el h (fun e1 h1 => ?_) (fun _ h1 => zb_el h1 (fun e1 h2 => ?_) (fun _ h2 => by cases h2))
  · refine zb_el h1 (fun e2 h2 => ?_) (fun _ h2 => zb_el h2 (fun e2 h3 => ?_) (fun _ h3 => by cases h3))
    · rw [Nat.eq_of_beq_eq_true e1, Nat.eq_of_beq_eq_true e2, ← RF_a]
      exact k _ h2
    · rw [Nat.eq_of_beq_eq_true e1, Nat.eq_of_beq_eq_true e2, ← RF_b]
      exact k _ h3
  · refine zb_el h2 (fun e2 h3 => ?_) (fun _ h3 => zb_el h3 (fun e2 h4 => ?_) (fun _ h4 => zb_el h4 (fun e2 h5 => ?_) (fun _ h5 => by cases h5)))
    · rw [Nat.eq_of_beq_eq_true e1, Nat.eq_of_beq_eq_true e2, ← RF_c]
      exact k _ h3
    · rw [Nat.eq_of_beq_eq_true e1, Nat.eq_of_beq_eq_true e2, ← RF_d]
      exact k _ h4
    · rw [Nat.eq_of_beq_eq_true e1, Nat.eq_of_beq_eq_true e2, ← RF_e]
      exact k _ h5
theorem zput2_sim {FT : Nat → Nat → Nat} {hp : zH2} {c x y : Nat} {v : Value} {f : zH2 → Option α} {g : zH → Option β} (h : zput2 FT hp c x y v f = some a) (k : ∀ g', f g' = some a → g (emb g') = some b) : zput FT (emb hp) c x y v g = some b := by
  unfold zput2 at h
  unfold zput
  split at h
  · exact zg_nat h (fun h => k _ h)
  · exact zg_nat h (fun h => zputm_sim (g := fun rf => g (SH, hp.1, hp.2.1, rf)) h (fun m h => k (hp.1, hp.2.1, m) h))
  · cases h
set_option maxHeartbeats 4000000 in
theorem zst2_sim {X : Nat × (Nat → Int32)} {FT : Nat → Nat → Nat} {E : Nat → List Value → zH → Option zO} {E2 : zTE} (hE : ∀ u args g r g', E2 u args g = some (true, r, g') → E u args (emb g) = some (r, emb g')) {q : zQ} {pc : Nat} {lv st : List Value} {h : zH2} {k : Nat → List Value → List Value → zH2 → Option α} {ret : Option Value → zH2 → Option α} {k' : Nat → List Value → List Value → zH → Option β} {ret' : Option Value → zH → Option β}
    (hs : zst2 X FT E2 q pc lv st h k ret = some a) (hk : ∀ pc lv st h, k pc lv st h = some a → k' pc lv st (emb h) = some b) (hr : ∀ r h, ret r h = some a → ret' r (emb h) = some b) : zst X FT E q pc lv st (emb h) k' ret' = some b := by
  obtain ⟨i, len, r1, r2, x, sw, tr⟩ := q
  cases i <;> dsimp only [zst2] at hs <;> dsimp only [zst] <;>
    first
    | (cases hs; done)
    | exact hk _ _ _ _ hs
    | exact zi1_nat hs (fun _ _ hs => zsto_nat hs (fun _ hs => hk _ _ _ _ hs))
    | exact za1_nat hs (fun _ _ hs => zsto_nat hs (fun _ hs => hk _ _ _ _ hs))
    | exact zi2_nat hs (fun _ _ _ hs => hk _ _ _ _ hs)
    | exact zi2_nat hs (fun _ _ _ hs => zg_nat hs (hk _ _ _ _))
    | exact zi2_nat hs (fun _ _ _ hs => zb_nat hs (hk _ _ _ _) (hk _ _ _ _))
    | exact zi1_nat hs (fun _ _ hs => hk _ _ _ _ hs)
    | exact zi1_nat hs (fun _ _ hs => zb_nat hs (hk _ _ _ _) (hk _ _ _ _))
    | exact zi1_nat hs (fun _ _ hs => zsw_nat (fun _ hs => hk _ _ _ _ hs) hs)
    | exact zb_nat hs (hk _ _ _ _) (hk _ _ _ _)
    | exact zlv_nat hs (fun _ hs => zvi_nat hs (fun _ hs => hk _ _ _ _ hs))
    | exact zlv_nat hs (fun _ hs => zva_nat hs (fun _ hs => hk _ _ _ _ hs))
    | exact zlv_nat hs (fun _ hs => zvi_nat hs (fun _ hs => zsto_nat hs (fun _ hs => hk _ _ _ _ hs)))
    | exact za1_nat hs (fun _ _ hs => zsh_nat hs (fun _ _ hs => zg_nat hs (hk _ _ _ _)))
    | exact zald_nat hs (fun _ _ hs => hk _ _ _ _ hs)
    | exact zast_nat' hs (fun _ _ hs => hk _ _ _ _ hs)
    | exact zlen_nat hs (fun _ _ hs => hk _ _ _ _ hs)
    | exact zb_nat hs (fun hs => zcopy_nat' hs (fun _ _ hs => hk _ _ _ _ hs)) (fun hs => zb_nat hs (fun hs => zmath_nat hs (fun _ _ hs => hk _ _ _ _ hs)) (fun hs => zcall2_sim hE hs (fun _ _ _ hs => hk _ _ _ _ hs)))
    | exact zb_nat hs (fun hs => zixof_nat hs (fun _ _ hs => hk _ _ _ _ hs)) (fun hs => zrecv_nat hs (fun hs => zcall2_sim hE hs (fun _ _ _ hs => hk _ _ _ _ hs)))
    | (split at hs <;> first | (cases hs; done) | exact zg_nat hs (hk _ _ _ _) | exact zg_nat hs (hr _ _) | exact hr _ _ hs | exact zsh_nat hs (fun _ _ hs => zg_nat hs (fun hs => zput2_sim hs (fun _ hs => hk _ _ _ _ hs))))
end znat2
section zruns2
variable {X : Nat × (Nat → Int32)} {FT : Nat → Nat → Nat} {E : zTE} {c : List (Nat × zQ)}
theorem zrun2_succ : ∀ {n pc : Nat} {lv st : List Value} {h : zH2} {o : zO2}, zrun2 X FT E c n pc lv st h = some o → zrun2 X FT E c (n + 1) pc lv st h = some o
  | 0, _, _, _, _, _, h => by cases h
  | n + 1, pc, lv, st, hp, o, h => by
    unfold zrun2 at h ⊢
    cases hq : zfind c pc with
    | none => rw [hq] at h; cases h
    | some q =>
      rw [hq] at h
      exact zst2_nat h (fun _ _ _ _ h => zrun2_succ h) (fun _ _ h => h)
theorem zrun2_le {n m pc : Nat} {lv st : List Value} {h : zH2} {o : zO2} (hn : n ≤ m) (hr : zrun2 X FT E c n pc lv st h = some o) : zrun2 X FT E c m pc lv st h = some o := by
  induction hn with
  | refl => exact hr
  | step _ ih => exact zrun2_succ ih
theorem zR2_det {pc : Nat} {lv st : List Value} {h : zH2} {o o' : zO2} (h1 : zR2 X FT E c pc lv st h o) (h2 : zR2 X FT E c pc lv st h o') : o = o' := by
  obtain ⟨n, h1⟩ := h1
  obtain ⟨m, h2⟩ := h2
  have e1 := zrun2_le (Nat.le_max_left n m) h1
  have e2 := zrun2_le (Nat.le_max_right n m) h2
  rw [e1] at e2
  exact Option.some.inj e2
theorem ztrim_idem (q : zQ) (lv : List Value) : ztrim q (ztrim q lv) = ztrim q lv := by
  unfold ztrim
  cases Nat.beq q.2.2.2.2.2.2 0 with
  | true => rfl
  | false => simp only [cond_false, List.take_take, Nat.min_self]
theorem zrun2_trim {n pc : Nat} {lv st : List Value} {h : zH2} {q : zQ} (hq : zfind c pc = some q) : zrun2 X FT E c n pc (ztrim q lv) st h = zrun2 X FT E c n pc lv st h := by
  cases n with
  | zero => rfl
  | succ n =>
    unfold zrun2
    rw [hq]
    dsimp only
    rw [ztrim_idem]
theorem zseg_go {stops : Nat → Bool} {s' : Nat × List Value × List Value × zH2} {o : zO2} (hR : zR2 X FT E c s'.1 s'.2.1 s'.2.2.1 s'.2.2.2 o) : ∀ {n pc : Nat} {lv st : List Value} {h : zH2}, zseg X FT E c stops n pc lv st h = some (.inl s') → zR2 X FT E c pc lv st h o
  | 0, _, _, _, _, h => by cases h
  | n + 1, pc, lv, st, hp, h => by
    obtain ⟨m, hm⟩ := hR
    suffices hh : ∀ n {pc : Nat} {lv st : List Value} {h : zH2}, zseg X FT E c stops n pc lv st h = some (.inl s') → zrun2 X FT E c (m + n) pc lv st h = some o from ⟨_, hh _ h⟩
    intro n
    induction n with
    | zero => intro _ _ _ _ h; cases h
    | succ n ih =>
      intro pc lv st hp h
      unfold zseg at h
      rw [show m + (n + 1) = (m + n) + 1 by omega]
      unfold zrun2
      cases hq : zfind c pc with
      | none => rw [hq] at h; cases h
      | some q =>
        rw [hq] at h
        refine zst2_nat h (fun pc lv st hp h => zb_el h (fun _ h9 => ?_) (fun _ h => ih h)) (fun _ _ h => by cases h)
        unfold zstop at h9
        cases hq2 : zfind c pc with
        | none => rw [hq2] at h9; cases h9
        | some q2 =>
          rw [hq2] at h9
          have h1 := Sum.inl.inj (Option.some.inj h9)
          rw [← h1] at hm
          dsimp only at hm
          rw [zrun2_trim hq2] at hm
          exact zrun2_le (by omega) hm
theorem zseg_ret {stops : Nat → Bool} {o : zO2} : ∀ {n pc : Nat} {lv st : List Value} {h : zH2}, zseg X FT E c stops n pc lv st h = some (.inr o) → zR2 X FT E c pc lv st h o := by
  intro n
  suffices hh : ∀ {pc : Nat} {lv st : List Value} {h : zH2}, zseg X FT E c stops n pc lv st h = some (.inr o) → zrun2 X FT E c n pc lv st h = some o from fun {pc lv st h} hs => ⟨n, hh hs⟩
  induction n with
  | zero => intro _ _ _ _ h; cases h
  | succ n ih =>
    intro pc lv st hp h
    unfold zseg at h
    unfold zrun2
    cases hq : zfind c pc with
    | none => rw [hq] at h; cases h
    | some q =>
      rw [hq] at h
      refine zst2_nat h (fun pc lv st hp h => zb_el h (fun _ h => by unfold zstop at h; split at h <;> cases h) (fun _ h => ih h)) (fun _ _ h => ?_)
      have h1 := Sum.inr.inj (Option.some.inj h)
      rw [h1]
end zruns2
section zexs2
variable {X : Nat × (Nat → Int32)} {FT : Nat → Nat → Nat} {C : Nat → List (Nat × zQ)}
theorem zex2_of {d u : Nat} {args : List Value} {h : zH2} {o : zO2} (hR : zR2 X FT (zlift (zex2 X FT C d)) (C u) 0 args [] h o) : zex2 X FT C (d + 1) u args h = some o := by
  have hh : ∃ o, zR2 X FT (zlift (zex2 X FT C d)) (C u) 0 args [] h o := ⟨o, hR⟩
  unfold zex2
  rw [dif_pos hh]
  exact congrArg some (zR2_det (Classical.choose_spec hh) hR)
theorem zex2_to {d u : Nat} {args : List Value} {h : zH2} {o : zO2} (hR : zex2 X FT C (d + 1) u args h = some o) : zR2 X FT (zlift (zex2 X FT C d)) (C u) 0 args [] h o := by
  unfold zex2 at hR
  by_cases hh : ∃ o, zR2 X FT (zlift (zex2 X FT C d)) (C u) 0 args [] h o
  · rw [dif_pos hh] at hR
    rw [← Option.some.inj hR]
    exact Classical.choose_spec hh
  · rw [dif_neg hh] at hR
    cases hR
theorem zrun2_sim {E : Nat → List Value → zH → Option zO} {E2 : zTE} (hE : ∀ u args g r g', E2 u args g = some (true, r, g') → E u args (emb g) = some (r, emb g')) {c : List (Nat × zQ)} : ∀ {n pc : Nat} {lv st : List Value} {h : zH2} {r : Option Value} {h' : zH2}, zrun2 X FT E2 c n pc lv st h = some (r, h') → zrun X FT E c n pc lv st (emb h) = some (r, emb h')
  | 0, _, _, _, _, _, _, h => by cases h
  | n + 1, pc, lv, st, hp, r, h', h => by
    unfold zrun2 at h
    unfold zrun
    cases hq : zfind c pc with
    | none => rw [hq] at h; cases h
    | some q =>
      rw [hq] at h
      exact zst2_sim hE h (fun _ _ _ _ h => zrun2_sim hE h) (fun _ _ h => by cases h; rfl)
/-- what the static machine answers, the moving one answers -/
theorem zex2_sim : ∀ (d u : Nat) (args : List Value) (g : zH2) (r : Option Value) (g' : zH2), zex2 X FT C d u args g = some (r, g') → zex X FT C d u args (emb g) = some (r, emb g')
  | 0, _, _, _, _, _, h => by cases h
  | d + 1, u, args, g, r, g', h => by
    obtain ⟨n, hn⟩ := zex2_to h
    refine zex_of ⟨n, zrun2_sim (fun u args g r g' he => ?_) hn⟩
    unfold zlift at he
    cases hz : zex2 X FT C d u args g with
    | none => rw [hz] at he; cases he
    | some q =>
      rw [hz] at he
      cases he
      exact zex2_sim d u args g r g' hz
end zexs2
