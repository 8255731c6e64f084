/-! ===== the z-machine: a pure interpreter of the bytecode that is reached, over a pure heap ===== -/
/-- shapes (class number and fields, or 16 int[], 17 byte[], 18 boolean[] and length); arrays; int fields; fields that hold references -/
abbrev zH : Type := List (Nat × Nat) × (Nat → Nat → Int32) × (Nat → Nat → Int32) × (Nat → Nat → Value)
abbrev zO : Type := Option Value × zH
/-- instruction, length, two resolved numbers, a resolved int, a switch, how many locals are kept ahead of it (0: all) -/
abbrev zQ : Type := Instr × Nat × Nat × Nat × Int32 × List (Int32 × Nat) × Nat
def zup {α : Type} (f : Nat → α) (a : Nat) (x : α) : Nat → α := fun b => if b = a then x else f b
def zin (i : Int32) (n : Nat) : Bool := !(decide (i < 0)) && Nat.blt i.toNatClampNeg n
def zcat : Value → Bool
  | .int _ => true
  | .ref _ => true
  | .float _ => true
  | _ => false
section zhelp
variable {α : Type}
def zi1 (st : List Value) (f : Int32 → List Value → Option α) : Option α := match st with
  | .int x :: r => f x r
  | _ => none
def zi2 (st : List Value) (f : Int32 → Int32 → List Value → Option α) : Option α := match st with
  | .int y :: .int x :: r => f x y r
  | _ => none
def za1 (st : List Value) (f : Nat → List Value → Option α) : Option α := match st with
  | .ref a :: r => f a r
  | _ => none
def zg (c : Bool) (t : Option α) : Option α := bif c then t else none
def ze (o : Option zO) (f : Option Value → zH → Option α) : Option α := match o with
  | some q => f q.1 q.2
  | none => none
def zsh (h : zH) (a : Nat) (f : Nat → Nat → Option α) : Option α := match h.1[a]? with
  | some q => f q.1 q.2
  | none => none
def zlv (lv : List Value) (i : Nat) (f : Value → Option α) : Option α := match lv[i]? with
  | some v => f v
  | none => none
def zvi (v : Value) (f : Int32 → Option α) : Option α := match v with
  | .int x => f x
  | _ => none
def zva (v : Value) (f : Value → Option α) : Option α := match v with
  | .ref a => f (.ref a)
  | .float a => f (.float a)
  | _ => none
def zsto (lv : List Value) (i : Nat) (v : Value) (f : List Value → Option α) : Option α :=
  bif Nat.blt i lv.length then f (lv.set i v) else bif Nat.beq i lv.length then f (lv ++ [v]) else none
def zsw (l : List (Int32 × Nat)) (d : Nat) (x : Int32) (f : Nat → Option α) : Option α := match l with
  | [] => f d
  | q :: r => bif decide (x = q.1) then f q.2 else zsw r d x f
def zcmp (c : ClassFile.Cond) (x y : Int32) : Bool := match c with
  | .eq => decide (x = y)
  | .ne => !decide (x = y)
  | .lt => decide (x < y)
  | .ge => decide (y ≤ x)
  | .gt => decide (y < x)
  | .le => decide (x ≤ y)
def zcall (E : Nat → List Value → zH → Option zO) (h : zH) (st : List Value) (u n : Nat) (f : Option Value → List Value → zH → Option α) : Option α :=
  zg (Nat.ble n st.length && (Nat.ble (st.drop n).length 8 && st.all zcat)) (ze (E u (st.take n).reverse h) (fun r h' => f r (st.drop n) h'))
def zrecv (h : zH) (args : List Value) (c : Nat) (t : Option α) : Option α := match args with
  | .ref b :: _ => zsh h b (fun c' _ => zg (Nat.beq c' c) t)
  | _ => none
def zrecv1 (args : List Value) (t : Option α) : Option α := match args with
  | .ref _ :: _ => t
  | _ => none
/-- the kind of a field: 0 an int, 1 a boolean, 2 a reference -/
def zfv (FT : Nat → Nat → Nat) (h : zH) (c a k : Nat) : Value := bif Nat.beq (FT c k) 2 then h.2.2.2 a k else .int (h.2.2.1 a k)
def zput (FT : Nat → Nat → Nat) (h : zH) (c a k : Nat) (v : Value) (f : zH → Option α) : Option α := match v with
  | .int x => zg (Nat.beq (FT c k) 0 || (Nat.beq (FT c k) 1 && (decide (x = 0) || decide (x = 1)))) (f (h.1, h.2.1, zup h.2.2.1 a (zup (h.2.2.1 a) k x), h.2.2.2))
  | .ref b => zg (Nat.beq (FT c k) 2) (f (h.1, h.2.1, h.2.2.1, zup h.2.2.2 a (zup (h.2.2.2 a) k (.ref b))))
  | _ => none
def zald (X : Nat × (Nat → Int32)) (h : zH) (kd : Nat → Bool) (st : List Value) (f : Int32 → List Value → Option α) : Option α := match st with
  | .int i :: .ref a :: r => zsh h a (fun c n => zg (kd c && zin i n) (f (h.2.1 a i.toNatClampNeg) r))
  | .int i :: .float z :: r => zg (kd 16 && (decide (z = 0) && zin i X.1)) (f (X.2 i.toNatClampNeg) r)
  | _ => none
def znar (c : Nat) (x : Int32) : Int32 := bif Nat.beq c 16 then x else bif Nat.beq c 17 then x.toInt8.toInt32 else x &&& 1
def zast (h : zH) (kd : Nat → Bool) (st : List Value) (f : List Value → zH → Option α) : Option α := match st with
  | .int x :: .int i :: .ref a :: r => zsh h a (fun c n => zg (kd c && zin i n) (f r (h.1, zup h.2.1 a (zup (h.2.1 a) i.toNatClampNeg (znar c x)), h.2.2)))
  | _ => none
def zlen (X : Nat × (Nat → Int32)) (h : zH) (st : List Value) (f : Int32 → List Value → Option α) : Option α := match st with
  | .ref a :: r => zsh h a (fun c n => zg (Nat.ble 16 c) (f (Int32.ofNat n) r))
  | .float z :: r => zg (decide (z = 0)) (f (Int32.ofNat X.1) r)
  | _ => none
def zcopy (h : zH) (st : List Value) (f : List Value → zH → Option α) : Option α := match st with
  | .int n :: .int dp :: .ref d :: .int sp :: .ref s :: r => zsh h s (fun c0 n0 => zsh h d (fun c1 n1 => zg (Nat.beq c0 16 && Nat.beq c1 16 && !(decide (sp < 0)) && !(decide (dp < 0)) && !(decide (n < 0)) && Nat.ble (sp.toNatClampNeg + n.toNatClampNeg) n0 && Nat.ble (dp.toNatClampNeg + n.toNatClampNeg) n1 && Nat.ble r.length 8 && r.all zcat)
      (f r (h.1, zup h.2.1 d (va_cpy (h.2.1 s) (h.2.1 d) sp.toNatClampNeg dp.toNatClampNeg n.toNatClampNeg), h.2.2))))
  | _ => none
/-- the place of a sign in "pmnvidgtw" -/
def zix (c : Int32) : Int32 := if c = 112 then 0 else if c = 109 then 1 else if c = 110 then 2 else if c = 118 then 3 else if c = 105 then 4 else if c = 100 then 5 else if c = 103 then 6 else if c = 116 then 7 else if c = 119 then 8 else -1
def zixof (st : List Value) (f : Int32 → List Value → Option α) : Option α := match st with
  | .int c :: .float z :: r => zg (decide (z = 1) && (Nat.ble r.length 8 && r.all zcat)) (f (zix c) r)
  | _ => none
def zrest (r : List Value) : Bool := Nat.ble r.length 8 && r.all zcat
def zmath (u : Nat) (st : List Value) (f : Int32 → List Value → Option α) : Option α :=
  bif Nat.beq u 903 then zi2 st (fun x y r => zg (zrest r) (f (if x < y then y else x) r)) else bif Nat.beq u 904 then zi2 st (fun x y r => zg (zrest r) (f (if y < x then y else x) r)) else zi1 st (fun x r => zg (zrest r) (f (if 0 ≤ x then x else 0 - x) r))
def znew (h : zH) (c n : Nat) : zH := (h.1 ++ [(c, n)], h.2.1, zup h.2.2.1 h.1.length (fun _ => 0), zup h.2.2.2 h.1.length (fun _ => .null))
def znewa (h : zH) (c n : Nat) : zH := (h.1 ++ [(c, n)], zup h.2.1 h.1.length (fun _ => 0), h.2.2)
def zst (X : Nat × (Nat → Int32)) (FT : Nat → Nat → Nat) (E : Nat → List Value → zH → Option zO) (q : zQ) (pc : Nat) (lv st : List Value) (h : zH) (k : Nat → List Value → List Value → zH → Option α) (ret : Option Value → zH → Option α) : Option α :=
  match q with
  | (i, _, r1, r2, x, sw, _) => match i with
    | .iconst _ => k (pc + 1) lv (.int x :: st) h
    | .bipush _ => k (pc + 2) lv (.int x :: st) h
    | .sipush _ => k (pc + 3) lv (.int x :: st) h
    | .ldc _ => bif Nat.beq r1 0 then k (pc + 2) lv (.int x :: st) h else k (pc + 2) lv (.float 1 :: st) h
    | .ldc_w _ => k (pc + 3) lv (.int x :: st) h
    | .iload _ => zlv lv r1 (fun v => zvi v (fun y => k (pc + 2) lv (.int y :: st) h))
    | .iload_n _ => zlv lv r1 (fun v => zvi v (fun y => k (pc + 1) lv (.int y :: st) h))
    | .aload _ => zlv lv r1 (fun v => zva v (fun y => k (pc + 2) lv (y :: st) h))
    | .aload_n _ => zlv lv r1 (fun v => zva v (fun y => k (pc + 1) lv (y :: st) h))
    | .istore _ => zi1 st (fun y r => zsto lv r1 (.int y) (fun lv => k (pc + 2) lv r h))
    | .istore_n _ => zi1 st (fun y r => zsto lv r1 (.int y) (fun lv => k (pc + 1) lv r h))
    | .astore _ => za1 st (fun y r => zsto lv r1 (.ref y) (fun lv => k (pc + 2) lv r h))
    | .astore_n _ => za1 st (fun y r => zsto lv r1 (.ref y) (fun lv => k (pc + 1) lv r h))
    | .iinc _ _ => zlv lv r1 (fun v => zvi v (fun y => zsto lv r1 (.int (y + x)) (fun lv => k (pc + 3) lv st h)))
    | .iadd => zi2 st (fun x y r => k (pc + 1) lv (.int (x + y) :: r) h)
    | .isub => zi2 st (fun x y r => k (pc + 1) lv (.int (x - y) :: r) h)
    | .imul => zi2 st (fun x y r => k (pc + 1) lv (.int (x * y) :: r) h)
    | .iand => zi2 st (fun x y r => k (pc + 1) lv (.int (x &&& y) :: r) h)
    | .ior => zi2 st (fun x y r => k (pc + 1) lv (.int (x ||| y) :: r) h)
    | .ixor => zi2 st (fun x y r => k (pc + 1) lv (.int (x ^^^ y) :: r) h)
    | .idiv => zi2 st (fun x y r => zg (!decide (y = 0)) (k (pc + 1) lv (.int (x / y) :: r) h))
    | .irem => zi2 st (fun x y r => zg (!decide (y = 0)) (k (pc + 1) lv (.int (x - x / y * y) :: r) h))
    | .ishl => zi2 st (fun x y r => k (pc + 1) lv (.int (x <<< (y &&& 31)) :: r) h)
    | .ishr => zi2 st (fun x y r => k (pc + 1) lv (.int (x >>> (y &&& 31)) :: r) h)
    | .iushr => zi2 st (fun x y r => k (pc + 1) lv (.int (x.toUInt32 >>> (y.toUInt32 &&& Int32.toUInt32 31)).toInt32 :: r) h)
    | .ineg => zi1 st (fun x r => k (pc + 1) lv (.int (-x) :: r) h)
    | .i2b => zi1 st (fun x r => k (pc + 1) lv (.int x.toInt8.toInt32 :: r) h)
    | .i2c => zi1 st (fun x r => k (pc + 1) lv (.int (x.toUInt32 % 65536).toInt32 :: r) h)
    | .dup => match st with
      | v :: r => zg (zcat v) (k (pc + 1) lv (v :: v :: r) h)
      | _ => none
    | .pop => match st with
      | v :: r => zg (zcat v) (k (pc + 1) lv r h)
      | _ => none
    | .goto _ => k r1 lv st h
    | .if_icmp c _ => zi2 st (fun x y r => bif zcmp c x y then k r1 lv r h else k (pc + 3) lv r h)
    | .ifCond c _ => zi1 st (fun x r => bif zcmp c x 0 then k r1 lv r h else k (pc + 3) lv r h)
    | .tableswitch _ _ _ _ => zi1 st (fun x r => zsw sw r1 x (fun t => k t lv r h))
    | .lookupswitch _ _ => zi1 st (fun x r => zsw sw r1 x (fun t => k t lv r h))
    | .getfield _ => za1 st (fun a r => zsh h a (fun c n => zg (Nat.beq c r1 && Nat.blt r2 n) (k (pc + 3) lv (zfv FT h r1 a r2 :: r) h)))
    | .putfield _ => match st with
      | v :: .ref a :: r => zsh h a (fun c n => zg (Nat.beq c r1 && Nat.blt r2 n) (zput FT h r1 a r2 v (fun h => k (pc + 3) lv r h)))
      | _ => none
    | .iaload => zald X h (fun c => Nat.beq c 16) st (fun v r => k (pc + 1) lv (.int v :: r) h)
    | .baload => zald X h (fun c => Nat.beq c 17 || Nat.beq c 18) st (fun v r => k (pc + 1) lv (.int v :: r) h)
    | .iastore => zast h (fun c => Nat.beq c 16) st (fun r h => k (pc + 1) lv r h)
    | .bastore => zast h (fun c => Nat.beq c 17 || Nat.beq c 18) st (fun r h => k (pc + 1) lv r h)
    | .arraylength => zlen X h st (fun v r => k (pc + 1) lv (.int v :: r) h)
    | .new _ => k (pc + 3) lv (.ref h.1.length :: st) (znew h r1 r2)
    | .newarray _ => zi1 st (fun n r => zg (!(decide (n < 0)) && Nat.ble n.toNatClampNeg 100000) (k (pc + 2) lv (.ref h.1.length :: r) (znewa h r1 n.toNatClampNeg)))
    | .invokespecial _ => bif Nat.beq r1 900 then za1 st (fun _ r => zg (Nat.ble r.length 8 && r.all zcat) (k (pc + 3) lv r h)) else zrecv1 (st.take (r2 % 32)).reverse (zcall E h st r1 (r2 % 32) (fun v r h => k (pc + 3) lv (v.toList ++ r) h))
    | .invokestatic _ => bif Nat.beq r1 901 then zcopy h st (fun r h => k (pc + 3) lv r h) else bif Nat.ble 903 r1 then zmath r1 st (fun v r => k (pc + 3) lv (.int v :: r) h) else zcall E h st r1 (r2 % 32) (fun v r h => k (pc + 3) lv (v.toList ++ r) h)
    | .invokevirtual _ => bif Nat.beq r1 902 then zixof st (fun v r => k (pc + 3) lv (.int v :: r) h) else zrecv h (st.take (r2 % 32)).reverse (r2 / 32) (zcall E h st r1 (r2 % 32) (fun v r h => k (pc + 3) lv (v.toList ++ r) h))
    | .ireturn => match st with
      | [.int v] => zg (Nat.beq r1 0 || (decide (v = 0) || decide (v = 1))) (ret (some (.int v)) h)
      | _ => none
    | .return_ => match st with
      | [] => ret none h
      | _ => none
    | _ => none
end zhelp
def zfind : List (Nat × zQ) → Nat → Option zQ
  | [], _ => none
  | q :: r, pc => bif Nat.beq q.1 pc then some q.2 else zfind r pc
def ztrim (q : zQ) (lv : List Value) : List Value := bif Nat.beq q.2.2.2.2.2.2 0 then lv else lv.take q.2.2.2.2.2.2
def zrun (X : Nat × (Nat → Int32)) (FT : Nat → Nat → Nat) (E : Nat → List Value → zH → Option zO) (c : List (Nat × zQ)) : Nat → Nat → List Value → List Value → zH → Option zO
  | 0, _, _, _, _ => none
  | n + 1, pc, lv, st, h => match zfind c pc with
    | none => none
    | some q => zst X FT E q pc (ztrim q lv) st h (fun pc lv st h => zrun X FT E c n pc lv st h) (fun r h => some (r, h))
/-- a method runs from its entry to its end -/
def zR (X : Nat × (Nat → Int32)) (FT : Nat → Nat → Nat) (E : Nat → List Value → zH → Option zO) (c : List (Nat × zQ)) (pc : Nat) (lv st : List Value) (h : zH) (o : zO) : Prop := ∃ n, zrun X FT E c n pc lv st h = some o
noncomputable def zex (X : Nat × (Nat → Int32)) (FT : Nat → Nat → Nat) (C : Nat → List (Nat × zQ)) : Nat → Nat → List Value → zH → Option zO
  | 0, _, _, _ => none
  | d + 1, u, args, h => @dite _ (∃ o, zR X FT (zex X FT C d) (C u) 0 args [] h o) (Classical.propDecidable _) (fun hh => some (Classical.choose hh)) (fun _ => none)
/-! naturality: a step hands its end over to k or to ret -/
section znat
variable {α β : Type} {a : α} {b : β}
theorem zi1_nat {st : List Value} {f : Int32 → List Value → Option α} {g : Int32 → List Value → Option β} (h : zi1 st f = some a) (k : ∀ x r, f x r = some a → g x r = some b) : zi1 st g = some b := by
  unfold zi1 at *; split at h <;> first | exact k _ _ h | cases h
theorem zi2_nat {st : List Value} {f : Int32 → Int32 → List Value → Option α} {g : Int32 → Int32 → List Value → Option β} (h : zi2 st f = some a) (k : ∀ x y r, f x y r = some a → g x y r = some b) : zi2 st g = some b := by
  unfold zi2 at *; split at h <;> first | exact k _ _ _ h | cases h
theorem za1_nat {st : List Value} {f : Nat → List Value → Option α} {g : Nat → List Value → Option β} (h : za1 st f = some a) (k : ∀ x r, f x r = some a → g x r = some b) : za1 st g = some b := by
  unfold za1 at *; split at h <;> first | exact k _ _ h | cases h
theorem zg_nat {c : Bool} {t : Option α} {u : Option β} (h : zg c t = some a) (k : t = some a → u = some b) : zg c u = some b := by
  cases c with
  | true => exact k h
  | false => cases h
theorem ze_nat {o : Option zO} {f : Option Value → zH → Option α} {g : Option Value → zH → Option β} (h : ze o f = some a) (k : ∀ x r, f x r = some a → g x r = some b) : ze o g = some b := by
  unfold ze at *; split at h <;> first | exact k _ _ h | cases h
theorem zsh_nat {hp : zH} {x : Nat} {f : Nat → Nat → Option α} {g : Nat → Nat → Option β} (h : zsh hp x f = some a) (k : ∀ x r, f x r = some a → g x r = some b) : zsh hp x g = some b := by
  unfold zsh at *; split at h <;> first | exact k _ _ h | cases h
theorem zlv_nat {lv : List Value} {i : Nat} {f : Value → Option α} {g : Value → Option β} (h : zlv lv i f = some a) (k : ∀ x, f x = some a → g x = some b) : zlv lv i g = some b := by
  unfold zlv at *; split at h <;> first | exact k _ h | cases h
theorem zvi_nat {v : Value} {f : Int32 → Option α} {g : Int32 → Option β} (h : zvi v f = some a) (k : ∀ x, f x = some a → g x = some b) : zvi v g = some b := by
  unfold zvi at *; split at h <;> first | exact k _ h | cases h
theorem zva_nat {v : Value} {f : Value → Option α} {g : Value → Option β} (h : zva v f = some a) (k : ∀ x, f x = some a → g x = some b) : zva v g = some b := by
  unfold zva at *; split at h <;> first | exact k _ h | cases h
theorem zsto_nat {lv : List Value} {i : Nat} {v : Value} {f : List Value → Option α} {g : List Value → Option β} (h : zsto lv i v f = some a) (k : ∀ x, f x = some a → g x = some b) : zsto lv i v g = some b := by
  unfold zsto at *
  cases h1 : Nat.blt i lv.length <;> rw [h1] at h <;> simp only [cond_true, cond_false] at h ⊢
  · cases h2 : Nat.beq i lv.length <;> rw [h2] at h <;> simp only [cond_true, cond_false] at h ⊢
    · cases h
    · exact k _ h
  · exact k _ h
theorem zsw_nat {d : Nat} {x : Int32} {f : Nat → Option α} {g : Nat → Option β} (k : ∀ x, f x = some a → g x = some b) : ∀ {l : List (Int32 × Nat)}, zsw l d x f = some a → zsw l d x g = some b
  | [], h => k _ h
  | q :: r, h => by
    unfold zsw at *
    cases h1 : decide (x = q.1) <;> rw [h1] at h <;> simp only [cond_true, cond_false] at h ⊢
    · exact zsw_nat k h
    · exact k _ h
theorem zb_nat {c : Bool} {t1 t2 : Option α} {u1 u2 : Option β} (h : (bif c then t1 else t2) = some a) (k1 : t1 = some a → u1 = some b) (k2 : t2 = some a → u2 = some b) : (bif c then u1 else u2) = some b := by
  cases c with
  | true => exact k1 h
  | false => exact k2 h
theorem zcall_nat {E : Nat → List Value → zH → Option zO} {hp : zH} {st : List Value} {u n : Nat} {f : Option Value → List Value → zH → Option α} {g : Option Value → List Value → zH → Option β} (h : zcall E hp st u n f = some a) (k : ∀ x y z, f x y z = some a → g x y z = some b) : zcall E hp st u n g = some b :=
  zg_nat h (fun h => ze_nat h (fun _ _ h => k _ _ _ h))
theorem zrecv_nat {hp : zH} {as : List Value} {c : Nat} {t : Option α} {u : Option β} (h : zrecv hp as c t = some a) (k : t = some a → u = some b) : zrecv hp as c u = some b := by
  unfold zrecv at *; split at h <;> first | exact zsh_nat h (fun _ _ h => zg_nat h k) | cases h
theorem zrecv1_nat {as : List Value} {t : Option α} {u : Option β} (h : zrecv1 as t = some a) (k : t = some a → u = some b) : zrecv1 as u = some b := by
  unfold zrecv1 at *; split at h <;> first | exact k h | cases h
theorem zput_nat {FT : Nat → Nat → Nat} {hp : zH} {c x y : Nat} {v : Value} {f : zH → Option α} {g : zH → Option β} (h : zput FT hp c x y v f = some a) (k : ∀ x, f x = some a → g x = some b) : zput FT hp c x y v g = some b := by
  unfold zput at *; split at h <;> first | exact zg_nat h (k _) | cases h
theorem zald_nat {X : Nat × (Nat → Int32)} {hp : zH} {kd : Nat → Bool} {st : List Value} {f : Int32 → List Value → Option α} {g : Int32 → List Value → Option β} (h : zald X hp kd st f = some a) (k : ∀ x r, f x r = some a → g x r = some b) : zald X hp kd st g = some b := by
  unfold zald at *; split at h <;> first | exact zsh_nat h (fun _ _ h => zg_nat h (k _ _)) | exact zg_nat h (k _ _) | cases h
theorem zast_nat {hp : zH} {kd : Nat → Bool} {st : List Value} {f : List Value → zH → Option α} {g : List Value → zH → Option β} (h : zast hp kd st f = some a) (k : ∀ x r, f x r = some a → g x r = some b) : zast hp kd st g = some b := by
  unfold zast at *; split at h <;> first | exact zsh_nat h (fun _ _ h => zg_nat h (k _ _)) | cases h
theorem zlen_nat {X : Nat × (Nat → Int32)} {hp : zH} {st : List Value} {f : Int32 → List Value → Option α} {g : Int32 → List Value → Option β} (h : zlen X hp st f = some a) (k : ∀ x r, f x r = some a → g x r = some b) : zlen X hp st g = some b := by
  unfold zlen at *; split at h <;> first | exact zsh_nat h (fun _ _ h => zg_nat h (k _ _)) | exact zg_nat h (k _ _) | cases h
theorem zcopy_nat {hp : zH} {st : List Value} {f : List Value → zH → Option α} {g : List Value → zH → Option β} (h : zcopy hp st f = some a) (k : ∀ x r, f x r = some a → g x r = some b) : zcopy hp st g = some b := by
  unfold zcopy at *; split at h <;> first | exact zsh_nat h (fun _ _ h => zsh_nat h (fun _ _ h => zg_nat h (k _ _))) | cases h
theorem zixof_nat {st : List Value} {f : Int32 → List Value → Option α} {g : Int32 → List Value → Option β} (h : zixof st f = some a) (k : ∀ x r, f x r = some a → g x r = some b) : zixof st g = some b := by
  unfold zixof at *; split at h <;> first | exact zg_nat h (k _ _) | cases h
theorem zmath_nat {u : Nat} {st : List Value} {f : Int32 → List Value → Option α} {g : Int32 → List Value → Option β} (h : zmath u st f = some a) (k : ∀ x r, f x r = some a → g x r = some b) : zmath u st g = some b :=
  zb_nat h (fun h => zi2_nat h (fun _ _ _ h => zg_nat h (k _ _))) (fun h => zb_nat h (fun h => zi2_nat h (fun _ _ _ h => zg_nat h (k _ _))) (fun h => zi1_nat h (fun _ _ h => zg_nat h (k _ _))))
set_option maxHeartbeats 4000000 in
theorem zst_nat {X : Nat × (Nat → Int32)} {FT : Nat → Nat → Nat} {E : Nat → List Value → zH → Option zO} {q : zQ} {pc : Nat} {lv st : List Value} {h : zH} {k : Nat → List Value → List Value → zH → Option α} {ret : Option Value → zH → Option α} {k' : Nat → List Value → List Value → zH → Option β} {ret' : Option Value → zH → Option β}
    (hs : zst X FT E q pc lv st h k ret = some a) (hk : ∀ pc lv st h, k pc lv st h = some a → k' pc lv st h = some b) (hr : ∀ r h, ret r h = some a → ret' r h = some b) : zst X FT E q pc lv st h k' ret' = some b := by
  obtain ⟨i, len, r1, r2, x, sw, tr⟩ := q
  cases i <;> dsimp only [zst] at hs ⊢ <;>
    first
    | (cases hs; done)
    | exact hk _ _ _ _ hs
    | exact zi1_nat hs (fun _ _ hs => zsto_nat hs (fun _ hs => hk _ _ _ _ hs))
    | exact za1_nat hs (fun _ _ hs => zsto_nat hs (fun _ hs => hk _ _ _ _ hs))
    | exact zi2_nat hs (fun _ _ _ hs => hk _ _ _ _ hs)
    | exact zi2_nat hs (fun _ _ _ hs => zg_nat hs (hk _ _ _ _))
    | exact zi2_nat hs (fun _ _ _ hs => zb_nat hs (hk _ _ _ _) (hk _ _ _ _))
    | exact zi1_nat hs (fun _ _ hs => hk _ _ _ _ hs)
    | exact zi1_nat hs (fun _ _ hs => zg_nat hs (hk _ _ _ _))
    | exact zi1_nat hs (fun _ _ hs => zb_nat hs (hk _ _ _ _) (hk _ _ _ _))
    | exact zi1_nat hs (fun _ _ hs => zsw_nat (fun _ hs => hk _ _ _ _ hs) hs)
    | exact zb_nat hs (hk _ _ _ _) (hk _ _ _ _)
    | exact zlv_nat hs (fun _ hs => zvi_nat hs (fun _ hs => hk _ _ _ _ hs))
    | exact zlv_nat hs (fun _ hs => zva_nat hs (fun _ hs => hk _ _ _ _ hs))
    | exact zlv_nat hs (fun _ hs => zvi_nat hs (fun _ hs => zsto_nat hs (fun _ hs => hk _ _ _ _ hs)))
    | exact za1_nat hs (fun _ _ hs => zsh_nat hs (fun _ _ hs => zg_nat hs (hk _ _ _ _)))
    | exact zald_nat hs (fun _ _ hs => hk _ _ _ _ hs)
    | exact zast_nat hs (fun _ _ hs => hk _ _ _ _ hs)
    | exact zlen_nat hs (fun _ _ hs => hk _ _ _ _ hs)
    | exact zb_nat hs (fun hs => za1_nat hs (fun _ _ hs => zg_nat hs (hk _ _ _ _))) (fun hs => zrecv1_nat hs (fun hs => zcall_nat hs (fun _ _ _ hs => hk _ _ _ _ hs)))
    | exact zb_nat hs (fun hs => zcopy_nat hs (fun _ _ hs => hk _ _ _ _ hs)) (fun hs => zb_nat hs (fun hs => zmath_nat hs (fun _ _ hs => hk _ _ _ _ hs)) (fun hs => zcall_nat hs (fun _ _ _ hs => hk _ _ _ _ hs)))
    | exact zb_nat hs (fun hs => zixof_nat hs (fun _ _ hs => hk _ _ _ _ hs)) (fun hs => zrecv_nat hs (fun hs => zcall_nat hs (fun _ _ _ hs => hk _ _ _ _ hs)))
    | (split at hs <;> first | (cases hs; done) | exact zg_nat hs (hk _ _ _ _) | exact zg_nat hs (hr _ _) | exact hr _ _ hs | exact zsh_nat hs (fun _ _ hs => zg_nat hs (fun hs => zput_nat hs (fun _ hs => hk _ _ _ _ hs))))
end znat
section zruns
variable {X : Nat × (Nat → Int32)} {FT : Nat → Nat → Nat} {E : Nat → List Value → zH → Option zO} {c : List (Nat × zQ)}
theorem zrun_succ : ∀ {n pc : Nat} {lv st : List Value} {h : zH} {o : zO}, zrun X FT E c n pc lv st h = some o → zrun X FT E c (n + 1) pc lv st h = some o
  | 0, _, _, _, _, _, h => by cases h
  | n + 1, pc, lv, st, hp, o, h => by
    unfold zrun at h ⊢
    cases hq : zfind c pc with
    | none => rw [hq] at h; cases h
    | some q =>
      rw [hq] at h
      exact zst_nat h (fun _ _ _ _ h => zrun_succ h) (fun _ _ h => h)
theorem zrun_le {n m pc : Nat} {lv st : List Value} {h : zH} {o : zO} (hn : n ≤ m) (hr : zrun X FT E c n pc lv st h = some o) : zrun X FT E c m pc lv st h = some o := by
  induction hn with
  | refl => exact hr
  | step _ ih => exact zrun_succ ih
theorem zR_det {pc : Nat} {lv st : List Value} {h : zH} {o o' : zO} (h1 : zR X FT E c pc lv st h o) (h2 : zR X FT E c pc lv st h o') : o = o' := by
  obtain ⟨n, h1⟩ := h1
  obtain ⟨m, h2⟩ := h2
  have e1 := zrun_le (Nat.le_max_left n m) h1
  have e2 := zrun_le (Nat.le_max_right n m) h2
  rw [e1] at e2
  exact Option.some.inj e2
end zruns
theorem zex_of {X : Nat × (Nat → Int32)} {FT : Nat → Nat → Nat} {C : Nat → List (Nat × zQ)} {d u : Nat} {args : List Value} {h : zH} {o : zO} (hR : zR X FT (zex X FT C d) (C u) 0 args [] h o) : zex X FT C (d + 1) u args h = some o := by
  have hh : ∃ o, zR X FT (zex X FT C d) (C u) 0 args [] h o := ⟨o, hR⟩
  unfold zex
  rw [dif_pos hh]
  exact congrArg some (zR_det (Classical.choose_spec hh) hR)
theorem zex_to {X : Nat × (Nat → Int32)} {FT : Nat → Nat → Nat} {C : Nat → List (Nat × zQ)} {d u : Nat} {args : List Value} {h : zH} {o : zO} (hR : zex X FT C (d + 1) u args h = some o) : zR X FT (zex X FT C d) (C u) 0 args [] h o := by
  unfold zex at hR
  by_cases hh : ∃ o, zR X FT (zex X FT C d) (C u) 0 args [] h o
  · rw [dif_pos hh] at hR
    rw [← Option.some.inj hR]
    exact Classical.choose_spec hh
  · rw [dif_neg hh] at hR
    cases hR
