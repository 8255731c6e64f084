/-! ===== String.indexOf: what it asks of the text ===== -/
/-- the constant text, as its methods read it -/
def jK (q t : Nat) (A : Nat → Prop) (U : State) : Prop := va_O "java/lang/String" q A U U.heap ∧ va_OF "java/lang/String" "coder" "B" (.int 0) q A U U.heap ∧ va_OF "java/lang/String" "value" "[B" (.ref t) q A U U.heap ∧ va_T .byte t 9 (fun j => .int (zbyt.getD j 0)) A U U.heap ∧ va_Z "java/lang/String" "COMPACT_STRINGS" "Z" (.int 1) A U U.heap
def jS (q t : Nat) (A : Nat → Prop) (a : List Value) : Array Value → State → Prop := fun v U => v = a.toArray ∧ jK q t A U
def jCod : MethodName := ⟨"java/lang/String", "coder", "()B"⟩
def jLat : MethodName := ⟨"java/lang/String", "isLatin1", "()Z"⟩
def jL15 : Cond := Cond.fieldLink "java/lang/String" 15 "java/lang/String" "coder" "B"
def jL38 : Cond := Cond.fieldLink "java/lang/String" 38 "java/lang/String" "COMPACT_STRINGS" "Z"
theorem j_isLatin1 {l : Launch} {A : Nat → Prop} {q t : Nat} : Met l jLat [Cond.code jLat prog_17_method_154_code 1 (some .boolean), jL15, jL38] (jrm 2 20) (jS q t A [.ref q]) (jQ 1) 0 0 (fun _ => False) := by
  refine Met.ofW (cc := prog_17_method_154_code) (maxL := 1) (ret := some .boolean) (by decide) rfl ?_
  intro p e s m args' below meth c s₁ B hml hP
  obtain ⟨hP, hO, hC, hV, hT, hZ⟩ := hP
  subst hP
  have hts := atoms_spec (ws := [Cond.code jLat prog_17_method_154_code 1 (some .boolean), jL15, jL38]) B.pre
  have hown : s.vm.findClass "java/lang/String" = some m.cls := findClass_of_methodNamed B.named
  have hS : va_S A s.heap s.heap [] := va_S.rf
  have he : entryFrame m ([.ref q] : List Value).toArray 1 = F0 m 0 #[.val (.ref q)] [] := rfl
  rw [he]
  refine va_gets B.exec B.bytes hZ hS hown (hts jL38 (by simp)) (fun _ h => h) (by decide +kernel) ?_
  refine lv_if_eq B.exec B.bytes (off := 14) (tgt := 17) (by decide +kernel) (by decide) (fun h => absurd h (by decide)) (fun _ => ?_)
  refine lv_aload_n B.exec B.bytes (k := 0) (i := 0) (x := q) (by decide +kernel) rfl rfl ?_
  refine vk_getf B.exec B.bytes hC hS hown (hts jL15 (by simp)) (fun _ h => h) (by decide +kernel) ?_
  refine lv_if_ne B.exec B.bytes (off := 7) (tgt := 17) (by decide +kernel) (by decide) (fun h => absurd rfl h) (fun _ => ?_)
  refine lv_iconst B.exec B.bytes (n := 1) (v := 1) (by decide +kernel) rfl ?_
  refine lv_goto B.exec B.bytes (off := 4) (tgt := 18) (by decide +kernel) (by decide) ?_
  obtain ⟨ty, h1, h2⟩ := znarrow (rt := some .boolean) (v := 1) (Or.inr ⟨rfl, Or.inr rfl⟩)
  exact W.zret B.exec B.bytes (by rw [← h1]; exact B.returns) h2 (fun t ht _ => ⟨rfl, ht⟩) (fun q hq => by cases hq) (by decide +kernel) B.notSynchronized
