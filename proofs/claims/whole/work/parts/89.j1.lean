/-! ===== String.indexOf: its leaves ===== -/
def jP (a : List Value) : Array Value → State → Prop := fun v _ => v = a.toArray
def jQ (r : Int32) : Array Value → State → Outcome → State → Prop := fun _ st o t => o = .returned (some (.int r)) ∧ t.heap = st.heap
def jrm (f lo : Nat) : Room := { frames := f, cells := 0, slots := 0, locals := lo }
def jEnc : MethodName := ⟨"java/lang/StringLatin1", "canEncode", "(I)Z"⟩
theorem j_canEncode {l : Launch} (x : Int32) : Met l jEnc [Cond.code jEnc prog_18_method_4_code 1 (some .boolean)] (jrm 2 20) (jP [.int x]) (jQ (if x < 0 then 0 else if 255 < x then 0 else 1)) 0 0 (fun _ => False) := by
  refine Met.ofW (cc := prog_18_method_4_code) (maxL := 1) (ret := some .boolean) (by decide) rfl ?_
  intro p e s m args' below meth c s₁ B hml hP
  have hP : args' = #[.int x] := hP
  subst hP
  have he : entryFrame m #[.int x] 1 = F0 m 0 #[.val (.int x)] [] := rfl
  rw [he]
  have fin : ∀ (r : Int32), (r = 0 ∨ r = 1) → (if x < 0 then (0 : Int32) else if 255 < x then 0 else 1) = r → W p l e (headSpec [Cond.code jEnc prog_18_method_4_code 1 (some .boolean)] (jrm 2 20)).room s m #[.int x] below meth c s.heap [] 0 0 (MQ below (jQ (if x < 0 then 0 else if 255 < x then 0 else 1)) #[.int x] s 0 0 (fun _ => False)) (F0 m 16 #[.val (.int x)] [.int r]) := fun r hr01 hr => by
    obtain ⟨ty, h1, h2⟩ := znarrow (rt := some .boolean) (v := r) (Or.inr ⟨rfl, hr01⟩)
    refine W.zret B.exec B.bytes (by rw [← h1]; exact B.returns) h2 (fun t ht _ => ⟨by rw [hr], ht⟩) (fun q hq => by cases hq) (by decide +kernel) B.notSynchronized
  refine lv_iload_n B.exec B.bytes (k := 0) (i := 0) (x := x) (by decide +kernel) rfl rfl ?_
  refine lv_if_lt B.exec B.bytes (off := 14) (tgt := 15) (by decide +kernel) (by decide) (fun hx => ?_) (fun hx => ?_)
  · refine lv_iconst B.exec B.bytes (n := 0) (v := 0) (by decide +kernel) rfl ?_
    exact fin 0 (Or.inl rfl) (by rw [if_pos hx])
  · refine lv_iload_n B.exec B.bytes (k := 0) (i := 0) (x := x) (by decide +kernel) rfl rfl ?_
    refine lv_sipush B.exec B.bytes (n := 255) (v := 255) (by decide +kernel) rfl ?_
    refine lv_icmp_gt B.exec B.bytes (off := 7) (tgt := 15) (by decide +kernel) (by decide) (fun hy => ?_) (fun hy => ?_)
    · refine lv_iconst B.exec B.bytes (n := 0) (v := 0) (by decide +kernel) rfl ?_
      exact fin 0 (Or.inl rfl) (by rw [if_neg hx, if_pos hy])
    · refine lv_iconst B.exec B.bytes (n := 1) (v := 1) (by decide +kernel) rfl ?_
      refine lv_goto B.exec B.bytes (off := 4) (tgt := 16) (by decide +kernel) (by decide) ?_
      exact fin 1 (Or.inr rfl) (by rw [if_neg hx, if_neg hy])
