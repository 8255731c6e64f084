/-! ===== String.indexOf: the loop ===== -/
def jix (b : Int32) : List Int32 → Nat → Int32
  | [], _ => -1
  | y :: t, k => if y = b then nI k else jix b t (k + 1)
def jIxC : MethodName := ⟨"java/lang/StringLatin1", "indexOfChar", "([BIII)I"⟩
def jT (t : Nat) (A : Nat → Prop) (a : List Value) : Array Value → State → Prop := fun v U => v = a.toArray ∧ va_T .byte t 9 (fun j => .int (zbyt.getD j 0)) A U U.heap
theorem j_indexOfChar {l : Launch} {A : Nat → Prop} {t : Nat} (x : Int32) : Met l jIxC [Cond.code jIxC prog_18_method_23_code 6 (some .int)] (jrm 2 20) (jT t A [.ref t, .int x, .int 0, .int 9]) (jQ (jix x.toInt8.toInt32 zbyt 0)) 0 0 (fun _ => False) := by
  refine Met.ofW (cc := prog_18_method_23_code) (maxL := 6) (ret := some .int) (by decide) rfl ?_
  intro p e s m args' below meth c s₁ B hml hP
  obtain ⟨hP, hT⟩ := hP
  subst hP
  have hS : va_S A s.heap s.heap [] := va_S.rf
  have he : entryFrame m ([.ref t, .int x, .int 0, .int 9] : List Value).toArray 6 = F0 m 0 #[.val (.ref t), .val (.int x), .val (.int 0), .val (.int 9), .unset, .unset] [] := rfl
  rw [he]
  have h0 : lv_has #[.val (.ref t), .val (.int x), .val (.int 0), .val (.int 9), .unset, .unset] 6 [(0, .ref t), (1, .int x), (2, .int 0), (3, .int 9)] := lv_entry [.ref t, .int x, .int 0, .int 9] (n := 6) (show 4 ≤ 6 by decide)
  have fin : ∀ (r : Int32) (pc : Nat) (ls : Array Slot), jix x.toInt8.toInt32 zbyt 0 = r → decode prog_18_method_23_code pc = .ok (.ireturn, 1) → W p l e (headSpec [Cond.code jIxC prog_18_method_23_code 6 (some .int)] (jrm 2 20)).room s m ([.ref t, .int x, .int 0, .int 9] : List Value).toArray below meth c s.heap [] 0 0 (MQ below (jQ (jix x.toInt8.toInt32 zbyt 0)) ([.ref t, .int x, .int 0, .int 9] : List Value).toArray s 0 0 (fun _ => False)) (F0 m pc ls [.int r]) := fun r pc ls hr hd => by
    obtain ⟨ty, h1, h2⟩ := znarrow (rt := some .int) (v := r) (Or.inl rfl)
    refine W.zret B.exec B.bytes (by rw [← h1]; exact B.returns) h2 (fun t ht _ => ⟨by rw [hr], ht⟩) (fun q hq => by cases hq) hd B.notSynchronized
  have loop : ∀ (n k : Nat) (ls : Array Slot), k + n = 9 → jix x.toInt8.toInt32 (zbyt.drop k) k = jix x.toInt8.toInt32 zbyt 0 → lv_has ls 6 [(5, .int (nI k)), (4, .int x.toInt8.toInt32), (0, .ref t), (1, .int x), (2, .int 0), (3, .int 9)] → W p l e (headSpec [Cond.code jIxC prog_18_method_23_code 6 (some .int)] (jrm 2 20)).room s m ([.ref t, .int x, .int 0, .int 9] : List Value).toArray below meth c s.heap [] 0 0 (MQ below (jQ (jix x.toInt8.toInt32 zbyt 0)) ([.ref t, .int x, .int 0, .int 9] : List Value).toArray s 0 0 (fun _ => False)) (F0 m 7 ls []) := by
    intro n
    induction n with
    | zero =>
      intro k ls hk hj hl
      have : k = 9 := by omega
      subst this
      refine lv_iload B.exec B.bytes (i := 5) (x := nI 9) (by decide +kernel) (lv_at hl 0 rfl) ?_
      refine lv_iload_n B.exec B.bytes (k := 3) (i := 3) (x := 9) (by decide +kernel) rfl (lv_at hl 5 rfl) ?_
      refine lv_icmp_ge B.exec B.bytes (off := 21) (tgt := 31) (by decide +kernel) (by decide) (fun _ => ?_) (fun q => absurd (show (9 : Int32) ≤ nI 9 by decide) q)
      refine lv_iconst B.exec B.bytes (n := -1) (v := -1) (by decide +kernel) rfl ?_
      exact fin (-1) 32 _ hj.symm (by decide +kernel)
    | succ n ih =>
      intro k ls hk hj hl
      have hk9 : k < 9 := by omega
      obtain ⟨y, hy⟩ : ∃ y, zbyt.drop k = y :: zbyt.drop (k + 1) := ⟨zbyt[k]'hk9, List.drop_eq_getElem_cons hk9⟩
      have hy2 : zbyt.getD k 0 = y := by
        have := congrArg (fun l => l.getD 0 0) hy
        simpa using this
      rw [hy] at hj
      unfold jix at hj
      refine lv_iload B.exec B.bytes (i := 5) (x := nI k) (by decide +kernel) (lv_at hl 0 rfl) ?_
      refine lv_iload_n B.exec B.bytes (k := 3) (i := 3) (x := 9) (by decide +kernel) rfl (lv_at hl 5 rfl) ?_
      refine lv_icmp_ge B.exec B.bytes (off := 21) (tgt := 31) (by decide +kernel) (by decide) (fun q => absurd q (of_decide_eq_false ((nI_dle (a := 9) (b := k) (by omega) (by omega)).trans (dF (by omega))))) (fun _ => ?_)
      refine lv_aload_n B.exec B.bytes (k := 0) (i := 0) (x := t) (by decide +kernel) rfl (lv_at hl 2 rfl) ?_
      refine lv_iload B.exec B.bytes (i := 5) (x := nI k) (by decide +kernel) (lv_at hl 0 rfl) ?_
      refine va_tb B.exec B.bytes hT hS (i := nI k) (fun q => ?_) (v := .int y) (by rw [nI_cl (by omega), hy2]) (by decide +kernel) ?_
      · rcases q with q | q
        · exact absurd q (of_decide_eq_false ((nI_dlt (a := k) (b := 0) (by omega) (by omega)).trans (dF (by omega))))
        · rw [nI_cl (by omega)] at q; omega
      refine lv_iload B.exec B.bytes (i := 4) (x := x.toInt8.toInt32) (by decide +kernel) (lv_at hl 1 rfl) ?_
      refine lv_icmp_ne B.exec B.bytes (off := 6) (tgt := 25) (by decide +kernel) (by decide) (fun q => ?_) (fun q => ?_)
      · rw [if_neg q] at hj
        refine lv_iinc B.exec B.bytes (i := 5) (k := 0) (n := 1) (x := nI k) (v := nI (k + 1)) (by decide +kernel) hl rfl (nI_1 k) (by decide) rfl (fun ls' hl' => ?_)
        refine lv_goto B.exec B.bytes (off := -21) (tgt := 7) (by decide +kernel) (by decide) ?_
        exact ih (k + 1) ls' (by omega) hj hl'
      · have q' : y = x.toInt8.toInt32 := q
        rw [if_pos q'] at hj
        refine lv_iload B.exec B.bytes (i := 5) (x := nI k) (by decide +kernel) (lv_at hl 0 rfl) ?_
        exact fin (nI k) 24 _ hj.symm (by decide +kernel)
  refine lv_iload_n B.exec B.bytes (k := 1) (i := 1) (x := x) (by decide +kernel) rfl (lv_at h0 1 rfl) ?_
  refine lv_i2b B.exec B.bytes (v := x.toInt8.toInt32) (by decide +kernel) rfl ?_
  refine lv_istore B.exec B.bytes (i := 4) (by decide +kernel) h0 (by decide) rfl (fun ls1 h1 => ?_)
  refine lv_iload_n B.exec B.bytes (k := 2) (i := 2) (x := 0) (by decide +kernel) rfl (lv_at h1 3 rfl) ?_
  refine lv_istore B.exec B.bytes (i := 5) (by decide +kernel) h1 (by decide) rfl (fun ls2 h2 => ?_)
  exact loop 9 0 ls2 rfl rfl h2
