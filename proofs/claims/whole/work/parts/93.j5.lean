/-! ===== String.length ===== -/
def jLen : MethodName := ⟨"java/lang/String", "length", "()I"⟩
def jL9 : Cond := Cond.fieldLink "java/lang/String" 9 "java/lang/String" "value" "[B"
def jwCod : List Cond := [Cond.code jCod prog_17_method_152_code 1 (some .byte), jL15, jL38]
def jwLen : List Cond := [Cond.code jLen prog_17_method_54_code 1 (some .int), jL9, Cond.methodLink "java/lang/String" 335 jCod, Cond.instanceMethod jCod, Cond.selects "java/lang/String" jCod jCod, Cond.initialized "java/lang/String"] ++ jwCod
theorem jgood : GoodIn jwLen jwCod := by
  intro w hw
  exact ⟨List.mem_append_right _ hw, by
    simp only [jwCod, List.mem_cons, List.not_mem_nil, or_false] at hw
    rcases hw with rfl | rfl | rfl <;> exact good_of_word (by decide +kernel)⟩
theorem j_length {l : Launch} {A : Nat → Prop} {q t : Nat} : Met l jLen jwLen (jrm 4 60) (jS q t A [.ref q]) (jQ 9) 0 0 (fun _ => False) := by
  refine Met.ofW (cc := prog_17_method_54_code) (maxL := 1) (ret := some .int) (by decide) rfl ?_
  intro p e s m args' below meth c s₁ B hml hP
  obtain ⟨hP, hk⟩ := hP
  subst hP
  have hts := atoms_spec (ws := jwLen) B.pre
  have hown : s.vm.findClass "java/lang/String" = some m.cls := findClass_of_methodNamed B.named
  have hS : va_S A s.heap s.heap [] := va_S.rf
  have he : entryFrame m ([.ref q] : List Value).toArray 1 = F0 m 0 #[.val (.ref q)] [] := rfl
  rw [he]
  obtain ⟨hO, hC, hV, hT, hZ⟩ := id hk
  refine lv_aload_n B.exec B.bytes (k := 0) (i := 0) (x := q) (by decide +kernel) rfl rfl ?_
  refine vk_getf B.exec B.bytes hV hS hown (hts jL9 (by simp [jwLen])) (fun _ h => h) (by decide +kernel) ?_
  refine va_tlen B.exec B.bytes hT hS (v := 9) rfl (by decide +kernel) ?_
  refine lv_aload_n B.exec B.bytes (k := 0) (i := 0) (x := q) (by decide +kernel) rfl rfl ?_
  have hrc : ∃ cell : Cell, s.heap[q]? = some cell ∧ cell.vm.isStatics = false ∧ s.vm.findClass "java/lang/String" = some cell.cls := by
    obtain ⟨cell, h1, h2, h3, -⟩ := hO
    exact ⟨cell, h1, h2, h3⟩
  have hrun := va_runV (e := e) (below := below) (meth := meth) (R := (headSpec jwLen (jrm 4 60)).room) (bytes := prog_17_method_152_code) (maxL := 1) (ret := some .byte) (rest := [.int 9]) (As := []) (g := F0 m 6 #[.val (.ref q)] [.ref q, .int 9]) (cells := 0) (slots := 0) (locs := []) ⟨B.exec, B.bytes, hml, hown, hts⟩ (j_coder (l := l) (A := A) (q := q) (t := t)) ⟨callB_of (ws := jwCod) _ hts jgood rfl rfl rfl (hts (Cond.initialized "java/lang/String") (List.mem_of_getElem? (i := 5) rfl)) (hts (Cond.methodLink "java/lang/String" 335 jCod) (List.mem_of_getElem? (i := 2) rfl)) ⟨by decide, by decide, by decide⟩ ⟨show 3 ≤ 4 by decide, show 8 + (1 + 11) + 20 ≤ 60 by decide⟩, hts (Cond.instanceMethod jCod) (List.mem_of_getElem? (i := 3) rfl), hts (Cond.selects "java/lang/String" jCod jCod) (List.mem_of_getElem? (i := 4) rfl)⟩ ⟨jS_blind, hrc, fun U hU hW => ⟨rfl, jK_at hk hS hU hW⟩⟩ rfl rfl rfl rfl (lv_room (show 1 ≤ 8 by decide)) (show decode prog_17_method_54_code 6 = .ok (.invokevirtual 335, 3) by decide +kernel) ⟨Nat.zero_le _, Nat.zero_le _⟩
  refine jcall_W hrun ?_
  refine lv_ishr B.exec B.bytes (by decide +kernel) ?_
  obtain ⟨ty, h1, h2⟩ := znarrow (rt := some .int) (v := 9) (Or.inl rfl)
  exact W.zret B.exec B.bytes (by rw [← h1]; exact B.returns) h2 (fun t ht _ => ⟨rfl, ht⟩) (fun q hq => by cases hq) (by decide +kernel) B.notSynchronized
