/-! ===== String.indexOf(I)I ===== -/
def jIx3 : MethodName := ⟨"java/lang/String", "indexOf", "(I)I"⟩
def jw3 : List Cond := [Cond.code jIx3 prog_17_method_79_code 2 (some .int), Cond.methodLink "java/lang/String" 633 jIx2, Cond.instanceMethod jIx2, Cond.selects "java/lang/String" jIx2 jIx2, Cond.initialized "java/lang/String"] ++ jw2
theorem jg3 : GoodIn jw3 jw2 := jgoodA (fun w hw => List.mem_append_right _ hw) (by decide +kernel)
theorem j_indexOf3 {l : Launch} {A : Nat → Prop} {q t : Nat} (x : Int32) : Met l jIx3 jw3 (jrm 10 200) (jS q t A [.ref q, .int x]) (jQ (jAns x)) 0 0 (fun _ => False) := by
  refine Met.ofW (cc := prog_17_method_79_code) (maxL := 2) (ret := some .int) (by decide) rfl ?_
  intro p e s m args' below meth c s₁ B hml hP
  obtain ⟨hP, hk⟩ := hP
  subst hP
  have hts := atoms_spec (ws := jw3) B.pre
  have hown : s.vm.findClass "java/lang/String" = some m.cls := findClass_of_methodNamed B.named
  have hS : va_S A s.heap s.heap [] := va_S.rf
  have he : entryFrame m ([.ref q, .int x] : List Value).toArray 2 = F0 m 0 #[.val (.ref q), .val (.int x)] [] := rfl
  rw [he]
  have hrc : ∃ cell : Cell, s.heap[q]? = some cell ∧ cell.vm.isStatics = false ∧ s.vm.findClass "java/lang/String" = some cell.cls := by
    obtain ⟨cell, h1, h2, h3, -⟩ := hk.1
    exact ⟨cell, h1, h2, h3⟩
  refine lv_aload_n B.exec B.bytes (k := 0) (i := 0) (x := q) (by decide +kernel) rfl rfl ?_
  refine lv_iload_n B.exec B.bytes (k := 1) (i := 1) (x := x) (by decide +kernel) rfl rfl ?_
  refine lv_iconst B.exec B.bytes (n := 0) (v := 0) (by decide +kernel) rfl ?_
  have hrun := va_runV (e := e) (below := below) (meth := meth) (R := (headSpec jw3 (jrm 10 200)).room) (bytes := prog_17_method_80_code) (maxL := 3) (ret := some .int) (rest := []) (As := [.int x, .int 0]) (g := F0 m 3 #[.val (.ref q), .val (.int x)] [.int 0, .int x, .ref q]) (cells := 0) (slots := 0) (locs := []) ⟨B.exec, B.bytes, hml, hown, hts⟩ (j_indexOf2 (l := l) (A := A) (q := q) (t := t) x) ⟨callB_of (ws := jw2) _ hts jg3 rfl rfl rfl (hts (Cond.initialized "java/lang/String") (List.mem_of_getElem? (i := 4) rfl)) (hts (Cond.methodLink "java/lang/String" 633 jIx2) (List.mem_of_getElem? (i := 1) rfl)) ⟨by decide, by decide, show (parseMethodDescriptor jIx2.desc).map (fun d => d.parameters.length) = some 2 by decide⟩ ⟨show 9 ≤ 10 by decide, show 8 + (3 + 11) + 160 ≤ 200 by decide⟩, hts (Cond.instanceMethod jIx2) (List.mem_of_getElem? (i := 2) rfl), hts (Cond.selects "java/lang/String" jIx2 jIx2) (List.mem_of_getElem? (i := 3) rfl)⟩ ⟨jS_blind, hrc, fun U hU hW => ⟨rfl, jK_at hk hS hU hW⟩⟩ rfl rfl rfl rfl (lv_room (show 0 ≤ 8 by decide)) (show decode prog_17_method_79_code 3 = .ok (.invokevirtual 633, 3) by decide +kernel) ⟨Nat.zero_le _, Nat.zero_le _⟩
  refine jcall_W hrun ?_
  obtain ⟨ty, h1, h2⟩ := znarrow (rt := some .int) (v := jAns x) (Or.inl rfl)
  exact W.zret B.exec B.bytes (by rw [← h1]; exact B.returns) h2 (fun t ht _ => ⟨rfl, ht⟩) (fun q hq => by cases hq) (by decide +kernel) B.notSynchronized
