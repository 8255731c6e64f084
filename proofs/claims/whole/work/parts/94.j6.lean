/-! ===== StringLatin1.indexOf ===== -/
def jIx1 : MethodName := ⟨"java/lang/StringLatin1", "indexOf", "([BIII)I"⟩
def jwE : List Cond := [Cond.code jEnc prog_18_method_4_code 1 (some .boolean)]
def jwC : List Cond := [Cond.code jIxC prog_18_method_23_code 6 (some .int)]
def jw1 : List Cond := [Cond.code jIx1 prog_18_method_22_code 4 (some .int), Cond.methodLink "java/lang/StringLatin1" 88 jEnc, Cond.static jEnc, Cond.initialized "java/lang/StringLatin1", Cond.code jEnc prog_18_method_4_code 1 (some .boolean), Cond.methodLink "java/lang/StringLatin1" 92 Lib.Math.max.name, Cond.static Lib.Math.max.name, Cond.initialized "java/lang/Math", Cond.code Lib.Math.max.name Lib.Math.max.code 2 (some .int), Cond.methodLink "java/lang/StringLatin1" 38 Lib.Math.min.name, Cond.static Lib.Math.min.name, Cond.code Lib.Math.min.name Lib.Math.min.code 2 (some .int), Cond.methodLink "java/lang/StringLatin1" 95 jIxC, Cond.static jIxC, Cond.code jIxC prog_18_method_23_code 6 (some .int)]
theorem jgE : GoodIn jw1 jwE := by
  intro w hw
  simp only [jwE, List.mem_cons, List.not_mem_nil, or_false] at hw
  subst hw
  exact ⟨List.mem_of_getElem? (i := 4) rfl, good_of_word (by decide +kernel)⟩
theorem jgC : GoodIn jw1 jwC := by
  intro w hw
  simp only [jwC, List.mem_cons, List.not_mem_nil, or_false] at hw
  subst hw
  exact ⟨List.mem_of_getElem? (i := 14) rfl, good_of_word (by decide +kernel)⟩
theorem jT_blind {t : Nat} {A : Nat → Prop} {a : List Value} : FrameBlind (jT t A a) := fun b U g mk h => ⟨h.1, h.2.moved (u := U) (Vm.Alike.refl U.vm)⟩
def jAns (x : Int32) : Int32 := if x < 0 then -1 else if 255 < x then -1 else jix x.toInt8.toInt32 zbyt 0
theorem j_indexOf1 {l : Launch} {A : Nat → Prop} {t : Nat} (x : Int32) : Met l jIx1 jw1 (jrm 6 100) (jT t A [.ref t, .int x, .int 0, .int 9]) (jQ (jAns x)) 0 0 (fun _ => False) := by
  refine Met.ofW (cc := prog_18_method_22_code) (maxL := 4) (ret := some .int) (by decide) rfl ?_
  intro p e s m args' below meth c s₁ B hml hP
  obtain ⟨hP, hT⟩ := hP
  subst hP
  have hts := atoms_spec (ws := jw1) B.pre
  have hown : s.vm.findClass "java/lang/StringLatin1" = some m.cls := findClass_of_methodNamed B.named
  have hS : va_S A s.heap s.heap [] := va_S.rf
  have he : entryFrame m ([.ref t, .int x, .int 0, .int 9] : List Value).toArray 4 = F0 m 0 #[.val (.ref t), .val (.int x), .val (.int 0), .val (.int 9)] [] := rfl
  rw [he]
  have h0 : lv_has #[.val (.ref t), .val (.int x), .val (.int 0), .val (.int 9)] 4 [(0, .ref t), (1, .int x), (2, .int 0), (3, .int 9)] := lv_entry [.ref t, .int x, .int 0, .int 9] (n := 4) (show 4 ≤ 4 by decide)
  have fin : ∀ (r : Int32) (pc : Nat) (ls : Array Slot), jAns x = r → decode prog_18_method_22_code pc = .ok (.ireturn, 1) → W p l e (headSpec jw1 (jrm 6 100)).room s m ([.ref t, .int x, .int 0, .int 9] : List Value).toArray below meth c s.heap [] 0 0 (MQ below (jQ (jAns x)) ([.ref t, .int x, .int 0, .int 9] : List Value).toArray s 0 0 (fun _ => False)) (F0 m pc ls [.int r]) := fun r pc ls hr hd => by
    obtain ⟨ty, h1, h2⟩ := znarrow (rt := some .int) (v := r) (Or.inl rfl)
    exact W.zret B.exec B.bytes (by rw [← h1]; exact B.returns) h2 (fun t ht _ => ⟨by rw [hr], ht⟩) (fun q hq => by cases hq) hd B.notSynchronized
  refine lv_iload_n B.exec B.bytes (k := 1) (i := 1) (x := x) (by decide +kernel) rfl (lv_at h0 1 rfl) ?_
  have hrun := va_runS (e := e) (below := below) (meth := meth) (R := (headSpec jw1 (jrm 6 100)).room) (H := s.heap) (bytes := prog_18_method_4_code) (maxL := 1) (ret := some .boolean) (rest := []) (As := [.int x]) (g := F0 m 1 #[.val (.ref t), .val (.int x), .val (.int 0), .val (.int 9)] [.int x]) (cells := 0) (slots := 0) (locs := []) ⟨B.exec, B.bytes, hml, hown, hts⟩ (j_canEncode (l := l) x) ⟨callB_of (ws := jwE) _ hts jgE rfl rfl rfl (hts (Cond.initialized "java/lang/StringLatin1") (List.mem_of_getElem? (i := 3) rfl)) (hts (Cond.methodLink "java/lang/StringLatin1" 88 jEnc) (List.mem_of_getElem? (i := 1) rfl)) ⟨by decide, by decide, show (parseMethodDescriptor jEnc.desc).map (fun d => d.parameters.length) = some 1 by decide⟩ ⟨show 3 ≤ 6 by decide, show 8 + (1 + 11) + 20 ≤ 100 by decide⟩, hts (Cond.static jEnc) (List.mem_of_getElem? (i := 2) rfl)⟩ ⟨jP_blind, fun U hU hW => rfl⟩ rfl rfl rfl rfl (lv_room (show 0 ≤ 8 by decide)) (show decode prog_18_method_22_code 1 = .ok (.invokestatic 88, 3) by decide +kernel) ⟨Nat.zero_le _, Nat.zero_le _⟩
  refine jcall_W hrun ?_
  refine lv_if_ne B.exec B.bytes (off := 5) (tgt := 9) (by decide +kernel) (by decide) (fun h => ?_) (fun h => ?_)
  · have hx : ¬ x < 0 := fun q => h (by rw [if_pos q])
    have hy : ¬ 255 < x := fun q => h (by rw [if_neg hx, if_pos q])
    refine lv_iload_n B.exec B.bytes (k := 2) (i := 2) (x := 0) (by decide +kernel) rfl (lv_at h0 2 rfl) ?_
    refine lv_iconst B.exec B.bytes (n := 0) (v := 0) (by decide +kernel) rfl ?_
    refine va_mmax (R := (headSpec jw1 (jrm 6 100)).room) (rest := []) B.exec B.bytes (hml.trans h0.1.symm) hown (hts (Cond.methodLink "java/lang/StringLatin1" 92 Lib.Math.max.name) (List.mem_of_getElem? (i := 5) rfl)) (hts _ (List.mem_of_getElem? (i := 6) rfl)) (hts _ (List.mem_of_getElem? (i := 7) rfl)) (hts _ (List.mem_of_getElem? (i := 8) rfl)) (show 1 ≤ 6 by decide) (show 0 + 13 ≤ 100 by decide) (Nat.zero_le _) (Nat.zero_le _) (by decide +kernel) ?_
    refine lv_istore_n B.exec B.bytes (k := 2) (i := 2) (lv' := [(2, .int 0), (0, .ref t), (1, .int x), (3, .int 9)]) (by decide +kernel) rfl h0 (by decide) rfl (fun ls1 h1 => ?_)
    refine lv_iload_n B.exec B.bytes (k := 3) (i := 3) (x := 9) (by decide +kernel) rfl (lv_at h1 3 rfl) ?_
    refine lv_aload_n B.exec B.bytes (k := 0) (i := 0) (x := t) (by decide +kernel) rfl (lv_at h1 1 rfl) ?_
    refine va_tlen B.exec B.bytes hT hS (v := 9) rfl (by decide +kernel) ?_
    refine va_mmin (R := (headSpec jw1 (jrm 6 100)).room) (rest := []) B.exec B.bytes (hml.trans h1.1.symm) hown (hts (Cond.methodLink "java/lang/StringLatin1" 38 Lib.Math.min.name) (List.mem_of_getElem? (i := 9) rfl)) (hts _ (List.mem_of_getElem? (i := 10) rfl)) (hts _ (List.mem_of_getElem? (i := 7) rfl)) (hts _ (List.mem_of_getElem? (i := 11) rfl)) (show 1 ≤ 6 by decide) (show 0 + 13 ≤ 100 by decide) (Nat.zero_le _) (Nat.zero_le _) (by decide +kernel) ?_
    refine lv_istore_n B.exec B.bytes (k := 3) (i := 3) (lv' := [(3, .int 9), (2, .int 0), (0, .ref t), (1, .int x)]) (by decide +kernel) rfl h1 (by decide) rfl (fun ls2 h2 => ?_)
    refine lv_iload_n B.exec B.bytes (k := 2) (i := 2) (x := 0) (by decide +kernel) rfl (lv_at h2 1 rfl) ?_
    refine lv_iload_n B.exec B.bytes (k := 3) (i := 3) (x := 9) (by decide +kernel) rfl (lv_at h2 0 rfl) ?_
    refine lv_icmp_lt B.exec B.bytes (off := 5) (tgt := 29) (by decide +kernel) (by decide) (fun _ => ?_) (fun q => absurd (show (0 : Int32) < 9 by decide) q)
    refine lv_aload_n B.exec B.bytes (k := 0) (i := 0) (x := t) (by decide +kernel) rfl (lv_at h2 2 rfl) ?_
    refine lv_iload_n B.exec B.bytes (k := 1) (i := 1) (x := x) (by decide +kernel) rfl (lv_at h2 3 rfl) ?_
    refine lv_iload_n B.exec B.bytes (k := 2) (i := 2) (x := 0) (by decide +kernel) rfl (lv_at h2 1 rfl) ?_
    refine lv_iload_n B.exec B.bytes (k := 3) (i := 3) (x := 9) (by decide +kernel) rfl (lv_at h2 0 rfl) ?_
    have hrun2 := va_runS (e := e) (below := below) (meth := meth) (R := (headSpec jw1 (jrm 6 100)).room) (H := s.heap) (bytes := prog_18_method_23_code) (maxL := 6) (ret := some .int) (rest := []) (As := [.ref t, .int x, .int 0, .int 9]) (g := F0 m 33 ls2 [.int 9, .int 0, .int x, .ref t]) (cells := 0) (slots := 0) (locs := []) ⟨B.exec, B.bytes, hml, hown, hts⟩ (j_indexOfChar (l := l) (A := A) (t := t) x) ⟨callB_of (ws := jwC) _ hts jgC rfl rfl rfl (hts (Cond.initialized "java/lang/StringLatin1") (List.mem_of_getElem? (i := 3) rfl)) (hts (Cond.methodLink "java/lang/StringLatin1" 95 jIxC) (List.mem_of_getElem? (i := 12) rfl)) ⟨by decide, by decide, show (parseMethodDescriptor jIxC.desc).map (fun d => d.parameters.length) = some 4 by decide⟩ ⟨show 3 ≤ 6 by decide, show 8 + (6 + 11) + 20 ≤ 100 by decide⟩, hts (Cond.static jIxC) (List.mem_of_getElem? (i := 13) rfl)⟩ ⟨jT_blind, fun U hU hW => ⟨rfl, (hT.kept (by rw [hU]; exact hS.2.1)).moved hW.alike⟩⟩ rfl rfl h2.1 rfl (lv_room (show 0 ≤ 8 by decide)) (show decode prog_18_method_22_code 33 = .ok (.invokestatic 95, 3) by decide +kernel) ⟨Nat.zero_le _, Nat.zero_le _⟩
    refine jcall_W hrun2 ?_
    exact fin _ 36 _ (by unfold jAns; rw [if_neg hx, if_neg hy]) (by decide +kernel)
  · refine lv_iconst B.exec B.bytes (n := -1) (v := -1) (by decide +kernel) rfl ?_
    refine fin (-1) 8 _ ?_ (by decide +kernel)
    unfold jAns
    by_cases hx : x < 0
    · rw [if_pos hx]
    · by_cases hy : 255 < x
      · rw [if_neg hx, if_pos hy]
      · rw [if_neg hx, if_neg hy] at h
        exact absurd h (by decide)
