/-! ===== String.indexOf(II)I ===== -/
def jIx2 : MethodName := ⟨"java/lang/String", "indexOf", "(II)I"⟩
def jwLat : List Cond := [Cond.code jLat prog_17_method_154_code 1 (some .boolean), jL15, jL38]
def jw2h : List Cond := [Cond.code jIx2 prog_17_method_80_code 3 (some .int), Cond.methodLink "java/lang/String" 492 jLat, Cond.instanceMethod jLat, Cond.selects "java/lang/String" jLat jLat, Cond.initialized "java/lang/String", jL9, Cond.methodLink "java/lang/String" 505 jLen, Cond.instanceMethod jLen, Cond.selects "java/lang/String" jLen jLen, Cond.methodLink "java/lang/String" 637 jIx1, Cond.static jIx1, Cond.initialized "java/lang/StringLatin1"]
def jw2 : List Cond := jw2h ++ (jwLat ++ (jwLen ++ jw1))
theorem jgoodA {Ts ws : List Cond} (h1 : ∀ w ∈ ws, w ∈ Ts) (h2 : ws.all goodWord = true) : GoodIn Ts ws := fun w hw => ⟨h1 w hw, good_of_word (List.all_eq_true.mp h2 w hw)⟩
theorem jg2a : GoodIn jw2 jwLat := jgoodA (fun w hw => List.mem_append_right _ (List.mem_append_left _ hw)) (by decide +kernel)
theorem jg2b : GoodIn jw2 jwLen := jgoodA (fun w hw => List.mem_append_right _ (List.mem_append_right _ (List.mem_append_left _ hw))) (by decide +kernel)
theorem jg2c : GoodIn jw2 jw1 := jgoodA (fun w hw => List.mem_append_right _ (List.mem_append_right _ (List.mem_append_right _ hw))) (by decide +kernel)
theorem j_indexOf2 {l : Launch} {A : Nat → Prop} {q t : Nat} (x : Int32) : Met l jIx2 jw2 (jrm 8 160) (jS q t A [.ref q, .int x, .int 0]) (jQ (jAns x)) 0 0 (fun _ => False) := by
  refine Met.ofW (cc := prog_17_method_80_code) (maxL := 3) (ret := some .int) (by decide) rfl ?_
  intro p e s m args' below meth c s₁ B hml hP
  obtain ⟨hP, hk⟩ := hP
  subst hP
  have hts := atoms_spec (ws := jw2) B.pre
  have hown : s.vm.findClass "java/lang/String" = some m.cls := findClass_of_methodNamed B.named
  have hS : va_S A s.heap s.heap [] := va_S.rf
  have he : entryFrame m ([.ref q, .int x, .int 0] : List Value).toArray 3 = F0 m 0 #[.val (.ref q), .val (.int x), .val (.int 0)] [] := rfl
  rw [he]
  obtain ⟨hO, hC, hV, hT, hZ⟩ := id hk
  have hrc : ∃ cell : Cell, s.heap[q]? = some cell ∧ cell.vm.isStatics = false ∧ s.vm.findClass "java/lang/String" = some cell.cls := by
    obtain ⟨cell, h1, h2, h3, -⟩ := hO
    exact ⟨cell, h1, h2, h3⟩
  refine lv_aload_n B.exec B.bytes (k := 0) (i := 0) (x := q) (by decide +kernel) rfl rfl ?_
  have hrun := va_runV (e := e) (below := below) (meth := meth) (R := (headSpec jw2 (jrm 8 160)).room) (bytes := prog_17_method_154_code) (maxL := 1) (ret := some .boolean) (rest := []) (As := []) (g := F0 m 1 #[.val (.ref q), .val (.int x), .val (.int 0)] [.ref q]) (cells := 0) (slots := 0) (locs := []) ⟨B.exec, B.bytes, hml, hown, hts⟩ (j_isLatin1 (l := l) (A := A) (q := q) (t := t)) ⟨callB_of (ws := jwLat) _ hts jg2a rfl rfl rfl (hts (Cond.initialized "java/lang/String") (List.mem_of_getElem? (i := 4) rfl)) (hts (Cond.methodLink "java/lang/String" 492 jLat) (List.mem_of_getElem? (i := 1) rfl)) ⟨by decide, by decide, by decide⟩ ⟨show 3 ≤ 8 by decide, show 8 + (1 + 11) + 20 ≤ 160 by decide⟩, hts (Cond.instanceMethod jLat) (List.mem_of_getElem? (i := 2) rfl), hts (Cond.selects "java/lang/String" jLat jLat) (List.mem_of_getElem? (i := 3) rfl)⟩ ⟨jS_blind, hrc, fun U hU hW => ⟨rfl, jK_at hk hS hU hW⟩⟩ rfl rfl rfl rfl (lv_room (show 0 ≤ 8 by decide)) (show decode prog_17_method_80_code 1 = .ok (.invokevirtual 492, 3) by decide +kernel) ⟨Nat.zero_le _, Nat.zero_le _⟩
  refine jcall_W hrun ?_
  refine lv_if_eq B.exec B.bytes (off := 19) (tgt := 23) (by decide +kernel) (by decide) (fun h => absurd h (by decide)) (fun _ => ?_)
  refine lv_aload_n B.exec B.bytes (k := 0) (i := 0) (x := q) (by decide +kernel) rfl rfl ?_
  refine vk_getf B.exec B.bytes hV hS hown (hts jL9 (List.mem_of_getElem? (i := 5) rfl)) (fun _ h => h) (by decide +kernel) ?_
  refine lv_iload_n B.exec B.bytes (k := 1) (i := 1) (x := x) (by decide +kernel) rfl rfl ?_
  refine lv_iload_n B.exec B.bytes (k := 2) (i := 2) (x := 0) (by decide +kernel) rfl rfl ?_
  refine lv_aload_n B.exec B.bytes (k := 0) (i := 0) (x := q) (by decide +kernel) rfl rfl ?_
  have hrun2 := va_runV (e := e) (below := below) (meth := meth) (R := (headSpec jw2 (jrm 8 160)).room) (bytes := prog_17_method_54_code) (maxL := 1) (ret := some .int) (rest := [.int 0, .int x, .ref t]) (As := []) (g := F0 m 14 #[.val (.ref q), .val (.int x), .val (.int 0)] [.ref q, .int 0, .int x, .ref t]) (cells := 0) (slots := 0) (locs := []) ⟨B.exec, B.bytes, hml, hown, hts⟩ (j_length (l := l) (A := A) (q := q) (t := t)) ⟨callB_of (ws := jwLen) _ hts jg2b rfl rfl rfl (hts (Cond.initialized "java/lang/String") (List.mem_of_getElem? (i := 4) rfl)) (hts (Cond.methodLink "java/lang/String" 505 jLen) (List.mem_of_getElem? (i := 6) rfl)) ⟨by decide, by decide, by decide⟩ ⟨show 5 ≤ 8 by decide, show 8 + (1 + 11) + 60 ≤ 160 by decide⟩, hts (Cond.instanceMethod jLen) (List.mem_of_getElem? (i := 7) rfl), hts (Cond.selects "java/lang/String" jLen jLen) (List.mem_of_getElem? (i := 8) rfl)⟩ ⟨jS_blind, hrc, fun U hU hW => ⟨rfl, jK_at hk hS hU hW⟩⟩ rfl rfl rfl rfl (lv_room (show 3 ≤ 8 by decide)) (show decode prog_17_method_80_code 14 = .ok (.invokevirtual 505, 3) by decide +kernel) ⟨Nat.zero_le _, Nat.zero_le _⟩
  refine jcall_W hrun2 ?_
  have hrun3 := va_runS (e := e) (below := below) (meth := meth) (R := (headSpec jw2 (jrm 8 160)).room) (H := s.heap) (bytes := prog_18_method_22_code) (maxL := 4) (ret := some .int) (rest := []) (As := [.ref t, .int x, .int 0, .int 9]) (g := F0 m 17 #[.val (.ref q), .val (.int x), .val (.int 0)] [.int 9, .int 0, .int x, .ref t]) (cells := 0) (slots := 0) (locs := []) ⟨B.exec, B.bytes, hml, hown, hts⟩ (j_indexOf1 (l := l) (A := A) (t := t) x) ⟨callB_of (ws := jw1) _ hts jg2c rfl rfl rfl (hts (Cond.initialized "java/lang/StringLatin1") (List.mem_of_getElem? (i := 11) rfl)) (hts (Cond.methodLink "java/lang/String" 637 jIx1) (List.mem_of_getElem? (i := 9) rfl)) ⟨by decide, by decide, show (parseMethodDescriptor jIx1.desc).map (fun d => d.parameters.length) = some 4 by decide⟩ ⟨show 7 ≤ 8 by decide, show 8 + (4 + 11) + 100 ≤ 160 by decide⟩, hts (Cond.static jIx1) (List.mem_of_getElem? (i := 10) rfl)⟩ ⟨jT_blind, fun U hU hW => ⟨rfl, (hT.kept (by rw [hU]; exact hS.2.1)).moved hW.alike⟩⟩ rfl rfl rfl rfl (lv_room (show 0 ≤ 8 by decide)) (show decode prog_17_method_80_code 17 = .ok (.invokestatic 637, 3) by decide +kernel) ⟨Nat.zero_le _, Nat.zero_le _⟩
  refine jcall_W hrun3 ?_
  refine lv_goto B.exec B.bytes (off := 16) (tgt := 36) (by decide +kernel) (by decide) ?_
  obtain ⟨ty, h1, h2⟩ := znarrow (rt := some .int) (v := jAns x) (Or.inl rfl)
  exact W.zret B.exec B.bytes (by rw [← h1]; exact B.returns) h2 (fun t ht _ => ⟨rfl, ht⟩) (fun q hq => by cases hq) (by decide +kernel) B.notSynchronized
