/-! ===== String.indexOf: calls that write nothing ===== -/
theorem jcall_W {p : Program} {l : Launch} {e : Env} {R : Room} {s : State} {m : MethodId} {args : Array Value} {below : List Frame} {meth : Method} {c : Code} {H : Heap} {locs : List Loc} {cells slots : Nat} {Q : State → Prop} {pc : Nat} {ls : Array Slot} {st0 rest : List Value} {r : Int32} {a : Array Value}
    (hr : va_Run p l e R s m args below meth c H locs cells slots 0 0 (F0 m pc ls st0) rest (jQ r a) (fun _ => False))
    (kk : W p l e R s m args below meth c H locs cells slots Q (F0 m (pc + 3) ls (.int r :: rest))) : W p l e R s m args below meth c H locs cells slots Q (F0 m pc ls st0) := by
  intro T hT X
  obtain ⟨v, st₀, t, T', L, h0, X', hL, e1, e2, ⟨hv, hq⟩, st⟩ := hr T hT X
  cases hv
  have hL' : L = [] := by
    cases L with
    | nil => rfl
    | cons q L => exact absurd (hL q List.mem_cons_self) id
  subst hL'
  rw [List.append_nil] at X'
  obtain ⟨t2, a1, b1⟩ := kk T' (by rw [e1, hq, h0]) X'
  exact ⟨t2, st t2 a1, b1⟩
theorem jK_calling {q t : Nat} {A : Nat → Prop} {U : State} (h : jK q t A U) (g : JFrame) (mk : MethodId) (a : Array Value) : jK q t A (U.calling g mk a) :=
  ⟨h.1.moved (u := U) (Vm.Alike.refl U.vm), h.2.1.moved (u := U) (Vm.Alike.refl U.vm), h.2.2.1.moved (u := U) (Vm.Alike.refl U.vm), h.2.2.2.1.moved (u := U) (Vm.Alike.refl U.vm), h.2.2.2.2.moved (u := U) (Vm.Alike.refl U.vm)⟩
theorem jK_at {q t : Nat} {A : Nat → Prop} {s U : State} {H : Heap} {locs : List Loc} (h : jK q t A s) (hS : va_S A s.heap H locs) (hU : U.heap = H) (hW : s.WarmedH U.vm) : jK q t A U :=
  ⟨(h.1.kept (by rw [hU]; exact hS.2.1)).moved hW.alike, (h.2.1.kept (by rw [hU]; exact hS.2.1)).moved hW.alike, (h.2.2.1.kept (by rw [hU]; exact hS.2.1)).moved hW.alike, (h.2.2.2.1.kept (by rw [hU]; exact hS.2.1)).moved hW.alike, (h.2.2.2.2.kept (by rw [hU]; exact hS.2.1)).moved hW.alike⟩
theorem jS_blind {q t : Nat} {A : Nat → Prop} {a : List Value} : FrameBlind (jS q t A a) := fun b U g mk h => ⟨h.1, jK_calling h.2 g mk b⟩
theorem jP_blind {a : List Value} : FrameBlind (jP a) := fun _ _ _ _ h => h
theorem j_coder {l : Launch} {A : Nat → Prop} {q t : Nat} : Met l jCod [Cond.code jCod prog_17_method_152_code 1 (some .byte), jL15, jL38] (jrm 2 20) (jS q t A [.ref q]) (jQ 0) 0 0 (fun _ => False) := by
  refine Met.ofW (cc := prog_17_method_152_code) (maxL := 1) (ret := some .byte) (by decide) rfl ?_
  intro p e s m args' below meth c s₁ B hml hP
  obtain ⟨hP, hO, hC, hV, hT, hZ⟩ := hP
  subst hP
  have hts := atoms_spec (ws := [Cond.code jCod prog_17_method_152_code 1 (some .byte), jL15, jL38]) B.pre
  have hown : s.vm.findClass "java/lang/String" = some m.cls := findClass_of_methodNamed B.named
  have hS : va_S A s.heap s.heap [] := va_S.rf
  have he : entryFrame m ([.ref q] : List Value).toArray 1 = F0 m 0 #[.val (.ref q)] [] := rfl
  rw [he]
  refine va_gets B.exec B.bytes hZ hS hown (hts jL38 (by simp)) (fun _ h => h) (by decide +kernel) ?_
  refine lv_if_eq B.exec B.bytes (off := 10) (tgt := 13) (by decide +kernel) (by decide) (fun h => absurd h (by decide)) (fun _ => ?_)
  refine lv_aload_n B.exec B.bytes (k := 0) (i := 0) (x := q) (by decide +kernel) rfl rfl ?_
  refine vk_getf B.exec B.bytes hC hS hown (hts jL15 (by simp)) (fun _ h => h) (by decide +kernel) ?_
  refine lv_goto B.exec B.bytes (off := 4) (tgt := 14) (by decide +kernel) (by decide) ?_
  exact W.zret B.exec B.bytes B.returns (by decide) (fun t ht _ => ⟨rfl, ht⟩) (fun q hq => by cases hq) (by decide +kernel) B.notSynchronized
