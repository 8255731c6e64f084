theorem zfind_mem : ∀ {c : List (Nat × zQ)} {pc : Nat} {q : zQ}, zfind c pc = some q → (pc, q) ∈ c
  | [], _, _, h => by cases h
  | x :: c, pc, q, h => by
    unfold zfind at h
    cases hb : Nat.beq x.1 pc <;> rw [hb] at h <;> simp only [cond_true, cond_false] at h
    · exact List.mem_cons_of_mem _ (zfind_mem h)
    · have h1 := Nat.eq_of_beq_eq_true hb
      have h2 := Option.some.inj h
      rw [← h1, ← h2]
      exact List.mem_cons_self
section zzmeth
variable {G : zG} {X : Nat × (Nat → Int32)} {C : Nat → List (Nat × zQ)} {p : Program} {l : Launch} {e : Env} {R : Room} {s : State} {m : MethodId} {args : Array Value} {below : List Frame} {meth : Method} {c : Code} {Q : State → Prop}
theorem zrun_W {d own nL n0 z0 : Nat} {bytes : ByteArray} {ini : Bool} {rt : Option FieldType} (hc : zCtx G X d own bytes nL n0 ini p R s m args meth c) (ih : zGood l G X C d) (hix : zIxRow l G X) {cd : List (Nat × zQ)} (hck : cd.all (zck own nL bytes rt ini) = true) {o : zO}
    (hend : zEnd G p l e R s m args below meth c Q n0 z0 rt bytes o) (hRc : o.2.1.length - n0 ≤ R.cells) (hRs : zsz o.2 - z0 ≤ R.slots) :
    ∀ (n pc : Nat) (lv st : List Value) (h : zH), zrun X zFT (zex X zFT C d) cd n pc lv st h = some o → zGo G p l e R s m args below meth c Q nL n0 z0 pc lv st h
  | 0, _, _, _, _, hr => by cases hr
  | n + 1, pc, lv, st, h, hr => by
    unfold zrun at hr
    cases hq : zfind cd pc with
    | none => rw [hq] at hr; cases hr
    | some q =>
      rw [hq] at hr
      have h1 := zst_W (below := below) (e := e) (Q := Q) (z0 := z0) hc ih hix (List.all_eq_true.mp hck _ (zfind_mem hq)) hr (fun pc lv st h hk => ⟨zrun_grow (zex_grow d) hk, zrun_W hc ih hix hck hend hRc hRs n pc lv st h hk⟩) hend hRc hRs
      exact fun H locs ls hP hS hl hn hz => h1 H locs ls hP hS (zloc_trim hl q) hn hz
end zzmeth
theorem znarrow {rt : Option FieldType} {v : Int32} (h : rt = some .int ∨ (rt = some .boolean ∧ (v = 0 ∨ v = 1))) : ∃ ty, rt = some ty ∧ narrow ty (.int v) = .int v := by
  rcases h with h | ⟨h, h2⟩
  · exact ⟨_, h, rfl⟩
  · refine ⟨_, h, ?_⟩
    rcases h2 with rfl | rfl <;> rfl
set_option maxHeartbeats 4000000 in
/-- THE Z-MACHINE IS SOUND: what it answers, the machine answers -/
theorem zGood_all {l : Launch} {G : zG} {X : Nat × (Nat → Int32)} {C : Nat → List (Nat × zQ)} (hC : ∀ u, (zM u).2.2.2.2.2.2 < 3 → zckM (zM u) (C u) = true) (hix : zIxRow l G X) (hsc : G.2.1 < G.1) : ∀ d, zGood l G X C d
  | 0 => fun u args h r h' _ hE _ _ => by cases hE
  | d + 1 => fun u args h r h' hk hE hlen hcat => by
    obtain ⟨n, hn⟩ := zex_to hE
    have hkU := zUk_use hk
    refine Met.ofW (cc := (zM u).2.1) (maxL := (zM u).2.2.1) (ret := (zM u).2.2.2.1) hkU.1 rfl ?_
    intro p e s m args' below meth c s₁ B hml hP
    obtain ⟨rfl, hO, hKS⟩ := hP
    have hts0 := atoms_spec (ws := zws (zM u)) B.pre
    have hts : ∀ w ∈ zTs, w.before (args.map (zt G)).toArray s = true := fun w hw => hts0 w (List.mem_cons_of_mem _ hw)
    have hown : s.vm.findClass (zRs (zM u).2.2.2.2.1) = some m.cls := by rw [← hkU.2.2.2.2.2.1]; exact findClass_of_methodNamed B.named
    have hctx : zCtx G X d (zM u).2.2.2.2.1 (zM u).2.1 (zM u).2.2.1 h.1.length (Nat.beq (zM u).2.2.2.2.2.2 2) p (headSpec (zws (zM u)) (zrm (d + 1) (h'.1.length - h.1.length) (zsz h' - zsz h))).room s m (args.map (zt G)).toArray meth c := by
      refine ⟨B.exec, B.bytes, hml, hown, hts, hKS, hO.1, hsc, fun hi => ?_, ?_, ?_⟩
      · rw [(name_of_methodNamed B.named B.method).1]
        exact hkU.2.2.2.2.2.2.1.mp (Nat.eq_of_beq_eq_true hi)
      · show d + 11 ≤ d + 1 + 10
        omega
      · show 880 + 80 * d ≤ 80 * (d + 1) + 800
        omega
    obtain ⟨ls, -, hl, he⟩ := zloc_entry (G := G) (args := args) (nL := (zM u).2.2.1) (by rw [hlen]; exact hkU.2.2.2.2.1) hcat
    rw [he m]
    have hend : zEnd G p l e (headSpec (zws (zM u)) (zrm (d + 1) (h'.1.length - h.1.length) (zsz h' - zsz h))).room s m (args.map (zt G)).toArray below meth c (MQ below (zQc G r h') (args.map (zt G)).toArray s (h'.1.length - h.1.length) (zsz h' - zsz h) (zA G)) h.1.length (zsz h) (zM u).2.2.2.1 (zM u).2.1 (r, h') := by
      have hq : ∀ (H : Heap) (locs : List Loc) (v : Option Value), zOK G h' H → va_S (zA G) s.heap H locs → r.map (zt G) = v → ∀ t : State, t.heap = H → s.WarmedH t.vm → zQc G r h' (args.map (zt G)).toArray s (.returned v) t := by
        intro H locs v hO' hS hv t ht _
        refine ⟨by rw [hv], by rw [ht]; exact hO', fun q hq => ?_⟩
        rw [ht]
        exact hS.2.1 q (by rw [hO.1]; omega) (Nat.not_le.mpr hq)
      refine ⟨fun H locs ls pc v hO' hS ho hrt hdg => ?_, fun H locs ls pc hO' hS ho hrt hdg => ?_⟩
      · obtain ⟨ty, h1, h2⟩ := znarrow hrt
        exact W.zret B.exec B.bytes (by rw [← h1]; exact B.returns) h2 (hq H locs _ hO' hS (by have ho' : r = some (.int v) := ho; rw [ho']; rfl)) hS.2.2 hdg B.notSynchronized
      · exact W.vret B.exec B.bytes (by rw [← hrt]; exact B.returns) (hq H locs _ hO' hS (by have ho' : r = none := ho; rw [ho']; rfl)) hS.2.2 hdg B.notSynchronized
    have h9 := zrun_W hctx (zGood_all hC hix hsc d) hix (hC u hk) hend (by show _ ≤ h'.1.length - h.1.length; exact Nat.le_refl _) (by show _ ≤ zsz h' - zsz h; exact Nat.le_refl _) n 0 args [] h hn s.heap [] ls hO.2 va_S.rf hl (Nat.le_refl _) (Nat.le_refl _)
    rw [Nat.sub_self, Nat.sub_self] at h9
    exact h9
