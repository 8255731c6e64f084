-- ===== end of PART A; then your names; then what follows =====
/-! THE CLAIM OUT OF ONE WALK OF THE LAW'S BODY. Your part is whole_start (and what it stands on); all else here is the same for every law, but numbers. -/
def R_law : String := "InsuredFlameLaw"
def lw_P (b : Addr) (xs : List Int32) (args : Array Value) (s : State) : Prop := args = #[.ref b] ∧ s.IntsAt b xs ∧ xs.length ≤ 3072 ∧ (Jvm.Cond.and given_1 narrow_1).before args s = true
def lw_Q (_ : Array Value) (s : State) (o : Outcome) (t : State) : Prop := o = .returned (some (.int 1)) ∧ Framed s o t [] 600000 7302250
def lw_Z (below : List Frame) (a : Array Value) (s : State) : State → Prop := fun t => ∃ o, t.status = .running ∧ Ended t below o ∧ lw_Q a s o t
/-- the law's own end, with 1 on the stack, nothing written that was there before, its room as the claim has it -/
theorem lw_ret {p : Program} {l : Launch} {e : Env} {s : State} {m : MethodId} {below : List Frame} {meth : Method} {c : Code} {b : Nat} (hx : p.tables.exec = Jvm.exec) (hb : c.code = code) (hr : meth.sig.returnType = ret) (hlocks : meth.locks = false) {pc : Nat} {H : Heap} {ls : Array Slot} (hdg : decode code pc = .ok (.ireturn, 1)) : W p l e room_1 s m #[Value.ref b] below meth c H [] 600000 7302250 (lw_Z below #[Value.ref b] s) (F0 m pc ls [.int 1]) := by
  intro T hT X
  obtain ⟨fs, hret, hrun, hended, hW, hframe⟩ := X.leave (v := some (.int 1)) (hlocks := hlocks) (fun h => by rw [hr] at h; cases h)
  have hmeth' : T.vm.method? m = some meth := X.method'
  refine ⟨T.setFrames fs, ?_, .returned (some (.int 1)), hrun, hended, rfl, ⟨_, rfl⟩, hW, hframe⟩
  jvm_step X.here [X.here.top, hx, hb, hdg, hmeth', hr, ret, narrow_b1]
  (try refine ⟨rfl, ?_⟩); (try refine ⟨rfl, ?_⟩)
  first | (intro acts; rw [hret _ acts rfl rfl rfl]) | rw [hret _ _ rfl rfl rfl]
  exact Steps.refl _
/-- what holds at the law's entry: the machine, the code, the tables' words (any of lw_tbl by 'hts w (by decide +kernel)'), the script of L ints xs at the cell b, what the Statement gives of the start (any of its parts by flat_of_before) -/
def lw_At (p : Program) (s : State) (m : MethodId) (meth : Method) (c : Code) (b L : Nat) (xs : Nat → Int32) : Prop :=
  p.tables.exec = Jvm.exec ∧ c.code = code ∧ meth.sig.returnType = ret ∧ c.maxLocals = 4 ∧ s.vm.findClass R_law = some m.cls ∧ (∀ w ∈ lw_tbl, w.before #[Value.ref b] s = true) ∧ va_X b L xs s s.heap ∧ b < s.heap.size ∧ meth.locks = false ∧ (Jvm.Cond.and given_1 narrow_1).before #[Value.ref b] s = true

/-! ===== the claim out of a run of the z-machine ===== -/
def zh0 : zH := ([], fun _ _ => 0, fun _ _ => 0, fun _ _ => .null)
set_option maxHeartbeats 4000000 in
set_option maxRecDepth 100000 in
theorem ztop {p : Program} {e : Env} {s : State} {m : MethodId} {below : List Frame} {meth : Method} {c : Code} (l : Launch) {b L : Nat} {xs : Nat → Int32} (C0 : lw_At p s m meth c b L xs) {C : Nat → List (Nat × zQ)} (hC : ∀ u, (zM u).2.2.2.2.2.2 < 3 → zckM (zM u) (C u) = true)
    (hix : ∀ G : zG, G.2.1 < G.1 → zIxRow l G (L, xs)) {cl : List (Nat × zQ)} (hcl : cl.all (zck 12 4 code (some .boolean) false) = true) {d : Nat} (hd : d ≤ 500) {h' : zH} (hrun : zR (L, xs) zFT (zex (L, xs) zFT C d) cl 0 [.float 0] [] zh0 (some (.int 1), h')) (h1 : h'.1.length ≤ 600000) (h2 : zsz h' ≤ 7302250) :
    W p l e room_1 s m #[Value.ref b] below meth c s.heap [] 0 0 (lw_Z below #[Value.ref b] s) (entryFrame m ([Value.ref b] : List Value).toArray 4) := by
  obtain ⟨hx, hb, hr, hml, hown, hts, hX, hbl, hlocks, hgv⟩ := id C0
  have htz : ∀ w ∈ zTs, w.before #[Value.ref b] s = true := fun w h => hts w (zTs_tbl w h)
  have hD : ∀ c : Nat, ∃ q : ClassId × (Nat → Nat), c < 12 → u_Kn s (zRs c) (zTt c) (zNf c) q.1 q.2 := by
    intro c
    by_cases hc : c < 12
    · obtain ⟨cC, iS, h⟩ := u_known htz (fun w hw => zK_ok c hc w (List.mem_append_left _ hw)) (htz _ (zK_ok c hc (.instantiable (zRs c) (zNf c)) (List.mem_append_right _ (by simp))))
      exact ⟨(cC, iS), fun _ => h⟩
    · exact ⟨(default, fun _ => 0), fun h => absurd h hc⟩
  obtain ⟨f, hf⟩ := Classical.axiomOfChoice hD
  obtain ⟨cI, kI, oI, fI, kI', dI⟩ := Cond.arrayClass_spec (htz (.arrayClass .int) (zAA_ok _ (by simp)))
  obtain ⟨cB, kB, oB, fB, kB', dB⟩ := Cond.arrayClass_spec (htz (.arrayClass .byte) (zAA_ok _ (by simp)))
  obtain ⟨cZ, kZ, oZ, fZ, kZ', dZ⟩ := Cond.arrayClass_spec (htz (.arrayClass .boolean) (zAA_ok _ (by simp)))
  have hs := flat_of_before _ hgv
  have hA : ∀ a : Nat, a < s.heap.size → ¬ (fun q : Nat => s.heap.size ≤ q) a := fun a h => Nat.not_le.mpr h
  obtain ⟨adK, adV, hSt, hEv⟩ := vk_Sof (args := #[Value.ref b]) (s := s) (N := 1) (tm := fun _ => Term.string "InsuredFlame$LawReader" 96) (len := [9]) (byt := [zbyt]) (A := fun q : Nat => s.heap.size ≤ q) (fun i hi => by rw [show i = 0 by omega]; decide)
    (fun i hi => hs _ (by decide +kernel)) (fun i hi => hs _ (by decide +kernel)) (fun i hi => hs _ (by decide +kernel)) (fun i hi => by rw [show i = 0 by omega]; exact hs _ (by decide +kernel))
    (fun i hi j hj => by
      rw [show i = 0 by omega] at hj ⊢
      have hj : j < 9 := hj
      have h9 : j = 0 ∨ j = 1 ∨ j = 2 ∨ j = 3 ∨ j = 4 ∨ j = 5 ∨ j = 6 ∨ j = 7 ∨ j = 8 := by omega
      rcases h9 with rfl | rfl | rfl | rfl | rfl | rfl | rfl | rfl | rfl <;> exact hs _ (by decide +kernel))
    (fun i j hi hj hij => absurd (by omega : i = j) hij) hA
  have hZ : va_Z "java/lang/String" "COMPACT_STRINGS" "Z" (.int 1) (fun q : Nat => s.heap.size ≤ q) s s.heap := va_Zof (hts (.laysStatic "java/lang/String" "COMPACT_STRINGS" "Z") (List.mem_of_getElem? (i := 512) (by decide +kernel))) (hts (.initialized "java/lang/String") (List.mem_of_getElem? (i := 117) (by decide +kernel))) (va_eqi (hs _ (by decide +kernel))) hA
  have hR : vk_R (zRs 5) 96 "pmnvidgtw" (adK 0) s := vk_R.of (A := #[Value.ref b]) (hts (.stringRef "InsuredFlame$LawReader" 96 "pmnvidgtw") (List.mem_of_getElem? (i := 498) (by decide +kernel))) (hEv 0 (by omega))
  have hG : ∃ G : zG, G = (s.heap.size, b, adK 0, ((fun c => (f c).1), (fun c => (f c).2)), cI, cB, cZ) := ⟨_, rfl⟩
  obtain ⟨G, eG⟩ := hG
  have hsc : G.2.1 < G.1 := by rw [eG]; exact hbl
  have hK : va_K G.2.2.2.1 vwCl (ztys G) s := by
    rw [eG]
    refine ⟨fun c q hq => ?_, fun k q hk => ?_⟩
    · have hc : c < 12 := (List.getElem?_eq_some_iff.mp hq).1
      rw [zcl_ok c hc] at hq
      cases hq
      exact hf c hc
    · have hk3 : k < 3 := (List.getElem?_eq_some_iff.mp hk).1
      have hk4 : k = 0 ∨ k = 1 ∨ k = 2 := by omega
      rcases hk4 with rfl | rfl | rfl <;> cases hk
      · exact ⟨fun n z => ⟨fun k h => (by cases h), kI, kI', oI, dI⟩, fI⟩
      · exact ⟨fun n z => ⟨fun k h => (by cases h), kB, kB', oB, dB⟩, fB⟩
      · exact ⟨fun n z => ⟨fun k h => (by cases h), kZ, kZ', oZ, dZ⟩, fZ⟩
  have hKS : zKS G (L, xs) s := by
    refine ⟨hK, fun w hw => ?_, ?_, ?_, ?_⟩
    · have h3 := hts w (zNL_ok w hw)
      obtain ⟨q, -, rfl⟩ := List.mem_map.mp hw
      exact va_Nw.of rfl h3
    · rw [eG]; exact hX
    · rw [eG]; exact hR
    · rw [eG]; exact ⟨⟨adK, adV, rfl, hSt⟩, hZ⟩
  have hctx : zCtx G (L, xs) d 12 code 4 0 false p room_1 s m #[Value.ref b] meth c := by
    refine ⟨hx, hb, hml, hown, htz, hKS, (by rw [eG]; rfl), hsc, (fun h => by cases h), ?_, ?_⟩
    · show d + 11 ≤ 2048
      omega
    · show 880 + 80 * d ≤ 84000
      omega
  obtain ⟨ls, -, hl, he⟩ := zloc_entry (G := G) (args := [.float 0]) (nL := 4) (by decide) rfl
  have e0 : ([Value.ref b] : List Value) = ([.float 0] : List Value).map (zt G) := by rw [eG]; rfl
  have e1 : entryFrame m ([Value.ref b] : List Value).toArray 4 = F0 m 0 ls [] := by rw [e0]; exact he m
  rw [e1]
  obtain ⟨n, hn⟩ := hrun
  have hend : zEnd G p l e room_1 s m #[Value.ref b] below meth c (lw_Z below #[Value.ref b] s) 0 0 (some .boolean) code (some (.int 1), h') := by
    refine ⟨fun H locs ls pc v hO hS ho _ hdg => ?_, fun H locs ls pc _ _ ho => by cases ho⟩
    cases ho
    refine va_forget (fun q hq => by have h3 := hS.2.2 q hq; rw [eG] at h3; exact h3) ?_
    exact W.widen (k := 600000) (n := 7302250) (Nat.le_trans (Nat.sub_le _ _) h1) (Nat.le_trans (Nat.sub_le _ _) h2) (lw_ret hx hb hr hlocks hdg)
  exact zrun_W hctx (zGood_all hC (hix G hsc) hsc d) (hix G hsc) hcl hend (Nat.le_trans (Nat.sub_le _ _) h1) (Nat.le_trans (Nat.sub_le _ _) h2) n 0 [.float 0] [] zh0 hn s.heap [] ls (fun k q h => by simp [zW, zh0] at h) va_S.rf hl (Nat.le_refl _) (Nat.le_refl _)
