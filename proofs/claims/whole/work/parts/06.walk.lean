/-! ===== the z-machine is the machine: the walk ===== -/
theorem zhas_in {α : Type} [BEq α] [LawfulBEq α] {t : List (List α)} {own : Nat} {e : α} (h : zhas t own e = true) : (own, e) ∈ zflat t := by
  unfold zhas at h
  obtain ⟨q, hq, he⟩ := List.any_eq_true.mp h
  rw [eq_of_beq he] at hq
  exact zflat_in hq
theorem zFL_use {own idx c k : Nat} (h : zhas zFL own (idx, c, k) = true) : (Cond.fieldLink (zRs own) idx (zTt c k).1 (zTt c k).2.1 (zTt c k).2.2.1 ∈ zTs) ∧ c < 12 ∧ k < zNf c := by
  have h1 := zhas_in h
  have h2 := List.all_eq_true.mp zFLk_ok _ h1
  simp only [Bool.and_eq_true, Nat.blt, Nat.ble_eq] at h2
  exact ⟨zFL_ok _ (List.mem_map.mpr ⟨_, h1, rfl⟩), by omega, by omega⟩
theorem zKL_use {own idx : Nat} {x : Int32} (h : zhas zKL own (idx, x) = true) : Cond.constant (zRs own) idx x ∈ zTs := zKL_ok _ (List.mem_map.mpr ⟨_, zhas_in h, rfl⟩)
theorem zCL_use {own idx c : Nat} (h : zhas zCL own (idx, c) = true) : (Cond.classLink (zRs own) idx (zRs c) ∈ zTs) ∧ c < 12 := by
  have h1 := zhas_in h
  have h2 := List.all_eq_true.mp zCLk_ok _ h1
  simp only [Nat.blt, Nat.ble_eq] at h2
  exact ⟨zCL_ok _ (List.mem_map.mpr ⟨_, h1, rfl⟩), by omega⟩
theorem zOL_use {own idx : Nat} (h : zhas zOL own idx = true) : Cond.methodLink (zRs own) idx objectInit ∈ zTs := zOL_ok _ (List.mem_map.mpr ⟨_, zhas_in h, rfl⟩)
theorem zML_use {own idx u : Nat} (h : zhas zML own (idx, u, 0) = true) : Cond.methodLink (zRs own) idx (zM u).1 ∈ zTs := zML_ok _ (List.mem_map.mpr ⟨_, List.mem_filter.mpr ⟨zhas_in h, rfl⟩, rfl⟩)
theorem zNL_use {own idx u : Nat} (h : zhas zML own (idx, u, 1) = true) : Cond.methodLinkNest (zRs own) idx (zM u).1 "InsuredFlame" ∈ zNs := List.mem_map.mpr ⟨_, List.mem_filter.mpr ⟨zhas_in h, rfl⟩, rfl⟩
theorem zTL_use {own idx r : Nat} (h : zhas zTL own (idx, r) = true) : (Cond.methodLink (zRs own) idx (zTn r) ∈ zTs) ∧ (r = 903 ∨ r = 904 ∨ r = 905) := by
  have h1 := zhas_in h
  have h2 := List.all_eq_true.mp zTLk_ok _ h1
  simp only [Bool.or_eq_true] at h2
  refine ⟨zTL_ok _ (List.mem_map.mpr ⟨_, h1, rfl⟩), ?_⟩
  rcases h2 with (h2 | h2) | h2
  · exact Or.inl (Nat.eq_of_beq_eq_true h2)
  · exact Or.inr (Or.inl (Nat.eq_of_beq_eq_true h2))
  · exact Or.inr (Or.inr (Nat.eq_of_beq_eq_true h2))
theorem zfk_use {c k : Nat} (hc : c < 12) (hk : k < zNf c) : (zTt c k).1 = zRs c ∧ (zFT c k = 0 → zTy c k = .int) ∧ (zFT c k = 1 → zTy c k = .boolean) ∧ (zFT c k = 2 → (∃ n, zTy c k = .object n) ∨ ∃ t, zTy c k = .array t) := by
  have h1 := List.all_eq_true.mp (List.all_eq_true.mp zfk_ok c (List.mem_range.mpr hc)) k (List.mem_range.mpr hk)
  simp only [zfk, Bool.and_eq_true, decide_eq_true_eq] at h1
  obtain ⟨h1, h2⟩ := h1
  refine ⟨h1, fun e => ?_, fun e => ?_, fun e => ?_⟩ <;> rw [e] at h2 <;> cases hty : zTy c k <;> rw [hty] at h2 <;> first | rfl | exact Or.inl ⟨_, rfl⟩ | exact Or.inr ⟨_, rfl⟩ | cases h2
def zrm (d mc ms : Nat) : Room := { frames := d + 10, cells := mc, slots := ms, locals := 80 * d + 800 }
def zws (m : zMi) : List Cond := Cond.code m.1 m.2.1 m.2.2.1 m.2.2.2.1 :: zTs
def zPc (G : zG) (X : Nat × (Nat → Int32)) (args : List Value) (h : zH) : Array Value → State → Prop := fun v U => v = (args.map (zt G)).toArray ∧ zOK G h U.heap ∧ zKS G X U
def zQc (G : zG) (r : Option Value) (h' : zH) : Array Value → State → Outcome → State → Prop := fun _ st o t => o = .returned (r.map (zt G)) ∧ zOK G h' t.heap ∧ ∀ q : Nat, q < G.1 → t.heap[q]? = st.heap[q]?
def zMet (l : Launch) (G : zG) (X : Nat × (Nat → Int32)) (d u : Nat) (args : List Value) (h : zH) (r : Option Value) (h' : zH) : Prop :=
  Met l (zM u).1 (zws (zM u)) (zrm d (h'.1.length - h.1.length) (zsz h' - zsz h)) (zPc G X args h) (zQc G r h') (h'.1.length - h.1.length) (zsz h' - zsz h) (zA G)
def zGood (l : Launch) (G : zG) (X : Nat × (Nat → Int32)) (C : Nat → List (Nat × zQ)) (d : Nat) : Prop := ∀ (u : Nat) (args : List Value) (h : zH) (r : Option Value) (h' : zH), (zM u).2.2.2.2.2.2 < 3 → zex X zFT C d u args h = some (r, h') → args.length = (zM u).2.2.2.2.2.1 → args.all zcat = true → zMet l G X d u args h r h'
/-- what a walk stands on -/
def zCtx (G : zG) (X : Nat × (Nat → Int32)) (d own : Nat) (bytes : ByteArray) (nL n0 : Nat) (ini : Bool) (p : Program) (R : Room) (s : State) (m : MethodId) (args : Array Value) (meth : Method) (c : Code) : Prop :=
  p.tables.exec = Jvm.exec ∧ c.code = bytes ∧ c.maxLocals = nL ∧ s.vm.findClass (zRs own) = some m.cls ∧ (∀ w ∈ zTs, w.before args s = true) ∧ zKS G X s ∧ s.heap.size = G.1 + n0 ∧ G.2.1 < G.1 ∧ (ini = true → meth.name = "<init>") ∧ d + 11 ≤ R.frames ∧ 880 + 80 * d ≤ R.locals
def zGo (G : zG) (p : Program) (l : Launch) (e : Env) (R : Room) (s : State) (m : MethodId) (args : Array Value) (below : List Frame) (meth : Method) (c : Code) (Q : State → Prop) (nL n0 z0 : Nat) (pc : Nat) (lv st : List Value) (h : zH) : Prop :=
  ∀ (H : Heap) (locs : List Loc) (ls : Array Slot), va_P G.2.2.2.1 vwCl (zW G h) H → va_S (zA G) s.heap H locs → zloc G ls nL lv → n0 ≤ h.1.length → z0 ≤ zsz h → W p l e R s m args below meth c H locs (h.1.length - n0) (zsz h - z0) Q (F0 m pc ls (st.map (zt G)))
def zEnd (G : zG) (p : Program) (l : Launch) (e : Env) (R : Room) (s : State) (m : MethodId) (args : Array Value) (below : List Frame) (meth : Method) (c : Code) (Q : State → Prop) (n0 z0 : Nat) (rt : Option FieldType) (bytes : ByteArray) (o : zO) : Prop :=
  (∀ (H : Heap) (locs : List Loc) (ls : Array Slot) (pc : Nat) (v : Int32), zOK G o.2 H → va_S (zA G) s.heap H locs → o.1 = some (.int v) → (rt = some .int ∨ (rt = some .boolean ∧ (v = 0 ∨ v = 1))) → decode bytes pc = .ok (.ireturn, 1) → W p l e R s m args below meth c H locs (o.2.1.length - n0) (zsz o.2 - z0) Q (F0 m pc ls [.int v])) ∧
  (∀ (H : Heap) (locs : List Loc) (ls : Array Slot) (pc : Nat), zOK G o.2 H → va_S (zA G) s.heap H locs → o.1 = none → rt = none → decode bytes pc = .ok (.return_, 1) → W p l e R s m args below meth c H locs (o.2.1.length - n0) (zsz o.2 - z0) Q (F0 m pc ls []))
/-- the constant text's indexOf, as one row (proved apart) -/
def zIxRow (l : Launch) (G : zG) (X : Nat × (Nat → Int32)) : Prop := ∀ (d : Nat) (bytes : ByteArray) (nL n0 : Nat) (ini : Bool) (p : Program) (e : Env) (R : Room) (s : State) (m : MethodId) (args : Array Value) (below : List Frame) (meth : Method) (c : Code) (H : Heap) (locs : List Loc) (cells slots : Nat) (Q : State → Prop) (pc : Nat) (ls : Array Slot) (rest : List Value) (x : Int32),
  zCtx G X d 5 bytes nL n0 ini p R s m args meth c → decode bytes pc = .ok (.invokevirtual 98, 3) → va_S (zA G) s.heap H locs → ls.size = nL → (rest.map fun v => v.category).sum ≤ 8 → cells ≤ R.cells → slots ≤ R.slots →
  W p l e R s m args below meth c H locs cells slots Q (F0 m (pc + 3) ls (.int (zix x) :: rest)) → W p l e R s m args below meth c H locs cells slots Q (F0 m pc ls (.int x :: .ref G.2.2.1 :: rest))
section zwalk
variable {G : zG} {X : Nat × (Nat → Int32)} {C : Nat → List (Nat × zQ)} {p : Program} {l : Launch} {e : Env} {R : Room} {s : State} {m : MethodId} {args : Array Value} {below : List Frame} {meth : Method} {c : Code} {Q : State → Prop} {H : Heap} {locs : List Loc} {cells slots : Nat}
theorem zrest_cat {r : List Value} (h : zrest r = true) : ((r.map (zt G)).map fun v => v.category).sum ≤ 8 := by
  simp only [zrest, Bool.and_eq_true, Nat.ble_eq] at h
  have h2 : ∀ (r : List Value), r.all zcat = true → ((r.map (zt G)).map fun v => v.category).sum = r.length := by
    intro r hr
    induction r with
    | nil => rfl
    | cons a r ih =>
      rw [List.all_cons, Bool.and_eq_true] at hr
      simp only [List.map_cons, List.sum_cons, List.length_cons, ih hr.2, zt_cat hr.1]
      omega
  rw [h2 r h.2]
  exact h.1
theorem zW_size {h : zH} {n0 : Nat} {g : JFrame} (h0 : s.heap.size = G.1 + n0) (hn : n0 ≤ h.1.length) (hP : va_P G.2.2.2.1 vwCl (zW G h) H) (hS : va_S (zA G) s.heap H locs)
    (kk : H.size = G.1 + h.1.length → W p l e R s m args below meth c H locs (h.1.length - n0) slots Q g) : W p l e R s m args below meth c H locs (h.1.length - n0) slots Q g := by
  intro T hT X
  have h1 := X.heapSize
  rw [hT] at h1
  refine kk ?_ T hT X
  have h2 : G.1 + h.1.length ≤ H.size := by
    rcases Nat.eq_or_lt_of_le hn with e | e
    · have := hS.1; omega
    · have hl : h.1.length - 1 < h.1.length := by omega
      have h3 := (hP (h.1.length - 1) _ (zW_get (List.getElem?_eq_getElem hl))).lt
      have h4 : G.1 + (h.1.length - 1) < H.size := h3
      omega
  omega
theorem zKS_calling {U : State} (h : zKS G X U) (g : JFrame) (mk : MethodId) (a : Array Value) : zKS G X (U.calling g mk a) :=
  ⟨va_K.moved (u := U) (U := U.calling g mk a) (Vm.Alike.refl U.vm) h.1, fun w hw => by
    obtain ⟨q, -, rfl⟩ := List.mem_map.mp hw
    exact va_Nw.same (u := U) rfl rfl (h.2.1 _ hw), h.2.2.1.moved (u := U) (Vm.Alike.refl U.vm), h.2.2.2.1.same (u := U) rfl, by
    obtain ⟨⟨adK, adV, h1, h2⟩, h3⟩ := h.2.2.2.2
    exact ⟨⟨adK, adV, h1, h2.moved (u := U) (Vm.Alike.refl U.vm)⟩, h3.moved (u := U) (Vm.Alike.refl U.vm)⟩⟩
theorem zPc_blind {as : List Value} {h : zH} : FrameBlind (zPc G X as h) := fun a U g mk q => ⟨q.1, q.2.1, zKS_calling q.2.2 g mk a⟩
theorem zKS_at {U : State} {n0 : Nat} (hK : zKS G X s) (h0 : s.heap.size = G.1 + n0) (hsc : G.2.1 < G.1) (hS : va_S (zA G) s.heap H locs) (hU : U.heap = H) (hW : s.WarmedH U.vm) : zKS G X U :=
  ⟨va_K.moved hW.alike hK.1, fun w hw => by
    have h1 := hK.2.1 w hw
    obtain ⟨q, -, rfl⟩ := List.mem_map.mp hw
    exact va_Nw.warmM hW h1, (hK.2.2.1.kept (by rw [hU]; exact hS.2.1 _ (by omega) (fun hh => by have h2 : G.1 ≤ G.2.1 := hh; omega))).moved hW.alike, hK.2.2.2.1.warm hW, by
    obtain ⟨⟨adK, adV, h1, h2⟩, h3⟩ := hK.2.2.2.2
    exact ⟨⟨adK, adV, h1, (h2.kept (by rw [hU]; exact hS.2.1)).moved hW.alike⟩, (h3.kept (by rw [hU]; exact hS.2.1)).moved hW.alike⟩⟩
/-- behind a call -/
theorem zcall_W {mc ms pc : Nat} {ls : Array Slot} {st0 rest : List Value} {r : Option Value} {h' : zH} {a : Array Value} (hr : va_Run p l e R s m args below meth c H locs cells slots mc ms (F0 m pc ls st0) rest (zQc G r h' a) (zA G)) (hS : va_S (zA G) s.heap H locs) (hz : H.size ≤ G.1 + h'.1.length)
    (kk : ∀ (H1 : Heap) (locs1 : List Loc), va_P G.2.2.2.1 vwCl (zW G h') H1 → va_S (zA G) s.heap H1 locs1 → W p l e R s m args below meth c H1 locs1 (cells + mc) (slots + ms) Q (F0 m (pc + 3) ls ((r.map (zt G)).toList ++ rest))) : W p l e R s m args below meth c H locs cells slots Q (F0 m pc ls st0) := by
  intro T hT X
  obtain ⟨v, st₀, t, T', L, h0, X', hL, e1, e2, ⟨hv, hO, hq⟩, st⟩ := hr T hT X
  cases hv
  obtain ⟨t2, a1, b1⟩ := kk T'.heap (locs ++ L) (by rw [e1]; exact hO.2) ⟨Nat.le_trans hS.1 (by rw [e1, hO.1]; exact hz), fun q h1 h2 => by
      have h3 : q < G.1 := Nat.not_le.mp h2
      rw [e1, hq q h3, h0]
      exact hS.2.1 q h1 h2, fun q hq => by
      rcases List.mem_append.mp hq with h | h
      · exact hS.2.2 q h
      · exact hL q h⟩ T' rfl X'
  exact ⟨t2, st t2 a1, b1⟩
theorem zws_good {u : Nat} (h : (zM u).2.2.2.2.2.2 < 3) : GoodIn zTs (zws (zM u)) := by
  intro w hw
  rcases List.mem_cons.mp hw with rfl | hw
  · exact ⟨zUc_ok h, good_of_word (zTs_good _ (zUc_ok h))⟩
  · exact ⟨hw, good_of_word (zTs_good _ hw)⟩
theorem zUk_use {u : Nat} (h : (zM u).2.2.2.2.2.2 < 3) : plainName (zM u).1.cls = true ∧ ((zM u).1.cls ≠ "java/lang/invoke/MethodHandle" ∧ (zM u).1.cls ≠ "java/lang/invoke/VarHandle") ∧ (parseMethodDescriptor (zM u).1.desc).map (fun d => d.parameters.length + (if (zM u).2.2.2.2.2.2 = 1 then 0 else if (zM u).2.2.2.2.2.2 = 3 then 0 else 1)) = some (zM u).2.2.2.2.2.1 ∧ (zM u).2.2.1 ≤ 60 ∧ (zM u).2.2.2.2.2.1 ≤ (zM u).2.2.1 ∧ (zM u).1.cls = zRs (zM u).2.2.2.2.1 ∧ ((zM u).2.2.2.2.2.2 = 2 ↔ (zM u).1.name = "<init>") ∧ ((zM u).2.2.2.2.2.2 = 2 → (zM u).2.2.2.1 = none) ∧ ((zM u).2.2.2.2.2.2 = 0 → (zM u).2.2.2.2.1 < 12) := by
  have h1 := zUk_of h
  simp only [zUk, Bool.and_eq_true, decide_eq_true_eq, Nat.ble_eq] at h1
  obtain ⟨h1, h2, h3, h4, h5, h6, h7, h8, h10, h9⟩ := h1
  refine ⟨h1, h2, h3, h4, h5, h6, ?_, fun e => ?_, fun e => ?_⟩
  rotate_left
  · rw [e] at h10
    simpa using h10
  · rw [e] at h7
    simp only [Bool.or_eq_true, Nat.blt, Nat.ble_eq] at h7
    rcases h7 with h7 | h7
    · omega
    · cases h7
  have h8 := eq_of_beq h8
  constructor
  · intro e
    rw [e] at h8
    exact of_decide_eq_true h8.symm
  · intro e
    rw [decide_eq_true e] at h8
    exact Nat.eq_of_beq_eq_true h8
theorem zargs_n {u n : Nat} (h : (zM u).2.2.2.2.2.2 < 3) (hn : n + (if (zM u).2.2.2.2.2.2 = 1 then 0 else 1) = (zM u).2.2.2.2.2.1) : (parseMethodDescriptor (zM u).1.desc).map (fun d => d.parameters.length) = some n := by
  have h1 := (zUk_use h).2.2.1
  cases hp : parseMethodDescriptor (zM u).1.desc with
  | none => rw [hp] at h1; cases h1
  | some d =>
    rw [hp] at h1
    have h2 := Option.some.inj h1
    rw [← hn] at h2
    have h3 : d.parameters.length + (if (zM u).2.2.2.2.2.2 = 1 then 0 else if (zM u).2.2.2.2.2.2 = 3 then 0 else 1) = n + (if (zM u).2.2.2.2.2.2 = 1 then 0 else 1) := h2
    have : d.parameters.length = n := by
      by_cases hk : (zM u).2.2.2.2.2.2 = 1
      · rw [if_pos hk, if_pos hk] at h3
        omega
      · rw [if_neg hk, if_neg hk, if_neg (by omega)] at h3
        omega
    exact congrArg some this
end zwalk
