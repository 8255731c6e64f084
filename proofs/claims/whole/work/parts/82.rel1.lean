/-! ===== D: the two halves of the heap, together ===== -/
/-- the law in force, as both have it -/
def RLaw (ar fi : Nat → Nat → Int32) (m1 m2 : Nat) : Prop :=
  (m1 = 23 ∧ m2 = 31 ∧ LW (ar 24) (ar 25) (ar 27) (ar 28) (ar 29) (ar 30) (fi 23 9) (fi 23 8) (ar 77) (ar 78) (ar 79) (ar 80) (ar 81) (fi 64 15)) ∨
  (m1 = 31 ∧ m2 = 23 ∧ LW (ar 32) (ar 33) (ar 35) (ar 36) (ar 37) (ar 38) (fi 31 9) (fi 31 8) (ar 77) (ar 78) (ar 79) (ar 80) (ar 81) (fi 64 15))
/-- the kept town, as both have it -/
def RKept (ar fi : Nat → Nat → Int32) : Prop :=
  (fi 0 5 = 0 ∧ fi 64 45 = 0) ∨ (fi 0 5 = 1 ∧ fi 64 45 = 1 ∧ RS (ar 11) (ar 12) (ar 13) (ar 14) (ar 15) (fi 9 6) (fi 9 7) (fi 9 8) (fi 9 9) (fi 9 10) (ar 67))
def RFed (fi : Nat → Nat → Int32) : Prop := ∃ t, t ≤ 260 ∧ fi 0 1 = nI t ∧ fi 64 6 = nI t
def RNow (ar fi : Nat → Nat → Int32) : Prop := RS (ar 4) (ar 5) (ar 6) (ar 7) (ar 8) (fi 2 6) (fi 2 7) (fi 2 8) (fi 2 9) (fi 2 10) (ar 65)
def Rel (g : zH2) : Prop := RT (g.1 1) (g.1 70) ∧ RFed g.2.1 ∧ KA 96 (g.1 3) (g.1 68) ∧ RNow g.1 g.2.1 ∧ RKept g.1 g.2.1 ∧ RLaw g.1 g.2.1 g.2.2.1 g.2.2.2.1
/-- one call on each side: the same answer, and the halves stay together -/
def Both (S S' : zSp) (as as' : List Value) (g : zH2) : Prop := ∃ v g1 g2, S as g = some (true, (some (.int v), g1)) ∧ S' as' g1 = some (true, (some (.int v), g2)) ∧ Rel g2
theorem p_if_steps {ar fi : Nat → Nat → Int32} {m1 m2 m3 m4 m5 : Nat} {x y : Int32} {t : T_if_steps} (h : q_if_steps x y (ar 3) (ar 53) (ar 54) (fi 52 1) (fi 52 3) = some t) : S_if_steps [.ref 0, .int x, .int y] (ar, fi, m1, m2, m3, m4, m5) = some (true, (some (.int (t.1)), ((zua (zua ar 53 t.2.1) 54 t.2.2.1), (zuf (zuf fi 52 1 t.2.2.2.1) 52 3 t.2.2.2.2), (m1, m2, m3, m4, m5)))) := by
  show zpe (q_if_steps x y (ar 3) (ar 53) (ar 54) (fi 52 1) (fi 52 3)) (fun t => (some (.int (t.1)), ((zua (zua ar 53 t.2.1) 54 t.2.2.1), (zuf (zuf fi 52 1 t.2.2.2.1) 52 3 t.2.2.2.2), (m1, m2, m3, m4, m5)))) = _
  rw [h]
  rfl
theorem p_md_steps {ar fi : Nat → Nat → Int32} {m1 m2 m3 m4 m5 : Nat} {x y : Int32} {t : T_md_steps} (h : q_md_steps x y (ar 68) (ar 86) (ar 87) = some t) : S_md_steps [.ref 64, .int x, .int y] (ar, fi, m1, m2, m3, m4, m5) = some (true, (some (.int (t.1)), ((zua (zua ar 86 t.2.1) 87 t.2.2), fi, (m1, m2, m3, m4, m5)))) := by
  show zpe (q_md_steps x y (ar 68) (ar 86) (ar 87)) (fun t => (some (.int (t.1)), ((zua (zua ar 86 t.2.1) 87 t.2.2), fi, (m1, m2, m3, m4, m5)))) = _
  rw [h]
  rfl
theorem s_steps {g : zH2} (h : Rel g) (x y : Int32) : Both S_if_steps S_md_steps [.ref 0, .int x, .int y] [.ref 64, .int x, .int y] g := by
  obtain ⟨ar, fi, m1, m2, m3, m4, m5⟩ := g
  obtain ⟨h1, h2, h3, h4, h5, h6⟩ := h
  have h1 : RT (ar 1) (ar 70) := h1
  have h2 : RFed fi := h2
  have h3 : KA 96 (ar 3) (ar 68) := h3
  have h4 : RNow ar fi := h4
  have h5 : RKept ar fi := h5
  have h6 : RLaw ar fi m1 m2 := h6
  obtain ⟨v, r, r', q1, q2⟩ := d_steps h3 x y (ar 53) (ar 54) (ar 86) (ar 87) (fi 52 1) (fi 52 3)
  refine ⟨v, _, _, p_if_steps q1, p_md_steps (t := (v, r')) q2, ?_⟩
  exact ⟨h1, h2, h3, h4, h5, h6⟩
theorem p_if_began {ar fi : Nat → Nat → Int32} {m1 m2 m3 m4 m5 : Nat} {x y : Int32} {t : T_if_began} (h : q_if_began x y (ar 3) (ar 4) (ar 53) (ar 54) (fi 52 1) (fi 52 3) = some t) : S_if_began [.ref 0, .int x, .int y] (ar, fi, m1, m2, m3, m4, m5) = some (true, (some (.int (t.1)), ((zua (zua ar 53 t.2.1) 54 t.2.2.1), (zuf (zuf fi 52 1 t.2.2.2.1) 52 3 t.2.2.2.2), (m1, m2, m3, m4, m5)))) := by
  show zpe (q_if_began x y (ar 3) (ar 4) (ar 53) (ar 54) (fi 52 1) (fi 52 3)) (fun t => (some (.int (t.1)), ((zua (zua ar 53 t.2.1) 54 t.2.2.1), (zuf (zuf fi 52 1 t.2.2.2.1) 52 3 t.2.2.2.2), (m1, m2, m3, m4, m5)))) = _
  rw [h]
  rfl
theorem p_md_began {ar fi : Nat → Nat → Int32} {m1 m2 m3 m4 m5 : Nat} {x y : Int32} {t : T_md_began} (h : q_md_began x y (ar 65) (ar 68) (ar 86) (ar 87) = some t) : S_md_began [.ref 64, .int x, .int y] (ar, fi, m1, m2, m3, m4, m5) = some (true, (some (.int (t.1)), ((zua (zua ar 86 t.2.1) 87 t.2.2), fi, (m1, m2, m3, m4, m5)))) := by
  show zpe (q_md_began x y (ar 65) (ar 68) (ar 86) (ar 87)) (fun t => (some (.int (t.1)), ((zua (zua ar 86 t.2.1) 87 t.2.2), fi, (m1, m2, m3, m4, m5)))) = _
  rw [h]
  rfl
theorem s_began {g : zH2} (h : Rel g) (x y : Int32) : Both S_if_began S_md_began [.ref 0, .int x, .int y] [.ref 64, .int x, .int y] g := by
  obtain ⟨ar, fi, m1, m2, m3, m4, m5⟩ := g
  obtain ⟨h1, h2, h3, h4, h5, h6⟩ := h
  have h1 : RT (ar 1) (ar 70) := h1
  have h2 : RFed fi := h2
  have h3 : KA 96 (ar 3) (ar 68) := h3
  have h4 : RNow ar fi := h4
  have h5 : RKept ar fi := h5
  have h6 : RLaw ar fi m1 m2 := h6
  obtain ⟨v, r, r', q1, q2⟩ := d_began h3 (fun k hk => (h4.1 k hk).1) x y (ar 53) (ar 54) (ar 86) (ar 87) (fi 52 1) (fi 52 3)
  refine ⟨v, _, _, p_if_began q1, p_md_began (t := (v, r')) q2, ?_⟩
  exact ⟨h1, h2, h3, h4, h5, h6⟩
theorem p_if_safe {ar fi : Nat → Nat → Int32} {m1 m2 m3 m4 m5 : Nat} {x : Int32} {t : T_if_safe} (h : q_if_safe x (ar 3) (ar 4) (ar 53) (ar 54) (fi 52 1) (fi 52 3) = some t) : S_if_safe [.ref 0, .int x] (ar, fi, m1, m2, m3, m4, m5) = some (true, (some (.int (t.1)), ((zua (zua ar 53 t.2.1) 54 t.2.2.1), (zuf (zuf fi 52 1 t.2.2.2.1) 52 3 t.2.2.2.2), (m1, m2, m3, m4, m5)))) := by
  show zpe (q_if_safe x (ar 3) (ar 4) (ar 53) (ar 54) (fi 52 1) (fi 52 3)) (fun t => (some (.int (t.1)), ((zua (zua ar 53 t.2.1) 54 t.2.2.1), (zuf (zuf fi 52 1 t.2.2.2.1) 52 3 t.2.2.2.2), (m1, m2, m3, m4, m5)))) = _
  rw [h]
  rfl
theorem p_md_safe {ar fi : Nat → Nat → Int32} {m1 m2 m3 m4 m5 : Nat} {x : Int32} {t : T_md_safe} (h : q_md_safe x (ar 65) (ar 68) (ar 86) (ar 87) = some t) : S_md_safe [.ref 64, .int x] (ar, fi, m1, m2, m3, m4, m5) = some (true, (some (.int (t.1)), ((zua (zua ar 86 t.2.1) 87 t.2.2), fi, (m1, m2, m3, m4, m5)))) := by
  show zpe (q_md_safe x (ar 65) (ar 68) (ar 86) (ar 87)) (fun t => (some (.int (t.1)), ((zua (zua ar 86 t.2.1) 87 t.2.2), fi, (m1, m2, m3, m4, m5)))) = _
  rw [h]
  rfl
theorem s_safe {g : zH2} (h : Rel g) (x : Int32) : Both S_if_safe S_md_safe [.ref 0, .int x] [.ref 64, .int x] g := by
  obtain ⟨ar, fi, m1, m2, m3, m4, m5⟩ := g
  obtain ⟨h1, h2, h3, h4, h5, h6⟩ := h
  have h1 : RT (ar 1) (ar 70) := h1
  have h2 : RFed fi := h2
  have h3 : KA 96 (ar 3) (ar 68) := h3
  have h4 : RNow ar fi := h4
  have h5 : RKept ar fi := h5
  have h6 : RLaw ar fi m1 m2 := h6
  obtain ⟨v, r, r', q1, q2⟩ := d_safe h3 (fun k hk => (h4.1 k hk).1) x (ar 53) (ar 54) (ar 86) (ar 87) (fi 52 1) (fi 52 3)
  refine ⟨v, _, _, p_if_safe q1, p_md_safe (t := (v, r')) q2, ?_⟩
  exact ⟨h1, h2, h3, h4, h5, h6⟩
theorem p_if_woods {ar fi : Nat → Nat → Int32} {m1 m2 m3 m4 m5 : Nat} {x : Int32} {t : T_if_woods} (h : q_if_woods x (ar 3) (ar 53) (ar 54) (fi 52 1) (fi 52 3) = some t) : S_if_woods [.ref 0, .int x] (ar, fi, m1, m2, m3, m4, m5) = some (true, (some (.int (t.1)), ((zua (zua ar 53 t.2.1) 54 t.2.2.1), (zuf (zuf fi 52 1 t.2.2.2.1) 52 3 t.2.2.2.2), (m1, m2, m3, m4, m5)))) := by
  show zpe (q_if_woods x (ar 3) (ar 53) (ar 54) (fi 52 1) (fi 52 3)) (fun t => (some (.int (t.1)), ((zua (zua ar 53 t.2.1) 54 t.2.2.1), (zuf (zuf fi 52 1 t.2.2.2.1) 52 3 t.2.2.2.2), (m1, m2, m3, m4, m5)))) = _
  rw [h]
  rfl
theorem p_md_woods {ar fi : Nat → Nat → Int32} {m1 m2 m3 m4 m5 : Nat} {x : Int32} {t : T_md_woods} (h : q_md_woods x (ar 68) (ar 86) (ar 87) = some t) : S_md_woods [.ref 64, .int x] (ar, fi, m1, m2, m3, m4, m5) = some (true, (some (.int (t.1)), ((zua (zua ar 86 t.2.1) 87 t.2.2), fi, (m1, m2, m3, m4, m5)))) := by
  show zpe (q_md_woods x (ar 68) (ar 86) (ar 87)) (fun t => (some (.int (t.1)), ((zua (zua ar 86 t.2.1) 87 t.2.2), fi, (m1, m2, m3, m4, m5)))) = _
  rw [h]
  rfl
theorem s_woods {g : zH2} (h : Rel g) (x : Int32) : Both S_if_woods S_md_woods [.ref 0, .int x] [.ref 64, .int x] g := by
  obtain ⟨ar, fi, m1, m2, m3, m4, m5⟩ := g
  obtain ⟨h1, h2, h3, h4, h5, h6⟩ := h
  have h1 : RT (ar 1) (ar 70) := h1
  have h2 : RFed fi := h2
  have h3 : KA 96 (ar 3) (ar 68) := h3
  have h4 : RNow ar fi := h4
  have h5 : RKept ar fi := h5
  have h6 : RLaw ar fi m1 m2 := h6
  obtain ⟨v, r, r', q1, q2⟩ := d_woods h3 x (ar 53) (ar 54) (ar 86) (ar 87) (fi 52 1) (fi 52 3)
  refine ⟨v, _, _, p_if_woods q1, p_md_woods (t := (v, r')) q2, ?_⟩
  exact ⟨h1, h2, h3, h4, h5, h6⟩
theorem p_if_getsOut {ar fi : Nat → Nat → Int32} {m1 m2 m3 m4 m5 : Nat} {x : Int32} {t : T_if_getsOut} (h : q_if_getsOut x (ar 3) (ar 4) (ar 53) (ar 54) (ar 55) (ar 56) (fi 52 1) (fi 52 3) = some t) : S_if_getsOut [.ref 0, .int x] (ar, fi, m1, m2, m3, m4, m5) = some (true, (some (.int (t.1)), ((zua (zua (zua (zua ar 53 t.2.1) 54 t.2.2.1) 55 t.2.2.2.1) 56 t.2.2.2.2.1), (zuf (zuf fi 52 1 t.2.2.2.2.2.1) 52 3 t.2.2.2.2.2.2), (m1, m2, m3, m4, m5)))) := by
  show zpe (q_if_getsOut x (ar 3) (ar 4) (ar 53) (ar 54) (ar 55) (ar 56) (fi 52 1) (fi 52 3)) (fun t => (some (.int (t.1)), ((zua (zua (zua (zua ar 53 t.2.1) 54 t.2.2.1) 55 t.2.2.2.1) 56 t.2.2.2.2.1), (zuf (zuf fi 52 1 t.2.2.2.2.2.1) 52 3 t.2.2.2.2.2.2), (m1, m2, m3, m4, m5)))) = _
  rw [h]
  rfl
theorem p_md_getsOut {ar fi : Nat → Nat → Int32} {m1 m2 m3 m4 m5 : Nat} {x : Int32} {t : T_md_getsOut} (h : q_md_getsOut x (ar 65) (ar 68) (ar 86) (ar 87) (ar 92) (ar 93) = some t) : S_md_getsOut [.ref 64, .int x] (ar, fi, m1, m2, m3, m4, m5) = some (true, (some (.int (t.1)), ((zua (zua (zua (zua ar 86 t.2.1) 87 t.2.2.1) 92 t.2.2.2.1) 93 t.2.2.2.2), fi, (m1, m2, m3, m4, m5)))) := by
  show zpe (q_md_getsOut x (ar 65) (ar 68) (ar 86) (ar 87) (ar 92) (ar 93)) (fun t => (some (.int (t.1)), ((zua (zua (zua (zua ar 86 t.2.1) 87 t.2.2.1) 92 t.2.2.2.1) 93 t.2.2.2.2), fi, (m1, m2, m3, m4, m5)))) = _
  rw [h]
  rfl
theorem s_getsOut {g : zH2} (h : Rel g) (x : Int32) : Both S_if_getsOut S_md_getsOut [.ref 0, .int x] [.ref 64, .int x] g := by
  obtain ⟨ar, fi, m1, m2, m3, m4, m5⟩ := g
  obtain ⟨h1, h2, h3, h4, h5, h6⟩ := h
  have h1 : RT (ar 1) (ar 70) := h1
  have h2 : RFed fi := h2
  have h3 : KA 96 (ar 3) (ar 68) := h3
  have h4 : RNow ar fi := h4
  have h5 : RKept ar fi := h5
  have h6 : RLaw ar fi m1 m2 := h6
  obtain ⟨v, r, r', q1, q2⟩ := d_getsOut h3 (fun k hk => (h4.1 k hk).1) x (ar 53) (ar 54) (ar 55) (ar 56) (ar 86) (ar 87) (ar 92) (ar 93) (fi 52 1) (fi 52 3)
  refine ⟨v, _, _, p_if_getsOut q1, p_md_getsOut (t := (v, r')) q2, ?_⟩
  exact ⟨h1, h2, h3, h4, h5, h6⟩
theorem p_if_breaks {ar fi : Nat → Nat → Int32} {m1 m2 m3 m4 m5 : Nat} {x y : Int32} {t : T_if_breaks} (h : q_if_breaks x y (ar 3) (ar 58) (ar 59) (ar 60) (ar 61) (fi 57 4) = some t) : S_if_breaks [.ref 0, .int x, .int y] (ar, fi, m1, m2, m3, m4, m5) = some (true, (some (.int (t.1)), ((zua (zua (zua (zua ar 58 t.2.1) 59 t.2.2.1) 60 t.2.2.2.1) 61 t.2.2.2.2.1), (zuf fi 57 4 t.2.2.2.2.2), (m1, m2, m3, m4, m5)))) := by
  show zpe (q_if_breaks x y (ar 3) (ar 58) (ar 59) (ar 60) (ar 61) (fi 57 4)) (fun t => (some (.int (t.1)), ((zua (zua (zua (zua ar 58 t.2.1) 59 t.2.2.1) 60 t.2.2.2.1) 61 t.2.2.2.2.1), (zuf fi 57 4 t.2.2.2.2.2), (m1, m2, m3, m4, m5)))) = _
  rw [h]
  rfl
theorem p_md_breaks {ar fi : Nat → Nat → Int32} {m1 m2 m3 m4 m5 : Nat} {x y : Int32} {t : T_md_breaks} (h : q_md_breaks x y (ar 68) (ar 87) (ar 88) (ar 89) (ar 90) (ar 91) (fi 64 40) = some t) : S_md_breaks [.ref 64, .int x, .int y] (ar, fi, m1, m2, m3, m4, m5) = some (true, (some (.int (t.1)), ((zua (zua (zua (zua (zua ar 87 t.2.1) 88 t.2.2.1) 89 t.2.2.2.1) 90 t.2.2.2.2.1) 91 t.2.2.2.2.2.1), (zuf fi 64 40 t.2.2.2.2.2.2), (m1, m2, m3, m4, m5)))) := by
  show zpe (q_md_breaks x y (ar 68) (ar 87) (ar 88) (ar 89) (ar 90) (ar 91) (fi 64 40)) (fun t => (some (.int (t.1)), ((zua (zua (zua (zua (zua ar 87 t.2.1) 88 t.2.2.1) 89 t.2.2.2.1) 90 t.2.2.2.2.1) 91 t.2.2.2.2.2.1), (zuf fi 64 40 t.2.2.2.2.2.2), (m1, m2, m3, m4, m5)))) = _
  rw [h]
  rfl
theorem s_breaks {g : zH2} (h : Rel g) (x y : Int32) : Both S_if_breaks S_md_breaks [.ref 0, .int x, .int y] [.ref 64, .int x, .int y] g := by
  obtain ⟨ar, fi, m1, m2, m3, m4, m5⟩ := g
  obtain ⟨h1, h2, h3, h4, h5, h6⟩ := h
  have h1 : RT (ar 1) (ar 70) := h1
  have h2 : RFed fi := h2
  have h3 : KA 96 (ar 3) (ar 68) := h3
  have h4 : RNow ar fi := h4
  have h5 : RKept ar fi := h5
  have h6 : RLaw ar fi m1 m2 := h6
  obtain ⟨v, r, r', q1, q2⟩ := d_breaks h3 x y (ar 58) (ar 59) (ar 60) (ar 61) (ar 87) (ar 88) (ar 89) (ar 90) (ar 91) (fi 57 4) (fi 64 40)
  refine ⟨v, _, _, p_if_breaks q1, p_md_breaks (t := (v, r')) q2, ?_⟩
  exact ⟨h1, h2, h3, h4, h5, h6⟩
theorem p_if_insure {ar fi : Nat → Nat → Int32} {m1 m2 m3 m4 m5 : Nat} {x y z : Int32} {t : T_if_insure} (h : q_if_insure x y z (ar 1) (fi 0 1) = some t) : S_if_insure [.ref 0, .int x, .int y, .int z] (ar, fi, m1, m2, m3, m4, m5) = some (true, (some (.int (t.1)), (ar, (zuf fi 0 1 t.2), (m1, m2, m3, m4, m5)))) := by
  show zpe (q_if_insure x y z (ar 1) (fi 0 1)) (fun t => (some (.int (t.1)), (ar, (zuf fi 0 1 t.2), (m1, m2, m3, m4, m5)))) = _
  rw [h]
  rfl
theorem p_md_insure {ar fi : Nat → Nat → Int32} {m1 m2 m3 m4 m5 : Nat} {x y z : Int32} {t : T_md_insure} (h : q_md_insure x y z (ar 70) (fi 64 6) = some t) : S_md_insure [.ref 64, .int x, .int y, .int z] (ar, fi, m1, m2, m3, m4, m5) = some (true, (some (.int (t.1)), (ar, (zuf fi 64 6 t.2), (m1, m2, m3, m4, m5)))) := by
  show zpe (q_md_insure x y z (ar 70) (fi 64 6)) (fun t => (some (.int (t.1)), (ar, (zuf fi 64 6 t.2), (m1, m2, m3, m4, m5)))) = _
  rw [h]
  rfl
theorem s_insure {g : zH2} (h : Rel g) (x y z : Int32) : Both S_if_insure S_md_insure [.ref 0, .int x, .int y, .int z] [.ref 64, .int x, .int y, .int z] g := by
  obtain ⟨ar, fi, m1, m2, m3, m4, m5⟩ := g
  obtain ⟨h1, h2, h3, h4, h5, h6⟩ := h
  have h1 : RT (ar 1) (ar 70) := h1
  have h2 : RFed fi := h2
  have h3 : KA 96 (ar 3) (ar 68) := h3
  have h4 : RNow ar fi := h4
  have h5 : RKept ar fi := h5
  have h6 : RLaw ar fi m1 m2 := h6
  obtain ⟨v, f', q1, q2, q3⟩ := d_insure h1 x y z (fi 0 1)
  obtain ⟨t, ht, e1, e2⟩ := h2
  have q2' : q_md_insure x y z (ar 70) (fi 64 6) = some (v, f') := by rw [e2, ← e1]; exact q2
  refine ⟨v, _, _, p_if_insure q1, p_md_insure (t := (v, f')) q2', ?_⟩
  refine ⟨h1, ?_, h3, h4, h5, h6⟩
  rcases q3 with q3 | q3
  · exact ⟨t, ht, q3.trans e1, q3.trans e1⟩
  · exact ⟨0, by omega, q3, q3⟩
theorem p_if_ruin {ar fi : Nat → Nat → Int32} {m1 m2 m3 m4 m5 : Nat} {x y z : Int32} {t : T_if_ruin} (h : q_if_ruin x y z (ar 1) (fi 0 1) = some t) : S_if_ruin [.ref 0, .int x, .int y, .int z] (ar, fi, m1, m2, m3, m4, m5) = some (true, (some (.int (t.1)), (ar, (zuf fi 0 1 t.2), (m1, m2, m3, m4, m5)))) := by
  show zpe (q_if_ruin x y z (ar 1) (fi 0 1)) (fun t => (some (.int (t.1)), (ar, (zuf fi 0 1 t.2), (m1, m2, m3, m4, m5)))) = _
  rw [h]
  rfl
theorem p_md_ruin {ar fi : Nat → Nat → Int32} {m1 m2 m3 m4 m5 : Nat} {x y z : Int32} {t : T_md_ruin} (h : q_md_ruin x y z (ar 70) (fi 64 6) = some t) : S_md_ruin [.ref 64, .int x, .int y, .int z] (ar, fi, m1, m2, m3, m4, m5) = some (true, (some (.int (t.1)), (ar, (zuf fi 64 6 t.2), (m1, m2, m3, m4, m5)))) := by
  show zpe (q_md_ruin x y z (ar 70) (fi 64 6)) (fun t => (some (.int (t.1)), (ar, (zuf fi 64 6 t.2), (m1, m2, m3, m4, m5)))) = _
  rw [h]
  rfl
theorem s_ruin {g : zH2} (h : Rel g) (x y z : Int32) : Both S_if_ruin S_md_ruin [.ref 0, .int x, .int y, .int z] [.ref 64, .int x, .int y, .int z] g := by
  obtain ⟨ar, fi, m1, m2, m3, m4, m5⟩ := g
  obtain ⟨h1, h2, h3, h4, h5, h6⟩ := h
  have h1 : RT (ar 1) (ar 70) := h1
  have h2 : RFed fi := h2
  have h3 : KA 96 (ar 3) (ar 68) := h3
  have h4 : RNow ar fi := h4
  have h5 : RKept ar fi := h5
  have h6 : RLaw ar fi m1 m2 := h6
  obtain ⟨v, f', q1, q2, q3⟩ := d_ruin h1 x y z (fi 0 1)
  obtain ⟨t, ht, e1, e2⟩ := h2
  have q2' : q_md_ruin x y z (ar 70) (fi 64 6) = some (v, f') := by rw [e2, ← e1]; exact q2
  refine ⟨v, _, _, p_if_ruin q1, p_md_ruin (t := (v, f')) q2', ?_⟩
  refine ⟨h1, ?_, h3, h4, h5, h6⟩
  rcases q3 with q3 | q3
  · exact ⟨t, ht, q3.trans e1, q3.trans e1⟩
  · exact ⟨0, by omega, q3, q3⟩
theorem p_if_premium {ar fi : Nat → Nat → Int32} {m1 m2 m3 m4 m5 : Nat} {x y : Int32} {t : T_if_premium} (h : q_if_premium x y (ar 1) (fi 0 1) = some t) : S_if_premium [.ref 0, .int x, .int y] (ar, fi, m1, m2, m3, m4, m5) = some (true, (some (.int (t.1)), (ar, (zuf fi 0 1 t.2), (m1, m2, m3, m4, m5)))) := by
  show zpe (q_if_premium x y (ar 1) (fi 0 1)) (fun t => (some (.int (t.1)), (ar, (zuf fi 0 1 t.2), (m1, m2, m3, m4, m5)))) = _
  rw [h]
  rfl
theorem p_md_premium {ar fi : Nat → Nat → Int32} {m1 m2 m3 m4 m5 : Nat} {x y : Int32} {t : T_md_premium} (h : q_md_premium x y (ar 70) (fi 64 6) = some t) : S_md_premium [.ref 64, .int x, .int y] (ar, fi, m1, m2, m3, m4, m5) = some (true, (some (.int (t.1)), (ar, (zuf fi 64 6 t.2), (m1, m2, m3, m4, m5)))) := by
  show zpe (q_md_premium x y (ar 70) (fi 64 6)) (fun t => (some (.int (t.1)), (ar, (zuf fi 64 6 t.2), (m1, m2, m3, m4, m5)))) = _
  rw [h]
  rfl
theorem s_premium {g : zH2} (h : Rel g) (x y : Int32) : Both S_if_premium S_md_premium [.ref 0, .int x, .int y] [.ref 64, .int x, .int y] g := by
  obtain ⟨ar, fi, m1, m2, m3, m4, m5⟩ := g
  obtain ⟨h1, h2, h3, h4, h5, h6⟩ := h
  have h1 : RT (ar 1) (ar 70) := h1
  have h2 : RFed fi := h2
  have h3 : KA 96 (ar 3) (ar 68) := h3
  have h4 : RNow ar fi := h4
  have h5 : RKept ar fi := h5
  have h6 : RLaw ar fi m1 m2 := h6
  obtain ⟨v, f', q1, q2, q3⟩ := d_premium h1 x y (fi 0 1)
  obtain ⟨t, ht, e1, e2⟩ := h2
  have q2' : q_md_premium x y (ar 70) (fi 64 6) = some (v, f') := by rw [e2, ← e1]; exact q2
  refine ⟨v, _, _, p_if_premium q1, p_md_premium (t := (v, f')) q2', ?_⟩
  refine ⟨h1, ?_, h3, h4, h5, h6⟩
  rcases q3 with q3 | q3
  · exact ⟨t, ht, q3.trans e1, q3.trans e1⟩
  · exact ⟨0, by omega, q3, q3⟩
theorem p_if_roundFigure {ar fi : Nat → Nat → Int32} {m1 m2 m3 m4 m5 : Nat} {x : Int32} {t : T_if_roundFigure} (h : q_if_roundFigure x = some t) : S_if_roundFigure [.ref 0, .int x] (ar, fi, m1, m2, m3, m4, m5) = some (true, (some (.int t), (ar, fi, (m1, m2, m3, m4, m5)))) := by
  show zpe (q_if_roundFigure x) (fun t => (some (.int t), (ar, fi, (m1, m2, m3, m4, m5)))) = _
  rw [h]
  rfl
theorem p_md_roundFigure {ar fi : Nat → Nat → Int32} {m1 m2 m3 m4 m5 : Nat} {x : Int32} {t : T_md_roundFigure} (h : q_md_roundFigure x = some t) : S_md_roundFigure [.ref 64, .int x] (ar, fi, m1, m2, m3, m4, m5) = some (true, (some (.int t), (ar, fi, (m1, m2, m3, m4, m5)))) := by
  show zpe (q_md_roundFigure x) (fun t => (some (.int t), (ar, fi, (m1, m2, m3, m4, m5)))) = _
  rw [h]
  rfl
theorem s_roundFigure {g : zH2} (h : Rel g) (x : Int32) : Both S_if_roundFigure S_md_roundFigure [.ref 0, .int x] [.ref 64, .int x] g := by
  obtain ⟨ar, fi, m1, m2, m3, m4, m5⟩ := g
  obtain ⟨h1, h2, h3, h4, h5, h6⟩ := h
  have h1 : RT (ar 1) (ar 70) := h1
  have h2 : RFed fi := h2
  have h3 : KA 96 (ar 3) (ar 68) := h3
  have h4 : RNow ar fi := h4
  have h5 : RKept ar fi := h5
  have h6 : RLaw ar fi m1 m2 := h6
  obtain ⟨v, q1, q2⟩ := d_roundFigure x
  refine ⟨v, _, _, p_if_roundFigure q1, p_md_roundFigure (t := v) q2, ?_⟩
  exact ⟨h1, h2, h3, h4, h5, h6⟩
theorem p_if_carried {ar fi : Nat → Nat → Int32} {m1 m2 m3 m4 m5 : Nat} {x : Int32} {t : T_if_carried} (h : q_if_carried x (ar 1) (ar 63) (fi 0 1) = some t) : S_if_carried [.ref 0, .int x] (ar, fi, m1, m2, m3, m4, m5) = some (true, (some (.int (t.1)), ((zua ar 63 t.2.1), (zuf fi 0 1 t.2.2), (m1, m2, m3, m4, m5)))) := by
  show zpe (q_if_carried x (ar 1) (ar 63) (fi 0 1)) (fun t => (some (.int (t.1)), ((zua ar 63 t.2.1), (zuf fi 0 1 t.2.2), (m1, m2, m3, m4, m5)))) = _
  rw [h]
  rfl
theorem p_md_carried {ar fi : Nat → Nat → Int32} {m1 m2 m3 m4 m5 : Nat} {x : Int32} {t : T_md_carried} (h : q_md_carried x (ar 70) (ar 94) (fi 64 6) = some t) : S_md_carried [.ref 64, .int x] (ar, fi, m1, m2, m3, m4, m5) = some (true, (some (.int (t.1)), ((zua ar 94 t.2.1), (zuf fi 64 6 t.2.2), (m1, m2, m3, m4, m5)))) := by
  show zpe (q_md_carried x (ar 70) (ar 94) (fi 64 6)) (fun t => (some (.int (t.1)), ((zua ar 94 t.2.1), (zuf fi 64 6 t.2.2), (m1, m2, m3, m4, m5)))) = _
  rw [h]
  rfl
theorem s_carried {g : zH2} (h : Rel g) (x : Int32) : Both S_if_carried S_md_carried [.ref 0, .int x] [.ref 64, .int x] g := by
  obtain ⟨ar, fi, m1, m2, m3, m4, m5⟩ := g
  obtain ⟨h1, h2, h3, h4, h5, h6⟩ := h
  have h1 : RT (ar 1) (ar 70) := h1
  have h2 : RFed fi := h2
  have h3 : KA 96 (ar 3) (ar 68) := h3
  have h4 : RNow ar fi := h4
  have h5 : RKept ar fi := h5
  have h6 : RLaw ar fi m1 m2 := h6
  obtain ⟨v, b', c', f', q1, q2, q3⟩ := d_carried h1 x (fi 0 1) (ar 63) (ar 94)
  obtain ⟨t, ht, e1, e2⟩ := h2
  have q2' : q_md_carried x (ar 70) (ar 94) (fi 64 6) = some (v, c', f') := by rw [e2, ← e1]; exact q2
  refine ⟨v, _, _, p_if_carried q1, p_md_carried (t := (v, c', f')) q2', ?_⟩
  refine ⟨h1, ?_, h3, h4, h5, h6⟩
  rcases q3 with q3 | q3
  · exact ⟨t, ht, q3.trans e1, q3.trans e1⟩
  · exact ⟨0, by omega, q3, q3⟩
theorem p_if_check {ar fi : Nat → Nat → Int32} {m1 m2 m3 m4 m5 : Nat} {x : Int32} {t : T_if_check} (h : q_if_check x (ar 1) (ar 7) (fi 0 1) (fi 2 7) = some t) : S_if_check [.ref 0, .int x] (ar, fi, m1, m2, m3, m4, m5) = some (true, (some (.int (t.1)), (ar, (zuf fi 0 1 t.2), (m1, m2, m3, m4, m5)))) := by
  show zpe (q_if_check x (ar 1) (ar 7) (fi 0 1) (fi 2 7)) (fun t => (some (.int (t.1)), (ar, (zuf fi 0 1 t.2), (m1, m2, m3, m4, m5)))) = _
  rw [h]
  rfl
theorem p_md_check {ar fi : Nat → Nat → Int32} {m1 m2 m3 m4 m5 : Nat} {x : Int32} {t : T_md_check} (h : q_md_check x (ar 65) (ar 70) (fi 64 6) = some t) : S_md_check [.ref 64, .int x] (ar, fi, m1, m2, m3, m4, m5) = some (true, (some (.int (t.1)), (ar, (zuf fi 64 6 t.2), (m1, m2, m3, m4, m5)))) := by
  show zpe (q_md_check x (ar 65) (ar 70) (fi 64 6)) (fun t => (some (.int (t.1)), (ar, (zuf fi 64 6 t.2), (m1, m2, m3, m4, m5)))) = _
  rw [h]
  rfl
theorem s_check {g : zH2} (h : Rel g) (x : Int32) : Both S_if_check S_md_check [.ref 0, .int x] [.ref 64, .int x] g := by
  obtain ⟨ar, fi, m1, m2, m3, m4, m5⟩ := g
  obtain ⟨h1, h2, h3, h4, h5, h6⟩ := h
  have h1 : RT (ar 1) (ar 70) := h1
  have h2 : RFed fi := h2
  have h3 : KA 96 (ar 3) (ar 68) := h3
  have h4 : RNow ar fi := h4
  have h5 : RKept ar fi := h5
  have h6 : RLaw ar fi m1 m2 := h6
  obtain ⟨t, ht, e1, e2⟩ := h2
  obtain ⟨v, f', q1, q2, q3⟩ := d_check h1 h4.2.1 h4.2.2.1 x ht
  have q1' : q_if_check x (ar 1) (ar 7) (fi 0 1) (fi 2 7) = some (v, f') := by rw [e1]; exact q1
  have q2' : q_md_check x (ar 65) (ar 70) (fi 64 6) = some (v, f') := by rw [e2]; exact q2
  refine ⟨v, _, _, p_if_check q1', p_md_check (t := (v, f')) q2', ?_⟩
  refine ⟨h1, ?_, h3, h4, h5, h6⟩
  rcases q3 with q3 | q3
  · exact ⟨t, ht, q3, q3⟩
  · exact ⟨0, by omega, q3, q3⟩
theorem p_if_feed {ar fi : Nat → Nat → Int32} {m1 m2 m3 m4 m5 : Nat} {x y z u v : Int32} {t : T_if_feed} (h : q_if_feed x y z u v (ar 1) (fi 0 1) = some t) : S_if_feed [.ref 0, .int x, .int y, .int z, .int u, .int v] (ar, fi, m1, m2, m3, m4, m5) = some (true, (some (.int (t.1)), ((zua ar 1 t.2.1), (zuf fi 0 1 t.2.2), (m1, m2, m3, m4, m5)))) := by
  show zpe (q_if_feed x y z u v (ar 1) (fi 0 1)) (fun t => (some (.int (t.1)), ((zua ar 1 t.2.1), (zuf fi 0 1 t.2.2), (m1, m2, m3, m4, m5)))) = _
  rw [h]
  rfl
theorem p_md_feed {ar fi : Nat → Nat → Int32} {m1 m2 m3 m4 m5 : Nat} {x y z u v : Int32} {t : T_md_feed} (h : q_md_feed x y z u v (ar 70) (fi 64 6) = some t) : S_md_feed [.ref 64, .int x, .int y, .int z, .int u, .int v] (ar, fi, m1, m2, m3, m4, m5) = some (true, (some (.int (t.1)), ((zua ar 70 t.2.1), (zuf fi 64 6 t.2.2), (m1, m2, m3, m4, m5)))) := by
  show zpe (q_md_feed x y z u v (ar 70) (fi 64 6)) (fun t => (some (.int (t.1)), ((zua ar 70 t.2.1), (zuf fi 64 6 t.2.2), (m1, m2, m3, m4, m5)))) = _
  rw [h]
  rfl
theorem s_feed {g : zH2} (h : Rel g) (x y z u v : Int32) : Both S_if_feed S_md_feed [.ref 0, .int x, .int y, .int z, .int u, .int v] [.ref 64, .int x, .int y, .int z, .int u, .int v] g := by
  obtain ⟨ar, fi, m1, m2, m3, m4, m5⟩ := g
  obtain ⟨h1, h2, h3, h4, h5, h6⟩ := h
  have h1 : RT (ar 1) (ar 70) := h1
  have h2 : RFed fi := h2
  have h3 : KA 96 (ar 3) (ar 68) := h3
  have h4 : RNow ar fi := h4
  have h5 : RKept ar fi := h5
  have h6 : RLaw ar fi m1 m2 := h6
  obtain ⟨t, ht, e1, e2⟩ := h2
  obtain ⟨r, b, c, t', q1, q2, q3, q4⟩ := d_feed h1 ht x y z u v
  have q1' : q_if_feed x y z u v (ar 1) (fi 0 1) = some (r, b, nI t') := by rw [e1]; exact q1
  have q2' : q_md_feed x y z u v (ar 70) (fi 64 6) = some (r, c, nI t') := by rw [e2]; exact q2
  refine ⟨r, _, _, p_if_feed q1', p_md_feed (t := (r, c, nI t')) q2', ?_⟩
  exact ⟨q3, ⟨t', q4, rfl, rfl⟩, h3, h4, h5, h6⟩
