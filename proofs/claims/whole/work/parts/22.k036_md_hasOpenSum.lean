abbrev T_md_hasOpenSum : Type := Int32
abbrev U_md_hasOpenSum_2 : Type := Int32
def b_md_hasOpenSum_2 (a72 : Nat → Int32) (f64_13 : Int32) (l2 : Int32) : Option (U_md_hasOpenSum_2 ⊕ T_md_hasOpenSum) :=
  bif decide (f64_13 ≤ l2) then
   some (.inr 0)
  else
   zg (zin l2 260) (
   bif !decide ((a72 (l2.toNatClampNeg)) / 1048576 = 14) then
    some (.inl (l2 + 1))
   else
    some (.inr 1))
def f_md_hasOpenSum_2 (a72 : Nat → Int32) (f64_13 : Int32) : U_md_hasOpenSum_2 → Option (U_md_hasOpenSum_2 ⊕ T_md_hasOpenSum) := fun s => b_md_hasOpenSum_2 a72 f64_13 s
noncomputable def l_md_hasOpenSum_2 (a72 : Nat → Int32) (f64_13 : Int32) (l2 : Int32) : Option T_md_hasOpenSum := zlp (f_md_hasOpenSum_2 a72 f64_13) l2
noncomputable def q_md_hasOpenSum (x : Int32) (a72 : Nat → Int32) (f64_13 : Int32) : Option T_md_hasOpenSum :=
  l_md_hasOpenSum_2 a72 f64_13 x
def P_md_hasOpenSum (Q : Int32 → (Nat → Int32) → Int32 → Option (Int32)) : zSp := fun as g => match as with
  | [.ref a, .int x] => bif Nat.beq a 64 then zpe (Q x (g.1 72) (g.2.1 64 13)) (fun t => (some (.int t), (g.1, g.2.1, g.2.2))) else none
  | _ => none
noncomputable abbrev S_md_hasOpenSum : zSp := P_md_hasOpenSum q_md_hasOpenSum
def O_md_hasOpenSum (ar fi : Nat → Nat → Int32) (m1 : Nat) (m2 : Nat) (m3 : Nat) (m4 : Nat) (m5 : Nat) (t : T_md_hasOpenSum) : zO2 := (some (.int t), (ar, fi, (m1, m2, m3, m4, m5)))
def M_md_hasOpenSum_2 (X : Nat × (Nat → Int32)) (E : zTE) (ar fi : Nat → Nat → Int32) (m1 : Nat) (m2 : Nat) (m3 : Nat) (m4 : Nat) (m5 : Nat) (x : Int32) (o : zO2) (s : U_md_hasOpenSum_2) : Prop := zR2 X zFT E zc_170 2 [.ref 64, .int x, .int s] [] (ar, fi, (m1, m2, m3, m4, m5)) o
set_option maxRecDepth 1000000 in
theorem t2_md_hasOpenSum {X : Nat × (Nat → Int32)} {ar fi : Nat → Nat → Int32} {m1 m2 m3 m4 m5 : Nat} {x : Int32} {l2 : Int32} : zseg X zFT zE0 zc_170 (fun p => Nat.beq p 2) 400 2 [.ref 64, .int x, .int l2] [] (ar, fi, (m1, m2, m3, m4, m5)) = (
  bif decide (fi 64 13 ≤ l2) then
   some (.inr (some (.int 0), (ar, fi, (m1, m2, m3, m4, m5))))
  else
   zg (Nat.beq 16 16 && (zin l2 260)) (
   zg (!decide ((1048576 : Int32) = 0)) (
   bif !decide (((ar 72) (l2.toNatClampNeg)) / 1048576 = 14) then
    some (.inl (2, [.ref 64, .int x, .int (l2 + 1)], [], (ar, fi, (m1, m2, m3, m4, m5))))
   else
    some (.inr (some (.int 1), (ar, fi, (m1, m2, m3, m4, m5)))))) : Option ((Nat × List Value × List Value × zH2) ⊕ zO2)) := rfl
set_option maxRecDepth 20000 in
theorem k_md_hasOpenSum_2 {X : Nat × (Nat → Int32)} {ar fi : Nat → Nat → Int32} {m1 m2 m3 m4 m5 : Nat} {x : Int32} {o : zO2} : ∀ (s : U_md_hasOpenSum_2) (q : U_md_hasOpenSum_2 ⊕ T_md_hasOpenSum), f_md_hasOpenSum_2 (ar 72) (fi 64 13) s = some q → zq (M_md_hasOpenSum_2 X zE0 ar fi m1 m2 m3 m4 m5 x o) (fun t => O_md_hasOpenSum ar fi m1 m2 m3 m4 m5 t = o) q → M_md_hasOpenSum_2 X zE0 ar fi m1 m2 m3 m4 m5 x o s := by
  intro l2 q h hq
  have h : b_md_hasOpenSum_2 (ar 72) (fi 64 13) l2 = some q := h
  unfold b_md_hasOpenSum_2 at h
  show zR2 X zFT zE0 zc_170 2 [.ref 64, .int x, .int l2] [] (ar, fi, (m1, m2, m3, m4, m5)) o
  refine zT_seg t2_md_hasOpenSum ?_
  obtain ⟨TT, hTT⟩ : ∃ T, T = zT X zFT zE0 zc_170 o := ⟨_, rfl⟩
  rw [← hTT]
  refine zb_el h (fun hb h => zU_t hTT hb ?_) (fun hb h => zU_f hTT hb ?_)
  · rw [hTT]
    have hz := zsi h hq
    refine (zO_mk ?_ ?_).trans hz
    · first | with_reducible rfl | rfl
    · first | with_reducible rfl | rfl
  · refine zg_el h (fun hg h => zU_ga hTT hg ?_)
    refine zU_g hTT rfl ?_
    refine zb_el h (fun hb h => zU_t hTT hb ?_) (fun hb h => zU_f hTT hb ?_)
    · rw [hTT]
      have hz := zsi h hq
      refine zR2_hp ?_ ?_ hz
      · first | with_reducible rfl | rfl
      · first | with_reducible rfl | rfl
    · rw [hTT]
      have hz := zsi h hq
      refine (zO_mk ?_ ?_).trans hz
      · first | with_reducible rfl | rfl
      · first | with_reducible rfl | rfl
set_option maxRecDepth 1000000 in
theorem t_md_hasOpenSum {X : Nat × (Nat → Int32)} {ar fi : Nat → Nat → Int32} {m1 m2 m3 m4 m5 : Nat} {x : Int32} : zseg X zFT zE0 zc_170 (fun p => Nat.beq p 2) 400 0 [.ref 64, .int x] [] (ar, fi, (m1, m2, m3, m4, m5)) = (
  some (.inl (2, [.ref 64, .int x, .int x], [], (ar, fi, (m1, m2, m3, m4, m5)))) : Option ((Nat × List Value × List Value × zH2) ⊕ zO2)) := by with_unfolding_all rfl
set_option maxRecDepth 20000 in
theorem e_md_hasOpenSum {X : Nat × (Nat → Int32)} {ar fi : Nat → Nat → Int32} {m1 m2 m3 m4 m5 : Nat} {x : Int32} {o : zO2} : ∀ (q : T_md_hasOpenSum), q_md_hasOpenSum x (ar 72) (fi 64 13) = some q → (fun t => O_md_hasOpenSum ar fi m1 m2 m3 m4 m5 t = o) q → zR2 X zFT zE0 zc_170 0 [.ref 64, .int x] [] (ar, fi, (m1, m2, m3, m4, m5)) o := by
  intro q h hq
  unfold q_md_hasOpenSum at h
  refine zT_seg t_md_hasOpenSum ?_
  obtain ⟨TT, hTT⟩ : ∃ T, T = zT X zFT zE0 zc_170 o := ⟨_, rfl⟩
  rw [← hTT]
  rw [hTT]
  refine zR2_hp ?_ ?_ (zlp_K k_md_hasOpenSum_2 h hq)
  · first | with_reducible rfl | rfl
  · first | with_reducible rfl | rfl
theorem ok_md_hasOpenSum (X : Nat × (Nat → Int32)) : zOkS X 170 S_md_hasOpenSum 1 := zOkS_new (zOkE_nil X 0) (by
  intro args g o h
  obtain ⟨ar, fi, m1, m2, m3, m4, m5⟩ := g
  unfold S_md_hasOpenSum P_md_hasOpenSum at h
  split at h
  · refine zb_el h (fun hI0 k0 => ?_) (fun _ h10 => ?_)
    · try simp only [Bool.and_eq_true] at hI0
      have j0 := hI0
      have e0 := Nat.eq_of_beq_eq_true j0
      subst e0
      exact zpe_el k0 (fun t ht ho => e_md_hasOpenSum t ht ho)
    · cases h10
  · cases h)
