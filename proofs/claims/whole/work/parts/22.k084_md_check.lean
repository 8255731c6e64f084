abbrev T_md_check : Type := Int32 × Int32
abbrev U_md_check_28 : Type := Int32
def b_md_check_28 (x : Int32) (a65 : Nat → Int32) (a70 : Nat → Int32) (c64_6 : Int32) (l2 : Int32) : Option (U_md_check_28 ⊕ T_md_check) :=
  bif decide (x ≤ l2) then
   some (.inr ((-1), c64_6))
  else
   zg (g_md_octet l2 a70) (
   zl (w_md_octet l2 a70) (fun v2 =>
   zg (g_md_isThing l2 a65) (
   zl (w_md_isThing l2 a65) (fun v3 =>
   bif decide (v3 = 0) then
    bif decide (v2 = 0) then
     some (.inl (l2 + 1))
    else
     some (.inr (l2, c64_6))
   else
    zg (zin (288 + l2) 315) (
    bif !decide (a65 ((288 + l2).toNatClampNeg) = 0) then
     bif decide (v2 = 0) then
      some (.inl (l2 + 1))
     else
      some (.inr (l2, c64_6))
    else
     zg (zin (240 + l2) 315) (
     bif decide (v2 = (a65 ((240 + l2).toNatClampNeg)) - (a65 ((240 + l2).toNatClampNeg)) / 256 * 256) then
      some (.inl (l2 + 1))
     else
      some (.inr (l2, c64_6))))))))
def f_md_check_28 (x : Int32) (a65 : Nat → Int32) (a70 : Nat → Int32) (c64_6 : Int32) : U_md_check_28 → Option (U_md_check_28 ⊕ T_md_check) := fun s => b_md_check_28 x a65 a70 c64_6 s
noncomputable def l_md_check_28 (x : Int32) (a65 : Nat → Int32) (a70 : Nat → Int32) (c64_6 : Int32) (l2 : Int32) : Option T_md_check := zlp (f_md_check_28 x a65 a70 c64_6) l2
noncomputable def q_md_check (x : Int32) (a65 : Nat → Int32) (a70 : Nat → Int32) (f64_6 : Int32) : Option T_md_check :=
  zl (w_md_in x 0 24) (fun v1 =>
  bif decide (v1 = 0) then
   some ((-2), f64_6)
  else
   bif decide (x ≤ f64_6) then
    l_md_check_28 x a65 a70 0 0
   else
    some ((-2), f64_6))
def P_md_check (Q : Int32 → (Nat → Int32) → (Nat → Int32) → Int32 → Option (Int32 × Int32)) : zSp := fun as g => match as with
  | [.ref a, .int x] => bif Nat.beq a 64 then zpe (Q x (g.1 65) (g.1 70) (g.2.1 64 6)) (fun t => (some (.int (t.1)), (g.1, (zuf g.2.1 64 6 t.2), g.2.2))) else none
  | _ => none
noncomputable abbrev S_md_check : zSp := P_md_check q_md_check
theorem hF1_md_check (F : Nat → Nat → Int32) : F = (zuf F 64 6 (F 64 6)) := zufk_ix F [] [((64, 6), none)] rfl
theorem hF0_md_check (F : Nat → Nat → Int32) (w0 : Int32) : (zuf F 64 6 w0) = (zuf F 64 6 w0) := zufk_ix F [((64, 6), w0)] [((64, 6), some 0)] rfl
def O_md_check (ar fi : Nat → Nat → Int32) (m1 : Nat) (m2 : Nat) (m3 : Nat) (m4 : Nat) (m5 : Nat) (t : T_md_check) : zO2 := match t with
  | (t0, t1) => (some (.int (t0)), (ar, (zuf fi 64 6 t1), (m1, m2, m3, m4, m5)))
def M_md_check_28 (X : Nat × (Nat → Int32)) (E : zTE) (ar fi : Nat → Nat → Int32) (m1 : Nat) (m2 : Nat) (m3 : Nat) (m4 : Nat) (m5 : Nat) (x : Int32) (c64_6 : Int32) (o : zO2) (s : U_md_check_28) : Prop := zR2 X zFT E zc_245 28 [.ref 64, .int x, .int s] [] (ar, (zuf fi 64 6 c64_6), (m1, m2, m3, m4, m5)) o
set_option maxRecDepth 1000000 in
theorem t28_md_check {X : Nat × (Nat → Int32)} {ar fi : Nat → Nat → Int32} {m1 m2 m3 m4 m5 : Nat} {x : Int32} {l2 : Int32} {c64_6 : Int32} {W_md_in : Int32 → Int32 → Int32 → Int32} {G_md_octet : Int32 → (Nat → Int32) → Bool} {W_md_octet : Int32 → (Nat → Int32) → Int32} {G_md_isThing : Int32 → (Nat → Int32) → Bool} {W_md_isThing : Int32 → (Nat → Int32) → Int32} : zseg X zFT (zEx 143 (P_md_in W_md_in) (zEx 157 (P_md_octet G_md_octet W_md_octet) (zEx 153 (P_md_isThing G_md_isThing W_md_isThing) zE0))) zc_245 (fun p => Nat.beq p 28) 400 28 [.ref 64, .int x, .int l2] [] (ar, (zuf fi 64 6 c64_6), (m1, m2, m3, m4, m5)) = (
  bif decide (x ≤ l2) then
   some (.inr (some (.int (-1)), (ar, (zuf fi 64 6 c64_6), (m1, m2, m3, m4, m5))))
  else
   zg (G_md_octet l2 (ar 70)) (
   zl (W_md_octet l2 (ar 70)) (fun v2 =>
   zg (G_md_isThing l2 (ar 65)) (
   zl (W_md_isThing l2 (ar 65)) (fun v3 =>
   bif decide (v3 = 0) then
    bif decide (v2 = 0) then
     some (.inl (28, [.ref 64, .int x, .int (l2 + 1)], [], (ar, (zuf fi 64 6 c64_6), (m1, m2, m3, m4, m5))))
    else
     some (.inr (some (.int l2), (ar, (zuf fi 64 6 c64_6), (m1, m2, m3, m4, m5))))
   else
    zg (Nat.beq 16 16 && (zin (288 + l2) 315)) (
    bif !decide ((ar 65) ((288 + l2).toNatClampNeg) = 0) then
     bif decide (v2 = 0) then
      some (.inl (28, [.ref 64, .int x, .int (l2 + 1)], [], (ar, (zuf fi 64 6 c64_6), (m1, m2, m3, m4, m5))))
     else
      some (.inr (some (.int l2), (ar, (zuf fi 64 6 c64_6), (m1, m2, m3, m4, m5))))
    else
     zg (Nat.beq 16 16 && (zin (240 + l2) 315)) (
     zg (!decide ((256 : Int32) = 0)) (
     bif decide (v2 = ((ar 65) ((240 + l2).toNatClampNeg)) - ((ar 65) ((240 + l2).toNatClampNeg)) / 256 * 256) then
      some (.inl (28, [.ref 64, .int x, .int (l2 + 1)], [], (ar, (zuf fi 64 6 c64_6), (m1, m2, m3, m4, m5))))
     else
      some (.inr (some (.int l2), (ar, (zuf fi 64 6 c64_6), (m1, m2, m3, m4, m5))))))))))) : Option ((Nat × List Value × List Value × zH2) ⊕ zO2)) := rfl
set_option maxRecDepth 20000 in
theorem k_md_check_28 {X : Nat × (Nat → Int32)} {ar fi : Nat → Nat → Int32} {m1 m2 m3 m4 m5 : Nat} {x : Int32} {c64_6 : Int32} {o : zO2} : ∀ (s : U_md_check_28) (q : U_md_check_28 ⊕ T_md_check), f_md_check_28 x (ar 65) (ar 70) c64_6 s = some q → zq (M_md_check_28 X (zEx 143 S_md_in (zEx 157 S_md_octet (zEx 153 S_md_isThing zE0))) ar fi m1 m2 m3 m4 m5 x c64_6 o) (fun t => O_md_check ar fi m1 m2 m3 m4 m5 t = o) q → M_md_check_28 X (zEx 143 S_md_in (zEx 157 S_md_octet (zEx 153 S_md_isThing zE0))) ar fi m1 m2 m3 m4 m5 x c64_6 o s := by
  intro l2 q h hq
  have h : b_md_check_28 x (ar 65) (ar 70) c64_6 l2 = some q := h
  unfold b_md_check_28 at h
  show zR2 X zFT (zEx 143 S_md_in (zEx 157 S_md_octet (zEx 153 S_md_isThing zE0))) zc_245 28 [.ref 64, .int x, .int l2] [] (ar, (zuf fi 64 6 c64_6), (m1, m2, m3, m4, m5)) o
  refine zT_seg t28_md_check ?_
  obtain ⟨TT, hTT⟩ : ∃ T, T = zT X zFT (zEx 143 S_md_in (zEx 157 S_md_octet (zEx 153 S_md_isThing zE0))) zc_245 o := ⟨_, rfl⟩
  rw [← hTT]
  refine zb_el h (fun hb h => zU_t hTT hb ?_) (fun hb h => zU_f hTT hb ?_)
  · rw [hTT]
    have hz := zsi h hq
    refine (zO_mk ?_ ?_).trans hz
    · first | with_reducible rfl | rfl
    · first | with_reducible rfl | exact hF0_md_check _ _
  · refine zg_el h (fun hg h => zU_g hTT hg ?_)
    refine zl_el h (fun h => zU_l hTT ?_)
    refine zg_el h (fun hg h => zU_g hTT hg ?_)
    refine zl_el h (fun h => zU_l hTT ?_)
    refine zb_el h (fun hb h => zU_t hTT hb ?_) (fun hb h => zU_f hTT hb ?_)
    · refine zb_el h (fun hb h => zU_t hTT hb ?_) (fun hb h => zU_f hTT hb ?_)
      · rw [hTT]
        have hz := zsi h hq
        refine zR2_hp ?_ ?_ hz
        · first | with_reducible rfl | rfl
        · first | with_reducible rfl | exact hF0_md_check _ _
      · rw [hTT]
        have hz := zsi h hq
        refine (zO_mk ?_ ?_).trans hz
        · first | with_reducible rfl | rfl
        · first | with_reducible rfl | exact hF0_md_check _ _
    · refine zg_el h (fun hg h => zU_ga hTT hg ?_)
      refine zb_el h (fun hb h => zU_t hTT hb ?_) (fun hb h => zU_f hTT hb ?_)
      · refine zb_el h (fun hb h => zU_t hTT hb ?_) (fun hb h => zU_f hTT hb ?_)
        · rw [hTT]
          have hz := zsi h hq
          refine zR2_hp ?_ ?_ hz
          · first | with_reducible rfl | rfl
          · first | with_reducible rfl | exact hF0_md_check _ _
        · rw [hTT]
          have hz := zsi h hq
          refine (zO_mk ?_ ?_).trans hz
          · first | with_reducible rfl | rfl
          · first | with_reducible rfl | exact hF0_md_check _ _
      · refine zg_el h (fun hg h => zU_ga hTT hg ?_)
        refine zU_g hTT rfl ?_
        refine zb_el h (fun hb h => zU_t hTT hb ?_) (fun hb h => zU_f hTT hb ?_)
        · rw [hTT]
          have hz := zsi h hq
          refine zR2_hp ?_ ?_ hz
          · first | with_reducible rfl | rfl
          · first | with_reducible rfl | exact hF0_md_check _ _
        · rw [hTT]
          have hz := zsi h hq
          refine (zO_mk ?_ ?_).trans hz
          · first | with_reducible rfl | rfl
          · first | with_reducible rfl | exact hF0_md_check _ _
set_option maxRecDepth 1000000 in
theorem t_md_check {X : Nat × (Nat → Int32)} {ar fi : Nat → Nat → Int32} {m1 m2 m3 m4 m5 : Nat} {x : Int32} {W_md_in : Int32 → Int32 → Int32 → Int32} {G_md_octet : Int32 → (Nat → Int32) → Bool} {W_md_octet : Int32 → (Nat → Int32) → Int32} {G_md_isThing : Int32 → (Nat → Int32) → Bool} {W_md_isThing : Int32 → (Nat → Int32) → Int32} : zseg X zFT (zEx 143 (P_md_in W_md_in) (zEx 157 (P_md_octet G_md_octet W_md_octet) (zEx 153 (P_md_isThing G_md_isThing W_md_isThing) zE0))) zc_245 (fun p => Nat.beq p 28) 400 0 [.ref 64, .int x] [] (ar, fi, (m1, m2, m3, m4, m5)) = (
  zl (W_md_in x 0 24) (fun v1 =>
  bif decide (v1 = 0) then
   some (.inr (some (.int (-2)), (ar, fi, (m1, m2, m3, m4, m5))))
  else
   bif decide (x ≤ fi 64 6) then
    some (.inl (28, [.ref 64, .int x, .int 0], [], (ar, (zuf fi 64 6 0), (m1, m2, m3, m4, m5))))
   else
    some (.inr (some (.int (-2)), (ar, fi, (m1, m2, m3, m4, m5))))) : Option ((Nat × List Value × List Value × zH2) ⊕ zO2)) := by with_unfolding_all rfl
set_option maxRecDepth 20000 in
theorem e_md_check {X : Nat × (Nat → Int32)} {ar fi : Nat → Nat → Int32} {m1 m2 m3 m4 m5 : Nat} {x : Int32} {o : zO2} : ∀ (q : T_md_check), q_md_check x (ar 65) (ar 70) (fi 64 6) = some q → (fun t => O_md_check ar fi m1 m2 m3 m4 m5 t = o) q → zR2 X zFT (zEx 143 S_md_in (zEx 157 S_md_octet (zEx 153 S_md_isThing zE0))) zc_245 0 [.ref 64, .int x] [] (ar, fi, (m1, m2, m3, m4, m5)) o := by
  intro q h hq
  unfold q_md_check at h
  refine zT_seg t_md_check ?_
  obtain ⟨TT, hTT⟩ : ∃ T, T = zT X zFT (zEx 143 S_md_in (zEx 157 S_md_octet (zEx 153 S_md_isThing zE0))) zc_245 o := ⟨_, rfl⟩
  rw [← hTT]
  refine zl_el h (fun h => zU_l hTT ?_)
  refine zb_el h (fun hb h => zU_t hTT hb ?_) (fun hb h => zU_f hTT hb ?_)
  · rw [hTT]
    have hz := zsi (P := (fun t => O_md_check ar fi m1 m2 m3 m4 m5 t = o)) h hq
    refine (zO_mk ?_ ?_).trans hz
    · first | with_reducible rfl | rfl
    · first | with_reducible rfl | exact hF1_md_check _
  · refine zb_el h (fun hb h => zU_t hTT hb ?_) (fun hb h => zU_f hTT hb ?_)
    · rw [hTT]
      refine zR2_hp ?_ ?_ (zlp_K k_md_check_28 h hq)
      · first | with_reducible rfl | rfl
      · first | with_reducible rfl | exact hF0_md_check _ _
    · rw [hTT]
      have hz := zsi (P := (fun t => O_md_check ar fi m1 m2 m3 m4 m5 t = o)) h hq
      refine (zO_mk ?_ ?_).trans hz
      · first | with_reducible rfl | rfl
      · first | with_reducible rfl | exact hF1_md_check _
theorem ok_md_check (X : Nat × (Nat → Int32)) : zOkS X 245 S_md_check 3 := zOkS_new (zOkE_cons (ok_md_in X) (by decide) (zOkE_cons (ok_md_octet X) (by decide) (zOkE_cons (ok_md_isThing X) (by decide) (zOkE_nil X 2)))) (by
  intro args g o h
  obtain ⟨ar, fi, m1, m2, m3, m4, m5⟩ := g
  unfold S_md_check P_md_check at h
  split at h
  · refine zb_el h (fun hI0 k0 => ?_) (fun _ h10 => ?_)
    · try simp only [Bool.and_eq_true] at hI0
      have j0 := hI0
      have e0 := Nat.eq_of_beq_eq_true j0
      subst e0
      exact zpe_el k0 (fun t ht ho => by obtain ⟨t0, t1⟩ := t; exact e_md_check _ ht ho)
    · cases h10
  · cases h)
