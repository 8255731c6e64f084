abbrev T_md_readsWithin : Type := Int32 × Int32 × Int32 × Int32
abbrev U_md_readsWithin_27 : Type := Int32 × Int32
def b_md_readsWithin_27 (x : Int32) (a70 : Nat → Int32) (f64_8 : Int32) (f64_9 : Int32) (l2 : Int32) (c64_7 : Int32) (c64_10 : Int32) : Option (U_md_readsWithin_27 ⊕ T_md_readsWithin) :=
  zg (g_md_isDigit (f64_8) c64_7 a70) (
  zl (w_md_isDigit (f64_8) c64_7 a70) (fun v4 =>
  bif decide (v4 = 0) then
   bif decide (c64_10 ≤ x) then
    some (.inr (1, c64_7, f64_9, c64_10))
   else
    zl (w_md_wrongAt 3 l2) (fun v5 =>
    zl (f0_md_wrongAt 3 l2) (fun v6 =>
    bif decide (v5 = 0) then
     some (.inr (0, c64_7, v6, c64_10))
    else
     some (.inr (1, c64_7, v6, c64_10))))
  else
   bif !decide (c64_7 = l2 + 4) then
    zg (g_md_here (f64_8) c64_7 a70) (
    zl (w_md_here (f64_8) c64_7 a70) (fun v7 =>
    some (.inl (c64_7 + 1, ((10 * c64_10) + v7) - 48))))
   else
    zl (w_md_wrongAt 2 c64_7) (fun v8 =>
    zl (f0_md_wrongAt 2 c64_7) (fun v9 =>
    zg (decide (v8 = 0) || decide (v8 = 1)) (
    some (.inr (v8, c64_7, v9, c64_10)))))))
def f_md_readsWithin_27 (x : Int32) (a70 : Nat → Int32) (f64_8 : Int32) (f64_9 : Int32) (l2 : Int32) : U_md_readsWithin_27 → Option (U_md_readsWithin_27 ⊕ T_md_readsWithin) := fun s => b_md_readsWithin_27 x a70 f64_8 f64_9 l2 s.1 s.2
noncomputable def l_md_readsWithin_27 (x : Int32) (a70 : Nat → Int32) (f64_8 : Int32) (f64_9 : Int32) (l2 : Int32) (c64_7 : Int32) (c64_10 : Int32) : Option T_md_readsWithin := zlp (f_md_readsWithin_27 x a70 f64_8 f64_9 l2) (c64_7, c64_10)
noncomputable def q_md_readsWithin (x : Int32) (a70 : Nat → Int32) (f64_7 : Int32) (f64_8 : Int32) (f64_9 : Int32) (f64_10 : Int32) : Option T_md_readsWithin :=
  zg (g_md_isDigit (f64_8) (f64_7) a70) (
  zl (w_md_isDigit (f64_8) (f64_7) a70) (fun v1 =>
  bif !decide (v1 = 0) then
   l_md_readsWithin_27 x a70 f64_8 f64_9 (f64_7) (f64_7) 0
  else
   zl (w_md_wrongAt 1 (f64_7)) (fun v2 =>
   zl (f0_md_wrongAt 1 (f64_7)) (fun v3 =>
   zg (decide (v2 = 0) || decide (v2 = 1)) (
   some (v2, f64_7, v3, f64_10))))))
def P_md_readsWithin (Q : Int32 → (Nat → Int32) → Int32 → Int32 → Int32 → Int32 → Option (Int32 × Int32 × Int32 × Int32)) : zSp := fun as g => match as with
  | [.ref a, .int x] => bif Nat.beq a 64 then zpe (Q x (g.1 70) (g.2.1 64 7) (g.2.1 64 8) (g.2.1 64 9) (g.2.1 64 10)) (fun t => (some (.int (t.1)), (g.1, (zuf (zuf (zuf g.2.1 64 7 t.2.1) 64 9 t.2.2.1) 64 10 t.2.2.2), g.2.2))) else none
  | _ => none
noncomputable abbrev S_md_readsWithin : zSp := P_md_readsWithin q_md_readsWithin
theorem hF4_md_readsWithin (F : Nat → Nat → Int32) (w0 : Int32) : (zuf F 64 9 w0) = (zuf (zuf (zuf F 64 7 (F 64 7)) 64 9 w0) 64 10 (F 64 10)) := zufk_ix F [((64, 9), w0)] [((64, 7), none), ((64, 9), some 0), ((64, 10), none)] rfl
theorem hF3_md_readsWithin (F : Nat → Nat → Int32) (w0 : Int32) : (zuf F 64 10 w0) = (zuf (zuf F 64 7 (F 64 7)) 64 10 w0) := zufk_ix F [((64, 10), w0)] [((64, 7), none), ((64, 10), some 0)] rfl
theorem hF2_md_readsWithin (F : Nat → Nat → Int32) (w0 w1 w2 w3 : Int32) : (zuf (zuf (zuf (zuf F 64 7 w0) 64 10 w1) 64 10 w2) 64 7 w3) = (zuf (zuf F 64 7 w3) 64 10 w2) := zufk_ix F [((64, 7), w0), ((64, 10), w1), ((64, 10), w2), ((64, 7), w3)] [((64, 7), some 3), ((64, 10), some 2)] rfl
theorem hF1_md_readsWithin (F : Nat → Nat → Int32) (w0 w1 w2 : Int32) : (zuf (zuf (zuf F 64 7 w0) 64 10 w1) 64 9 w2) = (zuf (zuf (zuf F 64 7 w0) 64 9 w2) 64 10 w1) := zufk_ix F [((64, 7), w0), ((64, 10), w1), ((64, 9), w2)] [((64, 7), some 0), ((64, 9), some 2), ((64, 10), some 1)] rfl
theorem hF0_md_readsWithin (F : Nat → Nat → Int32) (w0 w1 : Int32) : (zuf (zuf F 64 7 w0) 64 10 w1) = (zuf (zuf (zuf F 64 7 w0) 64 9 (F 64 9)) 64 10 w1) := zufk_ix F [((64, 7), w0), ((64, 10), w1)] [((64, 7), some 0), ((64, 9), none), ((64, 10), some 1)] rfl
def O_md_readsWithin (ar fi : Nat → Nat → Int32) (m1 : Nat) (m2 : Nat) (m3 : Nat) (m4 : Nat) (m5 : Nat) (t : T_md_readsWithin) : zO2 := match t with
  | (t0, t1, t2, t3) => (some (.int (t0)), (ar, (zuf (zuf (zuf fi 64 7 t1) 64 9 t2) 64 10 t3), (m1, m2, m3, m4, m5)))
def M_md_readsWithin_27 (X : Nat × (Nat → Int32)) (E : zTE) (ar fi : Nat → Nat → Int32) (m1 : Nat) (m2 : Nat) (m3 : Nat) (m4 : Nat) (m5 : Nat) (x : Int32) (l2 : Int32) (o : zO2) (s : U_md_readsWithin_27) : Prop := match s with
  | (c64_7, c64_10) => zR2 X zFT E zc_189 27 [.ref 64, .int x, .int l2] [] (ar, (zuf (zuf fi 64 7 c64_7) 64 10 c64_10), (m1, m2, m3, m4, m5)) o
set_option maxRecDepth 1000000 in
theorem t27_md_readsWithin {X : Nat × (Nat → Int32)} {ar fi : Nat → Nat → Int32} {m1 m2 m3 m4 m5 : Nat} {x : Int32} {l2 : Int32} {c64_7 : Int32} {c64_10 : Int32} {G_md_isDigit : Int32 → Int32 → (Nat → Int32) → Bool} {W_md_isDigit : Int32 → Int32 → (Nat → Int32) → Int32} {W_md_wrongAt : Int32 → Int32 → Int32} {F0_md_wrongAt : Int32 → Int32 → Int32} {G_md_here : Int32 → Int32 → (Nat → Int32) → Bool} {W_md_here : Int32 → Int32 → (Nat → Int32) → Int32} : zseg X zFT (zEx 159 (P_md_isDigit G_md_isDigit W_md_isDigit) (zEx 160 (P_md_wrongAt W_md_wrongAt F0_md_wrongAt) (zEx 158 (P_md_here G_md_here W_md_here) zE0))) zc_189 (fun p => Nat.beq p 27) 400 27 [.ref 64, .int x, .int l2] [] (ar, (zuf (zuf fi 64 7 c64_7) 64 10 c64_10), (m1, m2, m3, m4, m5)) = (
  zg (G_md_isDigit (fi 64 8) c64_7 (ar 70)) (
  zl (W_md_isDigit (fi 64 8) c64_7 (ar 70)) (fun v4 =>
  bif decide (v4 = 0) then
   bif decide (c64_10 ≤ x) then
    some (.inr (some (.int 1), (ar, (zuf (zuf fi 64 7 c64_7) 64 10 c64_10), (m1, m2, m3, m4, m5))))
   else
    zl (W_md_wrongAt 3 l2) (fun v5 =>
    zl (F0_md_wrongAt 3 l2) (fun v6 =>
    bif decide (v5 = 0) then
     some (.inr (some (.int 0), (ar, (zuf (zuf (zuf fi 64 7 c64_7) 64 10 c64_10) 64 9 v6), (m1, m2, m3, m4, m5))))
    else
     some (.inr (some (.int 1), (ar, (zuf (zuf (zuf fi 64 7 c64_7) 64 10 c64_10) 64 9 v6), (m1, m2, m3, m4, m5))))))
  else
   bif !decide (c64_7 = l2 + 4) then
    zg (G_md_here (fi 64 8) c64_7 (ar 70)) (
    zl (W_md_here (fi 64 8) c64_7 (ar 70)) (fun v7 =>
    some (.inl (27, [.ref 64, .int x, .int l2], [], (ar, (zuf (zuf (zuf (zuf fi 64 7 c64_7) 64 10 c64_10) 64 10 (((10 * c64_10) + v7) - 48)) 64 7 (c64_7 + 1)), (m1, m2, m3, m4, m5))))))
   else
    zl (W_md_wrongAt 2 c64_7) (fun v8 =>
    zl (F0_md_wrongAt 2 c64_7) (fun v9 =>
    zg (Nat.beq 1 0 || (decide (v8 = 0) || decide (v8 = 1))) (
    some (.inr (some (.int v8), (ar, (zuf (zuf (zuf fi 64 7 c64_7) 64 10 c64_10) 64 9 v9), (m1, m2, m3, m4, m5))))))))) : Option ((Nat × List Value × List Value × zH2) ⊕ zO2)) := by with_unfolding_all rfl
set_option maxRecDepth 20000 in
theorem k_md_readsWithin_27 {X : Nat × (Nat → Int32)} {ar fi : Nat → Nat → Int32} {m1 m2 m3 m4 m5 : Nat} {x : Int32} {l2 : Int32} {o : zO2} : ∀ (s : U_md_readsWithin_27) (q : U_md_readsWithin_27 ⊕ T_md_readsWithin), f_md_readsWithin_27 x (ar 70) (fi 64 8) (fi 64 9) l2 s = some q → zq (M_md_readsWithin_27 X (zEx 159 S_md_isDigit (zEx 160 S_md_wrongAt (zEx 158 S_md_here zE0))) ar fi m1 m2 m3 m4 m5 x l2 o) (fun t => O_md_readsWithin ar fi m1 m2 m3 m4 m5 t = o) q → M_md_readsWithin_27 X (zEx 159 S_md_isDigit (zEx 160 S_md_wrongAt (zEx 158 S_md_here zE0))) ar fi m1 m2 m3 m4 m5 x l2 o s := by
  intro s q h hq
  obtain ⟨c64_7, c64_10⟩ := s
  have h : b_md_readsWithin_27 x (ar 70) (fi 64 8) (fi 64 9) l2 c64_7 c64_10 = some q := h
  unfold b_md_readsWithin_27 at h
  show zR2 X zFT (zEx 159 S_md_isDigit (zEx 160 S_md_wrongAt (zEx 158 S_md_here zE0))) zc_189 27 [.ref 64, .int x, .int l2] [] (ar, (zuf (zuf fi 64 7 c64_7) 64 10 c64_10), (m1, m2, m3, m4, m5)) o
  refine zT_seg t27_md_readsWithin ?_
  obtain ⟨TT, hTT⟩ : ∃ T, T = zT X zFT (zEx 159 S_md_isDigit (zEx 160 S_md_wrongAt (zEx 158 S_md_here zE0))) zc_189 o := ⟨_, rfl⟩
  rw [← hTT]
  refine zg_el h (fun hg h => zU_g hTT hg ?_)
  refine zl_el h (fun h => zU_l hTT ?_)
  refine zb_el h (fun hb h => zU_t hTT hb ?_) (fun hb h => zU_f hTT hb ?_)
  · refine zb_el h (fun hb h => zU_t hTT hb ?_) (fun hb h => zU_f hTT hb ?_)
    · rw [hTT]
      have hz := zsi h hq
      refine (zO_mk ?_ ?_).trans hz
      · first | with_reducible rfl | rfl
      · first | with_reducible rfl | exact hF0_md_readsWithin _ _ _
    · refine zl_el h (fun h => zU_l hTT ?_)
      refine zl_el h (fun h => zU_l hTT ?_)
      refine zb_el h (fun hb h => zU_t hTT hb ?_) (fun hb h => zU_f hTT hb ?_)
      · rw [hTT]
        have hz := zsi h hq
        refine (zO_mk ?_ ?_).trans hz
        · first | with_reducible rfl | rfl
        · first | with_reducible rfl | exact hF1_md_readsWithin _ _ _ _
      · rw [hTT]
        have hz := zsi h hq
        refine (zO_mk ?_ ?_).trans hz
        · first | with_reducible rfl | rfl
        · first | with_reducible rfl | exact hF1_md_readsWithin _ _ _ _
  · refine zb_el h (fun hb h => zU_t hTT hb ?_) (fun hb h => zU_f hTT hb ?_)
    · refine zg_el h (fun hg h => zU_g hTT hg ?_)
      refine zl_el h (fun h => zU_l hTT ?_)
      rw [hTT]
      have hz := zsi h hq
      refine zR2_hp ?_ ?_ hz
      · first | with_reducible rfl | rfl
      · first | with_reducible rfl | exact hF2_md_readsWithin _ _ _ _ _
    · refine zl_el h (fun h => zU_l hTT ?_)
      refine zl_el h (fun h => zU_l hTT ?_)
      refine zg_el h (fun hg h => zU_gr hTT hg ?_)
      rw [hTT]
      have hz := zsi h hq
      refine (zO_mk ?_ ?_).trans hz
      · first | with_reducible rfl | rfl
      · first | with_reducible rfl | exact hF1_md_readsWithin _ _ _ _
set_option maxRecDepth 1000000 in
theorem t_md_readsWithin {X : Nat × (Nat → Int32)} {ar fi : Nat → Nat → Int32} {m1 m2 m3 m4 m5 : Nat} {x : Int32} {G_md_isDigit : Int32 → Int32 → (Nat → Int32) → Bool} {W_md_isDigit : Int32 → Int32 → (Nat → Int32) → Int32} {W_md_wrongAt : Int32 → Int32 → Int32} {F0_md_wrongAt : Int32 → Int32 → Int32} {G_md_here : Int32 → Int32 → (Nat → Int32) → Bool} {W_md_here : Int32 → Int32 → (Nat → Int32) → Int32} : zseg X zFT (zEx 159 (P_md_isDigit G_md_isDigit W_md_isDigit) (zEx 160 (P_md_wrongAt W_md_wrongAt F0_md_wrongAt) (zEx 158 (P_md_here G_md_here W_md_here) zE0))) zc_189 (fun p => Nat.beq p 27) 400 0 [.ref 64, .int x] [] (ar, fi, (m1, m2, m3, m4, m5)) = (
  zg (G_md_isDigit (fi 64 8) (fi 64 7) (ar 70)) (
  zl (W_md_isDigit (fi 64 8) (fi 64 7) (ar 70)) (fun v1 =>
  bif !decide (v1 = 0) then
   some (.inl (27, [.ref 64, .int x, .int (fi 64 7)], [], (ar, (zuf fi 64 10 0), (m1, m2, m3, m4, m5))))
  else
   zl (W_md_wrongAt 1 (fi 64 7)) (fun v2 =>
   zl (F0_md_wrongAt 1 (fi 64 7)) (fun v3 =>
   zg (Nat.beq 1 0 || (decide (v2 = 0) || decide (v2 = 1))) (
   some (.inr (some (.int v2), (ar, (zuf fi 64 9 v3), (m1, m2, m3, m4, m5))))))))) : Option ((Nat × List Value × List Value × zH2) ⊕ zO2)) := by with_unfolding_all rfl
set_option maxRecDepth 20000 in
theorem e_md_readsWithin {X : Nat × (Nat → Int32)} {ar fi : Nat → Nat → Int32} {m1 m2 m3 m4 m5 : Nat} {x : Int32} {o : zO2} : ∀ (q : T_md_readsWithin), q_md_readsWithin x (ar 70) (fi 64 7) (fi 64 8) (fi 64 9) (fi 64 10) = some q → (fun t => O_md_readsWithin ar fi m1 m2 m3 m4 m5 t = o) q → zR2 X zFT (zEx 159 S_md_isDigit (zEx 160 S_md_wrongAt (zEx 158 S_md_here zE0))) zc_189 0 [.ref 64, .int x] [] (ar, fi, (m1, m2, m3, m4, m5)) o := by
  intro q h hq
  unfold q_md_readsWithin at h
  refine zT_seg t_md_readsWithin ?_
  obtain ⟨TT, hTT⟩ : ∃ T, T = zT X zFT (zEx 159 S_md_isDigit (zEx 160 S_md_wrongAt (zEx 158 S_md_here zE0))) zc_189 o := ⟨_, rfl⟩
  rw [← hTT]
  refine zg_el h (fun hg h => zU_g hTT hg ?_)
  refine zl_el h (fun h => zU_l hTT ?_)
  refine zb_el h (fun hb h => zU_t hTT hb ?_) (fun hb h => zU_f hTT hb ?_)
  · rw [hTT]
    refine zR2_hp ?_ ?_ (zlp_K k_md_readsWithin_27 h hq)
    · first | with_reducible rfl | rfl
    · first | with_reducible rfl | exact hF3_md_readsWithin _ _
  · refine zl_el h (fun h => zU_l hTT ?_)
    refine zl_el h (fun h => zU_l hTT ?_)
    refine zg_el h (fun hg h => zU_gr hTT hg ?_)
    rw [hTT]
    have hz := zsi (P := (fun t => O_md_readsWithin ar fi m1 m2 m3 m4 m5 t = o)) h hq
    refine (zO_mk ?_ ?_).trans hz
    · first | with_reducible rfl | rfl
    · first | with_reducible rfl | exact hF4_md_readsWithin _ _
theorem ok_md_readsWithin (X : Nat × (Nat → Int32)) : zOkS X 189 S_md_readsWithin 3 := zOkS_new (zOkE_cons (ok_md_isDigit X) (by decide) (zOkE_cons (ok_md_wrongAt X) (by decide) (zOkE_cons (ok_md_here X) (by decide) (zOkE_nil X 2)))) (by
  intro args g o h
  obtain ⟨ar, fi, m1, m2, m3, m4, m5⟩ := g
  unfold S_md_readsWithin P_md_readsWithin at h
  split at h
  · refine zb_el h (fun hI0 k0 => ?_) (fun _ h10 => ?_)
    · try simp only [Bool.and_eq_true] at hI0
      have j0 := hI0
      have e0 := Nat.eq_of_beq_eq_true j0
      subst e0
      exact zpe_el k0 (fun t ht ho => by obtain ⟨t0, t1, t2, t3⟩ := t; exact e_md_readsWithin _ ht ho)
    · cases h10
  · cases h)
