abbrev T_md_breaks : Type := Int32 × (Nat → Int32) × (Nat → Int32) × (Nat → Int32) × (Nat → Int32) × (Nat → Int32) × Int32
abbrev U_md_breaks_42 : Type := Int32
noncomputable def b_md_breaks_42 (x : Int32) (y : Int32) (a68 : Nat → Int32) (a87 : Nat → Int32) (a88 : Nat → Int32) (a89 : Nat → Int32) (a90 : Nat → Int32) (a91 : Nat → Int32) (f64_40 : Int32) (l3 : Int32) : Option (U_md_breaks_42 ⊕ T_md_breaks) :=
  bif decide (4 ≤ l3) then
   zbd (q_md_waysApart x y a68 a87 a88 a89 a90 a91 (f64_40)) (fun v5 =>
   some (.inr ((v5.1), ((v5.2.1)), ((v5.2.2.1)), ((v5.2.2.2.1)), ((v5.2.2.2.2.1)), ((v5.2.2.2.2.2.1)), (v5.2.2.2.2.2.2))))
  else
   zl (w_md_beside x l3) (fun v6 =>
   bif !decide (v6 = y) then
    some (.inl (l3 + 1))
   else
    some (.inr ((-2), a87, a88, a89, a90, a91, f64_40)))
noncomputable def f_md_breaks_42 (x : Int32) (y : Int32) (a68 : Nat → Int32) (a87 : Nat → Int32) (a88 : Nat → Int32) (a89 : Nat → Int32) (a90 : Nat → Int32) (a91 : Nat → Int32) (f64_40 : Int32) : U_md_breaks_42 → Option (U_md_breaks_42 ⊕ T_md_breaks) := fun s => b_md_breaks_42 x y a68 a87 a88 a89 a90 a91 f64_40 s
noncomputable def l_md_breaks_42 (x : Int32) (y : Int32) (a68 : Nat → Int32) (a87 : Nat → Int32) (a88 : Nat → Int32) (a89 : Nat → Int32) (a90 : Nat → Int32) (a91 : Nat → Int32) (f64_40 : Int32) (l3 : Int32) : Option T_md_breaks := zlp (f_md_breaks_42 x y a68 a87 a88 a89 a90 a91 f64_40) l3
noncomputable def q_md_breaks (x : Int32) (y : Int32) (a68 : Nat → Int32) (a87 : Nat → Int32) (a88 : Nat → Int32) (a89 : Nat → Int32) (a90 : Nat → Int32) (a91 : Nat → Int32) (f64_40 : Int32) : Option T_md_breaks :=
  zg (g_md_isPlace x) (
  zl (w_md_isPlace x) (fun v1 =>
  bif decide (v1 = 0) then
   some ((-1), a87, a88, a89, a90, a91, f64_40)
  else
   zg (g_md_isPlace y) (
   zl (w_md_isPlace y) (fun v2 =>
   bif decide (v2 = 0) then
    some ((-1), a87, a88, a89, a90, a91, f64_40)
   else
    bif !decide (x = y) then
     zg (g_md_isWood x a68) (
     zl (w_md_isWood x a68) (fun v3 =>
     bif decide (v3 = 0) then
      some ((-3), a87, a88, a89, a90, a91, f64_40)
     else
      zg (g_md_isWood y a68) (
      zl (w_md_isWood y a68) (fun v4 =>
      bif !decide (v4 = 0) then
       l_md_breaks_42 x y a68 a87 a88 a89 a90 a91 f64_40 0
      else
       some ((-3), a87, a88, a89, a90, a91, f64_40)))))
    else
     some ((-1), a87, a88, a89, a90, a91, f64_40)))))
def P_md_breaks (Q : Int32 → Int32 → (Nat → Int32) → (Nat → Int32) → (Nat → Int32) → (Nat → Int32) → (Nat → Int32) → (Nat → Int32) → Int32 → Option (Int32 × (Nat → Int32) × (Nat → Int32) × (Nat → Int32) × (Nat → Int32) × (Nat → Int32) × Int32)) : zSp := fun as g => match as with
  | [.ref a, .int x, .int y] => bif Nat.beq a 64 then zpe (Q x y (g.1 68) (g.1 87) (g.1 88) (g.1 89) (g.1 90) (g.1 91) (g.2.1 64 40)) (fun t => (some (.int (t.1)), ((zua (zua (zua (zua (zua g.1 87 t.2.1) 88 t.2.2.1) 89 t.2.2.2.1) 90 t.2.2.2.2.1) 91 t.2.2.2.2.2.1), (zuf g.2.1 64 40 t.2.2.2.2.2.2), g.2.2))) else none
  | _ => none
noncomputable abbrev S_md_breaks : zSp := P_md_breaks q_md_breaks
theorem hF3_md_breaks (F : Nat → Nat → Int32) : F = (zuf F 64 40 (F 64 40)) := zufk_ix F [] [((64, 40), none)] rfl
theorem hA2_md_breaks (F : Nat → Nat → Int32) : F = (zua (zua (zua (zua (zua F 87 (F 87)) 88 (F 88)) 89 (F 89)) 90 (F 90)) 91 (F 91)) := zuak_ix F [] [(87, none), (88, none), (89, none), (90, none), (91, none)] rfl
theorem hF1_md_breaks (F : Nat → Nat → Int32) (w0 : Int32) : (zuf F 64 40 w0) = (zuf F 64 40 w0) := zufk_ix F [((64, 40), w0)] [((64, 40), some 0)] rfl
theorem hA0_md_breaks (F : Nat → Nat → Int32) (w0 w1 w2 w3 w4 : Nat → Int32) : (zua (zua (zua (zua (zua F 87 w0) 88 w1) 89 w2) 90 w3) 91 w4) = (zua (zua (zua (zua (zua F 87 w0) 88 w1) 89 w2) 90 w3) 91 w4) := zuak_ix F [(87, w0), (88, w1), (89, w2), (90, w3), (91, w4)] [(87, some 0), (88, some 1), (89, some 2), (90, some 3), (91, some 4)] rfl
def O_md_breaks (ar fi : Nat → Nat → Int32) (m1 : Nat) (m2 : Nat) (m3 : Nat) (m4 : Nat) (m5 : Nat) (t : T_md_breaks) : zO2 := match t with
  | (t0, t1, t2, t3, t4, t5, t6) => (some (.int (t0)), ((zua (zua (zua (zua (zua ar 87 t1) 88 t2) 89 t3) 90 t4) 91 t5), (zuf fi 64 40 t6), (m1, m2, m3, m4, m5)))
def M_md_breaks_42 (X : Nat × (Nat → Int32)) (E : zTE) (ar fi : Nat → Nat → Int32) (m1 : Nat) (m2 : Nat) (m3 : Nat) (m4 : Nat) (m5 : Nat) (x : Int32) (y : Int32) (o : zO2) (s : U_md_breaks_42) : Prop := zR2 X zFT E zc_228 42 [.ref 64, .int x, .int y, .int s] [] (ar, fi, (m1, m2, m3, m4, m5)) o
set_option maxRecDepth 1000000 in
theorem t42_md_breaks {X : Nat × (Nat → Int32)} {ar fi : Nat → Nat → Int32} {m1 m2 m3 m4 m5 : Nat} {x y : Int32} {l3 : Int32} {G_md_isPlace : Int32 → Bool} {W_md_isPlace : Int32 → Int32} {G_md_isWood : Int32 → (Nat → Int32) → Bool} {W_md_isWood : Int32 → (Nat → Int32) → Int32} {W_md_beside : Int32 → Int32 → Int32} {Q_md_waysApart : Int32 → Int32 → (Nat → Int32) → (Nat → Int32) → (Nat → Int32) → (Nat → Int32) → (Nat → Int32) → (Nat → Int32) → Int32 → Option (Int32 × (Nat → Int32) × (Nat → Int32) × (Nat → Int32) × (Nat → Int32) × (Nat → Int32) × Int32)} : zseg X zFT (zEx 149 (P_md_isPlace G_md_isPlace W_md_isPlace) (zEx 152 (P_md_isWood G_md_isWood W_md_isWood) (zEx 151 (P_md_beside W_md_beside) (zEx 226 (P_md_waysApart Q_md_waysApart) zE0)))) zc_228 (fun p => Nat.beq p 42) 400 42 [.ref 64, .int x, .int y, .int l3] [] (ar, fi, (m1, m2, m3, m4, m5)) = (
  bif decide (4 ≤ l3) then
   zl (Q_md_waysApart x y (ar 68) (ar 87) (ar 88) (ar 89) (ar 90) (ar 91) (fi 64 40)) (fun v5 => zg v5.isSome (
   some (.inr (some (.int (((zgt v5).1))), ((zua (zua (zua (zua (zua ar 87 (((zgt v5).2.1))) 88 (((zgt v5).2.2.1))) 89 (((zgt v5).2.2.2.1))) 90 (((zgt v5).2.2.2.2.1))) 91 (((zgt v5).2.2.2.2.2.1))), (zuf fi 64 40 (((zgt v5).2.2.2.2.2.2))), (m1, m2, m3, m4, m5))))))
  else
   zl (W_md_beside x l3) (fun v6 =>
   bif !decide (v6 = y) then
    some (.inl (42, [.ref 64, .int x, .int y, .int (l3 + 1)], [], (ar, fi, (m1, m2, m3, m4, m5))))
   else
    some (.inr (some (.int (-2)), (ar, fi, (m1, m2, m3, m4, m5))))) : Option ((Nat × List Value × List Value × zH2) ⊕ zO2)) := by with_unfolding_all rfl
set_option maxRecDepth 20000 in
theorem k_md_breaks_42 {X : Nat × (Nat → Int32)} {ar fi : Nat → Nat → Int32} {m1 m2 m3 m4 m5 : Nat} {x y : Int32} {o : zO2} : ∀ (s : U_md_breaks_42) (q : U_md_breaks_42 ⊕ T_md_breaks), f_md_breaks_42 x y (ar 68) (ar 87) (ar 88) (ar 89) (ar 90) (ar 91) (fi 64 40) s = some q → zq (M_md_breaks_42 X (zEx 149 S_md_isPlace (zEx 152 S_md_isWood (zEx 151 S_md_beside (zEx 226 S_md_waysApart zE0)))) ar fi m1 m2 m3 m4 m5 x y o) (fun t => O_md_breaks ar fi m1 m2 m3 m4 m5 t = o) q → M_md_breaks_42 X (zEx 149 S_md_isPlace (zEx 152 S_md_isWood (zEx 151 S_md_beside (zEx 226 S_md_waysApart zE0)))) ar fi m1 m2 m3 m4 m5 x y o s := by
  intro l3 q h hq
  have h : b_md_breaks_42 x y (ar 68) (ar 87) (ar 88) (ar 89) (ar 90) (ar 91) (fi 64 40) l3 = some q := h
  unfold b_md_breaks_42 at h
  show zR2 X zFT (zEx 149 S_md_isPlace (zEx 152 S_md_isWood (zEx 151 S_md_beside (zEx 226 S_md_waysApart zE0)))) zc_228 42 [.ref 64, .int x, .int y, .int l3] [] (ar, fi, (m1, m2, m3, m4, m5)) o
  refine zT_seg t42_md_breaks ?_
  obtain ⟨TT, hTT⟩ : ∃ T, T = zT X zFT (zEx 149 S_md_isPlace (zEx 152 S_md_isWood (zEx 151 S_md_beside (zEx 226 S_md_waysApart zE0)))) zc_228 o := ⟨_, rfl⟩
  rw [← hTT]
  refine zb_el h (fun hb h => zU_t hTT hb ?_) (fun hb h => zU_f hTT hb ?_)
  · refine zbd_el h (fun v5 hv h => zU_c hTT hv ?_)
    rw [hTT]
    have hz := zsi h hq
    refine (zO_mk ?_ ?_).trans hz
    · first | with_reducible rfl | exact hA0_md_breaks _ _ _ _ _ _
    · first | with_reducible rfl | exact hF1_md_breaks _ _
  · refine zl_el h (fun h => zU_l hTT ?_)
    refine zb_el h (fun hb h => zU_t hTT hb ?_) (fun hb h => zU_f hTT hb ?_)
    · rw [hTT]
      have hz := zsi h hq
      refine zR2_hp ?_ ?_ hz
      · first | with_reducible rfl | rfl
      · first | with_reducible rfl | rfl
    · rw [hTT]
      have hz := zsi h hq
      refine (zO_mk ?_ ?_).trans hz
      · first | with_reducible rfl | exact hA2_md_breaks _
      · first | with_reducible rfl | exact hF3_md_breaks _
set_option maxRecDepth 1000000 in
theorem t_md_breaks {X : Nat × (Nat → Int32)} {ar fi : Nat → Nat → Int32} {m1 m2 m3 m4 m5 : Nat} {x y : Int32} {G_md_isPlace : Int32 → Bool} {W_md_isPlace : Int32 → Int32} {G_md_isWood : Int32 → (Nat → Int32) → Bool} {W_md_isWood : Int32 → (Nat → Int32) → Int32} {W_md_beside : Int32 → Int32 → Int32} {Q_md_waysApart : Int32 → Int32 → (Nat → Int32) → (Nat → Int32) → (Nat → Int32) → (Nat → Int32) → (Nat → Int32) → (Nat → Int32) → Int32 → Option (Int32 × (Nat → Int32) × (Nat → Int32) × (Nat → Int32) × (Nat → Int32) × (Nat → Int32) × Int32)} : zseg X zFT (zEx 149 (P_md_isPlace G_md_isPlace W_md_isPlace) (zEx 152 (P_md_isWood G_md_isWood W_md_isWood) (zEx 151 (P_md_beside W_md_beside) (zEx 226 (P_md_waysApart Q_md_waysApart) zE0)))) zc_228 (fun p => Nat.beq p 42) 400 0 [.ref 64, .int x, .int y] [] (ar, fi, (m1, m2, m3, m4, m5)) = (
  zg (G_md_isPlace x) (
  zl (W_md_isPlace x) (fun v1 =>
  bif decide (v1 = 0) then
   some (.inr (some (.int (-1)), (ar, fi, (m1, m2, m3, m4, m5))))
  else
   zg (G_md_isPlace y) (
   zl (W_md_isPlace y) (fun v2 =>
   bif decide (v2 = 0) then
    some (.inr (some (.int (-1)), (ar, fi, (m1, m2, m3, m4, m5))))
   else
    bif !decide (x = y) then
     zg (G_md_isWood x (ar 68)) (
     zl (W_md_isWood x (ar 68)) (fun v3 =>
     bif decide (v3 = 0) then
      some (.inr (some (.int (-3)), (ar, fi, (m1, m2, m3, m4, m5))))
     else
      zg (G_md_isWood y (ar 68)) (
      zl (W_md_isWood y (ar 68)) (fun v4 =>
      bif !decide (v4 = 0) then
       some (.inl (42, [.ref 64, .int x, .int y, .int 0], [], (ar, fi, (m1, m2, m3, m4, m5))))
      else
       some (.inr (some (.int (-3)), (ar, fi, (m1, m2, m3, m4, m5))))))))
    else
     some (.inr (some (.int (-1)), (ar, fi, (m1, m2, m3, m4, m5)))))))) : Option ((Nat × List Value × List Value × zH2) ⊕ zO2)) := by with_unfolding_all rfl
set_option maxRecDepth 20000 in
theorem e_md_breaks {X : Nat × (Nat → Int32)} {ar fi : Nat → Nat → Int32} {m1 m2 m3 m4 m5 : Nat} {x y : Int32} {o : zO2} : ∀ (q : T_md_breaks), q_md_breaks x y (ar 68) (ar 87) (ar 88) (ar 89) (ar 90) (ar 91) (fi 64 40) = some q → (fun t => O_md_breaks ar fi m1 m2 m3 m4 m5 t = o) q → zR2 X zFT (zEx 149 S_md_isPlace (zEx 152 S_md_isWood (zEx 151 S_md_beside (zEx 226 S_md_waysApart zE0)))) zc_228 0 [.ref 64, .int x, .int y] [] (ar, fi, (m1, m2, m3, m4, m5)) o := by
  intro q h hq
  unfold q_md_breaks at h
  refine zT_seg t_md_breaks ?_
  obtain ⟨TT, hTT⟩ : ∃ T, T = zT X zFT (zEx 149 S_md_isPlace (zEx 152 S_md_isWood (zEx 151 S_md_beside (zEx 226 S_md_waysApart zE0)))) zc_228 o := ⟨_, rfl⟩
  rw [← hTT]
  refine zg_el h (fun hg h => zU_g hTT hg ?_)
  refine zl_el h (fun h => zU_l hTT ?_)
  refine zb_el h (fun hb h => zU_t hTT hb ?_) (fun hb h => zU_f hTT hb ?_)
  · rw [hTT]
    have hz := zsi (P := (fun t => O_md_breaks ar fi m1 m2 m3 m4 m5 t = o)) h hq
    refine (zO_mk ?_ ?_).trans hz
    · first | with_reducible rfl | exact hA2_md_breaks _
    · first | with_reducible rfl | exact hF3_md_breaks _
  · refine zg_el h (fun hg h => zU_g hTT hg ?_)
    refine zl_el h (fun h => zU_l hTT ?_)
    refine zb_el h (fun hb h => zU_t hTT hb ?_) (fun hb h => zU_f hTT hb ?_)
    · rw [hTT]
      have hz := zsi (P := (fun t => O_md_breaks ar fi m1 m2 m3 m4 m5 t = o)) h hq
      refine (zO_mk ?_ ?_).trans hz
      · first | with_reducible rfl | exact hA2_md_breaks _
      · first | with_reducible rfl | exact hF3_md_breaks _
    · refine zb_el h (fun hb h => zU_t hTT hb ?_) (fun hb h => zU_f hTT hb ?_)
      · refine zg_el h (fun hg h => zU_g hTT hg ?_)
        refine zl_el h (fun h => zU_l hTT ?_)
        refine zb_el h (fun hb h => zU_t hTT hb ?_) (fun hb h => zU_f hTT hb ?_)
        · rw [hTT]
          have hz := zsi (P := (fun t => O_md_breaks ar fi m1 m2 m3 m4 m5 t = o)) h hq
          refine (zO_mk ?_ ?_).trans hz
          · first | with_reducible rfl | exact hA2_md_breaks _
          · first | with_reducible rfl | exact hF3_md_breaks _
        · refine zg_el h (fun hg h => zU_g hTT hg ?_)
          refine zl_el h (fun h => zU_l hTT ?_)
          refine zb_el h (fun hb h => zU_t hTT hb ?_) (fun hb h => zU_f hTT hb ?_)
          · rw [hTT]
            refine zR2_hp ?_ ?_ (zlp_K k_md_breaks_42 h hq)
            · first | with_reducible rfl | rfl
            · first | with_reducible rfl | rfl
          · rw [hTT]
            have hz := zsi (P := (fun t => O_md_breaks ar fi m1 m2 m3 m4 m5 t = o)) h hq
            refine (zO_mk ?_ ?_).trans hz
            · first | with_reducible rfl | exact hA2_md_breaks _
            · first | with_reducible rfl | exact hF3_md_breaks _
      · rw [hTT]
        have hz := zsi (P := (fun t => O_md_breaks ar fi m1 m2 m3 m4 m5 t = o)) h hq
        refine (zO_mk ?_ ?_).trans hz
        · first | with_reducible rfl | exact hA2_md_breaks _
        · first | with_reducible rfl | exact hF3_md_breaks _
theorem ok_md_breaks (X : Nat × (Nat → Int32)) : zOkS X 228 S_md_breaks 6 := zOkS_new (zOkE_cons (ok_md_isPlace X) (by decide) (zOkE_cons (ok_md_isWood X) (by decide) (zOkE_cons (ok_md_beside X) (by decide) (zOkE_cons (ok_md_waysApart X) (by decide) (zOkE_nil X 5))))) (by
  intro args g o h
  obtain ⟨ar, fi, m1, m2, m3, m4, m5⟩ := g
  unfold S_md_breaks P_md_breaks at h
  split at h
  · refine zb_el h (fun hI0 k0 => ?_) (fun _ h10 => ?_)
    · try simp only [Bool.and_eq_true] at hI0
      have j0 := hI0
      have e0 := Nat.eq_of_beq_eq_true j0
      subst e0
      exact zpe_el k0 (fun t ht ho => by obtain ⟨t0, t1, t2, t3, t4, t5, t6⟩ := t; exact e_md_breaks _ ht ho)
    · cases h10
  · cases h)
