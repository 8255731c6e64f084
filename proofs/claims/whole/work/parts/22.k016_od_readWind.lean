abbrev T_od_readWind : Type := Int32 × Int32 × Int32 × Int32
def q_od_readWind (a1 : Nat → Int32) (f16_8 : Int32) (f47_1 : Int32) (f47_2 : Int32) (f47_3 : Int32) (f47_4 : Int32) : Option T_od_readWind :=
  zl (f0_tx_skip (f47_4)) (fun v1 =>
  zg (g_tx_sign (f47_2) v1 (f47_1) a1) (
  zl (w_tx_sign (f47_2) v1 (f47_1) a1) (fun v2 =>
  bif decide (v2 < 48) then
   zl (f0_tx_fail 1 v1 (f47_2) (f47_3)) (fun v3 =>
   zl (f1_tx_fail 1 v1 (f47_2) (f47_3)) (fun v4 =>
   some (f16_8, v3, v4, v1)))
  else
   bif decide (51 < v2) then
    zl (f0_tx_fail 1 v1 (f47_2) (f47_3)) (fun v5 =>
    zl (f1_tx_fail 1 v1 (f47_2) (f47_3)) (fun v6 =>
    some (f16_8, v5, v6, v1)))
   else
    zl (f0_tx_skip v1) (fun v7 =>
    zg (g_od_endLine v7 (f47_1) (f47_2) a1 (f47_3)) (
    zl (f0_od_endLine v7 (f47_1) (f47_2) a1 (f47_3)) (fun v8 =>
    zl (f1_od_endLine v7 (f47_1) (f47_2) a1 (f47_3)) (fun v9 =>
    some (v2 - 48, v8, v9, v7))))))))
def P_od_readWind (Q : (Nat → Int32) → Int32 → Int32 → Int32 → Int32 → Int32 → Option (Int32 × Int32 × Int32 × Int32)) : zSp := fun as g => match as with
  | [.ref a, .ref b] => bif Nat.beq a 46 && Nat.beq b 16 && Nat.beq g.2.2.2.2.2.2 1 then zpe (Q (g.1 1) (g.2.1 16 8) (g.2.1 47 1) (g.2.1 47 2) (g.2.1 47 3) (g.2.1 47 4)) (fun t => (none, (g.1, (zuf (zuf (zuf (zuf g.2.1 16 8 t.1) 47 2 t.2.1) 47 3 t.2.2.1) 47 4 t.2.2.2), g.2.2))) else none
  | _ => none
noncomputable abbrev S_od_readWind : zSp := P_od_readWind q_od_readWind
theorem hF1_od_readWind (F : Nat → Nat → Int32) (w0 w1 w2 w3 w4 : Int32) : (zuf (zuf (zuf (zuf (zuf F 47 4 w0) 16 8 w1) 47 4 w2) 47 2 w3) 47 3 w4) = (zuf (zuf (zuf (zuf F 16 8 w1) 47 2 w3) 47 3 w4) 47 4 w2) := zufk_ix F [((47, 4), w0), ((16, 8), w1), ((47, 4), w2), ((47, 2), w3), ((47, 3), w4)] [((16, 8), some 1), ((47, 2), some 3), ((47, 3), some 4), ((47, 4), some 2)] rfl
theorem hF0_od_readWind (F : Nat → Nat → Int32) (w0 w1 w2 : Int32) : (zuf (zuf (zuf F 47 4 w0) 47 2 w1) 47 3 w2) = (zuf (zuf (zuf (zuf F 16 8 (F 16 8)) 47 2 w1) 47 3 w2) 47 4 w0) := zufk_ix F [((47, 4), w0), ((47, 2), w1), ((47, 3), w2)] [((16, 8), none), ((47, 2), some 1), ((47, 3), some 2), ((47, 4), some 0)] rfl
def O_od_readWind (ar fi : Nat → Nat → Int32) (m1 : Nat) (m2 : Nat) (m3 : Nat) (m4 : Nat) (t : T_od_readWind) : zO2 := match t with
  | (t0, t1, t2, t3) => (none, (ar, (zuf (zuf (zuf (zuf fi 16 8 t0) 47 2 t1) 47 3 t2) 47 4 t3), (m1, m2, m3, m4, 1)))
set_option maxRecDepth 1000000 in
theorem t_od_readWind {X : Nat × (Nat → Int32)} {ar fi : Nat → Nat → Int32} {m1 m2 m3 m4 : Nat} {F0_tx_skip : Int32 → Int32} {G_tx_sign : Int32 → Int32 → Int32 → (Nat → Int32) → Bool} {W_tx_sign : Int32 → Int32 → Int32 → (Nat → Int32) → Int32} {G_od_endLine : Int32 → Int32 → Int32 → (Nat → Int32) → Int32 → Bool} {F0_od_endLine : Int32 → Int32 → Int32 → (Nat → Int32) → Int32 → Int32} {F1_od_endLine : Int32 → Int32 → Int32 → (Nat → Int32) → Int32 → Int32} {F0_tx_fail : Int32 → Int32 → Int32 → Int32 → Int32} {F1_tx_fail : Int32 → Int32 → Int32 → Int32 → Int32} : zseg X zFT (zEx 95 (P_tx_skip F0_tx_skip) (zEx 93 (P_tx_sign G_tx_sign W_tx_sign) (zEx 65 (P_od_endLine G_od_endLine F0_od_endLine F1_od_endLine) (zEx 97 (P_tx_fail F0_tx_fail F1_tx_fail) zE0)))) zc_60 (fun p => false) 400 0 [.ref 46, .ref 16] [] (ar, fi, (m1, m2, m3, m4, 1)) = (
  zl (F0_tx_skip (fi 47 4)) (fun v1 =>
  zg (G_tx_sign (fi 47 2) v1 (fi 47 1) (ar 1)) (
  zl (W_tx_sign (fi 47 2) v1 (fi 47 1) (ar 1)) (fun v2 =>
  bif decide (v2 < 48) then
   zl (F0_tx_fail 1 v1 (fi 47 2) (fi 47 3)) (fun v3 =>
   zl (F1_tx_fail 1 v1 (fi 47 2) (fi 47 3)) (fun v4 =>
   some (.inr (none, (ar, (zuf (zuf (zuf fi 47 4 v1) 47 2 v3) 47 3 v4), (m1, m2, m3, m4, 1))))))
  else
   bif decide (51 < v2) then
    zl (F0_tx_fail 1 v1 (fi 47 2) (fi 47 3)) (fun v5 =>
    zl (F1_tx_fail 1 v1 (fi 47 2) (fi 47 3)) (fun v6 =>
    some (.inr (none, (ar, (zuf (zuf (zuf fi 47 4 v1) 47 2 v5) 47 3 v6), (m1, m2, m3, m4, 1))))))
   else
    zl (F0_tx_skip v1) (fun v7 =>
    zg (G_od_endLine v7 (fi 47 1) (fi 47 2) (ar 1) (fi 47 3)) (
    zl (F0_od_endLine v7 (fi 47 1) (fi 47 2) (ar 1) (fi 47 3)) (fun v8 =>
    zl (F1_od_endLine v7 (fi 47 1) (fi 47 2) (ar 1) (fi 47 3)) (fun v9 =>
    some (.inr (none, (ar, (zuf (zuf (zuf (zuf (zuf fi 47 4 v1) 16 8 (v2 - 48)) 47 4 v7) 47 2 v8) 47 3 v9), (m1, m2, m3, m4, 1))))))))))) : Option ((Nat × List Value × List Value × zH2) ⊕ zO2)) := by with_unfolding_all rfl
set_option maxRecDepth 20000 in
theorem e_od_readWind {X : Nat × (Nat → Int32)} {ar fi : Nat → Nat → Int32} {m1 m2 m3 m4 : Nat} {o : zO2} : ∀ (q : T_od_readWind), q_od_readWind (ar 1) (fi 16 8) (fi 47 1) (fi 47 2) (fi 47 3) (fi 47 4) = some q → (fun t => O_od_readWind ar fi m1 m2 m3 m4 t = o) q → zR2 X zFT (zEx 95 S_tx_skip (zEx 93 S_tx_sign (zEx 65 S_od_endLine (zEx 97 S_tx_fail zE0)))) zc_60 0 [.ref 46, .ref 16] [] (ar, fi, (m1, m2, m3, m4, 1)) o := by
  intro q h hq
  unfold q_od_readWind at h
  refine zT_seg t_od_readWind ?_
  obtain ⟨TT, hTT⟩ : ∃ T, T = zT X zFT (zEx 95 S_tx_skip (zEx 93 S_tx_sign (zEx 65 S_od_endLine (zEx 97 S_tx_fail zE0)))) zc_60 o := ⟨_, rfl⟩
  rw [← hTT]
  refine zl_el h (fun h => zU_l hTT ?_)
  refine zg_el h (fun hg h => zU_g hTT hg ?_)
  refine zl_el h (fun h => zU_l hTT ?_)
  refine zb_el h (fun hb h => zU_t hTT hb ?_) (fun hb h => zU_f hTT hb ?_)
  · refine zl_el h (fun h => zU_l hTT ?_)
    refine zl_el h (fun h => zU_l hTT ?_)
    rw [hTT]
    have hz := zsi (P := (fun t => O_od_readWind ar fi m1 m2 m3 m4 t = o)) h hq
    refine (zO_mk ?_ ?_).trans hz
    · first | with_reducible rfl | rfl
    · first | with_reducible rfl | exact hF0_od_readWind _ _ _ _
  · refine zb_el h (fun hb h => zU_t hTT hb ?_) (fun hb h => zU_f hTT hb ?_)
    · refine zl_el h (fun h => zU_l hTT ?_)
      refine zl_el h (fun h => zU_l hTT ?_)
      rw [hTT]
      have hz := zsi (P := (fun t => O_od_readWind ar fi m1 m2 m3 m4 t = o)) h hq
      refine (zO_mk ?_ ?_).trans hz
      · first | with_reducible rfl | rfl
      · first | with_reducible rfl | exact hF0_od_readWind _ _ _ _
    · refine zl_el h (fun h => zU_l hTT ?_)
      refine zg_el h (fun hg h => zU_g hTT hg ?_)
      refine zl_el h (fun h => zU_l hTT ?_)
      refine zl_el h (fun h => zU_l hTT ?_)
      rw [hTT]
      have hz := zsi (P := (fun t => O_od_readWind ar fi m1 m2 m3 m4 t = o)) h hq
      refine (zO_mk ?_ ?_).trans hz
      · first | with_reducible rfl | rfl
      · first | with_reducible rfl | exact hF1_od_readWind _ _ _ _ _ _
theorem ok_od_readWind (X : Nat × (Nat → Int32)) : zOkS X 60 S_od_readWind 3 := zOkS_new (zOkE_cons (ok_tx_skip X) (by decide) (zOkE_cons (ok_tx_sign X) (by decide) (zOkE_cons (ok_od_endLine X) (by decide) (zOkE_cons (ok_tx_fail X) (by decide) (zOkE_nil X 2))))) (by
  intro args g o h
  obtain ⟨ar, fi, m1, m2, m3, m4, m5⟩ := g
  unfold S_od_readWind P_od_readWind at h
  split at h
  · refine zb_el h (fun hI0 k0 => ?_) (fun _ h10 => ?_)
    · try simp only [Bool.and_eq_true] at hI0
      obtain ⟨⟨j0, j1⟩, j2⟩ := hI0
      have e0 := Nat.eq_of_beq_eq_true j0
      subst e0
      have e1 := Nat.eq_of_beq_eq_true j1
      subst e1
      have e9 : m5 = 1 := Nat.eq_of_beq_eq_true j2
      subst e9
      exact zpe_el k0 (fun t ht ho => by obtain ⟨t0, t1, t2, t3⟩ := t; exact e_od_readWind _ ht ho)
    · cases h10
  · cases h)
