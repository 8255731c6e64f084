abbrev T_od_readWatering : Type := (Nat → Int32) × (Nat → Int32) × (Nat → Int32) × Int32 × Int32 × Int32
noncomputable def q_od_readWatering (a1 : Nat → Int32) (a17 : Nat → Int32) (a18 : Nat → Int32) (a19 : Nat → Int32) (f47_1 : Int32) (f47_2 : Int32) (f47_3 : Int32) (f47_4 : Int32) : Option T_od_readWatering :=
  zl (f0_tx_skip (f47_4)) (fun v1 =>
  zbd (q_od_readPlace a1 (f47_1) (f47_2) (f47_3) v1) (fun v2 =>
  zg (g_od_endLine ((v2.2.2.2)) (f47_1) ((v2.2.1)) a1 ((v2.2.2.1))) (
  zl (f0_od_endLine ((v2.2.2.2)) (f47_1) ((v2.2.1)) a1 ((v2.2.2.1))) (fun v3 =>
  zl (f1_od_endLine ((v2.2.2.2)) (f47_1) ((v2.2.1)) a1 ((v2.2.2.1))) (fun v4 =>
  zl (w_tx_isGood v3) (fun v5 =>
  bif decide (v5 = 0) then
   some (a17, a18, a19, v3, v4, (v2.2.2.2))
  else
   zg (g_if_isNumber ((v2.1))) (
   zl (w_if_isNumber ((v2.1))) (fun v6 =>
   bif decide (v6 = 0) then
    some (a17, a18, a19, v3, v4, (v2.2.2.2))
   else
    zg (zin ((v2.1)) 96) (
    zg (g_sc_setState ((v2.1)) 0 0 a18 a19) (
    zl (a0_sc_setState ((v2.1)) 0 0 a18 a19) (fun v7 =>
    zl (a1_sc_setState ((v2.1)) 0 0 a18 a19) (fun v8 =>
    some ((zup a17 (((v2.1)).toNatClampNeg) 3), v7, v8, v3, v4, (v2.2.2.2))))))))))))))
def P_od_readWatering (Q : (Nat → Int32) → (Nat → Int32) → (Nat → Int32) → (Nat → Int32) → Int32 → Int32 → Int32 → Int32 → Option ((Nat → Int32) × (Nat → Int32) × (Nat → Int32) × Int32 × Int32 × Int32)) : zSp := fun as g => match as with
  | [.ref a, .ref b] => bif Nat.beq a 46 && Nat.beq b 16 && Nat.beq g.2.2.2.2.2.2 1 then zpe (Q (g.1 1) (g.1 17) (g.1 18) (g.1 19) (g.2.1 47 1) (g.2.1 47 2) (g.2.1 47 3) (g.2.1 47 4)) (fun t => (none, ((zua (zua (zua g.1 17 t.1) 18 t.2.1) 19 t.2.2.1), (zuf (zuf (zuf g.2.1 47 2 t.2.2.2.1) 47 3 t.2.2.2.2.1) 47 4 t.2.2.2.2.2), g.2.2))) else none
  | _ => none
noncomputable abbrev S_od_readWatering : zSp := P_od_readWatering q_od_readWatering
theorem hA2_od_readWatering (F : Nat → Nat → Int32) (w0 w1 w2 : Nat → Int32) : (zua (zua (zua F 17 w0) 18 w1) 19 w2) = (zua (zua (zua F 17 w0) 18 w1) 19 w2) := zuak_ix F [(17, w0), (18, w1), (19, w2)] [(17, some 0), (18, some 1), (19, some 2)] rfl
theorem hF1_od_readWatering (F : Nat → Nat → Int32) (w0 w1 w2 w3 w4 w5 : Int32) : (zuf (zuf (zuf (zuf (zuf (zuf F 47 4 w0) 47 2 w1) 47 3 w2) 47 4 w3) 47 2 w4) 47 3 w5) = (zuf (zuf (zuf F 47 2 w4) 47 3 w5) 47 4 w3) := zufk_ix F [((47, 4), w0), ((47, 2), w1), ((47, 3), w2), ((47, 4), w3), ((47, 2), w4), ((47, 3), w5)] [((47, 2), some 4), ((47, 3), some 5), ((47, 4), some 3)] rfl
theorem hA0_od_readWatering (F : Nat → Nat → Int32) : F = (zua (zua (zua F 17 (F 17)) 18 (F 18)) 19 (F 19)) := zuak_ix F [] [(17, none), (18, none), (19, none)] rfl
def O_od_readWatering (ar fi : Nat → Nat → Int32) (m1 : Nat) (m2 : Nat) (m3 : Nat) (m4 : Nat) (t : T_od_readWatering) : zO2 := match t with
  | (t0, t1, t2, t3, t4, t5) => (none, ((zua (zua (zua ar 17 t0) 18 t1) 19 t2), (zuf (zuf (zuf fi 47 2 t3) 47 3 t4) 47 4 t5), (m1, m2, m3, m4, 1)))
set_option maxRecDepth 1000000 in
theorem t_od_readWatering {X : Nat × (Nat → Int32)} {ar fi : Nat → Nat → Int32} {m1 m2 m3 m4 : Nat} {F0_tx_skip : Int32 → Int32} {Q_od_readPlace : (Nat → Int32) → Int32 → Int32 → Int32 → Int32 → Option (Int32 × Int32 × Int32 × Int32)} {G_od_endLine : Int32 → Int32 → Int32 → (Nat → Int32) → Int32 → Bool} {F0_od_endLine : Int32 → Int32 → Int32 → (Nat → Int32) → Int32 → Int32} {F1_od_endLine : Int32 → Int32 → Int32 → (Nat → Int32) → Int32 → Int32} {W_tx_isGood : Int32 → Int32} {G_if_isNumber : Int32 → Bool} {W_if_isNumber : Int32 → Int32} {G_sc_setState : Int32 → Int32 → Int32 → (Nat → Int32) → (Nat → Int32) → Bool} {A0_sc_setState : Int32 → Int32 → Int32 → (Nat → Int32) → (Nat → Int32) → Nat → Int32} {A1_sc_setState : Int32 → Int32 → Int32 → (Nat → Int32) → (Nat → Int32) → Nat → Int32} : zseg X zFT (zEx 95 (P_tx_skip F0_tx_skip) (zEx 63 (P_od_readPlace Q_od_readPlace) (zEx 65 (P_od_endLine G_od_endLine F0_od_endLine F1_od_endLine) (zEx 91 (P_tx_isGood W_tx_isGood) (zEx 138 (P_if_isNumber G_if_isNumber W_if_isNumber) (zEx 71 (P_sc_setState G_sc_setState A0_sc_setState A1_sc_setState) zE0)))))) zc_59 (fun p => false) 400 0 [.ref 46, .ref 16] [] (ar, fi, (m1, m2, m3, m4, 1)) = (
  zl (F0_tx_skip (fi 47 4)) (fun v1 =>
  zl (Q_od_readPlace (ar 1) (fi 47 1) (fi 47 2) (fi 47 3) v1) (fun v2 => zg v2.isSome (
  zg (G_od_endLine (((zgt v2).2.2.2)) (fi 47 1) (((zgt v2).2.1)) (ar 1) (((zgt v2).2.2.1))) (
  zl (F0_od_endLine (((zgt v2).2.2.2)) (fi 47 1) (((zgt v2).2.1)) (ar 1) (((zgt v2).2.2.1))) (fun v3 =>
  zl (F1_od_endLine (((zgt v2).2.2.2)) (fi 47 1) (((zgt v2).2.1)) (ar 1) (((zgt v2).2.2.1))) (fun v4 =>
  zl (W_tx_isGood v3) (fun v5 =>
  bif decide (v5 = 0) then
   some (.inr (none, (ar, (zuf (zuf (zuf (zuf (zuf (zuf fi 47 4 v1) 47 2 (((zgt v2).2.1))) 47 3 (((zgt v2).2.2.1))) 47 4 (((zgt v2).2.2.2))) 47 2 v3) 47 3 v4), (m1, m2, m3, m4, 1))))
  else
   zg (G_if_isNumber (((zgt v2).1))) (
   zl (W_if_isNumber (((zgt v2).1))) (fun v6 =>
   bif decide (v6 = 0) then
    some (.inr (none, (ar, (zuf (zuf (zuf (zuf (zuf (zuf fi 47 4 v1) 47 2 (((zgt v2).2.1))) 47 3 (((zgt v2).2.2.1))) 47 4 (((zgt v2).2.2.2))) 47 2 v3) 47 3 v4), (m1, m2, m3, m4, 1))))
   else
    zg (Nat.beq 16 16 && (zin (((zgt v2).1)) 96)) (
    zg (G_sc_setState (((zgt v2).1)) 0 0 (ar 18) (ar 19)) (
    zl (A0_sc_setState (((zgt v2).1)) 0 0 (ar 18) (ar 19)) (fun v7 =>
    zl (A1_sc_setState (((zgt v2).1)) 0 0 (ar 18) (ar 19)) (fun v8 =>
    some (.inr (none, ((zua (zua (zua ar 17 (zup (ar 17) ((((zgt v2).1)).toNatClampNeg) 3)) 18 v7) 19 v8), (zuf (zuf (zuf (zuf (zuf (zuf fi 47 4 v1) 47 2 (((zgt v2).2.1))) 47 3 (((zgt v2).2.2.1))) 47 4 (((zgt v2).2.2.2))) 47 2 v3) 47 3 v4), (m1, m2, m3, m4, 1))))))))))))))))) : Option ((Nat × List Value × List Value × zH2) ⊕ zO2)) := by with_unfolding_all rfl
set_option maxRecDepth 20000 in
theorem e_od_readWatering {X : Nat × (Nat → Int32)} {ar fi : Nat → Nat → Int32} {m1 m2 m3 m4 : Nat} {o : zO2} : ∀ (q : T_od_readWatering), q_od_readWatering (ar 1) (ar 17) (ar 18) (ar 19) (fi 47 1) (fi 47 2) (fi 47 3) (fi 47 4) = some q → (fun t => O_od_readWatering ar fi m1 m2 m3 m4 t = o) q → zR2 X zFT (zEx 95 S_tx_skip (zEx 63 S_od_readPlace (zEx 65 S_od_endLine (zEx 91 S_tx_isGood (zEx 138 S_if_isNumber (zEx 71 S_sc_setState zE0)))))) zc_59 0 [.ref 46, .ref 16] [] (ar, fi, (m1, m2, m3, m4, 1)) o := by
  intro q h hq
  unfold q_od_readWatering at h
  refine zT_seg t_od_readWatering ?_
  obtain ⟨TT, hTT⟩ : ∃ T, T = zT X zFT (zEx 95 S_tx_skip (zEx 63 S_od_readPlace (zEx 65 S_od_endLine (zEx 91 S_tx_isGood (zEx 138 S_if_isNumber (zEx 71 S_sc_setState zE0)))))) zc_59 o := ⟨_, rfl⟩
  rw [← hTT]
  refine zl_el h (fun h => zU_l hTT ?_)
  refine zbd_el h (fun v2 hv h => zU_c hTT hv ?_)
  refine zg_el h (fun hg h => zU_g hTT hg ?_)
  refine zl_el h (fun h => zU_l hTT ?_)
  refine zl_el h (fun h => zU_l hTT ?_)
  refine zl_el h (fun h => zU_l hTT ?_)
  refine zb_el h (fun hb h => zU_t hTT hb ?_) (fun hb h => zU_f hTT hb ?_)
  · rw [hTT]
    have hz := zsi (P := (fun t => O_od_readWatering ar fi m1 m2 m3 m4 t = o)) h hq
    refine (zO_mk ?_ ?_).trans hz
    · first | with_reducible rfl | exact hA0_od_readWatering _
    · first | with_reducible rfl | exact hF1_od_readWatering _ _ _ _ _ _ _
  · refine zg_el h (fun hg h => zU_g hTT hg ?_)
    refine zl_el h (fun h => zU_l hTT ?_)
    refine zb_el h (fun hb h => zU_t hTT hb ?_) (fun hb h => zU_f hTT hb ?_)
    · rw [hTT]
      have hz := zsi (P := (fun t => O_od_readWatering ar fi m1 m2 m3 m4 t = o)) h hq
      refine (zO_mk ?_ ?_).trans hz
      · first | with_reducible rfl | exact hA0_od_readWatering _
      · first | with_reducible rfl | exact hF1_od_readWatering _ _ _ _ _ _ _
    · refine zg_el h (fun hg h => zU_ga hTT hg ?_)
      refine zg_el h (fun hg h => zU_g hTT hg ?_)
      refine zl_el h (fun h => zU_l hTT ?_)
      refine zl_el h (fun h => zU_l hTT ?_)
      rw [hTT]
      have hz := zsi (P := (fun t => O_od_readWatering ar fi m1 m2 m3 m4 t = o)) h hq
      refine (zO_mk ?_ ?_).trans hz
      · first | with_reducible rfl | exact hA2_od_readWatering _ _ _ _
      · first | with_reducible rfl | exact hF1_od_readWatering _ _ _ _ _ _ _
theorem ok_od_readWatering (X : Nat × (Nat → Int32)) : zOkS X 59 S_od_readWatering 5 := zOkS_new (zOkE_cons (ok_tx_skip X) (by decide) (zOkE_cons (ok_od_readPlace X) (by decide) (zOkE_cons (ok_od_endLine X) (by decide) (zOkE_cons (ok_tx_isGood X) (by decide) (zOkE_cons (ok_if_isNumber X) (by decide) (zOkE_cons (ok_sc_setState X) (by decide) (zOkE_nil X 4))))))) (by
  intro args g o h
  obtain ⟨ar, fi, m1, m2, m3, m4, m5⟩ := g
  unfold S_od_readWatering P_od_readWatering at h
  split at h
  · refine zb_el h (fun hI0 k0 => ?_) (fun _ h10 => ?_)
    · try simp only [Bool.and_eq_true] at hI0
      obtain ⟨⟨j0, j1⟩, j2⟩ := hI0
      have e0 := Nat.eq_of_beq_eq_true j0
      subst e0
      have e1 := Nat.eq_of_beq_eq_true j1
      subst e1
      have e9 : m5 = 1 := Nat.eq_of_beq_eq_true j2
      subst e9
      exact zpe_el k0 (fun t ht ho => by obtain ⟨t0, t1, t2, t3, t4, t5⟩ := t; exact e_od_readWatering _ ht ho)
    · cases h10
  · cases h)
