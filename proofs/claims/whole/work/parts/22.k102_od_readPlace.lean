abbrev T_od_readPlace : Type := Int32 × Int32 × Int32 × Int32
noncomputable def q_od_readPlace (a1 : Nat → Int32) (f47_1 : Int32) (f47_2 : Int32) (f47_3 : Int32) (f47_4 : Int32) : Option T_od_readPlace :=
  zbd (q_od_readBounded 11 a1 (f47_1) (f47_2) (f47_3) (f47_4)) (fun v1 =>
  zg (g_tx_expect 44 ((v1.2.1)) ((v1.2.2.2)) (f47_1) a1 ((v1.2.2.1))) (
  zl (f0_tx_expect 44 ((v1.2.1)) ((v1.2.2.2)) (f47_1) a1 ((v1.2.2.1))) (fun v2 =>
  zl (f1_tx_expect 44 ((v1.2.1)) ((v1.2.2.2)) (f47_1) a1 ((v1.2.2.1))) (fun v3 =>
  zl (f2_tx_expect 44 ((v1.2.1)) ((v1.2.2.2)) (f47_1) a1 ((v1.2.2.1))) (fun v4 =>
  zbd (q_od_readBounded 7 a1 (f47_1) v2 v3 v4) (fun v5 =>
  some ((12 * ((v5.1))) + ((v1.1)), (v5.2.1), (v5.2.2.1), (v5.2.2.2))))))))
def P_od_readPlace (Q : (Nat → Int32) → Int32 → Int32 → Int32 → Int32 → Option (Int32 × Int32 × Int32 × Int32)) : zSp := fun as g => match as with
  | [.ref a] => bif Nat.beq a 46 && Nat.beq g.2.2.2.2.2.2 1 then zpe (Q (g.1 1) (g.2.1 47 1) (g.2.1 47 2) (g.2.1 47 3) (g.2.1 47 4)) (fun t => (some (.int (t.1)), (g.1, (zuf (zuf (zuf g.2.1 47 2 t.2.1) 47 3 t.2.2.1) 47 4 t.2.2.2), g.2.2))) else none
  | _ => none
noncomputable abbrev S_od_readPlace : zSp := P_od_readPlace q_od_readPlace
theorem hF0_od_readPlace (F : Nat → Nat → Int32) (w0 w1 w2 w3 w4 w5 w6 w7 w8 : Int32) : (zuf (zuf (zuf (zuf (zuf (zuf (zuf (zuf (zuf F 47 2 w0) 47 3 w1) 47 4 w2) 47 2 w3) 47 3 w4) 47 4 w5) 47 2 w6) 47 3 w7) 47 4 w8) = (zuf (zuf (zuf F 47 2 w6) 47 3 w7) 47 4 w8) := zufk_ix F [((47, 2), w0), ((47, 3), w1), ((47, 4), w2), ((47, 2), w3), ((47, 3), w4), ((47, 4), w5), ((47, 2), w6), ((47, 3), w7), ((47, 4), w8)] [((47, 2), some 6), ((47, 3), some 7), ((47, 4), some 8)] rfl
def O_od_readPlace (ar fi : Nat → Nat → Int32) (m1 : Nat) (m2 : Nat) (m3 : Nat) (m4 : Nat) (t : T_od_readPlace) : zO2 := match t with
  | (t0, t1, t2, t3) => (some (.int (t0)), (ar, (zuf (zuf (zuf fi 47 2 t1) 47 3 t2) 47 4 t3), (m1, m2, m3, m4, 1)))
set_option maxRecDepth 1000000 in
theorem t_od_readPlace {X : Nat × (Nat → Int32)} {ar fi : Nat → Nat → Int32} {m1 m2 m3 m4 : Nat} {Q_od_readBounded : Int32 → (Nat → Int32) → Int32 → Int32 → Int32 → Int32 → Option (Int32 × Int32 × Int32 × Int32)} {G_tx_expect : Int32 → Int32 → Int32 → Int32 → (Nat → Int32) → Int32 → Bool} {F0_tx_expect : Int32 → Int32 → Int32 → Int32 → (Nat → Int32) → Int32 → Int32} {F1_tx_expect : Int32 → Int32 → Int32 → Int32 → (Nat → Int32) → Int32 → Int32} {F2_tx_expect : Int32 → Int32 → Int32 → Int32 → (Nat → Int32) → Int32 → Int32} : zseg X zFT (zEx 64 (P_od_readBounded Q_od_readBounded) (zEx 96 (P_tx_expect G_tx_expect F0_tx_expect F1_tx_expect F2_tx_expect) zE0)) zc_63 (fun p => false) 400 0 [.ref 46] [] (ar, fi, (m1, m2, m3, m4, 1)) = (
  zl (Q_od_readBounded 11 (ar 1) (fi 47 1) (fi 47 2) (fi 47 3) (fi 47 4)) (fun v1 => zg v1.isSome (
  zg (G_tx_expect 44 (((zgt v1).2.1)) (((zgt v1).2.2.2)) (fi 47 1) (ar 1) (((zgt v1).2.2.1))) (
  zl (F0_tx_expect 44 (((zgt v1).2.1)) (((zgt v1).2.2.2)) (fi 47 1) (ar 1) (((zgt v1).2.2.1))) (fun v2 =>
  zl (F1_tx_expect 44 (((zgt v1).2.1)) (((zgt v1).2.2.2)) (fi 47 1) (ar 1) (((zgt v1).2.2.1))) (fun v3 =>
  zl (F2_tx_expect 44 (((zgt v1).2.1)) (((zgt v1).2.2.2)) (fi 47 1) (ar 1) (((zgt v1).2.2.1))) (fun v4 =>
  zl (Q_od_readBounded 7 (ar 1) (fi 47 1) v2 v3 v4) (fun v5 => zg v5.isSome (
  some (.inr (some (.int ((12 * (((zgt v5).1))) + (((zgt v1).1)))), (ar, (zuf (zuf (zuf (zuf (zuf (zuf (zuf (zuf (zuf fi 47 2 (((zgt v1).2.1))) 47 3 (((zgt v1).2.2.1))) 47 4 (((zgt v1).2.2.2))) 47 2 v2) 47 3 v3) 47 4 v4) 47 2 (((zgt v5).2.1))) 47 3 (((zgt v5).2.2.1))) 47 4 (((zgt v5).2.2.2))), (m1, m2, m3, m4, 1)))))))))))) : Option ((Nat × List Value × List Value × zH2) ⊕ zO2)) := by with_unfolding_all rfl
set_option maxRecDepth 20000 in
theorem e_od_readPlace {X : Nat × (Nat → Int32)} {ar fi : Nat → Nat → Int32} {m1 m2 m3 m4 : Nat} {o : zO2} : ∀ (q : T_od_readPlace), q_od_readPlace (ar 1) (fi 47 1) (fi 47 2) (fi 47 3) (fi 47 4) = some q → (fun t => O_od_readPlace ar fi m1 m2 m3 m4 t = o) q → zR2 X zFT (zEx 64 S_od_readBounded (zEx 96 S_tx_expect zE0)) zc_63 0 [.ref 46] [] (ar, fi, (m1, m2, m3, m4, 1)) o := by
  intro q h hq
  unfold q_od_readPlace at h
  refine zT_seg t_od_readPlace ?_
  obtain ⟨TT, hTT⟩ : ∃ T, T = zT X zFT (zEx 64 S_od_readBounded (zEx 96 S_tx_expect zE0)) zc_63 o := ⟨_, rfl⟩
  rw [← hTT]
  refine zbd_el h (fun v1 hv h => zU_c hTT hv ?_)
  refine zg_el h (fun hg h => zU_g hTT hg ?_)
  refine zl_el h (fun h => zU_l hTT ?_)
  refine zl_el h (fun h => zU_l hTT ?_)
  refine zl_el h (fun h => zU_l hTT ?_)
  refine zbd_el h (fun v5 hv h => zU_c hTT hv ?_)
  rw [hTT]
  have hz := zsi (P := (fun t => O_od_readPlace ar fi m1 m2 m3 m4 t = o)) h hq
  refine (zO_mk ?_ ?_).trans hz
  · first | with_reducible rfl | rfl
  · first | with_reducible rfl | exact hF0_od_readPlace _ _ _ _ _ _ _ _ _ _
theorem ok_od_readPlace (X : Nat × (Nat → Int32)) : zOkS X 63 S_od_readPlace 4 := zOkS_new (zOkE_cons (ok_od_readBounded X) (by decide) (zOkE_cons (ok_tx_expect X) (by decide) (zOkE_nil X 3))) (by
  intro args g o h
  obtain ⟨ar, fi, m1, m2, m3, m4, m5⟩ := g
  unfold S_od_readPlace P_od_readPlace at h
  split at h
  · refine zb_el h (fun hI0 k0 => ?_) (fun _ h10 => ?_)
    · try simp only [Bool.and_eq_true] at hI0
      obtain ⟨j0, j1⟩ := hI0
      have e0 := Nat.eq_of_beq_eq_true j0
      subst e0
      have e9 : m5 = 1 := Nat.eq_of_beq_eq_true j1
      subst e9
      exact zpe_el k0 (fun t ht ho => by obtain ⟨t0, t1, t2, t3⟩ := t; exact e_od_readPlace _ ht ho)
    · cases h10
  · cases h)
