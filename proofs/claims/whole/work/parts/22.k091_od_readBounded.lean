abbrev T_od_readBounded : Type := Int32 × Int32 × Int32 × Int32
noncomputable def q_od_readBounded (x : Int32) (a1 : Nat → Int32) (f47_1 : Int32) (f47_2 : Int32) (f47_3 : Int32) (f47_4 : Int32) : Option T_od_readBounded :=
  zbd (q_tx_number 4 a1 (f47_1) (f47_2) (f47_3) (f47_4)) (fun v1 =>
  bif decide ((v1.1) ≤ x) then
   some ((v1.1), (v1.2.1), (v1.2.2.1), (v1.2.2.2))
  else
   zl (f0_tx_fail 3 (f47_4) ((v1.2.1)) ((v1.2.2.1))) (fun v2 =>
   zl (f1_tx_fail 3 (f47_4) ((v1.2.1)) ((v1.2.2.1))) (fun v3 =>
   some ((v1.1), v2, v3, (v1.2.2.2)))))
def P_od_readBounded (Q : Int32 → (Nat → Int32) → Int32 → Int32 → Int32 → Int32 → Option (Int32 × Int32 × Int32 × Int32)) : zSp := fun as g => match as with
  | [.ref a, .int x] => bif Nat.beq a 46 && Nat.beq g.2.2.2.2.2.2 1 then zpe (Q x (g.1 1) (g.2.1 47 1) (g.2.1 47 2) (g.2.1 47 3) (g.2.1 47 4)) (fun t => (some (.int (t.1)), (g.1, (zuf (zuf (zuf g.2.1 47 2 t.2.1) 47 3 t.2.2.1) 47 4 t.2.2.2), g.2.2))) else none
  | _ => none
noncomputable abbrev S_od_readBounded : zSp := P_od_readBounded q_od_readBounded
theorem hF1_od_readBounded (F : Nat → Nat → Int32) (w0 w1 w2 w3 w4 : Int32) : (zuf (zuf (zuf (zuf (zuf F 47 2 w0) 47 3 w1) 47 4 w2) 47 2 w3) 47 3 w4) = (zuf (zuf (zuf F 47 2 w3) 47 3 w4) 47 4 w2) := zufk_ix F [((47, 2), w0), ((47, 3), w1), ((47, 4), w2), ((47, 2), w3), ((47, 3), w4)] [((47, 2), some 3), ((47, 3), some 4), ((47, 4), some 2)] rfl
theorem hF0_od_readBounded (F : Nat → Nat → Int32) (w0 w1 w2 : Int32) : (zuf (zuf (zuf F 47 2 w0) 47 3 w1) 47 4 w2) = (zuf (zuf (zuf F 47 2 w0) 47 3 w1) 47 4 w2) := zufk_ix F [((47, 2), w0), ((47, 3), w1), ((47, 4), w2)] [((47, 2), some 0), ((47, 3), some 1), ((47, 4), some 2)] rfl
def O_od_readBounded (ar fi : Nat → Nat → Int32) (m1 : Nat) (m2 : Nat) (m3 : Nat) (m4 : Nat) (t : T_od_readBounded) : zO2 := match t with
  | (t0, t1, t2, t3) => (some (.int (t0)), (ar, (zuf (zuf (zuf fi 47 2 t1) 47 3 t2) 47 4 t3), (m1, m2, m3, m4, 1)))
set_option maxRecDepth 1000000 in
theorem t_od_readBounded {X : Nat × (Nat → Int32)} {ar fi : Nat → Nat → Int32} {m1 m2 m3 m4 : Nat} {x : Int32} {Q_tx_number : Int32 → (Nat → Int32) → Int32 → Int32 → Int32 → Int32 → Option (Int32 × Int32 × Int32 × Int32)} {F0_tx_fail : Int32 → Int32 → Int32 → Int32 → Int32} {F1_tx_fail : Int32 → Int32 → Int32 → Int32 → Int32} : zseg X zFT (zEx 98 (P_tx_number Q_tx_number) (zEx 97 (P_tx_fail F0_tx_fail F1_tx_fail) zE0)) zc_64 (fun p => false) 400 0 [.ref 46, .int x] [] (ar, fi, (m1, m2, m3, m4, 1)) = (
  zl (Q_tx_number 4 (ar 1) (fi 47 1) (fi 47 2) (fi 47 3) (fi 47 4)) (fun v1 => zg v1.isSome (
  bif decide (((zgt v1).1) ≤ x) then
   some (.inr (some (.int (((zgt v1).1))), (ar, (zuf (zuf (zuf fi 47 2 (((zgt v1).2.1))) 47 3 (((zgt v1).2.2.1))) 47 4 (((zgt v1).2.2.2))), (m1, m2, m3, m4, 1))))
  else
   zl (F0_tx_fail 3 (fi 47 4) (((zgt v1).2.1)) (((zgt v1).2.2.1))) (fun v2 =>
   zl (F1_tx_fail 3 (fi 47 4) (((zgt v1).2.1)) (((zgt v1).2.2.1))) (fun v3 =>
   some (.inr (some (.int (((zgt v1).1))), (ar, (zuf (zuf (zuf (zuf (zuf fi 47 2 (((zgt v1).2.1))) 47 3 (((zgt v1).2.2.1))) 47 4 (((zgt v1).2.2.2))) 47 2 v2) 47 3 v3), (m1, m2, m3, m4, 1)))))))) : Option ((Nat × List Value × List Value × zH2) ⊕ zO2)) := by with_unfolding_all rfl
set_option maxRecDepth 20000 in
theorem e_od_readBounded {X : Nat × (Nat → Int32)} {ar fi : Nat → Nat → Int32} {m1 m2 m3 m4 : Nat} {x : Int32} {o : zO2} : ∀ (q : T_od_readBounded), q_od_readBounded x (ar 1) (fi 47 1) (fi 47 2) (fi 47 3) (fi 47 4) = some q → (fun t => O_od_readBounded ar fi m1 m2 m3 m4 t = o) q → zR2 X zFT (zEx 98 S_tx_number (zEx 97 S_tx_fail zE0)) zc_64 0 [.ref 46, .int x] [] (ar, fi, (m1, m2, m3, m4, 1)) o := by
  intro q h hq
  unfold q_od_readBounded at h
  refine zT_seg t_od_readBounded ?_
  obtain ⟨TT, hTT⟩ : ∃ T, T = zT X zFT (zEx 98 S_tx_number (zEx 97 S_tx_fail zE0)) zc_64 o := ⟨_, rfl⟩
  rw [← hTT]
  refine zbd_el h (fun v1 hv h => zU_c hTT hv ?_)
  refine zb_el h (fun hb h => zU_t hTT hb ?_) (fun hb h => zU_f hTT hb ?_)
  · rw [hTT]
    have hz := zsi (P := (fun t => O_od_readBounded ar fi m1 m2 m3 m4 t = o)) h hq
    refine (zO_mk ?_ ?_).trans hz
    · first | with_reducible rfl | rfl
    · first | with_reducible rfl | exact hF0_od_readBounded _ _ _ _
  · refine zl_el h (fun h => zU_l hTT ?_)
    refine zl_el h (fun h => zU_l hTT ?_)
    rw [hTT]
    have hz := zsi (P := (fun t => O_od_readBounded ar fi m1 m2 m3 m4 t = o)) h hq
    refine (zO_mk ?_ ?_).trans hz
    · first | with_reducible rfl | rfl
    · first | with_reducible rfl | exact hF1_od_readBounded _ _ _ _ _ _
theorem ok_od_readBounded (X : Nat × (Nat → Int32)) : zOkS X 64 S_od_readBounded 3 := zOkS_new (zOkE_cons (ok_tx_number X) (by decide) (zOkE_cons (ok_tx_fail X) (by decide) (zOkE_nil X 2))) (by
  intro args g o h
  obtain ⟨ar, fi, m1, m2, m3, m4, m5⟩ := g
  unfold S_od_readBounded P_od_readBounded at h
  split at h
  · refine zb_el h (fun hI0 k0 => ?_) (fun _ h10 => ?_)
    · try simp only [Bool.and_eq_true] at hI0
      obtain ⟨j0, j1⟩ := hI0
      have e0 := Nat.eq_of_beq_eq_true j0
      subst e0
      have e9 : m5 = 1 := Nat.eq_of_beq_eq_true j1
      subst e9
      exact zpe_el k0 (fun t ht ho => by obtain ⟨t0, t1, t2, t3⟩ := t; exact e_od_readBounded _ ht ho)
    · cases h10
  · cases h)
