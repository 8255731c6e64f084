abbrev T_if_town : Type := Int32 × (Nat → Int32) × (Nat → Int32) × (Nat → Int32) × (Nat → Int32) × Int32 × Int32 × Int32 × Int32 × Int32 × Nat
noncomputable def q_if_town (x : Int32) (a1 : Nat → Int32) (a3 : Nat → Int32) (a4 : Nat → Int32) (a5 : Nat → Int32) (a43 : Nat → Int32) (f0_1 : Int32) (f44_1 : Int32) (f44_2 : Int32) (f44_3 : Int32) (f44_4 : Int32) : Option T_if_town :=
  zl (w_if_canTake x 1 120 (f0_1)) (fun v1 =>
  bif !decide (v1 = 0) then
   zbd (q_tn_read x a1 a43) (fun v2 =>
   bif decide (0 ≤ (v2.1)) then
    zl (a0_sc_buildAnew ((v2.2.1)) a3 a4 a5) (fun v3 =>
    zl (a1_sc_buildAnew ((v2.2.1)) a3 a4 a5) (fun v4 =>
    zl (a2_sc_buildAnew ((v2.2.1)) a3 a4 a5) (fun v5 =>
    zl (w_sc_placesOf 1 v3) (fun v6 =>
    some (v6, v3, v4, v5, ((v2.2.1)), 0, (v2.2.2.1), (v2.2.2.2.1), (v2.2.2.2.2.1), (v2.2.2.2.2.2), 0)))))
   else
    some ((v2.1), a3, a4, a5, ((v2.2.1)), 0, (v2.2.2.1), (v2.2.2.2.1), (v2.2.2.2.2.1), (v2.2.2.2.2.2), 0))
  else
   some ((-1), a3, a4, a5, a43, f0_1, f44_1, f44_2, f44_3, f44_4, 1))
def P_if_town (Q : Int32 → (Nat → Int32) → (Nat → Int32) → (Nat → Int32) → (Nat → Int32) → (Nat → Int32) → Int32 → Int32 → Int32 → Int32 → Int32 → Option (Int32 × (Nat → Int32) × (Nat → Int32) × (Nat → Int32) × (Nat → Int32) × Int32 × Int32 × Int32 × Int32 × Int32 × Nat)) : zSp := fun as g => match as with
  | [.ref a, .int x] => bif Nat.beq a 0 then zpe (Q x (g.1 1) (g.1 3) (g.1 4) (g.1 5) (g.1 43) (g.2.1 0 1) (g.2.1 44 1) (g.2.1 44 2) (g.2.1 44 3) (g.2.1 44 4)) (fun t => (some (.int (t.1)), ((zua (zua (zua (zua g.1 3 t.2.1) 4 t.2.2.1) 5 t.2.2.2.1) 43 t.2.2.2.2.1), (zuf (zuf (zuf (zuf (zuf g.2.1 0 1 t.2.2.2.2.2.1) 44 1 t.2.2.2.2.2.2.1) 44 2 t.2.2.2.2.2.2.2.1) 44 3 t.2.2.2.2.2.2.2.2.1) 44 4 t.2.2.2.2.2.2.2.2.2.1), (bif Nat.beq t.2.2.2.2.2.2.2.2.2.2 0 then (g.2.2.1, g.2.2.2.1, g.2.2.2.2.1, 1, g.2.2.2.2.2.2) else (g.2.2.1, g.2.2.2.1, g.2.2.2.2.1, g.2.2.2.2.2.1, g.2.2.2.2.2.2))))) else none
  | _ => none
noncomputable abbrev S_if_town : zSp := P_if_town q_if_town
theorem hF4_if_town (F : Nat → Nat → Int32) : F = (zuf (zuf (zuf (zuf (zuf F 0 1 (F 0 1)) 44 1 (F 44 1)) 44 2 (F 44 2)) 44 3 (F 44 3)) 44 4 (F 44 4)) := zufk_ix F [] [((0, 1), none), ((44, 1), none), ((44, 2), none), ((44, 3), none), ((44, 4), none)] rfl
theorem hA3_if_town (F : Nat → Nat → Int32) : F = (zua (zua (zua (zua F 3 (F 3)) 4 (F 4)) 5 (F 5)) 43 (F 43)) := zuak_ix F [] [(3, none), (4, none), (5, none), (43, none)] rfl
theorem hA2_if_town (F : Nat → Nat → Int32) (w0 : Nat → Int32) : (zua F 43 w0) = (zua (zua (zua (zua F 3 (F 3)) 4 (F 4)) 5 (F 5)) 43 w0) := zuak_ix F [(43, w0)] [(3, none), (4, none), (5, none), (43, some 0)] rfl
theorem hF1_if_town (F : Nat → Nat → Int32) (w0 w1 w2 w3 w4 : Int32) : (zuf (zuf (zuf (zuf (zuf F 0 1 w0) 44 1 w1) 44 2 w2) 44 3 w3) 44 4 w4) = (zuf (zuf (zuf (zuf (zuf F 0 1 w0) 44 1 w1) 44 2 w2) 44 3 w3) 44 4 w4) := zufk_ix F [((0, 1), w0), ((44, 1), w1), ((44, 2), w2), ((44, 3), w3), ((44, 4), w4)] [((0, 1), some 0), ((44, 1), some 1), ((44, 2), some 2), ((44, 3), some 3), ((44, 4), some 4)] rfl
theorem hA0_if_town (F : Nat → Nat → Int32) (w0 w1 w2 w3 : Nat → Int32) : (zua (zua (zua (zua F 43 w0) 3 w1) 4 w2) 5 w3) = (zua (zua (zua (zua F 3 w1) 4 w2) 5 w3) 43 w0) := zuak_ix F [(43, w0), (3, w1), (4, w2), (5, w3)] [(3, some 1), (4, some 2), (5, some 3), (43, some 0)] rfl
def O_if_town (ar fi : Nat → Nat → Int32) (m1 : Nat) (m2 : Nat) (m3 : Nat) (m4 : Nat) (m5 : Nat) (t : T_if_town) : zO2 := match t with
  | (t0, t1, t2, t3, t4, t5, t6, t7, t8, t9, t10) => (some (.int (t0)), ((zua (zua (zua (zua ar 3 t1) 4 t2) 5 t3) 43 t4), (zuf (zuf (zuf (zuf (zuf fi 0 1 t5) 44 1 t6) 44 2 t7) 44 3 t8) 44 4 t9), (bif Nat.beq t10 0 then (m1, m2, m3, 1, m5) else (m1, m2, m3, m4, m5))))
set_option maxRecDepth 1000000 in
theorem t_if_town {X : Nat × (Nat → Int32)} {ar fi : Nat → Nat → Int32} {m1 m2 m3 m4 m5 : Nat} {x : Int32} {W_if_canTake : Int32 → Int32 → Int32 → Int32 → Int32} {Q_tn_read : Int32 → (Nat → Int32) → (Nat → Int32) → Option (Int32 × (Nat → Int32) × Int32 × Int32 × Int32 × Int32)} {A0_sc_buildAnew : (Nat → Int32) → (Nat → Int32) → (Nat → Int32) → (Nat → Int32) → Nat → Int32} {A1_sc_buildAnew : (Nat → Int32) → (Nat → Int32) → (Nat → Int32) → (Nat → Int32) → Nat → Int32} {A2_sc_buildAnew : (Nat → Int32) → (Nat → Int32) → (Nat → Int32) → (Nat → Int32) → Nat → Int32} {W_sc_placesOf : Int32 → (Nat → Int32) → Int32} : zseg X zFT (zEx 136 (P_if_canTake W_if_canTake) (zEx 101 (P_tn_read Q_tn_read) (zEx 69 (P_sc_buildAnew A0_sc_buildAnew A1_sc_buildAnew A2_sc_buildAnew) (zEx 75 (P_sc_placesOf W_sc_placesOf) zE0)))) zc_111 (fun p => false) 400 0 [.ref 0, .int x] [] (ar, fi, (m1, m2, m3, m4, m5)) = (
  zl (W_if_canTake x 1 120 (fi 0 1)) (fun v1 =>
  bif !decide (v1 = 0) then
   zl (Q_tn_read x (ar 1) (ar 43)) (fun v2 => zg v2.isSome (
   bif decide (0 ≤ ((zgt v2).1)) then
    zl (A0_sc_buildAnew (((zgt v2).2.1)) (ar 3) (ar 4) (ar 5)) (fun v3 =>
    zl (A1_sc_buildAnew (((zgt v2).2.1)) (ar 3) (ar 4) (ar 5)) (fun v4 =>
    zl (A2_sc_buildAnew (((zgt v2).2.1)) (ar 3) (ar 4) (ar 5)) (fun v5 =>
    zl (W_sc_placesOf 1 v3) (fun v6 =>
    some (.inr (some (.int v6), ((zua (zua (zua (zua ar 43 (((zgt v2).2.1))) 3 v3) 4 v4) 5 v5), (zuf (zuf (zuf (zuf (zuf fi 0 1 0) 44 1 (((zgt v2).2.2.1))) 44 2 (((zgt v2).2.2.2.1))) 44 3 (((zgt v2).2.2.2.2.1))) 44 4 (((zgt v2).2.2.2.2.2))), (m1, m2, m3, 1, m5))))))))
   else
    some (.inr (some (.int (((zgt v2).1))), ((zua ar 43 (((zgt v2).2.1))), (zuf (zuf (zuf (zuf (zuf fi 0 1 0) 44 1 (((zgt v2).2.2.1))) 44 2 (((zgt v2).2.2.2.1))) 44 3 (((zgt v2).2.2.2.2.1))) 44 4 (((zgt v2).2.2.2.2.2))), (m1, m2, m3, 1, m5))))))
  else
   some (.inr (some (.int (-1)), (ar, fi, (m1, m2, m3, m4, m5))))) : Option ((Nat × List Value × List Value × zH2) ⊕ zO2)) := by with_unfolding_all rfl
set_option maxRecDepth 20000 in
theorem e_if_town {X : Nat × (Nat → Int32)} {ar fi : Nat → Nat → Int32} {m1 m2 m3 m4 m5 : Nat} {x : Int32} {o : zO2} : ∀ (q : T_if_town), q_if_town x (ar 1) (ar 3) (ar 4) (ar 5) (ar 43) (fi 0 1) (fi 44 1) (fi 44 2) (fi 44 3) (fi 44 4) = some q → (fun t => O_if_town ar fi m1 m2 m3 m4 m5 t = o) q → zR2 X zFT (zEx 136 S_if_canTake (zEx 101 S_tn_read (zEx 69 S_sc_buildAnew (zEx 75 S_sc_placesOf zE0)))) zc_111 0 [.ref 0, .int x] [] (ar, fi, (m1, m2, m3, m4, m5)) o := by
  intro q h hq
  unfold q_if_town at h
  refine zT_seg t_if_town ?_
  obtain ⟨TT, hTT⟩ : ∃ T, T = zT X zFT (zEx 136 S_if_canTake (zEx 101 S_tn_read (zEx 69 S_sc_buildAnew (zEx 75 S_sc_placesOf zE0)))) zc_111 o := ⟨_, rfl⟩
  rw [← hTT]
  refine zl_el h (fun h => zU_l hTT ?_)
  refine zb_el h (fun hb h => zU_t hTT hb ?_) (fun hb h => zU_f hTT hb ?_)
  · refine zbd_el h (fun v2 hv h => zU_c hTT hv ?_)
    refine zb_el h (fun hb h => zU_t hTT hb ?_) (fun hb h => zU_f hTT hb ?_)
    · refine zl_el h (fun h => zU_l hTT ?_)
      refine zl_el h (fun h => zU_l hTT ?_)
      refine zl_el h (fun h => zU_l hTT ?_)
      refine zl_el h (fun h => zU_l hTT ?_)
      rw [hTT]
      have hz := zsi (P := (fun t => O_if_town ar fi m1 m2 m3 m4 m5 t = o)) h hq
      refine (zO_mk ?_ ?_).trans hz
      · first | with_reducible rfl | exact hA0_if_town _ _ _ _ _
      · first | with_reducible rfl | exact hF1_if_town _ _ _ _ _ _
    · rw [hTT]
      have hz := zsi (P := (fun t => O_if_town ar fi m1 m2 m3 m4 m5 t = o)) h hq
      refine (zO_mk ?_ ?_).trans hz
      · first | with_reducible rfl | exact hA2_if_town _ _
      · first | with_reducible rfl | exact hF1_if_town _ _ _ _ _ _
  · rw [hTT]
    have hz := zsi (P := (fun t => O_if_town ar fi m1 m2 m3 m4 m5 t = o)) h hq
    refine (zO_mk ?_ ?_).trans hz
    · first | with_reducible rfl | exact hA3_if_town _
    · first | with_reducible rfl | exact hF4_if_town _
theorem ok_if_town (X : Nat × (Nat → Int32)) : zOkS X 111 S_if_town 7 := zOkS_new (zOkE_cons (ok_if_canTake X) (by decide) (zOkE_cons (ok_tn_read X) (by decide) (zOkE_cons (ok_sc_buildAnew X) (by decide) (zOkE_cons (ok_sc_placesOf X) (by decide) (zOkE_nil X 6))))) (by
  intro args g o h
  obtain ⟨ar, fi, m1, m2, m3, m4, m5⟩ := g
  unfold S_if_town P_if_town at h
  split at h
  · refine zb_el h (fun hI0 k0 => ?_) (fun _ h10 => ?_)
    · try simp only [Bool.and_eq_true] at hI0
      have j0 := hI0
      have e0 := Nat.eq_of_beq_eq_true j0
      subst e0
      exact zpe_el k0 (fun t ht ho => by obtain ⟨t0, t1, t2, t3, t4, t5, t6, t7, t8, t9, t10⟩ := t; exact e_if_town _ ht ho)
    · cases h10
  · cases h)
