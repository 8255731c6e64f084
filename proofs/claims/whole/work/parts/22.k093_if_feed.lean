abbrev T_if_feed : Type := Int32 × (Nat → Int32) × Int32
noncomputable def q_if_feed (x : Int32) (y : Int32) (z : Int32) (u : Int32) (v : Int32) (a1 : Nat → Int32) (f0_1 : Int32) : Option T_if_feed :=
  bif decide ((f0_1) + 20 ≤ 260) then
   zbd (q_if_putBytes x a1 (f0_1)) (fun v1 =>
   zbd (q_if_putBytes y ((v1.1)) ((v1.2))) (fun v2 =>
   zbd (q_if_putBytes z ((v2.1)) ((v2.2))) (fun v3 =>
   zbd (q_if_putBytes u ((v3.1)) ((v3.2))) (fun v4 =>
   zbd (q_if_putBytes v ((v4.1)) ((v4.2))) (fun v5 =>
   some ((v5.2), ((v5.1)), (v5.2)))))))
  else
   some ((-1), a1, f0_1)
def P_if_feed (Q : Int32 → Int32 → Int32 → Int32 → Int32 → (Nat → Int32) → Int32 → Option (Int32 × (Nat → Int32) × Int32)) : zSp := fun as g => match as with
  | [.ref a, .int x, .int y, .int z, .int u, .int v] => bif Nat.beq a 0 then zpe (Q x y z u v (g.1 1) (g.2.1 0 1)) (fun t => (some (.int (t.1)), ((zua g.1 1 t.2.1), (zuf g.2.1 0 1 t.2.2), g.2.2))) else none
  | _ => none
noncomputable abbrev S_if_feed : zSp := P_if_feed q_if_feed
theorem hF3_if_feed (F : Nat → Nat → Int32) : F = (zuf F 0 1 (F 0 1)) := zufk_ix F [] [((0, 1), none)] rfl
theorem hA2_if_feed (F : Nat → Nat → Int32) : F = (zua F 1 (F 1)) := zuak_ix F [] [(1, none)] rfl
theorem hF1_if_feed (F : Nat → Nat → Int32) (w0 w1 w2 w3 w4 : Int32) : (zuf (zuf (zuf (zuf (zuf F 0 1 w0) 0 1 w1) 0 1 w2) 0 1 w3) 0 1 w4) = (zuf F 0 1 w4) := zufk_ix F [((0, 1), w0), ((0, 1), w1), ((0, 1), w2), ((0, 1), w3), ((0, 1), w4)] [((0, 1), some 4)] rfl
theorem hA0_if_feed (F : Nat → Nat → Int32) (w0 w1 w2 w3 w4 : Nat → Int32) : (zua (zua (zua (zua (zua F 1 w0) 1 w1) 1 w2) 1 w3) 1 w4) = (zua F 1 w4) := zuak_ix F [(1, w0), (1, w1), (1, w2), (1, w3), (1, w4)] [(1, some 4)] rfl
def O_if_feed (ar fi : Nat → Nat → Int32) (m1 : Nat) (m2 : Nat) (m3 : Nat) (m4 : Nat) (m5 : Nat) (t : T_if_feed) : zO2 := match t with
  | (t0, t1, t2) => (some (.int (t0)), ((zua ar 1 t1), (zuf fi 0 1 t2), (m1, m2, m3, m4, m5)))
set_option maxRecDepth 1000000 in
theorem t_if_feed {X : Nat × (Nat → Int32)} {ar fi : Nat → Nat → Int32} {m1 m2 m3 m4 m5 : Nat} {x y z u v : Int32} {Q_if_putBytes : Int32 → (Nat → Int32) → Int32 → Option ((Nat → Int32) × Int32)} : zseg X zFT (zEx 135 (P_if_putBytes Q_if_putBytes) zE0) zc_109 (fun p => false) 400 0 [.ref 0, .int x, .int y, .int z, .int u, .int v] [] (ar, fi, (m1, m2, m3, m4, m5)) = (
  bif decide ((fi 0 1) + 20 ≤ 260) then
   zl (Q_if_putBytes x (ar 1) (fi 0 1)) (fun v1 => zg v1.isSome (
   zl (Q_if_putBytes y (((zgt v1).1)) (((zgt v1).2))) (fun v2 => zg v2.isSome (
   zl (Q_if_putBytes z (((zgt v2).1)) (((zgt v2).2))) (fun v3 => zg v3.isSome (
   zl (Q_if_putBytes u (((zgt v3).1)) (((zgt v3).2))) (fun v4 => zg v4.isSome (
   zl (Q_if_putBytes v (((zgt v4).1)) (((zgt v4).2))) (fun v5 => zg v5.isSome (
   some (.inr (some (.int (((zgt v5).2))), ((zua (zua (zua (zua (zua ar 1 (((zgt v1).1))) 1 (((zgt v2).1))) 1 (((zgt v3).1))) 1 (((zgt v4).1))) 1 (((zgt v5).1))), (zuf (zuf (zuf (zuf (zuf fi 0 1 (((zgt v1).2))) 0 1 (((zgt v2).2))) 0 1 (((zgt v3).2))) 0 1 (((zgt v4).2))) 0 1 (((zgt v5).2))), (m1, m2, m3, m4, m5))))))))))))))
  else
   some (.inr (some (.int (-1)), (ar, fi, (m1, m2, m3, m4, m5)))) : Option ((Nat × List Value × List Value × zH2) ⊕ zO2)) := by with_unfolding_all rfl
set_option maxRecDepth 20000 in
theorem e_if_feed {X : Nat × (Nat → Int32)} {ar fi : Nat → Nat → Int32} {m1 m2 m3 m4 m5 : Nat} {x y z u v : Int32} {o : zO2} : ∀ (q : T_if_feed), q_if_feed x y z u v (ar 1) (fi 0 1) = some q → (fun t => O_if_feed ar fi m1 m2 m3 m4 m5 t = o) q → zR2 X zFT (zEx 135 S_if_putBytes zE0) zc_109 0 [.ref 0, .int x, .int y, .int z, .int u, .int v] [] (ar, fi, (m1, m2, m3, m4, m5)) o := by
  intro q h hq
  unfold q_if_feed at h
  refine zT_seg t_if_feed ?_
  obtain ⟨TT, hTT⟩ : ∃ T, T = zT X zFT (zEx 135 S_if_putBytes zE0) zc_109 o := ⟨_, rfl⟩
  rw [← hTT]
  refine zb_el h (fun hb h => zU_t hTT hb ?_) (fun hb h => zU_f hTT hb ?_)
  · refine zbd_el h (fun v1 hv h => zU_c hTT hv ?_)
    refine zbd_el h (fun v2 hv h => zU_c hTT hv ?_)
    refine zbd_el h (fun v3 hv h => zU_c hTT hv ?_)
    refine zbd_el h (fun v4 hv h => zU_c hTT hv ?_)
    refine zbd_el h (fun v5 hv h => zU_c hTT hv ?_)
    rw [hTT]
    have hz := zsi (P := (fun t => O_if_feed ar fi m1 m2 m3 m4 m5 t = o)) h hq
    refine (zO_mk ?_ ?_).trans hz
    · first | with_reducible rfl | exact hA0_if_feed _ _ _ _ _ _
    · first | with_reducible rfl | exact hF1_if_feed _ _ _ _ _ _
  · rw [hTT]
    have hz := zsi (P := (fun t => O_if_feed ar fi m1 m2 m3 m4 m5 t = o)) h hq
    refine (zO_mk ?_ ?_).trans hz
    · first | with_reducible rfl | exact hA2_if_feed _
    · first | with_reducible rfl | exact hF3_if_feed _
theorem ok_if_feed (X : Nat × (Nat → Int32)) : zOkS X 109 S_if_feed 2 := zOkS_new (zOkE_cons (ok_if_putBytes X) (by decide) (zOkE_nil X 1)) (by
  intro args g o h
  obtain ⟨ar, fi, m1, m2, m3, m4, m5⟩ := g
  unfold S_if_feed P_if_feed at h
  split at h
  · refine zb_el h (fun hI0 k0 => ?_) (fun _ h10 => ?_)
    · try simp only [Bool.and_eq_true] at hI0
      have j0 := hI0
      have e0 := Nat.eq_of_beq_eq_true j0
      subst e0
      exact zpe_el k0 (fun t ht ho => by obtain ⟨t0, t1, t2⟩ := t; exact e_if_feed _ ht ho)
    · cases h10
  · cases h)
