abbrev T_md_readsSpot : Type := Int32 × Int32 × Int32 × Int32 × Int32 × Int32
noncomputable def q_md_readsSpot (a70 : Nat → Int32) (f64_7 : Int32) (f64_8 : Int32) (f64_9 : Int32) (f64_10 : Int32) (f64_31 : Int32) : Option T_md_readsSpot :=
  zbd (q_md_readsWithin 11 a70 (f64_7) (f64_8) (f64_9) (f64_10)) (fun v1 =>
  bif !decide ((v1.1) = 0) then
   zg (g_md_takes 44 (f64_8) ((v1.2.1)) a70 ((v1.2.2.1))) (
   zl (w_md_takes 44 (f64_8) ((v1.2.1)) a70 ((v1.2.2.1))) (fun v2 =>
   zl (f0_md_takes 44 (f64_8) ((v1.2.1)) a70 ((v1.2.2.1))) (fun v3 =>
   zl (f1_md_takes 44 (f64_8) ((v1.2.1)) a70 ((v1.2.2.1))) (fun v4 =>
   bif decide (v2 = 0) then
    some (0, v3, v4, (v1.2.2.2), f64_31, f64_7)
   else
    zbd (q_md_readsWithin 7 a70 v3 (f64_8) v4 ((v1.2.2.2))) (fun v5 =>
    bif !decide ((v5.1) = 0) then
     some (1, (v5.2.1), (v5.2.2.1), (v5.2.2.2), (12 * ((v5.2.2.2))) + ((v1.2.2.2)), f64_7)
    else
     some (0, (v5.2.1), (v5.2.2.1), (v5.2.2.2), f64_31, f64_7))))))
  else
   some (0, (v1.2.1), (v1.2.2.1), (v1.2.2.2), f64_31, f64_7))
def P_md_readsSpot (Q : (Nat → Int32) → Int32 → Int32 → Int32 → Int32 → Int32 → Option (Int32 × Int32 × Int32 × Int32 × Int32 × Int32)) : zSp := fun as g => match as with
  | [.ref a] => bif Nat.beq a 64 then zpe (Q (g.1 70) (g.2.1 64 7) (g.2.1 64 8) (g.2.1 64 9) (g.2.1 64 10) (g.2.1 64 31)) (fun t => (some (.int (t.1)), (g.1, (zuf (zuf (zuf (zuf (zuf g.2.1 64 7 t.2.1) 64 9 t.2.2.1) 64 10 t.2.2.2.1) 64 31 t.2.2.2.2.1) 64 32 t.2.2.2.2.2), g.2.2))) else none
  | _ => none
noncomputable abbrev S_md_readsSpot : zSp := P_md_readsSpot q_md_readsSpot
theorem hF3_md_readsSpot (F : Nat → Nat → Int32) (w0 w1 w2 w3 : Int32) : (zuf (zuf (zuf (zuf F 64 32 w0) 64 7 w1) 64 9 w2) 64 10 w3) = (zuf (zuf (zuf (zuf (zuf F 64 7 w1) 64 9 w2) 64 10 w3) 64 31 (F 64 31)) 64 32 w0) := zufk_ix F [((64, 32), w0), ((64, 7), w1), ((64, 9), w2), ((64, 10), w3)] [((64, 7), some 1), ((64, 9), some 2), ((64, 10), some 3), ((64, 31), none), ((64, 32), some 0)] rfl
theorem hF2_md_readsSpot (F : Nat → Nat → Int32) (w0 w1 w2 w3 w4 w5 w6 w7 w8 : Int32) : (zuf (zuf (zuf (zuf (zuf (zuf (zuf (zuf (zuf F 64 32 w0) 64 7 w1) 64 9 w2) 64 10 w3) 64 7 w4) 64 9 w5) 64 7 w6) 64 9 w7) 64 10 w8) = (zuf (zuf (zuf (zuf (zuf F 64 7 w6) 64 9 w7) 64 10 w8) 64 31 (F 64 31)) 64 32 w0) := zufk_ix F [((64, 32), w0), ((64, 7), w1), ((64, 9), w2), ((64, 10), w3), ((64, 7), w4), ((64, 9), w5), ((64, 7), w6), ((64, 9), w7), ((64, 10), w8)] [((64, 7), some 6), ((64, 9), some 7), ((64, 10), some 8), ((64, 31), none), ((64, 32), some 0)] rfl
theorem hF1_md_readsSpot (F : Nat → Nat → Int32) (w0 w1 w2 w3 w4 w5 w6 w7 w8 w9 : Int32) : (zuf (zuf (zuf (zuf (zuf (zuf (zuf (zuf (zuf (zuf F 64 32 w0) 64 7 w1) 64 9 w2) 64 10 w3) 64 7 w4) 64 9 w5) 64 7 w6) 64 9 w7) 64 10 w8) 64 31 w9) = (zuf (zuf (zuf (zuf (zuf F 64 7 w6) 64 9 w7) 64 10 w8) 64 31 w9) 64 32 w0) := zufk_ix F [((64, 32), w0), ((64, 7), w1), ((64, 9), w2), ((64, 10), w3), ((64, 7), w4), ((64, 9), w5), ((64, 7), w6), ((64, 9), w7), ((64, 10), w8), ((64, 31), w9)] [((64, 7), some 6), ((64, 9), some 7), ((64, 10), some 8), ((64, 31), some 9), ((64, 32), some 0)] rfl
theorem hF0_md_readsSpot (F : Nat → Nat → Int32) (w0 w1 w2 w3 w4 w5 : Int32) : (zuf (zuf (zuf (zuf (zuf (zuf F 64 32 w0) 64 7 w1) 64 9 w2) 64 10 w3) 64 7 w4) 64 9 w5) = (zuf (zuf (zuf (zuf (zuf F 64 7 w4) 64 9 w5) 64 10 w3) 64 31 (F 64 31)) 64 32 w0) := zufk_ix F [((64, 32), w0), ((64, 7), w1), ((64, 9), w2), ((64, 10), w3), ((64, 7), w4), ((64, 9), w5)] [((64, 7), some 4), ((64, 9), some 5), ((64, 10), some 3), ((64, 31), none), ((64, 32), some 0)] rfl
def O_md_readsSpot (ar fi : Nat → Nat → Int32) (m1 : Nat) (m2 : Nat) (m3 : Nat) (m4 : Nat) (m5 : Nat) (t : T_md_readsSpot) : zO2 := match t with
  | (t0, t1, t2, t3, t4, t5) => (some (.int (t0)), (ar, (zuf (zuf (zuf (zuf (zuf fi 64 7 t1) 64 9 t2) 64 10 t3) 64 31 t4) 64 32 t5), (m1, m2, m3, m4, m5)))
set_option maxRecDepth 1000000 in
theorem t_md_readsSpot {X : Nat × (Nat → Int32)} {ar fi : Nat → Nat → Int32} {m1 m2 m3 m4 m5 : Nat} {Q_md_readsWithin : Int32 → (Nat → Int32) → Int32 → Int32 → Int32 → Int32 → Option (Int32 × Int32 × Int32 × Int32)} {G_md_takes : Int32 → Int32 → Int32 → (Nat → Int32) → Int32 → Bool} {W_md_takes : Int32 → Int32 → Int32 → (Nat → Int32) → Int32 → Int32} {F0_md_takes : Int32 → Int32 → Int32 → (Nat → Int32) → Int32 → Int32} {F1_md_takes : Int32 → Int32 → Int32 → (Nat → Int32) → Int32 → Int32} : zseg X zFT (zEx 189 (P_md_readsWithin Q_md_readsWithin) (zEx 161 (P_md_takes G_md_takes W_md_takes F0_md_takes F1_md_takes) zE0)) zc_190 (fun p => false) 400 0 [.ref 64] [] (ar, fi, (m1, m2, m3, m4, m5)) = (
  zl (Q_md_readsWithin 11 (ar 70) (fi 64 7) (fi 64 8) (fi 64 9) (fi 64 10)) (fun v1 => zg v1.isSome (
  bif !decide (((zgt v1).1) = 0) then
   zg (G_md_takes 44 (fi 64 8) (((zgt v1).2.1)) (ar 70) (((zgt v1).2.2.1))) (
   zl (W_md_takes 44 (fi 64 8) (((zgt v1).2.1)) (ar 70) (((zgt v1).2.2.1))) (fun v2 =>
   zl (F0_md_takes 44 (fi 64 8) (((zgt v1).2.1)) (ar 70) (((zgt v1).2.2.1))) (fun v3 =>
   zl (F1_md_takes 44 (fi 64 8) (((zgt v1).2.1)) (ar 70) (((zgt v1).2.2.1))) (fun v4 =>
   bif decide (v2 = 0) then
    some (.inr (some (.int 0), (ar, (zuf (zuf (zuf (zuf (zuf (zuf fi 64 32 (fi 64 7)) 64 7 (((zgt v1).2.1))) 64 9 (((zgt v1).2.2.1))) 64 10 (((zgt v1).2.2.2))) 64 7 v3) 64 9 v4), (m1, m2, m3, m4, m5))))
   else
    zl (Q_md_readsWithin 7 (ar 70) v3 (fi 64 8) v4 (((zgt v1).2.2.2))) (fun v5 => zg v5.isSome (
    bif !decide (((zgt v5).1) = 0) then
     some (.inr (some (.int 1), (ar, (zuf (zuf (zuf (zuf (zuf (zuf (zuf (zuf (zuf (zuf fi 64 32 (fi 64 7)) 64 7 (((zgt v1).2.1))) 64 9 (((zgt v1).2.2.1))) 64 10 (((zgt v1).2.2.2))) 64 7 v3) 64 9 v4) 64 7 (((zgt v5).2.1))) 64 9 (((zgt v5).2.2.1))) 64 10 (((zgt v5).2.2.2))) 64 31 ((12 * (((zgt v5).2.2.2))) + (((zgt v1).2.2.2)))), (m1, m2, m3, m4, m5))))
    else
     some (.inr (some (.int 0), (ar, (zuf (zuf (zuf (zuf (zuf (zuf (zuf (zuf (zuf fi 64 32 (fi 64 7)) 64 7 (((zgt v1).2.1))) 64 9 (((zgt v1).2.2.1))) 64 10 (((zgt v1).2.2.2))) 64 7 v3) 64 9 v4) 64 7 (((zgt v5).2.1))) 64 9 (((zgt v5).2.2.1))) 64 10 (((zgt v5).2.2.2))), (m1, m2, m3, m4, m5))))))))))
  else
   some (.inr (some (.int 0), (ar, (zuf (zuf (zuf (zuf fi 64 32 (fi 64 7)) 64 7 (((zgt v1).2.1))) 64 9 (((zgt v1).2.2.1))) 64 10 (((zgt v1).2.2.2))), (m1, m2, m3, m4, m5)))))) : Option ((Nat × List Value × List Value × zH2) ⊕ zO2)) := by with_unfolding_all rfl
set_option maxRecDepth 20000 in
theorem e_md_readsSpot {X : Nat × (Nat → Int32)} {ar fi : Nat → Nat → Int32} {m1 m2 m3 m4 m5 : Nat} {o : zO2} : ∀ (q : T_md_readsSpot), q_md_readsSpot (ar 70) (fi 64 7) (fi 64 8) (fi 64 9) (fi 64 10) (fi 64 31) = some q → (fun t => O_md_readsSpot ar fi m1 m2 m3 m4 m5 t = o) q → zR2 X zFT (zEx 189 S_md_readsWithin (zEx 161 S_md_takes zE0)) zc_190 0 [.ref 64] [] (ar, fi, (m1, m2, m3, m4, m5)) o := by
  intro q h hq
  unfold q_md_readsSpot at h
  refine zT_seg t_md_readsSpot ?_
  obtain ⟨TT, hTT⟩ : ∃ T, T = zT X zFT (zEx 189 S_md_readsWithin (zEx 161 S_md_takes zE0)) zc_190 o := ⟨_, rfl⟩
  rw [← hTT]
  refine zbd_el h (fun v1 hv h => zU_c hTT hv ?_)
  refine zb_el h (fun hb h => zU_t hTT hb ?_) (fun hb h => zU_f hTT hb ?_)
  · refine zg_el h (fun hg h => zU_g hTT hg ?_)
    refine zl_el h (fun h => zU_l hTT ?_)
    refine zl_el h (fun h => zU_l hTT ?_)
    refine zl_el h (fun h => zU_l hTT ?_)
    refine zb_el h (fun hb h => zU_t hTT hb ?_) (fun hb h => zU_f hTT hb ?_)
    · rw [hTT]
      have hz := zsi (P := (fun t => O_md_readsSpot ar fi m1 m2 m3 m4 m5 t = o)) h hq
      refine (zO_mk ?_ ?_).trans hz
      · first | with_reducible rfl | rfl
      · first | with_reducible rfl | exact hF0_md_readsSpot _ _ _ _ _ _ _
    · refine zbd_el h (fun v5 hv h => zU_c hTT hv ?_)
      refine zb_el h (fun hb h => zU_t hTT hb ?_) (fun hb h => zU_f hTT hb ?_)
      · rw [hTT]
        have hz := zsi (P := (fun t => O_md_readsSpot ar fi m1 m2 m3 m4 m5 t = o)) h hq
        refine (zO_mk ?_ ?_).trans hz
        · first | with_reducible rfl | rfl
        · first | with_reducible rfl | exact hF1_md_readsSpot _ _ _ _ _ _ _ _ _ _ _
      · rw [hTT]
        have hz := zsi (P := (fun t => O_md_readsSpot ar fi m1 m2 m3 m4 m5 t = o)) h hq
        refine (zO_mk ?_ ?_).trans hz
        · first | with_reducible rfl | rfl
        · first | with_reducible rfl | exact hF2_md_readsSpot _ _ _ _ _ _ _ _ _ _
  · rw [hTT]
    have hz := zsi (P := (fun t => O_md_readsSpot ar fi m1 m2 m3 m4 m5 t = o)) h hq
    refine (zO_mk ?_ ?_).trans hz
    · first | with_reducible rfl | rfl
    · first | with_reducible rfl | exact hF3_md_readsSpot _ _ _ _ _
theorem ok_md_readsSpot (X : Nat × (Nat → Int32)) : zOkS X 190 S_md_readsSpot 4 := zOkS_new (zOkE_cons (ok_md_readsWithin X) (by decide) (zOkE_cons (ok_md_takes X) (by decide) (zOkE_nil X 3))) (by
  intro args g o h
  obtain ⟨ar, fi, m1, m2, m3, m4, m5⟩ := g
  unfold S_md_readsSpot P_md_readsSpot at h
  split at h
  · refine zb_el h (fun hI0 k0 => ?_) (fun _ h10 => ?_)
    · try simp only [Bool.and_eq_true] at hI0
      have j0 := hI0
      have e0 := Nat.eq_of_beq_eq_true j0
      subst e0
      exact zpe_el k0 (fun t ht ho => by obtain ⟨t0, t1, t2, t3, t4, t5⟩ := t; exact e_md_readsSpot _ ht ho)
    · cases h10
  · cases h)
