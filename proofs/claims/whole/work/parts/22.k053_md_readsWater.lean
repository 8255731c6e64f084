abbrev T_md_readsWater : Type := Int32 × (Nat → Int32) × (Nat → Int32) × Int32 × Int32 × Int32 × Int32 × Int32
noncomputable def q_md_readsWater (a65 : Nat → Int32) (a68 : Nat → Int32) (a70 : Nat → Int32) (f64_7 : Int32) (f64_8 : Int32) (f64_9 : Int32) (f64_10 : Int32) (f64_31 : Int32) : Option T_md_readsWater :=
  zbd (q_md_readsSpot a70 (f64_7) (f64_8) (f64_9) (f64_10) (f64_31)) (fun v1 =>
  bif !decide ((v1.1) = 0) then
   zg (zin ((v1.2.2.2.2.1)) 96) (
   zg (g_md_becomesWhole ((v1.2.2.2.2.1)) a65) (
   zl (a0_md_becomesWhole ((v1.2.2.2.2.1)) a65) (fun v2 =>
   some (1, v2, (zup a68 (((v1.2.2.2.2.1)).toNatClampNeg) 3), (v1.2.1), (v1.2.2.1), (v1.2.2.2.1), (v1.2.2.2.2.1), (v1.2.2.2.2.2)))))
  else
   some (0, a65, a68, (v1.2.1), (v1.2.2.1), (v1.2.2.2.1), (v1.2.2.2.2.1), (v1.2.2.2.2.2)))
def P_md_readsWater (Q : (Nat → Int32) → (Nat → Int32) → (Nat → Int32) → Int32 → Int32 → Int32 → Int32 → Int32 → Option (Int32 × (Nat → Int32) × (Nat → Int32) × Int32 × Int32 × Int32 × Int32 × Int32)) : zSp := fun as g => match as with
  | [.ref a] => bif Nat.beq a 64 then zpe (Q (g.1 65) (g.1 68) (g.1 70) (g.2.1 64 7) (g.2.1 64 8) (g.2.1 64 9) (g.2.1 64 10) (g.2.1 64 31)) (fun t => (some (.int (t.1)), ((zua (zua g.1 65 t.2.1) 68 t.2.2.1), (zuf (zuf (zuf (zuf (zuf g.2.1 64 7 t.2.2.2.1) 64 9 t.2.2.2.2.1) 64 10 t.2.2.2.2.2.1) 64 31 t.2.2.2.2.2.2.1) 64 32 t.2.2.2.2.2.2.2), g.2.2))) else none
  | _ => none
noncomputable abbrev S_md_readsWater : zSp := P_md_readsWater q_md_readsWater
theorem hA2_md_readsWater (F : Nat → Nat → Int32) : F = (zua (zua F 65 (F 65)) 68 (F 68)) := zuak_ix F [] [(65, none), (68, none)] rfl
theorem hF1_md_readsWater (F : Nat → Nat → Int32) (w0 w1 w2 w3 w4 : Int32) : (zuf (zuf (zuf (zuf (zuf F 64 7 w0) 64 9 w1) 64 10 w2) 64 31 w3) 64 32 w4) = (zuf (zuf (zuf (zuf (zuf F 64 7 w0) 64 9 w1) 64 10 w2) 64 31 w3) 64 32 w4) := zufk_ix F [((64, 7), w0), ((64, 9), w1), ((64, 10), w2), ((64, 31), w3), ((64, 32), w4)] [((64, 7), some 0), ((64, 9), some 1), ((64, 10), some 2), ((64, 31), some 3), ((64, 32), some 4)] rfl
theorem hA0_md_readsWater (F : Nat → Nat → Int32) (w0 w1 : Nat → Int32) : (zua (zua F 68 w0) 65 w1) = (zua (zua F 65 w1) 68 w0) := zuak_ix F [(68, w0), (65, w1)] [(65, some 1), (68, some 0)] rfl
def O_md_readsWater (ar fi : Nat → Nat → Int32) (m1 : Nat) (m2 : Nat) (m3 : Nat) (m4 : Nat) (m5 : Nat) (t : T_md_readsWater) : zO2 := match t with
  | (t0, t1, t2, t3, t4, t5, t6, t7) => (some (.int (t0)), ((zua (zua ar 65 t1) 68 t2), (zuf (zuf (zuf (zuf (zuf fi 64 7 t3) 64 9 t4) 64 10 t5) 64 31 t6) 64 32 t7), (m1, m2, m3, m4, m5)))
set_option maxRecDepth 1000000 in
theorem t_md_readsWater {X : Nat × (Nat → Int32)} {ar fi : Nat → Nat → Int32} {m1 m2 m3 m4 m5 : Nat} {Q_md_readsSpot : (Nat → Int32) → Int32 → Int32 → Int32 → Int32 → Int32 → Option (Int32 × Int32 × Int32 × Int32 × Int32 × Int32)} {G_md_becomesWhole : Int32 → (Nat → Int32) → Bool} {A0_md_becomesWhole : Int32 → (Nat → Int32) → Nat → Int32} : zseg X zFT (zEx 190 (P_md_readsSpot Q_md_readsSpot) (zEx 188 (P_md_becomesWhole G_md_becomesWhole A0_md_becomesWhole) zE0)) zc_193 (fun p => false) 400 0 [.ref 64] [] (ar, fi, (m1, m2, m3, m4, m5)) = (
  zl (Q_md_readsSpot (ar 70) (fi 64 7) (fi 64 8) (fi 64 9) (fi 64 10) (fi 64 31)) (fun v1 => zg v1.isSome (
  bif !decide (((zgt v1).1) = 0) then
   zg (Nat.beq 16 16 && (zin (((zgt v1).2.2.2.2.1)) 96)) (
   zg (G_md_becomesWhole (((zgt v1).2.2.2.2.1)) (ar 65)) (
   zl (A0_md_becomesWhole (((zgt v1).2.2.2.2.1)) (ar 65)) (fun v2 =>
   some (.inr (some (.int 1), ((zua (zua ar 68 (zup (ar 68) ((((zgt v1).2.2.2.2.1)).toNatClampNeg) 3)) 65 v2), (zuf (zuf (zuf (zuf (zuf fi 64 7 (((zgt v1).2.1))) 64 9 (((zgt v1).2.2.1))) 64 10 (((zgt v1).2.2.2.1))) 64 31 (((zgt v1).2.2.2.2.1))) 64 32 (((zgt v1).2.2.2.2.2))), (m1, m2, m3, m4, m5)))))))
  else
   some (.inr (some (.int 0), (ar, (zuf (zuf (zuf (zuf (zuf fi 64 7 (((zgt v1).2.1))) 64 9 (((zgt v1).2.2.1))) 64 10 (((zgt v1).2.2.2.1))) 64 31 (((zgt v1).2.2.2.2.1))) 64 32 (((zgt v1).2.2.2.2.2))), (m1, m2, m3, m4, m5)))))) : Option ((Nat × List Value × List Value × zH2) ⊕ zO2)) := by with_unfolding_all rfl
set_option maxRecDepth 20000 in
theorem e_md_readsWater {X : Nat × (Nat → Int32)} {ar fi : Nat → Nat → Int32} {m1 m2 m3 m4 m5 : Nat} {o : zO2} : ∀ (q : T_md_readsWater), q_md_readsWater (ar 65) (ar 68) (ar 70) (fi 64 7) (fi 64 8) (fi 64 9) (fi 64 10) (fi 64 31) = some q → (fun t => O_md_readsWater ar fi m1 m2 m3 m4 m5 t = o) q → zR2 X zFT (zEx 190 S_md_readsSpot (zEx 188 S_md_becomesWhole zE0)) zc_193 0 [.ref 64] [] (ar, fi, (m1, m2, m3, m4, m5)) o := by
  intro q h hq
  unfold q_md_readsWater at h
  refine zT_seg t_md_readsWater ?_
  obtain ⟨TT, hTT⟩ : ∃ T, T = zT X zFT (zEx 190 S_md_readsSpot (zEx 188 S_md_becomesWhole zE0)) zc_193 o := ⟨_, rfl⟩
  rw [← hTT]
  refine zbd_el h (fun v1 hv h => zU_c hTT hv ?_)
  refine zb_el h (fun hb h => zU_t hTT hb ?_) (fun hb h => zU_f hTT hb ?_)
  · refine zg_el h (fun hg h => zU_ga hTT hg ?_)
    refine zg_el h (fun hg h => zU_g hTT hg ?_)
    refine zl_el h (fun h => zU_l hTT ?_)
    rw [hTT]
    have hz := zsi (P := (fun t => O_md_readsWater ar fi m1 m2 m3 m4 m5 t = o)) h hq
    refine (zO_mk ?_ ?_).trans hz
    · first | with_reducible rfl | exact hA0_md_readsWater _ _ _
    · first | with_reducible rfl | exact hF1_md_readsWater _ _ _ _ _ _
  · rw [hTT]
    have hz := zsi (P := (fun t => O_md_readsWater ar fi m1 m2 m3 m4 m5 t = o)) h hq
    refine (zO_mk ?_ ?_).trans hz
    · first | with_reducible rfl | exact hA2_md_readsWater _
    · first | with_reducible rfl | exact hF1_md_readsWater _ _ _ _ _ _
theorem ok_md_readsWater (X : Nat × (Nat → Int32)) : zOkS X 193 S_md_readsWater 5 := zOkS_new (zOkE_cons (ok_md_readsSpot X) (by decide) (zOkE_cons (ok_md_becomesWhole X) (by decide) (zOkE_nil X 4))) (by
  intro args g o h
  obtain ⟨ar, fi, m1, m2, m3, m4, m5⟩ := g
  unfold S_md_readsWater P_md_readsWater at h
  split at h
  · refine zb_el h (fun hI0 k0 => ?_) (fun _ h10 => ?_)
    · try simp only [Bool.and_eq_true] at hI0
      have j0 := hI0
      have e0 := Nat.eq_of_beq_eq_true j0
      subst e0
      exact zpe_el k0 (fun t ht ho => by obtain ⟨t0, t1, t2, t3, t4, t5, t6, t7⟩ := t; exact e_md_readsWater _ ht ho)
    · cases h10
  · cases h)
