abbrev T_md_minutes : Type := Int32 × (Nat → Int32) × (Nat → Int32) × (Nat → Int32) × (Nat → Int32) × Int32
noncomputable def q_md_minutes (x : Int32) (a65 : Nat → Int32) (a68 : Nat → Int32) (a77 : Nat → Int32) (a78 : Nat → Int32) (a79 : Nat → Int32) (a80 : Nat → Int32) (a81 : Nat → Int32) (a82 : Nat → Int32) (a83 : Nat → Int32) (a85 : Nat → Int32) (f64_15 : Int32) (f64_34 : Int32) : Option T_md_minutes :=
  zl (w_md_in x 1 100) (fun v1 =>
  bif !decide (v1 = 0) then
   zbd (q_md_minutesGo x a65 a68 a77 a78 a79 a80 a81 a82 a83 a85 (f64_15)) (fun v2 =>
   zl (w_md_faring 1 ((v2.1))) (fun v3 =>
   some (v3, ((v2.1)), ((v2.2.1)), ((v2.2.2.1)), ((v2.2.2.2.1)), (v2.2.2.2.2))))
  else
   some ((-1), a65, a82, a83, a85, f64_34))
def P_md_minutes (Q : Int32 → (Nat → Int32) → (Nat → Int32) → (Nat → Int32) → (Nat → Int32) → (Nat → Int32) → (Nat → Int32) → (Nat → Int32) → (Nat → Int32) → (Nat → Int32) → (Nat → Int32) → Int32 → Int32 → Option (Int32 × (Nat → Int32) × (Nat → Int32) × (Nat → Int32) × (Nat → Int32) × Int32)) : zSp := fun as g => match as with
  | [.ref a, .int x] => bif Nat.beq a 64 then zpe (Q x (g.1 65) (g.1 68) (g.1 77) (g.1 78) (g.1 79) (g.1 80) (g.1 81) (g.1 82) (g.1 83) (g.1 85) (g.2.1 64 15) (g.2.1 64 34)) (fun t => (some (.int (t.1)), ((zua (zua (zua (zua g.1 65 t.2.1) 82 t.2.2.1) 83 t.2.2.2.1) 85 t.2.2.2.2.1), (zuf g.2.1 64 34 t.2.2.2.2.2), g.2.2))) else none
  | _ => none
noncomputable abbrev S_md_minutes : zSp := P_md_minutes q_md_minutes
theorem hF3_md_minutes (F : Nat → Nat → Int32) : F = (zuf F 64 34 (F 64 34)) := zufk_ix F [] [((64, 34), none)] rfl
theorem hA2_md_minutes (F : Nat → Nat → Int32) : F = (zua (zua (zua (zua F 65 (F 65)) 82 (F 82)) 83 (F 83)) 85 (F 85)) := zuak_ix F [] [(65, none), (82, none), (83, none), (85, none)] rfl
theorem hF1_md_minutes (F : Nat → Nat → Int32) (w0 : Int32) : (zuf F 64 34 w0) = (zuf F 64 34 w0) := zufk_ix F [((64, 34), w0)] [((64, 34), some 0)] rfl
theorem hA0_md_minutes (F : Nat → Nat → Int32) (w0 w1 w2 w3 : Nat → Int32) : (zua (zua (zua (zua F 65 w0) 82 w1) 83 w2) 85 w3) = (zua (zua (zua (zua F 65 w0) 82 w1) 83 w2) 85 w3) := zuak_ix F [(65, w0), (82, w1), (83, w2), (85, w3)] [(65, some 0), (82, some 1), (83, some 2), (85, some 3)] rfl
def O_md_minutes (ar fi : Nat → Nat → Int32) (m1 : Nat) (m2 : Nat) (m3 : Nat) (m4 : Nat) (m5 : Nat) (t : T_md_minutes) : zO2 := match t with
  | (t0, t1, t2, t3, t4, t5) => (some (.int (t0)), ((zua (zua (zua (zua ar 65 t1) 82 t2) 83 t3) 85 t4), (zuf fi 64 34 t5), (m1, m2, m3, m4, m5)))
set_option maxRecDepth 1000000 in
theorem t_md_minutes {X : Nat × (Nat → Int32)} {ar fi : Nat → Nat → Int32} {m1 m2 m3 m4 m5 : Nat} {x : Int32} {W_md_in : Int32 → Int32 → Int32 → Int32} {Q_md_minutesGo : Int32 → (Nat → Int32) → (Nat → Int32) → (Nat → Int32) → (Nat → Int32) → (Nat → Int32) → (Nat → Int32) → (Nat → Int32) → (Nat → Int32) → (Nat → Int32) → (Nat → Int32) → Int32 → Option ((Nat → Int32) × (Nat → Int32) × (Nat → Int32) × (Nat → Int32) × Int32)} {W_md_faring : Int32 → (Nat → Int32) → Int32} : zseg X zFT (zEx 143 (P_md_in W_md_in) (zEx 206 (P_md_minutesGo Q_md_minutesGo) (zEx 207 (P_md_faring W_md_faring) zE0))) zc_208 (fun p => false) 400 0 [.ref 64, .int x] [] (ar, fi, (m1, m2, m3, m4, m5)) = (
  zl (W_md_in x 1 100) (fun v1 =>
  bif !decide (v1 = 0) then
   zl (Q_md_minutesGo x (ar 65) (ar 68) (ar 77) (ar 78) (ar 79) (ar 80) (ar 81) (ar 82) (ar 83) (ar 85) (fi 64 15)) (fun v2 => zg v2.isSome (
   zl (W_md_faring 1 (((zgt v2).1))) (fun v3 =>
   some (.inr (some (.int v3), ((zua (zua (zua (zua ar 65 (((zgt v2).1))) 82 (((zgt v2).2.1))) 83 (((zgt v2).2.2.1))) 85 (((zgt v2).2.2.2.1))), (zuf fi 64 34 (((zgt v2).2.2.2.2))), (m1, m2, m3, m4, m5)))))))
  else
   some (.inr (some (.int (-1)), (ar, fi, (m1, m2, m3, m4, m5))))) : Option ((Nat × List Value × List Value × zH2) ⊕ zO2)) := by with_unfolding_all rfl
set_option maxRecDepth 20000 in
theorem e_md_minutes {X : Nat × (Nat → Int32)} {ar fi : Nat → Nat → Int32} {m1 m2 m3 m4 m5 : Nat} {x : Int32} {o : zO2} : ∀ (q : T_md_minutes), q_md_minutes x (ar 65) (ar 68) (ar 77) (ar 78) (ar 79) (ar 80) (ar 81) (ar 82) (ar 83) (ar 85) (fi 64 15) (fi 64 34) = some q → (fun t => O_md_minutes ar fi m1 m2 m3 m4 m5 t = o) q → zR2 X zFT (zEx 143 S_md_in (zEx 206 S_md_minutesGo (zEx 207 S_md_faring zE0))) zc_208 0 [.ref 64, .int x] [] (ar, fi, (m1, m2, m3, m4, m5)) o := by
  intro q h hq
  unfold q_md_minutes at h
  refine zT_seg t_md_minutes ?_
  obtain ⟨TT, hTT⟩ : ∃ T, T = zT X zFT (zEx 143 S_md_in (zEx 206 S_md_minutesGo (zEx 207 S_md_faring zE0))) zc_208 o := ⟨_, rfl⟩
  rw [← hTT]
  refine zl_el h (fun h => zU_l hTT ?_)
  refine zb_el h (fun hb h => zU_t hTT hb ?_) (fun hb h => zU_f hTT hb ?_)
  · refine zbd_el h (fun v2 hv h => zU_c hTT hv ?_)
    refine zl_el h (fun h => zU_l hTT ?_)
    rw [hTT]
    have hz := zsi (P := (fun t => O_md_minutes ar fi m1 m2 m3 m4 m5 t = o)) h hq
    refine (zO_mk ?_ ?_).trans hz
    · first | with_reducible rfl | exact hA0_md_minutes _ _ _ _ _
    · first | with_reducible rfl | exact hF1_md_minutes _ _
  · rw [hTT]
    have hz := zsi (P := (fun t => O_md_minutes ar fi m1 m2 m3 m4 m5 t = o)) h hq
    refine (zO_mk ?_ ?_).trans hz
    · first | with_reducible rfl | exact hA2_md_minutes _
    · first | with_reducible rfl | exact hF3_md_minutes _
theorem ok_md_minutes (X : Nat × (Nat → Int32)) : zOkS X 208 S_md_minutes 10 := zOkS_new (zOkE_cons (ok_md_in X) (by decide) (zOkE_cons (ok_md_minutesGo X) (by decide) (zOkE_cons (ok_md_faring X) (by decide) (zOkE_nil X 9)))) (by
  intro args g o h
  obtain ⟨ar, fi, m1, m2, m3, m4, m5⟩ := g
  unfold S_md_minutes P_md_minutes at h
  split at h
  · refine zb_el h (fun hI0 k0 => ?_) (fun _ h10 => ?_)
    · try simp only [Bool.and_eq_true] at hI0
      have j0 := hI0
      have e0 := Nat.eq_of_beq_eq_true j0
      subst e0
      exact zpe_el k0 (fun t ht ho => by obtain ⟨t0, t1, t2, t3, t4, t5⟩ := t; exact e_md_minutes _ ht ho)
    · cases h10
  · cases h)
