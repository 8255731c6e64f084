abbrev T_md_laysFireFrom : Type := (Nat → Int32) × (Nat → Int32)
noncomputable def q_md_laysFireFrom (x : Int32) (a68 : Nat → Int32) (a86 : Nat → Int32) (a87 : Nat → Int32) : Option T_md_laysFireFrom :=
  zl (a0_md_clearsFire a86) (fun v1 =>
  zg (zin x 96) (
  zg (zin 0 192) (
  zbd (q_md_laysFire 1 a68 (zup v1 (x.toNatClampNeg) 0) (zup a87 ((0 : Int32).toNatClampNeg) x)) (fun v2 =>
  some (((v2.1)), ((v2.2)))))))
def P_md_laysFireFrom (Q : Int32 → (Nat → Int32) → (Nat → Int32) → (Nat → Int32) → Option ((Nat → Int32) × (Nat → Int32))) : zSp := fun as g => match as with
  | [.ref a, .int x] => bif Nat.beq a 64 then zpe (Q x (g.1 68) (g.1 86) (g.1 87)) (fun t => (none, ((zua (zua g.1 86 t.1) 87 t.2), g.2.1, g.2.2))) else none
  | _ => none
noncomputable abbrev S_md_laysFireFrom : zSp := P_md_laysFireFrom q_md_laysFireFrom
theorem hA0_md_laysFireFrom (F : Nat → Nat → Int32) (w0 w1 w2 w3 w4 : Nat → Int32) : (zua (zua (zua (zua (zua F 86 w0) 86 w1) 87 w2) 86 w3) 87 w4) = (zua (zua F 86 w3) 87 w4) := zuak_ix F [(86, w0), (86, w1), (87, w2), (86, w3), (87, w4)] [(86, some 3), (87, some 4)] rfl
def O_md_laysFireFrom (ar fi : Nat → Nat → Int32) (m1 : Nat) (m2 : Nat) (m3 : Nat) (m4 : Nat) (m5 : Nat) (t : T_md_laysFireFrom) : zO2 := match t with
  | (t0, t1) => (none, ((zua (zua ar 86 t0) 87 t1), fi, (m1, m2, m3, m4, m5)))
set_option maxRecDepth 1000000 in
theorem t_md_laysFireFrom {X : Nat × (Nat → Int32)} {ar fi : Nat → Nat → Int32} {m1 m2 m3 m4 m5 : Nat} {x : Int32} {A0_md_clearsFire : (Nat → Int32) → Nat → Int32} {Q_md_laysFire : Int32 → (Nat → Int32) → (Nat → Int32) → (Nat → Int32) → Option ((Nat → Int32) × (Nat → Int32))} : zseg X zFT (zEx 218 (P_md_clearsFire A0_md_clearsFire) (zEx 217 (P_md_laysFire Q_md_laysFire) zE0)) zc_219 (fun p => false) 400 0 [.ref 64, .int x] [] (ar, fi, (m1, m2, m3, m4, m5)) = (
  zl (A0_md_clearsFire (ar 86)) (fun v1 =>
  zg (Nat.beq 16 16 && (zin x 96)) (
  zg (Nat.beq 16 16 && (zin 0 192)) (
  zl (Q_md_laysFire 1 (ar 68) (zup v1 (x.toNatClampNeg) 0) (zup (ar 87) ((0 : Int32).toNatClampNeg) x)) (fun v2 => zg v2.isSome (
  some (.inr (none, ((zua (zua (zua (zua (zua ar 86 v1) 86 (zup v1 (x.toNatClampNeg) 0)) 87 (zup (ar 87) ((0 : Int32).toNatClampNeg) x)) 86 (((zgt v2).1))) 87 (((zgt v2).2))), fi, (m1, m2, m3, m4, m5))))))))) : Option ((Nat × List Value × List Value × zH2) ⊕ zO2)) := by with_unfolding_all rfl
set_option maxRecDepth 20000 in
theorem e_md_laysFireFrom {X : Nat × (Nat → Int32)} {ar fi : Nat → Nat → Int32} {m1 m2 m3 m4 m5 : Nat} {x : Int32} {o : zO2} : ∀ (q : T_md_laysFireFrom), q_md_laysFireFrom x (ar 68) (ar 86) (ar 87) = some q → (fun t => O_md_laysFireFrom ar fi m1 m2 m3 m4 m5 t = o) q → zR2 X zFT (zEx 218 S_md_clearsFire (zEx 217 S_md_laysFire zE0)) zc_219 0 [.ref 64, .int x] [] (ar, fi, (m1, m2, m3, m4, m5)) o := by
  intro q h hq
  unfold q_md_laysFireFrom at h
  refine zT_seg t_md_laysFireFrom ?_
  obtain ⟨TT, hTT⟩ : ∃ T, T = zT X zFT (zEx 218 S_md_clearsFire (zEx 217 S_md_laysFire zE0)) zc_219 o := ⟨_, rfl⟩
  rw [← hTT]
  refine zl_el h (fun h => zU_l hTT ?_)
  refine zg_el h (fun hg h => zU_ga hTT hg ?_)
  refine zg_el h (fun hg h => zU_ga hTT hg ?_)
  refine zbd_el h (fun v2 hv h => zU_c hTT hv ?_)
  rw [hTT]
  have hz := zsi (P := (fun t => O_md_laysFireFrom ar fi m1 m2 m3 m4 m5 t = o)) h hq
  refine (zO_mk ?_ ?_).trans hz
  · first | with_reducible rfl | exact hA0_md_laysFireFrom _ _ _ _ _ _
  · first | with_reducible rfl | rfl
theorem ok_md_laysFireFrom (X : Nat × (Nat → Int32)) : zOkS X 219 S_md_laysFireFrom 5 := zOkS_new (zOkE_cons (ok_md_clearsFire X) (by decide) (zOkE_cons (ok_md_laysFire X) (by decide) (zOkE_nil X 4))) (by
  intro args g o h
  obtain ⟨ar, fi, m1, m2, m3, m4, m5⟩ := g
  unfold S_md_laysFireFrom P_md_laysFireFrom at h
  split at h
  · refine zb_el h (fun hI0 k0 => ?_) (fun _ h10 => ?_)
    · try simp only [Bool.and_eq_true] at hI0
      have j0 := hI0
      have e0 := Nat.eq_of_beq_eq_true j0
      subst e0
      exact zpe_el k0 (fun t ht ho => by obtain ⟨t0, t1⟩ := t; exact e_md_laysFireFrom _ ht ho)
    · cases h10
  · cases h)
