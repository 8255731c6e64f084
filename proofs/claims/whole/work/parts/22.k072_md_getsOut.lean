abbrev T_md_getsOut : Type := Int32 × (Nat → Int32) × (Nat → Int32) × (Nat → Int32) × (Nat → Int32)
abbrev U_md_getsOut_40 : Type := Int32 × (Nat → Int32)
abbrev U_md_getsOut_109 : Type := Int32 × Int32 × (Nat → Int32) × (Nat → Int32)
abbrev U_md_getsOut_77 : Type := Int32 × Int32 × (Nat → Int32) × (Nat → Int32)
def b_md_getsOut_109 (a68 : Nat → Int32) (l3 : Int32) (l4 : Int32) (b86 : Nat → Int32) (l2 : Int32) (l5 : Int32) (b92 : Nat → Int32) (b93 : Nat → Int32) : Option (U_md_getsOut_109 ⊕ (U_md_getsOut_77 ⊕ T_md_getsOut)) :=
  bif decide (4 ≤ l5) then
   some (.inr (.inl (l2, l3 + 1, b92, b93)))
  else
   zl (w_md_beside l4 l5) (fun v4 =>
   bif decide (v4 = (-1)) then
    some (.inl (l2, l5 + 1, b92, b93))
   else
    zg (zin v4 96) (
    bif decide (a68 (v4.toNatClampNeg) = 3) then
     some (.inl (l2, l5 + 1, b92, b93))
    else
     zg (zin v4 96) (
     bif decide (b92 (v4.toNatClampNeg) = (-1)) then
      zg (zin v4 96) (
      bif decide (b86 (v4.toNatClampNeg) = (-1)) then
       zg (zin l4 96) (
       zg (zin v4 96) (
       zg (zin l2 96) (
       some (.inl (l2 + 1, l5 + 1, (zup b92 (v4.toNatClampNeg) ((b92 (l4.toNatClampNeg)) + 1)), (zup b93 (l2.toNatClampNeg) v4))))))
      else
       zg (zin v4 96) (
       zg (zin l4 96) (
       bif decide ((b92 (l4.toNatClampNeg)) + 1 < b86 (v4.toNatClampNeg)) then
        zg (zin l4 96) (
        zg (zin v4 96) (
        zg (zin l2 96) (
        some (.inl (l2 + 1, l5 + 1, (zup b92 (v4.toNatClampNeg) ((b92 (l4.toNatClampNeg)) + 1)), (zup b93 (l2.toNatClampNeg) v4))))))
       else
        some (.inl (l2, l5 + 1, b92, b93)))))
     else
      some (.inl (l2, l5 + 1, b92, b93)))))
def f_md_getsOut_109 (a68 : Nat → Int32) (l3 : Int32) (l4 : Int32) (b86 : Nat → Int32) : U_md_getsOut_109 → Option (U_md_getsOut_109 ⊕ (U_md_getsOut_77 ⊕ T_md_getsOut)) := fun s => b_md_getsOut_109 a68 l3 l4 b86 s.1 s.2.1 s.2.2.1 s.2.2.2
noncomputable def l_md_getsOut_109 (a68 : Nat → Int32) (l3 : Int32) (l4 : Int32) (b86 : Nat → Int32) (l2 : Int32) (l5 : Int32) (b92 : Nat → Int32) (b93 : Nat → Int32) : Option (U_md_getsOut_77 ⊕ T_md_getsOut) := zlp (f_md_getsOut_109 a68 l3 l4 b86) (l2, l5, b92, b93)
noncomputable def b_md_getsOut_77 (a68 : Nat → Int32) (b86 : Nat → Int32) (b87 : Nat → Int32) (l2 : Int32) (l3 : Int32) (b92 : Nat → Int32) (b93 : Nat → Int32) : Option (U_md_getsOut_77 ⊕ T_md_getsOut) :=
  bif decide (l2 ≤ l3) then
   some (.inr ((-2), b86, b87, b92, b93))
  else
   zg (zin l3 96) (
   zl (w_md_isAtEdge (b93 (l3.toNatClampNeg))) (fun v3 =>
   bif decide (v3 = 0) then
    l_md_getsOut_109 a68 l3 (b93 (l3.toNatClampNeg)) b86 l2 0 b92 b93
   else
    zg (zin (b93 (l3.toNatClampNeg)) 96) (
    some (.inr (b92 ((b93 (l3.toNatClampNeg)).toNatClampNeg), b86, b87, b92, b93)))))
noncomputable def f_md_getsOut_77 (a68 : Nat → Int32) (b86 : Nat → Int32) (b87 : Nat → Int32) : U_md_getsOut_77 → Option (U_md_getsOut_77 ⊕ T_md_getsOut) := fun s => b_md_getsOut_77 a68 b86 b87 s.1 s.2.1 s.2.2.1 s.2.2.2
noncomputable def l_md_getsOut_77 (a68 : Nat → Int32) (b86 : Nat → Int32) (b87 : Nat → Int32) (l2 : Int32) (l3 : Int32) (b92 : Nat → Int32) (b93 : Nat → Int32) : Option T_md_getsOut := zlp (f_md_getsOut_77 a68 b86 b87) (l2, l3, b92, b93)
noncomputable def b_md_getsOut_40 (x : Int32) (a68 : Nat → Int32) (b86 : Nat → Int32) (b87 : Nat → Int32) (b93 : Nat → Int32) (l2 : Int32) (b92 : Nat → Int32) : Option (U_md_getsOut_40 ⊕ T_md_getsOut) :=
  bif decide (96 ≤ l2) then
   zg (zin x 96) (
   zg (zin 0 96) (
   zbd (l_md_getsOut_77 a68 b86 b87 1 0 (zup b92 (x.toNatClampNeg) 0) (zup b93 ((0 : Int32).toNatClampNeg) x)) (fun k => some (.inr k))))
  else
   zg (zin l2 96) (
   some (.inl (l2 + 1, (zup b92 (l2.toNatClampNeg) (-1)))))
noncomputable def f_md_getsOut_40 (x : Int32) (a68 : Nat → Int32) (b86 : Nat → Int32) (b87 : Nat → Int32) (b93 : Nat → Int32) : U_md_getsOut_40 → Option (U_md_getsOut_40 ⊕ T_md_getsOut) := fun s => b_md_getsOut_40 x a68 b86 b87 b93 s.1 s.2
noncomputable def l_md_getsOut_40 (x : Int32) (a68 : Nat → Int32) (b86 : Nat → Int32) (b87 : Nat → Int32) (b93 : Nat → Int32) (l2 : Int32) (b92 : Nat → Int32) : Option T_md_getsOut := zlp (f_md_getsOut_40 x a68 b86 b87 b93) (l2, b92)
noncomputable def q_md_getsOut (x : Int32) (a65 : Nat → Int32) (a68 : Nat → Int32) (a86 : Nat → Int32) (a87 : Nat → Int32) (a92 : Nat → Int32) (a93 : Nat → Int32) : Option T_md_getsOut :=
  zg (g_md_isPlace x) (
  zl (w_md_isPlace x) (fun v1 =>
  bif !decide (v1 = 0) then
   zg (zin x 96) (
   bif decide (a68 (x.toNatClampNeg) = 3) then
    some ((-3), a86, a87, a92, a93)
   else
    zg (zin (0 + x) 315) (
    bif !decide (a65 ((0 + x).toNatClampNeg) = 1) then
     zbd (q_md_laysFireNow a65 a68 a86 a87) (fun v2 =>
     l_md_getsOut_40 x a68 ((v2.1)) ((v2.2)) a93 0 a92)
    else
     some ((-3), a86, a87, a92, a93)))
  else
   some ((-1), a86, a87, a92, a93)))
def P_md_getsOut (Q : Int32 → (Nat → Int32) → (Nat → Int32) → (Nat → Int32) → (Nat → Int32) → (Nat → Int32) → (Nat → Int32) → Option (Int32 × (Nat → Int32) × (Nat → Int32) × (Nat → Int32) × (Nat → Int32))) : zSp := fun as g => match as with
  | [.ref a, .int x] => bif Nat.beq a 64 then zpe (Q x (g.1 65) (g.1 68) (g.1 86) (g.1 87) (g.1 92) (g.1 93)) (fun t => (some (.int (t.1)), ((zua (zua (zua (zua g.1 86 t.2.1) 87 t.2.2.1) 92 t.2.2.2.1) 93 t.2.2.2.2), g.2.1, g.2.2))) else none
  | _ => none
noncomputable abbrev S_md_getsOut : zSp := P_md_getsOut q_md_getsOut
theorem hA4_md_getsOut (F : Nat → Nat → Int32) (w0 w1 : Nat → Int32) : (zua (zua F 86 w0) 87 w1) = (zua (zua (zua (zua F 86 w0) 87 w1) 92 (F 92)) 93 (F 93)) := zuak_ix F [(86, w0), (87, w1)] [(86, some 0), (87, some 1), (92, none), (93, none)] rfl
theorem hA3_md_getsOut (F : Nat → Nat → Int32) : F = (zua (zua (zua (zua F 86 (F 86)) 87 (F 87)) 92 (F 92)) 93 (F 93)) := zuak_ix F [] [(86, none), (87, none), (92, none), (93, none)] rfl
theorem hA2_md_getsOut (F : Nat → Nat → Int32) (w0 w1 w2 w3 w4 : Nat → Int32) : (zua (zua (zua (zua (zua F 86 w0) 87 w1) 92 w2) 93 w3) 92 w4) = (zua (zua (zua (zua F 86 w0) 87 w1) 92 w4) 93 w3) := zuak_ix F [(86, w0), (87, w1), (92, w2), (93, w3), (92, w4)] [(86, some 0), (87, some 1), (92, some 4), (93, some 3)] rfl
theorem hA1_md_getsOut (F : Nat → Nat → Int32) (w0 w1 w2 w3 w4 w5 : Nat → Int32) : (zua (zua (zua (zua (zua (zua F 86 w0) 87 w1) 92 w2) 93 w3) 92 w4) 93 w5) = (zua (zua (zua (zua F 86 w0) 87 w1) 92 w4) 93 w5) := zuak_ix F [(86, w0), (87, w1), (92, w2), (93, w3), (92, w4), (93, w5)] [(86, some 0), (87, some 1), (92, some 4), (93, some 5)] rfl
theorem hA0_md_getsOut (F : Nat → Nat → Int32) (w0 w1 w2 w3 : Nat → Int32) : (zua (zua (zua (zua F 86 w0) 87 w1) 92 w2) 93 w3) = (zua (zua (zua (zua F 86 w0) 87 w1) 92 w2) 93 w3) := zuak_ix F [(86, w0), (87, w1), (92, w2), (93, w3)] [(86, some 0), (87, some 1), (92, some 2), (93, some 3)] rfl
def O_md_getsOut (ar fi : Nat → Nat → Int32) (m1 : Nat) (m2 : Nat) (m3 : Nat) (m4 : Nat) (m5 : Nat) (t : T_md_getsOut) : zO2 := match t with
  | (t0, t1, t2, t3, t4) => (some (.int (t0)), ((zua (zua (zua (zua ar 86 t1) 87 t2) 92 t3) 93 t4), fi, (m1, m2, m3, m4, m5)))
def M_md_getsOut_109 (X : Nat × (Nat → Int32)) (E : zTE) (ar fi : Nat → Nat → Int32) (m1 : Nat) (m2 : Nat) (m3 : Nat) (m4 : Nat) (m5 : Nat) (x : Int32) (l3 : Int32) (l4 : Int32) (b86 : Nat → Int32) (b87 : Nat → Int32) (o : zO2) (s : U_md_getsOut_109) : Prop := match s with
  | (l2, l5, b92, b93) => zR2 X zFT E zc_230 109 [.ref 64, .int x, .int l2, .int l3, .int l4, .int l5] [] ((zua (zua (zua (zua ar 86 b86) 87 b87) 92 b92) 93 b93), fi, (m1, m2, m3, m4, m5)) o
def M_md_getsOut_77 (X : Nat × (Nat → Int32)) (E : zTE) (ar fi : Nat → Nat → Int32) (m1 : Nat) (m2 : Nat) (m3 : Nat) (m4 : Nat) (m5 : Nat) (x : Int32) (b86 : Nat → Int32) (b87 : Nat → Int32) (o : zO2) (s : U_md_getsOut_77) : Prop := match s with
  | (l2, l3, b92, b93) => zR2 X zFT E zc_230 77 [.ref 64, .int x, .int l2, .int l3] [] ((zua (zua (zua (zua ar 86 b86) 87 b87) 92 b92) 93 b93), fi, (m1, m2, m3, m4, m5)) o
def M_md_getsOut_40 (X : Nat × (Nat → Int32)) (E : zTE) (ar fi : Nat → Nat → Int32) (m1 : Nat) (m2 : Nat) (m3 : Nat) (m4 : Nat) (m5 : Nat) (x : Int32) (b86 : Nat → Int32) (b87 : Nat → Int32) (b93 : Nat → Int32) (o : zO2) (s : U_md_getsOut_40) : Prop := match s with
  | (l2, b92) => zR2 X zFT E zc_230 40 [.ref 64, .int x, .int l2] [] ((zua (zua (zua (zua ar 86 b86) 87 b87) 92 b92) 93 b93), fi, (m1, m2, m3, m4, m5)) o
set_option maxRecDepth 1000000 in
theorem t109_md_getsOut {X : Nat × (Nat → Int32)} {ar fi : Nat → Nat → Int32} {m1 m2 m3 m4 m5 : Nat} {x : Int32} {l2 : Int32} {l3 : Int32} {l4 : Int32} {l5 : Int32} {b86 : Nat → Int32} {b87 : Nat → Int32} {b92 : Nat → Int32} {b93 : Nat → Int32} {G_md_isPlace : Int32 → Bool} {W_md_isPlace : Int32 → Int32} {Q_md_laysFireNow : (Nat → Int32) → (Nat → Int32) → (Nat → Int32) → (Nat → Int32) → Option ((Nat → Int32) × (Nat → Int32))} {W_md_isAtEdge : Int32 → Int32} {W_md_beside : Int32 → Int32 → Int32} : zseg X zFT (zEx 149 (P_md_isPlace G_md_isPlace W_md_isPlace) (zEx 220 (P_md_laysFireNow Q_md_laysFireNow) (zEx 229 (P_md_isAtEdge W_md_isAtEdge) (zEx 151 (P_md_beside W_md_beside) zE0)))) zc_230 (fun p => Nat.beq p 40 || Nat.beq p 109 || Nat.beq p 77) 400 109 [.ref 64, .int x, .int l2, .int l3, .int l4, .int l5] [] ((zua (zua (zua (zua ar 86 b86) 87 b87) 92 b92) 93 b93), fi, (m1, m2, m3, m4, m5)) = (
  bif decide (4 ≤ l5) then
   some (.inl (77, [.ref 64, .int x, .int l2, .int (l3 + 1)], [], ((zua (zua (zua (zua ar 86 b86) 87 b87) 92 b92) 93 b93), fi, (m1, m2, m3, m4, m5))))
  else
   zl (W_md_beside l4 l5) (fun v4 =>
   bif decide (v4 = (-1)) then
    some (.inl (109, [.ref 64, .int x, .int l2, .int l3, .int l4, .int (l5 + 1)], [], ((zua (zua (zua (zua ar 86 b86) 87 b87) 92 b92) 93 b93), fi, (m1, m2, m3, m4, m5))))
   else
    zg (Nat.beq 16 16 && (zin v4 96)) (
    bif decide ((ar 68) (v4.toNatClampNeg) = 3) then
     some (.inl (109, [.ref 64, .int x, .int l2, .int l3, .int l4, .int (l5 + 1)], [], ((zua (zua (zua (zua ar 86 b86) 87 b87) 92 b92) 93 b93), fi, (m1, m2, m3, m4, m5))))
    else
     zg (Nat.beq 16 16 && (zin v4 96)) (
     bif decide (b92 (v4.toNatClampNeg) = (-1)) then
      zg (Nat.beq 16 16 && (zin v4 96)) (
      bif decide (b86 (v4.toNatClampNeg) = (-1)) then
       zg (Nat.beq 16 16 && (zin l4 96)) (
       zg (Nat.beq 16 16 && (zin v4 96)) (
       zg (Nat.beq 16 16 && (zin l2 96)) (
       some (.inl (109, [.ref 64, .int x, .int (l2 + 1), .int l3, .int l4, .int (l5 + 1)], [], ((zua (zua (zua (zua (zua (zua ar 86 b86) 87 b87) 92 b92) 93 b93) 92 (zup b92 (v4.toNatClampNeg) ((b92 (l4.toNatClampNeg)) + 1))) 93 (zup b93 (l2.toNatClampNeg) v4)), fi, (m1, m2, m3, m4, m5)))))))
      else
       zg (Nat.beq 16 16 && (zin v4 96)) (
       zg (Nat.beq 16 16 && (zin l4 96)) (
       bif decide ((b92 (l4.toNatClampNeg)) + 1 < b86 (v4.toNatClampNeg)) then
        zg (Nat.beq 16 16 && (zin l4 96)) (
        zg (Nat.beq 16 16 && (zin v4 96)) (
        zg (Nat.beq 16 16 && (zin l2 96)) (
        some (.inl (109, [.ref 64, .int x, .int (l2 + 1), .int l3, .int l4, .int (l5 + 1)], [], ((zua (zua (zua (zua (zua (zua ar 86 b86) 87 b87) 92 b92) 93 b93) 92 (zup b92 (v4.toNatClampNeg) ((b92 (l4.toNatClampNeg)) + 1))) 93 (zup b93 (l2.toNatClampNeg) v4)), fi, (m1, m2, m3, m4, m5)))))))
       else
        some (.inl (109, [.ref 64, .int x, .int l2, .int l3, .int l4, .int (l5 + 1)], [], ((zua (zua (zua (zua ar 86 b86) 87 b87) 92 b92) 93 b93), fi, (m1, m2, m3, m4, m5)))))))
     else
      some (.inl (109, [.ref 64, .int x, .int l2, .int l3, .int l4, .int (l5 + 1)], [], ((zua (zua (zua (zua ar 86 b86) 87 b87) 92 b92) 93 b93), fi, (m1, m2, m3, m4, m5))))))) : Option ((Nat × List Value × List Value × zH2) ⊕ zO2)) := by with_unfolding_all rfl
set_option maxRecDepth 20000 in
theorem k_md_getsOut_109 {X : Nat × (Nat → Int32)} {ar fi : Nat → Nat → Int32} {m1 m2 m3 m4 m5 : Nat} {x : Int32} {l3 : Int32} {l4 : Int32} {b86 : Nat → Int32} {b87 : Nat → Int32} {o : zO2} : ∀ (s : U_md_getsOut_109) (q : U_md_getsOut_109 ⊕ (U_md_getsOut_77 ⊕ T_md_getsOut)), f_md_getsOut_109 (ar 68) l3 l4 b86 s = some q → zq (M_md_getsOut_109 X (zEx 149 S_md_isPlace (zEx 220 S_md_laysFireNow (zEx 229 S_md_isAtEdge (zEx 151 S_md_beside zE0)))) ar fi m1 m2 m3 m4 m5 x l3 l4 b86 b87 o) (zq (M_md_getsOut_77 X (zEx 149 S_md_isPlace (zEx 220 S_md_laysFireNow (zEx 229 S_md_isAtEdge (zEx 151 S_md_beside zE0)))) ar fi m1 m2 m3 m4 m5 x b86 b87 o) (fun t => O_md_getsOut ar fi m1 m2 m3 m4 m5 t = o)) q → M_md_getsOut_109 X (zEx 149 S_md_isPlace (zEx 220 S_md_laysFireNow (zEx 229 S_md_isAtEdge (zEx 151 S_md_beside zE0)))) ar fi m1 m2 m3 m4 m5 x l3 l4 b86 b87 o s := by
  intro s q h hq
  obtain ⟨l2, l5, b92, b93⟩ := s
  have h : b_md_getsOut_109 (ar 68) l3 l4 b86 l2 l5 b92 b93 = some q := h
  unfold b_md_getsOut_109 at h
  show zR2 X zFT (zEx 149 S_md_isPlace (zEx 220 S_md_laysFireNow (zEx 229 S_md_isAtEdge (zEx 151 S_md_beside zE0)))) zc_230 109 [.ref 64, .int x, .int l2, .int l3, .int l4, .int l5] [] ((zua (zua (zua (zua ar 86 b86) 87 b87) 92 b92) 93 b93), fi, (m1, m2, m3, m4, m5)) o
  refine zT_seg t109_md_getsOut ?_
  obtain ⟨TT, hTT⟩ : ∃ T, T = zT X zFT (zEx 149 S_md_isPlace (zEx 220 S_md_laysFireNow (zEx 229 S_md_isAtEdge (zEx 151 S_md_beside zE0)))) zc_230 o := ⟨_, rfl⟩
  rw [← hTT]
  refine zb_el h (fun hb h => zU_t hTT hb ?_) (fun hb h => zU_f hTT hb ?_)
  · rw [hTT]
    have hz := zsi h hq
    refine zR2_hp ?_ ?_ hz
    · first | with_reducible rfl | exact hA0_md_getsOut _ _ _ _ _
    · first | with_reducible rfl | rfl
  · refine zl_el h (fun h => zU_l hTT ?_)
    refine zb_el h (fun hb h => zU_t hTT hb ?_) (fun hb h => zU_f hTT hb ?_)
    · rw [hTT]
      have hz := zsi h hq
      refine zR2_hp ?_ ?_ hz
      · first | with_reducible rfl | exact hA0_md_getsOut _ _ _ _ _
      · first | with_reducible rfl | rfl
    · refine zg_el h (fun hg h => zU_ga hTT hg ?_)
      refine zb_el h (fun hb h => zU_t hTT hb ?_) (fun hb h => zU_f hTT hb ?_)
      · rw [hTT]
        have hz := zsi h hq
        refine zR2_hp ?_ ?_ hz
        · first | with_reducible rfl | exact hA0_md_getsOut _ _ _ _ _
        · first | with_reducible rfl | rfl
      · refine zg_el h (fun hg h => zU_ga hTT hg ?_)
        refine zb_el h (fun hb h => zU_t hTT hb ?_) (fun hb h => zU_f hTT hb ?_)
        · refine zg_el h (fun hg h => zU_ga hTT hg ?_)
          refine zb_el h (fun hb h => zU_t hTT hb ?_) (fun hb h => zU_f hTT hb ?_)
          · refine zg_el h (fun hg h => zU_ga hTT hg ?_)
            refine zg_el h (fun hg h => zU_ga hTT hg ?_)
            refine zg_el h (fun hg h => zU_ga hTT hg ?_)
            rw [hTT]
            have hz := zsi h hq
            refine zR2_hp ?_ ?_ hz
            · first | with_reducible rfl | exact hA1_md_getsOut _ _ _ _ _ _ _
            · first | with_reducible rfl | rfl
          · refine zg_el h (fun hg h => zU_ga hTT hg ?_)
            refine zg_el h (fun hg h => zU_ga hTT hg ?_)
            refine zb_el h (fun hb h => zU_t hTT hb ?_) (fun hb h => zU_f hTT hb ?_)
            · refine zg_el h (fun hg h => zU_ga hTT hg ?_)
              refine zg_el h (fun hg h => zU_ga hTT hg ?_)
              refine zg_el h (fun hg h => zU_ga hTT hg ?_)
              rw [hTT]
              have hz := zsi h hq
              refine zR2_hp ?_ ?_ hz
              · first | with_reducible rfl | exact hA1_md_getsOut _ _ _ _ _ _ _
              · first | with_reducible rfl | rfl
            · rw [hTT]
              have hz := zsi h hq
              refine zR2_hp ?_ ?_ hz
              · first | with_reducible rfl | exact hA0_md_getsOut _ _ _ _ _
              · first | with_reducible rfl | rfl
        · rw [hTT]
          have hz := zsi h hq
          refine zR2_hp ?_ ?_ hz
          · first | with_reducible rfl | exact hA0_md_getsOut _ _ _ _ _
          · first | with_reducible rfl | rfl
set_option maxRecDepth 1000000 in
theorem t77_md_getsOut {X : Nat × (Nat → Int32)} {ar fi : Nat → Nat → Int32} {m1 m2 m3 m4 m5 : Nat} {x : Int32} {l2 : Int32} {l3 : Int32} {b86 : Nat → Int32} {b87 : Nat → Int32} {b92 : Nat → Int32} {b93 : Nat → Int32} {G_md_isPlace : Int32 → Bool} {W_md_isPlace : Int32 → Int32} {Q_md_laysFireNow : (Nat → Int32) → (Nat → Int32) → (Nat → Int32) → (Nat → Int32) → Option ((Nat → Int32) × (Nat → Int32))} {W_md_isAtEdge : Int32 → Int32} {W_md_beside : Int32 → Int32 → Int32} : zseg X zFT (zEx 149 (P_md_isPlace G_md_isPlace W_md_isPlace) (zEx 220 (P_md_laysFireNow Q_md_laysFireNow) (zEx 229 (P_md_isAtEdge W_md_isAtEdge) (zEx 151 (P_md_beside W_md_beside) zE0)))) zc_230 (fun p => Nat.beq p 40 || Nat.beq p 109 || Nat.beq p 77) 400 77 [.ref 64, .int x, .int l2, .int l3] [] ((zua (zua (zua (zua ar 86 b86) 87 b87) 92 b92) 93 b93), fi, (m1, m2, m3, m4, m5)) = (
  bif decide (l2 ≤ l3) then
   some (.inr (some (.int (-2)), ((zua (zua (zua (zua ar 86 b86) 87 b87) 92 b92) 93 b93), fi, (m1, m2, m3, m4, m5))))
  else
   zg (Nat.beq 16 16 && (zin l3 96)) (
   zl (W_md_isAtEdge (b93 (l3.toNatClampNeg))) (fun v3 =>
   bif decide (v3 = 0) then
    some (.inl (109, [.ref 64, .int x, .int l2, .int l3, .int (b93 (l3.toNatClampNeg)), .int 0], [], ((zua (zua (zua (zua ar 86 b86) 87 b87) 92 b92) 93 b93), fi, (m1, m2, m3, m4, m5))))
   else
    zg (Nat.beq 16 16 && (zin (b93 (l3.toNatClampNeg)) 96)) (
    some (.inr (some (.int (b92 ((b93 (l3.toNatClampNeg)).toNatClampNeg))), ((zua (zua (zua (zua ar 86 b86) 87 b87) 92 b92) 93 b93), fi, (m1, m2, m3, m4, m5))))))) : Option ((Nat × List Value × List Value × zH2) ⊕ zO2)) := by with_unfolding_all rfl
set_option maxRecDepth 20000 in
theorem k_md_getsOut_77 {X : Nat × (Nat → Int32)} {ar fi : Nat → Nat → Int32} {m1 m2 m3 m4 m5 : Nat} {x : Int32} {b86 : Nat → Int32} {b87 : Nat → Int32} {o : zO2} : ∀ (s : U_md_getsOut_77) (q : U_md_getsOut_77 ⊕ T_md_getsOut), f_md_getsOut_77 (ar 68) b86 b87 s = some q → zq (M_md_getsOut_77 X (zEx 149 S_md_isPlace (zEx 220 S_md_laysFireNow (zEx 229 S_md_isAtEdge (zEx 151 S_md_beside zE0)))) ar fi m1 m2 m3 m4 m5 x b86 b87 o) (fun t => O_md_getsOut ar fi m1 m2 m3 m4 m5 t = o) q → M_md_getsOut_77 X (zEx 149 S_md_isPlace (zEx 220 S_md_laysFireNow (zEx 229 S_md_isAtEdge (zEx 151 S_md_beside zE0)))) ar fi m1 m2 m3 m4 m5 x b86 b87 o s := by
  intro s q h hq
  obtain ⟨l2, l3, b92, b93⟩ := s
  have h : b_md_getsOut_77 (ar 68) b86 b87 l2 l3 b92 b93 = some q := h
  unfold b_md_getsOut_77 at h
  show zR2 X zFT (zEx 149 S_md_isPlace (zEx 220 S_md_laysFireNow (zEx 229 S_md_isAtEdge (zEx 151 S_md_beside zE0)))) zc_230 77 [.ref 64, .int x, .int l2, .int l3] [] ((zua (zua (zua (zua ar 86 b86) 87 b87) 92 b92) 93 b93), fi, (m1, m2, m3, m4, m5)) o
  refine zT_seg t77_md_getsOut ?_
  obtain ⟨TT, hTT⟩ : ∃ T, T = zT X zFT (zEx 149 S_md_isPlace (zEx 220 S_md_laysFireNow (zEx 229 S_md_isAtEdge (zEx 151 S_md_beside zE0)))) zc_230 o := ⟨_, rfl⟩
  rw [← hTT]
  refine zb_el h (fun hb h => zU_t hTT hb ?_) (fun hb h => zU_f hTT hb ?_)
  · rw [hTT]
    have hz := zsi h hq
    refine (zO_mk ?_ ?_).trans hz
    · first | with_reducible rfl | exact hA0_md_getsOut _ _ _ _ _
    · first | with_reducible rfl | rfl
  · refine zg_el h (fun hg h => zU_ga hTT hg ?_)
    refine zl_el h (fun h => zU_l hTT ?_)
    refine zb_el h (fun hb h => zU_t hTT hb ?_) (fun hb h => zU_f hTT hb ?_)
    · rw [hTT]
      apply zR2_hp ?hA ?hF (zlp_K k_md_getsOut_109 h hq)
      case hA => first | with_reducible rfl | exact hA0_md_getsOut _ _ _ _ _
      case hF => first | with_reducible rfl | rfl
    · refine zg_el h (fun hg h => zU_ga hTT hg ?_)
      rw [hTT]
      have hz := zsi h hq
      refine (zO_mk ?_ ?_).trans hz
      · first | with_reducible rfl | exact hA0_md_getsOut _ _ _ _ _
      · first | with_reducible rfl | rfl
set_option maxRecDepth 1000000 in
theorem t40_md_getsOut {X : Nat × (Nat → Int32)} {ar fi : Nat → Nat → Int32} {m1 m2 m3 m4 m5 : Nat} {x : Int32} {l2 : Int32} {b86 : Nat → Int32} {b87 : Nat → Int32} {b92 : Nat → Int32} {b93 : Nat → Int32} {G_md_isPlace : Int32 → Bool} {W_md_isPlace : Int32 → Int32} {Q_md_laysFireNow : (Nat → Int32) → (Nat → Int32) → (Nat → Int32) → (Nat → Int32) → Option ((Nat → Int32) × (Nat → Int32))} {W_md_isAtEdge : Int32 → Int32} {W_md_beside : Int32 → Int32 → Int32} : zseg X zFT (zEx 149 (P_md_isPlace G_md_isPlace W_md_isPlace) (zEx 220 (P_md_laysFireNow Q_md_laysFireNow) (zEx 229 (P_md_isAtEdge W_md_isAtEdge) (zEx 151 (P_md_beside W_md_beside) zE0)))) zc_230 (fun p => Nat.beq p 40 || Nat.beq p 109 || Nat.beq p 77) 400 40 [.ref 64, .int x, .int l2] [] ((zua (zua (zua (zua ar 86 b86) 87 b87) 92 b92) 93 b93), fi, (m1, m2, m3, m4, m5)) = (
  bif decide (96 ≤ l2) then
   zg (Nat.beq 16 16 && (zin x 96)) (
   zg (Nat.beq 16 16 && (zin 0 96)) (
   some (.inl (77, [.ref 64, .int x, .int 1, .int 0], [], ((zua (zua (zua (zua (zua (zua ar 86 b86) 87 b87) 92 b92) 93 b93) 92 (zup b92 (x.toNatClampNeg) 0)) 93 (zup b93 ((0 : Int32).toNatClampNeg) x)), fi, (m1, m2, m3, m4, m5))))))
  else
   zg (Nat.beq 16 16 && (zin l2 96)) (
   some (.inl (40, [.ref 64, .int x, .int (l2 + 1)], [], ((zua (zua (zua (zua (zua ar 86 b86) 87 b87) 92 b92) 93 b93) 92 (zup b92 (l2.toNatClampNeg) (-1))), fi, (m1, m2, m3, m4, m5))))) : Option ((Nat × List Value × List Value × zH2) ⊕ zO2)) := by with_unfolding_all rfl
set_option maxRecDepth 20000 in
theorem k_md_getsOut_40 {X : Nat × (Nat → Int32)} {ar fi : Nat → Nat → Int32} {m1 m2 m3 m4 m5 : Nat} {x : Int32} {b86 : Nat → Int32} {b87 : Nat → Int32} {b93 : Nat → Int32} {o : zO2} : ∀ (s : U_md_getsOut_40) (q : U_md_getsOut_40 ⊕ T_md_getsOut), f_md_getsOut_40 x (ar 68) b86 b87 b93 s = some q → zq (M_md_getsOut_40 X (zEx 149 S_md_isPlace (zEx 220 S_md_laysFireNow (zEx 229 S_md_isAtEdge (zEx 151 S_md_beside zE0)))) ar fi m1 m2 m3 m4 m5 x b86 b87 b93 o) (fun t => O_md_getsOut ar fi m1 m2 m3 m4 m5 t = o) q → M_md_getsOut_40 X (zEx 149 S_md_isPlace (zEx 220 S_md_laysFireNow (zEx 229 S_md_isAtEdge (zEx 151 S_md_beside zE0)))) ar fi m1 m2 m3 m4 m5 x b86 b87 b93 o s := by
  intro s q h hq
  obtain ⟨l2, b92⟩ := s
  have h : b_md_getsOut_40 x (ar 68) b86 b87 b93 l2 b92 = some q := h
  unfold b_md_getsOut_40 at h
  show zR2 X zFT (zEx 149 S_md_isPlace (zEx 220 S_md_laysFireNow (zEx 229 S_md_isAtEdge (zEx 151 S_md_beside zE0)))) zc_230 40 [.ref 64, .int x, .int l2] [] ((zua (zua (zua (zua ar 86 b86) 87 b87) 92 b92) 93 b93), fi, (m1, m2, m3, m4, m5)) o
  refine zT_seg t40_md_getsOut ?_
  obtain ⟨TT, hTT⟩ : ∃ T, T = zT X zFT (zEx 149 S_md_isPlace (zEx 220 S_md_laysFireNow (zEx 229 S_md_isAtEdge (zEx 151 S_md_beside zE0)))) zc_230 o := ⟨_, rfl⟩
  rw [← hTT]
  refine zb_el h (fun hb h => zU_t hTT hb ?_) (fun hb h => zU_f hTT hb ?_)
  · refine zg_el h (fun hg h => zU_ga hTT hg ?_)
    refine zg_el h (fun hg h => zU_ga hTT hg ?_)
    rw [hTT]
    refine zbd_el h (fun r hr h => ?_)
    have hz := zsi h hq
    refine zR2_hp ?_ ?_ (zlp_K k_md_getsOut_77 hr hz)
    · first | with_reducible rfl | exact hA1_md_getsOut _ _ _ _ _ _ _
    · first | with_reducible rfl | rfl
  · refine zg_el h (fun hg h => zU_ga hTT hg ?_)
    rw [hTT]
    have hz := zsi h hq
    refine zR2_hp ?_ ?_ hz
    · first | with_reducible rfl | exact hA2_md_getsOut _ _ _ _ _ _
    · first | with_reducible rfl | rfl
set_option maxRecDepth 1000000 in
theorem t_md_getsOut {X : Nat × (Nat → Int32)} {ar fi : Nat → Nat → Int32} {m1 m2 m3 m4 m5 : Nat} {x : Int32} {G_md_isPlace : Int32 → Bool} {W_md_isPlace : Int32 → Int32} {Q_md_laysFireNow : (Nat → Int32) → (Nat → Int32) → (Nat → Int32) → (Nat → Int32) → Option ((Nat → Int32) × (Nat → Int32))} {W_md_isAtEdge : Int32 → Int32} {W_md_beside : Int32 → Int32 → Int32} : zseg X zFT (zEx 149 (P_md_isPlace G_md_isPlace W_md_isPlace) (zEx 220 (P_md_laysFireNow Q_md_laysFireNow) (zEx 229 (P_md_isAtEdge W_md_isAtEdge) (zEx 151 (P_md_beside W_md_beside) zE0)))) zc_230 (fun p => Nat.beq p 40 || Nat.beq p 109 || Nat.beq p 77) 400 0 [.ref 64, .int x] [] (ar, fi, (m1, m2, m3, m4, m5)) = (
  zg (G_md_isPlace x) (
  zl (W_md_isPlace x) (fun v1 =>
  bif !decide (v1 = 0) then
   zg (Nat.beq 16 16 && (zin x 96)) (
   bif decide ((ar 68) (x.toNatClampNeg) = 3) then
    some (.inr (some (.int (-3)), (ar, fi, (m1, m2, m3, m4, m5))))
   else
    zg (Nat.beq 16 16 && (zin (0 + x) 315)) (
    bif !decide ((ar 65) ((0 + x).toNatClampNeg) = 1) then
     zl (Q_md_laysFireNow (ar 65) (ar 68) (ar 86) (ar 87)) (fun v2 => zg v2.isSome (
     some (.inl (40, [.ref 64, .int x, .int 0], [], ((zua (zua ar 86 (((zgt v2).1))) 87 (((zgt v2).2))), fi, (m1, m2, m3, m4, m5))))))
    else
     some (.inr (some (.int (-3)), (ar, fi, (m1, m2, m3, m4, m5))))))
  else
   some (.inr (some (.int (-1)), (ar, fi, (m1, m2, m3, m4, m5)))))) : Option ((Nat × List Value × List Value × zH2) ⊕ zO2)) := by with_unfolding_all rfl
set_option maxRecDepth 20000 in
theorem e_md_getsOut {X : Nat × (Nat → Int32)} {ar fi : Nat → Nat → Int32} {m1 m2 m3 m4 m5 : Nat} {x : Int32} {o : zO2} : ∀ (q : T_md_getsOut), q_md_getsOut x (ar 65) (ar 68) (ar 86) (ar 87) (ar 92) (ar 93) = some q → (fun t => O_md_getsOut ar fi m1 m2 m3 m4 m5 t = o) q → zR2 X zFT (zEx 149 S_md_isPlace (zEx 220 S_md_laysFireNow (zEx 229 S_md_isAtEdge (zEx 151 S_md_beside zE0)))) zc_230 0 [.ref 64, .int x] [] (ar, fi, (m1, m2, m3, m4, m5)) o := by
  intro q h hq
  unfold q_md_getsOut at h
  refine zT_seg t_md_getsOut ?_
  obtain ⟨TT, hTT⟩ : ∃ T, T = zT X zFT (zEx 149 S_md_isPlace (zEx 220 S_md_laysFireNow (zEx 229 S_md_isAtEdge (zEx 151 S_md_beside zE0)))) zc_230 o := ⟨_, rfl⟩
  rw [← hTT]
  refine zg_el h (fun hg h => zU_g hTT hg ?_)
  refine zl_el h (fun h => zU_l hTT ?_)
  refine zb_el h (fun hb h => zU_t hTT hb ?_) (fun hb h => zU_f hTT hb ?_)
  · refine zg_el h (fun hg h => zU_ga hTT hg ?_)
    refine zb_el h (fun hb h => zU_t hTT hb ?_) (fun hb h => zU_f hTT hb ?_)
    · rw [hTT]
      have hz := zsi (P := (fun t => O_md_getsOut ar fi m1 m2 m3 m4 m5 t = o)) h hq
      refine (zO_mk ?_ ?_).trans hz
      · first | with_reducible rfl | exact hA3_md_getsOut _
      · first | with_reducible rfl | rfl
    · refine zg_el h (fun hg h => zU_ga hTT hg ?_)
      refine zb_el h (fun hb h => zU_t hTT hb ?_) (fun hb h => zU_f hTT hb ?_)
      · refine zbd_el h (fun v2 hv h => zU_c hTT hv ?_)
        rw [hTT]
        refine zR2_hp ?_ ?_ (zlp_K k_md_getsOut_40 h hq)
        · first | with_reducible rfl | exact hA4_md_getsOut _ _ _
        · first | with_reducible rfl | rfl
      · rw [hTT]
        have hz := zsi (P := (fun t => O_md_getsOut ar fi m1 m2 m3 m4 m5 t = o)) h hq
        refine (zO_mk ?_ ?_).trans hz
        · first | with_reducible rfl | exact hA3_md_getsOut _
        · first | with_reducible rfl | rfl
  · rw [hTT]
    have hz := zsi (P := (fun t => O_md_getsOut ar fi m1 m2 m3 m4 m5 t = o)) h hq
    refine (zO_mk ?_ ?_).trans hz
    · first | with_reducible rfl | exact hA3_md_getsOut _
    · first | with_reducible rfl | rfl
theorem ok_md_getsOut (X : Nat × (Nat → Int32)) : zOkS X 230 S_md_getsOut 6 := zOkS_new (zOkE_cons (ok_md_isPlace X) (by decide) (zOkE_cons (ok_md_laysFireNow X) (by decide) (zOkE_cons (ok_md_isAtEdge X) (by decide) (zOkE_cons (ok_md_beside X) (by decide) (zOkE_nil X 5))))) (by
  intro args g o h
  obtain ⟨ar, fi, m1, m2, m3, m4, m5⟩ := g
  unfold S_md_getsOut P_md_getsOut at h
  split at h
  · refine zb_el h (fun hI0 k0 => ?_) (fun _ h10 => ?_)
    · try simp only [Bool.and_eq_true] at hI0
      have j0 := hI0
      have e0 := Nat.eq_of_beq_eq_true j0
      subst e0
      exact zpe_el k0 (fun t ht ho => by obtain ⟨t0, t1, t2, t3, t4⟩ := t; exact e_md_getsOut _ ht ho)
    · cases h10
  · cases h)
