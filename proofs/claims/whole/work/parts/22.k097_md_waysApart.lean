abbrev T_md_waysApart : Type := Int32 × (Nat → Int32) × (Nat → Int32) × (Nat → Int32) × (Nat → Int32) × (Nat → Int32) × Int32
abbrev U_md_waysApart_34 : Type := Int32 × (Nat → Int32) × (Nat → Int32) × (Nat → Int32) × (Nat → Int32) × (Nat → Int32) × Int32
abbrev U_md_waysApart_5 : Type := Int32 × (Nat → Int32) × (Nat → Int32)
noncomputable def b_md_waysApart_34 (x : Int32) (y : Int32) (a68 : Nat → Int32) (l3 : Int32) (b87 : Nat → Int32) (b88 : Nat → Int32) (b89 : Nat → Int32) (b90 : Nat → Int32) (b91 : Nat → Int32) (c64_40 : Int32) : Option (U_md_waysApart_34 ⊕ T_md_waysApart) :=
  zbd (q_md_findsWay x y a68 b87 b88 b89 b90 c64_40) (fun v1 =>
  bif decide ((v1.1) = 0) then
   some (.inr (l3, ((v1.2.1)), b88, b89, ((v1.2.2.1)), b91, (v1.2.2.2)))
  else
   zbd (q_md_goesAlong x y b88 b89 ((v1.2.2.1)) b91) (fun v2 =>
   some (.inl (l3 + 1, ((v1.2.1)), ((v2.1)), ((v2.2.1)), ((v1.2.2.1)), ((v2.2.2)), (v1.2.2.2)))))
noncomputable def f_md_waysApart_34 (x : Int32) (y : Int32) (a68 : Nat → Int32) : U_md_waysApart_34 → Option (U_md_waysApart_34 ⊕ T_md_waysApart) := fun s => b_md_waysApart_34 x y a68 s.1 s.2.1 s.2.2.1 s.2.2.2.1 s.2.2.2.2.1 s.2.2.2.2.2.1 s.2.2.2.2.2.2
noncomputable def l_md_waysApart_34 (x : Int32) (y : Int32) (a68 : Nat → Int32) (l3 : Int32) (b87 : Nat → Int32) (b88 : Nat → Int32) (b89 : Nat → Int32) (b90 : Nat → Int32) (b91 : Nat → Int32) (c64_40 : Int32) : Option T_md_waysApart := zlp (f_md_waysApart_34 x y a68) (l3, b87, b88, b89, b90, b91, c64_40)
noncomputable def b_md_waysApart_5 (x : Int32) (y : Int32) (a68 : Nat → Int32) (l3 : Int32) (b87 : Nat → Int32) (b90 : Nat → Int32) (b91 : Nat → Int32) (c64_40 : Int32) (l4 : Int32) (b88 : Nat → Int32) (b89 : Nat → Int32) : Option (U_md_waysApart_5 ⊕ T_md_waysApart) :=
  bif decide (96 ≤ l4) then
   zbd (l_md_waysApart_34 x y a68 l3 b87 b88 b89 b90 b91 c64_40) (fun k => some (.inr k))
  else
   zg (zin l4 96) (
   zg (zin l4 96) (
   some (.inl (l4 + 1, (zup b88 (l4.toNatClampNeg) (-1)), (zup b89 (l4.toNatClampNeg) (-1))))))
noncomputable def f_md_waysApart_5 (x : Int32) (y : Int32) (a68 : Nat → Int32) (l3 : Int32) (b87 : Nat → Int32) (b90 : Nat → Int32) (b91 : Nat → Int32) (c64_40 : Int32) : U_md_waysApart_5 → Option (U_md_waysApart_5 ⊕ T_md_waysApart) := fun s => b_md_waysApart_5 x y a68 l3 b87 b90 b91 c64_40 s.1 s.2.1 s.2.2
noncomputable def l_md_waysApart_5 (x : Int32) (y : Int32) (a68 : Nat → Int32) (l3 : Int32) (b87 : Nat → Int32) (b90 : Nat → Int32) (b91 : Nat → Int32) (c64_40 : Int32) (l4 : Int32) (b88 : Nat → Int32) (b89 : Nat → Int32) : Option T_md_waysApart := zlp (f_md_waysApart_5 x y a68 l3 b87 b90 b91 c64_40) (l4, b88, b89)
noncomputable def q_md_waysApart (x : Int32) (y : Int32) (a68 : Nat → Int32) (a87 : Nat → Int32) (a88 : Nat → Int32) (a89 : Nat → Int32) (a90 : Nat → Int32) (a91 : Nat → Int32) (f64_40 : Int32) : Option T_md_waysApart :=
  l_md_waysApart_5 x y a68 0 a87 a90 a91 (f64_40) 0 a88 a89
def P_md_waysApart (Q : Int32 → Int32 → (Nat → Int32) → (Nat → Int32) → (Nat → Int32) → (Nat → Int32) → (Nat → Int32) → (Nat → Int32) → Int32 → Option (Int32 × (Nat → Int32) × (Nat → Int32) × (Nat → Int32) × (Nat → Int32) × (Nat → Int32) × Int32)) : zSp := fun as g => match as with
  | [.ref a, .int x, .int y] => bif Nat.beq a 64 then zpe (Q x y (g.1 68) (g.1 87) (g.1 88) (g.1 89) (g.1 90) (g.1 91) (g.2.1 64 40)) (fun t => (some (.int (t.1)), ((zua (zua (zua (zua (zua g.1 87 t.2.1) 88 t.2.2.1) 89 t.2.2.2.1) 90 t.2.2.2.2.1) 91 t.2.2.2.2.2.1), (zuf g.2.1 64 40 t.2.2.2.2.2.2), g.2.2))) else none
  | _ => none
noncomputable abbrev S_md_waysApart : zSp := P_md_waysApart q_md_waysApart
theorem hF7_md_waysApart (F : Nat → Nat → Int32) : F = (zuf F 64 40 (F 64 40)) := zufk_ix F [] [((64, 40), none)] rfl
theorem hA6_md_waysApart (F : Nat → Nat → Int32) : F = (zua (zua (zua (zua (zua F 87 (F 87)) 88 (F 88)) 89 (F 89)) 90 (F 90)) 91 (F 91)) := zuak_ix F [] [(87, none), (88, none), (89, none), (90, none), (91, none)] rfl
theorem hA5_md_waysApart (F : Nat → Nat → Int32) (w0 w1 w2 w3 w4 w5 w6 : Nat → Int32) : (zua (zua (zua (zua (zua (zua (zua F 87 w0) 88 w1) 89 w2) 90 w3) 91 w4) 88 w5) 89 w6) = (zua (zua (zua (zua (zua F 87 w0) 88 w5) 89 w6) 90 w3) 91 w4) := zuak_ix F [(87, w0), (88, w1), (89, w2), (90, w3), (91, w4), (88, w5), (89, w6)] [(87, some 0), (88, some 5), (89, some 6), (90, some 3), (91, some 4)] rfl
theorem hF4_md_waysApart (F : Nat → Nat → Int32) (w0 : Int32) : (zuf F 64 40 w0) = (zuf F 64 40 w0) := zufk_ix F [((64, 40), w0)] [((64, 40), some 0)] rfl
theorem hA3_md_waysApart (F : Nat → Nat → Int32) (w0 w1 w2 w3 w4 : Nat → Int32) : (zua (zua (zua (zua (zua F 87 w0) 88 w1) 89 w2) 90 w3) 91 w4) = (zua (zua (zua (zua (zua F 87 w0) 88 w1) 89 w2) 90 w3) 91 w4) := zuak_ix F [(87, w0), (88, w1), (89, w2), (90, w3), (91, w4)] [(87, some 0), (88, some 1), (89, some 2), (90, some 3), (91, some 4)] rfl
theorem hA2_md_waysApart (F : Nat → Nat → Int32) (w0 w1 w2 w3 w4 w5 w6 w7 w8 w9 : Nat → Int32) : (zua (zua (zua (zua (zua (zua (zua (zua (zua (zua F 87 w0) 88 w1) 89 w2) 90 w3) 91 w4) 87 w5) 90 w6) 88 w7) 89 w8) 91 w9) = (zua (zua (zua (zua (zua F 87 w5) 88 w7) 89 w8) 90 w6) 91 w9) := zuak_ix F [(87, w0), (88, w1), (89, w2), (90, w3), (91, w4), (87, w5), (90, w6), (88, w7), (89, w8), (91, w9)] [(87, some 5), (88, some 7), (89, some 8), (90, some 6), (91, some 9)] rfl
theorem hF1_md_waysApart (F : Nat → Nat → Int32) (w0 w1 : Int32) : (zuf (zuf F 64 40 w0) 64 40 w1) = (zuf F 64 40 w1) := zufk_ix F [((64, 40), w0), ((64, 40), w1)] [((64, 40), some 1)] rfl
theorem hA0_md_waysApart (F : Nat → Nat → Int32) (w0 w1 w2 w3 w4 w5 w6 : Nat → Int32) : (zua (zua (zua (zua (zua (zua (zua F 87 w0) 88 w1) 89 w2) 90 w3) 91 w4) 87 w5) 90 w6) = (zua (zua (zua (zua (zua F 87 w5) 88 w1) 89 w2) 90 w6) 91 w4) := zuak_ix F [(87, w0), (88, w1), (89, w2), (90, w3), (91, w4), (87, w5), (90, w6)] [(87, some 5), (88, some 1), (89, some 2), (90, some 6), (91, some 4)] rfl
def O_md_waysApart (ar fi : Nat → Nat → Int32) (m1 : Nat) (m2 : Nat) (m3 : Nat) (m4 : Nat) (m5 : Nat) (t : T_md_waysApart) : zO2 := match t with
  | (t0, t1, t2, t3, t4, t5, t6) => (some (.int (t0)), ((zua (zua (zua (zua (zua ar 87 t1) 88 t2) 89 t3) 90 t4) 91 t5), (zuf fi 64 40 t6), (m1, m2, m3, m4, m5)))
def M_md_waysApart_34 (X : Nat × (Nat → Int32)) (E : zTE) (ar fi : Nat → Nat → Int32) (m1 : Nat) (m2 : Nat) (m3 : Nat) (m4 : Nat) (m5 : Nat) (x : Int32) (y : Int32) (o : zO2) (s : U_md_waysApart_34) : Prop := match s with
  | (l3, b87, b88, b89, b90, b91, c64_40) => zR2 X zFT E zc_226 34 [.ref 64, .int x, .int y, .int l3] [] ((zua (zua (zua (zua (zua ar 87 b87) 88 b88) 89 b89) 90 b90) 91 b91), (zuf fi 64 40 c64_40), (m1, m2, m3, m4, m5)) o
def M_md_waysApart_5 (X : Nat × (Nat → Int32)) (E : zTE) (ar fi : Nat → Nat → Int32) (m1 : Nat) (m2 : Nat) (m3 : Nat) (m4 : Nat) (m5 : Nat) (x : Int32) (y : Int32) (l3 : Int32) (b87 : Nat → Int32) (b90 : Nat → Int32) (b91 : Nat → Int32) (c64_40 : Int32) (o : zO2) (s : U_md_waysApart_5) : Prop := match s with
  | (l4, b88, b89) => zR2 X zFT E zc_226 5 [.ref 64, .int x, .int y, .int l3, .int l4] [] ((zua (zua (zua (zua (zua ar 87 b87) 88 b88) 89 b89) 90 b90) 91 b91), (zuf fi 64 40 c64_40), (m1, m2, m3, m4, m5)) o
set_option maxRecDepth 1000000 in
theorem t34_md_waysApart {X : Nat × (Nat → Int32)} {ar fi : Nat → Nat → Int32} {m1 m2 m3 m4 m5 : Nat} {x y : Int32} {l3 : Int32} {b87 : Nat → Int32} {b88 : Nat → Int32} {b89 : Nat → Int32} {b90 : Nat → Int32} {b91 : Nat → Int32} {c64_40 : Int32} {Q_md_findsWay : Int32 → Int32 → (Nat → Int32) → (Nat → Int32) → (Nat → Int32) → (Nat → Int32) → (Nat → Int32) → Int32 → Option (Int32 × (Nat → Int32) × (Nat → Int32) × Int32)} {Q_md_goesAlong : Int32 → Int32 → (Nat → Int32) → (Nat → Int32) → (Nat → Int32) → (Nat → Int32) → Option ((Nat → Int32) × (Nat → Int32) × (Nat → Int32))} : zseg X zFT (zEx 225 (P_md_findsWay Q_md_findsWay) (zEx 227 (P_md_goesAlong Q_md_goesAlong) zE0)) zc_226 (fun p => Nat.beq p 34 || Nat.beq p 5) 400 34 [.ref 64, .int x, .int y, .int l3] [] ((zua (zua (zua (zua (zua ar 87 b87) 88 b88) 89 b89) 90 b90) 91 b91), (zuf fi 64 40 c64_40), (m1, m2, m3, m4, m5)) = (
  zl (Q_md_findsWay x y (ar 68) b87 b88 b89 b90 c64_40) (fun v1 => zg v1.isSome (
  bif decide (((zgt v1).1) = 0) then
   some (.inr (some (.int l3), ((zua (zua (zua (zua (zua (zua (zua ar 87 b87) 88 b88) 89 b89) 90 b90) 91 b91) 87 (((zgt v1).2.1))) 90 (((zgt v1).2.2.1))), (zuf (zuf fi 64 40 c64_40) 64 40 (((zgt v1).2.2.2))), (m1, m2, m3, m4, m5))))
  else
   zl (Q_md_goesAlong x y b88 b89 (((zgt v1).2.2.1)) b91) (fun v2 => zg v2.isSome (
   some (.inl (34, [.ref 64, .int x, .int y, .int (l3 + 1)], [], ((zua (zua (zua (zua (zua (zua (zua (zua (zua (zua ar 87 b87) 88 b88) 89 b89) 90 b90) 91 b91) 87 (((zgt v1).2.1))) 90 (((zgt v1).2.2.1))) 88 (((zgt v2).1))) 89 (((zgt v2).2.1))) 91 (((zgt v2).2.2))), (zuf (zuf fi 64 40 c64_40) 64 40 (((zgt v1).2.2.2))), (m1, m2, m3, m4, m5)))))))) : Option ((Nat × List Value × List Value × zH2) ⊕ zO2)) := by with_unfolding_all rfl
set_option maxRecDepth 20000 in
theorem k_md_waysApart_34 {X : Nat × (Nat → Int32)} {ar fi : Nat → Nat → Int32} {m1 m2 m3 m4 m5 : Nat} {x y : Int32} {o : zO2} : ∀ (s : U_md_waysApart_34) (q : U_md_waysApart_34 ⊕ T_md_waysApart), f_md_waysApart_34 x y (ar 68) s = some q → zq (M_md_waysApart_34 X (zEx 225 S_md_findsWay (zEx 227 S_md_goesAlong zE0)) ar fi m1 m2 m3 m4 m5 x y o) (fun t => O_md_waysApart ar fi m1 m2 m3 m4 m5 t = o) q → M_md_waysApart_34 X (zEx 225 S_md_findsWay (zEx 227 S_md_goesAlong zE0)) ar fi m1 m2 m3 m4 m5 x y o s := by
  intro s q h hq
  obtain ⟨l3, b87, b88, b89, b90, b91, c64_40⟩ := s
  have h : b_md_waysApart_34 x y (ar 68) l3 b87 b88 b89 b90 b91 c64_40 = some q := h
  unfold b_md_waysApart_34 at h
  show zR2 X zFT (zEx 225 S_md_findsWay (zEx 227 S_md_goesAlong zE0)) zc_226 34 [.ref 64, .int x, .int y, .int l3] [] ((zua (zua (zua (zua (zua ar 87 b87) 88 b88) 89 b89) 90 b90) 91 b91), (zuf fi 64 40 c64_40), (m1, m2, m3, m4, m5)) o
  refine zT_seg t34_md_waysApart ?_
  obtain ⟨TT, hTT⟩ : ∃ T, T = zT X zFT (zEx 225 S_md_findsWay (zEx 227 S_md_goesAlong zE0)) zc_226 o := ⟨_, rfl⟩
  rw [← hTT]
  refine zbd_el h (fun v1 hv h => zU_c hTT hv ?_)
  refine zb_el h (fun hb h => zU_t hTT hb ?_) (fun hb h => zU_f hTT hb ?_)
  · rw [hTT]
    have hz := zsi h hq
    refine (zO_mk ?_ ?_).trans hz
    · first | with_reducible rfl | exact hA0_md_waysApart _ _ _ _ _ _ _ _
    · first | with_reducible rfl | exact hF1_md_waysApart _ _ _
  · refine zbd_el h (fun v2 hv h => zU_c hTT hv ?_)
    rw [hTT]
    have hz := zsi h hq
    refine zR2_hp ?_ ?_ hz
    · first | with_reducible rfl | exact hA2_md_waysApart _ _ _ _ _ _ _ _ _ _ _
    · first | with_reducible rfl | exact hF1_md_waysApart _ _ _
set_option maxRecDepth 1000000 in
theorem t5_md_waysApart {X : Nat × (Nat → Int32)} {ar fi : Nat → Nat → Int32} {m1 m2 m3 m4 m5 : Nat} {x y : Int32} {l3 : Int32} {l4 : Int32} {b87 : Nat → Int32} {b88 : Nat → Int32} {b89 : Nat → Int32} {b90 : Nat → Int32} {b91 : Nat → Int32} {c64_40 : Int32} {Q_md_findsWay : Int32 → Int32 → (Nat → Int32) → (Nat → Int32) → (Nat → Int32) → (Nat → Int32) → (Nat → Int32) → Int32 → Option (Int32 × (Nat → Int32) × (Nat → Int32) × Int32)} {Q_md_goesAlong : Int32 → Int32 → (Nat → Int32) → (Nat → Int32) → (Nat → Int32) → (Nat → Int32) → Option ((Nat → Int32) × (Nat → Int32) × (Nat → Int32))} : zseg X zFT (zEx 225 (P_md_findsWay Q_md_findsWay) (zEx 227 (P_md_goesAlong Q_md_goesAlong) zE0)) zc_226 (fun p => Nat.beq p 34 || Nat.beq p 5) 400 5 [.ref 64, .int x, .int y, .int l3, .int l4] [] ((zua (zua (zua (zua (zua ar 87 b87) 88 b88) 89 b89) 90 b90) 91 b91), (zuf fi 64 40 c64_40), (m1, m2, m3, m4, m5)) = (
  bif decide (96 ≤ l4) then
   some (.inl (34, [.ref 64, .int x, .int y, .int l3], [], ((zua (zua (zua (zua (zua ar 87 b87) 88 b88) 89 b89) 90 b90) 91 b91), (zuf fi 64 40 c64_40), (m1, m2, m3, m4, m5))))
  else
   zg (Nat.beq 16 16 && (zin l4 96)) (
   zg (Nat.beq 16 16 && (zin l4 96)) (
   some (.inl (5, [.ref 64, .int x, .int y, .int l3, .int (l4 + 1)], [], ((zua (zua (zua (zua (zua (zua (zua ar 87 b87) 88 b88) 89 b89) 90 b90) 91 b91) 88 (zup b88 (l4.toNatClampNeg) (-1))) 89 (zup b89 (l4.toNatClampNeg) (-1))), (zuf fi 64 40 c64_40), (m1, m2, m3, m4, m5)))))) : Option ((Nat × List Value × List Value × zH2) ⊕ zO2)) := by with_unfolding_all rfl
set_option maxRecDepth 20000 in
theorem k_md_waysApart_5 {X : Nat × (Nat → Int32)} {ar fi : Nat → Nat → Int32} {m1 m2 m3 m4 m5 : Nat} {x y : Int32} {l3 : Int32} {b87 : Nat → Int32} {b90 : Nat → Int32} {b91 : Nat → Int32} {c64_40 : Int32} {o : zO2} : ∀ (s : U_md_waysApart_5) (q : U_md_waysApart_5 ⊕ T_md_waysApart), f_md_waysApart_5 x y (ar 68) l3 b87 b90 b91 c64_40 s = some q → zq (M_md_waysApart_5 X (zEx 225 S_md_findsWay (zEx 227 S_md_goesAlong zE0)) ar fi m1 m2 m3 m4 m5 x y l3 b87 b90 b91 c64_40 o) (fun t => O_md_waysApart ar fi m1 m2 m3 m4 m5 t = o) q → M_md_waysApart_5 X (zEx 225 S_md_findsWay (zEx 227 S_md_goesAlong zE0)) ar fi m1 m2 m3 m4 m5 x y l3 b87 b90 b91 c64_40 o s := by
  intro s q h hq
  obtain ⟨l4, b88, b89⟩ := s
  have h : b_md_waysApart_5 x y (ar 68) l3 b87 b90 b91 c64_40 l4 b88 b89 = some q := h
  unfold b_md_waysApart_5 at h
  show zR2 X zFT (zEx 225 S_md_findsWay (zEx 227 S_md_goesAlong zE0)) zc_226 5 [.ref 64, .int x, .int y, .int l3, .int l4] [] ((zua (zua (zua (zua (zua ar 87 b87) 88 b88) 89 b89) 90 b90) 91 b91), (zuf fi 64 40 c64_40), (m1, m2, m3, m4, m5)) o
  refine zT_seg t5_md_waysApart ?_
  obtain ⟨TT, hTT⟩ : ∃ T, T = zT X zFT (zEx 225 S_md_findsWay (zEx 227 S_md_goesAlong zE0)) zc_226 o := ⟨_, rfl⟩
  rw [← hTT]
  refine zb_el h (fun hb h => zU_t hTT hb ?_) (fun hb h => zU_f hTT hb ?_)
  · rw [hTT]
    refine zbd_el h (fun r hr h => ?_)
    have hz := zsi h hq
    refine zR2_hp ?_ ?_ (zlp_K k_md_waysApart_34 hr hz)
    · first | with_reducible rfl | exact hA3_md_waysApart _ _ _ _ _ _
    · first | with_reducible rfl | exact hF4_md_waysApart _ _
  · refine zg_el h (fun hg h => zU_ga hTT hg ?_)
    refine zg_el h (fun hg h => zU_ga hTT hg ?_)
    rw [hTT]
    have hz := zsi h hq
    refine zR2_hp ?_ ?_ hz
    · first | with_reducible rfl | exact hA5_md_waysApart _ _ _ _ _ _ _ _
    · first | with_reducible rfl | exact hF4_md_waysApart _ _
set_option maxRecDepth 1000000 in
theorem t_md_waysApart {X : Nat × (Nat → Int32)} {ar fi : Nat → Nat → Int32} {m1 m2 m3 m4 m5 : Nat} {x y : Int32} {Q_md_findsWay : Int32 → Int32 → (Nat → Int32) → (Nat → Int32) → (Nat → Int32) → (Nat → Int32) → (Nat → Int32) → Int32 → Option (Int32 × (Nat → Int32) × (Nat → Int32) × Int32)} {Q_md_goesAlong : Int32 → Int32 → (Nat → Int32) → (Nat → Int32) → (Nat → Int32) → (Nat → Int32) → Option ((Nat → Int32) × (Nat → Int32) × (Nat → Int32))} : zseg X zFT (zEx 225 (P_md_findsWay Q_md_findsWay) (zEx 227 (P_md_goesAlong Q_md_goesAlong) zE0)) zc_226 (fun p => Nat.beq p 34 || Nat.beq p 5) 400 0 [.ref 64, .int x, .int y] [] (ar, fi, (m1, m2, m3, m4, m5)) = (
  some (.inl (5, [.ref 64, .int x, .int y, .int 0, .int 0], [], (ar, fi, (m1, m2, m3, m4, m5)))) : Option ((Nat × List Value × List Value × zH2) ⊕ zO2)) := by with_unfolding_all rfl
set_option maxRecDepth 20000 in
theorem e_md_waysApart {X : Nat × (Nat → Int32)} {ar fi : Nat → Nat → Int32} {m1 m2 m3 m4 m5 : Nat} {x y : Int32} {o : zO2} : ∀ (q : T_md_waysApart), q_md_waysApart x y (ar 68) (ar 87) (ar 88) (ar 89) (ar 90) (ar 91) (fi 64 40) = some q → (fun t => O_md_waysApart ar fi m1 m2 m3 m4 m5 t = o) q → zR2 X zFT (zEx 225 S_md_findsWay (zEx 227 S_md_goesAlong zE0)) zc_226 0 [.ref 64, .int x, .int y] [] (ar, fi, (m1, m2, m3, m4, m5)) o := by
  intro q h hq
  unfold q_md_waysApart at h
  refine zT_seg t_md_waysApart ?_
  obtain ⟨TT, hTT⟩ : ∃ T, T = zT X zFT (zEx 225 S_md_findsWay (zEx 227 S_md_goesAlong zE0)) zc_226 o := ⟨_, rfl⟩
  rw [← hTT]
  rw [hTT]
  refine zR2_hp ?_ ?_ (zlp_K k_md_waysApart_5 h hq)
  · first | with_reducible rfl | exact hA6_md_waysApart _
  · first | with_reducible rfl | exact hF7_md_waysApart _
theorem ok_md_waysApart (X : Nat × (Nat → Int32)) : zOkS X 226 S_md_waysApart 5 := zOkS_new (zOkE_cons (ok_md_findsWay X) (by decide) (zOkE_cons (ok_md_goesAlong X) (by decide) (zOkE_nil X 4))) (by
  intro args g o h
  obtain ⟨ar, fi, m1, m2, m3, m4, m5⟩ := g
  unfold S_md_waysApart P_md_waysApart at h
  split at h
  · refine zb_el h (fun hI0 k0 => ?_) (fun _ h10 => ?_)
    · try simp only [Bool.and_eq_true] at hI0
      have j0 := hI0
      have e0 := Nat.eq_of_beq_eq_true j0
      subst e0
      exact zpe_el k0 (fun t ht ho => by obtain ⟨t0, t1, t2, t3, t4, t5, t6⟩ := t; exact e_md_waysApart _ ht ho)
    · cases h10
  · cases h)
