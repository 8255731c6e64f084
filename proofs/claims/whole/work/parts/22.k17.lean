abbrev T_cu_takeWay : Type := (Nat → Int32) × (Nat → Int32)
abbrev U_cu_takeWay_5 : Type := Int32 × Int32 × (Nat → Int32) × (Nat → Int32)
noncomputable def b_cu_takeWay_5 (x : Int32) (a60 : Nat → Int32) (l3 : Int32) (l4 : Int32) (b58 : Nat → Int32) (b59 : Nat → Int32) : Option (U_cu_takeWay_5 ⊕ T_cu_takeWay) :=
  bif decide (192 ≤ l4) then
   some (.inr (b58, b59))
  else
   bif decide (l3 = 96 + x) then
    some (.inr (b58, b59))
   else
    zg (zin l3 192) (
    bif decide (0 ≤ a60 (l3.toNatClampNeg)) then
     bif decide (a60 (l3.toNatClampNeg) < 96) then
      bif !decide ((a60 (l3.toNatClampNeg)) - (a60 (l3.toNatClampNeg)) / 96 * 96 = l3 - l3 / 96 * 96) then
       zbd (q_cu_mark (l3 - l3 / 96 * 96) ((a60 (l3.toNatClampNeg)) - (a60 (l3.toNatClampNeg)) / 96 * 96) 0 b59) (fun v1 =>
       some (.inl (a60 (l3.toNatClampNeg), l4 + 1, b58, (v1))))
      else
       zg (zin ((a60 (l3.toNatClampNeg)) - (a60 (l3.toNatClampNeg)) / 96 * 96) 96) (
       some (.inl (a60 (l3.toNatClampNeg), l4 + 1, (zup b58 (((a60 (l3.toNatClampNeg)) - (a60 (l3.toNatClampNeg)) / 96 * 96).toNatClampNeg) (1 &&& 1)), b59)))
     else
      bif !decide ((a60 (l3.toNatClampNeg)) - (a60 (l3.toNatClampNeg)) / 96 * 96 = l3 - l3 / 96 * 96) then
       zbd (q_cu_mark ((a60 (l3.toNatClampNeg)) - (a60 (l3.toNatClampNeg)) / 96 * 96) (l3 - l3 / 96 * 96) 1 b59) (fun v2 =>
       some (.inl (a60 (l3.toNatClampNeg), l4 + 1, b58, (v2))))
      else
       zg (zin ((a60 (l3.toNatClampNeg)) - (a60 (l3.toNatClampNeg)) / 96 * 96) 96) (
       some (.inl (a60 (l3.toNatClampNeg), l4 + 1, (zup b58 (((a60 (l3.toNatClampNeg)) - (a60 (l3.toNatClampNeg)) / 96 * 96).toNatClampNeg) (0 &&& 1)), b59)))
    else
     some (.inr (b58, b59)))
noncomputable def f_cu_takeWay_5 (x : Int32) (a60 : Nat → Int32) : U_cu_takeWay_5 → Option (U_cu_takeWay_5 ⊕ T_cu_takeWay) := fun s => b_cu_takeWay_5 x a60 s.1 s.2.1 s.2.2.1 s.2.2.2
noncomputable def l_cu_takeWay_5 (x : Int32) (a60 : Nat → Int32) (l3 : Int32) (l4 : Int32) (b58 : Nat → Int32) (b59 : Nat → Int32) : Option T_cu_takeWay := zlp (f_cu_takeWay_5 x a60) (l3, l4, b58, b59)
noncomputable def q_cu_takeWay (x : Int32) (y : Int32) (a58 : Nat → Int32) (a59 : Nat → Int32) (a60 : Nat → Int32) : Option T_cu_takeWay :=
  l_cu_takeWay_5 x a60 y 0 a58 a59
def P_cu_takeWay (Q : Int32 → Int32 → (Nat → Int32) → (Nat → Int32) → (Nat → Int32) → Option ((Nat → Int32) × (Nat → Int32))) : zSp := fun as g => match as with
  | [.ref a, .int x, .int y] => bif Nat.beq a 57 then zpe (Q x y (g.1 58) (g.1 59) (g.1 60)) (fun t => (none, ((zua (zua g.1 58 t.1) 59 t.2), g.2.1, g.2.2))) else none
  | _ => none
noncomputable abbrev S_cu_takeWay : zSp := P_cu_takeWay q_cu_takeWay
def O_cu_takeWay (ar fi : Nat → Nat → Int32) (m1 : Nat) (m2 : Nat) (m3 : Nat) (m4 : Nat) (m5 : Nat) (t : T_cu_takeWay) : zO2 := (none, ((zua (zua ar 58 t.1) 59 t.2), fi, (m1, m2, m3, m4, m5)))
def M_cu_takeWay_5 (X : Nat × (Nat → Int32)) (E : zTE) (ar fi : Nat → Nat → Int32) (m1 : Nat) (m2 : Nat) (m3 : Nat) (m4 : Nat) (m5 : Nat) (x : Int32) (y : Int32) (o : zO2) (s : U_cu_takeWay_5) : Prop := zR2 X zFT E zc_17 5 [.ref 57, .int x, .int y, .int s.1, .int s.2.1] [] ((zua (zua ar 58 s.2.2.1) 59 s.2.2.2), fi, (m1, m2, m3, m4, m5)) o
set_option maxRecDepth 20000 in
theorem t5_cu_takeWay {X : Nat × (Nat → Int32)} {ar fi : Nat → Nat → Int32} {m1 m2 m3 m4 m5 : Nat} {x y : Int32} {l3 : Int32} {l4 : Int32} {b58 : Nat → Int32} {b59 : Nat → Int32} {Q_cu_mark : Int32 → Int32 → Int32 → (Nat → Int32) → Option ((Nat → Int32))} : zseg X zFT (zEx 18 (P_cu_mark Q_cu_mark) zE0) zc_17 (fun p => Nat.beq p 5) 400 5 [.ref 57, .int x, .int y, .int l3, .int l4] [] ((zua (zua ar 58 b58) 59 b59), fi, (m1, m2, m3, m4, m5)) = (
  bif decide (192 ≤ l4) then
   some (.inr (none, ((zua (zua ar 58 b58) 59 b59), fi, (m1, m2, m3, m4, m5))))
  else
   bif decide (l3 = 96 + x) then
    some (.inr (none, ((zua (zua ar 58 b58) 59 b59), fi, (m1, m2, m3, m4, m5))))
   else
    zg (zin l3 192) (
    bif decide (0 ≤ (ar 60) (l3.toNatClampNeg)) then
     bif decide ((ar 60) (l3.toNatClampNeg) < 96) then
      bif !decide (((ar 60) (l3.toNatClampNeg)) - ((ar 60) (l3.toNatClampNeg)) / 96 * 96 = l3 - l3 / 96 * 96) then
       zl (Q_cu_mark (l3 - l3 / 96 * 96) (((ar 60) (l3.toNatClampNeg)) - ((ar 60) (l3.toNatClampNeg)) / 96 * 96) 0 b59) (fun v1 => zg v1.isSome (
       some (.inl (5, [.ref 57, .int x, .int y, .int ((ar 60) (l3.toNatClampNeg)), .int (l4 + 1)], [], ((zua (zua (zua ar 58 b58) 59 b59) 59 (((zgt v1)))), fi, (m1, m2, m3, m4, m5))))))
      else
       zg (zin (((ar 60) (l3.toNatClampNeg)) - ((ar 60) (l3.toNatClampNeg)) / 96 * 96) 96) (
       some (.inl (5, [.ref 57, .int x, .int y, .int ((ar 60) (l3.toNatClampNeg)), .int (l4 + 1)], [], ((zua (zua (zua ar 58 b58) 59 b59) 58 (zup b58 ((((ar 60) (l3.toNatClampNeg)) - ((ar 60) (l3.toNatClampNeg)) / 96 * 96).toNatClampNeg) (1 &&& 1))), fi, (m1, m2, m3, m4, m5)))))
     else
      bif !decide (((ar 60) (l3.toNatClampNeg)) - ((ar 60) (l3.toNatClampNeg)) / 96 * 96 = l3 - l3 / 96 * 96) then
       zl (Q_cu_mark (((ar 60) (l3.toNatClampNeg)) - ((ar 60) (l3.toNatClampNeg)) / 96 * 96) (l3 - l3 / 96 * 96) 1 b59) (fun v2 => zg v2.isSome (
       some (.inl (5, [.ref 57, .int x, .int y, .int ((ar 60) (l3.toNatClampNeg)), .int (l4 + 1)], [], ((zua (zua (zua ar 58 b58) 59 b59) 59 (((zgt v2)))), fi, (m1, m2, m3, m4, m5))))))
      else
       zg (zin (((ar 60) (l3.toNatClampNeg)) - ((ar 60) (l3.toNatClampNeg)) / 96 * 96) 96) (
       some (.inl (5, [.ref 57, .int x, .int y, .int ((ar 60) (l3.toNatClampNeg)), .int (l4 + 1)], [], ((zua (zua (zua ar 58 b58) 59 b59) 58 (zup b58 ((((ar 60) (l3.toNatClampNeg)) - ((ar 60) (l3.toNatClampNeg)) / 96 * 96).toNatClampNeg) (0 &&& 1))), fi, (m1, m2, m3, m4, m5)))))
    else
     some (.inr (none, ((zua (zua ar 58 b58) 59 b59), fi, (m1, m2, m3, m4, m5))))) : Option ((Nat × List Value × List Value × zH2) ⊕ zO2)) := rfl
theorem k_cu_takeWay_5 {X : Nat × (Nat → Int32)} {ar fi : Nat → Nat → Int32} {m1 m2 m3 m4 m5 : Nat} {x y : Int32} {o : zO2} : ∀ (s : U_cu_takeWay_5) (q : U_cu_takeWay_5 ⊕ T_cu_takeWay), f_cu_takeWay_5 x (ar 60) s = some q → zq (M_cu_takeWay_5 X (zEx 18 S_cu_mark zE0) ar fi m1 m2 m3 m4 m5 x y o) (fun t => O_cu_takeWay ar fi m1 m2 m3 m4 m5 t = o) q → M_cu_takeWay_5 X (zEx 18 S_cu_mark zE0) ar fi m1 m2 m3 m4 m5 x y o s := by
  intro s q h hq
  obtain ⟨l3, l4, b58, b59⟩ := s
  have h : b_cu_takeWay_5 x (ar 60) l3 l4 b58 b59 = some q := h
  unfold b_cu_takeWay_5 at h
  show zR2 X zFT (zEx 18 S_cu_mark zE0) zc_17 5 [.ref 57, .int x, .int y, .int l3, .int l4] [] ((zua (zua ar 58 b58) 59 b59), fi, (m1, m2, m3, m4, m5)) o
  refine zT_seg t5_cu_takeWay ?_
  refine zb_el h (fun hb h => zT_t hb ?_) (fun hb h => zT_f hb ?_)
  · have hz := zsi h hq
    refine (zO_mk ?_ ?_).trans hz
    · first | with_reducible rfl | (exact zuas_eq _ [(58, _), (59, _)] [(58, _), (59, _)] [58, 59] rfl rfl ⟨rfl, rfl, trivial⟩)
    · first | with_reducible rfl | (rfl)
  · refine zb_el h (fun hb h => zT_t hb ?_) (fun hb h => zT_f hb ?_)
    · have hz := zsi h hq
      refine (zO_mk ?_ ?_).trans hz
      · first | with_reducible rfl | (exact zuas_eq _ [(58, _), (59, _)] [(58, _), (59, _)] [58, 59] rfl rfl ⟨rfl, rfl, trivial⟩)
      · first | with_reducible rfl | (rfl)
    · refine zg_el h (fun hg h => zT_g hg ?_)
      refine zb_el h (fun hb h => zT_t hb ?_) (fun hb h => zT_f hb ?_)
      · refine zb_el h (fun hb h => zT_t hb ?_) (fun hb h => zT_f hb ?_)
        · refine zb_el h (fun hb h => zT_t hb ?_) (fun hb h => zT_f hb ?_)
          · refine zbd_el h (fun v1 hv h => zT_c hv ?_)
            have hz := zsi h hq
            refine zR2_hp ?_ ?_ hz
            · first | with_reducible rfl | (exact zuas_eq _ [(58, _), (59, _), (59, _)] [(58, _), (59, _)] [58, 59] rfl rfl ⟨rfl, rfl, trivial⟩)
            · first | with_reducible rfl | (rfl)
          · refine zg_el h (fun hg h => zT_g hg ?_)
            have hz := zsi h hq
            refine zR2_hp ?_ ?_ hz
            · first | with_reducible rfl | (exact zuas_eq _ [(58, _), (59, _), (58, _)] [(58, _), (59, _)] [58, 59] rfl rfl ⟨rfl, rfl, trivial⟩)
            · first | with_reducible rfl | (rfl)
        · refine zb_el h (fun hb h => zT_t hb ?_) (fun hb h => zT_f hb ?_)
          · refine zbd_el h (fun v2 hv h => zT_c hv ?_)
            have hz := zsi h hq
            refine zR2_hp ?_ ?_ hz
            · first | with_reducible rfl | (exact zuas_eq _ [(58, _), (59, _), (59, _)] [(58, _), (59, _)] [58, 59] rfl rfl ⟨rfl, rfl, trivial⟩)
            · first | with_reducible rfl | (rfl)
          · refine zg_el h (fun hg h => zT_g hg ?_)
            have hz := zsi h hq
            refine zR2_hp ?_ ?_ hz
            · first | with_reducible rfl | (exact zuas_eq _ [(58, _), (59, _), (58, _)] [(58, _), (59, _)] [58, 59] rfl rfl ⟨rfl, rfl, trivial⟩)
            · first | with_reducible rfl | (rfl)
      · have hz := zsi h hq
        refine (zO_mk ?_ ?_).trans hz
        · first | with_reducible rfl | (exact zuas_eq _ [(58, _), (59, _)] [(58, _), (59, _)] [58, 59] rfl rfl ⟨rfl, rfl, trivial⟩)
        · first | with_reducible rfl | (rfl)
set_option maxRecDepth 20000 in
theorem t_cu_takeWay {X : Nat × (Nat → Int32)} {ar fi : Nat → Nat → Int32} {m1 m2 m3 m4 m5 : Nat} {x y : Int32} {Q_cu_mark : Int32 → Int32 → Int32 → (Nat → Int32) → Option ((Nat → Int32))} : zseg X zFT (zEx 18 (P_cu_mark Q_cu_mark) zE0) zc_17 (fun p => Nat.beq p 5) 400 0 [.ref 57, .int x, .int y] [] (ar, fi, (m1, m2, m3, m4, m5)) = (
  some (.inl (5, [.ref 57, .int x, .int y, .int y, .int 0], [], (ar, fi, (m1, m2, m3, m4, m5)))) : Option ((Nat × List Value × List Value × zH2) ⊕ zO2)) := rfl
theorem e_cu_takeWay {X : Nat × (Nat → Int32)} {ar fi : Nat → Nat → Int32} {m1 m2 m3 m4 m5 : Nat} {x y : Int32} {o : zO2} : ∀ (q : T_cu_takeWay), q_cu_takeWay x y (ar 58) (ar 59) (ar 60) = some q → (fun t => O_cu_takeWay ar fi m1 m2 m3 m4 m5 t = o) q → zR2 X zFT (zEx 18 S_cu_mark zE0) zc_17 0 [.ref 57, .int x, .int y] [] (ar, fi, (m1, m2, m3, m4, m5)) o := by
  intro q h hq
  unfold q_cu_takeWay at h
  refine zT_seg t_cu_takeWay ?_
  refine zR2_hp ?_ ?_ (zlp_K k_cu_takeWay_5 h hq)
  · first | with_reducible rfl | (exact zuas_eq _ [] [(58, _), (59, _)] [58, 59] rfl rfl ⟨rfl, rfl, trivial⟩)
  · first | with_reducible rfl | (rfl)
theorem ok_cu_takeWay (X : Nat × (Nat → Int32)) : zOkS X 17 S_cu_takeWay 3 := zOkS_new (zOkE_cons (ok_cu_mark X) (by decide) (zOkE_nil X 2)) (by
  intro args g o h
  obtain ⟨ar, fi, m1, m2, m3, m4, m5⟩ := g
  unfold S_cu_takeWay P_cu_takeWay at h
  split at h
  · refine zb_el h (fun hI0 k0 => ?_) (fun _ h10 => ?_)
    · try simp only [Bool.and_eq_true] at hI0
      have j0 := hI0
      have e0 := Nat.eq_of_beq_eq_true j0
      subst e0
      exact zpe_el k0 (fun t ht ho => e_cu_takeWay t ht ho)
    · cases h10
  · cases h)
abbrev T_lw_holds : Type := Int32 × (Nat → Int32)
noncomputable def q_lw_holds (x : Int32) (a24 : Nat → Int32) (a25 : Nat → Int32) (a26 : Nat → Int32) (a29 : Nat → Int32) (a30 : Nat → Int32) (a50 : Nat → Int32) : Option T_lw_holds :=
  zg (zin x 16) (
  zg (zin x 16) (
  zbd (q_lw_run (a29 (x.toNatClampNeg)) (a30 (x.toNatClampNeg)) a24 a25 a26 a50) (fun v1 =>
  bif decide ((v1.1) = 0) then
   some (0, ((v1.2)))
  else
   some (1, ((v1.2))))))
def P_lw_holds (Q : Int32 → (Nat → Int32) → (Nat → Int32) → (Nat → Int32) → (Nat → Int32) → (Nat → Int32) → (Nat → Int32) → Option (Int32 × (Nat → Int32))) : zSp := fun as g => match as with
  | [.ref a, .int x, .ref b] => bif Nat.beq a 23 && Nat.beq b 50 then zpe (Q x (g.1 24) (g.1 25) (g.1 26) (g.1 29) (g.1 30) (g.1 50)) (fun t => (some (.int (t.1)), ((zua g.1 26 t.2), g.2.1, g.2.2))) else bif Nat.beq a 31 && Nat.beq b 50 then zpe (Q x (g.1 32) (g.1 33) (g.1 34) (g.1 37) (g.1 38) (g.1 50)) (fun t => (some (.int (t.1)), ((zua g.1 34 t.2), g.2.1, g.2.2))) else none
  | _ => none
noncomputable abbrev S_lw_holds : zSp := P_lw_holds q_lw_holds
def O_lw_holds_23_50 (ar fi : Nat → Nat → Int32) (m1 : Nat) (m2 : Nat) (m3 : Nat) (m4 : Nat) (m5 : Nat) (t : T_lw_holds) : zO2 := (some (.int (t.1)), ((zua ar 26 t.2), fi, (m1, m2, m3, m4, m5)))
set_option maxRecDepth 20000 in
theorem t_lw_holds_23_50 {X : Nat × (Nat → Int32)} {ar fi : Nat → Nat → Int32} {m1 m2 m3 m4 m5 : Nat} {x : Int32} {Q_lw_run : Int32 → Int32 → (Nat → Int32) → (Nat → Int32) → (Nat → Int32) → (Nat → Int32) → Option (Int32 × (Nat → Int32))} : zseg X zFT (zEx 46 (P_lw_run Q_lw_run) zE0) zc_45 (fun p => false) 400 0 [.ref 23, .int x, .ref 50] [] (ar, fi, (m1, m2, m3, m4, m5)) = (
  zg (zin x 16) (
  zg (zin x 16) (
  zl (Q_lw_run ((ar 29) (x.toNatClampNeg)) ((ar 30) (x.toNatClampNeg)) (ar 24) (ar 25) (ar 26) (ar 50)) (fun v1 => zg v1.isSome (
  bif decide (((zgt v1).1) = 0) then
   some (.inr (some (.int 0), ((zua ar 26 (((zgt v1).2))), fi, (m1, m2, m3, m4, m5))))
  else
   some (.inr (some (.int 1), ((zua ar 26 (((zgt v1).2))), fi, (m1, m2, m3, m4, m5)))))))) : Option ((Nat × List Value × List Value × zH2) ⊕ zO2)) := rfl
theorem e_lw_holds_23_50 {X : Nat × (Nat → Int32)} {ar fi : Nat → Nat → Int32} {m1 m2 m3 m4 m5 : Nat} {x : Int32} {o : zO2} : ∀ (q : T_lw_holds), q_lw_holds x (ar 24) (ar 25) (ar 26) (ar 29) (ar 30) (ar 50) = some q → (fun t => O_lw_holds_23_50 ar fi m1 m2 m3 m4 m5 t = o) q → zR2 X zFT (zEx 46 S_lw_run zE0) zc_45 0 [.ref 23, .int x, .ref 50] [] (ar, fi, (m1, m2, m3, m4, m5)) o := by
  intro q h hq
  unfold q_lw_holds at h
  refine zT_seg t_lw_holds_23_50 ?_
  refine zg_el h (fun hg h => zT_g hg ?_)
  refine zg_el h (fun hg h => zT_g hg ?_)
  refine zbd_el h (fun v1 hv h => zT_c hv ?_)
  refine zb_el h (fun hb h => zT_t hb ?_) (fun hb h => zT_f hb ?_)
  · have hz := zsi h hq
    refine (zO_mk ?_ ?_).trans hz
    · first | with_reducible rfl | (exact zuas_eq _ [(26, _)] [(26, _)] [26] rfl rfl ⟨rfl, trivial⟩)
    · first | with_reducible rfl | (rfl)
  · have hz := zsi h hq
    refine (zO_mk ?_ ?_).trans hz
    · first | with_reducible rfl | (exact zuas_eq _ [(26, _)] [(26, _)] [26] rfl rfl ⟨rfl, trivial⟩)
    · first | with_reducible rfl | (rfl)
def O_lw_holds_31_50 (ar fi : Nat → Nat → Int32) (m1 : Nat) (m2 : Nat) (m3 : Nat) (m4 : Nat) (m5 : Nat) (t : T_lw_holds) : zO2 := (some (.int (t.1)), ((zua ar 34 t.2), fi, (m1, m2, m3, m4, m5)))
set_option maxRecDepth 20000 in
theorem t_lw_holds_31_50 {X : Nat × (Nat → Int32)} {ar fi : Nat → Nat → Int32} {m1 m2 m3 m4 m5 : Nat} {x : Int32} {Q_lw_run : Int32 → Int32 → (Nat → Int32) → (Nat → Int32) → (Nat → Int32) → (Nat → Int32) → Option (Int32 × (Nat → Int32))} : zseg X zFT (zEx 46 (P_lw_run Q_lw_run) zE0) zc_45 (fun p => false) 400 0 [.ref 31, .int x, .ref 50] [] (ar, fi, (m1, m2, m3, m4, m5)) = (
  zg (zin x 16) (
  zg (zin x 16) (
  zl (Q_lw_run ((ar 37) (x.toNatClampNeg)) ((ar 38) (x.toNatClampNeg)) (ar 32) (ar 33) (ar 34) (ar 50)) (fun v1 => zg v1.isSome (
  bif decide (((zgt v1).1) = 0) then
   some (.inr (some (.int 0), ((zua ar 34 (((zgt v1).2))), fi, (m1, m2, m3, m4, m5))))
  else
   some (.inr (some (.int 1), ((zua ar 34 (((zgt v1).2))), fi, (m1, m2, m3, m4, m5)))))))) : Option ((Nat × List Value × List Value × zH2) ⊕ zO2)) := rfl
theorem e_lw_holds_31_50 {X : Nat × (Nat → Int32)} {ar fi : Nat → Nat → Int32} {m1 m2 m3 m4 m5 : Nat} {x : Int32} {o : zO2} : ∀ (q : T_lw_holds), q_lw_holds x (ar 32) (ar 33) (ar 34) (ar 37) (ar 38) (ar 50) = some q → (fun t => O_lw_holds_31_50 ar fi m1 m2 m3 m4 m5 t = o) q → zR2 X zFT (zEx 46 S_lw_run zE0) zc_45 0 [.ref 31, .int x, .ref 50] [] (ar, fi, (m1, m2, m3, m4, m5)) o := by
  intro q h hq
  unfold q_lw_holds at h
  refine zT_seg t_lw_holds_31_50 ?_
  refine zg_el h (fun hg h => zT_g hg ?_)
  refine zg_el h (fun hg h => zT_g hg ?_)
  refine zbd_el h (fun v1 hv h => zT_c hv ?_)
  refine zb_el h (fun hb h => zT_t hb ?_) (fun hb h => zT_f hb ?_)
  · have hz := zsi h hq
    refine (zO_mk ?_ ?_).trans hz
    · first | with_reducible rfl | (exact zuas_eq _ [(34, _)] [(34, _)] [34] rfl rfl ⟨rfl, trivial⟩)
    · first | with_reducible rfl | (rfl)
  · have hz := zsi h hq
    refine (zO_mk ?_ ?_).trans hz
    · first | with_reducible rfl | (exact zuas_eq _ [(34, _)] [(34, _)] [34] rfl rfl ⟨rfl, trivial⟩)
    · first | with_reducible rfl | (rfl)
theorem ok_lw_holds (X : Nat × (Nat → Int32)) : zOkS X 45 S_lw_holds 3 := zOkS_new (zOkE_cons (ok_lw_run X) (by decide) (zOkE_nil X 2)) (by
  intro args g o h
  obtain ⟨ar, fi, m1, m2, m3, m4, m5⟩ := g
  unfold S_lw_holds P_lw_holds at h
  split at h
  · refine zb_el h (fun hI0 k0 => ?_) (fun _ h10 => ?_)
    · try simp only [Bool.and_eq_true] at hI0
      obtain ⟨j0, j1⟩ := hI0
      have e0 := Nat.eq_of_beq_eq_true j0
      subst e0
      have e1 := Nat.eq_of_beq_eq_true j1
      subst e1
      exact zpe_el k0 (fun t ht ho => e_lw_holds_23_50 t ht ho)
    · skip
      refine zb_el h10 (fun hI1 k1 => ?_) (fun _ h11 => ?_)
      · try simp only [Bool.and_eq_true] at hI1
        obtain ⟨j0, j1⟩ := hI1
        have e0 := Nat.eq_of_beq_eq_true j0
        subst e0
        have e1 := Nat.eq_of_beq_eq_true j1
        subst e1
        exact zpe_el k1 (fun t ht ho => e_lw_holds_31_50 t ht ho)
      · cases h11
  · cases h)
abbrev T_od_readBounded : Type := Int32 × Int32 × Int32 × Int32
noncomputable def q_od_readBounded (x : Int32) (a1 : Nat → Int32) (f47_1 : Int32) (f47_2 : Int32) (f47_3 : Int32) (f47_4 : Int32) : Option T_od_readBounded :=
  zbd (q_tx_number 4 a1 (f47_1) (f47_2) (f47_3) (f47_4)) (fun v1 =>
  bif decide ((v1.1) ≤ x) then
   some ((v1.1), (v1.2.1), (v1.2.2.1), (v1.2.2.2))
  else
   zl (f0_tx_fail 3 (f47_4) ((v1.2.1)) ((v1.2.2.1))) (fun v2 =>
   zl (f1_tx_fail 3 (f47_4) ((v1.2.1)) ((v1.2.2.1))) (fun v3 =>
   some ((v1.1), v2, v3, (v1.2.2.2)))))
def P_od_readBounded (Q : Int32 → (Nat → Int32) → Int32 → Int32 → Int32 → Int32 → Option (Int32 × Int32 × Int32 × Int32)) : zSp := fun as g => match as with
  | [.ref a, .int x] => bif Nat.beq a 46 && Nat.beq g.2.2.2.2.2.2 1 then zpe (Q x (g.1 1) (g.2.1 47 1) (g.2.1 47 2) (g.2.1 47 3) (g.2.1 47 4)) (fun t => (some (.int (t.1)), (g.1, (zuf (zuf (zuf g.2.1 47 2 t.2.1) 47 3 t.2.2.1) 47 4 t.2.2.2), g.2.2))) else none
  | _ => none
noncomputable abbrev S_od_readBounded : zSp := P_od_readBounded q_od_readBounded
def O_od_readBounded (ar fi : Nat → Nat → Int32) (m1 : Nat) (m2 : Nat) (m3 : Nat) (m4 : Nat) (t : T_od_readBounded) : zO2 := (some (.int (t.1)), (ar, (zuf (zuf (zuf fi 47 2 t.2.1) 47 3 t.2.2.1) 47 4 t.2.2.2), (m1, m2, m3, m4, 1)))
set_option maxRecDepth 20000 in
theorem t_od_readBounded {X : Nat × (Nat → Int32)} {ar fi : Nat → Nat → Int32} {m1 m2 m3 m4 : Nat} {x : Int32} {Q_tx_number : Int32 → (Nat → Int32) → Int32 → Int32 → Int32 → Int32 → Option (Int32 × Int32 × Int32 × Int32)} {F0_tx_fail : Int32 → Int32 → Int32 → Int32 → Int32} {F1_tx_fail : Int32 → Int32 → Int32 → Int32 → Int32} : zseg X zFT (zEx 98 (P_tx_number Q_tx_number) (zEx 97 (P_tx_fail F0_tx_fail F1_tx_fail) zE0)) zc_64 (fun p => false) 400 0 [.ref 46, .int x] [] (ar, fi, (m1, m2, m3, m4, 1)) = (
  zl (Q_tx_number 4 (ar 1) (fi 47 1) (fi 47 2) (fi 47 3) (fi 47 4)) (fun v1 => zg v1.isSome (
  bif decide (((zgt v1).1) ≤ x) then
   some (.inr (some (.int (((zgt v1).1))), (ar, (zuf (zuf (zuf fi 47 2 (((zgt v1).2.1))) 47 3 (((zgt v1).2.2.1))) 47 4 (((zgt v1).2.2.2))), (m1, m2, m3, m4, 1))))
  else
   zl (F0_tx_fail 3 (fi 47 4) (((zgt v1).2.1)) (((zgt v1).2.2.1))) (fun v2 =>
   zl (F1_tx_fail 3 (fi 47 4) (((zgt v1).2.1)) (((zgt v1).2.2.1))) (fun v3 =>
   some (.inr (some (.int (((zgt v1).1))), (ar, (zuf (zuf (zuf (zuf (zuf fi 47 2 (((zgt v1).2.1))) 47 3 (((zgt v1).2.2.1))) 47 4 (((zgt v1).2.2.2))) 47 2 v2) 47 3 v3), (m1, m2, m3, m4, 1)))))))) : Option ((Nat × List Value × List Value × zH2) ⊕ zO2)) := rfl
theorem e_od_readBounded {X : Nat × (Nat → Int32)} {ar fi : Nat → Nat → Int32} {m1 m2 m3 m4 : Nat} {x : Int32} {o : zO2} : ∀ (q : T_od_readBounded), q_od_readBounded x (ar 1) (fi 47 1) (fi 47 2) (fi 47 3) (fi 47 4) = some q → (fun t => O_od_readBounded ar fi m1 m2 m3 m4 t = o) q → zR2 X zFT (zEx 98 S_tx_number (zEx 97 S_tx_fail zE0)) zc_64 0 [.ref 46, .int x] [] (ar, fi, (m1, m2, m3, m4, 1)) o := by
  intro q h hq
  unfold q_od_readBounded at h
  refine zT_seg t_od_readBounded ?_
  refine zbd_el h (fun v1 hv h => zT_c hv ?_)
  refine zb_el h (fun hb h => zT_t hb ?_) (fun hb h => zT_f hb ?_)
  · have hz := zsi h hq
    refine (zO_mk ?_ ?_).trans hz
    · first | with_reducible rfl | (rfl)
    · first | with_reducible rfl | (exact zufs_eq _ [(47, 2, _), (47, 3, _), (47, 4, _)] [(47, 2, _), (47, 3, _), (47, 4, _)] [(47, 2), (47, 3), (47, 4)] rfl rfl ⟨rfl, rfl, rfl, trivial⟩)
  · refine zl_el h (fun h => zT_l ?_)
    refine zl_el h (fun h => zT_l ?_)
    have hz := zsi h hq
    refine (zO_mk ?_ ?_).trans hz
    · first | with_reducible rfl | (rfl)
    · first | with_reducible rfl | (exact zufs_eq _ [(47, 2, _), (47, 3, _), (47, 4, _), (47, 2, _), (47, 3, _)] [(47, 2, _), (47, 3, _), (47, 4, _)] [(47, 2), (47, 3), (47, 4)] rfl rfl ⟨rfl, rfl, rfl, trivial⟩)
theorem ok_od_readBounded (X : Nat × (Nat → Int32)) : zOkS X 64 S_od_readBounded 3 := zOkS_new (zOkE_cons (ok_tx_number X) (by decide) (zOkE_cons (ok_tx_fail X) (by decide) (zOkE_nil X 2))) (by
  intro args g o h
  obtain ⟨ar, fi, m1, m2, m3, m4, m5⟩ := g
  unfold S_od_readBounded P_od_readBounded at h
  split at h
  · refine zb_el h (fun hI0 k0 => ?_) (fun _ h10 => ?_)
    · try simp only [Bool.and_eq_true] at hI0
      obtain ⟨j0, j1⟩ := hI0
      have e0 := Nat.eq_of_beq_eq_true j0
      subst e0
      have e9 : m5 = 1 := Nat.eq_of_beq_eq_true j1
      subst e9
      exact zpe_el k0 (fun t ht ho => e_od_readBounded t ht ho)
    · cases h10
  · cases h)
abbrev T_tn_readRow : Type := (Nat → Int32) × Int32 × Int32 × Int32
abbrev U_tn_readRow_35 : Type := Int32 × Int32 × Int32 × (Nat → Int32) × Int32 × Int32 × Int32
noncomputable def b_tn_readRow_35 (x : Int32) (a1 : Nat → Int32) (f44_1 : Int32) (l2 : Int32) (l3 : Int32) (l4 : Int32) (b43 : Nat → Int32) (c44_2 : Int32) (c44_3 : Int32) (c44_4 : Int32) : Option (U_tn_readRow_35 ⊕ T_tn_readRow) :=
  bif decide (12 < l4) then
   some (.inr (b43, c44_2, c44_3, c44_4))
  else
   bif decide (l3 = 0) then
    some (.inr (b43, c44_2, c44_3, c44_4))
   else
    zbd (q_tn_readSign l2 x a1 b43 (f44_1) c44_2 c44_3 c44_4) (fun v4 =>
    zl (w_tx_isGood ((v4.2.2.1))) (fun v5 =>
    bif decide (v5 = 0) then
     some (.inl ((v4.1), 0, l4 + 1, ((v4.2.1)), (v4.2.2.1), (v4.2.2.2.1), (v4.2.2.2.2)))
    else
     zl (w_tx_isAtEnd ((v4.2.2.2.2)) (f44_1)) (fun v6 =>
     bif !decide (v6 = 0) then
      some (.inl ((v4.1), 0, l4 + 1, ((v4.2.1)), (v4.2.2.1), (v4.2.2.2.1), (v4.2.2.2.2)))
     else
      zg (g_tx_sign ((v4.2.2.1)) ((v4.2.2.2.2)) (f44_1) a1) (
      zl (w_tx_sign ((v4.2.2.1)) ((v4.2.2.2.2)) (f44_1) a1) (fun v7 =>
      bif decide (v7 = 47) then
       some (.inl ((v4.1), 0, l4 + 1, ((v4.2.1)), (v4.2.2.1), (v4.2.2.2.1), (v4.2.2.2.2)))
      else
       some (.inl ((v4.1), 1, l4 + 1, ((v4.2.1)), (v4.2.2.1), (v4.2.2.2.1), (v4.2.2.2.2))))))))
noncomputable def f_tn_readRow_35 (x : Int32) (a1 : Nat → Int32) (f44_1 : Int32) : U_tn_readRow_35 → Option (U_tn_readRow_35 ⊕ T_tn_readRow) := fun s => b_tn_readRow_35 x a1 f44_1 s.1 s.2.1 s.2.2.1 s.2.2.2.1 s.2.2.2.2.1 s.2.2.2.2.2.1 s.2.2.2.2.2.2
noncomputable def l_tn_readRow_35 (x : Int32) (a1 : Nat → Int32) (f44_1 : Int32) (l2 : Int32) (l3 : Int32) (l4 : Int32) (b43 : Nat → Int32) (c44_2 : Int32) (c44_3 : Int32) (c44_4 : Int32) : Option T_tn_readRow := zlp (f_tn_readRow_35 x a1 f44_1) (l2, l3, l4, b43, c44_2, c44_3, c44_4)
noncomputable def q_tn_readRow (x : Int32) (a1 : Nat → Int32) (a43 : Nat → Int32) (f44_1 : Int32) (f44_2 : Int32) (f44_3 : Int32) (f44_4 : Int32) : Option T_tn_readRow :=
  bif !decide (x = 8) then
   l_tn_readRow_35 x a1 f44_1 0 1 0 a43 (f44_2) (f44_3) (f44_4)
  else
   zg (g_tn_canBeginSign (f44_2) (f44_4) (f44_1) a1) (
   zl (w_tn_canBeginSign (f44_2) (f44_4) (f44_1) a1) (fun v1 =>
   bif decide (v1 = 0) then
    l_tn_readRow_35 x a1 f44_1 0 1 0 a43 (f44_2) (f44_3) (f44_4)
   else
    zl (f0_tx_fail 4 (f44_4) (f44_2) (f44_3)) (fun v2 =>
    zl (f1_tx_fail 4 (f44_4) (f44_2) (f44_3)) (fun v3 =>
    l_tn_readRow_35 x a1 f44_1 0 1 0 a43 v2 v3 (f44_4)))))
def P_tn_readRow (Q : Int32 → (Nat → Int32) → (Nat → Int32) → Int32 → Int32 → Int32 → Int32 → Option ((Nat → Int32) × Int32 × Int32 × Int32)) : zSp := fun as g => match as with
  | [.ref a, .int x] => bif Nat.beq a 42 && Nat.beq g.2.2.2.2.2.1 1 then zpe (Q x (g.1 1) (g.1 43) (g.2.1 44 1) (g.2.1 44 2) (g.2.1 44 3) (g.2.1 44 4)) (fun t => (none, ((zua g.1 43 t.1), (zuf (zuf (zuf g.2.1 44 2 t.2.1) 44 3 t.2.2.1) 44 4 t.2.2.2), g.2.2))) else none
  | _ => none
noncomputable abbrev S_tn_readRow : zSp := P_tn_readRow q_tn_readRow
def O_tn_readRow (ar fi : Nat → Nat → Int32) (m1 : Nat) (m2 : Nat) (m3 : Nat) (m5 : Nat) (t : T_tn_readRow) : zO2 := (none, ((zua ar 43 t.1), (zuf (zuf (zuf fi 44 2 t.2.1) 44 3 t.2.2.1) 44 4 t.2.2.2), (m1, m2, m3, 1, m5)))
def M_tn_readRow_35 (X : Nat × (Nat → Int32)) (E : zTE) (ar fi : Nat → Nat → Int32) (m1 : Nat) (m2 : Nat) (m3 : Nat) (m5 : Nat) (x : Int32) (o : zO2) (s : U_tn_readRow_35) : Prop := zR2 X zFT E zc_102 35 [.ref 42, .int x, .int s.1, .int s.2.1, .int s.2.2.1] [] ((zua ar 43 s.2.2.2.1), (zuf (zuf (zuf fi 44 2 s.2.2.2.2.1) 44 3 s.2.2.2.2.2.1) 44 4 s.2.2.2.2.2.2), (m1, m2, m3, 1, m5)) o
set_option maxRecDepth 20000 in
theorem t35_tn_readRow {X : Nat × (Nat → Int32)} {ar fi : Nat → Nat → Int32} {m1 m2 m3 m5 : Nat} {x : Int32} {l2 : Int32} {l3 : Int32} {l4 : Int32} {b43 : Nat → Int32} {c44_2 : Int32} {c44_3 : Int32} {c44_4 : Int32} {G_tn_canBeginSign : Int32 → Int32 → Int32 → (Nat → Int32) → Bool} {W_tn_canBeginSign : Int32 → Int32 → Int32 → (Nat → Int32) → Int32} {F0_tx_fail : Int32 → Int32 → Int32 → Int32 → Int32} {F1_tx_fail : Int32 → Int32 → Int32 → Int32 → Int32} {Q_tn_readSign : Int32 → Int32 → (Nat → Int32) → (Nat → Int32) → Int32 → Int32 → Int32 → Int32 → Option (Int32 × (Nat → Int32) × Int32 × Int32 × Int32)} {W_tx_isGood : Int32 → Int32} {W_tx_isAtEnd : Int32 → Int32 → Int32} {G_tx_sign : Int32 → Int32 → Int32 → (Nat → Int32) → Bool} {W_tx_sign : Int32 → Int32 → Int32 → (Nat → Int32) → Int32} : zseg X zFT (zEx 103 (P_tn_canBeginSign G_tn_canBeginSign W_tn_canBeginSign) (zEx 97 (P_tx_fail F0_tx_fail F1_tx_fail) (zEx 105 (P_tn_readSign Q_tn_readSign) (zEx 91 (P_tx_isGood W_tx_isGood) (zEx 92 (P_tx_isAtEnd W_tx_isAtEnd) (zEx 93 (P_tx_sign G_tx_sign W_tx_sign) zE0)))))) zc_102 (fun p => Nat.beq p 35) 400 35 [.ref 42, .int x, .int l2, .int l3, .int l4] [] ((zua ar 43 b43), (zuf (zuf (zuf fi 44 2 c44_2) 44 3 c44_3) 44 4 c44_4), (m1, m2, m3, 1, m5)) = (
  bif decide (12 < l4) then
   some (.inr (none, ((zua ar 43 b43), (zuf (zuf (zuf fi 44 2 c44_2) 44 3 c44_3) 44 4 c44_4), (m1, m2, m3, 1, m5))))
  else
   bif decide (l3 = 0) then
    some (.inr (none, ((zua ar 43 b43), (zuf (zuf (zuf fi 44 2 c44_2) 44 3 c44_3) 44 4 c44_4), (m1, m2, m3, 1, m5))))
   else
    zl (Q_tn_readSign l2 x (ar 1) b43 (fi 44 1) c44_2 c44_3 c44_4) (fun v4 => zg v4.isSome (
    zl (W_tx_isGood (((zgt v4).2.2.1))) (fun v5 =>
    bif decide (v5 = 0) then
     some (.inl (35, [.ref 42, .int x, .int (((zgt v4).1)), .int 0, .int (l4 + 1)], [], ((zua (zua ar 43 b43) 43 (((zgt v4).2.1))), (zuf (zuf (zuf (zuf (zuf (zuf fi 44 2 c44_2) 44 3 c44_3) 44 4 c44_4) 44 2 (((zgt v4).2.2.1))) 44 3 (((zgt v4).2.2.2.1))) 44 4 (((zgt v4).2.2.2.2))), (m1, m2, m3, 1, m5))))
    else
     zl (W_tx_isAtEnd (((zgt v4).2.2.2.2)) (fi 44 1)) (fun v6 =>
     bif !decide (v6 = 0) then
      some (.inl (35, [.ref 42, .int x, .int (((zgt v4).1)), .int 0, .int (l4 + 1)], [], ((zua (zua ar 43 b43) 43 (((zgt v4).2.1))), (zuf (zuf (zuf (zuf (zuf (zuf fi 44 2 c44_2) 44 3 c44_3) 44 4 c44_4) 44 2 (((zgt v4).2.2.1))) 44 3 (((zgt v4).2.2.2.1))) 44 4 (((zgt v4).2.2.2.2))), (m1, m2, m3, 1, m5))))
     else
      zg (G_tx_sign (((zgt v4).2.2.1)) (((zgt v4).2.2.2.2)) (fi 44 1) (ar 1)) (
      zl (W_tx_sign (((zgt v4).2.2.1)) (((zgt v4).2.2.2.2)) (fi 44 1) (ar 1)) (fun v7 =>
      bif decide (v7 = 47) then
       some (.inl (35, [.ref 42, .int x, .int (((zgt v4).1)), .int 0, .int (l4 + 1)], [], ((zua (zua ar 43 b43) 43 (((zgt v4).2.1))), (zuf (zuf (zuf (zuf (zuf (zuf fi 44 2 c44_2) 44 3 c44_3) 44 4 c44_4) 44 2 (((zgt v4).2.2.1))) 44 3 (((zgt v4).2.2.2.1))) 44 4 (((zgt v4).2.2.2.2))), (m1, m2, m3, 1, m5))))
      else
       some (.inl (35, [.ref 42, .int x, .int (((zgt v4).1)), .int 1, .int (l4 + 1)], [], ((zua (zua ar 43 b43) 43 (((zgt v4).2.1))), (zuf (zuf (zuf (zuf (zuf (zuf fi 44 2 c44_2) 44 3 c44_3) 44 4 c44_4) 44 2 (((zgt v4).2.2.1))) 44 3 (((zgt v4).2.2.2.1))) 44 4 (((zgt v4).2.2.2.2))), (m1, m2, m3, 1, m5)))))))))) : Option ((Nat × List Value × List Value × zH2) ⊕ zO2)) := rfl
theorem k_tn_readRow_35 {X : Nat × (Nat → Int32)} {ar fi : Nat → Nat → Int32} {m1 m2 m3 m5 : Nat} {x : Int32} {o : zO2} : ∀ (s : U_tn_readRow_35) (q : U_tn_readRow_35 ⊕ T_tn_readRow), f_tn_readRow_35 x (ar 1) (fi 44 1) s = some q → zq (M_tn_readRow_35 X (zEx 103 S_tn_canBeginSign (zEx 97 S_tx_fail (zEx 105 S_tn_readSign (zEx 91 S_tx_isGood (zEx 92 S_tx_isAtEnd (zEx 93 S_tx_sign zE0)))))) ar fi m1 m2 m3 m5 x o) (fun t => O_tn_readRow ar fi m1 m2 m3 m5 t = o) q → M_tn_readRow_35 X (zEx 103 S_tn_canBeginSign (zEx 97 S_tx_fail (zEx 105 S_tn_readSign (zEx 91 S_tx_isGood (zEx 92 S_tx_isAtEnd (zEx 93 S_tx_sign zE0)))))) ar fi m1 m2 m3 m5 x o s := by
  intro s q h hq
  obtain ⟨l2, l3, l4, b43, c44_2, c44_3, c44_4⟩ := s
  have h : b_tn_readRow_35 x (ar 1) (fi 44 1) l2 l3 l4 b43 c44_2 c44_3 c44_4 = some q := h
  unfold b_tn_readRow_35 at h
  show zR2 X zFT (zEx 103 S_tn_canBeginSign (zEx 97 S_tx_fail (zEx 105 S_tn_readSign (zEx 91 S_tx_isGood (zEx 92 S_tx_isAtEnd (zEx 93 S_tx_sign zE0)))))) zc_102 35 [.ref 42, .int x, .int l2, .int l3, .int l4] [] ((zua ar 43 b43), (zuf (zuf (zuf fi 44 2 c44_2) 44 3 c44_3) 44 4 c44_4), (m1, m2, m3, 1, m5)) o
  refine zT_seg t35_tn_readRow ?_
  refine zb_el h (fun hb h => zT_t hb ?_) (fun hb h => zT_f hb ?_)
  · have hz := zsi h hq
    refine (zO_mk ?_ ?_).trans hz
    · first | with_reducible rfl | (exact zuas_eq _ [(43, _)] [(43, _)] [43] rfl rfl ⟨rfl, trivial⟩)
    · first | with_reducible rfl | (exact zufs_eq _ [(44, 2, _), (44, 3, _), (44, 4, _)] [(44, 2, _), (44, 3, _), (44, 4, _)] [(44, 2), (44, 3), (44, 4)] rfl rfl ⟨rfl, rfl, rfl, trivial⟩)
  · refine zb_el h (fun hb h => zT_t hb ?_) (fun hb h => zT_f hb ?_)
    · have hz := zsi h hq
      refine (zO_mk ?_ ?_).trans hz
      · first | with_reducible rfl | (exact zuas_eq _ [(43, _)] [(43, _)] [43] rfl rfl ⟨rfl, trivial⟩)
      · first | with_reducible rfl | (exact zufs_eq _ [(44, 2, _), (44, 3, _), (44, 4, _)] [(44, 2, _), (44, 3, _), (44, 4, _)] [(44, 2), (44, 3), (44, 4)] rfl rfl ⟨rfl, rfl, rfl, trivial⟩)
    · refine zbd_el h (fun v4 hv h => zT_c hv ?_)
      refine zl_el h (fun h => zT_l ?_)
      refine zb_el h (fun hb h => zT_t hb ?_) (fun hb h => zT_f hb ?_)
      · have hz := zsi h hq
        refine zR2_hp ?_ ?_ hz
        · first | with_reducible rfl | (exact zuas_eq _ [(43, _), (43, _)] [(43, _)] [43] rfl rfl ⟨rfl, trivial⟩)
        · first | with_reducible rfl | (exact zufs_eq _ [(44, 2, _), (44, 3, _), (44, 4, _), (44, 2, _), (44, 3, _), (44, 4, _)] [(44, 2, _), (44, 3, _), (44, 4, _)] [(44, 2), (44, 3), (44, 4)] rfl rfl ⟨rfl, rfl, rfl, trivial⟩)
      · refine zl_el h (fun h => zT_l ?_)
        refine zb_el h (fun hb h => zT_t hb ?_) (fun hb h => zT_f hb ?_)
        · have hz := zsi h hq
          refine zR2_hp ?_ ?_ hz
          · first | with_reducible rfl | (exact zuas_eq _ [(43, _), (43, _)] [(43, _)] [43] rfl rfl ⟨rfl, trivial⟩)
          · first | with_reducible rfl | (exact zufs_eq _ [(44, 2, _), (44, 3, _), (44, 4, _), (44, 2, _), (44, 3, _), (44, 4, _)] [(44, 2, _), (44, 3, _), (44, 4, _)] [(44, 2), (44, 3), (44, 4)] rfl rfl ⟨rfl, rfl, rfl, trivial⟩)
        · refine zg_el h (fun hg h => zT_g hg ?_)
          refine zl_el h (fun h => zT_l ?_)
          refine zb_el h (fun hb h => zT_t hb ?_) (fun hb h => zT_f hb ?_)
          · have hz := zsi h hq
            refine zR2_hp ?_ ?_ hz
            · first | with_reducible rfl | (exact zuas_eq _ [(43, _), (43, _)] [(43, _)] [43] rfl rfl ⟨rfl, trivial⟩)
            · first | with_reducible rfl | (exact zufs_eq _ [(44, 2, _), (44, 3, _), (44, 4, _), (44, 2, _), (44, 3, _), (44, 4, _)] [(44, 2, _), (44, 3, _), (44, 4, _)] [(44, 2), (44, 3), (44, 4)] rfl rfl ⟨rfl, rfl, rfl, trivial⟩)
          · have hz := zsi h hq
            refine zR2_hp ?_ ?_ hz
            · first | with_reducible rfl | (exact zuas_eq _ [(43, _), (43, _)] [(43, _)] [43] rfl rfl ⟨rfl, trivial⟩)
            · first | with_reducible rfl | (exact zufs_eq _ [(44, 2, _), (44, 3, _), (44, 4, _), (44, 2, _), (44, 3, _), (44, 4, _)] [(44, 2, _), (44, 3, _), (44, 4, _)] [(44, 2), (44, 3), (44, 4)] rfl rfl ⟨rfl, rfl, rfl, trivial⟩)
set_option maxRecDepth 20000 in
theorem t_tn_readRow {X : Nat × (Nat → Int32)} {ar fi : Nat → Nat → Int32} {m1 m2 m3 m5 : Nat} {x : Int32} {G_tn_canBeginSign : Int32 → Int32 → Int32 → (Nat → Int32) → Bool} {W_tn_canBeginSign : Int32 → Int32 → Int32 → (Nat → Int32) → Int32} {F0_tx_fail : Int32 → Int32 → Int32 → Int32 → Int32} {F1_tx_fail : Int32 → Int32 → Int32 → Int32 → Int32} {Q_tn_readSign : Int32 → Int32 → (Nat → Int32) → (Nat → Int32) → Int32 → Int32 → Int32 → Int32 → Option (Int32 × (Nat → Int32) × Int32 × Int32 × Int32)} {W_tx_isGood : Int32 → Int32} {W_tx_isAtEnd : Int32 → Int32 → Int32} {G_tx_sign : Int32 → Int32 → Int32 → (Nat → Int32) → Bool} {W_tx_sign : Int32 → Int32 → Int32 → (Nat → Int32) → Int32} : zseg X zFT (zEx 103 (P_tn_canBeginSign G_tn_canBeginSign W_tn_canBeginSign) (zEx 97 (P_tx_fail F0_tx_fail F1_tx_fail) (zEx 105 (P_tn_readSign Q_tn_readSign) (zEx 91 (P_tx_isGood W_tx_isGood) (zEx 92 (P_tx_isAtEnd W_tx_isAtEnd) (zEx 93 (P_tx_sign G_tx_sign W_tx_sign) zE0)))))) zc_102 (fun p => Nat.beq p 35) 400 0 [.ref 42, .int x] [] (ar, fi, (m1, m2, m3, 1, m5)) = (
  bif !decide (x = 8) then
   some (.inl (35, [.ref 42, .int x, .int 0, .int 1, .int 0], [], (ar, fi, (m1, m2, m3, 1, m5))))
  else
   zg (G_tn_canBeginSign (fi 44 2) (fi 44 4) (fi 44 1) (ar 1)) (
   zl (W_tn_canBeginSign (fi 44 2) (fi 44 4) (fi 44 1) (ar 1)) (fun v1 =>
   bif decide (v1 = 0) then
    some (.inl (35, [.ref 42, .int x, .int 0, .int 1, .int 0], [], (ar, fi, (m1, m2, m3, 1, m5))))
   else
    zl (F0_tx_fail 4 (fi 44 4) (fi 44 2) (fi 44 3)) (fun v2 =>
    zl (F1_tx_fail 4 (fi 44 4) (fi 44 2) (fi 44 3)) (fun v3 =>
    some (.inl (35, [.ref 42, .int x, .int 0, .int 1, .int 0], [], (ar, (zuf (zuf fi 44 2 v2) 44 3 v3), (m1, m2, m3, 1, m5)))))))) : Option ((Nat × List Value × List Value × zH2) ⊕ zO2)) := rfl
theorem e_tn_readRow {X : Nat × (Nat → Int32)} {ar fi : Nat → Nat → Int32} {m1 m2 m3 m5 : Nat} {x : Int32} {o : zO2} : ∀ (q : T_tn_readRow), q_tn_readRow x (ar 1) (ar 43) (fi 44 1) (fi 44 2) (fi 44 3) (fi 44 4) = some q → (fun t => O_tn_readRow ar fi m1 m2 m3 m5 t = o) q → zR2 X zFT (zEx 103 S_tn_canBeginSign (zEx 97 S_tx_fail (zEx 105 S_tn_readSign (zEx 91 S_tx_isGood (zEx 92 S_tx_isAtEnd (zEx 93 S_tx_sign zE0)))))) zc_102 0 [.ref 42, .int x] [] (ar, fi, (m1, m2, m3, 1, m5)) o := by
  intro q h hq
  unfold q_tn_readRow at h
  refine zT_seg t_tn_readRow ?_
  refine zb_el h (fun hb h => zT_t hb ?_) (fun hb h => zT_f hb ?_)
  · refine zR2_hp ?_ ?_ (zlp_K k_tn_readRow_35 h hq)
    · first | with_reducible rfl | (exact zuas_eq _ [] [(43, _)] [43] rfl rfl ⟨rfl, trivial⟩)
    · first | with_reducible rfl | (exact zufs_eq _ [] [(44, 2, _), (44, 3, _), (44, 4, _)] [(44, 2), (44, 3), (44, 4)] rfl rfl ⟨rfl, rfl, rfl, trivial⟩)
  · refine zg_el h (fun hg h => zT_g hg ?_)
    refine zl_el h (fun h => zT_l ?_)
    refine zb_el h (fun hb h => zT_t hb ?_) (fun hb h => zT_f hb ?_)
    · refine zR2_hp ?_ ?_ (zlp_K k_tn_readRow_35 h hq)
      · first | with_reducible rfl | (exact zuas_eq _ [] [(43, _)] [43] rfl rfl ⟨rfl, trivial⟩)
      · first | with_reducible rfl | (exact zufs_eq _ [] [(44, 2, _), (44, 3, _), (44, 4, _)] [(44, 2), (44, 3), (44, 4)] rfl rfl ⟨rfl, rfl, rfl, trivial⟩)
    · refine zl_el h (fun h => zT_l ?_)
      refine zl_el h (fun h => zT_l ?_)
      refine zR2_hp ?_ ?_ (zlp_K k_tn_readRow_35 h hq)
      · first | with_reducible rfl | (exact zuas_eq _ [] [(43, _)] [43] rfl rfl ⟨rfl, trivial⟩)
      · first | with_reducible rfl | (exact zufs_eq _ [(44, 2, _), (44, 3, _)] [(44, 2, _), (44, 3, _), (44, 4, _)] [(44, 2), (44, 3), (44, 4)] rfl rfl ⟨rfl, rfl, rfl, trivial⟩)
theorem ok_tn_readRow (X : Nat × (Nat → Int32)) : zOkS X 102 S_tn_readRow 5 := zOkS_new (zOkE_cons (ok_tn_canBeginSign X) (by decide) (zOkE_cons (ok_tx_fail X) (by decide) (zOkE_cons (ok_tn_readSign X) (by decide) (zOkE_cons (ok_tx_isGood X) (by decide) (zOkE_cons (ok_tx_isAtEnd X) (by decide) (zOkE_cons (ok_tx_sign X) (by decide) (zOkE_nil X 4))))))) (by
  intro args g o h
  obtain ⟨ar, fi, m1, m2, m3, m4, m5⟩ := g
  unfold S_tn_readRow P_tn_readRow at h
  split at h
  · refine zb_el h (fun hI0 k0 => ?_) (fun _ h10 => ?_)
    · try simp only [Bool.and_eq_true] at hI0
      obtain ⟨j0, j1⟩ := hI0
      have e0 := Nat.eq_of_beq_eq_true j0
      subst e0
      have e9 : m4 = 1 := Nat.eq_of_beq_eq_true j1
      subst e9
      exact zpe_el k0 (fun t ht ho => e_tn_readRow t ht ho)
    · cases h10
  · cases h)
abbrev T_if_feed : Type := Int32 × (Nat → Int32) × Int32
noncomputable def q_if_feed (x : Int32) (y : Int32) (z : Int32) (u : Int32) (v : Int32) (a1 : Nat → Int32) (f0_1 : Int32) : Option T_if_feed :=
  bif decide ((f0_1) + 20 ≤ 260) then
   zbd (q_if_putBytes x a1 (f0_1)) (fun v1 =>
   zbd (q_if_putBytes y ((v1.1)) ((v1.2))) (fun v2 =>
   zbd (q_if_putBytes z ((v2.1)) ((v2.2))) (fun v3 =>
   zbd (q_if_putBytes u ((v3.1)) ((v3.2))) (fun v4 =>
   zbd (q_if_putBytes v ((v4.1)) ((v4.2))) (fun v5 =>
   some ((v5.2), ((v5.1)), (v5.2)))))))
  else
   some ((-1), a1, f0_1)
def P_if_feed (Q : Int32 → Int32 → Int32 → Int32 → Int32 → (Nat → Int32) → Int32 → Option (Int32 × (Nat → Int32) × Int32)) : zSp := fun as g => match as with
  | [.ref a, .int x, .int y, .int z, .int u, .int v] => bif Nat.beq a 0 then zpe (Q x y z u v (g.1 1) (g.2.1 0 1)) (fun t => (some (.int (t.1)), ((zua g.1 1 t.2.1), (zuf g.2.1 0 1 t.2.2), g.2.2))) else none
  | _ => none
noncomputable abbrev S_if_feed : zSp := P_if_feed q_if_feed
def O_if_feed (ar fi : Nat → Nat → Int32) (m1 : Nat) (m2 : Nat) (m3 : Nat) (m4 : Nat) (m5 : Nat) (t : T_if_feed) : zO2 := (some (.int (t.1)), ((zua ar 1 t.2.1), (zuf fi 0 1 t.2.2), (m1, m2, m3, m4, m5)))
set_option maxRecDepth 20000 in
theorem t_if_feed {X : Nat × (Nat → Int32)} {ar fi : Nat → Nat → Int32} {m1 m2 m3 m4 m5 : Nat} {x y z u v : Int32} {Q_if_putBytes : Int32 → (Nat → Int32) → Int32 → Option ((Nat → Int32) × Int32)} : zseg X zFT (zEx 135 (P_if_putBytes Q_if_putBytes) zE0) zc_109 (fun p => false) 400 0 [.ref 0, .int x, .int y, .int z, .int u, .int v] [] (ar, fi, (m1, m2, m3, m4, m5)) = (
  bif decide ((fi 0 1) + 20 ≤ 260) then
   zl (Q_if_putBytes x (ar 1) (fi 0 1)) (fun v1 => zg v1.isSome (
   zl (Q_if_putBytes y (((zgt v1).1)) (((zgt v1).2))) (fun v2 => zg v2.isSome (
   zl (Q_if_putBytes z (((zgt v2).1)) (((zgt v2).2))) (fun v3 => zg v3.isSome (
   zl (Q_if_putBytes u (((zgt v3).1)) (((zgt v3).2))) (fun v4 => zg v4.isSome (
   zl (Q_if_putBytes v (((zgt v4).1)) (((zgt v4).2))) (fun v5 => zg v5.isSome (
   some (.inr (some (.int (((zgt v5).2))), ((zua (zua (zua (zua (zua ar 1 (((zgt v1).1))) 1 (((zgt v2).1))) 1 (((zgt v3).1))) 1 (((zgt v4).1))) 1 (((zgt v5).1))), (zuf (zuf (zuf (zuf (zuf fi 0 1 (((zgt v1).2))) 0 1 (((zgt v2).2))) 0 1 (((zgt v3).2))) 0 1 (((zgt v4).2))) 0 1 (((zgt v5).2))), (m1, m2, m3, m4, m5))))))))))))))
  else
   some (.inr (some (.int (-1)), (ar, fi, (m1, m2, m3, m4, m5)))) : Option ((Nat × List Value × List Value × zH2) ⊕ zO2)) := rfl
theorem e_if_feed {X : Nat × (Nat → Int32)} {ar fi : Nat → Nat → Int32} {m1 m2 m3 m4 m5 : Nat} {x y z u v : Int32} {o : zO2} : ∀ (q : T_if_feed), q_if_feed x y z u v (ar 1) (fi 0 1) = some q → (fun t => O_if_feed ar fi m1 m2 m3 m4 m5 t = o) q → zR2 X zFT (zEx 135 S_if_putBytes zE0) zc_109 0 [.ref 0, .int x, .int y, .int z, .int u, .int v] [] (ar, fi, (m1, m2, m3, m4, m5)) o := by
  intro q h hq
  unfold q_if_feed at h
  refine zT_seg t_if_feed ?_
  refine zb_el h (fun hb h => zT_t hb ?_) (fun hb h => zT_f hb ?_)
  · refine zbd_el h (fun v1 hv h => zT_c hv ?_)
    refine zbd_el h (fun v2 hv h => zT_c hv ?_)
    refine zbd_el h (fun v3 hv h => zT_c hv ?_)
    refine zbd_el h (fun v4 hv h => zT_c hv ?_)
    refine zbd_el h (fun v5 hv h => zT_c hv ?_)
    have hz := zsi h hq
    refine (zO_mk ?_ ?_).trans hz
    · first | with_reducible rfl | (exact zuas_eq _ [(1, _), (1, _), (1, _), (1, _), (1, _)] [(1, _)] [1] rfl rfl ⟨rfl, trivial⟩)
    · first | with_reducible rfl | (exact zufs_eq _ [(0, 1, _), (0, 1, _), (0, 1, _), (0, 1, _), (0, 1, _)] [(0, 1, _)] [(0, 1)] rfl rfl ⟨rfl, trivial⟩)
  · have hz := zsi h hq
    refine (zO_mk ?_ ?_).trans hz
    · first | with_reducible rfl | (exact zuas_eq _ [] [(1, _)] [1] rfl rfl ⟨rfl, trivial⟩)
    · first | with_reducible rfl | (exact zufs_eq _ [] [(0, 1, _)] [(0, 1)] rfl rfl ⟨rfl, trivial⟩)
theorem ok_if_feed (X : Nat × (Nat → Int32)) : zOkS X 109 S_if_feed 2 := zOkS_new (zOkE_cons (ok_if_putBytes X) (by decide) (zOkE_nil X 1)) (by
  intro args g o h
  obtain ⟨ar, fi, m1, m2, m3, m4, m5⟩ := g
  unfold S_if_feed P_if_feed at h
  split at h
  · refine zb_el h (fun hI0 k0 => ?_) (fun _ h10 => ?_)
    · try simp only [Bool.and_eq_true] at hI0
      have j0 := hI0
      have e0 := Nat.eq_of_beq_eq_true j0
      subst e0
      exact zpe_el k0 (fun t ht ho => e_if_feed t ht ho)
    · cases h10
  · cases h)
abbrev T_if_insure : Type := Int32 × Int32
noncomputable def q_if_insure (x : Int32) (y : Int32) (z : Int32) (a1 : Nat → Int32) (f0_1 : Int32) : Option T_if_insure :=
  zl (w_if_isWithin y 0 2550) (fun v1 =>
  bif decide (v1 = 0) then
   some ((-1), f0_1)
  else
   zl (w_if_isWithin z 0 2) (fun v2 =>
   bif decide (v2 = 0) then
    some ((-1), f0_1)
   else
    zl (w_if_isWithin x 1 10) (fun v3 =>
    bif decide (v3 = 0) then
     some ((-1), f0_1)
    else
     bif decide (2 * x ≤ f0_1) then
      zbd (q_cl_bestPolicies x y a1) (fun v4 =>
      bif !decide (z = 2) then
       zbd (q_cl_sumOf x (v4) z a1) (fun v5 =>
       some (v5, 0))
      else
       some (v4, 0))
     else
      some ((-1), f0_1))))
def P_if_insure (Q : Int32 → Int32 → Int32 → (Nat → Int32) → Int32 → Option (Int32 × Int32)) : zSp := fun as g => match as with
  | [.ref a, .int x, .int y, .int z] => bif Nat.beq a 0 then zpe (Q x y z (g.1 1) (g.2.1 0 1)) (fun t => (some (.int (t.1)), (g.1, (zuf g.2.1 0 1 t.2), g.2.2))) else none
  | _ => none
noncomputable abbrev S_if_insure : zSp := P_if_insure q_if_insure
def O_if_insure (ar fi : Nat → Nat → Int32) (m1 : Nat) (m2 : Nat) (m3 : Nat) (m4 : Nat) (m5 : Nat) (t : T_if_insure) : zO2 := (some (.int (t.1)), (ar, (zuf fi 0 1 t.2), (m1, m2, m3, m4, m5)))
set_option maxRecDepth 20000 in
theorem t_if_insure {X : Nat × (Nat → Int32)} {ar fi : Nat → Nat → Int32} {m1 m2 m3 m4 m5 : Nat} {x y z : Int32} {W_if_isWithin : Int32 → Int32 → Int32 → Int32} {Q_cl_bestPolicies : Int32 → Int32 → (Nat → Int32) → Option (Int32)} {Q_cl_sumOf : Int32 → Int32 → Int32 → (Nat → Int32) → Option (Int32)} : zseg X zFT (zEx 137 (P_if_isWithin W_if_isWithin) (zEx 1 (P_cl_bestPolicies Q_cl_bestPolicies) (zEx 2 (P_cl_sumOf Q_cl_sumOf) zE0))) zc_124 (fun p => false) 400 0 [.ref 0, .int x, .int y, .int z] [] (ar, fi, (m1, m2, m3, m4, m5)) = (
  zl (W_if_isWithin y 0 2550) (fun v1 =>
  bif decide (v1 = 0) then
   some (.inr (some (.int (-1)), (ar, fi, (m1, m2, m3, m4, m5))))
  else
   zl (W_if_isWithin z 0 2) (fun v2 =>
   bif decide (v2 = 0) then
    some (.inr (some (.int (-1)), (ar, fi, (m1, m2, m3, m4, m5))))
   else
    zl (W_if_isWithin x 1 10) (fun v3 =>
    bif decide (v3 = 0) then
     some (.inr (some (.int (-1)), (ar, fi, (m1, m2, m3, m4, m5))))
    else
     bif decide (2 * x ≤ fi 0 1) then
      zl (Q_cl_bestPolicies x y (ar 1)) (fun v4 => zg v4.isSome (
      bif !decide (z = 2) then
       zl (Q_cl_sumOf x (((zgt v4))) z (ar 1)) (fun v5 => zg v5.isSome (
       some (.inr (some (.int (((zgt v5)))), (ar, (zuf fi 0 1 0), (m1, m2, m3, m4, m5))))))
      else
       some (.inr (some (.int (((zgt v4)))), (ar, (zuf fi 0 1 0), (m1, m2, m3, m4, m5))))))
     else
      some (.inr (some (.int (-1)), (ar, fi, (m1, m2, m3, m4, m5))))))) : Option ((Nat × List Value × List Value × zH2) ⊕ zO2)) := rfl
theorem e_if_insure {X : Nat × (Nat → Int32)} {ar fi : Nat → Nat → Int32} {m1 m2 m3 m4 m5 : Nat} {x y z : Int32} {o : zO2} : ∀ (q : T_if_insure), q_if_insure x y z (ar 1) (fi 0 1) = some q → (fun t => O_if_insure ar fi m1 m2 m3 m4 m5 t = o) q → zR2 X zFT (zEx 137 S_if_isWithin (zEx 1 S_cl_bestPolicies (zEx 2 S_cl_sumOf zE0))) zc_124 0 [.ref 0, .int x, .int y, .int z] [] (ar, fi, (m1, m2, m3, m4, m5)) o := by
  intro q h hq
  unfold q_if_insure at h
  refine zT_seg t_if_insure ?_
  refine zl_el h (fun h => zT_l ?_)
  refine zb_el h (fun hb h => zT_t hb ?_) (fun hb h => zT_f hb ?_)
  · have hz := zsi h hq
    refine (zO_mk ?_ ?_).trans hz
    · first | with_reducible rfl | (rfl)
    · first | with_reducible rfl | (exact zufs_eq _ [] [(0, 1, _)] [(0, 1)] rfl rfl ⟨rfl, trivial⟩)
  · refine zl_el h (fun h => zT_l ?_)
    refine zb_el h (fun hb h => zT_t hb ?_) (fun hb h => zT_f hb ?_)
    · have hz := zsi h hq
      refine (zO_mk ?_ ?_).trans hz
      · first | with_reducible rfl | (rfl)
      · first | with_reducible rfl | (exact zufs_eq _ [] [(0, 1, _)] [(0, 1)] rfl rfl ⟨rfl, trivial⟩)
    · refine zl_el h (fun h => zT_l ?_)
      refine zb_el h (fun hb h => zT_t hb ?_) (fun hb h => zT_f hb ?_)
      · have hz := zsi h hq
        refine (zO_mk ?_ ?_).trans hz
        · first | with_reducible rfl | (rfl)
        · first | with_reducible rfl | (exact zufs_eq _ [] [(0, 1, _)] [(0, 1)] rfl rfl ⟨rfl, trivial⟩)
      · refine zb_el h (fun hb h => zT_t hb ?_) (fun hb h => zT_f hb ?_)
        · refine zbd_el h (fun v4 hv h => zT_c hv ?_)
          refine zb_el h (fun hb h => zT_t hb ?_) (fun hb h => zT_f hb ?_)
          · refine zbd_el h (fun v5 hv h => zT_c hv ?_)
            have hz := zsi h hq
            refine (zO_mk ?_ ?_).trans hz
            · first | with_reducible rfl | (rfl)
            · first | with_reducible rfl | (exact zufs_eq _ [(0, 1, _)] [(0, 1, _)] [(0, 1)] rfl rfl ⟨rfl, trivial⟩)
          · have hz := zsi h hq
            refine (zO_mk ?_ ?_).trans hz
            · first | with_reducible rfl | (rfl)
            · first | with_reducible rfl | (exact zufs_eq _ [(0, 1, _)] [(0, 1, _)] [(0, 1)] rfl rfl ⟨rfl, trivial⟩)
        · have hz := zsi h hq
          refine (zO_mk ?_ ?_).trans hz
          · first | with_reducible rfl | (rfl)
          · first | with_reducible rfl | (exact zufs_eq _ [] [(0, 1, _)] [(0, 1)] rfl rfl ⟨rfl, trivial⟩)
theorem ok_if_insure (X : Nat × (Nat → Int32)) : zOkS X 124 S_if_insure 3 := zOkS_new (zOkE_cons (ok_if_isWithin X) (by decide) (zOkE_cons (ok_cl_bestPolicies X) (by decide) (zOkE_cons (ok_cl_sumOf X) (by decide) (zOkE_nil X 2)))) (by
  intro args g o h
  obtain ⟨ar, fi, m1, m2, m3, m4, m5⟩ := g
  unfold S_if_insure P_if_insure at h
  split at h
  · refine zb_el h (fun hI0 k0 => ?_) (fun _ h10 => ?_)
    · try simp only [Bool.and_eq_true] at hI0
      have j0 := hI0
      have e0 := Nat.eq_of_beq_eq_true j0
      subst e0
      exact zpe_el k0 (fun t ht ho => e_if_insure t ht ho)
    · cases h10
  · cases h)
abbrev T_if_ruin : Type := Int32 × Int32
noncomputable def q_if_ruin (x : Int32) (y : Int32) (z : Int32) (a1 : Nat → Int32) (f0_1 : Int32) : Option T_if_ruin :=
  zl (w_if_isWithin x 2 6) (fun v1 =>
  bif decide (v1 = 0) then
   some ((-1), f0_1)
  else
   zl (w_if_isWithin y 0 (x - 1)) (fun v2 =>
   bif decide (v2 = 0) then
    some ((-1), f0_1)
   else
    zl (w_if_isWithin z 0 1) (fun v3 =>
    bif decide (v3 = 0) then
     some ((-1), f0_1)
    else
     bif decide (x * x ≤ f0_1) then
      zbd (q_cl_ruinedBy x y a1) (fun v4 =>
      bif !decide (z = 0) then
       some (v4, 0)
      else
       zl (w_in_bitCount (v4)) (fun v5 =>
       some (v5, 0)))
     else
      some ((-1), f0_1))))
def P_if_ruin (Q : Int32 → Int32 → Int32 → (Nat → Int32) → Int32 → Option (Int32 × Int32)) : zSp := fun as g => match as with
  | [.ref a, .int x, .int y, .int z] => bif Nat.beq a 0 then zpe (Q x y z (g.1 1) (g.2.1 0 1)) (fun t => (some (.int (t.1)), (g.1, (zuf g.2.1 0 1 t.2), g.2.2))) else none
  | _ => none
noncomputable abbrev S_if_ruin : zSp := P_if_ruin q_if_ruin
def O_if_ruin (ar fi : Nat → Nat → Int32) (m1 : Nat) (m2 : Nat) (m3 : Nat) (m4 : Nat) (m5 : Nat) (t : T_if_ruin) : zO2 := (some (.int (t.1)), (ar, (zuf fi 0 1 t.2), (m1, m2, m3, m4, m5)))
set_option maxRecDepth 20000 in
theorem t_if_ruin {X : Nat × (Nat → Int32)} {ar fi : Nat → Nat → Int32} {m1 m2 m3 m4 m5 : Nat} {x y z : Int32} {W_if_isWithin : Int32 → Int32 → Int32 → Int32} {Q_cl_ruinedBy : Int32 → Int32 → (Nat → Int32) → Option (Int32)} {W_in_bitCount : Int32 → Int32} : zseg X zFT (zEx 137 (P_if_isWithin W_if_isWithin) (zEx 5 (P_cl_ruinedBy Q_cl_ruinedBy) (zEx 250 (P_in_bitCount W_in_bitCount) zE0))) zc_126 (fun p => false) 400 0 [.ref 0, .int x, .int y, .int z] [] (ar, fi, (m1, m2, m3, m4, m5)) = (
  zl (W_if_isWithin x 2 6) (fun v1 =>
  bif decide (v1 = 0) then
   some (.inr (some (.int (-1)), (ar, fi, (m1, m2, m3, m4, m5))))
  else
   zl (W_if_isWithin y 0 (x - 1)) (fun v2 =>
   bif decide (v2 = 0) then
    some (.inr (some (.int (-1)), (ar, fi, (m1, m2, m3, m4, m5))))
   else
    zl (W_if_isWithin z 0 1) (fun v3 =>
    bif decide (v3 = 0) then
     some (.inr (some (.int (-1)), (ar, fi, (m1, m2, m3, m4, m5))))
    else
     bif decide (x * x ≤ fi 0 1) then
      zl (Q_cl_ruinedBy x y (ar 1)) (fun v4 => zg v4.isSome (
      bif !decide (z = 0) then
       some (.inr (some (.int (((zgt v4)))), (ar, (zuf fi 0 1 0), (m1, m2, m3, m4, m5))))
      else
       zl (W_in_bitCount (((zgt v4)))) (fun v5 =>
       some (.inr (some (.int v5), (ar, (zuf fi 0 1 0), (m1, m2, m3, m4, m5)))))))
     else
      some (.inr (some (.int (-1)), (ar, fi, (m1, m2, m3, m4, m5))))))) : Option ((Nat × List Value × List Value × zH2) ⊕ zO2)) := rfl
theorem e_if_ruin {X : Nat × (Nat → Int32)} {ar fi : Nat → Nat → Int32} {m1 m2 m3 m4 m5 : Nat} {x y z : Int32} {o : zO2} : ∀ (q : T_if_ruin), q_if_ruin x y z (ar 1) (fi 0 1) = some q → (fun t => O_if_ruin ar fi m1 m2 m3 m4 m5 t = o) q → zR2 X zFT (zEx 137 S_if_isWithin (zEx 5 S_cl_ruinedBy (zEx 250 S_in_bitCount zE0))) zc_126 0 [.ref 0, .int x, .int y, .int z] [] (ar, fi, (m1, m2, m3, m4, m5)) o := by
  intro q h hq
  unfold q_if_ruin at h
  refine zT_seg t_if_ruin ?_
  refine zl_el h (fun h => zT_l ?_)
  refine zb_el h (fun hb h => zT_t hb ?_) (fun hb h => zT_f hb ?_)
  · have hz := zsi h hq
    refine (zO_mk ?_ ?_).trans hz
    · first | with_reducible rfl | (rfl)
    · first | with_reducible rfl | (exact zufs_eq _ [] [(0, 1, _)] [(0, 1)] rfl rfl ⟨rfl, trivial⟩)
  · refine zl_el h (fun h => zT_l ?_)
    refine zb_el h (fun hb h => zT_t hb ?_) (fun hb h => zT_f hb ?_)
    · have hz := zsi h hq
      refine (zO_mk ?_ ?_).trans hz
      · first | with_reducible rfl | (rfl)
      · first | with_reducible rfl | (exact zufs_eq _ [] [(0, 1, _)] [(0, 1)] rfl rfl ⟨rfl, trivial⟩)
    · refine zl_el h (fun h => zT_l ?_)
      refine zb_el h (fun hb h => zT_t hb ?_) (fun hb h => zT_f hb ?_)
      · have hz := zsi h hq
        refine (zO_mk ?_ ?_).trans hz
        · first | with_reducible rfl | (rfl)
        · first | with_reducible rfl | (exact zufs_eq _ [] [(0, 1, _)] [(0, 1)] rfl rfl ⟨rfl, trivial⟩)
      · refine zb_el h (fun hb h => zT_t hb ?_) (fun hb h => zT_f hb ?_)
        · refine zbd_el h (fun v4 hv h => zT_c hv ?_)
          refine zb_el h (fun hb h => zT_t hb ?_) (fun hb h => zT_f hb ?_)
          · have hz := zsi h hq
            refine (zO_mk ?_ ?_).trans hz
            · first | with_reducible rfl | (rfl)
            · first | with_reducible rfl | (exact zufs_eq _ [(0, 1, _)] [(0, 1, _)] [(0, 1)] rfl rfl ⟨rfl, trivial⟩)
          · refine zl_el h (fun h => zT_l ?_)
            have hz := zsi h hq
            refine (zO_mk ?_ ?_).trans hz
            · first | with_reducible rfl | (rfl)
            · first | with_reducible rfl | (exact zufs_eq _ [(0, 1, _)] [(0, 1, _)] [(0, 1)] rfl rfl ⟨rfl, trivial⟩)
        · have hz := zsi h hq
          refine (zO_mk ?_ ?_).trans hz
          · first | with_reducible rfl | (rfl)
          · first | with_reducible rfl | (exact zufs_eq _ [] [(0, 1, _)] [(0, 1)] rfl rfl ⟨rfl, trivial⟩)
theorem ok_if_ruin (X : Nat × (Nat → Int32)) : zOkS X 126 S_if_ruin 3 := zOkS_new (zOkE_cons (ok_if_isWithin X) (by decide) (zOkE_cons (ok_cl_ruinedBy X) (by decide) (zOkE_cons (ok_in_bitCount X) (by decide) (zOkE_nil X 2)))) (by
  intro args g o h
  obtain ⟨ar, fi, m1, m2, m3, m4, m5⟩ := g
  unfold S_if_ruin P_if_ruin at h
  split at h
  · refine zb_el h (fun hI0 k0 => ?_) (fun _ h10 => ?_)
    · try simp only [Bool.and_eq_true] at hI0
      have j0 := hI0
      have e0 := Nat.eq_of_beq_eq_true j0
      subst e0
      exact zpe_el k0 (fun t ht ho => e_if_ruin t ht ho)
    · cases h10
  · cases h)
abbrev T_if_carried : Type := Int32 × (Nat → Int32) × Int32
noncomputable def q_if_carried (x : Int32) (a1 : Nat → Int32) (a63 : Nat → Int32) (f0_1 : Int32) : Option T_if_carried :=
  zl (w_if_isWithin x 1 10) (fun v1 =>
  bif decide (v1 = 0) then
   some ((-1), a63, f0_1)
  else
   bif decide (3 * x ≤ f0_1) then
    zbd (q_cl_mostCarried x a1 a63) (fun v2 =>
    some ((v2.1), ((v2.2)), 0))
   else
    some ((-1), a63, f0_1))
def P_if_carried (Q : Int32 → (Nat → Int32) → (Nat → Int32) → Int32 → Option (Int32 × (Nat → Int32) × Int32)) : zSp := fun as g => match as with
  | [.ref a, .int x] => bif Nat.beq a 0 then zpe (Q x (g.1 1) (g.1 63) (g.2.1 0 1)) (fun t => (some (.int (t.1)), ((zua g.1 63 t.2.1), (zuf g.2.1 0 1 t.2.2), g.2.2))) else none
  | _ => none
noncomputable abbrev S_if_carried : zSp := P_if_carried q_if_carried
def O_if_carried (ar fi : Nat → Nat → Int32) (m1 : Nat) (m2 : Nat) (m3 : Nat) (m4 : Nat) (m5 : Nat) (t : T_if_carried) : zO2 := (some (.int (t.1)), ((zua ar 63 t.2.1), (zuf fi 0 1 t.2.2), (m1, m2, m3, m4, m5)))
set_option maxRecDepth 20000 in
theorem t_if_carried {X : Nat × (Nat → Int32)} {ar fi : Nat → Nat → Int32} {m1 m2 m3 m4 m5 : Nat} {x : Int32} {W_if_isWithin : Int32 → Int32 → Int32 → Int32} {Q_cl_mostCarried : Int32 → (Nat → Int32) → (Nat → Int32) → Option (Int32 × (Nat → Int32))} : zseg X zFT (zEx 137 (P_if_isWithin W_if_isWithin) (zEx 7 (P_cl_mostCarried Q_cl_mostCarried) zE0)) zc_127 (fun p => false) 400 0 [.ref 0, .int x] [] (ar, fi, (m1, m2, m3, m4, m5)) = (
  zl (W_if_isWithin x 1 10) (fun v1 =>
  bif decide (v1 = 0) then
   some (.inr (some (.int (-1)), (ar, fi, (m1, m2, m3, m4, m5))))
  else
   bif decide (3 * x ≤ fi 0 1) then
    zl (Q_cl_mostCarried x (ar 1) (ar 63)) (fun v2 => zg v2.isSome (
    some (.inr (some (.int (((zgt v2).1))), ((zua ar 63 (((zgt v2).2))), (zuf fi 0 1 0), (m1, m2, m3, m4, m5))))))
   else
    some (.inr (some (.int (-1)), (ar, fi, (m1, m2, m3, m4, m5))))) : Option ((Nat × List Value × List Value × zH2) ⊕ zO2)) := rfl
theorem e_if_carried {X : Nat × (Nat → Int32)} {ar fi : Nat → Nat → Int32} {m1 m2 m3 m4 m5 : Nat} {x : Int32} {o : zO2} : ∀ (q : T_if_carried), q_if_carried x (ar 1) (ar 63) (fi 0 1) = some q → (fun t => O_if_carried ar fi m1 m2 m3 m4 m5 t = o) q → zR2 X zFT (zEx 137 S_if_isWithin (zEx 7 S_cl_mostCarried zE0)) zc_127 0 [.ref 0, .int x] [] (ar, fi, (m1, m2, m3, m4, m5)) o := by
  intro q h hq
  unfold q_if_carried at h
  refine zT_seg t_if_carried ?_
  refine zl_el h (fun h => zT_l ?_)
  refine zb_el h (fun hb h => zT_t hb ?_) (fun hb h => zT_f hb ?_)
  · have hz := zsi h hq
    refine (zO_mk ?_ ?_).trans hz
    · first | with_reducible rfl | (exact zuas_eq _ [] [(63, _)] [63] rfl rfl ⟨rfl, trivial⟩)
    · first | with_reducible rfl | (exact zufs_eq _ [] [(0, 1, _)] [(0, 1)] rfl rfl ⟨rfl, trivial⟩)
  · refine zb_el h (fun hb h => zT_t hb ?_) (fun hb h => zT_f hb ?_)
    · refine zbd_el h (fun v2 hv h => zT_c hv ?_)
      have hz := zsi h hq
      refine (zO_mk ?_ ?_).trans hz
      · first | with_reducible rfl | (exact zuas_eq _ [(63, _)] [(63, _)] [63] rfl rfl ⟨rfl, trivial⟩)
      · first | with_reducible rfl | (exact zufs_eq _ [(0, 1, _)] [(0, 1, _)] [(0, 1)] rfl rfl ⟨rfl, trivial⟩)
    · have hz := zsi h hq
      refine (zO_mk ?_ ?_).trans hz
      · first | with_reducible rfl | (exact zuas_eq _ [] [(63, _)] [63] rfl rfl ⟨rfl, trivial⟩)
      · first | with_reducible rfl | (exact zufs_eq _ [] [(0, 1, _)] [(0, 1)] rfl rfl ⟨rfl, trivial⟩)
theorem ok_if_carried (X : Nat × (Nat → Int32)) : zOkS X 127 S_if_carried 3 := zOkS_new (zOkE_cons (ok_if_isWithin X) (by decide) (zOkE_cons (ok_cl_mostCarried X) (by decide) (zOkE_nil X 2))) (by
  intro args g o h
  obtain ⟨ar, fi, m1, m2, m3, m4, m5⟩ := g
  unfold S_if_carried P_if_carried at h
  split at h
  · refine zb_el h (fun hI0 k0 => ?_) (fun _ h10 => ?_)
    · try simp only [Bool.and_eq_true] at hI0
      have j0 := hI0
      have e0 := Nat.eq_of_beq_eq_true j0
      subst e0
      exact zpe_el k0 (fun t ht ho => e_if_carried t ht ho)
    · cases h10
  · cases h)
abbrev T_md_waysApart : Type := Int32 × (Nat → Int32) × (Nat → Int32) × (Nat → Int32) × (Nat → Int32) × (Nat → Int32) × Int32
abbrev U_md_waysApart_34 : Type := Int32 × (Nat → Int32) × (Nat → Int32) × (Nat → Int32) × (Nat → Int32) × (Nat → Int32) × Int32
abbrev U_md_waysApart_5 : Type := Int32 × (Nat → Int32) × (Nat → Int32)
noncomputable def b_md_waysApart_34 (x : Int32) (y : Int32) (a68 : Nat → Int32) (l3 : Int32) (b87 : Nat → Int32) (b88 : Nat → Int32) (b89 : Nat → Int32) (b90 : Nat → Int32) (b91 : Nat → Int32) (c64_40 : Int32) : Option (U_md_waysApart_34 ⊕ T_md_waysApart) :=
  zbd (q_md_findsWay x y a68 b87 b88 b89 b90 c64_40) (fun v1 =>
  bif decide ((v1.1) = 0) then
   some (.inr (l3, ((v1.2.1)), b88, b89, ((v1.2.2.1)), b91, (v1.2.2.2)))
  else
   zbd (q_md_goesAlong x y b88 b89 ((v1.2.2.1)) b91) (fun v2 =>
   some (.inl (l3 + 1, ((v1.2.1)), ((v2.1)), ((v2.2.1)), ((v1.2.2.1)), ((v2.2.2)), (v1.2.2.2)))))
noncomputable def f_md_waysApart_34 (x : Int32) (y : Int32) (a68 : Nat → Int32) : U_md_waysApart_34 → Option (U_md_waysApart_34 ⊕ T_md_waysApart) := fun s => b_md_waysApart_34 x y a68 s.1 s.2.1 s.2.2.1 s.2.2.2.1 s.2.2.2.2.1 s.2.2.2.2.2.1 s.2.2.2.2.2.2
noncomputable def l_md_waysApart_34 (x : Int32) (y : Int32) (a68 : Nat → Int32) (l3 : Int32) (b87 : Nat → Int32) (b88 : Nat → Int32) (b89 : Nat → Int32) (b90 : Nat → Int32) (b91 : Nat → Int32) (c64_40 : Int32) : Option T_md_waysApart := zlp (f_md_waysApart_34 x y a68) (l3, b87, b88, b89, b90, b91, c64_40)
noncomputable def b_md_waysApart_5 (x : Int32) (y : Int32) (a68 : Nat → Int32) (l3 : Int32) (b87 : Nat → Int32) (b90 : Nat → Int32) (b91 : Nat → Int32) (c64_40 : Int32) (l4 : Int32) (b88 : Nat → Int32) (b89 : Nat → Int32) : Option (U_md_waysApart_5 ⊕ T_md_waysApart) :=
  bif decide (96 ≤ l4) then
   zbd (l_md_waysApart_34 x y a68 l3 b87 b88 b89 b90 b91 c64_40) (fun k => some (.inr k))
  else
   zg (zin l4 96) (
   zg (zin l4 96) (
   some (.inl (l4 + 1, (zup b88 (l4.toNatClampNeg) (-1)), (zup b89 (l4.toNatClampNeg) (-1))))))
noncomputable def f_md_waysApart_5 (x : Int32) (y : Int32) (a68 : Nat → Int32) (l3 : Int32) (b87 : Nat → Int32) (b90 : Nat → Int32) (b91 : Nat → Int32) (c64_40 : Int32) : U_md_waysApart_5 → Option (U_md_waysApart_5 ⊕ T_md_waysApart) := fun s => b_md_waysApart_5 x y a68 l3 b87 b90 b91 c64_40 s.1 s.2.1 s.2.2
noncomputable def l_md_waysApart_5 (x : Int32) (y : Int32) (a68 : Nat → Int32) (l3 : Int32) (b87 : Nat → Int32) (b90 : Nat → Int32) (b91 : Nat → Int32) (c64_40 : Int32) (l4 : Int32) (b88 : Nat → Int32) (b89 : Nat → Int32) : Option T_md_waysApart := zlp (f_md_waysApart_5 x y a68 l3 b87 b90 b91 c64_40) (l4, b88, b89)
noncomputable def q_md_waysApart (x : Int32) (y : Int32) (a68 : Nat → Int32) (a87 : Nat → Int32) (a88 : Nat → Int32) (a89 : Nat → Int32) (a90 : Nat → Int32) (a91 : Nat → Int32) (f64_40 : Int32) : Option T_md_waysApart :=
  l_md_waysApart_5 x y a68 0 a87 a90 a91 (f64_40) 0 a88 a89
def P_md_waysApart (Q : Int32 → Int32 → (Nat → Int32) → (Nat → Int32) → (Nat → Int32) → (Nat → Int32) → (Nat → Int32) → (Nat → Int32) → Int32 → Option (Int32 × (Nat → Int32) × (Nat → Int32) × (Nat → Int32) × (Nat → Int32) × (Nat → Int32) × Int32)) : zSp := fun as g => match as with
  | [.ref a, .int x, .int y] => bif Nat.beq a 64 then zpe (Q x y (g.1 68) (g.1 87) (g.1 88) (g.1 89) (g.1 90) (g.1 91) (g.2.1 64 40)) (fun t => (some (.int (t.1)), ((zua (zua (zua (zua (zua g.1 87 t.2.1) 88 t.2.2.1) 89 t.2.2.2.1) 90 t.2.2.2.2.1) 91 t.2.2.2.2.2.1), (zuf g.2.1 64 40 t.2.2.2.2.2.2), g.2.2))) else none
  | _ => none
noncomputable abbrev S_md_waysApart : zSp := P_md_waysApart q_md_waysApart
def O_md_waysApart (ar fi : Nat → Nat → Int32) (m1 : Nat) (m2 : Nat) (m3 : Nat) (m4 : Nat) (m5 : Nat) (t : T_md_waysApart) : zO2 := (some (.int (t.1)), ((zua (zua (zua (zua (zua ar 87 t.2.1) 88 t.2.2.1) 89 t.2.2.2.1) 90 t.2.2.2.2.1) 91 t.2.2.2.2.2.1), (zuf fi 64 40 t.2.2.2.2.2.2), (m1, m2, m3, m4, m5)))
def M_md_waysApart_34 (X : Nat × (Nat → Int32)) (E : zTE) (ar fi : Nat → Nat → Int32) (m1 : Nat) (m2 : Nat) (m3 : Nat) (m4 : Nat) (m5 : Nat) (x : Int32) (y : Int32) (o : zO2) (s : U_md_waysApart_34) : Prop := zR2 X zFT E zc_226 34 [.ref 64, .int x, .int y, .int s.1] [] ((zua (zua (zua (zua (zua ar 87 s.2.1) 88 s.2.2.1) 89 s.2.2.2.1) 90 s.2.2.2.2.1) 91 s.2.2.2.2.2.1), (zuf fi 64 40 s.2.2.2.2.2.2), (m1, m2, m3, m4, m5)) o
def M_md_waysApart_5 (X : Nat × (Nat → Int32)) (E : zTE) (ar fi : Nat → Nat → Int32) (m1 : Nat) (m2 : Nat) (m3 : Nat) (m4 : Nat) (m5 : Nat) (x : Int32) (y : Int32) (l3 : Int32) (b87 : Nat → Int32) (b90 : Nat → Int32) (b91 : Nat → Int32) (c64_40 : Int32) (o : zO2) (s : U_md_waysApart_5) : Prop := zR2 X zFT E zc_226 5 [.ref 64, .int x, .int y, .int l3, .int s.1] [] ((zua (zua (zua (zua (zua ar 87 b87) 88 s.2.1) 89 s.2.2) 90 b90) 91 b91), (zuf fi 64 40 c64_40), (m1, m2, m3, m4, m5)) o
set_option maxRecDepth 20000 in
theorem t34_md_waysApart {X : Nat × (Nat → Int32)} {ar fi : Nat → Nat → Int32} {m1 m2 m3 m4 m5 : Nat} {x y : Int32} {l3 : Int32} {b87 : Nat → Int32} {b88 : Nat → Int32} {b89 : Nat → Int32} {b90 : Nat → Int32} {b91 : Nat → Int32} {c64_40 : Int32} {Q_md_findsWay : Int32 → Int32 → (Nat → Int32) → (Nat → Int32) → (Nat → Int32) → (Nat → Int32) → (Nat → Int32) → Int32 → Option (Int32 × (Nat → Int32) × (Nat → Int32) × Int32)} {Q_md_goesAlong : Int32 → Int32 → (Nat → Int32) → (Nat → Int32) → (Nat → Int32) → (Nat → Int32) → Option ((Nat → Int32) × (Nat → Int32) × (Nat → Int32))} : zseg X zFT (zEx 225 (P_md_findsWay Q_md_findsWay) (zEx 227 (P_md_goesAlong Q_md_goesAlong) zE0)) zc_226 (fun p => Nat.beq p 34 || Nat.beq p 5) 400 34 [.ref 64, .int x, .int y, .int l3] [] ((zua (zua (zua (zua (zua ar 87 b87) 88 b88) 89 b89) 90 b90) 91 b91), (zuf fi 64 40 c64_40), (m1, m2, m3, m4, m5)) = (
  zl (Q_md_findsWay x y (ar 68) b87 b88 b89 b90 c64_40) (fun v1 => zg v1.isSome (
  bif decide (((zgt v1).1) = 0) then
   some (.inr (some (.int l3), ((zua (zua (zua (zua (zua (zua (zua ar 87 b87) 88 b88) 89 b89) 90 b90) 91 b91) 87 (((zgt v1).2.1))) 90 (((zgt v1).2.2.1))), (zuf (zuf fi 64 40 c64_40) 64 40 (((zgt v1).2.2.2))), (m1, m2, m3, m4, m5))))
  else
   zl (Q_md_goesAlong x y b88 b89 (((zgt v1).2.2.1)) b91) (fun v2 => zg v2.isSome (
   some (.inl (34, [.ref 64, .int x, .int y, .int (l3 + 1)], [], ((zua (zua (zua (zua (zua (zua (zua (zua (zua (zua ar 87 b87) 88 b88) 89 b89) 90 b90) 91 b91) 87 (((zgt v1).2.1))) 90 (((zgt v1).2.2.1))) 88 (((zgt v2).1))) 89 (((zgt v2).2.1))) 91 (((zgt v2).2.2))), (zuf (zuf fi 64 40 c64_40) 64 40 (((zgt v1).2.2.2))), (m1, m2, m3, m4, m5)))))))) : Option ((Nat × List Value × List Value × zH2) ⊕ zO2)) := rfl
theorem k_md_waysApart_34 {X : Nat × (Nat → Int32)} {ar fi : Nat → Nat → Int32} {m1 m2 m3 m4 m5 : Nat} {x y : Int32} {o : zO2} : ∀ (s : U_md_waysApart_34) (q : U_md_waysApart_34 ⊕ T_md_waysApart), f_md_waysApart_34 x y (ar 68) s = some q → zq (M_md_waysApart_34 X (zEx 225 S_md_findsWay (zEx 227 S_md_goesAlong zE0)) ar fi m1 m2 m3 m4 m5 x y o) (fun t => O_md_waysApart ar fi m1 m2 m3 m4 m5 t = o) q → M_md_waysApart_34 X (zEx 225 S_md_findsWay (zEx 227 S_md_goesAlong zE0)) ar fi m1 m2 m3 m4 m5 x y o s := by
  intro s q h hq
  obtain ⟨l3, b87, b88, b89, b90, b91, c64_40⟩ := s
  have h : b_md_waysApart_34 x y (ar 68) l3 b87 b88 b89 b90 b91 c64_40 = some q := h
  unfold b_md_waysApart_34 at h
  show zR2 X zFT (zEx 225 S_md_findsWay (zEx 227 S_md_goesAlong zE0)) zc_226 34 [.ref 64, .int x, .int y, .int l3] [] ((zua (zua (zua (zua (zua ar 87 b87) 88 b88) 89 b89) 90 b90) 91 b91), (zuf fi 64 40 c64_40), (m1, m2, m3, m4, m5)) o
  refine zT_seg t34_md_waysApart ?_
  refine zbd_el h (fun v1 hv h => zT_c hv ?_)
  refine zb_el h (fun hb h => zT_t hb ?_) (fun hb h => zT_f hb ?_)
  · have hz := zsi h hq
    refine (zO_mk ?_ ?_).trans hz
    · first | with_reducible rfl | (exact zuas_eq _ [(87, _), (88, _), (89, _), (90, _), (91, _), (87, _), (90, _)] [(87, _), (88, _), (89, _), (90, _), (91, _)] [87, 88, 89, 90, 91] rfl rfl ⟨rfl, rfl, rfl, rfl, rfl, trivial⟩)
    · first | with_reducible rfl | (exact zufs_eq _ [(64, 40, _), (64, 40, _)] [(64, 40, _)] [(64, 40)] rfl rfl ⟨rfl, trivial⟩)
  · refine zbd_el h (fun v2 hv h => zT_c hv ?_)
    have hz := zsi h hq
    refine zR2_hp ?_ ?_ hz
    · first | with_reducible rfl | (exact zuas_eq _ [(87, _), (88, _), (89, _), (90, _), (91, _), (87, _), (90, _), (88, _), (89, _), (91, _)] [(87, _), (88, _), (89, _), (90, _), (91, _)] [87, 88, 89, 90, 91] rfl rfl ⟨rfl, rfl, rfl, rfl, rfl, trivial⟩)
    · first | with_reducible rfl | (exact zufs_eq _ [(64, 40, _), (64, 40, _)] [(64, 40, _)] [(64, 40)] rfl rfl ⟨rfl, trivial⟩)
set_option maxRecDepth 20000 in
theorem t5_md_waysApart {X : Nat × (Nat → Int32)} {ar fi : Nat → Nat → Int32} {m1 m2 m3 m4 m5 : Nat} {x y : Int32} {l3 : Int32} {l4 : Int32} {b87 : Nat → Int32} {b88 : Nat → Int32} {b89 : Nat → Int32} {b90 : Nat → Int32} {b91 : Nat → Int32} {c64_40 : Int32} {Q_md_findsWay : Int32 → Int32 → (Nat → Int32) → (Nat → Int32) → (Nat → Int32) → (Nat → Int32) → (Nat → Int32) → Int32 → Option (Int32 × (Nat → Int32) × (Nat → Int32) × Int32)} {Q_md_goesAlong : Int32 → Int32 → (Nat → Int32) → (Nat → Int32) → (Nat → Int32) → (Nat → Int32) → Option ((Nat → Int32) × (Nat → Int32) × (Nat → Int32))} : zseg X zFT (zEx 225 (P_md_findsWay Q_md_findsWay) (zEx 227 (P_md_goesAlong Q_md_goesAlong) zE0)) zc_226 (fun p => Nat.beq p 34 || Nat.beq p 5) 400 5 [.ref 64, .int x, .int y, .int l3, .int l4] [] ((zua (zua (zua (zua (zua ar 87 b87) 88 b88) 89 b89) 90 b90) 91 b91), (zuf fi 64 40 c64_40), (m1, m2, m3, m4, m5)) = (
  bif decide (96 ≤ l4) then
   some (.inl (34, [.ref 64, .int x, .int y, .int l3], [], ((zua (zua (zua (zua (zua ar 87 b87) 88 b88) 89 b89) 90 b90) 91 b91), (zuf fi 64 40 c64_40), (m1, m2, m3, m4, m5))))
  else
   zg (zin l4 96) (
   zg (zin l4 96) (
   some (.inl (5, [.ref 64, .int x, .int y, .int l3, .int (l4 + 1)], [], ((zua (zua (zua (zua (zua (zua (zua ar 87 b87) 88 b88) 89 b89) 90 b90) 91 b91) 88 (zup b88 (l4.toNatClampNeg) (-1))) 89 (zup b89 (l4.toNatClampNeg) (-1))), (zuf fi 64 40 c64_40), (m1, m2, m3, m4, m5)))))) : Option ((Nat × List Value × List Value × zH2) ⊕ zO2)) := rfl
theorem k_md_waysApart_5 {X : Nat × (Nat → Int32)} {ar fi : Nat → Nat → Int32} {m1 m2 m3 m4 m5 : Nat} {x y : Int32} {l3 : Int32} {b87 : Nat → Int32} {b90 : Nat → Int32} {b91 : Nat → Int32} {c64_40 : Int32} {o : zO2} : ∀ (s : U_md_waysApart_5) (q : U_md_waysApart_5 ⊕ T_md_waysApart), f_md_waysApart_5 x y (ar 68) l3 b87 b90 b91 c64_40 s = some q → zq (M_md_waysApart_5 X (zEx 225 S_md_findsWay (zEx 227 S_md_goesAlong zE0)) ar fi m1 m2 m3 m4 m5 x y l3 b87 b90 b91 c64_40 o) (fun t => O_md_waysApart ar fi m1 m2 m3 m4 m5 t = o) q → M_md_waysApart_5 X (zEx 225 S_md_findsWay (zEx 227 S_md_goesAlong zE0)) ar fi m1 m2 m3 m4 m5 x y l3 b87 b90 b91 c64_40 o s := by
  intro s q h hq
  obtain ⟨l4, b88, b89⟩ := s
  have h : b_md_waysApart_5 x y (ar 68) l3 b87 b90 b91 c64_40 l4 b88 b89 = some q := h
  unfold b_md_waysApart_5 at h
  show zR2 X zFT (zEx 225 S_md_findsWay (zEx 227 S_md_goesAlong zE0)) zc_226 5 [.ref 64, .int x, .int y, .int l3, .int l4] [] ((zua (zua (zua (zua (zua ar 87 b87) 88 b88) 89 b89) 90 b90) 91 b91), (zuf fi 64 40 c64_40), (m1, m2, m3, m4, m5)) o
  refine zT_seg t5_md_waysApart ?_
  refine zb_el h (fun hb h => zT_t hb ?_) (fun hb h => zT_f hb ?_)
  · refine zbd_el h (fun r hr h => ?_)
    have hz := zsi h hq
    refine zR2_hp ?_ ?_ (zlp_K k_md_waysApart_34 hr hz)
    · first | with_reducible rfl | (exact zuas_eq _ [(87, _), (88, _), (89, _), (90, _), (91, _)] [(87, _), (88, _), (89, _), (90, _), (91, _)] [87, 88, 89, 90, 91] rfl rfl ⟨rfl, rfl, rfl, rfl, rfl, trivial⟩)
    · first | with_reducible rfl | (exact zufs_eq _ [(64, 40, _)] [(64, 40, _)] [(64, 40)] rfl rfl ⟨rfl, trivial⟩)
  · refine zg_el h (fun hg h => zT_g hg ?_)
    refine zg_el h (fun hg h => zT_g hg ?_)
    have hz := zsi h hq
    refine zR2_hp ?_ ?_ hz
    · first | with_reducible rfl | (exact zuas_eq _ [(87, _), (88, _), (89, _), (90, _), (91, _), (88, _), (89, _)] [(87, _), (88, _), (89, _), (90, _), (91, _)] [87, 88, 89, 90, 91] rfl rfl ⟨rfl, rfl, rfl, rfl, rfl, trivial⟩)
    · first | with_reducible rfl | (exact zufs_eq _ [(64, 40, _)] [(64, 40, _)] [(64, 40)] rfl rfl ⟨rfl, trivial⟩)
set_option maxRecDepth 20000 in
theorem t_md_waysApart {X : Nat × (Nat → Int32)} {ar fi : Nat → Nat → Int32} {m1 m2 m3 m4 m5 : Nat} {x y : Int32} {Q_md_findsWay : Int32 → Int32 → (Nat → Int32) → (Nat → Int32) → (Nat → Int32) → (Nat → Int32) → (Nat → Int32) → Int32 → Option (Int32 × (Nat → Int32) × (Nat → Int32) × Int32)} {Q_md_goesAlong : Int32 → Int32 → (Nat → Int32) → (Nat → Int32) → (Nat → Int32) → (Nat → Int32) → Option ((Nat → Int32) × (Nat → Int32) × (Nat → Int32))} : zseg X zFT (zEx 225 (P_md_findsWay Q_md_findsWay) (zEx 227 (P_md_goesAlong Q_md_goesAlong) zE0)) zc_226 (fun p => Nat.beq p 34 || Nat.beq p 5) 400 0 [.ref 64, .int x, .int y] [] (ar, fi, (m1, m2, m3, m4, m5)) = (
  some (.inl (5, [.ref 64, .int x, .int y, .int 0, .int 0], [], (ar, fi, (m1, m2, m3, m4, m5)))) : Option ((Nat × List Value × List Value × zH2) ⊕ zO2)) := rfl
theorem e_md_waysApart {X : Nat × (Nat → Int32)} {ar fi : Nat → Nat → Int32} {m1 m2 m3 m4 m5 : Nat} {x y : Int32} {o : zO2} : ∀ (q : T_md_waysApart), q_md_waysApart x y (ar 68) (ar 87) (ar 88) (ar 89) (ar 90) (ar 91) (fi 64 40) = some q → (fun t => O_md_waysApart ar fi m1 m2 m3 m4 m5 t = o) q → zR2 X zFT (zEx 225 S_md_findsWay (zEx 227 S_md_goesAlong zE0)) zc_226 0 [.ref 64, .int x, .int y] [] (ar, fi, (m1, m2, m3, m4, m5)) o := by
  intro q h hq
  unfold q_md_waysApart at h
  refine zT_seg t_md_waysApart ?_
  refine zR2_hp ?_ ?_ (zlp_K k_md_waysApart_5 h hq)
  · first | with_reducible rfl | (exact zuas_eq _ [] [(87, _), (88, _), (89, _), (90, _), (91, _)] [87, 88, 89, 90, 91] rfl rfl ⟨rfl, rfl, rfl, rfl, rfl, trivial⟩)
  · first | with_reducible rfl | (exact zufs_eq _ [] [(64, 40, _)] [(64, 40)] rfl rfl ⟨rfl, trivial⟩)
theorem ok_md_waysApart (X : Nat × (Nat → Int32)) : zOkS X 226 S_md_waysApart 5 := zOkS_new (zOkE_cons (ok_md_findsWay X) (by decide) (zOkE_cons (ok_md_goesAlong X) (by decide) (zOkE_nil X 4))) (by
  intro args g o h
  obtain ⟨ar, fi, m1, m2, m3, m4, m5⟩ := g
  unfold S_md_waysApart P_md_waysApart at h
  split at h
  · refine zb_el h (fun hI0 k0 => ?_) (fun _ h10 => ?_)
    · try simp only [Bool.and_eq_true] at hI0
      have j0 := hI0
      have e0 := Nat.eq_of_beq_eq_true j0
      subst e0
      exact zpe_el k0 (fun t ht ho => e_md_waysApart t ht ho)
    · cases h10
  · cases h)
abbrev T_md_breaks : Type := Int32 × (Nat → Int32) × (Nat → Int32) × (Nat → Int32) × (Nat → Int32) × (Nat → Int32) × Int32
abbrev U_md_breaks_42 : Type := Int32
noncomputable def b_md_breaks_42 (x : Int32) (y : Int32) (a68 : Nat → Int32) (a87 : Nat → Int32) (a88 : Nat → Int32) (a89 : Nat → Int32) (a90 : Nat → Int32) (a91 : Nat → Int32) (f64_40 : Int32) (l3 : Int32) : Option (U_md_breaks_42 ⊕ T_md_breaks) :=
  bif decide (4 ≤ l3) then
   zbd (q_md_waysApart x y a68 a87 a88 a89 a90 a91 (f64_40)) (fun v5 =>
   some (.inr ((v5.1), ((v5.2.1)), ((v5.2.2.1)), ((v5.2.2.2.1)), ((v5.2.2.2.2.1)), ((v5.2.2.2.2.2.1)), (v5.2.2.2.2.2.2))))
  else
   zl (w_md_beside x l3) (fun v6 =>
   bif !decide (v6 = y) then
    some (.inl (l3 + 1))
   else
    some (.inr ((-2), a87, a88, a89, a90, a91, f64_40)))
noncomputable def f_md_breaks_42 (x : Int32) (y : Int32) (a68 : Nat → Int32) (a87 : Nat → Int32) (a88 : Nat → Int32) (a89 : Nat → Int32) (a90 : Nat → Int32) (a91 : Nat → Int32) (f64_40 : Int32) : U_md_breaks_42 → Option (U_md_breaks_42 ⊕ T_md_breaks) := fun s => b_md_breaks_42 x y a68 a87 a88 a89 a90 a91 f64_40 s
noncomputable def l_md_breaks_42 (x : Int32) (y : Int32) (a68 : Nat → Int32) (a87 : Nat → Int32) (a88 : Nat → Int32) (a89 : Nat → Int32) (a90 : Nat → Int32) (a91 : Nat → Int32) (f64_40 : Int32) (l3 : Int32) : Option T_md_breaks := zlp (f_md_breaks_42 x y a68 a87 a88 a89 a90 a91 f64_40) l3
noncomputable def q_md_breaks (x : Int32) (y : Int32) (a68 : Nat → Int32) (a87 : Nat → Int32) (a88 : Nat → Int32) (a89 : Nat → Int32) (a90 : Nat → Int32) (a91 : Nat → Int32) (f64_40 : Int32) : Option T_md_breaks :=
  zg (g_md_isPlace x) (
  zl (w_md_isPlace x) (fun v1 =>
  bif decide (v1 = 0) then
   some ((-1), a87, a88, a89, a90, a91, f64_40)
  else
   zg (g_md_isPlace y) (
   zl (w_md_isPlace y) (fun v2 =>
   bif decide (v2 = 0) then
    some ((-1), a87, a88, a89, a90, a91, f64_40)
   else
    bif !decide (x = y) then
     zg (g_md_isWood x a68) (
     zl (w_md_isWood x a68) (fun v3 =>
     bif decide (v3 = 0) then
      some ((-3), a87, a88, a89, a90, a91, f64_40)
     else
      zg (g_md_isWood y a68) (
      zl (w_md_isWood y a68) (fun v4 =>
      bif !decide (v4 = 0) then
       l_md_breaks_42 x y a68 a87 a88 a89 a90 a91 f64_40 0
      else
       some ((-3), a87, a88, a89, a90, a91, f64_40)))))
    else
     some ((-1), a87, a88, a89, a90, a91, f64_40)))))
def P_md_breaks (Q : Int32 → Int32 → (Nat → Int32) → (Nat → Int32) → (Nat → Int32) → (Nat → Int32) → (Nat → Int32) → (Nat → Int32) → Int32 → Option (Int32 × (Nat → Int32) × (Nat → Int32) × (Nat → Int32) × (Nat → Int32) × (Nat → Int32) × Int32)) : zSp := fun as g => match as with
  | [.ref a, .int x, .int y] => bif Nat.beq a 64 then zpe (Q x y (g.1 68) (g.1 87) (g.1 88) (g.1 89) (g.1 90) (g.1 91) (g.2.1 64 40)) (fun t => (some (.int (t.1)), ((zua (zua (zua (zua (zua g.1 87 t.2.1) 88 t.2.2.1) 89 t.2.2.2.1) 90 t.2.2.2.2.1) 91 t.2.2.2.2.2.1), (zuf g.2.1 64 40 t.2.2.2.2.2.2), g.2.2))) else none
  | _ => none
noncomputable abbrev S_md_breaks : zSp := P_md_breaks q_md_breaks
def O_md_breaks (ar fi : Nat → Nat → Int32) (m1 : Nat) (m2 : Nat) (m3 : Nat) (m4 : Nat) (m5 : Nat) (t : T_md_breaks) : zO2 := (some (.int (t.1)), ((zua (zua (zua (zua (zua ar 87 t.2.1) 88 t.2.2.1) 89 t.2.2.2.1) 90 t.2.2.2.2.1) 91 t.2.2.2.2.2.1), (zuf fi 64 40 t.2.2.2.2.2.2), (m1, m2, m3, m4, m5)))
def M_md_breaks_42 (X : Nat × (Nat → Int32)) (E : zTE) (ar fi : Nat → Nat → Int32) (m1 : Nat) (m2 : Nat) (m3 : Nat) (m4 : Nat) (m5 : Nat) (x : Int32) (y : Int32) (o : zO2) (s : U_md_breaks_42) : Prop := zR2 X zFT E zc_228 42 [.ref 64, .int x, .int y, .int s] [] (ar, fi, (m1, m2, m3, m4, m5)) o
set_option maxRecDepth 20000 in
theorem t42_md_breaks {X : Nat × (Nat → Int32)} {ar fi : Nat → Nat → Int32} {m1 m2 m3 m4 m5 : Nat} {x y : Int32} {l3 : Int32} {G_md_isPlace : Int32 → Bool} {W_md_isPlace : Int32 → Int32} {G_md_isWood : Int32 → (Nat → Int32) → Bool} {W_md_isWood : Int32 → (Nat → Int32) → Int32} {W_md_beside : Int32 → Int32 → Int32} {Q_md_waysApart : Int32 → Int32 → (Nat → Int32) → (Nat → Int32) → (Nat → Int32) → (Nat → Int32) → (Nat → Int32) → (Nat → Int32) → Int32 → Option (Int32 × (Nat → Int32) × (Nat → Int32) × (Nat → Int32) × (Nat → Int32) × (Nat → Int32) × Int32)} : zseg X zFT (zEx 149 (P_md_isPlace G_md_isPlace W_md_isPlace) (zEx 152 (P_md_isWood G_md_isWood W_md_isWood) (zEx 151 (P_md_beside W_md_beside) (zEx 226 (P_md_waysApart Q_md_waysApart) zE0)))) zc_228 (fun p => Nat.beq p 42) 400 42 [.ref 64, .int x, .int y, .int l3] [] (ar, fi, (m1, m2, m3, m4, m5)) = (
  bif decide (4 ≤ l3) then
   zl (Q_md_waysApart x y (ar 68) (ar 87) (ar 88) (ar 89) (ar 90) (ar 91) (fi 64 40)) (fun v5 => zg v5.isSome (
   some (.inr (some (.int (((zgt v5).1))), ((zua (zua (zua (zua (zua ar 87 (((zgt v5).2.1))) 88 (((zgt v5).2.2.1))) 89 (((zgt v5).2.2.2.1))) 90 (((zgt v5).2.2.2.2.1))) 91 (((zgt v5).2.2.2.2.2.1))), (zuf fi 64 40 (((zgt v5).2.2.2.2.2.2))), (m1, m2, m3, m4, m5))))))
  else
   zl (W_md_beside x l3) (fun v6 =>
   bif !decide (v6 = y) then
    some (.inl (42, [.ref 64, .int x, .int y, .int (l3 + 1)], [], (ar, fi, (m1, m2, m3, m4, m5))))
   else
    some (.inr (some (.int (-2)), (ar, fi, (m1, m2, m3, m4, m5))))) : Option ((Nat × List Value × List Value × zH2) ⊕ zO2)) := rfl
theorem k_md_breaks_42 {X : Nat × (Nat → Int32)} {ar fi : Nat → Nat → Int32} {m1 m2 m3 m4 m5 : Nat} {x y : Int32} {o : zO2} : ∀ (s : U_md_breaks_42) (q : U_md_breaks_42 ⊕ T_md_breaks), f_md_breaks_42 x y (ar 68) (ar 87) (ar 88) (ar 89) (ar 90) (ar 91) (fi 64 40) s = some q → zq (M_md_breaks_42 X (zEx 149 S_md_isPlace (zEx 152 S_md_isWood (zEx 151 S_md_beside (zEx 226 S_md_waysApart zE0)))) ar fi m1 m2 m3 m4 m5 x y o) (fun t => O_md_breaks ar fi m1 m2 m3 m4 m5 t = o) q → M_md_breaks_42 X (zEx 149 S_md_isPlace (zEx 152 S_md_isWood (zEx 151 S_md_beside (zEx 226 S_md_waysApart zE0)))) ar fi m1 m2 m3 m4 m5 x y o s := by
  intro l3 q h hq
  have h : b_md_breaks_42 x y (ar 68) (ar 87) (ar 88) (ar 89) (ar 90) (ar 91) (fi 64 40) l3 = some q := h
  unfold b_md_breaks_42 at h
  show zR2 X zFT (zEx 149 S_md_isPlace (zEx 152 S_md_isWood (zEx 151 S_md_beside (zEx 226 S_md_waysApart zE0)))) zc_228 42 [.ref 64, .int x, .int y, .int l3] [] (ar, fi, (m1, m2, m3, m4, m5)) o
  refine zT_seg t42_md_breaks ?_
  refine zb_el h (fun hb h => zT_t hb ?_) (fun hb h => zT_f hb ?_)
  · refine zbd_el h (fun v5 hv h => zT_c hv ?_)
    have hz := zsi h hq
    refine (zO_mk ?_ ?_).trans hz
    · first | with_reducible rfl | (exact zuas_eq _ [(87, _), (88, _), (89, _), (90, _), (91, _)] [(87, _), (88, _), (89, _), (90, _), (91, _)] [87, 88, 89, 90, 91] rfl rfl ⟨rfl, rfl, rfl, rfl, rfl, trivial⟩)
    · first | with_reducible rfl | (exact zufs_eq _ [(64, 40, _)] [(64, 40, _)] [(64, 40)] rfl rfl ⟨rfl, trivial⟩)
  · refine zl_el h (fun h => zT_l ?_)
    refine zb_el h (fun hb h => zT_t hb ?_) (fun hb h => zT_f hb ?_)
    · have hz := zsi h hq
      refine zR2_hp ?_ ?_ hz
      · first | with_reducible rfl | (rfl)
      · first | with_reducible rfl | (rfl)
    · have hz := zsi h hq
      refine (zO_mk ?_ ?_).trans hz
      · first | with_reducible rfl | (exact zuas_eq _ [] [(87, _), (88, _), (89, _), (90, _), (91, _)] [87, 88, 89, 90, 91] rfl rfl ⟨rfl, rfl, rfl, rfl, rfl, trivial⟩)
      · first | with_reducible rfl | (exact zufs_eq _ [] [(64, 40, _)] [(64, 40)] rfl rfl ⟨rfl, trivial⟩)
set_option maxRecDepth 20000 in
theorem t_md_breaks {X : Nat × (Nat → Int32)} {ar fi : Nat → Nat → Int32} {m1 m2 m3 m4 m5 : Nat} {x y : Int32} {G_md_isPlace : Int32 → Bool} {W_md_isPlace : Int32 → Int32} {G_md_isWood : Int32 → (Nat → Int32) → Bool} {W_md_isWood : Int32 → (Nat → Int32) → Int32} {W_md_beside : Int32 → Int32 → Int32} {Q_md_waysApart : Int32 → Int32 → (Nat → Int32) → (Nat → Int32) → (Nat → Int32) → (Nat → Int32) → (Nat → Int32) → (Nat → Int32) → Int32 → Option (Int32 × (Nat → Int32) × (Nat → Int32) × (Nat → Int32) × (Nat → Int32) × (Nat → Int32) × Int32)} : zseg X zFT (zEx 149 (P_md_isPlace G_md_isPlace W_md_isPlace) (zEx 152 (P_md_isWood G_md_isWood W_md_isWood) (zEx 151 (P_md_beside W_md_beside) (zEx 226 (P_md_waysApart Q_md_waysApart) zE0)))) zc_228 (fun p => Nat.beq p 42) 400 0 [.ref 64, .int x, .int y] [] (ar, fi, (m1, m2, m3, m4, m5)) = (
  zg (G_md_isPlace x) (
  zl (W_md_isPlace x) (fun v1 =>
  bif decide (v1 = 0) then
   some (.inr (some (.int (-1)), (ar, fi, (m1, m2, m3, m4, m5))))
  else
   zg (G_md_isPlace y) (
   zl (W_md_isPlace y) (fun v2 =>
   bif decide (v2 = 0) then
    some (.inr (some (.int (-1)), (ar, fi, (m1, m2, m3, m4, m5))))
   else
    bif !decide (x = y) then
     zg (G_md_isWood x (ar 68)) (
     zl (W_md_isWood x (ar 68)) (fun v3 =>
     bif decide (v3 = 0) then
      some (.inr (some (.int (-3)), (ar, fi, (m1, m2, m3, m4, m5))))
     else
      zg (G_md_isWood y (ar 68)) (
      zl (W_md_isWood y (ar 68)) (fun v4 =>
      bif !decide (v4 = 0) then
       some (.inl (42, [.ref 64, .int x, .int y, .int 0], [], (ar, fi, (m1, m2, m3, m4, m5))))
      else
       some (.inr (some (.int (-3)), (ar, fi, (m1, m2, m3, m4, m5))))))))
    else
     some (.inr (some (.int (-1)), (ar, fi, (m1, m2, m3, m4, m5)))))))) : Option ((Nat × List Value × List Value × zH2) ⊕ zO2)) := rfl
theorem e_md_breaks {X : Nat × (Nat → Int32)} {ar fi : Nat → Nat → Int32} {m1 m2 m3 m4 m5 : Nat} {x y : Int32} {o : zO2} : ∀ (q : T_md_breaks), q_md_breaks x y (ar 68) (ar 87) (ar 88) (ar 89) (ar 90) (ar 91) (fi 64 40) = some q → (fun t => O_md_breaks ar fi m1 m2 m3 m4 m5 t = o) q → zR2 X zFT (zEx 149 S_md_isPlace (zEx 152 S_md_isWood (zEx 151 S_md_beside (zEx 226 S_md_waysApart zE0)))) zc_228 0 [.ref 64, .int x, .int y] [] (ar, fi, (m1, m2, m3, m4, m5)) o := by
  intro q h hq
  unfold q_md_breaks at h
  refine zT_seg t_md_breaks ?_
  refine zg_el h (fun hg h => zT_g hg ?_)
  refine zl_el h (fun h => zT_l ?_)
  refine zb_el h (fun hb h => zT_t hb ?_) (fun hb h => zT_f hb ?_)
  · have hz := zsi h hq
    refine (zO_mk ?_ ?_).trans hz
    · first | with_reducible rfl | (exact zuas_eq _ [] [(87, _), (88, _), (89, _), (90, _), (91, _)] [87, 88, 89, 90, 91] rfl rfl ⟨rfl, rfl, rfl, rfl, rfl, trivial⟩)
    · first | with_reducible rfl | (exact zufs_eq _ [] [(64, 40, _)] [(64, 40)] rfl rfl ⟨rfl, trivial⟩)
  · refine zg_el h (fun hg h => zT_g hg ?_)
    refine zl_el h (fun h => zT_l ?_)
    refine zb_el h (fun hb h => zT_t hb ?_) (fun hb h => zT_f hb ?_)
    · have hz := zsi h hq
      refine (zO_mk ?_ ?_).trans hz
      · first | with_reducible rfl | (exact zuas_eq _ [] [(87, _), (88, _), (89, _), (90, _), (91, _)] [87, 88, 89, 90, 91] rfl rfl ⟨rfl, rfl, rfl, rfl, rfl, trivial⟩)
      · first | with_reducible rfl | (exact zufs_eq _ [] [(64, 40, _)] [(64, 40)] rfl rfl ⟨rfl, trivial⟩)
    · refine zb_el h (fun hb h => zT_t hb ?_) (fun hb h => zT_f hb ?_)
      · refine zg_el h (fun hg h => zT_g hg ?_)
        refine zl_el h (fun h => zT_l ?_)
        refine zb_el h (fun hb h => zT_t hb ?_) (fun hb h => zT_f hb ?_)
        · have hz := zsi h hq
          refine (zO_mk ?_ ?_).trans hz
          · first | with_reducible rfl | (exact zuas_eq _ [] [(87, _), (88, _), (89, _), (90, _), (91, _)] [87, 88, 89, 90, 91] rfl rfl ⟨rfl, rfl, rfl, rfl, rfl, trivial⟩)
          · first | with_reducible rfl | (exact zufs_eq _ [] [(64, 40, _)] [(64, 40)] rfl rfl ⟨rfl, trivial⟩)
        · refine zg_el h (fun hg h => zT_g hg ?_)
          refine zl_el h (fun h => zT_l ?_)
          refine zb_el h (fun hb h => zT_t hb ?_) (fun hb h => zT_f hb ?_)
          · refine zR2_hp ?_ ?_ (zlp_K k_md_breaks_42 h hq)
            · first | with_reducible rfl | (rfl)
            · first | with_reducible rfl | (rfl)
          · have hz := zsi h hq
            refine (zO_mk ?_ ?_).trans hz
            · first | with_reducible rfl | (exact zuas_eq _ [] [(87, _), (88, _), (89, _), (90, _), (91, _)] [87, 88, 89, 90, 91] rfl rfl ⟨rfl, rfl, rfl, rfl, rfl, trivial⟩)
            · first | with_reducible rfl | (exact zufs_eq _ [] [(64, 40, _)] [(64, 40)] rfl rfl ⟨rfl, trivial⟩)
      · have hz := zsi h hq
        refine (zO_mk ?_ ?_).trans hz
        · first | with_reducible rfl | (exact zuas_eq _ [] [(87, _), (88, _), (89, _), (90, _), (91, _)] [87, 88, 89, 90, 91] rfl rfl ⟨rfl, rfl, rfl, rfl, rfl, trivial⟩)
        · first | with_reducible rfl | (exact zufs_eq _ [] [(64, 40, _)] [(64, 40)] rfl rfl ⟨rfl, trivial⟩)
theorem ok_md_breaks (X : Nat × (Nat → Int32)) : zOkS X 228 S_md_breaks 6 := zOkS_new (zOkE_cons (ok_md_isPlace X) (by decide) (zOkE_cons (ok_md_isWood X) (by decide) (zOkE_cons (ok_md_beside X) (by decide) (zOkE_cons (ok_md_waysApart X) (by decide) (zOkE_nil X 5))))) (by
  intro args g o h
  obtain ⟨ar, fi, m1, m2, m3, m4, m5⟩ := g
  unfold S_md_breaks P_md_breaks at h
  split at h
  · refine zb_el h (fun hI0 k0 => ?_) (fun _ h10 => ?_)
    · try simp only [Bool.and_eq_true] at hI0
      have j0 := hI0
      have e0 := Nat.eq_of_beq_eq_true j0
      subst e0
      exact zpe_el k0 (fun t ht ho => e_md_breaks t ht ho)
    · cases h10
  · cases h)
