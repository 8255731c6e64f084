abbrev T_md_holdsAny : Type := Int32 × (Nat → Int32)
abbrev U_md_holdsAny_2 : Type := Int32 × (Nat → Int32)
noncomputable def b_md_holdsAny_2 (x : Int32) (a77 : Nat → Int32) (a78 : Nat → Int32) (a80 : Nat → Int32) (a81 : Nat → Int32) (a83 : Nat → Int32) (f64_15 : Int32) (l2 : Int32) (b82 : Nat → Int32) : Option (U_md_holdsAny_2 ⊕ T_md_holdsAny) :=
  bif decide (f64_15 ≤ l2) then
   some (.inr (0, b82))
  else
   zg (zin l2 16) (
   bif !decide (a78 (l2.toNatClampNeg) = x) then
    some (.inl (l2 + 1, b82))
   else
    zg (zin l2 16) (
    zg (zin l2 16) (
    zbd (q_md_reckonsTo (a80 (l2.toNatClampNeg)) (a81 (l2.toNatClampNeg)) a77 b82 a83) (fun v1 =>
    bif !decide ((v1.1) = 1) then
     some (.inl (l2 + 1, ((v1.2))))
    else
     some (.inr (1, ((v1.2))))))))
noncomputable def f_md_holdsAny_2 (x : Int32) (a77 : Nat → Int32) (a78 : Nat → Int32) (a80 : Nat → Int32) (a81 : Nat → Int32) (a83 : Nat → Int32) (f64_15 : Int32) : U_md_holdsAny_2 → Option (U_md_holdsAny_2 ⊕ T_md_holdsAny) := fun s => b_md_holdsAny_2 x a77 a78 a80 a81 a83 f64_15 s.1 s.2
noncomputable def l_md_holdsAny_2 (x : Int32) (a77 : Nat → Int32) (a78 : Nat → Int32) (a80 : Nat → Int32) (a81 : Nat → Int32) (a83 : Nat → Int32) (f64_15 : Int32) (l2 : Int32) (b82 : Nat → Int32) : Option T_md_holdsAny := zlp (f_md_holdsAny_2 x a77 a78 a80 a81 a83 f64_15) (l2, b82)
noncomputable def q_md_holdsAny (x : Int32) (a77 : Nat → Int32) (a78 : Nat → Int32) (a80 : Nat → Int32) (a81 : Nat → Int32) (a82 : Nat → Int32) (a83 : Nat → Int32) (f64_15 : Int32) : Option T_md_holdsAny :=
  l_md_holdsAny_2 x a77 a78 a80 a81 a83 f64_15 0 a82
def P_md_holdsAny (Q : Int32 → (Nat → Int32) → (Nat → Int32) → (Nat → Int32) → (Nat → Int32) → (Nat → Int32) → (Nat → Int32) → Int32 → Option (Int32 × (Nat → Int32))) : zSp := fun as g => match as with
  | [.ref a, .int x] => bif Nat.beq a 64 then zpe (Q x (g.1 77) (g.1 78) (g.1 80) (g.1 81) (g.1 82) (g.1 83) (g.2.1 64 15)) (fun t => (some (.int (t.1)), ((zua g.1 82 t.2), g.2.1, g.2.2))) else none
  | _ => none
noncomputable abbrev S_md_holdsAny : zSp := P_md_holdsAny q_md_holdsAny
def O_md_holdsAny (ar fi : Nat → Nat → Int32) (m1 : Nat) (m2 : Nat) (m3 : Nat) (m4 : Nat) (m5 : Nat) (t : T_md_holdsAny) : zO2 := (some (.int (t.1)), ((zua ar 82 t.2), fi, (m1, m2, m3, m4, m5)))
def M_md_holdsAny_2 (X : Nat × (Nat → Int32)) (E : zTE) (ar fi : Nat → Nat → Int32) (m1 : Nat) (m2 : Nat) (m3 : Nat) (m4 : Nat) (m5 : Nat) (x : Int32) (o : zO2) (s : U_md_holdsAny_2) : Prop := zR2 X zFT E zc_183 2 [.ref 64, .int x, .int s.1] [] ((zua ar 82 s.2), fi, (m1, m2, m3, m4, m5)) o
set_option maxRecDepth 20000 in
theorem t2_md_holdsAny {X : Nat × (Nat → Int32)} {ar fi : Nat → Nat → Int32} {m1 m2 m3 m4 m5 : Nat} {x : Int32} {l2 : Int32} {b82 : Nat → Int32} {Q_md_reckonsTo : Int32 → Int32 → (Nat → Int32) → (Nat → Int32) → (Nat → Int32) → Option (Int32 × (Nat → Int32))} : zseg X zFT (zEx 181 (P_md_reckonsTo Q_md_reckonsTo) zE0) zc_183 (fun p => Nat.beq p 2) 400 2 [.ref 64, .int x, .int l2] [] ((zua ar 82 b82), fi, (m1, m2, m3, m4, m5)) = (
  bif decide (fi 64 15 ≤ l2) then
   some (.inr (some (.int 0), ((zua ar 82 b82), fi, (m1, m2, m3, m4, m5))))
  else
   zg (zin l2 16) (
   bif !decide ((ar 78) (l2.toNatClampNeg) = x) then
    some (.inl (2, [.ref 64, .int x, .int (l2 + 1)], [], ((zua ar 82 b82), fi, (m1, m2, m3, m4, m5))))
   else
    zg (zin l2 16) (
    zg (zin l2 16) (
    zl (Q_md_reckonsTo ((ar 80) (l2.toNatClampNeg)) ((ar 81) (l2.toNatClampNeg)) (ar 77) b82 (ar 83)) (fun v1 => zg v1.isSome (
    bif !decide (((zgt v1).1) = 1) then
     some (.inl (2, [.ref 64, .int x, .int (l2 + 1)], [], ((zua (zua ar 82 b82) 82 (((zgt v1).2))), fi, (m1, m2, m3, m4, m5))))
    else
     some (.inr (some (.int 1), ((zua (zua ar 82 b82) 82 (((zgt v1).2))), fi, (m1, m2, m3, m4, m5))))))))) : Option ((Nat × List Value × List Value × zH2) ⊕ zO2)) := rfl
theorem k_md_holdsAny_2 {X : Nat × (Nat → Int32)} {ar fi : Nat → Nat → Int32} {m1 m2 m3 m4 m5 : Nat} {x : Int32} {o : zO2} : ∀ (s : U_md_holdsAny_2) (q : U_md_holdsAny_2 ⊕ T_md_holdsAny), f_md_holdsAny_2 x (ar 77) (ar 78) (ar 80) (ar 81) (ar 83) (fi 64 15) s = some q → zq (M_md_holdsAny_2 X (zEx 181 S_md_reckonsTo zE0) ar fi m1 m2 m3 m4 m5 x o) (fun t => O_md_holdsAny ar fi m1 m2 m3 m4 m5 t = o) q → M_md_holdsAny_2 X (zEx 181 S_md_reckonsTo zE0) ar fi m1 m2 m3 m4 m5 x o s := by
  intro s q h hq
  obtain ⟨l2, b82⟩ := s
  have h : b_md_holdsAny_2 x (ar 77) (ar 78) (ar 80) (ar 81) (ar 83) (fi 64 15) l2 b82 = some q := h
  unfold b_md_holdsAny_2 at h
  show zR2 X zFT (zEx 181 S_md_reckonsTo zE0) zc_183 2 [.ref 64, .int x, .int l2] [] ((zua ar 82 b82), fi, (m1, m2, m3, m4, m5)) o
  refine zT_seg t2_md_holdsAny ?_
  refine zb_el h (fun hb h => zT_t hb ?_) (fun hb h => zT_f hb ?_)
  · have hz := zsi h hq
    refine (zO_mk ?_ ?_).trans hz
    · first | with_reducible rfl | (exact zuas_eq _ [(82, _)] [(82, _)] [82] rfl rfl ⟨rfl, trivial⟩)
    · first | with_reducible rfl | (rfl)
  · refine zg_el h (fun hg h => zT_g hg ?_)
    refine zb_el h (fun hb h => zT_t hb ?_) (fun hb h => zT_f hb ?_)
    · have hz := zsi h hq
      refine zR2_hp ?_ ?_ hz
      · first | with_reducible rfl | (exact zuas_eq _ [(82, _)] [(82, _)] [82] rfl rfl ⟨rfl, trivial⟩)
      · first | with_reducible rfl | (rfl)
    · refine zg_el h (fun hg h => zT_g hg ?_)
      refine zg_el h (fun hg h => zT_g hg ?_)
      refine zbd_el h (fun v1 hv h => zT_c hv ?_)
      refine zb_el h (fun hb h => zT_t hb ?_) (fun hb h => zT_f hb ?_)
      · have hz := zsi h hq
        refine zR2_hp ?_ ?_ hz
        · first | with_reducible rfl | (exact zuas_eq _ [(82, _), (82, _)] [(82, _)] [82] rfl rfl ⟨rfl, trivial⟩)
        · first | with_reducible rfl | (rfl)
      · have hz := zsi h hq
        refine (zO_mk ?_ ?_).trans hz
        · first | with_reducible rfl | (exact zuas_eq _ [(82, _), (82, _)] [(82, _)] [82] rfl rfl ⟨rfl, trivial⟩)
        · first | with_reducible rfl | (rfl)
set_option maxRecDepth 20000 in
theorem t_md_holdsAny {X : Nat × (Nat → Int32)} {ar fi : Nat → Nat → Int32} {m1 m2 m3 m4 m5 : Nat} {x : Int32} {Q_md_reckonsTo : Int32 → Int32 → (Nat → Int32) → (Nat → Int32) → (Nat → Int32) → Option (Int32 × (Nat → Int32))} : zseg X zFT (zEx 181 (P_md_reckonsTo Q_md_reckonsTo) zE0) zc_183 (fun p => Nat.beq p 2) 400 0 [.ref 64, .int x] [] (ar, fi, (m1, m2, m3, m4, m5)) = (
  some (.inl (2, [.ref 64, .int x, .int 0], [], (ar, fi, (m1, m2, m3, m4, m5)))) : Option ((Nat × List Value × List Value × zH2) ⊕ zO2)) := rfl
theorem e_md_holdsAny {X : Nat × (Nat → Int32)} {ar fi : Nat → Nat → Int32} {m1 m2 m3 m4 m5 : Nat} {x : Int32} {o : zO2} : ∀ (q : T_md_holdsAny), q_md_holdsAny x (ar 77) (ar 78) (ar 80) (ar 81) (ar 82) (ar 83) (fi 64 15) = some q → (fun t => O_md_holdsAny ar fi m1 m2 m3 m4 m5 t = o) q → zR2 X zFT (zEx 181 S_md_reckonsTo zE0) zc_183 0 [.ref 64, .int x] [] (ar, fi, (m1, m2, m3, m4, m5)) o := by
  intro q h hq
  unfold q_md_holdsAny at h
  refine zT_seg t_md_holdsAny ?_
  refine zR2_hp ?_ ?_ (zlp_K k_md_holdsAny_2 h hq)
  · first | with_reducible rfl | (exact zuas_eq _ [] [(82, _)] [82] rfl rfl ⟨rfl, trivial⟩)
  · first | with_reducible rfl | (rfl)
theorem ok_md_holdsAny (X : Nat × (Nat → Int32)) : zOkS X 183 S_md_holdsAny 3 := zOkS_new (zOkE_cons (ok_md_reckonsTo X) (by decide) (zOkE_nil X 2)) (by
  intro args g o h
  obtain ⟨ar, fi, m1, m2, m3, m4, m5⟩ := g
  unfold S_md_holdsAny P_md_holdsAny at h
  split at h
  · refine zb_el h (fun hI0 k0 => ?_) (fun _ h10 => ?_)
    · try simp only [Bool.and_eq_true] at hI0
      have j0 := hI0
      have e0 := Nat.eq_of_beq_eq_true j0
      subst e0
      exact zpe_el k0 (fun t ht ho => e_md_holdsAny t ht ho)
    · cases h10
  · cases h)
abbrev T_md_readsRow : Type := Int32 × (Nat → Int32) × Int32 × Int32
abbrev U_md_readsRow_27 : Type := Int32 × Int32 × (Nat → Int32) × Int32
abbrev U_md_readsRow_129 : Type := Int32 × (Nat → Int32)
def b_md_readsRow_129 (x : Int32) (a70 : Nat → Int32) (f64_8 : Int32) (l2 : Int32) (l5 : Int32) (l6 : Int32) (c64_7 : Int32) (l7 : Int32) (b84 : Nat → Int32) : Option (U_md_readsRow_129 ⊕ (U_md_readsRow_27 ⊕ T_md_readsRow)) :=
  bif decide (l5 ≤ l7) then
   bif decide (f64_8 ≤ c64_7) then
    some (.inr (.inl (l2 + l5, 0, b84, c64_7)))
   else
    zg (g_md_here (f64_8) c64_7 a70) (
    zl (w_md_here (f64_8) c64_7 a70) (fun v19 =>
    bif decide (v19 = 47) then
     some (.inr (.inl (l2 + l5, 0, b84, c64_7)))
    else
     some (.inr (.inl (l2 + l5, 1, b84, c64_7)))))
  else
   zg (zin (((12 * x) + l2) + l7) 96) (
   some (.inl (l7 + 1, (zup b84 ((((12 * x) + l2) + l7).toNatClampNeg) l6))))
def f_md_readsRow_129 (x : Int32) (a70 : Nat → Int32) (f64_8 : Int32) (l2 : Int32) (l5 : Int32) (l6 : Int32) (c64_7 : Int32) : U_md_readsRow_129 → Option (U_md_readsRow_129 ⊕ (U_md_readsRow_27 ⊕ T_md_readsRow)) := fun s => b_md_readsRow_129 x a70 f64_8 l2 l5 l6 c64_7 s.1 s.2
noncomputable def l_md_readsRow_129 (x : Int32) (a70 : Nat → Int32) (f64_8 : Int32) (l2 : Int32) (l5 : Int32) (l6 : Int32) (c64_7 : Int32) (l7 : Int32) (b84 : Nat → Int32) : Option (U_md_readsRow_27 ⊕ T_md_readsRow) := zlp (f_md_readsRow_129 x a70 f64_8 l2 l5 l6 c64_7) (l7, b84)
noncomputable def b_md_readsRow_27 (x : Int32) (a70 : Nat → Int32) (f64_8 : Int32) (f64_9 : Int32) (l2 : Int32) (l3 : Int32) (b84 : Nat → Int32) (c64_7 : Int32) : Option (U_md_readsRow_27 ⊕ T_md_readsRow) :=
  bif decide (l3 = 0) then
   some (.inr (1, b84, c64_7, f64_9))
  else
   zg (g_md_here (f64_8) c64_7 a70) (
   zl (w_md_here (f64_8) c64_7 a70) (fun v4 =>
   zl (w_md_in v4 50 57) (fun v5 =>
   bif decide (v5 = 0) then
    zg (g_md_here (f64_8) c64_7 a70) (
    zl (w_md_here (f64_8) c64_7 a70) (fun v6 =>
    zl (w_md_kindBy v6) (fun v7 =>
    bif !decide (v7 = (-1)) then
     bif decide (l2 + 1 ≤ 12) then
      l_md_readsRow_129 x a70 f64_8 l2 1 v7 (c64_7 + 1) 0 b84
     else
      zl (w_md_wrongAt 6 c64_7) (fun v8 =>
      zl (f0_md_wrongAt 6 c64_7) (fun v9 =>
      zg (decide (v8 = 0) || decide (v8 = 1)) (
      some (.inr (v8, b84, c64_7, v9)))))
    else
     zl (w_md_wrongAt 1 c64_7) (fun v10 =>
     zl (f0_md_wrongAt 1 c64_7) (fun v11 =>
     zg (decide (v10 = 0) || decide (v10 = 1)) (
     some (.inr (v10, b84, c64_7, v11))))))))
   else
    zg (g_md_here (f64_8) c64_7 a70) (
    zl (w_md_here (f64_8) c64_7 a70) (fun v12 =>
    zg (g_md_here (f64_8) (c64_7 + 1) a70) (
    zl (w_md_here (f64_8) (c64_7 + 1) a70) (fun v13 =>
    zl (w_md_kindBy v13) (fun v14 =>
    bif !decide (v14 = (-1)) then
     bif decide (l2 + (v12 - 48) ≤ 12) then
      l_md_readsRow_129 x a70 f64_8 l2 (v12 - 48) v14 ((c64_7 + 1) + 1) 0 b84
     else
      zl (w_md_wrongAt 6 c64_7) (fun v15 =>
      zl (f0_md_wrongAt 6 c64_7) (fun v16 =>
      zg (decide (v15 = 0) || decide (v15 = 1)) (
      some (.inr (v15, b84, c64_7 + 1, v16)))))
    else
     zl (w_md_wrongAt 1 (c64_7 + 1)) (fun v17 =>
     zl (f0_md_wrongAt 1 (c64_7 + 1)) (fun v18 =>
     zg (decide (v17 = 0) || decide (v17 = 1)) (
     some (.inr (v17, b84, c64_7 + 1, v18)))))))))))))
noncomputable def f_md_readsRow_27 (x : Int32) (a70 : Nat → Int32) (f64_8 : Int32) (f64_9 : Int32) : U_md_readsRow_27 → Option (U_md_readsRow_27 ⊕ T_md_readsRow) := fun s => b_md_readsRow_27 x a70 f64_8 f64_9 s.1 s.2.1 s.2.2.1 s.2.2.2
noncomputable def l_md_readsRow_27 (x : Int32) (a70 : Nat → Int32) (f64_8 : Int32) (f64_9 : Int32) (l2 : Int32) (l3 : Int32) (b84 : Nat → Int32) (c64_7 : Int32) : Option T_md_readsRow := zlp (f_md_readsRow_27 x a70 f64_8 f64_9) (l2, l3, b84, c64_7)
noncomputable def q_md_readsRow (x : Int32) (a70 : Nat → Int32) (a84 : Nat → Int32) (f64_7 : Int32) (f64_8 : Int32) (f64_9 : Int32) : Option T_md_readsRow :=
  bif !decide (x = 8) then
   l_md_readsRow_27 x a70 f64_8 f64_9 0 1 a84 (f64_7)
  else
   zg (g_md_canBeginRow (f64_8) (f64_7) a70) (
   zl (w_md_canBeginRow (f64_8) (f64_7) a70) (fun v1 =>
   bif decide (v1 = 0) then
    l_md_readsRow_27 x a70 f64_8 f64_9 0 1 a84 (f64_7)
   else
    zl (w_md_wrongAt 4 (f64_7)) (fun v2 =>
    zl (f0_md_wrongAt 4 (f64_7)) (fun v3 =>
    zg (decide (v2 = 0) || decide (v2 = 1)) (
    some (v2, a84, f64_7, v3))))))
def P_md_readsRow (Q : Int32 → (Nat → Int32) → (Nat → Int32) → Int32 → Int32 → Int32 → Option (Int32 × (Nat → Int32) × Int32 × Int32)) : zSp := fun as g => match as with
  | [.ref a, .int x] => bif Nat.beq a 64 then zpe (Q x (g.1 70) (g.1 84) (g.2.1 64 7) (g.2.1 64 8) (g.2.1 64 9)) (fun t => (some (.int (t.1)), ((zua g.1 84 t.2.1), (zuf (zuf g.2.1 64 7 t.2.2.1) 64 9 t.2.2.2), g.2.2))) else none
  | _ => none
noncomputable abbrev S_md_readsRow : zSp := P_md_readsRow q_md_readsRow
def O_md_readsRow (ar fi : Nat → Nat → Int32) (m1 : Nat) (m2 : Nat) (m3 : Nat) (m4 : Nat) (m5 : Nat) (t : T_md_readsRow) : zO2 := (some (.int (t.1)), ((zua ar 84 t.2.1), (zuf (zuf fi 64 7 t.2.2.1) 64 9 t.2.2.2), (m1, m2, m3, m4, m5)))
def M_md_readsRow_129 (X : Nat × (Nat → Int32)) (E : zTE) (ar fi : Nat → Nat → Int32) (m1 : Nat) (m2 : Nat) (m3 : Nat) (m4 : Nat) (m5 : Nat) (x : Int32) (l2 : Int32) (l3 : Int32) (l4 : Int32) (l5 : Int32) (l6 : Int32) (c64_7 : Int32) (o : zO2) (s : U_md_readsRow_129) : Prop := zR2 X zFT E zc_186 129 [.ref 64, .int x, .int l2, .int l3, .int l4, .int l5, .int l6, .int s.1] [] ((zua ar 84 s.2), (zuf fi 64 7 c64_7), (m1, m2, m3, m4, m5)) o
def M_md_readsRow_27 (X : Nat × (Nat → Int32)) (E : zTE) (ar fi : Nat → Nat → Int32) (m1 : Nat) (m2 : Nat) (m3 : Nat) (m4 : Nat) (m5 : Nat) (x : Int32) (o : zO2) (s : U_md_readsRow_27) : Prop := zR2 X zFT E zc_186 27 [.ref 64, .int x, .int s.1, .int s.2.1] [] ((zua ar 84 s.2.2.1), (zuf fi 64 7 s.2.2.2), (m1, m2, m3, m4, m5)) o
set_option maxRecDepth 20000 in
theorem t129_md_readsRow {X : Nat × (Nat → Int32)} {ar fi : Nat → Nat → Int32} {m1 m2 m3 m4 m5 : Nat} {x : Int32} {l2 : Int32} {l3 : Int32} {l4 : Int32} {l5 : Int32} {l6 : Int32} {l7 : Int32} {b84 : Nat → Int32} {c64_7 : Int32} {G_md_canBeginRow : Int32 → Int32 → (Nat → Int32) → Bool} {W_md_canBeginRow : Int32 → Int32 → (Nat → Int32) → Int32} {W_md_wrongAt : Int32 → Int32 → Int32} {F0_md_wrongAt : Int32 → Int32 → Int32} {G_md_here : Int32 → Int32 → (Nat → Int32) → Bool} {W_md_here : Int32 → Int32 → (Nat → Int32) → Int32} {W_md_in : Int32 → Int32 → Int32 → Int32} {W_md_kindBy : Int32 → Int32} : zseg X zFT (zEx 185 (P_md_canBeginRow G_md_canBeginRow W_md_canBeginRow) (zEx 160 (P_md_wrongAt W_md_wrongAt F0_md_wrongAt) (zEx 158 (P_md_here G_md_here W_md_here) (zEx 143 (P_md_in W_md_in) (zEx 184 (P_md_kindBy W_md_kindBy) zE0))))) zc_186 (fun p => Nat.beq p 27 || Nat.beq p 129) 400 129 [.ref 64, .int x, .int l2, .int l3, .int l4, .int l5, .int l6, .int l7] [] ((zua ar 84 b84), (zuf fi 64 7 c64_7), (m1, m2, m3, m4, m5)) = (
  bif decide (l5 ≤ l7) then
   bif decide (fi 64 8 ≤ c64_7) then
    some (.inl (27, [.ref 64, .int x, .int (l2 + l5), .int 0], [], ((zua ar 84 b84), (zuf fi 64 7 c64_7), (m1, m2, m3, m4, m5))))
   else
    zg (G_md_here (fi 64 8) c64_7 (ar 70)) (
    zl (W_md_here (fi 64 8) c64_7 (ar 70)) (fun v19 =>
    bif decide (v19 = 47) then
     some (.inl (27, [.ref 64, .int x, .int (l2 + l5), .int 0], [], ((zua ar 84 b84), (zuf fi 64 7 c64_7), (m1, m2, m3, m4, m5))))
    else
     some (.inl (27, [.ref 64, .int x, .int (l2 + l5), .int 1], [], ((zua ar 84 b84), (zuf fi 64 7 c64_7), (m1, m2, m3, m4, m5))))))
  else
   zg (zin (((12 * x) + l2) + l7) 96) (
   some (.inl (129, [.ref 64, .int x, .int l2, .int l3, .int l4, .int l5, .int l6, .int (l7 + 1)], [], ((zua (zua ar 84 b84) 84 (zup b84 ((((12 * x) + l2) + l7).toNatClampNeg) l6)), (zuf fi 64 7 c64_7), (m1, m2, m3, m4, m5))))) : Option ((Nat × List Value × List Value × zH2) ⊕ zO2)) := rfl
theorem k_md_readsRow_129 {X : Nat × (Nat → Int32)} {ar fi : Nat → Nat → Int32} {m1 m2 m3 m4 m5 : Nat} {x : Int32} {l2 : Int32} {l3 : Int32} {l4 : Int32} {l5 : Int32} {l6 : Int32} {c64_7 : Int32} {o : zO2} : ∀ (s : U_md_readsRow_129) (q : U_md_readsRow_129 ⊕ (U_md_readsRow_27 ⊕ T_md_readsRow)), f_md_readsRow_129 x (ar 70) (fi 64 8) l2 l5 l6 c64_7 s = some q → zq (M_md_readsRow_129 X (zEx 185 S_md_canBeginRow (zEx 160 S_md_wrongAt (zEx 158 S_md_here (zEx 143 S_md_in (zEx 184 S_md_kindBy zE0))))) ar fi m1 m2 m3 m4 m5 x l2 l3 l4 l5 l6 c64_7 o) (zq (M_md_readsRow_27 X (zEx 185 S_md_canBeginRow (zEx 160 S_md_wrongAt (zEx 158 S_md_here (zEx 143 S_md_in (zEx 184 S_md_kindBy zE0))))) ar fi m1 m2 m3 m4 m5 x o) (fun t => O_md_readsRow ar fi m1 m2 m3 m4 m5 t = o)) q → M_md_readsRow_129 X (zEx 185 S_md_canBeginRow (zEx 160 S_md_wrongAt (zEx 158 S_md_here (zEx 143 S_md_in (zEx 184 S_md_kindBy zE0))))) ar fi m1 m2 m3 m4 m5 x l2 l3 l4 l5 l6 c64_7 o s := by
  intro s q h hq
  obtain ⟨l7, b84⟩ := s
  have h : b_md_readsRow_129 x (ar 70) (fi 64 8) l2 l5 l6 c64_7 l7 b84 = some q := h
  unfold b_md_readsRow_129 at h
  show zR2 X zFT (zEx 185 S_md_canBeginRow (zEx 160 S_md_wrongAt (zEx 158 S_md_here (zEx 143 S_md_in (zEx 184 S_md_kindBy zE0))))) zc_186 129 [.ref 64, .int x, .int l2, .int l3, .int l4, .int l5, .int l6, .int l7] [] ((zua ar 84 b84), (zuf fi 64 7 c64_7), (m1, m2, m3, m4, m5)) o
  refine zT_seg t129_md_readsRow ?_
  refine zb_el h (fun hb h => zT_t hb ?_) (fun hb h => zT_f hb ?_)
  · refine zb_el h (fun hb h => zT_t hb ?_) (fun hb h => zT_f hb ?_)
    · have hz := zsi h hq
      refine zR2_hp ?_ ?_ hz
      · first | with_reducible rfl | (exact zuas_eq _ [(84, _)] [(84, _)] [84] rfl rfl ⟨rfl, trivial⟩)
      · first | with_reducible rfl | (exact zufs_eq _ [(64, 7, _)] [(64, 7, _)] [(64, 7)] rfl rfl ⟨rfl, trivial⟩)
    · refine zg_el h (fun hg h => zT_g hg ?_)
      refine zl_el h (fun h => zT_l ?_)
      refine zb_el h (fun hb h => zT_t hb ?_) (fun hb h => zT_f hb ?_)
      · have hz := zsi h hq
        refine zR2_hp ?_ ?_ hz
        · first | with_reducible rfl | (exact zuas_eq _ [(84, _)] [(84, _)] [84] rfl rfl ⟨rfl, trivial⟩)
        · first | with_reducible rfl | (exact zufs_eq _ [(64, 7, _)] [(64, 7, _)] [(64, 7)] rfl rfl ⟨rfl, trivial⟩)
      · have hz := zsi h hq
        refine zR2_hp ?_ ?_ hz
        · first | with_reducible rfl | (exact zuas_eq _ [(84, _)] [(84, _)] [84] rfl rfl ⟨rfl, trivial⟩)
        · first | with_reducible rfl | (exact zufs_eq _ [(64, 7, _)] [(64, 7, _)] [(64, 7)] rfl rfl ⟨rfl, trivial⟩)
  · refine zg_el h (fun hg h => zT_g hg ?_)
    have hz := zsi h hq
    refine zR2_hp ?_ ?_ hz
    · first | with_reducible rfl | (exact zuas_eq _ [(84, _), (84, _)] [(84, _)] [84] rfl rfl ⟨rfl, trivial⟩)
    · first | with_reducible rfl | (exact zufs_eq _ [(64, 7, _)] [(64, 7, _)] [(64, 7)] rfl rfl ⟨rfl, trivial⟩)
set_option maxRecDepth 20000 in
theorem t27_md_readsRow {X : Nat × (Nat → Int32)} {ar fi : Nat → Nat → Int32} {m1 m2 m3 m4 m5 : Nat} {x : Int32} {l2 : Int32} {l3 : Int32} {b84 : Nat → Int32} {c64_7 : Int32} {G_md_canBeginRow : Int32 → Int32 → (Nat → Int32) → Bool} {W_md_canBeginRow : Int32 → Int32 → (Nat → Int32) → Int32} {W_md_wrongAt : Int32 → Int32 → Int32} {F0_md_wrongAt : Int32 → Int32 → Int32} {G_md_here : Int32 → Int32 → (Nat → Int32) → Bool} {W_md_here : Int32 → Int32 → (Nat → Int32) → Int32} {W_md_in : Int32 → Int32 → Int32 → Int32} {W_md_kindBy : Int32 → Int32} : zseg X zFT (zEx 185 (P_md_canBeginRow G_md_canBeginRow W_md_canBeginRow) (zEx 160 (P_md_wrongAt W_md_wrongAt F0_md_wrongAt) (zEx 158 (P_md_here G_md_here W_md_here) (zEx 143 (P_md_in W_md_in) (zEx 184 (P_md_kindBy W_md_kindBy) zE0))))) zc_186 (fun p => Nat.beq p 27 || Nat.beq p 129) 400 27 [.ref 64, .int x, .int l2, .int l3] [] ((zua ar 84 b84), (zuf fi 64 7 c64_7), (m1, m2, m3, m4, m5)) = (
  bif decide (l3 = 0) then
   some (.inr (some (.int 1), ((zua ar 84 b84), (zuf fi 64 7 c64_7), (m1, m2, m3, m4, m5))))
  else
   zg (G_md_here (fi 64 8) c64_7 (ar 70)) (
   zl (W_md_here (fi 64 8) c64_7 (ar 70)) (fun v4 =>
   zl (W_md_in v4 50 57) (fun v5 =>
   bif decide (v5 = 0) then
    zg (G_md_here (fi 64 8) c64_7 (ar 70)) (
    zl (W_md_here (fi 64 8) c64_7 (ar 70)) (fun v6 =>
    zl (W_md_kindBy v6) (fun v7 =>
    bif !decide (v7 = (-1)) then
     bif decide (l2 + 1 ≤ 12) then
      some (.inl (129, [.ref 64, .int x, .int l2, .int l3, .int c64_7, .int 1, .int v7, .int 0], [], ((zua ar 84 b84), (zuf (zuf fi 64 7 c64_7) 64 7 (c64_7 + 1)), (m1, m2, m3, m4, m5))))
     else
      zl (W_md_wrongAt 6 c64_7) (fun v8 =>
      zl (F0_md_wrongAt 6 c64_7) (fun v9 =>
      zg (decide (v8 = 0) || decide (v8 = 1)) (
      some (.inr (some (.int v8), ((zua ar 84 b84), (zuf (zuf fi 64 7 c64_7) 64 9 v9), (m1, m2, m3, m4, m5)))))))
    else
     zl (W_md_wrongAt 1 c64_7) (fun v10 =>
     zl (F0_md_wrongAt 1 c64_7) (fun v11 =>
     zg (decide (v10 = 0) || decide (v10 = 1)) (
     some (.inr (some (.int v10), ((zua ar 84 b84), (zuf (zuf fi 64 7 c64_7) 64 9 v11), (m1, m2, m3, m4, m5))))))))))
   else
    zg (G_md_here (fi 64 8) c64_7 (ar 70)) (
    zl (W_md_here (fi 64 8) c64_7 (ar 70)) (fun v12 =>
    zg (G_md_here (fi 64 8) (c64_7 + 1) (ar 70)) (
    zl (W_md_here (fi 64 8) (c64_7 + 1) (ar 70)) (fun v13 =>
    zl (W_md_kindBy v13) (fun v14 =>
    bif !decide (v14 = (-1)) then
     bif decide (l2 + (v12 - 48) ≤ 12) then
      some (.inl (129, [.ref 64, .int x, .int l2, .int l3, .int c64_7, .int (v12 - 48), .int v14, .int 0], [], ((zua ar 84 b84), (zuf (zuf (zuf fi 64 7 c64_7) 64 7 (c64_7 + 1)) 64 7 ((c64_7 + 1) + 1)), (m1, m2, m3, m4, m5))))
     else
      zl (W_md_wrongAt 6 c64_7) (fun v15 =>
      zl (F0_md_wrongAt 6 c64_7) (fun v16 =>
      zg (decide (v15 = 0) || decide (v15 = 1)) (
      some (.inr (some (.int v15), ((zua ar 84 b84), (zuf (zuf (zuf fi 64 7 c64_7) 64 7 (c64_7 + 1)) 64 9 v16), (m1, m2, m3, m4, m5)))))))
    else
     zl (W_md_wrongAt 1 (c64_7 + 1)) (fun v17 =>
     zl (F0_md_wrongAt 1 (c64_7 + 1)) (fun v18 =>
     zg (decide (v17 = 0) || decide (v17 = 1)) (
     some (.inr (some (.int v17), ((zua ar 84 b84), (zuf (zuf (zuf fi 64 7 c64_7) 64 7 (c64_7 + 1)) 64 9 v18), (m1, m2, m3, m4, m5))))))))))))))) : Option ((Nat × List Value × List Value × zH2) ⊕ zO2)) := rfl
theorem k_md_readsRow_27 {X : Nat × (Nat → Int32)} {ar fi : Nat → Nat → Int32} {m1 m2 m3 m4 m5 : Nat} {x : Int32} {o : zO2} : ∀ (s : U_md_readsRow_27) (q : U_md_readsRow_27 ⊕ T_md_readsRow), f_md_readsRow_27 x (ar 70) (fi 64 8) (fi 64 9) s = some q → zq (M_md_readsRow_27 X (zEx 185 S_md_canBeginRow (zEx 160 S_md_wrongAt (zEx 158 S_md_here (zEx 143 S_md_in (zEx 184 S_md_kindBy zE0))))) ar fi m1 m2 m3 m4 m5 x o) (fun t => O_md_readsRow ar fi m1 m2 m3 m4 m5 t = o) q → M_md_readsRow_27 X (zEx 185 S_md_canBeginRow (zEx 160 S_md_wrongAt (zEx 158 S_md_here (zEx 143 S_md_in (zEx 184 S_md_kindBy zE0))))) ar fi m1 m2 m3 m4 m5 x o s := by
  intro s q h hq
  obtain ⟨l2, l3, b84, c64_7⟩ := s
  have h : b_md_readsRow_27 x (ar 70) (fi 64 8) (fi 64 9) l2 l3 b84 c64_7 = some q := h
  unfold b_md_readsRow_27 at h
  show zR2 X zFT (zEx 185 S_md_canBeginRow (zEx 160 S_md_wrongAt (zEx 158 S_md_here (zEx 143 S_md_in (zEx 184 S_md_kindBy zE0))))) zc_186 27 [.ref 64, .int x, .int l2, .int l3] [] ((zua ar 84 b84), (zuf fi 64 7 c64_7), (m1, m2, m3, m4, m5)) o
  refine zT_seg t27_md_readsRow ?_
  refine zb_el h (fun hb h => zT_t hb ?_) (fun hb h => zT_f hb ?_)
  · have hz := zsi h hq
    refine (zO_mk ?_ ?_).trans hz
    · first | with_reducible rfl | (exact zuas_eq _ [(84, _)] [(84, _)] [84] rfl rfl ⟨rfl, trivial⟩)
    · first | with_reducible rfl | (exact zufs_eq _ [(64, 7, _)] [(64, 7, _), (64, 9, _)] [(64, 7), (64, 9)] rfl rfl ⟨rfl, rfl, trivial⟩)
  · refine zg_el h (fun hg h => zT_g hg ?_)
    refine zl_el h (fun h => zT_l ?_)
    refine zl_el h (fun h => zT_l ?_)
    refine zb_el h (fun hb h => zT_t hb ?_) (fun hb h => zT_f hb ?_)
    · refine zg_el h (fun hg h => zT_g hg ?_)
      refine zl_el h (fun h => zT_l ?_)
      refine zl_el h (fun h => zT_l ?_)
      refine zb_el h (fun hb h => zT_t hb ?_) (fun hb h => zT_f hb ?_)
      · refine zb_el h (fun hb h => zT_t hb ?_) (fun hb h => zT_f hb ?_)
        · refine zR2_hp ?_ ?_ (zlp_K k_md_readsRow_129 h hq)
          · first | with_reducible rfl | (exact zuas_eq _ [(84, _)] [(84, _)] [84] rfl rfl ⟨rfl, trivial⟩)
          · first | with_reducible rfl | (exact zufs_eq _ [(64, 7, _), (64, 7, _)] [(64, 7, _)] [(64, 7)] rfl rfl ⟨rfl, trivial⟩)
        · refine zl_el h (fun h => zT_l ?_)
          refine zl_el h (fun h => zT_l ?_)
          refine zg_el h (fun hg h => zT_g hg ?_)
          have hz := zsi h hq
          refine (zO_mk ?_ ?_).trans hz
          · first | with_reducible rfl | (exact zuas_eq _ [(84, _)] [(84, _)] [84] rfl rfl ⟨rfl, trivial⟩)
          · first | with_reducible rfl | (exact zufs_eq _ [(64, 7, _), (64, 9, _)] [(64, 7, _), (64, 9, _)] [(64, 7), (64, 9)] rfl rfl ⟨rfl, rfl, trivial⟩)
      · refine zl_el h (fun h => zT_l ?_)
        refine zl_el h (fun h => zT_l ?_)
        refine zg_el h (fun hg h => zT_g hg ?_)
        have hz := zsi h hq
        refine (zO_mk ?_ ?_).trans hz
        · first | with_reducible rfl | (exact zuas_eq _ [(84, _)] [(84, _)] [84] rfl rfl ⟨rfl, trivial⟩)
        · first | with_reducible rfl | (exact zufs_eq _ [(64, 7, _), (64, 9, _)] [(64, 7, _), (64, 9, _)] [(64, 7), (64, 9)] rfl rfl ⟨rfl, rfl, trivial⟩)
    · refine zg_el h (fun hg h => zT_g hg ?_)
      refine zl_el h (fun h => zT_l ?_)
      refine zg_el h (fun hg h => zT_g hg ?_)
      refine zl_el h (fun h => zT_l ?_)
      refine zl_el h (fun h => zT_l ?_)
      refine zb_el h (fun hb h => zT_t hb ?_) (fun hb h => zT_f hb ?_)
      · refine zb_el h (fun hb h => zT_t hb ?_) (fun hb h => zT_f hb ?_)
        · refine zR2_hp ?_ ?_ (zlp_K k_md_readsRow_129 h hq)
          · first | with_reducible rfl | (exact zuas_eq _ [(84, _)] [(84, _)] [84] rfl rfl ⟨rfl, trivial⟩)
          · first | with_reducible rfl | (exact zufs_eq _ [(64, 7, _), (64, 7, _), (64, 7, _)] [(64, 7, _)] [(64, 7)] rfl rfl ⟨rfl, trivial⟩)
        · refine zl_el h (fun h => zT_l ?_)
          refine zl_el h (fun h => zT_l ?_)
          refine zg_el h (fun hg h => zT_g hg ?_)
          have hz := zsi h hq
          refine (zO_mk ?_ ?_).trans hz
          · first | with_reducible rfl | (exact zuas_eq _ [(84, _)] [(84, _)] [84] rfl rfl ⟨rfl, trivial⟩)
          · first | with_reducible rfl | (exact zufs_eq _ [(64, 7, _), (64, 7, _), (64, 9, _)] [(64, 7, _), (64, 9, _)] [(64, 7), (64, 9)] rfl rfl ⟨rfl, rfl, trivial⟩)
      · refine zl_el h (fun h => zT_l ?_)
        refine zl_el h (fun h => zT_l ?_)
        refine zg_el h (fun hg h => zT_g hg ?_)
        have hz := zsi h hq
        refine (zO_mk ?_ ?_).trans hz
        · first | with_reducible rfl | (exact zuas_eq _ [(84, _)] [(84, _)] [84] rfl rfl ⟨rfl, trivial⟩)
        · first | with_reducible rfl | (exact zufs_eq _ [(64, 7, _), (64, 7, _), (64, 9, _)] [(64, 7, _), (64, 9, _)] [(64, 7), (64, 9)] rfl rfl ⟨rfl, rfl, trivial⟩)
set_option maxRecDepth 20000 in
theorem t_md_readsRow {X : Nat × (Nat → Int32)} {ar fi : Nat → Nat → Int32} {m1 m2 m3 m4 m5 : Nat} {x : Int32} {G_md_canBeginRow : Int32 → Int32 → (Nat → Int32) → Bool} {W_md_canBeginRow : Int32 → Int32 → (Nat → Int32) → Int32} {W_md_wrongAt : Int32 → Int32 → Int32} {F0_md_wrongAt : Int32 → Int32 → Int32} {G_md_here : Int32 → Int32 → (Nat → Int32) → Bool} {W_md_here : Int32 → Int32 → (Nat → Int32) → Int32} {W_md_in : Int32 → Int32 → Int32 → Int32} {W_md_kindBy : Int32 → Int32} : zseg X zFT (zEx 185 (P_md_canBeginRow G_md_canBeginRow W_md_canBeginRow) (zEx 160 (P_md_wrongAt W_md_wrongAt F0_md_wrongAt) (zEx 158 (P_md_here G_md_here W_md_here) (zEx 143 (P_md_in W_md_in) (zEx 184 (P_md_kindBy W_md_kindBy) zE0))))) zc_186 (fun p => Nat.beq p 27 || Nat.beq p 129) 400 0 [.ref 64, .int x] [] (ar, fi, (m1, m2, m3, m4, m5)) = (
  bif !decide (x = 8) then
   some (.inl (27, [.ref 64, .int x, .int 0, .int 1], [], (ar, fi, (m1, m2, m3, m4, m5))))
  else
   zg (G_md_canBeginRow (fi 64 8) (fi 64 7) (ar 70)) (
   zl (W_md_canBeginRow (fi 64 8) (fi 64 7) (ar 70)) (fun v1 =>
   bif decide (v1 = 0) then
    some (.inl (27, [.ref 64, .int x, .int 0, .int 1], [], (ar, fi, (m1, m2, m3, m4, m5))))
   else
    zl (W_md_wrongAt 4 (fi 64 7)) (fun v2 =>
    zl (F0_md_wrongAt 4 (fi 64 7)) (fun v3 =>
    zg (decide (v2 = 0) || decide (v2 = 1)) (
    some (.inr (some (.int v2), (ar, (zuf fi 64 9 v3), (m1, m2, m3, m4, m5))))))))) : Option ((Nat × List Value × List Value × zH2) ⊕ zO2)) := rfl
theorem e_md_readsRow {X : Nat × (Nat → Int32)} {ar fi : Nat → Nat → Int32} {m1 m2 m3 m4 m5 : Nat} {x : Int32} {o : zO2} : ∀ (q : T_md_readsRow), q_md_readsRow x (ar 70) (ar 84) (fi 64 7) (fi 64 8) (fi 64 9) = some q → (fun t => O_md_readsRow ar fi m1 m2 m3 m4 m5 t = o) q → zR2 X zFT (zEx 185 S_md_canBeginRow (zEx 160 S_md_wrongAt (zEx 158 S_md_here (zEx 143 S_md_in (zEx 184 S_md_kindBy zE0))))) zc_186 0 [.ref 64, .int x] [] (ar, fi, (m1, m2, m3, m4, m5)) o := by
  intro q h hq
  unfold q_md_readsRow at h
  refine zT_seg t_md_readsRow ?_
  refine zb_el h (fun hb h => zT_t hb ?_) (fun hb h => zT_f hb ?_)
  · refine zR2_hp ?_ ?_ (zlp_K k_md_readsRow_27 h hq)
    · first | with_reducible rfl | (exact zuas_eq _ [] [(84, _)] [84] rfl rfl ⟨rfl, trivial⟩)
    · first | with_reducible rfl | (exact zufs_eq _ [] [(64, 7, _)] [(64, 7)] rfl rfl ⟨rfl, trivial⟩)
  · refine zg_el h (fun hg h => zT_g hg ?_)
    refine zl_el h (fun h => zT_l ?_)
    refine zb_el h (fun hb h => zT_t hb ?_) (fun hb h => zT_f hb ?_)
    · refine zR2_hp ?_ ?_ (zlp_K k_md_readsRow_27 h hq)
      · first | with_reducible rfl | (exact zuas_eq _ [] [(84, _)] [84] rfl rfl ⟨rfl, trivial⟩)
      · first | with_reducible rfl | (exact zufs_eq _ [] [(64, 7, _)] [(64, 7)] rfl rfl ⟨rfl, trivial⟩)
    · refine zl_el h (fun h => zT_l ?_)
      refine zl_el h (fun h => zT_l ?_)
      refine zg_el h (fun hg h => zT_g hg ?_)
      have hz := zsi h hq
      refine (zO_mk ?_ ?_).trans hz
      · first | with_reducible rfl | (exact zuas_eq _ [] [(84, _)] [84] rfl rfl ⟨rfl, trivial⟩)
      · first | with_reducible rfl | (exact zufs_eq _ [(64, 9, _)] [(64, 7, _), (64, 9, _)] [(64, 7), (64, 9)] rfl rfl ⟨rfl, rfl, trivial⟩)
theorem ok_md_readsRow (X : Nat × (Nat → Int32)) : zOkS X 186 S_md_readsRow 3 := zOkS_new (zOkE_cons (ok_md_canBeginRow X) (by decide) (zOkE_cons (ok_md_wrongAt X) (by decide) (zOkE_cons (ok_md_here X) (by decide) (zOkE_cons (ok_md_in X) (by decide) (zOkE_cons (ok_md_kindBy X) (by decide) (zOkE_nil X 2)))))) (by
  intro args g o h
  obtain ⟨ar, fi, m1, m2, m3, m4, m5⟩ := g
  unfold S_md_readsRow P_md_readsRow at h
  split at h
  · refine zb_el h (fun hI0 k0 => ?_) (fun _ h10 => ?_)
    · try simp only [Bool.and_eq_true] at hI0
      have j0 := hI0
      have e0 := Nat.eq_of_beq_eq_true j0
      subst e0
      exact zpe_el k0 (fun t ht ho => e_md_readsRow t ht ho)
    · cases h10
  · cases h)
abbrev T_md_town : Type := Int32 × (Nat → Int32) × (Nat → Int32) × (Nat → Int32) × Int32 × Int32 × Int32 × Int32 × Int32 × Int32
abbrev U_md_town_27 : Type := Int32 × (Nat → Int32)
abbrev U_md_town_54 : Type := Int32 × Int32 × (Nat → Int32) × Int32 × Int32
abbrev U_md_town_112 : Type := Int32 × Int32 × (Nat → Int32) × (Nat → Int32)
def b_md_town_112 (b84 : Nat → Int32) (c64_6 : Int32) (c64_7 : Int32) (c64_8 : Int32) (c64_9 : Int32) (c64_12 : Int32) (c64_14 : Int32) (l4 : Int32) (l5 : Int32) (b65 : Nat → Int32) (b68 : Nat → Int32) : Option (U_md_town_112 ⊕ T_md_town) :=
  bif decide (96 ≤ l5) then
   some (.inr (l4, b65, b68, b84, c64_6, c64_7, c64_8, c64_9, c64_12, c64_14))
  else
   zg (zin l5 96) (
   zg (zin l5 96) (
   zg (g_md_becomesWhole l5 b65) (
   zl (a0_md_becomesWhole l5 b65) (fun v8 =>
   zg (g_md_isWood l5 (zup b68 (l5.toNatClampNeg) (b84 (l5.toNatClampNeg)))) (
   zl (w_md_isWood l5 (zup b68 (l5.toNatClampNeg) (b84 (l5.toNatClampNeg)))) (fun v9 =>
   bif decide (v9 = 0) then
    some (.inl (l4, l5 + 1, v8, (zup b68 (l5.toNatClampNeg) (b84 (l5.toNatClampNeg)))))
   else
    some (.inl (l4 + 1, l5 + 1, v8, (zup b68 (l5.toNatClampNeg) (b84 (l5.toNatClampNeg)))))))))))
def f_md_town_112 (b84 : Nat → Int32) (c64_6 : Int32) (c64_7 : Int32) (c64_8 : Int32) (c64_9 : Int32) (c64_12 : Int32) (c64_14 : Int32) : U_md_town_112 → Option (U_md_town_112 ⊕ T_md_town) := fun s => b_md_town_112 b84 c64_6 c64_7 c64_8 c64_9 c64_12 c64_14 s.1 s.2.1 s.2.2.1 s.2.2.2
noncomputable def l_md_town_112 (b84 : Nat → Int32) (c64_6 : Int32) (c64_7 : Int32) (c64_8 : Int32) (c64_9 : Int32) (c64_12 : Int32) (c64_14 : Int32) (l4 : Int32) (l5 : Int32) (b65 : Nat → Int32) (b68 : Nat → Int32) : Option T_md_town := zlp (f_md_town_112 b84 c64_6 c64_7 c64_8 c64_9 c64_12 c64_14) (l4, l5, b65, b68)
noncomputable def b_md_town_54 (a70 : Nat → Int32) (b65 : Nat → Int32) (b68 : Nat → Int32) (c64_8 : Int32) (c64_12 : Int32) (c64_14 : Int32) (l2 : Int32) (l3 : Int32) (b84 : Nat → Int32) (c64_7 : Int32) (c64_9 : Int32) : Option (U_md_town_54 ⊕ T_md_town) :=
  bif decide (l3 = 0) then
   bif !decide (l3 = 0) then
    zbd (l_md_town_112 b84 0 c64_7 c64_8 c64_9 c64_12 c64_14 0 0 b65 b68) (fun k => some (.inr k))
   else
    some (.inr (c64_9, b65, b68, b84, 0, c64_7, c64_8, c64_9, c64_12, c64_14))
  else
   bif decide (c64_8 ≤ c64_7) then
    bif !decide (l3 = 0) then
     zbd (l_md_town_112 b84 0 c64_7 c64_8 c64_9 c64_12 c64_14 0 0 b65 b68) (fun k => some (.inr k))
    else
     some (.inr (c64_9, b65, b68, b84, 0, c64_7, c64_8, c64_9, c64_12, c64_14))
   else
    zbd (q_md_readsRow l2 a70 b84 (c64_7 + 1) c64_8 c64_9) (fun v7 =>
    some (.inl (l2 + 1, (v7.1), ((v7.2.1)), (v7.2.2.1), (v7.2.2.2))))
noncomputable def f_md_town_54 (a70 : Nat → Int32) (b65 : Nat → Int32) (b68 : Nat → Int32) (c64_8 : Int32) (c64_12 : Int32) (c64_14 : Int32) : U_md_town_54 → Option (U_md_town_54 ⊕ T_md_town) := fun s => b_md_town_54 a70 b65 b68 c64_8 c64_12 c64_14 s.1 s.2.1 s.2.2.1 s.2.2.2.1 s.2.2.2.2
noncomputable def l_md_town_54 (a70 : Nat → Int32) (b65 : Nat → Int32) (b68 : Nat → Int32) (c64_8 : Int32) (c64_12 : Int32) (c64_14 : Int32) (l2 : Int32) (l3 : Int32) (b84 : Nat → Int32) (c64_7 : Int32) (c64_9 : Int32) : Option T_md_town := zlp (f_md_town_54 a70 b65 b68 c64_8 c64_12 c64_14) (l2, l3, b84, c64_7, c64_9)
noncomputable def b_md_town_27 (a70 : Nat → Int32) (b65 : Nat → Int32) (b68 : Nat → Int32) (c64_7 : Int32) (c64_8 : Int32) (c64_9 : Int32) (c64_12 : Int32) (c64_14 : Int32) (l2 : Int32) (b84 : Nat → Int32) : Option (U_md_town_27 ⊕ T_md_town) :=
  bif decide (96 ≤ l2) then
   zbd (q_md_readsRow 0 a70 b84 c64_7 c64_8 c64_9) (fun v6 =>
   zbd (l_md_town_54 a70 b65 b68 c64_8 c64_12 c64_14 1 ((v6.1)) ((v6.2.1)) ((v6.2.2.1)) ((v6.2.2.2))) (fun k => some (.inr k)))
  else
   zg (zin l2 96) (
   some (.inl (l2 + 1, (zup b84 (l2.toNatClampNeg) 0))))
noncomputable def f_md_town_27 (a70 : Nat → Int32) (b65 : Nat → Int32) (b68 : Nat → Int32) (c64_7 : Int32) (c64_8 : Int32) (c64_9 : Int32) (c64_12 : Int32) (c64_14 : Int32) : U_md_town_27 → Option (U_md_town_27 ⊕ T_md_town) := fun s => b_md_town_27 a70 b65 b68 c64_7 c64_8 c64_9 c64_12 c64_14 s.1 s.2
noncomputable def l_md_town_27 (a70 : Nat → Int32) (b65 : Nat → Int32) (b68 : Nat → Int32) (c64_7 : Int32) (c64_8 : Int32) (c64_9 : Int32) (c64_12 : Int32) (c64_14 : Int32) (l2 : Int32) (b84 : Nat → Int32) : Option T_md_town := zlp (f_md_town_27 a70 b65 b68 c64_7 c64_8 c64_9 c64_12 c64_14) (l2, b84)
noncomputable def q_md_town (x : Int32) (a65 : Nat → Int32) (a68 : Nat → Int32) (a70 : Nat → Int32) (a84 : Nat → Int32) (f64_6 : Int32) (f64_7 : Int32) (f64_8 : Int32) (f64_9 : Int32) (f64_12 : Int32) (f64_14 : Int32) : Option T_md_town :=
  zl (w_md_in x 1 120) (fun v1 =>
  bif decide (v1 = 0) then
   some ((-1), a65, a68, a84, f64_6, f64_7, f64_8, f64_9, f64_12, f64_14)
  else
   bif decide (x ≤ f64_6) then
    zl (f0_md_beginsText x) (fun v2 =>
    zl (f1_md_beginsText x) (fun v3 =>
    zl (f2_md_beginsText x) (fun v4 =>
    zl (f3_md_beginsText x) (fun v5 =>
    l_md_town_27 a70 a65 a68 v2 v3 (f64_9) v4 v5 0 a84))))
   else
    some ((-1), a65, a68, a84, f64_6, f64_7, f64_8, f64_9, f64_12, f64_14))
def P_md_town (Q : Int32 → (Nat → Int32) → (Nat → Int32) → (Nat → Int32) → (Nat → Int32) → Int32 → Int32 → Int32 → Int32 → Int32 → Int32 → Option (Int32 × (Nat → Int32) × (Nat → Int32) × (Nat → Int32) × Int32 × Int32 × Int32 × Int32 × Int32 × Int32)) : zSp := fun as g => match as with
  | [.ref a, .int x] => bif Nat.beq a 64 then zpe (Q x (g.1 65) (g.1 68) (g.1 70) (g.1 84) (g.2.1 64 6) (g.2.1 64 7) (g.2.1 64 8) (g.2.1 64 9) (g.2.1 64 12) (g.2.1 64 14)) (fun t => (some (.int (t.1)), ((zua (zua (zua g.1 65 t.2.1) 68 t.2.2.1) 84 t.2.2.2.1), (zuf (zuf (zuf (zuf (zuf (zuf g.2.1 64 6 t.2.2.2.2.1) 64 7 t.2.2.2.2.2.1) 64 8 t.2.2.2.2.2.2.1) 64 9 t.2.2.2.2.2.2.2.1) 64 12 t.2.2.2.2.2.2.2.2.1) 64 14 t.2.2.2.2.2.2.2.2.2), g.2.2))) else none
  | _ => none
noncomputable abbrev S_md_town : zSp := P_md_town q_md_town
def O_md_town (ar fi : Nat → Nat → Int32) (m1 : Nat) (m2 : Nat) (m3 : Nat) (m4 : Nat) (m5 : Nat) (t : T_md_town) : zO2 := (some (.int (t.1)), ((zua (zua (zua ar 65 t.2.1) 68 t.2.2.1) 84 t.2.2.2.1), (zuf (zuf (zuf (zuf (zuf (zuf fi 64 6 t.2.2.2.2.1) 64 7 t.2.2.2.2.2.1) 64 8 t.2.2.2.2.2.2.1) 64 9 t.2.2.2.2.2.2.2.1) 64 12 t.2.2.2.2.2.2.2.2.1) 64 14 t.2.2.2.2.2.2.2.2.2), (m1, m2, m3, m4, m5)))
def M_md_town_112 (X : Nat × (Nat → Int32)) (E : zTE) (ar fi : Nat → Nat → Int32) (m1 : Nat) (m2 : Nat) (m3 : Nat) (m4 : Nat) (m5 : Nat) (x : Int32) (l2 : Int32) (l3 : Int32) (b84 : Nat → Int32) (c64_6 : Int32) (c64_7 : Int32) (c64_8 : Int32) (c64_9 : Int32) (c64_12 : Int32) (c64_14 : Int32) (o : zO2) (s : U_md_town_112) : Prop := zR2 X zFT E zc_187 112 [.ref 64, .int x, .int l2, .int l3, .int s.1, .int s.2.1] [] ((zua (zua (zua ar 65 s.2.2.1) 68 s.2.2.2) 84 b84), (zuf (zuf (zuf (zuf (zuf (zuf fi 64 6 c64_6) 64 7 c64_7) 64 8 c64_8) 64 9 c64_9) 64 12 c64_12) 64 14 c64_14), (m1, m2, m3, m4, m5)) o
def M_md_town_54 (X : Nat × (Nat → Int32)) (E : zTE) (ar fi : Nat → Nat → Int32) (m1 : Nat) (m2 : Nat) (m3 : Nat) (m4 : Nat) (m5 : Nat) (x : Int32) (b65 : Nat → Int32) (b68 : Nat → Int32) (c64_6 : Int32) (c64_8 : Int32) (c64_12 : Int32) (c64_14 : Int32) (o : zO2) (s : U_md_town_54) : Prop := zR2 X zFT E zc_187 54 [.ref 64, .int x, .int s.1, .int s.2.1] [] ((zua (zua (zua ar 65 b65) 68 b68) 84 s.2.2.1), (zuf (zuf (zuf (zuf (zuf (zuf fi 64 6 c64_6) 64 7 s.2.2.2.1) 64 8 c64_8) 64 9 s.2.2.2.2) 64 12 c64_12) 64 14 c64_14), (m1, m2, m3, m4, m5)) o
def M_md_town_27 (X : Nat × (Nat → Int32)) (E : zTE) (ar fi : Nat → Nat → Int32) (m1 : Nat) (m2 : Nat) (m3 : Nat) (m4 : Nat) (m5 : Nat) (x : Int32) (b65 : Nat → Int32) (b68 : Nat → Int32) (c64_6 : Int32) (c64_7 : Int32) (c64_8 : Int32) (c64_9 : Int32) (c64_12 : Int32) (c64_14 : Int32) (o : zO2) (s : U_md_town_27) : Prop := zR2 X zFT E zc_187 27 [.ref 64, .int x, .int s.1] [] ((zua (zua (zua ar 65 b65) 68 b68) 84 s.2), (zuf (zuf (zuf (zuf (zuf (zuf fi 64 6 c64_6) 64 7 c64_7) 64 8 c64_8) 64 9 c64_9) 64 12 c64_12) 64 14 c64_14), (m1, m2, m3, m4, m5)) o
set_option maxRecDepth 20000 in
theorem t112_md_town {X : Nat × (Nat → Int32)} {ar fi : Nat → Nat → Int32} {m1 m2 m3 m4 m5 : Nat} {x : Int32} {l2 : Int32} {l3 : Int32} {l4 : Int32} {l5 : Int32} {b65 : Nat → Int32} {b68 : Nat → Int32} {b84 : Nat → Int32} {c64_6 : Int32} {c64_7 : Int32} {c64_8 : Int32} {c64_9 : Int32} {c64_12 : Int32} {c64_14 : Int32} {W_md_in : Int32 → Int32 → Int32 → Int32} {F0_md_beginsText : Int32 → Int32} {F1_md_beginsText : Int32 → Int32} {F2_md_beginsText : Int32 → Int32} {F3_md_beginsText : Int32 → Int32} {Q_md_readsRow : Int32 → (Nat → Int32) → (Nat → Int32) → Int32 → Int32 → Int32 → Option (Int32 × (Nat → Int32) × Int32 × Int32)} {G_md_becomesWhole : Int32 → (Nat → Int32) → Bool} {A0_md_becomesWhole : Int32 → (Nat → Int32) → Nat → Int32} {G_md_isWood : Int32 → (Nat → Int32) → Bool} {W_md_isWood : Int32 → (Nat → Int32) → Int32} : zseg X zFT (zEx 143 (P_md_in W_md_in) (zEx 178 (P_md_beginsText F0_md_beginsText F1_md_beginsText F2_md_beginsText F3_md_beginsText) (zEx 186 (P_md_readsRow Q_md_readsRow) (zEx 188 (P_md_becomesWhole G_md_becomesWhole A0_md_becomesWhole) (zEx 152 (P_md_isWood G_md_isWood W_md_isWood) zE0))))) zc_187 (fun p => Nat.beq p 27 || Nat.beq p 54 || Nat.beq p 112) 400 112 [.ref 64, .int x, .int l2, .int l3, .int l4, .int l5] [] ((zua (zua (zua ar 65 b65) 68 b68) 84 b84), (zuf (zuf (zuf (zuf (zuf (zuf fi 64 6 c64_6) 64 7 c64_7) 64 8 c64_8) 64 9 c64_9) 64 12 c64_12) 64 14 c64_14), (m1, m2, m3, m4, m5)) = (
  bif decide (96 ≤ l5) then
   some (.inr (some (.int l4), ((zua (zua (zua ar 65 b65) 68 b68) 84 b84), (zuf (zuf (zuf (zuf (zuf (zuf fi 64 6 c64_6) 64 7 c64_7) 64 8 c64_8) 64 9 c64_9) 64 12 c64_12) 64 14 c64_14), (m1, m2, m3, m4, m5))))
  else
   zg (zin l5 96) (
   zg (zin l5 96) (
   zg (G_md_becomesWhole l5 b65) (
   zl (A0_md_becomesWhole l5 b65) (fun v8 =>
   zg (G_md_isWood l5 (zup b68 (l5.toNatClampNeg) (b84 (l5.toNatClampNeg)))) (
   zl (W_md_isWood l5 (zup b68 (l5.toNatClampNeg) (b84 (l5.toNatClampNeg)))) (fun v9 =>
   bif decide (v9 = 0) then
    some (.inl (112, [.ref 64, .int x, .int l2, .int l3, .int l4, .int (l5 + 1)], [], ((zua (zua (zua (zua (zua ar 65 b65) 68 b68) 84 b84) 68 (zup b68 (l5.toNatClampNeg) (b84 (l5.toNatClampNeg)))) 65 v8), (zuf (zuf (zuf (zuf (zuf (zuf fi 64 6 c64_6) 64 7 c64_7) 64 8 c64_8) 64 9 c64_9) 64 12 c64_12) 64 14 c64_14), (m1, m2, m3, m4, m5))))
   else
    some (.inl (112, [.ref 64, .int x, .int l2, .int l3, .int (l4 + 1), .int (l5 + 1)], [], ((zua (zua (zua (zua (zua ar 65 b65) 68 b68) 84 b84) 68 (zup b68 (l5.toNatClampNeg) (b84 (l5.toNatClampNeg)))) 65 v8), (zuf (zuf (zuf (zuf (zuf (zuf fi 64 6 c64_6) 64 7 c64_7) 64 8 c64_8) 64 9 c64_9) 64 12 c64_12) 64 14 c64_14), (m1, m2, m3, m4, m5)))))))))) : Option ((Nat × List Value × List Value × zH2) ⊕ zO2)) := rfl
theorem k_md_town_112 {X : Nat × (Nat → Int32)} {ar fi : Nat → Nat → Int32} {m1 m2 m3 m4 m5 : Nat} {x : Int32} {l2 : Int32} {l3 : Int32} {b84 : Nat → Int32} {c64_6 : Int32} {c64_7 : Int32} {c64_8 : Int32} {c64_9 : Int32} {c64_12 : Int32} {c64_14 : Int32} {o : zO2} : ∀ (s : U_md_town_112) (q : U_md_town_112 ⊕ T_md_town), f_md_town_112 b84 c64_6 c64_7 c64_8 c64_9 c64_12 c64_14 s = some q → zq (M_md_town_112 X (zEx 143 S_md_in (zEx 178 S_md_beginsText (zEx 186 S_md_readsRow (zEx 188 S_md_becomesWhole (zEx 152 S_md_isWood zE0))))) ar fi m1 m2 m3 m4 m5 x l2 l3 b84 c64_6 c64_7 c64_8 c64_9 c64_12 c64_14 o) (fun t => O_md_town ar fi m1 m2 m3 m4 m5 t = o) q → M_md_town_112 X (zEx 143 S_md_in (zEx 178 S_md_beginsText (zEx 186 S_md_readsRow (zEx 188 S_md_becomesWhole (zEx 152 S_md_isWood zE0))))) ar fi m1 m2 m3 m4 m5 x l2 l3 b84 c64_6 c64_7 c64_8 c64_9 c64_12 c64_14 o s := by
  intro s q h hq
  obtain ⟨l4, l5, b65, b68⟩ := s
  have h : b_md_town_112 b84 c64_6 c64_7 c64_8 c64_9 c64_12 c64_14 l4 l5 b65 b68 = some q := h
  unfold b_md_town_112 at h
  show zR2 X zFT (zEx 143 S_md_in (zEx 178 S_md_beginsText (zEx 186 S_md_readsRow (zEx 188 S_md_becomesWhole (zEx 152 S_md_isWood zE0))))) zc_187 112 [.ref 64, .int x, .int l2, .int l3, .int l4, .int l5] [] ((zua (zua (zua ar 65 b65) 68 b68) 84 b84), (zuf (zuf (zuf (zuf (zuf (zuf fi 64 6 c64_6) 64 7 c64_7) 64 8 c64_8) 64 9 c64_9) 64 12 c64_12) 64 14 c64_14), (m1, m2, m3, m4, m5)) o
  refine zT_seg t112_md_town ?_
  refine zb_el h (fun hb h => zT_t hb ?_) (fun hb h => zT_f hb ?_)
  · have hz := zsi h hq
    refine (zO_mk ?_ ?_).trans hz
    · first | with_reducible rfl | (exact zuas_eq _ [(65, _), (68, _), (84, _)] [(65, _), (68, _), (84, _)] [65, 68, 84] rfl rfl ⟨rfl, rfl, rfl, trivial⟩)
    · first | with_reducible rfl | (exact zufs_eq _ [(64, 6, _), (64, 7, _), (64, 8, _), (64, 9, _), (64, 12, _), (64, 14, _)] [(64, 6, _), (64, 7, _), (64, 8, _), (64, 9, _), (64, 12, _), (64, 14, _)] [(64, 6), (64, 7), (64, 8), (64, 9), (64, 12), (64, 14)] rfl rfl ⟨rfl, rfl, rfl, rfl, rfl, rfl, trivial⟩)
  · refine zg_el h (fun hg h => zT_g hg ?_)
    refine zg_el h (fun hg h => zT_g hg ?_)
    refine zg_el h (fun hg h => zT_g hg ?_)
    refine zl_el h (fun h => zT_l ?_)
    refine zg_el h (fun hg h => zT_g hg ?_)
    refine zl_el h (fun h => zT_l ?_)
    refine zb_el h (fun hb h => zT_t hb ?_) (fun hb h => zT_f hb ?_)
    · have hz := zsi h hq
      refine zR2_hp ?_ ?_ hz
      · first | with_reducible rfl | (exact zuas_eq _ [(65, _), (68, _), (84, _), (68, _), (65, _)] [(65, _), (68, _), (84, _)] [65, 68, 84] rfl rfl ⟨rfl, rfl, rfl, trivial⟩)
      · first | with_reducible rfl | (exact zufs_eq _ [(64, 6, _), (64, 7, _), (64, 8, _), (64, 9, _), (64, 12, _), (64, 14, _)] [(64, 6, _), (64, 7, _), (64, 8, _), (64, 9, _), (64, 12, _), (64, 14, _)] [(64, 6), (64, 7), (64, 8), (64, 9), (64, 12), (64, 14)] rfl rfl ⟨rfl, rfl, rfl, rfl, rfl, rfl, trivial⟩)
    · have hz := zsi h hq
      refine zR2_hp ?_ ?_ hz
      · first | with_reducible rfl | (exact zuas_eq _ [(65, _), (68, _), (84, _), (68, _), (65, _)] [(65, _), (68, _), (84, _)] [65, 68, 84] rfl rfl ⟨rfl, rfl, rfl, trivial⟩)
      · first | with_reducible rfl | (exact zufs_eq _ [(64, 6, _), (64, 7, _), (64, 8, _), (64, 9, _), (64, 12, _), (64, 14, _)] [(64, 6, _), (64, 7, _), (64, 8, _), (64, 9, _), (64, 12, _), (64, 14, _)] [(64, 6), (64, 7), (64, 8), (64, 9), (64, 12), (64, 14)] rfl rfl ⟨rfl, rfl, rfl, rfl, rfl, rfl, trivial⟩)
set_option maxRecDepth 20000 in
theorem t54_md_town {X : Nat × (Nat → Int32)} {ar fi : Nat → Nat → Int32} {m1 m2 m3 m4 m5 : Nat} {x : Int32} {l2 : Int32} {l3 : Int32} {b65 : Nat → Int32} {b68 : Nat → Int32} {b84 : Nat → Int32} {c64_6 : Int32} {c64_7 : Int32} {c64_8 : Int32} {c64_9 : Int32} {c64_12 : Int32} {c64_14 : Int32} {W_md_in : Int32 → Int32 → Int32 → Int32} {F0_md_beginsText : Int32 → Int32} {F1_md_beginsText : Int32 → Int32} {F2_md_beginsText : Int32 → Int32} {F3_md_beginsText : Int32 → Int32} {Q_md_readsRow : Int32 → (Nat → Int32) → (Nat → Int32) → Int32 → Int32 → Int32 → Option (Int32 × (Nat → Int32) × Int32 × Int32)} {G_md_becomesWhole : Int32 → (Nat → Int32) → Bool} {A0_md_becomesWhole : Int32 → (Nat → Int32) → Nat → Int32} {G_md_isWood : Int32 → (Nat → Int32) → Bool} {W_md_isWood : Int32 → (Nat → Int32) → Int32} : zseg X zFT (zEx 143 (P_md_in W_md_in) (zEx 178 (P_md_beginsText F0_md_beginsText F1_md_beginsText F2_md_beginsText F3_md_beginsText) (zEx 186 (P_md_readsRow Q_md_readsRow) (zEx 188 (P_md_becomesWhole G_md_becomesWhole A0_md_becomesWhole) (zEx 152 (P_md_isWood G_md_isWood W_md_isWood) zE0))))) zc_187 (fun p => Nat.beq p 27 || Nat.beq p 54 || Nat.beq p 112) 400 54 [.ref 64, .int x, .int l2, .int l3] [] ((zua (zua (zua ar 65 b65) 68 b68) 84 b84), (zuf (zuf (zuf (zuf (zuf (zuf fi 64 6 c64_6) 64 7 c64_7) 64 8 c64_8) 64 9 c64_9) 64 12 c64_12) 64 14 c64_14), (m1, m2, m3, m4, m5)) = (
  bif decide (l3 = 0) then
   bif !decide (l3 = 0) then
    some (.inl (112, [.ref 64, .int x, .int l2, .int l3, .int 0, .int 0], [], ((zua (zua (zua ar 65 b65) 68 b68) 84 b84), (zuf (zuf (zuf (zuf (zuf (zuf (zuf fi 64 6 c64_6) 64 7 c64_7) 64 8 c64_8) 64 9 c64_9) 64 12 c64_12) 64 14 c64_14) 64 6 0), (m1, m2, m3, m4, m5))))
   else
    some (.inr (some (.int c64_9), ((zua (zua (zua ar 65 b65) 68 b68) 84 b84), (zuf (zuf (zuf (zuf (zuf (zuf (zuf fi 64 6 c64_6) 64 7 c64_7) 64 8 c64_8) 64 9 c64_9) 64 12 c64_12) 64 14 c64_14) 64 6 0), (m1, m2, m3, m4, m5))))
  else
   bif decide (c64_8 ≤ c64_7) then
    bif !decide (l3 = 0) then
     some (.inl (112, [.ref 64, .int x, .int l2, .int l3, .int 0, .int 0], [], ((zua (zua (zua ar 65 b65) 68 b68) 84 b84), (zuf (zuf (zuf (zuf (zuf (zuf (zuf fi 64 6 c64_6) 64 7 c64_7) 64 8 c64_8) 64 9 c64_9) 64 12 c64_12) 64 14 c64_14) 64 6 0), (m1, m2, m3, m4, m5))))
    else
     some (.inr (some (.int c64_9), ((zua (zua (zua ar 65 b65) 68 b68) 84 b84), (zuf (zuf (zuf (zuf (zuf (zuf (zuf fi 64 6 c64_6) 64 7 c64_7) 64 8 c64_8) 64 9 c64_9) 64 12 c64_12) 64 14 c64_14) 64 6 0), (m1, m2, m3, m4, m5))))
   else
    zl (Q_md_readsRow l2 (ar 70) b84 (c64_7 + 1) c64_8 c64_9) (fun v7 => zg v7.isSome (
    some (.inl (54, [.ref 64, .int x, .int (l2 + 1), .int (((zgt v7).1))], [], ((zua (zua (zua (zua ar 65 b65) 68 b68) 84 b84) 84 (((zgt v7).2.1))), (zuf (zuf (zuf (zuf (zuf (zuf (zuf (zuf (zuf fi 64 6 c64_6) 64 7 c64_7) 64 8 c64_8) 64 9 c64_9) 64 12 c64_12) 64 14 c64_14) 64 7 (c64_7 + 1)) 64 7 (((zgt v7).2.2.1))) 64 9 (((zgt v7).2.2.2))), (m1, m2, m3, m4, m5)))))) : Option ((Nat × List Value × List Value × zH2) ⊕ zO2)) := rfl
theorem k_md_town_54 {X : Nat × (Nat → Int32)} {ar fi : Nat → Nat → Int32} {m1 m2 m3 m4 m5 : Nat} {x : Int32} {b65 : Nat → Int32} {b68 : Nat → Int32} {c64_6 : Int32} {c64_8 : Int32} {c64_12 : Int32} {c64_14 : Int32} {o : zO2} : ∀ (s : U_md_town_54) (q : U_md_town_54 ⊕ T_md_town), f_md_town_54 (ar 70) b65 b68 c64_8 c64_12 c64_14 s = some q → zq (M_md_town_54 X (zEx 143 S_md_in (zEx 178 S_md_beginsText (zEx 186 S_md_readsRow (zEx 188 S_md_becomesWhole (zEx 152 S_md_isWood zE0))))) ar fi m1 m2 m3 m4 m5 x b65 b68 c64_6 c64_8 c64_12 c64_14 o) (fun t => O_md_town ar fi m1 m2 m3 m4 m5 t = o) q → M_md_town_54 X (zEx 143 S_md_in (zEx 178 S_md_beginsText (zEx 186 S_md_readsRow (zEx 188 S_md_becomesWhole (zEx 152 S_md_isWood zE0))))) ar fi m1 m2 m3 m4 m5 x b65 b68 c64_6 c64_8 c64_12 c64_14 o s := by
  intro s q h hq
  obtain ⟨l2, l3, b84, c64_7, c64_9⟩ := s
  have h : b_md_town_54 (ar 70) b65 b68 c64_8 c64_12 c64_14 l2 l3 b84 c64_7 c64_9 = some q := h
  unfold b_md_town_54 at h
  show zR2 X zFT (zEx 143 S_md_in (zEx 178 S_md_beginsText (zEx 186 S_md_readsRow (zEx 188 S_md_becomesWhole (zEx 152 S_md_isWood zE0))))) zc_187 54 [.ref 64, .int x, .int l2, .int l3] [] ((zua (zua (zua ar 65 b65) 68 b68) 84 b84), (zuf (zuf (zuf (zuf (zuf (zuf fi 64 6 c64_6) 64 7 c64_7) 64 8 c64_8) 64 9 c64_9) 64 12 c64_12) 64 14 c64_14), (m1, m2, m3, m4, m5)) o
  refine zT_seg t54_md_town ?_
  refine zb_el h (fun hb h => zT_t hb ?_) (fun hb h => zT_f hb ?_)
  · refine zb_el h (fun hb h => zT_t hb ?_) (fun hb h => zT_f hb ?_)
    · refine zbd_el h (fun r hr h => ?_)
      have hz := zsi h hq
      refine zR2_hp ?_ ?_ (zlp_K k_md_town_112 hr hz)
      · first | with_reducible rfl | (exact zuas_eq _ [(65, _), (68, _), (84, _)] [(65, _), (68, _), (84, _)] [65, 68, 84] rfl rfl ⟨rfl, rfl, rfl, trivial⟩)
      · first | with_reducible rfl | (exact zufs_eq _ [(64, 6, _), (64, 7, _), (64, 8, _), (64, 9, _), (64, 12, _), (64, 14, _), (64, 6, _)] [(64, 6, _), (64, 7, _), (64, 8, _), (64, 9, _), (64, 12, _), (64, 14, _)] [(64, 6), (64, 7), (64, 8), (64, 9), (64, 12), (64, 14)] rfl rfl ⟨rfl, rfl, rfl, rfl, rfl, rfl, trivial⟩)
    · have hz := zsi h hq
      refine (zO_mk ?_ ?_).trans hz
      · first | with_reducible rfl | (exact zuas_eq _ [(65, _), (68, _), (84, _)] [(65, _), (68, _), (84, _)] [65, 68, 84] rfl rfl ⟨rfl, rfl, rfl, trivial⟩)
      · first | with_reducible rfl | (exact zufs_eq _ [(64, 6, _), (64, 7, _), (64, 8, _), (64, 9, _), (64, 12, _), (64, 14, _), (64, 6, _)] [(64, 6, _), (64, 7, _), (64, 8, _), (64, 9, _), (64, 12, _), (64, 14, _)] [(64, 6), (64, 7), (64, 8), (64, 9), (64, 12), (64, 14)] rfl rfl ⟨rfl, rfl, rfl, rfl, rfl, rfl, trivial⟩)
  · refine zb_el h (fun hb h => zT_t hb ?_) (fun hb h => zT_f hb ?_)
    · refine zb_el h (fun hb h => zT_t hb ?_) (fun hb h => zT_f hb ?_)
      · refine zbd_el h (fun r hr h => ?_)
        have hz := zsi h hq
        refine zR2_hp ?_ ?_ (zlp_K k_md_town_112 hr hz)
        · first | with_reducible rfl | (exact zuas_eq _ [(65, _), (68, _), (84, _)] [(65, _), (68, _), (84, _)] [65, 68, 84] rfl rfl ⟨rfl, rfl, rfl, trivial⟩)
        · first | with_reducible rfl | (exact zufs_eq _ [(64, 6, _), (64, 7, _), (64, 8, _), (64, 9, _), (64, 12, _), (64, 14, _), (64, 6, _)] [(64, 6, _), (64, 7, _), (64, 8, _), (64, 9, _), (64, 12, _), (64, 14, _)] [(64, 6), (64, 7), (64, 8), (64, 9), (64, 12), (64, 14)] rfl rfl ⟨rfl, rfl, rfl, rfl, rfl, rfl, trivial⟩)
      · have hz := zsi h hq
        refine (zO_mk ?_ ?_).trans hz
        · first | with_reducible rfl | (exact zuas_eq _ [(65, _), (68, _), (84, _)] [(65, _), (68, _), (84, _)] [65, 68, 84] rfl rfl ⟨rfl, rfl, rfl, trivial⟩)
        · first | with_reducible rfl | (exact zufs_eq _ [(64, 6, _), (64, 7, _), (64, 8, _), (64, 9, _), (64, 12, _), (64, 14, _), (64, 6, _)] [(64, 6, _), (64, 7, _), (64, 8, _), (64, 9, _), (64, 12, _), (64, 14, _)] [(64, 6), (64, 7), (64, 8), (64, 9), (64, 12), (64, 14)] rfl rfl ⟨rfl, rfl, rfl, rfl, rfl, rfl, trivial⟩)
    · refine zbd_el h (fun v7 hv h => zT_c hv ?_)
      have hz := zsi h hq
      refine zR2_hp ?_ ?_ hz
      · first | with_reducible rfl | (exact zuas_eq _ [(65, _), (68, _), (84, _), (84, _)] [(65, _), (68, _), (84, _)] [65, 68, 84] rfl rfl ⟨rfl, rfl, rfl, trivial⟩)
      · first | with_reducible rfl | (exact zufs_eq _ [(64, 6, _), (64, 7, _), (64, 8, _), (64, 9, _), (64, 12, _), (64, 14, _), (64, 7, _), (64, 7, _), (64, 9, _)] [(64, 6, _), (64, 7, _), (64, 8, _), (64, 9, _), (64, 12, _), (64, 14, _)] [(64, 6), (64, 7), (64, 8), (64, 9), (64, 12), (64, 14)] rfl rfl ⟨rfl, rfl, rfl, rfl, rfl, rfl, trivial⟩)
set_option maxRecDepth 20000 in
theorem t27_md_town {X : Nat × (Nat → Int32)} {ar fi : Nat → Nat → Int32} {m1 m2 m3 m4 m5 : Nat} {x : Int32} {l2 : Int32} {b65 : Nat → Int32} {b68 : Nat → Int32} {b84 : Nat → Int32} {c64_6 : Int32} {c64_7 : Int32} {c64_8 : Int32} {c64_9 : Int32} {c64_12 : Int32} {c64_14 : Int32} {W_md_in : Int32 → Int32 → Int32 → Int32} {F0_md_beginsText : Int32 → Int32} {F1_md_beginsText : Int32 → Int32} {F2_md_beginsText : Int32 → Int32} {F3_md_beginsText : Int32 → Int32} {Q_md_readsRow : Int32 → (Nat → Int32) → (Nat → Int32) → Int32 → Int32 → Int32 → Option (Int32 × (Nat → Int32) × Int32 × Int32)} {G_md_becomesWhole : Int32 → (Nat → Int32) → Bool} {A0_md_becomesWhole : Int32 → (Nat → Int32) → Nat → Int32} {G_md_isWood : Int32 → (Nat → Int32) → Bool} {W_md_isWood : Int32 → (Nat → Int32) → Int32} : zseg X zFT (zEx 143 (P_md_in W_md_in) (zEx 178 (P_md_beginsText F0_md_beginsText F1_md_beginsText F2_md_beginsText F3_md_beginsText) (zEx 186 (P_md_readsRow Q_md_readsRow) (zEx 188 (P_md_becomesWhole G_md_becomesWhole A0_md_becomesWhole) (zEx 152 (P_md_isWood G_md_isWood W_md_isWood) zE0))))) zc_187 (fun p => Nat.beq p 27 || Nat.beq p 54 || Nat.beq p 112) 400 27 [.ref 64, .int x, .int l2] [] ((zua (zua (zua ar 65 b65) 68 b68) 84 b84), (zuf (zuf (zuf (zuf (zuf (zuf fi 64 6 c64_6) 64 7 c64_7) 64 8 c64_8) 64 9 c64_9) 64 12 c64_12) 64 14 c64_14), (m1, m2, m3, m4, m5)) = (
  bif decide (96 ≤ l2) then
   zl (Q_md_readsRow 0 (ar 70) b84 c64_7 c64_8 c64_9) (fun v6 => zg v6.isSome (
   some (.inl (54, [.ref 64, .int x, .int 1, .int (((zgt v6).1))], [], ((zua (zua (zua (zua ar 65 b65) 68 b68) 84 b84) 84 (((zgt v6).2.1))), (zuf (zuf (zuf (zuf (zuf (zuf (zuf (zuf fi 64 6 c64_6) 64 7 c64_7) 64 8 c64_8) 64 9 c64_9) 64 12 c64_12) 64 14 c64_14) 64 7 (((zgt v6).2.2.1))) 64 9 (((zgt v6).2.2.2))), (m1, m2, m3, m4, m5))))))
  else
   zg (zin l2 96) (
   some (.inl (27, [.ref 64, .int x, .int (l2 + 1)], [], ((zua (zua (zua (zua ar 65 b65) 68 b68) 84 b84) 84 (zup b84 (l2.toNatClampNeg) 0)), (zuf (zuf (zuf (zuf (zuf (zuf fi 64 6 c64_6) 64 7 c64_7) 64 8 c64_8) 64 9 c64_9) 64 12 c64_12) 64 14 c64_14), (m1, m2, m3, m4, m5))))) : Option ((Nat × List Value × List Value × zH2) ⊕ zO2)) := rfl
theorem k_md_town_27 {X : Nat × (Nat → Int32)} {ar fi : Nat → Nat → Int32} {m1 m2 m3 m4 m5 : Nat} {x : Int32} {b65 : Nat → Int32} {b68 : Nat → Int32} {c64_6 : Int32} {c64_7 : Int32} {c64_8 : Int32} {c64_9 : Int32} {c64_12 : Int32} {c64_14 : Int32} {o : zO2} : ∀ (s : U_md_town_27) (q : U_md_town_27 ⊕ T_md_town), f_md_town_27 (ar 70) b65 b68 c64_7 c64_8 c64_9 c64_12 c64_14 s = some q → zq (M_md_town_27 X (zEx 143 S_md_in (zEx 178 S_md_beginsText (zEx 186 S_md_readsRow (zEx 188 S_md_becomesWhole (zEx 152 S_md_isWood zE0))))) ar fi m1 m2 m3 m4 m5 x b65 b68 c64_6 c64_7 c64_8 c64_9 c64_12 c64_14 o) (fun t => O_md_town ar fi m1 m2 m3 m4 m5 t = o) q → M_md_town_27 X (zEx 143 S_md_in (zEx 178 S_md_beginsText (zEx 186 S_md_readsRow (zEx 188 S_md_becomesWhole (zEx 152 S_md_isWood zE0))))) ar fi m1 m2 m3 m4 m5 x b65 b68 c64_6 c64_7 c64_8 c64_9 c64_12 c64_14 o s := by
  intro s q h hq
  obtain ⟨l2, b84⟩ := s
  have h : b_md_town_27 (ar 70) b65 b68 c64_7 c64_8 c64_9 c64_12 c64_14 l2 b84 = some q := h
  unfold b_md_town_27 at h
  show zR2 X zFT (zEx 143 S_md_in (zEx 178 S_md_beginsText (zEx 186 S_md_readsRow (zEx 188 S_md_becomesWhole (zEx 152 S_md_isWood zE0))))) zc_187 27 [.ref 64, .int x, .int l2] [] ((zua (zua (zua ar 65 b65) 68 b68) 84 b84), (zuf (zuf (zuf (zuf (zuf (zuf fi 64 6 c64_6) 64 7 c64_7) 64 8 c64_8) 64 9 c64_9) 64 12 c64_12) 64 14 c64_14), (m1, m2, m3, m4, m5)) o
  refine zT_seg t27_md_town ?_
  refine zb_el h (fun hb h => zT_t hb ?_) (fun hb h => zT_f hb ?_)
  · refine zbd_el h (fun v6 hv h => zT_c hv ?_)
    refine zbd_el h (fun r hr h => ?_)
    have hz := zsi h hq
    refine zR2_hp ?_ ?_ (zlp_K k_md_town_54 hr hz)
    · first | with_reducible rfl | (exact zuas_eq _ [(65, _), (68, _), (84, _), (84, _)] [(65, _), (68, _), (84, _)] [65, 68, 84] rfl rfl ⟨rfl, rfl, rfl, trivial⟩)
    · first | with_reducible rfl | (exact zufs_eq _ [(64, 6, _), (64, 7, _), (64, 8, _), (64, 9, _), (64, 12, _), (64, 14, _), (64, 7, _), (64, 9, _)] [(64, 6, _), (64, 7, _), (64, 8, _), (64, 9, _), (64, 12, _), (64, 14, _)] [(64, 6), (64, 7), (64, 8), (64, 9), (64, 12), (64, 14)] rfl rfl ⟨rfl, rfl, rfl, rfl, rfl, rfl, trivial⟩)
  · refine zg_el h (fun hg h => zT_g hg ?_)
    have hz := zsi h hq
    refine zR2_hp ?_ ?_ hz
    · first | with_reducible rfl | (exact zuas_eq _ [(65, _), (68, _), (84, _), (84, _)] [(65, _), (68, _), (84, _)] [65, 68, 84] rfl rfl ⟨rfl, rfl, rfl, trivial⟩)
    · first | with_reducible rfl | (exact zufs_eq _ [(64, 6, _), (64, 7, _), (64, 8, _), (64, 9, _), (64, 12, _), (64, 14, _)] [(64, 6, _), (64, 7, _), (64, 8, _), (64, 9, _), (64, 12, _), (64, 14, _)] [(64, 6), (64, 7), (64, 8), (64, 9), (64, 12), (64, 14)] rfl rfl ⟨rfl, rfl, rfl, rfl, rfl, rfl, trivial⟩)
set_option maxRecDepth 20000 in
theorem t_md_town {X : Nat × (Nat → Int32)} {ar fi : Nat → Nat → Int32} {m1 m2 m3 m4 m5 : Nat} {x : Int32} {W_md_in : Int32 → Int32 → Int32 → Int32} {F0_md_beginsText : Int32 → Int32} {F1_md_beginsText : Int32 → Int32} {F2_md_beginsText : Int32 → Int32} {F3_md_beginsText : Int32 → Int32} {Q_md_readsRow : Int32 → (Nat → Int32) → (Nat → Int32) → Int32 → Int32 → Int32 → Option (Int32 × (Nat → Int32) × Int32 × Int32)} {G_md_becomesWhole : Int32 → (Nat → Int32) → Bool} {A0_md_becomesWhole : Int32 → (Nat → Int32) → Nat → Int32} {G_md_isWood : Int32 → (Nat → Int32) → Bool} {W_md_isWood : Int32 → (Nat → Int32) → Int32} : zseg X zFT (zEx 143 (P_md_in W_md_in) (zEx 178 (P_md_beginsText F0_md_beginsText F1_md_beginsText F2_md_beginsText F3_md_beginsText) (zEx 186 (P_md_readsRow Q_md_readsRow) (zEx 188 (P_md_becomesWhole G_md_becomesWhole A0_md_becomesWhole) (zEx 152 (P_md_isWood G_md_isWood W_md_isWood) zE0))))) zc_187 (fun p => Nat.beq p 27 || Nat.beq p 54 || Nat.beq p 112) 400 0 [.ref 64, .int x] [] (ar, fi, (m1, m2, m3, m4, m5)) = (
  zl (W_md_in x 1 120) (fun v1 =>
  bif decide (v1 = 0) then
   some (.inr (some (.int (-1)), (ar, fi, (m1, m2, m3, m4, m5))))
  else
   bif decide (x ≤ fi 64 6) then
    zl (F0_md_beginsText x) (fun v2 =>
    zl (F1_md_beginsText x) (fun v3 =>
    zl (F2_md_beginsText x) (fun v4 =>
    zl (F3_md_beginsText x) (fun v5 =>
    some (.inl (27, [.ref 64, .int x, .int 0], [], (ar, (zuf (zuf (zuf (zuf fi 64 7 v2) 64 8 v3) 64 12 v4) 64 14 v5), (m1, m2, m3, m4, m5))))))))
   else
    some (.inr (some (.int (-1)), (ar, fi, (m1, m2, m3, m4, m5))))) : Option ((Nat × List Value × List Value × zH2) ⊕ zO2)) := rfl
theorem e_md_town {X : Nat × (Nat → Int32)} {ar fi : Nat → Nat → Int32} {m1 m2 m3 m4 m5 : Nat} {x : Int32} {o : zO2} : ∀ (q : T_md_town), q_md_town x (ar 65) (ar 68) (ar 70) (ar 84) (fi 64 6) (fi 64 7) (fi 64 8) (fi 64 9) (fi 64 12) (fi 64 14) = some q → (fun t => O_md_town ar fi m1 m2 m3 m4 m5 t = o) q → zR2 X zFT (zEx 143 S_md_in (zEx 178 S_md_beginsText (zEx 186 S_md_readsRow (zEx 188 S_md_becomesWhole (zEx 152 S_md_isWood zE0))))) zc_187 0 [.ref 64, .int x] [] (ar, fi, (m1, m2, m3, m4, m5)) o := by
  intro q h hq
  unfold q_md_town at h
  refine zT_seg t_md_town ?_
  refine zl_el h (fun h => zT_l ?_)
  refine zb_el h (fun hb h => zT_t hb ?_) (fun hb h => zT_f hb ?_)
  · have hz := zsi h hq
    refine (zO_mk ?_ ?_).trans hz
    · first | with_reducible rfl | (exact zuas_eq _ [] [(65, _), (68, _), (84, _)] [65, 68, 84] rfl rfl ⟨rfl, rfl, rfl, trivial⟩)
    · first | with_reducible rfl | (exact zufs_eq _ [] [(64, 6, _), (64, 7, _), (64, 8, _), (64, 9, _), (64, 12, _), (64, 14, _)] [(64, 6), (64, 7), (64, 8), (64, 9), (64, 12), (64, 14)] rfl rfl ⟨rfl, rfl, rfl, rfl, rfl, rfl, trivial⟩)
  · refine zb_el h (fun hb h => zT_t hb ?_) (fun hb h => zT_f hb ?_)
    · refine zl_el h (fun h => zT_l ?_)
      refine zl_el h (fun h => zT_l ?_)
      refine zl_el h (fun h => zT_l ?_)
      refine zl_el h (fun h => zT_l ?_)
      refine zR2_hp ?_ ?_ (zlp_K k_md_town_27 h hq)
      · first | with_reducible rfl | (exact zuas_eq _ [] [(65, _), (68, _), (84, _)] [65, 68, 84] rfl rfl ⟨rfl, rfl, rfl, trivial⟩)
      · first | with_reducible rfl | (exact zufs_eq _ [(64, 7, _), (64, 8, _), (64, 12, _), (64, 14, _)] [(64, 6, _), (64, 7, _), (64, 8, _), (64, 9, _), (64, 12, _), (64, 14, _)] [(64, 6), (64, 7), (64, 8), (64, 9), (64, 12), (64, 14)] rfl rfl ⟨rfl, rfl, rfl, rfl, rfl, rfl, trivial⟩)
    · have hz := zsi h hq
      refine (zO_mk ?_ ?_).trans hz
      · first | with_reducible rfl | (exact zuas_eq _ [] [(65, _), (68, _), (84, _)] [65, 68, 84] rfl rfl ⟨rfl, rfl, rfl, trivial⟩)
      · first | with_reducible rfl | (exact zufs_eq _ [] [(64, 6, _), (64, 7, _), (64, 8, _), (64, 9, _), (64, 12, _), (64, 14, _)] [(64, 6), (64, 7), (64, 8), (64, 9), (64, 12), (64, 14)] rfl rfl ⟨rfl, rfl, rfl, rfl, rfl, rfl, trivial⟩)
theorem ok_md_town (X : Nat × (Nat → Int32)) : zOkS X 187 S_md_town 4 := zOkS_new (zOkE_cons (ok_md_in X) (by decide) (zOkE_cons (ok_md_beginsText X) (by decide) (zOkE_cons (ok_md_readsRow X) (by decide) (zOkE_cons (ok_md_becomesWhole X) (by decide) (zOkE_cons (ok_md_isWood X) (by decide) (zOkE_nil X 3)))))) (by
  intro args g o h
  obtain ⟨ar, fi, m1, m2, m3, m4, m5⟩ := g
  unfold S_md_town P_md_town at h
  split at h
  · refine zb_el h (fun hI0 k0 => ?_) (fun _ h10 => ?_)
    · try simp only [Bool.and_eq_true] at hI0
      have j0 := hI0
      have e0 := Nat.eq_of_beq_eq_true j0
      subst e0
      exact zpe_el k0 (fun t ht ho => e_md_town t ht ho)
    · cases h10
  · cases h)
abbrev T_md_readsWithin : Type := Int32 × Int32 × Int32 × Int32
abbrev U_md_readsWithin_27 : Type := Int32 × Int32
def b_md_readsWithin_27 (x : Int32) (a70 : Nat → Int32) (f64_8 : Int32) (f64_9 : Int32) (l2 : Int32) (c64_7 : Int32) (c64_10 : Int32) : Option (U_md_readsWithin_27 ⊕ T_md_readsWithin) :=
  zg (g_md_isDigit (f64_8) c64_7 a70) (
  zl (w_md_isDigit (f64_8) c64_7 a70) (fun v4 =>
  bif decide (v4 = 0) then
   bif decide (c64_10 ≤ x) then
    some (.inr (1, c64_7, f64_9, c64_10))
   else
    zl (w_md_wrongAt 3 l2) (fun v5 =>
    zl (f0_md_wrongAt 3 l2) (fun v6 =>
    bif decide (v5 = 0) then
     some (.inr (0, c64_7, v6, c64_10))
    else
     some (.inr (1, c64_7, v6, c64_10))))
  else
   bif !decide (c64_7 = l2 + 4) then
    zg (g_md_here (f64_8) c64_7 a70) (
    zl (w_md_here (f64_8) c64_7 a70) (fun v7 =>
    some (.inl (c64_7 + 1, ((10 * c64_10) + v7) - 48))))
   else
    zl (w_md_wrongAt 2 c64_7) (fun v8 =>
    zl (f0_md_wrongAt 2 c64_7) (fun v9 =>
    zg (decide (v8 = 0) || decide (v8 = 1)) (
    some (.inr (v8, c64_7, v9, c64_10)))))))
def f_md_readsWithin_27 (x : Int32) (a70 : Nat → Int32) (f64_8 : Int32) (f64_9 : Int32) (l2 : Int32) : U_md_readsWithin_27 → Option (U_md_readsWithin_27 ⊕ T_md_readsWithin) := fun s => b_md_readsWithin_27 x a70 f64_8 f64_9 l2 s.1 s.2
noncomputable def l_md_readsWithin_27 (x : Int32) (a70 : Nat → Int32) (f64_8 : Int32) (f64_9 : Int32) (l2 : Int32) (c64_7 : Int32) (c64_10 : Int32) : Option T_md_readsWithin := zlp (f_md_readsWithin_27 x a70 f64_8 f64_9 l2) (c64_7, c64_10)
noncomputable def q_md_readsWithin (x : Int32) (a70 : Nat → Int32) (f64_7 : Int32) (f64_8 : Int32) (f64_9 : Int32) (f64_10 : Int32) : Option T_md_readsWithin :=
  zg (g_md_isDigit (f64_8) (f64_7) a70) (
  zl (w_md_isDigit (f64_8) (f64_7) a70) (fun v1 =>
  bif !decide (v1 = 0) then
   l_md_readsWithin_27 x a70 f64_8 f64_9 (f64_7) (f64_7) 0
  else
   zl (w_md_wrongAt 1 (f64_7)) (fun v2 =>
   zl (f0_md_wrongAt 1 (f64_7)) (fun v3 =>
   zg (decide (v2 = 0) || decide (v2 = 1)) (
   some (v2, f64_7, v3, f64_10))))))
def P_md_readsWithin (Q : Int32 → (Nat → Int32) → Int32 → Int32 → Int32 → Int32 → Option (Int32 × Int32 × Int32 × Int32)) : zSp := fun as g => match as with
  | [.ref a, .int x] => bif Nat.beq a 64 then zpe (Q x (g.1 70) (g.2.1 64 7) (g.2.1 64 8) (g.2.1 64 9) (g.2.1 64 10)) (fun t => (some (.int (t.1)), (g.1, (zuf (zuf (zuf g.2.1 64 7 t.2.1) 64 9 t.2.2.1) 64 10 t.2.2.2), g.2.2))) else none
  | _ => none
noncomputable abbrev S_md_readsWithin : zSp := P_md_readsWithin q_md_readsWithin
def O_md_readsWithin (ar fi : Nat → Nat → Int32) (m1 : Nat) (m2 : Nat) (m3 : Nat) (m4 : Nat) (m5 : Nat) (t : T_md_readsWithin) : zO2 := (some (.int (t.1)), (ar, (zuf (zuf (zuf fi 64 7 t.2.1) 64 9 t.2.2.1) 64 10 t.2.2.2), (m1, m2, m3, m4, m5)))
def M_md_readsWithin_27 (X : Nat × (Nat → Int32)) (E : zTE) (ar fi : Nat → Nat → Int32) (m1 : Nat) (m2 : Nat) (m3 : Nat) (m4 : Nat) (m5 : Nat) (x : Int32) (l2 : Int32) (o : zO2) (s : U_md_readsWithin_27) : Prop := zR2 X zFT E zc_189 27 [.ref 64, .int x, .int l2] [] (ar, (zuf (zuf fi 64 7 s.1) 64 10 s.2), (m1, m2, m3, m4, m5)) o
set_option maxRecDepth 20000 in
theorem t27_md_readsWithin {X : Nat × (Nat → Int32)} {ar fi : Nat → Nat → Int32} {m1 m2 m3 m4 m5 : Nat} {x : Int32} {l2 : Int32} {c64_7 : Int32} {c64_10 : Int32} {G_md_isDigit : Int32 → Int32 → (Nat → Int32) → Bool} {W_md_isDigit : Int32 → Int32 → (Nat → Int32) → Int32} {W_md_wrongAt : Int32 → Int32 → Int32} {F0_md_wrongAt : Int32 → Int32 → Int32} {G_md_here : Int32 → Int32 → (Nat → Int32) → Bool} {W_md_here : Int32 → Int32 → (Nat → Int32) → Int32} : zseg X zFT (zEx 159 (P_md_isDigit G_md_isDigit W_md_isDigit) (zEx 160 (P_md_wrongAt W_md_wrongAt F0_md_wrongAt) (zEx 158 (P_md_here G_md_here W_md_here) zE0))) zc_189 (fun p => Nat.beq p 27) 400 27 [.ref 64, .int x, .int l2] [] (ar, (zuf (zuf fi 64 7 c64_7) 64 10 c64_10), (m1, m2, m3, m4, m5)) = (
  zg (G_md_isDigit (fi 64 8) c64_7 (ar 70)) (
  zl (W_md_isDigit (fi 64 8) c64_7 (ar 70)) (fun v4 =>
  bif decide (v4 = 0) then
   bif decide (c64_10 ≤ x) then
    some (.inr (some (.int 1), (ar, (zuf (zuf fi 64 7 c64_7) 64 10 c64_10), (m1, m2, m3, m4, m5))))
   else
    zl (W_md_wrongAt 3 l2) (fun v5 =>
    zl (F0_md_wrongAt 3 l2) (fun v6 =>
    bif decide (v5 = 0) then
     some (.inr (some (.int 0), (ar, (zuf (zuf (zuf fi 64 7 c64_7) 64 10 c64_10) 64 9 v6), (m1, m2, m3, m4, m5))))
    else
     some (.inr (some (.int 1), (ar, (zuf (zuf (zuf fi 64 7 c64_7) 64 10 c64_10) 64 9 v6), (m1, m2, m3, m4, m5))))))
  else
   bif !decide (c64_7 = l2 + 4) then
    zg (G_md_here (fi 64 8) c64_7 (ar 70)) (
    zl (W_md_here (fi 64 8) c64_7 (ar 70)) (fun v7 =>
    some (.inl (27, [.ref 64, .int x, .int l2], [], (ar, (zuf (zuf (zuf (zuf fi 64 7 c64_7) 64 10 c64_10) 64 10 (((10 * c64_10) + v7) - 48)) 64 7 (c64_7 + 1)), (m1, m2, m3, m4, m5))))))
   else
    zl (W_md_wrongAt 2 c64_7) (fun v8 =>
    zl (F0_md_wrongAt 2 c64_7) (fun v9 =>
    zg (decide (v8 = 0) || decide (v8 = 1)) (
    some (.inr (some (.int v8), (ar, (zuf (zuf (zuf fi 64 7 c64_7) 64 10 c64_10) 64 9 v9), (m1, m2, m3, m4, m5))))))))) : Option ((Nat × List Value × List Value × zH2) ⊕ zO2)) := rfl
theorem k_md_readsWithin_27 {X : Nat × (Nat → Int32)} {ar fi : Nat → Nat → Int32} {m1 m2 m3 m4 m5 : Nat} {x : Int32} {l2 : Int32} {o : zO2} : ∀ (s : U_md_readsWithin_27) (q : U_md_readsWithin_27 ⊕ T_md_readsWithin), f_md_readsWithin_27 x (ar 70) (fi 64 8) (fi 64 9) l2 s = some q → zq (M_md_readsWithin_27 X (zEx 159 S_md_isDigit (zEx 160 S_md_wrongAt (zEx 158 S_md_here zE0))) ar fi m1 m2 m3 m4 m5 x l2 o) (fun t => O_md_readsWithin ar fi m1 m2 m3 m4 m5 t = o) q → M_md_readsWithin_27 X (zEx 159 S_md_isDigit (zEx 160 S_md_wrongAt (zEx 158 S_md_here zE0))) ar fi m1 m2 m3 m4 m5 x l2 o s := by
  intro s q h hq
  obtain ⟨c64_7, c64_10⟩ := s
  have h : b_md_readsWithin_27 x (ar 70) (fi 64 8) (fi 64 9) l2 c64_7 c64_10 = some q := h
  unfold b_md_readsWithin_27 at h
  show zR2 X zFT (zEx 159 S_md_isDigit (zEx 160 S_md_wrongAt (zEx 158 S_md_here zE0))) zc_189 27 [.ref 64, .int x, .int l2] [] (ar, (zuf (zuf fi 64 7 c64_7) 64 10 c64_10), (m1, m2, m3, m4, m5)) o
  refine zT_seg t27_md_readsWithin ?_
  refine zg_el h (fun hg h => zT_g hg ?_)
  refine zl_el h (fun h => zT_l ?_)
  refine zb_el h (fun hb h => zT_t hb ?_) (fun hb h => zT_f hb ?_)
  · refine zb_el h (fun hb h => zT_t hb ?_) (fun hb h => zT_f hb ?_)
    · have hz := zsi h hq
      refine (zO_mk ?_ ?_).trans hz
      · first | with_reducible rfl | (rfl)
      · first | with_reducible rfl | (exact zufs_eq _ [(64, 7, _), (64, 10, _)] [(64, 7, _), (64, 9, _), (64, 10, _)] [(64, 7), (64, 9), (64, 10)] rfl rfl ⟨rfl, rfl, rfl, trivial⟩)
    · refine zl_el h (fun h => zT_l ?_)
      refine zl_el h (fun h => zT_l ?_)
      refine zb_el h (fun hb h => zT_t hb ?_) (fun hb h => zT_f hb ?_)
      · have hz := zsi h hq
        refine (zO_mk ?_ ?_).trans hz
        · first | with_reducible rfl | (rfl)
        · first | with_reducible rfl | (exact zufs_eq _ [(64, 7, _), (64, 10, _), (64, 9, _)] [(64, 7, _), (64, 9, _), (64, 10, _)] [(64, 7), (64, 9), (64, 10)] rfl rfl ⟨rfl, rfl, rfl, trivial⟩)
      · have hz := zsi h hq
        refine (zO_mk ?_ ?_).trans hz
        · first | with_reducible rfl | (rfl)
        · first | with_reducible rfl | (exact zufs_eq _ [(64, 7, _), (64, 10, _), (64, 9, _)] [(64, 7, _), (64, 9, _), (64, 10, _)] [(64, 7), (64, 9), (64, 10)] rfl rfl ⟨rfl, rfl, rfl, trivial⟩)
  · refine zb_el h (fun hb h => zT_t hb ?_) (fun hb h => zT_f hb ?_)
    · refine zg_el h (fun hg h => zT_g hg ?_)
      refine zl_el h (fun h => zT_l ?_)
      have hz := zsi h hq
      refine zR2_hp ?_ ?_ hz
      · first | with_reducible rfl | (rfl)
      · first | with_reducible rfl | (exact zufs_eq _ [(64, 7, _), (64, 10, _), (64, 10, _), (64, 7, _)] [(64, 7, _), (64, 10, _)] [(64, 7), (64, 10)] rfl rfl ⟨rfl, rfl, trivial⟩)
    · refine zl_el h (fun h => zT_l ?_)
      refine zl_el h (fun h => zT_l ?_)
      refine zg_el h (fun hg h => zT_g hg ?_)
      have hz := zsi h hq
      refine (zO_mk ?_ ?_).trans hz
      · first | with_reducible rfl | (rfl)
      · first | with_reducible rfl | (exact zufs_eq _ [(64, 7, _), (64, 10, _), (64, 9, _)] [(64, 7, _), (64, 9, _), (64, 10, _)] [(64, 7), (64, 9), (64, 10)] rfl rfl ⟨rfl, rfl, rfl, trivial⟩)
set_option maxRecDepth 20000 in
theorem t_md_readsWithin {X : Nat × (Nat → Int32)} {ar fi : Nat → Nat → Int32} {m1 m2 m3 m4 m5 : Nat} {x : Int32} {G_md_isDigit : Int32 → Int32 → (Nat → Int32) → Bool} {W_md_isDigit : Int32 → Int32 → (Nat → Int32) → Int32} {W_md_wrongAt : Int32 → Int32 → Int32} {F0_md_wrongAt : Int32 → Int32 → Int32} {G_md_here : Int32 → Int32 → (Nat → Int32) → Bool} {W_md_here : Int32 → Int32 → (Nat → Int32) → Int32} : zseg X zFT (zEx 159 (P_md_isDigit G_md_isDigit W_md_isDigit) (zEx 160 (P_md_wrongAt W_md_wrongAt F0_md_wrongAt) (zEx 158 (P_md_here G_md_here W_md_here) zE0))) zc_189 (fun p => Nat.beq p 27) 400 0 [.ref 64, .int x] [] (ar, fi, (m1, m2, m3, m4, m5)) = (
  zg (G_md_isDigit (fi 64 8) (fi 64 7) (ar 70)) (
  zl (W_md_isDigit (fi 64 8) (fi 64 7) (ar 70)) (fun v1 =>
  bif !decide (v1 = 0) then
   some (.inl (27, [.ref 64, .int x, .int (fi 64 7)], [], (ar, (zuf fi 64 10 0), (m1, m2, m3, m4, m5))))
  else
   zl (W_md_wrongAt 1 (fi 64 7)) (fun v2 =>
   zl (F0_md_wrongAt 1 (fi 64 7)) (fun v3 =>
   zg (decide (v2 = 0) || decide (v2 = 1)) (
   some (.inr (some (.int v2), (ar, (zuf fi 64 9 v3), (m1, m2, m3, m4, m5))))))))) : Option ((Nat × List Value × List Value × zH2) ⊕ zO2)) := rfl
theorem e_md_readsWithin {X : Nat × (Nat → Int32)} {ar fi : Nat → Nat → Int32} {m1 m2 m3 m4 m5 : Nat} {x : Int32} {o : zO2} : ∀ (q : T_md_readsWithin), q_md_readsWithin x (ar 70) (fi 64 7) (fi 64 8) (fi 64 9) (fi 64 10) = some q → (fun t => O_md_readsWithin ar fi m1 m2 m3 m4 m5 t = o) q → zR2 X zFT (zEx 159 S_md_isDigit (zEx 160 S_md_wrongAt (zEx 158 S_md_here zE0))) zc_189 0 [.ref 64, .int x] [] (ar, fi, (m1, m2, m3, m4, m5)) o := by
  intro q h hq
  unfold q_md_readsWithin at h
  refine zT_seg t_md_readsWithin ?_
  refine zg_el h (fun hg h => zT_g hg ?_)
  refine zl_el h (fun h => zT_l ?_)
  refine zb_el h (fun hb h => zT_t hb ?_) (fun hb h => zT_f hb ?_)
  · refine zR2_hp ?_ ?_ (zlp_K k_md_readsWithin_27 h hq)
    · first | with_reducible rfl | (rfl)
    · first | with_reducible rfl | (exact zufs_eq _ [(64, 10, _)] [(64, 7, _), (64, 10, _)] [(64, 7), (64, 10)] rfl rfl ⟨rfl, rfl, trivial⟩)
  · refine zl_el h (fun h => zT_l ?_)
    refine zl_el h (fun h => zT_l ?_)
    refine zg_el h (fun hg h => zT_g hg ?_)
    have hz := zsi h hq
    refine (zO_mk ?_ ?_).trans hz
    · first | with_reducible rfl | (rfl)
    · first | with_reducible rfl | (exact zufs_eq _ [(64, 9, _)] [(64, 7, _), (64, 9, _), (64, 10, _)] [(64, 7), (64, 9), (64, 10)] rfl rfl ⟨rfl, rfl, rfl, trivial⟩)
theorem ok_md_readsWithin (X : Nat × (Nat → Int32)) : zOkS X 189 S_md_readsWithin 3 := zOkS_new (zOkE_cons (ok_md_isDigit X) (by decide) (zOkE_cons (ok_md_wrongAt X) (by decide) (zOkE_cons (ok_md_here X) (by decide) (zOkE_nil X 2)))) (by
  intro args g o h
  obtain ⟨ar, fi, m1, m2, m3, m4, m5⟩ := g
  unfold S_md_readsWithin P_md_readsWithin at h
  split at h
  · refine zb_el h (fun hI0 k0 => ?_) (fun _ h10 => ?_)
    · try simp only [Bool.and_eq_true] at hI0
      have j0 := hI0
      have e0 := Nat.eq_of_beq_eq_true j0
      subst e0
      exact zpe_el k0 (fun t ht ho => e_md_readsWithin t ht ho)
    · cases h10
  · cases h)
abbrev T_md_readsSpot : Type := Int32 × Int32 × Int32 × Int32 × Int32 × Int32
noncomputable def q_md_readsSpot (a70 : Nat → Int32) (f64_7 : Int32) (f64_8 : Int32) (f64_9 : Int32) (f64_10 : Int32) (f64_31 : Int32) : Option T_md_readsSpot :=
  zbd (q_md_readsWithin 11 a70 (f64_7) (f64_8) (f64_9) (f64_10)) (fun v1 =>
  bif !decide ((v1.1) = 0) then
   zg (g_md_takes 44 (f64_8) ((v1.2.1)) a70 ((v1.2.2.1))) (
   zl (w_md_takes 44 (f64_8) ((v1.2.1)) a70 ((v1.2.2.1))) (fun v2 =>
   zl (f0_md_takes 44 (f64_8) ((v1.2.1)) a70 ((v1.2.2.1))) (fun v3 =>
   zl (f1_md_takes 44 (f64_8) ((v1.2.1)) a70 ((v1.2.2.1))) (fun v4 =>
   bif decide (v2 = 0) then
    some (0, v3, v4, (v1.2.2.2), f64_31, f64_7)
   else
    zbd (q_md_readsWithin 7 a70 v3 (f64_8) v4 ((v1.2.2.2))) (fun v5 =>
    bif !decide ((v5.1) = 0) then
     some (1, (v5.2.1), (v5.2.2.1), (v5.2.2.2), (12 * ((v5.2.2.2))) + ((v1.2.2.2)), f64_7)
    else
     some (0, (v5.2.1), (v5.2.2.1), (v5.2.2.2), f64_31, f64_7))))))
  else
   some (0, (v1.2.1), (v1.2.2.1), (v1.2.2.2), f64_31, f64_7))
def P_md_readsSpot (Q : (Nat → Int32) → Int32 → Int32 → Int32 → Int32 → Int32 → Option (Int32 × Int32 × Int32 × Int32 × Int32 × Int32)) : zSp := fun as g => match as with
  | [.ref a] => bif Nat.beq a 64 then zpe (Q (g.1 70) (g.2.1 64 7) (g.2.1 64 8) (g.2.1 64 9) (g.2.1 64 10) (g.2.1 64 31)) (fun t => (some (.int (t.1)), (g.1, (zuf (zuf (zuf (zuf (zuf g.2.1 64 7 t.2.1) 64 9 t.2.2.1) 64 10 t.2.2.2.1) 64 31 t.2.2.2.2.1) 64 32 t.2.2.2.2.2), g.2.2))) else none
  | _ => none
noncomputable abbrev S_md_readsSpot : zSp := P_md_readsSpot q_md_readsSpot
def O_md_readsSpot (ar fi : Nat → Nat → Int32) (m1 : Nat) (m2 : Nat) (m3 : Nat) (m4 : Nat) (m5 : Nat) (t : T_md_readsSpot) : zO2 := (some (.int (t.1)), (ar, (zuf (zuf (zuf (zuf (zuf fi 64 7 t.2.1) 64 9 t.2.2.1) 64 10 t.2.2.2.1) 64 31 t.2.2.2.2.1) 64 32 t.2.2.2.2.2), (m1, m2, m3, m4, m5)))
set_option maxRecDepth 20000 in
theorem t_md_readsSpot {X : Nat × (Nat → Int32)} {ar fi : Nat → Nat → Int32} {m1 m2 m3 m4 m5 : Nat} {Q_md_readsWithin : Int32 → (Nat → Int32) → Int32 → Int32 → Int32 → Int32 → Option (Int32 × Int32 × Int32 × Int32)} {G_md_takes : Int32 → Int32 → Int32 → (Nat → Int32) → Int32 → Bool} {W_md_takes : Int32 → Int32 → Int32 → (Nat → Int32) → Int32 → Int32} {F0_md_takes : Int32 → Int32 → Int32 → (Nat → Int32) → Int32 → Int32} {F1_md_takes : Int32 → Int32 → Int32 → (Nat → Int32) → Int32 → Int32} : zseg X zFT (zEx 189 (P_md_readsWithin Q_md_readsWithin) (zEx 161 (P_md_takes G_md_takes W_md_takes F0_md_takes F1_md_takes) zE0)) zc_190 (fun p => false) 400 0 [.ref 64] [] (ar, fi, (m1, m2, m3, m4, m5)) = (
  zl (Q_md_readsWithin 11 (ar 70) (fi 64 7) (fi 64 8) (fi 64 9) (fi 64 10)) (fun v1 => zg v1.isSome (
  bif !decide (((zgt v1).1) = 0) then
   zg (G_md_takes 44 (fi 64 8) (((zgt v1).2.1)) (ar 70) (((zgt v1).2.2.1))) (
   zl (W_md_takes 44 (fi 64 8) (((zgt v1).2.1)) (ar 70) (((zgt v1).2.2.1))) (fun v2 =>
   zl (F0_md_takes 44 (fi 64 8) (((zgt v1).2.1)) (ar 70) (((zgt v1).2.2.1))) (fun v3 =>
   zl (F1_md_takes 44 (fi 64 8) (((zgt v1).2.1)) (ar 70) (((zgt v1).2.2.1))) (fun v4 =>
   bif decide (v2 = 0) then
    some (.inr (some (.int 0), (ar, (zuf (zuf (zuf (zuf (zuf (zuf fi 64 32 (fi 64 7)) 64 7 (((zgt v1).2.1))) 64 9 (((zgt v1).2.2.1))) 64 10 (((zgt v1).2.2.2))) 64 7 v3) 64 9 v4), (m1, m2, m3, m4, m5))))
   else
    zl (Q_md_readsWithin 7 (ar 70) v3 (fi 64 8) v4 (((zgt v1).2.2.2))) (fun v5 => zg v5.isSome (
    bif !decide (((zgt v5).1) = 0) then
     some (.inr (some (.int 1), (ar, (zuf (zuf (zuf (zuf (zuf (zuf (zuf (zuf (zuf (zuf fi 64 32 (fi 64 7)) 64 7 (((zgt v1).2.1))) 64 9 (((zgt v1).2.2.1))) 64 10 (((zgt v1).2.2.2))) 64 7 v3) 64 9 v4) 64 7 (((zgt v5).2.1))) 64 9 (((zgt v5).2.2.1))) 64 10 (((zgt v5).2.2.2))) 64 31 ((12 * (((zgt v5).2.2.2))) + (((zgt v1).2.2.2)))), (m1, m2, m3, m4, m5))))
    else
     some (.inr (some (.int 0), (ar, (zuf (zuf (zuf (zuf (zuf (zuf (zuf (zuf (zuf fi 64 32 (fi 64 7)) 64 7 (((zgt v1).2.1))) 64 9 (((zgt v1).2.2.1))) 64 10 (((zgt v1).2.2.2))) 64 7 v3) 64 9 v4) 64 7 (((zgt v5).2.1))) 64 9 (((zgt v5).2.2.1))) 64 10 (((zgt v5).2.2.2))), (m1, m2, m3, m4, m5))))))))))
  else
   some (.inr (some (.int 0), (ar, (zuf (zuf (zuf (zuf fi 64 32 (fi 64 7)) 64 7 (((zgt v1).2.1))) 64 9 (((zgt v1).2.2.1))) 64 10 (((zgt v1).2.2.2))), (m1, m2, m3, m4, m5)))))) : Option ((Nat × List Value × List Value × zH2) ⊕ zO2)) := rfl
theorem e_md_readsSpot {X : Nat × (Nat → Int32)} {ar fi : Nat → Nat → Int32} {m1 m2 m3 m4 m5 : Nat} {o : zO2} : ∀ (q : T_md_readsSpot), q_md_readsSpot (ar 70) (fi 64 7) (fi 64 8) (fi 64 9) (fi 64 10) (fi 64 31) = some q → (fun t => O_md_readsSpot ar fi m1 m2 m3 m4 m5 t = o) q → zR2 X zFT (zEx 189 S_md_readsWithin (zEx 161 S_md_takes zE0)) zc_190 0 [.ref 64] [] (ar, fi, (m1, m2, m3, m4, m5)) o := by
  intro q h hq
  unfold q_md_readsSpot at h
  refine zT_seg t_md_readsSpot ?_
  refine zbd_el h (fun v1 hv h => zT_c hv ?_)
  refine zb_el h (fun hb h => zT_t hb ?_) (fun hb h => zT_f hb ?_)
  · refine zg_el h (fun hg h => zT_g hg ?_)
    refine zl_el h (fun h => zT_l ?_)
    refine zl_el h (fun h => zT_l ?_)
    refine zl_el h (fun h => zT_l ?_)
    refine zb_el h (fun hb h => zT_t hb ?_) (fun hb h => zT_f hb ?_)
    · have hz := zsi h hq
      refine (zO_mk ?_ ?_).trans hz
      · first | with_reducible rfl | (rfl)
      · first | with_reducible rfl | (exact zufs_eq _ [(64, 32, _), (64, 7, _), (64, 9, _), (64, 10, _), (64, 7, _), (64, 9, _)] [(64, 7, _), (64, 9, _), (64, 10, _), (64, 31, _), (64, 32, _)] [(64, 7), (64, 9), (64, 10), (64, 31), (64, 32)] rfl rfl ⟨rfl, rfl, rfl, rfl, rfl, trivial⟩)
    · refine zbd_el h (fun v5 hv h => zT_c hv ?_)
      refine zb_el h (fun hb h => zT_t hb ?_) (fun hb h => zT_f hb ?_)
      · have hz := zsi h hq
        refine (zO_mk ?_ ?_).trans hz
        · first | with_reducible rfl | (rfl)
        · first | with_reducible rfl | (exact zufs_eq _ [(64, 32, _), (64, 7, _), (64, 9, _), (64, 10, _), (64, 7, _), (64, 9, _), (64, 7, _), (64, 9, _), (64, 10, _), (64, 31, _)] [(64, 7, _), (64, 9, _), (64, 10, _), (64, 31, _), (64, 32, _)] [(64, 7), (64, 9), (64, 10), (64, 31), (64, 32)] rfl rfl ⟨rfl, rfl, rfl, rfl, rfl, trivial⟩)
      · have hz := zsi h hq
        refine (zO_mk ?_ ?_).trans hz
        · first | with_reducible rfl | (rfl)
        · first | with_reducible rfl | (exact zufs_eq _ [(64, 32, _), (64, 7, _), (64, 9, _), (64, 10, _), (64, 7, _), (64, 9, _), (64, 7, _), (64, 9, _), (64, 10, _)] [(64, 7, _), (64, 9, _), (64, 10, _), (64, 31, _), (64, 32, _)] [(64, 7), (64, 9), (64, 10), (64, 31), (64, 32)] rfl rfl ⟨rfl, rfl, rfl, rfl, rfl, trivial⟩)
  · have hz := zsi h hq
    refine (zO_mk ?_ ?_).trans hz
    · first | with_reducible rfl | (rfl)
    · first | with_reducible rfl | (exact zufs_eq _ [(64, 32, _), (64, 7, _), (64, 9, _), (64, 10, _)] [(64, 7, _), (64, 9, _), (64, 10, _), (64, 31, _), (64, 32, _)] [(64, 7), (64, 9), (64, 10), (64, 31), (64, 32)] rfl rfl ⟨rfl, rfl, rfl, rfl, rfl, trivial⟩)
theorem ok_md_readsSpot (X : Nat × (Nat → Int32)) : zOkS X 190 S_md_readsSpot 4 := zOkS_new (zOkE_cons (ok_md_readsWithin X) (by decide) (zOkE_cons (ok_md_takes X) (by decide) (zOkE_nil X 3))) (by
  intro args g o h
  obtain ⟨ar, fi, m1, m2, m3, m4, m5⟩ := g
  unfold S_md_readsSpot P_md_readsSpot at h
  split at h
  · refine zb_el h (fun hI0 k0 => ?_) (fun _ h10 => ?_)
    · try simp only [Bool.and_eq_true] at hI0
      have j0 := hI0
      have e0 := Nat.eq_of_beq_eq_true j0
      subst e0
      exact zpe_el k0 (fun t ht ho => e_md_readsSpot t ht ho)
    · cases h10
  · cases h)
