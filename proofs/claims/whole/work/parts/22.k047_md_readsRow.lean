abbrev T_md_readsRow : Type := Int32 × (Nat → Int32) × Int32 × Int32
abbrev U_md_readsRow_27 : Type := Int32 × Int32 × (Nat → Int32) × Int32
abbrev U_md_readsRow_129 : Type := Int32 × (Nat → Int32)
def b_md_readsRow_129 (x : Int32) (a70 : Nat → Int32) (f64_8 : Int32) (l2 : Int32) (l5 : Int32) (l6 : Int32) (c64_7 : Int32) (l7 : Int32) (b84 : Nat → Int32) : Option (U_md_readsRow_129 ⊕ (U_md_readsRow_27 ⊕ T_md_readsRow)) :=
  bif decide (l5 ≤ l7) then
   bif decide (f64_8 ≤ c64_7) then
    some (.inr (.inl (l2 + l5, 0, b84, c64_7)))
   else
    zg (g_md_here (f64_8) c64_7 a70) (
    zl (w_md_here (f64_8) c64_7 a70) (fun v19 =>
    bif decide (v19 = 47) then
     some (.inr (.inl (l2 + l5, 0, b84, c64_7)))
    else
     some (.inr (.inl (l2 + l5, 1, b84, c64_7)))))
  else
   zg (zin (((12 * x) + l2) + l7) 96) (
   some (.inl (l7 + 1, (zup b84 ((((12 * x) + l2) + l7).toNatClampNeg) l6))))
def f_md_readsRow_129 (x : Int32) (a70 : Nat → Int32) (f64_8 : Int32) (l2 : Int32) (l5 : Int32) (l6 : Int32) (c64_7 : Int32) : U_md_readsRow_129 → Option (U_md_readsRow_129 ⊕ (U_md_readsRow_27 ⊕ T_md_readsRow)) := fun s => b_md_readsRow_129 x a70 f64_8 l2 l5 l6 c64_7 s.1 s.2
noncomputable def l_md_readsRow_129 (x : Int32) (a70 : Nat → Int32) (f64_8 : Int32) (l2 : Int32) (l5 : Int32) (l6 : Int32) (c64_7 : Int32) (l7 : Int32) (b84 : Nat → Int32) : Option (U_md_readsRow_27 ⊕ T_md_readsRow) := zlp (f_md_readsRow_129 x a70 f64_8 l2 l5 l6 c64_7) (l7, b84)
noncomputable def b_md_readsRow_27 (x : Int32) (a70 : Nat → Int32) (f64_8 : Int32) (f64_9 : Int32) (l2 : Int32) (l3 : Int32) (b84 : Nat → Int32) (c64_7 : Int32) : Option (U_md_readsRow_27 ⊕ T_md_readsRow) :=
  bif decide (l3 = 0) then
   some (.inr (1, b84, c64_7, f64_9))
  else
   zg (g_md_here (f64_8) c64_7 a70) (
   zl (w_md_here (f64_8) c64_7 a70) (fun v4 =>
   zl (w_md_in v4 50 57) (fun v5 =>
   bif decide (v5 = 0) then
    zg (g_md_here (f64_8) c64_7 a70) (
    zl (w_md_here (f64_8) c64_7 a70) (fun v6 =>
    zl (w_md_kindBy v6) (fun v7 =>
    bif !decide (v7 = (-1)) then
     bif decide (l2 + 1 ≤ 12) then
      l_md_readsRow_129 x a70 f64_8 l2 1 v7 (c64_7 + 1) 0 b84
     else
      zl (w_md_wrongAt 6 c64_7) (fun v8 =>
      zl (f0_md_wrongAt 6 c64_7) (fun v9 =>
      zg (decide (v8 = 0) || decide (v8 = 1)) (
      some (.inr (v8, b84, c64_7, v9)))))
    else
     zl (w_md_wrongAt 1 c64_7) (fun v10 =>
     zl (f0_md_wrongAt 1 c64_7) (fun v11 =>
     zg (decide (v10 = 0) || decide (v10 = 1)) (
     some (.inr (v10, b84, c64_7, v11))))))))
   else
    zg (g_md_here (f64_8) c64_7 a70) (
    zl (w_md_here (f64_8) c64_7 a70) (fun v12 =>
    zg (g_md_here (f64_8) (c64_7 + 1) a70) (
    zl (w_md_here (f64_8) (c64_7 + 1) a70) (fun v13 =>
    zl (w_md_kindBy v13) (fun v14 =>
    bif !decide (v14 = (-1)) then
     bif decide (l2 + (v12 - 48) ≤ 12) then
      l_md_readsRow_129 x a70 f64_8 l2 (v12 - 48) v14 ((c64_7 + 1) + 1) 0 b84
     else
      zl (w_md_wrongAt 6 c64_7) (fun v15 =>
      zl (f0_md_wrongAt 6 c64_7) (fun v16 =>
      zg (decide (v15 = 0) || decide (v15 = 1)) (
      some (.inr (v15, b84, c64_7 + 1, v16)))))
    else
     zl (w_md_wrongAt 1 (c64_7 + 1)) (fun v17 =>
     zl (f0_md_wrongAt 1 (c64_7 + 1)) (fun v18 =>
     zg (decide (v17 = 0) || decide (v17 = 1)) (
     some (.inr (v17, b84, c64_7 + 1, v18)))))))))))))
noncomputable def f_md_readsRow_27 (x : Int32) (a70 : Nat → Int32) (f64_8 : Int32) (f64_9 : Int32) : U_md_readsRow_27 → Option (U_md_readsRow_27 ⊕ T_md_readsRow) := fun s => b_md_readsRow_27 x a70 f64_8 f64_9 s.1 s.2.1 s.2.2.1 s.2.2.2
noncomputable def l_md_readsRow_27 (x : Int32) (a70 : Nat → Int32) (f64_8 : Int32) (f64_9 : Int32) (l2 : Int32) (l3 : Int32) (b84 : Nat → Int32) (c64_7 : Int32) : Option T_md_readsRow := zlp (f_md_readsRow_27 x a70 f64_8 f64_9) (l2, l3, b84, c64_7)
noncomputable def q_md_readsRow (x : Int32) (a70 : Nat → Int32) (a84 : Nat → Int32) (f64_7 : Int32) (f64_8 : Int32) (f64_9 : Int32) : Option T_md_readsRow :=
  bif !decide (x = 8) then
   l_md_readsRow_27 x a70 f64_8 f64_9 0 1 a84 (f64_7)
  else
   zg (g_md_canBeginRow (f64_8) (f64_7) a70) (
   zl (w_md_canBeginRow (f64_8) (f64_7) a70) (fun v1 =>
   bif decide (v1 = 0) then
    l_md_readsRow_27 x a70 f64_8 f64_9 0 1 a84 (f64_7)
   else
    zl (w_md_wrongAt 4 (f64_7)) (fun v2 =>
    zl (f0_md_wrongAt 4 (f64_7)) (fun v3 =>
    zg (decide (v2 = 0) || decide (v2 = 1)) (
    some (v2, a84, f64_7, v3))))))
def P_md_readsRow (Q : Int32 → (Nat → Int32) → (Nat → Int32) → Int32 → Int32 → Int32 → Option (Int32 × (Nat → Int32) × Int32 × Int32)) : zSp := fun as g => match as with
  | [.ref a, .int x] => bif Nat.beq a 64 then zpe (Q x (g.1 70) (g.1 84) (g.2.1 64 7) (g.2.1 64 8) (g.2.1 64 9)) (fun t => (some (.int (t.1)), ((zua g.1 84 t.2.1), (zuf (zuf g.2.1 64 7 t.2.2.1) 64 9 t.2.2.2), g.2.2))) else none
  | _ => none
noncomputable abbrev S_md_readsRow : zSp := P_md_readsRow q_md_readsRow
theorem hF10_md_readsRow (F : Nat → Nat → Int32) (w0 : Int32) : (zuf F 64 9 w0) = (zuf (zuf F 64 7 (F 64 7)) 64 9 w0) := zufk_ix F [((64, 9), w0)] [((64, 7), none), ((64, 9), some 0)] rfl
theorem hF9_md_readsRow (F : Nat → Nat → Int32) : F = (zuf F 64 7 (F 64 7)) := zufk_ix F [] [((64, 7), none)] rfl
theorem hA8_md_readsRow (F : Nat → Nat → Int32) : F = (zua F 84 (F 84)) := zuak_ix F [] [(84, none)] rfl
theorem hF7_md_readsRow (F : Nat → Nat → Int32) (w0 w1 w2 : Int32) : (zuf (zuf (zuf F 64 7 w0) 64 7 w1) 64 9 w2) = (zuf (zuf F 64 7 w1) 64 9 w2) := zufk_ix F [((64, 7), w0), ((64, 7), w1), ((64, 9), w2)] [((64, 7), some 1), ((64, 9), some 2)] rfl
theorem hF6_md_readsRow (F : Nat → Nat → Int32) (w0 w1 w2 : Int32) : (zuf (zuf (zuf F 64 7 w0) 64 7 w1) 64 7 w2) = (zuf F 64 7 w2) := zufk_ix F [((64, 7), w0), ((64, 7), w1), ((64, 7), w2)] [((64, 7), some 2)] rfl
theorem hF5_md_readsRow (F : Nat → Nat → Int32) (w0 w1 : Int32) : (zuf (zuf F 64 7 w0) 64 9 w1) = (zuf (zuf F 64 7 w0) 64 9 w1) := zufk_ix F [((64, 7), w0), ((64, 9), w1)] [((64, 7), some 0), ((64, 9), some 1)] rfl
theorem hF4_md_readsRow (F : Nat → Nat → Int32) (w0 w1 : Int32) : (zuf (zuf F 64 7 w0) 64 7 w1) = (zuf F 64 7 w1) := zufk_ix F [((64, 7), w0), ((64, 7), w1)] [((64, 7), some 1)] rfl
theorem hF3_md_readsRow (F : Nat → Nat → Int32) (w0 : Int32) : (zuf F 64 7 w0) = (zuf (zuf F 64 7 w0) 64 9 (F 64 9)) := zufk_ix F [((64, 7), w0)] [((64, 7), some 0), ((64, 9), none)] rfl
theorem hA2_md_readsRow (F : Nat → Nat → Int32) (w0 w1 : Nat → Int32) : (zua (zua F 84 w0) 84 w1) = (zua F 84 w1) := zuak_ix F [(84, w0), (84, w1)] [(84, some 1)] rfl
theorem hF1_md_readsRow (F : Nat → Nat → Int32) (w0 : Int32) : (zuf F 64 7 w0) = (zuf F 64 7 w0) := zufk_ix F [((64, 7), w0)] [((64, 7), some 0)] rfl
theorem hA0_md_readsRow (F : Nat → Nat → Int32) (w0 : Nat → Int32) : (zua F 84 w0) = (zua F 84 w0) := zuak_ix F [(84, w0)] [(84, some 0)] rfl
def O_md_readsRow (ar fi : Nat → Nat → Int32) (m1 : Nat) (m2 : Nat) (m3 : Nat) (m4 : Nat) (m5 : Nat) (t : T_md_readsRow) : zO2 := match t with
  | (t0, t1, t2, t3) => (some (.int (t0)), ((zua ar 84 t1), (zuf (zuf fi 64 7 t2) 64 9 t3), (m1, m2, m3, m4, m5)))
def M_md_readsRow_129 (X : Nat × (Nat → Int32)) (E : zTE) (ar fi : Nat → Nat → Int32) (m1 : Nat) (m2 : Nat) (m3 : Nat) (m4 : Nat) (m5 : Nat) (x : Int32) (l2 : Int32) (l3 : Int32) (l4 : Int32) (l5 : Int32) (l6 : Int32) (c64_7 : Int32) (o : zO2) (s : U_md_readsRow_129) : Prop := match s with
  | (l7, b84) => zR2 X zFT E zc_186 129 [.ref 64, .int x, .int l2, .int l3, .int l4, .int l5, .int l6, .int l7] [] ((zua ar 84 b84), (zuf fi 64 7 c64_7), (m1, m2, m3, m4, m5)) o
def M_md_readsRow_27 (X : Nat × (Nat → Int32)) (E : zTE) (ar fi : Nat → Nat → Int32) (m1 : Nat) (m2 : Nat) (m3 : Nat) (m4 : Nat) (m5 : Nat) (x : Int32) (o : zO2) (s : U_md_readsRow_27) : Prop := match s with
  | (l2, l3, b84, c64_7) => zR2 X zFT E zc_186 27 [.ref 64, .int x, .int l2, .int l3] [] ((zua ar 84 b84), (zuf fi 64 7 c64_7), (m1, m2, m3, m4, m5)) o
set_option maxRecDepth 1000000 in
theorem t129_md_readsRow {X : Nat × (Nat → Int32)} {ar fi : Nat → Nat → Int32} {m1 m2 m3 m4 m5 : Nat} {x : Int32} {l2 : Int32} {l3 : Int32} {l4 : Int32} {l5 : Int32} {l6 : Int32} {l7 : Int32} {b84 : Nat → Int32} {c64_7 : Int32} {G_md_canBeginRow : Int32 → Int32 → (Nat → Int32) → Bool} {W_md_canBeginRow : Int32 → Int32 → (Nat → Int32) → Int32} {W_md_wrongAt : Int32 → Int32 → Int32} {F0_md_wrongAt : Int32 → Int32 → Int32} {G_md_here : Int32 → Int32 → (Nat → Int32) → Bool} {W_md_here : Int32 → Int32 → (Nat → Int32) → Int32} {W_md_in : Int32 → Int32 → Int32 → Int32} {W_md_kindBy : Int32 → Int32} : zseg X zFT (zEx 185 (P_md_canBeginRow G_md_canBeginRow W_md_canBeginRow) (zEx 160 (P_md_wrongAt W_md_wrongAt F0_md_wrongAt) (zEx 158 (P_md_here G_md_here W_md_here) (zEx 143 (P_md_in W_md_in) (zEx 184 (P_md_kindBy W_md_kindBy) zE0))))) zc_186 (fun p => Nat.beq p 27 || Nat.beq p 129) 400 129 [.ref 64, .int x, .int l2, .int l3, .int l4, .int l5, .int l6, .int l7] [] ((zua ar 84 b84), (zuf fi 64 7 c64_7), (m1, m2, m3, m4, m5)) = (
  bif decide (l5 ≤ l7) then
   bif decide (fi 64 8 ≤ c64_7) then
    some (.inl (27, [.ref 64, .int x, .int (l2 + l5), .int 0], [], ((zua ar 84 b84), (zuf fi 64 7 c64_7), (m1, m2, m3, m4, m5))))
   else
    zg (G_md_here (fi 64 8) c64_7 (ar 70)) (
    zl (W_md_here (fi 64 8) c64_7 (ar 70)) (fun v19 =>
    bif decide (v19 = 47) then
     some (.inl (27, [.ref 64, .int x, .int (l2 + l5), .int 0], [], ((zua ar 84 b84), (zuf fi 64 7 c64_7), (m1, m2, m3, m4, m5))))
    else
     some (.inl (27, [.ref 64, .int x, .int (l2 + l5), .int 1], [], ((zua ar 84 b84), (zuf fi 64 7 c64_7), (m1, m2, m3, m4, m5))))))
  else
   zg (Nat.beq 16 16 && (zin (((12 * x) + l2) + l7) 96)) (
   some (.inl (129, [.ref 64, .int x, .int l2, .int l3, .int l4, .int l5, .int l6, .int (l7 + 1)], [], ((zua (zua ar 84 b84) 84 (zup b84 ((((12 * x) + l2) + l7).toNatClampNeg) l6)), (zuf fi 64 7 c64_7), (m1, m2, m3, m4, m5))))) : Option ((Nat × List Value × List Value × zH2) ⊕ zO2)) := by with_unfolding_all rfl
set_option maxRecDepth 20000 in
theorem k_md_readsRow_129 {X : Nat × (Nat → Int32)} {ar fi : Nat → Nat → Int32} {m1 m2 m3 m4 m5 : Nat} {x : Int32} {l2 : Int32} {l3 : Int32} {l4 : Int32} {l5 : Int32} {l6 : Int32} {c64_7 : Int32} {o : zO2} : ∀ (s : U_md_readsRow_129) (q : U_md_readsRow_129 ⊕ (U_md_readsRow_27 ⊕ T_md_readsRow)), f_md_readsRow_129 x (ar 70) (fi 64 8) l2 l5 l6 c64_7 s = some q → zq (M_md_readsRow_129 X (zEx 185 S_md_canBeginRow (zEx 160 S_md_wrongAt (zEx 158 S_md_here (zEx 143 S_md_in (zEx 184 S_md_kindBy zE0))))) ar fi m1 m2 m3 m4 m5 x l2 l3 l4 l5 l6 c64_7 o) (zq (M_md_readsRow_27 X (zEx 185 S_md_canBeginRow (zEx 160 S_md_wrongAt (zEx 158 S_md_here (zEx 143 S_md_in (zEx 184 S_md_kindBy zE0))))) ar fi m1 m2 m3 m4 m5 x o) (fun t => O_md_readsRow ar fi m1 m2 m3 m4 m5 t = o)) q → M_md_readsRow_129 X (zEx 185 S_md_canBeginRow (zEx 160 S_md_wrongAt (zEx 158 S_md_here (zEx 143 S_md_in (zEx 184 S_md_kindBy zE0))))) ar fi m1 m2 m3 m4 m5 x l2 l3 l4 l5 l6 c64_7 o s := by
  intro s q h hq
  obtain ⟨l7, b84⟩ := s
  have h : b_md_readsRow_129 x (ar 70) (fi 64 8) l2 l5 l6 c64_7 l7 b84 = some q := h
  unfold b_md_readsRow_129 at h
  show zR2 X zFT (zEx 185 S_md_canBeginRow (zEx 160 S_md_wrongAt (zEx 158 S_md_here (zEx 143 S_md_in (zEx 184 S_md_kindBy zE0))))) zc_186 129 [.ref 64, .int x, .int l2, .int l3, .int l4, .int l5, .int l6, .int l7] [] ((zua ar 84 b84), (zuf fi 64 7 c64_7), (m1, m2, m3, m4, m5)) o
  refine zT_seg t129_md_readsRow ?_
  obtain ⟨TT, hTT⟩ : ∃ T, T = zT X zFT (zEx 185 S_md_canBeginRow (zEx 160 S_md_wrongAt (zEx 158 S_md_here (zEx 143 S_md_in (zEx 184 S_md_kindBy zE0))))) zc_186 o := ⟨_, rfl⟩
  rw [← hTT]
  refine zb_el h (fun hb h => zU_t hTT hb ?_) (fun hb h => zU_f hTT hb ?_)
  · refine zb_el h (fun hb h => zU_t hTT hb ?_) (fun hb h => zU_f hTT hb ?_)
    · rw [hTT]
      have hz := zsi h hq
      refine zR2_hp ?_ ?_ hz
      · first | with_reducible rfl | exact hA0_md_readsRow _ _
      · first | with_reducible rfl | exact hF1_md_readsRow _ _
    · refine zg_el h (fun hg h => zU_g hTT hg ?_)
      refine zl_el h (fun h => zU_l hTT ?_)
      refine zb_el h (fun hb h => zU_t hTT hb ?_) (fun hb h => zU_f hTT hb ?_)
      · rw [hTT]
        have hz := zsi h hq
        refine zR2_hp ?_ ?_ hz
        · first | with_reducible rfl | exact hA0_md_readsRow _ _
        · first | with_reducible rfl | exact hF1_md_readsRow _ _
      · rw [hTT]
        have hz := zsi h hq
        refine zR2_hp ?_ ?_ hz
        · first | with_reducible rfl | exact hA0_md_readsRow _ _
        · first | with_reducible rfl | exact hF1_md_readsRow _ _
  · refine zg_el h (fun hg h => zU_ga hTT hg ?_)
    rw [hTT]
    have hz := zsi h hq
    refine zR2_hp ?_ ?_ hz
    · first | with_reducible rfl | exact hA2_md_readsRow _ _ _
    · first | with_reducible rfl | exact hF1_md_readsRow _ _
set_option maxRecDepth 1000000 in
theorem t27_md_readsRow {X : Nat × (Nat → Int32)} {ar fi : Nat → Nat → Int32} {m1 m2 m3 m4 m5 : Nat} {x : Int32} {l2 : Int32} {l3 : Int32} {b84 : Nat → Int32} {c64_7 : Int32} {G_md_canBeginRow : Int32 → Int32 → (Nat → Int32) → Bool} {W_md_canBeginRow : Int32 → Int32 → (Nat → Int32) → Int32} {W_md_wrongAt : Int32 → Int32 → Int32} {F0_md_wrongAt : Int32 → Int32 → Int32} {G_md_here : Int32 → Int32 → (Nat → Int32) → Bool} {W_md_here : Int32 → Int32 → (Nat → Int32) → Int32} {W_md_in : Int32 → Int32 → Int32 → Int32} {W_md_kindBy : Int32 → Int32} : zseg X zFT (zEx 185 (P_md_canBeginRow G_md_canBeginRow W_md_canBeginRow) (zEx 160 (P_md_wrongAt W_md_wrongAt F0_md_wrongAt) (zEx 158 (P_md_here G_md_here W_md_here) (zEx 143 (P_md_in W_md_in) (zEx 184 (P_md_kindBy W_md_kindBy) zE0))))) zc_186 (fun p => Nat.beq p 27 || Nat.beq p 129) 400 27 [.ref 64, .int x, .int l2, .int l3] [] ((zua ar 84 b84), (zuf fi 64 7 c64_7), (m1, m2, m3, m4, m5)) = (
  bif decide (l3 = 0) then
   some (.inr (some (.int 1), ((zua ar 84 b84), (zuf fi 64 7 c64_7), (m1, m2, m3, m4, m5))))
  else
   zg (G_md_here (fi 64 8) c64_7 (ar 70)) (
   zl (W_md_here (fi 64 8) c64_7 (ar 70)) (fun v4 =>
   zl (W_md_in v4 50 57) (fun v5 =>
   bif decide (v5 = 0) then
    zg (G_md_here (fi 64 8) c64_7 (ar 70)) (
    zl (W_md_here (fi 64 8) c64_7 (ar 70)) (fun v6 =>
    zl (W_md_kindBy v6) (fun v7 =>
    bif !decide (v7 = (-1)) then
     bif decide (l2 + 1 ≤ 12) then
      some (.inl (129, [.ref 64, .int x, .int l2, .int l3, .int c64_7, .int 1, .int v7, .int 0], [], ((zua ar 84 b84), (zuf (zuf fi 64 7 c64_7) 64 7 (c64_7 + 1)), (m1, m2, m3, m4, m5))))
     else
      zl (W_md_wrongAt 6 c64_7) (fun v8 =>
      zl (F0_md_wrongAt 6 c64_7) (fun v9 =>
      zg (Nat.beq 1 0 || (decide (v8 = 0) || decide (v8 = 1))) (
      some (.inr (some (.int v8), ((zua ar 84 b84), (zuf (zuf fi 64 7 c64_7) 64 9 v9), (m1, m2, m3, m4, m5)))))))
    else
     zl (W_md_wrongAt 1 c64_7) (fun v10 =>
     zl (F0_md_wrongAt 1 c64_7) (fun v11 =>
     zg (Nat.beq 1 0 || (decide (v10 = 0) || decide (v10 = 1))) (
     some (.inr (some (.int v10), ((zua ar 84 b84), (zuf (zuf fi 64 7 c64_7) 64 9 v11), (m1, m2, m3, m4, m5))))))))))
   else
    zg (G_md_here (fi 64 8) c64_7 (ar 70)) (
    zl (W_md_here (fi 64 8) c64_7 (ar 70)) (fun v12 =>
    zg (G_md_here (fi 64 8) (c64_7 + 1) (ar 70)) (
    zl (W_md_here (fi 64 8) (c64_7 + 1) (ar 70)) (fun v13 =>
    zl (W_md_kindBy v13) (fun v14 =>
    bif !decide (v14 = (-1)) then
     bif decide (l2 + (v12 - 48) ≤ 12) then
      some (.inl (129, [.ref 64, .int x, .int l2, .int l3, .int c64_7, .int (v12 - 48), .int v14, .int 0], [], ((zua ar 84 b84), (zuf (zuf (zuf fi 64 7 c64_7) 64 7 (c64_7 + 1)) 64 7 ((c64_7 + 1) + 1)), (m1, m2, m3, m4, m5))))
     else
      zl (W_md_wrongAt 6 c64_7) (fun v15 =>
      zl (F0_md_wrongAt 6 c64_7) (fun v16 =>
      zg (Nat.beq 1 0 || (decide (v15 = 0) || decide (v15 = 1))) (
      some (.inr (some (.int v15), ((zua ar 84 b84), (zuf (zuf (zuf fi 64 7 c64_7) 64 7 (c64_7 + 1)) 64 9 v16), (m1, m2, m3, m4, m5)))))))
    else
     zl (W_md_wrongAt 1 (c64_7 + 1)) (fun v17 =>
     zl (F0_md_wrongAt 1 (c64_7 + 1)) (fun v18 =>
     zg (Nat.beq 1 0 || (decide (v17 = 0) || decide (v17 = 1))) (
     some (.inr (some (.int v17), ((zua ar 84 b84), (zuf (zuf (zuf fi 64 7 c64_7) 64 7 (c64_7 + 1)) 64 9 v18), (m1, m2, m3, m4, m5))))))))))))))) : Option ((Nat × List Value × List Value × zH2) ⊕ zO2)) := by with_unfolding_all rfl
set_option maxRecDepth 20000 in
theorem k_md_readsRow_27 {X : Nat × (Nat → Int32)} {ar fi : Nat → Nat → Int32} {m1 m2 m3 m4 m5 : Nat} {x : Int32} {o : zO2} : ∀ (s : U_md_readsRow_27) (q : U_md_readsRow_27 ⊕ T_md_readsRow), f_md_readsRow_27 x (ar 70) (fi 64 8) (fi 64 9) s = some q → zq (M_md_readsRow_27 X (zEx 185 S_md_canBeginRow (zEx 160 S_md_wrongAt (zEx 158 S_md_here (zEx 143 S_md_in (zEx 184 S_md_kindBy zE0))))) ar fi m1 m2 m3 m4 m5 x o) (fun t => O_md_readsRow ar fi m1 m2 m3 m4 m5 t = o) q → M_md_readsRow_27 X (zEx 185 S_md_canBeginRow (zEx 160 S_md_wrongAt (zEx 158 S_md_here (zEx 143 S_md_in (zEx 184 S_md_kindBy zE0))))) ar fi m1 m2 m3 m4 m5 x o s := by
  intro s q h hq
  obtain ⟨l2, l3, b84, c64_7⟩ := s
  have h : b_md_readsRow_27 x (ar 70) (fi 64 8) (fi 64 9) l2 l3 b84 c64_7 = some q := h
  unfold b_md_readsRow_27 at h
  show zR2 X zFT (zEx 185 S_md_canBeginRow (zEx 160 S_md_wrongAt (zEx 158 S_md_here (zEx 143 S_md_in (zEx 184 S_md_kindBy zE0))))) zc_186 27 [.ref 64, .int x, .int l2, .int l3] [] ((zua ar 84 b84), (zuf fi 64 7 c64_7), (m1, m2, m3, m4, m5)) o
  refine zT_seg t27_md_readsRow ?_
  obtain ⟨TT, hTT⟩ : ∃ T, T = zT X zFT (zEx 185 S_md_canBeginRow (zEx 160 S_md_wrongAt (zEx 158 S_md_here (zEx 143 S_md_in (zEx 184 S_md_kindBy zE0))))) zc_186 o := ⟨_, rfl⟩
  rw [← hTT]
  refine zb_el h (fun hb h => zU_t hTT hb ?_) (fun hb h => zU_f hTT hb ?_)
  · rw [hTT]
    have hz := zsi h hq
    refine (zO_mk ?_ ?_).trans hz
    · first | with_reducible rfl | exact hA0_md_readsRow _ _
    · first | with_reducible rfl | exact hF3_md_readsRow _ _
  · refine zg_el h (fun hg h => zU_g hTT hg ?_)
    refine zl_el h (fun h => zU_l hTT ?_)
    refine zl_el h (fun h => zU_l hTT ?_)
    refine zb_el h (fun hb h => zU_t hTT hb ?_) (fun hb h => zU_f hTT hb ?_)
    · refine zg_el h (fun hg h => zU_g hTT hg ?_)
      refine zl_el h (fun h => zU_l hTT ?_)
      refine zl_el h (fun h => zU_l hTT ?_)
      refine zb_el h (fun hb h => zU_t hTT hb ?_) (fun hb h => zU_f hTT hb ?_)
      · refine zb_el h (fun hb h => zU_t hTT hb ?_) (fun hb h => zU_f hTT hb ?_)
        · rw [hTT]
          refine zR2_hp ?_ ?_ (zlp_K k_md_readsRow_129 h hq)
          · first | with_reducible rfl | exact hA0_md_readsRow _ _
          · first | with_reducible rfl | exact hF4_md_readsRow _ _ _
        · refine zl_el h (fun h => zU_l hTT ?_)
          refine zl_el h (fun h => zU_l hTT ?_)
          refine zg_el h (fun hg h => zU_gr hTT hg ?_)
          rw [hTT]
          have hz := zsi h hq
          refine (zO_mk ?_ ?_).trans hz
          · first | with_reducible rfl | exact hA0_md_readsRow _ _
          · first | with_reducible rfl | exact hF5_md_readsRow _ _ _
      · refine zl_el h (fun h => zU_l hTT ?_)
        refine zl_el h (fun h => zU_l hTT ?_)
        refine zg_el h (fun hg h => zU_gr hTT hg ?_)
        rw [hTT]
        have hz := zsi h hq
        refine (zO_mk ?_ ?_).trans hz
        · first | with_reducible rfl | exact hA0_md_readsRow _ _
        · first | with_reducible rfl | exact hF5_md_readsRow _ _ _
    · refine zg_el h (fun hg h => zU_g hTT hg ?_)
      refine zl_el h (fun h => zU_l hTT ?_)
      refine zg_el h (fun hg h => zU_g hTT hg ?_)
      refine zl_el h (fun h => zU_l hTT ?_)
      refine zl_el h (fun h => zU_l hTT ?_)
      refine zb_el h (fun hb h => zU_t hTT hb ?_) (fun hb h => zU_f hTT hb ?_)
      · refine zb_el h (fun hb h => zU_t hTT hb ?_) (fun hb h => zU_f hTT hb ?_)
        · rw [hTT]
          refine zR2_hp ?_ ?_ (zlp_K k_md_readsRow_129 h hq)
          · first | with_reducible rfl | exact hA0_md_readsRow _ _
          · first | with_reducible rfl | exact hF6_md_readsRow _ _ _ _
        · refine zl_el h (fun h => zU_l hTT ?_)
          refine zl_el h (fun h => zU_l hTT ?_)
          refine zg_el h (fun hg h => zU_gr hTT hg ?_)
          rw [hTT]
          have hz := zsi h hq
          refine (zO_mk ?_ ?_).trans hz
          · first | with_reducible rfl | exact hA0_md_readsRow _ _
          · first | with_reducible rfl | exact hF7_md_readsRow _ _ _ _
      · refine zl_el h (fun h => zU_l hTT ?_)
        refine zl_el h (fun h => zU_l hTT ?_)
        refine zg_el h (fun hg h => zU_gr hTT hg ?_)
        rw [hTT]
        have hz := zsi h hq
        refine (zO_mk ?_ ?_).trans hz
        · first | with_reducible rfl | exact hA0_md_readsRow _ _
        · first | with_reducible rfl | exact hF7_md_readsRow _ _ _ _
set_option maxRecDepth 1000000 in
theorem t_md_readsRow {X : Nat × (Nat → Int32)} {ar fi : Nat → Nat → Int32} {m1 m2 m3 m4 m5 : Nat} {x : Int32} {G_md_canBeginRow : Int32 → Int32 → (Nat → Int32) → Bool} {W_md_canBeginRow : Int32 → Int32 → (Nat → Int32) → Int32} {W_md_wrongAt : Int32 → Int32 → Int32} {F0_md_wrongAt : Int32 → Int32 → Int32} {G_md_here : Int32 → Int32 → (Nat → Int32) → Bool} {W_md_here : Int32 → Int32 → (Nat → Int32) → Int32} {W_md_in : Int32 → Int32 → Int32 → Int32} {W_md_kindBy : Int32 → Int32} : zseg X zFT (zEx 185 (P_md_canBeginRow G_md_canBeginRow W_md_canBeginRow) (zEx 160 (P_md_wrongAt W_md_wrongAt F0_md_wrongAt) (zEx 158 (P_md_here G_md_here W_md_here) (zEx 143 (P_md_in W_md_in) (zEx 184 (P_md_kindBy W_md_kindBy) zE0))))) zc_186 (fun p => Nat.beq p 27 || Nat.beq p 129) 400 0 [.ref 64, .int x] [] (ar, fi, (m1, m2, m3, m4, m5)) = (
  bif !decide (x = 8) then
   some (.inl (27, [.ref 64, .int x, .int 0, .int 1], [], (ar, fi, (m1, m2, m3, m4, m5))))
  else
   zg (G_md_canBeginRow (fi 64 8) (fi 64 7) (ar 70)) (
   zl (W_md_canBeginRow (fi 64 8) (fi 64 7) (ar 70)) (fun v1 =>
   bif decide (v1 = 0) then
    some (.inl (27, [.ref 64, .int x, .int 0, .int 1], [], (ar, fi, (m1, m2, m3, m4, m5))))
   else
    zl (W_md_wrongAt 4 (fi 64 7)) (fun v2 =>
    zl (F0_md_wrongAt 4 (fi 64 7)) (fun v3 =>
    zg (Nat.beq 1 0 || (decide (v2 = 0) || decide (v2 = 1))) (
    some (.inr (some (.int v2), (ar, (zuf fi 64 9 v3), (m1, m2, m3, m4, m5))))))))) : Option ((Nat × List Value × List Value × zH2) ⊕ zO2)) := by with_unfolding_all rfl
set_option maxRecDepth 20000 in
theorem e_md_readsRow {X : Nat × (Nat → Int32)} {ar fi : Nat → Nat → Int32} {m1 m2 m3 m4 m5 : Nat} {x : Int32} {o : zO2} : ∀ (q : T_md_readsRow), q_md_readsRow x (ar 70) (ar 84) (fi 64 7) (fi 64 8) (fi 64 9) = some q → (fun t => O_md_readsRow ar fi m1 m2 m3 m4 m5 t = o) q → zR2 X zFT (zEx 185 S_md_canBeginRow (zEx 160 S_md_wrongAt (zEx 158 S_md_here (zEx 143 S_md_in (zEx 184 S_md_kindBy zE0))))) zc_186 0 [.ref 64, .int x] [] (ar, fi, (m1, m2, m3, m4, m5)) o := by
  intro q h hq
  unfold q_md_readsRow at h
  refine zT_seg t_md_readsRow ?_
  obtain ⟨TT, hTT⟩ : ∃ T, T = zT X zFT (zEx 185 S_md_canBeginRow (zEx 160 S_md_wrongAt (zEx 158 S_md_here (zEx 143 S_md_in (zEx 184 S_md_kindBy zE0))))) zc_186 o := ⟨_, rfl⟩
  rw [← hTT]
  refine zb_el h (fun hb h => zU_t hTT hb ?_) (fun hb h => zU_f hTT hb ?_)
  · rw [hTT]
    refine zR2_hp ?_ ?_ (zlp_K k_md_readsRow_27 h hq)
    · first | with_reducible rfl | exact hA8_md_readsRow _
    · first | with_reducible rfl | exact hF9_md_readsRow _
  · refine zg_el h (fun hg h => zU_g hTT hg ?_)
    refine zl_el h (fun h => zU_l hTT ?_)
    refine zb_el h (fun hb h => zU_t hTT hb ?_) (fun hb h => zU_f hTT hb ?_)
    · rw [hTT]
      refine zR2_hp ?_ ?_ (zlp_K k_md_readsRow_27 h hq)
      · first | with_reducible rfl | exact hA8_md_readsRow _
      · first | with_reducible rfl | exact hF9_md_readsRow _
    · refine zl_el h (fun h => zU_l hTT ?_)
      refine zl_el h (fun h => zU_l hTT ?_)
      refine zg_el h (fun hg h => zU_gr hTT hg ?_)
      rw [hTT]
      have hz := zsi (P := (fun t => O_md_readsRow ar fi m1 m2 m3 m4 m5 t = o)) h hq
      refine (zO_mk ?_ ?_).trans hz
      · first | with_reducible rfl | exact hA8_md_readsRow _
      · first | with_reducible rfl | exact hF10_md_readsRow _ _
theorem ok_md_readsRow (X : Nat × (Nat → Int32)) : zOkS X 186 S_md_readsRow 3 := zOkS_new (zOkE_cons (ok_md_canBeginRow X) (by decide) (zOkE_cons (ok_md_wrongAt X) (by decide) (zOkE_cons (ok_md_here X) (by decide) (zOkE_cons (ok_md_in X) (by decide) (zOkE_cons (ok_md_kindBy X) (by decide) (zOkE_nil X 2)))))) (by
  intro args g o h
  obtain ⟨ar, fi, m1, m2, m3, m4, m5⟩ := g
  unfold S_md_readsRow P_md_readsRow at h
  split at h
  · refine zb_el h (fun hI0 k0 => ?_) (fun _ h10 => ?_)
    · try simp only [Bool.and_eq_true] at hI0
      have j0 := hI0
      have e0 := Nat.eq_of_beq_eq_true j0
      subst e0
      exact zpe_el k0 (fun t ht ho => by obtain ⟨t0, t1, t2, t3⟩ := t; exact e_md_readsRow _ ht ho)
    · cases h10
  · cases h)
