abbrev T_md_readsFactor : Type := Int32 × (Nat → Int32) × (Nat → Int32) × Int32 × Int32 × Int32 × Int32 × Int32 × Int32
abbrev U_md_readsFactor_0 : Type := (Nat → Int32) × Int32 × Int32 × Int32 × Int32
noncomputable def b_md_readsFactor_0 (a70 : Nat → Int32) (a71 : Nat → Int32) (f64_8 : Int32) (f64_10 : Int32) (f64_12 : Int32) (b72 : Nat → Int32) (c64_7 : Int32) (c64_9 : Int32) (c64_11 : Int32) (c64_13 : Int32) : Option (U_md_readsFactor_0 ⊕ T_md_readsFactor) :=
  zg (g_md_here (f64_8) c64_7 a70) (
  zl (w_md_here (f64_8) c64_7 a70) (fun v1 =>
  bif !decide (v1 = 91) then
   zg (g_md_isDigit (f64_8) c64_7 a70) (
   zl (w_md_isDigit (f64_8) c64_7 a70) (fun v2 =>
   bif decide (v2 = 0) then
    zg (g_md_here (f64_8) c64_7 a70) (
    zl (w_md_here (f64_8) c64_7 a70) (fun v3 =>
    zl (w_md_factOf v3) (fun v4 =>
    bif !decide (v4 = (-1)) then
     zg (g_md_notes 1 v4 (f64_12) a71) (
     zl (a0_md_notes 1 v4 (f64_12) a71) (fun v5 =>
     zl (f0_md_notes 1 v4 (f64_12) a71) (fun v6 =>
     some (.inr (1, v5, b72, c64_7 + 1, c64_9, f64_10, c64_11, v6, c64_13)))))
    else
     zl (w_md_wrongAt 1 c64_7) (fun v7 =>
     zl (f0_md_wrongAt 1 c64_7) (fun v8 =>
     zg (decide (v7 = 0) || decide (v7 = 1)) (
     some (.inr (v7, a71, b72, c64_7, v8, f64_10, c64_11, f64_12, c64_13))))))))
   else
    zbd (q_md_readsNumber a70 c64_7 (f64_8) c64_9) (fun v9 =>
    bif !decide ((v9.1) = 0) then
     zg (g_md_notes 0 ((v9.2.2.2)) (f64_12) a71) (
     zl (a0_md_notes 0 ((v9.2.2.2)) (f64_12) a71) (fun v10 =>
     zl (f0_md_notes 0 ((v9.2.2.2)) (f64_12) a71) (fun v11 =>
     some (.inr (1, v10, b72, (v9.2.1), (v9.2.2.1), (v9.2.2.2), c64_11, v11, c64_13)))))
    else
     some (.inr (0, a71, b72, (v9.2.1), (v9.2.2.1), (v9.2.2.2), c64_11, f64_12, c64_13)))))
  else
   zg (g_md_opens 14 c64_11 c64_13 c64_7 b72 c64_9) (
   zl (w_md_opens 14 c64_11 c64_13 c64_7 b72 c64_9) (fun v12 =>
   zl (a0_md_opens 14 c64_11 c64_13 c64_7 b72 c64_9) (fun v13 =>
   zl (f0_md_opens 14 c64_11 c64_13 c64_7 b72 c64_9) (fun v14 =>
   zl (f1_md_opens 14 c64_11 c64_13 c64_7 b72 c64_9) (fun v15 =>
   zl (f2_md_opens 14 c64_11 c64_13 c64_7 b72 c64_9) (fun v16 =>
   zl (f3_md_opens 14 c64_11 c64_13 c64_7 b72 c64_9) (fun v17 =>
   bif !decide (v12 = 0) then
    some (.inl (v13, v14, v15, v16, v17))
   else
    some (.inr (0, a71, v13, v14, v15, f64_10, v16, f64_12, v17)))))))))))
noncomputable def f_md_readsFactor_0 (a70 : Nat → Int32) (a71 : Nat → Int32) (f64_8 : Int32) (f64_10 : Int32) (f64_12 : Int32) : U_md_readsFactor_0 → Option (U_md_readsFactor_0 ⊕ T_md_readsFactor) := fun s => b_md_readsFactor_0 a70 a71 f64_8 f64_10 f64_12 s.1 s.2.1 s.2.2.1 s.2.2.2.1 s.2.2.2.2
noncomputable def l_md_readsFactor_0 (a70 : Nat → Int32) (a71 : Nat → Int32) (f64_8 : Int32) (f64_10 : Int32) (f64_12 : Int32) (b72 : Nat → Int32) (c64_7 : Int32) (c64_9 : Int32) (c64_11 : Int32) (c64_13 : Int32) : Option T_md_readsFactor := zlp (f_md_readsFactor_0 a70 a71 f64_8 f64_10 f64_12) (b72, c64_7, c64_9, c64_11, c64_13)
noncomputable def q_md_readsFactor (a70 : Nat → Int32) (a71 : Nat → Int32) (a72 : Nat → Int32) (f64_7 : Int32) (f64_8 : Int32) (f64_9 : Int32) (f64_10 : Int32) (f64_11 : Int32) (f64_12 : Int32) (f64_13 : Int32) : Option T_md_readsFactor :=
  l_md_readsFactor_0 a70 a71 f64_8 f64_10 f64_12 a72 (f64_7) (f64_9) (f64_11) (f64_13)
def P_md_readsFactor (Q : (Nat → Int32) → (Nat → Int32) → (Nat → Int32) → Int32 → Int32 → Int32 → Int32 → Int32 → Int32 → Int32 → Option (Int32 × (Nat → Int32) × (Nat → Int32) × Int32 × Int32 × Int32 × Int32 × Int32 × Int32)) : zSp := fun as g => match as with
  | [.ref a] => bif Nat.beq a 64 then zpe (Q (g.1 70) (g.1 71) (g.1 72) (g.2.1 64 7) (g.2.1 64 8) (g.2.1 64 9) (g.2.1 64 10) (g.2.1 64 11) (g.2.1 64 12) (g.2.1 64 13)) (fun t => (some (.int (t.1)), ((zua (zua g.1 71 t.2.1) 72 t.2.2.1), (zuf (zuf (zuf (zuf (zuf (zuf g.2.1 64 7 t.2.2.2.1) 64 9 t.2.2.2.2.1) 64 10 t.2.2.2.2.2.1) 64 11 t.2.2.2.2.2.2.1) 64 12 t.2.2.2.2.2.2.2.1) 64 13 t.2.2.2.2.2.2.2.2), g.2.2))) else none
  | _ => none
noncomputable abbrev S_md_readsFactor : zSp := P_md_readsFactor q_md_readsFactor
def O_md_readsFactor (ar fi : Nat → Nat → Int32) (m1 : Nat) (m2 : Nat) (m3 : Nat) (m4 : Nat) (m5 : Nat) (t : T_md_readsFactor) : zO2 := (some (.int (t.1)), ((zua (zua ar 71 t.2.1) 72 t.2.2.1), (zuf (zuf (zuf (zuf (zuf (zuf fi 64 7 t.2.2.2.1) 64 9 t.2.2.2.2.1) 64 10 t.2.2.2.2.2.1) 64 11 t.2.2.2.2.2.2.1) 64 12 t.2.2.2.2.2.2.2.1) 64 13 t.2.2.2.2.2.2.2.2), (m1, m2, m3, m4, m5)))
def M_md_readsFactor_0 (X : Nat × (Nat → Int32)) (E : zTE) (ar fi : Nat → Nat → Int32) (m1 : Nat) (m2 : Nat) (m3 : Nat) (m4 : Nat) (m5 : Nat) (o : zO2) (s : U_md_readsFactor_0) : Prop := zR2 X zFT E zc_169 0 [.ref 64] [] ((zua ar 72 s.1), (zuf (zuf (zuf (zuf fi 64 7 s.2.1) 64 9 s.2.2.1) 64 11 s.2.2.2.1) 64 13 s.2.2.2.2), (m1, m2, m3, m4, m5)) o
set_option maxRecDepth 20000 in
theorem t0_md_readsFactor {X : Nat × (Nat → Int32)} {ar fi : Nat → Nat → Int32} {m1 m2 m3 m4 m5 : Nat} {b72 : Nat → Int32} {c64_7 : Int32} {c64_9 : Int32} {c64_11 : Int32} {c64_13 : Int32} {G_md_here : Int32 → Int32 → (Nat → Int32) → Bool} {W_md_here : Int32 → Int32 → (Nat → Int32) → Int32} {G_md_opens : Int32 → Int32 → Int32 → Int32 → (Nat → Int32) → Int32 → Bool} {W_md_opens : Int32 → Int32 → Int32 → Int32 → (Nat → Int32) → Int32 → Int32} {A0_md_opens : Int32 → Int32 → Int32 → Int32 → (Nat → Int32) → Int32 → Nat → Int32} {F0_md_opens : Int32 → Int32 → Int32 → Int32 → (Nat → Int32) → Int32 → Int32} {F1_md_opens : Int32 → Int32 → Int32 → Int32 → (Nat → Int32) → Int32 → Int32} {F2_md_opens : Int32 → Int32 → Int32 → Int32 → (Nat → Int32) → Int32 → Int32} {F3_md_opens : Int32 → Int32 → Int32 → Int32 → (Nat → Int32) → Int32 → Int32} {G_md_isDigit : Int32 → Int32 → (Nat → Int32) → Bool} {W_md_isDigit : Int32 → Int32 → (Nat → Int32) → Int32} {Q_md_readsNumber : (Nat → Int32) → Int32 → Int32 → Int32 → Option (Int32 × Int32 × Int32 × Int32)} {G_md_notes : Int32 → Int32 → Int32 → (Nat → Int32) → Bool} {A0_md_notes : Int32 → Int32 → Int32 → (Nat → Int32) → Nat → Int32} {F0_md_notes : Int32 → Int32 → Int32 → (Nat → Int32) → Int32} {W_md_factOf : Int32 → Int32} {W_md_wrongAt : Int32 → Int32 → Int32} {F0_md_wrongAt : Int32 → Int32 → Int32} : zseg X zFT (zEx 158 (P_md_here G_md_here W_md_here) (zEx 164 (P_md_opens G_md_opens W_md_opens A0_md_opens F0_md_opens F1_md_opens F2_md_opens F3_md_opens) (zEx 159 (P_md_isDigit G_md_isDigit W_md_isDigit) (zEx 162 (P_md_readsNumber Q_md_readsNumber) (zEx 163 (P_md_notes G_md_notes A0_md_notes F0_md_notes) (zEx 166 (P_md_factOf W_md_factOf) (zEx 160 (P_md_wrongAt W_md_wrongAt F0_md_wrongAt) zE0))))))) zc_169 (fun p => Nat.beq p 0) 400 0 [.ref 64] [] ((zua ar 72 b72), (zuf (zuf (zuf (zuf fi 64 7 c64_7) 64 9 c64_9) 64 11 c64_11) 64 13 c64_13), (m1, m2, m3, m4, m5)) = (
  zg (G_md_here (fi 64 8) c64_7 (ar 70)) (
  zl (W_md_here (fi 64 8) c64_7 (ar 70)) (fun v1 =>
  bif !decide (v1 = 91) then
   zg (G_md_isDigit (fi 64 8) c64_7 (ar 70)) (
   zl (W_md_isDigit (fi 64 8) c64_7 (ar 70)) (fun v2 =>
   bif decide (v2 = 0) then
    zg (G_md_here (fi 64 8) c64_7 (ar 70)) (
    zl (W_md_here (fi 64 8) c64_7 (ar 70)) (fun v3 =>
    zl (W_md_factOf v3) (fun v4 =>
    bif !decide (v4 = (-1)) then
     zg (G_md_notes 1 v4 (fi 64 12) (ar 71)) (
     zl (A0_md_notes 1 v4 (fi 64 12) (ar 71)) (fun v5 =>
     zl (F0_md_notes 1 v4 (fi 64 12) (ar 71)) (fun v6 =>
     some (.inr (some (.int 1), ((zua (zua ar 72 b72) 71 v5), (zuf (zuf (zuf (zuf (zuf (zuf fi 64 7 c64_7) 64 9 c64_9) 64 11 c64_11) 64 13 c64_13) 64 12 v6) 64 7 (c64_7 + 1)), (m1, m2, m3, m4, m5)))))))
    else
     zl (W_md_wrongAt 1 c64_7) (fun v7 =>
     zl (F0_md_wrongAt 1 c64_7) (fun v8 =>
     zg (decide (v7 = 0) || decide (v7 = 1)) (
     some (.inr (some (.int v7), ((zua ar 72 b72), (zuf (zuf (zuf (zuf (zuf fi 64 7 c64_7) 64 9 c64_9) 64 11 c64_11) 64 13 c64_13) 64 9 v8), (m1, m2, m3, m4, m5))))))))))
   else
    zl (Q_md_readsNumber (ar 70) c64_7 (fi 64 8) c64_9) (fun v9 => zg v9.isSome (
    bif !decide (((zgt v9).1) = 0) then
     zg (G_md_notes 0 (((zgt v9).2.2.2)) (fi 64 12) (ar 71)) (
     zl (A0_md_notes 0 (((zgt v9).2.2.2)) (fi 64 12) (ar 71)) (fun v10 =>
     zl (F0_md_notes 0 (((zgt v9).2.2.2)) (fi 64 12) (ar 71)) (fun v11 =>
     some (.inr (some (.int 1), ((zua (zua ar 72 b72) 71 v10), (zuf (zuf (zuf (zuf (zuf (zuf (zuf (zuf fi 64 7 c64_7) 64 9 c64_9) 64 11 c64_11) 64 13 c64_13) 64 7 (((zgt v9).2.1))) 64 9 (((zgt v9).2.2.1))) 64 10 (((zgt v9).2.2.2))) 64 12 v11), (m1, m2, m3, m4, m5)))))))
    else
     some (.inr (some (.int 0), ((zua ar 72 b72), (zuf (zuf (zuf (zuf (zuf (zuf (zuf fi 64 7 c64_7) 64 9 c64_9) 64 11 c64_11) 64 13 c64_13) 64 7 (((zgt v9).2.1))) 64 9 (((zgt v9).2.2.1))) 64 10 (((zgt v9).2.2.2))), (m1, m2, m3, m4, m5))))))))
  else
   zg (G_md_opens 14 c64_11 c64_13 c64_7 b72 c64_9) (
   zl (W_md_opens 14 c64_11 c64_13 c64_7 b72 c64_9) (fun v12 =>
   zl (A0_md_opens 14 c64_11 c64_13 c64_7 b72 c64_9) (fun v13 =>
   zl (F0_md_opens 14 c64_11 c64_13 c64_7 b72 c64_9) (fun v14 =>
   zl (F1_md_opens 14 c64_11 c64_13 c64_7 b72 c64_9) (fun v15 =>
   zl (F2_md_opens 14 c64_11 c64_13 c64_7 b72 c64_9) (fun v16 =>
   zl (F3_md_opens 14 c64_11 c64_13 c64_7 b72 c64_9) (fun v17 =>
   bif !decide (v12 = 0) then
    some (.inl (0, [.ref 64], [], ((zua (zua ar 72 b72) 72 v13), (zuf (zuf (zuf (zuf (zuf (zuf (zuf (zuf fi 64 7 c64_7) 64 9 c64_9) 64 11 c64_11) 64 13 c64_13) 64 7 v14) 64 9 v15) 64 11 v16) 64 13 v17), (m1, m2, m3, m4, m5))))
   else
    some (.inr (some (.int 0), ((zua (zua ar 72 b72) 72 v13), (zuf (zuf (zuf (zuf (zuf (zuf (zuf (zuf fi 64 7 c64_7) 64 9 c64_9) 64 11 c64_11) 64 13 c64_13) 64 7 v14) 64 9 v15) 64 11 v16) 64 13 v17), (m1, m2, m3, m4, m5))))))))))))) : Option ((Nat × List Value × List Value × zH2) ⊕ zO2)) := rfl
theorem k_md_readsFactor_0 {X : Nat × (Nat → Int32)} {ar fi : Nat → Nat → Int32} {m1 m2 m3 m4 m5 : Nat} {o : zO2} : ∀ (s : U_md_readsFactor_0) (q : U_md_readsFactor_0 ⊕ T_md_readsFactor), f_md_readsFactor_0 (ar 70) (ar 71) (fi 64 8) (fi 64 10) (fi 64 12) s = some q → zq (M_md_readsFactor_0 X (zEx 158 S_md_here (zEx 164 S_md_opens (zEx 159 S_md_isDigit (zEx 162 S_md_readsNumber (zEx 163 S_md_notes (zEx 166 S_md_factOf (zEx 160 S_md_wrongAt zE0))))))) ar fi m1 m2 m3 m4 m5 o) (fun t => O_md_readsFactor ar fi m1 m2 m3 m4 m5 t = o) q → M_md_readsFactor_0 X (zEx 158 S_md_here (zEx 164 S_md_opens (zEx 159 S_md_isDigit (zEx 162 S_md_readsNumber (zEx 163 S_md_notes (zEx 166 S_md_factOf (zEx 160 S_md_wrongAt zE0))))))) ar fi m1 m2 m3 m4 m5 o s := by
  intro s q h hq
  obtain ⟨b72, c64_7, c64_9, c64_11, c64_13⟩ := s
  have h : b_md_readsFactor_0 (ar 70) (ar 71) (fi 64 8) (fi 64 10) (fi 64 12) b72 c64_7 c64_9 c64_11 c64_13 = some q := h
  unfold b_md_readsFactor_0 at h
  show zR2 X zFT (zEx 158 S_md_here (zEx 164 S_md_opens (zEx 159 S_md_isDigit (zEx 162 S_md_readsNumber (zEx 163 S_md_notes (zEx 166 S_md_factOf (zEx 160 S_md_wrongAt zE0))))))) zc_169 0 [.ref 64] [] ((zua ar 72 b72), (zuf (zuf (zuf (zuf fi 64 7 c64_7) 64 9 c64_9) 64 11 c64_11) 64 13 c64_13), (m1, m2, m3, m4, m5)) o
  refine zT_seg t0_md_readsFactor ?_
  refine zg_el h (fun hg h => zT_g hg ?_)
  refine zl_el h (fun h => zT_l ?_)
  refine zb_el h (fun hb h => zT_t hb ?_) (fun hb h => zT_f hb ?_)
  · refine zg_el h (fun hg h => zT_g hg ?_)
    refine zl_el h (fun h => zT_l ?_)
    refine zb_el h (fun hb h => zT_t hb ?_) (fun hb h => zT_f hb ?_)
    · refine zg_el h (fun hg h => zT_g hg ?_)
      refine zl_el h (fun h => zT_l ?_)
      refine zl_el h (fun h => zT_l ?_)
      refine zb_el h (fun hb h => zT_t hb ?_) (fun hb h => zT_f hb ?_)
      · refine zg_el h (fun hg h => zT_g hg ?_)
        refine zl_el h (fun h => zT_l ?_)
        refine zl_el h (fun h => zT_l ?_)
        have hz := zsi h hq
        refine (zO_mk ?_ ?_).trans hz
        · first | with_reducible rfl | (exact zuas_eq _ [(72, _), (71, _)] [(71, _), (72, _)] [71, 72] rfl rfl ⟨rfl, rfl, trivial⟩)
        · first | with_reducible rfl | (exact zufs_eq _ [(64, 7, _), (64, 9, _), (64, 11, _), (64, 13, _), (64, 12, _), (64, 7, _)] [(64, 7, _), (64, 9, _), (64, 10, _), (64, 11, _), (64, 12, _), (64, 13, _)] [(64, 7), (64, 9), (64, 10), (64, 11), (64, 12), (64, 13)] rfl rfl ⟨rfl, rfl, rfl, rfl, rfl, rfl, trivial⟩)
      · refine zl_el h (fun h => zT_l ?_)
        refine zl_el h (fun h => zT_l ?_)
        refine zg_el h (fun hg h => zT_g hg ?_)
        have hz := zsi h hq
        refine (zO_mk ?_ ?_).trans hz
        · first | with_reducible rfl | (exact zuas_eq _ [(72, _)] [(71, _), (72, _)] [71, 72] rfl rfl ⟨rfl, rfl, trivial⟩)
        · first | with_reducible rfl | (exact zufs_eq _ [(64, 7, _), (64, 9, _), (64, 11, _), (64, 13, _), (64, 9, _)] [(64, 7, _), (64, 9, _), (64, 10, _), (64, 11, _), (64, 12, _), (64, 13, _)] [(64, 7), (64, 9), (64, 10), (64, 11), (64, 12), (64, 13)] rfl rfl ⟨rfl, rfl, rfl, rfl, rfl, rfl, trivial⟩)
    · refine zbd_el h (fun v9 hv h => zT_c hv ?_)
      refine zb_el h (fun hb h => zT_t hb ?_) (fun hb h => zT_f hb ?_)
      · refine zg_el h (fun hg h => zT_g hg ?_)
        refine zl_el h (fun h => zT_l ?_)
        refine zl_el h (fun h => zT_l ?_)
        have hz := zsi h hq
        refine (zO_mk ?_ ?_).trans hz
        · first | with_reducible rfl | (exact zuas_eq _ [(72, _), (71, _)] [(71, _), (72, _)] [71, 72] rfl rfl ⟨rfl, rfl, trivial⟩)
        · first | with_reducible rfl | (exact zufs_eq _ [(64, 7, _), (64, 9, _), (64, 11, _), (64, 13, _), (64, 7, _), (64, 9, _), (64, 10, _), (64, 12, _)] [(64, 7, _), (64, 9, _), (64, 10, _), (64, 11, _), (64, 12, _), (64, 13, _)] [(64, 7), (64, 9), (64, 10), (64, 11), (64, 12), (64, 13)] rfl rfl ⟨rfl, rfl, rfl, rfl, rfl, rfl, trivial⟩)
      · have hz := zsi h hq
        refine (zO_mk ?_ ?_).trans hz
        · first | with_reducible rfl | (exact zuas_eq _ [(72, _)] [(71, _), (72, _)] [71, 72] rfl rfl ⟨rfl, rfl, trivial⟩)
        · first | with_reducible rfl | (exact zufs_eq _ [(64, 7, _), (64, 9, _), (64, 11, _), (64, 13, _), (64, 7, _), (64, 9, _), (64, 10, _)] [(64, 7, _), (64, 9, _), (64, 10, _), (64, 11, _), (64, 12, _), (64, 13, _)] [(64, 7), (64, 9), (64, 10), (64, 11), (64, 12), (64, 13)] rfl rfl ⟨rfl, rfl, rfl, rfl, rfl, rfl, trivial⟩)
  · refine zg_el h (fun hg h => zT_g hg ?_)
    refine zl_el h (fun h => zT_l ?_)
    refine zl_el h (fun h => zT_l ?_)
    refine zl_el h (fun h => zT_l ?_)
    refine zl_el h (fun h => zT_l ?_)
    refine zl_el h (fun h => zT_l ?_)
    refine zl_el h (fun h => zT_l ?_)
    refine zb_el h (fun hb h => zT_t hb ?_) (fun hb h => zT_f hb ?_)
    · have hz := zsi h hq
      refine zR2_hp ?_ ?_ hz
      · first | with_reducible rfl | (exact zuas_eq _ [(72, _), (72, _)] [(72, _)] [72] rfl rfl ⟨rfl, trivial⟩)
      · first | with_reducible rfl | (exact zufs_eq _ [(64, 7, _), (64, 9, _), (64, 11, _), (64, 13, _), (64, 7, _), (64, 9, _), (64, 11, _), (64, 13, _)] [(64, 7, _), (64, 9, _), (64, 11, _), (64, 13, _)] [(64, 7), (64, 9), (64, 11), (64, 13)] rfl rfl ⟨rfl, rfl, rfl, rfl, trivial⟩)
    · have hz := zsi h hq
      refine (zO_mk ?_ ?_).trans hz
      · first | with_reducible rfl | (exact zuas_eq _ [(72, _), (72, _)] [(71, _), (72, _)] [71, 72] rfl rfl ⟨rfl, rfl, trivial⟩)
      · first | with_reducible rfl | (exact zufs_eq _ [(64, 7, _), (64, 9, _), (64, 11, _), (64, 13, _), (64, 7, _), (64, 9, _), (64, 11, _), (64, 13, _)] [(64, 7, _), (64, 9, _), (64, 10, _), (64, 11, _), (64, 12, _), (64, 13, _)] [(64, 7), (64, 9), (64, 10), (64, 11), (64, 12), (64, 13)] rfl rfl ⟨rfl, rfl, rfl, rfl, rfl, rfl, trivial⟩)
theorem e_md_readsFactor {X : Nat × (Nat → Int32)} {ar fi : Nat → Nat → Int32} {m1 m2 m3 m4 m5 : Nat} {o : zO2} : ∀ (q : T_md_readsFactor), q_md_readsFactor (ar 70) (ar 71) (ar 72) (fi 64 7) (fi 64 8) (fi 64 9) (fi 64 10) (fi 64 11) (fi 64 12) (fi 64 13) = some q → (fun t => O_md_readsFactor ar fi m1 m2 m3 m4 m5 t = o) q → zR2 X zFT (zEx 158 S_md_here (zEx 164 S_md_opens (zEx 159 S_md_isDigit (zEx 162 S_md_readsNumber (zEx 163 S_md_notes (zEx 166 S_md_factOf (zEx 160 S_md_wrongAt zE0))))))) zc_169 0 [.ref 64] [] (ar, fi, (m1, m2, m3, m4, m5)) o := by
  intro q h hq
  unfold q_md_readsFactor at h
  refine zR2_hp ?_ ?_ (zlp_K k_md_readsFactor_0 h hq)
  · first | with_reducible rfl | (exact zuas_eq _ [] [(72, _)] [72] rfl rfl ⟨rfl, trivial⟩)
  · first | with_reducible rfl | (exact zufs_eq _ [] [(64, 7, _), (64, 9, _), (64, 11, _), (64, 13, _)] [(64, 7), (64, 9), (64, 11), (64, 13)] rfl rfl ⟨rfl, rfl, rfl, rfl, trivial⟩)
theorem ok_md_readsFactor (X : Nat × (Nat → Int32)) : zOkS X 169 S_md_readsFactor 4 := zOkS_new (zOkE_cons (ok_md_here X) (by decide) (zOkE_cons (ok_md_opens X) (by decide) (zOkE_cons (ok_md_isDigit X) (by decide) (zOkE_cons (ok_md_readsNumber X) (by decide) (zOkE_cons (ok_md_notes X) (by decide) (zOkE_cons (ok_md_factOf X) (by decide) (zOkE_cons (ok_md_wrongAt X) (by decide) (zOkE_nil X 3)))))))) (by
  intro args g o h
  obtain ⟨ar, fi, m1, m2, m3, m4, m5⟩ := g
  unfold S_md_readsFactor P_md_readsFactor at h
  split at h
  · refine zb_el h (fun hI0 k0 => ?_) (fun _ h10 => ?_)
    · try simp only [Bool.and_eq_true] at hI0
      have j0 := hI0
      have e0 := Nat.eq_of_beq_eq_true j0
      subst e0
      exact zpe_el k0 (fun t ht ho => e_md_readsFactor t ht ho)
    · cases h10
  · cases h)
abbrev T_md_hasOpenSum : Type := Int32
abbrev U_md_hasOpenSum_2 : Type := Int32
def b_md_hasOpenSum_2 (a72 : Nat → Int32) (f64_13 : Int32) (l2 : Int32) : Option (U_md_hasOpenSum_2 ⊕ T_md_hasOpenSum) :=
  bif decide (f64_13 ≤ l2) then
   some (.inr 0)
  else
   zg (zin l2 260) (
   bif !decide ((a72 (l2.toNatClampNeg)) / 1048576 = 14) then
    some (.inl (l2 + 1))
   else
    some (.inr 1))
def f_md_hasOpenSum_2 (a72 : Nat → Int32) (f64_13 : Int32) : U_md_hasOpenSum_2 → Option (U_md_hasOpenSum_2 ⊕ T_md_hasOpenSum) := fun s => b_md_hasOpenSum_2 a72 f64_13 s
noncomputable def l_md_hasOpenSum_2 (a72 : Nat → Int32) (f64_13 : Int32) (l2 : Int32) : Option T_md_hasOpenSum := zlp (f_md_hasOpenSum_2 a72 f64_13) l2
noncomputable def q_md_hasOpenSum (x : Int32) (a72 : Nat → Int32) (f64_13 : Int32) : Option T_md_hasOpenSum :=
  l_md_hasOpenSum_2 a72 f64_13 x
def P_md_hasOpenSum (Q : Int32 → (Nat → Int32) → Int32 → Option (Int32)) : zSp := fun as g => match as with
  | [.ref a, .int x] => bif Nat.beq a 64 then zpe (Q x (g.1 72) (g.2.1 64 13)) (fun t => (some (.int t), (g.1, g.2.1, g.2.2))) else none
  | _ => none
noncomputable abbrev S_md_hasOpenSum : zSp := P_md_hasOpenSum q_md_hasOpenSum
def O_md_hasOpenSum (ar fi : Nat → Nat → Int32) (m1 : Nat) (m2 : Nat) (m3 : Nat) (m4 : Nat) (m5 : Nat) (t : T_md_hasOpenSum) : zO2 := (some (.int t), (ar, fi, (m1, m2, m3, m4, m5)))
def M_md_hasOpenSum_2 (X : Nat × (Nat → Int32)) (E : zTE) (ar fi : Nat → Nat → Int32) (m1 : Nat) (m2 : Nat) (m3 : Nat) (m4 : Nat) (m5 : Nat) (x : Int32) (o : zO2) (s : U_md_hasOpenSum_2) : Prop := zR2 X zFT E zc_170 2 [.ref 64, .int x, .int s] [] (ar, fi, (m1, m2, m3, m4, m5)) o
set_option maxRecDepth 20000 in
theorem t2_md_hasOpenSum {X : Nat × (Nat → Int32)} {ar fi : Nat → Nat → Int32} {m1 m2 m3 m4 m5 : Nat} {x : Int32} {l2 : Int32} : zseg X zFT zE0 zc_170 (fun p => Nat.beq p 2) 400 2 [.ref 64, .int x, .int l2] [] (ar, fi, (m1, m2, m3, m4, m5)) = (
  bif decide (fi 64 13 ≤ l2) then
   some (.inr (some (.int 0), (ar, fi, (m1, m2, m3, m4, m5))))
  else
   zg (zin l2 260) (
   bif !decide (((ar 72) (l2.toNatClampNeg)) / 1048576 = 14) then
    some (.inl (2, [.ref 64, .int x, .int (l2 + 1)], [], (ar, fi, (m1, m2, m3, m4, m5))))
   else
    some (.inr (some (.int 1), (ar, fi, (m1, m2, m3, m4, m5))))) : Option ((Nat × List Value × List Value × zH2) ⊕ zO2)) := rfl
theorem k_md_hasOpenSum_2 {X : Nat × (Nat → Int32)} {ar fi : Nat → Nat → Int32} {m1 m2 m3 m4 m5 : Nat} {x : Int32} {o : zO2} : ∀ (s : U_md_hasOpenSum_2) (q : U_md_hasOpenSum_2 ⊕ T_md_hasOpenSum), f_md_hasOpenSum_2 (ar 72) (fi 64 13) s = some q → zq (M_md_hasOpenSum_2 X zE0 ar fi m1 m2 m3 m4 m5 x o) (fun t => O_md_hasOpenSum ar fi m1 m2 m3 m4 m5 t = o) q → M_md_hasOpenSum_2 X zE0 ar fi m1 m2 m3 m4 m5 x o s := by
  intro l2 q h hq
  have h : b_md_hasOpenSum_2 (ar 72) (fi 64 13) l2 = some q := h
  unfold b_md_hasOpenSum_2 at h
  show zR2 X zFT zE0 zc_170 2 [.ref 64, .int x, .int l2] [] (ar, fi, (m1, m2, m3, m4, m5)) o
  refine zT_seg t2_md_hasOpenSum ?_
  refine zb_el h (fun hb h => zT_t hb ?_) (fun hb h => zT_f hb ?_)
  · have hz := zsi h hq
    refine (zO_mk ?_ ?_).trans hz
    · first | with_reducible rfl | (rfl)
    · first | with_reducible rfl | (rfl)
  · refine zg_el h (fun hg h => zT_g hg ?_)
    refine zb_el h (fun hb h => zT_t hb ?_) (fun hb h => zT_f hb ?_)
    · have hz := zsi h hq
      refine zR2_hp ?_ ?_ hz
      · first | with_reducible rfl | (rfl)
      · first | with_reducible rfl | (rfl)
    · have hz := zsi h hq
      refine (zO_mk ?_ ?_).trans hz
      · first | with_reducible rfl | (rfl)
      · first | with_reducible rfl | (rfl)
set_option maxRecDepth 20000 in
theorem t_md_hasOpenSum {X : Nat × (Nat → Int32)} {ar fi : Nat → Nat → Int32} {m1 m2 m3 m4 m5 : Nat} {x : Int32} : zseg X zFT zE0 zc_170 (fun p => Nat.beq p 2) 400 0 [.ref 64, .int x] [] (ar, fi, (m1, m2, m3, m4, m5)) = (
  some (.inl (2, [.ref 64, .int x, .int x], [], (ar, fi, (m1, m2, m3, m4, m5)))) : Option ((Nat × List Value × List Value × zH2) ⊕ zO2)) := rfl
theorem e_md_hasOpenSum {X : Nat × (Nat → Int32)} {ar fi : Nat → Nat → Int32} {m1 m2 m3 m4 m5 : Nat} {x : Int32} {o : zO2} : ∀ (q : T_md_hasOpenSum), q_md_hasOpenSum x (ar 72) (fi 64 13) = some q → (fun t => O_md_hasOpenSum ar fi m1 m2 m3 m4 m5 t = o) q → zR2 X zFT zE0 zc_170 0 [.ref 64, .int x] [] (ar, fi, (m1, m2, m3, m4, m5)) o := by
  intro q h hq
  unfold q_md_hasOpenSum at h
  refine zT_seg t_md_hasOpenSum ?_
  refine zR2_hp ?_ ?_ (zlp_K k_md_hasOpenSum_2 h hq)
  · first | with_reducible rfl | (rfl)
  · first | with_reducible rfl | (rfl)
theorem ok_md_hasOpenSum (X : Nat × (Nat → Int32)) : zOkS X 170 S_md_hasOpenSum 1 := zOkS_new (zOkE_nil X 0) (by
  intro args g o h
  obtain ⟨ar, fi, m1, m2, m3, m4, m5⟩ := g
  unfold S_md_hasOpenSum P_md_hasOpenSum at h
  split at h
  · refine zb_el h (fun hI0 k0 => ?_) (fun _ h10 => ?_)
    · try simp only [Bool.and_eq_true] at hI0
      have j0 := hI0
      have e0 := Nat.eq_of_beq_eq_true j0
      subst e0
      exact zpe_el k0 (fun t ht ho => e_md_hasOpenSum t ht ho)
    · cases h10
  · cases h)
abbrev T_md_readsSum : Type := Int32 × (Nat → Int32) × (Nat → Int32) × Int32 × Int32 × Int32 × Int32 × Int32 × Int32
abbrev U_md_readsSum_14 : Type := (Nat → Int32) × (Nat → Int32) × Int32 × Int32 × Int32 × Int32 × Int32 × Int32
noncomputable def b_md_readsSum_14 (a70 : Nat → Int32) (f64_8 : Int32) (l1 : Int32) (b71 : Nat → Int32) (b72 : Nat → Int32) (c64_7 : Int32) (c64_9 : Int32) (c64_10 : Int32) (c64_11 : Int32) (c64_12 : Int32) (c64_13 : Int32) : Option (U_md_readsSum_14 ⊕ T_md_readsSum) :=
  zg (g_md_here (f64_8) c64_7 a70) (
  zl (w_md_here (f64_8) c64_7 a70) (fun v2 =>
  zl (w_md_sumSign v2) (fun v3 =>
  bif decide (v3 = (-1)) then
   zg (g_md_here (f64_8) c64_7 a70) (
   zl (w_md_here (f64_8) c64_7 a70) (fun v4 =>
   bif !decide (v4 = 93) then
    zbd (q_md_hasOpenSum l1 b72 c64_13) (fun v5 =>
    bif decide (v5 = 0) then
     zbd (q_md_closesSums 1 b71 b72 c64_12 c64_13) (fun v6 =>
     some (.inr (1, ((v6.1)), b72, c64_7, c64_9, c64_10, c64_11, (v6.2.1), (v6.2.2))))
    else
     zl (w_md_wrongAt 1 c64_7) (fun v7 =>
     zl (f0_md_wrongAt 1 c64_7) (fun v8 =>
     zg (decide (v7 = 0) || decide (v7 = 1)) (
     some (.inr (v7, b71, b72, c64_7, v8, c64_10, c64_11, c64_12, c64_13))))))
   else
    zbd (q_md_hasOpenSum l1 b72 c64_13) (fun v9 =>
    bif decide (v9 = 0) then
     zbd (q_md_hasOpenSum l1 b72 c64_13) (fun v10 =>
     bif decide (v10 = 0) then
      zbd (q_md_closesSums 1 b71 b72 c64_12 c64_13) (fun v11 =>
      some (.inr (1, ((v11.1)), b72, c64_7, c64_9, c64_10, c64_11, (v11.2.1), (v11.2.2))))
     else
      zl (w_md_wrongAt 1 c64_7) (fun v12 =>
      zl (f0_md_wrongAt 1 c64_7) (fun v13 =>
      zg (decide (v12 = 0) || decide (v12 = 1)) (
      some (.inr (v12, b71, b72, c64_7, v13, c64_10, c64_11, c64_12, c64_13))))))
    else
     zbd (q_md_closesSums 1 b71 b72 c64_12 c64_13) (fun v14 =>
     some (.inl (((v14.1)), b72, c64_7 + 1, c64_9, c64_10, c64_11 - 1, (v14.2.1), ((v14.2.2)) - 1))))))
  else
   bif decide (4 ≤ v3) then
    zbd (q_md_closesSums 0 b71 b72 c64_12 c64_13) (fun v15 =>
    zg (zin ((v15.2.2)) 260) (
    zbd (q_md_readsFactor a70 ((v15.1)) (zup b72 (((v15.2.2)).toNatClampNeg) (1048576 * v3)) (c64_7 + 1) (f64_8) c64_9 c64_10 c64_11 ((v15.2.1)) (((v15.2.2)) + 1)) (fun v16 =>
    bif !decide ((v16.1) = 0) then
     some (.inl (((v16.2.1)), ((v16.2.2.1)), (v16.2.2.2.1), (v16.2.2.2.2.1), (v16.2.2.2.2.2.1), (v16.2.2.2.2.2.2.1), (v16.2.2.2.2.2.2.2.1), (v16.2.2.2.2.2.2.2.2)))
    else
     some (.inr (0, ((v16.2.1)), ((v16.2.2.1)), (v16.2.2.2.1), (v16.2.2.2.2.1), (v16.2.2.2.2.2.1), (v16.2.2.2.2.2.2.1), (v16.2.2.2.2.2.2.2.1), (v16.2.2.2.2.2.2.2.2))))))
   else
    zbd (q_md_closesSums 1 b71 b72 c64_12 c64_13) (fun v17 =>
    zg (zin ((v17.2.2)) 260) (
    zbd (q_md_readsFactor a70 ((v17.1)) (zup b72 (((v17.2.2)).toNatClampNeg) (1048576 * v3)) (c64_7 + 1) (f64_8) c64_9 c64_10 c64_11 ((v17.2.1)) (((v17.2.2)) + 1)) (fun v18 =>
    bif !decide ((v18.1) = 0) then
     some (.inl (((v18.2.1)), ((v18.2.2.1)), (v18.2.2.2.1), (v18.2.2.2.2.1), (v18.2.2.2.2.2.1), (v18.2.2.2.2.2.2.1), (v18.2.2.2.2.2.2.2.1), (v18.2.2.2.2.2.2.2.2)))
    else
     some (.inr (0, ((v18.2.1)), ((v18.2.2.1)), (v18.2.2.2.1), (v18.2.2.2.2.1), (v18.2.2.2.2.2.1), (v18.2.2.2.2.2.2.1), (v18.2.2.2.2.2.2.2.1), (v18.2.2.2.2.2.2.2.2)))))))))
noncomputable def f_md_readsSum_14 (a70 : Nat → Int32) (f64_8 : Int32) (l1 : Int32) : U_md_readsSum_14 → Option (U_md_readsSum_14 ⊕ T_md_readsSum) := fun s => b_md_readsSum_14 a70 f64_8 l1 s.1 s.2.1 s.2.2.1 s.2.2.2.1 s.2.2.2.2.1 s.2.2.2.2.2.1 s.2.2.2.2.2.2.1 s.2.2.2.2.2.2.2
noncomputable def l_md_readsSum_14 (a70 : Nat → Int32) (f64_8 : Int32) (l1 : Int32) (b71 : Nat → Int32) (b72 : Nat → Int32) (c64_7 : Int32) (c64_9 : Int32) (c64_10 : Int32) (c64_11 : Int32) (c64_12 : Int32) (c64_13 : Int32) : Option T_md_readsSum := zlp (f_md_readsSum_14 a70 f64_8 l1) (b71, b72, c64_7, c64_9, c64_10, c64_11, c64_12, c64_13)
noncomputable def q_md_readsSum (a70 : Nat → Int32) (a71 : Nat → Int32) (a72 : Nat → Int32) (f64_7 : Int32) (f64_8 : Int32) (f64_9 : Int32) (f64_10 : Int32) (f64_11 : Int32) (f64_12 : Int32) (f64_13 : Int32) : Option T_md_readsSum :=
  zbd (q_md_readsFactor a70 a71 a72 (f64_7) (f64_8) (f64_9) (f64_10) (f64_11) (f64_12) (f64_13)) (fun v1 =>
  bif !decide ((v1.1) = 0) then
   l_md_readsSum_14 a70 f64_8 (f64_13) ((v1.2.1)) ((v1.2.2.1)) ((v1.2.2.2.1)) ((v1.2.2.2.2.1)) ((v1.2.2.2.2.2.1)) ((v1.2.2.2.2.2.2.1)) ((v1.2.2.2.2.2.2.2.1)) ((v1.2.2.2.2.2.2.2.2))
  else
   some (0, ((v1.2.1)), ((v1.2.2.1)), (v1.2.2.2.1), (v1.2.2.2.2.1), (v1.2.2.2.2.2.1), (v1.2.2.2.2.2.2.1), (v1.2.2.2.2.2.2.2.1), (v1.2.2.2.2.2.2.2.2)))
def P_md_readsSum (Q : (Nat → Int32) → (Nat → Int32) → (Nat → Int32) → Int32 → Int32 → Int32 → Int32 → Int32 → Int32 → Int32 → Option (Int32 × (Nat → Int32) × (Nat → Int32) × Int32 × Int32 × Int32 × Int32 × Int32 × Int32)) : zSp := fun as g => match as with
  | [.ref a] => bif Nat.beq a 64 then zpe (Q (g.1 70) (g.1 71) (g.1 72) (g.2.1 64 7) (g.2.1 64 8) (g.2.1 64 9) (g.2.1 64 10) (g.2.1 64 11) (g.2.1 64 12) (g.2.1 64 13)) (fun t => (some (.int (t.1)), ((zua (zua g.1 71 t.2.1) 72 t.2.2.1), (zuf (zuf (zuf (zuf (zuf (zuf g.2.1 64 7 t.2.2.2.1) 64 9 t.2.2.2.2.1) 64 10 t.2.2.2.2.2.1) 64 11 t.2.2.2.2.2.2.1) 64 12 t.2.2.2.2.2.2.2.1) 64 13 t.2.2.2.2.2.2.2.2), g.2.2))) else none
  | _ => none
noncomputable abbrev S_md_readsSum : zSp := P_md_readsSum q_md_readsSum
def O_md_readsSum (ar fi : Nat → Nat → Int32) (m1 : Nat) (m2 : Nat) (m3 : Nat) (m4 : Nat) (m5 : Nat) (t : T_md_readsSum) : zO2 := (some (.int (t.1)), ((zua (zua ar 71 t.2.1) 72 t.2.2.1), (zuf (zuf (zuf (zuf (zuf (zuf fi 64 7 t.2.2.2.1) 64 9 t.2.2.2.2.1) 64 10 t.2.2.2.2.2.1) 64 11 t.2.2.2.2.2.2.1) 64 12 t.2.2.2.2.2.2.2.1) 64 13 t.2.2.2.2.2.2.2.2), (m1, m2, m3, m4, m5)))
def M_md_readsSum_14 (X : Nat × (Nat → Int32)) (E : zTE) (ar fi : Nat → Nat → Int32) (m1 : Nat) (m2 : Nat) (m3 : Nat) (m4 : Nat) (m5 : Nat) (l1 : Int32) (o : zO2) (s : U_md_readsSum_14) : Prop := zR2 X zFT E zc_171 14 [.ref 64, .int l1] [] ((zua (zua ar 71 s.1) 72 s.2.1), (zuf (zuf (zuf (zuf (zuf (zuf fi 64 7 s.2.2.1) 64 9 s.2.2.2.1) 64 10 s.2.2.2.2.1) 64 11 s.2.2.2.2.2.1) 64 12 s.2.2.2.2.2.2.1) 64 13 s.2.2.2.2.2.2.2), (m1, m2, m3, m4, m5)) o
set_option maxRecDepth 20000 in
theorem t14_md_readsSum {X : Nat × (Nat → Int32)} {ar fi : Nat → Nat → Int32} {m1 m2 m3 m4 m5 : Nat} {l1 : Int32} {b71 : Nat → Int32} {b72 : Nat → Int32} {c64_7 : Int32} {c64_9 : Int32} {c64_10 : Int32} {c64_11 : Int32} {c64_12 : Int32} {c64_13 : Int32} {Q_md_readsFactor : (Nat → Int32) → (Nat → Int32) → (Nat → Int32) → Int32 → Int32 → Int32 → Int32 → Int32 → Int32 → Int32 → Option (Int32 × (Nat → Int32) × (Nat → Int32) × Int32 × Int32 × Int32 × Int32 × Int32 × Int32)} {G_md_here : Int32 → Int32 → (Nat → Int32) → Bool} {W_md_here : Int32 → Int32 → (Nat → Int32) → Int32} {W_md_sumSign : Int32 → Int32} {Q_md_closesSums : Int32 → (Nat → Int32) → (Nat → Int32) → Int32 → Int32 → Option ((Nat → Int32) × Int32 × Int32)} {Q_md_hasOpenSum : Int32 → (Nat → Int32) → Int32 → Option (Int32)} {W_md_wrongAt : Int32 → Int32 → Int32} {F0_md_wrongAt : Int32 → Int32 → Int32} : zseg X zFT (zEx 169 (P_md_readsFactor Q_md_readsFactor) (zEx 158 (P_md_here G_md_here W_md_here) (zEx 167 (P_md_sumSign W_md_sumSign) (zEx 168 (P_md_closesSums Q_md_closesSums) (zEx 170 (P_md_hasOpenSum Q_md_hasOpenSum) (zEx 160 (P_md_wrongAt W_md_wrongAt F0_md_wrongAt) zE0)))))) zc_171 (fun p => Nat.beq p 14) 400 14 [.ref 64, .int l1] [] ((zua (zua ar 71 b71) 72 b72), (zuf (zuf (zuf (zuf (zuf (zuf fi 64 7 c64_7) 64 9 c64_9) 64 10 c64_10) 64 11 c64_11) 64 12 c64_12) 64 13 c64_13), (m1, m2, m3, m4, m5)) = (
  zg (G_md_here (fi 64 8) c64_7 (ar 70)) (
  zl (W_md_here (fi 64 8) c64_7 (ar 70)) (fun v2 =>
  zl (W_md_sumSign v2) (fun v3 =>
  bif decide (v3 = (-1)) then
   zg (G_md_here (fi 64 8) c64_7 (ar 70)) (
   zl (W_md_here (fi 64 8) c64_7 (ar 70)) (fun v4 =>
   bif !decide (v4 = 93) then
    zl (Q_md_hasOpenSum l1 b72 c64_13) (fun v5 => zg v5.isSome (
    bif decide (((zgt v5)) = 0) then
     zl (Q_md_closesSums 1 b71 b72 c64_12 c64_13) (fun v6 => zg v6.isSome (
     some (.inr (some (.int 1), ((zua (zua (zua ar 71 b71) 72 b72) 71 (((zgt v6).1))), (zuf (zuf (zuf (zuf (zuf (zuf (zuf (zuf fi 64 7 c64_7) 64 9 c64_9) 64 10 c64_10) 64 11 c64_11) 64 12 c64_12) 64 13 c64_13) 64 12 (((zgt v6).2.1))) 64 13 (((zgt v6).2.2))), (m1, m2, m3, m4, m5))))))
    else
     zl (W_md_wrongAt 1 c64_7) (fun v7 =>
     zl (F0_md_wrongAt 1 c64_7) (fun v8 =>
     zg (decide (v7 = 0) || decide (v7 = 1)) (
     some (.inr (some (.int v7), ((zua (zua ar 71 b71) 72 b72), (zuf (zuf (zuf (zuf (zuf (zuf (zuf fi 64 7 c64_7) 64 9 c64_9) 64 10 c64_10) 64 11 c64_11) 64 12 c64_12) 64 13 c64_13) 64 9 v8), (m1, m2, m3, m4, m5)))))))))
   else
    zl (Q_md_hasOpenSum l1 b72 c64_13) (fun v9 => zg v9.isSome (
    bif decide (((zgt v9)) = 0) then
     zl (Q_md_hasOpenSum l1 b72 c64_13) (fun v10 => zg v10.isSome (
     bif decide (((zgt v10)) = 0) then
      zl (Q_md_closesSums 1 b71 b72 c64_12 c64_13) (fun v11 => zg v11.isSome (
      some (.inr (some (.int 1), ((zua (zua (zua ar 71 b71) 72 b72) 71 (((zgt v11).1))), (zuf (zuf (zuf (zuf (zuf (zuf (zuf (zuf fi 64 7 c64_7) 64 9 c64_9) 64 10 c64_10) 64 11 c64_11) 64 12 c64_12) 64 13 c64_13) 64 12 (((zgt v11).2.1))) 64 13 (((zgt v11).2.2))), (m1, m2, m3, m4, m5))))))
     else
      zl (W_md_wrongAt 1 c64_7) (fun v12 =>
      zl (F0_md_wrongAt 1 c64_7) (fun v13 =>
      zg (decide (v12 = 0) || decide (v12 = 1)) (
      some (.inr (some (.int v12), ((zua (zua ar 71 b71) 72 b72), (zuf (zuf (zuf (zuf (zuf (zuf (zuf fi 64 7 c64_7) 64 9 c64_9) 64 10 c64_10) 64 11 c64_11) 64 12 c64_12) 64 13 c64_13) 64 9 v13), (m1, m2, m3, m4, m5)))))))))
    else
     zl (Q_md_closesSums 1 b71 b72 c64_12 c64_13) (fun v14 => zg v14.isSome (
     some (.inl (14, [.ref 64, .int l1], [], ((zua (zua (zua ar 71 b71) 72 b72) 71 (((zgt v14).1))), (zuf (zuf (zuf (zuf (zuf (zuf (zuf (zuf (zuf (zuf (zuf fi 64 7 c64_7) 64 9 c64_9) 64 10 c64_10) 64 11 c64_11) 64 12 c64_12) 64 13 c64_13) 64 12 (((zgt v14).2.1))) 64 13 (((zgt v14).2.2))) 64 13 ((((zgt v14).2.2)) - 1)) 64 11 (c64_11 - 1)) 64 7 (c64_7 + 1)), (m1, m2, m3, m4, m5))))))))))
  else
   bif decide (4 ≤ v3) then
    zl (Q_md_closesSums 0 b71 b72 c64_12 c64_13) (fun v15 => zg v15.isSome (
    zg (zin (((zgt v15).2.2)) 260) (
    zl (Q_md_readsFactor (ar 70) (((zgt v15).1)) (zup b72 ((((zgt v15).2.2)).toNatClampNeg) (1048576 * v3)) (c64_7 + 1) (fi 64 8) c64_9 c64_10 c64_11 (((zgt v15).2.1)) ((((zgt v15).2.2)) + 1)) (fun v16 => zg v16.isSome (
    bif !decide (((zgt v16).1) = 0) then
     some (.inl (14, [.ref 64, .int l1], [], ((zua (zua (zua (zua (zua (zua ar 71 b71) 72 b72) 71 (((zgt v15).1))) 72 (zup b72 ((((zgt v15).2.2)).toNatClampNeg) (1048576 * v3))) 71 (((zgt v16).2.1))) 72 (((zgt v16).2.2.1))), (zuf (zuf (zuf (zuf (zuf (zuf (zuf (zuf (zuf (zuf (zuf (zuf (zuf (zuf (zuf (zuf fi 64 7 c64_7) 64 9 c64_9) 64 10 c64_10) 64 11 c64_11) 64 12 c64_12) 64 13 c64_13) 64 12 (((zgt v15).2.1))) 64 13 (((zgt v15).2.2))) 64 13 ((((zgt v15).2.2)) + 1)) 64 7 (c64_7 + 1)) 64 7 (((zgt v16).2.2.2.1))) 64 9 (((zgt v16).2.2.2.2.1))) 64 10 (((zgt v16).2.2.2.2.2.1))) 64 11 (((zgt v16).2.2.2.2.2.2.1))) 64 12 (((zgt v16).2.2.2.2.2.2.2.1))) 64 13 (((zgt v16).2.2.2.2.2.2.2.2))), (m1, m2, m3, m4, m5))))
    else
     some (.inr (some (.int 0), ((zua (zua (zua (zua (zua (zua ar 71 b71) 72 b72) 71 (((zgt v15).1))) 72 (zup b72 ((((zgt v15).2.2)).toNatClampNeg) (1048576 * v3))) 71 (((zgt v16).2.1))) 72 (((zgt v16).2.2.1))), (zuf (zuf (zuf (zuf (zuf (zuf (zuf (zuf (zuf (zuf (zuf (zuf (zuf (zuf (zuf (zuf fi 64 7 c64_7) 64 9 c64_9) 64 10 c64_10) 64 11 c64_11) 64 12 c64_12) 64 13 c64_13) 64 12 (((zgt v15).2.1))) 64 13 (((zgt v15).2.2))) 64 13 ((((zgt v15).2.2)) + 1)) 64 7 (c64_7 + 1)) 64 7 (((zgt v16).2.2.2.1))) 64 9 (((zgt v16).2.2.2.2.1))) 64 10 (((zgt v16).2.2.2.2.2.1))) 64 11 (((zgt v16).2.2.2.2.2.2.1))) 64 12 (((zgt v16).2.2.2.2.2.2.2.1))) 64 13 (((zgt v16).2.2.2.2.2.2.2.2))), (m1, m2, m3, m4, m5)))))))))
   else
    zl (Q_md_closesSums 1 b71 b72 c64_12 c64_13) (fun v17 => zg v17.isSome (
    zg (zin (((zgt v17).2.2)) 260) (
    zl (Q_md_readsFactor (ar 70) (((zgt v17).1)) (zup b72 ((((zgt v17).2.2)).toNatClampNeg) (1048576 * v3)) (c64_7 + 1) (fi 64 8) c64_9 c64_10 c64_11 (((zgt v17).2.1)) ((((zgt v17).2.2)) + 1)) (fun v18 => zg v18.isSome (
    bif !decide (((zgt v18).1) = 0) then
     some (.inl (14, [.ref 64, .int l1], [], ((zua (zua (zua (zua (zua (zua ar 71 b71) 72 b72) 71 (((zgt v17).1))) 72 (zup b72 ((((zgt v17).2.2)).toNatClampNeg) (1048576 * v3))) 71 (((zgt v18).2.1))) 72 (((zgt v18).2.2.1))), (zuf (zuf (zuf (zuf (zuf (zuf (zuf (zuf (zuf (zuf (zuf (zuf (zuf (zuf (zuf (zuf fi 64 7 c64_7) 64 9 c64_9) 64 10 c64_10) 64 11 c64_11) 64 12 c64_12) 64 13 c64_13) 64 12 (((zgt v17).2.1))) 64 13 (((zgt v17).2.2))) 64 13 ((((zgt v17).2.2)) + 1)) 64 7 (c64_7 + 1)) 64 7 (((zgt v18).2.2.2.1))) 64 9 (((zgt v18).2.2.2.2.1))) 64 10 (((zgt v18).2.2.2.2.2.1))) 64 11 (((zgt v18).2.2.2.2.2.2.1))) 64 12 (((zgt v18).2.2.2.2.2.2.2.1))) 64 13 (((zgt v18).2.2.2.2.2.2.2.2))), (m1, m2, m3, m4, m5))))
    else
     some (.inr (some (.int 0), ((zua (zua (zua (zua (zua (zua ar 71 b71) 72 b72) 71 (((zgt v17).1))) 72 (zup b72 ((((zgt v17).2.2)).toNatClampNeg) (1048576 * v3))) 71 (((zgt v18).2.1))) 72 (((zgt v18).2.2.1))), (zuf (zuf (zuf (zuf (zuf (zuf (zuf (zuf (zuf (zuf (zuf (zuf (zuf (zuf (zuf (zuf fi 64 7 c64_7) 64 9 c64_9) 64 10 c64_10) 64 11 c64_11) 64 12 c64_12) 64 13 c64_13) 64 12 (((zgt v17).2.1))) 64 13 (((zgt v17).2.2))) 64 13 ((((zgt v17).2.2)) + 1)) 64 7 (c64_7 + 1)) 64 7 (((zgt v18).2.2.2.1))) 64 9 (((zgt v18).2.2.2.2.1))) 64 10 (((zgt v18).2.2.2.2.2.1))) 64 11 (((zgt v18).2.2.2.2.2.2.1))) 64 12 (((zgt v18).2.2.2.2.2.2.2.1))) 64 13 (((zgt v18).2.2.2.2.2.2.2.2))), (m1, m2, m3, m4, m5)))))))))))) : Option ((Nat × List Value × List Value × zH2) ⊕ zO2)) := rfl
theorem k_md_readsSum_14 {X : Nat × (Nat → Int32)} {ar fi : Nat → Nat → Int32} {m1 m2 m3 m4 m5 : Nat} {l1 : Int32} {o : zO2} : ∀ (s : U_md_readsSum_14) (q : U_md_readsSum_14 ⊕ T_md_readsSum), f_md_readsSum_14 (ar 70) (fi 64 8) l1 s = some q → zq (M_md_readsSum_14 X (zEx 169 S_md_readsFactor (zEx 158 S_md_here (zEx 167 S_md_sumSign (zEx 168 S_md_closesSums (zEx 170 S_md_hasOpenSum (zEx 160 S_md_wrongAt zE0)))))) ar fi m1 m2 m3 m4 m5 l1 o) (fun t => O_md_readsSum ar fi m1 m2 m3 m4 m5 t = o) q → M_md_readsSum_14 X (zEx 169 S_md_readsFactor (zEx 158 S_md_here (zEx 167 S_md_sumSign (zEx 168 S_md_closesSums (zEx 170 S_md_hasOpenSum (zEx 160 S_md_wrongAt zE0)))))) ar fi m1 m2 m3 m4 m5 l1 o s := by
  intro s q h hq
  obtain ⟨b71, b72, c64_7, c64_9, c64_10, c64_11, c64_12, c64_13⟩ := s
  have h : b_md_readsSum_14 (ar 70) (fi 64 8) l1 b71 b72 c64_7 c64_9 c64_10 c64_11 c64_12 c64_13 = some q := h
  unfold b_md_readsSum_14 at h
  show zR2 X zFT (zEx 169 S_md_readsFactor (zEx 158 S_md_here (zEx 167 S_md_sumSign (zEx 168 S_md_closesSums (zEx 170 S_md_hasOpenSum (zEx 160 S_md_wrongAt zE0)))))) zc_171 14 [.ref 64, .int l1] [] ((zua (zua ar 71 b71) 72 b72), (zuf (zuf (zuf (zuf (zuf (zuf fi 64 7 c64_7) 64 9 c64_9) 64 10 c64_10) 64 11 c64_11) 64 12 c64_12) 64 13 c64_13), (m1, m2, m3, m4, m5)) o
  refine zT_seg t14_md_readsSum ?_
  refine zg_el h (fun hg h => zT_g hg ?_)
  refine zl_el h (fun h => zT_l ?_)
  refine zl_el h (fun h => zT_l ?_)
  refine zb_el h (fun hb h => zT_t hb ?_) (fun hb h => zT_f hb ?_)
  · refine zg_el h (fun hg h => zT_g hg ?_)
    refine zl_el h (fun h => zT_l ?_)
    refine zb_el h (fun hb h => zT_t hb ?_) (fun hb h => zT_f hb ?_)
    · refine zbd_el h (fun v5 hv h => zT_c hv ?_)
      refine zb_el h (fun hb h => zT_t hb ?_) (fun hb h => zT_f hb ?_)
      · refine zbd_el h (fun v6 hv h => zT_c hv ?_)
        have hz := zsi h hq
        refine (zO_mk ?_ ?_).trans hz
        · first | with_reducible rfl | (exact zuas_eq _ [(71, _), (72, _), (71, _)] [(71, _), (72, _)] [71, 72] rfl rfl ⟨rfl, rfl, trivial⟩)
        · first | with_reducible rfl | (exact zufs_eq _ [(64, 7, _), (64, 9, _), (64, 10, _), (64, 11, _), (64, 12, _), (64, 13, _), (64, 12, _), (64, 13, _)] [(64, 7, _), (64, 9, _), (64, 10, _), (64, 11, _), (64, 12, _), (64, 13, _)] [(64, 7), (64, 9), (64, 10), (64, 11), (64, 12), (64, 13)] rfl rfl ⟨rfl, rfl, rfl, rfl, rfl, rfl, trivial⟩)
      · refine zl_el h (fun h => zT_l ?_)
        refine zl_el h (fun h => zT_l ?_)
        refine zg_el h (fun hg h => zT_g hg ?_)
        have hz := zsi h hq
        refine (zO_mk ?_ ?_).trans hz
        · first | with_reducible rfl | (exact zuas_eq _ [(71, _), (72, _)] [(71, _), (72, _)] [71, 72] rfl rfl ⟨rfl, rfl, trivial⟩)
        · first | with_reducible rfl | (exact zufs_eq _ [(64, 7, _), (64, 9, _), (64, 10, _), (64, 11, _), (64, 12, _), (64, 13, _), (64, 9, _)] [(64, 7, _), (64, 9, _), (64, 10, _), (64, 11, _), (64, 12, _), (64, 13, _)] [(64, 7), (64, 9), (64, 10), (64, 11), (64, 12), (64, 13)] rfl rfl ⟨rfl, rfl, rfl, rfl, rfl, rfl, trivial⟩)
    · refine zbd_el h (fun v9 hv h => zT_c hv ?_)
      refine zb_el h (fun hb h => zT_t hb ?_) (fun hb h => zT_f hb ?_)
      · refine zbd_el h (fun v10 hv h => zT_c hv ?_)
        refine zb_el h (fun hb h => zT_t hb ?_) (fun hb h => zT_f hb ?_)
        · refine zbd_el h (fun v11 hv h => zT_c hv ?_)
          have hz := zsi h hq
          refine (zO_mk ?_ ?_).trans hz
          · first | with_reducible rfl | (exact zuas_eq _ [(71, _), (72, _), (71, _)] [(71, _), (72, _)] [71, 72] rfl rfl ⟨rfl, rfl, trivial⟩)
          · first | with_reducible rfl | (exact zufs_eq _ [(64, 7, _), (64, 9, _), (64, 10, _), (64, 11, _), (64, 12, _), (64, 13, _), (64, 12, _), (64, 13, _)] [(64, 7, _), (64, 9, _), (64, 10, _), (64, 11, _), (64, 12, _), (64, 13, _)] [(64, 7), (64, 9), (64, 10), (64, 11), (64, 12), (64, 13)] rfl rfl ⟨rfl, rfl, rfl, rfl, rfl, rfl, trivial⟩)
        · refine zl_el h (fun h => zT_l ?_)
          refine zl_el h (fun h => zT_l ?_)
          refine zg_el h (fun hg h => zT_g hg ?_)
          have hz := zsi h hq
          refine (zO_mk ?_ ?_).trans hz
          · first | with_reducible rfl | (exact zuas_eq _ [(71, _), (72, _)] [(71, _), (72, _)] [71, 72] rfl rfl ⟨rfl, rfl, trivial⟩)
          · first | with_reducible rfl | (exact zufs_eq _ [(64, 7, _), (64, 9, _), (64, 10, _), (64, 11, _), (64, 12, _), (64, 13, _), (64, 9, _)] [(64, 7, _), (64, 9, _), (64, 10, _), (64, 11, _), (64, 12, _), (64, 13, _)] [(64, 7), (64, 9), (64, 10), (64, 11), (64, 12), (64, 13)] rfl rfl ⟨rfl, rfl, rfl, rfl, rfl, rfl, trivial⟩)
      · refine zbd_el h (fun v14 hv h => zT_c hv ?_)
        have hz := zsi h hq
        refine zR2_hp ?_ ?_ hz
        · first | with_reducible rfl | (exact zuas_eq _ [(71, _), (72, _), (71, _)] [(71, _), (72, _)] [71, 72] rfl rfl ⟨rfl, rfl, trivial⟩)
        · first | with_reducible rfl | (exact zufs_eq _ [(64, 7, _), (64, 9, _), (64, 10, _), (64, 11, _), (64, 12, _), (64, 13, _), (64, 12, _), (64, 13, _), (64, 13, _), (64, 11, _), (64, 7, _)] [(64, 7, _), (64, 9, _), (64, 10, _), (64, 11, _), (64, 12, _), (64, 13, _)] [(64, 7), (64, 9), (64, 10), (64, 11), (64, 12), (64, 13)] rfl rfl ⟨rfl, rfl, rfl, rfl, rfl, rfl, trivial⟩)
  · refine zb_el h (fun hb h => zT_t hb ?_) (fun hb h => zT_f hb ?_)
    · refine zbd_el h (fun v15 hv h => zT_c hv ?_)
      refine zg_el h (fun hg h => zT_g hg ?_)
      refine zbd_el h (fun v16 hv h => zT_c hv ?_)
      refine zb_el h (fun hb h => zT_t hb ?_) (fun hb h => zT_f hb ?_)
      · have hz := zsi h hq
        refine zR2_hp ?_ ?_ hz
        · first | with_reducible rfl | (exact zuas_eq _ [(71, _), (72, _), (71, _), (72, _), (71, _), (72, _)] [(71, _), (72, _)] [71, 72] rfl rfl ⟨rfl, rfl, trivial⟩)
        · first | with_reducible rfl | (exact zufs_eq _ [(64, 7, _), (64, 9, _), (64, 10, _), (64, 11, _), (64, 12, _), (64, 13, _), (64, 12, _), (64, 13, _), (64, 13, _), (64, 7, _), (64, 7, _), (64, 9, _), (64, 10, _), (64, 11, _), (64, 12, _), (64, 13, _)] [(64, 7, _), (64, 9, _), (64, 10, _), (64, 11, _), (64, 12, _), (64, 13, _)] [(64, 7), (64, 9), (64, 10), (64, 11), (64, 12), (64, 13)] rfl rfl ⟨rfl, rfl, rfl, rfl, rfl, rfl, trivial⟩)
      · have hz := zsi h hq
        refine (zO_mk ?_ ?_).trans hz
        · first | with_reducible rfl | (exact zuas_eq _ [(71, _), (72, _), (71, _), (72, _), (71, _), (72, _)] [(71, _), (72, _)] [71, 72] rfl rfl ⟨rfl, rfl, trivial⟩)
        · first | with_reducible rfl | (exact zufs_eq _ [(64, 7, _), (64, 9, _), (64, 10, _), (64, 11, _), (64, 12, _), (64, 13, _), (64, 12, _), (64, 13, _), (64, 13, _), (64, 7, _), (64, 7, _), (64, 9, _), (64, 10, _), (64, 11, _), (64, 12, _), (64, 13, _)] [(64, 7, _), (64, 9, _), (64, 10, _), (64, 11, _), (64, 12, _), (64, 13, _)] [(64, 7), (64, 9), (64, 10), (64, 11), (64, 12), (64, 13)] rfl rfl ⟨rfl, rfl, rfl, rfl, rfl, rfl, trivial⟩)
    · refine zbd_el h (fun v17 hv h => zT_c hv ?_)
      refine zg_el h (fun hg h => zT_g hg ?_)
      refine zbd_el h (fun v18 hv h => zT_c hv ?_)
      refine zb_el h (fun hb h => zT_t hb ?_) (fun hb h => zT_f hb ?_)
      · have hz := zsi h hq
        refine zR2_hp ?_ ?_ hz
        · first | with_reducible rfl | (exact zuas_eq _ [(71, _), (72, _), (71, _), (72, _), (71, _), (72, _)] [(71, _), (72, _)] [71, 72] rfl rfl ⟨rfl, rfl, trivial⟩)
        · first | with_reducible rfl | (exact zufs_eq _ [(64, 7, _), (64, 9, _), (64, 10, _), (64, 11, _), (64, 12, _), (64, 13, _), (64, 12, _), (64, 13, _), (64, 13, _), (64, 7, _), (64, 7, _), (64, 9, _), (64, 10, _), (64, 11, _), (64, 12, _), (64, 13, _)] [(64, 7, _), (64, 9, _), (64, 10, _), (64, 11, _), (64, 12, _), (64, 13, _)] [(64, 7), (64, 9), (64, 10), (64, 11), (64, 12), (64, 13)] rfl rfl ⟨rfl, rfl, rfl, rfl, rfl, rfl, trivial⟩)
      · have hz := zsi h hq
        refine (zO_mk ?_ ?_).trans hz
        · first | with_reducible rfl | (exact zuas_eq _ [(71, _), (72, _), (71, _), (72, _), (71, _), (72, _)] [(71, _), (72, _)] [71, 72] rfl rfl ⟨rfl, rfl, trivial⟩)
        · first | with_reducible rfl | (exact zufs_eq _ [(64, 7, _), (64, 9, _), (64, 10, _), (64, 11, _), (64, 12, _), (64, 13, _), (64, 12, _), (64, 13, _), (64, 13, _), (64, 7, _), (64, 7, _), (64, 9, _), (64, 10, _), (64, 11, _), (64, 12, _), (64, 13, _)] [(64, 7, _), (64, 9, _), (64, 10, _), (64, 11, _), (64, 12, _), (64, 13, _)] [(64, 7), (64, 9), (64, 10), (64, 11), (64, 12), (64, 13)] rfl rfl ⟨rfl, rfl, rfl, rfl, rfl, rfl, trivial⟩)
set_option maxRecDepth 20000 in
theorem t_md_readsSum {X : Nat × (Nat → Int32)} {ar fi : Nat → Nat → Int32} {m1 m2 m3 m4 m5 : Nat} {Q_md_readsFactor : (Nat → Int32) → (Nat → Int32) → (Nat → Int32) → Int32 → Int32 → Int32 → Int32 → Int32 → Int32 → Int32 → Option (Int32 × (Nat → Int32) × (Nat → Int32) × Int32 × Int32 × Int32 × Int32 × Int32 × Int32)} {G_md_here : Int32 → Int32 → (Nat → Int32) → Bool} {W_md_here : Int32 → Int32 → (Nat → Int32) → Int32} {W_md_sumSign : Int32 → Int32} {Q_md_closesSums : Int32 → (Nat → Int32) → (Nat → Int32) → Int32 → Int32 → Option ((Nat → Int32) × Int32 × Int32)} {Q_md_hasOpenSum : Int32 → (Nat → Int32) → Int32 → Option (Int32)} {W_md_wrongAt : Int32 → Int32 → Int32} {F0_md_wrongAt : Int32 → Int32 → Int32} : zseg X zFT (zEx 169 (P_md_readsFactor Q_md_readsFactor) (zEx 158 (P_md_here G_md_here W_md_here) (zEx 167 (P_md_sumSign W_md_sumSign) (zEx 168 (P_md_closesSums Q_md_closesSums) (zEx 170 (P_md_hasOpenSum Q_md_hasOpenSum) (zEx 160 (P_md_wrongAt W_md_wrongAt F0_md_wrongAt) zE0)))))) zc_171 (fun p => Nat.beq p 14) 400 0 [.ref 64] [] (ar, fi, (m1, m2, m3, m4, m5)) = (
  zl (Q_md_readsFactor (ar 70) (ar 71) (ar 72) (fi 64 7) (fi 64 8) (fi 64 9) (fi 64 10) (fi 64 11) (fi 64 12) (fi 64 13)) (fun v1 => zg v1.isSome (
  bif !decide (((zgt v1).1) = 0) then
   some (.inl (14, [.ref 64, .int (fi 64 13)], [], ((zua (zua ar 71 (((zgt v1).2.1))) 72 (((zgt v1).2.2.1))), (zuf (zuf (zuf (zuf (zuf (zuf fi 64 7 (((zgt v1).2.2.2.1))) 64 9 (((zgt v1).2.2.2.2.1))) 64 10 (((zgt v1).2.2.2.2.2.1))) 64 11 (((zgt v1).2.2.2.2.2.2.1))) 64 12 (((zgt v1).2.2.2.2.2.2.2.1))) 64 13 (((zgt v1).2.2.2.2.2.2.2.2))), (m1, m2, m3, m4, m5))))
  else
   some (.inr (some (.int 0), ((zua (zua ar 71 (((zgt v1).2.1))) 72 (((zgt v1).2.2.1))), (zuf (zuf (zuf (zuf (zuf (zuf fi 64 7 (((zgt v1).2.2.2.1))) 64 9 (((zgt v1).2.2.2.2.1))) 64 10 (((zgt v1).2.2.2.2.2.1))) 64 11 (((zgt v1).2.2.2.2.2.2.1))) 64 12 (((zgt v1).2.2.2.2.2.2.2.1))) 64 13 (((zgt v1).2.2.2.2.2.2.2.2))), (m1, m2, m3, m4, m5)))))) : Option ((Nat × List Value × List Value × zH2) ⊕ zO2)) := rfl
theorem e_md_readsSum {X : Nat × (Nat → Int32)} {ar fi : Nat → Nat → Int32} {m1 m2 m3 m4 m5 : Nat} {o : zO2} : ∀ (q : T_md_readsSum), q_md_readsSum (ar 70) (ar 71) (ar 72) (fi 64 7) (fi 64 8) (fi 64 9) (fi 64 10) (fi 64 11) (fi 64 12) (fi 64 13) = some q → (fun t => O_md_readsSum ar fi m1 m2 m3 m4 m5 t = o) q → zR2 X zFT (zEx 169 S_md_readsFactor (zEx 158 S_md_here (zEx 167 S_md_sumSign (zEx 168 S_md_closesSums (zEx 170 S_md_hasOpenSum (zEx 160 S_md_wrongAt zE0)))))) zc_171 0 [.ref 64] [] (ar, fi, (m1, m2, m3, m4, m5)) o := by
  intro q h hq
  unfold q_md_readsSum at h
  refine zT_seg t_md_readsSum ?_
  refine zbd_el h (fun v1 hv h => zT_c hv ?_)
  refine zb_el h (fun hb h => zT_t hb ?_) (fun hb h => zT_f hb ?_)
  · refine zR2_hp ?_ ?_ (zlp_K k_md_readsSum_14 h hq)
    · first | with_reducible rfl | (exact zuas_eq _ [(71, _), (72, _)] [(71, _), (72, _)] [71, 72] rfl rfl ⟨rfl, rfl, trivial⟩)
    · first | with_reducible rfl | (exact zufs_eq _ [(64, 7, _), (64, 9, _), (64, 10, _), (64, 11, _), (64, 12, _), (64, 13, _)] [(64, 7, _), (64, 9, _), (64, 10, _), (64, 11, _), (64, 12, _), (64, 13, _)] [(64, 7), (64, 9), (64, 10), (64, 11), (64, 12), (64, 13)] rfl rfl ⟨rfl, rfl, rfl, rfl, rfl, rfl, trivial⟩)
  · have hz := zsi h hq
    refine (zO_mk ?_ ?_).trans hz
    · first | with_reducible rfl | (exact zuas_eq _ [(71, _), (72, _)] [(71, _), (72, _)] [71, 72] rfl rfl ⟨rfl, rfl, trivial⟩)
    · first | with_reducible rfl | (exact zufs_eq _ [(64, 7, _), (64, 9, _), (64, 10, _), (64, 11, _), (64, 12, _), (64, 13, _)] [(64, 7, _), (64, 9, _), (64, 10, _), (64, 11, _), (64, 12, _), (64, 13, _)] [(64, 7), (64, 9), (64, 10), (64, 11), (64, 12), (64, 13)] rfl rfl ⟨rfl, rfl, rfl, rfl, rfl, rfl, trivial⟩)
theorem ok_md_readsSum (X : Nat × (Nat → Int32)) : zOkS X 171 S_md_readsSum 5 := zOkS_new (zOkE_cons (ok_md_readsFactor X) (by decide) (zOkE_cons (ok_md_here X) (by decide) (zOkE_cons (ok_md_sumSign X) (by decide) (zOkE_cons (ok_md_closesSums X) (by decide) (zOkE_cons (ok_md_hasOpenSum X) (by decide) (zOkE_cons (ok_md_wrongAt X) (by decide) (zOkE_nil X 4))))))) (by
  intro args g o h
  obtain ⟨ar, fi, m1, m2, m3, m4, m5⟩ := g
  unfold S_md_readsSum P_md_readsSum at h
  split at h
  · refine zb_el h (fun hI0 k0 => ?_) (fun _ h10 => ?_)
    · try simp only [Bool.and_eq_true] at hI0
      have j0 := hI0
      have e0 := Nat.eq_of_beq_eq_true j0
      subst e0
      exact zpe_el k0 (fun t ht ho => e_md_readsSum t ht ho)
    · cases h10
  · cases h)
abbrev T_md_endsPiece : Type := (Nat → Int32) × Int32 × Int32 × Int32
abbrev U_md_endsPiece_0 : Type := (Nat → Int32) × Int32 × Int32 × Int32
def b_md_endsPiece_0 (a72 : Nat → Int32) (b71 : Nat → Int32) (c64_11 : Int32) (c64_12 : Int32) (c64_13 : Int32) : Option (U_md_endsPiece_0 ⊕ T_md_endsPiece) :=
  zg (g_md_waitTop c64_13 a72) (
  zl (w_md_waitTop c64_13 a72) (fun v1 =>
  bif !decide (v1 = 10) then
   some (.inr (b71, c64_11, c64_12, c64_13))
  else
   zg (g_md_notes 10 0 c64_12 b71) (
   zl (a0_md_notes 10 0 c64_12 b71) (fun v2 =>
   zl (f0_md_notes 10 0 c64_12 b71) (fun v3 =>
   some (.inl (v2, c64_11 - 1, v3, c64_13 - 1)))))))
def f_md_endsPiece_0 (a72 : Nat → Int32) : U_md_endsPiece_0 → Option (U_md_endsPiece_0 ⊕ T_md_endsPiece) := fun s => b_md_endsPiece_0 a72 s.1 s.2.1 s.2.2.1 s.2.2.2
noncomputable def l_md_endsPiece_0 (a72 : Nat → Int32) (b71 : Nat → Int32) (c64_11 : Int32) (c64_12 : Int32) (c64_13 : Int32) : Option T_md_endsPiece := zlp (f_md_endsPiece_0 a72) (b71, c64_11, c64_12, c64_13)
noncomputable def q_md_endsPiece (a71 : Nat → Int32) (a72 : Nat → Int32) (f64_11 : Int32) (f64_12 : Int32) (f64_13 : Int32) : Option T_md_endsPiece :=
  l_md_endsPiece_0 a72 a71 (f64_11) (f64_12) (f64_13)
def P_md_endsPiece (Q : (Nat → Int32) → (Nat → Int32) → Int32 → Int32 → Int32 → Option ((Nat → Int32) × Int32 × Int32 × Int32)) : zSp := fun as g => match as with
  | [.ref a] => bif Nat.beq a 64 then zpe (Q (g.1 71) (g.1 72) (g.2.1 64 11) (g.2.1 64 12) (g.2.1 64 13)) (fun t => (none, ((zua g.1 71 t.1), (zuf (zuf (zuf g.2.1 64 11 t.2.1) 64 12 t.2.2.1) 64 13 t.2.2.2), g.2.2))) else none
  | _ => none
noncomputable abbrev S_md_endsPiece : zSp := P_md_endsPiece q_md_endsPiece
def O_md_endsPiece (ar fi : Nat → Nat → Int32) (m1 : Nat) (m2 : Nat) (m3 : Nat) (m4 : Nat) (m5 : Nat) (t : T_md_endsPiece) : zO2 := (none, ((zua ar 71 t.1), (zuf (zuf (zuf fi 64 11 t.2.1) 64 12 t.2.2.1) 64 13 t.2.2.2), (m1, m2, m3, m4, m5)))
def M_md_endsPiece_0 (X : Nat × (Nat → Int32)) (E : zTE) (ar fi : Nat → Nat → Int32) (m1 : Nat) (m2 : Nat) (m3 : Nat) (m4 : Nat) (m5 : Nat) (o : zO2) (s : U_md_endsPiece_0) : Prop := zR2 X zFT E zc_172 0 [.ref 64] [] ((zua ar 71 s.1), (zuf (zuf (zuf fi 64 11 s.2.1) 64 12 s.2.2.1) 64 13 s.2.2.2), (m1, m2, m3, m4, m5)) o
set_option maxRecDepth 20000 in
theorem t0_md_endsPiece {X : Nat × (Nat → Int32)} {ar fi : Nat → Nat → Int32} {m1 m2 m3 m4 m5 : Nat} {b71 : Nat → Int32} {c64_11 : Int32} {c64_12 : Int32} {c64_13 : Int32} {G_md_waitTop : Int32 → (Nat → Int32) → Bool} {W_md_waitTop : Int32 → (Nat → Int32) → Int32} {G_md_notes : Int32 → Int32 → Int32 → (Nat → Int32) → Bool} {A0_md_notes : Int32 → Int32 → Int32 → (Nat → Int32) → Nat → Int32} {F0_md_notes : Int32 → Int32 → Int32 → (Nat → Int32) → Int32} : zseg X zFT (zEx 165 (P_md_waitTop G_md_waitTop W_md_waitTop) (zEx 163 (P_md_notes G_md_notes A0_md_notes F0_md_notes) zE0)) zc_172 (fun p => Nat.beq p 0) 400 0 [.ref 64] [] ((zua ar 71 b71), (zuf (zuf (zuf fi 64 11 c64_11) 64 12 c64_12) 64 13 c64_13), (m1, m2, m3, m4, m5)) = (
  zg (G_md_waitTop c64_13 (ar 72)) (
  zl (W_md_waitTop c64_13 (ar 72)) (fun v1 =>
  bif !decide (v1 = 10) then
   some (.inr (none, ((zua ar 71 b71), (zuf (zuf (zuf fi 64 11 c64_11) 64 12 c64_12) 64 13 c64_13), (m1, m2, m3, m4, m5))))
  else
   zg (G_md_notes 10 0 c64_12 b71) (
   zl (A0_md_notes 10 0 c64_12 b71) (fun v2 =>
   zl (F0_md_notes 10 0 c64_12 b71) (fun v3 =>
   some (.inl (0, [.ref 64], [], ((zua (zua ar 71 b71) 71 v2), (zuf (zuf (zuf (zuf (zuf (zuf fi 64 11 c64_11) 64 12 c64_12) 64 13 c64_13) 64 12 v3) 64 13 (c64_13 - 1)) 64 11 (c64_11 - 1)), (m1, m2, m3, m4, m5))))))))) : Option ((Nat × List Value × List Value × zH2) ⊕ zO2)) := rfl
theorem k_md_endsPiece_0 {X : Nat × (Nat → Int32)} {ar fi : Nat → Nat → Int32} {m1 m2 m3 m4 m5 : Nat} {o : zO2} : ∀ (s : U_md_endsPiece_0) (q : U_md_endsPiece_0 ⊕ T_md_endsPiece), f_md_endsPiece_0 (ar 72) s = some q → zq (M_md_endsPiece_0 X (zEx 165 S_md_waitTop (zEx 163 S_md_notes zE0)) ar fi m1 m2 m3 m4 m5 o) (fun t => O_md_endsPiece ar fi m1 m2 m3 m4 m5 t = o) q → M_md_endsPiece_0 X (zEx 165 S_md_waitTop (zEx 163 S_md_notes zE0)) ar fi m1 m2 m3 m4 m5 o s := by
  intro s q h hq
  obtain ⟨b71, c64_11, c64_12, c64_13⟩ := s
  have h : b_md_endsPiece_0 (ar 72) b71 c64_11 c64_12 c64_13 = some q := h
  unfold b_md_endsPiece_0 at h
  show zR2 X zFT (zEx 165 S_md_waitTop (zEx 163 S_md_notes zE0)) zc_172 0 [.ref 64] [] ((zua ar 71 b71), (zuf (zuf (zuf fi 64 11 c64_11) 64 12 c64_12) 64 13 c64_13), (m1, m2, m3, m4, m5)) o
  refine zT_seg t0_md_endsPiece ?_
  refine zg_el h (fun hg h => zT_g hg ?_)
  refine zl_el h (fun h => zT_l ?_)
  refine zb_el h (fun hb h => zT_t hb ?_) (fun hb h => zT_f hb ?_)
  · have hz := zsi h hq
    refine (zO_mk ?_ ?_).trans hz
    · first | with_reducible rfl | (exact zuas_eq _ [(71, _)] [(71, _)] [71] rfl rfl ⟨rfl, trivial⟩)
    · first | with_reducible rfl | (exact zufs_eq _ [(64, 11, _), (64, 12, _), (64, 13, _)] [(64, 11, _), (64, 12, _), (64, 13, _)] [(64, 11), (64, 12), (64, 13)] rfl rfl ⟨rfl, rfl, rfl, trivial⟩)
  · refine zg_el h (fun hg h => zT_g hg ?_)
    refine zl_el h (fun h => zT_l ?_)
    refine zl_el h (fun h => zT_l ?_)
    have hz := zsi h hq
    refine zR2_hp ?_ ?_ hz
    · first | with_reducible rfl | (exact zuas_eq _ [(71, _), (71, _)] [(71, _)] [71] rfl rfl ⟨rfl, trivial⟩)
    · first | with_reducible rfl | (exact zufs_eq _ [(64, 11, _), (64, 12, _), (64, 13, _), (64, 12, _), (64, 13, _), (64, 11, _)] [(64, 11, _), (64, 12, _), (64, 13, _)] [(64, 11), (64, 12), (64, 13)] rfl rfl ⟨rfl, rfl, rfl, trivial⟩)
theorem e_md_endsPiece {X : Nat × (Nat → Int32)} {ar fi : Nat → Nat → Int32} {m1 m2 m3 m4 m5 : Nat} {o : zO2} : ∀ (q : T_md_endsPiece), q_md_endsPiece (ar 71) (ar 72) (fi 64 11) (fi 64 12) (fi 64 13) = some q → (fun t => O_md_endsPiece ar fi m1 m2 m3 m4 m5 t = o) q → zR2 X zFT (zEx 165 S_md_waitTop (zEx 163 S_md_notes zE0)) zc_172 0 [.ref 64] [] (ar, fi, (m1, m2, m3, m4, m5)) o := by
  intro q h hq
  unfold q_md_endsPiece at h
  refine zR2_hp ?_ ?_ (zlp_K k_md_endsPiece_0 h hq)
  · first | with_reducible rfl | (exact zuas_eq _ [] [(71, _)] [71] rfl rfl ⟨rfl, trivial⟩)
  · first | with_reducible rfl | (exact zufs_eq _ [] [(64, 11, _), (64, 12, _), (64, 13, _)] [(64, 11), (64, 12), (64, 13)] rfl rfl ⟨rfl, rfl, rfl, trivial⟩)
theorem ok_md_endsPiece (X : Nat × (Nat → Int32)) : zOkS X 172 S_md_endsPiece 2 := zOkS_new (zOkE_cons (ok_md_waitTop X) (by decide) (zOkE_cons (ok_md_notes X) (by decide) (zOkE_nil X 1))) (by
  intro args g o h
  obtain ⟨ar, fi, m1, m2, m3, m4, m5⟩ := g
  unfold S_md_endsPiece P_md_endsPiece at h
  split at h
  · refine zb_el h (fun hI0 k0 => ?_) (fun _ h10 => ?_)
    · try simp only [Bool.and_eq_true] at hI0
      have j0 := hI0
      have e0 := Nat.eq_of_beq_eq_true j0
      subst e0
      exact zpe_el k0 (fun t ht ho => e_md_endsPiece t ht ho)
    · cases h10
  · cases h)
abbrev T_md_lands : Type := (Nat → Int32) × Int32
abbrev U_md_lands_0 : Type := (Nat → Int32) × Int32
def b_md_lands_0 (x : Int32) (a72 : Nat → Int32) (f64_12 : Int32) (b71 : Nat → Int32) (c64_13 : Int32) : Option (U_md_lands_0 ⊕ T_md_lands) :=
  zg (g_md_waitTop c64_13 a72) (
  zl (w_md_waitTop c64_13 a72) (fun v1 =>
  bif decide (v1 = 11) then
   zg (zin (c64_13 - 1) 260) (
   zg (zin ((a72 ((c64_13 - 1).toNatClampNeg)) - (a72 ((c64_13 - 1).toNatClampNeg)) / 1048576 * 1048576) 260) (
   zg (zin ((a72 ((c64_13 - 1).toNatClampNeg)) - (a72 ((c64_13 - 1).toNatClampNeg)) / 1048576 * 1048576) 260) (
   some (.inl ((zup b71 (((a72 ((c64_13 - 1).toNatClampNeg)) - (a72 ((c64_13 - 1).toNatClampNeg)) / 1048576 * 1048576).toNatClampNeg) ((1048576 * ((b71 (((a72 ((c64_13 - 1).toNatClampNeg)) - (a72 ((c64_13 - 1).toNatClampNeg)) / 1048576 * 1048576).toNatClampNeg)) / 1048576)) + (f64_12))), c64_13 - 1)))))
  else
   bif decide (x = 0) then
    some (.inr (b71, c64_13))
   else
    zg (g_md_waitTop c64_13 a72) (
    zl (w_md_waitTop c64_13 a72) (fun v2 =>
    bif !decide (v2 = 12) then
     some (.inr (b71, c64_13))
    else
     zg (zin (c64_13 - 1) 260) (
     zg (zin ((a72 ((c64_13 - 1).toNatClampNeg)) - (a72 ((c64_13 - 1).toNatClampNeg)) / 1048576 * 1048576) 260) (
     zg (zin ((a72 ((c64_13 - 1).toNatClampNeg)) - (a72 ((c64_13 - 1).toNatClampNeg)) / 1048576 * 1048576) 260) (
     some (.inl ((zup b71 (((a72 ((c64_13 - 1).toNatClampNeg)) - (a72 ((c64_13 - 1).toNatClampNeg)) / 1048576 * 1048576).toNatClampNeg) ((1048576 * ((b71 (((a72 ((c64_13 - 1).toNatClampNeg)) - (a72 ((c64_13 - 1).toNatClampNeg)) / 1048576 * 1048576).toNatClampNeg)) / 1048576)) + (f64_12))), c64_13 - 1)))))))))
def f_md_lands_0 (x : Int32) (a72 : Nat → Int32) (f64_12 : Int32) : U_md_lands_0 → Option (U_md_lands_0 ⊕ T_md_lands) := fun s => b_md_lands_0 x a72 f64_12 s.1 s.2
noncomputable def l_md_lands_0 (x : Int32) (a72 : Nat → Int32) (f64_12 : Int32) (b71 : Nat → Int32) (c64_13 : Int32) : Option T_md_lands := zlp (f_md_lands_0 x a72 f64_12) (b71, c64_13)
noncomputable def q_md_lands (x : Int32) (a71 : Nat → Int32) (a72 : Nat → Int32) (f64_12 : Int32) (f64_13 : Int32) : Option T_md_lands :=
  l_md_lands_0 x a72 f64_12 a71 (f64_13)
def P_md_lands (Q : Int32 → (Nat → Int32) → (Nat → Int32) → Int32 → Int32 → Option ((Nat → Int32) × Int32)) : zSp := fun as g => match as with
  | [.ref a, .int x] => bif Nat.beq a 64 then zpe (Q x (g.1 71) (g.1 72) (g.2.1 64 12) (g.2.1 64 13)) (fun t => (none, ((zua g.1 71 t.1), (zuf g.2.1 64 13 t.2), g.2.2))) else none
  | _ => none
noncomputable abbrev S_md_lands : zSp := P_md_lands q_md_lands
def O_md_lands (ar fi : Nat → Nat → Int32) (m1 : Nat) (m2 : Nat) (m3 : Nat) (m4 : Nat) (m5 : Nat) (t : T_md_lands) : zO2 := (none, ((zua ar 71 t.1), (zuf fi 64 13 t.2), (m1, m2, m3, m4, m5)))
def M_md_lands_0 (X : Nat × (Nat → Int32)) (E : zTE) (ar fi : Nat → Nat → Int32) (m1 : Nat) (m2 : Nat) (m3 : Nat) (m4 : Nat) (m5 : Nat) (x : Int32) (o : zO2) (s : U_md_lands_0) : Prop := zR2 X zFT E zc_173 0 [.ref 64, .int x] [] ((zua ar 71 s.1), (zuf fi 64 13 s.2), (m1, m2, m3, m4, m5)) o
set_option maxRecDepth 20000 in
theorem t0_md_lands {X : Nat × (Nat → Int32)} {ar fi : Nat → Nat → Int32} {m1 m2 m3 m4 m5 : Nat} {x : Int32} {b71 : Nat → Int32} {c64_13 : Int32} {G_md_waitTop : Int32 → (Nat → Int32) → Bool} {W_md_waitTop : Int32 → (Nat → Int32) → Int32} : zseg X zFT (zEx 165 (P_md_waitTop G_md_waitTop W_md_waitTop) zE0) zc_173 (fun p => Nat.beq p 0) 400 0 [.ref 64, .int x] [] ((zua ar 71 b71), (zuf fi 64 13 c64_13), (m1, m2, m3, m4, m5)) = (
  zg (G_md_waitTop c64_13 (ar 72)) (
  zl (W_md_waitTop c64_13 (ar 72)) (fun v1 =>
  bif decide (v1 = 11) then
   zg (zin (c64_13 - 1) 260) (
   zg (zin (((ar 72) ((c64_13 - 1).toNatClampNeg)) - ((ar 72) ((c64_13 - 1).toNatClampNeg)) / 1048576 * 1048576) 260) (
   zg (zin (((ar 72) ((c64_13 - 1).toNatClampNeg)) - ((ar 72) ((c64_13 - 1).toNatClampNeg)) / 1048576 * 1048576) 260) (
   some (.inl (0, [.ref 64, .int x], [], ((zua (zua ar 71 b71) 71 (zup b71 ((((ar 72) ((c64_13 - 1).toNatClampNeg)) - ((ar 72) ((c64_13 - 1).toNatClampNeg)) / 1048576 * 1048576).toNatClampNeg) ((1048576 * ((b71 ((((ar 72) ((c64_13 - 1).toNatClampNeg)) - ((ar 72) ((c64_13 - 1).toNatClampNeg)) / 1048576 * 1048576).toNatClampNeg)) / 1048576)) + (fi 64 12)))), (zuf (zuf fi 64 13 c64_13) 64 13 (c64_13 - 1)), (m1, m2, m3, m4, m5)))))))
  else
   bif decide (x = 0) then
    some (.inr (none, ((zua ar 71 b71), (zuf fi 64 13 c64_13), (m1, m2, m3, m4, m5))))
   else
    zg (G_md_waitTop c64_13 (ar 72)) (
    zl (W_md_waitTop c64_13 (ar 72)) (fun v2 =>
    bif !decide (v2 = 12) then
     some (.inr (none, ((zua ar 71 b71), (zuf fi 64 13 c64_13), (m1, m2, m3, m4, m5))))
    else
     zg (zin (c64_13 - 1) 260) (
     zg (zin (((ar 72) ((c64_13 - 1).toNatClampNeg)) - ((ar 72) ((c64_13 - 1).toNatClampNeg)) / 1048576 * 1048576) 260) (
     zg (zin (((ar 72) ((c64_13 - 1).toNatClampNeg)) - ((ar 72) ((c64_13 - 1).toNatClampNeg)) / 1048576 * 1048576) 260) (
     some (.inl (0, [.ref 64, .int x], [], ((zua (zua ar 71 b71) 71 (zup b71 ((((ar 72) ((c64_13 - 1).toNatClampNeg)) - ((ar 72) ((c64_13 - 1).toNatClampNeg)) / 1048576 * 1048576).toNatClampNeg) ((1048576 * ((b71 ((((ar 72) ((c64_13 - 1).toNatClampNeg)) - ((ar 72) ((c64_13 - 1).toNatClampNeg)) / 1048576 * 1048576).toNatClampNeg)) / 1048576)) + (fi 64 12)))), (zuf (zuf fi 64 13 c64_13) 64 13 (c64_13 - 1)), (m1, m2, m3, m4, m5))))))))))) : Option ((Nat × List Value × List Value × zH2) ⊕ zO2)) := rfl
theorem k_md_lands_0 {X : Nat × (Nat → Int32)} {ar fi : Nat → Nat → Int32} {m1 m2 m3 m4 m5 : Nat} {x : Int32} {o : zO2} : ∀ (s : U_md_lands_0) (q : U_md_lands_0 ⊕ T_md_lands), f_md_lands_0 x (ar 72) (fi 64 12) s = some q → zq (M_md_lands_0 X (zEx 165 S_md_waitTop zE0) ar fi m1 m2 m3 m4 m5 x o) (fun t => O_md_lands ar fi m1 m2 m3 m4 m5 t = o) q → M_md_lands_0 X (zEx 165 S_md_waitTop zE0) ar fi m1 m2 m3 m4 m5 x o s := by
  intro s q h hq
  obtain ⟨b71, c64_13⟩ := s
  have h : b_md_lands_0 x (ar 72) (fi 64 12) b71 c64_13 = some q := h
  unfold b_md_lands_0 at h
  show zR2 X zFT (zEx 165 S_md_waitTop zE0) zc_173 0 [.ref 64, .int x] [] ((zua ar 71 b71), (zuf fi 64 13 c64_13), (m1, m2, m3, m4, m5)) o
  refine zT_seg t0_md_lands ?_
  refine zg_el h (fun hg h => zT_g hg ?_)
  refine zl_el h (fun h => zT_l ?_)
  refine zb_el h (fun hb h => zT_t hb ?_) (fun hb h => zT_f hb ?_)
  · refine zg_el h (fun hg h => zT_g hg ?_)
    refine zg_el h (fun hg h => zT_g hg ?_)
    refine zg_el h (fun hg h => zT_g hg ?_)
    have hz := zsi h hq
    refine zR2_hp ?_ ?_ hz
    · first | with_reducible rfl | (exact zuas_eq _ [(71, _), (71, _)] [(71, _)] [71] rfl rfl ⟨rfl, trivial⟩)
    · first | with_reducible rfl | (exact zufs_eq _ [(64, 13, _), (64, 13, _)] [(64, 13, _)] [(64, 13)] rfl rfl ⟨rfl, trivial⟩)
  · refine zb_el h (fun hb h => zT_t hb ?_) (fun hb h => zT_f hb ?_)
    · have hz := zsi h hq
      refine (zO_mk ?_ ?_).trans hz
      · first | with_reducible rfl | (exact zuas_eq _ [(71, _)] [(71, _)] [71] rfl rfl ⟨rfl, trivial⟩)
      · first | with_reducible rfl | (exact zufs_eq _ [(64, 13, _)] [(64, 13, _)] [(64, 13)] rfl rfl ⟨rfl, trivial⟩)
    · refine zg_el h (fun hg h => zT_g hg ?_)
      refine zl_el h (fun h => zT_l ?_)
      refine zb_el h (fun hb h => zT_t hb ?_) (fun hb h => zT_f hb ?_)
      · have hz := zsi h hq
        refine (zO_mk ?_ ?_).trans hz
        · first | with_reducible rfl | (exact zuas_eq _ [(71, _)] [(71, _)] [71] rfl rfl ⟨rfl, trivial⟩)
        · first | with_reducible rfl | (exact zufs_eq _ [(64, 13, _)] [(64, 13, _)] [(64, 13)] rfl rfl ⟨rfl, trivial⟩)
      · refine zg_el h (fun hg h => zT_g hg ?_)
        refine zg_el h (fun hg h => zT_g hg ?_)
        refine zg_el h (fun hg h => zT_g hg ?_)
        have hz := zsi h hq
        refine zR2_hp ?_ ?_ hz
        · first | with_reducible rfl | (exact zuas_eq _ [(71, _), (71, _)] [(71, _)] [71] rfl rfl ⟨rfl, trivial⟩)
        · first | with_reducible rfl | (exact zufs_eq _ [(64, 13, _), (64, 13, _)] [(64, 13, _)] [(64, 13)] rfl rfl ⟨rfl, trivial⟩)
theorem e_md_lands {X : Nat × (Nat → Int32)} {ar fi : Nat → Nat → Int32} {m1 m2 m3 m4 m5 : Nat} {x : Int32} {o : zO2} : ∀ (q : T_md_lands), q_md_lands x (ar 71) (ar 72) (fi 64 12) (fi 64 13) = some q → (fun t => O_md_lands ar fi m1 m2 m3 m4 m5 t = o) q → zR2 X zFT (zEx 165 S_md_waitTop zE0) zc_173 0 [.ref 64, .int x] [] (ar, fi, (m1, m2, m3, m4, m5)) o := by
  intro q h hq
  unfold q_md_lands at h
  refine zR2_hp ?_ ?_ (zlp_K k_md_lands_0 h hq)
  · first | with_reducible rfl | (exact zuas_eq _ [] [(71, _)] [71] rfl rfl ⟨rfl, trivial⟩)
  · first | with_reducible rfl | (exact zufs_eq _ [] [(64, 13, _)] [(64, 13)] rfl rfl ⟨rfl, trivial⟩)
theorem ok_md_lands (X : Nat × (Nat → Int32)) : zOkS X 173 S_md_lands 2 := zOkS_new (zOkE_cons (ok_md_waitTop X) (by decide) (zOkE_nil X 1)) (by
  intro args g o h
  obtain ⟨ar, fi, m1, m2, m3, m4, m5⟩ := g
  unfold S_md_lands P_md_lands at h
  split at h
  · refine zb_el h (fun hI0 k0 => ?_) (fun _ h10 => ?_)
    · try simp only [Bool.and_eq_true] at hI0
      have j0 := hI0
      have e0 := Nat.eq_of_beq_eq_true j0
      subst e0
      exact zpe_el k0 (fun t ht ho => e_md_lands t ht ho)
    · cases h10
  · cases h)
abbrev T_md_readsCompared : Type := Int32 × (Nat → Int32) × (Nat → Int32) × Int32 × Int32 × Int32 × Int32 × Int32 × Int32
noncomputable def q_md_readsCompared (a70 : Nat → Int32) (a71 : Nat → Int32) (a72 : Nat → Int32) (f64_7 : Int32) (f64_8 : Int32) (f64_9 : Int32) (f64_10 : Int32) (f64_11 : Int32) (f64_12 : Int32) (f64_13 : Int32) : Option T_md_readsCompared :=
  zbd (q_md_readsSum a70 a71 a72 (f64_7) (f64_8) (f64_9) (f64_10) (f64_11) (f64_12) (f64_13)) (fun v1 =>
  bif !decide ((v1.1) = 0) then
   zg (g_md_here (f64_8) ((v1.2.2.2.1)) a70) (
   zl (w_md_here (f64_8) ((v1.2.2.2.1)) a70) (fun v2 =>
   bif !decide (v2 = 60) then
    zg (g_md_here (f64_8) ((v1.2.2.2.1)) a70) (
    zl (w_md_here (f64_8) ((v1.2.2.2.1)) a70) (fun v3 =>
    bif !decide (v3 = 62) then
     zg (g_md_here (f64_8) ((v1.2.2.2.1)) a70) (
     zl (w_md_here (f64_8) ((v1.2.2.2.1)) a70) (fun v4 =>
     bif !decide (v4 = 61) then
      zl (w_md_wrongAt 1 ((v1.2.2.2.1))) (fun v5 =>
      zl (f0_md_wrongAt 1 ((v1.2.2.2.1))) (fun v6 =>
      zg (decide (v5 = 0) || decide (v5 = 1)) (
      some (v5, ((v1.2.1)), ((v1.2.2.1)), (v1.2.2.2.1), v6, (v1.2.2.2.2.2.1), (v1.2.2.2.2.2.2.1), (v1.2.2.2.2.2.2.2.1), (v1.2.2.2.2.2.2.2.2)))))
     else
      zbd (q_md_readsSum a70 ((v1.2.1)) ((v1.2.2.1)) (((v1.2.2.2.1)) + 1) (f64_8) ((v1.2.2.2.2.1)) ((v1.2.2.2.2.2.1)) ((v1.2.2.2.2.2.2.1)) ((v1.2.2.2.2.2.2.2.1)) ((v1.2.2.2.2.2.2.2.2))) (fun v7 =>
      bif !decide ((v7.1) = 0) then
       zg (g_md_notes 9 0 ((v7.2.2.2.2.2.2.2.1)) ((v7.2.1))) (
       zl (a0_md_notes 9 0 ((v7.2.2.2.2.2.2.2.1)) ((v7.2.1))) (fun v8 =>
       zl (f0_md_notes 9 0 ((v7.2.2.2.2.2.2.2.1)) ((v7.2.1))) (fun v9 =>
       zbd (q_md_endsPiece v8 ((v7.2.2.1)) ((v7.2.2.2.2.2.2.1)) v9 ((v7.2.2.2.2.2.2.2.2))) (fun v10 =>
       some (1, ((v10.1)), ((v7.2.2.1)), (v7.2.2.2.1), (v7.2.2.2.2.1), (v7.2.2.2.2.2.1), (v10.2.1), (v10.2.2.1), (v10.2.2.2))))))
      else
       some (0, ((v7.2.1)), ((v7.2.2.1)), (v7.2.2.2.1), (v7.2.2.2.2.1), (v7.2.2.2.2.2.1), (v7.2.2.2.2.2.2.1), (v7.2.2.2.2.2.2.2.1), (v7.2.2.2.2.2.2.2.2)))))
    else
     zbd (q_md_readsSum a70 ((v1.2.1)) ((v1.2.2.1)) (((v1.2.2.2.1)) + 1) (f64_8) ((v1.2.2.2.2.1)) ((v1.2.2.2.2.2.1)) ((v1.2.2.2.2.2.2.1)) ((v1.2.2.2.2.2.2.2.1)) ((v1.2.2.2.2.2.2.2.2))) (fun v11 =>
     bif !decide ((v11.1) = 0) then
      zg (g_md_notes 8 0 ((v11.2.2.2.2.2.2.2.1)) ((v11.2.1))) (
      zl (a0_md_notes 8 0 ((v11.2.2.2.2.2.2.2.1)) ((v11.2.1))) (fun v12 =>
      zl (f0_md_notes 8 0 ((v11.2.2.2.2.2.2.2.1)) ((v11.2.1))) (fun v13 =>
      zbd (q_md_endsPiece v12 ((v11.2.2.1)) ((v11.2.2.2.2.2.2.1)) v13 ((v11.2.2.2.2.2.2.2.2))) (fun v14 =>
      some (1, ((v14.1)), ((v11.2.2.1)), (v11.2.2.2.1), (v11.2.2.2.2.1), (v11.2.2.2.2.2.1), (v14.2.1), (v14.2.2.1), (v14.2.2.2))))))
     else
      some (0, ((v11.2.1)), ((v11.2.2.1)), (v11.2.2.2.1), (v11.2.2.2.2.1), (v11.2.2.2.2.2.1), (v11.2.2.2.2.2.2.1), (v11.2.2.2.2.2.2.2.1), (v11.2.2.2.2.2.2.2.2)))))
   else
    zbd (q_md_readsSum a70 ((v1.2.1)) ((v1.2.2.1)) (((v1.2.2.2.1)) + 1) (f64_8) ((v1.2.2.2.2.1)) ((v1.2.2.2.2.2.1)) ((v1.2.2.2.2.2.2.1)) ((v1.2.2.2.2.2.2.2.1)) ((v1.2.2.2.2.2.2.2.2))) (fun v15 =>
    bif !decide ((v15.1) = 0) then
     zg (g_md_notes 7 0 ((v15.2.2.2.2.2.2.2.1)) ((v15.2.1))) (
     zl (a0_md_notes 7 0 ((v15.2.2.2.2.2.2.2.1)) ((v15.2.1))) (fun v16 =>
     zl (f0_md_notes 7 0 ((v15.2.2.2.2.2.2.2.1)) ((v15.2.1))) (fun v17 =>
     zbd (q_md_endsPiece v16 ((v15.2.2.1)) ((v15.2.2.2.2.2.2.1)) v17 ((v15.2.2.2.2.2.2.2.2))) (fun v18 =>
     some (1, ((v18.1)), ((v15.2.2.1)), (v15.2.2.2.1), (v15.2.2.2.2.1), (v15.2.2.2.2.2.1), (v18.2.1), (v18.2.2.1), (v18.2.2.2))))))
    else
     some (0, ((v15.2.1)), ((v15.2.2.1)), (v15.2.2.2.1), (v15.2.2.2.2.1), (v15.2.2.2.2.2.1), (v15.2.2.2.2.2.2.1), (v15.2.2.2.2.2.2.2.1), (v15.2.2.2.2.2.2.2.2)))))
  else
   some (0, ((v1.2.1)), ((v1.2.2.1)), (v1.2.2.2.1), (v1.2.2.2.2.1), (v1.2.2.2.2.2.1), (v1.2.2.2.2.2.2.1), (v1.2.2.2.2.2.2.2.1), (v1.2.2.2.2.2.2.2.2)))
def P_md_readsCompared (Q : (Nat → Int32) → (Nat → Int32) → (Nat → Int32) → Int32 → Int32 → Int32 → Int32 → Int32 → Int32 → Int32 → Option (Int32 × (Nat → Int32) × (Nat → Int32) × Int32 × Int32 × Int32 × Int32 × Int32 × Int32)) : zSp := fun as g => match as with
  | [.ref a] => bif Nat.beq a 64 then zpe (Q (g.1 70) (g.1 71) (g.1 72) (g.2.1 64 7) (g.2.1 64 8) (g.2.1 64 9) (g.2.1 64 10) (g.2.1 64 11) (g.2.1 64 12) (g.2.1 64 13)) (fun t => (some (.int (t.1)), ((zua (zua g.1 71 t.2.1) 72 t.2.2.1), (zuf (zuf (zuf (zuf (zuf (zuf g.2.1 64 7 t.2.2.2.1) 64 9 t.2.2.2.2.1) 64 10 t.2.2.2.2.2.1) 64 11 t.2.2.2.2.2.2.1) 64 12 t.2.2.2.2.2.2.2.1) 64 13 t.2.2.2.2.2.2.2.2), g.2.2))) else none
  | _ => none
noncomputable abbrev S_md_readsCompared : zSp := P_md_readsCompared q_md_readsCompared
def O_md_readsCompared (ar fi : Nat → Nat → Int32) (m1 : Nat) (m2 : Nat) (m3 : Nat) (m4 : Nat) (m5 : Nat) (t : T_md_readsCompared) : zO2 := (some (.int (t.1)), ((zua (zua ar 71 t.2.1) 72 t.2.2.1), (zuf (zuf (zuf (zuf (zuf (zuf fi 64 7 t.2.2.2.1) 64 9 t.2.2.2.2.1) 64 10 t.2.2.2.2.2.1) 64 11 t.2.2.2.2.2.2.1) 64 12 t.2.2.2.2.2.2.2.1) 64 13 t.2.2.2.2.2.2.2.2), (m1, m2, m3, m4, m5)))
set_option maxRecDepth 20000 in
theorem t_md_readsCompared {X : Nat × (Nat → Int32)} {ar fi : Nat → Nat → Int32} {m1 m2 m3 m4 m5 : Nat} {Q_md_readsSum : (Nat → Int32) → (Nat → Int32) → (Nat → Int32) → Int32 → Int32 → Int32 → Int32 → Int32 → Int32 → Int32 → Option (Int32 × (Nat → Int32) × (Nat → Int32) × Int32 × Int32 × Int32 × Int32 × Int32 × Int32)} {G_md_here : Int32 → Int32 → (Nat → Int32) → Bool} {W_md_here : Int32 → Int32 → (Nat → Int32) → Int32} {W_md_wrongAt : Int32 → Int32 → Int32} {F0_md_wrongAt : Int32 → Int32 → Int32} {G_md_notes : Int32 → Int32 → Int32 → (Nat → Int32) → Bool} {A0_md_notes : Int32 → Int32 → Int32 → (Nat → Int32) → Nat → Int32} {F0_md_notes : Int32 → Int32 → Int32 → (Nat → Int32) → Int32} {Q_md_endsPiece : (Nat → Int32) → (Nat → Int32) → Int32 → Int32 → Int32 → Option ((Nat → Int32) × Int32 × Int32 × Int32)} : zseg X zFT (zEx 171 (P_md_readsSum Q_md_readsSum) (zEx 158 (P_md_here G_md_here W_md_here) (zEx 160 (P_md_wrongAt W_md_wrongAt F0_md_wrongAt) (zEx 163 (P_md_notes G_md_notes A0_md_notes F0_md_notes) (zEx 172 (P_md_endsPiece Q_md_endsPiece) zE0))))) zc_175 (fun p => false) 400 0 [.ref 64] [] (ar, fi, (m1, m2, m3, m4, m5)) = (
  zl (Q_md_readsSum (ar 70) (ar 71) (ar 72) (fi 64 7) (fi 64 8) (fi 64 9) (fi 64 10) (fi 64 11) (fi 64 12) (fi 64 13)) (fun v1 => zg v1.isSome (
  bif !decide (((zgt v1).1) = 0) then
   zg (G_md_here (fi 64 8) (((zgt v1).2.2.2.1)) (ar 70)) (
   zl (W_md_here (fi 64 8) (((zgt v1).2.2.2.1)) (ar 70)) (fun v2 =>
   bif !decide (v2 = 60) then
    zg (G_md_here (fi 64 8) (((zgt v1).2.2.2.1)) (ar 70)) (
    zl (W_md_here (fi 64 8) (((zgt v1).2.2.2.1)) (ar 70)) (fun v3 =>
    bif !decide (v3 = 62) then
     zg (G_md_here (fi 64 8) (((zgt v1).2.2.2.1)) (ar 70)) (
     zl (W_md_here (fi 64 8) (((zgt v1).2.2.2.1)) (ar 70)) (fun v4 =>
     bif !decide (v4 = 61) then
      zl (W_md_wrongAt 1 (((zgt v1).2.2.2.1))) (fun v5 =>
      zl (F0_md_wrongAt 1 (((zgt v1).2.2.2.1))) (fun v6 =>
      zg (decide (v5 = 0) || decide (v5 = 1)) (
      some (.inr (some (.int v5), ((zua (zua ar 71 (((zgt v1).2.1))) 72 (((zgt v1).2.2.1))), (zuf (zuf (zuf (zuf (zuf (zuf (zuf fi 64 7 (((zgt v1).2.2.2.1))) 64 9 (((zgt v1).2.2.2.2.1))) 64 10 (((zgt v1).2.2.2.2.2.1))) 64 11 (((zgt v1).2.2.2.2.2.2.1))) 64 12 (((zgt v1).2.2.2.2.2.2.2.1))) 64 13 (((zgt v1).2.2.2.2.2.2.2.2))) 64 9 v6), (m1, m2, m3, m4, m5)))))))
     else
      zl (Q_md_readsSum (ar 70) (((zgt v1).2.1)) (((zgt v1).2.2.1)) ((((zgt v1).2.2.2.1)) + 1) (fi 64 8) (((zgt v1).2.2.2.2.1)) (((zgt v1).2.2.2.2.2.1)) (((zgt v1).2.2.2.2.2.2.1)) (((zgt v1).2.2.2.2.2.2.2.1)) (((zgt v1).2.2.2.2.2.2.2.2))) (fun v7 => zg v7.isSome (
      bif !decide (((zgt v7).1) = 0) then
       zg (G_md_notes 9 0 (((zgt v7).2.2.2.2.2.2.2.1)) (((zgt v7).2.1))) (
       zl (A0_md_notes 9 0 (((zgt v7).2.2.2.2.2.2.2.1)) (((zgt v7).2.1))) (fun v8 =>
       zl (F0_md_notes 9 0 (((zgt v7).2.2.2.2.2.2.2.1)) (((zgt v7).2.1))) (fun v9 =>
       zl (Q_md_endsPiece v8 (((zgt v7).2.2.1)) (((zgt v7).2.2.2.2.2.2.1)) v9 (((zgt v7).2.2.2.2.2.2.2.2))) (fun v10 => zg v10.isSome (
       some (.inr (some (.int 1), ((zua (zua (zua (zua (zua (zua ar 71 (((zgt v1).2.1))) 72 (((zgt v1).2.2.1))) 71 (((zgt v7).2.1))) 72 (((zgt v7).2.2.1))) 71 v8) 71 (((zgt v10).1))), (zuf (zuf (zuf (zuf (zuf (zuf (zuf (zuf (zuf (zuf (zuf (zuf (zuf (zuf (zuf (zuf (zuf fi 64 7 (((zgt v1).2.2.2.1))) 64 9 (((zgt v1).2.2.2.2.1))) 64 10 (((zgt v1).2.2.2.2.2.1))) 64 11 (((zgt v1).2.2.2.2.2.2.1))) 64 12 (((zgt v1).2.2.2.2.2.2.2.1))) 64 13 (((zgt v1).2.2.2.2.2.2.2.2))) 64 7 ((((zgt v1).2.2.2.1)) + 1)) 64 7 (((zgt v7).2.2.2.1))) 64 9 (((zgt v7).2.2.2.2.1))) 64 10 (((zgt v7).2.2.2.2.2.1))) 64 11 (((zgt v7).2.2.2.2.2.2.1))) 64 12 (((zgt v7).2.2.2.2.2.2.2.1))) 64 13 (((zgt v7).2.2.2.2.2.2.2.2))) 64 12 v9) 64 11 (((zgt v10).2.1))) 64 12 (((zgt v10).2.2.1))) 64 13 (((zgt v10).2.2.2))), (m1, m2, m3, m4, m5)))))))))
      else
       some (.inr (some (.int 0), ((zua (zua (zua (zua ar 71 (((zgt v1).2.1))) 72 (((zgt v1).2.2.1))) 71 (((zgt v7).2.1))) 72 (((zgt v7).2.2.1))), (zuf (zuf (zuf (zuf (zuf (zuf (zuf (zuf (zuf (zuf (zuf (zuf (zuf fi 64 7 (((zgt v1).2.2.2.1))) 64 9 (((zgt v1).2.2.2.2.1))) 64 10 (((zgt v1).2.2.2.2.2.1))) 64 11 (((zgt v1).2.2.2.2.2.2.1))) 64 12 (((zgt v1).2.2.2.2.2.2.2.1))) 64 13 (((zgt v1).2.2.2.2.2.2.2.2))) 64 7 ((((zgt v1).2.2.2.1)) + 1)) 64 7 (((zgt v7).2.2.2.1))) 64 9 (((zgt v7).2.2.2.2.1))) 64 10 (((zgt v7).2.2.2.2.2.1))) 64 11 (((zgt v7).2.2.2.2.2.2.1))) 64 12 (((zgt v7).2.2.2.2.2.2.2.1))) 64 13 (((zgt v7).2.2.2.2.2.2.2.2))), (m1, m2, m3, m4, m5))))))))
    else
     zl (Q_md_readsSum (ar 70) (((zgt v1).2.1)) (((zgt v1).2.2.1)) ((((zgt v1).2.2.2.1)) + 1) (fi 64 8) (((zgt v1).2.2.2.2.1)) (((zgt v1).2.2.2.2.2.1)) (((zgt v1).2.2.2.2.2.2.1)) (((zgt v1).2.2.2.2.2.2.2.1)) (((zgt v1).2.2.2.2.2.2.2.2))) (fun v11 => zg v11.isSome (
     bif !decide (((zgt v11).1) = 0) then
      zg (G_md_notes 8 0 (((zgt v11).2.2.2.2.2.2.2.1)) (((zgt v11).2.1))) (
      zl (A0_md_notes 8 0 (((zgt v11).2.2.2.2.2.2.2.1)) (((zgt v11).2.1))) (fun v12 =>
      zl (F0_md_notes 8 0 (((zgt v11).2.2.2.2.2.2.2.1)) (((zgt v11).2.1))) (fun v13 =>
      zl (Q_md_endsPiece v12 (((zgt v11).2.2.1)) (((zgt v11).2.2.2.2.2.2.1)) v13 (((zgt v11).2.2.2.2.2.2.2.2))) (fun v14 => zg v14.isSome (
      some (.inr (some (.int 1), ((zua (zua (zua (zua (zua (zua ar 71 (((zgt v1).2.1))) 72 (((zgt v1).2.2.1))) 71 (((zgt v11).2.1))) 72 (((zgt v11).2.2.1))) 71 v12) 71 (((zgt v14).1))), (zuf (zuf (zuf (zuf (zuf (zuf (zuf (zuf (zuf (zuf (zuf (zuf (zuf (zuf (zuf (zuf (zuf fi 64 7 (((zgt v1).2.2.2.1))) 64 9 (((zgt v1).2.2.2.2.1))) 64 10 (((zgt v1).2.2.2.2.2.1))) 64 11 (((zgt v1).2.2.2.2.2.2.1))) 64 12 (((zgt v1).2.2.2.2.2.2.2.1))) 64 13 (((zgt v1).2.2.2.2.2.2.2.2))) 64 7 ((((zgt v1).2.2.2.1)) + 1)) 64 7 (((zgt v11).2.2.2.1))) 64 9 (((zgt v11).2.2.2.2.1))) 64 10 (((zgt v11).2.2.2.2.2.1))) 64 11 (((zgt v11).2.2.2.2.2.2.1))) 64 12 (((zgt v11).2.2.2.2.2.2.2.1))) 64 13 (((zgt v11).2.2.2.2.2.2.2.2))) 64 12 v13) 64 11 (((zgt v14).2.1))) 64 12 (((zgt v14).2.2.1))) 64 13 (((zgt v14).2.2.2))), (m1, m2, m3, m4, m5)))))))))
     else
      some (.inr (some (.int 0), ((zua (zua (zua (zua ar 71 (((zgt v1).2.1))) 72 (((zgt v1).2.2.1))) 71 (((zgt v11).2.1))) 72 (((zgt v11).2.2.1))), (zuf (zuf (zuf (zuf (zuf (zuf (zuf (zuf (zuf (zuf (zuf (zuf (zuf fi 64 7 (((zgt v1).2.2.2.1))) 64 9 (((zgt v1).2.2.2.2.1))) 64 10 (((zgt v1).2.2.2.2.2.1))) 64 11 (((zgt v1).2.2.2.2.2.2.1))) 64 12 (((zgt v1).2.2.2.2.2.2.2.1))) 64 13 (((zgt v1).2.2.2.2.2.2.2.2))) 64 7 ((((zgt v1).2.2.2.1)) + 1)) 64 7 (((zgt v11).2.2.2.1))) 64 9 (((zgt v11).2.2.2.2.1))) 64 10 (((zgt v11).2.2.2.2.2.1))) 64 11 (((zgt v11).2.2.2.2.2.2.1))) 64 12 (((zgt v11).2.2.2.2.2.2.2.1))) 64 13 (((zgt v11).2.2.2.2.2.2.2.2))), (m1, m2, m3, m4, m5))))))))
   else
    zl (Q_md_readsSum (ar 70) (((zgt v1).2.1)) (((zgt v1).2.2.1)) ((((zgt v1).2.2.2.1)) + 1) (fi 64 8) (((zgt v1).2.2.2.2.1)) (((zgt v1).2.2.2.2.2.1)) (((zgt v1).2.2.2.2.2.2.1)) (((zgt v1).2.2.2.2.2.2.2.1)) (((zgt v1).2.2.2.2.2.2.2.2))) (fun v15 => zg v15.isSome (
    bif !decide (((zgt v15).1) = 0) then
     zg (G_md_notes 7 0 (((zgt v15).2.2.2.2.2.2.2.1)) (((zgt v15).2.1))) (
     zl (A0_md_notes 7 0 (((zgt v15).2.2.2.2.2.2.2.1)) (((zgt v15).2.1))) (fun v16 =>
     zl (F0_md_notes 7 0 (((zgt v15).2.2.2.2.2.2.2.1)) (((zgt v15).2.1))) (fun v17 =>
     zl (Q_md_endsPiece v16 (((zgt v15).2.2.1)) (((zgt v15).2.2.2.2.2.2.1)) v17 (((zgt v15).2.2.2.2.2.2.2.2))) (fun v18 => zg v18.isSome (
     some (.inr (some (.int 1), ((zua (zua (zua (zua (zua (zua ar 71 (((zgt v1).2.1))) 72 (((zgt v1).2.2.1))) 71 (((zgt v15).2.1))) 72 (((zgt v15).2.2.1))) 71 v16) 71 (((zgt v18).1))), (zuf (zuf (zuf (zuf (zuf (zuf (zuf (zuf (zuf (zuf (zuf (zuf (zuf (zuf (zuf (zuf (zuf fi 64 7 (((zgt v1).2.2.2.1))) 64 9 (((zgt v1).2.2.2.2.1))) 64 10 (((zgt v1).2.2.2.2.2.1))) 64 11 (((zgt v1).2.2.2.2.2.2.1))) 64 12 (((zgt v1).2.2.2.2.2.2.2.1))) 64 13 (((zgt v1).2.2.2.2.2.2.2.2))) 64 7 ((((zgt v1).2.2.2.1)) + 1)) 64 7 (((zgt v15).2.2.2.1))) 64 9 (((zgt v15).2.2.2.2.1))) 64 10 (((zgt v15).2.2.2.2.2.1))) 64 11 (((zgt v15).2.2.2.2.2.2.1))) 64 12 (((zgt v15).2.2.2.2.2.2.2.1))) 64 13 (((zgt v15).2.2.2.2.2.2.2.2))) 64 12 v17) 64 11 (((zgt v18).2.1))) 64 12 (((zgt v18).2.2.1))) 64 13 (((zgt v18).2.2.2))), (m1, m2, m3, m4, m5)))))))))
    else
     some (.inr (some (.int 0), ((zua (zua (zua (zua ar 71 (((zgt v1).2.1))) 72 (((zgt v1).2.2.1))) 71 (((zgt v15).2.1))) 72 (((zgt v15).2.2.1))), (zuf (zuf (zuf (zuf (zuf (zuf (zuf (zuf (zuf (zuf (zuf (zuf (zuf fi 64 7 (((zgt v1).2.2.2.1))) 64 9 (((zgt v1).2.2.2.2.1))) 64 10 (((zgt v1).2.2.2.2.2.1))) 64 11 (((zgt v1).2.2.2.2.2.2.1))) 64 12 (((zgt v1).2.2.2.2.2.2.2.1))) 64 13 (((zgt v1).2.2.2.2.2.2.2.2))) 64 7 ((((zgt v1).2.2.2.1)) + 1)) 64 7 (((zgt v15).2.2.2.1))) 64 9 (((zgt v15).2.2.2.2.1))) 64 10 (((zgt v15).2.2.2.2.2.1))) 64 11 (((zgt v15).2.2.2.2.2.2.1))) 64 12 (((zgt v15).2.2.2.2.2.2.2.1))) 64 13 (((zgt v15).2.2.2.2.2.2.2.2))), (m1, m2, m3, m4, m5))))))))
  else
   some (.inr (some (.int 0), ((zua (zua ar 71 (((zgt v1).2.1))) 72 (((zgt v1).2.2.1))), (zuf (zuf (zuf (zuf (zuf (zuf fi 64 7 (((zgt v1).2.2.2.1))) 64 9 (((zgt v1).2.2.2.2.1))) 64 10 (((zgt v1).2.2.2.2.2.1))) 64 11 (((zgt v1).2.2.2.2.2.2.1))) 64 12 (((zgt v1).2.2.2.2.2.2.2.1))) 64 13 (((zgt v1).2.2.2.2.2.2.2.2))), (m1, m2, m3, m4, m5)))))) : Option ((Nat × List Value × List Value × zH2) ⊕ zO2)) := rfl
theorem e_md_readsCompared {X : Nat × (Nat → Int32)} {ar fi : Nat → Nat → Int32} {m1 m2 m3 m4 m5 : Nat} {o : zO2} : ∀ (q : T_md_readsCompared), q_md_readsCompared (ar 70) (ar 71) (ar 72) (fi 64 7) (fi 64 8) (fi 64 9) (fi 64 10) (fi 64 11) (fi 64 12) (fi 64 13) = some q → (fun t => O_md_readsCompared ar fi m1 m2 m3 m4 m5 t = o) q → zR2 X zFT (zEx 171 S_md_readsSum (zEx 158 S_md_here (zEx 160 S_md_wrongAt (zEx 163 S_md_notes (zEx 172 S_md_endsPiece zE0))))) zc_175 0 [.ref 64] [] (ar, fi, (m1, m2, m3, m4, m5)) o := by
  intro q h hq
  unfold q_md_readsCompared at h
  refine zT_seg t_md_readsCompared ?_
  refine zbd_el h (fun v1 hv h => zT_c hv ?_)
  refine zb_el h (fun hb h => zT_t hb ?_) (fun hb h => zT_f hb ?_)
  · refine zg_el h (fun hg h => zT_g hg ?_)
    refine zl_el h (fun h => zT_l ?_)
    refine zb_el h (fun hb h => zT_t hb ?_) (fun hb h => zT_f hb ?_)
    · refine zg_el h (fun hg h => zT_g hg ?_)
      refine zl_el h (fun h => zT_l ?_)
      refine zb_el h (fun hb h => zT_t hb ?_) (fun hb h => zT_f hb ?_)
      · refine zg_el h (fun hg h => zT_g hg ?_)
        refine zl_el h (fun h => zT_l ?_)
        refine zb_el h (fun hb h => zT_t hb ?_) (fun hb h => zT_f hb ?_)
        · refine zl_el h (fun h => zT_l ?_)
          refine zl_el h (fun h => zT_l ?_)
          refine zg_el h (fun hg h => zT_g hg ?_)
          have hz := zsi h hq
          refine (zO_mk ?_ ?_).trans hz
          · first | with_reducible rfl | (exact zuas_eq _ [(71, _), (72, _)] [(71, _), (72, _)] [71, 72] rfl rfl ⟨rfl, rfl, trivial⟩)
          · first | with_reducible rfl | (exact zufs_eq _ [(64, 7, _), (64, 9, _), (64, 10, _), (64, 11, _), (64, 12, _), (64, 13, _), (64, 9, _)] [(64, 7, _), (64, 9, _), (64, 10, _), (64, 11, _), (64, 12, _), (64, 13, _)] [(64, 7), (64, 9), (64, 10), (64, 11), (64, 12), (64, 13)] rfl rfl ⟨rfl, rfl, rfl, rfl, rfl, rfl, trivial⟩)
        · refine zbd_el h (fun v7 hv h => zT_c hv ?_)
          refine zb_el h (fun hb h => zT_t hb ?_) (fun hb h => zT_f hb ?_)
          · refine zg_el h (fun hg h => zT_g hg ?_)
            refine zl_el h (fun h => zT_l ?_)
            refine zl_el h (fun h => zT_l ?_)
            refine zbd_el h (fun v10 hv h => zT_c hv ?_)
            have hz := zsi h hq
            refine (zO_mk ?_ ?_).trans hz
            · first | with_reducible rfl | (exact zuas_eq _ [(71, _), (72, _), (71, _), (72, _), (71, _), (71, _)] [(71, _), (72, _)] [71, 72] rfl rfl ⟨rfl, rfl, trivial⟩)
            · first | with_reducible rfl | (exact zufs_eq _ [(64, 7, _), (64, 9, _), (64, 10, _), (64, 11, _), (64, 12, _), (64, 13, _), (64, 7, _), (64, 7, _), (64, 9, _), (64, 10, _), (64, 11, _), (64, 12, _), (64, 13, _), (64, 12, _), (64, 11, _), (64, 12, _), (64, 13, _)] [(64, 7, _), (64, 9, _), (64, 10, _), (64, 11, _), (64, 12, _), (64, 13, _)] [(64, 7), (64, 9), (64, 10), (64, 11), (64, 12), (64, 13)] rfl rfl ⟨rfl, rfl, rfl, rfl, rfl, rfl, trivial⟩)
          · have hz := zsi h hq
            refine (zO_mk ?_ ?_).trans hz
            · first | with_reducible rfl | (exact zuas_eq _ [(71, _), (72, _), (71, _), (72, _)] [(71, _), (72, _)] [71, 72] rfl rfl ⟨rfl, rfl, trivial⟩)
            · first | with_reducible rfl | (exact zufs_eq _ [(64, 7, _), (64, 9, _), (64, 10, _), (64, 11, _), (64, 12, _), (64, 13, _), (64, 7, _), (64, 7, _), (64, 9, _), (64, 10, _), (64, 11, _), (64, 12, _), (64, 13, _)] [(64, 7, _), (64, 9, _), (64, 10, _), (64, 11, _), (64, 12, _), (64, 13, _)] [(64, 7), (64, 9), (64, 10), (64, 11), (64, 12), (64, 13)] rfl rfl ⟨rfl, rfl, rfl, rfl, rfl, rfl, trivial⟩)
      · refine zbd_el h (fun v11 hv h => zT_c hv ?_)
        refine zb_el h (fun hb h => zT_t hb ?_) (fun hb h => zT_f hb ?_)
        · refine zg_el h (fun hg h => zT_g hg ?_)
          refine zl_el h (fun h => zT_l ?_)
          refine zl_el h (fun h => zT_l ?_)
          refine zbd_el h (fun v14 hv h => zT_c hv ?_)
          have hz := zsi h hq
          refine (zO_mk ?_ ?_).trans hz
          · first | with_reducible rfl | (exact zuas_eq _ [(71, _), (72, _), (71, _), (72, _), (71, _), (71, _)] [(71, _), (72, _)] [71, 72] rfl rfl ⟨rfl, rfl, trivial⟩)
          · first | with_reducible rfl | (exact zufs_eq _ [(64, 7, _), (64, 9, _), (64, 10, _), (64, 11, _), (64, 12, _), (64, 13, _), (64, 7, _), (64, 7, _), (64, 9, _), (64, 10, _), (64, 11, _), (64, 12, _), (64, 13, _), (64, 12, _), (64, 11, _), (64, 12, _), (64, 13, _)] [(64, 7, _), (64, 9, _), (64, 10, _), (64, 11, _), (64, 12, _), (64, 13, _)] [(64, 7), (64, 9), (64, 10), (64, 11), (64, 12), (64, 13)] rfl rfl ⟨rfl, rfl, rfl, rfl, rfl, rfl, trivial⟩)
        · have hz := zsi h hq
          refine (zO_mk ?_ ?_).trans hz
          · first | with_reducible rfl | (exact zuas_eq _ [(71, _), (72, _), (71, _), (72, _)] [(71, _), (72, _)] [71, 72] rfl rfl ⟨rfl, rfl, trivial⟩)
          · first | with_reducible rfl | (exact zufs_eq _ [(64, 7, _), (64, 9, _), (64, 10, _), (64, 11, _), (64, 12, _), (64, 13, _), (64, 7, _), (64, 7, _), (64, 9, _), (64, 10, _), (64, 11, _), (64, 12, _), (64, 13, _)] [(64, 7, _), (64, 9, _), (64, 10, _), (64, 11, _), (64, 12, _), (64, 13, _)] [(64, 7), (64, 9), (64, 10), (64, 11), (64, 12), (64, 13)] rfl rfl ⟨rfl, rfl, rfl, rfl, rfl, rfl, trivial⟩)
    · refine zbd_el h (fun v15 hv h => zT_c hv ?_)
      refine zb_el h (fun hb h => zT_t hb ?_) (fun hb h => zT_f hb ?_)
      · refine zg_el h (fun hg h => zT_g hg ?_)
        refine zl_el h (fun h => zT_l ?_)
        refine zl_el h (fun h => zT_l ?_)
        refine zbd_el h (fun v18 hv h => zT_c hv ?_)
        have hz := zsi h hq
        refine (zO_mk ?_ ?_).trans hz
        · first | with_reducible rfl | (exact zuas_eq _ [(71, _), (72, _), (71, _), (72, _), (71, _), (71, _)] [(71, _), (72, _)] [71, 72] rfl rfl ⟨rfl, rfl, trivial⟩)
        · first | with_reducible rfl | (exact zufs_eq _ [(64, 7, _), (64, 9, _), (64, 10, _), (64, 11, _), (64, 12, _), (64, 13, _), (64, 7, _), (64, 7, _), (64, 9, _), (64, 10, _), (64, 11, _), (64, 12, _), (64, 13, _), (64, 12, _), (64, 11, _), (64, 12, _), (64, 13, _)] [(64, 7, _), (64, 9, _), (64, 10, _), (64, 11, _), (64, 12, _), (64, 13, _)] [(64, 7), (64, 9), (64, 10), (64, 11), (64, 12), (64, 13)] rfl rfl ⟨rfl, rfl, rfl, rfl, rfl, rfl, trivial⟩)
      · have hz := zsi h hq
        refine (zO_mk ?_ ?_).trans hz
        · first | with_reducible rfl | (exact zuas_eq _ [(71, _), (72, _), (71, _), (72, _)] [(71, _), (72, _)] [71, 72] rfl rfl ⟨rfl, rfl, trivial⟩)
        · first | with_reducible rfl | (exact zufs_eq _ [(64, 7, _), (64, 9, _), (64, 10, _), (64, 11, _), (64, 12, _), (64, 13, _), (64, 7, _), (64, 7, _), (64, 9, _), (64, 10, _), (64, 11, _), (64, 12, _), (64, 13, _)] [(64, 7, _), (64, 9, _), (64, 10, _), (64, 11, _), (64, 12, _), (64, 13, _)] [(64, 7), (64, 9), (64, 10), (64, 11), (64, 12), (64, 13)] rfl rfl ⟨rfl, rfl, rfl, rfl, rfl, rfl, trivial⟩)
  · have hz := zsi h hq
    refine (zO_mk ?_ ?_).trans hz
    · first | with_reducible rfl | (exact zuas_eq _ [(71, _), (72, _)] [(71, _), (72, _)] [71, 72] rfl rfl ⟨rfl, rfl, trivial⟩)
    · first | with_reducible rfl | (exact zufs_eq _ [(64, 7, _), (64, 9, _), (64, 10, _), (64, 11, _), (64, 12, _), (64, 13, _)] [(64, 7, _), (64, 9, _), (64, 10, _), (64, 11, _), (64, 12, _), (64, 13, _)] [(64, 7), (64, 9), (64, 10), (64, 11), (64, 12), (64, 13)] rfl rfl ⟨rfl, rfl, rfl, rfl, rfl, rfl, trivial⟩)
theorem ok_md_readsCompared (X : Nat × (Nat → Int32)) : zOkS X 175 S_md_readsCompared 6 := zOkS_new (zOkE_cons (ok_md_readsSum X) (by decide) (zOkE_cons (ok_md_here X) (by decide) (zOkE_cons (ok_md_wrongAt X) (by decide) (zOkE_cons (ok_md_notes X) (by decide) (zOkE_cons (ok_md_endsPiece X) (by decide) (zOkE_nil X 5)))))) (by
  intro args g o h
  obtain ⟨ar, fi, m1, m2, m3, m4, m5⟩ := g
  unfold S_md_readsCompared P_md_readsCompared at h
  split at h
  · refine zb_el h (fun hI0 k0 => ?_) (fun _ h10 => ?_)
    · try simp only [Bool.and_eq_true] at hI0
      have j0 := hI0
      have e0 := Nat.eq_of_beq_eq_true j0
      subst e0
      exact zpe_el k0 (fun t ht ho => e_md_readsCompared t ht ho)
    · cases h10
  · cases h)
