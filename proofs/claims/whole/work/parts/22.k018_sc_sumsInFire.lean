abbrev T_sc_sumsInFire : Type := Int32
abbrev U_sc_sumsInFire_4 : Type := Int32 × Int32
def b_sc_sumsInFire_4 (a4 : Nat → Int32) (a6 : Nat → Int32) (a8 : Nat → Int32) (f2_6 : Int32) (f2_7 : Int32) (l1 : Int32) (l2 : Int32) : Option (U_sc_sumsInFire_4 ⊕ T_sc_sumsInFire) :=
  bif decide (24 ≤ l2) then
   some (.inr l1)
  else
   zl (w_sc_isTold l2 (f2_6)) (fun v1 =>
   bif decide (v1 = 0) then
    some (.inl (l1, l2 + 1))
   else
    zl (w_sc_isGone l2 (f2_7)) (fun v2 =>
    bif !decide (v2 = 0) then
     some (.inl (l1, l2 + 1))
    else
     zg (zin l2 24) (
     zg (zin (a6 (l2.toNatClampNeg)) 96) (
     bif decide (a4 ((a6 (l2.toNatClampNeg)).toNatClampNeg) = 0) then
      some (.inl (l1, l2 + 1))
     else
      zg (zin l2 24) (
      some (.inl (l1 + (a8 (l2.toNatClampNeg)), l2 + 1)))))))
def f_sc_sumsInFire_4 (a4 : Nat → Int32) (a6 : Nat → Int32) (a8 : Nat → Int32) (f2_6 : Int32) (f2_7 : Int32) : U_sc_sumsInFire_4 → Option (U_sc_sumsInFire_4 ⊕ T_sc_sumsInFire) := fun s => b_sc_sumsInFire_4 a4 a6 a8 f2_6 f2_7 s.1 s.2
noncomputable def l_sc_sumsInFire_4 (a4 : Nat → Int32) (a6 : Nat → Int32) (a8 : Nat → Int32) (f2_6 : Int32) (f2_7 : Int32) (l1 : Int32) (l2 : Int32) : Option T_sc_sumsInFire := zlp (f_sc_sumsInFire_4 a4 a6 a8 f2_6 f2_7) (l1, l2)
noncomputable def q_sc_sumsInFire (a4 : Nat → Int32) (a6 : Nat → Int32) (a8 : Nat → Int32) (f2_6 : Int32) (f2_7 : Int32) : Option T_sc_sumsInFire :=
  l_sc_sumsInFire_4 a4 a6 a8 f2_6 f2_7 0 0
def P_sc_sumsInFire (Q : (Nat → Int32) → (Nat → Int32) → (Nat → Int32) → Int32 → Int32 → Option (Int32)) : zSp := fun as g => match as with
  | [.ref a] => bif Nat.beq a 2 then zpe (Q (g.1 4) (g.1 6) (g.1 8) (g.2.1 2 6) (g.2.1 2 7)) (fun t => (some (.int t), (g.1, g.2.1, g.2.2))) else bif Nat.beq a 9 then zpe (Q (g.1 11) (g.1 13) (g.1 15) (g.2.1 9 6) (g.2.1 9 7)) (fun t => (some (.int t), (g.1, g.2.1, g.2.2))) else bif Nat.beq a 16 then zpe (Q (g.1 18) (g.1 20) (g.1 22) (g.2.1 16 6) (g.2.1 16 7)) (fun t => (some (.int t), (g.1, g.2.1, g.2.2))) else none
  | _ => none
noncomputable abbrev S_sc_sumsInFire : zSp := P_sc_sumsInFire q_sc_sumsInFire
def O_sc_sumsInFire_2 (ar fi : Nat → Nat → Int32) (m1 : Nat) (m2 : Nat) (m3 : Nat) (m4 : Nat) (m5 : Nat) (t : T_sc_sumsInFire) : zO2 := (some (.int t), (ar, fi, (m1, m2, m3, m4, m5)))
def M_sc_sumsInFire_4_2 (X : Nat × (Nat → Int32)) (E : zTE) (ar fi : Nat → Nat → Int32) (m1 : Nat) (m2 : Nat) (m3 : Nat) (m4 : Nat) (m5 : Nat) (o : zO2) (s : U_sc_sumsInFire_4) : Prop := match s with
  | (l1, l2) => zR2 X zFT E zc_84 4 [.ref 2, .int l1, .int l2] [] (ar, fi, (m1, m2, m3, m4, m5)) o
set_option maxRecDepth 1000000 in
theorem t4_sc_sumsInFire_2 {X : Nat × (Nat → Int32)} {ar fi : Nat → Nat → Int32} {m1 m2 m3 m4 m5 : Nat} {l1 : Int32} {l2 : Int32} {W_sc_isTold : Int32 → Int32 → Int32} {W_sc_isGone : Int32 → Int32 → Int32} : zseg X zFT (zEx 78 (P_sc_isTold W_sc_isTold) (zEx 79 (P_sc_isGone W_sc_isGone) zE0)) zc_84 (fun p => Nat.beq p 4) 400 4 [.ref 2, .int l1, .int l2] [] (ar, fi, (m1, m2, m3, m4, m5)) = (
  bif decide (24 ≤ l2) then
   some (.inr (some (.int l1), (ar, fi, (m1, m2, m3, m4, m5))))
  else
   zl (W_sc_isTold l2 (fi 2 6)) (fun v1 =>
   bif decide (v1 = 0) then
    some (.inl (4, [.ref 2, .int l1, .int (l2 + 1)], [], (ar, fi, (m1, m2, m3, m4, m5))))
   else
    zl (W_sc_isGone l2 (fi 2 7)) (fun v2 =>
    bif !decide (v2 = 0) then
     some (.inl (4, [.ref 2, .int l1, .int (l2 + 1)], [], (ar, fi, (m1, m2, m3, m4, m5))))
    else
     zg (Nat.beq 16 16 && (zin l2 24)) (
     zg (Nat.beq 16 16 && (zin ((ar 6) (l2.toNatClampNeg)) 96)) (
     bif decide ((ar 4) (((ar 6) (l2.toNatClampNeg)).toNatClampNeg) = 0) then
      some (.inl (4, [.ref 2, .int l1, .int (l2 + 1)], [], (ar, fi, (m1, m2, m3, m4, m5))))
     else
      zg (Nat.beq 16 16 && (zin l2 24)) (
      some (.inl (4, [.ref 2, .int (l1 + ((ar 8) (l2.toNatClampNeg))), .int (l2 + 1)], [], (ar, fi, (m1, m2, m3, m4, m5))))))))) : Option ((Nat × List Value × List Value × zH2) ⊕ zO2)) := by with_unfolding_all rfl
set_option maxRecDepth 20000 in
theorem k_sc_sumsInFire_4_2 {X : Nat × (Nat → Int32)} {ar fi : Nat → Nat → Int32} {m1 m2 m3 m4 m5 : Nat} {o : zO2} : ∀ (s : U_sc_sumsInFire_4) (q : U_sc_sumsInFire_4 ⊕ T_sc_sumsInFire), f_sc_sumsInFire_4 (ar 4) (ar 6) (ar 8) (fi 2 6) (fi 2 7) s = some q → zq (M_sc_sumsInFire_4_2 X (zEx 78 S_sc_isTold (zEx 79 S_sc_isGone zE0)) ar fi m1 m2 m3 m4 m5 o) (fun t => O_sc_sumsInFire_2 ar fi m1 m2 m3 m4 m5 t = o) q → M_sc_sumsInFire_4_2 X (zEx 78 S_sc_isTold (zEx 79 S_sc_isGone zE0)) ar fi m1 m2 m3 m4 m5 o s := by
  intro s q h hq
  obtain ⟨l1, l2⟩ := s
  have h : b_sc_sumsInFire_4 (ar 4) (ar 6) (ar 8) (fi 2 6) (fi 2 7) l1 l2 = some q := h
  unfold b_sc_sumsInFire_4 at h
  show zR2 X zFT (zEx 78 S_sc_isTold (zEx 79 S_sc_isGone zE0)) zc_84 4 [.ref 2, .int l1, .int l2] [] (ar, fi, (m1, m2, m3, m4, m5)) o
  refine zT_seg t4_sc_sumsInFire_2 ?_
  obtain ⟨TT, hTT⟩ : ∃ T, T = zT X zFT (zEx 78 S_sc_isTold (zEx 79 S_sc_isGone zE0)) zc_84 o := ⟨_, rfl⟩
  rw [← hTT]
  refine zb_el h (fun hb h => zU_t hTT hb ?_) (fun hb h => zU_f hTT hb ?_)
  · rw [hTT]
    have hz := zsi h hq
    refine (zO_mk ?_ ?_).trans hz
    · first | with_reducible rfl | rfl
    · first | with_reducible rfl | rfl
  · refine zl_el h (fun h => zU_l hTT ?_)
    refine zb_el h (fun hb h => zU_t hTT hb ?_) (fun hb h => zU_f hTT hb ?_)
    · rw [hTT]
      have hz := zsi h hq
      refine zR2_hp ?_ ?_ hz
      · first | with_reducible rfl | rfl
      · first | with_reducible rfl | rfl
    · refine zl_el h (fun h => zU_l hTT ?_)
      refine zb_el h (fun hb h => zU_t hTT hb ?_) (fun hb h => zU_f hTT hb ?_)
      · rw [hTT]
        have hz := zsi h hq
        refine zR2_hp ?_ ?_ hz
        · first | with_reducible rfl | rfl
        · first | with_reducible rfl | rfl
      · refine zg_el h (fun hg h => zU_ga hTT hg ?_)
        refine zg_el h (fun hg h => zU_ga hTT hg ?_)
        refine zb_el h (fun hb h => zU_t hTT hb ?_) (fun hb h => zU_f hTT hb ?_)
        · rw [hTT]
          have hz := zsi h hq
          refine zR2_hp ?_ ?_ hz
          · first | with_reducible rfl | rfl
          · first | with_reducible rfl | rfl
        · refine zg_el h (fun hg h => zU_ga hTT hg ?_)
          rw [hTT]
          have hz := zsi h hq
          refine zR2_hp ?_ ?_ hz
          · first | with_reducible rfl | rfl
          · first | with_reducible rfl | rfl
set_option maxRecDepth 1000000 in
theorem t_sc_sumsInFire_2 {X : Nat × (Nat → Int32)} {ar fi : Nat → Nat → Int32} {m1 m2 m3 m4 m5 : Nat} {W_sc_isTold : Int32 → Int32 → Int32} {W_sc_isGone : Int32 → Int32 → Int32} : zseg X zFT (zEx 78 (P_sc_isTold W_sc_isTold) (zEx 79 (P_sc_isGone W_sc_isGone) zE0)) zc_84 (fun p => Nat.beq p 4) 400 0 [.ref 2] [] (ar, fi, (m1, m2, m3, m4, m5)) = (
  some (.inl (4, [.ref 2, .int 0, .int 0], [], (ar, fi, (m1, m2, m3, m4, m5)))) : Option ((Nat × List Value × List Value × zH2) ⊕ zO2)) := by with_unfolding_all rfl
set_option maxRecDepth 20000 in
theorem e_sc_sumsInFire_2 {X : Nat × (Nat → Int32)} {ar fi : Nat → Nat → Int32} {m1 m2 m3 m4 m5 : Nat} {o : zO2} : ∀ (q : T_sc_sumsInFire), q_sc_sumsInFire (ar 4) (ar 6) (ar 8) (fi 2 6) (fi 2 7) = some q → (fun t => O_sc_sumsInFire_2 ar fi m1 m2 m3 m4 m5 t = o) q → zR2 X zFT (zEx 78 S_sc_isTold (zEx 79 S_sc_isGone zE0)) zc_84 0 [.ref 2] [] (ar, fi, (m1, m2, m3, m4, m5)) o := by
  intro q h hq
  unfold q_sc_sumsInFire at h
  refine zT_seg t_sc_sumsInFire_2 ?_
  obtain ⟨TT, hTT⟩ : ∃ T, T = zT X zFT (zEx 78 S_sc_isTold (zEx 79 S_sc_isGone zE0)) zc_84 o := ⟨_, rfl⟩
  rw [← hTT]
  rw [hTT]
  refine zR2_hp ?_ ?_ (zlp_K k_sc_sumsInFire_4_2 h hq)
  · first | with_reducible rfl | rfl
  · first | with_reducible rfl | rfl
def O_sc_sumsInFire_9 (ar fi : Nat → Nat → Int32) (m1 : Nat) (m2 : Nat) (m3 : Nat) (m4 : Nat) (m5 : Nat) (t : T_sc_sumsInFire) : zO2 := (some (.int t), (ar, fi, (m1, m2, m3, m4, m5)))
def M_sc_sumsInFire_4_9 (X : Nat × (Nat → Int32)) (E : zTE) (ar fi : Nat → Nat → Int32) (m1 : Nat) (m2 : Nat) (m3 : Nat) (m4 : Nat) (m5 : Nat) (o : zO2) (s : U_sc_sumsInFire_4) : Prop := match s with
  | (l1, l2) => zR2 X zFT E zc_84 4 [.ref 9, .int l1, .int l2] [] (ar, fi, (m1, m2, m3, m4, m5)) o
set_option maxRecDepth 1000000 in
theorem t4_sc_sumsInFire_9 {X : Nat × (Nat → Int32)} {ar fi : Nat → Nat → Int32} {m1 m2 m3 m4 m5 : Nat} {l1 : Int32} {l2 : Int32} {W_sc_isTold : Int32 → Int32 → Int32} {W_sc_isGone : Int32 → Int32 → Int32} : zseg X zFT (zEx 78 (P_sc_isTold W_sc_isTold) (zEx 79 (P_sc_isGone W_sc_isGone) zE0)) zc_84 (fun p => Nat.beq p 4) 400 4 [.ref 9, .int l1, .int l2] [] (ar, fi, (m1, m2, m3, m4, m5)) = (
  bif decide (24 ≤ l2) then
   some (.inr (some (.int l1), (ar, fi, (m1, m2, m3, m4, m5))))
  else
   zl (W_sc_isTold l2 (fi 9 6)) (fun v1 =>
   bif decide (v1 = 0) then
    some (.inl (4, [.ref 9, .int l1, .int (l2 + 1)], [], (ar, fi, (m1, m2, m3, m4, m5))))
   else
    zl (W_sc_isGone l2 (fi 9 7)) (fun v2 =>
    bif !decide (v2 = 0) then
     some (.inl (4, [.ref 9, .int l1, .int (l2 + 1)], [], (ar, fi, (m1, m2, m3, m4, m5))))
    else
     zg (Nat.beq 16 16 && (zin l2 24)) (
     zg (Nat.beq 16 16 && (zin ((ar 13) (l2.toNatClampNeg)) 96)) (
     bif decide ((ar 11) (((ar 13) (l2.toNatClampNeg)).toNatClampNeg) = 0) then
      some (.inl (4, [.ref 9, .int l1, .int (l2 + 1)], [], (ar, fi, (m1, m2, m3, m4, m5))))
     else
      zg (Nat.beq 16 16 && (zin l2 24)) (
      some (.inl (4, [.ref 9, .int (l1 + ((ar 15) (l2.toNatClampNeg))), .int (l2 + 1)], [], (ar, fi, (m1, m2, m3, m4, m5))))))))) : Option ((Nat × List Value × List Value × zH2) ⊕ zO2)) := by with_unfolding_all rfl
set_option maxRecDepth 20000 in
theorem k_sc_sumsInFire_4_9 {X : Nat × (Nat → Int32)} {ar fi : Nat → Nat → Int32} {m1 m2 m3 m4 m5 : Nat} {o : zO2} : ∀ (s : U_sc_sumsInFire_4) (q : U_sc_sumsInFire_4 ⊕ T_sc_sumsInFire), f_sc_sumsInFire_4 (ar 11) (ar 13) (ar 15) (fi 9 6) (fi 9 7) s = some q → zq (M_sc_sumsInFire_4_9 X (zEx 78 S_sc_isTold (zEx 79 S_sc_isGone zE0)) ar fi m1 m2 m3 m4 m5 o) (fun t => O_sc_sumsInFire_9 ar fi m1 m2 m3 m4 m5 t = o) q → M_sc_sumsInFire_4_9 X (zEx 78 S_sc_isTold (zEx 79 S_sc_isGone zE0)) ar fi m1 m2 m3 m4 m5 o s := by
  intro s q h hq
  obtain ⟨l1, l2⟩ := s
  have h : b_sc_sumsInFire_4 (ar 11) (ar 13) (ar 15) (fi 9 6) (fi 9 7) l1 l2 = some q := h
  unfold b_sc_sumsInFire_4 at h
  show zR2 X zFT (zEx 78 S_sc_isTold (zEx 79 S_sc_isGone zE0)) zc_84 4 [.ref 9, .int l1, .int l2] [] (ar, fi, (m1, m2, m3, m4, m5)) o
  refine zT_seg t4_sc_sumsInFire_9 ?_
  obtain ⟨TT, hTT⟩ : ∃ T, T = zT X zFT (zEx 78 S_sc_isTold (zEx 79 S_sc_isGone zE0)) zc_84 o := ⟨_, rfl⟩
  rw [← hTT]
  refine zb_el h (fun hb h => zU_t hTT hb ?_) (fun hb h => zU_f hTT hb ?_)
  · rw [hTT]
    have hz := zsi h hq
    refine (zO_mk ?_ ?_).trans hz
    · first | with_reducible rfl | rfl
    · first | with_reducible rfl | rfl
  · refine zl_el h (fun h => zU_l hTT ?_)
    refine zb_el h (fun hb h => zU_t hTT hb ?_) (fun hb h => zU_f hTT hb ?_)
    · rw [hTT]
      have hz := zsi h hq
      refine zR2_hp ?_ ?_ hz
      · first | with_reducible rfl | rfl
      · first | with_reducible rfl | rfl
    · refine zl_el h (fun h => zU_l hTT ?_)
      refine zb_el h (fun hb h => zU_t hTT hb ?_) (fun hb h => zU_f hTT hb ?_)
      · rw [hTT]
        have hz := zsi h hq
        refine zR2_hp ?_ ?_ hz
        · first | with_reducible rfl | rfl
        · first | with_reducible rfl | rfl
      · refine zg_el h (fun hg h => zU_ga hTT hg ?_)
        refine zg_el h (fun hg h => zU_ga hTT hg ?_)
        refine zb_el h (fun hb h => zU_t hTT hb ?_) (fun hb h => zU_f hTT hb ?_)
        · rw [hTT]
          have hz := zsi h hq
          refine zR2_hp ?_ ?_ hz
          · first | with_reducible rfl | rfl
          · first | with_reducible rfl | rfl
        · refine zg_el h (fun hg h => zU_ga hTT hg ?_)
          rw [hTT]
          have hz := zsi h hq
          refine zR2_hp ?_ ?_ hz
          · first | with_reducible rfl | rfl
          · first | with_reducible rfl | rfl
set_option maxRecDepth 1000000 in
theorem t_sc_sumsInFire_9 {X : Nat × (Nat → Int32)} {ar fi : Nat → Nat → Int32} {m1 m2 m3 m4 m5 : Nat} {W_sc_isTold : Int32 → Int32 → Int32} {W_sc_isGone : Int32 → Int32 → Int32} : zseg X zFT (zEx 78 (P_sc_isTold W_sc_isTold) (zEx 79 (P_sc_isGone W_sc_isGone) zE0)) zc_84 (fun p => Nat.beq p 4) 400 0 [.ref 9] [] (ar, fi, (m1, m2, m3, m4, m5)) = (
  some (.inl (4, [.ref 9, .int 0, .int 0], [], (ar, fi, (m1, m2, m3, m4, m5)))) : Option ((Nat × List Value × List Value × zH2) ⊕ zO2)) := by with_unfolding_all rfl
set_option maxRecDepth 20000 in
theorem e_sc_sumsInFire_9 {X : Nat × (Nat → Int32)} {ar fi : Nat → Nat → Int32} {m1 m2 m3 m4 m5 : Nat} {o : zO2} : ∀ (q : T_sc_sumsInFire), q_sc_sumsInFire (ar 11) (ar 13) (ar 15) (fi 9 6) (fi 9 7) = some q → (fun t => O_sc_sumsInFire_9 ar fi m1 m2 m3 m4 m5 t = o) q → zR2 X zFT (zEx 78 S_sc_isTold (zEx 79 S_sc_isGone zE0)) zc_84 0 [.ref 9] [] (ar, fi, (m1, m2, m3, m4, m5)) o := by
  intro q h hq
  unfold q_sc_sumsInFire at h
  refine zT_seg t_sc_sumsInFire_9 ?_
  obtain ⟨TT, hTT⟩ : ∃ T, T = zT X zFT (zEx 78 S_sc_isTold (zEx 79 S_sc_isGone zE0)) zc_84 o := ⟨_, rfl⟩
  rw [← hTT]
  rw [hTT]
  refine zR2_hp ?_ ?_ (zlp_K k_sc_sumsInFire_4_9 h hq)
  · first | with_reducible rfl | rfl
  · first | with_reducible rfl | rfl
def O_sc_sumsInFire_16 (ar fi : Nat → Nat → Int32) (m1 : Nat) (m2 : Nat) (m3 : Nat) (m4 : Nat) (m5 : Nat) (t : T_sc_sumsInFire) : zO2 := (some (.int t), (ar, fi, (m1, m2, m3, m4, m5)))
def M_sc_sumsInFire_4_16 (X : Nat × (Nat → Int32)) (E : zTE) (ar fi : Nat → Nat → Int32) (m1 : Nat) (m2 : Nat) (m3 : Nat) (m4 : Nat) (m5 : Nat) (o : zO2) (s : U_sc_sumsInFire_4) : Prop := match s with
  | (l1, l2) => zR2 X zFT E zc_84 4 [.ref 16, .int l1, .int l2] [] (ar, fi, (m1, m2, m3, m4, m5)) o
set_option maxRecDepth 1000000 in
theorem t4_sc_sumsInFire_16 {X : Nat × (Nat → Int32)} {ar fi : Nat → Nat → Int32} {m1 m2 m3 m4 m5 : Nat} {l1 : Int32} {l2 : Int32} {W_sc_isTold : Int32 → Int32 → Int32} {W_sc_isGone : Int32 → Int32 → Int32} : zseg X zFT (zEx 78 (P_sc_isTold W_sc_isTold) (zEx 79 (P_sc_isGone W_sc_isGone) zE0)) zc_84 (fun p => Nat.beq p 4) 400 4 [.ref 16, .int l1, .int l2] [] (ar, fi, (m1, m2, m3, m4, m5)) = (
  bif decide (24 ≤ l2) then
   some (.inr (some (.int l1), (ar, fi, (m1, m2, m3, m4, m5))))
  else
   zl (W_sc_isTold l2 (fi 16 6)) (fun v1 =>
   bif decide (v1 = 0) then
    some (.inl (4, [.ref 16, .int l1, .int (l2 + 1)], [], (ar, fi, (m1, m2, m3, m4, m5))))
   else
    zl (W_sc_isGone l2 (fi 16 7)) (fun v2 =>
    bif !decide (v2 = 0) then
     some (.inl (4, [.ref 16, .int l1, .int (l2 + 1)], [], (ar, fi, (m1, m2, m3, m4, m5))))
    else
     zg (Nat.beq 16 16 && (zin l2 24)) (
     zg (Nat.beq 16 16 && (zin ((ar 20) (l2.toNatClampNeg)) 96)) (
     bif decide ((ar 18) (((ar 20) (l2.toNatClampNeg)).toNatClampNeg) = 0) then
      some (.inl (4, [.ref 16, .int l1, .int (l2 + 1)], [], (ar, fi, (m1, m2, m3, m4, m5))))
     else
      zg (Nat.beq 16 16 && (zin l2 24)) (
      some (.inl (4, [.ref 16, .int (l1 + ((ar 22) (l2.toNatClampNeg))), .int (l2 + 1)], [], (ar, fi, (m1, m2, m3, m4, m5))))))))) : Option ((Nat × List Value × List Value × zH2) ⊕ zO2)) := by with_unfolding_all rfl
set_option maxRecDepth 20000 in
theorem k_sc_sumsInFire_4_16 {X : Nat × (Nat → Int32)} {ar fi : Nat → Nat → Int32} {m1 m2 m3 m4 m5 : Nat} {o : zO2} : ∀ (s : U_sc_sumsInFire_4) (q : U_sc_sumsInFire_4 ⊕ T_sc_sumsInFire), f_sc_sumsInFire_4 (ar 18) (ar 20) (ar 22) (fi 16 6) (fi 16 7) s = some q → zq (M_sc_sumsInFire_4_16 X (zEx 78 S_sc_isTold (zEx 79 S_sc_isGone zE0)) ar fi m1 m2 m3 m4 m5 o) (fun t => O_sc_sumsInFire_16 ar fi m1 m2 m3 m4 m5 t = o) q → M_sc_sumsInFire_4_16 X (zEx 78 S_sc_isTold (zEx 79 S_sc_isGone zE0)) ar fi m1 m2 m3 m4 m5 o s := by
  intro s q h hq
  obtain ⟨l1, l2⟩ := s
  have h : b_sc_sumsInFire_4 (ar 18) (ar 20) (ar 22) (fi 16 6) (fi 16 7) l1 l2 = some q := h
  unfold b_sc_sumsInFire_4 at h
  show zR2 X zFT (zEx 78 S_sc_isTold (zEx 79 S_sc_isGone zE0)) zc_84 4 [.ref 16, .int l1, .int l2] [] (ar, fi, (m1, m2, m3, m4, m5)) o
  refine zT_seg t4_sc_sumsInFire_16 ?_
  obtain ⟨TT, hTT⟩ : ∃ T, T = zT X zFT (zEx 78 S_sc_isTold (zEx 79 S_sc_isGone zE0)) zc_84 o := ⟨_, rfl⟩
  rw [← hTT]
  refine zb_el h (fun hb h => zU_t hTT hb ?_) (fun hb h => zU_f hTT hb ?_)
  · rw [hTT]
    have hz := zsi h hq
    refine (zO_mk ?_ ?_).trans hz
    · first | with_reducible rfl | rfl
    · first | with_reducible rfl | rfl
  · refine zl_el h (fun h => zU_l hTT ?_)
    refine zb_el h (fun hb h => zU_t hTT hb ?_) (fun hb h => zU_f hTT hb ?_)
    · rw [hTT]
      have hz := zsi h hq
      refine zR2_hp ?_ ?_ hz
      · first | with_reducible rfl | rfl
      · first | with_reducible rfl | rfl
    · refine zl_el h (fun h => zU_l hTT ?_)
      refine zb_el h (fun hb h => zU_t hTT hb ?_) (fun hb h => zU_f hTT hb ?_)
      · rw [hTT]
        have hz := zsi h hq
        refine zR2_hp ?_ ?_ hz
        · first | with_reducible rfl | rfl
        · first | with_reducible rfl | rfl
      · refine zg_el h (fun hg h => zU_ga hTT hg ?_)
        refine zg_el h (fun hg h => zU_ga hTT hg ?_)
        refine zb_el h (fun hb h => zU_t hTT hb ?_) (fun hb h => zU_f hTT hb ?_)
        · rw [hTT]
          have hz := zsi h hq
          refine zR2_hp ?_ ?_ hz
          · first | with_reducible rfl | rfl
          · first | with_reducible rfl | rfl
        · refine zg_el h (fun hg h => zU_ga hTT hg ?_)
          rw [hTT]
          have hz := zsi h hq
          refine zR2_hp ?_ ?_ hz
          · first | with_reducible rfl | rfl
          · first | with_reducible rfl | rfl
set_option maxRecDepth 1000000 in
theorem t_sc_sumsInFire_16 {X : Nat × (Nat → Int32)} {ar fi : Nat → Nat → Int32} {m1 m2 m3 m4 m5 : Nat} {W_sc_isTold : Int32 → Int32 → Int32} {W_sc_isGone : Int32 → Int32 → Int32} : zseg X zFT (zEx 78 (P_sc_isTold W_sc_isTold) (zEx 79 (P_sc_isGone W_sc_isGone) zE0)) zc_84 (fun p => Nat.beq p 4) 400 0 [.ref 16] [] (ar, fi, (m1, m2, m3, m4, m5)) = (
  some (.inl (4, [.ref 16, .int 0, .int 0], [], (ar, fi, (m1, m2, m3, m4, m5)))) : Option ((Nat × List Value × List Value × zH2) ⊕ zO2)) := by with_unfolding_all rfl
set_option maxRecDepth 20000 in
theorem e_sc_sumsInFire_16 {X : Nat × (Nat → Int32)} {ar fi : Nat → Nat → Int32} {m1 m2 m3 m4 m5 : Nat} {o : zO2} : ∀ (q : T_sc_sumsInFire), q_sc_sumsInFire (ar 18) (ar 20) (ar 22) (fi 16 6) (fi 16 7) = some q → (fun t => O_sc_sumsInFire_16 ar fi m1 m2 m3 m4 m5 t = o) q → zR2 X zFT (zEx 78 S_sc_isTold (zEx 79 S_sc_isGone zE0)) zc_84 0 [.ref 16] [] (ar, fi, (m1, m2, m3, m4, m5)) o := by
  intro q h hq
  unfold q_sc_sumsInFire at h
  refine zT_seg t_sc_sumsInFire_16 ?_
  obtain ⟨TT, hTT⟩ : ∃ T, T = zT X zFT (zEx 78 S_sc_isTold (zEx 79 S_sc_isGone zE0)) zc_84 o := ⟨_, rfl⟩
  rw [← hTT]
  rw [hTT]
  refine zR2_hp ?_ ?_ (zlp_K k_sc_sumsInFire_4_16 h hq)
  · first | with_reducible rfl | rfl
  · first | with_reducible rfl | rfl
theorem ok_sc_sumsInFire (X : Nat × (Nat → Int32)) : zOkS X 84 S_sc_sumsInFire 2 := zOkS_new (zOkE_cons (ok_sc_isTold X) (by decide) (zOkE_cons (ok_sc_isGone X) (by decide) (zOkE_nil X 1))) (by
  intro args g o h
  obtain ⟨ar, fi, m1, m2, m3, m4, m5⟩ := g
  unfold S_sc_sumsInFire P_sc_sumsInFire at h
  split at h
  · refine zb_el h (fun hI0 k0 => ?_) (fun _ h10 => ?_)
    · try simp only [Bool.and_eq_true] at hI0
      have j0 := hI0
      have e0 := Nat.eq_of_beq_eq_true j0
      subst e0
      exact zpe_el k0 (fun t ht ho => e_sc_sumsInFire_2 t ht ho)
    · skip
      refine zb_el h10 (fun hI1 k1 => ?_) (fun _ h11 => ?_)
      · try simp only [Bool.and_eq_true] at hI1
        have j0 := hI1
        have e0 := Nat.eq_of_beq_eq_true j0
        subst e0
        exact zpe_el k1 (fun t ht ho => e_sc_sumsInFire_9 t ht ho)
      · skip
        refine zb_el h11 (fun hI2 k2 => ?_) (fun _ h12 => ?_)
        · try simp only [Bool.and_eq_true] at hI2
          have j0 := hI2
          have e0 := Nat.eq_of_beq_eq_true j0
          subst e0
          exact zpe_el k2 (fun t ht ho => e_sc_sumsInFire_16 t ht ho)
        · cases h12
  · cases h)
