abbrev T_sc_sumsInFire : Type := Int32
abbrev U_sc_sumsInFire_4 : Type := Int32 × Int32
def b_sc_sumsInFire_4 (a4 : Nat → Int32) (a6 : Nat → Int32) (a8 : Nat → Int32) (f2_6 : Int32) (f2_7 : Int32) (l1 : Int32) (l2 : Int32) : Option (U_sc_sumsInFire_4 ⊕ T_sc_sumsInFire) :=
  bif decide (24 ≤ l2) then
   some (.inr l1)
  else
   zl (w_sc_isTold l2 (f2_6)) (fun v1 =>
   bif decide (v1 = 0) then
    some (.inl (l1, l2 + 1))
   else
    zl (w_sc_isGone l2 (f2_7)) (fun v2 =>
    bif !decide (v2 = 0) then
     some (.inl (l1, l2 + 1))
    else
     zg (zin l2 24) (
     zg (zin (a6 (l2.toNatClampNeg)) 96) (
     bif decide (a4 ((a6 (l2.toNatClampNeg)).toNatClampNeg) = 0) then
      some (.inl (l1, l2 + 1))
     else
      zg (zin l2 24) (
      some (.inl (l1 + (a8 (l2.toNatClampNeg)), l2 + 1)))))))
def f_sc_sumsInFire_4 (a4 : Nat → Int32) (a6 : Nat → Int32) (a8 : Nat → Int32) (f2_6 : Int32) (f2_7 : Int32) : U_sc_sumsInFire_4 → Option (U_sc_sumsInFire_4 ⊕ T_sc_sumsInFire) := fun s => b_sc_sumsInFire_4 a4 a6 a8 f2_6 f2_7 s.1 s.2
noncomputable def l_sc_sumsInFire_4 (a4 : Nat → Int32) (a6 : Nat → Int32) (a8 : Nat → Int32) (f2_6 : Int32) (f2_7 : Int32) (l1 : Int32) (l2 : Int32) : Option T_sc_sumsInFire := zlp (f_sc_sumsInFire_4 a4 a6 a8 f2_6 f2_7) (l1, l2)
noncomputable def q_sc_sumsInFire (a4 : Nat → Int32) (a6 : Nat → Int32) (a8 : Nat → Int32) (f2_6 : Int32) (f2_7 : Int32) : Option T_sc_sumsInFire :=
  l_sc_sumsInFire_4 a4 a6 a8 f2_6 f2_7 0 0
def P_sc_sumsInFire (Q : (Nat → Int32) → (Nat → Int32) → (Nat → Int32) → Int32 → Int32 → Option (Int32)) : zSp := fun as g => match as with
  | [.ref a] => bif Nat.beq a 2 then zpe (Q (g.1 4) (g.1 6) (g.1 8) (g.2.1 2 6) (g.2.1 2 7)) (fun t => (some (.int t), (g.1, g.2.1, g.2.2))) else bif Nat.beq a 9 then zpe (Q (g.1 11) (g.1 13) (g.1 15) (g.2.1 9 6) (g.2.1 9 7)) (fun t => (some (.int t), (g.1, g.2.1, g.2.2))) else bif Nat.beq a 16 then zpe (Q (g.1 18) (g.1 20) (g.1 22) (g.2.1 16 6) (g.2.1 16 7)) (fun t => (some (.int t), (g.1, g.2.1, g.2.2))) else none
  | _ => none
noncomputable abbrev S_sc_sumsInFire : zSp := P_sc_sumsInFire q_sc_sumsInFire
def O_sc_sumsInFire_2 (ar fi : Nat → Nat → Int32) (m1 : Nat) (m2 : Nat) (m3 : Nat) (m4 : Nat) (m5 : Nat) (t : T_sc_sumsInFire) : zO2 := (some (.int t), (ar, fi, (m1, m2, m3, m4, m5)))
def M_sc_sumsInFire_4_2 (X : Nat × (Nat → Int32)) (E : zTE) (ar fi : Nat → Nat → Int32) (m1 : Nat) (m2 : Nat) (m3 : Nat) (m4 : Nat) (m5 : Nat) (o : zO2) (s : U_sc_sumsInFire_4) : Prop := zR2 X zFT E zc_84 4 [.ref 2, .int s.1, .int s.2] [] (ar, fi, (m1, m2, m3, m4, m5)) o
set_option maxRecDepth 20000 in
theorem t4_sc_sumsInFire_2 {X : Nat × (Nat → Int32)} {ar fi : Nat → Nat → Int32} {m1 m2 m3 m4 m5 : Nat} {l1 : Int32} {l2 : Int32} {W_sc_isTold : Int32 → Int32 → Int32} {W_sc_isGone : Int32 → Int32 → Int32} : zseg X zFT (zEx 78 (P_sc_isTold W_sc_isTold) (zEx 79 (P_sc_isGone W_sc_isGone) zE0)) zc_84 (fun p => Nat.beq p 4) 400 4 [.ref 2, .int l1, .int l2] [] (ar, fi, (m1, m2, m3, m4, m5)) = (
  bif decide (24 ≤ l2) then
   some (.inr (some (.int l1), (ar, fi, (m1, m2, m3, m4, m5))))
  else
   zl (W_sc_isTold l2 (fi 2 6)) (fun v1 =>
   bif decide (v1 = 0) then
    some (.inl (4, [.ref 2, .int l1, .int (l2 + 1)], [], (ar, fi, (m1, m2, m3, m4, m5))))
   else
    zl (W_sc_isGone l2 (fi 2 7)) (fun v2 =>
    bif !decide (v2 = 0) then
     some (.inl (4, [.ref 2, .int l1, .int (l2 + 1)], [], (ar, fi, (m1, m2, m3, m4, m5))))
    else
     zg (zin l2 24) (
     zg (zin ((ar 6) (l2.toNatClampNeg)) 96) (
     bif decide ((ar 4) (((ar 6) (l2.toNatClampNeg)).toNatClampNeg) = 0) then
      some (.inl (4, [.ref 2, .int l1, .int (l2 + 1)], [], (ar, fi, (m1, m2, m3, m4, m5))))
     else
      zg (zin l2 24) (
      some (.inl (4, [.ref 2, .int (l1 + ((ar 8) (l2.toNatClampNeg))), .int (l2 + 1)], [], (ar, fi, (m1, m2, m3, m4, m5))))))))) : Option ((Nat × List Value × List Value × zH2) ⊕ zO2)) := rfl
theorem k_sc_sumsInFire_4_2 {X : Nat × (Nat → Int32)} {ar fi : Nat → Nat → Int32} {m1 m2 m3 m4 m5 : Nat} {o : zO2} : ∀ (s : U_sc_sumsInFire_4) (q : U_sc_sumsInFire_4 ⊕ T_sc_sumsInFire), f_sc_sumsInFire_4 (ar 4) (ar 6) (ar 8) (fi 2 6) (fi 2 7) s = some q → zq (M_sc_sumsInFire_4_2 X (zEx 78 S_sc_isTold (zEx 79 S_sc_isGone zE0)) ar fi m1 m2 m3 m4 m5 o) (fun t => O_sc_sumsInFire_2 ar fi m1 m2 m3 m4 m5 t = o) q → M_sc_sumsInFire_4_2 X (zEx 78 S_sc_isTold (zEx 79 S_sc_isGone zE0)) ar fi m1 m2 m3 m4 m5 o s := by
  intro s q h hq
  obtain ⟨l1, l2⟩ := s
  have h : b_sc_sumsInFire_4 (ar 4) (ar 6) (ar 8) (fi 2 6) (fi 2 7) l1 l2 = some q := h
  unfold b_sc_sumsInFire_4 at h
  show zR2 X zFT (zEx 78 S_sc_isTold (zEx 79 S_sc_isGone zE0)) zc_84 4 [.ref 2, .int l1, .int l2] [] (ar, fi, (m1, m2, m3, m4, m5)) o
  refine zT_seg t4_sc_sumsInFire_2 ?_
  refine zb_el h (fun hb h => zT_t hb ?_) (fun hb h => zT_f hb ?_)
  · have hz := zsi h hq
    refine (zO_mk ?_ ?_).trans hz
    · first | with_reducible rfl | (rfl)
    · first | with_reducible rfl | (rfl)
  · refine zl_el h (fun h => zT_l ?_)
    refine zb_el h (fun hb h => zT_t hb ?_) (fun hb h => zT_f hb ?_)
    · have hz := zsi h hq
      refine zR2_hp ?_ ?_ hz
      · first | with_reducible rfl | (rfl)
      · first | with_reducible rfl | (rfl)
    · refine zl_el h (fun h => zT_l ?_)
      refine zb_el h (fun hb h => zT_t hb ?_) (fun hb h => zT_f hb ?_)
      · have hz := zsi h hq
        refine zR2_hp ?_ ?_ hz
        · first | with_reducible rfl | (rfl)
        · first | with_reducible rfl | (rfl)
      · refine zg_el h (fun hg h => zT_g hg ?_)
        refine zg_el h (fun hg h => zT_g hg ?_)
        refine zb_el h (fun hb h => zT_t hb ?_) (fun hb h => zT_f hb ?_)
        · have hz := zsi h hq
          refine zR2_hp ?_ ?_ hz
          · first | with_reducible rfl | (rfl)
          · first | with_reducible rfl | (rfl)
        · refine zg_el h (fun hg h => zT_g hg ?_)
          have hz := zsi h hq
          refine zR2_hp ?_ ?_ hz
          · first | with_reducible rfl | (rfl)
          · first | with_reducible rfl | (rfl)
set_option maxRecDepth 20000 in
theorem t_sc_sumsInFire_2 {X : Nat × (Nat → Int32)} {ar fi : Nat → Nat → Int32} {m1 m2 m3 m4 m5 : Nat} {W_sc_isTold : Int32 → Int32 → Int32} {W_sc_isGone : Int32 → Int32 → Int32} : zseg X zFT (zEx 78 (P_sc_isTold W_sc_isTold) (zEx 79 (P_sc_isGone W_sc_isGone) zE0)) zc_84 (fun p => Nat.beq p 4) 400 0 [.ref 2] [] (ar, fi, (m1, m2, m3, m4, m5)) = (
  some (.inl (4, [.ref 2, .int 0, .int 0], [], (ar, fi, (m1, m2, m3, m4, m5)))) : Option ((Nat × List Value × List Value × zH2) ⊕ zO2)) := rfl
theorem e_sc_sumsInFire_2 {X : Nat × (Nat → Int32)} {ar fi : Nat → Nat → Int32} {m1 m2 m3 m4 m5 : Nat} {o : zO2} : ∀ (q : T_sc_sumsInFire), q_sc_sumsInFire (ar 4) (ar 6) (ar 8) (fi 2 6) (fi 2 7) = some q → (fun t => O_sc_sumsInFire_2 ar fi m1 m2 m3 m4 m5 t = o) q → zR2 X zFT (zEx 78 S_sc_isTold (zEx 79 S_sc_isGone zE0)) zc_84 0 [.ref 2] [] (ar, fi, (m1, m2, m3, m4, m5)) o := by
  intro q h hq
  unfold q_sc_sumsInFire at h
  refine zT_seg t_sc_sumsInFire_2 ?_
  refine zR2_hp ?_ ?_ (zlp_K k_sc_sumsInFire_4_2 h hq)
  · first | with_reducible rfl | (rfl)
  · first | with_reducible rfl | (rfl)
def O_sc_sumsInFire_9 (ar fi : Nat → Nat → Int32) (m1 : Nat) (m2 : Nat) (m3 : Nat) (m4 : Nat) (m5 : Nat) (t : T_sc_sumsInFire) : zO2 := (some (.int t), (ar, fi, (m1, m2, m3, m4, m5)))
def M_sc_sumsInFire_4_9 (X : Nat × (Nat → Int32)) (E : zTE) (ar fi : Nat → Nat → Int32) (m1 : Nat) (m2 : Nat) (m3 : Nat) (m4 : Nat) (m5 : Nat) (o : zO2) (s : U_sc_sumsInFire_4) : Prop := zR2 X zFT E zc_84 4 [.ref 9, .int s.1, .int s.2] [] (ar, fi, (m1, m2, m3, m4, m5)) o
set_option maxRecDepth 20000 in
theorem t4_sc_sumsInFire_9 {X : Nat × (Nat → Int32)} {ar fi : Nat → Nat → Int32} {m1 m2 m3 m4 m5 : Nat} {l1 : Int32} {l2 : Int32} {W_sc_isTold : Int32 → Int32 → Int32} {W_sc_isGone : Int32 → Int32 → Int32} : zseg X zFT (zEx 78 (P_sc_isTold W_sc_isTold) (zEx 79 (P_sc_isGone W_sc_isGone) zE0)) zc_84 (fun p => Nat.beq p 4) 400 4 [.ref 9, .int l1, .int l2] [] (ar, fi, (m1, m2, m3, m4, m5)) = (
  bif decide (24 ≤ l2) then
   some (.inr (some (.int l1), (ar, fi, (m1, m2, m3, m4, m5))))
  else
   zl (W_sc_isTold l2 (fi 9 6)) (fun v1 =>
   bif decide (v1 = 0) then
    some (.inl (4, [.ref 9, .int l1, .int (l2 + 1)], [], (ar, fi, (m1, m2, m3, m4, m5))))
   else
    zl (W_sc_isGone l2 (fi 9 7)) (fun v2 =>
    bif !decide (v2 = 0) then
     some (.inl (4, [.ref 9, .int l1, .int (l2 + 1)], [], (ar, fi, (m1, m2, m3, m4, m5))))
    else
     zg (zin l2 24) (
     zg (zin ((ar 13) (l2.toNatClampNeg)) 96) (
     bif decide ((ar 11) (((ar 13) (l2.toNatClampNeg)).toNatClampNeg) = 0) then
      some (.inl (4, [.ref 9, .int l1, .int (l2 + 1)], [], (ar, fi, (m1, m2, m3, m4, m5))))
     else
      zg (zin l2 24) (
      some (.inl (4, [.ref 9, .int (l1 + ((ar 15) (l2.toNatClampNeg))), .int (l2 + 1)], [], (ar, fi, (m1, m2, m3, m4, m5))))))))) : Option ((Nat × List Value × List Value × zH2) ⊕ zO2)) := rfl
theorem k_sc_sumsInFire_4_9 {X : Nat × (Nat → Int32)} {ar fi : Nat → Nat → Int32} {m1 m2 m3 m4 m5 : Nat} {o : zO2} : ∀ (s : U_sc_sumsInFire_4) (q : U_sc_sumsInFire_4 ⊕ T_sc_sumsInFire), f_sc_sumsInFire_4 (ar 11) (ar 13) (ar 15) (fi 9 6) (fi 9 7) s = some q → zq (M_sc_sumsInFire_4_9 X (zEx 78 S_sc_isTold (zEx 79 S_sc_isGone zE0)) ar fi m1 m2 m3 m4 m5 o) (fun t => O_sc_sumsInFire_9 ar fi m1 m2 m3 m4 m5 t = o) q → M_sc_sumsInFire_4_9 X (zEx 78 S_sc_isTold (zEx 79 S_sc_isGone zE0)) ar fi m1 m2 m3 m4 m5 o s := by
  intro s q h hq
  obtain ⟨l1, l2⟩ := s
  have h : b_sc_sumsInFire_4 (ar 11) (ar 13) (ar 15) (fi 9 6) (fi 9 7) l1 l2 = some q := h
  unfold b_sc_sumsInFire_4 at h
  show zR2 X zFT (zEx 78 S_sc_isTold (zEx 79 S_sc_isGone zE0)) zc_84 4 [.ref 9, .int l1, .int l2] [] (ar, fi, (m1, m2, m3, m4, m5)) o
  refine zT_seg t4_sc_sumsInFire_9 ?_
  refine zb_el h (fun hb h => zT_t hb ?_) (fun hb h => zT_f hb ?_)
  · have hz := zsi h hq
    refine (zO_mk ?_ ?_).trans hz
    · first | with_reducible rfl | (rfl)
    · first | with_reducible rfl | (rfl)
  · refine zl_el h (fun h => zT_l ?_)
    refine zb_el h (fun hb h => zT_t hb ?_) (fun hb h => zT_f hb ?_)
    · have hz := zsi h hq
      refine zR2_hp ?_ ?_ hz
      · first | with_reducible rfl | (rfl)
      · first | with_reducible rfl | (rfl)
    · refine zl_el h (fun h => zT_l ?_)
      refine zb_el h (fun hb h => zT_t hb ?_) (fun hb h => zT_f hb ?_)
      · have hz := zsi h hq
        refine zR2_hp ?_ ?_ hz
        · first | with_reducible rfl | (rfl)
        · first | with_reducible rfl | (rfl)
      · refine zg_el h (fun hg h => zT_g hg ?_)
        refine zg_el h (fun hg h => zT_g hg ?_)
        refine zb_el h (fun hb h => zT_t hb ?_) (fun hb h => zT_f hb ?_)
        · have hz := zsi h hq
          refine zR2_hp ?_ ?_ hz
          · first | with_reducible rfl | (rfl)
          · first | with_reducible rfl | (rfl)
        · refine zg_el h (fun hg h => zT_g hg ?_)
          have hz := zsi h hq
          refine zR2_hp ?_ ?_ hz
          · first | with_reducible rfl | (rfl)
          · first | with_reducible rfl | (rfl)
set_option maxRecDepth 20000 in
theorem t_sc_sumsInFire_9 {X : Nat × (Nat → Int32)} {ar fi : Nat → Nat → Int32} {m1 m2 m3 m4 m5 : Nat} {W_sc_isTold : Int32 → Int32 → Int32} {W_sc_isGone : Int32 → Int32 → Int32} : zseg X zFT (zEx 78 (P_sc_isTold W_sc_isTold) (zEx 79 (P_sc_isGone W_sc_isGone) zE0)) zc_84 (fun p => Nat.beq p 4) 400 0 [.ref 9] [] (ar, fi, (m1, m2, m3, m4, m5)) = (
  some (.inl (4, [.ref 9, .int 0, .int 0], [], (ar, fi, (m1, m2, m3, m4, m5)))) : Option ((Nat × List Value × List Value × zH2) ⊕ zO2)) := rfl
theorem e_sc_sumsInFire_9 {X : Nat × (Nat → Int32)} {ar fi : Nat → Nat → Int32} {m1 m2 m3 m4 m5 : Nat} {o : zO2} : ∀ (q : T_sc_sumsInFire), q_sc_sumsInFire (ar 11) (ar 13) (ar 15) (fi 9 6) (fi 9 7) = some q → (fun t => O_sc_sumsInFire_9 ar fi m1 m2 m3 m4 m5 t = o) q → zR2 X zFT (zEx 78 S_sc_isTold (zEx 79 S_sc_isGone zE0)) zc_84 0 [.ref 9] [] (ar, fi, (m1, m2, m3, m4, m5)) o := by
  intro q h hq
  unfold q_sc_sumsInFire at h
  refine zT_seg t_sc_sumsInFire_9 ?_
  refine zR2_hp ?_ ?_ (zlp_K k_sc_sumsInFire_4_9 h hq)
  · first | with_reducible rfl | (rfl)
  · first | with_reducible rfl | (rfl)
def O_sc_sumsInFire_16 (ar fi : Nat → Nat → Int32) (m1 : Nat) (m2 : Nat) (m3 : Nat) (m4 : Nat) (m5 : Nat) (t : T_sc_sumsInFire) : zO2 := (some (.int t), (ar, fi, (m1, m2, m3, m4, m5)))
def M_sc_sumsInFire_4_16 (X : Nat × (Nat → Int32)) (E : zTE) (ar fi : Nat → Nat → Int32) (m1 : Nat) (m2 : Nat) (m3 : Nat) (m4 : Nat) (m5 : Nat) (o : zO2) (s : U_sc_sumsInFire_4) : Prop := zR2 X zFT E zc_84 4 [.ref 16, .int s.1, .int s.2] [] (ar, fi, (m1, m2, m3, m4, m5)) o
set_option maxRecDepth 20000 in
theorem t4_sc_sumsInFire_16 {X : Nat × (Nat → Int32)} {ar fi : Nat → Nat → Int32} {m1 m2 m3 m4 m5 : Nat} {l1 : Int32} {l2 : Int32} {W_sc_isTold : Int32 → Int32 → Int32} {W_sc_isGone : Int32 → Int32 → Int32} : zseg X zFT (zEx 78 (P_sc_isTold W_sc_isTold) (zEx 79 (P_sc_isGone W_sc_isGone) zE0)) zc_84 (fun p => Nat.beq p 4) 400 4 [.ref 16, .int l1, .int l2] [] (ar, fi, (m1, m2, m3, m4, m5)) = (
  bif decide (24 ≤ l2) then
   some (.inr (some (.int l1), (ar, fi, (m1, m2, m3, m4, m5))))
  else
   zl (W_sc_isTold l2 (fi 16 6)) (fun v1 =>
   bif decide (v1 = 0) then
    some (.inl (4, [.ref 16, .int l1, .int (l2 + 1)], [], (ar, fi, (m1, m2, m3, m4, m5))))
   else
    zl (W_sc_isGone l2 (fi 16 7)) (fun v2 =>
    bif !decide (v2 = 0) then
     some (.inl (4, [.ref 16, .int l1, .int (l2 + 1)], [], (ar, fi, (m1, m2, m3, m4, m5))))
    else
     zg (zin l2 24) (
     zg (zin ((ar 20) (l2.toNatClampNeg)) 96) (
     bif decide ((ar 18) (((ar 20) (l2.toNatClampNeg)).toNatClampNeg) = 0) then
      some (.inl (4, [.ref 16, .int l1, .int (l2 + 1)], [], (ar, fi, (m1, m2, m3, m4, m5))))
     else
      zg (zin l2 24) (
      some (.inl (4, [.ref 16, .int (l1 + ((ar 22) (l2.toNatClampNeg))), .int (l2 + 1)], [], (ar, fi, (m1, m2, m3, m4, m5))))))))) : Option ((Nat × List Value × List Value × zH2) ⊕ zO2)) := rfl
theorem k_sc_sumsInFire_4_16 {X : Nat × (Nat → Int32)} {ar fi : Nat → Nat → Int32} {m1 m2 m3 m4 m5 : Nat} {o : zO2} : ∀ (s : U_sc_sumsInFire_4) (q : U_sc_sumsInFire_4 ⊕ T_sc_sumsInFire), f_sc_sumsInFire_4 (ar 18) (ar 20) (ar 22) (fi 16 6) (fi 16 7) s = some q → zq (M_sc_sumsInFire_4_16 X (zEx 78 S_sc_isTold (zEx 79 S_sc_isGone zE0)) ar fi m1 m2 m3 m4 m5 o) (fun t => O_sc_sumsInFire_16 ar fi m1 m2 m3 m4 m5 t = o) q → M_sc_sumsInFire_4_16 X (zEx 78 S_sc_isTold (zEx 79 S_sc_isGone zE0)) ar fi m1 m2 m3 m4 m5 o s := by
  intro s q h hq
  obtain ⟨l1, l2⟩ := s
  have h : b_sc_sumsInFire_4 (ar 18) (ar 20) (ar 22) (fi 16 6) (fi 16 7) l1 l2 = some q := h
  unfold b_sc_sumsInFire_4 at h
  show zR2 X zFT (zEx 78 S_sc_isTold (zEx 79 S_sc_isGone zE0)) zc_84 4 [.ref 16, .int l1, .int l2] [] (ar, fi, (m1, m2, m3, m4, m5)) o
  refine zT_seg t4_sc_sumsInFire_16 ?_
  refine zb_el h (fun hb h => zT_t hb ?_) (fun hb h => zT_f hb ?_)
  · have hz := zsi h hq
    refine (zO_mk ?_ ?_).trans hz
    · first | with_reducible rfl | (rfl)
    · first | with_reducible rfl | (rfl)
  · refine zl_el h (fun h => zT_l ?_)
    refine zb_el h (fun hb h => zT_t hb ?_) (fun hb h => zT_f hb ?_)
    · have hz := zsi h hq
      refine zR2_hp ?_ ?_ hz
      · first | with_reducible rfl | (rfl)
      · first | with_reducible rfl | (rfl)
    · refine zl_el h (fun h => zT_l ?_)
      refine zb_el h (fun hb h => zT_t hb ?_) (fun hb h => zT_f hb ?_)
      · have hz := zsi h hq
        refine zR2_hp ?_ ?_ hz
        · first | with_reducible rfl | (rfl)
        · first | with_reducible rfl | (rfl)
      · refine zg_el h (fun hg h => zT_g hg ?_)
        refine zg_el h (fun hg h => zT_g hg ?_)
        refine zb_el h (fun hb h => zT_t hb ?_) (fun hb h => zT_f hb ?_)
        · have hz := zsi h hq
          refine zR2_hp ?_ ?_ hz
          · first | with_reducible rfl | (rfl)
          · first | with_reducible rfl | (rfl)
        · refine zg_el h (fun hg h => zT_g hg ?_)
          have hz := zsi h hq
          refine zR2_hp ?_ ?_ hz
          · first | with_reducible rfl | (rfl)
          · first | with_reducible rfl | (rfl)
set_option maxRecDepth 20000 in
theorem t_sc_sumsInFire_16 {X : Nat × (Nat → Int32)} {ar fi : Nat → Nat → Int32} {m1 m2 m3 m4 m5 : Nat} {W_sc_isTold : Int32 → Int32 → Int32} {W_sc_isGone : Int32 → Int32 → Int32} : zseg X zFT (zEx 78 (P_sc_isTold W_sc_isTold) (zEx 79 (P_sc_isGone W_sc_isGone) zE0)) zc_84 (fun p => Nat.beq p 4) 400 0 [.ref 16] [] (ar, fi, (m1, m2, m3, m4, m5)) = (
  some (.inl (4, [.ref 16, .int 0, .int 0], [], (ar, fi, (m1, m2, m3, m4, m5)))) : Option ((Nat × List Value × List Value × zH2) ⊕ zO2)) := rfl
theorem e_sc_sumsInFire_16 {X : Nat × (Nat → Int32)} {ar fi : Nat → Nat → Int32} {m1 m2 m3 m4 m5 : Nat} {o : zO2} : ∀ (q : T_sc_sumsInFire), q_sc_sumsInFire (ar 18) (ar 20) (ar 22) (fi 16 6) (fi 16 7) = some q → (fun t => O_sc_sumsInFire_16 ar fi m1 m2 m3 m4 m5 t = o) q → zR2 X zFT (zEx 78 S_sc_isTold (zEx 79 S_sc_isGone zE0)) zc_84 0 [.ref 16] [] (ar, fi, (m1, m2, m3, m4, m5)) o := by
  intro q h hq
  unfold q_sc_sumsInFire at h
  refine zT_seg t_sc_sumsInFire_16 ?_
  refine zR2_hp ?_ ?_ (zlp_K k_sc_sumsInFire_4_16 h hq)
  · first | with_reducible rfl | (rfl)
  · first | with_reducible rfl | (rfl)
theorem ok_sc_sumsInFire (X : Nat × (Nat → Int32)) : zOkS X 84 S_sc_sumsInFire 2 := zOkS_new (zOkE_cons (ok_sc_isTold X) (by decide) (zOkE_cons (ok_sc_isGone X) (by decide) (zOkE_nil X 1))) (by
  intro args g o h
  obtain ⟨ar, fi, m1, m2, m3, m4, m5⟩ := g
  unfold S_sc_sumsInFire P_sc_sumsInFire at h
  split at h
  · refine zb_el h (fun hI0 k0 => ?_) (fun _ h10 => ?_)
    · try simp only [Bool.and_eq_true] at hI0
      have j0 := hI0
      have e0 := Nat.eq_of_beq_eq_true j0
      subst e0
      exact zpe_el k0 (fun t ht ho => e_sc_sumsInFire_2 t ht ho)
    · skip
      refine zb_el h10 (fun hI1 k1 => ?_) (fun _ h11 => ?_)
      · try simp only [Bool.and_eq_true] at hI1
        have j0 := hI1
        have e0 := Nat.eq_of_beq_eq_true j0
        subst e0
        exact zpe_el k1 (fun t ht ho => e_sc_sumsInFire_9 t ht ho)
      · skip
        refine zb_el h11 (fun hI2 k2 => ?_) (fun _ h12 => ?_)
        · try simp only [Bool.and_eq_true] at hI2
          have j0 := hI2
          have e0 := Nat.eq_of_beq_eq_true j0
          subst e0
          exact zpe_el k2 (fun t ht ho => e_sc_sumsInFire_16 t ht ho)
        · cases h12
  · cases h)
abbrev T_tx_number : Type := Int32 × Int32 × Int32 × Int32
abbrev U_tx_number_4 : Type := Int32 × Int32 × Int32
def b_tx_number_4 (x : Int32) (a1 : Nat → Int32) (f40_1 : Int32) (f40_2 : Int32) (f40_3 : Int32) (l2 : Int32) (l3 : Int32) (c40_4 : Int32) : Option (U_tx_number_4 ⊕ T_tx_number) :=
  bif decide (x < l3) then
   some (.inr (l2, f40_2, f40_3, c40_4))
  else
   zg (g_tx_sign (f40_2) c40_4 (f40_1) a1) (
   zl (w_tx_sign (f40_2) c40_4 (f40_1) a1) (fun v1 =>
   bif decide (v1 < 48) then
    bif !decide (l3 = 0) then
     some (.inr (l2, f40_2, f40_3, c40_4))
    else
     zl (f0_tx_fail 1 c40_4 (f40_2) (f40_3)) (fun v2 =>
     zl (f1_tx_fail 1 c40_4 (f40_2) (f40_3)) (fun v3 =>
     some (.inr (l2, v2, v3, c40_4))))
   else
    bif decide (v1 ≤ 57) then
     bif !decide (l3 = x) then
      some (.inl (((10 * l2) + v1) - 48, l3 + 1, c40_4 + 1))
     else
      zl (f0_tx_fail 2 c40_4 (f40_2) (f40_3)) (fun v4 =>
      zl (f1_tx_fail 2 c40_4 (f40_2) (f40_3)) (fun v5 =>
      some (.inr (l2, v4, v5, c40_4))))
    else
     bif !decide (l3 = 0) then
      some (.inr (l2, f40_2, f40_3, c40_4))
     else
      zl (f0_tx_fail 1 c40_4 (f40_2) (f40_3)) (fun v6 =>
      zl (f1_tx_fail 1 c40_4 (f40_2) (f40_3)) (fun v7 =>
      some (.inr (l2, v6, v7, c40_4))))))
def f_tx_number_4 (x : Int32) (a1 : Nat → Int32) (f40_1 : Int32) (f40_2 : Int32) (f40_3 : Int32) : U_tx_number_4 → Option (U_tx_number_4 ⊕ T_tx_number) := fun s => b_tx_number_4 x a1 f40_1 f40_2 f40_3 s.1 s.2.1 s.2.2
noncomputable def l_tx_number_4 (x : Int32) (a1 : Nat → Int32) (f40_1 : Int32) (f40_2 : Int32) (f40_3 : Int32) (l2 : Int32) (l3 : Int32) (c40_4 : Int32) : Option T_tx_number := zlp (f_tx_number_4 x a1 f40_1 f40_2 f40_3) (l2, l3, c40_4)
noncomputable def q_tx_number (x : Int32) (a1 : Nat → Int32) (f40_1 : Int32) (f40_2 : Int32) (f40_3 : Int32) (f40_4 : Int32) : Option T_tx_number :=
  l_tx_number_4 x a1 f40_1 f40_2 f40_3 0 0 (f40_4)
def P_tx_number (Q : Int32 → (Nat → Int32) → Int32 → Int32 → Int32 → Int32 → Option (Int32 × Int32 × Int32 × Int32)) : zSp := fun as g => match as with
  | [.ref a, .int x] => bif Nat.beq a 40 && Nat.beq g.2.2.2.2.1 1 then zpe (Q x (g.1 1) (g.2.1 40 1) (g.2.1 40 2) (g.2.1 40 3) (g.2.1 40 4)) (fun t => (some (.int (t.1)), (g.1, (zuf (zuf (zuf g.2.1 40 2 t.2.1) 40 3 t.2.2.1) 40 4 t.2.2.2), g.2.2))) else bif Nat.beq a 44 && Nat.beq g.2.2.2.2.2.1 1 then zpe (Q x (g.1 1) (g.2.1 44 1) (g.2.1 44 2) (g.2.1 44 3) (g.2.1 44 4)) (fun t => (some (.int (t.1)), (g.1, (zuf (zuf (zuf g.2.1 44 2 t.2.1) 44 3 t.2.2.1) 44 4 t.2.2.2), g.2.2))) else bif Nat.beq a 47 && Nat.beq g.2.2.2.2.2.2 1 then zpe (Q x (g.1 1) (g.2.1 47 1) (g.2.1 47 2) (g.2.1 47 3) (g.2.1 47 4)) (fun t => (some (.int (t.1)), (g.1, (zuf (zuf (zuf g.2.1 47 2 t.2.1) 47 3 t.2.2.1) 47 4 t.2.2.2), g.2.2))) else none
  | _ => none
noncomputable abbrev S_tx_number : zSp := P_tx_number q_tx_number
def O_tx_number_40 (ar fi : Nat → Nat → Int32) (m1 : Nat) (m2 : Nat) (m4 : Nat) (m5 : Nat) (t : T_tx_number) : zO2 := (some (.int (t.1)), (ar, (zuf (zuf (zuf fi 40 2 t.2.1) 40 3 t.2.2.1) 40 4 t.2.2.2), (m1, m2, 1, m4, m5)))
def M_tx_number_4_40 (X : Nat × (Nat → Int32)) (E : zTE) (ar fi : Nat → Nat → Int32) (m1 : Nat) (m2 : Nat) (m4 : Nat) (m5 : Nat) (x : Int32) (o : zO2) (s : U_tx_number_4) : Prop := zR2 X zFT E zc_98 4 [.ref 40, .int x, .int s.1, .int s.2.1] [] (ar, (zuf fi 40 4 s.2.2), (m1, m2, 1, m4, m5)) o
set_option maxRecDepth 20000 in
theorem t4_tx_number_40 {X : Nat × (Nat → Int32)} {ar fi : Nat → Nat → Int32} {m1 m2 m4 m5 : Nat} {x : Int32} {l2 : Int32} {l3 : Int32} {c40_4 : Int32} {G_tx_sign : Int32 → Int32 → Int32 → (Nat → Int32) → Bool} {W_tx_sign : Int32 → Int32 → Int32 → (Nat → Int32) → Int32} {F0_tx_fail : Int32 → Int32 → Int32 → Int32 → Int32} {F1_tx_fail : Int32 → Int32 → Int32 → Int32 → Int32} : zseg X zFT (zEx 93 (P_tx_sign G_tx_sign W_tx_sign) (zEx 97 (P_tx_fail F0_tx_fail F1_tx_fail) zE0)) zc_98 (fun p => Nat.beq p 4) 400 4 [.ref 40, .int x, .int l2, .int l3] [] (ar, (zuf fi 40 4 c40_4), (m1, m2, 1, m4, m5)) = (
  bif decide (x < l3) then
   some (.inr (some (.int l2), (ar, (zuf fi 40 4 c40_4), (m1, m2, 1, m4, m5))))
  else
   zg (G_tx_sign (fi 40 2) c40_4 (fi 40 1) (ar 1)) (
   zl (W_tx_sign (fi 40 2) c40_4 (fi 40 1) (ar 1)) (fun v1 =>
   bif decide (v1 < 48) then
    bif !decide (l3 = 0) then
     some (.inr (some (.int l2), (ar, (zuf fi 40 4 c40_4), (m1, m2, 1, m4, m5))))
    else
     zl (F0_tx_fail 1 c40_4 (fi 40 2) (fi 40 3)) (fun v2 =>
     zl (F1_tx_fail 1 c40_4 (fi 40 2) (fi 40 3)) (fun v3 =>
     some (.inr (some (.int l2), (ar, (zuf (zuf (zuf fi 40 4 c40_4) 40 2 v2) 40 3 v3), (m1, m2, 1, m4, m5))))))
   else
    bif decide (v1 ≤ 57) then
     bif !decide (l3 = x) then
      some (.inl (4, [.ref 40, .int x, .int (((10 * l2) + v1) - 48), .int (l3 + 1)], [], (ar, (zuf (zuf fi 40 4 c40_4) 40 4 (c40_4 + 1)), (m1, m2, 1, m4, m5))))
     else
      zl (F0_tx_fail 2 c40_4 (fi 40 2) (fi 40 3)) (fun v4 =>
      zl (F1_tx_fail 2 c40_4 (fi 40 2) (fi 40 3)) (fun v5 =>
      some (.inr (some (.int l2), (ar, (zuf (zuf (zuf fi 40 4 c40_4) 40 2 v4) 40 3 v5), (m1, m2, 1, m4, m5))))))
    else
     bif !decide (l3 = 0) then
      some (.inr (some (.int l2), (ar, (zuf fi 40 4 c40_4), (m1, m2, 1, m4, m5))))
     else
      zl (F0_tx_fail 1 c40_4 (fi 40 2) (fi 40 3)) (fun v6 =>
      zl (F1_tx_fail 1 c40_4 (fi 40 2) (fi 40 3)) (fun v7 =>
      some (.inr (some (.int l2), (ar, (zuf (zuf (zuf fi 40 4 c40_4) 40 2 v6) 40 3 v7), (m1, m2, 1, m4, m5)))))))) : Option ((Nat × List Value × List Value × zH2) ⊕ zO2)) := rfl
theorem k_tx_number_4_40 {X : Nat × (Nat → Int32)} {ar fi : Nat → Nat → Int32} {m1 m2 m4 m5 : Nat} {x : Int32} {o : zO2} : ∀ (s : U_tx_number_4) (q : U_tx_number_4 ⊕ T_tx_number), f_tx_number_4 x (ar 1) (fi 40 1) (fi 40 2) (fi 40 3) s = some q → zq (M_tx_number_4_40 X (zEx 93 S_tx_sign (zEx 97 S_tx_fail zE0)) ar fi m1 m2 m4 m5 x o) (fun t => O_tx_number_40 ar fi m1 m2 m4 m5 t = o) q → M_tx_number_4_40 X (zEx 93 S_tx_sign (zEx 97 S_tx_fail zE0)) ar fi m1 m2 m4 m5 x o s := by
  intro s q h hq
  obtain ⟨l2, l3, c40_4⟩ := s
  have h : b_tx_number_4 x (ar 1) (fi 40 1) (fi 40 2) (fi 40 3) l2 l3 c40_4 = some q := h
  unfold b_tx_number_4 at h
  show zR2 X zFT (zEx 93 S_tx_sign (zEx 97 S_tx_fail zE0)) zc_98 4 [.ref 40, .int x, .int l2, .int l3] [] (ar, (zuf fi 40 4 c40_4), (m1, m2, 1, m4, m5)) o
  refine zT_seg t4_tx_number_40 ?_
  refine zb_el h (fun hb h => zT_t hb ?_) (fun hb h => zT_f hb ?_)
  · have hz := zsi h hq
    refine (zO_mk ?_ ?_).trans hz
    · first | with_reducible rfl | (rfl)
    · first | with_reducible rfl | (exact zufs_eq _ [(40, 4, _)] [(40, 2, _), (40, 3, _), (40, 4, _)] [(40, 2), (40, 3), (40, 4)] rfl rfl ⟨rfl, rfl, rfl, trivial⟩)
  · refine zg_el h (fun hg h => zT_g hg ?_)
    refine zl_el h (fun h => zT_l ?_)
    refine zb_el h (fun hb h => zT_t hb ?_) (fun hb h => zT_f hb ?_)
    · refine zb_el h (fun hb h => zT_t hb ?_) (fun hb h => zT_f hb ?_)
      · have hz := zsi h hq
        refine (zO_mk ?_ ?_).trans hz
        · first | with_reducible rfl | (rfl)
        · first | with_reducible rfl | (exact zufs_eq _ [(40, 4, _)] [(40, 2, _), (40, 3, _), (40, 4, _)] [(40, 2), (40, 3), (40, 4)] rfl rfl ⟨rfl, rfl, rfl, trivial⟩)
      · refine zl_el h (fun h => zT_l ?_)
        refine zl_el h (fun h => zT_l ?_)
        have hz := zsi h hq
        refine (zO_mk ?_ ?_).trans hz
        · first | with_reducible rfl | (rfl)
        · first | with_reducible rfl | (exact zufs_eq _ [(40, 4, _), (40, 2, _), (40, 3, _)] [(40, 2, _), (40, 3, _), (40, 4, _)] [(40, 2), (40, 3), (40, 4)] rfl rfl ⟨rfl, rfl, rfl, trivial⟩)
    · refine zb_el h (fun hb h => zT_t hb ?_) (fun hb h => zT_f hb ?_)
      · refine zb_el h (fun hb h => zT_t hb ?_) (fun hb h => zT_f hb ?_)
        · have hz := zsi h hq
          refine zR2_hp ?_ ?_ hz
          · first | with_reducible rfl | (rfl)
          · first | with_reducible rfl | (exact zufs_eq _ [(40, 4, _), (40, 4, _)] [(40, 4, _)] [(40, 4)] rfl rfl ⟨rfl, trivial⟩)
        · refine zl_el h (fun h => zT_l ?_)
          refine zl_el h (fun h => zT_l ?_)
          have hz := zsi h hq
          refine (zO_mk ?_ ?_).trans hz
          · first | with_reducible rfl | (rfl)
          · first | with_reducible rfl | (exact zufs_eq _ [(40, 4, _), (40, 2, _), (40, 3, _)] [(40, 2, _), (40, 3, _), (40, 4, _)] [(40, 2), (40, 3), (40, 4)] rfl rfl ⟨rfl, rfl, rfl, trivial⟩)
      · refine zb_el h (fun hb h => zT_t hb ?_) (fun hb h => zT_f hb ?_)
        · have hz := zsi h hq
          refine (zO_mk ?_ ?_).trans hz
          · first | with_reducible rfl | (rfl)
          · first | with_reducible rfl | (exact zufs_eq _ [(40, 4, _)] [(40, 2, _), (40, 3, _), (40, 4, _)] [(40, 2), (40, 3), (40, 4)] rfl rfl ⟨rfl, rfl, rfl, trivial⟩)
        · refine zl_el h (fun h => zT_l ?_)
          refine zl_el h (fun h => zT_l ?_)
          have hz := zsi h hq
          refine (zO_mk ?_ ?_).trans hz
          · first | with_reducible rfl | (rfl)
          · first | with_reducible rfl | (exact zufs_eq _ [(40, 4, _), (40, 2, _), (40, 3, _)] [(40, 2, _), (40, 3, _), (40, 4, _)] [(40, 2), (40, 3), (40, 4)] rfl rfl ⟨rfl, rfl, rfl, trivial⟩)
set_option maxRecDepth 20000 in
theorem t_tx_number_40 {X : Nat × (Nat → Int32)} {ar fi : Nat → Nat → Int32} {m1 m2 m4 m5 : Nat} {x : Int32} {G_tx_sign : Int32 → Int32 → Int32 → (Nat → Int32) → Bool} {W_tx_sign : Int32 → Int32 → Int32 → (Nat → Int32) → Int32} {F0_tx_fail : Int32 → Int32 → Int32 → Int32 → Int32} {F1_tx_fail : Int32 → Int32 → Int32 → Int32 → Int32} : zseg X zFT (zEx 93 (P_tx_sign G_tx_sign W_tx_sign) (zEx 97 (P_tx_fail F0_tx_fail F1_tx_fail) zE0)) zc_98 (fun p => Nat.beq p 4) 400 0 [.ref 40, .int x] [] (ar, fi, (m1, m2, 1, m4, m5)) = (
  some (.inl (4, [.ref 40, .int x, .int 0, .int 0], [], (ar, fi, (m1, m2, 1, m4, m5)))) : Option ((Nat × List Value × List Value × zH2) ⊕ zO2)) := rfl
theorem e_tx_number_40 {X : Nat × (Nat → Int32)} {ar fi : Nat → Nat → Int32} {m1 m2 m4 m5 : Nat} {x : Int32} {o : zO2} : ∀ (q : T_tx_number), q_tx_number x (ar 1) (fi 40 1) (fi 40 2) (fi 40 3) (fi 40 4) = some q → (fun t => O_tx_number_40 ar fi m1 m2 m4 m5 t = o) q → zR2 X zFT (zEx 93 S_tx_sign (zEx 97 S_tx_fail zE0)) zc_98 0 [.ref 40, .int x] [] (ar, fi, (m1, m2, 1, m4, m5)) o := by
  intro q h hq
  unfold q_tx_number at h
  refine zT_seg t_tx_number_40 ?_
  refine zR2_hp ?_ ?_ (zlp_K k_tx_number_4_40 h hq)
  · first | with_reducible rfl | (rfl)
  · first | with_reducible rfl | (exact zufs_eq _ [] [(40, 4, _)] [(40, 4)] rfl rfl ⟨rfl, trivial⟩)
def O_tx_number_44 (ar fi : Nat → Nat → Int32) (m1 : Nat) (m2 : Nat) (m3 : Nat) (m5 : Nat) (t : T_tx_number) : zO2 := (some (.int (t.1)), (ar, (zuf (zuf (zuf fi 44 2 t.2.1) 44 3 t.2.2.1) 44 4 t.2.2.2), (m1, m2, m3, 1, m5)))
def M_tx_number_4_44 (X : Nat × (Nat → Int32)) (E : zTE) (ar fi : Nat → Nat → Int32) (m1 : Nat) (m2 : Nat) (m3 : Nat) (m5 : Nat) (x : Int32) (o : zO2) (s : U_tx_number_4) : Prop := zR2 X zFT E zc_98 4 [.ref 44, .int x, .int s.1, .int s.2.1] [] (ar, (zuf fi 44 4 s.2.2), (m1, m2, m3, 1, m5)) o
set_option maxRecDepth 20000 in
theorem t4_tx_number_44 {X : Nat × (Nat → Int32)} {ar fi : Nat → Nat → Int32} {m1 m2 m3 m5 : Nat} {x : Int32} {l2 : Int32} {l3 : Int32} {c44_4 : Int32} {G_tx_sign : Int32 → Int32 → Int32 → (Nat → Int32) → Bool} {W_tx_sign : Int32 → Int32 → Int32 → (Nat → Int32) → Int32} {F0_tx_fail : Int32 → Int32 → Int32 → Int32 → Int32} {F1_tx_fail : Int32 → Int32 → Int32 → Int32 → Int32} : zseg X zFT (zEx 93 (P_tx_sign G_tx_sign W_tx_sign) (zEx 97 (P_tx_fail F0_tx_fail F1_tx_fail) zE0)) zc_98 (fun p => Nat.beq p 4) 400 4 [.ref 44, .int x, .int l2, .int l3] [] (ar, (zuf fi 44 4 c44_4), (m1, m2, m3, 1, m5)) = (
  bif decide (x < l3) then
   some (.inr (some (.int l2), (ar, (zuf fi 44 4 c44_4), (m1, m2, m3, 1, m5))))
  else
   zg (G_tx_sign (fi 44 2) c44_4 (fi 44 1) (ar 1)) (
   zl (W_tx_sign (fi 44 2) c44_4 (fi 44 1) (ar 1)) (fun v1 =>
   bif decide (v1 < 48) then
    bif !decide (l3 = 0) then
     some (.inr (some (.int l2), (ar, (zuf fi 44 4 c44_4), (m1, m2, m3, 1, m5))))
    else
     zl (F0_tx_fail 1 c44_4 (fi 44 2) (fi 44 3)) (fun v2 =>
     zl (F1_tx_fail 1 c44_4 (fi 44 2) (fi 44 3)) (fun v3 =>
     some (.inr (some (.int l2), (ar, (zuf (zuf (zuf fi 44 4 c44_4) 44 2 v2) 44 3 v3), (m1, m2, m3, 1, m5))))))
   else
    bif decide (v1 ≤ 57) then
     bif !decide (l3 = x) then
      some (.inl (4, [.ref 44, .int x, .int (((10 * l2) + v1) - 48), .int (l3 + 1)], [], (ar, (zuf (zuf fi 44 4 c44_4) 44 4 (c44_4 + 1)), (m1, m2, m3, 1, m5))))
     else
      zl (F0_tx_fail 2 c44_4 (fi 44 2) (fi 44 3)) (fun v4 =>
      zl (F1_tx_fail 2 c44_4 (fi 44 2) (fi 44 3)) (fun v5 =>
      some (.inr (some (.int l2), (ar, (zuf (zuf (zuf fi 44 4 c44_4) 44 2 v4) 44 3 v5), (m1, m2, m3, 1, m5))))))
    else
     bif !decide (l3 = 0) then
      some (.inr (some (.int l2), (ar, (zuf fi 44 4 c44_4), (m1, m2, m3, 1, m5))))
     else
      zl (F0_tx_fail 1 c44_4 (fi 44 2) (fi 44 3)) (fun v6 =>
      zl (F1_tx_fail 1 c44_4 (fi 44 2) (fi 44 3)) (fun v7 =>
      some (.inr (some (.int l2), (ar, (zuf (zuf (zuf fi 44 4 c44_4) 44 2 v6) 44 3 v7), (m1, m2, m3, 1, m5)))))))) : Option ((Nat × List Value × List Value × zH2) ⊕ zO2)) := rfl
theorem k_tx_number_4_44 {X : Nat × (Nat → Int32)} {ar fi : Nat → Nat → Int32} {m1 m2 m3 m5 : Nat} {x : Int32} {o : zO2} : ∀ (s : U_tx_number_4) (q : U_tx_number_4 ⊕ T_tx_number), f_tx_number_4 x (ar 1) (fi 44 1) (fi 44 2) (fi 44 3) s = some q → zq (M_tx_number_4_44 X (zEx 93 S_tx_sign (zEx 97 S_tx_fail zE0)) ar fi m1 m2 m3 m5 x o) (fun t => O_tx_number_44 ar fi m1 m2 m3 m5 t = o) q → M_tx_number_4_44 X (zEx 93 S_tx_sign (zEx 97 S_tx_fail zE0)) ar fi m1 m2 m3 m5 x o s := by
  intro s q h hq
  obtain ⟨l2, l3, c44_4⟩ := s
  have h : b_tx_number_4 x (ar 1) (fi 44 1) (fi 44 2) (fi 44 3) l2 l3 c44_4 = some q := h
  unfold b_tx_number_4 at h
  show zR2 X zFT (zEx 93 S_tx_sign (zEx 97 S_tx_fail zE0)) zc_98 4 [.ref 44, .int x, .int l2, .int l3] [] (ar, (zuf fi 44 4 c44_4), (m1, m2, m3, 1, m5)) o
  refine zT_seg t4_tx_number_44 ?_
  refine zb_el h (fun hb h => zT_t hb ?_) (fun hb h => zT_f hb ?_)
  · have hz := zsi h hq
    refine (zO_mk ?_ ?_).trans hz
    · first | with_reducible rfl | (rfl)
    · first | with_reducible rfl | (exact zufs_eq _ [(44, 4, _)] [(44, 2, _), (44, 3, _), (44, 4, _)] [(44, 2), (44, 3), (44, 4)] rfl rfl ⟨rfl, rfl, rfl, trivial⟩)
  · refine zg_el h (fun hg h => zT_g hg ?_)
    refine zl_el h (fun h => zT_l ?_)
    refine zb_el h (fun hb h => zT_t hb ?_) (fun hb h => zT_f hb ?_)
    · refine zb_el h (fun hb h => zT_t hb ?_) (fun hb h => zT_f hb ?_)
      · have hz := zsi h hq
        refine (zO_mk ?_ ?_).trans hz
        · first | with_reducible rfl | (rfl)
        · first | with_reducible rfl | (exact zufs_eq _ [(44, 4, _)] [(44, 2, _), (44, 3, _), (44, 4, _)] [(44, 2), (44, 3), (44, 4)] rfl rfl ⟨rfl, rfl, rfl, trivial⟩)
      · refine zl_el h (fun h => zT_l ?_)
        refine zl_el h (fun h => zT_l ?_)
        have hz := zsi h hq
        refine (zO_mk ?_ ?_).trans hz
        · first | with_reducible rfl | (rfl)
        · first | with_reducible rfl | (exact zufs_eq _ [(44, 4, _), (44, 2, _), (44, 3, _)] [(44, 2, _), (44, 3, _), (44, 4, _)] [(44, 2), (44, 3), (44, 4)] rfl rfl ⟨rfl, rfl, rfl, trivial⟩)
    · refine zb_el h (fun hb h => zT_t hb ?_) (fun hb h => zT_f hb ?_)
      · refine zb_el h (fun hb h => zT_t hb ?_) (fun hb h => zT_f hb ?_)
        · have hz := zsi h hq
          refine zR2_hp ?_ ?_ hz
          · first | with_reducible rfl | (rfl)
          · first | with_reducible rfl | (exact zufs_eq _ [(44, 4, _), (44, 4, _)] [(44, 4, _)] [(44, 4)] rfl rfl ⟨rfl, trivial⟩)
        · refine zl_el h (fun h => zT_l ?_)
          refine zl_el h (fun h => zT_l ?_)
          have hz := zsi h hq
          refine (zO_mk ?_ ?_).trans hz
          · first | with_reducible rfl | (rfl)
          · first | with_reducible rfl | (exact zufs_eq _ [(44, 4, _), (44, 2, _), (44, 3, _)] [(44, 2, _), (44, 3, _), (44, 4, _)] [(44, 2), (44, 3), (44, 4)] rfl rfl ⟨rfl, rfl, rfl, trivial⟩)
      · refine zb_el h (fun hb h => zT_t hb ?_) (fun hb h => zT_f hb ?_)
        · have hz := zsi h hq
          refine (zO_mk ?_ ?_).trans hz
          · first | with_reducible rfl | (rfl)
          · first | with_reducible rfl | (exact zufs_eq _ [(44, 4, _)] [(44, 2, _), (44, 3, _), (44, 4, _)] [(44, 2), (44, 3), (44, 4)] rfl rfl ⟨rfl, rfl, rfl, trivial⟩)
        · refine zl_el h (fun h => zT_l ?_)
          refine zl_el h (fun h => zT_l ?_)
          have hz := zsi h hq
          refine (zO_mk ?_ ?_).trans hz
          · first | with_reducible rfl | (rfl)
          · first | with_reducible rfl | (exact zufs_eq _ [(44, 4, _), (44, 2, _), (44, 3, _)] [(44, 2, _), (44, 3, _), (44, 4, _)] [(44, 2), (44, 3), (44, 4)] rfl rfl ⟨rfl, rfl, rfl, trivial⟩)
set_option maxRecDepth 20000 in
theorem t_tx_number_44 {X : Nat × (Nat → Int32)} {ar fi : Nat → Nat → Int32} {m1 m2 m3 m5 : Nat} {x : Int32} {G_tx_sign : Int32 → Int32 → Int32 → (Nat → Int32) → Bool} {W_tx_sign : Int32 → Int32 → Int32 → (Nat → Int32) → Int32} {F0_tx_fail : Int32 → Int32 → Int32 → Int32 → Int32} {F1_tx_fail : Int32 → Int32 → Int32 → Int32 → Int32} : zseg X zFT (zEx 93 (P_tx_sign G_tx_sign W_tx_sign) (zEx 97 (P_tx_fail F0_tx_fail F1_tx_fail) zE0)) zc_98 (fun p => Nat.beq p 4) 400 0 [.ref 44, .int x] [] (ar, fi, (m1, m2, m3, 1, m5)) = (
  some (.inl (4, [.ref 44, .int x, .int 0, .int 0], [], (ar, fi, (m1, m2, m3, 1, m5)))) : Option ((Nat × List Value × List Value × zH2) ⊕ zO2)) := rfl
theorem e_tx_number_44 {X : Nat × (Nat → Int32)} {ar fi : Nat → Nat → Int32} {m1 m2 m3 m5 : Nat} {x : Int32} {o : zO2} : ∀ (q : T_tx_number), q_tx_number x (ar 1) (fi 44 1) (fi 44 2) (fi 44 3) (fi 44 4) = some q → (fun t => O_tx_number_44 ar fi m1 m2 m3 m5 t = o) q → zR2 X zFT (zEx 93 S_tx_sign (zEx 97 S_tx_fail zE0)) zc_98 0 [.ref 44, .int x] [] (ar, fi, (m1, m2, m3, 1, m5)) o := by
  intro q h hq
  unfold q_tx_number at h
  refine zT_seg t_tx_number_44 ?_
  refine zR2_hp ?_ ?_ (zlp_K k_tx_number_4_44 h hq)
  · first | with_reducible rfl | (rfl)
  · first | with_reducible rfl | (exact zufs_eq _ [] [(44, 4, _)] [(44, 4)] rfl rfl ⟨rfl, trivial⟩)
def O_tx_number_47 (ar fi : Nat → Nat → Int32) (m1 : Nat) (m2 : Nat) (m3 : Nat) (m4 : Nat) (t : T_tx_number) : zO2 := (some (.int (t.1)), (ar, (zuf (zuf (zuf fi 47 2 t.2.1) 47 3 t.2.2.1) 47 4 t.2.2.2), (m1, m2, m3, m4, 1)))
def M_tx_number_4_47 (X : Nat × (Nat → Int32)) (E : zTE) (ar fi : Nat → Nat → Int32) (m1 : Nat) (m2 : Nat) (m3 : Nat) (m4 : Nat) (x : Int32) (o : zO2) (s : U_tx_number_4) : Prop := zR2 X zFT E zc_98 4 [.ref 47, .int x, .int s.1, .int s.2.1] [] (ar, (zuf fi 47 4 s.2.2), (m1, m2, m3, m4, 1)) o
set_option maxRecDepth 20000 in
theorem t4_tx_number_47 {X : Nat × (Nat → Int32)} {ar fi : Nat → Nat → Int32} {m1 m2 m3 m4 : Nat} {x : Int32} {l2 : Int32} {l3 : Int32} {c47_4 : Int32} {G_tx_sign : Int32 → Int32 → Int32 → (Nat → Int32) → Bool} {W_tx_sign : Int32 → Int32 → Int32 → (Nat → Int32) → Int32} {F0_tx_fail : Int32 → Int32 → Int32 → Int32 → Int32} {F1_tx_fail : Int32 → Int32 → Int32 → Int32 → Int32} : zseg X zFT (zEx 93 (P_tx_sign G_tx_sign W_tx_sign) (zEx 97 (P_tx_fail F0_tx_fail F1_tx_fail) zE0)) zc_98 (fun p => Nat.beq p 4) 400 4 [.ref 47, .int x, .int l2, .int l3] [] (ar, (zuf fi 47 4 c47_4), (m1, m2, m3, m4, 1)) = (
  bif decide (x < l3) then
   some (.inr (some (.int l2), (ar, (zuf fi 47 4 c47_4), (m1, m2, m3, m4, 1))))
  else
   zg (G_tx_sign (fi 47 2) c47_4 (fi 47 1) (ar 1)) (
   zl (W_tx_sign (fi 47 2) c47_4 (fi 47 1) (ar 1)) (fun v1 =>
   bif decide (v1 < 48) then
    bif !decide (l3 = 0) then
     some (.inr (some (.int l2), (ar, (zuf fi 47 4 c47_4), (m1, m2, m3, m4, 1))))
    else
     zl (F0_tx_fail 1 c47_4 (fi 47 2) (fi 47 3)) (fun v2 =>
     zl (F1_tx_fail 1 c47_4 (fi 47 2) (fi 47 3)) (fun v3 =>
     some (.inr (some (.int l2), (ar, (zuf (zuf (zuf fi 47 4 c47_4) 47 2 v2) 47 3 v3), (m1, m2, m3, m4, 1))))))
   else
    bif decide (v1 ≤ 57) then
     bif !decide (l3 = x) then
      some (.inl (4, [.ref 47, .int x, .int (((10 * l2) + v1) - 48), .int (l3 + 1)], [], (ar, (zuf (zuf fi 47 4 c47_4) 47 4 (c47_4 + 1)), (m1, m2, m3, m4, 1))))
     else
      zl (F0_tx_fail 2 c47_4 (fi 47 2) (fi 47 3)) (fun v4 =>
      zl (F1_tx_fail 2 c47_4 (fi 47 2) (fi 47 3)) (fun v5 =>
      some (.inr (some (.int l2), (ar, (zuf (zuf (zuf fi 47 4 c47_4) 47 2 v4) 47 3 v5), (m1, m2, m3, m4, 1))))))
    else
     bif !decide (l3 = 0) then
      some (.inr (some (.int l2), (ar, (zuf fi 47 4 c47_4), (m1, m2, m3, m4, 1))))
     else
      zl (F0_tx_fail 1 c47_4 (fi 47 2) (fi 47 3)) (fun v6 =>
      zl (F1_tx_fail 1 c47_4 (fi 47 2) (fi 47 3)) (fun v7 =>
      some (.inr (some (.int l2), (ar, (zuf (zuf (zuf fi 47 4 c47_4) 47 2 v6) 47 3 v7), (m1, m2, m3, m4, 1)))))))) : Option ((Nat × List Value × List Value × zH2) ⊕ zO2)) := rfl
theorem k_tx_number_4_47 {X : Nat × (Nat → Int32)} {ar fi : Nat → Nat → Int32} {m1 m2 m3 m4 : Nat} {x : Int32} {o : zO2} : ∀ (s : U_tx_number_4) (q : U_tx_number_4 ⊕ T_tx_number), f_tx_number_4 x (ar 1) (fi 47 1) (fi 47 2) (fi 47 3) s = some q → zq (M_tx_number_4_47 X (zEx 93 S_tx_sign (zEx 97 S_tx_fail zE0)) ar fi m1 m2 m3 m4 x o) (fun t => O_tx_number_47 ar fi m1 m2 m3 m4 t = o) q → M_tx_number_4_47 X (zEx 93 S_tx_sign (zEx 97 S_tx_fail zE0)) ar fi m1 m2 m3 m4 x o s := by
  intro s q h hq
  obtain ⟨l2, l3, c47_4⟩ := s
  have h : b_tx_number_4 x (ar 1) (fi 47 1) (fi 47 2) (fi 47 3) l2 l3 c47_4 = some q := h
  unfold b_tx_number_4 at h
  show zR2 X zFT (zEx 93 S_tx_sign (zEx 97 S_tx_fail zE0)) zc_98 4 [.ref 47, .int x, .int l2, .int l3] [] (ar, (zuf fi 47 4 c47_4), (m1, m2, m3, m4, 1)) o
  refine zT_seg t4_tx_number_47 ?_
  refine zb_el h (fun hb h => zT_t hb ?_) (fun hb h => zT_f hb ?_)
  · have hz := zsi h hq
    refine (zO_mk ?_ ?_).trans hz
    · first | with_reducible rfl | (rfl)
    · first | with_reducible rfl | (exact zufs_eq _ [(47, 4, _)] [(47, 2, _), (47, 3, _), (47, 4, _)] [(47, 2), (47, 3), (47, 4)] rfl rfl ⟨rfl, rfl, rfl, trivial⟩)
  · refine zg_el h (fun hg h => zT_g hg ?_)
    refine zl_el h (fun h => zT_l ?_)
    refine zb_el h (fun hb h => zT_t hb ?_) (fun hb h => zT_f hb ?_)
    · refine zb_el h (fun hb h => zT_t hb ?_) (fun hb h => zT_f hb ?_)
      · have hz := zsi h hq
        refine (zO_mk ?_ ?_).trans hz
        · first | with_reducible rfl | (rfl)
        · first | with_reducible rfl | (exact zufs_eq _ [(47, 4, _)] [(47, 2, _), (47, 3, _), (47, 4, _)] [(47, 2), (47, 3), (47, 4)] rfl rfl ⟨rfl, rfl, rfl, trivial⟩)
      · refine zl_el h (fun h => zT_l ?_)
        refine zl_el h (fun h => zT_l ?_)
        have hz := zsi h hq
        refine (zO_mk ?_ ?_).trans hz
        · first | with_reducible rfl | (rfl)
        · first | with_reducible rfl | (exact zufs_eq _ [(47, 4, _), (47, 2, _), (47, 3, _)] [(47, 2, _), (47, 3, _), (47, 4, _)] [(47, 2), (47, 3), (47, 4)] rfl rfl ⟨rfl, rfl, rfl, trivial⟩)
    · refine zb_el h (fun hb h => zT_t hb ?_) (fun hb h => zT_f hb ?_)
      · refine zb_el h (fun hb h => zT_t hb ?_) (fun hb h => zT_f hb ?_)
        · have hz := zsi h hq
          refine zR2_hp ?_ ?_ hz
          · first | with_reducible rfl | (rfl)
          · first | with_reducible rfl | (exact zufs_eq _ [(47, 4, _), (47, 4, _)] [(47, 4, _)] [(47, 4)] rfl rfl ⟨rfl, trivial⟩)
        · refine zl_el h (fun h => zT_l ?_)
          refine zl_el h (fun h => zT_l ?_)
          have hz := zsi h hq
          refine (zO_mk ?_ ?_).trans hz
          · first | with_reducible rfl | (rfl)
          · first | with_reducible rfl | (exact zufs_eq _ [(47, 4, _), (47, 2, _), (47, 3, _)] [(47, 2, _), (47, 3, _), (47, 4, _)] [(47, 2), (47, 3), (47, 4)] rfl rfl ⟨rfl, rfl, rfl, trivial⟩)
      · refine zb_el h (fun hb h => zT_t hb ?_) (fun hb h => zT_f hb ?_)
        · have hz := zsi h hq
          refine (zO_mk ?_ ?_).trans hz
          · first | with_reducible rfl | (rfl)
          · first | with_reducible rfl | (exact zufs_eq _ [(47, 4, _)] [(47, 2, _), (47, 3, _), (47, 4, _)] [(47, 2), (47, 3), (47, 4)] rfl rfl ⟨rfl, rfl, rfl, trivial⟩)
        · refine zl_el h (fun h => zT_l ?_)
          refine zl_el h (fun h => zT_l ?_)
          have hz := zsi h hq
          refine (zO_mk ?_ ?_).trans hz
          · first | with_reducible rfl | (rfl)
          · first | with_reducible rfl | (exact zufs_eq _ [(47, 4, _), (47, 2, _), (47, 3, _)] [(47, 2, _), (47, 3, _), (47, 4, _)] [(47, 2), (47, 3), (47, 4)] rfl rfl ⟨rfl, rfl, rfl, trivial⟩)
set_option maxRecDepth 20000 in
theorem t_tx_number_47 {X : Nat × (Nat → Int32)} {ar fi : Nat → Nat → Int32} {m1 m2 m3 m4 : Nat} {x : Int32} {G_tx_sign : Int32 → Int32 → Int32 → (Nat → Int32) → Bool} {W_tx_sign : Int32 → Int32 → Int32 → (Nat → Int32) → Int32} {F0_tx_fail : Int32 → Int32 → Int32 → Int32 → Int32} {F1_tx_fail : Int32 → Int32 → Int32 → Int32 → Int32} : zseg X zFT (zEx 93 (P_tx_sign G_tx_sign W_tx_sign) (zEx 97 (P_tx_fail F0_tx_fail F1_tx_fail) zE0)) zc_98 (fun p => Nat.beq p 4) 400 0 [.ref 47, .int x] [] (ar, fi, (m1, m2, m3, m4, 1)) = (
  some (.inl (4, [.ref 47, .int x, .int 0, .int 0], [], (ar, fi, (m1, m2, m3, m4, 1)))) : Option ((Nat × List Value × List Value × zH2) ⊕ zO2)) := rfl
theorem e_tx_number_47 {X : Nat × (Nat → Int32)} {ar fi : Nat → Nat → Int32} {m1 m2 m3 m4 : Nat} {x : Int32} {o : zO2} : ∀ (q : T_tx_number), q_tx_number x (ar 1) (fi 47 1) (fi 47 2) (fi 47 3) (fi 47 4) = some q → (fun t => O_tx_number_47 ar fi m1 m2 m3 m4 t = o) q → zR2 X zFT (zEx 93 S_tx_sign (zEx 97 S_tx_fail zE0)) zc_98 0 [.ref 47, .int x] [] (ar, fi, (m1, m2, m3, m4, 1)) o := by
  intro q h hq
  unfold q_tx_number at h
  refine zT_seg t_tx_number_47 ?_
  refine zR2_hp ?_ ?_ (zlp_K k_tx_number_4_47 h hq)
  · first | with_reducible rfl | (rfl)
  · first | with_reducible rfl | (exact zufs_eq _ [] [(47, 4, _)] [(47, 4)] rfl rfl ⟨rfl, trivial⟩)
theorem ok_tx_number (X : Nat × (Nat → Int32)) : zOkS X 98 S_tx_number 2 := zOkS_new (zOkE_cons (ok_tx_sign X) (by decide) (zOkE_cons (ok_tx_fail X) (by decide) (zOkE_nil X 1))) (by
  intro args g o h
  obtain ⟨ar, fi, m1, m2, m3, m4, m5⟩ := g
  unfold S_tx_number P_tx_number at h
  split at h
  · refine zb_el h (fun hI0 k0 => ?_) (fun _ h10 => ?_)
    · try simp only [Bool.and_eq_true] at hI0
      obtain ⟨j0, j1⟩ := hI0
      have e0 := Nat.eq_of_beq_eq_true j0
      subst e0
      have e9 : m3 = 1 := Nat.eq_of_beq_eq_true j1
      subst e9
      exact zpe_el k0 (fun t ht ho => e_tx_number_40 t ht ho)
    · skip
      refine zb_el h10 (fun hI1 k1 => ?_) (fun _ h11 => ?_)
      · try simp only [Bool.and_eq_true] at hI1
        obtain ⟨j0, j1⟩ := hI1
        have e0 := Nat.eq_of_beq_eq_true j0
        subst e0
        have e9 : m4 = 1 := Nat.eq_of_beq_eq_true j1
        subst e9
        exact zpe_el k1 (fun t ht ho => e_tx_number_44 t ht ho)
      · skip
        refine zb_el h11 (fun hI2 k2 => ?_) (fun _ h12 => ?_)
        · try simp only [Bool.and_eq_true] at hI2
          obtain ⟨j0, j1⟩ := hI2
          have e0 := Nat.eq_of_beq_eq_true j0
          subst e0
          have e9 : m5 = 1 := Nat.eq_of_beq_eq_true j1
          subst e9
          exact zpe_el k2 (fun t ht ho => e_tx_number_47 t ht ho)
        · cases h12
  · cases h)
abbrev T_tn_readSign : Type := Int32 × (Nat → Int32) × Int32 × Int32 × Int32
abbrev U_tn_readSign_104 : Type := Int32 × (Nat → Int32)
def b_tn_readSign_104 (x : Int32) (y : Int32) (f44_2 : Int32) (f44_3 : Int32) (l4 : Int32) (l5 : Int32) (c44_4 : Int32) (l6 : Int32) (b43 : Nat → Int32) : Option (U_tn_readSign_104 ⊕ T_tn_readSign) :=
  bif decide (l4 ≤ l6) then
   some (.inr (x + l4, b43, f44_2, f44_3, c44_4))
  else
   zg (g_tn_put (x + l6) y l5 b43) (
   zl (a0_tn_put (x + l6) y l5 b43) (fun v18 =>
   some (.inl (l6 + 1, v18))))
def f_tn_readSign_104 (x : Int32) (y : Int32) (f44_2 : Int32) (f44_3 : Int32) (l4 : Int32) (l5 : Int32) (c44_4 : Int32) : U_tn_readSign_104 → Option (U_tn_readSign_104 ⊕ T_tn_readSign) := fun s => b_tn_readSign_104 x y f44_2 f44_3 l4 l5 c44_4 s.1 s.2
noncomputable def l_tn_readSign_104 (x : Int32) (y : Int32) (f44_2 : Int32) (f44_3 : Int32) (l4 : Int32) (l5 : Int32) (c44_4 : Int32) (l6 : Int32) (b43 : Nat → Int32) : Option T_tn_readSign := zlp (f_tn_readSign_104 x y f44_2 f44_3 l4 l5 c44_4) (l6, b43)
noncomputable def q_tn_readSign (x : Int32) (y : Int32) (a1 : Nat → Int32) (a43 : Nat → Int32) (f44_1 : Int32) (f44_2 : Int32) (f44_3 : Int32) (f44_4 : Int32) : Option T_tn_readSign :=
  zg (g_tn_isCount (f44_2) (f44_4) (f44_1) a1) (
  zl (w_tn_isCount (f44_2) (f44_4) (f44_1) a1) (fun v1 =>
  bif decide (v1 = 0) then
   zg (g_tx_sign (f44_2) (f44_4) (f44_1) a1) (
   zl (w_tx_sign (f44_2) (f44_4) (f44_1) a1) (fun v2 =>
   zl (w_tn_kindOf v2) (fun v3 =>
   bif decide (0 ≤ v3) then
    bif decide (x + 1 ≤ 12) then
     zl (f0_tx_skip (f44_4)) (fun v4 =>
     l_tn_readSign_104 x y f44_2 f44_3 1 v3 v4 0 a43)
    else
     zl (f0_tx_fail 6 (f44_4) (f44_2) (f44_3)) (fun v5 =>
     zl (f1_tx_fail 6 (f44_4) (f44_2) (f44_3)) (fun v6 =>
     some (x + 1, a43, v5, v6, f44_4)))
   else
    zl (f0_tx_fail 1 (f44_4) (f44_2) (f44_3)) (fun v7 =>
    zl (f1_tx_fail 1 (f44_4) (f44_2) (f44_3)) (fun v8 =>
    some (x + 1, a43, v7, v8, f44_4))))))
  else
   zg (g_tx_sign (f44_2) (f44_4) (f44_1) a1) (
   zl (w_tx_sign (f44_2) (f44_4) (f44_1) a1) (fun v9 =>
   zl (f0_tx_skip (f44_4)) (fun v10 =>
   zg (g_tx_sign (f44_2) v10 (f44_1) a1) (
   zl (w_tx_sign (f44_2) v10 (f44_1) a1) (fun v11 =>
   zl (w_tn_kindOf v11) (fun v12 =>
   bif decide (0 ≤ v12) then
    bif decide (x + (v9 - 48) ≤ 12) then
     zl (f0_tx_skip v10) (fun v13 =>
     l_tn_readSign_104 x y f44_2 f44_3 (v9 - 48) v12 v13 0 a43)
    else
     zl (f0_tx_fail 6 (f44_4) (f44_2) (f44_3)) (fun v14 =>
     zl (f1_tx_fail 6 (f44_4) (f44_2) (f44_3)) (fun v15 =>
     some (x + (v9 - 48), a43, v14, v15, v10)))
   else
    zl (f0_tx_fail 1 v10 (f44_2) (f44_3)) (fun v16 =>
    zl (f1_tx_fail 1 v10 (f44_2) (f44_3)) (fun v17 =>
    some (x + (v9 - 48), a43, v16, v17, v10)))))))))))
def P_tn_readSign (Q : Int32 → Int32 → (Nat → Int32) → (Nat → Int32) → Int32 → Int32 → Int32 → Int32 → Option (Int32 × (Nat → Int32) × Int32 × Int32 × Int32)) : zSp := fun as g => match as with
  | [.ref a, .int x, .int y] => bif Nat.beq a 42 && Nat.beq g.2.2.2.2.2.1 1 then zpe (Q x y (g.1 1) (g.1 43) (g.2.1 44 1) (g.2.1 44 2) (g.2.1 44 3) (g.2.1 44 4)) (fun t => (some (.int (t.1)), ((zua g.1 43 t.2.1), (zuf (zuf (zuf g.2.1 44 2 t.2.2.1) 44 3 t.2.2.2.1) 44 4 t.2.2.2.2), g.2.2))) else none
  | _ => none
noncomputable abbrev S_tn_readSign : zSp := P_tn_readSign q_tn_readSign
def O_tn_readSign (ar fi : Nat → Nat → Int32) (m1 : Nat) (m2 : Nat) (m3 : Nat) (m5 : Nat) (t : T_tn_readSign) : zO2 := (some (.int (t.1)), ((zua ar 43 t.2.1), (zuf (zuf (zuf fi 44 2 t.2.2.1) 44 3 t.2.2.2.1) 44 4 t.2.2.2.2), (m1, m2, m3, 1, m5)))
def M_tn_readSign_104 (X : Nat × (Nat → Int32)) (E : zTE) (ar fi : Nat → Nat → Int32) (m1 : Nat) (m2 : Nat) (m3 : Nat) (m5 : Nat) (x : Int32) (y : Int32) (l3 : Int32) (l4 : Int32) (l5 : Int32) (c44_4 : Int32) (o : zO2) (s : U_tn_readSign_104) : Prop := zR2 X zFT E zc_105 104 [.ref 42, .int x, .int y, .int l3, .int l4, .int l5, .int s.1] [] ((zua ar 43 s.2), (zuf fi 44 4 c44_4), (m1, m2, m3, 1, m5)) o
set_option maxRecDepth 20000 in
theorem t104_tn_readSign {X : Nat × (Nat → Int32)} {ar fi : Nat → Nat → Int32} {m1 m2 m3 m5 : Nat} {x y : Int32} {l3 : Int32} {l4 : Int32} {l5 : Int32} {l6 : Int32} {b43 : Nat → Int32} {c44_4 : Int32} {G_tn_isCount : Int32 → Int32 → Int32 → (Nat → Int32) → Bool} {W_tn_isCount : Int32 → Int32 → Int32 → (Nat → Int32) → Int32} {G_tx_sign : Int32 → Int32 → Int32 → (Nat → Int32) → Bool} {W_tx_sign : Int32 → Int32 → Int32 → (Nat → Int32) → Int32} {F0_tx_skip : Int32 → Int32} {W_tn_kindOf : Int32 → Int32} {F0_tx_fail : Int32 → Int32 → Int32 → Int32 → Int32} {F1_tx_fail : Int32 → Int32 → Int32 → Int32 → Int32} {G_tn_put : Int32 → Int32 → Int32 → (Nat → Int32) → Bool} {A0_tn_put : Int32 → Int32 → Int32 → (Nat → Int32) → Nat → Int32} : zseg X zFT (zEx 104 (P_tn_isCount G_tn_isCount W_tn_isCount) (zEx 93 (P_tx_sign G_tx_sign W_tx_sign) (zEx 95 (P_tx_skip F0_tx_skip) (zEx 107 (P_tn_kindOf W_tn_kindOf) (zEx 97 (P_tx_fail F0_tx_fail F1_tx_fail) (zEx 106 (P_tn_put G_tn_put A0_tn_put) zE0)))))) zc_105 (fun p => Nat.beq p 104) 400 104 [.ref 42, .int x, .int y, .int l3, .int l4, .int l5, .int l6] [] ((zua ar 43 b43), (zuf fi 44 4 c44_4), (m1, m2, m3, 1, m5)) = (
  bif decide (l4 ≤ l6) then
   some (.inr (some (.int (x + l4)), ((zua ar 43 b43), (zuf fi 44 4 c44_4), (m1, m2, m3, 1, m5))))
  else
   zg (G_tn_put (x + l6) y l5 b43) (
   zl (A0_tn_put (x + l6) y l5 b43) (fun v18 =>
   some (.inl (104, [.ref 42, .int x, .int y, .int l3, .int l4, .int l5, .int (l6 + 1)], [], ((zua (zua ar 43 b43) 43 v18), (zuf fi 44 4 c44_4), (m1, m2, m3, 1, m5)))))) : Option ((Nat × List Value × List Value × zH2) ⊕ zO2)) := rfl
theorem k_tn_readSign_104 {X : Nat × (Nat → Int32)} {ar fi : Nat → Nat → Int32} {m1 m2 m3 m5 : Nat} {x y : Int32} {l3 : Int32} {l4 : Int32} {l5 : Int32} {c44_4 : Int32} {o : zO2} : ∀ (s : U_tn_readSign_104) (q : U_tn_readSign_104 ⊕ T_tn_readSign), f_tn_readSign_104 x y (fi 44 2) (fi 44 3) l4 l5 c44_4 s = some q → zq (M_tn_readSign_104 X (zEx 104 S_tn_isCount (zEx 93 S_tx_sign (zEx 95 S_tx_skip (zEx 107 S_tn_kindOf (zEx 97 S_tx_fail (zEx 106 S_tn_put zE0)))))) ar fi m1 m2 m3 m5 x y l3 l4 l5 c44_4 o) (fun t => O_tn_readSign ar fi m1 m2 m3 m5 t = o) q → M_tn_readSign_104 X (zEx 104 S_tn_isCount (zEx 93 S_tx_sign (zEx 95 S_tx_skip (zEx 107 S_tn_kindOf (zEx 97 S_tx_fail (zEx 106 S_tn_put zE0)))))) ar fi m1 m2 m3 m5 x y l3 l4 l5 c44_4 o s := by
  intro s q h hq
  obtain ⟨l6, b43⟩ := s
  have h : b_tn_readSign_104 x y (fi 44 2) (fi 44 3) l4 l5 c44_4 l6 b43 = some q := h
  unfold b_tn_readSign_104 at h
  show zR2 X zFT (zEx 104 S_tn_isCount (zEx 93 S_tx_sign (zEx 95 S_tx_skip (zEx 107 S_tn_kindOf (zEx 97 S_tx_fail (zEx 106 S_tn_put zE0)))))) zc_105 104 [.ref 42, .int x, .int y, .int l3, .int l4, .int l5, .int l6] [] ((zua ar 43 b43), (zuf fi 44 4 c44_4), (m1, m2, m3, 1, m5)) o
  refine zT_seg t104_tn_readSign ?_
  refine zb_el h (fun hb h => zT_t hb ?_) (fun hb h => zT_f hb ?_)
  · have hz := zsi h hq
    refine (zO_mk ?_ ?_).trans hz
    · first | with_reducible rfl | (exact zuas_eq _ [(43, _)] [(43, _)] [43] rfl rfl ⟨rfl, trivial⟩)
    · first | with_reducible rfl | (exact zufs_eq _ [(44, 4, _)] [(44, 2, _), (44, 3, _), (44, 4, _)] [(44, 2), (44, 3), (44, 4)] rfl rfl ⟨rfl, rfl, rfl, trivial⟩)
  · refine zg_el h (fun hg h => zT_g hg ?_)
    refine zl_el h (fun h => zT_l ?_)
    have hz := zsi h hq
    refine zR2_hp ?_ ?_ hz
    · first | with_reducible rfl | (exact zuas_eq _ [(43, _), (43, _)] [(43, _)] [43] rfl rfl ⟨rfl, trivial⟩)
    · first | with_reducible rfl | (exact zufs_eq _ [(44, 4, _)] [(44, 4, _)] [(44, 4)] rfl rfl ⟨rfl, trivial⟩)
set_option maxRecDepth 20000 in
theorem t_tn_readSign {X : Nat × (Nat → Int32)} {ar fi : Nat → Nat → Int32} {m1 m2 m3 m5 : Nat} {x y : Int32} {G_tn_isCount : Int32 → Int32 → Int32 → (Nat → Int32) → Bool} {W_tn_isCount : Int32 → Int32 → Int32 → (Nat → Int32) → Int32} {G_tx_sign : Int32 → Int32 → Int32 → (Nat → Int32) → Bool} {W_tx_sign : Int32 → Int32 → Int32 → (Nat → Int32) → Int32} {F0_tx_skip : Int32 → Int32} {W_tn_kindOf : Int32 → Int32} {F0_tx_fail : Int32 → Int32 → Int32 → Int32 → Int32} {F1_tx_fail : Int32 → Int32 → Int32 → Int32 → Int32} {G_tn_put : Int32 → Int32 → Int32 → (Nat → Int32) → Bool} {A0_tn_put : Int32 → Int32 → Int32 → (Nat → Int32) → Nat → Int32} : zseg X zFT (zEx 104 (P_tn_isCount G_tn_isCount W_tn_isCount) (zEx 93 (P_tx_sign G_tx_sign W_tx_sign) (zEx 95 (P_tx_skip F0_tx_skip) (zEx 107 (P_tn_kindOf W_tn_kindOf) (zEx 97 (P_tx_fail F0_tx_fail F1_tx_fail) (zEx 106 (P_tn_put G_tn_put A0_tn_put) zE0)))))) zc_105 (fun p => Nat.beq p 104) 400 0 [.ref 42, .int x, .int y] [] (ar, fi, (m1, m2, m3, 1, m5)) = (
  zg (G_tn_isCount (fi 44 2) (fi 44 4) (fi 44 1) (ar 1)) (
  zl (W_tn_isCount (fi 44 2) (fi 44 4) (fi 44 1) (ar 1)) (fun v1 =>
  bif decide (v1 = 0) then
   zg (G_tx_sign (fi 44 2) (fi 44 4) (fi 44 1) (ar 1)) (
   zl (W_tx_sign (fi 44 2) (fi 44 4) (fi 44 1) (ar 1)) (fun v2 =>
   zl (W_tn_kindOf v2) (fun v3 =>
   bif decide (0 ≤ v3) then
    bif decide (x + 1 ≤ 12) then
     zl (F0_tx_skip (fi 44 4)) (fun v4 =>
     some (.inl (104, [.ref 42, .int x, .int y, .int (fi 44 4), .int 1, .int v3, .int 0], [], (ar, (zuf fi 44 4 v4), (m1, m2, m3, 1, m5)))))
    else
     zl (F0_tx_fail 6 (fi 44 4) (fi 44 2) (fi 44 3)) (fun v5 =>
     zl (F1_tx_fail 6 (fi 44 4) (fi 44 2) (fi 44 3)) (fun v6 =>
     some (.inr (some (.int (x + 1)), (ar, (zuf (zuf fi 44 2 v5) 44 3 v6), (m1, m2, m3, 1, m5))))))
   else
    zl (F0_tx_fail 1 (fi 44 4) (fi 44 2) (fi 44 3)) (fun v7 =>
    zl (F1_tx_fail 1 (fi 44 4) (fi 44 2) (fi 44 3)) (fun v8 =>
    some (.inr (some (.int (x + 1)), (ar, (zuf (zuf fi 44 2 v7) 44 3 v8), (m1, m2, m3, 1, m5)))))))))
  else
   zg (G_tx_sign (fi 44 2) (fi 44 4) (fi 44 1) (ar 1)) (
   zl (W_tx_sign (fi 44 2) (fi 44 4) (fi 44 1) (ar 1)) (fun v9 =>
   zl (F0_tx_skip (fi 44 4)) (fun v10 =>
   zg (G_tx_sign (fi 44 2) v10 (fi 44 1) (ar 1)) (
   zl (W_tx_sign (fi 44 2) v10 (fi 44 1) (ar 1)) (fun v11 =>
   zl (W_tn_kindOf v11) (fun v12 =>
   bif decide (0 ≤ v12) then
    bif decide (x + (v9 - 48) ≤ 12) then
     zl (F0_tx_skip v10) (fun v13 =>
     some (.inl (104, [.ref 42, .int x, .int y, .int (fi 44 4), .int (v9 - 48), .int v12, .int 0], [], (ar, (zuf (zuf fi 44 4 v10) 44 4 v13), (m1, m2, m3, 1, m5)))))
    else
     zl (F0_tx_fail 6 (fi 44 4) (fi 44 2) (fi 44 3)) (fun v14 =>
     zl (F1_tx_fail 6 (fi 44 4) (fi 44 2) (fi 44 3)) (fun v15 =>
     some (.inr (some (.int (x + (v9 - 48))), (ar, (zuf (zuf (zuf fi 44 4 v10) 44 2 v14) 44 3 v15), (m1, m2, m3, 1, m5))))))
   else
    zl (F0_tx_fail 1 v10 (fi 44 2) (fi 44 3)) (fun v16 =>
    zl (F1_tx_fail 1 v10 (fi 44 2) (fi 44 3)) (fun v17 =>
    some (.inr (some (.int (x + (v9 - 48))), (ar, (zuf (zuf (zuf fi 44 4 v10) 44 2 v16) 44 3 v17), (m1, m2, m3, 1, m5)))))))))))))) : Option ((Nat × List Value × List Value × zH2) ⊕ zO2)) := rfl
theorem e_tn_readSign {X : Nat × (Nat → Int32)} {ar fi : Nat → Nat → Int32} {m1 m2 m3 m5 : Nat} {x y : Int32} {o : zO2} : ∀ (q : T_tn_readSign), q_tn_readSign x y (ar 1) (ar 43) (fi 44 1) (fi 44 2) (fi 44 3) (fi 44 4) = some q → (fun t => O_tn_readSign ar fi m1 m2 m3 m5 t = o) q → zR2 X zFT (zEx 104 S_tn_isCount (zEx 93 S_tx_sign (zEx 95 S_tx_skip (zEx 107 S_tn_kindOf (zEx 97 S_tx_fail (zEx 106 S_tn_put zE0)))))) zc_105 0 [.ref 42, .int x, .int y] [] (ar, fi, (m1, m2, m3, 1, m5)) o := by
  intro q h hq
  unfold q_tn_readSign at h
  refine zT_seg t_tn_readSign ?_
  refine zg_el h (fun hg h => zT_g hg ?_)
  refine zl_el h (fun h => zT_l ?_)
  refine zb_el h (fun hb h => zT_t hb ?_) (fun hb h => zT_f hb ?_)
  · refine zg_el h (fun hg h => zT_g hg ?_)
    refine zl_el h (fun h => zT_l ?_)
    refine zl_el h (fun h => zT_l ?_)
    refine zb_el h (fun hb h => zT_t hb ?_) (fun hb h => zT_f hb ?_)
    · refine zb_el h (fun hb h => zT_t hb ?_) (fun hb h => zT_f hb ?_)
      · refine zl_el h (fun h => zT_l ?_)
        refine zR2_hp ?_ ?_ (zlp_K k_tn_readSign_104 h hq)
        · first | with_reducible rfl | (exact zuas_eq _ [] [(43, _)] [43] rfl rfl ⟨rfl, trivial⟩)
        · first | with_reducible rfl | (exact zufs_eq _ [(44, 4, _)] [(44, 4, _)] [(44, 4)] rfl rfl ⟨rfl, trivial⟩)
      · refine zl_el h (fun h => zT_l ?_)
        refine zl_el h (fun h => zT_l ?_)
        have hz := zsi h hq
        refine (zO_mk ?_ ?_).trans hz
        · first | with_reducible rfl | (exact zuas_eq _ [] [(43, _)] [43] rfl rfl ⟨rfl, trivial⟩)
        · first | with_reducible rfl | (exact zufs_eq _ [(44, 2, _), (44, 3, _)] [(44, 2, _), (44, 3, _), (44, 4, _)] [(44, 2), (44, 3), (44, 4)] rfl rfl ⟨rfl, rfl, rfl, trivial⟩)
    · refine zl_el h (fun h => zT_l ?_)
      refine zl_el h (fun h => zT_l ?_)
      have hz := zsi h hq
      refine (zO_mk ?_ ?_).trans hz
      · first | with_reducible rfl | (exact zuas_eq _ [] [(43, _)] [43] rfl rfl ⟨rfl, trivial⟩)
      · first | with_reducible rfl | (exact zufs_eq _ [(44, 2, _), (44, 3, _)] [(44, 2, _), (44, 3, _), (44, 4, _)] [(44, 2), (44, 3), (44, 4)] rfl rfl ⟨rfl, rfl, rfl, trivial⟩)
  · refine zg_el h (fun hg h => zT_g hg ?_)
    refine zl_el h (fun h => zT_l ?_)
    refine zl_el h (fun h => zT_l ?_)
    refine zg_el h (fun hg h => zT_g hg ?_)
    refine zl_el h (fun h => zT_l ?_)
    refine zl_el h (fun h => zT_l ?_)
    refine zb_el h (fun hb h => zT_t hb ?_) (fun hb h => zT_f hb ?_)
    · refine zb_el h (fun hb h => zT_t hb ?_) (fun hb h => zT_f hb ?_)
      · refine zl_el h (fun h => zT_l ?_)
        refine zR2_hp ?_ ?_ (zlp_K k_tn_readSign_104 h hq)
        · first | with_reducible rfl | (exact zuas_eq _ [] [(43, _)] [43] rfl rfl ⟨rfl, trivial⟩)
        · first | with_reducible rfl | (exact zufs_eq _ [(44, 4, _), (44, 4, _)] [(44, 4, _)] [(44, 4)] rfl rfl ⟨rfl, trivial⟩)
      · refine zl_el h (fun h => zT_l ?_)
        refine zl_el h (fun h => zT_l ?_)
        have hz := zsi h hq
        refine (zO_mk ?_ ?_).trans hz
        · first | with_reducible rfl | (exact zuas_eq _ [] [(43, _)] [43] rfl rfl ⟨rfl, trivial⟩)
        · first | with_reducible rfl | (exact zufs_eq _ [(44, 4, _), (44, 2, _), (44, 3, _)] [(44, 2, _), (44, 3, _), (44, 4, _)] [(44, 2), (44, 3), (44, 4)] rfl rfl ⟨rfl, rfl, rfl, trivial⟩)
    · refine zl_el h (fun h => zT_l ?_)
      refine zl_el h (fun h => zT_l ?_)
      have hz := zsi h hq
      refine (zO_mk ?_ ?_).trans hz
      · first | with_reducible rfl | (exact zuas_eq _ [] [(43, _)] [43] rfl rfl ⟨rfl, trivial⟩)
      · first | with_reducible rfl | (exact zufs_eq _ [(44, 4, _), (44, 2, _), (44, 3, _)] [(44, 2, _), (44, 3, _), (44, 4, _)] [(44, 2), (44, 3), (44, 4)] rfl rfl ⟨rfl, rfl, rfl, trivial⟩)
theorem ok_tn_readSign (X : Nat × (Nat → Int32)) : zOkS X 105 S_tn_readSign 4 := zOkS_new (zOkE_cons (ok_tn_isCount X) (by decide) (zOkE_cons (ok_tx_sign X) (by decide) (zOkE_cons (ok_tx_skip X) (by decide) (zOkE_cons (ok_tn_kindOf X) (by decide) (zOkE_cons (ok_tx_fail X) (by decide) (zOkE_cons (ok_tn_put X) (by decide) (zOkE_nil X 3))))))) (by
  intro args g o h
  obtain ⟨ar, fi, m1, m2, m3, m4, m5⟩ := g
  unfold S_tn_readSign P_tn_readSign at h
  split at h
  · refine zb_el h (fun hI0 k0 => ?_) (fun _ h10 => ?_)
    · try simp only [Bool.and_eq_true] at hI0
      obtain ⟨j0, j1⟩ := hI0
      have e0 := Nat.eq_of_beq_eq_true j0
      subst e0
      have e9 : m4 = 1 := Nat.eq_of_beq_eq_true j1
      subst e9
      exact zpe_el k0 (fun t ht ho => e_tn_readSign t ht ho)
    · cases h10
  · cases h)
abbrev T_if_steps : Type := Int32 × (Nat → Int32) × (Nat → Int32) × Int32 × Int32
noncomputable def q_if_steps (x : Int32) (y : Int32) (a3 : Nat → Int32) (a53 : Nat → Int32) (a54 : Nat → Int32) (f52_1 : Int32) (f52_3 : Int32) : Option T_if_steps :=
  zg (g_if_isNumber x) (
  zl (w_if_isNumber x) (fun v1 =>
  bif decide (v1 = 0) then
   some ((-1), a53, a54, f52_1, f52_3)
  else
   zg (g_if_isNumber y) (
   zl (w_if_isNumber y) (fun v2 =>
   bif !decide (v2 = 0) then
    zg (zin x 96) (
    bif !decide (a3 (x.toNatClampNeg) = 1) then
     some ((-3), a53, a54, f52_1, f52_3)
    else
     zg (zin y 96) (
     bif decide (a3 (y.toNatClampNeg) = 1) then
      zl (a0_gr_clear a53) (fun v3 =>
      zl (f0_gr_clear a53) (fun v4 =>
      zl (f1_gr_clear a53) (fun v5 =>
      zg (g_gr_light x v3 v4 a54) (
      zl (a0_gr_light x v3 v4 a54) (fun v6 =>
      zl (a1_gr_light x v3 v4 a54) (fun v7 =>
      zl (f0_gr_light x v3 v4 a54) (fun v8 =>
      zbd (q_gr_goOver a3 v6 v7 v8 v5) (fun v9 =>
      zg (zin y 96) (
      bif decide (0 ≤ ((v9.1)) (y.toNatClampNeg)) then
       some (((v9.1)) (y.toNatClampNeg), ((v9.1)), ((v9.2.1)), (v9.2.2.1), (v9.2.2.2))
      else
       some ((-2), ((v9.1)), ((v9.2.1)), (v9.2.2.1), (v9.2.2.2)))))))))))
     else
      some ((-3), a53, a54, f52_1, f52_3)))
   else
    some ((-1), a53, a54, f52_1, f52_3)))))
def P_if_steps (Q : Int32 → Int32 → (Nat → Int32) → (Nat → Int32) → (Nat → Int32) → Int32 → Int32 → Option (Int32 × (Nat → Int32) × (Nat → Int32) × Int32 × Int32)) : zSp := fun as g => match as with
  | [.ref a, .int x, .int y] => bif Nat.beq a 0 then zpe (Q x y (g.1 3) (g.1 53) (g.1 54) (g.2.1 52 1) (g.2.1 52 3)) (fun t => (some (.int (t.1)), ((zua (zua g.1 53 t.2.1) 54 t.2.2.1), (zuf (zuf g.2.1 52 1 t.2.2.2.1) 52 3 t.2.2.2.2), g.2.2))) else none
  | _ => none
noncomputable abbrev S_if_steps : zSp := P_if_steps q_if_steps
def O_if_steps (ar fi : Nat → Nat → Int32) (m1 : Nat) (m2 : Nat) (m3 : Nat) (m4 : Nat) (m5 : Nat) (t : T_if_steps) : zO2 := (some (.int (t.1)), ((zua (zua ar 53 t.2.1) 54 t.2.2.1), (zuf (zuf fi 52 1 t.2.2.2.1) 52 3 t.2.2.2.2), (m1, m2, m3, m4, m5)))
set_option maxRecDepth 20000 in
theorem t_if_steps {X : Nat × (Nat → Int32)} {ar fi : Nat → Nat → Int32} {m1 m2 m3 m4 m5 : Nat} {x y : Int32} {G_if_isNumber : Int32 → Bool} {W_if_isNumber : Int32 → Int32} {A0_gr_clear : (Nat → Int32) → Nat → Int32} {F0_gr_clear : (Nat → Int32) → Int32} {F1_gr_clear : (Nat → Int32) → Int32} {G_gr_light : Int32 → (Nat → Int32) → Int32 → (Nat → Int32) → Bool} {A0_gr_light : Int32 → (Nat → Int32) → Int32 → (Nat → Int32) → Nat → Int32} {A1_gr_light : Int32 → (Nat → Int32) → Int32 → (Nat → Int32) → Nat → Int32} {F0_gr_light : Int32 → (Nat → Int32) → Int32 → (Nat → Int32) → Int32} {Q_gr_goOver : (Nat → Int32) → (Nat → Int32) → (Nat → Int32) → Int32 → Int32 → Option ((Nat → Int32) × (Nat → Int32) × Int32 × Int32)} : zseg X zFT (zEx 138 (P_if_isNumber G_if_isNumber W_if_isNumber) (zEx 26 (P_gr_clear A0_gr_clear F0_gr_clear F1_gr_clear) (zEx 27 (P_gr_light G_gr_light A0_gr_light A1_gr_light F0_gr_light) (zEx 29 (P_gr_goOver Q_gr_goOver) zE0)))) zc_119 (fun p => false) 400 0 [.ref 0, .int x, .int y] [] (ar, fi, (m1, m2, m3, m4, m5)) = (
  zg (G_if_isNumber x) (
  zl (W_if_isNumber x) (fun v1 =>
  bif decide (v1 = 0) then
   some (.inr (some (.int (-1)), (ar, fi, (m1, m2, m3, m4, m5))))
  else
   zg (G_if_isNumber y) (
   zl (W_if_isNumber y) (fun v2 =>
   bif !decide (v2 = 0) then
    zg (zin x 96) (
    bif !decide ((ar 3) (x.toNatClampNeg) = 1) then
     some (.inr (some (.int (-3)), (ar, fi, (m1, m2, m3, m4, m5))))
    else
     zg (zin y 96) (
     bif decide ((ar 3) (y.toNatClampNeg) = 1) then
      zl (A0_gr_clear (ar 53)) (fun v3 =>
      zl (F0_gr_clear (ar 53)) (fun v4 =>
      zl (F1_gr_clear (ar 53)) (fun v5 =>
      zg (G_gr_light x v3 v4 (ar 54)) (
      zl (A0_gr_light x v3 v4 (ar 54)) (fun v6 =>
      zl (A1_gr_light x v3 v4 (ar 54)) (fun v7 =>
      zl (F0_gr_light x v3 v4 (ar 54)) (fun v8 =>
      zl (Q_gr_goOver (ar 3) v6 v7 v8 v5) (fun v9 => zg v9.isSome (
      zg (zin y 96) (
      bif decide (0 ≤ (((zgt v9).1)) (y.toNatClampNeg)) then
       some (.inr (some (.int ((((zgt v9).1)) (y.toNatClampNeg))), ((zua (zua (zua (zua (zua ar 53 v3) 53 v6) 54 v7) 53 (((zgt v9).1))) 54 (((zgt v9).2.1))), (zuf (zuf (zuf (zuf (zuf fi 52 1 v4) 52 3 v5) 52 1 v8) 52 1 (((zgt v9).2.2.1))) 52 3 (((zgt v9).2.2.2))), (m1, m2, m3, m4, m5))))
      else
       some (.inr (some (.int (-2)), ((zua (zua (zua (zua (zua ar 53 v3) 53 v6) 54 v7) 53 (((zgt v9).1))) 54 (((zgt v9).2.1))), (zuf (zuf (zuf (zuf (zuf fi 52 1 v4) 52 3 v5) 52 1 v8) 52 1 (((zgt v9).2.2.1))) 52 3 (((zgt v9).2.2.2))), (m1, m2, m3, m4, m5))))))))))))))
     else
      some (.inr (some (.int (-3)), (ar, fi, (m1, m2, m3, m4, m5))))))
   else
    some (.inr (some (.int (-1)), (ar, fi, (m1, m2, m3, m4, m5)))))))) : Option ((Nat × List Value × List Value × zH2) ⊕ zO2)) := rfl
theorem e_if_steps {X : Nat × (Nat → Int32)} {ar fi : Nat → Nat → Int32} {m1 m2 m3 m4 m5 : Nat} {x y : Int32} {o : zO2} : ∀ (q : T_if_steps), q_if_steps x y (ar 3) (ar 53) (ar 54) (fi 52 1) (fi 52 3) = some q → (fun t => O_if_steps ar fi m1 m2 m3 m4 m5 t = o) q → zR2 X zFT (zEx 138 S_if_isNumber (zEx 26 S_gr_clear (zEx 27 S_gr_light (zEx 29 S_gr_goOver zE0)))) zc_119 0 [.ref 0, .int x, .int y] [] (ar, fi, (m1, m2, m3, m4, m5)) o := by
  intro q h hq
  unfold q_if_steps at h
  refine zT_seg t_if_steps ?_
  refine zg_el h (fun hg h => zT_g hg ?_)
  refine zl_el h (fun h => zT_l ?_)
  refine zb_el h (fun hb h => zT_t hb ?_) (fun hb h => zT_f hb ?_)
  · have hz := zsi h hq
    refine (zO_mk ?_ ?_).trans hz
    · first | with_reducible rfl | (exact zuas_eq _ [] [(53, _), (54, _)] [53, 54] rfl rfl ⟨rfl, rfl, trivial⟩)
    · first | with_reducible rfl | (exact zufs_eq _ [] [(52, 1, _), (52, 3, _)] [(52, 1), (52, 3)] rfl rfl ⟨rfl, rfl, trivial⟩)
  · refine zg_el h (fun hg h => zT_g hg ?_)
    refine zl_el h (fun h => zT_l ?_)
    refine zb_el h (fun hb h => zT_t hb ?_) (fun hb h => zT_f hb ?_)
    · refine zg_el h (fun hg h => zT_g hg ?_)
      refine zb_el h (fun hb h => zT_t hb ?_) (fun hb h => zT_f hb ?_)
      · have hz := zsi h hq
        refine (zO_mk ?_ ?_).trans hz
        · first | with_reducible rfl | (exact zuas_eq _ [] [(53, _), (54, _)] [53, 54] rfl rfl ⟨rfl, rfl, trivial⟩)
        · first | with_reducible rfl | (exact zufs_eq _ [] [(52, 1, _), (52, 3, _)] [(52, 1), (52, 3)] rfl rfl ⟨rfl, rfl, trivial⟩)
      · refine zg_el h (fun hg h => zT_g hg ?_)
        refine zb_el h (fun hb h => zT_t hb ?_) (fun hb h => zT_f hb ?_)
        · refine zl_el h (fun h => zT_l ?_)
          refine zl_el h (fun h => zT_l ?_)
          refine zl_el h (fun h => zT_l ?_)
          refine zg_el h (fun hg h => zT_g hg ?_)
          refine zl_el h (fun h => zT_l ?_)
          refine zl_el h (fun h => zT_l ?_)
          refine zl_el h (fun h => zT_l ?_)
          refine zbd_el h (fun v9 hv h => zT_c hv ?_)
          refine zg_el h (fun hg h => zT_g hg ?_)
          refine zb_el h (fun hb h => zT_t hb ?_) (fun hb h => zT_f hb ?_)
          · have hz := zsi h hq
            refine (zO_mk ?_ ?_).trans hz
            · first | with_reducible rfl | (exact zuas_eq _ [(53, _), (53, _), (54, _), (53, _), (54, _)] [(53, _), (54, _)] [53, 54] rfl rfl ⟨rfl, rfl, trivial⟩)
            · first | with_reducible rfl | (exact zufs_eq _ [(52, 1, _), (52, 3, _), (52, 1, _), (52, 1, _), (52, 3, _)] [(52, 1, _), (52, 3, _)] [(52, 1), (52, 3)] rfl rfl ⟨rfl, rfl, trivial⟩)
          · have hz := zsi h hq
            refine (zO_mk ?_ ?_).trans hz
            · first | with_reducible rfl | (exact zuas_eq _ [(53, _), (53, _), (54, _), (53, _), (54, _)] [(53, _), (54, _)] [53, 54] rfl rfl ⟨rfl, rfl, trivial⟩)
            · first | with_reducible rfl | (exact zufs_eq _ [(52, 1, _), (52, 3, _), (52, 1, _), (52, 1, _), (52, 3, _)] [(52, 1, _), (52, 3, _)] [(52, 1), (52, 3)] rfl rfl ⟨rfl, rfl, trivial⟩)
        · have hz := zsi h hq
          refine (zO_mk ?_ ?_).trans hz
          · first | with_reducible rfl | (exact zuas_eq _ [] [(53, _), (54, _)] [53, 54] rfl rfl ⟨rfl, rfl, trivial⟩)
          · first | with_reducible rfl | (exact zufs_eq _ [] [(52, 1, _), (52, 3, _)] [(52, 1), (52, 3)] rfl rfl ⟨rfl, rfl, trivial⟩)
    · have hz := zsi h hq
      refine (zO_mk ?_ ?_).trans hz
      · first | with_reducible rfl | (exact zuas_eq _ [] [(53, _), (54, _)] [53, 54] rfl rfl ⟨rfl, rfl, trivial⟩)
      · first | with_reducible rfl | (exact zufs_eq _ [] [(52, 1, _), (52, 3, _)] [(52, 1), (52, 3)] rfl rfl ⟨rfl, rfl, trivial⟩)
theorem ok_if_steps (X : Nat × (Nat → Int32)) : zOkS X 119 S_if_steps 3 := zOkS_new (zOkE_cons (ok_if_isNumber X) (by decide) (zOkE_cons (ok_gr_clear X) (by decide) (zOkE_cons (ok_gr_light X) (by decide) (zOkE_cons (ok_gr_goOver X) (by decide) (zOkE_nil X 2))))) (by
  intro args g o h
  obtain ⟨ar, fi, m1, m2, m3, m4, m5⟩ := g
  unfold S_if_steps P_if_steps at h
  split at h
  · refine zb_el h (fun hI0 k0 => ?_) (fun _ h10 => ?_)
    · try simp only [Bool.and_eq_true] at hI0
      have j0 := hI0
      have e0 := Nat.eq_of_beq_eq_true j0
      subst e0
      exact zpe_el k0 (fun t ht ho => e_if_steps t ht ho)
    · cases h10
  · cases h)
abbrev T_if_began : Type := Int32 × (Nat → Int32) × (Nat → Int32) × Int32 × Int32
abbrev U_if_began_31 : Type := Int32 × Int32 × Int32 × (Nat → Int32) × (Nat → Int32) × Int32 × Int32
noncomputable def b_if_began_31 (x : Int32) (y : Int32) (a3 : Nat → Int32) (a4 : Nat → Int32) (l3 : Int32) (l4 : Int32) (l5 : Int32) (b53 : Nat → Int32) (b54 : Nat → Int32) (c52_1 : Int32) (c52_3 : Int32) : Option (U_if_began_31 ⊕ T_if_began) :=
  bif decide (l5 < 0) then
   bif !decide (y = 0) then
    some (.inr (l4, b53, b54, c52_1, c52_3))
   else
    some (.inr (l3, b53, b54, c52_1, c52_3))
  else
   zg (g_sc_isWoodOnFire l5 a3 a4) (
   zl (w_sc_isWoodOnFire l5 a3 a4) (fun v3 =>
   bif decide (v3 = 0) then
    some (.inl (l3, l4, l5 + (-1), b53, b54, c52_1, c52_3))
   else
    zbd (q_gr_explains l5 x a3 a4 b53 b54) (fun v4 =>
    bif decide ((v4.1) = 0) then
     some (.inl (l3, l4, l5 + (-1), ((v4.2.1)), ((v4.2.2.1)), (v4.2.2.2.1), (v4.2.2.2.2)))
    else
     some (.inl (l3 + 1, l5, l5 + (-1), ((v4.2.1)), ((v4.2.2.1)), (v4.2.2.2.1), (v4.2.2.2.2))))))
noncomputable def f_if_began_31 (x : Int32) (y : Int32) (a3 : Nat → Int32) (a4 : Nat → Int32) : U_if_began_31 → Option (U_if_began_31 ⊕ T_if_began) := fun s => b_if_began_31 x y a3 a4 s.1 s.2.1 s.2.2.1 s.2.2.2.1 s.2.2.2.2.1 s.2.2.2.2.2.1 s.2.2.2.2.2.2
noncomputable def l_if_began_31 (x : Int32) (y : Int32) (a3 : Nat → Int32) (a4 : Nat → Int32) (l3 : Int32) (l4 : Int32) (l5 : Int32) (b53 : Nat → Int32) (b54 : Nat → Int32) (c52_1 : Int32) (c52_3 : Int32) : Option T_if_began := zlp (f_if_began_31 x y a3 a4) (l3, l4, l5, b53, b54, c52_1, c52_3)
noncomputable def q_if_began (x : Int32) (y : Int32) (a3 : Nat → Int32) (a4 : Nat → Int32) (a53 : Nat → Int32) (a54 : Nat → Int32) (f52_1 : Int32) (f52_3 : Int32) : Option T_if_began :=
  zl (w_if_isWithin x 0 60) (fun v1 =>
  bif decide (v1 = 0) then
   some ((-1), a53, a54, f52_1, f52_3)
  else
   zl (w_if_isWithin y 0 1) (fun v2 =>
   bif !decide (v2 = 0) then
    l_if_began_31 x y a3 a4 0 (-2) 95 a53 a54 (f52_1) (f52_3)
   else
    some ((-1), a53, a54, f52_1, f52_3)))
def P_if_began (Q : Int32 → Int32 → (Nat → Int32) → (Nat → Int32) → (Nat → Int32) → (Nat → Int32) → Int32 → Int32 → Option (Int32 × (Nat → Int32) × (Nat → Int32) × Int32 × Int32)) : zSp := fun as g => match as with
  | [.ref a, .int x, .int y] => bif Nat.beq a 0 then zpe (Q x y (g.1 3) (g.1 4) (g.1 53) (g.1 54) (g.2.1 52 1) (g.2.1 52 3)) (fun t => (some (.int (t.1)), ((zua (zua g.1 53 t.2.1) 54 t.2.2.1), (zuf (zuf g.2.1 52 1 t.2.2.2.1) 52 3 t.2.2.2.2), g.2.2))) else none
  | _ => none
noncomputable abbrev S_if_began : zSp := P_if_began q_if_began
def O_if_began (ar fi : Nat → Nat → Int32) (m1 : Nat) (m2 : Nat) (m3 : Nat) (m4 : Nat) (m5 : Nat) (t : T_if_began) : zO2 := (some (.int (t.1)), ((zua (zua ar 53 t.2.1) 54 t.2.2.1), (zuf (zuf fi 52 1 t.2.2.2.1) 52 3 t.2.2.2.2), (m1, m2, m3, m4, m5)))
def M_if_began_31 (X : Nat × (Nat → Int32)) (E : zTE) (ar fi : Nat → Nat → Int32) (m1 : Nat) (m2 : Nat) (m3 : Nat) (m4 : Nat) (m5 : Nat) (x : Int32) (y : Int32) (o : zO2) (s : U_if_began_31) : Prop := zR2 X zFT E zc_120 31 [.ref 0, .int x, .int y, .int s.1, .int s.2.1, .int s.2.2.1] [] ((zua (zua ar 53 s.2.2.2.1) 54 s.2.2.2.2.1), (zuf (zuf fi 52 1 s.2.2.2.2.2.1) 52 3 s.2.2.2.2.2.2), (m1, m2, m3, m4, m5)) o
set_option maxRecDepth 20000 in
theorem t31_if_began {X : Nat × (Nat → Int32)} {ar fi : Nat → Nat → Int32} {m1 m2 m3 m4 m5 : Nat} {x y : Int32} {l3 : Int32} {l4 : Int32} {l5 : Int32} {b53 : Nat → Int32} {b54 : Nat → Int32} {c52_1 : Int32} {c52_3 : Int32} {W_if_isWithin : Int32 → Int32 → Int32 → Int32} {G_sc_isWoodOnFire : Int32 → (Nat → Int32) → (Nat → Int32) → Bool} {W_sc_isWoodOnFire : Int32 → (Nat → Int32) → (Nat → Int32) → Int32} {Q_gr_explains : Int32 → Int32 → (Nat → Int32) → (Nat → Int32) → (Nat → Int32) → (Nat → Int32) → Option (Int32 × (Nat → Int32) × (Nat → Int32) × Int32 × Int32)} : zseg X zFT (zEx 137 (P_if_isWithin W_if_isWithin) (zEx 74 (P_sc_isWoodOnFire G_sc_isWoodOnFire W_sc_isWoodOnFire) (zEx 31 (P_gr_explains Q_gr_explains) zE0))) zc_120 (fun p => Nat.beq p 31) 400 31 [.ref 0, .int x, .int y, .int l3, .int l4, .int l5] [] ((zua (zua ar 53 b53) 54 b54), (zuf (zuf fi 52 1 c52_1) 52 3 c52_3), (m1, m2, m3, m4, m5)) = (
  bif decide (l5 < 0) then
   bif !decide (y = 0) then
    some (.inr (some (.int l4), ((zua (zua ar 53 b53) 54 b54), (zuf (zuf fi 52 1 c52_1) 52 3 c52_3), (m1, m2, m3, m4, m5))))
   else
    some (.inr (some (.int l3), ((zua (zua ar 53 b53) 54 b54), (zuf (zuf fi 52 1 c52_1) 52 3 c52_3), (m1, m2, m3, m4, m5))))
  else
   zg (G_sc_isWoodOnFire l5 (ar 3) (ar 4)) (
   zl (W_sc_isWoodOnFire l5 (ar 3) (ar 4)) (fun v3 =>
   bif decide (v3 = 0) then
    some (.inl (31, [.ref 0, .int x, .int y, .int l3, .int l4, .int (l5 + (-1))], [], ((zua (zua ar 53 b53) 54 b54), (zuf (zuf fi 52 1 c52_1) 52 3 c52_3), (m1, m2, m3, m4, m5))))
   else
    zl (Q_gr_explains l5 x (ar 3) (ar 4) b53 b54) (fun v4 => zg v4.isSome (
    bif decide (((zgt v4).1) = 0) then
     some (.inl (31, [.ref 0, .int x, .int y, .int l3, .int l4, .int (l5 + (-1))], [], ((zua (zua (zua (zua ar 53 b53) 54 b54) 53 (((zgt v4).2.1))) 54 (((zgt v4).2.2.1))), (zuf (zuf (zuf (zuf fi 52 1 c52_1) 52 3 c52_3) 52 1 (((zgt v4).2.2.2.1))) 52 3 (((zgt v4).2.2.2.2))), (m1, m2, m3, m4, m5))))
    else
     some (.inl (31, [.ref 0, .int x, .int y, .int (l3 + 1), .int l5, .int (l5 + (-1))], [], ((zua (zua (zua (zua ar 53 b53) 54 b54) 53 (((zgt v4).2.1))) 54 (((zgt v4).2.2.1))), (zuf (zuf (zuf (zuf fi 52 1 c52_1) 52 3 c52_3) 52 1 (((zgt v4).2.2.2.1))) 52 3 (((zgt v4).2.2.2.2))), (m1, m2, m3, m4, m5)))))))) : Option ((Nat × List Value × List Value × zH2) ⊕ zO2)) := rfl
theorem k_if_began_31 {X : Nat × (Nat → Int32)} {ar fi : Nat → Nat → Int32} {m1 m2 m3 m4 m5 : Nat} {x y : Int32} {o : zO2} : ∀ (s : U_if_began_31) (q : U_if_began_31 ⊕ T_if_began), f_if_began_31 x y (ar 3) (ar 4) s = some q → zq (M_if_began_31 X (zEx 137 S_if_isWithin (zEx 74 S_sc_isWoodOnFire (zEx 31 S_gr_explains zE0))) ar fi m1 m2 m3 m4 m5 x y o) (fun t => O_if_began ar fi m1 m2 m3 m4 m5 t = o) q → M_if_began_31 X (zEx 137 S_if_isWithin (zEx 74 S_sc_isWoodOnFire (zEx 31 S_gr_explains zE0))) ar fi m1 m2 m3 m4 m5 x y o s := by
  intro s q h hq
  obtain ⟨l3, l4, l5, b53, b54, c52_1, c52_3⟩ := s
  have h : b_if_began_31 x y (ar 3) (ar 4) l3 l4 l5 b53 b54 c52_1 c52_3 = some q := h
  unfold b_if_began_31 at h
  show zR2 X zFT (zEx 137 S_if_isWithin (zEx 74 S_sc_isWoodOnFire (zEx 31 S_gr_explains zE0))) zc_120 31 [.ref 0, .int x, .int y, .int l3, .int l4, .int l5] [] ((zua (zua ar 53 b53) 54 b54), (zuf (zuf fi 52 1 c52_1) 52 3 c52_3), (m1, m2, m3, m4, m5)) o
  refine zT_seg t31_if_began ?_
  refine zb_el h (fun hb h => zT_t hb ?_) (fun hb h => zT_f hb ?_)
  · refine zb_el h (fun hb h => zT_t hb ?_) (fun hb h => zT_f hb ?_)
    · have hz := zsi h hq
      refine (zO_mk ?_ ?_).trans hz
      · first | with_reducible rfl | (exact zuas_eq _ [(53, _), (54, _)] [(53, _), (54, _)] [53, 54] rfl rfl ⟨rfl, rfl, trivial⟩)
      · first | with_reducible rfl | (exact zufs_eq _ [(52, 1, _), (52, 3, _)] [(52, 1, _), (52, 3, _)] [(52, 1), (52, 3)] rfl rfl ⟨rfl, rfl, trivial⟩)
    · have hz := zsi h hq
      refine (zO_mk ?_ ?_).trans hz
      · first | with_reducible rfl | (exact zuas_eq _ [(53, _), (54, _)] [(53, _), (54, _)] [53, 54] rfl rfl ⟨rfl, rfl, trivial⟩)
      · first | with_reducible rfl | (exact zufs_eq _ [(52, 1, _), (52, 3, _)] [(52, 1, _), (52, 3, _)] [(52, 1), (52, 3)] rfl rfl ⟨rfl, rfl, trivial⟩)
  · refine zg_el h (fun hg h => zT_g hg ?_)
    refine zl_el h (fun h => zT_l ?_)
    refine zb_el h (fun hb h => zT_t hb ?_) (fun hb h => zT_f hb ?_)
    · have hz := zsi h hq
      refine zR2_hp ?_ ?_ hz
      · first | with_reducible rfl | (exact zuas_eq _ [(53, _), (54, _)] [(53, _), (54, _)] [53, 54] rfl rfl ⟨rfl, rfl, trivial⟩)
      · first | with_reducible rfl | (exact zufs_eq _ [(52, 1, _), (52, 3, _)] [(52, 1, _), (52, 3, _)] [(52, 1), (52, 3)] rfl rfl ⟨rfl, rfl, trivial⟩)
    · refine zbd_el h (fun v4 hv h => zT_c hv ?_)
      refine zb_el h (fun hb h => zT_t hb ?_) (fun hb h => zT_f hb ?_)
      · have hz := zsi h hq
        refine zR2_hp ?_ ?_ hz
        · first | with_reducible rfl | (exact zuas_eq _ [(53, _), (54, _), (53, _), (54, _)] [(53, _), (54, _)] [53, 54] rfl rfl ⟨rfl, rfl, trivial⟩)
        · first | with_reducible rfl | (exact zufs_eq _ [(52, 1, _), (52, 3, _), (52, 1, _), (52, 3, _)] [(52, 1, _), (52, 3, _)] [(52, 1), (52, 3)] rfl rfl ⟨rfl, rfl, trivial⟩)
      · have hz := zsi h hq
        refine zR2_hp ?_ ?_ hz
        · first | with_reducible rfl | (exact zuas_eq _ [(53, _), (54, _), (53, _), (54, _)] [(53, _), (54, _)] [53, 54] rfl rfl ⟨rfl, rfl, trivial⟩)
        · first | with_reducible rfl | (exact zufs_eq _ [(52, 1, _), (52, 3, _), (52, 1, _), (52, 3, _)] [(52, 1, _), (52, 3, _)] [(52, 1), (52, 3)] rfl rfl ⟨rfl, rfl, trivial⟩)
set_option maxRecDepth 20000 in
theorem t_if_began {X : Nat × (Nat → Int32)} {ar fi : Nat → Nat → Int32} {m1 m2 m3 m4 m5 : Nat} {x y : Int32} {W_if_isWithin : Int32 → Int32 → Int32 → Int32} {G_sc_isWoodOnFire : Int32 → (Nat → Int32) → (Nat → Int32) → Bool} {W_sc_isWoodOnFire : Int32 → (Nat → Int32) → (Nat → Int32) → Int32} {Q_gr_explains : Int32 → Int32 → (Nat → Int32) → (Nat → Int32) → (Nat → Int32) → (Nat → Int32) → Option (Int32 × (Nat → Int32) × (Nat → Int32) × Int32 × Int32)} : zseg X zFT (zEx 137 (P_if_isWithin W_if_isWithin) (zEx 74 (P_sc_isWoodOnFire G_sc_isWoodOnFire W_sc_isWoodOnFire) (zEx 31 (P_gr_explains Q_gr_explains) zE0))) zc_120 (fun p => Nat.beq p 31) 400 0 [.ref 0, .int x, .int y] [] (ar, fi, (m1, m2, m3, m4, m5)) = (
  zl (W_if_isWithin x 0 60) (fun v1 =>
  bif decide (v1 = 0) then
   some (.inr (some (.int (-1)), (ar, fi, (m1, m2, m3, m4, m5))))
  else
   zl (W_if_isWithin y 0 1) (fun v2 =>
   bif !decide (v2 = 0) then
    some (.inl (31, [.ref 0, .int x, .int y, .int 0, .int (-2), .int 95], [], (ar, fi, (m1, m2, m3, m4, m5))))
   else
    some (.inr (some (.int (-1)), (ar, fi, (m1, m2, m3, m4, m5)))))) : Option ((Nat × List Value × List Value × zH2) ⊕ zO2)) := rfl
theorem e_if_began {X : Nat × (Nat → Int32)} {ar fi : Nat → Nat → Int32} {m1 m2 m3 m4 m5 : Nat} {x y : Int32} {o : zO2} : ∀ (q : T_if_began), q_if_began x y (ar 3) (ar 4) (ar 53) (ar 54) (fi 52 1) (fi 52 3) = some q → (fun t => O_if_began ar fi m1 m2 m3 m4 m5 t = o) q → zR2 X zFT (zEx 137 S_if_isWithin (zEx 74 S_sc_isWoodOnFire (zEx 31 S_gr_explains zE0))) zc_120 0 [.ref 0, .int x, .int y] [] (ar, fi, (m1, m2, m3, m4, m5)) o := by
  intro q h hq
  unfold q_if_began at h
  refine zT_seg t_if_began ?_
  refine zl_el h (fun h => zT_l ?_)
  refine zb_el h (fun hb h => zT_t hb ?_) (fun hb h => zT_f hb ?_)
  · have hz := zsi h hq
    refine (zO_mk ?_ ?_).trans hz
    · first | with_reducible rfl | (exact zuas_eq _ [] [(53, _), (54, _)] [53, 54] rfl rfl ⟨rfl, rfl, trivial⟩)
    · first | with_reducible rfl | (exact zufs_eq _ [] [(52, 1, _), (52, 3, _)] [(52, 1), (52, 3)] rfl rfl ⟨rfl, rfl, trivial⟩)
  · refine zl_el h (fun h => zT_l ?_)
    refine zb_el h (fun hb h => zT_t hb ?_) (fun hb h => zT_f hb ?_)
    · refine zR2_hp ?_ ?_ (zlp_K k_if_began_31 h hq)
      · first | with_reducible rfl | (exact zuas_eq _ [] [(53, _), (54, _)] [53, 54] rfl rfl ⟨rfl, rfl, trivial⟩)
      · first | with_reducible rfl | (exact zufs_eq _ [] [(52, 1, _), (52, 3, _)] [(52, 1), (52, 3)] rfl rfl ⟨rfl, rfl, trivial⟩)
    · have hz := zsi h hq
      refine (zO_mk ?_ ?_).trans hz
      · first | with_reducible rfl | (exact zuas_eq _ [] [(53, _), (54, _)] [53, 54] rfl rfl ⟨rfl, rfl, trivial⟩)
      · first | with_reducible rfl | (exact zufs_eq _ [] [(52, 1, _), (52, 3, _)] [(52, 1), (52, 3)] rfl rfl ⟨rfl, rfl, trivial⟩)
theorem ok_if_began (X : Nat × (Nat → Int32)) : zOkS X 120 S_if_began 4 := zOkS_new (zOkE_cons (ok_if_isWithin X) (by decide) (zOkE_cons (ok_sc_isWoodOnFire X) (by decide) (zOkE_cons (ok_gr_explains X) (by decide) (zOkE_nil X 3)))) (by
  intro args g o h
  obtain ⟨ar, fi, m1, m2, m3, m4, m5⟩ := g
  unfold S_if_began P_if_began at h
  split at h
  · refine zb_el h (fun hI0 k0 => ?_) (fun _ h10 => ?_)
    · try simp only [Bool.and_eq_true] at hI0
      have j0 := hI0
      have e0 := Nat.eq_of_beq_eq_true j0
      subst e0
      exact zpe_el k0 (fun t ht ho => e_if_began t ht ho)
    · cases h10
  · cases h)
abbrev T_if_getsOut : Type := Int32 × (Nat → Int32) × (Nat → Int32) × (Nat → Int32) × (Nat → Int32) × Int32 × Int32
noncomputable def q_if_getsOut (x : Int32) (a3 : Nat → Int32) (a4 : Nat → Int32) (a53 : Nat → Int32) (a54 : Nat → Int32) (a55 : Nat → Int32) (a56 : Nat → Int32) (f52_1 : Int32) (f52_3 : Int32) : Option T_if_getsOut :=
  zg (g_if_isNumber x) (
  zl (w_if_isNumber x) (fun v1 =>
  bif !decide (v1 = 0) then
   zg (zin x 96) (
   bif decide (a3 (x.toNatClampNeg) = 3) then
    some ((-3), a53, a54, a55, a56, f52_1, f52_3)
   else
    zg (zin x 96) (
    bif !decide (a4 (x.toNatClampNeg) = 1) then
     zbd (q_gr_burnFrom a3 a4 a53 a54) (fun v2 =>
     zbd (q_gr_walkOut x a3 ((v2.1)) a55 a56) (fun v3 =>
     some ((v3.1), ((v2.1)), ((v2.2.1)), ((v3.2.1)), ((v3.2.2)), (v2.2.2.1), (v2.2.2.2))))
    else
     some ((-3), a53, a54, a55, a56, f52_1, f52_3)))
  else
   some ((-1), a53, a54, a55, a56, f52_1, f52_3)))
def P_if_getsOut (Q : Int32 → (Nat → Int32) → (Nat → Int32) → (Nat → Int32) → (Nat → Int32) → (Nat → Int32) → (Nat → Int32) → Int32 → Int32 → Option (Int32 × (Nat → Int32) × (Nat → Int32) × (Nat → Int32) × (Nat → Int32) × Int32 × Int32)) : zSp := fun as g => match as with
  | [.ref a, .int x] => bif Nat.beq a 0 then zpe (Q x (g.1 3) (g.1 4) (g.1 53) (g.1 54) (g.1 55) (g.1 56) (g.2.1 52 1) (g.2.1 52 3)) (fun t => (some (.int (t.1)), ((zua (zua (zua (zua g.1 53 t.2.1) 54 t.2.2.1) 55 t.2.2.2.1) 56 t.2.2.2.2.1), (zuf (zuf g.2.1 52 1 t.2.2.2.2.2.1) 52 3 t.2.2.2.2.2.2), g.2.2))) else none
  | _ => none
noncomputable abbrev S_if_getsOut : zSp := P_if_getsOut q_if_getsOut
def O_if_getsOut (ar fi : Nat → Nat → Int32) (m1 : Nat) (m2 : Nat) (m3 : Nat) (m4 : Nat) (m5 : Nat) (t : T_if_getsOut) : zO2 := (some (.int (t.1)), ((zua (zua (zua (zua ar 53 t.2.1) 54 t.2.2.1) 55 t.2.2.2.1) 56 t.2.2.2.2.1), (zuf (zuf fi 52 1 t.2.2.2.2.2.1) 52 3 t.2.2.2.2.2.2), (m1, m2, m3, m4, m5)))
set_option maxRecDepth 20000 in
theorem t_if_getsOut {X : Nat × (Nat → Int32)} {ar fi : Nat → Nat → Int32} {m1 m2 m3 m4 m5 : Nat} {x : Int32} {G_if_isNumber : Int32 → Bool} {W_if_isNumber : Int32 → Int32} {Q_gr_burnFrom : (Nat → Int32) → (Nat → Int32) → (Nat → Int32) → (Nat → Int32) → Option ((Nat → Int32) × (Nat → Int32) × Int32 × Int32)} {Q_gr_walkOut : Int32 → (Nat → Int32) → (Nat → Int32) → (Nat → Int32) → (Nat → Int32) → Option (Int32 × (Nat → Int32) × (Nat → Int32))} : zseg X zFT (zEx 138 (P_if_isNumber G_if_isNumber W_if_isNumber) (zEx 30 (P_gr_burnFrom Q_gr_burnFrom) (zEx 32 (P_gr_walkOut Q_gr_walkOut) zE0))) zc_122 (fun p => false) 400 0 [.ref 0, .int x] [] (ar, fi, (m1, m2, m3, m4, m5)) = (
  zg (G_if_isNumber x) (
  zl (W_if_isNumber x) (fun v1 =>
  bif !decide (v1 = 0) then
   zg (zin x 96) (
   bif decide ((ar 3) (x.toNatClampNeg) = 3) then
    some (.inr (some (.int (-3)), (ar, fi, (m1, m2, m3, m4, m5))))
   else
    zg (zin x 96) (
    bif !decide ((ar 4) (x.toNatClampNeg) = 1) then
     zl (Q_gr_burnFrom (ar 3) (ar 4) (ar 53) (ar 54)) (fun v2 => zg v2.isSome (
     zl (Q_gr_walkOut x (ar 3) (((zgt v2).1)) (ar 55) (ar 56)) (fun v3 => zg v3.isSome (
     some (.inr (some (.int (((zgt v3).1))), ((zua (zua (zua (zua ar 53 (((zgt v2).1))) 54 (((zgt v2).2.1))) 55 (((zgt v3).2.1))) 56 (((zgt v3).2.2))), (zuf (zuf fi 52 1 (((zgt v2).2.2.1))) 52 3 (((zgt v2).2.2.2))), (m1, m2, m3, m4, m5))))))))
    else
     some (.inr (some (.int (-3)), (ar, fi, (m1, m2, m3, m4, m5))))))
  else
   some (.inr (some (.int (-1)), (ar, fi, (m1, m2, m3, m4, m5)))))) : Option ((Nat × List Value × List Value × zH2) ⊕ zO2)) := rfl
theorem e_if_getsOut {X : Nat × (Nat → Int32)} {ar fi : Nat → Nat → Int32} {m1 m2 m3 m4 m5 : Nat} {x : Int32} {o : zO2} : ∀ (q : T_if_getsOut), q_if_getsOut x (ar 3) (ar 4) (ar 53) (ar 54) (ar 55) (ar 56) (fi 52 1) (fi 52 3) = some q → (fun t => O_if_getsOut ar fi m1 m2 m3 m4 m5 t = o) q → zR2 X zFT (zEx 138 S_if_isNumber (zEx 30 S_gr_burnFrom (zEx 32 S_gr_walkOut zE0))) zc_122 0 [.ref 0, .int x] [] (ar, fi, (m1, m2, m3, m4, m5)) o := by
  intro q h hq
  unfold q_if_getsOut at h
  refine zT_seg t_if_getsOut ?_
  refine zg_el h (fun hg h => zT_g hg ?_)
  refine zl_el h (fun h => zT_l ?_)
  refine zb_el h (fun hb h => zT_t hb ?_) (fun hb h => zT_f hb ?_)
  · refine zg_el h (fun hg h => zT_g hg ?_)
    refine zb_el h (fun hb h => zT_t hb ?_) (fun hb h => zT_f hb ?_)
    · have hz := zsi h hq
      refine (zO_mk ?_ ?_).trans hz
      · first | with_reducible rfl | (exact zuas_eq _ [] [(53, _), (54, _), (55, _), (56, _)] [53, 54, 55, 56] rfl rfl ⟨rfl, rfl, rfl, rfl, trivial⟩)
      · first | with_reducible rfl | (exact zufs_eq _ [] [(52, 1, _), (52, 3, _)] [(52, 1), (52, 3)] rfl rfl ⟨rfl, rfl, trivial⟩)
    · refine zg_el h (fun hg h => zT_g hg ?_)
      refine zb_el h (fun hb h => zT_t hb ?_) (fun hb h => zT_f hb ?_)
      · refine zbd_el h (fun v2 hv h => zT_c hv ?_)
        refine zbd_el h (fun v3 hv h => zT_c hv ?_)
        have hz := zsi h hq
        refine (zO_mk ?_ ?_).trans hz
        · first | with_reducible rfl | (exact zuas_eq _ [(53, _), (54, _), (55, _), (56, _)] [(53, _), (54, _), (55, _), (56, _)] [53, 54, 55, 56] rfl rfl ⟨rfl, rfl, rfl, rfl, trivial⟩)
        · first | with_reducible rfl | (exact zufs_eq _ [(52, 1, _), (52, 3, _)] [(52, 1, _), (52, 3, _)] [(52, 1), (52, 3)] rfl rfl ⟨rfl, rfl, trivial⟩)
      · have hz := zsi h hq
        refine (zO_mk ?_ ?_).trans hz
        · first | with_reducible rfl | (exact zuas_eq _ [] [(53, _), (54, _), (55, _), (56, _)] [53, 54, 55, 56] rfl rfl ⟨rfl, rfl, rfl, rfl, trivial⟩)
        · first | with_reducible rfl | (exact zufs_eq _ [] [(52, 1, _), (52, 3, _)] [(52, 1), (52, 3)] rfl rfl ⟨rfl, rfl, trivial⟩)
  · have hz := zsi h hq
    refine (zO_mk ?_ ?_).trans hz
    · first | with_reducible rfl | (exact zuas_eq _ [] [(53, _), (54, _), (55, _), (56, _)] [53, 54, 55, 56] rfl rfl ⟨rfl, rfl, rfl, rfl, trivial⟩)
    · first | with_reducible rfl | (exact zufs_eq _ [] [(52, 1, _), (52, 3, _)] [(52, 1), (52, 3)] rfl rfl ⟨rfl, rfl, trivial⟩)
theorem ok_if_getsOut (X : Nat × (Nat → Int32)) : zOkS X 122 S_if_getsOut 4 := zOkS_new (zOkE_cons (ok_if_isNumber X) (by decide) (zOkE_cons (ok_gr_burnFrom X) (by decide) (zOkE_cons (ok_gr_walkOut X) (by decide) (zOkE_nil X 3)))) (by
  intro args g o h
  obtain ⟨ar, fi, m1, m2, m3, m4, m5⟩ := g
  unfold S_if_getsOut P_if_getsOut at h
  split at h
  · refine zb_el h (fun hI0 k0 => ?_) (fun _ h10 => ?_)
    · try simp only [Bool.and_eq_true] at hI0
      have j0 := hI0
      have e0 := Nat.eq_of_beq_eq_true j0
      subst e0
      exact zpe_el k0 (fun t ht ho => e_if_getsOut t ht ho)
    · cases h10
  · cases h)
