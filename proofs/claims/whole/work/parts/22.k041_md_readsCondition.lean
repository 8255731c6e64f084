abbrev T_md_readsCondition : Type := Int32 × (Nat → Int32) × (Nat → Int32) × Int32 × Int32 × Int32 × Int32 × Int32 × Int32
abbrev U_md_readsCondition_40 : Type := (Nat → Int32) × (Nat → Int32) × Int32 × Int32 × Int32 × Int32 × Int32 × Int32
abbrev U_md_readsCondition_92 : Type := (Nat → Int32) × Int32 × Int32 × Int32 × Int32
noncomputable def b_md_readsCondition_92 (a70 : Nat → Int32) (f64_8 : Int32) (b72 : Nat → Int32) (c64_9 : Int32) (c64_10 : Int32) (b71 : Nat → Int32) (c64_7 : Int32) (c64_11 : Int32) (c64_12 : Int32) (c64_13 : Int32) : Option (U_md_readsCondition_92 ⊕ (U_md_readsCondition_40 ⊕ T_md_readsCondition)) :=
  zg (g_md_here (f64_8) c64_7 a70) (
  zl (w_md_here (f64_8) c64_7 a70) (fun v39 =>
  bif !decide (v39 = 41) then
   zg (g_md_here (f64_8) c64_7 a70) (
   zl (w_md_here (f64_8) c64_7 a70) (fun v40 =>
   bif decide (v40 = 38) then
    zg (g_md_here (f64_8) c64_7 a70) (
    zl (w_md_here (f64_8) c64_7 a70) (fun v41 =>
    bif !decide (v41 = 124) then
     zbd (q_md_lands 0 b71 b72 c64_12 c64_13) (fun v42 =>
     zg (g_md_here (f64_8) c64_7 a70) (
     zl (w_md_here (f64_8) c64_7 a70) (fun v43 =>
     bif !decide (v43 = 38) then
      zg (g_md_jumps 12 ((v42.2)) c64_12 ((v42.1)) b72 c64_7) (
      zl (a0_md_jumps 12 ((v42.2)) c64_12 ((v42.1)) b72 c64_7) (fun v44 =>
      zl (a1_md_jumps 12 ((v42.2)) c64_12 ((v42.1)) b72 c64_7) (fun v45 =>
      zl (f0_md_jumps 12 ((v42.2)) c64_12 ((v42.1)) b72 c64_7) (fun v46 =>
      zl (f1_md_jumps 12 ((v42.2)) c64_12 ((v42.1)) b72 c64_7) (fun v47 =>
      zl (f2_md_jumps 12 ((v42.2)) c64_12 ((v42.1)) b72 c64_7) (fun v48 =>
      some (.inr (.inl (v45, v44, v46, c64_9, c64_10, c64_11, v47, v48)))))))))
     else
      zg (g_md_jumps 11 ((v42.2)) c64_12 ((v42.1)) b72 c64_7) (
      zl (a0_md_jumps 11 ((v42.2)) c64_12 ((v42.1)) b72 c64_7) (fun v49 =>
      zl (a1_md_jumps 11 ((v42.2)) c64_12 ((v42.1)) b72 c64_7) (fun v50 =>
      zl (f0_md_jumps 11 ((v42.2)) c64_12 ((v42.1)) b72 c64_7) (fun v51 =>
      zl (f1_md_jumps 11 ((v42.2)) c64_12 ((v42.1)) b72 c64_7) (fun v52 =>
      zl (f2_md_jumps 11 ((v42.2)) c64_12 ((v42.1)) b72 c64_7) (fun v53 =>
      some (.inr (.inl (v50, v49, v51, c64_9, c64_10, c64_11, v52, v53))))))))))))
    else
     zbd (q_md_lands 1 b71 b72 c64_12 c64_13) (fun v54 =>
     zg (g_md_here (f64_8) c64_7 a70) (
     zl (w_md_here (f64_8) c64_7 a70) (fun v55 =>
     bif !decide (v55 = 38) then
      zg (g_md_jumps 12 ((v54.2)) c64_12 ((v54.1)) b72 c64_7) (
      zl (a0_md_jumps 12 ((v54.2)) c64_12 ((v54.1)) b72 c64_7) (fun v56 =>
      zl (a1_md_jumps 12 ((v54.2)) c64_12 ((v54.1)) b72 c64_7) (fun v57 =>
      zl (f0_md_jumps 12 ((v54.2)) c64_12 ((v54.1)) b72 c64_7) (fun v58 =>
      zl (f1_md_jumps 12 ((v54.2)) c64_12 ((v54.1)) b72 c64_7) (fun v59 =>
      zl (f2_md_jumps 12 ((v54.2)) c64_12 ((v54.1)) b72 c64_7) (fun v60 =>
      some (.inr (.inl (v57, v56, v58, c64_9, c64_10, c64_11, v59, v60)))))))))
     else
      zg (g_md_jumps 11 ((v54.2)) c64_12 ((v54.1)) b72 c64_7) (
      zl (a0_md_jumps 11 ((v54.2)) c64_12 ((v54.1)) b72 c64_7) (fun v61 =>
      zl (a1_md_jumps 11 ((v54.2)) c64_12 ((v54.1)) b72 c64_7) (fun v62 =>
      zl (f0_md_jumps 11 ((v54.2)) c64_12 ((v54.1)) b72 c64_7) (fun v63 =>
      zl (f1_md_jumps 11 ((v54.2)) c64_12 ((v54.1)) b72 c64_7) (fun v64 =>
      zl (f2_md_jumps 11 ((v54.2)) c64_12 ((v54.1)) b72 c64_7) (fun v65 =>
      some (.inr (.inl (v62, v61, v63, c64_9, c64_10, c64_11, v64, v65))))))))))))))
   else
    zg (g_md_here (f64_8) c64_7 a70) (
    zl (w_md_here (f64_8) c64_7 a70) (fun v66 =>
    bif decide (v66 = 124) then
     zg (g_md_here (f64_8) c64_7 a70) (
     zl (w_md_here (f64_8) c64_7 a70) (fun v67 =>
     bif !decide (v67 = 124) then
      zbd (q_md_lands 0 b71 b72 c64_12 c64_13) (fun v68 =>
      zg (g_md_here (f64_8) c64_7 a70) (
      zl (w_md_here (f64_8) c64_7 a70) (fun v69 =>
      bif !decide (v69 = 38) then
       zg (g_md_jumps 12 ((v68.2)) c64_12 ((v68.1)) b72 c64_7) (
       zl (a0_md_jumps 12 ((v68.2)) c64_12 ((v68.1)) b72 c64_7) (fun v70 =>
       zl (a1_md_jumps 12 ((v68.2)) c64_12 ((v68.1)) b72 c64_7) (fun v71 =>
       zl (f0_md_jumps 12 ((v68.2)) c64_12 ((v68.1)) b72 c64_7) (fun v72 =>
       zl (f1_md_jumps 12 ((v68.2)) c64_12 ((v68.1)) b72 c64_7) (fun v73 =>
       zl (f2_md_jumps 12 ((v68.2)) c64_12 ((v68.1)) b72 c64_7) (fun v74 =>
       some (.inr (.inl (v71, v70, v72, c64_9, c64_10, c64_11, v73, v74)))))))))
      else
       zg (g_md_jumps 11 ((v68.2)) c64_12 ((v68.1)) b72 c64_7) (
       zl (a0_md_jumps 11 ((v68.2)) c64_12 ((v68.1)) b72 c64_7) (fun v75 =>
       zl (a1_md_jumps 11 ((v68.2)) c64_12 ((v68.1)) b72 c64_7) (fun v76 =>
       zl (f0_md_jumps 11 ((v68.2)) c64_12 ((v68.1)) b72 c64_7) (fun v77 =>
       zl (f1_md_jumps 11 ((v68.2)) c64_12 ((v68.1)) b72 c64_7) (fun v78 =>
       zl (f2_md_jumps 11 ((v68.2)) c64_12 ((v68.1)) b72 c64_7) (fun v79 =>
       some (.inr (.inl (v76, v75, v77, c64_9, c64_10, c64_11, v78, v79))))))))))))
     else
      zbd (q_md_lands 1 b71 b72 c64_12 c64_13) (fun v80 =>
      zg (g_md_here (f64_8) c64_7 a70) (
      zl (w_md_here (f64_8) c64_7 a70) (fun v81 =>
      bif !decide (v81 = 38) then
       zg (g_md_jumps 12 ((v80.2)) c64_12 ((v80.1)) b72 c64_7) (
       zl (a0_md_jumps 12 ((v80.2)) c64_12 ((v80.1)) b72 c64_7) (fun v82 =>
       zl (a1_md_jumps 12 ((v80.2)) c64_12 ((v80.1)) b72 c64_7) (fun v83 =>
       zl (f0_md_jumps 12 ((v80.2)) c64_12 ((v80.1)) b72 c64_7) (fun v84 =>
       zl (f1_md_jumps 12 ((v80.2)) c64_12 ((v80.1)) b72 c64_7) (fun v85 =>
       zl (f2_md_jumps 12 ((v80.2)) c64_12 ((v80.1)) b72 c64_7) (fun v86 =>
       some (.inr (.inl (v83, v82, v84, c64_9, c64_10, c64_11, v85, v86)))))))))
      else
       zg (g_md_jumps 11 ((v80.2)) c64_12 ((v80.1)) b72 c64_7) (
       zl (a0_md_jumps 11 ((v80.2)) c64_12 ((v80.1)) b72 c64_7) (fun v87 =>
       zl (a1_md_jumps 11 ((v80.2)) c64_12 ((v80.1)) b72 c64_7) (fun v88 =>
       zl (f0_md_jumps 11 ((v80.2)) c64_12 ((v80.1)) b72 c64_7) (fun v89 =>
       zl (f1_md_jumps 11 ((v80.2)) c64_12 ((v80.1)) b72 c64_7) (fun v90 =>
       zl (f2_md_jumps 11 ((v80.2)) c64_12 ((v80.1)) b72 c64_7) (fun v91 =>
       some (.inr (.inl (v88, v87, v89, c64_9, c64_10, c64_11, v90, v91))))))))))))))
    else
     zl (w_md_wrongAt 1 c64_7) (fun v92 =>
     zl (f0_md_wrongAt 1 c64_7) (fun v93 =>
     zg (decide (v92 = 0) || decide (v92 = 1)) (
     some (.inr (.inr (v92, b71, b72, c64_7, v93, c64_10, c64_11, c64_12, c64_13))))))))))
  else
   zbd (q_md_lands 1 b71 b72 c64_12 c64_13) (fun v94 =>
   bif !decide (((v94.2)) - 1 = 0) then
    zbd (q_md_endsPiece ((v94.1)) b72 (c64_11 - 1) c64_12 (((v94.2)) - 1)) (fun v95 =>
    some (.inl (((v95.1)), c64_7 + 1, (v95.2.1), (v95.2.2.1), (v95.2.2.2))))
   else
    some (.inr (.inr (1, ((v94.1)), b72, c64_7 + 1, c64_9, c64_10, c64_11 - 1, c64_12, ((v94.2)) - 1))))))
noncomputable def f_md_readsCondition_92 (a70 : Nat → Int32) (f64_8 : Int32) (b72 : Nat → Int32) (c64_9 : Int32) (c64_10 : Int32) : U_md_readsCondition_92 → Option (U_md_readsCondition_92 ⊕ (U_md_readsCondition_40 ⊕ T_md_readsCondition)) := fun s => b_md_readsCondition_92 a70 f64_8 b72 c64_9 c64_10 s.1 s.2.1 s.2.2.1 s.2.2.2.1 s.2.2.2.2
noncomputable def l_md_readsCondition_92 (a70 : Nat → Int32) (f64_8 : Int32) (b72 : Nat → Int32) (c64_9 : Int32) (c64_10 : Int32) (b71 : Nat → Int32) (c64_7 : Int32) (c64_11 : Int32) (c64_12 : Int32) (c64_13 : Int32) : Option (U_md_readsCondition_40 ⊕ T_md_readsCondition) := zlp (f_md_readsCondition_92 a70 f64_8 b72 c64_9 c64_10) (b71, c64_7, c64_11, c64_12, c64_13)
noncomputable def b_md_readsCondition_40 (a70 : Nat → Int32) (f64_8 : Int32) (b71 : Nat → Int32) (b72 : Nat → Int32) (c64_7 : Int32) (c64_9 : Int32) (c64_10 : Int32) (c64_11 : Int32) (c64_12 : Int32) (c64_13 : Int32) : Option (U_md_readsCondition_40 ⊕ T_md_readsCondition) :=
  zg (g_md_here (f64_8) c64_7 a70) (
  zl (w_md_here (f64_8) c64_7 a70) (fun v10 =>
  bif decide (v10 = 33) then
   zg (g_md_here (f64_8) c64_7 a70) (
   zl (w_md_here (f64_8) c64_7 a70) (fun v11 =>
   bif !decide (v11 = 33) then
    zg (g_md_opens 13 c64_11 c64_13 c64_7 b72 c64_9) (
    zl (w_md_opens 13 c64_11 c64_13 c64_7 b72 c64_9) (fun v12 =>
    zl (a0_md_opens 13 c64_11 c64_13 c64_7 b72 c64_9) (fun v13 =>
    zl (f0_md_opens 13 c64_11 c64_13 c64_7 b72 c64_9) (fun v14 =>
    zl (f1_md_opens 13 c64_11 c64_13 c64_7 b72 c64_9) (fun v15 =>
    zl (f2_md_opens 13 c64_11 c64_13 c64_7 b72 c64_9) (fun v16 =>
    zl (f3_md_opens 13 c64_11 c64_13 c64_7 b72 c64_9) (fun v17 =>
    bif !decide (v12 = 0) then
     some (.inl (b71, v13, v14, v15, c64_10, v16, c64_12, v17))
    else
     some (.inr (0, b71, v13, v14, v15, c64_10, v16, c64_12, v17)))))))))
   else
    zg (g_md_opens 10 c64_11 c64_13 c64_7 b72 c64_9) (
    zl (w_md_opens 10 c64_11 c64_13 c64_7 b72 c64_9) (fun v18 =>
    zl (a0_md_opens 10 c64_11 c64_13 c64_7 b72 c64_9) (fun v19 =>
    zl (f0_md_opens 10 c64_11 c64_13 c64_7 b72 c64_9) (fun v20 =>
    zl (f1_md_opens 10 c64_11 c64_13 c64_7 b72 c64_9) (fun v21 =>
    zl (f2_md_opens 10 c64_11 c64_13 c64_7 b72 c64_9) (fun v22 =>
    zl (f3_md_opens 10 c64_11 c64_13 c64_7 b72 c64_9) (fun v23 =>
    bif !decide (v18 = 0) then
     some (.inl (b71, v19, v20, v21, c64_10, v22, c64_12, v23))
    else
     some (.inr (0, b71, v19, v20, v21, c64_10, v22, c64_12, v23)))))))))))
  else
   zg (g_md_here (f64_8) c64_7 a70) (
   zl (w_md_here (f64_8) c64_7 a70) (fun v24 =>
   bif !decide (v24 = 40) then
    zbd (q_md_readsCompared a70 b71 b72 c64_7 (f64_8) c64_9 c64_10 c64_11 c64_12 c64_13) (fun v25 =>
    bif !decide ((v25.1) = 0) then
     l_md_readsCondition_92 a70 f64_8 ((v25.2.2.1)) ((v25.2.2.2.2.1)) ((v25.2.2.2.2.2.1)) ((v25.2.1)) ((v25.2.2.2.1)) ((v25.2.2.2.2.2.2.1)) ((v25.2.2.2.2.2.2.2.1)) ((v25.2.2.2.2.2.2.2.2))
    else
     some (.inr (0, ((v25.2.1)), ((v25.2.2.1)), (v25.2.2.2.1), (v25.2.2.2.2.1), (v25.2.2.2.2.2.1), (v25.2.2.2.2.2.2.1), (v25.2.2.2.2.2.2.2.1), (v25.2.2.2.2.2.2.2.2))))
   else
    zg (g_md_here (f64_8) c64_7 a70) (
    zl (w_md_here (f64_8) c64_7 a70) (fun v26 =>
    bif !decide (v26 = 33) then
     zg (g_md_opens 13 c64_11 c64_13 c64_7 b72 c64_9) (
     zl (w_md_opens 13 c64_11 c64_13 c64_7 b72 c64_9) (fun v27 =>
     zl (a0_md_opens 13 c64_11 c64_13 c64_7 b72 c64_9) (fun v28 =>
     zl (f0_md_opens 13 c64_11 c64_13 c64_7 b72 c64_9) (fun v29 =>
     zl (f1_md_opens 13 c64_11 c64_13 c64_7 b72 c64_9) (fun v30 =>
     zl (f2_md_opens 13 c64_11 c64_13 c64_7 b72 c64_9) (fun v31 =>
     zl (f3_md_opens 13 c64_11 c64_13 c64_7 b72 c64_9) (fun v32 =>
     bif !decide (v27 = 0) then
      some (.inl (b71, v28, v29, v30, c64_10, v31, c64_12, v32))
     else
      some (.inr (0, b71, v28, v29, v30, c64_10, v31, c64_12, v32)))))))))
    else
     zg (g_md_opens 10 c64_11 c64_13 c64_7 b72 c64_9) (
     zl (w_md_opens 10 c64_11 c64_13 c64_7 b72 c64_9) (fun v33 =>
     zl (a0_md_opens 10 c64_11 c64_13 c64_7 b72 c64_9) (fun v34 =>
     zl (f0_md_opens 10 c64_11 c64_13 c64_7 b72 c64_9) (fun v35 =>
     zl (f1_md_opens 10 c64_11 c64_13 c64_7 b72 c64_9) (fun v36 =>
     zl (f2_md_opens 10 c64_11 c64_13 c64_7 b72 c64_9) (fun v37 =>
     zl (f3_md_opens 10 c64_11 c64_13 c64_7 b72 c64_9) (fun v38 =>
     bif !decide (v33 = 0) then
      some (.inl (b71, v34, v35, v36, c64_10, v37, c64_12, v38))
     else
      some (.inr (0, b71, v34, v35, v36, c64_10, v37, c64_12, v38)))))))))))))))
noncomputable def f_md_readsCondition_40 (a70 : Nat → Int32) (f64_8 : Int32) : U_md_readsCondition_40 → Option (U_md_readsCondition_40 ⊕ T_md_readsCondition) := fun s => b_md_readsCondition_40 a70 f64_8 s.1 s.2.1 s.2.2.1 s.2.2.2.1 s.2.2.2.2.1 s.2.2.2.2.2.1 s.2.2.2.2.2.2.1 s.2.2.2.2.2.2.2
noncomputable def l_md_readsCondition_40 (a70 : Nat → Int32) (f64_8 : Int32) (b71 : Nat → Int32) (b72 : Nat → Int32) (c64_7 : Int32) (c64_9 : Int32) (c64_10 : Int32) (c64_11 : Int32) (c64_12 : Int32) (c64_13 : Int32) : Option T_md_readsCondition := zlp (f_md_readsCondition_40 a70 f64_8) (b71, b72, c64_7, c64_9, c64_10, c64_11, c64_12, c64_13)
noncomputable def q_md_readsCondition (a70 : Nat → Int32) (a71 : Nat → Int32) (a72 : Nat → Int32) (f64_7 : Int32) (f64_8 : Int32) (f64_9 : Int32) (f64_10 : Int32) (f64_11 : Int32) (f64_12 : Int32) (f64_13 : Int32) : Option T_md_readsCondition :=
  zg (g_md_here (f64_8) (f64_7) a70) (
  zl (w_md_here (f64_8) (f64_7) a70) (fun v1 =>
  bif decide (v1 = 40) then
   zg (g_md_opens 13 0 0 (f64_7) a72 (f64_9)) (
   zl (w_md_opens 13 0 0 (f64_7) a72 (f64_9)) (fun v2 =>
   zl (a0_md_opens 13 0 0 (f64_7) a72 (f64_9)) (fun v3 =>
   zl (f0_md_opens 13 0 0 (f64_7) a72 (f64_9)) (fun v4 =>
   zl (f1_md_opens 13 0 0 (f64_7) a72 (f64_9)) (fun v5 =>
   zl (f2_md_opens 13 0 0 (f64_7) a72 (f64_9)) (fun v6 =>
   zl (f3_md_opens 13 0 0 (f64_7) a72 (f64_9)) (fun v7 =>
   bif !decide (v2 = 0) then
    l_md_readsCondition_40 a70 f64_8 a71 v3 v4 v5 (f64_10) v6 (f64_12) v7
   else
    some (0, a71, v3, v4, v5, f64_10, v6, f64_12, v7))))))))
  else
   zl (w_md_wrongAt 1 (f64_7)) (fun v8 =>
   zl (f0_md_wrongAt 1 (f64_7)) (fun v9 =>
   zg (decide (v8 = 0) || decide (v8 = 1)) (
   some (v8, a71, a72, f64_7, v9, f64_10, f64_11, f64_12, f64_13))))))
def P_md_readsCondition (Q : (Nat → Int32) → (Nat → Int32) → (Nat → Int32) → Int32 → Int32 → Int32 → Int32 → Int32 → Int32 → Int32 → Option (Int32 × (Nat → Int32) × (Nat → Int32) × Int32 × Int32 × Int32 × Int32 × Int32 × Int32)) : zSp := fun as g => match as with
  | [.ref a] => bif Nat.beq a 64 then zpe (Q (g.1 70) (g.1 71) (g.1 72) (g.2.1 64 7) (g.2.1 64 8) (g.2.1 64 9) (g.2.1 64 10) (g.2.1 64 11) (g.2.1 64 12) (g.2.1 64 13)) (fun t => (some (.int (t.1)), ((zua (zua g.1 71 t.2.1) 72 t.2.2.1), (zuf (zuf (zuf (zuf (zuf (zuf g.2.1 64 7 t.2.2.2.1) 64 9 t.2.2.2.2.1) 64 10 t.2.2.2.2.2.1) 64 11 t.2.2.2.2.2.2.1) 64 12 t.2.2.2.2.2.2.2.1) 64 13 t.2.2.2.2.2.2.2.2), g.2.2))) else none
  | _ => none
noncomputable abbrev S_md_readsCondition : zSp := P_md_readsCondition q_md_readsCondition
theorem hF15_md_readsCondition (F : Nat → Nat → Int32) (w0 : Int32) : (zuf F 64 9 w0) = (zuf (zuf (zuf (zuf (zuf (zuf F 64 7 (F 64 7)) 64 9 w0) 64 10 (F 64 10)) 64 11 (F 64 11)) 64 12 (F 64 12)) 64 13 (F 64 13)) := zufk_ix F [((64, 9), w0)] [((64, 7), none), ((64, 9), some 0), ((64, 10), none), ((64, 11), none), ((64, 12), none), ((64, 13), none)] rfl
theorem hA14_md_readsCondition (F : Nat → Nat → Int32) : F = (zua (zua F 71 (F 71)) 72 (F 72)) := zuak_ix F [] [(71, none), (72, none)] rfl
theorem hF13_md_readsCondition (F : Nat → Nat → Int32) (w0 w1 w2 w3 w4 w5 : Int32) : (zuf (zuf (zuf (zuf (zuf (zuf F 64 11 w0) 64 13 w1) 64 7 w2) 64 9 w3) 64 11 w4) 64 13 w5) = (zuf (zuf (zuf (zuf (zuf (zuf F 64 7 w2) 64 9 w3) 64 10 (F 64 10)) 64 11 w4) 64 12 (F 64 12)) 64 13 w5) := zufk_ix F [((64, 11), w0), ((64, 13), w1), ((64, 7), w2), ((64, 9), w3), ((64, 11), w4), ((64, 13), w5)] [((64, 7), some 2), ((64, 9), some 3), ((64, 10), none), ((64, 11), some 4), ((64, 12), none), ((64, 13), some 5)] rfl
theorem hA12_md_readsCondition (F : Nat → Nat → Int32) (w0 : Nat → Int32) : (zua F 72 w0) = (zua (zua F 71 (F 71)) 72 w0) := zuak_ix F [(72, w0)] [(71, none), (72, some 0)] rfl
theorem hF11_md_readsCondition (F : Nat → Nat → Int32) (w0 w1 w2 w3 w4 w5 w6 w7 w8 w9 w10 w11 : Int32) : (zuf (zuf (zuf (zuf (zuf (zuf (zuf (zuf (zuf (zuf (zuf (zuf F 64 7 w0) 64 9 w1) 64 10 w2) 64 11 w3) 64 12 w4) 64 13 w5) 64 7 w6) 64 9 w7) 64 10 w8) 64 11 w9) 64 12 w10) 64 13 w11) = (zuf (zuf (zuf (zuf (zuf (zuf F 64 7 w6) 64 9 w7) 64 10 w8) 64 11 w9) 64 12 w10) 64 13 w11) := zufk_ix F [((64, 7), w0), ((64, 9), w1), ((64, 10), w2), ((64, 11), w3), ((64, 12), w4), ((64, 13), w5), ((64, 7), w6), ((64, 9), w7), ((64, 10), w8), ((64, 11), w9), ((64, 12), w10), ((64, 13), w11)] [((64, 7), some 6), ((64, 9), some 7), ((64, 10), some 8), ((64, 11), some 9), ((64, 12), some 10), ((64, 13), some 11)] rfl
theorem hA10_md_readsCondition (F : Nat → Nat → Int32) (w0 w1 w2 w3 : Nat → Int32) : (zua (zua (zua (zua F 71 w0) 72 w1) 71 w2) 72 w3) = (zua (zua F 71 w2) 72 w3) := zuak_ix F [(71, w0), (72, w1), (71, w2), (72, w3)] [(71, some 2), (72, some 3)] rfl
theorem hF9_md_readsCondition (F : Nat → Nat → Int32) (w0 w1 w2 w3 w4 w5 w6 w7 w8 w9 : Int32) : (zuf (zuf (zuf (zuf (zuf (zuf (zuf (zuf (zuf (zuf F 64 7 w0) 64 9 w1) 64 10 w2) 64 11 w3) 64 12 w4) 64 13 w5) 64 7 w6) 64 9 w7) 64 11 w8) 64 13 w9) = (zuf (zuf (zuf (zuf (zuf (zuf F 64 7 w6) 64 9 w7) 64 10 w2) 64 11 w8) 64 12 w4) 64 13 w9) := zufk_ix F [((64, 7), w0), ((64, 9), w1), ((64, 10), w2), ((64, 11), w3), ((64, 12), w4), ((64, 13), w5), ((64, 7), w6), ((64, 9), w7), ((64, 11), w8), ((64, 13), w9)] [((64, 7), some 6), ((64, 9), some 7), ((64, 10), some 2), ((64, 11), some 8), ((64, 12), some 4), ((64, 13), some 9)] rfl
theorem hA8_md_readsCondition (F : Nat → Nat → Int32) (w0 w1 w2 : Nat → Int32) : (zua (zua (zua F 71 w0) 72 w1) 72 w2) = (zua (zua F 71 w0) 72 w2) := zuak_ix F [(71, w0), (72, w1), (72, w2)] [(71, some 0), (72, some 2)] rfl
theorem hF7_md_readsCondition (F : Nat → Nat → Int32) (w0 w1 w2 w3 w4 w5 w6 w7 w8 w9 : Int32) : (zuf (zuf (zuf (zuf (zuf (zuf (zuf (zuf (zuf (zuf F 64 7 w0) 64 9 w1) 64 10 w2) 64 11 w3) 64 12 w4) 64 13 w5) 64 13 w6) 64 13 w7) 64 11 w8) 64 7 w9) = (zuf (zuf (zuf (zuf (zuf (zuf F 64 7 w9) 64 9 w1) 64 10 w2) 64 11 w8) 64 12 w4) 64 13 w7) := zufk_ix F [((64, 7), w0), ((64, 9), w1), ((64, 10), w2), ((64, 11), w3), ((64, 12), w4), ((64, 13), w5), ((64, 13), w6), ((64, 13), w7), ((64, 11), w8), ((64, 7), w9)] [((64, 7), some 9), ((64, 9), some 1), ((64, 10), some 2), ((64, 11), some 8), ((64, 12), some 4), ((64, 13), some 7)] rfl
theorem hA6_md_readsCondition (F : Nat → Nat → Int32) (w0 w1 w2 : Nat → Int32) : (zua (zua (zua F 71 w0) 72 w1) 71 w2) = (zua (zua F 71 w2) 72 w1) := zuak_ix F [(71, w0), (72, w1), (71, w2)] [(71, some 2), (72, some 1)] rfl
theorem hF5_md_readsCondition (F : Nat → Nat → Int32) (w0 w1 w2 w3 w4 w5 w6 w7 w8 w9 w10 w11 w12 : Int32) : (zuf (zuf (zuf (zuf (zuf (zuf (zuf (zuf (zuf (zuf (zuf (zuf (zuf F 64 7 w0) 64 9 w1) 64 10 w2) 64 11 w3) 64 12 w4) 64 13 w5) 64 13 w6) 64 13 w7) 64 11 w8) 64 7 w9) 64 11 w10) 64 12 w11) 64 13 w12) = (zuf (zuf (zuf (zuf (zuf (zuf F 64 7 w9) 64 9 w1) 64 10 w2) 64 11 w10) 64 12 w11) 64 13 w12) := zufk_ix F [((64, 7), w0), ((64, 9), w1), ((64, 10), w2), ((64, 11), w3), ((64, 12), w4), ((64, 13), w5), ((64, 13), w6), ((64, 13), w7), ((64, 11), w8), ((64, 7), w9), ((64, 11), w10), ((64, 12), w11), ((64, 13), w12)] [((64, 7), some 9), ((64, 9), some 1), ((64, 10), some 2), ((64, 11), some 10), ((64, 12), some 11), ((64, 13), some 12)] rfl
theorem hA4_md_readsCondition (F : Nat → Nat → Int32) (w0 w1 w2 w3 : Nat → Int32) : (zua (zua (zua (zua F 71 w0) 72 w1) 71 w2) 71 w3) = (zua (zua F 71 w3) 72 w1) := zuak_ix F [(71, w0), (72, w1), (71, w2), (71, w3)] [(71, some 3), (72, some 1)] rfl
theorem hF3_md_readsCondition (F : Nat → Nat → Int32) (w0 w1 w2 w3 w4 w5 w6 : Int32) : (zuf (zuf (zuf (zuf (zuf (zuf (zuf F 64 7 w0) 64 9 w1) 64 10 w2) 64 11 w3) 64 12 w4) 64 13 w5) 64 9 w6) = (zuf (zuf (zuf (zuf (zuf (zuf F 64 7 w0) 64 9 w6) 64 10 w2) 64 11 w3) 64 12 w4) 64 13 w5) := zufk_ix F [((64, 7), w0), ((64, 9), w1), ((64, 10), w2), ((64, 11), w3), ((64, 12), w4), ((64, 13), w5), ((64, 9), w6)] [((64, 7), some 0), ((64, 9), some 6), ((64, 10), some 2), ((64, 11), some 3), ((64, 12), some 4), ((64, 13), some 5)] rfl
theorem hA2_md_readsCondition (F : Nat → Nat → Int32) (w0 w1 : Nat → Int32) : (zua (zua F 71 w0) 72 w1) = (zua (zua F 71 w0) 72 w1) := zuak_ix F [(71, w0), (72, w1)] [(71, some 0), (72, some 1)] rfl
theorem hF1_md_readsCondition (F : Nat → Nat → Int32) (w0 w1 w2 w3 w4 w5 w6 w7 w8 w9 : Int32) : (zuf (zuf (zuf (zuf (zuf (zuf (zuf (zuf (zuf (zuf F 64 7 w0) 64 9 w1) 64 10 w2) 64 11 w3) 64 12 w4) 64 13 w5) 64 13 w6) 64 7 w7) 64 12 w8) 64 13 w9) = (zuf (zuf (zuf (zuf (zuf (zuf F 64 7 w7) 64 9 w1) 64 10 w2) 64 11 w3) 64 12 w8) 64 13 w9) := zufk_ix F [((64, 7), w0), ((64, 9), w1), ((64, 10), w2), ((64, 11), w3), ((64, 12), w4), ((64, 13), w5), ((64, 13), w6), ((64, 7), w7), ((64, 12), w8), ((64, 13), w9)] [((64, 7), some 7), ((64, 9), some 1), ((64, 10), some 2), ((64, 11), some 3), ((64, 12), some 8), ((64, 13), some 9)] rfl
theorem hA0_md_readsCondition (F : Nat → Nat → Int32) (w0 w1 w2 w3 w4 : Nat → Int32) : (zua (zua (zua (zua (zua F 71 w0) 72 w1) 71 w2) 72 w3) 71 w4) = (zua (zua F 71 w4) 72 w3) := zuak_ix F [(71, w0), (72, w1), (71, w2), (72, w3), (71, w4)] [(71, some 4), (72, some 3)] rfl
def O_md_readsCondition (ar fi : Nat → Nat → Int32) (m1 : Nat) (m2 : Nat) (m3 : Nat) (m4 : Nat) (m5 : Nat) (t : T_md_readsCondition) : zO2 := match t with
  | (t0, t1, t2, t3, t4, t5, t6, t7, t8) => (some (.int (t0)), ((zua (zua ar 71 t1) 72 t2), (zuf (zuf (zuf (zuf (zuf (zuf fi 64 7 t3) 64 9 t4) 64 10 t5) 64 11 t6) 64 12 t7) 64 13 t8), (m1, m2, m3, m4, m5)))
def M_md_readsCondition_92 (X : Nat × (Nat → Int32)) (E : zTE) (ar fi : Nat → Nat → Int32) (m1 : Nat) (m2 : Nat) (m3 : Nat) (m4 : Nat) (m5 : Nat) (b72 : Nat → Int32) (c64_9 : Int32) (c64_10 : Int32) (o : zO2) (s : U_md_readsCondition_92) : Prop := match s with
  | (b71, c64_7, c64_11, c64_12, c64_13) => zR2 X zFT E zc_176 92 [.ref 64] [] ((zua (zua ar 71 b71) 72 b72), (zuf (zuf (zuf (zuf (zuf (zuf fi 64 7 c64_7) 64 9 c64_9) 64 10 c64_10) 64 11 c64_11) 64 12 c64_12) 64 13 c64_13), (m1, m2, m3, m4, m5)) o
def M_md_readsCondition_40 (X : Nat × (Nat → Int32)) (E : zTE) (ar fi : Nat → Nat → Int32) (m1 : Nat) (m2 : Nat) (m3 : Nat) (m4 : Nat) (m5 : Nat) (o : zO2) (s : U_md_readsCondition_40) : Prop := match s with
  | (b71, b72, c64_7, c64_9, c64_10, c64_11, c64_12, c64_13) => zR2 X zFT E zc_176 40 [.ref 64] [] ((zua (zua ar 71 b71) 72 b72), (zuf (zuf (zuf (zuf (zuf (zuf fi 64 7 c64_7) 64 9 c64_9) 64 10 c64_10) 64 11 c64_11) 64 12 c64_12) 64 13 c64_13), (m1, m2, m3, m4, m5)) o
set_option maxRecDepth 1000000 in
theorem t92_md_readsCondition {X : Nat × (Nat → Int32)} {ar fi : Nat → Nat → Int32} {m1 m2 m3 m4 m5 : Nat} {b71 : Nat → Int32} {b72 : Nat → Int32} {c64_7 : Int32} {c64_9 : Int32} {c64_10 : Int32} {c64_11 : Int32} {c64_12 : Int32} {c64_13 : Int32} {G_md_here : Int32 → Int32 → (Nat → Int32) → Bool} {W_md_here : Int32 → Int32 → (Nat → Int32) → Int32} {W_md_wrongAt : Int32 → Int32 → Int32} {F0_md_wrongAt : Int32 → Int32 → Int32} {G_md_opens : Int32 → Int32 → Int32 → Int32 → (Nat → Int32) → Int32 → Bool} {W_md_opens : Int32 → Int32 → Int32 → Int32 → (Nat → Int32) → Int32 → Int32} {A0_md_opens : Int32 → Int32 → Int32 → Int32 → (Nat → Int32) → Int32 → Nat → Int32} {F0_md_opens : Int32 → Int32 → Int32 → Int32 → (Nat → Int32) → Int32 → Int32} {F1_md_opens : Int32 → Int32 → Int32 → Int32 → (Nat → Int32) → Int32 → Int32} {F2_md_opens : Int32 → Int32 → Int32 → Int32 → (Nat → Int32) → Int32 → Int32} {F3_md_opens : Int32 → Int32 → Int32 → Int32 → (Nat → Int32) → Int32 → Int32} {Q_md_readsCompared : (Nat → Int32) → (Nat → Int32) → (Nat → Int32) → Int32 → Int32 → Int32 → Int32 → Int32 → Int32 → Int32 → Option (Int32 × (Nat → Int32) × (Nat → Int32) × Int32 × Int32 × Int32 × Int32 × Int32 × Int32)} {Q_md_lands : Int32 → (Nat → Int32) → (Nat → Int32) → Int32 → Int32 → Option ((Nat → Int32) × Int32)} {Q_md_endsPiece : (Nat → Int32) → (Nat → Int32) → Int32 → Int32 → Int32 → Option ((Nat → Int32) × Int32 × Int32 × Int32)} {G_md_jumps : Int32 → Int32 → Int32 → (Nat → Int32) → (Nat → Int32) → Int32 → Bool} {A0_md_jumps : Int32 → Int32 → Int32 → (Nat → Int32) → (Nat → Int32) → Int32 → Nat → Int32} {A1_md_jumps : Int32 → Int32 → Int32 → (Nat → Int32) → (Nat → Int32) → Int32 → Nat → Int32} {F0_md_jumps : Int32 → Int32 → Int32 → (Nat → Int32) → (Nat → Int32) → Int32 → Int32} {F1_md_jumps : Int32 → Int32 → Int32 → (Nat → Int32) → (Nat → Int32) → Int32 → Int32} {F2_md_jumps : Int32 → Int32 → Int32 → (Nat → Int32) → (Nat → Int32) → Int32 → Int32} : zseg X zFT (zEx 158 (P_md_here G_md_here W_md_here) (zEx 160 (P_md_wrongAt W_md_wrongAt F0_md_wrongAt) (zEx 164 (P_md_opens G_md_opens W_md_opens A0_md_opens F0_md_opens F1_md_opens F2_md_opens F3_md_opens) (zEx 175 (P_md_readsCompared Q_md_readsCompared) (zEx 173 (P_md_lands Q_md_lands) (zEx 172 (P_md_endsPiece Q_md_endsPiece) (zEx 174 (P_md_jumps G_md_jumps A0_md_jumps A1_md_jumps F0_md_jumps F1_md_jumps F2_md_jumps) zE0))))))) zc_176 (fun p => Nat.beq p 40 || Nat.beq p 92) 400 92 [.ref 64] [] ((zua (zua ar 71 b71) 72 b72), (zuf (zuf (zuf (zuf (zuf (zuf fi 64 7 c64_7) 64 9 c64_9) 64 10 c64_10) 64 11 c64_11) 64 12 c64_12) 64 13 c64_13), (m1, m2, m3, m4, m5)) = (
  zg (G_md_here (fi 64 8) c64_7 (ar 70)) (
  zl (W_md_here (fi 64 8) c64_7 (ar 70)) (fun v39 =>
  bif !decide (v39 = 41) then
   zg (G_md_here (fi 64 8) c64_7 (ar 70)) (
   zl (W_md_here (fi 64 8) c64_7 (ar 70)) (fun v40 =>
   bif decide (v40 = 38) then
    zg (G_md_here (fi 64 8) c64_7 (ar 70)) (
    zl (W_md_here (fi 64 8) c64_7 (ar 70)) (fun v41 =>
    bif !decide (v41 = 124) then
     zl (Q_md_lands 0 b71 b72 c64_12 c64_13) (fun v42 => zg v42.isSome (
     zg (G_md_here (fi 64 8) c64_7 (ar 70)) (
     zl (W_md_here (fi 64 8) c64_7 (ar 70)) (fun v43 =>
     bif !decide (v43 = 38) then
      zg (G_md_jumps 12 (((zgt v42).2)) c64_12 (((zgt v42).1)) b72 c64_7) (
      zl (A0_md_jumps 12 (((zgt v42).2)) c64_12 (((zgt v42).1)) b72 c64_7) (fun v44 =>
      zl (A1_md_jumps 12 (((zgt v42).2)) c64_12 (((zgt v42).1)) b72 c64_7) (fun v45 =>
      zl (F0_md_jumps 12 (((zgt v42).2)) c64_12 (((zgt v42).1)) b72 c64_7) (fun v46 =>
      zl (F1_md_jumps 12 (((zgt v42).2)) c64_12 (((zgt v42).1)) b72 c64_7) (fun v47 =>
      zl (F2_md_jumps 12 (((zgt v42).2)) c64_12 (((zgt v42).1)) b72 c64_7) (fun v48 =>
      some (.inl (40, [.ref 64], [], ((zua (zua (zua (zua (zua ar 71 b71) 72 b72) 71 (((zgt v42).1))) 72 v44) 71 v45), (zuf (zuf (zuf (zuf (zuf (zuf (zuf (zuf (zuf (zuf fi 64 7 c64_7) 64 9 c64_9) 64 10 c64_10) 64 11 c64_11) 64 12 c64_12) 64 13 c64_13) 64 13 (((zgt v42).2))) 64 7 v46) 64 12 v47) 64 13 v48), (m1, m2, m3, m4, m5))))))))))
     else
      zg (G_md_jumps 11 (((zgt v42).2)) c64_12 (((zgt v42).1)) b72 c64_7) (
      zl (A0_md_jumps 11 (((zgt v42).2)) c64_12 (((zgt v42).1)) b72 c64_7) (fun v49 =>
      zl (A1_md_jumps 11 (((zgt v42).2)) c64_12 (((zgt v42).1)) b72 c64_7) (fun v50 =>
      zl (F0_md_jumps 11 (((zgt v42).2)) c64_12 (((zgt v42).1)) b72 c64_7) (fun v51 =>
      zl (F1_md_jumps 11 (((zgt v42).2)) c64_12 (((zgt v42).1)) b72 c64_7) (fun v52 =>
      zl (F2_md_jumps 11 (((zgt v42).2)) c64_12 (((zgt v42).1)) b72 c64_7) (fun v53 =>
      some (.inl (40, [.ref 64], [], ((zua (zua (zua (zua (zua ar 71 b71) 72 b72) 71 (((zgt v42).1))) 72 v49) 71 v50), (zuf (zuf (zuf (zuf (zuf (zuf (zuf (zuf (zuf (zuf fi 64 7 c64_7) 64 9 c64_9) 64 10 c64_10) 64 11 c64_11) 64 12 c64_12) 64 13 c64_13) 64 13 (((zgt v42).2))) 64 7 v51) 64 12 v52) 64 13 v53), (m1, m2, m3, m4, m5))))))))))))))
    else
     zl (Q_md_lands 1 b71 b72 c64_12 c64_13) (fun v54 => zg v54.isSome (
     zg (G_md_here (fi 64 8) c64_7 (ar 70)) (
     zl (W_md_here (fi 64 8) c64_7 (ar 70)) (fun v55 =>
     bif !decide (v55 = 38) then
      zg (G_md_jumps 12 (((zgt v54).2)) c64_12 (((zgt v54).1)) b72 c64_7) (
      zl (A0_md_jumps 12 (((zgt v54).2)) c64_12 (((zgt v54).1)) b72 c64_7) (fun v56 =>
      zl (A1_md_jumps 12 (((zgt v54).2)) c64_12 (((zgt v54).1)) b72 c64_7) (fun v57 =>
      zl (F0_md_jumps 12 (((zgt v54).2)) c64_12 (((zgt v54).1)) b72 c64_7) (fun v58 =>
      zl (F1_md_jumps 12 (((zgt v54).2)) c64_12 (((zgt v54).1)) b72 c64_7) (fun v59 =>
      zl (F2_md_jumps 12 (((zgt v54).2)) c64_12 (((zgt v54).1)) b72 c64_7) (fun v60 =>
      some (.inl (40, [.ref 64], [], ((zua (zua (zua (zua (zua ar 71 b71) 72 b72) 71 (((zgt v54).1))) 72 v56) 71 v57), (zuf (zuf (zuf (zuf (zuf (zuf (zuf (zuf (zuf (zuf fi 64 7 c64_7) 64 9 c64_9) 64 10 c64_10) 64 11 c64_11) 64 12 c64_12) 64 13 c64_13) 64 13 (((zgt v54).2))) 64 7 v58) 64 12 v59) 64 13 v60), (m1, m2, m3, m4, m5))))))))))
     else
      zg (G_md_jumps 11 (((zgt v54).2)) c64_12 (((zgt v54).1)) b72 c64_7) (
      zl (A0_md_jumps 11 (((zgt v54).2)) c64_12 (((zgt v54).1)) b72 c64_7) (fun v61 =>
      zl (A1_md_jumps 11 (((zgt v54).2)) c64_12 (((zgt v54).1)) b72 c64_7) (fun v62 =>
      zl (F0_md_jumps 11 (((zgt v54).2)) c64_12 (((zgt v54).1)) b72 c64_7) (fun v63 =>
      zl (F1_md_jumps 11 (((zgt v54).2)) c64_12 (((zgt v54).1)) b72 c64_7) (fun v64 =>
      zl (F2_md_jumps 11 (((zgt v54).2)) c64_12 (((zgt v54).1)) b72 c64_7) (fun v65 =>
      some (.inl (40, [.ref 64], [], ((zua (zua (zua (zua (zua ar 71 b71) 72 b72) 71 (((zgt v54).1))) 72 v61) 71 v62), (zuf (zuf (zuf (zuf (zuf (zuf (zuf (zuf (zuf (zuf fi 64 7 c64_7) 64 9 c64_9) 64 10 c64_10) 64 11 c64_11) 64 12 c64_12) 64 13 c64_13) 64 13 (((zgt v54).2))) 64 7 v63) 64 12 v64) 64 13 v65), (m1, m2, m3, m4, m5))))))))))))))))
   else
    zg (G_md_here (fi 64 8) c64_7 (ar 70)) (
    zl (W_md_here (fi 64 8) c64_7 (ar 70)) (fun v66 =>
    bif decide (v66 = 124) then
     zg (G_md_here (fi 64 8) c64_7 (ar 70)) (
     zl (W_md_here (fi 64 8) c64_7 (ar 70)) (fun v67 =>
     bif !decide (v67 = 124) then
      zl (Q_md_lands 0 b71 b72 c64_12 c64_13) (fun v68 => zg v68.isSome (
      zg (G_md_here (fi 64 8) c64_7 (ar 70)) (
      zl (W_md_here (fi 64 8) c64_7 (ar 70)) (fun v69 =>
      bif !decide (v69 = 38) then
       zg (G_md_jumps 12 (((zgt v68).2)) c64_12 (((zgt v68).1)) b72 c64_7) (
       zl (A0_md_jumps 12 (((zgt v68).2)) c64_12 (((zgt v68).1)) b72 c64_7) (fun v70 =>
       zl (A1_md_jumps 12 (((zgt v68).2)) c64_12 (((zgt v68).1)) b72 c64_7) (fun v71 =>
       zl (F0_md_jumps 12 (((zgt v68).2)) c64_12 (((zgt v68).1)) b72 c64_7) (fun v72 =>
       zl (F1_md_jumps 12 (((zgt v68).2)) c64_12 (((zgt v68).1)) b72 c64_7) (fun v73 =>
       zl (F2_md_jumps 12 (((zgt v68).2)) c64_12 (((zgt v68).1)) b72 c64_7) (fun v74 =>
       some (.inl (40, [.ref 64], [], ((zua (zua (zua (zua (zua ar 71 b71) 72 b72) 71 (((zgt v68).1))) 72 v70) 71 v71), (zuf (zuf (zuf (zuf (zuf (zuf (zuf (zuf (zuf (zuf fi 64 7 c64_7) 64 9 c64_9) 64 10 c64_10) 64 11 c64_11) 64 12 c64_12) 64 13 c64_13) 64 13 (((zgt v68).2))) 64 7 v72) 64 12 v73) 64 13 v74), (m1, m2, m3, m4, m5))))))))))
      else
       zg (G_md_jumps 11 (((zgt v68).2)) c64_12 (((zgt v68).1)) b72 c64_7) (
       zl (A0_md_jumps 11 (((zgt v68).2)) c64_12 (((zgt v68).1)) b72 c64_7) (fun v75 =>
       zl (A1_md_jumps 11 (((zgt v68).2)) c64_12 (((zgt v68).1)) b72 c64_7) (fun v76 =>
       zl (F0_md_jumps 11 (((zgt v68).2)) c64_12 (((zgt v68).1)) b72 c64_7) (fun v77 =>
       zl (F1_md_jumps 11 (((zgt v68).2)) c64_12 (((zgt v68).1)) b72 c64_7) (fun v78 =>
       zl (F2_md_jumps 11 (((zgt v68).2)) c64_12 (((zgt v68).1)) b72 c64_7) (fun v79 =>
       some (.inl (40, [.ref 64], [], ((zua (zua (zua (zua (zua ar 71 b71) 72 b72) 71 (((zgt v68).1))) 72 v75) 71 v76), (zuf (zuf (zuf (zuf (zuf (zuf (zuf (zuf (zuf (zuf fi 64 7 c64_7) 64 9 c64_9) 64 10 c64_10) 64 11 c64_11) 64 12 c64_12) 64 13 c64_13) 64 13 (((zgt v68).2))) 64 7 v77) 64 12 v78) 64 13 v79), (m1, m2, m3, m4, m5))))))))))))))
     else
      zl (Q_md_lands 1 b71 b72 c64_12 c64_13) (fun v80 => zg v80.isSome (
      zg (G_md_here (fi 64 8) c64_7 (ar 70)) (
      zl (W_md_here (fi 64 8) c64_7 (ar 70)) (fun v81 =>
      bif !decide (v81 = 38) then
       zg (G_md_jumps 12 (((zgt v80).2)) c64_12 (((zgt v80).1)) b72 c64_7) (
       zl (A0_md_jumps 12 (((zgt v80).2)) c64_12 (((zgt v80).1)) b72 c64_7) (fun v82 =>
       zl (A1_md_jumps 12 (((zgt v80).2)) c64_12 (((zgt v80).1)) b72 c64_7) (fun v83 =>
       zl (F0_md_jumps 12 (((zgt v80).2)) c64_12 (((zgt v80).1)) b72 c64_7) (fun v84 =>
       zl (F1_md_jumps 12 (((zgt v80).2)) c64_12 (((zgt v80).1)) b72 c64_7) (fun v85 =>
       zl (F2_md_jumps 12 (((zgt v80).2)) c64_12 (((zgt v80).1)) b72 c64_7) (fun v86 =>
       some (.inl (40, [.ref 64], [], ((zua (zua (zua (zua (zua ar 71 b71) 72 b72) 71 (((zgt v80).1))) 72 v82) 71 v83), (zuf (zuf (zuf (zuf (zuf (zuf (zuf (zuf (zuf (zuf fi 64 7 c64_7) 64 9 c64_9) 64 10 c64_10) 64 11 c64_11) 64 12 c64_12) 64 13 c64_13) 64 13 (((zgt v80).2))) 64 7 v84) 64 12 v85) 64 13 v86), (m1, m2, m3, m4, m5))))))))))
      else
       zg (G_md_jumps 11 (((zgt v80).2)) c64_12 (((zgt v80).1)) b72 c64_7) (
       zl (A0_md_jumps 11 (((zgt v80).2)) c64_12 (((zgt v80).1)) b72 c64_7) (fun v87 =>
       zl (A1_md_jumps 11 (((zgt v80).2)) c64_12 (((zgt v80).1)) b72 c64_7) (fun v88 =>
       zl (F0_md_jumps 11 (((zgt v80).2)) c64_12 (((zgt v80).1)) b72 c64_7) (fun v89 =>
       zl (F1_md_jumps 11 (((zgt v80).2)) c64_12 (((zgt v80).1)) b72 c64_7) (fun v90 =>
       zl (F2_md_jumps 11 (((zgt v80).2)) c64_12 (((zgt v80).1)) b72 c64_7) (fun v91 =>
       some (.inl (40, [.ref 64], [], ((zua (zua (zua (zua (zua ar 71 b71) 72 b72) 71 (((zgt v80).1))) 72 v87) 71 v88), (zuf (zuf (zuf (zuf (zuf (zuf (zuf (zuf (zuf (zuf fi 64 7 c64_7) 64 9 c64_9) 64 10 c64_10) 64 11 c64_11) 64 12 c64_12) 64 13 c64_13) 64 13 (((zgt v80).2))) 64 7 v89) 64 12 v90) 64 13 v91), (m1, m2, m3, m4, m5))))))))))))))))
    else
     zl (W_md_wrongAt 1 c64_7) (fun v92 =>
     zl (F0_md_wrongAt 1 c64_7) (fun v93 =>
     zg (Nat.beq 1 0 || (decide (v92 = 0) || decide (v92 = 1))) (
     some (.inr (some (.int v92), ((zua (zua ar 71 b71) 72 b72), (zuf (zuf (zuf (zuf (zuf (zuf (zuf fi 64 7 c64_7) 64 9 c64_9) 64 10 c64_10) 64 11 c64_11) 64 12 c64_12) 64 13 c64_13) 64 9 v93), (m1, m2, m3, m4, m5)))))))))))
  else
   zl (Q_md_lands 1 b71 b72 c64_12 c64_13) (fun v94 => zg v94.isSome (
   bif !decide ((((zgt v94).2)) - 1 = 0) then
    zl (Q_md_endsPiece (((zgt v94).1)) b72 (c64_11 - 1) c64_12 ((((zgt v94).2)) - 1)) (fun v95 => zg v95.isSome (
    some (.inl (92, [.ref 64], [], ((zua (zua (zua (zua ar 71 b71) 72 b72) 71 (((zgt v94).1))) 71 (((zgt v95).1))), (zuf (zuf (zuf (zuf (zuf (zuf (zuf (zuf (zuf (zuf (zuf (zuf (zuf fi 64 7 c64_7) 64 9 c64_9) 64 10 c64_10) 64 11 c64_11) 64 12 c64_12) 64 13 c64_13) 64 13 (((zgt v94).2))) 64 13 ((((zgt v94).2)) - 1)) 64 11 (c64_11 - 1)) 64 7 (c64_7 + 1)) 64 11 (((zgt v95).2.1))) 64 12 (((zgt v95).2.2.1))) 64 13 (((zgt v95).2.2.2))), (m1, m2, m3, m4, m5))))))
   else
    some (.inr (some (.int 1), ((zua (zua (zua ar 71 b71) 72 b72) 71 (((zgt v94).1))), (zuf (zuf (zuf (zuf (zuf (zuf (zuf (zuf (zuf (zuf fi 64 7 c64_7) 64 9 c64_9) 64 10 c64_10) 64 11 c64_11) 64 12 c64_12) 64 13 c64_13) 64 13 (((zgt v94).2))) 64 13 ((((zgt v94).2)) - 1)) 64 11 (c64_11 - 1)) 64 7 (c64_7 + 1)), (m1, m2, m3, m4, m5)))))))) : Option ((Nat × List Value × List Value × zH2) ⊕ zO2)) := by with_unfolding_all rfl
set_option maxRecDepth 20000 in
theorem k_md_readsCondition_92 {X : Nat × (Nat → Int32)} {ar fi : Nat → Nat → Int32} {m1 m2 m3 m4 m5 : Nat} {b72 : Nat → Int32} {c64_9 : Int32} {c64_10 : Int32} {o : zO2} : ∀ (s : U_md_readsCondition_92) (q : U_md_readsCondition_92 ⊕ (U_md_readsCondition_40 ⊕ T_md_readsCondition)), f_md_readsCondition_92 (ar 70) (fi 64 8) b72 c64_9 c64_10 s = some q → zq (M_md_readsCondition_92 X (zEx 158 S_md_here (zEx 160 S_md_wrongAt (zEx 164 S_md_opens (zEx 175 S_md_readsCompared (zEx 173 S_md_lands (zEx 172 S_md_endsPiece (zEx 174 S_md_jumps zE0))))))) ar fi m1 m2 m3 m4 m5 b72 c64_9 c64_10 o) (zq (M_md_readsCondition_40 X (zEx 158 S_md_here (zEx 160 S_md_wrongAt (zEx 164 S_md_opens (zEx 175 S_md_readsCompared (zEx 173 S_md_lands (zEx 172 S_md_endsPiece (zEx 174 S_md_jumps zE0))))))) ar fi m1 m2 m3 m4 m5 o) (fun t => O_md_readsCondition ar fi m1 m2 m3 m4 m5 t = o)) q → M_md_readsCondition_92 X (zEx 158 S_md_here (zEx 160 S_md_wrongAt (zEx 164 S_md_opens (zEx 175 S_md_readsCompared (zEx 173 S_md_lands (zEx 172 S_md_endsPiece (zEx 174 S_md_jumps zE0))))))) ar fi m1 m2 m3 m4 m5 b72 c64_9 c64_10 o s := by
  intro s q h hq
  obtain ⟨b71, c64_7, c64_11, c64_12, c64_13⟩ := s
  have h : b_md_readsCondition_92 (ar 70) (fi 64 8) b72 c64_9 c64_10 b71 c64_7 c64_11 c64_12 c64_13 = some q := h
  unfold b_md_readsCondition_92 at h
  show zR2 X zFT (zEx 158 S_md_here (zEx 160 S_md_wrongAt (zEx 164 S_md_opens (zEx 175 S_md_readsCompared (zEx 173 S_md_lands (zEx 172 S_md_endsPiece (zEx 174 S_md_jumps zE0))))))) zc_176 92 [.ref 64] [] ((zua (zua ar 71 b71) 72 b72), (zuf (zuf (zuf (zuf (zuf (zuf fi 64 7 c64_7) 64 9 c64_9) 64 10 c64_10) 64 11 c64_11) 64 12 c64_12) 64 13 c64_13), (m1, m2, m3, m4, m5)) o
  refine zT_seg t92_md_readsCondition ?_
  obtain ⟨TT, hTT⟩ : ∃ T, T = zT X zFT (zEx 158 S_md_here (zEx 160 S_md_wrongAt (zEx 164 S_md_opens (zEx 175 S_md_readsCompared (zEx 173 S_md_lands (zEx 172 S_md_endsPiece (zEx 174 S_md_jumps zE0))))))) zc_176 o := ⟨_, rfl⟩
  rw [← hTT]
  refine zg_el h (fun hg h => zU_g hTT hg ?_)
  refine zl_el h (fun h => zU_l hTT ?_)
  refine zb_el h (fun hb h => zU_t hTT hb ?_) (fun hb h => zU_f hTT hb ?_)
  · refine zg_el h (fun hg h => zU_g hTT hg ?_)
    refine zl_el h (fun h => zU_l hTT ?_)
    refine zb_el h (fun hb h => zU_t hTT hb ?_) (fun hb h => zU_f hTT hb ?_)
    · refine zg_el h (fun hg h => zU_g hTT hg ?_)
      refine zl_el h (fun h => zU_l hTT ?_)
      refine zb_el h (fun hb h => zU_t hTT hb ?_) (fun hb h => zU_f hTT hb ?_)
      · refine zbd_el h (fun v42 hv h => zU_c hTT hv ?_)
        refine zg_el h (fun hg h => zU_g hTT hg ?_)
        refine zl_el h (fun h => zU_l hTT ?_)
        refine zb_el h (fun hb h => zU_t hTT hb ?_) (fun hb h => zU_f hTT hb ?_)
        · refine zg_el h (fun hg h => zU_g hTT hg ?_)
          refine zl_el h (fun h => zU_l hTT ?_)
          refine zl_el h (fun h => zU_l hTT ?_)
          refine zl_el h (fun h => zU_l hTT ?_)
          refine zl_el h (fun h => zU_l hTT ?_)
          refine zl_el h (fun h => zU_l hTT ?_)
          rw [hTT]
          have hz := zsi h hq
          refine zR2_hp ?_ ?_ hz
          · first | with_reducible rfl | exact hA0_md_readsCondition _ _ _ _ _ _
          · first | with_reducible rfl | exact hF1_md_readsCondition _ _ _ _ _ _ _ _ _ _ _
        · refine zg_el h (fun hg h => zU_g hTT hg ?_)
          refine zl_el h (fun h => zU_l hTT ?_)
          refine zl_el h (fun h => zU_l hTT ?_)
          refine zl_el h (fun h => zU_l hTT ?_)
          refine zl_el h (fun h => zU_l hTT ?_)
          refine zl_el h (fun h => zU_l hTT ?_)
          rw [hTT]
          have hz := zsi h hq
          refine zR2_hp ?_ ?_ hz
          · first | with_reducible rfl | exact hA0_md_readsCondition _ _ _ _ _ _
          · first | with_reducible rfl | exact hF1_md_readsCondition _ _ _ _ _ _ _ _ _ _ _
      · refine zbd_el h (fun v54 hv h => zU_c hTT hv ?_)
        refine zg_el h (fun hg h => zU_g hTT hg ?_)
        refine zl_el h (fun h => zU_l hTT ?_)
        refine zb_el h (fun hb h => zU_t hTT hb ?_) (fun hb h => zU_f hTT hb ?_)
        · refine zg_el h (fun hg h => zU_g hTT hg ?_)
          refine zl_el h (fun h => zU_l hTT ?_)
          refine zl_el h (fun h => zU_l hTT ?_)
          refine zl_el h (fun h => zU_l hTT ?_)
          refine zl_el h (fun h => zU_l hTT ?_)
          refine zl_el h (fun h => zU_l hTT ?_)
          rw [hTT]
          have hz := zsi h hq
          refine zR2_hp ?_ ?_ hz
          · first | with_reducible rfl | exact hA0_md_readsCondition _ _ _ _ _ _
          · first | with_reducible rfl | exact hF1_md_readsCondition _ _ _ _ _ _ _ _ _ _ _
        · refine zg_el h (fun hg h => zU_g hTT hg ?_)
          refine zl_el h (fun h => zU_l hTT ?_)
          refine zl_el h (fun h => zU_l hTT ?_)
          refine zl_el h (fun h => zU_l hTT ?_)
          refine zl_el h (fun h => zU_l hTT ?_)
          refine zl_el h (fun h => zU_l hTT ?_)
          rw [hTT]
          have hz := zsi h hq
          refine zR2_hp ?_ ?_ hz
          · first | with_reducible rfl | exact hA0_md_readsCondition _ _ _ _ _ _
          · first | with_reducible rfl | exact hF1_md_readsCondition _ _ _ _ _ _ _ _ _ _ _
    · refine zg_el h (fun hg h => zU_g hTT hg ?_)
      refine zl_el h (fun h => zU_l hTT ?_)
      refine zb_el h (fun hb h => zU_t hTT hb ?_) (fun hb h => zU_f hTT hb ?_)
      · refine zg_el h (fun hg h => zU_g hTT hg ?_)
        refine zl_el h (fun h => zU_l hTT ?_)
        refine zb_el h (fun hb h => zU_t hTT hb ?_) (fun hb h => zU_f hTT hb ?_)
        · refine zbd_el h (fun v68 hv h => zU_c hTT hv ?_)
          refine zg_el h (fun hg h => zU_g hTT hg ?_)
          refine zl_el h (fun h => zU_l hTT ?_)
          refine zb_el h (fun hb h => zU_t hTT hb ?_) (fun hb h => zU_f hTT hb ?_)
          · refine zg_el h (fun hg h => zU_g hTT hg ?_)
            refine zl_el h (fun h => zU_l hTT ?_)
            refine zl_el h (fun h => zU_l hTT ?_)
            refine zl_el h (fun h => zU_l hTT ?_)
            refine zl_el h (fun h => zU_l hTT ?_)
            refine zl_el h (fun h => zU_l hTT ?_)
            rw [hTT]
            have hz := zsi h hq
            refine zR2_hp ?_ ?_ hz
            · first | with_reducible rfl | exact hA0_md_readsCondition _ _ _ _ _ _
            · first | with_reducible rfl | exact hF1_md_readsCondition _ _ _ _ _ _ _ _ _ _ _
          · refine zg_el h (fun hg h => zU_g hTT hg ?_)
            refine zl_el h (fun h => zU_l hTT ?_)
            refine zl_el h (fun h => zU_l hTT ?_)
            refine zl_el h (fun h => zU_l hTT ?_)
            refine zl_el h (fun h => zU_l hTT ?_)
            refine zl_el h (fun h => zU_l hTT ?_)
            rw [hTT]
            have hz := zsi h hq
            refine zR2_hp ?_ ?_ hz
            · first | with_reducible rfl | exact hA0_md_readsCondition _ _ _ _ _ _
            · first | with_reducible rfl | exact hF1_md_readsCondition _ _ _ _ _ _ _ _ _ _ _
        · refine zbd_el h (fun v80 hv h => zU_c hTT hv ?_)
          refine zg_el h (fun hg h => zU_g hTT hg ?_)
          refine zl_el h (fun h => zU_l hTT ?_)
          refine zb_el h (fun hb h => zU_t hTT hb ?_) (fun hb h => zU_f hTT hb ?_)
          · refine zg_el h (fun hg h => zU_g hTT hg ?_)
            refine zl_el h (fun h => zU_l hTT ?_)
            refine zl_el h (fun h => zU_l hTT ?_)
            refine zl_el h (fun h => zU_l hTT ?_)
            refine zl_el h (fun h => zU_l hTT ?_)
            refine zl_el h (fun h => zU_l hTT ?_)
            rw [hTT]
            have hz := zsi h hq
            refine zR2_hp ?_ ?_ hz
            · first | with_reducible rfl | exact hA0_md_readsCondition _ _ _ _ _ _
            · first | with_reducible rfl | exact hF1_md_readsCondition _ _ _ _ _ _ _ _ _ _ _
          · refine zg_el h (fun hg h => zU_g hTT hg ?_)
            refine zl_el h (fun h => zU_l hTT ?_)
            refine zl_el h (fun h => zU_l hTT ?_)
            refine zl_el h (fun h => zU_l hTT ?_)
            refine zl_el h (fun h => zU_l hTT ?_)
            refine zl_el h (fun h => zU_l hTT ?_)
            rw [hTT]
            have hz := zsi h hq
            refine zR2_hp ?_ ?_ hz
            · first | with_reducible rfl | exact hA0_md_readsCondition _ _ _ _ _ _
            · first | with_reducible rfl | exact hF1_md_readsCondition _ _ _ _ _ _ _ _ _ _ _
      · refine zl_el h (fun h => zU_l hTT ?_)
        refine zl_el h (fun h => zU_l hTT ?_)
        refine zg_el h (fun hg h => zU_gr hTT hg ?_)
        rw [hTT]
        have hz := zsi h hq
        refine (zO_mk ?_ ?_).trans hz
        · first | with_reducible rfl | exact hA2_md_readsCondition _ _ _
        · first | with_reducible rfl | exact hF3_md_readsCondition _ _ _ _ _ _ _ _
  · refine zbd_el h (fun v94 hv h => zU_c hTT hv ?_)
    refine zb_el h (fun hb h => zU_t hTT hb ?_) (fun hb h => zU_f hTT hb ?_)
    · refine zbd_el h (fun v95 hv h => zU_c hTT hv ?_)
      rw [hTT]
      have hz := zsi h hq
      refine zR2_hp ?_ ?_ hz
      · first | with_reducible rfl | exact hA4_md_readsCondition _ _ _ _ _
      · first | with_reducible rfl | exact hF5_md_readsCondition _ _ _ _ _ _ _ _ _ _ _ _ _ _
    · rw [hTT]
      have hz := zsi h hq
      refine (zO_mk ?_ ?_).trans hz
      · first | with_reducible rfl | exact hA6_md_readsCondition _ _ _ _
      · first | with_reducible rfl | exact hF7_md_readsCondition _ _ _ _ _ _ _ _ _ _ _
set_option maxRecDepth 1000000 in
theorem t40_md_readsCondition {X : Nat × (Nat → Int32)} {ar fi : Nat → Nat → Int32} {m1 m2 m3 m4 m5 : Nat} {b71 : Nat → Int32} {b72 : Nat → Int32} {c64_7 : Int32} {c64_9 : Int32} {c64_10 : Int32} {c64_11 : Int32} {c64_12 : Int32} {c64_13 : Int32} {G_md_here : Int32 → Int32 → (Nat → Int32) → Bool} {W_md_here : Int32 → Int32 → (Nat → Int32) → Int32} {W_md_wrongAt : Int32 → Int32 → Int32} {F0_md_wrongAt : Int32 → Int32 → Int32} {G_md_opens : Int32 → Int32 → Int32 → Int32 → (Nat → Int32) → Int32 → Bool} {W_md_opens : Int32 → Int32 → Int32 → Int32 → (Nat → Int32) → Int32 → Int32} {A0_md_opens : Int32 → Int32 → Int32 → Int32 → (Nat → Int32) → Int32 → Nat → Int32} {F0_md_opens : Int32 → Int32 → Int32 → Int32 → (Nat → Int32) → Int32 → Int32} {F1_md_opens : Int32 → Int32 → Int32 → Int32 → (Nat → Int32) → Int32 → Int32} {F2_md_opens : Int32 → Int32 → Int32 → Int32 → (Nat → Int32) → Int32 → Int32} {F3_md_opens : Int32 → Int32 → Int32 → Int32 → (Nat → Int32) → Int32 → Int32} {Q_md_readsCompared : (Nat → Int32) → (Nat → Int32) → (Nat → Int32) → Int32 → Int32 → Int32 → Int32 → Int32 → Int32 → Int32 → Option (Int32 × (Nat → Int32) × (Nat → Int32) × Int32 × Int32 × Int32 × Int32 × Int32 × Int32)} {Q_md_lands : Int32 → (Nat → Int32) → (Nat → Int32) → Int32 → Int32 → Option ((Nat → Int32) × Int32)} {Q_md_endsPiece : (Nat → Int32) → (Nat → Int32) → Int32 → Int32 → Int32 → Option ((Nat → Int32) × Int32 × Int32 × Int32)} {G_md_jumps : Int32 → Int32 → Int32 → (Nat → Int32) → (Nat → Int32) → Int32 → Bool} {A0_md_jumps : Int32 → Int32 → Int32 → (Nat → Int32) → (Nat → Int32) → Int32 → Nat → Int32} {A1_md_jumps : Int32 → Int32 → Int32 → (Nat → Int32) → (Nat → Int32) → Int32 → Nat → Int32} {F0_md_jumps : Int32 → Int32 → Int32 → (Nat → Int32) → (Nat → Int32) → Int32 → Int32} {F1_md_jumps : Int32 → Int32 → Int32 → (Nat → Int32) → (Nat → Int32) → Int32 → Int32} {F2_md_jumps : Int32 → Int32 → Int32 → (Nat → Int32) → (Nat → Int32) → Int32 → Int32} : zseg X zFT (zEx 158 (P_md_here G_md_here W_md_here) (zEx 160 (P_md_wrongAt W_md_wrongAt F0_md_wrongAt) (zEx 164 (P_md_opens G_md_opens W_md_opens A0_md_opens F0_md_opens F1_md_opens F2_md_opens F3_md_opens) (zEx 175 (P_md_readsCompared Q_md_readsCompared) (zEx 173 (P_md_lands Q_md_lands) (zEx 172 (P_md_endsPiece Q_md_endsPiece) (zEx 174 (P_md_jumps G_md_jumps A0_md_jumps A1_md_jumps F0_md_jumps F1_md_jumps F2_md_jumps) zE0))))))) zc_176 (fun p => Nat.beq p 40 || Nat.beq p 92) 400 40 [.ref 64] [] ((zua (zua ar 71 b71) 72 b72), (zuf (zuf (zuf (zuf (zuf (zuf fi 64 7 c64_7) 64 9 c64_9) 64 10 c64_10) 64 11 c64_11) 64 12 c64_12) 64 13 c64_13), (m1, m2, m3, m4, m5)) = (
  zg (G_md_here (fi 64 8) c64_7 (ar 70)) (
  zl (W_md_here (fi 64 8) c64_7 (ar 70)) (fun v10 =>
  bif decide (v10 = 33) then
   zg (G_md_here (fi 64 8) c64_7 (ar 70)) (
   zl (W_md_here (fi 64 8) c64_7 (ar 70)) (fun v11 =>
   bif !decide (v11 = 33) then
    zg (G_md_opens 13 c64_11 c64_13 c64_7 b72 c64_9) (
    zl (W_md_opens 13 c64_11 c64_13 c64_7 b72 c64_9) (fun v12 =>
    zl (A0_md_opens 13 c64_11 c64_13 c64_7 b72 c64_9) (fun v13 =>
    zl (F0_md_opens 13 c64_11 c64_13 c64_7 b72 c64_9) (fun v14 =>
    zl (F1_md_opens 13 c64_11 c64_13 c64_7 b72 c64_9) (fun v15 =>
    zl (F2_md_opens 13 c64_11 c64_13 c64_7 b72 c64_9) (fun v16 =>
    zl (F3_md_opens 13 c64_11 c64_13 c64_7 b72 c64_9) (fun v17 =>
    bif !decide (v12 = 0) then
     some (.inl (40, [.ref 64], [], ((zua (zua (zua ar 71 b71) 72 b72) 72 v13), (zuf (zuf (zuf (zuf (zuf (zuf (zuf (zuf (zuf (zuf fi 64 7 c64_7) 64 9 c64_9) 64 10 c64_10) 64 11 c64_11) 64 12 c64_12) 64 13 c64_13) 64 7 v14) 64 9 v15) 64 11 v16) 64 13 v17), (m1, m2, m3, m4, m5))))
    else
     some (.inr (some (.int 0), ((zua (zua (zua ar 71 b71) 72 b72) 72 v13), (zuf (zuf (zuf (zuf (zuf (zuf (zuf (zuf (zuf (zuf fi 64 7 c64_7) 64 9 c64_9) 64 10 c64_10) 64 11 c64_11) 64 12 c64_12) 64 13 c64_13) 64 7 v14) 64 9 v15) 64 11 v16) 64 13 v17), (m1, m2, m3, m4, m5)))))))))))
   else
    zg (G_md_opens 10 c64_11 c64_13 c64_7 b72 c64_9) (
    zl (W_md_opens 10 c64_11 c64_13 c64_7 b72 c64_9) (fun v18 =>
    zl (A0_md_opens 10 c64_11 c64_13 c64_7 b72 c64_9) (fun v19 =>
    zl (F0_md_opens 10 c64_11 c64_13 c64_7 b72 c64_9) (fun v20 =>
    zl (F1_md_opens 10 c64_11 c64_13 c64_7 b72 c64_9) (fun v21 =>
    zl (F2_md_opens 10 c64_11 c64_13 c64_7 b72 c64_9) (fun v22 =>
    zl (F3_md_opens 10 c64_11 c64_13 c64_7 b72 c64_9) (fun v23 =>
    bif !decide (v18 = 0) then
     some (.inl (40, [.ref 64], [], ((zua (zua (zua ar 71 b71) 72 b72) 72 v19), (zuf (zuf (zuf (zuf (zuf (zuf (zuf (zuf (zuf (zuf fi 64 7 c64_7) 64 9 c64_9) 64 10 c64_10) 64 11 c64_11) 64 12 c64_12) 64 13 c64_13) 64 7 v20) 64 9 v21) 64 11 v22) 64 13 v23), (m1, m2, m3, m4, m5))))
    else
     some (.inr (some (.int 0), ((zua (zua (zua ar 71 b71) 72 b72) 72 v19), (zuf (zuf (zuf (zuf (zuf (zuf (zuf (zuf (zuf (zuf fi 64 7 c64_7) 64 9 c64_9) 64 10 c64_10) 64 11 c64_11) 64 12 c64_12) 64 13 c64_13) 64 7 v20) 64 9 v21) 64 11 v22) 64 13 v23), (m1, m2, m3, m4, m5)))))))))))))
  else
   zg (G_md_here (fi 64 8) c64_7 (ar 70)) (
   zl (W_md_here (fi 64 8) c64_7 (ar 70)) (fun v24 =>
   bif !decide (v24 = 40) then
    zl (Q_md_readsCompared (ar 70) b71 b72 c64_7 (fi 64 8) c64_9 c64_10 c64_11 c64_12 c64_13) (fun v25 => zg v25.isSome (
    bif !decide (((zgt v25).1) = 0) then
     some (.inl (92, [.ref 64], [], ((zua (zua (zua (zua ar 71 b71) 72 b72) 71 (((zgt v25).2.1))) 72 (((zgt v25).2.2.1))), (zuf (zuf (zuf (zuf (zuf (zuf (zuf (zuf (zuf (zuf (zuf (zuf fi 64 7 c64_7) 64 9 c64_9) 64 10 c64_10) 64 11 c64_11) 64 12 c64_12) 64 13 c64_13) 64 7 (((zgt v25).2.2.2.1))) 64 9 (((zgt v25).2.2.2.2.1))) 64 10 (((zgt v25).2.2.2.2.2.1))) 64 11 (((zgt v25).2.2.2.2.2.2.1))) 64 12 (((zgt v25).2.2.2.2.2.2.2.1))) 64 13 (((zgt v25).2.2.2.2.2.2.2.2))), (m1, m2, m3, m4, m5))))
    else
     some (.inr (some (.int 0), ((zua (zua (zua (zua ar 71 b71) 72 b72) 71 (((zgt v25).2.1))) 72 (((zgt v25).2.2.1))), (zuf (zuf (zuf (zuf (zuf (zuf (zuf (zuf (zuf (zuf (zuf (zuf fi 64 7 c64_7) 64 9 c64_9) 64 10 c64_10) 64 11 c64_11) 64 12 c64_12) 64 13 c64_13) 64 7 (((zgt v25).2.2.2.1))) 64 9 (((zgt v25).2.2.2.2.1))) 64 10 (((zgt v25).2.2.2.2.2.1))) 64 11 (((zgt v25).2.2.2.2.2.2.1))) 64 12 (((zgt v25).2.2.2.2.2.2.2.1))) 64 13 (((zgt v25).2.2.2.2.2.2.2.2))), (m1, m2, m3, m4, m5))))))
   else
    zg (G_md_here (fi 64 8) c64_7 (ar 70)) (
    zl (W_md_here (fi 64 8) c64_7 (ar 70)) (fun v26 =>
    bif !decide (v26 = 33) then
     zg (G_md_opens 13 c64_11 c64_13 c64_7 b72 c64_9) (
     zl (W_md_opens 13 c64_11 c64_13 c64_7 b72 c64_9) (fun v27 =>
     zl (A0_md_opens 13 c64_11 c64_13 c64_7 b72 c64_9) (fun v28 =>
     zl (F0_md_opens 13 c64_11 c64_13 c64_7 b72 c64_9) (fun v29 =>
     zl (F1_md_opens 13 c64_11 c64_13 c64_7 b72 c64_9) (fun v30 =>
     zl (F2_md_opens 13 c64_11 c64_13 c64_7 b72 c64_9) (fun v31 =>
     zl (F3_md_opens 13 c64_11 c64_13 c64_7 b72 c64_9) (fun v32 =>
     bif !decide (v27 = 0) then
      some (.inl (40, [.ref 64], [], ((zua (zua (zua ar 71 b71) 72 b72) 72 v28), (zuf (zuf (zuf (zuf (zuf (zuf (zuf (zuf (zuf (zuf fi 64 7 c64_7) 64 9 c64_9) 64 10 c64_10) 64 11 c64_11) 64 12 c64_12) 64 13 c64_13) 64 7 v29) 64 9 v30) 64 11 v31) 64 13 v32), (m1, m2, m3, m4, m5))))
     else
      some (.inr (some (.int 0), ((zua (zua (zua ar 71 b71) 72 b72) 72 v28), (zuf (zuf (zuf (zuf (zuf (zuf (zuf (zuf (zuf (zuf fi 64 7 c64_7) 64 9 c64_9) 64 10 c64_10) 64 11 c64_11) 64 12 c64_12) 64 13 c64_13) 64 7 v29) 64 9 v30) 64 11 v31) 64 13 v32), (m1, m2, m3, m4, m5)))))))))))
    else
     zg (G_md_opens 10 c64_11 c64_13 c64_7 b72 c64_9) (
     zl (W_md_opens 10 c64_11 c64_13 c64_7 b72 c64_9) (fun v33 =>
     zl (A0_md_opens 10 c64_11 c64_13 c64_7 b72 c64_9) (fun v34 =>
     zl (F0_md_opens 10 c64_11 c64_13 c64_7 b72 c64_9) (fun v35 =>
     zl (F1_md_opens 10 c64_11 c64_13 c64_7 b72 c64_9) (fun v36 =>
     zl (F2_md_opens 10 c64_11 c64_13 c64_7 b72 c64_9) (fun v37 =>
     zl (F3_md_opens 10 c64_11 c64_13 c64_7 b72 c64_9) (fun v38 =>
     bif !decide (v33 = 0) then
      some (.inl (40, [.ref 64], [], ((zua (zua (zua ar 71 b71) 72 b72) 72 v34), (zuf (zuf (zuf (zuf (zuf (zuf (zuf (zuf (zuf (zuf fi 64 7 c64_7) 64 9 c64_9) 64 10 c64_10) 64 11 c64_11) 64 12 c64_12) 64 13 c64_13) 64 7 v35) 64 9 v36) 64 11 v37) 64 13 v38), (m1, m2, m3, m4, m5))))
     else
      some (.inr (some (.int 0), ((zua (zua (zua ar 71 b71) 72 b72) 72 v34), (zuf (zuf (zuf (zuf (zuf (zuf (zuf (zuf (zuf (zuf fi 64 7 c64_7) 64 9 c64_9) 64 10 c64_10) 64 11 c64_11) 64 12 c64_12) 64 13 c64_13) 64 7 v35) 64 9 v36) 64 11 v37) 64 13 v38), (m1, m2, m3, m4, m5))))))))))))))))) : Option ((Nat × List Value × List Value × zH2) ⊕ zO2)) := by with_unfolding_all rfl
set_option maxRecDepth 20000 in
theorem k_md_readsCondition_40 {X : Nat × (Nat → Int32)} {ar fi : Nat → Nat → Int32} {m1 m2 m3 m4 m5 : Nat} {o : zO2} : ∀ (s : U_md_readsCondition_40) (q : U_md_readsCondition_40 ⊕ T_md_readsCondition), f_md_readsCondition_40 (ar 70) (fi 64 8) s = some q → zq (M_md_readsCondition_40 X (zEx 158 S_md_here (zEx 160 S_md_wrongAt (zEx 164 S_md_opens (zEx 175 S_md_readsCompared (zEx 173 S_md_lands (zEx 172 S_md_endsPiece (zEx 174 S_md_jumps zE0))))))) ar fi m1 m2 m3 m4 m5 o) (fun t => O_md_readsCondition ar fi m1 m2 m3 m4 m5 t = o) q → M_md_readsCondition_40 X (zEx 158 S_md_here (zEx 160 S_md_wrongAt (zEx 164 S_md_opens (zEx 175 S_md_readsCompared (zEx 173 S_md_lands (zEx 172 S_md_endsPiece (zEx 174 S_md_jumps zE0))))))) ar fi m1 m2 m3 m4 m5 o s := by
  intro s q h hq
  obtain ⟨b71, b72, c64_7, c64_9, c64_10, c64_11, c64_12, c64_13⟩ := s
  have h : b_md_readsCondition_40 (ar 70) (fi 64 8) b71 b72 c64_7 c64_9 c64_10 c64_11 c64_12 c64_13 = some q := h
  unfold b_md_readsCondition_40 at h
  show zR2 X zFT (zEx 158 S_md_here (zEx 160 S_md_wrongAt (zEx 164 S_md_opens (zEx 175 S_md_readsCompared (zEx 173 S_md_lands (zEx 172 S_md_endsPiece (zEx 174 S_md_jumps zE0))))))) zc_176 40 [.ref 64] [] ((zua (zua ar 71 b71) 72 b72), (zuf (zuf (zuf (zuf (zuf (zuf fi 64 7 c64_7) 64 9 c64_9) 64 10 c64_10) 64 11 c64_11) 64 12 c64_12) 64 13 c64_13), (m1, m2, m3, m4, m5)) o
  refine zT_seg t40_md_readsCondition ?_
  obtain ⟨TT, hTT⟩ : ∃ T, T = zT X zFT (zEx 158 S_md_here (zEx 160 S_md_wrongAt (zEx 164 S_md_opens (zEx 175 S_md_readsCompared (zEx 173 S_md_lands (zEx 172 S_md_endsPiece (zEx 174 S_md_jumps zE0))))))) zc_176 o := ⟨_, rfl⟩
  rw [← hTT]
  refine zg_el h (fun hg h => zU_g hTT hg ?_)
  refine zl_el h (fun h => zU_l hTT ?_)
  refine zb_el h (fun hb h => zU_t hTT hb ?_) (fun hb h => zU_f hTT hb ?_)
  · refine zg_el h (fun hg h => zU_g hTT hg ?_)
    refine zl_el h (fun h => zU_l hTT ?_)
    refine zb_el h (fun hb h => zU_t hTT hb ?_) (fun hb h => zU_f hTT hb ?_)
    · refine zg_el h (fun hg h => zU_g hTT hg ?_)
      refine zl_el h (fun h => zU_l hTT ?_)
      refine zl_el h (fun h => zU_l hTT ?_)
      refine zl_el h (fun h => zU_l hTT ?_)
      refine zl_el h (fun h => zU_l hTT ?_)
      refine zl_el h (fun h => zU_l hTT ?_)
      refine zl_el h (fun h => zU_l hTT ?_)
      refine zb_el h (fun hb h => zU_t hTT hb ?_) (fun hb h => zU_f hTT hb ?_)
      · rw [hTT]
        have hz := zsi h hq
        refine zR2_hp ?_ ?_ hz
        · first | with_reducible rfl | exact hA8_md_readsCondition _ _ _ _
        · first | with_reducible rfl | exact hF9_md_readsCondition _ _ _ _ _ _ _ _ _ _ _
      · rw [hTT]
        have hz := zsi h hq
        refine (zO_mk ?_ ?_).trans hz
        · first | with_reducible rfl | exact hA8_md_readsCondition _ _ _ _
        · first | with_reducible rfl | exact hF9_md_readsCondition _ _ _ _ _ _ _ _ _ _ _
    · refine zg_el h (fun hg h => zU_g hTT hg ?_)
      refine zl_el h (fun h => zU_l hTT ?_)
      refine zl_el h (fun h => zU_l hTT ?_)
      refine zl_el h (fun h => zU_l hTT ?_)
      refine zl_el h (fun h => zU_l hTT ?_)
      refine zl_el h (fun h => zU_l hTT ?_)
      refine zl_el h (fun h => zU_l hTT ?_)
      refine zb_el h (fun hb h => zU_t hTT hb ?_) (fun hb h => zU_f hTT hb ?_)
      · rw [hTT]
        have hz := zsi h hq
        refine zR2_hp ?_ ?_ hz
        · first | with_reducible rfl | exact hA8_md_readsCondition _ _ _ _
        · first | with_reducible rfl | exact hF9_md_readsCondition _ _ _ _ _ _ _ _ _ _ _
      · rw [hTT]
        have hz := zsi h hq
        refine (zO_mk ?_ ?_).trans hz
        · first | with_reducible rfl | exact hA8_md_readsCondition _ _ _ _
        · first | with_reducible rfl | exact hF9_md_readsCondition _ _ _ _ _ _ _ _ _ _ _
  · refine zg_el h (fun hg h => zU_g hTT hg ?_)
    refine zl_el h (fun h => zU_l hTT ?_)
    refine zb_el h (fun hb h => zU_t hTT hb ?_) (fun hb h => zU_f hTT hb ?_)
    · refine zbd_el h (fun v25 hv h => zU_c hTT hv ?_)
      refine zb_el h (fun hb h => zU_t hTT hb ?_) (fun hb h => zU_f hTT hb ?_)
      · rw [hTT]
        refine zR2_hp ?_ ?_ (zlp_K k_md_readsCondition_92 h hq)
        · first | with_reducible rfl | exact hA10_md_readsCondition _ _ _ _ _
        · first | with_reducible rfl | exact hF11_md_readsCondition _ _ _ _ _ _ _ _ _ _ _ _ _
      · rw [hTT]
        have hz := zsi h hq
        refine (zO_mk ?_ ?_).trans hz
        · first | with_reducible rfl | exact hA10_md_readsCondition _ _ _ _ _
        · first | with_reducible rfl | exact hF11_md_readsCondition _ _ _ _ _ _ _ _ _ _ _ _ _
    · refine zg_el h (fun hg h => zU_g hTT hg ?_)
      refine zl_el h (fun h => zU_l hTT ?_)
      refine zb_el h (fun hb h => zU_t hTT hb ?_) (fun hb h => zU_f hTT hb ?_)
      · refine zg_el h (fun hg h => zU_g hTT hg ?_)
        refine zl_el h (fun h => zU_l hTT ?_)
        refine zl_el h (fun h => zU_l hTT ?_)
        refine zl_el h (fun h => zU_l hTT ?_)
        refine zl_el h (fun h => zU_l hTT ?_)
        refine zl_el h (fun h => zU_l hTT ?_)
        refine zl_el h (fun h => zU_l hTT ?_)
        refine zb_el h (fun hb h => zU_t hTT hb ?_) (fun hb h => zU_f hTT hb ?_)
        · rw [hTT]
          have hz := zsi h hq
          refine zR2_hp ?_ ?_ hz
          · first | with_reducible rfl | exact hA8_md_readsCondition _ _ _ _
          · first | with_reducible rfl | exact hF9_md_readsCondition _ _ _ _ _ _ _ _ _ _ _
        · rw [hTT]
          have hz := zsi h hq
          refine (zO_mk ?_ ?_).trans hz
          · first | with_reducible rfl | exact hA8_md_readsCondition _ _ _ _
          · first | with_reducible rfl | exact hF9_md_readsCondition _ _ _ _ _ _ _ _ _ _ _
      · refine zg_el h (fun hg h => zU_g hTT hg ?_)
        refine zl_el h (fun h => zU_l hTT ?_)
        refine zl_el h (fun h => zU_l hTT ?_)
        refine zl_el h (fun h => zU_l hTT ?_)
        refine zl_el h (fun h => zU_l hTT ?_)
        refine zl_el h (fun h => zU_l hTT ?_)
        refine zl_el h (fun h => zU_l hTT ?_)
        refine zb_el h (fun hb h => zU_t hTT hb ?_) (fun hb h => zU_f hTT hb ?_)
        · rw [hTT]
          have hz := zsi h hq
          refine zR2_hp ?_ ?_ hz
          · first | with_reducible rfl | exact hA8_md_readsCondition _ _ _ _
          · first | with_reducible rfl | exact hF9_md_readsCondition _ _ _ _ _ _ _ _ _ _ _
        · rw [hTT]
          have hz := zsi h hq
          refine (zO_mk ?_ ?_).trans hz
          · first | with_reducible rfl | exact hA8_md_readsCondition _ _ _ _
          · first | with_reducible rfl | exact hF9_md_readsCondition _ _ _ _ _ _ _ _ _ _ _
set_option maxRecDepth 1000000 in
theorem t_md_readsCondition {X : Nat × (Nat → Int32)} {ar fi : Nat → Nat → Int32} {m1 m2 m3 m4 m5 : Nat} {G_md_here : Int32 → Int32 → (Nat → Int32) → Bool} {W_md_here : Int32 → Int32 → (Nat → Int32) → Int32} {W_md_wrongAt : Int32 → Int32 → Int32} {F0_md_wrongAt : Int32 → Int32 → Int32} {G_md_opens : Int32 → Int32 → Int32 → Int32 → (Nat → Int32) → Int32 → Bool} {W_md_opens : Int32 → Int32 → Int32 → Int32 → (Nat → Int32) → Int32 → Int32} {A0_md_opens : Int32 → Int32 → Int32 → Int32 → (Nat → Int32) → Int32 → Nat → Int32} {F0_md_opens : Int32 → Int32 → Int32 → Int32 → (Nat → Int32) → Int32 → Int32} {F1_md_opens : Int32 → Int32 → Int32 → Int32 → (Nat → Int32) → Int32 → Int32} {F2_md_opens : Int32 → Int32 → Int32 → Int32 → (Nat → Int32) → Int32 → Int32} {F3_md_opens : Int32 → Int32 → Int32 → Int32 → (Nat → Int32) → Int32 → Int32} {Q_md_readsCompared : (Nat → Int32) → (Nat → Int32) → (Nat → Int32) → Int32 → Int32 → Int32 → Int32 → Int32 → Int32 → Int32 → Option (Int32 × (Nat → Int32) × (Nat → Int32) × Int32 × Int32 × Int32 × Int32 × Int32 × Int32)} {Q_md_lands : Int32 → (Nat → Int32) → (Nat → Int32) → Int32 → Int32 → Option ((Nat → Int32) × Int32)} {Q_md_endsPiece : (Nat → Int32) → (Nat → Int32) → Int32 → Int32 → Int32 → Option ((Nat → Int32) × Int32 × Int32 × Int32)} {G_md_jumps : Int32 → Int32 → Int32 → (Nat → Int32) → (Nat → Int32) → Int32 → Bool} {A0_md_jumps : Int32 → Int32 → Int32 → (Nat → Int32) → (Nat → Int32) → Int32 → Nat → Int32} {A1_md_jumps : Int32 → Int32 → Int32 → (Nat → Int32) → (Nat → Int32) → Int32 → Nat → Int32} {F0_md_jumps : Int32 → Int32 → Int32 → (Nat → Int32) → (Nat → Int32) → Int32 → Int32} {F1_md_jumps : Int32 → Int32 → Int32 → (Nat → Int32) → (Nat → Int32) → Int32 → Int32} {F2_md_jumps : Int32 → Int32 → Int32 → (Nat → Int32) → (Nat → Int32) → Int32 → Int32} : zseg X zFT (zEx 158 (P_md_here G_md_here W_md_here) (zEx 160 (P_md_wrongAt W_md_wrongAt F0_md_wrongAt) (zEx 164 (P_md_opens G_md_opens W_md_opens A0_md_opens F0_md_opens F1_md_opens F2_md_opens F3_md_opens) (zEx 175 (P_md_readsCompared Q_md_readsCompared) (zEx 173 (P_md_lands Q_md_lands) (zEx 172 (P_md_endsPiece Q_md_endsPiece) (zEx 174 (P_md_jumps G_md_jumps A0_md_jumps A1_md_jumps F0_md_jumps F1_md_jumps F2_md_jumps) zE0))))))) zc_176 (fun p => Nat.beq p 40 || Nat.beq p 92) 400 0 [.ref 64] [] (ar, fi, (m1, m2, m3, m4, m5)) = (
  zg (G_md_here (fi 64 8) (fi 64 7) (ar 70)) (
  zl (W_md_here (fi 64 8) (fi 64 7) (ar 70)) (fun v1 =>
  bif decide (v1 = 40) then
   zg (G_md_opens 13 0 0 (fi 64 7) (ar 72) (fi 64 9)) (
   zl (W_md_opens 13 0 0 (fi 64 7) (ar 72) (fi 64 9)) (fun v2 =>
   zl (A0_md_opens 13 0 0 (fi 64 7) (ar 72) (fi 64 9)) (fun v3 =>
   zl (F0_md_opens 13 0 0 (fi 64 7) (ar 72) (fi 64 9)) (fun v4 =>
   zl (F1_md_opens 13 0 0 (fi 64 7) (ar 72) (fi 64 9)) (fun v5 =>
   zl (F2_md_opens 13 0 0 (fi 64 7) (ar 72) (fi 64 9)) (fun v6 =>
   zl (F3_md_opens 13 0 0 (fi 64 7) (ar 72) (fi 64 9)) (fun v7 =>
   bif !decide (v2 = 0) then
    some (.inl (40, [.ref 64], [], ((zua ar 72 v3), (zuf (zuf (zuf (zuf (zuf (zuf fi 64 11 0) 64 13 0) 64 7 v4) 64 9 v5) 64 11 v6) 64 13 v7), (m1, m2, m3, m4, m5))))
   else
    some (.inr (some (.int 0), ((zua ar 72 v3), (zuf (zuf (zuf (zuf (zuf (zuf fi 64 11 0) 64 13 0) 64 7 v4) 64 9 v5) 64 11 v6) 64 13 v7), (m1, m2, m3, m4, m5)))))))))))
  else
   zl (W_md_wrongAt 1 (fi 64 7)) (fun v8 =>
   zl (F0_md_wrongAt 1 (fi 64 7)) (fun v9 =>
   zg (Nat.beq 1 0 || (decide (v8 = 0) || decide (v8 = 1))) (
   some (.inr (some (.int v8), (ar, (zuf fi 64 9 v9), (m1, m2, m3, m4, m5))))))))) : Option ((Nat × List Value × List Value × zH2) ⊕ zO2)) := by with_unfolding_all rfl
set_option maxRecDepth 20000 in
theorem e_md_readsCondition {X : Nat × (Nat → Int32)} {ar fi : Nat → Nat → Int32} {m1 m2 m3 m4 m5 : Nat} {o : zO2} : ∀ (q : T_md_readsCondition), q_md_readsCondition (ar 70) (ar 71) (ar 72) (fi 64 7) (fi 64 8) (fi 64 9) (fi 64 10) (fi 64 11) (fi 64 12) (fi 64 13) = some q → (fun t => O_md_readsCondition ar fi m1 m2 m3 m4 m5 t = o) q → zR2 X zFT (zEx 158 S_md_here (zEx 160 S_md_wrongAt (zEx 164 S_md_opens (zEx 175 S_md_readsCompared (zEx 173 S_md_lands (zEx 172 S_md_endsPiece (zEx 174 S_md_jumps zE0))))))) zc_176 0 [.ref 64] [] (ar, fi, (m1, m2, m3, m4, m5)) o := by
  intro q h hq
  unfold q_md_readsCondition at h
  refine zT_seg t_md_readsCondition ?_
  obtain ⟨TT, hTT⟩ : ∃ T, T = zT X zFT (zEx 158 S_md_here (zEx 160 S_md_wrongAt (zEx 164 S_md_opens (zEx 175 S_md_readsCompared (zEx 173 S_md_lands (zEx 172 S_md_endsPiece (zEx 174 S_md_jumps zE0))))))) zc_176 o := ⟨_, rfl⟩
  rw [← hTT]
  refine zg_el h (fun hg h => zU_g hTT hg ?_)
  refine zl_el h (fun h => zU_l hTT ?_)
  refine zb_el h (fun hb h => zU_t hTT hb ?_) (fun hb h => zU_f hTT hb ?_)
  · refine zg_el h (fun hg h => zU_g hTT hg ?_)
    refine zl_el h (fun h => zU_l hTT ?_)
    refine zl_el h (fun h => zU_l hTT ?_)
    refine zl_el h (fun h => zU_l hTT ?_)
    refine zl_el h (fun h => zU_l hTT ?_)
    refine zl_el h (fun h => zU_l hTT ?_)
    refine zl_el h (fun h => zU_l hTT ?_)
    refine zb_el h (fun hb h => zU_t hTT hb ?_) (fun hb h => zU_f hTT hb ?_)
    · rw [hTT]
      refine zR2_hp ?_ ?_ (zlp_K k_md_readsCondition_40 h hq)
      · first | with_reducible rfl | exact hA12_md_readsCondition _ _
      · first | with_reducible rfl | exact hF13_md_readsCondition _ _ _ _ _ _ _
    · rw [hTT]
      have hz := zsi (P := (fun t => O_md_readsCondition ar fi m1 m2 m3 m4 m5 t = o)) h hq
      refine (zO_mk ?_ ?_).trans hz
      · first | with_reducible rfl | exact hA12_md_readsCondition _ _
      · first | with_reducible rfl | exact hF13_md_readsCondition _ _ _ _ _ _ _
  · refine zl_el h (fun h => zU_l hTT ?_)
    refine zl_el h (fun h => zU_l hTT ?_)
    refine zg_el h (fun hg h => zU_gr hTT hg ?_)
    rw [hTT]
    have hz := zsi (P := (fun t => O_md_readsCondition ar fi m1 m2 m3 m4 m5 t = o)) h hq
    refine (zO_mk ?_ ?_).trans hz
    · first | with_reducible rfl | exact hA14_md_readsCondition _
    · first | with_reducible rfl | exact hF15_md_readsCondition _ _
theorem ok_md_readsCondition (X : Nat × (Nat → Int32)) : zOkS X 176 S_md_readsCondition 7 := zOkS_new (zOkE_cons (ok_md_here X) (by decide) (zOkE_cons (ok_md_wrongAt X) (by decide) (zOkE_cons (ok_md_opens X) (by decide) (zOkE_cons (ok_md_readsCompared X) (by decide) (zOkE_cons (ok_md_lands X) (by decide) (zOkE_cons (ok_md_endsPiece X) (by decide) (zOkE_cons (ok_md_jumps X) (by decide) (zOkE_nil X 6)))))))) (by
  intro args g o h
  obtain ⟨ar, fi, m1, m2, m3, m4, m5⟩ := g
  unfold S_md_readsCondition P_md_readsCondition at h
  split at h
  · refine zb_el h (fun hI0 k0 => ?_) (fun _ h10 => ?_)
    · try simp only [Bool.and_eq_true] at hI0
      have j0 := hI0
      have e0 := Nat.eq_of_beq_eq_true j0
      subst e0
      exact zpe_el k0 (fun t ht ho => by obtain ⟨t0, t1, t2, t3, t4, t5, t6, t7, t8⟩ := t; exact e_md_readsCondition _ ht ho)
    · cases h10
  · cases h)
