abbrev T_lr_readTest : Type := (Nat → Int32) × (Nat → Int32) × Int32 × Int32 × Int32 × Int32 × Int32
noncomputable def qG_lr_readTest (Q_lr_readCondition : Int32 → (Nat → Int32) → (Nat → Int32) → (Nat → Int32) → Int32 → Int32 → Int32 → Int32 → Int32 → Int32 → Option ((Nat → Int32) × (Nat → Int32) × Int32 × Int32 × Int32 × Int32 × Int32)) (Q_lr_readTest : Int32 → (Nat → Int32) → (Nat → Int32) → (Nat → Int32) → Int32 → Int32 → Int32 → Int32 → Int32 → Int32 → Option ((Nat → Int32) × (Nat → Int32) × Int32 × Int32 × Int32 × Int32 × Int32)) (Q_lr_readAmount : Int32 → (Nat → Int32) → (Nat → Int32) → (Nat → Int32) → Int32 → Int32 → Int32 → Int32 → Int32 → Int32 → Option ((Nat → Int32) × (Nat → Int32) × Int32 × Int32 × Int32 × Int32 × Int32)) (Q_lr_readFactor : Int32 → (Nat → Int32) → (Nat → Int32) → (Nat → Int32) → Int32 → Int32 → Int32 → Int32 → Int32 → Int32 → Option ((Nat → Int32) × (Nat → Int32) × Int32 × Int32 × Int32 × Int32 × Int32)) (y : Int32) (a1 : Nat → Int32) (a24 : Nat → Int32) (a25 : Nat → Int32) (f23_7 : Int32) (f23_8 : Int32) (f40_1 : Int32) (f40_2 : Int32) (f40_3 : Int32) (f40_4 : Int32) : Option T_lr_readTest :=
  zg (g_tx_sign (f40_2) (f40_4) (f40_1) a1) (
  zl (w_tx_sign (f40_2) (f40_4) (f40_1) a1) (fun v1 =>
  bif decide (v1 = 33) then
   bif decide (y < 6) then
    bif !decide (v1 = 33) then
     bif !decide (v1 = 40) then
      zbd (Q_lr_readAmount y a1 a24 a25 (f23_7) (f23_8) (f40_1) (f40_2) (f40_3) (f40_4)) (fun v2 =>
      zg (g_tx_sign ((v2.2.2.2.2.1)) ((v2.2.2.2.2.2.2)) (f40_1) a1) (
      zl (w_tx_sign ((v2.2.2.2.2.1)) ((v2.2.2.2.2.2.2)) (f40_1) a1) (fun v3 =>
      bif decide (v3 = 60) then
       zl (f0_tx_skip ((v2.2.2.2.2.2.2))) (fun v4 =>
       zbd (Q_lr_readAmount y a1 ((v2.1)) ((v2.2.1)) ((v2.2.2.1)) ((v2.2.2.2.1)) (f40_1) ((v2.2.2.2.2.1)) ((v2.2.2.2.2.2.1)) v4) (fun v5 =>
       zg (g_lw_emit v3 0 ((v5.2.2.1)) ((v5.1)) ((v5.2.1)) ((v5.2.2.2.1))) (
       zl (w_lw_emit v3 0 ((v5.2.2.1)) ((v5.1)) ((v5.2.1)) ((v5.2.2.2.1))) (fun v6 =>
       zl (a0_lw_emit v3 0 ((v5.2.2.1)) ((v5.1)) ((v5.2.1)) ((v5.2.2.2.1))) (fun v7 =>
       zl (a1_lw_emit v3 0 ((v5.2.2.1)) ((v5.1)) ((v5.2.1)) ((v5.2.2.2.1))) (fun v8 =>
       zl (f0_lw_emit v3 0 ((v5.2.2.1)) ((v5.1)) ((v5.2.1)) ((v5.2.2.2.1))) (fun v9 =>
       zl (f1_lw_emit v3 0 ((v5.2.2.1)) ((v5.1)) ((v5.2.1)) ((v5.2.2.2.1))) (fun v10 =>
       some (v7, v8, v9, v10, (v5.2.2.2.2.1), (v5.2.2.2.2.2.1), (v5.2.2.2.2.2.2))))))))))
      else
       bif decide (v3 = 62) then
        zl (f0_tx_skip ((v2.2.2.2.2.2.2))) (fun v11 =>
        zbd (Q_lr_readAmount y a1 ((v2.1)) ((v2.2.1)) ((v2.2.2.1)) ((v2.2.2.2.1)) (f40_1) ((v2.2.2.2.2.1)) ((v2.2.2.2.2.2.1)) v11) (fun v12 =>
        zg (g_lw_emit v3 0 ((v12.2.2.1)) ((v12.1)) ((v12.2.1)) ((v12.2.2.2.1))) (
        zl (w_lw_emit v3 0 ((v12.2.2.1)) ((v12.1)) ((v12.2.1)) ((v12.2.2.2.1))) (fun v13 =>
        zl (a0_lw_emit v3 0 ((v12.2.2.1)) ((v12.1)) ((v12.2.1)) ((v12.2.2.2.1))) (fun v14 =>
        zl (a1_lw_emit v3 0 ((v12.2.2.1)) ((v12.1)) ((v12.2.1)) ((v12.2.2.2.1))) (fun v15 =>
        zl (f0_lw_emit v3 0 ((v12.2.2.1)) ((v12.1)) ((v12.2.1)) ((v12.2.2.2.1))) (fun v16 =>
        zl (f1_lw_emit v3 0 ((v12.2.2.1)) ((v12.1)) ((v12.2.1)) ((v12.2.2.2.1))) (fun v17 =>
        some (v14, v15, v16, v17, (v12.2.2.2.2.1), (v12.2.2.2.2.2.1), (v12.2.2.2.2.2.2))))))))))
       else
        bif !decide (v3 = 61) then
         zl (f0_tx_fail 1 ((v2.2.2.2.2.2.2)) ((v2.2.2.2.2.1)) ((v2.2.2.2.2.2.1))) (fun v18 =>
         zl (f1_tx_fail 1 ((v2.2.2.2.2.2.2)) ((v2.2.2.2.2.1)) ((v2.2.2.2.2.2.1))) (fun v19 =>
         some (((v2.1)), ((v2.2.1)), (v2.2.2.1), (v2.2.2.2.1), v18, v19, (v2.2.2.2.2.2.2))))
        else
         zl (f0_tx_skip ((v2.2.2.2.2.2.2))) (fun v20 =>
         zbd (Q_lr_readAmount y a1 ((v2.1)) ((v2.2.1)) ((v2.2.2.1)) ((v2.2.2.2.1)) (f40_1) ((v2.2.2.2.2.1)) ((v2.2.2.2.2.2.1)) v20) (fun v21 =>
         zg (g_lw_emit v3 0 ((v21.2.2.1)) ((v21.1)) ((v21.2.1)) ((v21.2.2.2.1))) (
         zl (w_lw_emit v3 0 ((v21.2.2.1)) ((v21.1)) ((v21.2.1)) ((v21.2.2.2.1))) (fun v22 =>
         zl (a0_lw_emit v3 0 ((v21.2.2.1)) ((v21.1)) ((v21.2.1)) ((v21.2.2.2.1))) (fun v23 =>
         zl (a1_lw_emit v3 0 ((v21.2.2.1)) ((v21.1)) ((v21.2.1)) ((v21.2.2.2.1))) (fun v24 =>
         zl (f0_lw_emit v3 0 ((v21.2.2.1)) ((v21.1)) ((v21.2.1)) ((v21.2.2.2.1))) (fun v25 =>
         zl (f1_lw_emit v3 0 ((v21.2.2.1)) ((v21.1)) ((v21.2.1)) ((v21.2.2.2.1))) (fun v26 =>
         some (v23, v24, v25, v26, (v21.2.2.2.2.1), (v21.2.2.2.2.2.1), (v21.2.2.2.2.2.2)))))))))))))
     else
      zl (f0_tx_skip (f40_4)) (fun v27 =>
      zbd (Q_lr_readCondition (y + 1) a1 a24 a25 (f23_7) (f23_8) (f40_1) (f40_2) (f40_3) v27) (fun v28 =>
      zg (g_tx_expect 41 ((v28.2.2.2.2.1)) ((v28.2.2.2.2.2.2)) (f40_1) a1 ((v28.2.2.2.2.2.1))) (
      zl (f0_tx_expect 41 ((v28.2.2.2.2.1)) ((v28.2.2.2.2.2.2)) (f40_1) a1 ((v28.2.2.2.2.2.1))) (fun v29 =>
      zl (f1_tx_expect 41 ((v28.2.2.2.2.1)) ((v28.2.2.2.2.2.2)) (f40_1) a1 ((v28.2.2.2.2.2.1))) (fun v30 =>
      zl (f2_tx_expect 41 ((v28.2.2.2.2.1)) ((v28.2.2.2.2.2.2)) (f40_1) a1 ((v28.2.2.2.2.2.1))) (fun v31 =>
      some (((v28.1)), ((v28.2.1)), (v28.2.2.1), (v28.2.2.2.1), v29, v30, v31)))))))
    else
     zl (f0_tx_skip (f40_4)) (fun v32 =>
     zbd (Q_lr_readTest (y + 1) a1 a24 a25 (f23_7) (f23_8) (f40_1) (f40_2) (f40_3) v32) (fun v33 =>
     zg (g_lw_emit 3 0 ((v33.2.2.1)) ((v33.1)) ((v33.2.1)) ((v33.2.2.2.1))) (
     zl (w_lw_emit 3 0 ((v33.2.2.1)) ((v33.1)) ((v33.2.1)) ((v33.2.2.2.1))) (fun v34 =>
     zl (a0_lw_emit 3 0 ((v33.2.2.1)) ((v33.1)) ((v33.2.1)) ((v33.2.2.2.1))) (fun v35 =>
     zl (a1_lw_emit 3 0 ((v33.2.2.1)) ((v33.1)) ((v33.2.1)) ((v33.2.2.2.1))) (fun v36 =>
     zl (f0_lw_emit 3 0 ((v33.2.2.1)) ((v33.1)) ((v33.2.1)) ((v33.2.2.2.1))) (fun v37 =>
     zl (f1_lw_emit 3 0 ((v33.2.2.1)) ((v33.1)) ((v33.2.1)) ((v33.2.2.2.1))) (fun v38 =>
     some (v35, v36, v37, v38, (v33.2.2.2.2.1), (v33.2.2.2.2.2.1), (v33.2.2.2.2.2.2))))))))))
   else
    zl (f0_tx_fail 5 (f40_4) (f40_2) (f40_3)) (fun v39 =>
    zl (f1_tx_fail 5 (f40_4) (f40_2) (f40_3)) (fun v40 =>
    some (a24, a25, f23_7, f23_8, v39, v40, f40_4)))
  else
   bif !decide (v1 = 40) then
    bif !decide (v1 = 33) then
     bif !decide (v1 = 40) then
      zbd (Q_lr_readAmount y a1 a24 a25 (f23_7) (f23_8) (f40_1) (f40_2) (f40_3) (f40_4)) (fun v41 =>
      zg (g_tx_sign ((v41.2.2.2.2.1)) ((v41.2.2.2.2.2.2)) (f40_1) a1) (
      zl (w_tx_sign ((v41.2.2.2.2.1)) ((v41.2.2.2.2.2.2)) (f40_1) a1) (fun v42 =>
      bif decide (v42 = 60) then
       zl (f0_tx_skip ((v41.2.2.2.2.2.2))) (fun v43 =>
       zbd (Q_lr_readAmount y a1 ((v41.1)) ((v41.2.1)) ((v41.2.2.1)) ((v41.2.2.2.1)) (f40_1) ((v41.2.2.2.2.1)) ((v41.2.2.2.2.2.1)) v43) (fun v44 =>
       zg (g_lw_emit v42 0 ((v44.2.2.1)) ((v44.1)) ((v44.2.1)) ((v44.2.2.2.1))) (
       zl (w_lw_emit v42 0 ((v44.2.2.1)) ((v44.1)) ((v44.2.1)) ((v44.2.2.2.1))) (fun v45 =>
       zl (a0_lw_emit v42 0 ((v44.2.2.1)) ((v44.1)) ((v44.2.1)) ((v44.2.2.2.1))) (fun v46 =>
       zl (a1_lw_emit v42 0 ((v44.2.2.1)) ((v44.1)) ((v44.2.1)) ((v44.2.2.2.1))) (fun v47 =>
       zl (f0_lw_emit v42 0 ((v44.2.2.1)) ((v44.1)) ((v44.2.1)) ((v44.2.2.2.1))) (fun v48 =>
       zl (f1_lw_emit v42 0 ((v44.2.2.1)) ((v44.1)) ((v44.2.1)) ((v44.2.2.2.1))) (fun v49 =>
       some (v46, v47, v48, v49, (v44.2.2.2.2.1), (v44.2.2.2.2.2.1), (v44.2.2.2.2.2.2))))))))))
      else
       bif decide (v42 = 62) then
        zl (f0_tx_skip ((v41.2.2.2.2.2.2))) (fun v50 =>
        zbd (Q_lr_readAmount y a1 ((v41.1)) ((v41.2.1)) ((v41.2.2.1)) ((v41.2.2.2.1)) (f40_1) ((v41.2.2.2.2.1)) ((v41.2.2.2.2.2.1)) v50) (fun v51 =>
        zg (g_lw_emit v42 0 ((v51.2.2.1)) ((v51.1)) ((v51.2.1)) ((v51.2.2.2.1))) (
        zl (w_lw_emit v42 0 ((v51.2.2.1)) ((v51.1)) ((v51.2.1)) ((v51.2.2.2.1))) (fun v52 =>
        zl (a0_lw_emit v42 0 ((v51.2.2.1)) ((v51.1)) ((v51.2.1)) ((v51.2.2.2.1))) (fun v53 =>
        zl (a1_lw_emit v42 0 ((v51.2.2.1)) ((v51.1)) ((v51.2.1)) ((v51.2.2.2.1))) (fun v54 =>
        zl (f0_lw_emit v42 0 ((v51.2.2.1)) ((v51.1)) ((v51.2.1)) ((v51.2.2.2.1))) (fun v55 =>
        zl (f1_lw_emit v42 0 ((v51.2.2.1)) ((v51.1)) ((v51.2.1)) ((v51.2.2.2.1))) (fun v56 =>
        some (v53, v54, v55, v56, (v51.2.2.2.2.1), (v51.2.2.2.2.2.1), (v51.2.2.2.2.2.2))))))))))
       else
        bif !decide (v42 = 61) then
         zl (f0_tx_fail 1 ((v41.2.2.2.2.2.2)) ((v41.2.2.2.2.1)) ((v41.2.2.2.2.2.1))) (fun v57 =>
         zl (f1_tx_fail 1 ((v41.2.2.2.2.2.2)) ((v41.2.2.2.2.1)) ((v41.2.2.2.2.2.1))) (fun v58 =>
         some (((v41.1)), ((v41.2.1)), (v41.2.2.1), (v41.2.2.2.1), v57, v58, (v41.2.2.2.2.2.2))))
        else
         zl (f0_tx_skip ((v41.2.2.2.2.2.2))) (fun v59 =>
         zbd (Q_lr_readAmount y a1 ((v41.1)) ((v41.2.1)) ((v41.2.2.1)) ((v41.2.2.2.1)) (f40_1) ((v41.2.2.2.2.1)) ((v41.2.2.2.2.2.1)) v59) (fun v60 =>
         zg (g_lw_emit v42 0 ((v60.2.2.1)) ((v60.1)) ((v60.2.1)) ((v60.2.2.2.1))) (
         zl (w_lw_emit v42 0 ((v60.2.2.1)) ((v60.1)) ((v60.2.1)) ((v60.2.2.2.1))) (fun v61 =>
         zl (a0_lw_emit v42 0 ((v60.2.2.1)) ((v60.1)) ((v60.2.1)) ((v60.2.2.2.1))) (fun v62 =>
         zl (a1_lw_emit v42 0 ((v60.2.2.1)) ((v60.1)) ((v60.2.1)) ((v60.2.2.2.1))) (fun v63 =>
         zl (f0_lw_emit v42 0 ((v60.2.2.1)) ((v60.1)) ((v60.2.1)) ((v60.2.2.2.1))) (fun v64 =>
         zl (f1_lw_emit v42 0 ((v60.2.2.1)) ((v60.1)) ((v60.2.1)) ((v60.2.2.2.1))) (fun v65 =>
         some (v62, v63, v64, v65, (v60.2.2.2.2.1), (v60.2.2.2.2.2.1), (v60.2.2.2.2.2.2)))))))))))))
     else
      zl (f0_tx_skip (f40_4)) (fun v66 =>
      zbd (Q_lr_readCondition (y + 1) a1 a24 a25 (f23_7) (f23_8) (f40_1) (f40_2) (f40_3) v66) (fun v67 =>
      zg (g_tx_expect 41 ((v67.2.2.2.2.1)) ((v67.2.2.2.2.2.2)) (f40_1) a1 ((v67.2.2.2.2.2.1))) (
      zl (f0_tx_expect 41 ((v67.2.2.2.2.1)) ((v67.2.2.2.2.2.2)) (f40_1) a1 ((v67.2.2.2.2.2.1))) (fun v68 =>
      zl (f1_tx_expect 41 ((v67.2.2.2.2.1)) ((v67.2.2.2.2.2.2)) (f40_1) a1 ((v67.2.2.2.2.2.1))) (fun v69 =>
      zl (f2_tx_expect 41 ((v67.2.2.2.2.1)) ((v67.2.2.2.2.2.2)) (f40_1) a1 ((v67.2.2.2.2.2.1))) (fun v70 =>
      some (((v67.1)), ((v67.2.1)), (v67.2.2.1), (v67.2.2.2.1), v68, v69, v70)))))))
    else
     zl (f0_tx_skip (f40_4)) (fun v71 =>
     zbd (Q_lr_readTest (y + 1) a1 a24 a25 (f23_7) (f23_8) (f40_1) (f40_2) (f40_3) v71) (fun v72 =>
     zg (g_lw_emit 3 0 ((v72.2.2.1)) ((v72.1)) ((v72.2.1)) ((v72.2.2.2.1))) (
     zl (w_lw_emit 3 0 ((v72.2.2.1)) ((v72.1)) ((v72.2.1)) ((v72.2.2.2.1))) (fun v73 =>
     zl (a0_lw_emit 3 0 ((v72.2.2.1)) ((v72.1)) ((v72.2.1)) ((v72.2.2.2.1))) (fun v74 =>
     zl (a1_lw_emit 3 0 ((v72.2.2.1)) ((v72.1)) ((v72.2.1)) ((v72.2.2.2.1))) (fun v75 =>
     zl (f0_lw_emit 3 0 ((v72.2.2.1)) ((v72.1)) ((v72.2.1)) ((v72.2.2.2.1))) (fun v76 =>
     zl (f1_lw_emit 3 0 ((v72.2.2.1)) ((v72.1)) ((v72.2.1)) ((v72.2.2.2.1))) (fun v77 =>
     some (v74, v75, v76, v77, (v72.2.2.2.2.1), (v72.2.2.2.2.2.1), (v72.2.2.2.2.2.2))))))))))
   else
    bif decide (y < 6) then
     bif !decide (v1 = 33) then
      bif !decide (v1 = 40) then
       zbd (Q_lr_readAmount y a1 a24 a25 (f23_7) (f23_8) (f40_1) (f40_2) (f40_3) (f40_4)) (fun v78 =>
       zg (g_tx_sign ((v78.2.2.2.2.1)) ((v78.2.2.2.2.2.2)) (f40_1) a1) (
       zl (w_tx_sign ((v78.2.2.2.2.1)) ((v78.2.2.2.2.2.2)) (f40_1) a1) (fun v79 =>
       bif decide (v79 = 60) then
        zl (f0_tx_skip ((v78.2.2.2.2.2.2))) (fun v80 =>
        zbd (Q_lr_readAmount y a1 ((v78.1)) ((v78.2.1)) ((v78.2.2.1)) ((v78.2.2.2.1)) (f40_1) ((v78.2.2.2.2.1)) ((v78.2.2.2.2.2.1)) v80) (fun v81 =>
        zg (g_lw_emit v79 0 ((v81.2.2.1)) ((v81.1)) ((v81.2.1)) ((v81.2.2.2.1))) (
        zl (w_lw_emit v79 0 ((v81.2.2.1)) ((v81.1)) ((v81.2.1)) ((v81.2.2.2.1))) (fun v82 =>
        zl (a0_lw_emit v79 0 ((v81.2.2.1)) ((v81.1)) ((v81.2.1)) ((v81.2.2.2.1))) (fun v83 =>
        zl (a1_lw_emit v79 0 ((v81.2.2.1)) ((v81.1)) ((v81.2.1)) ((v81.2.2.2.1))) (fun v84 =>
        zl (f0_lw_emit v79 0 ((v81.2.2.1)) ((v81.1)) ((v81.2.1)) ((v81.2.2.2.1))) (fun v85 =>
        zl (f1_lw_emit v79 0 ((v81.2.2.1)) ((v81.1)) ((v81.2.1)) ((v81.2.2.2.1))) (fun v86 =>
        some (v83, v84, v85, v86, (v81.2.2.2.2.1), (v81.2.2.2.2.2.1), (v81.2.2.2.2.2.2))))))))))
       else
        bif decide (v79 = 62) then
         zl (f0_tx_skip ((v78.2.2.2.2.2.2))) (fun v87 =>
         zbd (Q_lr_readAmount y a1 ((v78.1)) ((v78.2.1)) ((v78.2.2.1)) ((v78.2.2.2.1)) (f40_1) ((v78.2.2.2.2.1)) ((v78.2.2.2.2.2.1)) v87) (fun v88 =>
         zg (g_lw_emit v79 0 ((v88.2.2.1)) ((v88.1)) ((v88.2.1)) ((v88.2.2.2.1))) (
         zl (w_lw_emit v79 0 ((v88.2.2.1)) ((v88.1)) ((v88.2.1)) ((v88.2.2.2.1))) (fun v89 =>
         zl (a0_lw_emit v79 0 ((v88.2.2.1)) ((v88.1)) ((v88.2.1)) ((v88.2.2.2.1))) (fun v90 =>
         zl (a1_lw_emit v79 0 ((v88.2.2.1)) ((v88.1)) ((v88.2.1)) ((v88.2.2.2.1))) (fun v91 =>
         zl (f0_lw_emit v79 0 ((v88.2.2.1)) ((v88.1)) ((v88.2.1)) ((v88.2.2.2.1))) (fun v92 =>
         zl (f1_lw_emit v79 0 ((v88.2.2.1)) ((v88.1)) ((v88.2.1)) ((v88.2.2.2.1))) (fun v93 =>
         some (v90, v91, v92, v93, (v88.2.2.2.2.1), (v88.2.2.2.2.2.1), (v88.2.2.2.2.2.2))))))))))
        else
         bif !decide (v79 = 61) then
          zl (f0_tx_fail 1 ((v78.2.2.2.2.2.2)) ((v78.2.2.2.2.1)) ((v78.2.2.2.2.2.1))) (fun v94 =>
          zl (f1_tx_fail 1 ((v78.2.2.2.2.2.2)) ((v78.2.2.2.2.1)) ((v78.2.2.2.2.2.1))) (fun v95 =>
          some (((v78.1)), ((v78.2.1)), (v78.2.2.1), (v78.2.2.2.1), v94, v95, (v78.2.2.2.2.2.2))))
         else
          zl (f0_tx_skip ((v78.2.2.2.2.2.2))) (fun v96 =>
          zbd (Q_lr_readAmount y a1 ((v78.1)) ((v78.2.1)) ((v78.2.2.1)) ((v78.2.2.2.1)) (f40_1) ((v78.2.2.2.2.1)) ((v78.2.2.2.2.2.1)) v96) (fun v97 =>
          zg (g_lw_emit v79 0 ((v97.2.2.1)) ((v97.1)) ((v97.2.1)) ((v97.2.2.2.1))) (
          zl (w_lw_emit v79 0 ((v97.2.2.1)) ((v97.1)) ((v97.2.1)) ((v97.2.2.2.1))) (fun v98 =>
          zl (a0_lw_emit v79 0 ((v97.2.2.1)) ((v97.1)) ((v97.2.1)) ((v97.2.2.2.1))) (fun v99 =>
          zl (a1_lw_emit v79 0 ((v97.2.2.1)) ((v97.1)) ((v97.2.1)) ((v97.2.2.2.1))) (fun v100 =>
          zl (f0_lw_emit v79 0 ((v97.2.2.1)) ((v97.1)) ((v97.2.1)) ((v97.2.2.2.1))) (fun v101 =>
          zl (f1_lw_emit v79 0 ((v97.2.2.1)) ((v97.1)) ((v97.2.1)) ((v97.2.2.2.1))) (fun v102 =>
          some (v99, v100, v101, v102, (v97.2.2.2.2.1), (v97.2.2.2.2.2.1), (v97.2.2.2.2.2.2)))))))))))))
      else
       zl (f0_tx_skip (f40_4)) (fun v103 =>
       zbd (Q_lr_readCondition (y + 1) a1 a24 a25 (f23_7) (f23_8) (f40_1) (f40_2) (f40_3) v103) (fun v104 =>
       zg (g_tx_expect 41 ((v104.2.2.2.2.1)) ((v104.2.2.2.2.2.2)) (f40_1) a1 ((v104.2.2.2.2.2.1))) (
       zl (f0_tx_expect 41 ((v104.2.2.2.2.1)) ((v104.2.2.2.2.2.2)) (f40_1) a1 ((v104.2.2.2.2.2.1))) (fun v105 =>
       zl (f1_tx_expect 41 ((v104.2.2.2.2.1)) ((v104.2.2.2.2.2.2)) (f40_1) a1 ((v104.2.2.2.2.2.1))) (fun v106 =>
       zl (f2_tx_expect 41 ((v104.2.2.2.2.1)) ((v104.2.2.2.2.2.2)) (f40_1) a1 ((v104.2.2.2.2.2.1))) (fun v107 =>
       some (((v104.1)), ((v104.2.1)), (v104.2.2.1), (v104.2.2.2.1), v105, v106, v107)))))))
     else
      zl (f0_tx_skip (f40_4)) (fun v108 =>
      zbd (Q_lr_readTest (y + 1) a1 a24 a25 (f23_7) (f23_8) (f40_1) (f40_2) (f40_3) v108) (fun v109 =>
      zg (g_lw_emit 3 0 ((v109.2.2.1)) ((v109.1)) ((v109.2.1)) ((v109.2.2.2.1))) (
      zl (w_lw_emit 3 0 ((v109.2.2.1)) ((v109.1)) ((v109.2.1)) ((v109.2.2.2.1))) (fun v110 =>
      zl (a0_lw_emit 3 0 ((v109.2.2.1)) ((v109.1)) ((v109.2.1)) ((v109.2.2.2.1))) (fun v111 =>
      zl (a1_lw_emit 3 0 ((v109.2.2.1)) ((v109.1)) ((v109.2.1)) ((v109.2.2.2.1))) (fun v112 =>
      zl (f0_lw_emit 3 0 ((v109.2.2.1)) ((v109.1)) ((v109.2.1)) ((v109.2.2.2.1))) (fun v113 =>
      zl (f1_lw_emit 3 0 ((v109.2.2.1)) ((v109.1)) ((v109.2.1)) ((v109.2.2.2.1))) (fun v114 =>
      some (v111, v112, v113, v114, (v109.2.2.2.2.1), (v109.2.2.2.2.2.1), (v109.2.2.2.2.2.2))))))))))
    else
     zl (f0_tx_fail 5 (f40_4) (f40_2) (f40_3)) (fun v115 =>
     zl (f1_tx_fail 5 (f40_4) (f40_2) (f40_3)) (fun v116 =>
     some (a24, a25, f23_7, f23_8, v115, v116, f40_4)))))
theorem hF17_lr_readTest (F : Nat → Nat → Int32) (w0 w1 : Int32) : (zuf (zuf F 40 2 w0) 40 3 w1) = (zuf (zuf (zuf (zuf (zuf F 31 7 (F 31 7)) 31 8 (F 31 8)) 40 2 w0) 40 3 w1) 40 4 (F 40 4)) := zufk_ix F [((40, 2), w0), ((40, 3), w1)] [((31, 7), none), ((31, 8), none), ((40, 2), some 0), ((40, 3), some 1), ((40, 4), none)] rfl
theorem hA16_lr_readTest (F : Nat → Nat → Int32) : F = (zua (zua F 32 (F 32)) 33 (F 33)) := zuak_ix F [] [(32, none), (33, none)] rfl
theorem hF15_lr_readTest (F : Nat → Nat → Int32) (w0 w1 w2 w3 w4 w5 w6 w7 : Int32) : (zuf (zuf (zuf (zuf (zuf (zuf (zuf (zuf F 40 4 w0) 31 7 w1) 31 8 w2) 40 2 w3) 40 3 w4) 40 4 w5) 31 7 w6) 31 8 w7) = (zuf (zuf (zuf (zuf (zuf F 31 7 w6) 31 8 w7) 40 2 w3) 40 3 w4) 40 4 w5) := zufk_ix F [((40, 4), w0), ((31, 7), w1), ((31, 8), w2), ((40, 2), w3), ((40, 3), w4), ((40, 4), w5), ((31, 7), w6), ((31, 8), w7)] [((31, 7), some 6), ((31, 8), some 7), ((40, 2), some 3), ((40, 3), some 4), ((40, 4), some 5)] rfl
theorem hA14_lr_readTest (F : Nat → Nat → Int32) (w0 w1 w2 w3 : Nat → Int32) : (zua (zua (zua (zua F 32 w0) 33 w1) 32 w2) 33 w3) = (zua (zua F 32 w2) 33 w3) := zuak_ix F [(32, w0), (33, w1), (32, w2), (33, w3)] [(32, some 2), (33, some 3)] rfl
theorem hF13_lr_readTest (F : Nat → Nat → Int32) (w0 w1 w2 w3 w4 w5 w6 w7 w8 : Int32) : (zuf (zuf (zuf (zuf (zuf (zuf (zuf (zuf (zuf F 40 4 w0) 31 7 w1) 31 8 w2) 40 2 w3) 40 3 w4) 40 4 w5) 40 2 w6) 40 3 w7) 40 4 w8) = (zuf (zuf (zuf (zuf (zuf F 31 7 w1) 31 8 w2) 40 2 w6) 40 3 w7) 40 4 w8) := zufk_ix F [((40, 4), w0), ((31, 7), w1), ((31, 8), w2), ((40, 2), w3), ((40, 3), w4), ((40, 4), w5), ((40, 2), w6), ((40, 3), w7), ((40, 4), w8)] [((31, 7), some 1), ((31, 8), some 2), ((40, 2), some 6), ((40, 3), some 7), ((40, 4), some 8)] rfl
theorem hF12_lr_readTest (F : Nat → Nat → Int32) (w0 w1 w2 w3 w4 w5 w6 : Int32) : (zuf (zuf (zuf (zuf (zuf (zuf (zuf F 31 7 w0) 31 8 w1) 40 2 w2) 40 3 w3) 40 4 w4) 40 2 w5) 40 3 w6) = (zuf (zuf (zuf (zuf (zuf F 31 7 w0) 31 8 w1) 40 2 w5) 40 3 w6) 40 4 w4) := zufk_ix F [((31, 7), w0), ((31, 8), w1), ((40, 2), w2), ((40, 3), w3), ((40, 4), w4), ((40, 2), w5), ((40, 3), w6)] [((31, 7), some 0), ((31, 8), some 1), ((40, 2), some 5), ((40, 3), some 6), ((40, 4), some 4)] rfl
theorem hA11_lr_readTest (F : Nat → Nat → Int32) (w0 w1 : Nat → Int32) : (zua (zua F 32 w0) 33 w1) = (zua (zua F 32 w0) 33 w1) := zuak_ix F [(32, w0), (33, w1)] [(32, some 0), (33, some 1)] rfl
theorem hF10_lr_readTest (F : Nat → Nat → Int32) (w0 w1 w2 w3 w4 w5 w6 w7 w8 w9 w10 w11 w12 : Int32) : (zuf (zuf (zuf (zuf (zuf (zuf (zuf (zuf (zuf (zuf (zuf (zuf (zuf F 31 7 w0) 31 8 w1) 40 2 w2) 40 3 w3) 40 4 w4) 40 4 w5) 31 7 w6) 31 8 w7) 40 2 w8) 40 3 w9) 40 4 w10) 31 7 w11) 31 8 w12) = (zuf (zuf (zuf (zuf (zuf F 31 7 w11) 31 8 w12) 40 2 w8) 40 3 w9) 40 4 w10) := zufk_ix F [((31, 7), w0), ((31, 8), w1), ((40, 2), w2), ((40, 3), w3), ((40, 4), w4), ((40, 4), w5), ((31, 7), w6), ((31, 8), w7), ((40, 2), w8), ((40, 3), w9), ((40, 4), w10), ((31, 7), w11), ((31, 8), w12)] [((31, 7), some 11), ((31, 8), some 12), ((40, 2), some 8), ((40, 3), some 9), ((40, 4), some 10)] rfl
theorem hA9_lr_readTest (F : Nat → Nat → Int32) (w0 w1 w2 w3 w4 w5 : Nat → Int32) : (zua (zua (zua (zua (zua (zua F 32 w0) 33 w1) 32 w2) 33 w3) 32 w4) 33 w5) = (zua (zua F 32 w4) 33 w5) := zuak_ix F [(32, w0), (33, w1), (32, w2), (33, w3), (32, w4), (33, w5)] [(32, some 4), (33, some 5)] rfl
theorem hF8_lr_readTest (F : Nat → Nat → Int32) (w0 w1 : Int32) : (zuf (zuf F 40 2 w0) 40 3 w1) = (zuf (zuf (zuf (zuf (zuf F 23 7 (F 23 7)) 23 8 (F 23 8)) 40 2 w0) 40 3 w1) 40 4 (F 40 4)) := zufk_ix F [((40, 2), w0), ((40, 3), w1)] [((23, 7), none), ((23, 8), none), ((40, 2), some 0), ((40, 3), some 1), ((40, 4), none)] rfl
theorem hA7_lr_readTest (F : Nat → Nat → Int32) : F = (zua (zua F 24 (F 24)) 25 (F 25)) := zuak_ix F [] [(24, none), (25, none)] rfl
theorem hF6_lr_readTest (F : Nat → Nat → Int32) (w0 w1 w2 w3 w4 w5 w6 w7 : Int32) : (zuf (zuf (zuf (zuf (zuf (zuf (zuf (zuf F 40 4 w0) 23 7 w1) 23 8 w2) 40 2 w3) 40 3 w4) 40 4 w5) 23 7 w6) 23 8 w7) = (zuf (zuf (zuf (zuf (zuf F 23 7 w6) 23 8 w7) 40 2 w3) 40 3 w4) 40 4 w5) := zufk_ix F [((40, 4), w0), ((23, 7), w1), ((23, 8), w2), ((40, 2), w3), ((40, 3), w4), ((40, 4), w5), ((23, 7), w6), ((23, 8), w7)] [((23, 7), some 6), ((23, 8), some 7), ((40, 2), some 3), ((40, 3), some 4), ((40, 4), some 5)] rfl
theorem hA5_lr_readTest (F : Nat → Nat → Int32) (w0 w1 w2 w3 : Nat → Int32) : (zua (zua (zua (zua F 24 w0) 25 w1) 24 w2) 25 w3) = (zua (zua F 24 w2) 25 w3) := zuak_ix F [(24, w0), (25, w1), (24, w2), (25, w3)] [(24, some 2), (25, some 3)] rfl
theorem hF4_lr_readTest (F : Nat → Nat → Int32) (w0 w1 w2 w3 w4 w5 w6 w7 w8 : Int32) : (zuf (zuf (zuf (zuf (zuf (zuf (zuf (zuf (zuf F 40 4 w0) 23 7 w1) 23 8 w2) 40 2 w3) 40 3 w4) 40 4 w5) 40 2 w6) 40 3 w7) 40 4 w8) = (zuf (zuf (zuf (zuf (zuf F 23 7 w1) 23 8 w2) 40 2 w6) 40 3 w7) 40 4 w8) := zufk_ix F [((40, 4), w0), ((23, 7), w1), ((23, 8), w2), ((40, 2), w3), ((40, 3), w4), ((40, 4), w5), ((40, 2), w6), ((40, 3), w7), ((40, 4), w8)] [((23, 7), some 1), ((23, 8), some 2), ((40, 2), some 6), ((40, 3), some 7), ((40, 4), some 8)] rfl
theorem hF3_lr_readTest (F : Nat → Nat → Int32) (w0 w1 w2 w3 w4 w5 w6 : Int32) : (zuf (zuf (zuf (zuf (zuf (zuf (zuf F 23 7 w0) 23 8 w1) 40 2 w2) 40 3 w3) 40 4 w4) 40 2 w5) 40 3 w6) = (zuf (zuf (zuf (zuf (zuf F 23 7 w0) 23 8 w1) 40 2 w5) 40 3 w6) 40 4 w4) := zufk_ix F [((23, 7), w0), ((23, 8), w1), ((40, 2), w2), ((40, 3), w3), ((40, 4), w4), ((40, 2), w5), ((40, 3), w6)] [((23, 7), some 0), ((23, 8), some 1), ((40, 2), some 5), ((40, 3), some 6), ((40, 4), some 4)] rfl
theorem hA2_lr_readTest (F : Nat → Nat → Int32) (w0 w1 : Nat → Int32) : (zua (zua F 24 w0) 25 w1) = (zua (zua F 24 w0) 25 w1) := zuak_ix F [(24, w0), (25, w1)] [(24, some 0), (25, some 1)] rfl
theorem hF1_lr_readTest (F : Nat → Nat → Int32) (w0 w1 w2 w3 w4 w5 w6 w7 w8 w9 w10 w11 w12 : Int32) : (zuf (zuf (zuf (zuf (zuf (zuf (zuf (zuf (zuf (zuf (zuf (zuf (zuf F 23 7 w0) 23 8 w1) 40 2 w2) 40 3 w3) 40 4 w4) 40 4 w5) 23 7 w6) 23 8 w7) 40 2 w8) 40 3 w9) 40 4 w10) 23 7 w11) 23 8 w12) = (zuf (zuf (zuf (zuf (zuf F 23 7 w11) 23 8 w12) 40 2 w8) 40 3 w9) 40 4 w10) := zufk_ix F [((23, 7), w0), ((23, 8), w1), ((40, 2), w2), ((40, 3), w3), ((40, 4), w4), ((40, 4), w5), ((23, 7), w6), ((23, 8), w7), ((40, 2), w8), ((40, 3), w9), ((40, 4), w10), ((23, 7), w11), ((23, 8), w12)] [((23, 7), some 11), ((23, 8), some 12), ((40, 2), some 8), ((40, 3), some 9), ((40, 4), some 10)] rfl
theorem hA0_lr_readTest (F : Nat → Nat → Int32) (w0 w1 w2 w3 w4 w5 : Nat → Int32) : (zua (zua (zua (zua (zua (zua F 24 w0) 25 w1) 24 w2) 25 w3) 24 w4) 25 w5) = (zua (zua F 24 w4) 25 w5) := zuak_ix F [(24, w0), (25, w1), (24, w2), (25, w3), (24, w4), (25, w5)] [(24, some 4), (25, some 5)] rfl
def O_lr_readTest_39_23 (ar fi : Nat → Nat → Int32) (m1 : Nat) (m2 : Nat) (m4 : Nat) (m5 : Nat) (t : T_lr_readTest) : zO2 := match t with
  | (t0, t1, t2, t3, t4, t5, t6) => (none, ((zua (zua ar 24 t0) 25 t1), (zuf (zuf (zuf (zuf (zuf fi 23 7 t2) 23 8 t3) 40 2 t4) 40 3 t5) 40 4 t6), (m1, m2, 1, m4, m5)))
set_option maxRecDepth 1000000 in
theorem t_lr_readTest_39_23 {X : Nat × (Nat → Int32)} {ar fi : Nat → Nat → Int32} {m1 m2 m4 m5 : Nat} {y : Int32} {G_tx_sign : Int32 → Int32 → Int32 → (Nat → Int32) → Bool} {W_tx_sign : Int32 → Int32 → Int32 → (Nat → Int32) → Int32} {F0_tx_fail : Int32 → Int32 → Int32 → Int32 → Int32} {F1_tx_fail : Int32 → Int32 → Int32 → Int32 → Int32} {F0_tx_skip : Int32 → Int32} {Q_lr_readTest : Int32 → (Nat → Int32) → (Nat → Int32) → (Nat → Int32) → Int32 → Int32 → Int32 → Int32 → Int32 → Int32 → Option ((Nat → Int32) × (Nat → Int32) × Int32 × Int32 × Int32 × Int32 × Int32)} {G_lw_emit : Int32 → Int32 → Int32 → (Nat → Int32) → (Nat → Int32) → Int32 → Bool} {W_lw_emit : Int32 → Int32 → Int32 → (Nat → Int32) → (Nat → Int32) → Int32 → Int32} {A0_lw_emit : Int32 → Int32 → Int32 → (Nat → Int32) → (Nat → Int32) → Int32 → Nat → Int32} {A1_lw_emit : Int32 → Int32 → Int32 → (Nat → Int32) → (Nat → Int32) → Int32 → Nat → Int32} {F0_lw_emit : Int32 → Int32 → Int32 → (Nat → Int32) → (Nat → Int32) → Int32 → Int32} {F1_lw_emit : Int32 → Int32 → Int32 → (Nat → Int32) → (Nat → Int32) → Int32 → Int32} {Q_lr_readCondition : Int32 → (Nat → Int32) → (Nat → Int32) → (Nat → Int32) → Int32 → Int32 → Int32 → Int32 → Int32 → Int32 → Option ((Nat → Int32) × (Nat → Int32) × Int32 × Int32 × Int32 × Int32 × Int32)} {G_tx_expect : Int32 → Int32 → Int32 → Int32 → (Nat → Int32) → Int32 → Bool} {F0_tx_expect : Int32 → Int32 → Int32 → Int32 → (Nat → Int32) → Int32 → Int32} {F1_tx_expect : Int32 → Int32 → Int32 → Int32 → (Nat → Int32) → Int32 → Int32} {F2_tx_expect : Int32 → Int32 → Int32 → Int32 → (Nat → Int32) → Int32 → Int32} {Q_lr_readAmount : Int32 → (Nat → Int32) → (Nat → Int32) → (Nat → Int32) → Int32 → Int32 → Int32 → Int32 → Int32 → Int32 → Option ((Nat → Int32) × (Nat → Int32) × Int32 × Int32 × Int32 × Int32 × Int32)} : zseg X zFT (zEx 93 (P_tx_sign G_tx_sign W_tx_sign) (zEx 97 (P_tx_fail F0_tx_fail F1_tx_fail) (zEx 95 (P_tx_skip F0_tx_skip) (zEx 52 (P_lr_readTest Q_lr_readTest) (zEx 40 (P_lw_emit G_lw_emit W_lw_emit A0_lw_emit A1_lw_emit F0_lw_emit F1_lw_emit) (zEx 51 (P_lr_readCondition Q_lr_readCondition) (zEx 96 (P_tx_expect G_tx_expect F0_tx_expect F1_tx_expect F2_tx_expect) (zEx 53 (P_lr_readAmount Q_lr_readAmount) zE0)))))))) zc_52 (fun p => false) 400 0 [.ref 39, .ref 23, .int y] [] (ar, fi, (m1, m2, 1, m4, m5)) = (
  zg (G_tx_sign (fi 40 2) (fi 40 4) (fi 40 1) (ar 1)) (
  zl (W_tx_sign (fi 40 2) (fi 40 4) (fi 40 1) (ar 1)) (fun v1 =>
  bif decide (v1 = 33) then
   bif decide (y < 6) then
    bif !decide (v1 = 33) then
     bif !decide (v1 = 40) then
      zl (Q_lr_readAmount y (ar 1) (ar 24) (ar 25) (fi 23 7) (fi 23 8) (fi 40 1) (fi 40 2) (fi 40 3) (fi 40 4)) (fun v2 => zg v2.isSome (
      zg (G_tx_sign (((zgt v2).2.2.2.2.1)) (((zgt v2).2.2.2.2.2.2)) (fi 40 1) (ar 1)) (
      zl (W_tx_sign (((zgt v2).2.2.2.2.1)) (((zgt v2).2.2.2.2.2.2)) (fi 40 1) (ar 1)) (fun v3 =>
      bif decide (v3 = 60) then
       zl (F0_tx_skip (((zgt v2).2.2.2.2.2.2))) (fun v4 =>
       zl (Q_lr_readAmount y (ar 1) (((zgt v2).1)) (((zgt v2).2.1)) (((zgt v2).2.2.1)) (((zgt v2).2.2.2.1)) (fi 40 1) (((zgt v2).2.2.2.2.1)) (((zgt v2).2.2.2.2.2.1)) v4) (fun v5 => zg v5.isSome (
       zg (G_lw_emit v3 0 (((zgt v5).2.2.1)) (((zgt v5).1)) (((zgt v5).2.1)) (((zgt v5).2.2.2.1))) (
       zl (W_lw_emit v3 0 (((zgt v5).2.2.1)) (((zgt v5).1)) (((zgt v5).2.1)) (((zgt v5).2.2.2.1))) (fun v6 =>
       zl (A0_lw_emit v3 0 (((zgt v5).2.2.1)) (((zgt v5).1)) (((zgt v5).2.1)) (((zgt v5).2.2.2.1))) (fun v7 =>
       zl (A1_lw_emit v3 0 (((zgt v5).2.2.1)) (((zgt v5).1)) (((zgt v5).2.1)) (((zgt v5).2.2.2.1))) (fun v8 =>
       zl (F0_lw_emit v3 0 (((zgt v5).2.2.1)) (((zgt v5).1)) (((zgt v5).2.1)) (((zgt v5).2.2.2.1))) (fun v9 =>
       zl (F1_lw_emit v3 0 (((zgt v5).2.2.1)) (((zgt v5).1)) (((zgt v5).2.1)) (((zgt v5).2.2.2.1))) (fun v10 =>
       some (.inr (none, ((zua (zua (zua (zua (zua (zua ar 24 (((zgt v2).1))) 25 (((zgt v2).2.1))) 24 (((zgt v5).1))) 25 (((zgt v5).2.1))) 24 v7) 25 v8), (zuf (zuf (zuf (zuf (zuf (zuf (zuf (zuf (zuf (zuf (zuf (zuf (zuf fi 23 7 (((zgt v2).2.2.1))) 23 8 (((zgt v2).2.2.2.1))) 40 2 (((zgt v2).2.2.2.2.1))) 40 3 (((zgt v2).2.2.2.2.2.1))) 40 4 (((zgt v2).2.2.2.2.2.2))) 40 4 v4) 23 7 (((zgt v5).2.2.1))) 23 8 (((zgt v5).2.2.2.1))) 40 2 (((zgt v5).2.2.2.2.1))) 40 3 (((zgt v5).2.2.2.2.2.1))) 40 4 (((zgt v5).2.2.2.2.2.2))) 23 7 v9) 23 8 v10), (m1, m2, 1, m4, m5)))))))))))))
      else
       bif decide (v3 = 62) then
        zl (F0_tx_skip (((zgt v2).2.2.2.2.2.2))) (fun v11 =>
        zl (Q_lr_readAmount y (ar 1) (((zgt v2).1)) (((zgt v2).2.1)) (((zgt v2).2.2.1)) (((zgt v2).2.2.2.1)) (fi 40 1) (((zgt v2).2.2.2.2.1)) (((zgt v2).2.2.2.2.2.1)) v11) (fun v12 => zg v12.isSome (
        zg (G_lw_emit v3 0 (((zgt v12).2.2.1)) (((zgt v12).1)) (((zgt v12).2.1)) (((zgt v12).2.2.2.1))) (
        zl (W_lw_emit v3 0 (((zgt v12).2.2.1)) (((zgt v12).1)) (((zgt v12).2.1)) (((zgt v12).2.2.2.1))) (fun v13 =>
        zl (A0_lw_emit v3 0 (((zgt v12).2.2.1)) (((zgt v12).1)) (((zgt v12).2.1)) (((zgt v12).2.2.2.1))) (fun v14 =>
        zl (A1_lw_emit v3 0 (((zgt v12).2.2.1)) (((zgt v12).1)) (((zgt v12).2.1)) (((zgt v12).2.2.2.1))) (fun v15 =>
        zl (F0_lw_emit v3 0 (((zgt v12).2.2.1)) (((zgt v12).1)) (((zgt v12).2.1)) (((zgt v12).2.2.2.1))) (fun v16 =>
        zl (F1_lw_emit v3 0 (((zgt v12).2.2.1)) (((zgt v12).1)) (((zgt v12).2.1)) (((zgt v12).2.2.2.1))) (fun v17 =>
        some (.inr (none, ((zua (zua (zua (zua (zua (zua ar 24 (((zgt v2).1))) 25 (((zgt v2).2.1))) 24 (((zgt v12).1))) 25 (((zgt v12).2.1))) 24 v14) 25 v15), (zuf (zuf (zuf (zuf (zuf (zuf (zuf (zuf (zuf (zuf (zuf (zuf (zuf fi 23 7 (((zgt v2).2.2.1))) 23 8 (((zgt v2).2.2.2.1))) 40 2 (((zgt v2).2.2.2.2.1))) 40 3 (((zgt v2).2.2.2.2.2.1))) 40 4 (((zgt v2).2.2.2.2.2.2))) 40 4 v11) 23 7 (((zgt v12).2.2.1))) 23 8 (((zgt v12).2.2.2.1))) 40 2 (((zgt v12).2.2.2.2.1))) 40 3 (((zgt v12).2.2.2.2.2.1))) 40 4 (((zgt v12).2.2.2.2.2.2))) 23 7 v16) 23 8 v17), (m1, m2, 1, m4, m5)))))))))))))
       else
        bif !decide (v3 = 61) then
         zl (F0_tx_fail 1 (((zgt v2).2.2.2.2.2.2)) (((zgt v2).2.2.2.2.1)) (((zgt v2).2.2.2.2.2.1))) (fun v18 =>
         zl (F1_tx_fail 1 (((zgt v2).2.2.2.2.2.2)) (((zgt v2).2.2.2.2.1)) (((zgt v2).2.2.2.2.2.1))) (fun v19 =>
         some (.inr (none, ((zua (zua ar 24 (((zgt v2).1))) 25 (((zgt v2).2.1))), (zuf (zuf (zuf (zuf (zuf (zuf (zuf fi 23 7 (((zgt v2).2.2.1))) 23 8 (((zgt v2).2.2.2.1))) 40 2 (((zgt v2).2.2.2.2.1))) 40 3 (((zgt v2).2.2.2.2.2.1))) 40 4 (((zgt v2).2.2.2.2.2.2))) 40 2 v18) 40 3 v19), (m1, m2, 1, m4, m5))))))
        else
         zl (F0_tx_skip (((zgt v2).2.2.2.2.2.2))) (fun v20 =>
         zl (Q_lr_readAmount y (ar 1) (((zgt v2).1)) (((zgt v2).2.1)) (((zgt v2).2.2.1)) (((zgt v2).2.2.2.1)) (fi 40 1) (((zgt v2).2.2.2.2.1)) (((zgt v2).2.2.2.2.2.1)) v20) (fun v21 => zg v21.isSome (
         zg (G_lw_emit v3 0 (((zgt v21).2.2.1)) (((zgt v21).1)) (((zgt v21).2.1)) (((zgt v21).2.2.2.1))) (
         zl (W_lw_emit v3 0 (((zgt v21).2.2.1)) (((zgt v21).1)) (((zgt v21).2.1)) (((zgt v21).2.2.2.1))) (fun v22 =>
         zl (A0_lw_emit v3 0 (((zgt v21).2.2.1)) (((zgt v21).1)) (((zgt v21).2.1)) (((zgt v21).2.2.2.1))) (fun v23 =>
         zl (A1_lw_emit v3 0 (((zgt v21).2.2.1)) (((zgt v21).1)) (((zgt v21).2.1)) (((zgt v21).2.2.2.1))) (fun v24 =>
         zl (F0_lw_emit v3 0 (((zgt v21).2.2.1)) (((zgt v21).1)) (((zgt v21).2.1)) (((zgt v21).2.2.2.1))) (fun v25 =>
         zl (F1_lw_emit v3 0 (((zgt v21).2.2.1)) (((zgt v21).1)) (((zgt v21).2.1)) (((zgt v21).2.2.2.1))) (fun v26 =>
         some (.inr (none, ((zua (zua (zua (zua (zua (zua ar 24 (((zgt v2).1))) 25 (((zgt v2).2.1))) 24 (((zgt v21).1))) 25 (((zgt v21).2.1))) 24 v23) 25 v24), (zuf (zuf (zuf (zuf (zuf (zuf (zuf (zuf (zuf (zuf (zuf (zuf (zuf fi 23 7 (((zgt v2).2.2.1))) 23 8 (((zgt v2).2.2.2.1))) 40 2 (((zgt v2).2.2.2.2.1))) 40 3 (((zgt v2).2.2.2.2.2.1))) 40 4 (((zgt v2).2.2.2.2.2.2))) 40 4 v20) 23 7 (((zgt v21).2.2.1))) 23 8 (((zgt v21).2.2.2.1))) 40 2 (((zgt v21).2.2.2.2.1))) 40 3 (((zgt v21).2.2.2.2.2.1))) 40 4 (((zgt v21).2.2.2.2.2.2))) 23 7 v25) 23 8 v26), (m1, m2, 1, m4, m5)))))))))))))))))
     else
      zl (F0_tx_skip (fi 40 4)) (fun v27 =>
      zl (Q_lr_readCondition (y + 1) (ar 1) (ar 24) (ar 25) (fi 23 7) (fi 23 8) (fi 40 1) (fi 40 2) (fi 40 3) v27) (fun v28 => zg v28.isSome (
      zg (G_tx_expect 41 (((zgt v28).2.2.2.2.1)) (((zgt v28).2.2.2.2.2.2)) (fi 40 1) (ar 1) (((zgt v28).2.2.2.2.2.1))) (
      zl (F0_tx_expect 41 (((zgt v28).2.2.2.2.1)) (((zgt v28).2.2.2.2.2.2)) (fi 40 1) (ar 1) (((zgt v28).2.2.2.2.2.1))) (fun v29 =>
      zl (F1_tx_expect 41 (((zgt v28).2.2.2.2.1)) (((zgt v28).2.2.2.2.2.2)) (fi 40 1) (ar 1) (((zgt v28).2.2.2.2.2.1))) (fun v30 =>
      zl (F2_tx_expect 41 (((zgt v28).2.2.2.2.1)) (((zgt v28).2.2.2.2.2.2)) (fi 40 1) (ar 1) (((zgt v28).2.2.2.2.2.1))) (fun v31 =>
      some (.inr (none, ((zua (zua ar 24 (((zgt v28).1))) 25 (((zgt v28).2.1))), (zuf (zuf (zuf (zuf (zuf (zuf (zuf (zuf (zuf fi 40 4 v27) 23 7 (((zgt v28).2.2.1))) 23 8 (((zgt v28).2.2.2.1))) 40 2 (((zgt v28).2.2.2.2.1))) 40 3 (((zgt v28).2.2.2.2.2.1))) 40 4 (((zgt v28).2.2.2.2.2.2))) 40 2 v29) 40 3 v30) 40 4 v31), (m1, m2, 1, m4, m5)))))))))))
    else
     zl (F0_tx_skip (fi 40 4)) (fun v32 =>
     zl (Q_lr_readTest (y + 1) (ar 1) (ar 24) (ar 25) (fi 23 7) (fi 23 8) (fi 40 1) (fi 40 2) (fi 40 3) v32) (fun v33 => zg v33.isSome (
     zg (G_lw_emit 3 0 (((zgt v33).2.2.1)) (((zgt v33).1)) (((zgt v33).2.1)) (((zgt v33).2.2.2.1))) (
     zl (W_lw_emit 3 0 (((zgt v33).2.2.1)) (((zgt v33).1)) (((zgt v33).2.1)) (((zgt v33).2.2.2.1))) (fun v34 =>
     zl (A0_lw_emit 3 0 (((zgt v33).2.2.1)) (((zgt v33).1)) (((zgt v33).2.1)) (((zgt v33).2.2.2.1))) (fun v35 =>
     zl (A1_lw_emit 3 0 (((zgt v33).2.2.1)) (((zgt v33).1)) (((zgt v33).2.1)) (((zgt v33).2.2.2.1))) (fun v36 =>
     zl (F0_lw_emit 3 0 (((zgt v33).2.2.1)) (((zgt v33).1)) (((zgt v33).2.1)) (((zgt v33).2.2.2.1))) (fun v37 =>
     zl (F1_lw_emit 3 0 (((zgt v33).2.2.1)) (((zgt v33).1)) (((zgt v33).2.1)) (((zgt v33).2.2.2.1))) (fun v38 =>
     some (.inr (none, ((zua (zua (zua (zua ar 24 (((zgt v33).1))) 25 (((zgt v33).2.1))) 24 v35) 25 v36), (zuf (zuf (zuf (zuf (zuf (zuf (zuf (zuf fi 40 4 v32) 23 7 (((zgt v33).2.2.1))) 23 8 (((zgt v33).2.2.2.1))) 40 2 (((zgt v33).2.2.2.2.1))) 40 3 (((zgt v33).2.2.2.2.2.1))) 40 4 (((zgt v33).2.2.2.2.2.2))) 23 7 v37) 23 8 v38), (m1, m2, 1, m4, m5)))))))))))))
   else
    zl (F0_tx_fail 5 (fi 40 4) (fi 40 2) (fi 40 3)) (fun v39 =>
    zl (F1_tx_fail 5 (fi 40 4) (fi 40 2) (fi 40 3)) (fun v40 =>
    some (.inr (none, (ar, (zuf (zuf fi 40 2 v39) 40 3 v40), (m1, m2, 1, m4, m5))))))
  else
   bif !decide (v1 = 40) then
    bif !decide (v1 = 33) then
     bif !decide (v1 = 40) then
      zl (Q_lr_readAmount y (ar 1) (ar 24) (ar 25) (fi 23 7) (fi 23 8) (fi 40 1) (fi 40 2) (fi 40 3) (fi 40 4)) (fun v41 => zg v41.isSome (
      zg (G_tx_sign (((zgt v41).2.2.2.2.1)) (((zgt v41).2.2.2.2.2.2)) (fi 40 1) (ar 1)) (
      zl (W_tx_sign (((zgt v41).2.2.2.2.1)) (((zgt v41).2.2.2.2.2.2)) (fi 40 1) (ar 1)) (fun v42 =>
      bif decide (v42 = 60) then
       zl (F0_tx_skip (((zgt v41).2.2.2.2.2.2))) (fun v43 =>
       zl (Q_lr_readAmount y (ar 1) (((zgt v41).1)) (((zgt v41).2.1)) (((zgt v41).2.2.1)) (((zgt v41).2.2.2.1)) (fi 40 1) (((zgt v41).2.2.2.2.1)) (((zgt v41).2.2.2.2.2.1)) v43) (fun v44 => zg v44.isSome (
       zg (G_lw_emit v42 0 (((zgt v44).2.2.1)) (((zgt v44).1)) (((zgt v44).2.1)) (((zgt v44).2.2.2.1))) (
       zl (W_lw_emit v42 0 (((zgt v44).2.2.1)) (((zgt v44).1)) (((zgt v44).2.1)) (((zgt v44).2.2.2.1))) (fun v45 =>
       zl (A0_lw_emit v42 0 (((zgt v44).2.2.1)) (((zgt v44).1)) (((zgt v44).2.1)) (((zgt v44).2.2.2.1))) (fun v46 =>
       zl (A1_lw_emit v42 0 (((zgt v44).2.2.1)) (((zgt v44).1)) (((zgt v44).2.1)) (((zgt v44).2.2.2.1))) (fun v47 =>
       zl (F0_lw_emit v42 0 (((zgt v44).2.2.1)) (((zgt v44).1)) (((zgt v44).2.1)) (((zgt v44).2.2.2.1))) (fun v48 =>
       zl (F1_lw_emit v42 0 (((zgt v44).2.2.1)) (((zgt v44).1)) (((zgt v44).2.1)) (((zgt v44).2.2.2.1))) (fun v49 =>
       some (.inr (none, ((zua (zua (zua (zua (zua (zua ar 24 (((zgt v41).1))) 25 (((zgt v41).2.1))) 24 (((zgt v44).1))) 25 (((zgt v44).2.1))) 24 v46) 25 v47), (zuf (zuf (zuf (zuf (zuf (zuf (zuf (zuf (zuf (zuf (zuf (zuf (zuf fi 23 7 (((zgt v41).2.2.1))) 23 8 (((zgt v41).2.2.2.1))) 40 2 (((zgt v41).2.2.2.2.1))) 40 3 (((zgt v41).2.2.2.2.2.1))) 40 4 (((zgt v41).2.2.2.2.2.2))) 40 4 v43) 23 7 (((zgt v44).2.2.1))) 23 8 (((zgt v44).2.2.2.1))) 40 2 (((zgt v44).2.2.2.2.1))) 40 3 (((zgt v44).2.2.2.2.2.1))) 40 4 (((zgt v44).2.2.2.2.2.2))) 23 7 v48) 23 8 v49), (m1, m2, 1, m4, m5)))))))))))))
      else
       bif decide (v42 = 62) then
        zl (F0_tx_skip (((zgt v41).2.2.2.2.2.2))) (fun v50 =>
        zl (Q_lr_readAmount y (ar 1) (((zgt v41).1)) (((zgt v41).2.1)) (((zgt v41).2.2.1)) (((zgt v41).2.2.2.1)) (fi 40 1) (((zgt v41).2.2.2.2.1)) (((zgt v41).2.2.2.2.2.1)) v50) (fun v51 => zg v51.isSome (
        zg (G_lw_emit v42 0 (((zgt v51).2.2.1)) (((zgt v51).1)) (((zgt v51).2.1)) (((zgt v51).2.2.2.1))) (
        zl (W_lw_emit v42 0 (((zgt v51).2.2.1)) (((zgt v51).1)) (((zgt v51).2.1)) (((zgt v51).2.2.2.1))) (fun v52 =>
        zl (A0_lw_emit v42 0 (((zgt v51).2.2.1)) (((zgt v51).1)) (((zgt v51).2.1)) (((zgt v51).2.2.2.1))) (fun v53 =>
        zl (A1_lw_emit v42 0 (((zgt v51).2.2.1)) (((zgt v51).1)) (((zgt v51).2.1)) (((zgt v51).2.2.2.1))) (fun v54 =>
        zl (F0_lw_emit v42 0 (((zgt v51).2.2.1)) (((zgt v51).1)) (((zgt v51).2.1)) (((zgt v51).2.2.2.1))) (fun v55 =>
        zl (F1_lw_emit v42 0 (((zgt v51).2.2.1)) (((zgt v51).1)) (((zgt v51).2.1)) (((zgt v51).2.2.2.1))) (fun v56 =>
        some (.inr (none, ((zua (zua (zua (zua (zua (zua ar 24 (((zgt v41).1))) 25 (((zgt v41).2.1))) 24 (((zgt v51).1))) 25 (((zgt v51).2.1))) 24 v53) 25 v54), (zuf (zuf (zuf (zuf (zuf (zuf (zuf (zuf (zuf (zuf (zuf (zuf (zuf fi 23 7 (((zgt v41).2.2.1))) 23 8 (((zgt v41).2.2.2.1))) 40 2 (((zgt v41).2.2.2.2.1))) 40 3 (((zgt v41).2.2.2.2.2.1))) 40 4 (((zgt v41).2.2.2.2.2.2))) 40 4 v50) 23 7 (((zgt v51).2.2.1))) 23 8 (((zgt v51).2.2.2.1))) 40 2 (((zgt v51).2.2.2.2.1))) 40 3 (((zgt v51).2.2.2.2.2.1))) 40 4 (((zgt v51).2.2.2.2.2.2))) 23 7 v55) 23 8 v56), (m1, m2, 1, m4, m5)))))))))))))
       else
        bif !decide (v42 = 61) then
         zl (F0_tx_fail 1 (((zgt v41).2.2.2.2.2.2)) (((zgt v41).2.2.2.2.1)) (((zgt v41).2.2.2.2.2.1))) (fun v57 =>
         zl (F1_tx_fail 1 (((zgt v41).2.2.2.2.2.2)) (((zgt v41).2.2.2.2.1)) (((zgt v41).2.2.2.2.2.1))) (fun v58 =>
         some (.inr (none, ((zua (zua ar 24 (((zgt v41).1))) 25 (((zgt v41).2.1))), (zuf (zuf (zuf (zuf (zuf (zuf (zuf fi 23 7 (((zgt v41).2.2.1))) 23 8 (((zgt v41).2.2.2.1))) 40 2 (((zgt v41).2.2.2.2.1))) 40 3 (((zgt v41).2.2.2.2.2.1))) 40 4 (((zgt v41).2.2.2.2.2.2))) 40 2 v57) 40 3 v58), (m1, m2, 1, m4, m5))))))
        else
         zl (F0_tx_skip (((zgt v41).2.2.2.2.2.2))) (fun v59 =>
         zl (Q_lr_readAmount y (ar 1) (((zgt v41).1)) (((zgt v41).2.1)) (((zgt v41).2.2.1)) (((zgt v41).2.2.2.1)) (fi 40 1) (((zgt v41).2.2.2.2.1)) (((zgt v41).2.2.2.2.2.1)) v59) (fun v60 => zg v60.isSome (
         zg (G_lw_emit v42 0 (((zgt v60).2.2.1)) (((zgt v60).1)) (((zgt v60).2.1)) (((zgt v60).2.2.2.1))) (
         zl (W_lw_emit v42 0 (((zgt v60).2.2.1)) (((zgt v60).1)) (((zgt v60).2.1)) (((zgt v60).2.2.2.1))) (fun v61 =>
         zl (A0_lw_emit v42 0 (((zgt v60).2.2.1)) (((zgt v60).1)) (((zgt v60).2.1)) (((zgt v60).2.2.2.1))) (fun v62 =>
         zl (A1_lw_emit v42 0 (((zgt v60).2.2.1)) (((zgt v60).1)) (((zgt v60).2.1)) (((zgt v60).2.2.2.1))) (fun v63 =>
         zl (F0_lw_emit v42 0 (((zgt v60).2.2.1)) (((zgt v60).1)) (((zgt v60).2.1)) (((zgt v60).2.2.2.1))) (fun v64 =>
         zl (F1_lw_emit v42 0 (((zgt v60).2.2.1)) (((zgt v60).1)) (((zgt v60).2.1)) (((zgt v60).2.2.2.1))) (fun v65 =>
         some (.inr (none, ((zua (zua (zua (zua (zua (zua ar 24 (((zgt v41).1))) 25 (((zgt v41).2.1))) 24 (((zgt v60).1))) 25 (((zgt v60).2.1))) 24 v62) 25 v63), (zuf (zuf (zuf (zuf (zuf (zuf (zuf (zuf (zuf (zuf (zuf (zuf (zuf fi 23 7 (((zgt v41).2.2.1))) 23 8 (((zgt v41).2.2.2.1))) 40 2 (((zgt v41).2.2.2.2.1))) 40 3 (((zgt v41).2.2.2.2.2.1))) 40 4 (((zgt v41).2.2.2.2.2.2))) 40 4 v59) 23 7 (((zgt v60).2.2.1))) 23 8 (((zgt v60).2.2.2.1))) 40 2 (((zgt v60).2.2.2.2.1))) 40 3 (((zgt v60).2.2.2.2.2.1))) 40 4 (((zgt v60).2.2.2.2.2.2))) 23 7 v64) 23 8 v65), (m1, m2, 1, m4, m5)))))))))))))))))
     else
      zl (F0_tx_skip (fi 40 4)) (fun v66 =>
      zl (Q_lr_readCondition (y + 1) (ar 1) (ar 24) (ar 25) (fi 23 7) (fi 23 8) (fi 40 1) (fi 40 2) (fi 40 3) v66) (fun v67 => zg v67.isSome (
      zg (G_tx_expect 41 (((zgt v67).2.2.2.2.1)) (((zgt v67).2.2.2.2.2.2)) (fi 40 1) (ar 1) (((zgt v67).2.2.2.2.2.1))) (
      zl (F0_tx_expect 41 (((zgt v67).2.2.2.2.1)) (((zgt v67).2.2.2.2.2.2)) (fi 40 1) (ar 1) (((zgt v67).2.2.2.2.2.1))) (fun v68 =>
      zl (F1_tx_expect 41 (((zgt v67).2.2.2.2.1)) (((zgt v67).2.2.2.2.2.2)) (fi 40 1) (ar 1) (((zgt v67).2.2.2.2.2.1))) (fun v69 =>
      zl (F2_tx_expect 41 (((zgt v67).2.2.2.2.1)) (((zgt v67).2.2.2.2.2.2)) (fi 40 1) (ar 1) (((zgt v67).2.2.2.2.2.1))) (fun v70 =>
      some (.inr (none, ((zua (zua ar 24 (((zgt v67).1))) 25 (((zgt v67).2.1))), (zuf (zuf (zuf (zuf (zuf (zuf (zuf (zuf (zuf fi 40 4 v66) 23 7 (((zgt v67).2.2.1))) 23 8 (((zgt v67).2.2.2.1))) 40 2 (((zgt v67).2.2.2.2.1))) 40 3 (((zgt v67).2.2.2.2.2.1))) 40 4 (((zgt v67).2.2.2.2.2.2))) 40 2 v68) 40 3 v69) 40 4 v70), (m1, m2, 1, m4, m5)))))))))))
    else
     zl (F0_tx_skip (fi 40 4)) (fun v71 =>
     zl (Q_lr_readTest (y + 1) (ar 1) (ar 24) (ar 25) (fi 23 7) (fi 23 8) (fi 40 1) (fi 40 2) (fi 40 3) v71) (fun v72 => zg v72.isSome (
     zg (G_lw_emit 3 0 (((zgt v72).2.2.1)) (((zgt v72).1)) (((zgt v72).2.1)) (((zgt v72).2.2.2.1))) (
     zl (W_lw_emit 3 0 (((zgt v72).2.2.1)) (((zgt v72).1)) (((zgt v72).2.1)) (((zgt v72).2.2.2.1))) (fun v73 =>
     zl (A0_lw_emit 3 0 (((zgt v72).2.2.1)) (((zgt v72).1)) (((zgt v72).2.1)) (((zgt v72).2.2.2.1))) (fun v74 =>
     zl (A1_lw_emit 3 0 (((zgt v72).2.2.1)) (((zgt v72).1)) (((zgt v72).2.1)) (((zgt v72).2.2.2.1))) (fun v75 =>
     zl (F0_lw_emit 3 0 (((zgt v72).2.2.1)) (((zgt v72).1)) (((zgt v72).2.1)) (((zgt v72).2.2.2.1))) (fun v76 =>
     zl (F1_lw_emit 3 0 (((zgt v72).2.2.1)) (((zgt v72).1)) (((zgt v72).2.1)) (((zgt v72).2.2.2.1))) (fun v77 =>
     some (.inr (none, ((zua (zua (zua (zua ar 24 (((zgt v72).1))) 25 (((zgt v72).2.1))) 24 v74) 25 v75), (zuf (zuf (zuf (zuf (zuf (zuf (zuf (zuf fi 40 4 v71) 23 7 (((zgt v72).2.2.1))) 23 8 (((zgt v72).2.2.2.1))) 40 2 (((zgt v72).2.2.2.2.1))) 40 3 (((zgt v72).2.2.2.2.2.1))) 40 4 (((zgt v72).2.2.2.2.2.2))) 23 7 v76) 23 8 v77), (m1, m2, 1, m4, m5)))))))))))))
   else
    bif decide (y < 6) then
     bif !decide (v1 = 33) then
      bif !decide (v1 = 40) then
       zl (Q_lr_readAmount y (ar 1) (ar 24) (ar 25) (fi 23 7) (fi 23 8) (fi 40 1) (fi 40 2) (fi 40 3) (fi 40 4)) (fun v78 => zg v78.isSome (
       zg (G_tx_sign (((zgt v78).2.2.2.2.1)) (((zgt v78).2.2.2.2.2.2)) (fi 40 1) (ar 1)) (
       zl (W_tx_sign (((zgt v78).2.2.2.2.1)) (((zgt v78).2.2.2.2.2.2)) (fi 40 1) (ar 1)) (fun v79 =>
       bif decide (v79 = 60) then
        zl (F0_tx_skip (((zgt v78).2.2.2.2.2.2))) (fun v80 =>
        zl (Q_lr_readAmount y (ar 1) (((zgt v78).1)) (((zgt v78).2.1)) (((zgt v78).2.2.1)) (((zgt v78).2.2.2.1)) (fi 40 1) (((zgt v78).2.2.2.2.1)) (((zgt v78).2.2.2.2.2.1)) v80) (fun v81 => zg v81.isSome (
        zg (G_lw_emit v79 0 (((zgt v81).2.2.1)) (((zgt v81).1)) (((zgt v81).2.1)) (((zgt v81).2.2.2.1))) (
        zl (W_lw_emit v79 0 (((zgt v81).2.2.1)) (((zgt v81).1)) (((zgt v81).2.1)) (((zgt v81).2.2.2.1))) (fun v82 =>
        zl (A0_lw_emit v79 0 (((zgt v81).2.2.1)) (((zgt v81).1)) (((zgt v81).2.1)) (((zgt v81).2.2.2.1))) (fun v83 =>
        zl (A1_lw_emit v79 0 (((zgt v81).2.2.1)) (((zgt v81).1)) (((zgt v81).2.1)) (((zgt v81).2.2.2.1))) (fun v84 =>
        zl (F0_lw_emit v79 0 (((zgt v81).2.2.1)) (((zgt v81).1)) (((zgt v81).2.1)) (((zgt v81).2.2.2.1))) (fun v85 =>
        zl (F1_lw_emit v79 0 (((zgt v81).2.2.1)) (((zgt v81).1)) (((zgt v81).2.1)) (((zgt v81).2.2.2.1))) (fun v86 =>
        some (.inr (none, ((zua (zua (zua (zua (zua (zua ar 24 (((zgt v78).1))) 25 (((zgt v78).2.1))) 24 (((zgt v81).1))) 25 (((zgt v81).2.1))) 24 v83) 25 v84), (zuf (zuf (zuf (zuf (zuf (zuf (zuf (zuf (zuf (zuf (zuf (zuf (zuf fi 23 7 (((zgt v78).2.2.1))) 23 8 (((zgt v78).2.2.2.1))) 40 2 (((zgt v78).2.2.2.2.1))) 40 3 (((zgt v78).2.2.2.2.2.1))) 40 4 (((zgt v78).2.2.2.2.2.2))) 40 4 v80) 23 7 (((zgt v81).2.2.1))) 23 8 (((zgt v81).2.2.2.1))) 40 2 (((zgt v81).2.2.2.2.1))) 40 3 (((zgt v81).2.2.2.2.2.1))) 40 4 (((zgt v81).2.2.2.2.2.2))) 23 7 v85) 23 8 v86), (m1, m2, 1, m4, m5)))))))))))))
       else
        bif decide (v79 = 62) then
         zl (F0_tx_skip (((zgt v78).2.2.2.2.2.2))) (fun v87 =>
         zl (Q_lr_readAmount y (ar 1) (((zgt v78).1)) (((zgt v78).2.1)) (((zgt v78).2.2.1)) (((zgt v78).2.2.2.1)) (fi 40 1) (((zgt v78).2.2.2.2.1)) (((zgt v78).2.2.2.2.2.1)) v87) (fun v88 => zg v88.isSome (
         zg (G_lw_emit v79 0 (((zgt v88).2.2.1)) (((zgt v88).1)) (((zgt v88).2.1)) (((zgt v88).2.2.2.1))) (
         zl (W_lw_emit v79 0 (((zgt v88).2.2.1)) (((zgt v88).1)) (((zgt v88).2.1)) (((zgt v88).2.2.2.1))) (fun v89 =>
         zl (A0_lw_emit v79 0 (((zgt v88).2.2.1)) (((zgt v88).1)) (((zgt v88).2.1)) (((zgt v88).2.2.2.1))) (fun v90 =>
         zl (A1_lw_emit v79 0 (((zgt v88).2.2.1)) (((zgt v88).1)) (((zgt v88).2.1)) (((zgt v88).2.2.2.1))) (fun v91 =>
         zl (F0_lw_emit v79 0 (((zgt v88).2.2.1)) (((zgt v88).1)) (((zgt v88).2.1)) (((zgt v88).2.2.2.1))) (fun v92 =>
         zl (F1_lw_emit v79 0 (((zgt v88).2.2.1)) (((zgt v88).1)) (((zgt v88).2.1)) (((zgt v88).2.2.2.1))) (fun v93 =>
         some (.inr (none, ((zua (zua (zua (zua (zua (zua ar 24 (((zgt v78).1))) 25 (((zgt v78).2.1))) 24 (((zgt v88).1))) 25 (((zgt v88).2.1))) 24 v90) 25 v91), (zuf (zuf (zuf (zuf (zuf (zuf (zuf (zuf (zuf (zuf (zuf (zuf (zuf fi 23 7 (((zgt v78).2.2.1))) 23 8 (((zgt v78).2.2.2.1))) 40 2 (((zgt v78).2.2.2.2.1))) 40 3 (((zgt v78).2.2.2.2.2.1))) 40 4 (((zgt v78).2.2.2.2.2.2))) 40 4 v87) 23 7 (((zgt v88).2.2.1))) 23 8 (((zgt v88).2.2.2.1))) 40 2 (((zgt v88).2.2.2.2.1))) 40 3 (((zgt v88).2.2.2.2.2.1))) 40 4 (((zgt v88).2.2.2.2.2.2))) 23 7 v92) 23 8 v93), (m1, m2, 1, m4, m5)))))))))))))
        else
         bif !decide (v79 = 61) then
          zl (F0_tx_fail 1 (((zgt v78).2.2.2.2.2.2)) (((zgt v78).2.2.2.2.1)) (((zgt v78).2.2.2.2.2.1))) (fun v94 =>
          zl (F1_tx_fail 1 (((zgt v78).2.2.2.2.2.2)) (((zgt v78).2.2.2.2.1)) (((zgt v78).2.2.2.2.2.1))) (fun v95 =>
          some (.inr (none, ((zua (zua ar 24 (((zgt v78).1))) 25 (((zgt v78).2.1))), (zuf (zuf (zuf (zuf (zuf (zuf (zuf fi 23 7 (((zgt v78).2.2.1))) 23 8 (((zgt v78).2.2.2.1))) 40 2 (((zgt v78).2.2.2.2.1))) 40 3 (((zgt v78).2.2.2.2.2.1))) 40 4 (((zgt v78).2.2.2.2.2.2))) 40 2 v94) 40 3 v95), (m1, m2, 1, m4, m5))))))
         else
          zl (F0_tx_skip (((zgt v78).2.2.2.2.2.2))) (fun v96 =>
          zl (Q_lr_readAmount y (ar 1) (((zgt v78).1)) (((zgt v78).2.1)) (((zgt v78).2.2.1)) (((zgt v78).2.2.2.1)) (fi 40 1) (((zgt v78).2.2.2.2.1)) (((zgt v78).2.2.2.2.2.1)) v96) (fun v97 => zg v97.isSome (
          zg (G_lw_emit v79 0 (((zgt v97).2.2.1)) (((zgt v97).1)) (((zgt v97).2.1)) (((zgt v97).2.2.2.1))) (
          zl (W_lw_emit v79 0 (((zgt v97).2.2.1)) (((zgt v97).1)) (((zgt v97).2.1)) (((zgt v97).2.2.2.1))) (fun v98 =>
          zl (A0_lw_emit v79 0 (((zgt v97).2.2.1)) (((zgt v97).1)) (((zgt v97).2.1)) (((zgt v97).2.2.2.1))) (fun v99 =>
          zl (A1_lw_emit v79 0 (((zgt v97).2.2.1)) (((zgt v97).1)) (((zgt v97).2.1)) (((zgt v97).2.2.2.1))) (fun v100 =>
          zl (F0_lw_emit v79 0 (((zgt v97).2.2.1)) (((zgt v97).1)) (((zgt v97).2.1)) (((zgt v97).2.2.2.1))) (fun v101 =>
          zl (F1_lw_emit v79 0 (((zgt v97).2.2.1)) (((zgt v97).1)) (((zgt v97).2.1)) (((zgt v97).2.2.2.1))) (fun v102 =>
          some (.inr (none, ((zua (zua (zua (zua (zua (zua ar 24 (((zgt v78).1))) 25 (((zgt v78).2.1))) 24 (((zgt v97).1))) 25 (((zgt v97).2.1))) 24 v99) 25 v100), (zuf (zuf (zuf (zuf (zuf (zuf (zuf (zuf (zuf (zuf (zuf (zuf (zuf fi 23 7 (((zgt v78).2.2.1))) 23 8 (((zgt v78).2.2.2.1))) 40 2 (((zgt v78).2.2.2.2.1))) 40 3 (((zgt v78).2.2.2.2.2.1))) 40 4 (((zgt v78).2.2.2.2.2.2))) 40 4 v96) 23 7 (((zgt v97).2.2.1))) 23 8 (((zgt v97).2.2.2.1))) 40 2 (((zgt v97).2.2.2.2.1))) 40 3 (((zgt v97).2.2.2.2.2.1))) 40 4 (((zgt v97).2.2.2.2.2.2))) 23 7 v101) 23 8 v102), (m1, m2, 1, m4, m5)))))))))))))))))
      else
       zl (F0_tx_skip (fi 40 4)) (fun v103 =>
       zl (Q_lr_readCondition (y + 1) (ar 1) (ar 24) (ar 25) (fi 23 7) (fi 23 8) (fi 40 1) (fi 40 2) (fi 40 3) v103) (fun v104 => zg v104.isSome (
       zg (G_tx_expect 41 (((zgt v104).2.2.2.2.1)) (((zgt v104).2.2.2.2.2.2)) (fi 40 1) (ar 1) (((zgt v104).2.2.2.2.2.1))) (
       zl (F0_tx_expect 41 (((zgt v104).2.2.2.2.1)) (((zgt v104).2.2.2.2.2.2)) (fi 40 1) (ar 1) (((zgt v104).2.2.2.2.2.1))) (fun v105 =>
       zl (F1_tx_expect 41 (((zgt v104).2.2.2.2.1)) (((zgt v104).2.2.2.2.2.2)) (fi 40 1) (ar 1) (((zgt v104).2.2.2.2.2.1))) (fun v106 =>
       zl (F2_tx_expect 41 (((zgt v104).2.2.2.2.1)) (((zgt v104).2.2.2.2.2.2)) (fi 40 1) (ar 1) (((zgt v104).2.2.2.2.2.1))) (fun v107 =>
       some (.inr (none, ((zua (zua ar 24 (((zgt v104).1))) 25 (((zgt v104).2.1))), (zuf (zuf (zuf (zuf (zuf (zuf (zuf (zuf (zuf fi 40 4 v103) 23 7 (((zgt v104).2.2.1))) 23 8 (((zgt v104).2.2.2.1))) 40 2 (((zgt v104).2.2.2.2.1))) 40 3 (((zgt v104).2.2.2.2.2.1))) 40 4 (((zgt v104).2.2.2.2.2.2))) 40 2 v105) 40 3 v106) 40 4 v107), (m1, m2, 1, m4, m5)))))))))))
     else
      zl (F0_tx_skip (fi 40 4)) (fun v108 =>
      zl (Q_lr_readTest (y + 1) (ar 1) (ar 24) (ar 25) (fi 23 7) (fi 23 8) (fi 40 1) (fi 40 2) (fi 40 3) v108) (fun v109 => zg v109.isSome (
      zg (G_lw_emit 3 0 (((zgt v109).2.2.1)) (((zgt v109).1)) (((zgt v109).2.1)) (((zgt v109).2.2.2.1))) (
      zl (W_lw_emit 3 0 (((zgt v109).2.2.1)) (((zgt v109).1)) (((zgt v109).2.1)) (((zgt v109).2.2.2.1))) (fun v110 =>
      zl (A0_lw_emit 3 0 (((zgt v109).2.2.1)) (((zgt v109).1)) (((zgt v109).2.1)) (((zgt v109).2.2.2.1))) (fun v111 =>
      zl (A1_lw_emit 3 0 (((zgt v109).2.2.1)) (((zgt v109).1)) (((zgt v109).2.1)) (((zgt v109).2.2.2.1))) (fun v112 =>
      zl (F0_lw_emit 3 0 (((zgt v109).2.2.1)) (((zgt v109).1)) (((zgt v109).2.1)) (((zgt v109).2.2.2.1))) (fun v113 =>
      zl (F1_lw_emit 3 0 (((zgt v109).2.2.1)) (((zgt v109).1)) (((zgt v109).2.1)) (((zgt v109).2.2.2.1))) (fun v114 =>
      some (.inr (none, ((zua (zua (zua (zua ar 24 (((zgt v109).1))) 25 (((zgt v109).2.1))) 24 v111) 25 v112), (zuf (zuf (zuf (zuf (zuf (zuf (zuf (zuf fi 40 4 v108) 23 7 (((zgt v109).2.2.1))) 23 8 (((zgt v109).2.2.2.1))) 40 2 (((zgt v109).2.2.2.2.1))) 40 3 (((zgt v109).2.2.2.2.2.1))) 40 4 (((zgt v109).2.2.2.2.2.2))) 23 7 v113) 23 8 v114), (m1, m2, 1, m4, m5)))))))))))))
    else
     zl (F0_tx_fail 5 (fi 40 4) (fi 40 2) (fi 40 3)) (fun v115 =>
     zl (F1_tx_fail 5 (fi 40 4) (fi 40 2) (fi 40 3)) (fun v116 =>
     some (.inr (none, (ar, (zuf (zuf fi 40 2 v115) 40 3 v116), (m1, m2, 1, m4, m5)))))))) : Option ((Nat × List Value × List Value × zH2) ⊕ zO2)) := by with_unfolding_all rfl
set_option maxRecDepth 20000 in
theorem e_lr_readTest_39_23 {X : Nat × (Nat → Int32)} {ar fi : Nat → Nat → Int32} {m1 m2 m4 m5 : Nat} {y : Int32} {Q_lr_readCondition : Int32 → (Nat → Int32) → (Nat → Int32) → (Nat → Int32) → Int32 → Int32 → Int32 → Int32 → Int32 → Int32 → Option ((Nat → Int32) × (Nat → Int32) × Int32 × Int32 × Int32 × Int32 × Int32)} {Q_lr_readTest : Int32 → (Nat → Int32) → (Nat → Int32) → (Nat → Int32) → Int32 → Int32 → Int32 → Int32 → Int32 → Int32 → Option ((Nat → Int32) × (Nat → Int32) × Int32 × Int32 × Int32 × Int32 × Int32)} {Q_lr_readAmount : Int32 → (Nat → Int32) → (Nat → Int32) → (Nat → Int32) → Int32 → Int32 → Int32 → Int32 → Int32 → Int32 → Option ((Nat → Int32) × (Nat → Int32) × Int32 × Int32 × Int32 × Int32 × Int32)} {Q_lr_readFactor : Int32 → (Nat → Int32) → (Nat → Int32) → (Nat → Int32) → Int32 → Int32 → Int32 → Int32 → Int32 → Int32 → Option ((Nat → Int32) × (Nat → Int32) × Int32 × Int32 × Int32 × Int32 × Int32)} {o : zO2} : ∀ (q : T_lr_readTest), qG_lr_readTest Q_lr_readCondition Q_lr_readTest Q_lr_readAmount Q_lr_readFactor y (ar 1) (ar 24) (ar 25) (fi 23 7) (fi 23 8) (fi 40 1) (fi 40 2) (fi 40 3) (fi 40 4) = some q → (fun t => O_lr_readTest_39_23 ar fi m1 m2 m4 m5 t = o) q → zR2 X zFT (zEx 93 S_tx_sign (zEx 97 S_tx_fail (zEx 95 S_tx_skip (zEx 52 (P_lr_readTest Q_lr_readTest) (zEx 40 S_lw_emit (zEx 51 (P_lr_readCondition Q_lr_readCondition) (zEx 96 S_tx_expect (zEx 53 (P_lr_readAmount Q_lr_readAmount) zE0)))))))) zc_52 0 [.ref 39, .ref 23, .int y] [] (ar, fi, (m1, m2, 1, m4, m5)) o := by
  intro q h hq
  unfold qG_lr_readTest at h
  refine zT_seg t_lr_readTest_39_23 ?_
  obtain ⟨TT, hTT⟩ : ∃ T, T = zT X zFT (zEx 93 S_tx_sign (zEx 97 S_tx_fail (zEx 95 S_tx_skip (zEx 52 (P_lr_readTest Q_lr_readTest) (zEx 40 S_lw_emit (zEx 51 (P_lr_readCondition Q_lr_readCondition) (zEx 96 S_tx_expect (zEx 53 (P_lr_readAmount Q_lr_readAmount) zE0)))))))) zc_52 o := ⟨_, rfl⟩
  rw [← hTT]
  refine zg_el h (fun hg h => zU_g hTT hg ?_)
  refine zl_el h (fun h => zU_l hTT ?_)
  refine zb_el h (fun hb h => zU_t hTT hb ?_) (fun hb h => zU_f hTT hb ?_)
  · refine zb_el h (fun hb h => zU_t hTT hb ?_) (fun hb h => zU_f hTT hb ?_)
    · refine zb_el h (fun hb h => zU_t hTT hb ?_) (fun hb h => zU_f hTT hb ?_)
      · refine zb_el h (fun hb h => zU_t hTT hb ?_) (fun hb h => zU_f hTT hb ?_)
        · refine zbd_el h (fun v2 hv h => zU_c hTT hv ?_)
          refine zg_el h (fun hg h => zU_g hTT hg ?_)
          refine zl_el h (fun h => zU_l hTT ?_)
          refine zb_el h (fun hb h => zU_t hTT hb ?_) (fun hb h => zU_f hTT hb ?_)
          · refine zl_el h (fun h => zU_l hTT ?_)
            refine zbd_el h (fun v5 hv h => zU_c hTT hv ?_)
            refine zg_el h (fun hg h => zU_g hTT hg ?_)
            refine zl_el h (fun h => zU_l hTT ?_)
            refine zl_el h (fun h => zU_l hTT ?_)
            refine zl_el h (fun h => zU_l hTT ?_)
            refine zl_el h (fun h => zU_l hTT ?_)
            refine zl_el h (fun h => zU_l hTT ?_)
            rw [hTT]
            have hz := zsi (P := (fun t => O_lr_readTest_39_23 ar fi m1 m2 m4 m5 t = o)) h hq
            refine (zO_mk ?_ ?_).trans hz
            · first | with_reducible rfl | exact hA0_lr_readTest _ _ _ _ _ _ _
            · first | with_reducible rfl | exact hF1_lr_readTest _ _ _ _ _ _ _ _ _ _ _ _ _ _
          · refine zb_el h (fun hb h => zU_t hTT hb ?_) (fun hb h => zU_f hTT hb ?_)
            · refine zl_el h (fun h => zU_l hTT ?_)
              refine zbd_el h (fun v12 hv h => zU_c hTT hv ?_)
              refine zg_el h (fun hg h => zU_g hTT hg ?_)
              refine zl_el h (fun h => zU_l hTT ?_)
              refine zl_el h (fun h => zU_l hTT ?_)
              refine zl_el h (fun h => zU_l hTT ?_)
              refine zl_el h (fun h => zU_l hTT ?_)
              refine zl_el h (fun h => zU_l hTT ?_)
              rw [hTT]
              have hz := zsi (P := (fun t => O_lr_readTest_39_23 ar fi m1 m2 m4 m5 t = o)) h hq
              refine (zO_mk ?_ ?_).trans hz
              · first | with_reducible rfl | exact hA0_lr_readTest _ _ _ _ _ _ _
              · first | with_reducible rfl | exact hF1_lr_readTest _ _ _ _ _ _ _ _ _ _ _ _ _ _
            · refine zb_el h (fun hb h => zU_t hTT hb ?_) (fun hb h => zU_f hTT hb ?_)
              · refine zl_el h (fun h => zU_l hTT ?_)
                refine zl_el h (fun h => zU_l hTT ?_)
                rw [hTT]
                have hz := zsi (P := (fun t => O_lr_readTest_39_23 ar fi m1 m2 m4 m5 t = o)) h hq
                refine (zO_mk ?_ ?_).trans hz
                · first | with_reducible rfl | exact hA2_lr_readTest _ _ _
                · first | with_reducible rfl | exact hF3_lr_readTest _ _ _ _ _ _ _ _
              · refine zl_el h (fun h => zU_l hTT ?_)
                refine zbd_el h (fun v21 hv h => zU_c hTT hv ?_)
                refine zg_el h (fun hg h => zU_g hTT hg ?_)
                refine zl_el h (fun h => zU_l hTT ?_)
                refine zl_el h (fun h => zU_l hTT ?_)
                refine zl_el h (fun h => zU_l hTT ?_)
                refine zl_el h (fun h => zU_l hTT ?_)
                refine zl_el h (fun h => zU_l hTT ?_)
                rw [hTT]
                have hz := zsi (P := (fun t => O_lr_readTest_39_23 ar fi m1 m2 m4 m5 t = o)) h hq
                refine (zO_mk ?_ ?_).trans hz
                · first | with_reducible rfl | exact hA0_lr_readTest _ _ _ _ _ _ _
                · first | with_reducible rfl | exact hF1_lr_readTest _ _ _ _ _ _ _ _ _ _ _ _ _ _
        · refine zl_el h (fun h => zU_l hTT ?_)
          refine zbd_el h (fun v28 hv h => zU_c hTT hv ?_)
          refine zg_el h (fun hg h => zU_g hTT hg ?_)
          refine zl_el h (fun h => zU_l hTT ?_)
          refine zl_el h (fun h => zU_l hTT ?_)
          refine zl_el h (fun h => zU_l hTT ?_)
          rw [hTT]
          have hz := zsi (P := (fun t => O_lr_readTest_39_23 ar fi m1 m2 m4 m5 t = o)) h hq
          refine (zO_mk ?_ ?_).trans hz
          · first | with_reducible rfl | exact hA2_lr_readTest _ _ _
          · first | with_reducible rfl | exact hF4_lr_readTest _ _ _ _ _ _ _ _ _ _
      · refine zl_el h (fun h => zU_l hTT ?_)
        refine zbd_el h (fun v33 hv h => zU_c hTT hv ?_)
        refine zg_el h (fun hg h => zU_g hTT hg ?_)
        refine zl_el h (fun h => zU_l hTT ?_)
        refine zl_el h (fun h => zU_l hTT ?_)
        refine zl_el h (fun h => zU_l hTT ?_)
        refine zl_el h (fun h => zU_l hTT ?_)
        refine zl_el h (fun h => zU_l hTT ?_)
        rw [hTT]
        have hz := zsi (P := (fun t => O_lr_readTest_39_23 ar fi m1 m2 m4 m5 t = o)) h hq
        refine (zO_mk ?_ ?_).trans hz
        · first | with_reducible rfl | exact hA5_lr_readTest _ _ _ _ _
        · first | with_reducible rfl | exact hF6_lr_readTest _ _ _ _ _ _ _ _ _
    · refine zl_el h (fun h => zU_l hTT ?_)
      refine zl_el h (fun h => zU_l hTT ?_)
      rw [hTT]
      have hz := zsi (P := (fun t => O_lr_readTest_39_23 ar fi m1 m2 m4 m5 t = o)) h hq
      refine (zO_mk ?_ ?_).trans hz
      · first | with_reducible rfl | exact hA7_lr_readTest _
      · first | with_reducible rfl | exact hF8_lr_readTest _ _ _
  · refine zb_el h (fun hb h => zU_t hTT hb ?_) (fun hb h => zU_f hTT hb ?_)
    · refine zb_el h (fun hb h => zU_t hTT hb ?_) (fun hb h => zU_f hTT hb ?_)
      · refine zb_el h (fun hb h => zU_t hTT hb ?_) (fun hb h => zU_f hTT hb ?_)
        · refine zbd_el h (fun v41 hv h => zU_c hTT hv ?_)
          refine zg_el h (fun hg h => zU_g hTT hg ?_)
          refine zl_el h (fun h => zU_l hTT ?_)
          refine zb_el h (fun hb h => zU_t hTT hb ?_) (fun hb h => zU_f hTT hb ?_)
          · refine zl_el h (fun h => zU_l hTT ?_)
            refine zbd_el h (fun v44 hv h => zU_c hTT hv ?_)
            refine zg_el h (fun hg h => zU_g hTT hg ?_)
            refine zl_el h (fun h => zU_l hTT ?_)
            refine zl_el h (fun h => zU_l hTT ?_)
            refine zl_el h (fun h => zU_l hTT ?_)
            refine zl_el h (fun h => zU_l hTT ?_)
            refine zl_el h (fun h => zU_l hTT ?_)
            rw [hTT]
            have hz := zsi (P := (fun t => O_lr_readTest_39_23 ar fi m1 m2 m4 m5 t = o)) h hq
            refine (zO_mk ?_ ?_).trans hz
            · first | with_reducible rfl | exact hA0_lr_readTest _ _ _ _ _ _ _
            · first | with_reducible rfl | exact hF1_lr_readTest _ _ _ _ _ _ _ _ _ _ _ _ _ _
          · refine zb_el h (fun hb h => zU_t hTT hb ?_) (fun hb h => zU_f hTT hb ?_)
            · refine zl_el h (fun h => zU_l hTT ?_)
              refine zbd_el h (fun v51 hv h => zU_c hTT hv ?_)
              refine zg_el h (fun hg h => zU_g hTT hg ?_)
              refine zl_el h (fun h => zU_l hTT ?_)
              refine zl_el h (fun h => zU_l hTT ?_)
              refine zl_el h (fun h => zU_l hTT ?_)
              refine zl_el h (fun h => zU_l hTT ?_)
              refine zl_el h (fun h => zU_l hTT ?_)
              rw [hTT]
              have hz := zsi (P := (fun t => O_lr_readTest_39_23 ar fi m1 m2 m4 m5 t = o)) h hq
              refine (zO_mk ?_ ?_).trans hz
              · first | with_reducible rfl | exact hA0_lr_readTest _ _ _ _ _ _ _
              · first | with_reducible rfl | exact hF1_lr_readTest _ _ _ _ _ _ _ _ _ _ _ _ _ _
            · refine zb_el h (fun hb h => zU_t hTT hb ?_) (fun hb h => zU_f hTT hb ?_)
              · refine zl_el h (fun h => zU_l hTT ?_)
                refine zl_el h (fun h => zU_l hTT ?_)
                rw [hTT]
                have hz := zsi (P := (fun t => O_lr_readTest_39_23 ar fi m1 m2 m4 m5 t = o)) h hq
                refine (zO_mk ?_ ?_).trans hz
                · first | with_reducible rfl | exact hA2_lr_readTest _ _ _
                · first | with_reducible rfl | exact hF3_lr_readTest _ _ _ _ _ _ _ _
              · refine zl_el h (fun h => zU_l hTT ?_)
                refine zbd_el h (fun v60 hv h => zU_c hTT hv ?_)
                refine zg_el h (fun hg h => zU_g hTT hg ?_)
                refine zl_el h (fun h => zU_l hTT ?_)
                refine zl_el h (fun h => zU_l hTT ?_)
                refine zl_el h (fun h => zU_l hTT ?_)
                refine zl_el h (fun h => zU_l hTT ?_)
                refine zl_el h (fun h => zU_l hTT ?_)
                rw [hTT]
                have hz := zsi (P := (fun t => O_lr_readTest_39_23 ar fi m1 m2 m4 m5 t = o)) h hq
                refine (zO_mk ?_ ?_).trans hz
                · first | with_reducible rfl | exact hA0_lr_readTest _ _ _ _ _ _ _
                · first | with_reducible rfl | exact hF1_lr_readTest _ _ _ _ _ _ _ _ _ _ _ _ _ _
        · refine zl_el h (fun h => zU_l hTT ?_)
          refine zbd_el h (fun v67 hv h => zU_c hTT hv ?_)
          refine zg_el h (fun hg h => zU_g hTT hg ?_)
          refine zl_el h (fun h => zU_l hTT ?_)
          refine zl_el h (fun h => zU_l hTT ?_)
          refine zl_el h (fun h => zU_l hTT ?_)
          rw [hTT]
          have hz := zsi (P := (fun t => O_lr_readTest_39_23 ar fi m1 m2 m4 m5 t = o)) h hq
          refine (zO_mk ?_ ?_).trans hz
          · first | with_reducible rfl | exact hA2_lr_readTest _ _ _
          · first | with_reducible rfl | exact hF4_lr_readTest _ _ _ _ _ _ _ _ _ _
      · refine zl_el h (fun h => zU_l hTT ?_)
        refine zbd_el h (fun v72 hv h => zU_c hTT hv ?_)
        refine zg_el h (fun hg h => zU_g hTT hg ?_)
        refine zl_el h (fun h => zU_l hTT ?_)
        refine zl_el h (fun h => zU_l hTT ?_)
        refine zl_el h (fun h => zU_l hTT ?_)
        refine zl_el h (fun h => zU_l hTT ?_)
        refine zl_el h (fun h => zU_l hTT ?_)
        rw [hTT]
        have hz := zsi (P := (fun t => O_lr_readTest_39_23 ar fi m1 m2 m4 m5 t = o)) h hq
        refine (zO_mk ?_ ?_).trans hz
        · first | with_reducible rfl | exact hA5_lr_readTest _ _ _ _ _
        · first | with_reducible rfl | exact hF6_lr_readTest _ _ _ _ _ _ _ _ _
    · refine zb_el h (fun hb h => zU_t hTT hb ?_) (fun hb h => zU_f hTT hb ?_)
      · refine zb_el h (fun hb h => zU_t hTT hb ?_) (fun hb h => zU_f hTT hb ?_)
        · refine zb_el h (fun hb h => zU_t hTT hb ?_) (fun hb h => zU_f hTT hb ?_)
          · refine zbd_el h (fun v78 hv h => zU_c hTT hv ?_)
            refine zg_el h (fun hg h => zU_g hTT hg ?_)
            refine zl_el h (fun h => zU_l hTT ?_)
            refine zb_el h (fun hb h => zU_t hTT hb ?_) (fun hb h => zU_f hTT hb ?_)
            · refine zl_el h (fun h => zU_l hTT ?_)
              refine zbd_el h (fun v81 hv h => zU_c hTT hv ?_)
              refine zg_el h (fun hg h => zU_g hTT hg ?_)
              refine zl_el h (fun h => zU_l hTT ?_)
              refine zl_el h (fun h => zU_l hTT ?_)
              refine zl_el h (fun h => zU_l hTT ?_)
              refine zl_el h (fun h => zU_l hTT ?_)
              refine zl_el h (fun h => zU_l hTT ?_)
              rw [hTT]
              have hz := zsi (P := (fun t => O_lr_readTest_39_23 ar fi m1 m2 m4 m5 t = o)) h hq
              refine (zO_mk ?_ ?_).trans hz
              · first | with_reducible rfl | exact hA0_lr_readTest _ _ _ _ _ _ _
              · first | with_reducible rfl | exact hF1_lr_readTest _ _ _ _ _ _ _ _ _ _ _ _ _ _
            · refine zb_el h (fun hb h => zU_t hTT hb ?_) (fun hb h => zU_f hTT hb ?_)
              · refine zl_el h (fun h => zU_l hTT ?_)
                refine zbd_el h (fun v88 hv h => zU_c hTT hv ?_)
                refine zg_el h (fun hg h => zU_g hTT hg ?_)
                refine zl_el h (fun h => zU_l hTT ?_)
                refine zl_el h (fun h => zU_l hTT ?_)
                refine zl_el h (fun h => zU_l hTT ?_)
                refine zl_el h (fun h => zU_l hTT ?_)
                refine zl_el h (fun h => zU_l hTT ?_)
                rw [hTT]
                have hz := zsi (P := (fun t => O_lr_readTest_39_23 ar fi m1 m2 m4 m5 t = o)) h hq
                refine (zO_mk ?_ ?_).trans hz
                · first | with_reducible rfl | exact hA0_lr_readTest _ _ _ _ _ _ _
                · first | with_reducible rfl | exact hF1_lr_readTest _ _ _ _ _ _ _ _ _ _ _ _ _ _
              · refine zb_el h (fun hb h => zU_t hTT hb ?_) (fun hb h => zU_f hTT hb ?_)
                · refine zl_el h (fun h => zU_l hTT ?_)
                  refine zl_el h (fun h => zU_l hTT ?_)
                  rw [hTT]
                  have hz := zsi (P := (fun t => O_lr_readTest_39_23 ar fi m1 m2 m4 m5 t = o)) h hq
                  refine (zO_mk ?_ ?_).trans hz
                  · first | with_reducible rfl | exact hA2_lr_readTest _ _ _
                  · first | with_reducible rfl | exact hF3_lr_readTest _ _ _ _ _ _ _ _
                · refine zl_el h (fun h => zU_l hTT ?_)
                  refine zbd_el h (fun v97 hv h => zU_c hTT hv ?_)
                  refine zg_el h (fun hg h => zU_g hTT hg ?_)
                  refine zl_el h (fun h => zU_l hTT ?_)
                  refine zl_el h (fun h => zU_l hTT ?_)
                  refine zl_el h (fun h => zU_l hTT ?_)
                  refine zl_el h (fun h => zU_l hTT ?_)
                  refine zl_el h (fun h => zU_l hTT ?_)
                  rw [hTT]
                  have hz := zsi (P := (fun t => O_lr_readTest_39_23 ar fi m1 m2 m4 m5 t = o)) h hq
                  refine (zO_mk ?_ ?_).trans hz
                  · first | with_reducible rfl | exact hA0_lr_readTest _ _ _ _ _ _ _
                  · first | with_reducible rfl | exact hF1_lr_readTest _ _ _ _ _ _ _ _ _ _ _ _ _ _
          · refine zl_el h (fun h => zU_l hTT ?_)
            refine zbd_el h (fun v104 hv h => zU_c hTT hv ?_)
            refine zg_el h (fun hg h => zU_g hTT hg ?_)
            refine zl_el h (fun h => zU_l hTT ?_)
            refine zl_el h (fun h => zU_l hTT ?_)
            refine zl_el h (fun h => zU_l hTT ?_)
            rw [hTT]
            have hz := zsi (P := (fun t => O_lr_readTest_39_23 ar fi m1 m2 m4 m5 t = o)) h hq
            refine (zO_mk ?_ ?_).trans hz
            · first | with_reducible rfl | exact hA2_lr_readTest _ _ _
            · first | with_reducible rfl | exact hF4_lr_readTest _ _ _ _ _ _ _ _ _ _
        · refine zl_el h (fun h => zU_l hTT ?_)
          refine zbd_el h (fun v109 hv h => zU_c hTT hv ?_)
          refine zg_el h (fun hg h => zU_g hTT hg ?_)
          refine zl_el h (fun h => zU_l hTT ?_)
          refine zl_el h (fun h => zU_l hTT ?_)
          refine zl_el h (fun h => zU_l hTT ?_)
          refine zl_el h (fun h => zU_l hTT ?_)
          refine zl_el h (fun h => zU_l hTT ?_)
          rw [hTT]
          have hz := zsi (P := (fun t => O_lr_readTest_39_23 ar fi m1 m2 m4 m5 t = o)) h hq
          refine (zO_mk ?_ ?_).trans hz
          · first | with_reducible rfl | exact hA5_lr_readTest _ _ _ _ _
          · first | with_reducible rfl | exact hF6_lr_readTest _ _ _ _ _ _ _ _ _
      · refine zl_el h (fun h => zU_l hTT ?_)
        refine zl_el h (fun h => zU_l hTT ?_)
        rw [hTT]
        have hz := zsi (P := (fun t => O_lr_readTest_39_23 ar fi m1 m2 m4 m5 t = o)) h hq
        refine (zO_mk ?_ ?_).trans hz
        · first | with_reducible rfl | exact hA7_lr_readTest _
        · first | with_reducible rfl | exact hF8_lr_readTest _ _ _
def O_lr_readTest_39_31 (ar fi : Nat → Nat → Int32) (m1 : Nat) (m2 : Nat) (m4 : Nat) (m5 : Nat) (t : T_lr_readTest) : zO2 := match t with
  | (t0, t1, t2, t3, t4, t5, t6) => (none, ((zua (zua ar 32 t0) 33 t1), (zuf (zuf (zuf (zuf (zuf fi 31 7 t2) 31 8 t3) 40 2 t4) 40 3 t5) 40 4 t6), (m1, m2, 1, m4, m5)))
set_option maxRecDepth 1000000 in
theorem t_lr_readTest_39_31 {X : Nat × (Nat → Int32)} {ar fi : Nat → Nat → Int32} {m1 m2 m4 m5 : Nat} {y : Int32} {G_tx_sign : Int32 → Int32 → Int32 → (Nat → Int32) → Bool} {W_tx_sign : Int32 → Int32 → Int32 → (Nat → Int32) → Int32} {F0_tx_fail : Int32 → Int32 → Int32 → Int32 → Int32} {F1_tx_fail : Int32 → Int32 → Int32 → Int32 → Int32} {F0_tx_skip : Int32 → Int32} {Q_lr_readTest : Int32 → (Nat → Int32) → (Nat → Int32) → (Nat → Int32) → Int32 → Int32 → Int32 → Int32 → Int32 → Int32 → Option ((Nat → Int32) × (Nat → Int32) × Int32 × Int32 × Int32 × Int32 × Int32)} {G_lw_emit : Int32 → Int32 → Int32 → (Nat → Int32) → (Nat → Int32) → Int32 → Bool} {W_lw_emit : Int32 → Int32 → Int32 → (Nat → Int32) → (Nat → Int32) → Int32 → Int32} {A0_lw_emit : Int32 → Int32 → Int32 → (Nat → Int32) → (Nat → Int32) → Int32 → Nat → Int32} {A1_lw_emit : Int32 → Int32 → Int32 → (Nat → Int32) → (Nat → Int32) → Int32 → Nat → Int32} {F0_lw_emit : Int32 → Int32 → Int32 → (Nat → Int32) → (Nat → Int32) → Int32 → Int32} {F1_lw_emit : Int32 → Int32 → Int32 → (Nat → Int32) → (Nat → Int32) → Int32 → Int32} {Q_lr_readCondition : Int32 → (Nat → Int32) → (Nat → Int32) → (Nat → Int32) → Int32 → Int32 → Int32 → Int32 → Int32 → Int32 → Option ((Nat → Int32) × (Nat → Int32) × Int32 × Int32 × Int32 × Int32 × Int32)} {G_tx_expect : Int32 → Int32 → Int32 → Int32 → (Nat → Int32) → Int32 → Bool} {F0_tx_expect : Int32 → Int32 → Int32 → Int32 → (Nat → Int32) → Int32 → Int32} {F1_tx_expect : Int32 → Int32 → Int32 → Int32 → (Nat → Int32) → Int32 → Int32} {F2_tx_expect : Int32 → Int32 → Int32 → Int32 → (Nat → Int32) → Int32 → Int32} {Q_lr_readAmount : Int32 → (Nat → Int32) → (Nat → Int32) → (Nat → Int32) → Int32 → Int32 → Int32 → Int32 → Int32 → Int32 → Option ((Nat → Int32) × (Nat → Int32) × Int32 × Int32 × Int32 × Int32 × Int32)} : zseg X zFT (zEx 93 (P_tx_sign G_tx_sign W_tx_sign) (zEx 97 (P_tx_fail F0_tx_fail F1_tx_fail) (zEx 95 (P_tx_skip F0_tx_skip) (zEx 52 (P_lr_readTest Q_lr_readTest) (zEx 40 (P_lw_emit G_lw_emit W_lw_emit A0_lw_emit A1_lw_emit F0_lw_emit F1_lw_emit) (zEx 51 (P_lr_readCondition Q_lr_readCondition) (zEx 96 (P_tx_expect G_tx_expect F0_tx_expect F1_tx_expect F2_tx_expect) (zEx 53 (P_lr_readAmount Q_lr_readAmount) zE0)))))))) zc_52 (fun p => false) 400 0 [.ref 39, .ref 31, .int y] [] (ar, fi, (m1, m2, 1, m4, m5)) = (
  zg (G_tx_sign (fi 40 2) (fi 40 4) (fi 40 1) (ar 1)) (
  zl (W_tx_sign (fi 40 2) (fi 40 4) (fi 40 1) (ar 1)) (fun v1 =>
  bif decide (v1 = 33) then
   bif decide (y < 6) then
    bif !decide (v1 = 33) then
     bif !decide (v1 = 40) then
      zl (Q_lr_readAmount y (ar 1) (ar 32) (ar 33) (fi 31 7) (fi 31 8) (fi 40 1) (fi 40 2) (fi 40 3) (fi 40 4)) (fun v2 => zg v2.isSome (
      zg (G_tx_sign (((zgt v2).2.2.2.2.1)) (((zgt v2).2.2.2.2.2.2)) (fi 40 1) (ar 1)) (
      zl (W_tx_sign (((zgt v2).2.2.2.2.1)) (((zgt v2).2.2.2.2.2.2)) (fi 40 1) (ar 1)) (fun v3 =>
      bif decide (v3 = 60) then
       zl (F0_tx_skip (((zgt v2).2.2.2.2.2.2))) (fun v4 =>
       zl (Q_lr_readAmount y (ar 1) (((zgt v2).1)) (((zgt v2).2.1)) (((zgt v2).2.2.1)) (((zgt v2).2.2.2.1)) (fi 40 1) (((zgt v2).2.2.2.2.1)) (((zgt v2).2.2.2.2.2.1)) v4) (fun v5 => zg v5.isSome (
       zg (G_lw_emit v3 0 (((zgt v5).2.2.1)) (((zgt v5).1)) (((zgt v5).2.1)) (((zgt v5).2.2.2.1))) (
       zl (W_lw_emit v3 0 (((zgt v5).2.2.1)) (((zgt v5).1)) (((zgt v5).2.1)) (((zgt v5).2.2.2.1))) (fun v6 =>
       zl (A0_lw_emit v3 0 (((zgt v5).2.2.1)) (((zgt v5).1)) (((zgt v5).2.1)) (((zgt v5).2.2.2.1))) (fun v7 =>
       zl (A1_lw_emit v3 0 (((zgt v5).2.2.1)) (((zgt v5).1)) (((zgt v5).2.1)) (((zgt v5).2.2.2.1))) (fun v8 =>
       zl (F0_lw_emit v3 0 (((zgt v5).2.2.1)) (((zgt v5).1)) (((zgt v5).2.1)) (((zgt v5).2.2.2.1))) (fun v9 =>
       zl (F1_lw_emit v3 0 (((zgt v5).2.2.1)) (((zgt v5).1)) (((zgt v5).2.1)) (((zgt v5).2.2.2.1))) (fun v10 =>
       some (.inr (none, ((zua (zua (zua (zua (zua (zua ar 32 (((zgt v2).1))) 33 (((zgt v2).2.1))) 32 (((zgt v5).1))) 33 (((zgt v5).2.1))) 32 v7) 33 v8), (zuf (zuf (zuf (zuf (zuf (zuf (zuf (zuf (zuf (zuf (zuf (zuf (zuf fi 31 7 (((zgt v2).2.2.1))) 31 8 (((zgt v2).2.2.2.1))) 40 2 (((zgt v2).2.2.2.2.1))) 40 3 (((zgt v2).2.2.2.2.2.1))) 40 4 (((zgt v2).2.2.2.2.2.2))) 40 4 v4) 31 7 (((zgt v5).2.2.1))) 31 8 (((zgt v5).2.2.2.1))) 40 2 (((zgt v5).2.2.2.2.1))) 40 3 (((zgt v5).2.2.2.2.2.1))) 40 4 (((zgt v5).2.2.2.2.2.2))) 31 7 v9) 31 8 v10), (m1, m2, 1, m4, m5)))))))))))))
      else
       bif decide (v3 = 62) then
        zl (F0_tx_skip (((zgt v2).2.2.2.2.2.2))) (fun v11 =>
        zl (Q_lr_readAmount y (ar 1) (((zgt v2).1)) (((zgt v2).2.1)) (((zgt v2).2.2.1)) (((zgt v2).2.2.2.1)) (fi 40 1) (((zgt v2).2.2.2.2.1)) (((zgt v2).2.2.2.2.2.1)) v11) (fun v12 => zg v12.isSome (
        zg (G_lw_emit v3 0 (((zgt v12).2.2.1)) (((zgt v12).1)) (((zgt v12).2.1)) (((zgt v12).2.2.2.1))) (
        zl (W_lw_emit v3 0 (((zgt v12).2.2.1)) (((zgt v12).1)) (((zgt v12).2.1)) (((zgt v12).2.2.2.1))) (fun v13 =>
        zl (A0_lw_emit v3 0 (((zgt v12).2.2.1)) (((zgt v12).1)) (((zgt v12).2.1)) (((zgt v12).2.2.2.1))) (fun v14 =>
        zl (A1_lw_emit v3 0 (((zgt v12).2.2.1)) (((zgt v12).1)) (((zgt v12).2.1)) (((zgt v12).2.2.2.1))) (fun v15 =>
        zl (F0_lw_emit v3 0 (((zgt v12).2.2.1)) (((zgt v12).1)) (((zgt v12).2.1)) (((zgt v12).2.2.2.1))) (fun v16 =>
        zl (F1_lw_emit v3 0 (((zgt v12).2.2.1)) (((zgt v12).1)) (((zgt v12).2.1)) (((zgt v12).2.2.2.1))) (fun v17 =>
        some (.inr (none, ((zua (zua (zua (zua (zua (zua ar 32 (((zgt v2).1))) 33 (((zgt v2).2.1))) 32 (((zgt v12).1))) 33 (((zgt v12).2.1))) 32 v14) 33 v15), (zuf (zuf (zuf (zuf (zuf (zuf (zuf (zuf (zuf (zuf (zuf (zuf (zuf fi 31 7 (((zgt v2).2.2.1))) 31 8 (((zgt v2).2.2.2.1))) 40 2 (((zgt v2).2.2.2.2.1))) 40 3 (((zgt v2).2.2.2.2.2.1))) 40 4 (((zgt v2).2.2.2.2.2.2))) 40 4 v11) 31 7 (((zgt v12).2.2.1))) 31 8 (((zgt v12).2.2.2.1))) 40 2 (((zgt v12).2.2.2.2.1))) 40 3 (((zgt v12).2.2.2.2.2.1))) 40 4 (((zgt v12).2.2.2.2.2.2))) 31 7 v16) 31 8 v17), (m1, m2, 1, m4, m5)))))))))))))
       else
        bif !decide (v3 = 61) then
         zl (F0_tx_fail 1 (((zgt v2).2.2.2.2.2.2)) (((zgt v2).2.2.2.2.1)) (((zgt v2).2.2.2.2.2.1))) (fun v18 =>
         zl (F1_tx_fail 1 (((zgt v2).2.2.2.2.2.2)) (((zgt v2).2.2.2.2.1)) (((zgt v2).2.2.2.2.2.1))) (fun v19 =>
         some (.inr (none, ((zua (zua ar 32 (((zgt v2).1))) 33 (((zgt v2).2.1))), (zuf (zuf (zuf (zuf (zuf (zuf (zuf fi 31 7 (((zgt v2).2.2.1))) 31 8 (((zgt v2).2.2.2.1))) 40 2 (((zgt v2).2.2.2.2.1))) 40 3 (((zgt v2).2.2.2.2.2.1))) 40 4 (((zgt v2).2.2.2.2.2.2))) 40 2 v18) 40 3 v19), (m1, m2, 1, m4, m5))))))
        else
         zl (F0_tx_skip (((zgt v2).2.2.2.2.2.2))) (fun v20 =>
         zl (Q_lr_readAmount y (ar 1) (((zgt v2).1)) (((zgt v2).2.1)) (((zgt v2).2.2.1)) (((zgt v2).2.2.2.1)) (fi 40 1) (((zgt v2).2.2.2.2.1)) (((zgt v2).2.2.2.2.2.1)) v20) (fun v21 => zg v21.isSome (
         zg (G_lw_emit v3 0 (((zgt v21).2.2.1)) (((zgt v21).1)) (((zgt v21).2.1)) (((zgt v21).2.2.2.1))) (
         zl (W_lw_emit v3 0 (((zgt v21).2.2.1)) (((zgt v21).1)) (((zgt v21).2.1)) (((zgt v21).2.2.2.1))) (fun v22 =>
         zl (A0_lw_emit v3 0 (((zgt v21).2.2.1)) (((zgt v21).1)) (((zgt v21).2.1)) (((zgt v21).2.2.2.1))) (fun v23 =>
         zl (A1_lw_emit v3 0 (((zgt v21).2.2.1)) (((zgt v21).1)) (((zgt v21).2.1)) (((zgt v21).2.2.2.1))) (fun v24 =>
         zl (F0_lw_emit v3 0 (((zgt v21).2.2.1)) (((zgt v21).1)) (((zgt v21).2.1)) (((zgt v21).2.2.2.1))) (fun v25 =>
         zl (F1_lw_emit v3 0 (((zgt v21).2.2.1)) (((zgt v21).1)) (((zgt v21).2.1)) (((zgt v21).2.2.2.1))) (fun v26 =>
         some (.inr (none, ((zua (zua (zua (zua (zua (zua ar 32 (((zgt v2).1))) 33 (((zgt v2).2.1))) 32 (((zgt v21).1))) 33 (((zgt v21).2.1))) 32 v23) 33 v24), (zuf (zuf (zuf (zuf (zuf (zuf (zuf (zuf (zuf (zuf (zuf (zuf (zuf fi 31 7 (((zgt v2).2.2.1))) 31 8 (((zgt v2).2.2.2.1))) 40 2 (((zgt v2).2.2.2.2.1))) 40 3 (((zgt v2).2.2.2.2.2.1))) 40 4 (((zgt v2).2.2.2.2.2.2))) 40 4 v20) 31 7 (((zgt v21).2.2.1))) 31 8 (((zgt v21).2.2.2.1))) 40 2 (((zgt v21).2.2.2.2.1))) 40 3 (((zgt v21).2.2.2.2.2.1))) 40 4 (((zgt v21).2.2.2.2.2.2))) 31 7 v25) 31 8 v26), (m1, m2, 1, m4, m5)))))))))))))))))
     else
      zl (F0_tx_skip (fi 40 4)) (fun v27 =>
      zl (Q_lr_readCondition (y + 1) (ar 1) (ar 32) (ar 33) (fi 31 7) (fi 31 8) (fi 40 1) (fi 40 2) (fi 40 3) v27) (fun v28 => zg v28.isSome (
      zg (G_tx_expect 41 (((zgt v28).2.2.2.2.1)) (((zgt v28).2.2.2.2.2.2)) (fi 40 1) (ar 1) (((zgt v28).2.2.2.2.2.1))) (
      zl (F0_tx_expect 41 (((zgt v28).2.2.2.2.1)) (((zgt v28).2.2.2.2.2.2)) (fi 40 1) (ar 1) (((zgt v28).2.2.2.2.2.1))) (fun v29 =>
      zl (F1_tx_expect 41 (((zgt v28).2.2.2.2.1)) (((zgt v28).2.2.2.2.2.2)) (fi 40 1) (ar 1) (((zgt v28).2.2.2.2.2.1))) (fun v30 =>
      zl (F2_tx_expect 41 (((zgt v28).2.2.2.2.1)) (((zgt v28).2.2.2.2.2.2)) (fi 40 1) (ar 1) (((zgt v28).2.2.2.2.2.1))) (fun v31 =>
      some (.inr (none, ((zua (zua ar 32 (((zgt v28).1))) 33 (((zgt v28).2.1))), (zuf (zuf (zuf (zuf (zuf (zuf (zuf (zuf (zuf fi 40 4 v27) 31 7 (((zgt v28).2.2.1))) 31 8 (((zgt v28).2.2.2.1))) 40 2 (((zgt v28).2.2.2.2.1))) 40 3 (((zgt v28).2.2.2.2.2.1))) 40 4 (((zgt v28).2.2.2.2.2.2))) 40 2 v29) 40 3 v30) 40 4 v31), (m1, m2, 1, m4, m5)))))))))))
    else
     zl (F0_tx_skip (fi 40 4)) (fun v32 =>
     zl (Q_lr_readTest (y + 1) (ar 1) (ar 32) (ar 33) (fi 31 7) (fi 31 8) (fi 40 1) (fi 40 2) (fi 40 3) v32) (fun v33 => zg v33.isSome (
     zg (G_lw_emit 3 0 (((zgt v33).2.2.1)) (((zgt v33).1)) (((zgt v33).2.1)) (((zgt v33).2.2.2.1))) (
     zl (W_lw_emit 3 0 (((zgt v33).2.2.1)) (((zgt v33).1)) (((zgt v33).2.1)) (((zgt v33).2.2.2.1))) (fun v34 =>
     zl (A0_lw_emit 3 0 (((zgt v33).2.2.1)) (((zgt v33).1)) (((zgt v33).2.1)) (((zgt v33).2.2.2.1))) (fun v35 =>
     zl (A1_lw_emit 3 0 (((zgt v33).2.2.1)) (((zgt v33).1)) (((zgt v33).2.1)) (((zgt v33).2.2.2.1))) (fun v36 =>
     zl (F0_lw_emit 3 0 (((zgt v33).2.2.1)) (((zgt v33).1)) (((zgt v33).2.1)) (((zgt v33).2.2.2.1))) (fun v37 =>
     zl (F1_lw_emit 3 0 (((zgt v33).2.2.1)) (((zgt v33).1)) (((zgt v33).2.1)) (((zgt v33).2.2.2.1))) (fun v38 =>
     some (.inr (none, ((zua (zua (zua (zua ar 32 (((zgt v33).1))) 33 (((zgt v33).2.1))) 32 v35) 33 v36), (zuf (zuf (zuf (zuf (zuf (zuf (zuf (zuf fi 40 4 v32) 31 7 (((zgt v33).2.2.1))) 31 8 (((zgt v33).2.2.2.1))) 40 2 (((zgt v33).2.2.2.2.1))) 40 3 (((zgt v33).2.2.2.2.2.1))) 40 4 (((zgt v33).2.2.2.2.2.2))) 31 7 v37) 31 8 v38), (m1, m2, 1, m4, m5)))))))))))))
   else
    zl (F0_tx_fail 5 (fi 40 4) (fi 40 2) (fi 40 3)) (fun v39 =>
    zl (F1_tx_fail 5 (fi 40 4) (fi 40 2) (fi 40 3)) (fun v40 =>
    some (.inr (none, (ar, (zuf (zuf fi 40 2 v39) 40 3 v40), (m1, m2, 1, m4, m5))))))
  else
   bif !decide (v1 = 40) then
    bif !decide (v1 = 33) then
     bif !decide (v1 = 40) then
      zl (Q_lr_readAmount y (ar 1) (ar 32) (ar 33) (fi 31 7) (fi 31 8) (fi 40 1) (fi 40 2) (fi 40 3) (fi 40 4)) (fun v41 => zg v41.isSome (
      zg (G_tx_sign (((zgt v41).2.2.2.2.1)) (((zgt v41).2.2.2.2.2.2)) (fi 40 1) (ar 1)) (
      zl (W_tx_sign (((zgt v41).2.2.2.2.1)) (((zgt v41).2.2.2.2.2.2)) (fi 40 1) (ar 1)) (fun v42 =>
      bif decide (v42 = 60) then
       zl (F0_tx_skip (((zgt v41).2.2.2.2.2.2))) (fun v43 =>
       zl (Q_lr_readAmount y (ar 1) (((zgt v41).1)) (((zgt v41).2.1)) (((zgt v41).2.2.1)) (((zgt v41).2.2.2.1)) (fi 40 1) (((zgt v41).2.2.2.2.1)) (((zgt v41).2.2.2.2.2.1)) v43) (fun v44 => zg v44.isSome (
       zg (G_lw_emit v42 0 (((zgt v44).2.2.1)) (((zgt v44).1)) (((zgt v44).2.1)) (((zgt v44).2.2.2.1))) (
       zl (W_lw_emit v42 0 (((zgt v44).2.2.1)) (((zgt v44).1)) (((zgt v44).2.1)) (((zgt v44).2.2.2.1))) (fun v45 =>
       zl (A0_lw_emit v42 0 (((zgt v44).2.2.1)) (((zgt v44).1)) (((zgt v44).2.1)) (((zgt v44).2.2.2.1))) (fun v46 =>
       zl (A1_lw_emit v42 0 (((zgt v44).2.2.1)) (((zgt v44).1)) (((zgt v44).2.1)) (((zgt v44).2.2.2.1))) (fun v47 =>
       zl (F0_lw_emit v42 0 (((zgt v44).2.2.1)) (((zgt v44).1)) (((zgt v44).2.1)) (((zgt v44).2.2.2.1))) (fun v48 =>
       zl (F1_lw_emit v42 0 (((zgt v44).2.2.1)) (((zgt v44).1)) (((zgt v44).2.1)) (((zgt v44).2.2.2.1))) (fun v49 =>
       some (.inr (none, ((zua (zua (zua (zua (zua (zua ar 32 (((zgt v41).1))) 33 (((zgt v41).2.1))) 32 (((zgt v44).1))) 33 (((zgt v44).2.1))) 32 v46) 33 v47), (zuf (zuf (zuf (zuf (zuf (zuf (zuf (zuf (zuf (zuf (zuf (zuf (zuf fi 31 7 (((zgt v41).2.2.1))) 31 8 (((zgt v41).2.2.2.1))) 40 2 (((zgt v41).2.2.2.2.1))) 40 3 (((zgt v41).2.2.2.2.2.1))) 40 4 (((zgt v41).2.2.2.2.2.2))) 40 4 v43) 31 7 (((zgt v44).2.2.1))) 31 8 (((zgt v44).2.2.2.1))) 40 2 (((zgt v44).2.2.2.2.1))) 40 3 (((zgt v44).2.2.2.2.2.1))) 40 4 (((zgt v44).2.2.2.2.2.2))) 31 7 v48) 31 8 v49), (m1, m2, 1, m4, m5)))))))))))))
      else
       bif decide (v42 = 62) then
        zl (F0_tx_skip (((zgt v41).2.2.2.2.2.2))) (fun v50 =>
        zl (Q_lr_readAmount y (ar 1) (((zgt v41).1)) (((zgt v41).2.1)) (((zgt v41).2.2.1)) (((zgt v41).2.2.2.1)) (fi 40 1) (((zgt v41).2.2.2.2.1)) (((zgt v41).2.2.2.2.2.1)) v50) (fun v51 => zg v51.isSome (
        zg (G_lw_emit v42 0 (((zgt v51).2.2.1)) (((zgt v51).1)) (((zgt v51).2.1)) (((zgt v51).2.2.2.1))) (
        zl (W_lw_emit v42 0 (((zgt v51).2.2.1)) (((zgt v51).1)) (((zgt v51).2.1)) (((zgt v51).2.2.2.1))) (fun v52 =>
        zl (A0_lw_emit v42 0 (((zgt v51).2.2.1)) (((zgt v51).1)) (((zgt v51).2.1)) (((zgt v51).2.2.2.1))) (fun v53 =>
        zl (A1_lw_emit v42 0 (((zgt v51).2.2.1)) (((zgt v51).1)) (((zgt v51).2.1)) (((zgt v51).2.2.2.1))) (fun v54 =>
        zl (F0_lw_emit v42 0 (((zgt v51).2.2.1)) (((zgt v51).1)) (((zgt v51).2.1)) (((zgt v51).2.2.2.1))) (fun v55 =>
        zl (F1_lw_emit v42 0 (((zgt v51).2.2.1)) (((zgt v51).1)) (((zgt v51).2.1)) (((zgt v51).2.2.2.1))) (fun v56 =>
        some (.inr (none, ((zua (zua (zua (zua (zua (zua ar 32 (((zgt v41).1))) 33 (((zgt v41).2.1))) 32 (((zgt v51).1))) 33 (((zgt v51).2.1))) 32 v53) 33 v54), (zuf (zuf (zuf (zuf (zuf (zuf (zuf (zuf (zuf (zuf (zuf (zuf (zuf fi 31 7 (((zgt v41).2.2.1))) 31 8 (((zgt v41).2.2.2.1))) 40 2 (((zgt v41).2.2.2.2.1))) 40 3 (((zgt v41).2.2.2.2.2.1))) 40 4 (((zgt v41).2.2.2.2.2.2))) 40 4 v50) 31 7 (((zgt v51).2.2.1))) 31 8 (((zgt v51).2.2.2.1))) 40 2 (((zgt v51).2.2.2.2.1))) 40 3 (((zgt v51).2.2.2.2.2.1))) 40 4 (((zgt v51).2.2.2.2.2.2))) 31 7 v55) 31 8 v56), (m1, m2, 1, m4, m5)))))))))))))
       else
        bif !decide (v42 = 61) then
         zl (F0_tx_fail 1 (((zgt v41).2.2.2.2.2.2)) (((zgt v41).2.2.2.2.1)) (((zgt v41).2.2.2.2.2.1))) (fun v57 =>
         zl (F1_tx_fail 1 (((zgt v41).2.2.2.2.2.2)) (((zgt v41).2.2.2.2.1)) (((zgt v41).2.2.2.2.2.1))) (fun v58 =>
         some (.inr (none, ((zua (zua ar 32 (((zgt v41).1))) 33 (((zgt v41).2.1))), (zuf (zuf (zuf (zuf (zuf (zuf (zuf fi 31 7 (((zgt v41).2.2.1))) 31 8 (((zgt v41).2.2.2.1))) 40 2 (((zgt v41).2.2.2.2.1))) 40 3 (((zgt v41).2.2.2.2.2.1))) 40 4 (((zgt v41).2.2.2.2.2.2))) 40 2 v57) 40 3 v58), (m1, m2, 1, m4, m5))))))
        else
         zl (F0_tx_skip (((zgt v41).2.2.2.2.2.2))) (fun v59 =>
         zl (Q_lr_readAmount y (ar 1) (((zgt v41).1)) (((zgt v41).2.1)) (((zgt v41).2.2.1)) (((zgt v41).2.2.2.1)) (fi 40 1) (((zgt v41).2.2.2.2.1)) (((zgt v41).2.2.2.2.2.1)) v59) (fun v60 => zg v60.isSome (
         zg (G_lw_emit v42 0 (((zgt v60).2.2.1)) (((zgt v60).1)) (((zgt v60).2.1)) (((zgt v60).2.2.2.1))) (
         zl (W_lw_emit v42 0 (((zgt v60).2.2.1)) (((zgt v60).1)) (((zgt v60).2.1)) (((zgt v60).2.2.2.1))) (fun v61 =>
         zl (A0_lw_emit v42 0 (((zgt v60).2.2.1)) (((zgt v60).1)) (((zgt v60).2.1)) (((zgt v60).2.2.2.1))) (fun v62 =>
         zl (A1_lw_emit v42 0 (((zgt v60).2.2.1)) (((zgt v60).1)) (((zgt v60).2.1)) (((zgt v60).2.2.2.1))) (fun v63 =>
         zl (F0_lw_emit v42 0 (((zgt v60).2.2.1)) (((zgt v60).1)) (((zgt v60).2.1)) (((zgt v60).2.2.2.1))) (fun v64 =>
         zl (F1_lw_emit v42 0 (((zgt v60).2.2.1)) (((zgt v60).1)) (((zgt v60).2.1)) (((zgt v60).2.2.2.1))) (fun v65 =>
         some (.inr (none, ((zua (zua (zua (zua (zua (zua ar 32 (((zgt v41).1))) 33 (((zgt v41).2.1))) 32 (((zgt v60).1))) 33 (((zgt v60).2.1))) 32 v62) 33 v63), (zuf (zuf (zuf (zuf (zuf (zuf (zuf (zuf (zuf (zuf (zuf (zuf (zuf fi 31 7 (((zgt v41).2.2.1))) 31 8 (((zgt v41).2.2.2.1))) 40 2 (((zgt v41).2.2.2.2.1))) 40 3 (((zgt v41).2.2.2.2.2.1))) 40 4 (((zgt v41).2.2.2.2.2.2))) 40 4 v59) 31 7 (((zgt v60).2.2.1))) 31 8 (((zgt v60).2.2.2.1))) 40 2 (((zgt v60).2.2.2.2.1))) 40 3 (((zgt v60).2.2.2.2.2.1))) 40 4 (((zgt v60).2.2.2.2.2.2))) 31 7 v64) 31 8 v65), (m1, m2, 1, m4, m5)))))))))))))))))
     else
      zl (F0_tx_skip (fi 40 4)) (fun v66 =>
      zl (Q_lr_readCondition (y + 1) (ar 1) (ar 32) (ar 33) (fi 31 7) (fi 31 8) (fi 40 1) (fi 40 2) (fi 40 3) v66) (fun v67 => zg v67.isSome (
      zg (G_tx_expect 41 (((zgt v67).2.2.2.2.1)) (((zgt v67).2.2.2.2.2.2)) (fi 40 1) (ar 1) (((zgt v67).2.2.2.2.2.1))) (
      zl (F0_tx_expect 41 (((zgt v67).2.2.2.2.1)) (((zgt v67).2.2.2.2.2.2)) (fi 40 1) (ar 1) (((zgt v67).2.2.2.2.2.1))) (fun v68 =>
      zl (F1_tx_expect 41 (((zgt v67).2.2.2.2.1)) (((zgt v67).2.2.2.2.2.2)) (fi 40 1) (ar 1) (((zgt v67).2.2.2.2.2.1))) (fun v69 =>
      zl (F2_tx_expect 41 (((zgt v67).2.2.2.2.1)) (((zgt v67).2.2.2.2.2.2)) (fi 40 1) (ar 1) (((zgt v67).2.2.2.2.2.1))) (fun v70 =>
      some (.inr (none, ((zua (zua ar 32 (((zgt v67).1))) 33 (((zgt v67).2.1))), (zuf (zuf (zuf (zuf (zuf (zuf (zuf (zuf (zuf fi 40 4 v66) 31 7 (((zgt v67).2.2.1))) 31 8 (((zgt v67).2.2.2.1))) 40 2 (((zgt v67).2.2.2.2.1))) 40 3 (((zgt v67).2.2.2.2.2.1))) 40 4 (((zgt v67).2.2.2.2.2.2))) 40 2 v68) 40 3 v69) 40 4 v70), (m1, m2, 1, m4, m5)))))))))))
    else
     zl (F0_tx_skip (fi 40 4)) (fun v71 =>
     zl (Q_lr_readTest (y + 1) (ar 1) (ar 32) (ar 33) (fi 31 7) (fi 31 8) (fi 40 1) (fi 40 2) (fi 40 3) v71) (fun v72 => zg v72.isSome (
     zg (G_lw_emit 3 0 (((zgt v72).2.2.1)) (((zgt v72).1)) (((zgt v72).2.1)) (((zgt v72).2.2.2.1))) (
     zl (W_lw_emit 3 0 (((zgt v72).2.2.1)) (((zgt v72).1)) (((zgt v72).2.1)) (((zgt v72).2.2.2.1))) (fun v73 =>
     zl (A0_lw_emit 3 0 (((zgt v72).2.2.1)) (((zgt v72).1)) (((zgt v72).2.1)) (((zgt v72).2.2.2.1))) (fun v74 =>
     zl (A1_lw_emit 3 0 (((zgt v72).2.2.1)) (((zgt v72).1)) (((zgt v72).2.1)) (((zgt v72).2.2.2.1))) (fun v75 =>
     zl (F0_lw_emit 3 0 (((zgt v72).2.2.1)) (((zgt v72).1)) (((zgt v72).2.1)) (((zgt v72).2.2.2.1))) (fun v76 =>
     zl (F1_lw_emit 3 0 (((zgt v72).2.2.1)) (((zgt v72).1)) (((zgt v72).2.1)) (((zgt v72).2.2.2.1))) (fun v77 =>
     some (.inr (none, ((zua (zua (zua (zua ar 32 (((zgt v72).1))) 33 (((zgt v72).2.1))) 32 v74) 33 v75), (zuf (zuf (zuf (zuf (zuf (zuf (zuf (zuf fi 40 4 v71) 31 7 (((zgt v72).2.2.1))) 31 8 (((zgt v72).2.2.2.1))) 40 2 (((zgt v72).2.2.2.2.1))) 40 3 (((zgt v72).2.2.2.2.2.1))) 40 4 (((zgt v72).2.2.2.2.2.2))) 31 7 v76) 31 8 v77), (m1, m2, 1, m4, m5)))))))))))))
   else
    bif decide (y < 6) then
     bif !decide (v1 = 33) then
      bif !decide (v1 = 40) then
       zl (Q_lr_readAmount y (ar 1) (ar 32) (ar 33) (fi 31 7) (fi 31 8) (fi 40 1) (fi 40 2) (fi 40 3) (fi 40 4)) (fun v78 => zg v78.isSome (
       zg (G_tx_sign (((zgt v78).2.2.2.2.1)) (((zgt v78).2.2.2.2.2.2)) (fi 40 1) (ar 1)) (
       zl (W_tx_sign (((zgt v78).2.2.2.2.1)) (((zgt v78).2.2.2.2.2.2)) (fi 40 1) (ar 1)) (fun v79 =>
       bif decide (v79 = 60) then
        zl (F0_tx_skip (((zgt v78).2.2.2.2.2.2))) (fun v80 =>
        zl (Q_lr_readAmount y (ar 1) (((zgt v78).1)) (((zgt v78).2.1)) (((zgt v78).2.2.1)) (((zgt v78).2.2.2.1)) (fi 40 1) (((zgt v78).2.2.2.2.1)) (((zgt v78).2.2.2.2.2.1)) v80) (fun v81 => zg v81.isSome (
        zg (G_lw_emit v79 0 (((zgt v81).2.2.1)) (((zgt v81).1)) (((zgt v81).2.1)) (((zgt v81).2.2.2.1))) (
        zl (W_lw_emit v79 0 (((zgt v81).2.2.1)) (((zgt v81).1)) (((zgt v81).2.1)) (((zgt v81).2.2.2.1))) (fun v82 =>
        zl (A0_lw_emit v79 0 (((zgt v81).2.2.1)) (((zgt v81).1)) (((zgt v81).2.1)) (((zgt v81).2.2.2.1))) (fun v83 =>
        zl (A1_lw_emit v79 0 (((zgt v81).2.2.1)) (((zgt v81).1)) (((zgt v81).2.1)) (((zgt v81).2.2.2.1))) (fun v84 =>
        zl (F0_lw_emit v79 0 (((zgt v81).2.2.1)) (((zgt v81).1)) (((zgt v81).2.1)) (((zgt v81).2.2.2.1))) (fun v85 =>
        zl (F1_lw_emit v79 0 (((zgt v81).2.2.1)) (((zgt v81).1)) (((zgt v81).2.1)) (((zgt v81).2.2.2.1))) (fun v86 =>
        some (.inr (none, ((zua (zua (zua (zua (zua (zua ar 32 (((zgt v78).1))) 33 (((zgt v78).2.1))) 32 (((zgt v81).1))) 33 (((zgt v81).2.1))) 32 v83) 33 v84), (zuf (zuf (zuf (zuf (zuf (zuf (zuf (zuf (zuf (zuf (zuf (zuf (zuf fi 31 7 (((zgt v78).2.2.1))) 31 8 (((zgt v78).2.2.2.1))) 40 2 (((zgt v78).2.2.2.2.1))) 40 3 (((zgt v78).2.2.2.2.2.1))) 40 4 (((zgt v78).2.2.2.2.2.2))) 40 4 v80) 31 7 (((zgt v81).2.2.1))) 31 8 (((zgt v81).2.2.2.1))) 40 2 (((zgt v81).2.2.2.2.1))) 40 3 (((zgt v81).2.2.2.2.2.1))) 40 4 (((zgt v81).2.2.2.2.2.2))) 31 7 v85) 31 8 v86), (m1, m2, 1, m4, m5)))))))))))))
       else
        bif decide (v79 = 62) then
         zl (F0_tx_skip (((zgt v78).2.2.2.2.2.2))) (fun v87 =>
         zl (Q_lr_readAmount y (ar 1) (((zgt v78).1)) (((zgt v78).2.1)) (((zgt v78).2.2.1)) (((zgt v78).2.2.2.1)) (fi 40 1) (((zgt v78).2.2.2.2.1)) (((zgt v78).2.2.2.2.2.1)) v87) (fun v88 => zg v88.isSome (
         zg (G_lw_emit v79 0 (((zgt v88).2.2.1)) (((zgt v88).1)) (((zgt v88).2.1)) (((zgt v88).2.2.2.1))) (
         zl (W_lw_emit v79 0 (((zgt v88).2.2.1)) (((zgt v88).1)) (((zgt v88).2.1)) (((zgt v88).2.2.2.1))) (fun v89 =>
         zl (A0_lw_emit v79 0 (((zgt v88).2.2.1)) (((zgt v88).1)) (((zgt v88).2.1)) (((zgt v88).2.2.2.1))) (fun v90 =>
         zl (A1_lw_emit v79 0 (((zgt v88).2.2.1)) (((zgt v88).1)) (((zgt v88).2.1)) (((zgt v88).2.2.2.1))) (fun v91 =>
         zl (F0_lw_emit v79 0 (((zgt v88).2.2.1)) (((zgt v88).1)) (((zgt v88).2.1)) (((zgt v88).2.2.2.1))) (fun v92 =>
         zl (F1_lw_emit v79 0 (((zgt v88).2.2.1)) (((zgt v88).1)) (((zgt v88).2.1)) (((zgt v88).2.2.2.1))) (fun v93 =>
         some (.inr (none, ((zua (zua (zua (zua (zua (zua ar 32 (((zgt v78).1))) 33 (((zgt v78).2.1))) 32 (((zgt v88).1))) 33 (((zgt v88).2.1))) 32 v90) 33 v91), (zuf (zuf (zuf (zuf (zuf (zuf (zuf (zuf (zuf (zuf (zuf (zuf (zuf fi 31 7 (((zgt v78).2.2.1))) 31 8 (((zgt v78).2.2.2.1))) 40 2 (((zgt v78).2.2.2.2.1))) 40 3 (((zgt v78).2.2.2.2.2.1))) 40 4 (((zgt v78).2.2.2.2.2.2))) 40 4 v87) 31 7 (((zgt v88).2.2.1))) 31 8 (((zgt v88).2.2.2.1))) 40 2 (((zgt v88).2.2.2.2.1))) 40 3 (((zgt v88).2.2.2.2.2.1))) 40 4 (((zgt v88).2.2.2.2.2.2))) 31 7 v92) 31 8 v93), (m1, m2, 1, m4, m5)))))))))))))
        else
         bif !decide (v79 = 61) then
          zl (F0_tx_fail 1 (((zgt v78).2.2.2.2.2.2)) (((zgt v78).2.2.2.2.1)) (((zgt v78).2.2.2.2.2.1))) (fun v94 =>
          zl (F1_tx_fail 1 (((zgt v78).2.2.2.2.2.2)) (((zgt v78).2.2.2.2.1)) (((zgt v78).2.2.2.2.2.1))) (fun v95 =>
          some (.inr (none, ((zua (zua ar 32 (((zgt v78).1))) 33 (((zgt v78).2.1))), (zuf (zuf (zuf (zuf (zuf (zuf (zuf fi 31 7 (((zgt v78).2.2.1))) 31 8 (((zgt v78).2.2.2.1))) 40 2 (((zgt v78).2.2.2.2.1))) 40 3 (((zgt v78).2.2.2.2.2.1))) 40 4 (((zgt v78).2.2.2.2.2.2))) 40 2 v94) 40 3 v95), (m1, m2, 1, m4, m5))))))
         else
          zl (F0_tx_skip (((zgt v78).2.2.2.2.2.2))) (fun v96 =>
          zl (Q_lr_readAmount y (ar 1) (((zgt v78).1)) (((zgt v78).2.1)) (((zgt v78).2.2.1)) (((zgt v78).2.2.2.1)) (fi 40 1) (((zgt v78).2.2.2.2.1)) (((zgt v78).2.2.2.2.2.1)) v96) (fun v97 => zg v97.isSome (
          zg (G_lw_emit v79 0 (((zgt v97).2.2.1)) (((zgt v97).1)) (((zgt v97).2.1)) (((zgt v97).2.2.2.1))) (
          zl (W_lw_emit v79 0 (((zgt v97).2.2.1)) (((zgt v97).1)) (((zgt v97).2.1)) (((zgt v97).2.2.2.1))) (fun v98 =>
          zl (A0_lw_emit v79 0 (((zgt v97).2.2.1)) (((zgt v97).1)) (((zgt v97).2.1)) (((zgt v97).2.2.2.1))) (fun v99 =>
          zl (A1_lw_emit v79 0 (((zgt v97).2.2.1)) (((zgt v97).1)) (((zgt v97).2.1)) (((zgt v97).2.2.2.1))) (fun v100 =>
          zl (F0_lw_emit v79 0 (((zgt v97).2.2.1)) (((zgt v97).1)) (((zgt v97).2.1)) (((zgt v97).2.2.2.1))) (fun v101 =>
          zl (F1_lw_emit v79 0 (((zgt v97).2.2.1)) (((zgt v97).1)) (((zgt v97).2.1)) (((zgt v97).2.2.2.1))) (fun v102 =>
          some (.inr (none, ((zua (zua (zua (zua (zua (zua ar 32 (((zgt v78).1))) 33 (((zgt v78).2.1))) 32 (((zgt v97).1))) 33 (((zgt v97).2.1))) 32 v99) 33 v100), (zuf (zuf (zuf (zuf (zuf (zuf (zuf (zuf (zuf (zuf (zuf (zuf (zuf fi 31 7 (((zgt v78).2.2.1))) 31 8 (((zgt v78).2.2.2.1))) 40 2 (((zgt v78).2.2.2.2.1))) 40 3 (((zgt v78).2.2.2.2.2.1))) 40 4 (((zgt v78).2.2.2.2.2.2))) 40 4 v96) 31 7 (((zgt v97).2.2.1))) 31 8 (((zgt v97).2.2.2.1))) 40 2 (((zgt v97).2.2.2.2.1))) 40 3 (((zgt v97).2.2.2.2.2.1))) 40 4 (((zgt v97).2.2.2.2.2.2))) 31 7 v101) 31 8 v102), (m1, m2, 1, m4, m5)))))))))))))))))
      else
       zl (F0_tx_skip (fi 40 4)) (fun v103 =>
       zl (Q_lr_readCondition (y + 1) (ar 1) (ar 32) (ar 33) (fi 31 7) (fi 31 8) (fi 40 1) (fi 40 2) (fi 40 3) v103) (fun v104 => zg v104.isSome (
       zg (G_tx_expect 41 (((zgt v104).2.2.2.2.1)) (((zgt v104).2.2.2.2.2.2)) (fi 40 1) (ar 1) (((zgt v104).2.2.2.2.2.1))) (
       zl (F0_tx_expect 41 (((zgt v104).2.2.2.2.1)) (((zgt v104).2.2.2.2.2.2)) (fi 40 1) (ar 1) (((zgt v104).2.2.2.2.2.1))) (fun v105 =>
       zl (F1_tx_expect 41 (((zgt v104).2.2.2.2.1)) (((zgt v104).2.2.2.2.2.2)) (fi 40 1) (ar 1) (((zgt v104).2.2.2.2.2.1))) (fun v106 =>
       zl (F2_tx_expect 41 (((zgt v104).2.2.2.2.1)) (((zgt v104).2.2.2.2.2.2)) (fi 40 1) (ar 1) (((zgt v104).2.2.2.2.2.1))) (fun v107 =>
       some (.inr (none, ((zua (zua ar 32 (((zgt v104).1))) 33 (((zgt v104).2.1))), (zuf (zuf (zuf (zuf (zuf (zuf (zuf (zuf (zuf fi 40 4 v103) 31 7 (((zgt v104).2.2.1))) 31 8 (((zgt v104).2.2.2.1))) 40 2 (((zgt v104).2.2.2.2.1))) 40 3 (((zgt v104).2.2.2.2.2.1))) 40 4 (((zgt v104).2.2.2.2.2.2))) 40 2 v105) 40 3 v106) 40 4 v107), (m1, m2, 1, m4, m5)))))))))))
     else
      zl (F0_tx_skip (fi 40 4)) (fun v108 =>
      zl (Q_lr_readTest (y + 1) (ar 1) (ar 32) (ar 33) (fi 31 7) (fi 31 8) (fi 40 1) (fi 40 2) (fi 40 3) v108) (fun v109 => zg v109.isSome (
      zg (G_lw_emit 3 0 (((zgt v109).2.2.1)) (((zgt v109).1)) (((zgt v109).2.1)) (((zgt v109).2.2.2.1))) (
      zl (W_lw_emit 3 0 (((zgt v109).2.2.1)) (((zgt v109).1)) (((zgt v109).2.1)) (((zgt v109).2.2.2.1))) (fun v110 =>
      zl (A0_lw_emit 3 0 (((zgt v109).2.2.1)) (((zgt v109).1)) (((zgt v109).2.1)) (((zgt v109).2.2.2.1))) (fun v111 =>
      zl (A1_lw_emit 3 0 (((zgt v109).2.2.1)) (((zgt v109).1)) (((zgt v109).2.1)) (((zgt v109).2.2.2.1))) (fun v112 =>
      zl (F0_lw_emit 3 0 (((zgt v109).2.2.1)) (((zgt v109).1)) (((zgt v109).2.1)) (((zgt v109).2.2.2.1))) (fun v113 =>
      zl (F1_lw_emit 3 0 (((zgt v109).2.2.1)) (((zgt v109).1)) (((zgt v109).2.1)) (((zgt v109).2.2.2.1))) (fun v114 =>
      some (.inr (none, ((zua (zua (zua (zua ar 32 (((zgt v109).1))) 33 (((zgt v109).2.1))) 32 v111) 33 v112), (zuf (zuf (zuf (zuf (zuf (zuf (zuf (zuf fi 40 4 v108) 31 7 (((zgt v109).2.2.1))) 31 8 (((zgt v109).2.2.2.1))) 40 2 (((zgt v109).2.2.2.2.1))) 40 3 (((zgt v109).2.2.2.2.2.1))) 40 4 (((zgt v109).2.2.2.2.2.2))) 31 7 v113) 31 8 v114), (m1, m2, 1, m4, m5)))))))))))))
    else
     zl (F0_tx_fail 5 (fi 40 4) (fi 40 2) (fi 40 3)) (fun v115 =>
     zl (F1_tx_fail 5 (fi 40 4) (fi 40 2) (fi 40 3)) (fun v116 =>
     some (.inr (none, (ar, (zuf (zuf fi 40 2 v115) 40 3 v116), (m1, m2, 1, m4, m5)))))))) : Option ((Nat × List Value × List Value × zH2) ⊕ zO2)) := by with_unfolding_all rfl
set_option maxRecDepth 20000 in
theorem e_lr_readTest_39_31 {X : Nat × (Nat → Int32)} {ar fi : Nat → Nat → Int32} {m1 m2 m4 m5 : Nat} {y : Int32} {Q_lr_readCondition : Int32 → (Nat → Int32) → (Nat → Int32) → (Nat → Int32) → Int32 → Int32 → Int32 → Int32 → Int32 → Int32 → Option ((Nat → Int32) × (Nat → Int32) × Int32 × Int32 × Int32 × Int32 × Int32)} {Q_lr_readTest : Int32 → (Nat → Int32) → (Nat → Int32) → (Nat → Int32) → Int32 → Int32 → Int32 → Int32 → Int32 → Int32 → Option ((Nat → Int32) × (Nat → Int32) × Int32 × Int32 × Int32 × Int32 × Int32)} {Q_lr_readAmount : Int32 → (Nat → Int32) → (Nat → Int32) → (Nat → Int32) → Int32 → Int32 → Int32 → Int32 → Int32 → Int32 → Option ((Nat → Int32) × (Nat → Int32) × Int32 × Int32 × Int32 × Int32 × Int32)} {Q_lr_readFactor : Int32 → (Nat → Int32) → (Nat → Int32) → (Nat → Int32) → Int32 → Int32 → Int32 → Int32 → Int32 → Int32 → Option ((Nat → Int32) × (Nat → Int32) × Int32 × Int32 × Int32 × Int32 × Int32)} {o : zO2} : ∀ (q : T_lr_readTest), qG_lr_readTest Q_lr_readCondition Q_lr_readTest Q_lr_readAmount Q_lr_readFactor y (ar 1) (ar 32) (ar 33) (fi 31 7) (fi 31 8) (fi 40 1) (fi 40 2) (fi 40 3) (fi 40 4) = some q → (fun t => O_lr_readTest_39_31 ar fi m1 m2 m4 m5 t = o) q → zR2 X zFT (zEx 93 S_tx_sign (zEx 97 S_tx_fail (zEx 95 S_tx_skip (zEx 52 (P_lr_readTest Q_lr_readTest) (zEx 40 S_lw_emit (zEx 51 (P_lr_readCondition Q_lr_readCondition) (zEx 96 S_tx_expect (zEx 53 (P_lr_readAmount Q_lr_readAmount) zE0)))))))) zc_52 0 [.ref 39, .ref 31, .int y] [] (ar, fi, (m1, m2, 1, m4, m5)) o := by
  intro q h hq
  unfold qG_lr_readTest at h
  refine zT_seg t_lr_readTest_39_31 ?_
  obtain ⟨TT, hTT⟩ : ∃ T, T = zT X zFT (zEx 93 S_tx_sign (zEx 97 S_tx_fail (zEx 95 S_tx_skip (zEx 52 (P_lr_readTest Q_lr_readTest) (zEx 40 S_lw_emit (zEx 51 (P_lr_readCondition Q_lr_readCondition) (zEx 96 S_tx_expect (zEx 53 (P_lr_readAmount Q_lr_readAmount) zE0)))))))) zc_52 o := ⟨_, rfl⟩
  rw [← hTT]
  refine zg_el h (fun hg h => zU_g hTT hg ?_)
  refine zl_el h (fun h => zU_l hTT ?_)
  refine zb_el h (fun hb h => zU_t hTT hb ?_) (fun hb h => zU_f hTT hb ?_)
  · refine zb_el h (fun hb h => zU_t hTT hb ?_) (fun hb h => zU_f hTT hb ?_)
    · refine zb_el h (fun hb h => zU_t hTT hb ?_) (fun hb h => zU_f hTT hb ?_)
      · refine zb_el h (fun hb h => zU_t hTT hb ?_) (fun hb h => zU_f hTT hb ?_)
        · refine zbd_el h (fun v2 hv h => zU_c hTT hv ?_)
          refine zg_el h (fun hg h => zU_g hTT hg ?_)
          refine zl_el h (fun h => zU_l hTT ?_)
          refine zb_el h (fun hb h => zU_t hTT hb ?_) (fun hb h => zU_f hTT hb ?_)
          · refine zl_el h (fun h => zU_l hTT ?_)
            refine zbd_el h (fun v5 hv h => zU_c hTT hv ?_)
            refine zg_el h (fun hg h => zU_g hTT hg ?_)
            refine zl_el h (fun h => zU_l hTT ?_)
            refine zl_el h (fun h => zU_l hTT ?_)
            refine zl_el h (fun h => zU_l hTT ?_)
            refine zl_el h (fun h => zU_l hTT ?_)
            refine zl_el h (fun h => zU_l hTT ?_)
            rw [hTT]
            have hz := zsi (P := (fun t => O_lr_readTest_39_31 ar fi m1 m2 m4 m5 t = o)) h hq
            refine (zO_mk ?_ ?_).trans hz
            · first | with_reducible rfl | exact hA9_lr_readTest _ _ _ _ _ _ _
            · first | with_reducible rfl | exact hF10_lr_readTest _ _ _ _ _ _ _ _ _ _ _ _ _ _
          · refine zb_el h (fun hb h => zU_t hTT hb ?_) (fun hb h => zU_f hTT hb ?_)
            · refine zl_el h (fun h => zU_l hTT ?_)
              refine zbd_el h (fun v12 hv h => zU_c hTT hv ?_)
              refine zg_el h (fun hg h => zU_g hTT hg ?_)
              refine zl_el h (fun h => zU_l hTT ?_)
              refine zl_el h (fun h => zU_l hTT ?_)
              refine zl_el h (fun h => zU_l hTT ?_)
              refine zl_el h (fun h => zU_l hTT ?_)
              refine zl_el h (fun h => zU_l hTT ?_)
              rw [hTT]
              have hz := zsi (P := (fun t => O_lr_readTest_39_31 ar fi m1 m2 m4 m5 t = o)) h hq
              refine (zO_mk ?_ ?_).trans hz
              · first | with_reducible rfl | exact hA9_lr_readTest _ _ _ _ _ _ _
              · first | with_reducible rfl | exact hF10_lr_readTest _ _ _ _ _ _ _ _ _ _ _ _ _ _
            · refine zb_el h (fun hb h => zU_t hTT hb ?_) (fun hb h => zU_f hTT hb ?_)
              · refine zl_el h (fun h => zU_l hTT ?_)
                refine zl_el h (fun h => zU_l hTT ?_)
                rw [hTT]
                have hz := zsi (P := (fun t => O_lr_readTest_39_31 ar fi m1 m2 m4 m5 t = o)) h hq
                refine (zO_mk ?_ ?_).trans hz
                · first | with_reducible rfl | exact hA11_lr_readTest _ _ _
                · first | with_reducible rfl | exact hF12_lr_readTest _ _ _ _ _ _ _ _
              · refine zl_el h (fun h => zU_l hTT ?_)
                refine zbd_el h (fun v21 hv h => zU_c hTT hv ?_)
                refine zg_el h (fun hg h => zU_g hTT hg ?_)
                refine zl_el h (fun h => zU_l hTT ?_)
                refine zl_el h (fun h => zU_l hTT ?_)
                refine zl_el h (fun h => zU_l hTT ?_)
                refine zl_el h (fun h => zU_l hTT ?_)
                refine zl_el h (fun h => zU_l hTT ?_)
                rw [hTT]
                have hz := zsi (P := (fun t => O_lr_readTest_39_31 ar fi m1 m2 m4 m5 t = o)) h hq
                refine (zO_mk ?_ ?_).trans hz
                · first | with_reducible rfl | exact hA9_lr_readTest _ _ _ _ _ _ _
                · first | with_reducible rfl | exact hF10_lr_readTest _ _ _ _ _ _ _ _ _ _ _ _ _ _
        · refine zl_el h (fun h => zU_l hTT ?_)
          refine zbd_el h (fun v28 hv h => zU_c hTT hv ?_)
          refine zg_el h (fun hg h => zU_g hTT hg ?_)
          refine zl_el h (fun h => zU_l hTT ?_)
          refine zl_el h (fun h => zU_l hTT ?_)
          refine zl_el h (fun h => zU_l hTT ?_)
          rw [hTT]
          have hz := zsi (P := (fun t => O_lr_readTest_39_31 ar fi m1 m2 m4 m5 t = o)) h hq
          refine (zO_mk ?_ ?_).trans hz
          · first | with_reducible rfl | exact hA11_lr_readTest _ _ _
          · first | with_reducible rfl | exact hF13_lr_readTest _ _ _ _ _ _ _ _ _ _
      · refine zl_el h (fun h => zU_l hTT ?_)
        refine zbd_el h (fun v33 hv h => zU_c hTT hv ?_)
        refine zg_el h (fun hg h => zU_g hTT hg ?_)
        refine zl_el h (fun h => zU_l hTT ?_)
        refine zl_el h (fun h => zU_l hTT ?_)
        refine zl_el h (fun h => zU_l hTT ?_)
        refine zl_el h (fun h => zU_l hTT ?_)
        refine zl_el h (fun h => zU_l hTT ?_)
        rw [hTT]
        have hz := zsi (P := (fun t => O_lr_readTest_39_31 ar fi m1 m2 m4 m5 t = o)) h hq
        refine (zO_mk ?_ ?_).trans hz
        · first | with_reducible rfl | exact hA14_lr_readTest _ _ _ _ _
        · first | with_reducible rfl | exact hF15_lr_readTest _ _ _ _ _ _ _ _ _
    · refine zl_el h (fun h => zU_l hTT ?_)
      refine zl_el h (fun h => zU_l hTT ?_)
      rw [hTT]
      have hz := zsi (P := (fun t => O_lr_readTest_39_31 ar fi m1 m2 m4 m5 t = o)) h hq
      refine (zO_mk ?_ ?_).trans hz
      · first | with_reducible rfl | exact hA16_lr_readTest _
      · first | with_reducible rfl | exact hF17_lr_readTest _ _ _
  · refine zb_el h (fun hb h => zU_t hTT hb ?_) (fun hb h => zU_f hTT hb ?_)
    · refine zb_el h (fun hb h => zU_t hTT hb ?_) (fun hb h => zU_f hTT hb ?_)
      · refine zb_el h (fun hb h => zU_t hTT hb ?_) (fun hb h => zU_f hTT hb ?_)
        · refine zbd_el h (fun v41 hv h => zU_c hTT hv ?_)
          refine zg_el h (fun hg h => zU_g hTT hg ?_)
          refine zl_el h (fun h => zU_l hTT ?_)
          refine zb_el h (fun hb h => zU_t hTT hb ?_) (fun hb h => zU_f hTT hb ?_)
          · refine zl_el h (fun h => zU_l hTT ?_)
            refine zbd_el h (fun v44 hv h => zU_c hTT hv ?_)
            refine zg_el h (fun hg h => zU_g hTT hg ?_)
            refine zl_el h (fun h => zU_l hTT ?_)
            refine zl_el h (fun h => zU_l hTT ?_)
            refine zl_el h (fun h => zU_l hTT ?_)
            refine zl_el h (fun h => zU_l hTT ?_)
            refine zl_el h (fun h => zU_l hTT ?_)
            rw [hTT]
            have hz := zsi (P := (fun t => O_lr_readTest_39_31 ar fi m1 m2 m4 m5 t = o)) h hq
            refine (zO_mk ?_ ?_).trans hz
            · first | with_reducible rfl | exact hA9_lr_readTest _ _ _ _ _ _ _
            · first | with_reducible rfl | exact hF10_lr_readTest _ _ _ _ _ _ _ _ _ _ _ _ _ _
          · refine zb_el h (fun hb h => zU_t hTT hb ?_) (fun hb h => zU_f hTT hb ?_)
            · refine zl_el h (fun h => zU_l hTT ?_)
              refine zbd_el h (fun v51 hv h => zU_c hTT hv ?_)
              refine zg_el h (fun hg h => zU_g hTT hg ?_)
              refine zl_el h (fun h => zU_l hTT ?_)
              refine zl_el h (fun h => zU_l hTT ?_)
              refine zl_el h (fun h => zU_l hTT ?_)
              refine zl_el h (fun h => zU_l hTT ?_)
              refine zl_el h (fun h => zU_l hTT ?_)
              rw [hTT]
              have hz := zsi (P := (fun t => O_lr_readTest_39_31 ar fi m1 m2 m4 m5 t = o)) h hq
              refine (zO_mk ?_ ?_).trans hz
              · first | with_reducible rfl | exact hA9_lr_readTest _ _ _ _ _ _ _
              · first | with_reducible rfl | exact hF10_lr_readTest _ _ _ _ _ _ _ _ _ _ _ _ _ _
            · refine zb_el h (fun hb h => zU_t hTT hb ?_) (fun hb h => zU_f hTT hb ?_)
              · refine zl_el h (fun h => zU_l hTT ?_)
                refine zl_el h (fun h => zU_l hTT ?_)
                rw [hTT]
                have hz := zsi (P := (fun t => O_lr_readTest_39_31 ar fi m1 m2 m4 m5 t = o)) h hq
                refine (zO_mk ?_ ?_).trans hz
                · first | with_reducible rfl | exact hA11_lr_readTest _ _ _
                · first | with_reducible rfl | exact hF12_lr_readTest _ _ _ _ _ _ _ _
              · refine zl_el h (fun h => zU_l hTT ?_)
                refine zbd_el h (fun v60 hv h => zU_c hTT hv ?_)
                refine zg_el h (fun hg h => zU_g hTT hg ?_)
                refine zl_el h (fun h => zU_l hTT ?_)
                refine zl_el h (fun h => zU_l hTT ?_)
                refine zl_el h (fun h => zU_l hTT ?_)
                refine zl_el h (fun h => zU_l hTT ?_)
                refine zl_el h (fun h => zU_l hTT ?_)
                rw [hTT]
                have hz := zsi (P := (fun t => O_lr_readTest_39_31 ar fi m1 m2 m4 m5 t = o)) h hq
                refine (zO_mk ?_ ?_).trans hz
                · first | with_reducible rfl | exact hA9_lr_readTest _ _ _ _ _ _ _
                · first | with_reducible rfl | exact hF10_lr_readTest _ _ _ _ _ _ _ _ _ _ _ _ _ _
        · refine zl_el h (fun h => zU_l hTT ?_)
          refine zbd_el h (fun v67 hv h => zU_c hTT hv ?_)
          refine zg_el h (fun hg h => zU_g hTT hg ?_)
          refine zl_el h (fun h => zU_l hTT ?_)
          refine zl_el h (fun h => zU_l hTT ?_)
          refine zl_el h (fun h => zU_l hTT ?_)
          rw [hTT]
          have hz := zsi (P := (fun t => O_lr_readTest_39_31 ar fi m1 m2 m4 m5 t = o)) h hq
          refine (zO_mk ?_ ?_).trans hz
          · first | with_reducible rfl | exact hA11_lr_readTest _ _ _
          · first | with_reducible rfl | exact hF13_lr_readTest _ _ _ _ _ _ _ _ _ _
      · refine zl_el h (fun h => zU_l hTT ?_)
        refine zbd_el h (fun v72 hv h => zU_c hTT hv ?_)
        refine zg_el h (fun hg h => zU_g hTT hg ?_)
        refine zl_el h (fun h => zU_l hTT ?_)
        refine zl_el h (fun h => zU_l hTT ?_)
        refine zl_el h (fun h => zU_l hTT ?_)
        refine zl_el h (fun h => zU_l hTT ?_)
        refine zl_el h (fun h => zU_l hTT ?_)
        rw [hTT]
        have hz := zsi (P := (fun t => O_lr_readTest_39_31 ar fi m1 m2 m4 m5 t = o)) h hq
        refine (zO_mk ?_ ?_).trans hz
        · first | with_reducible rfl | exact hA14_lr_readTest _ _ _ _ _
        · first | with_reducible rfl | exact hF15_lr_readTest _ _ _ _ _ _ _ _ _
    · refine zb_el h (fun hb h => zU_t hTT hb ?_) (fun hb h => zU_f hTT hb ?_)
      · refine zb_el h (fun hb h => zU_t hTT hb ?_) (fun hb h => zU_f hTT hb ?_)
        · refine zb_el h (fun hb h => zU_t hTT hb ?_) (fun hb h => zU_f hTT hb ?_)
          · refine zbd_el h (fun v78 hv h => zU_c hTT hv ?_)
            refine zg_el h (fun hg h => zU_g hTT hg ?_)
            refine zl_el h (fun h => zU_l hTT ?_)
            refine zb_el h (fun hb h => zU_t hTT hb ?_) (fun hb h => zU_f hTT hb ?_)
            · refine zl_el h (fun h => zU_l hTT ?_)
              refine zbd_el h (fun v81 hv h => zU_c hTT hv ?_)
              refine zg_el h (fun hg h => zU_g hTT hg ?_)
              refine zl_el h (fun h => zU_l hTT ?_)
              refine zl_el h (fun h => zU_l hTT ?_)
              refine zl_el h (fun h => zU_l hTT ?_)
              refine zl_el h (fun h => zU_l hTT ?_)
              refine zl_el h (fun h => zU_l hTT ?_)
              rw [hTT]
              have hz := zsi (P := (fun t => O_lr_readTest_39_31 ar fi m1 m2 m4 m5 t = o)) h hq
              refine (zO_mk ?_ ?_).trans hz
              · first | with_reducible rfl | exact hA9_lr_readTest _ _ _ _ _ _ _
              · first | with_reducible rfl | exact hF10_lr_readTest _ _ _ _ _ _ _ _ _ _ _ _ _ _
            · refine zb_el h (fun hb h => zU_t hTT hb ?_) (fun hb h => zU_f hTT hb ?_)
              · refine zl_el h (fun h => zU_l hTT ?_)
                refine zbd_el h (fun v88 hv h => zU_c hTT hv ?_)
                refine zg_el h (fun hg h => zU_g hTT hg ?_)
                refine zl_el h (fun h => zU_l hTT ?_)
                refine zl_el h (fun h => zU_l hTT ?_)
                refine zl_el h (fun h => zU_l hTT ?_)
                refine zl_el h (fun h => zU_l hTT ?_)
                refine zl_el h (fun h => zU_l hTT ?_)
                rw [hTT]
                have hz := zsi (P := (fun t => O_lr_readTest_39_31 ar fi m1 m2 m4 m5 t = o)) h hq
                refine (zO_mk ?_ ?_).trans hz
                · first | with_reducible rfl | exact hA9_lr_readTest _ _ _ _ _ _ _
                · first | with_reducible rfl | exact hF10_lr_readTest _ _ _ _ _ _ _ _ _ _ _ _ _ _
              · refine zb_el h (fun hb h => zU_t hTT hb ?_) (fun hb h => zU_f hTT hb ?_)
                · refine zl_el h (fun h => zU_l hTT ?_)
                  refine zl_el h (fun h => zU_l hTT ?_)
                  rw [hTT]
                  have hz := zsi (P := (fun t => O_lr_readTest_39_31 ar fi m1 m2 m4 m5 t = o)) h hq
                  refine (zO_mk ?_ ?_).trans hz
                  · first | with_reducible rfl | exact hA11_lr_readTest _ _ _
                  · first | with_reducible rfl | exact hF12_lr_readTest _ _ _ _ _ _ _ _
                · refine zl_el h (fun h => zU_l hTT ?_)
                  refine zbd_el h (fun v97 hv h => zU_c hTT hv ?_)
                  refine zg_el h (fun hg h => zU_g hTT hg ?_)
                  refine zl_el h (fun h => zU_l hTT ?_)
                  refine zl_el h (fun h => zU_l hTT ?_)
                  refine zl_el h (fun h => zU_l hTT ?_)
                  refine zl_el h (fun h => zU_l hTT ?_)
                  refine zl_el h (fun h => zU_l hTT ?_)
                  rw [hTT]
                  have hz := zsi (P := (fun t => O_lr_readTest_39_31 ar fi m1 m2 m4 m5 t = o)) h hq
                  refine (zO_mk ?_ ?_).trans hz
                  · first | with_reducible rfl | exact hA9_lr_readTest _ _ _ _ _ _ _
                  · first | with_reducible rfl | exact hF10_lr_readTest _ _ _ _ _ _ _ _ _ _ _ _ _ _
          · refine zl_el h (fun h => zU_l hTT ?_)
            refine zbd_el h (fun v104 hv h => zU_c hTT hv ?_)
            refine zg_el h (fun hg h => zU_g hTT hg ?_)
            refine zl_el h (fun h => zU_l hTT ?_)
            refine zl_el h (fun h => zU_l hTT ?_)
            refine zl_el h (fun h => zU_l hTT ?_)
            rw [hTT]
            have hz := zsi (P := (fun t => O_lr_readTest_39_31 ar fi m1 m2 m4 m5 t = o)) h hq
            refine (zO_mk ?_ ?_).trans hz
            · first | with_reducible rfl | exact hA11_lr_readTest _ _ _
            · first | with_reducible rfl | exact hF13_lr_readTest _ _ _ _ _ _ _ _ _ _
        · refine zl_el h (fun h => zU_l hTT ?_)
          refine zbd_el h (fun v109 hv h => zU_c hTT hv ?_)
          refine zg_el h (fun hg h => zU_g hTT hg ?_)
          refine zl_el h (fun h => zU_l hTT ?_)
          refine zl_el h (fun h => zU_l hTT ?_)
          refine zl_el h (fun h => zU_l hTT ?_)
          refine zl_el h (fun h => zU_l hTT ?_)
          refine zl_el h (fun h => zU_l hTT ?_)
          rw [hTT]
          have hz := zsi (P := (fun t => O_lr_readTest_39_31 ar fi m1 m2 m4 m5 t = o)) h hq
          refine (zO_mk ?_ ?_).trans hz
          · first | with_reducible rfl | exact hA14_lr_readTest _ _ _ _ _
          · first | with_reducible rfl | exact hF15_lr_readTest _ _ _ _ _ _ _ _ _
      · refine zl_el h (fun h => zU_l hTT ?_)
        refine zl_el h (fun h => zU_l hTT ?_)
        rw [hTT]
        have hz := zsi (P := (fun t => O_lr_readTest_39_31 ar fi m1 m2 m4 m5 t = o)) h hq
        refine (zO_mk ?_ ?_).trans hz
        · first | with_reducible rfl | exact hA16_lr_readTest _
        · first | with_reducible rfl | exact hF17_lr_readTest _ _ _
