abbrev T_md_readsRule : Type := Int32 × (Nat → Int32) × (Nat → Int32) × (Nat → Int32) × (Nat → Int32) × (Nat → Int32) × (Nat → Int32) × Int32 × Int32 × Int32 × Int32 × Int32 × Int32 × Int32
noncomputable def q_md_readsRule (a70 : Nat → Int32) (a71 : Nat → Int32) (a72 : Nat → Int32) (a73 : Nat → Int32) (a74 : Nat → Int32) (a75 : Nat → Int32) (a76 : Nat → Int32) (f64_7 : Int32) (f64_8 : Int32) (f64_9 : Int32) (f64_10 : Int32) (f64_11 : Int32) (f64_12 : Int32) (f64_13 : Int32) (f64_14 : Int32) : Option T_md_readsRule :=
  zg (g_md_here (f64_8) (f64_7) a70) (
  zl (w_md_here (f64_8) (f64_7) a70) (fun v1 =>
  bif decide (v1 = 98) then
   bif !decide (f64_14 = 16) then
    zg (zin (f64_14) 16) (
    zg (zin (f64_14) 16) (
    bif decide (v1 = 120) then
     zg (zin (f64_14) 16) (
     zbd (q_md_readsCondition a70 a71 a72 ((f64_7) + 1) (f64_8) (f64_9) (f64_10) 0 (f64_12) 0) (fun v2 =>
     bif !decide ((v2.1) = 0) then
      zg (zin (f64_14) 16) (
      some (1, ((v2.2.1)), ((v2.2.2.1)), (zup a73 ((f64_14).toNatClampNeg) v1), (zup a74 ((f64_14).toNatClampNeg) (f64_12)), (zup a75 ((f64_14).toNatClampNeg) (f64_12)), (zup a76 ((f64_14).toNatClampNeg) ((v2.2.2.2.2.2.2.2.1))), (v2.2.2.2.1), (v2.2.2.2.2.1), (v2.2.2.2.2.2.1), (v2.2.2.2.2.2.2.1), (v2.2.2.2.2.2.2.2.1), (v2.2.2.2.2.2.2.2.2), (f64_14) + 1))
     else
      some (0, ((v2.2.1)), ((v2.2.2.1)), (zup a73 ((f64_14).toNatClampNeg) v1), (zup a74 ((f64_14).toNatClampNeg) (f64_12)), (zup a75 ((f64_14).toNatClampNeg) (f64_12)), a76, (v2.2.2.2.1), (v2.2.2.2.2.1), (v2.2.2.2.2.2.1), (v2.2.2.2.2.2.2.1), (v2.2.2.2.2.2.2.2.1), (v2.2.2.2.2.2.2.2.2), f64_14)))
    else
     zbd (q_md_readsSum a70 a71 a72 ((f64_7) + 1) (f64_8) (f64_9) (f64_10) 0 (f64_12) 0) (fun v3 =>
     bif !decide ((v3.1) = 0) then
      zg (zin (f64_14) 16) (
      zbd (q_md_readsCondition a70 ((v3.2.1)) ((v3.2.2.1)) ((v3.2.2.2.1)) (f64_8) ((v3.2.2.2.2.1)) ((v3.2.2.2.2.2.1)) ((v3.2.2.2.2.2.2.1)) ((v3.2.2.2.2.2.2.2.1)) ((v3.2.2.2.2.2.2.2.2))) (fun v4 =>
      bif !decide ((v4.1) = 0) then
       zg (zin (f64_14) 16) (
       some (1, ((v4.2.1)), ((v4.2.2.1)), (zup a73 ((f64_14).toNatClampNeg) v1), (zup a74 ((f64_14).toNatClampNeg) (f64_12)), (zup a75 ((f64_14).toNatClampNeg) ((v3.2.2.2.2.2.2.2.1))), (zup a76 ((f64_14).toNatClampNeg) ((v4.2.2.2.2.2.2.2.1))), (v4.2.2.2.1), (v4.2.2.2.2.1), (v4.2.2.2.2.2.1), (v4.2.2.2.2.2.2.1), (v4.2.2.2.2.2.2.2.1), (v4.2.2.2.2.2.2.2.2), (f64_14) + 1))
      else
       some (0, ((v4.2.1)), ((v4.2.2.1)), (zup a73 ((f64_14).toNatClampNeg) v1), (zup a74 ((f64_14).toNatClampNeg) (f64_12)), (zup a75 ((f64_14).toNatClampNeg) ((v3.2.2.2.2.2.2.2.1))), a76, (v4.2.2.2.1), (v4.2.2.2.2.1), (v4.2.2.2.2.2.1), (v4.2.2.2.2.2.2.1), (v4.2.2.2.2.2.2.2.1), (v4.2.2.2.2.2.2.2.2), f64_14)))
     else
      some (0, ((v3.2.1)), ((v3.2.2.1)), (zup a73 ((f64_14).toNatClampNeg) v1), (zup a74 ((f64_14).toNatClampNeg) (f64_12)), a75, a76, (v3.2.2.2.1), (v3.2.2.2.2.1), (v3.2.2.2.2.2.1), (v3.2.2.2.2.2.2.1), (v3.2.2.2.2.2.2.2.1), (v3.2.2.2.2.2.2.2.2), f64_14))))
   else
    zl (w_md_wrongAt 4 (f64_7)) (fun v5 =>
    zl (f0_md_wrongAt 4 (f64_7)) (fun v6 =>
    zg (decide (v5 = 0) || decide (v5 = 1)) (
    some (v5, a71, a72, a73, a74, a75, a76, f64_7, v6, f64_10, f64_11, f64_12, f64_13, f64_14))))
  else
   bif decide (v1 = 115) then
    bif !decide (f64_14 = 16) then
     zg (zin (f64_14) 16) (
     zg (zin (f64_14) 16) (
     bif decide (v1 = 120) then
      zg (zin (f64_14) 16) (
      zbd (q_md_readsCondition a70 a71 a72 ((f64_7) + 1) (f64_8) (f64_9) (f64_10) 0 (f64_12) 0) (fun v7 =>
      bif !decide ((v7.1) = 0) then
       zg (zin (f64_14) 16) (
       some (1, ((v7.2.1)), ((v7.2.2.1)), (zup a73 ((f64_14).toNatClampNeg) v1), (zup a74 ((f64_14).toNatClampNeg) (f64_12)), (zup a75 ((f64_14).toNatClampNeg) (f64_12)), (zup a76 ((f64_14).toNatClampNeg) ((v7.2.2.2.2.2.2.2.1))), (v7.2.2.2.1), (v7.2.2.2.2.1), (v7.2.2.2.2.2.1), (v7.2.2.2.2.2.2.1), (v7.2.2.2.2.2.2.2.1), (v7.2.2.2.2.2.2.2.2), (f64_14) + 1))
      else
       some (0, ((v7.2.1)), ((v7.2.2.1)), (zup a73 ((f64_14).toNatClampNeg) v1), (zup a74 ((f64_14).toNatClampNeg) (f64_12)), (zup a75 ((f64_14).toNatClampNeg) (f64_12)), a76, (v7.2.2.2.1), (v7.2.2.2.2.1), (v7.2.2.2.2.2.1), (v7.2.2.2.2.2.2.1), (v7.2.2.2.2.2.2.2.1), (v7.2.2.2.2.2.2.2.2), f64_14)))
     else
      zbd (q_md_readsSum a70 a71 a72 ((f64_7) + 1) (f64_8) (f64_9) (f64_10) 0 (f64_12) 0) (fun v8 =>
      bif !decide ((v8.1) = 0) then
       zg (zin (f64_14) 16) (
       zbd (q_md_readsCondition a70 ((v8.2.1)) ((v8.2.2.1)) ((v8.2.2.2.1)) (f64_8) ((v8.2.2.2.2.1)) ((v8.2.2.2.2.2.1)) ((v8.2.2.2.2.2.2.1)) ((v8.2.2.2.2.2.2.2.1)) ((v8.2.2.2.2.2.2.2.2))) (fun v9 =>
       bif !decide ((v9.1) = 0) then
        zg (zin (f64_14) 16) (
        some (1, ((v9.2.1)), ((v9.2.2.1)), (zup a73 ((f64_14).toNatClampNeg) v1), (zup a74 ((f64_14).toNatClampNeg) (f64_12)), (zup a75 ((f64_14).toNatClampNeg) ((v8.2.2.2.2.2.2.2.1))), (zup a76 ((f64_14).toNatClampNeg) ((v9.2.2.2.2.2.2.2.1))), (v9.2.2.2.1), (v9.2.2.2.2.1), (v9.2.2.2.2.2.1), (v9.2.2.2.2.2.2.1), (v9.2.2.2.2.2.2.2.1), (v9.2.2.2.2.2.2.2.2), (f64_14) + 1))
       else
        some (0, ((v9.2.1)), ((v9.2.2.1)), (zup a73 ((f64_14).toNatClampNeg) v1), (zup a74 ((f64_14).toNatClampNeg) (f64_12)), (zup a75 ((f64_14).toNatClampNeg) ((v8.2.2.2.2.2.2.2.1))), a76, (v9.2.2.2.1), (v9.2.2.2.2.1), (v9.2.2.2.2.2.1), (v9.2.2.2.2.2.2.1), (v9.2.2.2.2.2.2.2.1), (v9.2.2.2.2.2.2.2.2), f64_14)))
      else
       some (0, ((v8.2.1)), ((v8.2.2.1)), (zup a73 ((f64_14).toNatClampNeg) v1), (zup a74 ((f64_14).toNatClampNeg) (f64_12)), a75, a76, (v8.2.2.2.1), (v8.2.2.2.2.1), (v8.2.2.2.2.2.1), (v8.2.2.2.2.2.2.1), (v8.2.2.2.2.2.2.2.1), (v8.2.2.2.2.2.2.2.2), f64_14))))
    else
     zl (w_md_wrongAt 4 (f64_7)) (fun v10 =>
     zl (f0_md_wrongAt 4 (f64_7)) (fun v11 =>
     zg (decide (v10 = 0) || decide (v10 = 1)) (
     some (v10, a71, a72, a73, a74, a75, a76, f64_7, v11, f64_10, f64_11, f64_12, f64_13, f64_14))))
   else
    bif decide (v1 = 120) then
     bif !decide (f64_14 = 16) then
      zg (zin (f64_14) 16) (
      zg (zin (f64_14) 16) (
      bif decide (v1 = 120) then
       zg (zin (f64_14) 16) (
       zbd (q_md_readsCondition a70 a71 a72 ((f64_7) + 1) (f64_8) (f64_9) (f64_10) 0 (f64_12) 0) (fun v12 =>
       bif !decide ((v12.1) = 0) then
        zg (zin (f64_14) 16) (
        some (1, ((v12.2.1)), ((v12.2.2.1)), (zup a73 ((f64_14).toNatClampNeg) v1), (zup a74 ((f64_14).toNatClampNeg) (f64_12)), (zup a75 ((f64_14).toNatClampNeg) (f64_12)), (zup a76 ((f64_14).toNatClampNeg) ((v12.2.2.2.2.2.2.2.1))), (v12.2.2.2.1), (v12.2.2.2.2.1), (v12.2.2.2.2.2.1), (v12.2.2.2.2.2.2.1), (v12.2.2.2.2.2.2.2.1), (v12.2.2.2.2.2.2.2.2), (f64_14) + 1))
       else
        some (0, ((v12.2.1)), ((v12.2.2.1)), (zup a73 ((f64_14).toNatClampNeg) v1), (zup a74 ((f64_14).toNatClampNeg) (f64_12)), (zup a75 ((f64_14).toNatClampNeg) (f64_12)), a76, (v12.2.2.2.1), (v12.2.2.2.2.1), (v12.2.2.2.2.2.1), (v12.2.2.2.2.2.2.1), (v12.2.2.2.2.2.2.2.1), (v12.2.2.2.2.2.2.2.2), f64_14)))
      else
       zbd (q_md_readsSum a70 a71 a72 ((f64_7) + 1) (f64_8) (f64_9) (f64_10) 0 (f64_12) 0) (fun v13 =>
       bif !decide ((v13.1) = 0) then
        zg (zin (f64_14) 16) (
        zbd (q_md_readsCondition a70 ((v13.2.1)) ((v13.2.2.1)) ((v13.2.2.2.1)) (f64_8) ((v13.2.2.2.2.1)) ((v13.2.2.2.2.2.1)) ((v13.2.2.2.2.2.2.1)) ((v13.2.2.2.2.2.2.2.1)) ((v13.2.2.2.2.2.2.2.2))) (fun v14 =>
        bif !decide ((v14.1) = 0) then
         zg (zin (f64_14) 16) (
         some (1, ((v14.2.1)), ((v14.2.2.1)), (zup a73 ((f64_14).toNatClampNeg) v1), (zup a74 ((f64_14).toNatClampNeg) (f64_12)), (zup a75 ((f64_14).toNatClampNeg) ((v13.2.2.2.2.2.2.2.1))), (zup a76 ((f64_14).toNatClampNeg) ((v14.2.2.2.2.2.2.2.1))), (v14.2.2.2.1), (v14.2.2.2.2.1), (v14.2.2.2.2.2.1), (v14.2.2.2.2.2.2.1), (v14.2.2.2.2.2.2.2.1), (v14.2.2.2.2.2.2.2.2), (f64_14) + 1))
        else
         some (0, ((v14.2.1)), ((v14.2.2.1)), (zup a73 ((f64_14).toNatClampNeg) v1), (zup a74 ((f64_14).toNatClampNeg) (f64_12)), (zup a75 ((f64_14).toNatClampNeg) ((v13.2.2.2.2.2.2.2.1))), a76, (v14.2.2.2.1), (v14.2.2.2.2.1), (v14.2.2.2.2.2.1), (v14.2.2.2.2.2.2.1), (v14.2.2.2.2.2.2.2.1), (v14.2.2.2.2.2.2.2.2), f64_14)))
       else
        some (0, ((v13.2.1)), ((v13.2.2.1)), (zup a73 ((f64_14).toNatClampNeg) v1), (zup a74 ((f64_14).toNatClampNeg) (f64_12)), a75, a76, (v13.2.2.2.1), (v13.2.2.2.2.1), (v13.2.2.2.2.2.1), (v13.2.2.2.2.2.2.1), (v13.2.2.2.2.2.2.2.1), (v13.2.2.2.2.2.2.2.2), f64_14))))
     else
      zl (w_md_wrongAt 4 (f64_7)) (fun v15 =>
      zl (f0_md_wrongAt 4 (f64_7)) (fun v16 =>
      zg (decide (v15 = 0) || decide (v15 = 1)) (
      some (v15, a71, a72, a73, a74, a75, a76, f64_7, v16, f64_10, f64_11, f64_12, f64_13, f64_14))))
    else
     zl (w_md_wrongAt 1 (f64_7)) (fun v17 =>
     zl (f0_md_wrongAt 1 (f64_7)) (fun v18 =>
     zg (decide (v17 = 0) || decide (v17 = 1)) (
     some (v17, a71, a72, a73, a74, a75, a76, f64_7, v18, f64_10, f64_11, f64_12, f64_13, f64_14))))))
def P_md_readsRule (Q : (Nat → Int32) → (Nat → Int32) → (Nat → Int32) → (Nat → Int32) → (Nat → Int32) → (Nat → Int32) → (Nat → Int32) → Int32 → Int32 → Int32 → Int32 → Int32 → Int32 → Int32 → Int32 → Option (Int32 × (Nat → Int32) × (Nat → Int32) × (Nat → Int32) × (Nat → Int32) × (Nat → Int32) × (Nat → Int32) × Int32 × Int32 × Int32 × Int32 × Int32 × Int32 × Int32)) : zSp := fun as g => match as with
  | [.ref a] => bif Nat.beq a 64 then zpe (Q (g.1 70) (g.1 71) (g.1 72) (g.1 73) (g.1 74) (g.1 75) (g.1 76) (g.2.1 64 7) (g.2.1 64 8) (g.2.1 64 9) (g.2.1 64 10) (g.2.1 64 11) (g.2.1 64 12) (g.2.1 64 13) (g.2.1 64 14)) (fun t => (some (.int (t.1)), ((zua (zua (zua (zua (zua (zua g.1 71 t.2.1) 72 t.2.2.1) 73 t.2.2.2.1) 74 t.2.2.2.2.1) 75 t.2.2.2.2.2.1) 76 t.2.2.2.2.2.2.1), (zuf (zuf (zuf (zuf (zuf (zuf (zuf g.2.1 64 7 t.2.2.2.2.2.2.2.1) 64 9 t.2.2.2.2.2.2.2.2.1) 64 10 t.2.2.2.2.2.2.2.2.2.1) 64 11 t.2.2.2.2.2.2.2.2.2.2.1) 64 12 t.2.2.2.2.2.2.2.2.2.2.2.1) 64 13 t.2.2.2.2.2.2.2.2.2.2.2.2.1) 64 14 t.2.2.2.2.2.2.2.2.2.2.2.2.2), g.2.2))) else none
  | _ => none
noncomputable abbrev S_md_readsRule : zSp := P_md_readsRule q_md_readsRule
theorem hF10_md_readsRule (F : Nat → Nat → Int32) (w0 : Int32) : (zuf F 64 9 w0) = (zuf (zuf (zuf (zuf (zuf (zuf (zuf F 64 7 (F 64 7)) 64 9 w0) 64 10 (F 64 10)) 64 11 (F 64 11)) 64 12 (F 64 12)) 64 13 (F 64 13)) 64 14 (F 64 14)) := zufk_ix F [((64, 9), w0)] [((64, 7), none), ((64, 9), some 0), ((64, 10), none), ((64, 11), none), ((64, 12), none), ((64, 13), none), ((64, 14), none)] rfl
theorem hA9_md_readsRule (F : Nat → Nat → Int32) : F = (zua (zua (zua (zua (zua (zua F 71 (F 71)) 72 (F 72)) 73 (F 73)) 74 (F 74)) 75 (F 75)) 76 (F 76)) := zuak_ix F [] [(71, none), (72, none), (73, none), (74, none), (75, none), (76, none)] rfl
theorem hA8_md_readsRule (F : Nat → Nat → Int32) (w0 w1 w2 w3 : Nat → Int32) : (zua (zua (zua (zua F 73 w0) 74 w1) 71 w2) 72 w3) = (zua (zua (zua (zua (zua (zua F 71 w2) 72 w3) 73 w0) 74 w1) 75 (F 75)) 76 (F 76)) := zuak_ix F [(73, w0), (74, w1), (71, w2), (72, w3)] [(71, some 2), (72, some 3), (73, some 0), (74, some 1), (75, none), (76, none)] rfl
theorem hF7_md_readsRule (F : Nat → Nat → Int32) (w0 w1 w2 w3 w4 w5 w6 w7 w8 w9 w10 w11 w12 w13 w14 : Int32) : (zuf (zuf (zuf (zuf (zuf (zuf (zuf (zuf (zuf (zuf (zuf (zuf (zuf (zuf (zuf F 64 7 w0) 64 11 w1) 64 13 w2) 64 7 w3) 64 9 w4) 64 10 w5) 64 11 w6) 64 12 w7) 64 13 w8) 64 7 w9) 64 9 w10) 64 10 w11) 64 11 w12) 64 12 w13) 64 13 w14) = (zuf (zuf (zuf (zuf (zuf (zuf (zuf F 64 7 w9) 64 9 w10) 64 10 w11) 64 11 w12) 64 12 w13) 64 13 w14) 64 14 (F 64 14)) := zufk_ix F [((64, 7), w0), ((64, 11), w1), ((64, 13), w2), ((64, 7), w3), ((64, 9), w4), ((64, 10), w5), ((64, 11), w6), ((64, 12), w7), ((64, 13), w8), ((64, 7), w9), ((64, 9), w10), ((64, 10), w11), ((64, 11), w12), ((64, 12), w13), ((64, 13), w14)] [((64, 7), some 9), ((64, 9), some 10), ((64, 10), some 11), ((64, 11), some 12), ((64, 12), some 13), ((64, 13), some 14), ((64, 14), none)] rfl
theorem hA6_md_readsRule (F : Nat → Nat → Int32) (w0 w1 w2 w3 w4 w5 w6 : Nat → Int32) : (zua (zua (zua (zua (zua (zua (zua F 73 w0) 74 w1) 71 w2) 72 w3) 75 w4) 71 w5) 72 w6) = (zua (zua (zua (zua (zua (zua F 71 w5) 72 w6) 73 w0) 74 w1) 75 w4) 76 (F 76)) := zuak_ix F [(73, w0), (74, w1), (71, w2), (72, w3), (75, w4), (71, w5), (72, w6)] [(71, some 5), (72, some 6), (73, some 0), (74, some 1), (75, some 4), (76, none)] rfl
theorem hF5_md_readsRule (F : Nat → Nat → Int32) (w0 w1 w2 w3 w4 w5 w6 w7 w8 w9 w10 w11 w12 w13 w14 w15 : Int32) : (zuf (zuf (zuf (zuf (zuf (zuf (zuf (zuf (zuf (zuf (zuf (zuf (zuf (zuf (zuf (zuf F 64 7 w0) 64 11 w1) 64 13 w2) 64 7 w3) 64 9 w4) 64 10 w5) 64 11 w6) 64 12 w7) 64 13 w8) 64 7 w9) 64 9 w10) 64 10 w11) 64 11 w12) 64 12 w13) 64 13 w14) 64 14 w15) = (zuf (zuf (zuf (zuf (zuf (zuf (zuf F 64 7 w9) 64 9 w10) 64 10 w11) 64 11 w12) 64 12 w13) 64 13 w14) 64 14 w15) := zufk_ix F [((64, 7), w0), ((64, 11), w1), ((64, 13), w2), ((64, 7), w3), ((64, 9), w4), ((64, 10), w5), ((64, 11), w6), ((64, 12), w7), ((64, 13), w8), ((64, 7), w9), ((64, 9), w10), ((64, 10), w11), ((64, 11), w12), ((64, 12), w13), ((64, 13), w14), ((64, 14), w15)] [((64, 7), some 9), ((64, 9), some 10), ((64, 10), some 11), ((64, 11), some 12), ((64, 12), some 13), ((64, 13), some 14), ((64, 14), some 15)] rfl
theorem hA4_md_readsRule (F : Nat → Nat → Int32) (w0 w1 w2 w3 w4 w5 w6 w7 : Nat → Int32) : (zua (zua (zua (zua (zua (zua (zua (zua F 73 w0) 74 w1) 71 w2) 72 w3) 75 w4) 71 w5) 72 w6) 76 w7) = (zua (zua (zua (zua (zua (zua F 71 w5) 72 w6) 73 w0) 74 w1) 75 w4) 76 w7) := zuak_ix F [(73, w0), (74, w1), (71, w2), (72, w3), (75, w4), (71, w5), (72, w6), (76, w7)] [(71, some 5), (72, some 6), (73, some 0), (74, some 1), (75, some 4), (76, some 7)] rfl
theorem hF3_md_readsRule (F : Nat → Nat → Int32) (w0 w1 w2 w3 w4 w5 w6 w7 w8 : Int32) : (zuf (zuf (zuf (zuf (zuf (zuf (zuf (zuf (zuf F 64 7 w0) 64 11 w1) 64 13 w2) 64 7 w3) 64 9 w4) 64 10 w5) 64 11 w6) 64 12 w7) 64 13 w8) = (zuf (zuf (zuf (zuf (zuf (zuf (zuf F 64 7 w3) 64 9 w4) 64 10 w5) 64 11 w6) 64 12 w7) 64 13 w8) 64 14 (F 64 14)) := zufk_ix F [((64, 7), w0), ((64, 11), w1), ((64, 13), w2), ((64, 7), w3), ((64, 9), w4), ((64, 10), w5), ((64, 11), w6), ((64, 12), w7), ((64, 13), w8)] [((64, 7), some 3), ((64, 9), some 4), ((64, 10), some 5), ((64, 11), some 6), ((64, 12), some 7), ((64, 13), some 8), ((64, 14), none)] rfl
theorem hA2_md_readsRule (F : Nat → Nat → Int32) (w0 w1 w2 w3 w4 : Nat → Int32) : (zua (zua (zua (zua (zua F 73 w0) 74 w1) 75 w2) 71 w3) 72 w4) = (zua (zua (zua (zua (zua (zua F 71 w3) 72 w4) 73 w0) 74 w1) 75 w2) 76 (F 76)) := zuak_ix F [(73, w0), (74, w1), (75, w2), (71, w3), (72, w4)] [(71, some 3), (72, some 4), (73, some 0), (74, some 1), (75, some 2), (76, none)] rfl
theorem hF1_md_readsRule (F : Nat → Nat → Int32) (w0 w1 w2 w3 w4 w5 w6 w7 w8 w9 : Int32) : (zuf (zuf (zuf (zuf (zuf (zuf (zuf (zuf (zuf (zuf F 64 7 w0) 64 11 w1) 64 13 w2) 64 7 w3) 64 9 w4) 64 10 w5) 64 11 w6) 64 12 w7) 64 13 w8) 64 14 w9) = (zuf (zuf (zuf (zuf (zuf (zuf (zuf F 64 7 w3) 64 9 w4) 64 10 w5) 64 11 w6) 64 12 w7) 64 13 w8) 64 14 w9) := zufk_ix F [((64, 7), w0), ((64, 11), w1), ((64, 13), w2), ((64, 7), w3), ((64, 9), w4), ((64, 10), w5), ((64, 11), w6), ((64, 12), w7), ((64, 13), w8), ((64, 14), w9)] [((64, 7), some 3), ((64, 9), some 4), ((64, 10), some 5), ((64, 11), some 6), ((64, 12), some 7), ((64, 13), some 8), ((64, 14), some 9)] rfl
theorem hA0_md_readsRule (F : Nat → Nat → Int32) (w0 w1 w2 w3 w4 w5 : Nat → Int32) : (zua (zua (zua (zua (zua (zua F 73 w0) 74 w1) 75 w2) 71 w3) 72 w4) 76 w5) = (zua (zua (zua (zua (zua (zua F 71 w3) 72 w4) 73 w0) 74 w1) 75 w2) 76 w5) := zuak_ix F [(73, w0), (74, w1), (75, w2), (71, w3), (72, w4), (76, w5)] [(71, some 3), (72, some 4), (73, some 0), (74, some 1), (75, some 2), (76, some 5)] rfl
def O_md_readsRule (ar fi : Nat → Nat → Int32) (m1 : Nat) (m2 : Nat) (m3 : Nat) (m4 : Nat) (m5 : Nat) (t : T_md_readsRule) : zO2 := match t with
  | (t0, t1, t2, t3, t4, t5, t6, t7, t8, t9, t10, t11, t12, t13) => (some (.int (t0)), ((zua (zua (zua (zua (zua (zua ar 71 t1) 72 t2) 73 t3) 74 t4) 75 t5) 76 t6), (zuf (zuf (zuf (zuf (zuf (zuf (zuf fi 64 7 t7) 64 9 t8) 64 10 t9) 64 11 t10) 64 12 t11) 64 13 t12) 64 14 t13), (m1, m2, m3, m4, m5)))
set_option maxRecDepth 1000000 in
theorem t_md_readsRule {X : Nat × (Nat → Int32)} {ar fi : Nat → Nat → Int32} {m1 m2 m3 m4 m5 : Nat} {G_md_here : Int32 → Int32 → (Nat → Int32) → Bool} {W_md_here : Int32 → Int32 → (Nat → Int32) → Int32} {W_md_wrongAt : Int32 → Int32 → Int32} {F0_md_wrongAt : Int32 → Int32 → Int32} {Q_md_readsSum : (Nat → Int32) → (Nat → Int32) → (Nat → Int32) → Int32 → Int32 → Int32 → Int32 → Int32 → Int32 → Int32 → Option (Int32 × (Nat → Int32) × (Nat → Int32) × Int32 × Int32 × Int32 × Int32 × Int32 × Int32)} {Q_md_readsCondition : (Nat → Int32) → (Nat → Int32) → (Nat → Int32) → Int32 → Int32 → Int32 → Int32 → Int32 → Int32 → Int32 → Option (Int32 × (Nat → Int32) × (Nat → Int32) × Int32 × Int32 × Int32 × Int32 × Int32 × Int32)} : zseg X zFT (zEx 158 (P_md_here G_md_here W_md_here) (zEx 160 (P_md_wrongAt W_md_wrongAt F0_md_wrongAt) (zEx 171 (P_md_readsSum Q_md_readsSum) (zEx 176 (P_md_readsCondition Q_md_readsCondition) zE0)))) zc_177 (fun p => false) 400 0 [.ref 64] [] (ar, fi, (m1, m2, m3, m4, m5)) = (
  zg (G_md_here (fi 64 8) (fi 64 7) (ar 70)) (
  zl (W_md_here (fi 64 8) (fi 64 7) (ar 70)) (fun v1 =>
  bif decide (v1 = 98) then
   bif !decide (fi 64 14 = 16) then
    zg (Nat.beq 16 16 && (zin (fi 64 14) 16)) (
    zg (Nat.beq 16 16 && (zin (fi 64 14) 16)) (
    bif decide (v1 = 120) then
     zg (Nat.beq 16 16 && (zin (fi 64 14) 16)) (
     zl (Q_md_readsCondition (ar 70) (ar 71) (ar 72) ((fi 64 7) + 1) (fi 64 8) (fi 64 9) (fi 64 10) 0 (fi 64 12) 0) (fun v2 => zg v2.isSome (
     bif !decide (((zgt v2).1) = 0) then
      zg (Nat.beq 16 16 && (zin (fi 64 14) 16)) (
      some (.inr (some (.int 1), ((zua (zua (zua (zua (zua (zua ar 73 (zup (ar 73) ((fi 64 14).toNatClampNeg) v1)) 74 (zup (ar 74) ((fi 64 14).toNatClampNeg) (fi 64 12))) 75 (zup (ar 75) ((fi 64 14).toNatClampNeg) (fi 64 12))) 71 (((zgt v2).2.1))) 72 (((zgt v2).2.2.1))) 76 (zup (ar 76) ((fi 64 14).toNatClampNeg) (((zgt v2).2.2.2.2.2.2.2.1)))), (zuf (zuf (zuf (zuf (zuf (zuf (zuf (zuf (zuf (zuf fi 64 7 ((fi 64 7) + 1)) 64 11 0) 64 13 0) 64 7 (((zgt v2).2.2.2.1))) 64 9 (((zgt v2).2.2.2.2.1))) 64 10 (((zgt v2).2.2.2.2.2.1))) 64 11 (((zgt v2).2.2.2.2.2.2.1))) 64 12 (((zgt v2).2.2.2.2.2.2.2.1))) 64 13 (((zgt v2).2.2.2.2.2.2.2.2))) 64 14 ((fi 64 14) + 1)), (m1, m2, m3, m4, m5)))))
     else
      some (.inr (some (.int 0), ((zua (zua (zua (zua (zua ar 73 (zup (ar 73) ((fi 64 14).toNatClampNeg) v1)) 74 (zup (ar 74) ((fi 64 14).toNatClampNeg) (fi 64 12))) 75 (zup (ar 75) ((fi 64 14).toNatClampNeg) (fi 64 12))) 71 (((zgt v2).2.1))) 72 (((zgt v2).2.2.1))), (zuf (zuf (zuf (zuf (zuf (zuf (zuf (zuf (zuf fi 64 7 ((fi 64 7) + 1)) 64 11 0) 64 13 0) 64 7 (((zgt v2).2.2.2.1))) 64 9 (((zgt v2).2.2.2.2.1))) 64 10 (((zgt v2).2.2.2.2.2.1))) 64 11 (((zgt v2).2.2.2.2.2.2.1))) 64 12 (((zgt v2).2.2.2.2.2.2.2.1))) 64 13 (((zgt v2).2.2.2.2.2.2.2.2))), (m1, m2, m3, m4, m5)))))))
    else
     zl (Q_md_readsSum (ar 70) (ar 71) (ar 72) ((fi 64 7) + 1) (fi 64 8) (fi 64 9) (fi 64 10) 0 (fi 64 12) 0) (fun v3 => zg v3.isSome (
     bif !decide (((zgt v3).1) = 0) then
      zg (Nat.beq 16 16 && (zin (fi 64 14) 16)) (
      zl (Q_md_readsCondition (ar 70) (((zgt v3).2.1)) (((zgt v3).2.2.1)) (((zgt v3).2.2.2.1)) (fi 64 8) (((zgt v3).2.2.2.2.1)) (((zgt v3).2.2.2.2.2.1)) (((zgt v3).2.2.2.2.2.2.1)) (((zgt v3).2.2.2.2.2.2.2.1)) (((zgt v3).2.2.2.2.2.2.2.2))) (fun v4 => zg v4.isSome (
      bif !decide (((zgt v4).1) = 0) then
       zg (Nat.beq 16 16 && (zin (fi 64 14) 16)) (
       some (.inr (some (.int 1), ((zua (zua (zua (zua (zua (zua (zua (zua ar 73 (zup (ar 73) ((fi 64 14).toNatClampNeg) v1)) 74 (zup (ar 74) ((fi 64 14).toNatClampNeg) (fi 64 12))) 71 (((zgt v3).2.1))) 72 (((zgt v3).2.2.1))) 75 (zup (ar 75) ((fi 64 14).toNatClampNeg) (((zgt v3).2.2.2.2.2.2.2.1)))) 71 (((zgt v4).2.1))) 72 (((zgt v4).2.2.1))) 76 (zup (ar 76) ((fi 64 14).toNatClampNeg) (((zgt v4).2.2.2.2.2.2.2.1)))), (zuf (zuf (zuf (zuf (zuf (zuf (zuf (zuf (zuf (zuf (zuf (zuf (zuf (zuf (zuf (zuf fi 64 7 ((fi 64 7) + 1)) 64 11 0) 64 13 0) 64 7 (((zgt v3).2.2.2.1))) 64 9 (((zgt v3).2.2.2.2.1))) 64 10 (((zgt v3).2.2.2.2.2.1))) 64 11 (((zgt v3).2.2.2.2.2.2.1))) 64 12 (((zgt v3).2.2.2.2.2.2.2.1))) 64 13 (((zgt v3).2.2.2.2.2.2.2.2))) 64 7 (((zgt v4).2.2.2.1))) 64 9 (((zgt v4).2.2.2.2.1))) 64 10 (((zgt v4).2.2.2.2.2.1))) 64 11 (((zgt v4).2.2.2.2.2.2.1))) 64 12 (((zgt v4).2.2.2.2.2.2.2.1))) 64 13 (((zgt v4).2.2.2.2.2.2.2.2))) 64 14 ((fi 64 14) + 1)), (m1, m2, m3, m4, m5)))))
      else
       some (.inr (some (.int 0), ((zua (zua (zua (zua (zua (zua (zua ar 73 (zup (ar 73) ((fi 64 14).toNatClampNeg) v1)) 74 (zup (ar 74) ((fi 64 14).toNatClampNeg) (fi 64 12))) 71 (((zgt v3).2.1))) 72 (((zgt v3).2.2.1))) 75 (zup (ar 75) ((fi 64 14).toNatClampNeg) (((zgt v3).2.2.2.2.2.2.2.1)))) 71 (((zgt v4).2.1))) 72 (((zgt v4).2.2.1))), (zuf (zuf (zuf (zuf (zuf (zuf (zuf (zuf (zuf (zuf (zuf (zuf (zuf (zuf (zuf fi 64 7 ((fi 64 7) + 1)) 64 11 0) 64 13 0) 64 7 (((zgt v3).2.2.2.1))) 64 9 (((zgt v3).2.2.2.2.1))) 64 10 (((zgt v3).2.2.2.2.2.1))) 64 11 (((zgt v3).2.2.2.2.2.2.1))) 64 12 (((zgt v3).2.2.2.2.2.2.2.1))) 64 13 (((zgt v3).2.2.2.2.2.2.2.2))) 64 7 (((zgt v4).2.2.2.1))) 64 9 (((zgt v4).2.2.2.2.1))) 64 10 (((zgt v4).2.2.2.2.2.1))) 64 11 (((zgt v4).2.2.2.2.2.2.1))) 64 12 (((zgt v4).2.2.2.2.2.2.2.1))) 64 13 (((zgt v4).2.2.2.2.2.2.2.2))), (m1, m2, m3, m4, m5)))))))
     else
      some (.inr (some (.int 0), ((zua (zua (zua (zua ar 73 (zup (ar 73) ((fi 64 14).toNatClampNeg) v1)) 74 (zup (ar 74) ((fi 64 14).toNatClampNeg) (fi 64 12))) 71 (((zgt v3).2.1))) 72 (((zgt v3).2.2.1))), (zuf (zuf (zuf (zuf (zuf (zuf (zuf (zuf (zuf fi 64 7 ((fi 64 7) + 1)) 64 11 0) 64 13 0) 64 7 (((zgt v3).2.2.2.1))) 64 9 (((zgt v3).2.2.2.2.1))) 64 10 (((zgt v3).2.2.2.2.2.1))) 64 11 (((zgt v3).2.2.2.2.2.2.1))) 64 12 (((zgt v3).2.2.2.2.2.2.2.1))) 64 13 (((zgt v3).2.2.2.2.2.2.2.2))), (m1, m2, m3, m4, m5))))))))
   else
    zl (W_md_wrongAt 4 (fi 64 7)) (fun v5 =>
    zl (F0_md_wrongAt 4 (fi 64 7)) (fun v6 =>
    zg (Nat.beq 1 0 || (decide (v5 = 0) || decide (v5 = 1))) (
    some (.inr (some (.int v5), (ar, (zuf fi 64 9 v6), (m1, m2, m3, m4, m5)))))))
  else
   bif decide (v1 = 115) then
    bif !decide (fi 64 14 = 16) then
     zg (Nat.beq 16 16 && (zin (fi 64 14) 16)) (
     zg (Nat.beq 16 16 && (zin (fi 64 14) 16)) (
     bif decide (v1 = 120) then
      zg (Nat.beq 16 16 && (zin (fi 64 14) 16)) (
      zl (Q_md_readsCondition (ar 70) (ar 71) (ar 72) ((fi 64 7) + 1) (fi 64 8) (fi 64 9) (fi 64 10) 0 (fi 64 12) 0) (fun v7 => zg v7.isSome (
      bif !decide (((zgt v7).1) = 0) then
       zg (Nat.beq 16 16 && (zin (fi 64 14) 16)) (
       some (.inr (some (.int 1), ((zua (zua (zua (zua (zua (zua ar 73 (zup (ar 73) ((fi 64 14).toNatClampNeg) v1)) 74 (zup (ar 74) ((fi 64 14).toNatClampNeg) (fi 64 12))) 75 (zup (ar 75) ((fi 64 14).toNatClampNeg) (fi 64 12))) 71 (((zgt v7).2.1))) 72 (((zgt v7).2.2.1))) 76 (zup (ar 76) ((fi 64 14).toNatClampNeg) (((zgt v7).2.2.2.2.2.2.2.1)))), (zuf (zuf (zuf (zuf (zuf (zuf (zuf (zuf (zuf (zuf fi 64 7 ((fi 64 7) + 1)) 64 11 0) 64 13 0) 64 7 (((zgt v7).2.2.2.1))) 64 9 (((zgt v7).2.2.2.2.1))) 64 10 (((zgt v7).2.2.2.2.2.1))) 64 11 (((zgt v7).2.2.2.2.2.2.1))) 64 12 (((zgt v7).2.2.2.2.2.2.2.1))) 64 13 (((zgt v7).2.2.2.2.2.2.2.2))) 64 14 ((fi 64 14) + 1)), (m1, m2, m3, m4, m5)))))
      else
       some (.inr (some (.int 0), ((zua (zua (zua (zua (zua ar 73 (zup (ar 73) ((fi 64 14).toNatClampNeg) v1)) 74 (zup (ar 74) ((fi 64 14).toNatClampNeg) (fi 64 12))) 75 (zup (ar 75) ((fi 64 14).toNatClampNeg) (fi 64 12))) 71 (((zgt v7).2.1))) 72 (((zgt v7).2.2.1))), (zuf (zuf (zuf (zuf (zuf (zuf (zuf (zuf (zuf fi 64 7 ((fi 64 7) + 1)) 64 11 0) 64 13 0) 64 7 (((zgt v7).2.2.2.1))) 64 9 (((zgt v7).2.2.2.2.1))) 64 10 (((zgt v7).2.2.2.2.2.1))) 64 11 (((zgt v7).2.2.2.2.2.2.1))) 64 12 (((zgt v7).2.2.2.2.2.2.2.1))) 64 13 (((zgt v7).2.2.2.2.2.2.2.2))), (m1, m2, m3, m4, m5)))))))
     else
      zl (Q_md_readsSum (ar 70) (ar 71) (ar 72) ((fi 64 7) + 1) (fi 64 8) (fi 64 9) (fi 64 10) 0 (fi 64 12) 0) (fun v8 => zg v8.isSome (
      bif !decide (((zgt v8).1) = 0) then
       zg (Nat.beq 16 16 && (zin (fi 64 14) 16)) (
       zl (Q_md_readsCondition (ar 70) (((zgt v8).2.1)) (((zgt v8).2.2.1)) (((zgt v8).2.2.2.1)) (fi 64 8) (((zgt v8).2.2.2.2.1)) (((zgt v8).2.2.2.2.2.1)) (((zgt v8).2.2.2.2.2.2.1)) (((zgt v8).2.2.2.2.2.2.2.1)) (((zgt v8).2.2.2.2.2.2.2.2))) (fun v9 => zg v9.isSome (
       bif !decide (((zgt v9).1) = 0) then
        zg (Nat.beq 16 16 && (zin (fi 64 14) 16)) (
        some (.inr (some (.int 1), ((zua (zua (zua (zua (zua (zua (zua (zua ar 73 (zup (ar 73) ((fi 64 14).toNatClampNeg) v1)) 74 (zup (ar 74) ((fi 64 14).toNatClampNeg) (fi 64 12))) 71 (((zgt v8).2.1))) 72 (((zgt v8).2.2.1))) 75 (zup (ar 75) ((fi 64 14).toNatClampNeg) (((zgt v8).2.2.2.2.2.2.2.1)))) 71 (((zgt v9).2.1))) 72 (((zgt v9).2.2.1))) 76 (zup (ar 76) ((fi 64 14).toNatClampNeg) (((zgt v9).2.2.2.2.2.2.2.1)))), (zuf (zuf (zuf (zuf (zuf (zuf (zuf (zuf (zuf (zuf (zuf (zuf (zuf (zuf (zuf (zuf fi 64 7 ((fi 64 7) + 1)) 64 11 0) 64 13 0) 64 7 (((zgt v8).2.2.2.1))) 64 9 (((zgt v8).2.2.2.2.1))) 64 10 (((zgt v8).2.2.2.2.2.1))) 64 11 (((zgt v8).2.2.2.2.2.2.1))) 64 12 (((zgt v8).2.2.2.2.2.2.2.1))) 64 13 (((zgt v8).2.2.2.2.2.2.2.2))) 64 7 (((zgt v9).2.2.2.1))) 64 9 (((zgt v9).2.2.2.2.1))) 64 10 (((zgt v9).2.2.2.2.2.1))) 64 11 (((zgt v9).2.2.2.2.2.2.1))) 64 12 (((zgt v9).2.2.2.2.2.2.2.1))) 64 13 (((zgt v9).2.2.2.2.2.2.2.2))) 64 14 ((fi 64 14) + 1)), (m1, m2, m3, m4, m5)))))
       else
        some (.inr (some (.int 0), ((zua (zua (zua (zua (zua (zua (zua ar 73 (zup (ar 73) ((fi 64 14).toNatClampNeg) v1)) 74 (zup (ar 74) ((fi 64 14).toNatClampNeg) (fi 64 12))) 71 (((zgt v8).2.1))) 72 (((zgt v8).2.2.1))) 75 (zup (ar 75) ((fi 64 14).toNatClampNeg) (((zgt v8).2.2.2.2.2.2.2.1)))) 71 (((zgt v9).2.1))) 72 (((zgt v9).2.2.1))), (zuf (zuf (zuf (zuf (zuf (zuf (zuf (zuf (zuf (zuf (zuf (zuf (zuf (zuf (zuf fi 64 7 ((fi 64 7) + 1)) 64 11 0) 64 13 0) 64 7 (((zgt v8).2.2.2.1))) 64 9 (((zgt v8).2.2.2.2.1))) 64 10 (((zgt v8).2.2.2.2.2.1))) 64 11 (((zgt v8).2.2.2.2.2.2.1))) 64 12 (((zgt v8).2.2.2.2.2.2.2.1))) 64 13 (((zgt v8).2.2.2.2.2.2.2.2))) 64 7 (((zgt v9).2.2.2.1))) 64 9 (((zgt v9).2.2.2.2.1))) 64 10 (((zgt v9).2.2.2.2.2.1))) 64 11 (((zgt v9).2.2.2.2.2.2.1))) 64 12 (((zgt v9).2.2.2.2.2.2.2.1))) 64 13 (((zgt v9).2.2.2.2.2.2.2.2))), (m1, m2, m3, m4, m5)))))))
      else
       some (.inr (some (.int 0), ((zua (zua (zua (zua ar 73 (zup (ar 73) ((fi 64 14).toNatClampNeg) v1)) 74 (zup (ar 74) ((fi 64 14).toNatClampNeg) (fi 64 12))) 71 (((zgt v8).2.1))) 72 (((zgt v8).2.2.1))), (zuf (zuf (zuf (zuf (zuf (zuf (zuf (zuf (zuf fi 64 7 ((fi 64 7) + 1)) 64 11 0) 64 13 0) 64 7 (((zgt v8).2.2.2.1))) 64 9 (((zgt v8).2.2.2.2.1))) 64 10 (((zgt v8).2.2.2.2.2.1))) 64 11 (((zgt v8).2.2.2.2.2.2.1))) 64 12 (((zgt v8).2.2.2.2.2.2.2.1))) 64 13 (((zgt v8).2.2.2.2.2.2.2.2))), (m1, m2, m3, m4, m5))))))))
    else
     zl (W_md_wrongAt 4 (fi 64 7)) (fun v10 =>
     zl (F0_md_wrongAt 4 (fi 64 7)) (fun v11 =>
     zg (Nat.beq 1 0 || (decide (v10 = 0) || decide (v10 = 1))) (
     some (.inr (some (.int v10), (ar, (zuf fi 64 9 v11), (m1, m2, m3, m4, m5)))))))
   else
    bif decide (v1 = 120) then
     bif !decide (fi 64 14 = 16) then
      zg (Nat.beq 16 16 && (zin (fi 64 14) 16)) (
      zg (Nat.beq 16 16 && (zin (fi 64 14) 16)) (
      bif decide (v1 = 120) then
       zg (Nat.beq 16 16 && (zin (fi 64 14) 16)) (
       zl (Q_md_readsCondition (ar 70) (ar 71) (ar 72) ((fi 64 7) + 1) (fi 64 8) (fi 64 9) (fi 64 10) 0 (fi 64 12) 0) (fun v12 => zg v12.isSome (
       bif !decide (((zgt v12).1) = 0) then
        zg (Nat.beq 16 16 && (zin (fi 64 14) 16)) (
        some (.inr (some (.int 1), ((zua (zua (zua (zua (zua (zua ar 73 (zup (ar 73) ((fi 64 14).toNatClampNeg) v1)) 74 (zup (ar 74) ((fi 64 14).toNatClampNeg) (fi 64 12))) 75 (zup (ar 75) ((fi 64 14).toNatClampNeg) (fi 64 12))) 71 (((zgt v12).2.1))) 72 (((zgt v12).2.2.1))) 76 (zup (ar 76) ((fi 64 14).toNatClampNeg) (((zgt v12).2.2.2.2.2.2.2.1)))), (zuf (zuf (zuf (zuf (zuf (zuf (zuf (zuf (zuf (zuf fi 64 7 ((fi 64 7) + 1)) 64 11 0) 64 13 0) 64 7 (((zgt v12).2.2.2.1))) 64 9 (((zgt v12).2.2.2.2.1))) 64 10 (((zgt v12).2.2.2.2.2.1))) 64 11 (((zgt v12).2.2.2.2.2.2.1))) 64 12 (((zgt v12).2.2.2.2.2.2.2.1))) 64 13 (((zgt v12).2.2.2.2.2.2.2.2))) 64 14 ((fi 64 14) + 1)), (m1, m2, m3, m4, m5)))))
       else
        some (.inr (some (.int 0), ((zua (zua (zua (zua (zua ar 73 (zup (ar 73) ((fi 64 14).toNatClampNeg) v1)) 74 (zup (ar 74) ((fi 64 14).toNatClampNeg) (fi 64 12))) 75 (zup (ar 75) ((fi 64 14).toNatClampNeg) (fi 64 12))) 71 (((zgt v12).2.1))) 72 (((zgt v12).2.2.1))), (zuf (zuf (zuf (zuf (zuf (zuf (zuf (zuf (zuf fi 64 7 ((fi 64 7) + 1)) 64 11 0) 64 13 0) 64 7 (((zgt v12).2.2.2.1))) 64 9 (((zgt v12).2.2.2.2.1))) 64 10 (((zgt v12).2.2.2.2.2.1))) 64 11 (((zgt v12).2.2.2.2.2.2.1))) 64 12 (((zgt v12).2.2.2.2.2.2.2.1))) 64 13 (((zgt v12).2.2.2.2.2.2.2.2))), (m1, m2, m3, m4, m5)))))))
      else
       zl (Q_md_readsSum (ar 70) (ar 71) (ar 72) ((fi 64 7) + 1) (fi 64 8) (fi 64 9) (fi 64 10) 0 (fi 64 12) 0) (fun v13 => zg v13.isSome (
       bif !decide (((zgt v13).1) = 0) then
        zg (Nat.beq 16 16 && (zin (fi 64 14) 16)) (
        zl (Q_md_readsCondition (ar 70) (((zgt v13).2.1)) (((zgt v13).2.2.1)) (((zgt v13).2.2.2.1)) (fi 64 8) (((zgt v13).2.2.2.2.1)) (((zgt v13).2.2.2.2.2.1)) (((zgt v13).2.2.2.2.2.2.1)) (((zgt v13).2.2.2.2.2.2.2.1)) (((zgt v13).2.2.2.2.2.2.2.2))) (fun v14 => zg v14.isSome (
        bif !decide (((zgt v14).1) = 0) then
         zg (Nat.beq 16 16 && (zin (fi 64 14) 16)) (
         some (.inr (some (.int 1), ((zua (zua (zua (zua (zua (zua (zua (zua ar 73 (zup (ar 73) ((fi 64 14).toNatClampNeg) v1)) 74 (zup (ar 74) ((fi 64 14).toNatClampNeg) (fi 64 12))) 71 (((zgt v13).2.1))) 72 (((zgt v13).2.2.1))) 75 (zup (ar 75) ((fi 64 14).toNatClampNeg) (((zgt v13).2.2.2.2.2.2.2.1)))) 71 (((zgt v14).2.1))) 72 (((zgt v14).2.2.1))) 76 (zup (ar 76) ((fi 64 14).toNatClampNeg) (((zgt v14).2.2.2.2.2.2.2.1)))), (zuf (zuf (zuf (zuf (zuf (zuf (zuf (zuf (zuf (zuf (zuf (zuf (zuf (zuf (zuf (zuf fi 64 7 ((fi 64 7) + 1)) 64 11 0) 64 13 0) 64 7 (((zgt v13).2.2.2.1))) 64 9 (((zgt v13).2.2.2.2.1))) 64 10 (((zgt v13).2.2.2.2.2.1))) 64 11 (((zgt v13).2.2.2.2.2.2.1))) 64 12 (((zgt v13).2.2.2.2.2.2.2.1))) 64 13 (((zgt v13).2.2.2.2.2.2.2.2))) 64 7 (((zgt v14).2.2.2.1))) 64 9 (((zgt v14).2.2.2.2.1))) 64 10 (((zgt v14).2.2.2.2.2.1))) 64 11 (((zgt v14).2.2.2.2.2.2.1))) 64 12 (((zgt v14).2.2.2.2.2.2.2.1))) 64 13 (((zgt v14).2.2.2.2.2.2.2.2))) 64 14 ((fi 64 14) + 1)), (m1, m2, m3, m4, m5)))))
        else
         some (.inr (some (.int 0), ((zua (zua (zua (zua (zua (zua (zua ar 73 (zup (ar 73) ((fi 64 14).toNatClampNeg) v1)) 74 (zup (ar 74) ((fi 64 14).toNatClampNeg) (fi 64 12))) 71 (((zgt v13).2.1))) 72 (((zgt v13).2.2.1))) 75 (zup (ar 75) ((fi 64 14).toNatClampNeg) (((zgt v13).2.2.2.2.2.2.2.1)))) 71 (((zgt v14).2.1))) 72 (((zgt v14).2.2.1))), (zuf (zuf (zuf (zuf (zuf (zuf (zuf (zuf (zuf (zuf (zuf (zuf (zuf (zuf (zuf fi 64 7 ((fi 64 7) + 1)) 64 11 0) 64 13 0) 64 7 (((zgt v13).2.2.2.1))) 64 9 (((zgt v13).2.2.2.2.1))) 64 10 (((zgt v13).2.2.2.2.2.1))) 64 11 (((zgt v13).2.2.2.2.2.2.1))) 64 12 (((zgt v13).2.2.2.2.2.2.2.1))) 64 13 (((zgt v13).2.2.2.2.2.2.2.2))) 64 7 (((zgt v14).2.2.2.1))) 64 9 (((zgt v14).2.2.2.2.1))) 64 10 (((zgt v14).2.2.2.2.2.1))) 64 11 (((zgt v14).2.2.2.2.2.2.1))) 64 12 (((zgt v14).2.2.2.2.2.2.2.1))) 64 13 (((zgt v14).2.2.2.2.2.2.2.2))), (m1, m2, m3, m4, m5)))))))
       else
        some (.inr (some (.int 0), ((zua (zua (zua (zua ar 73 (zup (ar 73) ((fi 64 14).toNatClampNeg) v1)) 74 (zup (ar 74) ((fi 64 14).toNatClampNeg) (fi 64 12))) 71 (((zgt v13).2.1))) 72 (((zgt v13).2.2.1))), (zuf (zuf (zuf (zuf (zuf (zuf (zuf (zuf (zuf fi 64 7 ((fi 64 7) + 1)) 64 11 0) 64 13 0) 64 7 (((zgt v13).2.2.2.1))) 64 9 (((zgt v13).2.2.2.2.1))) 64 10 (((zgt v13).2.2.2.2.2.1))) 64 11 (((zgt v13).2.2.2.2.2.2.1))) 64 12 (((zgt v13).2.2.2.2.2.2.2.1))) 64 13 (((zgt v13).2.2.2.2.2.2.2.2))), (m1, m2, m3, m4, m5))))))))
     else
      zl (W_md_wrongAt 4 (fi 64 7)) (fun v15 =>
      zl (F0_md_wrongAt 4 (fi 64 7)) (fun v16 =>
      zg (Nat.beq 1 0 || (decide (v15 = 0) || decide (v15 = 1))) (
      some (.inr (some (.int v15), (ar, (zuf fi 64 9 v16), (m1, m2, m3, m4, m5)))))))
    else
     zl (W_md_wrongAt 1 (fi 64 7)) (fun v17 =>
     zl (F0_md_wrongAt 1 (fi 64 7)) (fun v18 =>
     zg (Nat.beq 1 0 || (decide (v17 = 0) || decide (v17 = 1))) (
     some (.inr (some (.int v17), (ar, (zuf fi 64 9 v18), (m1, m2, m3, m4, m5))))))))) : Option ((Nat × List Value × List Value × zH2) ⊕ zO2)) := by with_unfolding_all rfl
set_option maxRecDepth 20000 in
theorem e_md_readsRule {X : Nat × (Nat → Int32)} {ar fi : Nat → Nat → Int32} {m1 m2 m3 m4 m5 : Nat} {o : zO2} : ∀ (q : T_md_readsRule), q_md_readsRule (ar 70) (ar 71) (ar 72) (ar 73) (ar 74) (ar 75) (ar 76) (fi 64 7) (fi 64 8) (fi 64 9) (fi 64 10) (fi 64 11) (fi 64 12) (fi 64 13) (fi 64 14) = some q → (fun t => O_md_readsRule ar fi m1 m2 m3 m4 m5 t = o) q → zR2 X zFT (zEx 158 S_md_here (zEx 160 S_md_wrongAt (zEx 171 S_md_readsSum (zEx 176 S_md_readsCondition zE0)))) zc_177 0 [.ref 64] [] (ar, fi, (m1, m2, m3, m4, m5)) o := by
  intro q h hq
  unfold q_md_readsRule at h
  refine zT_seg t_md_readsRule ?_
  obtain ⟨TT, hTT⟩ : ∃ T, T = zT X zFT (zEx 158 S_md_here (zEx 160 S_md_wrongAt (zEx 171 S_md_readsSum (zEx 176 S_md_readsCondition zE0)))) zc_177 o := ⟨_, rfl⟩
  rw [← hTT]
  refine zg_el h (fun hg h => zU_g hTT hg ?_)
  refine zl_el h (fun h => zU_l hTT ?_)
  refine zb_el h (fun hb h => zU_t hTT hb ?_) (fun hb h => zU_f hTT hb ?_)
  · refine zb_el h (fun hb h => zU_t hTT hb ?_) (fun hb h => zU_f hTT hb ?_)
    · refine zg_el h (fun hg h => zU_ga hTT hg ?_)
      refine zg_el h (fun hg h => zU_ga hTT hg ?_)
      refine zb_el h (fun hb h => zU_t hTT hb ?_) (fun hb h => zU_f hTT hb ?_)
      · refine zg_el h (fun hg h => zU_ga hTT hg ?_)
        refine zbd_el h (fun v2 hv h => zU_c hTT hv ?_)
        refine zb_el h (fun hb h => zU_t hTT hb ?_) (fun hb h => zU_f hTT hb ?_)
        · refine zg_el h (fun hg h => zU_ga hTT hg ?_)
          rw [hTT]
          have hz := zsi (P := (fun t => O_md_readsRule ar fi m1 m2 m3 m4 m5 t = o)) h hq
          refine (zO_mk ?_ ?_).trans hz
          · first | with_reducible rfl | exact hA0_md_readsRule _ _ _ _ _ _ _
          · first | with_reducible rfl | exact hF1_md_readsRule _ _ _ _ _ _ _ _ _ _ _
        · rw [hTT]
          have hz := zsi (P := (fun t => O_md_readsRule ar fi m1 m2 m3 m4 m5 t = o)) h hq
          refine (zO_mk ?_ ?_).trans hz
          · first | with_reducible rfl | exact hA2_md_readsRule _ _ _ _ _ _
          · first | with_reducible rfl | exact hF3_md_readsRule _ _ _ _ _ _ _ _ _ _
      · refine zbd_el h (fun v3 hv h => zU_c hTT hv ?_)
        refine zb_el h (fun hb h => zU_t hTT hb ?_) (fun hb h => zU_f hTT hb ?_)
        · refine zg_el h (fun hg h => zU_ga hTT hg ?_)
          refine zbd_el h (fun v4 hv h => zU_c hTT hv ?_)
          refine zb_el h (fun hb h => zU_t hTT hb ?_) (fun hb h => zU_f hTT hb ?_)
          · refine zg_el h (fun hg h => zU_ga hTT hg ?_)
            rw [hTT]
            have hz := zsi (P := (fun t => O_md_readsRule ar fi m1 m2 m3 m4 m5 t = o)) h hq
            refine (zO_mk ?_ ?_).trans hz
            · first | with_reducible rfl | exact hA4_md_readsRule _ _ _ _ _ _ _ _ _
            · first | with_reducible rfl | exact hF5_md_readsRule _ _ _ _ _ _ _ _ _ _ _ _ _ _ _ _ _
          · rw [hTT]
            have hz := zsi (P := (fun t => O_md_readsRule ar fi m1 m2 m3 m4 m5 t = o)) h hq
            refine (zO_mk ?_ ?_).trans hz
            · first | with_reducible rfl | exact hA6_md_readsRule _ _ _ _ _ _ _ _
            · first | with_reducible rfl | exact hF7_md_readsRule _ _ _ _ _ _ _ _ _ _ _ _ _ _ _ _
        · rw [hTT]
          have hz := zsi (P := (fun t => O_md_readsRule ar fi m1 m2 m3 m4 m5 t = o)) h hq
          refine (zO_mk ?_ ?_).trans hz
          · first | with_reducible rfl | exact hA8_md_readsRule _ _ _ _ _
          · first | with_reducible rfl | exact hF3_md_readsRule _ _ _ _ _ _ _ _ _ _
    · refine zl_el h (fun h => zU_l hTT ?_)
      refine zl_el h (fun h => zU_l hTT ?_)
      refine zg_el h (fun hg h => zU_gr hTT hg ?_)
      rw [hTT]
      have hz := zsi (P := (fun t => O_md_readsRule ar fi m1 m2 m3 m4 m5 t = o)) h hq
      refine (zO_mk ?_ ?_).trans hz
      · first | with_reducible rfl | exact hA9_md_readsRule _
      · first | with_reducible rfl | exact hF10_md_readsRule _ _
  · refine zb_el h (fun hb h => zU_t hTT hb ?_) (fun hb h => zU_f hTT hb ?_)
    · refine zb_el h (fun hb h => zU_t hTT hb ?_) (fun hb h => zU_f hTT hb ?_)
      · refine zg_el h (fun hg h => zU_ga hTT hg ?_)
        refine zg_el h (fun hg h => zU_ga hTT hg ?_)
        refine zb_el h (fun hb h => zU_t hTT hb ?_) (fun hb h => zU_f hTT hb ?_)
        · refine zg_el h (fun hg h => zU_ga hTT hg ?_)
          refine zbd_el h (fun v7 hv h => zU_c hTT hv ?_)
          refine zb_el h (fun hb h => zU_t hTT hb ?_) (fun hb h => zU_f hTT hb ?_)
          · refine zg_el h (fun hg h => zU_ga hTT hg ?_)
            rw [hTT]
            have hz := zsi (P := (fun t => O_md_readsRule ar fi m1 m2 m3 m4 m5 t = o)) h hq
            refine (zO_mk ?_ ?_).trans hz
            · first | with_reducible rfl | exact hA0_md_readsRule _ _ _ _ _ _ _
            · first | with_reducible rfl | exact hF1_md_readsRule _ _ _ _ _ _ _ _ _ _ _
          · rw [hTT]
            have hz := zsi (P := (fun t => O_md_readsRule ar fi m1 m2 m3 m4 m5 t = o)) h hq
            refine (zO_mk ?_ ?_).trans hz
            · first | with_reducible rfl | exact hA2_md_readsRule _ _ _ _ _ _
            · first | with_reducible rfl | exact hF3_md_readsRule _ _ _ _ _ _ _ _ _ _
        · refine zbd_el h (fun v8 hv h => zU_c hTT hv ?_)
          refine zb_el h (fun hb h => zU_t hTT hb ?_) (fun hb h => zU_f hTT hb ?_)
          · refine zg_el h (fun hg h => zU_ga hTT hg ?_)
            refine zbd_el h (fun v9 hv h => zU_c hTT hv ?_)
            refine zb_el h (fun hb h => zU_t hTT hb ?_) (fun hb h => zU_f hTT hb ?_)
            · refine zg_el h (fun hg h => zU_ga hTT hg ?_)
              rw [hTT]
              have hz := zsi (P := (fun t => O_md_readsRule ar fi m1 m2 m3 m4 m5 t = o)) h hq
              refine (zO_mk ?_ ?_).trans hz
              · first | with_reducible rfl | exact hA4_md_readsRule _ _ _ _ _ _ _ _ _
              · first | with_reducible rfl | exact hF5_md_readsRule _ _ _ _ _ _ _ _ _ _ _ _ _ _ _ _ _
            · rw [hTT]
              have hz := zsi (P := (fun t => O_md_readsRule ar fi m1 m2 m3 m4 m5 t = o)) h hq
              refine (zO_mk ?_ ?_).trans hz
              · first | with_reducible rfl | exact hA6_md_readsRule _ _ _ _ _ _ _ _
              · first | with_reducible rfl | exact hF7_md_readsRule _ _ _ _ _ _ _ _ _ _ _ _ _ _ _ _
          · rw [hTT]
            have hz := zsi (P := (fun t => O_md_readsRule ar fi m1 m2 m3 m4 m5 t = o)) h hq
            refine (zO_mk ?_ ?_).trans hz
            · first | with_reducible rfl | exact hA8_md_readsRule _ _ _ _ _
            · first | with_reducible rfl | exact hF3_md_readsRule _ _ _ _ _ _ _ _ _ _
      · refine zl_el h (fun h => zU_l hTT ?_)
        refine zl_el h (fun h => zU_l hTT ?_)
        refine zg_el h (fun hg h => zU_gr hTT hg ?_)
        rw [hTT]
        have hz := zsi (P := (fun t => O_md_readsRule ar fi m1 m2 m3 m4 m5 t = o)) h hq
        refine (zO_mk ?_ ?_).trans hz
        · first | with_reducible rfl | exact hA9_md_readsRule _
        · first | with_reducible rfl | exact hF10_md_readsRule _ _
    · refine zb_el h (fun hb h => zU_t hTT hb ?_) (fun hb h => zU_f hTT hb ?_)
      · refine zb_el h (fun hb h => zU_t hTT hb ?_) (fun hb h => zU_f hTT hb ?_)
        · refine zg_el h (fun hg h => zU_ga hTT hg ?_)
          refine zg_el h (fun hg h => zU_ga hTT hg ?_)
          refine zb_el h (fun hb h => zU_t hTT hb ?_) (fun hb h => zU_f hTT hb ?_)
          · refine zg_el h (fun hg h => zU_ga hTT hg ?_)
            refine zbd_el h (fun v12 hv h => zU_c hTT hv ?_)
            refine zb_el h (fun hb h => zU_t hTT hb ?_) (fun hb h => zU_f hTT hb ?_)
            · refine zg_el h (fun hg h => zU_ga hTT hg ?_)
              rw [hTT]
              have hz := zsi (P := (fun t => O_md_readsRule ar fi m1 m2 m3 m4 m5 t = o)) h hq
              refine (zO_mk ?_ ?_).trans hz
              · first | with_reducible rfl | exact hA0_md_readsRule _ _ _ _ _ _ _
              · first | with_reducible rfl | exact hF1_md_readsRule _ _ _ _ _ _ _ _ _ _ _
            · rw [hTT]
              have hz := zsi (P := (fun t => O_md_readsRule ar fi m1 m2 m3 m4 m5 t = o)) h hq
              refine (zO_mk ?_ ?_).trans hz
              · first | with_reducible rfl | exact hA2_md_readsRule _ _ _ _ _ _
              · first | with_reducible rfl | exact hF3_md_readsRule _ _ _ _ _ _ _ _ _ _
          · refine zbd_el h (fun v13 hv h => zU_c hTT hv ?_)
            refine zb_el h (fun hb h => zU_t hTT hb ?_) (fun hb h => zU_f hTT hb ?_)
            · refine zg_el h (fun hg h => zU_ga hTT hg ?_)
              refine zbd_el h (fun v14 hv h => zU_c hTT hv ?_)
              refine zb_el h (fun hb h => zU_t hTT hb ?_) (fun hb h => zU_f hTT hb ?_)
              · refine zg_el h (fun hg h => zU_ga hTT hg ?_)
                rw [hTT]
                have hz := zsi (P := (fun t => O_md_readsRule ar fi m1 m2 m3 m4 m5 t = o)) h hq
                refine (zO_mk ?_ ?_).trans hz
                · first | with_reducible rfl | exact hA4_md_readsRule _ _ _ _ _ _ _ _ _
                · first | with_reducible rfl | exact hF5_md_readsRule _ _ _ _ _ _ _ _ _ _ _ _ _ _ _ _ _
              · rw [hTT]
                have hz := zsi (P := (fun t => O_md_readsRule ar fi m1 m2 m3 m4 m5 t = o)) h hq
                refine (zO_mk ?_ ?_).trans hz
                · first | with_reducible rfl | exact hA6_md_readsRule _ _ _ _ _ _ _ _
                · first | with_reducible rfl | exact hF7_md_readsRule _ _ _ _ _ _ _ _ _ _ _ _ _ _ _ _
            · rw [hTT]
              have hz := zsi (P := (fun t => O_md_readsRule ar fi m1 m2 m3 m4 m5 t = o)) h hq
              refine (zO_mk ?_ ?_).trans hz
              · first | with_reducible rfl | exact hA8_md_readsRule _ _ _ _ _
              · first | with_reducible rfl | exact hF3_md_readsRule _ _ _ _ _ _ _ _ _ _
        · refine zl_el h (fun h => zU_l hTT ?_)
          refine zl_el h (fun h => zU_l hTT ?_)
          refine zg_el h (fun hg h => zU_gr hTT hg ?_)
          rw [hTT]
          have hz := zsi (P := (fun t => O_md_readsRule ar fi m1 m2 m3 m4 m5 t = o)) h hq
          refine (zO_mk ?_ ?_).trans hz
          · first | with_reducible rfl | exact hA9_md_readsRule _
          · first | with_reducible rfl | exact hF10_md_readsRule _ _
      · refine zl_el h (fun h => zU_l hTT ?_)
        refine zl_el h (fun h => zU_l hTT ?_)
        refine zg_el h (fun hg h => zU_gr hTT hg ?_)
        rw [hTT]
        have hz := zsi (P := (fun t => O_md_readsRule ar fi m1 m2 m3 m4 m5 t = o)) h hq
        refine (zO_mk ?_ ?_).trans hz
        · first | with_reducible rfl | exact hA9_md_readsRule _
        · first | with_reducible rfl | exact hF10_md_readsRule _ _
theorem ok_md_readsRule (X : Nat × (Nat → Int32)) : zOkS X 177 S_md_readsRule 8 := zOkS_new (zOkE_cons (ok_md_here X) (by decide) (zOkE_cons (ok_md_wrongAt X) (by decide) (zOkE_cons (ok_md_readsSum X) (by decide) (zOkE_cons (ok_md_readsCondition X) (by decide) (zOkE_nil X 7))))) (by
  intro args g o h
  obtain ⟨ar, fi, m1, m2, m3, m4, m5⟩ := g
  unfold S_md_readsRule P_md_readsRule at h
  split at h
  · refine zb_el h (fun hI0 k0 => ?_) (fun _ h10 => ?_)
    · try simp only [Bool.and_eq_true] at hI0
      have j0 := hI0
      have e0 := Nat.eq_of_beq_eq_true j0
      subst e0
      exact zpe_el k0 (fun t ht ho => by obtain ⟨t0, t1, t2, t3, t4, t5, t6, t7, t8, t9, t10, t11, t12, t13⟩ := t; exact e_md_readsRule _ ht ho)
    · cases h10
  · cases h)
