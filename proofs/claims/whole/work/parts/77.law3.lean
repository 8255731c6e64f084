/-! ===== D: the law, as it is called ===== -/
theorem d_law {a1 a70 : Nat → Int32} (h : RT a1 a70) {t : Nat} (ht : t ≤ 260) (x : Int32) (o a rl am co en : Nat → Int32) (g7 g8 g9 e1 e2 e3 e4 : Int32) (a71 a72 a73 a74 a75 a76 a77 a78 a79 a80 a81 : Nat → Int32) (f7 f8 f9 f10 f11 f12 f13 f14 f15 : Int32) :
    (q_if_law x a1 o a rl am co en (nI t) g7 g8 g9 e1 e2 e3 e4 = some (-1, o, a, rl, am, co, en, nI t, g7, g8, g9, e1, e2, e3, e4, 2) ∧ q_md_law x a70 a71 a72 a73 a74 a75 a76 a77 a78 a79 a80 a81 (nI t) f7 f8 f9 f10 f11 f12 f13 f14 f15 = some (-1, a71, a72, a73, a74, a75, a76, a77, a78, a79, a80, a81, nI t, f7, f8, f9, f10, f11, f12, f13, f14, f15)) ∨
    (∃ (v : Int32) (o' a' rl' am' co' en' b71 b72 b73 b74 b75 b76 : Nat → Int32) (w7 w8 w9 v1 v2 v3 v4 c7 c8 c9 c10 c11 c12 c13 c14 : Int32), q_if_law x a1 o a rl am co en (nI t) g7 g8 g9 e1 e2 e3 e4 = some (v, o', a', rl', am', co', en', 0, w7, w8, w9, v1, v2, v3, v4, 0) ∧ q_md_law x a70 a71 a72 a73 a74 a75 a76 a77 a78 a79 a80 a81 (nI t) f7 f8 f9 f10 f11 f12 f13 f14 f15 = some (v, b71, b72, b73, b74, b75, b76, a77, a78, a79, a80, a81, 0, c7, c8, c9, c10, c11, c12, c13, c14, f15)) ∨
    (∃ (n : Nat) (o' a' rl' am' co' en' b71 b72 b73 b74 b75 b76 codes cl cf ch ct : Nat → Int32) (w7 lu v1 v2 v3 v4 c7 c8 c9 c10 c11 c12 c13 c14 : Int32), n ≤ 16 ∧ q_if_law x a1 o a rl am co en (nI t) g7 g8 g9 e1 e2 e3 e4 = some (nI n, o', a', rl', am', co', en', 0, w7, lu, nI n, v1, v2, v3, v4, 1) ∧ q_md_law x a70 a71 a72 a73 a74 a75 a76 a77 a78 a79 a80 a81 (nI t) f7 f8 f9 f10 f11 f12 f13 f14 f15 = some (nI n, b71, b72, b73, b74, b75, b76, codes, cl, cf, ch, ct, 0, c7, c8, c9, c10, c11, c12, c13, c14, nI n) ∧ LW o' a' rl' am' co' en' (nI n) lu codes cl cf ch ct (nI n)) := by
  unfold q_if_law q_md_law
  rcases d_canTake x (a := 1) (b := 240) (by omega) (by omega) ht with ⟨k1, k2⟩ | ⟨k1, k2, L, rfl, hL1, hL2, hLt⟩
  · left
    rw [show w_if_canTake x 1 240 (nI t) = 0 from k1]
    refine ⟨rfl, ?_⟩
    rcases k2 with k2 | ⟨k2, k3⟩
    · rw [show w_md_in x 1 240 = 0 from k2]; rfl
    · rw [show w_md_in x 1 240 = 1 from k2, k3]; rfl
  · right
    rw [show w_if_canTake (nI L) 1 240 (nI t) = 1 from k1, show w_md_in (nI L) 1 240 = 1 from k2, nI_dle (by omega) (by omega), dT hLt]
    obtain ⟨v, r, r', i1, i2, i3, i4, i5⟩ := d_lawL h hL2 a77 a78 a79 a80 a81 f15 L 0 0 0 o a rl am co en a71 a72 a73 a74 a75 a76 0 f9 0 f10 f11 f13 rfl (by omega) (by omega) (by omega) (fun q hq => by omega)
    have er : q_lr_read (nI L) a1 o a rl am co en = some r := by
      unfold q_lr_read
      rw [show f0_tx_begin (nI L) = nI L from by
        unfold f0_tx_begin
        exact if_neg (by show ¬ nI 260 < nI L; exact nI_nlt (by omega) (by omega))]
      exact i3
    have em : zbd (q_md_readsRule a70 a71 a72 a73 a74 a75 a76 (f0_md_beginsText (nI L)) (f1_md_beginsText (nI L)) f9 f10 f11 (f2_md_beginsText (nI L)) f13 (f3_md_beginsText (nI L))) (fun v6 => l_md_law_31 a70 a77 a78 a79 a80 a81 (f1_md_beginsText (nI L)) f15 ((v6.1)) ((v6.2.1)) ((v6.2.2.1)) ((v6.2.2.2.1)) ((v6.2.2.2.2.1)) ((v6.2.2.2.2.2.1)) ((v6.2.2.2.2.2.2.1)) ((v6.2.2.2.2.2.2.2.1)) ((v6.2.2.2.2.2.2.2.2.1)) ((v6.2.2.2.2.2.2.2.2.2.1)) ((v6.2.2.2.2.2.2.2.2.2.2.1)) ((v6.2.2.2.2.2.2.2.2.2.2.2.1)) ((v6.2.2.2.2.2.2.2.2.2.2.2.2.1)) ((v6.2.2.2.2.2.2.2.2.2.2.2.2.2))) = some r' := (zbd_q (show q_md_readsRule a70 a71 a72 a73 a74 a75 a76 (f0_md_beginsText (nI L)) (f1_md_beginsText (nI L)) f9 f10 f11 (f2_md_beginsText (nI L)) f13 (f3_md_beginsText (nI L)) = some v from i1)).trans i4
    rw [er]
    dsimp +instances only [zl]
    rw [em, show decide ((1 : Int32) = 0) = false from rfl, nFf, cTt, cFf, cTt]
    rcases i5 with ⟨k, pl, b1, b2, b3, z1, b71, b72, b73, b74, b75, b76, c7, c8, c10, c11, c12, c13, c14, rfl⟩ | ⟨n, o', a', rl', am', co', en', cm, lu, w1, w2, w3, w4, b71, b72, b73, b74, b75, b76, codes, cl, cf, ch, ct, c7, c8, c9, c10, c11, c12, c13, c14, hn1, hn2, rfl, rfl, hW⟩
    · left
      obtain ⟨r1, r2, r3, r4, r5, r6, r7, r8, r9, r10, r11, r12, r13, r14⟩ := r
      have z1' : r1 = f0_md_wrongAt (nI k) (nI pl) := z1
      subst z1'
      refine ⟨_, r2, r3, r4, r5, r6, r7, b71, b72, b73, b74, b75, b76, r8, r9, r10, r11, r12, r13, r14, c7, c8, _, c10, c11, c12, c13, c14, ?_, rfl⟩
      show (bif decide (f0_md_wrongAt (nI k) (nI pl) < 0) then _ else _) = _
      have hneg := d_neg b1 b2 (show pl < 100000 by omega)
      rw [dT (show f0_md_wrongAt (nI k) (nI pl) < 0 from Int32.not_le.mp (of_decide_eq_false hneg))]
      rfl
    · right
      refine ⟨n, o', a', rl', am', co', en', b71, b72, b73, b74, b75, b76, codes, cl, cf, ch, ct, cm, lu, w1, w2, w3, w4, c7, c8, c9, c10, c11, c12, c13, c14, hn2, ?_, rfl, hW⟩
      show (bif decide (nI n < 0) then _ else _) = _
      rw [show (0 : Int32) = nI 0 from rfl, nI_dlt (by omega) (by omega), dF (show ¬ n < 0 by omega)]
      rfl
