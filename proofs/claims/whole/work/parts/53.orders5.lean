/-! ===== D: orders, whole ===== -/
section dord5
variable {a1 a70 : Nat → Int32} {kd K st lf at_ va su N : Nat → Int32} {tl gn wd mn x : Int32}
theorem d_ifOrdGood {y ft : Int32} (hc : w_if_canTake y 1 120 ft = 1) {kd2 st2 lf2 at2 va2 su2 : Nat → Int32} (tl2 gn2 wd2 mn2 x2 e1 e2 e3 e4 : Int32) {v : Int32} {k' s' l' a' v' u' : Nat → Int32} {tl' gn' wd' p1 p2 p3 p4 : Int32}
    (hr : q_od_read y a1 (va_cpy kd kd2 ((0 : Int32).toNatClampNeg) ((0 : Int32).toNatClampNeg) ((96 : Int32).toNatClampNeg)) (va_cpy st st2 ((0 : Int32).toNatClampNeg) ((0 : Int32).toNatClampNeg) ((96 : Int32).toNatClampNeg)) (va_cpy lf lf2 ((0 : Int32).toNatClampNeg) ((0 : Int32).toNatClampNeg) ((96 : Int32).toNatClampNeg)) (va_cpy at_ at2 ((0 : Int32).toNatClampNeg) ((0 : Int32).toNatClampNeg) ((24 : Int32).toNatClampNeg)) (va_cpy va va2 ((0 : Int32).toNatClampNeg) ((0 : Int32).toNatClampNeg) ((24 : Int32).toNatClampNeg)) (va_cpy su su2 ((0 : Int32).toNatClampNeg) ((0 : Int32).toNatClampNeg) ((24 : Int32).toNatClampNeg)) tl gn wd = some (v, k', s', l', a', v', u', tl', gn', wd', p1, p2, p3, p4)) (hv : decide (v < 0) = false) :
    q_if_orders y a1 kd st lf at_ va su kd2 st2 lf2 at2 va2 su2 ft tl gn wd mn x tl2 gn2 wd2 mn2 x2 e1 e2 e3 e4 = some (v, va_cpy k' kd ((0 : Int32).toNatClampNeg) ((0 : Int32).toNatClampNeg) ((96 : Int32).toNatClampNeg), va_cpy s' st ((0 : Int32).toNatClampNeg) ((0 : Int32).toNatClampNeg) ((96 : Int32).toNatClampNeg), va_cpy l' lf ((0 : Int32).toNatClampNeg) ((0 : Int32).toNatClampNeg) ((96 : Int32).toNatClampNeg), va_cpy a' at_ ((0 : Int32).toNatClampNeg) ((0 : Int32).toNatClampNeg) ((24 : Int32).toNatClampNeg), va_cpy v' va ((0 : Int32).toNatClampNeg) ((0 : Int32).toNatClampNeg) ((24 : Int32).toNatClampNeg), va_cpy u' su ((0 : Int32).toNatClampNeg) ((0 : Int32).toNatClampNeg) ((24 : Int32).toNatClampNeg), k', s', l', a', v', u', 0, tl', gn', wd', mn, x, tl', gn', wd', mn, x, p1, p2, p3, p4, 0) := by
  unfold q_if_orders
  rw [hc]
  refine (zbd_q hr).trans ?_
  dsimp +instances only
  rw [hv, cFf]
  rfl
theorem d_ifOrdBad {y ft : Int32} (hc : w_if_canTake y 1 120 ft = 1) {kd2 st2 lf2 at2 va2 su2 : Nat → Int32} (tl2 gn2 wd2 mn2 x2 e1 e2 e3 e4 : Int32) {v : Int32} {k' s' l' a' v' u' : Nat → Int32} {tl' gn' wd' p1 p2 p3 p4 : Int32}
    (hr : q_od_read y a1 (va_cpy kd kd2 ((0 : Int32).toNatClampNeg) ((0 : Int32).toNatClampNeg) ((96 : Int32).toNatClampNeg)) (va_cpy st st2 ((0 : Int32).toNatClampNeg) ((0 : Int32).toNatClampNeg) ((96 : Int32).toNatClampNeg)) (va_cpy lf lf2 ((0 : Int32).toNatClampNeg) ((0 : Int32).toNatClampNeg) ((96 : Int32).toNatClampNeg)) (va_cpy at_ at2 ((0 : Int32).toNatClampNeg) ((0 : Int32).toNatClampNeg) ((24 : Int32).toNatClampNeg)) (va_cpy va va2 ((0 : Int32).toNatClampNeg) ((0 : Int32).toNatClampNeg) ((24 : Int32).toNatClampNeg)) (va_cpy su su2 ((0 : Int32).toNatClampNeg) ((0 : Int32).toNatClampNeg) ((24 : Int32).toNatClampNeg)) tl gn wd = some (v, k', s', l', a', v', u', tl', gn', wd', p1, p2, p3, p4)) (hv : decide (v < 0) = true) :
    q_if_orders y a1 kd st lf at_ va su kd2 st2 lf2 at2 va2 su2 ft tl gn wd mn x tl2 gn2 wd2 mn2 x2 e1 e2 e3 e4 = some (v, kd, st, lf, at_, va, su, k', s', l', a', v', u', 0, tl, gn, wd, mn, x, tl', gn', wd', mn, x, p1, p2, p3, p4, 0) := by
  unfold q_if_orders
  rw [hc]
  refine (zbd_q hr).trans ?_
  dsimp +instances only
  rw [hv, cTt]
  rfl
theorem KA_sym {n : Nat} {b c : Nat → Int32} (h : KA n b c) : KA n c b := fun k hk => (h k hk).symm
theorem KA_tr {n : Nat} {b c d : Nat → Int32} (h : KA n b c) (h' : KA n c d) : KA n b d := fun k hk => (h k hk).trans (h' k hk)
theorem d_orders (h : RT a1 a70) (hK : KA 96 kd K) (hR : RS st lf at_ va su tl gn wd mn x N) (y : Int32) {t : Nat} (ht : t ≤ 260) (kd2 st2 lf2 at2 va2 su2 A B : Nat → Int32) (tl2 gn2 wd2 mn2 x2 e1 e2 e3 e4 f7 f8 f9 f10 f12 f14 f30 f31 f32 : Int32) :
    ∃ v kd' st' lf' at' va' su' tr1 tr2 tr3 tr4 tr5 tr6 fd tl' gn' wd' r1 r2 r3 r4 r5 r6 r7 r8 r9 m N' A' K' B' g7 g8 g9 g10 g12 g14 g30 g31 g32, q_if_orders y a1 kd st lf at_ va su kd2 st2 lf2 at2 va2 su2 (nI t) tl gn wd mn x tl2 gn2 wd2 mn2 x2 e1 e2 e3 e4 = some (v, kd', st', lf', at', va', su', tr1, tr2, tr3, tr4, tr5, tr6, fd, tl', gn', wd', mn, x, r1, r2, r3, r4, r5, r6, r7, r8, r9, m) ∧
      q_md_orders y N A K B a70 (nI t) f7 f8 f9 f10 f12 f14 f30 f31 f32 = some (v, N', A', K', B', fd, g7, g8, g9, g10, g12, g14, g30, g31, g32) ∧ RS st' lf' at' va' su' tl' gn' wd' mn x N' ∧ KA 96 kd' K' ∧ (fd = nI t ∨ fd = 0) := by
  rcases d_canTake y (a := 1) (b := 120) (by omega) (by omega) ht with ⟨c1, c2⟩ | ⟨c1, c2, L, rfl, hL1, hL2, hLt⟩
  · refine ⟨-1, kd, st, lf, at_, va, su, kd2, st2, lf2, at2, va2, su2, nI t, tl, gn, wd, tl2, gn2, wd2, mn2, x2, e1, e2, e3, e4, 1, N, A, K, B, f7, f8, f9, f10, f12, f14, f30, f31, f32, ?_, ?_, hR, hK, Or.inl rfl⟩
    · unfold q_if_orders
      rw [show w_if_canTake y 1 120 (nI t) = 0 from c1]
      rfl
    · unfold q_md_orders
      rcases c2 with c2 | ⟨c2, c3⟩
      · rw [show w_md_in y 1 120 = 0 from c2]; rfl
      · rw [show w_md_in y 1 120 = 1 from c2, c3]; rfl
  · have eb : f0_tx_begin (nI L) = nI L := by
      unfold f0_tx_begin
      exact if_neg (by show ¬ nI 260 < nI L; exact nI_nlt (by omega) (by omega))
    have hR2 := RS_congrC hR (d_cpyA st st2) (d_cpyA lf lf2) (d_cpyT at_ at2) (d_cpyT va va2) (d_cpyT su su2)
    have hK2 := KA_tr (d_cpyA kd kd2) hK
    -- the model lays its kinds aside
    obtain ⟨r', h1, B', r, h2, h3, h4⟩ := zlp_one (f := f_md_orders_43 a70 N (a0_md_copies N A) K 0 (nI L) f9 f10 0 0 0 f31 f32) (fun m s => ∃ k B', k + m = 96 ∧ s = (nI k, B') ∧ ∀ j, j < k → B' j = K j)
      (fun r' => ∃ B' r, KA 96 B' K ∧ q_od_read (nI L) a1 (va_cpy kd kd2 ((0 : Int32).toNatClampNeg) ((0 : Int32).toNatClampNeg) ((96 : Int32).toNatClampNeg)) (va_cpy st st2 ((0 : Int32).toNatClampNeg) ((0 : Int32).toNatClampNeg) ((96 : Int32).toNatClampNeg)) (va_cpy lf lf2 ((0 : Int32).toNatClampNeg) ((0 : Int32).toNatClampNeg) ((96 : Int32).toNatClampNeg)) (va_cpy at_ at2 ((0 : Int32).toNatClampNeg) ((0 : Int32).toNatClampNeg) ((24 : Int32).toNatClampNeg)) (va_cpy va va2 ((0 : Int32).toNatClampNeg) ((0 : Int32).toNatClampNeg) ((24 : Int32).toNatClampNeg)) (va_cpy su su2 ((0 : Int32).toNatClampNeg) ((0 : Int32).toNatClampNeg) ((24 : Int32).toNatClampNeg)) tl gn wd = some r ∧ okOrd (a0_md_copies N A) B' mn x r r') (by
      rintro m s ⟨k, B', hk, rfl, hb⟩
      dsimp +instances only [f_md_orders_43, b_md_orders_43]
      by_cases hkn : k = 96
      · right
        subst hkn
        obtain ⟨r, r', g1, g2, g3⟩ := d_odLines h (L := L) (by omega) (a0_md_copies N A) B' 0 0 mn x 16 0 0 _ _ _ _ _ _ N K tl gn wd 0 f9 f10 f31 f32 rfl (by omega) hR2 hK2
        rw [show decide ((96 : Int32) ≤ nI 96) = true from rfl, cTt]
        cases hz : q_md_readsLine N K a70 (nI 0) (nI L) f9 f10 (nI 0) f31 f32 with
        | none => rw [hz] at g2; cases g2
        | some v =>
          rw [hz] at g2
          have g2 : l_md_orders_72 a70 (a0_md_copies N A) B' (nI L) 0 0 v.1 v.2.1 v.2.2.1 v.2.2.2.1 v.2.2.2.2.1 v.2.2.2.2.2.1 v.2.2.2.2.2.2.1 v.2.2.2.2.2.2.2.1 v.2.2.2.2.2.2.2.2 = some r' := g2
          rw [show q_md_readsLine N K a70 0 (nI L) f9 f10 0 f31 f32 = some v from hz]
          refine ⟨r', ?_, B', r, hb, ?_, g3⟩
          · dsimp +instances only [zbd]
            rw [g2]
          · unfold q_od_read
            rw [eb]
            exact g1
      · left
        have e96 : decide ((96 : Int32) ≤ nI k) = false := by rw [show (96 : Int32) = nI 96 from rfl, nI_dle (by omega) (by omega)]; exact dF (by omega)
        rw [e96, cFf, nI_zin (by omega), dT (show k < 96 by omega), nI_cl (by omega), nI_1]
        refine ⟨m - 1, _, by omega, rfl, k + 1, _, by omega, rfl, fun j hj => ?_⟩
        by_cases e : j = k
        · subst e; rw [zup_same]
        · rw [zup_ne e]; exact hb j (by omega)) 96 (0, B) ⟨0, B, by omega, rfl, fun j hj => by omega⟩
    have hm : q_md_orders (nI L) N A K B a70 (nI t) f7 f8 f9 f10 f12 f14 f30 f31 f32 = some r' := by
      unfold q_md_orders
      rw [show w_md_in (nI L) 1 120 = 1 from c2, nI_dle (by omega) (by omega), dT hLt]
      exact h1
    rcases h4 with ⟨n, kd', st', lf', at', va', su', tl', gn', wd', l, f, fp, ps, N', K', g7, g8, g9, g10, g12, g14, g30, g31, g32, hn, rfl, rfl, k1, k2⟩ | ⟨v, kd', st', lf', at', va', su', tl', gn', wd', l, f, fp, ps, N', K', g7, g8, g9, g10, g12, g14, g30, g31, g32, hv, rfl, rfl, k1, k2⟩
    · exact ⟨_, _, _, _, _, _, _, _, _, _, _, _, _, _, _, _, _, _, _, _, _, _, _, _, _, _, _, _, _, _, _, _, _, _, _, _, _, _, _, _, d_ifOrdGood c1 tl2 gn2 wd2 mn2 x2 e1 e2 e3 e4 h3 (nI_neg (by omega)), hm, RS_congrC k1 (d_cpyA _ _) (d_cpyA _ _) (d_cpyT _ _) (d_cpyT _ _) (d_cpyT _ _), KA_tr (d_cpyA _ _) k2, Or.inr rfl⟩
    · have hv' : decide (v < 0) = true := by
        refine dT ?_
        rw [← Int32.not_le]
        exact of_decide_eq_false hv
      exact ⟨_, _, _, _, _, _, _, _, _, _, _, _, _, _, _, _, _, _, _, _, _, _, _, _, _, _, _, _, _, _, _, _, _, _, _, _, _, _, _, _, d_ifOrdBad c1 tl2 gn2 wd2 mn2 x2 e1 e2 e3 e4 h3 hv', hm, RS_congr hR (fun j hj => (k1 j hj).trans ((d_copies _ _).1 j hj)), KA_tr hK (KA_tr (KA_sym h2) (KA_sym k2)), Or.inr rfl⟩
end dord5
