/-! ===== D: orders: things, a line ===== -/
section dthing
variable {a1 a70 : Nat → Int32} {kd K st lf at_ va su N : Nat → Int32} {tl gn wd mn x : Int32}
theorem d_thing (h : RT a1 a70) (hR : RS st lf at_ va su tl gn wd mn x N) {L p : Nat} (hL : L ≤ 260) (hp : p ≤ L) (fp F9 n0 s0 t0 : Int32) :
    ∃ at' va' su' tl' gn' f fp' ps N' ret ps' F n s1 s2, q_od_readThing a1 at_ va su tl gn (nI L) 0 fp (nI p) = some (at', va', su', tl', gn', f, fp', ps) ∧ q_md_readsThing N a70 (nI p) (nI L) F9 n0 s0 t0 = some (ret, N', ps', F, n, s1, s2) ∧ okT a1 L (RS st lf at' va' su' tl' gn' wd mn x N') f fp' ps ret ps' F := by
  unfold q_od_readThing q_md_readsThing
  rcases d_bnd h hL hp (hi := 23) (by omega) fp F9 n0 with ⟨i, d, h1, h2, hi, h4, q1, q2⟩ | ⟨v, k, pl, ps, n', h1, h2, h3, q1, q2⟩
  · have hi24 : i < 24 := by omega
    rw [show q_od_readBounded 23 a1 (nI L) 0 fp (nI p) = _ from q1, show q_md_readsWithin 23 a70 (nI p) (nI L) F9 n0 = _ from q2]
    have e1 := d_sign (a := a1) hL (show p + d < 1000000 by omega)
    have e2 := d_here h hL (show p + d < 1000000 by omega)
    have e3 : w_if_isWithin (nI i) 0 23 = 1 := (d_in1 (a := 0) (b := 23) (by omega) (by omega) (by omega)).2
    have ht := d_isTold tl (i := i) (by omega)
    have hm := d_isThing hR.2.1 hi24
    dsimp +instances only [zbd]
    simp only [show decide ((1 : Int32) = 0) = false from rfl, nFf, cTt]
    rw [e1.1, e1.2, e2.1, e2.2, e3, ht, hm.1, hm.2, d_skip, nI_1]
    dsimp +instances only [zg, zl]
    simp only [cTt, show w_tx_isGood 0 = 1 from rfl, show decide ((1 : Int32) = 0) = false from rfl, cFf, nFf, b01_0, Bool.not_not]
    rw [nI_zin (by omega), dT hi24, nI_cl (by omega), show (192 : Int32) + nI i = nI (192 + i) from nI_add 192 i, show (216 : Int32) + nI i = nI (216 + i) from nI_add 216 i, show (288 : Int32) + nI i = nI (288 + i) from nI_add 288 i, show (240 : Int32) + nI i = nI (240 + i) from nI_add 240 i, show (264 : Int32) + nI i = nI (264 + i) from nI_add 264 i,
      nI_zin (by omega), dT (show 264 + i < 315 by omega), nI_zin (by omega), dT (show 240 + i < 315 by omega), nI_zin (by omega), dT (show 192 + i < 315 by omega), nI_zin (by omega), dT (show 216 + i < 315 by omega), nI_zin (by omega), dT (show 288 + i < 315 by omega), nI_cl (by omega), nI_cl (by omega), nI_cl (by omega), nI_cl (by omega), nI_cl (by omega)]
    by_cases c64 : sg a1 L (p + d) = 64
    · have hin : p + d < L := sg_in (by rw [c64]; decide)
      rw [c64]
      simp only [show decide ((64 : Int32) = 64) = true from rfl, nTt, cFf, cTt]
      rcases d_spot h hL (p := p + d + 1) (by omega) fp F9 (nI i) s0 with ⟨s, p', n', hs, hp', r1, r2⟩ | ⟨v, k, pl, ps, ps', n', s1, s2, g1, g2, g3, r1, r2⟩
      · rw [r1, r2]
        obtain ⟨c1, c2⟩ := d_endL (a1 := a1) hL hp' (RS_tell hR hi24 hs) fp F9
        have hn := d_isNum hs
        simp only [c1, cTt, show decide ((1 : Int32) = 0) = false from rfl, nFf]
        generalize f0_od_endLine (nI p') (nI L) 0 a1 fp = f at c2
        generalize f1_od_endLine (nI p') (nI L) 0 a1 fp = g at c2
        rcases c2 with ⟨rfl, c3⟩ | ⟨p2, rfl, c3⟩ | ⟨k, pl, -, -, -, -, -, c3, -⟩
        · have et : q_od_tellThing (nI i) (nI s) at_ tl gn 0 = some (zup at_ i (nI s), tl ||| (1 <<< (nI i &&& 31)), gn &&& ((1 <<< (nI i &&& 31)) ^^^ (-1))) := by
            unfold q_od_tellThing
            rw [hn.1, hn.2, nI_zin (by omega), dT hi24, nI_cl (by omega)]
            rfl
          rw [et]
          exact ⟨_, _, _, _, _, _, _, _, _, _, _, _, _, _, _, rfl, rfl, Or.inl ⟨rfl, c3⟩⟩
        · have et : q_od_tellThing (nI i) (nI s) at_ tl gn 1 = some (at_, tl, gn) := by
            unfold q_od_tellThing
            rw [d_goodF (show (1 : Int32) ≠ 0 by decide)]
            rfl
          rw [et]
          exact ⟨_, _, _, _, _, _, _, _, _, _, _, _, _, _, _, rfl, rfl, Or.inr (Or.inl ⟨p2, rfl, c3⟩)⟩
        · exact absurd c3 (by decide)
      · have hk0 : nI k ≠ 0 := nI_ne0 (by omega) (by omega)
        have he := d_endLF hk0 a1 ps (nI L) (nI pl)
        have et : q_od_tellThing (nI i) v at_ tl gn (nI k) = some (at_, tl, gn) := by
          unfold q_od_tellThing
          rw [d_goodF hk0]
          rfl
        rw [r1, r2]
        simp only [he, et, cTt, nTt, cFf, show decide ((0 : Int32) = 0) = true from rfl]
        exact ⟨_, _, _, _, _, _, _, _, _, _, _, _, _, _, _, rfl, rfl, Or.inr (Or.inr ⟨k, pl, g1, by omega, g3, rfl, rfl, rfl, rfl⟩)⟩
    · by_cases c61 : sg a1 L (p + d) = 61
      · have hin : p + d < L := sg_in (by rw [c61]; decide)
        rw [c61]
        simp only [show decide ((61 : Int32) = 64) = false from rfl, show decide ((61 : Int32) = 61) = true from rfl, nTt, nFf, cFf, cTt]
        cases hb : bt tl i with
        | false =>
          exact ⟨_, _, _, _, _, _, _, _, _, _, _, _, _, _, _, rfl, rfl, Or.inr (Or.inr ⟨7, p, by omega, by omega, by omega, rfl, rfl, rfl, rfl⟩)⟩
        | true =>
          simp only [cTt]
          rcases d_num4 h hL (p := p + d + 1) (by omega) (hi := 9999) (by omega) fp F9 (nI i) with ⟨n, d', g1, g2, g3, g4, r1, r2⟩ | ⟨v, k, pl, ps, n', g1, g2, g3, r1, r2⟩
          · rw [dT g3] at r2
            rw [r1, show q_md_readsWithin 9999 a70 (nI (p + d + 1)) (nI L) F9 (nI i) = _ from r2]
            obtain ⟨c1, c2⟩ := d_endL (a1 := a1) hL g4 (RS_value hR hi24 g3 hb) fp F9
            simp only [c1, cTt]
            exact ⟨_, _, _, _, _, _, _, _, _, _, _, _, _, _, _, rfl, rfl, c2⟩
          · have hk0 : nI k ≠ 0 := nI_ne0 (by omega) (by omega)
            have he := d_endLF hk0 a1 ps (nI L) (nI pl)
            rw [r1, show q_md_readsWithin 9999 a70 (nI (p + d + 1)) (nI L) F9 (nI i) = _ from r2]
            simp only [he, cTt]
            exact ⟨_, _, _, _, _, _, _, _, _, _, _, _, _, _, _, rfl, rfl, Or.inr (Or.inr ⟨k, pl, g1, by omega, g3, rfl, rfl, rfl, rfl⟩)⟩
      · by_cases c43 : sg a1 L (p + d) = 43
        · have hin : p + d < L := sg_in (by rw [c43]; decide)
          rw [c43]
          simp only [show decide ((43 : Int32) = 64) = false from rfl, show decide ((43 : Int32) = 61) = false from rfl, show decide ((43 : Int32) = 43) = true from rfl, nTt, nFf, cFf, cTt]
          cases hb : bt tl i with
          | false =>
            exact ⟨_, _, _, _, _, _, _, _, _, _, _, _, _, _, _, rfl, rfl, Or.inr (Or.inr ⟨7, p, by omega, by omega, by omega, rfl, rfl, rfl, rfl⟩)⟩
          | true =>
            simp only [cTt]
            rcases d_num4 h hL (p := p + d + 1) (by omega) (hi := 9999) (by omega) fp F9 (nI i) with ⟨n, d', g1, g2, g3, g4, r1, r2⟩ | ⟨v, k, pl, ps, n', g1, g2, g3, r1, r2⟩
            · rw [dT g3] at r2
              rw [r1, show q_md_readsWithin 9999 a70 (nI (p + d + 1)) (nI L) F9 (nI i) = _ from r2]
              obtain ⟨c1, c2⟩ := d_endL (a1 := a1) hL g4 (RS_sum hR hi24 g3) fp F9
              simp only [c1, cTt]
              exact ⟨_, _, _, _, _, _, _, _, _, _, _, _, _, _, _, rfl, rfl, c2⟩
            · have hk0 : nI k ≠ 0 := nI_ne0 (by omega) (by omega)
              have he := d_endLF hk0 a1 ps (nI L) (nI pl)
              rw [r1, show q_md_readsWithin 9999 a70 (nI (p + d + 1)) (nI L) F9 (nI i) = _ from r2]
              simp only [he, cTt]
              exact ⟨_, _, _, _, _, _, _, _, _, _, _, _, _, _, _, rfl, rfl, Or.inr (Or.inr ⟨k, pl, g1, by omega, g3, rfl, rfl, rfl, rfl⟩)⟩
        · rw [dF c64, dF c61, dF c43]
          exact ⟨_, _, _, _, _, _, _, _, _, _, _, _, _, _, _, rfl, rfl, Or.inr (Or.inr ⟨1, p + d, by omega, by omega, by omega, rfl, rfl, rfl, rfl⟩)⟩
  · have hk0 : nI k ≠ 0 := nI_ne0 (by omega) (by omega)
    have e := d_signF hk0 ps (nI L) a1
    rw [show q_od_readBounded 23 a1 (nI L) 0 fp (nI p) = _ from q1, show q_md_readsWithin 23 a70 (nI p) (nI L) F9 n0 = _ from q2]
    dsimp +instances only [zbd, zg, zl]
    simp only [e, cTt, d_goodF hk0, show decide ((0 : Int32) = 0) = true from rfl, nTt, cFf]
    exact ⟨_, _, _, _, _, _, _, _, _, _, _, _, _, _, _, rfl, rfl, Or.inr (Or.inr ⟨k, pl, h1, by omega, h3, rfl, rfl, rfl, rfl⟩)⟩
theorem okT_imp {L : Nat} {G G' : Prop} {f fp ps ret ps' F : Int32} (h : okT a1 L G f fp ps ret ps' F) (hG : G → G') : okT a1 L G' f fp ps ret ps' F := by
  rcases h with ⟨h1, h2, h3, h4⟩ | h | h
  · exact Or.inl ⟨h1, h2, hG h3, h4⟩
  · exact Or.inr (Or.inl h)
  · exact Or.inr (Or.inr h)
theorem d_line (h : RT a1 a70) (hK : KA 96 kd K) (hR : RS st lf at_ va su tl gn wd mn x N) {L p y : Nat} (hL : L ≤ 260) (hp : p ≤ L) (hy : y ≤ 16) (fp F9 n0 s0 t0 : Int32) :
    ∃ kd' st' lf' at' va' su' tl' gn' wd' f fp' ps N' K' ret ps' F n ln s1 s2, q_od_readLine (nI y) a1 kd st lf at_ va su tl gn wd (nI L) 0 fp (nI p) = some (kd', st', lf', at', va', su', tl', gn', wd', f, fp', ps) ∧ q_md_readsLine N K a70 (nI p) (nI L) F9 n0 (nI y) s0 t0 = some (ret, N', K', ps', F, n, ln, s1, s2) ∧ okT a1 L (RS st' lf' at' va' su' tl' gn' wd' mn x N' ∧ KA 96 kd' K' ∧ ln = nI (y + 1) ∧ y < 16) f fp' ps ret ps' F := by
  have e1 := d_sign (a := a1) hL (show p < 1000000 by omega)
  have e2 := d_here h hL (show p < 1000000 by omega)
  have e3 := d_digC (a1 := a1) hL (show p < 1000000 by omega)
  have e4 := d_digM h hL (show p < 1000000 by omega)
  unfold q_od_readLine q_md_readsLine
  rw [e1.1, e1.2, e2.1, e2.2, e3.1, e3.2, e4.1, e4.2, show (16 : Int32) = nI 16 from rfl, nI_dlt (by omega) (by omega), nI_deq (by omega) (by omega), nI_1, nI_1]
  dsimp +instances only [zg, zl]
  simp only [cTt]
  rcases dgB_cases (sg a1 L p) with ⟨d1, -, -, c, hc1, hc2, ec⟩ | ⟨d1, d2⟩
  · rw [d1, ec]
    have n42 : decide (nI c = 42) = false := by rw [show (42 : Int32) = nI 42 from rfl, nI_deq (by omega) (by omega)]; exact dF (by omega)
    have n126 : decide (nI c = 126) = false := by rw [show (126 : Int32) = nI 126 from rfl, nI_deq (by omega) (by omega)]; exact dF (by omega)
    have n33 : decide (nI c = 33) = false := by rw [show (33 : Int32) = nI 33 from rfl, nI_deq (by omega) (by omega)]; exact dF (by omega)
    simp only [b01_0, nTt, nFf, cTt, cFf, n42, n126, n33]
    by_cases hy16 : y < 16
    · obtain ⟨at', va', su', tl', gn', f, fp', ps, N', ret, ps', F, n, s1, s2, q1, q2, q3⟩ := d_thing h hR hL hp fp F9 n0 s0 t0
      rw [dT hy16, dF (show ¬ y = 16 by omega), q1, q2]
      have hret := okT_ret q3
      dsimp +instances only [zbd]
      simp only [nFf, cTt, hret]
      exact ⟨_, _, _, _, _, _, _, _, _, _, _, _, _, _, _, _, _, _, _, _, _, rfl, rfl, okT_imp q3 (fun g => ⟨g, hK, rfl, hy16⟩)⟩
    · rw [dF hy16, dT (show y = 16 by omega)]
      exact ⟨_, _, _, _, _, _, _, _, _, _, _, _, _, _, _, _, _, _, _, _, _, rfl, rfl, Or.inr (Or.inr ⟨4, p, by omega, by omega, by omega, rfl, rfl, rfl, rfl⟩)⟩
  · rw [d1]
    simp only [b01_0, nTt, nFf, cTt, cFf]
    by_cases c42 : sg a1 L p = 42
    · have hin : p < L := sg_in (by rw [c42]; decide)
      rw [c42]
      simp only [show decide ((42 : Int32) = 42) = true from rfl, nTt, nFf, cTt, cFf]
      by_cases hy16 : y < 16
      · obtain ⟨st', lf', f, fp', ps, N', ret, ps', F, n, s1, s2, q1, q2, q3⟩ := d_lighting h hK hR hL (p := p) (by omega) fp F9 n0 s0
        rw [dT hy16, dF (show ¬ y = 16 by omega), q1, q2]
        have hret := okT_ret q3
        dsimp +instances only [zbd]
        simp only [nFf, cTt, hret]
        exact ⟨_, _, _, _, _, _, _, _, _, _, _, _, _, _, _, _, _, _, _, _, _, rfl, rfl, okT_imp q3 (fun g => ⟨g, hK, rfl, hy16⟩)⟩
      · rw [dF hy16, dT (show y = 16 by omega)]
        exact ⟨_, _, _, _, _, _, _, _, _, _, _, _, _, _, _, _, _, _, _, _, _, rfl, rfl, Or.inr (Or.inr ⟨4, p, by omega, by omega, by omega, rfl, rfl, rfl, rfl⟩)⟩
    · by_cases c126 : sg a1 L p = 126
      · have hin : p < L := sg_in (by rw [c126]; decide)
        rw [c126]
        simp only [show decide ((126 : Int32) = 42) = false from rfl, show decide ((126 : Int32) = 126) = true from rfl, nTt, nFf, cTt, cFf]
        by_cases hy16 : y < 16
        · obtain ⟨kd', st', lf', f, fp', ps, N', K', ret, ps', F, n, s1, s2, q1, q2, q3⟩ := d_watering h hK hR hL (p := p) (by omega) fp F9 n0 s0
          rw [dT hy16, dF (show ¬ y = 16 by omega), q1, q2]
          have hret := okT_ret q3
          dsimp +instances only [zbd]
          simp only [nFf, cTt, hret]
          exact ⟨_, _, _, _, _, _, _, _, _, _, _, _, _, _, _, _, _, _, _, _, _, rfl, rfl, okT_imp q3 (fun g => ⟨g.1, g.2, rfl, hy16⟩)⟩
        · rw [dF hy16, dT (show y = 16 by omega)]
          exact ⟨_, _, _, _, _, _, _, _, _, _, _, _, _, _, _, _, _, _, _, _, _, rfl, rfl, Or.inr (Or.inr ⟨4, p, by omega, by omega, by omega, rfl, rfl, rfl, rfl⟩)⟩
      · by_cases c33 : sg a1 L p = 33
        · have hin : p < L := sg_in (by rw [c33]; decide)
          rw [c33]
          simp only [show decide ((33 : Int32) = 42) = false from rfl, show decide ((33 : Int32) = 126) = false from rfl, show decide ((33 : Int32) = 33) = true from rfl, nTt, nFf, cTt, cFf]
          by_cases hy16 : y < 16
          · obtain ⟨wd', f, fp', ps, q1, q2, q3⟩ := d_wind h hR hL (p := p) (by omega) fp F9
            rw [dT hy16, dF (show ¬ y = 16 by omega), q1, q2]
            have hret := okT_ret q3
            dsimp +instances only [zbd]
            simp only [nFf, cTt, hret]
            exact ⟨_, _, _, _, _, _, _, _, _, _, _, _, _, _, _, _, _, _, _, _, _, rfl, rfl, okT_imp q3 (fun g => ⟨g, hK, rfl, hy16⟩)⟩
          · rw [dF hy16, dT (show y = 16 by omega)]
            exact ⟨_, _, _, _, _, _, _, _, _, _, _, _, _, _, _, _, _, _, _, _, _, rfl, rfl, Or.inr (Or.inr ⟨4, p, by omega, by omega, by omega, rfl, rfl, rfl, rfl⟩)⟩
        · rw [dF c42, dF c126, dF c33]
          exact ⟨_, _, _, _, _, _, _, _, _, _, _, _, _, _, _, _, _, _, _, _, _, rfl, rfl, Or.inr (Or.inr ⟨1, p, by omega, by omega, by omega, rfl, rfl, rfl, rfl⟩)⟩
end dthing
