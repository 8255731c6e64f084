/-! ===== the law's loop over a script ===== -/
noncomputable def LE : zTE := zEx 109 S_if_feed (zEx 156 S_md_feed (zEx 110 S_if_law (zEx 179 S_md_law (zEx 111 S_if_town (zEx 187 S_md_town (zEx 112 S_if_orders (zEx 196 S_md_orders (zEx 113 S_if_minutes (zEx 208 S_md_minutes (zEx 114 S_if_tried (zEx 211 S_md_tried (zEx 115 S_if_placeIs (zEx 213 S_md_placeIs (zEx 116 S_if_thingIs (zEx 214 S_md_thingIs (zEx 117 S_if_comes (zEx 215 S_md_comes (zEx 118 S_if_over (zEx 216 S_md_over (zEx 119 S_if_steps (zEx 221 S_md_steps (zEx 120 S_if_began (zEx 223 S_md_began (zEx 121 S_if_breaks (zEx 228 S_md_breaks (zEx 122 S_if_getsOut (zEx 230 S_md_getsOut (zEx 123 S_if_safe (zEx 231 S_md_safe (zEx 124 S_if_insure (zEx 234 S_md_insure (zEx 125 S_if_roundFigure (zEx 235 S_md_roundFigure (zEx 126 S_if_ruin (zEx 237 S_md_ruin (zEx 127 S_if_carried (zEx 240 S_md_carried (zEx 128 S_if_premium (zEx 241 S_md_premium (zEx 129 S_if_woods (zEx 232 S_md_woods (zEx 130 S_if_seed (zEx 242 S_md_seed (zEx 131 S_if_keep (zEx 243 S_md_keep (zEx 132 S_if_undo (zEx 244 S_md_undo (zEx 133 S_if_check (zEx 245 S_md_check (zEx 134 S_if_count (zEx 248 S_md_count (zE0))))))))))))))))))))))))))))))))))))))))))))))))))))
theorem LE_109 (as : List Value) (g : zH2) : LE 109 as g = S_if_feed as g := rfl
theorem LE_156 (as : List Value) (g : zH2) : LE 156 as g = S_md_feed as g := rfl
theorem LE_110 (as : List Value) (g : zH2) : LE 110 as g = S_if_law as g := rfl
theorem LE_179 (as : List Value) (g : zH2) : LE 179 as g = S_md_law as g := rfl
theorem LE_111 (as : List Value) (g : zH2) : LE 111 as g = S_if_town as g := rfl
theorem LE_187 (as : List Value) (g : zH2) : LE 187 as g = S_md_town as g := rfl
theorem LE_112 (as : List Value) (g : zH2) : LE 112 as g = S_if_orders as g := rfl
theorem LE_196 (as : List Value) (g : zH2) : LE 196 as g = S_md_orders as g := rfl
theorem LE_113 (as : List Value) (g : zH2) : LE 113 as g = S_if_minutes as g := rfl
theorem LE_208 (as : List Value) (g : zH2) : LE 208 as g = S_md_minutes as g := rfl
theorem LE_114 (as : List Value) (g : zH2) : LE 114 as g = S_if_tried as g := rfl
theorem LE_211 (as : List Value) (g : zH2) : LE 211 as g = S_md_tried as g := rfl
theorem LE_115 (as : List Value) (g : zH2) : LE 115 as g = S_if_placeIs as g := rfl
theorem LE_213 (as : List Value) (g : zH2) : LE 213 as g = S_md_placeIs as g := rfl
theorem LE_116 (as : List Value) (g : zH2) : LE 116 as g = S_if_thingIs as g := rfl
theorem LE_214 (as : List Value) (g : zH2) : LE 214 as g = S_md_thingIs as g := rfl
theorem LE_117 (as : List Value) (g : zH2) : LE 117 as g = S_if_comes as g := rfl
theorem LE_215 (as : List Value) (g : zH2) : LE 215 as g = S_md_comes as g := rfl
theorem LE_118 (as : List Value) (g : zH2) : LE 118 as g = S_if_over as g := rfl
theorem LE_216 (as : List Value) (g : zH2) : LE 216 as g = S_md_over as g := rfl
theorem LE_119 (as : List Value) (g : zH2) : LE 119 as g = S_if_steps as g := rfl
theorem LE_221 (as : List Value) (g : zH2) : LE 221 as g = S_md_steps as g := rfl
theorem LE_120 (as : List Value) (g : zH2) : LE 120 as g = S_if_began as g := rfl
theorem LE_223 (as : List Value) (g : zH2) : LE 223 as g = S_md_began as g := rfl
theorem LE_121 (as : List Value) (g : zH2) : LE 121 as g = S_if_breaks as g := rfl
theorem LE_228 (as : List Value) (g : zH2) : LE 228 as g = S_md_breaks as g := rfl
theorem LE_122 (as : List Value) (g : zH2) : LE 122 as g = S_if_getsOut as g := rfl
theorem LE_230 (as : List Value) (g : zH2) : LE 230 as g = S_md_getsOut as g := rfl
theorem LE_123 (as : List Value) (g : zH2) : LE 123 as g = S_if_safe as g := rfl
theorem LE_231 (as : List Value) (g : zH2) : LE 231 as g = S_md_safe as g := rfl
theorem LE_124 (as : List Value) (g : zH2) : LE 124 as g = S_if_insure as g := rfl
theorem LE_234 (as : List Value) (g : zH2) : LE 234 as g = S_md_insure as g := rfl
theorem LE_125 (as : List Value) (g : zH2) : LE 125 as g = S_if_roundFigure as g := rfl
theorem LE_235 (as : List Value) (g : zH2) : LE 235 as g = S_md_roundFigure as g := rfl
theorem LE_126 (as : List Value) (g : zH2) : LE 126 as g = S_if_ruin as g := rfl
theorem LE_237 (as : List Value) (g : zH2) : LE 237 as g = S_md_ruin as g := rfl
theorem LE_127 (as : List Value) (g : zH2) : LE 127 as g = S_if_carried as g := rfl
theorem LE_240 (as : List Value) (g : zH2) : LE 240 as g = S_md_carried as g := rfl
theorem LE_128 (as : List Value) (g : zH2) : LE 128 as g = S_if_premium as g := rfl
theorem LE_241 (as : List Value) (g : zH2) : LE 241 as g = S_md_premium as g := rfl
theorem LE_129 (as : List Value) (g : zH2) : LE 129 as g = S_if_woods as g := rfl
theorem LE_232 (as : List Value) (g : zH2) : LE 232 as g = S_md_woods as g := rfl
theorem LE_130 (as : List Value) (g : zH2) : LE 130 as g = S_if_seed as g := rfl
theorem LE_242 (as : List Value) (g : zH2) : LE 242 as g = S_md_seed as g := rfl
theorem LE_131 (as : List Value) (g : zH2) : LE 131 as g = S_if_keep as g := rfl
theorem LE_243 (as : List Value) (g : zH2) : LE 243 as g = S_md_keep as g := rfl
theorem LE_132 (as : List Value) (g : zH2) : LE 132 as g = S_if_undo as g := rfl
theorem LE_244 (as : List Value) (g : zH2) : LE 244 as g = S_md_undo as g := rfl
theorem LE_133 (as : List Value) (g : zH2) : LE 133 as g = S_if_check as g := rfl
theorem LE_245 (as : List Value) (g : zH2) : LE 245 as g = S_md_check as g := rfl
theorem LE_134 (as : List Value) (g : zH2) : LE 134 as g = S_if_count as g := rfl
theorem LE_248 (as : List Value) (g : zH2) : LE 248 as g = S_md_count as g := rfl
theorem lp_step {X : Nat × (Nat → Int32)} {n : Nat} (hn : X.1 = n) (hn6 : 6 ≤ n) (hn3 : n ≤ 3072) : ∀ (m k : Nat) (g : zH2), n + 6 - k = m → k ≤ n → Rel g → ∃ g', zR2 X zFT LE zc_249 18 [.float 0, .ref 0, .ref 64, .int (nI k)] [] g (some (.int 1), g') := by
  intro m
  induction m using Nat.strongRecOn with
  | ind m ih =>
    intro k g hm hk hG
    have e6 : Int32.ofNat X.1 - 6 = nI (n - 6) := by
      rw [hn, show (6 : Int32) = nI 6 from rfl]
      exact pk_sub hn6
    have ek : decide (Int32.ofNat X.1 - 6 < nI k) = decide (n - 6 < k) := by rw [e6]; exact nI_dlt (by omega) (by omega)
    by_cases hlast : n - 6 < k
    · refine ⟨g, zseg_ret (lc_head.trans ?_)⟩
      rw [ek, dT hlast]
      rfl
    · have z0 : zin (nI k) X.1 = true := by rw [hn, nI_zin (by omega), dT (by omega)]
      have z1 : zin (nI k + 1) X.1 = true := by rw [hn, nI_1, nI_zin (by omega), dT (by omega)]
      have z2 : zin (nI k + 2) X.1 = true := by rw [hn, show (2 : Int32) = nI 2 from rfl, nI_add, nI_zin (by omega), dT (by omega)]
      have z3 : zin (nI k + 3) X.1 = true := by rw [hn, show (3 : Int32) = nI 3 from rfl, nI_add, nI_zin (by omega), dT (by omega)]
      have z4 : zin (nI k + 4) X.1 = true := by rw [hn, show (4 : Int32) = nI 4 from rfl, nI_add, nI_zin (by omega), dT (by omega)]
      have z5 : zin (nI k + 5) X.1 = true := by rw [hn, show (5 : Int32) = nI 5 from rfl, nI_add, nI_zin (by omega), dT (by omega)]
      have ih' : ∀ g2, Rel g2 → ∃ g', zR2 X zFT LE zc_249 18 [.float 0, .ref 0, .ref 64, .int (nI k + 6)] [] g2 (some (.int 1), g') := fun g2 h2 => by
        rw [show (6 : Int32) = nI 6 from rfl, nI_add]
        exact ih (n + 6 - (k + 6)) (by omega) (k + 6) g2 rfl (by omega) h2
      have ekf := ek.trans (dF hlast)
      by_cases c0 : X.2 ((nI k).toNatClampNeg) &&& 31 = 0
      · obtain ⟨v, g1, g2, e1, e2, hR⟩ := s_feed hG (X.2 ((nI k + 1).toNatClampNeg)) (X.2 ((nI k + 2).toNatClampNeg)) (X.2 ((nI k + 3).toNatClampNeg)) (X.2 ((nI k + 4).toNatClampNeg)) (X.2 ((nI k + 5).toNatClampNeg))
        obtain ⟨g', hg'⟩ := ih' g2 hR
        refine ⟨g', zseg_go (s' := (152, [.float 0, .ref 0, .ref 64, .int (nI k)], [], g)) (lc_0 z1 z2 z3 z4 z5 ((LE_109 _ _).trans e1) ((LE_156 _ _).trans e2) hg') (lc_head.trans ?_)⟩
        rw [ekf, z0, c0]
        rfl
      by_cases c1 : X.2 ((nI k).toNatClampNeg) &&& 31 = 1
      · obtain ⟨v, g1, g2, e1, e2, hR⟩ := s_law hG (X.2 ((nI k + 1).toNatClampNeg))
        obtain ⟨g', hg'⟩ := ih' g2 hR
        refine ⟨g', zseg_go (s' := (215, [.float 0, .ref 0, .ref 64, .int (nI k)], [], g)) (lc_1 z1 ((LE_110 _ _).trans e1) ((LE_179 _ _).trans e2) hg') (lc_head.trans ?_)⟩
        rw [ekf, z0, c1]
        rfl
      by_cases c2 : X.2 ((nI k).toNatClampNeg) &&& 31 = 2
      · obtain ⟨v, g1, g2, e1, e2, hR⟩ := s_town hG (X.2 ((nI k + 1).toNatClampNeg))
        obtain ⟨g', hg'⟩ := ih' g2 hR
        refine ⟨g', zseg_go (s' := (238, [.float 0, .ref 0, .ref 64, .int (nI k)], [], g)) (lc_2 z1 ((LE_111 _ _).trans e1) ((LE_187 _ _).trans e2) hg') (lc_head.trans ?_)⟩
        rw [ekf, z0, c2]
        rfl
      by_cases c3 : X.2 ((nI k).toNatClampNeg) &&& 31 = 3
      · obtain ⟨v, g1, g2, e1, e2, hR⟩ := s_orders hG (X.2 ((nI k + 1).toNatClampNeg))
        obtain ⟨g', hg'⟩ := ih' g2 hR
        refine ⟨g', zseg_go (s' := (261, [.float 0, .ref 0, .ref 64, .int (nI k)], [], g)) (lc_3 z1 ((LE_112 _ _).trans e1) ((LE_196 _ _).trans e2) hg') (lc_head.trans ?_)⟩
        rw [ekf, z0, c3]
        rfl
      by_cases c4 : X.2 ((nI k).toNatClampNeg) &&& 31 = 4
      · obtain ⟨v, g1, g2, e1, e2, hR⟩ := s_minutes hG (X.2 ((nI k + 1).toNatClampNeg))
        obtain ⟨g', hg'⟩ := ih' g2 hR
        refine ⟨g', zseg_go (s' := (284, [.float 0, .ref 0, .ref 64, .int (nI k)], [], g)) (lc_4 z1 ((LE_113 _ _).trans e1) ((LE_208 _ _).trans e2) hg') (lc_head.trans ?_)⟩
        rw [ekf, z0, c4]
        rfl
      by_cases c5 : X.2 ((nI k).toNatClampNeg) &&& 31 = 5
      · obtain ⟨v, g1, g2, e1, e2, hR⟩ := s_tried hG (X.2 ((nI k + 1).toNatClampNeg)) (X.2 ((nI k + 2).toNatClampNeg))
        obtain ⟨g', hg'⟩ := ih' g2 hR
        refine ⟨g', zseg_go (s' := (307, [.float 0, .ref 0, .ref 64, .int (nI k)], [], g)) (lc_5 z1 z2 ((LE_114 _ _).trans e1) ((LE_211 _ _).trans e2) hg') (lc_head.trans ?_)⟩
        rw [ekf, z0, c5]
        rfl
      by_cases c6 : X.2 ((nI k).toNatClampNeg) &&& 31 = 6
      · obtain ⟨v, g1, g2, e1, e2, hR⟩ := s_placeIs hG (X.2 ((nI k + 1).toNatClampNeg)) (X.2 ((nI k + 2).toNatClampNeg)) (X.2 ((nI k + 3).toNatClampNeg))
        obtain ⟨g', hg'⟩ := ih' g2 hR
        refine ⟨g', zseg_go (s' := (340, [.float 0, .ref 0, .ref 64, .int (nI k)], [], g)) (lc_6 z1 z2 z3 ((LE_115 _ _).trans e1) ((LE_213 _ _).trans e2) hg') (lc_head.trans ?_)⟩
        rw [ekf, z0, c6]
        rfl
      by_cases c7 : X.2 ((nI k).toNatClampNeg) &&& 31 = 7
      · obtain ⟨v, g1, g2, e1, e2, hR⟩ := s_thingIs hG (X.2 ((nI k + 1).toNatClampNeg)) (X.2 ((nI k + 2).toNatClampNeg))
        obtain ⟨g', hg'⟩ := ih' g2 hR
        refine ⟨g', zseg_go (s' := (383, [.float 0, .ref 0, .ref 64, .int (nI k)], [], g)) (lc_7 z1 z2 ((LE_116 _ _).trans e1) ((LE_214 _ _).trans e2) hg') (lc_head.trans ?_)⟩
        rw [ekf, z0, c7]
        rfl
      by_cases c8 : X.2 ((nI k).toNatClampNeg) &&& 31 = 8
      · obtain ⟨v, g1, g2, e1, e2, hR⟩ := s_comes hG (X.2 ((nI k + 1).toNatClampNeg)) (X.2 ((nI k + 2).toNatClampNeg)) (X.2 ((nI k + 3).toNatClampNeg))
        obtain ⟨g', hg'⟩ := ih' g2 hR
        refine ⟨g', zseg_go (s' := (416, [.float 0, .ref 0, .ref 64, .int (nI k)], [], g)) (lc_8 z1 z2 z3 ((LE_117 _ _).trans e1) ((LE_215 _ _).trans e2) hg') (lc_head.trans ?_)⟩
        rw [ekf, z0, c8]
        rfl
      by_cases c9 : X.2 ((nI k).toNatClampNeg) &&& 31 = 9
      · obtain ⟨v, g1, g2, e1, e2, hR⟩ := s_over hG (X.2 ((nI k + 1).toNatClampNeg))
        obtain ⟨g', hg'⟩ := ih' g2 hR
        refine ⟨g', zseg_go (s' := (459, [.float 0, .ref 0, .ref 64, .int (nI k)], [], g)) (lc_9 z1 ((LE_118 _ _).trans e1) ((LE_216 _ _).trans e2) hg') (lc_head.trans ?_)⟩
        rw [ekf, z0, c9]
        rfl
      by_cases c10 : X.2 ((nI k).toNatClampNeg) &&& 31 = 10
      · obtain ⟨v, g1, g2, e1, e2, hR⟩ := s_steps hG (X.2 ((nI k + 1).toNatClampNeg)) (X.2 ((nI k + 2).toNatClampNeg))
        obtain ⟨g', hg'⟩ := ih' g2 hR
        refine ⟨g', zseg_go (s' := (482, [.float 0, .ref 0, .ref 64, .int (nI k)], [], g)) (lc_10 z1 z2 ((LE_119 _ _).trans e1) ((LE_221 _ _).trans e2) hg') (lc_head.trans ?_)⟩
        rw [ekf, z0, c10]
        rfl
      by_cases c11 : X.2 ((nI k).toNatClampNeg) &&& 31 = 11
      · obtain ⟨v, g1, g2, e1, e2, hR⟩ := s_began hG (X.2 ((nI k + 1).toNatClampNeg)) (X.2 ((nI k + 2).toNatClampNeg))
        obtain ⟨g', hg'⟩ := ih' g2 hR
        refine ⟨g', zseg_go (s' := (515, [.float 0, .ref 0, .ref 64, .int (nI k)], [], g)) (lc_11 z1 z2 ((LE_120 _ _).trans e1) ((LE_223 _ _).trans e2) hg') (lc_head.trans ?_)⟩
        rw [ekf, z0, c11]
        rfl
      by_cases c12 : X.2 ((nI k).toNatClampNeg) &&& 31 = 12
      · obtain ⟨v, g1, g2, e1, e2, hR⟩ := s_breaks hG (X.2 ((nI k + 1).toNatClampNeg)) (X.2 ((nI k + 2).toNatClampNeg))
        obtain ⟨g', hg'⟩ := ih' g2 hR
        refine ⟨g', zseg_go (s' := (548, [.float 0, .ref 0, .ref 64, .int (nI k)], [], g)) (lc_12 z1 z2 ((LE_121 _ _).trans e1) ((LE_228 _ _).trans e2) hg') (lc_head.trans ?_)⟩
        rw [ekf, z0, c12]
        rfl
      by_cases c13 : X.2 ((nI k).toNatClampNeg) &&& 31 = 13
      · obtain ⟨v, g1, g2, e1, e2, hR⟩ := s_getsOut hG (X.2 ((nI k + 1).toNatClampNeg))
        obtain ⟨g', hg'⟩ := ih' g2 hR
        refine ⟨g', zseg_go (s' := (581, [.float 0, .ref 0, .ref 64, .int (nI k)], [], g)) (lc_13 z1 ((LE_122 _ _).trans e1) ((LE_230 _ _).trans e2) hg') (lc_head.trans ?_)⟩
        rw [ekf, z0, c13]
        rfl
      by_cases c14 : X.2 ((nI k).toNatClampNeg) &&& 31 = 14
      · obtain ⟨v, g1, g2, e1, e2, hR⟩ := s_safe hG (X.2 ((nI k + 1).toNatClampNeg))
        obtain ⟨g', hg'⟩ := ih' g2 hR
        refine ⟨g', zseg_go (s' := (604, [.float 0, .ref 0, .ref 64, .int (nI k)], [], g)) (lc_14 z1 ((LE_123 _ _).trans e1) ((LE_231 _ _).trans e2) hg') (lc_head.trans ?_)⟩
        rw [ekf, z0, c14]
        rfl
      by_cases c15 : X.2 ((nI k).toNatClampNeg) &&& 31 = 15
      · obtain ⟨v, g1, g2, e1, e2, hR⟩ := s_insure hG (X.2 ((nI k + 1).toNatClampNeg)) (X.2 ((nI k + 2).toNatClampNeg)) (X.2 ((nI k + 3).toNatClampNeg))
        obtain ⟨g', hg'⟩ := ih' g2 hR
        refine ⟨g', zseg_go (s' := (627, [.float 0, .ref 0, .ref 64, .int (nI k)], [], g)) (lc_15 z1 z2 z3 ((LE_124 _ _).trans e1) ((LE_234 _ _).trans e2) hg') (lc_head.trans ?_)⟩
        rw [ekf, z0, c15]
        rfl
      by_cases c16 : X.2 ((nI k).toNatClampNeg) &&& 31 = 16
      · obtain ⟨v, g1, g2, e1, e2, hR⟩ := s_roundFigure hG (X.2 ((nI k + 1).toNatClampNeg))
        obtain ⟨g', hg'⟩ := ih' g2 hR
        refine ⟨g', zseg_go (s' := (670, [.float 0, .ref 0, .ref 64, .int (nI k)], [], g)) (lc_16 z1 ((LE_125 _ _).trans e1) ((LE_235 _ _).trans e2) hg') (lc_head.trans ?_)⟩
        rw [ekf, z0, c16]
        rfl
      by_cases c17 : X.2 ((nI k).toNatClampNeg) &&& 31 = 17
      · obtain ⟨v, g1, g2, e1, e2, hR⟩ := s_ruin hG (X.2 ((nI k + 1).toNatClampNeg)) (X.2 ((nI k + 2).toNatClampNeg)) (X.2 ((nI k + 3).toNatClampNeg))
        obtain ⟨g', hg'⟩ := ih' g2 hR
        refine ⟨g', zseg_go (s' := (693, [.float 0, .ref 0, .ref 64, .int (nI k)], [], g)) (lc_17 z1 z2 z3 ((LE_126 _ _).trans e1) ((LE_237 _ _).trans e2) hg') (lc_head.trans ?_)⟩
        rw [ekf, z0, c17]
        rfl
      by_cases c18 : X.2 ((nI k).toNatClampNeg) &&& 31 = 18
      · obtain ⟨v, g1, g2, e1, e2, hR⟩ := s_carried hG (X.2 ((nI k + 1).toNatClampNeg))
        obtain ⟨g', hg'⟩ := ih' g2 hR
        refine ⟨g', zseg_go (s' := (736, [.float 0, .ref 0, .ref 64, .int (nI k)], [], g)) (lc_18 z1 ((LE_127 _ _).trans e1) ((LE_240 _ _).trans e2) hg') (lc_head.trans ?_)⟩
        rw [ekf, z0, c18]
        rfl
      by_cases c19 : X.2 ((nI k).toNatClampNeg) &&& 31 = 19
      · obtain ⟨v, g1, g2, e1, e2, hR⟩ := s_premium hG (X.2 ((nI k + 1).toNatClampNeg)) (X.2 ((nI k + 2).toNatClampNeg))
        obtain ⟨g', hg'⟩ := ih' g2 hR
        refine ⟨g', zseg_go (s' := (759, [.float 0, .ref 0, .ref 64, .int (nI k)], [], g)) (lc_19 z1 z2 ((LE_128 _ _).trans e1) ((LE_241 _ _).trans e2) hg') (lc_head.trans ?_)⟩
        rw [ekf, z0, c19]
        rfl
      by_cases c20 : X.2 ((nI k).toNatClampNeg) &&& 31 = 20
      · obtain ⟨v, g1, g2, e1, e2, hR⟩ := s_woods hG (X.2 ((nI k + 1).toNatClampNeg))
        obtain ⟨g', hg'⟩ := ih' g2 hR
        refine ⟨g', zseg_go (s' := (792, [.float 0, .ref 0, .ref 64, .int (nI k)], [], g)) (lc_20 z1 ((LE_129 _ _).trans e1) ((LE_232 _ _).trans e2) hg') (lc_head.trans ?_)⟩
        rw [ekf, z0, c20]
        rfl
      by_cases c21 : X.2 ((nI k).toNatClampNeg) &&& 31 = 21
      · obtain ⟨v, g1, g2, e1, e2, hR⟩ := s_seed hG (X.2 ((nI k + 1).toNatClampNeg))
        obtain ⟨g', hg'⟩ := ih' g2 hR
        refine ⟨g', zseg_go (s' := (815, [.float 0, .ref 0, .ref 64, .int (nI k)], [], g)) (lc_21 z1 ((LE_130 _ _).trans e1) ((LE_242 _ _).trans e2) hg') (lc_head.trans ?_)⟩
        rw [ekf, z0, c21]
        rfl
      by_cases c22 : X.2 ((nI k).toNatClampNeg) &&& 31 = 22
      · obtain ⟨v, g1, g2, e1, e2, hR⟩ := s_keep hG 
        obtain ⟨g', hg'⟩ := ih' g2 hR
        refine ⟨g', zseg_go (s' := (838, [.float 0, .ref 0, .ref 64, .int (nI k)], [], g)) (lc_22  ((LE_131 _ _).trans e1) ((LE_243 _ _).trans e2) hg') (lc_head.trans ?_)⟩
        rw [ekf, z0, c22]
        rfl
      by_cases c23 : X.2 ((nI k).toNatClampNeg) &&& 31 = 23
      · obtain ⟨v, g1, g2, e1, e2, hR⟩ := s_undo hG 
        obtain ⟨g', hg'⟩ := ih' g2 hR
        refine ⟨g', zseg_go (s' := (851, [.float 0, .ref 0, .ref 64, .int (nI k)], [], g)) (lc_23  ((LE_132 _ _).trans e1) ((LE_244 _ _).trans e2) hg') (lc_head.trans ?_)⟩
        rw [ekf, z0, c23]
        rfl
      by_cases c24 : X.2 ((nI k).toNatClampNeg) &&& 31 = 24
      · obtain ⟨v, g1, g2, e1, e2, hR⟩ := s_check hG (X.2 ((nI k + 1).toNatClampNeg))
        obtain ⟨g', hg'⟩ := ih' g2 hR
        refine ⟨g', zseg_go (s' := (864, [.float 0, .ref 0, .ref 64, .int (nI k)], [], g)) (lc_24 z1 ((LE_133 _ _).trans e1) ((LE_245 _ _).trans e2) hg') (lc_head.trans ?_)⟩
        rw [ekf, z0, c24]
        rfl
      by_cases c25 : X.2 ((nI k).toNatClampNeg) &&& 31 = 25
      · obtain ⟨v, g1, g2, e1, e2, hR⟩ := s_count hG (X.2 ((nI k + 1).toNatClampNeg))
        obtain ⟨g', hg'⟩ := ih' g2 hR
        refine ⟨g', zseg_go (s' := (887, [.float 0, .ref 0, .ref 64, .int (nI k)], [], g)) (lc_25 z1 ((LE_134 _ _).trans e1) ((LE_248 _ _).trans e2) hg') (lc_head.trans ?_)⟩
        rw [ekf, z0, c25]
        rfl
      obtain ⟨g', hg'⟩ := ih' g hG
      refine ⟨g', zseg_go (s' := (910, [.float 0, .ref 0, .ref 64, .int (nI k)], [], g)) (zseg_go (s' := (18, [.float 0, .ref 0, .ref 64, .int (nI k + 6)], [], g)) hg' lc_tail) (lc_head.trans ?_)⟩
      rw [ekf, z0, dF c0, dF c1, dF c2, dF c3, dF c4, dF c5, dF c6, dF c7, dF c8, dF c9, dF c10, dF c11, dF c12, dF c13, dF c14, dF c15, dF c16, dF c17, dF c18, dF c19, dF c20, dF c21, dF c22, dF c23, dF c24, dF c25]
      rfl
