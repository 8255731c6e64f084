set_option maxRecDepth 20000 in
theorem lc_head {X : Nat × (Nat → Int32)} {E : zTE} {g : zH2} {i : Int32} : zseg X zFT E zc_249 (fun p => Nat.beq p 18 || Nat.beq p 152 || Nat.beq p 215 || Nat.beq p 238 || Nat.beq p 261 || Nat.beq p 284 || Nat.beq p 307 || Nat.beq p 340 || Nat.beq p 383 || Nat.beq p 416 || Nat.beq p 459 || Nat.beq p 482 || Nat.beq p 515 || Nat.beq p 548 || Nat.beq p 581 || Nat.beq p 604 || Nat.beq p 627 || Nat.beq p 670 || Nat.beq p 693 || Nat.beq p 736 || Nat.beq p 759 || Nat.beq p 792 || Nat.beq p 815 || Nat.beq p 838 || Nat.beq p 851 || Nat.beq p 864 || Nat.beq p 887 || Nat.beq p 910) 40 18 [.float 0, .ref 0, .ref 64, .int i] [] g = (bif decide (Int32.ofNat X.1 - 6 < i) then some (.inr (some (.int 1), g)) else zg (zin i X.1) (bif decide (X.2 (i.toNatClampNeg) &&& 31 = 0) then some (.inl (152, [.float 0, .ref 0, .ref 64, .int i], [], g)) else bif decide (X.2 (i.toNatClampNeg) &&& 31 = 1) then some (.inl (215, [.float 0, .ref 0, .ref 64, .int i], [], g)) else bif decide (X.2 (i.toNatClampNeg) &&& 31 = 2) then some (.inl (238, [.float 0, .ref 0, .ref 64, .int i], [], g)) else bif decide (X.2 (i.toNatClampNeg) &&& 31 = 3) then some (.inl (261, [.float 0, .ref 0, .ref 64, .int i], [], g)) else bif decide (X.2 (i.toNatClampNeg) &&& 31 = 4) then some (.inl (284, [.float 0, .ref 0, .ref 64, .int i], [], g)) else bif decide (X.2 (i.toNatClampNeg) &&& 31 = 5) then some (.inl (307, [.float 0, .ref 0, .ref 64, .int i], [], g)) else bif decide (X.2 (i.toNatClampNeg) &&& 31 = 6) then some (.inl (340, [.float 0, .ref 0, .ref 64, .int i], [], g)) else bif decide (X.2 (i.toNatClampNeg) &&& 31 = 7) then some (.inl (383, [.float 0, .ref 0, .ref 64, .int i], [], g)) else bif decide (X.2 (i.toNatClampNeg) &&& 31 = 8) then some (.inl (416, [.float 0, .ref 0, .ref 64, .int i], [], g)) else bif decide (X.2 (i.toNatClampNeg) &&& 31 = 9) then some (.inl (459, [.float 0, .ref 0, .ref 64, .int i], [], g)) else bif decide (X.2 (i.toNatClampNeg) &&& 31 = 10) then some (.inl (482, [.float 0, .ref 0, .ref 64, .int i], [], g)) else bif decide (X.2 (i.toNatClampNeg) &&& 31 = 11) then some (.inl (515, [.float 0, .ref 0, .ref 64, .int i], [], g)) else bif decide (X.2 (i.toNatClampNeg) &&& 31 = 12) then some (.inl (548, [.float 0, .ref 0, .ref 64, .int i], [], g)) else bif decide (X.2 (i.toNatClampNeg) &&& 31 = 13) then some (.inl (581, [.float 0, .ref 0, .ref 64, .int i], [], g)) else bif decide (X.2 (i.toNatClampNeg) &&& 31 = 14) then some (.inl (604, [.float 0, .ref 0, .ref 64, .int i], [], g)) else bif decide (X.2 (i.toNatClampNeg) &&& 31 = 15) then some (.inl (627, [.float 0, .ref 0, .ref 64, .int i], [], g)) else bif decide (X.2 (i.toNatClampNeg) &&& 31 = 16) then some (.inl (670, [.float 0, .ref 0, .ref 64, .int i], [], g)) else bif decide (X.2 (i.toNatClampNeg) &&& 31 = 17) then some (.inl (693, [.float 0, .ref 0, .ref 64, .int i], [], g)) else bif decide (X.2 (i.toNatClampNeg) &&& 31 = 18) then some (.inl (736, [.float 0, .ref 0, .ref 64, .int i], [], g)) else bif decide (X.2 (i.toNatClampNeg) &&& 31 = 19) then some (.inl (759, [.float 0, .ref 0, .ref 64, .int i], [], g)) else bif decide (X.2 (i.toNatClampNeg) &&& 31 = 20) then some (.inl (792, [.float 0, .ref 0, .ref 64, .int i], [], g)) else bif decide (X.2 (i.toNatClampNeg) &&& 31 = 21) then some (.inl (815, [.float 0, .ref 0, .ref 64, .int i], [], g)) else bif decide (X.2 (i.toNatClampNeg) &&& 31 = 22) then some (.inl (838, [.float 0, .ref 0, .ref 64, .int i], [], g)) else bif decide (X.2 (i.toNatClampNeg) &&& 31 = 23) then some (.inl (851, [.float 0, .ref 0, .ref 64, .int i], [], g)) else bif decide (X.2 (i.toNatClampNeg) &&& 31 = 24) then some (.inl (864, [.float 0, .ref 0, .ref 64, .int i], [], g)) else bif decide (X.2 (i.toNatClampNeg) &&& 31 = 25) then some (.inl (887, [.float 0, .ref 0, .ref 64, .int i], [], g)) else some (.inl (910, [.float 0, .ref 0, .ref 64, .int i], [], g))) : Option ((Nat × List Value × List Value × zH2) ⊕ zO2)) := by with_unfolding_all rfl
set_option maxRecDepth 20000 in
theorem lc_tail {X : Nat × (Nat → Int32)} {E : zTE} {g : zH2} {i : Int32} : zseg X zFT E zc_249 (fun p => Nat.beq p 18) 40 910 [.float 0, .ref 0, .ref 64, .int i] [] g = (some (.inl (18, [.float 0, .ref 0, .ref 64, .int (i + 6)], [], g)) : Option ((Nat × List Value × List Value × zH2) ⊕ zO2)) := by with_unfolding_all rfl
set_option maxRecDepth 20000 in
theorem lc_a0 {X : Nat × (Nat → Int32)} {E : zTE} {g : zH2} {i : Int32} : zseg X zFT E zc_249 (fun p => Nat.beq p 181) 60 152 [.float 0, .ref 0, .ref 64, .int i] [] g = (zg (zin (i + 1) X.1) (zg (zin (i + 2) X.1) (zg (zin (i + 3) X.1) (zg (zin (i + 4) X.1) (zg (zin (i + 5) X.1) (ze2 (E 109 [.ref 0, .int (X.2 ((i + 1).toNatClampNeg)), .int (X.2 ((i + 2).toNatClampNeg)), .int (X.2 ((i + 3).toNatClampNeg)), .int (X.2 ((i + 4).toNatClampNeg)), .int (X.2 ((i + 5).toNatClampNeg))] g) (fun r g => some (.inl (181, [.float 0, .ref 0, .ref 64, .int i], r.toList ++ [], g)))))))) : Option ((Nat × List Value × List Value × zH2) ⊕ zO2)) := by with_unfolding_all rfl
set_option maxRecDepth 20000 in
theorem lc_b0 {X : Nat × (Nat → Int32)} {E : zTE} {g : zH2} {i v : Int32} : zseg X zFT E zc_249 (fun p => Nat.beq p 210) 60 181 [.float 0, .ref 0, .ref 64, .int i] [.int v] g = (zg (zin (i + 1) X.1) (zg (zin (i + 2) X.1) (zg (zin (i + 3) X.1) (zg (zin (i + 4) X.1) (zg (zin (i + 5) X.1) (ze2 (E 156 [.ref 64, .int (X.2 ((i + 1).toNatClampNeg)), .int (X.2 ((i + 2).toNatClampNeg)), .int (X.2 ((i + 3).toNatClampNeg)), .int (X.2 ((i + 4).toNatClampNeg)), .int (X.2 ((i + 5).toNatClampNeg))] g) (fun r g => some (.inl (210, [.float 0, .ref 0, .ref 64, .int i], r.toList ++ [.int v], g)))))))) : Option ((Nat × List Value × List Value × zH2) ⊕ zO2)) := by with_unfolding_all rfl
set_option maxRecDepth 20000 in
theorem lc_c0 {X : Nat × (Nat → Int32)} {E : zTE} {g : zH2} {i v w : Int32} : zseg X zFT E zc_249 (fun p => Nat.beq p 18) 60 210 [.float 0, .ref 0, .ref 64, .int i] [.int w, .int v] g = (bif decide (v = w) then some (.inl (18, [.float 0, .ref 0, .ref 64, .int (i + 6)], [], g)) else some (.inr (some (.int 0), g)) : Option ((Nat × List Value × List Value × zH2) ⊕ zO2)) := by with_unfolding_all rfl
theorem lc_0 {X : Nat × (Nat → Int32)} {E : zTE} {g g1 g2 : zH2} {i v : Int32} {o : zO2} (z1 : zin (i + 1) X.1 = true) (z2 : zin (i + 2) X.1 = true) (z3 : zin (i + 3) X.1 = true) (z4 : zin (i + 4) X.1 = true) (z5 : zin (i + 5) X.1 = true)
    (e1 : E 109 [.ref 0, .int (X.2 ((i + 1).toNatClampNeg)), .int (X.2 ((i + 2).toNatClampNeg)), .int (X.2 ((i + 3).toNatClampNeg)), .int (X.2 ((i + 4).toNatClampNeg)), .int (X.2 ((i + 5).toNatClampNeg))] g = some (true, (some (.int v), g1))) (e2 : E 156 [.ref 64, .int (X.2 ((i + 1).toNatClampNeg)), .int (X.2 ((i + 2).toNatClampNeg)), .int (X.2 ((i + 3).toNatClampNeg)), .int (X.2 ((i + 4).toNatClampNeg)), .int (X.2 ((i + 5).toNatClampNeg))] g1 = some (true, (some (.int v), g2)))
    (hR : zR2 X zFT E zc_249 18 [.float 0, .ref 0, .ref 64, .int (i + 6)] [] g2 o) : zR2 X zFT E zc_249 152 [.float 0, .ref 0, .ref 64, .int i] [] g o := by
  refine zseg_go (s' := (181, [.float 0, .ref 0, .ref 64, .int i], [.int v], g1)) ?_ (lc_a0.trans ?_)
  · refine zseg_go (s' := (210, [.float 0, .ref 0, .ref 64, .int i], [.int v, .int v], g2)) ?_ (lc_b0.trans ?_)
    · refine zseg_go (s' := (18, [.float 0, .ref 0, .ref 64, .int (i + 6)], [], g2)) hR (lc_c0.trans ?_)
      rw [decide_eq_true rfl]
      rfl
    · rw [e2, z1, z2, z3, z4, z5]
      rfl
  · rw [e1, z1, z2, z3, z4, z5]
    rfl
set_option maxRecDepth 20000 in
theorem lc_a1 {X : Nat × (Nat → Int32)} {E : zTE} {g : zH2} {i : Int32} : zseg X zFT E zc_249 (fun p => Nat.beq p 224) 60 215 [.float 0, .ref 0, .ref 64, .int i] [] g = (zg (zin (i + 1) X.1) (ze2 (E 110 [.ref 0, .int (X.2 ((i + 1).toNatClampNeg))] g) (fun r g => some (.inl (224, [.float 0, .ref 0, .ref 64, .int i], r.toList ++ [], g)))) : Option ((Nat × List Value × List Value × zH2) ⊕ zO2)) := by with_unfolding_all rfl
set_option maxRecDepth 20000 in
theorem lc_b1 {X : Nat × (Nat → Int32)} {E : zTE} {g : zH2} {i v : Int32} : zseg X zFT E zc_249 (fun p => Nat.beq p 233) 60 224 [.float 0, .ref 0, .ref 64, .int i] [.int v] g = (zg (zin (i + 1) X.1) (ze2 (E 179 [.ref 64, .int (X.2 ((i + 1).toNatClampNeg))] g) (fun r g => some (.inl (233, [.float 0, .ref 0, .ref 64, .int i], r.toList ++ [.int v], g)))) : Option ((Nat × List Value × List Value × zH2) ⊕ zO2)) := by with_unfolding_all rfl
set_option maxRecDepth 20000 in
theorem lc_c1 {X : Nat × (Nat → Int32)} {E : zTE} {g : zH2} {i v w : Int32} : zseg X zFT E zc_249 (fun p => Nat.beq p 18) 60 233 [.float 0, .ref 0, .ref 64, .int i] [.int w, .int v] g = (bif decide (v = w) then some (.inl (18, [.float 0, .ref 0, .ref 64, .int (i + 6)], [], g)) else some (.inr (some (.int 0), g)) : Option ((Nat × List Value × List Value × zH2) ⊕ zO2)) := by with_unfolding_all rfl
theorem lc_1 {X : Nat × (Nat → Int32)} {E : zTE} {g g1 g2 : zH2} {i v : Int32} {o : zO2} (z1 : zin (i + 1) X.1 = true)
    (e1 : E 110 [.ref 0, .int (X.2 ((i + 1).toNatClampNeg))] g = some (true, (some (.int v), g1))) (e2 : E 179 [.ref 64, .int (X.2 ((i + 1).toNatClampNeg))] g1 = some (true, (some (.int v), g2)))
    (hR : zR2 X zFT E zc_249 18 [.float 0, .ref 0, .ref 64, .int (i + 6)] [] g2 o) : zR2 X zFT E zc_249 215 [.float 0, .ref 0, .ref 64, .int i] [] g o := by
  refine zseg_go (s' := (224, [.float 0, .ref 0, .ref 64, .int i], [.int v], g1)) ?_ (lc_a1.trans ?_)
  · refine zseg_go (s' := (233, [.float 0, .ref 0, .ref 64, .int i], [.int v, .int v], g2)) ?_ (lc_b1.trans ?_)
    · refine zseg_go (s' := (18, [.float 0, .ref 0, .ref 64, .int (i + 6)], [], g2)) hR (lc_c1.trans ?_)
      rw [decide_eq_true rfl]
      rfl
    · rw [e2, z1]
      rfl
  · rw [e1, z1]
    rfl
set_option maxRecDepth 20000 in
theorem lc_a2 {X : Nat × (Nat → Int32)} {E : zTE} {g : zH2} {i : Int32} : zseg X zFT E zc_249 (fun p => Nat.beq p 247) 60 238 [.float 0, .ref 0, .ref 64, .int i] [] g = (zg (zin (i + 1) X.1) (ze2 (E 111 [.ref 0, .int (X.2 ((i + 1).toNatClampNeg))] g) (fun r g => some (.inl (247, [.float 0, .ref 0, .ref 64, .int i], r.toList ++ [], g)))) : Option ((Nat × List Value × List Value × zH2) ⊕ zO2)) := by with_unfolding_all rfl
set_option maxRecDepth 20000 in
theorem lc_b2 {X : Nat × (Nat → Int32)} {E : zTE} {g : zH2} {i v : Int32} : zseg X zFT E zc_249 (fun p => Nat.beq p 256) 60 247 [.float 0, .ref 0, .ref 64, .int i] [.int v] g = (zg (zin (i + 1) X.1) (ze2 (E 187 [.ref 64, .int (X.2 ((i + 1).toNatClampNeg))] g) (fun r g => some (.inl (256, [.float 0, .ref 0, .ref 64, .int i], r.toList ++ [.int v], g)))) : Option ((Nat × List Value × List Value × zH2) ⊕ zO2)) := by with_unfolding_all rfl
set_option maxRecDepth 20000 in
theorem lc_c2 {X : Nat × (Nat → Int32)} {E : zTE} {g : zH2} {i v w : Int32} : zseg X zFT E zc_249 (fun p => Nat.beq p 18) 60 256 [.float 0, .ref 0, .ref 64, .int i] [.int w, .int v] g = (bif decide (v = w) then some (.inl (18, [.float 0, .ref 0, .ref 64, .int (i + 6)], [], g)) else some (.inr (some (.int 0), g)) : Option ((Nat × List Value × List Value × zH2) ⊕ zO2)) := by with_unfolding_all rfl
theorem lc_2 {X : Nat × (Nat → Int32)} {E : zTE} {g g1 g2 : zH2} {i v : Int32} {o : zO2} (z1 : zin (i + 1) X.1 = true)
    (e1 : E 111 [.ref 0, .int (X.2 ((i + 1).toNatClampNeg))] g = some (true, (some (.int v), g1))) (e2 : E 187 [.ref 64, .int (X.2 ((i + 1).toNatClampNeg))] g1 = some (true, (some (.int v), g2)))
    (hR : zR2 X zFT E zc_249 18 [.float 0, .ref 0, .ref 64, .int (i + 6)] [] g2 o) : zR2 X zFT E zc_249 238 [.float 0, .ref 0, .ref 64, .int i] [] g o := by
  refine zseg_go (s' := (247, [.float 0, .ref 0, .ref 64, .int i], [.int v], g1)) ?_ (lc_a2.trans ?_)
  · refine zseg_go (s' := (256, [.float 0, .ref 0, .ref 64, .int i], [.int v, .int v], g2)) ?_ (lc_b2.trans ?_)
    · refine zseg_go (s' := (18, [.float 0, .ref 0, .ref 64, .int (i + 6)], [], g2)) hR (lc_c2.trans ?_)
      rw [decide_eq_true rfl]
      rfl
    · rw [e2, z1]
      rfl
  · rw [e1, z1]
    rfl
set_option maxRecDepth 20000 in
theorem lc_a3 {X : Nat × (Nat → Int32)} {E : zTE} {g : zH2} {i : Int32} : zseg X zFT E zc_249 (fun p => Nat.beq p 270) 60 261 [.float 0, .ref 0, .ref 64, .int i] [] g = (zg (zin (i + 1) X.1) (ze2 (E 112 [.ref 0, .int (X.2 ((i + 1).toNatClampNeg))] g) (fun r g => some (.inl (270, [.float 0, .ref 0, .ref 64, .int i], r.toList ++ [], g)))) : Option ((Nat × List Value × List Value × zH2) ⊕ zO2)) := by with_unfolding_all rfl
set_option maxRecDepth 20000 in
theorem lc_b3 {X : Nat × (Nat → Int32)} {E : zTE} {g : zH2} {i v : Int32} : zseg X zFT E zc_249 (fun p => Nat.beq p 279) 60 270 [.float 0, .ref 0, .ref 64, .int i] [.int v] g = (zg (zin (i + 1) X.1) (ze2 (E 196 [.ref 64, .int (X.2 ((i + 1).toNatClampNeg))] g) (fun r g => some (.inl (279, [.float 0, .ref 0, .ref 64, .int i], r.toList ++ [.int v], g)))) : Option ((Nat × List Value × List Value × zH2) ⊕ zO2)) := by with_unfolding_all rfl
set_option maxRecDepth 20000 in
theorem lc_c3 {X : Nat × (Nat → Int32)} {E : zTE} {g : zH2} {i v w : Int32} : zseg X zFT E zc_249 (fun p => Nat.beq p 18) 60 279 [.float 0, .ref 0, .ref 64, .int i] [.int w, .int v] g = (bif decide (v = w) then some (.inl (18, [.float 0, .ref 0, .ref 64, .int (i + 6)], [], g)) else some (.inr (some (.int 0), g)) : Option ((Nat × List Value × List Value × zH2) ⊕ zO2)) := by with_unfolding_all rfl
theorem lc_3 {X : Nat × (Nat → Int32)} {E : zTE} {g g1 g2 : zH2} {i v : Int32} {o : zO2} (z1 : zin (i + 1) X.1 = true)
    (e1 : E 112 [.ref 0, .int (X.2 ((i + 1).toNatClampNeg))] g = some (true, (some (.int v), g1))) (e2 : E 196 [.ref 64, .int (X.2 ((i + 1).toNatClampNeg))] g1 = some (true, (some (.int v), g2)))
    (hR : zR2 X zFT E zc_249 18 [.float 0, .ref 0, .ref 64, .int (i + 6)] [] g2 o) : zR2 X zFT E zc_249 261 [.float 0, .ref 0, .ref 64, .int i] [] g o := by
  refine zseg_go (s' := (270, [.float 0, .ref 0, .ref 64, .int i], [.int v], g1)) ?_ (lc_a3.trans ?_)
  · refine zseg_go (s' := (279, [.float 0, .ref 0, .ref 64, .int i], [.int v, .int v], g2)) ?_ (lc_b3.trans ?_)
    · refine zseg_go (s' := (18, [.float 0, .ref 0, .ref 64, .int (i + 6)], [], g2)) hR (lc_c3.trans ?_)
      rw [decide_eq_true rfl]
      rfl
    · rw [e2, z1]
      rfl
  · rw [e1, z1]
    rfl
set_option maxRecDepth 20000 in
theorem lc_a4 {X : Nat × (Nat → Int32)} {E : zTE} {g : zH2} {i : Int32} : zseg X zFT E zc_249 (fun p => Nat.beq p 293) 60 284 [.float 0, .ref 0, .ref 64, .int i] [] g = (zg (zin (i + 1) X.1) (ze2 (E 113 [.ref 0, .int (X.2 ((i + 1).toNatClampNeg))] g) (fun r g => some (.inl (293, [.float 0, .ref 0, .ref 64, .int i], r.toList ++ [], g)))) : Option ((Nat × List Value × List Value × zH2) ⊕ zO2)) := by with_unfolding_all rfl
set_option maxRecDepth 20000 in
theorem lc_b4 {X : Nat × (Nat → Int32)} {E : zTE} {g : zH2} {i v : Int32} : zseg X zFT E zc_249 (fun p => Nat.beq p 302) 60 293 [.float 0, .ref 0, .ref 64, .int i] [.int v] g = (zg (zin (i + 1) X.1) (ze2 (E 208 [.ref 64, .int (X.2 ((i + 1).toNatClampNeg))] g) (fun r g => some (.inl (302, [.float 0, .ref 0, .ref 64, .int i], r.toList ++ [.int v], g)))) : Option ((Nat × List Value × List Value × zH2) ⊕ zO2)) := by with_unfolding_all rfl
set_option maxRecDepth 20000 in
theorem lc_c4 {X : Nat × (Nat → Int32)} {E : zTE} {g : zH2} {i v w : Int32} : zseg X zFT E zc_249 (fun p => Nat.beq p 18) 60 302 [.float 0, .ref 0, .ref 64, .int i] [.int w, .int v] g = (bif decide (v = w) then some (.inl (18, [.float 0, .ref 0, .ref 64, .int (i + 6)], [], g)) else some (.inr (some (.int 0), g)) : Option ((Nat × List Value × List Value × zH2) ⊕ zO2)) := by with_unfolding_all rfl
theorem lc_4 {X : Nat × (Nat → Int32)} {E : zTE} {g g1 g2 : zH2} {i v : Int32} {o : zO2} (z1 : zin (i + 1) X.1 = true)
    (e1 : E 113 [.ref 0, .int (X.2 ((i + 1).toNatClampNeg))] g = some (true, (some (.int v), g1))) (e2 : E 208 [.ref 64, .int (X.2 ((i + 1).toNatClampNeg))] g1 = some (true, (some (.int v), g2)))
    (hR : zR2 X zFT E zc_249 18 [.float 0, .ref 0, .ref 64, .int (i + 6)] [] g2 o) : zR2 X zFT E zc_249 284 [.float 0, .ref 0, .ref 64, .int i] [] g o := by
  refine zseg_go (s' := (293, [.float 0, .ref 0, .ref 64, .int i], [.int v], g1)) ?_ (lc_a4.trans ?_)
  · refine zseg_go (s' := (302, [.float 0, .ref 0, .ref 64, .int i], [.int v, .int v], g2)) ?_ (lc_b4.trans ?_)
    · refine zseg_go (s' := (18, [.float 0, .ref 0, .ref 64, .int (i + 6)], [], g2)) hR (lc_c4.trans ?_)
      rw [decide_eq_true rfl]
      rfl
    · rw [e2, z1]
      rfl
  · rw [e1, z1]
    rfl
set_option maxRecDepth 20000 in
theorem lc_a5 {X : Nat × (Nat → Int32)} {E : zTE} {g : zH2} {i : Int32} : zseg X zFT E zc_249 (fun p => Nat.beq p 321) 60 307 [.float 0, .ref 0, .ref 64, .int i] [] g = (zg (zin (i + 1) X.1) (zg (zin (i + 2) X.1) (ze2 (E 114 [.ref 0, .int (X.2 ((i + 1).toNatClampNeg)), .int (X.2 ((i + 2).toNatClampNeg))] g) (fun r g => some (.inl (321, [.float 0, .ref 0, .ref 64, .int i], r.toList ++ [], g))))) : Option ((Nat × List Value × List Value × zH2) ⊕ zO2)) := by with_unfolding_all rfl
set_option maxRecDepth 20000 in
theorem lc_b5 {X : Nat × (Nat → Int32)} {E : zTE} {g : zH2} {i v : Int32} : zseg X zFT E zc_249 (fun p => Nat.beq p 335) 60 321 [.float 0, .ref 0, .ref 64, .int i] [.int v] g = (zg (zin (i + 1) X.1) (zg (zin (i + 2) X.1) (ze2 (E 211 [.ref 64, .int (X.2 ((i + 1).toNatClampNeg)), .int (X.2 ((i + 2).toNatClampNeg))] g) (fun r g => some (.inl (335, [.float 0, .ref 0, .ref 64, .int i], r.toList ++ [.int v], g))))) : Option ((Nat × List Value × List Value × zH2) ⊕ zO2)) := by with_unfolding_all rfl
set_option maxRecDepth 20000 in
theorem lc_c5 {X : Nat × (Nat → Int32)} {E : zTE} {g : zH2} {i v w : Int32} : zseg X zFT E zc_249 (fun p => Nat.beq p 18) 60 335 [.float 0, .ref 0, .ref 64, .int i] [.int w, .int v] g = (bif decide (v = w) then some (.inl (18, [.float 0, .ref 0, .ref 64, .int (i + 6)], [], g)) else some (.inr (some (.int 0), g)) : Option ((Nat × List Value × List Value × zH2) ⊕ zO2)) := by with_unfolding_all rfl
theorem lc_5 {X : Nat × (Nat → Int32)} {E : zTE} {g g1 g2 : zH2} {i v : Int32} {o : zO2} (z1 : zin (i + 1) X.1 = true) (z2 : zin (i + 2) X.1 = true)
    (e1 : E 114 [.ref 0, .int (X.2 ((i + 1).toNatClampNeg)), .int (X.2 ((i + 2).toNatClampNeg))] g = some (true, (some (.int v), g1))) (e2 : E 211 [.ref 64, .int (X.2 ((i + 1).toNatClampNeg)), .int (X.2 ((i + 2).toNatClampNeg))] g1 = some (true, (some (.int v), g2)))
    (hR : zR2 X zFT E zc_249 18 [.float 0, .ref 0, .ref 64, .int (i + 6)] [] g2 o) : zR2 X zFT E zc_249 307 [.float 0, .ref 0, .ref 64, .int i] [] g o := by
  refine zseg_go (s' := (321, [.float 0, .ref 0, .ref 64, .int i], [.int v], g1)) ?_ (lc_a5.trans ?_)
  · refine zseg_go (s' := (335, [.float 0, .ref 0, .ref 64, .int i], [.int v, .int v], g2)) ?_ (lc_b5.trans ?_)
    · refine zseg_go (s' := (18, [.float 0, .ref 0, .ref 64, .int (i + 6)], [], g2)) hR (lc_c5.trans ?_)
      rw [decide_eq_true rfl]
      rfl
    · rw [e2, z1, z2]
      rfl
  · rw [e1, z1, z2]
    rfl
set_option maxRecDepth 20000 in
theorem lc_a6 {X : Nat × (Nat → Int32)} {E : zTE} {g : zH2} {i : Int32} : zseg X zFT E zc_249 (fun p => Nat.beq p 359) 60 340 [.float 0, .ref 0, .ref 64, .int i] [] g = (zg (zin (i + 1) X.1) (zg (zin (i + 2) X.1) (zg (zin (i + 3) X.1) (ze2 (E 115 [.ref 0, .int (X.2 ((i + 1).toNatClampNeg)), .int (X.2 ((i + 2).toNatClampNeg)), .int (X.2 ((i + 3).toNatClampNeg))] g) (fun r g => some (.inl (359, [.float 0, .ref 0, .ref 64, .int i], r.toList ++ [], g)))))) : Option ((Nat × List Value × List Value × zH2) ⊕ zO2)) := by with_unfolding_all rfl
set_option maxRecDepth 20000 in
theorem lc_b6 {X : Nat × (Nat → Int32)} {E : zTE} {g : zH2} {i v : Int32} : zseg X zFT E zc_249 (fun p => Nat.beq p 378) 60 359 [.float 0, .ref 0, .ref 64, .int i] [.int v] g = (zg (zin (i + 1) X.1) (zg (zin (i + 2) X.1) (zg (zin (i + 3) X.1) (ze2 (E 213 [.ref 64, .int (X.2 ((i + 1).toNatClampNeg)), .int (X.2 ((i + 2).toNatClampNeg)), .int (X.2 ((i + 3).toNatClampNeg))] g) (fun r g => some (.inl (378, [.float 0, .ref 0, .ref 64, .int i], r.toList ++ [.int v], g)))))) : Option ((Nat × List Value × List Value × zH2) ⊕ zO2)) := by with_unfolding_all rfl
set_option maxRecDepth 20000 in
theorem lc_c6 {X : Nat × (Nat → Int32)} {E : zTE} {g : zH2} {i v w : Int32} : zseg X zFT E zc_249 (fun p => Nat.beq p 18) 60 378 [.float 0, .ref 0, .ref 64, .int i] [.int w, .int v] g = (bif decide (v = w) then some (.inl (18, [.float 0, .ref 0, .ref 64, .int (i + 6)], [], g)) else some (.inr (some (.int 0), g)) : Option ((Nat × List Value × List Value × zH2) ⊕ zO2)) := by with_unfolding_all rfl
theorem lc_6 {X : Nat × (Nat → Int32)} {E : zTE} {g g1 g2 : zH2} {i v : Int32} {o : zO2} (z1 : zin (i + 1) X.1 = true) (z2 : zin (i + 2) X.1 = true) (z3 : zin (i + 3) X.1 = true)
    (e1 : E 115 [.ref 0, .int (X.2 ((i + 1).toNatClampNeg)), .int (X.2 ((i + 2).toNatClampNeg)), .int (X.2 ((i + 3).toNatClampNeg))] g = some (true, (some (.int v), g1))) (e2 : E 213 [.ref 64, .int (X.2 ((i + 1).toNatClampNeg)), .int (X.2 ((i + 2).toNatClampNeg)), .int (X.2 ((i + 3).toNatClampNeg))] g1 = some (true, (some (.int v), g2)))
    (hR : zR2 X zFT E zc_249 18 [.float 0, .ref 0, .ref 64, .int (i + 6)] [] g2 o) : zR2 X zFT E zc_249 340 [.float 0, .ref 0, .ref 64, .int i] [] g o := by
  refine zseg_go (s' := (359, [.float 0, .ref 0, .ref 64, .int i], [.int v], g1)) ?_ (lc_a6.trans ?_)
  · refine zseg_go (s' := (378, [.float 0, .ref 0, .ref 64, .int i], [.int v, .int v], g2)) ?_ (lc_b6.trans ?_)
    · refine zseg_go (s' := (18, [.float 0, .ref 0, .ref 64, .int (i + 6)], [], g2)) hR (lc_c6.trans ?_)
      rw [decide_eq_true rfl]
      rfl
    · rw [e2, z1, z2, z3]
      rfl
  · rw [e1, z1, z2, z3]
    rfl
set_option maxRecDepth 20000 in
theorem lc_a7 {X : Nat × (Nat → Int32)} {E : zTE} {g : zH2} {i : Int32} : zseg X zFT E zc_249 (fun p => Nat.beq p 397) 60 383 [.float 0, .ref 0, .ref 64, .int i] [] g = (zg (zin (i + 1) X.1) (zg (zin (i + 2) X.1) (ze2 (E 116 [.ref 0, .int (X.2 ((i + 1).toNatClampNeg)), .int (X.2 ((i + 2).toNatClampNeg))] g) (fun r g => some (.inl (397, [.float 0, .ref 0, .ref 64, .int i], r.toList ++ [], g))))) : Option ((Nat × List Value × List Value × zH2) ⊕ zO2)) := by with_unfolding_all rfl
set_option maxRecDepth 20000 in
theorem lc_b7 {X : Nat × (Nat → Int32)} {E : zTE} {g : zH2} {i v : Int32} : zseg X zFT E zc_249 (fun p => Nat.beq p 411) 60 397 [.float 0, .ref 0, .ref 64, .int i] [.int v] g = (zg (zin (i + 1) X.1) (zg (zin (i + 2) X.1) (ze2 (E 214 [.ref 64, .int (X.2 ((i + 1).toNatClampNeg)), .int (X.2 ((i + 2).toNatClampNeg))] g) (fun r g => some (.inl (411, [.float 0, .ref 0, .ref 64, .int i], r.toList ++ [.int v], g))))) : Option ((Nat × List Value × List Value × zH2) ⊕ zO2)) := by with_unfolding_all rfl
set_option maxRecDepth 20000 in
theorem lc_c7 {X : Nat × (Nat → Int32)} {E : zTE} {g : zH2} {i v w : Int32} : zseg X zFT E zc_249 (fun p => Nat.beq p 18) 60 411 [.float 0, .ref 0, .ref 64, .int i] [.int w, .int v] g = (bif decide (v = w) then some (.inl (18, [.float 0, .ref 0, .ref 64, .int (i + 6)], [], g)) else some (.inr (some (.int 0), g)) : Option ((Nat × List Value × List Value × zH2) ⊕ zO2)) := by with_unfolding_all rfl
theorem lc_7 {X : Nat × (Nat → Int32)} {E : zTE} {g g1 g2 : zH2} {i v : Int32} {o : zO2} (z1 : zin (i + 1) X.1 = true) (z2 : zin (i + 2) X.1 = true)
    (e1 : E 116 [.ref 0, .int (X.2 ((i + 1).toNatClampNeg)), .int (X.2 ((i + 2).toNatClampNeg))] g = some (true, (some (.int v), g1))) (e2 : E 214 [.ref 64, .int (X.2 ((i + 1).toNatClampNeg)), .int (X.2 ((i + 2).toNatClampNeg))] g1 = some (true, (some (.int v), g2)))
    (hR : zR2 X zFT E zc_249 18 [.float 0, .ref 0, .ref 64, .int (i + 6)] [] g2 o) : zR2 X zFT E zc_249 383 [.float 0, .ref 0, .ref 64, .int i] [] g o := by
  refine zseg_go (s' := (397, [.float 0, .ref 0, .ref 64, .int i], [.int v], g1)) ?_ (lc_a7.trans ?_)
  · refine zseg_go (s' := (411, [.float 0, .ref 0, .ref 64, .int i], [.int v, .int v], g2)) ?_ (lc_b7.trans ?_)
    · refine zseg_go (s' := (18, [.float 0, .ref 0, .ref 64, .int (i + 6)], [], g2)) hR (lc_c7.trans ?_)
      rw [decide_eq_true rfl]
      rfl
    · rw [e2, z1, z2]
      rfl
  · rw [e1, z1, z2]
    rfl
set_option maxRecDepth 20000 in
theorem lc_a8 {X : Nat × (Nat → Int32)} {E : zTE} {g : zH2} {i : Int32} : zseg X zFT E zc_249 (fun p => Nat.beq p 435) 60 416 [.float 0, .ref 0, .ref 64, .int i] [] g = (zg (zin (i + 1) X.1) (zg (zin (i + 2) X.1) (zg (zin (i + 3) X.1) (ze2 (E 117 [.ref 0, .int (X.2 ((i + 1).toNatClampNeg)), .int (X.2 ((i + 2).toNatClampNeg)), .int (X.2 ((i + 3).toNatClampNeg))] g) (fun r g => some (.inl (435, [.float 0, .ref 0, .ref 64, .int i], r.toList ++ [], g)))))) : Option ((Nat × List Value × List Value × zH2) ⊕ zO2)) := by with_unfolding_all rfl
set_option maxRecDepth 20000 in
theorem lc_b8 {X : Nat × (Nat → Int32)} {E : zTE} {g : zH2} {i v : Int32} : zseg X zFT E zc_249 (fun p => Nat.beq p 454) 60 435 [.float 0, .ref 0, .ref 64, .int i] [.int v] g = (zg (zin (i + 1) X.1) (zg (zin (i + 2) X.1) (zg (zin (i + 3) X.1) (ze2 (E 215 [.ref 64, .int (X.2 ((i + 1).toNatClampNeg)), .int (X.2 ((i + 2).toNatClampNeg)), .int (X.2 ((i + 3).toNatClampNeg))] g) (fun r g => some (.inl (454, [.float 0, .ref 0, .ref 64, .int i], r.toList ++ [.int v], g)))))) : Option ((Nat × List Value × List Value × zH2) ⊕ zO2)) := by with_unfolding_all rfl
set_option maxRecDepth 20000 in
theorem lc_c8 {X : Nat × (Nat → Int32)} {E : zTE} {g : zH2} {i v w : Int32} : zseg X zFT E zc_249 (fun p => Nat.beq p 18) 60 454 [.float 0, .ref 0, .ref 64, .int i] [.int w, .int v] g = (bif decide (v = w) then some (.inl (18, [.float 0, .ref 0, .ref 64, .int (i + 6)], [], g)) else some (.inr (some (.int 0), g)) : Option ((Nat × List Value × List Value × zH2) ⊕ zO2)) := by with_unfolding_all rfl
theorem lc_8 {X : Nat × (Nat → Int32)} {E : zTE} {g g1 g2 : zH2} {i v : Int32} {o : zO2} (z1 : zin (i + 1) X.1 = true) (z2 : zin (i + 2) X.1 = true) (z3 : zin (i + 3) X.1 = true)
    (e1 : E 117 [.ref 0, .int (X.2 ((i + 1).toNatClampNeg)), .int (X.2 ((i + 2).toNatClampNeg)), .int (X.2 ((i + 3).toNatClampNeg))] g = some (true, (some (.int v), g1))) (e2 : E 215 [.ref 64, .int (X.2 ((i + 1).toNatClampNeg)), .int (X.2 ((i + 2).toNatClampNeg)), .int (X.2 ((i + 3).toNatClampNeg))] g1 = some (true, (some (.int v), g2)))
    (hR : zR2 X zFT E zc_249 18 [.float 0, .ref 0, .ref 64, .int (i + 6)] [] g2 o) : zR2 X zFT E zc_249 416 [.float 0, .ref 0, .ref 64, .int i] [] g o := by
  refine zseg_go (s' := (435, [.float 0, .ref 0, .ref 64, .int i], [.int v], g1)) ?_ (lc_a8.trans ?_)
  · refine zseg_go (s' := (454, [.float 0, .ref 0, .ref 64, .int i], [.int v, .int v], g2)) ?_ (lc_b8.trans ?_)
    · refine zseg_go (s' := (18, [.float 0, .ref 0, .ref 64, .int (i + 6)], [], g2)) hR (lc_c8.trans ?_)
      rw [decide_eq_true rfl]
      rfl
    · rw [e2, z1, z2, z3]
      rfl
  · rw [e1, z1, z2, z3]
    rfl
set_option maxRecDepth 20000 in
theorem lc_a9 {X : Nat × (Nat → Int32)} {E : zTE} {g : zH2} {i : Int32} : zseg X zFT E zc_249 (fun p => Nat.beq p 468) 60 459 [.float 0, .ref 0, .ref 64, .int i] [] g = (zg (zin (i + 1) X.1) (ze2 (E 118 [.ref 0, .int (X.2 ((i + 1).toNatClampNeg))] g) (fun r g => some (.inl (468, [.float 0, .ref 0, .ref 64, .int i], r.toList ++ [], g)))) : Option ((Nat × List Value × List Value × zH2) ⊕ zO2)) := by with_unfolding_all rfl
set_option maxRecDepth 20000 in
theorem lc_b9 {X : Nat × (Nat → Int32)} {E : zTE} {g : zH2} {i v : Int32} : zseg X zFT E zc_249 (fun p => Nat.beq p 477) 60 468 [.float 0, .ref 0, .ref 64, .int i] [.int v] g = (zg (zin (i + 1) X.1) (ze2 (E 216 [.ref 64, .int (X.2 ((i + 1).toNatClampNeg))] g) (fun r g => some (.inl (477, [.float 0, .ref 0, .ref 64, .int i], r.toList ++ [.int v], g)))) : Option ((Nat × List Value × List Value × zH2) ⊕ zO2)) := by with_unfolding_all rfl
set_option maxRecDepth 20000 in
theorem lc_c9 {X : Nat × (Nat → Int32)} {E : zTE} {g : zH2} {i v w : Int32} : zseg X zFT E zc_249 (fun p => Nat.beq p 18) 60 477 [.float 0, .ref 0, .ref 64, .int i] [.int w, .int v] g = (bif decide (v = w) then some (.inl (18, [.float 0, .ref 0, .ref 64, .int (i + 6)], [], g)) else some (.inr (some (.int 0), g)) : Option ((Nat × List Value × List Value × zH2) ⊕ zO2)) := by with_unfolding_all rfl
theorem lc_9 {X : Nat × (Nat → Int32)} {E : zTE} {g g1 g2 : zH2} {i v : Int32} {o : zO2} (z1 : zin (i + 1) X.1 = true)
    (e1 : E 118 [.ref 0, .int (X.2 ((i + 1).toNatClampNeg))] g = some (true, (some (.int v), g1))) (e2 : E 216 [.ref 64, .int (X.2 ((i + 1).toNatClampNeg))] g1 = some (true, (some (.int v), g2)))
    (hR : zR2 X zFT E zc_249 18 [.float 0, .ref 0, .ref 64, .int (i + 6)] [] g2 o) : zR2 X zFT E zc_249 459 [.float 0, .ref 0, .ref 64, .int i] [] g o := by
  refine zseg_go (s' := (468, [.float 0, .ref 0, .ref 64, .int i], [.int v], g1)) ?_ (lc_a9.trans ?_)
  · refine zseg_go (s' := (477, [.float 0, .ref 0, .ref 64, .int i], [.int v, .int v], g2)) ?_ (lc_b9.trans ?_)
    · refine zseg_go (s' := (18, [.float 0, .ref 0, .ref 64, .int (i + 6)], [], g2)) hR (lc_c9.trans ?_)
      rw [decide_eq_true rfl]
      rfl
    · rw [e2, z1]
      rfl
  · rw [e1, z1]
    rfl
set_option maxRecDepth 20000 in
theorem lc_a10 {X : Nat × (Nat → Int32)} {E : zTE} {g : zH2} {i : Int32} : zseg X zFT E zc_249 (fun p => Nat.beq p 496) 60 482 [.float 0, .ref 0, .ref 64, .int i] [] g = (zg (zin (i + 1) X.1) (zg (zin (i + 2) X.1) (ze2 (E 119 [.ref 0, .int (X.2 ((i + 1).toNatClampNeg)), .int (X.2 ((i + 2).toNatClampNeg))] g) (fun r g => some (.inl (496, [.float 0, .ref 0, .ref 64, .int i], r.toList ++ [], g))))) : Option ((Nat × List Value × List Value × zH2) ⊕ zO2)) := by with_unfolding_all rfl
set_option maxRecDepth 20000 in
theorem lc_b10 {X : Nat × (Nat → Int32)} {E : zTE} {g : zH2} {i v : Int32} : zseg X zFT E zc_249 (fun p => Nat.beq p 510) 60 496 [.float 0, .ref 0, .ref 64, .int i] [.int v] g = (zg (zin (i + 1) X.1) (zg (zin (i + 2) X.1) (ze2 (E 221 [.ref 64, .int (X.2 ((i + 1).toNatClampNeg)), .int (X.2 ((i + 2).toNatClampNeg))] g) (fun r g => some (.inl (510, [.float 0, .ref 0, .ref 64, .int i], r.toList ++ [.int v], g))))) : Option ((Nat × List Value × List Value × zH2) ⊕ zO2)) := by with_unfolding_all rfl
set_option maxRecDepth 20000 in
theorem lc_c10 {X : Nat × (Nat → Int32)} {E : zTE} {g : zH2} {i v w : Int32} : zseg X zFT E zc_249 (fun p => Nat.beq p 18) 60 510 [.float 0, .ref 0, .ref 64, .int i] [.int w, .int v] g = (bif decide (v = w) then some (.inl (18, [.float 0, .ref 0, .ref 64, .int (i + 6)], [], g)) else some (.inr (some (.int 0), g)) : Option ((Nat × List Value × List Value × zH2) ⊕ zO2)) := by with_unfolding_all rfl
theorem lc_10 {X : Nat × (Nat → Int32)} {E : zTE} {g g1 g2 : zH2} {i v : Int32} {o : zO2} (z1 : zin (i + 1) X.1 = true) (z2 : zin (i + 2) X.1 = true)
    (e1 : E 119 [.ref 0, .int (X.2 ((i + 1).toNatClampNeg)), .int (X.2 ((i + 2).toNatClampNeg))] g = some (true, (some (.int v), g1))) (e2 : E 221 [.ref 64, .int (X.2 ((i + 1).toNatClampNeg)), .int (X.2 ((i + 2).toNatClampNeg))] g1 = some (true, (some (.int v), g2)))
    (hR : zR2 X zFT E zc_249 18 [.float 0, .ref 0, .ref 64, .int (i + 6)] [] g2 o) : zR2 X zFT E zc_249 482 [.float 0, .ref 0, .ref 64, .int i] [] g o := by
  refine zseg_go (s' := (496, [.float 0, .ref 0, .ref 64, .int i], [.int v], g1)) ?_ (lc_a10.trans ?_)
  · refine zseg_go (s' := (510, [.float 0, .ref 0, .ref 64, .int i], [.int v, .int v], g2)) ?_ (lc_b10.trans ?_)
    · refine zseg_go (s' := (18, [.float 0, .ref 0, .ref 64, .int (i + 6)], [], g2)) hR (lc_c10.trans ?_)
      rw [decide_eq_true rfl]
      rfl
    · rw [e2, z1, z2]
      rfl
  · rw [e1, z1, z2]
    rfl
set_option maxRecDepth 20000 in
theorem lc_a11 {X : Nat × (Nat → Int32)} {E : zTE} {g : zH2} {i : Int32} : zseg X zFT E zc_249 (fun p => Nat.beq p 529) 60 515 [.float 0, .ref 0, .ref 64, .int i] [] g = (zg (zin (i + 1) X.1) (zg (zin (i + 2) X.1) (ze2 (E 120 [.ref 0, .int (X.2 ((i + 1).toNatClampNeg)), .int (X.2 ((i + 2).toNatClampNeg))] g) (fun r g => some (.inl (529, [.float 0, .ref 0, .ref 64, .int i], r.toList ++ [], g))))) : Option ((Nat × List Value × List Value × zH2) ⊕ zO2)) := by with_unfolding_all rfl
set_option maxRecDepth 20000 in
theorem lc_b11 {X : Nat × (Nat → Int32)} {E : zTE} {g : zH2} {i v : Int32} : zseg X zFT E zc_249 (fun p => Nat.beq p 543) 60 529 [.float 0, .ref 0, .ref 64, .int i] [.int v] g = (zg (zin (i + 1) X.1) (zg (zin (i + 2) X.1) (ze2 (E 223 [.ref 64, .int (X.2 ((i + 1).toNatClampNeg)), .int (X.2 ((i + 2).toNatClampNeg))] g) (fun r g => some (.inl (543, [.float 0, .ref 0, .ref 64, .int i], r.toList ++ [.int v], g))))) : Option ((Nat × List Value × List Value × zH2) ⊕ zO2)) := by with_unfolding_all rfl
set_option maxRecDepth 20000 in
theorem lc_c11 {X : Nat × (Nat → Int32)} {E : zTE} {g : zH2} {i v w : Int32} : zseg X zFT E zc_249 (fun p => Nat.beq p 18) 60 543 [.float 0, .ref 0, .ref 64, .int i] [.int w, .int v] g = (bif decide (v = w) then some (.inl (18, [.float 0, .ref 0, .ref 64, .int (i + 6)], [], g)) else some (.inr (some (.int 0), g)) : Option ((Nat × List Value × List Value × zH2) ⊕ zO2)) := by with_unfolding_all rfl
theorem lc_11 {X : Nat × (Nat → Int32)} {E : zTE} {g g1 g2 : zH2} {i v : Int32} {o : zO2} (z1 : zin (i + 1) X.1 = true) (z2 : zin (i + 2) X.1 = true)
    (e1 : E 120 [.ref 0, .int (X.2 ((i + 1).toNatClampNeg)), .int (X.2 ((i + 2).toNatClampNeg))] g = some (true, (some (.int v), g1))) (e2 : E 223 [.ref 64, .int (X.2 ((i + 1).toNatClampNeg)), .int (X.2 ((i + 2).toNatClampNeg))] g1 = some (true, (some (.int v), g2)))
    (hR : zR2 X zFT E zc_249 18 [.float 0, .ref 0, .ref 64, .int (i + 6)] [] g2 o) : zR2 X zFT E zc_249 515 [.float 0, .ref 0, .ref 64, .int i] [] g o := by
  refine zseg_go (s' := (529, [.float 0, .ref 0, .ref 64, .int i], [.int v], g1)) ?_ (lc_a11.trans ?_)
  · refine zseg_go (s' := (543, [.float 0, .ref 0, .ref 64, .int i], [.int v, .int v], g2)) ?_ (lc_b11.trans ?_)
    · refine zseg_go (s' := (18, [.float 0, .ref 0, .ref 64, .int (i + 6)], [], g2)) hR (lc_c11.trans ?_)
      rw [decide_eq_true rfl]
      rfl
    · rw [e2, z1, z2]
      rfl
  · rw [e1, z1, z2]
    rfl
set_option maxRecDepth 20000 in
theorem lc_a12 {X : Nat × (Nat → Int32)} {E : zTE} {g : zH2} {i : Int32} : zseg X zFT E zc_249 (fun p => Nat.beq p 562) 60 548 [.float 0, .ref 0, .ref 64, .int i] [] g = (zg (zin (i + 1) X.1) (zg (zin (i + 2) X.1) (ze2 (E 121 [.ref 0, .int (X.2 ((i + 1).toNatClampNeg)), .int (X.2 ((i + 2).toNatClampNeg))] g) (fun r g => some (.inl (562, [.float 0, .ref 0, .ref 64, .int i], r.toList ++ [], g))))) : Option ((Nat × List Value × List Value × zH2) ⊕ zO2)) := by with_unfolding_all rfl
set_option maxRecDepth 20000 in
theorem lc_b12 {X : Nat × (Nat → Int32)} {E : zTE} {g : zH2} {i v : Int32} : zseg X zFT E zc_249 (fun p => Nat.beq p 576) 60 562 [.float 0, .ref 0, .ref 64, .int i] [.int v] g = (zg (zin (i + 1) X.1) (zg (zin (i + 2) X.1) (ze2 (E 228 [.ref 64, .int (X.2 ((i + 1).toNatClampNeg)), .int (X.2 ((i + 2).toNatClampNeg))] g) (fun r g => some (.inl (576, [.float 0, .ref 0, .ref 64, .int i], r.toList ++ [.int v], g))))) : Option ((Nat × List Value × List Value × zH2) ⊕ zO2)) := by with_unfolding_all rfl
set_option maxRecDepth 20000 in
theorem lc_c12 {X : Nat × (Nat → Int32)} {E : zTE} {g : zH2} {i v w : Int32} : zseg X zFT E zc_249 (fun p => Nat.beq p 18) 60 576 [.float 0, .ref 0, .ref 64, .int i] [.int w, .int v] g = (bif decide (v = w) then some (.inl (18, [.float 0, .ref 0, .ref 64, .int (i + 6)], [], g)) else some (.inr (some (.int 0), g)) : Option ((Nat × List Value × List Value × zH2) ⊕ zO2)) := by with_unfolding_all rfl
theorem lc_12 {X : Nat × (Nat → Int32)} {E : zTE} {g g1 g2 : zH2} {i v : Int32} {o : zO2} (z1 : zin (i + 1) X.1 = true) (z2 : zin (i + 2) X.1 = true)
    (e1 : E 121 [.ref 0, .int (X.2 ((i + 1).toNatClampNeg)), .int (X.2 ((i + 2).toNatClampNeg))] g = some (true, (some (.int v), g1))) (e2 : E 228 [.ref 64, .int (X.2 ((i + 1).toNatClampNeg)), .int (X.2 ((i + 2).toNatClampNeg))] g1 = some (true, (some (.int v), g2)))
    (hR : zR2 X zFT E zc_249 18 [.float 0, .ref 0, .ref 64, .int (i + 6)] [] g2 o) : zR2 X zFT E zc_249 548 [.float 0, .ref 0, .ref 64, .int i] [] g o := by
  refine zseg_go (s' := (562, [.float 0, .ref 0, .ref 64, .int i], [.int v], g1)) ?_ (lc_a12.trans ?_)
  · refine zseg_go (s' := (576, [.float 0, .ref 0, .ref 64, .int i], [.int v, .int v], g2)) ?_ (lc_b12.trans ?_)
    · refine zseg_go (s' := (18, [.float 0, .ref 0, .ref 64, .int (i + 6)], [], g2)) hR (lc_c12.trans ?_)
      rw [decide_eq_true rfl]
      rfl
    · rw [e2, z1, z2]
      rfl
  · rw [e1, z1, z2]
    rfl
set_option maxRecDepth 20000 in
theorem lc_a13 {X : Nat × (Nat → Int32)} {E : zTE} {g : zH2} {i : Int32} : zseg X zFT E zc_249 (fun p => Nat.beq p 590) 60 581 [.float 0, .ref 0, .ref 64, .int i] [] g = (zg (zin (i + 1) X.1) (ze2 (E 122 [.ref 0, .int (X.2 ((i + 1).toNatClampNeg))] g) (fun r g => some (.inl (590, [.float 0, .ref 0, .ref 64, .int i], r.toList ++ [], g)))) : Option ((Nat × List Value × List Value × zH2) ⊕ zO2)) := by with_unfolding_all rfl
set_option maxRecDepth 20000 in
theorem lc_b13 {X : Nat × (Nat → Int32)} {E : zTE} {g : zH2} {i v : Int32} : zseg X zFT E zc_249 (fun p => Nat.beq p 599) 60 590 [.float 0, .ref 0, .ref 64, .int i] [.int v] g = (zg (zin (i + 1) X.1) (ze2 (E 230 [.ref 64, .int (X.2 ((i + 1).toNatClampNeg))] g) (fun r g => some (.inl (599, [.float 0, .ref 0, .ref 64, .int i], r.toList ++ [.int v], g)))) : Option ((Nat × List Value × List Value × zH2) ⊕ zO2)) := by with_unfolding_all rfl
set_option maxRecDepth 20000 in
theorem lc_c13 {X : Nat × (Nat → Int32)} {E : zTE} {g : zH2} {i v w : Int32} : zseg X zFT E zc_249 (fun p => Nat.beq p 18) 60 599 [.float 0, .ref 0, .ref 64, .int i] [.int w, .int v] g = (bif decide (v = w) then some (.inl (18, [.float 0, .ref 0, .ref 64, .int (i + 6)], [], g)) else some (.inr (some (.int 0), g)) : Option ((Nat × List Value × List Value × zH2) ⊕ zO2)) := by with_unfolding_all rfl
theorem lc_13 {X : Nat × (Nat → Int32)} {E : zTE} {g g1 g2 : zH2} {i v : Int32} {o : zO2} (z1 : zin (i + 1) X.1 = true)
    (e1 : E 122 [.ref 0, .int (X.2 ((i + 1).toNatClampNeg))] g = some (true, (some (.int v), g1))) (e2 : E 230 [.ref 64, .int (X.2 ((i + 1).toNatClampNeg))] g1 = some (true, (some (.int v), g2)))
    (hR : zR2 X zFT E zc_249 18 [.float 0, .ref 0, .ref 64, .int (i + 6)] [] g2 o) : zR2 X zFT E zc_249 581 [.float 0, .ref 0, .ref 64, .int i] [] g o := by
  refine zseg_go (s' := (590, [.float 0, .ref 0, .ref 64, .int i], [.int v], g1)) ?_ (lc_a13.trans ?_)
  · refine zseg_go (s' := (599, [.float 0, .ref 0, .ref 64, .int i], [.int v, .int v], g2)) ?_ (lc_b13.trans ?_)
    · refine zseg_go (s' := (18, [.float 0, .ref 0, .ref 64, .int (i + 6)], [], g2)) hR (lc_c13.trans ?_)
      rw [decide_eq_true rfl]
      rfl
    · rw [e2, z1]
      rfl
  · rw [e1, z1]
    rfl
set_option maxRecDepth 20000 in
theorem lc_a14 {X : Nat × (Nat → Int32)} {E : zTE} {g : zH2} {i : Int32} : zseg X zFT E zc_249 (fun p => Nat.beq p 613) 60 604 [.float 0, .ref 0, .ref 64, .int i] [] g = (zg (zin (i + 1) X.1) (ze2 (E 123 [.ref 0, .int (X.2 ((i + 1).toNatClampNeg))] g) (fun r g => some (.inl (613, [.float 0, .ref 0, .ref 64, .int i], r.toList ++ [], g)))) : Option ((Nat × List Value × List Value × zH2) ⊕ zO2)) := by with_unfolding_all rfl
set_option maxRecDepth 20000 in
theorem lc_b14 {X : Nat × (Nat → Int32)} {E : zTE} {g : zH2} {i v : Int32} : zseg X zFT E zc_249 (fun p => Nat.beq p 622) 60 613 [.float 0, .ref 0, .ref 64, .int i] [.int v] g = (zg (zin (i + 1) X.1) (ze2 (E 231 [.ref 64, .int (X.2 ((i + 1).toNatClampNeg))] g) (fun r g => some (.inl (622, [.float 0, .ref 0, .ref 64, .int i], r.toList ++ [.int v], g)))) : Option ((Nat × List Value × List Value × zH2) ⊕ zO2)) := by with_unfolding_all rfl
set_option maxRecDepth 20000 in
theorem lc_c14 {X : Nat × (Nat → Int32)} {E : zTE} {g : zH2} {i v w : Int32} : zseg X zFT E zc_249 (fun p => Nat.beq p 18) 60 622 [.float 0, .ref 0, .ref 64, .int i] [.int w, .int v] g = (bif decide (v = w) then some (.inl (18, [.float 0, .ref 0, .ref 64, .int (i + 6)], [], g)) else some (.inr (some (.int 0), g)) : Option ((Nat × List Value × List Value × zH2) ⊕ zO2)) := by with_unfolding_all rfl
theorem lc_14 {X : Nat × (Nat → Int32)} {E : zTE} {g g1 g2 : zH2} {i v : Int32} {o : zO2} (z1 : zin (i + 1) X.1 = true)
    (e1 : E 123 [.ref 0, .int (X.2 ((i + 1).toNatClampNeg))] g = some (true, (some (.int v), g1))) (e2 : E 231 [.ref 64, .int (X.2 ((i + 1).toNatClampNeg))] g1 = some (true, (some (.int v), g2)))
    (hR : zR2 X zFT E zc_249 18 [.float 0, .ref 0, .ref 64, .int (i + 6)] [] g2 o) : zR2 X zFT E zc_249 604 [.float 0, .ref 0, .ref 64, .int i] [] g o := by
  refine zseg_go (s' := (613, [.float 0, .ref 0, .ref 64, .int i], [.int v], g1)) ?_ (lc_a14.trans ?_)
  · refine zseg_go (s' := (622, [.float 0, .ref 0, .ref 64, .int i], [.int v, .int v], g2)) ?_ (lc_b14.trans ?_)
    · refine zseg_go (s' := (18, [.float 0, .ref 0, .ref 64, .int (i + 6)], [], g2)) hR (lc_c14.trans ?_)
      rw [decide_eq_true rfl]
      rfl
    · rw [e2, z1]
      rfl
  · rw [e1, z1]
    rfl
set_option maxRecDepth 20000 in
theorem lc_a15 {X : Nat × (Nat → Int32)} {E : zTE} {g : zH2} {i : Int32} : zseg X zFT E zc_249 (fun p => Nat.beq p 646) 60 627 [.float 0, .ref 0, .ref 64, .int i] [] g = (zg (zin (i + 1) X.1) (zg (zin (i + 2) X.1) (zg (zin (i + 3) X.1) (ze2 (E 124 [.ref 0, .int (X.2 ((i + 1).toNatClampNeg)), .int (X.2 ((i + 2).toNatClampNeg)), .int (X.2 ((i + 3).toNatClampNeg))] g) (fun r g => some (.inl (646, [.float 0, .ref 0, .ref 64, .int i], r.toList ++ [], g)))))) : Option ((Nat × List Value × List Value × zH2) ⊕ zO2)) := by with_unfolding_all rfl
set_option maxRecDepth 20000 in
theorem lc_b15 {X : Nat × (Nat → Int32)} {E : zTE} {g : zH2} {i v : Int32} : zseg X zFT E zc_249 (fun p => Nat.beq p 665) 60 646 [.float 0, .ref 0, .ref 64, .int i] [.int v] g = (zg (zin (i + 1) X.1) (zg (zin (i + 2) X.1) (zg (zin (i + 3) X.1) (ze2 (E 234 [.ref 64, .int (X.2 ((i + 1).toNatClampNeg)), .int (X.2 ((i + 2).toNatClampNeg)), .int (X.2 ((i + 3).toNatClampNeg))] g) (fun r g => some (.inl (665, [.float 0, .ref 0, .ref 64, .int i], r.toList ++ [.int v], g)))))) : Option ((Nat × List Value × List Value × zH2) ⊕ zO2)) := by with_unfolding_all rfl
set_option maxRecDepth 20000 in
theorem lc_c15 {X : Nat × (Nat → Int32)} {E : zTE} {g : zH2} {i v w : Int32} : zseg X zFT E zc_249 (fun p => Nat.beq p 18) 60 665 [.float 0, .ref 0, .ref 64, .int i] [.int w, .int v] g = (bif decide (v = w) then some (.inl (18, [.float 0, .ref 0, .ref 64, .int (i + 6)], [], g)) else some (.inr (some (.int 0), g)) : Option ((Nat × List Value × List Value × zH2) ⊕ zO2)) := by with_unfolding_all rfl
theorem lc_15 {X : Nat × (Nat → Int32)} {E : zTE} {g g1 g2 : zH2} {i v : Int32} {o : zO2} (z1 : zin (i + 1) X.1 = true) (z2 : zin (i + 2) X.1 = true) (z3 : zin (i + 3) X.1 = true)
    (e1 : E 124 [.ref 0, .int (X.2 ((i + 1).toNatClampNeg)), .int (X.2 ((i + 2).toNatClampNeg)), .int (X.2 ((i + 3).toNatClampNeg))] g = some (true, (some (.int v), g1))) (e2 : E 234 [.ref 64, .int (X.2 ((i + 1).toNatClampNeg)), .int (X.2 ((i + 2).toNatClampNeg)), .int (X.2 ((i + 3).toNatClampNeg))] g1 = some (true, (some (.int v), g2)))
    (hR : zR2 X zFT E zc_249 18 [.float 0, .ref 0, .ref 64, .int (i + 6)] [] g2 o) : zR2 X zFT E zc_249 627 [.float 0, .ref 0, .ref 64, .int i] [] g o := by
  refine zseg_go (s' := (646, [.float 0, .ref 0, .ref 64, .int i], [.int v], g1)) ?_ (lc_a15.trans ?_)
  · refine zseg_go (s' := (665, [.float 0, .ref 0, .ref 64, .int i], [.int v, .int v], g2)) ?_ (lc_b15.trans ?_)
    · refine zseg_go (s' := (18, [.float 0, .ref 0, .ref 64, .int (i + 6)], [], g2)) hR (lc_c15.trans ?_)
      rw [decide_eq_true rfl]
      rfl
    · rw [e2, z1, z2, z3]
      rfl
  · rw [e1, z1, z2, z3]
    rfl
set_option maxRecDepth 20000 in
theorem lc_a16 {X : Nat × (Nat → Int32)} {E : zTE} {g : zH2} {i : Int32} : zseg X zFT E zc_249 (fun p => Nat.beq p 679) 60 670 [.float 0, .ref 0, .ref 64, .int i] [] g = (zg (zin (i + 1) X.1) (ze2 (E 125 [.ref 0, .int (X.2 ((i + 1).toNatClampNeg))] g) (fun r g => some (.inl (679, [.float 0, .ref 0, .ref 64, .int i], r.toList ++ [], g)))) : Option ((Nat × List Value × List Value × zH2) ⊕ zO2)) := by with_unfolding_all rfl
set_option maxRecDepth 20000 in
theorem lc_b16 {X : Nat × (Nat → Int32)} {E : zTE} {g : zH2} {i v : Int32} : zseg X zFT E zc_249 (fun p => Nat.beq p 688) 60 679 [.float 0, .ref 0, .ref 64, .int i] [.int v] g = (zg (zin (i + 1) X.1) (ze2 (E 235 [.ref 64, .int (X.2 ((i + 1).toNatClampNeg))] g) (fun r g => some (.inl (688, [.float 0, .ref 0, .ref 64, .int i], r.toList ++ [.int v], g)))) : Option ((Nat × List Value × List Value × zH2) ⊕ zO2)) := by with_unfolding_all rfl
set_option maxRecDepth 20000 in
theorem lc_c16 {X : Nat × (Nat → Int32)} {E : zTE} {g : zH2} {i v w : Int32} : zseg X zFT E zc_249 (fun p => Nat.beq p 18) 60 688 [.float 0, .ref 0, .ref 64, .int i] [.int w, .int v] g = (bif decide (v = w) then some (.inl (18, [.float 0, .ref 0, .ref 64, .int (i + 6)], [], g)) else some (.inr (some (.int 0), g)) : Option ((Nat × List Value × List Value × zH2) ⊕ zO2)) := by with_unfolding_all rfl
theorem lc_16 {X : Nat × (Nat → Int32)} {E : zTE} {g g1 g2 : zH2} {i v : Int32} {o : zO2} (z1 : zin (i + 1) X.1 = true)
    (e1 : E 125 [.ref 0, .int (X.2 ((i + 1).toNatClampNeg))] g = some (true, (some (.int v), g1))) (e2 : E 235 [.ref 64, .int (X.2 ((i + 1).toNatClampNeg))] g1 = some (true, (some (.int v), g2)))
    (hR : zR2 X zFT E zc_249 18 [.float 0, .ref 0, .ref 64, .int (i + 6)] [] g2 o) : zR2 X zFT E zc_249 670 [.float 0, .ref 0, .ref 64, .int i] [] g o := by
  refine zseg_go (s' := (679, [.float 0, .ref 0, .ref 64, .int i], [.int v], g1)) ?_ (lc_a16.trans ?_)
  · refine zseg_go (s' := (688, [.float 0, .ref 0, .ref 64, .int i], [.int v, .int v], g2)) ?_ (lc_b16.trans ?_)
    · refine zseg_go (s' := (18, [.float 0, .ref 0, .ref 64, .int (i + 6)], [], g2)) hR (lc_c16.trans ?_)
      rw [decide_eq_true rfl]
      rfl
    · rw [e2, z1]
      rfl
  · rw [e1, z1]
    rfl
set_option maxRecDepth 20000 in
theorem lc_a17 {X : Nat × (Nat → Int32)} {E : zTE} {g : zH2} {i : Int32} : zseg X zFT E zc_249 (fun p => Nat.beq p 712) 60 693 [.float 0, .ref 0, .ref 64, .int i] [] g = (zg (zin (i + 1) X.1) (zg (zin (i + 2) X.1) (zg (zin (i + 3) X.1) (ze2 (E 126 [.ref 0, .int (X.2 ((i + 1).toNatClampNeg)), .int (X.2 ((i + 2).toNatClampNeg)), .int (X.2 ((i + 3).toNatClampNeg))] g) (fun r g => some (.inl (712, [.float 0, .ref 0, .ref 64, .int i], r.toList ++ [], g)))))) : Option ((Nat × List Value × List Value × zH2) ⊕ zO2)) := by with_unfolding_all rfl
set_option maxRecDepth 20000 in
theorem lc_b17 {X : Nat × (Nat → Int32)} {E : zTE} {g : zH2} {i v : Int32} : zseg X zFT E zc_249 (fun p => Nat.beq p 731) 60 712 [.float 0, .ref 0, .ref 64, .int i] [.int v] g = (zg (zin (i + 1) X.1) (zg (zin (i + 2) X.1) (zg (zin (i + 3) X.1) (ze2 (E 237 [.ref 64, .int (X.2 ((i + 1).toNatClampNeg)), .int (X.2 ((i + 2).toNatClampNeg)), .int (X.2 ((i + 3).toNatClampNeg))] g) (fun r g => some (.inl (731, [.float 0, .ref 0, .ref 64, .int i], r.toList ++ [.int v], g)))))) : Option ((Nat × List Value × List Value × zH2) ⊕ zO2)) := by with_unfolding_all rfl
set_option maxRecDepth 20000 in
theorem lc_c17 {X : Nat × (Nat → Int32)} {E : zTE} {g : zH2} {i v w : Int32} : zseg X zFT E zc_249 (fun p => Nat.beq p 18) 60 731 [.float 0, .ref 0, .ref 64, .int i] [.int w, .int v] g = (bif decide (v = w) then some (.inl (18, [.float 0, .ref 0, .ref 64, .int (i + 6)], [], g)) else some (.inr (some (.int 0), g)) : Option ((Nat × List Value × List Value × zH2) ⊕ zO2)) := by with_unfolding_all rfl
theorem lc_17 {X : Nat × (Nat → Int32)} {E : zTE} {g g1 g2 : zH2} {i v : Int32} {o : zO2} (z1 : zin (i + 1) X.1 = true) (z2 : zin (i + 2) X.1 = true) (z3 : zin (i + 3) X.1 = true)
    (e1 : E 126 [.ref 0, .int (X.2 ((i + 1).toNatClampNeg)), .int (X.2 ((i + 2).toNatClampNeg)), .int (X.2 ((i + 3).toNatClampNeg))] g = some (true, (some (.int v), g1))) (e2 : E 237 [.ref 64, .int (X.2 ((i + 1).toNatClampNeg)), .int (X.2 ((i + 2).toNatClampNeg)), .int (X.2 ((i + 3).toNatClampNeg))] g1 = some (true, (some (.int v), g2)))
    (hR : zR2 X zFT E zc_249 18 [.float 0, .ref 0, .ref 64, .int (i + 6)] [] g2 o) : zR2 X zFT E zc_249 693 [.float 0, .ref 0, .ref 64, .int i] [] g o := by
  refine zseg_go (s' := (712, [.float 0, .ref 0, .ref 64, .int i], [.int v], g1)) ?_ (lc_a17.trans ?_)
  · refine zseg_go (s' := (731, [.float 0, .ref 0, .ref 64, .int i], [.int v, .int v], g2)) ?_ (lc_b17.trans ?_)
    · refine zseg_go (s' := (18, [.float 0, .ref 0, .ref 64, .int (i + 6)], [], g2)) hR (lc_c17.trans ?_)
      rw [decide_eq_true rfl]
      rfl
    · rw [e2, z1, z2, z3]
      rfl
  · rw [e1, z1, z2, z3]
    rfl
set_option maxRecDepth 20000 in
theorem lc_a18 {X : Nat × (Nat → Int32)} {E : zTE} {g : zH2} {i : Int32} : zseg X zFT E zc_249 (fun p => Nat.beq p 745) 60 736 [.float 0, .ref 0, .ref 64, .int i] [] g = (zg (zin (i + 1) X.1) (ze2 (E 127 [.ref 0, .int (X.2 ((i + 1).toNatClampNeg))] g) (fun r g => some (.inl (745, [.float 0, .ref 0, .ref 64, .int i], r.toList ++ [], g)))) : Option ((Nat × List Value × List Value × zH2) ⊕ zO2)) := by with_unfolding_all rfl
set_option maxRecDepth 20000 in
theorem lc_b18 {X : Nat × (Nat → Int32)} {E : zTE} {g : zH2} {i v : Int32} : zseg X zFT E zc_249 (fun p => Nat.beq p 754) 60 745 [.float 0, .ref 0, .ref 64, .int i] [.int v] g = (zg (zin (i + 1) X.1) (ze2 (E 240 [.ref 64, .int (X.2 ((i + 1).toNatClampNeg))] g) (fun r g => some (.inl (754, [.float 0, .ref 0, .ref 64, .int i], r.toList ++ [.int v], g)))) : Option ((Nat × List Value × List Value × zH2) ⊕ zO2)) := by with_unfolding_all rfl
set_option maxRecDepth 20000 in
theorem lc_c18 {X : Nat × (Nat → Int32)} {E : zTE} {g : zH2} {i v w : Int32} : zseg X zFT E zc_249 (fun p => Nat.beq p 18) 60 754 [.float 0, .ref 0, .ref 64, .int i] [.int w, .int v] g = (bif decide (v = w) then some (.inl (18, [.float 0, .ref 0, .ref 64, .int (i + 6)], [], g)) else some (.inr (some (.int 0), g)) : Option ((Nat × List Value × List Value × zH2) ⊕ zO2)) := by with_unfolding_all rfl
theorem lc_18 {X : Nat × (Nat → Int32)} {E : zTE} {g g1 g2 : zH2} {i v : Int32} {o : zO2} (z1 : zin (i + 1) X.1 = true)
    (e1 : E 127 [.ref 0, .int (X.2 ((i + 1).toNatClampNeg))] g = some (true, (some (.int v), g1))) (e2 : E 240 [.ref 64, .int (X.2 ((i + 1).toNatClampNeg))] g1 = some (true, (some (.int v), g2)))
    (hR : zR2 X zFT E zc_249 18 [.float 0, .ref 0, .ref 64, .int (i + 6)] [] g2 o) : zR2 X zFT E zc_249 736 [.float 0, .ref 0, .ref 64, .int i] [] g o := by
  refine zseg_go (s' := (745, [.float 0, .ref 0, .ref 64, .int i], [.int v], g1)) ?_ (lc_a18.trans ?_)
  · refine zseg_go (s' := (754, [.float 0, .ref 0, .ref 64, .int i], [.int v, .int v], g2)) ?_ (lc_b18.trans ?_)
    · refine zseg_go (s' := (18, [.float 0, .ref 0, .ref 64, .int (i + 6)], [], g2)) hR (lc_c18.trans ?_)
      rw [decide_eq_true rfl]
      rfl
    · rw [e2, z1]
      rfl
  · rw [e1, z1]
    rfl
set_option maxRecDepth 20000 in
theorem lc_a19 {X : Nat × (Nat → Int32)} {E : zTE} {g : zH2} {i : Int32} : zseg X zFT E zc_249 (fun p => Nat.beq p 773) 60 759 [.float 0, .ref 0, .ref 64, .int i] [] g = (zg (zin (i + 1) X.1) (zg (zin (i + 2) X.1) (ze2 (E 128 [.ref 0, .int (X.2 ((i + 1).toNatClampNeg)), .int (X.2 ((i + 2).toNatClampNeg))] g) (fun r g => some (.inl (773, [.float 0, .ref 0, .ref 64, .int i], r.toList ++ [], g))))) : Option ((Nat × List Value × List Value × zH2) ⊕ zO2)) := by with_unfolding_all rfl
set_option maxRecDepth 20000 in
theorem lc_b19 {X : Nat × (Nat → Int32)} {E : zTE} {g : zH2} {i v : Int32} : zseg X zFT E zc_249 (fun p => Nat.beq p 787) 60 773 [.float 0, .ref 0, .ref 64, .int i] [.int v] g = (zg (zin (i + 1) X.1) (zg (zin (i + 2) X.1) (ze2 (E 241 [.ref 64, .int (X.2 ((i + 1).toNatClampNeg)), .int (X.2 ((i + 2).toNatClampNeg))] g) (fun r g => some (.inl (787, [.float 0, .ref 0, .ref 64, .int i], r.toList ++ [.int v], g))))) : Option ((Nat × List Value × List Value × zH2) ⊕ zO2)) := by with_unfolding_all rfl
set_option maxRecDepth 20000 in
theorem lc_c19 {X : Nat × (Nat → Int32)} {E : zTE} {g : zH2} {i v w : Int32} : zseg X zFT E zc_249 (fun p => Nat.beq p 18) 60 787 [.float 0, .ref 0, .ref 64, .int i] [.int w, .int v] g = (bif decide (v = w) then some (.inl (18, [.float 0, .ref 0, .ref 64, .int (i + 6)], [], g)) else some (.inr (some (.int 0), g)) : Option ((Nat × List Value × List Value × zH2) ⊕ zO2)) := by with_unfolding_all rfl
theorem lc_19 {X : Nat × (Nat → Int32)} {E : zTE} {g g1 g2 : zH2} {i v : Int32} {o : zO2} (z1 : zin (i + 1) X.1 = true) (z2 : zin (i + 2) X.1 = true)
    (e1 : E 128 [.ref 0, .int (X.2 ((i + 1).toNatClampNeg)), .int (X.2 ((i + 2).toNatClampNeg))] g = some (true, (some (.int v), g1))) (e2 : E 241 [.ref 64, .int (X.2 ((i + 1).toNatClampNeg)), .int (X.2 ((i + 2).toNatClampNeg))] g1 = some (true, (some (.int v), g2)))
    (hR : zR2 X zFT E zc_249 18 [.float 0, .ref 0, .ref 64, .int (i + 6)] [] g2 o) : zR2 X zFT E zc_249 759 [.float 0, .ref 0, .ref 64, .int i] [] g o := by
  refine zseg_go (s' := (773, [.float 0, .ref 0, .ref 64, .int i], [.int v], g1)) ?_ (lc_a19.trans ?_)
  · refine zseg_go (s' := (787, [.float 0, .ref 0, .ref 64, .int i], [.int v, .int v], g2)) ?_ (lc_b19.trans ?_)
    · refine zseg_go (s' := (18, [.float 0, .ref 0, .ref 64, .int (i + 6)], [], g2)) hR (lc_c19.trans ?_)
      rw [decide_eq_true rfl]
      rfl
    · rw [e2, z1, z2]
      rfl
  · rw [e1, z1, z2]
    rfl
set_option maxRecDepth 20000 in
theorem lc_a20 {X : Nat × (Nat → Int32)} {E : zTE} {g : zH2} {i : Int32} : zseg X zFT E zc_249 (fun p => Nat.beq p 801) 60 792 [.float 0, .ref 0, .ref 64, .int i] [] g = (zg (zin (i + 1) X.1) (ze2 (E 129 [.ref 0, .int (X.2 ((i + 1).toNatClampNeg))] g) (fun r g => some (.inl (801, [.float 0, .ref 0, .ref 64, .int i], r.toList ++ [], g)))) : Option ((Nat × List Value × List Value × zH2) ⊕ zO2)) := by with_unfolding_all rfl
set_option maxRecDepth 20000 in
theorem lc_b20 {X : Nat × (Nat → Int32)} {E : zTE} {g : zH2} {i v : Int32} : zseg X zFT E zc_249 (fun p => Nat.beq p 810) 60 801 [.float 0, .ref 0, .ref 64, .int i] [.int v] g = (zg (zin (i + 1) X.1) (ze2 (E 232 [.ref 64, .int (X.2 ((i + 1).toNatClampNeg))] g) (fun r g => some (.inl (810, [.float 0, .ref 0, .ref 64, .int i], r.toList ++ [.int v], g)))) : Option ((Nat × List Value × List Value × zH2) ⊕ zO2)) := by with_unfolding_all rfl
set_option maxRecDepth 20000 in
theorem lc_c20 {X : Nat × (Nat → Int32)} {E : zTE} {g : zH2} {i v w : Int32} : zseg X zFT E zc_249 (fun p => Nat.beq p 18) 60 810 [.float 0, .ref 0, .ref 64, .int i] [.int w, .int v] g = (bif decide (v = w) then some (.inl (18, [.float 0, .ref 0, .ref 64, .int (i + 6)], [], g)) else some (.inr (some (.int 0), g)) : Option ((Nat × List Value × List Value × zH2) ⊕ zO2)) := by with_unfolding_all rfl
theorem lc_20 {X : Nat × (Nat → Int32)} {E : zTE} {g g1 g2 : zH2} {i v : Int32} {o : zO2} (z1 : zin (i + 1) X.1 = true)
    (e1 : E 129 [.ref 0, .int (X.2 ((i + 1).toNatClampNeg))] g = some (true, (some (.int v), g1))) (e2 : E 232 [.ref 64, .int (X.2 ((i + 1).toNatClampNeg))] g1 = some (true, (some (.int v), g2)))
    (hR : zR2 X zFT E zc_249 18 [.float 0, .ref 0, .ref 64, .int (i + 6)] [] g2 o) : zR2 X zFT E zc_249 792 [.float 0, .ref 0, .ref 64, .int i] [] g o := by
  refine zseg_go (s' := (801, [.float 0, .ref 0, .ref 64, .int i], [.int v], g1)) ?_ (lc_a20.trans ?_)
  · refine zseg_go (s' := (810, [.float 0, .ref 0, .ref 64, .int i], [.int v, .int v], g2)) ?_ (lc_b20.trans ?_)
    · refine zseg_go (s' := (18, [.float 0, .ref 0, .ref 64, .int (i + 6)], [], g2)) hR (lc_c20.trans ?_)
      rw [decide_eq_true rfl]
      rfl
    · rw [e2, z1]
      rfl
  · rw [e1, z1]
    rfl
set_option maxRecDepth 20000 in
theorem lc_a21 {X : Nat × (Nat → Int32)} {E : zTE} {g : zH2} {i : Int32} : zseg X zFT E zc_249 (fun p => Nat.beq p 824) 60 815 [.float 0, .ref 0, .ref 64, .int i] [] g = (zg (zin (i + 1) X.1) (ze2 (E 130 [.ref 0, .int (X.2 ((i + 1).toNatClampNeg))] g) (fun r g => some (.inl (824, [.float 0, .ref 0, .ref 64, .int i], r.toList ++ [], g)))) : Option ((Nat × List Value × List Value × zH2) ⊕ zO2)) := by with_unfolding_all rfl
set_option maxRecDepth 20000 in
theorem lc_b21 {X : Nat × (Nat → Int32)} {E : zTE} {g : zH2} {i v : Int32} : zseg X zFT E zc_249 (fun p => Nat.beq p 833) 60 824 [.float 0, .ref 0, .ref 64, .int i] [.int v] g = (zg (zin (i + 1) X.1) (ze2 (E 242 [.ref 64, .int (X.2 ((i + 1).toNatClampNeg))] g) (fun r g => some (.inl (833, [.float 0, .ref 0, .ref 64, .int i], r.toList ++ [.int v], g)))) : Option ((Nat × List Value × List Value × zH2) ⊕ zO2)) := by with_unfolding_all rfl
set_option maxRecDepth 20000 in
theorem lc_c21 {X : Nat × (Nat → Int32)} {E : zTE} {g : zH2} {i v w : Int32} : zseg X zFT E zc_249 (fun p => Nat.beq p 18) 60 833 [.float 0, .ref 0, .ref 64, .int i] [.int w, .int v] g = (bif decide (v = w) then some (.inl (18, [.float 0, .ref 0, .ref 64, .int (i + 6)], [], g)) else some (.inr (some (.int 0), g)) : Option ((Nat × List Value × List Value × zH2) ⊕ zO2)) := by with_unfolding_all rfl
theorem lc_21 {X : Nat × (Nat → Int32)} {E : zTE} {g g1 g2 : zH2} {i v : Int32} {o : zO2} (z1 : zin (i + 1) X.1 = true)
    (e1 : E 130 [.ref 0, .int (X.2 ((i + 1).toNatClampNeg))] g = some (true, (some (.int v), g1))) (e2 : E 242 [.ref 64, .int (X.2 ((i + 1).toNatClampNeg))] g1 = some (true, (some (.int v), g2)))
    (hR : zR2 X zFT E zc_249 18 [.float 0, .ref 0, .ref 64, .int (i + 6)] [] g2 o) : zR2 X zFT E zc_249 815 [.float 0, .ref 0, .ref 64, .int i] [] g o := by
  refine zseg_go (s' := (824, [.float 0, .ref 0, .ref 64, .int i], [.int v], g1)) ?_ (lc_a21.trans ?_)
  · refine zseg_go (s' := (833, [.float 0, .ref 0, .ref 64, .int i], [.int v, .int v], g2)) ?_ (lc_b21.trans ?_)
    · refine zseg_go (s' := (18, [.float 0, .ref 0, .ref 64, .int (i + 6)], [], g2)) hR (lc_c21.trans ?_)
      rw [decide_eq_true rfl]
      rfl
    · rw [e2, z1]
      rfl
  · rw [e1, z1]
    rfl
set_option maxRecDepth 20000 in
theorem lc_a22 {X : Nat × (Nat → Int32)} {E : zTE} {g : zH2} {i : Int32} : zseg X zFT E zc_249 (fun p => Nat.beq p 842) 60 838 [.float 0, .ref 0, .ref 64, .int i] [] g = (ze2 (E 131 [.ref 0] g) (fun r g => some (.inl (842, [.float 0, .ref 0, .ref 64, .int i], r.toList ++ [], g))) : Option ((Nat × List Value × List Value × zH2) ⊕ zO2)) := by with_unfolding_all rfl
set_option maxRecDepth 20000 in
theorem lc_b22 {X : Nat × (Nat → Int32)} {E : zTE} {g : zH2} {i v : Int32} : zseg X zFT E zc_249 (fun p => Nat.beq p 846) 60 842 [.float 0, .ref 0, .ref 64, .int i] [.int v] g = (ze2 (E 243 [.ref 64] g) (fun r g => some (.inl (846, [.float 0, .ref 0, .ref 64, .int i], r.toList ++ [.int v], g))) : Option ((Nat × List Value × List Value × zH2) ⊕ zO2)) := by with_unfolding_all rfl
set_option maxRecDepth 20000 in
theorem lc_c22 {X : Nat × (Nat → Int32)} {E : zTE} {g : zH2} {i v w : Int32} : zseg X zFT E zc_249 (fun p => Nat.beq p 18) 60 846 [.float 0, .ref 0, .ref 64, .int i] [.int w, .int v] g = (bif decide (v = w) then some (.inl (18, [.float 0, .ref 0, .ref 64, .int (i + 6)], [], g)) else some (.inr (some (.int 0), g)) : Option ((Nat × List Value × List Value × zH2) ⊕ zO2)) := by with_unfolding_all rfl
theorem lc_22 {X : Nat × (Nat → Int32)} {E : zTE} {g g1 g2 : zH2} {i v : Int32} {o : zO2}
    (e1 : E 131 [.ref 0] g = some (true, (some (.int v), g1))) (e2 : E 243 [.ref 64] g1 = some (true, (some (.int v), g2)))
    (hR : zR2 X zFT E zc_249 18 [.float 0, .ref 0, .ref 64, .int (i + 6)] [] g2 o) : zR2 X zFT E zc_249 838 [.float 0, .ref 0, .ref 64, .int i] [] g o := by
  refine zseg_go (s' := (842, [.float 0, .ref 0, .ref 64, .int i], [.int v], g1)) ?_ (lc_a22.trans ?_)
  · refine zseg_go (s' := (846, [.float 0, .ref 0, .ref 64, .int i], [.int v, .int v], g2)) ?_ (lc_b22.trans ?_)
    · refine zseg_go (s' := (18, [.float 0, .ref 0, .ref 64, .int (i + 6)], [], g2)) hR (lc_c22.trans ?_)
      rw [decide_eq_true rfl]
      rfl
    · rw [e2]
      rfl
  · rw [e1]
    rfl
set_option maxRecDepth 20000 in
theorem lc_a23 {X : Nat × (Nat → Int32)} {E : zTE} {g : zH2} {i : Int32} : zseg X zFT E zc_249 (fun p => Nat.beq p 855) 60 851 [.float 0, .ref 0, .ref 64, .int i] [] g = (ze2 (E 132 [.ref 0] g) (fun r g => some (.inl (855, [.float 0, .ref 0, .ref 64, .int i], r.toList ++ [], g))) : Option ((Nat × List Value × List Value × zH2) ⊕ zO2)) := by with_unfolding_all rfl
set_option maxRecDepth 20000 in
theorem lc_b23 {X : Nat × (Nat → Int32)} {E : zTE} {g : zH2} {i v : Int32} : zseg X zFT E zc_249 (fun p => Nat.beq p 859) 60 855 [.float 0, .ref 0, .ref 64, .int i] [.int v] g = (ze2 (E 244 [.ref 64] g) (fun r g => some (.inl (859, [.float 0, .ref 0, .ref 64, .int i], r.toList ++ [.int v], g))) : Option ((Nat × List Value × List Value × zH2) ⊕ zO2)) := by with_unfolding_all rfl
set_option maxRecDepth 20000 in
theorem lc_c23 {X : Nat × (Nat → Int32)} {E : zTE} {g : zH2} {i v w : Int32} : zseg X zFT E zc_249 (fun p => Nat.beq p 18) 60 859 [.float 0, .ref 0, .ref 64, .int i] [.int w, .int v] g = (bif decide (v = w) then some (.inl (18, [.float 0, .ref 0, .ref 64, .int (i + 6)], [], g)) else some (.inr (some (.int 0), g)) : Option ((Nat × List Value × List Value × zH2) ⊕ zO2)) := by with_unfolding_all rfl
theorem lc_23 {X : Nat × (Nat → Int32)} {E : zTE} {g g1 g2 : zH2} {i v : Int32} {o : zO2}
    (e1 : E 132 [.ref 0] g = some (true, (some (.int v), g1))) (e2 : E 244 [.ref 64] g1 = some (true, (some (.int v), g2)))
    (hR : zR2 X zFT E zc_249 18 [.float 0, .ref 0, .ref 64, .int (i + 6)] [] g2 o) : zR2 X zFT E zc_249 851 [.float 0, .ref 0, .ref 64, .int i] [] g o := by
  refine zseg_go (s' := (855, [.float 0, .ref 0, .ref 64, .int i], [.int v], g1)) ?_ (lc_a23.trans ?_)
  · refine zseg_go (s' := (859, [.float 0, .ref 0, .ref 64, .int i], [.int v, .int v], g2)) ?_ (lc_b23.trans ?_)
    · refine zseg_go (s' := (18, [.float 0, .ref 0, .ref 64, .int (i + 6)], [], g2)) hR (lc_c23.trans ?_)
      rw [decide_eq_true rfl]
      rfl
    · rw [e2]
      rfl
  · rw [e1]
    rfl
set_option maxRecDepth 20000 in
theorem lc_a24 {X : Nat × (Nat → Int32)} {E : zTE} {g : zH2} {i : Int32} : zseg X zFT E zc_249 (fun p => Nat.beq p 873) 60 864 [.float 0, .ref 0, .ref 64, .int i] [] g = (zg (zin (i + 1) X.1) (ze2 (E 133 [.ref 0, .int (X.2 ((i + 1).toNatClampNeg))] g) (fun r g => some (.inl (873, [.float 0, .ref 0, .ref 64, .int i], r.toList ++ [], g)))) : Option ((Nat × List Value × List Value × zH2) ⊕ zO2)) := by with_unfolding_all rfl
set_option maxRecDepth 20000 in
theorem lc_b24 {X : Nat × (Nat → Int32)} {E : zTE} {g : zH2} {i v : Int32} : zseg X zFT E zc_249 (fun p => Nat.beq p 882) 60 873 [.float 0, .ref 0, .ref 64, .int i] [.int v] g = (zg (zin (i + 1) X.1) (ze2 (E 245 [.ref 64, .int (X.2 ((i + 1).toNatClampNeg))] g) (fun r g => some (.inl (882, [.float 0, .ref 0, .ref 64, .int i], r.toList ++ [.int v], g)))) : Option ((Nat × List Value × List Value × zH2) ⊕ zO2)) := by with_unfolding_all rfl
set_option maxRecDepth 20000 in
theorem lc_c24 {X : Nat × (Nat → Int32)} {E : zTE} {g : zH2} {i v w : Int32} : zseg X zFT E zc_249 (fun p => Nat.beq p 18) 60 882 [.float 0, .ref 0, .ref 64, .int i] [.int w, .int v] g = (bif decide (v = w) then some (.inl (18, [.float 0, .ref 0, .ref 64, .int (i + 6)], [], g)) else some (.inr (some (.int 0), g)) : Option ((Nat × List Value × List Value × zH2) ⊕ zO2)) := by with_unfolding_all rfl
theorem lc_24 {X : Nat × (Nat → Int32)} {E : zTE} {g g1 g2 : zH2} {i v : Int32} {o : zO2} (z1 : zin (i + 1) X.1 = true)
    (e1 : E 133 [.ref 0, .int (X.2 ((i + 1).toNatClampNeg))] g = some (true, (some (.int v), g1))) (e2 : E 245 [.ref 64, .int (X.2 ((i + 1).toNatClampNeg))] g1 = some (true, (some (.int v), g2)))
    (hR : zR2 X zFT E zc_249 18 [.float 0, .ref 0, .ref 64, .int (i + 6)] [] g2 o) : zR2 X zFT E zc_249 864 [.float 0, .ref 0, .ref 64, .int i] [] g o := by
  refine zseg_go (s' := (873, [.float 0, .ref 0, .ref 64, .int i], [.int v], g1)) ?_ (lc_a24.trans ?_)
  · refine zseg_go (s' := (882, [.float 0, .ref 0, .ref 64, .int i], [.int v, .int v], g2)) ?_ (lc_b24.trans ?_)
    · refine zseg_go (s' := (18, [.float 0, .ref 0, .ref 64, .int (i + 6)], [], g2)) hR (lc_c24.trans ?_)
      rw [decide_eq_true rfl]
      rfl
    · rw [e2, z1]
      rfl
  · rw [e1, z1]
    rfl
set_option maxRecDepth 20000 in
theorem lc_a25 {X : Nat × (Nat → Int32)} {E : zTE} {g : zH2} {i : Int32} : zseg X zFT E zc_249 (fun p => Nat.beq p 896) 60 887 [.float 0, .ref 0, .ref 64, .int i] [] g = (zg (zin (i + 1) X.1) (ze2 (E 134 [.ref 0, .int (X.2 ((i + 1).toNatClampNeg))] g) (fun r g => some (.inl (896, [.float 0, .ref 0, .ref 64, .int i], r.toList ++ [], g)))) : Option ((Nat × List Value × List Value × zH2) ⊕ zO2)) := by with_unfolding_all rfl
set_option maxRecDepth 20000 in
theorem lc_b25 {X : Nat × (Nat → Int32)} {E : zTE} {g : zH2} {i v : Int32} : zseg X zFT E zc_249 (fun p => Nat.beq p 905) 60 896 [.float 0, .ref 0, .ref 64, .int i] [.int v] g = (zg (zin (i + 1) X.1) (ze2 (E 248 [.ref 64, .int (X.2 ((i + 1).toNatClampNeg))] g) (fun r g => some (.inl (905, [.float 0, .ref 0, .ref 64, .int i], r.toList ++ [.int v], g)))) : Option ((Nat × List Value × List Value × zH2) ⊕ zO2)) := by with_unfolding_all rfl
set_option maxRecDepth 20000 in
theorem lc_c25 {X : Nat × (Nat → Int32)} {E : zTE} {g : zH2} {i v w : Int32} : zseg X zFT E zc_249 (fun p => Nat.beq p 18) 60 905 [.float 0, .ref 0, .ref 64, .int i] [.int w, .int v] g = (bif decide (v = w) then some (.inl (18, [.float 0, .ref 0, .ref 64, .int (i + 6)], [], g)) else some (.inr (some (.int 0), g)) : Option ((Nat × List Value × List Value × zH2) ⊕ zO2)) := by with_unfolding_all rfl
theorem lc_25 {X : Nat × (Nat → Int32)} {E : zTE} {g g1 g2 : zH2} {i v : Int32} {o : zO2} (z1 : zin (i + 1) X.1 = true)
    (e1 : E 134 [.ref 0, .int (X.2 ((i + 1).toNatClampNeg))] g = some (true, (some (.int v), g1))) (e2 : E 248 [.ref 64, .int (X.2 ((i + 1).toNatClampNeg))] g1 = some (true, (some (.int v), g2)))
    (hR : zR2 X zFT E zc_249 18 [.float 0, .ref 0, .ref 64, .int (i + 6)] [] g2 o) : zR2 X zFT E zc_249 887 [.float 0, .ref 0, .ref 64, .int i] [] g o := by
  refine zseg_go (s' := (896, [.float 0, .ref 0, .ref 64, .int i], [.int v], g1)) ?_ (lc_a25.trans ?_)
  · refine zseg_go (s' := (905, [.float 0, .ref 0, .ref 64, .int i], [.int v, .int v], g2)) ?_ (lc_b25.trans ?_)
    · refine zseg_go (s' := (18, [.float 0, .ref 0, .ref 64, .int (i + 6)], [], g2)) hR (lc_c25.trans ?_)
      rw [decide_eq_true rfl]
      rfl
    · rw [e2, z1]
      rfl
  · rw [e1, z1]
    rfl
