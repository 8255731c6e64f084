/-! ===== D: the other calls ===== -/
theorem p_if_tried_23 {ar fi : Nat → Nat → Int32} {m2 m3 m4 m5 : Nat} {x y : Int32} {t : T_if_tried} (h : q_if_tried x y (ar 3) (ar 4) (ar 5) (ar 6) (ar 7) (ar 8) (ar 17) (ar 18) (ar 19) (ar 20) (ar 21) (ar 22) (ar 24) (ar 25) (ar 26) (ar 27) (ar 28) (ar 29) (ar 30) (ar 50) (ar 51) (fi 2 6) (fi 2 7) (fi 2 8) (fi 2 9) (fi 2 10) (fi 16 6) (fi 16 7) (fi 16 8) (fi 16 9) (fi 16 10) (fi 23 8) (fi 23 9) = some t) : S_if_tried [.ref 0, .int x, .int y] (ar, fi, 23, m2, m3, m4, m5) = some (true, (some (.int (t.1)), ((zua (zua (zua (zua (zua (zua (zua (zua (zua ar 17 t.2.1) 18 t.2.2.1) 19 t.2.2.2.1) 20 t.2.2.2.2.1) 21 t.2.2.2.2.2.1) 22 t.2.2.2.2.2.2.1) 26 t.2.2.2.2.2.2.2.1) 50 t.2.2.2.2.2.2.2.2.1) 51 t.2.2.2.2.2.2.2.2.2.1), (zuf (zuf (zuf (zuf (zuf fi 16 6 t.2.2.2.2.2.2.2.2.2.2.1) 16 7 t.2.2.2.2.2.2.2.2.2.2.2.1) 16 8 t.2.2.2.2.2.2.2.2.2.2.2.2.1) 16 9 t.2.2.2.2.2.2.2.2.2.2.2.2.2.1) 16 10 t.2.2.2.2.2.2.2.2.2.2.2.2.2.2), (23, m2, m3, m4, m5)))) := by
  show zpe (q_if_tried x y (ar 3) (ar 4) (ar 5) (ar 6) (ar 7) (ar 8) (ar 17) (ar 18) (ar 19) (ar 20) (ar 21) (ar 22) (ar 24) (ar 25) (ar 26) (ar 27) (ar 28) (ar 29) (ar 30) (ar 50) (ar 51) (fi 2 6) (fi 2 7) (fi 2 8) (fi 2 9) (fi 2 10) (fi 16 6) (fi 16 7) (fi 16 8) (fi 16 9) (fi 16 10) (fi 23 8) (fi 23 9)) (fun t => (some (.int (t.1)), ((zua (zua (zua (zua (zua (zua (zua (zua (zua ar 17 t.2.1) 18 t.2.2.1) 19 t.2.2.2.1) 20 t.2.2.2.2.1) 21 t.2.2.2.2.2.1) 22 t.2.2.2.2.2.2.1) 26 t.2.2.2.2.2.2.2.1) 50 t.2.2.2.2.2.2.2.2.1) 51 t.2.2.2.2.2.2.2.2.2.1), (zuf (zuf (zuf (zuf (zuf fi 16 6 t.2.2.2.2.2.2.2.2.2.2.1) 16 7 t.2.2.2.2.2.2.2.2.2.2.2.1) 16 8 t.2.2.2.2.2.2.2.2.2.2.2.2.1) 16 9 t.2.2.2.2.2.2.2.2.2.2.2.2.2.1) 16 10 t.2.2.2.2.2.2.2.2.2.2.2.2.2.2), (23, m2, m3, m4, m5)))) = _
  rw [h]
  rfl
theorem p_if_tried_31 {ar fi : Nat → Nat → Int32} {m2 m3 m4 m5 : Nat} {x y : Int32} {t : T_if_tried} (h : q_if_tried x y (ar 3) (ar 4) (ar 5) (ar 6) (ar 7) (ar 8) (ar 17) (ar 18) (ar 19) (ar 20) (ar 21) (ar 22) (ar 32) (ar 33) (ar 34) (ar 35) (ar 36) (ar 37) (ar 38) (ar 50) (ar 51) (fi 2 6) (fi 2 7) (fi 2 8) (fi 2 9) (fi 2 10) (fi 16 6) (fi 16 7) (fi 16 8) (fi 16 9) (fi 16 10) (fi 31 8) (fi 31 9) = some t) : S_if_tried [.ref 0, .int x, .int y] (ar, fi, 31, m2, m3, m4, m5) = some (true, (some (.int (t.1)), ((zua (zua (zua (zua (zua (zua (zua (zua (zua ar 17 t.2.1) 18 t.2.2.1) 19 t.2.2.2.1) 20 t.2.2.2.2.1) 21 t.2.2.2.2.2.1) 22 t.2.2.2.2.2.2.1) 34 t.2.2.2.2.2.2.2.1) 50 t.2.2.2.2.2.2.2.2.1) 51 t.2.2.2.2.2.2.2.2.2.1), (zuf (zuf (zuf (zuf (zuf fi 16 6 t.2.2.2.2.2.2.2.2.2.2.1) 16 7 t.2.2.2.2.2.2.2.2.2.2.2.1) 16 8 t.2.2.2.2.2.2.2.2.2.2.2.2.1) 16 9 t.2.2.2.2.2.2.2.2.2.2.2.2.2.1) 16 10 t.2.2.2.2.2.2.2.2.2.2.2.2.2.2), (31, m2, m3, m4, m5)))) := by
  show zpe (q_if_tried x y (ar 3) (ar 4) (ar 5) (ar 6) (ar 7) (ar 8) (ar 17) (ar 18) (ar 19) (ar 20) (ar 21) (ar 22) (ar 32) (ar 33) (ar 34) (ar 35) (ar 36) (ar 37) (ar 38) (ar 50) (ar 51) (fi 2 6) (fi 2 7) (fi 2 8) (fi 2 9) (fi 2 10) (fi 16 6) (fi 16 7) (fi 16 8) (fi 16 9) (fi 16 10) (fi 31 8) (fi 31 9)) (fun t => (some (.int (t.1)), ((zua (zua (zua (zua (zua (zua (zua (zua (zua ar 17 t.2.1) 18 t.2.2.1) 19 t.2.2.2.1) 20 t.2.2.2.2.1) 21 t.2.2.2.2.2.1) 22 t.2.2.2.2.2.2.1) 34 t.2.2.2.2.2.2.2.1) 50 t.2.2.2.2.2.2.2.2.1) 51 t.2.2.2.2.2.2.2.2.2.1), (zuf (zuf (zuf (zuf (zuf fi 16 6 t.2.2.2.2.2.2.2.2.2.2.1) 16 7 t.2.2.2.2.2.2.2.2.2.2.2.1) 16 8 t.2.2.2.2.2.2.2.2.2.2.2.2.1) 16 9 t.2.2.2.2.2.2.2.2.2.2.2.2.2.1) 16 10 t.2.2.2.2.2.2.2.2.2.2.2.2.2.2), (31, m2, m3, m4, m5)))) = _
  rw [h]
  rfl
theorem p_md_tried {ar fi : Nat → Nat → Int32} {m1 m2 m3 m4 m5 : Nat} {x y : Int32} {t : T_md_tried} (h : q_md_tried x y (ar 65) (ar 66) (ar 68) (ar 77) (ar 78) (ar 79) (ar 80) (ar 81) (ar 82) (ar 83) (ar 85) (fi 64 15) (fi 64 34) = some t) : S_md_tried [.ref 64, .int x, .int y] (ar, fi, m1, m2, m3, m4, m5) = some (true, (some (.int (t.1)), ((zua (zua (zua (zua (zua ar 65 t.2.1) 66 t.2.2.1) 82 t.2.2.2.1) 83 t.2.2.2.2.1) 85 t.2.2.2.2.2.1), (zuf fi 64 34 t.2.2.2.2.2.2), (m1, m2, m3, m4, m5)))) := by
  show zpe (q_md_tried x y (ar 65) (ar 66) (ar 68) (ar 77) (ar 78) (ar 79) (ar 80) (ar 81) (ar 82) (ar 83) (ar 85) (fi 64 15) (fi 64 34)) (fun t => (some (.int (t.1)), ((zua (zua (zua (zua (zua ar 65 t.2.1) 66 t.2.2.1) 82 t.2.2.2.1) 83 t.2.2.2.2.1) 85 t.2.2.2.2.2.1), (zuf fi 64 34 t.2.2.2.2.2.2), (m1, m2, m3, m4, m5)))) = _
  rw [h]
  rfl
theorem s_tried {g : zH2} (h : Rel g) (x y : Int32) : Both S_if_tried S_md_tried [.ref 0, .int x, .int y] [.ref 64, .int x, .int y] g := by
  obtain ⟨ar, fi, m1, m2, m3, m4, m5⟩ := g
  obtain ⟨h1, h2, h3, h4, h5, h6⟩ := h
  have h1 : RT (ar 1) (ar 70) := h1
  have h2 : RFed fi := h2
  have h3 : KA 96 (ar 3) (ar 68) := h3
  have h4 : RNow ar fi := h4
  have h5 : RKept ar fi := h5
  have h6 : RLaw ar fi m1 m2 := h6
  rcases h6 with ⟨rfl, rfl, hW⟩ | ⟨rfl, rfl, hW⟩
  · obtain ⟨v, r, t, q1, q2, q3⟩ := d_tried hW h3 h4 x y (ar 17) (ar 18) (ar 19) (ar 20) (ar 21) (ar 22) (fi 16 6) (fi 16 7) (fi 16 8) (fi 16 9) (fi 16 10) (ar 66) (ar 26) (ar 50) (ar 51) (ar 82) (ar 83) (ar 85) (fi 64 34)
    refine ⟨v, _, _, p_if_tried_23 q1, p_md_tried (t := (v, t)) q2, ?_⟩
    exact ⟨h1, h2, h3, RS_congr h4 q3, h5, Or.inl ⟨rfl, rfl, hW⟩⟩
  · obtain ⟨v, r, t, q1, q2, q3⟩ := d_tried hW h3 h4 x y (ar 17) (ar 18) (ar 19) (ar 20) (ar 21) (ar 22) (fi 16 6) (fi 16 7) (fi 16 8) (fi 16 9) (fi 16 10) (ar 66) (ar 34) (ar 50) (ar 51) (ar 82) (ar 83) (ar 85) (fi 64 34)
    refine ⟨v, _, _, p_if_tried_31 q1, p_md_tried (t := (v, t)) q2, ?_⟩
    exact ⟨h1, h2, h3, RS_congr h4 q3, h5, Or.inr ⟨rfl, rfl, hW⟩⟩
theorem p_if_comes_23 {ar fi : Nat → Nat → Int32} {m2 m3 m4 m5 : Nat} {x y z : Int32} {t : T_if_comes} (h : q_if_comes x y z (ar 3) (ar 4) (ar 5) (ar 6) (ar 7) (ar 8) (ar 17) (ar 18) (ar 19) (ar 20) (ar 21) (ar 22) (ar 24) (ar 25) (ar 26) (ar 27) (ar 28) (ar 29) (ar 30) (ar 50) (ar 51) (fi 2 6) (fi 2 7) (fi 2 8) (fi 2 9) (fi 2 10) (fi 16 6) (fi 16 7) (fi 16 8) (fi 16 9) (fi 16 10) (fi 23 8) (fi 23 9) = some t) : S_if_comes [.ref 0, .int x, .int y, .int z] (ar, fi, 23, m2, m3, m4, m5) = some (true, (some (.int (t.1)), ((zua (zua (zua (zua (zua (zua (zua (zua (zua ar 17 t.2.1) 18 t.2.2.1) 19 t.2.2.2.1) 20 t.2.2.2.2.1) 21 t.2.2.2.2.2.1) 22 t.2.2.2.2.2.2.1) 26 t.2.2.2.2.2.2.2.1) 50 t.2.2.2.2.2.2.2.2.1) 51 t.2.2.2.2.2.2.2.2.2.1), (zuf (zuf (zuf (zuf (zuf fi 16 6 t.2.2.2.2.2.2.2.2.2.2.1) 16 7 t.2.2.2.2.2.2.2.2.2.2.2.1) 16 8 t.2.2.2.2.2.2.2.2.2.2.2.2.1) 16 9 t.2.2.2.2.2.2.2.2.2.2.2.2.2.1) 16 10 t.2.2.2.2.2.2.2.2.2.2.2.2.2.2), (23, m2, m3, m4, m5)))) := by
  show zpe (q_if_comes x y z (ar 3) (ar 4) (ar 5) (ar 6) (ar 7) (ar 8) (ar 17) (ar 18) (ar 19) (ar 20) (ar 21) (ar 22) (ar 24) (ar 25) (ar 26) (ar 27) (ar 28) (ar 29) (ar 30) (ar 50) (ar 51) (fi 2 6) (fi 2 7) (fi 2 8) (fi 2 9) (fi 2 10) (fi 16 6) (fi 16 7) (fi 16 8) (fi 16 9) (fi 16 10) (fi 23 8) (fi 23 9)) (fun t => (some (.int (t.1)), ((zua (zua (zua (zua (zua (zua (zua (zua (zua ar 17 t.2.1) 18 t.2.2.1) 19 t.2.2.2.1) 20 t.2.2.2.2.1) 21 t.2.2.2.2.2.1) 22 t.2.2.2.2.2.2.1) 26 t.2.2.2.2.2.2.2.1) 50 t.2.2.2.2.2.2.2.2.1) 51 t.2.2.2.2.2.2.2.2.2.1), (zuf (zuf (zuf (zuf (zuf fi 16 6 t.2.2.2.2.2.2.2.2.2.2.1) 16 7 t.2.2.2.2.2.2.2.2.2.2.2.1) 16 8 t.2.2.2.2.2.2.2.2.2.2.2.2.1) 16 9 t.2.2.2.2.2.2.2.2.2.2.2.2.2.1) 16 10 t.2.2.2.2.2.2.2.2.2.2.2.2.2.2), (23, m2, m3, m4, m5)))) = _
  rw [h]
  rfl
theorem p_if_comes_31 {ar fi : Nat → Nat → Int32} {m2 m3 m4 m5 : Nat} {x y z : Int32} {t : T_if_comes} (h : q_if_comes x y z (ar 3) (ar 4) (ar 5) (ar 6) (ar 7) (ar 8) (ar 17) (ar 18) (ar 19) (ar 20) (ar 21) (ar 22) (ar 32) (ar 33) (ar 34) (ar 35) (ar 36) (ar 37) (ar 38) (ar 50) (ar 51) (fi 2 6) (fi 2 7) (fi 2 8) (fi 2 9) (fi 2 10) (fi 16 6) (fi 16 7) (fi 16 8) (fi 16 9) (fi 16 10) (fi 31 8) (fi 31 9) = some t) : S_if_comes [.ref 0, .int x, .int y, .int z] (ar, fi, 31, m2, m3, m4, m5) = some (true, (some (.int (t.1)), ((zua (zua (zua (zua (zua (zua (zua (zua (zua ar 17 t.2.1) 18 t.2.2.1) 19 t.2.2.2.1) 20 t.2.2.2.2.1) 21 t.2.2.2.2.2.1) 22 t.2.2.2.2.2.2.1) 34 t.2.2.2.2.2.2.2.1) 50 t.2.2.2.2.2.2.2.2.1) 51 t.2.2.2.2.2.2.2.2.2.1), (zuf (zuf (zuf (zuf (zuf fi 16 6 t.2.2.2.2.2.2.2.2.2.2.1) 16 7 t.2.2.2.2.2.2.2.2.2.2.2.1) 16 8 t.2.2.2.2.2.2.2.2.2.2.2.2.1) 16 9 t.2.2.2.2.2.2.2.2.2.2.2.2.2.1) 16 10 t.2.2.2.2.2.2.2.2.2.2.2.2.2.2), (31, m2, m3, m4, m5)))) := by
  show zpe (q_if_comes x y z (ar 3) (ar 4) (ar 5) (ar 6) (ar 7) (ar 8) (ar 17) (ar 18) (ar 19) (ar 20) (ar 21) (ar 22) (ar 32) (ar 33) (ar 34) (ar 35) (ar 36) (ar 37) (ar 38) (ar 50) (ar 51) (fi 2 6) (fi 2 7) (fi 2 8) (fi 2 9) (fi 2 10) (fi 16 6) (fi 16 7) (fi 16 8) (fi 16 9) (fi 16 10) (fi 31 8) (fi 31 9)) (fun t => (some (.int (t.1)), ((zua (zua (zua (zua (zua (zua (zua (zua (zua ar 17 t.2.1) 18 t.2.2.1) 19 t.2.2.2.1) 20 t.2.2.2.2.1) 21 t.2.2.2.2.2.1) 22 t.2.2.2.2.2.2.1) 34 t.2.2.2.2.2.2.2.1) 50 t.2.2.2.2.2.2.2.2.1) 51 t.2.2.2.2.2.2.2.2.2.1), (zuf (zuf (zuf (zuf (zuf fi 16 6 t.2.2.2.2.2.2.2.2.2.2.1) 16 7 t.2.2.2.2.2.2.2.2.2.2.2.1) 16 8 t.2.2.2.2.2.2.2.2.2.2.2.2.1) 16 9 t.2.2.2.2.2.2.2.2.2.2.2.2.2.1) 16 10 t.2.2.2.2.2.2.2.2.2.2.2.2.2.2), (31, m2, m3, m4, m5)))) = _
  rw [h]
  rfl
theorem p_md_comes {ar fi : Nat → Nat → Int32} {m1 m2 m3 m4 m5 : Nat} {x y z : Int32} {t : T_md_comes} (h : q_md_comes x y z (ar 65) (ar 66) (ar 68) (ar 77) (ar 78) (ar 79) (ar 80) (ar 81) (ar 82) (ar 83) (ar 85) (fi 64 15) (fi 64 34) = some t) : S_md_comes [.ref 64, .int x, .int y, .int z] (ar, fi, m1, m2, m3, m4, m5) = some (true, (some (.int (t.1)), ((zua (zua (zua (zua (zua ar 65 t.2.1) 66 t.2.2.1) 82 t.2.2.2.1) 83 t.2.2.2.2.1) 85 t.2.2.2.2.2.1), (zuf fi 64 34 t.2.2.2.2.2.2), (m1, m2, m3, m4, m5)))) := by
  show zpe (q_md_comes x y z (ar 65) (ar 66) (ar 68) (ar 77) (ar 78) (ar 79) (ar 80) (ar 81) (ar 82) (ar 83) (ar 85) (fi 64 15) (fi 64 34)) (fun t => (some (.int (t.1)), ((zua (zua (zua (zua (zua ar 65 t.2.1) 66 t.2.2.1) 82 t.2.2.2.1) 83 t.2.2.2.2.1) 85 t.2.2.2.2.2.1), (zuf fi 64 34 t.2.2.2.2.2.2), (m1, m2, m3, m4, m5)))) = _
  rw [h]
  rfl
theorem s_comes {g : zH2} (h : Rel g) (x y z : Int32) : Both S_if_comes S_md_comes [.ref 0, .int x, .int y, .int z] [.ref 64, .int x, .int y, .int z] g := by
  obtain ⟨ar, fi, m1, m2, m3, m4, m5⟩ := g
  obtain ⟨h1, h2, h3, h4, h5, h6⟩ := h
  have h1 : RT (ar 1) (ar 70) := h1
  have h2 : RFed fi := h2
  have h3 : KA 96 (ar 3) (ar 68) := h3
  have h4 : RNow ar fi := h4
  have h5 : RKept ar fi := h5
  have h6 : RLaw ar fi m1 m2 := h6
  rcases h6 with ⟨rfl, rfl, hW⟩ | ⟨rfl, rfl, hW⟩
  · obtain ⟨v, r, t, q1, q2, q3⟩ := d_comes hW h3 h4 x y z (ar 17) (ar 18) (ar 19) (ar 20) (ar 21) (ar 22) (fi 16 6) (fi 16 7) (fi 16 8) (fi 16 9) (fi 16 10) (ar 66) (ar 26) (ar 50) (ar 51) (ar 82) (ar 83) (ar 85) (fi 64 34)
    refine ⟨v, _, _, p_if_comes_23 q1, p_md_comes (t := (v, t)) q2, ?_⟩
    exact ⟨h1, h2, h3, RS_congr h4 q3, h5, Or.inl ⟨rfl, rfl, hW⟩⟩
  · obtain ⟨v, r, t, q1, q2, q3⟩ := d_comes hW h3 h4 x y z (ar 17) (ar 18) (ar 19) (ar 20) (ar 21) (ar 22) (fi 16 6) (fi 16 7) (fi 16 8) (fi 16 9) (fi 16 10) (ar 66) (ar 34) (ar 50) (ar 51) (ar 82) (ar 83) (ar 85) (fi 64 34)
    refine ⟨v, _, _, p_if_comes_31 q1, p_md_comes (t := (v, t)) q2, ?_⟩
    exact ⟨h1, h2, h3, RS_congr h4 q3, h5, Or.inr ⟨rfl, rfl, hW⟩⟩
theorem p_if_over_23 {ar fi : Nat → Nat → Int32} {m2 m3 m4 m5 : Nat} {x : Int32} {t : T_if_over} (h : q_if_over x (ar 3) (ar 4) (ar 5) (ar 6) (ar 7) (ar 8) (ar 17) (ar 18) (ar 19) (ar 20) (ar 21) (ar 22) (ar 24) (ar 25) (ar 26) (ar 27) (ar 28) (ar 29) (ar 30) (ar 50) (ar 51) (fi 2 6) (fi 2 7) (fi 2 8) (fi 2 9) (fi 2 10) (fi 16 6) (fi 16 7) (fi 16 8) (fi 16 9) (fi 16 10) (fi 23 8) (fi 23 9) = some t) : S_if_over [.ref 0, .int x] (ar, fi, 23, m2, m3, m4, m5) = some (true, (some (.int (t.1)), ((zua (zua (zua (zua (zua (zua (zua (zua (zua ar 17 t.2.1) 18 t.2.2.1) 19 t.2.2.2.1) 20 t.2.2.2.2.1) 21 t.2.2.2.2.2.1) 22 t.2.2.2.2.2.2.1) 26 t.2.2.2.2.2.2.2.1) 50 t.2.2.2.2.2.2.2.2.1) 51 t.2.2.2.2.2.2.2.2.2.1), (zuf (zuf (zuf (zuf (zuf fi 16 6 t.2.2.2.2.2.2.2.2.2.2.1) 16 7 t.2.2.2.2.2.2.2.2.2.2.2.1) 16 8 t.2.2.2.2.2.2.2.2.2.2.2.2.1) 16 9 t.2.2.2.2.2.2.2.2.2.2.2.2.2.1) 16 10 t.2.2.2.2.2.2.2.2.2.2.2.2.2.2), (23, m2, m3, m4, m5)))) := by
  show zpe (q_if_over x (ar 3) (ar 4) (ar 5) (ar 6) (ar 7) (ar 8) (ar 17) (ar 18) (ar 19) (ar 20) (ar 21) (ar 22) (ar 24) (ar 25) (ar 26) (ar 27) (ar 28) (ar 29) (ar 30) (ar 50) (ar 51) (fi 2 6) (fi 2 7) (fi 2 8) (fi 2 9) (fi 2 10) (fi 16 6) (fi 16 7) (fi 16 8) (fi 16 9) (fi 16 10) (fi 23 8) (fi 23 9)) (fun t => (some (.int (t.1)), ((zua (zua (zua (zua (zua (zua (zua (zua (zua ar 17 t.2.1) 18 t.2.2.1) 19 t.2.2.2.1) 20 t.2.2.2.2.1) 21 t.2.2.2.2.2.1) 22 t.2.2.2.2.2.2.1) 26 t.2.2.2.2.2.2.2.1) 50 t.2.2.2.2.2.2.2.2.1) 51 t.2.2.2.2.2.2.2.2.2.1), (zuf (zuf (zuf (zuf (zuf fi 16 6 t.2.2.2.2.2.2.2.2.2.2.1) 16 7 t.2.2.2.2.2.2.2.2.2.2.2.1) 16 8 t.2.2.2.2.2.2.2.2.2.2.2.2.1) 16 9 t.2.2.2.2.2.2.2.2.2.2.2.2.2.1) 16 10 t.2.2.2.2.2.2.2.2.2.2.2.2.2.2), (23, m2, m3, m4, m5)))) = _
  rw [h]
  rfl
theorem p_if_over_31 {ar fi : Nat → Nat → Int32} {m2 m3 m4 m5 : Nat} {x : Int32} {t : T_if_over} (h : q_if_over x (ar 3) (ar 4) (ar 5) (ar 6) (ar 7) (ar 8) (ar 17) (ar 18) (ar 19) (ar 20) (ar 21) (ar 22) (ar 32) (ar 33) (ar 34) (ar 35) (ar 36) (ar 37) (ar 38) (ar 50) (ar 51) (fi 2 6) (fi 2 7) (fi 2 8) (fi 2 9) (fi 2 10) (fi 16 6) (fi 16 7) (fi 16 8) (fi 16 9) (fi 16 10) (fi 31 8) (fi 31 9) = some t) : S_if_over [.ref 0, .int x] (ar, fi, 31, m2, m3, m4, m5) = some (true, (some (.int (t.1)), ((zua (zua (zua (zua (zua (zua (zua (zua (zua ar 17 t.2.1) 18 t.2.2.1) 19 t.2.2.2.1) 20 t.2.2.2.2.1) 21 t.2.2.2.2.2.1) 22 t.2.2.2.2.2.2.1) 34 t.2.2.2.2.2.2.2.1) 50 t.2.2.2.2.2.2.2.2.1) 51 t.2.2.2.2.2.2.2.2.2.1), (zuf (zuf (zuf (zuf (zuf fi 16 6 t.2.2.2.2.2.2.2.2.2.2.1) 16 7 t.2.2.2.2.2.2.2.2.2.2.2.1) 16 8 t.2.2.2.2.2.2.2.2.2.2.2.2.1) 16 9 t.2.2.2.2.2.2.2.2.2.2.2.2.2.1) 16 10 t.2.2.2.2.2.2.2.2.2.2.2.2.2.2), (31, m2, m3, m4, m5)))) := by
  show zpe (q_if_over x (ar 3) (ar 4) (ar 5) (ar 6) (ar 7) (ar 8) (ar 17) (ar 18) (ar 19) (ar 20) (ar 21) (ar 22) (ar 32) (ar 33) (ar 34) (ar 35) (ar 36) (ar 37) (ar 38) (ar 50) (ar 51) (fi 2 6) (fi 2 7) (fi 2 8) (fi 2 9) (fi 2 10) (fi 16 6) (fi 16 7) (fi 16 8) (fi 16 9) (fi 16 10) (fi 31 8) (fi 31 9)) (fun t => (some (.int (t.1)), ((zua (zua (zua (zua (zua (zua (zua (zua (zua ar 17 t.2.1) 18 t.2.2.1) 19 t.2.2.2.1) 20 t.2.2.2.2.1) 21 t.2.2.2.2.2.1) 22 t.2.2.2.2.2.2.1) 34 t.2.2.2.2.2.2.2.1) 50 t.2.2.2.2.2.2.2.2.1) 51 t.2.2.2.2.2.2.2.2.2.1), (zuf (zuf (zuf (zuf (zuf fi 16 6 t.2.2.2.2.2.2.2.2.2.2.1) 16 7 t.2.2.2.2.2.2.2.2.2.2.2.1) 16 8 t.2.2.2.2.2.2.2.2.2.2.2.2.1) 16 9 t.2.2.2.2.2.2.2.2.2.2.2.2.2.1) 16 10 t.2.2.2.2.2.2.2.2.2.2.2.2.2.2), (31, m2, m3, m4, m5)))) = _
  rw [h]
  rfl
theorem p_md_over {ar fi : Nat → Nat → Int32} {m1 m2 m3 m4 m5 : Nat} {x : Int32} {t : T_md_over} (h : q_md_over x (ar 65) (ar 66) (ar 68) (ar 77) (ar 78) (ar 79) (ar 80) (ar 81) (ar 82) (ar 83) (ar 85) (fi 64 15) (fi 64 34) = some t) : S_md_over [.ref 64, .int x] (ar, fi, m1, m2, m3, m4, m5) = some (true, (some (.int (t.1)), ((zua (zua (zua (zua (zua ar 65 t.2.1) 66 t.2.2.1) 82 t.2.2.2.1) 83 t.2.2.2.2.1) 85 t.2.2.2.2.2.1), (zuf fi 64 34 t.2.2.2.2.2.2), (m1, m2, m3, m4, m5)))) := by
  show zpe (q_md_over x (ar 65) (ar 66) (ar 68) (ar 77) (ar 78) (ar 79) (ar 80) (ar 81) (ar 82) (ar 83) (ar 85) (fi 64 15) (fi 64 34)) (fun t => (some (.int (t.1)), ((zua (zua (zua (zua (zua ar 65 t.2.1) 66 t.2.2.1) 82 t.2.2.2.1) 83 t.2.2.2.2.1) 85 t.2.2.2.2.2.1), (zuf fi 64 34 t.2.2.2.2.2.2), (m1, m2, m3, m4, m5)))) = _
  rw [h]
  rfl
theorem s_over {g : zH2} (h : Rel g) (x : Int32) : Both S_if_over S_md_over [.ref 0, .int x] [.ref 64, .int x] g := by
  obtain ⟨ar, fi, m1, m2, m3, m4, m5⟩ := g
  obtain ⟨h1, h2, h3, h4, h5, h6⟩ := h
  have h1 : RT (ar 1) (ar 70) := h1
  have h2 : RFed fi := h2
  have h3 : KA 96 (ar 3) (ar 68) := h3
  have h4 : RNow ar fi := h4
  have h5 : RKept ar fi := h5
  have h6 : RLaw ar fi m1 m2 := h6
  rcases h6 with ⟨rfl, rfl, hW⟩ | ⟨rfl, rfl, hW⟩
  · obtain ⟨v, r, t, q1, q2, q3⟩ := d_over hW h3 h4 x (ar 17) (ar 18) (ar 19) (ar 20) (ar 21) (ar 22) (fi 16 6) (fi 16 7) (fi 16 8) (fi 16 9) (fi 16 10) (ar 66) (ar 26) (ar 50) (ar 51) (ar 82) (ar 83) (ar 85) (fi 64 34)
    refine ⟨v, _, _, p_if_over_23 q1, p_md_over (t := (v, t)) q2, ?_⟩
    exact ⟨h1, h2, h3, RS_congr h4 q3, h5, Or.inl ⟨rfl, rfl, hW⟩⟩
  · obtain ⟨v, r, t, q1, q2, q3⟩ := d_over hW h3 h4 x (ar 17) (ar 18) (ar 19) (ar 20) (ar 21) (ar 22) (fi 16 6) (fi 16 7) (fi 16 8) (fi 16 9) (fi 16 10) (ar 66) (ar 34) (ar 50) (ar 51) (ar 82) (ar 83) (ar 85) (fi 64 34)
    refine ⟨v, _, _, p_if_over_31 q1, p_md_over (t := (v, t)) q2, ?_⟩
    exact ⟨h1, h2, h3, RS_congr h4 q3, h5, Or.inr ⟨rfl, rfl, hW⟩⟩
theorem p_if_minutes_23 {ar fi : Nat → Nat → Int32} {m2 m3 m4 m5 : Nat} {x : Int32} {t : T_if_minutes} (h : q_if_minutes x (ar 3) (ar 4) (ar 5) (ar 6) (ar 7) (ar 8) (ar 24) (ar 25) (ar 26) (ar 27) (ar 28) (ar 29) (ar 30) (ar 50) (ar 51) (fi 2 6) (fi 2 7) (fi 2 8) (fi 2 9) (fi 2 10) (fi 23 8) (fi 23 9) = some t) : S_if_minutes [.ref 0, .int x] (ar, fi, 23, m2, m3, m4, m5) = some (true, (some (.int (t.1)), ((zua (zua (zua (zua (zua ar 4 t.2.1) 5 t.2.2.1) 26 t.2.2.2.1) 50 t.2.2.2.2.1) 51 t.2.2.2.2.2.1), (zuf (zuf (zuf fi 2 7 t.2.2.2.2.2.2.1) 2 9 t.2.2.2.2.2.2.2.1) 2 10 t.2.2.2.2.2.2.2.2), (23, m2, m3, m4, m5)))) := by
  show zpe (q_if_minutes x (ar 3) (ar 4) (ar 5) (ar 6) (ar 7) (ar 8) (ar 24) (ar 25) (ar 26) (ar 27) (ar 28) (ar 29) (ar 30) (ar 50) (ar 51) (fi 2 6) (fi 2 7) (fi 2 8) (fi 2 9) (fi 2 10) (fi 23 8) (fi 23 9)) (fun t => (some (.int (t.1)), ((zua (zua (zua (zua (zua ar 4 t.2.1) 5 t.2.2.1) 26 t.2.2.2.1) 50 t.2.2.2.2.1) 51 t.2.2.2.2.2.1), (zuf (zuf (zuf fi 2 7 t.2.2.2.2.2.2.1) 2 9 t.2.2.2.2.2.2.2.1) 2 10 t.2.2.2.2.2.2.2.2), (23, m2, m3, m4, m5)))) = _
  rw [h]
  rfl
theorem p_if_minutes_31 {ar fi : Nat → Nat → Int32} {m2 m3 m4 m5 : Nat} {x : Int32} {t : T_if_minutes} (h : q_if_minutes x (ar 3) (ar 4) (ar 5) (ar 6) (ar 7) (ar 8) (ar 32) (ar 33) (ar 34) (ar 35) (ar 36) (ar 37) (ar 38) (ar 50) (ar 51) (fi 2 6) (fi 2 7) (fi 2 8) (fi 2 9) (fi 2 10) (fi 31 8) (fi 31 9) = some t) : S_if_minutes [.ref 0, .int x] (ar, fi, 31, m2, m3, m4, m5) = some (true, (some (.int (t.1)), ((zua (zua (zua (zua (zua ar 4 t.2.1) 5 t.2.2.1) 34 t.2.2.2.1) 50 t.2.2.2.2.1) 51 t.2.2.2.2.2.1), (zuf (zuf (zuf fi 2 7 t.2.2.2.2.2.2.1) 2 9 t.2.2.2.2.2.2.2.1) 2 10 t.2.2.2.2.2.2.2.2), (31, m2, m3, m4, m5)))) := by
  show zpe (q_if_minutes x (ar 3) (ar 4) (ar 5) (ar 6) (ar 7) (ar 8) (ar 32) (ar 33) (ar 34) (ar 35) (ar 36) (ar 37) (ar 38) (ar 50) (ar 51) (fi 2 6) (fi 2 7) (fi 2 8) (fi 2 9) (fi 2 10) (fi 31 8) (fi 31 9)) (fun t => (some (.int (t.1)), ((zua (zua (zua (zua (zua ar 4 t.2.1) 5 t.2.2.1) 34 t.2.2.2.1) 50 t.2.2.2.2.1) 51 t.2.2.2.2.2.1), (zuf (zuf (zuf fi 2 7 t.2.2.2.2.2.2.1) 2 9 t.2.2.2.2.2.2.2.1) 2 10 t.2.2.2.2.2.2.2.2), (31, m2, m3, m4, m5)))) = _
  rw [h]
  rfl
theorem p_md_minutes {ar fi : Nat → Nat → Int32} {m1 m2 m3 m4 m5 : Nat} {x : Int32} {t : T_md_minutes} (h : q_md_minutes x (ar 65) (ar 68) (ar 77) (ar 78) (ar 79) (ar 80) (ar 81) (ar 82) (ar 83) (ar 85) (fi 64 15) (fi 64 34) = some t) : S_md_minutes [.ref 64, .int x] (ar, fi, m1, m2, m3, m4, m5) = some (true, (some (.int (t.1)), ((zua (zua (zua (zua ar 65 t.2.1) 82 t.2.2.1) 83 t.2.2.2.1) 85 t.2.2.2.2.1), (zuf fi 64 34 t.2.2.2.2.2), (m1, m2, m3, m4, m5)))) := by
  show zpe (q_md_minutes x (ar 65) (ar 68) (ar 77) (ar 78) (ar 79) (ar 80) (ar 81) (ar 82) (ar 83) (ar 85) (fi 64 15) (fi 64 34)) (fun t => (some (.int (t.1)), ((zua (zua (zua (zua ar 65 t.2.1) 82 t.2.2.1) 83 t.2.2.2.1) 85 t.2.2.2.2.1), (zuf fi 64 34 t.2.2.2.2.2), (m1, m2, m3, m4, m5)))) = _
  rw [h]
  rfl
theorem s_minutes {g : zH2} (h : Rel g) (x : Int32) : Both S_if_minutes S_md_minutes [.ref 0, .int x] [.ref 64, .int x] g := by
  obtain ⟨ar, fi, m1, m2, m3, m4, m5⟩ := g
  obtain ⟨h1, h2, h3, h4, h5, h6⟩ := h
  have h1 : RT (ar 1) (ar 70) := h1
  have h2 : RFed fi := h2
  have h3 : KA 96 (ar 3) (ar 68) := h3
  have h4 : RNow ar fi := h4
  have h5 : RKept ar fi := h5
  have h6 : RLaw ar fi m1 m2 := h6
  rcases h6 with ⟨rfl, rfl, hW⟩ | ⟨rfl, rfl, hW⟩
  · obtain ⟨v, st', lf', b', L', e', gn', mn', x', N', c', F', d', lost', q1, q2, q3⟩ := d_minutes hW h3 h4 x (ar 26) (ar 50) (ar 51) (ar 82) (ar 83) (ar 85) (fi 64 34)
    refine ⟨v, _, _, p_if_minutes_23 q1, p_md_minutes (t := (v, N', c', F', d', lost')) q2, ?_⟩
    exact ⟨h1, h2, h3, q3, h5, Or.inl ⟨rfl, rfl, hW⟩⟩
  · obtain ⟨v, st', lf', b', L', e', gn', mn', x', N', c', F', d', lost', q1, q2, q3⟩ := d_minutes hW h3 h4 x (ar 34) (ar 50) (ar 51) (ar 82) (ar 83) (ar 85) (fi 64 34)
    refine ⟨v, _, _, p_if_minutes_31 q1, p_md_minutes (t := (v, N', c', F', d', lost')) q2, ?_⟩
    exact ⟨h1, h2, h3, q3, h5, Or.inr ⟨rfl, rfl, hW⟩⟩
theorem p_if_town {ar fi : Nat → Nat → Int32} {m1 m2 m3 m4 m5 : Nat} {x : Int32} {t : T_if_town} (h : q_if_town x (ar 1) (ar 3) (ar 4) (ar 5) (ar 43) (fi 0 1) (fi 44 1) (fi 44 2) (fi 44 3) (fi 44 4) = some t) : S_if_town [.ref 0, .int x] (ar, fi, m1, m2, m3, m4, m5) = some (true, (some (.int (t.1)), ((zua (zua (zua (zua ar 3 t.2.1) 4 t.2.2.1) 5 t.2.2.2.1) 43 t.2.2.2.2.1), (zuf (zuf (zuf (zuf (zuf fi 0 1 t.2.2.2.2.2.1) 44 1 t.2.2.2.2.2.2.1) 44 2 t.2.2.2.2.2.2.2.1) 44 3 t.2.2.2.2.2.2.2.2.1) 44 4 t.2.2.2.2.2.2.2.2.2.1), (bif Nat.beq t.2.2.2.2.2.2.2.2.2.2 0 then (m1, m2, m3, 1, m5) else (m1, m2, m3, m4, m5))))) := by
  show zpe (q_if_town x (ar 1) (ar 3) (ar 4) (ar 5) (ar 43) (fi 0 1) (fi 44 1) (fi 44 2) (fi 44 3) (fi 44 4)) (fun t => (some (.int (t.1)), ((zua (zua (zua (zua ar 3 t.2.1) 4 t.2.2.1) 5 t.2.2.2.1) 43 t.2.2.2.2.1), (zuf (zuf (zuf (zuf (zuf fi 0 1 t.2.2.2.2.2.1) 44 1 t.2.2.2.2.2.2.1) 44 2 t.2.2.2.2.2.2.2.1) 44 3 t.2.2.2.2.2.2.2.2.1) 44 4 t.2.2.2.2.2.2.2.2.2.1), (bif Nat.beq t.2.2.2.2.2.2.2.2.2.2 0 then (m1, m2, m3, 1, m5) else (m1, m2, m3, m4, m5))))) = _
  rw [h]
  rfl
theorem p_md_town {ar fi : Nat → Nat → Int32} {m1 m2 m3 m4 m5 : Nat} {x : Int32} {t : T_md_town} (h : q_md_town x (ar 65) (ar 68) (ar 70) (ar 84) (fi 64 6) (fi 64 7) (fi 64 8) (fi 64 9) (fi 64 12) (fi 64 14) = some t) : S_md_town [.ref 64, .int x] (ar, fi, m1, m2, m3, m4, m5) = some (true, (some (.int (t.1)), ((zua (zua (zua ar 65 t.2.1) 68 t.2.2.1) 84 t.2.2.2.1), (zuf (zuf (zuf (zuf (zuf (zuf fi 64 6 t.2.2.2.2.1) 64 7 t.2.2.2.2.2.1) 64 8 t.2.2.2.2.2.2.1) 64 9 t.2.2.2.2.2.2.2.1) 64 12 t.2.2.2.2.2.2.2.2.1) 64 14 t.2.2.2.2.2.2.2.2.2), (m1, m2, m3, m4, m5)))) := by
  show zpe (q_md_town x (ar 65) (ar 68) (ar 70) (ar 84) (fi 64 6) (fi 64 7) (fi 64 8) (fi 64 9) (fi 64 12) (fi 64 14)) (fun t => (some (.int (t.1)), ((zua (zua (zua ar 65 t.2.1) 68 t.2.2.1) 84 t.2.2.2.1), (zuf (zuf (zuf (zuf (zuf (zuf fi 64 6 t.2.2.2.2.1) 64 7 t.2.2.2.2.2.1) 64 8 t.2.2.2.2.2.2.1) 64 9 t.2.2.2.2.2.2.2.1) 64 12 t.2.2.2.2.2.2.2.2.1) 64 14 t.2.2.2.2.2.2.2.2.2), (m1, m2, m3, m4, m5)))) = _
  rw [h]
  rfl
theorem s_town {g : zH2} (h : Rel g) (x : Int32) : Both S_if_town S_md_town [.ref 0, .int x] [.ref 64, .int x] g := by
  obtain ⟨ar, fi, m1, m2, m3, m4, m5⟩ := g
  obtain ⟨h1, h2, h3, h4, h5, h6⟩ := h
  have h1 : RT (ar 1) (ar 70) := h1
  have h2 : RFed fi := h2
  have h3 : KA 96 (ar 3) (ar 68) := h3
  have h4 : RNow ar fi := h4
  have h5 : RKept ar fi := h5
  have h6 : RLaw ar fi m1 m2 := h6
  obtain ⟨t, ht, e1, e2⟩ := h2
  obtain ⟨⟨r1, r2, r3, r4, r5, r6, r7, r8, r9, r10, r11⟩, ⟨u1, u2, u3, u4, u5, u6, u7, u8, u9, u10⟩, q1, q2, q3, q4, q5, q6⟩ := d_town h1 x ht (ar 3) (ar 4) (ar 5) (ar 43) (ar 65) (ar 68) (ar 84) (fi 44 1) (fi 44 2) (fi 44 3) (fi 44 4) (fi 64 7) (fi 64 8) (fi 64 9) (fi 64 12) (fi 64 14)
  have q3 : r1 = u1 := q3
  have q4 : r6 = u5 := q4
  subst q3 q4
  have q1' : q_if_town x (ar 1) (ar 3) (ar 4) (ar 5) (ar 43) (fi 0 1) (fi 44 1) (fi 44 2) (fi 44 3) (fi 44 4) = some (r1, r2, r3, r4, r5, r6, r7, r8, r9, r10, r11) := by rw [e1]; exact q1
  have q2' : q_md_town x (ar 65) (ar 68) (ar 70) (ar 84) (fi 64 6) (fi 64 7) (fi 64 8) (fi 64 9) (fi 64 12) (fi 64 14) = some (r1, u2, u3, u4, r6, u6, u7, u8, u9, u10) := by rw [e2]; exact q2
  rcases r11 with _ | r11
  all_goals
    refine ⟨r1, _, _, p_if_town q1', p_md_town (t := (r1, u2, u3, u4, r6, u6, u7, u8, u9, u10)) q2', ?_⟩
    have hF : RFed (zuf (zuf fi 0 1 r6) 64 6 r6) := by
      rcases q5 with q5 | q5
      · exact ⟨t, ht, q5, q5⟩
      · exact ⟨0, by omega, q5, q5⟩
    rcases q6 with ⟨k1, k2, k3, k4, k5⟩ | ⟨k1, k2, k3, k4⟩
    · have k1 : r2 = ar 3 := k1
      have k2 : r3 = ar 4 := k2
      have k3 : r4 = ar 5 := k3
      have k4 : u2 = ar 65 := k4
      have k5 : u3 = ar 68 := k5
      subst k1 k2 k3 k4 k5
      exact ⟨h1, hF, h3, h4, h5, h6⟩
    · refine ⟨h1, hF, k1, ?_, h5, h6⟩
      obtain ⟨w1, w2, w3, w4, w5, w6, w7, w8⟩ := h4
      show RS r3 r4 (ar 6) (ar 7) (ar 8) (fi 2 6) (fi 2 7) (fi 2 8) (fi 2 9) (fi 2 10) u2
      have k2 : ∀ k, k < 96 → r3 k = 0 ∧ r4 k = 0 := k2
      have k3 : ∀ k, k < 192 → u2 k = 0 := k3
      have k4 : ∀ k, 192 ≤ k → u2 k = ar 65 k := k4
      refine ⟨fun k hk => ?_, ⟨fun i hi => ?_, w2.2⟩, w3, ?_, ?_, ?_, w7, fun k hk hs => ?_⟩
      · rw [(k2 k hk).1, (k2 k hk).2, k3 k (by omega), k3 (96 + k) (by omega)]
        exact ⟨rfl, rfl⟩
      · rw [k4 _ (by omega), k4 _ (by omega), k4 _ (by omega), k4 _ (by omega), k4 _ (by omega)]
        exact w2.1 i hi
      · rw [k4 312 (by omega)]; exact w4
      · rw [k4 313 (by omega)]; exact w5
      · rw [k4 314 (by omega)]; exact w6
      · rw [(k2 k hk).1] at hs
        exact absurd hs (by decide)
