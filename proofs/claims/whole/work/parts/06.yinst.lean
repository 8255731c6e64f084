section zyinst
variable {G : zG} {X : Nat × (Nat → Int32)} {C : Nat → List (Nat × zQ)} {p : Program} {l : Launch} {e : Env} {R : Room} {s : State} {m : MethodId} {args : Array Value} {below : List Frame} {meth : Method} {c : Code} {Q : State → Prop}
theorem zbne {a b : Nat} (h : Nat.beq a b = true) : a = b := Nat.eq_of_beq_eq_true h
theorem zblt {a b : Nat} (h : Nat.blt a b = true) : a < b := by simp only [Nat.blt, Nat.ble_eq] at h; omega
theorem zndec {P : Prop} [Decidable P] (h : (!decide P) = true) : ¬ P := by simpa using h
theorem zndec2 {P : Prop} [Decidable P] (h : (!decide P) = false) : P := by simpa using h
theorem zFT_cases (c k : Nat) : zFT c k = 0 ∨ zFT c k = 1 ∨ zFT c k = 2 := by
  have h1 : zFTl.all (fun l => l.all (fun x => Nat.ble x 2)) = true := by decide +kernel
  have h2 : zFT c k ≤ 2 := by
    unfold zFT
    rw [List.getD_eq_getElem?_getD, List.getD_eq_getElem?_getD]
    cases hc : zFTl[c]? with
    | none => simp
    | some l =>
      simp only [Option.getD_some]
      cases hk : l[k]? with
      | none => simp
      | some x => exact Nat.le_of_ble_eq_true (List.all_eq_true.mp (List.all_eq_true.mp h1 l (List.mem_of_getElem? hc)) x (List.mem_of_getElem? hk))
  omega
theorem znar_int {x : Int32} : znar 16 x = x := rfl
theorem zhand_fit {ty : FieldType} {x : Int32} (h : ty = .int) : ∀ i : Nat, fits ty (.int x) = true := fun _ => by subst h; rfl
set_option maxHeartbeats 8000000 in
set_option maxRecDepth 20000 in
theorem zst_W {d own nL n0 z0 : Nat} {bytes : ByteArray} {ini : Bool} {rt : Option FieldType} (hc : zCtx G X d own bytes nL n0 ini p R s m args meth c) (ih : zGood l G X C d) (hix : zIxRow l G X)
    {q : zQ} {pc : Nat} (hq : zck own nL bytes rt ini (pc, q) = true) {lv st : List Value} {h : zH} {o : zO} {k : Nat → List Value → List Value → zH → Option zO}
    (hs : zst X zFT (zex X zFT C d) q pc lv st h k (fun r h => some (r, h)) = some o)
    (hk : ∀ pc lv st h, k pc lv st h = some o → zle h o.2 ∧ zGo G p l e R s m args below meth c Q nL n0 z0 pc lv st h)
    (hend : zEnd G p l e R s m args below meth c Q n0 z0 rt bytes o) (hRc : o.2.1.length - n0 ≤ R.cells) (hRs : zsz o.2 - z0 ≤ R.slots) :
    zGo G p l e R s m args below meth c Q nL n0 z0 pc lv st h := by
  have hc0 := hc
  obtain ⟨hx, hb, hml, hown, hts, hKS, hs0, hsc, hini, hRf, hRl⟩ := hc
  rw [zck, Bool.and_eq_true] at hq
  obtain ⟨hd0, hop⟩ := hq
  have hd := of_decide_eq_true hd0
  clear hd0
  obtain ⟨i, len, r1, r2, x, sw, tr⟩ := q
  dsimp only at hd
  intro H locs ls hP hS hl hn hz
  have kk : ∀ {pc lv st}, k pc lv st h = some o → ∀ {ls : Array Slot}, zloc G ls nL lv → W p l e R s m args below meth c H locs (h.1.length - n0) (zsz h - z0) Q (F0 m pc ls (st.map (zt G))) := fun hs _ hl => (hk _ _ _ _ hs).2 H locs _ hP hS hl hn hz
  have ksto : ∀ {i : Nat} {v : Value} {pc : Nat} {r : List Value}, zcat v = true → i < nL → zsto lv i v (fun lv => k pc lv r h) = some o → ∀ ls' : Array Slot, lv_has ls' nL ((i, zt G v) :: (lv.mapIdx (fun i v => (i, zt G v))).filter (fun q => !(q.1 == i) && !(q.1 + 1 == i && q.2.category == 2))) → W p l e R s m args below meth c H locs (h.1.length - n0) (zsz h - z0) Q (F0 m pc ls' (r.map (zt G))) := by
    intro i v pc r hv hi hs ls' h'
    have h2 := zloc_sto hl hi hv h'
    exact zsto_el hs (fun g hs => kk hs (h2.1 g)) (fun g hs => kk hs (h2.2 g))
  cases i <;> dsimp only [zst] at hs <;> try (cases hs; done)
  case iconst n =>
    simp only [zop, Bool.and_eq_true, decide_eq_true_eq] at hop
    obtain rfl := zbne hop.1
    exact lv_iconst hx hb hd hop.2 (kk hs hl)
  case bipush n =>
    simp only [zop, Bool.and_eq_true, decide_eq_true_eq] at hop
    obtain rfl := zbne hop.1
    exact lv_bipush hx hb hd hop.2 (kk hs hl)
  case sipush n =>
    simp only [zop, Bool.and_eq_true, decide_eq_true_eq] at hop
    obtain rfl := zbne hop.1
    exact lv_sipush hx hb hd hop.2 (kk hs hl)
  case ldc idx =>
    simp only [zop, Bool.and_eq_true, Bool.or_eq_true] at hop
    obtain ⟨h1, h2⟩ := hop
    obtain rfl := zbne h1
    rcases h2 with ⟨h2, h3⟩ | ⟨h2, h3, h4⟩
    · obtain rfl := zbne h2
      exact lv_ldc hx hb hown (hts _ (zKL_use h3)) hd (kk hs hl)
    · obtain rfl := zbne h2
      obtain rfl := zbne h3
      obtain rfl := zbne h4
      exact va_ldcS hx hb hown hKS.2.2.2.1 hd (kk hs hl)
  case ldc_w idx =>
    simp only [zop, Bool.and_eq_true] at hop
    obtain rfl := zbne hop.1
    exact lv_ldcw hx hb hown (hts _ (zKL_use hop.2)) hd (kk hs hl)
  case iload n =>
    simp only [zop, Bool.and_eq_true] at hop
    obtain rfl := zbne hop.1
    obtain rfl := zbne hop.2
    refine zlv_el hs (fun v hv hu1 => zvi_el hu1 (fun y hy hs9 => ?_))
    clear hs
    have hs := hs9
    clear hs9
    subst hy
    exact lv_iload hx hb hd (zloc_get hl hv) (kk hs hl)
  case iload_n n =>
    simp only [zop, Bool.and_eq_true] at hop
    obtain rfl := zbne hop.1
    obtain rfl := zbne hop.2
    refine zlv_el hs (fun v hv hu2 => zvi_el hu2 (fun y hy hs9 => ?_))
    clear hs
    have hs := hs9
    clear hs9
    subst hy
    exact lv_iload_n hx hb hd rfl (zloc_get hl hv) (kk hs hl)
  case aload n =>
    simp only [zop, Bool.and_eq_true] at hop
    obtain rfl := zbne hop.1
    obtain rfl := zbne hop.2
    refine zlv_el hs (fun v hv hu3 => zva_el hu3 (fun _ hy hs9 => ?_))
    clear hs
    have hs := hs9
    clear hs9
    obtain ⟨q, hq⟩ := hy G
    have h1 := zloc_get hl hv
    rw [hq] at h1
    have h2 := kk hs hl
    rw [List.map_cons, hq] at h2
    exact lv_aload hx hb hd h1 h2
  case aload_n n =>
    simp only [zop, Bool.and_eq_true] at hop
    obtain rfl := zbne hop.1
    obtain rfl := zbne hop.2
    refine zlv_el hs (fun v hv hu4 => zva_el hu4 (fun _ hy hs9 => ?_))
    clear hs
    have hs := hs9
    clear hs9
    obtain ⟨q, hq⟩ := hy G
    have h1 := zloc_get hl hv
    rw [hq] at h1
    have h2 := kk hs hl
    rw [List.map_cons, hq] at h2
    exact lv_aload_n hx hb hd rfl h1 h2
  case istore n =>
    simp only [zop, Bool.and_eq_true] at hop
    obtain ⟨h1, h2, h3⟩ := hop
    obtain rfl := zbne h1
    obtain rfl := zbne h2
    refine zi1_el hs (fun y r hst hs9 => ?_)
    clear hs
    have hs := hs9
    clear hs9
    subst hst
    exact lv_istore hx hb hd hl.1 (zblt h3) rfl (ksto rfl (zblt h3) hs)
  case istore_n n =>
    simp only [zop, Bool.and_eq_true] at hop
    obtain ⟨h1, h2, h3⟩ := hop
    obtain rfl := zbne h1
    obtain rfl := zbne h2
    refine zi1_el hs (fun y r hst hs9 => ?_)
    clear hs
    have hs := hs9
    clear hs9
    subst hst
    exact lv_istore_n hx hb hd rfl hl.1 (zblt h3) rfl (ksto rfl (zblt h3) hs)
  case astore n =>
    simp only [zop, Bool.and_eq_true] at hop
    obtain ⟨h1, h2, h3⟩ := hop
    obtain rfl := zbne h1
    obtain rfl := zbne h2
    refine za1_el hs (fun y r hst hs9 => ?_)
    clear hs
    have hs := hs9
    clear hs9
    subst hst
    exact lv_astore hx hb hd hl.1 (zblt h3) rfl (ksto rfl (zblt h3) hs)
  case astore_n n =>
    simp only [zop, Bool.and_eq_true] at hop
    obtain ⟨h1, h2, h3⟩ := hop
    obtain rfl := zbne h1
    obtain rfl := zbne h2
    refine za1_el hs (fun y r hst hs9 => ?_)
    clear hs
    have hs := hs9
    clear hs9
    subst hst
    exact lv_astore_n hx hb hd rfl hl.1 (zblt h3) rfl (ksto rfl (zblt h3) hs)
  case iinc kx n =>
    simp only [zop, Bool.and_eq_true, decide_eq_true_eq] at hop
    obtain ⟨h1, h2, h3⟩ := hop
    obtain rfl := zbne h1
    obtain rfl := zbne h2
    refine zlv_el hs (fun v hv hu5 => zvi_el hu5 (fun y hy hs9 => ?_))
    clear hs
    have hs := hs9
    clear hs9
    subst hy
    have hlt : kx < nL := Nat.lt_of_lt_of_le (List.getElem?_eq_some_iff.mp hv).1 hl.2.1
    exact lv_iinc (k := kx) (x := y) (v := y + x) hx hb hd hl.1 (by rw [List.getElem?_mapIdx, hv]; rfl) (by rw [h3]) hlt rfl (ksto rfl hlt hs)
  case iadd =>
    obtain rfl := zbne hop
    refine zi2_el hs (fun x y r hst hs9 => ?_)
    clear hs
    have hs := hs9
    clear hs9
    subst hst
    exact lv_iadd hx hb hd (kk hs hl)
  case isub =>
    obtain rfl := zbne hop
    refine zi2_el hs (fun x y r hst hs9 => ?_)
    clear hs
    have hs := hs9
    clear hs9
    subst hst
    exact lv_isub hx hb hd (kk hs hl)
  case imul =>
    obtain rfl := zbne hop
    refine zi2_el hs (fun x y r hst hs9 => ?_)
    clear hs
    have hs := hs9
    clear hs9
    subst hst
    exact lv_imul hx hb hd (kk hs hl)
  case iand =>
    obtain rfl := zbne hop
    refine zi2_el hs (fun x y r hst hs9 => ?_)
    clear hs
    have hs := hs9
    clear hs9
    subst hst
    exact lv_iand hx hb hd (kk hs hl)
  case ior =>
    obtain rfl := zbne hop
    refine zi2_el hs (fun x y r hst hs9 => ?_)
    clear hs
    have hs := hs9
    clear hs9
    subst hst
    exact lv_ior hx hb hd (kk hs hl)
  case ixor =>
    obtain rfl := zbne hop
    refine zi2_el hs (fun x y r hst hs9 => ?_)
    clear hs
    have hs := hs9
    clear hs9
    subst hst
    exact lv_ixor hx hb hd (kk hs hl)
  case idiv =>
    obtain rfl := zbne hop
    refine zi2_el hs (fun x y r hst hu6 => zg_el hu6 (fun g hs9 => ?_))
    clear hs
    have hs := hs9
    clear hs9
    subst hst
    exact lv_idiv hx hb hd (zndec g) (kk hs hl)
  case irem =>
    obtain rfl := zbne hop
    refine zi2_el hs (fun x y r hst hu7 => zg_el hu7 (fun g hs9 => ?_))
    clear hs
    have hs := hs9
    clear hs9
    subst hst
    exact lv_irem hx hb hd (zndec g) (kk hs hl)
  case ishl =>
    obtain rfl := zbne hop
    refine zi2_el hs (fun x y r hst hs9 => ?_)
    clear hs
    have hs := hs9
    clear hs9
    subst hst
    exact lv_ishl hx hb hd (kk hs hl)
  case ishr =>
    obtain rfl := zbne hop
    refine zi2_el hs (fun x y r hst hs9 => ?_)
    clear hs
    have hs := hs9
    clear hs9
    subst hst
    exact lv_ishr hx hb hd (kk hs hl)
  case iushr =>
    obtain rfl := zbne hop
    refine zi2_el hs (fun x y r hst hs9 => ?_)
    clear hs
    have hs := hs9
    clear hs9
    subst hst
    exact lv_iushr hx hb hd rfl (kk hs hl)
  case ineg =>
    obtain rfl := zbne hop
    refine zi1_el hs (fun x r hst hs9 => ?_)
    clear hs
    have hs := hs9
    clear hs9
    subst hst
    exact lv_ineg hx hb hd (kk hs hl)
  case i2b =>
    obtain rfl := zbne hop
    refine zi1_el hs (fun x r hst hs9 => ?_)
    clear hs
    have hs := hs9
    clear hs9
    subst hst
    exact lv_i2b hx hb hd rfl (kk hs hl)
  case i2c =>
    obtain rfl := zbne hop
    refine zi1_el hs (fun x r hst hs9 => ?_)
    clear hs
    have hs := hs9
    clear hs9
    subst hst
    exact lv_i2c hx hb hd rfl (kk hs hl)
  case dup =>
    obtain rfl := zbne hop
    split at hs
    · exact zg_el hs (fun g hs => lv_dup hx hb hd (zt_cat g) (kk hs hl))
    · cases hs
  case pop =>
    obtain rfl := zbne hop
    split at hs
    · exact zg_el hs (fun g hs => lv_pop hx hb hd (zt_cat g) (kk hs hl))
    · cases hs
  case goto off =>
    simp only [zop, Bool.and_eq_true, decide_eq_true_eq] at hop
    obtain rfl := zbne hop.1
    exact lv_goto hx hb hd hop.2 (kk hs hl)
  case if_icmp cnd off =>
    simp only [zop, Bool.and_eq_true, decide_eq_true_eq] at hop
    obtain ⟨h1, ht⟩ := hop
    obtain rfl := zbne h1
    refine zi2_el hs (fun x y r hst hs9 => ?_)
    clear hs
    have hs := hs9
    clear hs9
    subst hst
    refine zb_el hs (fun g hs9 => ?_) (fun g hs9 => ?_) <;> clear hs <;> have hs := hs9 <;> clear hs9 <;> cases cnd
    · exact lv_icmp_eq hx hb hd ht (fun _ => kk hs hl) (fun q => absurd (of_decide_eq_true g) q)
    · exact lv_icmp_ne hx hb hd ht (fun _ => kk hs hl) (fun q => absurd q (zndec g))
    · exact lv_icmp_lt hx hb hd ht (fun _ => kk hs hl) (fun q => absurd (of_decide_eq_true g) q)
    · exact lv_icmp_ge hx hb hd ht (fun _ => kk hs hl) (fun q => absurd (of_decide_eq_true g) q)
    · exact lv_icmp_gt hx hb hd ht (fun _ => kk hs hl) (fun q => absurd (of_decide_eq_true g) q)
    · exact lv_icmp_le hx hb hd ht (fun _ => kk hs hl) (fun q => absurd (of_decide_eq_true g) q)
    · exact lv_icmp_eq hx hb hd ht (fun q => absurd q (of_decide_eq_false g)) (fun _ => kk hs hl)
    · exact lv_icmp_ne hx hb hd ht (fun q => absurd (zndec2 g) q) (fun _ => kk hs hl)
    · exact lv_icmp_lt hx hb hd ht (fun q => absurd q (of_decide_eq_false g)) (fun _ => kk hs hl)
    · exact lv_icmp_ge hx hb hd ht (fun q => absurd q (of_decide_eq_false g)) (fun _ => kk hs hl)
    · exact lv_icmp_gt hx hb hd ht (fun q => absurd q (of_decide_eq_false g)) (fun _ => kk hs hl)
    · exact lv_icmp_le hx hb hd ht (fun q => absurd q (of_decide_eq_false g)) (fun _ => kk hs hl)
  case ifCond cnd off =>
    simp only [zop, Bool.and_eq_true, decide_eq_true_eq] at hop
    obtain ⟨h1, ht⟩ := hop
    obtain rfl := zbne h1
    refine zi1_el hs (fun x r hst hs9 => ?_)
    clear hs
    have hs := hs9
    clear hs9
    subst hst
    refine zb_el hs (fun g hs9 => ?_) (fun g hs9 => ?_) <;> clear hs <;> have hs := hs9 <;> clear hs9 <;> cases cnd
    · exact lv_if_eq hx hb hd ht (fun _ => kk hs hl) (fun q => absurd (of_decide_eq_true g) q)
    · exact lv_if_ne hx hb hd ht (fun _ => kk hs hl) (fun q => absurd q (zndec g))
    · exact lv_if_lt hx hb hd ht (fun _ => kk hs hl) (fun q => absurd (of_decide_eq_true g) q)
    · exact lv_if_ge hx hb hd ht (fun _ => kk hs hl) (fun q => absurd (of_decide_eq_true g) q)
    · exact lv_if_gt hx hb hd ht (fun _ => kk hs hl) (fun q => absurd (of_decide_eq_true g) q)
    · exact lv_if_le hx hb hd ht (fun _ => kk hs hl) (fun q => absurd (of_decide_eq_true g) q)
    · exact lv_if_eq hx hb hd ht (fun q => absurd q (of_decide_eq_false g)) (fun _ => kk hs hl)
    · exact lv_if_ne hx hb hd ht (fun q => absurd (zndec2 g) q) (fun _ => kk hs hl)
    · exact lv_if_lt hx hb hd ht (fun q => absurd q (of_decide_eq_false g)) (fun _ => kk hs hl)
    · exact lv_if_ge hx hb hd ht (fun q => absurd q (of_decide_eq_false g)) (fun _ => kk hs hl)
    · exact lv_if_gt hx hb hd ht (fun q => absurd q (of_decide_eq_false g)) (fun _ => kk hs hl)
    · exact lv_if_le hx hb hd ht (fun q => absurd q (of_decide_eq_false g)) (fun _ => kk hs hl)
  case tableswitch df lo hi os =>
    simp only [zop, Bool.and_eq_true, decide_eq_true_eq] at hop
    obtain ⟨h1, h2, h3⟩ := hop
    refine zi1_el hs (fun x r hst hs9 => ?_)
    clear hs
    have hs := hs9
    clear hs9
    subst hst
    rcases zckt_el h3 hs with ⟨j, off, t, e1, e2, e3, e4⟩ | ⟨e1, e2⟩
    · have hj : j < os.size := by simpa using (List.getElem?_eq_some_iff.mp e1).1
      have e5 : (x.toInt - lo).toNat = j := by omega
      exact lv_tableIn hx hb hd (by omega) (by omega) (by rw [e5]; simpa using e1) e3 (kk e4 hl)
    · exact lv_tableOut hx hb hd (by rcases e1 with e1 | e1; · exact Or.inl e1
                                     · refine Or.inr ?_
                                       simp at e1
                                       omega) h2 (kk e2 hl)
  case lookupswitch df ps =>
    simp only [zop, Bool.and_eq_true, decide_eq_true_eq] at hop
    obtain ⟨h1, h2, h3⟩ := hop
    refine zi1_el hs (fun x r hst hs9 => ?_)
    clear hs
    have hs := hs9
    clear hs9
    subst hst
    obtain ⟨t, e1, e2⟩ := zckl_el h1 h3 hs
    exact lv_lookup hx hb hd h2 rfl e1 (kk e2 hl)
  case getfield idx =>
    simp only [zop, Bool.and_eq_true] at hop
    obtain rfl := zbne hop.1
    obtain ⟨hw, h12, hk2⟩ := zFL_use hop.2
    refine za1_el hs (fun a r hst hu8 => zsh_el hu8 (fun c' n' ha hu9 => zg_el hu9 (fun g hs9 => ?_)))
    clear hs
    have hs := hs9
    clear hs9
    subst hst
    rw [Bool.and_eq_true] at g
    obtain rfl := zbne g.1
    exact va_get hx hb hts (fun w hw => zK_ok _ h12 w (List.mem_append_left _ hw)) hown hKS.1 hP a ((zW_get ha).trans (by rw [zE1_obj (by omega)])) (zcl_ok _ h12) r2 hk2 (hts _ hw) (fun _ h => h) (zfs_get (zblt g.2)) hd (kk hs hl)
  case putfield idx =>
    simp only [zop, Bool.and_eq_true, Bool.or_eq_true] at hop
    obtain ⟨h1, h2, h3⟩ := hop
    obtain rfl := zbne h1
    obtain ⟨hw, h12, hk2⟩ := zFL_use h2
    have hfk := zfk_use h12 hk2
    split at hs
    · rename_i v a r
      refine zsh_el hs (fun c' n' ha hu10 => zg_el hu10 (fun g hs9 => ?_))
      clear hs
      have hs := hs9
      clear hs9
      rw [Bool.and_eq_true] at g
      obtain rfl := zbne g.1
      have he := (zW_get (G := G) ha).trans (by rw [zE1_obj (by omega)])
      have hlen : r2 < (zfs G h c' a n').length := by rw [zfs_len]; exact zblt g.2
      have key : ∀ {v' : Value} {h' : zH}, h'.1 = h.1 → narrow (zTy c' r2) (zt G v') = zt G v' → fits (zTy c' r2) (zt G v') = true → zW G h' = (zW G h).set a (G.1 + a, .inr (c', (zfs G h c' a n').set r2 (zt G v'))) → k (pc + 3) lv r h' = some o → W p l e R s m args below meth c H locs (h.1.length - n0) (zsz h - z0) Q (F0 m pc ls (zt G v' :: .ref (G.1 + a) :: r.map (zt G))) := by
        intro v' h' hh hna hfi hWe hs
        have hsz : zsz h' = zsz h := by simp only [zsz, hh]
        have fin : ∀ (H1 : Heap) (locs1 : List Loc), va_P G.2.2.2.1 vwCl ((zW G h).set a (G.1 + a, .inr (c', (zfs G h c' a n').set r2 (zt G v')))) H1 → va_D (zA G) ((zW G h).set a (G.1 + a, .inr (c', (zfs G h c' a n').set r2 (zt G v')))) → va_S (zA G) s.heap H1 locs1 → W p l e R s m args below meth c H1 locs1 (h.1.length - n0) (zsz h - z0) Q (F0 m (pc + 3) ls (r.map (zt G))) := by
          intro H1 locs1 hP1 _ hS1
          have h9 := (hk _ _ _ _ hs).2 H1 locs1 ls (by rw [hWe]; exact hP1) hS1 hl (by rw [hh]; exact hn) (by rw [hsz]; exact hz)
          rw [hh, hsz] at h9
          exact h9
        cases hfin : (zTt c' r2).2.2.2 with
        | false => exact va_put hx hb hts (fun w hw => zK_ok _ h12 w (List.mem_append_left _ hw)) (zTy c') (zty_ok _ h12) (znm_ok _ h12) hown hKS.1 hP (zW_D G h) hS a he (zcl_ok _ h12) r2 hk2 (hts _ hw) (fun _ h => h) hfin (zty_ok _ h12 _ hk2) hna hfi hlen hd fin
        | true =>
          rw [hfin] at h3
          have h3 : ini = true ∧ Nat.beq own c' = true := by simpa using h3
          obtain rfl := zbne h3.2
          exact va_putF hx hb hts (fun w hw => zK_ok _ h12 w (List.mem_append_left _ hw)) (zTy own) (zty_ok _ h12) (znm_ok _ h12) hown hKS.1 hP (zW_D G h) hS a he (zcl_ok _ h12) r2 hk2 (hts _ hw) (fun _ h => h) hfin (hini h3.1) hfk.1 (zty_ok _ h12 _ hk2) hna hfi hlen hd fin
      refine zput_el hs (fun z hv hF hs9 => ?_) (fun z hv hF hs9 => ?_) <;> clear hs <;> have hs := hs9 <;> clear hs9
      · subst hv
        refine key (v' := .int z) (h' := (h.1, h.2.1, zup h.2.2.1 a (zup (h.2.2.1 a) r2 z), h.2.2.2)) rfl ?_ ?_ (zW_putI ha (by omega) (by rcases hF with hF | ⟨hF, _⟩ <;> rw [hF] <;> decide)) hs
        · rcases hF with hF | ⟨hF, rfl | rfl⟩
          · rw [hfk.2.1 hF]; rfl
          · rw [hfk.2.2.1 hF]; rfl
          · rw [hfk.2.2.1 hF]; rfl
        · rcases hF with hF | ⟨hF, rfl | rfl⟩
          · rw [hfk.2.1 hF]; rfl
          · rw [hfk.2.2.1 hF]; rfl
          · rw [hfk.2.2.1 hF]; rfl
      · subst hv
        refine key (v' := .ref z) (h' := (h.1, h.2.1, h.2.2.1, zup h.2.2.2 a (zup (h.2.2.2 a) r2 (.ref z)))) rfl ?_ ?_ (zW_putR ha (by omega) hF) hs
        · rcases hfk.2.2.2 hF with ⟨n, e⟩ | ⟨n, e⟩ <;> rw [e] <;> rfl
        · rcases hfk.2.2.2 hF with ⟨n, e⟩ | ⟨n, e⟩ <;> rw [e] <;> rfl
    · cases hs
  case iaload =>
    obtain rfl := zbne hop
    refine zald_el hs (fun i a r c' n' hst ha hkd hin hs9 => ?_) (fun i r hst hkd hin hs9 => ?_) <;> clear hs <;> have hs := hs9 <;> clear hs9
    · subst hst
      obtain rfl := zbne hkd
      exact va_iald hx hb hKS.1 hP a 0 ((zW_get ha).trans (by rw [zE1_arr (by omega)]; rfl)) rfl hin hd (kk hs hl)
    · subst hst
      exact va_sld (A := zA G) hx hb hKS.2.2.1 (by omega) (fun hh => by have h2 : G.1 ≤ G.2.1 := hh; omega) hS hin hd (kk hs hl)
  case baload =>
    obtain rfl := zbne hop
    refine zald_el hs (fun i a r c' n' hst ha hkd hin hs9 => ?_) (fun i r hst hkd hin hs9 => ?_) <;> clear hs <;> have hs := hs9 <;> clear hs9
    · subst hst
      rw [Bool.or_eq_true] at hkd
      rcases hkd with hkd | hkd
      · obtain rfl := zbne hkd
        exact va_bald hx hb hKS.1 hP a 1 ((zW_get ha).trans (by rw [zE1_arr (by omega)]; rfl)) rfl hin hd (kk hs hl)
      · obtain rfl := zbne hkd
        exact va_zald hx hb hKS.1 hP a 2 ((zW_get ha).trans (by rw [zE1_arr (by omega)]; rfl)) rfl hin hd (kk hs hl)
    · cases hkd
  case iastore =>
    obtain rfl := zbne hop
    refine zast_el hs (fun v i a r c' n' hst ha hkd hin hs9 => ?_)
    clear hs
    have hs := hs9
    clear hs9
    subst hst
    obtain rfl := zbne hkd
    refine va_iast hx hb hKS.1 hP (zW_D G h) hS a 0 ((zW_get ha).trans (by rw [zE1_arr (by omega)]; rfl)) rfl hin hd (fun H1 locs1 hP1 _ hS1 => ?_)
    exact (hk _ _ _ _ hs).2 H1 locs1 ls (by rw [zW_ast ha (by omega)]; exact hP1) hS1 hl hn hz
  case bastore =>
    obtain rfl := zbne hop
    refine zast_el hs (fun v i a r c' n' hst ha hkd hin hs9 => ?_)
    clear hs
    have hs := hs9
    clear hs9
    subst hst
    rw [Bool.or_eq_true] at hkd
    rcases hkd with hkd | hkd
    · obtain rfl := zbne hkd
      refine va_bast hx hb hKS.1 hP (zW_D G h) hS a 1 ((zW_get ha).trans (by rw [zE1_arr (by omega)]; rfl)) rfl hin hd (fun H1 locs1 hP1 _ hS1 => ?_)
      exact (hk _ _ _ _ hs).2 H1 locs1 ls (by rw [zW_ast ha (by omega)]; exact hP1) hS1 hl hn hz
    · obtain rfl := zbne hkd
      refine va_zast hx hb hKS.1 hP (zW_D G h) hS a 2 ((zW_get ha).trans (by rw [zE1_arr (by omega)]; rfl)) rfl hin hd (fun H1 locs1 hP1 _ hS1 => ?_)
      exact (hk _ _ _ _ hs).2 H1 locs1 ls (by rw [zW_ast ha (by omega)]; exact hP1) hS1 hl hn hz
  case arraylength =>
    obtain rfl := zbne hop
    refine zlen_el hs (fun a r c' n' hst ha hkd hs9 => ?_) (fun r hst hs9 => ?_) <;> clear hs <;> have hs := hs9 <;> clear hs9
    · subst hst
      obtain ⟨t0, ty, ht⟩ : ∃ (t0 : Nat) (ty : FieldType), (ztys G)[t0]? = some (zcA G c', ty) := by
        unfold zcA
        split
        · exact ⟨0, _, rfl⟩
        · split
          · exact ⟨1, _, rfl⟩
          · exact ⟨2, _, rfl⟩
      exact va_alen (x := (n', .inl (h.2.1 a))) hx hb hKS.1 hP a t0 ((zW_get ha).trans (by rw [zE1_arr (by omega)])) ht rfl hd (kk hs hl)
    · subst hst
      exact va_slen (A := zA G) (b := G.2.1) hx hb hKS.2.2.1 (by omega) (fun hh => by have h2 : G.1 ≤ G.2.1 := hh; omega) hS hd (kk hs hl)
  case new idx =>
    simp only [zop, Bool.and_eq_true] at hop
    obtain ⟨h1, h2, h3⟩ := hop
    obtain rfl := zbne h1
    obtain ⟨hw, h12⟩ := zCL_use h2
    have h3 : r2 = zNf r1 := zbne h3
    obtain ⟨hle, hgo⟩ := hk _ _ _ _ hs
    have hKn := hKS.1.1 r1 _ (zcl_ok _ h12)
    have hin := fun w hw => zK_ok _ h12 w (List.mem_append_left _ hw)
    have hl1 : (znew h r1 r2).1.length = h.1.length + 1 := by simp [znew]
    have hz1 : zsz (znew h r1 r2) = zsz h + r2 := zsz_push
    have hle1 := hle.1
    have hle2 := hle.2
    rw [hl1] at hle1
    rw [hz1] at hle2
    refine zW_size hs0 hn hP hS (fun hsz => ?_)
    refine W.newcK hx hb hown (hts _ hw) (hts _ (zK_ok _ h12 (.instantiable (zRs r1) (zNf r1)) (List.mem_append_right _ (by simp)))) (hts _ (zK_ok _ h12 (.initialized (zRs r1)) (List.mem_append_right _ (by simp)))) rfl hd (by omega) (by omega) hKn.2.1 hsz (fun H1 kC hkC e1 z1 o1 => ?_)
    have hkeep : ∀ (k : Nat) (x : Nat × va_E), (zW G h)[k]? = some x → H1[x.1]? = H[x.1]? := fun k x hx => o1 x.1 (by have := (hP k x hx).lt; omega)
    have hP1 : va_P G.2.2.2.1 vwCl (zW G (znew h r1 r2)) H1 := by
      rw [zW_push (h := h) (q := (r1, r2)) rfl (fun j q hj => by simp only [zE1, zfs, zfv, znew, zup_ne (Nat.ne_of_lt hj)])]
      refine (hP.kept hkeep).app (fun kx y hy => ?_)
      have hz0' : kx < 1 := (List.getElem?_eq_some_iff.mp hy).1
      rw [show kx = 0 by omega] at hy
      cases hy
      rw [zE1_obj (by omega)]
      refine ⟨_, zcl_ok _ h12, (u_born (zTy r1) hts hin hKn hkC e1 (zty_ok _ h12)).to (fun j hj => ?_)⟩
      have hj2 : j < zNf r1 := hj
      have hfk := zfk_use h12 hj2
      show defaultValue (zTy r1 j) = (zfs G (znew h r1 r2) r1 h.1.length r2).getD j .null
      rw [List.getD_eq_getElem?_getD, zfs_get (by omega)]
      simp only [Option.getD_some, zfv, znew, zup_same]
      have h3c := zFT_cases r1 j
      rcases h3c with hc | hc | hc
      · rw [hc, hfk.2.1 hc]; rfl
      · rw [hc, hfk.2.2.1 hc]; rfl
      · rcases hfk.2.2.2 hc with ⟨n, e⟩ | ⟨n, e⟩ <;> rw [hc, e] <;> rfl
    have h9 := hgo H1 locs ls hP1 ⟨Nat.le_trans hS.1 (by omega), fun x h1 h2 => (o1 x (by have := hS.1; omega)).trans (hS.2.1 x h1 h2), hS.2.2⟩ hl (by omega) (by omega)
    rw [hl1, hz1, show h.1.length + 1 - n0 = h.1.length - n0 + 1 by omega, show zsz h + r2 - z0 = zsz h - z0 + zNf r1 by omega] at h9
    exact h9
  case newarray aty =>
    simp only [zop, Bool.and_eq_true] at hop
    obtain ⟨h1, h2⟩ := hop
    obtain rfl := zbne h1
    refine zi1_el hs (fun n r hst hu => zg_el hu (fun g hs9 => ?_))
    clear hs
    subst hst
    simp only [Bool.and_eq_true] at g
    have hneg := zndec g.1
    have hcap := Nat.le_of_ble_eq_true g.2
    obtain ⟨hle, hgo⟩ := hk _ _ _ _ hs9
    have hl1 : (znewa h r1 n.toNatClampNeg).1.length = h.1.length + 1 := by simp [znewa]
    have hz1 : zsz (znewa h r1 n.toNatClampNeg) = zsz h + n.toNatClampNeg := zsz_push
    have hle1 := hle.1
    have hle2 := hle.2
    rw [hl1] at hle1
    rw [hz1] at hle2
    have gen : ∀ (ty : FieldType) (t0 : Nat) (cX : ClassId), newarray.typeOf aty = ty → 16 ≤ r1 → zcA G r1 = cX → (ztys G)[t0]? = some (cX, ty) → componentBytes ty ≤ 8 → defaultValue ty = .int 0 → (∀ cA, va_RA s cA ty → s.vm.findClass ("[" ++ ty.toString) = some cA) → (Cond.arrayClass ty).before args s = true → W p l e R s m args below meth c H locs (h.1.length - n0) (zsz h - z0) Q (F0 m pc ls ((Value.int n :: r).map (zt G))) := by
      intro ty t0 cX hty h16 hcX ht hcb hdf hRA harr
      subst hty
      refine zW_size hs0 hn hP hS (fun hsz => ?_)
      refine va_newaK hx hb harr rfl hd rfl hneg rfl (Nat.le_trans (Nat.mul_le_mul hcap hcb) (by decide)) (by omega) (by omega) hsz (fun H1 cA e1 z1 o1 _ hNm => ?_)
      have hcA : cA = cX := Option.some.inj (hNm.symm.trans (hRA cX (hKS.1.2 t0 _ ht).2))
      have hkeep : ∀ (k : Nat) (x : Nat × va_E), (zW G h)[k]? = some x → H1[x.1]? = H[x.1]? := fun k x hx => o1 x.1 (by have := (hP k x hx).lt; omega)
      have hP1 : va_P G.2.2.2.1 vwCl (zW G (znewa h r1 n.toNatClampNeg)) H1 := by
        rw [zW_push (h := h) (q := (r1, n.toNatClampNeg)) rfl (fun j q hj => by simp only [zE1, zfs, zfv, znewa, zup_ne (Nat.ne_of_lt hj)])]
        refine (hP.kept hkeep).app (fun kx y hy => ?_)
        have hz0' : kx < 1 := (List.getElem?_eq_some_iff.mp hy).1
        rw [show kx = 0 by omega] at hy
        cases hy
        rw [zE1_arr h16, hcX, ← hcA]
        show H1[G.1 + h.1.length]? = some (vp_cell cA (n.toNatClampNeg, .inl _))
        rw [e1, hdf, vp_cell_i]
        simp only [znewa, zup_same]
      have h9 := hgo H1 locs ls hP1 ⟨Nat.le_trans hS.1 (by omega), fun x h1 h2 => (o1 x (by have := hS.1; omega)).trans (hS.2.1 x h1 h2), hS.2.2⟩ hl (by omega) (by omega)
      rw [hl1, hz1, show h.1.length + 1 - n0 = h.1.length - n0 + 1 by omega, show zsz h + n.toNatClampNeg - z0 = zsz h - z0 + n.toNatClampNeg by omega] at h9
      exact h9
    cases aty
    case int =>
      obtain rfl := zbne h2
      exact gen .int 0 _ rfl (by omega) rfl rfl (by decide) rfl (fun _ h => h) (hts _ (zAA_ok _ (by simp)))
    case byte =>
      obtain rfl := zbne h2
      exact gen .byte 1 _ rfl (by omega) rfl rfl (by decide) rfl (fun _ h => h) (hts _ (zAA_ok _ (by simp)))
    case boolean =>
      obtain rfl := zbne h2
      exact gen .boolean 2 _ rfl (by omega) rfl rfl (by decide) rfl (fun _ h => h) (hts _ (zAA_ok _ (by simp)))
    all_goals cases h2
  case invokespecial idx =>
    simp only [zop, Bool.and_eq_true, Bool.or_eq_true] at hop
    obtain ⟨h1, h2⟩ := hop
    obtain rfl := zbne h1
    refine zb_el hs (fun g hs9 => ?_) (fun g hs9 => ?_) <;> clear hs <;> have hs := hs9 <;> clear hs9
    · rcases h2 with ⟨h2, h3⟩ | ⟨h2, h3, h4⟩
      · refine za1_el hs (fun a r hst hu11 => zg_el hu11 (fun g2 hs9 => ?_))
        clear hs
        have hs := hs9
        clear hs9
        subst hst
        exact W.objInit hx hb hown (hts _ (zOL_use h3)) (hts _ (zOI_ok _ (by simp))) (hts _ (zOI_ok _ (by simp))) rfl (by rw [hml]; exact hl.1.1) rfl hd (by omega) (by have h7 := zrest_cat (G := G) (r := r) g2; show 2 * 0 + _ + 12 ≤ _; omega) (kk hs hl)
      · obtain rfl := zbne g
        exact absurd h3 (by decide +kernel)
    · rcases h2 with ⟨h2, h3⟩ | ⟨h2, h3, h4⟩
      · rw [g] at h2
        cases h2
      · refine zrecv1_el hs (fun b0 r0 hbr hu => zcall_el hu (fun r' h' g1 g2 g3 hE hs9 => ?_))
        clear hs
        have hs := hs9
        clear hs9
        refine zinv_W hc0 ih (Or.inr (Or.inl ⟨rfl, zbne h3⟩)) (fun _ => ⟨b0, r0, hbr, fun q => by cases q⟩) h2 (zbne h4) hd g1 g2 g3 hE (hk _ _ _ _ hs).1 hRc hRs hP hS hl hn hz (fun H1 locs1 hP1 hS1 => (hk _ _ _ _ hs).2 H1 locs1 ls hP1 hS1 hl ?_ ?_)
        · have := (zex_grow d _ _ _ _ hE).1; exact Nat.le_trans hn this
        · have := (zex_grow d _ _ _ _ hE).2; exact Nat.le_trans hz this
  case invokestatic idx =>
    simp only [zop, Bool.and_eq_true, Bool.or_eq_true] at hop
    obtain ⟨h1, h2⟩ := hop
    obtain rfl := zbne h1
    refine zb_el hs (fun g hs9 => ?_) (fun g hs8 => zb_el hs8 (fun g5 hs9 => ?_) (fun g5 hs9 => ?_)) <;> clear hs <;> have hs := hs9 <;> clear hs9
    · obtain rfl := zbne g
      rcases h2 with (⟨h2, h3, h4⟩ | ⟨h2, h3⟩) | ⟨h2, h3, h4⟩
      · obtain rfl := zbne h3
        obtain rfl := zbne h4
        refine zcopy_el hs (fun n dp a1 sp a0 r n0' n1' hst ha0 ha1 q1 q2 q3 q4 q5 g2 hs9 => ?_)
        clear hs
        subst hst
        have h7 := zrest_cat (G := G) g2
        have h8 : nativeFrameWords "java/lang/System" "arraycopy" 5 = 7 := by decide
        have h10 : ((r.map (zt G)).map fun v => v.category).sum + (nativeFrameWords "java/lang/System" "arraycopy" 5 + 11) ≤ R.locals := by omega
        have hA0 : (zW G h)[a0]? = some (G.1 + a0, .inl (G.2.2.2.2.1, n0', .inl (h.2.1 a0))) := (zW_get ha0).trans (by rw [zE1_arr (by omega)]; rfl)
        have hA1 : (zW G h)[a1]? = some (G.1 + a1, .inl (G.2.2.2.2.1, n1', .inl (h.2.1 a1))) := (zW_get ha1).trans (by rw [zE1_arr (by omega)]; rfl)
        refine va_copyi (own := zRs 7) (index := 46) hx hb (by rw [hml]; exact hl.1.1.symm) hown (hts _ (zAC_ok _ (by simp))) (hts _ (zAC_ok _ (by simp))) (hts _ (zAC_ok _ (by simp))) (hts _ (zAC_ok _ (by simp))) hKS.1 hP (zW_D G h) hS a0 a1 0 0 hA0 hA1 rfl rfl rfl q1 q2 q3 q4 q5 (fun _ _ => rfl) (by omega) h10 hd (fun H1 locs1 hP1 _ hS1 => ?_)
        exact (hk _ _ _ _ hs9).2 H1 locs1 ls (by rw [zW_cpy ha1 (by omega)]; exact hP1) hS1 hl hn hz
      · exact absurd h3 (by decide)
      · rw [zM_out (by omega)] at h3
        cases h3
    · rcases h2 with (⟨h2, h3⟩ | ⟨h2, h3⟩) | ⟨h2, h3, h4⟩
      · rw [g] at h2
        cases h2
      · obtain ⟨hw, h9⟩ := zTL_use h2
        have hcc : h.1.length - n0 ≤ R.cells ∧ zsz h - z0 ≤ R.slots := by
          have f : ∀ {pc lv st}, k pc lv st h = some o → h.1.length - n0 ≤ R.cells ∧ zsz h - z0 ≤ R.slots := fun e => by
            have h11 := (hk _ _ _ _ e).1.1
            have h12 := (hk _ _ _ _ e).1.2
            exact ⟨by omega, by omega⟩
          exact zmath_el hs (fun _ _ _ _ _ _ e => f e) (fun _ _ _ _ _ _ e => f e) (fun _ _ _ _ _ _ e => f e)
        refine zmath_el hs (fun x y r e hst g2 hs9 => ?_) (fun x y r e hst g2 hs9 => ?_) (fun x r e e2 hst g2 hs9 => ?_) <;> clear hs <;> subst hst <;> have h7 := zrest_cat (G := G) g2
        · subst e
          exact va_mmax hx hb (by rw [hml]; exact hl.1.1.symm) hown (hts _ hw) (hts _ (zMT_ok _ (by simp))) (hts _ (zMT_ok _ (by simp))) (hts _ (zMT_ok _ (by simp))) (by omega) (by omega) hcc.1 hcc.2 hd (kk hs9 hl)
        · subst e
          exact va_mmin hx hb (by rw [hml]; exact hl.1.1.symm) hown (hts _ hw) (hts _ (zMT_ok _ (by simp))) (hts _ (zMT_ok _ (by simp))) (hts _ (zMT_ok _ (by simp))) (by omega) (by omega) hcc.1 hcc.2 hd (kk hs9 hl)
        · obtain rfl : r1 = 905 := by omega
          exact va_mabs hx hb (by rw [hml]; exact hl.1.1.symm) hown (hts _ hw) (hts _ (zMT_ok _ (by simp))) (hts _ (zMT_ok _ (by simp))) (hts _ (zMT_ok _ (by simp))) (by omega) (by omega) hcc.1 hcc.2 hd (kk hs9 hl)
      · rw [zM_out (by have := Nat.le_of_ble_eq_true g5; omega)] at h3
        cases h3
    · rcases h2 with (⟨h2, h3⟩ | ⟨h2, h3⟩) | ⟨h2, h3, h4⟩
      · rw [g] at h2
        cases h2
      · rw [g5] at h3
        cases h3
      · refine zcall_el hs (fun r' h' g1 g2 g3 hE hs9 => ?_)
        clear hs
        have hs := hs9
        clear hs9
        refine zinv_W hc0 ih (Or.inl ⟨rfl, zbne h3⟩) (fun q => by rcases q with q | q <;> cases q) h2 (zbne h4) hd g1 g2 g3 hE (hk _ _ _ _ hs).1 hRc hRs hP hS hl hn hz (fun H1 locs1 hP1 hS1 => (hk _ _ _ _ hs).2 H1 locs1 ls hP1 hS1 hl ?_ ?_)
        · have := (zex_grow d _ _ _ _ hE).1; exact Nat.le_trans hn this
        · have := (zex_grow d _ _ _ _ hE).2; exact Nat.le_trans hz this
  case invokevirtual idx =>
    simp only [zop, Bool.and_eq_true, Bool.or_eq_true] at hop
    obtain ⟨h1, h2⟩ := hop
    obtain rfl := zbne h1
    refine zb_el hs (fun g hs9 => ?_) (fun g hs9 => ?_) <;> clear hs <;> have hs := hs9 <;> clear hs9
    · rcases h2 with ⟨h2, h3, h4⟩ | ⟨h2, h3, h4⟩
      · obtain rfl := zbne h3
        obtain rfl := zbne h4
        refine zixof_el hs (fun x r hst g2 hs9 => ?_)
        clear hs
        have hs := hs9
        clear hs9
        subst hst
        exact hix d bytes nL n0 ini p e R s m args below meth c H locs _ _ Q pc ls _ x hc0 hd hS hl.1.1 (zrest_cat g2) (by have := (hk _ _ _ _ hs).1.1; omega) (by have := (hk _ _ _ _ hs).1.2; omega) (kk hs hl)
      · obtain rfl := zbne g
        exact absurd h3 (by decide +kernel)
    · rcases h2 with ⟨h2, h3⟩ | ⟨h2, h3, h4, h5⟩
      · rw [g] at h2
        cases h2
      · refine zrecv_el hs (fun b r N hbr hbN hu12 => zcall_el hu12 (fun r' h' g1 g2 g3 hE hs9 => ?_))
        clear hs
        have hs := hs9
        clear hs9
        refine zinv_W hc0 ih (Or.inr (Or.inr ⟨rfl, zbne h3⟩)) (fun _ => ⟨b, r, hbr, fun _ => ⟨N, by rw [hbN, zbne h5], ?_⟩⟩) h2 (zbne h4) hd g1 g2 g3 hE (hk _ _ _ _ hs).1 hRc hRs hP hS hl hn hz (fun H1 locs1 hP1 hS1 => (hk _ _ _ _ hs).2 H1 locs1 ls hP1 hS1 hl ?_ ?_)
        · exact (zUk_use (by have := zbne h3; omega)).2.2.2.2.2.2.2.2 (zbne h3)
        · have := (zex_grow d _ _ _ _ hE).1; exact Nat.le_trans hn this
        · have := (zex_grow d _ _ _ _ hE).2; exact Nat.le_trans hz this
  case ireturn =>
    simp only [zop, Bool.and_eq_true, Bool.or_eq_true, decide_eq_true_eq] at hop
    obtain ⟨h1, h2⟩ := hop
    obtain rfl := zbne h1
    split at hs
    · rename_i v
      refine zg_el hs (fun g hs9 => ?_)
      clear hs
      have hs := hs9
      clear hs9
      have ho := Option.some.inj hs
      subst ho
      refine zW_size hs0 hn hP hS (fun hsz => ?_)
      refine hend.1 H locs ls pc v ⟨hsz, hP⟩ hS rfl ?_ hd
      simp only [Bool.or_eq_true, decide_eq_true_eq] at g
      rcases h2 with ⟨h2, h3⟩ | ⟨h2, h3⟩
      · exact Or.inl h3
      · obtain rfl := zbne h2
        exact Or.inr ⟨h3, by rcases g with g | g; · cases g
                             · exact g⟩
    · cases hs
  case return_ =>
    simp only [zop, Bool.and_eq_true, decide_eq_true_eq] at hop
    obtain ⟨h1, h2⟩ := hop
    obtain rfl := zbne h1
    split at hs
    · have ho := Option.some.inj hs
      subst ho
      refine zW_size hs0 hn hP hS (fun hsz => ?_)
      exact hend.2 H locs ls pc ⟨hsz, hP⟩ hS rfl h2 hd
    · cases hs
end zyinst
