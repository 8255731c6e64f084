section zxstep
variable {G : zG} {X : Nat × (Nat → Int32)} {C : Nat → List (Nat × zQ)} {p : Program} {l : Launch} {e : Env} {R : Room} {s : State} {m : MethodId} {args : Array Value} {below : List Frame} {meth : Method} {c : Code} {Q : State → Prop}
/-- a call of the z-machine is a call of the machine -/
theorem zinv_W {d own nL n0 z0 : Nat} {bytes : ByteArray} {ini : Bool} (hc : zCtx G X d own bytes nL n0 ini p R s m args meth c) (ih : zGood l G X C d)
    {u n idx pc : Nat} {i : Instr} {st : List Value} {h h' : zH} {o : zO} {r : Option Value} {H : Heap} {locs : List Loc} {ls : Array Slot}
    (hi : (i = .invokestatic idx ∧ (zM u).2.2.2.2.2.2 = 1) ∨ (i = .invokespecial idx ∧ (zM u).2.2.2.2.2.2 = 2) ∨ (i = .invokevirtual idx ∧ (zM u).2.2.2.2.2.2 = 0))
    (hr : i = .invokespecial idx ∨ i = .invokevirtual idx → ∃ b r, (st.take n).reverse = .ref b :: r ∧ (i = .invokevirtual idx → ∃ N, h.1[b]? = some ((zM u).2.2.2.2.1, N) ∧ (zM u).2.2.2.2.1 < 12))
    (hl : zhas zML own (idx, u, 0) = true ∨ zhas zML own (idx, u, 1) = true) (hn : n = (zM u).2.2.2.2.2.1) (hd : decode bytes pc = .ok (i, 3))
    (h1 : n ≤ st.length) (h2 : zrest (st.drop n) = true) (h3 : st.all zcat = true) (hE : zex X zFT C d u (st.take n).reverse h = some (r, h')) (hle : zle h' o.2) (hRc : o.2.1.length - n0 ≤ R.cells) (hRs : zsz o.2 - z0 ≤ R.slots)
    (hP : va_P G.2.2.2.1 vwCl (zW G h) H) (hS : va_S (zA G) s.heap H locs) {lv : List Value} (hls : zloc G ls nL lv) (hn0 : n0 ≤ h.1.length) (hz0 : z0 ≤ zsz h)
    (kk : ∀ (H1 : Heap) (locs1 : List Loc), va_P G.2.2.2.1 vwCl (zW G h') H1 → va_S (zA G) s.heap H1 locs1 → W p l e R s m args below meth c H1 locs1 (h'.1.length - n0) (zsz h' - z0) Q (F0 m (pc + 3) ls ((r.toList ++ st.drop n).map (zt G)))) :
    W p l e R s m args below meth c H locs (h.1.length - n0) (zsz h - z0) Q (F0 m pc ls (st.map (zt G))) := by
  obtain ⟨hx, hb, hml, hown, hts, hKS, hs0, hsc, hini, hRf, hRl⟩ := hc
  have hk3 : (zM u).2.2.2.2.2.2 < 3 := by rcases hi with ⟨-, e⟩ | ⟨-, e⟩ | ⟨-, e⟩ <;> omega
  have hkU := zUk_use hk3
  have hlen : ((st.take n).reverse).length = (zM u).2.2.2.2.2.1 := by rw [List.length_reverse, List.length_take]; omega
  have hcat : (st.take n).reverse.all zcat = true := by
    rw [List.all_eq_true] at h3 ⊢
    exact fun x hx => h3 x (List.mem_of_mem_take (List.mem_reverse.mp hx))
  have hM := ih u _ h r h' hk3 hE hlen hcat
  have hg : zle h h' := zex_grow d u _ h (r, h') hE
  refine zW_size hs0 hn0 hP hS (fun hsz => ?_)
  have hpre : ∀ U : State, U.heap = H → s.WarmedH U.vm → zPc G X (st.take n).reverse h (((st.take n).reverse).map (zt G)).toArray U := fun U hU hW => ⟨rfl, by rw [hU]; exact ⟨hsz, hP⟩, zKS_at hKS hs0 hsc hS hU hW⟩
  have hg1 := hg.1
  have hg2 := hg.2
  have hl1 := hle.1
  have hl2 := hle.2
  have hmc : (h.1.length - n0) + (h'.1.length - h.1.length) = h'.1.length - n0 := by omega
  have hms : (zsz h - z0) + (zsz h' - zsz h) = zsz h' - z0 := by omega
  have hf : h.1.length - n0 + (h'.1.length - h.1.length) ≤ R.cells ∧ zsz h - z0 + (zsz h' - zsz h) ≤ R.slots := ⟨by omega, by omega⟩
  have hrest := zrest_cat (G := G) h2
  have hstk : st.map (zt G) = (((st.take n).reverse).map (zt G)).reverse ++ (st.drop n).map (zt G) := by
    rw [← List.map_reverse, List.reverse_reverse, ← List.map_append, List.take_append_drop]
  have h60 := hkU.2.2.2.1
  have hrm : (zrm d (h'.1.length - h.1.length) (zsz h' - zsz h)).frames + 1 ≤ R.frames ∧ 8 + ((zM u).2.2.1 + 11) + (zrm d (h'.1.length - h.1.length) (zsz h' - zsz h)).locals ≤ R.locals := ⟨by show d + 10 + 1 ≤ _; omega, by show 8 + (_ + 11) + (80 * d + 800) ≤ _; omega⟩
  have hiw : (Cond.initialized (zM u).1.cls).before args s = true := hts _ (zU_ok hk3 _ (by simp [zUw]))
  have hrun : va_Run p l e R s m args below meth c H locs (h.1.length - n0) (zsz h - z0) (h'.1.length - h.1.length) (zsz h' - zsz h) (F0 m pc ls (st.map (zt G))) ((st.drop n).map (zt G)) (zQc G r h' ((st.take n).reverse.map (zt G)).toArray) (zA G) := by
    rcases hi with ⟨rfl, hk⟩ | ⟨rfl, hk⟩ | ⟨rfl, hk⟩
    · have hst : (Cond.static (zM u).1).before args s = true := hts _ (zU_ok hk3 _ (by simp [zUw, hk]))
      have hn' : (parseMethodDescriptor (zM u).1.desc).map (fun d => d.parameters.length) = some ((st.take n).reverse.map (zt G)).length := zargs_n hk3 (by rw [List.length_map, hlen, if_pos hk]; rfl)
      rcases hl with hl | hl
      · exact va_runS (bytes := (zM u).2.1) (maxL := (zM u).2.2.1) (ret := (zM u).2.2.2.1) ⟨hx, hb, hml, hown, hts⟩ hM ⟨callB_of _ hts (zws_good hk3) rfl rfl rfl hiw (hts _ (zML_use hl)) ⟨hkU.2.1.1, hkU.2.1.2, hn'⟩ hrm, hst⟩ ⟨zPc_blind, hpre⟩ rfl rfl hls.1.1 hstk (lv_room hrest) hd hf
      · exact va_runSN (bytes := (zM u).2.1) (maxL := (zM u).2.2.1) (ret := (zM u).2.2.2.1) ⟨hx, hb, hml, hown, hts⟩ hM ⟨va_cnB _ hts (zws_good hk3) rfl rfl rfl (hKS.2.1 _ (zNL_use hl)) hiw ⟨hkU.2.1.1, hkU.2.1.2, hn'⟩ hrm, hst, trivial⟩ ⟨zPc_blind, hpre⟩ rfl rfl hls.1.1 hstk (lv_room hrest) hd hf
    · obtain ⟨b, r', hbr, -⟩ := hr (Or.inl rfl)
      have eA : (st.take n).reverse.map (zt G) = Value.ref (G.1 + b) :: r'.map (zt G) := by rw [hbr]; rfl
      rw [eA] at hpre hstk ⊢
      have hstk2 : st.map (zt G) = (r'.map (zt G)).reverse ++ Value.ref (G.1 + b) :: (st.drop n).map (zt G) := by rw [hstk, List.reverse_cons, List.append_assoc]; rfl
      have hin : (Cond.instanceMethod (zM u).1).before args s = true := hts _ (zU_ok hk3 _ (by simp [zUw, hk]))
      have hn' : (parseMethodDescriptor (zM u).1.desc).map (fun d => d.parameters.length) = some (r'.map (zt G)).length := zargs_n hk3 (by rw [hbr] at hlen; rw [List.length_map, if_neg (by omega), ← hlen]; rfl)
      have hnone := hkU.2.2.2.2.2.2.2.1 hk
      rcases hl with hl | hl
      · exact va_runI (bytes := (zM u).2.1) (maxL := (zM u).2.2.1) ⟨hx, hb, hml, hown, hts⟩ hM ⟨callB_of _ hts (zws_good hk3) (by rw [zws, hnone]) rfl rfl hiw (hts _ (zML_use hl)) ⟨hkU.2.1.1, hkU.2.1.2, hn'⟩ hrm, hkU.2.2.2.2.2.2.1.mp hk, hin⟩ ⟨zPc_blind, hpre⟩ rfl rfl hls.1.1 hstk2 (lv_room hrest) hd hf
      · exact va_runIN (bytes := (zM u).2.1) (maxL := (zM u).2.2.1) ⟨hx, hb, hml, hown, hts⟩ hM ⟨va_cnB _ hts (zws_good hk3) (by rw [zws, hnone]) rfl rfl (hKS.2.1 _ (zNL_use hl)) hiw ⟨hkU.2.1.1, hkU.2.1.2, hn'⟩ hrm, hkU.2.2.2.2.2.2.1.mp hk, hin⟩ ⟨zPc_blind, hpre⟩ rfl rfl hls.1.1 hstk2 (lv_room hrest) hd hf
    · obtain ⟨b, r', hbr, hv⟩ := hr (Or.inr rfl)
      obtain ⟨N, hbN, h12⟩ := hv rfl
      have eA : (st.take n).reverse.map (zt G) = Value.ref (G.1 + b) :: r'.map (zt G) := by rw [hbr]; rfl
      rw [eA] at hpre hstk ⊢
      have hstk2 : st.map (zt G) = (r'.map (zt G)).reverse ++ Value.ref (G.1 + b) :: (st.drop n).map (zt G) := by rw [hstk, List.reverse_cons, List.append_assoc]; rfl
      have hin : (Cond.instanceMethod (zM u).1).before args s = true := hts _ (zU_ok hk3 _ (by simp [zUw, hk]))
      have hse : (Cond.selects (zM u).1.cls (zM u).1 (zM u).1).before args s = true := hts _ (zU_ok hk3 _ (by simp [zUw, hk]))
      have hn' : (parseMethodDescriptor (zM u).1.desc).map (fun d => d.parameters.length) = some (r'.map (zt G)).length := zargs_n hk3 (by rw [hbr] at hlen; rw [List.length_map, if_neg (by omega), ← hlen]; rfl)
      have hrc : ∃ cell : Cell, H[G.1 + b]? = some cell ∧ cell.vm.isStatics = false ∧ s.vm.findClass (zM u).1.cls = some cell.cls := by
        rw [hkU.2.2.2.2.2.1]
        exact va_recv hKS.1 hP (zcl_ok _ h12) ((zW_get hbN).trans (by rw [zE1_obj (by omega)]))
      rcases hl with hl | hl
      · exact va_runV (bytes := (zM u).2.1) (maxL := (zM u).2.2.1) (ret := (zM u).2.2.2.1) ⟨hx, hb, hml, hown, hts⟩ hM ⟨callB_of _ hts (zws_good hk3) rfl rfl rfl hiw (hts _ (zML_use hl)) ⟨hkU.2.1.1, hkU.2.1.2, hn'⟩ hrm, hin, hse⟩ ⟨zPc_blind, hrc, hpre⟩ rfl rfl hls.1.1 hstk2 (lv_room hrest) hd hf
      · exact va_runVN (bytes := (zM u).2.1) (maxL := (zM u).2.2.1) (ret := (zM u).2.2.2.1) ⟨hx, hb, hml, hown, hts⟩ hM ⟨va_cnB _ hts (zws_good hk3) rfl rfl rfl (hKS.2.1 _ (zNL_use hl)) hiw ⟨hkU.2.1.1, hkU.2.1.2, hn'⟩ hrm, hin, hse⟩ ⟨zPc_blind, hrc, hpre⟩ rfl rfl hls.1.1 hstk2 (lv_room hrest) hd hf
  refine zcall_W hrun hS (by rw [hsz]; omega) (fun H1 locs1 hP1 hS1 => ?_)
  have h9 := kk H1 locs1 hP1 hS1
  rw [hmc, hms]
  rw [List.map_append] at h9
  have e9 : (r.map (zt G)).toList = r.toList.map (zt G) := by cases r <;> rfl
  rw [e9]
  exact h9
end zxstep
