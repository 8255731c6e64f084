/-! ===== the constant text's indexOf, as one row; the claim ===== -/
theorem jw3_in : ∀ w ∈ jw3, w ∈ zTs := zTs_of [502, 503, 504, 505, 117, 506, 507, 508, 509, 117, 1636, 513, 514, 515, 521, 522, 118, 510, 1635, 511, 516, 1636, 517, 518, 519, 117, 520, 1635, 511, 523, 524, 525, 118, 526, 527, 528, 116, 529, 530, 446, 447, 531, 532, 533] (by decide +kernel) (by decide +kernel)
theorem jg_ts : GoodIn zTs jw3 := jgoodA jw3_in (by decide +kernel)
def jwr : List Cond := [Cond.methodLink "InsuredFlame$LawReader" 98 jIx3, Cond.instanceMethod jIx3, Cond.selects "java/lang/String" jIx3 jIx3, Cond.initialized "java/lang/String"]
theorem jwr_in : ∀ w ∈ jwr, w ∈ zTs := zTs_of [499, 500, 501, 117] (by decide +kernel) (by decide +kernel)
theorem zRs5 : zRs 5 = "InsuredFlame$LawReader" := by decide +kernel
theorem j_row (l : Launch) (G : zG) (X : Nat × (Nat → Int32)) : zIxRow l G X := by
  intro d bytes nL n0 ini p e R s m args below meth c H locs cells slots Q pc ls rest x hc hd hS hls hrest hcl hsl kk
  obtain ⟨hx, hb, hml, hown, hts, hKS, hs0, hsc, hini, hRf, hRl⟩ := hc
  obtain ⟨⟨adK, adV, hq, hSt⟩, hZ⟩ := hKS.2.2.2.2
  rw [zRs5] at hown
  obtain ⟨h1, h2, h3, h4⟩ := hSt.1 0 (by decide)
  have hk : jK (adK 0) (adV 0) (zA G) s := ⟨h1, h2, h3, h4, hZ⟩
  have hrc := vk_recv (i := 0) hSt (by decide) hS
  have hrun := va_runV (e := e) (below := below) (meth := meth) (R := R) (H := H) (bytes := prog_17_method_79_code) (maxL := 2) (ret := some .int) (rest := rest) (As := [.int x]) (g := F0 m pc ls (.int x :: .ref (adK 0) :: rest)) (cells := cells) (slots := slots) (locs := locs) ⟨hx, hb, hml, hown, hts⟩ (j_indexOf3 (l := l) (A := zA G) (q := adK 0) (t := adV 0) x) ⟨callB_of (ws := jw3) _ hts jg_ts rfl rfl rfl (hts (Cond.initialized "java/lang/String") (jwr_in _ (List.mem_of_getElem? (i := 3) rfl))) (hts (Cond.methodLink "InsuredFlame$LawReader" 98 jIx3) (jwr_in _ (List.mem_of_getElem? (i := 0) rfl))) ⟨by decide, by decide, show (parseMethodDescriptor jIx3.desc).map (fun d => d.parameters.length) = some 1 by decide⟩ ⟨show 10 + 1 ≤ R.frames by omega, show 8 + (2 + 11) + 200 ≤ R.locals by omega⟩, hts (Cond.instanceMethod jIx3) (jwr_in _ (List.mem_of_getElem? (i := 1) rfl)), hts (Cond.selects "java/lang/String" jIx3 jIx3) (jwr_in _ (List.mem_of_getElem? (i := 2) rfl))⟩ ⟨jS_blind, hrc, fun U hU hW => ⟨rfl, jK_at hk hS hU hW⟩⟩ rfl rfl hls rfl (lv_room hrest) hd ⟨hcl, hsl⟩
  rw [← hq]
  refine jcall_W hrun ?_
  rw [jAns_zix]
  exact kk
theorem whole_start {p : Program} {e : Env} {s : State} {m : MethodId} {below : List Frame} {meth : Method} {c : Code} (l : Launch) (hflags : l.flags = flags0) {b L : Nat} {xs : Nat → Int32} (hL : L ≤ 3072) (C0 : lw_At p s m meth c b L xs) : W p l e room_1 s m #[Value.ref b] below meth c s.heap [] 0 0 (lw_Z below #[Value.ref b] s) (entryFrame m ([Value.ref b] : List Value).toArray 4) :=
  whole_start0 l hL C0 (fun G _ => j_row l G (L, xs))
