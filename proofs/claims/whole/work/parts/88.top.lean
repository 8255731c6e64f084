/-! ===== the claim, but for the row of String.indexOf ===== -/
theorem whole_start0 {p : Program} {e : Env} {s : State} {m : MethodId} {below : List Frame} {meth : Method} {c : Code} (l : Launch) {b L : Nat} {xs : Nat → Int32} (hbd : L ≤ 3072) (C0 : lw_At p s m meth c b L xs) (hix : ∀ G : zG, G.2.1 < G.1 → zIxRow l G (L, xs)) :
    W p l e room_1 s m #[Value.ref b] below meth c s.heap [] 0 0 (lw_Z below #[Value.ref b] s) (entryFrame m ([Value.ref b] : List Value).toArray 4) := by
  obtain ⟨g', h⟩ := law_run (X := (L, xs)) hbd
  exact ztop l C0 zC_ok hix (cl := zc_249) zk_249 (d := 64) (by omega) h (show SH.length ≤ 600000 by decide) (show (SH.map (fun q => q.2)).sum ≤ 7302250 by decide)
