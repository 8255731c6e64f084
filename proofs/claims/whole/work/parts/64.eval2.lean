/-! ===== D: the law: what a stretch of code comes to, in both machines ===== -/
def AR (i j : Nat) (f g : Nat → Int32) : Prop := ∀ x, i ≤ x → x < j → f x = g x
theorem AR_refl (i j : Nat) (f : Nat → Int32) : AR i j f f := fun _ _ _ => rfl
theorem AR_tr {i j : Nat} {f g h : Nat → Int32} (h1 : AR i j f g) (h2 : AR i j g h) : AR i j f h := fun x a b => (h1 x a b).trans (h2 x a b)
theorem AR_sym {i j : Nat} {f g : Nat → Int32} (h1 : AR i j f g) : AR i j g f := fun x a b => (h1 x a b).symm
theorem AR_sub {i j i' j' : Nat} {f g : Nat → Int32} (h : AR i j f g) (h1 : i ≤ i') (h2 : j' ≤ j) : AR i' j' f g := fun x a b => h x (by omega) (by omega)
theorem AR_up {i j k : Nat} {f : Nat → Int32} {v : Int32} (h : j ≤ k) : AR i j (zup f k v) f := fun x _ b => zup_ne (by omega)
def SB (u v : Int32) : Prop := ∀ i, bt u i = true → bt v i = true
theorem SB_refl (u : Int32) : SB u u := fun _ h => h
theorem SB_tr {u v w : Int32} (h1 : SB u v) (h2 : SB v w) : SB u w := fun i h => h2 i (h1 i h)
theorem AGL_sub {u v : Int32} (h : SB u v) {L F : Nat → Int32} (hA : AGL v L F) : AGL u L F := fun i hi hq => hA i hi (fun z => h i (hq z))
def WT : Int32 → Prop := fun _ => True
def WB : Int32 → Prop := fun v => v = 0 ∨ v = 1
def JO (o a s L F : Nat → Int32) (to d : Nat) (W : Int32 → Prop) (j : Nat) (b c : Nat → Int32) (x : Option T_lw_run) (y : Option T_md_reckonsTo) : Prop :=
  (∃ v k' b' c', k' ≤ j ∧ x = rC o a L to (nI (d + 1), nI j, nI k', b') ∧ y = rM s F to (nI (d + 1), nI j, c') ∧ (∀ z, z < d → b' z = b z ∧ c' z = c z) ∧ b' d = v ∧ c' d = v ∧ W v) ∨ (∃ b' c', x = some (0, b') ∧ y = some (0, c'))
def PV (W : Int32 → Prop) (ops args said : Nat → Int32) (lu : Int32) (h i j : Nat) : Prop :=
  ∀ o a s L F : Nat → Int32, AR i j o ops → AR i j a args → AR i j s said → AGL lu L F → ∀ (to d k : Nat) (b c : Nat → Int32), j ≤ to → to ≤ 240 → d + h ≤ 32 → k ≤ i →
    JO o a s L F to d W j b c (rC o a L to (nI d, nI i, nI k, b)) (rM s F to (nI d, nI i, c))
section dpv
variable {W : Int32 → Prop} {ops args said : Nat → Int32} {lu : Int32} {h i j : Nat}
theorem PV_mono (hP : PV W ops args said lu h i j) {lu' : Int32} {h' : Nat} (hl : SB lu lu') (hh : h ≤ h') : PV W ops args said lu' h' i j := fun o a s L F h1 h2 h3 h4 to d k b c g1 g2 g3 g4 => hP o a s L F h1 h2 h3 (AGL_sub hl h4) to d k b c g1 g2 (by omega) g4
theorem PV_ext (hP : PV W ops args said lu h i j) {ops' args' said' : Nat → Int32} (e1 : AR i j ops' ops) (e2 : AR i j args' args) (e3 : AR i j said' said) : PV W ops' args' said' lu h i j := fun o a s L F h1 h2 h3 => hP o a s L F (AR_tr h1 e1) (AR_tr h2 e2) (AR_tr h3 e3)
theorem PV_W {W' : Int32 → Prop} (hP : PV W ops args said lu h i j) (hW : ∀ v, W v → W' v) : PV W' ops args said lu h i j := fun o a s L F h1 h2 h3 h4 to d k b c g1 g2 g3 g4 => by
  rcases hP o a s L F h1 h2 h3 h4 to d k b c g1 g2 g3 g4 with ⟨v, k', b', c', q1, q2, q3, q4, q5, q6, q7⟩ | q
  · exact Or.inl ⟨v, k', b', c', q1, q2, q3, q4, q5, q6, hW v q7⟩
  · exact Or.inr q
theorem PV_push (hi : i < 240) (h1 : ops i = 1) {n : Nat} (hn : n < 1048576) (h2 : args i = nI n) (h3 : said i = nI (1048576 * 0 + n)) : PV WT ops args said lu 1 i (i + 1) := by
  intro o a s L F e1 e2 e3 e4 to d k b c g1 g2 g3 g4
  have o1 := (e1 i (by omega) (by omega)).trans h1
  have o2 := (e2 i (by omega) (by omega)).trans h2
  have o3 := (e3 i (by omega) (by omega)).trans h3
  refine Or.inl ⟨nI n, k + 1, zup b d (nI n), zup c d (nI n), by omega, ?_, sM_push (by omega) g2 (by omega) hn o3, fun z hz => ⟨zup_ne (by omega), zup_ne (by omega)⟩, zup_same, zup_same, trivial⟩
  rw [← o2]
  exact sC_push (by omega) g2 (by omega) (by omega) o1
theorem PV_letter (hi : i < 240) (h1 : ops i = 2) {x : Nat} (hx : x < 9) (h2 : args i = nI x) (h3 : said i = nI (1048576 * 1 + x)) (hl : bt lu x = true) : PV WT ops args said lu 1 i (i + 1) := by
  intro o a s L F e1 e2 e3 e4 to d k b c g1 g2 g3 g4
  have o1 := (e1 i (by omega) (by omega)).trans h1
  have o2 := (e2 i (by omega) (by omega)).trans h2
  have o3 := (e3 i (by omega) (by omega)).trans h3
  have hLF : L x = F x := e4 x hx (fun _ => hl)
  refine Or.inl ⟨L x, k + 1, zup b d (L x), zup c d (F x), by omega, sC_letter (by omega) g2 (by omega) (by omega) o1 hx o2, sM_letter (by omega) g2 (by omega) hx o3, fun z hz => ⟨zup_ne (by omega), zup_ne (by omega)⟩, zup_same, ?_, trivial⟩
  rw [zup_same, hLF]
/-- signs that reckon, as both number them -/
def opP (x : Int32) (m : Nat) : Prop := (x = 43 ∧ m = 2) ∨ (x = 45 ∧ m = 3) ∨ (x = 42 ∧ m = 4) ∨ (x = 47 ∧ m = 5) ∨ (x = 37 ∧ m = 6) ∨ (x = 60 ∧ m = 7) ∨ (x = 62 ∧ m = 8) ∨ (x = 61 ∧ m = 9)
theorem opP_le {x : Int32} {m : Nat} (h : opP x m) : 2 ≤ m ∧ m ≤ 9 := by
  rcases h with ⟨-, rfl⟩ | ⟨-, rfl⟩ | ⟨-, rfl⟩ | ⟨-, rfl⟩ | ⟨-, rfl⟩ | ⟨-, rfl⟩ | ⟨-, rfl⟩ | ⟨-, rfl⟩ <;> omega
theorem reckon_eq {x : Int32} {m : Nat} (h : opP x m) (y z : Int32) (hz : x = 47 ∨ x = 37 → ¬ z = 0) : w_lw_reckon x y z = w_md_reckon (nI m) y z := by
  unfold w_lw_reckon w_md_reckon
  rcases h with ⟨rfl, rfl⟩ | ⟨rfl, rfl⟩ | ⟨rfl, rfl⟩ | ⟨rfl, rfl⟩ | ⟨rfl, rfl⟩ | ⟨rfl, rfl⟩ | ⟨rfl, rfl⟩ | ⟨rfl, rfl⟩
  · rfl
  · rfl
  · rfl
  · rw [dF (hz (Or.inl rfl))]; rfl
  · rw [dF (hz (Or.inr rfl))]; rfl
  · rfl
  · rfl
  · rfl
theorem reckon_bool {x : Int32} (h : x = 60 ∨ x = 62 ∨ x = 61) (y z : Int32) : WB (w_lw_reckon x y z) := by
  unfold w_lw_reckon
  rcases h with rfl | rfl | rfl
  · show WB (bif decide (z ≤ y) then 0 else 1)
    cases decide (z ≤ y)
    · exact Or.inr rfl
    · exact Or.inl rfl
  · show WB (bif decide (y ≤ z) then 0 else 1)
    cases decide (y ≤ z)
    · exact Or.inr rfl
    · exact Or.inl rfl
  · show WB (bif !decide (y = z) then 0 else 1)
    cases decide (y = z)
    · exact Or.inl rfl
    · exact Or.inr rfl
theorem PV_bin {h1 h2 k' : Nat} (hP : PV WT ops args said lu h1 i j) (hQ : PV WT ops args said lu h2 j k') (hij : i ≤ j) (hjk : j ≤ k') {x : Int32} {m : Nat} (hx : opP x m) (ho : ops k' = x) (hs : said k' = nI (1048576 * m + 0)) (hk : k' < 240) (hh1 : h1 ≤ h) (hh2 : h2 + 1 ≤ h) (h20 : 1 ≤ h2)
    (hW : ∀ y z, W (w_lw_reckon x y z)) : PV W ops args said lu h i (k' + 1) := by
  intro o a s L F e1 e2 e3 e4 to d k b c g1 g2 g3 g4
  have o1 := (e1 k' (by omega) (by omega)).trans ho
  have o3 := (e3 k' (by omega) (by omega)).trans hs
  rcases hP o a s L F (AR_sub e1 (by omega) (by omega)) (AR_sub e2 (by omega) (by omega)) (AR_sub e3 (by omega) (by omega)) e4 to d k b c (by omega) g2 (by omega) g4 with ⟨v, k1, b1, c1, q1, q2, q3, q4, q5, q6, -⟩ | ⟨b1, c1, q1, q2⟩
  · rw [q2, q3]
    rcases hQ o a s L F (AR_sub e1 (by omega) (by omega)) (AR_sub e2 (by omega) (by omega)) (AR_sub e3 (by omega) (by omega)) e4 to (d + 1) k1 b1 c1 (by omega) g2 (by omega) q1 with ⟨v2, k2, b2, c2, r1, r2, r3, r4, r5, r6, -⟩ | ⟨b2, c2, r1, r2⟩
    · rw [r2, r3]
      obtain ⟨z1, z2⟩ := r4 d (by omega)
      have hbd : b2 d = v := z1.trans q5
      have hcd : c2 d = v := z2.trans q6
      -- the step
      have go : (x = 47 ∨ x = 37 → ¬ b2 (d + 1) = 0) → JO o a s L F to d W (k' + 1) b c (rC o a L to (nI (d + 1), nI (k' + 1), nI (k2 + 1), zup b2 d (w_lw_reckon x (b2 d) (b2 (d + 1))))) (rM s F to (nI (d + 1), nI (k' + 1), zup c2 d (w_md_reckon (nI m) (c2 d) (c2 (d + 1))))) := by
        intro hz
        refine Or.inl ⟨w_lw_reckon x v v2, k2 + 1, _, _, by omega, rfl, rfl, fun z hz => ?_, ?_, ?_, hW v v2⟩
        · obtain ⟨y1, y2⟩ := r4 z (by omega)
          obtain ⟨y3, y4⟩ := q4 z hz
          rw [zup_ne (by omega), zup_ne (by omega)]
          exact ⟨y1.trans y3, y2.trans y4⟩
        · rw [zup_same, hbd, r5]
        · rw [zup_same, hcd, r6, reckon_eq hx v v2 (fun q => by rw [← r5]; exact hz q)]
      by_cases hd : x = 47 ∨ x = 37
      · have hm : m = 5 ∨ m = 6 := by
          rcases hx with ⟨rfl, rfl⟩ | ⟨rfl, rfl⟩ | ⟨rfl, rfl⟩ | ⟨rfl, rfl⟩ | ⟨rfl, rfl⟩ | ⟨rfl, rfl⟩ | ⟨rfl, rfl⟩ | ⟨rfl, rfl⟩ <;> first | omega | (exfalso; revert hd; decide)
        have sc := sC_div (o := o) (a := a) (L := L) (b := b2) (show k' < to by omega) g2 (show k2 < 240 by omega) (show d + 1 < 32 by omega) hd o1
        have sm := sM_div (c := s) (F := F) (b := c2) (show k' < to by omega) g2 (show d + 1 < 32 by omega) hm o3
        by_cases hz : b2 (d + 1) = 0
        · have hz' : c2 (d + 1) = 0 := by rw [r6, ← r5]; exact hz
          exact Or.inr ⟨b2, c2, sc.1 hz, sm.1 hz'⟩
        · have hz' : ¬ c2 (d + 1) = 0 := by rw [r6, ← r5]; exact hz
          rw [show d + 1 + 1 = d + 2 from rfl, sc.2 hz, sm.2 hz']
          exact go (fun _ => hz)
      · have hx6 : x = 43 ∨ x = 45 ∨ x = 42 ∨ x = 60 ∨ x = 62 ∨ x = 61 := by
          rcases hx with ⟨rfl, -⟩ | ⟨rfl, -⟩ | ⟨rfl, -⟩ | ⟨rfl, -⟩ | ⟨rfl, -⟩ | ⟨rfl, -⟩ | ⟨rfl, -⟩ | ⟨rfl, -⟩ <;> first | decide | (exfalso; revert hd; decide)
        have hm6 : m = 2 ∨ m = 3 ∨ m = 4 ∨ m = 7 ∨ m = 8 ∨ m = 9 := by
          rcases hx with ⟨rfl, rfl⟩ | ⟨rfl, rfl⟩ | ⟨rfl, rfl⟩ | ⟨rfl, rfl⟩ | ⟨rfl, rfl⟩ | ⟨rfl, rfl⟩ | ⟨rfl, rfl⟩ | ⟨rfl, rfl⟩ <;> first | omega | (exfalso; revert hd; decide)
        rw [show d + 1 + 1 = d + 2 from rfl, sC_bin (o := o) (a := a) (L := L) (b := b2) (show k' < to by omega) g2 (show k2 < 240 by omega) (show d + 1 < 32 by omega) hx6 o1, sM_bin (c := s) (F := F) (b := c2) (show k' < to by omega) g2 (show d + 1 < 32 by omega) hm6 o3]
        exact go (fun q => absurd q hd)
    · exact Or.inr ⟨b2, c2, r1, r2⟩
  · exact Or.inr ⟨b1, c1, q1, q2⟩
theorem PV_not (hP : PV WB ops args said lu h i j) (hij : i ≤ j) (ho : ops j = 3) (hs : said j = nI (1048576 * 10 + 0)) (hj : j < 240) (h1 : 1 ≤ h) : PV WB ops args said lu h i (j + 1) := by
  intro o a s L F e1 e2 e3 e4 to d k b c g1 g2 g3 g4
  have o1 := (e1 j (by omega) (by omega)).trans ho
  have o3 := (e3 j (by omega) (by omega)).trans hs
  rcases hP o a s L F (AR_sub e1 (by omega) (by omega)) (AR_sub e2 (by omega) (by omega)) (AR_sub e3 (by omega) (by omega)) e4 to d k b c (by omega) g2 (by omega) g4 with ⟨v, k1, b1, c1, q1, q2, q3, q4, q5, q6, q7⟩ | ⟨b1, c1, q1, q2⟩
  · rw [q2, q3, sC_not (by omega) g2 (by omega) (by omega) o1, sM_not (by omega) g2 (by omega) o3]
    refine Or.inl ⟨1 - v, k1 + 1, _, _, by omega, rfl, rfl, fun z hz => ?_, by rw [zup_same, q5], by rw [zup_same, q6], ?_⟩
    · rw [zup_ne (by omega), zup_ne (by omega)]; exact q4 z hz
    · rcases q7 with rfl | rfl
      · exact Or.inr rfl
      · exact Or.inl rfl
  · exact Or.inr ⟨b1, c1, q1, q2⟩
end dpv
/-! a condition, its jumps waiting -/
def CI (ops args said : Nat → Int32) (lu : Int32) (h i0 e : Nat) (PA PO qa qo : List Nat) : Prop :=
  ∀ (o a s L F : Nat → Int32) (tA tO mA mO : Nat), AR i0 e o ops →
    (∀ x, i0 ≤ x → x < e → x ∉ PA → x ∉ PO → a x = args x) → (∀ x ∈ PA, a x = nI tA) → (∀ x ∈ PO, a x = nI tO) →
    (∀ x, i0 ≤ x → x < e → x ∉ qa → x ∉ qo → s x = said x) → (∀ x ∈ qa, s x = nI (1048576 * 11 + mA)) → (∀ x ∈ qo, s x = nI (1048576 * 12 + mO)) →
    AGL lu L F → ∀ (to d k : Nat) (b c : Nat → Int32), e ≤ tA → e ≤ tO → e ≤ mA → e ≤ mO → tA ≤ to → tO ≤ to → mA ≤ to → mO ≤ to → to ≤ 240 → d + h ≤ 32 → k ≤ i0 →
    JO o a s L F to d WB e b c (rC o a L to (nI d, nI i0, nI k, b)) (rM s F to (nI d, nI i0, c)) ∨
    (∃ k' b' c', k' ≤ tA ∧ rC o a L to (nI d, nI i0, nI k, b) = rC o a L to (nI (d + 1), nI tA, nI k', b') ∧ rM s F to (nI d, nI i0, c) = rM s F to (nI (d + 1), nI mA, c') ∧ (∀ z, z < d → b' z = b z ∧ c' z = c z) ∧ b' d = 0 ∧ c' d = 0) ∨
    (∃ k' b' c', k' ≤ tO ∧ rC o a L to (nI d, nI i0, nI k, b) = rC o a L to (nI (d + 1), nI tO, nI k', b') ∧ rM s F to (nI d, nI i0, c) = rM s F to (nI (d + 1), nI mO, c') ∧ (∀ z, z < d → b' z = b z ∧ c' z = c z) ∧ b' d = 1 ∧ c' d = 1)
section dci
variable {ops args said : Nat → Int32} {lu : Int32} {h i0 e : Nat} {PA PO qa qo : List Nat}
theorem CI_start (hP : PV WB ops args said lu h i0 e) : CI ops args said lu h i0 e [] [] [] [] := by
  intro o a s L F tA tO mA mO e1 e2 _ _ e3 _ _ e4 to d k b c g1 g2 g3 g4 g5 g6 g7 g8 g9 g10 g11
  exact Or.inl (hP o a s L F e1 (fun x y z => e2 x y z List.not_mem_nil List.not_mem_nil) (fun x y z => e3 x y z List.not_mem_nil List.not_mem_nil) e4 to d k b c (by omega) g9 g10 g11)
theorem CI_and (hC : CI ops args said lu h i0 e PA PO qa qo) {ops' args' said' : Nat → Int32} {lu' : Int32} {e' : Nat} (hl : SB lu lu') (hT : PV WB ops' args' said' lu' h (e + 1) e') (hi : i0 ≤ e) (he : e + 1 ≤ e') (he240 : e < 240) (h1 : 1 ≤ h)
    (hPA : ∀ x ∈ PA, x < e) (hPO : ∀ x ∈ PO, x < e) (hqa : ∀ x ∈ qa, x < e ∧ i0 ≤ x) (hqo : ∀ x ∈ qo, x < e) (hqq : ∀ x ∈ qa, x ∉ qo)
    (ho : AR i0 e ops' ops) (ho2 : ops' e = 4) (ha : ∀ x, i0 ≤ x → x < e → x ∉ PA → x ∉ PO → args' x = args x)
    (hs : ∀ x, i0 ≤ x → x < e → x ∉ qa → x ∉ qo → said' x = said x) (hs2 : ∀ x ∈ qa, said' x = nI (1048576 * 11 + e)) : CI ops' args' said' lu' h i0 e' (e :: PA) PO [e] qo := by
  intro o a s L F tA tO mA mO e1 e2 e3 e4 e5 e6 e7 e8 to d k b c g1 g2 g3 g4 g5 g6 g7 g8 g9 g10 g11
  have nPA : ∀ x, x < e → x ∉ PA → x ∉ e :: PA := fun x hx hn hm => by
    rcases List.mem_cons.mp hm with q | q
    · omega
    · exact hn q
  have nq : ∀ x, x < e → x ∉ ([e] : List Nat) := fun x hx hm => by
    have := List.mem_singleton.mp hm
    omega
  have sqa : ∀ x ∈ qa, s x = nI (1048576 * 11 + e) := fun x hx => by
    obtain ⟨x1, x2⟩ := hqa x hx
    rw [e5 x x2 (by omega) (nq x x1) (hqq x hx)]
    exact hs2 x hx
  have oe : o e = 4 := (e1 e (by omega) (by omega)).trans ho2
  have ae : a e = nI tA := e3 e List.mem_cons_self
  have se : s e = nI (1048576 * 11 + mA) := e6 e (List.mem_singleton.mpr rfl)
  have res := hC o a s L F tA tO e mO (AR_tr (AR_sub e1 (by omega) (by omega)) ho) (fun x x1 x2 x3 x4 => by rw [e2 x x1 (by omega) (nPA x x2 x3) x4]; exact ha x x1 x2 x3 x4) (fun x hx => e3 x (List.mem_cons_of_mem _ hx)) e4
    (fun x x1 x2 x3 x4 => by rw [e5 x x1 (by omega) (nq x x2) x4]; exact hs x x1 x2 x3 x4) sqa e7 (AGL_sub hl e8) to d k b c (by omega) (by omega) (Nat.le_refl e) (by omega) g5 g6 (by omega) g8 g9 g10 g11
  have sc := fun (b1 : Nat → Int32) (k1 : Nat) (hk1 : k1 ≤ e) => sC_and (o := o) (a := a) (L := L) (b := b1) (k := k1) (d := d) (show e < to by omega) g9 (by omega) (by omega) oe
  have sm := fun (c1 : Nat → Int32) => sM_and (c := s) (F := F) (b := c1) (d := d) (show e < to by omega) g9 (by omega) (show mA < 1048576 by omega) se
  rcases res with (⟨v, k1, b1, c1, q1, q2, q3, q4, q5, q6, q7⟩ | ⟨b1, c1, q1, q2⟩) | ⟨k1, b1, c1, q1, q2, q3, q4, q5, q6⟩ | ⟨k1, b1, c1, q1, q2, q3, q4, q5, q6⟩
  · rcases q7 with q7 | q7
    · right; left
      refine ⟨k1 + 1, b1, c1, by omega, ?_, ?_, q4, by rw [q5, q7], by rw [q6, q7]⟩
      · rw [q2, (sc b1 k1 q1).1 (by rw [q5, q7]), ae]
      · rw [q3, (sm c1).1 (by rw [q6, q7])]
    · left
      have t := hT o a s L F (AR_sub e1 (by omega) (by omega)) (fun x x1 x2 => e2 x (by omega) x2 (fun hm => by
        rcases List.mem_cons.mp hm with q | q
        · omega
        · have := hPA x q; omega) (fun hm => by have := hPO x hm; omega)) (fun x x1 x2 => e5 x (by omega) x2 (fun hm => by
        have := List.mem_singleton.mp hm
        omega) (fun hm => by have := hqo x hm; omega)) e8 to d (k1 + 1) b1 c1 (by omega) g9 g10 (by omega)
      rw [q2, q3, (sc b1 k1 q1).2 (by rw [q5, q7]; decide), (sm c1).2 (by rw [q6, q7]; decide)]
      rcases t with ⟨v2, k2, b2, c2, r1, r2, r3, r4, r5, r6, r7⟩ | ⟨b2, c2, r1, r2⟩
      · exact Or.inl ⟨v2, k2, b2, c2, r1, r2, r3, fun z hz => ⟨(r4 z hz).1.trans (q4 z hz).1, (r4 z hz).2.trans (q4 z hz).2⟩, r5, r6, r7⟩
      · exact Or.inr ⟨b2, c2, r1, r2⟩
  · exact Or.inl (Or.inr ⟨b1, c1, q1, q2⟩)
  · right; left
    exact ⟨k1, b1, c1, q1, q2, by rw [q3, (sm c1).1 q6], q4, q5, q6⟩
  · right; right
    exact ⟨k1, b1, c1, q1, q2, q3, q4, q5, q6⟩
theorem CI_or (hC : CI ops args said lu h i0 e PA PO qa qo) {ops' args' said' : Nat → Int32} {lu' : Int32} {e' : Nat} (hl : SB lu lu') (hT : PV WB ops' args' said' lu' h (e + 1) e') (hi : i0 ≤ e) (he : e + 1 ≤ e') (he240 : e < 240) (h1 : 1 ≤ h)
    (hPA : ∀ x ∈ PA, x < e ∧ i0 ≤ x) (hPO : ∀ x ∈ PO, x < e) (hPP : ∀ x ∈ PA, x ∉ PO) (hqa : ∀ x ∈ qa, x < e ∧ i0 ≤ x) (hqo : ∀ x ∈ qo, x < e ∧ i0 ≤ x)
    (ho : AR i0 e ops' ops) (ho2 : ops' e = 5) (ha : ∀ x, i0 ≤ x → x < e → x ∉ PA → x ∉ PO → args' x = args x) (ha2 : ∀ x ∈ PA, args' x = nI e)
    (hs : ∀ x, i0 ≤ x → x < e → x ∉ qa → x ∉ qo → said' x = said x) (hs2 : ∀ x ∈ qa, said' x = nI (1048576 * 11 + e)) (hs3 : ∀ x ∈ qo, said' x = nI (1048576 * 12 + e)) : CI ops' args' said' lu' h i0 e' [] (e :: PO) [] [e] := by
  intro o a s L F tA tO mA mO e1 e2 e3 e4 e5 e6 e7 e8 to d k b c g1 g2 g3 g4 g5 g6 g7 g8 g9 g10 g11
  have nPO : ∀ x, x < e → x ∉ PO → x ∉ e :: PO := fun x hx hn hm => by
    rcases List.mem_cons.mp hm with q | q
    · omega
    · exact hn q
  have nq : ∀ x, x < e → x ∉ ([e] : List Nat) := fun x hx hm => by
    have := List.mem_singleton.mp hm
    omega
  have oe : o e = 5 := (e1 e (by omega) (by omega)).trans ho2
  have ae : a e = nI tO := e4 e List.mem_cons_self
  have se : s e = nI (1048576 * 12 + mO) := e7 e (List.mem_singleton.mpr rfl)
  have res := hC o a s L F e tO e e (AR_tr (AR_sub e1 (by omega) (by omega)) ho) (fun x x1 x2 x3 x4 => by rw [e2 x x1 (by omega) List.not_mem_nil (nPO x x2 x4)]; exact ha x x1 x2 x3 x4) (fun x hx => by
      obtain ⟨x1, x2⟩ := hPA x hx
      rw [e2 x x2 (by omega) List.not_mem_nil (nPO x x1 (hPP x hx))]; exact ha2 x hx) (fun x hx => e4 x (List.mem_cons_of_mem _ hx))
    (fun x x1 x2 x3 x4 => by rw [e5 x x1 (by omega) List.not_mem_nil (nq x x2)]; exact hs x x1 x2 x3 x4) (fun x hx => by
      obtain ⟨x1, x2⟩ := hqa x hx
      rw [e5 x x2 (by omega) List.not_mem_nil (nq x x1)]; exact hs2 x hx) (fun x hx => by
      obtain ⟨x1, x2⟩ := hqo x hx
      rw [e5 x x2 (by omega) List.not_mem_nil (nq x x1)]; exact hs3 x hx) (AGL_sub hl e8) to d k b c (Nat.le_refl e) (by omega) (Nat.le_refl e) (Nat.le_refl e) (by omega) g6 (by omega) (by omega) g9 g10 g11
  have sc := fun (b1 : Nat → Int32) (k1 : Nat) (hk1 : k1 ≤ e) => sC_or (o := o) (a := a) (L := L) (b := b1) (k := k1) (d := d) (show e < to by omega) g9 (by omega) (by omega) oe
  have sm := fun (c1 : Nat → Int32) => sM_or (c := s) (F := F) (b := c1) (d := d) (show e < to by omega) g9 (by omega) (show mO < 1048576 by omega) se
  -- a 0 goes on
  have go : ∀ (k1 : Nat) (b1 c1 : Nat → Int32), k1 ≤ e → rC o a L to (nI d, nI i0, nI k, b) = rC o a L to (nI (d + 1), nI e, nI k1, b1) → rM s F to (nI d, nI i0, c) = rM s F to (nI (d + 1), nI e, c1) → (∀ z, z < d → b1 z = b z ∧ c1 z = c z) → b1 d = 0 → c1 d = 0 → JO o a s L F to d WB e' b c (rC o a L to (nI d, nI i0, nI k, b)) (rM s F to (nI d, nI i0, c)) := by
    intro k1 b1 c1 q1 q2 q3 q4 q5 q6
    have t := hT o a s L F (AR_sub e1 (by omega) (by omega)) (fun x x1 x2 => e2 x (by omega) x2 List.not_mem_nil (fun hm => by
        rcases List.mem_cons.mp hm with q | q
        · omega
        · have := hPO x q; omega)) (fun x x1 x2 => e5 x (by omega) x2 List.not_mem_nil (fun hm => by
        have := List.mem_singleton.mp hm
        omega)) e8 to d (k1 + 1) b1 c1 (by omega) g9 g10 (by omega)
    rw [q2, q3, (sc b1 k1 q1).2 q5, (sm c1).2 (by rw [q6]; decide)]
    rcases t with ⟨v2, k2, b2, c2, r1, r2, r3, r4, r5, r6, r7⟩ | ⟨b2, c2, r1, r2⟩
    · exact Or.inl ⟨v2, k2, b2, c2, r1, r2, r3, fun z hz => ⟨(r4 z hz).1.trans (q4 z hz).1, (r4 z hz).2.trans (q4 z hz).2⟩, r5, r6, r7⟩
    · exact Or.inr ⟨b2, c2, r1, r2⟩
  rcases res with (⟨v, k1, b1, c1, q1, q2, q3, q4, q5, q6, q7⟩ | ⟨b1, c1, q1, q2⟩) | ⟨k1, b1, c1, q1, q2, q3, q4, q5, q6⟩ | ⟨k1, b1, c1, q1, q2, q3, q4, q5, q6⟩
  · rcases q7 with q7 | q7
    · exact Or.inl (go k1 b1 c1 q1 q2 q3 q4 (by rw [q5, q7]) (by rw [q6, q7]))
    · right; right
      refine ⟨k1 + 1, b1, c1, by omega, ?_, ?_, q4, by rw [q5, q7], by rw [q6, q7]⟩
      · rw [q2, (sc b1 k1 q1).1 (by rw [q5, q7]; decide), ae]
      · rw [q3, (sm c1).1 (by rw [q6, q7])]
  · exact Or.inl (Or.inr ⟨b1, c1, q1, q2⟩)
  · exact Or.inl (go k1 b1 c1 q1 q2 q3 q4 q5 q6)
  · right; right
    exact ⟨k1, b1, c1, q1, q2, by rw [q3, (sm c1).1 q6], q4, q5, q6⟩
theorem CI_end (hC : CI ops args said lu h i0 e PA PO qa qo) {args' said' : Nat → Int32} (hi : i0 ≤ e)
    (hPA : ∀ x ∈ PA, x < e ∧ i0 ≤ x) (hPO : ∀ x ∈ PO, x < e ∧ i0 ≤ x) (hqa : ∀ x ∈ qa, x < e ∧ i0 ≤ x) (hqo : ∀ x ∈ qo, x < e ∧ i0 ≤ x)
    (ha : ∀ x, i0 ≤ x → x < e → x ∉ PA → x ∉ PO → args' x = args x) (ha2 : ∀ x ∈ PA, args' x = nI e) (ha3 : ∀ x ∈ PO, args' x = nI e)
    (hs : ∀ x, i0 ≤ x → x < e → x ∉ qa → x ∉ qo → said' x = said x) (hs2 : ∀ x ∈ qa, said' x = nI (1048576 * 11 + e)) (hs3 : ∀ x ∈ qo, said' x = nI (1048576 * 12 + e)) : PV WB ops args' said' lu h i0 e := by
  intro o a s L F e1 e2 e3 e4 to d k b c g1 g2 g3 g4
  have res := hC o a s L F e e e e e1 (fun x x1 x2 x3 x4 => by rw [e2 x x1 x2]; exact ha x x1 x2 x3 x4) (fun x hx => by rw [e2 x (hPA x hx).2 (hPA x hx).1]; exact ha2 x hx) (fun x hx => by rw [e2 x (hPO x hx).2 (hPO x hx).1]; exact ha3 x hx)
    (fun x x1 x2 x3 x4 => by rw [e3 x x1 x2]; exact hs x x1 x2 x3 x4) (fun x hx => by rw [e3 x (hqa x hx).2 (hqa x hx).1]; exact hs2 x hx) (fun x hx => by rw [e3 x (hqo x hx).2 (hqo x hx).1]; exact hs3 x hx) e4 to d k b c (Nat.le_refl _) (Nat.le_refl _) (Nat.le_refl _) (Nat.le_refl _) g1 g1 g1 g1 g2 g3 g4
  rcases res with q | ⟨k1, b1, c1, q1, q2, q3, q4, q5, q6⟩ | ⟨k1, b1, c1, q1, q2, q3, q4, q5, q6⟩
  · exact q
  · exact Or.inl ⟨0, k1, b1, c1, q1, q2, q3, q4, q5, q6, Or.inl rfl⟩
  · exact Or.inl ⟨1, k1, b1, c1, q1, q2, q3, q4, q5, q6, Or.inr rfl⟩
end dci
