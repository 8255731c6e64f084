theorem t137 {X : Nat × (Nat → Int32)} {E : Nat → List Value → zH2 → Option zO2} {ar fi : Nat → Nat → Int32} {m : zM5} {a b c : Int32} : zseg X zFT E zc_137 (fun p => false) 400 0 [.int a, .int b, .int c] [] (ar, fi, m) = (
  bif decide (a < b) then
   some (.inr (some (.int 0), (ar, fi, m)))
  else
   bif decide (c < a) then
    some (.inr (some (.int 0), (ar, fi, m)))
   else
    some (.inr (some (.int 1), (ar, fi, m))) : Option ((Nat × List Value × List Value × zH2) ⊕ zO2)) := rfl

theorem t140 {X : Nat × (Nat → Int32)} {E : Nat → List Value → zH2 → Option zO2} {ar fi : Nat → Nat → Int32} {m : zM5} {p w : Int32} : zseg X zFT E zc_140 (fun p => false) 400 0 [.int p, .int w] [] (ar, fi, m) = (
  zg (!decide (12 = 0)) (
  zg (!decide (12 = 0)) (
  bif decide (w = 0) then
   bif decide (p / 12 ≤ 0) then
    some (.inr (some (.int (-1)), (ar, fi, m)))
   else
    some (.inr (some (.int (p - 12)), (ar, fi, m)))
  else
  bif decide (w = 1) then
   bif decide (11 ≤ p - p / 12 * 12) then
    some (.inr (some (.int (-1)), (ar, fi, m)))
   else
    some (.inr (some (.int (p + 1)), (ar, fi, m)))
  else
  bif decide (w = 2) then
   bif decide (7 ≤ p / 12) then
    some (.inr (some (.int (-1)), (ar, fi, m)))
   else
    some (.inr (some (.int (p + 12)), (ar, fi, m)))
  else
  bif decide (p - p / 12 * 12 ≤ 0) then
   some (.inr (some (.int (-1)), (ar, fi, m)))
  else
   some (.inr (some (.int (p - 1)), (ar, fi, m))))) : Option ((Nat × List Value × List Value × zH2) ⊕ zO2)) := rfl

theorem t76a {X : Nat × (Nat → Int32)} {E : Nat → List Value → zH2 → Option zO2} {ar fi : Nat → Nat → Int32} {m : zM5} {w : Int32} : zseg X zFT E zc_76 (fun p => Nat.beq p 4) 400 0 [.ref 2, .int w] [] (ar, fi, m) = (
  some (.inl (4, [.ref 2, .int w, .int 0, .int 0], [], (ar, fi, m))) : Option ((Nat × List Value × List Value × zH2) ⊕ zO2)) := rfl

theorem t76b {X : Nat × (Nat → Int32)} {E : Nat → List Value → zH2 → Option zO2} {ar fi : Nat → Nat → Int32} {m : zM5} {w n p : Int32} : zseg X zFT E zc_76 (fun p => Nat.beq p 4) 400 4 [.ref 2, .int w, .int n, .int p] [] (ar, fi, m) = (
  bif decide (96 ≤ p) then
   some (.inr (some (.int n), (ar, fi, m)))
  else
   zg (zin p 96) (
   bif !decide ((ar 4) p.toNatClampNeg = w) then
    some (.inl (4, [.ref 2, .int w, .int n, .int (p + 1)], [], (ar, fi, m)))
   else
    some (.inl (4, [.ref 2, .int w, .int (n + 1), .int (p + 1)], [], (ar, fi, m)))) : Option ((Nat × List Value × List Value × zH2) ⊕ zO2)) := rfl

theorem t207b {X : Nat × (Nat → Int32)} {E : Nat → List Value → zH2 → Option zO2} {ar fi : Nat → Nat → Int32} {m : zM5} {w n p : Int32} : zseg X zFT E zc_207 (fun p => Nat.beq p 4) 400 4 [.ref 64, .int w, .int n, .int p] [] (ar, fi, m) = (
  bif decide (96 ≤ p) then
   some (.inr (some (.int n), (ar, fi, m)))
  else
   zg (zin (0 + p) 315) (
   bif !decide ((ar 65) (0 + p).toNatClampNeg = w) then
    some (.inl (4, [.ref 64, .int w, .int n, .int (p + 1)], [], (ar, fi, m)))
   else
    some (.inl (4, [.ref 64, .int w, .int (n + 1), .int (p + 1)], [], (ar, fi, m)))) : Option ((Nat × List Value × List Value × zH2) ⊕ zO2)) := rfl

theorem t200 {X : Nat × (Nat → Int32)} {E : Nat → List Value → zH2 → Option zO2} {ar fi : Nat → Nat → Int32} {m : zM5}  : zseg X zFT E zc_201 (fun p => false) 400 0 [.ref 64] [] (ar, fi, m) = (
  zg (zin 314 315) (
  zg (!decide (65536 = 0)) (
  zg (zin 314 315) (
  zg (zin 314 315) (
  zg (!decide (10 = 0)) (
  some (.inr (some (.int (((zup (ar 65) ((314 : Int32).toNatClampNeg) (((25173 * ((ar 65) (314 : Int32).toNatClampNeg)) + 13849) - ((25173 * ((ar 65) (314 : Int32).toNatClampNeg)) + 13849) / 65536 * 65536)) (314 : Int32).toNatClampNeg) - ((zup (ar 65) ((314 : Int32).toNatClampNeg) (((25173 * ((ar 65) (314 : Int32).toNatClampNeg)) + 13849) - ((25173 * ((ar 65) (314 : Int32).toNatClampNeg)) + 13849) / 65536 * 65536)) (314 : Int32).toNatClampNeg) / 10 * 10)), ((zup ar 65 (zup (ar 65) ((314 : Int32).toNatClampNeg) (((25173 * ((ar 65) (314 : Int32).toNatClampNeg)) + 13849) - ((25173 * ((ar 65) (314 : Int32).toNatClampNeg)) + 13849) / 65536 * 65536))), fi, m)))))))) : Option ((Nat × List Value × List Value × zH2) ⊕ zO2)) := rfl

