/-! what the calls answer, in words that serve both systems -/
theorem sw5 (x : Int32) : x = nI 0 ∨ x = nI 1 ∨ x = nI 2 ∨ x = nI 3 ∨ x = nI 4 ∨ (x.toInt < 0 ∨ 4 < x.toInt) := by
  by_cases h : 0 ≤ x.toInt ∧ x.toInt ≤ 4
  · have e : x = zI x.toInt := zI_eq rfl
    rcases (show x.toInt = 0 ∨ x.toInt = 1 ∨ x.toInt = 2 ∨ x.toInt = 3 ∨ x.toInt = 4 by omega) with h | h | h | h | h <;> rw [h] at e <;> rw [e] <;> decide
  · right; right; right; right; right; omega
theorem sw8 (x : Int32) : x = nI 0 ∨ x = nI 1 ∨ x = nI 2 ∨ x = nI 3 ∨ x = nI 4 ∨ x = nI 5 ∨ x = nI 6 ∨ x = nI 7 ∨ (x.toInt < 0 ∨ 7 < x.toInt) := by
  by_cases h : 0 ≤ x.toInt ∧ x.toInt ≤ 7
  · have e : x = zI x.toInt := zI_eq rfl
    rcases (show x.toInt = 0 ∨ x.toInt = 1 ∨ x.toInt = 2 ∨ x.toInt = 3 ∨ x.toInt = 4 ∨ x.toInt = 5 ∨ x.toInt = 6 ∨ x.toInt = 7 by omega) with h | h | h | h | h | h | h | h <;> rw [h] at e <;> rw [e] <;> decide
  · right; right; right; right; right; right; right; right; omega
abbrev isC (n : Nat) (x : Int32) : Prop := 0 ≤ x.toInt ∧ x.toInt ≤ (n : Int) - 1
abbrev okMot (x y z : Int32) : Prop := (3 ≤ x.toInt ∧ x.toInt ≤ 24) ∧ (1 ≤ y.toInt ∧ y.toInt ≤ 6) ∧ (1 ≤ z.toInt ∧ z.toInt ≤ 3)
def toldV (n : Nat) (ph ci co tu us : Nat → Int32) (c w : Int32) : Int32 :=
  if isC n c then (if w.toInt = 0 then ph (tn c) else if w.toInt = 1 then ci (tn c) else if w.toInt = 2 then co (tn c) else if w.toInt = 3 then tu (tn c) else if w.toInt = 4 then us (tn c) else zI (-1)) else zI (-1)
def sidV (q : Nat) (sd : Nat → Int32) (s : Int32) : Int32 := if isC q s then sd (tn s) else zI (-1)
def cntV (q p m n d : Nat) (us : Nat → Int32) (w : Int32) : Int32 :=
  if w.toInt = 0 then nI n else if w.toInt = 1 then nI (cntU us n) else if w.toInt = 2 then nI q else if w.toInt = 3 then nI p else if w.toInt = 4 then nI m else if w.toInt = 5 then nI d else if w.toInt = 6 then nI (q / gdv q (2 * p) q * (2 * p)) else if w.toInt = 7 then bI (q % (m * gdv q p q) = 0) else zI (-1)
def cycV (d : Nat) (po : Nat → Int32) (i : Int32) : Int32 := if 0 ≤ i.toInt ∧ i.toInt ≤ d then po (tn i) else zI (-1001)
def wavV (m d : Nat) (W : Nat → Nat → Nat → Int32) (f t i : Int32) : Int32 := if isC m f ∧ (1 ≤ t.toInt ∧ t.toInt ≤ 47) ∧ isC d i then W (tn t) (tn f) (tn i) else (-100001)
def stiV (m d : Nat) (W : Nat → Nat → Nat → Int32) (f t : Int32) : Int32 := if isC m f ∧ (1 ≤ t.toInt ∧ t.toInt ≤ 47) then bI (∀ i, i < d → W (tn t) (tn f) i = 0) else zI (-1)
def balV (q m d : Nat) (po : Nat → Int32) (W : Nat → Nat → Nat → Int32) (t : Int32) : Int32 := if 1 ≤ t.toInt ∧ t.toInt ≤ 47 then ltV q m d (tn t) po (W (tn t)) else zI (-1)
def atV (n : Nat) (f : Nat → Int32) (x : Int32) : Int32 := if isC n x then f (tn x) else zI (-1)
def copS (q : Nat) (ci co tu us : Nat → Int32) : Nat → Nat
  | 0 => 0
  | k + 1 => copS q ci co tu us k + (if us k = nI 1 then tn (tu k) * apt q (tn (ci k)) (tn (co k)) else 0)
theorem copS_le {q : Nat} {ci co tu us : Nat → Int32} (hq : q ≤ 24) : ∀ k, (∀ j, j < k → tn (tu j) ≤ 99) → copS q ci co tu us k ≤ 2400 * k
  | 0, _ => Nat.le_refl _
  | k + 1, h => by
    have h1 := copS_le (ci := ci) (co := co) (us := us) hq k (fun j hj => h j (by omega))
    have h2 : tn (tu k) * apt q (tn (ci k)) (tn (co k)) ≤ 99 * 24 := Nat.mul_le_mul (h k (by omega)) (Nat.le_trans (apt_le _ _ _) hq)
    unfold copS
    split <;> omega
abbrev okSh (s y : Int32) : Prop := (0 ≤ s.toInt ∧ s.toInt ≤ 3) ∧ (0 ≤ y.toInt ∧ y.toInt ≤ 2)
def dgN (q : Nat) : Nat := (degK q q).toNat
theorem dgN_ok : ∀ q, q < 25 → 3 ≤ q → degK q q = (dgN q : Int) ∧ 1 ≤ dgN q ∧ dgN q ≤ 24 := by decide +kernel
/-- the rows of the class's memory that last from call to call are the same -/
def xeq (h h2 : Mem) : Prop := agr h h2 [36, 38, 41, 42, 43, 45, 46, 53, 55, 56, 58, 60] ∧ h2 53 1 = h 53 1 ∧ h2 58 3 = h 58 3
theorem xeq_rf (h : Mem) : xeq h h := ⟨fun _ _ => rfl, rfl, rfl⟩
theorem inR_3 {x : Int32} {a b : Nat} (h : (a : Int) ≤ x.toInt ∧ x.toInt ≤ (b : Int)) : ∃ j : Nat, a ≤ j ∧ j ≤ b ∧ x = nI j := inR_nat2 h
/-- the class's state between two calls -/
def XI (h : Mem) (q p m n d : Nat) : Prop := XC h q p m n d ∧ (∀ j, j < 24 → h 35 j = nI (cntS (h 31) (h 32) n j)) ∧ (∀ j, j < 24 → cntS (h 31) (h 32) n j ≤ 2) ∧ d = dgN q ∧ (∀ i, i < 25 → h 3 i = polK q q i) ∧ (∀ j i, j < q → i < 24 → h 5 (i + 24 * j) = powT d (h 3) j i) ∧ (∀ w, w < 4 → h 47 w = nI 0) ∧ (∀ w i, w < 4 → i < 24 → h 49 (i + 24 * w) = nI 0) ∧ (∀ j, 1 ≤ j → j < 7 → h 57 j = nI 0) ∧ (∃ t, t ≤ 7 ∧ h 53 1 = nI t) ∧ (∃ t, t ≤ 3 ∧ h 58 3 = nI t) ∧ (∀ s, s < 4 → (-1 ≤ (h 62 s).toInt ∧ (h 62 s).toInt ≤ 2) ∧ ∃ z, z ≤ 96 ∧ h 63 s = nI z)
