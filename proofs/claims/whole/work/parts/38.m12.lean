def mnI (F : Nat → Int) (P : Nat → Bool) : Nat → Int
  | 0 => -1
  | k + 1 => if P k = true then (if mnI F P k < 0 ∨ F k < mnI F P k then F k else mnI F P k) else mnI F P k
theorem mnI_congr {F G : Nat → Int} {P : Nat → Bool} : ∀ n, (∀ k, k < n → P k = true → F k = G k) → mnI F P n = mnI G P n
  | 0, _ => rfl
  | n + 1, e => by
    unfold mnI
    rw [mnI_congr n (fun k hk => e k (by omega))]
    by_cases c : P n = true
    · rw [if_pos c, if_pos c, e n (by omega) c]
    · rw [if_neg c, if_neg c]
theorem mnI_at {F : Nat → Int} {P : Nat → Bool} : ∀ n, (∀ k, k < n → P k = true → 0 ≤ F k) → (mnI F P n = -1 ∧ ∀ k, k < n → ¬ P k = true) ∨ (0 ≤ mnI F P n ∧ (∀ k, k < n → P k = true → mnI F P n ≤ F k) ∧ ∃ k, k < n ∧ P k = true ∧ mnI F P n = F k)
  | 0, _ => Or.inl ⟨rfl, fun k hk => absurd hk (Nat.not_lt_zero k)⟩
  | n + 1, h => by
    have ih := mnI_at n (fun k hk => h k (by omega))
    have hn := h n (by omega)
    unfold mnI
    by_cases c : P n = true
    · rw [if_pos c]
      have h0 := hn c
      rcases ih with ⟨e, hno⟩ | ⟨e, hle, k, hk, hPk, hek⟩
      · rw [if_pos (Or.inl (by omega))]
        refine Or.inr ⟨h0, fun j hj hP => ?_, n, by omega, c, rfl⟩
        rcases Nat.lt_succ_iff_lt_or_eq.mp hj with z | z
        · exact absurd hP (hno j z)
        · rw [z]; exact Int.le_refl _
      · by_cases d : F n < mnI F P n
        · rw [if_pos (Or.inr d)]
          refine Or.inr ⟨h0, fun j hj hP => ?_, n, by omega, c, rfl⟩
          rcases Nat.lt_succ_iff_lt_or_eq.mp hj with z | z
          · have := hle j z hP; omega
          · rw [z]; exact Int.le_refl _
        · rw [if_neg (by omega)]
          refine Or.inr ⟨e, fun j hj hP => ?_, k, by omega, hPk, hek⟩
          rcases Nat.lt_succ_iff_lt_or_eq.mp hj with z | z
          · exact hle j z hP
          · rw [z]; omega
    · rw [if_neg c]
      rcases ih with ⟨e, hno⟩ | ⟨e, hle, k, hk, hPk, hek⟩
      · refine Or.inl ⟨e, fun j hj => ?_⟩
        rcases Nat.lt_succ_iff_lt_or_eq.mp hj with z | z
        · exact hno j z
        · rw [z]; exact c
      · refine Or.inr ⟨e, fun j hj hP => ?_, k, by omega, hPk, hek⟩
        rcases Nat.lt_succ_iff_lt_or_eq.mp hj with z | z
        · exact hle j z hP
        · rw [z] at hP; exact absurd hP c
theorem or_in {size set x : Nat} (h : set ≤ 2 ^ size - 1) (hx : x < size) : set ||| 2 ^ x ≤ 2 ^ size - 1 := by
  have h0 : 0 < 2 ^ size := Nat.two_pow_pos size
  have h1 : 2 ^ x < 2 ^ size := Nat.pow_lt_pow_right (by decide) hx
  have := Nat.or_lt_two_pow (x := set) (y := 2 ^ x) (n := size) (by omega) h1
  omega
theorem or_gt {set x : Nat} (h : set.testBit x = false) : set < set ||| 2 ^ x := by
  have h1 : set ≤ set ||| 2 ^ x := Nat.left_le_or
  rcases Nat.lt_or_eq_of_le h1 with z | z
  · exact z
  · have e : (set ||| 2 ^ x).testBit x = true := by rw [Nat.testBit_or, Nat.testBit_two_pow_self, Bool.or_true]
    rw [← z, h] at e
    exact absurd e (by decide)
theorem ex_bit : ∀ size, size < 8 → ∀ set, set < 2 ^ size - 1 → ∃ x, x < size ∧ set.testBit x = false := by decide +kernel
def tI (size : Nat) (sc : Nat → Nat → Nat) : Nat → Nat → Nat → Int
  | 0, _, last => (sc last 0 : Int)
  | f + 1, set, last => if set = 2 ^ size - 1 then (sc last 0 : Int) else mnI (fun x => (sc last x : Int) + tI size sc f (set ||| 2 ^ x) x) (fun x => !set.testBit x) size
theorem tI_s (size : Nat) (sc : Nat → Nat → Nat) (f set last : Nat) : tI size sc (f + 1) set last = if set = 2 ^ size - 1 then (sc last 0 : Int) else mnI (fun x => (sc last x : Int) + tI size sc f (set ||| 2 ^ x) x) (fun x => !set.testBit x) size := rfl
/-- the least way from a stop on, past all that a set lacks, and home -/
def eI (size : Nat) (sc : Nat → Nat → Nat) (set last : Nat) : Int := tI size sc (2 ^ size - 1 - set) set last
theorem eI_full (size : Nat) (sc : Nat → Nat → Nat) (last : Nat) : eI size sc (2 ^ size - 1) last = (sc last 0 : Int) := by
  unfold eI
  rw [Nat.sub_self]
  rfl
theorem tI_fuel {size : Nat} {sc : Nat → Nat → Nat} : ∀ f set last, set ≤ 2 ^ size - 1 → 2 ^ size - 1 - set ≤ f → tI size sc f set last = eI size sc set last
  | 0, set, last, h, hf => by
    unfold eI
    rw [show 2 ^ size - 1 - set = 0 by omega]
  | f + 1, set, last, h, hf => by
    by_cases e : set = 2 ^ size - 1
    · rw [tI_s, if_pos e, e, eI_full]
    · unfold eI
      obtain ⟨g, hg⟩ : ∃ g, 2 ^ size - 1 - set = g + 1 := ⟨2 ^ size - 1 - set - 1, by omega⟩
      rw [hg, tI_s, tI_s, if_neg e, if_neg e]
      refine mnI_congr size (fun x hx hP => ?_)
      have hb : set.testBit x = false := by simpa using hP
      have a := or_in (x := x) h hx
      have b := or_gt hb
      rw [tI_fuel f (set ||| 2 ^ x) x a (by omega), tI_fuel g (set ||| 2 ^ x) x a (by omega)]
theorem eI_lt {size : Nat} {sc : Nat → Nat → Nat} {set last : Nat} (h : set < 2 ^ size - 1) : eI size sc set last = mnI (fun x => (sc last x : Int) + eI size sc (set ||| 2 ^ x) x) (fun x => !set.testBit x) size := by
  rw [← tI_fuel (2 ^ size - 1 - set + 1) set last (by omega) (by omega), tI_s, if_neg (by omega)]
  refine mnI_congr size (fun x hx hP => ?_)
  have hb : set.testBit x = false := by simpa using hP
  have a := or_in (x := x) (show set ≤ 2 ^ size - 1 by omega) hx
  have b := or_gt hb
  rw [tI_fuel (2 ^ size - 1 - set) (set ||| 2 ^ x) x a (by omega)]
theorem tI_bd {size : Nat} {sc : Nat → Nat → Nat} (h7 : size < 8) (hsc : ∀ a b, sc a b ≤ 24) : ∀ f set last, set ≤ 2 ^ size - 1 → 2 ^ size - 1 - set ≤ f → 0 ≤ tI size sc f set last ∧ tI size sc f set last ≤ 24 * (f + 1 : Nat)
  | 0, set, last, h, hf => by
    have := hsc last 0
    unfold tI
    omega
  | f + 1, set, last, h, hf => by
    have h0 := hsc last 0
    rw [tI_s]
    by_cases e : set = 2 ^ size - 1
    · rw [if_pos e]; omega
    · rw [if_neg e]
      have hall : ∀ x, x < size → (!set.testBit x) = true → 0 ≤ (sc last x : Int) + tI size sc f (set ||| 2 ^ x) x ∧ (sc last x : Int) + tI size sc f (set ||| 2 ^ x) x ≤ 24 * (f + 1 + 1 : Nat) := by
        intro x hx hP
        have hb : set.testBit x = false := by simpa using hP
        have a := or_in (x := x) h hx
        have b := or_gt hb
        have c := tI_bd h7 hsc f (set ||| 2 ^ x) x a (by omega)
        have d := hsc last x
        omega
      obtain ⟨x, hx, hb⟩ := ex_bit size h7 set (by omega)
      rcases mnI_at (F := fun x => (sc last x : Int) + tI size sc f (set ||| 2 ^ x) x) (P := fun x => !set.testBit x) size (fun k hk hP => (hall k hk hP).1) with ⟨-, hno⟩ | ⟨h1, -, k, hk, hPk, hek⟩
      · exact absurd (show (!set.testBit x) = true by rw [hb]; rfl) (hno x hx)
      · exact ⟨h1, by rw [hek]; exact (hall k hk hPk).2⟩
theorem eI_bd {size : Nat} {sc : Nat → Nat → Nat} {set last : Nat} (h7 : size < 8) (hsc : ∀ a b, sc a b ≤ 24) (h : set ≤ 2 ^ size - 1) : 0 ≤ eI size sc set last ∧ eI size sc set last ≤ 3072 := by
  have a := tI_bd h7 hsc (2 ^ size - 1 - set) set last h (Nat.le_refl _)
  have b : 2 ^ size ≤ 2 ^ 7 := Nat.pow_le_pow_right (by decide) (by omega)
  unfold eI
  omega
/-- the best so far, when the first k have been looked at -/
def bsI (size : Nat) (sc : Nat → Nat → Nat) (set last k : Nat) : Int := if set = 2 ^ size - 1 then (sc last 0 : Int) else mnI (fun x => (sc last x : Int) + eI size sc (set ||| 2 ^ x) x) (fun x => !set.testBit x) k
theorem bsI_e {size : Nat} {sc : Nat → Nat → Nat} {set last k : Nat} (h : set ≤ 2 ^ size - 1) (hk : set = 2 ^ size - 1 ∨ k = size) : bsI size sc set last k = eI size sc set last := by
  unfold bsI
  by_cases e : set = 2 ^ size - 1
  · rw [if_pos e, e, eI_full]
  · rw [if_neg e, eI_lt (by omega), hk.resolve_left e]
theorem bsI_bd {size : Nat} {sc : Nat → Nat → Nat} {set last k : Nat} (h7 : size < 8) (hsc : ∀ a b, sc a b ≤ 24) (h : set ≤ 2 ^ size - 1) (hk : k ≤ size) : -1 ≤ bsI size sc set last k ∧ bsI size sc set last k ≤ 4000 := by
  have h0 := hsc last 0
  unfold bsI
  by_cases e : set = 2 ^ size - 1
  · rw [if_pos e]; omega
  · rw [if_neg e]
    have hall : ∀ x, x < size → 0 ≤ (sc last x : Int) + eI size sc (set ||| 2 ^ x) x ∧ (sc last x : Int) + eI size sc (set ||| 2 ^ x) x ≤ 4000 := by
      intro x hx
      have c := eI_bd (last := x) h7 hsc (or_in (x := x) h hx)
      have d := hsc last x
      omega
    rcases mnI_at (F := fun x => (sc last x : Int) + eI size sc (set ||| 2 ^ x) x) (P := fun x => !set.testBit x) k (fun j hj _ => (hall j (by omega)).1) with ⟨e1, -⟩ | ⟨h1, -, j, hj, -, hej⟩
    · rw [e1]; omega
    · rw [hej]; have := hall j (by omega); omega
