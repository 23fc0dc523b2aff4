/-! rows of a grid; the polynomial and the powers of the root, as the class makes them -/
def grd (F : Nat → Int32) (o : Nat) : Nat → Int32 := fun i => F (i + o)
def gput (F : Nat → Int32) (o n : Nat) (f : Nat → Int32) : Nat → Int32 := fun x => if o ≤ x ∧ x < o + n then f (x - o) else F x
theorem gput_in {F f : Nat → Int32} {o n i : Nat} (h : i < n) : gput F o n f (i + o) = f i := by
  unfold gput
  rw [if_pos (by omega), show i + o - o = i by omega]
theorem gput_out {F f : Nat → Int32} {o n x : Nat} (h : x < o ∨ o + n ≤ x) : gput F o n f x = F x := by
  unfold gput
  rw [if_neg (by omega)]
theorem gput_id (F : Nat → Int32) (o n : Nat) : gput F o n (grd F o) = F := by
  funext x
  unfold gput grd
  by_cases h : o ≤ x ∧ x < o + n
  · rw [if_pos h, show x - o + o = x by omega]
  · rw [if_neg h]
theorem gput_congr {F f g : Nat → Int32} {o n : Nat} (h : ∀ i, i < n → f i = g i) : gput F o n f = gput F o n g := by
  funext x
  unfold gput
  by_cases h2 : o ≤ x ∧ x < o + n
  · rw [if_pos h2, if_pos h2, h _ (by omega)]
  · rw [if_neg h2, if_neg h2]
theorem gput_up {h : Mem} {r : Nat} {F f f' : Nat → Int32} {o n i : Nat} {v : Int32} (hi : i < n) (e : ∀ j, j < n → upd f i v j = f' j) : mup (mrow h r (gput F o n f)) r (i + o) v = mrow h r (gput F o n f') := by
  rw [mup_m]
  refine congrArg (mrow h r) (funext fun x => ?_)
  by_cases hx : o ≤ x ∧ x < o + n
  · have e2 := e (x - o) (by omega)
    unfold gput
    rw [if_pos hx, ← e2]
    simp only [upd]
    by_cases h3 : x = i + o
    · rw [if_pos h3, if_pos (by omega)]
    · rw [if_neg h3, if_pos hx, if_neg (by omega)]
  · unfold gput
    simp only [upd]
    rw [if_neg hx, if_neg (by omega), if_neg hx]
theorem gput_row (h : Mem) (r o n : Nat) : mrow h r (gput (h r) o n (grd (h r) o)) = h := by rw [gput_id, mrow_id]
theorem n_dec {k : Nat} (h : 1 ≤ k) : nI k + Int32.ofInt (-1) = nI (k - 1) := by rw [n_incz]; exact zI_of (by omega)
theorem i32_eq {x y : Int32} (h : x.toInt = y.toInt) : x = y := Int32.toInt_inj.mp h
theorem i32_0 {x : Int32} (h : x.toInt = 0) : x = 0 := Int32.toInt_inj.mp h
theorem xor_nn {a b : Nat} (ha : a < 2147483648) (hb : b < 2147483648) : 0 ≤ (nI a ^^^ nI b).toInt := by
  have e : (nI a ^^^ nI b).toInt = (nI a ^^^ nI b).toBitVec.toInt := rfl
  rw [e, Int32.toBitVec_xor, BitVec.toInt_eq_toNat_cond]
  have e1 : (nI a).toBitVec.toNat = a := pk_tn (by omega)
  have e2 : (nI b).toBitVec.toNat = b := pk_tn (by omega)
  rw [BitVec.toNat_xor, e1, e2]
  have := Nat.xor_lt_two_pow (n := 31) ha hb
  rw [if_pos (by omega)]
  omega
def setOneF : Nat → Int32 := fun i => if i = 0 then nI 1 else nI 0
def setOneK (f : Nat → Int32) (k : Nat) : Nat → Int32 := fun i => if i = 0 then nI 1 else if i < k then nI 0 else f i
theorem setOneK_s (f : Nat → Int32) {k : Nat} (h : 1 ≤ k) : upd (setOneK f k) k (nI 0) = setOneK f (k + 1) := by
  funext i
  unfold setOneK
  by_cases hi : i = k
  · subst hi; rw [upd_s, if_neg (by omega), if_pos (by omega)]
  · rw [upd_n _ _ hi]
    by_cases h0 : i = 0
    · rw [if_pos h0, if_pos h0]
    · rw [if_neg h0, if_neg h0]
      by_cases h3 : i < k
      · rw [if_pos h3, if_pos (by omega)]
      · rw [if_neg h3, if_neg (by omega)]
def turnF (d : Nat) (p f : Nat → Int32) : Nat → Int32 := fun i => if i = 0 then -(f (d - 1)) * p 0 else if i < d then f (i - 1) - f (d - 1) * p i else f i
def turnK (d : Nat) (p f : Nat → Int32) (k : Nat) : Nat → Int32 := fun i => if k < i ∧ i < d then f (i - 1) - f (d - 1) * p i else f i
theorem turnK_0 (d : Nat) (p f : Nat → Int32) : turnK d p f (d - 1) = f := by
  funext i; unfold turnK; rw [if_neg (by omega)]
theorem turnK_s {d k : Nat} (p f : Nat → Int32) (h : 1 ≤ k) (h2 : k ≤ d - 1) : upd (turnK d p f k) k (f (k - 1) - f (d - 1) * p k) = turnK d p f (k - 1) := by
  funext i
  unfold turnK
  by_cases hi : i = k
  · subst hi; rw [upd_s, if_pos (by omega)]
  · rw [upd_n _ _ hi]
    by_cases h3 : k < i ∧ i < d
    · rw [if_pos h3, if_pos (by omega)]
    · rw [if_neg h3, if_neg (by omega)]
theorem turnK_e {d : Nat} (p f : Nat → Int32) : upd (turnK d p f 0) 0 (-(f (d - 1)) * p 0) = turnF d p f := by
  funext i
  unfold turnK turnF
  by_cases hi : i = 0
  · subst hi; rw [upd_s, if_pos rfl]
  · rw [upd_n _ _ hi, if_neg hi]
    by_cases h3 : i < d
    · rw [if_pos (by omega), if_pos h3]
    · rw [if_neg (by omega), if_neg h3]
def addF (d : Nat) (f g : Nat → Int32) (t : Int32) : Nat → Int32 := fun i => if i < d then f i + t * g i else f i
theorem addF_0 (f g : Nat → Int32) (t : Int32) : addF 0 f g t = f := by funext i; unfold addF; rw [if_neg (by omega)]
theorem addF_s (k : Nat) (f g : Nat → Int32) (t : Int32) : upd (addF k f g t) k (f k + t * g k) = addF (k + 1) f g t := by
  funext i
  unfold addF
  by_cases hi : i = k
  · subst hi; rw [upd_s, if_pos (by omega)]
  · rw [upd_n _ _ hi]
    by_cases h3 : i < k
    · rw [if_pos h3, if_pos (by omega)]
    · rw [if_neg h3, if_neg (by omega)]
/-! the product of (1 - x^d) -/
def mulK (q d : Nat) (p : Nat → Int32) (k : Nat) : Nat → Int32 := fun i => if k < i ∧ i ≤ q then p i - p (i - d) else p i
def mulF (q d : Nat) (p : Nat → Int32) : Nat → Int32 := fun i => if d ≤ i ∧ i ≤ q then p i - p (i - d) else p i
theorem mulK_0 (q d : Nat) (p : Nat → Int32) : mulK q d p q = p := by funext i; unfold mulK; rw [if_neg (by omega)]
theorem mulK_s {q d k : Nat} (p : Nat → Int32) (h : d ≤ k) (h1 : 1 ≤ d) (h2 : k ≤ q) : upd (mulK q d p k) k (p k - p (k - d)) = mulK q d p (k - 1) := by
  funext i
  unfold mulK
  by_cases hi : i = k
  · subst hi; rw [upd_s, if_pos (by omega)]
  · rw [upd_n _ _ hi]
    by_cases h3 : k < i ∧ i ≤ q
    · rw [if_pos h3, if_pos (by omega)]
    · rw [if_neg h3, if_neg (by omega)]
def divG (d : Nat) (p : Nat → Int32) : Nat → Nat → Int32
  | 0, i => p i
  | f + 1, i => if i < d then p i else p i + divG d p f (i - d)
theorem divG_up {d : Nat} {p : Nat → Int32} (hd : 1 ≤ d) : ∀ (f i : Nat), i ≤ f → divG d p (f + 1) i = divG d p f i
  | 0, i, h => by
    have : i = 0 := by omega
    subst this
    simp [divG]; omega
  | f + 1, i, h => by
    show (if i < d then p i else p i + divG d p (f + 1) (i - d)) = (if i < d then p i else p i + divG d p f (i - d))
    by_cases h2 : i < d
    · rw [if_pos h2, if_pos h2]
    · rw [if_neg h2, if_neg h2, divG_up hd f (i - d) (by omega)]
theorem divG_ge {d : Nat} {p : Nat → Int32} (hd : 1 ≤ d) : ∀ (g i f : Nat), i ≤ f → divG d p (f + g) i = divG d p f i
  | 0, _, _, _ => rfl
  | g + 1, i, f, h => (divG_up hd (f + g) i (by omega)).trans (divG_ge hd g i f h)
def divF (q d : Nat) (p : Nat → Int32) (k : Nat) : Nat → Int32 := fun i => if i < k then divG d p 24 i else p i
theorem divF_0 (q d : Nat) (p : Nat → Int32) : divF q d p d = p := by
  funext i; unfold divF
  by_cases h : i < d
  · rw [if_pos h]
    show (if i < d then p i else _) = _
    rw [if_pos h]
  · rw [if_neg h]
theorem divF_s {q d k : Nat} (p : Nat → Int32) (h : d ≤ k) (h1 : 1 ≤ d) (h2 : k ≤ 24) : upd (divF q d p k) k (p k + divF q d p k (k - d)) = divF q d p (k + 1) := by
  funext i
  unfold divF
  by_cases hi : i = k
  · subst hi
    rw [upd_s, if_pos (by omega), if_pos (by omega)]
    show _ = (if i < d then p i else p i + divG d p 23 (i - d))
    rw [if_neg (by omega)]
    rw [divG_ge h1 1 (i - d) 23 (by omega)]
  · rw [upd_n _ _ hi]
    by_cases h3 : i < k
    · rw [if_pos h3, if_pos (by omega)]
    · rw [if_neg h3, if_neg (by omega)]
/-- what is left of n, and the sign, when the numbers up to k have been taken out -/
def mob (n : Nat) : Nat → Nat × Int
  | 0 => (n, 1)
  | 1 => (n, 1)
  | k + 1 => if (mob n k).1 % (k + 1) = 0 then ((mob n k).1 / (k + 1), if (mob n k).1 / (k + 1) % (k + 1) = 0 then 0 else -(mob n k).2) else mob n k
theorem mob_s {n k : Nat} (h : 1 ≤ k) : mob n (k + 1) = if (mob n k).1 % (k + 1) = 0 then ((mob n k).1 / (k + 1), if (mob n k).1 / (k + 1) % (k + 1) = 0 then 0 else -(mob n k).2) else mob n k := by
  obtain ⟨j, rfl⟩ : ∃ j, k = j + 1 := ⟨k - 1, by omega⟩
  rfl
theorem mob_b (n : Nat) : ∀ k, (mob n k).1 ≤ n ∧ -1 ≤ (mob n k).2 ∧ (mob n k).2 ≤ 1
  | 0 => by simp [mob]
  | 1 => by simp [mob]
  | k + 2 => by
    have h9 := mob_b n (k + 1)
    rw [mob_s (by omega)]
    rcases hm : mob n (k + 1) with ⟨a, z⟩
    rw [hm] at h9
    have h1 : a ≤ n := h9.1
    have h2 : -1 ≤ z := h9.2.1
    have h3 : z ≤ 1 := h9.2.2
    have h4 := Nat.div_le_self a (k + 1 + 1)
    by_cases c1 : a % (k + 1 + 1) = 0
    · rw [if_pos c1]
      by_cases c2 : a / (k + 1 + 1) % (k + 1 + 1) = 0
      · rw [if_pos c2]
        exact ⟨Nat.le_trans h4 h1, (by decide : (-1 : Int) ≤ 0), (by decide : (0 : Int) ≤ 1)⟩
      · rw [if_neg c2]
        exact ⟨Nat.le_trans h4 h1, by show -1 ≤ -z; omega, by show -z ≤ 1; omega⟩
    · rw [if_neg c1]
      exact ⟨h1, h2, h3⟩
/-- the polynomial's row and degree, when the divisors up to k have been taken -/
def sgn (q k : Nat) : Int := if q % k = 0 then (mob (q / k) (q / k)).2 else 0
def polK (q : Nat) : Nat → Nat → Int32
  | 0 => setOneF
  | k + 1 => if 0 < sgn q (k + 1) then mulF q (k + 1) (polK q k) else if sgn q (k + 1) < 0 then divF q (k + 1) (polK q k) (q + 1) else polK q k
def degK (q : Nat) : Nat → Int
  | 0 => 0
  | k + 1 => degK q k + sgn q (k + 1) * ((k + 1 : Nat) : Int)
/-- the powers of the root -/
def powT (d : Nat) (p : Nat → Int32) : Nat → Nat → Int32
  | 0 => setOneF
  | j + 1 => turnF d p (powT d p j)
/-- the grid of the powers, k rows made -/
def powG (F : Nat → Int32) (d : Nat) (p : Nat → Int32) (k : Nat) : Nat → Int32 := fun x => if x < 24 * k then powT d p (x / 24) (x % 24) else F x
