/-! the class's state, as its methods take it; the waves -/
def XC (h : Mem) (q p m n d : Nat) : Prop := h 1 0 = nI q ∧ h 1 1 = nI p ∧ h 1 2 = nI m ∧ 3 ≤ q ∧ q ≤ 24 ∧ 1 ≤ p ∧ p ≤ 6 ∧ 1 ≤ m ∧ m ≤ 3 ∧ h 29 1 = nI n ∧ n ≤ 24 ∧ coilsOK q m n (h 30) (h 31) (h 32) (h 33) (h 34) ∧ h 2 0 = nI q ∧ h 2 1 = nI d ∧ 1 ≤ d ∧ d ≤ 24
def zrK (f : Nat → Int32) (k : Nat) : Nat → Int32 := fun i => if i < k then nI 0 else f i
theorem zrK_0 (f : Nat → Int32) : zrK f 0 = f := by funext i; unfold zrK; rw [if_neg (by omega)]
theorem zrK_s (f : Nat → Int32) (k : Nat) : upd (zrK f k) k (nI 0) = zrK f (k + 1) := by
  funext i
  unfold zrK
  by_cases hi : i = k
  · subst hi; rw [upd_s, if_pos (by omega)]
  · rw [upd_n _ _ hi]
    by_cases h3 : i < k
    · rw [if_pos h3, if_pos (by omega)]
    · rw [if_neg h3, if_neg (by omega)]
def zF : Nat → Int32 := fun _ => nI 0
/-- a coil's part, added to a row below the degree -/
def acF (d q : Nat) (g : Nat → Int32) (a b : Nat) (fac : Int32) (f : Nat → Int32) : Nat → Int32 := addF d (addF d f (grd g (24 * (a % q))) fac) (grd g (24 * (b % q))) (-fac)
theorem addF_at {d : Nat} {f f' g : Nat → Int32} {t : Int32} {i : Nat} (e : f i = f' i) : addF d f g t i = addF d f' g t i := by
  unfold addF; rw [e]
theorem acF_at {d q : Nat} {g f f' : Nat → Int32} {a b : Nat} {t : Int32} {i : Nat} (e : f i = f' i) : acF d q g a b t f i = acF d q g a b t f' i := addF_at (addF_at e)
theorem ac_mem (h : Mem) (r o n d : Nat) (g1 g2 : Nat → Int32) (t : Int32) : mrow (mrow h r (gput (h r) o n g1)) r (gput (mrow h r (gput (h r) o n g1) r) o n (addF d (grd (mrow h r (gput (h r) o n g1) r) o) g2 t)) = mrow h r (gput (h r) o n (addF d g1 g2 t)) := by
  rw [mrow_m, mrow_s]
  refine congrArg (mrow h r) (funext fun x => ?_)
  by_cases hx : o ≤ x ∧ x < o + n
  · unfold gput
    rw [if_pos hx, if_pos hx]
    refine addF_at ?_
    unfold grd
    show (if o ≤ x - o + o ∧ x - o + o < o + n then g1 (x - o + o - o) else h r (x - o + o)) = _
    rw [if_pos (by omega), show x - o + o - o = x - o by omega]
  · rw [gput_out (by omega), gput_out (by omega), gput_out (by omega)]
/-- a phase's wave by the first k coils -/
def wvS (d q tone : Nat) (g ph ci co tu us : Nat → Int32) (f : Nat) : Nat → Nat → Int32
  | 0 => zF
  | k + 1 => if us k = nI 1 ∧ tn (ph k) = f then acF d q g (tone * tn (ci k)) (tone * tn (co k)) (nI 1 * nI (tn (tu k))) (wvS d q tone g ph ci co tu us f k) else wvS d q tone g ph ci co tu us f k
/-- three rows of a grid -/
def sumG (F : Nat → Int32) (W : Nat → Nat → Int32) : Nat → Int32 := fun x => if x < 72 then W (x / 24) (x % 24) else F x
def zG (F : Nat → Int32) (k : Nat) : Nat → Int32 := fun x => if x < 24 * k then nI 0 else F x
theorem zG_0 (F : Nat → Int32) : zG F 0 = F := by funext x; unfold zG; rw [if_neg (by omega)]
theorem zG_s (F : Nat → Int32) (k : Nat) : gput (zG F k) (24 * k) 24 zF = zG F (k + 1) := by
  funext x
  unfold gput zG zF
  by_cases h1 : 24 * k ≤ x ∧ x < 24 * k + 24
  · rw [if_pos h1, if_pos (by omega)]
  · rw [if_neg h1]
    by_cases h2 : x < 24 * k
    · rw [if_pos h2, if_pos (by omega)]
    · rw [if_neg h2, if_neg (by omega)]
theorem zG_3 (F : Nat → Int32) : zG F 3 = sumG F (fun _ => zF) := rfl
theorem sumG_row {F : Nat → Int32} {W : Nat → Nat → Int32} {f i : Nat} (hf : f < 3) (hi : i < 24) : grd (sumG F W) (24 * f) i = W f i := by
  unfold grd sumG
  rw [if_pos (by omega), show (i + 24 * f) / 24 = f by omega, show (i + 24 * f) % 24 = i by omega]
theorem sumG_put {F : Nat → Int32} {W : Nat → Nat → Int32} {f : Nat} {g : Nat → Int32} (hf : f < 3) : gput (sumG F W) (24 * f) 24 g = sumG F (fun f' => if f' = f then g else W f') := by
  funext x
  unfold gput sumG
  by_cases h1 : 24 * f ≤ x ∧ x < 24 * f + 24
  · rw [if_pos h1, if_pos (by omega)]
    show _ = (if x / 24 = f then g else W (x / 24)) (x % 24)
    rw [if_pos (by omega), show x % 24 = x - 24 * f by omega]
  · rw [if_neg h1]
    by_cases h2 : x < 72
    · rw [if_pos h2, if_pos h2]
      show _ = (if x / 24 = f then g else W (x / 24)) (x % 24)
      rw [if_neg (by omega)]
    · rw [if_neg h2, if_neg h2]
theorem sumG_congr {F : Nat → Int32} {W W' : Nat → Nat → Int32} (e : ∀ f i, f < 3 → i < 24 → W f i = W' f i) : sumG F W = sumG F W' := by
  funext x
  unfold sumG
  by_cases h2 : x < 72
  · rw [if_pos h2, if_pos h2, e _ _ (by omega) (by omega)]
  · rw [if_neg h2, if_neg h2]
theorem sumG_ac {F : Nat → Int32} {W : Nat → Nat → Int32} {f d q a b : Nat} {g : Nat → Int32} {t : Int32} (hf : f < 3) : gput (sumG F W) (24 * f) 24 (acF d q g a b t (grd (sumG F W) (24 * f))) = sumG F (fun f' => if f' = f then acF d q g a b t (W f') else W f') := by
  rw [sumG_put hf]
  refine sumG_congr fun f' i _ hi => ?_
  by_cases e : f' = f
  · rw [if_pos e, if_pos e]
    exact acF_at ((sumG_row hf hi).trans (by rw [e]))
  · rw [if_neg e, if_neg e]
/-- the rows of all phases together -/
def togK (d : Nat) (S : Nat → Nat → Int32) : Nat → Nat → Int32
  | 0 => zF
  | f + 1 => fun i => if i < d then togK d S f i + S f i else togK d S f i
def togI (d : Nat) (S : Nat → Nat → Int32) (f k : Nat) : Nat → Int32 := fun i => if i < k then togK d S f i + S f i else togK d S f i
theorem togI_0 (d : Nat) (S : Nat → Nat → Int32) (f : Nat) : togI d S f 0 = togK d S f := by funext i; unfold togI; rw [if_neg (by omega)]
theorem togI_s (d : Nat) (S : Nat → Nat → Int32) (f k : Nat) : upd (togI d S f k) k (togK d S f k + S f k) = togI d S f (k + 1) := by
  funext i
  unfold togI
  by_cases hi : i = k
  · subst hi; rw [upd_s, if_pos (by omega)]
  · rw [upd_n _ _ hi]
    by_cases h3 : i < k
    · rw [if_pos h3, if_pos (by omega)]
    · rw [if_neg h3, if_neg (by omega)]
/-- a row turned by e slots -/
def turnN (d : Nat) (p : Nat → Int32) (f : Nat → Int32) : Nat → Nat → Int32
  | 0 => f
  | e + 1 => turnF d p (turnN d p f e)
/-- bits of the first e numbers that have a property -/
def likeN (P : Nat → Bool) : Nat → Nat
  | 0 => 0
  | e + 1 => if P e then likeN P e ||| 2 ^ e else likeN P e
theorem likeN_lt (P : Nat → Bool) : ∀ e, likeN P e < 2 ^ e
  | 0 => by simp [likeN]
  | e + 1 => by
    have h1 := likeN_lt P e
    have h2 : 2 ^ e < 2 ^ (e + 1) := Nat.pow_lt_pow_right (by decide) (by omega)
    unfold likeN
    split
    · exact Nat.or_lt_two_pow (by omega) h2
    · omega
theorem likeN_bit (P : Nat → Bool) : ∀ e j, (likeN P e).testBit j = (decide (j < e) && P j)
  | 0, j => by simp [likeN]
  | e + 1, j => by
    have h1 := likeN_bit P e j
    unfold likeN
    by_cases hp : P e = true
    · rw [if_pos hp, Nat.testBit_or, h1, Nat.testBit_two_pow]
      by_cases h2 : j = e
      · subst h2; simp [hp]
      · have h3 : decide (e = j) = false := decide_eq_false (fun z => h2 z.symm)
        rw [h3, Bool.or_false]
        by_cases h4 : j < e
        · rw [decide_eq_true h4, decide_eq_true (show j < e + 1 by omega)]
        · rw [decide_eq_false h4, decide_eq_false (show ¬ j < e + 1 by omega)]
    · rw [if_neg hp, h1]
      by_cases h2 : j = e
      · subst h2; simp [hp]
      · by_cases h4 : j < e
        · rw [decide_eq_true h4, decide_eq_true (show j < e + 1 by omega)]
        · rw [decide_eq_false h4, decide_eq_false (show ¬ j < e + 1 by omega)]
theorem nI_or (a b : Nat) : nI a ||| nI b = nI (a ||| b) := by
  apply Int32.toBitVec_inj.mp
  rw [Int32.toBitVec_or]
  show BitVec.ofNat 32 a ||| BitVec.ofNat 32 b = BitVec.ofNat 32 (a ||| b)
  exact (BitVec.ofNat_or).symm
theorem sh_am : ∀ j, j < 32 → ((nI j &&& 31).toBitVec.smod 32).toNat = j := by decide +kernel
theorem nI_shl1 {e : Nat} (h : e < 30) : nI 1 <<< (nI e &&& 31) = nI (2 ^ e) := by
  have h2 : 2 ^ e < 2 ^ 30 := Nat.pow_lt_pow_right (by decide) h
  rw [pk_shlN (nI e &&& 31) e (sh_am e (by omega)) (by omega), Nat.one_mul]
theorem nI_bit {a j : Nat} (ha : a < 2147483648) (hj : j < 30) : (nI a >>> (nI j &&& 31)) &&& nI 1 = nI (if a.testBit j then 1 else 0) := by
  rw [pk_shrN ha (nI j &&& 31) j (sh_am j (by omega))]
  have h1 := Nat.div_le_self a (2 ^ j)
  rw [pk_andN (by omega) 1 (by decide)]
  refine congrArg nI ?_
  rw [Nat.testBit, Nat.shiftRight_eq_div_pow, Nat.one_and_eq_mod_two]
  have := Nat.mod_two_eq_zero_or_one (a / 2 ^ j)
  rcases this with h | h <;> simp [h]
/-- the first of the numbers from s on, n at most, that has a property; -4 where none has -/
def scanV (P : Nat → Bool) : Nat → Nat → Int32
  | 0, _ => zI (-4)
  | n + 1, s => if P s then nI s else scanV P n (s + 1)
theorem scanV_congr {P P' : Nat → Bool} : ∀ (n s : Nat), (∀ j, s ≤ j → j < s + n → P j = P' j) → scanV P n s = scanV P' n s
  | 0, _, _ => rfl
  | n + 1, s, h => by
    unfold scanV
    rw [h s (by omega) (by omega), scanV_congr n (s + 1) (fun j h1 h2 => h j (by omega) (by omega))]
