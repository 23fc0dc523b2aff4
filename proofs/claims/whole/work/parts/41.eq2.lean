theorem rg1 (x y z : Int32) : x - y * z + y * z = x := by grind
theorem rg2 (a b c d : Int32) : a + (b - c) * d = a + b * d - c * d := by grind
theorem sumI_congr {f g : Nat → Int32} : ∀ n, (∀ k, k < n → f k = g k) → sumI f n = sumI g n
  | 0, _ => rfl
  | n + 1, e => by
    show sumI f n + f n = sumI g n + g n
    rw [sumI_congr n (fun k hk => e k (by omega)), e n (by omega)]
theorem sumI_sub (f g : Nat → Int32) : ∀ n, sumI (fun k => f k - g k) n = sumI f n - sumI g n
  | 0 => by show (0 : Int32) = 0 - 0; decide
  | n + 1 => by
    show sumI (fun k => f k - g k) n + (f n - g n) = sumI f n + f n - (sumI g n + g n)
    rw [sumI_sub f g n]; grind
theorem sumI_mul (c : Int32) (f : Nat → Int32) : ∀ n, sumI (fun k => c * f k) n = c * sumI f n
  | 0 => by show (0 : Int32) = c * 0; rw [Int32.mul_zero]
  | n + 1 => by
    show sumI (fun k => c * f k) n + c * f n = c * (sumI f n + f n)
    rw [sumI_mul c f n]; grind
theorem sumI_z {f : Nat → Int32} : ∀ n, (∀ k, k < n → f k = 0) → sumI f n = 0
  | 0, _ => rfl
  | n + 1, e => by
    show sumI f n + f n = 0
    rw [sumI_z n (fun k hk => e k (by omega)), e n (by omega)]; decide
theorem sumI_one {f : Nat → Int32} {a : Nat} : ∀ n, a < n → (∀ k, k < n → k ≠ a → f k = 0) → sumI f n = f a
  | 0, h, _ => absurd h (Nat.not_lt_zero a)
  | n + 1, h, e => by
    show sumI f n + f n = f a
    by_cases c : n = a
    · subst c
      rw [sumI_z n (fun k hk => e k (by omega) (by omega)), Int32.zero_add]
    · rw [sumI_one n (by omega) (fun k hk hn => e k (by omega) hn), e n (by omega) c, Int32.add_zero]
theorem sumI_add (f : Nat → Int32) (a : Nat) : ∀ n, sumI f (a + n) = sumI f a + sumI (fun k => f (a + k)) n
  | 0 => by show sumI f a = sumI f a + 0; rw [Int32.add_zero]
  | n + 1 => by
    show sumI f (a + n) + f (a + n) = sumI f a + (sumI (fun k => f (a + k)) n + f (a + n))
    rw [sumI_add f a n, Int32.add_assoc]
/-- a row read as a sum of powers, at a place -/
def lin (q : Nat) (f : Nat → Int32) (i : Nat) : Int32 := sumI (fun j => f j * tpT q j i) q
theorem lin_upd {q : Nat} {f : Nat → Int32} {a i : Nat} {v : Int32} (ha : a < q) : lin q (upd f a v) i = lin q f i + (v - f a) * tpT q a i := by
  unfold lin
  have e : sumI (fun j => upd f a v j * tpT q j i) q - sumI (fun j => f j * tpT q j i) q = (v - f a) * tpT q a i := by
    rw [← sumI_sub]
    refine (sumI_one (a := a) q ha (fun k _ hk => ?_)).trans ?_
    · show upd f a v k * tpT q k i - f k * tpT q k i = 0
      rw [upd_n _ _ hk, Int32.sub_self]
    · show upd f a v a * tpT q a i - f a * tpT q a i = _
      rw [upd_s]; grind
  rw [← e]; grind
theorem lin_rwA {q : Nat} {f : Nat → Int32} {a b i : Nat} {t : Int32} (ha : a < q) (hb : b < q) : lin q (rwA a b t f) i = lin q f i + t * tpT q a i - t * tpT q b i := by
  unfold rwA
  rw [lin_upd hb, lin_upd ha]
  grind
theorem lin_red {q k i : Nat} {f : Nat → Int32} (hq : q < 25) (hq3 : 3 ≤ q) (hk : k < q) (hd : dgT q ≤ k) (hi : i < dgT q) (c : Int32) : lin q (redI (dgT q) (phF q) c k f (dgT q + 1)) i = lin q f i := by
  unfold lin
  have e : sumI (fun j => f j * tpT q j i) q - sumI (fun j => redI (dgT q) (phF q) c k f (dgT q + 1) j * tpT q j i) q = 0 := by
    rw [← sumI_sub]
    obtain ⟨r, hr⟩ : ∃ r, q = (k - dgT q) + ((dgT q + 1) + r) := ⟨q - k - 1, by omega⟩
    rw [hr, sumI_add, sumI_add, ← hr]
    rw [sumI_z (k - dgT q) (fun j hj => ?_), sumI_z r (fun j hj => ?_)]
    · rw [Int32.zero_add, Int32.add_zero]
      refine (sumI_congr (g := fun l => c * (phF q l * tpT q (k - dgT q + l) i)) (dgT q + 1) (fun l hl => ?_)).trans ?_
      · show f _ * tpT q _ i - redI _ _ _ _ _ _ _ * tpT q _ i = _
        unfold redI
        rw [if_pos (by omega), show k - dgT q + l - (k - dgT q) = l by omega]
        grind
      · rw [sumI_mul, tp_r q hq hq3 k hk hd i hi, Int32.mul_zero]
    · show f _ * tpT q _ i - redI _ _ _ _ _ _ _ * tpT q _ i = 0
      unfold redI
      rw [if_neg (by omega), Int32.sub_self]
    · show f _ * tpT q _ i - redI _ _ _ _ _ _ _ * tpT q _ i = 0
      unfold redI
      rw [if_neg (by omega), Int32.sub_self]
  grind
theorem red_all {q : Nat} {f : Nat → Int32} (hq : q < 25) (hq3 : 3 ≤ q) : ∀ t, t ≤ q - dgT q → (∀ i, i < dgT q → lin q (redN q (dgT q) (phF q) f t) i = lin q f i) ∧ ∀ x, q - t ≤ x → x < q → redN q (dgT q) (phF q) f t x = 0
  | 0, _ => ⟨fun _ _ => rfl, fun x a b => by omega⟩
  | t + 1, h => by
    have hb := tb_5 q hq (by omega)
    obtain ⟨a, b⟩ := red_all (f := f) hq hq3 t (by omega)
    refine ⟨fun i hi => ?_, fun x h1 h2 => ?_⟩
    · rw [← a i hi]
      exact lin_red hq hq3 (by omega) (by omega) hi _
    · show redI (dgT q) (phF q) (redN q (dgT q) (phF q) f t (q - 1 - t)) (q - 1 - t) (redN q (dgT q) (phF q) f t) (dgT q + 1) x = 0
      unfold redI
      by_cases e : x = q - 1 - t
      · rw [if_pos (by omega), e, show q - 1 - t - (q - 1 - t - dgT q) = dgT q by omega, tp_t q hq hq3, Int32.mul_one, Int32.sub_self]
      · rw [if_neg (by omega)]
        exact b x (by omega) h2
theorem red_val {q : Nat} {f : Nat → Int32} (hq : q < 25) (hq3 : 3 ≤ q) : (∀ i, i < dgT q → redN q (dgT q) (phF q) f (q - dgT q) i = lin q f i) ∧ ∀ i, dgT q ≤ i → i < q → redN q (dgT q) (phF q) f (q - dgT q) i = 0 := by
  have hb := tb_5 q hq (by omega)
  obtain ⟨a, b⟩ := red_all (f := f) hq hq3 (q - dgT q) (Nat.le_refl _)
  refine ⟨fun i hi => ?_, fun i h1 h2 => b i (by omega) h2⟩
  rw [← a i hi]
  unfold lin
  refine ((sumI_one (a := i) q (by omega) (fun k hk hn => ?_)).trans ?_).symm
  · by_cases c : k < dgT q
    · rw [tp_1 q hq hq3 k c i hi, if_neg (fun z => hn z.symm), Int32.mul_zero]
    · rw [b k (by omega) hk, Int32.zero_mul]
  · show _ * tpT q i i = _
    rw [tp_1 q hq hq3 i hi i hi, if_pos rfl, Int32.mul_one]
