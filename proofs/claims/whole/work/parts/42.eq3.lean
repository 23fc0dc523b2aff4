theorem turnF_po {d : Nat} {p p' f g : Nat → Int32} (hd : 1 ≤ d) (hd2 : d ≤ 24) (hp : ∀ i, i < 25 → p i = p' i) (e : ∀ i, i < 24 → f i = g i) : ∀ i, i < 24 → turnF d p f i = turnF d p' g i := by
  intro i hi
  rw [turnF_congr hd hd2 e i hi]
  unfold turnF
  rw [hp 0 (by omega), hp i (by omega)]
theorem powT_tp {q : Nat} {p : Nat → Int32} (hq : q < 25) (hq3 : 3 ≤ q) (hp : ∀ i, i < 25 → p i = phF q i) : ∀ j, j ≤ q - 1 → ∀ i, i < 24 → powT (dgT q) p j i = tpT q j i
  | 0, _ => fun i hi => (tp_0 q hq hq3 i hi).symm
  | j + 1, h => fun i hi => by
    have hb := tb_5 q hq (by omega)
    rw [tp_s q hq hq3 j (by omega) i hi]
    exact turnF_po hb.2.1 (by omega) hp (powT_tp hq hq3 hp j (by omega)) i hi
theorem lin_zF (q i : Nat) : lin q zF i = 0 := sumI_z q (fun k _ => Int32.zero_mul)
theorem acF_i {d q : Nat} {g f : Nat → Int32} {a b i : Nat} {t : Int32} (hi : i < d) : acF d q g a b t f i = f i + t * g (i + 24 * (a % q)) + -t * g (i + 24 * (b % q)) := by
  unfold acF addF grd
  rw [if_pos hi, if_pos hi]
theorem wv_lin {q t n : Nat} {g ph ci co tu us : Nat → Int32} (hq3 : 3 ≤ q) (hd : dgT q ≤ 24) (G : ∀ j, j < q → ∀ i, i < 24 → g (i + 24 * j) = tpT q j i) (htu : ∀ k, k < n → tu k = nI (tn (tu k))) (f : Nat) : ∀ k, k ≤ n → ∀ i, i < dgT q → wvS (dgT q) q t g ph ci co tu us f k i = lin q (wrS q t ci co tu (uin ph us f) zF k) i
  | 0, _ => fun i _ => (lin_zF q i).symm
  | k + 1, h => fun i hi => by
    have ih := wv_lin (t := t) (ph := ph) (ci := ci) (co := co) (us := us) hq3 hd G htu f k (by omega) i hi
    show (if us k = nI 1 ∧ tn (ph k) = f then acF (dgT q) q g (t * tn (ci k)) (t * tn (co k)) (nI 1 * nI (tn (tu k))) (wvS (dgT q) q t g ph ci co tu us f k) else wvS (dgT q) q t g ph ci co tu us f k) i = lin q (stA q t 0 ci co tu (nI 1) (uin ph us f k) k (wrS q t ci co tu (uin ph us f) zF k)) i
    by_cases c : us k = nI 1 ∧ tn (ph k) = f
    · have ma := Nat.mod_lt (t * tn (ci k)) (show 0 < q by omega)
      have mb := Nat.mod_lt (t * tn (co k)) (show 0 < q by omega)
      rw [if_pos c, stA_t (by simp [uin, c.1, c.2]), acF_i hi, ih, Nat.add_zero, Nat.add_zero, lin_rwA ma mb, G _ ma i (by omega), G _ mb i (by omega), ← htu k (by omega)]
      grind
    · rw [if_neg c, stA_f (by simp only [uin]; by_cases a : us k = nI 1 <;> by_cases b : tn (ph k) = f <;> simp [a, b] <;> exact c ⟨a, b⟩), ih]
/-- the same row turned by w -/
def linW (q w : Nat) (f : Nat → Int32) (i : Nat) : Int32 := sumI (fun j => f j * tpT q ((j + w) % q) i) q
theorem linW_0 {q i : Nat} {f : Nat → Int32} : linW q 0 f i = lin q f i := sumI_congr q (fun k hk => by rw [Nat.add_zero, Nat.mod_eq_of_lt hk])
theorem linW_upd {q w : Nat} {f : Nat → Int32} {a i : Nat} {v : Int32} (ha : a < q) : linW q w (upd f a v) i = linW q w f i + (v - f a) * tpT q ((a + w) % q) i := by
  unfold linW
  have e : sumI (fun j => upd f a v j * tpT q ((j + w) % q) i) q - sumI (fun j => f j * tpT q ((j + w) % q) i) q = (v - f a) * tpT q ((a + w) % q) i := by
    rw [← sumI_sub]
    refine (sumI_one (a := a) q ha (fun k _ hk => ?_)).trans ?_
    · show upd f a v k * tpT q ((k + w) % q) i - f k * tpT q ((k + w) % q) i = 0
      rw [upd_n _ _ hk, Int32.sub_self]
    · show upd f a v a * tpT q ((a + w) % q) i - f a * tpT q ((a + w) % q) i = _
      rw [upd_s]; grind
  rw [← e]; grind
theorem linW_rwA {q w : Nat} {f : Nat → Int32} {a b i : Nat} {t : Int32} (ha : a < q) (hb : b < q) : linW q w (rwA a b t f) i = linW q w f i + t * tpT q ((a + w) % q) i - t * tpT q ((b + w) % q) i := by
  unfold rwA
  rw [linW_upd hb, linW_upd ha]
  grind
/-- turning by one -/
theorem tp_nx {q j i : Nat} (hq : q < 25) (hq3 : 3 ≤ q) (hj : j < q) (hi : i < 24) : turnF (dgT q) (phF q) (tpT q j) i = tpT q ((j + 1) % q) i := by
  by_cases e : j = q - 1
  · rw [e, tp_c q hq hq3 i hi, show q - 1 + 1 = q by omega, Nat.mod_self]
  · rw [Nat.mod_eq_of_lt (by omega), tp_s q hq hq3 j (by omega) i hi]
theorem turnF_lin {q w : Nat} {f : Nat → Int32} (hq : q < 25) (hq3 : 3 ≤ q) : ∀ i, i < dgT q → turnF (dgT q) (phF q) (linW q w f) i = linW q (w + 1) f i := by
  intro i hi
  have hb := tb_5 q hq (by omega)
  have key : ∀ j, j < q → f j * tpT q ((j + (w + 1)) % q) i = if i = 0 then -(f j * tpT q ((j + w) % q) (dgT q - 1)) * phF q 0 else f j * tpT q ((j + w) % q) (i - 1) - f j * tpT q ((j + w) % q) (dgT q - 1) * phF q i := by
    intro j hj
    have m := Nat.mod_lt (j + w) (show 0 < q by omega)
    rw [show (j + (w + 1)) % q = ((j + w) % q + 1) % q by rw [Nat.mod_add_mod]; rfl, ← tp_nx hq hq3 m (by omega)]
    unfold turnF
    by_cases c : i = 0
    · rw [if_pos c, if_pos c]; grind
    · rw [if_neg c, if_neg c, if_pos hi]; grind
  unfold turnF
  by_cases c : i = 0
  · rw [if_pos c]
    unfold linW
    rw [sumI_congr (f := fun j => f j * tpT q ((j + (w + 1)) % q) i) (g := fun j => -(phF q 0) * (f j * tpT q ((j + w) % q) (dgT q - 1))) q (fun j hj => by rw [key j hj, if_pos c]; grind), sumI_mul]
    grind
  · rw [if_neg c, if_pos hi]
    unfold linW
    rw [sumI_congr (f := fun j => f j * tpT q ((j + (w + 1)) % q) i) (g := fun j => f j * tpT q ((j + w) % q) (i - 1) - phF q i * (f j * tpT q ((j + w) % q) (dgT q - 1))) q (fun j hj => by rw [key j hj, if_neg c]; grind), sumI_sub (fun j => f j * tpT q ((j + w) % q) (i - 1)), sumI_mul]
    grind
