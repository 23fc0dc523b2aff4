theorem turnF_d {d : Nat} {p p' f g : Nat → Int32} (hd : 1 ≤ d) (hd2 : d ≤ 24) (hp : ∀ i, i < 25 → p i = p' i) (e : ∀ i, i < d → f i = g i) : ∀ i, i < d → turnF d p f i = turnF d p' g i := by
  intro i hi
  unfold turnF
  by_cases c : i = 0
  · rw [if_pos c, if_pos c, e (d - 1) (by omega), hp 0 (by omega)]
  · rw [if_neg c, if_neg c, if_pos hi, if_pos hi, e (d - 1) (by omega), e (i - 1) (by omega), hp i (by omega)]
theorem turnN_lin {q : Nat} {p S f : Nat → Int32} (hq : q < 25) (hq3 : 3 ≤ q) (hp : ∀ i, i < 25 → p i = phF q i) (hS : ∀ i, i < dgT q → S i = lin q f i) : ∀ w i, i < dgT q → turnN (dgT q) p S w i = linW q w f i
  | 0 => fun i hi => (hS i hi).trans linW_0.symm
  | w + 1 => fun i hi => by
    have hb := tb_5 q hq (by omega)
    rw [← turnF_lin hq hq3 i hi]
    exact turnF_d hb.2.1 (by omega) hp (turnN_lin hq hq3 hp hS w) i hi
theorem redN_po {q d : Nat} {po po' f : Nat → Int32} (hq : q < 25) (hd : d < 25) (hp : ∀ i, i < 25 → po i = po' i) : ∀ t i, redN q d po f t i = redN q d po' f t i
  | 0, _ => rfl
  | t + 1, i => by
    have ih := redN_po (f := f) hq hd hp t
    show redI d po (redN q d po f t (q - 1 - t)) (q - 1 - t) (redN q d po f t) (d + 1) i = redI d po' (redN q d po' f t (q - 1 - t)) (q - 1 - t) (redN q d po' f t) (d + 1) i
    unfold redI
    rw [ih i, ih (q - 1 - t)]
    by_cases c : q - 1 - t - d ≤ i ∧ i < q - 1 - t - d + (d + 1)
    · rw [if_pos c, if_pos c, hp _ (by omega)]
    · rw [if_neg c, if_neg c]
theorem zr_lin {q : Nat} {po f : Nat → Int32} (hq : q < 25) (hq3 : 3 ≤ q) (hp : ∀ i, i < 25 → po i = phF q i) : zrB (redN q (dgT q) po f (q - dgT q)) q = true ↔ ∀ i, i < dgT q → lin q f i = 0 := by
  have hb := tb_5 q hq (by omega)
  rw [zrB_t]
  obtain ⟨a, b⟩ := red_val (f := f) hq hq3
  refine ⟨fun z i hi => ?_, fun z i hi => ?_⟩
  · rw [← a i hi, ← redN_po hq (by omega) hp]
    exact z i (by omega)
  · rw [redN_po hq (by omega) hp]
    by_cases c : i < dgT q
    · rw [a i c]; exact z i c
    · exact b i (by omega) hi
def dlT (q t w : Nat) (ci co tu : Nat → Int32) (x : Int32) (b : Bool) (k i : Nat) : Int32 := if b = true then (x * tu k) * tpT q ((t * tn (ci k) + w) % q) i - (x * tu k) * tpT q ((t * tn (co k) + w) % q) i else 0
theorem lin_stA {q t w k i : Nat} {ci co tu f : Nat → Int32} {x : Int32} {b : Bool} (hq3 : 3 ≤ q) : lin q (stA q t w ci co tu x b k f) i = lin q f i + dlT q t w ci co tu x b k i := by
  have ma := Nat.mod_lt (t * tn (ci k) + w) (show 0 < q by omega)
  have mb := Nat.mod_lt (t * tn (co k) + w) (show 0 < q by omega)
  unfold stA dlT
  by_cases c : b = true
  · rw [if_pos c, if_pos c, lin_rwA ma mb]; grind
  · rw [if_neg c, if_neg c, Int32.add_zero]
theorem linW_stA {q t w k i : Nat} {ci co tu f : Nat → Int32} {x : Int32} {b : Bool} (hq3 : 3 ≤ q) : linW q w (stA q t 0 ci co tu x b k f) i = linW q w f i + dlT q t w ci co tu x b k i := by
  have ma := Nat.mod_lt (t * tn (ci k) + 0) (show 0 < q by omega)
  have mb := Nat.mod_lt (t * tn (co k) + 0) (show 0 < q by omega)
  unfold stA dlT
  by_cases c : b = true
  · rw [if_pos c, if_pos c, linW_rwA ma mb, Nat.mod_add_mod, Nat.mod_add_mod, Nat.add_zero, Nat.add_zero]; grind
  · rw [if_neg c, if_neg c, Int32.add_zero]
theorem linW_zF (q w i : Nat) : linW q w zF i = 0 := sumI_z q (fun k _ => Int32.zero_mul)
theorem dlT_neg {q t w k i : Nat} {ci co tu : Nat → Int32} {b : Bool} : dlT q t w ci co tu (zI (-1)) b k i = -(dlT q t w ci co tu (nI 1) b k i) := by
  unfold dlT
  rw [show zI (-1) = -(1 : Int32) from by decide, show nI 1 = (1 : Int32) from by decide]
  by_cases c : b = true
  · rw [if_pos c, if_pos c]; grind
  · rw [if_neg c, if_neg c]; decide
theorem bl_lin {q t w i : Nat} {ci co tu : Nat → Int32} {U V : Nat → Bool} (hq3 : 3 ≤ q) : ∀ k, lin q (blS q t w ci co tu U V zF k) i = lin q (wrS q t ci co tu U zF k) i - linW q w (wrS q t ci co tu V zF k) i
  | 0 => by
    show lin q zF i = lin q zF i - linW q w zF i
    rw [lin_zF, linW_zF]; decide
  | k + 1 => by
    show lin q (stA q t w ci co tu (zI (-1)) (V k) k (stA q t 0 ci co tu (nI 1) (U k) k (blS q t w ci co tu U V zF k))) i = lin q (stA q t 0 ci co tu (nI 1) (U k) k (wrS q t ci co tu U zF k)) i - linW q w (stA q t 0 ci co tu (nI 1) (V k) k (wrS q t ci co tu V zF k)) i
    rw [lin_stA hq3, lin_stA hq3, lin_stA hq3, linW_stA hq3, bl_lin hq3 k, dlT_neg]
    grind
theorem sumI_addf (f g : Nat → Int32) : ∀ n, sumI (fun k => f k + g k) n = sumI f n + sumI g n
  | 0 => by show (0 : Int32) = 0 + 0; decide
  | n + 1 => by
    show sumI (fun k => f k + g k) n + (f n + g n) = sumI f n + f n + (sumI g n + g n)
    rw [sumI_addf f g n]; grind
theorem tot_lin {q t m n i : Nat} {ph ci co tu us : Nat → Int32} (hq3 : 3 ≤ q) (hph : ∀ k, k < n → tn (ph k) < m) : ∀ k, k ≤ n → lin q (wrS q t ci co tu (fun b => decide (us b = nI 1)) zF k) i = sumI (fun f => lin q (wrS q t ci co tu (uin ph us f) zF k) i) m
  | 0, _ => by
    show lin q zF i = _
    rw [lin_zF]
    exact (sumI_z m (fun k _ => lin_zF q i)).symm
  | k + 1, h => by
    show lin q (stA q t 0 ci co tu (nI 1) (decide (us k = nI 1)) k (wrS q t ci co tu (fun b => decide (us b = nI 1)) zF k)) i = sumI (fun f => lin q (stA q t 0 ci co tu (nI 1) (uin ph us f k) k (wrS q t ci co tu (uin ph us f) zF k)) i) m
    rw [lin_stA hq3, sumI_congr (g := fun f => lin q (wrS q t ci co tu (uin ph us f) zF k) i + dlT q t 0 ci co tu (nI 1) (uin ph us f k) k i) m (fun f _ => lin_stA hq3), sumI_addf, ← tot_lin hq3 hph k (by omega)]
    have e : sumI (fun f => dlT q t 0 ci co tu (nI 1) (uin ph us f k) k i) m = dlT q t 0 ci co tu (nI 1) (decide (us k = nI 1)) k i := by
      refine (sumI_one (a := tn (ph k)) m (hph k (by omega)) (fun f _ hf => ?_)).trans ?_
      · unfold dlT uin
        rw [decide_eq_false (p := tn (ph k) = f) (fun z => hf z.symm), Bool.and_false, if_neg (by decide)]
      · unfold dlT uin
        rw [decide_eq_true (rfl : tn (ph k) = tn (ph k)), Bool.and_true]
    rw [e]
theorem tog_sum {d i : Nat} {S : Nat → Nat → Int32} (hi : i < d) : ∀ m, togK d S m i = sumI (fun f => S f i) m
  | 0 => rfl
  | m + 1 => by
    show (if i < d then togK d S m i + S m i else togK d S m i) = sumI (fun f => S f i) m + S m i
    rw [if_pos hi, tog_sum hi m]
theorem scan_none {P : Nat → Bool} : ∀ n s, (∀ j, P j = false) → scanV P n s = zI (-4)
  | 0, _, _ => rfl
  | n + 1, s, h => by
    unfold scanV
    rw [h s]
    exact scan_none n (s + 1) h
/-- the reference's balance is the class's -/
theorem bal_eq {h : Mem} {q m n t : Nat} {p : Nat → Int32} {S : Nat → Nat → Int32} (hq : q < 25) (hq3 : 3 ≤ q) (hp7 : ∀ i, i < 25 → h 7 i = phF q i) (hp : ∀ i, i < 25 → p i = phF q i) (hm1 : 1 ≤ m) (hph : ∀ k, k < n → tn (h 1 k) < m) (hS : ∀ f i, f < m → i < dgT q → S f i = lin q (wrS q t (h 2) (h 3) (h 4) (uin (h 1) (h 5) f) zF n) i) : scanV (balP h q m n (dgT q) t) q 0 = ltV q m (dgT q) t p S := by
  have hz : tzB h q n (dgT q) t = true ↔ ∀ i, i < dgT q → togK (dgT q) S m i = 0 := by
    unfold tzB
    rw [zr_lin hq hq3 hp7]
    have e : ∀ i, i < dgT q → togK (dgT q) S m i = lin q (wrS q t (h 2) (h 3) (h 4) (fun b => decide (h 5 b = nI 1)) zF n) i := by
      intro i hi
      rw [tog_sum hi, tot_lin hq3 hph n (Nat.le_refl n)]
      exact sumI_congr m (fun f hf => hS f i hf hi)
    exact ⟨fun z i hi => (e i hi).trans (z i hi), fun z i hi => (e i hi).symm.trans (z i hi)⟩
  have hb : ∀ s, alB (blG h q n (dgT q) t s) m = lbP q m (dgT q) t p S s := by
    intro s
    unfold alB lbP
    rw [decide_eq_decide]
    have e : ∀ f, f < m → (blG h q n (dgT q) t s f = true ↔ likeP (dgT q) p S f (t * f * s % q) = true) := by
      intro f hf
      unfold blG likeP
      rw [zr_lin hq hq3 hp7, decide_eq_true_iff]
      have k : ∀ i, i < dgT q → turnN (dgT q) p (S 0) (t * f * s % q) i = linW q (t * f * s % q) (wrS q t (h 2) (h 3) (h 4) (uin (h 1) (h 5) 0) zF n) i := turnN_lin hq hq3 hp (fun i hi => hS 0 i (by omega) hi) _
      refine ⟨fun z i hi => ?_, fun z i hi => ?_⟩
      · have y := z i hi
        rw [bl_lin hq3] at y
        rw [k i hi, hS f i hf hi]
        grind
      · have y := z i hi
        rw [k i hi, hS f i hf hi] at y
        rw [bl_lin hq3]
        grind
    exact ⟨fun z f hf => (e f hf).mp (z f hf), fun z f hf => (e f hf).mpr (z f hf)⟩
  unfold ltV
  by_cases c : 1 < m ∧ ¬ ∀ i, i < dgT q → togK (dgT q) S m i = 0
  · rw [if_pos c]
    refine scan_none q 0 (fun s => ?_)
    refine Bool.eq_false_iff.mpr (fun z => ?_)
    exact c.2 (hz.mp (balP_b z (by omega)))
  · rw [if_neg c]
    refine scanV_congr q 0 (fun s _ _ => ?_)
    rw [← hb s]
    unfold balP
    have e : (decide (m = 1) || tzB h q n (dgT q) t) = true := by
      rw [Bool.or_eq_true, decide_eq_true_iff]
      by_cases m1 : m = 1
      · exact Or.inl m1
      · exact Or.inr (hz.mpr (by
          by_cases y : ∀ i, i < dgT q → togK (dgT q) S m i = 0
          · exact y
          · exact absurd ⟨by omega, y⟩ c))
    rw [e, Bool.and_true]
