/-! mend: the coils out, one by one -/
theorem scan_bd {P : Nat → Bool} : ∀ n s, s + n < 2147483648 → scanV P n s = zI (-4) ∨ 0 ≤ (scanV P n s).toInt
  | 0, _, _ => Or.inl rfl
  | n + 1, s, h => by
    unfold scanV
    by_cases c : P s = true
    · rw [if_pos c, nI_toInt (by omega)]
      exact Or.inr (by omega)
    · rw [if_neg c]
      exact scan_bd n (s + 1) (by omega)
theorem lt_bd {q m d t : Nat} {p : Nat → Int32} {S : Nat → Nat → Int32} (hq : q < 25) : ltV q m d t p S = zI (-4) ∨ 0 ≤ (ltV q m d t p S).toInt := by
  unfold ltV
  by_cases c : 1 < m ∧ ¬ ∀ i, i < d → togK d S m i = 0
  · rw [if_pos c]; exact Or.inl rfl
  · rw [if_neg c]; exact scan_bd q 0 (by omega)
theorem lin_wr {q t i : Nat} {ci co tu : Nat → Int32} {U : Nat → Bool} (hq3 : 3 ≤ q) : ∀ n, lin q (wrS q t ci co tu U zF n) i = sumI (fun k => dlT q t 0 ci co tu (nI 1) (U k) k i) n
  | 0 => lin_zF q i
  | n + 1 => by
    show lin q (stA q t 0 ci co tu (nI 1) (U n) n (wrS q t ci co tu U zF n)) i = sumI (fun k => dlT q t 0 ci co tu (nI 1) (U k) k i) n + dlT q t 0 ci co tu (nI 1) (U n) n i
    rw [lin_stA hq3, lin_wr hq3 n]
theorem rgs {a b c : Int32} (h : a - b = c) : b = a - c := by grind
theorem wr_out {q t i n a : Nat} {ci co tu : Nat → Int32} {U V : Nat → Bool} (hq3 : 3 ≤ q) (ha : a < n) (e : ∀ k, k < n → k ≠ a → V k = U k) (hU : U a = true) (hV : V a = false) : lin q (wrS q t ci co tu V zF n) i = lin q (wrS q t ci co tu U zF n) i - dlT q t 0 ci co tu (nI 1) true a i := by
  rw [lin_wr hq3, lin_wr hq3]
  refine rgs ?_
  rw [← sumI_sub]
  refine (sumI_one (a := a) n ha (fun k hk hn => ?_)).trans ?_
  · show dlT q t 0 ci co tu (nI 1) (U k) k i - dlT q t 0 ci co tu (nI 1) (V k) k i = 0
    rw [e k hk hn, Int32.sub_self]
  · show dlT q t 0 ci co tu (nI 1) (U a) a i - dlT q t 0 ci co tu (nI 1) (V a) a i = _
    rw [hU, hV]
    have z : dlT q t 0 ci co tu (nI 1) false a i = 0 := if_neg (by decide)
    rw [z]; grind
theorem wr_same {q t i n : Nat} {ci co tu ci' co' tu' : Nat → Int32} {U V : Nat → Bool} (hq3 : 3 ≤ q) (e : ∀ k, k < n → V k = U k ∧ ci k = ci' k ∧ co k = co' k ∧ tu k = tu' k) : lin q (wrS q t ci co tu V zF n) i = lin q (wrS q t ci' co' tu' U zF n) i := by
  rw [lin_wr hq3, lin_wr hq3]
  refine sumI_congr n (fun k hk => ?_)
  obtain ⟨e1, e2, e3, e4⟩ := e k hk
  unfold dlT
  rw [e1, e2, e3, e4]
theorem rem1_lin {q t n a : Nat} {g ph ci co tu us : Nat → Int32} {S : Nat → Nat → Int32} (hq3 : 3 ≤ q) (hd : dgT q ≤ 24) (G : ∀ j, j < q → ∀ i, i < 24 → g (i + 24 * j) = tpT q j i) (htu : ∀ k, k < n → tu k = nI (tn (tu k))) (ha : a < n) (hu : us a = nI 1) (hS : ∀ f i, i < dgT q → S f i = lin q (wrS q t ci co tu (uin ph us f) zF n) i) : ∀ f i, i < dgT q → rem1 (dgT q) q t g ph ci co tu S a f i = lin q (wrS q t ci co tu (uin ph (upd us a (nI 0)) f) zF n) i := by
  intro f i hi
  have hV : ∀ k, k < n → k ≠ a → uin ph (upd us a (nI 0)) f k = uin ph us f k := by
    intro k _ hk
    unfold uin
    rw [upd_n _ _ hk]
  have hVa : uin ph (upd us a (nI 0)) f a = false := by
    unfold uin
    rw [upd_s, decide_eq_false (p := nI 0 = nI 1) (by decide), Bool.false_and]
  show (if f = tn (ph a) then acF (dgT q) q g (t * tn (ci a)) (t * tn (co a)) (zI (-1) * nI (tn (tu a))) (S f) else S f) i = _
  by_cases c : f = tn (ph a)
  · have hUa : uin ph us f a = true := by
      unfold uin
      rw [hu, c]
      simp
    have ma := Nat.mod_lt (t * tn (ci a)) (show 0 < q by omega)
    have mb := Nat.mod_lt (t * tn (co a)) (show 0 < q by omega)
    rw [if_pos c, acF_i hi, hS f i hi, wr_out hq3 ha hV hUa hVa, G _ ma i (by omega), G _ mb i (by omega), ← htu a ha]
    unfold dlT
    rw [if_pos rfl, Nat.add_zero, Nat.add_zero, show zI (-1) = -(1 : Int32) from by decide, show nI 1 = (1 : Int32) from by decide]
    grind
  · have hUa : uin ph us f a = false := by
      unfold uin
      rw [decide_eq_false (p := tn (ph a) = f) (fun z => c z.symm), Bool.and_false]
    rw [if_neg c, hS f i hi]
    refine wr_same hq3 (fun k hk => ⟨?_, rfl, rfl, rfl⟩)
    by_cases z : k = a
    · rw [z, hUa, hVa]
    · rw [hV k hk z]
theorem remS_lin {q t n : Nat} {g ph ci co tu : Nat → Int32} (hq3 : 3 ≤ q) (hd : dgT q ≤ 24) (G : ∀ j, j < q → ∀ i, i < 24 → g (i + 24 * j) = tpT q j i) (htu : ∀ k, k < n → tu k = nI (tn (tu k))) : ∀ (l : List Nat) (us : Nat → Int32) (S : Nat → Nat → Int32), l.Nodup → (∀ k, k ∈ l → k < n ∧ us k = nI 1) → (∀ f i, i < dgT q → S f i = lin q (wrS q t ci co tu (uin ph us f) zF n) i) → ∀ f i, i < dgT q → remS (dgT q) q t g ph ci co tu S l f i = lin q (wrS q t ci co tu (uin ph (usF us l) f) zF n) i
  | [], _, _, _, _, hS => hS
  | a :: l, us, S, nd, hm, hS => by
    have h1 := hm a List.mem_cons_self
    have nd' := List.nodup_cons.mp nd
    exact remS_lin hq3 hd G htu l (upd us a (nI 0)) (rem1 (dgT q) q t g ph ci co tu S a) nd'.2 (fun k hk => ⟨(hm k (List.mem_cons_of_mem _ hk)).1, by rw [upd_n us (nI 0) (show k ≠ a from fun e => nd'.1 (by rw [← e]; exact hk))]; exact (hm k (List.mem_cons_of_mem _ hk)).2⟩) (rem1_lin hq3 hd G htu h1.1 h1.2 hS)
theorem usF_congr {k : Nat} : ∀ (l : List Nat) (us us' : Nat → Int32), us k = us' k → usF us l k = usF us' l k
  | [], _, _, e => e
  | a :: l, us, us', e => usF_congr l (upd us a (nI 0)) (upd us' a (nI 0)) (by
    by_cases c : k = a
    · rw [c, upd_s, upd_s]
    · rw [upd_n _ _ c, upd_n _ _ c, e])
theorem lk_cgs {ok ok' : List Nat → Bool} : ∀ r xs l, (∀ z, z.Sublist (l ++ xs) → ok z = ok' z) → lk ok r xs l = lk ok' r xs l
  | 0, xs, l, e => by
    rw [lk_0, lk_0, e l (List.sublist_append_left l xs)]
  | _ + 1, [], _, _ => rfl
  | r + 1, x :: xs, l, e => by
    have h1 := lk_cgs r xs (l ++ [x]) (fun z hz => e z (by rw [List.append_assoc] at hz; exact hz))
    have h2 := lk_cgs (r + 1) xs l (fun z hz => e z (hz.trans ((List.sublist_cons_self x xs).append_left l)))
    show (match lk ok r xs (l ++ [x]) with | some z => some z | none => lk ok (r + 1) xs l) = (match lk ok' r xs (l ++ [x]) with | some z => some z | none => lk ok' (r + 1) xs l)
    rw [h1, h2]
theorem okM_N {x y : Mem} {q p m n d : Nat} (r : RLT x y q p m n d) {l : List Nat} (nd : l.Nodup) (hl : ∀ k, k ∈ l → k < n ∧ x 34 k = nI 1) : okM q m d p (x 3) (remS d q p (x 5) (x 30) (x 31) (x 32) (x 33) (fun b => wvS d q p (x 5) (x 30) (x 31) (x 32) (x 33) (x 34) b n) l) = okN y q p m n d l := by
  obtain ⟨hq, hq3, hd, hd24, hx, hy, hG⟩ := rl_base r
  have e := r.2.2.1
  have hm1 : 1 ≤ m := r.2.1.1.2.2.2.2.2.2.2.1
  have hc := r.1.1.2.2.2.2.2.2.2.2.2.2.2.1
  have hcy := r.2.1.1.2.2.2.2.2.2.2.2.2.2.2.1
  have htu : ∀ k, k < n → x 33 k = nI (tn (x 33 k)) := fun k hk => (hc k hk).tu.1
  subst hd
  have hS := remS_lin (t := p) (ph := x 30) (ci := x 31) (co := x 32) hq3 hd24 hG htu l (x 34) (fun b => wvS (dgT q) q p (x 5) (x 30) (x 31) (x 32) (x 33) (x 34) b n) nd hl (fun f i hi => wv_lin hq3 hd24 hG htu f n (Nat.le_refl n) i hi)
  generalize remS (dgT q) q p (x 5) (x 30) (x 31) (x 32) (x 33) (fun b => wvS (dgT q) q p (x 5) (x 30) (x 31) (x 32) (x 33) (x 34) b n) l = S at hS ⊢
  have hS2 : ∀ f i, i < dgT q → S f i = lin q (wrS q p (y 2) (y 3) (y 4) (uin (y 1) (usF (y 5) l) f) zF n) i := by
    intro f i hi
    rw [hS f i hi]
    refine wr_same hq3 (fun k hk => ?_)
    obtain ⟨e1, e2, e3, e4, e5⟩ := e k hk
    refine ⟨?_, e2, e3, e4⟩
    unfold uin
    rw [usF_congr l (x 34) (y 5) e5, e1]
  have hb : scanV (balP (mrow y 5 (usF (y 5) l)) q m n (dgT q) p) q 0 = ltV q m (dgT q) p (x 3) S := bal_eq (h := mrow y 5 (usF (y 5) l)) hq hq3 hy hx hm1 (fun k hk => (hcy k hk).ph.2) (fun f i _ hi => hS2 f i hi)
  have hz : zrB (fwZ (mrow y 5 (usF (y 5) l)) q n (dgT q) 0 p) q = true ↔ ∀ i, i < dgT q → S 0 i = 0 := by
    refine Iff.trans (zr_lin (f := wrS q p (y 2) (y 3) (y 4) (uin (y 1) (usF (y 5) l) 0) zF n) hq hq3 hy) ?_
    exact ⟨fun z i hi => (hS2 0 i hi).trans (z i hi), fun z i hi => (hS2 0 i hi).symm.trans (z i hi)⟩
  have hlt : ¬ ltV q m (dgT q) p (x 3) S = zI (-4) ↔ 0 ≤ (ltV q m (dgT q) p (x 3) S).toInt := by
    rcases lt_bd (m := m) (d := dgT q) (t := p) (p := x 3) (S := S) hq with z | z
    · rw [z]; decide
    · refine ⟨fun _ => z, fun _ w => ?_⟩
      rw [w] at z
      exact absurd z (by decide)
  unfold okN mndB okM
  rw [hb, Bool.eq_iff_iff, decide_eq_true_iff, Bool.and_eq_true, decide_eq_true_iff, hlt]
  cases hzb : zrB (fwZ (mrow y 5 (usF (y 5) l)) q n (dgT q) 0 p) q with
  | true =>
    have w := hz.mp hzb
    exact ⟨fun z => absurd w z.1, fun z => absurd z.2 (by decide)⟩
  | false =>
    exact ⟨fun z => ⟨z.2, rfl⟩, fun z => ⟨fun w => absurd ((hz.mpr w).symm.trans hzb) (by decide), z.1⟩⟩
theorem a_mend {x y : Mem} {q p m n d : Nat} (r : RLT x y q p m n d) : tryP (fun j => pkG (fun k => decide (x 34 k = nI 1)) (fun l => okM q m d p (x 3) (remS d q p (x 5) (x 30) (x 31) (x 32) (x 33) (fun b => wvS d q p (x 5) (x 30) (x 31) (x 32) (x 33) (x 34) b n) l)) n j 0 []) 3 0 = tryP (fun r => qk (okN y q p m n d) (glB (uil (y 1) (y 5) (-1)) n) r 0 []) 3 0 := by
  have eL : glB (uil (y 1) (y 5) (-1)) n = glB (fun k => decide (x 34 k = nI 1)) n := glB_congr (fun k hk => by
    unfold uil
    rw [(r.2.2.1 k hk).2.2.2.2, decide_eq_true (p := (-1 : Int) < 0 ∨ ((tn (y 1 k) : Nat) : Int) = -1) (Or.inl (by decide)), Bool.and_true])
  rw [eL]
  congr 1
  funext j
  rw [pk_qk, qk_lk, qk_lk]
  refine lk_cgs _ _ _ (fun z hz => ?_)
  rw [List.nil_append, List.drop_zero] at hz
  refine okM_N r ((hz.trans (show (glB (fun k => decide (x 34 k = nI 1)) n).Sublist (List.range n) from List.filter_sublist)).nodup List.nodup_range) (fun k hk => ?_)
  have w := glB_mem.mp (hz.subset hk)
  exact ⟨w.1, of_decide_eq_true w.2⟩
