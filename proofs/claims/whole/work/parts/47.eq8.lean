theorem coil_use {q m n k : Nat} {v : Int32} {ph ci co tu us : Nat → Int32} (hv : v = nI 0 ∨ v = nI 1) (h : coilsOK q m n ph ci co tu us) : coilsOK q m n ph ci co tu (upd us k v) := by
  intro j hj
  obtain ⟨a1, a2, a3, a4, a5, a6, a7, a8, a9, a10, a11⟩ := h j hj
  refine ⟨a1, a2, a3, a4, a5, a6, a7, a8, a9, a10, ?_⟩
  by_cases e : j = k
  · rw [e, upd_s]; exact hv
  · rw [upd_n _ _ e]; exact a11
theorem xi_use {x : Mem} {q p m n d k : Nat} {v : Int32} (hv : v = nI 0 ∨ v = nI 1) (I : XI x q p m n d) : XI (mup x 34 k v) q p m n d := by
  obtain ⟨⟨hq, hp, hm, hq1, hq2, hp1, hp2, hm1, hm2, hn, hn2, hc, hq0, hd, hd1, hd2⟩, rest⟩ := I
  exact ⟨⟨hq, hp, hm, hq1, hq2, hp1, hp2, hm1, hm2, hn, hn2, coil_use hv hc, hq0, hd, hd1, hd2⟩, rest⟩
theorem mi_use {y : Mem} {q p m n d k : Nat} {v : Int32} (hv : v = nI 0 ∨ v = nI 1) (J : MI y q p m n d) : MI (mup y 5 k v) q p m n d := by
  obtain ⟨C, rest⟩ := J
  exact ⟨mc_use C hv k, rest⟩
theorem r_use {x y : Mem} {q p m n d k : Nat} {v : Int32} (hv : v = nI 0 ∨ v = nI 1) (r : RLT x y q p m n d) : RLT (mup x 34 k v) (mup y 5 k v) q p m n d := by
  obtain ⟨I, J, e, rest⟩ := r
  refine ⟨xi_use hv I, mi_use hv J, fun j hj => ?_, rest⟩
  obtain ⟨e1, e2, e3, e4, e5⟩ := e j hj
  refine ⟨e1, e2, e3, e4, ?_⟩
  show upd (x 34) k v j = upd (y 5) k v j
  by_cases c : j = k
  · rw [c, upd_s, upd_s]
  · rw [upd_n _ _ c, upd_n _ _ c]; exact e5
theorem wvS_congr {d q t f : Nat} {g ph ci co tu us ph' ci' co' tu' us' : Nat → Int32} : ∀ n, (∀ k, k < n → ph k = ph' k ∧ ci k = ci' k ∧ co k = co' k ∧ tu k = tu' k ∧ us k = us' k) → wvS d q t g ph ci co tu us f n = wvS d q t g ph' ci' co' tu' us' f n
  | 0, _ => rfl
  | n + 1, e => by
    obtain ⟨e1, e2, e3, e4, e5⟩ := e n (by omega)
    show (if us n = nI 1 ∧ tn (ph n) = f then acF d q g (t * tn (ci n)) (t * tn (co n)) (nI 1 * nI (tn (tu n))) (wvS d q t g ph ci co tu us f n) else wvS d q t g ph ci co tu us f n) = (if us' n = nI 1 ∧ tn (ph' n) = f then acF d q g (t * tn (ci' n)) (t * tn (co' n)) (nI 1 * nI (tn (tu' n))) (wvS d q t g ph' ci' co' tu' us' f n) else wvS d q t g ph' ci' co' tu' us' f n)
    rw [wvS_congr n (fun k hk => e k (by omega)), e1, e2, e3, e4, e5]
/-- what the two worlds have of a motor -/
theorem rl_base {x y : Mem} {q p m n d : Nat} (r : RLT x y q p m n d) : q < 25 ∧ 3 ≤ q ∧ d = dgT q ∧ d ≤ 24 ∧ (∀ i, i < 25 → x 3 i = phF q i) ∧ (∀ i, i < 25 → y 7 i = phF q i) ∧ ∀ j, j < q → ∀ i, i < 24 → x 5 (i + 24 * j) = tpT q j i := by
  obtain ⟨I, J, -⟩ := r
  have hq2 : q ≤ 24 := I.1.2.2.2.2.1
  have hq3 : 3 ≤ q := I.1.2.2.2.1
  have t := tb_6 q (by omega) hq3
  have hd : d = dgT q := I.2.2.2.1.trans t.1.symm
  have hx : ∀ i, i < 25 → x 3 i = phF q i := fun i hi => (I.2.2.2.2.1 i hi).trans (t.2 i hi).symm
  have hb := tb_5 q (by omega) (by omega)
  refine ⟨by omega, hq3, hd, by omega, hx, fun i hi => (J.2.2.2.1 i hi).trans (t.2 i hi).symm, fun j hj i hi => ?_⟩
  rw [I.2.2.2.2.2.1 j i hj hi, hd]
  exact powT_tp (by omega) hq3 hx j (by omega) i hi
/-- a wave of the class, as a sum of powers over the reference's rows -/
theorem wv_y {x y : Mem} {q p m n d : Nat} (r : RLT x y q p m n d) (t f : Nat) : ∀ i, i < dgT q → wvS (dgT q) q t (x 5) (x 30) (x 31) (x 32) (x 33) (x 34) f n i = lin q (wrS q t (y 2) (y 3) (y 4) (uin (y 1) (y 5) f) zF n) i := by
  obtain ⟨hq, hq3, hd, hd24, hx, hy, hG⟩ := rl_base r
  intro i hi
  rw [wvS_congr n r.2.2.1]
  exact wv_lin hq3 (by omega) hG (fun k hk => (r.2.1.1.2.2.2.2.2.2.2.2.2.2.2.1 k hk).tu.1) f n (Nat.le_refl n) i hi
theorem wv_zr {x y : Mem} {q p m n d : Nat} (r : RLT x y q p m n d) (t f : Nat) : (zrB (fwZ y q n d f t) q = true ↔ ∀ i, i < d → wvS d q t (x 5) (x 30) (x 31) (x 32) (x 33) (x 34) f n i = 0) ∧ ∀ i, i < d → fwZ y q n d f t i = wvS d q t (x 5) (x 30) (x 31) (x 32) (x 33) (x 34) f n i := by
  obtain ⟨hq, hq3, hd, hd24, hx, hy, hG⟩ := rl_base r
  subst hd
  have w := wv_y r t f
  refine ⟨?_, fun i hi => ?_⟩
  · unfold fwZ
    rw [zr_lin hq hq3 hy]
    exact ⟨fun z i hi => (w i hi).trans (z i hi), fun z i hi => (w i hi).symm.trans (z i hi)⟩
  · rw [w i hi]
    unfold fwZ
    rw [redN_po hq (by omega) hy]
    exact (red_val hq hq3).1 i hi
theorem a_balanced {x y : Mem} {q p m n d : Nat} (r : RLT x y q p m n d) (t : Nat) : scanV (balP y q m n d t) q 0 = ltV q m d t (x 3) (fun f => wvS d q t (x 5) (x 30) (x 31) (x 32) (x 33) (x 34) f n) := by
  obtain ⟨hq, hq3, hd, hd24, hx, hy, hG⟩ := rl_base r
  subst hd
  exact bal_eq hq hq3 hy hx r.2.1.1.2.2.2.2.2.2.2.1 (fun k hk => (r.2.1.1.2.2.2.2.2.2.2.2.2.2.2.1 k hk).ph.2) (fun f i _ hi => wv_y r t f i hi)
