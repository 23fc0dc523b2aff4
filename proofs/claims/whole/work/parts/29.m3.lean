theorem mup_mrow (h : Mem) {c d : Nat} (n : c ≠ d) (j : Nat) (v : Int32) (f : Nat → Int32) : mup (mrow h d f) c j v = mrow (mup h c j v) d f := by
  funext x
  by_cases e : x = c
  · subst e
    funext i
    rw [mrow_n _ _ n, mup_s, mup_s, mrow_n _ _ n]
  · rw [mup_n _ _ e]
    by_cases e2 : x = d
    · subst e2; rw [mrow_s, mrow_s]
    · rw [mrow_n _ _ e2, mrow_n _ _ e2, mup_n _ _ e]
theorem mup_o (h : Mem) (c j : Nat) (v w : Int32) : mup (mup h c j v) c j w = mup h c j w := by
  funext x
  by_cases e : x = c
  · subst e
    funext i
    rw [mup_s, mup_s, mup_s]
    by_cases e2 : i = j
    · rw [if_pos e2, if_pos e2]
    · rw [if_neg e2, if_neg e2, if_neg e2]
  · rw [mup_n _ _ e, mup_n _ _ e, mup_n _ _ e]
theorem mup_r (h : Mem) (c j : Nat) (v : Int32) : mup h c j v = mrow h c (upd (h c) j v) := by
  have e := mup_m h c j (h c) v
  rwa [mrow_id] at e
def zrB (f : Nat → Int32) (k : Nat) : Bool := decide (∀ i, i < k → f i = 0)
theorem zrB_t {f : Nat → Int32} {k : Nat} : zrB f k = true ↔ ∀ i, i < k → f i = 0 := decide_eq_true_iff
def rwA (a b : Nat) (t : Int32) (f : Nat → Int32) : Nat → Int32 := upd (upd f a (f a + t)) b (upd f a (f a + t) b - t)
/-- the row in the middle of taking c times the polynomial from it -/
def redI (d : Nat) (po : Nat → Int32) (c : Int32) (k : Nat) (f : Nat → Int32) (i : Nat) : Nat → Int32 := fun x => if k - d ≤ x ∧ x < k - d + i then f x - c * po (x - (k - d)) else f x
theorem redI_0 (d : Nat) (po : Nat → Int32) (c : Int32) (k : Nat) (f : Nat → Int32) : redI d po c k f 0 = f := by
  funext x; unfold redI; rw [if_neg (by omega)]
theorem redI_s {d k i : Nat} {po : Nat → Int32} {c : Int32} {f : Nat → Int32} : upd (redI d po c k f i) (k - d + i) (redI d po c k f i (k - d + i) - c * po i) = redI d po c k f (i + 1) := by
  funext x
  unfold redI
  by_cases e : x = k - d + i
  · subst e
    rw [upd_s, if_neg (by omega), if_pos (by omega), show k - d + i - (k - d) = i by omega]
  · rw [upd_n _ _ e]
    by_cases e2 : k - d ≤ x ∧ x < k - d + i
    · rw [if_pos e2, if_pos (by omega)]
    · rw [if_neg e2, if_neg (by omega)]
/-- t steps of bringing a row below the degree -/
def redN (q d : Nat) (po f : Nat → Int32) : Nat → Nat → Int32
  | 0 => f
  | t + 1 => redI d po (redN q d po f t (q - 1 - t)) (q - 1 - t) (redN q d po f t) (d + 1)
theorem red_next {q d k : Nat} (po f : Nat → Int32) (h1 : 1 ≤ k) (h2 : k ≤ q - 1) : redI d po (redN q d po f (q - 1 - k) k) k (redN q d po f (q - 1 - k)) (d + 1) = redN q d po f (q - 1 - (k - 1)) := by
  rw [show q - 1 - (k - 1) = q - 1 - k + 1 by omega]
  show _ = redI d po (redN q d po f (q - 1 - k) (q - 1 - (q - 1 - k))) (q - 1 - (q - 1 - k)) _ (d + 1)
  rw [show q - 1 - (q - 1 - k) = k by omega]
def uil (ph us : Nat → Int32) (c : Int) (k : Nat) : Bool := decide (us k = nI 1) && decide (c < 0 ∨ ((tn (ph k) : Nat) : Int) = c)
set_option maxHeartbeats 1000000 in
set_option maxRecDepth 100000 in
theorem c_M_clearRow12 (h : Mem) : cV 25 ML yX9_clearRow cX9_clearRow 2 0 0 (fun ad => [.ref (ad (12))]) h (fun h2 => h2 = mrow h 12 (zrK (h 12) 24)) := by
  refine cV_of MLW (by decide +kernel) (fun ad => Nat.le_of_ble_eq_true rfl) ?_
  intro K X Z
  show G 25 ML 2 K h 0 [(0, .ref (kad K (12)))] []
  refine g_iconst X dX9_clearRow_0 1 rfl (v := (nI (0))) rfl ?_
  refine g_istore_n X (lv' := [(0, .ref (kad K (12))), (1, .int (nI 0))]) dX9_clearRow_1 2 rfl (by decide) rfl rfl ?_
  have lp2 : ∀ (fu : Nat) (k : Nat) (hk : k ≤ 24), 24 - k < fu → G 25 ML 2 K (mrow h 12 (zrK (h 12) k)) 2 [(0, .ref (kad K (12))), (1, .int (nI (k)))] [] := by
    intro fu
    induction fu with
    | zero => intro k hk hm; exact absurd hm (Nat.not_lt_zero _)
    | succ fu ih2 =>
      intro k hk hm2
      refine g_iload_n X dX9_clearRow_2 3 rfl rfl ?_
      refine g_bipush X dX9_clearRow_3 5 rfl (v := (nI (24))) rfl ?_
      refine g_icmp_ge X ((k : Nat) : Int) 24 dX9_clearRow_5 18 (by decide) 8 rfl (nI_toInt (by omega)) rfl (fun t5 => ?_) (fun f5 => ?_)
      · skip
        refine g_vret (h := (mrow h 12 (zrK (h 12) k))) X Z dX9_clearRow_18 ?_
        exact by rw [show k = 24 from by omega]
      · skip
        refine g_aload_n X dX9_clearRow_8 9 rfl rfl ?_
        refine g_iload_n X dX9_clearRow_9 10 rfl rfl ?_
        refine g_iconst X dX9_clearRow_10 11 rfl (v := (nI (0))) rfl ?_
        refine g_iast (c := 12) (n := 24) (r := 12) (o := 0) (i := k) X dX9_clearRow_11 12 rfl (by decide) rfl rfl (by omega) ?_
        refine g_iinc X (v := (nI (k + 1))) (lv' := [(0, .ref (kad K (12))), (1, .int (nI (k + 1)))]) dX9_clearRow_12 15 rfl (by decide) rfl (n_inc k 1) rfl rfl ?_
        refine g_goto X dX9_clearRow_15 2 (by decide) ?_
        skip
        refine g_mem (h := (mup (mrow h 12 (zrK (h 12) k)) 12 k (nI (0)))) (h' := (mrow h 12 (zrK (h 12) (k + 1)))) (by rw [mup_m, zrK_s]) ?_
        exact ih2 (k + 1) (by omega) (by omega)
  skip
  refine g_mem (h := h) (h' := (mrow h 12 (zrK (h 12) 0))) (by rw [zrK_0]; exact (mrow_id _ 12).symm) ?_
  exact lp2 _ 0 (by omega) (Nat.lt_succ_self _)
set_option maxHeartbeats 1000000 in
set_option maxRecDepth 100000 in
theorem c_M_addCoil12 (h : Mem) (q m n k t w : Nat) (x : Int32) (hq : h 0 0 = nI q) (hq1 : 3 ≤ q) (hq2 : q ≤ 24) (hn2 : n ≤ 24) (hc : coilsOK q m n (h 1) (h 2) (h 3) (h 4) (h 5)) (hk : k < n) (ht : t ≤ 47) (hw : w < 24) : cV 25 ML yX9_addCoil cX9_addCoil 8 0 0 (fun ad => [.ref (ad (0)), .ref (ad (12)), .int (nI (k)), .int (nI (t)), .int (nI (w)), .int (x)]) h (fun h2 => h2 = mrow h 12 (rwA ((t * tn (h 2 k) + w) % q) ((t * tn (h 3 k) + w) % q) (x * h 4 k) (h 12))) := by
  refine cV_of MLW (by decide +kernel) (fun ad => Nat.le_of_ble_eq_true rfl) ?_
  intro K X Z
  have hx1 := (hc k hk).ci.2
  have hx2 := (hc k hk).co.2
  have hx3 : t * tn (h 2 k) ≤ 47 * 23 := Nat.mul_le_mul ht (by omega)
  have hx4 : t * tn (h 3 k) ≤ 47 * 23 := Nat.mul_le_mul ht (by omega)
  show G 25 ML 8 K h 0 [(0, .ref (kad K (0))), (1, .ref (kad K (12))), (2, .int (nI (k))), (3, .int (nI (t))), (4, .int (nI (w))), (5, .int (x))] []
  refine g_iload_n X dX9_addCoil_0 1 rfl rfl ?_
  refine g_aload_n X dX9_addCoil_1 2 rfl rfl ?_
  refine g_get (c := 0) (k := 5) (T := TX9) (sk := skM0) (v := .ref (kad K (2))) X wf_X9_23 inX9 dX9_addCoil_2 5 rfl (by decide) rfl rfl (by decide) rfl ?_
  refine g_iload_n X dX9_addCoil_5 6 rfl rfl ?_
  refine g_iald (c := 2) (n := 24) (r := 2) (o := 0) (i := k) (v := (nI (tn (h 2 k)))) X dX9_addCoil_6 7 rfl (by decide) rfl rfl (by omega) ((hc k (by omega)).ci.1) ?_
  refine g_imul X (v := (nI (t * (tn (h 2 k))))) dX9_addCoil_7 8 rfl (pk_mul t (tn (h 2 k))) ?_
  refine g_iload X dX9_addCoil_8 10 rfl rfl ?_
  refine g_iadd X (v := (nI (t * (tn (h 2 k)) + w))) dX9_addCoil_10 11 rfl (nI_add (t * (tn (h 2 k))) w) ?_
  refine g_aload_n X dX9_addCoil_11 12 rfl rfl ?_
  refine g_get (c := 0) (k := 0) (T := TX9) (sk := skM0) (v := .int (nI (q))) X wf_X9_7 inX9 dX9_addCoil_12 15 rfl (by decide) rfl rfl (by decide) (congrArg Value.int (hq)) ?_
  have b15 := Nat.mod_le (t * (tn (h 2 k)) + w) q
  refine g_irem X (v := (nI ((t * (tn (h 2 k)) + w) % q))) dX9_addCoil_15 16 rfl (nI_ne (by omega) (by omega)) (pk_rem (by omega) (by omega) (by omega)) ?_
  refine g_istore X (lv' := [(0, .ref (kad K (0))), (1, .ref (kad K (12))), (2, .int (nI (k))), (3, .int (nI (t))), (4, .int (nI (w))), (5, .int (x)), (6, .int (nI ((t * (tn (h 2 k)) + w) % q)))]) dX9_addCoil_16 18 rfl (by decide) rfl rfl ?_
  refine g_iload_n X dX9_addCoil_18 19 rfl rfl ?_
  refine g_aload_n X dX9_addCoil_19 20 rfl rfl ?_
  refine g_get (c := 0) (k := 6) (T := TX9) (sk := skM0) (v := .ref (kad K (3))) X wf_X9_26 inX9 dX9_addCoil_20 23 rfl (by decide) rfl rfl (by decide) rfl ?_
  refine g_iload_n X dX9_addCoil_23 24 rfl rfl ?_
  refine g_iald (c := 3) (n := 24) (r := 3) (o := 0) (i := k) (v := (nI (tn (h 3 k)))) X dX9_addCoil_24 25 rfl (by decide) rfl rfl (by omega) ((hc k (by omega)).co.1) ?_
  refine g_imul X (v := (nI (t * (tn (h 3 k))))) dX9_addCoil_25 26 rfl (pk_mul t (tn (h 3 k))) ?_
  refine g_iload X dX9_addCoil_26 28 rfl rfl ?_
  refine g_iadd X (v := (nI (t * (tn (h 3 k)) + w))) dX9_addCoil_28 29 rfl (nI_add (t * (tn (h 3 k))) w) ?_
  refine g_aload_n X dX9_addCoil_29 30 rfl rfl ?_
  refine g_get (c := 0) (k := 0) (T := TX9) (sk := skM0) (v := .int (nI (q))) X wf_X9_7 inX9 dX9_addCoil_30 33 rfl (by decide) rfl rfl (by decide) (congrArg Value.int (hq)) ?_
  have b33 := Nat.mod_le (t * (tn (h 3 k)) + w) q
  refine g_irem X (v := (nI ((t * (tn (h 3 k)) + w) % q))) dX9_addCoil_33 34 rfl (nI_ne (by omega) (by omega)) (pk_rem (by omega) (by omega) (by omega)) ?_
  refine g_istore X (lv' := [(0, .ref (kad K (0))), (1, .ref (kad K (12))), (2, .int (nI (k))), (3, .int (nI (t))), (4, .int (nI (w))), (5, .int (x)), (6, .int (nI ((t * (tn (h 2 k)) + w) % q))), (7, .int (nI ((t * (tn (h 3 k)) + w) % q)))]) dX9_addCoil_34 36 rfl (by decide) rfl rfl ?_
  have hm1 := Nat.mod_lt (t * tn (h 2 k) + w) (show 0 < q by omega)
  have hm2 := Nat.mod_lt (t * tn (h 3 k) + w) (show 0 < q by omega)
  refine g_aload_n X dX9_addCoil_36 37 rfl rfl ?_
  refine g_iload X dX9_addCoil_37 39 rfl rfl ?_
  refine g_dup2 X dX9_addCoil_39 40 rfl rfl rfl ?_
  refine g_iald (c := 12) (n := 24) (r := 12) (o := 0) (i := (t * (tn (h 2 k)) + w) % q) (v := (h 12 ((t * (tn (h 2 k)) + w) % q))) X dX9_addCoil_40 41 rfl (by decide) rfl rfl (by omega) rfl ?_
  refine g_iload X dX9_addCoil_41 43 rfl rfl ?_
  refine g_aload_n X dX9_addCoil_43 44 rfl rfl ?_
  refine g_get (c := 0) (k := 7) (T := TX9) (sk := skM0) (v := .ref (kad K (4))) X wf_X9_29 inX9 dX9_addCoil_44 47 rfl (by decide) rfl rfl (by decide) rfl ?_
  refine g_iload_n X dX9_addCoil_47 48 rfl rfl ?_
  refine g_iald (c := 4) (n := 24) (r := 4) (o := 0) (i := k) (v := (h 4 k)) X dX9_addCoil_48 49 rfl (by decide) rfl rfl (by omega) rfl ?_
  refine g_imul X (v := ((x) * (h 4 k))) dX9_addCoil_49 50 rfl rfl ?_
  refine g_iadd X (v := ((h 12 ((t * (tn (h 2 k)) + w) % q)) + ((x) * (h 4 k)))) dX9_addCoil_50 51 rfl rfl ?_
  refine g_iast (c := 12) (n := 24) (r := 12) (o := 0) (i := (t * (tn (h 2 k)) + w) % q) X dX9_addCoil_51 52 rfl (by decide) rfl rfl (by omega) ?_
  refine g_aload_n X dX9_addCoil_52 53 rfl rfl ?_
  refine g_iload X dX9_addCoil_53 55 rfl rfl ?_
  refine g_dup2 X dX9_addCoil_55 56 rfl rfl rfl ?_
  refine g_iald (c := 12) (n := 24) (r := 12) (o := 0) (i := (t * (tn (h 3 k)) + w) % q) (v := ((mup h 12 ((t * (tn (h 2 k)) + w) % q) ((h 12 ((t * (tn (h 2 k)) + w) % q)) + ((x) * (h 4 k)))) 12 ((t * (tn (h 3 k)) + w) % q))) X dX9_addCoil_56 57 rfl (by decide) rfl rfl (by omega) rfl ?_
  refine g_iload X dX9_addCoil_57 59 rfl rfl ?_
  refine g_aload_n X dX9_addCoil_59 60 rfl rfl ?_
  refine g_get (c := 0) (k := 7) (T := TX9) (sk := skM0) (v := .ref (kad K (4))) X wf_X9_29 inX9 dX9_addCoil_60 63 rfl (by decide) rfl rfl (by decide) rfl ?_
  refine g_iload_n X dX9_addCoil_63 64 rfl rfl ?_
  refine g_iald (c := 4) (n := 24) (r := 4) (o := 0) (i := k) (v := (h 4 k)) X dX9_addCoil_64 65 rfl (by decide) rfl rfl (by omega) rfl ?_
  refine g_imul X (v := ((x) * (h 4 k))) dX9_addCoil_65 66 rfl rfl ?_
  refine g_isub X (v := (((mup h 12 ((t * (tn (h 2 k)) + w) % q) ((h 12 ((t * (tn (h 2 k)) + w) % q)) + ((x) * (h 4 k)))) 12 ((t * (tn (h 3 k)) + w) % q)) - ((x) * (h 4 k)))) dX9_addCoil_66 67 rfl rfl ?_
  refine g_iast (c := 12) (n := 24) (r := 12) (o := 0) (i := (t * (tn (h 3 k)) + w) % q) X dX9_addCoil_67 68 rfl (by decide) rfl rfl (by omega) ?_
  refine g_vret (h := (mup (mup h 12 ((t * (tn (h 2 k)) + w) % q) ((h 12 ((t * (tn (h 2 k)) + w) % q)) + ((x) * (h 4 k)))) 12 ((t * (tn (h 3 k)) + w) % q) (((mup h 12 ((t * (tn (h 2 k)) + w) % q) ((h 12 ((t * (tn (h 2 k)) + w) % q)) + ((x) * (h 4 k)))) 12 ((t * (tn (h 3 k)) + w) % q)) - ((x) * (h 4 k))))) X Z dX9_addCoil_68 ?_
  exact by rw [mup_r h, mup_m, mrow_s]; rfl
set_option maxHeartbeats 1000000 in
set_option maxRecDepth 100000 in
theorem c_M_isZero12 (h : Mem) (q : Nat) (hq : h 0 0 = nI q) (hq2 : q ≤ 24) : cI 25 ML yX9_isZero cX9_isZero 4 (some .boolean) 0 0 (fun ad => [.ref (ad (0)), .ref (ad (12))]) h (fun r h2 => r = bI (zrB (h 12) q = true) ∧ h2 = h) := by
  refine cI_of MLW (by decide +kernel) (fun ad => Nat.le_of_ble_eq_true rfl) ?_
  intro K X Z
  show G 25 ML 4 K h 0 [(0, .ref (kad K (0))), (1, .ref (kad K (12)))] []
  refine g_iconst X dX9_isZero_0 1 rfl (v := (nI (1))) rfl ?_
  refine g_eq (st' := [.int (bI (zrB (h 12) 0 = true))]) rfl rfl (by rw [bI_t (zrB_t.mpr (fun i hi => absurd hi (Nat.not_lt_zero i)))]) ?_
  refine g_istore_n X (lv' := [(0, .ref (kad K (0))), (1, .ref (kad K (12))), (2, .int (bI (zrB (h 12) 0 = true)))]) dX9_isZero_1 2 rfl (by decide) rfl rfl ?_
  refine g_iconst X dX9_isZero_2 3 rfl (v := (nI (0))) rfl ?_
  refine g_istore_n X (lv' := [(0, .ref (kad K (0))), (1, .ref (kad K (12))), (2, .int (bI (zrB (h 12) 0 = true))), (3, .int (nI 0))]) dX9_isZero_3 4 rfl (by decide) rfl rfl ?_
  have lp4 : ∀ (fu : Nat) (k : Nat) (hk : k ≤ q), q - k < fu → G 25 ML 4 K h 4 [(0, .ref (kad K (0))), (1, .ref (kad K (12))), (2, .int (bI (zrB (h 12) k = true))), (3, .int (nI (k)))] [] := by
    intro fu
    induction fu with
    | zero => intro k hk hm; exact absurd hm (Nat.not_lt_zero _)
    | succ fu ih4 =>
      intro k hk hm4
      refine g_iload_n X dX9_isZero_4 5 rfl rfl ?_
      refine g_aload_n X dX9_isZero_5 6 rfl rfl ?_
      refine g_get (c := 0) (k := 0) (T := TX9) (sk := skM0) (v := .int (nI (q))) X wf_X9_7 inX9 dX9_isZero_6 9 rfl (by decide) rfl rfl (by decide) (congrArg Value.int (hq)) ?_
      refine g_icmp_ge X ((k : Nat) : Int) ((q : Nat) : Int) dX9_isZero_9 34 (by decide) 12 rfl (nI_toInt (by omega)) (nI_toInt (by omega)) (fun t9 => ?_) (fun f9 => ?_)
      · skip
        refine g_iload_n X dX9_isZero_34 35 rfl rfl ?_
        refine g_zret (h := h) (v := (bI (zrB (h 12) k = true))) X Z dX9_isZero_35 (bI_01 _) ?_
        exact ⟨by rw [show k = q from by omega], rfl⟩
      · skip
        refine g_iload_n X dX9_isZero_12 13 rfl rfl ?_
        refine g_ifeq_B X dX9_isZero_13 26 (by decide) 16 rfl (fun t13 => ?_) (fun f13 => ?_)
        · skip
          refine g_iconst X dX9_isZero_26 27 rfl (v := (nI (0))) rfl ?_
          refine g_eq (st' := [.int (bI (zrB (h 12) (k + 1) = true))]) rfl rfl (by rw [bI_f (fun z => t13 (zrB_t.mpr (fun i hi => zrB_t.mp z i (by omega))))]) ?_
          refine g_istore_n X (lv' := [(0, .ref (kad K (0))), (1, .ref (kad K (12))), (2, .int (bI (zrB (h 12) (k + 1) = true))), (3, .int (nI (k)))]) dX9_isZero_27 28 rfl (by decide) rfl rfl ?_
          refine g_iinc X (v := (nI (k + 1))) (lv' := [(0, .ref (kad K (0))), (1, .ref (kad K (12))), (2, .int (bI (zrB (h 12) (k + 1) = true))), (3, .int (nI (k + 1)))]) dX9_isZero_28 31 rfl (by decide) rfl (n_inc k 1) rfl rfl ?_
          refine g_goto X dX9_isZero_31 4 (by decide) ?_
          skip
          exact ih4 (k + 1) (by omega) (by omega)
        · skip
          refine g_aload_n X dX9_isZero_16 17 rfl rfl ?_
          refine g_iload_n X dX9_isZero_17 18 rfl rfl ?_
          refine g_iald (c := 12) (n := 24) (r := 12) (o := 0) (i := k) (v := (h 12 k)) X dX9_isZero_18 19 rfl (by decide) rfl rfl (by omega) rfl ?_
          refine g_if_ne X ((h 12 k).toInt) dX9_isZero_19 26 (by decide) 22 rfl rfl (fun t19 => ?_) (fun f19 => ?_)
          · skip
            refine g_iconst X dX9_isZero_26 27 rfl (v := (nI (0))) rfl ?_
            refine g_eq (st' := [.int (bI (zrB (h 12) (k + 1) = true))]) rfl rfl (by rw [bI_f (fun z => t19 (by rw [zrB_t.mp z k (by omega)]; rfl))]) ?_
            refine g_istore_n X (lv' := [(0, .ref (kad K (0))), (1, .ref (kad K (12))), (2, .int (bI (zrB (h 12) (k + 1) = true))), (3, .int (nI (k)))]) dX9_isZero_27 28 rfl (by decide) rfl rfl ?_
            refine g_iinc X (v := (nI (k + 1))) (lv' := [(0, .ref (kad K (0))), (1, .ref (kad K (12))), (2, .int (bI (zrB (h 12) (k + 1) = true))), (3, .int (nI (k + 1)))]) dX9_isZero_28 31 rfl (by decide) rfl (n_inc k 1) rfl rfl ?_
            refine g_goto X dX9_isZero_31 4 (by decide) ?_
            skip
            exact ih4 (k + 1) (by omega) (by omega)
          · skip
            refine g_iconst X dX9_isZero_22 23 rfl (v := (nI (1))) rfl ?_
            refine g_goto X dX9_isZero_23 27 (by decide) ?_
            refine g_eq (st' := [.int (bI (zrB (h 12) (k + 1) = true))]) rfl rfl (by rw [bI_t (zrB_t.mpr (fun i hi => (Nat.lt_succ_iff_lt_or_eq.mp hi).elim (zrB_t.mp f13 i) (fun y => by rw [y]; exact i32_0 f19)))]) ?_
            refine g_istore_n X (lv' := [(0, .ref (kad K (0))), (1, .ref (kad K (12))), (2, .int (bI (zrB (h 12) (k + 1) = true))), (3, .int (nI (k)))]) dX9_isZero_27 28 rfl (by decide) rfl rfl ?_
            refine g_iinc X (v := (nI (k + 1))) (lv' := [(0, .ref (kad K (0))), (1, .ref (kad K (12))), (2, .int (bI (zrB (h 12) (k + 1) = true))), (3, .int (nI (k + 1)))]) dX9_isZero_28 31 rfl (by decide) rfl (n_inc k 1) rfl rfl ?_
            refine g_goto X dX9_isZero_31 4 (by decide) ?_
            skip
            exact ih4 (k + 1) (by omega) (by omega)
  skip
  exact lp4 _ 0 (by omega) (Nat.lt_succ_self _)
set_option maxHeartbeats 1000000 in
set_option maxRecDepth 100000 in
theorem c_M_reduce12 (h : Mem) (q d : Nat) (hq : h 0 0 = nI q) (hd : h 0 10 = nI d) (hq1 : 3 ≤ q) (hq2 : q ≤ 24) (hd1 : 1 ≤ d) (hd2 : d ≤ q) : cV 25 ML yX9_reduce cX9_reduce 5 0 0 (fun ad => [.ref (ad (0)), .ref (ad (12))]) h (fun h2 => h2 = mrow h 12 (redN q d (h 7) (h 12) (q - d))) := by
  refine cV_of MLW (by decide +kernel) (fun ad => Nat.le_of_ble_eq_true rfl) ?_
  intro K X Z
  show G 25 ML 5 K h 0 [(0, .ref (kad K (0))), (1, .ref (kad K (12)))] []
  refine g_aload_n X dX9_reduce_0 1 rfl rfl ?_
  refine g_get (c := 0) (k := 0) (T := TX9) (sk := skM0) (v := .int (nI (q))) X wf_X9_7 inX9 dX9_reduce_1 4 rfl (by decide) rfl rfl (by decide) (congrArg Value.int (hq)) ?_
  refine g_iconst X dX9_reduce_4 5 rfl (v := (nI (1))) rfl ?_
  refine g_isub X (v := (nI (q - 1))) dX9_reduce_5 6 rfl (pk_sub (by omega)) ?_
  refine g_istore_n X (lv' := [(0, .ref (kad K (0))), (1, .ref (kad K (12))), (2, .int (nI (q - 1)))]) dX9_reduce_6 7 rfl (by decide) rfl rfl ?_
  have lp7 : ∀ (fu : Nat) (k : Nat) (hk1 : d ≤ k + 1) (hk2 : k ≤ q - 1), k + 1 - d < fu → G 25 ML 5 K (mrow h 12 (redN q d (h 7) (h 12) (q - 1 - k))) 7 [(0, .ref (kad K (0))), (1, .ref (kad K (12))), (2, .int (nI (k)))] [] := by
    intro fu
    induction fu with
    | zero => intro k hk1 hk2 hm; exact absurd hm (Nat.not_lt_zero _)
    | succ fu ih7 =>
      intro k hk1 hk2 hm7
      refine g_iload_n X dX9_reduce_7 8 rfl rfl ?_
      refine g_aload_n X dX9_reduce_8 9 rfl rfl ?_
      refine g_get (c := 0) (k := 10) (T := TX9) (sk := skM0) (v := .int (nI (d))) X wf_X9_129 inX9 dX9_reduce_9 12 rfl (by decide) rfl rfl (by decide) (congrArg Value.int (hd)) ?_
      refine g_icmp_lt X ((k : Nat) : Int) ((d : Nat) : Int) dX9_reduce_12 66 (by decide) 15 rfl (nI_toInt (by omega)) (nI_toInt (by omega)) (fun t12 => ?_) (fun f12 => ?_)
      · skip
        refine g_vret (h := (mrow h 12 (redN q d (h 7) (h 12) (q - 1 - k)))) X Z dX9_reduce_66 ?_
        exact by rw [show q - d = q - 1 - k from by omega]
      · skip
        refine g_aload_n X dX9_reduce_15 16 rfl rfl ?_
        refine g_iload_n X dX9_reduce_16 17 rfl rfl ?_
        refine g_iald (c := 12) (n := 24) (r := 12) (o := 0) (i := k) (v := ((redN q d (h 7) (h 12) (q - 1 - k)) k)) X dX9_reduce_17 18 rfl (by decide) rfl rfl (by omega) rfl ?_
        refine g_istore_n X (lv' := [(0, .ref (kad K (0))), (1, .ref (kad K (12))), (2, .int (nI (k))), (3, .int ((redN q d (h 7) (h 12) (q - 1 - k)) k))]) dX9_reduce_18 19 rfl (by decide) rfl rfl ?_
        refine g_iconst X dX9_reduce_19 20 rfl (v := (nI (0))) rfl ?_
        refine g_istore X (lv' := [(0, .ref (kad K (0))), (1, .ref (kad K (12))), (2, .int (nI (k))), (3, .int ((redN q d (h 7) (h 12) (q - 1 - k)) k)), (4, .int (nI 0))]) dX9_reduce_20 22 rfl (by decide) rfl rfl ?_
        have lp22 : ∀ (fu : Nat) (i : Nat) (hi : i ≤ d + 1), d + 1 - i < fu → G 25 ML 5 K (mrow h 12 (redI d (h 7) ((redN q d (h 7) (h 12) (q - 1 - k)) k) k (redN q d (h 7) (h 12) (q - 1 - k)) i)) 22 [(0, .ref (kad K (0))), (1, .ref (kad K (12))), (2, .int (nI (k))), (3, .int ((redN q d (h 7) (h 12) (q - 1 - k)) k)), (4, .int (nI (i)))] [] := by
          intro fu
          induction fu with
          | zero => intro i hi hm; exact absurd hm (Nat.not_lt_zero _)
          | succ fu ih22 =>
            intro i hi hm22
            refine g_iload X dX9_reduce_22 24 rfl rfl ?_
            refine g_aload_n X dX9_reduce_24 25 rfl rfl ?_
            refine g_get (c := 0) (k := 10) (T := TX9) (sk := skM0) (v := .int (nI (d))) X wf_X9_129 inX9 dX9_reduce_25 28 rfl (by decide) rfl rfl (by decide) (congrArg Value.int (hd)) ?_
            refine g_icmp_gt X ((i : Nat) : Int) ((d : Nat) : Int) dX9_reduce_28 60 (by decide) 31 rfl (nI_toInt (by omega)) (nI_toInt (by omega)) (fun t28 => ?_) (fun f28 => ?_)
            · skip
              refine g_iinc X (v := (nI (k - 1))) (lv' := [(0, .ref (kad K (0))), (1, .ref (kad K (12))), (2, .int (nI (k - 1))), (3, .int ((redN q d (h 7) (h 12) (q - 1 - k)) k)), (4, .int (nI (i)))]) dX9_reduce_60 63 rfl (by decide) rfl (n_dec (by omega)) rfl rfl ?_
              refine g_goto X dX9_reduce_63 7 (by decide) ?_
              refine g_sub [0, 1, 2] rfl ?_
              refine g_mem (h := (mrow h 12 (redI d (h 7) ((redN q d (h 7) (h 12) (q - 1 - k)) k) k (redN q d (h 7) (h 12) (q - 1 - k)) i))) (h' := (mrow h 12 (redN q d (h 7) (h 12) (q - 1 - (k - 1))))) (congrArg (mrow h 12) (by rw [show i = d + 1 from by omega]; exact red_next (h 7) (h 12) (by omega) hk2)) ?_
              exact ih7 (k - 1) (by omega) (by omega) (by omega)
            · skip
              refine g_aload_n X dX9_reduce_31 32 rfl rfl ?_
              refine g_iload_n X dX9_reduce_32 33 rfl rfl ?_
              refine g_aload_n X dX9_reduce_33 34 rfl rfl ?_
              refine g_get (c := 0) (k := 10) (T := TX9) (sk := skM0) (v := .int (nI (d))) X wf_X9_129 inX9 dX9_reduce_34 37 rfl (by decide) rfl rfl (by decide) (congrArg Value.int (hd)) ?_
              refine g_isub X (v := (nI (k - d))) dX9_reduce_37 38 rfl (pk_sub (by omega)) ?_
              refine g_iload X dX9_reduce_38 40 rfl rfl ?_
              refine g_iadd X (v := (nI ((k - d) + i))) dX9_reduce_40 41 rfl (nI_add (k - d) i) ?_
              refine g_dup2 X dX9_reduce_41 42 rfl rfl rfl ?_
              refine g_iald (c := 12) (n := 24) (r := 12) (o := 0) (i := (k - d) + i) (v := ((mrow h 12 (redI d (h 7) ((redN q d (h 7) (h 12) (q - 1 - k)) k) k (redN q d (h 7) (h 12) (q - 1 - k)) i)) 12 ((k - d) + i))) X dX9_reduce_42 43 rfl (by decide) rfl rfl (by omega) rfl ?_
              refine g_iload_n X dX9_reduce_43 44 rfl rfl ?_
              refine g_aload_n X dX9_reduce_44 45 rfl rfl ?_
              refine g_get (c := 0) (k := 11) (T := TX9) (sk := skM0) (v := .ref (kad K (7))) X wf_X9_39 inX9 dX9_reduce_45 48 rfl (by decide) rfl rfl (by decide) rfl ?_
              refine g_iload X dX9_reduce_48 50 rfl rfl ?_
              refine g_iald (c := 7) (n := 25) (r := 7) (o := 0) (i := i) (v := (h 7 i)) X dX9_reduce_50 51 rfl (by decide) rfl rfl (by omega) rfl ?_
              refine g_imul X (v := (((redN q d (h 7) (h 12) (q - 1 - k)) k) * (h 7 i))) dX9_reduce_51 52 rfl rfl ?_
              refine g_isub X (v := (((mrow h 12 (redI d (h 7) ((redN q d (h 7) (h 12) (q - 1 - k)) k) k (redN q d (h 7) (h 12) (q - 1 - k)) i)) 12 ((k - d) + i)) - (((redN q d (h 7) (h 12) (q - 1 - k)) k) * (h 7 i)))) dX9_reduce_52 53 rfl rfl ?_
              refine g_iast (c := 12) (n := 24) (r := 12) (o := 0) (i := (k - d) + i) X dX9_reduce_53 54 rfl (by decide) rfl rfl (by omega) ?_
              refine g_iinc X (v := (nI (i + 1))) (lv' := [(0, .ref (kad K (0))), (1, .ref (kad K (12))), (2, .int (nI (k))), (3, .int ((redN q d (h 7) (h 12) (q - 1 - k)) k)), (4, .int (nI (i + 1)))]) dX9_reduce_54 57 rfl (by decide) rfl (n_inc i 1) rfl rfl ?_
              refine g_goto X dX9_reduce_57 22 (by decide) ?_
              skip
              refine g_mem (h := (mup (mrow h 12 (redI d (h 7) ((redN q d (h 7) (h 12) (q - 1 - k)) k) k (redN q d (h 7) (h 12) (q - 1 - k)) i)) 12 ((k - d) + i) (((mrow h 12 (redI d (h 7) ((redN q d (h 7) (h 12) (q - 1 - k)) k) k (redN q d (h 7) (h 12) (q - 1 - k)) i)) 12 ((k - d) + i)) - (((redN q d (h 7) (h 12) (q - 1 - k)) k) * (h 7 i))))) (h' := (mrow h 12 (redI d (h 7) ((redN q d (h 7) (h 12) (q - 1 - k)) k) k (redN q d (h 7) (h 12) (q - 1 - k)) (i + 1)))) (by rw [mup_m, mrow_s, redI_s]) ?_
              exact ih22 (i + 1) (by omega) (by omega)
        skip
        refine g_mem (h := (mrow h 12 (redN q d (h 7) (h 12) (q - 1 - k)))) (h' := (mrow h 12 (redI d (h 7) ((redN q d (h 7) (h 12) (q - 1 - k)) k) k (redN q d (h 7) (h 12) (q - 1 - k)) 0))) (by rw [redI_0]) ?_
        exact lp22 _ 0 (by omega) (Nat.lt_succ_self _)
  skip
  refine g_mem (h := h) (h' := (mrow h 12 (redN q d (h 7) (h 12) (q - 1 - (q - 1))))) (by rw [show q - 1 - (q - 1) = 0 from by omega]; exact (mrow_id _ 12).symm) ?_
  exact lp7 _ (q - 1) (by omega) (by omega) (Nat.lt_succ_self _)
set_option maxHeartbeats 1000000 in
set_option maxRecDepth 100000 in
theorem c_M_clearRow13 (h : Mem) : cV 25 ML yX9_clearRow cX9_clearRow 2 0 0 (fun ad => [.ref (ad (13))]) h (fun h2 => h2 = mrow h 13 (zrK (h 13) 24)) := by
  refine cV_of MLW (by decide +kernel) (fun ad => Nat.le_of_ble_eq_true rfl) ?_
  intro K X Z
  show G 25 ML 2 K h 0 [(0, .ref (kad K (13)))] []
  refine g_iconst X dX9_clearRow_0 1 rfl (v := (nI (0))) rfl ?_
  refine g_istore_n X (lv' := [(0, .ref (kad K (13))), (1, .int (nI 0))]) dX9_clearRow_1 2 rfl (by decide) rfl rfl ?_
  have lp2 : ∀ (fu : Nat) (k : Nat) (hk : k ≤ 24), 24 - k < fu → G 25 ML 2 K (mrow h 13 (zrK (h 13) k)) 2 [(0, .ref (kad K (13))), (1, .int (nI (k)))] [] := by
    intro fu
    induction fu with
    | zero => intro k hk hm; exact absurd hm (Nat.not_lt_zero _)
    | succ fu ih2 =>
      intro k hk hm2
      refine g_iload_n X dX9_clearRow_2 3 rfl rfl ?_
      refine g_bipush X dX9_clearRow_3 5 rfl (v := (nI (24))) rfl ?_
      refine g_icmp_ge X ((k : Nat) : Int) 24 dX9_clearRow_5 18 (by decide) 8 rfl (nI_toInt (by omega)) rfl (fun t5 => ?_) (fun f5 => ?_)
      · skip
        refine g_vret (h := (mrow h 13 (zrK (h 13) k))) X Z dX9_clearRow_18 ?_
        exact by rw [show k = 24 from by omega]
      · skip
        refine g_aload_n X dX9_clearRow_8 9 rfl rfl ?_
        refine g_iload_n X dX9_clearRow_9 10 rfl rfl ?_
        refine g_iconst X dX9_clearRow_10 11 rfl (v := (nI (0))) rfl ?_
        refine g_iast (c := 13) (n := 24) (r := 13) (o := 0) (i := k) X dX9_clearRow_11 12 rfl (by decide) rfl rfl (by omega) ?_
        refine g_iinc X (v := (nI (k + 1))) (lv' := [(0, .ref (kad K (13))), (1, .int (nI (k + 1)))]) dX9_clearRow_12 15 rfl (by decide) rfl (n_inc k 1) rfl rfl ?_
        refine g_goto X dX9_clearRow_15 2 (by decide) ?_
        skip
        refine g_mem (h := (mup (mrow h 13 (zrK (h 13) k)) 13 k (nI (0)))) (h' := (mrow h 13 (zrK (h 13) (k + 1)))) (by rw [mup_m, zrK_s]) ?_
        exact ih2 (k + 1) (by omega) (by omega)
  skip
  refine g_mem (h := h) (h' := (mrow h 13 (zrK (h 13) 0))) (by rw [zrK_0]; exact (mrow_id _ 13).symm) ?_
  exact lp2 _ 0 (by omega) (Nat.lt_succ_self _)
set_option maxHeartbeats 1000000 in
set_option maxRecDepth 100000 in
theorem c_M_addCoil13 (h : Mem) (q m n k t w : Nat) (x : Int32) (hq : h 0 0 = nI q) (hq1 : 3 ≤ q) (hq2 : q ≤ 24) (hn2 : n ≤ 24) (hc : coilsOK q m n (h 1) (h 2) (h 3) (h 4) (h 5)) (hk : k < n) (ht : t ≤ 47) (hw : w < 24) : cV 25 ML yX9_addCoil cX9_addCoil 8 0 0 (fun ad => [.ref (ad (0)), .ref (ad (13)), .int (nI (k)), .int (nI (t)), .int (nI (w)), .int (x)]) h (fun h2 => h2 = mrow h 13 (rwA ((t * tn (h 2 k) + w) % q) ((t * tn (h 3 k) + w) % q) (x * h 4 k) (h 13))) := by
  refine cV_of MLW (by decide +kernel) (fun ad => Nat.le_of_ble_eq_true rfl) ?_
  intro K X Z
  have hx1 := (hc k hk).ci.2
  have hx2 := (hc k hk).co.2
  have hx3 : t * tn (h 2 k) ≤ 47 * 23 := Nat.mul_le_mul ht (by omega)
  have hx4 : t * tn (h 3 k) ≤ 47 * 23 := Nat.mul_le_mul ht (by omega)
  show G 25 ML 8 K h 0 [(0, .ref (kad K (0))), (1, .ref (kad K (13))), (2, .int (nI (k))), (3, .int (nI (t))), (4, .int (nI (w))), (5, .int (x))] []
  refine g_iload_n X dX9_addCoil_0 1 rfl rfl ?_
  refine g_aload_n X dX9_addCoil_1 2 rfl rfl ?_
  refine g_get (c := 0) (k := 5) (T := TX9) (sk := skM0) (v := .ref (kad K (2))) X wf_X9_23 inX9 dX9_addCoil_2 5 rfl (by decide) rfl rfl (by decide) rfl ?_
  refine g_iload_n X dX9_addCoil_5 6 rfl rfl ?_
  refine g_iald (c := 2) (n := 24) (r := 2) (o := 0) (i := k) (v := (nI (tn (h 2 k)))) X dX9_addCoil_6 7 rfl (by decide) rfl rfl (by omega) ((hc k (by omega)).ci.1) ?_
  refine g_imul X (v := (nI (t * (tn (h 2 k))))) dX9_addCoil_7 8 rfl (pk_mul t (tn (h 2 k))) ?_
  refine g_iload X dX9_addCoil_8 10 rfl rfl ?_
  refine g_iadd X (v := (nI (t * (tn (h 2 k)) + w))) dX9_addCoil_10 11 rfl (nI_add (t * (tn (h 2 k))) w) ?_
  refine g_aload_n X dX9_addCoil_11 12 rfl rfl ?_
  refine g_get (c := 0) (k := 0) (T := TX9) (sk := skM0) (v := .int (nI (q))) X wf_X9_7 inX9 dX9_addCoil_12 15 rfl (by decide) rfl rfl (by decide) (congrArg Value.int (hq)) ?_
  have b15 := Nat.mod_le (t * (tn (h 2 k)) + w) q
  refine g_irem X (v := (nI ((t * (tn (h 2 k)) + w) % q))) dX9_addCoil_15 16 rfl (nI_ne (by omega) (by omega)) (pk_rem (by omega) (by omega) (by omega)) ?_
  refine g_istore X (lv' := [(0, .ref (kad K (0))), (1, .ref (kad K (13))), (2, .int (nI (k))), (3, .int (nI (t))), (4, .int (nI (w))), (5, .int (x)), (6, .int (nI ((t * (tn (h 2 k)) + w) % q)))]) dX9_addCoil_16 18 rfl (by decide) rfl rfl ?_
  refine g_iload_n X dX9_addCoil_18 19 rfl rfl ?_
  refine g_aload_n X dX9_addCoil_19 20 rfl rfl ?_
  refine g_get (c := 0) (k := 6) (T := TX9) (sk := skM0) (v := .ref (kad K (3))) X wf_X9_26 inX9 dX9_addCoil_20 23 rfl (by decide) rfl rfl (by decide) rfl ?_
  refine g_iload_n X dX9_addCoil_23 24 rfl rfl ?_
  refine g_iald (c := 3) (n := 24) (r := 3) (o := 0) (i := k) (v := (nI (tn (h 3 k)))) X dX9_addCoil_24 25 rfl (by decide) rfl rfl (by omega) ((hc k (by omega)).co.1) ?_
  refine g_imul X (v := (nI (t * (tn (h 3 k))))) dX9_addCoil_25 26 rfl (pk_mul t (tn (h 3 k))) ?_
  refine g_iload X dX9_addCoil_26 28 rfl rfl ?_
  refine g_iadd X (v := (nI (t * (tn (h 3 k)) + w))) dX9_addCoil_28 29 rfl (nI_add (t * (tn (h 3 k))) w) ?_
  refine g_aload_n X dX9_addCoil_29 30 rfl rfl ?_
  refine g_get (c := 0) (k := 0) (T := TX9) (sk := skM0) (v := .int (nI (q))) X wf_X9_7 inX9 dX9_addCoil_30 33 rfl (by decide) rfl rfl (by decide) (congrArg Value.int (hq)) ?_
  have b33 := Nat.mod_le (t * (tn (h 3 k)) + w) q
  refine g_irem X (v := (nI ((t * (tn (h 3 k)) + w) % q))) dX9_addCoil_33 34 rfl (nI_ne (by omega) (by omega)) (pk_rem (by omega) (by omega) (by omega)) ?_
  refine g_istore X (lv' := [(0, .ref (kad K (0))), (1, .ref (kad K (13))), (2, .int (nI (k))), (3, .int (nI (t))), (4, .int (nI (w))), (5, .int (x)), (6, .int (nI ((t * (tn (h 2 k)) + w) % q))), (7, .int (nI ((t * (tn (h 3 k)) + w) % q)))]) dX9_addCoil_34 36 rfl (by decide) rfl rfl ?_
  have hm1 := Nat.mod_lt (t * tn (h 2 k) + w) (show 0 < q by omega)
  have hm2 := Nat.mod_lt (t * tn (h 3 k) + w) (show 0 < q by omega)
  refine g_aload_n X dX9_addCoil_36 37 rfl rfl ?_
  refine g_iload X dX9_addCoil_37 39 rfl rfl ?_
  refine g_dup2 X dX9_addCoil_39 40 rfl rfl rfl ?_
  refine g_iald (c := 13) (n := 24) (r := 13) (o := 0) (i := (t * (tn (h 2 k)) + w) % q) (v := (h 13 ((t * (tn (h 2 k)) + w) % q))) X dX9_addCoil_40 41 rfl (by decide) rfl rfl (by omega) rfl ?_
  refine g_iload X dX9_addCoil_41 43 rfl rfl ?_
  refine g_aload_n X dX9_addCoil_43 44 rfl rfl ?_
  refine g_get (c := 0) (k := 7) (T := TX9) (sk := skM0) (v := .ref (kad K (4))) X wf_X9_29 inX9 dX9_addCoil_44 47 rfl (by decide) rfl rfl (by decide) rfl ?_
  refine g_iload_n X dX9_addCoil_47 48 rfl rfl ?_
  refine g_iald (c := 4) (n := 24) (r := 4) (o := 0) (i := k) (v := (h 4 k)) X dX9_addCoil_48 49 rfl (by decide) rfl rfl (by omega) rfl ?_
  refine g_imul X (v := ((x) * (h 4 k))) dX9_addCoil_49 50 rfl rfl ?_
  refine g_iadd X (v := ((h 13 ((t * (tn (h 2 k)) + w) % q)) + ((x) * (h 4 k)))) dX9_addCoil_50 51 rfl rfl ?_
  refine g_iast (c := 13) (n := 24) (r := 13) (o := 0) (i := (t * (tn (h 2 k)) + w) % q) X dX9_addCoil_51 52 rfl (by decide) rfl rfl (by omega) ?_
  refine g_aload_n X dX9_addCoil_52 53 rfl rfl ?_
  refine g_iload X dX9_addCoil_53 55 rfl rfl ?_
  refine g_dup2 X dX9_addCoil_55 56 rfl rfl rfl ?_
  refine g_iald (c := 13) (n := 24) (r := 13) (o := 0) (i := (t * (tn (h 3 k)) + w) % q) (v := ((mup h 13 ((t * (tn (h 2 k)) + w) % q) ((h 13 ((t * (tn (h 2 k)) + w) % q)) + ((x) * (h 4 k)))) 13 ((t * (tn (h 3 k)) + w) % q))) X dX9_addCoil_56 57 rfl (by decide) rfl rfl (by omega) rfl ?_
  refine g_iload X dX9_addCoil_57 59 rfl rfl ?_
  refine g_aload_n X dX9_addCoil_59 60 rfl rfl ?_
  refine g_get (c := 0) (k := 7) (T := TX9) (sk := skM0) (v := .ref (kad K (4))) X wf_X9_29 inX9 dX9_addCoil_60 63 rfl (by decide) rfl rfl (by decide) rfl ?_
  refine g_iload_n X dX9_addCoil_63 64 rfl rfl ?_
  refine g_iald (c := 4) (n := 24) (r := 4) (o := 0) (i := k) (v := (h 4 k)) X dX9_addCoil_64 65 rfl (by decide) rfl rfl (by omega) rfl ?_
  refine g_imul X (v := ((x) * (h 4 k))) dX9_addCoil_65 66 rfl rfl ?_
  refine g_isub X (v := (((mup h 13 ((t * (tn (h 2 k)) + w) % q) ((h 13 ((t * (tn (h 2 k)) + w) % q)) + ((x) * (h 4 k)))) 13 ((t * (tn (h 3 k)) + w) % q)) - ((x) * (h 4 k)))) dX9_addCoil_66 67 rfl rfl ?_
  refine g_iast (c := 13) (n := 24) (r := 13) (o := 0) (i := (t * (tn (h 3 k)) + w) % q) X dX9_addCoil_67 68 rfl (by decide) rfl rfl (by omega) ?_
  refine g_vret (h := (mup (mup h 13 ((t * (tn (h 2 k)) + w) % q) ((h 13 ((t * (tn (h 2 k)) + w) % q)) + ((x) * (h 4 k)))) 13 ((t * (tn (h 3 k)) + w) % q) (((mup h 13 ((t * (tn (h 2 k)) + w) % q) ((h 13 ((t * (tn (h 2 k)) + w) % q)) + ((x) * (h 4 k)))) 13 ((t * (tn (h 3 k)) + w) % q)) - ((x) * (h 4 k))))) X Z dX9_addCoil_68 ?_
  exact by rw [mup_r h, mup_m, mrow_s]; rfl
set_option maxHeartbeats 1000000 in
set_option maxRecDepth 100000 in
theorem c_M_isZero13 (h : Mem) (q : Nat) (hq : h 0 0 = nI q) (hq2 : q ≤ 24) : cI 25 ML yX9_isZero cX9_isZero 4 (some .boolean) 0 0 (fun ad => [.ref (ad (0)), .ref (ad (13))]) h (fun r h2 => r = bI (zrB (h 13) q = true) ∧ h2 = h) := by
  refine cI_of MLW (by decide +kernel) (fun ad => Nat.le_of_ble_eq_true rfl) ?_
  intro K X Z
  show G 25 ML 4 K h 0 [(0, .ref (kad K (0))), (1, .ref (kad K (13)))] []
  refine g_iconst X dX9_isZero_0 1 rfl (v := (nI (1))) rfl ?_
  refine g_eq (st' := [.int (bI (zrB (h 13) 0 = true))]) rfl rfl (by rw [bI_t (zrB_t.mpr (fun i hi => absurd hi (Nat.not_lt_zero i)))]) ?_
  refine g_istore_n X (lv' := [(0, .ref (kad K (0))), (1, .ref (kad K (13))), (2, .int (bI (zrB (h 13) 0 = true)))]) dX9_isZero_1 2 rfl (by decide) rfl rfl ?_
  refine g_iconst X dX9_isZero_2 3 rfl (v := (nI (0))) rfl ?_
  refine g_istore_n X (lv' := [(0, .ref (kad K (0))), (1, .ref (kad K (13))), (2, .int (bI (zrB (h 13) 0 = true))), (3, .int (nI 0))]) dX9_isZero_3 4 rfl (by decide) rfl rfl ?_
  have lp4 : ∀ (fu : Nat) (k : Nat) (hk : k ≤ q), q - k < fu → G 25 ML 4 K h 4 [(0, .ref (kad K (0))), (1, .ref (kad K (13))), (2, .int (bI (zrB (h 13) k = true))), (3, .int (nI (k)))] [] := by
    intro fu
    induction fu with
    | zero => intro k hk hm; exact absurd hm (Nat.not_lt_zero _)
    | succ fu ih4 =>
      intro k hk hm4
      refine g_iload_n X dX9_isZero_4 5 rfl rfl ?_
      refine g_aload_n X dX9_isZero_5 6 rfl rfl ?_
      refine g_get (c := 0) (k := 0) (T := TX9) (sk := skM0) (v := .int (nI (q))) X wf_X9_7 inX9 dX9_isZero_6 9 rfl (by decide) rfl rfl (by decide) (congrArg Value.int (hq)) ?_
      refine g_icmp_ge X ((k : Nat) : Int) ((q : Nat) : Int) dX9_isZero_9 34 (by decide) 12 rfl (nI_toInt (by omega)) (nI_toInt (by omega)) (fun t9 => ?_) (fun f9 => ?_)
      · skip
        refine g_iload_n X dX9_isZero_34 35 rfl rfl ?_
        refine g_zret (h := h) (v := (bI (zrB (h 13) k = true))) X Z dX9_isZero_35 (bI_01 _) ?_
        exact ⟨by rw [show k = q from by omega], rfl⟩
      · skip
        refine g_iload_n X dX9_isZero_12 13 rfl rfl ?_
        refine g_ifeq_B X dX9_isZero_13 26 (by decide) 16 rfl (fun t13 => ?_) (fun f13 => ?_)
        · skip
          refine g_iconst X dX9_isZero_26 27 rfl (v := (nI (0))) rfl ?_
          refine g_eq (st' := [.int (bI (zrB (h 13) (k + 1) = true))]) rfl rfl (by rw [bI_f (fun z => t13 (zrB_t.mpr (fun i hi => zrB_t.mp z i (by omega))))]) ?_
          refine g_istore_n X (lv' := [(0, .ref (kad K (0))), (1, .ref (kad K (13))), (2, .int (bI (zrB (h 13) (k + 1) = true))), (3, .int (nI (k)))]) dX9_isZero_27 28 rfl (by decide) rfl rfl ?_
          refine g_iinc X (v := (nI (k + 1))) (lv' := [(0, .ref (kad K (0))), (1, .ref (kad K (13))), (2, .int (bI (zrB (h 13) (k + 1) = true))), (3, .int (nI (k + 1)))]) dX9_isZero_28 31 rfl (by decide) rfl (n_inc k 1) rfl rfl ?_
          refine g_goto X dX9_isZero_31 4 (by decide) ?_
          skip
          exact ih4 (k + 1) (by omega) (by omega)
        · skip
          refine g_aload_n X dX9_isZero_16 17 rfl rfl ?_
          refine g_iload_n X dX9_isZero_17 18 rfl rfl ?_
          refine g_iald (c := 13) (n := 24) (r := 13) (o := 0) (i := k) (v := (h 13 k)) X dX9_isZero_18 19 rfl (by decide) rfl rfl (by omega) rfl ?_
          refine g_if_ne X ((h 13 k).toInt) dX9_isZero_19 26 (by decide) 22 rfl rfl (fun t19 => ?_) (fun f19 => ?_)
          · skip
            refine g_iconst X dX9_isZero_26 27 rfl (v := (nI (0))) rfl ?_
            refine g_eq (st' := [.int (bI (zrB (h 13) (k + 1) = true))]) rfl rfl (by rw [bI_f (fun z => t19 (by rw [zrB_t.mp z k (by omega)]; rfl))]) ?_
            refine g_istore_n X (lv' := [(0, .ref (kad K (0))), (1, .ref (kad K (13))), (2, .int (bI (zrB (h 13) (k + 1) = true))), (3, .int (nI (k)))]) dX9_isZero_27 28 rfl (by decide) rfl rfl ?_
            refine g_iinc X (v := (nI (k + 1))) (lv' := [(0, .ref (kad K (0))), (1, .ref (kad K (13))), (2, .int (bI (zrB (h 13) (k + 1) = true))), (3, .int (nI (k + 1)))]) dX9_isZero_28 31 rfl (by decide) rfl (n_inc k 1) rfl rfl ?_
            refine g_goto X dX9_isZero_31 4 (by decide) ?_
            skip
            exact ih4 (k + 1) (by omega) (by omega)
          · skip
            refine g_iconst X dX9_isZero_22 23 rfl (v := (nI (1))) rfl ?_
            refine g_goto X dX9_isZero_23 27 (by decide) ?_
            refine g_eq (st' := [.int (bI (zrB (h 13) (k + 1) = true))]) rfl rfl (by rw [bI_t (zrB_t.mpr (fun i hi => (Nat.lt_succ_iff_lt_or_eq.mp hi).elim (zrB_t.mp f13 i) (fun y => by rw [y]; exact i32_0 f19)))]) ?_
            refine g_istore_n X (lv' := [(0, .ref (kad K (0))), (1, .ref (kad K (13))), (2, .int (bI (zrB (h 13) (k + 1) = true))), (3, .int (nI (k)))]) dX9_isZero_27 28 rfl (by decide) rfl rfl ?_
            refine g_iinc X (v := (nI (k + 1))) (lv' := [(0, .ref (kad K (0))), (1, .ref (kad K (13))), (2, .int (bI (zrB (h 13) (k + 1) = true))), (3, .int (nI (k + 1)))]) dX9_isZero_28 31 rfl (by decide) rfl (n_inc k 1) rfl rfl ?_
            refine g_goto X dX9_isZero_31 4 (by decide) ?_
            skip
            exact ih4 (k + 1) (by omega) (by omega)
  skip
  exact lp4 _ 0 (by omega) (Nat.lt_succ_self _)
set_option maxHeartbeats 1000000 in
set_option maxRecDepth 100000 in
theorem c_M_reduce13 (h : Mem) (q d : Nat) (hq : h 0 0 = nI q) (hd : h 0 10 = nI d) (hq1 : 3 ≤ q) (hq2 : q ≤ 24) (hd1 : 1 ≤ d) (hd2 : d ≤ q) : cV 25 ML yX9_reduce cX9_reduce 5 0 0 (fun ad => [.ref (ad (0)), .ref (ad (13))]) h (fun h2 => h2 = mrow h 13 (redN q d (h 7) (h 13) (q - d))) := by
  refine cV_of MLW (by decide +kernel) (fun ad => Nat.le_of_ble_eq_true rfl) ?_
  intro K X Z
  show G 25 ML 5 K h 0 [(0, .ref (kad K (0))), (1, .ref (kad K (13)))] []
  refine g_aload_n X dX9_reduce_0 1 rfl rfl ?_
  refine g_get (c := 0) (k := 0) (T := TX9) (sk := skM0) (v := .int (nI (q))) X wf_X9_7 inX9 dX9_reduce_1 4 rfl (by decide) rfl rfl (by decide) (congrArg Value.int (hq)) ?_
  refine g_iconst X dX9_reduce_4 5 rfl (v := (nI (1))) rfl ?_
  refine g_isub X (v := (nI (q - 1))) dX9_reduce_5 6 rfl (pk_sub (by omega)) ?_
  refine g_istore_n X (lv' := [(0, .ref (kad K (0))), (1, .ref (kad K (13))), (2, .int (nI (q - 1)))]) dX9_reduce_6 7 rfl (by decide) rfl rfl ?_
  have lp7 : ∀ (fu : Nat) (k : Nat) (hk1 : d ≤ k + 1) (hk2 : k ≤ q - 1), k + 1 - d < fu → G 25 ML 5 K (mrow h 13 (redN q d (h 7) (h 13) (q - 1 - k))) 7 [(0, .ref (kad K (0))), (1, .ref (kad K (13))), (2, .int (nI (k)))] [] := by
    intro fu
    induction fu with
    | zero => intro k hk1 hk2 hm; exact absurd hm (Nat.not_lt_zero _)
    | succ fu ih7 =>
      intro k hk1 hk2 hm7
      refine g_iload_n X dX9_reduce_7 8 rfl rfl ?_
      refine g_aload_n X dX9_reduce_8 9 rfl rfl ?_
      refine g_get (c := 0) (k := 10) (T := TX9) (sk := skM0) (v := .int (nI (d))) X wf_X9_129 inX9 dX9_reduce_9 12 rfl (by decide) rfl rfl (by decide) (congrArg Value.int (hd)) ?_
      refine g_icmp_lt X ((k : Nat) : Int) ((d : Nat) : Int) dX9_reduce_12 66 (by decide) 15 rfl (nI_toInt (by omega)) (nI_toInt (by omega)) (fun t12 => ?_) (fun f12 => ?_)
      · skip
        refine g_vret (h := (mrow h 13 (redN q d (h 7) (h 13) (q - 1 - k)))) X Z dX9_reduce_66 ?_
        exact by rw [show q - d = q - 1 - k from by omega]
      · skip
        refine g_aload_n X dX9_reduce_15 16 rfl rfl ?_
        refine g_iload_n X dX9_reduce_16 17 rfl rfl ?_
        refine g_iald (c := 13) (n := 24) (r := 13) (o := 0) (i := k) (v := ((redN q d (h 7) (h 13) (q - 1 - k)) k)) X dX9_reduce_17 18 rfl (by decide) rfl rfl (by omega) rfl ?_
        refine g_istore_n X (lv' := [(0, .ref (kad K (0))), (1, .ref (kad K (13))), (2, .int (nI (k))), (3, .int ((redN q d (h 7) (h 13) (q - 1 - k)) k))]) dX9_reduce_18 19 rfl (by decide) rfl rfl ?_
        refine g_iconst X dX9_reduce_19 20 rfl (v := (nI (0))) rfl ?_
        refine g_istore X (lv' := [(0, .ref (kad K (0))), (1, .ref (kad K (13))), (2, .int (nI (k))), (3, .int ((redN q d (h 7) (h 13) (q - 1 - k)) k)), (4, .int (nI 0))]) dX9_reduce_20 22 rfl (by decide) rfl rfl ?_
        have lp22 : ∀ (fu : Nat) (i : Nat) (hi : i ≤ d + 1), d + 1 - i < fu → G 25 ML 5 K (mrow h 13 (redI d (h 7) ((redN q d (h 7) (h 13) (q - 1 - k)) k) k (redN q d (h 7) (h 13) (q - 1 - k)) i)) 22 [(0, .ref (kad K (0))), (1, .ref (kad K (13))), (2, .int (nI (k))), (3, .int ((redN q d (h 7) (h 13) (q - 1 - k)) k)), (4, .int (nI (i)))] [] := by
          intro fu
          induction fu with
          | zero => intro i hi hm; exact absurd hm (Nat.not_lt_zero _)
          | succ fu ih22 =>
            intro i hi hm22
            refine g_iload X dX9_reduce_22 24 rfl rfl ?_
            refine g_aload_n X dX9_reduce_24 25 rfl rfl ?_
            refine g_get (c := 0) (k := 10) (T := TX9) (sk := skM0) (v := .int (nI (d))) X wf_X9_129 inX9 dX9_reduce_25 28 rfl (by decide) rfl rfl (by decide) (congrArg Value.int (hd)) ?_
            refine g_icmp_gt X ((i : Nat) : Int) ((d : Nat) : Int) dX9_reduce_28 60 (by decide) 31 rfl (nI_toInt (by omega)) (nI_toInt (by omega)) (fun t28 => ?_) (fun f28 => ?_)
            · skip
              refine g_iinc X (v := (nI (k - 1))) (lv' := [(0, .ref (kad K (0))), (1, .ref (kad K (13))), (2, .int (nI (k - 1))), (3, .int ((redN q d (h 7) (h 13) (q - 1 - k)) k)), (4, .int (nI (i)))]) dX9_reduce_60 63 rfl (by decide) rfl (n_dec (by omega)) rfl rfl ?_
              refine g_goto X dX9_reduce_63 7 (by decide) ?_
              refine g_sub [0, 1, 2] rfl ?_
              refine g_mem (h := (mrow h 13 (redI d (h 7) ((redN q d (h 7) (h 13) (q - 1 - k)) k) k (redN q d (h 7) (h 13) (q - 1 - k)) i))) (h' := (mrow h 13 (redN q d (h 7) (h 13) (q - 1 - (k - 1))))) (congrArg (mrow h 13) (by rw [show i = d + 1 from by omega]; exact red_next (h 7) (h 13) (by omega) hk2)) ?_
              exact ih7 (k - 1) (by omega) (by omega) (by omega)
            · skip
              refine g_aload_n X dX9_reduce_31 32 rfl rfl ?_
              refine g_iload_n X dX9_reduce_32 33 rfl rfl ?_
              refine g_aload_n X dX9_reduce_33 34 rfl rfl ?_
              refine g_get (c := 0) (k := 10) (T := TX9) (sk := skM0) (v := .int (nI (d))) X wf_X9_129 inX9 dX9_reduce_34 37 rfl (by decide) rfl rfl (by decide) (congrArg Value.int (hd)) ?_
              refine g_isub X (v := (nI (k - d))) dX9_reduce_37 38 rfl (pk_sub (by omega)) ?_
              refine g_iload X dX9_reduce_38 40 rfl rfl ?_
              refine g_iadd X (v := (nI ((k - d) + i))) dX9_reduce_40 41 rfl (nI_add (k - d) i) ?_
              refine g_dup2 X dX9_reduce_41 42 rfl rfl rfl ?_
              refine g_iald (c := 13) (n := 24) (r := 13) (o := 0) (i := (k - d) + i) (v := ((mrow h 13 (redI d (h 7) ((redN q d (h 7) (h 13) (q - 1 - k)) k) k (redN q d (h 7) (h 13) (q - 1 - k)) i)) 13 ((k - d) + i))) X dX9_reduce_42 43 rfl (by decide) rfl rfl (by omega) rfl ?_
              refine g_iload_n X dX9_reduce_43 44 rfl rfl ?_
              refine g_aload_n X dX9_reduce_44 45 rfl rfl ?_
              refine g_get (c := 0) (k := 11) (T := TX9) (sk := skM0) (v := .ref (kad K (7))) X wf_X9_39 inX9 dX9_reduce_45 48 rfl (by decide) rfl rfl (by decide) rfl ?_
              refine g_iload X dX9_reduce_48 50 rfl rfl ?_
              refine g_iald (c := 7) (n := 25) (r := 7) (o := 0) (i := i) (v := (h 7 i)) X dX9_reduce_50 51 rfl (by decide) rfl rfl (by omega) rfl ?_
              refine g_imul X (v := (((redN q d (h 7) (h 13) (q - 1 - k)) k) * (h 7 i))) dX9_reduce_51 52 rfl rfl ?_
              refine g_isub X (v := (((mrow h 13 (redI d (h 7) ((redN q d (h 7) (h 13) (q - 1 - k)) k) k (redN q d (h 7) (h 13) (q - 1 - k)) i)) 13 ((k - d) + i)) - (((redN q d (h 7) (h 13) (q - 1 - k)) k) * (h 7 i)))) dX9_reduce_52 53 rfl rfl ?_
              refine g_iast (c := 13) (n := 24) (r := 13) (o := 0) (i := (k - d) + i) X dX9_reduce_53 54 rfl (by decide) rfl rfl (by omega) ?_
              refine g_iinc X (v := (nI (i + 1))) (lv' := [(0, .ref (kad K (0))), (1, .ref (kad K (13))), (2, .int (nI (k))), (3, .int ((redN q d (h 7) (h 13) (q - 1 - k)) k)), (4, .int (nI (i + 1)))]) dX9_reduce_54 57 rfl (by decide) rfl (n_inc i 1) rfl rfl ?_
              refine g_goto X dX9_reduce_57 22 (by decide) ?_
              skip
              refine g_mem (h := (mup (mrow h 13 (redI d (h 7) ((redN q d (h 7) (h 13) (q - 1 - k)) k) k (redN q d (h 7) (h 13) (q - 1 - k)) i)) 13 ((k - d) + i) (((mrow h 13 (redI d (h 7) ((redN q d (h 7) (h 13) (q - 1 - k)) k) k (redN q d (h 7) (h 13) (q - 1 - k)) i)) 13 ((k - d) + i)) - (((redN q d (h 7) (h 13) (q - 1 - k)) k) * (h 7 i))))) (h' := (mrow h 13 (redI d (h 7) ((redN q d (h 7) (h 13) (q - 1 - k)) k) k (redN q d (h 7) (h 13) (q - 1 - k)) (i + 1)))) (by rw [mup_m, mrow_s, redI_s]) ?_
              exact ih22 (i + 1) (by omega) (by omega)
        skip
        refine g_mem (h := (mrow h 13 (redN q d (h 7) (h 13) (q - 1 - k)))) (h' := (mrow h 13 (redI d (h 7) ((redN q d (h 7) (h 13) (q - 1 - k)) k) k (redN q d (h 7) (h 13) (q - 1 - k)) 0))) (by rw [redI_0]) ?_
        exact lp22 _ 0 (by omega) (Nat.lt_succ_self _)
  skip
  refine g_mem (h := h) (h' := (mrow h 13 (redN q d (h 7) (h 13) (q - 1 - (q - 1))))) (by rw [show q - 1 - (q - 1) = 0 from by omega]; exact (mrow_id _ 13).symm) ?_
  exact lp7 _ (q - 1) (by omega) (by omega) (Nat.lt_succ_self _)
set_option maxHeartbeats 1000000 in
set_option maxRecDepth 100000 in
theorem c_M_listUsed (h : Mem) (q m n : Nat) (x0 : Int32) (c : Int) (hx : x0.toInt = c) (hn : h 0 3 = nI n) (hn2 : n ≤ 24) (hm2 : m ≤ 3) (hc : coilsOK q m n (h 1) (h 2) (h 3) (h 4) (h 5)) : cV 25 ML yX9_listUsed cX9_listUsed 3 0 0 (fun ad => [.ref (ad (0)), .int (x0)]) h (fun h2 => h2 = mrow (mup h 0 18 (nI (glB (uil (h 1) (h 5) c) n).length)) 14 (grow (glB (uil (h 1) (h 5) c) n) 24 (h 14))) := by
  refine cV_of MLW (by decide +kernel) (fun ad => Nat.le_of_ble_eq_true rfl) ?_
  intro K X Z
  show G 25 ML 3 K h 0 [(0, .ref (kad K (0))), (1, .int (x0))] []
  refine g_aload_n X dX9_listUsed_0 1 rfl rfl ?_
  refine g_iconst X dX9_listUsed_1 2 rfl (v := (nI (0))) rfl ?_
  refine g_put (c := 0) (k := 18) (T := TX9) (sk := skM0) X wf_X9_176 inX9 tyX9_ok nmX9 dX9_listUsed_2 5 rfl (by decide) rfl rfl (by decide) rfl rfl rfl ?_
  refine g_iconst X dX9_listUsed_5 6 rfl (v := (nI (0))) rfl ?_
  refine g_istore_n X (lv' := [(0, .ref (kad K (0))), (1, .int (x0)), (2, .int (nI 0))]) dX9_listUsed_6 7 rfl (by decide) rfl rfl ?_
  have lp7 : ∀ (fu : Nat) (k : Nat) (l : List Nat) (hk : k ≤ n) (hl : l = glB (uil (h 1) (h 5) c) k), n - k < fu → G 25 ML 3 K (mrow (mup h 0 18 (nI (l.length))) 14 (grow l 24 (h 14))) 7 [(0, .ref (kad K (0))), (1, .int (x0)), (2, .int (nI (k)))] [] := by
    intro fu
    induction fu with
    | zero => intro k l hk hl hm; exact absurd hm (Nat.not_lt_zero _)
    | succ fu ih7 =>
      intro k l hk hl hm7
      have hll : l.length ≤ k := by rw [hl]; exact glB_len _ _
      refine g_iload_n X dX9_listUsed_7 8 rfl rfl ?_
      refine g_aload_n X dX9_listUsed_8 9 rfl rfl ?_
      refine g_get (c := 0) (k := 3) (T := TX9) (sk := skM0) (v := .int (nI (n))) X wf_X9_116 inX9 dX9_listUsed_9 12 rfl (by decide) rfl rfl (by decide) (congrArg Value.int (hn)) ?_
      refine g_icmp_ge X ((k : Nat) : Int) ((n : Nat) : Int) dX9_listUsed_12 64 (by decide) 15 rfl (nI_toInt (by omega)) (nI_toInt (by omega)) (fun t12 => ?_) (fun f12 => ?_)
      · skip
        refine g_vret (h := (mrow (mup h 0 18 (nI (l.length))) 14 (grow l 24 (h 14)))) X Z dX9_listUsed_64 ?_
        exact by rw [hl, show k = n from by omega]
      · skip
        refine g_aload_n X dX9_listUsed_15 16 rfl rfl ?_
        refine g_get (c := 0) (k := 8) (T := TX9) (sk := skM0) (v := .ref (kad K (5))) X wf_X9_32 inX9 dX9_listUsed_16 19 rfl (by decide) rfl rfl (by decide) rfl ?_
        refine g_iload_n X dX9_listUsed_19 20 rfl rfl ?_
        refine g_zald (c := 5) (n := 24) (r := 5) (o := 0) (i := k) (v := (bI (h 5 k = nI 1))) X dX9_listUsed_20 21 rfl (by decide) rfl rfl (by omega) (us_b (hc k (by omega)).us) ?_
        refine g_ifeq_B X dX9_listUsed_21 58 (by decide) 24 rfl (fun t21 => ?_) (fun f21 => ?_)
        · skip
          refine g_iinc X (v := (nI (k + 1))) (lv' := [(0, .ref (kad K (0))), (1, .int (x0)), (2, .int (nI (k + 1)))]) dX9_listUsed_58 61 rfl (by decide) rfl (n_inc k 1) rfl rfl ?_
          refine g_goto X dX9_listUsed_61 7 (by decide) ?_
          skip
          exact ih7 (k + 1) l (by omega) (by rw [hl, glB_f (by simp [uil, t21])]) (by omega)
        · skip
          refine g_iload_n X dX9_listUsed_24 25 rfl rfl ?_
          refine g_if_lt X c dX9_listUsed_25 38 (by decide) 28 rfl hx (fun t25 => ?_) (fun f25 => ?_)
          · skip
            refine g_aload_n X dX9_listUsed_38 39 rfl rfl ?_
            refine g_get (c := 0) (k := 19) (T := TX9) (sk := skM0) (v := .ref (kad K (14))) X wf_X9_60 inX9 dX9_listUsed_39 42 rfl (by decide) rfl rfl (by decide) rfl ?_
            refine g_aload_n X dX9_listUsed_42 43 rfl rfl ?_
            refine g_get (c := 0) (k := 18) (T := TX9) (sk := skM0) (v := .int (nI (l.length))) X wf_X9_176 inX9 dX9_listUsed_43 46 rfl (by decide) rfl rfl (by decide) rfl ?_
            refine g_iload_n X dX9_listUsed_46 47 rfl rfl ?_
            refine g_iast (c := 14) (n := 24) (r := 14) (o := 0) (i := l.length) X dX9_listUsed_47 48 rfl (by decide) rfl rfl (by omega) ?_
            refine g_aload_n X dX9_listUsed_48 49 rfl rfl ?_
            refine g_dup X dX9_listUsed_49 50 rfl rfl ?_
            refine g_get (c := 0) (k := 18) (T := TX9) (sk := skM0) (v := .int (nI (l.length))) X wf_X9_176 inX9 dX9_listUsed_50 53 rfl (by decide) rfl rfl (by decide) rfl ?_
            refine g_iconst X dX9_listUsed_53 54 rfl (v := (nI (1))) rfl ?_
            refine g_iadd X (v := (nI (l.length + 1))) dX9_listUsed_54 55 rfl (nI_add l.length 1) ?_
            refine g_put (c := 0) (k := 18) (T := TX9) (sk := skM0) X wf_X9_176 inX9 tyX9_ok nmX9 dX9_listUsed_55 58 rfl (by decide) rfl rfl (by decide) rfl rfl rfl ?_
            refine g_iinc X (v := (nI (k + 1))) (lv' := [(0, .ref (kad K (0))), (1, .int (x0)), (2, .int (nI (k + 1)))]) dX9_listUsed_58 61 rfl (by decide) rfl (n_inc k 1) rfl rfl ?_
            refine g_goto X dX9_listUsed_61 7 (by decide) ?_
            skip
            refine g_mem (h := (mup (mup (mrow (mup h 0 18 (nI (l.length))) 14 (grow l 24 (h 14))) 14 l.length (nI (k))) 0 18 (nI (l.length + 1)))) (h' := (mrow (mup h 0 18 (nI ((l ++ [k]).length))) 14 (grow (l ++ [k]) 24 (h 14)))) (by rw [mup_m, grow_in (by omega), mup_mrow _ (by decide), mup_o, List.length_append]; rfl) ?_
            exact ih7 (k + 1) (l ++ [k]) (by omega) (by rw [hl, glB_t (by simp [uil, f21]; omega)]) (by omega)
          · skip
            have hph := (hc k (by omega)).ph.2
            refine g_aload_n X dX9_listUsed_28 29 rfl rfl ?_
            refine g_get (c := 0) (k := 4) (T := TX9) (sk := skM0) (v := .ref (kad K (1))) X wf_X9_19 inX9 dX9_listUsed_29 32 rfl (by decide) rfl rfl (by decide) rfl ?_
            refine g_iload_n X dX9_listUsed_32 33 rfl rfl ?_
            refine g_iald (c := 1) (n := 24) (r := 1) (o := 0) (i := k) (v := (nI (tn (h 1 k)))) X dX9_listUsed_33 34 rfl (by decide) rfl rfl (by omega) ((hc k (by omega)).ph.1) ?_
            refine g_iload_n X dX9_listUsed_34 35 rfl rfl ?_
            refine g_icmp_ne X ((tn (h 1 k) : Nat) : Int) c dX9_listUsed_35 58 (by decide) 38 rfl (nI_toInt (by omega)) hx (fun t35 => ?_) (fun f35 => ?_)
            · skip
              refine g_iinc X (v := (nI (k + 1))) (lv' := [(0, .ref (kad K (0))), (1, .int (x0)), (2, .int (nI (k + 1)))]) dX9_listUsed_58 61 rfl (by decide) rfl (n_inc k 1) rfl rfl ?_
              refine g_goto X dX9_listUsed_61 7 (by decide) ?_
              skip
              exact ih7 (k + 1) l (by omega) (by rw [hl, glB_f (by simp [uil, f21]; omega)]) (by omega)
            · skip
              refine g_aload_n X dX9_listUsed_38 39 rfl rfl ?_
              refine g_get (c := 0) (k := 19) (T := TX9) (sk := skM0) (v := .ref (kad K (14))) X wf_X9_60 inX9 dX9_listUsed_39 42 rfl (by decide) rfl rfl (by decide) rfl ?_
              refine g_aload_n X dX9_listUsed_42 43 rfl rfl ?_
              refine g_get (c := 0) (k := 18) (T := TX9) (sk := skM0) (v := .int (nI (l.length))) X wf_X9_176 inX9 dX9_listUsed_43 46 rfl (by decide) rfl rfl (by decide) rfl ?_
              refine g_iload_n X dX9_listUsed_46 47 rfl rfl ?_
              refine g_iast (c := 14) (n := 24) (r := 14) (o := 0) (i := l.length) X dX9_listUsed_47 48 rfl (by decide) rfl rfl (by omega) ?_
              refine g_aload_n X dX9_listUsed_48 49 rfl rfl ?_
              refine g_dup X dX9_listUsed_49 50 rfl rfl ?_
              refine g_get (c := 0) (k := 18) (T := TX9) (sk := skM0) (v := .int (nI (l.length))) X wf_X9_176 inX9 dX9_listUsed_50 53 rfl (by decide) rfl rfl (by decide) rfl ?_
              refine g_iconst X dX9_listUsed_53 54 rfl (v := (nI (1))) rfl ?_
              refine g_iadd X (v := (nI (l.length + 1))) dX9_listUsed_54 55 rfl (nI_add l.length 1) ?_
              refine g_put (c := 0) (k := 18) (T := TX9) (sk := skM0) X wf_X9_176 inX9 tyX9_ok nmX9 dX9_listUsed_55 58 rfl (by decide) rfl rfl (by decide) rfl rfl rfl ?_
              refine g_iinc X (v := (nI (k + 1))) (lv' := [(0, .ref (kad K (0))), (1, .int (x0)), (2, .int (nI (k + 1)))]) dX9_listUsed_58 61 rfl (by decide) rfl (n_inc k 1) rfl rfl ?_
              refine g_goto X dX9_listUsed_61 7 (by decide) ?_
              skip
              refine g_mem (h := (mup (mup (mrow (mup h 0 18 (nI (l.length))) 14 (grow l 24 (h 14))) 14 l.length (nI (k))) 0 18 (nI (l.length + 1)))) (h' := (mrow (mup h 0 18 (nI ((l ++ [k]).length))) 14 (grow (l ++ [k]) 24 (h 14)))) (by rw [mup_m, grow_in (by omega), mup_mrow _ (by decide), mup_o, List.length_append]; rfl) ?_
              exact ih7 (k + 1) (l ++ [k]) (by omega) (by rw [hl, glB_t (by simp [uil, f21]; omega)]) (by omega)
  skip
  refine g_mem (h := (mup h 0 18 (nI (0)))) (h' := (mrow (mup h 0 18 (nI (([] : List Nat).length))) 14 (grow ([] : List Nat) 24 (h 14)))) (by rw [grow_nil]; exact (mrow_id _ 14).symm) ?_
  exact lp7 _ 0 ([] : List Nat) (by omega) rfl (Nat.lt_succ_self _)
