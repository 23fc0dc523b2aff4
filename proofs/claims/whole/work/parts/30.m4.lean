theorem rwA_congr {a b : Nat} {t : Int32} {f g : Nat → Int32} (ha : a < 24) (hb : b < 24) (e : ∀ i, i < 24 → f i = g i) : ∀ i, i < 24 → rwA a b t f i = rwA a b t g i := by
  intro i hi
  unfold rwA
  simp only [upd, e i hi, e a ha, e b hb]
theorem redN_congr {q d : Nat} {po f g : Nat → Int32} (hq1 : 3 ≤ q) (hq2 : q ≤ 24) (e : ∀ i, i < 24 → f i = g i) : ∀ t i, i < 24 → redN q d po f t i = redN q d po g t i
  | 0 => e
  | t + 1 => fun i hi => by
    have e1 := redN_congr (d := d) (po := po) hq1 hq2 e t
    show redI d po (redN q d po f t (q - 1 - t)) (q - 1 - t) (redN q d po f t) (d + 1) i = redI d po (redN q d po g t (q - 1 - t)) (q - 1 - t) (redN q d po g t) (d + 1) i
    unfold redI
    rw [e1 i hi, e1 (q - 1 - t) (by omega)]
theorem zrB_congr {f g : Nat → Int32} {q : Nat} (hq2 : q ≤ 24) (e : ∀ i, i < 24 → f i = g i) : zrB f q = zrB g q := by
  unfold zrB
  rw [decide_eq_decide]
  exact ⟨fun z i hi => (e i (by omega)).symm.trans (z i hi), fun z i hi => (e i (by omega)).trans (z i hi)⟩
def stA (q t w : Nat) (ci co tu : Nat → Int32) (x : Int32) (b : Bool) (k : Nat) (f : Nat → Int32) : Nat → Int32 := if b = true then rwA ((t * tn (ci k) + w) % q) ((t * tn (co k) + w) % q) (x * tu k) f else f
theorem stA_t {q t w : Nat} {ci co tu : Nat → Int32} {x : Int32} {b : Bool} {k : Nat} {f : Nat → Int32} (h : b = true) : stA q t w ci co tu x b k f = rwA ((t * tn (ci k) + w) % q) ((t * tn (co k) + w) % q) (x * tu k) f := if_pos h
theorem stA_f {q t w : Nat} {ci co tu : Nat → Int32} {x : Int32} {b : Bool} {k : Nat} {f : Nat → Int32} (h : b = false) : stA q t w ci co tu x b k f = f := if_neg (by rw [h]; decide)
theorem stA_congr {q t w : Nat} {ci co tu : Nat → Int32} {x : Int32} {b : Bool} {k : Nat} {f g : Nat → Int32} (hq1 : 3 ≤ q) (hq2 : q ≤ 24) (e : ∀ i, i < 24 → f i = g i) : ∀ i, i < 24 → stA q t w ci co tu x b k f i = stA q t w ci co tu x b k g i := by
  intro i hi
  unfold stA
  split
  · exact rwA_congr (Nat.lt_of_lt_of_le (Nat.mod_lt _ (by omega)) hq2) (Nat.lt_of_lt_of_le (Nat.mod_lt _ (by omega)) hq2) e i hi
  · exact e i hi
/-- the row of the first coils that U names -/
def wrS (q t : Nat) (ci co tu : Nat → Int32) (U : Nat → Bool) (f0 : Nat → Int32) : Nat → Nat → Int32
  | 0 => f0
  | k + 1 => stA q t 0 ci co tu (nI 1) (U k) k (wrS q t ci co tu U f0 k)
def blS (q t w : Nat) (ci co tu : Nat → Int32) (U V : Nat → Bool) (f0 : Nat → Int32) : Nat → Nat → Int32
  | 0 => f0
  | k + 1 => stA q t w ci co tu (zI (-1)) (V k) k (stA q t 0 ci co tu (nI 1) (U k) k (blS q t w ci co tu U V f0 k))
theorem wrS_congr {q t : Nat} {ci co tu : Nat → Int32} {U : Nat → Bool} {f g : Nat → Int32} (hq1 : 3 ≤ q) (hq2 : q ≤ 24) (e : ∀ i, i < 24 → f i = g i) : ∀ k i, i < 24 → wrS q t ci co tu U f k i = wrS q t ci co tu U g k i
  | 0 => e
  | k + 1 => stA_congr hq1 hq2 (wrS_congr hq1 hq2 e k)
theorem blS_congr {q t w : Nat} {ci co tu : Nat → Int32} {U V : Nat → Bool} {f g : Nat → Int32} (hq1 : 3 ≤ q) (hq2 : q ≤ 24) (e : ∀ i, i < 24 → f i = g i) : ∀ k i, i < 24 → blS q t w ci co tu U V f k i = blS q t w ci co tu U V g k i
  | 0 => e
  | k + 1 => stA_congr hq1 hq2 (stA_congr hq1 hq2 (blS_congr hq1 hq2 e k))
theorem zrK_zF {f : Nat → Int32} : ∀ i, i < 24 → zrK f 24 i = zF i := fun i hi => if_pos hi
def fwR (h : Mem) (q n d f t : Nat) : Nat → Int32 := redN q d (h 7) (wrS q t (h 2) (h 3) (h 4) (uin (h 1) (h 5) f) (zrK (h 12) 24) n) (q - d)
def fwZ (h : Mem) (q n d f t : Nat) : Nat → Int32 := redN q d (h 7) (wrS q t (h 2) (h 3) (h 4) (uin (h 1) (h 5) f) zF n) (q - d)
theorem fw_z {h : Mem} {q n d f t : Nat} (hq1 : 3 ≤ q) (hq2 : q ≤ 24) : ∀ i, i < 24 → fwR h q n d f t i = fwZ h q n d f t i := redN_congr hq1 hq2 (wrS_congr hq1 hq2 zrK_zF n) (q - d)
theorem fw_zB {h : Mem} {q n d f t : Nat} (hq1 : 3 ≤ q) (hq2 : q ≤ 24) : zrB (fwR h q n d f t) q = zrB (fwZ h q n d f t) q := zrB_congr hq2 (fw_z hq1 hq2)
def alB (P : Nat → Bool) (k : Nat) : Bool := decide (∀ i, i < k → P i = true)
theorem alB_t {P : Nat → Bool} {k : Nat} : alB P k = true ↔ ∀ i, i < k → P i = true := decide_eq_true_iff
theorem alB_0 (P : Nat → Bool) : alB P 0 = true := alB_t.mpr (fun i hi => absurd hi (Nat.not_lt_zero i))
theorem alB_le {P : Nat → Bool} {a b : Nat} (h : a ≤ b) (z : alB P b = true) : alB P a = true := alB_t.mpr (fun i hi => alB_t.mp z i (by omega))
theorem alB_s {P : Nat → Bool} {k : Nat} {b : Bool} (e : b = P k) (z : alB P k = true) : b = true ↔ alB P (k + 1) = true := by
  rw [e]
  exact ⟨fun y => alB_t.mpr (fun i hi => (Nat.lt_succ_iff_lt_or_eq.mp hi).elim (alB_t.mp z i) (fun x => by rw [x]; exact y)), fun y => alB_t.mp y k (by omega)⟩
def blG (h : Mem) (q n d t s f : Nat) : Bool := zrB (redN q d (h 7) (blS q t (t * f * s % q) (h 2) (h 3) (h 4) (uin (h 1) (h 5) f) (uin (h 1) (h 5) 0) zF n) (q - d)) q
def tzB (h : Mem) (q n d t : Nat) : Bool := zrB (redN q d (h 7) (wrS q t (h 2) (h 3) (h 4) (fun k => decide (h 5 k = nI 1)) zF n) (q - d)) q
theorem blG_eq {h : Mem} {q n d t s f k : Nat} {R : Nat → Int32} (hq1 : 3 ≤ q) (hq2 : q ≤ 24) (e : k = n) : zrB (redN q d (h 7) (blS q t (t * f * s % q) (h 2) (h 3) (h 4) (uin (h 1) (h 5) f) (uin (h 1) (h 5) 0) (zrK R 24) k) (q - d)) q = blG h q n d t s f := by
  subst e
  exact zrB_congr hq2 (redN_congr hq1 hq2 (blS_congr hq1 hq2 zrK_zF k) (q - d))
theorem tzB_eq {h : Mem} {q n d t k : Nat} {R : Nat → Int32} (hq1 : 3 ≤ q) (hq2 : q ≤ 24) (e : k = n) : zrB (redN q d (h 7) (wrS q t (h 2) (h 3) (h 4) (fun k => decide (h 5 k = nI 1)) (zrK R 24) k) (q - d)) q = tzB h q n d t := by
  subst e
  exact zrB_congr hq2 (redN_congr hq1 hq2 (wrS_congr hq1 hq2 zrK_zF k) (q - d))
def balP (h : Mem) (q m n d t s : Nat) : Bool := alB (blG h q n d t s) m && (decide (m = 1) || tzB h q n d t)
theorem balP_a {h : Mem} {q m n d t s : Nat} (z : balP h q m n d t s = true) : alB (blG h q n d t s) m = true := by
  unfold balP at z; rw [Bool.and_eq_true] at z; exact z.1
theorem balP_b {h : Mem} {q m n d t s : Nat} (z : balP h q m n d t s = true) (n1 : ¬ m = 1) : tzB h q n d t = true := by
  unfold balP at z; rw [Bool.and_eq_true, Bool.or_eq_true, decide_eq_true_iff] at z; exact z.2.resolve_left n1
theorem balP_m {h : Mem} {q m n d t s : Nat} (z : alB (blG h q n d t s) m = true) (y : m = 1 ∨ tzB h q n d t = true) : balP h q m n d t s = true := by
  unfold balP; rw [Bool.and_eq_true, Bool.or_eq_true, decide_eq_true_iff]; exact ⟨z, y⟩
set_option maxHeartbeats 1000000 in
set_option maxRecDepth 100000 in
theorem c_M_findWave (h : Mem) (q p m n d : Nat) (C : MC h q p m n d) (f t : Nat) (hf : f < 1000) (ht : t ≤ 47) : cV 25 ML yX9_findWave cX9_findWave 4 1 27 (fun ad => [.ref (ad (0)), .int (nI (f)), .int (nI (t))]) h (fun h2 => h2 = mrow h 12 (fwR h q n d f t)) := by
  refine cV_of MLW (by decide +kernel) (fun ad => Nat.le_of_ble_eq_true rfl) ?_
  intro K X Z
  obtain ⟨hq, hp, hm, hq1, hq2, hp1, hp2, hm1, hm2, hn, hn2, hc, hd, hd1, hd2⟩ := id C
  show G 25 ML 4 K h 0 [(0, .ref (kad K (0))), (1, .int (nI (f))), (2, .int (nI (t)))] []
  refine g_aload_n X dX9_findWave_0 1 rfl rfl ?_
  refine g_get (c := 0) (k := 16) (T := TX9) (sk := skM0) (v := .ref (kad K (12))) X wf_X9_54 inX9 dX9_findWave_1 4 rfl (by decide) rfl rfl (by decide) rfl ?_
  refine g_callSvx (st := []) (m2 := (mrow h 12 (zrK (h 12) 24))) X cw_X9_139 (c_M_clearRow12 h) dX9_findWave_4 7 rfl rfl rfl rfl (by decide) (Nat.le_of_ble_eq_true rfl) ?_
  refine g_iconst X dX9_findWave_7 8 rfl (v := (nI (0))) rfl ?_
  refine g_istore_n X (lv' := [(0, .ref (kad K (0))), (1, .int (nI (f))), (2, .int (nI (t))), (3, .int (nI 0))]) dX9_findWave_8 9 rfl (by decide) rfl rfl ?_
  have lp9 : ∀ (fu : Nat) (k : Nat) (hk : k ≤ n), n - k < fu → G 25 ML 4 K (mrow h 12 (wrS q t (h 2) (h 3) (h 4) (uin (h 1) (h 5) f) (zrK (h 12) 24) k)) 9 [(0, .ref (kad K (0))), (1, .int (nI (f))), (2, .int (nI (t))), (3, .int (nI (k)))] [] := by
    intro fu
    induction fu with
    | zero => intro k hk hm; exact absurd hm (Nat.not_lt_zero _)
    | succ fu ih9 =>
      intro k hk hm9
      refine g_iload_n X dX9_findWave_9 10 rfl rfl ?_
      refine g_aload_n X dX9_findWave_10 11 rfl rfl ?_
      refine g_get (c := 0) (k := 3) (T := TX9) (sk := skM0) (v := .int (nI (n))) X wf_X9_116 inX9 dX9_findWave_11 14 rfl (by decide) rfl rfl (by decide) (congrArg Value.int (hn)) ?_
      refine g_icmp_ge X ((k : Nat) : Int) ((n : Nat) : Int) dX9_findWave_14 54 (by decide) 17 rfl (nI_toInt (by omega)) (nI_toInt (by omega)) (fun t14 => ?_) (fun f14 => ?_)
      · skip
        refine g_aload_n X dX9_findWave_54 55 rfl rfl ?_
        refine g_aload_n X dX9_findWave_55 56 rfl rfl ?_
        refine g_get (c := 0) (k := 16) (T := TX9) (sk := skM0) (v := .ref (kad K (12))) X wf_X9_54 inX9 dX9_findWave_56 59 rfl (by decide) rfl rfl (by decide) rfl ?_
        refine g_callVvx (st := []) (m2 := (mrow (mrow h 12 (wrS q t (h 2) (h 3) (h 4) (uin (h 1) (h 5) f) (zrK (h 12) 24) k)) 12 (redN q d ((mrow h 12 (wrS q t (h 2) (h 3) (h 4) (uin (h 1) (h 5) f) (zrK (h 12) 24) k)) 7) ((mrow h 12 (wrS q t (h 2) (h 3) (h 4) (uin (h 1) (h 5) f) (zrK (h 12) 24) k)) 12) (q - d)))) X cw_X9_147 (c_M_reduce12 (mrow h 12 (wrS q t (h 2) (h 3) (h 4) (uin (h 1) (h 5) f) (zrK (h 12) 24) k)) q d (by exact hq) (by exact hd) hq1 hq2 hd1 hd2) dX9_findWave_59 62 rfl (by decide) rfl rfl rfl rfl rfl (by decide) (Nat.le_of_ble_eq_true rfl) ?_
        refine g_vret (h := (mrow (mrow h 12 (wrS q t (h 2) (h 3) (h 4) (uin (h 1) (h 5) f) (zrK (h 12) 24) k)) 12 (redN q d ((mrow h 12 (wrS q t (h 2) (h 3) (h 4) (uin (h 1) (h 5) f) (zrK (h 12) 24) k)) 7) ((mrow h 12 (wrS q t (h 2) (h 3) (h 4) (uin (h 1) (h 5) f) (zrK (h 12) 24) k)) 12) (q - d)))) X Z dX9_findWave_62 ?_
        exact by rw [mrow_m, show k = n from by omega]; rfl
      · skip
        refine g_aload_n X dX9_findWave_17 18 rfl rfl ?_
        refine g_get (c := 0) (k := 8) (T := TX9) (sk := skM0) (v := .ref (kad K (5))) X wf_X9_32 inX9 dX9_findWave_18 21 rfl (by decide) rfl rfl (by decide) rfl ?_
        refine g_iload_n X dX9_findWave_21 22 rfl rfl ?_
        refine g_zald (c := 5) (n := 24) (r := 5) (o := 0) (i := k) (v := (bI (h 5 k = nI 1))) X dX9_findWave_22 23 rfl (by decide) rfl rfl (by omega) (us_b (hc k (by omega)).us) ?_
        refine g_ifeq_B X dX9_findWave_23 48 (by decide) 26 rfl (fun t23 => ?_) (fun f23 => ?_)
        · skip
          refine g_iinc X (v := (nI (k + 1))) (lv' := [(0, .ref (kad K (0))), (1, .int (nI (f))), (2, .int (nI (t))), (3, .int (nI (k + 1)))]) dX9_findWave_48 51 rfl (by decide) rfl (n_inc k 1) rfl rfl ?_
          refine g_goto X dX9_findWave_51 9 (by decide) ?_
          skip
          refine g_mem (h := (mrow h 12 (wrS q t (h 2) (h 3) (h 4) (uin (h 1) (h 5) f) (zrK (h 12) 24) k))) (h' := (mrow h 12 (wrS q t (h 2) (h 3) (h 4) (uin (h 1) (h 5) f) (zrK (h 12) 24) (k + 1)))) (congrArg (mrow h 12) (stA_f (by simp [uin, t23])).symm) ?_
          exact ih9 (k + 1) (by omega) (by omega)
        · skip
          have hph := (hc k (by omega)).ph.2
          refine g_aload_n X dX9_findWave_26 27 rfl rfl ?_
          refine g_get (c := 0) (k := 4) (T := TX9) (sk := skM0) (v := .ref (kad K (1))) X wf_X9_19 inX9 dX9_findWave_27 30 rfl (by decide) rfl rfl (by decide) rfl ?_
          refine g_iload_n X dX9_findWave_30 31 rfl rfl ?_
          refine g_iald (c := 1) (n := 24) (r := 1) (o := 0) (i := k) (v := (nI (tn (h 1 k)))) X dX9_findWave_31 32 rfl (by decide) rfl rfl (by omega) ((hc k (by omega)).ph.1) ?_
          refine g_iload_n X dX9_findWave_32 33 rfl rfl ?_
          refine g_icmp_ne X ((tn (h 1 k) : Nat) : Int) ((f : Nat) : Int) dX9_findWave_33 48 (by decide) 36 rfl (nI_toInt (by omega)) (nI_toInt (by omega)) (fun t33 => ?_) (fun f33 => ?_)
          · skip
            refine g_iinc X (v := (nI (k + 1))) (lv' := [(0, .ref (kad K (0))), (1, .int (nI (f))), (2, .int (nI (t))), (3, .int (nI (k + 1)))]) dX9_findWave_48 51 rfl (by decide) rfl (n_inc k 1) rfl rfl ?_
            refine g_goto X dX9_findWave_51 9 (by decide) ?_
            skip
            refine g_mem (h := (mrow h 12 (wrS q t (h 2) (h 3) (h 4) (uin (h 1) (h 5) f) (zrK (h 12) 24) k))) (h' := (mrow h 12 (wrS q t (h 2) (h 3) (h 4) (uin (h 1) (h 5) f) (zrK (h 12) 24) (k + 1)))) (congrArg (mrow h 12) (stA_f (by simp [uin, f23]; omega)).symm) ?_
            exact ih9 (k + 1) (by omega) (by omega)
          · skip
            refine g_aload_n X dX9_findWave_36 37 rfl rfl ?_
            refine g_aload_n X dX9_findWave_37 38 rfl rfl ?_
            refine g_get (c := 0) (k := 16) (T := TX9) (sk := skM0) (v := .ref (kad K (12))) X wf_X9_54 inX9 dX9_findWave_38 41 rfl (by decide) rfl rfl (by decide) rfl ?_
            refine g_iload_n X dX9_findWave_41 42 rfl rfl ?_
            refine g_iload_n X dX9_findWave_42 43 rfl rfl ?_
            refine g_iconst X dX9_findWave_43 44 rfl (v := (nI (0))) rfl ?_
            refine g_iconst X dX9_findWave_44 45 rfl (v := (nI (1))) rfl ?_
            refine g_callVvx (st := []) (m2 := (mrow (mrow h 12 (wrS q t (h 2) (h 3) (h 4) (uin (h 1) (h 5) f) (zrK (h 12) 24) k)) 12 (rwA ((t * tn ((mrow h 12 (wrS q t (h 2) (h 3) (h 4) (uin (h 1) (h 5) f) (zrK (h 12) 24) k)) 2 k) + 0) % q) ((t * tn ((mrow h 12 (wrS q t (h 2) (h 3) (h 4) (uin (h 1) (h 5) f) (zrK (h 12) 24) k)) 3 k) + 0) % q) ((nI (1)) * (mrow h 12 (wrS q t (h 2) (h 3) (h 4) (uin (h 1) (h 5) f) (zrK (h 12) 24) k)) 4 k) ((mrow h 12 (wrS q t (h 2) (h 3) (h 4) (uin (h 1) (h 5) f) (zrK (h 12) 24) k)) 12)))) X cw_X9_143 (c_M_addCoil12 (mrow h 12 (wrS q t (h 2) (h 3) (h 4) (uin (h 1) (h 5) f) (zrK (h 12) 24) k)) q m n k t 0 (nI (1)) (by exact hq) hq1 hq2 hn2 (by exact hc) (by omega) (by omega) (by omega)) dX9_findWave_45 48 rfl (by decide) rfl rfl rfl rfl rfl (by decide) (Nat.le_of_ble_eq_true rfl) ?_
            refine g_iinc X (v := (nI (k + 1))) (lv' := [(0, .ref (kad K (0))), (1, .int (nI (f))), (2, .int (nI (t))), (3, .int (nI (k + 1)))]) dX9_findWave_48 51 rfl (by decide) rfl (n_inc k 1) rfl rfl ?_
            refine g_goto X dX9_findWave_51 9 (by decide) ?_
            skip
            refine g_mem (h := (mrow (mrow h 12 (wrS q t (h 2) (h 3) (h 4) (uin (h 1) (h 5) f) (zrK (h 12) 24) k)) 12 (rwA ((t * tn ((mrow h 12 (wrS q t (h 2) (h 3) (h 4) (uin (h 1) (h 5) f) (zrK (h 12) 24) k)) 2 k) + 0) % q) ((t * tn ((mrow h 12 (wrS q t (h 2) (h 3) (h 4) (uin (h 1) (h 5) f) (zrK (h 12) 24) k)) 3 k) + 0) % q) ((nI (1)) * (mrow h 12 (wrS q t (h 2) (h 3) (h 4) (uin (h 1) (h 5) f) (zrK (h 12) 24) k)) 4 k) ((mrow h 12 (wrS q t (h 2) (h 3) (h 4) (uin (h 1) (h 5) f) (zrK (h 12) 24) k)) 12)))) (h' := (mrow h 12 (wrS q t (h 2) (h 3) (h 4) (uin (h 1) (h 5) f) (zrK (h 12) 24) (k + 1)))) (by rw [mrow_m]; exact congrArg (mrow h 12) (stA_t (by simp [uin, f23]; omega)).symm) ?_
            exact ih9 (k + 1) (by omega) (by omega)
  skip
  refine g_mem (h := (mrow h 12 (zrK (h 12) 24))) (h' := (mrow h 12 (wrS q t (h 2) (h 3) (h 4) (uin (h 1) (h 5) f) (zrK (h 12) 24) 0))) rfl ?_
  exact lp9 _ 0 (by omega) (Nat.lt_succ_self _)
set_option maxHeartbeats 1000000 in
set_option maxRecDepth 100000 in
theorem c_M_isStillAt (h : Mem) (q p m n d : Nat) (C : MC h q p m n d) (f t : Nat) (hf : f < 1000) (ht : t ≤ 47) : cI 25 ML yX9_isStillAt cX9_isStillAt 3 (some .boolean) 2 50 (fun ad => [.ref (ad (0)), .int (nI (f)), .int (nI (t))]) h (fun r h2 => r = bI (zrB (fwZ h q n d f t) q = true) ∧ h2 = mrow h 12 (fwR h q n d f t)) := by
  refine cI_of MLW (by decide +kernel) (fun ad => Nat.le_of_ble_eq_true rfl) ?_
  intro K X Z
  obtain ⟨hq, hp, hm, hq1, hq2, hp1, hp2, hm1, hm2, hn, hn2, hc, hd, hd1, hd2⟩ := id C
  show G 25 ML 3 K h 0 [(0, .ref (kad K (0))), (1, .int (nI (f))), (2, .int (nI (t)))] []
  refine g_aload_n X dX9_isStillAt_0 1 rfl rfl ?_
  refine g_iload_n X dX9_isStillAt_1 2 rfl rfl ?_
  refine g_iload_n X dX9_isStillAt_2 3 rfl rfl ?_
  refine g_callVvx (st := []) (m2 := (mrow h 12 (fwR h q n d f t))) X cw_X9_157 (c_M_findWave h q p m n d (by exact C) f t (by omega) (by omega)) dX9_isStillAt_3 6 rfl (by decide) rfl rfl rfl rfl rfl (by decide) (Nat.le_of_ble_eq_true rfl) ?_
  refine g_aload_n X dX9_isStillAt_6 7 rfl rfl ?_
  refine g_aload_n X dX9_isStillAt_7 8 rfl rfl ?_
  refine g_get (c := 0) (k := 16) (T := TX9) (sk := skM0) (v := .ref (kad K (12))) X wf_X9_54 inX9 dX9_isStillAt_8 11 rfl (by decide) rfl rfl (by decide) rfl ?_
  refine g_callVix (st := []) (v := (bI (zrB ((mrow h 12 (fwR h q n d f t)) 12) q = true))) (m2 := (mrow h 12 (fwR h q n d f t))) X cw_X9_161 (c_M_isZero12 (mrow h 12 (fwR h q n d f t)) q (by exact hq) hq2) dX9_isStillAt_11 14 rfl (by decide) rfl rfl rfl rfl rfl (by decide) (Nat.le_of_ble_eq_true rfl) ?_
  refine g_zret (h := (mrow h 12 (fwR h q n d f t))) (v := (bI (zrB ((mrow h 12 (fwR h q n d f t)) 12) q = true))) X Z dX9_isStillAt_14 (bI_01 _) ?_
  exact ⟨bI_c (by rw [← fw_zB hq1 hq2]; exact Iff.rfl), rfl⟩
set_option maxHeartbeats 1000000 in
set_option maxRecDepth 100000 in
theorem c_M_isStill (h : Mem) (q p m n d : Nat) (II : MI h q p m n d) (x0 x1 : Int32) : cI 25 ML yX9_isStill cX9_isStill 3 (some .int) 3 72 (fun ad => [.ref (ad (0)), .int (x0), .int (x1)]) h (fun r h2 => r = (if (isC m x0 ∧ (1 ≤ x1.toInt ∧ x1.toInt ≤ 47)) then bI (zrB (fwZ h q n d (tn x0) (tn x1)) q = true) else zI (-1)) ∧ agr h h2 [12]) := by
  refine cI_of MLW (by decide +kernel) (fun ad => Nat.le_of_ble_eq_true rfl) ?_
  intro K X Z
  obtain ⟨C, hsA, hsB, hpol, hdq, ⟨tz, htz, hto⟩, ⟨pz, hpz, hpk⟩, hshe⟩ := id II
  obtain ⟨hq, hp, hm, hq1, hq2, hp1, hp2, hm1, hm2, hn, hn2, hc, hd, hd1, hd2⟩ := id C
  show G 25 ML 3 K h 0 [(0, .ref (kad K (0))), (1, .int (x0)), (2, .int (x1))] []
  refine g_iload_n X dX9_isStill_0 1 rfl rfl ?_
  refine g_i2l X (v := (x0).toInt64) dX9_isStill_1 2 rfl rfl ?_
  refine g_lconst X dX9_isStill_2 3 rfl (v := (0 : Int64)) rfl ?_
  refine g_aload_n X dX9_isStill_3 4 rfl rfl ?_
  refine g_get (c := 0) (k := 2) (T := TX9) (sk := skM0) (v := .int (nI (m))) X wf_X9_16 inX9 dX9_isStill_4 7 rfl (by decide) rfl rfl (by decide) (congrArg Value.int (hm)) ?_
  refine g_iconst X dX9_isStill_7 8 rfl (v := (nI (1))) rfl ?_
  refine g_isub X (v := (zI (((m : Nat) : Int) - ((1 : Nat) : Int)))) dX9_isStill_8 9 rfl (nn_sub m 1) ?_
  refine g_i2l X (v := (zI (((m : Nat) : Int) - ((1 : Nat) : Int))).toInt64) dX9_isStill_9 10 rfl rfl ?_
  refine g_callSix (st := []) (v := (bI (0 ≤ (x0).toInt ∧ (x0).toInt ≤ ((m : Nat) : Int) - ((1 : Nat) : Int)))) (m2 := h) X cw_X9_100 (c_M_in h ((x0).toInt64) (0 : Int64) ((zI (((m : Nat) : Int) - ((1 : Nat) : Int))).toInt64) ((x0).toInt) 0 (((m : Nat) : Int) - ((1 : Nat) : Int)) (i64_of rfl) rfl (i64_of (zI_toInt (by omega)))) dX9_isStill_10 13 rfl rfl rfl rfl (by decide) (Nat.le_of_ble_eq_true rfl) ?_
  refine g_ifeq_B X dX9_isStill_13 23 (by decide) 16 rfl (fun t13 => ?_) (fun f13 => ?_)
  · skip
    refine g_iconst X dX9_isStill_23 24 rfl (v := (zI (-1))) rfl ?_
    refine g_goto X dX9_isStill_24 41 (by decide) ?_
    refine g_iret (h := h) (v := (zI (-1))) X Z dX9_isStill_41 ?_
    exact ⟨(if_neg (fun z => t13 z.1)).symm, fun _ _ => rfl⟩
  · skip
    refine g_iload_n X dX9_isStill_16 17 rfl rfl ?_
    refine g_callSix (st := []) (v := (bI (1 ≤ (x1).toInt ∧ (x1).toInt ≤ 47))) (m2 := h) X cw_X9_152 (c_M_isTone h (x1) ((x1).toInt) rfl) dX9_isStill_17 20 rfl rfl rfl rfl (by decide) (Nat.le_of_ble_eq_true rfl) ?_
    refine g_ifne_B X dX9_isStill_20 27 (by decide) 23 rfl (fun t20 => ?_) (fun f20 => ?_)
    · skip
      obtain ⟨f, hf, rfl⟩ := inR_nat f13
      obtain ⟨t, ht0, ht1, rfl⟩ := inR_3 (a := 1) (b := 47) t20
      have ef : tn (nI f) = f := tn_nI (by omega)
      have et : tn (nI t) = t := tn_nI (by omega)
      refine g_aload_n X dX9_isStill_27 28 rfl rfl ?_
      refine g_iload_n X dX9_isStill_28 29 rfl rfl ?_
      refine g_iload_n X dX9_isStill_29 30 rfl rfl ?_
      refine g_callVix (st := []) (v := (bI (zrB (fwZ h q n d f t) q = true))) (m2 := (mrow h 12 (fwR h q n d f t))) X cw_X9_165 (c_M_isStillAt h q p m n d (by exact C) f t (by omega) (by omega)) dX9_isStill_30 33 rfl (by decide) rfl rfl rfl rfl rfl (by decide) (Nat.le_of_ble_eq_true rfl) ?_
      refine g_ifeq_B X dX9_isStill_33 40 (by decide) 36 rfl (fun t33 => ?_) (fun f33 => ?_)
      · skip
        refine g_iconst X dX9_isStill_40 41 rfl (v := (nI (0))) rfl ?_
        refine g_iret (h := (mrow h 12 (fwR h q n d f t))) (v := (nI (0))) X Z dX9_isStill_41 ?_
        exact ⟨((if_pos ⟨f13, t20⟩).trans (by rw [ef, et]; exact bI_f t33)).symm, fun c hc9 => mrow_n _ _ (by simp at hc9; exact hc9)⟩
      · skip
        refine g_iconst X dX9_isStill_36 37 rfl (v := (nI (1))) rfl ?_
        refine g_goto X dX9_isStill_37 41 (by decide) ?_
        refine g_iret (h := (mrow h 12 (fwR h q n d f t))) (v := (nI (1))) X Z dX9_isStill_41 ?_
        exact ⟨((if_pos ⟨f13, t20⟩).trans (by rw [ef, et]; exact bI_t f33)).symm, fun c hc9 => mrow_n _ _ (by simp at hc9; exact hc9)⟩
    · skip
      refine g_iconst X dX9_isStill_23 24 rfl (v := (zI (-1))) rfl ?_
      refine g_goto X dX9_isStill_24 41 (by decide) ?_
      refine g_iret (h := h) (v := (zI (-1))) X Z dX9_isStill_41 ?_
      exact ⟨(if_neg (fun z => f20 z.2)).symm, fun _ _ => rfl⟩
set_option maxHeartbeats 1000000 in
set_option maxRecDepth 100000 in
theorem c_M_wave (h : Mem) (q p m n d : Nat) (II : MI h q p m n d) (x0 x1 x2 : Int32) : cI 25 ML yX9_wave cX9_wave 4 (some .int) 2 50 (fun ad => [.ref (ad (0)), .int (x0), .int (x1), .int (x2)]) h (fun r h2 => r = (if (isC m x0 ∧ (1 ≤ x1.toInt ∧ x1.toInt ≤ 47) ∧ isC d x2) then fwZ h q n d (tn x0) (tn x1) (tn x2) else (-100001)) ∧ agr h h2 [12]) := by
  refine cI_of MLW (by decide +kernel) (fun ad => Nat.le_of_ble_eq_true rfl) ?_
  intro K X Z
  obtain ⟨C, hsA, hsB, hpol, hdq, ⟨tz, htz, hto⟩, ⟨pz, hpz, hpk⟩, hshe⟩ := id II
  obtain ⟨hq, hp, hm, hq1, hq2, hp1, hp2, hm1, hm2, hn, hn2, hc, hd, hd1, hd2⟩ := id C
  show G 25 ML 4 K h 0 [(0, .ref (kad K (0))), (1, .int (x0)), (2, .int (x1)), (3, .int (x2))] []
  refine g_iload_n X dX9_wave_0 1 rfl rfl ?_
  refine g_i2l X (v := (x0).toInt64) dX9_wave_1 2 rfl rfl ?_
  refine g_lconst X dX9_wave_2 3 rfl (v := (0 : Int64)) rfl ?_
  refine g_aload_n X dX9_wave_3 4 rfl rfl ?_
  refine g_get (c := 0) (k := 2) (T := TX9) (sk := skM0) (v := .int (nI (m))) X wf_X9_16 inX9 dX9_wave_4 7 rfl (by decide) rfl rfl (by decide) (congrArg Value.int (hm)) ?_
  refine g_iconst X dX9_wave_7 8 rfl (v := (nI (1))) rfl ?_
  refine g_isub X (v := (zI (((m : Nat) : Int) - ((1 : Nat) : Int)))) dX9_wave_8 9 rfl (nn_sub m 1) ?_
  refine g_i2l X (v := (zI (((m : Nat) : Int) - ((1 : Nat) : Int))).toInt64) dX9_wave_9 10 rfl rfl ?_
  refine g_callSix (st := []) (v := (bI (0 ≤ (x0).toInt ∧ (x0).toInt ≤ ((m : Nat) : Int) - ((1 : Nat) : Int)))) (m2 := h) X cw_X9_100 (c_M_in h ((x0).toInt64) (0 : Int64) ((zI (((m : Nat) : Int) - ((1 : Nat) : Int))).toInt64) ((x0).toInt) 0 (((m : Nat) : Int) - ((1 : Nat) : Int)) (i64_of rfl) rfl (i64_of (zI_toInt (by omega)))) dX9_wave_10 13 rfl rfl rfl rfl (by decide) (Nat.le_of_ble_eq_true rfl) ?_
  refine g_ifeq_B X dX9_wave_13 39 (by decide) 16 rfl (fun t13 => ?_) (fun f13 => ?_)
  · skip
    refine g_ldc X (v := (-100001)) dX9_wave_39 41 rfl wk_X9_156 ?_
    refine g_iret (h := h) (v := ((-100001 : Int32))) X Z dX9_wave_41 ?_
    exact ⟨(if_neg (fun z => t13 z.1)).symm, fun _ _ => rfl⟩
  · skip
    refine g_iload_n X dX9_wave_16 17 rfl rfl ?_
    refine g_callSix (st := []) (v := (bI (1 ≤ (x1).toInt ∧ (x1).toInt ≤ 47))) (m2 := h) X cw_X9_152 (c_M_isTone h (x1) ((x1).toInt) rfl) dX9_wave_17 20 rfl rfl rfl rfl (by decide) (Nat.le_of_ble_eq_true rfl) ?_
    refine g_ifeq_B X dX9_wave_20 39 (by decide) 23 rfl (fun t20 => ?_) (fun f20 => ?_)
    · skip
      refine g_ldc X (v := (-100001)) dX9_wave_39 41 rfl wk_X9_156 ?_
      refine g_iret (h := h) (v := ((-100001 : Int32))) X Z dX9_wave_41 ?_
      exact ⟨(if_neg (fun z => t20 z.2.1)).symm, fun _ _ => rfl⟩
    · skip
      refine g_iload_n X dX9_wave_23 24 rfl rfl ?_
      refine g_i2l X (v := (x2).toInt64) dX9_wave_24 25 rfl rfl ?_
      refine g_lconst X dX9_wave_25 26 rfl (v := (0 : Int64)) rfl ?_
      refine g_aload_n X dX9_wave_26 27 rfl rfl ?_
      refine g_get (c := 0) (k := 10) (T := TX9) (sk := skM0) (v := .int (nI (d))) X wf_X9_129 inX9 dX9_wave_27 30 rfl (by decide) rfl rfl (by decide) (congrArg Value.int (hd)) ?_
      refine g_iconst X dX9_wave_30 31 rfl (v := (nI (1))) rfl ?_
      refine g_isub X (v := (zI (((d : Nat) : Int) - ((1 : Nat) : Int)))) dX9_wave_31 32 rfl (nn_sub d 1) ?_
      refine g_i2l X (v := (zI (((d : Nat) : Int) - ((1 : Nat) : Int))).toInt64) dX9_wave_32 33 rfl rfl ?_
      refine g_callSix (st := []) (v := (bI (0 ≤ (x2).toInt ∧ (x2).toInt ≤ ((d : Nat) : Int) - ((1 : Nat) : Int)))) (m2 := h) X cw_X9_100 (c_M_in h ((x2).toInt64) (0 : Int64) ((zI (((d : Nat) : Int) - ((1 : Nat) : Int))).toInt64) ((x2).toInt) 0 (((d : Nat) : Int) - ((1 : Nat) : Int)) (i64_of rfl) rfl (i64_of (zI_toInt (by omega)))) dX9_wave_33 36 rfl rfl rfl rfl (by decide) (Nat.le_of_ble_eq_true rfl) ?_
      refine g_ifne_B X dX9_wave_36 42 (by decide) 39 rfl (fun t36 => ?_) (fun f36 => ?_)
      · skip
        obtain ⟨f, hf, rfl⟩ := inR_nat f13
        obtain ⟨t, ht0, ht1, rfl⟩ := inR_3 (a := 1) (b := 47) f20
        have ef : tn (nI f) = f := tn_nI (by omega)
        have et : tn (nI t) = t := tn_nI (by omega)
        obtain ⟨i, hi, rfl⟩ := inR_nat t36
        have ei : tn (nI i) = i := tn_nI (by omega)
        refine g_aload_n X dX9_wave_42 43 rfl rfl ?_
        refine g_iload_n X dX9_wave_43 44 rfl rfl ?_
        refine g_iload_n X dX9_wave_44 45 rfl rfl ?_
        refine g_callVvx (st := []) (m2 := (mrow h 12 (fwR h q n d f t))) X cw_X9_157 (c_M_findWave h q p m n d (by exact C) f t (by omega) (by omega)) dX9_wave_45 48 rfl (by decide) rfl rfl rfl rfl rfl (by decide) (Nat.le_of_ble_eq_true rfl) ?_
        refine g_aload_n X dX9_wave_48 49 rfl rfl ?_
        refine g_get (c := 0) (k := 16) (T := TX9) (sk := skM0) (v := .ref (kad K (12))) X wf_X9_54 inX9 dX9_wave_49 52 rfl (by decide) rfl rfl (by decide) rfl ?_
        refine g_iload_n X dX9_wave_52 53 rfl rfl ?_
        refine g_iald (c := 12) (n := 24) (r := 12) (o := 0) (i := i) (v := ((mrow h 12 (fwR h q n d f t)) 12 i)) X dX9_wave_53 54 rfl (by decide) rfl rfl (by omega) rfl ?_
        refine g_iret (h := (mrow h 12 (fwR h q n d f t))) (v := ((mrow h 12 (fwR h q n d f t)) 12 i)) X Z dX9_wave_54 ?_
        exact ⟨((if_pos ⟨f13, f20, t36⟩).trans (by rw [ef, et, ei]; exact (fw_z hq1 hq2 i (by omega)).symm)).symm, fun c hc9 => mrow_n _ _ (by simp at hc9; exact hc9)⟩
      · skip
        refine g_ldc X (v := (-100001)) dX9_wave_39 41 rfl wk_X9_156 ?_
        refine g_iret (h := h) (v := ((-100001 : Int32))) X Z dX9_wave_41 ?_
        exact ⟨(if_neg (fun z => f36 z.2.2)).symm, fun _ _ => rfl⟩
set_option maxHeartbeats 1000000 in
set_option maxRecDepth 100000 in
theorem c_M_isBalanced (h : Mem) (q p m n d : Nat) (C : MC h q p m n d) (t s : Nat) (ht : t ≤ 47) (hs : s < 24) : cI 25 ML yX9_isBalanced cX9_isBalanced 6 (some .boolean) 1 27 (fun ad => [.ref (ad (0)), .int (nI (t)), .int (nI (s))]) h (fun r h2 => r = bI (balP h q m n d t s = true) ∧ ∃ R, h2 = mrow h 13 R) := by
  refine cI_of MLW (by decide +kernel) (fun ad => Nat.le_of_ble_eq_true rfl) ?_
  intro K X Z
  obtain ⟨hq, hp, hm, hq1, hq2, hp1, hp2, hm1, hm2, hn, hn2, hc, hd, hd1, hd2⟩ := id C
  show G 25 ML 6 K h 0 [(0, .ref (kad K (0))), (1, .int (nI (t))), (2, .int (nI (s)))] []
  refine g_iconst X dX9_isBalanced_0 1 rfl (v := (nI (1))) rfl ?_
  refine g_eq (st' := [.int (bI (alB (blG h q n d t s) 0 = true))]) rfl rfl (by rw [bI_t (alB_0 _)]) ?_
  refine g_istore_n X (lv' := [(0, .ref (kad K (0))), (1, .int (nI (t))), (2, .int (nI (s))), (3, .int (bI (alB (blG h q n d t s) 0 = true)))]) dX9_isBalanced_1 2 rfl (by decide) rfl rfl ?_
  refine g_iconst X dX9_isBalanced_2 3 rfl (v := (nI (0))) rfl ?_
  refine g_istore X (lv' := [(0, .ref (kad K (0))), (1, .int (nI (t))), (2, .int (nI (s))), (3, .int (bI (alB (blG h q n d t s) 0 = true))), (4, .int (nI 0))]) dX9_isBalanced_3 5 rfl (by decide) rfl rfl ?_
  have lp5 : ∀ (fu : Nat) (f : Nat) (R : Nat → Int32) (hf : f ≤ m), m - f < fu → G 25 ML 6 K (mrow h 13 R) 5 [(0, .ref (kad K (0))), (1, .int (nI (t))), (2, .int (nI (s))), (3, .int (bI (alB (blG h q n d t s) f = true))), (4, .int (nI (f)))] [] := by
    intro fu
    induction fu with
    | zero => intro f R hf hm; exact absurd hm (Nat.not_lt_zero _)
    | succ fu ih5 =>
      intro f R hf hm5
      refine g_iload X dX9_isBalanced_5 7 rfl rfl ?_
      refine g_aload_n X dX9_isBalanced_7 8 rfl rfl ?_
      refine g_get (c := 0) (k := 2) (T := TX9) (sk := skM0) (v := .int (nI (m))) X wf_X9_16 inX9 dX9_isBalanced_8 11 rfl (by decide) rfl rfl (by decide) (congrArg Value.int (hm)) ?_
      refine g_icmp_ge X ((f : Nat) : Int) ((m : Nat) : Int) dX9_isBalanced_11 144 (by decide) 14 rfl (nI_toInt (by omega)) (nI_toInt (by omega)) (fun t11 => ?_) (fun f11 => ?_)
      · skip
        have hfm : alB (blG h q n d t s) f = true ↔ alB (blG h q n d t s) m = true := by rw [show f = m from by omega]
        refine g_aload_n X dX9_isBalanced_144 145 rfl rfl ?_
        refine g_get (c := 0) (k := 17) (T := TX9) (sk := skM0) (v := .ref (kad K (13))) X wf_X9_57 inX9 dX9_isBalanced_145 148 rfl (by decide) rfl rfl (by decide) rfl ?_
        refine g_callSvx (st := []) (m2 := (mrow (mrow h 13 R) 13 (zrK ((mrow h 13 R) 13) 24))) X cw_X9_139 (c_M_clearRow13 (mrow h 13 R)) dX9_isBalanced_148 151 rfl rfl rfl rfl (by decide) (Nat.le_of_ble_eq_true rfl) ?_
        refine g_iconst X dX9_isBalanced_151 152 rfl (v := (nI (0))) rfl ?_
        refine g_istore X (lv' := [(0, .ref (kad K (0))), (1, .int (nI (t))), (2, .int (nI (s))), (3, .int (bI (alB (blG h q n d t s) f = true))), (4, .int (nI 0))]) dX9_isBalanced_152 154 rfl (by decide) rfl rfl ?_
        have lp154 : ∀ (fu : Nat) (k : Nat) (hk : k ≤ n), n - k < fu → G 25 ML 6 K (mrow h 13 (wrS q t (h 2) (h 3) (h 4) (fun b => decide (h 5 b = nI 1)) (zrK R 24) k)) 154 [(0, .ref (kad K (0))), (1, .int (nI (t))), (2, .int (nI (s))), (3, .int (bI (alB (blG h q n d t s) f = true))), (4, .int (nI (k)))] [] := by
          intro fu
          induction fu with
          | zero => intro k hk hm; exact absurd hm (Nat.not_lt_zero _)
          | succ fu ih154 =>
            intro k hk hm154
            refine g_iload X dX9_isBalanced_154 156 rfl rfl ?_
            refine g_aload_n X dX9_isBalanced_156 157 rfl rfl ?_
            refine g_get (c := 0) (k := 3) (T := TX9) (sk := skM0) (v := .int (nI (n))) X wf_X9_116 inX9 dX9_isBalanced_157 160 rfl (by decide) rfl rfl (by decide) (congrArg Value.int (hn)) ?_
            refine g_icmp_ge X ((k : Nat) : Int) ((n : Nat) : Int) dX9_isBalanced_160 192 (by decide) 163 rfl (nI_toInt (by omega)) (nI_toInt (by omega)) (fun t160 => ?_) (fun f160 => ?_)
            · skip
              refine g_aload_n X dX9_isBalanced_192 193 rfl rfl ?_
              refine g_aload_n X dX9_isBalanced_193 194 rfl rfl ?_
              refine g_get (c := 0) (k := 17) (T := TX9) (sk := skM0) (v := .ref (kad K (13))) X wf_X9_57 inX9 dX9_isBalanced_194 197 rfl (by decide) rfl rfl (by decide) rfl ?_
              refine g_callVvx (st := []) (m2 := (mrow (mrow h 13 (wrS q t (h 2) (h 3) (h 4) (fun b => decide (h 5 b = nI 1)) (zrK R 24) k)) 13 (redN q d ((mrow h 13 (wrS q t (h 2) (h 3) (h 4) (fun b => decide (h 5 b = nI 1)) (zrK R 24) k)) 7) ((mrow h 13 (wrS q t (h 2) (h 3) (h 4) (fun b => decide (h 5 b = nI 1)) (zrK R 24) k)) 13) (q - d)))) X cw_X9_147 (c_M_reduce13 (mrow h 13 (wrS q t (h 2) (h 3) (h 4) (fun b => decide (h 5 b = nI 1)) (zrK R 24) k)) q d (by exact hq) (by exact hd) hq1 hq2 hd1 hd2) dX9_isBalanced_197 200 rfl (by decide) rfl rfl rfl rfl rfl (by decide) (Nat.le_of_ble_eq_true rfl) ?_
              refine g_iload_n X dX9_isBalanced_200 201 rfl rfl ?_
              refine g_ifeq_B X dX9_isBalanced_201 227 (by decide) 204 rfl (fun t201 => ?_) (fun f201 => ?_)
              · skip
                refine g_iconst X dX9_isBalanced_227 228 rfl (v := (nI (0))) rfl ?_
                refine g_zret (h := (mrow (mrow h 13 (wrS q t (h 2) (h 3) (h 4) (fun b => decide (h 5 b = nI 1)) (zrK R 24) k)) 13 (redN q d ((mrow h 13 (wrS q t (h 2) (h 3) (h 4) (fun b => decide (h 5 b = nI 1)) (zrK R 24) k)) 7) ((mrow h 13 (wrS q t (h 2) (h 3) (h 4) (fun b => decide (h 5 b = nI 1)) (zrK R 24) k)) 13) (q - d)))) (v := (nI (0))) X Z dX9_isBalanced_228 (Or.inl rfl) ?_
                exact ⟨(bI_f (fun z => t201 (hfm.mpr (balP_a z)))).symm, _, (mrow_m _ _ _ _)⟩
              · skip
                refine g_aload_n X dX9_isBalanced_204 205 rfl rfl ?_
                refine g_get (c := 0) (k := 2) (T := TX9) (sk := skM0) (v := .int (nI (m))) X wf_X9_16 inX9 dX9_isBalanced_205 208 rfl (by decide) rfl rfl (by decide) (congrArg Value.int (hm)) ?_
                refine g_iconst X dX9_isBalanced_208 209 rfl (v := (nI (1))) rfl ?_
                refine g_icmp_eq X ((m : Nat) : Int) 1 dX9_isBalanced_209 223 (by decide) 212 rfl (nI_toInt (by omega)) rfl (fun t209 => ?_) (fun f209 => ?_)
                · skip
                  refine g_iconst X dX9_isBalanced_223 224 rfl (v := (nI (1))) rfl ?_
                  refine g_goto X dX9_isBalanced_224 228 (by decide) ?_
                  refine g_zret (h := (mrow (mrow h 13 (wrS q t (h 2) (h 3) (h 4) (fun b => decide (h 5 b = nI 1)) (zrK R 24) k)) 13 (redN q d ((mrow h 13 (wrS q t (h 2) (h 3) (h 4) (fun b => decide (h 5 b = nI 1)) (zrK R 24) k)) 7) ((mrow h 13 (wrS q t (h 2) (h 3) (h 4) (fun b => decide (h 5 b = nI 1)) (zrK R 24) k)) 13) (q - d)))) (v := (nI (1))) X Z dX9_isBalanced_228 (Or.inr rfl) ?_
                  exact ⟨(bI_t (balP_m (hfm.mp f201) (Or.inl (by omega)))).symm, _, (mrow_m _ _ _ _)⟩
                · skip
                  refine g_aload_n X dX9_isBalanced_212 213 rfl rfl ?_
                  refine g_aload_n X dX9_isBalanced_213 214 rfl rfl ?_
                  refine g_get (c := 0) (k := 17) (T := TX9) (sk := skM0) (v := .ref (kad K (13))) X wf_X9_57 inX9 dX9_isBalanced_214 217 rfl (by decide) rfl rfl (by decide) rfl ?_
                  refine g_callVix (st := []) (v := (bI (zrB ((mrow (mrow h 13 (wrS q t (h 2) (h 3) (h 4) (fun b => decide (h 5 b = nI 1)) (zrK R 24) k)) 13 (redN q d ((mrow h 13 (wrS q t (h 2) (h 3) (h 4) (fun b => decide (h 5 b = nI 1)) (zrK R 24) k)) 7) ((mrow h 13 (wrS q t (h 2) (h 3) (h 4) (fun b => decide (h 5 b = nI 1)) (zrK R 24) k)) 13) (q - d))) 13) q = true))) (m2 := (mrow (mrow h 13 (wrS q t (h 2) (h 3) (h 4) (fun b => decide (h 5 b = nI 1)) (zrK R 24) k)) 13 (redN q d ((mrow h 13 (wrS q t (h 2) (h 3) (h 4) (fun b => decide (h 5 b = nI 1)) (zrK R 24) k)) 7) ((mrow h 13 (wrS q t (h 2) (h 3) (h 4) (fun b => decide (h 5 b = nI 1)) (zrK R 24) k)) 13) (q - d)))) X cw_X9_161 (c_M_isZero13 (mrow (mrow h 13 (wrS q t (h 2) (h 3) (h 4) (fun b => decide (h 5 b = nI 1)) (zrK R 24) k)) 13 (redN q d ((mrow h 13 (wrS q t (h 2) (h 3) (h 4) (fun b => decide (h 5 b = nI 1)) (zrK R 24) k)) 7) ((mrow h 13 (wrS q t (h 2) (h 3) (h 4) (fun b => decide (h 5 b = nI 1)) (zrK R 24) k)) 13) (q - d))) q (by exact hq) hq2) dX9_isBalanced_217 220 rfl (by decide) rfl rfl rfl rfl rfl (by decide) (Nat.le_of_ble_eq_true rfl) ?_
                  refine g_ifeq_B X dX9_isBalanced_220 227 (by decide) 223 rfl (fun t220 => ?_) (fun f220 => ?_)
                  · skip
                    refine g_iconst X dX9_isBalanced_227 228 rfl (v := (nI (0))) rfl ?_
                    refine g_zret (h := (mrow (mrow h 13 (wrS q t (h 2) (h 3) (h 4) (fun b => decide (h 5 b = nI 1)) (zrK R 24) k)) 13 (redN q d ((mrow h 13 (wrS q t (h 2) (h 3) (h 4) (fun b => decide (h 5 b = nI 1)) (zrK R 24) k)) 7) ((mrow h 13 (wrS q t (h 2) (h 3) (h 4) (fun b => decide (h 5 b = nI 1)) (zrK R 24) k)) 13) (q - d)))) (v := (nI (0))) X Z dX9_isBalanced_228 (Or.inl rfl) ?_
                    exact ⟨(bI_f (fun z => t220 ((tzB_eq hq1 hq2 (show k = n from by omega)).trans (balP_b z (by omega))))).symm, _, (mrow_m _ _ _ _)⟩
                  · skip
                    refine g_iconst X dX9_isBalanced_223 224 rfl (v := (nI (1))) rfl ?_
                    refine g_goto X dX9_isBalanced_224 228 (by decide) ?_
                    refine g_zret (h := (mrow (mrow h 13 (wrS q t (h 2) (h 3) (h 4) (fun b => decide (h 5 b = nI 1)) (zrK R 24) k)) 13 (redN q d ((mrow h 13 (wrS q t (h 2) (h 3) (h 4) (fun b => decide (h 5 b = nI 1)) (zrK R 24) k)) 7) ((mrow h 13 (wrS q t (h 2) (h 3) (h 4) (fun b => decide (h 5 b = nI 1)) (zrK R 24) k)) 13) (q - d)))) (v := (nI (1))) X Z dX9_isBalanced_228 (Or.inr rfl) ?_
                    exact ⟨(bI_t (balP_m (hfm.mp f201) (Or.inr ((tzB_eq hq1 hq2 (show k = n from by omega)).symm.trans f220)))).symm, _, (mrow_m _ _ _ _)⟩
            · skip
              refine g_aload_n X dX9_isBalanced_163 164 rfl rfl ?_
              refine g_get (c := 0) (k := 8) (T := TX9) (sk := skM0) (v := .ref (kad K (5))) X wf_X9_32 inX9 dX9_isBalanced_164 167 rfl (by decide) rfl rfl (by decide) rfl ?_
              refine g_iload X dX9_isBalanced_167 169 rfl rfl ?_
              refine g_zald (c := 5) (n := 24) (r := 5) (o := 0) (i := k) (v := (bI (h 5 k = nI 1))) X dX9_isBalanced_169 170 rfl (by decide) rfl rfl (by omega) (us_b (hc k (by omega)).us) ?_
              refine g_ifeq_B X dX9_isBalanced_170 186 (by decide) 173 rfl (fun t170 => ?_) (fun f170 => ?_)
              · skip
                refine g_iinc X (v := (nI (k + 1))) (lv' := [(0, .ref (kad K (0))), (1, .int (nI (t))), (2, .int (nI (s))), (3, .int (bI (alB (blG h q n d t s) f = true))), (4, .int (nI (k + 1)))]) dX9_isBalanced_186 189 rfl (by decide) rfl (n_inc k 1) rfl rfl ?_
                refine g_goto X dX9_isBalanced_189 154 (by decide) ?_
                skip
                refine g_mem (h := (mrow h 13 (wrS q t (h 2) (h 3) (h 4) (fun b => decide (h 5 b = nI 1)) (zrK R 24) k))) (h' := (mrow h 13 (wrS q t (h 2) (h 3) (h 4) (fun b => decide (h 5 b = nI 1)) (zrK R 24) (k + 1)))) (congrArg (mrow h 13) (stA_f (by simp [t170])).symm) ?_
                exact ih154 (k + 1) (by omega) (by omega)
              · skip
                refine g_aload_n X dX9_isBalanced_173 174 rfl rfl ?_
                refine g_aload_n X dX9_isBalanced_174 175 rfl rfl ?_
                refine g_get (c := 0) (k := 17) (T := TX9) (sk := skM0) (v := .ref (kad K (13))) X wf_X9_57 inX9 dX9_isBalanced_175 178 rfl (by decide) rfl rfl (by decide) rfl ?_
                refine g_iload X dX9_isBalanced_178 180 rfl rfl ?_
                refine g_iload_n X dX9_isBalanced_180 181 rfl rfl ?_
                refine g_iconst X dX9_isBalanced_181 182 rfl (v := (nI (0))) rfl ?_
                refine g_iconst X dX9_isBalanced_182 183 rfl (v := (nI (1))) rfl ?_
                refine g_callVvx (st := []) (m2 := (mrow (mrow h 13 (wrS q t (h 2) (h 3) (h 4) (fun b => decide (h 5 b = nI 1)) (zrK R 24) k)) 13 (rwA ((t * tn ((mrow h 13 (wrS q t (h 2) (h 3) (h 4) (fun b => decide (h 5 b = nI 1)) (zrK R 24) k)) 2 k) + 0) % q) ((t * tn ((mrow h 13 (wrS q t (h 2) (h 3) (h 4) (fun b => decide (h 5 b = nI 1)) (zrK R 24) k)) 3 k) + 0) % q) ((nI (1)) * (mrow h 13 (wrS q t (h 2) (h 3) (h 4) (fun b => decide (h 5 b = nI 1)) (zrK R 24) k)) 4 k) ((mrow h 13 (wrS q t (h 2) (h 3) (h 4) (fun b => decide (h 5 b = nI 1)) (zrK R 24) k)) 13)))) X cw_X9_143 (c_M_addCoil13 (mrow h 13 (wrS q t (h 2) (h 3) (h 4) (fun b => decide (h 5 b = nI 1)) (zrK R 24) k)) q m n k t 0 (nI (1)) (by exact hq) hq1 hq2 hn2 (by exact hc) (by omega) (by omega) (by omega)) dX9_isBalanced_183 186 rfl (by decide) rfl rfl rfl rfl rfl (by decide) (Nat.le_of_ble_eq_true rfl) ?_
                refine g_iinc X (v := (nI (k + 1))) (lv' := [(0, .ref (kad K (0))), (1, .int (nI (t))), (2, .int (nI (s))), (3, .int (bI (alB (blG h q n d t s) f = true))), (4, .int (nI (k + 1)))]) dX9_isBalanced_186 189 rfl (by decide) rfl (n_inc k 1) rfl rfl ?_
                refine g_goto X dX9_isBalanced_189 154 (by decide) ?_
                skip
                refine g_mem (h := (mrow (mrow h 13 (wrS q t (h 2) (h 3) (h 4) (fun b => decide (h 5 b = nI 1)) (zrK R 24) k)) 13 (rwA ((t * tn ((mrow h 13 (wrS q t (h 2) (h 3) (h 4) (fun b => decide (h 5 b = nI 1)) (zrK R 24) k)) 2 k) + 0) % q) ((t * tn ((mrow h 13 (wrS q t (h 2) (h 3) (h 4) (fun b => decide (h 5 b = nI 1)) (zrK R 24) k)) 3 k) + 0) % q) ((nI (1)) * (mrow h 13 (wrS q t (h 2) (h 3) (h 4) (fun b => decide (h 5 b = nI 1)) (zrK R 24) k)) 4 k) ((mrow h 13 (wrS q t (h 2) (h 3) (h 4) (fun b => decide (h 5 b = nI 1)) (zrK R 24) k)) 13)))) (h' := (mrow h 13 (wrS q t (h 2) (h 3) (h 4) (fun b => decide (h 5 b = nI 1)) (zrK R 24) (k + 1)))) (by rw [mrow_m]; exact congrArg (mrow h 13) (stA_t (by simp [f170])).symm) ?_
                exact ih154 (k + 1) (by omega) (by omega)
        skip
        refine g_mem (h := (mrow (mrow h 13 R) 13 (zrK ((mrow h 13 R) 13) 24))) (h' := (mrow h 13 (wrS q t (h 2) (h 3) (h 4) (fun b => decide (h 5 b = nI 1)) (zrK R 24) 0))) (by rw [mrow_m]; rfl) ?_
        exact lp154 _ 0 (by omega) (Nat.lt_succ_self _)
      · skip
        refine g_iload_n X dX9_isBalanced_14 15 rfl rfl ?_
        refine g_ifeq_B X dX9_isBalanced_15 144 (by decide) 18 rfl (fun t15 => ?_) (fun f15 => ?_)
        · skip
          have hfm : alB (blG h q n d t s) f = true ↔ alB (blG h q n d t s) m = true := ⟨fun z => absurd z t15, fun z => absurd (alB_le (by omega) z) t15⟩
          refine g_aload_n X dX9_isBalanced_144 145 rfl rfl ?_
          refine g_get (c := 0) (k := 17) (T := TX9) (sk := skM0) (v := .ref (kad K (13))) X wf_X9_57 inX9 dX9_isBalanced_145 148 rfl (by decide) rfl rfl (by decide) rfl ?_
          refine g_callSvx (st := []) (m2 := (mrow (mrow h 13 R) 13 (zrK ((mrow h 13 R) 13) 24))) X cw_X9_139 (c_M_clearRow13 (mrow h 13 R)) dX9_isBalanced_148 151 rfl rfl rfl rfl (by decide) (Nat.le_of_ble_eq_true rfl) ?_
          refine g_iconst X dX9_isBalanced_151 152 rfl (v := (nI (0))) rfl ?_
          refine g_istore X (lv' := [(0, .ref (kad K (0))), (1, .int (nI (t))), (2, .int (nI (s))), (3, .int (bI (alB (blG h q n d t s) f = true))), (4, .int (nI 0))]) dX9_isBalanced_152 154 rfl (by decide) rfl rfl ?_
          have lp154 : ∀ (fu : Nat) (k : Nat) (hk : k ≤ n), n - k < fu → G 25 ML 6 K (mrow h 13 (wrS q t (h 2) (h 3) (h 4) (fun b => decide (h 5 b = nI 1)) (zrK R 24) k)) 154 [(0, .ref (kad K (0))), (1, .int (nI (t))), (2, .int (nI (s))), (3, .int (bI (alB (blG h q n d t s) f = true))), (4, .int (nI (k)))] [] := by
            intro fu
            induction fu with
            | zero => intro k hk hm; exact absurd hm (Nat.not_lt_zero _)
            | succ fu ih154 =>
              intro k hk hm154
              refine g_iload X dX9_isBalanced_154 156 rfl rfl ?_
              refine g_aload_n X dX9_isBalanced_156 157 rfl rfl ?_
              refine g_get (c := 0) (k := 3) (T := TX9) (sk := skM0) (v := .int (nI (n))) X wf_X9_116 inX9 dX9_isBalanced_157 160 rfl (by decide) rfl rfl (by decide) (congrArg Value.int (hn)) ?_
              refine g_icmp_ge X ((k : Nat) : Int) ((n : Nat) : Int) dX9_isBalanced_160 192 (by decide) 163 rfl (nI_toInt (by omega)) (nI_toInt (by omega)) (fun t160 => ?_) (fun f160 => ?_)
              · skip
                refine g_aload_n X dX9_isBalanced_192 193 rfl rfl ?_
                refine g_aload_n X dX9_isBalanced_193 194 rfl rfl ?_
                refine g_get (c := 0) (k := 17) (T := TX9) (sk := skM0) (v := .ref (kad K (13))) X wf_X9_57 inX9 dX9_isBalanced_194 197 rfl (by decide) rfl rfl (by decide) rfl ?_
                refine g_callVvx (st := []) (m2 := (mrow (mrow h 13 (wrS q t (h 2) (h 3) (h 4) (fun b => decide (h 5 b = nI 1)) (zrK R 24) k)) 13 (redN q d ((mrow h 13 (wrS q t (h 2) (h 3) (h 4) (fun b => decide (h 5 b = nI 1)) (zrK R 24) k)) 7) ((mrow h 13 (wrS q t (h 2) (h 3) (h 4) (fun b => decide (h 5 b = nI 1)) (zrK R 24) k)) 13) (q - d)))) X cw_X9_147 (c_M_reduce13 (mrow h 13 (wrS q t (h 2) (h 3) (h 4) (fun b => decide (h 5 b = nI 1)) (zrK R 24) k)) q d (by exact hq) (by exact hd) hq1 hq2 hd1 hd2) dX9_isBalanced_197 200 rfl (by decide) rfl rfl rfl rfl rfl (by decide) (Nat.le_of_ble_eq_true rfl) ?_
                refine g_iload_n X dX9_isBalanced_200 201 rfl rfl ?_
                refine g_ifeq_B X dX9_isBalanced_201 227 (by decide) 204 rfl (fun t201 => ?_) (fun f201 => ?_)
                · skip
                  refine g_iconst X dX9_isBalanced_227 228 rfl (v := (nI (0))) rfl ?_
                  refine g_zret (h := (mrow (mrow h 13 (wrS q t (h 2) (h 3) (h 4) (fun b => decide (h 5 b = nI 1)) (zrK R 24) k)) 13 (redN q d ((mrow h 13 (wrS q t (h 2) (h 3) (h 4) (fun b => decide (h 5 b = nI 1)) (zrK R 24) k)) 7) ((mrow h 13 (wrS q t (h 2) (h 3) (h 4) (fun b => decide (h 5 b = nI 1)) (zrK R 24) k)) 13) (q - d)))) (v := (nI (0))) X Z dX9_isBalanced_228 (Or.inl rfl) ?_
                  exact ⟨(bI_f (fun z => t201 (hfm.mpr (balP_a z)))).symm, _, (mrow_m _ _ _ _)⟩
                · skip
                  refine g_aload_n X dX9_isBalanced_204 205 rfl rfl ?_
                  refine g_get (c := 0) (k := 2) (T := TX9) (sk := skM0) (v := .int (nI (m))) X wf_X9_16 inX9 dX9_isBalanced_205 208 rfl (by decide) rfl rfl (by decide) (congrArg Value.int (hm)) ?_
                  refine g_iconst X dX9_isBalanced_208 209 rfl (v := (nI (1))) rfl ?_
                  refine g_icmp_eq X ((m : Nat) : Int) 1 dX9_isBalanced_209 223 (by decide) 212 rfl (nI_toInt (by omega)) rfl (fun t209 => ?_) (fun f209 => ?_)
                  · skip
                    refine g_iconst X dX9_isBalanced_223 224 rfl (v := (nI (1))) rfl ?_
                    refine g_goto X dX9_isBalanced_224 228 (by decide) ?_
                    refine g_zret (h := (mrow (mrow h 13 (wrS q t (h 2) (h 3) (h 4) (fun b => decide (h 5 b = nI 1)) (zrK R 24) k)) 13 (redN q d ((mrow h 13 (wrS q t (h 2) (h 3) (h 4) (fun b => decide (h 5 b = nI 1)) (zrK R 24) k)) 7) ((mrow h 13 (wrS q t (h 2) (h 3) (h 4) (fun b => decide (h 5 b = nI 1)) (zrK R 24) k)) 13) (q - d)))) (v := (nI (1))) X Z dX9_isBalanced_228 (Or.inr rfl) ?_
                    exact ⟨(bI_t (balP_m (hfm.mp f201) (Or.inl (by omega)))).symm, _, (mrow_m _ _ _ _)⟩
                  · skip
                    refine g_aload_n X dX9_isBalanced_212 213 rfl rfl ?_
                    refine g_aload_n X dX9_isBalanced_213 214 rfl rfl ?_
                    refine g_get (c := 0) (k := 17) (T := TX9) (sk := skM0) (v := .ref (kad K (13))) X wf_X9_57 inX9 dX9_isBalanced_214 217 rfl (by decide) rfl rfl (by decide) rfl ?_
                    refine g_callVix (st := []) (v := (bI (zrB ((mrow (mrow h 13 (wrS q t (h 2) (h 3) (h 4) (fun b => decide (h 5 b = nI 1)) (zrK R 24) k)) 13 (redN q d ((mrow h 13 (wrS q t (h 2) (h 3) (h 4) (fun b => decide (h 5 b = nI 1)) (zrK R 24) k)) 7) ((mrow h 13 (wrS q t (h 2) (h 3) (h 4) (fun b => decide (h 5 b = nI 1)) (zrK R 24) k)) 13) (q - d))) 13) q = true))) (m2 := (mrow (mrow h 13 (wrS q t (h 2) (h 3) (h 4) (fun b => decide (h 5 b = nI 1)) (zrK R 24) k)) 13 (redN q d ((mrow h 13 (wrS q t (h 2) (h 3) (h 4) (fun b => decide (h 5 b = nI 1)) (zrK R 24) k)) 7) ((mrow h 13 (wrS q t (h 2) (h 3) (h 4) (fun b => decide (h 5 b = nI 1)) (zrK R 24) k)) 13) (q - d)))) X cw_X9_161 (c_M_isZero13 (mrow (mrow h 13 (wrS q t (h 2) (h 3) (h 4) (fun b => decide (h 5 b = nI 1)) (zrK R 24) k)) 13 (redN q d ((mrow h 13 (wrS q t (h 2) (h 3) (h 4) (fun b => decide (h 5 b = nI 1)) (zrK R 24) k)) 7) ((mrow h 13 (wrS q t (h 2) (h 3) (h 4) (fun b => decide (h 5 b = nI 1)) (zrK R 24) k)) 13) (q - d))) q (by exact hq) hq2) dX9_isBalanced_217 220 rfl (by decide) rfl rfl rfl rfl rfl (by decide) (Nat.le_of_ble_eq_true rfl) ?_
                    refine g_ifeq_B X dX9_isBalanced_220 227 (by decide) 223 rfl (fun t220 => ?_) (fun f220 => ?_)
                    · skip
                      refine g_iconst X dX9_isBalanced_227 228 rfl (v := (nI (0))) rfl ?_
                      refine g_zret (h := (mrow (mrow h 13 (wrS q t (h 2) (h 3) (h 4) (fun b => decide (h 5 b = nI 1)) (zrK R 24) k)) 13 (redN q d ((mrow h 13 (wrS q t (h 2) (h 3) (h 4) (fun b => decide (h 5 b = nI 1)) (zrK R 24) k)) 7) ((mrow h 13 (wrS q t (h 2) (h 3) (h 4) (fun b => decide (h 5 b = nI 1)) (zrK R 24) k)) 13) (q - d)))) (v := (nI (0))) X Z dX9_isBalanced_228 (Or.inl rfl) ?_
                      exact ⟨(bI_f (fun z => t220 ((tzB_eq hq1 hq2 (show k = n from by omega)).trans (balP_b z (by omega))))).symm, _, (mrow_m _ _ _ _)⟩
                    · skip
                      refine g_iconst X dX9_isBalanced_223 224 rfl (v := (nI (1))) rfl ?_
                      refine g_goto X dX9_isBalanced_224 228 (by decide) ?_
                      refine g_zret (h := (mrow (mrow h 13 (wrS q t (h 2) (h 3) (h 4) (fun b => decide (h 5 b = nI 1)) (zrK R 24) k)) 13 (redN q d ((mrow h 13 (wrS q t (h 2) (h 3) (h 4) (fun b => decide (h 5 b = nI 1)) (zrK R 24) k)) 7) ((mrow h 13 (wrS q t (h 2) (h 3) (h 4) (fun b => decide (h 5 b = nI 1)) (zrK R 24) k)) 13) (q - d)))) (v := (nI (1))) X Z dX9_isBalanced_228 (Or.inr rfl) ?_
                      exact ⟨(bI_t (balP_m (hfm.mp f201) (Or.inr ((tzB_eq hq1 hq2 (show k = n from by omega)).symm.trans f220)))).symm, _, (mrow_m _ _ _ _)⟩
              · skip
                refine g_aload_n X dX9_isBalanced_163 164 rfl rfl ?_
                refine g_get (c := 0) (k := 8) (T := TX9) (sk := skM0) (v := .ref (kad K (5))) X wf_X9_32 inX9 dX9_isBalanced_164 167 rfl (by decide) rfl rfl (by decide) rfl ?_
                refine g_iload X dX9_isBalanced_167 169 rfl rfl ?_
                refine g_zald (c := 5) (n := 24) (r := 5) (o := 0) (i := k) (v := (bI (h 5 k = nI 1))) X dX9_isBalanced_169 170 rfl (by decide) rfl rfl (by omega) (us_b (hc k (by omega)).us) ?_
                refine g_ifeq_B X dX9_isBalanced_170 186 (by decide) 173 rfl (fun t170 => ?_) (fun f170 => ?_)
                · skip
                  refine g_iinc X (v := (nI (k + 1))) (lv' := [(0, .ref (kad K (0))), (1, .int (nI (t))), (2, .int (nI (s))), (3, .int (bI (alB (blG h q n d t s) f = true))), (4, .int (nI (k + 1)))]) dX9_isBalanced_186 189 rfl (by decide) rfl (n_inc k 1) rfl rfl ?_
                  refine g_goto X dX9_isBalanced_189 154 (by decide) ?_
                  skip
                  refine g_mem (h := (mrow h 13 (wrS q t (h 2) (h 3) (h 4) (fun b => decide (h 5 b = nI 1)) (zrK R 24) k))) (h' := (mrow h 13 (wrS q t (h 2) (h 3) (h 4) (fun b => decide (h 5 b = nI 1)) (zrK R 24) (k + 1)))) (congrArg (mrow h 13) (stA_f (by simp [t170])).symm) ?_
                  exact ih154 (k + 1) (by omega) (by omega)
                · skip
                  refine g_aload_n X dX9_isBalanced_173 174 rfl rfl ?_
                  refine g_aload_n X dX9_isBalanced_174 175 rfl rfl ?_
                  refine g_get (c := 0) (k := 17) (T := TX9) (sk := skM0) (v := .ref (kad K (13))) X wf_X9_57 inX9 dX9_isBalanced_175 178 rfl (by decide) rfl rfl (by decide) rfl ?_
                  refine g_iload X dX9_isBalanced_178 180 rfl rfl ?_
                  refine g_iload_n X dX9_isBalanced_180 181 rfl rfl ?_
                  refine g_iconst X dX9_isBalanced_181 182 rfl (v := (nI (0))) rfl ?_
                  refine g_iconst X dX9_isBalanced_182 183 rfl (v := (nI (1))) rfl ?_
                  refine g_callVvx (st := []) (m2 := (mrow (mrow h 13 (wrS q t (h 2) (h 3) (h 4) (fun b => decide (h 5 b = nI 1)) (zrK R 24) k)) 13 (rwA ((t * tn ((mrow h 13 (wrS q t (h 2) (h 3) (h 4) (fun b => decide (h 5 b = nI 1)) (zrK R 24) k)) 2 k) + 0) % q) ((t * tn ((mrow h 13 (wrS q t (h 2) (h 3) (h 4) (fun b => decide (h 5 b = nI 1)) (zrK R 24) k)) 3 k) + 0) % q) ((nI (1)) * (mrow h 13 (wrS q t (h 2) (h 3) (h 4) (fun b => decide (h 5 b = nI 1)) (zrK R 24) k)) 4 k) ((mrow h 13 (wrS q t (h 2) (h 3) (h 4) (fun b => decide (h 5 b = nI 1)) (zrK R 24) k)) 13)))) X cw_X9_143 (c_M_addCoil13 (mrow h 13 (wrS q t (h 2) (h 3) (h 4) (fun b => decide (h 5 b = nI 1)) (zrK R 24) k)) q m n k t 0 (nI (1)) (by exact hq) hq1 hq2 hn2 (by exact hc) (by omega) (by omega) (by omega)) dX9_isBalanced_183 186 rfl (by decide) rfl rfl rfl rfl rfl (by decide) (Nat.le_of_ble_eq_true rfl) ?_
                  refine g_iinc X (v := (nI (k + 1))) (lv' := [(0, .ref (kad K (0))), (1, .int (nI (t))), (2, .int (nI (s))), (3, .int (bI (alB (blG h q n d t s) f = true))), (4, .int (nI (k + 1)))]) dX9_isBalanced_186 189 rfl (by decide) rfl (n_inc k 1) rfl rfl ?_
                  refine g_goto X dX9_isBalanced_189 154 (by decide) ?_
                  skip
                  refine g_mem (h := (mrow (mrow h 13 (wrS q t (h 2) (h 3) (h 4) (fun b => decide (h 5 b = nI 1)) (zrK R 24) k)) 13 (rwA ((t * tn ((mrow h 13 (wrS q t (h 2) (h 3) (h 4) (fun b => decide (h 5 b = nI 1)) (zrK R 24) k)) 2 k) + 0) % q) ((t * tn ((mrow h 13 (wrS q t (h 2) (h 3) (h 4) (fun b => decide (h 5 b = nI 1)) (zrK R 24) k)) 3 k) + 0) % q) ((nI (1)) * (mrow h 13 (wrS q t (h 2) (h 3) (h 4) (fun b => decide (h 5 b = nI 1)) (zrK R 24) k)) 4 k) ((mrow h 13 (wrS q t (h 2) (h 3) (h 4) (fun b => decide (h 5 b = nI 1)) (zrK R 24) k)) 13)))) (h' := (mrow h 13 (wrS q t (h 2) (h 3) (h 4) (fun b => decide (h 5 b = nI 1)) (zrK R 24) (k + 1)))) (by rw [mrow_m]; exact congrArg (mrow h 13) (stA_t (by simp [f170])).symm) ?_
                  exact ih154 (k + 1) (by omega) (by omega)
          skip
          refine g_mem (h := (mrow (mrow h 13 R) 13 (zrK ((mrow h 13 R) 13) 24))) (h' := (mrow h 13 (wrS q t (h 2) (h 3) (h 4) (fun b => decide (h 5 b = nI 1)) (zrK R 24) 0))) (by rw [mrow_m]; rfl) ?_
          exact lp154 _ 0 (by omega) (Nat.lt_succ_self _)
        · skip
          refine g_aload_n X dX9_isBalanced_18 19 rfl rfl ?_
          refine g_get (c := 0) (k := 17) (T := TX9) (sk := skM0) (v := .ref (kad K (13))) X wf_X9_57 inX9 dX9_isBalanced_19 22 rfl (by decide) rfl rfl (by decide) rfl ?_
          refine g_callSvx (st := []) (m2 := (mrow (mrow h 13 R) 13 (zrK ((mrow h 13 R) 13) 24))) X cw_X9_139 (c_M_clearRow13 (mrow h 13 R)) dX9_isBalanced_22 25 rfl rfl rfl rfl (by decide) (Nat.le_of_ble_eq_true rfl) ?_
          refine g_iconst X dX9_isBalanced_25 26 rfl (v := (nI (0))) rfl ?_
          refine g_istore X (lv' := [(0, .ref (kad K (0))), (1, .int (nI (t))), (2, .int (nI (s))), (3, .int (bI (alB (blG h q n d t s) f = true))), (4, .int (nI (f))), (5, .int (nI 0))]) dX9_isBalanced_26 28 rfl (by decide) rfl rfl ?_
          have lp28 : ∀ (fu : Nat) (k : Nat) (hk : k ≤ n), n - k < fu → G 25 ML 6 K (mrow h 13 (blS q t (t * f * s % q) (h 2) (h 3) (h 4) (uin (h 1) (h 5) f) (uin (h 1) (h 5) 0) (zrK R 24) k)) 28 [(0, .ref (kad K (0))), (1, .int (nI (t))), (2, .int (nI (s))), (3, .int (bI (alB (blG h q n d t s) f = true))), (4, .int (nI (f))), (5, .int (nI (k)))] [] := by
            intro fu
            induction fu with
            | zero => intro k hk hm; exact absurd hm (Nat.not_lt_zero _)
            | succ fu ih28 =>
              intro k hk hm28
              refine g_iload X dX9_isBalanced_28 30 rfl rfl ?_
              refine g_aload_n X dX9_isBalanced_30 31 rfl rfl ?_
              refine g_get (c := 0) (k := 3) (T := TX9) (sk := skM0) (v := .int (nI (n))) X wf_X9_116 inX9 dX9_isBalanced_31 34 rfl (by decide) rfl rfl (by decide) (congrArg Value.int (hn)) ?_
              refine g_icmp_ge X ((k : Nat) : Int) ((n : Nat) : Int) dX9_isBalanced_34 121 (by decide) 37 rfl (nI_toInt (by omega)) (nI_toInt (by omega)) (fun t34 => ?_) (fun f34 => ?_)
              · skip
                refine g_aload_n X dX9_isBalanced_121 122 rfl rfl ?_
                refine g_aload_n X dX9_isBalanced_122 123 rfl rfl ?_
                refine g_get (c := 0) (k := 17) (T := TX9) (sk := skM0) (v := .ref (kad K (13))) X wf_X9_57 inX9 dX9_isBalanced_123 126 rfl (by decide) rfl rfl (by decide) rfl ?_
                refine g_callVvx (st := []) (m2 := (mrow (mrow h 13 (blS q t (t * f * s % q) (h 2) (h 3) (h 4) (uin (h 1) (h 5) f) (uin (h 1) (h 5) 0) (zrK R 24) k)) 13 (redN q d ((mrow h 13 (blS q t (t * f * s % q) (h 2) (h 3) (h 4) (uin (h 1) (h 5) f) (uin (h 1) (h 5) 0) (zrK R 24) k)) 7) ((mrow h 13 (blS q t (t * f * s % q) (h 2) (h 3) (h 4) (uin (h 1) (h 5) f) (uin (h 1) (h 5) 0) (zrK R 24) k)) 13) (q - d)))) X cw_X9_147 (c_M_reduce13 (mrow h 13 (blS q t (t * f * s % q) (h 2) (h 3) (h 4) (uin (h 1) (h 5) f) (uin (h 1) (h 5) 0) (zrK R 24) k)) q d (by exact hq) (by exact hd) hq1 hq2 hd1 hd2) dX9_isBalanced_126 129 rfl (by decide) rfl rfl rfl rfl rfl (by decide) (Nat.le_of_ble_eq_true rfl) ?_
                refine g_aload_n X dX9_isBalanced_129 130 rfl rfl ?_
                refine g_aload_n X dX9_isBalanced_130 131 rfl rfl ?_
                refine g_get (c := 0) (k := 17) (T := TX9) (sk := skM0) (v := .ref (kad K (13))) X wf_X9_57 inX9 dX9_isBalanced_131 134 rfl (by decide) rfl rfl (by decide) rfl ?_
                refine g_callVix (st := []) (v := (bI (zrB ((mrow (mrow h 13 (blS q t (t * f * s % q) (h 2) (h 3) (h 4) (uin (h 1) (h 5) f) (uin (h 1) (h 5) 0) (zrK R 24) k)) 13 (redN q d ((mrow h 13 (blS q t (t * f * s % q) (h 2) (h 3) (h 4) (uin (h 1) (h 5) f) (uin (h 1) (h 5) 0) (zrK R 24) k)) 7) ((mrow h 13 (blS q t (t * f * s % q) (h 2) (h 3) (h 4) (uin (h 1) (h 5) f) (uin (h 1) (h 5) 0) (zrK R 24) k)) 13) (q - d))) 13) q = true))) (m2 := (mrow (mrow h 13 (blS q t (t * f * s % q) (h 2) (h 3) (h 4) (uin (h 1) (h 5) f) (uin (h 1) (h 5) 0) (zrK R 24) k)) 13 (redN q d ((mrow h 13 (blS q t (t * f * s % q) (h 2) (h 3) (h 4) (uin (h 1) (h 5) f) (uin (h 1) (h 5) 0) (zrK R 24) k)) 7) ((mrow h 13 (blS q t (t * f * s % q) (h 2) (h 3) (h 4) (uin (h 1) (h 5) f) (uin (h 1) (h 5) 0) (zrK R 24) k)) 13) (q - d)))) X cw_X9_161 (c_M_isZero13 (mrow (mrow h 13 (blS q t (t * f * s % q) (h 2) (h 3) (h 4) (uin (h 1) (h 5) f) (uin (h 1) (h 5) 0) (zrK R 24) k)) 13 (redN q d ((mrow h 13 (blS q t (t * f * s % q) (h 2) (h 3) (h 4) (uin (h 1) (h 5) f) (uin (h 1) (h 5) 0) (zrK R 24) k)) 7) ((mrow h 13 (blS q t (t * f * s % q) (h 2) (h 3) (h 4) (uin (h 1) (h 5) f) (uin (h 1) (h 5) 0) (zrK R 24) k)) 13) (q - d))) q (by exact hq) hq2) dX9_isBalanced_134 137 rfl (by decide) rfl rfl rfl rfl rfl (by decide) (Nat.le_of_ble_eq_true rfl) ?_
                refine g_eq (st' := [.int (bI (alB (blG h q n d t s) (f + 1) = true))]) rfl rfl (congrArg (fun x => [Value.int x]) (bI_c (alB_s (P := (blG h q n d t s)) (blG_eq hq1 hq2 (show k = n from by omega)) f15))) ?_
                refine g_istore_n X (lv' := [(0, .ref (kad K (0))), (1, .int (nI (t))), (2, .int (nI (s))), (3, .int (bI (alB (blG h q n d t s) (f + 1) = true))), (4, .int (nI (f))), (5, .int (nI (k)))]) dX9_isBalanced_137 138 rfl (by decide) rfl rfl ?_
                refine g_iinc X (v := (nI (f + 1))) (lv' := [(0, .ref (kad K (0))), (1, .int (nI (t))), (2, .int (nI (s))), (3, .int (bI (alB (blG h q n d t s) (f + 1) = true))), (4, .int (nI (f + 1))), (5, .int (nI (k)))]) dX9_isBalanced_138 141 rfl (by decide) rfl (n_inc f 1) rfl rfl ?_
                refine g_goto X dX9_isBalanced_141 5 (by decide) ?_
                refine g_sub [0, 1, 2, 3, 4] rfl ?_
                refine g_mem (h := (mrow (mrow h 13 (blS q t (t * f * s % q) (h 2) (h 3) (h 4) (uin (h 1) (h 5) f) (uin (h 1) (h 5) 0) (zrK R 24) k)) 13 (redN q d ((mrow h 13 (blS q t (t * f * s % q) (h 2) (h 3) (h 4) (uin (h 1) (h 5) f) (uin (h 1) (h 5) 0) (zrK R 24) k)) 7) ((mrow h 13 (blS q t (t * f * s % q) (h 2) (h 3) (h 4) (uin (h 1) (h 5) f) (uin (h 1) (h 5) 0) (zrK R 24) k)) 13) (q - d)))) (h' := (mrow h 13 (redN q d (h 7) (blS q t (t * f * s % q) (h 2) (h 3) (h 4) (uin (h 1) (h 5) f) (uin (h 1) (h 5) 0) (zrK R 24) k) (q - d)))) (by rw [mrow_m]; rfl) ?_
                exact ih5 (f + 1) (redN q d (h 7) (blS q t (t * f * s % q) (h 2) (h 3) (h 4) (uin (h 1) (h 5) f) (uin (h 1) (h 5) 0) (zrK R 24) k) (q - d)) (by omega) (by omega)
              · skip
                refine g_aload_n X dX9_isBalanced_37 38 rfl rfl ?_
                refine g_get (c := 0) (k := 8) (T := TX9) (sk := skM0) (v := .ref (kad K (5))) X wf_X9_32 inX9 dX9_isBalanced_38 41 rfl (by decide) rfl rfl (by decide) rfl ?_
                refine g_iload X dX9_isBalanced_41 43 rfl rfl ?_
                refine g_zald (c := 5) (n := 24) (r := 5) (o := 0) (i := k) (v := (bI (h 5 k = nI 1))) X dX9_isBalanced_43 44 rfl (by decide) rfl rfl (by omega) (us_b (hc k (by omega)).us) ?_
                refine g_ifeq_B X dX9_isBalanced_44 72 (by decide) 47 rfl (fun t44 => ?_) (fun f44 => ?_)
                · skip
                  refine g_mem (h := (mrow h 13 (blS q t (t * f * s % q) (h 2) (h 3) (h 4) (uin (h 1) (h 5) f) (uin (h 1) (h 5) 0) (zrK R 24) k))) (h' := (mrow h 13 (stA q t 0 (h 2) (h 3) (h 4) (nI 1) (uin (h 1) (h 5) f k) k (blS q t (t * f * s % q) (h 2) (h 3) (h 4) (uin (h 1) (h 5) f) (uin (h 1) (h 5) 0) (zrK R 24) k)))) (congrArg (mrow h 13) (stA_f (by simp [uin, t44])).symm) ?_
                  refine g_aload_n X dX9_isBalanced_72 73 rfl rfl ?_
                  refine g_get (c := 0) (k := 8) (T := TX9) (sk := skM0) (v := .ref (kad K (5))) X wf_X9_32 inX9 dX9_isBalanced_73 76 rfl (by decide) rfl rfl (by decide) rfl ?_
                  refine g_iload X dX9_isBalanced_76 78 rfl rfl ?_
                  refine g_zald (c := 5) (n := 24) (r := 5) (o := 0) (i := k) (v := (bI (h 5 k = nI 1))) X dX9_isBalanced_78 79 rfl (by decide) rfl rfl (by omega) (us_b (hc k (by omega)).us) ?_
                  refine g_ifeq_B X dX9_isBalanced_79 115 (by decide) 82 rfl (fun t79 => ?_) (fun f79 => ?_)
                  · skip
                    refine g_mem (h := (mrow h 13 (stA q t 0 (h 2) (h 3) (h 4) (nI 1) (uin (h 1) (h 5) f k) k (blS q t (t * f * s % q) (h 2) (h 3) (h 4) (uin (h 1) (h 5) f) (uin (h 1) (h 5) 0) (zrK R 24) k)))) (h' := (mrow h 13 (blS q t (t * f * s % q) (h 2) (h 3) (h 4) (uin (h 1) (h 5) f) (uin (h 1) (h 5) 0) (zrK R 24) (k + 1)))) (congrArg (mrow h 13) (stA_f (by simp [uin, t79])).symm) ?_
                    refine g_iinc X (v := (nI (k + 1))) (lv' := [(0, .ref (kad K (0))), (1, .int (nI (t))), (2, .int (nI (s))), (3, .int (bI (alB (blG h q n d t s) f = true))), (4, .int (nI (f))), (5, .int (nI (k + 1)))]) dX9_isBalanced_115 118 rfl (by decide) rfl (n_inc k 1) rfl rfl ?_
                    refine g_goto X dX9_isBalanced_118 28 (by decide) ?_
                    skip
                    exact ih28 (k + 1) (by omega) (by omega)
                  · skip
                    have hph2 := (hc k (by omega)).ph.2
                    refine g_aload_n X dX9_isBalanced_82 83 rfl rfl ?_
                    refine g_get (c := 0) (k := 4) (T := TX9) (sk := skM0) (v := .ref (kad K (1))) X wf_X9_19 inX9 dX9_isBalanced_83 86 rfl (by decide) rfl rfl (by decide) rfl ?_
                    refine g_iload X dX9_isBalanced_86 88 rfl rfl ?_
                    refine g_iald (c := 1) (n := 24) (r := 1) (o := 0) (i := k) (v := (nI (tn (h 1 k)))) X dX9_isBalanced_88 89 rfl (by decide) rfl rfl (by omega) ((hc k (by omega)).ph.1) ?_
                    refine g_if_ne X ((tn (h 1 k) : Nat) : Int) dX9_isBalanced_89 115 (by decide) 92 rfl (nI_toInt (by omega)) (fun t89 => ?_) (fun f89 => ?_)
                    · skip
                      refine g_mem (h := (mrow h 13 (stA q t 0 (h 2) (h 3) (h 4) (nI 1) (uin (h 1) (h 5) f k) k (blS q t (t * f * s % q) (h 2) (h 3) (h 4) (uin (h 1) (h 5) f) (uin (h 1) (h 5) 0) (zrK R 24) k)))) (h' := (mrow h 13 (blS q t (t * f * s % q) (h 2) (h 3) (h 4) (uin (h 1) (h 5) f) (uin (h 1) (h 5) 0) (zrK R 24) (k + 1)))) (congrArg (mrow h 13) (stA_f (by simp [uin, f79]; omega)).symm) ?_
                      refine g_iinc X (v := (nI (k + 1))) (lv' := [(0, .ref (kad K (0))), (1, .int (nI (t))), (2, .int (nI (s))), (3, .int (bI (alB (blG h q n d t s) f = true))), (4, .int (nI (f))), (5, .int (nI (k + 1)))]) dX9_isBalanced_115 118 rfl (by decide) rfl (n_inc k 1) rfl rfl ?_
                      refine g_goto X dX9_isBalanced_118 28 (by decide) ?_
                      skip
                      exact ih28 (k + 1) (by omega) (by omega)
                    · skip
                      have e9 : t * f * s ≤ 47 * 2 * 23 := mul_lt4 ht (by omega) (by omega)
                      have e8 : t * f ≤ 47 * 2 := Nat.mul_le_mul ht (by omega)
                      have e7 := Nat.mod_lt (t * f * s) (show 0 < q by omega)
                      refine g_aload_n X dX9_isBalanced_92 93 rfl rfl ?_
                      refine g_aload_n X dX9_isBalanced_93 94 rfl rfl ?_
                      refine g_get (c := 0) (k := 17) (T := TX9) (sk := skM0) (v := .ref (kad K (13))) X wf_X9_57 inX9 dX9_isBalanced_94 97 rfl (by decide) rfl rfl (by decide) rfl ?_
                      refine g_iload X dX9_isBalanced_97 99 rfl rfl ?_
                      refine g_iload_n X dX9_isBalanced_99 100 rfl rfl ?_
                      refine g_iload_n X dX9_isBalanced_100 101 rfl rfl ?_
                      refine g_iload X dX9_isBalanced_101 103 rfl rfl ?_
                      refine g_imul X (v := (nI (t * f))) dX9_isBalanced_103 104 rfl (pk_mul t f) ?_
                      refine g_iload_n X dX9_isBalanced_104 105 rfl rfl ?_
                      refine g_imul X (v := (nI ((t * f) * s))) dX9_isBalanced_105 106 rfl (pk_mul (t * f) s) ?_
                      refine g_aload_n X dX9_isBalanced_106 107 rfl rfl ?_
                      refine g_get (c := 0) (k := 0) (T := TX9) (sk := skM0) (v := .int (nI (q))) X wf_X9_7 inX9 dX9_isBalanced_107 110 rfl (by decide) rfl rfl (by decide) (congrArg Value.int (hq)) ?_
                      have b110 := Nat.mod_le ((t * f) * s) q
                      refine g_irem X (v := (nI (((t * f) * s) % q))) dX9_isBalanced_110 111 rfl (nI_ne (by omega) (by omega)) (pk_rem (by omega) (by omega) (by omega)) ?_
                      refine g_iconst X dX9_isBalanced_111 112 rfl (v := (zI (-1))) rfl ?_
                      refine g_callVvx (st := []) (m2 := (mrow (mrow h 13 (stA q t 0 (h 2) (h 3) (h 4) (nI 1) (uin (h 1) (h 5) f k) k (blS q t (t * f * s % q) (h 2) (h 3) (h 4) (uin (h 1) (h 5) f) (uin (h 1) (h 5) 0) (zrK R 24) k))) 13 (rwA ((t * tn ((mrow h 13 (stA q t 0 (h 2) (h 3) (h 4) (nI 1) (uin (h 1) (h 5) f k) k (blS q t (t * f * s % q) (h 2) (h 3) (h 4) (uin (h 1) (h 5) f) (uin (h 1) (h 5) 0) (zrK R 24) k))) 2 k) + (((t * f) * s) % q)) % q) ((t * tn ((mrow h 13 (stA q t 0 (h 2) (h 3) (h 4) (nI 1) (uin (h 1) (h 5) f k) k (blS q t (t * f * s % q) (h 2) (h 3) (h 4) (uin (h 1) (h 5) f) (uin (h 1) (h 5) 0) (zrK R 24) k))) 3 k) + (((t * f) * s) % q)) % q) ((zI (-1)) * (mrow h 13 (stA q t 0 (h 2) (h 3) (h 4) (nI 1) (uin (h 1) (h 5) f k) k (blS q t (t * f * s % q) (h 2) (h 3) (h 4) (uin (h 1) (h 5) f) (uin (h 1) (h 5) 0) (zrK R 24) k))) 4 k) ((mrow h 13 (stA q t 0 (h 2) (h 3) (h 4) (nI 1) (uin (h 1) (h 5) f k) k (blS q t (t * f * s % q) (h 2) (h 3) (h 4) (uin (h 1) (h 5) f) (uin (h 1) (h 5) 0) (zrK R 24) k))) 13)))) X cw_X9_143 (c_M_addCoil13 (mrow h 13 (stA q t 0 (h 2) (h 3) (h 4) (nI 1) (uin (h 1) (h 5) f k) k (blS q t (t * f * s % q) (h 2) (h 3) (h 4) (uin (h 1) (h 5) f) (uin (h 1) (h 5) 0) (zrK R 24) k))) q m n k t (((t * f) * s) % q) (zI (-1)) (by exact hq) hq1 hq2 hn2 (by exact hc) (by omega) (by omega) (by omega)) dX9_isBalanced_112 115 rfl (by decide) rfl rfl rfl rfl rfl (by decide) (Nat.le_of_ble_eq_true rfl) ?_
                      refine g_mem (h := (mrow (mrow h 13 (stA q t 0 (h 2) (h 3) (h 4) (nI 1) (uin (h 1) (h 5) f k) k (blS q t (t * f * s % q) (h 2) (h 3) (h 4) (uin (h 1) (h 5) f) (uin (h 1) (h 5) 0) (zrK R 24) k))) 13 (rwA ((t * tn ((mrow h 13 (stA q t 0 (h 2) (h 3) (h 4) (nI 1) (uin (h 1) (h 5) f k) k (blS q t (t * f * s % q) (h 2) (h 3) (h 4) (uin (h 1) (h 5) f) (uin (h 1) (h 5) 0) (zrK R 24) k))) 2 k) + (t * f * s % q)) % q) ((t * tn ((mrow h 13 (stA q t 0 (h 2) (h 3) (h 4) (nI 1) (uin (h 1) (h 5) f k) k (blS q t (t * f * s % q) (h 2) (h 3) (h 4) (uin (h 1) (h 5) f) (uin (h 1) (h 5) 0) (zrK R 24) k))) 3 k) + (t * f * s % q)) % q) ((zI (-1)) * (mrow h 13 (stA q t 0 (h 2) (h 3) (h 4) (nI 1) (uin (h 1) (h 5) f k) k (blS q t (t * f * s % q) (h 2) (h 3) (h 4) (uin (h 1) (h 5) f) (uin (h 1) (h 5) 0) (zrK R 24) k))) 4 k) ((mrow h 13 (stA q t 0 (h 2) (h 3) (h 4) (nI 1) (uin (h 1) (h 5) f k) k (blS q t (t * f * s % q) (h 2) (h 3) (h 4) (uin (h 1) (h 5) f) (uin (h 1) (h 5) 0) (zrK R 24) k))) 13)))) (h' := (mrow h 13 (blS q t (t * f * s % q) (h 2) (h 3) (h 4) (uin (h 1) (h 5) f) (uin (h 1) (h 5) 0) (zrK R 24) (k + 1)))) (by rw [mrow_m]; exact congrArg (mrow h 13) (stA_t (by simp [uin, f79]; omega)).symm) ?_
                      refine g_iinc X (v := (nI (k + 1))) (lv' := [(0, .ref (kad K (0))), (1, .int (nI (t))), (2, .int (nI (s))), (3, .int (bI (alB (blG h q n d t s) f = true))), (4, .int (nI (f))), (5, .int (nI (k + 1)))]) dX9_isBalanced_115 118 rfl (by decide) rfl (n_inc k 1) rfl rfl ?_
                      refine g_goto X dX9_isBalanced_118 28 (by decide) ?_
                      skip
                      exact ih28 (k + 1) (by omega) (by omega)
                · skip
                  have hph := (hc k (by omega)).ph.2
                  refine g_aload_n X dX9_isBalanced_47 48 rfl rfl ?_
                  refine g_get (c := 0) (k := 4) (T := TX9) (sk := skM0) (v := .ref (kad K (1))) X wf_X9_19 inX9 dX9_isBalanced_48 51 rfl (by decide) rfl rfl (by decide) rfl ?_
                  refine g_iload X dX9_isBalanced_51 53 rfl rfl ?_
                  refine g_iald (c := 1) (n := 24) (r := 1) (o := 0) (i := k) (v := (nI (tn (h 1 k)))) X dX9_isBalanced_53 54 rfl (by decide) rfl rfl (by omega) ((hc k (by omega)).ph.1) ?_
                  refine g_iload X dX9_isBalanced_54 56 rfl rfl ?_
                  refine g_icmp_ne X ((tn (h 1 k) : Nat) : Int) ((f : Nat) : Int) dX9_isBalanced_56 72 (by decide) 59 rfl (nI_toInt (by omega)) (nI_toInt (by omega)) (fun t56 => ?_) (fun f56 => ?_)
                  · skip
                    refine g_mem (h := (mrow h 13 (blS q t (t * f * s % q) (h 2) (h 3) (h 4) (uin (h 1) (h 5) f) (uin (h 1) (h 5) 0) (zrK R 24) k))) (h' := (mrow h 13 (stA q t 0 (h 2) (h 3) (h 4) (nI 1) (uin (h 1) (h 5) f k) k (blS q t (t * f * s % q) (h 2) (h 3) (h 4) (uin (h 1) (h 5) f) (uin (h 1) (h 5) 0) (zrK R 24) k)))) (congrArg (mrow h 13) (stA_f (by simp [uin, f44]; omega)).symm) ?_
                    refine g_aload_n X dX9_isBalanced_72 73 rfl rfl ?_
                    refine g_get (c := 0) (k := 8) (T := TX9) (sk := skM0) (v := .ref (kad K (5))) X wf_X9_32 inX9 dX9_isBalanced_73 76 rfl (by decide) rfl rfl (by decide) rfl ?_
                    refine g_iload X dX9_isBalanced_76 78 rfl rfl ?_
                    refine g_zald (c := 5) (n := 24) (r := 5) (o := 0) (i := k) (v := (bI (h 5 k = nI 1))) X dX9_isBalanced_78 79 rfl (by decide) rfl rfl (by omega) (us_b (hc k (by omega)).us) ?_
                    refine g_ifeq_B X dX9_isBalanced_79 115 (by decide) 82 rfl (fun t79 => ?_) (fun f79 => ?_)
                    · skip
                      refine g_mem (h := (mrow h 13 (stA q t 0 (h 2) (h 3) (h 4) (nI 1) (uin (h 1) (h 5) f k) k (blS q t (t * f * s % q) (h 2) (h 3) (h 4) (uin (h 1) (h 5) f) (uin (h 1) (h 5) 0) (zrK R 24) k)))) (h' := (mrow h 13 (blS q t (t * f * s % q) (h 2) (h 3) (h 4) (uin (h 1) (h 5) f) (uin (h 1) (h 5) 0) (zrK R 24) (k + 1)))) (congrArg (mrow h 13) (stA_f (by simp [uin, t79])).symm) ?_
                      refine g_iinc X (v := (nI (k + 1))) (lv' := [(0, .ref (kad K (0))), (1, .int (nI (t))), (2, .int (nI (s))), (3, .int (bI (alB (blG h q n d t s) f = true))), (4, .int (nI (f))), (5, .int (nI (k + 1)))]) dX9_isBalanced_115 118 rfl (by decide) rfl (n_inc k 1) rfl rfl ?_
                      refine g_goto X dX9_isBalanced_118 28 (by decide) ?_
                      skip
                      exact ih28 (k + 1) (by omega) (by omega)
                    · skip
                      have hph2 := (hc k (by omega)).ph.2
                      refine g_aload_n X dX9_isBalanced_82 83 rfl rfl ?_
                      refine g_get (c := 0) (k := 4) (T := TX9) (sk := skM0) (v := .ref (kad K (1))) X wf_X9_19 inX9 dX9_isBalanced_83 86 rfl (by decide) rfl rfl (by decide) rfl ?_
                      refine g_iload X dX9_isBalanced_86 88 rfl rfl ?_
                      refine g_iald (c := 1) (n := 24) (r := 1) (o := 0) (i := k) (v := (nI (tn (h 1 k)))) X dX9_isBalanced_88 89 rfl (by decide) rfl rfl (by omega) ((hc k (by omega)).ph.1) ?_
                      refine g_if_ne X ((tn (h 1 k) : Nat) : Int) dX9_isBalanced_89 115 (by decide) 92 rfl (nI_toInt (by omega)) (fun t89 => ?_) (fun f89 => ?_)
                      · skip
                        refine g_mem (h := (mrow h 13 (stA q t 0 (h 2) (h 3) (h 4) (nI 1) (uin (h 1) (h 5) f k) k (blS q t (t * f * s % q) (h 2) (h 3) (h 4) (uin (h 1) (h 5) f) (uin (h 1) (h 5) 0) (zrK R 24) k)))) (h' := (mrow h 13 (blS q t (t * f * s % q) (h 2) (h 3) (h 4) (uin (h 1) (h 5) f) (uin (h 1) (h 5) 0) (zrK R 24) (k + 1)))) (congrArg (mrow h 13) (stA_f (by simp [uin, f79]; omega)).symm) ?_
                        refine g_iinc X (v := (nI (k + 1))) (lv' := [(0, .ref (kad K (0))), (1, .int (nI (t))), (2, .int (nI (s))), (3, .int (bI (alB (blG h q n d t s) f = true))), (4, .int (nI (f))), (5, .int (nI (k + 1)))]) dX9_isBalanced_115 118 rfl (by decide) rfl (n_inc k 1) rfl rfl ?_
                        refine g_goto X dX9_isBalanced_118 28 (by decide) ?_
                        skip
                        exact ih28 (k + 1) (by omega) (by omega)
                      · skip
                        have e9 : t * f * s ≤ 47 * 2 * 23 := mul_lt4 ht (by omega) (by omega)
                        have e8 : t * f ≤ 47 * 2 := Nat.mul_le_mul ht (by omega)
                        have e7 := Nat.mod_lt (t * f * s) (show 0 < q by omega)
                        refine g_aload_n X dX9_isBalanced_92 93 rfl rfl ?_
                        refine g_aload_n X dX9_isBalanced_93 94 rfl rfl ?_
                        refine g_get (c := 0) (k := 17) (T := TX9) (sk := skM0) (v := .ref (kad K (13))) X wf_X9_57 inX9 dX9_isBalanced_94 97 rfl (by decide) rfl rfl (by decide) rfl ?_
                        refine g_iload X dX9_isBalanced_97 99 rfl rfl ?_
                        refine g_iload_n X dX9_isBalanced_99 100 rfl rfl ?_
                        refine g_iload_n X dX9_isBalanced_100 101 rfl rfl ?_
                        refine g_iload X dX9_isBalanced_101 103 rfl rfl ?_
                        refine g_imul X (v := (nI (t * f))) dX9_isBalanced_103 104 rfl (pk_mul t f) ?_
                        refine g_iload_n X dX9_isBalanced_104 105 rfl rfl ?_
                        refine g_imul X (v := (nI ((t * f) * s))) dX9_isBalanced_105 106 rfl (pk_mul (t * f) s) ?_
                        refine g_aload_n X dX9_isBalanced_106 107 rfl rfl ?_
                        refine g_get (c := 0) (k := 0) (T := TX9) (sk := skM0) (v := .int (nI (q))) X wf_X9_7 inX9 dX9_isBalanced_107 110 rfl (by decide) rfl rfl (by decide) (congrArg Value.int (hq)) ?_
                        have b110 := Nat.mod_le ((t * f) * s) q
                        refine g_irem X (v := (nI (((t * f) * s) % q))) dX9_isBalanced_110 111 rfl (nI_ne (by omega) (by omega)) (pk_rem (by omega) (by omega) (by omega)) ?_
                        refine g_iconst X dX9_isBalanced_111 112 rfl (v := (zI (-1))) rfl ?_
                        refine g_callVvx (st := []) (m2 := (mrow (mrow h 13 (stA q t 0 (h 2) (h 3) (h 4) (nI 1) (uin (h 1) (h 5) f k) k (blS q t (t * f * s % q) (h 2) (h 3) (h 4) (uin (h 1) (h 5) f) (uin (h 1) (h 5) 0) (zrK R 24) k))) 13 (rwA ((t * tn ((mrow h 13 (stA q t 0 (h 2) (h 3) (h 4) (nI 1) (uin (h 1) (h 5) f k) k (blS q t (t * f * s % q) (h 2) (h 3) (h 4) (uin (h 1) (h 5) f) (uin (h 1) (h 5) 0) (zrK R 24) k))) 2 k) + (((t * f) * s) % q)) % q) ((t * tn ((mrow h 13 (stA q t 0 (h 2) (h 3) (h 4) (nI 1) (uin (h 1) (h 5) f k) k (blS q t (t * f * s % q) (h 2) (h 3) (h 4) (uin (h 1) (h 5) f) (uin (h 1) (h 5) 0) (zrK R 24) k))) 3 k) + (((t * f) * s) % q)) % q) ((zI (-1)) * (mrow h 13 (stA q t 0 (h 2) (h 3) (h 4) (nI 1) (uin (h 1) (h 5) f k) k (blS q t (t * f * s % q) (h 2) (h 3) (h 4) (uin (h 1) (h 5) f) (uin (h 1) (h 5) 0) (zrK R 24) k))) 4 k) ((mrow h 13 (stA q t 0 (h 2) (h 3) (h 4) (nI 1) (uin (h 1) (h 5) f k) k (blS q t (t * f * s % q) (h 2) (h 3) (h 4) (uin (h 1) (h 5) f) (uin (h 1) (h 5) 0) (zrK R 24) k))) 13)))) X cw_X9_143 (c_M_addCoil13 (mrow h 13 (stA q t 0 (h 2) (h 3) (h 4) (nI 1) (uin (h 1) (h 5) f k) k (blS q t (t * f * s % q) (h 2) (h 3) (h 4) (uin (h 1) (h 5) f) (uin (h 1) (h 5) 0) (zrK R 24) k))) q m n k t (((t * f) * s) % q) (zI (-1)) (by exact hq) hq1 hq2 hn2 (by exact hc) (by omega) (by omega) (by omega)) dX9_isBalanced_112 115 rfl (by decide) rfl rfl rfl rfl rfl (by decide) (Nat.le_of_ble_eq_true rfl) ?_
                        refine g_mem (h := (mrow (mrow h 13 (stA q t 0 (h 2) (h 3) (h 4) (nI 1) (uin (h 1) (h 5) f k) k (blS q t (t * f * s % q) (h 2) (h 3) (h 4) (uin (h 1) (h 5) f) (uin (h 1) (h 5) 0) (zrK R 24) k))) 13 (rwA ((t * tn ((mrow h 13 (stA q t 0 (h 2) (h 3) (h 4) (nI 1) (uin (h 1) (h 5) f k) k (blS q t (t * f * s % q) (h 2) (h 3) (h 4) (uin (h 1) (h 5) f) (uin (h 1) (h 5) 0) (zrK R 24) k))) 2 k) + (t * f * s % q)) % q) ((t * tn ((mrow h 13 (stA q t 0 (h 2) (h 3) (h 4) (nI 1) (uin (h 1) (h 5) f k) k (blS q t (t * f * s % q) (h 2) (h 3) (h 4) (uin (h 1) (h 5) f) (uin (h 1) (h 5) 0) (zrK R 24) k))) 3 k) + (t * f * s % q)) % q) ((zI (-1)) * (mrow h 13 (stA q t 0 (h 2) (h 3) (h 4) (nI 1) (uin (h 1) (h 5) f k) k (blS q t (t * f * s % q) (h 2) (h 3) (h 4) (uin (h 1) (h 5) f) (uin (h 1) (h 5) 0) (zrK R 24) k))) 4 k) ((mrow h 13 (stA q t 0 (h 2) (h 3) (h 4) (nI 1) (uin (h 1) (h 5) f k) k (blS q t (t * f * s % q) (h 2) (h 3) (h 4) (uin (h 1) (h 5) f) (uin (h 1) (h 5) 0) (zrK R 24) k))) 13)))) (h' := (mrow h 13 (blS q t (t * f * s % q) (h 2) (h 3) (h 4) (uin (h 1) (h 5) f) (uin (h 1) (h 5) 0) (zrK R 24) (k + 1)))) (by rw [mrow_m]; exact congrArg (mrow h 13) (stA_t (by simp [uin, f79]; omega)).symm) ?_
                        refine g_iinc X (v := (nI (k + 1))) (lv' := [(0, .ref (kad K (0))), (1, .int (nI (t))), (2, .int (nI (s))), (3, .int (bI (alB (blG h q n d t s) f = true))), (4, .int (nI (f))), (5, .int (nI (k + 1)))]) dX9_isBalanced_115 118 rfl (by decide) rfl (n_inc k 1) rfl rfl ?_
                        refine g_goto X dX9_isBalanced_118 28 (by decide) ?_
                        skip
                        exact ih28 (k + 1) (by omega) (by omega)
                  · skip
                    refine g_aload_n X dX9_isBalanced_59 60 rfl rfl ?_
                    refine g_aload_n X dX9_isBalanced_60 61 rfl rfl ?_
                    refine g_get (c := 0) (k := 17) (T := TX9) (sk := skM0) (v := .ref (kad K (13))) X wf_X9_57 inX9 dX9_isBalanced_61 64 rfl (by decide) rfl rfl (by decide) rfl ?_
                    refine g_iload X dX9_isBalanced_64 66 rfl rfl ?_
                    refine g_iload_n X dX9_isBalanced_66 67 rfl rfl ?_
                    refine g_iconst X dX9_isBalanced_67 68 rfl (v := (nI (0))) rfl ?_
                    refine g_iconst X dX9_isBalanced_68 69 rfl (v := (nI (1))) rfl ?_
                    refine g_callVvx (st := []) (m2 := (mrow (mrow h 13 (blS q t (t * f * s % q) (h 2) (h 3) (h 4) (uin (h 1) (h 5) f) (uin (h 1) (h 5) 0) (zrK R 24) k)) 13 (rwA ((t * tn ((mrow h 13 (blS q t (t * f * s % q) (h 2) (h 3) (h 4) (uin (h 1) (h 5) f) (uin (h 1) (h 5) 0) (zrK R 24) k)) 2 k) + 0) % q) ((t * tn ((mrow h 13 (blS q t (t * f * s % q) (h 2) (h 3) (h 4) (uin (h 1) (h 5) f) (uin (h 1) (h 5) 0) (zrK R 24) k)) 3 k) + 0) % q) ((nI (1)) * (mrow h 13 (blS q t (t * f * s % q) (h 2) (h 3) (h 4) (uin (h 1) (h 5) f) (uin (h 1) (h 5) 0) (zrK R 24) k)) 4 k) ((mrow h 13 (blS q t (t * f * s % q) (h 2) (h 3) (h 4) (uin (h 1) (h 5) f) (uin (h 1) (h 5) 0) (zrK R 24) k)) 13)))) X cw_X9_143 (c_M_addCoil13 (mrow h 13 (blS q t (t * f * s % q) (h 2) (h 3) (h 4) (uin (h 1) (h 5) f) (uin (h 1) (h 5) 0) (zrK R 24) k)) q m n k t 0 (nI (1)) (by exact hq) hq1 hq2 hn2 (by exact hc) (by omega) (by omega) (by omega)) dX9_isBalanced_69 72 rfl (by decide) rfl rfl rfl rfl rfl (by decide) (Nat.le_of_ble_eq_true rfl) ?_
                    refine g_mem (h := (mrow (mrow h 13 (blS q t (t * f * s % q) (h 2) (h 3) (h 4) (uin (h 1) (h 5) f) (uin (h 1) (h 5) 0) (zrK R 24) k)) 13 (rwA ((t * tn ((mrow h 13 (blS q t (t * f * s % q) (h 2) (h 3) (h 4) (uin (h 1) (h 5) f) (uin (h 1) (h 5) 0) (zrK R 24) k)) 2 k) + 0) % q) ((t * tn ((mrow h 13 (blS q t (t * f * s % q) (h 2) (h 3) (h 4) (uin (h 1) (h 5) f) (uin (h 1) (h 5) 0) (zrK R 24) k)) 3 k) + 0) % q) ((nI 1) * (mrow h 13 (blS q t (t * f * s % q) (h 2) (h 3) (h 4) (uin (h 1) (h 5) f) (uin (h 1) (h 5) 0) (zrK R 24) k)) 4 k) ((mrow h 13 (blS q t (t * f * s % q) (h 2) (h 3) (h 4) (uin (h 1) (h 5) f) (uin (h 1) (h 5) 0) (zrK R 24) k)) 13)))) (h' := (mrow h 13 (stA q t 0 (h 2) (h 3) (h 4) (nI 1) (uin (h 1) (h 5) f k) k (blS q t (t * f * s % q) (h 2) (h 3) (h 4) (uin (h 1) (h 5) f) (uin (h 1) (h 5) 0) (zrK R 24) k)))) (by rw [mrow_m]; exact congrArg (mrow h 13) (stA_t (by simp [uin, f44]; omega)).symm) ?_
                    refine g_aload_n X dX9_isBalanced_72 73 rfl rfl ?_
                    refine g_get (c := 0) (k := 8) (T := TX9) (sk := skM0) (v := .ref (kad K (5))) X wf_X9_32 inX9 dX9_isBalanced_73 76 rfl (by decide) rfl rfl (by decide) rfl ?_
                    refine g_iload X dX9_isBalanced_76 78 rfl rfl ?_
                    refine g_zald (c := 5) (n := 24) (r := 5) (o := 0) (i := k) (v := (bI (h 5 k = nI 1))) X dX9_isBalanced_78 79 rfl (by decide) rfl rfl (by omega) (us_b (hc k (by omega)).us) ?_
                    refine g_ifeq_B X dX9_isBalanced_79 115 (by decide) 82 rfl (fun t79 => ?_) (fun f79 => ?_)
                    · skip
                      refine g_mem (h := (mrow h 13 (stA q t 0 (h 2) (h 3) (h 4) (nI 1) (uin (h 1) (h 5) f k) k (blS q t (t * f * s % q) (h 2) (h 3) (h 4) (uin (h 1) (h 5) f) (uin (h 1) (h 5) 0) (zrK R 24) k)))) (h' := (mrow h 13 (blS q t (t * f * s % q) (h 2) (h 3) (h 4) (uin (h 1) (h 5) f) (uin (h 1) (h 5) 0) (zrK R 24) (k + 1)))) (congrArg (mrow h 13) (stA_f (by simp [uin, t79])).symm) ?_
                      refine g_iinc X (v := (nI (k + 1))) (lv' := [(0, .ref (kad K (0))), (1, .int (nI (t))), (2, .int (nI (s))), (3, .int (bI (alB (blG h q n d t s) f = true))), (4, .int (nI (f))), (5, .int (nI (k + 1)))]) dX9_isBalanced_115 118 rfl (by decide) rfl (n_inc k 1) rfl rfl ?_
                      refine g_goto X dX9_isBalanced_118 28 (by decide) ?_
                      skip
                      exact ih28 (k + 1) (by omega) (by omega)
                    · skip
                      have hph2 := (hc k (by omega)).ph.2
                      refine g_aload_n X dX9_isBalanced_82 83 rfl rfl ?_
                      refine g_get (c := 0) (k := 4) (T := TX9) (sk := skM0) (v := .ref (kad K (1))) X wf_X9_19 inX9 dX9_isBalanced_83 86 rfl (by decide) rfl rfl (by decide) rfl ?_
                      refine g_iload X dX9_isBalanced_86 88 rfl rfl ?_
                      refine g_iald (c := 1) (n := 24) (r := 1) (o := 0) (i := k) (v := (nI (tn (h 1 k)))) X dX9_isBalanced_88 89 rfl (by decide) rfl rfl (by omega) ((hc k (by omega)).ph.1) ?_
                      refine g_if_ne X ((tn (h 1 k) : Nat) : Int) dX9_isBalanced_89 115 (by decide) 92 rfl (nI_toInt (by omega)) (fun t89 => ?_) (fun f89 => ?_)
                      · skip
                        refine g_mem (h := (mrow h 13 (stA q t 0 (h 2) (h 3) (h 4) (nI 1) (uin (h 1) (h 5) f k) k (blS q t (t * f * s % q) (h 2) (h 3) (h 4) (uin (h 1) (h 5) f) (uin (h 1) (h 5) 0) (zrK R 24) k)))) (h' := (mrow h 13 (blS q t (t * f * s % q) (h 2) (h 3) (h 4) (uin (h 1) (h 5) f) (uin (h 1) (h 5) 0) (zrK R 24) (k + 1)))) (congrArg (mrow h 13) (stA_f (by simp [uin, f79]; omega)).symm) ?_
                        refine g_iinc X (v := (nI (k + 1))) (lv' := [(0, .ref (kad K (0))), (1, .int (nI (t))), (2, .int (nI (s))), (3, .int (bI (alB (blG h q n d t s) f = true))), (4, .int (nI (f))), (5, .int (nI (k + 1)))]) dX9_isBalanced_115 118 rfl (by decide) rfl (n_inc k 1) rfl rfl ?_
                        refine g_goto X dX9_isBalanced_118 28 (by decide) ?_
                        skip
                        exact ih28 (k + 1) (by omega) (by omega)
                      · skip
                        have e9 : t * f * s ≤ 47 * 2 * 23 := mul_lt4 ht (by omega) (by omega)
                        have e8 : t * f ≤ 47 * 2 := Nat.mul_le_mul ht (by omega)
                        have e7 := Nat.mod_lt (t * f * s) (show 0 < q by omega)
                        refine g_aload_n X dX9_isBalanced_92 93 rfl rfl ?_
                        refine g_aload_n X dX9_isBalanced_93 94 rfl rfl ?_
                        refine g_get (c := 0) (k := 17) (T := TX9) (sk := skM0) (v := .ref (kad K (13))) X wf_X9_57 inX9 dX9_isBalanced_94 97 rfl (by decide) rfl rfl (by decide) rfl ?_
                        refine g_iload X dX9_isBalanced_97 99 rfl rfl ?_
                        refine g_iload_n X dX9_isBalanced_99 100 rfl rfl ?_
                        refine g_iload_n X dX9_isBalanced_100 101 rfl rfl ?_
                        refine g_iload X dX9_isBalanced_101 103 rfl rfl ?_
                        refine g_imul X (v := (nI (t * f))) dX9_isBalanced_103 104 rfl (pk_mul t f) ?_
                        refine g_iload_n X dX9_isBalanced_104 105 rfl rfl ?_
                        refine g_imul X (v := (nI ((t * f) * s))) dX9_isBalanced_105 106 rfl (pk_mul (t * f) s) ?_
                        refine g_aload_n X dX9_isBalanced_106 107 rfl rfl ?_
                        refine g_get (c := 0) (k := 0) (T := TX9) (sk := skM0) (v := .int (nI (q))) X wf_X9_7 inX9 dX9_isBalanced_107 110 rfl (by decide) rfl rfl (by decide) (congrArg Value.int (hq)) ?_
                        have b110 := Nat.mod_le ((t * f) * s) q
                        refine g_irem X (v := (nI (((t * f) * s) % q))) dX9_isBalanced_110 111 rfl (nI_ne (by omega) (by omega)) (pk_rem (by omega) (by omega) (by omega)) ?_
                        refine g_iconst X dX9_isBalanced_111 112 rfl (v := (zI (-1))) rfl ?_
                        refine g_callVvx (st := []) (m2 := (mrow (mrow h 13 (stA q t 0 (h 2) (h 3) (h 4) (nI 1) (uin (h 1) (h 5) f k) k (blS q t (t * f * s % q) (h 2) (h 3) (h 4) (uin (h 1) (h 5) f) (uin (h 1) (h 5) 0) (zrK R 24) k))) 13 (rwA ((t * tn ((mrow h 13 (stA q t 0 (h 2) (h 3) (h 4) (nI 1) (uin (h 1) (h 5) f k) k (blS q t (t * f * s % q) (h 2) (h 3) (h 4) (uin (h 1) (h 5) f) (uin (h 1) (h 5) 0) (zrK R 24) k))) 2 k) + (((t * f) * s) % q)) % q) ((t * tn ((mrow h 13 (stA q t 0 (h 2) (h 3) (h 4) (nI 1) (uin (h 1) (h 5) f k) k (blS q t (t * f * s % q) (h 2) (h 3) (h 4) (uin (h 1) (h 5) f) (uin (h 1) (h 5) 0) (zrK R 24) k))) 3 k) + (((t * f) * s) % q)) % q) ((zI (-1)) * (mrow h 13 (stA q t 0 (h 2) (h 3) (h 4) (nI 1) (uin (h 1) (h 5) f k) k (blS q t (t * f * s % q) (h 2) (h 3) (h 4) (uin (h 1) (h 5) f) (uin (h 1) (h 5) 0) (zrK R 24) k))) 4 k) ((mrow h 13 (stA q t 0 (h 2) (h 3) (h 4) (nI 1) (uin (h 1) (h 5) f k) k (blS q t (t * f * s % q) (h 2) (h 3) (h 4) (uin (h 1) (h 5) f) (uin (h 1) (h 5) 0) (zrK R 24) k))) 13)))) X cw_X9_143 (c_M_addCoil13 (mrow h 13 (stA q t 0 (h 2) (h 3) (h 4) (nI 1) (uin (h 1) (h 5) f k) k (blS q t (t * f * s % q) (h 2) (h 3) (h 4) (uin (h 1) (h 5) f) (uin (h 1) (h 5) 0) (zrK R 24) k))) q m n k t (((t * f) * s) % q) (zI (-1)) (by exact hq) hq1 hq2 hn2 (by exact hc) (by omega) (by omega) (by omega)) dX9_isBalanced_112 115 rfl (by decide) rfl rfl rfl rfl rfl (by decide) (Nat.le_of_ble_eq_true rfl) ?_
                        refine g_mem (h := (mrow (mrow h 13 (stA q t 0 (h 2) (h 3) (h 4) (nI 1) (uin (h 1) (h 5) f k) k (blS q t (t * f * s % q) (h 2) (h 3) (h 4) (uin (h 1) (h 5) f) (uin (h 1) (h 5) 0) (zrK R 24) k))) 13 (rwA ((t * tn ((mrow h 13 (stA q t 0 (h 2) (h 3) (h 4) (nI 1) (uin (h 1) (h 5) f k) k (blS q t (t * f * s % q) (h 2) (h 3) (h 4) (uin (h 1) (h 5) f) (uin (h 1) (h 5) 0) (zrK R 24) k))) 2 k) + (t * f * s % q)) % q) ((t * tn ((mrow h 13 (stA q t 0 (h 2) (h 3) (h 4) (nI 1) (uin (h 1) (h 5) f k) k (blS q t (t * f * s % q) (h 2) (h 3) (h 4) (uin (h 1) (h 5) f) (uin (h 1) (h 5) 0) (zrK R 24) k))) 3 k) + (t * f * s % q)) % q) ((zI (-1)) * (mrow h 13 (stA q t 0 (h 2) (h 3) (h 4) (nI 1) (uin (h 1) (h 5) f k) k (blS q t (t * f * s % q) (h 2) (h 3) (h 4) (uin (h 1) (h 5) f) (uin (h 1) (h 5) 0) (zrK R 24) k))) 4 k) ((mrow h 13 (stA q t 0 (h 2) (h 3) (h 4) (nI 1) (uin (h 1) (h 5) f k) k (blS q t (t * f * s % q) (h 2) (h 3) (h 4) (uin (h 1) (h 5) f) (uin (h 1) (h 5) 0) (zrK R 24) k))) 13)))) (h' := (mrow h 13 (blS q t (t * f * s % q) (h 2) (h 3) (h 4) (uin (h 1) (h 5) f) (uin (h 1) (h 5) 0) (zrK R 24) (k + 1)))) (by rw [mrow_m]; exact congrArg (mrow h 13) (stA_t (by simp [uin, f79]; omega)).symm) ?_
                        refine g_iinc X (v := (nI (k + 1))) (lv' := [(0, .ref (kad K (0))), (1, .int (nI (t))), (2, .int (nI (s))), (3, .int (bI (alB (blG h q n d t s) f = true))), (4, .int (nI (f))), (5, .int (nI (k + 1)))]) dX9_isBalanced_115 118 rfl (by decide) rfl (n_inc k 1) rfl rfl ?_
                        refine g_goto X dX9_isBalanced_118 28 (by decide) ?_
                        skip
                        exact ih28 (k + 1) (by omega) (by omega)
          skip
          refine g_mem (h := (mrow (mrow h 13 R) 13 (zrK ((mrow h 13 R) 13) 24))) (h' := (mrow h 13 (blS q t (t * f * s % q) (h 2) (h 3) (h 4) (uin (h 1) (h 5) f) (uin (h 1) (h 5) 0) (zrK R 24) 0))) (by rw [mrow_m]; rfl) ?_
          exact lp28 _ 0 (by omega) (Nat.lt_succ_self _)
  skip
  refine g_mem (h := h) (h' := (mrow h 13 (h 13))) ((mrow_id _ 13).symm) ?_
  exact lp5 _ 0 (h 13) (by omega) (Nat.lt_succ_self _)
set_option maxHeartbeats 1000000 in
set_option maxRecDepth 100000 in
theorem c_M_balancedBy (h : Mem) (q p m n d : Nat) (C : MC h q p m n d) (t : Nat) (ht : t ≤ 47) : cI 25 ML yX9_balancedBy cX9_balancedBy 3 (some .int) 2 52 (fun ad => [.ref (ad (0)), .int (nI (t))]) h (fun r h2 => r = scanV (balP h q m n d t) q 0 ∧ ∃ R, h2 = mrow h 13 R) := by
  refine cI_of MLW (by decide +kernel) (fun ad => Nat.le_of_ble_eq_true rfl) ?_
  intro K X Z
  obtain ⟨hq, hp, hm, hq1, hq2, hp1, hp2, hm1, hm2, hn, hn2, hc, hd, hd1, hd2⟩ := id C
  show G 25 ML 3 K h 0 [(0, .ref (kad K (0))), (1, .int (nI (t)))] []
  refine g_iconst X dX9_balancedBy_0 1 rfl (v := (nI (0))) rfl ?_
  refine g_istore_n X (lv' := [(0, .ref (kad K (0))), (1, .int (nI (t))), (2, .int (nI 0))]) dX9_balancedBy_1 2 rfl (by decide) rfl rfl ?_
  have lp2 : ∀ (fu : Nat) (s : Nat) (R : Nat → Int32) (hs : s ≤ q) (hsc : scanV (balP h q m n d t) q 0 = scanV (balP h q m n d t) (q - s) s), q - s < fu → G 25 ML 3 K (mrow h 13 R) 2 [(0, .ref (kad K (0))), (1, .int (nI (t))), (2, .int (nI (s)))] [] := by
    intro fu
    induction fu with
    | zero => intro s R hs hsc hm; exact absurd hm (Nat.not_lt_zero _)
    | succ fu ih2 =>
      intro s R hs hsc hm2
      refine g_iload_n X dX9_balancedBy_2 3 rfl rfl ?_
      refine g_aload_n X dX9_balancedBy_3 4 rfl rfl ?_
      refine g_get (c := 0) (k := 0) (T := TX9) (sk := skM0) (v := .int (nI (q))) X wf_X9_7 inX9 dX9_balancedBy_4 7 rfl (by decide) rfl rfl (by decide) (congrArg Value.int (hq)) ?_
      refine g_icmp_ge X ((s : Nat) : Int) ((q : Nat) : Int) dX9_balancedBy_7 27 (by decide) 10 rfl (nI_toInt (by omega)) (nI_toInt (by omega)) (fun t7 => ?_) (fun f7 => ?_)
      · skip
        refine g_bipush X dX9_balancedBy_27 29 rfl (v := (zI (-4))) rfl ?_
        refine g_iret (h := (mrow h 13 R)) (v := (zI (-4))) X Z dX9_balancedBy_29 ?_
        exact ⟨by rw [hsc, show q - s = 0 from by omega]; rfl, _, rfl⟩
      · skip
        refine g_aload_n X dX9_balancedBy_10 11 rfl rfl ?_
        refine g_iload_n X dX9_balancedBy_11 12 rfl rfl ?_
        refine g_iload_n X dX9_balancedBy_12 13 rfl rfl ?_
        refine g_callVi (st := []) X cw_X9_169 (c_M_isBalanced (mrow h 13 R) q p m n d (by exact C) t s ht (by omega)) dX9_balancedBy_13 16 rfl (by decide) rfl rfl rfl rfl rfl (by decide) (Nat.le_of_ble_eq_true rfl) ?_
        rintro r9 h9 ⟨rfl, R9, rfl⟩
        show G 25 ML 3 K (mrow (mrow h 13 R) 13 R9) 16 [(0, .ref (kad K (0))), (1, .int (nI (t))), (2, .int (nI (s)))] [.int (bI (balP h q m n d t s = true))]
        refine g_ifeq_B X dX9_balancedBy_16 21 (by decide) 19 rfl (fun t16 => ?_) (fun f16 => ?_)
        · skip
          refine g_iinc X (v := (nI (s + 1))) (lv' := [(0, .ref (kad K (0))), (1, .int (nI (t))), (2, .int (nI (s + 1)))]) dX9_balancedBy_21 24 rfl (by decide) rfl (n_inc s 1) rfl rfl ?_
          refine g_goto X dX9_balancedBy_24 2 (by decide) ?_
          skip
          refine g_mem (h := (mrow (mrow h 13 R) 13 R9)) (h' := (mrow h 13 R9)) (mrow_m _ _ _ _) ?_
          exact ih2 (s + 1) R9 (by omega) (by rw [hsc, show q - s = (q - (s + 1)) + 1 from by omega, scanV, if_neg t16]) (by omega)
        · skip
          refine g_iload_n X dX9_balancedBy_19 20 rfl rfl ?_
          refine g_iret (h := (mrow (mrow h 13 R) 13 R9)) (v := (nI (s))) X Z dX9_balancedBy_20 ?_
          exact ⟨by rw [hsc, show q - s = (q - (s + 1)) + 1 from by omega, scanV, if_pos f16], _, mrow_m _ _ _ _⟩
  skip
  refine g_mem (h := h) (h' := (mrow h 13 (h 13))) ((mrow_id _ 13).symm) ?_
  exact lp2 _ 0 (h 13) (by omega) rfl (Nat.lt_succ_self _)
set_option maxHeartbeats 1000000 in
set_option maxRecDepth 100000 in
theorem c_M_balanced (h : Mem) (q p m n d : Nat) (II : MI h q p m n d) (x0 : Int32) : cI 25 ML yX9_balanced cX9_balanced 2 (some .int) 3 74 (fun ad => [.ref (ad (0)), .int (x0)]) h (fun r h2 => r = (if 1 ≤ x0.toInt ∧ x0.toInt ≤ 47 then scanV (balP h q m n d (tn x0)) q 0 else zI (-1)) ∧ agr h h2 [13]) := by
  refine cI_of MLW (by decide +kernel) (fun ad => Nat.le_of_ble_eq_true rfl) ?_
  intro K X Z
  obtain ⟨C, hsA, hsB, hpol, hdq, ⟨tz, htz, hto⟩, ⟨pz, hpz, hpk⟩, hshe⟩ := id II
  obtain ⟨hq, hp, hm, hq1, hq2, hp1, hp2, hm1, hm2, hn, hn2, hc, hd, hd1, hd2⟩ := id C
  show G 25 ML 2 K h 0 [(0, .ref (kad K (0))), (1, .int (x0))] []
  refine g_iload_n X dX9_balanced_0 1 rfl rfl ?_
  refine g_callSix (st := []) (v := (bI (1 ≤ (x0).toInt ∧ (x0).toInt ≤ 47))) (m2 := h) X cw_X9_152 (c_M_isTone h (x0) ((x0).toInt) rfl) dX9_balanced_1 4 rfl rfl rfl rfl (by decide) (Nat.le_of_ble_eq_true rfl) ?_
  refine g_ifeq_B X dX9_balanced_4 15 (by decide) 7 rfl (fun t4 => ?_) (fun f4 => ?_)
  · skip
    refine g_iconst X dX9_balanced_15 16 rfl (v := (zI (-1))) rfl ?_
    refine g_iret (h := h) (v := (zI (-1))) X Z dX9_balanced_16 ?_
    exact ⟨(if_neg t4).symm, fun _ _ => rfl⟩
  · skip
    obtain ⟨t, ht0, ht1, rfl⟩ := inR_3 (a := 1) (b := 47) f4
    have et : tn (nI t) = t := tn_nI (by omega)
    refine g_aload_n X dX9_balanced_7 8 rfl rfl ?_
    refine g_iload_n X dX9_balanced_8 9 rfl rfl ?_
    refine g_callVi (st := []) X cw_X9_172 (c_M_balancedBy h q p m n d (by exact C) t (by omega)) dX9_balanced_9 12 rfl (by decide) rfl rfl rfl rfl rfl (by decide) (Nat.le_of_ble_eq_true rfl) ?_
    rintro r9 h9 ⟨rfl, R9, rfl⟩
    show G 25 ML 2 K (mrow h 13 R9) 12 [(0, .ref (kad K (0))), (1, .int (nI (t)))] [.int (scanV (balP h q m n d t) q 0)]
    refine g_goto X dX9_balanced_12 16 (by decide) ?_
    refine g_iret (h := (mrow h 13 R9)) (v := (scanV (balP h q m n d t) q 0)) X Z dX9_balanced_16 ?_
    exact ⟨((if_pos f4).trans (by rw [et])).symm, fun c hc9 => mrow_n _ _ (by simp at hc9; exact hc9)⟩
