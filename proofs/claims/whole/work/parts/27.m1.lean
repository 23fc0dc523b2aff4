set_option maxHeartbeats 1000000 in
set_option maxRecDepth 100000 in
theorem c_M_in (h : Mem) (v lo hi : Int64) (c a b : Int) (hv : v.toInt = c) (hl : lo.toInt = a) (hh : hi.toInt = b) : cI 25 ML yX9_in cX9_in 6 (some .boolean) 0 0 (fun ad => [.long (v), .long (lo), .long (hi)]) h (fun r h2 => r = bI (a ≤ c ∧ c ≤ b) ∧ h2 = h) := by
  refine cI_of MLW (by decide +kernel) (fun ad => Nat.le_of_ble_eq_true rfl) ?_
  intro K X Z
  show G 25 ML 6 K h 0 [(0, .long (v)), (2, .long (lo)), (4, .long (hi))] []
  refine g_lload_n X dX9_in_0 1 rfl rfl ?_
  refine g_lload_n X dX9_in_1 2 rfl rfl ?_
  refine g_lcmp X (v := (lg_cmp v lo)) dX9_in_2 3 rfl rfl ?_
  refine g_if_lt X ((lg_cmp v lo).toInt) dX9_in_3 17 (by decide) 6 rfl rfl (fun t3 => ?_) (fun f3 => ?_)
  · skip
    refine g_iconst X dX9_in_17 18 rfl (v := (nI (0))) rfl ?_
    refine g_zret (h := h) (v := (nI (0))) X Z dX9_in_18 (Or.inl rfl) ?_
    exact ⟨(bI_f (fun z => by have := (lgc hv hl).1.mp t3; omega)).symm, rfl⟩
  · skip
    refine g_lload_n X dX9_in_6 7 rfl rfl ?_
    refine g_lload X dX9_in_7 9 rfl rfl ?_
    refine g_lcmp X (v := (lg_cmp v hi)) dX9_in_9 10 rfl rfl ?_
    refine g_if_gt X ((lg_cmp v hi).toInt) dX9_in_10 17 (by decide) 13 rfl rfl (fun t10 => ?_) (fun f10 => ?_)
    · skip
      refine g_iconst X dX9_in_17 18 rfl (v := (nI (0))) rfl ?_
      refine g_zret (h := h) (v := (nI (0))) X Z dX9_in_18 (Or.inl rfl) ?_
      exact ⟨(bI_f (fun z => by have := (lgc hv hh).2.1.mp t10; omega)).symm, rfl⟩
    · skip
      refine g_iconst X dX9_in_13 14 rfl (v := (nI (1))) rfl ?_
      refine g_goto X dX9_in_14 18 (by decide) ?_
      refine g_zret (h := h) (v := (nI (1))) X Z dX9_in_18 (Or.inr rfl) ?_
      exact ⟨(bI_t ⟨by have := mt (lgc hv hl).1.mpr f3; omega, by have := mt (lgc hv hh).2.1.mpr f10; omega⟩).symm, rfl⟩
set_option maxHeartbeats 1000000 in
set_option maxRecDepth 100000 in
theorem c_M_common (h : Mem) (a b : Nat) (ha : a < 1000) (hb : b < 1000) : cI 25 ML yX9_common cX9_common 5 (some .int) 0 0 (fun ad => [.int (nI (a)), .int (nI (b))]) h (fun r h2 => r = nI (Nat.gcd a b) ∧ h2 = h) := by
  refine cI_of MLW (by decide +kernel) (fun ad => Nat.le_of_ble_eq_true rfl) ?_
  intro K X Z
  show G 25 ML 5 K h 0 [(0, .int (nI (a))), (1, .int (nI (b)))] []
  refine g_iload_n X dX9_common_0 1 rfl rfl ?_
  refine g_istore_n X (lv' := [(0, .int (nI (a))), (1, .int (nI (b))), (2, .int (nI (a)))]) dX9_common_1 2 rfl (by decide) rfl rfl ?_
  refine g_iload_n X dX9_common_2 3 rfl rfl ?_
  refine g_istore_n X (lv' := [(0, .int (nI (a))), (1, .int (nI (b))), (2, .int (nI (a))), (3, .int (nI (b)))]) dX9_common_3 4 rfl (by decide) rfl rfl ?_
  have lp4 : ∀ (fu : Nat) (x : Nat) (y : Nat) (hx : x < 1000) (hy : y < 1000) (hg : Nat.gcd x y = Nat.gcd a b), y < fu → G 25 ML 5 K h 4 [(0, .int (nI (a))), (1, .int (nI (b))), (2, .int (nI (x))), (3, .int (nI (y)))] [] := by
    intro fu
    induction fu with
    | zero => intro x y hx hy hg hm; exact absurd hm (Nat.not_lt_zero _)
    | succ fu ih4 =>
      intro x y hx hy hg hm4
      have hml := Nat.mod_lt x (y := y)
      refine g_iload_n X dX9_common_4 5 rfl rfl ?_
      refine g_if_eq X ((y : Nat) : Int) dX9_common_5 21 (by decide) 8 rfl (nI_toInt (by omega)) (fun t5 => ?_) (fun f5 => ?_)
      · skip
        refine g_iload_n X dX9_common_21 22 rfl rfl ?_
        refine g_iret (h := h) (v := (nI (x))) X Z dX9_common_22 ?_
        exact ⟨by rw [← hg, show y = 0 from by omega, Nat.gcd_zero_right], rfl⟩
      · skip
        refine g_iload_n X dX9_common_8 9 rfl rfl ?_
        refine g_iload_n X dX9_common_9 10 rfl rfl ?_
        have b10 := Nat.mod_le x y
        refine g_irem X (v := (nI (x % y))) dX9_common_10 11 rfl (nI_ne (by omega) (by omega)) (pk_rem (by omega) (by omega) (by omega)) ?_
        refine g_istore X (lv' := [(0, .int (nI (a))), (1, .int (nI (b))), (2, .int (nI (x))), (3, .int (nI (y))), (4, .int (nI (x % y)))]) dX9_common_11 13 rfl (by decide) rfl rfl ?_
        refine g_iload_n X dX9_common_13 14 rfl rfl ?_
        refine g_istore_n X (lv' := [(0, .int (nI (a))), (1, .int (nI (b))), (2, .int (nI (y))), (3, .int (nI (y))), (4, .int (nI (x % y)))]) dX9_common_14 15 rfl (by decide) rfl rfl ?_
        refine g_iload X dX9_common_15 17 rfl rfl ?_
        refine g_istore_n X (lv' := [(0, .int (nI (a))), (1, .int (nI (b))), (2, .int (nI (y))), (3, .int (nI (x % y))), (4, .int (nI (x % y)))]) dX9_common_17 18 rfl (by decide) rfl rfl ?_
        refine g_goto X dX9_common_18 4 (by decide) ?_
        refine g_sub [0, 1, 2, 3] rfl ?_
        exact ih4 y (x % y) hy (by omega) (by rw [← hg, Nat.gcd_comm y (x % y), ← Nat.gcd_rec, Nat.gcd_comm]) (by omega)
  skip
  exact lp4 _ a b ha hb rfl (Nat.lt_succ_self _)
set_option maxHeartbeats 1000000 in
set_option maxRecDepth 100000 in
theorem c_M_isSlot (h : Mem) (v : Int64) (c : Int) (hv : v.toInt = c) (q : Nat) (hq : h 0 0 = nI q) (hq2 : q < 1000) : cI 25 ML yX9_isSlot cX9_isSlot 3 (some .boolean) 1 25 (fun ad => [.ref (ad (0)), .long (v)]) h (fun r h2 => r = bI (0 ≤ c ∧ c ≤ (q : Int) - 1) ∧ h2 = h) := by
  refine cI_of MLW (by decide +kernel) (fun ad => Nat.le_of_ble_eq_true rfl) ?_
  intro K X Z
  show G 25 ML 3 K h 0 [(0, .ref (kad K (0))), (1, .long (v))] []
  refine g_lload_n X dX9_isSlot_0 1 rfl rfl ?_
  refine g_lconst X dX9_isSlot_1 2 rfl (v := (0 : Int64)) rfl ?_
  refine g_aload_n X dX9_isSlot_2 3 rfl rfl ?_
  refine g_get (c := 0) (k := 0) (T := TX9) (sk := skM0) (v := .int (nI (q))) X wf_X9_7 inX9 dX9_isSlot_3 6 rfl (by decide) rfl rfl (by decide) (congrArg Value.int (hq)) ?_
  refine g_iconst X dX9_isSlot_6 7 rfl (v := (nI (1))) rfl ?_
  refine g_isub X (v := (zI (((q : Nat) : Int) - ((1 : Nat) : Int)))) dX9_isSlot_7 8 rfl (nn_sub q 1) ?_
  refine g_i2l X (v := (zI (((q : Nat) : Int) - ((1 : Nat) : Int))).toInt64) dX9_isSlot_8 9 rfl rfl ?_
  refine g_callSix (st := []) (v := (bI (0 ≤ c ∧ c ≤ ((q : Nat) : Int) - ((1 : Nat) : Int)))) (m2 := h) X cw_X9_100 (c_M_in h v (0 : Int64) ((zI (((q : Nat) : Int) - ((1 : Nat) : Int))).toInt64) c 0 (((q : Nat) : Int) - ((1 : Nat) : Int)) hv rfl (i64_of (zI_toInt (by omega)))) dX9_isSlot_9 12 rfl rfl rfl rfl (by decide) (Nat.le_of_ble_eq_true rfl) ?_
  refine g_zret (h := h) (v := (bI (0 ≤ c ∧ c ≤ ((q : Nat) : Int) - ((1 : Nat) : Int)))) X Z dX9_isSlot_12 (bI_01 _) ?_
  exact ⟨rfl, rfl⟩
set_option maxHeartbeats 1000000 in
set_option maxRecDepth 100000 in
theorem c_M_isCoil (h : Mem) (v0 v1 v2 v3 : Int64) (c0 c1 c2 c3 : Int) (e0 : v0.toInt = c0) (e1 : v1.toInt = c1) (e2 : v2.toInt = c2) (e3 : v3.toInt = c3) (q m : Nat) (hq : h 0 0 = nI q) (hm : h 0 2 = nI m) (hq2 : q ≤ 24) (hm2 : m ≤ 3) : cI 25 ML yX9_isCoil cX9_isCoil 9 (some .boolean) 2 47 (fun ad => [.ref (ad (0)), .long (v0), .long (v1), .long (v2), .long (v3)]) h (fun r h2 => r = bI ((0 ≤ c0 ∧ c0 ≤ (m : Int) - 1) ∧ (0 ≤ c1 ∧ c1 ≤ (q : Int) - 1) ∧ (0 ≤ c2 ∧ c2 ≤ (q : Int) - 1) ∧ ¬ c1 = c2 ∧ (1 ≤ c3 ∧ c3 ≤ 99)) ∧ h2 = h) := by
  refine cI_of MLW (by decide +kernel) (fun ad => Nat.le_of_ble_eq_true rfl) ?_
  intro K X Z
  show G 25 ML 9 K h 0 [(0, .ref (kad K (0))), (1, .long (v0)), (3, .long (v1)), (5, .long (v2)), (7, .long (v3))] []
  refine g_lload_n X dX9_isCoil_0 1 rfl rfl ?_
  refine g_lconst X dX9_isCoil_1 2 rfl (v := (0 : Int64)) rfl ?_
  refine g_aload_n X dX9_isCoil_2 3 rfl rfl ?_
  refine g_get (c := 0) (k := 2) (T := TX9) (sk := skM0) (v := .int (nI (m))) X wf_X9_16 inX9 dX9_isCoil_3 6 rfl (by decide) rfl rfl (by decide) (congrArg Value.int (hm)) ?_
  refine g_iconst X dX9_isCoil_6 7 rfl (v := (nI (1))) rfl ?_
  refine g_isub X (v := (zI (((m : Nat) : Int) - ((1 : Nat) : Int)))) dX9_isCoil_7 8 rfl (nn_sub m 1) ?_
  refine g_i2l X (v := (zI (((m : Nat) : Int) - ((1 : Nat) : Int))).toInt64) dX9_isCoil_8 9 rfl rfl ?_
  refine g_callSix (st := []) (v := (bI (0 ≤ c0 ∧ c0 ≤ ((m : Nat) : Int) - ((1 : Nat) : Int)))) (m2 := h) X cw_X9_100 (c_M_in h v0 (0 : Int64) ((zI (((m : Nat) : Int) - ((1 : Nat) : Int))).toInt64) c0 0 (((m : Nat) : Int) - ((1 : Nat) : Int)) e0 rfl (i64_of (zI_toInt (by omega)))) dX9_isCoil_9 12 rfl rfl rfl rfl (by decide) (Nat.le_of_ble_eq_true rfl) ?_
  refine g_ifeq_B X dX9_isCoil_12 55 (by decide) 15 rfl (fun t12 => ?_) (fun f12 => ?_)
  · skip
    refine g_iconst X dX9_isCoil_55 56 rfl (v := (nI (0))) rfl ?_
    refine g_zret (h := h) (v := (nI (0))) X Z dX9_isCoil_56 (Or.inl rfl) ?_
    exact ⟨(bI_f (fun z => t12 z.1)).symm, rfl⟩
  · skip
    refine g_aload_n X dX9_isCoil_15 16 rfl rfl ?_
    refine g_lload_n X dX9_isCoil_16 17 rfl rfl ?_
    refine g_callVix (st := []) (v := (bI (0 ≤ c1 ∧ c1 ≤ (q : Int) - 1))) (m2 := h) X cw_X9_110 (c_M_isSlot h v1 c1 e1 q hq (by omega)) dX9_isCoil_17 20 rfl (by decide) rfl rfl rfl rfl rfl (by decide) (Nat.le_of_ble_eq_true rfl) ?_
    refine g_ifeq_B X dX9_isCoil_20 55 (by decide) 23 rfl (fun t20 => ?_) (fun f20 => ?_)
    · skip
      refine g_iconst X dX9_isCoil_55 56 rfl (v := (nI (0))) rfl ?_
      refine g_zret (h := h) (v := (nI (0))) X Z dX9_isCoil_56 (Or.inl rfl) ?_
      exact ⟨(bI_f (fun z => t20 z.2.1)).symm, rfl⟩
    · skip
      refine g_aload_n X dX9_isCoil_23 24 rfl rfl ?_
      refine g_lload X dX9_isCoil_24 26 rfl rfl ?_
      refine g_callVix (st := []) (v := (bI (0 ≤ c2 ∧ c2 ≤ (q : Int) - 1))) (m2 := h) X cw_X9_110 (c_M_isSlot h v2 c2 e2 q hq (by omega)) dX9_isCoil_26 29 rfl (by decide) rfl rfl rfl rfl rfl (by decide) (Nat.le_of_ble_eq_true rfl) ?_
      refine g_ifeq_B X dX9_isCoil_29 55 (by decide) 32 rfl (fun t29 => ?_) (fun f29 => ?_)
      · skip
        refine g_iconst X dX9_isCoil_55 56 rfl (v := (nI (0))) rfl ?_
        refine g_zret (h := h) (v := (nI (0))) X Z dX9_isCoil_56 (Or.inl rfl) ?_
        exact ⟨(bI_f (fun z => t29 z.2.2.1)).symm, rfl⟩
      · skip
        refine g_lload_n X dX9_isCoil_32 33 rfl rfl ?_
        refine g_lload X dX9_isCoil_33 35 rfl rfl ?_
        refine g_lcmp X (v := (lg_cmp v1 v2)) dX9_isCoil_35 36 rfl rfl ?_
        refine g_if_eq X ((lg_cmp v1 v2).toInt) dX9_isCoil_36 55 (by decide) 39 rfl rfl (fun t36 => ?_) (fun f36 => ?_)
        · skip
          refine g_iconst X dX9_isCoil_55 56 rfl (v := (nI (0))) rfl ?_
          refine g_zret (h := h) (v := (nI (0))) X Z dX9_isCoil_56 (Or.inl rfl) ?_
          exact ⟨(bI_f (fun z => z.2.2.2.1 ((lgc e1 e2).2.2.mp t36))).symm, rfl⟩
        · skip
          refine g_lload X dX9_isCoil_39 41 rfl rfl ?_
          refine g_lconst X dX9_isCoil_41 42 rfl (v := (1 : Int64)) rfl ?_
          refine g_ldc2 X (v := (99)) dX9_isCoil_42 45 rfl wk_X9_114 ?_
          refine g_callSix (st := []) (v := (bI (1 ≤ c3 ∧ c3 ≤ 99))) (m2 := h) X cw_X9_100 (c_M_in h v3 (1 : Int64) (99 : Int64) c3 1 99 e3 rfl rfl) dX9_isCoil_45 48 rfl rfl rfl rfl (by decide) (Nat.le_of_ble_eq_true rfl) ?_
          refine g_ifeq_B X dX9_isCoil_48 55 (by decide) 51 rfl (fun t48 => ?_) (fun f48 => ?_)
          · skip
            refine g_iconst X dX9_isCoil_55 56 rfl (v := (nI (0))) rfl ?_
            refine g_zret (h := h) (v := (nI (0))) X Z dX9_isCoil_56 (Or.inl rfl) ?_
            exact ⟨(bI_f (fun z => t48 z.2.2.2.2)).symm, rfl⟩
          · skip
            refine g_iconst X dX9_isCoil_51 52 rfl (v := (nI (1))) rfl ?_
            refine g_goto X dX9_isCoil_52 56 (by decide) ?_
            refine g_zret (h := h) (v := (nI (1))) X Z dX9_isCoil_56 (Or.inr rfl) ?_
            exact ⟨(bI_t ⟨f12, f20, f29, fun z => f36 ((lgc e1 e2).2.2.mpr z), f48⟩).symm, rfl⟩
set_option maxHeartbeats 1000000 in
set_option maxRecDepth 100000 in
theorem c_M_isTone (h : Mem) (x : Int32) (c : Int) (hx : x.toInt = c) : cI 25 ML yX9_isTone cX9_isTone 1 (some .boolean) 1 25 (fun ad => [.int (x)]) h (fun r h2 => r = bI (1 ≤ c ∧ c ≤ 47) ∧ h2 = h) := by
  refine cI_of MLW (by decide +kernel) (fun ad => Nat.le_of_ble_eq_true rfl) ?_
  intro K X Z
  show G 25 ML 1 K h 0 [(0, .int (x))] []
  refine g_iload_n X dX9_isTone_0 1 rfl rfl ?_
  refine g_i2l X (v := (x).toInt64) dX9_isTone_1 2 rfl rfl ?_
  refine g_lconst X dX9_isTone_2 3 rfl (v := (1 : Int64)) rfl ?_
  refine g_ldc2 X (v := (47)) dX9_isTone_3 6 rfl wk_X9_150 ?_
  refine g_callSix (st := []) (v := (bI (1 ≤ c ∧ c ≤ 47))) (m2 := h) X cw_X9_100 (c_M_in h ((x).toInt64) (1 : Int64) (47 : Int64) c 1 47 (i64_of hx) rfl rfl) dX9_isTone_6 9 rfl rfl rfl rfl (by decide) (Nat.le_of_ble_eq_true rfl) ?_
  refine g_zret (h := h) (v := (bI (1 ≤ c ∧ c ≤ 47))) X Z dX9_isTone_9 (bI_01 _) ?_
  exact ⟨rfl, rfl⟩
set_option maxHeartbeats 1000000 in
set_option maxRecDepth 100000 in
theorem c_M_add (h : Mem) (n a b : Nat) (x0 x3 : Int32) (hn : h 0 3 = nI n) (hn2 : n < 24) (ha : a < 24) (hb : b < 24) : cI 25 ML yX9_add cX9_add 5 (some .int) 0 0 (fun ad => [.ref (ad (0)), .int (x0), .int (nI (a)), .int (nI (b)), .int (x3)]) h (fun r h2 => r = nI n ∧ h2 = adX h n x0 (nI a) (nI b) x3) := by
  refine cI_of MLW (by decide +kernel) (fun ad => Nat.le_of_ble_eq_true rfl) ?_
  intro K X Z
  show G 25 ML 5 K h 0 [(0, .ref (kad K (0))), (1, .int (x0)), (2, .int (nI (a))), (3, .int (nI (b))), (4, .int (x3))] []
  refine g_aload_n X dX9_add_0 1 rfl rfl ?_
  refine g_get (c := 0) (k := 4) (T := TX9) (sk := skM0) (v := .ref (kad K (1))) X wf_X9_19 inX9 dX9_add_1 4 rfl (by decide) rfl rfl (by decide) rfl ?_
  refine g_aload_n X dX9_add_4 5 rfl rfl ?_
  refine g_get (c := 0) (k := 3) (T := TX9) (sk := skM0) (v := .int (nI (n))) X wf_X9_116 inX9 dX9_add_5 8 rfl (by decide) rfl rfl (by decide) (congrArg Value.int (hn)) ?_
  refine g_iload_n X dX9_add_8 9 rfl rfl ?_
  refine g_iast (c := 1) (n := 24) (r := 1) (o := 0) (i := n) X dX9_add_9 10 rfl (by decide) rfl rfl (by omega) ?_
  refine g_aload_n X dX9_add_10 11 rfl rfl ?_
  refine g_get (c := 0) (k := 5) (T := TX9) (sk := skM0) (v := .ref (kad K (2))) X wf_X9_23 inX9 dX9_add_11 14 rfl (by decide) rfl rfl (by decide) rfl ?_
  refine g_aload_n X dX9_add_14 15 rfl rfl ?_
  refine g_get (c := 0) (k := 3) (T := TX9) (sk := skM0) (v := .int (nI (n))) X wf_X9_116 inX9 dX9_add_15 18 rfl (by decide) rfl rfl (by decide) (congrArg Value.int (hn)) ?_
  refine g_iload_n X dX9_add_18 19 rfl rfl ?_
  refine g_iast (c := 2) (n := 24) (r := 2) (o := 0) (i := n) X dX9_add_19 20 rfl (by decide) rfl rfl (by omega) ?_
  refine g_aload_n X dX9_add_20 21 rfl rfl ?_
  refine g_get (c := 0) (k := 6) (T := TX9) (sk := skM0) (v := .ref (kad K (3))) X wf_X9_26 inX9 dX9_add_21 24 rfl (by decide) rfl rfl (by decide) rfl ?_
  refine g_aload_n X dX9_add_24 25 rfl rfl ?_
  refine g_get (c := 0) (k := 3) (T := TX9) (sk := skM0) (v := .int (nI (n))) X wf_X9_116 inX9 dX9_add_25 28 rfl (by decide) rfl rfl (by decide) (congrArg Value.int (hn)) ?_
  refine g_iload_n X dX9_add_28 29 rfl rfl ?_
  refine g_iast (c := 3) (n := 24) (r := 3) (o := 0) (i := n) X dX9_add_29 30 rfl (by decide) rfl rfl (by omega) ?_
  refine g_aload_n X dX9_add_30 31 rfl rfl ?_
  refine g_get (c := 0) (k := 7) (T := TX9) (sk := skM0) (v := .ref (kad K (4))) X wf_X9_29 inX9 dX9_add_31 34 rfl (by decide) rfl rfl (by decide) rfl ?_
  refine g_aload_n X dX9_add_34 35 rfl rfl ?_
  refine g_get (c := 0) (k := 3) (T := TX9) (sk := skM0) (v := .int (nI (n))) X wf_X9_116 inX9 dX9_add_35 38 rfl (by decide) rfl rfl (by decide) (congrArg Value.int (hn)) ?_
  refine g_iload X dX9_add_38 40 rfl rfl ?_
  refine g_iast (c := 4) (n := 24) (r := 4) (o := 0) (i := n) X dX9_add_40 41 rfl (by decide) rfl rfl (by omega) ?_
  refine g_aload_n X dX9_add_41 42 rfl rfl ?_
  refine g_get (c := 0) (k := 8) (T := TX9) (sk := skM0) (v := .ref (kad K (5))) X wf_X9_32 inX9 dX9_add_42 45 rfl (by decide) rfl rfl (by decide) rfl ?_
  refine g_aload_n X dX9_add_45 46 rfl rfl ?_
  refine g_get (c := 0) (k := 3) (T := TX9) (sk := skM0) (v := .int (nI (n))) X wf_X9_116 inX9 dX9_add_46 49 rfl (by decide) rfl rfl (by decide) (congrArg Value.int (hn)) ?_
  refine g_iconst X dX9_add_49 50 rfl (v := (nI (1))) rfl ?_
  refine g_zast (c := 5) (n := 24) (r := 5) (o := 0) (i := n) (w := (nI (1))) X dX9_add_50 51 rfl (by decide) rfl rfl (by omega) rfl ?_
  refine g_aload_n X dX9_add_51 52 rfl rfl ?_
  refine g_get (c := 0) (k := 9) (T := TX9) (sk := skM0) (v := .ref (kad K (6))) X wf_X9_36 inX9 dX9_add_52 55 rfl (by decide) rfl rfl (by decide) rfl ?_
  refine g_iload_n X dX9_add_55 56 rfl rfl ?_
  refine g_dup2 X dX9_add_56 57 rfl rfl rfl ?_
  refine g_iald (c := 6) (n := 24) (r := 6) (o := 0) (i := a) (v := (h 6 a)) X dX9_add_57 58 rfl (by decide) rfl rfl (by omega) rfl ?_
  refine g_iconst X dX9_add_58 59 rfl (v := (nI (1))) rfl ?_
  refine g_iadd X (v := (h 6 a + nI 1)) dX9_add_59 60 rfl rfl ?_
  refine g_iast (c := 6) (n := 24) (r := 6) (o := 0) (i := a) X dX9_add_60 61 rfl (by decide) rfl rfl (by omega) ?_
  refine g_aload_n X dX9_add_61 62 rfl rfl ?_
  refine g_get (c := 0) (k := 9) (T := TX9) (sk := skM0) (v := .ref (kad K (6))) X wf_X9_36 inX9 dX9_add_62 65 rfl (by decide) rfl rfl (by decide) rfl ?_
  refine g_iload_n X dX9_add_65 66 rfl rfl ?_
  refine g_dup2 X dX9_add_66 67 rfl rfl rfl ?_
  refine g_iald (c := 6) (n := 24) (r := 6) (o := 0) (i := b) (v := (upd (h 6) a (h 6 a + nI 1) b)) X dX9_add_67 68 rfl (by decide) rfl rfl (by omega) rfl ?_
  refine g_iconst X dX9_add_68 69 rfl (v := (nI (1))) rfl ?_
  refine g_iadd X (v := (upd (h 6) a (h 6 a + nI 1) b + nI 1)) dX9_add_69 70 rfl rfl ?_
  refine g_iast (c := 6) (n := 24) (r := 6) (o := 0) (i := b) X dX9_add_70 71 rfl (by decide) rfl rfl (by omega) ?_
  refine g_aload_n X dX9_add_71 72 rfl rfl ?_
  refine g_dup X dX9_add_72 73 rfl rfl ?_
  refine g_get (c := 0) (k := 3) (T := TX9) (sk := skM0) (v := .int (nI (n))) X wf_X9_116 inX9 dX9_add_73 76 rfl (by decide) rfl rfl (by decide) (congrArg Value.int (hn)) ?_
  refine g_iconst X dX9_add_76 77 rfl (v := (nI (1))) rfl ?_
  refine g_iadd X (v := (nI (n + 1))) dX9_add_77 78 rfl (nI_add n 1) ?_
  refine g_put (c := 0) (k := 3) (T := TX9) (sk := skM0) X wf_X9_116 inX9 tyX9_ok nmX9 dX9_add_78 81 rfl (by decide) rfl rfl (by decide) rfl rfl rfl ?_
  refine g_aload_n X dX9_add_81 82 rfl rfl ?_
  refine g_get (c := 0) (k := 3) (T := TX9) (sk := skM0) (v := .int (nI (n + 1))) X wf_X9_116 inX9 dX9_add_82 85 rfl (by decide) rfl rfl (by decide) rfl ?_
  refine g_iconst X dX9_add_85 86 rfl (v := (nI (1))) rfl ?_
  refine g_isub X (v := (nI (n))) dX9_add_86 87 rfl (nI_dec n) ?_
  refine g_iret (h := (mup (mup (mup (mup (mup (mup (mup (mup h 1 n (x0)) 2 n (nI (a))) 3 n (nI (b))) 4 n (x3)) 5 n (nI (1))) 6 a (h 6 a + nI 1)) 6 b (upd (h 6) a (h 6 a + nI 1) b + nI 1)) 0 3 (nI (n + 1)))) (v := (nI (n))) X Z dX9_add_87 ?_
  refine ⟨rfl, ?_⟩
  rw [adX, tn_nI (by omega), tn_nI (by omega)]
  exact (ad_mem h n a b _ _ _ _).symm
set_option maxHeartbeats 1000000 in
set_option maxRecDepth 100000 in
theorem c_M_coil (h : Mem) (q p m n d : Nat) (C : MC h q p m n d) (hsd : ∀ j, j < 24 → h 6 j = nI (tn (h 6 j)) ∧ tn (h 6 j) ≤ 2 ∧ (h 6 j).toInt = ((tn (h 6 j) : Nat) : Int)) (x0 x1 x2 x3 : Int32) : cI 25 ML yX9_coil cX9_coil 5 (some .int) 3 75 (fun ad => [.ref (ad (0)), .int (x0), .int (x1), .int (x2), .int (x3)]) h (fun r h2 => r = layV q m n (h 6) x0 x1 x2 x3 ∧ h2 = if layG q m n (h 6) x0 x1 x2 x3 then adX h n x0 x1 x2 x3 else h) := by
  refine cI_of MLW (by decide +kernel) (fun ad => Nat.le_of_ble_eq_true rfl) ?_
  intro K X Z
  obtain ⟨hq, hp, hm, hq1, hq2, hp1, hp2, hm1, hm2, hn, hn2, hc, hd, hd1, hd2⟩ := id C
  show G 25 ML 5 K h 0 [(0, .ref (kad K (0))), (1, .int (x0)), (2, .int (x1)), (3, .int (x2)), (4, .int (x3))] []
  refine g_aload_n X dX9_coil_0 1 rfl rfl ?_
  refine g_iload_n X dX9_coil_1 2 rfl rfl ?_
  refine g_i2l X (v := (x0).toInt64) dX9_coil_2 3 rfl rfl ?_
  refine g_iload_n X dX9_coil_3 4 rfl rfl ?_
  refine g_i2l X (v := (x1).toInt64) dX9_coil_4 5 rfl rfl ?_
  refine g_iload_n X dX9_coil_5 6 rfl rfl ?_
  refine g_i2l X (v := (x2).toInt64) dX9_coil_6 7 rfl rfl ?_
  refine g_iload X dX9_coil_7 9 rfl rfl ?_
  refine g_i2l X (v := (x3).toInt64) dX9_coil_9 10 rfl rfl ?_
  refine g_callVix (st := []) (v := (bI ((0 ≤ (x0).toInt ∧ (x0).toInt ≤ (m : Int) - 1) ∧ (0 ≤ (x1).toInt ∧ (x1).toInt ≤ (q : Int) - 1) ∧ (0 ≤ (x2).toInt ∧ (x2).toInt ≤ (q : Int) - 1) ∧ ¬ (x1).toInt = (x2).toInt ∧ (1 ≤ (x3).toInt ∧ (x3).toInt ≤ 99)))) (m2 := h) X cw_X9_119 (c_M_isCoil h ((x0).toInt64) ((x1).toInt64) ((x2).toInt64) ((x3).toInt64) ((x0).toInt) ((x1).toInt) ((x2).toInt) ((x3).toInt) (i64_of rfl) (i64_of rfl) (i64_of rfl) (i64_of rfl) q m hq hm (by omega) (by omega)) dX9_coil_10 13 rfl (by decide) rfl rfl rfl rfl rfl (by decide) (Nat.le_of_ble_eq_true rfl) ?_
  refine g_ifne_B X dX9_coil_13 18 (by decide) 16 rfl (fun t13 => ?_) (fun f13 => ?_)
  · skip
    obtain ⟨⟨f1, f2⟩, f3, f4, f5, f6⟩ := id t13
    obtain ⟨a0, ha0, rfl⟩ := inR_nat f3
    obtain ⟨b0, hb0, rfl⟩ := inR_nat f4
    have ta9 : tn (nI a0) = a0 := tn_nI (by omega)
    have tb9 : tn (nI b0) = b0 := tn_nI (by omega)
    have ok9 : okc q m x0 (nI a0) (nI b0) x3 := t13
    have hsa := hsd a0 (by omega)
    have hsb := hsd b0 (by omega)
    refine g_aload_n X dX9_coil_18 19 rfl rfl ?_
    refine g_get (c := 0) (k := 9) (T := TX9) (sk := skM0) (v := .ref (kad K (6))) X wf_X9_36 inX9 dX9_coil_19 22 rfl (by decide) rfl rfl (by decide) rfl ?_
    refine g_iload_n X dX9_coil_22 23 rfl rfl ?_
    refine g_iald (c := 6) (n := 24) (r := 6) (o := 0) (i := a0) (v := (nI (tn (h 6 a0)))) X dX9_coil_23 24 rfl (by decide) rfl rfl (by omega) ((hsd a0 (by omega)).1) ?_
    refine g_iconst X dX9_coil_24 25 rfl (v := (nI (2))) rfl ?_
    refine g_icmp_eq X ((tn (h 6 a0) : Nat) : Int) 2 dX9_coil_25 38 (by decide) 28 rfl (nI_toInt (by omega)) rfl (fun t25 => ?_) (fun f25 => ?_)
    · skip
      refine g_bipush X dX9_coil_38 40 rfl (v := (zI (-2))) rfl ?_
      refine g_iret (h := h) (v := (zI (-2))) X Z dX9_coil_40 ?_
      have g9 : fullS (h 6) (nI a0) (nI b0) := Or.inl (by rw [ta9]; have := (hsd a0 (by omega)).2.2; omega)
      exact ⟨((if_pos ok9).trans (if_pos g9)).symm, (if_neg (fun z => z.2.1 g9)).symm⟩
    · skip
      refine g_aload_n X dX9_coil_28 29 rfl rfl ?_
      refine g_get (c := 0) (k := 9) (T := TX9) (sk := skM0) (v := .ref (kad K (6))) X wf_X9_36 inX9 dX9_coil_29 32 rfl (by decide) rfl rfl (by decide) rfl ?_
      refine g_iload_n X dX9_coil_32 33 rfl rfl ?_
      refine g_iald (c := 6) (n := 24) (r := 6) (o := 0) (i := b0) (v := (nI (tn (h 6 b0)))) X dX9_coil_33 34 rfl (by decide) rfl rfl (by omega) ((hsd b0 (by omega)).1) ?_
      refine g_iconst X dX9_coil_34 35 rfl (v := (nI (2))) rfl ?_
      refine g_icmp_ne X ((tn (h 6 b0) : Nat) : Int) 2 dX9_coil_35 41 (by decide) 38 rfl (nI_toInt (by omega)) rfl (fun t35 => ?_) (fun f35 => ?_)
      · skip
        refine g_aload_n X dX9_coil_41 42 rfl rfl ?_
        refine g_get (c := 0) (k := 3) (T := TX9) (sk := skM0) (v := .int (nI (n))) X wf_X9_116 inX9 dX9_coil_42 45 rfl (by decide) rfl rfl (by decide) (congrArg Value.int (hn)) ?_
        refine g_bipush X dX9_coil_45 47 rfl (v := (nI (24))) rfl ?_
        refine g_icmp_ne X ((n : Nat) : Int) 24 dX9_coil_47 55 (by decide) 50 rfl (nI_toInt (by omega)) rfl (fun t47 => ?_) (fun f47 => ?_)
        · skip
          refine g_aload_n X dX9_coil_55 56 rfl rfl ?_
          refine g_iload_n X dX9_coil_56 57 rfl rfl ?_
          refine g_iload_n X dX9_coil_57 58 rfl rfl ?_
          refine g_iload_n X dX9_coil_58 59 rfl rfl ?_
          refine g_iload X dX9_coil_59 61 rfl rfl ?_
          refine g_callVix (st := []) (v := (nI (n))) (m2 := (adX h n x0 (nI a0) (nI b0) x3)) X cw_X9_123 (c_M_add h n a0 b0 x0 x3 hn (by omega) (by omega) (by omega)) dX9_coil_61 64 rfl (by decide) rfl rfl rfl rfl rfl (by decide) (Nat.le_of_ble_eq_true rfl) ?_
          refine g_iret (h := (adX h n x0 (nI a0) (nI b0) x3)) (v := (nI (n))) X Z dX9_coil_64 ?_
          have g9 : ¬ fullS (h 6) (nI a0) (nI b0) := by
            rw [fullS, ta9, tb9]
            have := (hsd a0 (by omega)).2.2; have := (hsd b0 (by omega)).2.2; have := (hsd a0 (by omega)).2.1; have := (hsd b0 (by omega)).2.1; omega
          exact ⟨((if_pos ok9).trans ((if_neg g9).trans (if_neg (by omega)))).symm, (if_pos ⟨ok9, g9, by omega⟩).symm⟩
        · skip
          refine g_bipush X dX9_coil_50 52 rfl (v := (zI (-3))) rfl ?_
          refine g_goto X dX9_coil_52 64 (by decide) ?_
          refine g_iret (h := h) (v := (zI (-3))) X Z dX9_coil_64 ?_
          have g9 : ¬ fullS (h 6) (nI a0) (nI b0) := by
            rw [fullS, ta9, tb9]
            have := (hsd a0 (by omega)).2.2; have := (hsd b0 (by omega)).2.2; have := (hsd a0 (by omega)).2.1; have := (hsd b0 (by omega)).2.1; omega
          exact ⟨((if_pos ok9).trans ((if_neg g9).trans (if_pos (by omega)))).symm, (if_neg (fun z => by have := z.2.2; omega)).symm⟩
      · skip
        refine g_bipush X dX9_coil_38 40 rfl (v := (zI (-2))) rfl ?_
        refine g_iret (h := h) (v := (zI (-2))) X Z dX9_coil_40 ?_
        have g9 : fullS (h 6) (nI a0) (nI b0) := Or.inr (by rw [tb9]; have := (hsd b0 (by omega)).2.2; omega)
        exact ⟨((if_pos ok9).trans (if_pos g9)).symm, (if_neg (fun z => z.2.1 g9)).symm⟩
  · skip
    refine g_iconst X dX9_coil_16 17 rfl (v := (zI (-1))) rfl ?_
    refine g_iret (h := h) (v := (zI (-1))) X Z dX9_coil_17 ?_
    exact ⟨(if_neg f13).symm, (if_neg (fun z => f13 z.1)).symm⟩
set_option maxHeartbeats 1000000 in
set_option maxRecDepth 100000 in
theorem c_M_use (h : Mem) (q p m n d : Nat) (C : MC h q p m n d) (x0 v : Int32) (hv : v = nI 0 ∨ v = nI 1) : cI 25 ML yX9_use cX9_use 4 (some .int) 1 25 (fun ad => [.ref (ad (0)), .int (x0), .int (v)]) h (fun r h2 => r = (if isC n x0 then h 5 (tn x0) else zI (-1)) ∧ h2 = if isC n x0 then mup h 5 (tn x0) v else h) := by
  refine cI_of MLW (by decide +kernel) (fun ad => Nat.le_of_ble_eq_true rfl) ?_
  intro K X Z
  obtain ⟨hq, hp, hm, hq1, hq2, hp1, hp2, hm1, hm2, hn, hn2, hc, hd, hd1, hd2⟩ := id C
  show G 25 ML 4 K h 0 [(0, .ref (kad K (0))), (1, .int (x0)), (2, .int (v))] []
  refine g_iload_n X dX9_use_0 1 rfl rfl ?_
  refine g_i2l X (v := (x0).toInt64) dX9_use_1 2 rfl rfl ?_
  refine g_lconst X dX9_use_2 3 rfl (v := (0 : Int64)) rfl ?_
  refine g_aload_n X dX9_use_3 4 rfl rfl ?_
  refine g_get (c := 0) (k := 3) (T := TX9) (sk := skM0) (v := .int (nI (n))) X wf_X9_116 inX9 dX9_use_4 7 rfl (by decide) rfl rfl (by decide) (congrArg Value.int (hn)) ?_
  refine g_iconst X dX9_use_7 8 rfl (v := (nI (1))) rfl ?_
  refine g_isub X (v := (zI (((n : Nat) : Int) - ((1 : Nat) : Int)))) dX9_use_8 9 rfl (nn_sub n 1) ?_
  refine g_i2l X (v := (zI (((n : Nat) : Int) - ((1 : Nat) : Int))).toInt64) dX9_use_9 10 rfl rfl ?_
  refine g_callSix (st := []) (v := (bI (0 ≤ (x0).toInt ∧ (x0).toInt ≤ ((n : Nat) : Int) - ((1 : Nat) : Int)))) (m2 := h) X cw_X9_100 (c_M_in h ((x0).toInt64) (0 : Int64) ((zI (((n : Nat) : Int) - ((1 : Nat) : Int))).toInt64) ((x0).toInt) 0 (((n : Nat) : Int) - ((1 : Nat) : Int)) (i64_of rfl) rfl (i64_of (zI_toInt (by omega)))) dX9_use_10 13 rfl rfl rfl rfl (by decide) (Nat.le_of_ble_eq_true rfl) ?_
  refine g_ifne_B X dX9_use_13 18 (by decide) 16 rfl (fun t13 => ?_) (fun f13 => ?_)
  · skip
    obtain ⟨k, hk, rfl⟩ := inR_nat t13
    refine g_aload_n X dX9_use_18 19 rfl rfl ?_
    refine g_get (c := 0) (k := 8) (T := TX9) (sk := skM0) (v := .ref (kad K (5))) X wf_X9_32 inX9 dX9_use_19 22 rfl (by decide) rfl rfl (by decide) rfl ?_
    refine g_iload_n X dX9_use_22 23 rfl rfl ?_
    refine g_zald (c := 5) (n := 24) (r := 5) (o := 0) (i := k) (v := (bI (h 5 k = nI 1))) X dX9_use_23 24 rfl (by decide) rfl rfl (by omega) (us_b (hc k (by omega)).us) ?_
    refine g_ifeq_B X dX9_use_24 31 (by decide) 27 rfl (fun t24 => ?_) (fun f24 => ?_)
    · skip
      refine g_iconst X dX9_use_31 32 rfl (v := (nI (0))) rfl ?_
      refine g_eq (st' := [.int (h 5 k)]) rfl rfl (by rw [us_b (hc k hk).us, bI_f t24]) ?_
      refine g_istore_n X (lv' := [(0, .ref (kad K (0))), (1, .int (nI (k))), (2, .int (v)), (3, .int (h 5 k))]) dX9_use_32 33 rfl (by decide) rfl rfl ?_
      refine g_aload_n X dX9_use_33 34 rfl rfl ?_
      refine g_get (c := 0) (k := 8) (T := TX9) (sk := skM0) (v := .ref (kad K (5))) X wf_X9_32 inX9 dX9_use_34 37 rfl (by decide) rfl rfl (by decide) rfl ?_
      refine g_iload_n X dX9_use_37 38 rfl rfl ?_
      refine g_iload_n X dX9_use_38 39 rfl rfl ?_
      refine g_zast (c := 5) (n := 24) (r := 5) (o := 0) (i := k) (w := (v)) X dX9_use_39 40 rfl (by decide) rfl rfl (by omega) (nar_b hv) ?_
      refine g_iload_n X dX9_use_40 41 rfl rfl ?_
      refine g_iret (h := (mup h 5 k (v))) (v := (h 5 k)) X Z dX9_use_41 ?_
      exact ⟨((if_pos t13).trans (by rw [tn_nI (by omega)])).symm, ((if_pos t13).trans (by rw [tn_nI (by omega)])).symm⟩
    · skip
      refine g_iconst X dX9_use_27 28 rfl (v := (nI (1))) rfl ?_
      refine g_goto X dX9_use_28 32 (by decide) ?_
      refine g_eq (st' := [.int (h 5 k)]) rfl rfl (by rw [us_b (hc k hk).us, bI_t f24]) ?_
      refine g_istore_n X (lv' := [(0, .ref (kad K (0))), (1, .int (nI (k))), (2, .int (v)), (3, .int (h 5 k))]) dX9_use_32 33 rfl (by decide) rfl rfl ?_
      refine g_aload_n X dX9_use_33 34 rfl rfl ?_
      refine g_get (c := 0) (k := 8) (T := TX9) (sk := skM0) (v := .ref (kad K (5))) X wf_X9_32 inX9 dX9_use_34 37 rfl (by decide) rfl rfl (by decide) rfl ?_
      refine g_iload_n X dX9_use_37 38 rfl rfl ?_
      refine g_iload_n X dX9_use_38 39 rfl rfl ?_
      refine g_zast (c := 5) (n := 24) (r := 5) (o := 0) (i := k) (w := (v)) X dX9_use_39 40 rfl (by decide) rfl rfl (by omega) (nar_b hv) ?_
      refine g_iload_n X dX9_use_40 41 rfl rfl ?_
      refine g_iret (h := (mup h 5 k (v))) (v := (h 5 k)) X Z dX9_use_41 ?_
      exact ⟨((if_pos t13).trans (by rw [tn_nI (by omega)])).symm, ((if_pos t13).trans (by rw [tn_nI (by omega)])).symm⟩
  · skip
    refine g_iconst X dX9_use_16 17 rfl (v := (zI (-1))) rfl ?_
    refine g_iret (h := h) (v := (zI (-1))) X Z dX9_use_17 ?_
    exact ⟨(if_neg f13).symm, (if_neg f13).symm⟩
set_option maxHeartbeats 1000000 in
set_option maxRecDepth 100000 in
theorem c_M_clear (h : Mem) : cI 25 ML yX9_clear cX9_clear 3 (some .int) 0 0 (fun ad => [.ref (ad (0))]) h (fun r h2 => r = h 0 3 ∧ h2 = clM h) := by
  refine cI_of MLW (by decide +kernel) (fun ad => Nat.le_of_ble_eq_true rfl) ?_
  intro K X Z
  show G 25 ML 3 K h 0 [(0, .ref (kad K (0)))] []
  refine g_aload_n X dX9_clear_0 1 rfl rfl ?_
  refine g_get (c := 0) (k := 3) (T := TX9) (sk := skM0) (v := .int (h 0 3)) X wf_X9_116 inX9 dX9_clear_1 4 rfl (by decide) rfl rfl (by decide) rfl ?_
  refine g_istore_n X (lv' := [(0, .ref (kad K (0))), (1, .int (h 0 3))]) dX9_clear_4 5 rfl (by decide) rfl rfl ?_
  refine g_aload_n X dX9_clear_5 6 rfl rfl ?_
  refine g_iconst X dX9_clear_6 7 rfl (v := (nI (0))) rfl ?_
  refine g_put (c := 0) (k := 3) (T := TX9) (sk := skM0) X wf_X9_116 inX9 tyX9_ok nmX9 dX9_clear_7 10 rfl (by decide) rfl rfl (by decide) rfl rfl rfl ?_
  refine g_iconst X dX9_clear_10 11 rfl (v := (nI (0))) rfl ?_
  refine g_istore_n X (lv' := [(0, .ref (kad K (0))), (1, .int (h 0 3)), (2, .int (nI 0))]) dX9_clear_11 12 rfl (by decide) rfl rfl ?_
  have lp12 : ∀ (fu : Nat) (k : Nat) (hk : k ≤ 24), 24 - k < fu → G 25 ML 3 K (mrow (mup h 0 3 (nI (0))) 6 (zrK (h 6) k)) 12 [(0, .ref (kad K (0))), (1, .int (h 0 3)), (2, .int (nI (k)))] [] := by
    intro fu
    induction fu with
    | zero => intro k hk hm; exact absurd hm (Nat.not_lt_zero _)
    | succ fu ih12 =>
      intro k hk hm12
      refine g_iload_n X dX9_clear_12 13 rfl rfl ?_
      refine g_bipush X dX9_clear_13 15 rfl (v := (nI (24))) rfl ?_
      refine g_icmp_ge X ((k : Nat) : Int) 24 dX9_clear_15 31 (by decide) 18 rfl (nI_toInt (by omega)) rfl (fun t15 => ?_) (fun f15 => ?_)
      · skip
        refine g_iload_n X dX9_clear_31 32 rfl rfl ?_
        refine g_iret (h := (mrow (mup h 0 3 (nI (0))) 6 (zrK (h 6) k))) (v := (h 0 3)) X Z dX9_clear_32 ?_
        exact ⟨rfl, by rw [show k = 24 from by omega]; rfl⟩
      · skip
        refine g_aload_n X dX9_clear_18 19 rfl rfl ?_
        refine g_get (c := 0) (k := 9) (T := TX9) (sk := skM0) (v := .ref (kad K (6))) X wf_X9_36 inX9 dX9_clear_19 22 rfl (by decide) rfl rfl (by decide) rfl ?_
        refine g_iload_n X dX9_clear_22 23 rfl rfl ?_
        refine g_iconst X dX9_clear_23 24 rfl (v := (nI (0))) rfl ?_
        refine g_iast (c := 6) (n := 24) (r := 6) (o := 0) (i := k) X dX9_clear_24 25 rfl (by decide) rfl rfl (by omega) ?_
        refine g_iinc X (v := (nI (k + 1))) (lv' := [(0, .ref (kad K (0))), (1, .int (h 0 3)), (2, .int (nI (k + 1)))]) dX9_clear_25 28 rfl (by decide) rfl (n_inc k 1) rfl rfl ?_
        refine g_goto X dX9_clear_28 12 (by decide) ?_
        skip
        refine g_mem (h := (mup (mrow (mup h 0 3 (nI (0))) 6 (zrK (h 6) k)) 6 k (nI (0)))) (h' := (mrow (mup h 0 3 (nI (0))) 6 (zrK (h 6) (k + 1)))) (by rw [mup_m, zrK_s]) ?_
        exact ih12 (k + 1) (by omega) (by omega)
  skip
  refine g_mem (h := (mup h 0 3 (nI (0)))) (h' := (mrow (mup h 0 3 (nI (0))) 6 (zrK (h 6) 0))) (by rw [zrK_0]; exact (mrow_id _ 6).symm) ?_
  exact lp12 _ 0 (by omega) (Nat.lt_succ_self _)
set_option maxHeartbeats 1000000 in
set_option maxRecDepth 100000 in
theorem c_M_told (h : Mem) (q p m n d : Nat) (C : MC h q p m n d) (x0 x1 : Int32) : cI 25 ML yX9_told cX9_told 3 (some .int) 1 25 (fun ad => [.ref (ad (0)), .int (x0), .int (x1)]) h (fun r h2 => r = toldV n (h 1) (h 2) (h 3) (h 4) (h 5) x0 x1 ∧ h2 = h) := by
  refine cI_of MLW (by decide +kernel) (fun ad => Nat.le_of_ble_eq_true rfl) ?_
  intro K X Z
  obtain ⟨hq, hp, hm, hq1, hq2, hp1, hp2, hm1, hm2, hn, hn2, hc, hd, hd1, hd2⟩ := id C
  show G 25 ML 3 K h 0 [(0, .ref (kad K (0))), (1, .int (x0)), (2, .int (x1))] []
  refine g_iload_n X dX9_told_0 1 rfl rfl ?_
  refine g_i2l X (v := (x0).toInt64) dX9_told_1 2 rfl rfl ?_
  refine g_lconst X dX9_told_2 3 rfl (v := (0 : Int64)) rfl ?_
  refine g_aload_n X dX9_told_3 4 rfl rfl ?_
  refine g_get (c := 0) (k := 3) (T := TX9) (sk := skM0) (v := .int (nI (n))) X wf_X9_116 inX9 dX9_told_4 7 rfl (by decide) rfl rfl (by decide) (congrArg Value.int (hn)) ?_
  refine g_iconst X dX9_told_7 8 rfl (v := (nI (1))) rfl ?_
  refine g_isub X (v := (zI (((n : Nat) : Int) - ((1 : Nat) : Int)))) dX9_told_8 9 rfl (nn_sub n 1) ?_
  refine g_i2l X (v := (zI (((n : Nat) : Int) - ((1 : Nat) : Int))).toInt64) dX9_told_9 10 rfl rfl ?_
  refine g_callSix (st := []) (v := (bI (0 ≤ (x0).toInt ∧ (x0).toInt ≤ ((n : Nat) : Int) - ((1 : Nat) : Int)))) (m2 := h) X cw_X9_100 (c_M_in h ((x0).toInt64) (0 : Int64) ((zI (((n : Nat) : Int) - ((1 : Nat) : Int))).toInt64) ((x0).toInt) 0 (((n : Nat) : Int) - ((1 : Nat) : Int)) (i64_of rfl) rfl (i64_of (zI_toInt (by omega)))) dX9_told_10 13 rfl rfl rfl rfl (by decide) (Nat.le_of_ble_eq_true rfl) ?_
  refine g_ifeq_B X dX9_told_13 28 (by decide) 16 rfl (fun t13 => ?_) (fun f13 => ?_)
  · skip
    refine g_iconst X dX9_told_28 29 rfl (v := (zI (-1))) rfl ?_
    refine g_iret (h := h) (v := (zI (-1))) X Z dX9_told_29 ?_
    exact ⟨(if_neg t13).symm, rfl⟩
  · skip
    refine g_iload_n X dX9_told_16 17 rfl rfl ?_
    refine g_i2l X (v := (x1).toInt64) dX9_told_17 18 rfl rfl ?_
    refine g_lconst X dX9_told_18 19 rfl (v := (0 : Int64)) rfl ?_
    refine g_ldc2 X (v := (4)) dX9_told_19 22 rfl wk_X9_127 ?_
    refine g_callSix (st := []) (v := (bI (0 ≤ (x1).toInt ∧ (x1).toInt ≤ 4))) (m2 := h) X cw_X9_100 (c_M_in h ((x1).toInt64) (0 : Int64) (4 : Int64) ((x1).toInt) 0 4 (i64_of rfl) rfl rfl) dX9_told_22 25 rfl rfl rfl rfl (by decide) (Nat.le_of_ble_eq_true rfl) ?_
    refine g_ifne_B X dX9_told_25 30 (by decide) 28 rfl (fun t25 => ?_) (fun f25 => ?_)
    · skip
      obtain ⟨k, hk, rfl⟩ := inR_nat f13
      refine g_iload_n X dX9_told_30 31 rfl rfl ?_
      refine g_if_ne X ((x1).toInt) dX9_told_31 43 (by decide) 34 rfl rfl (fun t31 => ?_) (fun f31 => ?_)
      · skip
        refine g_iload_n X dX9_told_43 44 rfl rfl ?_
        refine g_iconst X dX9_told_44 45 rfl (v := (nI (1))) rfl ?_
        refine g_icmp_ne X ((x1).toInt) 1 dX9_told_45 57 (by decide) 48 rfl rfl rfl (fun t45 => ?_) (fun f45 => ?_)
        · skip
          refine g_iload_n X dX9_told_57 58 rfl rfl ?_
          refine g_iconst X dX9_told_58 59 rfl (v := (nI (2))) rfl ?_
          refine g_icmp_ne X ((x1).toInt) 2 dX9_told_59 71 (by decide) 62 rfl rfl rfl (fun t59 => ?_) (fun f59 => ?_)
          · skip
            refine g_iload_n X dX9_told_71 72 rfl rfl ?_
            refine g_iconst X dX9_told_72 73 rfl (v := (nI (3))) rfl ?_
            refine g_icmp_ne X ((x1).toInt) 3 dX9_told_73 85 (by decide) 76 rfl rfl rfl (fun t73 => ?_) (fun f73 => ?_)
            · skip
              refine g_aload_n X dX9_told_85 86 rfl rfl ?_
              refine g_get (c := 0) (k := 8) (T := TX9) (sk := skM0) (v := .ref (kad K (5))) X wf_X9_32 inX9 dX9_told_86 89 rfl (by decide) rfl rfl (by decide) rfl ?_
              refine g_iload_n X dX9_told_89 90 rfl rfl ?_
              refine g_zald (c := 5) (n := 24) (r := 5) (o := 0) (i := k) (v := (bI (h 5 k = nI 1))) X dX9_told_90 91 rfl (by decide) rfl rfl (by omega) (us_b (hc k (by omega)).us) ?_
              refine g_ifeq_B X dX9_told_91 98 (by decide) 94 rfl (fun t91 => ?_) (fun f91 => ?_)
              · skip
                refine g_iconst X dX9_told_98 99 rfl (v := (nI (0))) rfl ?_
                refine g_iret (h := h) (v := (nI (0))) X Z dX9_told_99 ?_
                exact ⟨((if_pos f13).trans ((if_neg (by omega)).trans ((if_neg (by omega)).trans ((if_neg (by omega)).trans ((if_neg (by omega)).trans ((if_pos (by omega)).trans (by rw [tn_nI (by omega)]; rw [us_b (hc k hk).us, bI_f t91]))))))).symm, rfl⟩
              · skip
                refine g_iconst X dX9_told_94 95 rfl (v := (nI (1))) rfl ?_
                refine g_goto X dX9_told_95 99 (by decide) ?_
                refine g_iret (h := h) (v := (nI (1))) X Z dX9_told_99 ?_
                exact ⟨((if_pos f13).trans ((if_neg (by omega)).trans ((if_neg (by omega)).trans ((if_neg (by omega)).trans ((if_neg (by omega)).trans ((if_pos (by omega)).trans (by rw [tn_nI (by omega)]; rw [us_b (hc k hk).us, bI_t f91]))))))).symm, rfl⟩
            · skip
              refine g_aload_n X dX9_told_76 77 rfl rfl ?_
              refine g_get (c := 0) (k := 7) (T := TX9) (sk := skM0) (v := .ref (kad K (4))) X wf_X9_29 inX9 dX9_told_77 80 rfl (by decide) rfl rfl (by decide) rfl ?_
              refine g_iload_n X dX9_told_80 81 rfl rfl ?_
              refine g_iald (c := 4) (n := 24) (r := 4) (o := 0) (i := k) (v := (h 4 k)) X dX9_told_81 82 rfl (by decide) rfl rfl (by omega) rfl ?_
              refine g_goto X dX9_told_82 99 (by decide) ?_
              refine g_iret (h := h) (v := (h 4 k)) X Z dX9_told_99 ?_
              exact ⟨((if_pos f13).trans ((if_neg (by omega)).trans ((if_neg (by omega)).trans ((if_neg (by omega)).trans ((if_pos (by omega)).trans (by rw [tn_nI (by omega)])))))).symm, rfl⟩
          · skip
            refine g_aload_n X dX9_told_62 63 rfl rfl ?_
            refine g_get (c := 0) (k := 6) (T := TX9) (sk := skM0) (v := .ref (kad K (3))) X wf_X9_26 inX9 dX9_told_63 66 rfl (by decide) rfl rfl (by decide) rfl ?_
            refine g_iload_n X dX9_told_66 67 rfl rfl ?_
            refine g_iald (c := 3) (n := 24) (r := 3) (o := 0) (i := k) (v := (h 3 k)) X dX9_told_67 68 rfl (by decide) rfl rfl (by omega) rfl ?_
            refine g_goto X dX9_told_68 99 (by decide) ?_
            refine g_iret (h := h) (v := (h 3 k)) X Z dX9_told_99 ?_
            exact ⟨((if_pos f13).trans ((if_neg (by omega)).trans ((if_neg (by omega)).trans ((if_pos (by omega)).trans (by rw [tn_nI (by omega)]))))).symm, rfl⟩
        · skip
          refine g_aload_n X dX9_told_48 49 rfl rfl ?_
          refine g_get (c := 0) (k := 5) (T := TX9) (sk := skM0) (v := .ref (kad K (2))) X wf_X9_23 inX9 dX9_told_49 52 rfl (by decide) rfl rfl (by decide) rfl ?_
          refine g_iload_n X dX9_told_52 53 rfl rfl ?_
          refine g_iald (c := 2) (n := 24) (r := 2) (o := 0) (i := k) (v := (h 2 k)) X dX9_told_53 54 rfl (by decide) rfl rfl (by omega) rfl ?_
          refine g_goto X dX9_told_54 99 (by decide) ?_
          refine g_iret (h := h) (v := (h 2 k)) X Z dX9_told_99 ?_
          exact ⟨((if_pos f13).trans ((if_neg (by omega)).trans ((if_pos (by omega)).trans (by rw [tn_nI (by omega)])))).symm, rfl⟩
      · skip
        refine g_aload_n X dX9_told_34 35 rfl rfl ?_
        refine g_get (c := 0) (k := 4) (T := TX9) (sk := skM0) (v := .ref (kad K (1))) X wf_X9_19 inX9 dX9_told_35 38 rfl (by decide) rfl rfl (by decide) rfl ?_
        refine g_iload_n X dX9_told_38 39 rfl rfl ?_
        refine g_iald (c := 1) (n := 24) (r := 1) (o := 0) (i := k) (v := (h 1 k)) X dX9_told_39 40 rfl (by decide) rfl rfl (by omega) rfl ?_
        refine g_goto X dX9_told_40 99 (by decide) ?_
        refine g_iret (h := h) (v := (h 1 k)) X Z dX9_told_99 ?_
        exact ⟨((if_pos f13).trans ((if_pos (by omega)).trans (by rw [tn_nI (by omega)]))).symm, rfl⟩
    · skip
      refine g_iconst X dX9_told_28 29 rfl (v := (zI (-1))) rfl ?_
      refine g_iret (h := h) (v := (zI (-1))) X Z dX9_told_29 ?_
      exact ⟨((if_pos f13).trans ((if_neg (by omega)).trans ((if_neg (by omega)).trans ((if_neg (by omega)).trans ((if_neg (by omega)).trans (if_neg (by omega))))))).symm, rfl⟩
set_option maxHeartbeats 1000000 in
set_option maxRecDepth 100000 in
theorem c_M_sides (h : Mem) (q p m n d : Nat) (C : MC h q p m n d) (x0 : Int32) : cI 25 ML yX9_sides cX9_sides 2 (some .int) 2 47 (fun ad => [.ref (ad (0)), .int (x0)]) h (fun r h2 => r = sidV q (h 6) x0 ∧ h2 = h) := by
  refine cI_of MLW (by decide +kernel) (fun ad => Nat.le_of_ble_eq_true rfl) ?_
  intro K X Z
  obtain ⟨hq, hp, hm, hq1, hq2, hp1, hp2, hm1, hm2, hn, hn2, hc, hd, hd1, hd2⟩ := id C
  show G 25 ML 2 K h 0 [(0, .ref (kad K (0))), (1, .int (x0))] []
  refine g_aload_n X dX9_sides_0 1 rfl rfl ?_
  refine g_iload_n X dX9_sides_1 2 rfl rfl ?_
  refine g_i2l X (v := (x0).toInt64) dX9_sides_2 3 rfl rfl ?_
  refine g_callVix (st := []) (v := (bI (0 ≤ (x0).toInt ∧ (x0).toInt ≤ (q : Int) - 1))) (m2 := h) X cw_X9_110 (c_M_isSlot h ((x0).toInt64) ((x0).toInt) (i64_of rfl) q hq (by omega)) dX9_sides_3 6 rfl (by decide) rfl rfl rfl rfl rfl (by decide) (Nat.le_of_ble_eq_true rfl) ?_
  refine g_ifeq_B X dX9_sides_6 18 (by decide) 9 rfl (fun t6 => ?_) (fun f6 => ?_)
  · skip
    refine g_iconst X dX9_sides_18 19 rfl (v := (zI (-1))) rfl ?_
    refine g_iret (h := h) (v := (zI (-1))) X Z dX9_sides_19 ?_
    exact ⟨(if_neg t6).symm, rfl⟩
  · skip
    obtain ⟨k, hk, rfl⟩ := inR_nat f6
    refine g_aload_n X dX9_sides_9 10 rfl rfl ?_
    refine g_get (c := 0) (k := 9) (T := TX9) (sk := skM0) (v := .ref (kad K (6))) X wf_X9_36 inX9 dX9_sides_10 13 rfl (by decide) rfl rfl (by decide) rfl ?_
    refine g_iload_n X dX9_sides_13 14 rfl rfl ?_
    refine g_iald (c := 6) (n := 24) (r := 6) (o := 0) (i := k) (v := (h 6 k)) X dX9_sides_14 15 rfl (by decide) rfl rfl (by omega) rfl ?_
    refine g_goto X dX9_sides_15 19 (by decide) ?_
    refine g_iret (h := h) (v := (h 6 k)) X Z dX9_sides_19 ?_
    exact ⟨((if_pos f6).trans (by rw [tn_nI (by omega)])).symm, rfl⟩
set_option maxHeartbeats 1000000 in
set_option maxRecDepth 100000 in
theorem c_M_count (h : Mem) (q p m n d : Nat) (C : MC h q p m n d) (x0 : Int32) : cI 25 ML yX9_count cX9_count 4 (some .int) 1 24 (fun ad => [.ref (ad (0)), .int (x0)]) h (fun r h2 => r = cntV q p m n d (h 5) x0 ∧ h2 = h) := by
  refine cI_of MLW (by decide +kernel) (fun ad => Nat.le_of_ble_eq_true rfl) ?_
  intro K X Z
  obtain ⟨hq, hp, hm, hq1, hq2, hp1, hp2, hm1, hm2, hn, hn2, hc, hd, hd1, hd2⟩ := id C
  show G 25 ML 4 K h 0 [(0, .ref (kad K (0))), (1, .int (x0))] []
  refine g_iconst X dX9_count_0 1 rfl (v := (nI (0))) rfl ?_
  refine g_istore_n X (lv' := [(0, .ref (kad K (0))), (1, .int (x0)), (2, .int (nI 0))]) dX9_count_1 2 rfl (by decide) rfl rfl ?_
  refine g_iload_n X dX9_count_2 3 rfl rfl ?_
  rcases sw8 (x0) with rfl | rfl | rfl | rfl | rfl | rfl | rfl | rfl | so
  · skip
    refine g_tabIn X dX9_count_3 0 rfl 45 48 ⟨by decide, by decide, rfl, by decide⟩ ?_
    refine g_aload_n X dX9_count_48 49 rfl rfl ?_
    refine g_get (c := 0) (k := 3) (T := TX9) (sk := skM0) (v := .int (nI (n))) X wf_X9_116 inX9 dX9_count_49 52 rfl (by decide) rfl rfl (by decide) (congrArg Value.int (hn)) ?_
    refine g_iret (h := h) (v := (nI (n))) X Z dX9_count_52 ?_
    exact ⟨(if_pos (by decide)).symm, rfl⟩
  · skip
    refine g_tabIn X dX9_count_3 1 rfl 50 53 ⟨by decide, by decide, rfl, by decide⟩ ?_
    refine g_iconst X dX9_count_53 54 rfl (v := (nI (0))) rfl ?_
    refine g_istore_n X (lv' := [(0, .ref (kad K (0))), (1, .int (nI 1)), (2, .int (nI 0)), (3, .int (nI 0))]) dX9_count_54 55 rfl (by decide) rfl rfl ?_
    have lp55 : ∀ (fu : Nat) (k : Nat) (u : Nat) (hk : k ≤ n) (hu : u = cntU (h 5) k), n - k < fu → G 25 ML 4 K h 55 [(0, .ref (kad K (0))), (1, .int (nI 1)), (2, .int (nI (u))), (3, .int (nI (k)))] [] := by
      intro fu
      induction fu with
      | zero => intro k u hk hu hm; exact absurd hm (Nat.not_lt_zero _)
      | succ fu ih55 =>
        intro k u hk hu hm55
        have hcl := cntU_le (h 5) k
        refine g_iload_n X dX9_count_55 56 rfl rfl ?_
        refine g_aload_n X dX9_count_56 57 rfl rfl ?_
        refine g_get (c := 0) (k := 3) (T := TX9) (sk := skM0) (v := .int (nI (n))) X wf_X9_116 inX9 dX9_count_57 60 rfl (by decide) rfl rfl (by decide) (congrArg Value.int (hn)) ?_
        refine g_icmp_ge X ((k : Nat) : Int) ((n : Nat) : Int) dX9_count_60 86 (by decide) 63 rfl (nI_toInt (by omega)) (nI_toInt (by omega)) (fun t60 => ?_) (fun f60 => ?_)
        · skip
          refine g_iload_n X dX9_count_86 87 rfl rfl ?_
          refine g_iret (h := h) (v := (nI (u))) X Z dX9_count_87 ?_
          exact ⟨((if_neg (by decide)).trans ((if_pos (by decide)).trans (by rw [show n = k from by omega, hu]))).symm, rfl⟩
        · skip
          refine g_iload_n X dX9_count_63 64 rfl rfl ?_
          refine g_aload_n X dX9_count_64 65 rfl rfl ?_
          refine g_get (c := 0) (k := 8) (T := TX9) (sk := skM0) (v := .ref (kad K (5))) X wf_X9_32 inX9 dX9_count_65 68 rfl (by decide) rfl rfl (by decide) rfl ?_
          refine g_iload_n X dX9_count_68 69 rfl rfl ?_
          refine g_zald (c := 5) (n := 24) (r := 5) (o := 0) (i := k) (v := (bI (h 5 k = nI 1))) X dX9_count_69 70 rfl (by decide) rfl rfl (by omega) (us_b (hc k (by omega)).us) ?_
          refine g_ifeq_B X dX9_count_70 77 (by decide) 73 rfl (fun t70 => ?_) (fun f70 => ?_)
          · skip
            refine g_iconst X dX9_count_77 78 rfl (v := (nI (0))) rfl ?_
            refine g_iadd X (v := (nI (u + 0))) dX9_count_78 79 rfl (nI_add u 0) ?_
            refine g_istore_n X (lv' := [(0, .ref (kad K (0))), (1, .int (nI 1)), (2, .int (nI (u + 0))), (3, .int (nI (k)))]) dX9_count_79 80 rfl (by decide) rfl rfl ?_
            refine g_iinc X (v := (nI (k + 1))) (lv' := [(0, .ref (kad K (0))), (1, .int (nI 1)), (2, .int (nI (u + 0))), (3, .int (nI (k + 1)))]) dX9_count_80 83 rfl (by decide) rfl (n_inc k 1) rfl rfl ?_
            refine g_goto X dX9_count_83 55 (by decide) ?_
            skip
            exact ih55 (k + 1) (u + 0) (by omega) (by rw [hu, cntU, if_neg t70]) (by omega)
          · skip
            refine g_iconst X dX9_count_73 74 rfl (v := (nI (1))) rfl ?_
            refine g_goto X dX9_count_74 78 (by decide) ?_
            refine g_iadd X (v := (nI (u + 1))) dX9_count_78 79 rfl (nI_add u 1) ?_
            refine g_istore_n X (lv' := [(0, .ref (kad K (0))), (1, .int (nI 1)), (2, .int (nI (u + 1))), (3, .int (nI (k)))]) dX9_count_79 80 rfl (by decide) rfl rfl ?_
            refine g_iinc X (v := (nI (k + 1))) (lv' := [(0, .ref (kad K (0))), (1, .int (nI 1)), (2, .int (nI (u + 1))), (3, .int (nI (k + 1)))]) dX9_count_80 83 rfl (by decide) rfl (n_inc k 1) rfl rfl ?_
            refine g_goto X dX9_count_83 55 (by decide) ?_
            skip
            exact ih55 (k + 1) (u + 1) (by omega) (by rw [hu, cntU, if_pos f70]) (by omega)
    skip
    exact lp55 _ 0 0 (by omega) rfl (Nat.lt_succ_self _)
  · skip
    refine g_tabIn X dX9_count_3 2 rfl 85 88 ⟨by decide, by decide, rfl, by decide⟩ ?_
    refine g_aload_n X dX9_count_88 89 rfl rfl ?_
    refine g_get (c := 0) (k := 0) (T := TX9) (sk := skM0) (v := .int (nI (q))) X wf_X9_7 inX9 dX9_count_89 92 rfl (by decide) rfl rfl (by decide) (congrArg Value.int (hq)) ?_
    refine g_iret (h := h) (v := (nI (q))) X Z dX9_count_92 ?_
    exact ⟨((if_neg (by decide)).trans ((if_neg (by decide)).trans (if_pos (by decide)))).symm, rfl⟩
  · skip
    refine g_tabIn X dX9_count_3 3 rfl 90 93 ⟨by decide, by decide, rfl, by decide⟩ ?_
    refine g_aload_n X dX9_count_93 94 rfl rfl ?_
    refine g_get (c := 0) (k := 1) (T := TX9) (sk := skM0) (v := .int (nI (p))) X wf_X9_13 inX9 dX9_count_94 97 rfl (by decide) rfl rfl (by decide) (congrArg Value.int (hp)) ?_
    refine g_iret (h := h) (v := (nI (p))) X Z dX9_count_97 ?_
    exact ⟨((if_neg (by decide)).trans ((if_neg (by decide)).trans ((if_neg (by decide)).trans (if_pos (by decide))))).symm, rfl⟩
  · skip
    refine g_tabIn X dX9_count_3 4 rfl 95 98 ⟨by decide, by decide, rfl, by decide⟩ ?_
    refine g_aload_n X dX9_count_98 99 rfl rfl ?_
    refine g_get (c := 0) (k := 2) (T := TX9) (sk := skM0) (v := .int (nI (m))) X wf_X9_16 inX9 dX9_count_99 102 rfl (by decide) rfl rfl (by decide) (congrArg Value.int (hm)) ?_
    refine g_iret (h := h) (v := (nI (m))) X Z dX9_count_102 ?_
    exact ⟨((if_neg (by decide)).trans ((if_neg (by decide)).trans ((if_neg (by decide)).trans ((if_neg (by decide)).trans (if_pos (by decide)))))).symm, rfl⟩
  · skip
    refine g_tabIn X dX9_count_3 5 rfl 100 103 ⟨by decide, by decide, rfl, by decide⟩ ?_
    refine g_aload_n X dX9_count_103 104 rfl rfl ?_
    refine g_get (c := 0) (k := 10) (T := TX9) (sk := skM0) (v := .int (nI (d))) X wf_X9_129 inX9 dX9_count_104 107 rfl (by decide) rfl rfl (by decide) (congrArg Value.int (hd)) ?_
    refine g_iret (h := h) (v := (nI (d))) X Z dX9_count_107 ?_
    exact ⟨((if_neg (by decide)).trans ((if_neg (by decide)).trans ((if_neg (by decide)).trans ((if_neg (by decide)).trans ((if_neg (by decide)).trans (if_pos (by decide))))))).symm, rfl⟩
  · skip
    refine g_tabIn X dX9_count_3 6 rfl 105 108 ⟨by decide, by decide, rfl, by decide⟩ ?_
    refine g_aload_n X dX9_count_108 109 rfl rfl ?_
    have hg9 := gdv_gcd q (by omega) (2 * p) (by omega) (by omega)
    have hg8 := gdv_le q (2 * p) q
    refine g_get (c := 0) (k := 0) (T := TX9) (sk := skM0) (v := .int (nI (q))) X wf_X9_7 inX9 dX9_count_109 112 rfl (by decide) rfl rfl (by decide) (congrArg Value.int (hq)) ?_
    refine g_aload_n X dX9_count_112 113 rfl rfl ?_
    refine g_get (c := 0) (k := 0) (T := TX9) (sk := skM0) (v := .int (nI (q))) X wf_X9_7 inX9 dX9_count_113 116 rfl (by decide) rfl rfl (by decide) (congrArg Value.int (hq)) ?_
    refine g_iconst X dX9_count_116 117 rfl (v := (nI (2))) rfl ?_
    refine g_aload_n X dX9_count_117 118 rfl rfl ?_
    refine g_get (c := 0) (k := 1) (T := TX9) (sk := skM0) (v := .int (nI (p))) X wf_X9_13 inX9 dX9_count_118 121 rfl (by decide) rfl rfl (by decide) (congrArg Value.int (hp)) ?_
    refine g_imul X (v := (nI (2 * p))) dX9_count_121 122 rfl (pk_mul 2 p) ?_
    refine g_callSix (st := [.int (nI (q))]) (v := (nI (Nat.gcd q (2 * p)))) (m2 := h) X cw_X9_132 (c_M_common h q (2 * p) (by omega) (by omega)) dX9_count_122 125 rfl rfl rfl rfl (by decide) (Nat.le_of_ble_eq_true rfl) ?_
    have b125 := Nat.div_le_self q (Nat.gcd q (2 * p))
    refine g_idiv X (v := (nI (q / (Nat.gcd q (2 * p))))) dX9_count_125 126 rfl (nI_ne (by omega) (by omega)) (pk_div (by omega) (by omega) (by omega)) ?_
    refine g_iconst X dX9_count_126 127 rfl (v := (nI (2))) rfl ?_
    refine g_imul X (v := (nI ((q / (Nat.gcd q (2 * p))) * 2))) dX9_count_127 128 rfl (pk_mul (q / (Nat.gcd q (2 * p))) 2) ?_
    refine g_aload_n X dX9_count_128 129 rfl rfl ?_
    refine g_get (c := 0) (k := 1) (T := TX9) (sk := skM0) (v := .int (nI (p))) X wf_X9_13 inX9 dX9_count_129 132 rfl (by decide) rfl rfl (by decide) (congrArg Value.int (hp)) ?_
    refine g_imul X (v := (nI (((q / (Nat.gcd q (2 * p))) * 2) * p))) dX9_count_132 133 rfl (pk_mul ((q / (Nat.gcd q (2 * p))) * 2) p) ?_
    refine g_iret (h := h) (v := (nI (((q / (Nat.gcd q (2 * p))) * 2) * p))) X Z dX9_count_133 ?_
    exact ⟨((if_neg (by decide)).trans ((if_neg (by decide)).trans ((if_neg (by decide)).trans ((if_neg (by decide)).trans ((if_neg (by decide)).trans ((if_neg (by decide)).trans ((if_pos (by decide)).trans (by rw [hg9, Nat.mul_assoc])))))))).symm, rfl⟩
  · skip
    refine g_tabIn X dX9_count_3 7 rfl 131 134 ⟨by decide, by decide, rfl, by decide⟩ ?_
    refine g_aload_n X dX9_count_134 135 rfl rfl ?_
    refine g_get (c := 0) (k := 0) (T := TX9) (sk := skM0) (v := .int (nI (q))) X wf_X9_7 inX9 dX9_count_135 138 rfl (by decide) rfl rfl (by decide) (congrArg Value.int (hq)) ?_
    refine g_aload_n X dX9_count_138 139 rfl rfl ?_
    refine g_get (c := 0) (k := 2) (T := TX9) (sk := skM0) (v := .int (nI (m))) X wf_X9_16 inX9 dX9_count_139 142 rfl (by decide) rfl rfl (by decide) (congrArg Value.int (hm)) ?_
    have hg9 := gdv_gcd q (by omega) p (by omega) (by omega)
    have hg8 := gdv_le q p q
    have hg7 : m * Nat.gcd q p ≤ 3 * 25 := Nat.mul_le_mul hm2 (by omega)
    have hg6 : 1 ≤ m * Nat.gcd q p := Nat.mul_pos (by omega) (by omega)
    refine g_aload_n X dX9_count_142 143 rfl rfl ?_
    refine g_get (c := 0) (k := 0) (T := TX9) (sk := skM0) (v := .int (nI (q))) X wf_X9_7 inX9 dX9_count_143 146 rfl (by decide) rfl rfl (by decide) (congrArg Value.int (hq)) ?_
    refine g_aload_n X dX9_count_146 147 rfl rfl ?_
    refine g_get (c := 0) (k := 1) (T := TX9) (sk := skM0) (v := .int (nI (p))) X wf_X9_13 inX9 dX9_count_147 150 rfl (by decide) rfl rfl (by decide) (congrArg Value.int (hp)) ?_
    refine g_callSix (st := [.int (nI (m)), .int (nI (q))]) (v := (nI (Nat.gcd q p))) (m2 := h) X cw_X9_132 (c_M_common h q p (by omega) (by omega)) dX9_count_150 153 rfl rfl rfl rfl (by decide) (Nat.le_of_ble_eq_true rfl) ?_
    refine g_imul X (v := (nI (m * (Nat.gcd q p)))) dX9_count_153 154 rfl (pk_mul m (Nat.gcd q p)) ?_
    have b154 := Nat.mod_le q (m * (Nat.gcd q p))
    refine g_irem X (v := (nI (q % (m * (Nat.gcd q p))))) dX9_count_154 155 rfl (nI_ne (by omega) (by omega)) (pk_rem (by omega) (by omega) (by omega)) ?_
    refine g_if_ne X ((q % (m * (Nat.gcd q p)) : Nat) : Int) dX9_count_155 162 (by decide) 158 rfl (nI_toInt (by omega)) (fun t155 => ?_) (fun f155 => ?_)
    · skip
      refine g_iconst X dX9_count_162 163 rfl (v := (nI (0))) rfl ?_
      refine g_iret (h := h) (v := (nI (0))) X Z dX9_count_163 ?_
      exact ⟨((if_neg (by decide)).trans ((if_neg (by decide)).trans ((if_neg (by decide)).trans ((if_neg (by decide)).trans ((if_neg (by decide)).trans ((if_neg (by decide)).trans ((if_neg (by decide)).trans ((if_pos (by decide)).trans (by rw [hg9]; exact bI_f (fun z => t155 (by rw [z]; rfl))))))))))).symm, rfl⟩
    · skip
      refine g_iconst X dX9_count_158 159 rfl (v := (nI (1))) rfl ?_
      refine g_goto X dX9_count_159 163 (by decide) ?_
      refine g_iret (h := h) (v := (nI (1))) X Z dX9_count_163 ?_
      exact ⟨((if_neg (by decide)).trans ((if_neg (by decide)).trans ((if_neg (by decide)).trans ((if_neg (by decide)).trans ((if_neg (by decide)).trans ((if_neg (by decide)).trans ((if_neg (by decide)).trans ((if_pos (by decide)).trans (by rw [hg9]; exact bI_t (by omega)))))))))).symm, rfl⟩
  · skip
    refine g_tabOut X dX9_count_3 (x0).toInt rfl 164 so (by decide) ?_
    refine g_iconst X dX9_count_164 165 rfl (v := (zI (-1))) rfl ?_
    refine g_iret (h := h) (v := (zI (-1))) X Z dX9_count_165 ?_
    exact ⟨((if_neg (by omega)).trans ((if_neg (by omega)).trans ((if_neg (by omega)).trans ((if_neg (by omega)).trans ((if_neg (by omega)).trans ((if_neg (by omega)).trans ((if_neg (by omega)).trans (if_neg (by omega))))))))).symm, rfl⟩
theorem mk_add_t (h : Mem) (q p m n d : Nat) (C : MC h q p m n d) (b k : Nat) (hb1 : 1 ≤ b) (hb2 : b < q) (hk : k < q) (t : turnedB m (beltN q p m k) = true) : cI 25 ML yX9_add cX9_add 5 (some .int) 0 0 (fun ad => [.ref (ad 0), .int (nI (phaseN m (beltN q p m k))), .int (nI ((k + b) % q)), .int (nI k), .int (nI 1)]) (mkN (clM h) q p m b k) (fun r h2 => r = nI k ∧ h2 = (mkN (clM h) q p m b (k + 1))) := by
  have Ck := mkN_inv (clM_inv C) hb1 hb2 k (by omega)
  obtain ⟨hqk, hpk, hmk, hq1, hq2, hp1, hp2, hm1, hm2, hnk, -⟩ := id Ck
  have hmod := Nat.mod_lt (k + b) (show 0 < q by omega)
  have e2 : rIn q p m b k = ((k + b) % q) := if_pos t
  have e3 : rOut q p m b k = k := if_pos t
  have e := c_M_add (mkN (clM h) q p m b k) k (((k + b) % q)) (k) (nI (phaseN m (beltN q p m k))) (nI 1) hnk (by omega) (by omega) (by omega)
  rw [show mkN (clM h) q p m b (k + 1) = adX (mkN (clM h) q p m b k) k (nI (rPh q p m k)) (nI (rIn q p m b k)) (nI (rOut q p m b k)) (nI 1) from rfl, e2, e3]
  exact e
theorem mk_add_f (h : Mem) (q p m n d : Nat) (C : MC h q p m n d) (b k : Nat) (hb1 : 1 ≤ b) (hb2 : b < q) (hk : k < q) (t : ¬ turnedB m (beltN q p m k) = true) : cI 25 ML yX9_add cX9_add 5 (some .int) 0 0 (fun ad => [.ref (ad 0), .int (nI (phaseN m (beltN q p m k))), .int (nI k), .int (nI ((k + b) % q)), .int (nI 1)]) (mkN (clM h) q p m b k) (fun r h2 => r = nI k ∧ h2 = (mkN (clM h) q p m b (k + 1))) := by
  have Ck := mkN_inv (clM_inv C) hb1 hb2 k (by omega)
  obtain ⟨hqk, hpk, hmk, hq1, hq2, hp1, hp2, hm1, hm2, hnk, -⟩ := id Ck
  have hmod := Nat.mod_lt (k + b) (show 0 < q by omega)
  have e2 : rIn q p m b k = k := if_neg t
  have e3 : rOut q p m b k = ((k + b) % q) := if_neg t
  have e := c_M_add (mkN (clM h) q p m b k) k (k) (((k + b) % q)) (nI (phaseN m (beltN q p m k))) (nI 1) hnk (by omega) (by omega) (by omega)
  rw [show mkN (clM h) q p m b (k + 1) = adX (mkN (clM h) q p m b k) k (nI (rPh q p m k)) (nI (rIn q p m b k)) (nI (rOut q p m b k)) (nI 1) from rfl, e2, e3]
  exact e
set_option maxHeartbeats 1000000 in
set_option maxRecDepth 100000 in
theorem c_M_make (h : Mem) (q p m n d : Nat) (C : MC h q p m n d) (x0 : Int32) : cI 25 ML yX9_make cX9_make 9 (some .int) 1 25 (fun ad => [.ref (ad (0)), .int (x0)]) h (fun r h2 => r = (if 1 ≤ x0.toInt ∧ x0.toInt ≤ (q : Int) - 1 then nI q else zI (-1)) ∧ h2 = if 1 ≤ x0.toInt ∧ x0.toInt ≤ (q : Int) - 1 then mkN (clM h) q p m (tn x0) q else h) := by
  refine cI_of MLW (by decide +kernel) (fun ad => Nat.le_of_ble_eq_true rfl) ?_
  intro K X Z
  obtain ⟨hq, hp, hm, hq1, hq2, hp1, hp2, hm1, hm2, hn, hn2, hc, hd, hd1, hd2⟩ := id C
  show G 25 ML 9 K h 0 [(0, .ref (kad K (0))), (1, .int (x0))] []
  refine g_iload_n X dX9_make_0 1 rfl rfl ?_
  refine g_i2l X (v := (x0).toInt64) dX9_make_1 2 rfl rfl ?_
  refine g_lconst X dX9_make_2 3 rfl (v := (1 : Int64)) rfl ?_
  refine g_aload_n X dX9_make_3 4 rfl rfl ?_
  refine g_get (c := 0) (k := 0) (T := TX9) (sk := skM0) (v := .int (nI (q))) X wf_X9_7 inX9 dX9_make_4 7 rfl (by decide) rfl rfl (by decide) (congrArg Value.int (hq)) ?_
  refine g_iconst X dX9_make_7 8 rfl (v := (nI (1))) rfl ?_
  refine g_isub X (v := (zI (((q : Nat) : Int) - ((1 : Nat) : Int)))) dX9_make_8 9 rfl (nn_sub q 1) ?_
  refine g_i2l X (v := (zI (((q : Nat) : Int) - ((1 : Nat) : Int))).toInt64) dX9_make_9 10 rfl rfl ?_
  refine g_callSix (st := []) (v := (bI (1 ≤ (x0).toInt ∧ (x0).toInt ≤ ((q : Nat) : Int) - ((1 : Nat) : Int)))) (m2 := h) X cw_X9_100 (c_M_in h ((x0).toInt64) (1 : Int64) ((zI (((q : Nat) : Int) - ((1 : Nat) : Int))).toInt64) ((x0).toInt) 1 (((q : Nat) : Int) - ((1 : Nat) : Int)) (i64_of rfl) rfl (i64_of (zI_toInt (by omega)))) dX9_make_10 13 rfl rfl rfl rfl (by decide) (Nat.le_of_ble_eq_true rfl) ?_
  refine g_ifne_B X dX9_make_13 18 (by decide) 16 rfl (fun t13 => ?_) (fun f13 => ?_)
  · skip
    obtain ⟨b, hb1, hb2_, rfl⟩ := inR_3 (x := x0) (a := 1) (b := q - 1) ⟨by omega, by omega⟩
    have hb2 : b < q := by omega
    have eb : tn (nI b) = b := tn_nI (by omega)
    refine g_aload_n X dX9_make_18 19 rfl rfl ?_
    refine g_callVix (st := []) (v := (h 0 3)) (m2 := (clM h)) X cw_X9_106 (c_M_clear h) dX9_make_19 22 rfl (by decide) rfl rfl rfl rfl rfl (by decide) (Nat.le_of_ble_eq_true rfl) ?_
    refine g_istore_n X (lv' := [(0, .ref (kad K (0))), (1, .int (nI (b))), (2, .int (h 0 3))]) dX9_make_22 23 rfl (by decide) rfl rfl ?_
    refine g_iconst X dX9_make_23 24 rfl (v := (nI (0))) rfl ?_
    refine g_istore_n X (lv' := [(0, .ref (kad K (0))), (1, .int (nI (b))), (2, .int (h 0 3)), (3, .int (nI 0))]) dX9_make_24 25 rfl (by decide) rfl rfl ?_
    have lp25 : ∀ (fu : Nat) (k : Nat) (hk : k ≤ q), q - k < fu → G 25 ML 9 K (mkN (clM h) q p m b k) 25 [(0, .ref (kad K (0))), (1, .int (nI (b))), (2, .int (h 0 3)), (3, .int (nI (k)))] [] := by
      intro fu
      induction fu with
      | zero => intro k hk hm; exact absurd hm (Nat.not_lt_zero _)
      | succ fu ih25 =>
        intro k hk hm25
        have Ck := mkN_inv (clM_inv C) hb1 hb2 k hk
        obtain ⟨hqk, hpk, hmk, -, -, -, -, -, -, hnk, -⟩ := id Ck
        have e19 : 2 * m * p * k ≤ 6 * 6 * 24 := mul_lt4 (by omega) hp2 (by omega)
        refine g_iload_n X dX9_make_25 26 rfl rfl ?_
        refine g_aload_n X dX9_make_26 27 rfl rfl ?_
        refine g_get (c := 0) (k := 0) (T := TX9) (sk := skM0) (v := .int (nI (q))) X wf_X9_7 inX9 dX9_make_27 30 rfl (by decide) rfl rfl (by decide) (congrArg Value.int (hqk)) ?_
        refine g_icmp_ge X ((k : Nat) : Int) ((q : Nat) : Int) dX9_make_30 178 (by decide) 33 rfl (nI_toInt (by omega)) (nI_toInt (by omega)) (fun t30 => ?_) (fun f30 => ?_)
        · skip
          refine g_aload_n X dX9_make_178 179 rfl rfl ?_
          refine g_get (c := 0) (k := 3) (T := TX9) (sk := skM0) (v := .int (nI (k))) X wf_X9_116 inX9 dX9_make_179 182 rfl (by decide) rfl rfl (by decide) (congrArg Value.int (hnk)) ?_
          refine g_iret (h := (mkN (clM h) q p m b k)) (v := (nI (k))) X Z dX9_make_182 ?_
          exact ⟨((if_pos t13).trans (by rw [show q = k from by omega])).symm, ((if_pos t13).trans (by rw [eb]; rw [show mkN (clM h) q p m b q = mkN (clM h) q p m b k from by rw [show k = q from by omega]])).symm⟩
        · skip
          refine g_iconst X dX9_make_33 34 rfl (v := (nI (2))) rfl ?_
          refine g_aload_n X dX9_make_34 35 rfl rfl ?_
          refine g_get (c := 0) (k := 2) (T := TX9) (sk := skM0) (v := .int (nI (m))) X wf_X9_16 inX9 dX9_make_35 38 rfl (by decide) rfl rfl (by decide) (congrArg Value.int (hmk)) ?_
          refine g_imul X (v := (nI (2 * m))) dX9_make_38 39 rfl (pk_mul 2 m) ?_
          refine g_aload_n X dX9_make_39 40 rfl rfl ?_
          refine g_get (c := 0) (k := 1) (T := TX9) (sk := skM0) (v := .int (nI (p))) X wf_X9_13 inX9 dX9_make_40 43 rfl (by decide) rfl rfl (by decide) (congrArg Value.int (hpk)) ?_
          refine g_imul X (v := (nI ((2 * m) * p))) dX9_make_43 44 rfl (pk_mul (2 * m) p) ?_
          refine g_iload_n X dX9_make_44 45 rfl rfl ?_
          refine g_imul X (v := (nI (((2 * m) * p) * k))) dX9_make_45 46 rfl (pk_mul ((2 * m) * p) k) ?_
          refine g_aload_n X dX9_make_46 47 rfl rfl ?_
          refine g_get (c := 0) (k := 0) (T := TX9) (sk := skM0) (v := .int (nI (q))) X wf_X9_7 inX9 dX9_make_47 50 rfl (by decide) rfl rfl (by decide) (congrArg Value.int (hqk)) ?_
          have b50 := Nat.div_le_self (((2 * m) * p) * k) q
          refine g_idiv X (v := (nI ((((2 * m) * p) * k) / q))) dX9_make_50 51 rfl (nI_ne (by omega) (by omega)) (pk_div (by omega) (by omega) (by omega)) ?_
          refine g_iconst X dX9_make_51 52 rfl (v := (nI (2))) rfl ?_
          refine g_aload_n X dX9_make_52 53 rfl rfl ?_
          refine g_get (c := 0) (k := 2) (T := TX9) (sk := skM0) (v := .int (nI (m))) X wf_X9_16 inX9 dX9_make_53 56 rfl (by decide) rfl rfl (by decide) (congrArg Value.int (hmk)) ?_
          refine g_imul X (v := (nI (2 * m))) dX9_make_56 57 rfl (pk_mul 2 m) ?_
          have b57 := Nat.mod_le ((((2 * m) * p) * k) / q) (2 * m)
          refine g_irem X (v := (nI (beltN q p m k))) dX9_make_57 58 rfl (nI_ne (by omega) (by omega)) (pk_rem (by omega) (by omega) (by omega)) ?_
          have hbl : beltN q p m k < 2 * m := Nat.mod_lt _ (by omega)
          refine g_istore X (lv' := [(0, .ref (kad K (0))), (1, .int (nI (b))), (2, .int (h 0 3)), (3, .int (nI (k))), (4, .int (nI (beltN q p m k)))]) dX9_make_58 60 rfl (by decide) rfl rfl ?_
          refine g_aload_n X dX9_make_60 61 rfl rfl ?_
          refine g_get (c := 0) (k := 2) (T := TX9) (sk := skM0) (v := .int (nI (m))) X wf_X9_16 inX9 dX9_make_61 64 rfl (by decide) rfl rfl (by decide) (congrArg Value.int (hmk)) ?_
          refine g_iconst X dX9_make_64 65 rfl (v := (nI (1))) rfl ?_
          refine g_icmp_ne X ((m : Nat) : Int) 1 dX9_make_65 72 (by decide) 68 rfl (nI_toInt (by omega)) rfl (fun t65 => ?_) (fun f65 => ?_)
          · skip
            refine g_aload_n X dX9_make_72 73 rfl rfl ?_
            refine g_get (c := 0) (k := 2) (T := TX9) (sk := skM0) (v := .int (nI (m))) X wf_X9_16 inX9 dX9_make_73 76 rfl (by decide) rfl rfl (by decide) (congrArg Value.int (hmk)) ?_
            refine g_iconst X dX9_make_76 77 rfl (v := (nI (2))) rfl ?_
            refine g_icmp_ne X ((m : Nat) : Int) 2 dX9_make_77 87 (by decide) 80 rfl (nI_toInt (by omega)) rfl (fun t77 => ?_) (fun f77 => ?_)
            · skip
              refine g_iconst X dX9_make_87 88 rfl (v := (nI (2))) rfl ?_
              refine g_iload X dX9_make_88 90 rfl rfl ?_
              refine g_imul X (v := (nI (2 * (beltN q p m k)))) dX9_make_90 91 rfl (pk_mul 2 (beltN q p m k)) ?_
              refine g_iconst X dX9_make_91 92 rfl (v := (nI (3))) rfl ?_
              have b92 := Nat.mod_le (2 * (beltN q p m k)) 3
              refine g_irem X (v := (nI ((2 * (beltN q p m k)) % 3))) dX9_make_92 93 rfl (nI_ne (by omega) (by omega)) (pk_rem (by omega) (by omega) (by omega)) ?_
              refine g_eq (st' := [.int (nI (phaseN m (beltN q p m k)))]) rfl rfl (by rw [phaseN, if_neg (by omega), if_pos (by omega)]) ?_
              refine g_istore X (lv' := [(0, .ref (kad K (0))), (1, .int (nI (b))), (2, .int (h 0 3)), (3, .int (nI (k))), (4, .int (nI (beltN q p m k))), (5, .int (nI (phaseN m (beltN q p m k))))]) dX9_make_93 95 rfl (by decide) rfl rfl ?_
              refine g_aload_n X dX9_make_95 96 rfl rfl ?_
              refine g_get (c := 0) (k := 2) (T := TX9) (sk := skM0) (v := .int (nI (m))) X wf_X9_16 inX9 dX9_make_96 99 rfl (by decide) rfl rfl (by decide) (congrArg Value.int (hmk)) ?_
              refine g_iconst X dX9_make_99 100 rfl (v := (nI (2))) rfl ?_
              refine g_icmp_ne X ((m : Nat) : Int) 2 dX9_make_100 117 (by decide) 103 rfl (nI_toInt (by omega)) rfl (fun t100 => ?_) (fun f100 => ?_)
              · skip
                refine g_iload X dX9_make_117 119 rfl rfl ?_
                refine g_iconst X dX9_make_119 120 rfl (v := (nI (2))) rfl ?_
                have b120 := Nat.mod_le (beltN q p m k) 2
                refine g_irem X (v := (nI ((beltN q p m k) % 2))) dX9_make_120 121 rfl (nI_ne (by omega) (by omega)) (pk_rem (by omega) (by omega) (by omega)) ?_
                refine g_iconst X dX9_make_121 122 rfl (v := (nI (1))) rfl ?_
                refine g_icmp_ne X (((beltN q p m k) % 2 : Nat) : Int) 1 dX9_make_122 129 (by decide) 125 rfl (nI_toInt (by omega)) rfl (fun t122 => ?_) (fun f122 => ?_)
                · skip
                  refine g_iconst X dX9_make_129 130 rfl (v := (nI (0))) rfl ?_
                  refine g_eq (st' := [.int (bI (turnedB m (beltN q p m k) = true))]) rfl rfl (by rw [bI_f (by simp [turnedB]; omega)]) ?_
                  refine g_istore X (lv' := [(0, .ref (kad K (0))), (1, .int (nI (b))), (2, .int (h 0 3)), (3, .int (nI (k))), (4, .int (nI (beltN q p m k))), (5, .int (nI (phaseN m (beltN q p m k)))), (6, .int (bI (turnedB m (beltN q p m k) = true)))]) dX9_make_130 132 rfl (by decide) rfl rfl ?_
                  refine g_iload_n X dX9_make_132 133 rfl rfl ?_
                  refine g_iload_n X dX9_make_133 134 rfl rfl ?_
                  refine g_iadd X (v := (nI (k + b))) dX9_make_134 135 rfl (nI_add k b) ?_
                  refine g_aload_n X dX9_make_135 136 rfl rfl ?_
                  refine g_get (c := 0) (k := 0) (T := TX9) (sk := skM0) (v := .int (nI (q))) X wf_X9_7 inX9 dX9_make_136 139 rfl (by decide) rfl rfl (by decide) (congrArg Value.int (hqk)) ?_
                  have b139 := Nat.mod_le (k + b) q
                  refine g_irem X (v := (nI ((k + b) % q))) dX9_make_139 140 rfl (nI_ne (by omega) (by omega)) (pk_rem (by omega) (by omega) (by omega)) ?_
                  refine g_istore X (lv' := [(0, .ref (kad K (0))), (1, .int (nI (b))), (2, .int (h 0 3)), (3, .int (nI (k))), (4, .int (nI (beltN q p m k))), (5, .int (nI (phaseN m (beltN q p m k)))), (6, .int (bI (turnedB m (beltN q p m k) = true))), (7, .int (nI ((k + b) % q)))]) dX9_make_140 142 rfl (by decide) rfl rfl ?_
                  refine g_iload X dX9_make_142 144 rfl rfl ?_
                  refine g_ifeq_B X dX9_make_144 160 (by decide) 147 rfl (fun t144 => ?_) (fun f144 => ?_)
                  · skip
                    refine g_aload_n X dX9_make_160 161 rfl rfl ?_
                    refine g_iload X dX9_make_161 163 rfl rfl ?_
                    refine g_iload_n X dX9_make_163 164 rfl rfl ?_
                    refine g_iload X dX9_make_164 166 rfl rfl ?_
                    refine g_iconst X dX9_make_166 167 rfl (v := (nI (1))) rfl ?_
                    refine g_callVix (st := []) (v := (nI (k))) (m2 := (mkN (clM h) q p m b (k + 1))) X cw_X9_123 (mk_add_f h q p m n d C b k hb1 hb2 (by omega) t144) dX9_make_167 170 rfl (by decide) rfl rfl rfl rfl rfl (by decide) (Nat.le_of_ble_eq_true rfl) ?_
                    refine g_istore X (lv' := [(0, .ref (kad K (0))), (1, .int (nI (b))), (2, .int (h 0 3)), (3, .int (nI (k))), (4, .int (nI (beltN q p m k))), (5, .int (nI (phaseN m (beltN q p m k)))), (6, .int (bI (turnedB m (beltN q p m k) = true))), (7, .int (nI ((k + b) % q))), (8, .int (nI (k)))]) dX9_make_170 172 rfl (by decide) rfl rfl ?_
                    refine g_iinc X (v := (nI (k + 1))) (lv' := [(0, .ref (kad K (0))), (1, .int (nI (b))), (2, .int (h 0 3)), (3, .int (nI (k + 1))), (4, .int (nI (beltN q p m k))), (5, .int (nI (phaseN m (beltN q p m k)))), (6, .int (bI (turnedB m (beltN q p m k) = true))), (7, .int (nI ((k + b) % q))), (8, .int (nI (k)))]) dX9_make_172 175 rfl (by decide) rfl (n_inc k 1) rfl rfl ?_
                    refine g_goto X dX9_make_175 25 (by decide) ?_
                    refine g_sub [0, 1, 2, 3] rfl ?_
                    exact ih25 (k + 1) (by omega) (by omega)
                  · skip
                    refine g_aload_n X dX9_make_147 148 rfl rfl ?_
                    refine g_iload X dX9_make_148 150 rfl rfl ?_
                    refine g_iload X dX9_make_150 152 rfl rfl ?_
                    refine g_iload_n X dX9_make_152 153 rfl rfl ?_
                    refine g_iconst X dX9_make_153 154 rfl (v := (nI (1))) rfl ?_
                    refine g_callVix (st := []) (v := (nI (k))) (m2 := (mkN (clM h) q p m b (k + 1))) X cw_X9_123 (mk_add_t h q p m n d C b k hb1 hb2 (by omega) f144) dX9_make_154 157 rfl (by decide) rfl rfl rfl rfl rfl (by decide) (Nat.le_of_ble_eq_true rfl) ?_
                    refine g_goto X dX9_make_157 170 (by decide) ?_
                    refine g_istore X (lv' := [(0, .ref (kad K (0))), (1, .int (nI (b))), (2, .int (h 0 3)), (3, .int (nI (k))), (4, .int (nI (beltN q p m k))), (5, .int (nI (phaseN m (beltN q p m k)))), (6, .int (bI (turnedB m (beltN q p m k) = true))), (7, .int (nI ((k + b) % q))), (8, .int (nI (k)))]) dX9_make_170 172 rfl (by decide) rfl rfl ?_
                    refine g_iinc X (v := (nI (k + 1))) (lv' := [(0, .ref (kad K (0))), (1, .int (nI (b))), (2, .int (h 0 3)), (3, .int (nI (k + 1))), (4, .int (nI (beltN q p m k))), (5, .int (nI (phaseN m (beltN q p m k)))), (6, .int (bI (turnedB m (beltN q p m k) = true))), (7, .int (nI ((k + b) % q))), (8, .int (nI (k)))]) dX9_make_172 175 rfl (by decide) rfl (n_inc k 1) rfl rfl ?_
                    refine g_goto X dX9_make_175 25 (by decide) ?_
                    refine g_sub [0, 1, 2, 3] rfl ?_
                    exact ih25 (k + 1) (by omega) (by omega)
                · skip
                  refine g_iconst X dX9_make_125 126 rfl (v := (nI (1))) rfl ?_
                  refine g_goto X dX9_make_126 130 (by decide) ?_
                  refine g_eq (st' := [.int (bI (turnedB m (beltN q p m k) = true))]) rfl rfl (by rw [bI_t (by simp [turnedB]; omega)]) ?_
                  refine g_istore X (lv' := [(0, .ref (kad K (0))), (1, .int (nI (b))), (2, .int (h 0 3)), (3, .int (nI (k))), (4, .int (nI (beltN q p m k))), (5, .int (nI (phaseN m (beltN q p m k)))), (6, .int (bI (turnedB m (beltN q p m k) = true)))]) dX9_make_130 132 rfl (by decide) rfl rfl ?_
                  refine g_iload_n X dX9_make_132 133 rfl rfl ?_
                  refine g_iload_n X dX9_make_133 134 rfl rfl ?_
                  refine g_iadd X (v := (nI (k + b))) dX9_make_134 135 rfl (nI_add k b) ?_
                  refine g_aload_n X dX9_make_135 136 rfl rfl ?_
                  refine g_get (c := 0) (k := 0) (T := TX9) (sk := skM0) (v := .int (nI (q))) X wf_X9_7 inX9 dX9_make_136 139 rfl (by decide) rfl rfl (by decide) (congrArg Value.int (hqk)) ?_
                  have b139 := Nat.mod_le (k + b) q
                  refine g_irem X (v := (nI ((k + b) % q))) dX9_make_139 140 rfl (nI_ne (by omega) (by omega)) (pk_rem (by omega) (by omega) (by omega)) ?_
                  refine g_istore X (lv' := [(0, .ref (kad K (0))), (1, .int (nI (b))), (2, .int (h 0 3)), (3, .int (nI (k))), (4, .int (nI (beltN q p m k))), (5, .int (nI (phaseN m (beltN q p m k)))), (6, .int (bI (turnedB m (beltN q p m k) = true))), (7, .int (nI ((k + b) % q)))]) dX9_make_140 142 rfl (by decide) rfl rfl ?_
                  refine g_iload X dX9_make_142 144 rfl rfl ?_
                  refine g_ifeq_B X dX9_make_144 160 (by decide) 147 rfl (fun t144 => ?_) (fun f144 => ?_)
                  · skip
                    refine g_aload_n X dX9_make_160 161 rfl rfl ?_
                    refine g_iload X dX9_make_161 163 rfl rfl ?_
                    refine g_iload_n X dX9_make_163 164 rfl rfl ?_
                    refine g_iload X dX9_make_164 166 rfl rfl ?_
                    refine g_iconst X dX9_make_166 167 rfl (v := (nI (1))) rfl ?_
                    refine g_callVix (st := []) (v := (nI (k))) (m2 := (mkN (clM h) q p m b (k + 1))) X cw_X9_123 (mk_add_f h q p m n d C b k hb1 hb2 (by omega) t144) dX9_make_167 170 rfl (by decide) rfl rfl rfl rfl rfl (by decide) (Nat.le_of_ble_eq_true rfl) ?_
                    refine g_istore X (lv' := [(0, .ref (kad K (0))), (1, .int (nI (b))), (2, .int (h 0 3)), (3, .int (nI (k))), (4, .int (nI (beltN q p m k))), (5, .int (nI (phaseN m (beltN q p m k)))), (6, .int (bI (turnedB m (beltN q p m k) = true))), (7, .int (nI ((k + b) % q))), (8, .int (nI (k)))]) dX9_make_170 172 rfl (by decide) rfl rfl ?_
                    refine g_iinc X (v := (nI (k + 1))) (lv' := [(0, .ref (kad K (0))), (1, .int (nI (b))), (2, .int (h 0 3)), (3, .int (nI (k + 1))), (4, .int (nI (beltN q p m k))), (5, .int (nI (phaseN m (beltN q p m k)))), (6, .int (bI (turnedB m (beltN q p m k) = true))), (7, .int (nI ((k + b) % q))), (8, .int (nI (k)))]) dX9_make_172 175 rfl (by decide) rfl (n_inc k 1) rfl rfl ?_
                    refine g_goto X dX9_make_175 25 (by decide) ?_
                    refine g_sub [0, 1, 2, 3] rfl ?_
                    exact ih25 (k + 1) (by omega) (by omega)
                  · skip
                    refine g_aload_n X dX9_make_147 148 rfl rfl ?_
                    refine g_iload X dX9_make_148 150 rfl rfl ?_
                    refine g_iload X dX9_make_150 152 rfl rfl ?_
                    refine g_iload_n X dX9_make_152 153 rfl rfl ?_
                    refine g_iconst X dX9_make_153 154 rfl (v := (nI (1))) rfl ?_
                    refine g_callVix (st := []) (v := (nI (k))) (m2 := (mkN (clM h) q p m b (k + 1))) X cw_X9_123 (mk_add_t h q p m n d C b k hb1 hb2 (by omega) f144) dX9_make_154 157 rfl (by decide) rfl rfl rfl rfl rfl (by decide) (Nat.le_of_ble_eq_true rfl) ?_
                    refine g_goto X dX9_make_157 170 (by decide) ?_
                    refine g_istore X (lv' := [(0, .ref (kad K (0))), (1, .int (nI (b))), (2, .int (h 0 3)), (3, .int (nI (k))), (4, .int (nI (beltN q p m k))), (5, .int (nI (phaseN m (beltN q p m k)))), (6, .int (bI (turnedB m (beltN q p m k) = true))), (7, .int (nI ((k + b) % q))), (8, .int (nI (k)))]) dX9_make_170 172 rfl (by decide) rfl rfl ?_
                    refine g_iinc X (v := (nI (k + 1))) (lv' := [(0, .ref (kad K (0))), (1, .int (nI (b))), (2, .int (h 0 3)), (3, .int (nI (k + 1))), (4, .int (nI (beltN q p m k))), (5, .int (nI (phaseN m (beltN q p m k)))), (6, .int (bI (turnedB m (beltN q p m k) = true))), (7, .int (nI ((k + b) % q))), (8, .int (nI (k)))]) dX9_make_172 175 rfl (by decide) rfl (n_inc k 1) rfl rfl ?_
                    refine g_goto X dX9_make_175 25 (by decide) ?_
                    refine g_sub [0, 1, 2, 3] rfl ?_
                    exact ih25 (k + 1) (by omega) (by omega)
              · skip
                refine g_iload X dX9_make_103 105 rfl rfl ?_
                refine g_iconst X dX9_make_105 106 rfl (v := (nI (1))) rfl ?_
                refine g_icmp_le X ((beltN q p m k : Nat) : Int) 1 dX9_make_106 113 (by decide) 109 rfl (nI_toInt (by omega)) rfl (fun t106 => ?_) (fun f106 => ?_)
                · skip
                  refine g_iconst X dX9_make_113 114 rfl (v := (nI (0))) rfl ?_
                  refine g_goto X dX9_make_114 130 (by decide) ?_
                  refine g_eq (st' := [.int (bI (turnedB m (beltN q p m k) = true))]) rfl rfl (by rw [bI_f (by simp [turnedB]; omega)]) ?_
                  refine g_istore X (lv' := [(0, .ref (kad K (0))), (1, .int (nI (b))), (2, .int (h 0 3)), (3, .int (nI (k))), (4, .int (nI (beltN q p m k))), (5, .int (nI (phaseN m (beltN q p m k)))), (6, .int (bI (turnedB m (beltN q p m k) = true)))]) dX9_make_130 132 rfl (by decide) rfl rfl ?_
                  refine g_iload_n X dX9_make_132 133 rfl rfl ?_
                  refine g_iload_n X dX9_make_133 134 rfl rfl ?_
                  refine g_iadd X (v := (nI (k + b))) dX9_make_134 135 rfl (nI_add k b) ?_
                  refine g_aload_n X dX9_make_135 136 rfl rfl ?_
                  refine g_get (c := 0) (k := 0) (T := TX9) (sk := skM0) (v := .int (nI (q))) X wf_X9_7 inX9 dX9_make_136 139 rfl (by decide) rfl rfl (by decide) (congrArg Value.int (hqk)) ?_
                  have b139 := Nat.mod_le (k + b) q
                  refine g_irem X (v := (nI ((k + b) % q))) dX9_make_139 140 rfl (nI_ne (by omega) (by omega)) (pk_rem (by omega) (by omega) (by omega)) ?_
                  refine g_istore X (lv' := [(0, .ref (kad K (0))), (1, .int (nI (b))), (2, .int (h 0 3)), (3, .int (nI (k))), (4, .int (nI (beltN q p m k))), (5, .int (nI (phaseN m (beltN q p m k)))), (6, .int (bI (turnedB m (beltN q p m k) = true))), (7, .int (nI ((k + b) % q)))]) dX9_make_140 142 rfl (by decide) rfl rfl ?_
                  refine g_iload X dX9_make_142 144 rfl rfl ?_
                  refine g_ifeq_B X dX9_make_144 160 (by decide) 147 rfl (fun t144 => ?_) (fun f144 => ?_)
                  · skip
                    refine g_aload_n X dX9_make_160 161 rfl rfl ?_
                    refine g_iload X dX9_make_161 163 rfl rfl ?_
                    refine g_iload_n X dX9_make_163 164 rfl rfl ?_
                    refine g_iload X dX9_make_164 166 rfl rfl ?_
                    refine g_iconst X dX9_make_166 167 rfl (v := (nI (1))) rfl ?_
                    refine g_callVix (st := []) (v := (nI (k))) (m2 := (mkN (clM h) q p m b (k + 1))) X cw_X9_123 (mk_add_f h q p m n d C b k hb1 hb2 (by omega) t144) dX9_make_167 170 rfl (by decide) rfl rfl rfl rfl rfl (by decide) (Nat.le_of_ble_eq_true rfl) ?_
                    refine g_istore X (lv' := [(0, .ref (kad K (0))), (1, .int (nI (b))), (2, .int (h 0 3)), (3, .int (nI (k))), (4, .int (nI (beltN q p m k))), (5, .int (nI (phaseN m (beltN q p m k)))), (6, .int (bI (turnedB m (beltN q p m k) = true))), (7, .int (nI ((k + b) % q))), (8, .int (nI (k)))]) dX9_make_170 172 rfl (by decide) rfl rfl ?_
                    refine g_iinc X (v := (nI (k + 1))) (lv' := [(0, .ref (kad K (0))), (1, .int (nI (b))), (2, .int (h 0 3)), (3, .int (nI (k + 1))), (4, .int (nI (beltN q p m k))), (5, .int (nI (phaseN m (beltN q p m k)))), (6, .int (bI (turnedB m (beltN q p m k) = true))), (7, .int (nI ((k + b) % q))), (8, .int (nI (k)))]) dX9_make_172 175 rfl (by decide) rfl (n_inc k 1) rfl rfl ?_
                    refine g_goto X dX9_make_175 25 (by decide) ?_
                    refine g_sub [0, 1, 2, 3] rfl ?_
                    exact ih25 (k + 1) (by omega) (by omega)
                  · skip
                    refine g_aload_n X dX9_make_147 148 rfl rfl ?_
                    refine g_iload X dX9_make_148 150 rfl rfl ?_
                    refine g_iload X dX9_make_150 152 rfl rfl ?_
                    refine g_iload_n X dX9_make_152 153 rfl rfl ?_
                    refine g_iconst X dX9_make_153 154 rfl (v := (nI (1))) rfl ?_
                    refine g_callVix (st := []) (v := (nI (k))) (m2 := (mkN (clM h) q p m b (k + 1))) X cw_X9_123 (mk_add_t h q p m n d C b k hb1 hb2 (by omega) f144) dX9_make_154 157 rfl (by decide) rfl rfl rfl rfl rfl (by decide) (Nat.le_of_ble_eq_true rfl) ?_
                    refine g_goto X dX9_make_157 170 (by decide) ?_
                    refine g_istore X (lv' := [(0, .ref (kad K (0))), (1, .int (nI (b))), (2, .int (h 0 3)), (3, .int (nI (k))), (4, .int (nI (beltN q p m k))), (5, .int (nI (phaseN m (beltN q p m k)))), (6, .int (bI (turnedB m (beltN q p m k) = true))), (7, .int (nI ((k + b) % q))), (8, .int (nI (k)))]) dX9_make_170 172 rfl (by decide) rfl rfl ?_
                    refine g_iinc X (v := (nI (k + 1))) (lv' := [(0, .ref (kad K (0))), (1, .int (nI (b))), (2, .int (h 0 3)), (3, .int (nI (k + 1))), (4, .int (nI (beltN q p m k))), (5, .int (nI (phaseN m (beltN q p m k)))), (6, .int (bI (turnedB m (beltN q p m k) = true))), (7, .int (nI ((k + b) % q))), (8, .int (nI (k)))]) dX9_make_172 175 rfl (by decide) rfl (n_inc k 1) rfl rfl ?_
                    refine g_goto X dX9_make_175 25 (by decide) ?_
                    refine g_sub [0, 1, 2, 3] rfl ?_
                    exact ih25 (k + 1) (by omega) (by omega)
                · skip
                  refine g_iconst X dX9_make_109 110 rfl (v := (nI (1))) rfl ?_
                  refine g_goto X dX9_make_110 130 (by decide) ?_
                  refine g_eq (st' := [.int (bI (turnedB m (beltN q p m k) = true))]) rfl rfl (by rw [bI_t (by simp [turnedB]; omega)]) ?_
                  refine g_istore X (lv' := [(0, .ref (kad K (0))), (1, .int (nI (b))), (2, .int (h 0 3)), (3, .int (nI (k))), (4, .int (nI (beltN q p m k))), (5, .int (nI (phaseN m (beltN q p m k)))), (6, .int (bI (turnedB m (beltN q p m k) = true)))]) dX9_make_130 132 rfl (by decide) rfl rfl ?_
                  refine g_iload_n X dX9_make_132 133 rfl rfl ?_
                  refine g_iload_n X dX9_make_133 134 rfl rfl ?_
                  refine g_iadd X (v := (nI (k + b))) dX9_make_134 135 rfl (nI_add k b) ?_
                  refine g_aload_n X dX9_make_135 136 rfl rfl ?_
                  refine g_get (c := 0) (k := 0) (T := TX9) (sk := skM0) (v := .int (nI (q))) X wf_X9_7 inX9 dX9_make_136 139 rfl (by decide) rfl rfl (by decide) (congrArg Value.int (hqk)) ?_
                  have b139 := Nat.mod_le (k + b) q
                  refine g_irem X (v := (nI ((k + b) % q))) dX9_make_139 140 rfl (nI_ne (by omega) (by omega)) (pk_rem (by omega) (by omega) (by omega)) ?_
                  refine g_istore X (lv' := [(0, .ref (kad K (0))), (1, .int (nI (b))), (2, .int (h 0 3)), (3, .int (nI (k))), (4, .int (nI (beltN q p m k))), (5, .int (nI (phaseN m (beltN q p m k)))), (6, .int (bI (turnedB m (beltN q p m k) = true))), (7, .int (nI ((k + b) % q)))]) dX9_make_140 142 rfl (by decide) rfl rfl ?_
                  refine g_iload X dX9_make_142 144 rfl rfl ?_
                  refine g_ifeq_B X dX9_make_144 160 (by decide) 147 rfl (fun t144 => ?_) (fun f144 => ?_)
                  · skip
                    refine g_aload_n X dX9_make_160 161 rfl rfl ?_
                    refine g_iload X dX9_make_161 163 rfl rfl ?_
                    refine g_iload_n X dX9_make_163 164 rfl rfl ?_
                    refine g_iload X dX9_make_164 166 rfl rfl ?_
                    refine g_iconst X dX9_make_166 167 rfl (v := (nI (1))) rfl ?_
                    refine g_callVix (st := []) (v := (nI (k))) (m2 := (mkN (clM h) q p m b (k + 1))) X cw_X9_123 (mk_add_f h q p m n d C b k hb1 hb2 (by omega) t144) dX9_make_167 170 rfl (by decide) rfl rfl rfl rfl rfl (by decide) (Nat.le_of_ble_eq_true rfl) ?_
                    refine g_istore X (lv' := [(0, .ref (kad K (0))), (1, .int (nI (b))), (2, .int (h 0 3)), (3, .int (nI (k))), (4, .int (nI (beltN q p m k))), (5, .int (nI (phaseN m (beltN q p m k)))), (6, .int (bI (turnedB m (beltN q p m k) = true))), (7, .int (nI ((k + b) % q))), (8, .int (nI (k)))]) dX9_make_170 172 rfl (by decide) rfl rfl ?_
                    refine g_iinc X (v := (nI (k + 1))) (lv' := [(0, .ref (kad K (0))), (1, .int (nI (b))), (2, .int (h 0 3)), (3, .int (nI (k + 1))), (4, .int (nI (beltN q p m k))), (5, .int (nI (phaseN m (beltN q p m k)))), (6, .int (bI (turnedB m (beltN q p m k) = true))), (7, .int (nI ((k + b) % q))), (8, .int (nI (k)))]) dX9_make_172 175 rfl (by decide) rfl (n_inc k 1) rfl rfl ?_
                    refine g_goto X dX9_make_175 25 (by decide) ?_
                    refine g_sub [0, 1, 2, 3] rfl ?_
                    exact ih25 (k + 1) (by omega) (by omega)
                  · skip
                    refine g_aload_n X dX9_make_147 148 rfl rfl ?_
                    refine g_iload X dX9_make_148 150 rfl rfl ?_
                    refine g_iload X dX9_make_150 152 rfl rfl ?_
                    refine g_iload_n X dX9_make_152 153 rfl rfl ?_
                    refine g_iconst X dX9_make_153 154 rfl (v := (nI (1))) rfl ?_
                    refine g_callVix (st := []) (v := (nI (k))) (m2 := (mkN (clM h) q p m b (k + 1))) X cw_X9_123 (mk_add_t h q p m n d C b k hb1 hb2 (by omega) f144) dX9_make_154 157 rfl (by decide) rfl rfl rfl rfl rfl (by decide) (Nat.le_of_ble_eq_true rfl) ?_
                    refine g_goto X dX9_make_157 170 (by decide) ?_
                    refine g_istore X (lv' := [(0, .ref (kad K (0))), (1, .int (nI (b))), (2, .int (h 0 3)), (3, .int (nI (k))), (4, .int (nI (beltN q p m k))), (5, .int (nI (phaseN m (beltN q p m k)))), (6, .int (bI (turnedB m (beltN q p m k) = true))), (7, .int (nI ((k + b) % q))), (8, .int (nI (k)))]) dX9_make_170 172 rfl (by decide) rfl rfl ?_
                    refine g_iinc X (v := (nI (k + 1))) (lv' := [(0, .ref (kad K (0))), (1, .int (nI (b))), (2, .int (h 0 3)), (3, .int (nI (k + 1))), (4, .int (nI (beltN q p m k))), (5, .int (nI (phaseN m (beltN q p m k)))), (6, .int (bI (turnedB m (beltN q p m k) = true))), (7, .int (nI ((k + b) % q))), (8, .int (nI (k)))]) dX9_make_172 175 rfl (by decide) rfl (n_inc k 1) rfl rfl ?_
                    refine g_goto X dX9_make_175 25 (by decide) ?_
                    refine g_sub [0, 1, 2, 3] rfl ?_
                    exact ih25 (k + 1) (by omega) (by omega)
            · skip
              refine g_iload X dX9_make_80 82 rfl rfl ?_
              refine g_iconst X dX9_make_82 83 rfl (v := (nI (2))) rfl ?_
              have b83 := Nat.mod_le (beltN q p m k) 2
              refine g_irem X (v := (nI ((beltN q p m k) % 2))) dX9_make_83 84 rfl (nI_ne (by omega) (by omega)) (pk_rem (by omega) (by omega) (by omega)) ?_
              refine g_goto X dX9_make_84 93 (by decide) ?_
              refine g_eq (st' := [.int (nI (phaseN m (beltN q p m k)))]) rfl rfl (by rw [phaseN, if_pos (by omega)]) ?_
              refine g_istore X (lv' := [(0, .ref (kad K (0))), (1, .int (nI (b))), (2, .int (h 0 3)), (3, .int (nI (k))), (4, .int (nI (beltN q p m k))), (5, .int (nI (phaseN m (beltN q p m k))))]) dX9_make_93 95 rfl (by decide) rfl rfl ?_
              refine g_aload_n X dX9_make_95 96 rfl rfl ?_
              refine g_get (c := 0) (k := 2) (T := TX9) (sk := skM0) (v := .int (nI (m))) X wf_X9_16 inX9 dX9_make_96 99 rfl (by decide) rfl rfl (by decide) (congrArg Value.int (hmk)) ?_
              refine g_iconst X dX9_make_99 100 rfl (v := (nI (2))) rfl ?_
              refine g_icmp_ne X ((m : Nat) : Int) 2 dX9_make_100 117 (by decide) 103 rfl (nI_toInt (by omega)) rfl (fun t100 => ?_) (fun f100 => ?_)
              · skip
                refine g_iload X dX9_make_117 119 rfl rfl ?_
                refine g_iconst X dX9_make_119 120 rfl (v := (nI (2))) rfl ?_
                have b120 := Nat.mod_le (beltN q p m k) 2
                refine g_irem X (v := (nI ((beltN q p m k) % 2))) dX9_make_120 121 rfl (nI_ne (by omega) (by omega)) (pk_rem (by omega) (by omega) (by omega)) ?_
                refine g_iconst X dX9_make_121 122 rfl (v := (nI (1))) rfl ?_
                refine g_icmp_ne X (((beltN q p m k) % 2 : Nat) : Int) 1 dX9_make_122 129 (by decide) 125 rfl (nI_toInt (by omega)) rfl (fun t122 => ?_) (fun f122 => ?_)
                · skip
                  refine g_iconst X dX9_make_129 130 rfl (v := (nI (0))) rfl ?_
                  refine g_eq (st' := [.int (bI (turnedB m (beltN q p m k) = true))]) rfl rfl (by rw [bI_f (by simp [turnedB]; omega)]) ?_
                  refine g_istore X (lv' := [(0, .ref (kad K (0))), (1, .int (nI (b))), (2, .int (h 0 3)), (3, .int (nI (k))), (4, .int (nI (beltN q p m k))), (5, .int (nI (phaseN m (beltN q p m k)))), (6, .int (bI (turnedB m (beltN q p m k) = true)))]) dX9_make_130 132 rfl (by decide) rfl rfl ?_
                  refine g_iload_n X dX9_make_132 133 rfl rfl ?_
                  refine g_iload_n X dX9_make_133 134 rfl rfl ?_
                  refine g_iadd X (v := (nI (k + b))) dX9_make_134 135 rfl (nI_add k b) ?_
                  refine g_aload_n X dX9_make_135 136 rfl rfl ?_
                  refine g_get (c := 0) (k := 0) (T := TX9) (sk := skM0) (v := .int (nI (q))) X wf_X9_7 inX9 dX9_make_136 139 rfl (by decide) rfl rfl (by decide) (congrArg Value.int (hqk)) ?_
                  have b139 := Nat.mod_le (k + b) q
                  refine g_irem X (v := (nI ((k + b) % q))) dX9_make_139 140 rfl (nI_ne (by omega) (by omega)) (pk_rem (by omega) (by omega) (by omega)) ?_
                  refine g_istore X (lv' := [(0, .ref (kad K (0))), (1, .int (nI (b))), (2, .int (h 0 3)), (3, .int (nI (k))), (4, .int (nI (beltN q p m k))), (5, .int (nI (phaseN m (beltN q p m k)))), (6, .int (bI (turnedB m (beltN q p m k) = true))), (7, .int (nI ((k + b) % q)))]) dX9_make_140 142 rfl (by decide) rfl rfl ?_
                  refine g_iload X dX9_make_142 144 rfl rfl ?_
                  refine g_ifeq_B X dX9_make_144 160 (by decide) 147 rfl (fun t144 => ?_) (fun f144 => ?_)
                  · skip
                    refine g_aload_n X dX9_make_160 161 rfl rfl ?_
                    refine g_iload X dX9_make_161 163 rfl rfl ?_
                    refine g_iload_n X dX9_make_163 164 rfl rfl ?_
                    refine g_iload X dX9_make_164 166 rfl rfl ?_
                    refine g_iconst X dX9_make_166 167 rfl (v := (nI (1))) rfl ?_
                    refine g_callVix (st := []) (v := (nI (k))) (m2 := (mkN (clM h) q p m b (k + 1))) X cw_X9_123 (mk_add_f h q p m n d C b k hb1 hb2 (by omega) t144) dX9_make_167 170 rfl (by decide) rfl rfl rfl rfl rfl (by decide) (Nat.le_of_ble_eq_true rfl) ?_
                    refine g_istore X (lv' := [(0, .ref (kad K (0))), (1, .int (nI (b))), (2, .int (h 0 3)), (3, .int (nI (k))), (4, .int (nI (beltN q p m k))), (5, .int (nI (phaseN m (beltN q p m k)))), (6, .int (bI (turnedB m (beltN q p m k) = true))), (7, .int (nI ((k + b) % q))), (8, .int (nI (k)))]) dX9_make_170 172 rfl (by decide) rfl rfl ?_
                    refine g_iinc X (v := (nI (k + 1))) (lv' := [(0, .ref (kad K (0))), (1, .int (nI (b))), (2, .int (h 0 3)), (3, .int (nI (k + 1))), (4, .int (nI (beltN q p m k))), (5, .int (nI (phaseN m (beltN q p m k)))), (6, .int (bI (turnedB m (beltN q p m k) = true))), (7, .int (nI ((k + b) % q))), (8, .int (nI (k)))]) dX9_make_172 175 rfl (by decide) rfl (n_inc k 1) rfl rfl ?_
                    refine g_goto X dX9_make_175 25 (by decide) ?_
                    refine g_sub [0, 1, 2, 3] rfl ?_
                    exact ih25 (k + 1) (by omega) (by omega)
                  · skip
                    refine g_aload_n X dX9_make_147 148 rfl rfl ?_
                    refine g_iload X dX9_make_148 150 rfl rfl ?_
                    refine g_iload X dX9_make_150 152 rfl rfl ?_
                    refine g_iload_n X dX9_make_152 153 rfl rfl ?_
                    refine g_iconst X dX9_make_153 154 rfl (v := (nI (1))) rfl ?_
                    refine g_callVix (st := []) (v := (nI (k))) (m2 := (mkN (clM h) q p m b (k + 1))) X cw_X9_123 (mk_add_t h q p m n d C b k hb1 hb2 (by omega) f144) dX9_make_154 157 rfl (by decide) rfl rfl rfl rfl rfl (by decide) (Nat.le_of_ble_eq_true rfl) ?_
                    refine g_goto X dX9_make_157 170 (by decide) ?_
                    refine g_istore X (lv' := [(0, .ref (kad K (0))), (1, .int (nI (b))), (2, .int (h 0 3)), (3, .int (nI (k))), (4, .int (nI (beltN q p m k))), (5, .int (nI (phaseN m (beltN q p m k)))), (6, .int (bI (turnedB m (beltN q p m k) = true))), (7, .int (nI ((k + b) % q))), (8, .int (nI (k)))]) dX9_make_170 172 rfl (by decide) rfl rfl ?_
                    refine g_iinc X (v := (nI (k + 1))) (lv' := [(0, .ref (kad K (0))), (1, .int (nI (b))), (2, .int (h 0 3)), (3, .int (nI (k + 1))), (4, .int (nI (beltN q p m k))), (5, .int (nI (phaseN m (beltN q p m k)))), (6, .int (bI (turnedB m (beltN q p m k) = true))), (7, .int (nI ((k + b) % q))), (8, .int (nI (k)))]) dX9_make_172 175 rfl (by decide) rfl (n_inc k 1) rfl rfl ?_
                    refine g_goto X dX9_make_175 25 (by decide) ?_
                    refine g_sub [0, 1, 2, 3] rfl ?_
                    exact ih25 (k + 1) (by omega) (by omega)
                · skip
                  refine g_iconst X dX9_make_125 126 rfl (v := (nI (1))) rfl ?_
                  refine g_goto X dX9_make_126 130 (by decide) ?_
                  refine g_eq (st' := [.int (bI (turnedB m (beltN q p m k) = true))]) rfl rfl (by rw [bI_t (by simp [turnedB]; omega)]) ?_
                  refine g_istore X (lv' := [(0, .ref (kad K (0))), (1, .int (nI (b))), (2, .int (h 0 3)), (3, .int (nI (k))), (4, .int (nI (beltN q p m k))), (5, .int (nI (phaseN m (beltN q p m k)))), (6, .int (bI (turnedB m (beltN q p m k) = true)))]) dX9_make_130 132 rfl (by decide) rfl rfl ?_
                  refine g_iload_n X dX9_make_132 133 rfl rfl ?_
                  refine g_iload_n X dX9_make_133 134 rfl rfl ?_
                  refine g_iadd X (v := (nI (k + b))) dX9_make_134 135 rfl (nI_add k b) ?_
                  refine g_aload_n X dX9_make_135 136 rfl rfl ?_
                  refine g_get (c := 0) (k := 0) (T := TX9) (sk := skM0) (v := .int (nI (q))) X wf_X9_7 inX9 dX9_make_136 139 rfl (by decide) rfl rfl (by decide) (congrArg Value.int (hqk)) ?_
                  have b139 := Nat.mod_le (k + b) q
                  refine g_irem X (v := (nI ((k + b) % q))) dX9_make_139 140 rfl (nI_ne (by omega) (by omega)) (pk_rem (by omega) (by omega) (by omega)) ?_
                  refine g_istore X (lv' := [(0, .ref (kad K (0))), (1, .int (nI (b))), (2, .int (h 0 3)), (3, .int (nI (k))), (4, .int (nI (beltN q p m k))), (5, .int (nI (phaseN m (beltN q p m k)))), (6, .int (bI (turnedB m (beltN q p m k) = true))), (7, .int (nI ((k + b) % q)))]) dX9_make_140 142 rfl (by decide) rfl rfl ?_
                  refine g_iload X dX9_make_142 144 rfl rfl ?_
                  refine g_ifeq_B X dX9_make_144 160 (by decide) 147 rfl (fun t144 => ?_) (fun f144 => ?_)
                  · skip
                    refine g_aload_n X dX9_make_160 161 rfl rfl ?_
                    refine g_iload X dX9_make_161 163 rfl rfl ?_
                    refine g_iload_n X dX9_make_163 164 rfl rfl ?_
                    refine g_iload X dX9_make_164 166 rfl rfl ?_
                    refine g_iconst X dX9_make_166 167 rfl (v := (nI (1))) rfl ?_
                    refine g_callVix (st := []) (v := (nI (k))) (m2 := (mkN (clM h) q p m b (k + 1))) X cw_X9_123 (mk_add_f h q p m n d C b k hb1 hb2 (by omega) t144) dX9_make_167 170 rfl (by decide) rfl rfl rfl rfl rfl (by decide) (Nat.le_of_ble_eq_true rfl) ?_
                    refine g_istore X (lv' := [(0, .ref (kad K (0))), (1, .int (nI (b))), (2, .int (h 0 3)), (3, .int (nI (k))), (4, .int (nI (beltN q p m k))), (5, .int (nI (phaseN m (beltN q p m k)))), (6, .int (bI (turnedB m (beltN q p m k) = true))), (7, .int (nI ((k + b) % q))), (8, .int (nI (k)))]) dX9_make_170 172 rfl (by decide) rfl rfl ?_
                    refine g_iinc X (v := (nI (k + 1))) (lv' := [(0, .ref (kad K (0))), (1, .int (nI (b))), (2, .int (h 0 3)), (3, .int (nI (k + 1))), (4, .int (nI (beltN q p m k))), (5, .int (nI (phaseN m (beltN q p m k)))), (6, .int (bI (turnedB m (beltN q p m k) = true))), (7, .int (nI ((k + b) % q))), (8, .int (nI (k)))]) dX9_make_172 175 rfl (by decide) rfl (n_inc k 1) rfl rfl ?_
                    refine g_goto X dX9_make_175 25 (by decide) ?_
                    refine g_sub [0, 1, 2, 3] rfl ?_
                    exact ih25 (k + 1) (by omega) (by omega)
                  · skip
                    refine g_aload_n X dX9_make_147 148 rfl rfl ?_
                    refine g_iload X dX9_make_148 150 rfl rfl ?_
                    refine g_iload X dX9_make_150 152 rfl rfl ?_
                    refine g_iload_n X dX9_make_152 153 rfl rfl ?_
                    refine g_iconst X dX9_make_153 154 rfl (v := (nI (1))) rfl ?_
                    refine g_callVix (st := []) (v := (nI (k))) (m2 := (mkN (clM h) q p m b (k + 1))) X cw_X9_123 (mk_add_t h q p m n d C b k hb1 hb2 (by omega) f144) dX9_make_154 157 rfl (by decide) rfl rfl rfl rfl rfl (by decide) (Nat.le_of_ble_eq_true rfl) ?_
                    refine g_goto X dX9_make_157 170 (by decide) ?_
                    refine g_istore X (lv' := [(0, .ref (kad K (0))), (1, .int (nI (b))), (2, .int (h 0 3)), (3, .int (nI (k))), (4, .int (nI (beltN q p m k))), (5, .int (nI (phaseN m (beltN q p m k)))), (6, .int (bI (turnedB m (beltN q p m k) = true))), (7, .int (nI ((k + b) % q))), (8, .int (nI (k)))]) dX9_make_170 172 rfl (by decide) rfl rfl ?_
                    refine g_iinc X (v := (nI (k + 1))) (lv' := [(0, .ref (kad K (0))), (1, .int (nI (b))), (2, .int (h 0 3)), (3, .int (nI (k + 1))), (4, .int (nI (beltN q p m k))), (5, .int (nI (phaseN m (beltN q p m k)))), (6, .int (bI (turnedB m (beltN q p m k) = true))), (7, .int (nI ((k + b) % q))), (8, .int (nI (k)))]) dX9_make_172 175 rfl (by decide) rfl (n_inc k 1) rfl rfl ?_
                    refine g_goto X dX9_make_175 25 (by decide) ?_
                    refine g_sub [0, 1, 2, 3] rfl ?_
                    exact ih25 (k + 1) (by omega) (by omega)
              · skip
                refine g_iload X dX9_make_103 105 rfl rfl ?_
                refine g_iconst X dX9_make_105 106 rfl (v := (nI (1))) rfl ?_
                refine g_icmp_le X ((beltN q p m k : Nat) : Int) 1 dX9_make_106 113 (by decide) 109 rfl (nI_toInt (by omega)) rfl (fun t106 => ?_) (fun f106 => ?_)
                · skip
                  refine g_iconst X dX9_make_113 114 rfl (v := (nI (0))) rfl ?_
                  refine g_goto X dX9_make_114 130 (by decide) ?_
                  refine g_eq (st' := [.int (bI (turnedB m (beltN q p m k) = true))]) rfl rfl (by rw [bI_f (by simp [turnedB]; omega)]) ?_
                  refine g_istore X (lv' := [(0, .ref (kad K (0))), (1, .int (nI (b))), (2, .int (h 0 3)), (3, .int (nI (k))), (4, .int (nI (beltN q p m k))), (5, .int (nI (phaseN m (beltN q p m k)))), (6, .int (bI (turnedB m (beltN q p m k) = true)))]) dX9_make_130 132 rfl (by decide) rfl rfl ?_
                  refine g_iload_n X dX9_make_132 133 rfl rfl ?_
                  refine g_iload_n X dX9_make_133 134 rfl rfl ?_
                  refine g_iadd X (v := (nI (k + b))) dX9_make_134 135 rfl (nI_add k b) ?_
                  refine g_aload_n X dX9_make_135 136 rfl rfl ?_
                  refine g_get (c := 0) (k := 0) (T := TX9) (sk := skM0) (v := .int (nI (q))) X wf_X9_7 inX9 dX9_make_136 139 rfl (by decide) rfl rfl (by decide) (congrArg Value.int (hqk)) ?_
                  have b139 := Nat.mod_le (k + b) q
                  refine g_irem X (v := (nI ((k + b) % q))) dX9_make_139 140 rfl (nI_ne (by omega) (by omega)) (pk_rem (by omega) (by omega) (by omega)) ?_
                  refine g_istore X (lv' := [(0, .ref (kad K (0))), (1, .int (nI (b))), (2, .int (h 0 3)), (3, .int (nI (k))), (4, .int (nI (beltN q p m k))), (5, .int (nI (phaseN m (beltN q p m k)))), (6, .int (bI (turnedB m (beltN q p m k) = true))), (7, .int (nI ((k + b) % q)))]) dX9_make_140 142 rfl (by decide) rfl rfl ?_
                  refine g_iload X dX9_make_142 144 rfl rfl ?_
                  refine g_ifeq_B X dX9_make_144 160 (by decide) 147 rfl (fun t144 => ?_) (fun f144 => ?_)
                  · skip
                    refine g_aload_n X dX9_make_160 161 rfl rfl ?_
                    refine g_iload X dX9_make_161 163 rfl rfl ?_
                    refine g_iload_n X dX9_make_163 164 rfl rfl ?_
                    refine g_iload X dX9_make_164 166 rfl rfl ?_
                    refine g_iconst X dX9_make_166 167 rfl (v := (nI (1))) rfl ?_
                    refine g_callVix (st := []) (v := (nI (k))) (m2 := (mkN (clM h) q p m b (k + 1))) X cw_X9_123 (mk_add_f h q p m n d C b k hb1 hb2 (by omega) t144) dX9_make_167 170 rfl (by decide) rfl rfl rfl rfl rfl (by decide) (Nat.le_of_ble_eq_true rfl) ?_
                    refine g_istore X (lv' := [(0, .ref (kad K (0))), (1, .int (nI (b))), (2, .int (h 0 3)), (3, .int (nI (k))), (4, .int (nI (beltN q p m k))), (5, .int (nI (phaseN m (beltN q p m k)))), (6, .int (bI (turnedB m (beltN q p m k) = true))), (7, .int (nI ((k + b) % q))), (8, .int (nI (k)))]) dX9_make_170 172 rfl (by decide) rfl rfl ?_
                    refine g_iinc X (v := (nI (k + 1))) (lv' := [(0, .ref (kad K (0))), (1, .int (nI (b))), (2, .int (h 0 3)), (3, .int (nI (k + 1))), (4, .int (nI (beltN q p m k))), (5, .int (nI (phaseN m (beltN q p m k)))), (6, .int (bI (turnedB m (beltN q p m k) = true))), (7, .int (nI ((k + b) % q))), (8, .int (nI (k)))]) dX9_make_172 175 rfl (by decide) rfl (n_inc k 1) rfl rfl ?_
                    refine g_goto X dX9_make_175 25 (by decide) ?_
                    refine g_sub [0, 1, 2, 3] rfl ?_
                    exact ih25 (k + 1) (by omega) (by omega)
                  · skip
                    refine g_aload_n X dX9_make_147 148 rfl rfl ?_
                    refine g_iload X dX9_make_148 150 rfl rfl ?_
                    refine g_iload X dX9_make_150 152 rfl rfl ?_
                    refine g_iload_n X dX9_make_152 153 rfl rfl ?_
                    refine g_iconst X dX9_make_153 154 rfl (v := (nI (1))) rfl ?_
                    refine g_callVix (st := []) (v := (nI (k))) (m2 := (mkN (clM h) q p m b (k + 1))) X cw_X9_123 (mk_add_t h q p m n d C b k hb1 hb2 (by omega) f144) dX9_make_154 157 rfl (by decide) rfl rfl rfl rfl rfl (by decide) (Nat.le_of_ble_eq_true rfl) ?_
                    refine g_goto X dX9_make_157 170 (by decide) ?_
                    refine g_istore X (lv' := [(0, .ref (kad K (0))), (1, .int (nI (b))), (2, .int (h 0 3)), (3, .int (nI (k))), (4, .int (nI (beltN q p m k))), (5, .int (nI (phaseN m (beltN q p m k)))), (6, .int (bI (turnedB m (beltN q p m k) = true))), (7, .int (nI ((k + b) % q))), (8, .int (nI (k)))]) dX9_make_170 172 rfl (by decide) rfl rfl ?_
                    refine g_iinc X (v := (nI (k + 1))) (lv' := [(0, .ref (kad K (0))), (1, .int (nI (b))), (2, .int (h 0 3)), (3, .int (nI (k + 1))), (4, .int (nI (beltN q p m k))), (5, .int (nI (phaseN m (beltN q p m k)))), (6, .int (bI (turnedB m (beltN q p m k) = true))), (7, .int (nI ((k + b) % q))), (8, .int (nI (k)))]) dX9_make_172 175 rfl (by decide) rfl (n_inc k 1) rfl rfl ?_
                    refine g_goto X dX9_make_175 25 (by decide) ?_
                    refine g_sub [0, 1, 2, 3] rfl ?_
                    exact ih25 (k + 1) (by omega) (by omega)
                · skip
                  refine g_iconst X dX9_make_109 110 rfl (v := (nI (1))) rfl ?_
                  refine g_goto X dX9_make_110 130 (by decide) ?_
                  refine g_eq (st' := [.int (bI (turnedB m (beltN q p m k) = true))]) rfl rfl (by rw [bI_t (by simp [turnedB]; omega)]) ?_
                  refine g_istore X (lv' := [(0, .ref (kad K (0))), (1, .int (nI (b))), (2, .int (h 0 3)), (3, .int (nI (k))), (4, .int (nI (beltN q p m k))), (5, .int (nI (phaseN m (beltN q p m k)))), (6, .int (bI (turnedB m (beltN q p m k) = true)))]) dX9_make_130 132 rfl (by decide) rfl rfl ?_
                  refine g_iload_n X dX9_make_132 133 rfl rfl ?_
                  refine g_iload_n X dX9_make_133 134 rfl rfl ?_
                  refine g_iadd X (v := (nI (k + b))) dX9_make_134 135 rfl (nI_add k b) ?_
                  refine g_aload_n X dX9_make_135 136 rfl rfl ?_
                  refine g_get (c := 0) (k := 0) (T := TX9) (sk := skM0) (v := .int (nI (q))) X wf_X9_7 inX9 dX9_make_136 139 rfl (by decide) rfl rfl (by decide) (congrArg Value.int (hqk)) ?_
                  have b139 := Nat.mod_le (k + b) q
                  refine g_irem X (v := (nI ((k + b) % q))) dX9_make_139 140 rfl (nI_ne (by omega) (by omega)) (pk_rem (by omega) (by omega) (by omega)) ?_
                  refine g_istore X (lv' := [(0, .ref (kad K (0))), (1, .int (nI (b))), (2, .int (h 0 3)), (3, .int (nI (k))), (4, .int (nI (beltN q p m k))), (5, .int (nI (phaseN m (beltN q p m k)))), (6, .int (bI (turnedB m (beltN q p m k) = true))), (7, .int (nI ((k + b) % q)))]) dX9_make_140 142 rfl (by decide) rfl rfl ?_
                  refine g_iload X dX9_make_142 144 rfl rfl ?_
                  refine g_ifeq_B X dX9_make_144 160 (by decide) 147 rfl (fun t144 => ?_) (fun f144 => ?_)
                  · skip
                    refine g_aload_n X dX9_make_160 161 rfl rfl ?_
                    refine g_iload X dX9_make_161 163 rfl rfl ?_
                    refine g_iload_n X dX9_make_163 164 rfl rfl ?_
                    refine g_iload X dX9_make_164 166 rfl rfl ?_
                    refine g_iconst X dX9_make_166 167 rfl (v := (nI (1))) rfl ?_
                    refine g_callVix (st := []) (v := (nI (k))) (m2 := (mkN (clM h) q p m b (k + 1))) X cw_X9_123 (mk_add_f h q p m n d C b k hb1 hb2 (by omega) t144) dX9_make_167 170 rfl (by decide) rfl rfl rfl rfl rfl (by decide) (Nat.le_of_ble_eq_true rfl) ?_
                    refine g_istore X (lv' := [(0, .ref (kad K (0))), (1, .int (nI (b))), (2, .int (h 0 3)), (3, .int (nI (k))), (4, .int (nI (beltN q p m k))), (5, .int (nI (phaseN m (beltN q p m k)))), (6, .int (bI (turnedB m (beltN q p m k) = true))), (7, .int (nI ((k + b) % q))), (8, .int (nI (k)))]) dX9_make_170 172 rfl (by decide) rfl rfl ?_
                    refine g_iinc X (v := (nI (k + 1))) (lv' := [(0, .ref (kad K (0))), (1, .int (nI (b))), (2, .int (h 0 3)), (3, .int (nI (k + 1))), (4, .int (nI (beltN q p m k))), (5, .int (nI (phaseN m (beltN q p m k)))), (6, .int (bI (turnedB m (beltN q p m k) = true))), (7, .int (nI ((k + b) % q))), (8, .int (nI (k)))]) dX9_make_172 175 rfl (by decide) rfl (n_inc k 1) rfl rfl ?_
                    refine g_goto X dX9_make_175 25 (by decide) ?_
                    refine g_sub [0, 1, 2, 3] rfl ?_
                    exact ih25 (k + 1) (by omega) (by omega)
                  · skip
                    refine g_aload_n X dX9_make_147 148 rfl rfl ?_
                    refine g_iload X dX9_make_148 150 rfl rfl ?_
                    refine g_iload X dX9_make_150 152 rfl rfl ?_
                    refine g_iload_n X dX9_make_152 153 rfl rfl ?_
                    refine g_iconst X dX9_make_153 154 rfl (v := (nI (1))) rfl ?_
                    refine g_callVix (st := []) (v := (nI (k))) (m2 := (mkN (clM h) q p m b (k + 1))) X cw_X9_123 (mk_add_t h q p m n d C b k hb1 hb2 (by omega) f144) dX9_make_154 157 rfl (by decide) rfl rfl rfl rfl rfl (by decide) (Nat.le_of_ble_eq_true rfl) ?_
                    refine g_goto X dX9_make_157 170 (by decide) ?_
                    refine g_istore X (lv' := [(0, .ref (kad K (0))), (1, .int (nI (b))), (2, .int (h 0 3)), (3, .int (nI (k))), (4, .int (nI (beltN q p m k))), (5, .int (nI (phaseN m (beltN q p m k)))), (6, .int (bI (turnedB m (beltN q p m k) = true))), (7, .int (nI ((k + b) % q))), (8, .int (nI (k)))]) dX9_make_170 172 rfl (by decide) rfl rfl ?_
                    refine g_iinc X (v := (nI (k + 1))) (lv' := [(0, .ref (kad K (0))), (1, .int (nI (b))), (2, .int (h 0 3)), (3, .int (nI (k + 1))), (4, .int (nI (beltN q p m k))), (5, .int (nI (phaseN m (beltN q p m k)))), (6, .int (bI (turnedB m (beltN q p m k) = true))), (7, .int (nI ((k + b) % q))), (8, .int (nI (k)))]) dX9_make_172 175 rfl (by decide) rfl (n_inc k 1) rfl rfl ?_
                    refine g_goto X dX9_make_175 25 (by decide) ?_
                    refine g_sub [0, 1, 2, 3] rfl ?_
                    exact ih25 (k + 1) (by omega) (by omega)
          · skip
            refine g_iconst X dX9_make_68 69 rfl (v := (nI (0))) rfl ?_
            refine g_goto X dX9_make_69 93 (by decide) ?_
            refine g_eq (st' := [.int (nI (phaseN m (beltN q p m k)))]) rfl rfl (by rw [phaseN, if_neg (by omega), if_neg (by omega)]) ?_
            refine g_istore X (lv' := [(0, .ref (kad K (0))), (1, .int (nI (b))), (2, .int (h 0 3)), (3, .int (nI (k))), (4, .int (nI (beltN q p m k))), (5, .int (nI (phaseN m (beltN q p m k))))]) dX9_make_93 95 rfl (by decide) rfl rfl ?_
            refine g_aload_n X dX9_make_95 96 rfl rfl ?_
            refine g_get (c := 0) (k := 2) (T := TX9) (sk := skM0) (v := .int (nI (m))) X wf_X9_16 inX9 dX9_make_96 99 rfl (by decide) rfl rfl (by decide) (congrArg Value.int (hmk)) ?_
            refine g_iconst X dX9_make_99 100 rfl (v := (nI (2))) rfl ?_
            refine g_icmp_ne X ((m : Nat) : Int) 2 dX9_make_100 117 (by decide) 103 rfl (nI_toInt (by omega)) rfl (fun t100 => ?_) (fun f100 => ?_)
            · skip
              refine g_iload X dX9_make_117 119 rfl rfl ?_
              refine g_iconst X dX9_make_119 120 rfl (v := (nI (2))) rfl ?_
              have b120 := Nat.mod_le (beltN q p m k) 2
              refine g_irem X (v := (nI ((beltN q p m k) % 2))) dX9_make_120 121 rfl (nI_ne (by omega) (by omega)) (pk_rem (by omega) (by omega) (by omega)) ?_
              refine g_iconst X dX9_make_121 122 rfl (v := (nI (1))) rfl ?_
              refine g_icmp_ne X (((beltN q p m k) % 2 : Nat) : Int) 1 dX9_make_122 129 (by decide) 125 rfl (nI_toInt (by omega)) rfl (fun t122 => ?_) (fun f122 => ?_)
              · skip
                refine g_iconst X dX9_make_129 130 rfl (v := (nI (0))) rfl ?_
                refine g_eq (st' := [.int (bI (turnedB m (beltN q p m k) = true))]) rfl rfl (by rw [bI_f (by simp [turnedB]; omega)]) ?_
                refine g_istore X (lv' := [(0, .ref (kad K (0))), (1, .int (nI (b))), (2, .int (h 0 3)), (3, .int (nI (k))), (4, .int (nI (beltN q p m k))), (5, .int (nI (phaseN m (beltN q p m k)))), (6, .int (bI (turnedB m (beltN q p m k) = true)))]) dX9_make_130 132 rfl (by decide) rfl rfl ?_
                refine g_iload_n X dX9_make_132 133 rfl rfl ?_
                refine g_iload_n X dX9_make_133 134 rfl rfl ?_
                refine g_iadd X (v := (nI (k + b))) dX9_make_134 135 rfl (nI_add k b) ?_
                refine g_aload_n X dX9_make_135 136 rfl rfl ?_
                refine g_get (c := 0) (k := 0) (T := TX9) (sk := skM0) (v := .int (nI (q))) X wf_X9_7 inX9 dX9_make_136 139 rfl (by decide) rfl rfl (by decide) (congrArg Value.int (hqk)) ?_
                have b139 := Nat.mod_le (k + b) q
                refine g_irem X (v := (nI ((k + b) % q))) dX9_make_139 140 rfl (nI_ne (by omega) (by omega)) (pk_rem (by omega) (by omega) (by omega)) ?_
                refine g_istore X (lv' := [(0, .ref (kad K (0))), (1, .int (nI (b))), (2, .int (h 0 3)), (3, .int (nI (k))), (4, .int (nI (beltN q p m k))), (5, .int (nI (phaseN m (beltN q p m k)))), (6, .int (bI (turnedB m (beltN q p m k) = true))), (7, .int (nI ((k + b) % q)))]) dX9_make_140 142 rfl (by decide) rfl rfl ?_
                refine g_iload X dX9_make_142 144 rfl rfl ?_
                refine g_ifeq_B X dX9_make_144 160 (by decide) 147 rfl (fun t144 => ?_) (fun f144 => ?_)
                · skip
                  refine g_aload_n X dX9_make_160 161 rfl rfl ?_
                  refine g_iload X dX9_make_161 163 rfl rfl ?_
                  refine g_iload_n X dX9_make_163 164 rfl rfl ?_
                  refine g_iload X dX9_make_164 166 rfl rfl ?_
                  refine g_iconst X dX9_make_166 167 rfl (v := (nI (1))) rfl ?_
                  refine g_callVix (st := []) (v := (nI (k))) (m2 := (mkN (clM h) q p m b (k + 1))) X cw_X9_123 (mk_add_f h q p m n d C b k hb1 hb2 (by omega) t144) dX9_make_167 170 rfl (by decide) rfl rfl rfl rfl rfl (by decide) (Nat.le_of_ble_eq_true rfl) ?_
                  refine g_istore X (lv' := [(0, .ref (kad K (0))), (1, .int (nI (b))), (2, .int (h 0 3)), (3, .int (nI (k))), (4, .int (nI (beltN q p m k))), (5, .int (nI (phaseN m (beltN q p m k)))), (6, .int (bI (turnedB m (beltN q p m k) = true))), (7, .int (nI ((k + b) % q))), (8, .int (nI (k)))]) dX9_make_170 172 rfl (by decide) rfl rfl ?_
                  refine g_iinc X (v := (nI (k + 1))) (lv' := [(0, .ref (kad K (0))), (1, .int (nI (b))), (2, .int (h 0 3)), (3, .int (nI (k + 1))), (4, .int (nI (beltN q p m k))), (5, .int (nI (phaseN m (beltN q p m k)))), (6, .int (bI (turnedB m (beltN q p m k) = true))), (7, .int (nI ((k + b) % q))), (8, .int (nI (k)))]) dX9_make_172 175 rfl (by decide) rfl (n_inc k 1) rfl rfl ?_
                  refine g_goto X dX9_make_175 25 (by decide) ?_
                  refine g_sub [0, 1, 2, 3] rfl ?_
                  exact ih25 (k + 1) (by omega) (by omega)
                · skip
                  refine g_aload_n X dX9_make_147 148 rfl rfl ?_
                  refine g_iload X dX9_make_148 150 rfl rfl ?_
                  refine g_iload X dX9_make_150 152 rfl rfl ?_
                  refine g_iload_n X dX9_make_152 153 rfl rfl ?_
                  refine g_iconst X dX9_make_153 154 rfl (v := (nI (1))) rfl ?_
                  refine g_callVix (st := []) (v := (nI (k))) (m2 := (mkN (clM h) q p m b (k + 1))) X cw_X9_123 (mk_add_t h q p m n d C b k hb1 hb2 (by omega) f144) dX9_make_154 157 rfl (by decide) rfl rfl rfl rfl rfl (by decide) (Nat.le_of_ble_eq_true rfl) ?_
                  refine g_goto X dX9_make_157 170 (by decide) ?_
                  refine g_istore X (lv' := [(0, .ref (kad K (0))), (1, .int (nI (b))), (2, .int (h 0 3)), (3, .int (nI (k))), (4, .int (nI (beltN q p m k))), (5, .int (nI (phaseN m (beltN q p m k)))), (6, .int (bI (turnedB m (beltN q p m k) = true))), (7, .int (nI ((k + b) % q))), (8, .int (nI (k)))]) dX9_make_170 172 rfl (by decide) rfl rfl ?_
                  refine g_iinc X (v := (nI (k + 1))) (lv' := [(0, .ref (kad K (0))), (1, .int (nI (b))), (2, .int (h 0 3)), (3, .int (nI (k + 1))), (4, .int (nI (beltN q p m k))), (5, .int (nI (phaseN m (beltN q p m k)))), (6, .int (bI (turnedB m (beltN q p m k) = true))), (7, .int (nI ((k + b) % q))), (8, .int (nI (k)))]) dX9_make_172 175 rfl (by decide) rfl (n_inc k 1) rfl rfl ?_
                  refine g_goto X dX9_make_175 25 (by decide) ?_
                  refine g_sub [0, 1, 2, 3] rfl ?_
                  exact ih25 (k + 1) (by omega) (by omega)
              · skip
                refine g_iconst X dX9_make_125 126 rfl (v := (nI (1))) rfl ?_
                refine g_goto X dX9_make_126 130 (by decide) ?_
                refine g_eq (st' := [.int (bI (turnedB m (beltN q p m k) = true))]) rfl rfl (by rw [bI_t (by simp [turnedB]; omega)]) ?_
                refine g_istore X (lv' := [(0, .ref (kad K (0))), (1, .int (nI (b))), (2, .int (h 0 3)), (3, .int (nI (k))), (4, .int (nI (beltN q p m k))), (5, .int (nI (phaseN m (beltN q p m k)))), (6, .int (bI (turnedB m (beltN q p m k) = true)))]) dX9_make_130 132 rfl (by decide) rfl rfl ?_
                refine g_iload_n X dX9_make_132 133 rfl rfl ?_
                refine g_iload_n X dX9_make_133 134 rfl rfl ?_
                refine g_iadd X (v := (nI (k + b))) dX9_make_134 135 rfl (nI_add k b) ?_
                refine g_aload_n X dX9_make_135 136 rfl rfl ?_
                refine g_get (c := 0) (k := 0) (T := TX9) (sk := skM0) (v := .int (nI (q))) X wf_X9_7 inX9 dX9_make_136 139 rfl (by decide) rfl rfl (by decide) (congrArg Value.int (hqk)) ?_
                have b139 := Nat.mod_le (k + b) q
                refine g_irem X (v := (nI ((k + b) % q))) dX9_make_139 140 rfl (nI_ne (by omega) (by omega)) (pk_rem (by omega) (by omega) (by omega)) ?_
                refine g_istore X (lv' := [(0, .ref (kad K (0))), (1, .int (nI (b))), (2, .int (h 0 3)), (3, .int (nI (k))), (4, .int (nI (beltN q p m k))), (5, .int (nI (phaseN m (beltN q p m k)))), (6, .int (bI (turnedB m (beltN q p m k) = true))), (7, .int (nI ((k + b) % q)))]) dX9_make_140 142 rfl (by decide) rfl rfl ?_
                refine g_iload X dX9_make_142 144 rfl rfl ?_
                refine g_ifeq_B X dX9_make_144 160 (by decide) 147 rfl (fun t144 => ?_) (fun f144 => ?_)
                · skip
                  refine g_aload_n X dX9_make_160 161 rfl rfl ?_
                  refine g_iload X dX9_make_161 163 rfl rfl ?_
                  refine g_iload_n X dX9_make_163 164 rfl rfl ?_
                  refine g_iload X dX9_make_164 166 rfl rfl ?_
                  refine g_iconst X dX9_make_166 167 rfl (v := (nI (1))) rfl ?_
                  refine g_callVix (st := []) (v := (nI (k))) (m2 := (mkN (clM h) q p m b (k + 1))) X cw_X9_123 (mk_add_f h q p m n d C b k hb1 hb2 (by omega) t144) dX9_make_167 170 rfl (by decide) rfl rfl rfl rfl rfl (by decide) (Nat.le_of_ble_eq_true rfl) ?_
                  refine g_istore X (lv' := [(0, .ref (kad K (0))), (1, .int (nI (b))), (2, .int (h 0 3)), (3, .int (nI (k))), (4, .int (nI (beltN q p m k))), (5, .int (nI (phaseN m (beltN q p m k)))), (6, .int (bI (turnedB m (beltN q p m k) = true))), (7, .int (nI ((k + b) % q))), (8, .int (nI (k)))]) dX9_make_170 172 rfl (by decide) rfl rfl ?_
                  refine g_iinc X (v := (nI (k + 1))) (lv' := [(0, .ref (kad K (0))), (1, .int (nI (b))), (2, .int (h 0 3)), (3, .int (nI (k + 1))), (4, .int (nI (beltN q p m k))), (5, .int (nI (phaseN m (beltN q p m k)))), (6, .int (bI (turnedB m (beltN q p m k) = true))), (7, .int (nI ((k + b) % q))), (8, .int (nI (k)))]) dX9_make_172 175 rfl (by decide) rfl (n_inc k 1) rfl rfl ?_
                  refine g_goto X dX9_make_175 25 (by decide) ?_
                  refine g_sub [0, 1, 2, 3] rfl ?_
                  exact ih25 (k + 1) (by omega) (by omega)
                · skip
                  refine g_aload_n X dX9_make_147 148 rfl rfl ?_
                  refine g_iload X dX9_make_148 150 rfl rfl ?_
                  refine g_iload X dX9_make_150 152 rfl rfl ?_
                  refine g_iload_n X dX9_make_152 153 rfl rfl ?_
                  refine g_iconst X dX9_make_153 154 rfl (v := (nI (1))) rfl ?_
                  refine g_callVix (st := []) (v := (nI (k))) (m2 := (mkN (clM h) q p m b (k + 1))) X cw_X9_123 (mk_add_t h q p m n d C b k hb1 hb2 (by omega) f144) dX9_make_154 157 rfl (by decide) rfl rfl rfl rfl rfl (by decide) (Nat.le_of_ble_eq_true rfl) ?_
                  refine g_goto X dX9_make_157 170 (by decide) ?_
                  refine g_istore X (lv' := [(0, .ref (kad K (0))), (1, .int (nI (b))), (2, .int (h 0 3)), (3, .int (nI (k))), (4, .int (nI (beltN q p m k))), (5, .int (nI (phaseN m (beltN q p m k)))), (6, .int (bI (turnedB m (beltN q p m k) = true))), (7, .int (nI ((k + b) % q))), (8, .int (nI (k)))]) dX9_make_170 172 rfl (by decide) rfl rfl ?_
                  refine g_iinc X (v := (nI (k + 1))) (lv' := [(0, .ref (kad K (0))), (1, .int (nI (b))), (2, .int (h 0 3)), (3, .int (nI (k + 1))), (4, .int (nI (beltN q p m k))), (5, .int (nI (phaseN m (beltN q p m k)))), (6, .int (bI (turnedB m (beltN q p m k) = true))), (7, .int (nI ((k + b) % q))), (8, .int (nI (k)))]) dX9_make_172 175 rfl (by decide) rfl (n_inc k 1) rfl rfl ?_
                  refine g_goto X dX9_make_175 25 (by decide) ?_
                  refine g_sub [0, 1, 2, 3] rfl ?_
                  exact ih25 (k + 1) (by omega) (by omega)
            · skip
              refine g_iload X dX9_make_103 105 rfl rfl ?_
              refine g_iconst X dX9_make_105 106 rfl (v := (nI (1))) rfl ?_
              refine g_icmp_le X ((beltN q p m k : Nat) : Int) 1 dX9_make_106 113 (by decide) 109 rfl (nI_toInt (by omega)) rfl (fun t106 => ?_) (fun f106 => ?_)
              · skip
                refine g_iconst X dX9_make_113 114 rfl (v := (nI (0))) rfl ?_
                refine g_goto X dX9_make_114 130 (by decide) ?_
                refine g_eq (st' := [.int (bI (turnedB m (beltN q p m k) = true))]) rfl rfl (by rw [bI_f (by simp [turnedB]; omega)]) ?_
                refine g_istore X (lv' := [(0, .ref (kad K (0))), (1, .int (nI (b))), (2, .int (h 0 3)), (3, .int (nI (k))), (4, .int (nI (beltN q p m k))), (5, .int (nI (phaseN m (beltN q p m k)))), (6, .int (bI (turnedB m (beltN q p m k) = true)))]) dX9_make_130 132 rfl (by decide) rfl rfl ?_
                refine g_iload_n X dX9_make_132 133 rfl rfl ?_
                refine g_iload_n X dX9_make_133 134 rfl rfl ?_
                refine g_iadd X (v := (nI (k + b))) dX9_make_134 135 rfl (nI_add k b) ?_
                refine g_aload_n X dX9_make_135 136 rfl rfl ?_
                refine g_get (c := 0) (k := 0) (T := TX9) (sk := skM0) (v := .int (nI (q))) X wf_X9_7 inX9 dX9_make_136 139 rfl (by decide) rfl rfl (by decide) (congrArg Value.int (hqk)) ?_
                have b139 := Nat.mod_le (k + b) q
                refine g_irem X (v := (nI ((k + b) % q))) dX9_make_139 140 rfl (nI_ne (by omega) (by omega)) (pk_rem (by omega) (by omega) (by omega)) ?_
                refine g_istore X (lv' := [(0, .ref (kad K (0))), (1, .int (nI (b))), (2, .int (h 0 3)), (3, .int (nI (k))), (4, .int (nI (beltN q p m k))), (5, .int (nI (phaseN m (beltN q p m k)))), (6, .int (bI (turnedB m (beltN q p m k) = true))), (7, .int (nI ((k + b) % q)))]) dX9_make_140 142 rfl (by decide) rfl rfl ?_
                refine g_iload X dX9_make_142 144 rfl rfl ?_
                refine g_ifeq_B X dX9_make_144 160 (by decide) 147 rfl (fun t144 => ?_) (fun f144 => ?_)
                · skip
                  refine g_aload_n X dX9_make_160 161 rfl rfl ?_
                  refine g_iload X dX9_make_161 163 rfl rfl ?_
                  refine g_iload_n X dX9_make_163 164 rfl rfl ?_
                  refine g_iload X dX9_make_164 166 rfl rfl ?_
                  refine g_iconst X dX9_make_166 167 rfl (v := (nI (1))) rfl ?_
                  refine g_callVix (st := []) (v := (nI (k))) (m2 := (mkN (clM h) q p m b (k + 1))) X cw_X9_123 (mk_add_f h q p m n d C b k hb1 hb2 (by omega) t144) dX9_make_167 170 rfl (by decide) rfl rfl rfl rfl rfl (by decide) (Nat.le_of_ble_eq_true rfl) ?_
                  refine g_istore X (lv' := [(0, .ref (kad K (0))), (1, .int (nI (b))), (2, .int (h 0 3)), (3, .int (nI (k))), (4, .int (nI (beltN q p m k))), (5, .int (nI (phaseN m (beltN q p m k)))), (6, .int (bI (turnedB m (beltN q p m k) = true))), (7, .int (nI ((k + b) % q))), (8, .int (nI (k)))]) dX9_make_170 172 rfl (by decide) rfl rfl ?_
                  refine g_iinc X (v := (nI (k + 1))) (lv' := [(0, .ref (kad K (0))), (1, .int (nI (b))), (2, .int (h 0 3)), (3, .int (nI (k + 1))), (4, .int (nI (beltN q p m k))), (5, .int (nI (phaseN m (beltN q p m k)))), (6, .int (bI (turnedB m (beltN q p m k) = true))), (7, .int (nI ((k + b) % q))), (8, .int (nI (k)))]) dX9_make_172 175 rfl (by decide) rfl (n_inc k 1) rfl rfl ?_
                  refine g_goto X dX9_make_175 25 (by decide) ?_
                  refine g_sub [0, 1, 2, 3] rfl ?_
                  exact ih25 (k + 1) (by omega) (by omega)
                · skip
                  refine g_aload_n X dX9_make_147 148 rfl rfl ?_
                  refine g_iload X dX9_make_148 150 rfl rfl ?_
                  refine g_iload X dX9_make_150 152 rfl rfl ?_
                  refine g_iload_n X dX9_make_152 153 rfl rfl ?_
                  refine g_iconst X dX9_make_153 154 rfl (v := (nI (1))) rfl ?_
                  refine g_callVix (st := []) (v := (nI (k))) (m2 := (mkN (clM h) q p m b (k + 1))) X cw_X9_123 (mk_add_t h q p m n d C b k hb1 hb2 (by omega) f144) dX9_make_154 157 rfl (by decide) rfl rfl rfl rfl rfl (by decide) (Nat.le_of_ble_eq_true rfl) ?_
                  refine g_goto X dX9_make_157 170 (by decide) ?_
                  refine g_istore X (lv' := [(0, .ref (kad K (0))), (1, .int (nI (b))), (2, .int (h 0 3)), (3, .int (nI (k))), (4, .int (nI (beltN q p m k))), (5, .int (nI (phaseN m (beltN q p m k)))), (6, .int (bI (turnedB m (beltN q p m k) = true))), (7, .int (nI ((k + b) % q))), (8, .int (nI (k)))]) dX9_make_170 172 rfl (by decide) rfl rfl ?_
                  refine g_iinc X (v := (nI (k + 1))) (lv' := [(0, .ref (kad K (0))), (1, .int (nI (b))), (2, .int (h 0 3)), (3, .int (nI (k + 1))), (4, .int (nI (beltN q p m k))), (5, .int (nI (phaseN m (beltN q p m k)))), (6, .int (bI (turnedB m (beltN q p m k) = true))), (7, .int (nI ((k + b) % q))), (8, .int (nI (k)))]) dX9_make_172 175 rfl (by decide) rfl (n_inc k 1) rfl rfl ?_
                  refine g_goto X dX9_make_175 25 (by decide) ?_
                  refine g_sub [0, 1, 2, 3] rfl ?_
                  exact ih25 (k + 1) (by omega) (by omega)
              · skip
                refine g_iconst X dX9_make_109 110 rfl (v := (nI (1))) rfl ?_
                refine g_goto X dX9_make_110 130 (by decide) ?_
                refine g_eq (st' := [.int (bI (turnedB m (beltN q p m k) = true))]) rfl rfl (by rw [bI_t (by simp [turnedB]; omega)]) ?_
                refine g_istore X (lv' := [(0, .ref (kad K (0))), (1, .int (nI (b))), (2, .int (h 0 3)), (3, .int (nI (k))), (4, .int (nI (beltN q p m k))), (5, .int (nI (phaseN m (beltN q p m k)))), (6, .int (bI (turnedB m (beltN q p m k) = true)))]) dX9_make_130 132 rfl (by decide) rfl rfl ?_
                refine g_iload_n X dX9_make_132 133 rfl rfl ?_
                refine g_iload_n X dX9_make_133 134 rfl rfl ?_
                refine g_iadd X (v := (nI (k + b))) dX9_make_134 135 rfl (nI_add k b) ?_
                refine g_aload_n X dX9_make_135 136 rfl rfl ?_
                refine g_get (c := 0) (k := 0) (T := TX9) (sk := skM0) (v := .int (nI (q))) X wf_X9_7 inX9 dX9_make_136 139 rfl (by decide) rfl rfl (by decide) (congrArg Value.int (hqk)) ?_
                have b139 := Nat.mod_le (k + b) q
                refine g_irem X (v := (nI ((k + b) % q))) dX9_make_139 140 rfl (nI_ne (by omega) (by omega)) (pk_rem (by omega) (by omega) (by omega)) ?_
                refine g_istore X (lv' := [(0, .ref (kad K (0))), (1, .int (nI (b))), (2, .int (h 0 3)), (3, .int (nI (k))), (4, .int (nI (beltN q p m k))), (5, .int (nI (phaseN m (beltN q p m k)))), (6, .int (bI (turnedB m (beltN q p m k) = true))), (7, .int (nI ((k + b) % q)))]) dX9_make_140 142 rfl (by decide) rfl rfl ?_
                refine g_iload X dX9_make_142 144 rfl rfl ?_
                refine g_ifeq_B X dX9_make_144 160 (by decide) 147 rfl (fun t144 => ?_) (fun f144 => ?_)
                · skip
                  refine g_aload_n X dX9_make_160 161 rfl rfl ?_
                  refine g_iload X dX9_make_161 163 rfl rfl ?_
                  refine g_iload_n X dX9_make_163 164 rfl rfl ?_
                  refine g_iload X dX9_make_164 166 rfl rfl ?_
                  refine g_iconst X dX9_make_166 167 rfl (v := (nI (1))) rfl ?_
                  refine g_callVix (st := []) (v := (nI (k))) (m2 := (mkN (clM h) q p m b (k + 1))) X cw_X9_123 (mk_add_f h q p m n d C b k hb1 hb2 (by omega) t144) dX9_make_167 170 rfl (by decide) rfl rfl rfl rfl rfl (by decide) (Nat.le_of_ble_eq_true rfl) ?_
                  refine g_istore X (lv' := [(0, .ref (kad K (0))), (1, .int (nI (b))), (2, .int (h 0 3)), (3, .int (nI (k))), (4, .int (nI (beltN q p m k))), (5, .int (nI (phaseN m (beltN q p m k)))), (6, .int (bI (turnedB m (beltN q p m k) = true))), (7, .int (nI ((k + b) % q))), (8, .int (nI (k)))]) dX9_make_170 172 rfl (by decide) rfl rfl ?_
                  refine g_iinc X (v := (nI (k + 1))) (lv' := [(0, .ref (kad K (0))), (1, .int (nI (b))), (2, .int (h 0 3)), (3, .int (nI (k + 1))), (4, .int (nI (beltN q p m k))), (5, .int (nI (phaseN m (beltN q p m k)))), (6, .int (bI (turnedB m (beltN q p m k) = true))), (7, .int (nI ((k + b) % q))), (8, .int (nI (k)))]) dX9_make_172 175 rfl (by decide) rfl (n_inc k 1) rfl rfl ?_
                  refine g_goto X dX9_make_175 25 (by decide) ?_
                  refine g_sub [0, 1, 2, 3] rfl ?_
                  exact ih25 (k + 1) (by omega) (by omega)
                · skip
                  refine g_aload_n X dX9_make_147 148 rfl rfl ?_
                  refine g_iload X dX9_make_148 150 rfl rfl ?_
                  refine g_iload X dX9_make_150 152 rfl rfl ?_
                  refine g_iload_n X dX9_make_152 153 rfl rfl ?_
                  refine g_iconst X dX9_make_153 154 rfl (v := (nI (1))) rfl ?_
                  refine g_callVix (st := []) (v := (nI (k))) (m2 := (mkN (clM h) q p m b (k + 1))) X cw_X9_123 (mk_add_t h q p m n d C b k hb1 hb2 (by omega) f144) dX9_make_154 157 rfl (by decide) rfl rfl rfl rfl rfl (by decide) (Nat.le_of_ble_eq_true rfl) ?_
                  refine g_goto X dX9_make_157 170 (by decide) ?_
                  refine g_istore X (lv' := [(0, .ref (kad K (0))), (1, .int (nI (b))), (2, .int (h 0 3)), (3, .int (nI (k))), (4, .int (nI (beltN q p m k))), (5, .int (nI (phaseN m (beltN q p m k)))), (6, .int (bI (turnedB m (beltN q p m k) = true))), (7, .int (nI ((k + b) % q))), (8, .int (nI (k)))]) dX9_make_170 172 rfl (by decide) rfl rfl ?_
                  refine g_iinc X (v := (nI (k + 1))) (lv' := [(0, .ref (kad K (0))), (1, .int (nI (b))), (2, .int (h 0 3)), (3, .int (nI (k + 1))), (4, .int (nI (beltN q p m k))), (5, .int (nI (phaseN m (beltN q p m k)))), (6, .int (bI (turnedB m (beltN q p m k) = true))), (7, .int (nI ((k + b) % q))), (8, .int (nI (k)))]) dX9_make_172 175 rfl (by decide) rfl (n_inc k 1) rfl rfl ?_
                  refine g_goto X dX9_make_175 25 (by decide) ?_
                  refine g_sub [0, 1, 2, 3] rfl ?_
                  exact ih25 (k + 1) (by omega) (by omega)
    skip
    refine g_mem (h := (clM h)) (h' := (mkN (clM h) q p m b 0)) rfl ?_
    exact lp25 _ 0 (by omega) (Nat.lt_succ_self _)
  · skip
    refine g_iconst X dX9_make_16 17 rfl (v := (zI (-1))) rfl ?_
    refine g_iret (h := h) (v := (zI (-1))) X Z dX9_make_17 ?_
    exact ⟨(if_neg f13).symm, (if_neg f13).symm⟩
