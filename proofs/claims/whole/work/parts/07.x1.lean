set_option maxHeartbeats 1000000 in
set_option maxRecDepth 100000 in
theorem c_X8_isWithin (h : Mem) (x l u : Int32) (c a b : Int) (hx : x.toInt = c) (hl : l.toInt = a) (hu : u.toInt = b) : cI 69 XL yX8_isWithin cX8_isWithin 3 (some .boolean) 0 0 (fun ad => [.int (x), .int (l), .int (u)]) h (fun r h2 => r = bI (a ≤ c ∧ c ≤ b) ∧ h2 = h) := by
  refine cI_of XLW (by decide +kernel) (fun ad => Nat.le_of_ble_eq_true rfl) ?_
  intro K X Z
  show G 69 XL 3 K h 0 [(0, .int (x)), (1, .int (l)), (2, .int (u))] []
  refine g_iload_n X dX8_isWithin_0 1 rfl rfl ?_
  refine g_iload_n X dX8_isWithin_1 2 rfl rfl ?_
  refine g_icmp_lt X c a dX8_isWithin_2 14 (by decide) 5 rfl hx hl (fun t2 => ?_) (fun f2 => ?_)
  · skip
    refine g_iconst X dX8_isWithin_14 15 rfl (v := (nI (0))) rfl ?_
    refine g_zret (h := h) (v := (nI (0))) X Z dX8_isWithin_15 (Or.inl rfl) ?_
    exact ⟨(bI_f (by omega)).symm, rfl⟩
  · skip
    refine g_iload_n X dX8_isWithin_5 6 rfl rfl ?_
    refine g_iload_n X dX8_isWithin_6 7 rfl rfl ?_
    refine g_icmp_gt X c b dX8_isWithin_7 14 (by decide) 10 rfl hx hu (fun t7 => ?_) (fun f7 => ?_)
    · skip
      refine g_iconst X dX8_isWithin_14 15 rfl (v := (nI (0))) rfl ?_
      refine g_zret (h := h) (v := (nI (0))) X Z dX8_isWithin_15 (Or.inl rfl) ?_
      exact ⟨(bI_f (by omega)).symm, rfl⟩
    · skip
      refine g_iconst X dX8_isWithin_10 11 rfl (v := (nI (1))) rfl ?_
      refine g_goto X dX8_isWithin_11 15 (by decide) ?_
      refine g_zret (h := h) (v := (nI (1))) X Z dX8_isWithin_15 (Or.inr rfl) ?_
      exact ⟨(bI_t (by omega)).symm, rfl⟩
set_option maxHeartbeats 1000000 in
set_option maxRecDepth 100000 in
theorem c_X8_isTone (h : Mem) (x : Int32) (c : Int) (hx : x.toInt = c) : cI 69 XL yX8_isTone cX8_isTone 1 (some .boolean) 1 22 (fun ad => [.int (x)]) h (fun r h2 => r = bI (1 ≤ c ∧ c ≤ 47) ∧ h2 = h) := by
  refine cI_of XLW (by decide +kernel) (fun ad => Nat.le_of_ble_eq_true rfl) ?_
  intro K X Z
  show G 69 XL 1 K h 0 [(0, .int (x))] []
  refine g_iload_n X dX8_isTone_0 1 rfl rfl ?_
  refine g_iconst X dX8_isTone_1 2 rfl (v := (nI (1))) rfl ?_
  refine g_bipush X dX8_isTone_2 4 rfl (v := (nI (47))) rfl ?_
  refine g_callSix (st := []) (v := (bI (1 ≤ c ∧ c ≤ 47))) (m2 := h) X cw_X8_81 (c_X8_isWithin h (x) (nI (1)) (nI (47)) c 1 47 hx rfl rfl) dX8_isTone_4 7 rfl rfl rfl rfl (by decide) (Nat.le_of_ble_eq_true rfl) ?_
  refine g_zret (h := h) (v := (bI (1 ≤ c ∧ c ≤ 47))) X Z dX8_isTone_7 (bI_01 _) ?_
  exact ⟨rfl, rfl⟩
set_option maxHeartbeats 1000000 in
set_option maxRecDepth 100000 in
theorem c_X8_oneIf (h : Mem) (c : Prop) [Decidable c] : cI 69 XL yX8_oneIf cX8_oneIf 1 (some .int) 0 0 (fun ad => [.int (bI (c))]) h (fun r h2 => r = bI c ∧ h2 = h) := by
  refine cI_of XLW (by decide +kernel) (fun ad => Nat.le_of_ble_eq_true rfl) ?_
  intro K X Z
  show G 69 XL 1 K h 0 [(0, .int (bI (c)))] []
  refine g_iload_n X dX8_oneIf_0 1 rfl rfl ?_
  refine g_ifeq_B X dX8_oneIf_1 8 (by decide) 4 rfl (fun t1 => ?_) (fun f1 => ?_)
  · skip
    refine g_iconst X dX8_oneIf_8 9 rfl (v := (nI (0))) rfl ?_
    refine g_iret (h := h) (v := (nI (0))) X Z dX8_oneIf_9 ?_
    exact ⟨(bI_f t1).symm, rfl⟩
  · skip
    refine g_iconst X dX8_oneIf_4 5 rfl (v := (nI (1))) rfl ?_
    refine g_goto X dX8_oneIf_5 9 (by decide) ?_
    refine g_iret (h := h) (v := (nI (1))) X Z dX8_oneIf_9 ?_
    exact ⟨(bI_t f1).symm, rfl⟩
/-- the greatest number from 1 to k that divides both -/
def gdv (a b : Nat) : Nat → Nat
  | 0 => 1
  | k + 1 => if a % (k + 1) = 0 ∧ b % (k + 1) = 0 then k + 1 else gdv a b k
theorem gdv_le (a b : Nat) : ∀ k, 1 ≤ gdv a b k ∧ gdv a b k ≤ k + 1
  | 0 => by simp [gdv]
  | k + 1 => by
    have := gdv_le a b k
    unfold gdv
    split <;> omega
set_option maxHeartbeats 1000000 in
set_option maxRecDepth 100000 in
theorem c_X8_gcd (h : Mem) (a b : Nat) (ha : 1 ≤ a) (ha2 : a < 1000) (hb : b < 1000) : cI 69 XL yX8_greatestCommonDivisor cX8_greatestCommonDivisor 4 (some .int) 0 0 (fun ad => [.int (nI (a)), .int (nI (b))]) h (fun r h2 => r = nI (gdv a b a) ∧ h2 = h) := by
  refine cI_of XLW (by decide +kernel) (fun ad => Nat.le_of_ble_eq_true rfl) ?_
  intro K X Z
  show G 69 XL 4 K h 0 [(0, .int (nI (a))), (1, .int (nI (b)))] []
  refine g_iconst X dX8_greatestCommonDivisor_0 1 rfl (v := (nI (1))) rfl ?_
  refine g_istore_n X (lv' := [(0, .int (nI (a))), (1, .int (nI (b))), (2, .int (nI 1))]) dX8_greatestCommonDivisor_1 2 rfl (by decide) rfl rfl ?_
  refine g_iconst X dX8_greatestCommonDivisor_2 3 rfl (v := (nI (2))) rfl ?_
  refine g_istore_n X (lv' := [(0, .int (nI (a))), (1, .int (nI (b))), (2, .int (nI 1)), (3, .int (nI 2))]) dX8_greatestCommonDivisor_3 4 rfl (by decide) rfl rfl ?_
  have lp4 : ∀ (fu : Nat) (d : Nat) (g : Nat) (hd1 : 1 ≤ d) (hd2 : d ≤ a) (hg : g = gdv a b d), a - d < fu → G 69 XL 4 K h 4 [(0, .int (nI (a))), (1, .int (nI (b))), (2, .int (nI (g))), (3, .int (nI (d + 1)))] [] := by
    intro fu
    induction fu with
    | zero => intro d g hd1 hd2 hg hm; exact absurd hm (Nat.not_lt_zero _)
    | succ fu ih4 =>
      intro d g hd1 hd2 hg hm4
      have hgl := gdv_le a b d
      refine g_iload_n X dX8_greatestCommonDivisor_4 5 rfl rfl ?_
      refine g_iload_n X dX8_greatestCommonDivisor_5 6 rfl rfl ?_
      refine g_icmp_gt X ((d + 1 : Nat) : Int) ((a : Nat) : Int) dX8_greatestCommonDivisor_6 29 (by decide) 9 rfl (nI_toInt (by omega)) (nI_toInt (by omega)) (fun t6 => ?_) (fun f6 => ?_)
      · skip
        refine g_iload_n X dX8_greatestCommonDivisor_29 30 rfl rfl ?_
        refine g_iret (h := h) (v := (nI (g))) X Z dX8_greatestCommonDivisor_30 ?_
        exact ⟨by rw [hg, show a = d from by omega], rfl⟩
      · skip
        refine g_iload_n X dX8_greatestCommonDivisor_9 10 rfl rfl ?_
        refine g_iload_n X dX8_greatestCommonDivisor_10 11 rfl rfl ?_
        have b11 := Nat.mod_le a (d + 1)
        refine g_irem X (v := (nI (a % (d + 1)))) dX8_greatestCommonDivisor_11 12 rfl (nI_ne (by omega) (by omega)) (pk_rem (by omega) (by omega) (by omega)) ?_
        refine g_if_ne X ((a % (d + 1) : Nat) : Int) dX8_greatestCommonDivisor_12 23 (by decide) 15 rfl (nI_toInt (by omega)) (fun t12 => ?_) (fun f12 => ?_)
        · skip
          refine g_iinc X (v := (nI (d + 2))) (lv' := [(0, .int (nI (a))), (1, .int (nI (b))), (2, .int (nI (g))), (3, .int (nI (d + 2)))]) dX8_greatestCommonDivisor_23 26 rfl (by decide) rfl (n_inc (d + 1) 1) rfl rfl ?_
          refine g_goto X dX8_greatestCommonDivisor_26 4 (by decide) ?_
          skip
          exact ih4 (d + 1) g (by omega) (by omega) (hg.trans (if_neg (by omega)).symm) (by omega)
        · skip
          refine g_iload_n X dX8_greatestCommonDivisor_15 16 rfl rfl ?_
          refine g_iload_n X dX8_greatestCommonDivisor_16 17 rfl rfl ?_
          have b17 := Nat.mod_le b (d + 1)
          refine g_irem X (v := (nI (b % (d + 1)))) dX8_greatestCommonDivisor_17 18 rfl (nI_ne (by omega) (by omega)) (pk_rem (by omega) (by omega) (by omega)) ?_
          refine g_if_ne X ((b % (d + 1) : Nat) : Int) dX8_greatestCommonDivisor_18 23 (by decide) 21 rfl (nI_toInt (by omega)) (fun t18 => ?_) (fun f18 => ?_)
          · skip
            refine g_iinc X (v := (nI (d + 2))) (lv' := [(0, .int (nI (a))), (1, .int (nI (b))), (2, .int (nI (g))), (3, .int (nI (d + 2)))]) dX8_greatestCommonDivisor_23 26 rfl (by decide) rfl (n_inc (d + 1) 1) rfl rfl ?_
            refine g_goto X dX8_greatestCommonDivisor_26 4 (by decide) ?_
            skip
            exact ih4 (d + 1) g (by omega) (by omega) (hg.trans (if_neg (by omega)).symm) (by omega)
          · skip
            refine g_iload_n X dX8_greatestCommonDivisor_21 22 rfl rfl ?_
            refine g_istore_n X (lv' := [(0, .int (nI (a))), (1, .int (nI (b))), (2, .int (nI (d + 1))), (3, .int (nI (d + 1)))]) dX8_greatestCommonDivisor_22 23 rfl (by decide) rfl rfl ?_
            refine g_iinc X (v := (nI (d + 2))) (lv' := [(0, .int (nI (a))), (1, .int (nI (b))), (2, .int (nI (d + 1))), (3, .int (nI (d + 2)))]) dX8_greatestCommonDivisor_23 26 rfl (by decide) rfl (n_inc (d + 1) 1) rfl rfl ?_
            refine g_goto X dX8_greatestCommonDivisor_26 4 (by decide) ?_
            skip
            exact ih4 (d + 1) (d + 1) (by omega) (by omega) ((if_pos (by omega)).symm) (by omega)
  skip
  exact lp4 _ 1 1 (by omega) (by omega) (by simp [gdv]) (Nat.lt_succ_self _)
set_option maxHeartbeats 1000000 in
set_option maxRecDepth 100000 in
theorem c_X8_lcm (h : Mem) (a b : Nat) (ha : 1 ≤ a) (ha2 : a < 1000) (hb : b < 1000) : cI 69 XL yX8_leastCommonMultiple cX8_leastCommonMultiple 2 (some .int) 1 23 (fun ad => [.int (nI (a)), .int (nI (b))]) h (fun r h2 => r = nI (a / gdv a b a * b) ∧ h2 = h) := by
  refine cI_of XLW (by decide +kernel) (fun ad => Nat.le_of_ble_eq_true rfl) ?_
  intro K X Z
  have hgl := gdv_le a b a
  show G 69 XL 2 K h 0 [(0, .int (nI (a))), (1, .int (nI (b)))] []
  refine g_iload_n X dX8_leastCommonMultiple_0 1 rfl rfl ?_
  refine g_iload_n X dX8_leastCommonMultiple_1 2 rfl rfl ?_
  refine g_iload_n X dX8_leastCommonMultiple_2 3 rfl rfl ?_
  refine g_callSix (st := [.int (nI (a))]) (v := (nI (gdv a b a))) (m2 := h) X cw_X8_235 (c_X8_gcd h a b (by omega) (by omega) (by omega)) dX8_leastCommonMultiple_3 6 rfl rfl rfl rfl (by decide) (Nat.le_of_ble_eq_true rfl) ?_
  have b6 := Nat.div_le_self a (gdv a b a)
  refine g_idiv X (v := (nI (a / (gdv a b a)))) dX8_leastCommonMultiple_6 7 rfl (nI_ne (by omega) (by omega)) (pk_div (by omega) (by omega) (by omega)) ?_
  refine g_iload_n X dX8_leastCommonMultiple_7 8 rfl rfl ?_
  refine g_imul X (v := (nI ((a / (gdv a b a)) * b))) dX8_leastCommonMultiple_8 9 rfl (pk_mul (a / (gdv a b a)) b) ?_
  refine g_iret (h := h) (v := (nI ((a / (gdv a b a)) * b))) X Z dX8_leastCommonMultiple_9 ?_
  exact ⟨rfl, rfl⟩
set_option maxHeartbeats 1000000 in
set_option maxRecDepth 100000 in
theorem c_X1_hasSlot (h : Mem) (x : Int32) (c : Int) (hx : x.toInt = c) (q : Nat) (hq : h 1 0 = nI q) (hq2 : q < 1000) : cI 69 XL yX1_hasSlot cX1_hasSlot 2 (some .boolean) 1 22 (fun ad => [.ref (ad (1)), .int (x)]) h (fun r h2 => r = bI (0 ≤ c ∧ c ≤ (q : Int) - 1) ∧ h2 = h) := by
  refine cI_of XLW (by decide +kernel) (fun ad => Nat.le_of_ble_eq_true rfl) ?_
  intro K X Z
  show G 69 XL 2 K h 0 [(0, .ref (kad K (1))), (1, .int (x))] []
  refine g_iload_n X dX1_hasSlot_0 1 rfl rfl ?_
  refine g_iconst X dX1_hasSlot_1 2 rfl (v := (nI (0))) rfl ?_
  refine g_aload_n X dX1_hasSlot_2 3 rfl rfl ?_
  refine g_get (c := 1) (k := 0) (T := TX1) (sk := skX1) (v := .int (nI (q))) X wf_X1_7 inX1 dX1_hasSlot_3 6 rfl (by decide) rfl rfl (by decide) (congrArg Value.int (hq)) ?_
  refine g_iconst X dX1_hasSlot_6 7 rfl (v := (nI (1))) rfl ?_
  refine g_isub X (v := (zI (((q : Nat) : Int) - ((1 : Nat) : Int)))) dX1_hasSlot_7 8 rfl (nn_sub q 1) ?_
  refine g_callSNix (st := []) (v := (bI (0 ≤ c ∧ c ≤ ((q : Nat) : Int) - ((1 : Nat) : Int)))) (m2 := h) X cw_X1_19 (c_X8_isWithin h (x) (nI (0)) (zI (((q : Nat) : Int) - ((1 : Nat) : Int))) c 0 (((q : Nat) : Int) - ((1 : Nat) : Int)) hx rfl (zI_toInt (by omega))) dX1_hasSlot_8 11 rfl rfl rfl rfl (by decide) (Nat.le_of_ble_eq_true rfl) ?_
  refine g_zret (h := h) (v := (bI (0 ≤ c ∧ c ≤ ((q : Nat) : Int) - ((1 : Nat) : Int)))) X Z dX1_hasSlot_11 (bI_01 _) ?_
  exact ⟨rfl, rfl⟩
set_option maxHeartbeats 1000000 in
set_option maxRecDepth 100000 in
theorem c_X1_hasPhase (h : Mem) (x : Int32) (c : Int) (hx : x.toInt = c) (m : Nat) (hm : h 1 2 = nI m) (hm2 : m < 1000) : cI 69 XL yX1_hasPhase cX1_hasPhase 2 (some .boolean) 1 22 (fun ad => [.ref (ad (1)), .int (x)]) h (fun r h2 => r = bI (0 ≤ c ∧ c ≤ (m : Int) - 1) ∧ h2 = h) := by
  refine cI_of XLW (by decide +kernel) (fun ad => Nat.le_of_ble_eq_true rfl) ?_
  intro K X Z
  show G 69 XL 2 K h 0 [(0, .ref (kad K (1))), (1, .int (x))] []
  refine g_iload_n X dX1_hasPhase_0 1 rfl rfl ?_
  refine g_iconst X dX1_hasPhase_1 2 rfl (v := (nI (0))) rfl ?_
  refine g_aload_n X dX1_hasPhase_2 3 rfl rfl ?_
  refine g_get (c := 1) (k := 2) (T := TX1) (sk := skX1) (v := .int (nI (m))) X wf_X1_16 inX1 dX1_hasPhase_3 6 rfl (by decide) rfl rfl (by decide) (congrArg Value.int (hm)) ?_
  refine g_iconst X dX1_hasPhase_6 7 rfl (v := (nI (1))) rfl ?_
  refine g_isub X (v := (zI (((m : Nat) : Int) - ((1 : Nat) : Int)))) dX1_hasPhase_7 8 rfl (nn_sub m 1) ?_
  refine g_callSNix (st := []) (v := (bI (0 ≤ c ∧ c ≤ ((m : Nat) : Int) - ((1 : Nat) : Int)))) (m2 := h) X cw_X1_19 (c_X8_isWithin h (x) (nI (0)) (zI (((m : Nat) : Int) - ((1 : Nat) : Int))) c 0 (((m : Nat) : Int) - ((1 : Nat) : Int)) hx rfl (zI_toInt (by omega))) dX1_hasPhase_8 11 rfl rfl rfl rfl (by decide) (Nat.le_of_ble_eq_true rfl) ?_
  refine g_zret (h := h) (v := (bI (0 ≤ c ∧ c ≤ ((m : Nat) : Int) - ((1 : Nat) : Int)))) X Z dX1_hasPhase_11 (bI_01 _) ?_
  exact ⟨rfl, rfl⟩
/-- slots from one to the other, the lesser way round -/
def apt (q a b : Nat) : Nat := min ((a - b) + (b - a)) (q - ((a - b) + (b - a)))
theorem mabs_sub {a b : Nat} (ha : a < 1000) (hb : b < 1000) : (if (0 : Int32) ≤ zI ((a : Int) - (b : Int)) then zI ((a : Int) - (b : Int)) else 0 - zI ((a : Int) - (b : Int))) = nI ((a - b) + (b - a)) := by
  have e : (zI ((a : Int) - (b : Int))).toInt = (a : Int) - b := zI_toInt (by omega)
  by_cases c : b ≤ a
  · rw [if_pos ((ir_le (x := 0) (y := zI ((a : Int) - (b : Int))) (a := 0) rfl e).mpr (by omega))]
    exact zI_of (by omega)
  · rw [if_neg (fun z => c (by have := (ir_le (x := 0) (y := zI ((a : Int) - (b : Int))) (a := 0) rfl e).mp z; omega))]
    have e2 : (0 : Int32) - zI ((a : Int) - (b : Int)) = zI (0 - ((a : Int) - (b : Int))) := zz_sub 0 _
    rw [e2]
    exact zI_of (by omega)
theorem mmin_n {a b : Nat} (ha : a < 2147483648) (hb : b < 2147483648) : (if nI b < nI a then nI b else nI a) = nI (min a b) := by
  by_cases c : b < a
  · rw [if_pos (nI_lt c (by omega)), show min a b = b from by omega]
  · rw [if_neg (nI_nlt (by omega) (by omega)), show min a b = a from by omega]
theorem mmax_n {a b : Nat} (ha : a < 2147483648) (hb : b < 2147483648) : (if nI a < nI b then nI b else nI a) = nI (max a b) := by
  by_cases c : a < b
  · rw [if_pos (nI_lt c (by omega)), show max a b = b from by omega]
  · rw [if_neg (nI_nlt (by omega) (by omega)), show max a b = a from by omega]
set_option maxHeartbeats 1000000 in
set_option maxRecDepth 100000 in
theorem c_X1_between (h : Mem) (q a b : Nat) (hq : h 1 0 = nI q) (hq2 : q < 1000) (ha : a < 1000) (hb : b < 1000) (haq : a < q) (hbq : b < q) : cI 69 XL yX1_between cX1_between 4 (some .int) 1 21 (fun ad => [.ref (ad (1)), .int (nI (a)), .int (nI (b))]) h (fun r h2 => r = nI (apt q a b) ∧ h2 = h) := by
  refine cI_of XLW (by decide +kernel) (fun ad => Nat.le_of_ble_eq_true rfl) ?_
  intro K X Z
  show G 69 XL 4 K h 0 [(0, .ref (kad K (1))), (1, .int (nI (a))), (2, .int (nI (b)))] []
  refine g_iload_n X dX1_between_0 1 rfl rfl ?_
  refine g_iload_n X dX1_between_1 2 rfl rfl ?_
  refine g_isub X (v := (zI (((a : Nat) : Int) - ((b : Nat) : Int)))) dX1_between_2 3 rfl (nn_sub a b) ?_
  refine g_mabs (st := []) (v := (nI ((a - b) + (b - a)))) X wq_X1_25 dX1_between_3 6 rfl (by omega) (Nat.le_of_ble_eq_true rfl) (mabs_sub ha hb) ?_
  refine g_istore_n X (lv' := [(0, .ref (kad K (1))), (1, .int (nI (a))), (2, .int (nI (b))), (3, .int (nI ((a - b) + (b - a))))]) dX1_between_6 7 rfl (by decide) rfl rfl ?_
  refine g_iload_n X dX1_between_7 8 rfl rfl ?_
  refine g_aload_n X dX1_between_8 9 rfl rfl ?_
  refine g_get (c := 1) (k := 0) (T := TX1) (sk := skX1) (v := .int (nI (q))) X wf_X1_7 inX1 dX1_between_9 12 rfl (by decide) rfl rfl (by decide) (congrArg Value.int (hq)) ?_
  refine g_iload_n X dX1_between_12 13 rfl rfl ?_
  refine g_isub X (v := (nI (q - ((a - b) + (b - a))))) dX1_between_13 14 rfl (pk_sub (by omega)) ?_
  refine g_mmin (st := []) (v := (nI (apt q a b))) X wq_X1_31 dX1_between_14 17 rfl (by omega) (Nat.le_of_ble_eq_true rfl) (mmin_n (by omega) (by omega)) ?_
  refine g_iret (h := h) (v := (nI (apt q a b))) X Z dX1_between_17 ?_
  exact ⟨rfl, rfl⟩
def beltN (q p m i : Nat) : Nat := 2 * m * p * i / q % (2 * m)
def phaseN (m u : Nat) : Nat := if m = 2 then u % 2 else if m = 3 then 2 * u % 3 else 0
def turnedN (m u : Nat) : Prop := (m = 2 ∧ 2 ≤ u) ∨ (m ≠ 2 ∧ u % 2 = 1)
theorem mul_lt4 {a b c A B C : Nat} (ha : a ≤ A) (hb : b ≤ B) (hc : c ≤ C) : a * b * c ≤ A * B * C := Nat.mul_le_mul (Nat.mul_le_mul ha hb) hc
set_option maxHeartbeats 1000000 in
set_option maxRecDepth 100000 in
theorem c_X1_beltOf (h : Mem) (q p m i : Nat) (hq : h 1 0 = nI q) (hp : h 1 1 = nI p) (hm : h 1 2 = nI m) (hq1 : 3 ≤ q) (hq2 : q ≤ 24) (hp1 : 1 ≤ p) (hp2 : p ≤ 6) (hm1 : 1 ≤ m) (hm2 : m ≤ 3) (hi : i < 24) : cI 69 XL yX1_beltOf cX1_beltOf 2 (some .int) 0 0 (fun ad => [.ref (ad (1)), .int (nI (i))]) h (fun r h2 => r = nI (beltN q p m i) ∧ h2 = h) := by
  refine cI_of XLW (by decide +kernel) (fun ad => Nat.le_of_ble_eq_true rfl) ?_
  intro K X Z
  have e1 : 2 * m * p * i ≤ 6 * 6 * 24 := mul_lt4 (by omega) hp2 (by omega)
  show G 69 XL 2 K h 0 [(0, .ref (kad K (1))), (1, .int (nI (i)))] []
  refine g_iconst X dX1_beltOf_0 1 rfl (v := (nI (2))) rfl ?_
  refine g_aload_n X dX1_beltOf_1 2 rfl rfl ?_
  refine g_get (c := 1) (k := 2) (T := TX1) (sk := skX1) (v := .int (nI (m))) X wf_X1_16 inX1 dX1_beltOf_2 5 rfl (by decide) rfl rfl (by decide) (congrArg Value.int (hm)) ?_
  refine g_imul X (v := (nI (2 * m))) dX1_beltOf_5 6 rfl (pk_mul 2 m) ?_
  refine g_aload_n X dX1_beltOf_6 7 rfl rfl ?_
  refine g_get (c := 1) (k := 1) (T := TX1) (sk := skX1) (v := .int (nI (p))) X wf_X1_13 inX1 dX1_beltOf_7 10 rfl (by decide) rfl rfl (by decide) (congrArg Value.int (hp)) ?_
  refine g_imul X (v := (nI ((2 * m) * p))) dX1_beltOf_10 11 rfl (pk_mul (2 * m) p) ?_
  refine g_iload_n X dX1_beltOf_11 12 rfl rfl ?_
  refine g_imul X (v := (nI (((2 * m) * p) * i))) dX1_beltOf_12 13 rfl (pk_mul ((2 * m) * p) i) ?_
  refine g_aload_n X dX1_beltOf_13 14 rfl rfl ?_
  refine g_get (c := 1) (k := 0) (T := TX1) (sk := skX1) (v := .int (nI (q))) X wf_X1_7 inX1 dX1_beltOf_14 17 rfl (by decide) rfl rfl (by decide) (congrArg Value.int (hq)) ?_
  have b17 := Nat.div_le_self (((2 * m) * p) * i) q
  refine g_idiv X (v := (nI ((((2 * m) * p) * i) / q))) dX1_beltOf_17 18 rfl (nI_ne (by omega) (by omega)) (pk_div (by omega) (by omega) (by omega)) ?_
  refine g_iconst X dX1_beltOf_18 19 rfl (v := (nI (2))) rfl ?_
  refine g_aload_n X dX1_beltOf_19 20 rfl rfl ?_
  refine g_get (c := 1) (k := 2) (T := TX1) (sk := skX1) (v := .int (nI (m))) X wf_X1_16 inX1 dX1_beltOf_20 23 rfl (by decide) rfl rfl (by decide) (congrArg Value.int (hm)) ?_
  refine g_imul X (v := (nI (2 * m))) dX1_beltOf_23 24 rfl (pk_mul 2 m) ?_
  have b24 := Nat.mod_le ((((2 * m) * p) * i) / q) (2 * m)
  refine g_irem X (v := (nI (((((2 * m) * p) * i) / q) % (2 * m)))) dX1_beltOf_24 25 rfl (nI_ne (by omega) (by omega)) (pk_rem (by omega) (by omega) (by omega)) ?_
  refine g_iret (h := h) (v := (nI (((((2 * m) * p) * i) / q) % (2 * m)))) X Z dX1_beltOf_25 ?_
  exact ⟨rfl, rfl⟩
set_option maxHeartbeats 1000000 in
set_option maxRecDepth 100000 in
theorem c_X1_phaseOf1 (h : Mem) (u : Nat) (hm : h 1 2 = nI 1) (hu : u < 6) : cI 69 XL yX1_phaseOf cX1_phaseOf 2 (some .int) 0 0 (fun ad => [.ref (ad (1)), .int (nI (u))]) h (fun r h2 => r = nI (phaseN 1 u) ∧ h2 = h) := by
  refine cI_of XLW (by decide +kernel) (fun ad => Nat.le_of_ble_eq_true rfl) ?_
  intro K X Z
  show G 69 XL 2 K h 0 [(0, .ref (kad K (1))), (1, .int (nI (u)))] []
  refine g_aload_n X dX1_phaseOf_0 1 rfl rfl ?_
  refine g_get (c := 1) (k := 2) (T := TX1) (sk := skX1) (v := .int (nI 1)) X wf_X1_16 inX1 dX1_phaseOf_1 4 rfl (by decide) rfl rfl (by decide) (congrArg Value.int (hm)) ?_
  refine g_lookup X dX1_phaseOf_4 rfl 1 rfl 38 42 rfl (by decide) ?_
  refine g_iconst X dX1_phaseOf_42 43 rfl (v := (nI (0))) rfl ?_
  refine g_iret (h := h) (v := (nI (0))) X Z dX1_phaseOf_43 ?_
  exact ⟨rfl, rfl⟩
set_option maxHeartbeats 1000000 in
set_option maxRecDepth 100000 in
theorem c_X1_phaseOf2 (h : Mem) (u : Nat) (hm : h 1 2 = nI 2) (hu : u < 6) : cI 69 XL yX1_phaseOf cX1_phaseOf 2 (some .int) 0 0 (fun ad => [.ref (ad (1)), .int (nI (u))]) h (fun r h2 => r = nI (phaseN 2 u) ∧ h2 = h) := by
  refine cI_of XLW (by decide +kernel) (fun ad => Nat.le_of_ble_eq_true rfl) ?_
  intro K X Z
  show G 69 XL 2 K h 0 [(0, .ref (kad K (1))), (1, .int (nI (u)))] []
  refine g_aload_n X dX1_phaseOf_0 1 rfl rfl ?_
  refine g_get (c := 1) (k := 2) (T := TX1) (sk := skX1) (v := .int (nI 2)) X wf_X1_16 inX1 dX1_phaseOf_1 4 rfl (by decide) rfl rfl (by decide) (congrArg Value.int (hm)) ?_
  refine g_lookup X dX1_phaseOf_4 rfl 2 rfl 28 32 rfl (by decide) ?_
  refine g_iload_n X dX1_phaseOf_32 33 rfl rfl ?_
  refine g_iconst X dX1_phaseOf_33 34 rfl (v := (nI (2))) rfl ?_
  have b34 := Nat.mod_le u 2
  refine g_irem X (v := (nI (u % 2))) dX1_phaseOf_34 35 rfl (nI_ne (by omega) (by omega)) (pk_rem (by omega) (by omega) (by omega)) ?_
  refine g_iret (h := h) (v := (nI (u % 2))) X Z dX1_phaseOf_35 ?_
  exact ⟨rfl, rfl⟩
set_option maxHeartbeats 1000000 in
set_option maxRecDepth 100000 in
theorem c_X1_phaseOf3 (h : Mem) (u : Nat) (hm : h 1 2 = nI 3) (hu : u < 6) : cI 69 XL yX1_phaseOf cX1_phaseOf 2 (some .int) 0 0 (fun ad => [.ref (ad (1)), .int (nI (u))]) h (fun r h2 => r = nI (phaseN 3 u) ∧ h2 = h) := by
  refine cI_of XLW (by decide +kernel) (fun ad => Nat.le_of_ble_eq_true rfl) ?_
  intro K X Z
  show G 69 XL 2 K h 0 [(0, .ref (kad K (1))), (1, .int (nI (u)))] []
  refine g_aload_n X dX1_phaseOf_0 1 rfl rfl ?_
  refine g_get (c := 1) (k := 2) (T := TX1) (sk := skX1) (v := .int (nI 3)) X wf_X1_16 inX1 dX1_phaseOf_1 4 rfl (by decide) rfl rfl (by decide) (congrArg Value.int (hm)) ?_
  refine g_lookup X dX1_phaseOf_4 rfl 3 rfl 32 36 rfl (by decide) ?_
  refine g_iconst X dX1_phaseOf_36 37 rfl (v := (nI (2))) rfl ?_
  refine g_iload_n X dX1_phaseOf_37 38 rfl rfl ?_
  refine g_imul X (v := (nI (2 * u))) dX1_phaseOf_38 39 rfl (pk_mul 2 u) ?_
  refine g_iconst X dX1_phaseOf_39 40 rfl (v := (nI (3))) rfl ?_
  have b40 := Nat.mod_le (2 * u) 3
  refine g_irem X (v := (nI ((2 * u) % 3))) dX1_phaseOf_40 41 rfl (nI_ne (by omega) (by omega)) (pk_rem (by omega) (by omega) (by omega)) ?_
  refine g_iret (h := h) (v := (nI ((2 * u) % 3))) X Z dX1_phaseOf_41 ?_
  exact ⟨rfl, rfl⟩
theorem c_X1_phaseOf (h : Mem) (m u : Nat) (hm : h 1 2 = nI m) (hm1 : 1 ≤ m) (hm2 : m ≤ 3) (hu : u < 6) : cI 69 XL yX1_phaseOf cX1_phaseOf 2 (some .int) 0 0 (fun ad => [.ref (ad 1), .int (nI u)]) h (fun r h2 => r = nI (phaseN m u) ∧ h2 = h) := by
  rcases (show m = 1 ∨ m = 2 ∨ m = 3 by omega) with rfl | rfl | rfl
  · exact c_X1_phaseOf1 h u hm hu
  · exact c_X1_phaseOf2 h u hm hu
  · exact c_X1_phaseOf3 h u hm hu
def turnedB (m u : Nat) : Bool := (m == 2 && decide (2 ≤ u)) || (!(m == 2) && u % 2 == 1)
set_option maxHeartbeats 1000000 in
set_option maxRecDepth 100000 in
theorem c_X1_isTurnedRound (h : Mem) (m u : Nat) (hm : h 1 2 = nI m) (hm2 : m ≤ 3) (hu : u < 6) : cI 69 XL yX1_isTurnedRound cX1_isTurnedRound 2 (some .boolean) 0 0 (fun ad => [.ref (ad (1)), .int (nI (u))]) h (fun r h2 => r = bI (turnedB m u = true) ∧ h2 = h) := by
  refine cI_of XLW (by decide +kernel) (fun ad => Nat.le_of_ble_eq_true rfl) ?_
  intro K X Z
  show G 69 XL 2 K h 0 [(0, .ref (kad K (1))), (1, .int (nI (u)))] []
  refine g_aload_n X dX1_isTurnedRound_0 1 rfl rfl ?_
  refine g_get (c := 1) (k := 2) (T := TX1) (sk := skX1) (v := .int (nI (m))) X wf_X1_16 inX1 dX1_isTurnedRound_1 4 rfl (by decide) rfl rfl (by decide) (congrArg Value.int (hm)) ?_
  refine g_iconst X dX1_isTurnedRound_4 5 rfl (v := (nI (2))) rfl ?_
  refine g_icmp_ne X ((m : Nat) : Int) 2 dX1_isTurnedRound_5 21 (by decide) 8 rfl (nI_toInt (by omega)) rfl (fun t5 => ?_) (fun f5 => ?_)
  · skip
    refine g_iload_n X dX1_isTurnedRound_21 22 rfl rfl ?_
    refine g_iconst X dX1_isTurnedRound_22 23 rfl (v := (nI (2))) rfl ?_
    have b23 := Nat.mod_le u 2
    refine g_irem X (v := (nI (u % 2))) dX1_isTurnedRound_23 24 rfl (nI_ne (by omega) (by omega)) (pk_rem (by omega) (by omega) (by omega)) ?_
    refine g_iconst X dX1_isTurnedRound_24 25 rfl (v := (nI (1))) rfl ?_
    refine g_icmp_ne X ((u % 2 : Nat) : Int) 1 dX1_isTurnedRound_25 32 (by decide) 28 rfl (nI_toInt (by omega)) rfl (fun t25 => ?_) (fun f25 => ?_)
    · skip
      refine g_iconst X dX1_isTurnedRound_32 33 rfl (v := (nI (0))) rfl ?_
      refine g_zret (h := h) (v := (nI (0))) X Z dX1_isTurnedRound_33 (Or.inl rfl) ?_
      exact ⟨(bI_f (by simp [turnedB]; omega)).symm, rfl⟩
    · skip
      refine g_iconst X dX1_isTurnedRound_28 29 rfl (v := (nI (1))) rfl ?_
      refine g_goto X dX1_isTurnedRound_29 33 (by decide) ?_
      refine g_zret (h := h) (v := (nI (1))) X Z dX1_isTurnedRound_33 (Or.inr rfl) ?_
      exact ⟨(bI_t (by simp [turnedB]; omega)).symm, rfl⟩
  · skip
    refine g_iload_n X dX1_isTurnedRound_8 9 rfl rfl ?_
    refine g_iconst X dX1_isTurnedRound_9 10 rfl (v := (nI (2))) rfl ?_
    refine g_icmp_lt X ((u : Nat) : Int) 2 dX1_isTurnedRound_10 17 (by decide) 13 rfl (nI_toInt (by omega)) rfl (fun t10 => ?_) (fun f10 => ?_)
    · skip
      refine g_iconst X dX1_isTurnedRound_17 18 rfl (v := (nI (0))) rfl ?_
      refine g_goto X dX1_isTurnedRound_18 33 (by decide) ?_
      refine g_zret (h := h) (v := (nI (0))) X Z dX1_isTurnedRound_33 (Or.inl rfl) ?_
      exact ⟨(bI_f (by simp [turnedB]; omega)).symm, rfl⟩
    · skip
      refine g_iconst X dX1_isTurnedRound_13 14 rfl (v := (nI (1))) rfl ?_
      refine g_goto X dX1_isTurnedRound_14 33 (by decide) ?_
      refine g_zret (h := h) (v := (nI (1))) X Z dX1_isTurnedRound_33 (Or.inr rfl) ?_
      exact ⟨(bI_t (by simp [turnedB]; omega)).symm, rfl⟩
set_option maxHeartbeats 1000000 in
set_option maxRecDepth 100000 in
theorem c_X1_isEven (h : Mem) (q p m : Nat) (hq : h 1 0 = nI q) (hp : h 1 1 = nI p) (hm : h 1 2 = nI m) (hq1 : 3 ≤ q) (hq2 : q ≤ 24) (hp1 : 1 ≤ p) (hp2 : p ≤ 6) (hm1 : 1 ≤ m) (hm2 : m ≤ 3) : cI 69 XL yX1_isEven cX1_isEven 1 (some .boolean) 1 23 (fun ad => [.ref (ad (1))]) h (fun r h2 => r = bI (q % (m * gdv q p q) = 0) ∧ h2 = h) := by
  refine cI_of XLW (by decide +kernel) (fun ad => Nat.le_of_ble_eq_true rfl) ?_
  intro K X Z
  have hgl := gdv_le q p q
  have e1 : m * gdv q p q ≤ 3 * 25 := Nat.mul_le_mul hm2 (by omega)
  have e2 : 1 ≤ m * gdv q p q := Nat.mul_pos (by omega) (by omega)
  show G 69 XL 1 K h 0 [(0, .ref (kad K (1)))] []
  refine g_aload_n X dX1_isEven_0 1 rfl rfl ?_
  refine g_get (c := 1) (k := 0) (T := TX1) (sk := skX1) (v := .int (nI (q))) X wf_X1_7 inX1 dX1_isEven_1 4 rfl (by decide) rfl rfl (by decide) (congrArg Value.int (hq)) ?_
  refine g_aload_n X dX1_isEven_4 5 rfl rfl ?_
  refine g_get (c := 1) (k := 2) (T := TX1) (sk := skX1) (v := .int (nI (m))) X wf_X1_16 inX1 dX1_isEven_5 8 rfl (by decide) rfl rfl (by decide) (congrArg Value.int (hm)) ?_
  refine g_aload_n X dX1_isEven_8 9 rfl rfl ?_
  refine g_get (c := 1) (k := 0) (T := TX1) (sk := skX1) (v := .int (nI (q))) X wf_X1_7 inX1 dX1_isEven_9 12 rfl (by decide) rfl rfl (by decide) (congrArg Value.int (hq)) ?_
  refine g_aload_n X dX1_isEven_12 13 rfl rfl ?_
  refine g_get (c := 1) (k := 1) (T := TX1) (sk := skX1) (v := .int (nI (p))) X wf_X1_13 inX1 dX1_isEven_13 16 rfl (by decide) rfl rfl (by decide) (congrArg Value.int (hp)) ?_
  refine g_callSNix (st := [.int (nI (m)), .int (nI (q))]) (v := (nI (gdv q p q))) (m2 := h) X cw_X1_35 (c_X8_gcd h q p (by omega) (by omega) (by omega)) dX1_isEven_16 19 rfl rfl rfl rfl (by decide) (Nat.le_of_ble_eq_true rfl) ?_
  refine g_imul X (v := (nI (m * (gdv q p q)))) dX1_isEven_19 20 rfl (pk_mul m (gdv q p q)) ?_
  have b20 := Nat.mod_le q (m * (gdv q p q))
  refine g_irem X (v := (nI (q % (m * (gdv q p q))))) dX1_isEven_20 21 rfl (nI_ne (by omega) (by omega)) (pk_rem (by omega) (by omega) (by omega)) ?_
  refine g_if_ne X ((q % (m * (gdv q p q)) : Nat) : Int) dX1_isEven_21 28 (by decide) 24 rfl (nI_toInt (by omega)) (fun t21 => ?_) (fun f21 => ?_)
  · skip
    refine g_iconst X dX1_isEven_28 29 rfl (v := (nI (0))) rfl ?_
    refine g_zret (h := h) (v := (nI (0))) X Z dX1_isEven_29 (Or.inl rfl) ?_
    exact ⟨(bI_f (by omega)).symm, rfl⟩
  · skip
    refine g_iconst X dX1_isEven_24 25 rfl (v := (nI (1))) rfl ?_
    refine g_goto X dX1_isEven_25 29 (by decide) ?_
    refine g_zret (h := h) (v := (nI (1))) X Z dX1_isEven_29 (Or.inr rfl) ?_
    exact ⟨(bI_t (by omega)).symm, rfl⟩
