/-! the motor and the roots alone: what raiseTo does there -/
def skY0 : Nat → Option Nat := fun k => match k with
  | 0 => some 1
  | _ => some 2
def YL : Nat → KD := fun c =>
  if 5 ≤ c ∧ c < 29 then .inr (0, 24, 5, 24 * (c - 5)) else
  match c with
  | 0 => .inl (8, 2, skY0)
  | 1 => .inl (1, 3, skX1)
  | 2 => .inl (3, 4, skX2)
  | 3 => .inr (0, 25, 3, 0)
  | _ => .inr (2, 24, 5, 0)
theorem YLW : LWb 29 YL = true := by decide +kernel
theorem YL_5 {r : Nat} (hr : r < 24) : YL (5 + r) = .inr (0, 24, 5, 24 * r) := by
  unfold YL
  rw [if_pos (by omega), Nat.add_sub_cancel_left]
theorem c_Y3_setToOne_3 (h : Mem)  : cV 29 YL yX3_setToOne cX3_setToOne 2 0 0 (fun ad => [.ref (ad (3))]) h (fun h2 => h2 = mrow h 3 (gput (h 3) (0) 25 setOneF)) := by
  refine cV_of YLW (by decide +kernel) (fun ad => Nat.le_of_ble_eq_true rfl) ?_
  intro K X Z
  show G 29 YL 2 K h 0 [(0, .ref (kad K (3)))] []
  refine g_aload_n X dX3_setToOne_0 1 rfl rfl ?_
  refine g_iconst X dX3_setToOne_1 2 rfl (v := (nI (0))) rfl ?_
  refine g_iconst X dX3_setToOne_2 3 rfl (v := (nI (1))) rfl ?_
  refine g_iast (c := 3) (n := 25) (r := 3) (o := 0) (i := 0) X dX3_setToOne_3 4 rfl (by decide) rfl rfl (by omega) ?_
  refine g_iconst X dX3_setToOne_4 5 rfl (v := (nI (1))) rfl ?_
  refine g_istore_n X (lv' := [(0, .ref (kad K (3))), (1, .int (nI 1))]) dX3_setToOne_5 6 rfl (by decide) rfl rfl ?_
  have lp6 : ∀ (fu : Nat) (k : Nat) (hk : 1 ≤ k) (hk2 : k ≤ 25), 25 - k < fu → G 29 YL 2 K (mrow h 3 (gput (h 3) (0) 25 (setOneK (grd (h 3) (0)) k))) 6 [(0, .ref (kad K (3))), (1, .int (nI (k)))] [] := by
    intro fu
    induction fu with
    | zero => intro k hk hk2 hm; exact absurd hm (Nat.not_lt_zero _)
    | succ fu ih6 =>
      intro k hk hk2 hm6
      refine g_iload_n X dX3_setToOne_6 7 rfl rfl ?_
      refine g_aload_n X dX3_setToOne_7 8 rfl rfl ?_
      refine g_alen (c := 3) (n := 25) X dX3_setToOne_8 9 rfl (by decide) rfl ?_
      refine g_icmp_ge X ((k : Nat) : Int) 25 dX3_setToOne_9 22 (by decide) 12 rfl (nI_toInt (by omega)) rfl (fun t9 => ?_) (fun f9 => ?_)
      · skip
        refine g_vret (h := (mrow h 3 (gput (h 3) (0) 25 (setOneK (grd (h 3) (0)) k)))) X Z dX3_setToOne_22 ?_
        exact (congrArg (mrow h 3) (gput_congr (fun i hi => by simp only [setOneK, setOneF]; rw [if_pos (show i < k by omega)])))
      · skip
        refine g_aload_n X dX3_setToOne_12 13 rfl rfl ?_
        refine g_iload_n X dX3_setToOne_13 14 rfl rfl ?_
        refine g_iconst X dX3_setToOne_14 15 rfl (v := (nI (0))) rfl ?_
        refine g_iast (c := 3) (n := 25) (r := 3) (o := 0) (i := k) X dX3_setToOne_15 16 rfl (by decide) rfl rfl (by omega) ?_
        refine g_iinc X (v := (nI (k + 1))) (lv' := [(0, .ref (kad K (3))), (1, .int (nI (k + 1)))]) dX3_setToOne_16 19 rfl (by decide) rfl (n_inc k 1) rfl rfl ?_
        refine g_goto X dX3_setToOne_19 6 (by decide) ?_
        skip
        refine g_mem (h := (mup (mrow h 3 (gput (h 3) (0) 25 (setOneK (grd (h 3) (0)) k))) 3 k (nI (0)))) (h' := (mrow h 3 (gput (h 3) (0) 25 (setOneK (grd (h 3) (0)) (k + 1))))) (gput_up (by omega) (fun i0 _ => congrFun (setOneK_s (grd (h 3) (0)) (by omega)) i0)) ?_
        exact ih6 (k + 1) (by omega) (by omega) (by omega)
  skip
  refine g_mem (h := (mup h 3 0 (nI (1)))) (h' := (mrow h 3 (gput (h 3) (0) 25 (setOneK (grd (h 3) (0)) 1)))) ((congrArg (fun z => mup z 3 (0 + 0) (nI 1)) (gput_row h 3 (0) 25).symm).trans (gput_up (by omega) (fun i0 _ => by simp only [upd, setOneK]; by_cases e : i0 = 0 <;> simp [e]))) ?_
  exact lp6 _ 1 (by omega) (by omega) (Nat.lt_succ_self _)
theorem c_Y3_setToOne_5 (h : Mem) (j : Nat) (hj : j < 24)  : cV 29 YL yX3_setToOne cX3_setToOne 2 0 0 (fun ad => [.ref (ad (5 + j))]) h (fun h2 => h2 = mrow h 5 (gput (h 5) (24 * j) 24 setOneF)) := by
  refine cV_of YLW (by decide +kernel) (fun ad => Nat.le_of_ble_eq_true rfl) ?_
  intro K X Z
  show G 29 YL 2 K h 0 [(0, .ref (kad K (5 + j)))] []
  refine g_aload_n X dX3_setToOne_0 1 rfl rfl ?_
  refine g_iconst X dX3_setToOne_1 2 rfl (v := (nI (0))) rfl ?_
  refine g_iconst X dX3_setToOne_2 3 rfl (v := (nI (1))) rfl ?_
  refine g_iast (c := (5 + j)) (n := 24) (r := 5) (o := 24 * j) (i := 0) X dX3_setToOne_3 4 rfl (by omega) (YL_5 hj) rfl (by omega) ?_
  refine g_iconst X dX3_setToOne_4 5 rfl (v := (nI (1))) rfl ?_
  refine g_istore_n X (lv' := [(0, .ref (kad K (5 + j))), (1, .int (nI 1))]) dX3_setToOne_5 6 rfl (by decide) rfl rfl ?_
  have lp6 : ∀ (fu : Nat) (k : Nat) (hk : 1 ≤ k) (hk2 : k ≤ 24), 24 - k < fu → G 29 YL 2 K (mrow h 5 (gput (h 5) (24 * j) 24 (setOneK (grd (h 5) (24 * j)) k))) 6 [(0, .ref (kad K (5 + j))), (1, .int (nI (k)))] [] := by
    intro fu
    induction fu with
    | zero => intro k hk hk2 hm; exact absurd hm (Nat.not_lt_zero _)
    | succ fu ih6 =>
      intro k hk hk2 hm6
      refine g_iload_n X dX3_setToOne_6 7 rfl rfl ?_
      refine g_aload_n X dX3_setToOne_7 8 rfl rfl ?_
      refine g_alen (c := (5 + j)) (n := 24) X dX3_setToOne_8 9 rfl (by omega) (YL_5 hj) ?_
      refine g_icmp_ge X ((k : Nat) : Int) 24 dX3_setToOne_9 22 (by decide) 12 rfl (nI_toInt (by omega)) rfl (fun t9 => ?_) (fun f9 => ?_)
      · skip
        refine g_vret (h := (mrow h 5 (gput (h 5) (24 * j) 24 (setOneK (grd (h 5) (24 * j)) k)))) X Z dX3_setToOne_22 ?_
        exact (congrArg (mrow h 5) (gput_congr (fun i hi => by simp only [setOneK, setOneF]; rw [if_pos (show i < k by omega)])))
      · skip
        refine g_aload_n X dX3_setToOne_12 13 rfl rfl ?_
        refine g_iload_n X dX3_setToOne_13 14 rfl rfl ?_
        refine g_iconst X dX3_setToOne_14 15 rfl (v := (nI (0))) rfl ?_
        refine g_iast (c := (5 + j)) (n := 24) (r := 5) (o := 24 * j) (i := k) X dX3_setToOne_15 16 rfl (by omega) (YL_5 hj) rfl (by omega) ?_
        refine g_iinc X (v := (nI (k + 1))) (lv' := [(0, .ref (kad K (5 + j))), (1, .int (nI (k + 1)))]) dX3_setToOne_16 19 rfl (by decide) rfl (n_inc k 1) rfl rfl ?_
        refine g_goto X dX3_setToOne_19 6 (by decide) ?_
        skip
        refine g_mem (h := (mup (mrow h 5 (gput (h 5) (24 * j) 24 (setOneK (grd (h 5) (24 * j)) k))) 5 (k + 24 * j) (nI (0)))) (h' := (mrow h 5 (gput (h 5) (24 * j) 24 (setOneK (grd (h 5) (24 * j)) (k + 1))))) (gput_up (by omega) (fun i0 _ => congrFun (setOneK_s (grd (h 5) (24 * j)) (by omega)) i0)) ?_
        exact ih6 (k + 1) (by omega) (by omega) (by omega)
  skip
  refine g_mem (h := (mup h 5 (0 + 24 * j) (nI (1)))) (h' := (mrow h 5 (gput (h 5) (24 * j) 24 (setOneK (grd (h 5) (24 * j)) 1)))) ((congrArg (fun z => mup z 5 (0 + 24 * j) (nI 1)) (gput_row h 5 (24 * j) 24).symm).trans (gput_up (by omega) (fun i0 _ => by simp only [upd, setOneK]; by_cases e : i0 = 0 <;> simp [e]))) ?_
  exact lp6 _ 1 (by omega) (by omega) (Nat.lt_succ_self _)
theorem c_Y3_turnByOne_5 (h : Mem) (j : Nat) (hj : j < 24) (d : Nat) (hd : h 2 1 = nI d) (hd1 : 1 ≤ d) (hd2 : d ≤ 24) : cV 29 YL yX3_turnByOne cX3_turnByOne 4 0 0 (fun ad => [.ref (ad (2)), .ref (ad (5 + j))]) h (fun h2 => h2 = mrow h 5 (gput (h 5) (24 * j) 24 (turnF d (h 3) (grd (h 5) (24 * j))))) := by
  refine cV_of YLW (by decide +kernel) (fun ad => Nat.le_of_ble_eq_true rfl) ?_
  intro K X Z
  show G 29 YL 4 K h 0 [(0, .ref (kad K (2))), (1, .ref (kad K (5 + j)))] []
  refine g_aload_n X dX3_turnByOne_0 1 rfl rfl ?_
  refine g_aload_n X dX3_turnByOne_1 2 rfl rfl ?_
  refine g_get (c := 2) (k := 1) (T := TX3) (sk := skX2) (v := .int (nI (d))) X wf_X3_34 inX3 dX3_turnByOne_2 5 rfl (by decide) rfl rfl (by decide) (congrArg Value.int (hd)) ?_
  refine g_iconst X dX3_turnByOne_5 6 rfl (v := (nI (1))) rfl ?_
  refine g_isub X (v := (nI (d - 1))) dX3_turnByOne_6 7 rfl (pk_sub (by omega)) ?_
  refine g_iald (c := (5 + j)) (n := 24) (r := 5) (o := 24 * j) (i := d - 1) (v := ((grd (h 5) (24 * j)) (d - 1))) X dX3_turnByOne_7 8 rfl (by omega) (YL_5 hj) rfl (by omega) rfl ?_
  refine g_istore_n X (lv' := [(0, .ref (kad K (2))), (1, .ref (kad K (5 + j))), (2, .int ((grd (h 5) (24 * j)) (d - 1)))]) dX3_turnByOne_8 9 rfl (by decide) rfl rfl ?_
  refine g_aload_n X dX3_turnByOne_9 10 rfl rfl ?_
  refine g_get (c := 2) (k := 1) (T := TX3) (sk := skX2) (v := .int (nI (d))) X wf_X3_34 inX3 dX3_turnByOne_10 13 rfl (by decide) rfl rfl (by decide) (congrArg Value.int (hd)) ?_
  refine g_iconst X dX3_turnByOne_13 14 rfl (v := (nI (1))) rfl ?_
  refine g_isub X (v := (nI (d - 1))) dX3_turnByOne_14 15 rfl (pk_sub (by omega)) ?_
  refine g_istore_n X (lv' := [(0, .ref (kad K (2))), (1, .ref (kad K (5 + j))), (2, .int ((grd (h 5) (24 * j)) (d - 1))), (3, .int (nI (d - 1)))]) dX3_turnByOne_15 16 rfl (by decide) rfl rfl ?_
  have lp16 : ∀ (fu : Nat) (k : Nat) (hk : k ≤ d - 1), k < fu → G 29 YL 4 K (mrow h 5 (gput (h 5) (24 * j) 24 (turnK d (h 3) (grd (h 5) (24 * j)) k))) 16 [(0, .ref (kad K (2))), (1, .ref (kad K (5 + j))), (2, .int ((grd (h 5) (24 * j)) (d - 1))), (3, .int (nI (k)))] [] := by
    intro fu
    induction fu with
    | zero => intro k hk hm; exact absurd hm (Nat.not_lt_zero _)
    | succ fu ih16 =>
      intro k hk hm16
      refine g_iload_n X dX3_turnByOne_16 17 rfl rfl ?_
      refine g_if_le X ((k : Nat) : Int) dX3_turnByOne_17 43 (by decide) 20 rfl (nI_toInt (by omega)) (fun t17 => ?_) (fun f17 => ?_)
      · skip
        refine g_aload_n X dX3_turnByOne_43 44 rfl rfl ?_
        refine g_iconst X dX3_turnByOne_44 45 rfl (v := (nI (0))) rfl ?_
        refine g_iload_n X dX3_turnByOne_45 46 rfl rfl ?_
        refine g_ineg X (v := (-((grd (h 5) (24 * j)) (d - 1)))) dX3_turnByOne_46 47 rfl rfl ?_
        refine g_aload_n X dX3_turnByOne_47 48 rfl rfl ?_
        refine g_get (c := 2) (k := 2) (T := TX3) (sk := skX2) (v := .ref (kad K (3))) X wf_X3_9 inX3 dX3_turnByOne_48 51 rfl (by decide) rfl rfl (by decide) rfl ?_
        refine g_iconst X dX3_turnByOne_51 52 rfl (v := (nI (0))) rfl ?_
        refine g_iald (c := 3) (n := 25) (r := 3) (o := 0) (i := 0) (v := (h 3 0)) X dX3_turnByOne_52 53 rfl (by decide) rfl rfl (by omega) rfl ?_
        refine g_imul X (v := ((-((grd (h 5) (24 * j)) (d - 1))) * (h 3 0))) dX3_turnByOne_53 54 rfl rfl ?_
        refine g_iast (c := (5 + j)) (n := 24) (r := 5) (o := 24 * j) (i := 0) X dX3_turnByOne_54 55 rfl (by omega) (YL_5 hj) rfl (by omega) ?_
        refine g_vret (h := (mup (mrow h 5 (gput (h 5) (24 * j) 24 (turnK d (h 3) (grd (h 5) (24 * j)) k))) 5 (0 + 24 * j) ((-((grd (h 5) (24 * j)) (d - 1))) * (h 3 0)))) X Z dX3_turnByOne_55 ?_
        refine (gput_up (by omega) (fun i _ => ?_))
        have e : k = 0 := by omega
        subst e
        exact congrFun (turnK_e (h 3) (grd (h 5) (24 * j))) i
      · skip
        refine g_aload_n X dX3_turnByOne_20 21 rfl rfl ?_
        refine g_iload_n X dX3_turnByOne_21 22 rfl rfl ?_
        refine g_aload_n X dX3_turnByOne_22 23 rfl rfl ?_
        refine g_iload_n X dX3_turnByOne_23 24 rfl rfl ?_
        refine g_iconst X dX3_turnByOne_24 25 rfl (v := (nI (1))) rfl ?_
        refine g_isub X (v := (nI (k - 1))) dX3_turnByOne_25 26 rfl (pk_sub (by omega)) ?_
        refine g_iald (c := (5 + j)) (n := 24) (r := 5) (o := 24 * j) (i := k - 1) (v := ((grd (h 5) (24 * j)) (k - 1))) X dX3_turnByOne_26 27 rfl (by omega) (YL_5 hj) rfl (by omega) ((gput_in (by omega)).trans (if_neg (by omega))) ?_
        refine g_iload_n X dX3_turnByOne_27 28 rfl rfl ?_
        refine g_aload_n X dX3_turnByOne_28 29 rfl rfl ?_
        refine g_get (c := 2) (k := 2) (T := TX3) (sk := skX2) (v := .ref (kad K (3))) X wf_X3_9 inX3 dX3_turnByOne_29 32 rfl (by decide) rfl rfl (by decide) rfl ?_
        refine g_iload_n X dX3_turnByOne_32 33 rfl rfl ?_
        refine g_iald (c := 3) (n := 25) (r := 3) (o := 0) (i := k) (v := (h 3 k)) X dX3_turnByOne_33 34 rfl (by decide) rfl rfl (by omega) rfl ?_
        refine g_imul X (v := (((grd (h 5) (24 * j)) (d - 1)) * (h 3 k))) dX3_turnByOne_34 35 rfl rfl ?_
        refine g_isub X (v := (((grd (h 5) (24 * j)) (k - 1)) - (((grd (h 5) (24 * j)) (d - 1)) * (h 3 k)))) dX3_turnByOne_35 36 rfl rfl ?_
        refine g_iast (c := (5 + j)) (n := 24) (r := 5) (o := 24 * j) (i := k) X dX3_turnByOne_36 37 rfl (by omega) (YL_5 hj) rfl (by omega) ?_
        refine g_iinc X (v := (nI (k - 1))) (lv' := [(0, .ref (kad K (2))), (1, .ref (kad K (5 + j))), (2, .int ((grd (h 5) (24 * j)) (d - 1))), (3, .int (nI (k - 1)))]) dX3_turnByOne_37 40 rfl (by decide) rfl (n_dec (by omega)) rfl rfl ?_
        refine g_goto X dX3_turnByOne_40 16 (by decide) ?_
        skip
        refine g_mem (h := (mup (mrow h 5 (gput (h 5) (24 * j) 24 (turnK d (h 3) (grd (h 5) (24 * j)) k))) 5 (k + 24 * j) (((grd (h 5) (24 * j)) (k - 1)) - (((grd (h 5) (24 * j)) (d - 1)) * (h 3 k))))) (h' := (mrow h 5 (gput (h 5) (24 * j) 24 (turnK d (h 3) (grd (h 5) (24 * j)) (k - 1))))) (gput_up (by omega) (fun i _ => congrFun (turnK_s (h 3) (grd (h 5) (24 * j)) (by omega) hk) i)) ?_
        exact ih16 (k - 1) (by omega) (by omega)
  skip
  refine g_mem (h := h) (h' := (mrow h 5 (gput (h 5) (24 * j) 24 (turnK d (h 3) (grd (h 5) (24 * j)) (d - 1))))) (by rw [turnK_0, gput_row]) ?_
  exact lp16 _ (d - 1) (Nat.le_refl _) (Nat.lt_succ_self _)
theorem c_Y3_multiply (h : Mem) (q d : Nat) (hq0 : h 2 0 = nI q) (hq2 : q ≤ 24) (hd1 : 1 ≤ d) (hd2 : d ≤ q) : cV 29 YL yX3_multiply cX3_multiply 3 0 0 (fun ad => [.ref (ad (2)), .int (nI (d))]) h (fun h2 => h2 = mrow h 3 (mulF q d (h 3))) := by
  refine cV_of YLW (by decide +kernel) (fun ad => Nat.le_of_ble_eq_true rfl) ?_
  intro K X Z
  show G 29 YL 3 K h 0 [(0, .ref (kad K (2))), (1, .int (nI (d)))] []
  refine g_aload_n X dX3_multiply_0 1 rfl rfl ?_
  refine g_get (c := 2) (k := 0) (T := TX3) (sk := skX2) (v := .int (nI (q))) X wf_X3_20 inX3 dX3_multiply_1 4 rfl (by decide) rfl rfl (by decide) (congrArg Value.int (hq0)) ?_
  refine g_istore_n X (lv' := [(0, .ref (kad K (2))), (1, .int (nI (d))), (2, .int (nI (q)))]) dX3_multiply_4 5 rfl (by decide) rfl rfl ?_
  have lp5 : ∀ (fu : Nat) (k : Nat) (hk : k ≤ q) (hk2 : d ≤ k + 1), k < fu → G 29 YL 3 K (mrow h 3 (mulK q d (h 3) k)) 5 [(0, .ref (kad K (2))), (1, .int (nI (d))), (2, .int (nI (k)))] [] := by
    intro fu
    induction fu with
    | zero => intro k hk hk2 hm; exact absurd hm (Nat.not_lt_zero _)
    | succ fu ih5 =>
      intro k hk hk2 hm5
      refine g_iload_n X dX3_multiply_5 6 rfl rfl ?_
      refine g_iload_n X dX3_multiply_6 7 rfl rfl ?_
      refine g_icmp_lt X ((k : Nat) : Int) ((d : Nat) : Int) dX3_multiply_7 33 (by decide) 10 rfl (nI_toInt (by omega)) (nI_toInt (by omega)) (fun t7 => ?_) (fun f7 => ?_)
      · skip
        refine g_vret (h := (mrow h 3 (mulK q d (h 3) k))) X Z dX3_multiply_33 ?_
        refine congrArg (mrow h 3) (funext fun i => ?_)
        unfold mulK mulF
        by_cases e : d ≤ i ∧ i ≤ q
        · rw [if_pos e, if_pos (by omega)]
        · rw [if_neg e, if_neg (by omega)]
      · skip
        refine g_aload_n X dX3_multiply_10 11 rfl rfl ?_
        refine g_get (c := 2) (k := 2) (T := TX3) (sk := skX2) (v := .ref (kad K (3))) X wf_X3_9 inX3 dX3_multiply_11 14 rfl (by decide) rfl rfl (by decide) rfl ?_
        refine g_iload_n X dX3_multiply_14 15 rfl rfl ?_
        refine g_dup2 X dX3_multiply_15 16 rfl rfl rfl ?_
        refine g_iald (c := 3) (n := 25) (r := 3) (o := 0) (i := k) (v := (h 3 k)) X dX3_multiply_16 17 rfl (by decide) rfl rfl (by omega) (if_neg (by omega)) ?_
        refine g_aload_n X dX3_multiply_17 18 rfl rfl ?_
        refine g_get (c := 2) (k := 2) (T := TX3) (sk := skX2) (v := .ref (kad K (3))) X wf_X3_9 inX3 dX3_multiply_18 21 rfl (by decide) rfl rfl (by decide) rfl ?_
        refine g_iload_n X dX3_multiply_21 22 rfl rfl ?_
        refine g_iload_n X dX3_multiply_22 23 rfl rfl ?_
        refine g_isub X (v := (nI (k - d))) dX3_multiply_23 24 rfl (pk_sub (by omega)) ?_
        refine g_iald (c := 3) (n := 25) (r := 3) (o := 0) (i := k - d) (v := (h 3 (k - d))) X dX3_multiply_24 25 rfl (by decide) rfl rfl (by omega) (if_neg (by omega)) ?_
        refine g_isub X (v := ((h 3 k) - (h 3 (k - d)))) dX3_multiply_25 26 rfl rfl ?_
        refine g_iast (c := 3) (n := 25) (r := 3) (o := 0) (i := k) X dX3_multiply_26 27 rfl (by decide) rfl rfl (by omega) ?_
        refine g_iinc X (v := (nI (k - 1))) (lv' := [(0, .ref (kad K (2))), (1, .int (nI (d))), (2, .int (nI (k - 1)))]) dX3_multiply_27 30 rfl (by decide) rfl (n_dec (by omega)) rfl rfl ?_
        refine g_goto X dX3_multiply_30 5 (by decide) ?_
        skip
        refine g_mem (h := (mup (mrow h 3 (mulK q d (h 3) k)) 3 k ((h 3 k) - (h 3 (k - d))))) (h' := (mrow h 3 (mulK q d (h 3) (k - 1)))) (by rw [mup_m]; exact congrArg (mrow h 3) (mulK_s (h 3) (by omega) hd1 hk)) ?_
        exact ih5 (k - 1) (by omega) (by omega) (by omega)
  skip
  refine g_mem (h := h) (h' := (mrow h 3 (mulK q d (h 3) q))) (by rw [mulK_0, mrow_id]) ?_
  exact lp5 _ q (Nat.le_refl _) (by omega) (Nat.lt_succ_self _)
theorem c_Y3_divide (h : Mem) (q d : Nat) (hq0 : h 2 0 = nI q) (hq2 : q ≤ 24) (hd1 : 1 ≤ d) (hd2 : d ≤ q) : cV 29 YL yX3_divide cX3_divide 3 0 0 (fun ad => [.ref (ad (2)), .int (nI (d))]) h (fun h2 => h2 = mrow h 3 (divF q d (h 3) (q + 1))) := by
  refine cV_of YLW (by decide +kernel) (fun ad => Nat.le_of_ble_eq_true rfl) ?_
  intro K X Z
  show G 29 YL 3 K h 0 [(0, .ref (kad K (2))), (1, .int (nI (d)))] []
  refine g_iload_n X dX3_divide_0 1 rfl rfl ?_
  refine g_istore_n X (lv' := [(0, .ref (kad K (2))), (1, .int (nI (d))), (2, .int (nI (d)))]) dX3_divide_1 2 rfl (by decide) rfl rfl ?_
  have lp2 : ∀ (fu : Nat) (k : Nat) (hk : k ≤ q + 1) (hk2 : d ≤ k), q + 1 - k < fu → G 29 YL 3 K (mrow h 3 (divF q d (h 3) k)) 2 [(0, .ref (kad K (2))), (1, .int (nI (d))), (2, .int (nI (k)))] [] := by
    intro fu
    induction fu with
    | zero => intro k hk hk2 hm; exact absurd hm (Nat.not_lt_zero _)
    | succ fu ih2 =>
      intro k hk hk2 hm2
      refine g_iload_n X dX3_divide_2 3 rfl rfl ?_
      refine g_aload_n X dX3_divide_3 4 rfl rfl ?_
      refine g_get (c := 2) (k := 0) (T := TX3) (sk := skX2) (v := .int (nI (q))) X wf_X3_20 inX3 dX3_divide_4 7 rfl (by decide) rfl rfl (by decide) (congrArg Value.int (hq0)) ?_
      refine g_icmp_gt X ((k : Nat) : Int) ((q : Nat) : Int) dX3_divide_7 33 (by decide) 10 rfl (nI_toInt (by omega)) (nI_toInt (by omega)) (fun t7 => ?_) (fun f7 => ?_)
      · skip
        refine g_vret (h := (mrow h 3 (divF q d (h 3) k))) X Z dX3_divide_33 ?_
        exact by rw [show k = q + 1 from by omega]
      · skip
        refine g_aload_n X dX3_divide_10 11 rfl rfl ?_
        refine g_get (c := 2) (k := 2) (T := TX3) (sk := skX2) (v := .ref (kad K (3))) X wf_X3_9 inX3 dX3_divide_11 14 rfl (by decide) rfl rfl (by decide) rfl ?_
        refine g_iload_n X dX3_divide_14 15 rfl rfl ?_
        refine g_dup2 X dX3_divide_15 16 rfl rfl rfl ?_
        refine g_iald (c := 3) (n := 25) (r := 3) (o := 0) (i := k) (v := (h 3 k)) X dX3_divide_16 17 rfl (by decide) rfl rfl (by omega) (if_neg (by omega)) ?_
        refine g_aload_n X dX3_divide_17 18 rfl rfl ?_
        refine g_get (c := 2) (k := 2) (T := TX3) (sk := skX2) (v := .ref (kad K (3))) X wf_X3_9 inX3 dX3_divide_18 21 rfl (by decide) rfl rfl (by decide) rfl ?_
        refine g_iload_n X dX3_divide_21 22 rfl rfl ?_
        refine g_iload_n X dX3_divide_22 23 rfl rfl ?_
        refine g_isub X (v := (nI (k - d))) dX3_divide_23 24 rfl (pk_sub (by omega)) ?_
        refine g_iald (c := 3) (n := 25) (r := 3) (o := 0) (i := k - d) (v := (divF q d (h 3) k (k - d))) X dX3_divide_24 25 rfl (by decide) rfl rfl (by omega) rfl ?_
        refine g_iadd X (v := ((h 3 k) + (divF q d (h 3) k (k - d)))) dX3_divide_25 26 rfl rfl ?_
        refine g_iast (c := 3) (n := 25) (r := 3) (o := 0) (i := k) X dX3_divide_26 27 rfl (by decide) rfl rfl (by omega) ?_
        refine g_iinc X (v := (nI (k + 1))) (lv' := [(0, .ref (kad K (2))), (1, .int (nI (d))), (2, .int (nI (k + 1)))]) dX3_divide_27 30 rfl (by decide) rfl (n_inc k 1) rfl rfl ?_
        refine g_goto X dX3_divide_30 2 (by decide) ?_
        skip
        refine g_mem (h := (mup (mrow h 3 (divF q d (h 3) k)) 3 k ((h 3 k) + (divF q d (h 3) k (k - d))))) (h' := (mrow h 3 (divF q d (h 3) (k + 1)))) (by rw [mup_m]; exact congrArg (mrow h 3) (divF_s (h 3) hk2 hd1 (by omega))) ?_
        exact ih2 (k + 1) (by omega) (by omega) (by omega)
  skip
  refine g_mem (h := h) (h' := (mrow h 3 (divF q d (h 3) d))) (by rw [divF_0, mrow_id]) ?_
  exact lp2 _ d (by omega) (by omega) (Nat.lt_succ_self _)
theorem c_Y3_signOf (h : Mem) (n : Nat) (hn : 1 ≤ n) (hn2 : n ≤ 24) : cI 29 YL yX3_signOf cX3_signOf 4 (some .int) 0 0 (fun ad => [.int (nI (n))]) h (fun r h2 => r = zI (mob n n).2 ∧ h2 = h) := by
  refine cI_of YLW (by decide +kernel) (fun ad => Nat.le_of_ble_eq_true rfl) ?_
  intro K X Z
  show G 29 YL 4 K h 0 [(0, .int (nI (n)))] []
  refine g_iconst X dX3_signOf_0 1 rfl (v := (nI (1))) rfl ?_
  refine g_istore_n X (lv' := [(0, .int (nI (n))), (1, .int (nI 1))]) dX3_signOf_1 2 rfl (by decide) rfl rfl ?_
  refine g_iload_n X dX3_signOf_2 3 rfl rfl ?_
  refine g_istore_n X (lv' := [(0, .int (nI (n))), (1, .int (nI 1)), (2, .int (nI (n)))]) dX3_signOf_3 4 rfl (by decide) rfl rfl ?_
  refine g_iconst X dX3_signOf_4 5 rfl (v := (nI (2))) rfl ?_
  refine g_istore_n X (lv' := [(0, .int (nI (n))), (1, .int (nI 1)), (2, .int (nI (n))), (3, .int (nI 2))]) dX3_signOf_5 6 rfl (by decide) rfl rfl ?_
  have lp6 : ∀ (fu : Nat) (k : Nat) (r : Nat) (s : Int) (hk1 : 1 ≤ k) (hk : k ≤ n) (hrs : (r, s) = mob n k), n - k < fu → G 29 YL 4 K h 6 [(0, .int (nI (n))), (1, .int (zI (s))), (2, .int (nI (r))), (3, .int (nI (k + 1)))] [] := by
    intro fu
    induction fu with
    | zero => intro k r s hk1 hk hrs hm; exact absurd hm (Nat.not_lt_zero _)
    | succ fu ih6 =>
      intro k r s hk1 hk hrs hm6
      have hmb := mob_b n k
      rw [← hrs] at hmb
      have hr9 : r ≤ n := hmb.1
      have hs9 : -1 ≤ s ∧ s ≤ 1 := hmb.2
      refine g_iload_n X dX3_signOf_6 7 rfl rfl ?_
      refine g_iload_n X dX3_signOf_7 8 rfl rfl ?_
      refine g_icmp_gt X ((k + 1 : Nat) : Int) ((n : Nat) : Int) dX3_signOf_8 40 (by decide) 11 rfl (nI_toInt (by omega)) (nI_toInt (by omega)) (fun t8 => ?_) (fun f8 => ?_)
      · skip
        refine g_iload_n X dX3_signOf_40 41 rfl rfl ?_
        refine g_iret (h := h) (v := (zI (s))) X Z dX3_signOf_41 ?_
        exact ⟨by rw [show k = n from by omega] at hrs; rw [← hrs], rfl⟩
      · skip
        refine g_iload_n X dX3_signOf_11 12 rfl rfl ?_
        refine g_iload_n X dX3_signOf_12 13 rfl rfl ?_
        have b13 := Nat.mod_le r (k + 1)
        refine g_irem X (v := (nI (r % (k + 1)))) dX3_signOf_13 14 rfl (nI_ne (by omega) (by omega)) (pk_rem (by omega) (by omega) (by omega)) ?_
        refine g_if_ne X ((r % (k + 1) : Nat) : Int) dX3_signOf_14 34 (by decide) 17 rfl (nI_toInt (by omega)) (fun t14 => ?_) (fun f14 => ?_)
        · skip
          refine g_iinc X (v := (nI (k + 2))) (lv' := [(0, .int (nI (n))), (1, .int (zI (s))), (2, .int (nI (r))), (3, .int (nI (k + 2)))]) dX3_signOf_34 37 rfl (by decide) rfl (n_inc (k + 1) 1) rfl rfl ?_
          refine g_goto X dX3_signOf_37 6 (by decide) ?_
          skip
          exact ih6 (k + 1) r s (by omega) (by omega) (by rw [mob_s hk1, ← hrs]; exact (if_neg (by show ¬ r % (k + 1) = 0; omega)).symm) (by omega)
        · skip
          refine g_iload_n X dX3_signOf_17 18 rfl rfl ?_
          refine g_iload_n X dX3_signOf_18 19 rfl rfl ?_
          have b19 := Nat.div_le_self r (k + 1)
          refine g_idiv X (v := (nI (r / (k + 1)))) dX3_signOf_19 20 rfl (nI_ne (by omega) (by omega)) (pk_div (by omega) (by omega) (by omega)) ?_
          refine g_istore_n X (lv' := [(0, .int (nI (n))), (1, .int (zI (s))), (2, .int (nI (r / (k + 1)))), (3, .int (nI (k + 1)))]) dX3_signOf_20 21 rfl (by decide) rfl rfl ?_
          refine g_iload_n X dX3_signOf_21 22 rfl rfl ?_
          refine g_iload_n X dX3_signOf_22 23 rfl rfl ?_
          have b23 := Nat.mod_le (r / (k + 1)) (k + 1)
          refine g_irem X (v := (nI ((r / (k + 1)) % (k + 1)))) dX3_signOf_23 24 rfl (nI_ne (by omega) (by omega)) (pk_rem (by omega) (by omega) (by omega)) ?_
          refine g_if_ne X (((r / (k + 1)) % (k + 1) : Nat) : Int) dX3_signOf_24 31 (by decide) 27 rfl (nI_toInt (by omega)) (fun t24 => ?_) (fun f24 => ?_)
          · skip
            refine g_iload_n X dX3_signOf_31 32 rfl rfl ?_
            refine g_ineg X (v := (zI (-s))) dX3_signOf_32 33 rfl (z_neg s) ?_
            refine g_istore_n X (lv' := [(0, .int (nI (n))), (1, .int (zI (-s))), (2, .int (nI (r / (k + 1)))), (3, .int (nI (k + 1)))]) dX3_signOf_33 34 rfl (by decide) rfl rfl ?_
            refine g_iinc X (v := (nI (k + 2))) (lv' := [(0, .int (nI (n))), (1, .int (zI (-s))), (2, .int (nI (r / (k + 1)))), (3, .int (nI (k + 2)))]) dX3_signOf_34 37 rfl (by decide) rfl (n_inc (k + 1) 1) rfl rfl ?_
            refine g_goto X dX3_signOf_37 6 (by decide) ?_
            skip
            exact ih6 (k + 1) (r / (k + 1)) (-s) (by omega) (by omega) (by rw [mob_s hk1, ← hrs, if_pos (by show r % (k + 1) = 0; omega)]; show _ = (r / (k + 1), if r / (k + 1) % (k + 1) = 0 then (0 : Int) else -s); rw [if_neg (by omega)]) (by omega)
          · skip
            refine g_iconst X dX3_signOf_27 28 rfl (v := (nI (0))) rfl ?_
            refine g_goto X dX3_signOf_28 33 (by decide) ?_
            refine g_istore_n X (lv' := [(0, .int (nI (n))), (1, .int (nI 0)), (2, .int (nI (r / (k + 1)))), (3, .int (nI (k + 1)))]) dX3_signOf_33 34 rfl (by decide) rfl rfl ?_
            refine g_eq (lv' := [(0, .int (nI n)), (1, .int (zI 0)), (2, .int (nI (r / (k + 1)))), (3, .int (nI (k + 1)))]) rfl rfl rfl ?_
            refine g_iinc X (v := (nI (k + 2))) (lv' := [(0, .int (nI (n))), (1, .int (zI (0))), (2, .int (nI (r / (k + 1)))), (3, .int (nI (k + 2)))]) dX3_signOf_34 37 rfl (by decide) rfl (n_inc (k + 1) 1) rfl rfl ?_
            refine g_goto X dX3_signOf_37 6 (by decide) ?_
            skip
            exact ih6 (k + 1) (r / (k + 1)) 0 (by omega) (by omega) (by rw [mob_s hk1, ← hrs, if_pos (by show r % (k + 1) = 0; omega)]; show _ = (r / (k + 1), if r / (k + 1) % (k + 1) = 0 then (0 : Int) else -s); rw [if_pos (by omega)]) (by omega)
  skip
  exact lp6 _ 1 n 1 (by omega) (by omega) rfl (Nat.lt_succ_self _)
theorem c_Y3_layPolynomial (h : Mem) (q : Nat) (hq0 : h 2 0 = nI q) (hq1 : 3 ≤ q) (hq2 : q ≤ 24) : cV 29 YL yX3_layPolynomial cX3_layPolynomial 3 1 23 (fun ad => [.ref (ad (2))]) h (fun h2 => h2 = mrow (mup h 2 1 (zI (degK q q))) 3 (gput (h 3) 0 25 (polK q q))) := by
  refine cV_of YLW (by decide +kernel) (fun ad => Nat.le_of_ble_eq_true rfl) ?_
  intro K X Z
  show G 29 YL 3 K h 0 [(0, .ref (kad K (2)))] []
  refine g_aload_n X dX3_layPolynomial_0 1 rfl rfl ?_
  refine g_get (c := 2) (k := 2) (T := TX3) (sk := skX2) (v := .ref (kad K (3))) X wf_X3_9 inX3 dX3_layPolynomial_1 4 rfl (by decide) rfl rfl (by decide) rfl ?_
  refine g_callSvx (st := []) (m2 := (mrow h 3 (gput (h 3) (0) 25 setOneF))) X cw_X3_30 (c_Y3_setToOne_3 h ) dX3_layPolynomial_4 7 rfl rfl rfl rfl (by decide) (Nat.le_of_ble_eq_true rfl) ?_
  refine g_aload_n X dX3_layPolynomial_7 8 rfl rfl ?_
  refine g_iconst X dX3_layPolynomial_8 9 rfl (v := (nI (0))) rfl ?_
  refine g_put (c := 2) (k := 1) (T := TX3) (sk := skX2) X wf_X3_34 inX3 tyX3_ok nmX3 dX3_layPolynomial_9 12 rfl (by decide) rfl rfl (by decide) rfl rfl rfl ?_
  refine g_iconst X dX3_layPolynomial_12 13 rfl (v := (nI (1))) rfl ?_
  refine g_istore_n X (lv' := [(0, .ref (kad K (2))), (1, .int (nI 1))]) dX3_layPolynomial_13 14 rfl (by decide) rfl rfl ?_
  have lp14 : ∀ (fu : Nat) (k : Nat) (hk : k ≤ q), q - k < fu → G 29 YL 3 K (mrow (mup h 2 1 (zI (degK q k))) 3 (gput (h 3) 0 25 (polK q k))) 14 [(0, .ref (kad K (2))), (1, .int (nI (k + 1)))] [] := by
    intro fu
    induction fu with
    | zero => intro k hk hm; exact absurd hm (Nat.not_lt_zero _)
    | succ fu ih14 =>
      intro k hk hm14
      have hsb := sgn_b q (k + 1)
      refine g_iload_n X dX3_layPolynomial_14 15 rfl rfl ?_
      refine g_aload_n X dX3_layPolynomial_15 16 rfl rfl ?_
      refine g_get (c := 2) (k := 0) (T := TX3) (sk := skX2) (v := .int (nI (q))) X wf_X3_20 inX3 dX3_layPolynomial_16 19 rfl (by decide) rfl rfl (by decide) (congrArg Value.int (hq0)) ?_
      refine g_icmp_gt X ((k + 1 : Nat) : Int) ((q : Nat) : Int) dX3_layPolynomial_19 84 (by decide) 22 rfl (nI_toInt (by omega)) (nI_toInt (by omega)) (fun t19 => ?_) (fun f19 => ?_)
      · skip
        refine g_vret (h := (mrow (mup h 2 1 (zI (degK q k))) 3 (gput (h 3) 0 25 (polK q k)))) X Z dX3_layPolynomial_84 ?_
        exact by rw [show k = q from by omega]
      · skip
        refine g_aload_n X dX3_layPolynomial_22 23 rfl rfl ?_
        refine g_get (c := 2) (k := 0) (T := TX3) (sk := skX2) (v := .int (nI (q))) X wf_X3_20 inX3 dX3_layPolynomial_23 26 rfl (by decide) rfl rfl (by decide) (congrArg Value.int (hq0)) ?_
        refine g_iload_n X dX3_layPolynomial_26 27 rfl rfl ?_
        have b27 := Nat.mod_le q (k + 1)
        refine g_irem X (v := (nI (q % (k + 1)))) dX3_layPolynomial_27 28 rfl (nI_ne (by omega) (by omega)) (pk_rem (by omega) (by omega) (by omega)) ?_
        refine g_if_ne X ((q % (k + 1) : Nat) : Int) dX3_layPolynomial_28 43 (by decide) 31 rfl (nI_toInt (by omega)) (fun t28 => ?_) (fun f28 => ?_)
        · skip
          refine g_iconst X dX3_layPolynomial_43 44 rfl (v := (nI (0))) rfl ?_
          refine g_eq (st' := [.int (zI (sgn q (k + 1)))]) rfl rfl (by rw [sgn_0 (by omega)]; rfl) ?_
          refine g_istore_n X (lv' := [(0, .ref (kad K (2))), (1, .int (nI (k + 1))), (2, .int (zI (sgn q (k + 1))))]) dX3_layPolynomial_44 45 rfl (by decide) rfl rfl ?_
          refine g_aload_n X dX3_layPolynomial_45 46 rfl rfl ?_
          refine g_dup X dX3_layPolynomial_46 47 rfl rfl ?_
          refine g_get (c := 2) (k := 1) (T := TX3) (sk := skX2) (v := .int (zI (degK q k))) X wf_X3_34 inX3 dX3_layPolynomial_47 50 rfl (by decide) rfl rfl (by decide) rfl ?_
          refine g_iload_n X dX3_layPolynomial_50 51 rfl rfl ?_
          refine g_iload_n X dX3_layPolynomial_51 52 rfl rfl ?_
          refine g_imul X (v := (zI ((sgn q (k + 1)) * ((k + 1 : Nat) : Int)))) dX3_layPolynomial_52 53 rfl (zn_mul (sgn q (k + 1)) (k + 1)) ?_
          refine g_iadd X (v := (zI ((degK q k) + ((sgn q (k + 1)) * ((k + 1 : Nat) : Int))))) dX3_layPolynomial_53 54 rfl (zz_add (degK q k) ((sgn q (k + 1)) * ((k + 1 : Nat) : Int))) ?_
          refine g_put (c := 2) (k := 1) (T := TX3) (sk := skX2) X wf_X3_34 inX3 tyX3_ok nmX3 dX3_layPolynomial_54 57 rfl (by decide) rfl rfl (by decide) rfl rfl rfl ?_
          refine g_iload_n X dX3_layPolynomial_57 58 rfl rfl ?_
          refine g_if_le X (sgn q (k + 1)) dX3_layPolynomial_58 69 (by decide) 61 rfl (zI_toInt (by omega)) (fun t58 => ?_) (fun f58 => ?_)
          · skip
            refine g_iload_n X dX3_layPolynomial_69 70 rfl rfl ?_
            refine g_if_ge X (sgn q (k + 1)) dX3_layPolynomial_70 78 (by decide) 73 rfl (zI_toInt (by omega)) (fun t70 => ?_) (fun f70 => ?_)
            · skip
              refine g_iinc X (v := (nI (k + 2))) (lv' := [(0, .ref (kad K (2))), (1, .int (nI (k + 2))), (2, .int (zI (sgn q (k + 1))))]) dX3_layPolynomial_78 81 rfl (by decide) rfl (n_inc (k + 1) 1) rfl rfl ?_
              refine g_goto X dX3_layPolynomial_81 14 (by decide) ?_
              refine g_sub [0, 1] rfl ?_
              refine g_mem (h := (mup (mrow (mup h 2 1 (zI (degK q k))) 3 (gput (h 3) 0 25 (polK q k))) 2 1 (zI ((degK q k) + ((sgn q (k + 1)) * ((k + 1 : Nat) : Int)))))) (h' := (mrow (mup h 2 1 (zI (degK q (k + 1)))) 3 (gput (h 3) 0 25 (polK q (k + 1))))) (lp_z _ _ (by omega) (by omega)) ?_
              exact ih14 (k + 1) (by omega) (by omega)
            · skip
              refine g_aload_n X dX3_layPolynomial_73 74 rfl rfl ?_
              refine g_iload_n X dX3_layPolynomial_74 75 rfl rfl ?_
              refine g_callVvx (st := []) (m2 := (mrow (mup (mrow (mup h 2 1 (zI (degK q k))) 3 (gput (h 3) 0 25 (polK q k))) 2 1 (zI ((degK q k) + ((sgn q (k + 1)) * ((k + 1 : Nat) : Int))))) 3 (divF q (k + 1) (gput (h 3) 0 25 (polK q k)) (q + 1)))) X cw_X3_45 (c_Y3_divide (mup (mrow (mup h 2 1 (zI (degK q k))) 3 (gput (h 3) 0 25 (polK q k))) 2 1 (zI ((degK q k) + ((sgn q (k + 1)) * ((k + 1 : Nat) : Int))))) q (k + 1) (by exact hq0) hq2 (by omega) (by omega)) dX3_layPolynomial_75 78 rfl (by decide) rfl rfl rfl rfl rfl (by decide) (Nat.le_of_ble_eq_true rfl) ?_
              refine g_iinc X (v := (nI (k + 2))) (lv' := [(0, .ref (kad K (2))), (1, .int (nI (k + 2))), (2, .int (zI (sgn q (k + 1))))]) dX3_layPolynomial_78 81 rfl (by decide) rfl (n_inc (k + 1) 1) rfl rfl ?_
              refine g_goto X dX3_layPolynomial_81 14 (by decide) ?_
              refine g_sub [0, 1] rfl ?_
              refine g_mem (h := (mrow (mup (mrow (mup h 2 1 (zI (degK q k))) 3 (gput (h 3) 0 25 (polK q k))) 2 1 (zI ((degK q k) + ((sgn q (k + 1)) * ((k + 1 : Nat) : Int))))) 3 (divF q (k + 1) (gput (h 3) 0 25 (polK q k)) (q + 1)))) (h' := (mrow (mup h 2 1 (zI (degK q (k + 1)))) 3 (gput (h 3) 0 25 (polK q (k + 1))))) (lp_n _ _ hq2 (by omega)) ?_
              exact ih14 (k + 1) (by omega) (by omega)
          · skip
            refine g_aload_n X dX3_layPolynomial_61 62 rfl rfl ?_
            refine g_iload_n X dX3_layPolynomial_62 63 rfl rfl ?_
            refine g_callVvx (st := []) (m2 := (mrow (mup (mrow (mup h 2 1 (zI (degK q k))) 3 (gput (h 3) 0 25 (polK q k))) 2 1 (zI ((degK q k) + ((sgn q (k + 1)) * ((k + 1 : Nat) : Int))))) 3 (mulF q (k + 1) (gput (h 3) 0 25 (polK q k))))) X cw_X3_41 (c_Y3_multiply (mup (mrow (mup h 2 1 (zI (degK q k))) 3 (gput (h 3) 0 25 (polK q k))) 2 1 (zI ((degK q k) + ((sgn q (k + 1)) * ((k + 1 : Nat) : Int))))) q (k + 1) (by exact hq0) hq2 (by omega) (by omega)) dX3_layPolynomial_63 66 rfl (by decide) rfl rfl rfl rfl rfl (by decide) (Nat.le_of_ble_eq_true rfl) ?_
            refine g_goto X dX3_layPolynomial_66 78 (by decide) ?_
            refine g_iinc X (v := (nI (k + 2))) (lv' := [(0, .ref (kad K (2))), (1, .int (nI (k + 2))), (2, .int (zI (sgn q (k + 1))))]) dX3_layPolynomial_78 81 rfl (by decide) rfl (n_inc (k + 1) 1) rfl rfl ?_
            refine g_goto X dX3_layPolynomial_81 14 (by decide) ?_
            refine g_sub [0, 1] rfl ?_
            refine g_mem (h := (mrow (mup (mrow (mup h 2 1 (zI (degK q k))) 3 (gput (h 3) 0 25 (polK q k))) 2 1 (zI ((degK q k) + ((sgn q (k + 1)) * ((k + 1 : Nat) : Int))))) 3 (mulF q (k + 1) (gput (h 3) 0 25 (polK q k))))) (h' := (mrow (mup h 2 1 (zI (degK q (k + 1)))) 3 (gput (h 3) 0 25 (polK q (k + 1))))) (lp_p _ _ hq2 (by omega)) ?_
            exact ih14 (k + 1) (by omega) (by omega)
        · skip
          refine g_aload_n X dX3_layPolynomial_31 32 rfl rfl ?_
          refine g_get (c := 2) (k := 0) (T := TX3) (sk := skX2) (v := .int (nI (q))) X wf_X3_20 inX3 dX3_layPolynomial_32 35 rfl (by decide) rfl rfl (by decide) (congrArg Value.int (hq0)) ?_
          refine g_iload_n X dX3_layPolynomial_35 36 rfl rfl ?_
          have hqd : 1 ≤ q / (k + 1) := Nat.div_pos (by omega) (by omega)
          have hqd2 := Nat.div_le_self q (k + 1)
          have b36 := Nat.div_le_self q (k + 1)
          refine g_idiv X (v := (nI (q / (k + 1)))) dX3_layPolynomial_36 37 rfl (nI_ne (by omega) (by omega)) (pk_div (by omega) (by omega) (by omega)) ?_
          refine g_callSix (st := []) (v := (zI ((mob (q / (k + 1)) (q / (k + 1))).2))) (m2 := (mrow (mup h 2 1 (zI (degK q k))) 3 (gput (h 3) 0 25 (polK q k)))) X cw_X3_37 (c_Y3_signOf (mrow (mup h 2 1 (zI (degK q k))) 3 (gput (h 3) 0 25 (polK q k))) (q / (k + 1)) hqd (by omega)) dX3_layPolynomial_37 40 rfl rfl rfl rfl (by decide) (Nat.le_of_ble_eq_true rfl) ?_
          refine g_goto X dX3_layPolynomial_40 44 (by decide) ?_
          refine g_eq (st' := [.int (zI (sgn q (k + 1)))]) rfl rfl (by rw [sgn_1 (by omega)]) ?_
          refine g_istore_n X (lv' := [(0, .ref (kad K (2))), (1, .int (nI (k + 1))), (2, .int (zI (sgn q (k + 1))))]) dX3_layPolynomial_44 45 rfl (by decide) rfl rfl ?_
          refine g_aload_n X dX3_layPolynomial_45 46 rfl rfl ?_
          refine g_dup X dX3_layPolynomial_46 47 rfl rfl ?_
          refine g_get (c := 2) (k := 1) (T := TX3) (sk := skX2) (v := .int (zI (degK q k))) X wf_X3_34 inX3 dX3_layPolynomial_47 50 rfl (by decide) rfl rfl (by decide) rfl ?_
          refine g_iload_n X dX3_layPolynomial_50 51 rfl rfl ?_
          refine g_iload_n X dX3_layPolynomial_51 52 rfl rfl ?_
          refine g_imul X (v := (zI ((sgn q (k + 1)) * ((k + 1 : Nat) : Int)))) dX3_layPolynomial_52 53 rfl (zn_mul (sgn q (k + 1)) (k + 1)) ?_
          refine g_iadd X (v := (zI ((degK q k) + ((sgn q (k + 1)) * ((k + 1 : Nat) : Int))))) dX3_layPolynomial_53 54 rfl (zz_add (degK q k) ((sgn q (k + 1)) * ((k + 1 : Nat) : Int))) ?_
          refine g_put (c := 2) (k := 1) (T := TX3) (sk := skX2) X wf_X3_34 inX3 tyX3_ok nmX3 dX3_layPolynomial_54 57 rfl (by decide) rfl rfl (by decide) rfl rfl rfl ?_
          refine g_iload_n X dX3_layPolynomial_57 58 rfl rfl ?_
          refine g_if_le X (sgn q (k + 1)) dX3_layPolynomial_58 69 (by decide) 61 rfl (zI_toInt (by omega)) (fun t58 => ?_) (fun f58 => ?_)
          · skip
            refine g_iload_n X dX3_layPolynomial_69 70 rfl rfl ?_
            refine g_if_ge X (sgn q (k + 1)) dX3_layPolynomial_70 78 (by decide) 73 rfl (zI_toInt (by omega)) (fun t70 => ?_) (fun f70 => ?_)
            · skip
              refine g_iinc X (v := (nI (k + 2))) (lv' := [(0, .ref (kad K (2))), (1, .int (nI (k + 2))), (2, .int (zI (sgn q (k + 1))))]) dX3_layPolynomial_78 81 rfl (by decide) rfl (n_inc (k + 1) 1) rfl rfl ?_
              refine g_goto X dX3_layPolynomial_81 14 (by decide) ?_
              refine g_sub [0, 1] rfl ?_
              refine g_mem (h := (mup (mrow (mup h 2 1 (zI (degK q k))) 3 (gput (h 3) 0 25 (polK q k))) 2 1 (zI ((degK q k) + ((sgn q (k + 1)) * ((k + 1 : Nat) : Int)))))) (h' := (mrow (mup h 2 1 (zI (degK q (k + 1)))) 3 (gput (h 3) 0 25 (polK q (k + 1))))) (lp_z _ _ (by omega) (by omega)) ?_
              exact ih14 (k + 1) (by omega) (by omega)
            · skip
              refine g_aload_n X dX3_layPolynomial_73 74 rfl rfl ?_
              refine g_iload_n X dX3_layPolynomial_74 75 rfl rfl ?_
              refine g_callVvx (st := []) (m2 := (mrow (mup (mrow (mup h 2 1 (zI (degK q k))) 3 (gput (h 3) 0 25 (polK q k))) 2 1 (zI ((degK q k) + ((sgn q (k + 1)) * ((k + 1 : Nat) : Int))))) 3 (divF q (k + 1) (gput (h 3) 0 25 (polK q k)) (q + 1)))) X cw_X3_45 (c_Y3_divide (mup (mrow (mup h 2 1 (zI (degK q k))) 3 (gput (h 3) 0 25 (polK q k))) 2 1 (zI ((degK q k) + ((sgn q (k + 1)) * ((k + 1 : Nat) : Int))))) q (k + 1) (by exact hq0) hq2 (by omega) (by omega)) dX3_layPolynomial_75 78 rfl (by decide) rfl rfl rfl rfl rfl (by decide) (Nat.le_of_ble_eq_true rfl) ?_
              refine g_iinc X (v := (nI (k + 2))) (lv' := [(0, .ref (kad K (2))), (1, .int (nI (k + 2))), (2, .int (zI (sgn q (k + 1))))]) dX3_layPolynomial_78 81 rfl (by decide) rfl (n_inc (k + 1) 1) rfl rfl ?_
              refine g_goto X dX3_layPolynomial_81 14 (by decide) ?_
              refine g_sub [0, 1] rfl ?_
              refine g_mem (h := (mrow (mup (mrow (mup h 2 1 (zI (degK q k))) 3 (gput (h 3) 0 25 (polK q k))) 2 1 (zI ((degK q k) + ((sgn q (k + 1)) * ((k + 1 : Nat) : Int))))) 3 (divF q (k + 1) (gput (h 3) 0 25 (polK q k)) (q + 1)))) (h' := (mrow (mup h 2 1 (zI (degK q (k + 1)))) 3 (gput (h 3) 0 25 (polK q (k + 1))))) (lp_n _ _ hq2 (by omega)) ?_
              exact ih14 (k + 1) (by omega) (by omega)
          · skip
            refine g_aload_n X dX3_layPolynomial_61 62 rfl rfl ?_
            refine g_iload_n X dX3_layPolynomial_62 63 rfl rfl ?_
            refine g_callVvx (st := []) (m2 := (mrow (mup (mrow (mup h 2 1 (zI (degK q k))) 3 (gput (h 3) 0 25 (polK q k))) 2 1 (zI ((degK q k) + ((sgn q (k + 1)) * ((k + 1 : Nat) : Int))))) 3 (mulF q (k + 1) (gput (h 3) 0 25 (polK q k))))) X cw_X3_41 (c_Y3_multiply (mup (mrow (mup h 2 1 (zI (degK q k))) 3 (gput (h 3) 0 25 (polK q k))) 2 1 (zI ((degK q k) + ((sgn q (k + 1)) * ((k + 1 : Nat) : Int))))) q (k + 1) (by exact hq0) hq2 (by omega) (by omega)) dX3_layPolynomial_63 66 rfl (by decide) rfl rfl rfl rfl rfl (by decide) (Nat.le_of_ble_eq_true rfl) ?_
            refine g_goto X dX3_layPolynomial_66 78 (by decide) ?_
            refine g_iinc X (v := (nI (k + 2))) (lv' := [(0, .ref (kad K (2))), (1, .int (nI (k + 2))), (2, .int (zI (sgn q (k + 1))))]) dX3_layPolynomial_78 81 rfl (by decide) rfl (n_inc (k + 1) 1) rfl rfl ?_
            refine g_goto X dX3_layPolynomial_81 14 (by decide) ?_
            refine g_sub [0, 1] rfl ?_
            refine g_mem (h := (mrow (mup (mrow (mup h 2 1 (zI (degK q k))) 3 (gput (h 3) 0 25 (polK q k))) 2 1 (zI ((degK q k) + ((sgn q (k + 1)) * ((k + 1 : Nat) : Int))))) 3 (mulF q (k + 1) (gput (h 3) 0 25 (polK q k))))) (h' := (mrow (mup h 2 1 (zI (degK q (k + 1)))) 3 (gput (h 3) 0 25 (polK q (k + 1))))) (lp_p _ _ hq2 (by omega)) ?_
            exact ih14 (k + 1) (by omega) (by omega)
  skip
  refine g_mem (h := (mup (mrow h 3 (gput (h 3) (0) 25 setOneF)) 2 1 (nI (0)))) (h' := (mrow (mup h 2 1 (zI (degK q 0))) 3 (gput (h 3) 0 25 (polK q 0)))) (lp_init h q) ?_
  exact lp14 _ 0 (by omega) (Nat.lt_succ_self _)
theorem c_Y3_layPowers (h : Mem) (q : Nat) (hq0 : h 2 0 = nI q) (hq1 : 3 ≤ q) (hq2 : q ≤ 24) (d : Nat) (hd : h 2 1 = nI d) (hd1 : 1 ≤ d) (hd2 : d ≤ 24) : cV 29 YL yX3_layPowers cX3_layPowers 2 1 26 (fun ad => [.ref (ad (2))]) h (fun h2 => h2 = mrow h 5 (powG (h 5) d (h 3) q)) := by
  refine cV_of YLW (by decide +kernel) (fun ad => Nat.le_of_ble_eq_true rfl) ?_
  intro K X Z
  show G 29 YL 2 K h 0 [(0, .ref (kad K (2)))] []
  refine g_aload_n X dX3_layPowers_0 1 rfl rfl ?_
  refine g_get (c := 2) (k := 3) (T := TX3) (sk := skX2) (v := .ref (kad K (4))) X wf_X3_17 inX3 dX3_layPowers_1 4 rfl (by decide) rfl rfl (by decide) rfl ?_
  refine g_iconst X dX3_layPowers_4 5 rfl (v := (nI (0))) rfl ?_
  refine g_aald (c := 4) (n := 24) (b := 5) (o := 0) (i := 0) X dX3_layPowers_5 6 rfl (by decide) rfl rfl (by omega) ?_
  refine g_callSvx (st := []) (m2 := (mrow h 5 (gput (h 5) (24 * 0) 24 setOneF))) X cw_X3_30 (c_Y3_setToOne_5 h 0 (by omega) ) dX3_layPowers_6 9 rfl rfl rfl rfl (by decide) (Nat.le_of_ble_eq_true rfl) ?_
  refine g_iconst X dX3_layPowers_9 10 rfl (v := (nI (1))) rfl ?_
  refine g_istore_n X (lv' := [(0, .ref (kad K (2))), (1, .int (nI 1))]) dX3_layPowers_10 11 rfl (by decide) rfl rfl ?_
  have lp11 : ∀ (fu : Nat) (k : Nat) (hk1 : 1 ≤ k) (hk : k ≤ q), q - k < fu → G 29 YL 2 K (mrow h 5 (powG (h 5) d (h 3) k)) 11 [(0, .ref (kad K (2))), (1, .int (nI (k)))] [] := by
    intro fu
    induction fu with
    | zero => intro k hk1 hk hm; exact absurd hm (Nat.not_lt_zero _)
    | succ fu ih11 =>
      intro k hk1 hk hm11
      refine g_iload_n X dX3_layPowers_11 12 rfl rfl ?_
      refine g_aload_n X dX3_layPowers_12 13 rfl rfl ?_
      refine g_get (c := 2) (k := 0) (T := TX3) (sk := skX2) (v := .int (nI (q))) X wf_X3_20 inX3 dX3_layPowers_13 16 rfl (by decide) rfl rfl (by decide) (congrArg Value.int (hq0)) ?_
      refine g_icmp_ge X ((k : Nat) : Int) ((q : Nat) : Int) dX3_layPowers_16 56 (by decide) 19 rfl (nI_toInt (by omega)) (nI_toInt (by omega)) (fun t16 => ?_) (fun f16 => ?_)
      · skip
        refine g_vret (h := (mrow h 5 (powG (h 5) d (h 3) k))) X Z dX3_layPowers_56 ?_
        exact by rw [show k = q from by omega]
      · skip
        refine g_aload_n X dX3_layPowers_19 20 rfl rfl ?_
        refine g_get (c := 2) (k := 3) (T := TX3) (sk := skX2) (v := .ref (kad K (4))) X wf_X3_17 inX3 dX3_layPowers_20 23 rfl (by decide) rfl rfl (by decide) rfl ?_
        refine g_iload_n X dX3_layPowers_23 24 rfl rfl ?_
        refine g_iconst X dX3_layPowers_24 25 rfl (v := (nI (1))) rfl ?_
        refine g_isub X (v := (nI (k - 1))) dX3_layPowers_25 26 rfl (pk_sub (by omega)) ?_
        refine g_aald (c := 4) (n := 24) (b := 5) (o := 0) (i := k - 1) X dX3_layPowers_26 27 rfl (by decide) rfl rfl (by omega) ?_
        refine g_iconst X dX3_layPowers_27 28 rfl (v := (nI (0))) rfl ?_
        refine g_aload_n X dX3_layPowers_28 29 rfl rfl ?_
        refine g_get (c := 2) (k := 3) (T := TX3) (sk := skX2) (v := .ref (kad K (4))) X wf_X3_17 inX3 dX3_layPowers_29 32 rfl (by decide) rfl rfl (by decide) rfl ?_
        refine g_iload_n X dX3_layPowers_32 33 rfl rfl ?_
        refine g_aald (c := 4) (n := 24) (b := 5) (o := 0) (i := k) X dX3_layPowers_33 34 rfl (by decide) rfl rfl (by omega) ?_
        refine g_iconst X dX3_layPowers_34 35 rfl (v := (nI (0))) rfl ?_
        refine g_bipush X dX3_layPowers_35 37 rfl (v := (nI (24))) rfl ?_
        refine g_copy (c0 := (5 + (k - 1))) (n0 := 24) (r0 := 5) (o0 := 24 * (k - 1)) (c1 := (5 + k)) (n1 := 24) (r1 := 5) (o1 := 24 * k) (a := 0) (b := 0) (m := 24) (st := []) X wm_X3_48 dX3_layPowers_37 40 rfl (by omega) (YL_5 (by omega)) (by omega) (YL_5 (by omega)) rfl rfl rfl (by omega) (by omega) (by omega) (Nat.le_of_ble_eq_true rfl) ?_
        refine g_mem (h := (mcpy (mrow h 5 (powG (h 5) d (h 3) k)) 5 (0 + (24 * k)) 5 (0 + (24 * (k - 1))) 24)) (h' := (pwC h d (h 3) k)) rfl ?_
        refine g_aload_n X dX3_layPowers_40 41 rfl rfl ?_
        refine g_aload_n X dX3_layPowers_41 42 rfl rfl ?_
        refine g_get (c := 2) (k := 3) (T := TX3) (sk := skX2) (v := .ref (kad K (4))) X wf_X3_17 inX3 dX3_layPowers_42 45 rfl (by decide) rfl rfl (by decide) rfl ?_
        refine g_iload_n X dX3_layPowers_45 46 rfl rfl ?_
        refine g_aald (c := 4) (n := 24) (b := 5) (o := 0) (i := k) X dX3_layPowers_46 47 rfl (by decide) rfl rfl (by omega) ?_
        refine g_callVvx (st := []) (m2 := (mrow (pwC h d (h 3) k) 5 (gput ((pwC h d (h 3) k) 5) (24 * k) 24 (turnF d (h 3) (grd ((pwC h d (h 3) k) 5) (24 * k)))))) X cw_X3_54 (c_Y3_turnByOne_5 (pwC h d (h 3) k) k (by omega) d (by exact hd) hd1 hd2) dX3_layPowers_47 50 rfl (by decide) rfl rfl rfl rfl rfl (by decide) (Nat.le_of_ble_eq_true rfl) ?_
        refine g_iinc X (v := (nI (k + 1))) (lv' := [(0, .ref (kad K (2))), (1, .int (nI (k + 1)))]) dX3_layPowers_50 53 rfl (by decide) rfl (n_inc k 1) rfl rfl ?_
        refine g_goto X dX3_layPowers_53 11 (by decide) ?_
        skip
        refine g_mem (h := (mrow (pwC h d (h 3) k) 5 (gput ((pwC h d (h 3) k) 5) (24 * k) 24 (turnF d (h 3) (grd ((pwC h d (h 3) k) 5) (24 * k)))))) (h' := (mrow h 5 (powG (h 5) d (h 3) (k + 1)))) (pw_step h d (h 3) hk1 hd1 hd2) ?_
        exact ih11 (k + 1) (by omega) (by omega) (by omega)
  skip
  refine g_mem (h := (mrow h 5 (gput (h 5) (24 * 0) 24 setOneF))) (h' := (mrow h 5 (powG (h 5) d (h 3) 1))) (pw_init h d (h 3)) ?_
  exact lp11 _ 1 (by omega) (by omega) (Nat.lt_succ_self _)
theorem ry_poly (h : Mem) (q d : Nat) (hq1 : 3 ≤ q) (hq2 : q ≤ 24) (hdq : degK q q = (d : Int)) : cV 29 YL yX3_layPolynomial cX3_layPolynomial 3 1 23 (fun ad => [.ref (ad 2)]) (mup h 2 0 (nI q)) (fun h2 => h2 = (mrow (mup (mup h 2 0 (nI q)) 2 1 (nI d)) 3 (gput (h 3) 0 25 (polK q q)))) := by
  have e := c_Y3_layPolynomial (mup h 2 0 (nI q)) q rfl hq1 hq2
  rw [show zI (degK q q) = nI d from zI_of hdq] at e
  exact e
theorem c_Y3_raiseTo (h : Mem) (q d : Nat) (hq1 : 3 ≤ q) (hq2 : q ≤ 24) (hdq : degK q q = (d : Int)) (hd1 : 1 ≤ d) (hd2 : d ≤ 24) : cV 29 YL yX3_raiseTo cX3_raiseTo 2 2 47 (fun ad => [.ref (ad (2)), .int (nI (q))]) h (fun h2 => h2 = rtM h q d) := by
  refine cV_of YLW (by decide +kernel) (fun ad => Nat.le_of_ble_eq_true rfl) ?_
  intro K X Z
  show G 29 YL 2 K h 0 [(0, .ref (kad K (2))), (1, .int (nI (q)))] []
  refine g_aload_n X dX3_raiseTo_0 1 rfl rfl ?_
  refine g_iload_n X dX3_raiseTo_1 2 rfl rfl ?_
  refine g_put (c := 2) (k := 0) (T := TX3) (sk := skX2) X wf_X3_20 inX3 tyX3_ok nmX3 dX3_raiseTo_2 5 rfl (by decide) rfl rfl (by decide) rfl rfl rfl ?_
  refine g_aload_n X dX3_raiseTo_5 6 rfl rfl ?_
  refine g_callVvx (st := []) (m2 := (mrow (mup (mup h 2 0 (nI q)) 2 1 (nI d)) 3 (gput (h 3) 0 25 (polK q q)))) X cw_X3_24 (ry_poly h q d hq1 hq2 hdq) dX3_raiseTo_6 9 rfl (by decide) rfl rfl rfl rfl rfl (by decide) (Nat.le_of_ble_eq_true rfl) ?_
  refine g_aload_n X dX3_raiseTo_9 10 rfl rfl ?_
  refine g_callVvx (st := []) (m2 := (rtM h q d)) X cw_X3_27 (c_Y3_layPowers (mrow (mup (mup h 2 0 (nI q)) 2 1 (nI d)) 3 (gput (h 3) 0 25 (polK q q))) q (by rfl) hq1 hq2 d (by rfl) hd1 hd2) dX3_raiseTo_10 13 rfl (by decide) rfl rfl rfl rfl rfl (by decide) (Nat.le_of_ble_eq_true rfl) ?_
  refine g_vret (h := (rtM h q d)) X Z dX3_raiseTo_13 ?_
  exact rfl
