set_option maxHeartbeats 1000000 in
set_option maxRecDepth 100000 in
theorem c_X0_has (h : Mem) (x : Int32) (c : Int) (hx : x.toInt = c) (n : Nat) (hn : h 29 1 = nI n) (hn2 : n ≤ 24) : cI 69 XL yX0_has cX0_has 2 (some .boolean) 1 22 (fun ad => [.ref (ad (29)), .int (x)]) h (fun r h2 => r = bI (0 ≤ c ∧ c ≤ (n : Int) - 1) ∧ h2 = h) := by
  refine cI_of XLW (by decide +kernel) (fun ad => Nat.le_of_ble_eq_true rfl) ?_
  intro K X Z
  show G 69 XL 2 K h 0 [(0, .ref (kad K (29))), (1, .int (x))] []
  refine g_iload_n X dX0_has_0 1 rfl rfl ?_
  refine g_iconst X dX0_has_1 2 rfl (v := (nI (0))) rfl ?_
  refine g_aload_n X dX0_has_2 3 rfl rfl ?_
  refine g_get (c := 29) (k := 1) (T := TX0) (sk := skX29) (v := .int (nI (n))) X wf_X0_35 inX0 dX0_has_3 6 rfl (by decide) rfl rfl (by decide) (congrArg Value.int (hn)) ?_
  refine g_iconst X dX0_has_6 7 rfl (v := (nI (1))) rfl ?_
  refine g_isub X (v := (zI (((n : Nat) : Int) - ((1 : Nat) : Int)))) dX0_has_7 8 rfl (nn_sub n 1) ?_
  refine g_callSNix (st := []) (v := (bI (0 ≤ c ∧ c ≤ ((n : Nat) : Int) - ((1 : Nat) : Int)))) (m2 := h) X cw_X0_39 (c_X8_isWithin h (x) (nI (0)) (zI (((n : Nat) : Int) - ((1 : Nat) : Int))) c 0 (((n : Nat) : Int) - ((1 : Nat) : Int)) hx rfl (zI_toInt (by omega))) dX0_has_8 11 rfl rfl rfl rfl (by decide) (Nat.le_of_ble_eq_true rfl) ?_
  refine g_zret (h := h) (v := (bI (0 ≤ c ∧ c ≤ ((n : Nat) : Int) - ((1 : Nat) : Int)))) X Z dX0_has_11 (bI_01 _) ?_
  exact ⟨rfl, rfl⟩
set_option maxHeartbeats 1000000 in
set_option maxRecDepth 100000 in
theorem c_X0_isUsedIn (h : Mem) (q m n f k : Nat) (hc : coilsOK q m n (h 30) (h 31) (h 32) (h 33) (h 34)) (hn2 : n ≤ 24) (hm2 : m ≤ 3) (hk : k < n) (hf : f < 1000) : cI 69 XL yX0_isUsedIn cX0_isUsedIn 3 (some .boolean) 0 0 (fun ad => [.ref (ad (29)), .int (nI (k)), .int (nI (f))]) h (fun r h2 => r = bI (uin (h 30) (h 34) f k = true) ∧ h2 = h) := by
  refine cI_of XLW (by decide +kernel) (fun ad => Nat.le_of_ble_eq_true rfl) ?_
  intro K X Z
  show G 69 XL 3 K h 0 [(0, .ref (kad K (29))), (1, .int (nI (k))), (2, .int (nI (f)))] []
  have hk1 := hc k hk
  refine g_aload_n X dX0_isUsedIn_0 1 rfl rfl ?_
  refine g_get (c := 29) (k := 6) (T := TX0) (sk := skX29) (v := .ref (kad K (34))) X wf_X0_24 inX0 dX0_isUsedIn_1 4 rfl (by decide) rfl rfl (by decide) rfl ?_
  refine g_iload_n X dX0_isUsedIn_4 5 rfl rfl ?_
  refine g_zald (c := 34) (n := 24) (r := 34) (o := 0) (i := k) (v := (bI (h 34 k = nI 1))) X dX0_isUsedIn_5 6 rfl (by decide) rfl rfl (by omega) (us_b (hc k (by omega)).us) ?_
  refine g_ifeq_B X dX0_isUsedIn_6 23 (by decide) 9 rfl (fun t6 => ?_) (fun f6 => ?_)
  · skip
    refine g_iconst X dX0_isUsedIn_23 24 rfl (v := (nI (0))) rfl ?_
    refine g_zret (h := h) (v := (nI (0))) X Z dX0_isUsedIn_24 (Or.inl rfl) ?_
    exact ⟨(bI_f (by simp [uin, t6])).symm, rfl⟩
  · skip
    refine g_aload_n X dX0_isUsedIn_9 10 rfl rfl ?_
    refine g_get (c := 29) (k := 2) (T := TX0) (sk := skX29) (v := .ref (kad K (30))) X wf_X0_9 inX0 dX0_isUsedIn_10 13 rfl (by decide) rfl rfl (by decide) rfl ?_
    refine g_iload_n X dX0_isUsedIn_13 14 rfl rfl ?_
    refine g_iald (c := 30) (n := 24) (r := 30) (o := 0) (i := k) (v := (nI (tn (h 30 k)))) X dX0_isUsedIn_14 15 rfl (by decide) rfl rfl (by omega) ((hc k (by omega)).ph.1) ?_
    refine g_iload_n X dX0_isUsedIn_15 16 rfl rfl ?_
    refine g_icmp_ne X ((tn (h 30 k) : Nat) : Int) ((f : Nat) : Int) dX0_isUsedIn_16 23 (by decide) 19 rfl (nI_toInt (by have := hk1.ph; omega)) (nI_toInt (by omega)) (fun t16 => ?_) (fun f16 => ?_)
    · skip
      refine g_iconst X dX0_isUsedIn_23 24 rfl (v := (nI (0))) rfl ?_
      refine g_zret (h := h) (v := (nI (0))) X Z dX0_isUsedIn_24 (Or.inl rfl) ?_
      exact ⟨(bI_f (by simp [uin, f6]; omega)).symm, rfl⟩
    · skip
      refine g_iconst X dX0_isUsedIn_19 20 rfl (v := (nI (1))) rfl ?_
      refine g_goto X dX0_isUsedIn_20 24 (by decide) ?_
      refine g_zret (h := h) (v := (nI (1))) X Z dX0_isUsedIn_24 (Or.inr rfl) ?_
      exact ⟨(bI_t (by simp [uin, f6]; omega)).symm, rfl⟩
set_option maxHeartbeats 1000000 in
set_option maxRecDepth 100000 in
theorem c_X0_inUse (h : Mem) (q m : Nat) (n : Nat) (hn : h 29 1 = nI n) (hn2 : n ≤ 24) (hc : coilsOK q m n (h 30) (h 31) (h 32) (h 33) (h 34)) : cI 69 XL yX0_inUse cX0_inUse 3 (some .int) 1 20 (fun ad => [.ref (ad (29))]) h (fun r h2 => r = nI (cntU (h 34) n) ∧ h2 = h) := by
  refine cI_of XLW (by decide +kernel) (fun ad => Nat.le_of_ble_eq_true rfl) ?_
  intro K X Z
  show G 69 XL 3 K h 0 [(0, .ref (kad K (29)))] []
  refine g_iconst X dX0_inUse_0 1 rfl (v := (nI (0))) rfl ?_
  refine g_istore_n X (lv' := [(0, .ref (kad K (29))), (1, .int (nI 0))]) dX0_inUse_1 2 rfl (by decide) rfl rfl ?_
  refine g_iconst X dX0_inUse_2 3 rfl (v := (nI (0))) rfl ?_
  refine g_istore_n X (lv' := [(0, .ref (kad K (29))), (1, .int (nI 0)), (2, .int (nI 0))]) dX0_inUse_3 4 rfl (by decide) rfl rfl ?_
  have lp4 : ∀ (fu : Nat) (k : Nat) (u : Nat) (hk : k ≤ n) (hu : u = cntU (h 34) k), n - k < fu → G 69 XL 3 K h 4 [(0, .ref (kad K (29))), (1, .int (nI (u))), (2, .int (nI (k)))] [] := by
    intro fu
    induction fu with
    | zero => intro k u hk hu hm; exact absurd hm (Nat.not_lt_zero _)
    | succ fu ih4 =>
      intro k u hk hu hm4
      have hcl := cntU_le (h 34) k
      refine g_iload_n X dX0_inUse_4 5 rfl rfl ?_
      refine g_aload_n X dX0_inUse_5 6 rfl rfl ?_
      refine g_get (c := 29) (k := 1) (T := TX0) (sk := skX29) (v := .int (nI (n))) X wf_X0_35 inX0 dX0_inUse_6 9 rfl (by decide) rfl rfl (by decide) (congrArg Value.int (hn)) ?_
      refine g_icmp_ge X ((k : Nat) : Int) ((n : Nat) : Int) dX0_inUse_9 30 (by decide) 12 rfl (nI_toInt (by omega)) (nI_toInt (by omega)) (fun t9 => ?_) (fun f9 => ?_)
      · skip
        refine g_iload_n X dX0_inUse_30 31 rfl rfl ?_
        refine g_iret (h := h) (v := (nI (u))) X Z dX0_inUse_31 ?_
        exact ⟨by rw [hu, show k = n from by omega], rfl⟩
      · skip
        refine g_iload_n X dX0_inUse_12 13 rfl rfl ?_
        refine g_aload_n X dX0_inUse_13 14 rfl rfl ?_
        refine g_get (c := 29) (k := 6) (T := TX0) (sk := skX29) (v := .ref (kad K (34))) X wf_X0_24 inX0 dX0_inUse_14 17 rfl (by decide) rfl rfl (by decide) rfl ?_
        refine g_iload_n X dX0_inUse_17 18 rfl rfl ?_
        refine g_zald (c := 34) (n := 24) (r := 34) (o := 0) (i := k) (v := (bI (h 34 k = nI 1))) X dX0_inUse_18 19 rfl (by decide) rfl rfl (by omega) (us_b (hc k (by omega)).us) ?_
        refine g_callSNix (st := [.int (nI (u))]) (v := (bI (h 34 k = nI 1))) (m2 := h) X cw_X0_52 (c_X8_oneIf h (h 34 k = nI 1)) dX0_inUse_19 22 rfl rfl rfl rfl (by decide) (Nat.le_of_ble_eq_true rfl) ?_
        refine g_iadd X (v := (nI (u + (if h 34 k = nI 1 then 1 else 0)))) dX0_inUse_22 23 rfl (by rw [bI_nI]; exact nI_add _ _) ?_
        refine g_istore_n X (lv' := [(0, .ref (kad K (29))), (1, .int (nI (u + (if h 34 k = nI 1 then 1 else 0)))), (2, .int (nI (k)))]) dX0_inUse_23 24 rfl (by decide) rfl rfl ?_
        refine g_iinc X (v := (nI (k + 1))) (lv' := [(0, .ref (kad K (29))), (1, .int (nI (u + (if h 34 k = nI 1 then 1 else 0)))), (2, .int (nI (k + 1)))]) dX0_inUse_24 27 rfl (by decide) rfl (n_inc k 1) rfl rfl ?_
        refine g_goto X dX0_inUse_27 4 (by decide) ?_
        skip
        exact ih4 (k + 1) (u + (if h 34 k = nI 1 then 1 else 0)) (by omega) (by rw [hu]; rfl) (by omega)
  skip
  exact lp4 _ 0 0 (by omega) rfl (Nat.lt_succ_self _)
set_option maxHeartbeats 1000000 in
set_option maxRecDepth 100000 in
theorem c_X0_gather45 (h : Mem) (q m f : Nat) (n : Nat) (hn : h 29 1 = nI n) (hn2 : n ≤ 24) (hc : coilsOK q m n (h 30) (h 31) (h 32) (h 33) (h 34)) (hm2 : m ≤ 3) (hf : f < 1000) : cI 69 XL yX0_gather cX0_gather 5 (some .int) 1 22 (fun ad => [.ref (ad (29)), .int (nI (f)), .ref (ad (45))]) h (fun r h2 => r = nI (glB (uin (h 30) (h 34) f) n).length ∧ h2 = mrow h 45 (grow (glB (uin (h 30) (h 34) f) n) 8 (h 45))) := by
  refine cI_of XLW (by decide +kernel) (fun ad => Nat.le_of_ble_eq_true rfl) ?_
  intro K X Z
  show G 69 XL 5 K h 0 [(0, .ref (kad K (29))), (1, .int (nI (f))), (2, .ref (kad K (45)))] []
  refine g_iconst X dX0_gather_0 1 rfl (v := (nI (0))) rfl ?_
  refine g_istore_n X (lv' := [(0, .ref (kad K (29))), (1, .int (nI (f))), (2, .ref (kad K (45))), (3, .int (nI 0))]) dX0_gather_1 2 rfl (by decide) rfl rfl ?_
  refine g_iconst X dX0_gather_2 3 rfl (v := (nI (0))) rfl ?_
  refine g_istore X (lv' := [(0, .ref (kad K (29))), (1, .int (nI (f))), (2, .ref (kad K (45))), (3, .int (nI 0)), (4, .int (nI 0))]) dX0_gather_3 5 rfl (by decide) rfl rfl ?_
  have lp5 : ∀ (fu : Nat) (k : Nat) (l : List Nat) (hk : k ≤ n) (hl : l = glB (uin (h 30) (h 34) f) k), n - k < fu → G 69 XL 5 K (mrow h 45 (grow l 8 (h 45))) 5 [(0, .ref (kad K (29))), (1, .int (nI (f))), (2, .ref (kad K (45))), (3, .int (nI (l.length))), (4, .int (nI (k)))] [] := by
    intro fu
    induction fu with
    | zero => intro k l hk hl hm; exact absurd hm (Nat.not_lt_zero _)
    | succ fu ih5 =>
      intro k l hk hl hm5
      have hll : l.length ≤ k := by rw [hl]; exact glB_len _ _
      refine g_iload X dX0_gather_5 7 rfl rfl ?_
      refine g_aload_n X dX0_gather_7 8 rfl rfl ?_
      refine g_get (c := 29) (k := 1) (T := TX0) (sk := skX29) (v := .int (nI (n))) X wf_X0_35 inX0 dX0_gather_8 11 rfl (by decide) rfl rfl (by decide) (congrArg Value.int (hn)) ?_
      refine g_icmp_ge X ((k : Nat) : Int) ((n : Nat) : Int) dX0_gather_11 44 (by decide) 14 rfl (nI_toInt (by omega)) (nI_toInt (by omega)) (fun t11 => ?_) (fun f11 => ?_)
      · skip
        refine g_iload_n X dX0_gather_44 45 rfl rfl ?_
        refine g_iret (h := (mrow h 45 (grow l 8 (h 45)))) (v := (nI (l.length))) X Z dX0_gather_45 ?_
        exact ⟨by rw [hl, show k = n from by omega], by rw [hl, show k = n from by omega]⟩
      · skip
        refine g_aload_n X dX0_gather_14 15 rfl rfl ?_
        refine g_iload X dX0_gather_15 17 rfl rfl ?_
        refine g_iload_n X dX0_gather_17 18 rfl rfl ?_
        refine g_callVix (st := []) (v := (bI (uin (h 30) (h 34) f k = true))) (m2 := (mrow h 45 (grow l 8 (h 45)))) X cw_X0_56 (c_X0_isUsedIn (mrow h 45 (grow l 8 (h 45))) q m n f k (by exact hc) hn2 hm2 (by omega) (by omega)) dX0_gather_18 21 rfl (by decide) rfl rfl rfl rfl rfl (by decide) (Nat.le_of_ble_eq_true rfl) ?_
        refine g_ifeq_B X dX0_gather_21 38 (by decide) 24 rfl (fun t21 => ?_) (fun f21 => ?_)
        · skip
          refine g_iinc X (v := (nI (k + 1))) (lv' := [(0, .ref (kad K (29))), (1, .int (nI (f))), (2, .ref (kad K (45))), (3, .int (nI (l.length))), (4, .int (nI (k + 1)))]) dX0_gather_38 41 rfl (by decide) rfl (n_inc k 1) rfl rfl ?_
          refine g_goto X dX0_gather_41 5 (by decide) ?_
          skip
          exact ih5 (k + 1) l (by omega) (by rw [hl, glB_f (by simpa using t21)]) (by omega)
        · skip
          refine g_iload_n X dX0_gather_24 25 rfl rfl ?_
          refine g_aload_n X dX0_gather_25 26 rfl rfl ?_
          refine g_alen (c := 45) (n := 8) X dX0_gather_26 27 rfl (by decide) rfl ?_
          refine g_icmp_ge X ((l.length : Nat) : Int) 8 dX0_gather_27 35 (by decide) 30 rfl (nI_toInt (by omega)) rfl (fun t27 => ?_) (fun f27 => ?_)
          · skip
            refine g_iinc X (v := (nI ((l ++ [k]).length))) (lv' := [(0, .ref (kad K (29))), (1, .int (nI (f))), (2, .ref (kad K (45))), (3, .int (nI ((l ++ [k]).length))), (4, .int (nI (k)))]) dX0_gather_35 38 rfl (by decide) rfl (by rw [List.length_append]; exact n_inc l.length 1) rfl rfl ?_
            refine g_iinc X (v := (nI (k + 1))) (lv' := [(0, .ref (kad K (29))), (1, .int (nI (f))), (2, .ref (kad K (45))), (3, .int (nI ((l ++ [k]).length))), (4, .int (nI (k + 1)))]) dX0_gather_38 41 rfl (by decide) rfl (n_inc k 1) rfl rfl ?_
            refine g_goto X dX0_gather_41 5 (by decide) ?_
            skip
            refine g_mem (h := (mrow h 45 (grow l 8 (h 45)))) (h' := (mrow h 45 (grow (l ++ [k]) 8 (h 45)))) (by rw [grow_out (k := k) (by omega)]) ?_
            exact ih5 (k + 1) (l ++ [k]) (by omega) (by rw [hl, glB_t f21]) (by omega)
          · skip
            refine g_aload_n X dX0_gather_30 31 rfl rfl ?_
            refine g_iload_n X dX0_gather_31 32 rfl rfl ?_
            refine g_iload X dX0_gather_32 34 rfl rfl ?_
            refine g_iast (c := 45) (n := 8) (r := 45) (o := 0) (i := l.length) X dX0_gather_34 35 rfl (by decide) rfl rfl (by omega) ?_
            refine g_iinc X (v := (nI ((l ++ [k]).length))) (lv' := [(0, .ref (kad K (29))), (1, .int (nI (f))), (2, .ref (kad K (45))), (3, .int (nI ((l ++ [k]).length))), (4, .int (nI (k)))]) dX0_gather_35 38 rfl (by decide) rfl (by rw [List.length_append]; exact n_inc l.length 1) rfl rfl ?_
            refine g_iinc X (v := (nI (k + 1))) (lv' := [(0, .ref (kad K (29))), (1, .int (nI (f))), (2, .ref (kad K (45))), (3, .int (nI ((l ++ [k]).length))), (4, .int (nI (k + 1)))]) dX0_gather_38 41 rfl (by decide) rfl (n_inc k 1) rfl rfl ?_
            refine g_goto X dX0_gather_41 5 (by decide) ?_
            skip
            refine g_mem (h := (mup (mrow h 45 (grow l 8 (h 45))) 45 l.length (nI (k)))) (h' := (mrow h 45 (grow (l ++ [k]) 8 (h 45)))) (by rw [mup_m, grow_in (by omega)]) ?_
            exact ih5 (k + 1) (l ++ [k]) (by omega) (by rw [hl, glB_t f21]) (by omega)
  skip
  refine g_mem (h := h) (h' := (mrow h 45 (grow ([]) 8 (h 45)))) (by rw [grow_nil, mrow_id]) ?_
  exact lp5 _ 0 ([]) (by omega) rfl (Nat.lt_succ_self _)
set_option maxHeartbeats 1000000 in
set_option maxRecDepth 100000 in
theorem c_X0_gather55 (h : Mem) (q m f : Nat) (n : Nat) (hn : h 29 1 = nI n) (hn2 : n ≤ 24) (hc : coilsOK q m n (h 30) (h 31) (h 32) (h 33) (h 34)) (hm2 : m ≤ 3) (hf : f < 1000) : cI 69 XL yX0_gather cX0_gather 5 (some .int) 1 22 (fun ad => [.ref (ad (29)), .int (nI (f)), .ref (ad (55))]) h (fun r h2 => r = nI (glB (uin (h 30) (h 34) f) n).length ∧ h2 = mrow h 55 (grow (glB (uin (h 30) (h 34) f) n) 7 (h 55))) := by
  refine cI_of XLW (by decide +kernel) (fun ad => Nat.le_of_ble_eq_true rfl) ?_
  intro K X Z
  show G 69 XL 5 K h 0 [(0, .ref (kad K (29))), (1, .int (nI (f))), (2, .ref (kad K (55)))] []
  refine g_iconst X dX0_gather_0 1 rfl (v := (nI (0))) rfl ?_
  refine g_istore_n X (lv' := [(0, .ref (kad K (29))), (1, .int (nI (f))), (2, .ref (kad K (55))), (3, .int (nI 0))]) dX0_gather_1 2 rfl (by decide) rfl rfl ?_
  refine g_iconst X dX0_gather_2 3 rfl (v := (nI (0))) rfl ?_
  refine g_istore X (lv' := [(0, .ref (kad K (29))), (1, .int (nI (f))), (2, .ref (kad K (55))), (3, .int (nI 0)), (4, .int (nI 0))]) dX0_gather_3 5 rfl (by decide) rfl rfl ?_
  have lp5 : ∀ (fu : Nat) (k : Nat) (l : List Nat) (hk : k ≤ n) (hl : l = glB (uin (h 30) (h 34) f) k), n - k < fu → G 69 XL 5 K (mrow h 55 (grow l 7 (h 55))) 5 [(0, .ref (kad K (29))), (1, .int (nI (f))), (2, .ref (kad K (55))), (3, .int (nI (l.length))), (4, .int (nI (k)))] [] := by
    intro fu
    induction fu with
    | zero => intro k l hk hl hm; exact absurd hm (Nat.not_lt_zero _)
    | succ fu ih5 =>
      intro k l hk hl hm5
      have hll : l.length ≤ k := by rw [hl]; exact glB_len _ _
      refine g_iload X dX0_gather_5 7 rfl rfl ?_
      refine g_aload_n X dX0_gather_7 8 rfl rfl ?_
      refine g_get (c := 29) (k := 1) (T := TX0) (sk := skX29) (v := .int (nI (n))) X wf_X0_35 inX0 dX0_gather_8 11 rfl (by decide) rfl rfl (by decide) (congrArg Value.int (hn)) ?_
      refine g_icmp_ge X ((k : Nat) : Int) ((n : Nat) : Int) dX0_gather_11 44 (by decide) 14 rfl (nI_toInt (by omega)) (nI_toInt (by omega)) (fun t11 => ?_) (fun f11 => ?_)
      · skip
        refine g_iload_n X dX0_gather_44 45 rfl rfl ?_
        refine g_iret (h := (mrow h 55 (grow l 7 (h 55)))) (v := (nI (l.length))) X Z dX0_gather_45 ?_
        exact ⟨by rw [hl, show k = n from by omega], by rw [hl, show k = n from by omega]⟩
      · skip
        refine g_aload_n X dX0_gather_14 15 rfl rfl ?_
        refine g_iload X dX0_gather_15 17 rfl rfl ?_
        refine g_iload_n X dX0_gather_17 18 rfl rfl ?_
        refine g_callVix (st := []) (v := (bI (uin (h 30) (h 34) f k = true))) (m2 := (mrow h 55 (grow l 7 (h 55)))) X cw_X0_56 (c_X0_isUsedIn (mrow h 55 (grow l 7 (h 55))) q m n f k (by exact hc) hn2 hm2 (by omega) (by omega)) dX0_gather_18 21 rfl (by decide) rfl rfl rfl rfl rfl (by decide) (Nat.le_of_ble_eq_true rfl) ?_
        refine g_ifeq_B X dX0_gather_21 38 (by decide) 24 rfl (fun t21 => ?_) (fun f21 => ?_)
        · skip
          refine g_iinc X (v := (nI (k + 1))) (lv' := [(0, .ref (kad K (29))), (1, .int (nI (f))), (2, .ref (kad K (55))), (3, .int (nI (l.length))), (4, .int (nI (k + 1)))]) dX0_gather_38 41 rfl (by decide) rfl (n_inc k 1) rfl rfl ?_
          refine g_goto X dX0_gather_41 5 (by decide) ?_
          skip
          exact ih5 (k + 1) l (by omega) (by rw [hl, glB_f (by simpa using t21)]) (by omega)
        · skip
          refine g_iload_n X dX0_gather_24 25 rfl rfl ?_
          refine g_aload_n X dX0_gather_25 26 rfl rfl ?_
          refine g_alen (c := 55) (n := 7) X dX0_gather_26 27 rfl (by decide) rfl ?_
          refine g_icmp_ge X ((l.length : Nat) : Int) 7 dX0_gather_27 35 (by decide) 30 rfl (nI_toInt (by omega)) rfl (fun t27 => ?_) (fun f27 => ?_)
          · skip
            refine g_iinc X (v := (nI ((l ++ [k]).length))) (lv' := [(0, .ref (kad K (29))), (1, .int (nI (f))), (2, .ref (kad K (55))), (3, .int (nI ((l ++ [k]).length))), (4, .int (nI (k)))]) dX0_gather_35 38 rfl (by decide) rfl (by rw [List.length_append]; exact n_inc l.length 1) rfl rfl ?_
            refine g_iinc X (v := (nI (k + 1))) (lv' := [(0, .ref (kad K (29))), (1, .int (nI (f))), (2, .ref (kad K (55))), (3, .int (nI ((l ++ [k]).length))), (4, .int (nI (k + 1)))]) dX0_gather_38 41 rfl (by decide) rfl (n_inc k 1) rfl rfl ?_
            refine g_goto X dX0_gather_41 5 (by decide) ?_
            skip
            refine g_mem (h := (mrow h 55 (grow l 7 (h 55)))) (h' := (mrow h 55 (grow (l ++ [k]) 7 (h 55)))) (by rw [grow_out (k := k) (by omega)]) ?_
            exact ih5 (k + 1) (l ++ [k]) (by omega) (by rw [hl, glB_t f21]) (by omega)
          · skip
            refine g_aload_n X dX0_gather_30 31 rfl rfl ?_
            refine g_iload_n X dX0_gather_31 32 rfl rfl ?_
            refine g_iload X dX0_gather_32 34 rfl rfl ?_
            refine g_iast (c := 55) (n := 7) (r := 55) (o := 0) (i := l.length) X dX0_gather_34 35 rfl (by decide) rfl rfl (by omega) ?_
            refine g_iinc X (v := (nI ((l ++ [k]).length))) (lv' := [(0, .ref (kad K (29))), (1, .int (nI (f))), (2, .ref (kad K (55))), (3, .int (nI ((l ++ [k]).length))), (4, .int (nI (k)))]) dX0_gather_35 38 rfl (by decide) rfl (by rw [List.length_append]; exact n_inc l.length 1) rfl rfl ?_
            refine g_iinc X (v := (nI (k + 1))) (lv' := [(0, .ref (kad K (29))), (1, .int (nI (f))), (2, .ref (kad K (55))), (3, .int (nI ((l ++ [k]).length))), (4, .int (nI (k + 1)))]) dX0_gather_38 41 rfl (by decide) rfl (n_inc k 1) rfl rfl ?_
            refine g_goto X dX0_gather_41 5 (by decide) ?_
            skip
            refine g_mem (h := (mup (mrow h 55 (grow l 7 (h 55))) 55 l.length (nI (k)))) (h' := (mrow h 55 (grow (l ++ [k]) 7 (h 55)))) (by rw [mup_m, grow_in (by omega)]) ?_
            exact ih5 (k + 1) (l ++ [k]) (by omega) (by rw [hl, glB_t f21]) (by omega)
  skip
  refine g_mem (h := h) (h' := (mrow h 55 (grow ([]) 7 (h 55)))) (by rw [grow_nil, mrow_id]) ?_
  exact lp5 _ 0 ([]) (by omega) rfl (Nat.lt_succ_self _)
/-- the memory with one more coil -/
def layMX (h : Mem) (n : Nat) (x0 x1 x2 x3 : Int32) : Mem := mup (mrow (mup (mup (mup (mup (mup h 30 n x0) 31 n x1) 32 n x2) 33 n x3) 34 n (nI 1)) 35 (sd2 (h 35) (tn x1) (tn x2))) 29 1 (nI (n + 1))
theorem mup_mup (h : Mem) (c i j : Nat) (v w : Int32) : mup (mup h c i v) c j w = mrow h c (upd (upd (h c) i v) j w) := by
  show mup (mrow h c (upd (h c) i v)) c j w = _
  rw [mup_m]
theorem lay_mem (h : Mem) (n a b : Nat) (x0 x1 x2 x3 : Int32) : mup (mrow (mup (mup (mup (mup (mup h 30 n x0) 31 n x1) 32 n x2) 33 n x3) 34 n (nI 1)) 35 (sd2 (h 35) a b)) 29 1 (nI (n + 1)) = mup (mup (mup (mup (mup (mup (mup (mup h 30 n x0) 31 n x1) 32 n x2) 33 n x3) 34 n (nI 1)) 35 a (h 35 a + nI 1)) 35 b (upd (h 35) a (h 35 a + nI 1) b + nI 1)) 29 1 (nI (n + 1)) := by
  rw [mup_mup]
  rfl
set_option maxHeartbeats 1000000 in
set_option maxRecDepth 100000 in
theorem c_X0_lay (h : Mem) (q m : Nat) (x0 x1 x2 x3 : Int32) (n : Nat) (hn : h 29 1 = nI n) (hn2 : n ≤ 24) (hq : h 1 0 = nI q) (hm : h 1 2 = nI m) (hq2 : q ≤ 24) (hm2 : m ≤ 3) : cI 69 XL yX0_lay cX0_lay 5 (some .int) 2 43 (fun ad => [.ref (ad (29)), .int (x0), .int (x1), .int (x2), .int (x3)]) h (fun r h2 => r = layV q m n (h 35) x0 x1 x2 x3 ∧ h2 = if layG q m n (h 35) x0 x1 x2 x3 then layMX h n x0 x1 x2 x3 else h) := by
  refine cI_of XLW (by decide +kernel) (fun ad => Nat.le_of_ble_eq_true rfl) ?_
  intro K X Z
  show G 69 XL 5 K h 0 [(0, .ref (kad K (29))), (1, .int (x0)), (2, .int (x1)), (3, .int (x2)), (4, .int (x3))] []
  refine g_aload_n X dX0_lay_0 1 rfl rfl ?_
  refine g_get (c := 29) (k := 0) (T := TX0) (sk := skX29) (v := .ref (kad K (1))) X wf_X0_31 inX0 dX0_lay_1 4 rfl (by decide) rfl rfl (by decide) rfl ?_
  refine g_iload_n X dX0_lay_4 5 rfl rfl ?_
  refine g_callVix (st := []) (v := (bI (0 ≤ (x0).toInt ∧ (x0).toInt ≤ (m : Int) - 1))) (m2 := h) X cw_X0_43 (c_X1_hasPhase h (x0) ((x0).toInt) rfl _ hm (by omega)) dX0_lay_5 8 rfl (by decide) rfl rfl rfl rfl rfl (by decide) (Nat.le_of_ble_eq_true rfl) ?_
  refine g_ifeq_B X dX0_lay_8 49 (by decide) 11 rfl (fun t8 => ?_) (fun f8 => ?_)
  · skip
    refine g_iconst X dX0_lay_49 50 rfl (v := (zI (-1))) rfl ?_
    refine g_iret (h := h) (v := (zI (-1))) X Z dX0_lay_50 ?_
    exact ⟨(if_neg (fun z => t8 z.1)).symm, (if_neg (fun z => t8 z.1.1)).symm⟩
  · skip
    refine g_aload_n X dX0_lay_11 12 rfl rfl ?_
    refine g_get (c := 29) (k := 0) (T := TX0) (sk := skX29) (v := .ref (kad K (1))) X wf_X0_31 inX0 dX0_lay_12 15 rfl (by decide) rfl rfl (by decide) rfl ?_
    refine g_iload_n X dX0_lay_15 16 rfl rfl ?_
    refine g_callVix (st := []) (v := (bI (0 ≤ (x1).toInt ∧ (x1).toInt ≤ (q : Int) - 1))) (m2 := h) X cw_X0_49 (c_X1_hasSlot h (x1) ((x1).toInt) rfl _ hq (by omega)) dX0_lay_16 19 rfl (by decide) rfl rfl rfl rfl rfl (by decide) (Nat.le_of_ble_eq_true rfl) ?_
    refine g_ifeq_B X dX0_lay_19 49 (by decide) 22 rfl (fun t19 => ?_) (fun f19 => ?_)
    · skip
      refine g_iconst X dX0_lay_49 50 rfl (v := (zI (-1))) rfl ?_
      refine g_iret (h := h) (v := (zI (-1))) X Z dX0_lay_50 ?_
      exact ⟨(if_neg (fun z => t19 z.2.1)).symm, (if_neg (fun z => t19 z.1.2.1)).symm⟩
    · skip
      refine g_aload_n X dX0_lay_22 23 rfl rfl ?_
      refine g_get (c := 29) (k := 0) (T := TX0) (sk := skX29) (v := .ref (kad K (1))) X wf_X0_31 inX0 dX0_lay_23 26 rfl (by decide) rfl rfl (by decide) rfl ?_
      refine g_iload_n X dX0_lay_26 27 rfl rfl ?_
      refine g_callVix (st := []) (v := (bI (0 ≤ (x2).toInt ∧ (x2).toInt ≤ (q : Int) - 1))) (m2 := h) X cw_X0_49 (c_X1_hasSlot h (x2) ((x2).toInt) rfl _ hq (by omega)) dX0_lay_27 30 rfl (by decide) rfl rfl rfl rfl rfl (by decide) (Nat.le_of_ble_eq_true rfl) ?_
      refine g_ifeq_B X dX0_lay_30 49 (by decide) 33 rfl (fun t30 => ?_) (fun f30 => ?_)
      · skip
        refine g_iconst X dX0_lay_49 50 rfl (v := (zI (-1))) rfl ?_
        refine g_iret (h := h) (v := (zI (-1))) X Z dX0_lay_50 ?_
        exact ⟨(if_neg (fun z => t30 z.2.2.1)).symm, (if_neg (fun z => t30 z.1.2.2.1)).symm⟩
      · skip
        refine g_iload_n X dX0_lay_33 34 rfl rfl ?_
        refine g_iload_n X dX0_lay_34 35 rfl rfl ?_
        refine g_icmp_eq X ((x1).toInt) ((x2).toInt) dX0_lay_35 49 (by decide) 38 rfl rfl rfl (fun t35 => ?_) (fun f35 => ?_)
        · skip
          refine g_iconst X dX0_lay_49 50 rfl (v := (zI (-1))) rfl ?_
          refine g_iret (h := h) (v := (zI (-1))) X Z dX0_lay_50 ?_
          exact ⟨(if_neg (fun z => z.2.2.2.1 t35)).symm, (if_neg (fun z => z.1.2.2.2.1 t35)).symm⟩
        · skip
          refine g_iload X dX0_lay_38 40 rfl rfl ?_
          refine g_iconst X dX0_lay_40 41 rfl (v := (nI (1))) rfl ?_
          refine g_bipush X dX0_lay_41 43 rfl (v := (nI (99))) rfl ?_
          refine g_callSNix (st := []) (v := (bI (1 ≤ (x3).toInt ∧ (x3).toInt ≤ 99))) (m2 := h) X cw_X0_39 (c_X8_isWithin h (x3) (nI (1)) (nI (99)) ((x3).toInt) 1 99 rfl rfl rfl) dX0_lay_43 46 rfl rfl rfl rfl (by decide) (Nat.le_of_ble_eq_true rfl) ?_
          refine g_ifne_B X dX0_lay_46 51 (by decide) 49 rfl (fun t46 => ?_) (fun f46 => ?_)
          · skip
            obtain ⟨f0, hf0, rfl⟩ := inR_nat f8
            obtain ⟨a0, ha0, rfl⟩ := inR_nat f19
            obtain ⟨b0, hb0, rfl⟩ := inR_nat f30
            obtain ⟨t0, ht0, ht1, rfl⟩ := inR_nat2 (a := 1) (n := 99) t46
            have hab : a0 ≠ b0 := fun z => f35 (by rw [z])
            have ok9 : okc q m (nI f0) (nI a0) (nI b0) (nI t0) := ⟨f8, f19, f30, f35, t46⟩
            have ta9 : tn (nI a0) = a0 := tn_nI (by omega)
            have tb9 : tn (nI b0) = b0 := tn_nI (by omega)
            refine g_aload_n X dX0_lay_51 52 rfl rfl ?_
            refine g_get (c := 29) (k := 7) (T := TX0) (sk := skX29) (v := .ref (kad K (35))) X wf_X0_28 inX0 dX0_lay_52 55 rfl (by decide) rfl rfl (by decide) rfl ?_
            refine g_iload_n X dX0_lay_55 56 rfl rfl ?_
            refine g_iald (c := 35) (n := 24) (r := 35) (o := 0) (i := a0) (v := (h 35 a0)) X dX0_lay_56 57 rfl (by decide) rfl rfl (by omega) rfl ?_
            refine g_iconst X dX0_lay_57 58 rfl (v := (nI (2))) rfl ?_
            refine g_icmp_ge X ((h 35 a0).toInt) 2 dX0_lay_58 71 (by decide) 61 rfl rfl rfl (fun t58 => ?_) (fun f58 => ?_)
            · skip
              refine g_bipush X dX0_lay_71 73 rfl (v := (zI (-2))) rfl ?_
              refine g_iret (h := h) (v := (zI (-2))) X Z dX0_lay_73 ?_
              have g9 : fullS (h 35) (nI a0) (nI b0) := Or.inl (by rw [ta9]; exact t58)
              exact ⟨((if_pos ok9).trans (if_pos g9)).symm, (if_neg (fun z => z.2.1 g9)).symm⟩
            · skip
              refine g_aload_n X dX0_lay_61 62 rfl rfl ?_
              refine g_get (c := 29) (k := 7) (T := TX0) (sk := skX29) (v := .ref (kad K (35))) X wf_X0_28 inX0 dX0_lay_62 65 rfl (by decide) rfl rfl (by decide) rfl ?_
              refine g_iload_n X dX0_lay_65 66 rfl rfl ?_
              refine g_iald (c := 35) (n := 24) (r := 35) (o := 0) (i := b0) (v := (h 35 b0)) X dX0_lay_66 67 rfl (by decide) rfl rfl (by omega) rfl ?_
              refine g_iconst X dX0_lay_67 68 rfl (v := (nI (2))) rfl ?_
              refine g_icmp_lt X ((h 35 b0).toInt) 2 dX0_lay_68 74 (by decide) 71 rfl rfl rfl (fun t68 => ?_) (fun f68 => ?_)
              · skip
                refine g_aload_n X dX0_lay_74 75 rfl rfl ?_
                refine g_get (c := 29) (k := 1) (T := TX0) (sk := skX29) (v := .int (nI (n))) X wf_X0_35 inX0 dX0_lay_75 78 rfl (by decide) rfl rfl (by decide) (congrArg Value.int (hn)) ?_
                refine g_bipush X dX0_lay_78 80 rfl (v := (nI (24))) rfl ?_
                refine g_icmp_lt X ((n : Nat) : Int) 24 dX0_lay_80 86 (by decide) 83 rfl (nI_toInt (by omega)) rfl (fun t80 => ?_) (fun f80 => ?_)
                · skip
                  refine g_aload_n X dX0_lay_86 87 rfl rfl ?_
                  refine g_get (c := 29) (k := 2) (T := TX0) (sk := skX29) (v := .ref (kad K (30))) X wf_X0_9 inX0 dX0_lay_87 90 rfl (by decide) rfl rfl (by decide) rfl ?_
                  refine g_aload_n X dX0_lay_90 91 rfl rfl ?_
                  refine g_get (c := 29) (k := 1) (T := TX0) (sk := skX29) (v := .int (nI (n))) X wf_X0_35 inX0 dX0_lay_91 94 rfl (by decide) rfl rfl (by decide) (congrArg Value.int (hn)) ?_
                  refine g_iload_n X dX0_lay_94 95 rfl rfl ?_
                  refine g_iast (c := 30) (n := 24) (r := 30) (o := 0) (i := n) X dX0_lay_95 96 rfl (by decide) rfl rfl (by omega) ?_
                  refine g_aload_n X dX0_lay_96 97 rfl rfl ?_
                  refine g_get (c := 29) (k := 3) (T := TX0) (sk := skX29) (v := .ref (kad K (31))) X wf_X0_15 inX0 dX0_lay_97 100 rfl (by decide) rfl rfl (by decide) rfl ?_
                  refine g_aload_n X dX0_lay_100 101 rfl rfl ?_
                  refine g_get (c := 29) (k := 1) (T := TX0) (sk := skX29) (v := .int (nI (n))) X wf_X0_35 inX0 dX0_lay_101 104 rfl (by decide) rfl rfl (by decide) (congrArg Value.int (hn)) ?_
                  refine g_iload_n X dX0_lay_104 105 rfl rfl ?_
                  refine g_iast (c := 31) (n := 24) (r := 31) (o := 0) (i := n) X dX0_lay_105 106 rfl (by decide) rfl rfl (by omega) ?_
                  refine g_aload_n X dX0_lay_106 107 rfl rfl ?_
                  refine g_get (c := 29) (k := 4) (T := TX0) (sk := skX29) (v := .ref (kad K (32))) X wf_X0_18 inX0 dX0_lay_107 110 rfl (by decide) rfl rfl (by decide) rfl ?_
                  refine g_aload_n X dX0_lay_110 111 rfl rfl ?_
                  refine g_get (c := 29) (k := 1) (T := TX0) (sk := skX29) (v := .int (nI (n))) X wf_X0_35 inX0 dX0_lay_111 114 rfl (by decide) rfl rfl (by decide) (congrArg Value.int (hn)) ?_
                  refine g_iload_n X dX0_lay_114 115 rfl rfl ?_
                  refine g_iast (c := 32) (n := 24) (r := 32) (o := 0) (i := n) X dX0_lay_115 116 rfl (by decide) rfl rfl (by omega) ?_
                  refine g_aload_n X dX0_lay_116 117 rfl rfl ?_
                  refine g_get (c := 29) (k := 5) (T := TX0) (sk := skX29) (v := .ref (kad K (33))) X wf_X0_21 inX0 dX0_lay_117 120 rfl (by decide) rfl rfl (by decide) rfl ?_
                  refine g_aload_n X dX0_lay_120 121 rfl rfl ?_
                  refine g_get (c := 29) (k := 1) (T := TX0) (sk := skX29) (v := .int (nI (n))) X wf_X0_35 inX0 dX0_lay_121 124 rfl (by decide) rfl rfl (by decide) (congrArg Value.int (hn)) ?_
                  refine g_iload X dX0_lay_124 126 rfl rfl ?_
                  refine g_iast (c := 33) (n := 24) (r := 33) (o := 0) (i := n) X dX0_lay_126 127 rfl (by decide) rfl rfl (by omega) ?_
                  refine g_aload_n X dX0_lay_127 128 rfl rfl ?_
                  refine g_get (c := 29) (k := 6) (T := TX0) (sk := skX29) (v := .ref (kad K (34))) X wf_X0_24 inX0 dX0_lay_128 131 rfl (by decide) rfl rfl (by decide) rfl ?_
                  refine g_aload_n X dX0_lay_131 132 rfl rfl ?_
                  refine g_get (c := 29) (k := 1) (T := TX0) (sk := skX29) (v := .int (nI (n))) X wf_X0_35 inX0 dX0_lay_132 135 rfl (by decide) rfl rfl (by decide) (congrArg Value.int (hn)) ?_
                  refine g_iconst X dX0_lay_135 136 rfl (v := (nI (1))) rfl ?_
                  refine g_zast (c := 34) (n := 24) (r := 34) (o := 0) (i := n) (w := (nI (1))) X dX0_lay_136 137 rfl (by decide) rfl rfl (by omega) rfl ?_
                  refine g_aload_n X dX0_lay_137 138 rfl rfl ?_
                  refine g_get (c := 29) (k := 7) (T := TX0) (sk := skX29) (v := .ref (kad K (35))) X wf_X0_28 inX0 dX0_lay_138 141 rfl (by decide) rfl rfl (by decide) rfl ?_
                  refine g_iload_n X dX0_lay_141 142 rfl rfl ?_
                  refine g_dup2 X dX0_lay_142 143 rfl rfl rfl ?_
                  refine g_iald (c := 35) (n := 24) (r := 35) (o := 0) (i := a0) (v := (h 35 a0)) X dX0_lay_143 144 rfl (by decide) rfl rfl (by omega) rfl ?_
                  refine g_iconst X dX0_lay_144 145 rfl (v := (nI (1))) rfl ?_
                  refine g_iadd X (v := (h 35 a0 + nI 1)) dX0_lay_145 146 rfl rfl ?_
                  refine g_iast (c := 35) (n := 24) (r := 35) (o := 0) (i := a0) X dX0_lay_146 147 rfl (by decide) rfl rfl (by omega) ?_
                  refine g_aload_n X dX0_lay_147 148 rfl rfl ?_
                  refine g_get (c := 29) (k := 7) (T := TX0) (sk := skX29) (v := .ref (kad K (35))) X wf_X0_28 inX0 dX0_lay_148 151 rfl (by decide) rfl rfl (by decide) rfl ?_
                  refine g_iload_n X dX0_lay_151 152 rfl rfl ?_
                  refine g_dup2 X dX0_lay_152 153 rfl rfl rfl ?_
                  refine g_iald (c := 35) (n := 24) (r := 35) (o := 0) (i := b0) (v := (upd (h 35) a0 (h 35 a0 + nI 1) b0)) X dX0_lay_153 154 rfl (by decide) rfl rfl (by omega) rfl ?_
                  refine g_iconst X dX0_lay_154 155 rfl (v := (nI (1))) rfl ?_
                  refine g_iadd X (v := (upd (h 35) a0 (h 35 a0 + nI 1) b0 + nI 1)) dX0_lay_155 156 rfl rfl ?_
                  refine g_iast (c := 35) (n := 24) (r := 35) (o := 0) (i := b0) X dX0_lay_156 157 rfl (by decide) rfl rfl (by omega) ?_
                  refine g_aload_n X dX0_lay_157 158 rfl rfl ?_
                  refine g_dup X dX0_lay_158 159 rfl rfl ?_
                  refine g_get (c := 29) (k := 1) (T := TX0) (sk := skX29) (v := .int (nI (n))) X wf_X0_35 inX0 dX0_lay_159 162 rfl (by decide) rfl rfl (by decide) (congrArg Value.int (hn)) ?_
                  refine g_iconst X dX0_lay_162 163 rfl (v := (nI (1))) rfl ?_
                  refine g_iadd X (v := (nI (n + 1))) dX0_lay_163 164 rfl (nI_add n 1) ?_
                  refine g_put (c := 29) (k := 1) (T := TX0) (sk := skX29) X wf_X0_35 inX0 tyX0_ok nmX0 dX0_lay_164 167 rfl (by decide) rfl rfl (by decide) rfl rfl rfl ?_
                  refine g_aload_n X dX0_lay_167 168 rfl rfl ?_
                  refine g_get (c := 29) (k := 1) (T := TX0) (sk := skX29) (v := .int (nI (n + 1))) X wf_X0_35 inX0 dX0_lay_168 171 rfl (by decide) rfl rfl (by decide) rfl ?_
                  refine g_iconst X dX0_lay_171 172 rfl (v := (nI (1))) rfl ?_
                  refine g_isub X (v := (nI (n))) dX0_lay_172 173 rfl (nI_dec n) ?_
                  refine g_iret (h := (mup (mup (mup (mup (mup (mup (mup (mup h 30 n (nI (f0))) 31 n (nI (a0))) 32 n (nI (b0))) 33 n (nI (t0))) 34 n (nI (1))) 35 a0 (h 35 a0 + nI 1)) 35 b0 (upd (h 35) a0 (h 35 a0 + nI 1) b0 + nI 1)) 29 1 (nI (n + 1)))) (v := (nI (n))) X Z dX0_lay_173 ?_
                  have g9 : ¬ fullS (h 35) (nI a0) (nI b0) := by rw [fullS, ta9, tb9]; omega
                  exact ⟨((if_pos ok9).trans ((if_neg g9).trans (if_neg (by omega)))).symm, ((if_pos ⟨ok9, g9, by omega⟩).trans (by rw [layMX, ta9, tb9]; exact lay_mem h n a0 b0 _ _ _ _)).symm⟩
                · skip
                  refine g_bipush X dX0_lay_83 85 rfl (v := (zI (-3))) rfl ?_
                  refine g_iret (h := h) (v := (zI (-3))) X Z dX0_lay_85 ?_
                  have g9 : ¬ fullS (h 35) (nI a0) (nI b0) := by rw [fullS, ta9, tb9]; omega
                  exact ⟨((if_pos ok9).trans ((if_neg g9).trans (if_pos (by omega)))).symm, (if_neg (fun z => by have := z.2.2; omega)).symm⟩
              · skip
                refine g_bipush X dX0_lay_71 73 rfl (v := (zI (-2))) rfl ?_
                refine g_iret (h := h) (v := (zI (-2))) X Z dX0_lay_73 ?_
                have g9 : fullS (h 35) (nI a0) (nI b0) := Or.inr (by rw [tb9]; omega)
                exact ⟨((if_pos ok9).trans (if_pos g9)).symm, (if_neg (fun z => z.2.1 g9)).symm⟩
          · skip
            refine g_iconst X dX0_lay_49 50 rfl (v := (zI (-1))) rfl ?_
            refine g_iret (h := h) (v := (zI (-1))) X Z dX0_lay_50 ?_
            exact ⟨(if_neg (fun z => f46 z.2.2.2.2)).symm, (if_neg (fun z => f46 z.1.2.2.2.2)).symm⟩
theorem mrow_id_f (h : Mem) (c j : Nat) : mup h c j (h c j) = h := by
  unfold mup
  rw [upd_id, mrow_id]
theorem kf_gen (h : Mem) (F F' : Nat → Int32) (a b : Nat) (v w x y : Int32) (e : upd (upd F a v) b w = F') : mup (mup (mup (mup (mrow h 35 F) 29 1 x) 29 1 y) 35 a v) 35 b w = mup (mrow h 35 F') 29 1 y := by
  subst e
  funext c j
  by_cases h1 : c = 35
  · subst h1
    simp [mup, mrow, upd]
  · by_cases h2 : c = 29
    · subst h2
      simp only [mup, mrow, upd]
      by_cases hj : j = 1 <;> simp [hj, upd]
    · simp [mup, mrow, h1, h2]
def kfM (h : Mem) (s : Nat) : Mem := mup (mrow h 35 (sdF (h 31) (h 32) (h 35) s)) 29 1 (nI s)
theorem kf_step (h : Mem) (s n : Nat) {q m : Nat} (hs : 0 < s ∧ s ≤ n) (hq : q ≤ 24) (hc : coilsOK q m n (h 30) (h 31) (h 32) (h 33) (h 34)) :
    mup (mup (mup (mup (mrow h 35 (sdF (h 31) (h 32) (h 35) s)) 29 1 (nI s)) 29 1 (nI (s - 1))) 35 (tn (h 31 (s - 1))) (sdF (h 31) (h 32) (h 35) s (tn (h 31 (s - 1))) - nI 1)) 35 (tn (h 32 (s - 1))) (upd (sdF (h 31) (h 32) (h 35) s) (tn (h 31 (s - 1))) (sdF (h 31) (h 32) (h 35) s (tn (h 31 (s - 1))) - nI 1) (tn (h 32 (s - 1))) - nI 1) = mup (mrow h 35 (sdF (h 31) (h 32) (h 35) (s - 1))) 29 1 (nI (s - 1)) := by
  obtain ⟨s, rfl⟩ : ∃ t, s = t + 1 := ⟨s - 1, by omega⟩
  have hk := hc s (by omega)
  rw [Nat.add_sub_cancel]
  exact kf_gen h _ _ _ _ _ _ _ _ (sd_back hq hk.ci.2 hk.co.2 hk.ne)
set_option maxHeartbeats 1000000 in
set_option maxRecDepth 100000 in
theorem c_X0_keepFirst (h : Mem) (q m k : Nat) (n : Nat) (hn : h 29 1 = nI n) (hn2 : n ≤ 24) (hq2 : q ≤ 24) (hc : coilsOK q m n (h 30) (h 31) (h 32) (h 33) (h 34)) (hsd : ∀ j, j < 24 → h 35 j = nI (cntS (h 31) (h 32) n j)) (hk : k ≤ n) : cV 69 XL yX0_keepFirst cX0_keepFirst 2 0 0 (fun ad => [.ref (ad (29)), .int (nI (k))]) h (fun h2 => h2 = kfM h k) := by
  refine cV_of XLW (by decide +kernel) (fun ad => Nat.le_of_ble_eq_true rfl) ?_
  intro K X Z
  show G 69 XL 2 K h 0 [(0, .ref (kad K (29))), (1, .int (nI (k)))] []
  have lp0 : ∀ (fu : Nat) (s : Nat) (hs : s ≤ n) (hks : k ≤ s), s < fu → G 69 XL 2 K (mup (mrow h 35 (sdF (h 31) (h 32) (h 35) s)) 29 1 (nI (s))) 0 [(0, .ref (kad K (29))), (1, .int (nI (k)))] [] := by
    intro fu
    induction fu with
    | zero => intro s hs hks hm; exact absurd hm (Nat.not_lt_zero _)
    | succ fu ih0 =>
      intro s hs hks hm0
      refine g_aload_n X dX0_keepFirst_0 1 rfl rfl ?_
      refine g_get (c := 29) (k := 1) (T := TX0) (sk := skX29) (v := .int (nI (s))) X wf_X0_35 inX0 dX0_keepFirst_1 4 rfl (by decide) rfl rfl (by decide) rfl ?_
      refine g_iload_n X dX0_keepFirst_4 5 rfl rfl ?_
      refine g_icmp_le X ((s : Nat) : Int) ((k : Nat) : Int) dX0_keepFirst_5 57 (by decide) 8 rfl (nI_toInt (by omega)) (nI_toInt (by omega)) (fun t5 => ?_) (fun f5 => ?_)
      · skip
        refine g_vret (h := (mup (mrow h 35 (sdF (h 31) (h 32) (h 35) s)) 29 1 (nI (s)))) X Z dX0_keepFirst_57 ?_
        exact by rw [show s = k from by omega]; rfl
      · skip
        refine g_aload_n X dX0_keepFirst_8 9 rfl rfl ?_
        refine g_dup X dX0_keepFirst_9 10 rfl rfl ?_
        refine g_get (c := 29) (k := 1) (T := TX0) (sk := skX29) (v := .int (nI (s))) X wf_X0_35 inX0 dX0_keepFirst_10 13 rfl (by decide) rfl rfl (by decide) rfl ?_
        refine g_iconst X dX0_keepFirst_13 14 rfl (v := (nI (1))) rfl ?_
        refine g_isub X (v := (nI (s - 1))) dX0_keepFirst_14 15 rfl (pk_sub (by omega)) ?_
        refine g_put (c := 29) (k := 1) (T := TX0) (sk := skX29) X wf_X0_35 inX0 tyX0_ok nmX0 dX0_keepFirst_15 18 rfl (by decide) rfl rfl (by decide) rfl rfl rfl ?_
        have hi1 := (hc (s - 1) (by omega)).ci.2
        have hi2 := (hc (s - 1) (by omega)).co.2
        refine g_aload_n X dX0_keepFirst_18 19 rfl rfl ?_
        refine g_get (c := 29) (k := 7) (T := TX0) (sk := skX29) (v := .ref (kad K (35))) X wf_X0_28 inX0 dX0_keepFirst_19 22 rfl (by decide) rfl rfl (by decide) rfl ?_
        refine g_aload_n X dX0_keepFirst_22 23 rfl rfl ?_
        refine g_get (c := 29) (k := 3) (T := TX0) (sk := skX29) (v := .ref (kad K (31))) X wf_X0_15 inX0 dX0_keepFirst_23 26 rfl (by decide) rfl rfl (by decide) rfl ?_
        refine g_aload_n X dX0_keepFirst_26 27 rfl rfl ?_
        refine g_get (c := 29) (k := 1) (T := TX0) (sk := skX29) (v := .int (nI (s - 1))) X wf_X0_35 inX0 dX0_keepFirst_27 30 rfl (by decide) rfl rfl (by decide) rfl ?_
        refine g_iald (c := 31) (n := 24) (r := 31) (o := 0) (i := s - 1) (v := (nI (tn (h 31 (s - 1))))) X dX0_keepFirst_30 31 rfl (by decide) rfl rfl (by omega) ((hc (s - 1) (by omega)).ci.1) ?_
        refine g_dup2 X dX0_keepFirst_31 32 rfl rfl rfl ?_
        refine g_iald (c := 35) (n := 24) (r := 35) (o := 0) (i := tn (h 31 (s - 1))) (v := (sdF (h 31) (h 32) (h 35) s (tn (h 31 (s - 1))))) X dX0_keepFirst_32 33 rfl (by decide) rfl rfl (by omega) rfl ?_
        refine g_iconst X dX0_keepFirst_33 34 rfl (v := (nI (1))) rfl ?_
        refine g_isub X (v := ((sdF (h 31) (h 32) (h 35) s (tn (h 31 (s - 1)))) - (nI (1)))) dX0_keepFirst_34 35 rfl rfl ?_
        refine g_iast (c := 35) (n := 24) (r := 35) (o := 0) (i := tn (h 31 (s - 1))) X dX0_keepFirst_35 36 rfl (by decide) rfl rfl (by omega) ?_
        refine g_aload_n X dX0_keepFirst_36 37 rfl rfl ?_
        refine g_get (c := 29) (k := 7) (T := TX0) (sk := skX29) (v := .ref (kad K (35))) X wf_X0_28 inX0 dX0_keepFirst_37 40 rfl (by decide) rfl rfl (by decide) rfl ?_
        refine g_aload_n X dX0_keepFirst_40 41 rfl rfl ?_
        refine g_get (c := 29) (k := 4) (T := TX0) (sk := skX29) (v := .ref (kad K (32))) X wf_X0_18 inX0 dX0_keepFirst_41 44 rfl (by decide) rfl rfl (by decide) rfl ?_
        refine g_aload_n X dX0_keepFirst_44 45 rfl rfl ?_
        refine g_get (c := 29) (k := 1) (T := TX0) (sk := skX29) (v := .int (nI (s - 1))) X wf_X0_35 inX0 dX0_keepFirst_45 48 rfl (by decide) rfl rfl (by decide) rfl ?_
        refine g_iald (c := 32) (n := 24) (r := 32) (o := 0) (i := s - 1) (v := (nI (tn (h 32 (s - 1))))) X dX0_keepFirst_48 49 rfl (by decide) rfl rfl (by omega) ((hc (s - 1) (by omega)).co.1) ?_
        refine g_dup2 X dX0_keepFirst_49 50 rfl rfl rfl ?_
        refine g_iald (c := 35) (n := 24) (r := 35) (o := 0) (i := tn (h 32 (s - 1))) (v := (upd (sdF (h 31) (h 32) (h 35) s) (tn (h 31 (s - 1))) (sdF (h 31) (h 32) (h 35) s (tn (h 31 (s - 1))) - nI 1) (tn (h 32 (s - 1))))) X dX0_keepFirst_50 51 rfl (by decide) rfl rfl (by omega) rfl ?_
        refine g_iconst X dX0_keepFirst_51 52 rfl (v := (nI (1))) rfl ?_
        refine g_isub X (v := ((upd (sdF (h 31) (h 32) (h 35) s) (tn (h 31 (s - 1))) (sdF (h 31) (h 32) (h 35) s (tn (h 31 (s - 1))) - nI 1) (tn (h 32 (s - 1)))) - (nI (1)))) dX0_keepFirst_52 53 rfl rfl ?_
        refine g_iast (c := 35) (n := 24) (r := 35) (o := 0) (i := tn (h 32 (s - 1))) X dX0_keepFirst_53 54 rfl (by decide) rfl rfl (by omega) ?_
        refine g_goto X dX0_keepFirst_54 0 (by decide) ?_
        skip
        refine g_mem (h := (mup (mup (mup (mup (mrow h 35 (sdF (h 31) (h 32) (h 35) s)) 29 1 (nI (s))) 29 1 (nI (s - 1))) 35 (tn (h 31 (s - 1))) ((sdF (h 31) (h 32) (h 35) s (tn (h 31 (s - 1)))) - (nI (1)))) 35 (tn (h 32 (s - 1))) ((upd (sdF (h 31) (h 32) (h 35) s) (tn (h 31 (s - 1))) (sdF (h 31) (h 32) (h 35) s (tn (h 31 (s - 1))) - nI 1) (tn (h 32 (s - 1)))) - (nI (1))))) (h' := (mup (mrow h 35 (sdF (h 31) (h 32) (h 35) (s - 1))) 29 1 (nI ((s - 1))))) (kf_step h s _ (by omega) hq2 hc) ?_
        exact ih0 (s - 1) (by omega) (by omega) (by omega)
  skip
  refine g_mem (h := h) (h' := (mup (mrow h 35 (sdF (h 31) (h 32) (h 35) n)) 29 1 (nI (n)))) (by rw [sdF_id hsd, mrow_id, ← hn]; exact (mrow_id_f h 29 1).symm) ?_
  exact lp0 _ n (Nat.le_refl _) hk (Nat.lt_succ_self _)
