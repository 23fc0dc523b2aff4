set_option maxHeartbeats 1000000 in
set_option maxRecDepth 100000 in
theorem c_X6_setToNought_38 (h : Mem) (f : Nat) (hf : f < 3)  : cV 69 XL yX6_setToNought cX6_setToNought 2 0 0 (fun ad => [.ref (ad (38 + f))]) h (fun h2 => h2 = mrow h 38 (gput (h 38) (24 * f) 24 zF)) := by
  refine cV_of XLW (by decide +kernel) (fun ad => Nat.le_of_ble_eq_true rfl) ?_
  intro K X Z
  show G 69 XL 2 K h 0 [(0, .ref (kad K (38 + f)))] []
  refine g_iconst X dX6_setToNought_0 1 rfl (v := (nI (0))) rfl ?_
  refine g_istore_n X (lv' := [(0, .ref (kad K (38 + f))), (1, .int (nI 0))]) dX6_setToNought_1 2 rfl (by decide) rfl rfl ?_
  have lp2 : ∀ (fu : Nat) (k : Nat) (hk : k ≤ 24), 24 - k < fu → G 69 XL 2 K (mrow h 38 (gput (h 38) (24 * f) 24 (zrK (grd (h 38) (24 * f)) k))) 2 [(0, .ref (kad K (38 + f))), (1, .int (nI (k)))] [] := by
    intro fu
    induction fu with
    | zero => intro k hk hm; exact absurd hm (Nat.not_lt_zero _)
    | succ fu ih2 =>
      intro k hk hm2
      refine g_iload_n X dX6_setToNought_2 3 rfl rfl ?_
      refine g_aload_n X dX6_setToNought_3 4 rfl rfl ?_
      refine g_alen (c := (38 + f)) (n := 24) X dX6_setToNought_4 5 rfl (by omega) (XL_38 hf) ?_
      refine g_icmp_ge X ((k : Nat) : Int) 24 dX6_setToNought_5 18 (by decide) 8 rfl (nI_toInt (by omega)) rfl (fun t5 => ?_) (fun f5 => ?_)
      · skip
        refine g_vret (h := (mrow h 38 (gput (h 38) (24 * f) 24 (zrK (grd (h 38) (24 * f)) k)))) X Z dX6_setToNought_18 ?_
        exact congrArg (mrow h 38) (gput_congr (fun i hi => if_pos (by omega)))
      · skip
        refine g_aload_n X dX6_setToNought_8 9 rfl rfl ?_
        refine g_iload_n X dX6_setToNought_9 10 rfl rfl ?_
        refine g_iconst X dX6_setToNought_10 11 rfl (v := (nI (0))) rfl ?_
        refine g_iast (c := (38 + f)) (n := 24) (r := 38) (o := 24 * f) (i := k) X dX6_setToNought_11 12 rfl (by omega) (XL_38 hf) rfl (by omega) ?_
        refine g_iinc X (v := (nI (k + 1))) (lv' := [(0, .ref (kad K (38 + f))), (1, .int (nI (k + 1)))]) dX6_setToNought_12 15 rfl (by decide) rfl (n_inc k 1) rfl rfl ?_
        refine g_goto X dX6_setToNought_15 2 (by decide) ?_
        skip
        refine g_mem (h := (mup (mrow h 38 (gput (h 38) (24 * f) 24 (zrK (grd (h 38) (24 * f)) k))) 38 (k + 24 * f) (nI (0)))) (h' := (mrow h 38 (gput (h 38) (24 * f) 24 (zrK (grd (h 38) (24 * f)) (k + 1))))) (gput_up (by omega) (fun i0 _ => congrFun (zrK_s (grd (h 38) (24 * f)) k) i0)) ?_
        exact ih2 (k + 1) (by omega) (by omega)
  skip
  refine g_mem (h := h) (h' := (mrow h 38 (gput (h 38) (24 * f) 24 (zrK (grd (h 38) (24 * f)) 0)))) (by rw [zrK_0, gput_row]) ?_
  exact lp2 _ 0 (by omega) (Nat.lt_succ_self _)
set_option maxHeartbeats 1000000 in
set_option maxRecDepth 100000 in
theorem c_X6_setToNought_41 (h : Mem)  : cV 69 XL yX6_setToNought cX6_setToNought 2 0 0 (fun ad => [.ref (ad (41))]) h (fun h2 => h2 = mrow h 41 (gput (h 41) (0) 24 zF)) := by
  refine cV_of XLW (by decide +kernel) (fun ad => Nat.le_of_ble_eq_true rfl) ?_
  intro K X Z
  show G 69 XL 2 K h 0 [(0, .ref (kad K (41)))] []
  refine g_iconst X dX6_setToNought_0 1 rfl (v := (nI (0))) rfl ?_
  refine g_istore_n X (lv' := [(0, .ref (kad K (41))), (1, .int (nI 0))]) dX6_setToNought_1 2 rfl (by decide) rfl rfl ?_
  have lp2 : ∀ (fu : Nat) (k : Nat) (hk : k ≤ 24), 24 - k < fu → G 69 XL 2 K (mrow h 41 (gput (h 41) (0) 24 (zrK (grd (h 41) (0)) k))) 2 [(0, .ref (kad K (41))), (1, .int (nI (k)))] [] := by
    intro fu
    induction fu with
    | zero => intro k hk hm; exact absurd hm (Nat.not_lt_zero _)
    | succ fu ih2 =>
      intro k hk hm2
      refine g_iload_n X dX6_setToNought_2 3 rfl rfl ?_
      refine g_aload_n X dX6_setToNought_3 4 rfl rfl ?_
      refine g_alen (c := 41) (n := 24) X dX6_setToNought_4 5 rfl (by decide) rfl ?_
      refine g_icmp_ge X ((k : Nat) : Int) 24 dX6_setToNought_5 18 (by decide) 8 rfl (nI_toInt (by omega)) rfl (fun t5 => ?_) (fun f5 => ?_)
      · skip
        refine g_vret (h := (mrow h 41 (gput (h 41) (0) 24 (zrK (grd (h 41) (0)) k)))) X Z dX6_setToNought_18 ?_
        exact congrArg (mrow h 41) (gput_congr (fun i hi => if_pos (by omega)))
      · skip
        refine g_aload_n X dX6_setToNought_8 9 rfl rfl ?_
        refine g_iload_n X dX6_setToNought_9 10 rfl rfl ?_
        refine g_iconst X dX6_setToNought_10 11 rfl (v := (nI (0))) rfl ?_
        refine g_iast (c := 41) (n := 24) (r := 41) (o := 0) (i := k) X dX6_setToNought_11 12 rfl (by decide) rfl rfl (by omega) ?_
        refine g_iinc X (v := (nI (k + 1))) (lv' := [(0, .ref (kad K (41))), (1, .int (nI (k + 1)))]) dX6_setToNought_12 15 rfl (by decide) rfl (n_inc k 1) rfl rfl ?_
        refine g_goto X dX6_setToNought_15 2 (by decide) ?_
        skip
        refine g_mem (h := (mup (mrow h 41 (gput (h 41) (0) 24 (zrK (grd (h 41) (0)) k))) 41 k (nI (0)))) (h' := (mrow h 41 (gput (h 41) (0) 24 (zrK (grd (h 41) (0)) (k + 1))))) (gput_up (by omega) (fun i0 _ => congrFun (zrK_s (grd (h 41) (0)) k) i0)) ?_
        exact ih2 (k + 1) (by omega) (by omega)
  skip
  refine g_mem (h := h) (h' := (mrow h 41 (gput (h 41) (0) 24 (zrK (grd (h 41) (0)) 0)))) (by rw [zrK_0, gput_row]) ?_
  exact lp2 _ 0 (by omega) (Nat.lt_succ_self _)
set_option maxHeartbeats 1000000 in
set_option maxRecDepth 100000 in
theorem c_X6_setToNought_42 (h : Mem)  : cV 69 XL yX6_setToNought cX6_setToNought 2 0 0 (fun ad => [.ref (ad (42))]) h (fun h2 => h2 = mrow h 42 (gput (h 42) (0) 3 zF)) := by
  refine cV_of XLW (by decide +kernel) (fun ad => Nat.le_of_ble_eq_true rfl) ?_
  intro K X Z
  show G 69 XL 2 K h 0 [(0, .ref (kad K (42)))] []
  refine g_iconst X dX6_setToNought_0 1 rfl (v := (nI (0))) rfl ?_
  refine g_istore_n X (lv' := [(0, .ref (kad K (42))), (1, .int (nI 0))]) dX6_setToNought_1 2 rfl (by decide) rfl rfl ?_
  have lp2 : ∀ (fu : Nat) (k : Nat) (hk : k ≤ 3), 3 - k < fu → G 69 XL 2 K (mrow h 42 (gput (h 42) (0) 3 (zrK (grd (h 42) (0)) k))) 2 [(0, .ref (kad K (42))), (1, .int (nI (k)))] [] := by
    intro fu
    induction fu with
    | zero => intro k hk hm; exact absurd hm (Nat.not_lt_zero _)
    | succ fu ih2 =>
      intro k hk hm2
      refine g_iload_n X dX6_setToNought_2 3 rfl rfl ?_
      refine g_aload_n X dX6_setToNought_3 4 rfl rfl ?_
      refine g_alen (c := 42) (n := 3) X dX6_setToNought_4 5 rfl (by decide) rfl ?_
      refine g_icmp_ge X ((k : Nat) : Int) 3 dX6_setToNought_5 18 (by decide) 8 rfl (nI_toInt (by omega)) rfl (fun t5 => ?_) (fun f5 => ?_)
      · skip
        refine g_vret (h := (mrow h 42 (gput (h 42) (0) 3 (zrK (grd (h 42) (0)) k)))) X Z dX6_setToNought_18 ?_
        exact congrArg (mrow h 42) (gput_congr (fun i hi => if_pos (by omega)))
      · skip
        refine g_aload_n X dX6_setToNought_8 9 rfl rfl ?_
        refine g_iload_n X dX6_setToNought_9 10 rfl rfl ?_
        refine g_iconst X dX6_setToNought_10 11 rfl (v := (nI (0))) rfl ?_
        refine g_iast (c := 42) (n := 3) (r := 42) (o := 0) (i := k) X dX6_setToNought_11 12 rfl (by decide) rfl rfl (by omega) ?_
        refine g_iinc X (v := (nI (k + 1))) (lv' := [(0, .ref (kad K (42))), (1, .int (nI (k + 1)))]) dX6_setToNought_12 15 rfl (by decide) rfl (n_inc k 1) rfl rfl ?_
        refine g_goto X dX6_setToNought_15 2 (by decide) ?_
        skip
        refine g_mem (h := (mup (mrow h 42 (gput (h 42) (0) 3 (zrK (grd (h 42) (0)) k))) 42 k (nI (0)))) (h' := (mrow h 42 (gput (h 42) (0) 3 (zrK (grd (h 42) (0)) (k + 1))))) (gput_up (by omega) (fun i0 _ => congrFun (zrK_s (grd (h 42) (0)) k) i0)) ?_
        exact ih2 (k + 1) (by omega) (by omega)
  skip
  refine g_mem (h := h) (h' := (mrow h 42 (gput (h 42) (0) 3 (zrK (grd (h 42) (0)) 0)))) (by rw [zrK_0, gput_row]) ?_
  exact lp2 _ 0 (by omega) (Nat.lt_succ_self _)
theorem ad2_x (h : Mem) (q p m n d : Nat) (C : XC h q p m n d) (tone k : Nat) (t : Int32) (ht1 : 1 ≤ tone) (ht2 : tone ≤ 47) (hk : k < n) : cV 69 XL yX3_add cX3_add 6 1 22 (fun ad => [.ref (ad 2), .ref (ad (38 + (tn (h 30 k)))), .int (nI (tone * tn (h 32 k))), .int (-(t * nI (tn (h 33 k))))]) (mrow h 38 (gput (h 38) (24 * (tn (h 30 k))) 24 (addF d (grd (h 38) (24 * (tn (h 30 k)))) (grd (h 5) (24 * (tone * tn (h 31 k) % q))) (t * nI (tn (h 33 k)))))) (fun h2 => h2 = mrow h 38 (gput (h 38) (24 * (tn (h 30 k))) 24 (acF d q (h 5) (tone * tn (h 31 k)) (tone * tn (h 32 k)) (t * nI (tn (h 33 k))) (grd (h 38) (24 * (tn (h 30 k))))))) := by
  obtain ⟨hq, hp, hm, hq1, hq2, hp1, hp2, hm1, hm2, hn, hn2, hc, hq0, hd, hd1, hd2⟩ := id C
  have hf9 : tn (h 30 k) < 3 := by have := (hc k hk).ph.2; omega
  have hb9 : tone * tn (h 32 k) ≤ 47 * 23 := Nat.mul_le_mul ht2 (by have := (hc k hk).co.2; omega)
  have e := c_X3_add_38 (mrow h 38 (gput (h 38) (24 * (tn (h 30 k))) 24 (addF d (grd (h 38) (24 * (tn (h 30 k)))) (grd (h 5) (24 * (tone * tn (h 31 k) % q))) (t * nI (tn (h 33 k)))))) (tn (h 30 k)) hf9 (tone * tn (h 32 k)) q (-(t * nI (tn (h 33 k)))) (by omega) (by exact hq0) hq1 hq2 d (by exact hd) hd1 hd2
  rw [ac_mem] at e
  exact e
set_option maxHeartbeats 1000000 in
set_option maxRecDepth 100000 in
theorem c_X6_addCoil (h : Mem) (q p m n d : Nat) (C : XC h q p m n d) (tone k : Nat) (t : Int32) (ht : h 36 3 = nI tone) (ht1 : 1 ≤ tone) (ht2 : tone ≤ 47) (hk : k < n) : cV 69 XL yX6_addCoil cX6_addCoil 5 2 47 (fun ad => [.ref (ad (36)), .int (nI (k)), .int (t)]) h (fun h2 => h2 = mrow h 38 (gput (h 38) (24 * (tn (h 30 k))) 24 (acF d q (h 5) (tone * tn (h 31 k)) (tone * tn (h 32 k)) (t * nI (tn (h 33 k))) (grd (h 38) (24 * (tn (h 30 k))))))) := by
  refine cV_of XLW (by decide +kernel) (fun ad => Nat.le_of_ble_eq_true rfl) ?_
  intro K X Z
  obtain ⟨hq, hp, hm, hq1, hq2, hp1, hp2, hm1, hm2, hn, hn2, hc, hq0, hd, hd1, hd2⟩ := id C
  have hf9 : tn (h 30 k) < 3 := by have := (hc k hk).ph.2; omega
  have ha9 : tone * tn (h 31 k) ≤ 47 * 23 := Nat.mul_le_mul ht2 (by have := (hc k hk).ci.2; omega)
  have hb9 : tone * tn (h 32 k) ≤ 47 * 23 := Nat.mul_le_mul ht2 (by have := (hc k hk).co.2; omega)
  show G 69 XL 5 K h 0 [(0, .ref (kad K (36))), (1, .int (nI (k))), (2, .int (t))] []
  refine g_aload_n X dX6_addCoil_0 1 rfl rfl ?_
  refine g_get (c := 36) (k := 4) (T := TX6) (sk := skX36) (v := .ref (kad K (37))) X wf_X6_11 inX6 dX6_addCoil_1 4 rfl (by decide) rfl rfl (by decide) rfl ?_
  refine g_aload_n X dX6_addCoil_4 5 rfl rfl ?_
  refine g_get (c := 36) (k := 2) (T := TX6) (sk := skX36) (v := .ref (kad K (29))) X wf_X6_31 inX6 dX6_addCoil_5 8 rfl (by decide) rfl rfl (by decide) rfl ?_
  refine g_get (c := 29) (k := 2) (T := TX0) (sk := skX29) (v := .ref (kad K (30))) X wf_X6_56 inX0 dX6_addCoil_8 11 rfl (by decide) rfl rfl (by decide) rfl ?_
  refine g_iload_n X dX6_addCoil_11 12 rfl rfl ?_
  refine g_iald (c := 30) (n := 24) (r := 30) (o := 0) (i := k) (v := (nI (tn (h 30 k)))) X dX6_addCoil_12 13 rfl (by decide) rfl rfl (by omega) ((hc k hk).ph.1) ?_
  refine g_aald (c := 37) (n := 3) (b := 38) (o := 0) (i := tn (h 30 k)) X dX6_addCoil_13 14 rfl (by decide) rfl rfl hf9 ?_
  refine g_astore_n X (lv' := [(0, .ref (kad K (36))), (1, .int (nI (k))), (2, .int (t)), (3, .ref (kad K (38 + (tn (h 30 k)))))]) dX6_addCoil_14 15 rfl (by decide) rfl rfl ?_
  refine g_iload_n X dX6_addCoil_15 16 rfl rfl ?_
  refine g_aload_n X dX6_addCoil_16 17 rfl rfl ?_
  refine g_get (c := 36) (k := 2) (T := TX6) (sk := skX36) (v := .ref (kad K (29))) X wf_X6_31 inX6 dX6_addCoil_17 20 rfl (by decide) rfl rfl (by decide) rfl ?_
  refine g_get (c := 29) (k := 5) (T := TX0) (sk := skX29) (v := .ref (kad K (33))) X wf_X6_59 inX0 dX6_addCoil_20 23 rfl (by decide) rfl rfl (by decide) rfl ?_
  refine g_iload_n X dX6_addCoil_23 24 rfl rfl ?_
  refine g_iald (c := 33) (n := 24) (r := 33) (o := 0) (i := k) (v := (nI (tn (h 33 k)))) X dX6_addCoil_24 25 rfl (by decide) rfl rfl (by omega) ((hc k hk).tu.1) ?_
  refine g_imul X (v := ((t) * (nI (tn (h 33 k))))) dX6_addCoil_25 26 rfl rfl ?_
  refine g_istore X (lv' := [(0, .ref (kad K (36))), (1, .int (nI (k))), (2, .int (t)), (3, .ref (kad K (38 + (tn (h 30 k))))), (4, .int ((t) * (nI (tn (h 33 k)))))]) dX6_addCoil_26 28 rfl (by decide) rfl rfl ?_
  refine g_aload_n X dX6_addCoil_28 29 rfl rfl ?_
  refine g_get (c := 36) (k := 1) (T := TX6) (sk := skX36) (v := .ref (kad K (2))) X wf_X6_27 inX6 dX6_addCoil_29 32 rfl (by decide) rfl rfl (by decide) rfl ?_
  refine g_aload_n X dX6_addCoil_32 33 rfl rfl ?_
  refine g_aload_n X dX6_addCoil_33 34 rfl rfl ?_
  refine g_get (c := 36) (k := 3) (T := TX6) (sk := skX36) (v := .int (nI (tone))) X wf_X6_35 inX6 dX6_addCoil_34 37 rfl (by decide) rfl rfl (by decide) (congrArg Value.int (ht)) ?_
  refine g_aload_n X dX6_addCoil_37 38 rfl rfl ?_
  refine g_get (c := 36) (k := 2) (T := TX6) (sk := skX36) (v := .ref (kad K (29))) X wf_X6_31 inX6 dX6_addCoil_38 41 rfl (by decide) rfl rfl (by decide) rfl ?_
  refine g_get (c := 29) (k := 3) (T := TX0) (sk := skX29) (v := .ref (kad K (31))) X wf_X6_62 inX0 dX6_addCoil_41 44 rfl (by decide) rfl rfl (by decide) rfl ?_
  refine g_iload_n X dX6_addCoil_44 45 rfl rfl ?_
  refine g_iald (c := 31) (n := 24) (r := 31) (o := 0) (i := k) (v := (nI (tn (h 31 k)))) X dX6_addCoil_45 46 rfl (by decide) rfl rfl (by omega) ((hc k hk).ci.1) ?_
  refine g_imul X (v := (nI (tone * (tn (h 31 k))))) dX6_addCoil_46 47 rfl (pk_mul tone (tn (h 31 k))) ?_
  refine g_iload X dX6_addCoil_47 49 rfl rfl ?_
  refine g_callVvx (st := []) (m2 := (mrow h 38 (gput (h 38) (24 * (tn (h 30 k))) 24 (addF d (grd (h 38) (24 * (tn (h 30 k)))) (grd (h 5) (24 * (tone * tn (h 31 k) % q))) (t * nI (tn (h 33 k))))))) X cw_X6_65 (c_X3_add_38 h (tn (h 30 k)) hf9 (tone * tn (h 31 k)) q (t * nI (tn (h 33 k))) (by omega) hq0 hq1 hq2 d hd hd1 hd2) dX6_addCoil_49 52 rfl (by decide) rfl rfl rfl rfl rfl (by decide) (Nat.le_of_ble_eq_true rfl) ?_
  refine g_aload_n X dX6_addCoil_52 53 rfl rfl ?_
  refine g_get (c := 36) (k := 1) (T := TX6) (sk := skX36) (v := .ref (kad K (2))) X wf_X6_27 inX6 dX6_addCoil_53 56 rfl (by decide) rfl rfl (by decide) rfl ?_
  refine g_aload_n X dX6_addCoil_56 57 rfl rfl ?_
  refine g_aload_n X dX6_addCoil_57 58 rfl rfl ?_
  refine g_get (c := 36) (k := 3) (T := TX6) (sk := skX36) (v := .int (nI (tone))) X wf_X6_35 inX6 dX6_addCoil_58 61 rfl (by decide) rfl rfl (by decide) (congrArg Value.int (ht)) ?_
  refine g_aload_n X dX6_addCoil_61 62 rfl rfl ?_
  refine g_get (c := 36) (k := 2) (T := TX6) (sk := skX36) (v := .ref (kad K (29))) X wf_X6_31 inX6 dX6_addCoil_62 65 rfl (by decide) rfl rfl (by decide) rfl ?_
  refine g_get (c := 29) (k := 4) (T := TX0) (sk := skX29) (v := .ref (kad K (32))) X wf_X6_71 inX0 dX6_addCoil_65 68 rfl (by decide) rfl rfl (by decide) rfl ?_
  refine g_iload_n X dX6_addCoil_68 69 rfl rfl ?_
  refine g_iald (c := 32) (n := 24) (r := 32) (o := 0) (i := k) (v := (nI (tn (h 32 k)))) X dX6_addCoil_69 70 rfl (by decide) rfl rfl (by omega) ((hc k hk).co.1) ?_
  refine g_imul X (v := (nI (tone * (tn (h 32 k))))) dX6_addCoil_70 71 rfl (pk_mul tone (tn (h 32 k))) ?_
  refine g_iload X dX6_addCoil_71 73 rfl rfl ?_
  refine g_ineg X (v := (-((t) * (nI (tn (h 33 k)))))) dX6_addCoil_73 74 rfl rfl ?_
  refine g_callVvx (st := []) (m2 := (mrow h 38 (gput (h 38) (24 * (tn (h 30 k))) 24 (acF d q (h 5) (tone * tn (h 31 k)) (tone * tn (h 32 k)) (t * nI (tn (h 33 k))) (grd (h 38) (24 * (tn (h 30 k)))))))) X cw_X6_65 (ad2_x h q p m n d C tone k t ht1 ht2 hk) dX6_addCoil_74 77 rfl (by decide) rfl rfl rfl rfl rfl (by decide) (Nat.le_of_ble_eq_true rfl) ?_
  refine g_vret (h := (mrow h 38 (gput (h 38) (24 * (tn (h 30 k))) 24 (acF d q (h 5) (tone * tn (h 31 k)) (tone * tn (h 32 k)) (t * nI (tn (h 33 k))) (grd (h 38) (24 * (tn (h 30 k)))))))) X Z dX6_addCoil_77 ?_
  exact rfl
set_option maxHeartbeats 1000000 in
set_option maxRecDepth 100000 in
theorem c_X6_gather (h : Mem) (q p m n d : Nat) (C : XC h q p m n d) (tone : Nat) (ht1 : 1 ≤ tone) (ht2 : tone ≤ 47) : cV 69 XL yX6_gather cX6_gather 3 3 71 (fun ad => [.ref (ad (36)), .int (nI (tone))]) h (fun h2 => h2 = mrow (mup h 36 3 (nI tone)) 38 (sumG (h 38) (fun b => wvS d q tone (h 5) (h 30) (h 31) (h 32) (h 33) (h 34) b n))) := by
  refine cV_of XLW (by decide +kernel) (fun ad => Nat.le_of_ble_eq_true rfl) ?_
  intro K X Z
  obtain ⟨hq, hp, hm, hq1, hq2, hp1, hp2, hm1, hm2, hn, hn2, hc, hq0, hd, hd1, hd2⟩ := id C
  show G 69 XL 3 K h 0 [(0, .ref (kad K (36))), (1, .int (nI (tone)))] []
  refine g_aload_n X dX6_gather_0 1 rfl rfl ?_
  refine g_iload_n X dX6_gather_1 2 rfl rfl ?_
  refine g_put (c := 36) (k := 3) (T := TX6) (sk := skX36) X wf_X6_35 inX6 tyX6_ok nmX6 dX6_gather_2 5 rfl (by decide) rfl rfl (by decide) rfl rfl rfl ?_
  refine g_iconst X dX6_gather_5 6 rfl (v := (nI (0))) rfl ?_
  refine g_istore_n X (lv' := [(0, .ref (kad K (36))), (1, .int (nI (tone))), (2, .int (nI 0))]) dX6_gather_6 7 rfl (by decide) rfl rfl ?_
  have lp7 : ∀ (fu : Nat) (f : Nat) (hf : f ≤ 3), 3 - f < fu → G 69 XL 3 K (mrow (mup h 36 3 (nI (tone))) 38 (zG (h 38) f)) 7 [(0, .ref (kad K (36))), (1, .int (nI (tone))), (2, .int (nI (f)))] [] := by
    intro fu
    induction fu with
    | zero => intro f hf hm; exact absurd hm (Nat.not_lt_zero _)
    | succ fu ih7 =>
      intro f hf hm7
      refine g_iload_n X dX6_gather_7 8 rfl rfl ?_
      refine g_iconst X dX6_gather_8 9 rfl (v := (nI (3))) rfl ?_
      refine g_icmp_ge X ((f : Nat) : Int) 3 dX6_gather_9 27 (by decide) 12 rfl (nI_toInt (by omega)) rfl (fun t9 => ?_) (fun f9 => ?_)
      · skip
        refine g_iconst X dX6_gather_27 28 rfl (v := (nI (0))) rfl ?_
        refine g_istore_n X (lv' := [(0, .ref (kad K (36))), (1, .int (nI (tone))), (2, .int (nI 0))]) dX6_gather_28 29 rfl (by decide) rfl rfl ?_
        have lp29 : ∀ (fu : Nat) (k : Nat) (hk : k ≤ n), n - k < fu → G 69 XL 3 K (mrow (mup h 36 3 (nI (tone))) 38 (sumG (h 38) (fun b => wvS d q tone (h 5) (h 30) (h 31) (h 32) (h 33) (h 34) b k))) 29 [(0, .ref (kad K (36))), (1, .int (nI (tone))), (2, .int (nI (k)))] [] := by
          intro fu
          induction fu with
          | zero => intro k hk hm; exact absurd hm (Nat.not_lt_zero _)
          | succ fu ih29 =>
            intro k hk hm29
            refine g_iload_n X dX6_gather_29 30 rfl rfl ?_
            refine g_aload_n X dX6_gather_30 31 rfl rfl ?_
            refine g_get (c := 36) (k := 2) (T := TX6) (sk := skX36) (v := .ref (kad K (29))) X wf_X6_31 inX6 dX6_gather_31 34 rfl (by decide) rfl rfl (by decide) rfl ?_
            refine g_get (c := 29) (k := 1) (T := TX0) (sk := skX29) (v := .int (nI (n))) X wf_X6_43 inX0 dX6_gather_34 37 rfl (by decide) rfl rfl (by decide) (congrArg Value.int (hn)) ?_
            refine g_icmp_ge X ((k : Nat) : Int) ((n : Nat) : Int) dX6_gather_37 64 (by decide) 40 rfl (nI_toInt (by omega)) (nI_toInt (by omega)) (fun t37 => ?_) (fun f37 => ?_)
            · skip
              refine g_vret (h := (mrow (mup h 36 3 (nI (tone))) 38 (sumG (h 38) (fun b => wvS d q tone (h 5) (h 30) (h 31) (h 32) (h 33) (h 34) b k)))) X Z dX6_gather_64 ?_
              exact by rw [show k = n from by omega]
            · skip
              have hf9 : tn (h 30 k) < 3 := by have := (hc k (by omega)).ph.2; omega
              refine g_aload_n X dX6_gather_40 41 rfl rfl ?_
              refine g_get (c := 36) (k := 2) (T := TX6) (sk := skX36) (v := .ref (kad K (29))) X wf_X6_31 inX6 dX6_gather_41 44 rfl (by decide) rfl rfl (by decide) rfl ?_
              refine g_get (c := 29) (k := 6) (T := TX0) (sk := skX29) (v := .ref (kad K (34))) X wf_X6_48 inX0 dX6_gather_44 47 rfl (by decide) rfl rfl (by decide) rfl ?_
              refine g_iload_n X dX6_gather_47 48 rfl rfl ?_
              refine g_zald (c := 34) (n := 24) (r := 34) (o := 0) (i := k) (v := (bI (h 34 k = nI 1))) X dX6_gather_48 49 rfl (by decide) rfl rfl (by omega) (us_b (hc k (by omega)).us) ?_
              refine g_ifeq_B X dX6_gather_49 58 (by decide) 52 rfl (fun t49 => ?_) (fun f49 => ?_)
              · skip
                refine g_iinc X (v := (nI (k + 1))) (lv' := [(0, .ref (kad K (36))), (1, .int (nI (tone))), (2, .int (nI (k + 1)))]) dX6_gather_58 61 rfl (by decide) rfl (n_inc k 1) rfl rfl ?_
                refine g_goto X dX6_gather_61 29 (by decide) ?_
                skip
                refine g_mem (h := (mrow (mup h 36 3 (nI (tone))) 38 (sumG (h 38) (fun b => wvS d q tone (h 5) (h 30) (h 31) (h 32) (h 33) (h 34) b k)))) (h' := (mrow (mup h 36 3 (nI (tone))) 38 (sumG (h 38) (fun b => wvS d q tone (h 5) (h 30) (h 31) (h 32) (h 33) (h 34) b (k + 1))))) (by refine congrArg (mrow _ 38) (sumG_congr (fun f i _ _ => ?_)); rw [wvS, if_neg (fun z => t49 z.1)]) ?_
                exact ih29 (k + 1) (by omega) (by omega)
              · skip
                refine g_aload_n X dX6_gather_52 53 rfl rfl ?_
                refine g_iload_n X dX6_gather_53 54 rfl rfl ?_
                refine g_iconst X dX6_gather_54 55 rfl (v := (nI (1))) rfl ?_
                refine g_callVvx (st := []) (m2 := (mrow (mrow (mup h 36 3 (nI (tone))) 38 (sumG (h 38) (fun b => wvS d q tone (h 5) (h 30) (h 31) (h 32) (h 33) (h 34) b k))) 38 (gput (sumG (h 38) (fun b => wvS d q tone (h 5) (h 30) (h 31) (h 32) (h 33) (h 34) b k)) (24 * (tn (h 30 k))) 24 (acF d q (h 5) (tone * tn (h 31 k)) (tone * tn (h 32 k)) (nI 1 * nI (tn (h 33 k))) (grd (sumG (h 38) (fun b => wvS d q tone (h 5) (h 30) (h 31) (h 32) (h 33) (h 34) b k)) (24 * (tn (h 30 k)))))))) X cw_X6_52 (c_X6_addCoil (mrow (mup h 36 3 (nI (tone))) 38 (sumG (h 38) (fun b => wvS d q tone (h 5) (h 30) (h 31) (h 32) (h 33) (h 34) b k))) q p m n d (by exact C) tone k (nI 1) (by rfl) ht1 ht2 (by omega)) dX6_gather_55 58 rfl (by decide) rfl rfl rfl rfl rfl (by decide) (Nat.le_of_ble_eq_true rfl) ?_
                refine g_iinc X (v := (nI (k + 1))) (lv' := [(0, .ref (kad K (36))), (1, .int (nI (tone))), (2, .int (nI (k + 1)))]) dX6_gather_58 61 rfl (by decide) rfl (n_inc k 1) rfl rfl ?_
                refine g_goto X dX6_gather_61 29 (by decide) ?_
                skip
                refine g_mem (h := (mrow (mrow (mup h 36 3 (nI (tone))) 38 (sumG (h 38) (fun b => wvS d q tone (h 5) (h 30) (h 31) (h 32) (h 33) (h 34) b k))) 38 (gput (sumG (h 38) (fun b => wvS d q tone (h 5) (h 30) (h 31) (h 32) (h 33) (h 34) b k)) (24 * (tn (h 30 k))) 24 (acF d q (h 5) (tone * tn (h 31 k)) (tone * tn (h 32 k)) (nI 1 * nI (tn (h 33 k))) (grd (sumG (h 38) (fun b => wvS d q tone (h 5) (h 30) (h 31) (h 32) (h 33) (h 34) b k)) (24 * (tn (h 30 k)))))))) (h' := (mrow (mup h 36 3 (nI (tone))) 38 (sumG (h 38) (fun b => wvS d q tone (h 5) (h 30) (h 31) (h 32) (h 33) (h 34) b (k + 1))))) (by rw [mrow_m, sumG_ac hf9]; refine congrArg (mrow _ 38) (sumG_congr (fun f i _ _ => ?_)); rw [wvS]; by_cases e : f = tn (h 30 k); rw [if_pos e, if_pos ⟨f49, e.symm⟩]; rw [if_neg e, if_neg (fun z => e z.2.symm)]) ?_
                exact ih29 (k + 1) (by omega) (by omega)
        skip
        refine g_mem (h := (mrow (mup h 36 3 (nI (tone))) 38 (zG (h 38) f))) (h' := (mrow (mup h 36 3 (nI (tone))) 38 (sumG (h 38) (fun b => wvS d q tone (h 5) (h 30) (h 31) (h 32) (h 33) (h 34) b 0)))) (by rw [show f = 3 from by omega, zG_3]; rfl) ?_
        exact lp29 _ 0 (by omega) (Nat.lt_succ_self _)
      · skip
        refine g_aload_n X dX6_gather_12 13 rfl rfl ?_
        refine g_get (c := 36) (k := 4) (T := TX6) (sk := skX36) (v := .ref (kad K (37))) X wf_X6_11 inX6 dX6_gather_13 16 rfl (by decide) rfl rfl (by decide) rfl ?_
        refine g_iload_n X dX6_gather_16 17 rfl rfl ?_
        refine g_aald (c := 37) (n := 3) (b := 38) (o := 0) (i := f) X dX6_gather_17 18 rfl (by decide) rfl rfl (by omega) ?_
        refine g_callSvx (st := []) (m2 := (mrow (mrow (mup h 36 3 (nI (tone))) 38 (zG (h 38) f)) 38 (gput (zG (h 38) f) (24 * f) 24 zF))) X cw_X6_39 (c_X6_setToNought_38 (mrow (mup h 36 3 (nI (tone))) 38 (zG (h 38) f)) f (by omega)) dX6_gather_18 21 rfl rfl rfl rfl (by decide) (Nat.le_of_ble_eq_true rfl) ?_
        refine g_iinc X (v := (nI (f + 1))) (lv' := [(0, .ref (kad K (36))), (1, .int (nI (tone))), (2, .int (nI (f + 1)))]) dX6_gather_21 24 rfl (by decide) rfl (n_inc f 1) rfl rfl ?_
        refine g_goto X dX6_gather_24 7 (by decide) ?_
        skip
        refine g_mem (h := (mrow (mrow (mup h 36 3 (nI (tone))) 38 (zG (h 38) f)) 38 (gput (zG (h 38) f) (24 * f) 24 zF))) (h' := (mrow (mup h 36 3 (nI (tone))) 38 (zG (h 38) (f + 1)))) (by rw [mrow_m, zG_s]) ?_
        exact ih7 (f + 1) (by omega) (by omega)
  skip
  refine g_mem (h := (mup h 36 3 (nI (tone)))) (h' := (mrow (mup h 36 3 (nI (tone))) 38 (zG (h 38) 0))) (by rw [zG_0]; exact (mrow_id _ 38).symm) ?_
  exact lp7 _ 0 (by omega) (Nat.lt_succ_self _)
set_option maxHeartbeats 1000000 in
set_option maxRecDepth 100000 in
theorem c_X6_isNought (h : Mem) (q p m n d : Nat) (C : XC h q p m n d) (f : Nat) (hf : f < 3) : cI 69 XL yX6_isNought cX6_isNought 2 (some .boolean) 1 22 (fun ad => [.ref (ad (36)), .int (nI (f))]) h (fun r h2 => r = bI (∀ i, i < d → grd (h 38) (24 * f) i = 0) ∧ h2 = h) := by
  refine cI_of XLW (by decide +kernel) (fun ad => Nat.le_of_ble_eq_true rfl) ?_
  intro K X Z
  obtain ⟨hq, hp, hm, hq1, hq2, hp1, hp2, hm1, hm2, hn, hn2, hc, hq0, hd, hd1, hd2⟩ := id C
  show G 69 XL 2 K h 0 [(0, .ref (kad K (36))), (1, .int (nI (f)))] []
  refine g_aload_n X dX6_isNought_0 1 rfl rfl ?_
  refine g_get (c := 36) (k := 1) (T := TX6) (sk := skX36) (v := .ref (kad K (2))) X wf_X6_27 inX6 dX6_isNought_1 4 rfl (by decide) rfl rfl (by decide) rfl ?_
  refine g_aload_n X dX6_isNought_4 5 rfl rfl ?_
  refine g_get (c := 36) (k := 4) (T := TX6) (sk := skX36) (v := .ref (kad K (37))) X wf_X6_11 inX6 dX6_isNought_5 8 rfl (by decide) rfl rfl (by decide) rfl ?_
  refine g_iload_n X dX6_isNought_8 9 rfl rfl ?_
  refine g_aald (c := 37) (n := 3) (b := 38) (o := 0) (i := f) X dX6_isNought_9 10 rfl (by decide) rfl rfl (by omega) ?_
  refine g_callVix (st := []) (v := (bI (∀ i, i < d → grd (h 38) (24 * f) i = 0))) (m2 := h) X cw_X6_74 (c_X3_isNought_38 h f (by omega) d hd hd1 hd2) dX6_isNought_10 13 rfl (by decide) rfl rfl rfl rfl rfl (by decide) (Nat.le_of_ble_eq_true rfl) ?_
  refine g_zret (h := h) (v := (bI (∀ i, i < d → grd (h 38) (24 * f) i = 0))) X Z dX6_isNought_13 (bI_01 _) ?_
  exact ⟨rfl, rfl⟩
set_option maxHeartbeats 1000000 in
set_option maxRecDepth 100000 in
theorem c_X6_together (h : Mem) (q p m n d : Nat) (C : XC h q p m n d) : cI 69 XL yX6_isNoughtTogether cX6_isNoughtTogether 3 (some .boolean) 1 22 (fun ad => [.ref (ad (36))]) h (fun r h2 => r = bI (∀ i, i < d → togK d (fun b => grd (h 38) (24 * b)) m i = 0) ∧ ∃ w, h2 = mrow h 41 w) := by
  refine cI_of XLW (by decide +kernel) (fun ad => Nat.le_of_ble_eq_true rfl) ?_
  intro K X Z
  obtain ⟨hq, hp, hm, hq1, hq2, hp1, hp2, hm1, hm2, hn, hn2, hc, hq0, hd, hd1, hd2⟩ := id C
  show G 69 XL 3 K h 0 [(0, .ref (kad K (36)))] []
  refine g_aload_n X dX6_isNoughtTogether_0 1 rfl rfl ?_
  refine g_get (c := 36) (k := 5) (T := TX6) (sk := skX36) (v := .ref (kad K (41))) X wf_X6_16 inX6 dX6_isNoughtTogether_1 4 rfl (by decide) rfl rfl (by decide) rfl ?_
  refine g_callSvx (st := []) (m2 := (mrow h 41 (gput (h 41) (0) 24 zF))) X cw_X6_39 (c_X6_setToNought_41 h ) dX6_isNoughtTogether_4 7 rfl rfl rfl rfl (by decide) (Nat.le_of_ble_eq_true rfl) ?_
  refine g_iconst X dX6_isNoughtTogether_7 8 rfl (v := (nI (0))) rfl ?_
  refine g_istore_n X (lv' := [(0, .ref (kad K (36))), (1, .int (nI 0))]) dX6_isNoughtTogether_8 9 rfl (by decide) rfl rfl ?_
  have lp9 : ∀ (fu : Nat) (f : Nat) (hf : f ≤ m), m - f < fu → G 69 XL 3 K (mrow h 41 (gput (h 41) 0 24 (togK d (fun b => grd (h 38) (24 * b)) f))) 9 [(0, .ref (kad K (36))), (1, .int (nI (f)))] [] := by
    intro fu
    induction fu with
    | zero => intro f hf hm; exact absurd hm (Nat.not_lt_zero _)
    | succ fu ih9 =>
      intro f hf hm9
      refine g_iload_n X dX6_isNoughtTogether_9 10 rfl rfl ?_
      refine g_aload_n X dX6_isNoughtTogether_10 11 rfl rfl ?_
      refine g_get (c := 36) (k := 0) (T := TX6) (sk := skX36) (v := .ref (kad K (1))) X wf_X6_23 inX6 dX6_isNoughtTogether_11 14 rfl (by decide) rfl rfl (by decide) rfl ?_
      refine g_get (c := 1) (k := 2) (T := TX1) (sk := skX1) (v := .int (nI (m))) X wf_X6_78 inX1 dX6_isNoughtTogether_14 17 rfl (by decide) rfl rfl (by decide) (congrArg Value.int (hm)) ?_
      refine g_icmp_ge X ((f : Nat) : Int) ((m : Nat) : Int) dX6_isNoughtTogether_17 62 (by decide) 20 rfl (nI_toInt (by omega)) (nI_toInt (by omega)) (fun t17 => ?_) (fun f17 => ?_)
      · skip
        refine g_aload_n X dX6_isNoughtTogether_62 63 rfl rfl ?_
        refine g_get (c := 36) (k := 1) (T := TX6) (sk := skX36) (v := .ref (kad K (2))) X wf_X6_27 inX6 dX6_isNoughtTogether_63 66 rfl (by decide) rfl rfl (by decide) rfl ?_
        refine g_aload_n X dX6_isNoughtTogether_66 67 rfl rfl ?_
        refine g_get (c := 36) (k := 5) (T := TX6) (sk := skX36) (v := .ref (kad K (41))) X wf_X6_16 inX6 dX6_isNoughtTogether_67 70 rfl (by decide) rfl rfl (by decide) rfl ?_
        refine g_callVix (st := []) (v := (bI (∀ i, i < d → grd ((mrow h 41 (gput (h 41) 0 24 (togK d (fun b => grd (h 38) (24 * b)) f))) 41) (0) i = 0))) (m2 := (mrow h 41 (gput (h 41) 0 24 (togK d (fun b => grd (h 38) (24 * b)) f)))) X cw_X6_74 (c_X3_isNought_41 (mrow h 41 (gput (h 41) 0 24 (togK d (fun b => grd (h 38) (24 * b)) f))) d hd hd1 hd2) dX6_isNoughtTogether_70 73 rfl (by decide) rfl rfl rfl rfl rfl (by decide) (Nat.le_of_ble_eq_true rfl) ?_
        refine g_zret (h := (mrow h 41 (gput (h 41) 0 24 (togK d (fun b => grd (h 38) (24 * b)) f)))) (v := (bI (∀ i, i < d → grd ((mrow h 41 (gput (h 41) 0 24 (togK d (fun b => grd (h 38) (24 * b)) f))) 41) (0) i = 0))) X Z dX6_isNoughtTogether_73 (bI_01 _) ?_
        refine ⟨bI_c ⟨fun z i hi => ?_, fun z i hi => ?_⟩, _, rfl⟩
        · have := z i hi
          rw [show m = f from by omega]
          exact (gput_in (by omega)).symm.trans this
        · have := z i hi
          rw [show m = f from by omega] at this
          exact (gput_in (by omega)).trans this
      · skip
        refine g_iconst X dX6_isNoughtTogether_20 21 rfl (v := (nI (0))) rfl ?_
        refine g_istore_n X (lv' := [(0, .ref (kad K (36))), (1, .int (nI (f))), (2, .int (nI 0))]) dX6_isNoughtTogether_21 22 rfl (by decide) rfl rfl ?_
        have lp22 : ∀ (fu : Nat) (k : Nat) (hk : k ≤ d), d - k < fu → G 69 XL 3 K (mrow h 41 (gput (h 41) 0 24 (togI d (fun b => grd (h 38) (24 * b)) f k))) 22 [(0, .ref (kad K (36))), (1, .int (nI (f))), (2, .int (nI (k)))] [] := by
          intro fu
          induction fu with
          | zero => intro k hk hm; exact absurd hm (Nat.not_lt_zero _)
          | succ fu ih22 =>
            intro k hk hm22
            refine g_iload_n X dX6_isNoughtTogether_22 23 rfl rfl ?_
            refine g_aload_n X dX6_isNoughtTogether_23 24 rfl rfl ?_
            refine g_get (c := 36) (k := 1) (T := TX6) (sk := skX36) (v := .ref (kad K (2))) X wf_X6_27 inX6 dX6_isNoughtTogether_24 27 rfl (by decide) rfl rfl (by decide) rfl ?_
            refine g_get (c := 2) (k := 1) (T := TX3) (sk := skX2) (v := .int (nI (d))) X wf_X6_97 inX3 dX6_isNoughtTogether_27 30 rfl (by decide) rfl rfl (by decide) (congrArg Value.int (hd)) ?_
            refine g_icmp_ge X ((k : Nat) : Int) ((d : Nat) : Int) dX6_isNoughtTogether_30 56 (by decide) 33 rfl (nI_toInt (by omega)) (nI_toInt (by omega)) (fun t30 => ?_) (fun f30 => ?_)
            · skip
              refine g_iinc X (v := (nI (f + 1))) (lv' := [(0, .ref (kad K (36))), (1, .int (nI (f + 1))), (2, .int (nI (k)))]) dX6_isNoughtTogether_56 59 rfl (by decide) rfl (n_inc f 1) rfl rfl ?_
              refine g_goto X dX6_isNoughtTogether_59 9 (by decide) ?_
              refine g_sub [0, 1] rfl ?_
              refine g_mem (h := (mrow h 41 (gput (h 41) 0 24 (togI d (fun b => grd (h 38) (24 * b)) f k)))) (h' := (mrow h 41 (gput (h 41) 0 24 (togK d (fun b => grd (h 38) (24 * b)) (f + 1))))) (by rw [show k = d from by omega]; rfl) ?_
              exact ih9 (f + 1) (by omega) (by omega)
            · skip
              refine g_aload_n X dX6_isNoughtTogether_33 34 rfl rfl ?_
              refine g_get (c := 36) (k := 5) (T := TX6) (sk := skX36) (v := .ref (kad K (41))) X wf_X6_16 inX6 dX6_isNoughtTogether_34 37 rfl (by decide) rfl rfl (by decide) rfl ?_
              refine g_iload_n X dX6_isNoughtTogether_37 38 rfl rfl ?_
              refine g_dup2 X dX6_isNoughtTogether_38 39 rfl rfl rfl ?_
              refine g_iald (c := 41) (n := 24) (r := 41) (o := 0) (i := k) (v := (togK d (fun b => grd (h 38) (24 * b)) f k)) X dX6_isNoughtTogether_39 40 rfl (by decide) rfl rfl (by omega) ((gput_in (by omega)).trans (if_neg (by omega))) ?_
              refine g_aload_n X dX6_isNoughtTogether_40 41 rfl rfl ?_
              refine g_get (c := 36) (k := 4) (T := TX6) (sk := skX36) (v := .ref (kad K (37))) X wf_X6_11 inX6 dX6_isNoughtTogether_41 44 rfl (by decide) rfl rfl (by decide) rfl ?_
              refine g_iload_n X dX6_isNoughtTogether_44 45 rfl rfl ?_
              refine g_aald (c := 37) (n := 3) (b := 38) (o := 0) (i := f) X dX6_isNoughtTogether_45 46 rfl (by decide) rfl rfl (by omega) ?_
              refine g_iload_n X dX6_isNoughtTogether_46 47 rfl rfl ?_
              refine g_iald (c := (38 + f)) (n := 24) (r := 38) (o := 24 * f) (i := k) (v := ((fun b => grd (h 38) (24 * b)) f k)) X dX6_isNoughtTogether_47 48 rfl (by omega) (XL_38 (by omega)) rfl (by omega) rfl ?_
              refine g_iadd X (v := ((togK d (fun b => grd (h 38) (24 * b)) f k) + ((fun b => grd (h 38) (24 * b)) f k))) dX6_isNoughtTogether_48 49 rfl rfl ?_
              refine g_iast (c := 41) (n := 24) (r := 41) (o := 0) (i := k) X dX6_isNoughtTogether_49 50 rfl (by decide) rfl rfl (by omega) ?_
              refine g_iinc X (v := (nI (k + 1))) (lv' := [(0, .ref (kad K (36))), (1, .int (nI (f))), (2, .int (nI (k + 1)))]) dX6_isNoughtTogether_50 53 rfl (by decide) rfl (n_inc k 1) rfl rfl ?_
              refine g_goto X dX6_isNoughtTogether_53 22 (by decide) ?_
              skip
              refine g_mem (h := (mup (mrow h 41 (gput (h 41) 0 24 (togI d (fun b => grd (h 38) (24 * b)) f k))) 41 k ((togK d (fun b => grd (h 38) (24 * b)) f k) + ((fun b => grd (h 38) (24 * b)) f k)))) (h' := (mrow h 41 (gput (h 41) 0 24 (togI d (fun b => grd (h 38) (24 * b)) f (k + 1))))) (gput_up (by omega) (fun i0 _ => congrFun (togI_s d (fun b => grd (h 38) (24 * b)) f k) i0)) ?_
              exact ih22 (k + 1) (by omega) (by omega)
        skip
        refine g_mem (h := (mrow h 41 (gput (h 41) 0 24 (togK d (fun b => grd (h 38) (24 * b)) f)))) (h' := (mrow h 41 (gput (h 41) 0 24 (togI d (fun b => grd (h 38) (24 * b)) f 0)))) (by rw [togI_0]) ?_
        exact lp22 _ 0 (by omega) (Nat.lt_succ_self _)
  skip
  refine g_mem (h := (mrow h 41 (gput (h 41) (0) 24 zF))) (h' := (mrow h 41 (gput (h 41) 0 24 (togK d (fun b => grd (h 38) (24 * b)) 0)))) rfl ?_
  exact lp9 _ 0 (by omega) (Nat.lt_succ_self _)
