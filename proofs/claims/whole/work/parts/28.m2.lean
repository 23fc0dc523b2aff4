/-- the reference's state between two calls -/
def MI (h : Mem) (q p m n d : Nat) : Prop := MC h q p m n d ∧ (∀ j, j < 24 → h 6 j = nI (cntS (h 2) (h 3) n j)) ∧ (∀ j, j < 24 → cntS (h 2) (h 3) n j ≤ 2) ∧ (∀ i, i < 25 → h 7 i = polK q q i) ∧ d = dgN q ∧ (∃ t, t ≤ 7 ∧ h 0 24 = nI t) ∧ (∃ t, t ≤ 3 ∧ h 0 26 = nI t) ∧ ∀ s, s < 4 → (-1 ≤ (h 21 s).toInt ∧ (h 21 s).toInt ≤ 2) ∧ ∃ z, z ≤ 96 ∧ h 22 s = nI z
def shN (h : Mem) (x0 x1 x2 : Int32) : Mem := mrow (mup (mup h 21 (tn x0) x1) 22 (tn x0) x2) 23 (gput (h 23) (96 * tn x0) 96 zF)
def iuR (h : Mem) (x0 x1 x2 : Int32) (n : Nat) : Int32 := refV (h 21 (tn x0)) (tn (h 22 (tn x0))) x1 x2 n
def iuM (h : Mem) (x0 x2 x3 : Int32) : Mem := mup h 23 (96 * tn x0 + tn x2) (if (h 21 (tn x0)).toInt = 0 then x3.toInt8.toInt32 else x3)
theorem byte_ar (a : Nat) (h : a < 4294967296) : ((a : Int) * 16777216).bmod 4294967296 / 16777216 = ((a : Int).bmod 4294967296).bmod 256 := by
  have e (x : Int) (m : Nat) : x.bmod m = if x % (m : Int) < ((m : Int) + 1) / 2 then x % (m : Int) else x % (m : Int) - (m : Int) := rfl
  rw [e, e, e]
  rw [show ((4294967296 : Nat) : Int) = 4294967296 from rfl, show ((256 : Nat) : Int) = 256 from rfl]
  rw [show ((4294967296 : Int) + 1) / 2 = 2147483648 from rfl, show ((256 : Int) + 1) / 2 = 128 from rfl]
  split <;> split <;> split <;> omega
theorem sh24 : ((nI 24 &&& 31).toBitVec.smod 32).toNat = 24 := by decide
theorem byte_sh (x : Int32) : (x <<< (nI 24 &&& 31)) >>> (nI 24 &&& 31) = x.toInt8.toInt32 := by
  apply Int32.toInt_inj.mp
  have e1 : (x.toInt8.toInt32).toInt = x.toInt.bmod 256 := by
    rw [Int8.toInt_toInt32, Int32.toInt_toInt8]
  have e2 : ((x <<< (nI 24 &&& 31)) >>> (nI 24 &&& 31)).toInt = ((x.toBitVec <<< 24).sshiftRight 24).toInt := rfl
  rw [e1, e2, BitVec.toInt_sshiftRight, BitVec.toInt_shiftLeft, Int.shiftRight_eq_div_pow]
  have e3 : x.toInt = (x.toBitVec.toNat : Int).bmod 4294967296 := BitVec.toInt_eq_toNat_bmod x.toBitVec
  have e4 : ((x.toBitVec.toNat <<< 24 : Nat) : Int) = (x.toBitVec.toNat : Int) * 16777216 := by rw [Nat.shiftLeft_eq]; rfl
  rw [e4, e3]
  exact byte_ar _ x.toBitVec.isLt
set_option maxHeartbeats 1000000 in
set_option maxRecDepth 100000 in
theorem c_M_cyclotomic (h : Mem) (q p m n d : Nat) (II : MI h q p m n d) (x0 : Int32) : cI 25 ML yX9_cyclotomic cX9_cyclotomic 2 (some .int) 1 25 (fun ad => [.ref (ad (0)), .int (x0)]) h (fun r h2 => r = cycV d (h 7) x0 ∧ h2 = h) := by
  refine cI_of MLW (by decide +kernel) (fun ad => Nat.le_of_ble_eq_true rfl) ?_
  intro K X Z
  obtain ⟨C, hsA, hsB, hpol, hdq, ⟨tz, htz, hto⟩, ⟨pz, hpz, hpk⟩, hshe⟩ := id II
  obtain ⟨hq, hp, hm, hq1, hq2, hp1, hp2, hm1, hm2, hn, hn2, hc, hd, hd1, hd2⟩ := id C
  show G 25 ML 2 K h 0 [(0, .ref (kad K (0))), (1, .int (x0))] []
  refine g_iload_n X dX9_cyclotomic_0 1 rfl rfl ?_
  refine g_i2l X (v := (x0).toInt64) dX9_cyclotomic_1 2 rfl rfl ?_
  refine g_lconst X dX9_cyclotomic_2 3 rfl (v := (0 : Int64)) rfl ?_
  refine g_aload_n X dX9_cyclotomic_3 4 rfl rfl ?_
  refine g_get (c := 0) (k := 10) (T := TX9) (sk := skM0) (v := .int (nI (d))) X wf_X9_129 inX9 dX9_cyclotomic_4 7 rfl (by decide) rfl rfl (by decide) (congrArg Value.int (hd)) ?_
  refine g_i2l X (v := (nI (d)).toInt64) dX9_cyclotomic_7 8 rfl rfl ?_
  refine g_callSix (st := []) (v := (bI (0 ≤ (x0).toInt ∧ (x0).toInt ≤ ((d : Nat) : Int)))) (m2 := h) X cw_X9_100 (c_M_in h ((x0).toInt64) (0 : Int64) ((nI (d)).toInt64) ((x0).toInt) 0 ((d : Nat) : Int) (i64_of rfl) rfl (i64_of (nI_toInt (by omega)))) dX9_cyclotomic_8 11 rfl rfl rfl rfl (by decide) (Nat.le_of_ble_eq_true rfl) ?_
  refine g_ifeq_B X dX9_cyclotomic_11 23 (by decide) 14 rfl (fun t11 => ?_) (fun f11 => ?_)
  · skip
    refine g_sipush X dX9_cyclotomic_23 26 rfl (v := (zI (-1001))) rfl ?_
    refine g_iret (h := h) (v := (zI (-1001))) X Z dX9_cyclotomic_26 ?_
    exact ⟨(if_neg t11).symm, rfl⟩
  · skip
    obtain ⟨k, hk0, hk, rfl⟩ := inR_3 (a := 0) (b := d) f11
    refine g_aload_n X dX9_cyclotomic_14 15 rfl rfl ?_
    refine g_get (c := 0) (k := 11) (T := TX9) (sk := skM0) (v := .ref (kad K (7))) X wf_X9_39 inX9 dX9_cyclotomic_15 18 rfl (by decide) rfl rfl (by decide) rfl ?_
    refine g_iload_n X dX9_cyclotomic_18 19 rfl rfl ?_
    refine g_iald (c := 7) (n := 25) (r := 7) (o := 0) (i := k) (v := (h 7 k)) X dX9_cyclotomic_19 20 rfl (by decide) rfl rfl (by omega) rfl ?_
    refine g_goto X dX9_cyclotomic_20 26 (by decide) ?_
    refine g_iret (h := h) (v := (h 7 k)) X Z dX9_cyclotomic_26 ?_
    exact ⟨((if_pos f11).trans (by rw [tn_nI (by omega)])).symm, rfl⟩
set_option maxHeartbeats 1000000 in
set_option maxRecDepth 100000 in
theorem c_M_wayOf (h : Mem) (q p m n d : Nat) (II : MI h q p m n d) (x0 : Int32) : cI 25 ML yX9_wayOf cX9_wayOf 2 (some .int) 1 25 (fun ad => [.ref (ad (0)), .int (x0)]) h (fun r h2 => r = atV n (h 15) x0 ∧ h2 = h) := by
  refine cI_of MLW (by decide +kernel) (fun ad => Nat.le_of_ble_eq_true rfl) ?_
  intro K X Z
  obtain ⟨C, hsA, hsB, hpol, hdq, ⟨tz, htz, hto⟩, ⟨pz, hpz, hpk⟩, hshe⟩ := id II
  obtain ⟨hq, hp, hm, hq1, hq2, hp1, hp2, hm1, hm2, hn, hn2, hc, hd, hd1, hd2⟩ := id C
  show G 25 ML 2 K h 0 [(0, .ref (kad K (0))), (1, .int (x0))] []
  refine g_iload_n X dX9_wayOf_0 1 rfl rfl ?_
  refine g_i2l X (v := (x0).toInt64) dX9_wayOf_1 2 rfl rfl ?_
  refine g_lconst X dX9_wayOf_2 3 rfl (v := (0 : Int64)) rfl ?_
  refine g_aload_n X dX9_wayOf_3 4 rfl rfl ?_
  refine g_get (c := 0) (k := 3) (T := TX9) (sk := skM0) (v := .int (nI (n))) X wf_X9_116 inX9 dX9_wayOf_4 7 rfl (by decide) rfl rfl (by decide) (congrArg Value.int (hn)) ?_
  refine g_iconst X dX9_wayOf_7 8 rfl (v := (nI (1))) rfl ?_
  refine g_isub X (v := (zI (((n : Nat) : Int) - ((1 : Nat) : Int)))) dX9_wayOf_8 9 rfl (nn_sub n 1) ?_
  refine g_i2l X (v := (zI (((n : Nat) : Int) - ((1 : Nat) : Int))).toInt64) dX9_wayOf_9 10 rfl rfl ?_
  refine g_callSix (st := []) (v := (bI (0 ≤ (x0).toInt ∧ (x0).toInt ≤ ((n : Nat) : Int) - ((1 : Nat) : Int)))) (m2 := h) X cw_X9_100 (c_M_in h ((x0).toInt64) (0 : Int64) ((zI (((n : Nat) : Int) - ((1 : Nat) : Int))).toInt64) ((x0).toInt) 0 (((n : Nat) : Int) - ((1 : Nat) : Int)) (i64_of rfl) rfl (i64_of (zI_toInt (by omega)))) dX9_wayOf_10 13 rfl rfl rfl rfl (by decide) (Nat.le_of_ble_eq_true rfl) ?_
  refine g_ifeq_B X dX9_wayOf_13 25 (by decide) 16 rfl (fun t13 => ?_) (fun f13 => ?_)
  · skip
    refine g_iconst X dX9_wayOf_25 26 rfl (v := (zI (-1))) rfl ?_
    refine g_iret (h := h) (v := (zI (-1))) X Z dX9_wayOf_26 ?_
    exact ⟨(if_neg t13).symm, rfl⟩
  · skip
    obtain ⟨k, hk, rfl⟩ := inR_nat f13
    refine g_aload_n X dX9_wayOf_16 17 rfl rfl ?_
    refine g_get (c := 0) (k := 20) (T := TX9) (sk := skM0) (v := .ref (kad K (15))) X wf_X9_63 inX9 dX9_wayOf_17 20 rfl (by decide) rfl rfl (by decide) rfl ?_
    refine g_iload_n X dX9_wayOf_20 21 rfl rfl ?_
    refine g_iald (c := 15) (n := 24) (r := 15) (o := 0) (i := k) (v := (h 15 k)) X dX9_wayOf_21 22 rfl (by decide) rfl rfl (by omega) rfl ?_
    refine g_goto X dX9_wayOf_22 26 (by decide) ?_
    refine g_iret (h := h) (v := (h 15 k)) X Z dX9_wayOf_26 ?_
    exact ⟨((if_pos f13).trans (by rw [tn_nI (by omega)])).symm, rfl⟩
set_option maxHeartbeats 1000000 in
set_option maxRecDepth 100000 in
theorem c_M_tourAt (h : Mem) (q p m n d : Nat) (II : MI h q p m n d) (x0 : Int32) : cI 25 ML yX9_tourAt cX9_tourAt 2 (some .int) 1 25 (fun ad => [.ref (ad (0)), .int (x0)]) h (fun r h2 => r = (if x0.toInt = -1 then h 0 24 else atV (tn (h 0 24)) (h 19) x0) ∧ h2 = h) := by
  refine cI_of MLW (by decide +kernel) (fun ad => Nat.le_of_ble_eq_true rfl) ?_
  intro K X Z
  obtain ⟨C, hsA, hsB, hpol, hdq, ⟨tz, htz, hto⟩, ⟨pz, hpz, hpk⟩, hshe⟩ := id II
  obtain ⟨hq, hp, hm, hq1, hq2, hp1, hp2, hm1, hm2, hn, hn2, hc, hd, hd1, hd2⟩ := id C
  show G 25 ML 2 K h 0 [(0, .ref (kad K (0))), (1, .int (x0))] []
  refine g_iload_n X dX9_tourAt_0 1 rfl rfl ?_
  refine g_iconst X dX9_tourAt_1 2 rfl (v := (zI (-1))) rfl ?_
  refine g_icmp_ne X ((x0).toInt) (-1) dX9_tourAt_2 12 (by decide) 5 rfl rfl rfl (fun t2 => ?_) (fun f2 => ?_)
  · skip
    refine g_iload_n X dX9_tourAt_12 13 rfl rfl ?_
    refine g_i2l X (v := (x0).toInt64) dX9_tourAt_13 14 rfl rfl ?_
    refine g_lconst X dX9_tourAt_14 15 rfl (v := (0 : Int64)) rfl ?_
    refine g_aload_n X dX9_tourAt_15 16 rfl rfl ?_
    refine g_get (c := 0) (k := 24) (T := TX9) (sk := skM0) (v := .int (nI (tz))) X wf_X9_192 inX9 dX9_tourAt_16 19 rfl (by decide) rfl rfl (by decide) (congrArg Value.int (hto)) ?_
    refine g_iconst X dX9_tourAt_19 20 rfl (v := (nI (1))) rfl ?_
    refine g_isub X (v := (zI (((tz : Nat) : Int) - ((1 : Nat) : Int)))) dX9_tourAt_20 21 rfl (nn_sub tz 1) ?_
    refine g_i2l X (v := (zI (((tz : Nat) : Int) - ((1 : Nat) : Int))).toInt64) dX9_tourAt_21 22 rfl rfl ?_
    refine g_callSix (st := []) (v := (bI (0 ≤ (x0).toInt ∧ (x0).toInt ≤ ((tz : Nat) : Int) - ((1 : Nat) : Int)))) (m2 := h) X cw_X9_100 (c_M_in h ((x0).toInt64) (0 : Int64) ((zI (((tz : Nat) : Int) - ((1 : Nat) : Int))).toInt64) ((x0).toInt) 0 (((tz : Nat) : Int) - ((1 : Nat) : Int)) (i64_of rfl) rfl (i64_of (zI_toInt (by omega)))) dX9_tourAt_22 25 rfl rfl rfl rfl (by decide) (Nat.le_of_ble_eq_true rfl) ?_
    refine g_ifeq_B X dX9_tourAt_25 37 (by decide) 28 rfl (fun t25 => ?_) (fun f25 => ?_)
    · skip
      refine g_iconst X dX9_tourAt_37 38 rfl (v := (zI (-1))) rfl ?_
      refine g_iret (h := h) (v := (zI (-1))) X Z dX9_tourAt_38 ?_
      exact ⟨((if_neg t2).trans (if_neg (by rw [hto, tn_nI (by omega)]; exact t25))).symm, rfl⟩
    · skip
      obtain ⟨k, hk, rfl⟩ := inR_nat f25
      refine g_aload_n X dX9_tourAt_28 29 rfl rfl ?_
      refine g_get (c := 0) (k := 25) (T := TX9) (sk := skM0) (v := .ref (kad K (19))) X wf_X9_75 inX9 dX9_tourAt_29 32 rfl (by decide) rfl rfl (by decide) rfl ?_
      refine g_iload_n X dX9_tourAt_32 33 rfl rfl ?_
      refine g_iald (c := 19) (n := 7) (r := 19) (o := 0) (i := k) (v := (h 19 k)) X dX9_tourAt_33 34 rfl (by decide) rfl rfl (by omega) rfl ?_
      refine g_goto X dX9_tourAt_34 38 (by decide) ?_
      refine g_iret (h := h) (v := (h 19 k)) X Z dX9_tourAt_38 ?_
      exact ⟨((if_neg t2).trans ((if_pos (by rw [hto, tn_nI (by omega)]; exact f25)).trans (by rw [tn_nI (by omega)]))).symm, rfl⟩
  · skip
    refine g_aload_n X dX9_tourAt_5 6 rfl rfl ?_
    refine g_get (c := 0) (k := 24) (T := TX9) (sk := skM0) (v := .int (nI (tz))) X wf_X9_192 inX9 dX9_tourAt_6 9 rfl (by decide) rfl rfl (by decide) (congrArg Value.int (hto)) ?_
    refine g_goto X dX9_tourAt_9 38 (by decide) ?_
    refine g_iret (h := h) (v := (nI (tz))) X Z dX9_tourAt_38 ?_
    exact ⟨((if_pos f2).trans hto).symm, rfl⟩
set_option maxHeartbeats 1000000 in
set_option maxRecDepth 100000 in
theorem c_M_picked (h : Mem) (q p m n d : Nat) (II : MI h q p m n d) (x0 : Int32) : cI 25 ML yX9_picked cX9_picked 2 (some .int) 1 25 (fun ad => [.ref (ad (0)), .int (x0)]) h (fun r h2 => r = atV (tn (h 0 26)) (h 20) x0 ∧ h2 = h) := by
  refine cI_of MLW (by decide +kernel) (fun ad => Nat.le_of_ble_eq_true rfl) ?_
  intro K X Z
  obtain ⟨C, hsA, hsB, hpol, hdq, ⟨tz, htz, hto⟩, ⟨pz, hpz, hpk⟩, hshe⟩ := id II
  obtain ⟨hq, hp, hm, hq1, hq2, hp1, hp2, hm1, hm2, hn, hn2, hc, hd, hd1, hd2⟩ := id C
  show G 25 ML 2 K h 0 [(0, .ref (kad K (0))), (1, .int (x0))] []
  refine g_iload_n X dX9_picked_0 1 rfl rfl ?_
  refine g_i2l X (v := (x0).toInt64) dX9_picked_1 2 rfl rfl ?_
  refine g_lconst X dX9_picked_2 3 rfl (v := (0 : Int64)) rfl ?_
  refine g_aload_n X dX9_picked_3 4 rfl rfl ?_
  refine g_get (c := 0) (k := 26) (T := TX9) (sk := skM0) (v := .int (nI (pz))) X wf_X9_195 inX9 dX9_picked_4 7 rfl (by decide) rfl rfl (by decide) (congrArg Value.int (hpk)) ?_
  refine g_iconst X dX9_picked_7 8 rfl (v := (nI (1))) rfl ?_
  refine g_isub X (v := (zI (((pz : Nat) : Int) - ((1 : Nat) : Int)))) dX9_picked_8 9 rfl (nn_sub pz 1) ?_
  refine g_i2l X (v := (zI (((pz : Nat) : Int) - ((1 : Nat) : Int))).toInt64) dX9_picked_9 10 rfl rfl ?_
  refine g_callSix (st := []) (v := (bI (0 ≤ (x0).toInt ∧ (x0).toInt ≤ ((pz : Nat) : Int) - ((1 : Nat) : Int)))) (m2 := h) X cw_X9_100 (c_M_in h ((x0).toInt64) (0 : Int64) ((zI (((pz : Nat) : Int) - ((1 : Nat) : Int))).toInt64) ((x0).toInt) 0 (((pz : Nat) : Int) - ((1 : Nat) : Int)) (i64_of rfl) rfl (i64_of (zI_toInt (by omega)))) dX9_picked_10 13 rfl rfl rfl rfl (by decide) (Nat.le_of_ble_eq_true rfl) ?_
  refine g_ifeq_B X dX9_picked_13 25 (by decide) 16 rfl (fun t13 => ?_) (fun f13 => ?_)
  · skip
    refine g_iconst X dX9_picked_25 26 rfl (v := (zI (-1))) rfl ?_
    refine g_iret (h := h) (v := (zI (-1))) X Z dX9_picked_26 ?_
    exact ⟨(if_neg (by rw [hpk, tn_nI (by omega)]; exact t13)).symm, rfl⟩
  · skip
    obtain ⟨k, hk, rfl⟩ := inR_nat f13
    refine g_aload_n X dX9_picked_16 17 rfl rfl ?_
    refine g_get (c := 0) (k := 27) (T := TX9) (sk := skM0) (v := .ref (kad K (20))) X wf_X9_78 inX9 dX9_picked_17 20 rfl (by decide) rfl rfl (by decide) rfl ?_
    refine g_iload_n X dX9_picked_20 21 rfl rfl ?_
    refine g_iald (c := 20) (n := 3) (r := 20) (o := 0) (i := k) (v := (h 20 k)) X dX9_picked_21 22 rfl (by decide) rfl rfl (by omega) rfl ?_
    refine g_goto X dX9_picked_22 26 (by decide) ?_
    refine g_iret (h := h) (v := (h 20 k)) X Z dX9_picked_26 ?_
    exact ⟨((if_pos (by rw [hpk, tn_nI (by omega)]; exact f13)).trans (by rw [tn_nI (by omega)])).symm, rfl⟩
def pkM (h : Mem) (n a b c : Int32) : Mem := mup (mup (mup (mup h 0 26 n) 20 0 a) 20 1 b) 20 2 c
set_option maxHeartbeats 1000000 in
set_option maxRecDepth 100000 in
theorem c_M_pick (h : Mem) (n a b c : Int32) : cI 25 ML yX9_pick cX9_pick 5 (some .int) 0 0 (fun ad => [.ref (ad (0)), .int (n), .int (a), .int (b), .int (c)]) h (fun r h2 => r = n ∧ h2 = pkM h n a b c) := by
  refine cI_of MLW (by decide +kernel) (fun ad => Nat.le_of_ble_eq_true rfl) ?_
  intro K X Z
  show G 25 ML 5 K h 0 [(0, .ref (kad K (0))), (1, .int (n)), (2, .int (a)), (3, .int (b)), (4, .int (c))] []
  refine g_aload_n X dX9_pick_0 1 rfl rfl ?_
  refine g_iload_n X dX9_pick_1 2 rfl rfl ?_
  refine g_put (c := 0) (k := 26) (T := TX9) (sk := skM0) X wf_X9_195 inX9 tyX9_ok nmX9 dX9_pick_2 5 rfl (by decide) rfl rfl (by decide) rfl rfl rfl ?_
  refine g_aload_n X dX9_pick_5 6 rfl rfl ?_
  refine g_get (c := 0) (k := 27) (T := TX9) (sk := skM0) (v := .ref (kad K (20))) X wf_X9_78 inX9 dX9_pick_6 9 rfl (by decide) rfl rfl (by decide) rfl ?_
  refine g_iconst X dX9_pick_9 10 rfl (v := (nI (0))) rfl ?_
  refine g_iload_n X dX9_pick_10 11 rfl rfl ?_
  refine g_iast (c := 20) (n := 3) (r := 20) (o := 0) (i := 0) X dX9_pick_11 12 rfl (by decide) rfl rfl (by omega) ?_
  refine g_aload_n X dX9_pick_12 13 rfl rfl ?_
  refine g_get (c := 0) (k := 27) (T := TX9) (sk := skM0) (v := .ref (kad K (20))) X wf_X9_78 inX9 dX9_pick_13 16 rfl (by decide) rfl rfl (by decide) rfl ?_
  refine g_iconst X dX9_pick_16 17 rfl (v := (nI (1))) rfl ?_
  refine g_iload_n X dX9_pick_17 18 rfl rfl ?_
  refine g_iast (c := 20) (n := 3) (r := 20) (o := 0) (i := 1) X dX9_pick_18 19 rfl (by decide) rfl rfl (by omega) ?_
  refine g_aload_n X dX9_pick_19 20 rfl rfl ?_
  refine g_get (c := 0) (k := 27) (T := TX9) (sk := skM0) (v := .ref (kad K (20))) X wf_X9_78 inX9 dX9_pick_20 23 rfl (by decide) rfl rfl (by decide) rfl ?_
  refine g_iconst X dX9_pick_23 24 rfl (v := (nI (2))) rfl ?_
  refine g_iload X dX9_pick_24 26 rfl rfl ?_
  refine g_iast (c := 20) (n := 3) (r := 20) (o := 0) (i := 2) X dX9_pick_26 27 rfl (by decide) rfl rfl (by omega) ?_
  refine g_iload_n X dX9_pick_27 28 rfl rfl ?_
  refine g_iret (h := (mup (mup (mup (mup h 0 26 (n)) 20 0 (a)) 20 1 (b)) 20 2 (c))) (v := (n)) X Z dX9_pick_28 ?_
  exact ⟨rfl, rfl⟩
set_option maxHeartbeats 1000000 in
set_option maxRecDepth 100000 in
theorem c_M_apart (h : Mem) (q a b : Nat) (hq : h 0 0 = nI q) (hq2 : q < 1000) (haq : a < q) (hbq : b < q) : cI 25 ML yX9_apart cX9_apart 4 (some .int) 0 0 (fun ad => [.ref (ad (0)), .int (nI (a)), .int (nI (b))]) h (fun r h2 => r = nI (apt q a b) ∧ h2 = h) := by
  refine cI_of MLW (by decide +kernel) (fun ad => Nat.le_of_ble_eq_true rfl) ?_
  intro K X Z
  show G 25 ML 4 K h 0 [(0, .ref (kad K (0))), (1, .int (nI (a))), (2, .int (nI (b)))] []
  refine g_iload_n X dX9_apart_0 1 rfl rfl ?_
  refine g_iload_n X dX9_apart_1 2 rfl rfl ?_
  refine g_icmp_le X ((a : Nat) : Int) ((b : Nat) : Int) dX9_apart_2 11 (by decide) 5 rfl (nI_toInt (by omega)) (nI_toInt (by omega)) (fun t2 => ?_) (fun f2 => ?_)
  · skip
    refine g_iload_n X dX9_apart_11 12 rfl rfl ?_
    refine g_iload_n X dX9_apart_12 13 rfl rfl ?_
    refine g_isub X (v := (nI (b - a))) dX9_apart_13 14 rfl (pk_sub (by omega)) ?_
    refine g_istore_n X (lv' := [(0, .ref (kad K (0))), (1, .int (nI (a))), (2, .int (nI (b))), (3, .int (nI (b - a)))]) dX9_apart_14 15 rfl (by decide) rfl rfl ?_
    refine g_iload_n X dX9_apart_15 16 rfl rfl ?_
    refine g_aload_n X dX9_apart_16 17 rfl rfl ?_
    refine g_get (c := 0) (k := 0) (T := TX9) (sk := skM0) (v := .int (nI (q))) X wf_X9_7 inX9 dX9_apart_17 20 rfl (by decide) rfl rfl (by decide) (congrArg Value.int (hq)) ?_
    refine g_iload_n X dX9_apart_20 21 rfl rfl ?_
    refine g_isub X (v := (nI (q - (b - a)))) dX9_apart_21 22 rfl (pk_sub (by omega)) ?_
    refine g_icmp_ge X ((b - a : Nat) : Int) ((q - (b - a) : Nat) : Int) dX9_apart_22 29 (by decide) 25 rfl (nI_toInt (by omega)) (nI_toInt (by omega)) (fun t22 => ?_) (fun f22 => ?_)
    · skip
      refine g_aload_n X dX9_apart_29 30 rfl rfl ?_
      refine g_get (c := 0) (k := 0) (T := TX9) (sk := skM0) (v := .int (nI (q))) X wf_X9_7 inX9 dX9_apart_30 33 rfl (by decide) rfl rfl (by decide) (congrArg Value.int (hq)) ?_
      refine g_iload_n X dX9_apart_33 34 rfl rfl ?_
      refine g_isub X (v := (nI (q - (b - a)))) dX9_apart_34 35 rfl (pk_sub (by omega)) ?_
      refine g_iret (h := h) (v := (nI (q - (b - a)))) X Z dX9_apart_35 ?_
      exact ⟨congrArg nI (by unfold apt; omega), rfl⟩
    · skip
      refine g_iload_n X dX9_apart_25 26 rfl rfl ?_
      refine g_goto X dX9_apart_26 35 (by decide) ?_
      refine g_iret (h := h) (v := (nI (b - a))) X Z dX9_apart_35 ?_
      exact ⟨congrArg nI (by unfold apt; omega), rfl⟩
  · skip
    refine g_iload_n X dX9_apart_5 6 rfl rfl ?_
    refine g_iload_n X dX9_apart_6 7 rfl rfl ?_
    refine g_isub X (v := (nI (a - b))) dX9_apart_7 8 rfl (pk_sub (by omega)) ?_
    refine g_goto X dX9_apart_8 14 (by decide) ?_
    refine g_istore_n X (lv' := [(0, .ref (kad K (0))), (1, .int (nI (a))), (2, .int (nI (b))), (3, .int (nI (a - b)))]) dX9_apart_14 15 rfl (by decide) rfl rfl ?_
    refine g_iload_n X dX9_apart_15 16 rfl rfl ?_
    refine g_aload_n X dX9_apart_16 17 rfl rfl ?_
    refine g_get (c := 0) (k := 0) (T := TX9) (sk := skM0) (v := .int (nI (q))) X wf_X9_7 inX9 dX9_apart_17 20 rfl (by decide) rfl rfl (by decide) (congrArg Value.int (hq)) ?_
    refine g_iload_n X dX9_apart_20 21 rfl rfl ?_
    refine g_isub X (v := (nI (q - (a - b)))) dX9_apart_21 22 rfl (pk_sub (by omega)) ?_
    refine g_icmp_ge X ((a - b : Nat) : Int) ((q - (a - b) : Nat) : Int) dX9_apart_22 29 (by decide) 25 rfl (nI_toInt (by omega)) (nI_toInt (by omega)) (fun t22 => ?_) (fun f22 => ?_)
    · skip
      refine g_aload_n X dX9_apart_29 30 rfl rfl ?_
      refine g_get (c := 0) (k := 0) (T := TX9) (sk := skM0) (v := .int (nI (q))) X wf_X9_7 inX9 dX9_apart_30 33 rfl (by decide) rfl rfl (by decide) (congrArg Value.int (hq)) ?_
      refine g_iload_n X dX9_apart_33 34 rfl rfl ?_
      refine g_isub X (v := (nI (q - (a - b)))) dX9_apart_34 35 rfl (pk_sub (by omega)) ?_
      refine g_iret (h := h) (v := (nI (q - (a - b)))) X Z dX9_apart_35 ?_
      exact ⟨congrArg nI (by unfold apt; omega), rfl⟩
    · skip
      refine g_iload_n X dX9_apart_25 26 rfl rfl ?_
      refine g_goto X dX9_apart_26 35 (by decide) ?_
      refine g_iret (h := h) (v := (nI (a - b))) X Z dX9_apart_35 ?_
      exact ⟨congrArg nI (by unfold apt; omega), rfl⟩
set_option maxHeartbeats 1000000 in
set_option maxRecDepth 100000 in
theorem c_M_copper (h : Mem) (q p m n d : Nat) (II : MI h q p m n d) : cI 25 ML yX9_copper cX9_copper 3 (some .int) 1 23 (fun ad => [.ref (ad (0))]) h (fun r h2 => r = nI (copS q (h 2) (h 3) (h 4) (h 5) n) ∧ h2 = h) := by
  refine cI_of MLW (by decide +kernel) (fun ad => Nat.le_of_ble_eq_true rfl) ?_
  intro K X Z
  obtain ⟨C, hsA, hsB, hpol, hdq, ⟨tz, htz, hto⟩, ⟨pz, hpz, hpk⟩, hshe⟩ := id II
  obtain ⟨hq, hp, hm, hq1, hq2, hp1, hp2, hm1, hm2, hn, hn2, hc, hd, hd1, hd2⟩ := id C
  show G 25 ML 3 K h 0 [(0, .ref (kad K (0)))] []
  refine g_iconst X dX9_copper_0 1 rfl (v := (nI (0))) rfl ?_
  refine g_istore_n X (lv' := [(0, .ref (kad K (0))), (1, .int (nI 0))]) dX9_copper_1 2 rfl (by decide) rfl rfl ?_
  refine g_iconst X dX9_copper_2 3 rfl (v := (nI (0))) rfl ?_
  refine g_istore_n X (lv' := [(0, .ref (kad K (0))), (1, .int (nI 0)), (2, .int (nI 0))]) dX9_copper_3 4 rfl (by decide) rfl rfl ?_
  have lp4 : ∀ (fu : Nat) (k : Nat) (u : Nat) (hk : k ≤ n) (hu : u = copS q (h 2) (h 3) (h 4) (h 5) k), n - k < fu → G 25 ML 3 K h 4 [(0, .ref (kad K (0))), (1, .int (nI (u))), (2, .int (nI (k)))] [] := by
    intro fu
    induction fu with
    | zero => intro k u hk hu hm; exact absurd hm (Nat.not_lt_zero _)
    | succ fu ih4 =>
      intro k u hk hu hm4
      have hcl := copS_le (q := q) (ci := h 2) (co := h 3) (tu := h 4) (us := h 5) hq2 k (fun j hj => (hc j (by omega)).tu.2.2)
      refine g_iload_n X dX9_copper_4 5 rfl rfl ?_
      refine g_aload_n X dX9_copper_5 6 rfl rfl ?_
      refine g_get (c := 0) (k := 3) (T := TX9) (sk := skM0) (v := .int (nI (n))) X wf_X9_116 inX9 dX9_copper_6 9 rfl (by decide) rfl rfl (by decide) (congrArg Value.int (hn)) ?_
      refine g_icmp_ge X ((k : Nat) : Int) ((n : Nat) : Int) dX9_copper_9 57 (by decide) 12 rfl (nI_toInt (by omega)) (nI_toInt (by omega)) (fun t9 => ?_) (fun f9 => ?_)
      · skip
        refine g_iload_n X dX9_copper_57 58 rfl rfl ?_
        refine g_iret (h := h) (v := (nI (u))) X Z dX9_copper_58 ?_
        exact ⟨by rw [hu, show k = n from by omega], rfl⟩
      · skip
        refine g_iload_n X dX9_copper_12 13 rfl rfl ?_
        refine g_aload_n X dX9_copper_13 14 rfl rfl ?_
        refine g_get (c := 0) (k := 8) (T := TX9) (sk := skM0) (v := .ref (kad K (5))) X wf_X9_32 inX9 dX9_copper_14 17 rfl (by decide) rfl rfl (by decide) rfl ?_
        refine g_iload_n X dX9_copper_17 18 rfl rfl ?_
        refine g_zald (c := 5) (n := 24) (r := 5) (o := 0) (i := k) (v := (bI (h 5 k = nI 1))) X dX9_copper_18 19 rfl (by decide) rfl rfl (by omega) (us_b (hc k (by omega)).us) ?_
        refine g_ifeq_B X dX9_copper_19 48 (by decide) 22 rfl (fun t19 => ?_) (fun f19 => ?_)
        · skip
          refine g_iconst X dX9_copper_48 49 rfl (v := (nI (0))) rfl ?_
          refine g_iadd X (v := (nI (u + 0))) dX9_copper_49 50 rfl (nI_add u 0) ?_
          refine g_istore_n X (lv' := [(0, .ref (kad K (0))), (1, .int (nI (u + 0))), (2, .int (nI (k)))]) dX9_copper_50 51 rfl (by decide) rfl rfl ?_
          refine g_iinc X (v := (nI (k + 1))) (lv' := [(0, .ref (kad K (0))), (1, .int (nI (u + 0))), (2, .int (nI (k + 1)))]) dX9_copper_51 54 rfl (by decide) rfl (n_inc k 1) rfl rfl ?_
          refine g_goto X dX9_copper_54 4 (by decide) ?_
          skip
          exact ih4 (k + 1) (u + 0) (by omega) (by rw [hu, copS, if_neg t19]) (by omega)
        · skip
          have hx1 := (hc k (by omega)).ci.2
          have hx2 := (hc k (by omega)).co.2
          have hx3 : tn (h 4 k) * apt q (tn (h 2 k)) (tn (h 3 k)) ≤ 99 * 24 := Nat.mul_le_mul (hc k (by omega)).tu.2.2 (Nat.le_trans (apt_le _ _ _) hq2)
          refine g_aload_n X dX9_copper_22 23 rfl rfl ?_
          refine g_get (c := 0) (k := 7) (T := TX9) (sk := skM0) (v := .ref (kad K (4))) X wf_X9_29 inX9 dX9_copper_23 26 rfl (by decide) rfl rfl (by decide) rfl ?_
          refine g_iload_n X dX9_copper_26 27 rfl rfl ?_
          refine g_iald (c := 4) (n := 24) (r := 4) (o := 0) (i := k) (v := (nI (tn (h 4 k)))) X dX9_copper_27 28 rfl (by decide) rfl rfl (by omega) ((hc k (by omega)).tu.1) ?_
          refine g_aload_n X dX9_copper_28 29 rfl rfl ?_
          refine g_aload_n X dX9_copper_29 30 rfl rfl ?_
          refine g_get (c := 0) (k := 5) (T := TX9) (sk := skM0) (v := .ref (kad K (2))) X wf_X9_23 inX9 dX9_copper_30 33 rfl (by decide) rfl rfl (by decide) rfl ?_
          refine g_iload_n X dX9_copper_33 34 rfl rfl ?_
          refine g_iald (c := 2) (n := 24) (r := 2) (o := 0) (i := k) (v := (nI (tn (h 2 k)))) X dX9_copper_34 35 rfl (by decide) rfl rfl (by omega) ((hc k (by omega)).ci.1) ?_
          refine g_aload_n X dX9_copper_35 36 rfl rfl ?_
          refine g_get (c := 0) (k := 6) (T := TX9) (sk := skM0) (v := .ref (kad K (3))) X wf_X9_26 inX9 dX9_copper_36 39 rfl (by decide) rfl rfl (by decide) rfl ?_
          refine g_iload_n X dX9_copper_39 40 rfl rfl ?_
          refine g_iald (c := 3) (n := 24) (r := 3) (o := 0) (i := k) (v := (nI (tn (h 3 k)))) X dX9_copper_40 41 rfl (by decide) rfl rfl (by omega) ((hc k (by omega)).co.1) ?_
          refine g_callVix (st := [.int (nI (tn (h 4 k))), .int (nI (u))]) (v := (nI (apt q (tn (h 2 k)) (tn (h 3 k))))) (m2 := h) X cw_X9_189 (c_M_apart h q (tn (h 2 k)) (tn (h 3 k)) hq (by omega) (by omega) (by omega)) dX9_copper_41 44 rfl (by decide) rfl rfl rfl rfl rfl (by decide) (Nat.le_of_ble_eq_true rfl) ?_
          refine g_imul X (v := (nI ((tn (h 4 k)) * (apt q (tn (h 2 k)) (tn (h 3 k)))))) dX9_copper_44 45 rfl (pk_mul (tn (h 4 k)) (apt q (tn (h 2 k)) (tn (h 3 k)))) ?_
          refine g_goto X dX9_copper_45 49 (by decide) ?_
          refine g_iadd X (v := (nI (u + ((tn (h 4 k)) * (apt q (tn (h 2 k)) (tn (h 3 k))))))) dX9_copper_49 50 rfl (nI_add u ((tn (h 4 k)) * (apt q (tn (h 2 k)) (tn (h 3 k))))) ?_
          refine g_istore_n X (lv' := [(0, .ref (kad K (0))), (1, .int (nI (u + ((tn (h 4 k)) * (apt q (tn (h 2 k)) (tn (h 3 k))))))), (2, .int (nI (k)))]) dX9_copper_50 51 rfl (by decide) rfl rfl ?_
          refine g_iinc X (v := (nI (k + 1))) (lv' := [(0, .ref (kad K (0))), (1, .int (nI (u + ((tn (h 4 k)) * (apt q (tn (h 2 k)) (tn (h 3 k))))))), (2, .int (nI (k + 1)))]) dX9_copper_51 54 rfl (by decide) rfl (n_inc k 1) rfl rfl ?_
          refine g_goto X dX9_copper_54 4 (by decide) ?_
          skip
          exact ih4 (k + 1) (u + tn (h 4 k) * apt q (tn (h 2 k)) (tn (h 3 k))) (by omega) (by rw [hu, copS, if_pos f19]) (by omega)
  skip
  exact lp4 _ 0 0 (by omega) rfl (Nat.lt_succ_self _)
set_option maxHeartbeats 1000000 in
set_option maxRecDepth 100000 in
theorem c_M_isSheet (h : Mem) (s y : Int32) : cI 25 ML yX9_isSheet cX9_isSheet 2 (some .boolean) 1 25 (fun ad => [.int (s), .int (y)]) h (fun r h2 => r = bI (okSh s y) ∧ h2 = h) := by
  refine cI_of MLW (by decide +kernel) (fun ad => Nat.le_of_ble_eq_true rfl) ?_
  intro K X Z
  show G 25 ML 2 K h 0 [(0, .int (s)), (1, .int (y))] []
  refine g_iload_n X dX9_isSheet_0 1 rfl rfl ?_
  refine g_i2l X (v := (s).toInt64) dX9_isSheet_1 2 rfl rfl ?_
  refine g_lconst X dX9_isSheet_2 3 rfl (v := (0 : Int64)) rfl ?_
  refine g_ldc2 X (v := (3)) dX9_isSheet_3 6 rfl wk_X9_96 ?_
  refine g_callSix (st := []) (v := (bI (0 ≤ (s).toInt ∧ (s).toInt ≤ 3))) (m2 := h) X cw_X9_100 (c_M_in h ((s).toInt64) (0 : Int64) (3 : Int64) ((s).toInt) 0 3 (i64_of rfl) rfl rfl) dX9_isSheet_6 9 rfl rfl rfl rfl (by decide) (Nat.le_of_ble_eq_true rfl) ?_
  refine g_ifeq_B X dX9_isSheet_9 28 (by decide) 12 rfl (fun t9 => ?_) (fun f9 => ?_)
  · skip
    refine g_iconst X dX9_isSheet_28 29 rfl (v := (nI (0))) rfl ?_
    refine g_zret (h := h) (v := (nI (0))) X Z dX9_isSheet_29 (Or.inl rfl) ?_
    exact ⟨(bI_f (fun z => t9 z.1)).symm, rfl⟩
  · skip
    refine g_iload_n X dX9_isSheet_12 13 rfl rfl ?_
    refine g_i2l X (v := (y).toInt64) dX9_isSheet_13 14 rfl rfl ?_
    refine g_lconst X dX9_isSheet_14 15 rfl (v := (0 : Int64)) rfl ?_
    refine g_ldc2 X (v := (2)) dX9_isSheet_15 18 rfl wk_X9_207 ?_
    refine g_callSix (st := []) (v := (bI (0 ≤ (y).toInt ∧ (y).toInt ≤ 2))) (m2 := h) X cw_X9_100 (c_M_in h ((y).toInt64) (0 : Int64) (2 : Int64) ((y).toInt) 0 2 (i64_of rfl) rfl rfl) dX9_isSheet_18 21 rfl rfl rfl rfl (by decide) (Nat.le_of_ble_eq_true rfl) ?_
    refine g_ifeq_B X dX9_isSheet_21 28 (by decide) 24 rfl (fun t21 => ?_) (fun f21 => ?_)
    · skip
      refine g_iconst X dX9_isSheet_28 29 rfl (v := (nI (0))) rfl ?_
      refine g_zret (h := h) (v := (nI (0))) X Z dX9_isSheet_29 (Or.inl rfl) ?_
      exact ⟨(bI_f (fun z => t21 z.2)).symm, rfl⟩
    · skip
      refine g_iconst X dX9_isSheet_24 25 rfl (v := (nI (1))) rfl ?_
      refine g_goto X dX9_isSheet_25 29 (by decide) ?_
      refine g_zret (h := h) (v := (nI (1))) X Z dX9_isSheet_29 (Or.inr rfl) ?_
      exact ⟨(bI_t ⟨f9, f21⟩).symm, rfl⟩
set_option maxHeartbeats 1000000 in
set_option maxRecDepth 100000 in
theorem c_M_sheet (h : Mem) (q p m n d : Nat) (II : MI h q p m n d) (x0 x1 x2 : Int32) : cI 25 ML yX9_sheet cX9_sheet 5 (some .int) 2 46 (fun ad => [.ref (ad (0)), .int (x0), .int (x1), .int (x2)]) h (fun r h2 => r = shV x0 x1 x2 ∧ h2 = if shG x0 x1 x2 ∧ 0 ≤ x2.toInt then shN h x0 x1 x2 else h) := by
  refine cI_of MLW (by decide +kernel) (fun ad => Nat.le_of_ble_eq_true rfl) ?_
  intro K X Z
  obtain ⟨C, hsA, hsB, hpol, hdq, ⟨tz, htz, hto⟩, ⟨pz, hpz, hpk⟩, hshe⟩ := id II
  obtain ⟨hq, hp, hm, hq1, hq2, hp1, hp2, hm1, hm2, hn, hn2, hc, hd, hd1, hd2⟩ := id C
  show G 25 ML 5 K h 0 [(0, .ref (kad K (0))), (1, .int (x0)), (2, .int (x1)), (3, .int (x2))] []
  refine g_iload_n X dX9_sheet_0 1 rfl rfl ?_
  refine g_iload_n X dX9_sheet_1 2 rfl rfl ?_
  refine g_callSix (st := []) (v := (bI (okSh (x0) (x1)))) (m2 := h) X cw_X9_209 (c_M_isSheet h (x0) (x1)) dX9_sheet_2 5 rfl rfl rfl rfl (by decide) (Nat.le_of_ble_eq_true rfl) ?_
  refine g_ifeq_B X dX9_sheet_5 14 (by decide) 8 rfl (fun t5 => ?_) (fun f5 => ?_)
  · skip
    refine g_iconst X dX9_sheet_14 15 rfl (v := (zI (-1))) rfl ?_
    refine g_iret (h := h) (v := (zI (-1))) X Z dX9_sheet_15 ?_
    exact ⟨(if_neg (fun z => t5 z.1)).symm, (if_neg (fun z => t5 z.1.1)).symm⟩
  · skip
    refine g_iload_n X dX9_sheet_8 9 rfl rfl ?_
    refine g_bipush X dX9_sheet_9 11 rfl (v := (nI (96))) rfl ?_
    refine g_icmp_le X ((x2).toInt) 96 dX9_sheet_11 16 (by decide) 14 rfl rfl rfl (fun t11 => ?_) (fun f11 => ?_)
    · skip
      refine g_iload_n X dX9_sheet_16 17 rfl rfl ?_
      refine g_if_ge X ((x2).toInt) dX9_sheet_17 23 (by decide) 20 rfl rfl (fun t17 => ?_) (fun f17 => ?_)
      · skip
        obtain ⟨s, hs0_, hs_, rfl⟩ := inR_3 (a := 0) (b := 3) f5.1
        have es : tn (nI s) = s := tn_nI (by omega)
        obtain ⟨k, hk0, hk, rfl⟩ := inR_3 (a := 0) (b := 96) ⟨by omega, by omega⟩
        refine g_aload_n X dX9_sheet_23 24 rfl rfl ?_
        refine g_get (c := 0) (k := 28) (T := TX9) (sk := skM0) (v := .ref (kad K (21))) X wf_X9_81 inX9 dX9_sheet_24 27 rfl (by decide) rfl rfl (by decide) rfl ?_
        refine g_iload_n X dX9_sheet_27 28 rfl rfl ?_
        refine g_iload_n X dX9_sheet_28 29 rfl rfl ?_
        refine g_iast (c := 21) (n := 4) (r := 21) (o := 0) (i := s) X dX9_sheet_29 30 rfl (by decide) rfl rfl (by omega) ?_
        refine g_aload_n X dX9_sheet_30 31 rfl rfl ?_
        refine g_get (c := 0) (k := 29) (T := TX9) (sk := skM0) (v := .ref (kad K (22))) X wf_X9_84 inX9 dX9_sheet_31 34 rfl (by decide) rfl rfl (by decide) rfl ?_
        refine g_iload_n X dX9_sheet_34 35 rfl rfl ?_
        refine g_iload_n X dX9_sheet_35 36 rfl rfl ?_
        refine g_iast (c := 22) (n := 4) (r := 22) (o := 0) (i := s) X dX9_sheet_36 37 rfl (by decide) rfl rfl (by omega) ?_
        refine g_iconst X dX9_sheet_37 38 rfl (v := (nI (0))) rfl ?_
        refine g_istore X (lv' := [(0, .ref (kad K (0))), (1, .int (nI (s))), (2, .int (x1)), (3, .int (nI (k))), (4, .int (nI 0))]) dX9_sheet_38 40 rfl (by decide) rfl rfl ?_
        have lp40 : ∀ (fu : Nat) (j : Nat) (hj : j ≤ 96), 96 - j < fu → G 25 ML 5 K (mrow (mup (mup h 21 s (x1)) 22 s (nI (k))) 23 (gput (h 23) (96 * s) 96 (zrK (grd (h 23) (96 * s)) j))) 40 [(0, .ref (kad K (0))), (1, .int (nI (s))), (2, .int (x1)), (3, .int (nI (k))), (4, .int (nI (j)))] [] := by
          intro fu
          induction fu with
          | zero => intro j hj hm; exact absurd hm (Nat.not_lt_zero _)
          | succ fu ih40 =>
            intro j hj hm40
            refine g_iload X dX9_sheet_40 42 rfl rfl ?_
            refine g_bipush X dX9_sheet_42 44 rfl (v := (nI (96))) rfl ?_
            refine g_icmp_ge X ((j : Nat) : Int) 96 dX9_sheet_44 66 (by decide) 47 rfl (nI_toInt (by omega)) rfl (fun t44 => ?_) (fun f44 => ?_)
            · skip
              refine g_iload_n X dX9_sheet_66 67 rfl rfl ?_
              refine g_iret (h := (mrow (mup (mup h 21 s (x1)) 22 s (nI (k))) 23 (gput (h 23) (96 * s) 96 (zrK (grd (h 23) (96 * s)) j)))) (v := (nI (k))) X Z dX9_sheet_67 ?_
              refine ⟨((if_pos ⟨f5, t11⟩).trans (if_neg (by omega))).symm, ((if_pos ⟨⟨f5, t11⟩, t17⟩).trans ?_).symm⟩
              rw [shN, es]
              exact congrArg (mrow (mup (mup h 21 s x1) 22 s (nI k)) 23) (gput_congr (fun i hi => (if_pos (by omega)).symm))
            · skip
              refine g_aload_n X dX9_sheet_47 48 rfl rfl ?_
              refine g_get (c := 0) (k := 30) (T := TX9) (sk := skM0) (v := .ref (kad K (23))) X wf_X9_87 inX9 dX9_sheet_48 51 rfl (by decide) rfl rfl (by decide) rfl ?_
              refine g_bipush X dX9_sheet_51 53 rfl (v := (nI (96))) rfl ?_
              refine g_iload_n X dX9_sheet_53 54 rfl rfl ?_
              refine g_imul X (v := (nI (96 * s))) dX9_sheet_54 55 rfl (pk_mul 96 s) ?_
              refine g_iload X dX9_sheet_55 57 rfl rfl ?_
              refine g_iadd X (v := (nI (96 * s + j))) dX9_sheet_57 58 rfl (nI_add (96 * s) j) ?_
              refine g_iconst X dX9_sheet_58 59 rfl (v := (nI (0))) rfl ?_
              refine g_iast (c := 23) (n := 384) (r := 23) (o := 0) (i := 96 * s + j) X dX9_sheet_59 60 rfl (by decide) rfl rfl (by omega) ?_
              refine g_iinc X (v := (nI (j + 1))) (lv' := [(0, .ref (kad K (0))), (1, .int (nI (s))), (2, .int (x1)), (3, .int (nI (k))), (4, .int (nI (j + 1)))]) dX9_sheet_60 63 rfl (by decide) rfl (n_inc j 1) rfl rfl ?_
              refine g_goto X dX9_sheet_63 40 (by decide) ?_
              skip
              refine g_mem (h := (mup (mrow (mup (mup h 21 s (x1)) 22 s (nI (k))) 23 (gput (h 23) (96 * s) 96 (zrK (grd (h 23) (96 * s)) j))) 23 (96 * s + j) (nI (0)))) (h' := (mrow (mup (mup h 21 s (x1)) 22 s (nI (k))) 23 (gput (h 23) (96 * s) 96 (zrK (grd (h 23) (96 * s)) (j + 1))))) (by rw [show 96 * s + j = j + 96 * s from Nat.add_comm _ _]; exact gput_up (h := mup (mup h 21 s x1) 22 s (nI k)) (by omega) (fun i0 _ => congrFun (zrK_s (grd (h 23) (96 * s)) j) i0)) ?_
              exact ih40 (j + 1) (by omega) (by omega)
        skip
        refine g_mem (h := (mup (mup h 21 s (x1)) 22 s (nI (k)))) (h' := (mrow (mup (mup h 21 s (x1)) 22 s (nI (k))) 23 (gput (h 23) (96 * s) 96 (zrK (grd (h 23) (96 * s)) 0)))) (by rw [zrK_0]; exact (gput_row (mup (mup h 21 s x1) 22 s (nI k)) 23 (96 * s) 96).symm) ?_
        exact lp40 _ 0 (by omega) (Nat.lt_succ_self _)
      · skip
        refine g_bipush X dX9_sheet_20 22 rfl (v := (zI (-14))) rfl ?_
        refine g_iret (h := h) (v := (zI (-14))) X Z dX9_sheet_22 ?_
        exact ⟨((if_pos ⟨f5, t11⟩).trans (if_pos (by omega))).symm, (if_neg (fun z => f17 z.2)).symm⟩
    · skip
      refine g_iconst X dX9_sheet_14 15 rfl (v := (zI (-1))) rfl ?_
      refine g_iret (h := h) (v := (zI (-1))) X Z dX9_sheet_15 ?_
      exact ⟨(if_neg (fun z => f11 z.2)).symm, (if_neg (fun z => f11 z.1.2)).symm⟩
set_option maxHeartbeats 1000000 in
set_option maxRecDepth 100000 in
theorem c_M_drop (h : Mem) (q p m n d : Nat) (II : MI h q p m n d) (x0 : Int32) : cI 25 ML yX9_drop cX9_drop 2 (some .int) 1 25 (fun ad => [.ref (ad (0)), .int (x0)]) h (fun r h2 => r = drV x0 (h 21) (h 22) ∧ h2 = if drG x0 (h 21) then mup h 21 (tn x0) (zI (-1)) else h) := by
  refine cI_of MLW (by decide +kernel) (fun ad => Nat.le_of_ble_eq_true rfl) ?_
  intro K X Z
  obtain ⟨C, hsA, hsB, hpol, hdq, ⟨tz, htz, hto⟩, ⟨pz, hpz, hpk⟩, hshe⟩ := id II
  obtain ⟨hq, hp, hm, hq1, hq2, hp1, hp2, hm1, hm2, hn, hn2, hc, hd, hd1, hd2⟩ := id C
  show G 25 ML 2 K h 0 [(0, .ref (kad K (0))), (1, .int (x0))] []
  refine g_iload_n X dX9_drop_0 1 rfl rfl ?_
  refine g_i2l X (v := (x0).toInt64) dX9_drop_1 2 rfl rfl ?_
  refine g_lconst X dX9_drop_2 3 rfl (v := (0 : Int64)) rfl ?_
  refine g_ldc2 X (v := (3)) dX9_drop_3 6 rfl wk_X9_96 ?_
  refine g_callSix (st := []) (v := (bI (0 ≤ (x0).toInt ∧ (x0).toInt ≤ 3))) (m2 := h) X cw_X9_100 (c_M_in h ((x0).toInt64) (0 : Int64) (3 : Int64) ((x0).toInt) 0 3 (i64_of rfl) rfl rfl) dX9_drop_6 9 rfl rfl rfl rfl (by decide) (Nat.le_of_ble_eq_true rfl) ?_
  refine g_ifne_B X dX9_drop_9 14 (by decide) 12 rfl (fun t9 => ?_) (fun f9 => ?_)
  · skip
    obtain ⟨s, hs0_, hs_, rfl⟩ := inR_3 (a := 0) (b := 3) t9
    have es : tn (nI s) = s := tn_nI (by omega)
    obtain ⟨⟨hl1, hl2⟩, zz, hzz, hze⟩ := hshe s (by omega)
    have ez : tn (h 22 s) = zz := by rw [hze]; exact tn_nI (by omega)
    refine g_aload_n X dX9_drop_14 15 rfl rfl ?_
    refine g_get (c := 0) (k := 28) (T := TX9) (sk := skM0) (v := .ref (kad K (21))) X wf_X9_81 inX9 dX9_drop_15 18 rfl (by decide) rfl rfl (by decide) rfl ?_
    refine g_iload_n X dX9_drop_18 19 rfl rfl ?_
    refine g_iald (c := 21) (n := 4) (r := 21) (o := 0) (i := s) (v := (h 21 s)) X dX9_drop_19 20 rfl (by decide) rfl rfl (by omega) rfl ?_
    refine g_if_ge X ((h 21 s).toInt) dX9_drop_20 26 (by decide) 23 rfl rfl (fun t20 => ?_) (fun f20 => ?_)
    · skip
      refine g_aload_n X dX9_drop_26 27 rfl rfl ?_
      refine g_get (c := 0) (k := 28) (T := TX9) (sk := skM0) (v := .ref (kad K (21))) X wf_X9_81 inX9 dX9_drop_27 30 rfl (by decide) rfl rfl (by decide) rfl ?_
      refine g_iload_n X dX9_drop_30 31 rfl rfl ?_
      refine g_iconst X dX9_drop_31 32 rfl (v := (zI (-1))) rfl ?_
      refine g_iast (c := 21) (n := 4) (r := 21) (o := 0) (i := s) X dX9_drop_32 33 rfl (by decide) rfl rfl (by omega) ?_
      refine g_aload_n X dX9_drop_33 34 rfl rfl ?_
      refine g_get (c := 0) (k := 29) (T := TX9) (sk := skM0) (v := .ref (kad K (22))) X wf_X9_84 inX9 dX9_drop_34 37 rfl (by decide) rfl rfl (by decide) rfl ?_
      refine g_iload_n X dX9_drop_37 38 rfl rfl ?_
      refine g_iald (c := 22) (n := 4) (r := 22) (o := 0) (i := s) (v := (h 22 s)) X dX9_drop_38 39 rfl (by decide) rfl rfl (by omega) rfl ?_
      refine g_iret (h := (mup h 21 s (zI (-1)))) (v := (h 22 s)) X Z dX9_drop_39 ?_
      exact ⟨((if_pos t9).trans ((if_neg (by rw [es]; omega)).trans (by rw [es]))).symm, ((if_pos ⟨t9, by rw [es]; omega⟩).trans (by rw [es])).symm⟩
    · skip
      refine g_bipush X dX9_drop_23 25 rfl (v := (zI (-11))) rfl ?_
      refine g_iret (h := h) (v := (zI (-11))) X Z dX9_drop_25 ?_
      exact ⟨((if_pos t9).trans (if_pos (by rw [es]; omega))).symm, (if_neg (fun z => z.2 (by rw [es]; omega))).symm⟩
  · skip
    refine g_iconst X dX9_drop_12 13 rfl (v := (zI (-1))) rfl ?_
    refine g_iret (h := h) (v := (zI (-1))) X Z dX9_drop_13 ?_
    exact ⟨(if_neg f9).symm, (if_neg (fun z => f9 z.1)).symm⟩
set_option maxHeartbeats 1000000 in
set_option maxRecDepth 100000 in
theorem c_M_item (h : Mem) (q p m n d : Nat) (II : MI h q p m n d) (x0 x1 x2 x3 : Int32) : cI 25 ML yX9_item cX9_item 5 (some .int) 2 46 (fun ad => [.ref (ad (0)), .int (x0), .int (x1), .int (x2), .int (x3)]) h (fun r h2 => r = (if okSh x0 x1 then (if (iuR h x0 x1 x2 1).toInt = 0 then nI 1 else iuR h x0 x1 x2 1) else zI (-1)) ∧ h2 = if okSh x0 x1 ∧ (iuR h x0 x1 x2 1).toInt = 0 then iuM h x0 x2 x3 else h) := by
  refine cI_of MLW (by decide +kernel) (fun ad => Nat.le_of_ble_eq_true rfl) ?_
  intro K X Z
  obtain ⟨C, hsA, hsB, hpol, hdq, ⟨tz, htz, hto⟩, ⟨pz, hpz, hpk⟩, hshe⟩ := id II
  obtain ⟨hq, hp, hm, hq1, hq2, hp1, hp2, hm1, hm2, hn, hn2, hc, hd, hd1, hd2⟩ := id C
  show G 25 ML 5 K h 0 [(0, .ref (kad K (0))), (1, .int (x0)), (2, .int (x1)), (3, .int (x2)), (4, .int (x3))] []
  refine g_iload_n X dX9_item_0 1 rfl rfl ?_
  refine g_iload_n X dX9_item_1 2 rfl rfl ?_
  refine g_callSix (st := []) (v := (bI (okSh (x0) (x1)))) (m2 := h) X cw_X9_209 (c_M_isSheet h (x0) (x1)) dX9_item_2 5 rfl rfl rfl rfl (by decide) (Nat.le_of_ble_eq_true rfl) ?_
  refine g_ifne_B X dX9_item_5 10 (by decide) 8 rfl (fun t5 => ?_) (fun f5 => ?_)
  · skip
    obtain ⟨s, hs0_, hs_, rfl⟩ := inR_3 (a := 0) (b := 3) t5.1
    have es : tn (nI s) = s := tn_nI (by omega)
    obtain ⟨⟨hl1, hl2⟩, zz, hzz, hze⟩ := hshe s (by omega)
    have ez : tn (h 22 s) = zz := by rw [hze]; exact tn_nI (by omega)
    refine g_aload_n X dX9_item_10 11 rfl rfl ?_
    refine g_get (c := 0) (k := 28) (T := TX9) (sk := skM0) (v := .ref (kad K (21))) X wf_X9_81 inX9 dX9_item_11 14 rfl (by decide) rfl rfl (by decide) rfl ?_
    refine g_iload_n X dX9_item_14 15 rfl rfl ?_
    refine g_iald (c := 21) (n := 4) (r := 21) (o := 0) (i := s) (v := (h 21 s)) X dX9_item_15 16 rfl (by decide) rfl rfl (by omega) rfl ?_
    refine g_iload_n X dX9_item_16 17 rfl rfl ?_
    refine g_icmp_eq X ((h 21 s).toInt) ((x1).toInt) dX9_item_17 37 (by decide) 20 rfl rfl rfl (fun t17 => ?_) (fun f17 => ?_)
    · skip
      refine g_iload_n X dX9_item_37 38 rfl rfl ?_
      refine g_i2l X (v := (x2).toInt64) dX9_item_38 39 rfl rfl ?_
      refine g_lconst X dX9_item_39 40 rfl (v := (0 : Int64)) rfl ?_
      refine g_aload_n X dX9_item_40 41 rfl rfl ?_
      refine g_get (c := 0) (k := 29) (T := TX9) (sk := skM0) (v := .ref (kad K (22))) X wf_X9_84 inX9 dX9_item_41 44 rfl (by decide) rfl rfl (by decide) rfl ?_
      refine g_iload_n X dX9_item_44 45 rfl rfl ?_
      refine g_iald (c := 22) (n := 4) (r := 22) (o := 0) (i := s) (v := (nI (zz))) X dX9_item_45 46 rfl (by decide) rfl rfl (by omega) hze ?_
      refine g_iconst X dX9_item_46 47 rfl (v := (nI (1))) rfl ?_
      refine g_isub X (v := (zI (((zz : Nat) : Int) - ((1 : Nat) : Int)))) dX9_item_47 48 rfl (nn_sub zz 1) ?_
      refine g_i2l X (v := (zI (((zz : Nat) : Int) - ((1 : Nat) : Int))).toInt64) dX9_item_48 49 rfl rfl ?_
      refine g_callSix (st := []) (v := (bI (0 ≤ (x2).toInt ∧ (x2).toInt ≤ ((zz : Nat) : Int) - ((1 : Nat) : Int)))) (m2 := h) X cw_X9_100 (c_M_in h ((x2).toInt64) (0 : Int64) ((zI (((zz : Nat) : Int) - ((1 : Nat) : Int))).toInt64) ((x2).toInt) 0 (((zz : Nat) : Int) - ((1 : Nat) : Int)) (i64_of rfl) rfl (i64_of (zI_toInt (by omega)))) dX9_item_49 52 rfl rfl rfl rfl (by decide) (Nat.le_of_ble_eq_true rfl) ?_
      refine g_ifne_B X dX9_item_52 58 (by decide) 55 rfl (fun t52 => ?_) (fun f52 => ?_)
      · skip
        obtain ⟨k, hk0, hk, rfl⟩ := inR_3 (x := x2) (a := 0) (b := 95) ⟨t52.1, by omega⟩
        have ek : tn (nI k) = k := tn_nI (by omega)
        have e7 : iuR h (nI s) x1 (nI k) 1 = nI 0 := by
          rw [iuR, es, ez]
          exact (if_neg (by omega)).trans ((if_neg (by omega)).trans (if_pos t52))
        refine g_aload_n X dX9_item_58 59 rfl rfl ?_
        refine g_get (c := 0) (k := 30) (T := TX9) (sk := skM0) (v := .ref (kad K (23))) X wf_X9_87 inX9 dX9_item_59 62 rfl (by decide) rfl rfl (by decide) rfl ?_
        refine g_bipush X dX9_item_62 64 rfl (v := (nI (96))) rfl ?_
        refine g_iload_n X dX9_item_64 65 rfl rfl ?_
        refine g_imul X (v := (nI (96 * s))) dX9_item_65 66 rfl (pk_mul 96 s) ?_
        refine g_iload_n X dX9_item_66 67 rfl rfl ?_
        refine g_iadd X (v := (nI (96 * s + k))) dX9_item_67 68 rfl (nI_add (96 * s) k) ?_
        refine g_iload_n X dX9_item_68 69 rfl rfl ?_
        refine g_if_ne X ((x1).toInt) dX9_item_69 83 (by decide) 72 rfl rfl (fun t69 => ?_) (fun f69 => ?_)
        · skip
          refine g_iload X dX9_item_83 85 rfl rfl ?_
          refine g_iast (c := 23) (n := 384) (r := 23) (o := 0) (i := 96 * s + k) X dX9_item_85 86 rfl (by decide) rfl rfl (by omega) ?_
          refine g_iconst X dX9_item_86 87 rfl (v := (nI (1))) rfl ?_
          refine g_iret (h := (mup h 23 (96 * s + k) (x3))) (v := (nI (1))) X Z dX9_item_87 ?_
          exact ⟨((if_pos t5).trans (if_pos (by rw [e7]; rfl))).symm, ((if_pos ⟨t5, by rw [e7]; rfl⟩).trans (by rw [iuM, es, ek, if_neg (by omega)])).symm⟩
        · skip
          refine g_iload X dX9_item_72 74 rfl rfl ?_
          refine g_bipush X dX9_item_74 76 rfl (v := (nI (24))) rfl ?_
          refine g_ishl X (v := ((x3) <<< ((nI (24)) &&& 31))) dX9_item_76 77 rfl rfl ?_
          refine g_bipush X dX9_item_77 79 rfl (v := (nI (24))) rfl ?_
          refine g_ishr X (v := (x3.toInt8.toInt32)) dX9_item_79 80 rfl (byte_sh x3) ?_
          refine g_goto X dX9_item_80 85 (by decide) ?_
          refine g_iast (c := 23) (n := 384) (r := 23) (o := 0) (i := 96 * s + k) X dX9_item_85 86 rfl (by decide) rfl rfl (by omega) ?_
          refine g_iconst X dX9_item_86 87 rfl (v := (nI (1))) rfl ?_
          refine g_iret (h := (mup h 23 (96 * s + k) (x3.toInt8.toInt32))) (v := (nI (1))) X Z dX9_item_87 ?_
          exact ⟨((if_pos t5).trans (if_pos (by rw [e7]; rfl))).symm, ((if_pos ⟨t5, by rw [e7]; rfl⟩).trans (by rw [iuM, es, ek, if_pos (by omega)])).symm⟩
      · skip
        refine g_bipush X dX9_item_55 57 rfl (v := (zI (-13))) rfl ?_
        refine g_iret (h := h) (v := (zI (-13))) X Z dX9_item_57 ?_
        have e7 : iuR h (nI s) x1 x2 1 = zI (-13) := by
          rw [iuR, es, ez]
          exact (if_neg (by omega)).trans ((if_neg (by omega)).trans (if_neg f52))
        exact ⟨((if_pos t5).trans ((if_neg (by rw [e7]; decide)).trans e7)).symm, (if_neg (fun z => absurd z.2 (by rw [e7]; decide))).symm⟩
    · skip
      refine g_aload_n X dX9_item_20 21 rfl rfl ?_
      refine g_get (c := 0) (k := 28) (T := TX9) (sk := skM0) (v := .ref (kad K (21))) X wf_X9_81 inX9 dX9_item_21 24 rfl (by decide) rfl rfl (by decide) rfl ?_
      refine g_iload_n X dX9_item_24 25 rfl rfl ?_
      refine g_iald (c := 21) (n := 4) (r := 21) (o := 0) (i := s) (v := (h 21 s)) X dX9_item_25 26 rfl (by decide) rfl rfl (by omega) rfl ?_
      refine g_if_ge X ((h 21 s).toInt) dX9_item_26 34 (by decide) 29 rfl rfl (fun t26 => ?_) (fun f26 => ?_)
      · skip
        refine g_bipush X dX9_item_34 36 rfl (v := (zI (-12))) rfl ?_
        refine g_iret (h := h) (v := (zI (-12))) X Z dX9_item_36 ?_
        have e7 : iuR h (nI s) x1 x2 1 = zI (-12) := by
          rw [iuR, es, ez]
          exact (if_neg (by omega)).trans (if_pos f17)
        exact ⟨((if_pos t5).trans ((if_neg (by rw [e7]; decide)).trans e7)).symm, (if_neg (fun z => absurd z.2 (by rw [e7]; decide))).symm⟩
      · skip
        refine g_bipush X dX9_item_29 31 rfl (v := (zI (-11))) rfl ?_
        refine g_goto X dX9_item_31 36 (by decide) ?_
        refine g_iret (h := h) (v := (zI (-11))) X Z dX9_item_36 ?_
        have e7 : iuR h (nI s) x1 x2 1 = zI (-11) := by
          rw [iuR, es, ez]
          exact if_pos (by omega)
        exact ⟨((if_pos t5).trans ((if_neg (by rw [e7]; decide)).trans e7)).symm, (if_neg (fun z => absurd z.2 (by rw [e7]; decide))).symm⟩
  · skip
    refine g_iconst X dX9_item_8 9 rfl (v := (zI (-1))) rfl ?_
    refine g_iret (h := h) (v := (zI (-1))) X Z dX9_item_9 ?_
    exact ⟨(if_neg f5).symm, (if_neg (fun z => f5 z.1)).symm⟩
