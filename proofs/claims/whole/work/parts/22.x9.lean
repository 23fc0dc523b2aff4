def motM (h : Mem) (x0 x1 x2 : Int32) : Mem := rtM (mup (mup (mup (kfM h 0) 1 0 x0) 1 1 x1) 1 2 x2) (tn x0) (dgN (tn x0))
set_option maxHeartbeats 1000000 in
set_option maxRecDepth 100000 in
theorem c_X8_motor (h : Mem) (q p m n d : Nat) (I : XI h q p m n d) (x0 x1 x2 : Int32) : cI 69 XL yX8_motor cX8_motor 4 (some .int) 3 68 (fun ad => [.ref (ad (0)), .int (x0), .int (x1), .int (x2)]) h (fun r h2 => r = (if okMot x0 x1 x2 then nI 1 else zI (-1)) ∧ h2 = if okMot x0 x1 x2 then motM h x0 x1 x2 else h) := by
  refine cI_of XLW (by decide +kernel) (fun ad => Nat.le_of_ble_eq_true rfl) ?_
  intro K X Z
  obtain ⟨C, hsd, hs2, hdg, hpo, hpw, hh0, hs0, ht0, ⟨tz, htz, hto⟩, ⟨pz, hpz, hpk⟩, hshe⟩ := id I
  obtain ⟨hq, hp, hm, hq1, hq2, hp1, hp2, hm1, hm2, hn, hn2, hc, hq0, hd, hd1, hd2⟩ := id C
  show G 69 XL 4 K h 0 [(0, .ref (kad K (0))), (1, .int (x0)), (2, .int (x1)), (3, .int (x2))] []
  refine g_iload_n X dX8_motor_0 1 rfl rfl ?_
  refine g_iconst X dX8_motor_1 2 rfl (v := (nI (3))) rfl ?_
  refine g_bipush X dX8_motor_2 4 rfl (v := (nI (24))) rfl ?_
  refine g_callSix (st := []) (v := (bI (3 ≤ (x0).toInt ∧ (x0).toInt ≤ 24))) (m2 := h) X cw_X8_81 (c_X8_isWithin h (x0) (nI (3)) (nI (24)) ((x0).toInt) 3 24 rfl rfl rfl) dX8_motor_4 7 rfl rfl rfl rfl (by decide) (Nat.le_of_ble_eq_true rfl) ?_
  refine g_ifeq_B X dX8_motor_7 29 (by decide) 10 rfl (fun t7 => ?_) (fun f7 => ?_)
  · skip
    refine g_iconst X dX8_motor_29 30 rfl (v := (zI (-1))) rfl ?_
    refine g_iret (h := h) (v := (zI (-1))) X Z dX8_motor_30 ?_
    exact ⟨(if_neg (fun z => t7 z.1)).symm, (if_neg (fun z => t7 z.1)).symm⟩
  · skip
    refine g_iload_n X dX8_motor_10 11 rfl rfl ?_
    refine g_iconst X dX8_motor_11 12 rfl (v := (nI (1))) rfl ?_
    refine g_bipush X dX8_motor_12 14 rfl (v := (nI (6))) rfl ?_
    refine g_callSix (st := []) (v := (bI (1 ≤ (x1).toInt ∧ (x1).toInt ≤ 6))) (m2 := h) X cw_X8_81 (c_X8_isWithin h (x1) (nI (1)) (nI (6)) ((x1).toInt) 1 6 rfl rfl rfl) dX8_motor_14 17 rfl rfl rfl rfl (by decide) (Nat.le_of_ble_eq_true rfl) ?_
    refine g_ifeq_B X dX8_motor_17 29 (by decide) 20 rfl (fun t17 => ?_) (fun f17 => ?_)
    · skip
      refine g_iconst X dX8_motor_29 30 rfl (v := (zI (-1))) rfl ?_
      refine g_iret (h := h) (v := (zI (-1))) X Z dX8_motor_30 ?_
      exact ⟨(if_neg (fun z => t17 z.2.1)).symm, (if_neg (fun z => t17 z.2.1)).symm⟩
    · skip
      refine g_iload_n X dX8_motor_20 21 rfl rfl ?_
      refine g_iconst X dX8_motor_21 22 rfl (v := (nI (1))) rfl ?_
      refine g_iconst X dX8_motor_22 23 rfl (v := (nI (3))) rfl ?_
      refine g_callSix (st := []) (v := (bI (1 ≤ (x2).toInt ∧ (x2).toInt ≤ 3))) (m2 := h) X cw_X8_81 (c_X8_isWithin h (x2) (nI (1)) (nI (3)) ((x2).toInt) 1 3 rfl rfl rfl) dX8_motor_23 26 rfl rfl rfl rfl (by decide) (Nat.le_of_ble_eq_true rfl) ?_
      refine g_ifne_B X dX8_motor_26 31 (by decide) 29 rfl (fun t26 => ?_) (fun f26 => ?_)
      · skip
        obtain ⟨q0, hq01, hq02, rfl⟩ := inR_3 (a := 3) (b := 24) f7
        obtain ⟨p0, hp01, hp02, rfl⟩ := inR_3 (a := 1) (b := 6) f17
        obtain ⟨m0, hm01, hm02, rfl⟩ := inR_3 (a := 1) (b := 3) t26
        obtain ⟨hd91, hd92, hd93⟩ := dgN_ok q0 (by omega) (by omega)
        refine g_aload_n X dX8_motor_31 32 rfl rfl ?_
        refine g_get (c := 0) (k := 2) (T := TX8) (sk := skX0) (v := .ref (kad K (29))) X wf_X8_36 inX8 dX8_motor_32 35 rfl (by decide) rfl rfl (by decide) rfl ?_
        refine g_iconst X dX8_motor_35 36 rfl (v := (nI (0))) rfl ?_
        refine g_callVvx (st := []) (m2 := (kfM h 0)) X cw_X8_85 (c_X0_keepFirst h q m 0 n hn hn2 hq2 hc hsd (Nat.zero_le _)) dX8_motor_36 39 rfl (by decide) rfl rfl rfl rfl rfl (by decide) (Nat.le_of_ble_eq_true rfl) ?_
        refine g_aload_n X dX8_motor_39 40 rfl rfl ?_
        refine g_get (c := 0) (k := 0) (T := TX8) (sk := skX0) (v := .ref (kad K (1))) X wf_X8_12 inX8 dX8_motor_40 43 rfl (by decide) rfl rfl (by decide) rfl ?_
        refine g_iload_n X dX8_motor_43 44 rfl rfl ?_
        refine g_put (c := 1) (k := 0) (T := TX1) (sk := skX1) X wf_X8_23 inX1 tyX1_ok nmX1 dX8_motor_44 47 rfl (by decide) rfl rfl (by decide) rfl rfl rfl ?_
        refine g_aload_n X dX8_motor_47 48 rfl rfl ?_
        refine g_get (c := 0) (k := 0) (T := TX8) (sk := skX0) (v := .ref (kad K (1))) X wf_X8_12 inX8 dX8_motor_48 51 rfl (by decide) rfl rfl (by decide) rfl ?_
        refine g_iload_n X dX8_motor_51 52 rfl rfl ?_
        refine g_put (c := 1) (k := 1) (T := TX1) (sk := skX1) X wf_X8_88 inX1 tyX1_ok nmX1 dX8_motor_52 55 rfl (by decide) rfl rfl (by decide) rfl rfl rfl ?_
        refine g_aload_n X dX8_motor_55 56 rfl rfl ?_
        refine g_get (c := 0) (k := 0) (T := TX8) (sk := skX0) (v := .ref (kad K (1))) X wf_X8_12 inX8 dX8_motor_56 59 rfl (by decide) rfl rfl (by decide) rfl ?_
        refine g_iload_n X dX8_motor_59 60 rfl rfl ?_
        refine g_put (c := 1) (k := 2) (T := TX1) (sk := skX1) X wf_X8_91 inX1 tyX1_ok nmX1 dX8_motor_60 63 rfl (by decide) rfl rfl (by decide) rfl rfl rfl ?_
        refine g_aload_n X dX8_motor_63 64 rfl rfl ?_
        refine g_get (c := 0) (k := 1) (T := TX8) (sk := skX0) (v := .ref (kad K (2))) X wf_X8_19 inX8 dX8_motor_64 67 rfl (by decide) rfl rfl (by decide) rfl ?_
        refine g_iload_n X dX8_motor_67 68 rfl rfl ?_
        refine g_callVvx (st := []) (m2 := (rtM (mup (mup (mup (kfM h 0) 1 0 (nI q0)) 1 1 (nI p0)) 1 2 (nI m0)) q0 (dgN q0))) X cw_X8_27 (c_X3_raiseTo (mup (mup (mup (kfM h 0) 1 0 (nI q0)) 1 1 (nI p0)) 1 2 (nI m0)) q0 (dgN q0) (by omega) (by omega) hd91 hd92 hd93) dX8_motor_68 71 rfl (by decide) rfl rfl rfl rfl rfl (by decide) (Nat.le_of_ble_eq_true rfl) ?_
        refine g_iconst X dX8_motor_71 72 rfl (v := (nI (1))) rfl ?_
        refine g_iret (h := (rtM (mup (mup (mup (kfM h 0) 1 0 (nI q0)) 1 1 (nI p0)) 1 2 (nI m0)) q0 (dgN q0))) (v := (nI (1))) X Z dX8_motor_72 ?_
        have ok9 : okMot (nI q0) (nI p0) (nI m0) := ⟨f7, f17, t26⟩
        exact ⟨(if_pos ok9).symm, ((if_pos ok9).trans (by rw [motM, tn_nI (by omega)])).symm⟩
      · skip
        refine g_iconst X dX8_motor_29 30 rfl (v := (zI (-1))) rfl ?_
        refine g_iret (h := h) (v := (zI (-1))) X Z dX8_motor_30 ?_
        exact ⟨(if_neg (fun z => f26 z.2.2)).symm, (if_neg (fun z => f26 z.2.2)).symm⟩
set_option maxHeartbeats 1000000 in
set_option maxRecDepth 100000 in
theorem c_X8_coil (h : Mem) (q p m n d : Nat) (I : XI h q p m n d) (x0 x1 x2 x3 : Int32) : cI 69 XL yX8_coil cX8_coil 5 (some .int) 3 67 (fun ad => [.ref (ad (0)), .int (x0), .int (x1), .int (x2), .int (x3)]) h (fun r h2 => r = layV q m n (h 35) x0 x1 x2 x3 ∧ h2 = if layG q m n (h 35) x0 x1 x2 x3 then layMX h n x0 x1 x2 x3 else h) := by
  refine cI_of XLW (by decide +kernel) (fun ad => Nat.le_of_ble_eq_true rfl) ?_
  intro K X Z
  obtain ⟨C, hsd, hs2, hdg, hpo, hpw, hh0, hs0, ht0, ⟨tz, htz, hto⟩, ⟨pz, hpz, hpk⟩, hshe⟩ := id I
  obtain ⟨hq, hp, hm, hq1, hq2, hp1, hp2, hm1, hm2, hn, hn2, hc, hq0, hd, hd1, hd2⟩ := id C
  show G 69 XL 5 K h 0 [(0, .ref (kad K (0))), (1, .int (x0)), (2, .int (x1)), (3, .int (x2)), (4, .int (x3))] []
  refine g_aload_n X dX8_coil_0 1 rfl rfl ?_
  refine g_get (c := 0) (k := 2) (T := TX8) (sk := skX0) (v := .ref (kad K (29))) X wf_X8_36 inX8 dX8_coil_1 4 rfl (by decide) rfl rfl (by decide) rfl ?_
  refine g_iload_n X dX8_coil_4 5 rfl rfl ?_
  refine g_iload_n X dX8_coil_5 6 rfl rfl ?_
  refine g_iload_n X dX8_coil_6 7 rfl rfl ?_
  refine g_iload X dX8_coil_7 9 rfl rfl ?_
  refine g_callVi (st := []) X cw_X8_94 (c_X0_lay h q m x0 x1 x2 x3 n hn hn2 hq hm hq2 hm2) dX8_coil_9 12 rfl (by decide) rfl rfl rfl rfl rfl (by decide) (Nat.le_of_ble_eq_true rfl) ?_
  intro r9 h9 e9
  refine g_iret (h := h9) (v := (r9)) X Z dX8_coil_12 ?_
  exact e9
theorem nar_b {v : Int32} (h : v = nI 0 ∨ v = nI 1) : vp_nar .boolean v = v := by
  rcases h with rfl | rfl <;> rfl
set_option maxHeartbeats 1000000 in
set_option maxRecDepth 100000 in
theorem c_X8_use (h : Mem) (q p m n d : Nat) (I : XI h q p m n d) (x0 v : Int32) (hv : v = nI 0 ∨ v = nI 1) : cI 69 XL yX8_use cX8_use 4 (some .int) 2 43 (fun ad => [.ref (ad (0)), .int (x0), .int (v)]) h (fun r h2 => r = (if isC n x0 then h 34 (tn x0) else zI (-1)) ∧ h2 = if isC n x0 then mup h 34 (tn x0) v else h) := by
  refine cI_of XLW (by decide +kernel) (fun ad => Nat.le_of_ble_eq_true rfl) ?_
  intro K X Z
  obtain ⟨C, hsd, hs2, hdg, hpo, hpw, hh0, hs0, ht0, ⟨tz, htz, hto⟩, ⟨pz, hpz, hpk⟩, hshe⟩ := id I
  obtain ⟨hq, hp, hm, hq1, hq2, hp1, hp2, hm1, hm2, hn, hn2, hc, hq0, hd, hd1, hd2⟩ := id C
  show G 69 XL 4 K h 0 [(0, .ref (kad K (0))), (1, .int (x0)), (2, .int (v))] []
  refine g_aload_n X dX8_use_0 1 rfl rfl ?_
  refine g_get (c := 0) (k := 2) (T := TX8) (sk := skX0) (v := .ref (kad K (29))) X wf_X8_36 inX8 dX8_use_1 4 rfl (by decide) rfl rfl (by decide) rfl ?_
  refine g_iload_n X dX8_use_4 5 rfl rfl ?_
  refine g_callVix (st := []) (v := (bI (0 ≤ (x0).toInt ∧ (x0).toInt ≤ (n : Int) - 1))) (m2 := h) X cw_X8_98 (c_X0_has h (x0) ((x0).toInt) rfl n hn hn2) dX8_use_5 8 rfl (by decide) rfl rfl rfl rfl rfl (by decide) (Nat.le_of_ble_eq_true rfl) ?_
  refine g_ifne_B X dX8_use_8 13 (by decide) 11 rfl (fun t8 => ?_) (fun f8 => ?_)
  · skip
    obtain ⟨k, hk, rfl⟩ := inR_nat t8
    refine g_aload_n X dX8_use_13 14 rfl rfl ?_
    refine g_get (c := 0) (k := 2) (T := TX8) (sk := skX0) (v := .ref (kad K (29))) X wf_X8_36 inX8 dX8_use_14 17 rfl (by decide) rfl rfl (by decide) rfl ?_
    refine g_get (c := 29) (k := 6) (T := TX0) (sk := skX29) (v := .ref (kad K (34))) X wf_X8_102 inX0 dX8_use_17 20 rfl (by decide) rfl rfl (by decide) rfl ?_
    refine g_iload_n X dX8_use_20 21 rfl rfl ?_
    refine g_zald (c := 34) (n := 24) (r := 34) (o := 0) (i := k) (v := (bI (h 34 k = nI 1))) X dX8_use_21 22 rfl (by decide) rfl rfl (by omega) (us_b (hc k (by omega)).us) ?_
    refine g_callSix (st := []) (v := (bI (h 34 k = nI 1))) (m2 := h) X cw_X8_106 (c_X8_oneIf h (h 34 k = nI 1)) dX8_use_22 25 rfl rfl rfl rfl (by decide) (Nat.le_of_ble_eq_true rfl) ?_
    refine g_istore_n X (lv' := [(0, .ref (kad K (0))), (1, .int (nI (k))), (2, .int (v)), (3, .int (bI (h 34 k = nI 1)))]) dX8_use_25 26 rfl (by decide) rfl rfl ?_
    refine g_aload_n X dX8_use_26 27 rfl rfl ?_
    refine g_get (c := 0) (k := 2) (T := TX8) (sk := skX0) (v := .ref (kad K (29))) X wf_X8_36 inX8 dX8_use_27 30 rfl (by decide) rfl rfl (by decide) rfl ?_
    refine g_get (c := 29) (k := 6) (T := TX0) (sk := skX29) (v := .ref (kad K (34))) X wf_X8_102 inX0 dX8_use_30 33 rfl (by decide) rfl rfl (by decide) rfl ?_
    refine g_iload_n X dX8_use_33 34 rfl rfl ?_
    refine g_iload_n X dX8_use_34 35 rfl rfl ?_
    refine g_zast (c := 34) (n := 24) (r := 34) (o := 0) (i := k) (w := (v)) X dX8_use_35 36 rfl (by decide) rfl rfl (by omega) (nar_b hv) ?_
    refine g_iload_n X dX8_use_36 37 rfl rfl ?_
    refine g_iret (h := (mup h 34 k (v))) (v := (bI (h 34 k = nI 1))) X Z dX8_use_37 ?_
    exact ⟨((if_pos t8).trans (by rw [tn_nI (by omega)]; exact us_b (hc k hk).us)).symm, ((if_pos t8).trans (by rw [tn_nI (by omega)])).symm⟩
  · skip
    refine g_iconst X dX8_use_11 12 rfl (v := (zI (-1))) rfl ?_
    refine g_iret (h := h) (v := (zI (-1))) X Z dX8_use_12 ?_
    exact ⟨(if_neg f8).symm, (if_neg f8).symm⟩
set_option maxHeartbeats 1000000 in
set_option maxRecDepth 100000 in
theorem c_X8_clear (h : Mem) (q p m n d : Nat) (I : XI h q p m n d) : cI 69 XL yX8_clear cX8_clear 2 (some .int) 1 21 (fun ad => [.ref (ad (0))]) h (fun r h2 => r = nI n ∧ h2 = kfM h 0) := by
  refine cI_of XLW (by decide +kernel) (fun ad => Nat.le_of_ble_eq_true rfl) ?_
  intro K X Z
  obtain ⟨C, hsd, hs2, hdg, hpo, hpw, hh0, hs0, ht0, ⟨tz, htz, hto⟩, ⟨pz, hpz, hpk⟩, hshe⟩ := id I
  obtain ⟨hq, hp, hm, hq1, hq2, hp1, hp2, hm1, hm2, hn, hn2, hc, hq0, hd, hd1, hd2⟩ := id C
  show G 69 XL 2 K h 0 [(0, .ref (kad K (0)))] []
  refine g_aload_n X dX8_clear_0 1 rfl rfl ?_
  refine g_get (c := 0) (k := 2) (T := TX8) (sk := skX0) (v := .ref (kad K (29))) X wf_X8_36 inX8 dX8_clear_1 4 rfl (by decide) rfl rfl (by decide) rfl ?_
  refine g_get (c := 29) (k := 1) (T := TX0) (sk := skX29) (v := .int (nI (n))) X wf_X8_110 inX0 dX8_clear_4 7 rfl (by decide) rfl rfl (by decide) (congrArg Value.int (hn)) ?_
  refine g_istore_n X (lv' := [(0, .ref (kad K (0))), (1, .int (nI (n)))]) dX8_clear_7 8 rfl (by decide) rfl rfl ?_
  refine g_aload_n X dX8_clear_8 9 rfl rfl ?_
  refine g_get (c := 0) (k := 2) (T := TX8) (sk := skX0) (v := .ref (kad K (29))) X wf_X8_36 inX8 dX8_clear_9 12 rfl (by decide) rfl rfl (by decide) rfl ?_
  refine g_iconst X dX8_clear_12 13 rfl (v := (nI (0))) rfl ?_
  refine g_callVvx (st := []) (m2 := (kfM h 0)) X cw_X8_85 (c_X0_keepFirst h q m 0 n hn hn2 hq2 hc hsd (Nat.zero_le _)) dX8_clear_13 16 rfl (by decide) rfl rfl rfl rfl rfl (by decide) (Nat.le_of_ble_eq_true rfl) ?_
  refine g_iload_n X dX8_clear_16 17 rfl rfl ?_
  refine g_iret (h := (kfM h 0)) (v := (nI (n))) X Z dX8_clear_17 ?_
  exact ⟨rfl, rfl⟩
set_option maxHeartbeats 1000000 in
set_option maxRecDepth 100000 in
theorem c_X8_told (h : Mem) (q p m n d : Nat) (I : XI h q p m n d) (x0 x1 : Int32) : cI 69 XL yX8_told cX8_told 3 (some .int) 2 43 (fun ad => [.ref (ad (0)), .int (x0), .int (x1)]) h (fun r h2 => r = toldV n (h 30) (h 31) (h 32) (h 33) (h 34) x0 x1 ∧ h2 = h) := by
  refine cI_of XLW (by decide +kernel) (fun ad => Nat.le_of_ble_eq_true rfl) ?_
  intro K X Z
  obtain ⟨C, hsd, hs2, hdg, hpo, hpw, hh0, hs0, ht0, ⟨tz, htz, hto⟩, ⟨pz, hpz, hpk⟩, hshe⟩ := id I
  obtain ⟨hq, hp, hm, hq1, hq2, hp1, hp2, hm1, hm2, hn, hn2, hc, hq0, hd, hd1, hd2⟩ := id C
  show G 69 XL 3 K h 0 [(0, .ref (kad K (0))), (1, .int (x0)), (2, .int (x1))] []
  refine g_aload_n X dX8_told_0 1 rfl rfl ?_
  refine g_get (c := 0) (k := 2) (T := TX8) (sk := skX0) (v := .ref (kad K (29))) X wf_X8_36 inX8 dX8_told_1 4 rfl (by decide) rfl rfl (by decide) rfl ?_
  refine g_iload_n X dX8_told_4 5 rfl rfl ?_
  refine g_callVix (st := []) (v := (bI (0 ≤ (x0).toInt ∧ (x0).toInt ≤ (n : Int) - 1))) (m2 := h) X cw_X8_98 (c_X0_has h (x0) ((x0).toInt) rfl n hn hn2) dX8_told_5 8 rfl (by decide) rfl rfl rfl rfl rfl (by decide) (Nat.le_of_ble_eq_true rfl) ?_
  refine g_ifne_B X dX8_told_8 13 (by decide) 11 rfl (fun t8 => ?_) (fun f8 => ?_)
  · skip
    obtain ⟨k, hk, rfl⟩ := inR_nat t8
    refine g_iload_n X dX8_told_13 14 rfl rfl ?_
    rcases sw5 (x1) with rfl | rfl | rfl | rfl | rfl | so
    · skip
      refine g_tabIn X dX8_told_14 0 rfl 34 48 ⟨by decide, by decide, rfl, by decide⟩ ?_
      refine g_aload_n X dX8_told_48 49 rfl rfl ?_
      refine g_get (c := 0) (k := 2) (T := TX8) (sk := skX0) (v := .ref (kad K (29))) X wf_X8_36 inX8 dX8_told_49 52 rfl (by decide) rfl rfl (by decide) rfl ?_
      refine g_get (c := 29) (k := 2) (T := TX0) (sk := skX29) (v := .ref (kad K (30))) X wf_X8_127 inX0 dX8_told_52 55 rfl (by decide) rfl rfl (by decide) rfl ?_
      refine g_iload_n X dX8_told_55 56 rfl rfl ?_
      refine g_iald (c := 30) (n := 24) (r := 30) (o := 0) (i := k) (v := (h 30 k)) X dX8_told_56 57 rfl (by decide) rfl rfl (by omega) rfl ?_
      refine g_iret (h := h) (v := (h 30 k)) X Z dX8_told_57 ?_
      exact ⟨((if_pos t8).trans ((if_pos (by decide)).trans (by rw [tn_nI (by omega)]))).symm, rfl⟩
    · skip
      refine g_tabIn X dX8_told_14 1 rfl 44 58 ⟨by decide, by decide, rfl, by decide⟩ ?_
      refine g_aload_n X dX8_told_58 59 rfl rfl ?_
      refine g_get (c := 0) (k := 2) (T := TX8) (sk := skX0) (v := .ref (kad K (29))) X wf_X8_36 inX8 dX8_told_59 62 rfl (by decide) rfl rfl (by decide) rfl ?_
      refine g_get (c := 29) (k := 3) (T := TX0) (sk := skX29) (v := .ref (kad K (31))) X wf_X8_131 inX0 dX8_told_62 65 rfl (by decide) rfl rfl (by decide) rfl ?_
      refine g_iload_n X dX8_told_65 66 rfl rfl ?_
      refine g_iald (c := 31) (n := 24) (r := 31) (o := 0) (i := k) (v := (h 31 k)) X dX8_told_66 67 rfl (by decide) rfl rfl (by omega) rfl ?_
      refine g_iret (h := h) (v := (h 31 k)) X Z dX8_told_67 ?_
      exact ⟨((if_pos t8).trans ((if_neg (by decide)).trans ((if_pos (by decide)).trans (by rw [tn_nI (by omega)])))).symm, rfl⟩
    · skip
      refine g_tabIn X dX8_told_14 2 rfl 54 68 ⟨by decide, by decide, rfl, by decide⟩ ?_
      refine g_aload_n X dX8_told_68 69 rfl rfl ?_
      refine g_get (c := 0) (k := 2) (T := TX8) (sk := skX0) (v := .ref (kad K (29))) X wf_X8_36 inX8 dX8_told_69 72 rfl (by decide) rfl rfl (by decide) rfl ?_
      refine g_get (c := 29) (k := 4) (T := TX0) (sk := skX29) (v := .ref (kad K (32))) X wf_X8_134 inX0 dX8_told_72 75 rfl (by decide) rfl rfl (by decide) rfl ?_
      refine g_iload_n X dX8_told_75 76 rfl rfl ?_
      refine g_iald (c := 32) (n := 24) (r := 32) (o := 0) (i := k) (v := (h 32 k)) X dX8_told_76 77 rfl (by decide) rfl rfl (by omega) rfl ?_
      refine g_iret (h := h) (v := (h 32 k)) X Z dX8_told_77 ?_
      exact ⟨((if_pos t8).trans ((if_neg (by decide)).trans ((if_neg (by decide)).trans ((if_pos (by decide)).trans (by rw [tn_nI (by omega)]))))).symm, rfl⟩
    · skip
      refine g_tabIn X dX8_told_14 3 rfl 64 78 ⟨by decide, by decide, rfl, by decide⟩ ?_
      refine g_aload_n X dX8_told_78 79 rfl rfl ?_
      refine g_get (c := 0) (k := 2) (T := TX8) (sk := skX0) (v := .ref (kad K (29))) X wf_X8_36 inX8 dX8_told_79 82 rfl (by decide) rfl rfl (by decide) rfl ?_
      refine g_get (c := 29) (k := 5) (T := TX0) (sk := skX29) (v := .ref (kad K (33))) X wf_X8_137 inX0 dX8_told_82 85 rfl (by decide) rfl rfl (by decide) rfl ?_
      refine g_iload_n X dX8_told_85 86 rfl rfl ?_
      refine g_iald (c := 33) (n := 24) (r := 33) (o := 0) (i := k) (v := (h 33 k)) X dX8_told_86 87 rfl (by decide) rfl rfl (by omega) rfl ?_
      refine g_iret (h := h) (v := (h 33 k)) X Z dX8_told_87 ?_
      exact ⟨((if_pos t8).trans ((if_neg (by decide)).trans ((if_neg (by decide)).trans ((if_neg (by decide)).trans ((if_pos (by decide)).trans (by rw [tn_nI (by omega)])))))).symm, rfl⟩
    · skip
      refine g_tabIn X dX8_told_14 4 rfl 74 88 ⟨by decide, by decide, rfl, by decide⟩ ?_
      refine g_aload_n X dX8_told_88 89 rfl rfl ?_
      refine g_get (c := 0) (k := 2) (T := TX8) (sk := skX0) (v := .ref (kad K (29))) X wf_X8_36 inX8 dX8_told_89 92 rfl (by decide) rfl rfl (by decide) rfl ?_
      refine g_get (c := 29) (k := 6) (T := TX0) (sk := skX29) (v := .ref (kad K (34))) X wf_X8_102 inX0 dX8_told_92 95 rfl (by decide) rfl rfl (by decide) rfl ?_
      refine g_iload_n X dX8_told_95 96 rfl rfl ?_
      refine g_zald (c := 34) (n := 24) (r := 34) (o := 0) (i := k) (v := (bI (h 34 k = nI 1))) X dX8_told_96 97 rfl (by decide) rfl rfl (by omega) (us_b (hc k (by omega)).us) ?_
      refine g_callSix (st := []) (v := (bI (h 34 k = nI 1))) (m2 := h) X cw_X8_106 (c_X8_oneIf h (h 34 k = nI 1)) dX8_told_97 100 rfl rfl rfl rfl (by decide) (Nat.le_of_ble_eq_true rfl) ?_
      refine g_iret (h := h) (v := (bI (h 34 k = nI 1))) X Z dX8_told_100 ?_
      exact ⟨((if_pos t8).trans ((if_neg (by decide)).trans ((if_neg (by decide)).trans ((if_neg (by decide)).trans ((if_neg (by decide)).trans ((if_pos (by decide)).trans (by rw [tn_nI (by omega)]; exact us_b (hc k hk).us))))))).symm, rfl⟩
    · skip
      refine g_tabOut X dX8_told_14 (x1).toInt rfl 101 so (by decide) ?_
      refine g_iconst X dX8_told_101 102 rfl (v := (zI (-1))) rfl ?_
      refine g_iret (h := h) (v := (zI (-1))) X Z dX8_told_102 ?_
      exact ⟨((if_pos t8).trans ((if_neg (by omega)).trans ((if_neg (by omega)).trans ((if_neg (by omega)).trans ((if_neg (by omega)).trans (if_neg (by omega))))))).symm, rfl⟩
  · skip
    refine g_iconst X dX8_told_11 12 rfl (v := (zI (-1))) rfl ?_
    refine g_iret (h := h) (v := (zI (-1))) X Z dX8_told_12 ?_
    exact ⟨(if_neg f8).symm, rfl⟩
set_option maxHeartbeats 1000000 in
set_option maxRecDepth 100000 in
theorem c_X8_sides (h : Mem) (q p m n d : Nat) (I : XI h q p m n d) (x0 : Int32) : cI 69 XL yX8_sides cX8_sides 2 (some .int) 2 43 (fun ad => [.ref (ad (0)), .int (x0)]) h (fun r h2 => r = sidV q (h 35) x0 ∧ h2 = h) := by
  refine cI_of XLW (by decide +kernel) (fun ad => Nat.le_of_ble_eq_true rfl) ?_
  intro K X Z
  obtain ⟨C, hsd, hs2, hdg, hpo, hpw, hh0, hs0, ht0, ⟨tz, htz, hto⟩, ⟨pz, hpz, hpk⟩, hshe⟩ := id I
  obtain ⟨hq, hp, hm, hq1, hq2, hp1, hp2, hm1, hm2, hn, hn2, hc, hq0, hd, hd1, hd2⟩ := id C
  show G 69 XL 2 K h 0 [(0, .ref (kad K (0))), (1, .int (x0))] []
  refine g_aload_n X dX8_sides_0 1 rfl rfl ?_
  refine g_get (c := 0) (k := 0) (T := TX8) (sk := skX0) (v := .ref (kad K (1))) X wf_X8_12 inX8 dX8_sides_1 4 rfl (by decide) rfl rfl (by decide) rfl ?_
  refine g_iload_n X dX8_sides_4 5 rfl rfl ?_
  refine g_callVix (st := []) (v := (bI (0 ≤ (x0).toInt ∧ (x0).toInt ≤ (q : Int) - 1))) (m2 := h) X cw_X8_140 (c_X1_hasSlot h (x0) ((x0).toInt) rfl _ hq (by omega)) dX8_sides_5 8 rfl (by decide) rfl rfl rfl rfl rfl (by decide) (Nat.le_of_ble_eq_true rfl) ?_
  refine g_ifeq_B X dX8_sides_8 23 (by decide) 11 rfl (fun t8 => ?_) (fun f8 => ?_)
  · skip
    refine g_iconst X dX8_sides_23 24 rfl (v := (zI (-1))) rfl ?_
    refine g_iret (h := h) (v := (zI (-1))) X Z dX8_sides_24 ?_
    exact ⟨(if_neg t8).symm, rfl⟩
  · skip
    obtain ⟨k, hk, rfl⟩ := inR_nat f8
    refine g_aload_n X dX8_sides_11 12 rfl rfl ?_
    refine g_get (c := 0) (k := 2) (T := TX8) (sk := skX0) (v := .ref (kad K (29))) X wf_X8_36 inX8 dX8_sides_12 15 rfl (by decide) rfl rfl (by decide) rfl ?_
    refine g_get (c := 29) (k := 7) (T := TX0) (sk := skX29) (v := .ref (kad K (35))) X wf_X8_143 inX0 dX8_sides_15 18 rfl (by decide) rfl rfl (by decide) rfl ?_
    refine g_iload_n X dX8_sides_18 19 rfl rfl ?_
    refine g_iald (c := 35) (n := 24) (r := 35) (o := 0) (i := k) (v := (h 35 k)) X dX8_sides_19 20 rfl (by decide) rfl rfl (by omega) rfl ?_
    refine g_goto X dX8_sides_20 24 (by decide) ?_
    refine g_iret (h := h) (v := (h 35 k)) X Z dX8_sides_24 ?_
    exact ⟨((if_pos f8).trans (by rw [tn_nI (by omega)])).symm, rfl⟩
set_option maxHeartbeats 1000000 in
set_option maxRecDepth 100000 in
theorem c_X8_count (h : Mem) (q p m n d : Nat) (I : XI h q p m n d) (x0 : Int32) : cI 69 XL yX8_count cX8_count 2 (some .int) 2 44 (fun ad => [.ref (ad (0)), .int (x0)]) h (fun r h2 => r = cntV q p m n d (h 34) x0 ∧ h2 = h) := by
  refine cI_of XLW (by decide +kernel) (fun ad => Nat.le_of_ble_eq_true rfl) ?_
  intro K X Z
  obtain ⟨C, hsd, hs2, hdg, hpo, hpw, hh0, hs0, ht0, ⟨tz, htz, hto⟩, ⟨pz, hpz, hpk⟩, hshe⟩ := id I
  obtain ⟨hq, hp, hm, hq1, hq2, hp1, hp2, hm1, hm2, hn, hn2, hc, hq0, hd, hd1, hd2⟩ := id C
  show G 69 XL 2 K h 0 [(0, .ref (kad K (0))), (1, .int (x0))] []
  refine g_iload_n X dX8_count_0 1 rfl rfl ?_
  rcases sw8 (x0) with rfl | rfl | rfl | rfl | rfl | rfl | rfl | rfl | so
  · skip
    refine g_tabIn X dX8_count_1 0 rfl 47 48 ⟨by decide, by decide, rfl, by decide⟩ ?_
    refine g_aload_n X dX8_count_48 49 rfl rfl ?_
    refine g_get (c := 0) (k := 2) (T := TX8) (sk := skX0) (v := .ref (kad K (29))) X wf_X8_36 inX8 dX8_count_49 52 rfl (by decide) rfl rfl (by decide) rfl ?_
    refine g_get (c := 29) (k := 1) (T := TX0) (sk := skX29) (v := .int (nI (n))) X wf_X8_110 inX0 dX8_count_52 55 rfl (by decide) rfl rfl (by decide) (congrArg Value.int (hn)) ?_
    refine g_iret (h := h) (v := (nI (n))) X Z dX8_count_55 ?_
    exact ⟨(if_pos (by decide)).symm, rfl⟩
  · skip
    refine g_tabIn X dX8_count_1 1 rfl 55 56 ⟨by decide, by decide, rfl, by decide⟩ ?_
    refine g_aload_n X dX8_count_56 57 rfl rfl ?_
    refine g_get (c := 0) (k := 2) (T := TX8) (sk := skX0) (v := .ref (kad K (29))) X wf_X8_36 inX8 dX8_count_57 60 rfl (by decide) rfl rfl (by decide) rfl ?_
    refine g_callVix (st := []) (v := (nI (cntU (h 34) n))) (m2 := h) X cw_X8_146 (c_X0_inUse h q m n hn hn2 hc) dX8_count_60 63 rfl (by decide) rfl rfl rfl rfl rfl (by decide) (Nat.le_of_ble_eq_true rfl) ?_
    refine g_iret (h := h) (v := (nI (cntU (h 34) n))) X Z dX8_count_63 ?_
    exact ⟨((if_neg (by decide)).trans (if_pos (by decide))).symm, rfl⟩
  · skip
    refine g_tabIn X dX8_count_1 2 rfl 63 64 ⟨by decide, by decide, rfl, by decide⟩ ?_
    refine g_aload_n X dX8_count_64 65 rfl rfl ?_
    refine g_get (c := 0) (k := 0) (T := TX8) (sk := skX0) (v := .ref (kad K (1))) X wf_X8_12 inX8 dX8_count_65 68 rfl (by decide) rfl rfl (by decide) rfl ?_
    refine g_get (c := 1) (k := 0) (T := TX1) (sk := skX1) (v := .int (nI (q))) X wf_X8_23 inX1 dX8_count_68 71 rfl (by decide) rfl rfl (by decide) (congrArg Value.int (hq)) ?_
    refine g_iret (h := h) (v := (nI (q))) X Z dX8_count_71 ?_
    exact ⟨((if_neg (by decide)).trans ((if_neg (by decide)).trans (if_pos (by decide)))).symm, rfl⟩
  · skip
    refine g_tabIn X dX8_count_1 3 rfl 71 72 ⟨by decide, by decide, rfl, by decide⟩ ?_
    refine g_aload_n X dX8_count_72 73 rfl rfl ?_
    refine g_get (c := 0) (k := 0) (T := TX8) (sk := skX0) (v := .ref (kad K (1))) X wf_X8_12 inX8 dX8_count_73 76 rfl (by decide) rfl rfl (by decide) rfl ?_
    refine g_get (c := 1) (k := 1) (T := TX1) (sk := skX1) (v := .int (nI (p))) X wf_X8_88 inX1 dX8_count_76 79 rfl (by decide) rfl rfl (by decide) (congrArg Value.int (hp)) ?_
    refine g_iret (h := h) (v := (nI (p))) X Z dX8_count_79 ?_
    exact ⟨((if_neg (by decide)).trans ((if_neg (by decide)).trans ((if_neg (by decide)).trans (if_pos (by decide))))).symm, rfl⟩
  · skip
    refine g_tabIn X dX8_count_1 4 rfl 79 80 ⟨by decide, by decide, rfl, by decide⟩ ?_
    refine g_aload_n X dX8_count_80 81 rfl rfl ?_
    refine g_get (c := 0) (k := 0) (T := TX8) (sk := skX0) (v := .ref (kad K (1))) X wf_X8_12 inX8 dX8_count_81 84 rfl (by decide) rfl rfl (by decide) rfl ?_
    refine g_get (c := 1) (k := 2) (T := TX1) (sk := skX1) (v := .int (nI (m))) X wf_X8_91 inX1 dX8_count_84 87 rfl (by decide) rfl rfl (by decide) (congrArg Value.int (hm)) ?_
    refine g_iret (h := h) (v := (nI (m))) X Z dX8_count_87 ?_
    exact ⟨((if_neg (by decide)).trans ((if_neg (by decide)).trans ((if_neg (by decide)).trans ((if_neg (by decide)).trans (if_pos (by decide)))))).symm, rfl⟩
  · skip
    refine g_tabIn X dX8_count_1 5 rfl 87 88 ⟨by decide, by decide, rfl, by decide⟩ ?_
    refine g_aload_n X dX8_count_88 89 rfl rfl ?_
    refine g_get (c := 0) (k := 1) (T := TX8) (sk := skX0) (v := .ref (kad K (2))) X wf_X8_19 inX8 dX8_count_89 92 rfl (by decide) rfl rfl (by decide) rfl ?_
    refine g_get (c := 2) (k := 1) (T := TX3) (sk := skX2) (v := .int (nI (d))) X wf_X8_150 inX3 dX8_count_92 95 rfl (by decide) rfl rfl (by decide) (congrArg Value.int (hd)) ?_
    refine g_iret (h := h) (v := (nI (d))) X Z dX8_count_95 ?_
    exact ⟨((if_neg (by decide)).trans ((if_neg (by decide)).trans ((if_neg (by decide)).trans ((if_neg (by decide)).trans ((if_neg (by decide)).trans (if_pos (by decide))))))).symm, rfl⟩
  · skip
    refine g_tabIn X dX8_count_1 6 rfl 95 96 ⟨by decide, by decide, rfl, by decide⟩ ?_
    refine g_aload_n X dX8_count_96 97 rfl rfl ?_
    refine g_get (c := 0) (k := 0) (T := TX8) (sk := skX0) (v := .ref (kad K (1))) X wf_X8_12 inX8 dX8_count_97 100 rfl (by decide) rfl rfl (by decide) rfl ?_
    refine g_get (c := 1) (k := 0) (T := TX1) (sk := skX1) (v := .int (nI (q))) X wf_X8_23 inX1 dX8_count_100 103 rfl (by decide) rfl rfl (by decide) (congrArg Value.int (hq)) ?_
    refine g_iconst X dX8_count_103 104 rfl (v := (nI (2))) rfl ?_
    refine g_aload_n X dX8_count_104 105 rfl rfl ?_
    refine g_get (c := 0) (k := 0) (T := TX8) (sk := skX0) (v := .ref (kad K (1))) X wf_X8_12 inX8 dX8_count_105 108 rfl (by decide) rfl rfl (by decide) rfl ?_
    refine g_get (c := 1) (k := 1) (T := TX1) (sk := skX1) (v := .int (nI (p))) X wf_X8_88 inX1 dX8_count_108 111 rfl (by decide) rfl rfl (by decide) (congrArg Value.int (hp)) ?_
    refine g_imul X (v := (nI (2 * p))) dX8_count_111 112 rfl (pk_mul 2 p) ?_
    refine g_callSix (st := []) (v := (nI (q / gdv q (2 * p) q * (2 * p)))) (m2 := h) X cw_X8_153 (c_X8_lcm h q (2 * p) (by omega) (by omega) (by omega)) dX8_count_112 115 rfl rfl rfl rfl (by decide) (Nat.le_of_ble_eq_true rfl) ?_
    refine g_iret (h := h) (v := (nI (q / gdv q (2 * p) q * (2 * p)))) X Z dX8_count_115 ?_
    exact ⟨((if_neg (by decide)).trans ((if_neg (by decide)).trans ((if_neg (by decide)).trans ((if_neg (by decide)).trans ((if_neg (by decide)).trans ((if_neg (by decide)).trans (if_pos (by decide)))))))).symm, rfl⟩
  · skip
    refine g_tabIn X dX8_count_1 7 rfl 115 116 ⟨by decide, by decide, rfl, by decide⟩ ?_
    refine g_aload_n X dX8_count_116 117 rfl rfl ?_
    refine g_get (c := 0) (k := 0) (T := TX8) (sk := skX0) (v := .ref (kad K (1))) X wf_X8_12 inX8 dX8_count_117 120 rfl (by decide) rfl rfl (by decide) rfl ?_
    refine g_callVix (st := []) (v := (bI (q % (m * gdv q p q) = 0))) (m2 := h) X cw_X8_157 (c_X1_isEven h q p m hq hp hm hq1 hq2 hp1 hp2 hm1 hm2) dX8_count_120 123 rfl (by decide) rfl rfl rfl rfl rfl (by decide) (Nat.le_of_ble_eq_true rfl) ?_
    refine g_callSix (st := []) (v := (bI (q % (m * gdv q p q) = 0))) (m2 := h) X cw_X8_106 (c_X8_oneIf h (q % (m * gdv q p q) = 0)) dX8_count_123 126 rfl rfl rfl rfl (by decide) (Nat.le_of_ble_eq_true rfl) ?_
    refine g_iret (h := h) (v := (bI (q % (m * gdv q p q) = 0))) X Z dX8_count_126 ?_
    exact ⟨((if_neg (by decide)).trans ((if_neg (by decide)).trans ((if_neg (by decide)).trans ((if_neg (by decide)).trans ((if_neg (by decide)).trans ((if_neg (by decide)).trans ((if_neg (by decide)).trans (if_pos (by decide))))))))).symm, rfl⟩
  · skip
    refine g_tabOut X dX8_count_1 (x0).toInt rfl 127 so (by decide) ?_
    refine g_iconst X dX8_count_127 128 rfl (v := (zI (-1))) rfl ?_
    refine g_iret (h := h) (v := (zI (-1))) X Z dX8_count_128 ?_
    exact ⟨((if_neg (by omega)).trans ((if_neg (by omega)).trans ((if_neg (by omega)).trans ((if_neg (by omega)).trans ((if_neg (by omega)).trans ((if_neg (by omega)).trans ((if_neg (by omega)).trans (if_neg (by omega))))))))).symm, rfl⟩
set_option maxHeartbeats 1000000 in
set_option maxRecDepth 100000 in
theorem c_X8_cyclotomic (h : Mem) (q p m n d : Nat) (I : XI h q p m n d) (x0 : Int32) : cI 69 XL yX8_cyclotomic cX8_cyclotomic 2 (some .int) 1 22 (fun ad => [.ref (ad (0)), .int (x0)]) h (fun r h2 => r = cycV d (h 3) x0 ∧ h2 = h) := by
  refine cI_of XLW (by decide +kernel) (fun ad => Nat.le_of_ble_eq_true rfl) ?_
  intro K X Z
  obtain ⟨C, hsd, hs2, hdg, hpo, hpw, hh0, hs0, ht0, ⟨tz, htz, hto⟩, ⟨pz, hpz, hpk⟩, hshe⟩ := id I
  obtain ⟨hq, hp, hm, hq1, hq2, hp1, hp2, hm1, hm2, hn, hn2, hc, hq0, hd, hd1, hd2⟩ := id C
  show G 69 XL 2 K h 0 [(0, .ref (kad K (0))), (1, .int (x0))] []
  refine g_iload_n X dX8_cyclotomic_0 1 rfl rfl ?_
  refine g_iconst X dX8_cyclotomic_1 2 rfl (v := (nI (0))) rfl ?_
  refine g_aload_n X dX8_cyclotomic_2 3 rfl rfl ?_
  refine g_get (c := 0) (k := 1) (T := TX8) (sk := skX0) (v := .ref (kad K (2))) X wf_X8_19 inX8 dX8_cyclotomic_3 6 rfl (by decide) rfl rfl (by decide) rfl ?_
  refine g_get (c := 2) (k := 1) (T := TX3) (sk := skX2) (v := .int (nI (d))) X wf_X8_150 inX3 dX8_cyclotomic_6 9 rfl (by decide) rfl rfl (by decide) (congrArg Value.int (hd)) ?_
  refine g_callSix (st := []) (v := (bI (0 ≤ (x0).toInt ∧ (x0).toInt ≤ ((d : Nat) : Int)))) (m2 := h) X cw_X8_81 (c_X8_isWithin h (x0) (nI (0)) (nI (d)) ((x0).toInt) 0 ((d : Nat) : Int) rfl rfl (nI_toInt (by omega))) dX8_cyclotomic_9 12 rfl rfl rfl rfl (by decide) (Nat.le_of_ble_eq_true rfl) ?_
  refine g_ifeq_B X dX8_cyclotomic_12 27 (by decide) 15 rfl (fun t12 => ?_) (fun f12 => ?_)
  · skip
    refine g_sipush X dX8_cyclotomic_27 30 rfl (v := (zI (-1001))) rfl ?_
    refine g_iret (h := h) (v := (zI (-1001))) X Z dX8_cyclotomic_30 ?_
    exact ⟨(if_neg t12).symm, rfl⟩
  · skip
    obtain ⟨k, hk0, hk, rfl⟩ := inR_3 (a := 0) (b := d) f12
    refine g_aload_n X dX8_cyclotomic_15 16 rfl rfl ?_
    refine g_get (c := 0) (k := 1) (T := TX8) (sk := skX0) (v := .ref (kad K (2))) X wf_X8_19 inX8 dX8_cyclotomic_16 19 rfl (by decide) rfl rfl (by decide) rfl ?_
    refine g_get (c := 2) (k := 2) (T := TX3) (sk := skX2) (v := .ref (kad K (3))) X wf_X8_161 inX3 dX8_cyclotomic_19 22 rfl (by decide) rfl rfl (by decide) rfl ?_
    refine g_iload_n X dX8_cyclotomic_22 23 rfl rfl ?_
    refine g_iald (c := 3) (n := 25) (r := 3) (o := 0) (i := k) (v := (h 3 k)) X dX8_cyclotomic_23 24 rfl (by decide) rfl rfl (by omega) rfl ?_
    refine g_goto X dX8_cyclotomic_24 30 (by decide) ?_
    refine g_iret (h := h) (v := (h 3 k)) X Z dX8_cyclotomic_30 ?_
    exact ⟨((if_pos f12).trans (by rw [tn_nI (by omega)])).symm, rfl⟩
set_option maxHeartbeats 1000000 in
set_option maxRecDepth 100000 in
theorem c_X8_wave (h : Mem) (q p m n d : Nat) (I : XI h q p m n d) (x0 x1 x2 : Int32) : cI 69 XL yX8_wave cX8_wave 4 (some .int) 4 93 (fun ad => [.ref (ad (0)), .int (x0), .int (x1), .int (x2)]) h (fun r h2 => r = wavV m d (fun t b => wvS d q t (h 5) (h 30) (h 31) (h 32) (h 33) (h 34) b n) x0 x1 x2 ∧ xeq h h2) := by
  refine cI_of XLW (by decide +kernel) (fun ad => Nat.le_of_ble_eq_true rfl) ?_
  intro K X Z
  obtain ⟨C, hsd, hs2, hdg, hpo, hpw, hh0, hs0, ht0, ⟨tz, htz, hto⟩, ⟨pz, hpz, hpk⟩, hshe⟩ := id I
  obtain ⟨hq, hp, hm, hq1, hq2, hp1, hp2, hm1, hm2, hn, hn2, hc, hq0, hd, hd1, hd2⟩ := id C
  show G 69 XL 4 K h 0 [(0, .ref (kad K (0))), (1, .int (x0)), (2, .int (x1)), (3, .int (x2))] []
  refine g_aload_n X dX8_wave_0 1 rfl rfl ?_
  refine g_get (c := 0) (k := 0) (T := TX8) (sk := skX0) (v := .ref (kad K (1))) X wf_X8_12 inX8 dX8_wave_1 4 rfl (by decide) rfl rfl (by decide) rfl ?_
  refine g_iload_n X dX8_wave_4 5 rfl rfl ?_
  refine g_callVix (st := []) (v := (bI (0 ≤ (x0).toInt ∧ (x0).toInt ≤ (m : Int) - 1))) (m2 := h) X cw_X8_164 (c_X1_hasPhase h (x0) ((x0).toInt) rfl _ hm (by omega)) dX8_wave_5 8 rfl (by decide) rfl rfl rfl rfl rfl (by decide) (Nat.le_of_ble_eq_true rfl) ?_
  refine g_ifeq_B X dX8_wave_8 35 (by decide) 11 rfl (fun t8 => ?_) (fun f8 => ?_)
  · skip
    refine g_ldc X (v := (-100001)) dX8_wave_35 37 rfl wk_X8_170 ?_
    refine g_iret (h := h) (v := ((-100001 : Int32))) X Z dX8_wave_37 ?_
    exact ⟨(if_neg (fun z => t8 z.1)).symm, xeq_rf h⟩
  · skip
    refine g_iload_n X dX8_wave_11 12 rfl rfl ?_
    refine g_callSix (st := []) (v := (bI (1 ≤ (x1).toInt ∧ (x1).toInt ≤ 47))) (m2 := h) X cw_X8_167 (c_X8_isTone h (x1) ((x1).toInt) rfl) dX8_wave_12 15 rfl rfl rfl rfl (by decide) (Nat.le_of_ble_eq_true rfl) ?_
    refine g_ifeq_B X dX8_wave_15 35 (by decide) 18 rfl (fun t15 => ?_) (fun f15 => ?_)
    · skip
      refine g_ldc X (v := (-100001)) dX8_wave_35 37 rfl wk_X8_170 ?_
      refine g_iret (h := h) (v := ((-100001 : Int32))) X Z dX8_wave_37 ?_
      exact ⟨(if_neg (fun z => t15 z.2.1)).symm, xeq_rf h⟩
    · skip
      refine g_iload_n X dX8_wave_18 19 rfl rfl ?_
      refine g_iconst X dX8_wave_19 20 rfl (v := (nI (0))) rfl ?_
      refine g_aload_n X dX8_wave_20 21 rfl rfl ?_
      refine g_get (c := 0) (k := 1) (T := TX8) (sk := skX0) (v := .ref (kad K (2))) X wf_X8_19 inX8 dX8_wave_21 24 rfl (by decide) rfl rfl (by decide) rfl ?_
      refine g_get (c := 2) (k := 1) (T := TX3) (sk := skX2) (v := .int (nI (d))) X wf_X8_150 inX3 dX8_wave_24 27 rfl (by decide) rfl rfl (by decide) (congrArg Value.int (hd)) ?_
      refine g_iconst X dX8_wave_27 28 rfl (v := (nI (1))) rfl ?_
      refine g_isub X (v := (zI (((d : Nat) : Int) - ((1 : Nat) : Int)))) dX8_wave_28 29 rfl (nn_sub d 1) ?_
      refine g_callSix (st := []) (v := (bI (0 ≤ (x2).toInt ∧ (x2).toInt ≤ ((d : Nat) : Int) - ((1 : Nat) : Int)))) (m2 := h) X cw_X8_81 (c_X8_isWithin h (x2) (nI (0)) (zI (((d : Nat) : Int) - ((1 : Nat) : Int))) ((x2).toInt) 0 (((d : Nat) : Int) - ((1 : Nat) : Int)) rfl rfl (zI_toInt (by omega))) dX8_wave_29 32 rfl rfl rfl rfl (by decide) (Nat.le_of_ble_eq_true rfl) ?_
      refine g_ifne_B X dX8_wave_32 38 (by decide) 35 rfl (fun t32 => ?_) (fun f32 => ?_)
      · skip
        obtain ⟨f, hf, rfl⟩ := inR_nat f8
        obtain ⟨t, ht1, ht2, rfl⟩ := inR_3 (a := 1) (b := 47) f15
        obtain ⟨i, hi, rfl⟩ := inR_nat t32
        refine g_aload_n X dX8_wave_38 39 rfl rfl ?_
        refine g_get (c := 0) (k := 3) (T := TX8) (sk := skX0) (v := .ref (kad K (36))) X wf_X8_45 inX8 dX8_wave_39 42 rfl (by decide) rfl rfl (by decide) rfl ?_
        refine g_iload_n X dX8_wave_42 43 rfl rfl ?_
        refine g_callVvx (st := []) (m2 := (mrow (mup h 36 3 (nI (t))) 38 (sumG (h 38) (fun b => wvS d q t (h 5) (h 30) (h 31) (h 32) (h 33) (h 34) b n)))) X cw_X8_171 (c_X6_gather h q p m n d (by exact C) t (by omega) (by omega)) dX8_wave_43 46 rfl (by decide) rfl rfl rfl rfl rfl (by decide) (Nat.le_of_ble_eq_true rfl) ?_
        refine g_aload_n X dX8_wave_46 47 rfl rfl ?_
        refine g_get (c := 0) (k := 3) (T := TX8) (sk := skX0) (v := .ref (kad K (36))) X wf_X8_45 inX8 dX8_wave_47 50 rfl (by decide) rfl rfl (by decide) rfl ?_
        refine g_get (c := 36) (k := 4) (T := TX6) (sk := skX36) (v := .ref (kad K (37))) X wf_X8_174 inX6 dX8_wave_50 53 rfl (by decide) rfl rfl (by decide) rfl ?_
        refine g_iload_n X dX8_wave_53 54 rfl rfl ?_
        refine g_aald (c := 37) (n := 3) (b := 38) (o := 0) (i := f) X dX8_wave_54 55 rfl (by decide) rfl rfl (by omega) ?_
        refine g_iload_n X dX8_wave_55 56 rfl rfl ?_
        refine g_iald (c := (38 + f)) (n := 24) (r := 38) (o := 24 * f) (i := i) (v := (wvS d q t (h 5) (h 30) (h 31) (h 32) (h 33) (h 34) f n i)) X dX8_wave_56 57 rfl (by omega) (XL_38 (by omega)) rfl (by omega) (sumG_row (F := h 38) (W := fun b => wvS d q t (h 5) (h 30) (h 31) (h 32) (h 33) (h 34) b n) (by omega) (by omega)) ?_
        refine g_iret (h := (mrow (mup h 36 3 (nI (t))) 38 (sumG (h 38) (fun b => wvS d q t (h 5) (h 30) (h 31) (h 32) (h 33) (h 34) b n)))) (v := (wvS d q t (h 5) (h 30) (h 31) (h 32) (h 33) (h 34) f n i)) X Z dX8_wave_57 ?_
        exact ⟨((if_pos ⟨f8, f15, t32⟩).trans (by rw [tn_nI (by omega), tn_nI (by omega), tn_nI (by omega)])).symm, ⟨fun c hc9 => by simp only [List.mem_cons, List.not_mem_nil, or_false, not_or] at hc9; simp [mrow, mup, hc9], rfl, rfl⟩⟩
      · skip
        refine g_ldc X (v := (-100001)) dX8_wave_35 37 rfl wk_X8_170 ?_
        refine g_iret (h := h) (v := ((-100001 : Int32))) X Z dX8_wave_37 ?_
        exact ⟨(if_neg (fun z => f32 z.2.2)).symm, xeq_rf h⟩
set_option maxHeartbeats 1000000 in
set_option maxRecDepth 100000 in
theorem c_X8_isStill (h : Mem) (q p m n d : Nat) (I : XI h q p m n d) (x0 x1 : Int32) : cI 69 XL yX8_isStill cX8_isStill 3 (some .int) 4 93 (fun ad => [.ref (ad (0)), .int (x0), .int (x1)]) h (fun r h2 => r = stiV m d (fun t b => wvS d q t (h 5) (h 30) (h 31) (h 32) (h 33) (h 34) b n) x0 x1 ∧ xeq h h2) := by
  refine cI_of XLW (by decide +kernel) (fun ad => Nat.le_of_ble_eq_true rfl) ?_
  intro K X Z
  obtain ⟨C, hsd, hs2, hdg, hpo, hpw, hh0, hs0, ht0, ⟨tz, htz, hto⟩, ⟨pz, hpz, hpk⟩, hshe⟩ := id I
  obtain ⟨hq, hp, hm, hq1, hq2, hp1, hp2, hm1, hm2, hn, hn2, hc, hq0, hd, hd1, hd2⟩ := id C
  show G 69 XL 3 K h 0 [(0, .ref (kad K (0))), (1, .int (x0)), (2, .int (x1))] []
  refine g_aload_n X dX8_isStill_0 1 rfl rfl ?_
  refine g_get (c := 0) (k := 0) (T := TX8) (sk := skX0) (v := .ref (kad K (1))) X wf_X8_12 inX8 dX8_isStill_1 4 rfl (by decide) rfl rfl (by decide) rfl ?_
  refine g_iload_n X dX8_isStill_4 5 rfl rfl ?_
  refine g_callVix (st := []) (v := (bI (0 ≤ (x0).toInt ∧ (x0).toInt ≤ (m : Int) - 1))) (m2 := h) X cw_X8_164 (c_X1_hasPhase h (x0) ((x0).toInt) rfl _ hm (by omega)) dX8_isStill_5 8 rfl (by decide) rfl rfl rfl rfl rfl (by decide) (Nat.le_of_ble_eq_true rfl) ?_
  refine g_ifeq_B X dX8_isStill_8 18 (by decide) 11 rfl (fun t8 => ?_) (fun f8 => ?_)
  · skip
    refine g_iconst X dX8_isStill_18 19 rfl (v := (zI (-1))) rfl ?_
    refine g_iret (h := h) (v := (zI (-1))) X Z dX8_isStill_19 ?_
    exact ⟨(if_neg (fun z => t8 z.1)).symm, xeq_rf h⟩
  · skip
    refine g_iload_n X dX8_isStill_11 12 rfl rfl ?_
    refine g_callSix (st := []) (v := (bI (1 ≤ (x1).toInt ∧ (x1).toInt ≤ 47))) (m2 := h) X cw_X8_167 (c_X8_isTone h (x1) ((x1).toInt) rfl) dX8_isStill_12 15 rfl rfl rfl rfl (by decide) (Nat.le_of_ble_eq_true rfl) ?_
    refine g_ifne_B X dX8_isStill_15 20 (by decide) 18 rfl (fun t15 => ?_) (fun f15 => ?_)
    · skip
      obtain ⟨f, hf, rfl⟩ := inR_nat f8
      obtain ⟨t, ht1, ht2, rfl⟩ := inR_3 (a := 1) (b := 47) t15
      refine g_aload_n X dX8_isStill_20 21 rfl rfl ?_
      refine g_get (c := 0) (k := 3) (T := TX8) (sk := skX0) (v := .ref (kad K (36))) X wf_X8_45 inX8 dX8_isStill_21 24 rfl (by decide) rfl rfl (by decide) rfl ?_
      refine g_iload_n X dX8_isStill_24 25 rfl rfl ?_
      refine g_callVvx (st := []) (m2 := (mrow (mup h 36 3 (nI (t))) 38 (sumG (h 38) (fun b => wvS d q t (h 5) (h 30) (h 31) (h 32) (h 33) (h 34) b n)))) X cw_X8_171 (c_X6_gather h q p m n d (by exact C) t (by omega) (by omega)) dX8_isStill_25 28 rfl (by decide) rfl rfl rfl rfl rfl (by decide) (Nat.le_of_ble_eq_true rfl) ?_
      refine g_aload_n X dX8_isStill_28 29 rfl rfl ?_
      refine g_get (c := 0) (k := 3) (T := TX8) (sk := skX0) (v := .ref (kad K (36))) X wf_X8_45 inX8 dX8_isStill_29 32 rfl (by decide) rfl rfl (by decide) rfl ?_
      refine g_iload_n X dX8_isStill_32 33 rfl rfl ?_
      refine g_callVix (st := []) (v := (bI (∀ i, i < d → grd ((mrow (mup h 36 3 (nI (t))) 38 (sumG (h 38) (fun b => wvS d q t (h 5) (h 30) (h 31) (h 32) (h 33) (h 34) b n))) 38) (24 * f) i = 0))) (m2 := (mrow (mup h 36 3 (nI (t))) 38 (sumG (h 38) (fun b => wvS d q t (h 5) (h 30) (h 31) (h 32) (h 33) (h 34) b n)))) X cw_X8_178 (c_X6_isNought (mrow (mup h 36 3 (nI (t))) 38 (sumG (h 38) (fun b => wvS d q t (h 5) (h 30) (h 31) (h 32) (h 33) (h 34) b n))) q p m n d (by exact C) f (by omega)) dX8_isStill_33 36 rfl (by decide) rfl rfl rfl rfl rfl (by decide) (Nat.le_of_ble_eq_true rfl) ?_
      refine g_callSix (st := []) (v := (bI (∀ i, i < d → grd ((mrow (mup h 36 3 (nI (t))) 38 (sumG (h 38) (fun b => wvS d q t (h 5) (h 30) (h 31) (h 32) (h 33) (h 34) b n))) 38) (24 * f) i = 0))) (m2 := (mrow (mup h 36 3 (nI (t))) 38 (sumG (h 38) (fun b => wvS d q t (h 5) (h 30) (h 31) (h 32) (h 33) (h 34) b n)))) X cw_X8_106 (c_X8_oneIf (mrow (mup h 36 3 (nI (t))) 38 (sumG (h 38) (fun b => wvS d q t (h 5) (h 30) (h 31) (h 32) (h 33) (h 34) b n))) (∀ i, i < d → grd ((mrow (mup h 36 3 (nI (t))) 38 (sumG (h 38) (fun b => wvS d q t (h 5) (h 30) (h 31) (h 32) (h 33) (h 34) b n))) 38) (24 * f) i = 0)) dX8_isStill_36 39 rfl rfl rfl rfl (by decide) (Nat.le_of_ble_eq_true rfl) ?_
      refine g_iret (h := (mrow (mup h 36 3 (nI (t))) 38 (sumG (h 38) (fun b => wvS d q t (h 5) (h 30) (h 31) (h 32) (h 33) (h 34) b n)))) (v := (bI (∀ i, i < d → grd ((mrow (mup h 36 3 (nI (t))) 38 (sumG (h 38) (fun b => wvS d q t (h 5) (h 30) (h 31) (h 32) (h 33) (h 34) b n))) 38) (24 * f) i = 0))) X Z dX8_isStill_39 ?_
      refine ⟨((if_pos ⟨f8, t15⟩).trans ?_).symm, ⟨fun c hc9 => by simp only [List.mem_cons, List.not_mem_nil, or_false, not_or] at hc9; simp [mrow, mup, hc9], rfl, rfl⟩⟩
      rw [tn_nI (by omega), tn_nI (by omega)]
      refine bI_c ⟨fun z i hi => ?_, fun z i hi => ?_⟩
      · exact (sumG_row (F := h 38) (W := fun b => wvS d q t (h 5) (h 30) (h 31) (h 32) (h 33) (h 34) b n) (by omega) (by omega)).trans (z i hi)
      · exact (sumG_row (F := h 38) (W := fun b => wvS d q t (h 5) (h 30) (h 31) (h 32) (h 33) (h 34) b n) (by omega) (by omega)).symm.trans (z i hi)
    · skip
      refine g_iconst X dX8_isStill_18 19 rfl (v := (zI (-1))) rfl ?_
      refine g_iret (h := h) (v := (zI (-1))) X Z dX8_isStill_19 ?_
      exact ⟨(if_neg (fun z => f15 z.2)).symm, xeq_rf h⟩
set_option maxHeartbeats 1000000 in
set_option maxRecDepth 100000 in
theorem c_X8_balanced (h : Mem) (q p m n d : Nat) (I : XI h q p m n d) (x0 : Int32) : cI 69 XL yX8_balanced cX8_balanced 2 (some .int) 4 93 (fun ad => [.ref (ad (0)), .int (x0)]) h (fun r h2 => r = balV q m d (h 3) (fun t b => wvS d q t (h 5) (h 30) (h 31) (h 32) (h 33) (h 34) b n) x0 ∧ xeq h h2) := by
  refine cI_of XLW (by decide +kernel) (fun ad => Nat.le_of_ble_eq_true rfl) ?_
  intro K X Z
  obtain ⟨C, hsd, hs2, hdg, hpo, hpw, hh0, hs0, ht0, ⟨tz, htz, hto⟩, ⟨pz, hpz, hpk⟩, hshe⟩ := id I
  obtain ⟨hq, hp, hm, hq1, hq2, hp1, hp2, hm1, hm2, hn, hn2, hc, hq0, hd, hd1, hd2⟩ := id C
  show G 69 XL 2 K h 0 [(0, .ref (kad K (0))), (1, .int (x0))] []
  refine g_iload_n X dX8_balanced_0 1 rfl rfl ?_
  refine g_callSix (st := []) (v := (bI (1 ≤ (x0).toInt ∧ (x0).toInt ≤ 47))) (m2 := h) X cw_X8_167 (c_X8_isTone h (x0) ((x0).toInt) rfl) dX8_balanced_1 4 rfl rfl rfl rfl (by decide) (Nat.le_of_ble_eq_true rfl) ?_
  refine g_ifne_B X dX8_balanced_4 9 (by decide) 7 rfl (fun t4 => ?_) (fun f4 => ?_)
  · skip
    obtain ⟨t, ht1, ht2, rfl⟩ := inR_3 (a := 1) (b := 47) t4
    refine g_aload_n X dX8_balanced_9 10 rfl rfl ?_
    refine g_get (c := 0) (k := 3) (T := TX8) (sk := skX0) (v := .ref (kad K (36))) X wf_X8_45 inX8 dX8_balanced_10 13 rfl (by decide) rfl rfl (by decide) rfl ?_
    refine g_iload_n X dX8_balanced_13 14 rfl rfl ?_
    refine g_callVvx (st := []) (m2 := (mrow (mup h 36 3 (nI (t))) 38 (sumG (h 38) (fun b => wvS d q t (h 5) (h 30) (h 31) (h 32) (h 33) (h 34) b n)))) X cw_X8_171 (c_X6_gather h q p m n d (by exact C) t (by omega) (by omega)) dX8_balanced_14 17 rfl (by decide) rfl rfl rfl rfl rfl (by decide) (Nat.le_of_ble_eq_true rfl) ?_
    refine g_aload_n X dX8_balanced_17 18 rfl rfl ?_
    refine g_get (c := 0) (k := 3) (T := TX8) (sk := skX0) (v := .ref (kad K (36))) X wf_X8_45 inX8 dX8_balanced_18 21 rfl (by decide) rfl rfl (by decide) rfl ?_
    refine g_callVi (st := []) X cw_X8_181 (c_X6_leastTurn (mrow (mup h 36 3 (nI t)) 38 (sumG (h 38) (fun b => wvS d q t (h 5) (h 30) (h 31) (h 32) (h 33) (h 34) b n))) q p m n d (by exact C) t (by rfl) (by omega)) dX8_balanced_21 24 rfl (by decide) rfl rfl rfl rfl rfl (by decide) (Nat.le_of_ble_eq_true rfl) ?_
    rintro _ _ ⟨rfl, w5, v5, rfl⟩
    refine g_iret (h := (mrow (mrow (mrow (mup h 36 3 (nI t)) 38 (sumG (h 38) (fun b => wvS d q t (h 5) (h 30) (h 31) (h 32) (h 33) (h 34) b n))) 41 w5) 42 v5)) (v := (ltV q m d t (h 3) (fun b => grd ((mrow (mup h 36 3 (nI t)) 38 (sumG (h 38) (fun b => wvS d q t (h 5) (h 30) (h 31) (h 32) (h 33) (h 34) b n))) 38) (24 * b)))) X Z dX8_balanced_24 ?_
    refine ⟨((if_pos t4).trans ?_).symm, ⟨fun c hc9 => by simp only [List.mem_cons, List.not_mem_nil, or_false, not_or] at hc9; simp [mrow, mup, hc9], rfl, rfl⟩⟩
    rw [tn_nI (by omega)]
    exact ltV_congr hm2 hd1 hd2 (fun f i hf hi => (sumG_row (F := h 38) (W := fun b => wvS d q t (h 5) (h 30) (h 31) (h 32) (h 33) (h 34) b n) hf hi).symm)
  · skip
    refine g_iconst X dX8_balanced_7 8 rfl (v := (zI (-1))) rfl ?_
    refine g_iret (h := h) (v := (zI (-1))) X Z dX8_balanced_8 ?_
    exact ⟨(if_neg f4).symm, xeq_rf h⟩
