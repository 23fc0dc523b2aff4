set_option maxHeartbeats 1000000 in
set_option maxRecDepth 100000 in
theorem c_X8_ways (h : Mem) (q p m n d : Nat) (I : XI h q p m n d) (x0 x1 : Int32) : cI 69 XL yX8_ways cX8_ways 3 (some .int) 13 309 (fun ad => [.ref (ad (0)), .int (x0), .int (x1)]) h (fun r h2 => r = (if (isC m x0 ∧ (1 ≤ x1.toInt ∧ x1.toInt ≤ 4)) then wayR (tn x1) (glB (uin (h 30) (h 34) (tn x0)) n) (chS (tn x1) ((glB (uin (h 30) (h 34) (tn x0)) n).length / (tn x1)) (okW d q p (tn x1) (glB (uin (h 30) (h 34) (tn x0)) n).length (h 5) (fun j => (glB (uin (h 30) (h 34) (tn x0)) n).getD j 0) (h 31) (h 32) (h 33)) (glB (uin (h 30) (h 34) (tn x0)) n).length 0 0 (fun _ => 0)) else zI (-1)) ∧ h2 44 = (if (isC m x0 ∧ (1 ≤ x1.toInt ∧ x1.toInt ≤ 4)) then wayF (h 44) (tn x1) (glB (uin (h 30) (h 34) (tn x0)) n) (chS (tn x1) ((glB (uin (h 30) (h 34) (tn x0)) n).length / (tn x1)) (okW d q p (tn x1) (glB (uin (h 30) (h 34) (tn x0)) n).length (h 5) (fun j => (glB (uin (h 30) (h 34) (tn x0)) n).getD j 0) (h 31) (h 32) (h 33)) (glB (uin (h 30) (h 34) (tn x0)) n).length 0 0 (fun _ => 0)) else h 44) ∧ agr h h2 [43, 44, 45, 46]) := by
  refine cI_of XLW (by decide +kernel) (fun ad => Nat.le_of_ble_eq_true rfl) ?_
  intro K X Z
  obtain ⟨C, hsd, hs2, hdg, hpo, hpw, hh0, hs0, ht0, ⟨tz, htz, hto⟩, ⟨pz, hpz, hpk⟩, hshe⟩ := id I
  obtain ⟨hq, hp, hm, hq1, hq2, hp1, hp2, hm1, hm2, hn, hn2, hc, hq0, hd, hd1, hd2⟩ := id C
  show G 69 XL 3 K h 0 [(0, .ref (kad K (0))), (1, .int (x0)), (2, .int (x1))] []
  refine g_aload_n X dX8_ways_0 1 rfl rfl ?_
  refine g_get (c := 0) (k := 0) (T := TX8) (sk := skX0) (v := .ref (kad K (1))) X wf_X8_12 inX8 dX8_ways_1 4 rfl (by decide) rfl rfl (by decide) rfl ?_
  refine g_iload_n X dX8_ways_4 5 rfl rfl ?_
  refine g_callVix (st := []) (v := (bI (0 ≤ (x0).toInt ∧ (x0).toInt ≤ (m : Int) - 1))) (m2 := h) X cw_X8_164 (c_X1_hasPhase h (x0) ((x0).toInt) rfl _ hm (by omega)) dX8_ways_5 8 rfl (by decide) rfl rfl rfl rfl rfl (by decide) (Nat.le_of_ble_eq_true rfl) ?_
  refine g_ifeq_B X dX8_ways_8 20 (by decide) 11 rfl (fun t8 => ?_) (fun f8 => ?_)
  · skip
    refine g_iconst X dX8_ways_20 21 rfl (v := (zI (-1))) rfl ?_
    refine g_iret (h := h) (v := (zI (-1))) X Z dX8_ways_21 ?_
    exact ⟨(if_neg (fun z => t8 z.1)).symm, (if_neg (fun z => t8 z.1)).symm, fun _ _ => rfl⟩
  · skip
    refine g_iload_n X dX8_ways_11 12 rfl rfl ?_
    refine g_iconst X dX8_ways_12 13 rfl (v := (nI (1))) rfl ?_
    refine g_iconst X dX8_ways_13 14 rfl (v := (nI (4))) rfl ?_
    refine g_callSix (st := []) (v := (bI (1 ≤ (x1).toInt ∧ (x1).toInt ≤ 4))) (m2 := h) X cw_X8_81 (c_X8_isWithin h (x1) (nI (1)) (nI (4)) ((x1).toInt) 1 4 rfl rfl rfl) dX8_ways_14 17 rfl rfl rfl rfl (by decide) (Nat.le_of_ble_eq_true rfl) ?_
    refine g_ifne_B X dX8_ways_17 22 (by decide) 20 rfl (fun t17 => ?_) (fun f17 => ?_)
    · skip
      obtain ⟨f, hf, rfl⟩ := inR_nat f8
      obtain ⟨g, hg1, hg2, rfl⟩ := inR_3 (a := 1) (b := 4) t17
      have ef : tn (nI f) = f := tn_nI (by omega)
      have eg : tn (nI g) = g := tn_nI (by omega)
      refine g_aload_n X dX8_ways_22 23 rfl rfl ?_
      refine g_get (c := 0) (k := 4) (T := TX8) (sk := skX0) (v := .ref (kad K (43))) X wf_X8_52 inX8 dX8_ways_23 26 rfl (by decide) rfl rfl (by decide) rfl ?_
      refine g_iload_n X dX8_ways_26 27 rfl rfl ?_
      refine g_iload_n X dX8_ways_27 28 rfl rfl ?_
      refine g_callVi (st := []) X cw_X8_184 (c_X7_part h q p m n d C f g (by omega) hg1 hg2 hh0 hs0) dX8_ways_28 31 rfl (by decide) rfl rfl rfl rfl rfl (by decide) (Nat.le_of_ble_eq_true rfl) ?_
      rintro r9 h9 ⟨e1, e2, e3⟩
      refine g_iret (h := h9) (v := (r9)) X Z dX8_ways_31 ?_
      exact ⟨((if_pos ⟨f8, t17⟩).trans (by rw [ef, eg, e1])).symm, ((if_pos ⟨f8, t17⟩).trans (by rw [ef, eg, e2])).symm, e3⟩
    · skip
      refine g_iconst X dX8_ways_20 21 rfl (v := (zI (-1))) rfl ?_
      refine g_iret (h := h) (v := (zI (-1))) X Z dX8_ways_21 ?_
      exact ⟨(if_neg (fun z => f17 z.2)).symm, (if_neg (fun z => f17 z.2)).symm, fun _ _ => rfl⟩
set_option maxHeartbeats 1000000 in
set_option maxRecDepth 100000 in
theorem c_X8_wayOf (h : Mem) (q p m n d : Nat) (I : XI h q p m n d) (x0 : Int32) : cI 69 XL yX8_wayOf cX8_wayOf 2 (some .int) 2 43 (fun ad => [.ref (ad (0)), .int (x0)]) h (fun r h2 => r = atV n (h 44) x0 ∧ h2 = h) := by
  refine cI_of XLW (by decide +kernel) (fun ad => Nat.le_of_ble_eq_true rfl) ?_
  intro K X Z
  obtain ⟨C, hsd, hs2, hdg, hpo, hpw, hh0, hs0, ht0, ⟨tz, htz, hto⟩, ⟨pz, hpz, hpk⟩, hshe⟩ := id I
  obtain ⟨hq, hp, hm, hq1, hq2, hp1, hp2, hm1, hm2, hn, hn2, hc, hq0, hd, hd1, hd2⟩ := id C
  show G 69 XL 2 K h 0 [(0, .ref (kad K (0))), (1, .int (x0))] []
  refine g_aload_n X dX8_wayOf_0 1 rfl rfl ?_
  refine g_get (c := 0) (k := 2) (T := TX8) (sk := skX0) (v := .ref (kad K (29))) X wf_X8_36 inX8 dX8_wayOf_1 4 rfl (by decide) rfl rfl (by decide) rfl ?_
  refine g_iload_n X dX8_wayOf_4 5 rfl rfl ?_
  refine g_callVix (st := []) (v := (bI (0 ≤ (x0).toInt ∧ (x0).toInt ≤ (n : Int) - 1))) (m2 := h) X cw_X8_98 (c_X0_has h (x0) ((x0).toInt) rfl n hn hn2) dX8_wayOf_5 8 rfl (by decide) rfl rfl rfl rfl rfl (by decide) (Nat.le_of_ble_eq_true rfl) ?_
  refine g_ifeq_B X dX8_wayOf_8 23 (by decide) 11 rfl (fun t8 => ?_) (fun f8 => ?_)
  · skip
    refine g_iconst X dX8_wayOf_23 24 rfl (v := (zI (-1))) rfl ?_
    refine g_iret (h := h) (v := (zI (-1))) X Z dX8_wayOf_24 ?_
    exact ⟨(if_neg t8).symm, rfl⟩
  · skip
    obtain ⟨k, hk, rfl⟩ := inR_nat f8
    refine g_aload_n X dX8_wayOf_11 12 rfl rfl ?_
    refine g_get (c := 0) (k := 4) (T := TX8) (sk := skX0) (v := .ref (kad K (43))) X wf_X8_52 inX8 dX8_wayOf_12 15 rfl (by decide) rfl rfl (by decide) rfl ?_
    refine g_get (c := 43) (k := 3) (T := TX7) (sk := skX43) (v := .ref (kad K (44))) X wf_X8_187 inX7 dX8_wayOf_15 18 rfl (by decide) rfl rfl (by decide) rfl ?_
    refine g_iload_n X dX8_wayOf_18 19 rfl rfl ?_
    refine g_iald (c := 44) (n := 24) (r := 44) (o := 0) (i := k) (v := (h 44 k)) X dX8_wayOf_19 20 rfl (by decide) rfl rfl (by omega) rfl ?_
    refine g_goto X dX8_wayOf_20 24 (by decide) ?_
    refine g_iret (h := h) (v := (h 44 k)) X Z dX8_wayOf_24 ?_
    exact ⟨((if_pos f8).trans (by rw [tn_nI (by omega)])).symm, rfl⟩
set_option maxHeartbeats 1000000 in
set_option maxRecDepth 100000 in
theorem c_X8_copper (h : Mem) (q p m n d : Nat) (I : XI h q p m n d) : cI 69 XL yX8_copper cX8_copper 3 (some .int) 2 44 (fun ad => [.ref (ad (0))]) h (fun r h2 => r = nI (copS q (h 31) (h 32) (h 33) (h 34) n) ∧ h2 = h) := by
  refine cI_of XLW (by decide +kernel) (fun ad => Nat.le_of_ble_eq_true rfl) ?_
  intro K X Z
  obtain ⟨C, hsd, hs2, hdg, hpo, hpw, hh0, hs0, ht0, ⟨tz, htz, hto⟩, ⟨pz, hpz, hpk⟩, hshe⟩ := id I
  obtain ⟨hq, hp, hm, hq1, hq2, hp1, hp2, hm1, hm2, hn, hn2, hc, hq0, hd, hd1, hd2⟩ := id C
  show G 69 XL 3 K h 0 [(0, .ref (kad K (0)))] []
  refine g_iconst X dX8_copper_0 1 rfl (v := (nI (0))) rfl ?_
  refine g_istore_n X (lv' := [(0, .ref (kad K (0))), (1, .int (nI 0))]) dX8_copper_1 2 rfl (by decide) rfl rfl ?_
  refine g_iconst X dX8_copper_2 3 rfl (v := (nI (0))) rfl ?_
  refine g_istore_n X (lv' := [(0, .ref (kad K (0))), (1, .int (nI 0)), (2, .int (nI 0))]) dX8_copper_3 4 rfl (by decide) rfl rfl ?_
  have lp4 : ∀ (fu : Nat) (k : Nat) (u : Nat) (hk : k ≤ n) (hu : u = copS q (h 31) (h 32) (h 33) (h 34) k), n - k < fu → G 69 XL 3 K h 4 [(0, .ref (kad K (0))), (1, .int (nI (u))), (2, .int (nI (k)))] [] := by
    intro fu
    induction fu with
    | zero => intro k u hk hu hm; exact absurd hm (Nat.not_lt_zero _)
    | succ fu ih4 =>
      intro k u hk hu hm4
      refine g_iload_n X dX8_copper_4 5 rfl rfl ?_
      refine g_aload_n X dX8_copper_5 6 rfl rfl ?_
      refine g_get (c := 0) (k := 2) (T := TX8) (sk := skX0) (v := .ref (kad K (29))) X wf_X8_36 inX8 dX8_copper_6 9 rfl (by decide) rfl rfl (by decide) rfl ?_
      refine g_get (c := 29) (k := 1) (T := TX0) (sk := skX29) (v := .int (nI (n))) X wf_X8_110 inX0 dX8_copper_9 12 rfl (by decide) rfl rfl (by decide) (congrArg Value.int (hn)) ?_
      refine g_icmp_ge X ((k : Nat) : Int) ((n : Nat) : Int) dX8_copper_12 71 (by decide) 15 rfl (nI_toInt (by omega)) (nI_toInt (by omega)) (fun t12 => ?_) (fun f12 => ?_)
      · skip
        refine g_iload_n X dX8_copper_71 72 rfl rfl ?_
        refine g_iret (h := h) (v := (nI (u))) X Z dX8_copper_72 ?_
        exact ⟨by rw [hu, show k = n from by omega], rfl⟩
      · skip
        refine g_aload_n X dX8_copper_15 16 rfl rfl ?_
        refine g_get (c := 0) (k := 2) (T := TX8) (sk := skX0) (v := .ref (kad K (29))) X wf_X8_36 inX8 dX8_copper_16 19 rfl (by decide) rfl rfl (by decide) rfl ?_
        refine g_get (c := 29) (k := 6) (T := TX0) (sk := skX29) (v := .ref (kad K (34))) X wf_X8_102 inX0 dX8_copper_19 22 rfl (by decide) rfl rfl (by decide) rfl ?_
        refine g_iload_n X dX8_copper_22 23 rfl rfl ?_
        refine g_zald (c := 34) (n := 24) (r := 34) (o := 0) (i := k) (v := (bI (h 34 k = nI 1))) X dX8_copper_23 24 rfl (by decide) rfl rfl (by omega) (us_b (hc k (by omega)).us) ?_
        refine g_ifeq_B X dX8_copper_24 65 (by decide) 27 rfl (fun t24 => ?_) (fun f24 => ?_)
        · skip
          refine g_iinc X (v := (nI (k + 1))) (lv' := [(0, .ref (kad K (0))), (1, .int (nI (u))), (2, .int (nI (k + 1)))]) dX8_copper_65 68 rfl (by decide) rfl (n_inc k 1) rfl rfl ?_
          refine g_goto X dX8_copper_68 4 (by decide) ?_
          skip
          exact ih4 (k + 1) u (by omega) (by rw [hu, copS, if_neg t24]; rfl) (by omega)
        · skip
          refine g_iload_n X dX8_copper_27 28 rfl rfl ?_
          refine g_aload_n X dX8_copper_28 29 rfl rfl ?_
          refine g_get (c := 0) (k := 2) (T := TX8) (sk := skX0) (v := .ref (kad K (29))) X wf_X8_36 inX8 dX8_copper_29 32 rfl (by decide) rfl rfl (by decide) rfl ?_
          refine g_get (c := 29) (k := 5) (T := TX0) (sk := skX29) (v := .ref (kad K (33))) X wf_X8_137 inX0 dX8_copper_32 35 rfl (by decide) rfl rfl (by decide) rfl ?_
          refine g_iload_n X dX8_copper_35 36 rfl rfl ?_
          refine g_iald (c := 33) (n := 24) (r := 33) (o := 0) (i := k) (v := (nI (tn (h 33 k)))) X dX8_copper_36 37 rfl (by decide) rfl rfl (by omega) ((hc k (by omega)).tu.1) ?_
          refine g_aload_n X dX8_copper_37 38 rfl rfl ?_
          refine g_get (c := 0) (k := 0) (T := TX8) (sk := skX0) (v := .ref (kad K (1))) X wf_X8_12 inX8 dX8_copper_38 41 rfl (by decide) rfl rfl (by decide) rfl ?_
          refine g_aload_n X dX8_copper_41 42 rfl rfl ?_
          refine g_get (c := 0) (k := 2) (T := TX8) (sk := skX0) (v := .ref (kad K (29))) X wf_X8_36 inX8 dX8_copper_42 45 rfl (by decide) rfl rfl (by decide) rfl ?_
          refine g_get (c := 29) (k := 3) (T := TX0) (sk := skX29) (v := .ref (kad K (31))) X wf_X8_131 inX0 dX8_copper_45 48 rfl (by decide) rfl rfl (by decide) rfl ?_
          refine g_iload_n X dX8_copper_48 49 rfl rfl ?_
          refine g_iald (c := 31) (n := 24) (r := 31) (o := 0) (i := k) (v := (nI (tn (h 31 k)))) X dX8_copper_49 50 rfl (by decide) rfl rfl (by omega) ((hc k (by omega)).ci.1) ?_
          refine g_aload_n X dX8_copper_50 51 rfl rfl ?_
          refine g_get (c := 0) (k := 2) (T := TX8) (sk := skX0) (v := .ref (kad K (29))) X wf_X8_36 inX8 dX8_copper_51 54 rfl (by decide) rfl rfl (by decide) rfl ?_
          refine g_get (c := 29) (k := 4) (T := TX0) (sk := skX29) (v := .ref (kad K (32))) X wf_X8_134 inX0 dX8_copper_54 57 rfl (by decide) rfl rfl (by decide) rfl ?_
          refine g_iload_n X dX8_copper_57 58 rfl rfl ?_
          refine g_iald (c := 32) (n := 24) (r := 32) (o := 0) (i := k) (v := (nI (tn (h 32 k)))) X dX8_copper_58 59 rfl (by decide) rfl rfl (by omega) ((hc k (by omega)).co.1) ?_
          have hx1 := (hc k (by omega)).co.2
          have hx2 := (hc k (by omega)).ci.2
          refine g_callVix (st := [.int (nI (tn (h 33 k))), .int (nI (u))]) (v := (nI (apt q (tn (h 31 k)) (tn (h 32 k))))) (m2 := h) X cw_X8_190 (c_X1_between h _ (tn (h 31 k)) (tn (h 32 k)) hq (by omega) (by omega) (by omega) (by omega) (by omega)) dX8_copper_59 62 rfl (by decide) rfl rfl rfl rfl rfl (by decide) (Nat.le_of_ble_eq_true rfl) ?_
          refine g_imul X (v := (nI ((tn (h 33 k)) * (apt q (tn (h 31 k)) (tn (h 32 k)))))) dX8_copper_62 63 rfl (pk_mul (tn (h 33 k)) (apt q (tn (h 31 k)) (tn (h 32 k)))) ?_
          refine g_iadd X (v := (nI (u + ((tn (h 33 k)) * (apt q (tn (h 31 k)) (tn (h 32 k))))))) dX8_copper_63 64 rfl (nI_add u ((tn (h 33 k)) * (apt q (tn (h 31 k)) (tn (h 32 k))))) ?_
          refine g_istore_n X (lv' := [(0, .ref (kad K (0))), (1, .int (nI (u + ((tn (h 33 k)) * (apt q (tn (h 31 k)) (tn (h 32 k))))))), (2, .int (nI (k)))]) dX8_copper_64 65 rfl (by decide) rfl rfl ?_
          refine g_iinc X (v := (nI (k + 1))) (lv' := [(0, .ref (kad K (0))), (1, .int (nI (u + ((tn (h 33 k)) * (apt q (tn (h 31 k)) (tn (h 32 k))))))), (2, .int (nI (k + 1)))]) dX8_copper_65 68 rfl (by decide) rfl (n_inc k 1) rfl rfl ?_
          refine g_goto X dX8_copper_68 4 (by decide) ?_
          skip
          exact ih4 (k + 1) (u + tn (h 33 k) * apt q (tn (h 31 k)) (tn (h 32 k))) (by omega) (by rw [hu, copS, if_pos f24]) (by omega)
  skip
  exact lp4 _ 0 0 (by omega) rfl (Nat.lt_succ_self _)
set_option maxHeartbeats 1000000 in
set_option maxRecDepth 100000 in
theorem c_X8_tour (h : Mem) (q p m n d : Nat) (I : XI h q p m n d) (x0 : Int32) : cI 69 XL yX8_tour cX8_tour 2 (some .int) 13 295 (fun ad => [.ref (ad (0)), .int (x0)]) h (fun r h2 => r = (if isC m x0 then touR (glB (uin (h 30) (h 34) (tn x0)) n) (goS (glB (uin (h 30) (h 34) (tn x0)) n).length (scF q (h 32) (h 31) (fun j => (glB (uin (h 30) (h 34) (tn x0)) n).getD j 0)) (fun j => (glB (uin (h 30) (h 34) (tn x0)) n).getD j 0) ((glB (uin (h 30) (h 34) (tn x0)) n).length - 1) 1 0 (fun _ => 0) (168, h 54)) else zI (-1)) ∧ h2 54 = (if isC m x0 then touF (h 54) (glB (uin (h 30) (h 34) (tn x0)) n) (goS (glB (uin (h 30) (h 34) (tn x0)) n).length (scF q (h 32) (h 31) (fun j => (glB (uin (h 30) (h 34) (tn x0)) n).getD j 0)) (fun j => (glB (uin (h 30) (h 34) (tn x0)) n).getD j 0) ((glB (uin (h 30) (h 34) (tn x0)) n).length - 1) 1 0 (fun _ => 0) (168, h 54)) else h 54) ∧ h2 53 1 = (if isC m x0 then touN (h 53 1) (glB (uin (h 30) (h 34) (tn x0)) n) else h 53 1) ∧ agr h h2 [53, 54, 55, 56]) := by
  refine cI_of XLW (by decide +kernel) (fun ad => Nat.le_of_ble_eq_true rfl) ?_
  intro K X Z
  obtain ⟨C, hsd, hs2, hdg, hpo, hpw, hh0, hs0, ht0, ⟨tz, htz, hto⟩, ⟨pz, hpz, hpk⟩, hshe⟩ := id I
  obtain ⟨hq, hp, hm, hq1, hq2, hp1, hp2, hm1, hm2, hn, hn2, hc, hq0, hd, hd1, hd2⟩ := id C
  show G 69 XL 2 K h 0 [(0, .ref (kad K (0))), (1, .int (x0))] []
  refine g_aload_n X dX8_tour_0 1 rfl rfl ?_
  refine g_get (c := 0) (k := 0) (T := TX8) (sk := skX0) (v := .ref (kad K (1))) X wf_X8_12 inX8 dX8_tour_1 4 rfl (by decide) rfl rfl (by decide) rfl ?_
  refine g_iload_n X dX8_tour_4 5 rfl rfl ?_
  refine g_callVix (st := []) (v := (bI (0 ≤ (x0).toInt ∧ (x0).toInt ≤ (m : Int) - 1))) (m2 := h) X cw_X8_164 (c_X1_hasPhase h (x0) ((x0).toInt) rfl _ hm (by omega)) dX8_tour_5 8 rfl (by decide) rfl rfl rfl rfl rfl (by decide) (Nat.le_of_ble_eq_true rfl) ?_
  refine g_ifeq_B X dX8_tour_8 22 (by decide) 11 rfl (fun t8 => ?_) (fun f8 => ?_)
  · skip
    refine g_iconst X dX8_tour_22 23 rfl (v := (zI (-1))) rfl ?_
    refine g_iret (h := h) (v := (zI (-1))) X Z dX8_tour_23 ?_
    exact ⟨(if_neg t8).symm, (if_neg t8).symm, (if_neg t8).symm, fun _ _ => rfl⟩
  · skip
    obtain ⟨f, hf, rfl⟩ := inR_nat f8
    have ef : tn (nI f) = f := tn_nI (by omega)
    refine g_aload_n X dX8_tour_11 12 rfl rfl ?_
    refine g_get (c := 0) (k := 5) (T := TX8) (sk := skX0) (v := .ref (kad K (53))) X wf_X8_61 inX8 dX8_tour_12 15 rfl (by decide) rfl rfl (by decide) rfl ?_
    refine g_iload_n X dX8_tour_15 16 rfl rfl ?_
    refine g_callVi (st := []) X cw_X8_193 (c_X5_shortest h q p m n d C f (by omega) ht0) dX8_tour_16 19 rfl (by decide) rfl rfl rfl rfl rfl (by decide) (Nat.le_of_ble_eq_true rfl) ?_
    rintro r9 h9 ⟨e1, e2, e3, e4⟩
    refine g_goto X dX8_tour_19 23 (by decide) ?_
    refine g_iret (h := h9) (v := (r9)) X Z dX8_tour_23 ?_
    exact ⟨((if_pos f8).trans (by rw [ef, e1])).symm, ((if_pos f8).trans (by rw [ef, e2])).symm, ((if_pos f8).trans (by rw [ef, e3])).symm, e4⟩
set_option maxHeartbeats 1000000 in
set_option maxRecDepth 100000 in
theorem c_X8_tourAt (h : Mem) (q p m n d : Nat) (I : XI h q p m n d) (x0 : Int32) : cI 69 XL yX8_tourAt cX8_tourAt 2 (some .int) 1 22 (fun ad => [.ref (ad (0)), .int (x0)]) h (fun r h2 => r = (if x0.toInt = -1 then h 53 1 else atV (tn (h 53 1)) (h 54) x0) ∧ h2 = h) := by
  refine cI_of XLW (by decide +kernel) (fun ad => Nat.le_of_ble_eq_true rfl) ?_
  intro K X Z
  obtain ⟨C, hsd, hs2, hdg, hpo, hpw, hh0, hs0, ht0, ⟨tz, htz, hto⟩, ⟨pz, hpz, hpk⟩, hshe⟩ := id I
  obtain ⟨hq, hp, hm, hq1, hq2, hp1, hp2, hm1, hm2, hn, hn2, hc, hq0, hd, hd1, hd2⟩ := id C
  show G 69 XL 2 K h 0 [(0, .ref (kad K (0))), (1, .int (x0))] []
  refine g_iload_n X dX8_tourAt_0 1 rfl rfl ?_
  refine g_iconst X dX8_tourAt_1 2 rfl (v := (zI (-1))) rfl ?_
  refine g_icmp_ne X ((x0).toInt) (-1) dX8_tourAt_2 13 (by decide) 5 rfl rfl rfl (fun t2 => ?_) (fun f2 => ?_)
  · skip
    refine g_iload_n X dX8_tourAt_13 14 rfl rfl ?_
    refine g_iconst X dX8_tourAt_14 15 rfl (v := (nI (0))) rfl ?_
    refine g_aload_n X dX8_tourAt_15 16 rfl rfl ?_
    refine g_get (c := 0) (k := 5) (T := TX8) (sk := skX0) (v := .ref (kad K (53))) X wf_X8_61 inX8 dX8_tourAt_16 19 rfl (by decide) rfl rfl (by decide) rfl ?_
    refine g_get (c := 53) (k := 1) (T := TX5) (sk := skX53) (v := .int (nI (tz))) X wf_X8_196 inX5 dX8_tourAt_19 22 rfl (by decide) rfl rfl (by decide) (congrArg Value.int (hto)) ?_
    refine g_iconst X dX8_tourAt_22 23 rfl (v := (nI (1))) rfl ?_
    refine g_isub X (v := (zI (((tz : Nat) : Int) - ((1 : Nat) : Int)))) dX8_tourAt_23 24 rfl (nn_sub tz 1) ?_
    refine g_callSix (st := []) (v := (bI (0 ≤ (x0).toInt ∧ (x0).toInt ≤ ((tz : Nat) : Int) - ((1 : Nat) : Int)))) (m2 := h) X cw_X8_81 (c_X8_isWithin h (x0) (nI (0)) (zI (((tz : Nat) : Int) - ((1 : Nat) : Int))) ((x0).toInt) 0 (((tz : Nat) : Int) - ((1 : Nat) : Int)) rfl rfl (zI_toInt (by omega))) dX8_tourAt_24 27 rfl rfl rfl rfl (by decide) (Nat.le_of_ble_eq_true rfl) ?_
    refine g_ifeq_B X dX8_tourAt_27 42 (by decide) 30 rfl (fun t27 => ?_) (fun f27 => ?_)
    · skip
      refine g_iconst X dX8_tourAt_42 43 rfl (v := (zI (-1))) rfl ?_
      refine g_iret (h := h) (v := (zI (-1))) X Z dX8_tourAt_43 ?_
      exact ⟨((if_neg t2).trans (if_neg (by rw [hto, tn_nI (by omega)]; exact t27))).symm, rfl⟩
    · skip
      obtain ⟨k, hk, rfl⟩ := inR_nat f27
      refine g_aload_n X dX8_tourAt_30 31 rfl rfl ?_
      refine g_get (c := 0) (k := 5) (T := TX8) (sk := skX0) (v := .ref (kad K (53))) X wf_X8_61 inX8 dX8_tourAt_31 34 rfl (by decide) rfl rfl (by decide) rfl ?_
      refine g_get (c := 53) (k := 2) (T := TX5) (sk := skX53) (v := .ref (kad K (54))) X wf_X8_199 inX5 dX8_tourAt_34 37 rfl (by decide) rfl rfl (by decide) rfl ?_
      refine g_iload_n X dX8_tourAt_37 38 rfl rfl ?_
      refine g_iald (c := 54) (n := 7) (r := 54) (o := 0) (i := k) (v := (h 54 k)) X dX8_tourAt_38 39 rfl (by decide) rfl rfl (by omega) rfl ?_
      refine g_goto X dX8_tourAt_39 43 (by decide) ?_
      refine g_iret (h := h) (v := (h 54 k)) X Z dX8_tourAt_43 ?_
      exact ⟨((if_neg t2).trans ((if_pos (by rw [hto, tn_nI (by omega)]; exact f27)).trans (by rw [tn_nI (by omega)]))).symm, rfl⟩
  · skip
    refine g_aload_n X dX8_tourAt_5 6 rfl rfl ?_
    refine g_get (c := 0) (k := 5) (T := TX8) (sk := skX0) (v := .ref (kad K (53))) X wf_X8_61 inX8 dX8_tourAt_6 9 rfl (by decide) rfl rfl (by decide) rfl ?_
    refine g_get (c := 53) (k := 1) (T := TX5) (sk := skX53) (v := .int (nI (tz))) X wf_X8_196 inX5 dX8_tourAt_9 12 rfl (by decide) rfl rfl (by decide) (congrArg Value.int (hto)) ?_
    refine g_iret (h := h) (v := (nI (tz))) X Z dX8_tourAt_12 ?_
    exact ⟨((if_pos f2).trans hto).symm, rfl⟩
set_option maxHeartbeats 1000000 in
set_option maxRecDepth 100000 in
theorem c_X8_mend (h : Mem) (q p m n d : Nat) (I : XI h q p m n d) : cI 69 XL yX8_mend cX8_mend 1 (some .int) 8 222 (fun ad => [.ref (ad (0))]) h (fun r h2 => r = pkV (tryP (fun j => pkG (fun k => decide (h 34 k = nI 1)) (fun l => okM q m d p (h 3) (remS d q p (h 5) (h 30) (h 31) (h 32) (h 33) (fun b => wvS d q p (h 5) (h 30) (h 31) (h 32) (h 33) (h 34) b n) l)) n j 0 []) 3 0) ∧ h2 58 3 = pkN (h 58 3) (tryP (fun j => pkG (fun k => decide (h 34 k = nI 1)) (fun l => okM q m d p (h 3) (remS d q p (h 5) (h 30) (h 31) (h 32) (h 33) (fun b => wvS d q p (h 5) (h 30) (h 31) (h 32) (h 33) (h 34) b n) l)) n j 0 []) 3 0) ∧ pkQ (h 59) (h2 59) (tryP (fun j => pkG (fun k => decide (h 34 k = nI 1)) (fun l => okM q m d p (h 3) (remS d q p (h 5) (h 30) (h 31) (h 32) (h 33) (fun b => wvS d q p (h 5) (h 30) (h 31) (h 32) (h 33) (h 34) b n) l)) n j 0 []) 3 0) ∧ agr h h2 [36, 38, 41, 42, 58, 59, 60]) := by
  refine cI_of XLW (by decide +kernel) (fun ad => Nat.le_of_ble_eq_true rfl) ?_
  intro K X Z
  obtain ⟨C, hsd, hs2, hdg, hpo, hpw, hh0, hs0, ht0, ⟨tz, htz, hto⟩, ⟨pz, hpz, hpk⟩, hshe⟩ := id I
  obtain ⟨hq, hp, hm, hq1, hq2, hp1, hp2, hm1, hm2, hn, hn2, hc, hq0, hd, hd1, hd2⟩ := id C
  show G 69 XL 1 K h 0 [(0, .ref (kad K (0)))] []
  refine g_aload_n X dX8_mend_0 1 rfl rfl ?_
  refine g_get (c := 0) (k := 6) (T := TX8) (sk := skX0) (v := .ref (kad K (58))) X wf_X8_70 inX8 dX8_mend_1 4 rfl (by decide) rfl rfl (by decide) rfl ?_
  refine g_callVi (st := []) X cw_X8_200 (c_X2_fewestToMend h q p m n d C) dX8_mend_4 7 rfl (by decide) rfl rfl rfl rfl rfl (by decide) (Nat.le_of_ble_eq_true rfl) ?_
  intro r9 h9 e9
  refine g_iret (h := h9) (v := (r9)) X Z dX8_mend_7 ?_
  exact e9
def ifO {α : Type} (c : Prop) [Decidable c] (x : Option α) : Option α := if c then x else none
set_option maxHeartbeats 1000000 in
set_option maxRecDepth 100000 in
theorem c_X8_shorts (h : Mem) (q p m n d : Nat) (I : XI h q p m n d) (x0 x1 : Int32) : cI 69 XL yX8_shorts cX8_shorts 3 (some .int) 9 248 (fun ad => [.ref (ad (0)), .int (x0), .int (x1)]) h (fun r h2 => r = (if (isC m x0 ∧ (0 ≤ x1.toInt ∧ x1.toInt ≤ 9999)) then pkV (tryP (fun j => pkG (uin (h 30) (h 34) (tn x0)) (fun l => decide ((((tuS (uin (h 30) (h 34) (tn x0)) (h 33) n : Nat) : Int) - (((tn x1) : Nat) : Int)) - ((sumT (h 33) l : Nat) : Int) = 0)) n j 0 []) 4 0) else zI (-1)) ∧ h2 58 3 = pkN (h 58 3) (ifO (isC m x0 ∧ (0 ≤ x1.toInt ∧ x1.toInt ≤ 9999)) (tryP (fun j => pkG (uin (h 30) (h 34) (tn x0)) (fun l => decide ((((tuS (uin (h 30) (h 34) (tn x0)) (h 33) n : Nat) : Int) - (((tn x1) : Nat) : Int)) - ((sumT (h 33) l : Nat) : Int) = 0)) n j 0 []) 4 0)) ∧ pkQ (h 59) (h2 59) (ifO (isC m x0 ∧ (0 ≤ x1.toInt ∧ x1.toInt ≤ 9999)) (tryP (fun j => pkG (uin (h 30) (h 34) (tn x0)) (fun l => decide ((((tuS (uin (h 30) (h 34) (tn x0)) (h 33) n : Nat) : Int) - (((tn x1) : Nat) : Int)) - ((sumT (h 33) l : Nat) : Int) = 0)) n j 0 []) 4 0)) ∧ agr h h2 [58, 59, 60]) := by
  refine cI_of XLW (by decide +kernel) (fun ad => Nat.le_of_ble_eq_true rfl) ?_
  intro K X Z
  obtain ⟨C, hsd, hs2, hdg, hpo, hpw, hh0, hs0, ht0, ⟨tz, htz, hto⟩, ⟨pz, hpz, hpk⟩, hshe⟩ := id I
  obtain ⟨hq, hp, hm, hq1, hq2, hp1, hp2, hm1, hm2, hn, hn2, hc, hq0, hd, hd1, hd2⟩ := id C
  show G 69 XL 3 K h 0 [(0, .ref (kad K (0))), (1, .int (x0)), (2, .int (x1))] []
  refine g_aload_n X dX8_shorts_0 1 rfl rfl ?_
  refine g_get (c := 0) (k := 0) (T := TX8) (sk := skX0) (v := .ref (kad K (1))) X wf_X8_12 inX8 dX8_shorts_1 4 rfl (by decide) rfl rfl (by decide) rfl ?_
  refine g_iload_n X dX8_shorts_4 5 rfl rfl ?_
  refine g_callVix (st := []) (v := (bI (0 ≤ (x0).toInt ∧ (x0).toInt ≤ (m : Int) - 1))) (m2 := h) X cw_X8_164 (c_X1_hasPhase h (x0) ((x0).toInt) rfl _ hm (by omega)) dX8_shorts_5 8 rfl (by decide) rfl rfl rfl rfl rfl (by decide) (Nat.le_of_ble_eq_true rfl) ?_
  refine g_ifeq_B X dX8_shorts_8 22 (by decide) 11 rfl (fun t8 => ?_) (fun f8 => ?_)
  · skip
    refine g_iconst X dX8_shorts_22 23 rfl (v := (zI (-1))) rfl ?_
    refine g_iret (h := h) (v := (zI (-1))) X Z dX8_shorts_23 ?_
    exact ⟨(if_neg (fun z => t8 z.1)).symm, by rw [ifO, if_neg (fun z => t8 z.1)]; rfl, by rw [ifO, if_neg (fun z => t8 z.1)]; rfl, fun _ _ => rfl⟩
  · skip
    refine g_iload_n X dX8_shorts_11 12 rfl rfl ?_
    refine g_iconst X dX8_shorts_12 13 rfl (v := (nI (0))) rfl ?_
    refine g_sipush X dX8_shorts_13 16 rfl (v := (nI (9999))) rfl ?_
    refine g_callSix (st := []) (v := (bI (0 ≤ (x1).toInt ∧ (x1).toInt ≤ 9999))) (m2 := h) X cw_X8_81 (c_X8_isWithin h (x1) (nI (0)) (nI (9999)) ((x1).toInt) 0 9999 rfl rfl rfl) dX8_shorts_16 19 rfl rfl rfl rfl (by decide) (Nat.le_of_ble_eq_true rfl) ?_
    refine g_ifne_B X dX8_shorts_19 24 (by decide) 22 rfl (fun t19 => ?_) (fun f19 => ?_)
    · skip
      obtain ⟨f, hf, rfl⟩ := inR_nat f8
      obtain ⟨g, hg1, hg2, rfl⟩ := inR_3 (a := 0) (b := 9999) t19
      have ef : tn (nI f) = f := tn_nI (by omega)
      have eg : tn (nI g) = g := tn_nI (by omega)
      refine g_aload_n X dX8_shorts_24 25 rfl rfl ?_
      refine g_get (c := 0) (k := 6) (T := TX8) (sk := skX0) (v := .ref (kad K (58))) X wf_X8_70 inX8 dX8_shorts_25 28 rfl (by decide) rfl rfl (by decide) rfl ?_
      refine g_iload_n X dX8_shorts_28 29 rfl rfl ?_
      refine g_iload_n X dX8_shorts_29 30 rfl rfl ?_
      refine g_callVi (st := []) X cw_X8_203 (c_X2_fewestShort h q p m n d C f g (by omega) hg2) dX8_shorts_30 33 rfl (by decide) rfl rfl rfl rfl rfl (by decide) (Nat.le_of_ble_eq_true rfl) ?_
      rintro r9 h9 ⟨e1, e2, e3, e4⟩
      refine g_iret (h := h9) (v := (r9)) X Z dX8_shorts_33 ?_
      refine ⟨((if_pos ⟨f8, t19⟩).trans (by rw [ef, eg, e1])).symm, ?_, ?_, e4⟩
      · rw [ifO, if_pos ⟨f8, t19⟩, ef, eg]; exact e2
      · rw [ifO, if_pos ⟨f8, t19⟩, ef, eg]; exact e3
    · skip
      refine g_iconst X dX8_shorts_22 23 rfl (v := (zI (-1))) rfl ?_
      refine g_iret (h := h) (v := (zI (-1))) X Z dX8_shorts_23 ?_
      exact ⟨(if_neg (fun z => f19 z.2)).symm, by rw [ifO, if_neg (fun z => f19 z.2)]; rfl, by rw [ifO, if_neg (fun z => f19 z.2)]; rfl, fun _ _ => rfl⟩
set_option maxHeartbeats 1000000 in
set_option maxRecDepth 100000 in
theorem c_X8_picked (h : Mem) (q p m n d : Nat) (I : XI h q p m n d) (x0 : Int32) : cI 69 XL yX8_picked cX8_picked 2 (some .int) 1 22 (fun ad => [.ref (ad (0)), .int (x0)]) h (fun r h2 => r = atV (tn (h 58 3)) (h 59) x0 ∧ h2 = h) := by
  refine cI_of XLW (by decide +kernel) (fun ad => Nat.le_of_ble_eq_true rfl) ?_
  intro K X Z
  obtain ⟨C, hsd, hs2, hdg, hpo, hpw, hh0, hs0, ht0, ⟨tz, htz, hto⟩, ⟨pz, hpz, hpk⟩, hshe⟩ := id I
  obtain ⟨hq, hp, hm, hq1, hq2, hp1, hp2, hm1, hm2, hn, hn2, hc, hq0, hd, hd1, hd2⟩ := id C
  show G 69 XL 2 K h 0 [(0, .ref (kad K (0))), (1, .int (x0))] []
  refine g_iload_n X dX8_picked_0 1 rfl rfl ?_
  refine g_iconst X dX8_picked_1 2 rfl (v := (nI (0))) rfl ?_
  refine g_aload_n X dX8_picked_2 3 rfl rfl ?_
  refine g_get (c := 0) (k := 6) (T := TX8) (sk := skX0) (v := .ref (kad K (58))) X wf_X8_70 inX8 dX8_picked_3 6 rfl (by decide) rfl rfl (by decide) rfl ?_
  refine g_get (c := 58) (k := 3) (T := TX2) (sk := skX58) (v := .int (nI (pz))) X wf_X8_206 inX2 dX8_picked_6 9 rfl (by decide) rfl rfl (by decide) (congrArg Value.int (hpk)) ?_
  refine g_iconst X dX8_picked_9 10 rfl (v := (nI (1))) rfl ?_
  refine g_isub X (v := (zI (((pz : Nat) : Int) - ((1 : Nat) : Int)))) dX8_picked_10 11 rfl (nn_sub pz 1) ?_
  refine g_callSix (st := []) (v := (bI (0 ≤ (x0).toInt ∧ (x0).toInt ≤ ((pz : Nat) : Int) - ((1 : Nat) : Int)))) (m2 := h) X cw_X8_81 (c_X8_isWithin h (x0) (nI (0)) (zI (((pz : Nat) : Int) - ((1 : Nat) : Int))) ((x0).toInt) 0 (((pz : Nat) : Int) - ((1 : Nat) : Int)) rfl rfl (zI_toInt (by omega))) dX8_picked_11 14 rfl rfl rfl rfl (by decide) (Nat.le_of_ble_eq_true rfl) ?_
  refine g_ifeq_B X dX8_picked_14 29 (by decide) 17 rfl (fun t14 => ?_) (fun f14 => ?_)
  · skip
    refine g_iconst X dX8_picked_29 30 rfl (v := (zI (-1))) rfl ?_
    refine g_iret (h := h) (v := (zI (-1))) X Z dX8_picked_30 ?_
    exact ⟨(if_neg (by rw [hpk, tn_nI (by omega)]; exact t14)).symm, rfl⟩
  · skip
    obtain ⟨k, hk, rfl⟩ := inR_nat f14
    refine g_aload_n X dX8_picked_17 18 rfl rfl ?_
    refine g_get (c := 0) (k := 6) (T := TX8) (sk := skX0) (v := .ref (kad K (58))) X wf_X8_70 inX8 dX8_picked_18 21 rfl (by decide) rfl rfl (by decide) rfl ?_
    refine g_get (c := 58) (k := 4) (T := TX2) (sk := skX58) (v := .ref (kad K (59))) X wf_X8_207 inX2 dX8_picked_21 24 rfl (by decide) rfl rfl (by decide) rfl ?_
    refine g_iload_n X dX8_picked_24 25 rfl rfl ?_
    refine g_iald (c := 59) (n := 3) (r := 59) (o := 0) (i := k) (v := (h 59 k)) X dX8_picked_25 26 rfl (by decide) rfl rfl (by omega) rfl ?_
    refine g_goto X dX8_picked_26 30 (by decide) ?_
    refine g_iret (h := h) (v := (h 59 k)) X Z dX8_picked_30 ?_
    exact ⟨((if_pos (by rw [hpk, tn_nI (by omega)]; exact f14)).trans (by rw [tn_nI (by omega)])).symm, rfl⟩
def shM (h : Mem) (x0 x1 x2 : Int32) : Mem := mrow (mup (mup h 62 (tn x0) x1) 63 (tn x0) x2) 65 (gput (h 65) (96 * tn x0) 96 zF)
abbrev shG (x0 x1 x2 : Int32) : Prop := okSh x0 x1 ∧ x2.toInt ≤ 96
def shV (x0 x1 x2 : Int32) : Int32 := if shG x0 x1 x2 then (if x2.toInt < 0 then zI (-14) else x2) else zI (-1)
def drV (x0 : Int32) (la sz : Nat → Int32) : Int32 := if 0 ≤ x0.toInt ∧ x0.toInt ≤ 3 then (if (la (tn x0)).toInt = -1 then zI (-11) else sz (tn x0)) else zI (-1)
abbrev drG (x0 : Int32) (la : Nat → Int32) : Prop := (0 ≤ x0.toInt ∧ x0.toInt ≤ 3) ∧ ¬ (la (tn x0)).toInt = -1
theorem refV_0 {ls y i : Int32} {z n : Nat} (e : (refV ls z y i n).toInt = 0) : 0 ≤ i.toInt ∧ i.toInt ≤ (z : Int) - n := by
  unfold refV at e
  by_cases c1 : ls.toInt = -1
  · rw [if_pos c1] at e; exact absurd e (by decide)
  · rw [if_neg c1] at e
    by_cases c2 : ¬ ls.toInt = y.toInt
    · rw [if_pos c2] at e; exact absurd e (by decide)
    · rw [if_neg c2] at e
      by_cases c3 : 0 ≤ i.toInt ∧ i.toInt ≤ (z : Int) - n
      · exact c3
      · rw [if_neg c3] at e; exact absurd e (by decide)
set_option maxHeartbeats 1000000 in
set_option maxRecDepth 100000 in
theorem c_X8_sheet (h : Mem) (q p m n d : Nat) (I : XI h q p m n d) (x0 x1 x2 : Int32) : cI 69 XL yX8_sheet cX8_sheet 4 (some .int) 2 44 (fun ad => [.ref (ad (0)), .int (x0), .int (x1), .int (x2)]) h (fun r h2 => r = shV x0 x1 x2 ∧ h2 = if shG x0 x1 x2 ∧ 0 ≤ x2.toInt then shM h x0 x1 x2 else h) := by
  refine cI_of XLW (by decide +kernel) (fun ad => Nat.le_of_ble_eq_true rfl) ?_
  intro K X Z
  obtain ⟨C, hsd, hs2, hdg, hpo, hpw, hh0, hs0, ht0, ⟨tz, htz, hto⟩, ⟨pz, hpz, hpk⟩, hshe⟩ := id I
  obtain ⟨hq, hp, hm, hq1, hq2, hp1, hp2, hm1, hm2, hn, hn2, hc, hq0, hd, hd1, hd2⟩ := id C
  show G 69 XL 4 K h 0 [(0, .ref (kad K (0))), (1, .int (x0)), (2, .int (x1)), (3, .int (x2))] []
  refine g_aload_n X dX8_sheet_0 1 rfl rfl ?_
  refine g_get (c := 0) (k := 7) (T := TX8) (sk := skX0) (v := .ref (kad K (61))) X wf_X8_77 inX8 dX8_sheet_1 4 rfl (by decide) rfl rfl (by decide) rfl ?_
  refine g_iload_n X dX8_sheet_4 5 rfl rfl ?_
  refine g_iload_n X dX8_sheet_5 6 rfl rfl ?_
  refine g_callVix (st := []) (v := (bI ((0 ≤ (x0).toInt ∧ (x0).toInt ≤ 3) ∧ (0 ≤ (x1).toInt ∧ (x1).toInt ≤ 2)))) (m2 := h) X cw_X8_208 (c_X4_hasPlace h (x0) (x1)) dX8_sheet_6 9 rfl (by decide) rfl rfl rfl rfl rfl (by decide) (Nat.le_of_ble_eq_true rfl) ?_
  refine g_ifeq_B X dX8_sheet_9 18 (by decide) 12 rfl (fun t9 => ?_) (fun f9 => ?_)
  · skip
    refine g_iconst X dX8_sheet_18 19 rfl (v := (zI (-1))) rfl ?_
    refine g_iret (h := h) (v := (zI (-1))) X Z dX8_sheet_19 ?_
    exact ⟨(if_neg (fun z => t9 z.1)).symm, (if_neg (fun z => t9 z.1.1)).symm⟩
  · skip
    refine g_iload_n X dX8_sheet_12 13 rfl rfl ?_
    refine g_bipush X dX8_sheet_13 15 rfl (v := (nI (96))) rfl ?_
    refine g_icmp_le X ((x2).toInt) 96 dX8_sheet_15 20 (by decide) 18 rfl rfl rfl (fun t15 => ?_) (fun f15 => ?_)
    · skip
      refine g_iload_n X dX8_sheet_20 21 rfl rfl ?_
      refine g_if_ge X ((x2).toInt) dX8_sheet_21 27 (by decide) 24 rfl rfl (fun t21 => ?_) (fun f21 => ?_)
      · skip
        obtain ⟨s, hs0_, hs_, rfl⟩ := inR_3 (a := 0) (b := 3) f9.1
        have es : tn (nI s) = s := tn_nI (by omega)
        obtain ⟨k, hk0, hk, rfl⟩ := inR_3 (a := 0) (b := 96) ⟨by omega, by omega⟩
        refine g_aload_n X dX8_sheet_27 28 rfl rfl ?_
        refine g_get (c := 0) (k := 7) (T := TX8) (sk := skX0) (v := .ref (kad K (61))) X wf_X8_77 inX8 dX8_sheet_28 31 rfl (by decide) rfl rfl (by decide) rfl ?_
        refine g_iload_n X dX8_sheet_31 32 rfl rfl ?_
        refine g_iload_n X dX8_sheet_32 33 rfl rfl ?_
        refine g_iload_n X dX8_sheet_33 34 rfl rfl ?_
        refine g_callVvx (st := []) (m2 := (mrow (mup (mup h 62 s x1) 63 s (nI k)) 65 (gput (h 65) (96 * s) 96 zF))) X cw_X8_212 (c_X4_renew h s k x1 (by omega)) dX8_sheet_34 37 rfl (by decide) rfl rfl rfl rfl rfl (by decide) (Nat.le_of_ble_eq_true rfl) ?_
        refine g_iload_n X dX8_sheet_37 38 rfl rfl ?_
        refine g_iret (h := (mrow (mup (mup h 62 s x1) 63 s (nI k)) 65 (gput (h 65) (96 * s) 96 zF))) (v := (nI (k))) X Z dX8_sheet_38 ?_
        exact ⟨((if_pos ⟨f9, t15⟩).trans (if_neg (by omega))).symm, ((if_pos ⟨⟨f9, t15⟩, t21⟩).trans (by rw [shM, es])).symm⟩
      · skip
        refine g_bipush X dX8_sheet_24 26 rfl (v := (zI (-14))) rfl ?_
        refine g_iret (h := h) (v := (zI (-14))) X Z dX8_sheet_26 ?_
        exact ⟨((if_pos ⟨f9, t15⟩).trans (if_pos (by omega))).symm, (if_neg (fun z => f21 z.2)).symm⟩
    · skip
      refine g_iconst X dX8_sheet_18 19 rfl (v := (zI (-1))) rfl ?_
      refine g_iret (h := h) (v := (zI (-1))) X Z dX8_sheet_19 ?_
      exact ⟨(if_neg (fun z => f15 z.2)).symm, (if_neg (fun z => f15 z.1.2)).symm⟩
set_option maxHeartbeats 1000000 in
set_option maxRecDepth 100000 in
theorem c_X8_drop (h : Mem) (q p m n d : Nat) (I : XI h q p m n d) (x0 : Int32) : cI 69 XL yX8_drop cX8_drop 2 (some .int) 1 22 (fun ad => [.ref (ad (0)), .int (x0)]) h (fun r h2 => r = drV x0 (h 62) (h 63) ∧ h2 = if drG x0 (h 62) then mup h 62 (tn x0) (zI (-1)) else h) := by
  refine cI_of XLW (by decide +kernel) (fun ad => Nat.le_of_ble_eq_true rfl) ?_
  intro K X Z
  obtain ⟨C, hsd, hs2, hdg, hpo, hpw, hh0, hs0, ht0, ⟨tz, htz, hto⟩, ⟨pz, hpz, hpk⟩, hshe⟩ := id I
  obtain ⟨hq, hp, hm, hq1, hq2, hp1, hp2, hm1, hm2, hn, hn2, hc, hq0, hd, hd1, hd2⟩ := id C
  show G 69 XL 2 K h 0 [(0, .ref (kad K (0))), (1, .int (x0))] []
  refine g_iload_n X dX8_drop_0 1 rfl rfl ?_
  refine g_iconst X dX8_drop_1 2 rfl (v := (nI (0))) rfl ?_
  refine g_iconst X dX8_drop_2 3 rfl (v := (nI (3))) rfl ?_
  refine g_callSix (st := []) (v := (bI (0 ≤ (x0).toInt ∧ (x0).toInt ≤ 3))) (m2 := h) X cw_X8_81 (c_X8_isWithin h (x0) (nI (0)) (nI (3)) ((x0).toInt) 0 3 rfl rfl rfl) dX8_drop_3 6 rfl rfl rfl rfl (by decide) (Nat.le_of_ble_eq_true rfl) ?_
  refine g_ifne_B X dX8_drop_6 11 (by decide) 9 rfl (fun t6 => ?_) (fun f6 => ?_)
  · skip
    obtain ⟨s, hs0_, hs_, rfl⟩ := inR_3 (a := 0) (b := 3) t6
    have es : tn (nI s) = s := tn_nI (by omega)
    refine g_aload_n X dX8_drop_11 12 rfl rfl ?_
    refine g_get (c := 0) (k := 7) (T := TX8) (sk := skX0) (v := .ref (kad K (61))) X wf_X8_77 inX8 dX8_drop_12 15 rfl (by decide) rfl rfl (by decide) rfl ?_
    refine g_iload_n X dX8_drop_15 16 rfl rfl ?_
    refine g_callVix (st := []) (v := (bI ((h 62 s).toInt = -1))) (m2 := h) X cw_X8_216 (c_X4_isMissing h s (by omega)) dX8_drop_16 19 rfl (by decide) rfl rfl rfl rfl rfl (by decide) (Nat.le_of_ble_eq_true rfl) ?_
    refine g_ifeq_B X dX8_drop_19 27 (by decide) 22 rfl (fun t19 => ?_) (fun f19 => ?_)
    · skip
      refine g_aload_n X dX8_drop_27 28 rfl rfl ?_
      refine g_get (c := 0) (k := 7) (T := TX8) (sk := skX0) (v := .ref (kad K (61))) X wf_X8_77 inX8 dX8_drop_28 31 rfl (by decide) rfl rfl (by decide) rfl ?_
      refine g_iload_n X dX8_drop_31 32 rfl rfl ?_
      refine g_callVix (st := []) (v := (h 63 s)) (m2 := (mup h 62 s (zI (-1)))) X cw_X8_219 (c_X4_empty h s (by omega)) dX8_drop_32 35 rfl (by decide) rfl rfl rfl rfl rfl (by decide) (Nat.le_of_ble_eq_true rfl) ?_
      refine g_iret (h := (mup h 62 s (zI (-1)))) (v := (h 63 s)) X Z dX8_drop_35 ?_
      exact ⟨((if_pos t6).trans ((if_neg (by rw [es]; exact t19)).trans (by rw [es]))).symm, ((if_pos ⟨t6, by rw [es]; exact t19⟩).trans (by rw [es])).symm⟩
    · skip
      refine g_bipush X dX8_drop_22 24 rfl (v := (zI (-11))) rfl ?_
      refine g_goto X dX8_drop_24 35 (by decide) ?_
      refine g_iret (h := h) (v := (zI (-11))) X Z dX8_drop_35 ?_
      exact ⟨((if_pos t6).trans (if_pos (by rw [es]; exact f19))).symm, (if_neg (fun z => z.2 (by rw [es]; exact f19))).symm⟩
  · skip
    refine g_iconst X dX8_drop_9 10 rfl (v := (zI (-1))) rfl ?_
    refine g_iret (h := h) (v := (zI (-1))) X Z dX8_drop_10 ?_
    exact ⟨(if_neg f6).symm, (if_neg (fun z => f6 z.1)).symm⟩
def itR (h : Mem) (x0 x1 x2 : Int32) (n : Nat) : Int32 := refV (h 62 (tn x0)) (tn (h 63 (tn x0))) x1 x2 n
def itM (h : Mem) (x0 x2 x3 : Int32) : Mem := mup h 65 (tn x2 + 96 * tn x0) (if (h 62 (tn x0)).toInt = 0 then x3.toInt8.toInt32 else x3)
set_option maxHeartbeats 1000000 in
set_option maxRecDepth 100000 in
theorem c_X8_item (h : Mem) (q p m n d : Nat) (I : XI h q p m n d) (x0 x1 x2 x3 : Int32) : cI 69 XL yX8_item cX8_item 6 (some .int) 2 46 (fun ad => [.ref (ad (0)), .int (x0), .int (x1), .int (x2), .int (x3)]) h (fun r h2 => r = (if okSh x0 x1 then (if (itR h x0 x1 x2 1).toInt = 0 then nI 1 else itR h x0 x1 x2 1) else zI (-1)) ∧ h2 = if okSh x0 x1 ∧ (itR h x0 x1 x2 1).toInt = 0 then itM h x0 x2 x3 else h) := by
  refine cI_of XLW (by decide +kernel) (fun ad => Nat.le_of_ble_eq_true rfl) ?_
  intro K X Z
  obtain ⟨C, hsd, hs2, hdg, hpo, hpw, hh0, hs0, ht0, ⟨tz, htz, hto⟩, ⟨pz, hpz, hpk⟩, hshe⟩ := id I
  obtain ⟨hq, hp, hm, hq1, hq2, hp1, hp2, hm1, hm2, hn, hn2, hc, hq0, hd, hd1, hd2⟩ := id C
  show G 69 XL 6 K h 0 [(0, .ref (kad K (0))), (1, .int (x0)), (2, .int (x1)), (3, .int (x2)), (4, .int (x3))] []
  refine g_aload_n X dX8_item_0 1 rfl rfl ?_
  refine g_get (c := 0) (k := 7) (T := TX8) (sk := skX0) (v := .ref (kad K (61))) X wf_X8_77 inX8 dX8_item_1 4 rfl (by decide) rfl rfl (by decide) rfl ?_
  refine g_iload_n X dX8_item_4 5 rfl rfl ?_
  refine g_iload_n X dX8_item_5 6 rfl rfl ?_
  refine g_callVix (st := []) (v := (bI ((0 ≤ (x0).toInt ∧ (x0).toInt ≤ 3) ∧ (0 ≤ (x1).toInt ∧ (x1).toInt ≤ 2)))) (m2 := h) X cw_X8_208 (c_X4_hasPlace h (x0) (x1)) dX8_item_6 9 rfl (by decide) rfl rfl rfl rfl rfl (by decide) (Nat.le_of_ble_eq_true rfl) ?_
  refine g_ifne_B X dX8_item_9 14 (by decide) 12 rfl (fun t9 => ?_) (fun f9 => ?_)
  · skip
    obtain ⟨s, hs0_, hs_, rfl⟩ := inR_3 (a := 0) (b := 3) t9.1
    have es : tn (nI s) = s := tn_nI (by omega)
    obtain ⟨-, zz, hzz, hze⟩ := hshe s (by omega)
    have ez : tn (h 63 s) = zz := by rw [hze]; exact tn_nI (by omega)
    refine g_aload_n X dX8_item_14 15 rfl rfl ?_
    refine g_get (c := 0) (k := 7) (T := TX8) (sk := skX0) (v := .ref (kad K (61))) X wf_X8_77 inX8 dX8_item_15 18 rfl (by decide) rfl rfl (by decide) rfl ?_
    refine g_iload_n X dX8_item_18 19 rfl rfl ?_
    refine g_iload_n X dX8_item_19 20 rfl rfl ?_
    refine g_iload_n X dX8_item_20 21 rfl rfl ?_
    refine g_iconst X dX8_item_21 22 rfl (v := (nI (1))) rfl ?_
    refine g_callVix (st := []) (v := (refV (h 62 s) zz x1 x2 1)) (m2 := h) X cw_X8_222 (c_X4_refusalOf h s zz 1 x1 x2 (by omega) hze hzz (by omega)) dX8_item_22 25 rfl (by decide) rfl rfl rfl rfl rfl (by decide) (Nat.le_of_ble_eq_true rfl) ?_
    refine g_istore X (lv' := [(0, .ref (kad K (0))), (1, .int (nI (s))), (2, .int (x1)), (3, .int (x2)), (4, .int (x3)), (5, .int (refV (h 62 s) zz x1 x2 1))]) dX8_item_25 27 rfl (by decide) rfl rfl ?_
    refine g_iload X dX8_item_27 29 rfl rfl ?_
    refine g_if_eq X ((refV (h 62 s) zz x1 x2 1).toInt) dX8_item_29 35 (by decide) 32 rfl rfl (fun t29 => ?_) (fun f29 => ?_)
    · skip
      have hr9 := refV_0 t29
      obtain ⟨k, hk0, hk, rfl⟩ := inR_3 (a := 0) (b := 95) ⟨hr9.1, by omega⟩
      have ek : tn (nI k) = k := tn_nI (by omega)
      refine g_aload_n X dX8_item_35 36 rfl rfl ?_
      refine g_get (c := 0) (k := 7) (T := TX8) (sk := skX0) (v := .ref (kad K (61))) X wf_X8_77 inX8 dX8_item_36 39 rfl (by decide) rfl rfl (by decide) rfl ?_
      refine g_iload_n X dX8_item_39 40 rfl rfl ?_
      refine g_iload_n X dX8_item_40 41 rfl rfl ?_
      refine g_iload X dX8_item_41 43 rfl rfl ?_
      refine g_callVvx (st := []) (m2 := (mup h 65 (k + 96 * s) (if (h 62 s).toInt = 0 then x3.toInt8.toInt32 else x3))) X cw_X8_225 (c_X4_put h s k x3 (by omega) (by omega)) dX8_item_43 46 rfl (by decide) rfl rfl rfl rfl rfl (by decide) (Nat.le_of_ble_eq_true rfl) ?_
      refine g_iconst X dX8_item_46 47 rfl (v := (nI (1))) rfl ?_
      refine g_iret (h := (mup h 65 (k + 96 * s) (if (h 62 s).toInt = 0 then x3.toInt8.toInt32 else x3))) (v := (nI (1))) X Z dX8_item_47 ?_
      exact ⟨((if_pos t9).trans (by rw [itR, es, ez]; exact if_pos t29)).symm, ((if_pos ⟨t9, by rw [itR, es, ez]; exact t29⟩).trans (by rw [itM, es, ek])).symm⟩
    · skip
      refine g_iload X dX8_item_32 34 rfl rfl ?_
      refine g_iret (h := h) (v := (refV (h 62 s) zz x1 x2 1)) X Z dX8_item_34 ?_
      exact ⟨((if_pos t9).trans (by rw [itR, es, ez]; exact if_neg f29)).symm, (if_neg (fun z => f29 (by have z2 := z.2; rw [itR, es, ez] at z2; exact z2))).symm⟩
  · skip
    refine g_iconst X dX8_item_12 13 rfl (v := (zI (-1))) rfl ?_
    refine g_iret (h := h) (v := (zI (-1))) X Z dX8_item_13 ?_
    exact ⟨(if_neg f9).symm, (if_neg (fun z => f9 z.1)).symm⟩
