theorem kf0_inv {h : Mem} {q p m n d : Nat} (C : XC h q p m n d) : XC (kfM h 0) q p m 0 d ∧ CI9 (kfM h 0) 0 := by
  obtain ⟨hq, hp, hm, hq1, hq2, hp1, hp2, hm1, hm2, hn, hn2, hc, hq0, hd, hd1, hd2⟩ := C
  exact ⟨⟨hq, hp, hm, hq1, hq2, hp1, hp2, hm1, hm2, rfl, by omega, fun k hk => absurd hk (Nat.not_lt_zero _), hq0, hd, hd1, hd2⟩, fun j hj => if_pos hj, fun j hj => Nat.zero_le _⟩
theorem lbr_t (h : Mem) (q p m n d : Nat) (C : XC h q p m n d) (i b : Nat) (g9 : layG q m n (h 35) (nI (rPh q p m i)) (nI (rIn q p m b i)) (nI (rOut q p m b i)) (nI 1)) (t : turnedB m (beltN q p m i) = true) : cI 69 XL yX0_lay cX0_lay 5 (some .int) 2 43 (fun ad => [.ref (ad 29), .int (nI (phaseN m (beltN q p m i))), .int (nI ((i + b) % q)), .int (nI i), .int (nI 1)]) h (fun r h2 => r = nI n ∧ h2 = layMX h n (nI (rPh q p m i)) (nI (rIn q p m b i)) (nI (rOut q p m b i)) (nI 1)) := by
  obtain ⟨hq, hp, hm, hq1, hq2, hp1, hp2, hm1, hm2, hn, hn2, hc, hq0, hd, hd1, hd2⟩ := id C
  have e := c_X0_lay h q m (nI (rPh q p m i)) (nI (rIn q p m b i)) (nI (rOut q p m b i)) (nI 1) n hn hn2 hq hm hq2 hm2
  have e1 : layV q m n (h 35) (nI (rPh q p m i)) (nI (rIn q p m b i)) (nI (rOut q p m b i)) (nI 1) = nI n := by
    unfold layV
    rw [if_pos g9.1, if_neg g9.2.1, if_neg (by have := g9.2.2; omega)]
  rw [e1, if_pos g9] at e
  have e2 : rIn q p m b i = ((i + b) % q) := if_pos t
  have e3 : rOut q p m b i = i := if_pos t
  rw [e2, e3] at e ⊢
  exact e
theorem lbr_f (h : Mem) (q p m n d : Nat) (C : XC h q p m n d) (i b : Nat) (g9 : layG q m n (h 35) (nI (rPh q p m i)) (nI (rIn q p m b i)) (nI (rOut q p m b i)) (nI 1)) (t : ¬ turnedB m (beltN q p m i) = true) : cI 69 XL yX0_lay cX0_lay 5 (some .int) 2 43 (fun ad => [.ref (ad 29), .int (nI (phaseN m (beltN q p m i))), .int (nI i), .int (nI ((i + b) % q)), .int (nI 1)]) h (fun r h2 => r = nI n ∧ h2 = layMX h n (nI (rPh q p m i)) (nI (rIn q p m b i)) (nI (rOut q p m b i)) (nI 1)) := by
  obtain ⟨hq, hp, hm, hq1, hq2, hp1, hp2, hm1, hm2, hn, hn2, hc, hq0, hd, hd1, hd2⟩ := id C
  have e := c_X0_lay h q m (nI (rPh q p m i)) (nI (rIn q p m b i)) (nI (rOut q p m b i)) (nI 1) n hn hn2 hq hm hq2 hm2
  have e1 : layV q m n (h 35) (nI (rPh q p m i)) (nI (rIn q p m b i)) (nI (rOut q p m b i)) (nI 1) = nI n := by
    unfold layV
    rw [if_pos g9.1, if_neg g9.2.1, if_neg (by have := g9.2.2; omega)]
  rw [e1, if_pos g9] at e
  have e2 : rIn q p m b i = i := if_neg t
  have e3 : rOut q p m b i = ((i + b) % q) := if_neg t
  rw [e2, e3] at e ⊢
  exact e
set_option maxHeartbeats 1000000 in
set_option maxRecDepth 100000 in
theorem c_X8_layByRule (h : Mem) (q p m n d : Nat) (C : XC h q p m n d) (i b : Nat) (hi : i < q) (hb : b < q) (g9 : layG q m n (h 35) (nI (rPh q p m i)) (nI (rIn q p m b i)) (nI (rOut q p m b i)) (nI 1)) : cV 69 XL yX8_layByRule cX8_layByRule 5 3 67 (fun ad => [.ref (ad (0)), .int (nI (i)), .int (nI (b))]) h (fun h2 => h2 = layMX h n (nI (rPh q p m i)) (nI (rIn q p m b i)) (nI (rOut q p m b i)) (nI 1)) := by
  refine cV_of XLW (by decide +kernel) (fun ad => Nat.le_of_ble_eq_true rfl) ?_
  intro K X Z
  obtain ⟨hq, hp, hm, hq1, hq2, hp1, hp2, hm1, hm2, hn, hn2, hc, hq0, hd, hd1, hd2⟩ := id C
  show G 69 XL 5 K h 0 [(0, .ref (kad K (0))), (1, .int (nI (i))), (2, .int (nI (b)))] []
  refine g_aload_n X dX8_layByRule_0 1 rfl rfl ?_
  refine g_get (c := 0) (k := 0) (T := TX8) (sk := skX0) (v := .ref (kad K (1))) X wf_X8_12 inX8 dX8_layByRule_1 4 rfl (by decide) rfl rfl (by decide) rfl ?_
  refine g_iload_n X dX8_layByRule_4 5 rfl rfl ?_
  refine g_callVix (st := []) (v := (nI (beltN q p m i))) (m2 := h) X cw_X8_117 (c_X1_beltOf h q p m i hq hp hm hq1 hq2 hp1 hp2 hm1 hm2 (by omega)) dX8_layByRule_5 8 rfl (by decide) rfl rfl rfl rfl rfl (by decide) (Nat.le_of_ble_eq_true rfl) ?_
  refine g_istore_n X (lv' := [(0, .ref (kad K (0))), (1, .int (nI (i))), (2, .int (nI (b))), (3, .int (nI (beltN q p m i)))]) dX8_layByRule_8 9 rfl (by decide) rfl rfl ?_
  refine g_iload_n X dX8_layByRule_9 10 rfl rfl ?_
  refine g_iload_n X dX8_layByRule_10 11 rfl rfl ?_
  refine g_iadd X (v := (nI (i + b))) dX8_layByRule_11 12 rfl (nI_add i b) ?_
  refine g_aload_n X dX8_layByRule_12 13 rfl rfl ?_
  refine g_get (c := 0) (k := 0) (T := TX8) (sk := skX0) (v := .ref (kad K (1))) X wf_X8_12 inX8 dX8_layByRule_13 16 rfl (by decide) rfl rfl (by decide) rfl ?_
  refine g_get (c := 1) (k := 0) (T := TX1) (sk := skX1) (v := .int (nI (q))) X wf_X8_23 inX1 dX8_layByRule_16 19 rfl (by decide) rfl rfl (by decide) (congrArg Value.int (hq)) ?_
  have b19 := Nat.mod_le (i + b) q
  refine g_irem X (v := (nI ((i + b) % q))) dX8_layByRule_19 20 rfl (nI_ne (by omega) (by omega)) (pk_rem (by omega) (by omega) (by omega)) ?_
  refine g_istore X (lv' := [(0, .ref (kad K (0))), (1, .int (nI (i))), (2, .int (nI (b))), (3, .int (nI (beltN q p m i))), (4, .int (nI ((i + b) % q)))]) dX8_layByRule_20 22 rfl (by decide) rfl rfl ?_
  refine g_aload_n X dX8_layByRule_22 23 rfl rfl ?_
  refine g_get (c := 0) (k := 0) (T := TX8) (sk := skX0) (v := .ref (kad K (1))) X wf_X8_12 inX8 dX8_layByRule_23 26 rfl (by decide) rfl rfl (by decide) rfl ?_
  refine g_iload_n X dX8_layByRule_26 27 rfl rfl ?_
  refine g_callVix (st := []) (v := (bI (turnedB m (beltN q p m i) = true))) (m2 := h) X cw_X8_121 (c_X1_isTurnedRound h m (beltN q p m i) hm hm2 (Nat.lt_of_lt_of_le (Nat.mod_lt _ (by omega)) (by omega))) dX8_layByRule_27 30 rfl (by decide) rfl rfl rfl rfl rfl (by decide) (Nat.le_of_ble_eq_true rfl) ?_
  refine g_ifeq_B X dX8_layByRule_30 56 (by decide) 33 rfl (fun t30 => ?_) (fun f30 => ?_)
  · skip
    refine g_aload_n X dX8_layByRule_56 57 rfl rfl ?_
    refine g_get (c := 0) (k := 2) (T := TX8) (sk := skX0) (v := .ref (kad K (29))) X wf_X8_36 inX8 dX8_layByRule_57 60 rfl (by decide) rfl rfl (by decide) rfl ?_
    refine g_aload_n X dX8_layByRule_60 61 rfl rfl ?_
    refine g_get (c := 0) (k := 0) (T := TX8) (sk := skX0) (v := .ref (kad K (1))) X wf_X8_12 inX8 dX8_layByRule_61 64 rfl (by decide) rfl rfl (by decide) rfl ?_
    refine g_iload_n X dX8_layByRule_64 65 rfl rfl ?_
    refine g_callVix (st := [.ref (kad K (29))]) (v := (nI (phaseN m (beltN q p m i)))) (m2 := h) X cw_X8_124 (c_X1_phaseOf h m (beltN q p m i) hm hm1 hm2 (Nat.lt_of_lt_of_le (Nat.mod_lt _ (by omega)) (by omega))) dX8_layByRule_65 68 rfl (by decide) rfl rfl rfl rfl rfl (by decide) (Nat.le_of_ble_eq_true rfl) ?_
    refine g_iload_n X dX8_layByRule_68 69 rfl rfl ?_
    refine g_iload X dX8_layByRule_69 71 rfl rfl ?_
    refine g_iconst X dX8_layByRule_71 72 rfl (v := (nI (1))) rfl ?_
    refine g_callVix (st := []) (v := (nI (n))) (m2 := (layMX h n (nI (rPh q p m i)) (nI (rIn q p m b i)) (nI (rOut q p m b i)) (nI 1))) X cw_X8_94 (lbr_f h q p m n d C i b g9 t30) dX8_layByRule_72 75 rfl (by decide) rfl rfl rfl rfl rfl (by decide) (Nat.le_of_ble_eq_true rfl) ?_
    refine g_pop X dX8_layByRule_75 76 rfl rfl ?_
    refine g_vret (h := (layMX h n (nI (rPh q p m i)) (nI (rIn q p m b i)) (nI (rOut q p m b i)) (nI 1))) X Z dX8_layByRule_76 ?_
    exact rfl
  · skip
    refine g_aload_n X dX8_layByRule_33 34 rfl rfl ?_
    refine g_get (c := 0) (k := 2) (T := TX8) (sk := skX0) (v := .ref (kad K (29))) X wf_X8_36 inX8 dX8_layByRule_34 37 rfl (by decide) rfl rfl (by decide) rfl ?_
    refine g_aload_n X dX8_layByRule_37 38 rfl rfl ?_
    refine g_get (c := 0) (k := 0) (T := TX8) (sk := skX0) (v := .ref (kad K (1))) X wf_X8_12 inX8 dX8_layByRule_38 41 rfl (by decide) rfl rfl (by decide) rfl ?_
    refine g_iload_n X dX8_layByRule_41 42 rfl rfl ?_
    refine g_callVix (st := [.ref (kad K (29))]) (v := (nI (phaseN m (beltN q p m i)))) (m2 := h) X cw_X8_124 (c_X1_phaseOf h m (beltN q p m i) hm hm1 hm2 (Nat.lt_of_lt_of_le (Nat.mod_lt _ (by omega)) (by omega))) dX8_layByRule_42 45 rfl (by decide) rfl rfl rfl rfl rfl (by decide) (Nat.le_of_ble_eq_true rfl) ?_
    refine g_iload X dX8_layByRule_45 47 rfl rfl ?_
    refine g_iload_n X dX8_layByRule_47 48 rfl rfl ?_
    refine g_iconst X dX8_layByRule_48 49 rfl (v := (nI (1))) rfl ?_
    refine g_callVix (st := []) (v := (nI (n))) (m2 := (layMX h n (nI (rPh q p m i)) (nI (rIn q p m b i)) (nI (rOut q p m b i)) (nI 1))) X cw_X8_94 (lbr_t h q p m n d C i b g9 f30) dX8_layByRule_49 52 rfl (by decide) rfl rfl rfl rfl rfl (by decide) (Nat.le_of_ble_eq_true rfl) ?_
    refine g_pop X dX8_layByRule_52 53 rfl rfl ?_
    refine g_goto X dX8_layByRule_53 76 (by decide) ?_
    refine g_vret (h := (layMX h n (nI (rPh q p m i)) (nI (rIn q p m b i)) (nI (rOut q p m b i)) (nI 1))) X Z dX8_layByRule_76 ?_
    exact rfl
set_option maxHeartbeats 1000000 in
set_option maxRecDepth 100000 in
theorem c_X8_make (h : Mem) (q p m n d : Nat) (I : XI h q p m n d) (x0 : Int32) : cI 69 XL yX8_make cX8_make 3 (some .int) 4 91 (fun ad => [.ref (ad (0)), .int (x0)]) h (fun r h2 => r = (if 1 ≤ x0.toInt ∧ x0.toInt ≤ (q : Int) - 1 then nI q else zI (-1)) ∧ h2 = if 1 ≤ x0.toInt ∧ x0.toInt ≤ (q : Int) - 1 then mkM (kfM h 0) q p m (tn x0) q else h) := by
  refine cI_of XLW (by decide +kernel) (fun ad => Nat.le_of_ble_eq_true rfl) ?_
  intro K X Z
  obtain ⟨C, hsd, hs2, hdg, hpo, hpw, hh0, hs0, ht0, ⟨tz, htz, hto⟩, ⟨pz, hpz, hpk⟩, hshe⟩ := id I
  obtain ⟨hq, hp, hm, hq1, hq2, hp1, hp2, hm1, hm2, hn, hn2, hc, hq0, hd, hd1, hd2⟩ := id C
  show G 69 XL 3 K h 0 [(0, .ref (kad K (0))), (1, .int (x0))] []
  refine g_iload_n X dX8_make_0 1 rfl rfl ?_
  refine g_iconst X dX8_make_1 2 rfl (v := (nI (1))) rfl ?_
  refine g_aload_n X dX8_make_2 3 rfl rfl ?_
  refine g_get (c := 0) (k := 0) (T := TX8) (sk := skX0) (v := .ref (kad K (1))) X wf_X8_12 inX8 dX8_make_3 6 rfl (by decide) rfl rfl (by decide) rfl ?_
  refine g_get (c := 1) (k := 0) (T := TX1) (sk := skX1) (v := .int (nI (q))) X wf_X8_23 inX1 dX8_make_6 9 rfl (by decide) rfl rfl (by decide) (congrArg Value.int (hq)) ?_
  refine g_iconst X dX8_make_9 10 rfl (v := (nI (1))) rfl ?_
  refine g_isub X (v := (zI (((q : Nat) : Int) - ((1 : Nat) : Int)))) dX8_make_10 11 rfl (nn_sub q 1) ?_
  refine g_callSix (st := []) (v := (bI (1 ≤ (x0).toInt ∧ (x0).toInt ≤ ((q : Nat) : Int) - ((1 : Nat) : Int)))) (m2 := h) X cw_X8_81 (c_X8_isWithin h (x0) (nI (1)) (zI (((q : Nat) : Int) - ((1 : Nat) : Int))) ((x0).toInt) 1 (((q : Nat) : Int) - ((1 : Nat) : Int)) rfl rfl (zI_toInt (by omega))) dX8_make_11 14 rfl rfl rfl rfl (by decide) (Nat.le_of_ble_eq_true rfl) ?_
  refine g_ifne_B X dX8_make_14 19 (by decide) 17 rfl (fun t14 => ?_) (fun f14 => ?_)
  · skip
    obtain ⟨b, hb1, hb2_, rfl⟩ := inR_3 (x := x0) (a := 1) (b := q - 1) ⟨by omega, by omega⟩
    have hb2 : b < q := by omega
    have eb : tn (nI b) = b := tn_nI (by omega)
    refine g_aload_n X dX8_make_19 20 rfl rfl ?_
    refine g_get (c := 0) (k := 2) (T := TX8) (sk := skX0) (v := .ref (kad K (29))) X wf_X8_36 inX8 dX8_make_20 23 rfl (by decide) rfl rfl (by decide) rfl ?_
    refine g_iconst X dX8_make_23 24 rfl (v := (nI (0))) rfl ?_
    refine g_callVvx (st := []) (m2 := (kfM h 0)) X cw_X8_85 (c_X0_keepFirst h q m 0 n hn hn2 hq2 hc hsd (Nat.zero_le _)) dX8_make_24 27 rfl (by decide) rfl rfl rfl rfl rfl (by decide) (Nat.le_of_ble_eq_true rfl) ?_
    refine g_iconst X dX8_make_27 28 rfl (v := (nI (0))) rfl ?_
    refine g_istore_n X (lv' := [(0, .ref (kad K (0))), (1, .int (nI (b))), (2, .int (nI 0))]) dX8_make_28 29 rfl (by decide) rfl rfl ?_
    have lp29 : ∀ (fu : Nat) (k : Nat) (hk : k ≤ q), q - k < fu → G 69 XL 3 K (mkM (kfM h 0) q p m b k) 29 [(0, .ref (kad K (0))), (1, .int (nI (b))), (2, .int (nI (k)))] [] := by
      intro fu
      induction fu with
      | zero => intro k hk hm; exact absurd hm (Nat.not_lt_zero _)
      | succ fu ih29 =>
        intro k hk hm29
        obtain ⟨Ck, Vk, Sk, gk⟩ := mk_inv (kf0_inv C).1 (kf0_inv C).2 hb1 hb2 k hk
        obtain ⟨hqk, -, -, -, -, -, -, -, -, hnk, -⟩ := id Ck
        refine g_iload_n X dX8_make_29 30 rfl rfl ?_
        refine g_aload_n X dX8_make_30 31 rfl rfl ?_
        refine g_get (c := 0) (k := 0) (T := TX8) (sk := skX0) (v := .ref (kad K (1))) X wf_X8_12 inX8 dX8_make_31 34 rfl (by decide) rfl rfl (by decide) rfl ?_
        refine g_get (c := 1) (k := 0) (T := TX1) (sk := skX1) (v := .int (nI (q))) X wf_X8_23 inX1 dX8_make_34 37 rfl (by decide) rfl rfl (by decide) (congrArg Value.int (hqk)) ?_
        refine g_icmp_ge X ((k : Nat) : Int) ((q : Nat) : Int) dX8_make_37 52 (by decide) 40 rfl (nI_toInt (by omega)) (nI_toInt (by omega)) (fun t37 => ?_) (fun f37 => ?_)
        · skip
          refine g_aload_n X dX8_make_52 53 rfl rfl ?_
          refine g_get (c := 0) (k := 2) (T := TX8) (sk := skX0) (v := .ref (kad K (29))) X wf_X8_36 inX8 dX8_make_53 56 rfl (by decide) rfl rfl (by decide) rfl ?_
          refine g_get (c := 29) (k := 1) (T := TX0) (sk := skX29) (v := .int (nI (k))) X wf_X8_110 inX0 dX8_make_56 59 rfl (by decide) rfl rfl (by decide) (congrArg Value.int (hnk)) ?_
          refine g_iret (h := (mkM (kfM h 0) q p m b k)) (v := (nI (k))) X Z dX8_make_59 ?_
          exact ⟨((if_pos t14).trans (by rw [show q = k from by omega])).symm, ((if_pos t14).trans (by rw [eb]; rw [show mkM (kfM h 0) q p m b q = mkM (kfM h 0) q p m b k from by rw [show k = q from by omega]])).symm⟩
        · skip
          refine g_aload_n X dX8_make_40 41 rfl rfl ?_
          refine g_iload_n X dX8_make_41 42 rfl rfl ?_
          refine g_iload_n X dX8_make_42 43 rfl rfl ?_
          refine g_callVvx (st := []) (m2 := (mkM (kfM h 0) q p m b (k + 1))) X cw_X8_113 (c_X8_layByRule (mkM (kfM h 0) q p m b k) q p m k d Ck k b (by omega) hb2 (gk (by omega))) dX8_make_43 46 rfl (by decide) rfl rfl rfl rfl rfl (by decide) (Nat.le_of_ble_eq_true rfl) ?_
          refine g_iinc X (v := (nI (k + 1))) (lv' := [(0, .ref (kad K (0))), (1, .int (nI (b))), (2, .int (nI (k + 1)))]) dX8_make_46 49 rfl (by decide) rfl (n_inc k 1) rfl rfl ?_
          refine g_goto X dX8_make_49 29 (by decide) ?_
          skip
          exact ih29 (k + 1) (by omega) (by omega)
    skip
    refine g_mem (h := (kfM h 0)) (h' := (mkM (kfM h 0) q p m b 0)) rfl ?_
    exact lp29 _ 0 (by omega) (Nat.lt_succ_self _)
  · skip
    refine g_iconst X dX8_make_17 18 rfl (v := (zI (-1))) rfl ?_
    refine g_iret (h := h) (v := (zI (-1))) X Z dX8_make_18 ?_
    exact ⟨(if_neg f14).symm, (if_neg f14).symm⟩
theorem laV_neg {h : Mem} {q m n a k : Nat} (hn : n + k < 1000) : (0 ≤ (laV h q m n a k).toInt) ↔ laG h q m n a k := by
  unfold laV laG layV
  by_cases c1 : okc q m (h 65 (a + 4 * k)) (h 65 (a + 4 * k + 1)) (h 65 (a + 4 * k + 2)) (h 65 (a + 4 * k + 3))
  · rw [if_pos c1]
    by_cases c2 : fullS (laM h n a k 35) (h 65 (a + 4 * k + 1)) (h 65 (a + 4 * k + 2))
    · rw [if_pos c2]
      exact ⟨fun z => absurd z (by decide), fun z => absurd c2 z.2.1⟩
    · rw [if_neg c2]
      by_cases c3 : 24 ≤ n + k
      · rw [if_pos c3]
        exact ⟨fun z => absurd z (by decide), fun z => by have := z.2.2; omega⟩
      · rw [if_neg c3, nI_toInt (by omega)]
        exact ⟨fun _ => ⟨c1, c2, by omega⟩, fun _ => by omega⟩
  · rw [if_neg c1]
    exact ⟨fun z => absurd z (by decide), fun z => absurd z.1 c1⟩
set_option maxHeartbeats 1000000 in
set_option maxRecDepth 100000 in
theorem c_X8_layAll (h : Mem) (q p m n d : Nat) (C : XC h q p m n d) (V : CI9 h n) (s i0 nn : Nat) (hs : s < 4) (hi0 : i0 + 4 * nn ≤ 96) : cI 69 XL yX8_layAll cX8_layAll 8 (some .int) 3 67 (fun ad => [.ref (ad (0)), .ref (ad (65 + s)), .int (nI (i0)), .int (nI (nn))]) h (fun r h2 => laPost h q m n (i0 + 96 * s) nn r h2) := by
  refine cI_of XLW (by decide +kernel) (fun ad => Nat.le_of_ble_eq_true rfl) ?_
  intro K X Z
  obtain ⟨hq, hp, hm, hq1, hq2, hp1, hp2, hm1, hm2, hn, hn2, hc, hq0, hd, hd1, hd2⟩ := id C
  show G 69 XL 8 K h 0 [(0, .ref (kad K (0))), (1, .ref (kad K (65 + s))), (2, .int (nI (i0))), (3, .int (nI (nn)))] []
  refine g_aload_n X dX8_layAll_0 1 rfl rfl ?_
  refine g_get (c := 0) (k := 2) (T := TX8) (sk := skX0) (v := .ref (kad K (29))) X wf_X8_36 inX8 dX8_layAll_1 4 rfl (by decide) rfl rfl (by decide) rfl ?_
  refine g_get (c := 29) (k := 1) (T := TX0) (sk := skX29) (v := .int (nI (n))) X wf_X8_110 inX0 dX8_layAll_4 7 rfl (by decide) rfl rfl (by decide) (congrArg Value.int (hn)) ?_
  refine g_istore X (lv' := [(0, .ref (kad K (0))), (1, .ref (kad K (65 + s))), (2, .int (nI (i0))), (3, .int (nI (nn))), (4, .int (nI (n)))]) dX8_layAll_7 9 rfl (by decide) rfl rfl ?_
  refine g_iconst X dX8_layAll_9 10 rfl (v := (nI (0))) rfl ?_
  refine g_istore X (lv' := [(0, .ref (kad K (0))), (1, .ref (kad K (65 + s))), (2, .int (nI (i0))), (3, .int (nI (nn))), (4, .int (nI (n))), (5, .int (nI 0))]) dX8_layAll_10 12 rfl (by decide) rfl rfl ?_
  have lp12 : ∀ (fu : Nat) (k : Nat) (hk : k ≤ nn) (hG : ∀ j, j < k → laG h q m n (i0 + 96 * s) j), nn - k < fu → G 69 XL 8 K (laM h n (i0 + 96 * s) k) 12 [(0, .ref (kad K (0))), (1, .ref (kad K (65 + s))), (2, .int (nI (i0))), (3, .int (nI (nn))), (4, .int (nI (n))), (5, .int (nI (k)))] [] := by
    intro fu
    induction fu with
    | zero => intro k hk hG hm; exact absurd hm (Nat.not_lt_zero _)
    | succ fu ih12 =>
      intro k hk hG hm12
      obtain ⟨Ck, Vk⟩ := la_inv C V k hG
      obtain ⟨hqk, -, hmk, -, -, -, -, -, -, hnk, hnk2, hck, -⟩ := id Ck
      refine g_iload X dX8_layAll_12 14 rfl rfl ?_
      refine g_iload_n X dX8_layAll_14 15 rfl rfl ?_
      refine g_icmp_ge X ((k : Nat) : Int) ((nn : Nat) : Int) dX8_layAll_15 92 (by decide) 18 rfl (nI_toInt (by omega)) (nI_toInt (by omega)) (fun t15 => ?_) (fun f15 => ?_)
      · skip
        refine g_aload_n X dX8_layAll_92 93 rfl rfl ?_
        refine g_get (c := 0) (k := 2) (T := TX8) (sk := skX0) (v := .ref (kad K (29))) X wf_X8_36 inX8 dX8_layAll_93 96 rfl (by decide) rfl rfl (by decide) rfl ?_
        refine g_get (c := 29) (k := 1) (T := TX0) (sk := skX29) (v := .int (nI (n + k))) X wf_X8_110 inX0 dX8_layAll_96 99 rfl (by decide) rfl rfl (by decide) (congrArg Value.int (hnk)) ?_
        refine g_iret (h := (laM h n (i0 + 96 * s) k)) (v := (nI (n + k))) X Z dX8_layAll_99 ?_
        exact Or.inl ⟨fun j hj => hG j (by omega), by rw [show nn = k from by omega], by rw [show nn = k from by omega]⟩
      · skip
        refine g_iload_n X dX8_layAll_18 19 rfl rfl ?_
        refine g_iconst X dX8_layAll_19 20 rfl (v := (nI (4))) rfl ?_
        refine g_iload X dX8_layAll_20 22 rfl rfl ?_
        refine g_imul X (v := (nI (4 * k))) dX8_layAll_22 23 rfl (pk_mul 4 k) ?_
        refine g_iadd X (v := (nI (i0 + (4 * k)))) dX8_layAll_23 24 rfl (nI_add i0 (4 * k)) ?_
        refine g_istore X (lv' := [(0, .ref (kad K (0))), (1, .ref (kad K (65 + s))), (2, .int (nI (i0))), (3, .int (nI (nn))), (4, .int (nI (n))), (5, .int (nI (k))), (6, .int (nI (i0 + (4 * k))))]) dX8_layAll_24 26 rfl (by decide) rfl rfl ?_
        refine g_aload_n X dX8_layAll_26 27 rfl rfl ?_
        refine g_get (c := 0) (k := 2) (T := TX8) (sk := skX0) (v := .ref (kad K (29))) X wf_X8_36 inX8 dX8_layAll_27 30 rfl (by decide) rfl rfl (by decide) rfl ?_
        refine g_aload_n X dX8_layAll_30 31 rfl rfl ?_
        refine g_iload X dX8_layAll_31 33 rfl rfl ?_
        refine g_iald (c := (65 + s)) (n := 96) (r := 65) (o := 96 * s) (i := i0 + (4 * k)) (v := (h 65 ((i0 + 96 * s) + 4 * k))) X dX8_layAll_33 34 rfl (by omega) (XL_65 hs) rfl (by omega) ((congrFun (laM_o h n (i0 + 96 * s) (by decide) k) _).trans (congrArg (h 65) (by omega))) ?_
        refine g_aload_n X dX8_layAll_34 35 rfl rfl ?_
        refine g_iload X dX8_layAll_35 37 rfl rfl ?_
        refine g_iconst X dX8_layAll_37 38 rfl (v := (nI (1))) rfl ?_
        refine g_iadd X (v := (nI (i0 + (4 * k) + 1))) dX8_layAll_38 39 rfl (nI_add (i0 + (4 * k)) 1) ?_
        refine g_iald (c := (65 + s)) (n := 96) (r := 65) (o := 96 * s) (i := i0 + (4 * k) + 1) (v := (h 65 ((i0 + 96 * s) + 4 * k + 1))) X dX8_layAll_39 40 rfl (by omega) (XL_65 hs) rfl (by omega) ((congrFun (laM_o h n (i0 + 96 * s) (by decide) k) _).trans (congrArg (h 65) (by omega))) ?_
        refine g_aload_n X dX8_layAll_40 41 rfl rfl ?_
        refine g_iload X dX8_layAll_41 43 rfl rfl ?_
        refine g_iconst X dX8_layAll_43 44 rfl (v := (nI (2))) rfl ?_
        refine g_iadd X (v := (nI (i0 + (4 * k) + 2))) dX8_layAll_44 45 rfl (nI_add (i0 + (4 * k)) 2) ?_
        refine g_iald (c := (65 + s)) (n := 96) (r := 65) (o := 96 * s) (i := i0 + (4 * k) + 2) (v := (h 65 ((i0 + 96 * s) + 4 * k + 2))) X dX8_layAll_45 46 rfl (by omega) (XL_65 hs) rfl (by omega) ((congrFun (laM_o h n (i0 + 96 * s) (by decide) k) _).trans (congrArg (h 65) (by omega))) ?_
        refine g_aload_n X dX8_layAll_46 47 rfl rfl ?_
        refine g_iload X dX8_layAll_47 49 rfl rfl ?_
        refine g_iconst X dX8_layAll_49 50 rfl (v := (nI (3))) rfl ?_
        refine g_iadd X (v := (nI (i0 + (4 * k) + 3))) dX8_layAll_50 51 rfl (nI_add (i0 + (4 * k)) 3) ?_
        refine g_iald (c := (65 + s)) (n := 96) (r := 65) (o := 96 * s) (i := i0 + (4 * k) + 3) (v := (h 65 ((i0 + 96 * s) + 4 * k + 3))) X dX8_layAll_51 52 rfl (by omega) (XL_65 hs) rfl (by omega) ((congrFun (laM_o h n (i0 + 96 * s) (by decide) k) _).trans (congrArg (h 65) (by omega))) ?_
        refine g_callVix (st := []) (v := (laV h q m n (i0 + 96 * s) k)) (m2 := (if layG q m (n + k) ((laM h n (i0 + 96 * s) k) 35) (h 65 ((i0 + 96 * s) + 4 * k)) (h 65 ((i0 + 96 * s) + 4 * k + 1)) (h 65 ((i0 + 96 * s) + 4 * k + 2)) (h 65 ((i0 + 96 * s) + 4 * k + 3)) then (laM h n (i0 + 96 * s) (k + 1)) else (laM h n (i0 + 96 * s) k))) X cw_X8_94 (c_X0_lay (laM h n (i0 + 96 * s) k) q m (h 65 ((i0 + 96 * s) + 4 * k)) (h 65 ((i0 + 96 * s) + 4 * k + 1)) (h 65 ((i0 + 96 * s) + 4 * k + 2)) (h 65 ((i0 + 96 * s) + 4 * k + 3)) (n + k) hnk hnk2 hqk hmk hq2 hm2) dX8_layAll_52 55 rfl (by decide) rfl rfl rfl rfl rfl (by decide) (Nat.le_of_ble_eq_true rfl) ?_
        refine g_istore X (lv' := [(0, .ref (kad K (0))), (1, .ref (kad K (65 + s))), (2, .int (nI (i0))), (3, .int (nI (nn))), (4, .int (nI (n))), (5, .int (nI (k))), (6, .int (nI (i0 + (4 * k)))), (7, .int (laV h q m n (i0 + 96 * s) k))]) dX8_layAll_55 57 rfl (by decide) rfl rfl ?_
        refine g_iload X dX8_layAll_57 59 rfl rfl ?_
        refine g_if_ge X ((laV h q m n (i0 + 96 * s) k).toInt) dX8_layAll_59 86 (by decide) 62 rfl rfl (fun t59 => ?_) (fun f59 => ?_)
        · skip
          refine g_mem (h := (if layG q m (n + k) ((laM h n (i0 + 96 * s) k) 35) (h 65 ((i0 + 96 * s) + 4 * k)) (h 65 ((i0 + 96 * s) + 4 * k + 1)) (h 65 ((i0 + 96 * s) + 4 * k + 2)) (h 65 ((i0 + 96 * s) + 4 * k + 3)) then (laM h n (i0 + 96 * s) (k + 1)) else (laM h n (i0 + 96 * s) k))) (h' := (laM h n (i0 + 96 * s) (k + 1))) (if_pos ((laV_neg (by omega)).mp t59)) ?_
          refine g_iinc X (v := (nI (k + 1))) (lv' := [(0, .ref (kad K (0))), (1, .ref (kad K (65 + s))), (2, .int (nI (i0))), (3, .int (nI (nn))), (4, .int (nI (n))), (5, .int (nI (k + 1))), (6, .int (nI (i0 + (4 * k)))), (7, .int (laV h q m n (i0 + 96 * s) k))]) dX8_layAll_86 89 rfl (by decide) rfl (n_inc k 1) rfl rfl ?_
          refine g_goto X dX8_layAll_89 12 (by decide) ?_
          refine g_sub [0, 1, 2, 3, 4, 5] rfl ?_
          exact ih12 (k + 1) (by omega) (fun j z => by
                rcases Nat.lt_succ_iff_lt_or_eq.mp z with z | z
                · exact hG j z
                · rw [z]; exact (laV_neg (by omega)).mp t59) (by omega)
        · skip
          refine g_mem (h := (if layG q m (n + k) ((laM h n (i0 + 96 * s) k) 35) (h 65 ((i0 + 96 * s) + 4 * k)) (h 65 ((i0 + 96 * s) + 4 * k + 1)) (h 65 ((i0 + 96 * s) + 4 * k + 2)) (h 65 ((i0 + 96 * s) + 4 * k + 3)) then (laM h n (i0 + 96 * s) (k + 1)) else (laM h n (i0 + 96 * s) k))) (h' := (laM h n (i0 + 96 * s) k)) (if_neg (fun z => f59 ((laV_neg (by omega)).mpr z))) ?_
          refine g_aload_n X dX8_layAll_62 63 rfl rfl ?_
          refine g_get (c := 0) (k := 2) (T := TX8) (sk := skX0) (v := .ref (kad K (29))) X wf_X8_36 inX8 dX8_layAll_63 66 rfl (by decide) rfl rfl (by decide) rfl ?_
          refine g_iload X dX8_layAll_66 68 rfl rfl ?_
          refine g_callVvx (st := []) (m2 := (kfM (laM h n (i0 + 96 * s) k) n)) X cw_X8_85 (c_X0_keepFirst (laM h n (i0 + 96 * s) k) q m n (n + k) hnk hnk2 hq2 hck Vk.1 (by omega)) dX8_layAll_68 71 rfl (by decide) rfl rfl rfl rfl rfl (by decide) (Nat.le_of_ble_eq_true rfl) ?_
          refine g_iload X dX8_layAll_71 73 rfl rfl ?_
          refine g_bipush X dX8_layAll_73 75 rfl (v := (zI (-3))) rfl ?_
          refine g_icmp_ne X ((laV h q m n (i0 + 96 * s) k).toInt) (-3) dX8_layAll_75 83 (by decide) 78 rfl rfl rfl (fun t75 => ?_) (fun f75 => ?_)
          · skip
            refine g_bipush X dX8_layAll_83 85 rfl (v := (zI (-2))) rfl ?_
            refine g_iret (h := (kfM (laM h n (i0 + 96 * s) k) n)) (v := (zI (-2))) X Z dX8_layAll_85 ?_
            exact Or.inr ⟨k, by omega, hG, fun z => f59 ((laV_neg (by omega)).mpr z), (if_neg (fun z => t75 (by rw [z]; rfl))).symm, rfl⟩
          · skip
            refine g_bipush X dX8_layAll_78 80 rfl (v := (zI (-3))) rfl ?_
            refine g_goto X dX8_layAll_80 85 (by decide) ?_
            refine g_iret (h := (kfM (laM h n (i0 + 96 * s) k) n)) (v := (zI (-3))) X Z dX8_layAll_85 ?_
            exact Or.inr ⟨k, by omega, hG, fun z => f59 ((laV_neg (by omega)).mpr z), (if_pos (i32_eq f75)).symm, rfl⟩
  skip
  refine g_mem (h := h) (h' := (laM h n (i0 + 96 * s) 0)) rfl ?_
  exact lp12 _ 0 (by omega) (fun j z => absurd z (Nat.not_lt_zero _)) (Nat.lt_succ_self _)
def coP (h : Mem) (q m n : Nat) (x0 x1 x2 x3 : Int32) (r : Int32) (h2 : Mem) : Prop := if (okSh x0 x1 ∧ (0 ≤ x3.toInt ∧ x3.toInt ≤ 24)) then (if (itR h x0 x1 x2 (4 * tn x3)).toInt = 0 then laPost h q m n (tn x2 + 96 * tn x0) (tn x3) r h2 else r = itR h x0 x1 x2 (4 * tn x3) ∧ h2 = h) else r = zI (-1) ∧ h2 = h
set_option maxHeartbeats 1000000 in
set_option maxRecDepth 100000 in
theorem c_X8_coils (h : Mem) (q p m n d : Nat) (I : XI h q p m n d) (x0 x1 x2 x3 : Int32) : cI 69 XL yX8_coils cX8_coils 6 (some .int) 4 94 (fun ad => [.ref (ad (0)), .int (x0), .int (x1), .int (x2), .int (x3)]) h (fun r h2 => coP h q m n x0 x1 x2 x3 r h2) := by
  refine cI_of XLW (by decide +kernel) (fun ad => Nat.le_of_ble_eq_true rfl) ?_
  intro K X Z
  obtain ⟨C, hsd, hs2, hdg, hpo, hpw, hh0, hs0, ht0, ⟨tz, htz, hto⟩, ⟨pz, hpz, hpk⟩, hshe⟩ := id I
  obtain ⟨hq, hp, hm, hq1, hq2, hp1, hp2, hm1, hm2, hn, hn2, hc, hq0, hd, hd1, hd2⟩ := id C
  show G 69 XL 6 K h 0 [(0, .ref (kad K (0))), (1, .int (x0)), (2, .int (x1)), (3, .int (x2)), (4, .int (x3))] []
  refine g_aload_n X dX8_coils_0 1 rfl rfl ?_
  refine g_get (c := 0) (k := 7) (T := TX8) (sk := skX0) (v := .ref (kad K (61))) X wf_X8_77 inX8 dX8_coils_1 4 rfl (by decide) rfl rfl (by decide) rfl ?_
  refine g_iload_n X dX8_coils_4 5 rfl rfl ?_
  refine g_iload_n X dX8_coils_5 6 rfl rfl ?_
  refine g_callVix (st := []) (v := (bI ((0 ≤ (x0).toInt ∧ (x0).toInt ≤ 3) ∧ (0 ≤ (x1).toInt ∧ (x1).toInt ≤ 2)))) (m2 := h) X cw_X8_208 (c_X4_hasPlace h (x0) (x1)) dX8_coils_6 9 rfl (by decide) rfl rfl rfl rfl rfl (by decide) (Nat.le_of_ble_eq_true rfl) ?_
  refine g_ifeq_B X dX8_coils_9 23 (by decide) 12 rfl (fun t9 => ?_) (fun f9 => ?_)
  · skip
    refine g_iconst X dX8_coils_23 24 rfl (v := (zI (-1))) rfl ?_
    refine g_iret (h := h) (v := (zI (-1))) X Z dX8_coils_24 ?_
    unfold coP
    rw [if_neg (fun z => t9 z.1)]
    exact ⟨rfl, rfl⟩
  · skip
    refine g_iload X dX8_coils_12 14 rfl rfl ?_
    refine g_iconst X dX8_coils_14 15 rfl (v := (nI (0))) rfl ?_
    refine g_bipush X dX8_coils_15 17 rfl (v := (nI (24))) rfl ?_
    refine g_callSix (st := []) (v := (bI (0 ≤ (x3).toInt ∧ (x3).toInt ≤ 24))) (m2 := h) X cw_X8_81 (c_X8_isWithin h (x3) (nI (0)) (nI (24)) ((x3).toInt) 0 24 rfl rfl rfl) dX8_coils_17 20 rfl rfl rfl rfl (by decide) (Nat.le_of_ble_eq_true rfl) ?_
    refine g_ifne_B X dX8_coils_20 25 (by decide) 23 rfl (fun t20 => ?_) (fun f20 => ?_)
    · skip
      obtain ⟨s, hs0_, hs_, rfl⟩ := inR_3 (a := 0) (b := 3) f9.1
      have es : tn (nI s) = s := tn_nI (by omega)
      obtain ⟨nn, hnn0, hnn, rfl⟩ := inR_3 (a := 0) (b := 24) t20
      have en : tn (nI nn) = nn := tn_nI (by omega)
      obtain ⟨-, zz, hzz, hze⟩ := hshe s (by omega)
      have ez : tn (h 63 s) = zz := by rw [hze]; exact tn_nI (by omega)
      refine g_aload_n X dX8_coils_25 26 rfl rfl ?_
      refine g_get (c := 0) (k := 7) (T := TX8) (sk := skX0) (v := .ref (kad K (61))) X wf_X8_77 inX8 dX8_coils_26 29 rfl (by decide) rfl rfl (by decide) rfl ?_
      refine g_iload_n X dX8_coils_29 30 rfl rfl ?_
      refine g_iload_n X dX8_coils_30 31 rfl rfl ?_
      refine g_iload_n X dX8_coils_31 32 rfl rfl ?_
      refine g_iconst X dX8_coils_32 33 rfl (v := (nI (4))) rfl ?_
      refine g_iload X dX8_coils_33 35 rfl rfl ?_
      refine g_imul X (v := (nI (4 * nn))) dX8_coils_35 36 rfl (pk_mul 4 nn) ?_
      refine g_callVix (st := []) (v := (refV (h 62 s) zz x1 x2 (4 * nn))) (m2 := h) X cw_X8_222 (c_X4_refusalOf h s zz (4 * nn) x1 x2 (by omega) hze hzz (by omega)) dX8_coils_36 39 rfl (by decide) rfl rfl rfl rfl rfl (by decide) (Nat.le_of_ble_eq_true rfl) ?_
      refine g_istore X (lv' := [(0, .ref (kad K (0))), (1, .int (nI (s))), (2, .int (x1)), (3, .int (x2)), (4, .int (nI (nn))), (5, .int (refV (h 62 s) zz x1 x2 (4 * nn)))]) dX8_coils_39 41 rfl (by decide) rfl rfl ?_
      refine g_iload X dX8_coils_41 43 rfl rfl ?_
      refine g_if_eq X ((refV (h 62 s) zz x1 x2 (4 * nn)).toInt) dX8_coils_43 49 (by decide) 46 rfl rfl (fun t43 => ?_) (fun f43 => ?_)
      · skip
        have hr9 := refV_0 t43
        obtain ⟨i0, hi00, hi0, rfl⟩ := inR_3 (a := 0) (b := 96) ⟨hr9.1, by omega⟩
        have ei : tn (nI i0) = i0 := tn_nI (by omega)
        have hr8 := hr9.2
        rw [nI_toInt (by omega)] at hr8
        refine g_aload_n X dX8_coils_49 50 rfl rfl ?_
        refine g_aload_n X dX8_coils_50 51 rfl rfl ?_
        refine g_get (c := 0) (k := 7) (T := TX8) (sk := skX0) (v := .ref (kad K (61))) X wf_X8_77 inX8 dX8_coils_51 54 rfl (by decide) rfl rfl (by decide) rfl ?_
        refine g_get (c := 61) (k := 2) (T := TX4) (sk := skX61) (v := .ref (kad K (64))) X wf_X8_228 inX4 dX8_coils_54 57 rfl (by decide) rfl rfl (by decide) rfl ?_
        refine g_iload_n X dX8_coils_57 58 rfl rfl ?_
        refine g_aald (c := 64) (n := 4) (b := 65) (o := 0) (i := s) X dX8_coils_58 59 rfl (by decide) rfl rfl (by omega) ?_
        refine g_iload_n X dX8_coils_59 60 rfl rfl ?_
        refine g_iload X dX8_coils_60 62 rfl rfl ?_
        refine g_callVi (st := []) X cw_X8_231 (c_X8_layAll h q p m n d C ⟨hsd, hs2⟩ s i0 nn (by omega) (by omega)) dX8_coils_62 65 rfl (by decide) rfl rfl rfl rfl rfl (by decide) (Nat.le_of_ble_eq_true rfl) ?_
        intro r9 h9 e9
        refine g_iret (h := h9) (v := (r9)) X Z dX8_coils_65 ?_
        unfold coP
        rw [if_pos ⟨f9, t20⟩, itR, es, ez, en, if_pos t43, ei]
        exact e9
      · skip
        refine g_iload X dX8_coils_46 48 rfl rfl ?_
        refine g_iret (h := h) (v := (refV (h 62 s) zz x1 x2 (4 * nn))) X Z dX8_coils_48 ?_
        unfold coP
        rw [if_pos ⟨f9, t20⟩, itR, es, ez, en, if_neg f43]
        exact ⟨rfl, rfl⟩
    · skip
      refine g_iconst X dX8_coils_23 24 rfl (v := (zI (-1))) rfl ?_
      refine g_iret (h := h) (v := (zI (-1))) X Z dX8_coils_24 ?_
      unfold coP
      rw [if_neg (fun z => f20 z.2)]
      exact ⟨rfl, rfl⟩
