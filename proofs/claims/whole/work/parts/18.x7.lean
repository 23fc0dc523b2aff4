set_option maxHeartbeats 1000000 in
set_option maxRecDepth 100000 in
theorem c_X5_step (h : Mem) (q p m n d : Nat) (C : XC h q p m n d) (a b : Nat) (ha : a < n) (hb : b < n) : cI 69 XL yX5_step cX5_step 3 (some .int) 2 44 (fun ad => [.ref (ad (53)), .int (nI (a)), .int (nI (b))]) h (fun r h2 => r = nI (apt q (tn (h 32 a)) (tn (h 31 b))) ∧ h2 = h) := by
  refine cI_of XLW (by decide +kernel) (fun ad => Nat.le_of_ble_eq_true rfl) ?_
  intro K X Z
  obtain ⟨hq, hp, hm, hq1, hq2, hp1, hp2, hm1, hm2, hn, hn2, hc, hq0, hd, hd1, hd2⟩ := id C
  have hx1 := (hc a ha).co.2
  have hx2 := (hc b hb).ci.2
  show G 69 XL 3 K h 0 [(0, .ref (kad K (53))), (1, .int (nI (a))), (2, .int (nI (b)))] []
  refine g_aload_n X dX5_step_0 1 rfl rfl ?_
  refine g_get (c := 53) (k := 0) (T := TX5) (sk := skX53) (v := .ref (kad K (29))) X wf_X5_25 inX5 dX5_step_1 4 rfl (by decide) rfl rfl (by decide) rfl ?_
  refine g_getN (c := 29) (k := 0) (T := TX0) (sk := skX29) (v := .ref (kad K (1))) X wf_X5_57 inX0 dX5_step_4 7 rfl (by decide) rfl rfl (by decide) rfl ?_
  refine g_aload_n X dX5_step_7 8 rfl rfl ?_
  refine g_get (c := 53) (k := 0) (T := TX5) (sk := skX53) (v := .ref (kad K (29))) X wf_X5_25 inX5 dX5_step_8 11 rfl (by decide) rfl rfl (by decide) rfl ?_
  refine g_get (c := 29) (k := 4) (T := TX0) (sk := skX29) (v := .ref (kad K (32))) X wf_X5_61 inX0 dX5_step_11 14 rfl (by decide) rfl rfl (by decide) rfl ?_
  refine g_iload_n X dX5_step_14 15 rfl rfl ?_
  refine g_iald (c := 32) (n := 24) (r := 32) (o := 0) (i := a) (v := (nI (tn (h 32 a)))) X dX5_step_15 16 rfl (by decide) rfl rfl (by omega) ((hc a (by omega)).co.1) ?_
  refine g_aload_n X dX5_step_16 17 rfl rfl ?_
  refine g_get (c := 53) (k := 0) (T := TX5) (sk := skX53) (v := .ref (kad K (29))) X wf_X5_25 inX5 dX5_step_17 20 rfl (by decide) rfl rfl (by decide) rfl ?_
  refine g_get (c := 29) (k := 3) (T := TX0) (sk := skX29) (v := .ref (kad K (31))) X wf_X5_64 inX0 dX5_step_20 23 rfl (by decide) rfl rfl (by decide) rfl ?_
  refine g_iload_n X dX5_step_23 24 rfl rfl ?_
  refine g_iald (c := 31) (n := 24) (r := 31) (o := 0) (i := b) (v := (nI (tn (h 31 b)))) X dX5_step_24 25 rfl (by decide) rfl rfl (by omega) ((hc b (by omega)).ci.1) ?_
  refine g_callVix (st := []) (v := (nI (apt q (tn (h 32 a)) (tn (h 31 b))))) (m2 := h) X cw_X5_67 (c_X1_between h _ (tn (h 32 a)) (tn (h 31 b)) hq (by omega) (by omega) (by omega) (by omega) (by omega)) dX5_step_25 28 rfl (by decide) rfl rfl rfl rfl rfl (by decide) (Nat.le_of_ble_eq_true rfl) ?_
  refine g_iret (h := h) (v := (nI (apt q (tn (h 32 a)) (tn (h 31 b))))) X Z dX5_step_28 ?_
  exact ⟨rfl, rfl⟩
set_option maxHeartbeats 1000000 in
set_option maxRecDepth 100000 in
theorem c_X5_keepIfLess (h : Mem) (L s size a : Nat) (cs pi : Nat → Nat) (hL : h 53 5 = nI L) (hz4 : h 53 4 = nI size) (hL2 : L ≤ 168) (hs : s < 1000) (hsz7 : size ≤ 7) (P : ∀ j, j < size → h 56 j = nI (cs (pi j))) : cV 69 XL yX5_keepIfLess cX5_keepIfLess 2 1 26 (fun ad => [.ref (ad (53)), .int (nI (s))]) h (fun h2 => tPost h a (if s < L then (s, cpF size cs pi (h 54)) else (L, h 54)) h2) := by
  refine cV_of XLW (by decide +kernel) (fun ad => Nat.le_of_ble_eq_true rfl) ?_
  intro K X Z
  show G 69 XL 2 K h 0 [(0, .ref (kad K (53))), (1, .int (nI (s)))] []
  refine g_iload_n X dX5_keepIfLess_0 1 rfl rfl ?_
  refine g_aload_n X dX5_keepIfLess_1 2 rfl rfl ?_
  refine g_get (c := 53) (k := 5) (T := TX5) (sk := skX53) (v := .int (nI (L))) X wf_X5_39 inX5 dX5_keepIfLess_2 5 rfl (by decide) rfl rfl (by decide) (congrArg Value.int (hL)) ?_
  refine g_icmp_ge X ((s : Nat) : Int) ((L : Nat) : Int) dX5_keepIfLess_5 30 (by decide) 8 rfl (nI_toInt (by omega)) (nI_toInt (by omega)) (fun t5 => ?_) (fun f5 => ?_)
  · skip
    refine g_vret (h := h) X Z dX5_keepIfLess_30 ?_
    exact ⟨h 56, by rw [if_neg (by omega)]; exact tM_id hL, fun _ _ => rfl⟩
  · skip
    refine g_aload_n X dX5_keepIfLess_8 9 rfl rfl ?_
    refine g_iload_n X dX5_keepIfLess_9 10 rfl rfl ?_
    refine g_put (c := 53) (k := 5) (T := TX5) (sk := skX53) X wf_X5_39 inX5 tyX5_ok nmX5 dX5_keepIfLess_10 13 rfl (by decide) rfl rfl (by decide) rfl rfl rfl ?_
    refine g_aload_n X dX5_keepIfLess_13 14 rfl rfl ?_
    refine g_get (c := 53) (k := 6) (T := TX5) (sk := skX53) (v := .ref (kad K (56))) X wf_X5_18 inX5 dX5_keepIfLess_14 17 rfl (by decide) rfl rfl (by decide) rfl ?_
    refine g_iconst X dX5_keepIfLess_17 18 rfl (v := (nI (0))) rfl ?_
    refine g_aload_n X dX5_keepIfLess_18 19 rfl rfl ?_
    refine g_get (c := 53) (k := 2) (T := TX5) (sk := skX53) (v := .ref (kad K (54))) X wf_X5_11 inX5 dX5_keepIfLess_19 22 rfl (by decide) rfl rfl (by decide) rfl ?_
    refine g_iconst X dX5_keepIfLess_22 23 rfl (v := (nI (0))) rfl ?_
    refine g_aload_n X dX5_keepIfLess_23 24 rfl rfl ?_
    refine g_get (c := 53) (k := 4) (T := TX5) (sk := skX53) (v := .int (nI (size))) X wf_X5_35 inX5 dX5_keepIfLess_24 27 rfl (by decide) rfl rfl (by decide) (congrArg Value.int (hz4)) ?_
    refine g_copy (c0 := 56) (n0 := 7) (r0 := 56) (o0 := 0) (c1 := 54) (n1 := 7) (r1 := 54) (o1 := 0) (a := 0) (b := 0) (m := size) (st := []) X wm_X5_72 dX5_keepIfLess_27 30 rfl (by decide) rfl (by decide) rfl rfl rfl rfl (by omega) (by omega) (by omega) (Nat.le_of_ble_eq_true rfl) ?_
    refine g_vret (h := (mcpy (mup h 53 5 (nI (s))) 54 (0 + 0) 56 (0 + 0) size)) X Z dX5_keepIfLess_30 ?_
    refine ⟨h 56, ?_, fun _ _ => rfl⟩
    rw [if_pos (by omega)]
    unfold tM mcpy
    have e : (fun j => if 0 + 0 ≤ j ∧ j < 0 + 0 + size then mup h 53 5 (nI s) 56 (j - (0 + 0) + (0 + 0)) else mup h 53 5 (nI s) 54 j) = cpF size cs pi (h 54) := by
      funext j
      unfold cpF
      by_cases hj : j < size
      · rw [if_pos (by omega), if_pos hj]; exact (P j hj)
      · rw [if_neg (by omega), if_neg hj]; rfl
    show mrow (mup h 53 5 (nI s)) 54 (fun j => if 0 + 0 ≤ j ∧ j < 0 + 0 + size then mup h 53 5 (nI s) 56 (j - (0 + 0) + (0 + 0)) else mup h 53 5 (nI s) 54 j) = _
    rw [e]
    exact (mrow_id _ 56).symm
set_option maxHeartbeats 1000000 in
set_option maxRecDepth 100000 in
theorem c_X5_goOn_0 (h : Mem) (q p m n d : Nat) (C : XC h q p m n d) (size a sum L : Nat) (cs pi : Nat → Nat) (U : TC h size n cs) (P : TP h size a cs pi) (hL : h 53 5 = nI L) (hL2 : L ≤ 168) (hsu : sum ≤ 24 * a) (ha : a + 0 = size) : cV 69 XL yX5_goOn cX5_goOn 4 3 66 (fun ad => [.ref (ad (53)), .int (nI (a)), .int (nI (sum))]) h (tPost h a (goS size (scF q (h 32) (h 31) cs) cs 0 a sum pi (L, h 54))) := by
  refine cV_of XLW (by decide +kernel) (fun ad => Nat.le_of_ble_eq_true rfl) ?_
  intro K X Z
  obtain ⟨hq, hp, hm, hq1, hq2, hp1, hp2, hm1, hm2, hn, hn2, hc, hq0, hd, hd1, hd2⟩ := id C
  obtain ⟨hz4, hsz1, hsz7, hcs⟩ := id U
  obtain ⟨ha1, hpo, htk⟩ := id P
  show G 69 XL 4 K h 0 [(0, .ref (kad K (53))), (1, .int (nI (a))), (2, .int (nI (sum)))] []
  refine g_iload_n X dX5_goOn_0 1 rfl rfl ?_
  refine g_aload_n X dX5_goOn_1 2 rfl rfl ?_
  refine g_get (c := 53) (k := 5) (T := TX5) (sk := skX53) (v := .int (nI (L))) X wf_X5_39 inX5 dX5_goOn_2 5 rfl (by decide) rfl rfl (by decide) (congrArg Value.int (hL)) ?_
  refine g_icmp_lt X ((sum : Nat) : Int) ((L : Nat) : Int) dX5_goOn_5 9 (by decide) 8 rfl (nI_toInt (by omega)) (nI_toInt (by omega)) (fun t5 => ?_) (fun f5 => ?_)
  · skip
    refine g_iload_n X dX5_goOn_9 10 rfl rfl ?_
    refine g_aload_n X dX5_goOn_10 11 rfl rfl ?_
    refine g_get (c := 53) (k := 4) (T := TX5) (sk := skX53) (v := .int (nI (size))) X wf_X5_35 inX5 dX5_goOn_11 14 rfl (by decide) rfl rfl (by decide) (congrArg Value.int (hz4)) ?_
    refine g_icmp_lt X ((a : Nat) : Int) ((size : Nat) : Int) dX5_goOn_14 45 (by decide) 17 rfl (nI_toInt (by omega)) (nI_toInt (by omega)) (fun t14 => ?_) (fun f14 => ?_)
    · skip
      exact absurd t14 (by omega)
    · skip
      have hsl := scF_le q (h 32) (h 31) cs (pi (size - 1)) (pi 0)
      refine g_aload_n X dX5_goOn_17 18 rfl rfl ?_
      refine g_iload_n X dX5_goOn_18 19 rfl rfl ?_
      refine g_aload_n X dX5_goOn_19 20 rfl rfl ?_
      refine g_aload_n X dX5_goOn_20 21 rfl rfl ?_
      refine g_get (c := 53) (k := 6) (T := TX5) (sk := skX53) (v := .ref (kad K (56))) X wf_X5_18 inX5 dX5_goOn_21 24 rfl (by decide) rfl rfl (by decide) rfl ?_
      refine g_aload_n X dX5_goOn_24 25 rfl rfl ?_
      refine g_get (c := 53) (k := 4) (T := TX5) (sk := skX53) (v := .int (nI (size))) X wf_X5_35 inX5 dX5_goOn_25 28 rfl (by decide) rfl rfl (by decide) (congrArg Value.int (hz4)) ?_
      refine g_iconst X dX5_goOn_28 29 rfl (v := (nI (1))) rfl ?_
      refine g_isub X (v := (nI (size - 1))) dX5_goOn_29 30 rfl (pk_sub (by omega)) ?_
      refine g_iald (c := 56) (n := 7) (r := 56) (o := 0) (i := size - 1) (v := (nI (cs (pi (size - 1))))) X dX5_goOn_30 31 rfl (by decide) rfl rfl (by omega) ((hpo (size - 1) (by omega)).1) ?_
      refine g_aload_n X dX5_goOn_31 32 rfl rfl ?_
      refine g_get (c := 53) (k := 6) (T := TX5) (sk := skX53) (v := .ref (kad K (56))) X wf_X5_18 inX5 dX5_goOn_32 35 rfl (by decide) rfl rfl (by decide) rfl ?_
      refine g_iconst X dX5_goOn_35 36 rfl (v := (nI (0))) rfl ?_
      refine g_iald (c := 56) (n := 7) (r := 56) (o := 0) (i := 0) (v := (nI (cs (pi 0)))) X dX5_goOn_36 37 rfl (by decide) rfl rfl (by omega) ((hpo 0 (by omega)).1) ?_
      refine g_callVix (st := [.int (nI (sum)), .ref (kad K (53))]) (v := (nI ((scF q (h 32) (h 31) cs) (pi (size - 1)) (pi 0)))) (m2 := h) X cw_X5_49 (c_X5_step h q p m n d (by exact C) (cs (pi (size - 1))) (cs (pi 0)) (hcs _ (hpo (size - 1) (by omega)).2).2 (hcs _ (hpo 0 (by omega)).2).2) dX5_goOn_37 40 rfl (by decide) rfl rfl rfl rfl rfl (by omega) (Nat.le_of_ble_eq_true rfl) ?_
      refine g_iadd X (v := (nI (sum + ((scF q (h 32) (h 31) cs) (pi (size - 1)) (pi 0))))) dX5_goOn_40 41 rfl (nI_add sum ((scF q (h 32) (h 31) cs) (pi (size - 1)) (pi 0))) ?_
      refine g_callVv (st := []) X cw_X5_53 (c_X5_keepIfLess h L (sum + (scF q (h 32) (h 31) cs) (pi (size - 1)) (pi 0)) size a cs pi hL hz4 hL2 (by omega) hsz7 (fun j hj => (hpo j (by omega)).1)) dX5_goOn_41 44 rfl (by decide) rfl rfl rfl rfl rfl (by omega) (Nat.le_of_ble_eq_true rfl) ?_
      intro h9 P9
      refine g_vret (h := h9) X Z dX5_goOn_44 ?_
      rw [goS_0, if_neg (by show ¬ L ≤ sum; omega)]
      exact P9
  · skip
    refine g_vret (h := h) X Z dX5_goOn_8 ?_
    exact ⟨h 56, by rw [goS_0, if_pos (by show L ≤ sum; omega)]; exact tM_id hL, fun _ _ => rfl⟩
set_option maxHeartbeats 1000000 in
set_option maxRecDepth 100000 in
theorem c_X5_goOn_s (r : Nat) (IH : ∀ (h : Mem) (q p m n d : Nat) (C : XC h q p m n d) (size a sum L : Nat) (cs pi : Nat → Nat) (U : TC h size n cs) (P : TP h size a cs pi) (hL : h 53 5 = nI L) (hL2 : L ≤ 168) (hsu : sum ≤ 24 * a) (ha : a + r = size), cV 69 XL yX5_goOn cX5_goOn 4 (3 + r) (66 + 23 * r) (fun ad => [.ref (ad 53), .int (nI a), .int (nI sum)]) h (tPost h a (goS size (scF q (h 32) (h 31) cs) cs r a sum pi (L, h 54)))) (h : Mem) (q p m n d : Nat) (C : XC h q p m n d) (size a sum L : Nat) (cs pi : Nat → Nat) (U : TC h size n cs) (P : TP h size a cs pi) (hL : h 53 5 = nI L) (hL2 : L ≤ 168) (hsu : sum ≤ 24 * a) (ha : a + (r + 1) = size) : cV 69 XL yX5_goOn cX5_goOn 4 (3 + (r + 1)) (66 + 23 * (r + 1)) (fun ad => [.ref (ad (53)), .int (nI (a)), .int (nI (sum))]) h (tPost h a (goS size (scF q (h 32) (h 31) cs) cs (r + 1) a sum pi (L, h 54))) := by
  refine cV_of XLW (by decide +kernel) (fun ad => Nat.le_of_ble_eq_true rfl) ?_
  intro K X Z
  obtain ⟨hq, hp, hm, hq1, hq2, hp1, hp2, hm1, hm2, hn, hn2, hc, hq0, hd, hd1, hd2⟩ := id C
  obtain ⟨hz4, hsz1, hsz7, hcs⟩ := id U
  obtain ⟨ha1, hpo, htk⟩ := id P
  show G 69 XL 4 K h 0 [(0, .ref (kad K (53))), (1, .int (nI (a))), (2, .int (nI (sum)))] []
  refine g_iload_n X dX5_goOn_0 1 rfl rfl ?_
  refine g_aload_n X dX5_goOn_1 2 rfl rfl ?_
  refine g_get (c := 53) (k := 5) (T := TX5) (sk := skX53) (v := .int (nI (L))) X wf_X5_39 inX5 dX5_goOn_2 5 rfl (by decide) rfl rfl (by decide) (congrArg Value.int (hL)) ?_
  refine g_icmp_lt X ((sum : Nat) : Int) ((L : Nat) : Int) dX5_goOn_5 9 (by decide) 8 rfl (nI_toInt (by omega)) (nI_toInt (by omega)) (fun t5 => ?_) (fun f5 => ?_)
  · skip
    refine g_iload_n X dX5_goOn_9 10 rfl rfl ?_
    refine g_aload_n X dX5_goOn_10 11 rfl rfl ?_
    refine g_get (c := 53) (k := 4) (T := TX5) (sk := skX53) (v := .int (nI (size))) X wf_X5_35 inX5 dX5_goOn_11 14 rfl (by decide) rfl rfl (by decide) (congrArg Value.int (hz4)) ?_
    refine g_icmp_lt X ((a : Nat) : Int) ((size : Nat) : Int) dX5_goOn_14 45 (by decide) 17 rfl (nI_toInt (by omega)) (nI_toInt (by omega)) (fun t14 => ?_) (fun f14 => ?_)
    · skip
      refine g_iconst X dX5_goOn_45 46 rfl (v := (nI (1))) rfl ?_
      refine g_istore_n X (lv' := [(0, .ref (kad K (53))), (1, .int (nI (a))), (2, .int (nI (sum))), (3, .int (nI 1))]) dX5_goOn_46 47 rfl (by decide) rfl rfl ?_
      have lp47 : ∀ (fu : Nat) (s : Nat) (L2 : Nat) (B2 : Nat → Int32) (c : Nat → Int32) (hs1 : 1 ≤ s) (hs : s ≤ size) (hL9 : L2 ≤ L) (hcc : ∀ j, j < a → c j = h 56 j) (hgo : goL (fun s y => if tkP pi a s = true then y else goS size (scF q (h 32) (h 31) cs) cs r (a + 1) (sum + (scF q (h 32) (h 31) cs) (pi (a - 1)) s) (updN pi a s) y) (size - 1) 1 (L, h 54) = goL (fun s y => if tkP pi a s = true then y else goS size (scF q (h 32) (h 31) cs) cs r (a + 1) (sum + (scF q (h 32) (h 31) cs) (pi (a - 1)) s) (updN pi a s) y) (size - s) s (L2, B2)), size - s < fu → G 69 XL 4 K (tM h (L2, B2) c) 47 [(0, .ref (kad K (53))), (1, .int (nI (a))), (2, .int (nI (sum))), (3, .int (nI (s)))] [] := by
        intro fu
        induction fu with
        | zero => intro s L2 B2 c hs1 hs hL9 hcc hgo hm; exact absurd hm (Nat.not_lt_zero _)
        | succ fu ih47 =>
          intro s L2 B2 c hs1 hs hL9 hcc hgo hm47
          refine g_iload_n X dX5_goOn_47 48 rfl rfl ?_
          refine g_aload_n X dX5_goOn_48 49 rfl rfl ?_
          refine g_get (c := 53) (k := 4) (T := TX5) (sk := skX53) (v := .int (nI (size))) X wf_X5_35 inX5 dX5_goOn_49 52 rfl (by decide) rfl rfl (by decide) (congrArg Value.int (hz4)) ?_
          refine g_icmp_ge X ((s : Nat) : Int) ((size : Nat) : Int) dX5_goOn_52 123 (by decide) 55 rfl (nI_toInt (by omega)) (nI_toInt (by omega)) (fun t52 => ?_) (fun f52 => ?_)
          · skip
            refine g_vret (h := (tM h (L2, B2) c)) X Z dX5_goOn_123 ?_
            refine ⟨c, ?_, hcc⟩
            rw [goS_s, if_neg (by show ¬ L ≤ sum; omega), hgo, show size - s = 0 from by omega]
            rfl
          · skip
            refine g_aload_n X dX5_goOn_55 56 rfl rfl ?_
            refine g_get (c := 53) (k := 7) (T := TX5) (sk := skX53) (v := .ref (kad K (57))) X wf_X5_21 inX5 dX5_goOn_56 59 rfl (by decide) rfl rfl (by decide) rfl ?_
            refine g_iload_n X dX5_goOn_59 60 rfl rfl ?_
            refine g_zald (c := 57) (n := 7) (r := 57) (o := 0) (i := s) (v := (bI (tkP pi a s = true))) X dX5_goOn_60 61 rfl (by decide) rfl rfl (by omega) (htk s hs1 (by omega)) ?_
            refine g_ifne_B X dX5_goOn_61 117 (by decide) 64 rfl (fun t61 => ?_) (fun f61 => ?_)
            · skip
              refine g_iinc X (v := (nI (s + 1))) (lv' := [(0, .ref (kad K (53))), (1, .int (nI (a))), (2, .int (nI (sum))), (3, .int (nI (s + 1)))]) dX5_goOn_117 120 rfl (by decide) rfl (n_inc s 1) rfl rfl ?_
              refine g_goto X dX5_goOn_120 47 (by decide) ?_
              skip
              exact ih47 (s + 1) L2 B2 c (by omega) (by omega) hL9 hcc (by rw [hgo, show size - s = (size - (s + 1)) + 1 from by omega, goL, if_pos t61]) (by omega)
            · skip
              refine g_aload_n X dX5_goOn_64 65 rfl rfl ?_
              refine g_get (c := 53) (k := 7) (T := TX5) (sk := skX53) (v := .ref (kad K (57))) X wf_X5_21 inX5 dX5_goOn_65 68 rfl (by decide) rfl rfl (by decide) rfl ?_
              refine g_iload_n X dX5_goOn_68 69 rfl rfl ?_
              refine g_iconst X dX5_goOn_69 70 rfl (v := (nI (1))) rfl ?_
              refine g_zast (c := 57) (n := 7) (r := 57) (o := 0) (i := s) (w := (nI (1))) X dX5_goOn_70 71 rfl (by decide) rfl rfl (by omega) rfl ?_
              refine g_aload_n X dX5_goOn_71 72 rfl rfl ?_
              refine g_get (c := 53) (k := 6) (T := TX5) (sk := skX53) (v := .ref (kad K (56))) X wf_X5_18 inX5 dX5_goOn_72 75 rfl (by decide) rfl rfl (by decide) rfl ?_
              refine g_iload_n X dX5_goOn_75 76 rfl rfl ?_
              refine g_aload_n X dX5_goOn_76 77 rfl rfl ?_
              refine g_get (c := 53) (k := 3) (T := TX5) (sk := skX53) (v := .ref (kad K (55))) X wf_X5_15 inX5 dX5_goOn_77 80 rfl (by decide) rfl rfl (by decide) rfl ?_
              refine g_iload_n X dX5_goOn_80 81 rfl rfl ?_
              refine g_iald (c := 55) (n := 7) (r := 55) (o := 0) (i := s) (v := (nI (cs s))) X dX5_goOn_81 82 rfl (by decide) rfl rfl (by omega) ((hcs s (by omega)).1) ?_
              refine g_iast (c := 56) (n := 7) (r := 56) (o := 0) (i := a) X dX5_goOn_82 83 rfl (by decide) rfl rfl (by omega) ?_
              have hsl := scF_le q (h 32) (h 31) cs (pi (a - 1)) s
              refine g_aload_n X dX5_goOn_83 84 rfl rfl ?_
              refine g_iload_n X dX5_goOn_84 85 rfl rfl ?_
              refine g_iconst X dX5_goOn_85 86 rfl (v := (nI (1))) rfl ?_
              refine g_iadd X (v := (nI (a + 1))) dX5_goOn_86 87 rfl (nI_add a 1) ?_
              refine g_iload_n X dX5_goOn_87 88 rfl rfl ?_
              refine g_aload_n X dX5_goOn_88 89 rfl rfl ?_
              refine g_aload_n X dX5_goOn_89 90 rfl rfl ?_
              refine g_get (c := 53) (k := 6) (T := TX5) (sk := skX53) (v := .ref (kad K (56))) X wf_X5_18 inX5 dX5_goOn_90 93 rfl (by decide) rfl rfl (by decide) rfl ?_
              refine g_iload_n X dX5_goOn_93 94 rfl rfl ?_
              refine g_iconst X dX5_goOn_94 95 rfl (v := (nI (1))) rfl ?_
              refine g_isub X (v := (nI (a - 1))) dX5_goOn_95 96 rfl (pk_sub (by omega)) ?_
              refine g_iald (c := 56) (n := 7) (r := 56) (o := 0) (i := a - 1) (v := (nI (cs (pi (a - 1))))) X dX5_goOn_96 97 rfl (by decide) rfl rfl (by omega) ((upd_n _ _ (by omega)).trans ((hcc (a - 1) (by omega)).trans (hpo (a - 1) (by omega)).1)) ?_
              refine g_aload_n X dX5_goOn_97 98 rfl rfl ?_
              refine g_get (c := 53) (k := 6) (T := TX5) (sk := skX53) (v := .ref (kad K (56))) X wf_X5_18 inX5 dX5_goOn_98 101 rfl (by decide) rfl rfl (by decide) rfl ?_
              refine g_iload_n X dX5_goOn_101 102 rfl rfl ?_
              refine g_iald (c := 56) (n := 7) (r := 56) (o := 0) (i := a) (v := (nI (cs s))) X dX5_goOn_102 103 rfl (by decide) rfl rfl (by omega) (upd_s _ _ _) ?_
              refine g_callVix (st := [.int (nI (sum)), .int (nI (a + 1)), .ref (kad K (53))]) (v := (nI ((scF q (h 32) (h 31) cs) (pi (a - 1)) s))) (m2 := (mup (mup (tM h (L2, B2) c) 57 s (nI (1))) 56 a (nI (cs s)))) X cw_X5_49 (c_X5_step (mup (mup (tM h (L2, B2) c) 57 s (nI (1))) 56 a (nI (cs s))) q p m n d (by exact C) (cs (pi (a - 1))) (cs s) (hcs _ (hpo (a - 1) (by omega)).2).2 (hcs s (by omega)).2) dX5_goOn_103 106 rfl (by decide) rfl rfl rfl rfl rfl (by omega) (Nat.le_of_ble_eq_true rfl) ?_
              refine g_iadd X (v := (nI (sum + ((scF q (h 32) (h 31) cs) (pi (a - 1)) s)))) dX5_goOn_106 107 rfl (nI_add sum ((scF q (h 32) (h 31) cs) (pi (a - 1)) s)) ?_
              refine g_callVv (st := []) X cw_X5_45 (IH (mup (mup (tM h (L2, B2) c) 57 s (nI 1)) 56 a (nI (cs s))) q p m n d (by exact C) size (a + 1) (sum + (scF q (h 32) (h 31) cs) (pi (a - 1)) s) L2 cs (updN pi a s) (by exact U) (tp_step P hcc (by omega)) (by rfl) (by omega) (by omega) (by omega)) dX5_goOn_107 110 rfl (by decide) rfl rfl rfl rfl rfl (by omega) (Nat.le_of_ble_eq_true rfl) ?_
              rintro _ ⟨c9, rfl, hc9⟩
              refine g_aload_n X dX5_goOn_110 111 rfl rfl ?_
              refine g_get (c := 53) (k := 7) (T := TX5) (sk := skX53) (v := .ref (kad K (57))) X wf_X5_21 inX5 dX5_goOn_111 114 rfl (by decide) rfl rfl (by decide) rfl ?_
              refine g_iload_n X dX5_goOn_114 115 rfl rfl ?_
              refine g_iconst X dX5_goOn_115 116 rfl (v := (nI (0))) rfl ?_
              refine g_zast (c := 57) (n := 7) (r := 57) (o := 0) (i := s) (w := (nI (0))) X dX5_goOn_116 117 rfl (by decide) rfl rfl (by omega) rfl ?_
              refine g_iinc X (v := (nI (s + 1))) (lv' := [(0, .ref (kad K (53))), (1, .int (nI (a))), (2, .int (nI (sum))), (3, .int (nI (s + 1)))]) dX5_goOn_117 120 rfl (by decide) rfl (n_inc s 1) rfl rfl ?_
              refine g_goto X dX5_goOn_120 47 (by decide) ?_
              skip
              refine g_mem (h := (mup (tM (mup (mup (tM h (L2, B2) c) 57 s (nI 1)) 56 a (nI (cs s))) (goS size (scF q (h 32) (h 31) cs) cs r (a + 1) (sum + (scF q (h 32) (h 31) cs) (pi (a - 1)) s) (updN pi a s) (L2, B2)) c9) 57 s (nI (0)))) (h' := (tM h (((goS size (scF q (h 32) (h 31) cs) cs r (a + 1) (sum + (scF q (h 32) (h 31) cs) (pi (a - 1)) s) (updN pi a s) (L2, B2)).1), ((goS size (scF q (h 32) (h 31) cs) cs r (a + 1) (sum + (scF q (h 32) (h 31) cs) (pi (a - 1)) s) (updN pi a s) (L2, B2)).2)) c9)) (tM_back ((htk s hs1 (by omega)).trans (bI_f f61))) ?_
              exact ih47 (s + 1) ((goS size (scF q (h 32) (h 31) cs) cs r (a + 1) (sum + (scF q (h 32) (h 31) cs) (pi (a - 1)) s) (updN pi a s) (L2, B2)).1) ((goS size (scF q (h 32) (h 31) cs) cs r (a + 1) (sum + (scF q (h 32) (h 31) cs) (pi (a - 1)) s) (updN pi a s) (L2, B2)).2) c9 (by omega) (by omega) (Nat.le_trans (goS_le _ _ _ _ _) hL9) (fun j hj => (hc9 j (by omega)).trans ((upd_n _ _ (by omega)).trans (hcc j hj))) (by rw [hgo, show size - s = (size - (s + 1)) + 1 from by omega, goL, if_neg f61]) (by omega)
      skip
      refine g_mem (h := h) (h' := (tM h (L, (h 54)) (h 56))) (tM_id hL) ?_
      exact lp47 _ 1 L (h 54) (h 56) (by omega) (by omega) (by omega) (fun _ _ => rfl) (by rfl) (Nat.lt_succ_self _)
    · skip
      exact absurd f14 (by omega)
  · skip
    refine g_vret (h := h) X Z dX5_goOn_8 ?_
    exact ⟨h 56, by rw [goS_s, if_pos (by show L ≤ sum; omega)]; exact tM_id hL, fun _ _ => rfl⟩
theorem c_X5_goOn : ∀ (r : Nat) (h : Mem) (q p m n d : Nat) (C : XC h q p m n d) (size a sum L : Nat) (cs pi : Nat → Nat) (U : TC h size n cs) (P : TP h size a cs pi) (hL : h 53 5 = nI L) (hL2 : L ≤ 168) (hsu : sum ≤ 24 * a) (ha : a + r = size), cV 69 XL yX5_goOn cX5_goOn 4 (3 + r) (66 + 23 * r) (fun ad => [.ref (ad 53), .int (nI a), .int (nI sum)]) h (tPost h a (goS size (scF q (h 32) (h 31) cs) cs r a sum pi (L, h 54)))
  | 0 => fun h q p m n d C size a sum L cs pi U P hL hL2 hsu ha => c_X5_goOn_0 h q p m n d C size a sum L cs pi U P hL hL2 hsu ha
  | r + 1 => c_X5_goOn_s r (c_X5_goOn r)
def touR (l : List Nat) (X : TS) : Int32 := if 7 < l.length then zI (-3) else if l.length = 0 then zI (-4) else nI X.1
def touF (F : Nat → Int32) (l : List Nat) (X : TS) : Nat → Int32 := if 7 < l.length then F else if l.length = 0 then F else X.2
def touN (v : Int32) (l : List Nat) : Int32 := if 7 < l.length then v else if l.length = 0 then v else nI l.length
set_option maxHeartbeats 1000000 in
set_option maxRecDepth 100000 in
theorem c_X5_shortest (h : Mem) (q p m n d : Nat) (C : XC h q p m n d) (f : Nat) (hf : f < 1000) (ht0 : ∀ j, 1 ≤ j → j < 7 → h 57 j = nI 0) : cI 69 XL yX5_shortest cX5_shortest 2 (some .int) 12 274 (fun ad => [.ref (ad (53)), .int (nI (f))]) h (fun r h2 => r = touR (glB (uin (h 30) (h 34) f) n) (goS (glB (uin (h 30) (h 34) f) n).length (scF q (h 32) (h 31) (fun j => (glB (uin (h 30) (h 34) f) n).getD j 0)) (fun j => (glB (uin (h 30) (h 34) f) n).getD j 0) ((glB (uin (h 30) (h 34) f) n).length - 1) 1 0 (fun _ => 0) (168, h 54)) ∧ h2 54 = touF (h 54) (glB (uin (h 30) (h 34) f) n) (goS (glB (uin (h 30) (h 34) f) n).length (scF q (h 32) (h 31) (fun j => (glB (uin (h 30) (h 34) f) n).getD j 0)) (fun j => (glB (uin (h 30) (h 34) f) n).getD j 0) ((glB (uin (h 30) (h 34) f) n).length - 1) 1 0 (fun _ => 0) (168, h 54)) ∧ h2 53 1 = touN (h 53 1) (glB (uin (h 30) (h 34) f) n) ∧ agr h h2 [53, 54, 55, 56]) := by
  refine cI_of XLW (by decide +kernel) (fun ad => Nat.le_of_ble_eq_true rfl) ?_
  intro K X Z
  obtain ⟨hq, hp, hm, hq1, hq2, hp1, hp2, hm1, hm2, hn, hn2, hc, hq0, hd, hd1, hd2⟩ := id C
  have hll := glB_len (uin (h 30) (h 34) f) n
  show G 69 XL 2 K h 0 [(0, .ref (kad K (53))), (1, .int (nI (f)))] []
  refine g_aload_n X dX5_shortest_0 1 rfl rfl ?_
  refine g_aload_n X dX5_shortest_1 2 rfl rfl ?_
  refine g_get (c := 53) (k := 0) (T := TX5) (sk := skX53) (v := .ref (kad K (29))) X wf_X5_25 inX5 dX5_shortest_2 5 rfl (by decide) rfl rfl (by decide) rfl ?_
  refine g_iload_n X dX5_shortest_5 6 rfl rfl ?_
  refine g_aload_n X dX5_shortest_6 7 rfl rfl ?_
  refine g_get (c := 53) (k := 3) (T := TX5) (sk := skX53) (v := .ref (kad K (55))) X wf_X5_15 inX5 dX5_shortest_7 10 rfl (by decide) rfl rfl (by decide) rfl ?_
  refine g_callVix (st := [.ref (kad K (53))]) (v := (nI ((glB (uin (h 30) (h 34) f) n).length))) (m2 := (mrow h 55 (grow (glB (uin (h 30) (h 34) f) n) 7 (h 55)))) X cw_X5_29 (c_X0_gather55 h q m f n (by exact hn) hn2 (by exact hc) hm2 (by omega)) dX5_shortest_10 13 rfl (by decide) rfl rfl rfl rfl rfl (by decide) (Nat.le_of_ble_eq_true rfl) ?_
  refine g_put (c := 53) (k := 4) (T := TX5) (sk := skX53) X wf_X5_35 inX5 tyX5_ok nmX5 dX5_shortest_13 16 rfl (by decide) rfl rfl (by decide) rfl rfl rfl ?_
  refine g_aload_n X dX5_shortest_16 17 rfl rfl ?_
  refine g_get (c := 53) (k := 4) (T := TX5) (sk := skX53) (v := .int (nI ((glB (uin (h 30) (h 34) f) n).length))) X wf_X5_35 inX5 dX5_shortest_17 20 rfl (by decide) rfl rfl (by decide) rfl ?_
  refine g_bipush X dX5_shortest_20 22 rfl (v := (nI (7))) rfl ?_
  refine g_icmp_le X (((glB (uin (h 30) (h 34) f) n).length : Nat) : Int) 7 dX5_shortest_22 28 (by decide) 25 rfl (nI_toInt (by omega)) rfl (fun t22 => ?_) (fun f22 => ?_)
  · skip
    refine g_aload_n X dX5_shortest_28 29 rfl rfl ?_
    refine g_get (c := 53) (k := 4) (T := TX5) (sk := skX53) (v := .int (nI ((glB (uin (h 30) (h 34) f) n).length))) X wf_X5_35 inX5 dX5_shortest_29 32 rfl (by decide) rfl rfl (by decide) rfl ?_
    refine g_if_ne X (((glB (uin (h 30) (h 34) f) n).length : Nat) : Int) dX5_shortest_32 38 (by decide) 35 rfl (nI_toInt (by omega)) (fun t32 => ?_) (fun f32 => ?_)
    · skip
      have h10 : 0 < (glB (uin (h 30) (h 34) f) n).length := by omega
      refine g_aload_n X dX5_shortest_38 39 rfl rfl ?_
      refine g_sipush X dX5_shortest_39 42 rfl (v := (nI (168))) rfl ?_
      refine g_put (c := 53) (k := 5) (T := TX5) (sk := skX53) X wf_X5_39 inX5 tyX5_ok nmX5 dX5_shortest_42 45 rfl (by decide) rfl rfl (by decide) rfl rfl rfl ?_
      refine g_aload_n X dX5_shortest_45 46 rfl rfl ?_
      refine g_aload_n X dX5_shortest_46 47 rfl rfl ?_
      refine g_get (c := 53) (k := 4) (T := TX5) (sk := skX53) (v := .int (nI ((glB (uin (h 30) (h 34) f) n).length))) X wf_X5_35 inX5 dX5_shortest_47 50 rfl (by decide) rfl rfl (by decide) rfl ?_
      refine g_put (c := 53) (k := 1) (T := TX5) (sk := skX53) X wf_X5_42 inX5 tyX5_ok nmX5 dX5_shortest_50 53 rfl (by decide) rfl rfl (by decide) rfl rfl rfl ?_
      refine g_aload_n X dX5_shortest_53 54 rfl rfl ?_
      refine g_get (c := 53) (k := 6) (T := TX5) (sk := skX53) (v := .ref (kad K (56))) X wf_X5_18 inX5 dX5_shortest_54 57 rfl (by decide) rfl rfl (by decide) rfl ?_
      refine g_iconst X dX5_shortest_57 58 rfl (v := (nI (0))) rfl ?_
      refine g_aload_n X dX5_shortest_58 59 rfl rfl ?_
      refine g_get (c := 53) (k := 3) (T := TX5) (sk := skX53) (v := .ref (kad K (55))) X wf_X5_15 inX5 dX5_shortest_59 62 rfl (by decide) rfl rfl (by decide) rfl ?_
      refine g_iconst X dX5_shortest_62 63 rfl (v := (nI (0))) rfl ?_
      refine g_iald (c := 55) (n := 7) (r := 55) (o := 0) (i := 0) (v := (nI ((glB (uin (h 30) (h 34) f) n).getD 0 0))) X dX5_shortest_63 64 rfl (by decide) rfl rfl (by omega) (if_pos ⟨h10, by omega⟩) ?_
      refine g_iast (c := 56) (n := 7) (r := 56) (o := 0) (i := 0) X dX5_shortest_64 65 rfl (by decide) rfl rfl (by omega) ?_
      have hU : TC (mup (mup (mup (mup (mrow h 55 (grow (glB (uin (h 30) (h 34) f) n) 7 (h 55))) 53 4 (nI (glB (uin (h 30) (h 34) f) n).length)) 53 5 (nI 168)) 53 1 (nI (glB (uin (h 30) (h 34) f) n).length)) 56 0 (nI ((glB (uin (h 30) (h 34) f) n).getD 0 0))) (glB (uin (h 30) (h 34) f) n).length n (fun j => (glB (uin (h 30) (h 34) f) n).getD j 0) := ⟨rfl, by omega, by omega, fun j hj => ⟨if_pos ⟨hj, by omega⟩, gl_lt hj⟩⟩
      have hT : TP (mup (mup (mup (mup (mrow h 55 (grow (glB (uin (h 30) (h 34) f) n) 7 (h 55))) 53 4 (nI (glB (uin (h 30) (h 34) f) n).length)) 53 5 (nI 168)) 53 1 (nI (glB (uin (h 30) (h 34) f) n).length)) 56 0 (nI ((glB (uin (h 30) (h 34) f) n).getD 0 0))) (glB (uin (h 30) (h 34) f) n).length 1 (fun j => (glB (uin (h 30) (h 34) f) n).getD j 0) (fun _ => 0) := ⟨Nat.le_refl 1, fun j hj => by rw [show j = 0 from by omega]; exact ⟨rfl, h10⟩, fun j h1 h2 => (ht0 j h1 (by omega)).trans (bI_f (by show ¬ ((false || decide (0 = j)) = true); have h99 : ¬ 0 = j := (by omega); simp [h99])).symm⟩
      refine g_aload_n X dX5_shortest_65 66 rfl rfl ?_
      refine g_iconst X dX5_shortest_66 67 rfl (v := (nI (1))) rfl ?_
      refine g_iconst X dX5_shortest_67 68 rfl (v := (nI (0))) rfl ?_
      refine g_callVv (st := []) X cw_X5_45 (c_X5_goOn ((glB (uin (h 30) (h 34) f) n).length - 1) (mup (mup (mup (mup (mrow h 55 (grow (glB (uin (h 30) (h 34) f) n) 7 (h 55))) 53 4 (nI (glB (uin (h 30) (h 34) f) n).length)) 53 5 (nI 168)) 53 1 (nI (glB (uin (h 30) (h 34) f) n).length)) 56 0 (nI ((glB (uin (h 30) (h 34) f) n).getD 0 0))) q p m n d (by exact C) (glB (uin (h 30) (h 34) f) n).length 1 0 168 (fun j => (glB (uin (h 30) (h 34) f) n).getD j 0) (fun _ => 0) hU hT rfl (by omega) (by omega) (by omega)) dX5_shortest_68 71 rfl (by decide) rfl rfl rfl rfl rfl (by omega) (Nat.le_of_ble_eq_true rfl) ?_
      rintro _ ⟨c9, rfl, -⟩
      refine g_aload_n X dX5_shortest_71 72 rfl rfl ?_
      refine g_get (c := 53) (k := 5) (T := TX5) (sk := skX53) (v := .int (nI ((goS (glB (uin (h 30) (h 34) f) n).length (scF q (h 32) (h 31) (fun j => (glB (uin (h 30) (h 34) f) n).getD j 0)) (fun j => (glB (uin (h 30) (h 34) f) n).getD j 0) ((glB (uin (h 30) (h 34) f) n).length - 1) 1 0 (fun _ => 0) (168, h 54)).1))) X wf_X5_39 inX5 dX5_shortest_72 75 rfl (by decide) rfl rfl (by decide) rfl ?_
      refine g_iret (h := (tM (mup (mup (mup (mup (mrow h 55 (grow (glB (uin (h 30) (h 34) f) n) 7 (h 55))) 53 4 (nI (glB (uin (h 30) (h 34) f) n).length)) 53 5 (nI 168)) 53 1 (nI (glB (uin (h 30) (h 34) f) n).length)) 56 0 (nI ((glB (uin (h 30) (h 34) f) n).getD 0 0))) (goS (glB (uin (h 30) (h 34) f) n).length (scF q (h 32) (h 31) (fun j => (glB (uin (h 30) (h 34) f) n).getD j 0)) (fun j => (glB (uin (h 30) (h 34) f) n).getD j 0) ((glB (uin (h 30) (h 34) f) n).length - 1) 1 0 (fun _ => 0) (168, h 54)) c9)) (v := (nI ((goS (glB (uin (h 30) (h 34) f) n).length (scF q (h 32) (h 31) (fun j => (glB (uin (h 30) (h 34) f) n).getD j 0)) (fun j => (glB (uin (h 30) (h 34) f) n).getD j 0) ((glB (uin (h 30) (h 34) f) n).length - 1) 1 0 (fun _ => 0) (168, h 54)).1))) X Z dX5_shortest_75 ?_
      exact ⟨((if_neg (by omega)).trans (if_neg (by omega))).symm, ((if_neg (by omega)).trans (if_neg (by omega))).symm, ((if_neg (by omega)).trans (if_neg (by omega))).symm, fun c hc9 => by simp only [List.mem_cons, List.not_mem_nil, or_false, not_or] at hc9; simp [tM, mrow, mup, hc9]⟩
    · skip
      refine g_bipush X dX5_shortest_35 37 rfl (v := (zI (-4))) rfl ?_
      refine g_iret (h := (mup (mrow h 55 (grow (glB (uin (h 30) (h 34) f) n) 7 (h 55))) 53 4 (nI ((glB (uin (h 30) (h 34) f) n).length)))) (v := (zI (-4))) X Z dX5_shortest_37 ?_
      exact ⟨((if_neg (by omega)).trans (if_pos (by omega))).symm, ((if_neg (by omega)).trans (if_pos (by omega))).symm, ((if_neg (by omega)).trans (if_pos (by omega))).symm, fun c hc9 => by simp only [List.mem_cons, List.not_mem_nil, or_false, not_or] at hc9; simp [tM, mrow, mup, hc9]⟩
  · skip
    refine g_bipush X dX5_shortest_25 27 rfl (v := (zI (-3))) rfl ?_
    refine g_iret (h := (mup (mrow h 55 (grow (glB (uin (h 30) (h 34) f) n) 7 (h 55))) 53 4 (nI ((glB (uin (h 30) (h 34) f) n).length)))) (v := (zI (-3))) X Z dX5_shortest_27 ?_
    exact ⟨(if_pos (by omega)).symm, (if_pos (by omega)).symm, (if_pos (by omega)).symm, fun c hc9 => by simp only [List.mem_cons, List.not_mem_nil, or_false, not_or] at hc9; simp [tM, mrow, mup, hc9]⟩
