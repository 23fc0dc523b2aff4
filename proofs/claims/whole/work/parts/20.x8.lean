set_option maxHeartbeats 1000000 in
set_option maxRecDepth 100000 in
theorem c_X2_keep (h : Mem) (k : Nat) (hk : k ≤ 3) : cI 69 XL yX2_keep cX2_keep 2 (some .int) 1 26 (fun ad => [.ref (ad (58)), .int (nI (k))]) h (fun r h2 => r = nI k ∧ h2 = mup (mcpy h 59 (0 + 0) 60 (0 + 0) k) 58 3 (nI k)) := by
  refine cI_of XLW (by decide +kernel) (fun ad => Nat.le_of_ble_eq_true rfl) ?_
  intro K X Z
  show G 69 XL 2 K h 0 [(0, .ref (kad K (58))), (1, .int (nI (k)))] []
  refine g_aload_n X dX2_keep_0 1 rfl rfl ?_
  refine g_get (c := 58) (k := 5) (T := TX2) (sk := skX58) (v := .ref (kad K (60))) X wf_X2_15 inX2 dX2_keep_1 4 rfl (by decide) rfl rfl (by decide) rfl ?_
  refine g_iconst X dX2_keep_4 5 rfl (v := (nI (0))) rfl ?_
  refine g_aload_n X dX2_keep_5 6 rfl rfl ?_
  refine g_get (c := 58) (k := 4) (T := TX2) (sk := skX58) (v := .ref (kad K (59))) X wf_X2_11 inX2 dX2_keep_6 9 rfl (by decide) rfl rfl (by decide) rfl ?_
  refine g_iconst X dX2_keep_9 10 rfl (v := (nI (0))) rfl ?_
  refine g_iload_n X dX2_keep_10 11 rfl rfl ?_
  refine g_copy (c0 := 60) (n0 := 3) (r0 := 60) (o0 := 0) (c1 := 59) (n1 := 3) (r1 := 59) (o1 := 0) (a := 0) (b := 0) (m := k) (st := []) X wm_X2_85 dX2_keep_11 14 rfl (by decide) rfl (by decide) rfl rfl rfl rfl (by omega) (by omega) (by omega) (Nat.le_of_ble_eq_true rfl) ?_
  refine g_aload_n X dX2_keep_14 15 rfl rfl ?_
  refine g_iload_n X dX2_keep_15 16 rfl rfl ?_
  refine g_put (c := 58) (k := 3) (T := TX2) (sk := skX58) X wf_X2_91 inX2 tyX2_ok nmX2 dX2_keep_16 19 rfl (by decide) rfl rfl (by decide) rfl rfl rfl ?_
  refine g_iload_n X dX2_keep_19 20 rfl rfl ?_
  refine g_iret (h := (mup (mcpy h 59 (0 + 0) 60 (0 + 0) k) 58 3 (nI (k)))) (v := (nI (k))) X Z dX2_keep_20 ?_
  exact ⟨rfl, rfl⟩
def mPost (h : Mem) (a num : Nat) (res : Option (List Nat)) (r : Int32) (h2 : Mem) : Prop := r = bI (res.isSome = true) ∧ ∃ w v c, h2 = mrow (mrow (mrow h 41 w) 42 v) 60 c ∧ (∀ j, j < a → c j = h 60 j) ∧ (∀ z, res = some z → ∀ j, j < num → c j = nI (z.getD j 0))
theorem mP_id (h : Mem) : h = mrow (mrow (mrow h 41 (h 41)) 42 (h 42)) 60 (h 60) := by
  rw [mrow_id, mrow_id, mrow_id]
set_option maxHeartbeats 1000000 in
set_option maxRecDepth 100000 in
theorem c_X2_pickToMend_0 (h : Mem) (q p m n d : Nat) (C : XC h q p m n d) (S : Nat → Nat → Int32) (a b num : Nat) (l : List Nat) (hl : l.length = a) (ht : h 36 3 = nI p) (hS : sumOK h (remS d q p (h 5) (h 30) (h 31) (h 32) (h 33) S l)) (hb : b ≤ n) (htr : ∀ j, j < a → h 60 j = nI (l.getD j 0)) (hnum : num ≤ 2) (ha : a + 0 = num) : cI 69 XL yX2_pickToMend cX2_pickToMend 6 (some .boolean) 3 71 (fun ad => [.ref (ad (58)), .int (nI (a)), .int (nI (num)), .int (nI (b))]) h (mPost h a num (pkG (fun k => decide (h 34 k = nI 1)) (fun l => okM q m d p (h 3) (remS d q p (h 5) (h 30) (h 31) (h 32) (h 33) S l)) n 0 b l)) := by
  refine cI_of XLW (by decide +kernel) (fun ad => Nat.le_of_ble_eq_true rfl) ?_
  intro K X Z
  obtain ⟨hq, hp, hm, hq1, hq2, hp1, hp2, hm1, hm2, hn, hn2, hc, hq0, hd, hd1, hd2⟩ := id C
  show G 69 XL 6 K h 0 [(0, .ref (kad K (58))), (1, .int (nI (a))), (2, .int (nI (num))), (3, .int (nI (b)))] []
  refine g_iload_n X dX2_pickToMend_0 1 rfl rfl ?_
  refine g_iload_n X dX2_pickToMend_1 2 rfl rfl ?_
  refine g_icmp_lt X ((a : Nat) : Int) ((num : Nat) : Int) dX2_pickToMend_2 34 (by decide) 5 rfl (nI_toInt (by omega)) (nI_toInt (by omega)) (fun t2 => ?_) (fun f2 => ?_)
  · skip
    exact absurd t2 (by omega)
  · skip
    refine g_aload_n X dX2_pickToMend_5 6 rfl rfl ?_
    refine g_get (c := 58) (k := 2) (T := TX2) (sk := skX58) (v := .ref (kad K (36))) X wf_X2_26 inX2 dX2_pickToMend_6 9 rfl (by decide) rfl rfl (by decide) rfl ?_
    refine g_iconst X dX2_pickToMend_9 10 rfl (v := (nI (0))) rfl ?_
    refine g_callVix (st := []) (v := (bI (∀ i, i < d → grd (h 38) (24 * 0) i = 0))) (m2 := h) X cw_X2_50 (c_X6_isNought h q p m n d C 0 (by omega)) dX2_pickToMend_10 13 rfl (by decide) rfl rfl rfl rfl rfl (by decide) (Nat.le_of_ble_eq_true rfl) ?_
    refine g_ifne_B X dX2_pickToMend_13 32 (by decide) 16 rfl (fun t13 => ?_) (fun f13 => ?_)
    · skip
      refine g_iconst X dX2_pickToMend_32 33 rfl (v := (nI (0))) rfl ?_
      refine g_zret (h := h) (v := (nI (0))) X Z dX2_pickToMend_33 (Or.inl rfl) ?_
      have e9 : okM q m d p (h 3) (fun b => grd (h 38) (24 * b)) = okM q m d p (h 3) (remS d q p (h 5) (h 30) (h 31) (h 32) (h 33) S l) := okM_congr hm2 hd1 hd2 hS
      have k9 : ¬ okM q m d p (h 3) (remS d q p (h 5) (h 30) (h 31) (h 32) (h 33) S l) = true := by
        rw [← e9, okM, decide_eq_true_iff]
        exact (fun z => z.1 t13)
      refine ⟨?_, h 41, h 42, h 60, mP_id h, fun _ _ => rfl, fun z hz j hj => ?_⟩
      · unfold pkG
        rw [if_neg k9]
        exact (bI_f (by decide)).symm
      · unfold pkG at hz
        rw [if_neg k9] at hz
        cases hz
    · skip
      refine g_aload_n X dX2_pickToMend_16 17 rfl rfl ?_
      refine g_get (c := 58) (k := 2) (T := TX2) (sk := skX58) (v := .ref (kad K (36))) X wf_X2_26 inX2 dX2_pickToMend_17 20 rfl (by decide) rfl rfl (by decide) rfl ?_
      refine g_callVi (st := []) X cw_X2_54 (c_X6_leastTurn h q p m n d C p ht (by omega)) dX2_pickToMend_20 23 rfl (by decide) rfl rfl rfl rfl rfl (by decide) (Nat.le_of_ble_eq_true rfl) ?_
      rintro _ _ ⟨rfl, w5, v5, rfl⟩
      refine g_bipush X dX2_pickToMend_23 25 rfl (v := (zI (-4))) rfl ?_
      refine g_icmp_eq X ((ltV q m d p (h 3) (fun b => grd (h 38) (24 * b))).toInt) (-4) dX2_pickToMend_25 32 (by decide) 28 rfl rfl rfl (fun t25 => ?_) (fun f25 => ?_)
      · skip
        refine g_iconst X dX2_pickToMend_32 33 rfl (v := (nI (0))) rfl ?_
        refine g_zret (h := (mrow (mrow h 41 w5) 42 v5)) (v := (nI (0))) X Z dX2_pickToMend_33 (Or.inl rfl) ?_
        have e9 : okM q m d p (h 3) (fun b => grd (h 38) (24 * b)) = okM q m d p (h 3) (remS d q p (h 5) (h 30) (h 31) (h 32) (h 33) S l) := okM_congr hm2 hd1 hd2 hS
        have k9 : ¬ okM q m d p (h 3) (remS d q p (h 5) (h 30) (h 31) (h 32) (h 33) S l) = true := by
          rw [← e9, okM, decide_eq_true_iff]
          exact (fun z => z.2 (i32_eq t25))
        refine ⟨?_, w5, v5, h 60, (mrow_id (mrow (mrow h 41 w5) 42 v5) 60).symm, fun _ _ => rfl, fun z hz j hj => ?_⟩
        · unfold pkG
          rw [if_neg k9]
          exact (bI_f (by decide)).symm
        · unfold pkG at hz
          rw [if_neg k9] at hz
          cases hz
      · skip
        refine g_iconst X dX2_pickToMend_28 29 rfl (v := (nI (1))) rfl ?_
        refine g_goto X dX2_pickToMend_29 33 (by decide) ?_
        refine g_zret (h := (mrow (mrow h 41 w5) 42 v5)) (v := (nI (1))) X Z dX2_pickToMend_33 (Or.inr rfl) ?_
        have e9 : okM q m d p (h 3) (fun b => grd (h 38) (24 * b)) = okM q m d p (h 3) (remS d q p (h 5) (h 30) (h 31) (h 32) (h 33) S l) := okM_congr hm2 hd1 hd2 hS
        have k9 : okM q m d p (h 3) (remS d q p (h 5) (h 30) (h 31) (h 32) (h 33) S l) = true := by
          rw [← e9, okM, decide_eq_true_iff]
          exact ⟨f13, fun z => f25 (by rw [z]; rfl)⟩
        refine ⟨?_, w5, v5, h 60, (mrow_id (mrow (mrow h 41 w5) 42 v5) 60).symm, fun _ _ => rfl, fun z hz j hj => ?_⟩
        · unfold pkG
          rw [if_pos k9]
          exact (bI_t rfl).symm
        · unfold pkG at hz
          rw [if_pos k9] at hz
          cases hz
          exact htr j (by omega)
theorem m3_eq (h : Mem) (w v c x w3 v3 c3 : Nat → Int32) : mrow (mrow (mrow (mrow (mrow (mrow (mrow h 41 w) 42 v) 60 c) 60 x) 41 w3) 42 v3) 60 c3 = mrow (mrow (mrow h 41 w3) 42 v3) 60 c3 := by
  funext y
  by_cases h1 : y = 60
  · subst h1; rfl
  · by_cases h2 : y = 42
    · subst h2; rfl
    · by_cases h3 : y = 41
      · subst h3; rfl
      · simp only [mrow, h1, h2, h3, if_false]
theorem mp_found {h h2 : Mem} {a num : Nat} {res res' : Option (List Nat)} {w v c : Nat → Int32} (e : res = res') (em : h2 = mrow (mrow (mrow h 41 w) 42 v) 60 c) (hc : ∀ j, j < a → c j = h 60 j) (hs : res'.isSome = true) (hz : ∀ z, res' = some z → ∀ j, j < num → c j = nI (z.getD j 0)) : mPost h a num res (nI 1) h2 := by
  subst e
  exact ⟨(bI_t hs).symm, w, v, c, em, hc, hz⟩
set_option maxHeartbeats 1000000 in
set_option maxRecDepth 100000 in
theorem c_X2_pickToMend_s (r : Nat) (IH : ∀ (h : Mem) (q p m n d : Nat) (C : XC h q p m n d) (S : Nat → Nat → Int32) (a b num : Nat) (l : List Nat) (hl : l.length = a) (ht : h 36 3 = nI p) (hS : sumOK h (remS d q p (h 5) (h 30) (h 31) (h 32) (h 33) S l)) (hb : b ≤ n) (htr : ∀ j, j < a → h 60 j = nI (l.getD j 0)) (hnum : num ≤ 2) (ha : a + r = num), cI 69 XL yX2_pickToMend cX2_pickToMend 6 (some .boolean) (3 + r) (71 + 25 * r) (fun ad => [.ref (ad 58), .int (nI a), .int (nI num), .int (nI b)]) h (mPost h a num (pkG (fun k => decide (h 34 k = nI 1)) (fun l => okM q m d p (h 3) (remS d q p (h 5) (h 30) (h 31) (h 32) (h 33) S l)) n r b l))) (h : Mem) (q p m n d : Nat) (C : XC h q p m n d) (S : Nat → Nat → Int32) (a b num : Nat) (l : List Nat) (hl : l.length = a) (ht : h 36 3 = nI p) (hS : sumOK h (remS d q p (h 5) (h 30) (h 31) (h 32) (h 33) S l)) (hb : b ≤ n) (htr : ∀ j, j < a → h 60 j = nI (l.getD j 0)) (hnum : num ≤ 2) (ha : a + (r + 1) = num) : cI 69 XL yX2_pickToMend cX2_pickToMend 6 (some .boolean) (3 + (r + 1)) (71 + 25 * (r + 1)) (fun ad => [.ref (ad (58)), .int (nI (a)), .int (nI (num)), .int (nI (b))]) h (mPost h a num (pkG (fun k => decide (h 34 k = nI 1)) (fun l => okM q m d p (h 3) (remS d q p (h 5) (h 30) (h 31) (h 32) (h 33) S l)) n (r + 1) b l)) := by
  refine cI_of XLW (by decide +kernel) (fun ad => Nat.le_of_ble_eq_true rfl) ?_
  intro K X Z
  obtain ⟨hq, hp, hm, hq1, hq2, hp1, hp2, hm1, hm2, hn, hn2, hc, hq0, hd, hd1, hd2⟩ := id C
  show G 69 XL 6 K h 0 [(0, .ref (kad K (58))), (1, .int (nI (a))), (2, .int (nI (num))), (3, .int (nI (b)))] []
  refine g_iload_n X dX2_pickToMend_0 1 rfl rfl ?_
  refine g_iload_n X dX2_pickToMend_1 2 rfl rfl ?_
  refine g_icmp_lt X ((a : Nat) : Int) ((num : Nat) : Int) dX2_pickToMend_2 34 (by decide) 5 rfl (nI_toInt (by omega)) (nI_toInt (by omega)) (fun t2 => ?_) (fun f2 => ?_)
  · skip
    refine g_iload_n X dX2_pickToMend_34 35 rfl rfl ?_
    refine g_istore X (lv' := [(0, .ref (kad K (58))), (1, .int (nI (a))), (2, .int (nI (num))), (3, .int (nI (b))), (4, .int (nI (b)))]) dX2_pickToMend_35 37 rfl (by decide) rfl rfl ?_
    have lp37 : ∀ (fu : Nat) (k : Nat) (w : Nat → Int32) (v : Nat → Int32) (c : Nat → Int32) (hbk : b ≤ k) (hk : k ≤ n) (hcc : ∀ j, j < a → c j = h 60 j) (hgo : tryP (fun k => if (fun k => decide (h 34 k = nI 1)) k = true then pkG (fun k => decide (h 34 k = nI 1)) (fun l => okM q m d p (h 3) (remS d q p (h 5) (h 30) (h 31) (h 32) (h 33) S l)) n r (k + 1) (l ++ [k]) else none) (n - b) b = tryP (fun k => if (fun k => decide (h 34 k = nI 1)) k = true then pkG (fun k => decide (h 34 k = nI 1)) (fun l => okM q m d p (h 3) (remS d q p (h 5) (h 30) (h 31) (h 32) (h 33) S l)) n r (k + 1) (l ++ [k]) else none) (n - k) k), n - k < fu → G 69 XL 6 K (mrow (mrow (mrow h 41 w) 42 v) 60 c) 37 [(0, .ref (kad K (58))), (1, .int (nI (a))), (2, .int (nI (num))), (3, .int (nI (b))), (4, .int (nI (k)))] [] := by
      intro fu
      induction fu with
      | zero => intro k w v c hbk hk hcc hgo hm; exact absurd hm (Nat.not_lt_zero _)
      | succ fu ih37 =>
        intro k w v c hbk hk hcc hgo hm37
        refine g_iload X dX2_pickToMend_37 39 rfl rfl ?_
        refine g_aload_n X dX2_pickToMend_39 40 rfl rfl ?_
        refine g_get (c := 58) (k := 1) (T := TX2) (sk := skX58) (v := .ref (kad K (29))) X wf_X2_22 inX2 dX2_pickToMend_40 43 rfl (by decide) rfl rfl (by decide) rfl ?_
        refine g_get (c := 29) (k := 1) (T := TX0) (sk := skX29) (v := .int (nI (n))) X wf_X2_58 inX0 dX2_pickToMend_43 46 rfl (by decide) rfl rfl (by decide) (congrArg Value.int (hn)) ?_
        refine g_icmp_ge X ((k : Nat) : Int) ((n : Nat) : Int) dX2_pickToMend_46 117 (by decide) 49 rfl (nI_toInt (by omega)) (nI_toInt (by omega)) (fun t46 => ?_) (fun f46 => ?_)
        · skip
          refine g_iconst X dX2_pickToMend_117 118 rfl (v := (nI (0))) rfl ?_
          refine g_zret (h := (mrow (mrow (mrow h 41 w) 42 v) 60 c)) (v := (nI (0))) X Z dX2_pickToMend_118 (Or.inl rfl) ?_
          refine ⟨?_, w, v, c, rfl, hcc, fun z hz => ?_⟩
          · rw [pkG_s, hgo, show n - k = 0 from by omega]
            exact (bI_f (fun z => absurd (show (false : Bool) = true from z) (by decide))).symm
          · rw [pkG_s, hgo, show n - k = 0 from by omega] at hz
            cases hz
        · skip
          refine g_aload_n X dX2_pickToMend_49 50 rfl rfl ?_
          refine g_get (c := 58) (k := 1) (T := TX2) (sk := skX58) (v := .ref (kad K (29))) X wf_X2_22 inX2 dX2_pickToMend_50 53 rfl (by decide) rfl rfl (by decide) rfl ?_
          refine g_get (c := 29) (k := 6) (T := TX0) (sk := skX29) (v := .ref (kad K (34))) X wf_X2_63 inX0 dX2_pickToMend_53 56 rfl (by decide) rfl rfl (by decide) rfl ?_
          refine g_iload X dX2_pickToMend_56 58 rfl rfl ?_
          refine g_zald (c := 34) (n := 24) (r := 34) (o := 0) (i := k) (v := (bI (h 34 k = nI 1))) X dX2_pickToMend_58 59 rfl (by decide) rfl rfl (by omega) (us_b (hc k (by omega)).us) ?_
          refine g_ifeq_B X dX2_pickToMend_59 111 (by decide) 62 rfl (fun t59 => ?_) (fun f59 => ?_)
          · skip
            refine g_iinc X (v := (nI (k + 1))) (lv' := [(0, .ref (kad K (58))), (1, .int (nI (a))), (2, .int (nI (num))), (3, .int (nI (b))), (4, .int (nI (k + 1)))]) dX2_pickToMend_111 114 rfl (by decide) rfl (n_inc k 1) rfl rfl ?_
            refine g_goto X dX2_pickToMend_114 37 (by decide) ?_
            skip
            exact ih37 (k + 1) w v c (by omega) (by omega) hcc (by rw [hgo, show n - k = (n - (k + 1)) + 1 from by omega]; exact tryP_none (if_neg (by simpa using t59))) (by omega)
          · skip
            have hf9 : tn (h 30 k) < 3 := by have := (hc k (by omega)).ph.2; omega
            refine g_aload_n X dX2_pickToMend_62 63 rfl rfl ?_
            refine g_get (c := 58) (k := 5) (T := TX2) (sk := skX58) (v := .ref (kad K (60))) X wf_X2_15 inX2 dX2_pickToMend_63 66 rfl (by decide) rfl rfl (by decide) rfl ?_
            refine g_iload_n X dX2_pickToMend_66 67 rfl rfl ?_
            refine g_iload X dX2_pickToMend_67 69 rfl rfl ?_
            refine g_iast (c := 60) (n := 3) (r := 60) (o := 0) (i := a) X dX2_pickToMend_69 70 rfl (by decide) rfl rfl (by omega) ?_
            refine g_aload_n X dX2_pickToMend_70 71 rfl rfl ?_
            refine g_get (c := 58) (k := 2) (T := TX2) (sk := skX58) (v := .ref (kad K (36))) X wf_X2_26 inX2 dX2_pickToMend_71 74 rfl (by decide) rfl rfl (by decide) rfl ?_
            refine g_iload X dX2_pickToMend_74 76 rfl rfl ?_
            refine g_iconst X dX2_pickToMend_76 77 rfl (v := (zI (-1))) rfl ?_
            refine g_callVvx (st := []) (m2 := (adM (mup (mrow (mrow (mrow h 41 w) 42 v) 60 c) 60 a (nI k)) d q p k (zI (-1)))) X cw_X2_67 (c_X6_addCoil (mup (mrow (mrow (mrow h 41 w) 42 v) 60 c) 60 a (nI k)) q p m n d (by exact C) p k (zI (-1)) (by exact ht) (by omega) (by omega) (by omega)) dX2_pickToMend_77 80 rfl (by decide) rfl rfl rfl rfl rfl (by omega) (Nat.le_of_ble_eq_true rfl) ?_
            refine g_aload_n X dX2_pickToMend_80 81 rfl rfl ?_
            refine g_iload_n X dX2_pickToMend_81 82 rfl rfl ?_
            refine g_iconst X dX2_pickToMend_82 83 rfl (v := (nI (1))) rfl ?_
            refine g_iadd X (v := (nI (a + 1))) dX2_pickToMend_83 84 rfl (nI_add a 1) ?_
            refine g_iload_n X dX2_pickToMend_84 85 rfl rfl ?_
            refine g_iload X dX2_pickToMend_85 87 rfl rfl ?_
            refine g_iconst X dX2_pickToMend_87 88 rfl (v := (nI (1))) rfl ?_
            refine g_iadd X (v := (nI (k + 1))) dX2_pickToMend_88 89 rfl (nI_add k 1) ?_
            refine g_callVi (st := []) X cw_X2_42 (IH (adM (mup (mrow (mrow (mrow h 41 w) 42 v) 60 c) 60 a (nI k)) d q p k (zI (-1))) q p m n d (by exact C) S (a + 1) (k + 1) num (l ++ [k]) (by rw [List.length_append, hl]; rfl) (by exact ht) (by unfold remS; rw [List.foldl_append]; exact ad_sum (h := (mup (mrow (mrow (mrow h 41 w) 42 v) 60 c) 60 a (nI k))) (by exact hS) (by exact hf9)) (by omega) (fun j hj => by
                show upd c a (nI k) j = _
                by_cases e : j = a
                · rw [e, upd_s, ← hl, getD_end]
                · rw [upd_n _ _ e, hcc j (by omega), htr j (by omega), getD_app (by omega)]) hnum (by omega)) dX2_pickToMend_89 92 rfl (by decide) rfl rfl rfl rfl rfl (by omega) (Nat.le_of_ble_eq_true rfl) ?_
            rintro _ _ ⟨rfl, w3, v3, c3, rfl, hc3, hz3⟩
            refine g_istore X (lv' := [(0, .ref (kad K (58))), (1, .int (nI (a))), (2, .int (nI (num))), (3, .int (nI (b))), (4, .int (nI (k))), (5, .int (bI ((pkG (fun k => decide (h 34 k = nI 1)) (fun l => okM q m d p (h 3) (remS d q p (h 5) (h 30) (h 31) (h 32) (h 33) S l)) n r (k + 1) (l ++ [k])).isSome = true)))]) dX2_pickToMend_92 94 rfl (by decide) rfl rfl ?_
            refine g_aload_n X dX2_pickToMend_94 95 rfl rfl ?_
            refine g_get (c := 58) (k := 2) (T := TX2) (sk := skX58) (v := .ref (kad K (36))) X wf_X2_26 inX2 dX2_pickToMend_95 98 rfl (by decide) rfl rfl (by decide) rfl ?_
            refine g_iload X dX2_pickToMend_98 100 rfl rfl ?_
            refine g_iconst X dX2_pickToMend_100 101 rfl (v := (nI (1))) rfl ?_
            refine g_callVvx (st := []) (m2 := (adM (mrow (mrow (mrow (adM (mup (mrow (mrow (mrow h 41 w) 42 v) 60 c) 60 a (nI k)) d q p k (zI (-1))) 41 w3) 42 v3) 60 c3) d q p k (nI 1))) X cw_X2_67 (c_X6_addCoil (mrow (mrow (mrow (adM (mup (mrow (mrow (mrow h 41 w) 42 v) 60 c) 60 a (nI k)) d q p k (zI (-1))) 41 w3) 42 v3) 60 c3) q p m n d (by exact C) p k (nI 1) (by exact ht) (by omega) (by omega) (by omega)) dX2_pickToMend_101 104 rfl (by decide) rfl rfl rfl rfl rfl (by omega) (Nat.le_of_ble_eq_true rfl) ?_
            refine g_iload X dX2_pickToMend_104 106 rfl rfl ?_
            refine g_ifeq_B X dX2_pickToMend_106 111 (by decide) 109 rfl (fun t106 => ?_) (fun f106 => ?_)
            · skip
              refine g_iinc X (v := (nI (k + 1))) (lv' := [(0, .ref (kad K (58))), (1, .int (nI (a))), (2, .int (nI (num))), (3, .int (nI (b))), (4, .int (nI (k + 1))), (5, .int (bI ((pkG (fun k => decide (h 34 k = nI 1)) (fun l => okM q m d p (h 3) (remS d q p (h 5) (h 30) (h 31) (h 32) (h 33) S l)) n r (k + 1) (l ++ [k])).isSome = true)))]) dX2_pickToMend_111 114 rfl (by decide) rfl (n_inc k 1) rfl rfl ?_
              refine g_goto X dX2_pickToMend_114 37 (by decide) ?_
              refine g_sub [0, 1, 2, 3, 4] rfl ?_
              refine g_mem (h := (adM (mrow (mrow (mrow (adM (mup (mrow (mrow (mrow h 41 w) 42 v) 60 c) 60 a (nI k)) d q p k (zI (-1))) 41 w3) 42 v3) 60 c3) d q p k (nI 1))) (h' := (mrow (mrow (mrow h 41 w3) 42 v3) 60 c3)) ((ad_inv (mup (mrow (mrow (mrow h 41 w) 42 v) 60 c) 60 a (nI k)) d q p k w3 v3 c3).trans (m3_eq h _ _ _ _ _ _ _)) ?_
              exact ih37 (k + 1) w3 v3 c3 (by omega) (by omega) (fun j hj => (hc3 j (by omega)).trans ((upd_n _ _ (by omega)).trans (hcc j hj))) (by rw [hgo, show n - k = (n - (k + 1)) + 1 from by omega]; refine tryP_none ((if_pos (by simpa using f59)).trans ?_); cases hr9 : (pkG (fun k => decide (h 34 k = nI 1)) (fun l => okM q m d p (h 3) (remS d q p (h 5) (h 30) (h 31) (h 32) (h 33) S l)) n r (k + 1) (l ++ [k])) with
                      | none => rfl
                      | some z => rw [hr9] at t106; exact absurd rfl t106) (by omega)
            · skip
              refine g_iconst X dX2_pickToMend_109 110 rfl (v := (nI (1))) rfl ?_
              refine g_zret (h := (adM (mrow (mrow (mrow (adM (mup (mrow (mrow (mrow h 41 w) 42 v) 60 c) 60 a (nI k)) d q p k (zI (-1))) 41 w3) 42 v3) 60 c3) d q p k (nI 1))) (v := (nI (1))) X Z dX2_pickToMend_110 (Or.inr rfl) ?_
              refine mp_found (c := c3) ?_ ((ad_inv (mup (mrow (mrow (mrow h 41 w) 42 v) 60 c) 60 a (nI k)) d q p k w3 v3 c3).trans (m3_eq h _ _ _ _ _ _ _)) (fun j hj => (hc3 j (by omega)).trans ((upd_n _ _ (by omega)).trans (hcc j hj))) f106 hz3
              rw [pkG_s, hgo, show n - k = (n - (k + 1)) + 1 from by omega]
              cases hr9 : (pkG (fun k => decide (h 34 k = nI 1)) (fun l => okM q m d p (h 3) (remS d q p (h 5) (h 30) (h 31) (h 32) (h 33) S l)) n r (k + 1) (l ++ [k])) with
              | none => rw [hr9] at f106; exact absurd f106 (by decide)
              | some z => exact tryP_some (F := (fun k => if (fun k => decide (h 34 k = nI 1)) k = true then pkG (fun k => decide (h 34 k = nI 1)) (fun l => okM q m d p (h 3) (remS d q p (h 5) (h 30) (h 31) (h 32) (h 33) S l)) n r (k + 1) (l ++ [k]) else none)) ((if_pos (by simpa using f59)).trans hr9)
    skip
    refine g_mem (h := h) (h' := (mrow (mrow (mrow h 41 (h 41)) 42 (h 42)) 60 (h 60))) (mP_id h) ?_
    exact lp37 _ b (h 41) (h 42) (h 60) (Nat.le_refl _) hb (fun _ _ => rfl) (by rfl) (Nat.lt_succ_self _)
  · skip
    exact absurd f2 (by omega)
theorem c_X2_pickToMend : ∀ (r : Nat) (h : Mem) (q p m n d : Nat) (C : XC h q p m n d) (S : Nat → Nat → Int32) (a b num : Nat) (l : List Nat) (hl : l.length = a) (ht : h 36 3 = nI p) (hS : sumOK h (remS d q p (h 5) (h 30) (h 31) (h 32) (h 33) S l)) (hb : b ≤ n) (htr : ∀ j, j < a → h 60 j = nI (l.getD j 0)) (hnum : num ≤ 2) (ha : a + r = num), cI 69 XL yX2_pickToMend cX2_pickToMend 6 (some .boolean) (3 + r) (71 + 25 * r) (fun ad => [.ref (ad 58), .int (nI a), .int (nI num), .int (nI b)]) h (mPost h a num (pkG (fun k => decide (h 34 k = nI 1)) (fun l => okM q m d p (h 3) (remS d q p (h 5) (h 30) (h 31) (h 32) (h 33) S l)) n r b l))
  | 0 => fun h q p m n d C S a b num l hl ht hS hb htr hnum ha => c_X2_pickToMend_0 h q p m n d C S a b num l hl ht hS hb htr hnum ha
  | r + 1 => c_X2_pickToMend_s r (c_X2_pickToMend r)
theorem mn_pick (h : Mem) (q p m n d : Nat) (C : XC h q p m n d) (k : Nat) (hk : k ≤ 2) (w v c : Nat → Int32) : cI 69 XL yX2_pickToMend cX2_pickToMend 6 (some .boolean) (3 + k) (71 + 25 * k) (fun ad => [.ref (ad 58), .int (nI 0), .int (nI k), .int (nI 0)]) (mrow (mrow (mrow (mrow (mup h 36 3 (nI p)) 38 (sumG (h 38) (fun b => wvS d q p (h 5) (h 30) (h 31) (h 32) (h 33) (h 34) b n))) 41 w) 42 v) 60 c) (mPost (mrow (mrow (mrow (mrow (mup h 36 3 (nI p)) 38 (sumG (h 38) (fun b => wvS d q p (h 5) (h 30) (h 31) (h 32) (h 33) (h 34) b n))) 41 w) 42 v) 60 c) 0 k ((fun j => pkG (fun k => decide (h 34 k = nI 1)) (fun l => okM q m d p (h 3) (remS d q p (h 5) (h 30) (h 31) (h 32) (h 33) (fun b => wvS d q p (h 5) (h 30) (h 31) (h 32) (h 33) (h 34) b n) l)) n j 0 []) k)) := by
  have hs : sumOK (mrow (mrow (mrow (mrow (mup h 36 3 (nI p)) 38 (sumG (h 38) (fun b => wvS d q p (h 5) (h 30) (h 31) (h 32) (h 33) (h 34) b n))) 41 w) 42 v) 60 c) (fun b => wvS d q p (h 5) (h 30) (h 31) (h 32) (h 33) (h 34) b n) := fun f i hf hi => by show grd (sumG (h 38) (fun b => wvS d q p (h 5) (h 30) (h 31) (h 32) (h 33) (h 34) b n)) (24 * f) i = _; exact sumG_row hf hi
  obtain ⟨hq, hp, hm, hq1, hq2, hp1, hp2, hm1, hm2, hn, hn2, hc, hq0, hd, hd1, hd2⟩ := id C
  exact c_X2_pickToMend k (mrow (mrow (mrow (mrow (mup h 36 3 (nI p)) 38 (sumG (h 38) (fun b => wvS d q p (h 5) (h 30) (h 31) (h 32) (h 33) (h 34) b n))) 41 w) 42 v) 60 c) q p m n d (by exact C) (fun b => wvS d q p (h 5) (h 30) (h 31) (h 32) (h 33) (h 34) b n) 0 0 k [] rfl (by rfl) (by exact hs) (Nat.zero_le _) (fun j hj => absurd hj (Nat.not_lt_zero _)) hk (by omega)
theorem m3b_eq (h : Mem) (w v c w3 v3 c3 : Nat → Int32) : mrow (mrow (mrow (mrow (mrow (mrow h 41 w) 42 v) 60 c) 41 w3) 42 v3) 60 c3 = mrow (mrow (mrow h 41 w3) 42 v3) 60 c3 := by
  funext y
  by_cases h1 : y = 60
  · subst h1; rfl
  · by_cases h2 : y = 42
    · subst h2; rfl
    · by_cases h3 : y = 41
      · subst h3; rfl
      · simp only [mrow, h1, h2, h3, if_false]
set_option maxHeartbeats 1000000 in
set_option maxRecDepth 100000 in
theorem c_X2_fewestToMend (h : Mem) (q p m n d : Nat) (C : XC h q p m n d) : cI 69 XL yX2_fewestToMend cX2_fewestToMend 2 (some .int) 7 201 (fun ad => [.ref (ad (58))]) h (fun r h2 => r = pkV (tryP (fun j => pkG (fun k => decide (h 34 k = nI 1)) (fun l => okM q m d p (h 3) (remS d q p (h 5) (h 30) (h 31) (h 32) (h 33) (fun b => wvS d q p (h 5) (h 30) (h 31) (h 32) (h 33) (h 34) b n) l)) n j 0 []) 3 0) ∧ h2 58 3 = pkN (h 58 3) (tryP (fun j => pkG (fun k => decide (h 34 k = nI 1)) (fun l => okM q m d p (h 3) (remS d q p (h 5) (h 30) (h 31) (h 32) (h 33) (fun b => wvS d q p (h 5) (h 30) (h 31) (h 32) (h 33) (h 34) b n) l)) n j 0 []) 3 0) ∧ pkQ (h 59) (h2 59) (tryP (fun j => pkG (fun k => decide (h 34 k = nI 1)) (fun l => okM q m d p (h 3) (remS d q p (h 5) (h 30) (h 31) (h 32) (h 33) (fun b => wvS d q p (h 5) (h 30) (h 31) (h 32) (h 33) (h 34) b n) l)) n j 0 []) 3 0) ∧ agr h h2 [36, 38, 41, 42, 58, 59, 60]) := by
  refine cI_of XLW (by decide +kernel) (fun ad => Nat.le_of_ble_eq_true rfl) ?_
  intro K X Z
  obtain ⟨hq, hp, hm, hq1, hq2, hp1, hp2, hm1, hm2, hn, hn2, hc, hq0, hd, hd1, hd2⟩ := id C
  show G 69 XL 2 K h 0 [(0, .ref (kad K (58)))] []
  refine g_aload_n X dX2_fewestToMend_0 1 rfl rfl ?_
  refine g_get (c := 58) (k := 2) (T := TX2) (sk := skX58) (v := .ref (kad K (36))) X wf_X2_26 inX2 dX2_fewestToMend_1 4 rfl (by decide) rfl rfl (by decide) rfl ?_
  refine g_aload_n X dX2_fewestToMend_4 5 rfl rfl ?_
  refine g_get (c := 58) (k := 0) (T := TX2) (sk := skX58) (v := .ref (kad K (1))) X wf_X2_18 inX2 dX2_fewestToMend_5 8 rfl (by decide) rfl rfl (by decide) rfl ?_
  refine g_get (c := 1) (k := 1) (T := TX1) (sk := skX1) (v := .int (nI (p))) X wf_X2_30 inX1 dX2_fewestToMend_8 11 rfl (by decide) rfl rfl (by decide) (congrArg Value.int (hp)) ?_
  refine g_callVvx (st := []) (m2 := (mrow (mup h 36 3 (nI (p))) 38 (sumG (h 38) (fun b => wvS d q p (h 5) (h 30) (h 31) (h 32) (h 33) (h 34) b n)))) X cw_X2_36 (c_X6_gather h q p m n d (by exact C) p (by omega) (by omega)) dX2_fewestToMend_11 14 rfl (by decide) rfl rfl rfl rfl rfl (by decide) (Nat.le_of_ble_eq_true rfl) ?_
  refine g_iconst X dX2_fewestToMend_14 15 rfl (v := (nI (0))) rfl ?_
  refine g_istore_n X (lv' := [(0, .ref (kad K (58))), (1, .int (nI 0))]) dX2_fewestToMend_15 16 rfl (by decide) rfl rfl ?_
  have lp16 : ∀ (fu : Nat) (k : Nat) (w : Nat → Int32) (v : Nat → Int32) (c : Nat → Int32) (hk : k ≤ 3) (hgo : tryP (fun j => pkG (fun k => decide (h 34 k = nI 1)) (fun l => okM q m d p (h 3) (remS d q p (h 5) (h 30) (h 31) (h 32) (h 33) (fun b => wvS d q p (h 5) (h 30) (h 31) (h 32) (h 33) (h 34) b n) l)) n j 0 []) 3 0 = tryP (fun j => pkG (fun k => decide (h 34 k = nI 1)) (fun l => okM q m d p (h 3) (remS d q p (h 5) (h 30) (h 31) (h 32) (h 33) (fun b => wvS d q p (h 5) (h 30) (h 31) (h 32) (h 33) (h 34) b n) l)) n j 0 []) (3 - k) k), 3 - k < fu → G 69 XL 2 K (mrow (mrow (mrow (mrow (mup h 36 3 (nI p)) 38 (sumG (h 38) (fun b => wvS d q p (h 5) (h 30) (h 31) (h 32) (h 33) (h 34) b n))) 41 w) 42 v) 60 c) 16 [(0, .ref (kad K (58))), (1, .int (nI (k)))] [] := by
    intro fu
    induction fu with
    | zero => intro k w v c hk hgo hm; exact absurd hm (Nat.not_lt_zero _)
    | succ fu ih16 =>
      intro k w v c hk hgo hm16
      refine g_iload_n X dX2_fewestToMend_16 17 rfl rfl ?_
      refine g_iconst X dX2_fewestToMend_17 18 rfl (v := (nI (2))) rfl ?_
      refine g_icmp_gt X ((k : Nat) : Int) 2 dX2_fewestToMend_18 43 (by decide) 21 rfl (nI_toInt (by omega)) rfl (fun t18 => ?_) (fun f18 => ?_)
      · skip
        refine g_bipush X dX2_fewestToMend_43 45 rfl (v := (zI (-4))) rfl ?_
        refine g_iret (h := (mrow (mrow (mrow (mrow (mup h 36 3 (nI p)) 38 (sumG (h 38) (fun b => wvS d q p (h 5) (h 30) (h 31) (h 32) (h 33) (h 34) b n))) 41 w) 42 v) 60 c)) (v := (zI (-4))) X Z dX2_fewestToMend_45 ?_
        have hres : tryP (fun j => pkG (fun k => decide (h 34 k = nI 1)) (fun l => okM q m d p (h 3) (remS d q p (h 5) (h 30) (h 31) (h 32) (h 33) (fun b => wvS d q p (h 5) (h 30) (h 31) (h 32) (h 33) (h 34) b n) l)) n j 0 []) 3 0 = none := by rw [hgo, show 3 - k = 0 from by omega]; rfl
        rw [hres]
        exact ⟨rfl, rfl, rfl, fun c hc9 => by simp only [List.mem_cons, List.not_mem_nil, or_false, not_or] at hc9; simp [mcpy, mrow, mup, hc9]⟩
      · skip
        refine g_aload_n X dX2_fewestToMend_21 22 rfl rfl ?_
        refine g_iconst X dX2_fewestToMend_22 23 rfl (v := (nI (0))) rfl ?_
        refine g_iload_n X dX2_fewestToMend_23 24 rfl rfl ?_
        refine g_iconst X dX2_fewestToMend_24 25 rfl (v := (nI (0))) rfl ?_
        refine g_callVi (st := []) X cw_X2_42 (mn_pick h q p m n d C k (by omega) w v c) dX2_fewestToMend_25 28 rfl (by decide) rfl rfl rfl rfl rfl (by omega) (Nat.le_of_ble_eq_true rfl) ?_
        rintro _ _ ⟨rfl, w9, v9, c9, rfl, -, hz9⟩
        refine g_ifeq_B X dX2_fewestToMend_28 37 (by decide) 31 rfl (fun t28 => ?_) (fun f28 => ?_)
        · skip
          refine g_iinc X (v := (nI (k + 1))) (lv' := [(0, .ref (kad K (58))), (1, .int (nI (k + 1)))]) dX2_fewestToMend_37 40 rfl (by decide) rfl (n_inc k 1) rfl rfl ?_
          refine g_goto X dX2_fewestToMend_40 16 (by decide) ?_
          skip
          refine g_mem (h := (mrow (mrow (mrow (mrow (mrow (mrow (mrow (mup h 36 3 (nI p)) 38 (sumG (h 38) (fun b => wvS d q p (h 5) (h 30) (h 31) (h 32) (h 33) (h 34) b n))) 41 w) 42 v) 60 c) 41 w9) 42 v9) 60 c9)) (h' := (mrow (mrow (mrow (mrow (mup h 36 3 (nI p)) 38 (sumG (h 38) (fun b => wvS d q p (h 5) (h 30) (h 31) (h 32) (h 33) (h 34) b n))) 41 w9) 42 v9) 60 c9)) (m3b_eq (mrow (mup h 36 3 (nI p)) 38 (sumG (h 38) (fun b => wvS d q p (h 5) (h 30) (h 31) (h 32) (h 33) (h 34) b n))) _ _ _ _ _ _) ?_
          exact ih16 (k + 1) w9 v9 c9 (by omega) (by rw [hgo, show 3 - k = (3 - (k + 1)) + 1 from by omega]; refine tryP_none ?_; cases hr9 : (fun j => pkG (fun k => decide (h 34 k = nI 1)) (fun l => okM q m d p (h 3) (remS d q p (h 5) (h 30) (h 31) (h 32) (h 33) (fun b => wvS d q p (h 5) (h 30) (h 31) (h 32) (h 33) (h 34) b n) l)) n j 0 []) k with
                | none => exact hr9
                | some z => rw [hr9] at t28; exact absurd rfl t28) (by omega)
        · skip
          refine g_aload_n X dX2_fewestToMend_31 32 rfl rfl ?_
          refine g_iload_n X dX2_fewestToMend_32 33 rfl rfl ?_
          refine g_callVix (st := []) (v := (nI (k))) (m2 := (mup (mcpy (mrow (mrow (mrow (mrow (mrow (mrow (mrow (mup h 36 3 (nI p)) 38 (sumG (h 38) (fun b => wvS d q p (h 5) (h 30) (h 31) (h 32) (h 33) (h 34) b n))) 41 w) 42 v) 60 c) 41 w9) 42 v9) 60 c9) 59 (0 + 0) 60 (0 + 0) k) 58 3 (nI k))) X cw_X2_46 (c_X2_keep (mrow (mrow (mrow (mrow (mrow (mrow (mrow (mup h 36 3 (nI p)) 38 (sumG (h 38) (fun b => wvS d q p (h 5) (h 30) (h 31) (h 32) (h 33) (h 34) b n))) 41 w) 42 v) 60 c) 41 w9) 42 v9) 60 c9) k (by omega)) dX2_fewestToMend_33 36 rfl (by decide) rfl rfl rfl rfl rfl (by omega) (Nat.le_of_ble_eq_true rfl) ?_
          refine g_iret (h := (mup (mcpy (mrow (mrow (mrow (mrow (mrow (mrow (mrow (mup h 36 3 (nI p)) 38 (sumG (h 38) (fun b => wvS d q p (h 5) (h 30) (h 31) (h 32) (h 33) (h 34) b n))) 41 w) 42 v) 60 c) 41 w9) 42 v9) 60 c9) 59 (0 + 0) 60 (0 + 0) k) 58 3 (nI k))) (v := (nI (k))) X Z dX2_fewestToMend_36 ?_
          cases hr9 : (fun j => pkG (fun k => decide (h 34 k = nI 1)) (fun l => okM q m d p (h 3) (remS d q p (h 5) (h 30) (h 31) (h 32) (h 33) (fun b => wvS d q p (h 5) (h 30) (h 31) (h 32) (h 33) (h 34) b n) l)) n j 0 []) k with
          | none => rw [hr9] at f28; exact absurd f28 (by decide)
          | some z =>
            have hln : z.length = k := by have := pkG_len _ _ _ _ hr9; simpa using this
            have hres : tryP (fun j => pkG (fun k => decide (h 34 k = nI 1)) (fun l => okM q m d p (h 3) (remS d q p (h 5) (h 30) (h 31) (h 32) (h 33) (fun b => wvS d q p (h 5) (h 30) (h 31) (h 32) (h 33) (h 34) b n) l)) n j 0 []) 3 0 = some z := by rw [hgo, show 3 - k = (3 - (k + 1)) + 1 from by omega]; exact tryP_some hr9
            rw [hres]
            refine ⟨by rw [← hln]; rfl, by rw [← hln]; rfl, fun j hj => ?_, fun c hc9 => by simp only [List.mem_cons, List.not_mem_nil, or_false, not_or] at hc9; simp [mcpy, mrow, mup, hc9]⟩
            show (if 0 + 0 ≤ j ∧ j < 0 + 0 + k then _ else _) = _
            rw [if_pos (by omega)]
            exact hz9 z hr9 j (by omega)
  skip
  refine g_mem (h := (mrow (mup h 36 3 (nI (p))) 38 (sumG (h 38) (fun b => wvS d q p (h 5) (h 30) (h 31) (h 32) (h 33) (h 34) b n)))) (h' := (mrow (mrow (mrow (mrow (mup h 36 3 (nI p)) 38 (sumG (h 38) (fun b => wvS d q p (h 5) (h 30) (h 31) (h 32) (h 33) (h 34) b n))) 41 (h 41)) 42 (h 42)) 60 (h 60))) (mP_id (mrow (mup h 36 3 (nI p)) 38 (sumG (h 38) (fun b => wvS d q p (h 5) (h 30) (h 31) (h 32) (h 33) (h 34) b n)))) ?_
  exact lp16 _ 0 (h 41) (h 42) (h 60) (by omega) (by rfl) (Nat.lt_succ_self _)
set_option maxHeartbeats 1000000 in
set_option maxRecDepth 100000 in
theorem c_X2_turnsOf (h : Mem) (q p m n d : Nat) (C : XC h q p m n d) (f : Nat) (hf : f < 1000) : cI 69 XL yX2_turnsOf cX2_turnsOf 4 (some .int) 1 22 (fun ad => [.ref (ad (58)), .int (nI (f))]) h (fun r h2 => r = nI (tuS (uin (h 30) (h 34) f) (h 33) n) ∧ h2 = h) := by
  refine cI_of XLW (by decide +kernel) (fun ad => Nat.le_of_ble_eq_true rfl) ?_
  intro K X Z
  obtain ⟨hq, hp, hm, hq1, hq2, hp1, hp2, hm1, hm2, hn, hn2, hc, hq0, hd, hd1, hd2⟩ := id C
  show G 69 XL 4 K h 0 [(0, .ref (kad K (58))), (1, .int (nI (f)))] []
  refine g_iconst X dX2_turnsOf_0 1 rfl (v := (nI (0))) rfl ?_
  refine g_istore_n X (lv' := [(0, .ref (kad K (58))), (1, .int (nI (f))), (2, .int (nI 0))]) dX2_turnsOf_1 2 rfl (by decide) rfl rfl ?_
  refine g_iconst X dX2_turnsOf_2 3 rfl (v := (nI (0))) rfl ?_
  refine g_istore_n X (lv' := [(0, .ref (kad K (58))), (1, .int (nI (f))), (2, .int (nI 0)), (3, .int (nI 0))]) dX2_turnsOf_3 4 rfl (by decide) rfl rfl ?_
  have lp4 : ∀ (fu : Nat) (k : Nat) (u : Nat) (hk : k ≤ n) (hu : u = tuS (uin (h 30) (h 34) f) (h 33) k), n - k < fu → G 69 XL 4 K h 4 [(0, .ref (kad K (58))), (1, .int (nI (f))), (2, .int (nI (u))), (3, .int (nI (k)))] [] := by
    intro fu
    induction fu with
    | zero => intro k u hk hu hm; exact absurd hm (Nat.not_lt_zero _)
    | succ fu ih4 =>
      intro k u hk hu hm4
      refine g_iload_n X dX2_turnsOf_4 5 rfl rfl ?_
      refine g_aload_n X dX2_turnsOf_5 6 rfl rfl ?_
      refine g_get (c := 58) (k := 1) (T := TX2) (sk := skX58) (v := .ref (kad K (29))) X wf_X2_22 inX2 dX2_turnsOf_6 9 rfl (by decide) rfl rfl (by decide) rfl ?_
      refine g_get (c := 29) (k := 1) (T := TX0) (sk := skX29) (v := .int (nI (n))) X wf_X2_58 inX0 dX2_turnsOf_9 12 rfl (by decide) rfl rfl (by decide) (congrArg Value.int (hn)) ?_
      refine g_icmp_ge X ((k : Nat) : Int) ((n : Nat) : Int) dX2_turnsOf_12 45 (by decide) 15 rfl (nI_toInt (by omega)) (nI_toInt (by omega)) (fun t12 => ?_) (fun f12 => ?_)
      · skip
        refine g_iload_n X dX2_turnsOf_45 46 rfl rfl ?_
        refine g_iret (h := h) (v := (nI (u))) X Z dX2_turnsOf_46 ?_
        exact ⟨by rw [hu, show k = n from by omega], rfl⟩
      · skip
        refine g_aload_n X dX2_turnsOf_15 16 rfl rfl ?_
        refine g_get (c := 58) (k := 1) (T := TX2) (sk := skX58) (v := .ref (kad K (29))) X wf_X2_22 inX2 dX2_turnsOf_16 19 rfl (by decide) rfl rfl (by decide) rfl ?_
        refine g_iload_n X dX2_turnsOf_19 20 rfl rfl ?_
        refine g_iload_n X dX2_turnsOf_20 21 rfl rfl ?_
        refine g_callVix (st := []) (v := (bI ((uin (h 30) (h 34) f) k = true))) (m2 := h) X cw_X2_78 (c_X0_isUsedIn h q m n f k (by exact hc) hn2 hm2 (by omega) (by omega)) dX2_turnsOf_21 24 rfl (by decide) rfl rfl rfl rfl rfl (by omega) (Nat.le_of_ble_eq_true rfl) ?_
        refine g_ifeq_B X dX2_turnsOf_24 39 (by decide) 27 rfl (fun t24 => ?_) (fun f24 => ?_)
        · skip
          refine g_iinc X (v := (nI (k + 1))) (lv' := [(0, .ref (kad K (58))), (1, .int (nI (f))), (2, .int (nI (u))), (3, .int (nI (k + 1)))]) dX2_turnsOf_39 42 rfl (by decide) rfl (n_inc k 1) rfl rfl ?_
          refine g_goto X dX2_turnsOf_42 4 (by decide) ?_
          skip
          exact ih4 (k + 1) u (by omega) (by rw [hu, tuS, if_neg t24]; rfl) (by omega)
        · skip
          refine g_iload_n X dX2_turnsOf_27 28 rfl rfl ?_
          refine g_aload_n X dX2_turnsOf_28 29 rfl rfl ?_
          refine g_get (c := 58) (k := 1) (T := TX2) (sk := skX58) (v := .ref (kad K (29))) X wf_X2_22 inX2 dX2_turnsOf_29 32 rfl (by decide) rfl rfl (by decide) rfl ?_
          refine g_get (c := 29) (k := 5) (T := TX0) (sk := skX29) (v := .ref (kad K (33))) X wf_X2_82 inX0 dX2_turnsOf_32 35 rfl (by decide) rfl rfl (by decide) rfl ?_
          refine g_iload_n X dX2_turnsOf_35 36 rfl rfl ?_
          refine g_iald (c := 33) (n := 24) (r := 33) (o := 0) (i := k) (v := (nI (tn (h 33 k)))) X dX2_turnsOf_36 37 rfl (by decide) rfl rfl (by omega) ((hc k (by omega)).tu.1) ?_
          refine g_iadd X (v := (nI (u + (tn (h 33 k))))) dX2_turnsOf_37 38 rfl (nI_add u (tn (h 33 k))) ?_
          refine g_istore_n X (lv' := [(0, .ref (kad K (58))), (1, .int (nI (f))), (2, .int (nI (u + (tn (h 33 k))))), (3, .int (nI (k)))]) dX2_turnsOf_38 39 rfl (by decide) rfl rfl ?_
          refine g_iinc X (v := (nI (k + 1))) (lv' := [(0, .ref (kad K (58))), (1, .int (nI (f))), (2, .int (nI (u + (tn (h 33 k))))), (3, .int (nI (k + 1)))]) dX2_turnsOf_39 42 rfl (by decide) rfl (n_inc k 1) rfl rfl ?_
          refine g_goto X dX2_turnsOf_42 4 (by decide) ?_
          skip
          exact ih4 (k + 1) (u + tn (h 33 k)) (by omega) (by rw [hu, tuS, if_pos f24]) (by omega)
  skip
  exact lp4 _ 0 0 (by omega) rfl (Nat.lt_succ_self _)
def sPost (h : Mem) (a num : Nat) (res : Option (List Nat)) (r : Int32) (h2 : Mem) : Prop := r = bI (res.isSome = true) ∧ ∃ c, h2 = mrow h 60 c ∧ (∀ j, j < a → c j = h 60 j) ∧ (∀ z, res = some z → ∀ j, j < num → c j = nI (z.getD j 0))
theorem sp_found {h h2 : Mem} {a num : Nat} {res res' : Option (List Nat)} {c : Nat → Int32} (e : res = res') (em : h2 = mrow h 60 c) (hc : ∀ j, j < a → c j = h 60 j) (hs : res'.isSome = true) (hz : ∀ z, res' = some z → ∀ j, j < num → c j = nI (z.getD j 0)) : sPost h a num res (nI 1) h2 := by
  subst e
  exact ⟨(bI_t hs).symm, c, em, hc, hz⟩
set_option maxHeartbeats 1000000 in
set_option maxRecDepth 100000 in
theorem c_X2_pickShort_0 (h : Mem) (q p m n d : Nat) (C : XC h q p m n d) (f a b num : Nat) (l : List Nat) (x0 x : Int) (hf : f < 1000) (hl : l.length = a) (hx : x = x0 - ((sumT (h 33) l : Nat) : Int)) (hx1 : x ≤ 100000) (hx2 : -100000 + 99 * ((num - a : Nat) : Int) ≤ x) (hb : b ≤ n) (htr : ∀ j, j < a → h 60 j = nI (l.getD j 0)) (hnum : num ≤ 3) (ha : a + 0 = num) : cI 69 XL yX2_pickShort cX2_pickShort 7 (some .boolean) 3 80 (fun ad => [.ref (ad (58)), .int (nI (f)), .int (nI (a)), .int (nI (num)), .int (nI (b)), .int (zI (x))]) h (sPost h a num (pkG (uin (h 30) (h 34) f) (fun l => decide (x0 - ((sumT (h 33) l : Nat) : Int) = 0)) n 0 b l)) := by
  refine cI_of XLW (by decide +kernel) (fun ad => Nat.le_of_ble_eq_true rfl) ?_
  intro K X Z
  obtain ⟨hq, hp, hm, hq1, hq2, hp1, hp2, hm1, hm2, hn, hn2, hc, hq0, hd, hd1, hd2⟩ := id C
  show G 69 XL 7 K h 0 [(0, .ref (kad K (58))), (1, .int (nI (f))), (2, .int (nI (a))), (3, .int (nI (num))), (4, .int (nI (b))), (5, .int (zI (x)))] []
  refine g_iload_n X dX2_pickShort_0 1 rfl rfl ?_
  refine g_iload_n X dX2_pickShort_1 2 rfl rfl ?_
  refine g_icmp_lt X ((a : Nat) : Int) ((num : Nat) : Int) dX2_pickShort_2 16 (by decide) 5 rfl (nI_toInt (by omega)) (nI_toInt (by omega)) (fun t2 => ?_) (fun f2 => ?_)
  · skip
    exact absurd t2 (by omega)
  · skip
    refine g_iload X dX2_pickShort_5 7 rfl rfl ?_
    refine g_if_ne X x dX2_pickShort_7 14 (by decide) 10 rfl (zI_toInt (by omega)) (fun t7 => ?_) (fun f7 => ?_)
    · skip
      refine g_iconst X dX2_pickShort_14 15 rfl (v := (nI (0))) rfl ?_
      refine g_zret (h := h) (v := (nI (0))) X Z dX2_pickShort_15 (Or.inl rfl) ?_
      have k9 : ¬ decide (x0 - ((sumT (h 33) l : Nat) : Int) = 0) = true := by
        rw [decide_eq_true_iff, ← hx]
        exact t7
      refine ⟨?_, h 60, (mrow_id h 60).symm, fun _ _ => rfl, fun z hz j hj => ?_⟩
      · unfold pkG
        rw [if_neg k9]
        exact (bI_f (by decide)).symm
      · unfold pkG at hz
        rw [if_neg k9] at hz
        cases hz
    · skip
      refine g_iconst X dX2_pickShort_10 11 rfl (v := (nI (1))) rfl ?_
      refine g_goto X dX2_pickShort_11 15 (by decide) ?_
      refine g_zret (h := h) (v := (nI (1))) X Z dX2_pickShort_15 (Or.inr rfl) ?_
      have k9 : decide (x0 - ((sumT (h 33) l : Nat) : Int) = 0) = true := by
        rw [decide_eq_true_iff, ← hx]
        exact f7
      refine ⟨?_, h 60, (mrow_id h 60).symm, fun _ _ => rfl, fun z hz j hj => ?_⟩
      · unfold pkG
        rw [if_pos k9]
        exact (bI_t rfl).symm
      · unfold pkG at hz
        rw [if_pos k9] at hz
        cases hz
        exact htr j (by omega)
set_option maxHeartbeats 1000000 in
set_option maxRecDepth 100000 in
theorem c_X2_pickShort_s (r : Nat) (IH : ∀ (h : Mem) (q p m n d : Nat) (C : XC h q p m n d) (f a b num : Nat) (l : List Nat) (x0 x : Int) (hf : f < 1000) (hl : l.length = a) (hx : x = x0 - ((sumT (h 33) l : Nat) : Int)) (hx1 : x ≤ 100000) (hx2 : -100000 + 99 * ((num - a : Nat) : Int) ≤ x) (hb : b ≤ n) (htr : ∀ j, j < a → h 60 j = nI (l.getD j 0)) (hnum : num ≤ 3) (ha : a + r = num), cI 69 XL yX2_pickShort cX2_pickShort 7 (some .boolean) (3 + r) (80 + 26 * r) (fun ad => [.ref (ad 58), .int (nI f), .int (nI a), .int (nI num), .int (nI b), .int (zI x)]) h (sPost h a num (pkG (uin (h 30) (h 34) f) (fun l => decide (x0 - ((sumT (h 33) l : Nat) : Int) = 0)) n r b l))) (h : Mem) (q p m n d : Nat) (C : XC h q p m n d) (f a b num : Nat) (l : List Nat) (x0 x : Int) (hf : f < 1000) (hl : l.length = a) (hx : x = x0 - ((sumT (h 33) l : Nat) : Int)) (hx1 : x ≤ 100000) (hx2 : -100000 + 99 * ((num - a : Nat) : Int) ≤ x) (hb : b ≤ n) (htr : ∀ j, j < a → h 60 j = nI (l.getD j 0)) (hnum : num ≤ 3) (ha : a + (r + 1) = num) : cI 69 XL yX2_pickShort cX2_pickShort 7 (some .boolean) (3 + (r + 1)) (80 + 26 * (r + 1)) (fun ad => [.ref (ad (58)), .int (nI (f)), .int (nI (a)), .int (nI (num)), .int (nI (b)), .int (zI (x))]) h (sPost h a num (pkG (uin (h 30) (h 34) f) (fun l => decide (x0 - ((sumT (h 33) l : Nat) : Int) = 0)) n (r + 1) b l)) := by
  refine cI_of XLW (by decide +kernel) (fun ad => Nat.le_of_ble_eq_true rfl) ?_
  intro K X Z
  obtain ⟨hq, hp, hm, hq1, hq2, hp1, hp2, hm1, hm2, hn, hn2, hc, hq0, hd, hd1, hd2⟩ := id C
  show G 69 XL 7 K h 0 [(0, .ref (kad K (58))), (1, .int (nI (f))), (2, .int (nI (a))), (3, .int (nI (num))), (4, .int (nI (b))), (5, .int (zI (x)))] []
  refine g_iload_n X dX2_pickShort_0 1 rfl rfl ?_
  refine g_iload_n X dX2_pickShort_1 2 rfl rfl ?_
  refine g_icmp_lt X ((a : Nat) : Int) ((num : Nat) : Int) dX2_pickShort_2 16 (by decide) 5 rfl (nI_toInt (by omega)) (nI_toInt (by omega)) (fun t2 => ?_) (fun f2 => ?_)
  · skip
    refine g_iload X dX2_pickShort_16 18 rfl rfl ?_
    refine g_istore X (lv' := [(0, .ref (kad K (58))), (1, .int (nI (f))), (2, .int (nI (a))), (3, .int (nI (num))), (4, .int (nI (b))), (5, .int (zI (x))), (6, .int (nI (b)))]) dX2_pickShort_18 20 rfl (by decide) rfl rfl ?_
    have lp20 : ∀ (fu : Nat) (k : Nat) (c : Nat → Int32) (hbk : b ≤ k) (hk : k ≤ n) (hcc : ∀ j, j < a → c j = h 60 j) (hgo : tryP (fun k => if (uin (h 30) (h 34) f) k = true then pkG (uin (h 30) (h 34) f) (fun l => decide (x0 - ((sumT (h 33) l : Nat) : Int) = 0)) n r (k + 1) (l ++ [k]) else none) (n - b) b = tryP (fun k => if (uin (h 30) (h 34) f) k = true then pkG (uin (h 30) (h 34) f) (fun l => decide (x0 - ((sumT (h 33) l : Nat) : Int) = 0)) n r (k + 1) (l ++ [k]) else none) (n - k) k), n - k < fu → G 69 XL 7 K (mrow h 60 c) 20 [(0, .ref (kad K (58))), (1, .int (nI (f))), (2, .int (nI (a))), (3, .int (nI (num))), (4, .int (nI (b))), (5, .int (zI (x))), (6, .int (nI (k)))] [] := by
      intro fu
      induction fu with
      | zero => intro k c hbk hk hcc hgo hm; exact absurd hm (Nat.not_lt_zero _)
      | succ fu ih20 =>
        intro k c hbk hk hcc hgo hm20
        refine g_iload X dX2_pickShort_20 22 rfl rfl ?_
        refine g_aload_n X dX2_pickShort_22 23 rfl rfl ?_
        refine g_get (c := 58) (k := 1) (T := TX2) (sk := skX58) (v := .ref (kad K (29))) X wf_X2_22 inX2 dX2_pickShort_23 26 rfl (by decide) rfl rfl (by decide) rfl ?_
        refine g_get (c := 29) (k := 1) (T := TX0) (sk := skX29) (v := .int (nI (n))) X wf_X2_58 inX0 dX2_pickShort_26 29 rfl (by decide) rfl rfl (by decide) (congrArg Value.int (hn)) ?_
        refine g_icmp_ge X ((k : Nat) : Int) ((n : Nat) : Int) dX2_pickShort_29 90 (by decide) 32 rfl (nI_toInt (by omega)) (nI_toInt (by omega)) (fun t29 => ?_) (fun f29 => ?_)
        · skip
          refine g_iconst X dX2_pickShort_90 91 rfl (v := (nI (0))) rfl ?_
          refine g_zret (h := (mrow h 60 c)) (v := (nI (0))) X Z dX2_pickShort_91 (Or.inl rfl) ?_
          refine ⟨?_, c, rfl, hcc, fun z hz => ?_⟩
          · rw [pkG_s, hgo, show n - k = 0 from by omega]
            exact (bI_f (fun z => absurd (show (false : Bool) = true from z) (by decide))).symm
          · rw [pkG_s, hgo, show n - k = 0 from by omega] at hz
            cases hz
        · skip
          refine g_aload_n X dX2_pickShort_32 33 rfl rfl ?_
          refine g_get (c := 58) (k := 1) (T := TX2) (sk := skX58) (v := .ref (kad K (29))) X wf_X2_22 inX2 dX2_pickShort_33 36 rfl (by decide) rfl rfl (by decide) rfl ?_
          refine g_iload X dX2_pickShort_36 38 rfl rfl ?_
          refine g_iload_n X dX2_pickShort_38 39 rfl rfl ?_
          refine g_callVix (st := []) (v := (bI ((uin (h 30) (h 34) f) k = true))) (m2 := (mrow h 60 c)) X cw_X2_78 (c_X0_isUsedIn (mrow h 60 c) q m n f k (by exact hc) hn2 hm2 (by omega) (by omega)) dX2_pickShort_39 42 rfl (by decide) rfl rfl rfl rfl rfl (by omega) (Nat.le_of_ble_eq_true rfl) ?_
          refine g_ifeq_B X dX2_pickShort_42 84 (by decide) 45 rfl (fun t42 => ?_) (fun f42 => ?_)
          · skip
            refine g_iinc X (v := (nI (k + 1))) (lv' := [(0, .ref (kad K (58))), (1, .int (nI (f))), (2, .int (nI (a))), (3, .int (nI (num))), (4, .int (nI (b))), (5, .int (zI (x))), (6, .int (nI (k + 1)))]) dX2_pickShort_84 87 rfl (by decide) rfl (n_inc k 1) rfl rfl ?_
            refine g_goto X dX2_pickShort_87 20 (by decide) ?_
            skip
            exact ih20 (k + 1) c (by omega) (by omega) hcc (by rw [hgo, show n - k = (n - (k + 1)) + 1 from by omega]; exact tryP_none (if_neg t42)) (by omega)
          · skip
            have ht9 := (hc k (by omega)).tu
            refine g_aload_n X dX2_pickShort_45 46 rfl rfl ?_
            refine g_get (c := 58) (k := 5) (T := TX2) (sk := skX58) (v := .ref (kad K (60))) X wf_X2_15 inX2 dX2_pickShort_46 49 rfl (by decide) rfl rfl (by decide) rfl ?_
            refine g_iload_n X dX2_pickShort_49 50 rfl rfl ?_
            refine g_iload X dX2_pickShort_50 52 rfl rfl ?_
            refine g_iast (c := 60) (n := 3) (r := 60) (o := 0) (i := a) X dX2_pickShort_52 53 rfl (by decide) rfl rfl (by omega) ?_
            refine g_aload_n X dX2_pickShort_53 54 rfl rfl ?_
            refine g_iload_n X dX2_pickShort_54 55 rfl rfl ?_
            refine g_iload_n X dX2_pickShort_55 56 rfl rfl ?_
            refine g_iconst X dX2_pickShort_56 57 rfl (v := (nI (1))) rfl ?_
            refine g_iadd X (v := (nI (a + 1))) dX2_pickShort_57 58 rfl (nI_add a 1) ?_
            refine g_iload_n X dX2_pickShort_58 59 rfl rfl ?_
            refine g_iload X dX2_pickShort_59 61 rfl rfl ?_
            refine g_iconst X dX2_pickShort_61 62 rfl (v := (nI (1))) rfl ?_
            refine g_iadd X (v := (nI (k + 1))) dX2_pickShort_62 63 rfl (nI_add k 1) ?_
            refine g_iload X dX2_pickShort_63 65 rfl rfl ?_
            refine g_aload_n X dX2_pickShort_65 66 rfl rfl ?_
            refine g_get (c := 58) (k := 1) (T := TX2) (sk := skX58) (v := .ref (kad K (29))) X wf_X2_22 inX2 dX2_pickShort_66 69 rfl (by decide) rfl rfl (by decide) rfl ?_
            refine g_get (c := 29) (k := 5) (T := TX0) (sk := skX29) (v := .ref (kad K (33))) X wf_X2_82 inX0 dX2_pickShort_69 72 rfl (by decide) rfl rfl (by decide) rfl ?_
            refine g_iload X dX2_pickShort_72 74 rfl rfl ?_
            refine g_iald (c := 33) (n := 24) (r := 33) (o := 0) (i := k) (v := (nI (tn (h 33 k)))) X dX2_pickShort_74 75 rfl (by decide) rfl rfl (by omega) ((hc k (by omega)).tu.1) ?_
            refine g_isub X (v := (zI (x - ((tn (h 33 k) : Nat) : Int)))) dX2_pickShort_75 76 rfl (zn_sub x (tn (h 33 k))) ?_
            refine g_callVi (st := []) X cw_X2_74 (IH (mup (mrow h 60 c) 60 a (nI k)) q p m n d (by exact C) f (a + 1) (k + 1) num (l ++ [k]) x0 (x - ((tn (h 33 k) : Nat) : Int)) hf (by rw [List.length_append, hl]; rfl) (by show _ = x0 - ((sumT (h 33) (l ++ [k]) : Nat) : Int); rw [sumT_app, hx]; omega) (by omega) (by omega) (by omega) (fun j hj => by
                show upd c a (nI k) j = _
                by_cases e : j = a
                · rw [e, upd_s, ← hl, getD_end]
                · rw [upd_n _ _ e, hcc j (by omega), htr j (by omega), getD_app (by omega)]) hnum (by omega)) dX2_pickShort_76 79 rfl (by decide) rfl rfl rfl rfl rfl (by omega) (Nat.le_of_ble_eq_true rfl) ?_
            rintro _ _ ⟨rfl, c3, rfl, hc3, hz3⟩
            have hz3 : ∀ z, (pkG (uin (h 30) (h 34) f) (fun l => decide (x0 - ((sumT (h 33) l : Nat) : Int) = 0)) n r (k + 1) (l ++ [k])) = some z → ∀ j, j < num → c3 j = nI (z.getD j 0) := hz3
            show G 69 XL 7 K (mrow (mup (mrow h 60 c) 60 a (nI k)) 60 c3) 79 [(0, .ref (kad K (58))), (1, .int (nI (f))), (2, .int (nI (a))), (3, .int (nI (num))), (4, .int (nI (b))), (5, .int (zI (x))), (6, .int (nI (k)))] [.int (bI ((pkG (uin (h 30) (h 34) f) (fun l => decide (x0 - ((sumT (h 33) l : Nat) : Int) = 0)) n r (k + 1) (l ++ [k])).isSome = true))]
            refine g_ifeq_B X dX2_pickShort_79 84 (by decide) 82 rfl (fun t79 => ?_) (fun f79 => ?_)
            · skip
              refine g_iinc X (v := (nI (k + 1))) (lv' := [(0, .ref (kad K (58))), (1, .int (nI (f))), (2, .int (nI (a))), (3, .int (nI (num))), (4, .int (nI (b))), (5, .int (zI (x))), (6, .int (nI (k + 1)))]) dX2_pickShort_84 87 rfl (by decide) rfl (n_inc k 1) rfl rfl ?_
              refine g_goto X dX2_pickShort_87 20 (by decide) ?_
              skip
              refine g_mem (h := (mrow (mup (mrow h 60 c) 60 a (nI k)) 60 c3)) (h' := (mrow h 60 c3)) (by unfold mup; rw [mrow_m, mrow_m]) ?_
              exact ih20 (k + 1) c3 (by omega) (by omega) (fun j hj => (hc3 j (by omega)).trans ((upd_n _ _ (by omega)).trans (hcc j hj))) (by rw [hgo, show n - k = (n - (k + 1)) + 1 from by omega]; refine tryP_none ((if_pos f42).trans ?_); cases hr9 : (pkG (uin (h 30) (h 34) f) (fun l => decide (x0 - ((sumT (h 33) l : Nat) : Int) = 0)) n r (k + 1) (l ++ [k])) with
                      | none => rfl
                      | some z => rw [hr9] at t79; exact absurd rfl t79) (by omega)
            · skip
              refine g_iconst X dX2_pickShort_82 83 rfl (v := (nI (1))) rfl ?_
              refine g_zret (h := (mrow (mup (mrow h 60 c) 60 a (nI k)) 60 c3)) (v := (nI (1))) X Z dX2_pickShort_83 (Or.inr rfl) ?_
              refine sp_found (c := c3) ?_ (by unfold mup; rw [mrow_m, mrow_m]) (fun j hj => (hc3 j (by omega)).trans ((upd_n _ _ (by omega)).trans (hcc j hj))) f79 hz3
              rw [pkG_s, hgo, show n - k = (n - (k + 1)) + 1 from by omega]
              cases hr9 : (pkG (uin (h 30) (h 34) f) (fun l => decide (x0 - ((sumT (h 33) l : Nat) : Int) = 0)) n r (k + 1) (l ++ [k])) with
              | none => rw [hr9] at f79; exact absurd f79 (by decide)
              | some z => exact tryP_some (F := (fun k => if (uin (h 30) (h 34) f) k = true then pkG (uin (h 30) (h 34) f) (fun l => decide (x0 - ((sumT (h 33) l : Nat) : Int) = 0)) n r (k + 1) (l ++ [k]) else none)) ((if_pos f42).trans hr9)
    skip
    refine g_mem (h := h) (h' := (mrow h 60 (h 60))) ((mrow_id h 60).symm) ?_
    exact lp20 _ b (h 60) (Nat.le_refl _) hb (fun _ _ => rfl) (by rfl) (Nat.lt_succ_self _)
  · skip
    exact absurd f2 (by omega)
theorem c_X2_pickShort : ∀ (r : Nat) (h : Mem) (q p m n d : Nat) (C : XC h q p m n d) (f a b num : Nat) (l : List Nat) (x0 x : Int) (hf : f < 1000) (hl : l.length = a) (hx : x = x0 - ((sumT (h 33) l : Nat) : Int)) (hx1 : x ≤ 100000) (hx2 : -100000 + 99 * ((num - a : Nat) : Int) ≤ x) (hb : b ≤ n) (htr : ∀ j, j < a → h 60 j = nI (l.getD j 0)) (hnum : num ≤ 3) (ha : a + r = num), cI 69 XL yX2_pickShort cX2_pickShort 7 (some .boolean) (3 + r) (80 + 26 * r) (fun ad => [.ref (ad 58), .int (nI f), .int (nI a), .int (nI num), .int (nI b), .int (zI x)]) h (sPost h a num (pkG (uin (h 30) (h 34) f) (fun l => decide (x0 - ((sumT (h 33) l : Nat) : Int) = 0)) n r b l))
  | 0 => fun h q p m n d C f a b num l x0 x hf hl hx hx1 hx2 hb htr hnum ha => c_X2_pickShort_0 h q p m n d C f a b num l x0 x hf hl hx hx1 hx2 hb htr hnum ha
  | r + 1 => c_X2_pickShort_s r (c_X2_pickShort r)
set_option maxHeartbeats 1000000 in
set_option maxRecDepth 100000 in
theorem c_X2_fewestShort (h : Mem) (q p m n d : Nat) (C : XC h q p m n d) (f rd : Nat) (hf : f < 1000) (hrd : rd ≤ 9999) : cI 69 XL yX2_fewestShort cX2_fewestShort 5 (some .int) 8 224 (fun ad => [.ref (ad (58)), .int (nI (f)), .int (nI (rd))]) h (fun r h2 => r = pkV (tryP (fun j => pkG (uin (h 30) (h 34) f) (fun l => decide ((((tuS (uin (h 30) (h 34) f) (h 33) n : Nat) : Int) - ((rd : Nat) : Int)) - ((sumT (h 33) l : Nat) : Int) = 0)) n j 0 []) 4 0) ∧ h2 58 3 = pkN (h 58 3) (tryP (fun j => pkG (uin (h 30) (h 34) f) (fun l => decide ((((tuS (uin (h 30) (h 34) f) (h 33) n : Nat) : Int) - ((rd : Nat) : Int)) - ((sumT (h 33) l : Nat) : Int) = 0)) n j 0 []) 4 0) ∧ pkQ (h 59) (h2 59) (tryP (fun j => pkG (uin (h 30) (h 34) f) (fun l => decide ((((tuS (uin (h 30) (h 34) f) (h 33) n : Nat) : Int) - ((rd : Nat) : Int)) - ((sumT (h 33) l : Nat) : Int) = 0)) n j 0 []) 4 0) ∧ agr h h2 [58, 59, 60]) := by
  refine cI_of XLW (by decide +kernel) (fun ad => Nat.le_of_ble_eq_true rfl) ?_
  intro K X Z
  obtain ⟨hq, hp, hm, hq1, hq2, hp1, hp2, hm1, hm2, hn, hn2, hc, hq0, hd, hd1, hd2⟩ := id C
  have htl := tuS_le (P := (uin (h 30) (h 34) f)) (tu := h 33) n (fun j hj => (hc j hj).tu.2.2)
  show G 69 XL 5 K h 0 [(0, .ref (kad K (58))), (1, .int (nI (f))), (2, .int (nI (rd)))] []
  refine g_aload_n X dX2_fewestShort_0 1 rfl rfl ?_
  refine g_iload_n X dX2_fewestShort_1 2 rfl rfl ?_
  refine g_callVix (st := []) (v := (nI (tuS (uin (h 30) (h 34) f) (h 33) n))) (m2 := h) X cw_X2_71 (c_X2_turnsOf h q p m n d C f hf) dX2_fewestShort_2 5 rfl (by decide) rfl rfl rfl rfl rfl (by omega) (Nat.le_of_ble_eq_true rfl) ?_
  refine g_iload_n X dX2_fewestShort_5 6 rfl rfl ?_
  refine g_isub X (v := (zI (((tuS (uin (h 30) (h 34) f) (h 33) n : Nat) : Int) - ((rd : Nat) : Int)))) dX2_fewestShort_6 7 rfl (nn_sub (tuS (uin (h 30) (h 34) f) (h 33) n) rd) ?_
  refine g_istore_n X (lv' := [(0, .ref (kad K (58))), (1, .int (nI (f))), (2, .int (nI (rd))), (3, .int (zI (((tuS (uin (h 30) (h 34) f) (h 33) n : Nat) : Int) - ((rd : Nat) : Int))))]) dX2_fewestShort_7 8 rfl (by decide) rfl rfl ?_
  refine g_iconst X dX2_fewestShort_8 9 rfl (v := (nI (0))) rfl ?_
  refine g_istore X (lv' := [(0, .ref (kad K (58))), (1, .int (nI (f))), (2, .int (nI (rd))), (3, .int (zI (((tuS (uin (h 30) (h 34) f) (h 33) n : Nat) : Int) - ((rd : Nat) : Int)))), (4, .int (nI 0))]) dX2_fewestShort_9 11 rfl (by decide) rfl rfl ?_
  have lp11 : ∀ (fu : Nat) (k : Nat) (c : Nat → Int32) (hk : k ≤ 4) (hgo : tryP (fun j => pkG (uin (h 30) (h 34) f) (fun l => decide ((((tuS (uin (h 30) (h 34) f) (h 33) n : Nat) : Int) - ((rd : Nat) : Int)) - ((sumT (h 33) l : Nat) : Int) = 0)) n j 0 []) 4 0 = tryP (fun j => pkG (uin (h 30) (h 34) f) (fun l => decide ((((tuS (uin (h 30) (h 34) f) (h 33) n : Nat) : Int) - ((rd : Nat) : Int)) - ((sumT (h 33) l : Nat) : Int) = 0)) n j 0 []) (4 - k) k), 4 - k < fu → G 69 XL 5 K (mrow h 60 c) 11 [(0, .ref (kad K (58))), (1, .int (nI (f))), (2, .int (nI (rd))), (3, .int (zI (((tuS (uin (h 30) (h 34) f) (h 33) n : Nat) : Int) - ((rd : Nat) : Int)))), (4, .int (nI (k)))] [] := by
    intro fu
    induction fu with
    | zero => intro k c hk hgo hm; exact absurd hm (Nat.not_lt_zero _)
    | succ fu ih11 =>
      intro k c hk hgo hm11
      refine g_iload X dX2_fewestShort_11 13 rfl rfl ?_
      refine g_iconst X dX2_fewestShort_13 14 rfl (v := (nI (3))) rfl ?_
      refine g_icmp_gt X ((k : Nat) : Int) 3 dX2_fewestShort_14 43 (by decide) 17 rfl (nI_toInt (by omega)) rfl (fun t14 => ?_) (fun f14 => ?_)
      · skip
        refine g_bipush X dX2_fewestShort_43 45 rfl (v := (zI (-4))) rfl ?_
        refine g_iret (h := (mrow h 60 c)) (v := (zI (-4))) X Z dX2_fewestShort_45 ?_
        have hres : tryP (fun j => pkG (uin (h 30) (h 34) f) (fun l => decide ((((tuS (uin (h 30) (h 34) f) (h 33) n : Nat) : Int) - ((rd : Nat) : Int)) - ((sumT (h 33) l : Nat) : Int) = 0)) n j 0 []) 4 0 = none := by rw [hgo, show 4 - k = 0 from by omega]; rfl
        rw [hres]
        exact ⟨rfl, rfl, rfl, fun c hc9 => by simp only [List.mem_cons, List.not_mem_nil, or_false, not_or] at hc9; simp [mcpy, mrow, mup, hc9]⟩
      · skip
        refine g_aload_n X dX2_fewestShort_17 18 rfl rfl ?_
        refine g_iload_n X dX2_fewestShort_18 19 rfl rfl ?_
        refine g_iconst X dX2_fewestShort_19 20 rfl (v := (nI (0))) rfl ?_
        refine g_iload X dX2_fewestShort_20 22 rfl rfl ?_
        refine g_iconst X dX2_fewestShort_22 23 rfl (v := (nI (0))) rfl ?_
        refine g_iload_n X dX2_fewestShort_23 24 rfl rfl ?_
        refine g_callVi (st := []) X cw_X2_74 (c_X2_pickShort k (mrow h 60 c) q p m n d (by exact C) f 0 0 k [] (((tuS (uin (h 30) (h 34) f) (h 33) n : Nat) : Int) - ((rd : Nat) : Int)) (((tuS (uin (h 30) (h 34) f) (h 33) n : Nat) : Int) - ((rd : Nat) : Int)) hf rfl (by show _ = _ - ((0 : Nat) : Int); omega) (by omega) (by omega) (Nat.zero_le _) (fun j hj => absurd hj (Nat.not_lt_zero _)) (by omega) (by omega)) dX2_fewestShort_24 27 rfl (by decide) rfl rfl rfl rfl rfl (by omega) (Nat.le_of_ble_eq_true rfl) ?_
        rintro _ _ ⟨rfl, c9, rfl, -, hz9⟩
        have hz9 : ∀ z, (fun j => pkG (uin (h 30) (h 34) f) (fun l => decide ((((tuS (uin (h 30) (h 34) f) (h 33) n : Nat) : Int) - ((rd : Nat) : Int)) - ((sumT (h 33) l : Nat) : Int) = 0)) n j 0 []) k = some z → ∀ j, j < k → c9 j = nI (z.getD j 0) := hz9
        show G 69 XL 5 K (mrow (mrow h 60 c) 60 c9) 27 [(0, .ref (kad K (58))), (1, .int (nI (f))), (2, .int (nI (rd))), (3, .int (zI (((tuS (uin (h 30) (h 34) f) (h 33) n : Nat) : Int) - ((rd : Nat) : Int)))), (4, .int (nI (k)))] [.int (bI (((fun j => pkG (uin (h 30) (h 34) f) (fun l => decide ((((tuS (uin (h 30) (h 34) f) (h 33) n : Nat) : Int) - ((rd : Nat) : Int)) - ((sumT (h 33) l : Nat) : Int) = 0)) n j 0 []) k).isSome = true))]
        refine g_ifeq_B X dX2_fewestShort_27 37 (by decide) 30 rfl (fun t27 => ?_) (fun f27 => ?_)
        · skip
          refine g_iinc X (v := (nI (k + 1))) (lv' := [(0, .ref (kad K (58))), (1, .int (nI (f))), (2, .int (nI (rd))), (3, .int (zI (((tuS (uin (h 30) (h 34) f) (h 33) n : Nat) : Int) - ((rd : Nat) : Int)))), (4, .int (nI (k + 1)))]) dX2_fewestShort_37 40 rfl (by decide) rfl (n_inc k 1) rfl rfl ?_
          refine g_goto X dX2_fewestShort_40 11 (by decide) ?_
          skip
          refine g_mem (h := (mrow (mrow h 60 c) 60 c9)) (h' := (mrow h 60 c9)) (by rw [mrow_m]) ?_
          exact ih11 (k + 1) c9 (by omega) (by rw [hgo, show 4 - k = (4 - (k + 1)) + 1 from by omega]; refine tryP_none ?_; cases hr9 : (fun j => pkG (uin (h 30) (h 34) f) (fun l => decide ((((tuS (uin (h 30) (h 34) f) (h 33) n : Nat) : Int) - ((rd : Nat) : Int)) - ((sumT (h 33) l : Nat) : Int) = 0)) n j 0 []) k with
                | none => exact hr9
                | some z => rw [hr9] at t27; exact absurd rfl t27) (by omega)
        · skip
          refine g_aload_n X dX2_fewestShort_30 31 rfl rfl ?_
          refine g_iload X dX2_fewestShort_31 33 rfl rfl ?_
          refine g_callVix (st := []) (v := (nI (k))) (m2 := (mup (mcpy (mrow (mrow h 60 c) 60 c9) 59 (0 + 0) 60 (0 + 0) k) 58 3 (nI k))) X cw_X2_46 (c_X2_keep (mrow (mrow h 60 c) 60 c9) k (by omega)) dX2_fewestShort_33 36 rfl (by decide) rfl rfl rfl rfl rfl (by omega) (Nat.le_of_ble_eq_true rfl) ?_
          refine g_iret (h := (mup (mcpy (mrow (mrow h 60 c) 60 c9) 59 (0 + 0) 60 (0 + 0) k) 58 3 (nI k))) (v := (nI (k))) X Z dX2_fewestShort_36 ?_
          cases hr9 : (fun j => pkG (uin (h 30) (h 34) f) (fun l => decide ((((tuS (uin (h 30) (h 34) f) (h 33) n : Nat) : Int) - ((rd : Nat) : Int)) - ((sumT (h 33) l : Nat) : Int) = 0)) n j 0 []) k with
          | none => rw [hr9] at f27; exact absurd f27 (by decide)
          | some z =>
            have hln : z.length = k := by have := pkG_len _ _ _ _ hr9; simpa using this
            have hres : tryP (fun j => pkG (uin (h 30) (h 34) f) (fun l => decide ((((tuS (uin (h 30) (h 34) f) (h 33) n : Nat) : Int) - ((rd : Nat) : Int)) - ((sumT (h 33) l : Nat) : Int) = 0)) n j 0 []) 4 0 = some z := by rw [hgo, show 4 - k = (4 - (k + 1)) + 1 from by omega]; exact tryP_some hr9
            rw [hres]
            refine ⟨by rw [← hln]; rfl, by rw [← hln]; rfl, fun j hj => ?_, fun c hc9 => by simp only [List.mem_cons, List.not_mem_nil, or_false, not_or] at hc9; simp [mcpy, mrow, mup, hc9]⟩
            show (if 0 + 0 ≤ j ∧ j < 0 + 0 + k then _ else _) = _
            rw [if_pos (by omega)]
            exact hz9 z hr9 j (by omega)
  skip
  refine g_mem (h := h) (h' := (mrow h 60 (h 60))) ((mrow_id h 60).symm) ?_
  exact lp11 _ 0 (h 60) (by omega) (by rfl) (Nat.lt_succ_self _)
set_option maxHeartbeats 1000000 in
set_option maxRecDepth 100000 in
theorem c_X4_hasPlace (h : Mem) (x y : Int32) : cI 69 XL yX4_hasPlace cX4_hasPlace 3 (some .boolean) 1 22 (fun ad => [.ref (ad (61)), .int (x), .int (y)]) h (fun r h2 => r = bI ((0 ≤ x.toInt ∧ x.toInt ≤ 3) ∧ (0 ≤ y.toInt ∧ y.toInt ≤ 2)) ∧ h2 = h) := by
  refine cI_of XLW (by decide +kernel) (fun ad => Nat.le_of_ble_eq_true rfl) ?_
  intro K X Z
  show G 69 XL 3 K h 0 [(0, .ref (kad K (61))), (1, .int (x)), (2, .int (y))] []
  refine g_iload_n X dX4_hasPlace_0 1 rfl rfl ?_
  refine g_iconst X dX4_hasPlace_1 2 rfl (v := (nI (0))) rfl ?_
  refine g_iconst X dX4_hasPlace_2 3 rfl (v := (nI (3))) rfl ?_
  refine g_callSNix (st := []) (v := (bI (0 ≤ (x).toInt ∧ (x).toInt ≤ 3))) (m2 := h) X cw_X4_23 (c_X8_isWithin h (x) (nI (0)) (nI (3)) ((x).toInt) 0 3 rfl rfl rfl) dX4_hasPlace_3 6 rfl rfl rfl rfl (by decide) (Nat.le_of_ble_eq_true rfl) ?_
  refine g_ifeq_B X dX4_hasPlace_6 22 (by decide) 9 rfl (fun t6 => ?_) (fun f6 => ?_)
  · skip
    refine g_iconst X dX4_hasPlace_22 23 rfl (v := (nI (0))) rfl ?_
    refine g_zret (h := h) (v := (nI (0))) X Z dX4_hasPlace_23 (Or.inl rfl) ?_
    exact ⟨(bI_f (fun z => t6 z.1)).symm, rfl⟩
  · skip
    refine g_iload_n X dX4_hasPlace_9 10 rfl rfl ?_
    refine g_iconst X dX4_hasPlace_10 11 rfl (v := (nI (0))) rfl ?_
    refine g_iconst X dX4_hasPlace_11 12 rfl (v := (nI (2))) rfl ?_
    refine g_callSNix (st := []) (v := (bI (0 ≤ (y).toInt ∧ (y).toInt ≤ 2))) (m2 := h) X cw_X4_23 (c_X8_isWithin h (y) (nI (0)) (nI (2)) ((y).toInt) 0 2 rfl rfl rfl) dX4_hasPlace_12 15 rfl rfl rfl rfl (by decide) (Nat.le_of_ble_eq_true rfl) ?_
    refine g_ifeq_B X dX4_hasPlace_15 22 (by decide) 18 rfl (fun t15 => ?_) (fun f15 => ?_)
    · skip
      refine g_iconst X dX4_hasPlace_22 23 rfl (v := (nI (0))) rfl ?_
      refine g_zret (h := h) (v := (nI (0))) X Z dX4_hasPlace_23 (Or.inl rfl) ?_
      exact ⟨(bI_f (fun z => t15 z.2)).symm, rfl⟩
    · skip
      refine g_iconst X dX4_hasPlace_18 19 rfl (v := (nI (1))) rfl ?_
      refine g_goto X dX4_hasPlace_19 23 (by decide) ?_
      refine g_zret (h := h) (v := (nI (1))) X Z dX4_hasPlace_23 (Or.inr rfl) ?_
      exact ⟨(bI_t ⟨f6, f15⟩).symm, rfl⟩
set_option maxHeartbeats 1000000 in
set_option maxRecDepth 100000 in
theorem c_X4_isMissing (h : Mem) (s : Nat) (hs : s < 4) : cI 69 XL yX4_isMissing cX4_isMissing 2 (some .boolean) 0 0 (fun ad => [.ref (ad (61)), .int (nI (s))]) h (fun r h2 => r = bI ((h 62 s).toInt = -1) ∧ h2 = h) := by
  refine cI_of XLW (by decide +kernel) (fun ad => Nat.le_of_ble_eq_true rfl) ?_
  intro K X Z
  show G 69 XL 2 K h 0 [(0, .ref (kad K (61))), (1, .int (nI (s)))] []
  refine g_aload_n X dX4_isMissing_0 1 rfl rfl ?_
  refine g_get (c := 61) (k := 0) (T := TX4) (sk := skX61) (v := .ref (kad K (62))) X wf_X4_11 inX4 dX4_isMissing_1 4 rfl (by decide) rfl rfl (by decide) rfl ?_
  refine g_iload_n X dX4_isMissing_4 5 rfl rfl ?_
  refine g_iald (c := 62) (n := 4) (r := 62) (o := 0) (i := s) (v := (h 62 s)) X dX4_isMissing_5 6 rfl (by decide) rfl rfl (by omega) rfl ?_
  refine g_iconst X dX4_isMissing_6 7 rfl (v := (zI (-1))) rfl ?_
  refine g_icmp_ne X ((h 62 s).toInt) (-1) dX4_isMissing_7 14 (by decide) 10 rfl rfl rfl (fun t7 => ?_) (fun f7 => ?_)
  · skip
    refine g_iconst X dX4_isMissing_14 15 rfl (v := (nI (0))) rfl ?_
    refine g_zret (h := h) (v := (nI (0))) X Z dX4_isMissing_15 (Or.inl rfl) ?_
    exact ⟨(bI_f t7).symm, rfl⟩
  · skip
    refine g_iconst X dX4_isMissing_10 11 rfl (v := (nI (1))) rfl ?_
    refine g_goto X dX4_isMissing_11 15 (by decide) ?_
    refine g_zret (h := h) (v := (nI (1))) X Z dX4_isMissing_15 (Or.inr rfl) ?_
    exact ⟨(bI_t f7).symm, rfl⟩
def refV (ls : Int32) (z : Nat) (y i : Int32) (n : Nat) : Int32 := if ls.toInt = -1 then zI (-11) else if ¬ ls.toInt = y.toInt then zI (-12) else if 0 ≤ i.toInt ∧ i.toInt ≤ (z : Int) - n then nI 0 else zI (-13)
set_option maxHeartbeats 1000000 in
set_option maxRecDepth 100000 in
theorem c_X4_refusalOf (h : Mem) (s z n : Nat) (y i : Int32) (hs : s < 4) (hz : h 63 s = nI z) (hz2 : z ≤ 96) (hn : n ≤ 96) : cI 69 XL yX4_refusalOf cX4_refusalOf 5 (some .int) 1 22 (fun ad => [.ref (ad (61)), .int (nI (s)), .int (y), .int (i), .int (nI (n))]) h (fun r h2 => r = refV (h 62 s) z y i n ∧ h2 = h) := by
  refine cI_of XLW (by decide +kernel) (fun ad => Nat.le_of_ble_eq_true rfl) ?_
  intro K X Z
  show G 69 XL 5 K h 0 [(0, .ref (kad K (61))), (1, .int (nI (s))), (2, .int (y)), (3, .int (i)), (4, .int (nI (n)))] []
  refine g_aload_n X dX4_refusalOf_0 1 rfl rfl ?_
  refine g_iload_n X dX4_refusalOf_1 2 rfl rfl ?_
  refine g_callVix (st := []) (v := (bI ((h 62 s).toInt = -1))) (m2 := h) X cw_X4_27 (c_X4_isMissing h s (by omega)) dX4_refusalOf_2 5 rfl (by decide) rfl rfl rfl rfl rfl (by decide) (Nat.le_of_ble_eq_true rfl) ?_
  refine g_ifeq_B X dX4_refusalOf_5 11 (by decide) 8 rfl (fun t5 => ?_) (fun f5 => ?_)
  · skip
    refine g_aload_n X dX4_refusalOf_11 12 rfl rfl ?_
    refine g_get (c := 61) (k := 0) (T := TX4) (sk := skX61) (v := .ref (kad K (62))) X wf_X4_11 inX4 dX4_refusalOf_12 15 rfl (by decide) rfl rfl (by decide) rfl ?_
    refine g_iload_n X dX4_refusalOf_15 16 rfl rfl ?_
    refine g_iald (c := 62) (n := 4) (r := 62) (o := 0) (i := s) (v := (h 62 s)) X dX4_refusalOf_16 17 rfl (by decide) rfl rfl (by omega) rfl ?_
    refine g_iload_n X dX4_refusalOf_17 18 rfl rfl ?_
    refine g_icmp_eq X ((h 62 s).toInt) ((y).toInt) dX4_refusalOf_18 24 (by decide) 21 rfl rfl rfl (fun t18 => ?_) (fun f18 => ?_)
    · skip
      refine g_iload_n X dX4_refusalOf_24 25 rfl rfl ?_
      refine g_iconst X dX4_refusalOf_25 26 rfl (v := (nI (0))) rfl ?_
      refine g_aload_n X dX4_refusalOf_26 27 rfl rfl ?_
      refine g_get (c := 61) (k := 1) (T := TX4) (sk := skX61) (v := .ref (kad K (63))) X wf_X4_15 inX4 dX4_refusalOf_27 30 rfl (by decide) rfl rfl (by decide) rfl ?_
      refine g_iload_n X dX4_refusalOf_30 31 rfl rfl ?_
      refine g_iald (c := 63) (n := 4) (r := 63) (o := 0) (i := s) (v := (nI (z))) X dX4_refusalOf_31 32 rfl (by decide) rfl rfl (by omega) hz ?_
      refine g_iload X dX4_refusalOf_32 34 rfl rfl ?_
      refine g_isub X (v := (zI (((z : Nat) : Int) - ((n : Nat) : Int)))) dX4_refusalOf_34 35 rfl (nn_sub z n) ?_
      refine g_callSNix (st := []) (v := (bI (0 ≤ (i).toInt ∧ (i).toInt ≤ ((z : Nat) : Int) - ((n : Nat) : Int)))) (m2 := h) X cw_X4_23 (c_X8_isWithin h (i) (nI (0)) (zI (((z : Nat) : Int) - ((n : Nat) : Int))) ((i).toInt) 0 (((z : Nat) : Int) - ((n : Nat) : Int)) rfl rfl (zI_toInt (by omega))) dX4_refusalOf_35 38 rfl rfl rfl rfl (by decide) (Nat.le_of_ble_eq_true rfl) ?_
      refine g_ifeq_B X dX4_refusalOf_38 45 (by decide) 41 rfl (fun t38 => ?_) (fun f38 => ?_)
      · skip
        refine g_bipush X dX4_refusalOf_45 47 rfl (v := (zI (-13))) rfl ?_
        refine g_iret (h := h) (v := (zI (-13))) X Z dX4_refusalOf_47 ?_
        exact ⟨((if_neg t5).trans ((if_neg (fun z => z t18)).trans (if_neg t38))).symm, rfl⟩
      · skip
        refine g_iconst X dX4_refusalOf_41 42 rfl (v := (nI (0))) rfl ?_
        refine g_goto X dX4_refusalOf_42 47 (by decide) ?_
        refine g_iret (h := h) (v := (nI (0))) X Z dX4_refusalOf_47 ?_
        exact ⟨((if_neg t5).trans ((if_neg (fun z => z t18)).trans (if_pos f38))).symm, rfl⟩
    · skip
      refine g_bipush X dX4_refusalOf_21 23 rfl (v := (zI (-12))) rfl ?_
      refine g_iret (h := h) (v := (zI (-12))) X Z dX4_refusalOf_23 ?_
      exact ⟨((if_neg t5).trans (if_pos f18)).symm, rfl⟩
  · skip
    refine g_bipush X dX4_refusalOf_8 10 rfl (v := (zI (-11))) rfl ?_
    refine g_iret (h := h) (v := (zI (-11))) X Z dX4_refusalOf_10 ?_
    exact ⟨(if_pos f5).symm, rfl⟩
set_option maxHeartbeats 1000000 in
set_option maxRecDepth 100000 in
theorem c_X4_renew (h : Mem) (s n : Nat) (y : Int32) (hs : s < 4) : cV 69 XL yX4_renew cX4_renew 5 0 0 (fun ad => [.ref (ad (61)), .int (nI (s)), .int (y), .int (nI (n))]) h (fun h2 => h2 = mrow (mup (mup h 62 s y) 63 s (nI n)) 65 (gput (h 65) (96 * s) 96 zF)) := by
  refine cV_of XLW (by decide +kernel) (fun ad => Nat.le_of_ble_eq_true rfl) ?_
  intro K X Z
  show G 69 XL 5 K h 0 [(0, .ref (kad K (61))), (1, .int (nI (s))), (2, .int (y)), (3, .int (nI (n)))] []
  refine g_aload_n X dX4_renew_0 1 rfl rfl ?_
  refine g_get (c := 61) (k := 0) (T := TX4) (sk := skX61) (v := .ref (kad K (62))) X wf_X4_11 inX4 dX4_renew_1 4 rfl (by decide) rfl rfl (by decide) rfl ?_
  refine g_iload_n X dX4_renew_4 5 rfl rfl ?_
  refine g_iload_n X dX4_renew_5 6 rfl rfl ?_
  refine g_iast (c := 62) (n := 4) (r := 62) (o := 0) (i := s) X dX4_renew_6 7 rfl (by decide) rfl rfl (by omega) ?_
  refine g_aload_n X dX4_renew_7 8 rfl rfl ?_
  refine g_get (c := 61) (k := 1) (T := TX4) (sk := skX61) (v := .ref (kad K (63))) X wf_X4_15 inX4 dX4_renew_8 11 rfl (by decide) rfl rfl (by decide) rfl ?_
  refine g_iload_n X dX4_renew_11 12 rfl rfl ?_
  refine g_iload_n X dX4_renew_12 13 rfl rfl ?_
  refine g_iast (c := 63) (n := 4) (r := 63) (o := 0) (i := s) X dX4_renew_13 14 rfl (by decide) rfl rfl (by omega) ?_
  refine g_iconst X dX4_renew_14 15 rfl (v := (nI (0))) rfl ?_
  refine g_istore X (lv' := [(0, .ref (kad K (61))), (1, .int (nI (s))), (2, .int (y)), (3, .int (nI (n))), (4, .int (nI 0))]) dX4_renew_15 17 rfl (by decide) rfl rfl ?_
  have lp17 : ∀ (fu : Nat) (k : Nat) (hk : k ≤ 96), 96 - k < fu → G 69 XL 5 K (mrow (mup (mup h 62 s (y)) 63 s (nI (n))) 65 (gput (h 65) (96 * s) 96 (zrK (grd (h 65) (96 * s)) k))) 17 [(0, .ref (kad K (61))), (1, .int (nI (s))), (2, .int (y)), (3, .int (nI (n))), (4, .int (nI (k)))] [] := by
    intro fu
    induction fu with
    | zero => intro k hk hm; exact absurd hm (Nat.not_lt_zero _)
    | succ fu ih17 =>
      intro k hk hm17
      refine g_iload X dX4_renew_17 19 rfl rfl ?_
      refine g_bipush X dX4_renew_19 21 rfl (v := (nI (96))) rfl ?_
      refine g_icmp_ge X ((k : Nat) : Int) 96 dX4_renew_21 40 (by decide) 24 rfl (nI_toInt (by omega)) rfl (fun t21 => ?_) (fun f21 => ?_)
      · skip
        refine g_vret (h := (mrow (mup (mup h 62 s (y)) 63 s (nI (n))) 65 (gput (h 65) (96 * s) 96 (zrK (grd (h 65) (96 * s)) k)))) X Z dX4_renew_40 ?_
        exact congrArg (mrow (mup (mup h 62 s y) 63 s (nI n)) 65) (gput_congr (fun i hi => if_pos (by omega)))
      · skip
        refine g_aload_n X dX4_renew_24 25 rfl rfl ?_
        refine g_get (c := 61) (k := 2) (T := TX4) (sk := skX61) (v := .ref (kad K (64))) X wf_X4_20 inX4 dX4_renew_25 28 rfl (by decide) rfl rfl (by decide) rfl ?_
        refine g_iload_n X dX4_renew_28 29 rfl rfl ?_
        refine g_aald (c := 64) (n := 4) (b := 65) (o := 0) (i := s) X dX4_renew_29 30 rfl (by decide) rfl rfl (by omega) ?_
        refine g_iload X dX4_renew_30 32 rfl rfl ?_
        refine g_iconst X dX4_renew_32 33 rfl (v := (nI (0))) rfl ?_
        refine g_iast (c := (65 + s)) (n := 96) (r := 65) (o := 96 * s) (i := k) X dX4_renew_33 34 rfl (by omega) (XL_65 (by omega)) rfl (by omega) ?_
        refine g_iinc X (v := (nI (k + 1))) (lv' := [(0, .ref (kad K (61))), (1, .int (nI (s))), (2, .int (y)), (3, .int (nI (n))), (4, .int (nI (k + 1)))]) dX4_renew_34 37 rfl (by decide) rfl (n_inc k 1) rfl rfl ?_
        refine g_goto X dX4_renew_37 17 (by decide) ?_
        skip
        refine g_mem (h := (mup (mrow (mup (mup h 62 s (y)) 63 s (nI (n))) 65 (gput (h 65) (96 * s) 96 (zrK (grd (h 65) (96 * s)) k))) 65 (k + 96 * s) (nI (0)))) (h' := (mrow (mup (mup h 62 s (y)) 63 s (nI (n))) 65 (gput (h 65) (96 * s) 96 (zrK (grd (h 65) (96 * s)) (k + 1))))) (gput_up (h := mup (mup h 62 s y) 63 s (nI n)) (by omega) (fun i0 _ => congrFun (zrK_s (grd (h 65) (96 * s)) k) i0)) ?_
        exact ih17 (k + 1) (by omega) (by omega)
  skip
  refine g_mem (h := (mup (mup h 62 s (y)) 63 s (nI (n)))) (h' := (mrow (mup (mup h 62 s (y)) 63 s (nI (n))) 65 (gput (h 65) (96 * s) 96 (zrK (grd (h 65) (96 * s)) 0)))) (by rw [zrK_0]; exact (gput_row (mup (mup h 62 s y) 63 s (nI n)) 65 (96 * s) 96).symm) ?_
  exact lp17 _ 0 (by omega) (Nat.lt_succ_self _)
set_option maxHeartbeats 1000000 in
set_option maxRecDepth 100000 in
theorem c_X4_empty (h : Mem) (s : Nat) (hs : s < 4) : cI 69 XL yX4_empty cX4_empty 2 (some .int) 0 0 (fun ad => [.ref (ad (61)), .int (nI (s))]) h (fun r h2 => r = h 63 s ∧ h2 = mup h 62 s (zI (-1))) := by
  refine cI_of XLW (by decide +kernel) (fun ad => Nat.le_of_ble_eq_true rfl) ?_
  intro K X Z
  show G 69 XL 2 K h 0 [(0, .ref (kad K (61))), (1, .int (nI (s)))] []
  refine g_aload_n X dX4_empty_0 1 rfl rfl ?_
  refine g_get (c := 61) (k := 0) (T := TX4) (sk := skX61) (v := .ref (kad K (62))) X wf_X4_11 inX4 dX4_empty_1 4 rfl (by decide) rfl rfl (by decide) rfl ?_
  refine g_iload_n X dX4_empty_4 5 rfl rfl ?_
  refine g_iconst X dX4_empty_5 6 rfl (v := (zI (-1))) rfl ?_
  refine g_iast (c := 62) (n := 4) (r := 62) (o := 0) (i := s) X dX4_empty_6 7 rfl (by decide) rfl rfl (by omega) ?_
  refine g_aload_n X dX4_empty_7 8 rfl rfl ?_
  refine g_get (c := 61) (k := 1) (T := TX4) (sk := skX61) (v := .ref (kad K (63))) X wf_X4_15 inX4 dX4_empty_8 11 rfl (by decide) rfl rfl (by decide) rfl ?_
  refine g_iload_n X dX4_empty_11 12 rfl rfl ?_
  refine g_iald (c := 63) (n := 4) (r := 63) (o := 0) (i := s) (v := (h 63 s)) X dX4_empty_12 13 rfl (by decide) rfl rfl (by omega) rfl ?_
  refine g_iret (h := (mup h 62 s (zI (-1)))) (v := (h 63 s)) X Z dX4_empty_13 ?_
  exact ⟨rfl, rfl⟩
set_option maxHeartbeats 1000000 in
set_option maxRecDepth 100000 in
theorem c_X4_put (h : Mem) (s i : Nat) (v : Int32) (hs : s < 4) (hi : i < 96) : cV 69 XL yX4_put cX4_put 4 0 0 (fun ad => [.ref (ad (61)), .int (nI (s)), .int (nI (i)), .int (v)]) h (fun h2 => h2 = mup h 65 (i + 96 * s) (if (h 62 s).toInt = 0 then v.toInt8.toInt32 else v)) := by
  refine cV_of XLW (by decide +kernel) (fun ad => Nat.le_of_ble_eq_true rfl) ?_
  intro K X Z
  show G 69 XL 4 K h 0 [(0, .ref (kad K (61))), (1, .int (nI (s))), (2, .int (nI (i))), (3, .int (v))] []
  refine g_aload_n X dX4_put_0 1 rfl rfl ?_
  refine g_get (c := 61) (k := 2) (T := TX4) (sk := skX61) (v := .ref (kad K (64))) X wf_X4_20 inX4 dX4_put_1 4 rfl (by decide) rfl rfl (by decide) rfl ?_
  refine g_iload_n X dX4_put_4 5 rfl rfl ?_
  refine g_aald (c := 64) (n := 4) (b := 65) (o := 0) (i := s) X dX4_put_5 6 rfl (by decide) rfl rfl (by omega) ?_
  refine g_iload_n X dX4_put_6 7 rfl rfl ?_
  refine g_aload_n X dX4_put_7 8 rfl rfl ?_
  refine g_get (c := 61) (k := 0) (T := TX4) (sk := skX61) (v := .ref (kad K (62))) X wf_X4_11 inX4 dX4_put_8 11 rfl (by decide) rfl rfl (by decide) rfl ?_
  refine g_iload_n X dX4_put_11 12 rfl rfl ?_
  refine g_iald (c := 62) (n := 4) (r := 62) (o := 0) (i := s) (v := (h 62 s)) X dX4_put_12 13 rfl (by decide) rfl rfl (by omega) rfl ?_
  refine g_if_ne X ((h 62 s).toInt) dX4_put_13 21 (by decide) 16 rfl rfl (fun t13 => ?_) (fun f13 => ?_)
  · skip
    refine g_iload_n X dX4_put_21 22 rfl rfl ?_
    refine g_iast (c := (65 + s)) (n := 96) (r := 65) (o := 96 * s) (i := i) X dX4_put_22 23 rfl (by omega) (XL_65 (by omega)) rfl (by omega) ?_
    refine g_vret (h := (mup h 65 (i + 96 * s) (v))) X Z dX4_put_23 ?_
    exact by rw [if_neg t13]
  · skip
    refine g_iload_n X dX4_put_16 17 rfl rfl ?_
    refine g_i2b X (v := (((v).toInt8).toInt32)) dX4_put_17 18 rfl rfl ?_
    refine g_goto X dX4_put_18 22 (by decide) ?_
    refine g_iast (c := (65 + s)) (n := 96) (r := 65) (o := 96 * s) (i := i) X dX4_put_22 23 rfl (by omega) (XL_65 (by omega)) rfl (by omega) ?_
    refine g_vret (h := (mup h 65 (i + 96 * s) (((v).toInt8).toInt32))) X Z dX4_put_23 ?_
    exact by rw [if_pos f13]
