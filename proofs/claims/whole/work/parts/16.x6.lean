theorem mv1_x (h : Mem) (q p m n d : Nat) (C : XC h q p m n d) (w k : Nat) (t : Int32) (hw : w < 4) (hk : k < n) : cV 69 XL yX3_add cX3_add 6 1 22 (fun ad => [.ref (ad 2), .ref (ad (49 + w)), .int (nI (p * tn (h 31 k))), .int (t * nI (tn (h 33 k)))]) h (fun h2 => h2 = mrow h 49 (gput (h 49) (24 * w) 24 (addF d (grd (h 49) (24 * w)) (grd (h 5) (24 * (p * tn (h 31 k) % q))) (t * nI (tn (h 33 k)))))) := by
  obtain ⟨hq, hp, hm, hq1, hq2, hp1, hp2, hm1, hm2, hn, hn2, hc, hq0, hd, hd1, hd2⟩ := id C
  have hb9 : p * tn (h 31 k) ≤ 6 * 23 := Nat.mul_le_mul hp2 (by have := (hc k hk).ci.2; omega)
  exact c_X3_add_49 h w hw (p * tn (h 31 k)) q (t * nI (tn (h 33 k))) (by omega) hq0 hq1 hq2 d hd hd1 hd2
theorem mv2_x (h : Mem) (q p m n d : Nat) (C : XC h q p m n d) (w k : Nat) (t : Int32) (hw : w < 4) (hk : k < n) : cV 69 XL yX3_add cX3_add 6 1 22 (fun ad => [.ref (ad 2), .ref (ad (49 + w)), .int (nI (p * tn (h 32 k))), .int (-(t * nI (tn (h 33 k))))]) (mrow h 49 (gput (h 49) (24 * w) 24 (addF d (grd (h 49) (24 * w)) (grd (h 5) (24 * (p * tn (h 31 k) % q))) (t * nI (tn (h 33 k)))))) (fun h2 => h2 = mrow h 49 (gput (h 49) (24 * w) 24 (acF d q (h 5) (p * tn (h 31 k)) (p * tn (h 32 k)) (t * nI (tn (h 33 k))) (grd (h 49) (24 * w))))) := by
  obtain ⟨hq, hp, hm, hq1, hq2, hp1, hp2, hm1, hm2, hn, hn2, hc, hq0, hd, hd1, hd2⟩ := id C
  have hb9 : p * tn (h 32 k) ≤ 6 * 23 := Nat.mul_le_mul hp2 (by have := (hc k hk).co.2; omega)
  have e := c_X3_add_49 (mrow h 49 (gput (h 49) (24 * w) 24 (addF d (grd (h 49) (24 * w)) (grd (h 5) (24 * (p * tn (h 31 k) % q))) (t * nI (tn (h 33 k)))))) w hw (p * tn (h 32 k)) q (-(t * nI (tn (h 33 k)))) (by omega) (by exact hq0) hq1 hq2 d (by exact hd) hd1 hd2
  rw [ac_mem] at e
  exact e
set_option maxHeartbeats 1000000 in
set_option maxRecDepth 100000 in
theorem c_X7_move (h : Mem) (q p m n d : Nat) (C : XC h q p m n d) (w k : Nat) (t : Int32) (hw : w < 4) (hk : k < n) : cV 69 XL yX7_move cX7_move 5 2 47 (fun ad => [.ref (ad (43)), .int (nI (k)), .int (nI (w)), .int (t)]) h (fun h2 => h2 = mvM h d q p k w t) := by
  refine cV_of XLW (by decide +kernel) (fun ad => Nat.le_of_ble_eq_true rfl) ?_
  intro K X Z
  obtain ⟨hq, hp, hm, hq1, hq2, hp1, hp2, hm1, hm2, hn, hn2, hc, hq0, hd, hd1, hd2⟩ := id C
  show G 69 XL 5 K h 0 [(0, .ref (kad K (43))), (1, .int (nI (k))), (2, .int (nI (w))), (3, .int (t))] []
  refine g_iload_n X dX7_move_0 1 rfl rfl ?_
  refine g_aload_n X dX7_move_1 2 rfl rfl ?_
  refine g_get (c := 43) (k := 2) (T := TX7) (sk := skX43) (v := .ref (kad K (29))) X wf_X7_37 inX7 dX7_move_2 5 rfl (by decide) rfl rfl (by decide) rfl ?_
  refine g_get (c := 29) (k := 5) (T := TX0) (sk := skX29) (v := .ref (kad K (33))) X wf_X7_75 inX0 dX7_move_5 8 rfl (by decide) rfl rfl (by decide) rfl ?_
  refine g_iload_n X dX7_move_8 9 rfl rfl ?_
  refine g_iald (c := 33) (n := 24) (r := 33) (o := 0) (i := k) (v := (nI (tn (h 33 k)))) X dX7_move_9 10 rfl (by decide) rfl rfl (by omega) ((hc k hk).tu.1) ?_
  refine g_imul X (v := ((t) * (nI (tn (h 33 k))))) dX7_move_10 11 rfl rfl ?_
  refine g_istore X (lv' := [(0, .ref (kad K (43))), (1, .int (nI (k))), (2, .int (nI (w))), (3, .int (t)), (4, .int ((t) * (nI (tn (h 33 k)))))]) dX7_move_11 13 rfl (by decide) rfl rfl ?_
  refine g_aload_n X dX7_move_13 14 rfl rfl ?_
  refine g_get (c := 43) (k := 8) (T := TX7) (sk := skX43) (v := .ref (kad K (47))) X wf_X7_21 inX7 dX7_move_14 17 rfl (by decide) rfl rfl (by decide) rfl ?_
  refine g_iload_n X dX7_move_17 18 rfl rfl ?_
  refine g_dup2 X dX7_move_18 19 rfl rfl rfl ?_
  refine g_iald (c := 47) (n := 4) (r := 47) (o := 0) (i := w) (v := (h 47 w)) X dX7_move_19 20 rfl (by decide) rfl rfl (by omega) rfl ?_
  refine g_iload_n X dX7_move_20 21 rfl rfl ?_
  refine g_iadd X (v := ((h 47 w) + (t))) dX7_move_21 22 rfl rfl ?_
  refine g_iast (c := 47) (n := 4) (r := 47) (o := 0) (i := w) X dX7_move_22 23 rfl (by decide) rfl rfl (by omega) ?_
  refine g_aload_n X dX7_move_23 24 rfl rfl ?_
  refine g_get (c := 43) (k := 1) (T := TX7) (sk := skX43) (v := .ref (kad K (2))) X wf_X7_33 inX7 dX7_move_24 27 rfl (by decide) rfl rfl (by decide) rfl ?_
  refine g_aload_n X dX7_move_27 28 rfl rfl ?_
  refine g_get (c := 43) (k := 9) (T := TX7) (sk := skX43) (v := .ref (kad K (48))) X wf_X7_26 inX7 dX7_move_28 31 rfl (by decide) rfl rfl (by decide) rfl ?_
  refine g_iload_n X dX7_move_31 32 rfl rfl ?_
  refine g_aald (c := 48) (n := 4) (b := 49) (o := 0) (i := w) X dX7_move_32 33 rfl (by decide) rfl rfl hw ?_
  refine g_aload_n X dX7_move_33 34 rfl rfl ?_
  refine g_get (c := 43) (k := 0) (T := TX7) (sk := skX43) (v := .ref (kad K (1))) X wf_X7_29 inX7 dX7_move_34 37 rfl (by decide) rfl rfl (by decide) rfl ?_
  refine g_get (c := 1) (k := 1) (T := TX1) (sk := skX1) (v := .int (nI (p))) X wf_X7_78 inX1 dX7_move_37 40 rfl (by decide) rfl rfl (by decide) (congrArg Value.int (hp)) ?_
  refine g_aload_n X dX7_move_40 41 rfl rfl ?_
  refine g_get (c := 43) (k := 2) (T := TX7) (sk := skX43) (v := .ref (kad K (29))) X wf_X7_37 inX7 dX7_move_41 44 rfl (by decide) rfl rfl (by decide) rfl ?_
  refine g_get (c := 29) (k := 3) (T := TX0) (sk := skX29) (v := .ref (kad K (31))) X wf_X7_83 inX0 dX7_move_44 47 rfl (by decide) rfl rfl (by decide) rfl ?_
  refine g_iload_n X dX7_move_47 48 rfl rfl ?_
  refine g_iald (c := 31) (n := 24) (r := 31) (o := 0) (i := k) (v := (nI (tn (h 31 k)))) X dX7_move_48 49 rfl (by decide) rfl rfl (by omega) ((hc k hk).ci.1) ?_
  refine g_imul X (v := (nI (p * (tn (h 31 k))))) dX7_move_49 50 rfl (pk_mul p (tn (h 31 k))) ?_
  refine g_iload X dX7_move_50 52 rfl rfl ?_
  refine g_callVvx (st := []) (m2 := (mrow (mup h 47 w (h 47 w + t)) 49 (gput (h 49) (24 * w) 24 (addF d (grd (h 49) (24 * w)) (grd (h 5) (24 * (p * tn (h 31 k) % q))) (t * nI (tn (h 33 k))))))) X cw_X7_86 (mv1_x (mup h 47 w (h 47 w + t)) q p m n d (by exact C) w k t hw hk) dX7_move_52 55 rfl (by decide) rfl rfl rfl rfl rfl (by decide) (Nat.le_of_ble_eq_true rfl) ?_
  refine g_aload_n X dX7_move_55 56 rfl rfl ?_
  refine g_get (c := 43) (k := 1) (T := TX7) (sk := skX43) (v := .ref (kad K (2))) X wf_X7_33 inX7 dX7_move_56 59 rfl (by decide) rfl rfl (by decide) rfl ?_
  refine g_aload_n X dX7_move_59 60 rfl rfl ?_
  refine g_get (c := 43) (k := 9) (T := TX7) (sk := skX43) (v := .ref (kad K (48))) X wf_X7_26 inX7 dX7_move_60 63 rfl (by decide) rfl rfl (by decide) rfl ?_
  refine g_iload_n X dX7_move_63 64 rfl rfl ?_
  refine g_aald (c := 48) (n := 4) (b := 49) (o := 0) (i := w) X dX7_move_64 65 rfl (by decide) rfl rfl hw ?_
  refine g_aload_n X dX7_move_65 66 rfl rfl ?_
  refine g_get (c := 43) (k := 0) (T := TX7) (sk := skX43) (v := .ref (kad K (1))) X wf_X7_29 inX7 dX7_move_66 69 rfl (by decide) rfl rfl (by decide) rfl ?_
  refine g_get (c := 1) (k := 1) (T := TX1) (sk := skX1) (v := .int (nI (p))) X wf_X7_78 inX1 dX7_move_69 72 rfl (by decide) rfl rfl (by decide) (congrArg Value.int (hp)) ?_
  refine g_aload_n X dX7_move_72 73 rfl rfl ?_
  refine g_get (c := 43) (k := 2) (T := TX7) (sk := skX43) (v := .ref (kad K (29))) X wf_X7_37 inX7 dX7_move_73 76 rfl (by decide) rfl rfl (by decide) rfl ?_
  refine g_get (c := 29) (k := 4) (T := TX0) (sk := skX29) (v := .ref (kad K (32))) X wf_X7_92 inX0 dX7_move_76 79 rfl (by decide) rfl rfl (by decide) rfl ?_
  refine g_iload_n X dX7_move_79 80 rfl rfl ?_
  refine g_iald (c := 32) (n := 24) (r := 32) (o := 0) (i := k) (v := (nI (tn (h 32 k)))) X dX7_move_80 81 rfl (by decide) rfl rfl (by omega) ((hc k hk).co.1) ?_
  refine g_imul X (v := (nI (p * (tn (h 32 k))))) dX7_move_81 82 rfl (pk_mul p (tn (h 32 k))) ?_
  refine g_iload X dX7_move_82 84 rfl rfl ?_
  refine g_ineg X (v := (-((t) * (nI (tn (h 33 k)))))) dX7_move_84 85 rfl rfl ?_
  refine g_callVvx (st := []) (m2 := (mrow (mup h 47 w (h 47 w + t)) 49 (gput (h 49) (24 * w) 24 (acF d q (h 5) (p * tn (h 31 k)) (p * tn (h 32 k)) (t * nI (tn (h 33 k))) (grd (h 49) (24 * w)))))) X cw_X7_86 (mv2_x (mup h 47 w (h 47 w + t)) q p m n d (by exact C) w k t hw hk) dX7_move_85 88 rfl (by decide) rfl rfl rfl rfl rfl (by decide) (Nat.le_of_ble_eq_true rfl) ?_
  refine g_vret (h := (mrow (mup h 47 w (h 47 w + t)) 49 (gput (h 49) (24 * w) 24 (acF d q (h 5) (p * tn (h 31 k)) (p * tn (h 32 k)) (t * nI (tn (h 33 k))) (grd (h 49) (24 * w)))))) X Z dX7_move_88 ?_
  exact rfl
set_option maxHeartbeats 1000000 in
set_option maxRecDepth 100000 in
theorem c_X7_areAllSame (h : Mem) (q p m n d : Nat) (C : XC h q p m n d) (size g : Nat) (cs : Nat → Nat) (U : WC h size g n cs) : cI 69 XL yX7_areAllSame cX7_areAllSame 2 (some .boolean) 1 23 (fun ad => [.ref (ad (43))]) h (fun r h2 => r = bI (∀ w, w < g → ∀ i, i < d → grd (h 49) (24 * 0) i = grd (h 49) (24 * w) i) ∧ h2 = h) := by
  refine cI_of XLW (by decide +kernel) (fun ad => Nat.le_of_ble_eq_true rfl) ?_
  intro K X Z
  obtain ⟨hq, hp, hm, hq1, hq2, hp1, hp2, hm1, hm2, hn, hn2, hc, hq0, hd, hd1, hd2⟩ := id C
  obtain ⟨hz5, hz6, hz8, hg1, hg2, hcs⟩ := id U
  show G 69 XL 2 K h 0 [(0, .ref (kad K (43)))] []
  refine g_iconst X dX7_areAllSame_0 1 rfl (v := (nI (1))) rfl ?_
  refine g_istore_n X (lv' := [(0, .ref (kad K (43))), (1, .int (nI 1))]) dX7_areAllSame_1 2 rfl (by decide) rfl rfl ?_
  have lp2 : ∀ (fu : Nat) (w : Nat) (hw1 : 1 ≤ w) (hw : w ≤ g) (hz : ∀ b, b < w → ∀ i, i < d → grd (h 49) (24 * 0) i = grd (h 49) (24 * b) i), g - w < fu → G 69 XL 2 K h 2 [(0, .ref (kad K (43))), (1, .int (nI (w)))] [] := by
    intro fu
    induction fu with
    | zero => intro w hw1 hw hz hm; exact absurd hm (Nat.not_lt_zero _)
    | succ fu ih2 =>
      intro w hw1 hw hz hm2
      refine g_iload_n X dX7_areAllSame_2 3 rfl rfl ?_
      refine g_aload_n X dX7_areAllSame_3 4 rfl rfl ?_
      refine g_get (c := 43) (k := 6) (T := TX7) (sk := skX43) (v := .int (nI (g))) X wf_X7_51 inX7 dX7_areAllSame_4 7 rfl (by decide) rfl rfl (by decide) (congrArg Value.int (hz6)) ?_
      refine g_icmp_ge X ((w : Nat) : Int) ((g : Nat) : Int) dX7_areAllSame_7 40 (by decide) 10 rfl (nI_toInt (by omega)) (nI_toInt (by omega)) (fun t7 => ?_) (fun f7 => ?_)
      · skip
        refine g_iconst X dX7_areAllSame_40 41 rfl (v := (nI (1))) rfl ?_
        refine g_zret (h := h) (v := (nI (1))) X Z dX7_areAllSame_41 (Or.inr rfl) ?_
        exact ⟨(bI_t (fun b z => hz b (by omega))).symm, rfl⟩
      · skip
        refine g_aload_n X dX7_areAllSame_10 11 rfl rfl ?_
        refine g_get (c := 43) (k := 1) (T := TX7) (sk := skX43) (v := .ref (kad K (2))) X wf_X7_33 inX7 dX7_areAllSame_11 14 rfl (by decide) rfl rfl (by decide) rfl ?_
        refine g_aload_n X dX7_areAllSame_14 15 rfl rfl ?_
        refine g_get (c := 43) (k := 9) (T := TX7) (sk := skX43) (v := .ref (kad K (48))) X wf_X7_26 inX7 dX7_areAllSame_15 18 rfl (by decide) rfl rfl (by decide) rfl ?_
        refine g_iconst X dX7_areAllSame_18 19 rfl (v := (nI (0))) rfl ?_
        refine g_aald (c := 48) (n := 4) (b := 49) (o := 0) (i := 0) X dX7_areAllSame_19 20 rfl (by decide) rfl rfl (by omega) ?_
        refine g_aload_n X dX7_areAllSame_20 21 rfl rfl ?_
        refine g_get (c := 43) (k := 9) (T := TX7) (sk := skX43) (v := .ref (kad K (48))) X wf_X7_26 inX7 dX7_areAllSame_21 24 rfl (by decide) rfl rfl (by decide) rfl ?_
        refine g_iload_n X dX7_areAllSame_24 25 rfl rfl ?_
        refine g_aald (c := 48) (n := 4) (b := 49) (o := 0) (i := w) X dX7_areAllSame_25 26 rfl (by decide) rfl rfl (by omega) ?_
        refine g_callVix (st := []) (v := (bI (∀ i, i < d → grd (h 49) (24 * 0) i = grd (h 49) (24 * w) i))) (m2 := h) X cw_X7_95 (c_X3_areSame_49 h 0 (by omega) w (by omega) d hd hd1 hd2) dX7_areAllSame_26 29 rfl (by decide) rfl rfl rfl rfl rfl (by decide) (Nat.le_of_ble_eq_true rfl) ?_
        refine g_ifne_B X dX7_areAllSame_29 34 (by decide) 32 rfl (fun t29 => ?_) (fun f29 => ?_)
        · skip
          refine g_iinc X (v := (nI (w + 1))) (lv' := [(0, .ref (kad K (43))), (1, .int (nI (w + 1)))]) dX7_areAllSame_34 37 rfl (by decide) rfl (n_inc w 1) rfl rfl ?_
          refine g_goto X dX7_areAllSame_37 2 (by decide) ?_
          skip
          exact ih2 (w + 1) (by omega) (by omega) (fun b z => by
                rcases Nat.lt_succ_iff_lt_or_eq.mp z with z | z
                · exact hz b z
                · rw [z]; exact t29) (by omega)
        · skip
          refine g_iconst X dX7_areAllSame_32 33 rfl (v := (nI (0))) rfl ?_
          refine g_zret (h := h) (v := (nI (0))) X Z dX7_areAllSame_33 (Or.inl rfl) ?_
          exact ⟨(bI_f (fun z => f29 (z w (by omega)))).symm, rfl⟩
  skip
  exact lp2 _ 1 (by omega) (by omega) (fun b z i _ => by rw [show b = 0 from by omega]) (Nat.lt_succ_self _)
set_option maxHeartbeats 1000000 in
set_option maxRecDepth 100000 in
theorem c_X7_choose_0 (h : Mem) (q p m n d : Nat) (C : XC h q p m n d) (size g a begun : Nat) (cs dg : Nat → Nat) (U : WC h size g n cs) (Y : WY h d q p cs dg a) (hch : ∀ j, j < a → h 46 j = nI (dg j)) (hbg : begun ≤ 4) (ha : a + 0 = size) : cI 69 XL yX7_choose cX7_choose 5 (some .boolean) 3 71 (fun ad => [.ref (ad (43)), .int (nI (a)), .int (nI (begun))]) h (chPost h size a (chS g (size / g) (okW d q p g size (h 5) cs (h 31) (h 32) (h 33)) 0 a begun dg)) := by
  refine cI_of XLW (by decide +kernel) (fun ad => Nat.le_of_ble_eq_true rfl) ?_
  intro K X Z
  obtain ⟨hq, hp, hm, hq1, hq2, hp1, hp2, hm1, hm2, hn, hn2, hc, hq0, hd, hd1, hd2⟩ := id C
  obtain ⟨hz5, hz6, hz8, hg1, hg2, hcs⟩ := id U
  show G 69 XL 5 K h 0 [(0, .ref (kad K (43))), (1, .int (nI (a))), (2, .int (nI (begun)))] []
  refine g_iload_n X dX7_choose_0 1 rfl rfl ?_
  refine g_aload_n X dX7_choose_1 2 rfl rfl ?_
  refine g_get (c := 43) (k := 5) (T := TX7) (sk := skX43) (v := .int (nI (size))) X wf_X7_47 inX7 dX7_choose_2 5 rfl (by decide) rfl rfl (by decide) (congrArg Value.int (hz5)) ?_
  refine g_icmp_lt X ((a : Nat) : Int) ((size : Nat) : Int) dX7_choose_5 13 (by decide) 8 rfl (nI_toInt (by omega)) (nI_toInt (by omega)) (fun t5 => ?_) (fun f5 => ?_)
  · skip
    exact absurd t5 (by omega)
  · skip
    refine g_aload_n X dX7_choose_8 9 rfl rfl ?_
    refine g_callVix (st := []) (v := (bI (∀ w, w < g → ∀ i, i < d → grd (h 49) (24 * 0) i = grd (h 49) (24 * w) i))) (m2 := h) X cw_X7_61 (c_X7_areAllSame h q p m n d C size g cs U) dX7_choose_9 12 rfl (by decide) rfl rfl rfl rfl rfl (by decide) (Nat.le_of_ble_eq_true rfl) ?_
    refine g_zret (h := h) (v := (bI (∀ w, w < g → ∀ i, i < d → grd (h 49) (24 * 0) i = grd (h 49) (24 * w) i))) X Z dX7_choose_12 (bI_01 _) ?_
    have e9 : (∀ w, w < g → ∀ i, i < d → grd (h 49) (24 * 0) i = grd (h 49) (24 * w) i) ↔ ((okW d q p g size (h 5) cs (h 31) (h 32) (h 33)) dg = true) := by
      unfold okW
      rw [decide_eq_true_iff]
      rw [show a = size from by omega] at Y
      exact ⟨fun z w hw i hi => (Y.2 0 i (by omega) (by omega)).symm.trans ((z w hw i hi).trans (Y.2 w i (by omega) (by omega))), fun z w hw i hi => (Y.2 0 i (by omega) (by omega)).trans ((z w hw i hi).trans (Y.2 w i (by omega) (by omega)).symm)⟩
    refine ⟨(bI_c e9).trans (bI_c ?_), h 46, (mrow_id h 46).symm, fun _ _ => rfl, fun z hz j hj => ?_⟩
    · unfold chS
      by_cases c : (okW d q p g size (h 5) cs (h 31) (h 32) (h 33)) dg = true
      · rw [if_pos c]; exact ⟨fun _ => rfl, fun _ => c⟩
      · rw [if_neg c]; exact ⟨fun z => absurd z c, fun z => by cases z⟩
    · unfold chS at hz
      by_cases c : (okW d q p g size (h 5) cs (h 31) (h 32) (h 33)) dg = true
      · rw [if_pos c] at hz
        cases hz
        exact hch j (by omega)
      · rw [if_neg c] at hz
        cases hz
theorem chs_found {h h2 : Mem} {size a : Nat} {res res' : Option (Nat → Nat)} {c : Nat → Int32} (e : res = res') (em : h2 = mrow h 46 c) (hc : ∀ j, j < a → c j = h 46 j) (hs : res'.isSome = true) (hz : ∀ z, res' = some z → ∀ j, j < size → c j = nI (z j)) : chPost h size a res (nI 1) h2 := by
  subst e
  exact ⟨(bI_t hs).symm, c, em, hc, hz⟩
set_option maxHeartbeats 1000000 in
set_option maxRecDepth 100000 in
theorem c_X7_choose_s (r : Nat) (IH : ∀ (h : Mem) (q p m n d : Nat) (C : XC h q p m n d) (size g a begun : Nat) (cs dg : Nat → Nat) (U : WC h size g n cs) (Y : WY h d q p cs dg a) (hch : ∀ j, j < a → h 46 j = nI (dg j)) (hbg : begun ≤ 4) (ha : a + r = size), cI 69 XL yX7_choose cX7_choose 5 (some .boolean) (3 + r) (71 + 24 * r) (fun ad => [.ref (ad 43), .int (nI a), .int (nI begun)]) h (chPost h size a (chS g (size / g) (okW d q p g size (h 5) cs (h 31) (h 32) (h 33)) r a begun dg))) (h : Mem) (q p m n d : Nat) (C : XC h q p m n d) (size g a begun : Nat) (cs dg : Nat → Nat) (U : WC h size g n cs) (Y : WY h d q p cs dg a) (hch : ∀ j, j < a → h 46 j = nI (dg j)) (hbg : begun ≤ 4) (ha : a + (r + 1) = size) : cI 69 XL yX7_choose cX7_choose 5 (some .boolean) (3 + (r + 1)) (71 + 24 * (r + 1)) (fun ad => [.ref (ad (43)), .int (nI (a)), .int (nI (begun))]) h (chPost h size a (chS g (size / g) (okW d q p g size (h 5) cs (h 31) (h 32) (h 33)) (r + 1) a begun dg)) := by
  refine cI_of XLW (by decide +kernel) (fun ad => Nat.le_of_ble_eq_true rfl) ?_
  intro K X Z
  obtain ⟨hq, hp, hm, hq1, hq2, hp1, hp2, hm1, hm2, hn, hn2, hc, hq0, hd, hd1, hd2⟩ := id C
  obtain ⟨hz5, hz6, hz8, hg1, hg2, hcs⟩ := id U
  show G 69 XL 5 K h 0 [(0, .ref (kad K (43))), (1, .int (nI (a))), (2, .int (nI (begun)))] []
  refine g_iload_n X dX7_choose_0 1 rfl rfl ?_
  refine g_aload_n X dX7_choose_1 2 rfl rfl ?_
  refine g_get (c := 43) (k := 5) (T := TX7) (sk := skX43) (v := .int (nI (size))) X wf_X7_47 inX7 dX7_choose_2 5 rfl (by decide) rfl rfl (by decide) (congrArg Value.int (hz5)) ?_
  refine g_icmp_lt X ((a : Nat) : Int) ((size : Nat) : Int) dX7_choose_5 13 (by decide) 8 rfl (nI_toInt (by omega)) (nI_toInt (by omega)) (fun t5 => ?_) (fun f5 => ?_)
  · skip
    refine g_iconst X dX7_choose_13 14 rfl (v := (nI (0))) rfl ?_
    refine g_istore_n X (lv' := [(0, .ref (kad K (43))), (1, .int (nI (a))), (2, .int (nI (begun))), (3, .int (nI 0))]) dX7_choose_14 15 rfl (by decide) rfl rfl ?_
    have lp15 : ∀ (fu : Nat) (way : Nat) (c : Nat → Int32) (hwy : way ≤ min g (begun + 1)) (hcc : ∀ j, j < a → c j = h 46 j) (htr : tryW (fun way => if hcnt dg a way < size / g then chS g (size / g) (okW d q p g size (h 5) cs (h 31) (h 32) (h 33)) r (a + 1) (max begun (way + 1)) (updN dg a way) else none) (min g (begun + 1)) 0 = tryW (fun way => if hcnt dg a way < size / g then chS g (size / g) (okW d q p g size (h 5) cs (h 31) (h 32) (h 33)) r (a + 1) (max begun (way + 1)) (updN dg a way) else none) (min g (begun + 1) - way) way), 5 - way < fu → G 69 XL 5 K (mrow h 46 c) 15 [(0, .ref (kad K (43))), (1, .int (nI (a))), (2, .int (nI (begun))), (3, .int (nI (way)))] [] := by
      intro fu
      induction fu with
      | zero => intro way c hwy hcc htr hm; exact absurd hm (Nat.not_lt_zero _)
      | succ fu ih15 =>
        intro way c hwy hcc htr hm15
        refine g_iload_n X dX7_choose_15 16 rfl rfl ?_
        refine g_aload_n X dX7_choose_16 17 rfl rfl ?_
        refine g_get (c := 43) (k := 6) (T := TX7) (sk := skX43) (v := .int (nI (g))) X wf_X7_51 inX7 dX7_choose_17 20 rfl (by decide) rfl rfl (by decide) (congrArg Value.int (hz6)) ?_
        refine g_icmp_ge X ((way : Nat) : Int) ((g : Nat) : Int) dX7_choose_20 106 (by decide) 23 rfl (nI_toInt (by omega)) (nI_toInt (by omega)) (fun t20 => ?_) (fun f20 => ?_)
        · skip
          refine g_iconst X dX7_choose_106 107 rfl (v := (nI (0))) rfl ?_
          refine g_zret (h := (mrow h 46 c)) (v := (nI (0))) X Z dX7_choose_107 (Or.inl rfl) ?_
          refine ⟨?_, c, rfl, hcc, fun z hz => ?_⟩
          · unfold chS
            rw [htr, show min g (begun + 1) - way = 0 from by omega]
            exact (bI_f (fun z => absurd (show (false : Bool) = true from z) (by decide))).symm
          · unfold chS at hz
            rw [htr, show min g (begun + 1) - way = 0 from by omega] at hz
            cases hz
        · skip
          have hh9 := hcnt_le dg a way
          have hdv := Nat.div_le_self size g
          refine g_iload_n X dX7_choose_23 24 rfl rfl ?_
          refine g_iload_n X dX7_choose_24 25 rfl rfl ?_
          refine g_icmp_gt X ((way : Nat) : Int) ((begun : Nat) : Int) dX7_choose_25 106 (by decide) 28 rfl (nI_toInt (by omega)) (nI_toInt (by omega)) (fun t25 => ?_) (fun f25 => ?_)
          · skip
            refine g_iconst X dX7_choose_106 107 rfl (v := (nI (0))) rfl ?_
            refine g_zret (h := (mrow h 46 c)) (v := (nI (0))) X Z dX7_choose_107 (Or.inl rfl) ?_
            refine ⟨?_, c, rfl, hcc, fun z hz => ?_⟩
            · unfold chS
              rw [htr, show min g (begun + 1) - way = 0 from by omega]
              exact (bI_f (fun z => absurd (show (false : Bool) = true from z) (by decide))).symm
            · unfold chS at hz
              rw [htr, show min g (begun + 1) - way = 0 from by omega] at hz
              cases hz
          · skip
            refine g_aload_n X dX7_choose_28 29 rfl rfl ?_
            refine g_get (c := 43) (k := 8) (T := TX7) (sk := skX43) (v := .ref (kad K (47))) X wf_X7_21 inX7 dX7_choose_29 32 rfl (by decide) rfl rfl (by decide) rfl ?_
            refine g_iload_n X dX7_choose_32 33 rfl rfl ?_
            refine g_iald (c := 47) (n := 4) (r := 47) (o := 0) (i := way) (v := (nI (hcnt dg a way))) X dX7_choose_33 34 rfl (by decide) rfl rfl (by omega) (Y.1 way (by omega)) ?_
            refine g_aload_n X dX7_choose_34 35 rfl rfl ?_
            refine g_get (c := 43) (k := 5) (T := TX7) (sk := skX43) (v := .int (nI (size))) X wf_X7_47 inX7 dX7_choose_35 38 rfl (by decide) rfl rfl (by decide) (congrArg Value.int (hz5)) ?_
            refine g_aload_n X dX7_choose_38 39 rfl rfl ?_
            refine g_get (c := 43) (k := 6) (T := TX7) (sk := skX43) (v := .int (nI (g))) X wf_X7_51 inX7 dX7_choose_39 42 rfl (by decide) rfl rfl (by decide) (congrArg Value.int (hz6)) ?_
            have b42 := Nat.div_le_self size g
            refine g_idiv X (v := (nI (size / g))) dX7_choose_42 43 rfl (nI_ne (by omega) (by omega)) (pk_div (by omega) (by omega) (by omega)) ?_
            refine g_icmp_ge X ((hcnt dg a way : Nat) : Int) ((size / g : Nat) : Int) dX7_choose_43 100 (by decide) 46 rfl (nI_toInt (by omega)) (nI_toInt (by omega)) (fun t43 => ?_) (fun f43 => ?_)
            · skip
              refine g_iinc X (v := (nI (way + 1))) (lv' := [(0, .ref (kad K (43))), (1, .int (nI (a))), (2, .int (nI (begun))), (3, .int (nI (way + 1)))]) dX7_choose_100 103 rfl (by decide) rfl (n_inc way 1) rfl rfl ?_
              refine g_goto X dX7_choose_103 15 (by decide) ?_
              skip
              exact ih15 (way + 1) c (by omega) hcc (by rw [htr, show min g (begun + 1) - way = (min g (begun + 1) - (way + 1)) + 1 from by omega]; exact tryW_none (if_neg (by rw [Nat.not_lt]; omega))) (by omega)
            · skip
              refine g_aload_n X dX7_choose_46 47 rfl rfl ?_
              refine g_get (c := 43) (k := 7) (T := TX7) (sk := skX43) (v := .ref (kad K (46))) X wf_X7_18 inX7 dX7_choose_47 50 rfl (by decide) rfl rfl (by decide) rfl ?_
              refine g_iload_n X dX7_choose_50 51 rfl rfl ?_
              refine g_iload_n X dX7_choose_51 52 rfl rfl ?_
              refine g_iast (c := 46) (n := 8) (r := 46) (o := 0) (i := a) X dX7_choose_52 53 rfl (by decide) rfl rfl (by omega) ?_
              refine g_aload_n X dX7_choose_53 54 rfl rfl ?_
              refine g_aload_n X dX7_choose_54 55 rfl rfl ?_
              refine g_get (c := 43) (k := 4) (T := TX7) (sk := skX43) (v := .ref (kad K (45))) X wf_X7_15 inX7 dX7_choose_55 58 rfl (by decide) rfl rfl (by decide) rfl ?_
              refine g_iload_n X dX7_choose_58 59 rfl rfl ?_
              refine g_iald (c := 45) (n := 8) (r := 45) (o := 0) (i := a) (v := (nI (cs a))) X dX7_choose_59 60 rfl (by decide) rfl rfl (by omega) ((hcs a (by omega)).1) ?_
              refine g_iload_n X dX7_choose_60 61 rfl rfl ?_
              refine g_iconst X dX7_choose_61 62 rfl (v := (nI (1))) rfl ?_
              refine g_callVvx (st := []) (m2 := (mvM (mup (mrow h 46 c) 46 a (nI way)) d q p (cs a) way (nI 1))) X cw_X7_65 (c_X7_move (mup (mrow h 46 c) 46 a (nI way)) q p m n d (by exact C) way (cs a) (nI 1) (by omega) (hcs a (by omega)).2) dX7_choose_62 65 rfl (by decide) rfl rfl rfl rfl rfl (by omega) (Nat.le_of_ble_eq_true rfl) ?_
              refine g_aload_n X dX7_choose_65 66 rfl rfl ?_
              refine g_iload_n X dX7_choose_66 67 rfl rfl ?_
              refine g_iconst X dX7_choose_67 68 rfl (v := (nI (1))) rfl ?_
              refine g_iadd X (v := (nI (a + 1))) dX7_choose_68 69 rfl (nI_add a 1) ?_
              refine g_iload_n X dX7_choose_69 70 rfl rfl ?_
              refine g_iload_n X dX7_choose_70 71 rfl rfl ?_
              refine g_iconst X dX7_choose_71 72 rfl (v := (nI (1))) rfl ?_
              refine g_iadd X (v := (nI (way + 1))) dX7_choose_72 73 rfl (nI_add way 1) ?_
              refine g_mmax (st := [.int (nI (a + 1)), .ref (kad K (43))]) (v := (nI (max begun (way + 1)))) X wq_X7_69 dX7_choose_73 76 rfl (by omega) (Nat.le_of_ble_eq_true rfl) (mmax_n (by omega) (by omega)) ?_
              refine g_callVi (st := []) X cw_X7_54 (IH (mvM (mup (mrow h 46 c) 46 a (nI way)) d q p (cs a) way (nI 1)) q p m n d (by exact C) size g (a + 1) (max begun (way + 1)) cs (updN dg a way) (by exact U) (wy_step (h := (mup (mrow h 46 c) 46 a (nI way))) (by exact Y) (by omega)) (fun j hj => by show upd c a (nI way) j = _; by_cases e : j = a; rw [e, upd_s, updN_s]; rw [upd_n _ _ e, updN_n _ _ e, hcc j (by omega), hch j (by omega)]) (by omega) (by omega)) dX7_choose_76 79 rfl (by decide) rfl rfl rfl rfl rfl (by omega) (Nat.le_of_ble_eq_true rfl) ?_
              rintro _ _ ⟨rfl, c3, rfl, hc3, hz3⟩
              refine g_istore X (lv' := [(0, .ref (kad K (43))), (1, .int (nI (a))), (2, .int (nI (begun))), (3, .int (nI (way))), (4, .int (bI ((chS g (size / g) (okW d q p g size (h 5) cs (h 31) (h 32) (h 33)) r (a + 1) (max begun (way + 1)) (updN dg a way)).isSome = true)))]) dX7_choose_79 81 rfl (by decide) rfl rfl ?_
              refine g_aload_n X dX7_choose_81 82 rfl rfl ?_
              refine g_aload_n X dX7_choose_82 83 rfl rfl ?_
              refine g_get (c := 43) (k := 4) (T := TX7) (sk := skX43) (v := .ref (kad K (45))) X wf_X7_15 inX7 dX7_choose_83 86 rfl (by decide) rfl rfl (by decide) rfl ?_
              refine g_iload_n X dX7_choose_86 87 rfl rfl ?_
              refine g_iald (c := 45) (n := 8) (r := 45) (o := 0) (i := a) (v := (nI (cs a))) X dX7_choose_87 88 rfl (by decide) rfl rfl (by omega) ((hcs a (by omega)).1) ?_
              refine g_iload_n X dX7_choose_88 89 rfl rfl ?_
              refine g_iconst X dX7_choose_89 90 rfl (v := (zI (-1))) rfl ?_
              refine g_callVvx (st := []) (m2 := (mvM (mrow (mvM (mup (mrow h 46 c) 46 a (nI way)) d q p (cs a) way (nI 1)) 46 c3) d q p (cs a) way (zI (-1)))) X cw_X7_65 (c_X7_move (mrow (mvM (mup (mrow h 46 c) 46 a (nI way)) d q p (cs a) way (nI 1)) 46 c3) q p m n d (by exact C) way (cs a) (zI (-1)) (by omega) (hcs a (by omega)).2) dX7_choose_90 93 rfl (by decide) rfl rfl rfl rfl rfl (by omega) (Nat.le_of_ble_eq_true rfl) ?_
              refine g_iload X dX7_choose_93 95 rfl rfl ?_
              refine g_ifeq_B X dX7_choose_95 100 (by decide) 98 rfl (fun t95 => ?_) (fun f95 => ?_)
              · skip
                refine g_iinc X (v := (nI (way + 1))) (lv' := [(0, .ref (kad K (43))), (1, .int (nI (a))), (2, .int (nI (begun))), (3, .int (nI (way + 1))), (4, .int (bI ((chS g (size / g) (okW d q p g size (h 5) cs (h 31) (h 32) (h 33)) r (a + 1) (max begun (way + 1)) (updN dg a way)).isSome = true)))]) dX7_choose_100 103 rfl (by decide) rfl (n_inc way 1) rfl rfl ?_
                refine g_goto X dX7_choose_103 15 (by decide) ?_
                refine g_sub [0, 1, 2, 3] rfl ?_
                refine g_mem (h := (mvM (mrow (mvM (mup (mrow h 46 c) 46 a (nI way)) d q p (cs a) way (nI 1)) 46 c3) d q p (cs a) way (zI (-1)))) (h' := (mrow h 46 c3)) (by rw [mv_inv]; unfold mup; rw [mrow_m, mrow_m]) ?_
                exact ih15 (way + 1) c3 (by omega) (fun j hj => (hc3 j (by omega)).trans ((upd_n _ _ (by omega)).trans (hcc j hj))) (by rw [htr, show min g (begun + 1) - way = (min g (begun + 1) - (way + 1)) + 1 from by omega]; refine tryW_none ((if_pos (by omega)).trans ?_); cases hr9 : (chS g (size / g) (okW d q p g size (h 5) cs (h 31) (h 32) (h 33)) r (a + 1) (max begun (way + 1)) (updN dg a way)) with
                        | none => rfl
                        | some z => rw [hr9] at t95; exact absurd rfl t95) (by omega)
              · skip
                refine g_iconst X dX7_choose_98 99 rfl (v := (nI (1))) rfl ?_
                refine g_zret (h := (mvM (mrow (mvM (mup (mrow h 46 c) 46 a (nI way)) d q p (cs a) way (nI 1)) 46 c3) d q p (cs a) way (zI (-1)))) (v := (nI (1))) X Z dX7_choose_99 (Or.inr rfl) ?_
                refine chs_found (c := c3) ?_ (by rw [mv_inv]; unfold mup; rw [mrow_m, mrow_m]) (fun j hj => (hc3 j (by omega)).trans ((upd_n _ _ (by omega)).trans (hcc j hj))) f95 hz3
                rw [chS_s, htr, show min g (begun + 1) - way = (min g (begun + 1) - (way + 1)) + 1 from by omega]
                cases hr9 : (chS g (size / g) (okW d q p g size (h 5) cs (h 31) (h 32) (h 33)) r (a + 1) (max begun (way + 1)) (updN dg a way)) with
                | none => rw [hr9] at f95; exact absurd f95 (by decide)
                | some z => exact tryW_some (F := (fun way => if hcnt dg a way < size / g then chS g (size / g) (okW d q p g size (h 5) cs (h 31) (h 32) (h 33)) r (a + 1) (max begun (way + 1)) (updN dg a way) else none)) ((if_pos (by omega)).trans hr9)
    skip
    refine g_mem (h := h) (h' := (mrow h 46 (h 46))) ((mrow_id h 46).symm) ?_
    exact lp15 _ 0 (h 46) (by omega) (fun _ _ => rfl) (by rfl) (Nat.lt_succ_self _)
  · skip
    exact absurd f5 (by omega)
theorem c_X7_choose : ∀ (r : Nat) (h : Mem) (q p m n d : Nat) (C : XC h q p m n d) (size g a begun : Nat) (cs dg : Nat → Nat) (U : WC h size g n cs) (Y : WY h d q p cs dg a) (hch : ∀ j, j < a → h 46 j = nI (dg j)) (hbg : begun ≤ 4) (ha : a + r = size), cI 69 XL yX7_choose cX7_choose 5 (some .boolean) (3 + r) (71 + 24 * r) (fun ad => [.ref (ad 43), .int (nI a), .int (nI begun)]) h (chPost h size a (chS g (size / g) (okW d q p g size (h 5) cs (h 31) (h 32) (h 33)) r a begun dg))
  | 0 => fun h q p m n d C size g a begun cs dg U Y hch hbg ha => c_X7_choose_0 h q p m n d C size g a begun cs dg U Y hch hbg ha
  | r + 1 => c_X7_choose_s r (c_X7_choose r)
set_option maxHeartbeats 1000000 in
set_option maxRecDepth 100000 in
theorem c_X7_keepChosen (h : Mem) (size g n : Nat) (cs z : Nat → Nat) (U : WC h size g n cs) (hn2 : n ≤ 24) (hz : ∀ j, j < size → h 46 j = nI (z j)) : cV 69 XL yX7_keepChosen cX7_keepChosen 2 0 0 (fun ad => [.ref (ad (43))]) h (fun h2 => h2 = mrow h 44 (kcF (h 44) cs z size)) := by
  refine cV_of XLW (by decide +kernel) (fun ad => Nat.le_of_ble_eq_true rfl) ?_
  intro K X Z
  obtain ⟨hz5, hz6, hz8, hg1, hg2, hcs⟩ := id U
  show G 69 XL 2 K h 0 [(0, .ref (kad K (43)))] []
  refine g_iconst X dX7_keepChosen_0 1 rfl (v := (nI (0))) rfl ?_
  refine g_istore_n X (lv' := [(0, .ref (kad K (43))), (1, .int (nI 0))]) dX7_keepChosen_1 2 rfl (by decide) rfl rfl ?_
  have lp2 : ∀ (fu : Nat) (k : Nat) (hk : k ≤ 24), 24 - k < fu → G 69 XL 2 K (mrow h 44 (ngK (h 44) k)) 2 [(0, .ref (kad K (43))), (1, .int (nI (k)))] [] := by
    intro fu
    induction fu with
    | zero => intro k hk hm; exact absurd hm (Nat.not_lt_zero _)
    | succ fu ih2 =>
      intro k hk hm2
      refine g_iload_n X dX7_keepChosen_2 3 rfl rfl ?_
      refine g_bipush X dX7_keepChosen_3 5 rfl (v := (nI (24))) rfl ?_
      refine g_icmp_ge X ((k : Nat) : Int) 24 dX7_keepChosen_5 22 (by decide) 8 rfl (nI_toInt (by omega)) rfl (fun t5 => ?_) (fun f5 => ?_)
      · skip
        refine g_iconst X dX7_keepChosen_22 23 rfl (v := (nI (0))) rfl ?_
        refine g_istore_n X (lv' := [(0, .ref (kad K (43))), (1, .int (nI 0))]) dX7_keepChosen_23 24 rfl (by decide) rfl rfl ?_
        have lp24 : ∀ (fu : Nat) (a : Nat) (ha : a ≤ size), size - a < fu → G 69 XL 2 K (mrow h 44 (kcF (h 44) cs z a)) 24 [(0, .ref (kad K (43))), (1, .int (nI (a)))] [] := by
          intro fu
          induction fu with
          | zero => intro a ha hm; exact absurd hm (Nat.not_lt_zero _)
          | succ fu ih24 =>
            intro a ha hm24
            refine g_iload_n X dX7_keepChosen_24 25 rfl rfl ?_
            refine g_aload_n X dX7_keepChosen_25 26 rfl rfl ?_
            refine g_get (c := 43) (k := 5) (T := TX7) (sk := skX43) (v := .int (nI (size))) X wf_X7_47 inX7 dX7_keepChosen_26 29 rfl (by decide) rfl rfl (by decide) (congrArg Value.int (hz5)) ?_
            refine g_icmp_ge X ((a : Nat) : Int) ((size : Nat) : Int) dX7_keepChosen_29 55 (by decide) 32 rfl (nI_toInt (by omega)) (nI_toInt (by omega)) (fun t29 => ?_) (fun f29 => ?_)
            · skip
              refine g_vret (h := (mrow h 44 (kcF (h 44) cs z a))) X Z dX7_keepChosen_55 ?_
              exact by rw [show a = size from by omega]
            · skip
              have hcb := (hcs a (by omega)).2
              refine g_aload_n X dX7_keepChosen_32 33 rfl rfl ?_
              refine g_get (c := 43) (k := 3) (T := TX7) (sk := skX43) (v := .ref (kad K (44))) X wf_X7_9 inX7 dX7_keepChosen_33 36 rfl (by decide) rfl rfl (by decide) rfl ?_
              refine g_aload_n X dX7_keepChosen_36 37 rfl rfl ?_
              refine g_get (c := 43) (k := 4) (T := TX7) (sk := skX43) (v := .ref (kad K (45))) X wf_X7_15 inX7 dX7_keepChosen_37 40 rfl (by decide) rfl rfl (by decide) rfl ?_
              refine g_iload_n X dX7_keepChosen_40 41 rfl rfl ?_
              refine g_iald (c := 45) (n := 8) (r := 45) (o := 0) (i := a) (v := (nI (cs a))) X dX7_keepChosen_41 42 rfl (by decide) rfl rfl (by omega) ((hcs a (by omega)).1) ?_
              refine g_aload_n X dX7_keepChosen_42 43 rfl rfl ?_
              refine g_get (c := 43) (k := 7) (T := TX7) (sk := skX43) (v := .ref (kad K (46))) X wf_X7_18 inX7 dX7_keepChosen_43 46 rfl (by decide) rfl rfl (by decide) rfl ?_
              refine g_iload_n X dX7_keepChosen_46 47 rfl rfl ?_
              refine g_iald (c := 46) (n := 8) (r := 46) (o := 0) (i := a) (v := (nI (z a))) X dX7_keepChosen_47 48 rfl (by decide) rfl rfl (by omega) (hz a (by omega)) ?_
              refine g_iast (c := 44) (n := 24) (r := 44) (o := 0) (i := cs a) X dX7_keepChosen_48 49 rfl (by decide) rfl rfl (by omega) ?_
              refine g_iinc X (v := (nI (a + 1))) (lv' := [(0, .ref (kad K (43))), (1, .int (nI (a + 1)))]) dX7_keepChosen_49 52 rfl (by decide) rfl (n_inc a 1) rfl rfl ?_
              refine g_goto X dX7_keepChosen_52 24 (by decide) ?_
              skip
              refine g_mem (h := (mup (mrow h 44 (kcF (h 44) cs z a)) 44 (cs a) (nI (z a)))) (h' := (mrow h 44 (kcF (h 44) cs z (a + 1)))) (by rw [mup_m]; rfl) ?_
              exact ih24 (a + 1) (by omega) (by omega)
        skip
        refine g_mem (h := (mrow h 44 (ngK (h 44) k))) (h' := (mrow h 44 (kcF (h 44) cs z 0))) (by rw [show k = 24 from by omega]; rfl) ?_
        exact lp24 _ 0 (by omega) (Nat.lt_succ_self _)
      · skip
        refine g_aload_n X dX7_keepChosen_8 9 rfl rfl ?_
        refine g_get (c := 43) (k := 3) (T := TX7) (sk := skX43) (v := .ref (kad K (44))) X wf_X7_9 inX7 dX7_keepChosen_9 12 rfl (by decide) rfl rfl (by decide) rfl ?_
        refine g_iload_n X dX7_keepChosen_12 13 rfl rfl ?_
        refine g_bipush X dX7_keepChosen_13 15 rfl (v := (zI (-4))) rfl ?_
        refine g_iast (c := 44) (n := 24) (r := 44) (o := 0) (i := k) X dX7_keepChosen_15 16 rfl (by decide) rfl rfl (by omega) ?_
        refine g_iinc X (v := (nI (k + 1))) (lv' := [(0, .ref (kad K (43))), (1, .int (nI (k + 1)))]) dX7_keepChosen_16 19 rfl (by decide) rfl (n_inc k 1) rfl rfl ?_
        refine g_goto X dX7_keepChosen_19 2 (by decide) ?_
        skip
        refine g_mem (h := (mup (mrow h 44 (ngK (h 44) k)) 44 k (zI (-4)))) (h' := (mrow h 44 (ngK (h 44) (k + 1)))) (by rw [mup_m, ngK_s]) ?_
        exact ih2 (k + 1) (by omega) (by omega)
  skip
  refine g_mem (h := h) (h' := (mrow h 44 (ngK (h 44) 0))) (by rw [ngK_0, mrow_id]) ?_
  exact lp2 _ 0 (by omega) (Nat.lt_succ_self _)
/-- the two memories agree but on these rows -/
def agr (h h2 : Mem) (l : List Nat) : Prop := ∀ c, c ∉ l → h2 c = h c
def wayR (g : Nat) (l : List Nat) (res : Option (Nat → Nat)) : Int32 := if 8 < l.length then zI (-3) else if l.length = 0 ∨ l.length % g ≠ 0 then zI (-4) else match res with
  | some _ => nI 1
  | none => zI (-4)
def wayF (F : Nat → Int32) (g : Nat) (l : List Nat) (res : Option (Nat → Nat)) : Nat → Int32 := if 8 < l.length then F else if l.length = 0 ∨ l.length % g ≠ 0 then F else match res with
  | some z => kcF F (fun j => l.getD j 0) z l.length
  | none => F
theorem gl_lt {P : Nat → Bool} {n j : Nat} (h : j < (glB P n).length) : (glB P n).getD j 0 < n := by
  have h1 : (glB P n).getD j 0 ∈ glB P n := by
    rw [List.getD_eq_getElem?_getD, List.getElem?_eq_getElem h, Option.getD_some]
    exact List.getElem_mem h
  exact (glB_mem.mp h1).1
set_option maxHeartbeats 1000000 in
set_option maxRecDepth 100000 in
theorem c_X7_part (h : Mem) (q p m n d : Nat) (C : XC h q p m n d) (f g : Nat) (hf : f < 1000) (hg1 : 1 ≤ g) (hg2 : g ≤ 4) (hh0 : ∀ w, w < 4 → h 47 w = nI 0) (hs0 : ∀ w i, w < 4 → i < 24 → h 49 (i + 24 * w) = nI 0) : cI 69 XL yX7_part cX7_part 3 (some .int) 12 287 (fun ad => [.ref (ad (43)), .int (nI (f)), .int (nI (g))]) h (fun r h2 => r = wayR g (glB (uin (h 30) (h 34) f) n) (chS g ((glB (uin (h 30) (h 34) f) n).length / g) (okW d q p g (glB (uin (h 30) (h 34) f) n).length (h 5) (fun j => (glB (uin (h 30) (h 34) f) n).getD j 0) (h 31) (h 32) (h 33)) (glB (uin (h 30) (h 34) f) n).length 0 0 (fun _ => 0)) ∧ h2 44 = wayF (h 44) g (glB (uin (h 30) (h 34) f) n) (chS g ((glB (uin (h 30) (h 34) f) n).length / g) (okW d q p g (glB (uin (h 30) (h 34) f) n).length (h 5) (fun j => (glB (uin (h 30) (h 34) f) n).getD j 0) (h 31) (h 32) (h 33)) (glB (uin (h 30) (h 34) f) n).length 0 0 (fun _ => 0)) ∧ agr h h2 [43, 44, 45, 46]) := by
  refine cI_of XLW (by decide +kernel) (fun ad => Nat.le_of_ble_eq_true rfl) ?_
  intro K X Z
  obtain ⟨hq, hp, hm, hq1, hq2, hp1, hp2, hm1, hm2, hn, hn2, hc, hq0, hd, hd1, hd2⟩ := id C
  have hll := glB_len (uin (h 30) (h 34) f) n
  show G 69 XL 3 K h 0 [(0, .ref (kad K (43))), (1, .int (nI (f))), (2, .int (nI (g)))] []
  refine g_aload_n X dX7_part_0 1 rfl rfl ?_
  refine g_aload_n X dX7_part_1 2 rfl rfl ?_
  refine g_get (c := 43) (k := 2) (T := TX7) (sk := skX43) (v := .ref (kad K (29))) X wf_X7_37 inX7 dX7_part_2 5 rfl (by decide) rfl rfl (by decide) rfl ?_
  refine g_iload_n X dX7_part_5 6 rfl rfl ?_
  refine g_aload_n X dX7_part_6 7 rfl rfl ?_
  refine g_get (c := 43) (k := 4) (T := TX7) (sk := skX43) (v := .ref (kad K (45))) X wf_X7_15 inX7 dX7_part_7 10 rfl (by decide) rfl rfl (by decide) rfl ?_
  refine g_callVix (st := [.ref (kad K (43))]) (v := (nI ((glB (uin (h 30) (h 34) f) n).length))) (m2 := (mrow h 45 (grow (glB (uin (h 30) (h 34) f) n) 8 (h 45)))) X cw_X7_41 (c_X0_gather45 h q m f n (by exact hn) hn2 (by exact hc) hm2 (by omega)) dX7_part_10 13 rfl (by decide) rfl rfl rfl rfl rfl (by decide) (Nat.le_of_ble_eq_true rfl) ?_
  refine g_put (c := 43) (k := 5) (T := TX7) (sk := skX43) X wf_X7_47 inX7 tyX7_ok nmX7 dX7_part_13 16 rfl (by decide) rfl rfl (by decide) rfl rfl rfl ?_
  refine g_aload_n X dX7_part_16 17 rfl rfl ?_
  refine g_iload_n X dX7_part_17 18 rfl rfl ?_
  refine g_put (c := 43) (k := 6) (T := TX7) (sk := skX43) X wf_X7_51 inX7 tyX7_ok nmX7 dX7_part_18 21 rfl (by decide) rfl rfl (by decide) rfl rfl rfl ?_
  refine g_aload_n X dX7_part_21 22 rfl rfl ?_
  refine g_get (c := 43) (k := 5) (T := TX7) (sk := skX43) (v := .int (nI ((glB (uin (h 30) (h 34) f) n).length))) X wf_X7_47 inX7 dX7_part_22 25 rfl (by decide) rfl rfl (by decide) rfl ?_
  refine g_bipush X dX7_part_25 27 rfl (v := (nI (8))) rfl ?_
  refine g_icmp_le X (((glB (uin (h 30) (h 34) f) n).length : Nat) : Int) 8 dX7_part_27 33 (by decide) 30 rfl (nI_toInt (by omega)) rfl (fun t27 => ?_) (fun f27 => ?_)
  · skip
    have hU : WC (mup (mup (mrow h 45 (grow (glB (uin (h 30) (h 34) f) n) 8 (h 45))) 43 5 (nI (glB (uin (h 30) (h 34) f) n).length)) 43 6 (nI g)) (glB (uin (h 30) (h 34) f) n).length g n (fun j => (glB (uin (h 30) (h 34) f) n).getD j 0) := ⟨rfl, rfl, by omega, hg1, hg2, fun j hj => ⟨if_pos ⟨hj, by omega⟩, gl_lt hj⟩⟩
    have hY : WY (mup (mup (mrow h 45 (grow (glB (uin (h 30) (h 34) f) n) 8 (h 45))) 43 5 (nI (glB (uin (h 30) (h 34) f) n).length)) 43 6 (nI g)) d q p (fun j => (glB (uin (h 30) (h 34) f) n).getD j 0) (fun _ => 0) 0 := ⟨hh0, hs0⟩
    refine g_aload_n X dX7_part_33 34 rfl rfl ?_
    refine g_get (c := 43) (k := 5) (T := TX7) (sk := skX43) (v := .int (nI ((glB (uin (h 30) (h 34) f) n).length))) X wf_X7_47 inX7 dX7_part_34 37 rfl (by decide) rfl rfl (by decide) rfl ?_
    refine g_if_eq X (((glB (uin (h 30) (h 34) f) n).length : Nat) : Int) dX7_part_37 49 (by decide) 40 rfl (nI_toInt (by omega)) (fun t37 => ?_) (fun f37 => ?_)
    · skip
      refine g_bipush X dX7_part_49 51 rfl (v := (zI (-4))) rfl ?_
      refine g_iret (h := (mup (mup (mrow h 45 (grow (glB (uin (h 30) (h 34) f) n) 8 (h 45))) 43 5 (nI ((glB (uin (h 30) (h 34) f) n).length))) 43 6 (nI (g)))) (v := (zI (-4))) X Z dX7_part_51 ?_
      exact ⟨((if_neg (by omega)).trans (if_pos (Or.inl (by omega)))).symm, ((if_neg (by omega)).trans (if_pos (Or.inl (by omega)))).symm, fun c hc9 => by simp only [List.mem_cons, List.not_mem_nil, or_false, not_or] at hc9; simp [mrow, mup, hc9]⟩
    · skip
      refine g_aload_n X dX7_part_40 41 rfl rfl ?_
      refine g_get (c := 43) (k := 5) (T := TX7) (sk := skX43) (v := .int (nI ((glB (uin (h 30) (h 34) f) n).length))) X wf_X7_47 inX7 dX7_part_41 44 rfl (by decide) rfl rfl (by decide) rfl ?_
      refine g_iload_n X dX7_part_44 45 rfl rfl ?_
      have b45 := Nat.mod_le ((glB (uin (h 30) (h 34) f) n).length) g
      refine g_irem X (v := (nI (((glB (uin (h 30) (h 34) f) n).length) % g))) dX7_part_45 46 rfl (nI_ne (by omega) (by omega)) (pk_rem (by omega) (by omega) (by omega)) ?_
      refine g_if_eq X ((((glB (uin (h 30) (h 34) f) n).length) % g : Nat) : Int) dX7_part_46 52 (by decide) 49 rfl (nI_toInt (by omega)) (fun t46 => ?_) (fun f46 => ?_)
      · skip
        refine g_aload_n X dX7_part_52 53 rfl rfl ?_
        refine g_iconst X dX7_part_53 54 rfl (v := (nI (0))) rfl ?_
        refine g_iconst X dX7_part_54 55 rfl (v := (nI (0))) rfl ?_
        refine g_callVi (st := []) X cw_X7_54 (c_X7_choose (glB (uin (h 30) (h 34) f) n).length (mup (mup (mrow h 45 (grow (glB (uin (h 30) (h 34) f) n) 8 (h 45))) 43 5 (nI (glB (uin (h 30) (h 34) f) n).length)) 43 6 (nI g)) q p m n d (by exact C) (glB (uin (h 30) (h 34) f) n).length g 0 0 (fun j => (glB (uin (h 30) (h 34) f) n).getD j 0) (fun _ => 0) hU hY (fun j hj => absurd hj (Nat.not_lt_zero _)) (by omega) (by omega)) dX7_part_55 58 rfl (by decide) rfl rfl rfl rfl rfl (by omega) (Nat.le_of_ble_eq_true rfl) ?_
        rintro _ _ ⟨rfl, c3, rfl, -, hz3⟩
        refine g_ifne_B X dX7_part_58 64 (by decide) 61 rfl (fun t58 => ?_) (fun f58 => ?_)
        · skip
          have t59 : (chS g ((glB (uin (h 30) (h 34) f) n).length / g) (okW d q p g (glB (uin (h 30) (h 34) f) n).length (h 5) (fun j => (glB (uin (h 30) (h 34) f) n).getD j 0) (h 31) (h 32) (h 33)) (glB (uin (h 30) (h 34) f) n).length 0 0 (fun _ => 0)).isSome = true := t58
          obtain ⟨z9, hr9⟩ := Option.isSome_iff_exists.mp t59
          refine g_aload_n X dX7_part_64 65 rfl rfl ?_
          refine g_callVvx (st := []) (m2 := (mrow (mrow (mup (mup (mrow h 45 (grow (glB (uin (h 30) (h 34) f) n) 8 (h 45))) 43 5 (nI (glB (uin (h 30) (h 34) f) n).length)) 43 6 (nI g)) 46 c3) 44 (kcF (h 44) (fun j => (glB (uin (h 30) (h 34) f) n).getD j 0) z9 (glB (uin (h 30) (h 34) f) n).length))) X cw_X7_58 (c_X7_keepChosen (mrow (mup (mup (mrow h 45 (grow (glB (uin (h 30) (h 34) f) n) 8 (h 45))) 43 5 (nI (glB (uin (h 30) (h 34) f) n).length)) 43 6 (nI g)) 46 c3) (glB (uin (h 30) (h 34) f) n).length g n (fun j => (glB (uin (h 30) (h 34) f) n).getD j 0) z9 (by exact hU) hn2 (by exact hz3 z9 hr9)) dX7_part_65 68 rfl (by decide) rfl rfl rfl rfl rfl (by omega) (Nat.le_of_ble_eq_true rfl) ?_
          refine g_iconst X dX7_part_68 69 rfl (v := (nI (1))) rfl ?_
          refine g_iret (h := (mrow (mrow (mup (mup (mrow h 45 (grow (glB (uin (h 30) (h 34) f) n) 8 (h 45))) 43 5 (nI (glB (uin (h 30) (h 34) f) n).length)) 43 6 (nI g)) 46 c3) 44 (kcF (h 44) (fun j => (glB (uin (h 30) (h 34) f) n).getD j 0) z9 (glB (uin (h 30) (h 34) f) n).length))) (v := (nI (1))) X Z dX7_part_69 ?_
          exact ⟨((if_neg (by omega)).trans ((if_neg (by omega)).trans (by rw [hr9]))).symm, ((if_neg (by omega)).trans ((if_neg (by omega)).trans (by rw [hr9]; rfl))).symm, fun c hc9 => by simp only [List.mem_cons, List.not_mem_nil, or_false, not_or] at hc9; simp [mrow, mup, hc9]⟩
        · skip
          refine g_bipush X dX7_part_61 63 rfl (v := (zI (-4))) rfl ?_
          refine g_iret (h := (mrow (mup (mup (mrow h 45 (grow (glB (uin (h 30) (h 34) f) n) 8 (h 45))) 43 5 (nI (glB (uin (h 30) (h 34) f) n).length)) 43 6 (nI g)) 46 c3)) (v := (zI (-4))) X Z dX7_part_63 ?_
          have f59 : ¬ (chS g ((glB (uin (h 30) (h 34) f) n).length / g) (okW d q p g (glB (uin (h 30) (h 34) f) n).length (h 5) (fun j => (glB (uin (h 30) (h 34) f) n).getD j 0) (h 31) (h 32) (h 33)) (glB (uin (h 30) (h 34) f) n).length 0 0 (fun _ => 0)).isSome = true := f58
          have hr9 : (chS g ((glB (uin (h 30) (h 34) f) n).length / g) (okW d q p g (glB (uin (h 30) (h 34) f) n).length (h 5) (fun j => (glB (uin (h 30) (h 34) f) n).getD j 0) (h 31) (h 32) (h 33)) (glB (uin (h 30) (h 34) f) n).length 0 0 (fun _ => 0)) = none := by
            cases hr8 : (chS g ((glB (uin (h 30) (h 34) f) n).length / g) (okW d q p g (glB (uin (h 30) (h 34) f) n).length (h 5) (fun j => (glB (uin (h 30) (h 34) f) n).getD j 0) (h 31) (h 32) (h 33)) (glB (uin (h 30) (h 34) f) n).length 0 0 (fun _ => 0)) with
            | none => rfl
            | some z => rw [hr8] at f59; exact absurd rfl f59
          exact ⟨((if_neg (by omega)).trans ((if_neg (by omega)).trans (by rw [hr9]))).symm, ((if_neg (by omega)).trans ((if_neg (by omega)).trans (by rw [hr9]; rfl))).symm, fun c hc9 => by simp only [List.mem_cons, List.not_mem_nil, or_false, not_or] at hc9; simp [mrow, mup, hc9]⟩
      · skip
        refine g_bipush X dX7_part_49 51 rfl (v := (zI (-4))) rfl ?_
        refine g_iret (h := (mup (mup (mrow h 45 (grow (glB (uin (h 30) (h 34) f) n) 8 (h 45))) 43 5 (nI ((glB (uin (h 30) (h 34) f) n).length))) 43 6 (nI (g)))) (v := (zI (-4))) X Z dX7_part_51 ?_
        exact ⟨((if_neg (by omega)).trans (if_pos (Or.inr (by omega)))).symm, ((if_neg (by omega)).trans (if_pos (Or.inr (by omega)))).symm, fun c hc9 => by simp only [List.mem_cons, List.not_mem_nil, or_false, not_or] at hc9; simp [mrow, mup, hc9]⟩
  · skip
    refine g_bipush X dX7_part_30 32 rfl (v := (zI (-3))) rfl ?_
    refine g_iret (h := (mup (mup (mrow h 45 (grow (glB (uin (h 30) (h 34) f) n) 8 (h 45))) 43 5 (nI ((glB (uin (h 30) (h 34) f) n).length))) 43 6 (nI (g)))) (v := (zI (-3))) X Z dX7_part_32 ?_
    exact ⟨(if_pos (by omega)).symm, (if_pos (by omega)).symm, fun c hc9 => by simp only [List.mem_cons, List.not_mem_nil, or_false, not_or] at hc9; simp [mrow, mup, hc9]⟩
