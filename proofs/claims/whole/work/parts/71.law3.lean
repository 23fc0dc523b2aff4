/-! the law's loop, and its start -/
theorem and31 (x : Int32) : ∃ j, j < 32 ∧ x &&& nI 31 = nI j := by
  have h31 : (nI 31).toBitVec.toNat = 31 := pk_tn (by decide)
  have hlt : (x &&& nI 31).toBitVec.toNat < 32 := by
    rw [Int32.toBitVec_and, BitVec.toNat_and, h31]
    exact Nat.lt_of_le_of_lt Nat.and_le_right (by decide)
  refine ⟨(x &&& nI 31).toBitVec.toNat, hlt, ?_⟩
  have h : (x &&& nI 31).toBitVec = (nI (x &&& nI 31).toBitVec.toNat).toBitVec := BitVec.eq_of_toNat_eq (by rw [pk_tn (by omega)])
  exact Int32.toInt_inj.mp (congrArg BitVec.toInt h)
theorem ci_L_9 : CI RL 9 yX8_init cX8_init 1 0 false := ⟨wm_L_9, wn_X8, wc_X8_init, wi_X8_init, by decide +kernel, rfl⟩
theorem ci_L_12 : CI RL 12 yX9_init cX9_init 2 0 false := ⟨wm_L_12, wn_X9, wc_X9_init, wi_X9_init, by decide +kernel, rfl⟩
theorem nest_tab {w : Cond} (h : isNest w = true) : w.onTables = true := by
  cases w <;> first | rfl | cases h
theorem k_known {s : State} {args : Array Value} (hts : ∀ w ∈ lw_tbl, w.before args s = true) : ∃ (D : va_G) (cs : Nat × Nat × Nat), va_K D vwCl (tysC cs) s ∧ va_AOA .int s := by
  have g : ∀ w ∈ lw_good, w.before args s = true := fun w h => hts w (lw_sub h)
  obtain ⟨c0, i0, k0⟩ := u_known (C := RX0) (T := TX0) (N := 8) (n := 8) g inX0 (g _ wb_X0)
  obtain ⟨c1, i1, k1⟩ := u_known (C := RX1) (T := TX1) (N := 3) (n := 3) g inX1 (g _ wb_X1)
  obtain ⟨c2, i2, k2⟩ := u_known (C := RX2) (T := TX2) (N := 6) (n := 6) g inX2 (g _ wb_X2)
  obtain ⟨c3, i3, k3⟩ := u_known (C := RX3) (T := TX3) (N := 4) (n := 4) g inX3 (g _ wb_X3)
  obtain ⟨c4, i4, k4⟩ := u_known (C := RX4) (T := TX4) (N := 3) (n := 3) g inX4 (g _ wb_X4)
  obtain ⟨c5, i5, k5⟩ := u_known (C := RX5) (T := TX5) (N := 8) (n := 8) g inX5 (g _ wb_X5)
  obtain ⟨c6, i6, k6⟩ := u_known (C := RX6) (T := TX6) (N := 7) (n := 7) g inX6 (g _ wb_X6)
  obtain ⟨c7, i7, k7⟩ := u_known (C := RX7) (T := TX7) (N := 10) (n := 10) g inX7 (g _ wb_X7)
  obtain ⟨c8, i8, k8⟩ := u_known (C := RX8) (T := TX8) (N := 8) (n := 8) g inX8 (g _ wb_X8)
  obtain ⟨c9, i9, k9⟩ := u_known (C := RX9) (T := TX9) (N := 32) (n := 32) g inX9 (g _ wb_X9)
  obtain ⟨ca, ka, pa, fa1, fa2, fa3⟩ := Cond.arrayClass_spec (type := .int) (g _ wo_I)
  obtain ⟨cz, kz, pz, fz1, fz2, fz3⟩ := Cond.arrayClass_spec (type := .boolean) (g _ wo_Z)
  have hAO : va_AOA .int s := hts _ wo_O
  obtain ⟨pg, cg, kg, -, -, fg2, fg3, fg1⟩ := arrayOver_specB (t := .int) hAO
  refine ⟨⟨fun k => match k with | 0 => c0 | 1 => c1 | 2 => c2 | 3 => c3 | 4 => c4 | 5 => c5 | 6 => c6 | 7 => c7 | 8 => c8 | _ => c9, fun k => match k with | 0 => i0 | 1 => i1 | 2 => i2 | 3 => i3 | 4 => i4 | 5 => i5 | 6 => i6 | 7 => i7 | 8 => i8 | _ => i9⟩, (ca, cz, cg), ⟨fun k q hq => ?_, fun k q hq => ?_⟩, hAO⟩
  · match k, hq with
    | 0, hq => cases hq; exact k0
    | 1, hq => cases hq; exact k1
    | 2, hq => cases hq; exact k2
    | 3, hq => cases hq; exact k3
    | 4, hq => cases hq; exact k4
    | 5, hq => cases hq; exact k5
    | 6, hq => cases hq; exact k6
    | 7, hq => cases hq; exact k7
    | 8, hq => cases hq; exact k8
    | 9, hq => cases hq; exact k9
    | k + 10, hq => simp [vwCl] at hq
  · match k, hq with
    | 0, hq => cases hq; exact ⟨fun n z => ⟨fun k h => (by cases h), ka, fa2, pa, fa3⟩, fa1⟩
    | 1, hq => cases hq; exact ⟨fun n z => ⟨fun k h => (by cases h), kz, fz2, pz, fz3⟩, fz1⟩
    | 2, hq => cases hq; exact ⟨fun n z => ⟨fun k h => (by cases h), kg, fg2, pg, fg3⟩, fg1⟩
    | k + 3, hq => simp [tysC] at hq
theorem law_loop {K : KT} (X : Lx K) {b L ce sl : Nat} {xs : Nat → Int32} (Y : SX K b L xs) (hce : ce ≤ 600000 ∧ sl ≤ 7302250) {ad am : Nat → Nat} (fin : ∀ ws lv, B 4 K ws ce sl 889 lv [.int (nI 1)]) : ∀ (fu i : Nat) (hx hm : Mem), REL hx hm → i ≤ L → L - i < fu → B 4 K (wd 69 XL K.2.2.2.2.1 ad hx ++ wd 25 ML K.2.2.2.2.1 am hm) ce sl 18 [(0, .ref b), (1, .ref (ad 0)), (2, .ref (am 0)), (3, .int (nI i))] [] := by
  intro fu
  induction fu with
  | zero => intro i hx hm R hi hf; exact absurd hf (Nat.not_lt_zero _)
  | succ fu ih =>
    intro i hx hm R hi hf
    have hL : L ≤ 2560 := Y.2.2.2
    refine l_iload_n X dL_law_18 19 rfl rfl ?_
    refine l_aload_n X dL_law_19 20 rfl rfl ?_
    refine l_slen X Y dL_law_20 21 rfl ?_
    refine l_iconst X dL_law_21 22 rfl (v := nI 5) rfl ?_
    refine l_isub X dL_law_22 23 rfl (zn_sub (L : Int) 5) ?_
    refine l_icmp_gt X (i : Int) ((L : Int) - (5 : Nat)) dL_law_23 888 (by decide) 26 rfl (nI_toInt (by omega)) (zI_toInt (by omega)) (fun t => ?_) (fun f => ?_)
    · exact l_iconst X dL_law_888 889 rfl (v := nI 1) rfl (fin _ _)
    · have hi4 : i + 4 < L := by omega
      have next : ∀ hx2 hm2, REL hx2 hm2 → B 4 K (wd 69 XL K.2.2.2.2.1 ad hx2 ++ wd 25 ML K.2.2.2.2.1 am hm2) ce sl 882 [(0, .ref b), (1, .ref (ad 0)), (2, .ref (am 0)), (3, .int (nI i))] [] := by
        intro hx2 hm2 R2
        refine l_iinc X (v := nI (i + 5)) (lv' := [(0, .ref b), (1, .ref (ad 0)), (2, .ref (am 0)), (3, .int (nI (i + 5)))]) dL_law_882 885 rfl (by decide) rfl (n_inc i 5) rfl rfl ?_
        exact l_goto X dL_law_885 18 (by decide) (ih (i + 5) hx2 hm2 R2 (by omega) (by omega))
      obtain ⟨q, p, m, n, d, r⟩ := R
      refine l_aload_n X dL_law_26 27 rfl rfl ?_
      refine l_iload_n X dL_law_27 28 rfl rfl ?_
      refine l_sld X Y rfl (by omega) dL_law_28 29 rfl ?_
      refine l_bipush X dL_law_29 31 rfl (v := nI 31) rfl ?_
      obtain ⟨j, hj, ej⟩ := and31 (xs i)
      refine l_iand X dL_law_31 32 rfl ej ?_
      match j, hj with
      | 0, _ => exact l_switch X 0 rfl 144 112 (by decide) rfl (by decide) (lc_motor X Y hi4 hce r next)
      | 1, _ => exact l_switch X 1 rfl 187 155 (by decide) rfl (by decide) (lc_coil X Y hi4 hce r next)
      | 2, _ => exact l_switch X 2 rfl 240 208 (by decide) rfl (by decide) (lc_use X Y hi4 hce r next)
      | 3, _ => exact l_switch X 3 rfl 289 257 (by decide) rfl (by decide) (lc_clear X Y hi4 hce r next)
      | 4, _ => exact l_switch X 4 rfl 302 270 (by decide) rfl (by decide) (lc_make X Y hi4 hce r next)
      | 5, _ => exact l_switch X 5 rfl 325 293 (by decide) rfl (by decide) (lc_told X Y hi4 hce r next)
      | 6, _ => exact l_switch X 6 rfl 358 326 (by decide) rfl (by decide) (lc_sides X Y hi4 hce r next)
      | 7, _ => exact l_switch X 7 rfl 381 349 (by decide) rfl (by decide) (lc_count X Y hi4 hce r next)
      | 8, _ => exact l_switch X 8 rfl 404 372 (by decide) rfl (by decide) (lc_cyclotomic X Y hi4 hce r next)
      | 9, _ => exact l_switch X 9 rfl 427 395 (by decide) rfl (by decide) (lc_wave X Y hi4 hce r next)
      | 10, _ => exact l_switch X 10 rfl 470 438 (by decide) rfl (by decide) (lc_isStill X Y hi4 hce r next)
      | 11, _ => exact l_switch X 11 rfl 503 471 (by decide) rfl (by decide) (lc_balanced X Y hi4 hce r next)
      | 12, _ => exact l_switch X 12 rfl 526 494 (by decide) rfl (by decide) (lc_ways X Y hi4 hce r next)
      | 13, _ => exact l_switch X 13 rfl 559 527 (by decide) rfl (by decide) (lc_wayOf X Y hi4 hce r next)
      | 14, _ => exact l_switch X 14 rfl 582 550 (by decide) rfl (by decide) (lc_copper X Y hi4 hce r next)
      | 15, _ => exact l_switch X 15 rfl 595 563 (by decide) rfl (by decide) (lc_tour X Y hi4 hce r next)
      | 16, _ => exact l_switch X 16 rfl 618 586 (by decide) rfl (by decide) (lc_tourAt X Y hi4 hce r next)
      | 17, _ => exact l_switch X 17 rfl 641 609 (by decide) rfl (by decide) (lc_mend X Y hi4 hce r next)
      | 18, _ => exact l_switch X 18 rfl 654 622 (by decide) rfl (by decide) (lc_shorts X Y hi4 hce r next)
      | 19, _ => exact l_switch X 19 rfl 687 655 (by decide) rfl (by decide) (lc_picked X Y hi4 hce r next)
      | 20, _ => exact l_switch X 20 rfl 710 678 (by decide) rfl (by decide) (lc_sheet X Y hi4 hce r next)
      | 21, _ => exact l_switch X 21 rfl 753 721 (by decide) rfl (by decide) (lc_drop X Y hi4 hce r next)
      | 22, _ => exact l_switch X 22 rfl 776 744 (by decide) rfl (by decide) (lc_item X Y hi4 hce r next)
      | 23, _ => exact l_switch X 23 rfl 829 797 (by decide) rfl (by decide) (lc_coils X Y hi4 hce r next)
      | j + 24, hj => exact l_switchO X (Or.inr (by rw [nI_toInt (by omega)]; omega)) (next hx hm ⟨q, p, m, n, d, r⟩)
set_option maxRecDepth 100000 in
theorem law_main {K : KT} (X : Lx K) {b L : Nat} {xs : Nat → Int32} (Y : SX K b L xs) (fin : ∀ ws lv, B 4 K ws 94 3833 889 lv [.int (nI 1)]) : B 4 K [] 0 0 0 [(0, .ref b)] [] := by
  refine l_new (ci := 8) (C := RX8) (T := TX8) (n := 8) (ty := tyX8) (fs := [.null, .null, .null, .null, .null, .null, .null, .null]) X inX8 tyX8_ok wl_L_7 wb_X8 wn_X8 rfl (fun j hj => by match j, hj with | 0, _ => rfl | 1, _ => rfl | 2, _ => rfl | 3, _ => rfl | 4, _ => rfl | 5, _ => rfl | 6, _ => rfl | 7, _ => rfl | k + 8, h => exact absurd h (by omega)) (Nat.le_of_ble_eq_true rfl) (Nat.le_of_ble_eq_true rfl) dL_law_0 3 rfl (fun a => ?_)
  refine l_dup X (v := .ref a) dL_law_3 4 rfl rfl ?_
  refine l_init1 (wr := []) (As := []) (st := [.ref a]) X ci_L_9 (c_X8_init a) dL_law_4 7 rfl rfl rfl rfl ⟨Nat.le_of_ble_eq_true rfl, Nat.le_of_ble_eq_true rfl⟩ (Nat.le_of_ble_eq_true rfl) (Nat.le_of_ble_eq_true rfl) (Nat.le_of_ble_eq_true rfl) (fun ad hp => ?_)
  subst hp
  refine l_astore_n X (lv' := [(0, .ref b), (1, .ref (ad 0))]) dL_law_7 8 rfl (by decide) rfl rfl ?_
  show B 4 K (wd 69 XL K.2.2.2.2.1 ad hX1) 69 1502 8 [(0, .ref b), (1, .ref (ad 0))] []
  refine l_new (ci := 9) (C := RX9) (T := TX9) (n := 32) (ty := tyX9) (fs := [.int 0, .int 0, .int 0, .int 0, .null, .null, .null, .null, .null, .null, .int 0, .null, .null, .null, .null, .null, .null, .null, .int 0, .null, .null, .null, .null, .null, .int 0, .null, .int 0, .null, .null, .null, .null, .null]) X inX9 tyX9_ok wl_L_10 wb_X9 wn_X9 rfl (fun j hj => by match j, hj with | 0, _ => rfl | 1, _ => rfl | 2, _ => rfl | 3, _ => rfl | 4, _ => rfl | 5, _ => rfl | 6, _ => rfl | 7, _ => rfl | 8, _ => rfl | 9, _ => rfl | 10, _ => rfl | 11, _ => rfl | 12, _ => rfl | 13, _ => rfl | 14, _ => rfl | 15, _ => rfl | 16, _ => rfl | 17, _ => rfl | 18, _ => rfl | 19, _ => rfl | 20, _ => rfl | 21, _ => rfl | 22, _ => rfl | 23, _ => rfl | 24, _ => rfl | 25, _ => rfl | 26, _ => rfl | 27, _ => rfl | 28, _ => rfl | 29, _ => rfl | 30, _ => rfl | 31, _ => rfl | k + 32, h => exact absurd h (by omega)) (Nat.le_of_ble_eq_true rfl) (Nat.le_of_ble_eq_true rfl) dL_law_8 11 rfl (fun a => ?_)
  refine l_dup X (v := .ref a) dL_law_11 12 rfl rfl ?_
  refine l_init1 (wr := wd 69 XL K.2.2.2.2.1 ad hX1) (As := []) (st := [.ref a]) X ci_L_12 (c_X9_init a) dL_law_12 15 rfl rfl rfl rfl ⟨Nat.le_of_ble_eq_true rfl, Nat.le_of_ble_eq_true rfl⟩ (Nat.le_of_ble_eq_true rfl) (Nat.le_of_ble_eq_true rfl) (Nat.le_of_ble_eq_true rfl) (fun u hp => ?_)
  obtain ⟨am, hm⟩ := u
  obtain ⟨hp, h7, h10, hg⟩ := hp
  have hp : am 0 = a := hp
  subst hp
  refine l_astore_n X (lv' := [(0, .ref b), (1, .ref (ad 0)), (2, .ref (am 0))]) dL_law_15 16 rfl (by decide) rfl rfl ?_
  refine l_iconst X dL_law_16 17 rfl (v := nI 0) rfl ?_
  refine l_istore_n X (lv' := [(0, .ref b), (1, .ref (ad 0)), (2, .ref (am 0)), (3, .int (nI 0))]) dL_law_17 18 rfl (by decide) rfl rfl ?_
  exact law_loop X Y ⟨Nat.le_of_ble_eq_true rfl, Nat.le_of_ble_eq_true rfl⟩ fin (L + 1) 0 hX1 hm ⟨12, 1, 3, 0, 4, rl_0 h7 h10 hg⟩ (Nat.zero_le L) (by omega)
