/-! constructors that fill a row: a layout of their own while they do -/
def zM : Mem := fun _ _ => 0
def negK (F : Nat → Int32) (v : Int32) (k : Nat) : Nat → Int32 := fun j => if j < k then v else F j
theorem negK_0 (F : Nat → Int32) (v : Int32) : negK F v 0 = F := by funext j; unfold negK; rw [if_neg (by omega)]
theorem negK_s (F : Nat → Int32) (v : Int32) (k : Nat) : upd (negK F v k) k v = negK F v (k + 1) := by
  funext i
  unfold negK
  by_cases hi : i = k
  · subst hi; rw [upd_s, if_pos (by omega)]
  · rw [upd_n _ _ hi]
    by_cases h3 : i < k
    · rw [if_pos h3, if_pos (by omega)]
    · rw [if_neg h3, if_neg (by omega)]
theorem x4 {n : Nat} {f g : Nat → Int32} (e : ∀ i, i < n → f i = g i) : (fun i => if i < n then f (i + 0) else 0) = (fun i => if i < n then g (i + 0) else 0) := by
  funext i
  by_cases c : i < n
  · rw [if_pos c, if_pos c]; exact e i c
  · rw [if_neg c, if_neg c]
def skWFL : Nat → Option Nat := fun k => match k with
  | 0 => some 100
  | 1 => some 101
  | 2 => some 102
  | 3 => some 1
  | 4 => some 2
  | 5 => none
  | 6 => none
  | 7 => some 3
  | 8 => some 4
  | _ => some 5
def WFL : Nat → KD := fun c =>
  if 6 ≤ c ∧ c < 10 then .inr (0, 24, 6, 24 * (c - 6)) else
  match c with
  | 0 => .inl (7, 10, skWFL)
  | 1 => .inr (0, 24, 1, 0)
  | 2 => .inr (0, 8, 2, 0)
  | 3 => .inr (0, 8, 3, 0)
  | 4 => .inr (0, 4, 4, 0)
  | _ => .inr (2, 4, 6, 0)
theorem WFLW : LWb 10 WFL = true := by decide +kernel
theorem WFL_g {i : Nat} (hi : i < 4) : WFL (6 + i) = .inr (0, 24, 6, 24 * i) := by
  unfold WFL
  rw [if_pos (by omega), Nat.add_sub_cancel_left]
set_option maxHeartbeats 1000000 in
set_option maxRecDepth 100000 in
theorem lp_X7 {K : KT} {fr lo : Nat} (X : Cx 10 WFL 5 cX7_init RX7 none fr lo K) (b1 b2 b3 : Nat) (k : G 10 WFL 5 K (mrow zM 1 (negK (zM 1) (zI (-4)) 24)) 86 [(0, .ref (kad K 0)), (1, .ref b1), (2, .ref b2), (3, .ref b3), (4, .int (nI (24)))] []) : G 10 WFL 5 K zM 61 [(0, .ref (kad K 0)), (1, .ref b1), (2, .ref b2), (3, .ref b3)] [] := by
  refine g_iconst X dX7_init_61 62 rfl (v := nI 0) rfl ?_
  refine g_istore X (lv' := [(0, .ref (kad K 0)), (1, .ref b1), (2, .ref b2), (3, .ref b3), (4, .int (nI (0)))]) dX7_init_62 64 rfl (by decide) rfl rfl ?_
  have lp : ∀ (fu : Nat) (k : Nat) (hk : k ≤ 24), 24 - k < fu → G 10 WFL 5 K (mrow zM 1 (negK (zM 1) (zI (-4)) k)) 64 [(0, .ref (kad K 0)), (1, .ref b1), (2, .ref b2), (3, .ref b3), (4, .int (nI (k)))] [] := by
    intro fu
    induction fu with
    | zero => intro k hk hm; exact absurd hm (Nat.not_lt_zero _)
    | succ fu ih =>
      intro k9 hk hm
      refine g_iload X dX7_init_64 66 rfl rfl ?_
      refine g_bipush X dX7_init_66 68 rfl (v := (nI (24))) rfl ?_
      refine g_icmp_ge X ((k9 : Nat) : Int) 24 dX7_init_68 86 (by decide) 71 rfl (nI_toInt (by omega)) rfl (fun t5 => ?_) (fun f5 => ?_)
      · have e9 : k9 = 24 := by omega
        rw [e9]
        exact k
      · refine g_aload_n X dX7_init_71 72 rfl rfl ?_
        refine g_get (c := 0) (k := 3) (T := TX7) (sk := skWFL) (v := .ref (kad K 1)) X wf_X7_9 inX7 dX7_init_72 75 rfl (by decide) rfl rfl (by decide) rfl ?_
        refine g_iload X dX7_init_75 77 rfl rfl ?_
        refine g_bipush X dX7_init_77 79 rfl (v := (zI (-4))) (by decide) ?_
        refine g_iast (c := 1) (n := 24) (r := 1) (o := 0) (i := k9) X dX7_init_79 80 rfl (by decide) rfl rfl (by omega) ?_
        refine g_iinc X (v := (nI (k9 + 1))) (lv' := [(0, .ref (kad K 0)), (1, .ref b1), (2, .ref b2), (3, .ref b3), (4, .int (nI (k9 + 1)))]) dX7_init_80 83 rfl (by decide) rfl (n_inc k9 1) rfl rfl ?_
        refine g_goto X dX7_init_83 64 (by decide) ?_
        refine g_mem (h := mup (mrow zM 1 (negK (zM 1) (zI (-4)) k9)) 1 (k9 + 0) (zI (-4))) (h' := mrow zM 1 (negK (zM 1) (zI (-4)) (k9 + 1))) ?_ (ih (k9 + 1) (by omega) (by omega))
        rw [mup_m, Nat.add_zero, negK_s]
  refine g_mem (h := zM) (h' := mrow zM 1 (negK (zM 1) (zI (-4)) 0)) ?_ (lp _ 0 (by omega) (Nat.lt_succ_self _))
  rw [negK_0, mrow_id]
set_option maxHeartbeats 1000000 in
set_option maxRecDepth 100000 in
theorem c_X7_init (h : Mem) (hz : ∀ r, r ∈ [43, 45, 46, 47, 49] → ∀ i, h r i = 0) (hv : ∀ i, i < 24 → h 44 i = zI (-4)) (a b1 b2 b3 : Nat) : cB yX7_init cX7_init 5 1 20 9 144 [.ref a, .ref b1, .ref b2, .ref b3] [(a, .inr (7, [.null, .null, .null, .null, .null, .int 0, .int 0, .null, .null, .null]))] (fun ad => ad 43 = a ∧ ad 1 = b1 ∧ ad 2 = b2 ∧ ad 29 = b3) (fun cs ad => wl ([43, 44, 45, 46, 47, 48] ++ (List.range 4).map (49 + ·)) XL cs ad h) := by
  refine cB_of (by decide +kernel) (Nat.le_of_ble_eq_true rfl) rfl ?_
  intro K X Z
  show B 5 K [(a, .inr (7, [.null, .null, .null, .null, .null, .int 0, .int 0, .null, .null, .null]))] 0 0 0 [(0, .ref a), (1, .ref b1), (2, .ref b2), (3, .ref b3)] []
  refine b_aload_n X dX7_init_0 1 rfl rfl ?_
  refine b_obj X wo_X7 dX7_init_1 4 rfl ⟨Nat.le_of_ble_eq_true rfl, Nat.le_of_ble_eq_true rfl⟩ (Nat.le_of_ble_eq_true rfl) ?_
  refine b_aload_n X dX7_init_4 5 rfl rfl ?_
  refine b_bipush X (v := nI 24) dX7_init_5 7 rfl (by decide) ?_
  refine b_newi X (n := 24) (by decide) rfl (Nat.le_of_ble_eq_true rfl) (Nat.le_of_ble_eq_true rfl) dX7_init_7 9 rfl (fun a1 => ?_)
  show B 5 K ([(a, .inr (7, [.null, .null, .null, .null, .null, .int 0, .int 0, .null, .null, .null])), (a1, .inl (K.2.2.2.2.1.1, 24, .inl (fun _ => 0)))]) 1 24 9 [(0, .ref a), (1, .ref b1), (2, .ref b2), (3, .ref b3)] [.ref a1, .ref a]
  refine b_putF (c := 0) (ci := 7) (k := 3) (T := TX7) (ty0 := tyX7) X wf_X7_9 inX7 tyX7_ok nmX7 dX7_init_9 12 rfl rfl rfl (by decide) rfl rfl rfl rfl rfl (Nat.le_of_ble_eq_true rfl) (ws' := [(a, .inr (7, [.null, .null, .null, .ref a1, .null, .int 0, .int 0, .null, .null, .null])), (a1, .inl (K.2.2.2.2.1.1, 24, .inl (fun _ => 0)))]) rfl ?_
  refine b_aload_n X dX7_init_12 13 rfl rfl ?_
  refine b_bipush X (v := nI 8) dX7_init_13 15 rfl (by decide) ?_
  refine b_newi X (n := 8) (by decide) rfl (Nat.le_of_ble_eq_true rfl) (Nat.le_of_ble_eq_true rfl) dX7_init_15 17 rfl (fun a2 => ?_)
  show B 5 K ([(a, .inr (7, [.null, .null, .null, .ref a1, .null, .int 0, .int 0, .null, .null, .null])), (a1, .inl (K.2.2.2.2.1.1, 24, .inl (fun _ => 0))), (a2, .inl (K.2.2.2.2.1.1, 8, .inl (fun _ => 0)))]) 2 32 17 [(0, .ref a), (1, .ref b1), (2, .ref b2), (3, .ref b3)] [.ref a2, .ref a]
  refine b_putF (c := 0) (ci := 7) (k := 4) (T := TX7) (ty0 := tyX7) X wf_X7_15 inX7 tyX7_ok nmX7 dX7_init_17 20 rfl rfl rfl (by decide) rfl rfl rfl rfl rfl (Nat.le_of_ble_eq_true rfl) (ws' := [(a, .inr (7, [.null, .null, .null, .ref a1, .ref a2, .int 0, .int 0, .null, .null, .null])), (a1, .inl (K.2.2.2.2.1.1, 24, .inl (fun _ => 0))), (a2, .inl (K.2.2.2.2.1.1, 8, .inl (fun _ => 0)))]) rfl ?_
  refine b_aload_n X dX7_init_20 21 rfl rfl ?_
  refine b_bipush X (v := nI 8) dX7_init_21 23 rfl (by decide) ?_
  refine b_newi X (n := 8) (by decide) rfl (Nat.le_of_ble_eq_true rfl) (Nat.le_of_ble_eq_true rfl) dX7_init_23 25 rfl (fun a3 => ?_)
  show B 5 K ([(a, .inr (7, [.null, .null, .null, .ref a1, .ref a2, .int 0, .int 0, .null, .null, .null])), (a1, .inl (K.2.2.2.2.1.1, 24, .inl (fun _ => 0))), (a2, .inl (K.2.2.2.2.1.1, 8, .inl (fun _ => 0))), (a3, .inl (K.2.2.2.2.1.1, 8, .inl (fun _ => 0)))]) 3 40 25 [(0, .ref a), (1, .ref b1), (2, .ref b2), (3, .ref b3)] [.ref a3, .ref a]
  refine b_putF (c := 0) (ci := 7) (k := 7) (T := TX7) (ty0 := tyX7) X wf_X7_18 inX7 tyX7_ok nmX7 dX7_init_25 28 rfl rfl rfl (by decide) rfl rfl rfl rfl rfl (Nat.le_of_ble_eq_true rfl) (ws' := [(a, .inr (7, [.null, .null, .null, .ref a1, .ref a2, .int 0, .int 0, .ref a3, .null, .null])), (a1, .inl (K.2.2.2.2.1.1, 24, .inl (fun _ => 0))), (a2, .inl (K.2.2.2.2.1.1, 8, .inl (fun _ => 0))), (a3, .inl (K.2.2.2.2.1.1, 8, .inl (fun _ => 0)))]) rfl ?_
  refine b_aload_n X dX7_init_28 29 rfl rfl ?_
  refine b_iconst X (v := nI 4) dX7_init_29 30 rfl (by decide) ?_
  refine b_newi X (n := 4) (by decide) rfl (Nat.le_of_ble_eq_true rfl) (Nat.le_of_ble_eq_true rfl) dX7_init_30 32 rfl (fun a4 => ?_)
  show B 5 K ([(a, .inr (7, [.null, .null, .null, .ref a1, .ref a2, .int 0, .int 0, .ref a3, .null, .null])), (a1, .inl (K.2.2.2.2.1.1, 24, .inl (fun _ => 0))), (a2, .inl (K.2.2.2.2.1.1, 8, .inl (fun _ => 0))), (a3, .inl (K.2.2.2.2.1.1, 8, .inl (fun _ => 0))), (a4, .inl (K.2.2.2.2.1.1, 4, .inl (fun _ => 0)))]) 4 44 32 [(0, .ref a), (1, .ref b1), (2, .ref b2), (3, .ref b3)] [.ref a4, .ref a]
  refine b_putF (c := 0) (ci := 7) (k := 8) (T := TX7) (ty0 := tyX7) X wf_X7_21 inX7 tyX7_ok nmX7 dX7_init_32 35 rfl rfl rfl (by decide) rfl rfl rfl rfl rfl (Nat.le_of_ble_eq_true rfl) (ws' := [(a, .inr (7, [.null, .null, .null, .ref a1, .ref a2, .int 0, .int 0, .ref a3, .ref a4, .null])), (a1, .inl (K.2.2.2.2.1.1, 24, .inl (fun _ => 0))), (a2, .inl (K.2.2.2.2.1.1, 8, .inl (fun _ => 0))), (a3, .inl (K.2.2.2.2.1.1, 8, .inl (fun _ => 0))), (a4, .inl (K.2.2.2.2.1.1, 4, .inl (fun _ => 0)))]) rfl ?_
  refine b_aload_n X dX7_init_35 36 rfl rfl ?_
  refine b_iconst X (v := nI 4) dX7_init_36 37 rfl (by decide) ?_
  refine b_bipush X (v := nI 24) dX7_init_37 39 rfl (by decide) ?_
  refine b_newg X (n := 4) (m := 24) (by decide) (by decide) rfl rfl wl_X7_24 (Nat.le_of_ble_eq_true rfl) (Nat.le_of_ble_eq_true rfl) dX7_init_39 43 rfl (fun a5 r5 => ?_)
  show B 5 K ([(a, .inr (7, [.null, .null, .null, .ref a1, .ref a2, .int 0, .int 0, .ref a3, .ref a4, .null])), (a1, .inl (K.2.2.2.2.1.1, 24, .inl (fun _ => 0))), (a2, .inl (K.2.2.2.2.1.1, 8, .inl (fun _ => 0))), (a3, .inl (K.2.2.2.2.1.1, 8, .inl (fun _ => 0))), (a4, .inl (K.2.2.2.2.1.1, 4, .inl (fun _ => 0))), (a5, .inl (K.2.2.2.2.1.2.2, 4, .inr (.inr (.inr (.inr (fun i => if i < 4 then some (r5 i) else none))))))] ++ (List.range 4).map (fun i => (r5 i, .inl (K.2.2.2.2.1.1, 24, .inl (fun _ => 0))))) 9 144 43 [(0, .ref a), (1, .ref b1), (2, .ref b2), (3, .ref b3)] [.ref a5, .ref a]
  refine b_putF (c := 0) (ci := 7) (k := 9) (T := TX7) (ty0 := tyX7) X wf_X7_26 inX7 tyX7_ok nmX7 dX7_init_43 46 rfl rfl rfl (by decide) rfl rfl rfl rfl rfl (Nat.le_of_ble_eq_true rfl) (ws' := [(a, .inr (7, [.null, .null, .null, .ref a1, .ref a2, .int 0, .int 0, .ref a3, .ref a4, .ref a5])), (a1, .inl (K.2.2.2.2.1.1, 24, .inl (fun _ => 0))), (a2, .inl (K.2.2.2.2.1.1, 8, .inl (fun _ => 0))), (a3, .inl (K.2.2.2.2.1.1, 8, .inl (fun _ => 0))), (a4, .inl (K.2.2.2.2.1.1, 4, .inl (fun _ => 0))), (a5, .inl (K.2.2.2.2.1.2.2, 4, .inr (.inr (.inr (.inr (fun i => if i < 4 then some (r5 i) else none))))))] ++ (List.range 4).map (fun i => (r5 i, .inl (K.2.2.2.2.1.1, 24, .inl (fun _ => 0))))) rfl ?_
  refine b_aload_n X dX7_init_46 47 rfl rfl ?_
  refine b_aload_n X dX7_init_47 48 rfl rfl ?_
  refine b_putF (c := 0) (ci := 7) (k := 0) (T := TX7) (ty0 := tyX7) X wf_X7_29 inX7 tyX7_ok nmX7 dX7_init_48 51 rfl rfl rfl (by decide) rfl rfl rfl rfl rfl (Nat.le_of_ble_eq_true rfl) (ws' := [(a, .inr (7, [.ref b1, .null, .null, .ref a1, .ref a2, .int 0, .int 0, .ref a3, .ref a4, .ref a5])), (a1, .inl (K.2.2.2.2.1.1, 24, .inl (fun _ => 0))), (a2, .inl (K.2.2.2.2.1.1, 8, .inl (fun _ => 0))), (a3, .inl (K.2.2.2.2.1.1, 8, .inl (fun _ => 0))), (a4, .inl (K.2.2.2.2.1.1, 4, .inl (fun _ => 0))), (a5, .inl (K.2.2.2.2.1.2.2, 4, .inr (.inr (.inr (.inr (fun i => if i < 4 then some (r5 i) else none))))))] ++ (List.range 4).map (fun i => (r5 i, .inl (K.2.2.2.2.1.1, 24, .inl (fun _ => 0))))) rfl ?_
  refine b_aload_n X dX7_init_51 52 rfl rfl ?_
  refine b_aload_n X dX7_init_52 53 rfl rfl ?_
  refine b_putF (c := 0) (ci := 7) (k := 1) (T := TX7) (ty0 := tyX7) X wf_X7_33 inX7 tyX7_ok nmX7 dX7_init_53 56 rfl rfl rfl (by decide) rfl rfl rfl rfl rfl (Nat.le_of_ble_eq_true rfl) (ws' := [(a, .inr (7, [.ref b1, .ref b2, .null, .ref a1, .ref a2, .int 0, .int 0, .ref a3, .ref a4, .ref a5])), (a1, .inl (K.2.2.2.2.1.1, 24, .inl (fun _ => 0))), (a2, .inl (K.2.2.2.2.1.1, 8, .inl (fun _ => 0))), (a3, .inl (K.2.2.2.2.1.1, 8, .inl (fun _ => 0))), (a4, .inl (K.2.2.2.2.1.1, 4, .inl (fun _ => 0))), (a5, .inl (K.2.2.2.2.1.2.2, 4, .inr (.inr (.inr (.inr (fun i => if i < 4 then some (r5 i) else none))))))] ++ (List.range 4).map (fun i => (r5 i, .inl (K.2.2.2.2.1.1, 24, .inl (fun _ => 0))))) rfl ?_
  refine b_aload_n X dX7_init_56 57 rfl rfl ?_
  refine b_aload_n X dX7_init_57 58 rfl rfl ?_
  refine b_putF (c := 0) (ci := 7) (k := 2) (T := TX7) (ty0 := tyX7) X wf_X7_37 inX7 tyX7_ok nmX7 dX7_init_58 61 rfl rfl rfl (by decide) rfl rfl rfl rfl rfl (Nat.le_of_ble_eq_true rfl) (ws' := [(a, .inr (7, [.ref b1, .ref b2, .ref b3, .ref a1, .ref a2, .int 0, .int 0, .ref a3, .ref a4, .ref a5])), (a1, .inl (K.2.2.2.2.1.1, 24, .inl (fun _ => 0))), (a2, .inl (K.2.2.2.2.1.1, 8, .inl (fun _ => 0))), (a3, .inl (K.2.2.2.2.1.1, 8, .inl (fun _ => 0))), (a4, .inl (K.2.2.2.2.1.1, 4, .inl (fun _ => 0))), (a5, .inl (K.2.2.2.2.1.2.2, 4, .inr (.inr (.inr (.inr (fun i => if i < 4 then some (r5 i) else none))))))] ++ (List.range 4).map (fun i => (r5 i, .inl (K.2.2.2.2.1.1, 24, .inl (fun _ => 0))))) rfl ?_
  have e1 : ∀ i, i < 4 → (fun c => if 49 ≤ c ∧ c < 53 then r5 (c - 49) else lq [(43, a), (1, b1), (2, b2), (29, b3), (44, a1), (45, a2), (46, a3), (47, a4), (48, a5)] c) (49 + i) = r5 i := by
    intro i hi
    show (if 49 ≤ 49 + i ∧ 49 + i < 53 then r5 (49 + i - 49) else _) = r5 i
    rw [if_pos (by omega), Nat.add_sub_cancel_left]
  have e2 : ∀ i, i < 4 → (fun c => if 6 ≤ c ∧ c < 10 then r5 (c - 6) else lq [(0, a), (1, a1), (2, a2), (3, a3), (4, a4), (5, a5), (100, b1), (101, b2), (102, b3)] c) (6 + i) = r5 i := by
    intro i hi
    show (if 6 ≤ 6 + i ∧ 6 + i < 10 then r5 (6 + i - 6) else _) = r5 i
    rw [if_pos (by omega), Nat.add_sub_cancel_left]
  refine b_toG (N := 10) (L := WFL) WFLW X zM (fun c => if 6 ≤ c ∧ c < 10 then r5 (c - 6) else lq [(0, a), (1, a1), (2, a2), (3, a3), (4, a4), (5, a5), (100, b1), (101, b2), (102, b3)] c) ?_ (Nat.le_of_ble_eq_true rfl) (Nat.le_of_ble_eq_true rfl) (fun X9 => ?_)
  · show _ = wl ([0, 1, 2, 3, 4, 5] ++ (List.range 4).map (6 + ·)) WFL K.2.2.2.2.1 (fun c => if 6 ≤ c ∧ c < 10 then r5 (c - 6) else lq [(0, a), (1, a1), (2, a2), (3, a3), (4, a4), (5, a5), (100, b1), (101, b2), (102, b3)] c) zM
    rw [wl_app]
    refine cg2 ?_ (wl_grid e2 WFL_g (fun _ => rfl))
    show ([(a, .inr (7, [.ref b1, .ref b2, .ref b3, .ref a1, .ref a2, .int 0, .int 0, .ref a3, .ref a4, .ref a5])), (a1, .inl (K.2.2.2.2.1.1, 24, .inl (fun _ => 0))), (a2, .inl (K.2.2.2.2.1.1, 8, .inl (fun _ => 0))), (a3, .inl (K.2.2.2.2.1.1, 8, .inl (fun _ => 0))), (a4, .inl (K.2.2.2.2.1.1, 4, .inl (fun _ => 0))), (a5, .inl (K.2.2.2.2.1.2.2, 4, .inr (.inr (.inr (.inr (fun i => if i < 4 then some (r5 i) else none))))))] : va_W) = [(a, .inr (7, [.ref b1, .ref b2, .ref b3, .ref a1, .ref a2, .int (zM 0 5), .int (zM 0 6), .ref a3, .ref a4, .ref a5])), (a1, .inl (K.2.2.2.2.1.1, 24, .inl (fun i => if i < 24 then zM 1 (i + 0) else 0))), (a2, .inl (K.2.2.2.2.1.1, 8, .inl (fun i => if i < 8 then zM 2 (i + 0) else 0))), (a3, .inl (K.2.2.2.2.1.1, 8, .inl (fun i => if i < 8 then zM 3 (i + 0) else 0))), (a4, .inl (K.2.2.2.2.1.1, 4, .inl (fun i => if i < 4 then zM 4 (i + 0) else 0))), (a5, .inl (K.2.2.2.2.1.2.2, 4, .inr (.inr (.inr (.inr (fun i => if i < 4 then some ((fun c => if 6 ≤ c ∧ c < 10 then r5 (c - 6) else lq [(0, a), (1, a1), (2, a2), (3, a3), (4, a4), (5, a5), (100, b1), (101, b2), (102, b3)] c) (6 + i)) else none))))))]
    rw [xz (h := zM) (r := 1) (n := 24) (o := 0) (fun _ => rfl), xz (h := zM) (r := 2) (n := 8) (o := 0) (fun _ => rfl), xz (h := zM) (r := 3) (n := 8) (o := 0) (fun _ => rfl), xz (h := zM) (r := 4) (n := 4) (o := 0) (fun _ => rfl), xo (n := 4) (b := 6) (ad := (fun c => if 6 ≤ c ∧ c < 10 then r5 (c - 6) else lq [(0, a), (1, a1), (2, a2), (3, a3), (4, a4), (5, a5), (100, b1), (101, b2), (102, b3)] c)) (r := r5) e2]
    try rfl
  · refine lp_X7 X9 b1 b2 b3 (g_toB X9 (b_ret X Z dX7_init_86 (fun c => if 49 ≤ c ∧ c < 53 then r5 (c - 49) else lq [(43, a), (1, b1), (2, b2), (29, b3), (44, a1), (45, a2), (46, a3), (47, a4), (48, a5)] c) ⟨rfl, rfl, rfl, rfl⟩ ?_))
    show wl ([0, 1, 2, 3, 4, 5] ++ (List.range 4).map (6 + ·)) WFL K.2.2.2.2.1 (fun c => if 6 ≤ c ∧ c < 10 then r5 (c - 6) else lq [(0, a), (1, a1), (2, a2), (3, a3), (4, a4), (5, a5), (100, b1), (101, b2), (102, b3)] c) (mrow zM 1 (negK (zM 1) (zI (-4)) 24)) = wl ([43, 44, 45, 46, 47, 48] ++ (List.range 4).map (49 + ·)) XL K.2.2.2.2.1 (fun c => if 49 ≤ c ∧ c < 53 then r5 (c - 49) else lq [(43, a), (1, b1), (2, b2), (29, b3), (44, a1), (45, a2), (46, a3), (47, a4), (48, a5)] c) h
    rw [wl_app, wl_app]
    refine cg2 ?_ ((wl_grid e2 WFL_g (fun _ => rfl)).symm.trans (wl_grid e1 XL_49 (hz 49 (by decide))))
    show ([(a, .inr (7, [.ref b1, .ref b2, .ref b3, .ref a1, .ref a2, .int ((mrow zM 1 (negK (zM 1) (zI (-4)) 24)) 0 5), .int ((mrow zM 1 (negK (zM 1) (zI (-4)) 24)) 0 6), .ref a3, .ref a4, .ref a5])), (a1, .inl (K.2.2.2.2.1.1, 24, .inl (fun i => if i < 24 then (mrow zM 1 (negK (zM 1) (zI (-4)) 24)) 1 (i + 0) else 0))), (a2, .inl (K.2.2.2.2.1.1, 8, .inl (fun i => if i < 8 then (mrow zM 1 (negK (zM 1) (zI (-4)) 24)) 2 (i + 0) else 0))), (a3, .inl (K.2.2.2.2.1.1, 8, .inl (fun i => if i < 8 then (mrow zM 1 (negK (zM 1) (zI (-4)) 24)) 3 (i + 0) else 0))), (a4, .inl (K.2.2.2.2.1.1, 4, .inl (fun i => if i < 4 then (mrow zM 1 (negK (zM 1) (zI (-4)) 24)) 4 (i + 0) else 0))), (a5, .inl (K.2.2.2.2.1.2.2, 4, .inr (.inr (.inr (.inr (fun i => if i < 4 then some ((fun c => if 6 ≤ c ∧ c < 10 then r5 (c - 6) else lq [(0, a), (1, a1), (2, a2), (3, a3), (4, a4), (5, a5), (100, b1), (101, b2), (102, b3)] c) (6 + i)) else none))))))] : va_W) = [(a, .inr (7, [.ref b1, .ref b2, .ref b3, .ref a1, .ref a2, .int (h 43 5), .int (h 43 6), .ref a3, .ref a4, .ref a5])), (a1, .inl (K.2.2.2.2.1.1, 24, .inl (fun i => if i < 24 then h 44 (i + 0) else 0))), (a2, .inl (K.2.2.2.2.1.1, 8, .inl (fun i => if i < 8 then h 45 (i + 0) else 0))), (a3, .inl (K.2.2.2.2.1.1, 8, .inl (fun i => if i < 8 then h 46 (i + 0) else 0))), (a4, .inl (K.2.2.2.2.1.1, 4, .inl (fun i => if i < 4 then h 47 (i + 0) else 0))), (a5, .inl (K.2.2.2.2.1.2.2, 4, .inr (.inr (.inr (.inr (fun i => if i < 4 then some ((fun c => if 49 ≤ c ∧ c < 53 then r5 (c - 49) else lq [(43, a), (1, b1), (2, b2), (29, b3), (44, a1), (45, a2), (46, a3), (47, a4), (48, a5)] c) (49 + i)) else none))))))]
    rw [hz 43 (by decide) 5, hz 43 (by decide) 6, x4 (n := 24) (f := (mrow zM 1 (negK (zM 1) (zI (-4)) 24)) 1) (g := h 44) (fun i hi => (if_pos hi).trans (hv i hi).symm), xz (h := (mrow zM 1 (negK (zM 1) (zI (-4)) 24))) (r := 2) (n := 8) (o := 0) (fun _ => rfl), xz (n := 8) (o := 0) (hz 45 (by decide)), xz (h := (mrow zM 1 (negK (zM 1) (zI (-4)) 24))) (r := 3) (n := 8) (o := 0) (fun _ => rfl), xz (n := 8) (o := 0) (hz 46 (by decide)), xz (h := (mrow zM 1 (negK (zM 1) (zI (-4)) 24))) (r := 4) (n := 4) (o := 0) (fun _ => rfl), xz (n := 4) (o := 0) (hz 47 (by decide)), ← xo (n := 4) (b := 6) (ad := (fun c => if 6 ≤ c ∧ c < 10 then r5 (c - 6) else lq [(0, a), (1, a1), (2, a2), (3, a3), (4, a4), (5, a5), (100, b1), (101, b2), (102, b3)] c)) (r := r5) e2, ← xo (n := 4) (b := 49) (ad := (fun c => if 49 ≤ c ∧ c < 53 then r5 (c - 49) else lq [(43, a), (1, b1), (2, b2), (29, b3), (44, a1), (45, a2), (46, a3), (47, a4), (48, a5)] c)) (r := r5) e1]
    try rfl
def skSHL : Nat → Option Nat := fun k => match k with
  | 0 => some 1
  | 1 => some 2
  | _ => some 3
def SHL : Nat → KD := fun c =>
  if 4 ≤ c ∧ c < 8 then .inr (0, 96, 4, 96 * (c - 4)) else
  match c with
  | 0 => .inl (4, 3, skSHL)
  | 1 => .inr (0, 4, 1, 0)
  | 2 => .inr (0, 4, 2, 0)
  | _ => .inr (2, 4, 4, 0)
theorem SHLW : LWb 8 SHL = true := by decide +kernel
theorem SHL_g {i : Nat} (hi : i < 4) : SHL (4 + i) = .inr (0, 96, 4, 96 * i) := by
  unfold SHL
  rw [if_pos (by omega), Nat.add_sub_cancel_left]
set_option maxHeartbeats 1000000 in
set_option maxRecDepth 100000 in
theorem lp_X4 {K : KT} {fr lo : Nat} (X : Cx 8 SHL 2 cX4_init RX4 none fr lo K) (k : G 8 SHL 2 K (mrow zM 1 (negK (zM 1) (zI (-1)) 4)) 49 [(0, .ref (kad K 0)), (1, .int (nI (4)))] []) : G 8 SHL 2 K zM 29 [(0, .ref (kad K 0))] [] := by
  refine g_iconst X dX4_init_29 30 rfl (v := nI 0) rfl ?_
  refine g_istore_n X (lv' := [(0, .ref (kad K 0)), (1, .int (nI (0)))]) dX4_init_30 31 rfl (by decide) rfl rfl ?_
  have lp : ∀ (fu : Nat) (k : Nat) (hk : k ≤ 4), 4 - k < fu → G 8 SHL 2 K (mrow zM 1 (negK (zM 1) (zI (-1)) k)) 31 [(0, .ref (kad K 0)), (1, .int (nI (k)))] [] := by
    intro fu
    induction fu with
    | zero => intro k hk hm; exact absurd hm (Nat.not_lt_zero _)
    | succ fu ih =>
      intro k9 hk hm
      refine g_iload_n X dX4_init_31 32 rfl rfl ?_
      refine g_iconst X dX4_init_32 33 rfl (v := (nI (4))) rfl ?_
      refine g_icmp_ge X ((k9 : Nat) : Int) 4 dX4_init_33 49 (by decide) 36 rfl (nI_toInt (by omega)) rfl (fun t5 => ?_) (fun f5 => ?_)
      · have e9 : k9 = 4 := by omega
        rw [e9]
        exact k
      · refine g_aload_n X dX4_init_36 37 rfl rfl ?_
        refine g_get (c := 0) (k := 0) (T := TX4) (sk := skSHL) (v := .ref (kad K 1)) X wf_X4_11 inX4 dX4_init_37 40 rfl (by decide) rfl rfl (by decide) rfl ?_
        refine g_iload_n X dX4_init_40 41 rfl rfl ?_
        refine g_iconst X dX4_init_41 42 rfl (v := (zI (-1))) (by decide) ?_
        refine g_iast (c := 1) (n := 4) (r := 1) (o := 0) (i := k9) X dX4_init_42 43 rfl (by decide) rfl rfl (by omega) ?_
        refine g_iinc X (v := (nI (k9 + 1))) (lv' := [(0, .ref (kad K 0)), (1, .int (nI (k9 + 1)))]) dX4_init_43 46 rfl (by decide) rfl (n_inc k9 1) rfl rfl ?_
        refine g_goto X dX4_init_46 31 (by decide) ?_
        refine g_mem (h := mup (mrow zM 1 (negK (zM 1) (zI (-1)) k9)) 1 (k9 + 0) (zI (-1))) (h' := mrow zM 1 (negK (zM 1) (zI (-1)) (k9 + 1))) ?_ (ih (k9 + 1) (by omega) (by omega))
        rw [mup_m, Nat.add_zero, negK_s]
  refine g_mem (h := zM) (h' := mrow zM 1 (negK (zM 1) (zI (-1)) 0)) ?_ (lp _ 0 (by omega) (Nat.lt_succ_self _))
  rw [negK_0, mrow_id]
set_option maxHeartbeats 1000000 in
set_option maxRecDepth 100000 in
theorem c_X4_init (h : Mem) (hz : ∀ r, r ∈ [61, 63, 65] → ∀ i, h r i = 0) (hv : ∀ i, i < 4 → h 62 i = zI (-1)) (a : Nat) : cB yX4_init cX4_init 2 1 20 7 396 [.ref a] [(a, .inr (4, [.null, .null, .null]))] (fun ad => ad 61 = a) (fun cs ad => wl ([61, 62, 63, 64] ++ (List.range 4).map (65 + ·)) XL cs ad h) := by
  refine cB_of (by decide +kernel) (Nat.le_of_ble_eq_true rfl) rfl ?_
  intro K X Z
  show B 2 K [(a, .inr (4, [.null, .null, .null]))] 0 0 0 [(0, .ref a)] []
  refine b_aload_n X dX4_init_0 1 rfl rfl ?_
  refine b_obj X wo_X4 dX4_init_1 4 rfl ⟨Nat.le_of_ble_eq_true rfl, Nat.le_of_ble_eq_true rfl⟩ (Nat.le_of_ble_eq_true rfl) ?_
  refine b_aload_n X dX4_init_4 5 rfl rfl ?_
  refine b_iconst X (v := nI 4) dX4_init_5 6 rfl (by decide) ?_
  refine b_newi X (n := 4) (by decide) rfl (Nat.le_of_ble_eq_true rfl) (Nat.le_of_ble_eq_true rfl) dX4_init_6 8 rfl (fun a1 => ?_)
  show B 2 K ([(a, .inr (4, [.null, .null, .null])), (a1, .inl (K.2.2.2.2.1.1, 4, .inl (fun _ => 0)))]) 1 4 8 [(0, .ref a)] [.ref a1, .ref a]
  refine b_putF (c := 0) (ci := 4) (k := 0) (T := TX4) (ty0 := tyX4) X wf_X4_11 inX4 tyX4_ok nmX4 dX4_init_8 11 rfl rfl rfl (by decide) rfl rfl rfl rfl rfl (Nat.le_of_ble_eq_true rfl) (ws' := [(a, .inr (4, [.ref a1, .null, .null])), (a1, .inl (K.2.2.2.2.1.1, 4, .inl (fun _ => 0)))]) rfl ?_
  refine b_aload_n X dX4_init_11 12 rfl rfl ?_
  refine b_iconst X (v := nI 4) dX4_init_12 13 rfl (by decide) ?_
  refine b_newi X (n := 4) (by decide) rfl (Nat.le_of_ble_eq_true rfl) (Nat.le_of_ble_eq_true rfl) dX4_init_13 15 rfl (fun a2 => ?_)
  show B 2 K ([(a, .inr (4, [.ref a1, .null, .null])), (a1, .inl (K.2.2.2.2.1.1, 4, .inl (fun _ => 0))), (a2, .inl (K.2.2.2.2.1.1, 4, .inl (fun _ => 0)))]) 2 8 15 [(0, .ref a)] [.ref a2, .ref a]
  refine b_putF (c := 0) (ci := 4) (k := 1) (T := TX4) (ty0 := tyX4) X wf_X4_15 inX4 tyX4_ok nmX4 dX4_init_15 18 rfl rfl rfl (by decide) rfl rfl rfl rfl rfl (Nat.le_of_ble_eq_true rfl) (ws' := [(a, .inr (4, [.ref a1, .ref a2, .null])), (a1, .inl (K.2.2.2.2.1.1, 4, .inl (fun _ => 0))), (a2, .inl (K.2.2.2.2.1.1, 4, .inl (fun _ => 0)))]) rfl ?_
  refine b_aload_n X dX4_init_18 19 rfl rfl ?_
  refine b_iconst X (v := nI 4) dX4_init_19 20 rfl (by decide) ?_
  refine b_bipush X (v := nI 96) dX4_init_20 22 rfl (by decide) ?_
  refine b_newg X (n := 4) (m := 96) (by decide) (by decide) rfl rfl wl_X4_18 (Nat.le_of_ble_eq_true rfl) (Nat.le_of_ble_eq_true rfl) dX4_init_22 26 rfl (fun a3 r3 => ?_)
  show B 2 K ([(a, .inr (4, [.ref a1, .ref a2, .null])), (a1, .inl (K.2.2.2.2.1.1, 4, .inl (fun _ => 0))), (a2, .inl (K.2.2.2.2.1.1, 4, .inl (fun _ => 0))), (a3, .inl (K.2.2.2.2.1.2.2, 4, .inr (.inr (.inr (.inr (fun i => if i < 4 then some (r3 i) else none))))))] ++ (List.range 4).map (fun i => (r3 i, .inl (K.2.2.2.2.1.1, 96, .inl (fun _ => 0))))) 7 396 26 [(0, .ref a)] [.ref a3, .ref a]
  refine b_putF (c := 0) (ci := 4) (k := 2) (T := TX4) (ty0 := tyX4) X wf_X4_20 inX4 tyX4_ok nmX4 dX4_init_26 29 rfl rfl rfl (by decide) rfl rfl rfl rfl rfl (Nat.le_of_ble_eq_true rfl) (ws' := [(a, .inr (4, [.ref a1, .ref a2, .ref a3])), (a1, .inl (K.2.2.2.2.1.1, 4, .inl (fun _ => 0))), (a2, .inl (K.2.2.2.2.1.1, 4, .inl (fun _ => 0))), (a3, .inl (K.2.2.2.2.1.2.2, 4, .inr (.inr (.inr (.inr (fun i => if i < 4 then some (r3 i) else none))))))] ++ (List.range 4).map (fun i => (r3 i, .inl (K.2.2.2.2.1.1, 96, .inl (fun _ => 0))))) rfl ?_
  have e1 : ∀ i, i < 4 → (fun c => if 65 ≤ c ∧ c < 69 then r3 (c - 65) else lq [(61, a), (62, a1), (63, a2), (64, a3)] c) (65 + i) = r3 i := by
    intro i hi
    show (if 65 ≤ 65 + i ∧ 65 + i < 69 then r3 (65 + i - 65) else _) = r3 i
    rw [if_pos (by omega), Nat.add_sub_cancel_left]
  have e2 : ∀ i, i < 4 → (fun c => if 4 ≤ c ∧ c < 8 then r3 (c - 4) else lq [(0, a), (1, a1), (2, a2), (3, a3)] c) (4 + i) = r3 i := by
    intro i hi
    show (if 4 ≤ 4 + i ∧ 4 + i < 8 then r3 (4 + i - 4) else _) = r3 i
    rw [if_pos (by omega), Nat.add_sub_cancel_left]
  refine b_toG (N := 8) (L := SHL) SHLW X zM (fun c => if 4 ≤ c ∧ c < 8 then r3 (c - 4) else lq [(0, a), (1, a1), (2, a2), (3, a3)] c) ?_ (Nat.le_of_ble_eq_true rfl) (Nat.le_of_ble_eq_true rfl) (fun X9 => ?_)
  · show _ = wl ([0, 1, 2, 3] ++ (List.range 4).map (4 + ·)) SHL K.2.2.2.2.1 (fun c => if 4 ≤ c ∧ c < 8 then r3 (c - 4) else lq [(0, a), (1, a1), (2, a2), (3, a3)] c) zM
    rw [wl_app]
    refine cg2 ?_ (wl_grid e2 SHL_g (fun _ => rfl))
    show ([(a, .inr (4, [.ref a1, .ref a2, .ref a3])), (a1, .inl (K.2.2.2.2.1.1, 4, .inl (fun _ => 0))), (a2, .inl (K.2.2.2.2.1.1, 4, .inl (fun _ => 0))), (a3, .inl (K.2.2.2.2.1.2.2, 4, .inr (.inr (.inr (.inr (fun i => if i < 4 then some (r3 i) else none))))))] : va_W) = [(a, .inr (4, [.ref a1, .ref a2, .ref a3])), (a1, .inl (K.2.2.2.2.1.1, 4, .inl (fun i => if i < 4 then zM 1 (i + 0) else 0))), (a2, .inl (K.2.2.2.2.1.1, 4, .inl (fun i => if i < 4 then zM 2 (i + 0) else 0))), (a3, .inl (K.2.2.2.2.1.2.2, 4, .inr (.inr (.inr (.inr (fun i => if i < 4 then some ((fun c => if 4 ≤ c ∧ c < 8 then r3 (c - 4) else lq [(0, a), (1, a1), (2, a2), (3, a3)] c) (4 + i)) else none))))))]
    rw [xz (h := zM) (r := 1) (n := 4) (o := 0) (fun _ => rfl), xz (h := zM) (r := 2) (n := 4) (o := 0) (fun _ => rfl), xo (n := 4) (b := 4) (ad := (fun c => if 4 ≤ c ∧ c < 8 then r3 (c - 4) else lq [(0, a), (1, a1), (2, a2), (3, a3)] c)) (r := r3) e2]
    try rfl
  · refine lp_X4 X9 (g_toB X9 (b_ret X Z dX4_init_49 (fun c => if 65 ≤ c ∧ c < 69 then r3 (c - 65) else lq [(61, a), (62, a1), (63, a2), (64, a3)] c) rfl ?_))
    show wl ([0, 1, 2, 3] ++ (List.range 4).map (4 + ·)) SHL K.2.2.2.2.1 (fun c => if 4 ≤ c ∧ c < 8 then r3 (c - 4) else lq [(0, a), (1, a1), (2, a2), (3, a3)] c) (mrow zM 1 (negK (zM 1) (zI (-1)) 4)) = wl ([61, 62, 63, 64] ++ (List.range 4).map (65 + ·)) XL K.2.2.2.2.1 (fun c => if 65 ≤ c ∧ c < 69 then r3 (c - 65) else lq [(61, a), (62, a1), (63, a2), (64, a3)] c) h
    rw [wl_app, wl_app]
    refine cg2 ?_ ((wl_grid e2 SHL_g (fun _ => rfl)).symm.trans (wl_grid e1 XL_65 (hz 65 (by decide))))
    show ([(a, .inr (4, [.ref a1, .ref a2, .ref a3])), (a1, .inl (K.2.2.2.2.1.1, 4, .inl (fun i => if i < 4 then (mrow zM 1 (negK (zM 1) (zI (-1)) 4)) 1 (i + 0) else 0))), (a2, .inl (K.2.2.2.2.1.1, 4, .inl (fun i => if i < 4 then (mrow zM 1 (negK (zM 1) (zI (-1)) 4)) 2 (i + 0) else 0))), (a3, .inl (K.2.2.2.2.1.2.2, 4, .inr (.inr (.inr (.inr (fun i => if i < 4 then some ((fun c => if 4 ≤ c ∧ c < 8 then r3 (c - 4) else lq [(0, a), (1, a1), (2, a2), (3, a3)] c) (4 + i)) else none))))))] : va_W) = [(a, .inr (4, [.ref a1, .ref a2, .ref a3])), (a1, .inl (K.2.2.2.2.1.1, 4, .inl (fun i => if i < 4 then h 62 (i + 0) else 0))), (a2, .inl (K.2.2.2.2.1.1, 4, .inl (fun i => if i < 4 then h 63 (i + 0) else 0))), (a3, .inl (K.2.2.2.2.1.2.2, 4, .inr (.inr (.inr (.inr (fun i => if i < 4 then some ((fun c => if 65 ≤ c ∧ c < 69 then r3 (c - 65) else lq [(61, a), (62, a1), (63, a2), (64, a3)] c) (65 + i)) else none))))))]
    rw [x4 (n := 4) (f := (mrow zM 1 (negK (zM 1) (zI (-1)) 4)) 1) (g := h 62) (fun i hi => (if_pos hi).trans (hv i hi).symm), xz (h := (mrow zM 1 (negK (zM 1) (zI (-1)) 4))) (r := 2) (n := 4) (o := 0) (fun _ => rfl), xz (n := 4) (o := 0) (hz 63 (by decide)), ← xo (n := 4) (b := 4) (ad := (fun c => if 4 ≤ c ∧ c < 8 then r3 (c - 4) else lq [(0, a), (1, a1), (2, a2), (3, a3)] c)) (r := r3) e2, ← xo (n := 4) (b := 65) (ad := (fun c => if 65 ≤ c ∧ c < 69 then r3 (c - 65) else lq [(61, a), (62, a1), (63, a2), (64, a3)] c)) (r := r3) e1]
    try rfl
