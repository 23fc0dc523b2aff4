/-! the leaf constructors -/
def lq : List (Nat × Nat) → Nat → Nat
  | [], _ => 0
  | (j, v) :: t, i => cond (Nat.beq j i) v (lq t i)
def wl (ids : List Nat) (L : Nat → KD) (cs : Nat × Nat × Nat) (ad : Nat → Nat) (h : Mem) : va_W := ids.map (fun c => (ad c, xe cs ad h c (L c)))
theorem cg2 {α : Type} {a a' b b' : List α} (e : a = a') (f : b = b') : a ++ b = a' ++ b' := by rw [e, f]
theorem wl_app (l1 l2 : List Nat) (L : Nat → KD) (cs : Nat × Nat × Nat) (ad : Nat → Nat) (h : Mem) : wl (l1 ++ l2) L cs ad h = wl l1 L cs ad h ++ wl l2 L cs ad h := List.map_append
theorem xz {h : Mem} {r n o : Nat} (z : ∀ i, h r i = 0) : (fun i => if i < n then h r (i + o) else 0) = (fun _ => (0 : Int32)) := by
  funext i
  by_cases c : i < n
  · rw [if_pos c]; exact z _
  · rw [if_neg c]
theorem xo {n b : Nat} {ad r : Nat → Nat} (e : ∀ i, i < n → ad (b + i) = r i) : (fun i => if i < n then some (r i) else none) = (fun i => if i < n then some (ad (b + i)) else none) := by
  funext i
  by_cases c : i < n
  · rw [if_pos c, if_pos c, e i c]
  · rw [if_neg c, if_neg c]
theorem wl_grid {L : Nat → KD} {cs : Nat × Nat × Nat} {ad r : Nat → Nat} {h : Mem} {b n m row : Nat} (e1 : ∀ i, i < n → ad (b + i) = r i) (e2 : ∀ {i : Nat}, i < n → L (b + i) = .inr (0, m, row, m * i)) (z : ∀ j, h row j = 0) : (List.range n).map (fun i => ((r i, .inl (cs.1, m, .inl (fun _ => 0))) : Nat × va_E)) = wl ((List.range n).map (b + ·)) L cs ad h := by
  unfold wl
  rw [List.map_map]
  refine List.map_congr_left (fun i hi => ?_)
  have hi' := List.mem_range.mp hi
  show ((r i, .inl (cs.1, m, .inl (fun _ => 0))) : Nat × va_E) = (ad (b + i), xe cs ad h (b + i) (L (b + i)))
  rw [e1 i hi', e2 hi']
  show _ = ((r i, .inl (cs.1, m, .inl (fun j => if j < m then h row (j + m * i) else 0))) : Nat × va_E)
  rw [xz z]
set_option maxHeartbeats 1000000 in
set_option maxRecDepth 100000 in
theorem c_X0_init (h : Mem) (hz : ∀ r, r ∈ [29, 30, 31, 32, 33, 34, 35] → ∀ i, h r i = 0) (a b1 : Nat) : cB yX0_init cX0_init 2 1 20 6 144 [.ref a, .ref b1] [(a, .inr (0, [.null, .int 0, .null, .null, .null, .null, .null, .null]))] (fun ad => ad 29 = a ∧ ad 1 = b1) (fun cs ad => wl ([29, 30, 31, 32, 33, 34, 35]) XL cs ad h) := by
  refine cB_of (by decide +kernel) (Nat.le_of_ble_eq_true rfl) rfl ?_
  intro K X Z
  show B 2 K [(a, .inr (0, [.null, .int 0, .null, .null, .null, .null, .null, .null]))] 0 0 0 [(0, .ref a), (1, .ref b1)] []
  refine b_aload_n X dX0_init_0 1 rfl rfl ?_
  refine b_obj X wo_X0 dX0_init_1 4 rfl ⟨Nat.le_of_ble_eq_true rfl, Nat.le_of_ble_eq_true rfl⟩ (Nat.le_of_ble_eq_true rfl) ?_
  refine b_aload_n X dX0_init_4 5 rfl rfl ?_
  refine b_bipush X (v := nI 24) dX0_init_5 7 rfl (by decide) ?_
  refine b_newi X (n := 24) (by decide) rfl (Nat.le_of_ble_eq_true rfl) (Nat.le_of_ble_eq_true rfl) dX0_init_7 9 rfl (fun a1 => ?_)
  show B 2 K ([(a, .inr (0, [.null, .int 0, .null, .null, .null, .null, .null, .null])), (a1, .inl (K.2.2.2.2.1.1, 24, .inl (fun _ => 0)))]) 1 24 9 [(0, .ref a), (1, .ref b1)] [.ref a1, .ref a]
  refine b_putF (c := 0) (ci := 0) (k := 2) (T := TX0) (ty0 := tyX0) X wf_X0_9 inX0 tyX0_ok nmX0 dX0_init_9 12 rfl rfl rfl (by decide) rfl rfl rfl rfl rfl (Nat.le_of_ble_eq_true rfl) (ws' := [(a, .inr (0, [.null, .int 0, .ref a1, .null, .null, .null, .null, .null])), (a1, .inl (K.2.2.2.2.1.1, 24, .inl (fun _ => 0)))]) rfl ?_
  refine b_aload_n X dX0_init_12 13 rfl rfl ?_
  refine b_bipush X (v := nI 24) dX0_init_13 15 rfl (by decide) ?_
  refine b_newi X (n := 24) (by decide) rfl (Nat.le_of_ble_eq_true rfl) (Nat.le_of_ble_eq_true rfl) dX0_init_15 17 rfl (fun a2 => ?_)
  show B 2 K ([(a, .inr (0, [.null, .int 0, .ref a1, .null, .null, .null, .null, .null])), (a1, .inl (K.2.2.2.2.1.1, 24, .inl (fun _ => 0))), (a2, .inl (K.2.2.2.2.1.1, 24, .inl (fun _ => 0)))]) 2 48 17 [(0, .ref a), (1, .ref b1)] [.ref a2, .ref a]
  refine b_putF (c := 0) (ci := 0) (k := 3) (T := TX0) (ty0 := tyX0) X wf_X0_15 inX0 tyX0_ok nmX0 dX0_init_17 20 rfl rfl rfl (by decide) rfl rfl rfl rfl rfl (Nat.le_of_ble_eq_true rfl) (ws' := [(a, .inr (0, [.null, .int 0, .ref a1, .ref a2, .null, .null, .null, .null])), (a1, .inl (K.2.2.2.2.1.1, 24, .inl (fun _ => 0))), (a2, .inl (K.2.2.2.2.1.1, 24, .inl (fun _ => 0)))]) rfl ?_
  refine b_aload_n X dX0_init_20 21 rfl rfl ?_
  refine b_bipush X (v := nI 24) dX0_init_21 23 rfl (by decide) ?_
  refine b_newi X (n := 24) (by decide) rfl (Nat.le_of_ble_eq_true rfl) (Nat.le_of_ble_eq_true rfl) dX0_init_23 25 rfl (fun a3 => ?_)
  show B 2 K ([(a, .inr (0, [.null, .int 0, .ref a1, .ref a2, .null, .null, .null, .null])), (a1, .inl (K.2.2.2.2.1.1, 24, .inl (fun _ => 0))), (a2, .inl (K.2.2.2.2.1.1, 24, .inl (fun _ => 0))), (a3, .inl (K.2.2.2.2.1.1, 24, .inl (fun _ => 0)))]) 3 72 25 [(0, .ref a), (1, .ref b1)] [.ref a3, .ref a]
  refine b_putF (c := 0) (ci := 0) (k := 4) (T := TX0) (ty0 := tyX0) X wf_X0_18 inX0 tyX0_ok nmX0 dX0_init_25 28 rfl rfl rfl (by decide) rfl rfl rfl rfl rfl (Nat.le_of_ble_eq_true rfl) (ws' := [(a, .inr (0, [.null, .int 0, .ref a1, .ref a2, .ref a3, .null, .null, .null])), (a1, .inl (K.2.2.2.2.1.1, 24, .inl (fun _ => 0))), (a2, .inl (K.2.2.2.2.1.1, 24, .inl (fun _ => 0))), (a3, .inl (K.2.2.2.2.1.1, 24, .inl (fun _ => 0)))]) rfl ?_
  refine b_aload_n X dX0_init_28 29 rfl rfl ?_
  refine b_bipush X (v := nI 24) dX0_init_29 31 rfl (by decide) ?_
  refine b_newi X (n := 24) (by decide) rfl (Nat.le_of_ble_eq_true rfl) (Nat.le_of_ble_eq_true rfl) dX0_init_31 33 rfl (fun a4 => ?_)
  show B 2 K ([(a, .inr (0, [.null, .int 0, .ref a1, .ref a2, .ref a3, .null, .null, .null])), (a1, .inl (K.2.2.2.2.1.1, 24, .inl (fun _ => 0))), (a2, .inl (K.2.2.2.2.1.1, 24, .inl (fun _ => 0))), (a3, .inl (K.2.2.2.2.1.1, 24, .inl (fun _ => 0))), (a4, .inl (K.2.2.2.2.1.1, 24, .inl (fun _ => 0)))]) 4 96 33 [(0, .ref a), (1, .ref b1)] [.ref a4, .ref a]
  refine b_putF (c := 0) (ci := 0) (k := 5) (T := TX0) (ty0 := tyX0) X wf_X0_21 inX0 tyX0_ok nmX0 dX0_init_33 36 rfl rfl rfl (by decide) rfl rfl rfl rfl rfl (Nat.le_of_ble_eq_true rfl) (ws' := [(a, .inr (0, [.null, .int 0, .ref a1, .ref a2, .ref a3, .ref a4, .null, .null])), (a1, .inl (K.2.2.2.2.1.1, 24, .inl (fun _ => 0))), (a2, .inl (K.2.2.2.2.1.1, 24, .inl (fun _ => 0))), (a3, .inl (K.2.2.2.2.1.1, 24, .inl (fun _ => 0))), (a4, .inl (K.2.2.2.2.1.1, 24, .inl (fun _ => 0)))]) rfl ?_
  refine b_aload_n X dX0_init_36 37 rfl rfl ?_
  refine b_bipush X (v := nI 24) dX0_init_37 39 rfl (by decide) ?_
  refine b_newz X (n := 24) (by decide) rfl (Nat.le_of_ble_eq_true rfl) (Nat.le_of_ble_eq_true rfl) dX0_init_39 41 rfl (fun a5 => ?_)
  show B 2 K ([(a, .inr (0, [.null, .int 0, .ref a1, .ref a2, .ref a3, .ref a4, .null, .null])), (a1, .inl (K.2.2.2.2.1.1, 24, .inl (fun _ => 0))), (a2, .inl (K.2.2.2.2.1.1, 24, .inl (fun _ => 0))), (a3, .inl (K.2.2.2.2.1.1, 24, .inl (fun _ => 0))), (a4, .inl (K.2.2.2.2.1.1, 24, .inl (fun _ => 0))), (a5, .inl (K.2.2.2.2.1.2.1, 24, .inl (fun _ => 0)))]) 5 120 41 [(0, .ref a), (1, .ref b1)] [.ref a5, .ref a]
  refine b_putF (c := 0) (ci := 0) (k := 6) (T := TX0) (ty0 := tyX0) X wf_X0_24 inX0 tyX0_ok nmX0 dX0_init_41 44 rfl rfl rfl (by decide) rfl rfl rfl rfl rfl (Nat.le_of_ble_eq_true rfl) (ws' := [(a, .inr (0, [.null, .int 0, .ref a1, .ref a2, .ref a3, .ref a4, .ref a5, .null])), (a1, .inl (K.2.2.2.2.1.1, 24, .inl (fun _ => 0))), (a2, .inl (K.2.2.2.2.1.1, 24, .inl (fun _ => 0))), (a3, .inl (K.2.2.2.2.1.1, 24, .inl (fun _ => 0))), (a4, .inl (K.2.2.2.2.1.1, 24, .inl (fun _ => 0))), (a5, .inl (K.2.2.2.2.1.2.1, 24, .inl (fun _ => 0)))]) rfl ?_
  refine b_aload_n X dX0_init_44 45 rfl rfl ?_
  refine b_bipush X (v := nI 24) dX0_init_45 47 rfl (by decide) ?_
  refine b_newi X (n := 24) (by decide) rfl (Nat.le_of_ble_eq_true rfl) (Nat.le_of_ble_eq_true rfl) dX0_init_47 49 rfl (fun a6 => ?_)
  show B 2 K ([(a, .inr (0, [.null, .int 0, .ref a1, .ref a2, .ref a3, .ref a4, .ref a5, .null])), (a1, .inl (K.2.2.2.2.1.1, 24, .inl (fun _ => 0))), (a2, .inl (K.2.2.2.2.1.1, 24, .inl (fun _ => 0))), (a3, .inl (K.2.2.2.2.1.1, 24, .inl (fun _ => 0))), (a4, .inl (K.2.2.2.2.1.1, 24, .inl (fun _ => 0))), (a5, .inl (K.2.2.2.2.1.2.1, 24, .inl (fun _ => 0))), (a6, .inl (K.2.2.2.2.1.1, 24, .inl (fun _ => 0)))]) 6 144 49 [(0, .ref a), (1, .ref b1)] [.ref a6, .ref a]
  refine b_putF (c := 0) (ci := 0) (k := 7) (T := TX0) (ty0 := tyX0) X wf_X0_28 inX0 tyX0_ok nmX0 dX0_init_49 52 rfl rfl rfl (by decide) rfl rfl rfl rfl rfl (Nat.le_of_ble_eq_true rfl) (ws' := [(a, .inr (0, [.null, .int 0, .ref a1, .ref a2, .ref a3, .ref a4, .ref a5, .ref a6])), (a1, .inl (K.2.2.2.2.1.1, 24, .inl (fun _ => 0))), (a2, .inl (K.2.2.2.2.1.1, 24, .inl (fun _ => 0))), (a3, .inl (K.2.2.2.2.1.1, 24, .inl (fun _ => 0))), (a4, .inl (K.2.2.2.2.1.1, 24, .inl (fun _ => 0))), (a5, .inl (K.2.2.2.2.1.2.1, 24, .inl (fun _ => 0))), (a6, .inl (K.2.2.2.2.1.1, 24, .inl (fun _ => 0)))]) rfl ?_
  refine b_aload_n X dX0_init_52 53 rfl rfl ?_
  refine b_aload_n X dX0_init_53 54 rfl rfl ?_
  refine b_putF (c := 0) (ci := 0) (k := 0) (T := TX0) (ty0 := tyX0) X wf_X0_31 inX0 tyX0_ok nmX0 dX0_init_54 57 rfl rfl rfl (by decide) rfl rfl rfl rfl rfl (Nat.le_of_ble_eq_true rfl) (ws' := [(a, .inr (0, [.ref b1, .int 0, .ref a1, .ref a2, .ref a3, .ref a4, .ref a5, .ref a6])), (a1, .inl (K.2.2.2.2.1.1, 24, .inl (fun _ => 0))), (a2, .inl (K.2.2.2.2.1.1, 24, .inl (fun _ => 0))), (a3, .inl (K.2.2.2.2.1.1, 24, .inl (fun _ => 0))), (a4, .inl (K.2.2.2.2.1.1, 24, .inl (fun _ => 0))), (a5, .inl (K.2.2.2.2.1.2.1, 24, .inl (fun _ => 0))), (a6, .inl (K.2.2.2.2.1.1, 24, .inl (fun _ => 0)))]) rfl ?_
  refine b_ret X Z dX0_init_57 (lq [(29, a), (1, b1), (30, a1), (31, a2), (32, a3), (33, a4), (34, a5), (35, a6)]) ⟨rfl, rfl⟩ ?_
  exact (by
    show ([(a, .inr (0, [.ref b1, .int 0, .ref a1, .ref a2, .ref a3, .ref a4, .ref a5, .ref a6])), (a1, .inl (K.2.2.2.2.1.1, 24, .inl (fun _ => 0))), (a2, .inl (K.2.2.2.2.1.1, 24, .inl (fun _ => 0))), (a3, .inl (K.2.2.2.2.1.1, 24, .inl (fun _ => 0))), (a4, .inl (K.2.2.2.2.1.1, 24, .inl (fun _ => 0))), (a5, .inl (K.2.2.2.2.1.2.1, 24, .inl (fun _ => 0))), (a6, .inl (K.2.2.2.2.1.1, 24, .inl (fun _ => 0)))] : va_W) = [(a, .inr (0, [.ref b1, .int (h 29 1), .ref a1, .ref a2, .ref a3, .ref a4, .ref a5, .ref a6])), (a1, .inl (K.2.2.2.2.1.1, 24, .inl (fun i => if i < 24 then h 30 (i + 0) else 0))), (a2, .inl (K.2.2.2.2.1.1, 24, .inl (fun i => if i < 24 then h 31 (i + 0) else 0))), (a3, .inl (K.2.2.2.2.1.1, 24, .inl (fun i => if i < 24 then h 32 (i + 0) else 0))), (a4, .inl (K.2.2.2.2.1.1, 24, .inl (fun i => if i < 24 then h 33 (i + 0) else 0))), (a5, .inl (K.2.2.2.2.1.2.1, 24, .inl (fun i => if i < 24 then h 34 (i + 0) else 0))), (a6, .inl (K.2.2.2.2.1.1, 24, .inl (fun i => if i < 24 then h 35 (i + 0) else 0)))]
    rw [hz 29 (by decide) 1, xz (n := 24) (o := 0) (hz 30 (by decide)), xz (n := 24) (o := 0) (hz 31 (by decide)), xz (n := 24) (o := 0) (hz 32 (by decide)), xz (n := 24) (o := 0) (hz 33 (by decide)), xz (n := 24) (o := 0) (hz 34 (by decide)), xz (n := 24) (o := 0) (hz 35 (by decide))])
set_option maxHeartbeats 1000000 in
set_option maxRecDepth 100000 in
theorem c_X3_init (h : Mem) (hz : ∀ r, r ∈ [2, 3, 5] → ∀ i, h r i = 0) (a : Nat) : cB yX3_init cX3_init 1 1 20 26 625 [.ref a] [(a, .inr (3, [.int 0, .int 0, .null, .null]))] (fun ad => ad 2 = a) (fun cs ad => wl ([2, 3, 4] ++ (List.range 24).map (5 + ·)) XL cs ad h) := by
  refine cB_of (by decide +kernel) (Nat.le_of_ble_eq_true rfl) rfl ?_
  intro K X Z
  show B 1 K [(a, .inr (3, [.int 0, .int 0, .null, .null]))] 0 0 0 [(0, .ref a)] []
  refine b_aload_n X dX3_init_0 1 rfl rfl ?_
  refine b_obj X wo_X3 dX3_init_1 4 rfl ⟨Nat.le_of_ble_eq_true rfl, Nat.le_of_ble_eq_true rfl⟩ (Nat.le_of_ble_eq_true rfl) ?_
  refine b_aload_n X dX3_init_4 5 rfl rfl ?_
  refine b_bipush X (v := nI 25) dX3_init_5 7 rfl (by decide) ?_
  refine b_newi X (n := 25) (by decide) rfl (Nat.le_of_ble_eq_true rfl) (Nat.le_of_ble_eq_true rfl) dX3_init_7 9 rfl (fun a1 => ?_)
  show B 1 K ([(a, .inr (3, [.int 0, .int 0, .null, .null])), (a1, .inl (K.2.2.2.2.1.1, 25, .inl (fun _ => 0)))]) 1 25 9 [(0, .ref a)] [.ref a1, .ref a]
  refine b_putF (c := 0) (ci := 3) (k := 2) (T := TX3) (ty0 := tyX3) X wf_X3_9 inX3 tyX3_ok nmX3 dX3_init_9 12 rfl rfl rfl (by decide) rfl rfl rfl rfl rfl (Nat.le_of_ble_eq_true rfl) (ws' := [(a, .inr (3, [.int 0, .int 0, .ref a1, .null])), (a1, .inl (K.2.2.2.2.1.1, 25, .inl (fun _ => 0)))]) rfl ?_
  refine b_aload_n X dX3_init_12 13 rfl rfl ?_
  refine b_bipush X (v := nI 24) dX3_init_13 15 rfl (by decide) ?_
  refine b_bipush X (v := nI 24) dX3_init_15 17 rfl (by decide) ?_
  refine b_newg X (n := 24) (m := 24) (by decide) (by decide) rfl rfl wl_X3_15 (Nat.le_of_ble_eq_true rfl) (Nat.le_of_ble_eq_true rfl) dX3_init_17 21 rfl (fun a2 r2 => ?_)
  show B 1 K ([(a, .inr (3, [.int 0, .int 0, .ref a1, .null])), (a1, .inl (K.2.2.2.2.1.1, 25, .inl (fun _ => 0))), (a2, .inl (K.2.2.2.2.1.2.2, 24, .inr (.inr (.inr (.inr (fun i => if i < 24 then some (r2 i) else none))))))] ++ (List.range 24).map (fun i => (r2 i, .inl (K.2.2.2.2.1.1, 24, .inl (fun _ => 0))))) 26 625 21 [(0, .ref a)] [.ref a2, .ref a]
  refine b_putF (c := 0) (ci := 3) (k := 3) (T := TX3) (ty0 := tyX3) X wf_X3_17 inX3 tyX3_ok nmX3 dX3_init_21 24 rfl rfl rfl (by decide) rfl rfl rfl rfl rfl (Nat.le_of_ble_eq_true rfl) (ws' := [(a, .inr (3, [.int 0, .int 0, .ref a1, .ref a2])), (a1, .inl (K.2.2.2.2.1.1, 25, .inl (fun _ => 0))), (a2, .inl (K.2.2.2.2.1.2.2, 24, .inr (.inr (.inr (.inr (fun i => if i < 24 then some (r2 i) else none))))))] ++ (List.range 24).map (fun i => (r2 i, .inl (K.2.2.2.2.1.1, 24, .inl (fun _ => 0))))) rfl ?_
  refine b_ret X Z dX3_init_24 (fun c => if 5 ≤ c ∧ c < 29 then r2 (c - 5) else lq [(2, a), (3, a1), (4, a2)] c) rfl ?_
  have e1 : ∀ i, i < 24 → (fun c => if 5 ≤ c ∧ c < 29 then r2 (c - 5) else lq [(2, a), (3, a1), (4, a2)] c) (5 + i) = r2 i := by
    intro i hi
    show (if 5 ≤ 5 + i ∧ 5 + i < 29 then r2 (5 + i - 5) else _) = r2 i
    rw [if_pos (by omega), Nat.add_sub_cancel_left]
  show _ = wl ([2, 3, 4] ++ (List.range 24).map (5 + ·)) XL K.2.2.2.2.1 (fun c => if 5 ≤ c ∧ c < 29 then r2 (c - 5) else lq [(2, a), (3, a1), (4, a2)] c) h
  rw [wl_app]
  refine cg2 ?_ (wl_grid e1 XL_5 (hz 5 (by decide)))
  exact (by
    show ([(a, .inr (3, [.int 0, .int 0, .ref a1, .ref a2])), (a1, .inl (K.2.2.2.2.1.1, 25, .inl (fun _ => 0))), (a2, .inl (K.2.2.2.2.1.2.2, 24, .inr (.inr (.inr (.inr (fun i => if i < 24 then some (r2 i) else none))))))] : va_W) = [(a, .inr (3, [.int (h 2 0), .int (h 2 1), .ref a1, .ref a2])), (a1, .inl (K.2.2.2.2.1.1, 25, .inl (fun i => if i < 25 then h 3 (i + 0) else 0))), (a2, .inl (K.2.2.2.2.1.2.2, 24, .inr (.inr (.inr (.inr (fun i => if i < 24 then some ((fun c => if 5 ≤ c ∧ c < 29 then r2 (c - 5) else lq [(2, a), (3, a1), (4, a2)] c) (5 + i)) else none))))))]
    rw [hz 2 (by decide) 0, hz 2 (by decide) 1, xz (n := 25) (o := 0) (hz 3 (by decide)), xo (n := 24) (b := 5) (ad := (fun c => if 5 ≤ c ∧ c < 29 then r2 (c - 5) else lq [(2, a), (3, a1), (4, a2)] c)) (r := r2) e1])
set_option maxHeartbeats 1000000 in
set_option maxRecDepth 100000 in
theorem c_X6_init (h : Mem) (hz : ∀ r, r ∈ [36, 41, 42, 38] → ∀ i, h r i = 0) (a b1 b2 b3 : Nat) : cB yX6_init cX6_init 4 1 20 6 102 [.ref a, .ref b1, .ref b2, .ref b3] [(a, .inr (6, [.null, .null, .null, .int 0, .null, .null, .null]))] (fun ad => ad 36 = a ∧ ad 1 = b1 ∧ ad 2 = b2 ∧ ad 29 = b3) (fun cs ad => wl ([36, 37] ++ (List.range 3).map (38 + ·) ++ [41, 42]) XL cs ad h) := by
  refine cB_of (by decide +kernel) (Nat.le_of_ble_eq_true rfl) rfl ?_
  intro K X Z
  show B 4 K [(a, .inr (6, [.null, .null, .null, .int 0, .null, .null, .null]))] 0 0 0 [(0, .ref a), (1, .ref b1), (2, .ref b2), (3, .ref b3)] []
  refine b_aload_n X dX6_init_0 1 rfl rfl ?_
  refine b_obj X wo_X6 dX6_init_1 4 rfl ⟨Nat.le_of_ble_eq_true rfl, Nat.le_of_ble_eq_true rfl⟩ (Nat.le_of_ble_eq_true rfl) ?_
  refine b_aload_n X dX6_init_4 5 rfl rfl ?_
  refine b_iconst X (v := nI 3) dX6_init_5 6 rfl (by decide) ?_
  refine b_bipush X (v := nI 24) dX6_init_6 8 rfl (by decide) ?_
  refine b_newg X (n := 3) (m := 24) (by decide) (by decide) rfl rfl wl_X6_9 (Nat.le_of_ble_eq_true rfl) (Nat.le_of_ble_eq_true rfl) dX6_init_8 12 rfl (fun a1 r1 => ?_)
  show B 4 K ([(a, .inr (6, [.null, .null, .null, .int 0, .null, .null, .null])), (a1, .inl (K.2.2.2.2.1.2.2, 3, .inr (.inr (.inr (.inr (fun i => if i < 3 then some (r1 i) else none))))))] ++ (List.range 3).map (fun i => (r1 i, .inl (K.2.2.2.2.1.1, 24, .inl (fun _ => 0))))) 4 75 12 [(0, .ref a), (1, .ref b1), (2, .ref b2), (3, .ref b3)] [.ref a1, .ref a]
  refine b_putF (c := 0) (ci := 6) (k := 4) (T := TX6) (ty0 := tyX6) X wf_X6_11 inX6 tyX6_ok nmX6 dX6_init_12 15 rfl rfl rfl (by decide) rfl rfl rfl rfl rfl (Nat.le_of_ble_eq_true rfl) (ws' := [(a, .inr (6, [.null, .null, .null, .int 0, .ref a1, .null, .null])), (a1, .inl (K.2.2.2.2.1.2.2, 3, .inr (.inr (.inr (.inr (fun i => if i < 3 then some (r1 i) else none))))))] ++ (List.range 3).map (fun i => (r1 i, .inl (K.2.2.2.2.1.1, 24, .inl (fun _ => 0))))) rfl ?_
  refine b_aload_n X dX6_init_15 16 rfl rfl ?_
  refine b_bipush X (v := nI 24) dX6_init_16 18 rfl (by decide) ?_
  refine b_newi X (n := 24) (by decide) rfl (Nat.le_of_ble_eq_true rfl) (Nat.le_of_ble_eq_true rfl) dX6_init_18 20 rfl (fun a2 => ?_)
  show B 4 K ([(a, .inr (6, [.null, .null, .null, .int 0, .ref a1, .null, .null])), (a1, .inl (K.2.2.2.2.1.2.2, 3, .inr (.inr (.inr (.inr (fun i => if i < 3 then some (r1 i) else none))))))] ++ (List.range 3).map (fun i => (r1 i, .inl (K.2.2.2.2.1.1, 24, .inl (fun _ => 0)))) ++ [(a2, .inl (K.2.2.2.2.1.1, 24, .inl (fun _ => 0)))]) 5 99 20 [(0, .ref a), (1, .ref b1), (2, .ref b2), (3, .ref b3)] [.ref a2, .ref a]
  refine b_putF (c := 0) (ci := 6) (k := 5) (T := TX6) (ty0 := tyX6) X wf_X6_16 inX6 tyX6_ok nmX6 dX6_init_20 23 rfl rfl rfl (by decide) rfl rfl rfl rfl rfl (Nat.le_of_ble_eq_true rfl) (ws' := [(a, .inr (6, [.null, .null, .null, .int 0, .ref a1, .ref a2, .null])), (a1, .inl (K.2.2.2.2.1.2.2, 3, .inr (.inr (.inr (.inr (fun i => if i < 3 then some (r1 i) else none))))))] ++ (List.range 3).map (fun i => (r1 i, .inl (K.2.2.2.2.1.1, 24, .inl (fun _ => 0)))) ++ [(a2, .inl (K.2.2.2.2.1.1, 24, .inl (fun _ => 0)))]) rfl ?_
  refine b_aload_n X dX6_init_23 24 rfl rfl ?_
  refine b_iconst X (v := nI 3) dX6_init_24 25 rfl (by decide) ?_
  refine b_newi X (n := 3) (by decide) rfl (Nat.le_of_ble_eq_true rfl) (Nat.le_of_ble_eq_true rfl) dX6_init_25 27 rfl (fun a3 => ?_)
  show B 4 K ([(a, .inr (6, [.null, .null, .null, .int 0, .ref a1, .ref a2, .null])), (a1, .inl (K.2.2.2.2.1.2.2, 3, .inr (.inr (.inr (.inr (fun i => if i < 3 then some (r1 i) else none))))))] ++ (List.range 3).map (fun i => (r1 i, .inl (K.2.2.2.2.1.1, 24, .inl (fun _ => 0)))) ++ [(a2, .inl (K.2.2.2.2.1.1, 24, .inl (fun _ => 0))), (a3, .inl (K.2.2.2.2.1.1, 3, .inl (fun _ => 0)))]) 6 102 27 [(0, .ref a), (1, .ref b1), (2, .ref b2), (3, .ref b3)] [.ref a3, .ref a]
  refine b_putF (c := 0) (ci := 6) (k := 6) (T := TX6) (ty0 := tyX6) X wf_X6_20 inX6 tyX6_ok nmX6 dX6_init_27 30 rfl rfl rfl (by decide) rfl rfl rfl rfl rfl (Nat.le_of_ble_eq_true rfl) (ws' := [(a, .inr (6, [.null, .null, .null, .int 0, .ref a1, .ref a2, .ref a3])), (a1, .inl (K.2.2.2.2.1.2.2, 3, .inr (.inr (.inr (.inr (fun i => if i < 3 then some (r1 i) else none))))))] ++ (List.range 3).map (fun i => (r1 i, .inl (K.2.2.2.2.1.1, 24, .inl (fun _ => 0)))) ++ [(a2, .inl (K.2.2.2.2.1.1, 24, .inl (fun _ => 0))), (a3, .inl (K.2.2.2.2.1.1, 3, .inl (fun _ => 0)))]) rfl ?_
  refine b_aload_n X dX6_init_30 31 rfl rfl ?_
  refine b_aload_n X dX6_init_31 32 rfl rfl ?_
  refine b_putF (c := 0) (ci := 6) (k := 0) (T := TX6) (ty0 := tyX6) X wf_X6_23 inX6 tyX6_ok nmX6 dX6_init_32 35 rfl rfl rfl (by decide) rfl rfl rfl rfl rfl (Nat.le_of_ble_eq_true rfl) (ws' := [(a, .inr (6, [.ref b1, .null, .null, .int 0, .ref a1, .ref a2, .ref a3])), (a1, .inl (K.2.2.2.2.1.2.2, 3, .inr (.inr (.inr (.inr (fun i => if i < 3 then some (r1 i) else none))))))] ++ (List.range 3).map (fun i => (r1 i, .inl (K.2.2.2.2.1.1, 24, .inl (fun _ => 0)))) ++ [(a2, .inl (K.2.2.2.2.1.1, 24, .inl (fun _ => 0))), (a3, .inl (K.2.2.2.2.1.1, 3, .inl (fun _ => 0)))]) rfl ?_
  refine b_aload_n X dX6_init_35 36 rfl rfl ?_
  refine b_aload_n X dX6_init_36 37 rfl rfl ?_
  refine b_putF (c := 0) (ci := 6) (k := 1) (T := TX6) (ty0 := tyX6) X wf_X6_27 inX6 tyX6_ok nmX6 dX6_init_37 40 rfl rfl rfl (by decide) rfl rfl rfl rfl rfl (Nat.le_of_ble_eq_true rfl) (ws' := [(a, .inr (6, [.ref b1, .ref b2, .null, .int 0, .ref a1, .ref a2, .ref a3])), (a1, .inl (K.2.2.2.2.1.2.2, 3, .inr (.inr (.inr (.inr (fun i => if i < 3 then some (r1 i) else none))))))] ++ (List.range 3).map (fun i => (r1 i, .inl (K.2.2.2.2.1.1, 24, .inl (fun _ => 0)))) ++ [(a2, .inl (K.2.2.2.2.1.1, 24, .inl (fun _ => 0))), (a3, .inl (K.2.2.2.2.1.1, 3, .inl (fun _ => 0)))]) rfl ?_
  refine b_aload_n X dX6_init_40 41 rfl rfl ?_
  refine b_aload_n X dX6_init_41 42 rfl rfl ?_
  refine b_putF (c := 0) (ci := 6) (k := 2) (T := TX6) (ty0 := tyX6) X wf_X6_31 inX6 tyX6_ok nmX6 dX6_init_42 45 rfl rfl rfl (by decide) rfl rfl rfl rfl rfl (Nat.le_of_ble_eq_true rfl) (ws' := [(a, .inr (6, [.ref b1, .ref b2, .ref b3, .int 0, .ref a1, .ref a2, .ref a3])), (a1, .inl (K.2.2.2.2.1.2.2, 3, .inr (.inr (.inr (.inr (fun i => if i < 3 then some (r1 i) else none))))))] ++ (List.range 3).map (fun i => (r1 i, .inl (K.2.2.2.2.1.1, 24, .inl (fun _ => 0)))) ++ [(a2, .inl (K.2.2.2.2.1.1, 24, .inl (fun _ => 0))), (a3, .inl (K.2.2.2.2.1.1, 3, .inl (fun _ => 0)))]) rfl ?_
  refine b_ret X Z dX6_init_45 (fun c => if 38 ≤ c ∧ c < 41 then r1 (c - 38) else lq [(36, a), (1, b1), (2, b2), (29, b3), (37, a1), (41, a2), (42, a3)] c) ⟨rfl, rfl, rfl, rfl⟩ ?_
  have e1 : ∀ i, i < 3 → (fun c => if 38 ≤ c ∧ c < 41 then r1 (c - 38) else lq [(36, a), (1, b1), (2, b2), (29, b3), (37, a1), (41, a2), (42, a3)] c) (38 + i) = r1 i := by
    intro i hi
    show (if 38 ≤ 38 + i ∧ 38 + i < 41 then r1 (38 + i - 38) else _) = r1 i
    rw [if_pos (by omega), Nat.add_sub_cancel_left]
  show _ = wl ([36, 37] ++ (List.range 3).map (38 + ·) ++ [41, 42]) XL K.2.2.2.2.1 (fun c => if 38 ≤ c ∧ c < 41 then r1 (c - 38) else lq [(36, a), (1, b1), (2, b2), (29, b3), (37, a1), (41, a2), (42, a3)] c) h
  rw [wl_app, wl_app]
  refine cg2 (cg2 ?_ (wl_grid e1 XL_38 (hz 38 (by decide)))) ?_
  · exact (by
    show ([(a, .inr (6, [.ref b1, .ref b2, .ref b3, .int 0, .ref a1, .ref a2, .ref a3])), (a1, .inl (K.2.2.2.2.1.2.2, 3, .inr (.inr (.inr (.inr (fun i => if i < 3 then some (r1 i) else none))))))] : va_W) = [(a, .inr (6, [.ref b1, .ref b2, .ref b3, .int (h 36 3), .ref a1, .ref a2, .ref a3])), (a1, .inl (K.2.2.2.2.1.2.2, 3, .inr (.inr (.inr (.inr (fun i => if i < 3 then some ((fun c => if 38 ≤ c ∧ c < 41 then r1 (c - 38) else lq [(36, a), (1, b1), (2, b2), (29, b3), (37, a1), (41, a2), (42, a3)] c) (38 + i)) else none))))))]
    rw [hz 36 (by decide) 3, xo (n := 3) (b := 38) (ad := (fun c => if 38 ≤ c ∧ c < 41 then r1 (c - 38) else lq [(36, a), (1, b1), (2, b2), (29, b3), (37, a1), (41, a2), (42, a3)] c)) (r := r1) e1])
  · exact (by
    show ([(a2, .inl (K.2.2.2.2.1.1, 24, .inl (fun _ => 0))), (a3, .inl (K.2.2.2.2.1.1, 3, .inl (fun _ => 0)))] : va_W) = [(a2, .inl (K.2.2.2.2.1.1, 24, .inl (fun i => if i < 24 then h 41 (i + 0) else 0))), (a3, .inl (K.2.2.2.2.1.1, 3, .inl (fun i => if i < 3 then h 42 (i + 0) else 0)))]
    rw [xz (n := 24) (o := 0) (hz 41 (by decide)), xz (n := 3) (o := 0) (hz 42 (by decide))])
set_option maxHeartbeats 1000000 in
set_option maxRecDepth 100000 in
theorem c_X5_init (h : Mem) (hz : ∀ r, r ∈ [53, 54, 55, 56, 57] → ∀ i, h r i = 0) (a b1 : Nat) : cB yX5_init cX5_init 2 1 20 4 28 [.ref a, .ref b1] [(a, .inr (5, [.null, .int 0, .null, .null, .int 0, .int 0, .null, .null]))] (fun ad => ad 53 = a ∧ ad 29 = b1) (fun cs ad => wl ([53, 54, 55, 56, 57]) XL cs ad h) := by
  refine cB_of (by decide +kernel) (Nat.le_of_ble_eq_true rfl) rfl ?_
  intro K X Z
  show B 2 K [(a, .inr (5, [.null, .int 0, .null, .null, .int 0, .int 0, .null, .null]))] 0 0 0 [(0, .ref a), (1, .ref b1)] []
  refine b_aload_n X dX5_init_0 1 rfl rfl ?_
  refine b_obj X wo_X5 dX5_init_1 4 rfl ⟨Nat.le_of_ble_eq_true rfl, Nat.le_of_ble_eq_true rfl⟩ (Nat.le_of_ble_eq_true rfl) ?_
  refine b_aload_n X dX5_init_4 5 rfl rfl ?_
  refine b_bipush X (v := nI 7) dX5_init_5 7 rfl (by decide) ?_
  refine b_newi X (n := 7) (by decide) rfl (Nat.le_of_ble_eq_true rfl) (Nat.le_of_ble_eq_true rfl) dX5_init_7 9 rfl (fun a1 => ?_)
  show B 2 K ([(a, .inr (5, [.null, .int 0, .null, .null, .int 0, .int 0, .null, .null])), (a1, .inl (K.2.2.2.2.1.1, 7, .inl (fun _ => 0)))]) 1 7 9 [(0, .ref a), (1, .ref b1)] [.ref a1, .ref a]
  refine b_putF (c := 0) (ci := 5) (k := 2) (T := TX5) (ty0 := tyX5) X wf_X5_11 inX5 tyX5_ok nmX5 dX5_init_9 12 rfl rfl rfl (by decide) rfl rfl rfl rfl rfl (Nat.le_of_ble_eq_true rfl) (ws' := [(a, .inr (5, [.null, .int 0, .ref a1, .null, .int 0, .int 0, .null, .null])), (a1, .inl (K.2.2.2.2.1.1, 7, .inl (fun _ => 0)))]) rfl ?_
  refine b_aload_n X dX5_init_12 13 rfl rfl ?_
  refine b_bipush X (v := nI 7) dX5_init_13 15 rfl (by decide) ?_
  refine b_newi X (n := 7) (by decide) rfl (Nat.le_of_ble_eq_true rfl) (Nat.le_of_ble_eq_true rfl) dX5_init_15 17 rfl (fun a2 => ?_)
  show B 2 K ([(a, .inr (5, [.null, .int 0, .ref a1, .null, .int 0, .int 0, .null, .null])), (a1, .inl (K.2.2.2.2.1.1, 7, .inl (fun _ => 0))), (a2, .inl (K.2.2.2.2.1.1, 7, .inl (fun _ => 0)))]) 2 14 17 [(0, .ref a), (1, .ref b1)] [.ref a2, .ref a]
  refine b_putF (c := 0) (ci := 5) (k := 3) (T := TX5) (ty0 := tyX5) X wf_X5_15 inX5 tyX5_ok nmX5 dX5_init_17 20 rfl rfl rfl (by decide) rfl rfl rfl rfl rfl (Nat.le_of_ble_eq_true rfl) (ws' := [(a, .inr (5, [.null, .int 0, .ref a1, .ref a2, .int 0, .int 0, .null, .null])), (a1, .inl (K.2.2.2.2.1.1, 7, .inl (fun _ => 0))), (a2, .inl (K.2.2.2.2.1.1, 7, .inl (fun _ => 0)))]) rfl ?_
  refine b_aload_n X dX5_init_20 21 rfl rfl ?_
  refine b_bipush X (v := nI 7) dX5_init_21 23 rfl (by decide) ?_
  refine b_newi X (n := 7) (by decide) rfl (Nat.le_of_ble_eq_true rfl) (Nat.le_of_ble_eq_true rfl) dX5_init_23 25 rfl (fun a3 => ?_)
  show B 2 K ([(a, .inr (5, [.null, .int 0, .ref a1, .ref a2, .int 0, .int 0, .null, .null])), (a1, .inl (K.2.2.2.2.1.1, 7, .inl (fun _ => 0))), (a2, .inl (K.2.2.2.2.1.1, 7, .inl (fun _ => 0))), (a3, .inl (K.2.2.2.2.1.1, 7, .inl (fun _ => 0)))]) 3 21 25 [(0, .ref a), (1, .ref b1)] [.ref a3, .ref a]
  refine b_putF (c := 0) (ci := 5) (k := 6) (T := TX5) (ty0 := tyX5) X wf_X5_18 inX5 tyX5_ok nmX5 dX5_init_25 28 rfl rfl rfl (by decide) rfl rfl rfl rfl rfl (Nat.le_of_ble_eq_true rfl) (ws' := [(a, .inr (5, [.null, .int 0, .ref a1, .ref a2, .int 0, .int 0, .ref a3, .null])), (a1, .inl (K.2.2.2.2.1.1, 7, .inl (fun _ => 0))), (a2, .inl (K.2.2.2.2.1.1, 7, .inl (fun _ => 0))), (a3, .inl (K.2.2.2.2.1.1, 7, .inl (fun _ => 0)))]) rfl ?_
  refine b_aload_n X dX5_init_28 29 rfl rfl ?_
  refine b_bipush X (v := nI 7) dX5_init_29 31 rfl (by decide) ?_
  refine b_newz X (n := 7) (by decide) rfl (Nat.le_of_ble_eq_true rfl) (Nat.le_of_ble_eq_true rfl) dX5_init_31 33 rfl (fun a4 => ?_)
  show B 2 K ([(a, .inr (5, [.null, .int 0, .ref a1, .ref a2, .int 0, .int 0, .ref a3, .null])), (a1, .inl (K.2.2.2.2.1.1, 7, .inl (fun _ => 0))), (a2, .inl (K.2.2.2.2.1.1, 7, .inl (fun _ => 0))), (a3, .inl (K.2.2.2.2.1.1, 7, .inl (fun _ => 0))), (a4, .inl (K.2.2.2.2.1.2.1, 7, .inl (fun _ => 0)))]) 4 28 33 [(0, .ref a), (1, .ref b1)] [.ref a4, .ref a]
  refine b_putF (c := 0) (ci := 5) (k := 7) (T := TX5) (ty0 := tyX5) X wf_X5_21 inX5 tyX5_ok nmX5 dX5_init_33 36 rfl rfl rfl (by decide) rfl rfl rfl rfl rfl (Nat.le_of_ble_eq_true rfl) (ws' := [(a, .inr (5, [.null, .int 0, .ref a1, .ref a2, .int 0, .int 0, .ref a3, .ref a4])), (a1, .inl (K.2.2.2.2.1.1, 7, .inl (fun _ => 0))), (a2, .inl (K.2.2.2.2.1.1, 7, .inl (fun _ => 0))), (a3, .inl (K.2.2.2.2.1.1, 7, .inl (fun _ => 0))), (a4, .inl (K.2.2.2.2.1.2.1, 7, .inl (fun _ => 0)))]) rfl ?_
  refine b_aload_n X dX5_init_36 37 rfl rfl ?_
  refine b_aload_n X dX5_init_37 38 rfl rfl ?_
  refine b_putF (c := 0) (ci := 5) (k := 0) (T := TX5) (ty0 := tyX5) X wf_X5_25 inX5 tyX5_ok nmX5 dX5_init_38 41 rfl rfl rfl (by decide) rfl rfl rfl rfl rfl (Nat.le_of_ble_eq_true rfl) (ws' := [(a, .inr (5, [.ref b1, .int 0, .ref a1, .ref a2, .int 0, .int 0, .ref a3, .ref a4])), (a1, .inl (K.2.2.2.2.1.1, 7, .inl (fun _ => 0))), (a2, .inl (K.2.2.2.2.1.1, 7, .inl (fun _ => 0))), (a3, .inl (K.2.2.2.2.1.1, 7, .inl (fun _ => 0))), (a4, .inl (K.2.2.2.2.1.2.1, 7, .inl (fun _ => 0)))]) rfl ?_
  refine b_ret X Z dX5_init_41 (lq [(53, a), (29, b1), (54, a1), (55, a2), (56, a3), (57, a4)]) ⟨rfl, rfl⟩ ?_
  exact (by
    show ([(a, .inr (5, [.ref b1, .int 0, .ref a1, .ref a2, .int 0, .int 0, .ref a3, .ref a4])), (a1, .inl (K.2.2.2.2.1.1, 7, .inl (fun _ => 0))), (a2, .inl (K.2.2.2.2.1.1, 7, .inl (fun _ => 0))), (a3, .inl (K.2.2.2.2.1.1, 7, .inl (fun _ => 0))), (a4, .inl (K.2.2.2.2.1.2.1, 7, .inl (fun _ => 0)))] : va_W) = [(a, .inr (5, [.ref b1, .int (h 53 1), .ref a1, .ref a2, .int (h 53 4), .int (h 53 5), .ref a3, .ref a4])), (a1, .inl (K.2.2.2.2.1.1, 7, .inl (fun i => if i < 7 then h 54 (i + 0) else 0))), (a2, .inl (K.2.2.2.2.1.1, 7, .inl (fun i => if i < 7 then h 55 (i + 0) else 0))), (a3, .inl (K.2.2.2.2.1.1, 7, .inl (fun i => if i < 7 then h 56 (i + 0) else 0))), (a4, .inl (K.2.2.2.2.1.2.1, 7, .inl (fun i => if i < 7 then h 57 (i + 0) else 0)))]
    rw [hz 53 (by decide) 1, hz 53 (by decide) 4, hz 53 (by decide) 5, xz (n := 7) (o := 0) (hz 54 (by decide)), xz (n := 7) (o := 0) (hz 55 (by decide)), xz (n := 7) (o := 0) (hz 56 (by decide)), xz (n := 7) (o := 0) (hz 57 (by decide))])
set_option maxHeartbeats 1000000 in
set_option maxRecDepth 100000 in
theorem c_X2_init (h : Mem) (hz : ∀ r, r ∈ [58, 59, 60] → ∀ i, h r i = 0) (a b1 b2 b3 : Nat) : cB yX2_init cX2_init 4 1 20 2 6 [.ref a, .ref b1, .ref b2, .ref b3] [(a, .inr (2, [.null, .null, .null, .int 0, .null, .null]))] (fun ad => ad 58 = a ∧ ad 1 = b1 ∧ ad 29 = b2 ∧ ad 36 = b3) (fun cs ad => wl ([58, 59, 60]) XL cs ad h) := by
  refine cB_of (by decide +kernel) (Nat.le_of_ble_eq_true rfl) rfl ?_
  intro K X Z
  show B 4 K [(a, .inr (2, [.null, .null, .null, .int 0, .null, .null]))] 0 0 0 [(0, .ref a), (1, .ref b1), (2, .ref b2), (3, .ref b3)] []
  refine b_aload_n X dX2_init_0 1 rfl rfl ?_
  refine b_obj X wo_X2 dX2_init_1 4 rfl ⟨Nat.le_of_ble_eq_true rfl, Nat.le_of_ble_eq_true rfl⟩ (Nat.le_of_ble_eq_true rfl) ?_
  refine b_aload_n X dX2_init_4 5 rfl rfl ?_
  refine b_iconst X (v := nI 3) dX2_init_5 6 rfl (by decide) ?_
  refine b_newi X (n := 3) (by decide) rfl (Nat.le_of_ble_eq_true rfl) (Nat.le_of_ble_eq_true rfl) dX2_init_6 8 rfl (fun a1 => ?_)
  show B 4 K ([(a, .inr (2, [.null, .null, .null, .int 0, .null, .null])), (a1, .inl (K.2.2.2.2.1.1, 3, .inl (fun _ => 0)))]) 1 3 8 [(0, .ref a), (1, .ref b1), (2, .ref b2), (3, .ref b3)] [.ref a1, .ref a]
  refine b_putF (c := 0) (ci := 2) (k := 4) (T := TX2) (ty0 := tyX2) X wf_X2_11 inX2 tyX2_ok nmX2 dX2_init_8 11 rfl rfl rfl (by decide) rfl rfl rfl rfl rfl (Nat.le_of_ble_eq_true rfl) (ws' := [(a, .inr (2, [.null, .null, .null, .int 0, .ref a1, .null])), (a1, .inl (K.2.2.2.2.1.1, 3, .inl (fun _ => 0)))]) rfl ?_
  refine b_aload_n X dX2_init_11 12 rfl rfl ?_
  refine b_iconst X (v := nI 3) dX2_init_12 13 rfl (by decide) ?_
  refine b_newi X (n := 3) (by decide) rfl (Nat.le_of_ble_eq_true rfl) (Nat.le_of_ble_eq_true rfl) dX2_init_13 15 rfl (fun a2 => ?_)
  show B 4 K ([(a, .inr (2, [.null, .null, .null, .int 0, .ref a1, .null])), (a1, .inl (K.2.2.2.2.1.1, 3, .inl (fun _ => 0))), (a2, .inl (K.2.2.2.2.1.1, 3, .inl (fun _ => 0)))]) 2 6 15 [(0, .ref a), (1, .ref b1), (2, .ref b2), (3, .ref b3)] [.ref a2, .ref a]
  refine b_putF (c := 0) (ci := 2) (k := 5) (T := TX2) (ty0 := tyX2) X wf_X2_15 inX2 tyX2_ok nmX2 dX2_init_15 18 rfl rfl rfl (by decide) rfl rfl rfl rfl rfl (Nat.le_of_ble_eq_true rfl) (ws' := [(a, .inr (2, [.null, .null, .null, .int 0, .ref a1, .ref a2])), (a1, .inl (K.2.2.2.2.1.1, 3, .inl (fun _ => 0))), (a2, .inl (K.2.2.2.2.1.1, 3, .inl (fun _ => 0)))]) rfl ?_
  refine b_aload_n X dX2_init_18 19 rfl rfl ?_
  refine b_aload_n X dX2_init_19 20 rfl rfl ?_
  refine b_putF (c := 0) (ci := 2) (k := 0) (T := TX2) (ty0 := tyX2) X wf_X2_18 inX2 tyX2_ok nmX2 dX2_init_20 23 rfl rfl rfl (by decide) rfl rfl rfl rfl rfl (Nat.le_of_ble_eq_true rfl) (ws' := [(a, .inr (2, [.ref b1, .null, .null, .int 0, .ref a1, .ref a2])), (a1, .inl (K.2.2.2.2.1.1, 3, .inl (fun _ => 0))), (a2, .inl (K.2.2.2.2.1.1, 3, .inl (fun _ => 0)))]) rfl ?_
  refine b_aload_n X dX2_init_23 24 rfl rfl ?_
  refine b_aload_n X dX2_init_24 25 rfl rfl ?_
  refine b_putF (c := 0) (ci := 2) (k := 1) (T := TX2) (ty0 := tyX2) X wf_X2_22 inX2 tyX2_ok nmX2 dX2_init_25 28 rfl rfl rfl (by decide) rfl rfl rfl rfl rfl (Nat.le_of_ble_eq_true rfl) (ws' := [(a, .inr (2, [.ref b1, .ref b2, .null, .int 0, .ref a1, .ref a2])), (a1, .inl (K.2.2.2.2.1.1, 3, .inl (fun _ => 0))), (a2, .inl (K.2.2.2.2.1.1, 3, .inl (fun _ => 0)))]) rfl ?_
  refine b_aload_n X dX2_init_28 29 rfl rfl ?_
  refine b_aload_n X dX2_init_29 30 rfl rfl ?_
  refine b_putF (c := 0) (ci := 2) (k := 2) (T := TX2) (ty0 := tyX2) X wf_X2_26 inX2 tyX2_ok nmX2 dX2_init_30 33 rfl rfl rfl (by decide) rfl rfl rfl rfl rfl (Nat.le_of_ble_eq_true rfl) (ws' := [(a, .inr (2, [.ref b1, .ref b2, .ref b3, .int 0, .ref a1, .ref a2])), (a1, .inl (K.2.2.2.2.1.1, 3, .inl (fun _ => 0))), (a2, .inl (K.2.2.2.2.1.1, 3, .inl (fun _ => 0)))]) rfl ?_
  refine b_ret X Z dX2_init_33 (lq [(58, a), (1, b1), (29, b2), (36, b3), (59, a1), (60, a2)]) ⟨rfl, rfl, rfl, rfl⟩ ?_
  exact (by
    show ([(a, .inr (2, [.ref b1, .ref b2, .ref b3, .int 0, .ref a1, .ref a2])), (a1, .inl (K.2.2.2.2.1.1, 3, .inl (fun _ => 0))), (a2, .inl (K.2.2.2.2.1.1, 3, .inl (fun _ => 0)))] : va_W) = [(a, .inr (2, [.ref b1, .ref b2, .ref b3, .int (h 58 3), .ref a1, .ref a2])), (a1, .inl (K.2.2.2.2.1.1, 3, .inl (fun i => if i < 3 then h 59 (i + 0) else 0))), (a2, .inl (K.2.2.2.2.1.1, 3, .inl (fun i => if i < 3 then h 60 (i + 0) else 0)))]
    rw [hz 58 (by decide) 3, xz (n := 3) (o := 0) (hz 59 (by decide)), xz (n := 3) (o := 0) (hz 60 (by decide))])
set_option maxHeartbeats 1000000 in
set_option maxRecDepth 100000 in
theorem c_X1_init (h : Mem) (h0 : h 1 0 = nI 12) (h1 : h 1 1 = nI 1) (h2 : h 1 2 = nI 3) (a : Nat) : cB yX1_init cX1_init 1 1 20 0 0 [.ref a] [(a, .inr (1, [.int 0, .int 0, .int 0]))] (fun ad => ad 1 = a) (fun cs ad => wl ([1]) XL cs ad h) := by
  refine cB_of (by decide +kernel) (Nat.le_of_ble_eq_true rfl) rfl ?_
  intro K X Z
  show B 1 K [(a, .inr (1, [.int 0, .int 0, .int 0]))] 0 0 0 [(0, .ref a)] []
  refine b_aload_n X dX1_init_0 1 rfl rfl ?_
  refine b_obj X wo_X1 dX1_init_1 4 rfl ⟨Nat.le_of_ble_eq_true rfl, Nat.le_of_ble_eq_true rfl⟩ (Nat.le_of_ble_eq_true rfl) ?_
  refine b_aload_n X dX1_init_4 5 rfl rfl ?_
  refine b_bipush X (v := nI 12) dX1_init_5 7 rfl (by decide) ?_
  refine b_put (c := 0) (ci := 1) (k := 0) (T := TX1) (ty0 := tyX1) X wf_X1_7 inX1 tyX1_ok nmX1 dX1_init_7 10 rfl rfl rfl (by decide) rfl rfl rfl rfl (Nat.le_of_ble_eq_true rfl) (ws' := [(a, .inr (1, [.int (nI 12), .int 0, .int 0]))]) rfl ?_
  refine b_aload_n X dX1_init_10 11 rfl rfl ?_
  refine b_iconst X (v := nI 1) dX1_init_11 12 rfl (by decide) ?_
  refine b_put (c := 0) (ci := 1) (k := 1) (T := TX1) (ty0 := tyX1) X wf_X1_13 inX1 tyX1_ok nmX1 dX1_init_12 15 rfl rfl rfl (by decide) rfl rfl rfl rfl (Nat.le_of_ble_eq_true rfl) (ws' := [(a, .inr (1, [.int (nI 12), .int (nI 1), .int 0]))]) rfl ?_
  refine b_aload_n X dX1_init_15 16 rfl rfl ?_
  refine b_iconst X (v := nI 3) dX1_init_16 17 rfl (by decide) ?_
  refine b_put (c := 0) (ci := 1) (k := 2) (T := TX1) (ty0 := tyX1) X wf_X1_16 inX1 tyX1_ok nmX1 dX1_init_17 20 rfl rfl rfl (by decide) rfl rfl rfl rfl (Nat.le_of_ble_eq_true rfl) (ws' := [(a, .inr (1, [.int (nI 12), .int (nI 1), .int (nI 3)]))]) rfl ?_
  refine b_ret X Z dX1_init_20 (lq [(1, a)]) rfl ?_
  exact (by
    show ([(a, .inr (1, [.int (nI 12), .int (nI 1), .int (nI 3)]))] : va_W) = [(a, .inr (1, [.int (h 1 0), .int (h 1 1), .int (h 1 2)]))]
    rw [h0, h1, h2])
