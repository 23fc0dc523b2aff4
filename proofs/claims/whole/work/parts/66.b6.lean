/-! SlotTurns(): all its cells -/
def refIn (S : List Nat) : KD → Bool
  | .inl (_, n, sk) => (List.range n).all (fun j => match sk j with
    | none => true
    | some d => S.contains d)
  | .inr (t, n, r, _) => t != 2 || (List.range n).all (fun i => S.contains (r + i))
theorem xe_cg {cs : Nat × Nat × Nat} {ad ad' : Nat → Nat} {h : Mem} {c : Nat} {k : KD} {S : List Nat} (hk : refIn S k = true) (e : ∀ d, d ∈ S → ad d = ad' d) : xe cs ad h c k = xe cs ad' h c k := by
  match k, hk with
  | .inl (ci, n, sk), hk =>
    show (Sum.inr (ci, (List.range n).map (xfv ad h c sk)) : va_E) = Sum.inr (ci, (List.range n).map (xfv ad' h c sk))
    have e2 : (List.range n).map (xfv ad h c sk) = (List.range n).map (xfv ad' h c sk) := by
      refine List.map_congr_left (fun j hj => ?_)
      have h1 := List.all_eq_true.mp hk j hj
      unfold xfv
      cases hs : sk j with
      | none => rfl
      | some d =>
        rw [hs] at h1
        show Value.ref (ad d) = Value.ref (ad' d)
        rw [e d (List.contains_iff_mem.mp h1)]
    rw [e2]
  | .inr (t, n, r, o), hk =>
    show xarr cs ad h t n r o = xarr cs ad' h t n r o
    unfold xarr
    by_cases ht : t = 2
    · rw [if_pos ht, if_pos ht]
      have h1 : (t != 2 || (List.range n).all (fun i => S.contains (r + i))) = true := hk
      rw [ht] at h1
      have h2 : (List.range n).all (fun i => S.contains (r + i)) = true := h1
      have e2 : (fun i => if i < n then some (ad (r + i)) else none) = (fun i => if i < n then some (ad' (r + i)) else none) := by
        funext i
        by_cases hi : i < n
        · rw [if_pos hi, if_pos hi, e (r + i) (List.contains_iff_mem.mp (List.all_eq_true.mp h2 i (List.mem_range.mpr hi)))]
        · rw [if_neg hi, if_neg hi]
      rw [e2]
    · rw [if_neg ht, if_neg ht]
theorem wl_cg {ids S : List Nat} {L : Nat → KD} {cs : Nat × Nat × Nat} {ad ad' : Nat → Nat} {h : Mem} (hS : ids.all (fun c => S.contains c && refIn S (L c)) = true) (e : ∀ d, d ∈ S → ad d = ad' d) : wl ids L cs ad h = wl ids L cs ad' h := by
  unfold wl
  refine List.map_congr_left (fun c hc => ?_)
  have h1 := List.all_eq_true.mp hS c hc
  rw [Bool.and_eq_true] at h1
  rw [e c (List.contains_iff_mem.mp h1.1), xe_cg h1.2 e]
theorem ad_mix {S1 refs ids2 : List Nat} {ad ad2 : Nat → Nat} (hd : ∀ d, d ∈ S1 → d ∉ ids2) (hr : ∀ d, d ∈ refs → d ∈ S1 ∧ ad2 d = ad d) : ∃ adN : Nat → Nat, (∀ d, d ∈ S1 → ad d = adN d) ∧ ∀ d, d ∈ refs ++ ids2 → ad2 d = adN d := by
  refine ⟨fun c => if c ∈ ids2 then ad2 c else ad c, fun d h => (if_neg (hd d h)).symm, fun d h => ?_⟩
  show ad2 d = if d ∈ ids2 then ad2 d else ad d
  by_cases c : d ∈ ids2
  · rw [if_pos c]
  · rw [if_neg c]
    rcases List.mem_append.mp h with h | h
    · exact (hr d h).2
    · exact absurd h c
theorem nd_rg : ∀ n s : Nat, va_nd (List.range' s n) = true
  | 0, _ => rfl
  | n + 1, s => by
    rw [List.range'_succ]
    show (decide (s ∉ List.range' (s + 1) n) && va_nd (List.range' (s + 1) n)) = true
    rw [nd_rg n (s + 1), Bool.and_true, decide_eq_true_iff]
    intro z
    have := (List.mem_range'_1.mp z).1
    omega
theorem hR_app (wr : va_W) (x : Nat × va_E) : (List.range wr.length).map (fun i => (wr ++ [x])[i]?) = wr.map some := by
  apply List.ext_getElem?
  intro i
  rw [List.getElem?_map, List.getElem?_map]
  by_cases hi : i < wr.length
  · rw [List.getElem?_range hi, Option.map_some, List.getElem?_append_left hi, List.getElem?_eq_getElem hi, Option.map_some]
  · rw [List.getElem?_eq_none (by simp; omega), List.getElem?_eq_none (by omega)]
    rfl
theorem hC_at (wr : va_W) (x : Nat × va_E) : (wr ++ [x])[wr.length]? = some x := by simp
section Bi
variable {nL : Nat} {cc : ByteArray} {own : String} {rm : Room} {K : KT} {ws : va_W} {ce sl pc : Nat} {lv : List (Nat × Value)} {st : List Value}
/-- a constructor's call, behind its new -/
theorem b_init1 (X : Bx nL cc own rm K) {idx : Nat} {y : MethodName} {bs : ByteArray} {mL n fr2 lo2 mc ms a : Nat} {nest : Bool} {As st0 : List Value} {wr : va_W} {x : Nat × va_E} {post : (Nat → Nat) → Prop} {w1 : Nat × Nat × Nat → (Nat → Nat) → va_W} (cw : CI own idx y bs mL n nest) (hM : cB y bs mL fr2 lo2 mc ms (.ref a :: As) [x] post w1) (hd : decode cc pc = .ok (.invokespecial idx, 3)) (q : Nat) (hq : pc + 3 = q) (hws : ws = wr ++ [x]) (hAs : As.length = n) (hst : st0 = As.reverse ++ .ref a :: st) (hr : fr2 + 1 ≤ rm.frames ∧ 19 + mL + lo2 ≤ rm.locals) (hc1 : ce + mc ≤ rm.cells) (hc2 : sl + ms ≤ rm.slots) (hcat : (st.map fun v => v.category).sum ≤ 8) (k : ∀ ad, post ad → B nL K (wr ++ w1 K.2.2.2.2.1 ad) (ce + mc) (sl + ms) q lv st) : B nL K ws ce sl pc lv st0 := by
  subst hws
  refine b_init X cw hM hd q hq [wr.length] (List.range wr.length) ?_ ?_ rfl (hR_app wr x) (by rw [List.range_eq_range']; exact nd_rg _ _) (fun i hi z => ?_) hAs hst hr hc1 hc2 hcat k
  · show [(wr ++ [x])[wr.length]?] = [some x]
    rw [hC_at]
  · rw [List.filterMap_cons_some (hC_at wr x)]
    rfl
  · have h1 := List.mem_range.mp hi
    have h2 := List.mem_singleton.mp z
    omega
theorem b_pad {a ci : Nat} {fs fs' : List Value} {t : va_W} (e : ∀ k, vp_V fs k = vp_V fs' k) (k : B nL K ((a, .inr (ci, fs')) :: t) ce sl pc lv st) : B nL K ((a, .inr (ci, fs)) :: t) ce sl pc lv st := by
  have e' : vp_V fs = vp_V fs' := funext e
  intro H locs ls hP hD hS hl
  have at0 : ∀ (i : Nat) (q : Nat × va_E), (((a, .inr (ci, fs')) :: t) : va_W)[i]? = some q → ∃ q0, (((a, .inr (ci, fs)) :: t) : va_W)[i]? = some q0 ∧ q0.1 = q.1 := by
    intro i q hq
    cases i with
    | zero => cases hq; exact ⟨_, rfl, rfl⟩
    | succ i => exact ⟨q, hq, rfl⟩
  refine k H locs ls (fun i q hq => ?_) ⟨fun i j p q hi hj he => ?_, fun i q hq => ?_⟩ hS hl
  · cases i with
    | zero =>
      cases hq
      obtain ⟨r, h1, h2⟩ := hP 0 _ rfl
      refine ⟨r, h1, ?_⟩
      show t_OB a (K.2.2.2.1.1 ci) r.2.2 (K.2.2.2.1.2 ci) H (vp_V fs')
      rw [← e']
      exact h2
    | succ i => exact hP (i + 1) q hq
  · obtain ⟨p0, a1, a2⟩ := at0 i p hi
    obtain ⟨q0, b1, b2⟩ := at0 j q hj
    exact hD.1 i j p0 q0 a1 b1 (by rw [a2, b2]; exact he)
  · obtain ⟨q0, b1, b2⟩ := at0 i q hq
    rw [← b2]
    exact hD.2 i q0 b1
end Bi
/-- the class's rows when it has been made, ahead of its roots -/
def hX0 : Mem := fun c j => if c = 1 then (if j = 0 then nI 12 else if j = 1 then nI 1 else if j = 2 then nI 3 else 0) else if c = 44 then zI (-4) else if c = 62 then zI (-1) else 0
def hX1 : Mem := rtM hX0 12 4
theorem hX0_z {r : Nat} (h : r ≠ 1 ∧ r ≠ 44 ∧ r ≠ 62) (i : Nat) : hX0 r i = 0 := by
  unfold hX0
  rw [if_neg h.1, if_neg h.2.1, if_neg h.2.2]
theorem hX1_o {r : Nat} (h : r ≠ 2 ∧ r ≠ 3 ∧ r ≠ 5) (i : Nat) : hX1 r i = hX0 r i := by
  unfold hX1 rtM
  rw [mrow_n _ _ h.2.2, mrow_n _ _ h.2.1, mup_n _ _ h.1, mup_n _ _ h.1]
theorem hX1_z {r : Nat} (h : (r ≠ 2 ∧ r ≠ 3 ∧ r ≠ 5) ∧ r ≠ 1 ∧ r ≠ 44 ∧ r ≠ 62) (i : Nat) : hX1 r i = 0 := (hX1_o h.1 i).trans (hX0_z h.2 i)
theorem YX {c : Nat} (h1 : 1 ≤ c) (h2 : c < 29) : YL c = XL c := by
  by_cases h5 : 5 ≤ c
  · unfold YL XL
    rw [if_pos ⟨h5, h2⟩, if_pos ⟨h5, h2⟩]
  · rcases (show c = 1 ∨ c = 2 ∨ c = 3 ∨ c = 4 by omega) with e | e | e | e <;> rw [e] <;> rfl
theorem ci_X8_11 : CI RX8 11 yX1_init cX1_init 1 0 true := ⟨wm_X8_11, wn_X1, wc_X1_init, wi_X1_init, by decide +kernel, rfl⟩
theorem ci_X8_18 : CI RX8 18 yX3_init cX3_init 1 0 true := ⟨wm_X8_18, wn_X3, wc_X3_init, wi_X3_init, by decide +kernel, rfl⟩
theorem ci_X8_33 : CI RX8 33 yX0_init cX0_init 2 1 false := ⟨wm_X8_33, wn_X0, wc_X0_init, wi_X0_init, by decide +kernel, rfl⟩
theorem ci_X8_42 : CI RX8 42 yX6_init cX6_init 4 3 false := ⟨wm_X8_42, wn_X6, wc_X6_init, wi_X6_init, by decide +kernel, rfl⟩
theorem ci_X8_51 : CI RX8 51 yX7_init cX7_init 5 3 false := ⟨wm_X8_51, wn_X7, wc_X7_init, wi_X7_init, by decide +kernel, rfl⟩
theorem ci_X8_58 : CI RX8 58 yX5_init cX5_init 2 1 false := ⟨wm_X8_58, wn_X5, wc_X5_init, wi_X5_init, by decide +kernel, rfl⟩
theorem ci_X8_67 : CI RX8 67 yX2_init cX2_init 4 3 false := ⟨wm_X8_67, wn_X2, wc_X2_init, wi_X2_init, by decide +kernel, rfl⟩
theorem ci_X8_76 : CI RX8 76 yX4_init cX4_init 2 0 false := ⟨wm_X8_76, wn_X4, wc_X4_init, wi_X4_init, by decide +kernel, rfl⟩
set_option maxHeartbeats 4000000 in
set_option maxRecDepth 100000 in
theorem c_X8_init (a : Nat) : cB yX8_init cX8_init 1 3 68 68 1494 [.ref a] [(a, .inr (8, [.null, .null, .null, .null, .null, .null, .null, .null]))] (fun ad => ad 0 = a) (fun cs ad => wd 69 XL cs ad hX1) := by
  refine cB_of (by decide +kernel) (Nat.le_of_ble_eq_true rfl) rfl ?_
  intro K X Z
  show B 1 K [(a, .inr (8, [.null, .null, .null, .null, .null, .null, .null, .null]))] 0 0 0 [(0, .ref a)] []
  have k0 : (fun _ : Nat => a) 0 = a := rfl
  generalize (fun _ : Nat => a) = ad0 at k0
  refine b_aload_n X dX8_init_0 1 rfl rfl ?_
  refine b_obj X wo_X8 dX8_init_1 4 rfl ⟨Nat.le_of_ble_eq_true rfl, Nat.le_of_ble_eq_true rfl⟩ (Nat.le_of_ble_eq_true rfl) ?_
  -- X1
  refine b_aload_n X dX8_init_4 5 rfl rfl ?_
  refine b_new (ci := 1) (C := RX1) (T := TX1) (n := 3) (ty := tyX1) (fs := [.int 0, .int 0, .int 0]) X inX1 tyX1_ok wl_X8_9 wb_X1 wn_X1 rfl (fun j hj => by match j, hj with | 0, _ => rfl | 1, _ => rfl | 2, _ => rfl | k + 3, h => exact absurd h (by omega)) (Nat.le_of_ble_eq_true rfl) (Nat.le_of_ble_eq_true rfl) dX8_init_5 8 rfl (fun b1 => ?_)
  show B 1 K ((((a, .inr (8, [.null, .null, .null, .null, .null, .null, .null, .null])) :: ([] : va_W)) ++ [(b1, .inr (1, [.int 0, .int 0, .int 0]))]) : va_W) 1 3 8 [(0, .ref a)] [.ref b1, .ref a]
  refine b_dup X dX8_init_8 9 rfl ?_
  refine b_init1 (wr := (a, .inr (8, [.null, .null, .null, .null, .null, .null, .null, .null])) :: ([] : va_W)) (As := []) (st := [.ref b1, .ref a]) X ci_X8_11 (c_X1_init hX0 rfl rfl rfl b1) dX8_init_9 12 rfl rfl rfl rfl ⟨Nat.le_of_ble_eq_true rfl, Nat.le_of_ble_eq_true rfl⟩ (Nat.le_of_ble_eq_true rfl) (Nat.le_of_ble_eq_true rfl) (Nat.le_of_ble_eq_true rfl) (fun adc hp => ?_)
  have p1 := hp
  obtain ⟨ad1, e1, e2⟩ := ad_mix (S1 := [0]) (refs := []) (ids2 := [1]) (ad := ad0) (ad2 := adc) (by decide) (fun d hd => absurd hd List.not_mem_nil)
  have eW : ([] : va_W) ++ wl ([1]) XL K.2.2.2.2.1 adc hX0 = wl ([1]) XL K.2.2.2.2.1 ad1 hX0 := by
    rw [List.nil_append, wl_cg (S := [] ++ [1]) (by decide +kernel) e2]
  show B 1 K ((a, .inr (8, [.null, .null, .null, .null, .null, .null, .null, .null])) :: (([] : va_W) ++ wl ([1]) XL K.2.2.2.2.1 adc hX0)) 1 3 12 [(0, .ref a)] [.ref b1, .ref a]
  rw [eW]
  replace k0 := (e1 0 (by decide)).symm.trans k0
  have k1 := (e2 1 (by decide)).symm.trans p1
  clear e1 e2 eW p1
  refine b_putF (c := 0) (ci := 8) (k := 0) (T := TX8) (ty0 := tyX8) X wf_X8_12 inX8 tyX8_ok nmX8 dX8_init_12 15 rfl rfl rfl (by decide) rfl rfl rfl rfl rfl (Nat.le_of_ble_eq_true rfl) (ws' := (a, .inr (8, [.ref b1, .null, .null, .null, .null, .null, .null, .null])) :: wl ([1]) XL K.2.2.2.2.1 ad1 hX0) rfl ?_
  -- X3
  refine b_aload_n X dX8_init_15 16 rfl rfl ?_
  refine b_new (ci := 3) (C := RX3) (T := TX3) (n := 4) (ty := tyX3) (fs := [.int 0, .int 0, .null, .null]) X inX3 tyX3_ok wl_X8_16 wb_X3 wn_X3 rfl (fun j hj => by match j, hj with | 0, _ => rfl | 1, _ => rfl | 2, _ => rfl | 3, _ => rfl | k + 4, h => exact absurd h (by omega)) (Nat.le_of_ble_eq_true rfl) (Nat.le_of_ble_eq_true rfl) dX8_init_16 19 rfl (fun b2 => ?_)
  show B 1 K ((((a, .inr (8, [.ref b1, .null, .null, .null, .null, .null, .null, .null])) :: (wl ([1]) XL K.2.2.2.2.1 ad1 hX0 : va_W)) ++ [(b2, .inr (3, [.int 0, .int 0, .null, .null]))]) : va_W) 2 7 19 [(0, .ref a)] [.ref b2, .ref a]
  refine b_dup X dX8_init_19 20 rfl ?_
  refine b_init1 (wr := (a, .inr (8, [.ref b1, .null, .null, .null, .null, .null, .null, .null])) :: (wl ([1]) XL K.2.2.2.2.1 ad1 hX0 : va_W)) (As := []) (st := [.ref b2, .ref a]) X ci_X8_18 (c_X3_init hX0 (fun r hr => hX0_z ((by decide : ∀ r, r ∈ [2, 3, 5] → (r ≠ 1 ∧ r ≠ 44 ∧ r ≠ 62)) r hr)) b2) dX8_init_20 23 rfl rfl rfl rfl ⟨Nat.le_of_ble_eq_true rfl, Nat.le_of_ble_eq_true rfl⟩ (Nat.le_of_ble_eq_true rfl) (Nat.le_of_ble_eq_true rfl) (Nat.le_of_ble_eq_true rfl) (fun adc hp => ?_)
  have p2 := hp
  obtain ⟨ad2, e1, e2⟩ := ad_mix (S1 := [0, 1]) (refs := []) (ids2 := [2, 3, 4, 5, 6, 7, 8, 9, 10, 11, 12, 13, 14, 15, 16, 17, 18, 19, 20, 21, 22, 23, 24, 25, 26, 27, 28]) (ad := ad1) (ad2 := adc) (by decide) (fun d hd => absurd hd List.not_mem_nil)
  have eW : wl ([1]) XL K.2.2.2.2.1 ad1 hX0 ++ wl ([2, 3, 4] ++ (List.range 24).map (5 + ·)) XL K.2.2.2.2.1 adc hX0 = wl ([1] ++ ([2, 3, 4] ++ (List.range 24).map (5 + ·))) XL K.2.2.2.2.1 ad2 hX0 := by
    rw [wl_app ([1]) ([2, 3, 4] ++ (List.range 24).map (5 + ·)), wl_cg (S := [0, 1]) (by decide +kernel) e1, wl_cg (S := [] ++ [2, 3, 4, 5, 6, 7, 8, 9, 10, 11, 12, 13, 14, 15, 16, 17, 18, 19, 20, 21, 22, 23, 24, 25, 26, 27, 28]) (by decide +kernel) e2]
  show B 1 K ((a, .inr (8, [.ref b1, .null, .null, .null, .null, .null, .null, .null])) :: ((wl ([1]) XL K.2.2.2.2.1 ad1 hX0 : va_W) ++ wl ([2, 3, 4] ++ (List.range 24).map (5 + ·)) XL K.2.2.2.2.1 adc hX0)) 28 632 23 [(0, .ref a)] [.ref b2, .ref a]
  rw [eW]
  replace k0 := (e1 0 (by decide)).symm.trans k0
  replace k1 := (e1 1 (by decide)).symm.trans k1
  have k2 := (e2 2 (by decide)).symm.trans p2
  clear e1 e2 eW p2
  refine b_putF (c := 0) (ci := 8) (k := 1) (T := TX8) (ty0 := tyX8) X wf_X8_19 inX8 tyX8_ok nmX8 dX8_init_23 26 rfl rfl rfl (by decide) rfl rfl rfl rfl rfl (Nat.le_of_ble_eq_true rfl) (ws' := (a, .inr (8, [.ref b1, .ref b2, .null, .null, .null, .null, .null, .null])) :: wl ([1] ++ ([2, 3, 4] ++ (List.range 24).map (5 + ·))) XL K.2.2.2.2.1 ad2 hX0) rfl ?_
  -- raiseTo
  refine b_aload_n X dX8_init_26 27 rfl rfl ?_
  refine b_get (c := 0) (ci := 8) (k := 1) (T := TX8) (v := .ref b2) X wf_X8_19 inX8 dX8_init_27 30 rfl rfl rfl (by decide) rfl ?_
  refine b_aload_n X dX8_init_30 31 rfl rfl ?_
  refine b_get (c := 0) (ci := 8) (k := 0) (T := TX8) (v := .ref b1) X wf_X8_12 inX8 dX8_init_31 34 rfl rfl rfl (by decide) rfl ?_
  refine b_get (c := 1) (ci := 1) (k := 0) (T := TX1) (fs := [.int (nI 12), .int (nI 1), .int (nI 3)]) (v := .int (nI 12)) X wf_X8_23 inX1 dX8_init_34 37 rfl (by show some (ad2 1, (Sum.inr (1, [.int (nI 12), .int (nI 1), .int (nI 3)]) : va_E)) = some (b1, Sum.inr (1, [.int (nI 12), .int (nI 1), .int (nI 3)])); rw [k1]) rfl (by decide) rfl ?_
  refine b_pad (fs' := [.ref b1, .ref b2]) (fun k => by match k with | 0 => rfl | 1 => rfl | 2 => rfl | 3 => rfl | 4 => rfl | 5 => rfl | 6 => rfl | 7 => rfl | k + 8 => rfl) ?_
  have eYX : ∀ h : Mem, wd 29 YL K.2.2.2.2.1 ad2 h = (a, .inr (8, [.ref b1, .ref b2])) :: wl ([1] ++ ([2, 3, 4] ++ (List.range 24).map (5 + ·))) XL K.2.2.2.2.1 ad2 h := by
    intro h
    have e9 : wl ([1] ++ ([2, 3, 4] ++ (List.range 24).map (5 + ·))) XL K.2.2.2.2.1 ad2 h = wl ([1] ++ ([2, 3, 4] ++ (List.range 24).map (5 + ·))) YL K.2.2.2.2.1 ad2 h := by
      unfold wl
      refine List.map_congr_left (fun c hc => ?_)
      have hb : 1 ≤ c ∧ c < 29 := (by decide +kernel : ∀ c, c ∈ [1] ++ ([2, 3, 4] ++ (List.range 24).map (5 + ·)) → (1 ≤ c ∧ c < 29)) c hc
      rw [YX hb.1 hb.2]
    rw [e9]
    show ((ad2 0, .inr (8, [.ref (ad2 1), .ref (ad2 2)])) :: wl ([1] ++ ([2, 3, 4] ++ (List.range 24).map (5 + ·))) YL K.2.2.2.2.1 ad2 h : va_W) = _
    rw [k0, k1, k2]
  refine b_toG (N := 29) (L := YL) YLW X hX0 ad2 (eYX hX0).symm (Nat.le_of_ble_eq_true rfl) (Nat.le_of_ble_eq_true rfl) (fun X9 => ?_)
  refine g_callVv (c := 2) (nf := 4) (sk := skX2) (T := TX3) X9 cw_X8_27 (c_Y3_raiseTo hX0 12 4 (by decide) (by decide) (by decide +kernel) (by decide) (by decide)) dX8_init_37 40 rfl (by decide) rfl rfl rfl rfl (by show [Value.int (nI 12), .ref b2] = [Value.int (nI 12), .ref (ad2 2)]; rw [k2]) ⟨Nat.le_of_ble_eq_true rfl, Nat.le_of_ble_eq_true rfl⟩ (Nat.le_of_ble_eq_true rfl) (fun h9 e9 => ?_)
  subst e9
  refine g_toB X9 ?_
  show B 1 K (wd 29 YL K.2.2.2.2.1 ad2 hX1) 28 632 40 [(0, .ref a)] []
  rw [eYX hX1]
  refine b_pad (fs' := [.ref b1, .ref b2, .null, .null, .null, .null, .null, .null]) (fun k => by match k with | 0 => rfl | 1 => rfl | 2 => rfl | 3 => rfl | 4 => rfl | 5 => rfl | 6 => rfl | 7 => rfl | k + 8 => rfl) ?_
  clear eYX
  -- X0
  refine b_aload_n X dX8_init_40 41 rfl rfl ?_
  refine b_new (ci := 0) (C := RX0) (T := TX0) (n := 8) (ty := tyX0) (fs := [.null, .int 0, .null, .null, .null, .null, .null, .null]) X inX0 tyX0_ok wl_X8_31 wb_X0 wn_X0 rfl (fun j hj => by match j, hj with | 0, _ => rfl | 1, _ => rfl | 2, _ => rfl | 3, _ => rfl | 4, _ => rfl | 5, _ => rfl | 6, _ => rfl | 7, _ => rfl | k + 8, h => exact absurd h (by omega)) (Nat.le_of_ble_eq_true rfl) (Nat.le_of_ble_eq_true rfl) dX8_init_41 44 rfl (fun b3 => ?_)
  show B 1 K ((((a, .inr (8, [.ref b1, .ref b2, .null, .null, .null, .null, .null, .null])) :: (wl ([1] ++ ([2, 3, 4] ++ (List.range 24).map (5 + ·))) XL K.2.2.2.2.1 ad2 hX1 : va_W)) ++ [(b3, .inr (0, [.null, .int 0, .null, .null, .null, .null, .null, .null]))]) : va_W) 29 640 44 [(0, .ref a)] [.ref b3, .ref a]
  refine b_dup X dX8_init_44 45 rfl ?_
  refine b_aload_n X dX8_init_45 46 rfl rfl ?_
  refine b_get (c := 0) (ci := 8) (k := 0) (T := TX8) (v := .ref b1) X wf_X8_12 inX8 dX8_init_46 49 rfl rfl rfl (by decide) rfl ?_
  refine b_init1 (wr := (a, .inr (8, [.ref b1, .ref b2, .null, .null, .null, .null, .null, .null])) :: (wl ([1] ++ ([2, 3, 4] ++ (List.range 24).map (5 + ·))) XL K.2.2.2.2.1 ad2 hX1 : va_W)) (As := [.ref b1]) (st := [.ref b3, .ref a]) X ci_X8_33 (c_X0_init hX1 (fun r hr => hX1_z ((by decide : ∀ r, r ∈ [29, 30, 31, 32, 33, 34, 35] → ((r ≠ 2 ∧ r ≠ 3 ∧ r ≠ 5) ∧ r ≠ 1 ∧ r ≠ 44 ∧ r ≠ 62)) r hr)) b3 b1) dX8_init_49 52 rfl rfl rfl rfl ⟨Nat.le_of_ble_eq_true rfl, Nat.le_of_ble_eq_true rfl⟩ (Nat.le_of_ble_eq_true rfl) (Nat.le_of_ble_eq_true rfl) (Nat.le_of_ble_eq_true rfl) (fun adc hp => ?_)
  obtain ⟨p29, p1⟩ := hp
  obtain ⟨ad3, e1, e2⟩ := ad_mix (S1 := [0, 1, 2, 3, 4, 5, 6, 7, 8, 9, 10, 11, 12, 13, 14, 15, 16, 17, 18, 19, 20, 21, 22, 23, 24, 25, 26, 27, 28]) (refs := [1]) (ids2 := [29, 30, 31, 32, 33, 34, 35]) (ad := ad2) (ad2 := adc) (by decide) (fun d hd => by
    rw [List.mem_singleton.mp hd]
    exact ⟨by decide, p1.trans k1.symm⟩)
  have eW : wl ([1] ++ ([2, 3, 4] ++ (List.range 24).map (5 + ·))) XL K.2.2.2.2.1 ad2 hX1 ++ wl ([29, 30, 31, 32, 33, 34, 35]) XL K.2.2.2.2.1 adc hX1 = wl ([1] ++ ([2, 3, 4] ++ (List.range 24).map (5 + ·)) ++ ([29, 30, 31, 32, 33, 34, 35])) XL K.2.2.2.2.1 ad3 hX1 := by
    rw [wl_app ([1] ++ ([2, 3, 4] ++ (List.range 24).map (5 + ·))) ([29, 30, 31, 32, 33, 34, 35]), wl_cg (S := [0, 1, 2, 3, 4, 5, 6, 7, 8, 9, 10, 11, 12, 13, 14, 15, 16, 17, 18, 19, 20, 21, 22, 23, 24, 25, 26, 27, 28]) (by decide +kernel) e1, wl_cg (S := [1] ++ [29, 30, 31, 32, 33, 34, 35]) (by decide +kernel) e2]
  show B 1 K ((a, .inr (8, [.ref b1, .ref b2, .null, .null, .null, .null, .null, .null])) :: ((wl ([1] ++ ([2, 3, 4] ++ (List.range 24).map (5 + ·))) XL K.2.2.2.2.1 ad2 hX1 : va_W) ++ wl ([29, 30, 31, 32, 33, 34, 35]) XL K.2.2.2.2.1 adc hX1)) 35 784 52 [(0, .ref a)] [.ref b3, .ref a]
  rw [eW]
  replace k0 := (e1 0 (by decide)).symm.trans k0
  replace k1 := (e1 1 (by decide)).symm.trans k1
  replace k2 := (e1 2 (by decide)).symm.trans k2
  have k29 := (e2 29 (by decide)).symm.trans p29
  clear e1 e2 eW p29 p1
  refine b_putF (c := 0) (ci := 8) (k := 2) (T := TX8) (ty0 := tyX8) X wf_X8_36 inX8 tyX8_ok nmX8 dX8_init_52 55 rfl rfl rfl (by decide) rfl rfl rfl rfl rfl (Nat.le_of_ble_eq_true rfl) (ws' := (a, .inr (8, [.ref b1, .ref b2, .ref b3, .null, .null, .null, .null, .null])) :: wl ([1] ++ ([2, 3, 4] ++ (List.range 24).map (5 + ·)) ++ ([29, 30, 31, 32, 33, 34, 35])) XL K.2.2.2.2.1 ad3 hX1) rfl ?_
  -- X6
  refine b_aload_n X dX8_init_55 56 rfl rfl ?_
  refine b_new (ci := 6) (C := RX6) (T := TX6) (n := 7) (ty := tyX6) (fs := [.null, .null, .null, .int 0, .null, .null, .null]) X inX6 tyX6_ok wl_X8_40 wb_X6 wn_X6 rfl (fun j hj => by match j, hj with | 0, _ => rfl | 1, _ => rfl | 2, _ => rfl | 3, _ => rfl | 4, _ => rfl | 5, _ => rfl | 6, _ => rfl | k + 7, h => exact absurd h (by omega)) (Nat.le_of_ble_eq_true rfl) (Nat.le_of_ble_eq_true rfl) dX8_init_56 59 rfl (fun b4 => ?_)
  show B 1 K ((((a, .inr (8, [.ref b1, .ref b2, .ref b3, .null, .null, .null, .null, .null])) :: (wl ([1] ++ ([2, 3, 4] ++ (List.range 24).map (5 + ·)) ++ ([29, 30, 31, 32, 33, 34, 35])) XL K.2.2.2.2.1 ad3 hX1 : va_W)) ++ [(b4, .inr (6, [.null, .null, .null, .int 0, .null, .null, .null]))]) : va_W) 36 791 59 [(0, .ref a)] [.ref b4, .ref a]
  refine b_dup X dX8_init_59 60 rfl ?_
  refine b_aload_n X dX8_init_60 61 rfl rfl ?_
  refine b_get (c := 0) (ci := 8) (k := 0) (T := TX8) (v := .ref b1) X wf_X8_12 inX8 dX8_init_61 64 rfl rfl rfl (by decide) rfl ?_
  refine b_aload_n X dX8_init_64 65 rfl rfl ?_
  refine b_get (c := 0) (ci := 8) (k := 1) (T := TX8) (v := .ref b2) X wf_X8_19 inX8 dX8_init_65 68 rfl rfl rfl (by decide) rfl ?_
  refine b_aload_n X dX8_init_68 69 rfl rfl ?_
  refine b_get (c := 0) (ci := 8) (k := 2) (T := TX8) (v := .ref b3) X wf_X8_36 inX8 dX8_init_69 72 rfl rfl rfl (by decide) rfl ?_
  refine b_init1 (wr := (a, .inr (8, [.ref b1, .ref b2, .ref b3, .null, .null, .null, .null, .null])) :: (wl ([1] ++ ([2, 3, 4] ++ (List.range 24).map (5 + ·)) ++ ([29, 30, 31, 32, 33, 34, 35])) XL K.2.2.2.2.1 ad3 hX1 : va_W)) (As := [.ref b1, .ref b2, .ref b3]) (st := [.ref b4, .ref a]) X ci_X8_42 (c_X6_init hX1 (fun r hr => hX1_z ((by decide : ∀ r, r ∈ [36, 41, 42, 38] → ((r ≠ 2 ∧ r ≠ 3 ∧ r ≠ 5) ∧ r ≠ 1 ∧ r ≠ 44 ∧ r ≠ 62)) r hr)) b4 b1 b2 b3) dX8_init_72 75 rfl rfl rfl rfl ⟨Nat.le_of_ble_eq_true rfl, Nat.le_of_ble_eq_true rfl⟩ (Nat.le_of_ble_eq_true rfl) (Nat.le_of_ble_eq_true rfl) (Nat.le_of_ble_eq_true rfl) (fun adc hp => ?_)
  obtain ⟨p36, p1, p2, p29⟩ := hp
  obtain ⟨ad4, e1, e2⟩ := ad_mix (S1 := [0, 1, 2, 3, 4, 5, 6, 7, 8, 9, 10, 11, 12, 13, 14, 15, 16, 17, 18, 19, 20, 21, 22, 23, 24, 25, 26, 27, 28, 29, 30, 31, 32, 33, 34, 35]) (refs := [1, 2, 29]) (ids2 := [36, 37, 38, 39, 40, 41, 42]) (ad := ad3) (ad2 := adc) (by decide) (fun d hd => by
    simp only [List.mem_cons, List.not_mem_nil, or_false] at hd
    rcases hd with rfl | rfl | rfl
    · exact ⟨by decide, p1.trans k1.symm⟩
    · exact ⟨by decide, p2.trans k2.symm⟩
    · exact ⟨by decide, p29.trans k29.symm⟩)
  have eW : wl ([1] ++ ([2, 3, 4] ++ (List.range 24).map (5 + ·)) ++ ([29, 30, 31, 32, 33, 34, 35])) XL K.2.2.2.2.1 ad3 hX1 ++ wl ([36, 37] ++ (List.range 3).map (38 + ·) ++ [41, 42]) XL K.2.2.2.2.1 adc hX1 = wl ([1] ++ ([2, 3, 4] ++ (List.range 24).map (5 + ·)) ++ ([29, 30, 31, 32, 33, 34, 35]) ++ ([36, 37] ++ (List.range 3).map (38 + ·) ++ [41, 42])) XL K.2.2.2.2.1 ad4 hX1 := by
    rw [wl_app ([1] ++ ([2, 3, 4] ++ (List.range 24).map (5 + ·)) ++ ([29, 30, 31, 32, 33, 34, 35])) ([36, 37] ++ (List.range 3).map (38 + ·) ++ [41, 42]), wl_cg (S := [0, 1, 2, 3, 4, 5, 6, 7, 8, 9, 10, 11, 12, 13, 14, 15, 16, 17, 18, 19, 20, 21, 22, 23, 24, 25, 26, 27, 28, 29, 30, 31, 32, 33, 34, 35]) (by decide +kernel) e1, wl_cg (S := [1, 2, 29] ++ [36, 37, 38, 39, 40, 41, 42]) (by decide +kernel) e2]
  show B 1 K ((a, .inr (8, [.ref b1, .ref b2, .ref b3, .null, .null, .null, .null, .null])) :: ((wl ([1] ++ ([2, 3, 4] ++ (List.range 24).map (5 + ·)) ++ ([29, 30, 31, 32, 33, 34, 35])) XL K.2.2.2.2.1 ad3 hX1 : va_W) ++ wl ([36, 37] ++ (List.range 3).map (38 + ·) ++ [41, 42]) XL K.2.2.2.2.1 adc hX1)) 42 893 75 [(0, .ref a)] [.ref b4, .ref a]
  rw [eW]
  replace k0 := (e1 0 (by decide)).symm.trans k0
  replace k1 := (e1 1 (by decide)).symm.trans k1
  replace k2 := (e1 2 (by decide)).symm.trans k2
  replace k29 := (e1 29 (by decide)).symm.trans k29
  have k36 := (e2 36 (by decide)).symm.trans p36
  clear e1 e2 eW p36 p1 p2 p29
  refine b_putF (c := 0) (ci := 8) (k := 3) (T := TX8) (ty0 := tyX8) X wf_X8_45 inX8 tyX8_ok nmX8 dX8_init_75 78 rfl rfl rfl (by decide) rfl rfl rfl rfl rfl (Nat.le_of_ble_eq_true rfl) (ws' := (a, .inr (8, [.ref b1, .ref b2, .ref b3, .ref b4, .null, .null, .null, .null])) :: wl ([1] ++ ([2, 3, 4] ++ (List.range 24).map (5 + ·)) ++ ([29, 30, 31, 32, 33, 34, 35]) ++ ([36, 37] ++ (List.range 3).map (38 + ·) ++ [41, 42])) XL K.2.2.2.2.1 ad4 hX1) rfl ?_
  -- X7
  refine b_aload_n X dX8_init_78 79 rfl rfl ?_
  refine b_new (ci := 7) (C := RX7) (T := TX7) (n := 10) (ty := tyX7) (fs := [.null, .null, .null, .null, .null, .int 0, .int 0, .null, .null, .null]) X inX7 tyX7_ok wl_X8_49 wb_X7 wn_X7 rfl (fun j hj => by match j, hj with | 0, _ => rfl | 1, _ => rfl | 2, _ => rfl | 3, _ => rfl | 4, _ => rfl | 5, _ => rfl | 6, _ => rfl | 7, _ => rfl | 8, _ => rfl | 9, _ => rfl | k + 10, h => exact absurd h (by omega)) (Nat.le_of_ble_eq_true rfl) (Nat.le_of_ble_eq_true rfl) dX8_init_79 82 rfl (fun b5 => ?_)
  show B 1 K ((((a, .inr (8, [.ref b1, .ref b2, .ref b3, .ref b4, .null, .null, .null, .null])) :: (wl ([1] ++ ([2, 3, 4] ++ (List.range 24).map (5 + ·)) ++ ([29, 30, 31, 32, 33, 34, 35]) ++ ([36, 37] ++ (List.range 3).map (38 + ·) ++ [41, 42])) XL K.2.2.2.2.1 ad4 hX1 : va_W)) ++ [(b5, .inr (7, [.null, .null, .null, .null, .null, .int 0, .int 0, .null, .null, .null]))]) : va_W) 43 903 82 [(0, .ref a)] [.ref b5, .ref a]
  refine b_dup X dX8_init_82 83 rfl ?_
  refine b_aload_n X dX8_init_83 84 rfl rfl ?_
  refine b_get (c := 0) (ci := 8) (k := 0) (T := TX8) (v := .ref b1) X wf_X8_12 inX8 dX8_init_84 87 rfl rfl rfl (by decide) rfl ?_
  refine b_aload_n X dX8_init_87 88 rfl rfl ?_
  refine b_get (c := 0) (ci := 8) (k := 1) (T := TX8) (v := .ref b2) X wf_X8_19 inX8 dX8_init_88 91 rfl rfl rfl (by decide) rfl ?_
  refine b_aload_n X dX8_init_91 92 rfl rfl ?_
  refine b_get (c := 0) (ci := 8) (k := 2) (T := TX8) (v := .ref b3) X wf_X8_36 inX8 dX8_init_92 95 rfl rfl rfl (by decide) rfl ?_
  refine b_init1 (wr := (a, .inr (8, [.ref b1, .ref b2, .ref b3, .ref b4, .null, .null, .null, .null])) :: (wl ([1] ++ ([2, 3, 4] ++ (List.range 24).map (5 + ·)) ++ ([29, 30, 31, 32, 33, 34, 35]) ++ ([36, 37] ++ (List.range 3).map (38 + ·) ++ [41, 42])) XL K.2.2.2.2.1 ad4 hX1 : va_W)) (As := [.ref b1, .ref b2, .ref b3]) (st := [.ref b5, .ref a]) X ci_X8_51 (c_X7_init hX1 (fun r hr => hX1_z ((by decide : ∀ r, r ∈ [43, 45, 46, 47, 49] → ((r ≠ 2 ∧ r ≠ 3 ∧ r ≠ 5) ∧ r ≠ 1 ∧ r ≠ 44 ∧ r ≠ 62)) r hr)) (fun i _ => (hX1_o (by decide) i).trans rfl) b5 b1 b2 b3) dX8_init_95 98 rfl rfl rfl rfl ⟨Nat.le_of_ble_eq_true rfl, Nat.le_of_ble_eq_true rfl⟩ (Nat.le_of_ble_eq_true rfl) (Nat.le_of_ble_eq_true rfl) (Nat.le_of_ble_eq_true rfl) (fun adc hp => ?_)
  obtain ⟨p43, p1, p2, p29⟩ := hp
  obtain ⟨ad5, e1, e2⟩ := ad_mix (S1 := [0, 1, 2, 3, 4, 5, 6, 7, 8, 9, 10, 11, 12, 13, 14, 15, 16, 17, 18, 19, 20, 21, 22, 23, 24, 25, 26, 27, 28, 29, 30, 31, 32, 33, 34, 35, 36, 37, 38, 39, 40, 41, 42]) (refs := [1, 2, 29]) (ids2 := [43, 44, 45, 46, 47, 48, 49, 50, 51, 52]) (ad := ad4) (ad2 := adc) (by decide) (fun d hd => by
    simp only [List.mem_cons, List.not_mem_nil, or_false] at hd
    rcases hd with rfl | rfl | rfl
    · exact ⟨by decide, p1.trans k1.symm⟩
    · exact ⟨by decide, p2.trans k2.symm⟩
    · exact ⟨by decide, p29.trans k29.symm⟩)
  have eW : wl ([1] ++ ([2, 3, 4] ++ (List.range 24).map (5 + ·)) ++ ([29, 30, 31, 32, 33, 34, 35]) ++ ([36, 37] ++ (List.range 3).map (38 + ·) ++ [41, 42])) XL K.2.2.2.2.1 ad4 hX1 ++ wl ([43, 44, 45, 46, 47, 48] ++ (List.range 4).map (49 + ·)) XL K.2.2.2.2.1 adc hX1 = wl ([1] ++ ([2, 3, 4] ++ (List.range 24).map (5 + ·)) ++ ([29, 30, 31, 32, 33, 34, 35]) ++ ([36, 37] ++ (List.range 3).map (38 + ·) ++ [41, 42]) ++ ([43, 44, 45, 46, 47, 48] ++ (List.range 4).map (49 + ·))) XL K.2.2.2.2.1 ad5 hX1 := by
    rw [wl_app ([1] ++ ([2, 3, 4] ++ (List.range 24).map (5 + ·)) ++ ([29, 30, 31, 32, 33, 34, 35]) ++ ([36, 37] ++ (List.range 3).map (38 + ·) ++ [41, 42])) ([43, 44, 45, 46, 47, 48] ++ (List.range 4).map (49 + ·)), wl_cg (S := [0, 1, 2, 3, 4, 5, 6, 7, 8, 9, 10, 11, 12, 13, 14, 15, 16, 17, 18, 19, 20, 21, 22, 23, 24, 25, 26, 27, 28, 29, 30, 31, 32, 33, 34, 35, 36, 37, 38, 39, 40, 41, 42]) (by decide +kernel) e1, wl_cg (S := [1, 2, 29] ++ [43, 44, 45, 46, 47, 48, 49, 50, 51, 52]) (by decide +kernel) e2]
  show B 1 K ((a, .inr (8, [.ref b1, .ref b2, .ref b3, .ref b4, .null, .null, .null, .null])) :: ((wl ([1] ++ ([2, 3, 4] ++ (List.range 24).map (5 + ·)) ++ ([29, 30, 31, 32, 33, 34, 35]) ++ ([36, 37] ++ (List.range 3).map (38 + ·) ++ [41, 42])) XL K.2.2.2.2.1 ad4 hX1 : va_W) ++ wl ([43, 44, 45, 46, 47, 48] ++ (List.range 4).map (49 + ·)) XL K.2.2.2.2.1 adc hX1)) 52 1047 98 [(0, .ref a)] [.ref b5, .ref a]
  rw [eW]
  replace k0 := (e1 0 (by decide)).symm.trans k0
  replace k1 := (e1 1 (by decide)).symm.trans k1
  replace k2 := (e1 2 (by decide)).symm.trans k2
  replace k29 := (e1 29 (by decide)).symm.trans k29
  replace k36 := (e1 36 (by decide)).symm.trans k36
  have k43 := (e2 43 (by decide)).symm.trans p43
  clear e1 e2 eW p43 p1 p2 p29
  refine b_putF (c := 0) (ci := 8) (k := 4) (T := TX8) (ty0 := tyX8) X wf_X8_52 inX8 tyX8_ok nmX8 dX8_init_98 101 rfl rfl rfl (by decide) rfl rfl rfl rfl rfl (Nat.le_of_ble_eq_true rfl) (ws' := (a, .inr (8, [.ref b1, .ref b2, .ref b3, .ref b4, .ref b5, .null, .null, .null])) :: wl ([1] ++ ([2, 3, 4] ++ (List.range 24).map (5 + ·)) ++ ([29, 30, 31, 32, 33, 34, 35]) ++ ([36, 37] ++ (List.range 3).map (38 + ·) ++ [41, 42]) ++ ([43, 44, 45, 46, 47, 48] ++ (List.range 4).map (49 + ·))) XL K.2.2.2.2.1 ad5 hX1) rfl ?_
  -- X5
  refine b_aload_n X dX8_init_101 102 rfl rfl ?_
  refine b_new (ci := 5) (C := RX5) (T := TX5) (n := 8) (ty := tyX5) (fs := [.null, .int 0, .null, .null, .int 0, .int 0, .null, .null]) X inX5 tyX5_ok wl_X8_56 wb_X5 wn_X5 rfl (fun j hj => by match j, hj with | 0, _ => rfl | 1, _ => rfl | 2, _ => rfl | 3, _ => rfl | 4, _ => rfl | 5, _ => rfl | 6, _ => rfl | 7, _ => rfl | k + 8, h => exact absurd h (by omega)) (Nat.le_of_ble_eq_true rfl) (Nat.le_of_ble_eq_true rfl) dX8_init_102 105 rfl (fun b6 => ?_)
  show B 1 K ((((a, .inr (8, [.ref b1, .ref b2, .ref b3, .ref b4, .ref b5, .null, .null, .null])) :: (wl ([1] ++ ([2, 3, 4] ++ (List.range 24).map (5 + ·)) ++ ([29, 30, 31, 32, 33, 34, 35]) ++ ([36, 37] ++ (List.range 3).map (38 + ·) ++ [41, 42]) ++ ([43, 44, 45, 46, 47, 48] ++ (List.range 4).map (49 + ·))) XL K.2.2.2.2.1 ad5 hX1 : va_W)) ++ [(b6, .inr (5, [.null, .int 0, .null, .null, .int 0, .int 0, .null, .null]))]) : va_W) 53 1055 105 [(0, .ref a)] [.ref b6, .ref a]
  refine b_dup X dX8_init_105 106 rfl ?_
  refine b_aload_n X dX8_init_106 107 rfl rfl ?_
  refine b_get (c := 0) (ci := 8) (k := 2) (T := TX8) (v := .ref b3) X wf_X8_36 inX8 dX8_init_107 110 rfl rfl rfl (by decide) rfl ?_
  refine b_init1 (wr := (a, .inr (8, [.ref b1, .ref b2, .ref b3, .ref b4, .ref b5, .null, .null, .null])) :: (wl ([1] ++ ([2, 3, 4] ++ (List.range 24).map (5 + ·)) ++ ([29, 30, 31, 32, 33, 34, 35]) ++ ([36, 37] ++ (List.range 3).map (38 + ·) ++ [41, 42]) ++ ([43, 44, 45, 46, 47, 48] ++ (List.range 4).map (49 + ·))) XL K.2.2.2.2.1 ad5 hX1 : va_W)) (As := [.ref b3]) (st := [.ref b6, .ref a]) X ci_X8_58 (c_X5_init hX1 (fun r hr => hX1_z ((by decide : ∀ r, r ∈ [53, 54, 55, 56, 57] → ((r ≠ 2 ∧ r ≠ 3 ∧ r ≠ 5) ∧ r ≠ 1 ∧ r ≠ 44 ∧ r ≠ 62)) r hr)) b6 b3) dX8_init_110 113 rfl rfl rfl rfl ⟨Nat.le_of_ble_eq_true rfl, Nat.le_of_ble_eq_true rfl⟩ (Nat.le_of_ble_eq_true rfl) (Nat.le_of_ble_eq_true rfl) (Nat.le_of_ble_eq_true rfl) (fun adc hp => ?_)
  obtain ⟨p53, p29⟩ := hp
  obtain ⟨ad6, e1, e2⟩ := ad_mix (S1 := [0, 1, 2, 3, 4, 5, 6, 7, 8, 9, 10, 11, 12, 13, 14, 15, 16, 17, 18, 19, 20, 21, 22, 23, 24, 25, 26, 27, 28, 29, 30, 31, 32, 33, 34, 35, 36, 37, 38, 39, 40, 41, 42, 43, 44, 45, 46, 47, 48, 49, 50, 51, 52]) (refs := [29]) (ids2 := [53, 54, 55, 56, 57]) (ad := ad5) (ad2 := adc) (by decide) (fun d hd => by
    rw [List.mem_singleton.mp hd]
    exact ⟨by decide, p29.trans k29.symm⟩)
  have eW : wl ([1] ++ ([2, 3, 4] ++ (List.range 24).map (5 + ·)) ++ ([29, 30, 31, 32, 33, 34, 35]) ++ ([36, 37] ++ (List.range 3).map (38 + ·) ++ [41, 42]) ++ ([43, 44, 45, 46, 47, 48] ++ (List.range 4).map (49 + ·))) XL K.2.2.2.2.1 ad5 hX1 ++ wl ([53, 54, 55, 56, 57]) XL K.2.2.2.2.1 adc hX1 = wl ([1] ++ ([2, 3, 4] ++ (List.range 24).map (5 + ·)) ++ ([29, 30, 31, 32, 33, 34, 35]) ++ ([36, 37] ++ (List.range 3).map (38 + ·) ++ [41, 42]) ++ ([43, 44, 45, 46, 47, 48] ++ (List.range 4).map (49 + ·)) ++ ([53, 54, 55, 56, 57])) XL K.2.2.2.2.1 ad6 hX1 := by
    rw [wl_app ([1] ++ ([2, 3, 4] ++ (List.range 24).map (5 + ·)) ++ ([29, 30, 31, 32, 33, 34, 35]) ++ ([36, 37] ++ (List.range 3).map (38 + ·) ++ [41, 42]) ++ ([43, 44, 45, 46, 47, 48] ++ (List.range 4).map (49 + ·))) ([53, 54, 55, 56, 57]), wl_cg (S := [0, 1, 2, 3, 4, 5, 6, 7, 8, 9, 10, 11, 12, 13, 14, 15, 16, 17, 18, 19, 20, 21, 22, 23, 24, 25, 26, 27, 28, 29, 30, 31, 32, 33, 34, 35, 36, 37, 38, 39, 40, 41, 42, 43, 44, 45, 46, 47, 48, 49, 50, 51, 52]) (by decide +kernel) e1, wl_cg (S := [29] ++ [53, 54, 55, 56, 57]) (by decide +kernel) e2]
  show B 1 K ((a, .inr (8, [.ref b1, .ref b2, .ref b3, .ref b4, .ref b5, .null, .null, .null])) :: ((wl ([1] ++ ([2, 3, 4] ++ (List.range 24).map (5 + ·)) ++ ([29, 30, 31, 32, 33, 34, 35]) ++ ([36, 37] ++ (List.range 3).map (38 + ·) ++ [41, 42]) ++ ([43, 44, 45, 46, 47, 48] ++ (List.range 4).map (49 + ·))) XL K.2.2.2.2.1 ad5 hX1 : va_W) ++ wl ([53, 54, 55, 56, 57]) XL K.2.2.2.2.1 adc hX1)) 57 1083 113 [(0, .ref a)] [.ref b6, .ref a]
  rw [eW]
  replace k0 := (e1 0 (by decide)).symm.trans k0
  replace k1 := (e1 1 (by decide)).symm.trans k1
  replace k2 := (e1 2 (by decide)).symm.trans k2
  replace k29 := (e1 29 (by decide)).symm.trans k29
  replace k36 := (e1 36 (by decide)).symm.trans k36
  replace k43 := (e1 43 (by decide)).symm.trans k43
  have k53 := (e2 53 (by decide)).symm.trans p53
  clear e1 e2 eW p53 p29
  refine b_putF (c := 0) (ci := 8) (k := 5) (T := TX8) (ty0 := tyX8) X wf_X8_61 inX8 tyX8_ok nmX8 dX8_init_113 116 rfl rfl rfl (by decide) rfl rfl rfl rfl rfl (Nat.le_of_ble_eq_true rfl) (ws' := (a, .inr (8, [.ref b1, .ref b2, .ref b3, .ref b4, .ref b5, .ref b6, .null, .null])) :: wl ([1] ++ ([2, 3, 4] ++ (List.range 24).map (5 + ·)) ++ ([29, 30, 31, 32, 33, 34, 35]) ++ ([36, 37] ++ (List.range 3).map (38 + ·) ++ [41, 42]) ++ ([43, 44, 45, 46, 47, 48] ++ (List.range 4).map (49 + ·)) ++ ([53, 54, 55, 56, 57])) XL K.2.2.2.2.1 ad6 hX1) rfl ?_
  -- X2
  refine b_aload_n X dX8_init_116 117 rfl rfl ?_
  refine b_new (ci := 2) (C := RX2) (T := TX2) (n := 6) (ty := tyX2) (fs := [.null, .null, .null, .int 0, .null, .null]) X inX2 tyX2_ok wl_X8_65 wb_X2 wn_X2 rfl (fun j hj => by match j, hj with | 0, _ => rfl | 1, _ => rfl | 2, _ => rfl | 3, _ => rfl | 4, _ => rfl | 5, _ => rfl | k + 6, h => exact absurd h (by omega)) (Nat.le_of_ble_eq_true rfl) (Nat.le_of_ble_eq_true rfl) dX8_init_117 120 rfl (fun b7 => ?_)
  show B 1 K ((((a, .inr (8, [.ref b1, .ref b2, .ref b3, .ref b4, .ref b5, .ref b6, .null, .null])) :: (wl ([1] ++ ([2, 3, 4] ++ (List.range 24).map (5 + ·)) ++ ([29, 30, 31, 32, 33, 34, 35]) ++ ([36, 37] ++ (List.range 3).map (38 + ·) ++ [41, 42]) ++ ([43, 44, 45, 46, 47, 48] ++ (List.range 4).map (49 + ·)) ++ ([53, 54, 55, 56, 57])) XL K.2.2.2.2.1 ad6 hX1 : va_W)) ++ [(b7, .inr (2, [.null, .null, .null, .int 0, .null, .null]))]) : va_W) 58 1089 120 [(0, .ref a)] [.ref b7, .ref a]
  refine b_dup X dX8_init_120 121 rfl ?_
  refine b_aload_n X dX8_init_121 122 rfl rfl ?_
  refine b_get (c := 0) (ci := 8) (k := 0) (T := TX8) (v := .ref b1) X wf_X8_12 inX8 dX8_init_122 125 rfl rfl rfl (by decide) rfl ?_
  refine b_aload_n X dX8_init_125 126 rfl rfl ?_
  refine b_get (c := 0) (ci := 8) (k := 2) (T := TX8) (v := .ref b3) X wf_X8_36 inX8 dX8_init_126 129 rfl rfl rfl (by decide) rfl ?_
  refine b_aload_n X dX8_init_129 130 rfl rfl ?_
  refine b_get (c := 0) (ci := 8) (k := 3) (T := TX8) (v := .ref b4) X wf_X8_45 inX8 dX8_init_130 133 rfl rfl rfl (by decide) rfl ?_
  refine b_init1 (wr := (a, .inr (8, [.ref b1, .ref b2, .ref b3, .ref b4, .ref b5, .ref b6, .null, .null])) :: (wl ([1] ++ ([2, 3, 4] ++ (List.range 24).map (5 + ·)) ++ ([29, 30, 31, 32, 33, 34, 35]) ++ ([36, 37] ++ (List.range 3).map (38 + ·) ++ [41, 42]) ++ ([43, 44, 45, 46, 47, 48] ++ (List.range 4).map (49 + ·)) ++ ([53, 54, 55, 56, 57])) XL K.2.2.2.2.1 ad6 hX1 : va_W)) (As := [.ref b1, .ref b3, .ref b4]) (st := [.ref b7, .ref a]) X ci_X8_67 (c_X2_init hX1 (fun r hr => hX1_z ((by decide : ∀ r, r ∈ [58, 59, 60] → ((r ≠ 2 ∧ r ≠ 3 ∧ r ≠ 5) ∧ r ≠ 1 ∧ r ≠ 44 ∧ r ≠ 62)) r hr)) b7 b1 b3 b4) dX8_init_133 136 rfl rfl rfl rfl ⟨Nat.le_of_ble_eq_true rfl, Nat.le_of_ble_eq_true rfl⟩ (Nat.le_of_ble_eq_true rfl) (Nat.le_of_ble_eq_true rfl) (Nat.le_of_ble_eq_true rfl) (fun adc hp => ?_)
  obtain ⟨p58, p1, p29, p36⟩ := hp
  obtain ⟨ad7, e1, e2⟩ := ad_mix (S1 := [0, 1, 2, 3, 4, 5, 6, 7, 8, 9, 10, 11, 12, 13, 14, 15, 16, 17, 18, 19, 20, 21, 22, 23, 24, 25, 26, 27, 28, 29, 30, 31, 32, 33, 34, 35, 36, 37, 38, 39, 40, 41, 42, 43, 44, 45, 46, 47, 48, 49, 50, 51, 52, 53, 54, 55, 56, 57]) (refs := [1, 29, 36]) (ids2 := [58, 59, 60]) (ad := ad6) (ad2 := adc) (by decide) (fun d hd => by
    simp only [List.mem_cons, List.not_mem_nil, or_false] at hd
    rcases hd with rfl | rfl | rfl
    · exact ⟨by decide, p1.trans k1.symm⟩
    · exact ⟨by decide, p29.trans k29.symm⟩
    · exact ⟨by decide, p36.trans k36.symm⟩)
  have eW : wl ([1] ++ ([2, 3, 4] ++ (List.range 24).map (5 + ·)) ++ ([29, 30, 31, 32, 33, 34, 35]) ++ ([36, 37] ++ (List.range 3).map (38 + ·) ++ [41, 42]) ++ ([43, 44, 45, 46, 47, 48] ++ (List.range 4).map (49 + ·)) ++ ([53, 54, 55, 56, 57])) XL K.2.2.2.2.1 ad6 hX1 ++ wl ([58, 59, 60]) XL K.2.2.2.2.1 adc hX1 = wl ([1] ++ ([2, 3, 4] ++ (List.range 24).map (5 + ·)) ++ ([29, 30, 31, 32, 33, 34, 35]) ++ ([36, 37] ++ (List.range 3).map (38 + ·) ++ [41, 42]) ++ ([43, 44, 45, 46, 47, 48] ++ (List.range 4).map (49 + ·)) ++ ([53, 54, 55, 56, 57]) ++ ([58, 59, 60])) XL K.2.2.2.2.1 ad7 hX1 := by
    rw [wl_app ([1] ++ ([2, 3, 4] ++ (List.range 24).map (5 + ·)) ++ ([29, 30, 31, 32, 33, 34, 35]) ++ ([36, 37] ++ (List.range 3).map (38 + ·) ++ [41, 42]) ++ ([43, 44, 45, 46, 47, 48] ++ (List.range 4).map (49 + ·)) ++ ([53, 54, 55, 56, 57])) ([58, 59, 60]), wl_cg (S := [0, 1, 2, 3, 4, 5, 6, 7, 8, 9, 10, 11, 12, 13, 14, 15, 16, 17, 18, 19, 20, 21, 22, 23, 24, 25, 26, 27, 28, 29, 30, 31, 32, 33, 34, 35, 36, 37, 38, 39, 40, 41, 42, 43, 44, 45, 46, 47, 48, 49, 50, 51, 52, 53, 54, 55, 56, 57]) (by decide +kernel) e1, wl_cg (S := [1, 29, 36] ++ [58, 59, 60]) (by decide +kernel) e2]
  show B 1 K ((a, .inr (8, [.ref b1, .ref b2, .ref b3, .ref b4, .ref b5, .ref b6, .null, .null])) :: ((wl ([1] ++ ([2, 3, 4] ++ (List.range 24).map (5 + ·)) ++ ([29, 30, 31, 32, 33, 34, 35]) ++ ([36, 37] ++ (List.range 3).map (38 + ·) ++ [41, 42]) ++ ([43, 44, 45, 46, 47, 48] ++ (List.range 4).map (49 + ·)) ++ ([53, 54, 55, 56, 57])) XL K.2.2.2.2.1 ad6 hX1 : va_W) ++ wl ([58, 59, 60]) XL K.2.2.2.2.1 adc hX1)) 60 1095 136 [(0, .ref a)] [.ref b7, .ref a]
  rw [eW]
  replace k0 := (e1 0 (by decide)).symm.trans k0
  replace k1 := (e1 1 (by decide)).symm.trans k1
  replace k2 := (e1 2 (by decide)).symm.trans k2
  replace k29 := (e1 29 (by decide)).symm.trans k29
  replace k36 := (e1 36 (by decide)).symm.trans k36
  replace k43 := (e1 43 (by decide)).symm.trans k43
  replace k53 := (e1 53 (by decide)).symm.trans k53
  have k58 := (e2 58 (by decide)).symm.trans p58
  clear e1 e2 eW p58 p1 p29 p36
  refine b_putF (c := 0) (ci := 8) (k := 6) (T := TX8) (ty0 := tyX8) X wf_X8_70 inX8 tyX8_ok nmX8 dX8_init_136 139 rfl rfl rfl (by decide) rfl rfl rfl rfl rfl (Nat.le_of_ble_eq_true rfl) (ws' := (a, .inr (8, [.ref b1, .ref b2, .ref b3, .ref b4, .ref b5, .ref b6, .ref b7, .null])) :: wl ([1] ++ ([2, 3, 4] ++ (List.range 24).map (5 + ·)) ++ ([29, 30, 31, 32, 33, 34, 35]) ++ ([36, 37] ++ (List.range 3).map (38 + ·) ++ [41, 42]) ++ ([43, 44, 45, 46, 47, 48] ++ (List.range 4).map (49 + ·)) ++ ([53, 54, 55, 56, 57]) ++ ([58, 59, 60])) XL K.2.2.2.2.1 ad7 hX1) rfl ?_
  -- X4
  refine b_aload_n X dX8_init_139 140 rfl rfl ?_
  refine b_new (ci := 4) (C := RX4) (T := TX4) (n := 3) (ty := tyX4) (fs := [.null, .null, .null]) X inX4 tyX4_ok wl_X8_74 wb_X4 wn_X4 rfl (fun j hj => by match j, hj with | 0, _ => rfl | 1, _ => rfl | 2, _ => rfl | k + 3, h => exact absurd h (by omega)) (Nat.le_of_ble_eq_true rfl) (Nat.le_of_ble_eq_true rfl) dX8_init_140 143 rfl (fun b8 => ?_)
  show B 1 K ((((a, .inr (8, [.ref b1, .ref b2, .ref b3, .ref b4, .ref b5, .ref b6, .ref b7, .null])) :: (wl ([1] ++ ([2, 3, 4] ++ (List.range 24).map (5 + ·)) ++ ([29, 30, 31, 32, 33, 34, 35]) ++ ([36, 37] ++ (List.range 3).map (38 + ·) ++ [41, 42]) ++ ([43, 44, 45, 46, 47, 48] ++ (List.range 4).map (49 + ·)) ++ ([53, 54, 55, 56, 57]) ++ ([58, 59, 60])) XL K.2.2.2.2.1 ad7 hX1 : va_W)) ++ [(b8, .inr (4, [.null, .null, .null]))]) : va_W) 61 1098 143 [(0, .ref a)] [.ref b8, .ref a]
  refine b_dup X dX8_init_143 144 rfl ?_
  refine b_init1 (wr := (a, .inr (8, [.ref b1, .ref b2, .ref b3, .ref b4, .ref b5, .ref b6, .ref b7, .null])) :: (wl ([1] ++ ([2, 3, 4] ++ (List.range 24).map (5 + ·)) ++ ([29, 30, 31, 32, 33, 34, 35]) ++ ([36, 37] ++ (List.range 3).map (38 + ·) ++ [41, 42]) ++ ([43, 44, 45, 46, 47, 48] ++ (List.range 4).map (49 + ·)) ++ ([53, 54, 55, 56, 57]) ++ ([58, 59, 60])) XL K.2.2.2.2.1 ad7 hX1 : va_W)) (As := []) (st := [.ref b8, .ref a]) X ci_X8_76 (c_X4_init hX1 (fun r hr => hX1_z ((by decide : ∀ r, r ∈ [61, 63, 65] → ((r ≠ 2 ∧ r ≠ 3 ∧ r ≠ 5) ∧ r ≠ 1 ∧ r ≠ 44 ∧ r ≠ 62)) r hr)) (fun i _ => (hX1_o (by decide) i).trans rfl) b8) dX8_init_144 147 rfl rfl rfl rfl ⟨Nat.le_of_ble_eq_true rfl, Nat.le_of_ble_eq_true rfl⟩ (Nat.le_of_ble_eq_true rfl) (Nat.le_of_ble_eq_true rfl) (Nat.le_of_ble_eq_true rfl) (fun adc hp => ?_)
  have p61 := hp
  obtain ⟨ad8, e1, e2⟩ := ad_mix (S1 := [0, 1, 2, 3, 4, 5, 6, 7, 8, 9, 10, 11, 12, 13, 14, 15, 16, 17, 18, 19, 20, 21, 22, 23, 24, 25, 26, 27, 28, 29, 30, 31, 32, 33, 34, 35, 36, 37, 38, 39, 40, 41, 42, 43, 44, 45, 46, 47, 48, 49, 50, 51, 52, 53, 54, 55, 56, 57, 58, 59, 60]) (refs := []) (ids2 := [61, 62, 63, 64, 65, 66, 67, 68]) (ad := ad7) (ad2 := adc) (by decide) (fun d hd => absurd hd List.not_mem_nil)
  have eW : wl ([1] ++ ([2, 3, 4] ++ (List.range 24).map (5 + ·)) ++ ([29, 30, 31, 32, 33, 34, 35]) ++ ([36, 37] ++ (List.range 3).map (38 + ·) ++ [41, 42]) ++ ([43, 44, 45, 46, 47, 48] ++ (List.range 4).map (49 + ·)) ++ ([53, 54, 55, 56, 57]) ++ ([58, 59, 60])) XL K.2.2.2.2.1 ad7 hX1 ++ wl ([61, 62, 63, 64] ++ (List.range 4).map (65 + ·)) XL K.2.2.2.2.1 adc hX1 = wl ([1] ++ ([2, 3, 4] ++ (List.range 24).map (5 + ·)) ++ ([29, 30, 31, 32, 33, 34, 35]) ++ ([36, 37] ++ (List.range 3).map (38 + ·) ++ [41, 42]) ++ ([43, 44, 45, 46, 47, 48] ++ (List.range 4).map (49 + ·)) ++ ([53, 54, 55, 56, 57]) ++ ([58, 59, 60]) ++ ([61, 62, 63, 64] ++ (List.range 4).map (65 + ·))) XL K.2.2.2.2.1 ad8 hX1 := by
    rw [wl_app ([1] ++ ([2, 3, 4] ++ (List.range 24).map (5 + ·)) ++ ([29, 30, 31, 32, 33, 34, 35]) ++ ([36, 37] ++ (List.range 3).map (38 + ·) ++ [41, 42]) ++ ([43, 44, 45, 46, 47, 48] ++ (List.range 4).map (49 + ·)) ++ ([53, 54, 55, 56, 57]) ++ ([58, 59, 60])) ([61, 62, 63, 64] ++ (List.range 4).map (65 + ·)), wl_cg (S := [0, 1, 2, 3, 4, 5, 6, 7, 8, 9, 10, 11, 12, 13, 14, 15, 16, 17, 18, 19, 20, 21, 22, 23, 24, 25, 26, 27, 28, 29, 30, 31, 32, 33, 34, 35, 36, 37, 38, 39, 40, 41, 42, 43, 44, 45, 46, 47, 48, 49, 50, 51, 52, 53, 54, 55, 56, 57, 58, 59, 60]) (by decide +kernel) e1, wl_cg (S := [] ++ [61, 62, 63, 64, 65, 66, 67, 68]) (by decide +kernel) e2]
  show B 1 K ((a, .inr (8, [.ref b1, .ref b2, .ref b3, .ref b4, .ref b5, .ref b6, .ref b7, .null])) :: ((wl ([1] ++ ([2, 3, 4] ++ (List.range 24).map (5 + ·)) ++ ([29, 30, 31, 32, 33, 34, 35]) ++ ([36, 37] ++ (List.range 3).map (38 + ·) ++ [41, 42]) ++ ([43, 44, 45, 46, 47, 48] ++ (List.range 4).map (49 + ·)) ++ ([53, 54, 55, 56, 57]) ++ ([58, 59, 60])) XL K.2.2.2.2.1 ad7 hX1 : va_W) ++ wl ([61, 62, 63, 64] ++ (List.range 4).map (65 + ·)) XL K.2.2.2.2.1 adc hX1)) 68 1494 147 [(0, .ref a)] [.ref b8, .ref a]
  rw [eW]
  replace k0 := (e1 0 (by decide)).symm.trans k0
  replace k1 := (e1 1 (by decide)).symm.trans k1
  replace k2 := (e1 2 (by decide)).symm.trans k2
  replace k29 := (e1 29 (by decide)).symm.trans k29
  replace k36 := (e1 36 (by decide)).symm.trans k36
  replace k43 := (e1 43 (by decide)).symm.trans k43
  replace k53 := (e1 53 (by decide)).symm.trans k53
  replace k58 := (e1 58 (by decide)).symm.trans k58
  have k61 := (e2 61 (by decide)).symm.trans p61
  clear e1 e2 eW p61
  refine b_putF (c := 0) (ci := 8) (k := 7) (T := TX8) (ty0 := tyX8) X wf_X8_77 inX8 tyX8_ok nmX8 dX8_init_147 150 rfl rfl rfl (by decide) rfl rfl rfl rfl rfl (Nat.le_of_ble_eq_true rfl) (ws' := (a, .inr (8, [.ref b1, .ref b2, .ref b3, .ref b4, .ref b5, .ref b6, .ref b7, .ref b8])) :: wl ([1] ++ ([2, 3, 4] ++ (List.range 24).map (5 + ·)) ++ ([29, 30, 31, 32, 33, 34, 35]) ++ ([36, 37] ++ (List.range 3).map (38 + ·) ++ [41, 42]) ++ ([43, 44, 45, 46, 47, 48] ++ (List.range 4).map (49 + ·)) ++ ([53, 54, 55, 56, 57]) ++ ([58, 59, 60]) ++ ([61, 62, 63, 64] ++ (List.range 4).map (65 + ·))) XL K.2.2.2.2.1 ad8 hX1) rfl ?_
  refine b_ret X Z dX8_init_150 ad8 k0 ?_
  show _ = ((ad8 0, .inr (8, [.ref (ad8 1), .ref (ad8 2), .ref (ad8 29), .ref (ad8 36), .ref (ad8 43), .ref (ad8 53), .ref (ad8 58), .ref (ad8 61)])) :: wl ([1] ++ ([2, 3, 4] ++ (List.range 24).map (5 + ·)) ++ ([29, 30, 31, 32, 33, 34, 35]) ++ ([36, 37] ++ (List.range 3).map (38 + ·) ++ [41, 42]) ++ ([43, 44, 45, 46, 47, 48] ++ (List.range 4).map (49 + ·)) ++ ([53, 54, 55, 56, 57]) ++ ([58, 59, 60]) ++ ([61, 62, 63, 64] ++ (List.range 4).map (65 + ·))) XL K.2.2.2.2.1 ad8 hX1 : va_W)
  rw [k0, k1, k2, k29, k36, k43, k53, k58, k61]
