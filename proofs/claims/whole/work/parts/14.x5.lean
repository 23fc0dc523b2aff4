def likeP (d : Nat) (p : Nat → Int32) (S : Nat → Nat → Int32) (f e : Nat) : Bool := decide (∀ i, i < d → turnN d p (S 0) e i = S f i)
def lbP (q m d tone : Nat) (p : Nat → Int32) (S : Nat → Nat → Int32) (s : Nat) : Bool := decide (∀ f, f < m → likeP d p S f (tone * f * s % q) = true)
def ltV (q m d tone : Nat) (p : Nat → Int32) (S : Nat → Nat → Int32) : Int32 := if 1 < m ∧ ¬ (∀ i, i < d → togK d S m i = 0) then zI (-4) else scanV (lbP q m d tone p S) q 0
theorem mrow_comm (h : Mem) {c d : Nat} (f g : Nat → Int32) (n : d ≠ c) : mrow (mrow h c f) d g = mrow (mrow h d g) c f := by
  funext x
  by_cases h1 : x = c
  · subst h1
    rw [mrow_s, mrow_n _ _ (Ne.symm n), mrow_s]
  · rw [mrow_n _ _ h1]
    by_cases h2 : x = d
    · subst h2
      rw [mrow_s, mrow_s]
    · rw [mrow_n _ _ h2, mrow_n _ _ h2, mrow_n _ _ h1]
def lkI (m : Nat) (P : Nat → Nat → Bool) (e f : Nat) : Nat → Int32 := fun j => if j < m then nI (if j < f then likeN (P j) (e + 1) else likeN (P j) e) else nI 0
theorem lkI_0 (m : Nat) (P : Nat → Nat → Bool) : lkI m P 0 0 = zF := by
  funext j; unfold lkI zF
  split
  · rw [if_neg (by omega)]; rfl
  · rfl
theorem lkI_e {m : Nat} (P : Nat → Nat → Bool) (e : Nat) : lkI m P e m = lkI m P (e + 1) 0 := by
  funext j; unfold lkI
  by_cases h : j < m
  · rw [if_pos h, if_pos h, if_pos h, if_neg (by omega)]
  · rw [if_neg h, if_neg h]
theorem lkI_t {m : Nat} (P : Nat → Nat → Bool) {e f : Nat} (hf : f < m) (hp : P f e = true) : upd (lkI m P e f) f (nI (likeN (P f) e ||| 2 ^ e)) = lkI m P e (f + 1) := by
  funext j; unfold lkI
  by_cases hj : j = f
  · subst hj
    rw [upd_s, if_pos hf, if_pos (by omega)]
    show _ = nI (if P j e then likeN (P j) e ||| 2 ^ e else likeN (P j) e)
    rw [if_pos hp]
  · rw [upd_n _ _ hj]
    by_cases h : j < m
    · rw [if_pos h, if_pos h]
      by_cases h2 : j < f
      · rw [if_pos h2, if_pos (by omega)]
      · rw [if_neg h2, if_neg (by omega)]
    · rw [if_neg h, if_neg h]
theorem lkI_f {m : Nat} (P : Nat → Nat → Bool) {e f : Nat} (hf : f < m) (hp : ¬ P f e = true) : lkI m P e f = lkI m P e (f + 1) := by
  funext j; unfold lkI
  by_cases h : j < m
  · rw [if_pos h, if_pos h]
    by_cases hj : j = f
    · subst hj
      rw [if_neg (by omega), if_pos (by omega)]
      show _ = nI (if P j e then likeN (P j) e ||| 2 ^ e else likeN (P j) e)
      rw [if_neg hp]
    · by_cases h2 : j < f
      · rw [if_pos h2, if_pos (by omega)]
      · rw [if_neg h2, if_neg (by omega)]
  · rw [if_neg h, if_neg h]
theorem fl_same (h : Mem) (q p m n d : Nat) (C : XC h q p m n d) (e f : Nat) (hf : f < 3) : cI 69 XL yX3_areSame cX3_areSame 4 (some .boolean) 0 0 (fun ad => [.ref (ad 2), .ref (ad 41), .ref (ad (38 + f))]) (mrow (mrow h 41 (gput (h 41) 0 24 (turnN d (h 3) ((fun b => grd (h 38) (24 * b)) 0) e))) 42 (gput (h 42) 0 3 (lkI m (likeP d (h 3) (fun b => grd (h 38) (24 * b))) e f))) (fun r h2 => r = bI ((likeP d (h 3) (fun b => grd (h 38) (24 * b))) f e = true) ∧ h2 = (mrow (mrow h 41 (gput (h 41) 0 24 (turnN d (h 3) ((fun b => grd (h 38) (24 * b)) 0) e))) 42 (gput (h 42) 0 3 (lkI m (likeP d (h 3) (fun b => grd (h 38) (24 * b))) e f)))) := by
  obtain ⟨hq, hp, hm, hq1, hq2, hp1, hp2, hm1, hm2, hn, hn2, hc, hq0, hd, hd1, hd2⟩ := id C
  have e1 := c_X3_areSame_41 (mrow (mrow h 41 (gput (h 41) 0 24 (turnN d (h 3) ((fun b => grd (h 38) (24 * b)) 0) e))) 42 (gput (h 42) 0 3 (lkI m (likeP d (h 3) (fun b => grd (h 38) (24 * b))) e f))) f hf d (by exact hd) hd1 hd2
  have e2 : (∀ i, i < d → grd ((mrow (mrow h 41 (gput (h 41) 0 24 (turnN d (h 3) ((fun b => grd (h 38) (24 * b)) 0) e))) 42 (gput (h 42) 0 3 (lkI m (likeP d (h 3) (fun b => grd (h 38) (24 * b))) e f))) 41) 0 i = grd (h 38) (24 * f) i) ↔ ((likeP d (h 3) (fun b => grd (h 38) (24 * b))) f e = true) := by
    unfold likeP
    rw [decide_eq_true_iff]
    exact ⟨fun z i hi => (gput_in (F := h 41) (o := 0) (n := 24) (by omega)).symm.trans (z i hi), fun z i hi => (gput_in (F := h 41) (o := 0) (n := 24) (by omega)).trans (z i hi)⟩
  rw [← bI_c e2]
  exact e1
theorem fl_turn (h : Mem) (q p m n d : Nat) (C : XC h q p m n d) (e : Nat) : cV 69 XL yX3_turnByOne cX3_turnByOne 4 0 0 (fun ad => [.ref (ad 2), .ref (ad 41)]) (mrow (mrow h 41 (gput (h 41) 0 24 (turnN d (h 3) ((fun b => grd (h 38) (24 * b)) 0) e))) 42 (gput (h 42) 0 3 (lkI m (likeP d (h 3) (fun b => grd (h 38) (24 * b))) e m))) (fun h2 => h2 = (mrow (mrow h 41 (gput (h 41) 0 24 (turnN d (h 3) ((fun b => grd (h 38) (24 * b)) 0) (e + 1)))) 42 (gput (h 42) 0 3 (lkI m (likeP d (h 3) (fun b => grd (h 38) (24 * b))) (e + 1) 0)))) := by
  obtain ⟨hq, hp, hm, hq1, hq2, hp1, hp2, hm1, hm2, hn, hn2, hc, hq0, hd, hd1, hd2⟩ := id C
  have e1 := c_X3_turnByOne_41 (mrow (mrow h 41 (gput (h 41) 0 24 (turnN d (h 3) ((fun b => grd (h 38) (24 * b)) 0) e))) 42 (gput (h 42) 0 3 (lkI m (likeP d (h 3) (fun b => grd (h 38) (24 * b))) e m))) d (by exact hd) hd1 hd2
  have e2 : mrow (mrow (mrow h 41 (gput (h 41) 0 24 (turnN d (h 3) ((fun b => grd (h 38) (24 * b)) 0) e))) 42 (gput (h 42) 0 3 (lkI m (likeP d (h 3) (fun b => grd (h 38) (24 * b))) e m))) 41 (gput (h 41) 0 24 (turnN d (h 3) ((fun b => grd (h 38) (24 * b)) 0) (e + 1))) = (mrow (mrow h 41 (gput (h 41) 0 24 (turnN d (h 3) ((fun b => grd (h 38) (24 * b)) 0) (e + 1)))) 42 (gput (h 42) 0 3 (lkI m (likeP d (h 3) (fun b => grd (h 38) (24 * b))) (e + 1) 0))) := by
    rw [mrow_comm _ _ _ (by decide : 41 ≠ 42), mrow_m, lkI_e]
  have e3 : gput (gput (h 41) 0 24 (turnN d (h 3) ((fun b => grd (h 38) (24 * b)) 0) e)) 0 24 (turnF d (h 3) (grd (gput (h 41) 0 24 (turnN d (h 3) ((fun b => grd (h 38) (24 * b)) 0) e)) 0)) = gput (h 41) 0 24 (turnN d (h 3) ((fun b => grd (h 38) (24 * b)) 0) (e + 1)) := by
    funext x
    unfold gput
    by_cases hx : 0 ≤ x ∧ x < 0 + 24
    · rw [if_pos hx, if_pos hx]
      exact turnF_congr hd1 hd2 (fun i hi => gput_in (F := h 41) (o := 0) hi) _ (by omega)
    · rw [if_neg hx, if_neg hx, if_neg hx]
  rw [← e2, ← e3]
  exact e1
set_option maxHeartbeats 1000000 in
set_option maxRecDepth 100000 in
theorem c_X6_findLikeTurns (h : Mem) (q p m n d : Nat) (C : XC h q p m n d) : cV 69 XL yX6_findLikeTurns cX6_findLikeTurns 3 1 26 (fun ad => [.ref (ad (36))]) h (fun h2 => ∃ w v, h2 = mrow (mrow h 41 w) 42 v ∧ ∀ f, f < m → v f = nI (likeN ((likeP d (h 3) (fun b => grd (h 38) (24 * b))) f) q)) := by
  refine cV_of XLW (by decide +kernel) (fun ad => Nat.le_of_ble_eq_true rfl) ?_
  intro K X Z
  obtain ⟨hq, hp, hm, hq1, hq2, hp1, hp2, hm1, hm2, hn, hn2, hc, hq0, hd, hd1, hd2⟩ := id C
  show G 69 XL 3 K h 0 [(0, .ref (kad K (36)))] []
  refine g_aload_n X dX6_findLikeTurns_0 1 rfl rfl ?_
  refine g_get (c := 36) (k := 6) (T := TX6) (sk := skX36) (v := .ref (kad K (42))) X wf_X6_20 inX6 dX6_findLikeTurns_1 4 rfl (by decide) rfl rfl (by decide) rfl ?_
  refine g_callSvx (st := []) (m2 := (mrow h 42 (gput (h 42) (0) 3 zF))) X cw_X6_39 (c_X6_setToNought_42 h ) dX6_findLikeTurns_4 7 rfl rfl rfl rfl (by decide) (Nat.le_of_ble_eq_true rfl) ?_
  refine g_aload_n X dX6_findLikeTurns_7 8 rfl rfl ?_
  refine g_get (c := 36) (k := 4) (T := TX6) (sk := skX36) (v := .ref (kad K (37))) X wf_X6_11 inX6 dX6_findLikeTurns_8 11 rfl (by decide) rfl rfl (by decide) rfl ?_
  refine g_iconst X dX6_findLikeTurns_11 12 rfl (v := (nI (0))) rfl ?_
  refine g_aald (c := 37) (n := 3) (b := 38) (o := 0) (i := 0) X dX6_findLikeTurns_12 13 rfl (by decide) rfl rfl (by omega) ?_
  refine g_iconst X dX6_findLikeTurns_13 14 rfl (v := (nI (0))) rfl ?_
  refine g_aload_n X dX6_findLikeTurns_14 15 rfl rfl ?_
  refine g_get (c := 36) (k := 5) (T := TX6) (sk := skX36) (v := .ref (kad K (41))) X wf_X6_16 inX6 dX6_findLikeTurns_15 18 rfl (by decide) rfl rfl (by decide) rfl ?_
  refine g_iconst X dX6_findLikeTurns_18 19 rfl (v := (nI (0))) rfl ?_
  refine g_bipush X dX6_findLikeTurns_19 21 rfl (v := (nI (24))) rfl ?_
  refine g_copy (c0 := (38 + 0)) (n0 := 24) (r0 := 38) (o0 := 24 * 0) (c1 := 41) (n1 := 24) (r1 := 41) (o1 := 0) (a := 0) (b := 0) (m := 24) (st := []) X wm_X6_100 dX6_findLikeTurns_21 24 rfl (by omega) (XL_38 (by omega)) (by decide) rfl rfl rfl rfl (by omega) (by omega) (by omega) (Nat.le_of_ble_eq_true rfl) ?_
  refine g_iconst X dX6_findLikeTurns_24 25 rfl (v := (nI (0))) rfl ?_
  refine g_istore_n X (lv' := [(0, .ref (kad K (36))), (1, .int (nI 0))]) dX6_findLikeTurns_25 26 rfl (by decide) rfl rfl ?_
  have lp26 : ∀ (fu : Nat) (e : Nat) (he : e ≤ q), q - e < fu → G 69 XL 3 K (mrow (mrow h 41 (gput (h 41) 0 24 (turnN d (h 3) ((fun b => grd (h 38) (24 * b)) 0) e))) 42 (gput (h 42) 0 3 (lkI m (likeP d (h 3) (fun b => grd (h 38) (24 * b))) e 0))) 26 [(0, .ref (kad K (36))), (1, .int (nI (e)))] [] := by
    intro fu
    induction fu with
    | zero => intro e he hm; exact absurd hm (Nat.not_lt_zero _)
    | succ fu ih26 =>
      intro e he hm26
      refine g_iload_n X dX6_findLikeTurns_26 27 rfl rfl ?_
      refine g_aload_n X dX6_findLikeTurns_27 28 rfl rfl ?_
      refine g_get (c := 36) (k := 0) (T := TX6) (sk := skX36) (v := .ref (kad K (1))) X wf_X6_23 inX6 dX6_findLikeTurns_28 31 rfl (by decide) rfl rfl (by decide) rfl ?_
      refine g_get (c := 1) (k := 0) (T := TX1) (sk := skX1) (v := .int (nI (q))) X wf_X6_90 inX1 dX6_findLikeTurns_31 34 rfl (by decide) rfl rfl (by decide) (congrArg Value.int (hq)) ?_
      refine g_icmp_ge X ((e : Nat) : Int) ((q : Nat) : Int) dX6_findLikeTurns_34 105 (by decide) 37 rfl (nI_toInt (by omega)) (nI_toInt (by omega)) (fun t34 => ?_) (fun f34 => ?_)
      · skip
        refine g_vret (h := (mrow (mrow h 41 (gput (h 41) 0 24 (turnN d (h 3) ((fun b => grd (h 38) (24 * b)) 0) e))) 42 (gput (h 42) 0 3 (lkI m (likeP d (h 3) (fun b => grd (h 38) (24 * b))) e 0)))) X Z dX6_findLikeTurns_105 ?_
        refine ⟨_, _, rfl, fun f hf => ?_⟩
        rw [show e = q from by omega]
        exact (gput_in (F := h 42) (o := 0) (n := 3) (by omega)).trans ((if_pos hf).trans (congrArg nI (if_neg (by omega))))
      · skip
        refine g_iconst X dX6_findLikeTurns_37 38 rfl (v := (nI (0))) rfl ?_
        refine g_istore_n X (lv' := [(0, .ref (kad K (36))), (1, .int (nI (e))), (2, .int (nI 0))]) dX6_findLikeTurns_38 39 rfl (by decide) rfl rfl ?_
        have lp39 : ∀ (fu : Nat) (f : Nat) (hf : f ≤ m), m - f < fu → G 69 XL 3 K (mrow (mrow h 41 (gput (h 41) 0 24 (turnN d (h 3) ((fun b => grd (h 38) (24 * b)) 0) e))) 42 (gput (h 42) 0 3 (lkI m (likeP d (h 3) (fun b => grd (h 38) (24 * b))) e f))) 39 [(0, .ref (kad K (36))), (1, .int (nI (e))), (2, .int (nI (f)))] [] := by
          intro fu
          induction fu with
          | zero => intro f hf hm; exact absurd hm (Nat.not_lt_zero _)
          | succ fu ih39 =>
            intro f hf hm39
            refine g_iload_n X dX6_findLikeTurns_39 40 rfl rfl ?_
            refine g_aload_n X dX6_findLikeTurns_40 41 rfl rfl ?_
            refine g_get (c := 36) (k := 0) (T := TX6) (sk := skX36) (v := .ref (kad K (1))) X wf_X6_23 inX6 dX6_findLikeTurns_41 44 rfl (by decide) rfl rfl (by decide) rfl ?_
            refine g_get (c := 1) (k := 2) (T := TX1) (sk := skX1) (v := .int (nI (m))) X wf_X6_78 inX1 dX6_findLikeTurns_44 47 rfl (by decide) rfl rfl (by decide) (congrArg Value.int (hm)) ?_
            refine g_icmp_ge X ((f : Nat) : Int) ((m : Nat) : Int) dX6_findLikeTurns_47 88 (by decide) 50 rfl (nI_toInt (by omega)) (nI_toInt (by omega)) (fun t47 => ?_) (fun f47 => ?_)
            · skip
              refine g_mem (h' := (mrow (mrow h 41 (gput (h 41) 0 24 (turnN d (h 3) ((fun b => grd (h 38) (24 * b)) 0) e))) 42 (gput (h 42) 0 3 (lkI m (likeP d (h 3) (fun b => grd (h 38) (24 * b))) e m)))) (by rw [show f = m from by omega]) ?_
              refine g_aload_n X dX6_findLikeTurns_88 89 rfl rfl ?_
              refine g_get (c := 36) (k := 1) (T := TX6) (sk := skX36) (v := .ref (kad K (2))) X wf_X6_27 inX6 dX6_findLikeTurns_89 92 rfl (by decide) rfl rfl (by decide) rfl ?_
              refine g_aload_n X dX6_findLikeTurns_92 93 rfl rfl ?_
              refine g_get (c := 36) (k := 5) (T := TX6) (sk := skX36) (v := .ref (kad K (41))) X wf_X6_16 inX6 dX6_findLikeTurns_93 96 rfl (by decide) rfl rfl (by decide) rfl ?_
              refine g_callVvx (st := []) (m2 := (mrow (mrow h 41 (gput (h 41) 0 24 (turnN d (h 3) ((fun b => grd (h 38) (24 * b)) 0) (e + 1)))) 42 (gput (h 42) 0 3 (lkI m (likeP d (h 3) (fun b => grd (h 38) (24 * b))) (e + 1) 0)))) X cw_X6_110 (fl_turn h q p m n d C e) dX6_findLikeTurns_96 99 rfl (by decide) rfl rfl rfl rfl rfl (by decide) (Nat.le_of_ble_eq_true rfl) ?_
              refine g_iinc X (v := (nI (e + 1))) (lv' := [(0, .ref (kad K (36))), (1, .int (nI (e + 1))), (2, .int (nI (f)))]) dX6_findLikeTurns_99 102 rfl (by decide) rfl (n_inc e 1) rfl rfl ?_
              refine g_goto X dX6_findLikeTurns_102 26 (by decide) ?_
              refine g_sub [0, 1] rfl ?_
              exact ih26 (e + 1) (by omega) (by omega)
            · skip
              refine g_aload_n X dX6_findLikeTurns_50 51 rfl rfl ?_
              refine g_get (c := 36) (k := 1) (T := TX6) (sk := skX36) (v := .ref (kad K (2))) X wf_X6_27 inX6 dX6_findLikeTurns_51 54 rfl (by decide) rfl rfl (by decide) rfl ?_
              refine g_aload_n X dX6_findLikeTurns_54 55 rfl rfl ?_
              refine g_get (c := 36) (k := 5) (T := TX6) (sk := skX36) (v := .ref (kad K (41))) X wf_X6_16 inX6 dX6_findLikeTurns_55 58 rfl (by decide) rfl rfl (by decide) rfl ?_
              refine g_aload_n X dX6_findLikeTurns_58 59 rfl rfl ?_
              refine g_get (c := 36) (k := 4) (T := TX6) (sk := skX36) (v := .ref (kad K (37))) X wf_X6_11 inX6 dX6_findLikeTurns_59 62 rfl (by decide) rfl rfl (by decide) rfl ?_
              refine g_iload_n X dX6_findLikeTurns_62 63 rfl rfl ?_
              refine g_aald (c := 37) (n := 3) (b := 38) (o := 0) (i := f) X dX6_findLikeTurns_63 64 rfl (by decide) rfl rfl (by omega) ?_
              refine g_callVix (st := []) (v := (bI ((likeP d (h 3) (fun b => grd (h 38) (24 * b))) f e = true))) (m2 := (mrow (mrow h 41 (gput (h 41) 0 24 (turnN d (h 3) ((fun b => grd (h 38) (24 * b)) 0) e))) 42 (gput (h 42) 0 3 (lkI m (likeP d (h 3) (fun b => grd (h 38) (24 * b))) e f)))) X cw_X6_106 (fl_same h q p m n d C e f (by omega)) dX6_findLikeTurns_64 67 rfl (by decide) rfl rfl rfl rfl rfl (by decide) (Nat.le_of_ble_eq_true rfl) ?_
              refine g_ifeq_B X dX6_findLikeTurns_67 82 (by decide) 70 rfl (fun t67 => ?_) (fun f67 => ?_)
              · skip
                refine g_iinc X (v := (nI (f + 1))) (lv' := [(0, .ref (kad K (36))), (1, .int (nI (e))), (2, .int (nI (f + 1)))]) dX6_findLikeTurns_82 85 rfl (by decide) rfl (n_inc f 1) rfl rfl ?_
                refine g_goto X dX6_findLikeTurns_85 39 (by decide) ?_
                skip
                refine g_mem (h := (mrow (mrow h 41 (gput (h 41) 0 24 (turnN d (h 3) ((fun b => grd (h 38) (24 * b)) 0) e))) 42 (gput (h 42) 0 3 (lkI m (likeP d (h 3) (fun b => grd (h 38) (24 * b))) e f)))) (h' := (mrow (mrow h 41 (gput (h 41) 0 24 (turnN d (h 3) ((fun b => grd (h 38) (24 * b)) 0) e))) 42 (gput (h 42) 0 3 (lkI m (likeP d (h 3) (fun b => grd (h 38) (24 * b))) e (f + 1))))) (by rw [lkI_f (likeP d (h 3) (fun b => grd (h 38) (24 * b))) (by omega) t67]) ?_
                exact ih39 (f + 1) (by omega) (by omega)
              · skip
                refine g_aload_n X dX6_findLikeTurns_70 71 rfl rfl ?_
                refine g_get (c := 36) (k := 6) (T := TX6) (sk := skX36) (v := .ref (kad K (42))) X wf_X6_20 inX6 dX6_findLikeTurns_71 74 rfl (by decide) rfl rfl (by decide) rfl ?_
                refine g_iload_n X dX6_findLikeTurns_74 75 rfl rfl ?_
                refine g_dup2 X dX6_findLikeTurns_75 76 rfl rfl rfl ?_
                refine g_iald (c := 42) (n := 3) (r := 42) (o := 0) (i := f) (v := (nI (likeN ((likeP d (h 3) (fun b => grd (h 38) (24 * b))) f) e))) X dX6_findLikeTurns_76 77 rfl (by decide) rfl rfl (by omega) ((gput_in (F := h 42) (o := 0) (n := 3) (by omega)).trans ((if_pos (by omega)).trans (congrArg nI (if_neg (by omega))))) ?_
                refine g_iconst X dX6_findLikeTurns_77 78 rfl (v := (nI (1))) rfl ?_
                refine g_iload_n X dX6_findLikeTurns_78 79 rfl rfl ?_
                refine g_ishl X (v := (nI (2 ^ e))) dX6_findLikeTurns_79 80 rfl (nI_shl1 (by omega)) ?_
                refine g_ior X (v := (nI (likeN ((likeP d (h 3) (fun b => grd (h 38) (24 * b))) f) e ||| 2 ^ e))) dX6_findLikeTurns_80 81 rfl (nI_or _ _) ?_
                refine g_iast (c := 42) (n := 3) (r := 42) (o := 0) (i := f) X dX6_findLikeTurns_81 82 rfl (by decide) rfl rfl (by omega) ?_
                refine g_iinc X (v := (nI (f + 1))) (lv' := [(0, .ref (kad K (36))), (1, .int (nI (e))), (2, .int (nI (f + 1)))]) dX6_findLikeTurns_82 85 rfl (by decide) rfl (n_inc f 1) rfl rfl ?_
                refine g_goto X dX6_findLikeTurns_85 39 (by decide) ?_
                skip
                refine g_mem (h := (mup (mrow (mrow h 41 (gput (h 41) 0 24 (turnN d (h 3) ((fun b => grd (h 38) (24 * b)) 0) e))) 42 (gput (h 42) 0 3 (lkI m (likeP d (h 3) (fun b => grd (h 38) (24 * b))) e f))) 42 f (nI (likeN ((likeP d (h 3) (fun b => grd (h 38) (24 * b))) f) e ||| 2 ^ e)))) (h' := (mrow (mrow h 41 (gput (h 41) 0 24 (turnN d (h 3) ((fun b => grd (h 38) (24 * b)) 0) e))) 42 (gput (h 42) 0 3 (lkI m (likeP d (h 3) (fun b => grd (h 38) (24 * b))) e (f + 1))))) (gput_up (h := mrow h 41 _) (by omega) (fun i0 _ => congrFun (lkI_t (likeP d (h 3) (fun b => grd (h 38) (24 * b))) (by omega) f67) i0)) ?_
                exact ih39 (f + 1) (by omega) (by omega)
        skip
        refine g_mem (h := (mrow (mrow h 41 (gput (h 41) 0 24 (turnN d (h 3) ((fun b => grd (h 38) (24 * b)) 0) e))) 42 (gput (h 42) 0 3 (lkI m (likeP d (h 3) (fun b => grd (h 38) (24 * b))) e 0)))) (h' := (mrow (mrow h 41 (gput (h 41) 0 24 (turnN d (h 3) ((fun b => grd (h 38) (24 * b)) 0) e))) 42 (gput (h 42) 0 3 (lkI m (likeP d (h 3) (fun b => grd (h 38) (24 * b))) e 0)))) rfl ?_
        exact lp39 _ 0 (by omega) (Nat.lt_succ_self _)
  skip
  refine g_mem (h := (mcpy (mrow h 42 (gput (h 42) (0) 3 zF)) 41 (0 + 0) 38 (0 + (24 * 0)) 24)) (h' := (mrow (mrow h 41 (gput (h 41) 0 24 (turnN d (h 3) ((fun b => grd (h 38) (24 * b)) 0) 0))) 42 (gput (h 42) 0 3 (lkI m (likeP d (h 3) (fun b => grd (h 38) (24 * b))) 0 0)))) (by rw [lkI_0]; unfold mcpy; rw [mrow_comm _ _ _ (by decide : 41 ≠ 42)]; refine congrArg (fun z => mrow (mrow h 41 z) 42 _) (funext fun x => ?_); unfold gput turnN grd; by_cases hx : x < 24; rw [if_pos (by omega), if_pos (by omega)]; rfl; rw [if_neg (by omega), if_neg (by omega)]; rfl) ?_
  exact lp26 _ 0 (by omega) (Nat.lt_succ_self _)
set_option maxHeartbeats 1000000 in
set_option maxRecDepth 100000 in
theorem c_X6_isLikeBy (h : Mem) (q p m n d : Nat) (C : XC h q p m n d) (tone s : Nat) (LN : Nat → Nat → Bool) (ht : h 36 3 = nI tone) (ht2 : tone ≤ 47) (hs : s < q) (hl : ∀ f, f < m → h 42 f = nI (likeN (LN f) q)) : cI 69 XL yX6_isLikeBy cX6_isLikeBy 4 (some .boolean) 0 0 (fun ad => [.ref (ad (36)), .int (nI (s))]) h (fun r h2 => r = bI (∀ f, f < m → LN f (tone * f * s % q) = true) ∧ h2 = h) := by
  refine cI_of XLW (by decide +kernel) (fun ad => Nat.le_of_ble_eq_true rfl) ?_
  intro K X Z
  obtain ⟨hq, hp, hm, hq1, hq2, hp1, hp2, hm1, hm2, hn, hn2, hc, hq0, hd, hd1, hd2⟩ := id C
  show G 69 XL 4 K h 0 [(0, .ref (kad K (36))), (1, .int (nI (s)))] []
  refine g_iconst X dX6_isLikeBy_0 1 rfl (v := (nI (0))) rfl ?_
  refine g_istore_n X (lv' := [(0, .ref (kad K (36))), (1, .int (nI (s))), (2, .int (nI 0))]) dX6_isLikeBy_1 2 rfl (by decide) rfl rfl ?_
  have lp2 : ∀ (fu : Nat) (f : Nat) (hf : f ≤ m) (hz : ∀ b, b < f → LN b (tone * b * s % q) = true), m - f < fu → G 69 XL 4 K h 2 [(0, .ref (kad K (36))), (1, .int (nI (s))), (2, .int (nI (f)))] [] := by
    intro fu
    induction fu with
    | zero => intro f hf hz hm; exact absurd hm (Nat.not_lt_zero _)
    | succ fu ih2 =>
      intro f hf hz hm2
      refine g_iload_n X dX6_isLikeBy_2 3 rfl rfl ?_
      refine g_aload_n X dX6_isLikeBy_3 4 rfl rfl ?_
      refine g_get (c := 36) (k := 0) (T := TX6) (sk := skX36) (v := .ref (kad K (1))) X wf_X6_23 inX6 dX6_isLikeBy_4 7 rfl (by decide) rfl rfl (by decide) rfl ?_
      refine g_get (c := 1) (k := 2) (T := TX1) (sk := skX1) (v := .int (nI (m))) X wf_X6_78 inX1 dX6_isLikeBy_7 10 rfl (by decide) rfl rfl (by decide) (congrArg Value.int (hm)) ?_
      refine g_icmp_ge X ((f : Nat) : Int) ((m : Nat) : Int) dX6_isLikeBy_10 51 (by decide) 13 rfl (nI_toInt (by omega)) (nI_toInt (by omega)) (fun t10 => ?_) (fun f10 => ?_)
      · skip
        refine g_iconst X dX6_isLikeBy_51 52 rfl (v := (nI (1))) rfl ?_
        refine g_zret (h := h) (v := (nI (1))) X Z dX6_isLikeBy_52 (Or.inr rfl) ?_
        exact ⟨(bI_t (fun b z => hz b (by omega))).symm, rfl⟩
      · skip
        refine g_aload_n X dX6_isLikeBy_13 14 rfl rfl ?_
        refine g_get (c := 36) (k := 3) (T := TX6) (sk := skX36) (v := .int (nI (tone))) X wf_X6_35 inX6 dX6_isLikeBy_14 17 rfl (by decide) rfl rfl (by decide) (congrArg Value.int (ht)) ?_
        refine g_iload_n X dX6_isLikeBy_17 18 rfl rfl ?_
        refine g_imul X (v := (nI (tone * f))) dX6_isLikeBy_18 19 rfl (pk_mul tone f) ?_
        refine g_iload_n X dX6_isLikeBy_19 20 rfl rfl ?_
        refine g_imul X (v := (nI ((tone * f) * s))) dX6_isLikeBy_20 21 rfl (pk_mul (tone * f) s) ?_
        have e9 : tone * f * s ≤ 47 * 2 * 23 := mul_lt4 ht2 (by omega) (by omega)
        have e8 := Nat.mod_lt (tone * f * s) (show 0 < q by omega)
        have e7 := likeN_lt (LN f) q
        have e6 : 2 ^ q ≤ 2 ^ 24 := Nat.pow_le_pow_right (by decide) hq2
        have e5 := likeN_bit (LN f) q (tone * f * s % q)
        rw [decide_eq_true e8, Bool.true_and] at e5
        refine g_aload_n X dX6_isLikeBy_21 22 rfl rfl ?_
        refine g_get (c := 36) (k := 0) (T := TX6) (sk := skX36) (v := .ref (kad K (1))) X wf_X6_23 inX6 dX6_isLikeBy_22 25 rfl (by decide) rfl rfl (by decide) rfl ?_
        refine g_get (c := 1) (k := 0) (T := TX1) (sk := skX1) (v := .int (nI (q))) X wf_X6_90 inX1 dX6_isLikeBy_25 28 rfl (by decide) rfl rfl (by decide) (congrArg Value.int (hq)) ?_
        have b28 := Nat.mod_le ((tone * f) * s) q
        refine g_irem X (v := (nI (((tone * f) * s) % q))) dX6_isLikeBy_28 29 rfl (nI_ne (by omega) (by omega)) (pk_rem (by omega) (by omega) (by omega)) ?_
        refine g_istore_n X (lv' := [(0, .ref (kad K (36))), (1, .int (nI (s))), (2, .int (nI (f))), (3, .int (nI (((tone * f) * s) % q)))]) dX6_isLikeBy_29 30 rfl (by decide) rfl rfl ?_
        refine g_aload_n X dX6_isLikeBy_30 31 rfl rfl ?_
        refine g_get (c := 36) (k := 6) (T := TX6) (sk := skX36) (v := .ref (kad K (42))) X wf_X6_20 inX6 dX6_isLikeBy_31 34 rfl (by decide) rfl rfl (by decide) rfl ?_
        refine g_iload_n X dX6_isLikeBy_34 35 rfl rfl ?_
        refine g_iald (c := 42) (n := 3) (r := 42) (o := 0) (i := f) (v := (nI (likeN (LN f) q))) X dX6_isLikeBy_35 36 rfl (by decide) rfl rfl (by omega) (hl f (by omega)) ?_
        refine g_iload_n X dX6_isLikeBy_36 37 rfl rfl ?_
        refine g_ishr X (v := ((nI (likeN (LN f) q)) >>> ((nI (((tone * f) * s) % q)) &&& 31))) dX6_isLikeBy_37 38 rfl rfl ?_
        refine g_iconst X dX6_isLikeBy_38 39 rfl (v := (nI (1))) rfl ?_
        refine g_iand X (v := (nI ((if (likeN (LN f) q).testBit (tone * f * s % q) then 1 else 0)))) dX6_isLikeBy_39 40 rfl (nI_bit (by omega) (by omega)) ?_
        refine g_if_ne X (((if (likeN (LN f) q).testBit (tone * f * s % q) then 1 else 0) : Nat) : Int) dX6_isLikeBy_40 45 (by decide) 43 rfl (nI_toInt (by split <;> omega)) (fun t40 => ?_) (fun f40 => ?_)
        · skip
          have h9 : LN f (tone * f * s % q) = true := by
            rw [← e5]
            by_cases z : (likeN (LN f) q).testBit (tone * f * s % q) = true
            · exact z
            · rw [if_neg z] at t40; exact absurd rfl t40
          refine g_iinc X (v := (nI (f + 1))) (lv' := [(0, .ref (kad K (36))), (1, .int (nI (s))), (2, .int (nI (f + 1))), (3, .int (nI (((tone * f) * s) % q)))]) dX6_isLikeBy_45 48 rfl (by decide) rfl (n_inc f 1) rfl rfl ?_
          refine g_goto X dX6_isLikeBy_48 2 (by decide) ?_
          refine g_sub [0, 1, 2] rfl ?_
          exact ih2 (f + 1) (by omega) (fun b z => by
                rcases Nat.lt_succ_iff_lt_or_eq.mp z with z | z
                · exact hz b z
                · rw [z]; exact h9) (by omega)
        · skip
          refine g_iconst X dX6_isLikeBy_43 44 rfl (v := (nI (0))) rfl ?_
          refine g_zret (h := h) (v := (nI (0))) X Z dX6_isLikeBy_44 (Or.inl rfl) ?_
          refine ⟨(bI_f (fun z => ?_)).symm, rfl⟩
          have z1 := z f (by omega)
          rw [← e5] at z1
          rw [if_pos z1] at f40
          exact absurd f40 (by decide)
  skip
  exact lp2 _ 0 (by omega) (fun b z => absurd z (Nat.not_lt_zero _)) (Nat.lt_succ_self _)
theorem lt_like (h : Mem) (q p m n d : Nat) (C : XC h q p m n d) (tone s : Nat) (ht : h 36 3 = nI tone) (ht2 : tone ≤ 47) (hs : s < q) (w v : Nat → Int32) (hl : ∀ f, f < m → v f = nI (likeN ((likeP d (h 3) (fun b => grd (h 38) (24 * b))) f) q)) : cI 69 XL yX6_isLikeBy cX6_isLikeBy 4 (some .boolean) 0 0 (fun ad => [.ref (ad 36), .int (nI s)]) (mrow (mrow h 41 w) 42 v) (fun r h2 => r = bI ((lbP q m d tone (h 3) (fun b => grd (h 38) (24 * b))) s = true) ∧ h2 = mrow (mrow h 41 w) 42 v) := by
  have e1 := c_X6_isLikeBy (mrow (mrow h 41 w) 42 v) q p m n d (by exact C) tone s (likeP d (h 3) (fun b => grd (h 38) (24 * b))) (by exact ht) ht2 hs (by exact hl)
  have e2 : (∀ f, f < m → (likeP d (h 3) (fun b => grd (h 38) (24 * b))) f (tone * f * s % q) = true) ↔ ((lbP q m d tone (h 3) (fun b => grd (h 38) (24 * b))) s = true) := by
    unfold lbP
    rw [decide_eq_true_iff]
  rw [← bI_c e2]
  exact e1
set_option maxHeartbeats 1000000 in
set_option maxRecDepth 100000 in
theorem c_X6_leastTurn (h : Mem) (q p m n d : Nat) (C : XC h q p m n d) (tone : Nat) (ht : h 36 3 = nI tone) (ht2 : tone ≤ 47) : cI 69 XL yX6_leastTurn cX6_leastTurn 2 (some .int) 2 48 (fun ad => [.ref (ad (36))]) h (fun r h2 => r = (ltV q m d tone (h 3) (fun b => grd (h 38) (24 * b))) ∧ ∃ w v, h2 = mrow (mrow h 41 w) 42 v) := by
  refine cI_of XLW (by decide +kernel) (fun ad => Nat.le_of_ble_eq_true rfl) ?_
  intro K X Z
  obtain ⟨hq, hp, hm, hq1, hq2, hp1, hp2, hm1, hm2, hn, hn2, hc, hq0, hd, hd1, hd2⟩ := id C
  show G 69 XL 2 K h 0 [(0, .ref (kad K (36)))] []
  refine g_aload_n X dX6_leastTurn_0 1 rfl rfl ?_
  refine g_get (c := 36) (k := 0) (T := TX6) (sk := skX36) (v := .ref (kad K (1))) X wf_X6_23 inX6 dX6_leastTurn_1 4 rfl (by decide) rfl rfl (by decide) rfl ?_
  refine g_get (c := 1) (k := 2) (T := TX1) (sk := skX1) (v := .int (nI (m))) X wf_X6_78 inX1 dX6_leastTurn_4 7 rfl (by decide) rfl rfl (by decide) (congrArg Value.int (hm)) ?_
  refine g_iconst X dX6_leastTurn_7 8 rfl (v := (nI (1))) rfl ?_
  refine g_icmp_le X ((m : Nat) : Int) 1 dX6_leastTurn_8 21 (by decide) 11 rfl (nI_toInt (by omega)) rfl (fun t8 => ?_) (fun f8 => ?_)
  · skip
    refine g_aload_n X dX6_leastTurn_21 22 rfl rfl ?_
    refine g_callVv (st := []) X cw_X6_87 (c_X6_findLikeTurns h q p m n d (by exact C)) dX6_leastTurn_22 25 rfl (by decide) rfl rfl rfl rfl rfl (by decide) (Nat.le_of_ble_eq_true rfl) ?_
    rintro _ ⟨w6, v6, rfl, hl6⟩
    have hc1 : (ltV q m d tone (h 3) (fun b => grd (h 38) (24 * b))) = scanV (lbP q m d tone (h 3) (fun b => grd (h 38) (24 * b))) q 0 := if_neg (fun z => by have := z.1; omega)
    refine g_iconst X dX6_leastTurn_25 26 rfl (v := (nI (0))) rfl ?_
    refine g_istore_n X (lv' := [(0, .ref (kad K (36))), (1, .int (nI 0))]) dX6_leastTurn_26 27 rfl (by decide) rfl rfl ?_
    have lp27 : ∀ (fu : Nat) (s : Nat) (hs : s ≤ q) (hv : scanV (lbP q m d tone (h 3) (fun b => grd (h 38) (24 * b))) q 0 = scanV (lbP q m d tone (h 3) (fun b => grd (h 38) (24 * b))) (q - s) s), q - s < fu → G 69 XL 2 K (mrow (mrow h 41 w6) 42 v6) 27 [(0, .ref (kad K (36))), (1, .int (nI (s)))] [] := by
      intro fu
      induction fu with
      | zero => intro s hs hv hm; exact absurd hm (Nat.not_lt_zero _)
      | succ fu ih27 =>
        intro s hs hv hm27
        refine g_iload_n X dX6_leastTurn_27 28 rfl rfl ?_
        refine g_aload_n X dX6_leastTurn_28 29 rfl rfl ?_
        refine g_get (c := 36) (k := 0) (T := TX6) (sk := skX36) (v := .ref (kad K (1))) X wf_X6_23 inX6 dX6_leastTurn_29 32 rfl (by decide) rfl rfl (by decide) rfl ?_
        refine g_get (c := 1) (k := 0) (T := TX1) (sk := skX1) (v := .int (nI (q))) X wf_X6_90 inX1 dX6_leastTurn_32 35 rfl (by decide) rfl rfl (by decide) (congrArg Value.int (hq)) ?_
        refine g_icmp_ge X ((s : Nat) : Int) ((q : Nat) : Int) dX6_leastTurn_35 54 (by decide) 38 rfl (nI_toInt (by omega)) (nI_toInt (by omega)) (fun t35 => ?_) (fun f35 => ?_)
        · skip
          refine g_bipush X dX6_leastTurn_54 56 rfl (v := (zI (-4))) rfl ?_
          refine g_iret (h := (mrow (mrow h 41 w6) 42 v6)) (v := (zI (-4))) X Z dX6_leastTurn_56 ?_
          exact ⟨by rw [hc1, hv, show q - s = 0 from by omega]; rfl, _, _, rfl⟩
        · skip
          refine g_aload_n X dX6_leastTurn_38 39 rfl rfl ?_
          refine g_iload_n X dX6_leastTurn_39 40 rfl rfl ?_
          refine g_callVix (st := []) (v := (bI ((lbP q m d tone (h 3) (fun b => grd (h 38) (24 * b))) s = true))) (m2 := (mrow (mrow h 41 w6) 42 v6)) X cw_X6_93 (lt_like h q p m n d C tone s ht ht2 (by omega) w6 v6 hl6) dX6_leastTurn_40 43 rfl (by decide) rfl rfl rfl rfl rfl (by decide) (Nat.le_of_ble_eq_true rfl) ?_
          refine g_ifeq_B X dX6_leastTurn_43 48 (by decide) 46 rfl (fun t43 => ?_) (fun f43 => ?_)
          · skip
            refine g_iinc X (v := (nI (s + 1))) (lv' := [(0, .ref (kad K (36))), (1, .int (nI (s + 1)))]) dX6_leastTurn_48 51 rfl (by decide) rfl (n_inc s 1) rfl rfl ?_
            refine g_goto X dX6_leastTurn_51 27 (by decide) ?_
            skip
            exact ih27 (s + 1) (by omega) (by
                  rw [hv, show q - s = (q - (s + 1)) + 1 from by omega, scanV, if_neg t43]) (by omega)
          · skip
            refine g_iload_n X dX6_leastTurn_46 47 rfl rfl ?_
            refine g_iret (h := (mrow (mrow h 41 w6) 42 v6)) (v := (nI (s))) X Z dX6_leastTurn_47 ?_
            exact ⟨by rw [hc1, hv, show q - s = (q - (s + 1)) + 1 from by omega, scanV, if_pos f43], _, _, rfl⟩
    skip
    exact lp27 _ 0 (by omega) (by rfl) (Nat.lt_succ_self _)
  · skip
    refine g_aload_n X dX6_leastTurn_11 12 rfl rfl ?_
    refine g_callVi (st := []) X cw_X6_83 (c_X6_together h q p m n d C) dX6_leastTurn_12 15 rfl (by decide) rfl rfl rfl rfl rfl (by decide) (Nat.le_of_ble_eq_true rfl) ?_
    rintro _ _ ⟨rfl, w5, rfl⟩
    refine g_ifne_B X dX6_leastTurn_15 21 (by decide) 18 rfl (fun t15 => ?_) (fun f15 => ?_)
    · skip
      refine g_aload_n X dX6_leastTurn_21 22 rfl rfl ?_
      refine g_callVv (st := []) X cw_X6_87 (c_X6_findLikeTurns (mrow h 41 w5) q p m n d (by exact C)) dX6_leastTurn_22 25 rfl (by decide) rfl rfl rfl rfl rfl (by decide) (Nat.le_of_ble_eq_true rfl) ?_
      rintro _ ⟨w6, v6, rfl, hl6⟩
      have hc1 : (ltV q m d tone (h 3) (fun b => grd (h 38) (24 * b))) = scanV (lbP q m d tone (h 3) (fun b => grd (h 38) (24 * b))) q 0 := if_neg (fun z => z.2 t15)
      refine g_mem (h' := (mrow (mrow h 41 w6) 42 v6)) (by rw [mrow_m]) ?_
      refine g_iconst X dX6_leastTurn_25 26 rfl (v := (nI (0))) rfl ?_
      refine g_istore_n X (lv' := [(0, .ref (kad K (36))), (1, .int (nI 0))]) dX6_leastTurn_26 27 rfl (by decide) rfl rfl ?_
      have lp27 : ∀ (fu : Nat) (s : Nat) (hs : s ≤ q) (hv : scanV (lbP q m d tone (h 3) (fun b => grd (h 38) (24 * b))) q 0 = scanV (lbP q m d tone (h 3) (fun b => grd (h 38) (24 * b))) (q - s) s), q - s < fu → G 69 XL 2 K (mrow (mrow h 41 w6) 42 v6) 27 [(0, .ref (kad K (36))), (1, .int (nI (s)))] [] := by
        intro fu
        induction fu with
        | zero => intro s hs hv hm; exact absurd hm (Nat.not_lt_zero _)
        | succ fu ih27 =>
          intro s hs hv hm27
          refine g_iload_n X dX6_leastTurn_27 28 rfl rfl ?_
          refine g_aload_n X dX6_leastTurn_28 29 rfl rfl ?_
          refine g_get (c := 36) (k := 0) (T := TX6) (sk := skX36) (v := .ref (kad K (1))) X wf_X6_23 inX6 dX6_leastTurn_29 32 rfl (by decide) rfl rfl (by decide) rfl ?_
          refine g_get (c := 1) (k := 0) (T := TX1) (sk := skX1) (v := .int (nI (q))) X wf_X6_90 inX1 dX6_leastTurn_32 35 rfl (by decide) rfl rfl (by decide) (congrArg Value.int (hq)) ?_
          refine g_icmp_ge X ((s : Nat) : Int) ((q : Nat) : Int) dX6_leastTurn_35 54 (by decide) 38 rfl (nI_toInt (by omega)) (nI_toInt (by omega)) (fun t35 => ?_) (fun f35 => ?_)
          · skip
            refine g_bipush X dX6_leastTurn_54 56 rfl (v := (zI (-4))) rfl ?_
            refine g_iret (h := (mrow (mrow h 41 w6) 42 v6)) (v := (zI (-4))) X Z dX6_leastTurn_56 ?_
            exact ⟨by rw [hc1, hv, show q - s = 0 from by omega]; rfl, _, _, rfl⟩
          · skip
            refine g_aload_n X dX6_leastTurn_38 39 rfl rfl ?_
            refine g_iload_n X dX6_leastTurn_39 40 rfl rfl ?_
            refine g_callVix (st := []) (v := (bI ((lbP q m d tone (h 3) (fun b => grd (h 38) (24 * b))) s = true))) (m2 := (mrow (mrow h 41 w6) 42 v6)) X cw_X6_93 (lt_like h q p m n d C tone s ht ht2 (by omega) w6 v6 hl6) dX6_leastTurn_40 43 rfl (by decide) rfl rfl rfl rfl rfl (by decide) (Nat.le_of_ble_eq_true rfl) ?_
            refine g_ifeq_B X dX6_leastTurn_43 48 (by decide) 46 rfl (fun t43 => ?_) (fun f43 => ?_)
            · skip
              refine g_iinc X (v := (nI (s + 1))) (lv' := [(0, .ref (kad K (36))), (1, .int (nI (s + 1)))]) dX6_leastTurn_48 51 rfl (by decide) rfl (n_inc s 1) rfl rfl ?_
              refine g_goto X dX6_leastTurn_51 27 (by decide) ?_
              skip
              exact ih27 (s + 1) (by omega) (by
                    rw [hv, show q - s = (q - (s + 1)) + 1 from by omega, scanV, if_neg t43]) (by omega)
            · skip
              refine g_iload_n X dX6_leastTurn_46 47 rfl rfl ?_
              refine g_iret (h := (mrow (mrow h 41 w6) 42 v6)) (v := (nI (s))) X Z dX6_leastTurn_47 ?_
              exact ⟨by rw [hc1, hv, show q - s = (q - (s + 1)) + 1 from by omega, scanV, if_pos f43], _, _, rfl⟩
      skip
      exact lp27 _ 0 (by omega) (by rfl) (Nat.lt_succ_self _)
    · skip
      refine g_bipush X dX6_leastTurn_18 20 rfl (v := (zI (-4))) rfl ?_
      refine g_iret (h := (mrow h 41 w5)) (v := (zI (-4))) X Z dX6_leastTurn_20 ?_
      exact ⟨(if_pos ⟨by omega, f15⟩).symm, w5, h 42, (mrow_id (mrow h 41 w5) 42).symm⟩
