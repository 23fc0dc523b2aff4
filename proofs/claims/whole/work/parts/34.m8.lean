def WD (h gm : Mem) (L : List Nat) (dg : Nat → Nat) : Prop := gm 0 18 = nI L.length ∧ (∀ i, i < L.length → gm 14 i = nI (L.getD i 0)) ∧ (∀ i, i < L.length → gm 16 i = nI (dg i)) ∧ mag h gm [13, 14, 16, 17] [18]
theorem pt_mem {h gm : Mem} {l F : List Nat} {q d p g size : Nat} {cs dg : Nat → Nat} (a : mag h gm l F) (hl : 2 ∉ l ∧ 3 ∉ l ∧ 4 ∉ l ∧ 7 ∉ l) : ptB gm q d p g size cs dg = ptB h q d p g size cs dg := by
  have e : ∀ w, zwB gm q d p cs dg size w = zwB h q d p cs dg size w := by
    intro w
    unfold zwB
    rw [a.1 2 (by decide) hl.1, a.1 3 (by decide) hl.2.1, a.1 4 (by decide) hl.2.2.1, a.1 7 (by decide) hl.2.2.2]
  unfold ptB
  rw [decide_eq_decide]
  exact ⟨fun z => ⟨z.1, fun w hw h1 => (e w).symm.trans (z.2 w hw h1)⟩, fun z => ⟨z.1, fun w hw h1 => (e w).trans (z.2 w hw h1)⟩⟩
theorem wd_pt {h gm x : Mem} {L : List Nat} {dg : Nat → Nat} (D : WD h gm L dg) (a : mag gm x [13, 17] []) : WD h x L dg :=
  ⟨(a.2 18 (by decide)).trans D.1, fun i hi => (congrFun (a.1 14 (by decide) (by decide)) i).trans (D.2.1 i hi), fun i hi => (congrFun (a.1 16 (by decide) (by decide)) i).trans (D.2.2.1 i hi), mag_tr D.2.2.2 (mag_w a (by decide) (by decide))⟩
theorem wd_row {h gm : Mem} {L : List Nat} {dg dg' : Nat → Nat} {F : Nat → Int32} (D : WD h gm L dg) (e : ∀ i, i < L.length → F i = nI (dg' i)) : WD h (mrow gm 16 F) L dg' :=
  ⟨D.1, D.2.1, e, fun c c0 hc => (mrow_n _ _ (fun z => hc (by rw [z]; decide))).trans (D.2.2.2.1 c c0 hc), fun j hj => D.2.2.2.2 j hj⟩
theorem st_post {h gm h7 : Mem} {L : List Nat} {dg : Nat → Nat} {g : Nat} {r : Int32} (D : WD h gm L dg) (hg1 : 1 ≤ g) (hv : ∀ i, i < L.length → dg i < g) (e : Nat) (he : e ≤ L.length) (hz : ∀ i, e ≤ i → i < L.length → dg i = g - 1) (ho : (e = 0 ∧ r = nI 0 ∧ h7 = mrow gm 16 (stF L.length 0 (gm 16))) ∨ (1 ≤ e ∧ dg (e - 1) ≠ g - 1 ∧ r = nI 1 ∧ h7 = mrow gm 16 (upd (stF L.length e (gm 16)) (e - 1) (nI (dg (e - 1) + 1))))) : ∃ (b7 : Bool) (dg7 : Nat → Nat), r = bI (b7 = true) ∧ WD h h7 L dg7 ∧ (b7 = true → (∀ i, i < L.length → dg7 i < g) ∧ vl g dg7 L.length = vl g dg L.length + 1) ∧ (b7 = false → vl g dg L.length + 1 = g ^ L.length) := by
  rcases ho with ⟨e0, hr, h2⟩ | ⟨e1, en, hr, h2⟩
  · refine ⟨false, fun _ => 0, by rw [hr, bI_f (by decide)], ?_, fun z => absurd z (by decide), fun _ => vl_max hg1 _ (fun i hi => hz i (by omega) hi)⟩
    rw [h2]
    exact wd_row D (fun i hi => if_pos ⟨by omega, hi⟩)
  · refine ⟨true, nxt dg e, by rw [hr, bI_t rfl], ?_, fun _ => ⟨fun i hi => ?_, ?_⟩, fun z => absurd z (by decide)⟩
    · rw [h2]
      refine wd_row D (fun i hi => ?_)
      unfold nxt
      by_cases a : i = e - 1
      · rw [a, upd_s, if_neg (by omega), if_pos rfl]
      · rw [upd_n _ _ a]
        unfold stF
        by_cases c : i < e - 1
        · rw [if_neg (by omega), if_pos c, D.2.2.1 i hi]
        · rw [if_pos (by omega), if_neg c, if_neg a]
    · unfold nxt
      have h1 := hv i hi
      by_cases c : i < e - 1
      · rw [if_pos c]; exact h1
      · rw [if_neg c]
        by_cases a : i = e - 1
        · rw [if_pos a, a]
          rw [a] at h1
          omega
        · rw [if_neg a]; omega
    · have y := vl_nxt (dg := dg) hg1 e1 (L.length - e) (fun i a b => hz i a (by omega))
      rwa [show e + (L.length - e) = L.length by omega] at y
def wyQ (h h2 : Mem) (q d p g : Nat) (L : List Nat) (r : Int32) : Prop := (8 < L.length ∧ r = zI (-3) ∧ h2 15 = h 15) ∨ (L.length ≤ 8 ∧ (L.length = 0 ∨ ∀ dg : Nat → Nat, (∀ i, i < L.length → dg i < g) → ptB h q d p g L.length (fun i => L.getD i 0) dg = false) ∧ r = zI (-4) ∧ h2 15 = h 15) ∨ (1 ≤ L.length ∧ L.length ≤ 8 ∧ ∃ dg : Nat → Nat, (∀ i, i < L.length → dg i < g) ∧ ptB h q d p g L.length (fun i => L.getD i 0) dg = true ∧ (∀ dg' : Nat → Nat, (∀ i, i < L.length → dg' i < g) → vl g dg' L.length < vl g dg L.length → ptB h q d p g L.length (fun i => L.getD i 0) dg' = false) ∧ r = nI 1 ∧ h2 15 = kcF (h 15) (fun i => L.getD i 0) dg L.length)
theorem vl_zero (g : Nat) : ∀ k, vl g (fun _ => 0) k = 0
  | 0 => rfl
  | k + 1 => by show vl g (fun _ => 0) k * g + 0 = 0; rw [vl_zero g k, Nat.zero_mul]
set_option maxHeartbeats 1000000 in
set_option maxRecDepth 100000 in
theorem c_M_ways (h : Mem) (q p m n d : Nat) (II : MI h q p m n d) (x0 x1 : Int32) : cI 25 ML yX9_ways cX9_ways 5 (some .int) 2 51 (fun ad => [.ref (ad (0)), .int (x0), .int (x1)]) h (fun r h2 => ((isC m x0 ∧ (1 ≤ x1.toInt ∧ x1.toInt ≤ 4)) → wyQ h h2 q d p (tn x1) (glB (uil (h 1) (h 5) ((tn x0 : Nat) : Int)) n) r) ∧ (¬ (isC m x0 ∧ (1 ≤ x1.toInt ∧ x1.toInt ≤ 4)) → r = zI (-1) ∧ h2 = h) ∧ mag h h2 [13, 14, 15, 16, 17] [18]) := by
  refine cI_of MLW (by decide +kernel) (fun ad => Nat.le_of_ble_eq_true rfl) ?_
  intro K X Z
  obtain ⟨C, hsA, hsB, hpol, hdq, ⟨tz, htz, hto⟩, ⟨pz, hpz, hpk⟩, hshe⟩ := id II
  obtain ⟨hq, hp, hm, hq1, hq2, hp1, hp2, hm1, hm2, hn, hn2, hc, hd, hd1, hd2⟩ := id C
  show G 25 ML 5 K h 0 [(0, .ref (kad K (0))), (1, .int (x0)), (2, .int (x1))] []
  refine g_iload_n X dX9_ways_0 1 rfl rfl ?_
  refine g_i2l X (v := (x0).toInt64) dX9_ways_1 2 rfl rfl ?_
  refine g_lconst X dX9_ways_2 3 rfl (v := (0 : Int64)) rfl ?_
  refine g_aload_n X dX9_ways_3 4 rfl rfl ?_
  refine g_get (c := 0) (k := 2) (T := TX9) (sk := skM0) (v := .int (nI (m))) X wf_X9_16 inX9 dX9_ways_4 7 rfl (by decide) rfl rfl (by decide) (congrArg Value.int (hm)) ?_
  refine g_iconst X dX9_ways_7 8 rfl (v := (nI (1))) rfl ?_
  refine g_isub X (v := (zI (((m : Nat) : Int) - ((1 : Nat) : Int)))) dX9_ways_8 9 rfl (nn_sub m 1) ?_
  refine g_i2l X (v := (zI (((m : Nat) : Int) - ((1 : Nat) : Int))).toInt64) dX9_ways_9 10 rfl rfl ?_
  refine g_callSix (st := []) (v := (bI (0 ≤ (x0).toInt ∧ (x0).toInt ≤ ((m : Nat) : Int) - ((1 : Nat) : Int)))) (m2 := h) X cw_X9_100 (c_M_in h ((x0).toInt64) (0 : Int64) ((zI (((m : Nat) : Int) - ((1 : Nat) : Int))).toInt64) ((x0).toInt) 0 (((m : Nat) : Int) - ((1 : Nat) : Int)) (i64_of rfl) rfl (i64_of (zI_toInt (by omega)))) dX9_ways_10 13 rfl rfl rfl rfl (by decide) (Nat.le_of_ble_eq_true rfl) ?_
  refine g_ifeq_B X dX9_ways_13 28 (by decide) 16 rfl (fun t13 => ?_) (fun f13 => ?_)
  · skip
    refine g_iconst X dX9_ways_28 29 rfl (v := (zI (-1))) rfl ?_
    refine g_iret (h := h) (v := (zI (-1))) X Z dX9_ways_29 ?_
    exact ⟨fun z => absurd z.1 t13, fun _ => ⟨rfl, rfl⟩, mag_rf _ _ _⟩
  · skip
    refine g_iload_n X dX9_ways_16 17 rfl rfl ?_
    refine g_i2l X (v := (x1).toInt64) dX9_ways_17 18 rfl rfl ?_
    refine g_lconst X dX9_ways_18 19 rfl (v := (1 : Int64)) rfl ?_
    refine g_ldc2 X (v := (4)) dX9_ways_19 22 rfl wk_X9_127 ?_
    refine g_callSix (st := []) (v := (bI (1 ≤ (x1).toInt ∧ (x1).toInt ≤ 4))) (m2 := h) X cw_X9_100 (c_M_in h ((x1).toInt64) (1 : Int64) (4 : Int64) ((x1).toInt) 1 4 (i64_of rfl) rfl rfl) dX9_ways_22 25 rfl rfl rfl rfl (by decide) (Nat.le_of_ble_eq_true rfl) ?_
    refine g_ifne_B X dX9_ways_25 30 (by decide) 28 rfl (fun t25 => ?_) (fun f25 => ?_)
    · skip
      obtain ⟨f, hf, rfl⟩ := inR_nat f13
      obtain ⟨g, hg1, hg2, rfl⟩ := inR_3 (a := 1) (b := 4) t25
      have ef : tn (nI f) = f := tn_nI (by omega)
      have eg : tn (nI g) = g := tn_nI (by omega)
      refine g_aload_n X dX9_ways_30 31 rfl rfl ?_
      refine g_iload_n X dX9_ways_31 32 rfl rfl ?_
      refine g_callVvx (st := []) (m2 := (mrow (mup h 0 18 (nI ((glB (uil (h 1) (h 5) ((f : Nat) : Int)) n).length))) 14 (grow (glB (uil (h 1) (h 5) ((f : Nat) : Int)) n) 24 (h 14)))) X cw_X9_179 (c_M_listUsed h q m n (nI (f)) ((f : Nat) : Int) (nI_toInt (by omega)) (by exact hn) hn2 hm2 (by exact hc)) dX9_ways_32 35 rfl (by decide) rfl rfl rfl rfl rfl (by decide) (Nat.le_of_ble_eq_true rfl) ?_
      obtain ⟨L, hL⟩ : ∃ L, L = (glB (uil (h 1) (h 5) ((f : Nat) : Int)) n) := ⟨_, rfl⟩
      rw [← hL]
      have hLl : L.length ≤ n := by rw [hL]; exact glB_len _ _
      have hLm : ∀ i, i < L.length → L.getD i 0 < n := fun i hi => by
        rw [hL] at hi ⊢
        exact (glB_at hi).1
      refine g_aload_n X dX9_ways_35 36 rfl rfl ?_
      refine g_get (c := 0) (k := 18) (T := TX9) (sk := skM0) (v := .int (nI (L.length))) X wf_X9_176 inX9 dX9_ways_36 39 rfl (by decide) rfl rfl (by decide) rfl ?_
      refine g_bipush X dX9_ways_39 41 rfl (v := (nI (8))) rfl ?_
      refine g_icmp_le X ((L.length : Nat) : Int) 8 dX9_ways_41 47 (by decide) 44 rfl (nI_toInt (by omega)) rfl (fun t41 => ?_) (fun f41 => ?_)
      · skip
        have t41 : L.length ≤ 8 := by omega
        refine g_iconst X dX9_ways_47 48 rfl (v := (nI (0))) rfl ?_
        refine g_istore_n X (lv' := [(0, .ref (kad K (0))), (1, .int (nI (f))), (2, .int (nI (g))), (3, .int (nI 0))]) dX9_ways_48 49 rfl (by decide) rfl rfl ?_
        have lp49 : ∀ (fu : Nat) (k : Nat) (hk : k ≤ 8), 8 - k < fu → G 25 ML 5 K (mrow (mrow (mup h 0 18 (nI (L.length))) 14 (grow L 24 (h 14))) 16 (zrK (h 16) k)) 49 [(0, .ref (kad K (0))), (1, .int (nI (f))), (2, .int (nI (g))), (3, .int (nI (k)))] [] := by
          intro fu
          induction fu with
          | zero => intro k hk hm; exact absurd hm (Nat.not_lt_zero _)
          | succ fu ih49 =>
            intro k hk hm49
            refine g_iload_n X dX9_ways_49 50 rfl rfl ?_
            refine g_bipush X dX9_ways_50 52 rfl (v := (nI (8))) rfl ?_
            refine g_icmp_ge X ((k : Nat) : Int) 8 dX9_ways_52 68 (by decide) 55 rfl (nI_toInt (by omega)) rfl (fun t52 => ?_) (fun f52 => ?_)
            · skip
              refine g_aload_n X dX9_ways_68 69 rfl rfl ?_
              refine g_get (c := 0) (k := 18) (T := TX9) (sk := skM0) (v := .int (nI (L.length))) X wf_X9_176 inX9 dX9_ways_69 72 rfl (by decide) rfl rfl (by decide) rfl ?_
              refine g_if_le X ((L.length : Nat) : Int) dX9_ways_72 79 (by decide) 75 rfl (nI_toInt (by omega)) (fun t72 => ?_) (fun f72 => ?_)
              · skip
                refine g_iconst X dX9_ways_79 80 rfl (v := (nI (0))) rfl ?_
                obtain ⟨g0, hg0⟩ : ∃ g0 : Mem, g0 = (mrow (mrow (mup h 0 18 (nI (L.length))) 14 (grow L 24 (h 14))) 16 (zrK (h 16) k)) := ⟨_, rfl⟩
                rw [← hg0]
                have hD0 : WD h g0 L (fun _ => 0) := by
                  rw [hg0]
                  refine ⟨rfl, fun i hi => grow_at hi (by omega), fun i hi => if_pos (by omega), fun c c0 hc => ?_, fun j hj => (list_mag h (nI L.length) (grow L 24 (h 14))).2 j hj⟩
                  rw [mrow_n _ _ (fun z => hc (by rw [z]; decide))]
                  exact (mag_w (l' := [13, 14, 16, 17]) (F' := [18]) (list_mag h _ _) (by decide) (by decide)).1 c c0 hc
                refine g_eq (st' := [.int (bI (decide (0 < L.length) = true))]) rfl rfl (by rw [bI_f (fun z => absurd (of_decide_eq_true z) (by omega))]) ?_
                refine g_istore_n X (lv' := [(0, .ref (kad K (0))), (1, .int (nI (f))), (2, .int (nI (g))), (3, .int (bI (decide (0 < L.length) = true)))]) dX9_ways_80 81 rfl (by decide) rfl rfl ?_
                have lp81 : ∀ (fu : Nat) (gm : Mem) (dg : Nat → Nat) (b : Bool) (t : Nat) (hD : WD h gm L dg) (hdv : b = true → ∀ i, i < L.length → dg i < g) (hlo : b = true → 1 ≤ L.length ∧ ∀ dg' : Nat → Nat, (∀ i, i < L.length → dg' i < g) → vl g dg' L.length < vl g dg L.length → ptB h q d p g L.length (fun i => L.getD i 0) dg' = false) (hfin : b = false → L.length = 0 ∨ ∀ dg' : Nat → Nat, (∀ i, i < L.length → dg' i < g) → ptB h q d p g L.length (fun i => L.getD i 0) dg' = false) (ht : b = true → t + vl g dg L.length = g ^ L.length), t < fu → G 25 ML 5 K gm 81 [(0, .ref (kad K (0))), (1, .int (nI (f))), (2, .int (nI (g))), (3, .int (bI (b = true)))] [] := by
                  intro fu
                  induction fu with
                  | zero => intro gm dg b t hD hdv hlo hfin ht hm; exact absurd hm (Nat.not_lt_zero _)
                  | succ fu ih81 =>
                    intro gm dg b t hD hdv hlo hfin ht hm81
                    refine g_iload_n X dX9_ways_81 82 rfl rfl ?_
                    refine g_ifeq_B X dX9_ways_82 102 (by decide) 85 rfl (fun t82 => ?_) (fun f82 => ?_)
                    · skip
                      refine g_iload_n X dX9_ways_102 103 rfl rfl ?_
                      refine g_ifne_B X dX9_ways_103 109 (by decide) 106 rfl (fun t103 => ?_) (fun f103 => ?_)
                      · skip
                        have hpt : ptB h q d p g L.length (fun i => L.getD i 0) dg = true := absurd t103 t82
                        obtain ⟨gz, hgz⟩ : ∃ gz : Mem, gz = gm := ⟨_, rfl⟩
                        rw [← hgz]
                        have hDz : WD h gz L dg := by
                          rw [hgz]
                          exact hD
                        refine g_iconst X dX9_ways_109 110 rfl (v := (nI (0))) rfl ?_
                        refine g_istore X (lv' := [(0, .ref (kad K (0))), (1, .int (nI (f))), (2, .int (nI (g))), (3, .int (bI (b = true))), (4, .int (nI 0))]) dX9_ways_110 112 rfl (by decide) rfl rfl ?_
                        have lp112 : ∀ (fu : Nat) (k : Nat) (hk9 : k ≤ 24), 24 - k < fu → G 25 ML 5 K (mrow gz 15 (ngK (gz 15) k)) 112 [(0, .ref (kad K (0))), (1, .int (nI (f))), (2, .int (nI (g))), (3, .int (bI (b = true))), (4, .int (nI (k)))] [] := by
                          intro fu
                          induction fu with
                          | zero => intro k hk9 hm; exact absurd hm (Nat.not_lt_zero _)
                          | succ fu ih112 =>
                            intro k hk9 hm112
                            refine g_iload X dX9_ways_112 114 rfl rfl ?_
                            refine g_bipush X dX9_ways_114 116 rfl (v := (nI (24))) rfl ?_
                            refine g_icmp_ge X ((k : Nat) : Int) 24 dX9_ways_116 134 (by decide) 119 rfl (nI_toInt (by omega)) rfl (fun t116 => ?_) (fun f116 => ?_)
                            · skip
                              refine g_iconst X dX9_ways_134 135 rfl (v := (nI (0))) rfl ?_
                              refine g_istore X (lv' := [(0, .ref (kad K (0))), (1, .int (nI (f))), (2, .int (nI (g))), (3, .int (bI (b = true))), (4, .int (nI 0))]) dX9_ways_135 137 rfl (by decide) rfl rfl ?_
                              have lp137 : ∀ (fu : Nat) (j : Nat) (hj : j ≤ L.length), L.length - j < fu → G 25 ML 5 K (mrow gz 15 (kcF (gz 15) (fun i => L.getD i 0) dg j)) 137 [(0, .ref (kad K (0))), (1, .int (nI (f))), (2, .int (nI (g))), (3, .int (bI (b = true))), (4, .int (nI (j)))] [] := by
                                intro fu
                                induction fu with
                                | zero => intro j hj hm; exact absurd hm (Nat.not_lt_zero _)
                                | succ fu ih137 =>
                                  intro j hj hm137
                                  refine g_iload X dX9_ways_137 139 rfl rfl ?_
                                  refine g_aload_n X dX9_ways_139 140 rfl rfl ?_
                                  refine g_get (c := 0) (k := 18) (T := TX9) (sk := skM0) (v := .int (nI (L.length))) X wf_X9_176 inX9 dX9_ways_140 143 rfl (by decide) rfl rfl (by decide) (congrArg Value.int (hDz.1)) ?_
                                  refine g_icmp_ge X ((j : Nat) : Int) ((L.length : Nat) : Int) dX9_ways_143 171 (by decide) 146 rfl (nI_toInt (by omega)) (nI_toInt (by omega)) (fun t143 => ?_) (fun f143 => ?_)
                                  · skip
                                    refine g_iconst X dX9_ways_171 172 rfl (v := (nI (1))) rfl ?_
                                    refine g_iret (h := (mrow gz 15 (kcF (gz 15) (fun i => L.getD i 0) dg j))) (v := (nI (1))) X Z dX9_ways_172 ?_
                                    exact ⟨fun _ => by rw [ef, eg, ← hL]; exact Or.inr (Or.inr ⟨(hlo t103).1, t41, dg, hdv t103, hpt, (hlo t103).2, rfl, by rw [show j = L.length from by omega, mrow_s, hDz.2.2.2.1 15 (by decide) (by decide)]⟩), fun z => absurd ⟨f13, t25⟩ z, mag_w (show mag h _ [13, 14, 15, 16, 17] [18] from ⟨fun c c0 hc => (mrow_n _ _ (fun z => hc (by rw [z]; decide))).trans (hDz.2.2.2.1 c c0 (fun z => hc (by simp at z ⊢; omega))), fun j hj => hDz.2.2.2.2 j hj⟩) (by decide) (by decide)⟩
                                  · skip
                                    have ha9 := hLm j (by omega)
                                    refine g_aload_n X dX9_ways_146 147 rfl rfl ?_
                                    refine g_get (c := 0) (k := 20) (T := TX9) (sk := skM0) (v := .ref (kad K (15))) X wf_X9_63 inX9 dX9_ways_147 150 rfl (by decide) rfl rfl (by decide) rfl ?_
                                    refine g_aload_n X dX9_ways_150 151 rfl rfl ?_
                                    refine g_get (c := 0) (k := 19) (T := TX9) (sk := skM0) (v := .ref (kad K (14))) X wf_X9_60 inX9 dX9_ways_151 154 rfl (by decide) rfl rfl (by decide) rfl ?_
                                    refine g_iload X dX9_ways_154 156 rfl rfl ?_
                                    refine g_iald (c := 14) (n := 24) (r := 14) (o := 0) (i := j) (v := (nI (L.getD j 0))) X dX9_ways_156 157 rfl (by decide) rfl rfl (by omega) (hDz.2.1 _ (by omega)) ?_
                                    refine g_aload_n X dX9_ways_157 158 rfl rfl ?_
                                    refine g_get (c := 0) (k := 21) (T := TX9) (sk := skM0) (v := .ref (kad K (16))) X wf_X9_66 inX9 dX9_ways_158 161 rfl (by decide) rfl rfl (by decide) rfl ?_
                                    refine g_iload X dX9_ways_161 163 rfl rfl ?_
                                    refine g_iald (c := 16) (n := 8) (r := 16) (o := 0) (i := j) (v := (nI (dg j))) X dX9_ways_163 164 rfl (by decide) rfl rfl (by omega) (hDz.2.2.1 _ (by omega)) ?_
                                    refine g_iast (c := 15) (n := 24) (r := 15) (o := 0) (i := L.getD j 0) X dX9_ways_164 165 rfl (by decide) rfl rfl (by omega) ?_
                                    refine g_iinc X (v := (nI (j + 1))) (lv' := [(0, .ref (kad K (0))), (1, .int (nI (f))), (2, .int (nI (g))), (3, .int (bI (b = true))), (4, .int (nI (j + 1)))]) dX9_ways_165 168 rfl (by decide) rfl (n_inc j 1) rfl rfl ?_
                                    refine g_goto X dX9_ways_168 137 (by decide) ?_
                                    skip
                                    refine g_mem (h := (mup (mrow gz 15 (kcF (gz 15) (fun i => L.getD i 0) dg j)) 15 (L.getD j 0) (nI (dg j)))) (h' := (mrow gz 15 (kcF (gz 15) (fun i => L.getD i 0) dg (j + 1)))) (by rw [mup_m]; rfl) ?_
                                    exact ih137 (j + 1) (by omega) (by omega)
                              skip
                              refine g_mem (h := (mrow gz 15 (ngK (gz 15) k))) (h' := (mrow gz 15 (kcF (gz 15) (fun i => L.getD i 0) dg 0))) (by rw [show k = 24 from by omega]; rfl) ?_
                              exact lp137 _ 0 (by omega) (Nat.lt_succ_self _)
                            · skip
                              refine g_aload_n X dX9_ways_119 120 rfl rfl ?_
                              refine g_get (c := 0) (k := 20) (T := TX9) (sk := skM0) (v := .ref (kad K (15))) X wf_X9_63 inX9 dX9_ways_120 123 rfl (by decide) rfl rfl (by decide) rfl ?_
                              refine g_iload X dX9_ways_123 125 rfl rfl ?_
                              refine g_bipush X dX9_ways_125 127 rfl (v := (zI (-4))) rfl ?_
                              refine g_iast (c := 15) (n := 24) (r := 15) (o := 0) (i := k) X dX9_ways_127 128 rfl (by decide) rfl rfl (by omega) ?_
                              refine g_iinc X (v := (nI (k + 1))) (lv' := [(0, .ref (kad K (0))), (1, .int (nI (f))), (2, .int (nI (g))), (3, .int (bI (b = true))), (4, .int (nI (k + 1)))]) dX9_ways_128 131 rfl (by decide) rfl (n_inc k 1) rfl rfl ?_
                              refine g_goto X dX9_ways_131 112 (by decide) ?_
                              skip
                              refine g_mem (h := (mup (mrow gz 15 (ngK (gz 15) k)) 15 k (zI (-4)))) (h' := (mrow gz 15 (ngK (gz 15) (k + 1)))) (by rw [mup_m, ngK_s]) ?_
                              exact ih112 (k + 1) (by omega) (by omega)
                        skip
                        refine g_mem (h := gz) (h' := (mrow gz 15 (ngK (gz 15) 0))) (by rw [ngK_0]; exact (mrow_id _ 15).symm) ?_
                        exact lp112 _ 0 (by omega) (Nat.lt_succ_self _)
                      · skip
                        refine g_bipush X dX9_ways_106 108 rfl (v := (zI (-4))) rfl ?_
                        refine g_iret (h := gm) (v := (zI (-4))) X Z dX9_ways_108 ?_
                        exact ⟨fun _ => by rw [ef, eg, ← hL]; exact Or.inr (Or.inl ⟨t41, hfin (Bool.eq_false_iff.mpr t82), rfl, hD.2.2.2.1 15 (by decide) (by decide)⟩), fun z => absurd ⟨f13, t25⟩ z, mag_w hD.2.2.2 (by decide) (by decide)⟩
                    · skip
                      refine g_aload_n X dX9_ways_85 86 rfl rfl ?_
                      refine g_iload_n X dX9_ways_86 87 rfl rfl ?_
                      refine g_callVi (st := []) X cw_X9_183 (c_M_isParting gm q p m n d (mag_MC C hD.2.2.2 (by decide) (by decide)) L.length g (fun i => L.getD i 0) dg hD.1 t41 hg1 hg2 (fun i hi => ⟨hD.2.1 i hi, hLm i hi⟩) (fun i hi => ⟨hD.2.2.1 i hi, hdv f82 i hi⟩)) dX9_ways_87 90 rfl (by decide) rfl rfl rfl rfl rfl (by decide) (Nat.le_of_ble_eq_true rfl) ?_
                      rintro r8 h8 ⟨rfl, hE8⟩
                      refine g_ifne_B X dX9_ways_90 102 (by decide) 93 rfl (fun t90 => ?_) (fun f90 => ?_)
                      · skip
                        refine g_iload_n X dX9_ways_102 103 rfl rfl ?_
                        refine g_ifne_B X dX9_ways_103 109 (by decide) 106 rfl (fun t103 => ?_) (fun f103 => ?_)
                        · skip
                          have hpt : ptB h q d p g L.length (fun i => L.getD i 0) dg = true := (pt_mem hD.2.2.2 (by decide)).symm.trans t90
                          obtain ⟨gz, hgz⟩ : ∃ gz : Mem, gz = h8 := ⟨_, rfl⟩
                          rw [← hgz]
                          have hDz : WD h gz L dg := by
                            rw [hgz]
                            exact wd_pt hD hE8
                          refine g_iconst X dX9_ways_109 110 rfl (v := (nI (0))) rfl ?_
                          refine g_istore X (lv' := [(0, .ref (kad K (0))), (1, .int (nI (f))), (2, .int (nI (g))), (3, .int (bI (b = true))), (4, .int (nI 0))]) dX9_ways_110 112 rfl (by decide) rfl rfl ?_
                          have lp112 : ∀ (fu : Nat) (k : Nat) (hk9 : k ≤ 24), 24 - k < fu → G 25 ML 5 K (mrow gz 15 (ngK (gz 15) k)) 112 [(0, .ref (kad K (0))), (1, .int (nI (f))), (2, .int (nI (g))), (3, .int (bI (b = true))), (4, .int (nI (k)))] [] := by
                            intro fu
                            induction fu with
                            | zero => intro k hk9 hm; exact absurd hm (Nat.not_lt_zero _)
                            | succ fu ih112 =>
                              intro k hk9 hm112
                              refine g_iload X dX9_ways_112 114 rfl rfl ?_
                              refine g_bipush X dX9_ways_114 116 rfl (v := (nI (24))) rfl ?_
                              refine g_icmp_ge X ((k : Nat) : Int) 24 dX9_ways_116 134 (by decide) 119 rfl (nI_toInt (by omega)) rfl (fun t116 => ?_) (fun f116 => ?_)
                              · skip
                                refine g_iconst X dX9_ways_134 135 rfl (v := (nI (0))) rfl ?_
                                refine g_istore X (lv' := [(0, .ref (kad K (0))), (1, .int (nI (f))), (2, .int (nI (g))), (3, .int (bI (b = true))), (4, .int (nI 0))]) dX9_ways_135 137 rfl (by decide) rfl rfl ?_
                                have lp137 : ∀ (fu : Nat) (j : Nat) (hj : j ≤ L.length), L.length - j < fu → G 25 ML 5 K (mrow gz 15 (kcF (gz 15) (fun i => L.getD i 0) dg j)) 137 [(0, .ref (kad K (0))), (1, .int (nI (f))), (2, .int (nI (g))), (3, .int (bI (b = true))), (4, .int (nI (j)))] [] := by
                                  intro fu
                                  induction fu with
                                  | zero => intro j hj hm; exact absurd hm (Nat.not_lt_zero _)
                                  | succ fu ih137 =>
                                    intro j hj hm137
                                    refine g_iload X dX9_ways_137 139 rfl rfl ?_
                                    refine g_aload_n X dX9_ways_139 140 rfl rfl ?_
                                    refine g_get (c := 0) (k := 18) (T := TX9) (sk := skM0) (v := .int (nI (L.length))) X wf_X9_176 inX9 dX9_ways_140 143 rfl (by decide) rfl rfl (by decide) (congrArg Value.int (hDz.1)) ?_
                                    refine g_icmp_ge X ((j : Nat) : Int) ((L.length : Nat) : Int) dX9_ways_143 171 (by decide) 146 rfl (nI_toInt (by omega)) (nI_toInt (by omega)) (fun t143 => ?_) (fun f143 => ?_)
                                    · skip
                                      refine g_iconst X dX9_ways_171 172 rfl (v := (nI (1))) rfl ?_
                                      refine g_iret (h := (mrow gz 15 (kcF (gz 15) (fun i => L.getD i 0) dg j))) (v := (nI (1))) X Z dX9_ways_172 ?_
                                      exact ⟨fun _ => by rw [ef, eg, ← hL]; exact Or.inr (Or.inr ⟨(hlo t103).1, t41, dg, hdv t103, hpt, (hlo t103).2, rfl, by rw [show j = L.length from by omega, mrow_s, hDz.2.2.2.1 15 (by decide) (by decide)]⟩), fun z => absurd ⟨f13, t25⟩ z, mag_w (show mag h _ [13, 14, 15, 16, 17] [18] from ⟨fun c c0 hc => (mrow_n _ _ (fun z => hc (by rw [z]; decide))).trans (hDz.2.2.2.1 c c0 (fun z => hc (by simp at z ⊢; omega))), fun j hj => hDz.2.2.2.2 j hj⟩) (by decide) (by decide)⟩
                                    · skip
                                      have ha9 := hLm j (by omega)
                                      refine g_aload_n X dX9_ways_146 147 rfl rfl ?_
                                      refine g_get (c := 0) (k := 20) (T := TX9) (sk := skM0) (v := .ref (kad K (15))) X wf_X9_63 inX9 dX9_ways_147 150 rfl (by decide) rfl rfl (by decide) rfl ?_
                                      refine g_aload_n X dX9_ways_150 151 rfl rfl ?_
                                      refine g_get (c := 0) (k := 19) (T := TX9) (sk := skM0) (v := .ref (kad K (14))) X wf_X9_60 inX9 dX9_ways_151 154 rfl (by decide) rfl rfl (by decide) rfl ?_
                                      refine g_iload X dX9_ways_154 156 rfl rfl ?_
                                      refine g_iald (c := 14) (n := 24) (r := 14) (o := 0) (i := j) (v := (nI (L.getD j 0))) X dX9_ways_156 157 rfl (by decide) rfl rfl (by omega) (hDz.2.1 _ (by omega)) ?_
                                      refine g_aload_n X dX9_ways_157 158 rfl rfl ?_
                                      refine g_get (c := 0) (k := 21) (T := TX9) (sk := skM0) (v := .ref (kad K (16))) X wf_X9_66 inX9 dX9_ways_158 161 rfl (by decide) rfl rfl (by decide) rfl ?_
                                      refine g_iload X dX9_ways_161 163 rfl rfl ?_
                                      refine g_iald (c := 16) (n := 8) (r := 16) (o := 0) (i := j) (v := (nI (dg j))) X dX9_ways_163 164 rfl (by decide) rfl rfl (by omega) (hDz.2.2.1 _ (by omega)) ?_
                                      refine g_iast (c := 15) (n := 24) (r := 15) (o := 0) (i := L.getD j 0) X dX9_ways_164 165 rfl (by decide) rfl rfl (by omega) ?_
                                      refine g_iinc X (v := (nI (j + 1))) (lv' := [(0, .ref (kad K (0))), (1, .int (nI (f))), (2, .int (nI (g))), (3, .int (bI (b = true))), (4, .int (nI (j + 1)))]) dX9_ways_165 168 rfl (by decide) rfl (n_inc j 1) rfl rfl ?_
                                      refine g_goto X dX9_ways_168 137 (by decide) ?_
                                      skip
                                      refine g_mem (h := (mup (mrow gz 15 (kcF (gz 15) (fun i => L.getD i 0) dg j)) 15 (L.getD j 0) (nI (dg j)))) (h' := (mrow gz 15 (kcF (gz 15) (fun i => L.getD i 0) dg (j + 1)))) (by rw [mup_m]; rfl) ?_
                                      exact ih137 (j + 1) (by omega) (by omega)
                                skip
                                refine g_mem (h := (mrow gz 15 (ngK (gz 15) k))) (h' := (mrow gz 15 (kcF (gz 15) (fun i => L.getD i 0) dg 0))) (by rw [show k = 24 from by omega]; rfl) ?_
                                exact lp137 _ 0 (by omega) (Nat.lt_succ_self _)
                              · skip
                                refine g_aload_n X dX9_ways_119 120 rfl rfl ?_
                                refine g_get (c := 0) (k := 20) (T := TX9) (sk := skM0) (v := .ref (kad K (15))) X wf_X9_63 inX9 dX9_ways_120 123 rfl (by decide) rfl rfl (by decide) rfl ?_
                                refine g_iload X dX9_ways_123 125 rfl rfl ?_
                                refine g_bipush X dX9_ways_125 127 rfl (v := (zI (-4))) rfl ?_
                                refine g_iast (c := 15) (n := 24) (r := 15) (o := 0) (i := k) X dX9_ways_127 128 rfl (by decide) rfl rfl (by omega) ?_
                                refine g_iinc X (v := (nI (k + 1))) (lv' := [(0, .ref (kad K (0))), (1, .int (nI (f))), (2, .int (nI (g))), (3, .int (bI (b = true))), (4, .int (nI (k + 1)))]) dX9_ways_128 131 rfl (by decide) rfl (n_inc k 1) rfl rfl ?_
                                refine g_goto X dX9_ways_131 112 (by decide) ?_
                                skip
                                refine g_mem (h := (mup (mrow gz 15 (ngK (gz 15) k)) 15 k (zI (-4)))) (h' := (mrow gz 15 (ngK (gz 15) (k + 1)))) (by rw [mup_m, ngK_s]) ?_
                                exact ih112 (k + 1) (by omega) (by omega)
                          skip
                          refine g_mem (h := gz) (h' := (mrow gz 15 (ngK (gz 15) 0))) (by rw [ngK_0]; exact (mrow_id _ 15).symm) ?_
                          exact lp112 _ 0 (by omega) (Nat.lt_succ_self _)
                        · skip
                          refine g_bipush X dX9_ways_106 108 rfl (v := (zI (-4))) rfl ?_
                          refine g_iret (h := h8) (v := (zI (-4))) X Z dX9_ways_108 ?_
                          exact absurd f82 f103
                      · skip
                        have hD8 : WD h h8 L dg := wd_pt hD hE8
                        have hvl := vl_lt (g := g) (a := dg) L.length (hdv f82)
                        have htt := ht f82
                        have hpf : ptB h q d p g L.length (fun i => L.getD i 0) dg = false := by
                          rw [← pt_mem hD.2.2.2 (by decide)]
                          exact Bool.eq_false_iff.mpr f90
                        have hno : ∀ dg' : Nat → Nat, (∀ i, i < L.length → dg' i < g) → vl g dg' L.length ≤ vl g dg L.length → ptB h q d p g L.length (fun i => L.getD i 0) dg' = false := fun dg' hv' hl' => by
                          rcases Nat.lt_or_eq_of_le hl' with y | y
                          · exact (hlo f82).2 dg' hv' y
                          · rw [pt_congr hq1 hq2 (vl_inj L.length hv' (hdv f82) y)]; exact hpf
                        refine g_aload_n X dX9_ways_93 94 rfl rfl ?_
                        refine g_iload_n X dX9_ways_94 95 rfl rfl ?_
                        refine g_callVi (st := []) X cw_X9_186 (c_M_step h8 n L.length g (fun i => L.getD i 0) dg hD8.1 t41 hg1 hg2 (fun i hi => ⟨hD8.2.1 i hi, hLm i hi⟩) (fun i hi => ⟨hD8.2.2.1 i hi, hdv f82 i hi⟩)) dX9_ways_95 98 rfl (by decide) rfl rfl rfl rfl rfl (by decide) (Nat.le_of_ble_eq_true rfl) ?_
                        rintro r7 h7 ⟨e, he, hz, ho⟩
                        obtain ⟨b7, dg7, rfl, hD7, hb7, hc7⟩ := st_post hD8 hg1 (hdv f82) e he hz ho
                        refine g_istore_n X (lv' := [(0, .ref (kad K (0))), (1, .int (nI (f))), (2, .int (nI (g))), (3, .int (bI (b7 = true)))]) dX9_ways_98 99 rfl (by decide) rfl rfl ?_
                        refine g_goto X dX9_ways_99 81 (by decide) ?_
                        skip
                        exact ih81 h7 dg7 b7 (t - 1) hD7 (fun z => (hb7 z).1) (fun z => ⟨(hlo f82).1, fun dg' hv' hl' => hno dg' hv' (by have := (hb7 z).2; omega)⟩) (fun z => Or.inr (fun dg' hv' => hno dg' hv' (by have y := vl_lt (g := g) (a := dg') L.length hv'; have := hc7 z; omega))) (fun z => by have := (hb7 z).2; omega) (by omega)
                skip
                refine g_mem (h := g0) (h' := g0) rfl ?_
                exact lp81 _ g0 (fun _ => 0) (decide (0 < L.length)) (g ^ L.length - vl g (fun _ => 0) L.length) hD0 (fun _ i hi => by omega) (fun z => ⟨of_decide_eq_true z, fun dg' hv' hl' => absurd hl' (by rw [vl_zero]; omega)⟩) (fun z => Or.inl (by have y := of_decide_eq_false z; omega)) (fun z => by rw [vl_zero]; omega) (Nat.lt_succ_self _)
              · skip
                refine g_iconst X dX9_ways_75 76 rfl (v := (nI (1))) rfl ?_
                refine g_goto X dX9_ways_76 80 (by decide) ?_
                obtain ⟨g0, hg0⟩ : ∃ g0 : Mem, g0 = (mrow (mrow (mup h 0 18 (nI (L.length))) 14 (grow L 24 (h 14))) 16 (zrK (h 16) k)) := ⟨_, rfl⟩
                rw [← hg0]
                have hD0 : WD h g0 L (fun _ => 0) := by
                  rw [hg0]
                  refine ⟨rfl, fun i hi => grow_at hi (by omega), fun i hi => if_pos (by omega), fun c c0 hc => ?_, fun j hj => (list_mag h (nI L.length) (grow L 24 (h 14))).2 j hj⟩
                  rw [mrow_n _ _ (fun z => hc (by rw [z]; decide))]
                  exact (mag_w (l' := [13, 14, 16, 17]) (F' := [18]) (list_mag h _ _) (by decide) (by decide)).1 c c0 hc
                refine g_eq (st' := [.int (bI (decide (0 < L.length) = true))]) rfl rfl (by rw [bI_t (decide_eq_true (by omega))]) ?_
                refine g_istore_n X (lv' := [(0, .ref (kad K (0))), (1, .int (nI (f))), (2, .int (nI (g))), (3, .int (bI (decide (0 < L.length) = true)))]) dX9_ways_80 81 rfl (by decide) rfl rfl ?_
                have lp81 : ∀ (fu : Nat) (gm : Mem) (dg : Nat → Nat) (b : Bool) (t : Nat) (hD : WD h gm L dg) (hdv : b = true → ∀ i, i < L.length → dg i < g) (hlo : b = true → 1 ≤ L.length ∧ ∀ dg' : Nat → Nat, (∀ i, i < L.length → dg' i < g) → vl g dg' L.length < vl g dg L.length → ptB h q d p g L.length (fun i => L.getD i 0) dg' = false) (hfin : b = false → L.length = 0 ∨ ∀ dg' : Nat → Nat, (∀ i, i < L.length → dg' i < g) → ptB h q d p g L.length (fun i => L.getD i 0) dg' = false) (ht : b = true → t + vl g dg L.length = g ^ L.length), t < fu → G 25 ML 5 K gm 81 [(0, .ref (kad K (0))), (1, .int (nI (f))), (2, .int (nI (g))), (3, .int (bI (b = true)))] [] := by
                  intro fu
                  induction fu with
                  | zero => intro gm dg b t hD hdv hlo hfin ht hm; exact absurd hm (Nat.not_lt_zero _)
                  | succ fu ih81 =>
                    intro gm dg b t hD hdv hlo hfin ht hm81
                    refine g_iload_n X dX9_ways_81 82 rfl rfl ?_
                    refine g_ifeq_B X dX9_ways_82 102 (by decide) 85 rfl (fun t82 => ?_) (fun f82 => ?_)
                    · skip
                      refine g_iload_n X dX9_ways_102 103 rfl rfl ?_
                      refine g_ifne_B X dX9_ways_103 109 (by decide) 106 rfl (fun t103 => ?_) (fun f103 => ?_)
                      · skip
                        have hpt : ptB h q d p g L.length (fun i => L.getD i 0) dg = true := absurd t103 t82
                        obtain ⟨gz, hgz⟩ : ∃ gz : Mem, gz = gm := ⟨_, rfl⟩
                        rw [← hgz]
                        have hDz : WD h gz L dg := by
                          rw [hgz]
                          exact hD
                        refine g_iconst X dX9_ways_109 110 rfl (v := (nI (0))) rfl ?_
                        refine g_istore X (lv' := [(0, .ref (kad K (0))), (1, .int (nI (f))), (2, .int (nI (g))), (3, .int (bI (b = true))), (4, .int (nI 0))]) dX9_ways_110 112 rfl (by decide) rfl rfl ?_
                        have lp112 : ∀ (fu : Nat) (k : Nat) (hk9 : k ≤ 24), 24 - k < fu → G 25 ML 5 K (mrow gz 15 (ngK (gz 15) k)) 112 [(0, .ref (kad K (0))), (1, .int (nI (f))), (2, .int (nI (g))), (3, .int (bI (b = true))), (4, .int (nI (k)))] [] := by
                          intro fu
                          induction fu with
                          | zero => intro k hk9 hm; exact absurd hm (Nat.not_lt_zero _)
                          | succ fu ih112 =>
                            intro k hk9 hm112
                            refine g_iload X dX9_ways_112 114 rfl rfl ?_
                            refine g_bipush X dX9_ways_114 116 rfl (v := (nI (24))) rfl ?_
                            refine g_icmp_ge X ((k : Nat) : Int) 24 dX9_ways_116 134 (by decide) 119 rfl (nI_toInt (by omega)) rfl (fun t116 => ?_) (fun f116 => ?_)
                            · skip
                              refine g_iconst X dX9_ways_134 135 rfl (v := (nI (0))) rfl ?_
                              refine g_istore X (lv' := [(0, .ref (kad K (0))), (1, .int (nI (f))), (2, .int (nI (g))), (3, .int (bI (b = true))), (4, .int (nI 0))]) dX9_ways_135 137 rfl (by decide) rfl rfl ?_
                              have lp137 : ∀ (fu : Nat) (j : Nat) (hj : j ≤ L.length), L.length - j < fu → G 25 ML 5 K (mrow gz 15 (kcF (gz 15) (fun i => L.getD i 0) dg j)) 137 [(0, .ref (kad K (0))), (1, .int (nI (f))), (2, .int (nI (g))), (3, .int (bI (b = true))), (4, .int (nI (j)))] [] := by
                                intro fu
                                induction fu with
                                | zero => intro j hj hm; exact absurd hm (Nat.not_lt_zero _)
                                | succ fu ih137 =>
                                  intro j hj hm137
                                  refine g_iload X dX9_ways_137 139 rfl rfl ?_
                                  refine g_aload_n X dX9_ways_139 140 rfl rfl ?_
                                  refine g_get (c := 0) (k := 18) (T := TX9) (sk := skM0) (v := .int (nI (L.length))) X wf_X9_176 inX9 dX9_ways_140 143 rfl (by decide) rfl rfl (by decide) (congrArg Value.int (hDz.1)) ?_
                                  refine g_icmp_ge X ((j : Nat) : Int) ((L.length : Nat) : Int) dX9_ways_143 171 (by decide) 146 rfl (nI_toInt (by omega)) (nI_toInt (by omega)) (fun t143 => ?_) (fun f143 => ?_)
                                  · skip
                                    refine g_iconst X dX9_ways_171 172 rfl (v := (nI (1))) rfl ?_
                                    refine g_iret (h := (mrow gz 15 (kcF (gz 15) (fun i => L.getD i 0) dg j))) (v := (nI (1))) X Z dX9_ways_172 ?_
                                    exact ⟨fun _ => by rw [ef, eg, ← hL]; exact Or.inr (Or.inr ⟨(hlo t103).1, t41, dg, hdv t103, hpt, (hlo t103).2, rfl, by rw [show j = L.length from by omega, mrow_s, hDz.2.2.2.1 15 (by decide) (by decide)]⟩), fun z => absurd ⟨f13, t25⟩ z, mag_w (show mag h _ [13, 14, 15, 16, 17] [18] from ⟨fun c c0 hc => (mrow_n _ _ (fun z => hc (by rw [z]; decide))).trans (hDz.2.2.2.1 c c0 (fun z => hc (by simp at z ⊢; omega))), fun j hj => hDz.2.2.2.2 j hj⟩) (by decide) (by decide)⟩
                                  · skip
                                    have ha9 := hLm j (by omega)
                                    refine g_aload_n X dX9_ways_146 147 rfl rfl ?_
                                    refine g_get (c := 0) (k := 20) (T := TX9) (sk := skM0) (v := .ref (kad K (15))) X wf_X9_63 inX9 dX9_ways_147 150 rfl (by decide) rfl rfl (by decide) rfl ?_
                                    refine g_aload_n X dX9_ways_150 151 rfl rfl ?_
                                    refine g_get (c := 0) (k := 19) (T := TX9) (sk := skM0) (v := .ref (kad K (14))) X wf_X9_60 inX9 dX9_ways_151 154 rfl (by decide) rfl rfl (by decide) rfl ?_
                                    refine g_iload X dX9_ways_154 156 rfl rfl ?_
                                    refine g_iald (c := 14) (n := 24) (r := 14) (o := 0) (i := j) (v := (nI (L.getD j 0))) X dX9_ways_156 157 rfl (by decide) rfl rfl (by omega) (hDz.2.1 _ (by omega)) ?_
                                    refine g_aload_n X dX9_ways_157 158 rfl rfl ?_
                                    refine g_get (c := 0) (k := 21) (T := TX9) (sk := skM0) (v := .ref (kad K (16))) X wf_X9_66 inX9 dX9_ways_158 161 rfl (by decide) rfl rfl (by decide) rfl ?_
                                    refine g_iload X dX9_ways_161 163 rfl rfl ?_
                                    refine g_iald (c := 16) (n := 8) (r := 16) (o := 0) (i := j) (v := (nI (dg j))) X dX9_ways_163 164 rfl (by decide) rfl rfl (by omega) (hDz.2.2.1 _ (by omega)) ?_
                                    refine g_iast (c := 15) (n := 24) (r := 15) (o := 0) (i := L.getD j 0) X dX9_ways_164 165 rfl (by decide) rfl rfl (by omega) ?_
                                    refine g_iinc X (v := (nI (j + 1))) (lv' := [(0, .ref (kad K (0))), (1, .int (nI (f))), (2, .int (nI (g))), (3, .int (bI (b = true))), (4, .int (nI (j + 1)))]) dX9_ways_165 168 rfl (by decide) rfl (n_inc j 1) rfl rfl ?_
                                    refine g_goto X dX9_ways_168 137 (by decide) ?_
                                    skip
                                    refine g_mem (h := (mup (mrow gz 15 (kcF (gz 15) (fun i => L.getD i 0) dg j)) 15 (L.getD j 0) (nI (dg j)))) (h' := (mrow gz 15 (kcF (gz 15) (fun i => L.getD i 0) dg (j + 1)))) (by rw [mup_m]; rfl) ?_
                                    exact ih137 (j + 1) (by omega) (by omega)
                              skip
                              refine g_mem (h := (mrow gz 15 (ngK (gz 15) k))) (h' := (mrow gz 15 (kcF (gz 15) (fun i => L.getD i 0) dg 0))) (by rw [show k = 24 from by omega]; rfl) ?_
                              exact lp137 _ 0 (by omega) (Nat.lt_succ_self _)
                            · skip
                              refine g_aload_n X dX9_ways_119 120 rfl rfl ?_
                              refine g_get (c := 0) (k := 20) (T := TX9) (sk := skM0) (v := .ref (kad K (15))) X wf_X9_63 inX9 dX9_ways_120 123 rfl (by decide) rfl rfl (by decide) rfl ?_
                              refine g_iload X dX9_ways_123 125 rfl rfl ?_
                              refine g_bipush X dX9_ways_125 127 rfl (v := (zI (-4))) rfl ?_
                              refine g_iast (c := 15) (n := 24) (r := 15) (o := 0) (i := k) X dX9_ways_127 128 rfl (by decide) rfl rfl (by omega) ?_
                              refine g_iinc X (v := (nI (k + 1))) (lv' := [(0, .ref (kad K (0))), (1, .int (nI (f))), (2, .int (nI (g))), (3, .int (bI (b = true))), (4, .int (nI (k + 1)))]) dX9_ways_128 131 rfl (by decide) rfl (n_inc k 1) rfl rfl ?_
                              refine g_goto X dX9_ways_131 112 (by decide) ?_
                              skip
                              refine g_mem (h := (mup (mrow gz 15 (ngK (gz 15) k)) 15 k (zI (-4)))) (h' := (mrow gz 15 (ngK (gz 15) (k + 1)))) (by rw [mup_m, ngK_s]) ?_
                              exact ih112 (k + 1) (by omega) (by omega)
                        skip
                        refine g_mem (h := gz) (h' := (mrow gz 15 (ngK (gz 15) 0))) (by rw [ngK_0]; exact (mrow_id _ 15).symm) ?_
                        exact lp112 _ 0 (by omega) (Nat.lt_succ_self _)
                      · skip
                        refine g_bipush X dX9_ways_106 108 rfl (v := (zI (-4))) rfl ?_
                        refine g_iret (h := gm) (v := (zI (-4))) X Z dX9_ways_108 ?_
                        exact ⟨fun _ => by rw [ef, eg, ← hL]; exact Or.inr (Or.inl ⟨t41, hfin (Bool.eq_false_iff.mpr t82), rfl, hD.2.2.2.1 15 (by decide) (by decide)⟩), fun z => absurd ⟨f13, t25⟩ z, mag_w hD.2.2.2 (by decide) (by decide)⟩
                    · skip
                      refine g_aload_n X dX9_ways_85 86 rfl rfl ?_
                      refine g_iload_n X dX9_ways_86 87 rfl rfl ?_
                      refine g_callVi (st := []) X cw_X9_183 (c_M_isParting gm q p m n d (mag_MC C hD.2.2.2 (by decide) (by decide)) L.length g (fun i => L.getD i 0) dg hD.1 t41 hg1 hg2 (fun i hi => ⟨hD.2.1 i hi, hLm i hi⟩) (fun i hi => ⟨hD.2.2.1 i hi, hdv f82 i hi⟩)) dX9_ways_87 90 rfl (by decide) rfl rfl rfl rfl rfl (by decide) (Nat.le_of_ble_eq_true rfl) ?_
                      rintro r8 h8 ⟨rfl, hE8⟩
                      refine g_ifne_B X dX9_ways_90 102 (by decide) 93 rfl (fun t90 => ?_) (fun f90 => ?_)
                      · skip
                        refine g_iload_n X dX9_ways_102 103 rfl rfl ?_
                        refine g_ifne_B X dX9_ways_103 109 (by decide) 106 rfl (fun t103 => ?_) (fun f103 => ?_)
                        · skip
                          have hpt : ptB h q d p g L.length (fun i => L.getD i 0) dg = true := (pt_mem hD.2.2.2 (by decide)).symm.trans t90
                          obtain ⟨gz, hgz⟩ : ∃ gz : Mem, gz = h8 := ⟨_, rfl⟩
                          rw [← hgz]
                          have hDz : WD h gz L dg := by
                            rw [hgz]
                            exact wd_pt hD hE8
                          refine g_iconst X dX9_ways_109 110 rfl (v := (nI (0))) rfl ?_
                          refine g_istore X (lv' := [(0, .ref (kad K (0))), (1, .int (nI (f))), (2, .int (nI (g))), (3, .int (bI (b = true))), (4, .int (nI 0))]) dX9_ways_110 112 rfl (by decide) rfl rfl ?_
                          have lp112 : ∀ (fu : Nat) (k : Nat) (hk9 : k ≤ 24), 24 - k < fu → G 25 ML 5 K (mrow gz 15 (ngK (gz 15) k)) 112 [(0, .ref (kad K (0))), (1, .int (nI (f))), (2, .int (nI (g))), (3, .int (bI (b = true))), (4, .int (nI (k)))] [] := by
                            intro fu
                            induction fu with
                            | zero => intro k hk9 hm; exact absurd hm (Nat.not_lt_zero _)
                            | succ fu ih112 =>
                              intro k hk9 hm112
                              refine g_iload X dX9_ways_112 114 rfl rfl ?_
                              refine g_bipush X dX9_ways_114 116 rfl (v := (nI (24))) rfl ?_
                              refine g_icmp_ge X ((k : Nat) : Int) 24 dX9_ways_116 134 (by decide) 119 rfl (nI_toInt (by omega)) rfl (fun t116 => ?_) (fun f116 => ?_)
                              · skip
                                refine g_iconst X dX9_ways_134 135 rfl (v := (nI (0))) rfl ?_
                                refine g_istore X (lv' := [(0, .ref (kad K (0))), (1, .int (nI (f))), (2, .int (nI (g))), (3, .int (bI (b = true))), (4, .int (nI 0))]) dX9_ways_135 137 rfl (by decide) rfl rfl ?_
                                have lp137 : ∀ (fu : Nat) (j : Nat) (hj : j ≤ L.length), L.length - j < fu → G 25 ML 5 K (mrow gz 15 (kcF (gz 15) (fun i => L.getD i 0) dg j)) 137 [(0, .ref (kad K (0))), (1, .int (nI (f))), (2, .int (nI (g))), (3, .int (bI (b = true))), (4, .int (nI (j)))] [] := by
                                  intro fu
                                  induction fu with
                                  | zero => intro j hj hm; exact absurd hm (Nat.not_lt_zero _)
                                  | succ fu ih137 =>
                                    intro j hj hm137
                                    refine g_iload X dX9_ways_137 139 rfl rfl ?_
                                    refine g_aload_n X dX9_ways_139 140 rfl rfl ?_
                                    refine g_get (c := 0) (k := 18) (T := TX9) (sk := skM0) (v := .int (nI (L.length))) X wf_X9_176 inX9 dX9_ways_140 143 rfl (by decide) rfl rfl (by decide) (congrArg Value.int (hDz.1)) ?_
                                    refine g_icmp_ge X ((j : Nat) : Int) ((L.length : Nat) : Int) dX9_ways_143 171 (by decide) 146 rfl (nI_toInt (by omega)) (nI_toInt (by omega)) (fun t143 => ?_) (fun f143 => ?_)
                                    · skip
                                      refine g_iconst X dX9_ways_171 172 rfl (v := (nI (1))) rfl ?_
                                      refine g_iret (h := (mrow gz 15 (kcF (gz 15) (fun i => L.getD i 0) dg j))) (v := (nI (1))) X Z dX9_ways_172 ?_
                                      exact ⟨fun _ => by rw [ef, eg, ← hL]; exact Or.inr (Or.inr ⟨(hlo t103).1, t41, dg, hdv t103, hpt, (hlo t103).2, rfl, by rw [show j = L.length from by omega, mrow_s, hDz.2.2.2.1 15 (by decide) (by decide)]⟩), fun z => absurd ⟨f13, t25⟩ z, mag_w (show mag h _ [13, 14, 15, 16, 17] [18] from ⟨fun c c0 hc => (mrow_n _ _ (fun z => hc (by rw [z]; decide))).trans (hDz.2.2.2.1 c c0 (fun z => hc (by simp at z ⊢; omega))), fun j hj => hDz.2.2.2.2 j hj⟩) (by decide) (by decide)⟩
                                    · skip
                                      have ha9 := hLm j (by omega)
                                      refine g_aload_n X dX9_ways_146 147 rfl rfl ?_
                                      refine g_get (c := 0) (k := 20) (T := TX9) (sk := skM0) (v := .ref (kad K (15))) X wf_X9_63 inX9 dX9_ways_147 150 rfl (by decide) rfl rfl (by decide) rfl ?_
                                      refine g_aload_n X dX9_ways_150 151 rfl rfl ?_
                                      refine g_get (c := 0) (k := 19) (T := TX9) (sk := skM0) (v := .ref (kad K (14))) X wf_X9_60 inX9 dX9_ways_151 154 rfl (by decide) rfl rfl (by decide) rfl ?_
                                      refine g_iload X dX9_ways_154 156 rfl rfl ?_
                                      refine g_iald (c := 14) (n := 24) (r := 14) (o := 0) (i := j) (v := (nI (L.getD j 0))) X dX9_ways_156 157 rfl (by decide) rfl rfl (by omega) (hDz.2.1 _ (by omega)) ?_
                                      refine g_aload_n X dX9_ways_157 158 rfl rfl ?_
                                      refine g_get (c := 0) (k := 21) (T := TX9) (sk := skM0) (v := .ref (kad K (16))) X wf_X9_66 inX9 dX9_ways_158 161 rfl (by decide) rfl rfl (by decide) rfl ?_
                                      refine g_iload X dX9_ways_161 163 rfl rfl ?_
                                      refine g_iald (c := 16) (n := 8) (r := 16) (o := 0) (i := j) (v := (nI (dg j))) X dX9_ways_163 164 rfl (by decide) rfl rfl (by omega) (hDz.2.2.1 _ (by omega)) ?_
                                      refine g_iast (c := 15) (n := 24) (r := 15) (o := 0) (i := L.getD j 0) X dX9_ways_164 165 rfl (by decide) rfl rfl (by omega) ?_
                                      refine g_iinc X (v := (nI (j + 1))) (lv' := [(0, .ref (kad K (0))), (1, .int (nI (f))), (2, .int (nI (g))), (3, .int (bI (b = true))), (4, .int (nI (j + 1)))]) dX9_ways_165 168 rfl (by decide) rfl (n_inc j 1) rfl rfl ?_
                                      refine g_goto X dX9_ways_168 137 (by decide) ?_
                                      skip
                                      refine g_mem (h := (mup (mrow gz 15 (kcF (gz 15) (fun i => L.getD i 0) dg j)) 15 (L.getD j 0) (nI (dg j)))) (h' := (mrow gz 15 (kcF (gz 15) (fun i => L.getD i 0) dg (j + 1)))) (by rw [mup_m]; rfl) ?_
                                      exact ih137 (j + 1) (by omega) (by omega)
                                skip
                                refine g_mem (h := (mrow gz 15 (ngK (gz 15) k))) (h' := (mrow gz 15 (kcF (gz 15) (fun i => L.getD i 0) dg 0))) (by rw [show k = 24 from by omega]; rfl) ?_
                                exact lp137 _ 0 (by omega) (Nat.lt_succ_self _)
                              · skip
                                refine g_aload_n X dX9_ways_119 120 rfl rfl ?_
                                refine g_get (c := 0) (k := 20) (T := TX9) (sk := skM0) (v := .ref (kad K (15))) X wf_X9_63 inX9 dX9_ways_120 123 rfl (by decide) rfl rfl (by decide) rfl ?_
                                refine g_iload X dX9_ways_123 125 rfl rfl ?_
                                refine g_bipush X dX9_ways_125 127 rfl (v := (zI (-4))) rfl ?_
                                refine g_iast (c := 15) (n := 24) (r := 15) (o := 0) (i := k) X dX9_ways_127 128 rfl (by decide) rfl rfl (by omega) ?_
                                refine g_iinc X (v := (nI (k + 1))) (lv' := [(0, .ref (kad K (0))), (1, .int (nI (f))), (2, .int (nI (g))), (3, .int (bI (b = true))), (4, .int (nI (k + 1)))]) dX9_ways_128 131 rfl (by decide) rfl (n_inc k 1) rfl rfl ?_
                                refine g_goto X dX9_ways_131 112 (by decide) ?_
                                skip
                                refine g_mem (h := (mup (mrow gz 15 (ngK (gz 15) k)) 15 k (zI (-4)))) (h' := (mrow gz 15 (ngK (gz 15) (k + 1)))) (by rw [mup_m, ngK_s]) ?_
                                exact ih112 (k + 1) (by omega) (by omega)
                          skip
                          refine g_mem (h := gz) (h' := (mrow gz 15 (ngK (gz 15) 0))) (by rw [ngK_0]; exact (mrow_id _ 15).symm) ?_
                          exact lp112 _ 0 (by omega) (Nat.lt_succ_self _)
                        · skip
                          refine g_bipush X dX9_ways_106 108 rfl (v := (zI (-4))) rfl ?_
                          refine g_iret (h := h8) (v := (zI (-4))) X Z dX9_ways_108 ?_
                          exact absurd f82 f103
                      · skip
                        have hD8 : WD h h8 L dg := wd_pt hD hE8
                        have hvl := vl_lt (g := g) (a := dg) L.length (hdv f82)
                        have htt := ht f82
                        have hpf : ptB h q d p g L.length (fun i => L.getD i 0) dg = false := by
                          rw [← pt_mem hD.2.2.2 (by decide)]
                          exact Bool.eq_false_iff.mpr f90
                        have hno : ∀ dg' : Nat → Nat, (∀ i, i < L.length → dg' i < g) → vl g dg' L.length ≤ vl g dg L.length → ptB h q d p g L.length (fun i => L.getD i 0) dg' = false := fun dg' hv' hl' => by
                          rcases Nat.lt_or_eq_of_le hl' with y | y
                          · exact (hlo f82).2 dg' hv' y
                          · rw [pt_congr hq1 hq2 (vl_inj L.length hv' (hdv f82) y)]; exact hpf
                        refine g_aload_n X dX9_ways_93 94 rfl rfl ?_
                        refine g_iload_n X dX9_ways_94 95 rfl rfl ?_
                        refine g_callVi (st := []) X cw_X9_186 (c_M_step h8 n L.length g (fun i => L.getD i 0) dg hD8.1 t41 hg1 hg2 (fun i hi => ⟨hD8.2.1 i hi, hLm i hi⟩) (fun i hi => ⟨hD8.2.2.1 i hi, hdv f82 i hi⟩)) dX9_ways_95 98 rfl (by decide) rfl rfl rfl rfl rfl (by decide) (Nat.le_of_ble_eq_true rfl) ?_
                        rintro r7 h7 ⟨e, he, hz, ho⟩
                        obtain ⟨b7, dg7, rfl, hD7, hb7, hc7⟩ := st_post hD8 hg1 (hdv f82) e he hz ho
                        refine g_istore_n X (lv' := [(0, .ref (kad K (0))), (1, .int (nI (f))), (2, .int (nI (g))), (3, .int (bI (b7 = true)))]) dX9_ways_98 99 rfl (by decide) rfl rfl ?_
                        refine g_goto X dX9_ways_99 81 (by decide) ?_
                        skip
                        exact ih81 h7 dg7 b7 (t - 1) hD7 (fun z => (hb7 z).1) (fun z => ⟨(hlo f82).1, fun dg' hv' hl' => hno dg' hv' (by have := (hb7 z).2; omega)⟩) (fun z => Or.inr (fun dg' hv' => hno dg' hv' (by have y := vl_lt (g := g) (a := dg') L.length hv'; have := hc7 z; omega))) (fun z => by have := (hb7 z).2; omega) (by omega)
                skip
                refine g_mem (h := g0) (h' := g0) rfl ?_
                exact lp81 _ g0 (fun _ => 0) (decide (0 < L.length)) (g ^ L.length - vl g (fun _ => 0) L.length) hD0 (fun _ i hi => by omega) (fun z => ⟨of_decide_eq_true z, fun dg' hv' hl' => absurd hl' (by rw [vl_zero]; omega)⟩) (fun z => Or.inl (by have y := of_decide_eq_false z; omega)) (fun z => by rw [vl_zero]; omega) (Nat.lt_succ_self _)
            · skip
              refine g_aload_n X dX9_ways_55 56 rfl rfl ?_
              refine g_get (c := 0) (k := 21) (T := TX9) (sk := skM0) (v := .ref (kad K (16))) X wf_X9_66 inX9 dX9_ways_56 59 rfl (by decide) rfl rfl (by decide) rfl ?_
              refine g_iload_n X dX9_ways_59 60 rfl rfl ?_
              refine g_iconst X dX9_ways_60 61 rfl (v := (nI (0))) rfl ?_
              refine g_iast (c := 16) (n := 8) (r := 16) (o := 0) (i := k) X dX9_ways_61 62 rfl (by decide) rfl rfl (by omega) ?_
              refine g_iinc X (v := (nI (k + 1))) (lv' := [(0, .ref (kad K (0))), (1, .int (nI (f))), (2, .int (nI (g))), (3, .int (nI (k + 1)))]) dX9_ways_62 65 rfl (by decide) rfl (n_inc k 1) rfl rfl ?_
              refine g_goto X dX9_ways_65 49 (by decide) ?_
              skip
              refine g_mem (h := (mup (mrow (mrow (mup h 0 18 (nI (L.length))) 14 (grow L 24 (h 14))) 16 (zrK (h 16) k)) 16 k (nI (0)))) (h' := (mrow (mrow (mup h 0 18 (nI (L.length))) 14 (grow L 24 (h 14))) 16 (zrK (h 16) (k + 1)))) (by rw [mup_m, zrK_s]) ?_
              exact ih49 (k + 1) (by omega) (by omega)
        skip
        refine g_mem (h := (mrow (mup h 0 18 (nI (L.length))) 14 (grow L 24 (h 14)))) (h' := (mrow (mrow (mup h 0 18 (nI (L.length))) 14 (grow L 24 (h 14))) 16 (zrK (h 16) 0))) (by rw [zrK_0]; exact (mrow_id _ 16).symm) ?_
        exact lp49 _ 0 (by omega) (Nat.lt_succ_self _)
      · skip
        refine g_bipush X dX9_ways_44 46 rfl (v := (zI (-3))) rfl ?_
        refine g_iret (h := (mrow (mup h 0 18 (nI (L.length))) 14 (grow L 24 (h 14)))) (v := (zI (-3))) X Z dX9_ways_46 ?_
        exact ⟨fun _ => by rw [ef, eg, ← hL]; exact Or.inl ⟨by omega, rfl, rfl⟩, fun z => absurd ⟨f13, t25⟩ z, mag_w (list_mag h _ _) (by decide) (by decide)⟩
    · skip
      refine g_iconst X dX9_ways_28 29 rfl (v := (zI (-1))) rfl ?_
      refine g_iret (h := h) (v := (zI (-1))) X Z dX9_ways_29 ?_
      exact ⟨fun z => absurd z.2 f25, fun _ => ⟨rfl, rfl⟩, mag_rf _ _ _⟩
