def mag (h h2 : Mem) (l F : List Nat) : Prop := (∀ c, c ≠ 0 → c ∉ l → h2 c = h c) ∧ ∀ j, j ∉ F → h2 0 j = h 0 j
theorem mag_rf (h : Mem) (l F : List Nat) : mag h h l F := ⟨fun _ _ _ => rfl, fun _ _ => rfl⟩
/-- picking r of the listed, from place a on -/
def qk (ok : List Nat → Bool) (L : List Nat) : Nat → Nat → List Nat → Option (List Nat)
  | 0, _, l => if ok l = true then some l else none
  | r + 1, a, l => tryP (fun i => qk ok L r (i + 1) (l ++ [L.getD i 0])) (L.length - a) a
theorem qk_none {F : Nat → Option (List Nat)} {len i : Nat} (hi : i < len) (e : F i = none) : tryP F (len - i) i = tryP F (len - (i + 1)) (i + 1) := by
  rw [show len - i = len - (i + 1) + 1 by omega]
  exact tryP_none e
theorem qk_some {F : Nat → Option (List Nat)} {len i : Nat} {z : List Nat} (hi : i < len) (e : F i = some z) : tryP F (len - i) i = some z := by
  rw [show len - i = len - (i + 1) + 1 by omega]
  exact tryP_some e
theorem qk_end {F : Nat → Option (List Nat)} {len i : Nat} (hi : ¬ i < len) : tryP F (len - i) i = none := by
  rw [show len - i = 0 by omega]
  rfl
theorem qk0_t {ok : List Nat → Bool} {L l : List Nat} {a : Nat} (h : ok l = true) : qk ok L 0 a l = some l := if_pos h
theorem qk0_f {ok : List Nat → Bool} {L l : List Nat} {a : Nat} (h : ¬ ok l = true) : qk ok L 0 a l = none := if_neg h
def shK (tu : Nat → Int32) (x : Int) (l : List Nat) : Bool := decide (x - ((sumT tu l : Nat) : Int) = 0)
theorem sh_add (u g t : Nat) : zI ((u : Int) - (g : Int)) + nI t = zI (((u + t : Nat) : Int) - (g : Int)) := by
  rw [show zI (((u + t : Nat) : Int) - (g : Int)) = zI (((u : Int) - (g : Int)) + (t : Int)) from congrArg zI (by omega)]
  exact zz_add ((u : Int) - (g : Int)) (t : Int)
theorem shK0 {tu : Nat → Int32} {x : Int} : shK tu x [] = true ↔ x = 0 := by
  unfold shK; rw [decide_eq_true_iff]; show x - 0 = 0 ↔ x = 0; omega
theorem shK1 {tu : Nat → Int32} {x : Int} {a : Nat} : shK tu x ([] ++ [a]) = true ↔ x = ((tn (tu a) : Nat) : Int) := by
  unfold shK; rw [decide_eq_true_iff, sumT_app]; show x - ((0 + tn (tu a) : Nat) : Int) = 0 ↔ _; omega
theorem shK2 {tu : Nat → Int32} {x : Int} {a b : Nat} : shK tu x (([] ++ [a]) ++ [b]) = true ↔ x = ((tn (tu a) : Nat) : Int) + ((tn (tu b) : Nat) : Int) := by
  unfold shK; rw [decide_eq_true_iff, sumT_app, sumT_app]; show x - ((0 + tn (tu a) + tn (tu b) : Nat) : Int) = 0 ↔ _; omega
theorem shK3 {tu : Nat → Int32} {x : Int} {a b c : Nat} : shK tu x ((([] ++ [a]) ++ [b]) ++ [c]) = true ↔ x = ((tn (tu a) : Nat) : Int) + ((tn (tu b) : Nat) : Int) + ((tn (tu c) : Nat) : Int) := by
  unfold shK; rw [decide_eq_true_iff, sumT_app, sumT_app, sumT_app]; show x - ((0 + tn (tu a) + tn (tu b) + tn (tu c) : Nat) : Int) = 0 ↔ _; omega
theorem sh_neg (g : Nat) : -(nI g) = zI (((0 : Nat) : Int) - (g : Int)) := (n_neg g).trans (congrArg zI (by omega))
theorem grow_at {l : List Nat} {len i : Nat} {f0 : Nat → Int32} (h : i < l.length) (h2 : l.length ≤ len) : grow l len f0 i = nI (l.getD i 0) := if_pos ⟨h, by omega⟩
theorem take_s {L : List Nat} {k : Nat} (h : k < L.length) : L.take (k + 1) = L.take k ++ [L.getD k 0] := by
  rw [List.take_succ, List.getD_eq_getElem?_getD, List.getElem?_eq_getElem h]
  rfl
theorem glB_at {P : Nat → Bool} {n i : Nat} (h : i < (glB P n).length) : (glB P n).getD i 0 < n ∧ P ((glB P n).getD i 0) = true := by
  have e : (glB P n).getD i 0 = (glB P n)[i] := by
    rw [List.getD_eq_getElem?_getD, List.getElem?_eq_getElem h]; rfl
  rw [e]
  exact glB_mem.mp (List.getElem_mem h)
theorem pick_post {h g : Mem} {l F : List Nat} {c : Prop} [Decidable c] {res : Option (List Nat)} (z : List Nat) (hg : mag h g l F) (hc : c) (e : res = some z) (hz : z.length ≤ 3) : nI z.length = (if c then pkV res else zI (-1)) ∧ pkM g (nI z.length) (nI (z.getD 0 0)) (nI (z.getD 1 0)) (nI (z.getD 2 0)) 0 26 = pkN (h 0 26) (ifO c res) ∧ pkQ (h 20) (pkM g (nI z.length) (nI (z.getD 0 0)) (nI (z.getD 1 0)) (nI (z.getD 2 0)) 20) (ifO c res) ∧ mag h (pkM g (nI z.length) (nI (z.getD 0 0)) (nI (z.getD 1 0)) (nI (z.getD 2 0))) (20 :: l) (26 :: F) := by
  subst e
  have e1 : ifO c (some z) = some z := if_pos hc
  rw [if_pos hc, e1]
  refine ⟨rfl, rfl, ?_, ?_, ?_⟩
  · intro j hj
    show upd (upd (upd (g 20) 0 (nI (z.getD 0 0))) 1 (nI (z.getD 1 0))) 2 (nI (z.getD 2 0)) j = nI (z.getD j 0)
    rcases (show j = 0 ∨ j = 1 ∨ j = 2 by omega) with rfl | rfl | rfl <;> rfl
  · intro x x0 hx
    rw [List.mem_cons, not_or] at hx
    unfold pkM
    rw [mup_n _ _ hx.1, mup_n _ _ hx.1, mup_n _ _ hx.1, mup_n _ _ x0]
    exact hg.1 x x0 hx.2
  · intro j hj
    rw [List.mem_cons, not_or] at hj
    show mup (mup (mup (mup g 0 26 _) 20 0 _) 20 1 _) 20 2 _ 0 j = h 0 j
    rw [mup_n _ _ (by decide), mup_n _ _ (by decide), mup_n _ _ (by decide), mup_s, if_neg hj.1]
    exact hg.2 j hj.2
theorem none_post {h g : Mem} {l F : List Nat} {c : Prop} [Decidable c] {res : Option (List Nat)} (hg : mag h g l F) (hl : 20 ∉ l) (hF : 26 ∉ F) (hc : c) (e : res = none) : zI (-4) = (if c then pkV res else zI (-1)) ∧ g 0 26 = pkN (h 0 26) (ifO c res) ∧ pkQ (h 20) (g 20) (ifO c res) ∧ mag h g (20 :: l) (26 :: F) := by
  subst e
  have e1 : ifO c (none : Option (List Nat)) = none := if_pos hc
  rw [if_pos hc, e1]
  exact ⟨rfl, hg.2 26 hF, hg.1 20 (by decide) hl, fun x x0 hx => hg.1 x x0 (fun z => hx (List.mem_cons_of_mem _ z)), fun j hj => hg.2 j (fun z => hj (List.mem_cons_of_mem _ z))⟩
theorem bad_post {h : Mem} {l F : List Nat} {c : Prop} [Decidable c] {res : Option (List Nat)} (hc : ¬ c) : zI (-1) = (if c then pkV res else zI (-1)) ∧ h 0 26 = pkN (h 0 26) (ifO c res) ∧ pkQ (h 20) (h 20) (ifO c res) ∧ mag h h l F := by
  have e1 : ifO c res = none := if_neg hc
  rw [if_neg hc, e1]
  exact ⟨rfl, rfl, rfl, mag_rf h l F⟩
theorem list_mag (h : Mem) (a : Int32) (b : Nat → Int32) : mag h (mrow (mup h 0 18 a) 14 b) [14] [18] := by
  refine ⟨fun c c0 hc => ?_, fun j hj => ?_⟩
  · rw [List.mem_singleton] at hc
    rw [mrow_n _ _ hc, mup_n _ _ c0]
  · rw [List.mem_singleton] at hj
    rw [mrow_n _ _ (by decide), mup_s, if_neg hj]
set_option maxHeartbeats 1000000 in
set_option maxRecDepth 100000 in
theorem c_M_shorts (h : Mem) (q p m n d : Nat) (II : MI h q p m n d) (x0 x1 : Int32) : cI 25 ML yX9_shorts cX9_shorts 7 (some .int) 1 25 (fun ad => [.ref (ad (0)), .int (x0), .int (x1)]) h (fun r h2 => r = (if (isC m x0 ∧ (0 ≤ x1.toInt ∧ x1.toInt ≤ 9999)) then pkV (tryP (fun r => qk (shK (h 4) (((sumT (h 4) (glB (uil (h 1) (h 5) (((tn x0) : Nat) : Int)) n) : Nat) : Int) - (((tn x1) : Nat) : Int))) (glB (uil (h 1) (h 5) (((tn x0) : Nat) : Int)) n) r 0 []) 4 0) else zI (-1)) ∧ h2 0 26 = pkN (h 0 26) (ifO (isC m x0 ∧ (0 ≤ x1.toInt ∧ x1.toInt ≤ 9999)) (tryP (fun r => qk (shK (h 4) (((sumT (h 4) (glB (uil (h 1) (h 5) (((tn x0) : Nat) : Int)) n) : Nat) : Int) - (((tn x1) : Nat) : Int))) (glB (uil (h 1) (h 5) (((tn x0) : Nat) : Int)) n) r 0 []) 4 0)) ∧ pkQ (h 20) (h2 20) (ifO (isC m x0 ∧ (0 ≤ x1.toInt ∧ x1.toInt ≤ 9999)) (tryP (fun r => qk (shK (h 4) (((sumT (h 4) (glB (uil (h 1) (h 5) (((tn x0) : Nat) : Int)) n) : Nat) : Int) - (((tn x1) : Nat) : Int))) (glB (uil (h 1) (h 5) (((tn x0) : Nat) : Int)) n) r 0 []) 4 0)) ∧ mag h h2 [20, 14] [26, 18]) := by
  refine cI_of MLW (by decide +kernel) (fun ad => Nat.le_of_ble_eq_true rfl) ?_
  intro K X Z
  obtain ⟨C, hsA, hsB, hpol, hdq, ⟨tz, htz, hto⟩, ⟨pz, hpz, hpk⟩, hshe⟩ := id II
  obtain ⟨hq, hp, hm, hq1, hq2, hp1, hp2, hm1, hm2, hn, hn2, hc, hd, hd1, hd2⟩ := id C
  show G 25 ML 7 K h 0 [(0, .ref (kad K (0))), (1, .int (x0)), (2, .int (x1))] []
  refine g_iload_n X dX9_shorts_0 1 rfl rfl ?_
  refine g_i2l X (v := (x0).toInt64) dX9_shorts_1 2 rfl rfl ?_
  refine g_lconst X dX9_shorts_2 3 rfl (v := (0 : Int64)) rfl ?_
  refine g_aload_n X dX9_shorts_3 4 rfl rfl ?_
  refine g_get (c := 0) (k := 2) (T := TX9) (sk := skM0) (v := .int (nI (m))) X wf_X9_16 inX9 dX9_shorts_4 7 rfl (by decide) rfl rfl (by decide) (congrArg Value.int (hm)) ?_
  refine g_iconst X dX9_shorts_7 8 rfl (v := (nI (1))) rfl ?_
  refine g_isub X (v := (zI (((m : Nat) : Int) - ((1 : Nat) : Int)))) dX9_shorts_8 9 rfl (nn_sub m 1) ?_
  refine g_i2l X (v := (zI (((m : Nat) : Int) - ((1 : Nat) : Int))).toInt64) dX9_shorts_9 10 rfl rfl ?_
  refine g_callSix (st := []) (v := (bI (0 ≤ (x0).toInt ∧ (x0).toInt ≤ ((m : Nat) : Int) - ((1 : Nat) : Int)))) (m2 := h) X cw_X9_100 (c_M_in h ((x0).toInt64) (0 : Int64) ((zI (((m : Nat) : Int) - ((1 : Nat) : Int))).toInt64) ((x0).toInt) 0 (((m : Nat) : Int) - ((1 : Nat) : Int)) (i64_of rfl) rfl (i64_of (zI_toInt (by omega)))) dX9_shorts_10 13 rfl rfl rfl rfl (by decide) (Nat.le_of_ble_eq_true rfl) ?_
  refine g_ifeq_B X dX9_shorts_13 28 (by decide) 16 rfl (fun t13 => ?_) (fun f13 => ?_)
  · skip
    refine g_iconst X dX9_shorts_28 29 rfl (v := (zI (-1))) rfl ?_
    refine g_iret (h := h) (v := (zI (-1))) X Z dX9_shorts_29 ?_
    exact bad_post (fun z => t13 z.1)
  · skip
    refine g_iload_n X dX9_shorts_16 17 rfl rfl ?_
    refine g_i2l X (v := (x1).toInt64) dX9_shorts_17 18 rfl rfl ?_
    refine g_lconst X dX9_shorts_18 19 rfl (v := (0 : Int64)) rfl ?_
    refine g_ldc2 X (v := (9999)) dX9_shorts_19 22 rfl wk_X9_205 ?_
    refine g_callSix (st := []) (v := (bI (0 ≤ (x1).toInt ∧ (x1).toInt ≤ 9999))) (m2 := h) X cw_X9_100 (c_M_in h ((x1).toInt64) (0 : Int64) (9999 : Int64) ((x1).toInt) 0 9999 (i64_of rfl) rfl rfl) dX9_shorts_22 25 rfl rfl rfl rfl (by decide) (Nat.le_of_ble_eq_true rfl) ?_
    refine g_ifne_B X dX9_shorts_25 30 (by decide) 28 rfl (fun t25 => ?_) (fun f25 => ?_)
    · skip
      obtain ⟨f, hf, rfl⟩ := inR_nat f13
      obtain ⟨g, hg1, hg2, rfl⟩ := inR_3 (a := 0) (b := 9999) t25
      have ef : tn (nI f) = f := tn_nI (by omega)
      have eg : tn (nI g) = g := tn_nI (by omega)
      refine g_aload_n X dX9_shorts_30 31 rfl rfl ?_
      refine g_iload_n X dX9_shorts_31 32 rfl rfl ?_
      refine g_callVvx (st := []) (m2 := (mrow (mup h 0 18 (nI ((glB (uil (h 1) (h 5) ((f : Nat) : Int)) n).length))) 14 (grow (glB (uil (h 1) (h 5) ((f : Nat) : Int)) n) 24 (h 14)))) X cw_X9_179 (c_M_listUsed h q m n (nI (f)) ((f : Nat) : Int) (nI_toInt (by omega)) (by exact hn) hn2 hm2 (by exact hc)) dX9_shorts_32 35 rfl (by decide) rfl rfl rfl rfl rfl (by decide) (Nat.le_of_ble_eq_true rfl) ?_
      obtain ⟨L, hL⟩ : ∃ L, L = (glB (uil (h 1) (h 5) ((f : Nat) : Int)) n) := ⟨_, rfl⟩
      rw [← hL]
      have hLl : L.length ≤ n := by rw [hL]; exact glB_len _ _
      have hLm : ∀ i, i < L.length → L.getD i 0 < n := fun i hi => by
        rw [hL] at hi ⊢
        exact (glB_at hi).1
      refine g_iload_n X dX9_shorts_35 36 rfl rfl ?_
      refine g_ineg X (v := (zI (((0 : Nat) : Int) - ((g : Nat) : Int)))) dX9_shorts_36 37 rfl (sh_neg g) ?_
      refine g_istore_n X (lv' := [(0, .ref (kad K (0))), (1, .int (nI (f))), (2, .int (nI (g))), (3, .int (zI (((0 : Nat) : Int) - ((g : Nat) : Int))))]) dX9_shorts_37 38 rfl (by decide) rfl rfl ?_
      refine g_iconst X dX9_shorts_38 39 rfl (v := (nI (0))) rfl ?_
      refine g_istore X (lv' := [(0, .ref (kad K (0))), (1, .int (nI (f))), (2, .int (nI (g))), (3, .int (zI (((0 : Nat) : Int) - ((g : Nat) : Int)))), (4, .int (nI 0))]) dX9_shorts_39 41 rfl (by decide) rfl rfl ?_
      have lp41 : ∀ (fu : Nat) (k : Nat) (u : Nat) (hk : k ≤ L.length) (hu : u = sumT (h 4) (L.take k)) (hub : u ≤ 99 * k), L.length - k < fu → G 25 ML 7 K (mrow (mup h 0 18 (nI (L.length))) 14 (grow L 24 (h 14))) 41 [(0, .ref (kad K (0))), (1, .int (nI (f))), (2, .int (nI (g))), (3, .int (zI (((u : Nat) : Int) - ((g : Nat) : Int)))), (4, .int (nI (k)))] [] := by
        intro fu
        induction fu with
        | zero => intro k u hk hu hub hm; exact absurd hm (Nat.not_lt_zero _)
        | succ fu ih41 =>
          intro k u hk hu hub hm41
          refine g_iload X dX9_shorts_41 43 rfl rfl ?_
          refine g_aload_n X dX9_shorts_43 44 rfl rfl ?_
          refine g_get (c := 0) (k := 18) (T := TX9) (sk := skM0) (v := .int (nI (L.length))) X wf_X9_176 inX9 dX9_shorts_44 47 rfl (by decide) rfl rfl (by decide) rfl ?_
          refine g_icmp_ge X ((k : Nat) : Int) ((L.length : Nat) : Int) dX9_shorts_47 71 (by decide) 50 rfl (nI_toInt (by omega)) (nI_toInt (by omega)) (fun t47 => ?_) (fun f47 => ?_)
          · skip
            have hu9 : u = sumT (h 4) L := by rw [hu, List.take_of_length_le (by omega)]
            refine g_iload_n X dX9_shorts_71 72 rfl rfl ?_
            refine g_if_ne X (((u : Nat) : Int) - ((g : Nat) : Int)) dX9_shorts_72 84 (by decide) 75 rfl (zI_toInt (by omega)) (fun t72 => ?_) (fun f72 => ?_)
            · skip
              refine g_iconst X dX9_shorts_84 85 rfl (v := (nI (0))) rfl ?_
              refine g_istore X (lv' := [(0, .ref (kad K (0))), (1, .int (nI (f))), (2, .int (nI (g))), (3, .int (zI (((u : Nat) : Int) - ((g : Nat) : Int)))), (4, .int (nI 0))]) dX9_shorts_85 87 rfl (by decide) rfl rfl ?_
              have lp87 : ∀ (fu : Nat) (i : Nat) (hi : i ≤ L.length) (e1 : qk (shK (h 4) (((u : Nat) : Int) - ((g : Nat) : Int))) L 1 0 [] = tryP (fun b => qk (shK (h 4) (((u : Nat) : Int) - ((g : Nat) : Int))) L 0 (b + 1) ([] ++ [L.getD b 0])) (L.length - i) i), L.length - i < fu → G 25 ML 7 K (mrow (mup h 0 18 (nI (L.length))) 14 (grow L 24 (h 14))) 87 [(0, .ref (kad K (0))), (1, .int (nI (f))), (2, .int (nI (g))), (3, .int (zI (((u : Nat) : Int) - ((g : Nat) : Int)))), (4, .int (nI (i)))] [] := by
                intro fu
                induction fu with
                | zero => intro i hi e1 hm; exact absurd hm (Nat.not_lt_zero _)
                | succ fu ih87 =>
                  intro i hi e1 hm87
                  refine g_iload X dX9_shorts_87 89 rfl rfl ?_
                  refine g_aload_n X dX9_shorts_89 90 rfl rfl ?_
                  refine g_get (c := 0) (k := 18) (T := TX9) (sk := skM0) (v := .int (nI (L.length))) X wf_X9_176 inX9 dX9_shorts_90 93 rfl (by decide) rfl rfl (by decide) rfl ?_
                  refine g_icmp_ge X ((i : Nat) : Int) ((L.length : Nat) : Int) dX9_shorts_93 133 (by decide) 96 rfl (nI_toInt (by omega)) (nI_toInt (by omega)) (fun t93 => ?_) (fun f93 => ?_)
                  · skip
                    have e1_ := e1
                    have hi_1 : ¬ i < L.length := by omega
                    refine g_iconst X dX9_shorts_133 134 rfl (v := (nI (0))) rfl ?_
                    refine g_istore X (lv' := [(0, .ref (kad K (0))), (1, .int (nI (f))), (2, .int (nI (g))), (3, .int (zI (((u : Nat) : Int) - ((g : Nat) : Int)))), (4, .int (nI 0))]) dX9_shorts_134 136 rfl (by decide) rfl rfl ?_
                    have lp136 : ∀ (fu : Nat) (i : Nat) (hi : i ≤ L.length) (e2 : qk (shK (h 4) (((u : Nat) : Int) - ((g : Nat) : Int))) L 2 0 [] = tryP (fun b => qk (shK (h 4) (((u : Nat) : Int) - ((g : Nat) : Int))) L 1 (b + 1) ([] ++ [L.getD b 0])) (L.length - i) i), L.length - i < fu → G 25 ML 7 K (mrow (mup h 0 18 (nI (L.length))) 14 (grow L 24 (h 14))) 136 [(0, .ref (kad K (0))), (1, .int (nI (f))), (2, .int (nI (g))), (3, .int (zI (((u : Nat) : Int) - ((g : Nat) : Int)))), (4, .int (nI (i)))] [] := by
                      intro fu
                      induction fu with
                      | zero => intro i hi e2 hm; exact absurd hm (Nat.not_lt_zero _)
                      | succ fu ih136 =>
                        intro i hi e2 hm136
                        refine g_iload X dX9_shorts_136 138 rfl rfl ?_
                        refine g_aload_n X dX9_shorts_138 139 rfl rfl ?_
                        refine g_get (c := 0) (k := 18) (T := TX9) (sk := skM0) (v := .int (nI (L.length))) X wf_X9_176 inX9 dX9_shorts_139 142 rfl (by decide) rfl rfl (by decide) rfl ?_
                        refine g_icmp_ge X ((i : Nat) : Int) ((L.length : Nat) : Int) dX9_shorts_142 222 (by decide) 145 rfl (nI_toInt (by omega)) (nI_toInt (by omega)) (fun t142 => ?_) (fun f142 => ?_)
                        · skip
                          have e2_ := e2
                          have hi_2 : ¬ i < L.length := by omega
                          refine g_iconst X dX9_shorts_222 223 rfl (v := (nI (0))) rfl ?_
                          refine g_istore X (lv' := [(0, .ref (kad K (0))), (1, .int (nI (f))), (2, .int (nI (g))), (3, .int (zI (((u : Nat) : Int) - ((g : Nat) : Int)))), (4, .int (nI 0))]) dX9_shorts_223 225 rfl (by decide) rfl rfl ?_
                          have lp225 : ∀ (fu : Nat) (i : Nat) (hi : i ≤ L.length) (e3 : qk (shK (h 4) (((u : Nat) : Int) - ((g : Nat) : Int))) L 3 0 [] = tryP (fun b => qk (shK (h 4) (((u : Nat) : Int) - ((g : Nat) : Int))) L 2 (b + 1) ([] ++ [L.getD b 0])) (L.length - i) i), L.length - i < fu → G 25 ML 7 K (mrow (mup h 0 18 (nI (L.length))) 14 (grow L 24 (h 14))) 225 [(0, .ref (kad K (0))), (1, .int (nI (f))), (2, .int (nI (g))), (3, .int (zI (((u : Nat) : Int) - ((g : Nat) : Int)))), (4, .int (nI (i)))] [] := by
                            intro fu
                            induction fu with
                            | zero => intro i hi e3 hm; exact absurd hm (Nat.not_lt_zero _)
                            | succ fu ih225 =>
                              intro i hi e3 hm225
                              refine g_iload X dX9_shorts_225 227 rfl rfl ?_
                              refine g_aload_n X dX9_shorts_227 228 rfl rfl ?_
                              refine g_get (c := 0) (k := 18) (T := TX9) (sk := skM0) (v := .int (nI (L.length))) X wf_X9_176 inX9 dX9_shorts_228 231 rfl (by decide) rfl rfl (by decide) rfl ?_
                              refine g_icmp_ge X ((i : Nat) : Int) ((L.length : Nat) : Int) dX9_shorts_231 351 (by decide) 234 rfl (nI_toInt (by omega)) (nI_toInt (by omega)) (fun t231 => ?_) (fun f231 => ?_)
                              · skip
                                refine g_bipush X dX9_shorts_351 353 rfl (v := (zI (-4))) rfl ?_
                                refine g_iret (h := (mrow (mup h 0 18 (nI (L.length))) 14 (grow L 24 (h 14)))) (v := (zI (-4))) X Z dX9_shorts_353 ?_
                                have eR : (tryP (fun r => qk (shK (h 4) (((sumT (h 4) (glB (uil (h 1) (h 5) (((tn (nI f)) : Nat) : Int)) n) : Nat) : Int) - (((tn (nI g)) : Nat) : Int))) (glB (uil (h 1) (h 5) (((tn (nI f)) : Nat) : Int)) n) r 0 []) 4 0) = none := by
                                  rw [ef, eg, ← hL, ← hu9]
                                  exact (tryP_none (F := fun r => qk (shK (h 4) (((u : Nat) : Int) - ((g : Nat) : Int))) L r 0 []) (qk0_f (fun z => t72 (shK0.mp z)))).trans ((tryP_none (F := fun r => qk (shK (h 4) (((u : Nat) : Int) - ((g : Nat) : Int))) L r 0 []) (e1_.trans (qk_end hi_1))).trans ((tryP_none (F := fun r => qk (shK (h 4) (((u : Nat) : Int) - ((g : Nat) : Int))) L r 0 []) (e2_.trans (qk_end hi_2))).trans ((tryP_none (F := fun r => qk (shK (h 4) (((u : Nat) : Int) - ((g : Nat) : Int))) L r 0 []) (e3.trans (qk_end (by omega)))).trans rfl)))
                                exact none_post (c := isC m (nI f) ∧ (0 ≤ (nI g).toInt ∧ (nI g).toInt ≤ 9999)) (list_mag h _ _) (by decide) (by decide) ⟨f13, t25⟩ eR
                              · skip
                                refine g_iload X dX9_shorts_234 236 rfl rfl ?_
                                refine g_iconst X dX9_shorts_236 237 rfl (v := (nI (1))) rfl ?_
                                refine g_iadd X (v := (nI (i + 1))) dX9_shorts_237 238 rfl (nI_add i 1) ?_
                                refine g_istore X (lv' := [(0, .ref (kad K (0))), (1, .int (nI (f))), (2, .int (nI (g))), (3, .int (zI (((u : Nat) : Int) - ((g : Nat) : Int)))), (4, .int (nI (i))), (5, .int (nI (i + 1)))]) dX9_shorts_238 240 rfl (by decide) rfl rfl ?_
                                have lp240 : ∀ (fu : Nat) (j : Nat) (hj : j ≤ L.length) (hj2 : i < j) (e3j : qk (shK (h 4) (((u : Nat) : Int) - ((g : Nat) : Int))) L 2 (i + 1) ([] ++ [L.getD i 0]) = tryP (fun b => qk (shK (h 4) (((u : Nat) : Int) - ((g : Nat) : Int))) L 1 (b + 1) (([] ++ [L.getD i 0]) ++ [L.getD b 0])) (L.length - j) j), L.length - j < fu → G 25 ML 7 K (mrow (mup h 0 18 (nI (L.length))) 14 (grow L 24 (h 14))) 240 [(0, .ref (kad K (0))), (1, .int (nI (f))), (2, .int (nI (g))), (3, .int (zI (((u : Nat) : Int) - ((g : Nat) : Int)))), (4, .int (nI (i))), (5, .int (nI (j)))] [] := by
                                  intro fu
                                  induction fu with
                                  | zero => intro j hj hj2 e3j hm; exact absurd hm (Nat.not_lt_zero _)
                                  | succ fu ih240 =>
                                    intro j hj hj2 e3j hm240
                                    refine g_iload X dX9_shorts_240 242 rfl rfl ?_
                                    refine g_aload_n X dX9_shorts_242 243 rfl rfl ?_
                                    refine g_get (c := 0) (k := 18) (T := TX9) (sk := skM0) (v := .int (nI (L.length))) X wf_X9_176 inX9 dX9_shorts_243 246 rfl (by decide) rfl rfl (by decide) rfl ?_
                                    refine g_icmp_ge X ((j : Nat) : Int) ((L.length : Nat) : Int) dX9_shorts_246 345 (by decide) 249 rfl (nI_toInt (by omega)) (nI_toInt (by omega)) (fun t246 => ?_) (fun f246 => ?_)
                                    · skip
                                      refine g_iinc X (v := (nI (i + 1))) (lv' := [(0, .ref (kad K (0))), (1, .int (nI (f))), (2, .int (nI (g))), (3, .int (zI (((u : Nat) : Int) - ((g : Nat) : Int)))), (4, .int (nI (i + 1))), (5, .int (nI (j)))]) dX9_shorts_345 348 rfl (by decide) rfl (n_inc i 1) rfl rfl ?_
                                      refine g_goto X dX9_shorts_348 225 (by decide) ?_
                                      refine g_sub [0, 1, 2, 3, 4] rfl ?_
                                      exact ih225 (i + 1) (by omega) (e3.trans (qk_none (by omega) (e3j.trans (qk_end (by omega))))) (by omega)
                                    · skip
                                      refine g_iload X dX9_shorts_249 251 rfl rfl ?_
                                      refine g_iconst X dX9_shorts_251 252 rfl (v := (nI (1))) rfl ?_
                                      refine g_iadd X (v := (nI (j + 1))) dX9_shorts_252 253 rfl (nI_add j 1) ?_
                                      refine g_istore X (lv' := [(0, .ref (kad K (0))), (1, .int (nI (f))), (2, .int (nI (g))), (3, .int (zI (((u : Nat) : Int) - ((g : Nat) : Int)))), (4, .int (nI (i))), (5, .int (nI (j))), (6, .int (nI (j + 1)))]) dX9_shorts_253 255 rfl (by decide) rfl rfl ?_
                                      have lp255 : ∀ (fu : Nat) (k : Nat) (hk3 : k ≤ L.length) (hk4 : j < k) (e3k : qk (shK (h 4) (((u : Nat) : Int) - ((g : Nat) : Int))) L 1 (j + 1) (([] ++ [L.getD i 0]) ++ [L.getD j 0]) = tryP (fun b => qk (shK (h 4) (((u : Nat) : Int) - ((g : Nat) : Int))) L 0 (b + 1) ((([] ++ [L.getD i 0]) ++ [L.getD j 0]) ++ [L.getD b 0])) (L.length - k) k), L.length - k < fu → G 25 ML 7 K (mrow (mup h 0 18 (nI (L.length))) 14 (grow L 24 (h 14))) 255 [(0, .ref (kad K (0))), (1, .int (nI (f))), (2, .int (nI (g))), (3, .int (zI (((u : Nat) : Int) - ((g : Nat) : Int)))), (4, .int (nI (i))), (5, .int (nI (j))), (6, .int (nI (k)))] [] := by
                                        intro fu
                                        induction fu with
                                        | zero => intro k hk3 hk4 e3k hm; exact absurd hm (Nat.not_lt_zero _)
                                        | succ fu ih255 =>
                                          intro k hk3 hk4 e3k hm255
                                          refine g_iload X dX9_shorts_255 257 rfl rfl ?_
                                          refine g_aload_n X dX9_shorts_257 258 rfl rfl ?_
                                          refine g_get (c := 0) (k := 18) (T := TX9) (sk := skM0) (v := .int (nI (L.length))) X wf_X9_176 inX9 dX9_shorts_258 261 rfl (by decide) rfl rfl (by decide) rfl ?_
                                          refine g_icmp_ge X ((k : Nat) : Int) ((L.length : Nat) : Int) dX9_shorts_261 339 (by decide) 264 rfl (nI_toInt (by omega)) (nI_toInt (by omega)) (fun t261 => ?_) (fun f261 => ?_)
                                          · skip
                                            refine g_iinc X (v := (nI (j + 1))) (lv' := [(0, .ref (kad K (0))), (1, .int (nI (f))), (2, .int (nI (g))), (3, .int (zI (((u : Nat) : Int) - ((g : Nat) : Int)))), (4, .int (nI (i))), (5, .int (nI (j + 1))), (6, .int (nI (k)))]) dX9_shorts_339 342 rfl (by decide) rfl (n_inc j 1) rfl rfl ?_
                                            refine g_goto X dX9_shorts_342 240 (by decide) ?_
                                            refine g_sub [0, 1, 2, 3, 4, 5] rfl ?_
                                            exact ih240 (j + 1) (by omega) (by omega) (e3j.trans (qk_none (by omega) (e3k.trans (qk_end (by omega))))) (by omega)
                                          · skip
                                            have ha_i := hLm i (by omega)
                                            have hb_i := (hc _ ha_i).tu.2.2
                                            have ha_j := hLm j (by omega)
                                            have hb_j := (hc _ ha_j).tu.2.2
                                            have ha_k := hLm k (by omega)
                                            have hb_k := (hc _ ha_k).tu.2.2
                                            refine g_aload_n X dX9_shorts_264 265 rfl rfl ?_
                                            refine g_get (c := 0) (k := 7) (T := TX9) (sk := skM0) (v := .ref (kad K (4))) X wf_X9_29 inX9 dX9_shorts_265 268 rfl (by decide) rfl rfl (by decide) rfl ?_
                                            refine g_aload_n X dX9_shorts_268 269 rfl rfl ?_
                                            refine g_get (c := 0) (k := 19) (T := TX9) (sk := skM0) (v := .ref (kad K (14))) X wf_X9_60 inX9 dX9_shorts_269 272 rfl (by decide) rfl rfl (by decide) rfl ?_
                                            refine g_iload X dX9_shorts_272 274 rfl rfl ?_
                                            refine g_iald (c := 14) (n := 24) (r := 14) (o := 0) (i := i) (v := (nI (L.getD i 0))) X dX9_shorts_274 275 rfl (by decide) rfl rfl (by omega) (grow_at (by omega) (by omega)) ?_
                                            refine g_iald (c := 4) (n := 24) (r := 4) (o := 0) (i := L.getD i 0) (v := (nI (tn (h 4 (L.getD i 0))))) X dX9_shorts_275 276 rfl (by decide) rfl rfl (by omega) ((hc _ (hLm _ (by omega))).tu.1) ?_
                                            refine g_aload_n X dX9_shorts_276 277 rfl rfl ?_
                                            refine g_get (c := 0) (k := 7) (T := TX9) (sk := skM0) (v := .ref (kad K (4))) X wf_X9_29 inX9 dX9_shorts_277 280 rfl (by decide) rfl rfl (by decide) rfl ?_
                                            refine g_aload_n X dX9_shorts_280 281 rfl rfl ?_
                                            refine g_get (c := 0) (k := 19) (T := TX9) (sk := skM0) (v := .ref (kad K (14))) X wf_X9_60 inX9 dX9_shorts_281 284 rfl (by decide) rfl rfl (by decide) rfl ?_
                                            refine g_iload X dX9_shorts_284 286 rfl rfl ?_
                                            refine g_iald (c := 14) (n := 24) (r := 14) (o := 0) (i := j) (v := (nI (L.getD j 0))) X dX9_shorts_286 287 rfl (by decide) rfl rfl (by omega) (grow_at (by omega) (by omega)) ?_
                                            refine g_iald (c := 4) (n := 24) (r := 4) (o := 0) (i := L.getD j 0) (v := (nI (tn (h 4 (L.getD j 0))))) X dX9_shorts_287 288 rfl (by decide) rfl rfl (by omega) ((hc _ (hLm _ (by omega))).tu.1) ?_
                                            refine g_iadd X (v := (nI (tn (h 4 (L.getD i 0)) + (tn (h 4 (L.getD j 0)))))) dX9_shorts_288 289 rfl (nI_add (tn (h 4 (L.getD i 0))) (tn (h 4 (L.getD j 0)))) ?_
                                            refine g_aload_n X dX9_shorts_289 290 rfl rfl ?_
                                            refine g_get (c := 0) (k := 7) (T := TX9) (sk := skM0) (v := .ref (kad K (4))) X wf_X9_29 inX9 dX9_shorts_290 293 rfl (by decide) rfl rfl (by decide) rfl ?_
                                            refine g_aload_n X dX9_shorts_293 294 rfl rfl ?_
                                            refine g_get (c := 0) (k := 19) (T := TX9) (sk := skM0) (v := .ref (kad K (14))) X wf_X9_60 inX9 dX9_shorts_294 297 rfl (by decide) rfl rfl (by decide) rfl ?_
                                            refine g_iload X dX9_shorts_297 299 rfl rfl ?_
                                            refine g_iald (c := 14) (n := 24) (r := 14) (o := 0) (i := k) (v := (nI (L.getD k 0))) X dX9_shorts_299 300 rfl (by decide) rfl rfl (by omega) (grow_at (by omega) (by omega)) ?_
                                            refine g_iald (c := 4) (n := 24) (r := 4) (o := 0) (i := L.getD k 0) (v := (nI (tn (h 4 (L.getD k 0))))) X dX9_shorts_300 301 rfl (by decide) rfl rfl (by omega) ((hc _ (hLm _ (by omega))).tu.1) ?_
                                            refine g_iadd X (v := (nI (tn (h 4 (L.getD i 0)) + (tn (h 4 (L.getD j 0))) + (tn (h 4 (L.getD k 0)))))) dX9_shorts_301 302 rfl (nI_add (tn (h 4 (L.getD i 0)) + (tn (h 4 (L.getD j 0)))) (tn (h 4 (L.getD k 0)))) ?_
                                            refine g_iload_n X dX9_shorts_302 303 rfl rfl ?_
                                            refine g_icmp_ne X ((tn (h 4 (L.getD i 0)) + (tn (h 4 (L.getD j 0))) + (tn (h 4 (L.getD k 0))) : Nat) : Int) (((u : Nat) : Int) - ((g : Nat) : Int)) dX9_shorts_303 333 (by decide) 306 rfl (nI_toInt (by omega)) (zI_toInt (by omega)) (fun t303 => ?_) (fun f303 => ?_)
                                            · skip
                                              refine g_iinc X (v := (nI (k + 1))) (lv' := [(0, .ref (kad K (0))), (1, .int (nI (f))), (2, .int (nI (g))), (3, .int (zI (((u : Nat) : Int) - ((g : Nat) : Int)))), (4, .int (nI (i))), (5, .int (nI (j))), (6, .int (nI (k + 1)))]) dX9_shorts_333 336 rfl (by decide) rfl (n_inc k 1) rfl rfl ?_
                                              refine g_goto X dX9_shorts_336 255 (by decide) ?_
                                              skip
                                              exact ih255 (k + 1) (by omega) (by omega) (e3k.trans (qk_none (by omega) (qk0_f (fun z => t303 (by have y := shK3.mp z; omega))))) (by omega)
                                            · skip
                                              refine g_aload_n X dX9_shorts_306 307 rfl rfl ?_
                                              refine g_iconst X dX9_shorts_307 308 rfl (v := (nI (3))) rfl ?_
                                              refine g_aload_n X dX9_shorts_308 309 rfl rfl ?_
                                              refine g_get (c := 0) (k := 19) (T := TX9) (sk := skM0) (v := .ref (kad K (14))) X wf_X9_60 inX9 dX9_shorts_309 312 rfl (by decide) rfl rfl (by decide) rfl ?_
                                              refine g_iload X dX9_shorts_312 314 rfl rfl ?_
                                              refine g_iald (c := 14) (n := 24) (r := 14) (o := 0) (i := i) (v := (nI (L.getD i 0))) X dX9_shorts_314 315 rfl (by decide) rfl rfl (by omega) (grow_at (by omega) (by omega)) ?_
                                              refine g_aload_n X dX9_shorts_315 316 rfl rfl ?_
                                              refine g_get (c := 0) (k := 19) (T := TX9) (sk := skM0) (v := .ref (kad K (14))) X wf_X9_60 inX9 dX9_shorts_316 319 rfl (by decide) rfl rfl (by decide) rfl ?_
                                              refine g_iload X dX9_shorts_319 321 rfl rfl ?_
                                              refine g_iald (c := 14) (n := 24) (r := 14) (o := 0) (i := j) (v := (nI (L.getD j 0))) X dX9_shorts_321 322 rfl (by decide) rfl rfl (by omega) (grow_at (by omega) (by omega)) ?_
                                              refine g_aload_n X dX9_shorts_322 323 rfl rfl ?_
                                              refine g_get (c := 0) (k := 19) (T := TX9) (sk := skM0) (v := .ref (kad K (14))) X wf_X9_60 inX9 dX9_shorts_323 326 rfl (by decide) rfl rfl (by decide) rfl ?_
                                              refine g_iload X dX9_shorts_326 328 rfl rfl ?_
                                              refine g_iald (c := 14) (n := 24) (r := 14) (o := 0) (i := k) (v := (nI (L.getD k 0))) X dX9_shorts_328 329 rfl (by decide) rfl rfl (by omega) (grow_at (by omega) (by omega)) ?_
                                              refine g_callVix (st := []) (v := (nI (3))) (m2 := (pkM (mrow (mup h 0 18 (nI (L.length))) 14 (grow L 24 (h 14))) (nI (3)) (nI (L.getD i 0)) (nI (L.getD j 0)) (nI (L.getD k 0)))) X cw_X9_202 (c_M_pick (mrow (mup h 0 18 (nI (L.length))) 14 (grow L 24 (h 14))) (nI (3)) (nI (L.getD i 0)) (nI (L.getD j 0)) (nI (L.getD k 0))) dX9_shorts_329 332 rfl (by decide) rfl rfl rfl rfl rfl (by decide) (Nat.le_of_ble_eq_true rfl) ?_
                                              refine g_iret (h := (pkM (mrow (mup h 0 18 (nI (L.length))) 14 (grow L 24 (h 14))) (nI (3)) (nI (L.getD i 0)) (nI (L.getD j 0)) (nI (L.getD k 0)))) (v := (nI (3))) X Z dX9_shorts_332 ?_
                                              have eR : (tryP (fun r => qk (shK (h 4) (((sumT (h 4) (glB (uil (h 1) (h 5) (((tn (nI f)) : Nat) : Int)) n) : Nat) : Int) - (((tn (nI g)) : Nat) : Int))) (glB (uil (h 1) (h 5) (((tn (nI f)) : Nat) : Int)) n) r 0 []) 4 0) = some [L.getD i 0, L.getD j 0, L.getD k 0] := by
                                                rw [ef, eg, ← hL, ← hu9]
                                                exact (tryP_none (F := fun r => qk (shK (h 4) (((u : Nat) : Int) - ((g : Nat) : Int))) L r 0 []) (qk0_f (fun z => t72 (shK0.mp z)))).trans ((tryP_none (F := fun r => qk (shK (h 4) (((u : Nat) : Int) - ((g : Nat) : Int))) L r 0 []) (e1_.trans (qk_end hi_1))).trans ((tryP_none (F := fun r => qk (shK (h 4) (((u : Nat) : Int) - ((g : Nat) : Int))) L r 0 []) (e2_.trans (qk_end hi_2))).trans (tryP_some (F := fun r => qk (shK (h 4) (((u : Nat) : Int) - ((g : Nat) : Int))) L r 0 []) (e3.trans (qk_some (by omega) (e3j.trans (qk_some (by omega) (e3k.trans (qk_some (by omega) (qk0_t (shK3.mpr (by omega))))))))))))
                                              exact pick_post (c := isC m (nI f) ∧ (0 ≤ (nI g).toInt ∧ (nI g).toInt ≤ 9999)) [L.getD i 0, L.getD j 0, L.getD k 0] (list_mag h _ _) ⟨f13, t25⟩ eR (Nat.le_of_ble_eq_true rfl)
                                      skip
                                      exact lp255 _ (j + 1) (by omega) (by omega) rfl (Nat.lt_succ_self _)
                                skip
                                exact lp240 _ (i + 1) (by omega) (by omega) rfl (Nat.lt_succ_self _)
                          skip
                          exact lp225 _ 0 (by omega) rfl (Nat.lt_succ_self _)
                        · skip
                          refine g_iload X dX9_shorts_145 147 rfl rfl ?_
                          refine g_iconst X dX9_shorts_147 148 rfl (v := (nI (1))) rfl ?_
                          refine g_iadd X (v := (nI (i + 1))) dX9_shorts_148 149 rfl (nI_add i 1) ?_
                          refine g_istore X (lv' := [(0, .ref (kad K (0))), (1, .int (nI (f))), (2, .int (nI (g))), (3, .int (zI (((u : Nat) : Int) - ((g : Nat) : Int)))), (4, .int (nI (i))), (5, .int (nI (i + 1)))]) dX9_shorts_149 151 rfl (by decide) rfl rfl ?_
                          have lp151 : ∀ (fu : Nat) (j : Nat) (hj : j ≤ L.length) (hj2 : i < j) (e2j : qk (shK (h 4) (((u : Nat) : Int) - ((g : Nat) : Int))) L 1 (i + 1) ([] ++ [L.getD i 0]) = tryP (fun b => qk (shK (h 4) (((u : Nat) : Int) - ((g : Nat) : Int))) L 0 (b + 1) (([] ++ [L.getD i 0]) ++ [L.getD b 0])) (L.length - j) j), L.length - j < fu → G 25 ML 7 K (mrow (mup h 0 18 (nI (L.length))) 14 (grow L 24 (h 14))) 151 [(0, .ref (kad K (0))), (1, .int (nI (f))), (2, .int (nI (g))), (3, .int (zI (((u : Nat) : Int) - ((g : Nat) : Int)))), (4, .int (nI (i))), (5, .int (nI (j)))] [] := by
                            intro fu
                            induction fu with
                            | zero => intro j hj hj2 e2j hm; exact absurd hm (Nat.not_lt_zero _)
                            | succ fu ih151 =>
                              intro j hj hj2 e2j hm151
                              refine g_iload X dX9_shorts_151 153 rfl rfl ?_
                              refine g_aload_n X dX9_shorts_153 154 rfl rfl ?_
                              refine g_get (c := 0) (k := 18) (T := TX9) (sk := skM0) (v := .int (nI (L.length))) X wf_X9_176 inX9 dX9_shorts_154 157 rfl (by decide) rfl rfl (by decide) rfl ?_
                              refine g_icmp_ge X ((j : Nat) : Int) ((L.length : Nat) : Int) dX9_shorts_157 216 (by decide) 160 rfl (nI_toInt (by omega)) (nI_toInt (by omega)) (fun t157 => ?_) (fun f157 => ?_)
                              · skip
                                refine g_iinc X (v := (nI (i + 1))) (lv' := [(0, .ref (kad K (0))), (1, .int (nI (f))), (2, .int (nI (g))), (3, .int (zI (((u : Nat) : Int) - ((g : Nat) : Int)))), (4, .int (nI (i + 1))), (5, .int (nI (j)))]) dX9_shorts_216 219 rfl (by decide) rfl (n_inc i 1) rfl rfl ?_
                                refine g_goto X dX9_shorts_219 136 (by decide) ?_
                                refine g_sub [0, 1, 2, 3, 4] rfl ?_
                                exact ih136 (i + 1) (by omega) (e2.trans (qk_none (by omega) (e2j.trans (qk_end (by omega))))) (by omega)
                              · skip
                                have ha_i := hLm i (by omega)
                                have hb_i := (hc _ ha_i).tu.2.2
                                have ha_j := hLm j (by omega)
                                have hb_j := (hc _ ha_j).tu.2.2
                                refine g_aload_n X dX9_shorts_160 161 rfl rfl ?_
                                refine g_get (c := 0) (k := 7) (T := TX9) (sk := skM0) (v := .ref (kad K (4))) X wf_X9_29 inX9 dX9_shorts_161 164 rfl (by decide) rfl rfl (by decide) rfl ?_
                                refine g_aload_n X dX9_shorts_164 165 rfl rfl ?_
                                refine g_get (c := 0) (k := 19) (T := TX9) (sk := skM0) (v := .ref (kad K (14))) X wf_X9_60 inX9 dX9_shorts_165 168 rfl (by decide) rfl rfl (by decide) rfl ?_
                                refine g_iload X dX9_shorts_168 170 rfl rfl ?_
                                refine g_iald (c := 14) (n := 24) (r := 14) (o := 0) (i := i) (v := (nI (L.getD i 0))) X dX9_shorts_170 171 rfl (by decide) rfl rfl (by omega) (grow_at (by omega) (by omega)) ?_
                                refine g_iald (c := 4) (n := 24) (r := 4) (o := 0) (i := L.getD i 0) (v := (nI (tn (h 4 (L.getD i 0))))) X dX9_shorts_171 172 rfl (by decide) rfl rfl (by omega) ((hc _ (hLm _ (by omega))).tu.1) ?_
                                refine g_aload_n X dX9_shorts_172 173 rfl rfl ?_
                                refine g_get (c := 0) (k := 7) (T := TX9) (sk := skM0) (v := .ref (kad K (4))) X wf_X9_29 inX9 dX9_shorts_173 176 rfl (by decide) rfl rfl (by decide) rfl ?_
                                refine g_aload_n X dX9_shorts_176 177 rfl rfl ?_
                                refine g_get (c := 0) (k := 19) (T := TX9) (sk := skM0) (v := .ref (kad K (14))) X wf_X9_60 inX9 dX9_shorts_177 180 rfl (by decide) rfl rfl (by decide) rfl ?_
                                refine g_iload X dX9_shorts_180 182 rfl rfl ?_
                                refine g_iald (c := 14) (n := 24) (r := 14) (o := 0) (i := j) (v := (nI (L.getD j 0))) X dX9_shorts_182 183 rfl (by decide) rfl rfl (by omega) (grow_at (by omega) (by omega)) ?_
                                refine g_iald (c := 4) (n := 24) (r := 4) (o := 0) (i := L.getD j 0) (v := (nI (tn (h 4 (L.getD j 0))))) X dX9_shorts_183 184 rfl (by decide) rfl rfl (by omega) ((hc _ (hLm _ (by omega))).tu.1) ?_
                                refine g_iadd X (v := (nI (tn (h 4 (L.getD i 0)) + (tn (h 4 (L.getD j 0)))))) dX9_shorts_184 185 rfl (nI_add (tn (h 4 (L.getD i 0))) (tn (h 4 (L.getD j 0)))) ?_
                                refine g_iload_n X dX9_shorts_185 186 rfl rfl ?_
                                refine g_icmp_ne X ((tn (h 4 (L.getD i 0)) + (tn (h 4 (L.getD j 0))) : Nat) : Int) (((u : Nat) : Int) - ((g : Nat) : Int)) dX9_shorts_186 210 (by decide) 189 rfl (nI_toInt (by omega)) (zI_toInt (by omega)) (fun t186 => ?_) (fun f186 => ?_)
                                · skip
                                  refine g_iinc X (v := (nI (j + 1))) (lv' := [(0, .ref (kad K (0))), (1, .int (nI (f))), (2, .int (nI (g))), (3, .int (zI (((u : Nat) : Int) - ((g : Nat) : Int)))), (4, .int (nI (i))), (5, .int (nI (j + 1)))]) dX9_shorts_210 213 rfl (by decide) rfl (n_inc j 1) rfl rfl ?_
                                  refine g_goto X dX9_shorts_213 151 (by decide) ?_
                                  skip
                                  exact ih151 (j + 1) (by omega) (by omega) (e2j.trans (qk_none (by omega) (qk0_f (fun z => t186 (by have y := shK2.mp z; omega))))) (by omega)
                                · skip
                                  refine g_aload_n X dX9_shorts_189 190 rfl rfl ?_
                                  refine g_iconst X dX9_shorts_190 191 rfl (v := (nI (2))) rfl ?_
                                  refine g_aload_n X dX9_shorts_191 192 rfl rfl ?_
                                  refine g_get (c := 0) (k := 19) (T := TX9) (sk := skM0) (v := .ref (kad K (14))) X wf_X9_60 inX9 dX9_shorts_192 195 rfl (by decide) rfl rfl (by decide) rfl ?_
                                  refine g_iload X dX9_shorts_195 197 rfl rfl ?_
                                  refine g_iald (c := 14) (n := 24) (r := 14) (o := 0) (i := i) (v := (nI (L.getD i 0))) X dX9_shorts_197 198 rfl (by decide) rfl rfl (by omega) (grow_at (by omega) (by omega)) ?_
                                  refine g_aload_n X dX9_shorts_198 199 rfl rfl ?_
                                  refine g_get (c := 0) (k := 19) (T := TX9) (sk := skM0) (v := .ref (kad K (14))) X wf_X9_60 inX9 dX9_shorts_199 202 rfl (by decide) rfl rfl (by decide) rfl ?_
                                  refine g_iload X dX9_shorts_202 204 rfl rfl ?_
                                  refine g_iald (c := 14) (n := 24) (r := 14) (o := 0) (i := j) (v := (nI (L.getD j 0))) X dX9_shorts_204 205 rfl (by decide) rfl rfl (by omega) (grow_at (by omega) (by omega)) ?_
                                  refine g_iconst X dX9_shorts_205 206 rfl (v := (nI (0))) rfl ?_
                                  refine g_callVix (st := []) (v := (nI (2))) (m2 := (pkM (mrow (mup h 0 18 (nI (L.length))) 14 (grow L 24 (h 14))) (nI (2)) (nI (L.getD i 0)) (nI (L.getD j 0)) (nI (0)))) X cw_X9_202 (c_M_pick (mrow (mup h 0 18 (nI (L.length))) 14 (grow L 24 (h 14))) (nI (2)) (nI (L.getD i 0)) (nI (L.getD j 0)) (nI (0))) dX9_shorts_206 209 rfl (by decide) rfl rfl rfl rfl rfl (by decide) (Nat.le_of_ble_eq_true rfl) ?_
                                  refine g_iret (h := (pkM (mrow (mup h 0 18 (nI (L.length))) 14 (grow L 24 (h 14))) (nI (2)) (nI (L.getD i 0)) (nI (L.getD j 0)) (nI (0)))) (v := (nI (2))) X Z dX9_shorts_209 ?_
                                  have eR : (tryP (fun r => qk (shK (h 4) (((sumT (h 4) (glB (uil (h 1) (h 5) (((tn (nI f)) : Nat) : Int)) n) : Nat) : Int) - (((tn (nI g)) : Nat) : Int))) (glB (uil (h 1) (h 5) (((tn (nI f)) : Nat) : Int)) n) r 0 []) 4 0) = some [L.getD i 0, L.getD j 0] := by
                                    rw [ef, eg, ← hL, ← hu9]
                                    exact (tryP_none (F := fun r => qk (shK (h 4) (((u : Nat) : Int) - ((g : Nat) : Int))) L r 0 []) (qk0_f (fun z => t72 (shK0.mp z)))).trans ((tryP_none (F := fun r => qk (shK (h 4) (((u : Nat) : Int) - ((g : Nat) : Int))) L r 0 []) (e1_.trans (qk_end hi_1))).trans (tryP_some (F := fun r => qk (shK (h 4) (((u : Nat) : Int) - ((g : Nat) : Int))) L r 0 []) (e2.trans (qk_some (by omega) (e2j.trans (qk_some (by omega) (qk0_t (shK2.mpr (by omega)))))))))
                                  exact pick_post (c := isC m (nI f) ∧ (0 ≤ (nI g).toInt ∧ (nI g).toInt ≤ 9999)) [L.getD i 0, L.getD j 0] (list_mag h _ _) ⟨f13, t25⟩ eR (Nat.le_of_ble_eq_true rfl)
                          skip
                          exact lp151 _ (i + 1) (by omega) (by omega) rfl (Nat.lt_succ_self _)
                    skip
                    exact lp136 _ 0 (by omega) rfl (Nat.lt_succ_self _)
                  · skip
                    have ha_i := hLm i (by omega)
                    have hb_i := (hc _ ha_i).tu.2.2
                    refine g_aload_n X dX9_shorts_96 97 rfl rfl ?_
                    refine g_get (c := 0) (k := 7) (T := TX9) (sk := skM0) (v := .ref (kad K (4))) X wf_X9_29 inX9 dX9_shorts_97 100 rfl (by decide) rfl rfl (by decide) rfl ?_
                    refine g_aload_n X dX9_shorts_100 101 rfl rfl ?_
                    refine g_get (c := 0) (k := 19) (T := TX9) (sk := skM0) (v := .ref (kad K (14))) X wf_X9_60 inX9 dX9_shorts_101 104 rfl (by decide) rfl rfl (by decide) rfl ?_
                    refine g_iload X dX9_shorts_104 106 rfl rfl ?_
                    refine g_iald (c := 14) (n := 24) (r := 14) (o := 0) (i := i) (v := (nI (L.getD i 0))) X dX9_shorts_106 107 rfl (by decide) rfl rfl (by omega) (grow_at (by omega) (by omega)) ?_
                    refine g_iald (c := 4) (n := 24) (r := 4) (o := 0) (i := L.getD i 0) (v := (nI (tn (h 4 (L.getD i 0))))) X dX9_shorts_107 108 rfl (by decide) rfl rfl (by omega) ((hc _ (hLm _ (by omega))).tu.1) ?_
                    refine g_iload_n X dX9_shorts_108 109 rfl rfl ?_
                    refine g_icmp_ne X ((tn (h 4 (L.getD i 0)) : Nat) : Int) (((u : Nat) : Int) - ((g : Nat) : Int)) dX9_shorts_109 127 (by decide) 112 rfl (nI_toInt (by omega)) (zI_toInt (by omega)) (fun t109 => ?_) (fun f109 => ?_)
                    · skip
                      refine g_iinc X (v := (nI (i + 1))) (lv' := [(0, .ref (kad K (0))), (1, .int (nI (f))), (2, .int (nI (g))), (3, .int (zI (((u : Nat) : Int) - ((g : Nat) : Int)))), (4, .int (nI (i + 1)))]) dX9_shorts_127 130 rfl (by decide) rfl (n_inc i 1) rfl rfl ?_
                      refine g_goto X dX9_shorts_130 87 (by decide) ?_
                      skip
                      exact ih87 (i + 1) (by omega) (e1.trans (qk_none (by omega) (qk0_f (fun z => t109 (by have y := shK1.mp z; omega))))) (by omega)
                    · skip
                      refine g_aload_n X dX9_shorts_112 113 rfl rfl ?_
                      refine g_iconst X dX9_shorts_113 114 rfl (v := (nI (1))) rfl ?_
                      refine g_aload_n X dX9_shorts_114 115 rfl rfl ?_
                      refine g_get (c := 0) (k := 19) (T := TX9) (sk := skM0) (v := .ref (kad K (14))) X wf_X9_60 inX9 dX9_shorts_115 118 rfl (by decide) rfl rfl (by decide) rfl ?_
                      refine g_iload X dX9_shorts_118 120 rfl rfl ?_
                      refine g_iald (c := 14) (n := 24) (r := 14) (o := 0) (i := i) (v := (nI (L.getD i 0))) X dX9_shorts_120 121 rfl (by decide) rfl rfl (by omega) (grow_at (by omega) (by omega)) ?_
                      refine g_iconst X dX9_shorts_121 122 rfl (v := (nI (0))) rfl ?_
                      refine g_iconst X dX9_shorts_122 123 rfl (v := (nI (0))) rfl ?_
                      refine g_callVix (st := []) (v := (nI (1))) (m2 := (pkM (mrow (mup h 0 18 (nI (L.length))) 14 (grow L 24 (h 14))) (nI (1)) (nI (L.getD i 0)) (nI (0)) (nI (0)))) X cw_X9_202 (c_M_pick (mrow (mup h 0 18 (nI (L.length))) 14 (grow L 24 (h 14))) (nI (1)) (nI (L.getD i 0)) (nI (0)) (nI (0))) dX9_shorts_123 126 rfl (by decide) rfl rfl rfl rfl rfl (by decide) (Nat.le_of_ble_eq_true rfl) ?_
                      refine g_iret (h := (pkM (mrow (mup h 0 18 (nI (L.length))) 14 (grow L 24 (h 14))) (nI (1)) (nI (L.getD i 0)) (nI (0)) (nI (0)))) (v := (nI (1))) X Z dX9_shorts_126 ?_
                      have eR : (tryP (fun r => qk (shK (h 4) (((sumT (h 4) (glB (uil (h 1) (h 5) (((tn (nI f)) : Nat) : Int)) n) : Nat) : Int) - (((tn (nI g)) : Nat) : Int))) (glB (uil (h 1) (h 5) (((tn (nI f)) : Nat) : Int)) n) r 0 []) 4 0) = some [L.getD i 0] := by
                        rw [ef, eg, ← hL, ← hu9]
                        exact (tryP_none (F := fun r => qk (shK (h 4) (((u : Nat) : Int) - ((g : Nat) : Int))) L r 0 []) (qk0_f (fun z => t72 (shK0.mp z)))).trans (tryP_some (F := fun r => qk (shK (h 4) (((u : Nat) : Int) - ((g : Nat) : Int))) L r 0 []) (e1.trans (qk_some (by omega) (qk0_t (shK1.mpr (by omega))))))
                      exact pick_post (c := isC m (nI f) ∧ (0 ≤ (nI g).toInt ∧ (nI g).toInt ≤ 9999)) [L.getD i 0] (list_mag h _ _) ⟨f13, t25⟩ eR (Nat.le_of_ble_eq_true rfl)
              skip
              exact lp87 _ 0 (by omega) rfl (Nat.lt_succ_self _)
            · skip
              refine g_aload_n X dX9_shorts_75 76 rfl rfl ?_
              refine g_iconst X dX9_shorts_76 77 rfl (v := (nI (0))) rfl ?_
              refine g_iconst X dX9_shorts_77 78 rfl (v := (nI (0))) rfl ?_
              refine g_iconst X dX9_shorts_78 79 rfl (v := (nI (0))) rfl ?_
              refine g_iconst X dX9_shorts_79 80 rfl (v := (nI (0))) rfl ?_
              refine g_callVix (st := []) (v := (nI (0))) (m2 := (pkM (mrow (mup h 0 18 (nI (L.length))) 14 (grow L 24 (h 14))) (nI (0)) (nI (0)) (nI (0)) (nI (0)))) X cw_X9_202 (c_M_pick (mrow (mup h 0 18 (nI (L.length))) 14 (grow L 24 (h 14))) (nI (0)) (nI (0)) (nI (0)) (nI (0))) dX9_shorts_80 83 rfl (by decide) rfl rfl rfl rfl rfl (by decide) (Nat.le_of_ble_eq_true rfl) ?_
              refine g_iret (h := (pkM (mrow (mup h 0 18 (nI (L.length))) 14 (grow L 24 (h 14))) (nI (0)) (nI (0)) (nI (0)) (nI (0)))) (v := (nI (0))) X Z dX9_shorts_83 ?_
              have eR : (tryP (fun r => qk (shK (h 4) (((sumT (h 4) (glB (uil (h 1) (h 5) (((tn (nI f)) : Nat) : Int)) n) : Nat) : Int) - (((tn (nI g)) : Nat) : Int))) (glB (uil (h 1) (h 5) (((tn (nI f)) : Nat) : Int)) n) r 0 []) 4 0) = some [] := by
                rw [ef, eg, ← hL, ← hu9]
                exact tryP_some (F := fun r => qk (shK (h 4) (((u : Nat) : Int) - ((g : Nat) : Int))) L r 0 []) (qk0_t (shK0.mpr f72))
              exact pick_post (c := isC m (nI f) ∧ (0 ≤ (nI g).toInt ∧ (nI g).toInt ≤ 9999)) [] (list_mag h _ _) ⟨f13, t25⟩ eR (Nat.le_of_ble_eq_true rfl)
          · skip
            refine g_iload_n X dX9_shorts_50 51 rfl rfl ?_
            have ha_k := hLm k (by omega)
            have hb_k := (hc _ ha_k).tu.2.2
            refine g_aload_n X dX9_shorts_51 52 rfl rfl ?_
            refine g_get (c := 0) (k := 7) (T := TX9) (sk := skM0) (v := .ref (kad K (4))) X wf_X9_29 inX9 dX9_shorts_52 55 rfl (by decide) rfl rfl (by decide) rfl ?_
            refine g_aload_n X dX9_shorts_55 56 rfl rfl ?_
            refine g_get (c := 0) (k := 19) (T := TX9) (sk := skM0) (v := .ref (kad K (14))) X wf_X9_60 inX9 dX9_shorts_56 59 rfl (by decide) rfl rfl (by decide) rfl ?_
            refine g_iload X dX9_shorts_59 61 rfl rfl ?_
            refine g_iald (c := 14) (n := 24) (r := 14) (o := 0) (i := k) (v := (nI (L.getD k 0))) X dX9_shorts_61 62 rfl (by decide) rfl rfl (by omega) (grow_at (by omega) (by omega)) ?_
            refine g_iald (c := 4) (n := 24) (r := 4) (o := 0) (i := L.getD k 0) (v := (nI (tn (h 4 (L.getD k 0))))) X dX9_shorts_62 63 rfl (by decide) rfl rfl (by omega) ((hc _ (hLm _ (by omega))).tu.1) ?_
            refine g_iadd X (v := (zI (((u + tn (h 4 (L.getD k 0)) : Nat) : Int) - ((g : Nat) : Int)))) dX9_shorts_63 64 rfl (sh_add u g _) ?_
            refine g_istore_n X (lv' := [(0, .ref (kad K (0))), (1, .int (nI (f))), (2, .int (nI (g))), (3, .int (zI (((u + tn (h 4 (L.getD k 0)) : Nat) : Int) - ((g : Nat) : Int)))), (4, .int (nI (k)))]) dX9_shorts_64 65 rfl (by decide) rfl rfl ?_
            refine g_iinc X (v := (nI (k + 1))) (lv' := [(0, .ref (kad K (0))), (1, .int (nI (f))), (2, .int (nI (g))), (3, .int (zI (((u + tn (h 4 (L.getD k 0)) : Nat) : Int) - ((g : Nat) : Int)))), (4, .int (nI (k + 1)))]) dX9_shorts_65 68 rfl (by decide) rfl (n_inc k 1) rfl rfl ?_
            refine g_goto X dX9_shorts_68 41 (by decide) ?_
            skip
            exact ih41 (k + 1) (u + tn (h 4 (L.getD k 0))) (by omega) (by rw [take_s (by omega), sumT_app, hu]) (by omega) (by omega)
      skip
      exact lp41 _ 0 0 (by omega) (by simp [sumT]) (by omega) (Nat.lt_succ_self _)
    · skip
      refine g_iconst X dX9_shorts_28 29 rfl (v := (zI (-1))) rfl ?_
      refine g_iret (h := h) (v := (zI (-1))) X Z dX9_shorts_29 ?_
      exact bad_post (fun z => f25 z.2)
