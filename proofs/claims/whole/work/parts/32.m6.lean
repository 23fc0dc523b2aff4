theorem mag_w {h g : Mem} {l l' F F' : List Nat} (hg : mag h g l F) (a : ∀ x, x ∈ l → x ∈ l') (b : ∀ x, x ∈ F → x ∈ F') : mag h g l' F' := ⟨fun c c0 hc => hg.1 c c0 (fun z => hc (a c z)), fun j hj => hg.2 j (fun z => hj (b j z))⟩
theorem mag_tr {h g k : Mem} {l F : List Nat} (a : mag h g l F) (b : mag g k l F) : mag h k l F := ⟨fun c c0 hc => (b.1 c c0 hc).trans (a.1 c c0 hc), fun j hj => (b.2 j hj).trans (a.2 j hj)⟩
theorem mag_MC {h g : Mem} {l F : List Nat} {q p m n d : Nat} (C : MC h q p m n d) (hg : mag h g l F) (hl : 1 ∉ l ∧ 2 ∉ l ∧ 3 ∉ l ∧ 4 ∉ l ∧ 5 ∉ l) (hF : 0 ∉ F ∧ 1 ∉ F ∧ 2 ∉ F ∧ 3 ∉ F ∧ 10 ∉ F) : MC g q p m n d := by
  obtain ⟨hq, hp, hm, hq1, hq2, hp1, hp2, hm1, hm2, hn, hn2, hc, hd, hd1, hd2⟩ := C
  obtain ⟨l1, l2, l3, l4, l5⟩ := hl
  obtain ⟨f0, f1, f2, f3, f10⟩ := hF
  refine ⟨(hg.2 0 f0).trans hq, (hg.2 1 f1).trans hp, (hg.2 2 f2).trans hm, hq1, hq2, hp1, hp2, hm1, hm2, (hg.2 3 f3).trans hn, hn2, ?_, (hg.2 10 f10).trans hd, hd1, hd2⟩
  rw [hg.1 1 (by decide) l1, hg.1 2 (by decide) l2, hg.1 3 (by decide) l3, hg.1 4 (by decide) l4, hg.1 5 (by decide) l5]
  exact hc
theorem mc_use {g : Mem} {q p m n d : Nat} {v : Int32} (C : MC g q p m n d) (hv : v = nI 0 ∨ v = nI 1) (k : Nat) : MC (mup g 5 k v) q p m n d := by
  obtain ⟨hq, hp, hm, hq1, hq2, hp1, hp2, hm1, hm2, hn, hn2, hc, hd, hd1, hd2⟩ := C
  refine ⟨hq, hp, hm, hq1, hq2, hp1, hp2, hm1, hm2, hn, hn2, fun j hj => ?_, hd, hd1, hd2⟩
  show coilOK q m (g 1 j) (g 2 j) (g 3 j) (g 4 j) (upd (g 5) k v j)
  obtain ⟨a1, a2, a3, a4, a5, a6, a7, a8, a9, a10, a11⟩ := hc j hj
  refine ⟨a1, a2, a3, a4, a5, a6, a7, a8, a9, a10, ?_⟩
  by_cases e : j = k
  · rw [e, upd_s]; exact hv
  · rw [upd_n _ _ e]; exact a11
def mndB (h : Mem) (q p m n d : Nat) : Bool := decide (0 ≤ (scanV (balP h q m n d p) q 0).toInt) && !(zrB (fwZ h q n d 0 p) q)
theorem mnd_congr {g h : Mem} {q p m n d : Nat} (e1 : g 1 = h 1) (e2 : g 2 = h 2) (e3 : g 3 = h 3) (e4 : g 4 = h 4) (e5 : g 5 = h 5) (e7 : g 7 = h 7) : mndB g q p m n d = mndB h q p m n d := by
  have a : balP g q m n d p = balP h q m n d p := by
    funext s
    unfold balP tzB
    have b : blG g q n d p s = blG h q n d p s := by
      funext f
      unfold blG
      rw [e1, e2, e3, e4, e5, e7]
    rw [b, e2, e3, e4, e5, e7]
  unfold mndB fwZ
  rw [a, e1, e2, e3, e4, e5, e7]
def usF (us : Nat → Int32) (l : List Nat) : Nat → Int32 := l.foldl (fun f k => upd f k (nI 0)) us
def okN (h : Mem) (q p m n d : Nat) (l : List Nat) : Bool := mndB (mrow h 5 (usF (h 5) l)) q p m n d
theorem okN_0 (h : Mem) (q p m n d : Nat) : okN h q p m n d [] = mndB h q p m n d := by
  show mndB (mrow h 5 (h 5)) q p m n d = _
  rw [mrow_id]
def MD (h g : Mem) (L : List Nat) : Prop := g 0 18 = nI L.length ∧ (∀ i, i < L.length → g 14 i = nI (L.getD i 0)) ∧ mag h g [12, 13, 14] [18]
theorem md_mc {h g : Mem} {L : List Nat} {q p m n d : Nat} (C : MC h q p m n d) (D : MD h g L) : MC g q p m n d := mag_MC C D.2.2 (by decide) (by decide)
theorem okN_1 {h g : Mem} {L : List Nat} {q p m n d k : Nat} (D : MD h g L) : mndB (mup g 5 k (nI 0)) q p m n d = okN h q p m n d ([] ++ [k]) := by
  obtain ⟨-, -, hg⟩ := D
  refine mnd_congr (hg.1 1 (by decide) (by decide)) (hg.1 2 (by decide) (by decide)) (hg.1 3 (by decide) (by decide)) (hg.1 4 (by decide) (by decide)) ?_ (hg.1 7 (by decide) (by decide))
  show upd (g 5) k (nI 0) = upd (h 5) k (nI 0)
  rw [hg.1 5 (by decide) (by decide)]
theorem okN_2 {h g : Mem} {L : List Nat} {q p m n d k j : Nat} (D : MD h g L) : mndB (mup (mup g 5 k (nI 0)) 5 j (nI 0)) q p m n d = okN h q p m n d ([] ++ [k] ++ [j]) := by
  obtain ⟨-, -, hg⟩ := D
  refine mnd_congr (hg.1 1 (by decide) (by decide)) (hg.1 2 (by decide) (by decide)) (hg.1 3 (by decide) (by decide)) (hg.1 4 (by decide) (by decide)) ?_ (hg.1 7 (by decide) (by decide))
  show upd (upd (g 5) k (nI 0)) j (nI 0) = upd (upd (h 5) k (nI 0)) j (nI 0)
  rw [hg.1 5 (by decide) (by decide)]
theorem md_b1 {h g x : Mem} {L : List Nat} {k : Nat} (D : MD h g L) (hk : h 5 k = nI 1) (a : mag (mup g 5 k (nI 0)) x [12, 13] []) : MD h (mup x 5 k (nI 1)) L := by
  obtain ⟨d1, d2, hg⟩ := D
  refine ⟨(a.2 18 (by decide)).trans d1, fun i hi => (congrFun (a.1 14 (by decide) (by decide)) i).trans (d2 i hi), fun c c0 hc => ?_, fun j hj => (a.2 j (by simp)).trans (hg.2 j hj)⟩
  by_cases e : c = 5
  · subst e
    have e5 : x 5 = upd (g 5) k (nI 0) := a.1 5 (by decide) (by decide)
    funext j
    show upd (x 5) k (nI 1) j = h 5 j
    by_cases ej : j = k
    · rw [ej, upd_s, hk]
    · rw [upd_n _ _ ej, e5, upd_n _ _ ej, hg.1 5 (by decide) (by decide)]
  · rw [mup_n _ _ e]
    refine (a.1 c c0 (fun z => hc ?_)).trans ((mup_n _ _ e).trans (hg.1 c c0 hc))
    simp at z ⊢; omega
theorem md_b2 {h g x : Mem} {L : List Nat} {k i0 : Nat} (D : MD h g L) (hk : h 5 k = nI 1) (hi : h 5 i0 = nI 1) (a : mag (mup (mup g 5 k (nI 0)) 5 i0 (nI 0)) x [12, 13] []) : MD h (mup (mup x 5 k (nI 1)) 5 i0 (nI 1)) L := by
  obtain ⟨d1, d2, hg⟩ := D
  refine ⟨(a.2 18 (by decide)).trans d1, fun i hi => (congrFun (a.1 14 (by decide) (by decide)) i).trans (d2 i hi), fun c c0 hc => ?_, fun j hj => (a.2 j (by simp)).trans (hg.2 j hj)⟩
  by_cases e : c = 5
  · subst e
    have e5 : x 5 = upd (upd (g 5) k (nI 0)) i0 (nI 0) := a.1 5 (by decide) (by decide)
    funext j
    show upd (upd (x 5) k (nI 1)) i0 (nI 1) j = h 5 j
    by_cases ei : j = i0
    · rw [ei, upd_s, hi]
    · rw [upd_n _ _ ei]
      by_cases ej : j = k
      · rw [ej, upd_s, hk]
      · rw [upd_n _ _ ej, e5, upd_n _ _ ei, upd_n _ _ ej, hg.1 5 (by decide) (by decide)]
  · rw [mup_n _ _ e, mup_n _ _ e]
    refine (a.1 c c0 (fun z => hc ?_)).trans ((mup_n _ _ e).trans ((mup_n _ _ e).trans (hg.1 c c0 hc)))
    simp at z ⊢; omega
theorem post1 {r a v : Int32} {F G : Nat → Int32} {res : Option (List Nat)} {D : Prop} (x : r = (if True then pkV res else zI (-1)) ∧ a = pkN v (ifO True res) ∧ pkQ F G (ifO True res) ∧ D) : r = pkV res ∧ a = pkN v res ∧ pkQ F G res ∧ D := x
theorem post1_w {r a v : Int32} {F G : Nat → Int32} {res : Option (List Nat)} {D E : Prop} (x : r = (if True then pkV res else zI (-1)) ∧ a = pkN v (ifO True res) ∧ pkQ F G (ifO True res) ∧ D) (w : D → E) : r = pkV res ∧ a = pkN v res ∧ pkQ F G res ∧ E := ⟨x.1, x.2.1, x.2.2.1, w x.2.2.2⟩
set_option maxHeartbeats 1000000 in
set_option maxRecDepth 100000 in
theorem c_M_isMended (h : Mem) (q p m n d : Nat) (C : MC h q p m n d) : cI 25 ML yX9_isMended cX9_isMended 1 (some .boolean) 3 74 (fun ad => [.ref (ad (0))]) h (fun r h2 => r = bI (mndB h q p m n d = true) ∧ mag h h2 [12, 13] []) := by
  refine cI_of MLW (by decide +kernel) (fun ad => Nat.le_of_ble_eq_true rfl) ?_
  intro K X Z
  obtain ⟨hq, hp, hm, hq1, hq2, hp1, hp2, hm1, hm2, hn, hn2, hc, hd, hd1, hd2⟩ := id C
  show G 25 ML 1 K h 0 [(0, .ref (kad K (0)))] []
  refine g_aload_n X dX9_isMended_0 1 rfl rfl ?_
  refine g_aload_n X dX9_isMended_1 2 rfl rfl ?_
  refine g_get (c := 0) (k := 1) (T := TX9) (sk := skM0) (v := .int (nI (p))) X wf_X9_13 inX9 dX9_isMended_2 5 rfl (by decide) rfl rfl (by decide) (congrArg Value.int (hp)) ?_
  refine g_callVi (st := []) X cw_X9_172 (c_M_balancedBy h q p m n d (by exact C) p (by omega)) dX9_isMended_5 8 rfl (by decide) rfl rfl rfl rfl rfl (by decide) (Nat.le_of_ble_eq_true rfl) ?_
  rintro r9 h9 ⟨rfl, R9, rfl⟩
  show G 25 ML 1 K (mrow h 13 R9) 8 [(0, .ref (kad K (0)))] [.int (scanV (balP h q m n d p) q 0)]
  refine g_if_lt X ((scanV (balP h q m n d p) q 0).toInt) dX9_isMended_8 27 (by decide) 11 rfl rfl (fun t8 => ?_) (fun f8 => ?_)
  · skip
    refine g_iconst X dX9_isMended_27 28 rfl (v := (nI (0))) rfl ?_
    refine g_zret (h := (mrow h 13 R9)) (v := (nI (0))) X Z dX9_isMended_28 (Or.inl rfl) ?_
    exact ⟨(bI_f (fun z => by unfold mndB at z; rw [Bool.and_eq_true, decide_eq_true_iff] at z; have := z.1; omega)).symm, fun c c0 hc => mrow_n _ _ (by simp at hc; omega), fun _ _ => rfl⟩
  · skip
    refine g_aload_n X dX9_isMended_11 12 rfl rfl ?_
    refine g_iconst X dX9_isMended_12 13 rfl (v := (nI (0))) rfl ?_
    refine g_aload_n X dX9_isMended_13 14 rfl rfl ?_
    refine g_get (c := 0) (k := 1) (T := TX9) (sk := skM0) (v := .int (nI (p))) X wf_X9_13 inX9 dX9_isMended_14 17 rfl (by decide) rfl rfl (by decide) (congrArg Value.int (hp)) ?_
    refine g_callVix (st := []) (v := (bI (zrB (fwZ (mrow h 13 R9) q n d 0 p) q = true))) (m2 := (mrow (mrow h 13 R9) 12 (fwR (mrow h 13 R9) q n d 0 p))) X cw_X9_165 (c_M_isStillAt (mrow h 13 R9) q p m n d (by exact C) 0 p (by omega) (by omega)) dX9_isMended_17 20 rfl (by decide) rfl rfl rfl rfl rfl (by decide) (Nat.le_of_ble_eq_true rfl) ?_
    refine g_ifne_B X dX9_isMended_20 27 (by decide) 23 rfl (fun t20 => ?_) (fun f20 => ?_)
    · skip
      refine g_iconst X dX9_isMended_27 28 rfl (v := (nI (0))) rfl ?_
      refine g_zret (h := (mrow (mrow h 13 R9) 12 (fwR (mrow h 13 R9) q n d 0 p))) (v := (nI (0))) X Z dX9_isMended_28 (Or.inl rfl) ?_
      exact ⟨(bI_f (fun z => by unfold mndB at z; rw [Bool.and_eq_true, Bool.not_eq_true'] at z; exact absurd (show zrB (fwZ h q n d 0 p) q = true from t20) (by rw [z.2]; decide))).symm, fun c c0 hc => (mrow_n _ _ (by simp at hc; omega)).trans (mrow_n _ _ (by simp at hc; omega)), fun _ _ => rfl⟩
    · skip
      refine g_iconst X dX9_isMended_23 24 rfl (v := (nI (1))) rfl ?_
      refine g_goto X dX9_isMended_24 28 (by decide) ?_
      refine g_zret (h := (mrow (mrow h 13 R9) 12 (fwR (mrow h 13 R9) q n d 0 p))) (v := (nI (1))) X Z dX9_isMended_28 (Or.inr rfl) ?_
      exact ⟨(bI_t (by unfold mndB; rw [Bool.and_eq_true, decide_eq_true_iff]; exact ⟨by omega, by rw [Bool.not_eq_true']; exact Bool.eq_false_iff.mpr f20⟩)).symm, fun c c0 hc => (mrow_n _ _ (by simp at hc; omega)).trans (mrow_n _ _ (by simp at hc; omega)), fun _ _ => rfl⟩
set_option maxHeartbeats 1000000 in
set_option maxRecDepth 100000 in
theorem c_M_mend (h : Mem) (q p m n d : Nat) (C : MC h q p m n d) : cI 25 ML yX9_mend cX9_mend 4 (some .int) 4 94 (fun ad => [.ref (ad (0))]) h (fun r h2 => r = pkV (tryP (fun r => qk (okN h q p m n d) (glB (uil (h 1) (h 5) (-1)) n) r 0 []) 3 0) ∧ h2 0 26 = pkN (h 0 26) (tryP (fun r => qk (okN h q p m n d) (glB (uil (h 1) (h 5) (-1)) n) r 0 []) 3 0) ∧ pkQ (h 20) (h2 20) (tryP (fun r => qk (okN h q p m n d) (glB (uil (h 1) (h 5) (-1)) n) r 0 []) 3 0) ∧ mag h h2 [20, 12, 13, 14] [26, 18]) := by
  refine cI_of MLW (by decide +kernel) (fun ad => Nat.le_of_ble_eq_true rfl) ?_
  intro K X Z
  obtain ⟨hq, hp, hm, hq1, hq2, hp1, hp2, hm1, hm2, hn, hn2, hc, hd, hd1, hd2⟩ := id C
  show G 25 ML 4 K h 0 [(0, .ref (kad K (0)))] []
  refine g_aload_n X dX9_mend_0 1 rfl rfl ?_
  refine g_callVi (st := []) X cw_X9_198 (c_M_isMended h q p m n d C) dX9_mend_1 4 rfl (by decide) rfl rfl rfl rfl rfl (by decide) (Nat.le_of_ble_eq_true rfl) ?_
  rintro r9 h9 ⟨rfl, hE9⟩
  refine g_ifeq_B X dX9_mend_4 16 (by decide) 7 rfl (fun t4 => ?_) (fun f4 => ?_)
  · skip
    refine g_aload_n X dX9_mend_16 17 rfl rfl ?_
    refine g_iconst X dX9_mend_17 18 rfl (v := (zI (-1))) rfl ?_
    refine g_callVvx (st := []) (m2 := (mrow (mup h9 0 18 (nI ((glB (uil (h9 1) (h9 5) (-1)) n).length))) 14 (grow (glB (uil (h9 1) (h9 5) (-1)) n) 24 (h9 14)))) X cw_X9_179 (c_M_listUsed h9 q m n (zI (-1)) (-1) rfl ((hE9.2 3 (by decide)).trans hn) hn2 hm2 (mag_MC C hE9 (by decide) (by decide)).2.2.2.2.2.2.2.2.2.2.2.1) dX9_mend_18 21 rfl (by decide) rfl rfl rfl rfl rfl (by decide) (Nat.le_of_ble_eq_true rfl) ?_
    obtain ⟨L, hL0⟩ : ∃ L, L = (glB (uil (h9 1) (h9 5) (-1)) n) := ⟨_, rfl⟩
    rw [← hL0]
    have hL : L = (glB (uil (h 1) (h 5) (-1)) n) := by rw [hL0, hE9.1 1 (by decide) (by decide), hE9.1 5 (by decide) (by decide)]
    have hLl : L.length ≤ n := by rw [hL]; exact glB_len _ _
    have hLm : ∀ i, i < L.length → L.getD i 0 < n ∧ h 5 (L.getD i 0) = nI 1 := fun i hi => by
      rw [hL] at hi ⊢
      have y := glB_at hi
      refine ⟨y.1, ?_⟩
      have y2 := y.2
      unfold uil at y2
      rw [Bool.and_eq_true, decide_eq_true_iff] at y2
      exact y2.1
    obtain ⟨g0, hg0⟩ : ∃ g0 : Mem, g0 = (mrow (mup h9 0 18 (nI (L.length))) 14 (grow L 24 (h9 14))) := ⟨_, rfl⟩
    rw [← hg0]
    have hD0 : MD h g0 L := by
      rw [hg0]
      exact ⟨rfl, fun i hi => grow_at hi (by omega), mag_tr (mag_w hE9 (by decide) (by decide)) (mag_w (list_mag h9 _ _) (by decide) (by decide))⟩
    refine g_iconst X dX9_mend_21 22 rfl (v := (nI (0))) rfl ?_
    refine g_istore_n X (lv' := [(0, .ref (kad K (0))), (1, .int (nI 0))]) dX9_mend_22 23 rfl (by decide) rfl rfl ?_
    have lp23 : ∀ (fu : Nat) (i : Nat) (g : Mem) (hi : i ≤ L.length) (hD : MD h g L) (e1 : qk (okN h q p m n d) L 1 0 [] = tryP (fun b => qk (okN h q p m n d) L 0 (b + 1) ([] ++ [L.getD b 0])) (L.length - i) i), L.length - i < fu → G 25 ML 4 K g 23 [(0, .ref (kad K (0))), (1, .int (nI (i)))] [] := by
      intro fu
      induction fu with
      | zero => intro i g hi hD e1 hm; exact absurd hm (Nat.not_lt_zero _)
      | succ fu ih23 =>
        intro i g hi hD e1 hm23
        refine g_iload_n X dX9_mend_23 24 rfl rfl ?_
        refine g_aload_n X dX9_mend_24 25 rfl rfl ?_
        refine g_get (c := 0) (k := 18) (T := TX9) (sk := skM0) (v := .int (nI (L.length))) X wf_X9_176 inX9 dX9_mend_25 28 rfl (by decide) rfl rfl (by decide) (congrArg Value.int (hD.1)) ?_
        refine g_icmp_ge X ((i : Nat) : Int) ((L.length : Nat) : Int) dX9_mend_28 84 (by decide) 31 rfl (nI_toInt (by omega)) (nI_toInt (by omega)) (fun t28 => ?_) (fun f28 => ?_)
        · skip
          have e1_ := e1
          have hi_1 : ¬ i < L.length := by omega
          refine g_iconst X dX9_mend_84 85 rfl (v := (nI (0))) rfl ?_
          refine g_istore_n X (lv' := [(0, .ref (kad K (0))), (1, .int (nI 0))]) dX9_mend_85 86 rfl (by decide) rfl rfl ?_
          have lp86 : ∀ (fu : Nat) (i : Nat) (g : Mem) (hi : i ≤ L.length) (hD : MD h g L) (e2 : qk (okN h q p m n d) L 2 0 [] = tryP (fun b => qk (okN h q p m n d) L 1 (b + 1) ([] ++ [L.getD b 0])) (L.length - i) i), L.length - i < fu → G 25 ML 4 K g 86 [(0, .ref (kad K (0))), (1, .int (nI (i)))] [] := by
            intro fu
            induction fu with
            | zero => intro i g hi hD e2 hm; exact absurd hm (Nat.not_lt_zero _)
            | succ fu ih86 =>
              intro i g hi hD e2 hm86
              refine g_iload_n X dX9_mend_86 87 rfl rfl ?_
              refine g_aload_n X dX9_mend_87 88 rfl rfl ?_
              refine g_get (c := 0) (k := 18) (T := TX9) (sk := skM0) (v := .int (nI (L.length))) X wf_X9_176 inX9 dX9_mend_88 91 rfl (by decide) rfl rfl (by decide) (congrArg Value.int (hD.1)) ?_
              refine g_icmp_ge X ((i : Nat) : Int) ((L.length : Nat) : Int) dX9_mend_91 194 (by decide) 94 rfl (nI_toInt (by omega)) (nI_toInt (by omega)) (fun t91 => ?_) (fun f91 => ?_)
              · skip
                refine g_bipush X dX9_mend_194 196 rfl (v := (zI (-4))) rfl ?_
                refine g_iret (h := g) (v := (zI (-4))) X Z dX9_mend_196 ?_
                have eR : (tryP (fun r => qk (okN h q p m n d) (glB (uil (h 1) (h 5) (-1)) n) r 0 []) 3 0) = none := by
                  rw [← hL]
                  exact (tryP_none (F := fun r => qk (okN h q p m n d) L r 0 []) (qk0_f (fun z => t4 ((okN_0 h q p m n d).symm.trans z)))).trans ((tryP_none (F := fun r => qk (okN h q p m n d) L r 0 []) (e1_.trans (qk_end hi_1))).trans ((tryP_none (F := fun r => qk (okN h q p m n d) L r 0 []) (e2.trans (qk_end (by omega)))).trans rfl))
                exact post1_w (none_post (c := True) hD.2.2 (by decide) (by decide) trivial eR) (fun z => mag_w z (by decide) (by decide))
              · skip
                refine g_iload_n X dX9_mend_94 95 rfl rfl ?_
                refine g_iconst X dX9_mend_95 96 rfl (v := (nI (1))) rfl ?_
                refine g_iadd X (v := (nI (i + 1))) dX9_mend_96 97 rfl (nI_add i 1) ?_
                refine g_istore_n X (lv' := [(0, .ref (kad K (0))), (1, .int (nI (i))), (2, .int (nI (i + 1)))]) dX9_mend_97 98 rfl (by decide) rfl rfl ?_
                have lp98 : ∀ (fu : Nat) (j : Nat) (g2 : Mem) (hj : j ≤ L.length) (hj2 : i < j) (hD2 : MD h g2 L) (e2j : qk (okN h q p m n d) L 1 (i + 1) ([] ++ [L.getD i 0]) = tryP (fun b => qk (okN h q p m n d) L 0 (b + 1) (([] ++ [L.getD i 0]) ++ [L.getD b 0])) (L.length - j) j), L.length - j < fu → G 25 ML 4 K g2 98 [(0, .ref (kad K (0))), (1, .int (nI (i))), (2, .int (nI (j)))] [] := by
                  intro fu
                  induction fu with
                  | zero => intro j g2 hj hj2 hD2 e2j hm; exact absurd hm (Nat.not_lt_zero _)
                  | succ fu ih98 =>
                    intro j g2 hj hj2 hD2 e2j hm98
                    refine g_iload_n X dX9_mend_98 99 rfl rfl ?_
                    refine g_aload_n X dX9_mend_99 100 rfl rfl ?_
                    refine g_get (c := 0) (k := 18) (T := TX9) (sk := skM0) (v := .int (nI (L.length))) X wf_X9_176 inX9 dX9_mend_100 103 rfl (by decide) rfl rfl (by decide) (congrArg Value.int (hD2.1)) ?_
                    refine g_icmp_ge X ((j : Nat) : Int) ((L.length : Nat) : Int) dX9_mend_103 188 (by decide) 106 rfl (nI_toInt (by omega)) (nI_toInt (by omega)) (fun t103 => ?_) (fun f103 => ?_)
                    · skip
                      refine g_iinc X (v := (nI (i + 1))) (lv' := [(0, .ref (kad K (0))), (1, .int (nI (i + 1))), (2, .int (nI (j)))]) dX9_mend_188 191 rfl (by decide) rfl (n_inc i 1) rfl rfl ?_
                      refine g_goto X dX9_mend_191 86 (by decide) ?_
                      refine g_sub [0, 1] rfl ?_
                      exact ih86 (i + 1) g2 (by omega) hD2 (e2.trans (qk_none (by omega) (e2j.trans (qk_end (by omega))))) (by omega)
                    · skip
                      have ha1 := hLm i (by omega)
                      have ha2 := hLm j (by omega)
                      refine g_aload_n X dX9_mend_106 107 rfl rfl ?_
                      refine g_get (c := 0) (k := 8) (T := TX9) (sk := skM0) (v := .ref (kad K (5))) X wf_X9_32 inX9 dX9_mend_107 110 rfl (by decide) rfl rfl (by decide) rfl ?_
                      refine g_aload_n X dX9_mend_110 111 rfl rfl ?_
                      refine g_get (c := 0) (k := 19) (T := TX9) (sk := skM0) (v := .ref (kad K (14))) X wf_X9_60 inX9 dX9_mend_111 114 rfl (by decide) rfl rfl (by decide) rfl ?_
                      refine g_iload_n X dX9_mend_114 115 rfl rfl ?_
                      refine g_iald (c := 14) (n := 24) (r := 14) (o := 0) (i := i) (v := (nI (L.getD i 0))) X dX9_mend_115 116 rfl (by decide) rfl rfl (by omega) (hD2.2.1 _ (by omega)) ?_
                      refine g_iconst X dX9_mend_116 117 rfl (v := (nI (0))) rfl ?_
                      refine g_zast (c := 5) (n := 24) (r := 5) (o := 0) (i := L.getD i 0) (w := (nI (0))) X dX9_mend_117 118 rfl (by decide) rfl rfl (by omega) rfl ?_
                      refine g_aload_n X dX9_mend_118 119 rfl rfl ?_
                      refine g_get (c := 0) (k := 8) (T := TX9) (sk := skM0) (v := .ref (kad K (5))) X wf_X9_32 inX9 dX9_mend_119 122 rfl (by decide) rfl rfl (by decide) rfl ?_
                      refine g_aload_n X dX9_mend_122 123 rfl rfl ?_
                      refine g_get (c := 0) (k := 19) (T := TX9) (sk := skM0) (v := .ref (kad K (14))) X wf_X9_60 inX9 dX9_mend_123 126 rfl (by decide) rfl rfl (by decide) rfl ?_
                      refine g_iload_n X dX9_mend_126 127 rfl rfl ?_
                      refine g_iald (c := 14) (n := 24) (r := 14) (o := 0) (i := j) (v := (nI (L.getD j 0))) X dX9_mend_127 128 rfl (by decide) rfl rfl (by omega) (hD2.2.1 _ (by omega)) ?_
                      refine g_iconst X dX9_mend_128 129 rfl (v := (nI (0))) rfl ?_
                      refine g_zast (c := 5) (n := 24) (r := 5) (o := 0) (i := L.getD j 0) (w := (nI (0))) X dX9_mend_129 130 rfl (by decide) rfl rfl (by omega) rfl ?_
                      refine g_aload_n X dX9_mend_130 131 rfl rfl ?_
                      refine g_callVi (st := []) X cw_X9_198 (c_M_isMended (mup (mup g2 5 (L.getD i 0) (nI 0)) 5 (L.getD j 0) (nI 0)) q p m n d (mc_use (mc_use (md_mc C hD2) (Or.inl rfl) _) (Or.inl rfl) _)) dX9_mend_131 134 rfl (by decide) rfl rfl rfl rfl rfl (by decide) (Nat.le_of_ble_eq_true rfl) ?_
                      rintro r7 h7 ⟨rfl, hE7⟩
                      refine g_istore_n X (lv' := [(0, .ref (kad K (0))), (1, .int (nI (i))), (2, .int (nI (j))), (3, .int (bI (mndB (mup (mup g2 5 (L.getD i 0) (nI 0)) 5 (L.getD j 0) (nI 0)) q p m n d = true)))]) dX9_mend_134 135 rfl (by decide) rfl rfl ?_
                      refine g_aload_n X dX9_mend_135 136 rfl rfl ?_
                      refine g_get (c := 0) (k := 8) (T := TX9) (sk := skM0) (v := .ref (kad K (5))) X wf_X9_32 inX9 dX9_mend_136 139 rfl (by decide) rfl rfl (by decide) rfl ?_
                      refine g_aload_n X dX9_mend_139 140 rfl rfl ?_
                      refine g_get (c := 0) (k := 19) (T := TX9) (sk := skM0) (v := .ref (kad K (14))) X wf_X9_60 inX9 dX9_mend_140 143 rfl (by decide) rfl rfl (by decide) rfl ?_
                      refine g_iload_n X dX9_mend_143 144 rfl rfl ?_
                      refine g_iald (c := 14) (n := 24) (r := 14) (o := 0) (i := i) (v := (nI (L.getD i 0))) X dX9_mend_144 145 rfl (by decide) rfl rfl (by omega) ((congrFun (hE7.1 14 (by decide) (by decide)) _).trans (hD2.2.1 _ (by omega))) ?_
                      refine g_iconst X dX9_mend_145 146 rfl (v := (nI (1))) rfl ?_
                      refine g_zast (c := 5) (n := 24) (r := 5) (o := 0) (i := L.getD i 0) (w := (nI (1))) X dX9_mend_146 147 rfl (by decide) rfl rfl (by omega) rfl ?_
                      refine g_aload_n X dX9_mend_147 148 rfl rfl ?_
                      refine g_get (c := 0) (k := 8) (T := TX9) (sk := skM0) (v := .ref (kad K (5))) X wf_X9_32 inX9 dX9_mend_148 151 rfl (by decide) rfl rfl (by decide) rfl ?_
                      refine g_aload_n X dX9_mend_151 152 rfl rfl ?_
                      refine g_get (c := 0) (k := 19) (T := TX9) (sk := skM0) (v := .ref (kad K (14))) X wf_X9_60 inX9 dX9_mend_152 155 rfl (by decide) rfl rfl (by decide) rfl ?_
                      refine g_iload_n X dX9_mend_155 156 rfl rfl ?_
                      refine g_iald (c := 14) (n := 24) (r := 14) (o := 0) (i := j) (v := (nI (L.getD j 0))) X dX9_mend_156 157 rfl (by decide) rfl rfl (by omega) ((congrFun (hE7.1 14 (by decide) (by decide)) _).trans (hD2.2.1 _ (by omega))) ?_
                      refine g_iconst X dX9_mend_157 158 rfl (v := (nI (1))) rfl ?_
                      refine g_zast (c := 5) (n := 24) (r := 5) (o := 0) (i := L.getD j 0) (w := (nI (1))) X dX9_mend_158 159 rfl (by decide) rfl rfl (by omega) rfl ?_
                      refine g_iload_n X dX9_mend_159 160 rfl rfl ?_
                      refine g_ifeq_B X dX9_mend_160 182 (by decide) 163 rfl (fun t160 => ?_) (fun f160 => ?_)
                      · skip
                        refine g_iinc X (v := (nI (j + 1))) (lv' := [(0, .ref (kad K (0))), (1, .int (nI (i))), (2, .int (nI (j + 1))), (3, .int (bI (mndB (mup (mup g2 5 (L.getD i 0) (nI 0)) 5 (L.getD j 0) (nI 0)) q p m n d = true)))]) dX9_mend_182 185 rfl (by decide) rfl (n_inc j 1) rfl rfl ?_
                        refine g_goto X dX9_mend_185 98 (by decide) ?_
                        refine g_sub [0, 1, 2] rfl ?_
                        refine g_mem (h := (mup (mup h7 5 (L.getD i 0) (nI (1))) 5 (L.getD j 0) (nI (1)))) (h' := (mup (mup h7 5 (L.getD i 0) (nI 1)) 5 (L.getD j 0) (nI 1))) rfl ?_
                        exact ih98 (j + 1) (mup (mup h7 5 (L.getD i 0) (nI 1)) 5 (L.getD j 0) (nI 1)) (by omega) (by omega) (md_b2 hD2 (hLm i (by omega)).2 (hLm j (by omega)).2 hE7) (e2j.trans (qk_none (by omega) (qk0_f (fun z => t160 ((okN_2 hD2).trans z))))) (by omega)
                      · skip
                        refine g_aload_n X dX9_mend_163 164 rfl rfl ?_
                        refine g_iconst X dX9_mend_164 165 rfl (v := (nI (2))) rfl ?_
                        refine g_aload_n X dX9_mend_165 166 rfl rfl ?_
                        refine g_get (c := 0) (k := 19) (T := TX9) (sk := skM0) (v := .ref (kad K (14))) X wf_X9_60 inX9 dX9_mend_166 169 rfl (by decide) rfl rfl (by decide) rfl ?_
                        refine g_iload_n X dX9_mend_169 170 rfl rfl ?_
                        refine g_iald (c := 14) (n := 24) (r := 14) (o := 0) (i := i) (v := (nI (L.getD i 0))) X dX9_mend_170 171 rfl (by decide) rfl rfl (by omega) ((congrFun (hE7.1 14 (by decide) (by decide)) _).trans (hD2.2.1 _ (by omega))) ?_
                        refine g_aload_n X dX9_mend_171 172 rfl rfl ?_
                        refine g_get (c := 0) (k := 19) (T := TX9) (sk := skM0) (v := .ref (kad K (14))) X wf_X9_60 inX9 dX9_mend_172 175 rfl (by decide) rfl rfl (by decide) rfl ?_
                        refine g_iload_n X dX9_mend_175 176 rfl rfl ?_
                        refine g_iald (c := 14) (n := 24) (r := 14) (o := 0) (i := j) (v := (nI (L.getD j 0))) X dX9_mend_176 177 rfl (by decide) rfl rfl (by omega) ((congrFun (hE7.1 14 (by decide) (by decide)) _).trans (hD2.2.1 _ (by omega))) ?_
                        refine g_iconst X dX9_mend_177 178 rfl (v := (nI (0))) rfl ?_
                        refine g_callVix (st := []) (v := (nI (2))) (m2 := (pkM (mup (mup h7 5 (L.getD i 0) (nI (1))) 5 (L.getD j 0) (nI (1))) (nI (2)) (nI (L.getD i 0)) (nI (L.getD j 0)) (nI (0)))) X cw_X9_202 (c_M_pick (mup (mup h7 5 (L.getD i 0) (nI (1))) 5 (L.getD j 0) (nI (1))) (nI (2)) (nI (L.getD i 0)) (nI (L.getD j 0)) (nI (0))) dX9_mend_178 181 rfl (by decide) rfl rfl rfl rfl rfl (by decide) (Nat.le_of_ble_eq_true rfl) ?_
                        refine g_iret (h := (pkM (mup (mup h7 5 (L.getD i 0) (nI (1))) 5 (L.getD j 0) (nI (1))) (nI (2)) (nI (L.getD i 0)) (nI (L.getD j 0)) (nI (0)))) (v := (nI (2))) X Z dX9_mend_181 ?_
                        have eR : (tryP (fun r => qk (okN h q p m n d) (glB (uil (h 1) (h 5) (-1)) n) r 0 []) 3 0) = some [L.getD i 0, L.getD j 0] := by
                          rw [← hL]
                          exact (tryP_none (F := fun r => qk (okN h q p m n d) L r 0 []) (qk0_f (fun z => t4 ((okN_0 h q p m n d).symm.trans z)))).trans ((tryP_none (F := fun r => qk (okN h q p m n d) L r 0 []) (e1_.trans (qk_end hi_1))).trans (tryP_some (F := fun r => qk (okN h q p m n d) L r 0 []) (e2.trans (qk_some (by omega) (e2j.trans (qk_some (by omega) (qk0_t ((okN_2 hD2).symm.trans f160))))))))
                        exact post1_w (pick_post (c := True) [L.getD i 0, L.getD j 0] (md_b2 hD2 (hLm i (by omega)).2 (hLm j (by omega)).2 hE7).2.2 trivial eR (Nat.le_of_ble_eq_true rfl)) (fun z => mag_w z (by decide) (by decide))
                skip
                refine g_mem (h := g) (h' := g) rfl ?_
                exact lp98 _ (i + 1) g (by omega) (by omega) hD rfl (Nat.lt_succ_self _)
          skip
          exact lp86 _ 0 g (by omega) hD rfl (Nat.lt_succ_self _)
        · skip
          have ha1 := hLm i (by omega)
          refine g_aload_n X dX9_mend_31 32 rfl rfl ?_
          refine g_get (c := 0) (k := 8) (T := TX9) (sk := skM0) (v := .ref (kad K (5))) X wf_X9_32 inX9 dX9_mend_32 35 rfl (by decide) rfl rfl (by decide) rfl ?_
          refine g_aload_n X dX9_mend_35 36 rfl rfl ?_
          refine g_get (c := 0) (k := 19) (T := TX9) (sk := skM0) (v := .ref (kad K (14))) X wf_X9_60 inX9 dX9_mend_36 39 rfl (by decide) rfl rfl (by decide) rfl ?_
          refine g_iload_n X dX9_mend_39 40 rfl rfl ?_
          refine g_iald (c := 14) (n := 24) (r := 14) (o := 0) (i := i) (v := (nI (L.getD i 0))) X dX9_mend_40 41 rfl (by decide) rfl rfl (by omega) (hD.2.1 _ (by omega)) ?_
          refine g_iconst X dX9_mend_41 42 rfl (v := (nI (0))) rfl ?_
          refine g_zast (c := 5) (n := 24) (r := 5) (o := 0) (i := L.getD i 0) (w := (nI (0))) X dX9_mend_42 43 rfl (by decide) rfl rfl (by omega) rfl ?_
          refine g_aload_n X dX9_mend_43 44 rfl rfl ?_
          refine g_callVi (st := []) X cw_X9_198 (c_M_isMended (mup g 5 (L.getD i 0) (nI 0)) q p m n d (mc_use (md_mc C hD) (Or.inl rfl) _)) dX9_mend_44 47 rfl (by decide) rfl rfl rfl rfl rfl (by decide) (Nat.le_of_ble_eq_true rfl) ?_
          rintro r8 h8 ⟨rfl, hE8⟩
          refine g_istore_n X (lv' := [(0, .ref (kad K (0))), (1, .int (nI (i))), (2, .int (bI (mndB (mup g 5 (L.getD i 0) (nI 0)) q p m n d = true)))]) dX9_mend_47 48 rfl (by decide) rfl rfl ?_
          refine g_aload_n X dX9_mend_48 49 rfl rfl ?_
          refine g_get (c := 0) (k := 8) (T := TX9) (sk := skM0) (v := .ref (kad K (5))) X wf_X9_32 inX9 dX9_mend_49 52 rfl (by decide) rfl rfl (by decide) rfl ?_
          refine g_aload_n X dX9_mend_52 53 rfl rfl ?_
          refine g_get (c := 0) (k := 19) (T := TX9) (sk := skM0) (v := .ref (kad K (14))) X wf_X9_60 inX9 dX9_mend_53 56 rfl (by decide) rfl rfl (by decide) rfl ?_
          refine g_iload_n X dX9_mend_56 57 rfl rfl ?_
          refine g_iald (c := 14) (n := 24) (r := 14) (o := 0) (i := i) (v := (nI (L.getD i 0))) X dX9_mend_57 58 rfl (by decide) rfl rfl (by omega) ((congrFun (hE8.1 14 (by decide) (by decide)) _).trans (hD.2.1 _ (by omega))) ?_
          refine g_iconst X dX9_mend_58 59 rfl (v := (nI (1))) rfl ?_
          refine g_zast (c := 5) (n := 24) (r := 5) (o := 0) (i := L.getD i 0) (w := (nI (1))) X dX9_mend_59 60 rfl (by decide) rfl rfl (by omega) rfl ?_
          refine g_iload_n X dX9_mend_60 61 rfl rfl ?_
          refine g_ifeq_B X dX9_mend_61 78 (by decide) 64 rfl (fun t61 => ?_) (fun f61 => ?_)
          · skip
            refine g_iinc X (v := (nI (i + 1))) (lv' := [(0, .ref (kad K (0))), (1, .int (nI (i + 1))), (2, .int (bI (mndB (mup g 5 (L.getD i 0) (nI 0)) q p m n d = true)))]) dX9_mend_78 81 rfl (by decide) rfl (n_inc i 1) rfl rfl ?_
            refine g_goto X dX9_mend_81 23 (by decide) ?_
            refine g_sub [0, 1] rfl ?_
            refine g_mem (h := (mup h8 5 (L.getD i 0) (nI (1)))) (h' := (mup h8 5 (L.getD i 0) (nI 1))) rfl ?_
            exact ih23 (i + 1) (mup h8 5 (L.getD i 0) (nI 1)) (by omega) (md_b1 hD (hLm i (by omega)).2 hE8) (e1.trans (qk_none (by omega) (qk0_f (fun z => t61 ((okN_1 hD).trans z))))) (by omega)
          · skip
            refine g_aload_n X dX9_mend_64 65 rfl rfl ?_
            refine g_iconst X dX9_mend_65 66 rfl (v := (nI (1))) rfl ?_
            refine g_aload_n X dX9_mend_66 67 rfl rfl ?_
            refine g_get (c := 0) (k := 19) (T := TX9) (sk := skM0) (v := .ref (kad K (14))) X wf_X9_60 inX9 dX9_mend_67 70 rfl (by decide) rfl rfl (by decide) rfl ?_
            refine g_iload_n X dX9_mend_70 71 rfl rfl ?_
            refine g_iald (c := 14) (n := 24) (r := 14) (o := 0) (i := i) (v := (nI (L.getD i 0))) X dX9_mend_71 72 rfl (by decide) rfl rfl (by omega) ((congrFun (hE8.1 14 (by decide) (by decide)) _).trans (hD.2.1 _ (by omega))) ?_
            refine g_iconst X dX9_mend_72 73 rfl (v := (nI (0))) rfl ?_
            refine g_iconst X dX9_mend_73 74 rfl (v := (nI (0))) rfl ?_
            refine g_callVix (st := []) (v := (nI (1))) (m2 := (pkM (mup h8 5 (L.getD i 0) (nI (1))) (nI (1)) (nI (L.getD i 0)) (nI (0)) (nI (0)))) X cw_X9_202 (c_M_pick (mup h8 5 (L.getD i 0) (nI (1))) (nI (1)) (nI (L.getD i 0)) (nI (0)) (nI (0))) dX9_mend_74 77 rfl (by decide) rfl rfl rfl rfl rfl (by decide) (Nat.le_of_ble_eq_true rfl) ?_
            refine g_iret (h := (pkM (mup h8 5 (L.getD i 0) (nI (1))) (nI (1)) (nI (L.getD i 0)) (nI (0)) (nI (0)))) (v := (nI (1))) X Z dX9_mend_77 ?_
            have eR : (tryP (fun r => qk (okN h q p m n d) (glB (uil (h 1) (h 5) (-1)) n) r 0 []) 3 0) = some [L.getD i 0] := by
              rw [← hL]
              exact (tryP_none (F := fun r => qk (okN h q p m n d) L r 0 []) (qk0_f (fun z => t4 ((okN_0 h q p m n d).symm.trans z)))).trans (tryP_some (F := fun r => qk (okN h q p m n d) L r 0 []) (e1.trans (qk_some (by omega) (qk0_t ((okN_1 hD).symm.trans f61)))))
            exact post1_w (pick_post (c := True) [L.getD i 0] (md_b1 hD (hLm i (by omega)).2 hE8).2.2 trivial eR (Nat.le_of_ble_eq_true rfl)) (fun z => mag_w z (by decide) (by decide))
    skip
    refine g_mem (h := g0) (h' := g0) rfl ?_
    exact lp23 _ 0 g0 (by omega) hD0 rfl (Nat.lt_succ_self _)
  · skip
    refine g_aload_n X dX9_mend_7 8 rfl rfl ?_
    refine g_iconst X dX9_mend_8 9 rfl (v := (nI (0))) rfl ?_
    refine g_iconst X dX9_mend_9 10 rfl (v := (nI (0))) rfl ?_
    refine g_iconst X dX9_mend_10 11 rfl (v := (nI (0))) rfl ?_
    refine g_iconst X dX9_mend_11 12 rfl (v := (nI (0))) rfl ?_
    refine g_callVix (st := []) (v := (nI (0))) (m2 := (pkM h9 (nI (0)) (nI (0)) (nI (0)) (nI (0)))) X cw_X9_202 (c_M_pick h9 (nI (0)) (nI (0)) (nI (0)) (nI (0))) dX9_mend_12 15 rfl (by decide) rfl rfl rfl rfl rfl (by decide) (Nat.le_of_ble_eq_true rfl) ?_
    refine g_iret (h := (pkM h9 (nI (0)) (nI (0)) (nI (0)) (nI (0)))) (v := (nI (0))) X Z dX9_mend_15 ?_
    have eR : (tryP (fun r => qk (okN h q p m n d) (glB (uil (h 1) (h 5) (-1)) n) r 0 []) 3 0) = some [] := tryP_some (F := fun r => qk (okN h q p m n d) (glB (uil (h 1) (h 5) (-1)) n) r 0 []) (qk0_t ((okN_0 h q p m n d).trans f4))
    exact post1_w (pick_post (c := True) [] hE9 trivial eR (Nat.le_of_ble_eq_true rfl)) (fun z => mag_w z (by decide) (by decide))
