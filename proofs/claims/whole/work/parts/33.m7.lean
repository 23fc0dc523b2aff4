def hcF (dg : Nat → Nat) (k g : Nat) (F : Nat → Int32) : Nat → Int32 := fun w => if w < g then nI (hcnt dg k w) else F w
theorem hcF_s {dg : Nat → Nat} {k g : Nat} {F : Nat → Int32} (h : dg k < g) : upd (hcF dg k g F) (dg k) (nI (hcnt dg k (dg k) + 1)) = hcF dg (k + 1) g F := by
  funext w
  by_cases e : w = dg k
  · subst e
    rw [upd_s]
    unfold hcF
    rw [if_pos h]
    show _ = nI (hcnt dg k (dg k) + (if dg k = dg k then 1 else 0))
    rw [if_pos rfl]
  · rw [upd_n _ _ e]
    unfold hcF
    by_cases e2 : w < g
    · rw [if_pos e2, if_pos e2]
      show _ = nI (hcnt dg k w + (if dg k = w then 1 else 0))
      rw [if_neg (fun z => e z.symm)]
      rfl
    · rw [if_neg e2, if_neg e2]
def tmI (a w : Nat) : Int32 := if a = w then nI 1 else if a = 0 then zI (-1) else nI 0
def pwS (q p : Nat) (ci co tu : Nat → Int32) (cs dg : Nat → Nat) (w : Nat) (f0 : Nat → Int32) : Nat → Nat → Int32
  | 0 => f0
  | k + 1 => rwA ((p * tn (ci (cs k)) + 0) % q) ((p * tn (co (cs k)) + 0) % q) (tmI (dg k) w * tu (cs k)) (pwS q p ci co tu cs dg w f0 k)
theorem pwS_congr {q p w : Nat} {ci co tu : Nat → Int32} {cs dg dg' : Nat → Nat} {f g : Nat → Int32} (hq1 : 3 ≤ q) (hq2 : q ≤ 24) (e : ∀ i, i < 24 → f i = g i) : ∀ k, (∀ j, j < k → dg j = dg' j) → ∀ i, i < 24 → pwS q p ci co tu cs dg w f k i = pwS q p ci co tu cs dg' w g k i
  | 0, _ => e
  | k + 1, h => by
    intro i hi
    show rwA _ _ (tmI (dg k) w * _) _ i = rwA _ _ (tmI (dg' k) w * _) _ i
    rw [h k (by omega)]
    exact rwA_congr (Nat.lt_of_lt_of_le (Nat.mod_lt _ (by omega)) hq2) (Nat.lt_of_lt_of_le (Nat.mod_lt _ (by omega)) hq2) (pwS_congr hq1 hq2 e k (fun j hj => h j (by omega))) i hi
def zwB (h : Mem) (q d p : Nat) (cs dg : Nat → Nat) (size w : Nat) : Bool := zrB (redN q d (h 7) (pwS q p (h 2) (h 3) (h 4) cs dg w zF size) (q - d)) q
theorem zw_eq {h : Mem} {q d p size w k : Nat} {cs dg : Nat → Nat} {R : Nat → Int32} (hq1 : 3 ≤ q) (hq2 : q ≤ 24) (e : k = size) : zrB (redN q d (h 7) (pwS q p (h 2) (h 3) (h 4) cs dg w (zrK R 24) k) (q - d)) q = zwB h q d p cs dg size w := by
  subst e
  exact zrB_congr hq2 (redN_congr hq1 hq2 (pwS_congr hq1 hq2 zrK_zF k (fun _ _ => rfl)) (q - d))
def ptB (h : Mem) (q d p g size : Nat) (cs dg : Nat → Nat) : Bool := decide ((∀ w, w < g → hcnt dg size w * g = size) ∧ ∀ w, w < g → 1 ≤ w → zwB h q d p cs dg size w = true)
theorem pt_t {h : Mem} {q d p g size : Nat} {cs dg : Nat → Nat} : ptB h q d p g size cs dg = true ↔ (∀ w, w < g → hcnt dg size w * g = size) ∧ ∀ w, w < g → 1 ≤ w → zwB h q d p cs dg size w = true := decide_eq_true_iff
theorem pt_congr {h : Mem} {q d p g size : Nat} {cs dg dg' : Nat → Nat} (hq1 : 3 ≤ q) (hq2 : q ≤ 24) (e : ∀ i, i < size → dg i = dg' i) : ptB h q d p g size cs dg = ptB h q d p g size cs dg' := by
  unfold ptB
  rw [decide_eq_decide]
  have e1 : ∀ w, hcnt dg size w = hcnt dg' size w := fun w => hcnt_congr size w e
  have e2 : ∀ w, zwB h q d p cs dg size w = zwB h q d p cs dg' size w := fun w => zrB_congr hq2 (redN_congr hq1 hq2 (pwS_congr hq1 hq2 (fun _ _ => rfl) size e) (q - d))
  exact ⟨fun z => ⟨fun w hw => by rw [← e1]; exact z.1 w hw, fun w hw h1 => by rw [← e2]; exact z.2 w hw h1⟩, fun z => ⟨fun w hw => by rw [e1]; exact z.1 w hw, fun w hw h1 => by rw [e2]; exact z.2 w hw h1⟩⟩
def stF (size e : Nat) (F : Nat → Int32) : Nat → Int32 := fun i => if e ≤ i ∧ i < size then nI 0 else F i
theorem stF_e (size : Nat) (F : Nat → Int32) : stF size size F = F := by funext i; unfold stF; rw [if_neg (by omega)]
theorem stF_s {size e : Nat} {F : Nat → Int32} (h1 : 1 ≤ e) (h2 : e ≤ size) : upd (stF size e F) (e - 1) (nI 0) = stF size (e - 1) F := by
  funext i
  by_cases z : i = e - 1
  · subst z; rw [upd_s]; unfold stF; rw [if_pos (by omega)]
  · rw [upd_n _ _ z]
    unfold stF
    by_cases y : e ≤ i ∧ i < size
    · rw [if_pos y, if_pos (by omega)]
    · rw [if_neg y, if_neg (by omega)]
theorem n_dz (a : Nat) : nI a + Int32.ofInt (-1) = zI ((a : Int) - 1) := (n_incz a (-1)).trans (congrArg zI (by omega))
/-- the number that a row of digits spells -/
def vl (g : Nat) (dg : Nat → Nat) : Nat → Nat
  | 0 => 0
  | k + 1 => vl g dg k * g + dg k
theorem vl_inj {g : Nat} {a b : Nat → Nat} : ∀ k, (∀ i, i < k → a i < g) → (∀ i, i < k → b i < g) → vl g a k = vl g b k → ∀ i, i < k → a i = b i
  | 0, _, _, _ => fun i hi => absurd hi (Nat.not_lt_zero i)
  | k + 1, ha, hb, e => by
    have h1 := ha k (by omega)
    have h2 := hb k (by omega)
    have e' : vl g a k * g + a k = vl g b k * g + b k := e
    have m1 : (vl g a k * g + a k) % g = a k := by rw [Nat.mul_comm, Nat.mul_add_mod, Nat.mod_eq_of_lt h1]
    have m2 : (vl g b k * g + b k) % g = b k := by rw [Nat.mul_comm, Nat.mul_add_mod, Nat.mod_eq_of_lt h2]
    have e3 : a k = b k := by rw [← m1, ← m2, e']
    have e4 : vl g a k = vl g b k := Nat.eq_of_mul_eq_mul_right (show 0 < g by omega) (by omega)
    intro i hi
    rcases Nat.lt_succ_iff_lt_or_eq.mp hi with z | z
    · exact vl_inj k (fun i hi => ha i (by omega)) (fun i hi => hb i (by omega)) e4 i z
    · rw [z]; exact e3
theorem vl_congr {g : Nat} {a b : Nat → Nat} : ∀ k, (∀ i, i < k → a i = b i) → vl g a k = vl g b k
  | 0, _ => rfl
  | k + 1, e => by
    show vl g a k * g + a k = vl g b k * g + b k
    rw [vl_congr k (fun i hi => e i (by omega)), e k (by omega)]
theorem vl_lt {g : Nat} {a : Nat → Nat} : ∀ k, (∀ i, i < k → a i < g) → vl g a k < g ^ k
  | 0, _ => by show 0 < 1; decide
  | k + 1, h => by
    have h1 := vl_lt k (fun i hi => h i (by omega))
    have h2 := h k (by omega)
    show vl g a k * g + a k < g ^ k * g
    have h3 : (vl g a k + 1) * g ≤ g ^ k * g := Nat.mul_le_mul_right g h1
    rw [Nat.add_mul] at h3
    omega
theorem vl_max {g : Nat} {a : Nat → Nat} (hg : 1 ≤ g) : ∀ k, (∀ i, i < k → a i = g - 1) → vl g a k + 1 = g ^ k
  | 0, _ => rfl
  | k + 1, h => by
    have h1 := vl_max hg k (fun i hi => h i (by omega))
    show vl g a k * g + a k + 1 = g ^ k * g
    rw [← h1, h k (by omega), Nat.add_mul]
    omega
def nxt (dg : Nat → Nat) (e : Nat) : Nat → Nat := fun i => if i < e - 1 then dg i else if i = e - 1 then dg i + 1 else 0
theorem vl_nxt {g : Nat} {dg : Nat → Nat} {e : Nat} (hg : 1 ≤ g) (he : 1 ≤ e) : ∀ t, (∀ i, e ≤ i → i < e + t → dg i = g - 1) → vl g (nxt dg e) (e + t) = vl g dg (e + t) + 1
  | 0, _ => by
    obtain ⟨k, rfl⟩ : ∃ k, e = k + 1 := ⟨e - 1, by omega⟩
    show vl g (nxt dg (k + 1)) k * g + nxt dg (k + 1) k = vl g dg k * g + dg k + 1
    rw [vl_congr (a := nxt dg (k + 1)) (b := dg) k (fun i hi => if_pos (by omega))]
    have : nxt dg (k + 1) k = dg k + 1 := by unfold nxt; rw [if_neg (by omega), if_pos (by omega)]
    omega
  | t + 1, h => by
    have h1 := vl_nxt hg he t (fun i a b => h i a (by omega))
    show vl g (nxt dg e) (e + t) * g + nxt dg e (e + t) = vl g dg (e + t) * g + dg (e + t) + 1
    have : nxt dg e (e + t) = 0 := by unfold nxt; rw [if_neg (by omega), if_neg (by omega)]
    rw [h1, this, h (e + t) (by omega) (by omega), Nat.add_mul]
    omega
set_option maxHeartbeats 1000000 in
set_option maxRecDepth 100000 in
theorem c_M_isParting (h : Mem) (q p m n d : Nat) (C : MC h q p m n d) (size g : Nat) (cs dg : Nat → Nat) (hs : h 0 18 = nI size) (hs8 : size ≤ 8) (hg1 : 1 ≤ g) (hg4 : g ≤ 4) (hcs : ∀ i, i < size → h 14 i = nI (cs i) ∧ cs i < n) (hdg : ∀ i, i < size → h 16 i = nI (dg i) ∧ dg i < g) : cI 25 ML yX9_isParting cX9_isParting 5 (some .boolean) 1 27 (fun ad => [.ref (ad (0)), .int (nI (g))]) h (fun r h2 => r = bI (ptB h q d p g size cs dg = true) ∧ mag h h2 [13, 17] []) := by
  refine cI_of MLW (by decide +kernel) (fun ad => Nat.le_of_ble_eq_true rfl) ?_
  intro K X Z
  obtain ⟨hq, hp, hm, hq1, hq2, hp1, hp2, hm1, hm2, hn, hn2, hc, hd, hd1, hd2⟩ := id C
  show G 25 ML 5 K h 0 [(0, .ref (kad K (0))), (1, .int (nI (g)))] []
  refine g_iconst X dX9_isParting_0 1 rfl (v := (nI (0))) rfl ?_
  refine g_istore_n X (lv' := [(0, .ref (kad K (0))), (1, .int (nI (g))), (2, .int (nI 0))]) dX9_isParting_1 2 rfl (by decide) rfl rfl ?_
  have lp2 : ∀ (fu : Nat) (w : Nat) (hw : w ≤ g), g - w < fu → G 25 ML 5 K (mrow h 17 (zrK (h 17) w)) 2 [(0, .ref (kad K (0))), (1, .int (nI (g))), (2, .int (nI (w)))] [] := by
    intro fu
    induction fu with
    | zero => intro w hw hm; exact absurd hm (Nat.not_lt_zero _)
    | succ fu ih2 =>
      intro w hw hm2
      refine g_iload_n X dX9_isParting_2 3 rfl rfl ?_
      refine g_iload_n X dX9_isParting_3 4 rfl rfl ?_
      refine g_icmp_ge X ((w : Nat) : Int) ((g : Nat) : Int) dX9_isParting_4 20 (by decide) 7 rfl (nI_toInt (by omega)) (nI_toInt (by omega)) (fun t4 => ?_) (fun f4 => ?_)
      · skip
        refine g_iconst X dX9_isParting_20 21 rfl (v := (nI (0))) rfl ?_
        refine g_istore_n X (lv' := [(0, .ref (kad K (0))), (1, .int (nI (g))), (2, .int (nI 0))]) dX9_isParting_21 22 rfl (by decide) rfl rfl ?_
        have lp22 : ∀ (fu : Nat) (k : Nat) (hk : k ≤ size), size - k < fu → G 25 ML 5 K (mrow h 17 (hcF dg k g (h 17))) 22 [(0, .ref (kad K (0))), (1, .int (nI (g))), (2, .int (nI (k)))] [] := by
          intro fu
          induction fu with
          | zero => intro k hk hm; exact absurd hm (Nat.not_lt_zero _)
          | succ fu ih22 =>
            intro k hk hm22
            refine g_iload_n X dX9_isParting_22 23 rfl rfl ?_
            refine g_aload_n X dX9_isParting_23 24 rfl rfl ?_
            refine g_get (c := 0) (k := 18) (T := TX9) (sk := skM0) (v := .int (nI (size))) X wf_X9_176 inX9 dX9_isParting_24 27 rfl (by decide) rfl rfl (by decide) (congrArg Value.int (hs)) ?_
            refine g_icmp_ge X ((k : Nat) : Int) ((size : Nat) : Int) dX9_isParting_27 51 (by decide) 30 rfl (nI_toInt (by omega)) (nI_toInt (by omega)) (fun t27 => ?_) (fun f27 => ?_)
            · skip
              refine g_iconst X dX9_isParting_51 52 rfl (v := (nI (0))) rfl ?_
              refine g_istore_n X (lv' := [(0, .ref (kad K (0))), (1, .int (nI (g))), (2, .int (nI 0))]) dX9_isParting_52 53 rfl (by decide) rfl rfl ?_
              have lp53 : ∀ (fu : Nat) (u : Nat) (hu : u ≤ g) (hA : ∀ b, b < u → hcnt dg size b * g = size), g - u < fu → G 25 ML 5 K (mrow h 17 (hcF dg size g (h 17))) 53 [(0, .ref (kad K (0))), (1, .int (nI (g))), (2, .int (nI (u)))] [] := by
                intro fu
                induction fu with
                | zero => intro u hu hA hm; exact absurd hm (Nat.not_lt_zero _)
                | succ fu ih53 =>
                  intro u hu hA hm53
                  refine g_iload_n X dX9_isParting_53 54 rfl rfl ?_
                  refine g_iload_n X dX9_isParting_54 55 rfl rfl ?_
                  refine g_icmp_ge X ((u : Nat) : Int) ((g : Nat) : Int) dX9_isParting_55 81 (by decide) 58 rfl (nI_toInt (by omega)) (nI_toInt (by omega)) (fun t55 => ?_) (fun f55 => ?_)
                  · skip
                    have hall : ∀ b, b < g → hcnt dg size b * g = size := fun b hb => hA b (by omega)
                    refine g_iconst X dX9_isParting_81 82 rfl (v := (nI (1))) rfl ?_
                    refine g_istore_n X (lv' := [(0, .ref (kad K (0))), (1, .int (nI (g))), (2, .int (nI 1))]) dX9_isParting_82 83 rfl (by decide) rfl rfl ?_
                    have lp83 : ∀ (fu : Nat) (v : Nat) (R : Nat → Int32) (hv1 : 1 ≤ v) (hv : v ≤ g) (hz : ∀ b, b < v → 1 ≤ b → zwB h q d p cs dg size b = true), g - v < fu → G 25 ML 5 K (mrow (mrow h 17 (hcF dg size g (h 17))) 13 R) 83 [(0, .ref (kad K (0))), (1, .int (nI (g))), (2, .int (nI (v)))] [] := by
                      intro fu
                      induction fu with
                      | zero => intro v R hv1 hv hz hm; exact absurd hm (Nat.not_lt_zero _)
                      | succ fu ih83 =>
                        intro v R hv1 hv hz hm83
                        refine g_iload_n X dX9_isParting_83 84 rfl rfl ?_
                        refine g_iload_n X dX9_isParting_84 85 rfl rfl ?_
                        refine g_icmp_ge X ((v : Nat) : Int) ((g : Nat) : Int) dX9_isParting_85 189 (by decide) 88 rfl (nI_toInt (by omega)) (nI_toInt (by omega)) (fun t85 => ?_) (fun f85 => ?_)
                        · skip
                          refine g_iconst X dX9_isParting_189 190 rfl (v := (nI (1))) rfl ?_
                          refine g_zret (h := (mrow (mrow h 17 (hcF dg size g (h 17))) 13 R)) (v := (nI (1))) X Z dX9_isParting_190 (Or.inr rfl) ?_
                          exact ⟨(bI_t (pt_t.mpr ⟨hall, fun b hb h1 => hz b (by omega) h1⟩)).symm, ⟨fun c c0 hc => by simp at hc; simp [mrow, hc.1, hc.2], fun _ _ => rfl⟩⟩
                        · skip
                          refine g_aload_n X dX9_isParting_88 89 rfl rfl ?_
                          refine g_get (c := 0) (k := 17) (T := TX9) (sk := skM0) (v := .ref (kad K (13))) X wf_X9_57 inX9 dX9_isParting_89 92 rfl (by decide) rfl rfl (by decide) rfl ?_
                          refine g_callSvx (st := []) (m2 := (mrow (mrow (mrow h 17 (hcF dg size g (h 17))) 13 R) 13 (zrK ((mrow (mrow h 17 (hcF dg size g (h 17))) 13 R) 13) 24))) X cw_X9_139 (c_M_clearRow13 (mrow (mrow h 17 (hcF dg size g (h 17))) 13 R)) dX9_isParting_92 95 rfl rfl rfl rfl (by decide) (Nat.le_of_ble_eq_true rfl) ?_
                          refine g_iconst X dX9_isParting_95 96 rfl (v := (nI (0))) rfl ?_
                          refine g_istore_n X (lv' := [(0, .ref (kad K (0))), (1, .int (nI (g))), (2, .int (nI (v))), (3, .int (nI 0))]) dX9_isParting_96 97 rfl (by decide) rfl rfl ?_
                          have lp97 : ∀ (fu : Nat) (k : Nat) (hk : k ≤ size), size - k < fu → G 25 ML 5 K (mrow (mrow h 17 (hcF dg size g (h 17))) 13 (pwS q p (h 2) (h 3) (h 4) cs dg v (zrK R 24) k)) 97 [(0, .ref (kad K (0))), (1, .int (nI (g))), (2, .int (nI (v))), (3, .int (nI (k)))] [] := by
                            intro fu
                            induction fu with
                            | zero => intro k hk hm; exact absurd hm (Nat.not_lt_zero _)
                            | succ fu ih97 =>
                              intro k hk hm97
                              refine g_iload_n X dX9_isParting_97 98 rfl rfl ?_
                              refine g_aload_n X dX9_isParting_98 99 rfl rfl ?_
                              refine g_get (c := 0) (k := 18) (T := TX9) (sk := skM0) (v := .int (nI (size))) X wf_X9_176 inX9 dX9_isParting_99 102 rfl (by decide) rfl rfl (by decide) (congrArg Value.int (hs)) ?_
                              refine g_icmp_ge X ((k : Nat) : Int) ((size : Nat) : Int) dX9_isParting_102 162 (by decide) 105 rfl (nI_toInt (by omega)) (nI_toInt (by omega)) (fun t102 => ?_) (fun f102 => ?_)
                              · skip
                                refine g_aload_n X dX9_isParting_162 163 rfl rfl ?_
                                refine g_aload_n X dX9_isParting_163 164 rfl rfl ?_
                                refine g_get (c := 0) (k := 17) (T := TX9) (sk := skM0) (v := .ref (kad K (13))) X wf_X9_57 inX9 dX9_isParting_164 167 rfl (by decide) rfl rfl (by decide) rfl ?_
                                refine g_callVvx (st := []) (m2 := (mrow (mrow (mrow h 17 (hcF dg size g (h 17))) 13 (pwS q p (h 2) (h 3) (h 4) cs dg v (zrK R 24) k)) 13 (redN q d ((mrow (mrow h 17 (hcF dg size g (h 17))) 13 (pwS q p (h 2) (h 3) (h 4) cs dg v (zrK R 24) k)) 7) ((mrow (mrow h 17 (hcF dg size g (h 17))) 13 (pwS q p (h 2) (h 3) (h 4) cs dg v (zrK R 24) k)) 13) (q - d)))) X cw_X9_147 (c_M_reduce13 (mrow (mrow h 17 (hcF dg size g (h 17))) 13 (pwS q p (h 2) (h 3) (h 4) cs dg v (zrK R 24) k)) q d (by exact hq) (by exact hd) hq1 hq2 hd1 hd2) dX9_isParting_167 170 rfl (by decide) rfl rfl rfl rfl rfl (by decide) (Nat.le_of_ble_eq_true rfl) ?_
                                refine g_aload_n X dX9_isParting_170 171 rfl rfl ?_
                                refine g_aload_n X dX9_isParting_171 172 rfl rfl ?_
                                refine g_get (c := 0) (k := 17) (T := TX9) (sk := skM0) (v := .ref (kad K (13))) X wf_X9_57 inX9 dX9_isParting_172 175 rfl (by decide) rfl rfl (by decide) rfl ?_
                                refine g_callVix (st := []) (v := (bI (zrB ((mrow (mrow (mrow h 17 (hcF dg size g (h 17))) 13 (pwS q p (h 2) (h 3) (h 4) cs dg v (zrK R 24) k)) 13 (redN q d ((mrow (mrow h 17 (hcF dg size g (h 17))) 13 (pwS q p (h 2) (h 3) (h 4) cs dg v (zrK R 24) k)) 7) ((mrow (mrow h 17 (hcF dg size g (h 17))) 13 (pwS q p (h 2) (h 3) (h 4) cs dg v (zrK R 24) k)) 13) (q - d))) 13) q = true))) (m2 := (mrow (mrow (mrow h 17 (hcF dg size g (h 17))) 13 (pwS q p (h 2) (h 3) (h 4) cs dg v (zrK R 24) k)) 13 (redN q d ((mrow (mrow h 17 (hcF dg size g (h 17))) 13 (pwS q p (h 2) (h 3) (h 4) cs dg v (zrK R 24) k)) 7) ((mrow (mrow h 17 (hcF dg size g (h 17))) 13 (pwS q p (h 2) (h 3) (h 4) cs dg v (zrK R 24) k)) 13) (q - d)))) X cw_X9_161 (c_M_isZero13 (mrow (mrow (mrow h 17 (hcF dg size g (h 17))) 13 (pwS q p (h 2) (h 3) (h 4) cs dg v (zrK R 24) k)) 13 (redN q d ((mrow (mrow h 17 (hcF dg size g (h 17))) 13 (pwS q p (h 2) (h 3) (h 4) cs dg v (zrK R 24) k)) 7) ((mrow (mrow h 17 (hcF dg size g (h 17))) 13 (pwS q p (h 2) (h 3) (h 4) cs dg v (zrK R 24) k)) 13) (q - d))) q (by exact hq) hq2) dX9_isParting_175 178 rfl (by decide) rfl rfl rfl rfl rfl (by decide) (Nat.le_of_ble_eq_true rfl) ?_
                                refine g_ifne_B X dX9_isParting_178 183 (by decide) 181 rfl (fun t178 => ?_) (fun f178 => ?_)
                                · skip
                                  refine g_iinc X (v := (nI (v + 1))) (lv' := [(0, .ref (kad K (0))), (1, .int (nI (g))), (2, .int (nI (v + 1))), (3, .int (nI (k)))]) dX9_isParting_183 186 rfl (by decide) rfl (n_inc v 1) rfl rfl ?_
                                  refine g_goto X dX9_isParting_186 83 (by decide) ?_
                                  refine g_sub [0, 1, 2] rfl ?_
                                  refine g_mem (h := (mrow (mrow (mrow h 17 (hcF dg size g (h 17))) 13 (pwS q p (h 2) (h 3) (h 4) cs dg v (zrK R 24) k)) 13 (redN q d ((mrow (mrow h 17 (hcF dg size g (h 17))) 13 (pwS q p (h 2) (h 3) (h 4) cs dg v (zrK R 24) k)) 7) ((mrow (mrow h 17 (hcF dg size g (h 17))) 13 (pwS q p (h 2) (h 3) (h 4) cs dg v (zrK R 24) k)) 13) (q - d)))) (h' := (mrow (mrow h 17 (hcF dg size g (h 17))) 13 (redN q d (h 7) (pwS q p (h 2) (h 3) (h 4) cs dg v (zrK R 24) k) (q - d)))) (by rw [mrow_m]; rfl) ?_
                                  exact ih83 (v + 1) (redN q d (h 7) (pwS q p (h 2) (h 3) (h 4) cs dg v (zrK R 24) k) (q - d)) (by omega) (by omega) (fun b z y => (Nat.lt_succ_iff_lt_or_eq.mp z).elim (fun x => hz b x y) (fun x => by rw [x]; exact (zw_eq hq1 hq2 (show k = size from by omega)).symm.trans t178)) (by omega)
                                · skip
                                  refine g_iconst X dX9_isParting_181 182 rfl (v := (nI (0))) rfl ?_
                                  refine g_zret (h := (mrow (mrow (mrow h 17 (hcF dg size g (h 17))) 13 (pwS q p (h 2) (h 3) (h 4) cs dg v (zrK R 24) k)) 13 (redN q d ((mrow (mrow h 17 (hcF dg size g (h 17))) 13 (pwS q p (h 2) (h 3) (h 4) cs dg v (zrK R 24) k)) 7) ((mrow (mrow h 17 (hcF dg size g (h 17))) 13 (pwS q p (h 2) (h 3) (h 4) cs dg v (zrK R 24) k)) 13) (q - d)))) (v := (nI (0))) X Z dX9_isParting_182 (Or.inl rfl) ?_
                                  exact ⟨(bI_f (fun z => f178 ((zw_eq hq1 hq2 (show k = size from by omega)).trans ((pt_t.mp z).2 v (by omega) hv1)))).symm, ⟨fun c c0 hc => by simp at hc; simp [mrow, hc.1, hc.2], fun _ _ => rfl⟩⟩
                              · skip
                                have hdk := (hdg k (by omega)).2
                                have hck := (hcs k (by omega)).2
                                refine g_aload_n X dX9_isParting_105 106 rfl rfl ?_
                                refine g_get (c := 0) (k := 21) (T := TX9) (sk := skM0) (v := .ref (kad K (16))) X wf_X9_66 inX9 dX9_isParting_106 109 rfl (by decide) rfl rfl (by decide) rfl ?_
                                refine g_iload_n X dX9_isParting_109 110 rfl rfl ?_
                                refine g_iald (c := 16) (n := 8) (r := 16) (o := 0) (i := k) (v := (nI (dg k))) X dX9_isParting_110 111 rfl (by decide) rfl rfl (by omega) ((hdg _ (by omega)).1) ?_
                                refine g_iload_n X dX9_isParting_111 112 rfl rfl ?_
                                refine g_icmp_ne X ((dg k : Nat) : Int) ((v : Nat) : Int) dX9_isParting_112 119 (by decide) 115 rfl (nI_toInt (by omega)) (nI_toInt (by omega)) (fun t112 => ?_) (fun f112 => ?_)
                                · skip
                                  refine g_aload_n X dX9_isParting_119 120 rfl rfl ?_
                                  refine g_get (c := 0) (k := 21) (T := TX9) (sk := skM0) (v := .ref (kad K (16))) X wf_X9_66 inX9 dX9_isParting_120 123 rfl (by decide) rfl rfl (by decide) rfl ?_
                                  refine g_iload_n X dX9_isParting_123 124 rfl rfl ?_
                                  refine g_iald (c := 16) (n := 8) (r := 16) (o := 0) (i := k) (v := (nI (dg k))) X dX9_isParting_124 125 rfl (by decide) rfl rfl (by omega) ((hdg _ (by omega)).1) ?_
                                  refine g_if_ne X ((dg k : Nat) : Int) dX9_isParting_125 132 (by decide) 128 rfl (nI_toInt (by omega)) (fun t125 => ?_) (fun f125 => ?_)
                                  · skip
                                    refine g_iconst X dX9_isParting_132 133 rfl (v := (nI (0))) rfl ?_
                                    refine g_eq (st' := [.int (tmI (dg k) v)]) rfl rfl (by rw [tmI, if_neg (by omega), if_neg (by omega)]) ?_
                                    refine g_istore X (lv' := [(0, .ref (kad K (0))), (1, .int (nI (g))), (2, .int (nI (v))), (3, .int (nI (k))), (4, .int (tmI (dg k) v))]) dX9_isParting_133 135 rfl (by decide) rfl rfl ?_
                                    refine g_aload_n X dX9_isParting_135 136 rfl rfl ?_
                                    refine g_aload_n X dX9_isParting_136 137 rfl rfl ?_
                                    refine g_get (c := 0) (k := 17) (T := TX9) (sk := skM0) (v := .ref (kad K (13))) X wf_X9_57 inX9 dX9_isParting_137 140 rfl (by decide) rfl rfl (by decide) rfl ?_
                                    refine g_aload_n X dX9_isParting_140 141 rfl rfl ?_
                                    refine g_get (c := 0) (k := 19) (T := TX9) (sk := skM0) (v := .ref (kad K (14))) X wf_X9_60 inX9 dX9_isParting_141 144 rfl (by decide) rfl rfl (by decide) rfl ?_
                                    refine g_iload_n X dX9_isParting_144 145 rfl rfl ?_
                                    refine g_iald (c := 14) (n := 24) (r := 14) (o := 0) (i := k) (v := (nI (cs k))) X dX9_isParting_145 146 rfl (by decide) rfl rfl (by omega) ((hcs _ (by omega)).1) ?_
                                    refine g_aload_n X dX9_isParting_146 147 rfl rfl ?_
                                    refine g_get (c := 0) (k := 1) (T := TX9) (sk := skM0) (v := .int (nI (p))) X wf_X9_13 inX9 dX9_isParting_147 150 rfl (by decide) rfl rfl (by decide) (congrArg Value.int (hp)) ?_
                                    refine g_iconst X dX9_isParting_150 151 rfl (v := (nI (0))) rfl ?_
                                    refine g_iload X dX9_isParting_151 153 rfl rfl ?_
                                    refine g_callVvx (st := []) (m2 := (mrow (mrow (mrow h 17 (hcF dg size g (h 17))) 13 (pwS q p (h 2) (h 3) (h 4) cs dg v (zrK R 24) k)) 13 (rwA ((p * tn ((mrow (mrow h 17 (hcF dg size g (h 17))) 13 (pwS q p (h 2) (h 3) (h 4) cs dg v (zrK R 24) k)) 2 (cs k)) + 0) % q) ((p * tn ((mrow (mrow h 17 (hcF dg size g (h 17))) 13 (pwS q p (h 2) (h 3) (h 4) cs dg v (zrK R 24) k)) 3 (cs k)) + 0) % q) ((tmI (dg k) v) * (mrow (mrow h 17 (hcF dg size g (h 17))) 13 (pwS q p (h 2) (h 3) (h 4) cs dg v (zrK R 24) k)) 4 (cs k)) ((mrow (mrow h 17 (hcF dg size g (h 17))) 13 (pwS q p (h 2) (h 3) (h 4) cs dg v (zrK R 24) k)) 13)))) X cw_X9_143 (c_M_addCoil13 (mrow (mrow h 17 (hcF dg size g (h 17))) 13 (pwS q p (h 2) (h 3) (h 4) cs dg v (zrK R 24) k)) q m n (cs k) p 0 (tmI (dg k) v) (by exact hq) hq1 hq2 hn2 (by exact hc) (by omega) (by omega) (by omega)) dX9_isParting_153 156 rfl (by decide) rfl rfl rfl rfl rfl (by decide) (Nat.le_of_ble_eq_true rfl) ?_
                                    refine g_iinc X (v := (nI (k + 1))) (lv' := [(0, .ref (kad K (0))), (1, .int (nI (g))), (2, .int (nI (v))), (3, .int (nI (k + 1))), (4, .int (tmI (dg k) v))]) dX9_isParting_156 159 rfl (by decide) rfl (n_inc k 1) rfl rfl ?_
                                    refine g_goto X dX9_isParting_159 97 (by decide) ?_
                                    refine g_sub [0, 1, 2, 3] rfl ?_
                                    refine g_mem (h := (mrow (mrow (mrow h 17 (hcF dg size g (h 17))) 13 (pwS q p (h 2) (h 3) (h 4) cs dg v (zrK R 24) k)) 13 (rwA ((p * tn ((mrow (mrow h 17 (hcF dg size g (h 17))) 13 (pwS q p (h 2) (h 3) (h 4) cs dg v (zrK R 24) k)) 2 (cs k)) + 0) % q) ((p * tn ((mrow (mrow h 17 (hcF dg size g (h 17))) 13 (pwS q p (h 2) (h 3) (h 4) cs dg v (zrK R 24) k)) 3 (cs k)) + 0) % q) ((tmI (dg k) v) * (mrow (mrow h 17 (hcF dg size g (h 17))) 13 (pwS q p (h 2) (h 3) (h 4) cs dg v (zrK R 24) k)) 4 (cs k)) ((mrow (mrow h 17 (hcF dg size g (h 17))) 13 (pwS q p (h 2) (h 3) (h 4) cs dg v (zrK R 24) k)) 13)))) (h' := (mrow (mrow h 17 (hcF dg size g (h 17))) 13 (pwS q p (h 2) (h 3) (h 4) cs dg v (zrK R 24) (k + 1)))) (by rw [mrow_m]; rfl) ?_
                                    exact ih97 (k + 1) (by omega) (by omega)
                                  · skip
                                    refine g_iconst X dX9_isParting_128 129 rfl (v := (zI (-1))) rfl ?_
                                    refine g_goto X dX9_isParting_129 133 (by decide) ?_
                                    refine g_eq (st' := [.int (tmI (dg k) v)]) rfl rfl (by rw [tmI, if_neg (by omega), if_pos (by omega)]) ?_
                                    refine g_istore X (lv' := [(0, .ref (kad K (0))), (1, .int (nI (g))), (2, .int (nI (v))), (3, .int (nI (k))), (4, .int (tmI (dg k) v))]) dX9_isParting_133 135 rfl (by decide) rfl rfl ?_
                                    refine g_aload_n X dX9_isParting_135 136 rfl rfl ?_
                                    refine g_aload_n X dX9_isParting_136 137 rfl rfl ?_
                                    refine g_get (c := 0) (k := 17) (T := TX9) (sk := skM0) (v := .ref (kad K (13))) X wf_X9_57 inX9 dX9_isParting_137 140 rfl (by decide) rfl rfl (by decide) rfl ?_
                                    refine g_aload_n X dX9_isParting_140 141 rfl rfl ?_
                                    refine g_get (c := 0) (k := 19) (T := TX9) (sk := skM0) (v := .ref (kad K (14))) X wf_X9_60 inX9 dX9_isParting_141 144 rfl (by decide) rfl rfl (by decide) rfl ?_
                                    refine g_iload_n X dX9_isParting_144 145 rfl rfl ?_
                                    refine g_iald (c := 14) (n := 24) (r := 14) (o := 0) (i := k) (v := (nI (cs k))) X dX9_isParting_145 146 rfl (by decide) rfl rfl (by omega) ((hcs _ (by omega)).1) ?_
                                    refine g_aload_n X dX9_isParting_146 147 rfl rfl ?_
                                    refine g_get (c := 0) (k := 1) (T := TX9) (sk := skM0) (v := .int (nI (p))) X wf_X9_13 inX9 dX9_isParting_147 150 rfl (by decide) rfl rfl (by decide) (congrArg Value.int (hp)) ?_
                                    refine g_iconst X dX9_isParting_150 151 rfl (v := (nI (0))) rfl ?_
                                    refine g_iload X dX9_isParting_151 153 rfl rfl ?_
                                    refine g_callVvx (st := []) (m2 := (mrow (mrow (mrow h 17 (hcF dg size g (h 17))) 13 (pwS q p (h 2) (h 3) (h 4) cs dg v (zrK R 24) k)) 13 (rwA ((p * tn ((mrow (mrow h 17 (hcF dg size g (h 17))) 13 (pwS q p (h 2) (h 3) (h 4) cs dg v (zrK R 24) k)) 2 (cs k)) + 0) % q) ((p * tn ((mrow (mrow h 17 (hcF dg size g (h 17))) 13 (pwS q p (h 2) (h 3) (h 4) cs dg v (zrK R 24) k)) 3 (cs k)) + 0) % q) ((tmI (dg k) v) * (mrow (mrow h 17 (hcF dg size g (h 17))) 13 (pwS q p (h 2) (h 3) (h 4) cs dg v (zrK R 24) k)) 4 (cs k)) ((mrow (mrow h 17 (hcF dg size g (h 17))) 13 (pwS q p (h 2) (h 3) (h 4) cs dg v (zrK R 24) k)) 13)))) X cw_X9_143 (c_M_addCoil13 (mrow (mrow h 17 (hcF dg size g (h 17))) 13 (pwS q p (h 2) (h 3) (h 4) cs dg v (zrK R 24) k)) q m n (cs k) p 0 (tmI (dg k) v) (by exact hq) hq1 hq2 hn2 (by exact hc) (by omega) (by omega) (by omega)) dX9_isParting_153 156 rfl (by decide) rfl rfl rfl rfl rfl (by decide) (Nat.le_of_ble_eq_true rfl) ?_
                                    refine g_iinc X (v := (nI (k + 1))) (lv' := [(0, .ref (kad K (0))), (1, .int (nI (g))), (2, .int (nI (v))), (3, .int (nI (k + 1))), (4, .int (tmI (dg k) v))]) dX9_isParting_156 159 rfl (by decide) rfl (n_inc k 1) rfl rfl ?_
                                    refine g_goto X dX9_isParting_159 97 (by decide) ?_
                                    refine g_sub [0, 1, 2, 3] rfl ?_
                                    refine g_mem (h := (mrow (mrow (mrow h 17 (hcF dg size g (h 17))) 13 (pwS q p (h 2) (h 3) (h 4) cs dg v (zrK R 24) k)) 13 (rwA ((p * tn ((mrow (mrow h 17 (hcF dg size g (h 17))) 13 (pwS q p (h 2) (h 3) (h 4) cs dg v (zrK R 24) k)) 2 (cs k)) + 0) % q) ((p * tn ((mrow (mrow h 17 (hcF dg size g (h 17))) 13 (pwS q p (h 2) (h 3) (h 4) cs dg v (zrK R 24) k)) 3 (cs k)) + 0) % q) ((tmI (dg k) v) * (mrow (mrow h 17 (hcF dg size g (h 17))) 13 (pwS q p (h 2) (h 3) (h 4) cs dg v (zrK R 24) k)) 4 (cs k)) ((mrow (mrow h 17 (hcF dg size g (h 17))) 13 (pwS q p (h 2) (h 3) (h 4) cs dg v (zrK R 24) k)) 13)))) (h' := (mrow (mrow h 17 (hcF dg size g (h 17))) 13 (pwS q p (h 2) (h 3) (h 4) cs dg v (zrK R 24) (k + 1)))) (by rw [mrow_m]; rfl) ?_
                                    exact ih97 (k + 1) (by omega) (by omega)
                                · skip
                                  refine g_iconst X dX9_isParting_115 116 rfl (v := (nI (1))) rfl ?_
                                  refine g_goto X dX9_isParting_116 133 (by decide) ?_
                                  refine g_eq (st' := [.int (tmI (dg k) v)]) rfl rfl (by rw [tmI, if_pos (by omega)]) ?_
                                  refine g_istore X (lv' := [(0, .ref (kad K (0))), (1, .int (nI (g))), (2, .int (nI (v))), (3, .int (nI (k))), (4, .int (tmI (dg k) v))]) dX9_isParting_133 135 rfl (by decide) rfl rfl ?_
                                  refine g_aload_n X dX9_isParting_135 136 rfl rfl ?_
                                  refine g_aload_n X dX9_isParting_136 137 rfl rfl ?_
                                  refine g_get (c := 0) (k := 17) (T := TX9) (sk := skM0) (v := .ref (kad K (13))) X wf_X9_57 inX9 dX9_isParting_137 140 rfl (by decide) rfl rfl (by decide) rfl ?_
                                  refine g_aload_n X dX9_isParting_140 141 rfl rfl ?_
                                  refine g_get (c := 0) (k := 19) (T := TX9) (sk := skM0) (v := .ref (kad K (14))) X wf_X9_60 inX9 dX9_isParting_141 144 rfl (by decide) rfl rfl (by decide) rfl ?_
                                  refine g_iload_n X dX9_isParting_144 145 rfl rfl ?_
                                  refine g_iald (c := 14) (n := 24) (r := 14) (o := 0) (i := k) (v := (nI (cs k))) X dX9_isParting_145 146 rfl (by decide) rfl rfl (by omega) ((hcs _ (by omega)).1) ?_
                                  refine g_aload_n X dX9_isParting_146 147 rfl rfl ?_
                                  refine g_get (c := 0) (k := 1) (T := TX9) (sk := skM0) (v := .int (nI (p))) X wf_X9_13 inX9 dX9_isParting_147 150 rfl (by decide) rfl rfl (by decide) (congrArg Value.int (hp)) ?_
                                  refine g_iconst X dX9_isParting_150 151 rfl (v := (nI (0))) rfl ?_
                                  refine g_iload X dX9_isParting_151 153 rfl rfl ?_
                                  refine g_callVvx (st := []) (m2 := (mrow (mrow (mrow h 17 (hcF dg size g (h 17))) 13 (pwS q p (h 2) (h 3) (h 4) cs dg v (zrK R 24) k)) 13 (rwA ((p * tn ((mrow (mrow h 17 (hcF dg size g (h 17))) 13 (pwS q p (h 2) (h 3) (h 4) cs dg v (zrK R 24) k)) 2 (cs k)) + 0) % q) ((p * tn ((mrow (mrow h 17 (hcF dg size g (h 17))) 13 (pwS q p (h 2) (h 3) (h 4) cs dg v (zrK R 24) k)) 3 (cs k)) + 0) % q) ((tmI (dg k) v) * (mrow (mrow h 17 (hcF dg size g (h 17))) 13 (pwS q p (h 2) (h 3) (h 4) cs dg v (zrK R 24) k)) 4 (cs k)) ((mrow (mrow h 17 (hcF dg size g (h 17))) 13 (pwS q p (h 2) (h 3) (h 4) cs dg v (zrK R 24) k)) 13)))) X cw_X9_143 (c_M_addCoil13 (mrow (mrow h 17 (hcF dg size g (h 17))) 13 (pwS q p (h 2) (h 3) (h 4) cs dg v (zrK R 24) k)) q m n (cs k) p 0 (tmI (dg k) v) (by exact hq) hq1 hq2 hn2 (by exact hc) (by omega) (by omega) (by omega)) dX9_isParting_153 156 rfl (by decide) rfl rfl rfl rfl rfl (by decide) (Nat.le_of_ble_eq_true rfl) ?_
                                  refine g_iinc X (v := (nI (k + 1))) (lv' := [(0, .ref (kad K (0))), (1, .int (nI (g))), (2, .int (nI (v))), (3, .int (nI (k + 1))), (4, .int (tmI (dg k) v))]) dX9_isParting_156 159 rfl (by decide) rfl (n_inc k 1) rfl rfl ?_
                                  refine g_goto X dX9_isParting_159 97 (by decide) ?_
                                  refine g_sub [0, 1, 2, 3] rfl ?_
                                  refine g_mem (h := (mrow (mrow (mrow h 17 (hcF dg size g (h 17))) 13 (pwS q p (h 2) (h 3) (h 4) cs dg v (zrK R 24) k)) 13 (rwA ((p * tn ((mrow (mrow h 17 (hcF dg size g (h 17))) 13 (pwS q p (h 2) (h 3) (h 4) cs dg v (zrK R 24) k)) 2 (cs k)) + 0) % q) ((p * tn ((mrow (mrow h 17 (hcF dg size g (h 17))) 13 (pwS q p (h 2) (h 3) (h 4) cs dg v (zrK R 24) k)) 3 (cs k)) + 0) % q) ((tmI (dg k) v) * (mrow (mrow h 17 (hcF dg size g (h 17))) 13 (pwS q p (h 2) (h 3) (h 4) cs dg v (zrK R 24) k)) 4 (cs k)) ((mrow (mrow h 17 (hcF dg size g (h 17))) 13 (pwS q p (h 2) (h 3) (h 4) cs dg v (zrK R 24) k)) 13)))) (h' := (mrow (mrow h 17 (hcF dg size g (h 17))) 13 (pwS q p (h 2) (h 3) (h 4) cs dg v (zrK R 24) (k + 1)))) (by rw [mrow_m]; rfl) ?_
                                  exact ih97 (k + 1) (by omega) (by omega)
                          skip
                          refine g_mem (h := (mrow (mrow (mrow h 17 (hcF dg size g (h 17))) 13 R) 13 (zrK ((mrow (mrow h 17 (hcF dg size g (h 17))) 13 R) 13) 24))) (h' := (mrow (mrow h 17 (hcF dg size g (h 17))) 13 (pwS q p (h 2) (h 3) (h 4) cs dg v (zrK R 24) 0))) (by rw [mrow_m]; rfl) ?_
                          exact lp97 _ 0 (by omega) (Nat.lt_succ_self _)
                    skip
                    refine g_mem (h := (mrow h 17 (hcF dg size g (h 17)))) (h' := (mrow (mrow h 17 (hcF dg size g (h 17))) 13 (h 13))) ((mrow_id _ 13).symm) ?_
                    exact lp83 _ 1 (h 13) (by omega) (by omega) (fun b z y => absurd z (by omega)) (Nat.lt_succ_self _)
                  · skip
                    have hb := Nat.mul_le_mul (hcnt_le dg size u) hg4
                    refine g_aload_n X dX9_isParting_58 59 rfl rfl ?_
                    refine g_get (c := 0) (k := 22) (T := TX9) (sk := skM0) (v := .ref (kad K (17))) X wf_X9_69 inX9 dX9_isParting_59 62 rfl (by decide) rfl rfl (by decide) rfl ?_
                    refine g_iload_n X dX9_isParting_62 63 rfl rfl ?_
                    refine g_iald (c := 17) (n := 4) (r := 17) (o := 0) (i := u) (v := (nI (hcnt dg size u))) X dX9_isParting_63 64 rfl (by decide) rfl rfl (by omega) (if_pos (by omega)) ?_
                    refine g_iload_n X dX9_isParting_64 65 rfl rfl ?_
                    refine g_imul X (v := (nI ((hcnt dg size u) * g))) dX9_isParting_65 66 rfl (pk_mul (hcnt dg size u) g) ?_
                    refine g_aload_n X dX9_isParting_66 67 rfl rfl ?_
                    refine g_get (c := 0) (k := 18) (T := TX9) (sk := skM0) (v := .int (nI (size))) X wf_X9_176 inX9 dX9_isParting_67 70 rfl (by decide) rfl rfl (by decide) (congrArg Value.int (hs)) ?_
                    refine g_icmp_eq X (((hcnt dg size u) * g : Nat) : Int) ((size : Nat) : Int) dX9_isParting_70 75 (by decide) 73 rfl (nI_toInt (by omega)) (nI_toInt (by omega)) (fun t70 => ?_) (fun f70 => ?_)
                    · skip
                      refine g_iinc X (v := (nI (u + 1))) (lv' := [(0, .ref (kad K (0))), (1, .int (nI (g))), (2, .int (nI (u + 1)))]) dX9_isParting_75 78 rfl (by decide) rfl (n_inc u 1) rfl rfl ?_
                      refine g_goto X dX9_isParting_78 53 (by decide) ?_
                      skip
                      exact ih53 (u + 1) (by omega) (fun b z => (Nat.lt_succ_iff_lt_or_eq.mp z).elim (hA b) (fun y => by rw [y]; omega)) (by omega)
                    · skip
                      refine g_iconst X dX9_isParting_73 74 rfl (v := (nI (0))) rfl ?_
                      refine g_zret (h := (mrow h 17 (hcF dg size g (h 17)))) (v := (nI (0))) X Z dX9_isParting_74 (Or.inl rfl) ?_
                      exact ⟨(bI_f (fun z => f70 (by have y := (pt_t.mp z).1 u (by omega); omega))).symm, fun c c0 hc => by simp at hc; simp [mrow, hc.2], fun _ _ => rfl⟩
              skip
              refine g_mem (h := (mrow h 17 (hcF dg k g (h 17)))) (h' := (mrow h 17 (hcF dg size g (h 17)))) (by rw [show k = size from by omega]) ?_
              exact lp53 _ 0 (by omega) (fun b z => absurd z (Nat.not_lt_zero b)) (Nat.lt_succ_self _)
            · skip
              have hdk := (hdg k (by omega)).2
              refine g_aload_n X dX9_isParting_30 31 rfl rfl ?_
              refine g_get (c := 0) (k := 22) (T := TX9) (sk := skM0) (v := .ref (kad K (17))) X wf_X9_69 inX9 dX9_isParting_31 34 rfl (by decide) rfl rfl (by decide) rfl ?_
              refine g_aload_n X dX9_isParting_34 35 rfl rfl ?_
              refine g_get (c := 0) (k := 21) (T := TX9) (sk := skM0) (v := .ref (kad K (16))) X wf_X9_66 inX9 dX9_isParting_35 38 rfl (by decide) rfl rfl (by decide) rfl ?_
              refine g_iload_n X dX9_isParting_38 39 rfl rfl ?_
              refine g_iald (c := 16) (n := 8) (r := 16) (o := 0) (i := k) (v := (nI (dg k))) X dX9_isParting_39 40 rfl (by decide) rfl rfl (by omega) ((hdg _ (by omega)).1) ?_
              refine g_dup2 X dX9_isParting_40 41 rfl rfl rfl ?_
              refine g_iald (c := 17) (n := 4) (r := 17) (o := 0) (i := dg k) (v := (nI (hcnt dg k (dg k)))) X dX9_isParting_41 42 rfl (by decide) rfl rfl (by omega) (if_pos (hdg k (by omega)).2) ?_
              refine g_iconst X dX9_isParting_42 43 rfl (v := (nI (1))) rfl ?_
              refine g_iadd X (v := (nI (hcnt dg k (dg k) + 1))) dX9_isParting_43 44 rfl (nI_add (hcnt dg k (dg k)) 1) ?_
              refine g_iast (c := 17) (n := 4) (r := 17) (o := 0) (i := dg k) X dX9_isParting_44 45 rfl (by decide) rfl rfl (by omega) ?_
              refine g_iinc X (v := (nI (k + 1))) (lv' := [(0, .ref (kad K (0))), (1, .int (nI (g))), (2, .int (nI (k + 1)))]) dX9_isParting_45 48 rfl (by decide) rfl (n_inc k 1) rfl rfl ?_
              refine g_goto X dX9_isParting_48 22 (by decide) ?_
              skip
              refine g_mem (h := (mup (mrow h 17 (hcF dg k g (h 17))) 17 (dg k) (nI (hcnt dg k (dg k) + 1)))) (h' := (mrow h 17 (hcF dg (k + 1) g (h 17)))) (by rw [mup_m, hcF_s (hdg k (by omega)).2]) ?_
              exact ih22 (k + 1) (by omega) (by omega)
        skip
        refine g_mem (h := (mrow h 17 (zrK (h 17) w))) (h' := (mrow h 17 (hcF dg 0 g (h 17)))) (by rw [show w = g from by omega]; rfl) ?_
        exact lp22 _ 0 (by omega) (Nat.lt_succ_self _)
      · skip
        refine g_aload_n X dX9_isParting_7 8 rfl rfl ?_
        refine g_get (c := 0) (k := 22) (T := TX9) (sk := skM0) (v := .ref (kad K (17))) X wf_X9_69 inX9 dX9_isParting_8 11 rfl (by decide) rfl rfl (by decide) rfl ?_
        refine g_iload_n X dX9_isParting_11 12 rfl rfl ?_
        refine g_iconst X dX9_isParting_12 13 rfl (v := (nI (0))) rfl ?_
        refine g_iast (c := 17) (n := 4) (r := 17) (o := 0) (i := w) X dX9_isParting_13 14 rfl (by decide) rfl rfl (by omega) ?_
        refine g_iinc X (v := (nI (w + 1))) (lv' := [(0, .ref (kad K (0))), (1, .int (nI (g))), (2, .int (nI (w + 1)))]) dX9_isParting_14 17 rfl (by decide) rfl (n_inc w 1) rfl rfl ?_
        refine g_goto X dX9_isParting_17 2 (by decide) ?_
        skip
        refine g_mem (h := (mup (mrow h 17 (zrK (h 17) w)) 17 w (nI (0)))) (h' := (mrow h 17 (zrK (h 17) (w + 1)))) (by rw [mup_m, zrK_s]) ?_
        exact ih2 (w + 1) (by omega) (by omega)
  skip
  refine g_mem (h := h) (h' := (mrow h 17 (zrK (h 17) 0))) (by rw [zrK_0]; exact (mrow_id _ 17).symm) ?_
  exact lp2 _ 0 (by omega) (Nat.lt_succ_self _)
set_option maxHeartbeats 1000000 in
set_option maxRecDepth 100000 in
theorem c_M_step (h : Mem) (n : Nat) (size g : Nat) (cs dg : Nat → Nat) (hs : h 0 18 = nI size) (hs8 : size ≤ 8) (hg1 : 1 ≤ g) (hg4 : g ≤ 4) (hcs : ∀ i, i < size → h 14 i = nI (cs i) ∧ cs i < n) (hdg : ∀ i, i < size → h 16 i = nI (dg i) ∧ dg i < g) : cI 25 ML yX9_step cX9_step 3 (some .boolean) 0 0 (fun ad => [.ref (ad (0)), .int (nI (g))]) h (fun r h2 => ∃ e, e ≤ size ∧ (∀ i, e ≤ i → i < size → dg i = g - 1) ∧ ((e = 0 ∧ r = nI 0 ∧ h2 = mrow h 16 (stF size 0 (h 16))) ∨ (1 ≤ e ∧ dg (e - 1) ≠ g - 1 ∧ r = nI 1 ∧ h2 = mrow h 16 (upd (stF size e (h 16)) (e - 1) (nI (dg (e - 1) + 1)))))) := by
  refine cI_of MLW (by decide +kernel) (fun ad => Nat.le_of_ble_eq_true rfl) ?_
  intro K X Z
  show G 25 ML 3 K h 0 [(0, .ref (kad K (0))), (1, .int (nI (g)))] []
  refine g_aload_n X dX9_step_0 1 rfl rfl ?_
  refine g_get (c := 0) (k := 18) (T := TX9) (sk := skM0) (v := .int (nI (size))) X wf_X9_176 inX9 dX9_step_1 4 rfl (by decide) rfl rfl (by decide) (congrArg Value.int (hs)) ?_
  refine g_iconst X dX9_step_4 5 rfl (v := (nI (1))) rfl ?_
  refine g_isub X (v := (zI (((size : Nat) : Int) - 1))) dX9_step_5 6 rfl (nn_sub size 1) ?_
  refine g_istore_n X (lv' := [(0, .ref (kad K (0))), (1, .int (nI (g))), (2, .int (zI (((size : Nat) : Int) - 1)))]) dX9_step_6 7 rfl (by decide) rfl rfl ?_
  have lp7 : ∀ (fu : Nat) (e : Nat) (he : e ≤ size) (hz : ∀ i, e ≤ i → i < size → dg i = g - 1), e < fu → G 25 ML 3 K (mrow h 16 (stF size e (h 16))) 7 [(0, .ref (kad K (0))), (1, .int (nI (g))), (2, .int (zI (((e : Nat) : Int) - 1)))] [] := by
    intro fu
    induction fu with
    | zero => intro e he hz hm; exact absurd hm (Nat.not_lt_zero _)
    | succ fu ih7 =>
      intro e he hz hm7
      refine g_iload_n X dX9_step_7 8 rfl rfl ?_
      refine g_if_lt X (((e : Nat) : Int) - 1) dX9_step_8 36 (by decide) 11 rfl (zI_toInt (by omega)) (fun t8 => ?_) (fun f8 => ?_)
      · skip
        refine g_iload_n X dX9_step_36 37 rfl rfl ?_
        refine g_if_lt X (((e : Nat) : Int) - 1) dX9_step_37 50 (by decide) 40 rfl (zI_toInt (by omega)) (fun t37 => ?_) (fun f37 => ?_)
        · skip
          refine g_iload_n X dX9_step_50 51 rfl rfl ?_
          refine g_if_lt X (((e : Nat) : Int) - 1) dX9_step_51 58 (by decide) 54 rfl (zI_toInt (by omega)) (fun t51 => ?_) (fun f51 => ?_)
          · skip
            refine g_iconst X dX9_step_58 59 rfl (v := (nI (0))) rfl ?_
            refine g_zret (h := (mrow h 16 (stF size e (h 16)))) (v := (nI (0))) X Z dX9_step_59 (Or.inl rfl) ?_
            exact ⟨e, he, hz, Or.inl ⟨by omega, rfl, by rw [show e = 0 from by omega]⟩⟩
          · skip
            refine g_iconst X dX9_step_54 55 rfl (v := (nI (1))) rfl ?_
            refine g_goto X dX9_step_55 59 (by decide) ?_
            refine g_zret (h := (mrow h 16 (stF size e (h 16)))) (v := (nI (1))) X Z dX9_step_59 (Or.inr rfl) ?_
            exact absurd t37 (by omega)
        · skip
          refine g_eq (lv' := [(0, .ref (kad K (0))), (1, .int (nI (g))), (2, .int (nI (e - 1)))]) rfl (absurd t8 f37) rfl ?_
          refine g_aload_n X dX9_step_40 41 rfl rfl ?_
          refine g_get (c := 0) (k := 21) (T := TX9) (sk := skM0) (v := .ref (kad K (16))) X wf_X9_66 inX9 dX9_step_41 44 rfl (by decide) rfl rfl (by decide) rfl ?_
          refine g_iload_n X dX9_step_44 45 rfl rfl ?_
          refine g_dup2 X dX9_step_45 46 rfl rfl rfl ?_
          refine g_iald (c := 16) (n := 8) (r := 16) (o := 0) (i := e - 1) (v := (nI (dg (e - 1)))) X dX9_step_46 47 rfl (by decide) rfl rfl (by omega) ((if_neg (by omega)).trans (hdg (e - 1) (by omega)).1) ?_
          refine g_iconst X dX9_step_47 48 rfl (v := (nI (1))) rfl ?_
          refine g_iadd X (v := (nI ((dg (e - 1)) + 1))) dX9_step_48 49 rfl (nI_add (dg (e - 1)) 1) ?_
          refine g_iast (c := 16) (n := 8) (r := 16) (o := 0) (i := e - 1) X dX9_step_49 50 rfl (by decide) rfl rfl (by omega) ?_
          refine g_iload_n X dX9_step_50 51 rfl rfl ?_
          refine g_if_lt X ((e - 1 : Nat) : Int) dX9_step_51 58 (by decide) 54 rfl (nI_toInt (by omega)) (fun t51 => ?_) (fun f51 => ?_)
          · skip
            refine g_iconst X dX9_step_58 59 rfl (v := (nI (0))) rfl ?_
            refine g_zret (h := (mup (mrow h 16 (stF size e (h 16))) 16 (e - 1) (nI ((dg (e - 1)) + 1)))) (v := (nI (0))) X Z dX9_step_59 (Or.inl rfl) ?_
            exact absurd t51 (by omega)
          · skip
            refine g_iconst X dX9_step_54 55 rfl (v := (nI (1))) rfl ?_
            refine g_goto X dX9_step_55 59 (by decide) ?_
            refine g_zret (h := (mup (mrow h 16 (stF size e (h 16))) 16 (e - 1) (nI ((dg (e - 1)) + 1)))) (v := (nI (1))) X Z dX9_step_59 (Or.inr rfl) ?_
            exact ⟨e, he, hz, Or.inr ⟨by omega, by omega, rfl, by rw [mup_m]⟩⟩
      · skip
        have hdk := (hdg (e - 1) (by omega)).2
        refine g_eq (lv' := [(0, .ref (kad K (0))), (1, .int (nI (g))), (2, .int (nI (e - 1)))]) rfl (by rw [show zI (((e : Nat) : Int) - 1) = nI (e - 1) from zI_of (by omega)]) rfl ?_
        refine g_aload_n X dX9_step_11 12 rfl rfl ?_
        refine g_get (c := 0) (k := 21) (T := TX9) (sk := skM0) (v := .ref (kad K (16))) X wf_X9_66 inX9 dX9_step_12 15 rfl (by decide) rfl rfl (by decide) rfl ?_
        refine g_iload_n X dX9_step_15 16 rfl rfl ?_
        refine g_iald (c := 16) (n := 8) (r := 16) (o := 0) (i := e - 1) (v := (nI (dg (e - 1)))) X dX9_step_16 17 rfl (by decide) rfl rfl (by omega) ((if_neg (by omega)).trans (hdg (e - 1) (by omega)).1) ?_
        refine g_iload_n X dX9_step_17 18 rfl rfl ?_
        refine g_iconst X dX9_step_18 19 rfl (v := (nI (1))) rfl ?_
        refine g_isub X (v := (nI (g - 1))) dX9_step_19 20 rfl (pk_sub (by omega)) ?_
        refine g_icmp_ne X ((dg (e - 1) : Nat) : Int) ((g - 1 : Nat) : Int) dX9_step_20 36 (by decide) 23 rfl (nI_toInt (by omega)) (nI_toInt (by omega)) (fun t20 => ?_) (fun f20 => ?_)
        · skip
          refine g_iload_n X dX9_step_36 37 rfl rfl ?_
          refine g_if_lt X ((e - 1 : Nat) : Int) dX9_step_37 50 (by decide) 40 rfl (nI_toInt (by omega)) (fun t37 => ?_) (fun f37 => ?_)
          · skip
            refine g_iload_n X dX9_step_50 51 rfl rfl ?_
            refine g_if_lt X ((e - 1 : Nat) : Int) dX9_step_51 58 (by decide) 54 rfl (nI_toInt (by omega)) (fun t51 => ?_) (fun f51 => ?_)
            · skip
              refine g_iconst X dX9_step_58 59 rfl (v := (nI (0))) rfl ?_
              refine g_zret (h := (mrow h 16 (stF size e (h 16)))) (v := (nI (0))) X Z dX9_step_59 (Or.inl rfl) ?_
              exact ⟨e, he, hz, Or.inl ⟨by omega, rfl, by rw [show e = 0 from by omega]⟩⟩
            · skip
              refine g_iconst X dX9_step_54 55 rfl (v := (nI (1))) rfl ?_
              refine g_goto X dX9_step_55 59 (by decide) ?_
              refine g_zret (h := (mrow h 16 (stF size e (h 16)))) (v := (nI (1))) X Z dX9_step_59 (Or.inr rfl) ?_
              exact absurd t37 (by omega)
          · skip
            skip
            refine g_aload_n X dX9_step_40 41 rfl rfl ?_
            refine g_get (c := 0) (k := 21) (T := TX9) (sk := skM0) (v := .ref (kad K (16))) X wf_X9_66 inX9 dX9_step_41 44 rfl (by decide) rfl rfl (by decide) rfl ?_
            refine g_iload_n X dX9_step_44 45 rfl rfl ?_
            refine g_dup2 X dX9_step_45 46 rfl rfl rfl ?_
            refine g_iald (c := 16) (n := 8) (r := 16) (o := 0) (i := e - 1) (v := (nI (dg (e - 1)))) X dX9_step_46 47 rfl (by decide) rfl rfl (by omega) ((if_neg (by omega)).trans (hdg (e - 1) (by omega)).1) ?_
            refine g_iconst X dX9_step_47 48 rfl (v := (nI (1))) rfl ?_
            refine g_iadd X (v := (nI ((dg (e - 1)) + 1))) dX9_step_48 49 rfl (nI_add (dg (e - 1)) 1) ?_
            refine g_iast (c := 16) (n := 8) (r := 16) (o := 0) (i := e - 1) X dX9_step_49 50 rfl (by decide) rfl rfl (by omega) ?_
            refine g_iload_n X dX9_step_50 51 rfl rfl ?_
            refine g_if_lt X ((e - 1 : Nat) : Int) dX9_step_51 58 (by decide) 54 rfl (nI_toInt (by omega)) (fun t51 => ?_) (fun f51 => ?_)
            · skip
              refine g_iconst X dX9_step_58 59 rfl (v := (nI (0))) rfl ?_
              refine g_zret (h := (mup (mrow h 16 (stF size e (h 16))) 16 (e - 1) (nI ((dg (e - 1)) + 1)))) (v := (nI (0))) X Z dX9_step_59 (Or.inl rfl) ?_
              exact absurd t51 (by omega)
            · skip
              refine g_iconst X dX9_step_54 55 rfl (v := (nI (1))) rfl ?_
              refine g_goto X dX9_step_55 59 (by decide) ?_
              refine g_zret (h := (mup (mrow h 16 (stF size e (h 16))) 16 (e - 1) (nI ((dg (e - 1)) + 1)))) (v := (nI (1))) X Z dX9_step_59 (Or.inr rfl) ?_
              exact ⟨e, he, hz, Or.inr ⟨by omega, by omega, rfl, by rw [mup_m]⟩⟩
        · skip
          refine g_aload_n X dX9_step_23 24 rfl rfl ?_
          refine g_get (c := 0) (k := 21) (T := TX9) (sk := skM0) (v := .ref (kad K (16))) X wf_X9_66 inX9 dX9_step_24 27 rfl (by decide) rfl rfl (by decide) rfl ?_
          refine g_iload_n X dX9_step_27 28 rfl rfl ?_
          refine g_iconst X dX9_step_28 29 rfl (v := (nI (0))) rfl ?_
          refine g_iast (c := 16) (n := 8) (r := 16) (o := 0) (i := e - 1) X dX9_step_29 30 rfl (by decide) rfl rfl (by omega) ?_
          refine g_iinc X (v := (zI (((e - 1 : Nat) : Int) - 1))) (lv' := [(0, .ref (kad K (0))), (1, .int (nI (g))), (2, .int (zI (((e - 1 : Nat) : Int) - 1)))]) dX9_step_30 33 rfl (by decide) rfl (n_dz (e - 1)) rfl rfl ?_
          refine g_goto X dX9_step_33 7 (by decide) ?_
          skip
          refine g_mem (h := (mup (mrow h 16 (stF size e (h 16))) 16 (e - 1) (nI (0)))) (h' := (mrow h 16 (stF size (e - 1) (h 16)))) (by rw [mup_m, stF_s (by omega) he]) ?_
          exact ih7 (e - 1) (by omega) (fun i a b => by
                    by_cases y : i = e - 1
                    · rw [y]; omega
                    · exact hz i (by omega) b) (by omega)
  skip
  refine g_mem (h := h) (h' := (mrow h 16 (stF size size (h 16)))) (by rw [stF_e, mrow_id]) ?_
  exact lp7 _ size (by omega) (fun i a b => absurd b (by omega)) (Nat.lt_succ_self _)
