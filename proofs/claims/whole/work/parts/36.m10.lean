def phR (h : Mem) (d : Nat) : Nat → Int32 := fun i => h 8 (25 * d + i)
def qtP (hi lo : Nat) (po f F : Nat → Int32) (e : Nat) : Nat → Int32 := fun k => if e ≤ k ∧ k ≤ hi - lo then redN (hi + 1) lo po f (hi - lo - k) (k + lo) else if k < 25 then nI 0 else F k
theorem qtP_0 {hi lo : Nat} {po f F : Nat → Int32} {z : Nat} (hz : z = 25) : qtP hi lo po f F (hi - lo + 1) = zrK F z := by
  funext k
  unfold qtP zrK
  rw [if_neg (by omega), hz]
theorem qtP_s {hi lo e : Nat} {po f F : Nat → Int32} (h1 : 1 ≤ e) (h2 : e ≤ hi - lo + 1) : upd (qtP hi lo po f F e) (e - 1) (redN (hi + 1) lo po f (hi - lo + 1 - e) (e - 1 + lo)) = qtP hi lo po f F (e - 1) := by
  funext k
  by_cases y : k = e - 1
  · rw [y, upd_s]
    unfold qtP
    rw [if_pos (by omega), show hi - lo - (e - 1) = hi - lo + 1 - e by omega]
  · rw [upd_n _ _ y]
    unfold qtP
    by_cases c : e ≤ k ∧ k ≤ hi - lo
    · rw [if_pos c, if_pos (by omega)]
    · have c2 : ¬ (e - 1 ≤ k ∧ k ≤ hi - lo) := by omega
      rw [if_neg c, if_neg c2]
theorem qtP_e {hi lo : Nat} {po f F : Nat → Int32} : ∀ k, k < 25 → qtP hi lo po f F 0 k = qtF hi lo po f k := by
  intro k hk
  unfold qtP qtF
  by_cases c : k ≤ hi - lo
  · rw [if_pos (by omega), if_pos c]
  · rw [if_neg (by omega), if_neg c, if_pos hk]
theorem red_next2 {hi lo e : Nat} {po f : Nat → Int32} (h0 : lo ≤ hi) (h1 : 1 ≤ e) (h2 : e ≤ hi - lo + 1) : redI lo po (redN (hi + 1) lo po f (hi - lo + 1 - e) (e - 1 + lo)) (e - 1 + lo) (redN (hi + 1) lo po f (hi - lo + 1 - e)) (lo + 1) = redN (hi + 1) lo po f (hi - lo + 1 - (e - 1)) := by
  rw [show hi - lo + 1 - (e - 1) = hi - lo + 1 - e + 1 by omega]
  show _ = redI lo po (redN (hi + 1) lo po f (hi - lo + 1 - e) (hi + 1 - 1 - (hi - lo + 1 - e))) (hi + 1 - 1 - (hi - lo + 1 - e)) _ (lo + 1)
  rw [show hi + 1 - 1 - (hi - lo + 1 - e) = e - 1 + lo by omega]
def cpR (Q F : Nat → Int32) (k : Nat) : Nat → Int32 := fun x => if x < k then Q x else F x
theorem cpR_0 (Q F : Nat → Int32) : cpR Q F 0 = F := by funext x; unfold cpR; rw [if_neg (by omega)]
theorem cpR_s (Q F : Nat → Int32) (k : Nat) : upd (cpR Q F k) k (Q k) = cpR Q F (k + 1) := by
  funext x
  by_cases e : x = k
  · rw [e, upd_s]; unfold cpR; rw [if_pos (by omega)]
  · rw [upd_n _ _ e]
    unfold cpR
    by_cases c : x < k
    · rw [if_pos c, if_pos (by omega)]
    · rw [if_neg c, if_neg (by omega)]
theorem qt_congr {hi lo : Nat} {po po' f f' : Nat → Int32} (hh : hi ≤ 24) (e : ∀ i, i < 25 → f i = f' i) (e2 : ∀ i, i < 25 → po i = po' i) (hl : lo ≤ hi) : ∀ k, k < 25 → qtF hi lo po f k = qtF hi lo po' f' k := by
  have a : ∀ t x, x < 25 → redN (hi + 1) lo po f t x = redN (hi + 1) lo po' f' t x := by
    intro t
    induction t with
    | zero => exact e
    | succ t ih =>
      intro x hx
      show redI lo po (redN (hi + 1) lo po f t (hi + 1 - 1 - t)) (hi + 1 - 1 - t) (redN (hi + 1) lo po f t) (lo + 1) x = redI lo po' (redN (hi + 1) lo po' f' t (hi + 1 - 1 - t)) (hi + 1 - 1 - t) (redN (hi + 1) lo po' f' t) (lo + 1) x
      unfold redI
      rw [ih x hx, ih (hi + 1 - 1 - t) (by omega), e2 _ (by omega)]
  intro k hk
  unfold qtF
  by_cases c : k ≤ hi - lo
  · rw [if_pos c, if_pos c]; exact a _ _ (by omega)
  · rw [if_neg c, if_neg c]
set_option maxHeartbeats 1000000 in
set_option maxRecDepth 100000 in
theorem c_M_divide (h : Mem) (d hi lo : Nat) (hd24 : d ≤ 24) (hh : hi ≤ 24) (hlo : lo ≤ hi) (hl : h 9 d = nI lo) : cI 25 ML yX9_divide cX9_divide 7 (some .int) 0 0 (fun ad => [.ref (ad (0)), .int (nI (d)), .int (nI (hi))]) h (fun r h2 => r = nI (hi - lo) ∧ ∃ Q F : Nat → Int32, h2 = mrow (mrow h 11 Q) 10 F ∧ ∀ k, k < 25 → F k = qtF hi lo (phR h d) (h 10) k) := by
  refine cI_of MLW (by decide +kernel) (fun ad => Nat.le_of_ble_eq_true rfl) ?_
  intro K X Z
  show G 25 ML 7 K h 0 [(0, .ref (kad K (0))), (1, .int (nI (d))), (2, .int (nI (hi)))] []
  refine g_aload_n X dX9_divide_0 1 rfl rfl ?_
  refine g_get (c := 0) (k := 13) (T := TX9) (sk := skM0) (v := .ref (kad K (9))) X wf_X9_45 inX9 dX9_divide_1 4 rfl (by decide) rfl rfl (by decide) rfl ?_
  refine g_iload_n X dX9_divide_4 5 rfl rfl ?_
  refine g_iald (c := 9) (n := 25) (r := 9) (o := 0) (i := d) (v := (nI (lo))) X dX9_divide_5 6 rfl (by decide) rfl rfl (by omega) hl ?_
  refine g_istore_n X (lv' := [(0, .ref (kad K (0))), (1, .int (nI (d))), (2, .int (nI (hi))), (3, .int (nI (lo)))]) dX9_divide_6 7 rfl (by decide) rfl rfl ?_
  refine g_iconst X dX9_divide_7 8 rfl (v := (nI (0))) rfl ?_
  refine g_istore X (lv' := [(0, .ref (kad K (0))), (1, .int (nI (d))), (2, .int (nI (hi))), (3, .int (nI (lo))), (4, .int (nI 0))]) dX9_divide_8 10 rfl (by decide) rfl rfl ?_
  have lp10 : ∀ (fu : Nat) (z : Nat) (hz : z ≤ 25), 25 - z < fu → G 25 ML 7 K (mrow h 11 (zrK (h 11) z)) 10 [(0, .ref (kad K (0))), (1, .int (nI (d))), (2, .int (nI (hi))), (3, .int (nI (lo))), (4, .int (nI (z)))] [] := by
    intro fu
    induction fu with
    | zero => intro z hz hm; exact absurd hm (Nat.not_lt_zero _)
    | succ fu ih10 =>
      intro z hz hm10
      refine g_iload X dX9_divide_10 12 rfl rfl ?_
      refine g_bipush X dX9_divide_12 14 rfl (v := (nI (25))) rfl ?_
      refine g_icmp_ge X ((z : Nat) : Int) 25 dX9_divide_14 31 (by decide) 17 rfl (nI_toInt (by omega)) rfl (fun t14 => ?_) (fun f14 => ?_)
      · skip
        refine g_iload_n X dX9_divide_31 32 rfl rfl ?_
        refine g_iload_n X dX9_divide_32 33 rfl rfl ?_
        refine g_isub X (v := (zI (((hi - lo + 1 : Nat) : Int) - 1))) dX9_divide_33 34 rfl ((nn_sub hi lo).trans (congrArg zI (by omega))) ?_
        refine g_istore X (lv' := [(0, .ref (kad K (0))), (1, .int (nI (d))), (2, .int (nI (hi))), (3, .int (nI (lo))), (4, .int (zI (((hi - lo + 1 : Nat) : Int) - 1)))]) dX9_divide_34 36 rfl (by decide) rfl rfl ?_
        have lp36 : ∀ (fu : Nat) (e : Nat) (he : e ≤ hi - lo + 1), e < fu → G 25 ML 7 K (mrow (mrow h 11 (qtP hi lo (phR h d) (h 10) (h 11) e)) 10 (redN (hi + 1) lo (phR h d) (h 10) (hi - lo + 1 - e))) 36 [(0, .ref (kad K (0))), (1, .int (nI (d))), (2, .int (nI (hi))), (3, .int (nI (lo))), (4, .int (zI (((e : Nat) : Int) - 1)))] [] := by
          intro fu
          induction fu with
          | zero => intro e he hm; exact absurd hm (Nat.not_lt_zero _)
          | succ fu ih36 =>
            intro e he hm36
            refine g_iload X dX9_divide_36 38 rfl rfl ?_
            refine g_if_lt X (((e : Nat) : Int) - 1) dX9_divide_38 110 (by decide) 41 rfl (zI_toInt (by omega)) (fun t38 => ?_) (fun f38 => ?_)
            · skip
              refine g_iconst X dX9_divide_110 111 rfl (v := (nI (0))) rfl ?_
              refine g_istore X (lv' := [(0, .ref (kad K (0))), (1, .int (nI (d))), (2, .int (nI (hi))), (3, .int (nI (lo))), (4, .int (nI 0))]) dX9_divide_111 113 rfl (by decide) rfl rfl ?_
              have lp113 : ∀ (fu : Nat) (k : Nat) (hk : k ≤ 25), 25 - k < fu → G 25 ML 7 K (mrow (mrow h 11 (qtP hi lo (phR h d) (h 10) (h 11) 0)) 10 (cpR (qtP hi lo (phR h d) (h 10) (h 11) 0) (redN (hi + 1) lo (phR h d) (h 10) (hi - lo + 1)) k)) 113 [(0, .ref (kad K (0))), (1, .int (nI (d))), (2, .int (nI (hi))), (3, .int (nI (lo))), (4, .int (nI (k)))] [] := by
                intro fu
                induction fu with
                | zero => intro k hk hm; exact absurd hm (Nat.not_lt_zero _)
                | succ fu ih113 =>
                  intro k hk hm113
                  refine g_iload X dX9_divide_113 115 rfl rfl ?_
                  refine g_bipush X dX9_divide_115 117 rfl (v := (nI (25))) rfl ?_
                  refine g_icmp_ge X ((k : Nat) : Int) 25 dX9_divide_117 140 (by decide) 120 rfl (nI_toInt (by omega)) rfl (fun t117 => ?_) (fun f117 => ?_)
                  · skip
                    refine g_iload_n X dX9_divide_140 141 rfl rfl ?_
                    refine g_iload_n X dX9_divide_141 142 rfl rfl ?_
                    refine g_isub X (v := (nI (hi - lo))) dX9_divide_142 143 rfl (pk_sub hlo) ?_
                    refine g_iret (h := (mrow (mrow h 11 (qtP hi lo (phR h d) (h 10) (h 11) 0)) 10 (cpR (qtP hi lo (phR h d) (h 10) (h 11) 0) (redN (hi + 1) lo (phR h d) (h 10) (hi - lo + 1)) k))) (v := (nI (hi - lo))) X Z dX9_divide_143 ?_
                    exact ⟨rfl, _, _, rfl, fun x hx => by rw [show k = 25 from by omega]; exact (if_pos hx).trans (qtP_e x hx)⟩
                  · skip
                    refine g_aload_n X dX9_divide_120 121 rfl rfl ?_
                    refine g_get (c := 0) (k := 14) (T := TX9) (sk := skM0) (v := .ref (kad K (10))) X wf_X9_48 inX9 dX9_divide_121 124 rfl (by decide) rfl rfl (by decide) rfl ?_
                    refine g_iload X dX9_divide_124 126 rfl rfl ?_
                    refine g_aload_n X dX9_divide_126 127 rfl rfl ?_
                    refine g_get (c := 0) (k := 15) (T := TX9) (sk := skM0) (v := .ref (kad K (11))) X wf_X9_51 inX9 dX9_divide_127 130 rfl (by decide) rfl rfl (by decide) rfl ?_
                    refine g_iload X dX9_divide_130 132 rfl rfl ?_
                    refine g_iald (c := 11) (n := 25) (r := 11) (o := 0) (i := k) (v := ((qtP hi lo (phR h d) (h 10) (h 11) 0) k)) X dX9_divide_132 133 rfl (by decide) rfl rfl (by omega) rfl ?_
                    refine g_iast (c := 10) (n := 25) (r := 10) (o := 0) (i := k) X dX9_divide_133 134 rfl (by decide) rfl rfl (by omega) ?_
                    refine g_iinc X (v := (nI (k + 1))) (lv' := [(0, .ref (kad K (0))), (1, .int (nI (d))), (2, .int (nI (hi))), (3, .int (nI (lo))), (4, .int (nI (k + 1)))]) dX9_divide_134 137 rfl (by decide) rfl (n_inc k 1) rfl rfl ?_
                    refine g_goto X dX9_divide_137 113 (by decide) ?_
                    skip
                    refine g_mem (h := (mup (mrow (mrow h 11 (qtP hi lo (phR h d) (h 10) (h 11) 0)) 10 (cpR (qtP hi lo (phR h d) (h 10) (h 11) 0) (redN (hi + 1) lo (phR h d) (h 10) (hi - lo + 1)) k)) 10 k ((qtP hi lo (phR h d) (h 10) (h 11) 0) k))) (h' := (mrow (mrow h 11 (qtP hi lo (phR h d) (h 10) (h 11) 0)) 10 (cpR (qtP hi lo (phR h d) (h 10) (h 11) 0) (redN (hi + 1) lo (phR h d) (h 10) (hi - lo + 1)) (k + 1)))) (by rw [mup_m]; exact congrArg (mrow _ 10) (cpR_s _ _ k)) ?_
                    exact ih113 (k + 1) (by omega) (by omega)
              skip
              refine g_mem (h := (mrow (mrow h 11 (qtP hi lo (phR h d) (h 10) (h 11) e)) 10 (redN (hi + 1) lo (phR h d) (h 10) (hi - lo + 1 - e)))) (h' := (mrow (mrow h 11 (qtP hi lo (phR h d) (h 10) (h 11) 0)) 10 (cpR (qtP hi lo (phR h d) (h 10) (h 11) 0) (redN (hi + 1) lo (phR h d) (h 10) (hi - lo + 1)) 0))) (by rw [cpR_0, show e = 0 from by omega]; rfl) ?_
              exact lp113 _ 0 (by omega) (Nat.lt_succ_self _)
            · skip
              refine g_eq (lv' := [(0, .ref (kad K (0))), (1, .int (nI (d))), (2, .int (nI (hi))), (3, .int (nI (lo))), (4, .int (nI (e - 1)))]) rfl (by rw [show zI (((e : Nat) : Int) - 1) = nI (e - 1) from zI_of (by omega)]) rfl ?_
              refine g_aload_n X dX9_divide_41 42 rfl rfl ?_
              refine g_get (c := 0) (k := 14) (T := TX9) (sk := skM0) (v := .ref (kad K (10))) X wf_X9_48 inX9 dX9_divide_42 45 rfl (by decide) rfl rfl (by decide) rfl ?_
              refine g_iload X dX9_divide_45 47 rfl rfl ?_
              refine g_iload_n X dX9_divide_47 48 rfl rfl ?_
              refine g_iadd X (v := (nI ((e - 1) + lo))) dX9_divide_48 49 rfl (nI_add (e - 1) lo) ?_
              refine g_iald (c := 10) (n := 25) (r := 10) (o := 0) (i := (e - 1) + lo) (v := (redN (hi + 1) lo (phR h d) (h 10) (hi - lo + 1 - e) (e - 1 + lo))) X dX9_divide_49 50 rfl (by decide) rfl rfl (by omega) rfl ?_
              refine g_istore X (lv' := [(0, .ref (kad K (0))), (1, .int (nI (d))), (2, .int (nI (hi))), (3, .int (nI (lo))), (4, .int (nI (e - 1))), (5, .int (redN (hi + 1) lo (phR h d) (h 10) (hi - lo + 1 - e) (e - 1 + lo)))]) dX9_divide_50 52 rfl (by decide) rfl rfl ?_
              refine g_aload_n X dX9_divide_52 53 rfl rfl ?_
              refine g_get (c := 0) (k := 15) (T := TX9) (sk := skM0) (v := .ref (kad K (11))) X wf_X9_51 inX9 dX9_divide_53 56 rfl (by decide) rfl rfl (by decide) rfl ?_
              refine g_iload X dX9_divide_56 58 rfl rfl ?_
              refine g_iload X dX9_divide_58 60 rfl rfl ?_
              refine g_iast (c := 11) (n := 25) (r := 11) (o := 0) (i := e - 1) X dX9_divide_60 61 rfl (by decide) rfl rfl (by omega) ?_
              refine g_mem (h := mup (mrow (mrow h 11 (qtP hi lo (phR h d) (h 10) (h 11) e)) 10 (redN (hi + 1) lo (phR h d) (h 10) (hi - lo + 1 - e))) 11 (e - 1) (redN (hi + 1) lo (phR h d) (h 10) (hi - lo + 1 - e) (e - 1 + lo))) (h' := (mrow (mrow h 11 (qtP hi lo (phR h d) (h 10) (h 11) (e - 1))) 10 (redN (hi + 1) lo (phR h d) (h 10) (hi - lo + 1 - e)))) (by rw [mup_mrow _ (by decide), mup_m, qtP_s (by omega) he]) ?_
              refine g_iconst X dX9_divide_61 62 rfl (v := (nI (0))) rfl ?_
              refine g_istore X (lv' := [(0, .ref (kad K (0))), (1, .int (nI (d))), (2, .int (nI (hi))), (3, .int (nI (lo))), (4, .int (nI (e - 1))), (5, .int (redN (hi + 1) lo (phR h d) (h 10) (hi - lo + 1 - e) (e - 1 + lo))), (6, .int (nI 0))]) dX9_divide_62 64 rfl (by decide) rfl rfl ?_
              have lp64 : ∀ (fu : Nat) (i : Nat) (hi2 : i ≤ lo + 1), lo + 1 - i < fu → G 25 ML 7 K (mrow (mrow h 11 (qtP hi lo (phR h d) (h 10) (h 11) (e - 1))) 10 (redI lo (phR h d) (redN (hi + 1) lo (phR h d) (h 10) (hi - lo + 1 - e) (e - 1 + lo)) (e - 1 + lo) (redN (hi + 1) lo (phR h d) (h 10) (hi - lo + 1 - e)) i)) 64 [(0, .ref (kad K (0))), (1, .int (nI (d))), (2, .int (nI (hi))), (3, .int (nI (lo))), (4, .int (nI (e - 1))), (5, .int (redN (hi + 1) lo (phR h d) (h 10) (hi - lo + 1 - e) (e - 1 + lo))), (6, .int (nI (i)))] [] := by
                intro fu
                induction fu with
                | zero => intro i hi2 hm; exact absurd hm (Nat.not_lt_zero _)
                | succ fu ih64 =>
                  intro i hi2 hm64
                  refine g_iload X dX9_divide_64 66 rfl rfl ?_
                  refine g_iload_n X dX9_divide_66 67 rfl rfl ?_
                  refine g_icmp_gt X ((i : Nat) : Int) ((lo : Nat) : Int) dX9_divide_67 104 (by decide) 70 rfl (nI_toInt (by omega)) (nI_toInt (by omega)) (fun t67 => ?_) (fun f67 => ?_)
                  · skip
                    refine g_iinc X (v := (zI (((e - 1 : Nat) : Int) - 1))) (lv' := [(0, .ref (kad K (0))), (1, .int (nI (d))), (2, .int (nI (hi))), (3, .int (nI (lo))), (4, .int (zI (((e - 1 : Nat) : Int) - 1))), (5, .int (redN (hi + 1) lo (phR h d) (h 10) (hi - lo + 1 - e) (e - 1 + lo))), (6, .int (nI (i)))]) dX9_divide_104 107 rfl (by decide) rfl (n_dz (e - 1)) rfl rfl ?_
                    refine g_goto X dX9_divide_107 36 (by decide) ?_
                    refine g_sub [0, 1, 2, 3, 4] rfl ?_
                    refine g_mem (h := (mrow (mrow h 11 (qtP hi lo (phR h d) (h 10) (h 11) (e - 1))) 10 (redI lo (phR h d) (redN (hi + 1) lo (phR h d) (h 10) (hi - lo + 1 - e) (e - 1 + lo)) (e - 1 + lo) (redN (hi + 1) lo (phR h d) (h 10) (hi - lo + 1 - e)) i))) (h' := (mrow (mrow h 11 (qtP hi lo (phR h d) (h 10) (h 11) (e - 1))) 10 (redN (hi + 1) lo (phR h d) (h 10) (hi - lo + 1 - (e - 1))))) (congrArg (mrow _ 10) (by rw [show i = lo + 1 from by omega]; exact red_next2 hlo (by omega) he)) ?_
                    exact ih36 (e - 1) (by omega) (by omega)
                  · skip
                    refine g_aload_n X dX9_divide_70 71 rfl rfl ?_
                    refine g_get (c := 0) (k := 14) (T := TX9) (sk := skM0) (v := .ref (kad K (10))) X wf_X9_48 inX9 dX9_divide_71 74 rfl (by decide) rfl rfl (by decide) rfl ?_
                    refine g_iload X dX9_divide_74 76 rfl rfl ?_
                    refine g_iload X dX9_divide_76 78 rfl rfl ?_
                    refine g_iadd X (v := (nI ((e - 1) + i))) dX9_divide_78 79 rfl (nI_add (e - 1) i) ?_
                    refine g_dup2 X dX9_divide_79 80 rfl rfl rfl ?_
                    refine g_iald (c := 10) (n := 25) (r := 10) (o := 0) (i := (e - 1) + i) (v := ((mrow (mrow h 11 (qtP hi lo (phR h d) (h 10) (h 11) (e - 1))) 10 (redI lo (phR h d) (redN (hi + 1) lo (phR h d) (h 10) (hi - lo + 1 - e) (e - 1 + lo)) (e - 1 + lo) (redN (hi + 1) lo (phR h d) (h 10) (hi - lo + 1 - e)) i)) 10 ((e - 1) + i))) X dX9_divide_80 81 rfl (by decide) rfl rfl (by omega) rfl ?_
                    refine g_iload X dX9_divide_81 83 rfl rfl ?_
                    refine g_aload_n X dX9_divide_83 84 rfl rfl ?_
                    refine g_get (c := 0) (k := 12) (T := TX9) (sk := skM0) (v := .ref (kad K (8))) X wf_X9_42 inX9 dX9_divide_84 87 rfl (by decide) rfl rfl (by decide) rfl ?_
                    refine g_bipush X dX9_divide_87 89 rfl (v := (nI (25))) rfl ?_
                    refine g_iload_n X dX9_divide_89 90 rfl rfl ?_
                    refine g_imul X (v := (nI (25 * d))) dX9_divide_90 91 rfl (pk_mul 25 d) ?_
                    refine g_iload X dX9_divide_91 93 rfl rfl ?_
                    refine g_iadd X (v := (nI (25 * d + i))) dX9_divide_93 94 rfl (nI_add (25 * d) i) ?_
                    refine g_iald (c := 8) (n := 625) (r := 8) (o := 0) (i := 25 * d + i) (v := (phR h d i)) X dX9_divide_94 95 rfl (by decide) rfl rfl (by omega) rfl ?_
                    refine g_imul X (v := ((redN (hi + 1) lo (phR h d) (h 10) (hi - lo + 1 - e) (e - 1 + lo)) * (phR h d i))) dX9_divide_95 96 rfl rfl ?_
                    refine g_isub X (v := (((mrow (mrow h 11 (qtP hi lo (phR h d) (h 10) (h 11) (e - 1))) 10 (redI lo (phR h d) (redN (hi + 1) lo (phR h d) (h 10) (hi - lo + 1 - e) (e - 1 + lo)) (e - 1 + lo) (redN (hi + 1) lo (phR h d) (h 10) (hi - lo + 1 - e)) i)) 10 ((e - 1) + i)) - ((redN (hi + 1) lo (phR h d) (h 10) (hi - lo + 1 - e) (e - 1 + lo)) * (phR h d i)))) dX9_divide_96 97 rfl rfl ?_
                    refine g_iast (c := 10) (n := 25) (r := 10) (o := 0) (i := (e - 1) + i) X dX9_divide_97 98 rfl (by decide) rfl rfl (by omega) ?_
                    refine g_iinc X (v := (nI (i + 1))) (lv' := [(0, .ref (kad K (0))), (1, .int (nI (d))), (2, .int (nI (hi))), (3, .int (nI (lo))), (4, .int (nI (e - 1))), (5, .int (redN (hi + 1) lo (phR h d) (h 10) (hi - lo + 1 - e) (e - 1 + lo))), (6, .int (nI (i + 1)))]) dX9_divide_98 101 rfl (by decide) rfl (n_inc i 1) rfl rfl ?_
                    refine g_goto X dX9_divide_101 64 (by decide) ?_
                    skip
                    refine g_mem (h := (mup (mrow (mrow h 11 (qtP hi lo (phR h d) (h 10) (h 11) (e - 1))) 10 (redI lo (phR h d) (redN (hi + 1) lo (phR h d) (h 10) (hi - lo + 1 - e) (e - 1 + lo)) (e - 1 + lo) (redN (hi + 1) lo (phR h d) (h 10) (hi - lo + 1 - e)) i)) 10 ((e - 1) + i) (((mrow (mrow h 11 (qtP hi lo (phR h d) (h 10) (h 11) (e - 1))) 10 (redI lo (phR h d) (redN (hi + 1) lo (phR h d) (h 10) (hi - lo + 1 - e) (e - 1 + lo)) (e - 1 + lo) (redN (hi + 1) lo (phR h d) (h 10) (hi - lo + 1 - e)) i)) 10 ((e - 1) + i)) - ((redN (hi + 1) lo (phR h d) (h 10) (hi - lo + 1 - e) (e - 1 + lo)) * (phR h d i))))) (h' := (mrow (mrow h 11 (qtP hi lo (phR h d) (h 10) (h 11) (e - 1))) 10 (redI lo (phR h d) (redN (hi + 1) lo (phR h d) (h 10) (hi - lo + 1 - e) (e - 1 + lo)) (e - 1 + lo) (redN (hi + 1) lo (phR h d) (h 10) (hi - lo + 1 - e)) (i + 1)))) (by rw [mup_m, mrow_s, show e - 1 + i = e - 1 + lo - lo + i from by omega, redI_s]) ?_
                    exact ih64 (i + 1) (by omega) (by omega)
              skip
              refine g_mem (h := (mrow (mrow h 11 (qtP hi lo (phR h d) (h 10) (h 11) (e - 1))) 10 (redN (hi + 1) lo (phR h d) (h 10) (hi - lo + 1 - e)))) (h' := (mrow (mrow h 11 (qtP hi lo (phR h d) (h 10) (h 11) (e - 1))) 10 (redI lo (phR h d) (redN (hi + 1) lo (phR h d) (h 10) (hi - lo + 1 - e) (e - 1 + lo)) (e - 1 + lo) (redN (hi + 1) lo (phR h d) (h 10) (hi - lo + 1 - e)) 0))) (by rw [redI_0]) ?_
              exact lp64 _ 0 (by omega) (Nat.lt_succ_self _)
        skip
        refine g_mem (h := (mrow h 11 (zrK (h 11) z))) (h' := (mrow (mrow h 11 (qtP hi lo (phR h d) (h 10) (h 11) (hi - lo + 1))) 10 (redN (hi + 1) lo (phR h d) (h 10) (hi - lo + 1 - (hi - lo + 1))))) (by rw [qtP_0 (show z = 25 from by omega), show hi - lo + 1 - (hi - lo + 1) = 0 from by omega]; exact (mrow_id _ 10).symm) ?_
        exact lp36 _ (hi - lo + 1) (by omega) (Nat.lt_succ_self _)
      · skip
        refine g_aload_n X dX9_divide_17 18 rfl rfl ?_
        refine g_get (c := 0) (k := 15) (T := TX9) (sk := skM0) (v := .ref (kad K (11))) X wf_X9_51 inX9 dX9_divide_18 21 rfl (by decide) rfl rfl (by decide) rfl ?_
        refine g_iload X dX9_divide_21 23 rfl rfl ?_
        refine g_iconst X dX9_divide_23 24 rfl (v := (nI (0))) rfl ?_
        refine g_iast (c := 11) (n := 25) (r := 11) (o := 0) (i := z) X dX9_divide_24 25 rfl (by decide) rfl rfl (by omega) ?_
        refine g_iinc X (v := (nI (z + 1))) (lv' := [(0, .ref (kad K (0))), (1, .int (nI (d))), (2, .int (nI (hi))), (3, .int (nI (lo))), (4, .int (nI (z + 1)))]) dX9_divide_25 28 rfl (by decide) rfl (n_inc z 1) rfl rfl ?_
        refine g_goto X dX9_divide_28 10 (by decide) ?_
        skip
        refine g_mem (h := (mup (mrow h 11 (zrK (h 11) z)) 11 z (nI (0)))) (h' := (mrow h 11 (zrK (h 11) (z + 1)))) (by rw [mup_m, zrK_s]) ?_
        exact ih10 (z + 1) (by omega) (by omega)
  skip
  refine g_mem (h := h) (h' := (mrow h 11 (zrK (h 11) 0))) (by rw [zrK_0]; exact (mrow_id _ 11).symm) ?_
  exact lp10 _ 0 (by omega) (Nat.lt_succ_self _)
def FC (h g : Mem) (n : Nat) : Prop := (∀ e, 1 ≤ e → e < n → g 9 e = nI (dgT e) ∧ ∀ k, k < 25 → g 8 (25 * e + k) = phF e k) ∧ mag h g [8, 9, 10, 11] []
theorem fc_row {h g : Mem} {n c : Nat} {F : Nat → Int32} (D : FC h g n) (hc : c = 10 ∨ c = 11) : FC h (mrow g c F) n := by
  refine ⟨fun e a b => ?_, fun x x0 hx => (mrow_n _ _ (fun z => hx (by rw [z]; rcases hc with y | y <;> rw [y] <;> decide))).trans (D.2.1 x x0 hx), fun j hj => ?_⟩
  · rw [mrow_n _ _ (by omega), mrow_n _ _ (by omega)]
    exact D.1 e a b
  · rw [mrow_n _ _ (by omega)]
    exact D.2.2 j hj
theorem fc_end {h g : Mem} {n k : Nat} {F : Nat → Int32} (D : FC h g n) (hn : 1 ≤ n) (hF : ∀ x, x < 25 → F (25 * n + x) = phF n x) (hF2 : ∀ x, x < 25 * n → F x = g 8 x) : FC h (mrow (mup g 9 n (nI (dgT n))) 8 F) (n + 1) := by
  refine ⟨fun e a b => ?_, fun x x0 hx => ?_, fun j hj => ?_⟩
  · rw [mrow_s, mrow_n _ _ (by decide)]
    by_cases y : e = n
    · rw [y]
      exact ⟨mup_ss _ _ _ _, hF⟩
    · refine ⟨?_, fun k hk => ?_⟩
      · rw [mup_s, if_neg y]; exact (D.1 e a (by omega)).1
      · rw [hF2 _ (by omega)]; exact (D.1 e a (by omega)).2 k hk
  · rw [mrow_n _ _ (fun z => hx (by rw [z]; decide)), mup_n _ _ (fun z => hx (by rw [z]; decide))]
    exact D.2.1 x x0 hx
  · rw [mrow_n _ _ (by decide), mup_n _ _ (by decide)]
    exact D.2.2 j hj
def alF (F : Nat → Int32) (n k : Nat) : Nat → Int32 := fun x => if 25 * n ≤ x ∧ x < 25 * n + k then phF n (x - 25 * n) else F x
theorem alF_0 (F : Nat → Int32) (n : Nat) : alF F n 0 = F := by funext x; unfold alF; rw [if_neg (by omega)]
theorem alF_s (F : Nat → Int32) (n k : Nat) : upd (alF F n k) (25 * n + k) (phF n k) = alF F n (k + 1) := by
  funext x
  by_cases e : x = 25 * n + k
  · rw [e, upd_s]; unfold alF; rw [if_pos (by omega), show 25 * n + k - 25 * n = k by omega]
  · rw [upd_n _ _ e]
    unfold alF
    by_cases c : 25 * n ≤ x ∧ x < 25 * n + k
    · rw [if_pos c, if_pos (by omega)]
    · rw [if_neg c, if_neg (by omega)]
set_option maxHeartbeats 1000000 in
set_option maxRecDepth 100000 in
theorem c_M_findCyclotomic (h : Mem) (q : Nat) (hq : h 0 0 = nI q) (hq1 : 3 ≤ q) (hq2 : q ≤ 24) : cV 25 ML yX9_findCyclotomic cX9_findCyclotomic 4 1 26 (fun ad => [.ref (ad (0))]) h (fun h2 => (∀ k, k < 25 → h2 7 k = phF q k) ∧ h2 0 10 = nI (dgT q) ∧ mag h h2 [7, 8, 9, 10, 11] [10]) := by
  refine cV_of MLW (by decide +kernel) (fun ad => Nat.le_of_ble_eq_true rfl) ?_
  intro K X Z
  show G 25 ML 4 K h 0 [(0, .ref (kad K (0)))] []
  refine g_iconst X dX9_findCyclotomic_0 1 rfl (v := (nI (1))) rfl ?_
  refine g_istore_n X (lv' := [(0, .ref (kad K (0))), (1, .int (nI 1))]) dX9_findCyclotomic_1 2 rfl (by decide) rfl rfl ?_
  have lp2 : ∀ (fu : Nat) (n : Nat) (g : Mem) (hn1 : 1 ≤ n) (hnq : n ≤ q + 1) (hD : FC h g n), q + 1 - n < fu → G 25 ML 4 K g 2 [(0, .ref (kad K (0))), (1, .int (nI (n)))] [] := by
    intro fu
    induction fu with
    | zero => intro n g hn1 hnq hD hm; exact absurd hm (Nat.not_lt_zero _)
    | succ fu ih2 =>
      intro n g hn1 hnq hD hm2
      refine g_iload_n X dX9_findCyclotomic_2 3 rfl rfl ?_
      refine g_aload_n X dX9_findCyclotomic_3 4 rfl rfl ?_
      refine g_get (c := 0) (k := 0) (T := TX9) (sk := skM0) (v := .int (nI (q))) X wf_X9_7 inX9 dX9_findCyclotomic_4 7 rfl (by decide) rfl rfl (by decide) (congrArg Value.int (((hD.2.2 0 (by decide)).trans hq))) ?_
      refine g_icmp_gt X ((n : Nat) : Int) ((q : Nat) : Int) dX9_findCyclotomic_7 129 (by decide) 10 rfl (nI_toInt (by omega)) (nI_toInt (by omega)) (fun t7 => ?_) (fun f7 => ?_)
      · skip
        refine g_aload_n X dX9_findCyclotomic_129 130 rfl rfl ?_
        refine g_aload_n X dX9_findCyclotomic_130 131 rfl rfl ?_
        refine g_get (c := 0) (k := 13) (T := TX9) (sk := skM0) (v := .ref (kad K (9))) X wf_X9_45 inX9 dX9_findCyclotomic_131 134 rfl (by decide) rfl rfl (by decide) rfl ?_
        refine g_aload_n X dX9_findCyclotomic_134 135 rfl rfl ?_
        refine g_get (c := 0) (k := 0) (T := TX9) (sk := skM0) (v := .int (nI (q))) X wf_X9_7 inX9 dX9_findCyclotomic_135 138 rfl (by decide) rfl rfl (by decide) (congrArg Value.int (((hD.2.2 0 (by decide)).trans hq))) ?_
        refine g_iald (c := 9) (n := 25) (r := 9) (o := 0) (i := q) (v := (nI (dgT q))) X dX9_findCyclotomic_138 139 rfl (by decide) rfl rfl (by omega) ((hD.1 q (by omega) (by omega)).1) ?_
        refine g_put (c := 0) (k := 10) (T := TX9) (sk := skM0) X wf_X9_129 inX9 tyX9_ok nmX9 dX9_findCyclotomic_139 142 rfl (by decide) rfl rfl (by decide) rfl rfl rfl ?_
        refine g_iconst X dX9_findCyclotomic_142 143 rfl (v := (nI (0))) rfl ?_
        refine g_istore_n X (lv' := [(0, .ref (kad K (0))), (1, .int (nI 0))]) dX9_findCyclotomic_143 144 rfl (by decide) rfl rfl ?_
        have lp144 : ∀ (fu : Nat) (k : Nat) (hk : k ≤ 25), 25 - k < fu → G 25 ML 4 K (mrow (mup g 0 10 (nI (dgT q))) 7 (cpR (phF q) (g 7) k)) 144 [(0, .ref (kad K (0))), (1, .int (nI (k)))] [] := by
          intro fu
          induction fu with
          | zero => intro k hk hm; exact absurd hm (Nat.not_lt_zero _)
          | succ fu ih144 =>
            intro k hk hm144
            refine g_iload_n X dX9_findCyclotomic_144 145 rfl rfl ?_
            refine g_bipush X dX9_findCyclotomic_145 147 rfl (v := (nI (25))) rfl ?_
            refine g_icmp_ge X ((k : Nat) : Int) 25 dX9_findCyclotomic_147 176 (by decide) 150 rfl (nI_toInt (by omega)) rfl (fun t147 => ?_) (fun f147 => ?_)
            · skip
              refine g_vret (h := (mrow (mup g 0 10 (nI (dgT q))) 7 (cpR (phF q) (g 7) k))) X Z dX9_findCyclotomic_176 ?_
              exact ⟨by rw [show k = 25 from by omega, mrow_s]; exact fun x hx => if_pos hx, rfl, fun c c0 hc => by simp at hc; rw [mrow_n _ _ (by omega), mup_n _ _ c0]; exact hD.2.1 c c0 (by simp; omega), fun j hj => by rw [mrow_n _ _ (by decide), mup_s, if_neg (by simpa using hj)]; exact hD.2.2 j (by simp)⟩
            · skip
              refine g_aload_n X dX9_findCyclotomic_150 151 rfl rfl ?_
              refine g_get (c := 0) (k := 11) (T := TX9) (sk := skM0) (v := .ref (kad K (7))) X wf_X9_39 inX9 dX9_findCyclotomic_151 154 rfl (by decide) rfl rfl (by decide) rfl ?_
              refine g_iload_n X dX9_findCyclotomic_154 155 rfl rfl ?_
              refine g_aload_n X dX9_findCyclotomic_155 156 rfl rfl ?_
              refine g_get (c := 0) (k := 12) (T := TX9) (sk := skM0) (v := .ref (kad K (8))) X wf_X9_42 inX9 dX9_findCyclotomic_156 159 rfl (by decide) rfl rfl (by decide) rfl ?_
              refine g_bipush X dX9_findCyclotomic_159 161 rfl (v := (nI (25))) rfl ?_
              refine g_aload_n X dX9_findCyclotomic_161 162 rfl rfl ?_
              refine g_get (c := 0) (k := 0) (T := TX9) (sk := skM0) (v := .int (nI (q))) X wf_X9_7 inX9 dX9_findCyclotomic_162 165 rfl (by decide) rfl rfl (by decide) (congrArg Value.int (((hD.2.2 0 (by decide)).trans hq))) ?_
              refine g_imul X (v := (nI (25 * q))) dX9_findCyclotomic_165 166 rfl (pk_mul 25 q) ?_
              refine g_iload_n X dX9_findCyclotomic_166 167 rfl rfl ?_
              refine g_iadd X (v := (nI (25 * q + k))) dX9_findCyclotomic_167 168 rfl (nI_add (25 * q) k) ?_
              refine g_iald (c := 8) (n := 625) (r := 8) (o := 0) (i := 25 * q + k) (v := (phF q k)) X dX9_findCyclotomic_168 169 rfl (by decide) rfl rfl (by omega) ((hD.1 q (by omega) (by omega)).2 k (by omega)) ?_
              refine g_iast (c := 7) (n := 25) (r := 7) (o := 0) (i := k) X dX9_findCyclotomic_169 170 rfl (by decide) rfl rfl (by omega) ?_
              refine g_iinc X (v := (nI (k + 1))) (lv' := [(0, .ref (kad K (0))), (1, .int (nI (k + 1)))]) dX9_findCyclotomic_170 173 rfl (by decide) rfl (n_inc k 1) rfl rfl ?_
              refine g_goto X dX9_findCyclotomic_173 144 (by decide) ?_
              skip
              refine g_mem (h := (mup (mrow (mup g 0 10 (nI (dgT q))) 7 (cpR (phF q) (g 7) k)) 7 k (phF q k))) (h' := (mrow (mup g 0 10 (nI (dgT q))) 7 (cpR (phF q) (g 7) (k + 1)))) (by rw [mup_m, cpR_s]) ?_
              exact ih144 (k + 1) (by omega) (by omega)
        skip
        refine g_mem (h := (mup g 0 10 (nI (dgT q)))) (h' := (mrow (mup g 0 10 (nI (dgT q))) 7 (cpR (phF q) (g 7) 0))) (by rw [cpR_0]; exact (mrow_id _ 7).symm) ?_
        exact lp144 _ 0 (by omega) (Nat.lt_succ_self _)
      · skip
        refine g_iconst X dX9_findCyclotomic_10 11 rfl (v := (nI (0))) rfl ?_
        refine g_istore_n X (lv' := [(0, .ref (kad K (0))), (1, .int (nI (n))), (2, .int (nI 0))]) dX9_findCyclotomic_11 12 rfl (by decide) rfl rfl ?_
        have lp12 : ∀ (fu : Nat) (k : Nat) (hk : k ≤ 25), 25 - k < fu → G 25 ML 4 K (mrow g 10 (cpR (rsF n 1) (g 10) k)) 12 [(0, .ref (kad K (0))), (1, .int (nI (n))), (2, .int (nI (k)))] [] := by
          intro fu
          induction fu with
          | zero => intro k hk hm; exact absurd hm (Nat.not_lt_zero _)
          | succ fu ih12 =>
            intro k hk hm12
            refine g_iload_n X dX9_findCyclotomic_12 13 rfl rfl ?_
            refine g_bipush X dX9_findCyclotomic_13 15 rfl (v := (nI (25))) rfl ?_
            refine g_icmp_ge X ((k : Nat) : Int) 25 dX9_findCyclotomic_15 48 (by decide) 18 rfl (nI_toInt (by omega)) rfl (fun t15 => ?_) (fun f15 => ?_)
            · skip
              refine g_iload_n X dX9_findCyclotomic_48 49 rfl rfl ?_
              refine g_istore_n X (lv' := [(0, .ref (kad K (0))), (1, .int (nI (n))), (2, .int (nI (n)))]) dX9_findCyclotomic_49 50 rfl (by decide) rfl rfl ?_
              refine g_iconst X dX9_findCyclotomic_50 51 rfl (v := (nI (1))) rfl ?_
              refine g_eq (lv' := [(0, .ref (kad K (0))), (1, .int (nI (n))), (2, .int (nI (hiT n 1)))]) rfl (by rw [tb_1 n (by omega) hn1]) rfl ?_
              refine g_istore_n X (lv' := [(0, .ref (kad K (0))), (1, .int (nI (n))), (2, .int (nI (hiT n 1))), (3, .int (nI 1))]) dX9_findCyclotomic_51 52 rfl (by decide) rfl rfl ?_
              have lp52 : ∀ (fu : Nat) (d : Nat) (g2 : Mem) (hd1 : 1 ≤ d) (hdn : d ≤ n) (hD2 : FC h g2 n) (hR : ∀ k, k < 25 → g2 10 k = rsF n d k), n - d < fu → G 25 ML 4 K g2 52 [(0, .ref (kad K (0))), (1, .int (nI (n))), (2, .int (nI (hiT n d))), (3, .int (nI (d)))] [] := by
                intro fu
                induction fu with
                | zero => intro d g2 hd1 hdn hD2 hR hm; exact absurd hm (Nat.not_lt_zero _)
                | succ fu ih52 =>
                  intro d g2 hd1 hdn hD2 hR hm52
                  refine g_iload_n X dX9_findCyclotomic_52 53 rfl rfl ?_
                  refine g_iload_n X dX9_findCyclotomic_53 54 rfl rfl ?_
                  refine g_icmp_ge X ((d : Nat) : Int) ((n : Nat) : Int) dX9_findCyclotomic_54 76 (by decide) 57 rfl (nI_toInt (by omega)) (nI_toInt (by omega)) (fun t54 => ?_) (fun f54 => ?_)
                  · skip
                    have hdd : d = n := by omega
                    have hb5 := tb_5 n (by omega) hn1
                    refine g_eq (lv' := [(0, .ref (kad K (0))), (1, .int (nI (n))), (2, .int (nI (dgT n))), (3, .int (nI (d)))]) rfl (by rw [hdd, hb5.1]) rfl ?_
                    refine g_aload_n X dX9_findCyclotomic_76 77 rfl rfl ?_
                    refine g_get (c := 0) (k := 13) (T := TX9) (sk := skM0) (v := .ref (kad K (9))) X wf_X9_45 inX9 dX9_findCyclotomic_77 80 rfl (by decide) rfl rfl (by decide) rfl ?_
                    refine g_iload_n X dX9_findCyclotomic_80 81 rfl rfl ?_
                    refine g_iload_n X dX9_findCyclotomic_81 82 rfl rfl ?_
                    refine g_iast (c := 9) (n := 25) (r := 9) (o := 0) (i := n) X dX9_findCyclotomic_82 83 rfl (by decide) rfl rfl (by omega) ?_
                    refine g_iconst X dX9_findCyclotomic_83 84 rfl (v := (nI (0))) rfl ?_
                    refine g_istore_n X (lv' := [(0, .ref (kad K (0))), (1, .int (nI (n))), (2, .int (nI (dgT n))), (3, .int (nI 0))]) dX9_findCyclotomic_84 85 rfl (by decide) rfl rfl ?_
                    have lp85 : ∀ (fu : Nat) (k : Nat) (hk : k ≤ 25), 25 - k < fu → G 25 ML 4 K (mrow (mup g2 9 n (nI (dgT n))) 8 (alF (g2 8) n k)) 85 [(0, .ref (kad K (0))), (1, .int (nI (n))), (2, .int (nI (dgT n))), (3, .int (nI (k)))] [] := by
                      intro fu
                      induction fu with
                      | zero => intro k hk hm; exact absurd hm (Nat.not_lt_zero _)
                      | succ fu ih85 =>
                        intro k hk hm85
                        refine g_iload_n X dX9_findCyclotomic_85 86 rfl rfl ?_
                        refine g_bipush X dX9_findCyclotomic_86 88 rfl (v := (nI (25))) rfl ?_
                        refine g_icmp_ge X ((k : Nat) : Int) 25 dX9_findCyclotomic_88 123 (by decide) 91 rfl (nI_toInt (by omega)) rfl (fun t88 => ?_) (fun f88 => ?_)
                        · skip
                          refine g_iinc X (v := (nI (n + 1))) (lv' := [(0, .ref (kad K (0))), (1, .int (nI (n + 1))), (2, .int (nI (dgT n))), (3, .int (nI (k)))]) dX9_findCyclotomic_123 126 rfl (by decide) rfl (n_inc n 1) rfl rfl ?_
                          refine g_goto X dX9_findCyclotomic_126 2 (by decide) ?_
                          refine g_sub [0, 1] rfl ?_
                          exact ih2 (n + 1) (mrow (mup g2 9 n (nI (dgT n))) 8 (alF (g2 8) n k)) (by omega) (by omega) (fc_end (k := k) hD2 hn1 (fun x hx => by unfold alF; rw [if_pos (by omega), show 25 * n + x - 25 * n = x from by omega]) (fun x hx => by unfold alF; rw [if_neg (by omega)])) (by omega)
                        · skip
                          refine g_aload_n X dX9_findCyclotomic_91 92 rfl rfl ?_
                          refine g_get (c := 0) (k := 12) (T := TX9) (sk := skM0) (v := .ref (kad K (8))) X wf_X9_42 inX9 dX9_findCyclotomic_92 95 rfl (by decide) rfl rfl (by decide) rfl ?_
                          refine g_bipush X dX9_findCyclotomic_95 97 rfl (v := (nI (25))) rfl ?_
                          refine g_iload_n X dX9_findCyclotomic_97 98 rfl rfl ?_
                          refine g_imul X (v := (nI (25 * n))) dX9_findCyclotomic_98 99 rfl (pk_mul 25 n) ?_
                          refine g_iload_n X dX9_findCyclotomic_99 100 rfl rfl ?_
                          refine g_iadd X (v := (nI (25 * n + k))) dX9_findCyclotomic_100 101 rfl (nI_add (25 * n) k) ?_
                          refine g_iload_n X dX9_findCyclotomic_101 102 rfl rfl ?_
                          refine g_iload_n X dX9_findCyclotomic_102 103 rfl rfl ?_
                          refine g_icmp_gt X ((k : Nat) : Int) ((dgT n : Nat) : Int) dX9_findCyclotomic_103 115 (by decide) 106 rfl (nI_toInt (by omega)) (nI_toInt (by omega)) (fun t103 => ?_) (fun f103 => ?_)
                          · skip
                            refine g_iconst X dX9_findCyclotomic_115 116 rfl (v := (nI (0))) rfl ?_
                            refine g_iast (c := 8) (n := 625) (r := 8) (o := 0) (i := 25 * n + k) X dX9_findCyclotomic_116 117 rfl (by decide) rfl rfl (by omega) ?_
                            refine g_iinc X (v := (nI (k + 1))) (lv' := [(0, .ref (kad K (0))), (1, .int (nI (n))), (2, .int (nI (dgT n))), (3, .int (nI (k + 1)))]) dX9_findCyclotomic_117 120 rfl (by decide) rfl (n_inc k 1) rfl rfl ?_
                            refine g_goto X dX9_findCyclotomic_120 85 (by decide) ?_
                            skip
                            refine g_mem (h := (mup (mrow (mup g2 9 n (nI (dgT n))) 8 (alF (g2 8) n k)) 8 (25 * n + k) (nI (0)))) (h' := (mrow (mup g2 9 n (nI (dgT n))) 8 (alF (g2 8) n (k + 1)))) (by rw [mup_m, show nI 0 = phF n k from by rw [hb5.2.2.2 k (by omega), if_neg (by omega)], alF_s]) ?_
                            exact ih85 (k + 1) (by omega) (by omega)
                          · skip
                            refine g_aload_n X dX9_findCyclotomic_106 107 rfl rfl ?_
                            refine g_get (c := 0) (k := 14) (T := TX9) (sk := skM0) (v := .ref (kad K (10))) X wf_X9_48 inX9 dX9_findCyclotomic_107 110 rfl (by decide) rfl rfl (by decide) rfl ?_
                            refine g_iload_n X dX9_findCyclotomic_110 111 rfl rfl ?_
                            refine g_iald (c := 10) (n := 25) (r := 10) (o := 0) (i := k) (v := (phF n k)) X dX9_findCyclotomic_111 112 rfl (by decide) rfl rfl (by omega) ((hR k (by omega)).trans (by rw [hdd, hb5.2.2.2 k (by omega), if_pos (by omega)])) ?_
                            refine g_goto X dX9_findCyclotomic_112 116 (by decide) ?_
                            refine g_iast (c := 8) (n := 625) (r := 8) (o := 0) (i := 25 * n + k) X dX9_findCyclotomic_116 117 rfl (by decide) rfl rfl (by omega) ?_
                            refine g_iinc X (v := (nI (k + 1))) (lv' := [(0, .ref (kad K (0))), (1, .int (nI (n))), (2, .int (nI (dgT n))), (3, .int (nI (k + 1)))]) dX9_findCyclotomic_117 120 rfl (by decide) rfl (n_inc k 1) rfl rfl ?_
                            refine g_goto X dX9_findCyclotomic_120 85 (by decide) ?_
                            skip
                            refine g_mem (h := (mup (mrow (mup g2 9 n (nI (dgT n))) 8 (alF (g2 8) n k)) 8 (25 * n + k) (phF n k))) (h' := (mrow (mup g2 9 n (nI (dgT n))) 8 (alF (g2 8) n (k + 1)))) (by rw [mup_m, alF_s]) ?_
                            exact ih85 (k + 1) (by omega) (by omega)
                    skip
                    refine g_mem (h := (mup g2 9 n (nI (dgT n)))) (h' := (mrow (mup g2 9 n (nI (dgT n))) 8 (alF (g2 8) n 0))) (by rw [alF_0]; exact (mrow_id _ 8).symm) ?_
                    exact lp85 _ 0 (by omega) (Nat.lt_succ_self _)
                  · skip
                    refine g_iload_n X dX9_findCyclotomic_57 58 rfl rfl ?_
                    refine g_iload_n X dX9_findCyclotomic_58 59 rfl rfl ?_
                    have b59 := Nat.mod_le n d
                    refine g_irem X (v := (nI (n % d))) dX9_findCyclotomic_59 60 rfl (nI_ne (by omega) (by omega)) (pk_rem (by omega) (by omega) (by omega)) ?_
                    refine g_if_ne X ((n % d : Nat) : Int) dX9_findCyclotomic_60 70 (by decide) 63 rfl (nI_toInt (by omega)) (fun t60 => ?_) (fun f60 => ?_)
                    · skip
                      have t60z : ¬ n % d = 0 := by omega
                      refine g_eq (lv' := [(0, .ref (kad K (0))), (1, .int (nI (n))), (2, .int (nI (hiT n (d + 1)))), (3, .int (nI (d)))]) rfl (by rw [(tb_2 n (by omega) d (by omega) hd1 t60z).1]) rfl ?_
                      refine g_iinc X (v := (nI (d + 1))) (lv' := [(0, .ref (kad K (0))), (1, .int (nI (n))), (2, .int (nI (hiT n (d + 1)))), (3, .int (nI (d + 1)))]) dX9_findCyclotomic_70 73 rfl (by decide) rfl (n_inc d 1) rfl rfl ?_
                      refine g_goto X dX9_findCyclotomic_73 52 (by decide) ?_
                      skip
                      exact ih52 (d + 1) g2 (by omega) (by omega) hD2 (fun k hk => (hR k hk).trans ((tb_2 n (by omega) d (by omega) hd1 t60z).2 k hk).symm) (by omega)
                    · skip
                      have f60z : n % d = 0 := by omega
                      refine g_aload_n X dX9_findCyclotomic_63 64 rfl rfl ?_
                      refine g_iload_n X dX9_findCyclotomic_64 65 rfl rfl ?_
                      refine g_iload_n X dX9_findCyclotomic_65 66 rfl rfl ?_
                      refine g_callVi (st := []) X cw_X9_136 (c_M_divide g2 d (hiT n d) (dgT d) (by omega) (tb_3 n (by omega) d (by omega) hd1 f60z).2.2 (tb_3 n (by omega) d (by omega) hd1 f60z).2.1 (hD2.1 d hd1 (by omega)).1) dX9_findCyclotomic_66 69 rfl (by decide) rfl rfl rfl rfl rfl (by decide) (Nat.le_of_ble_eq_true rfl) ?_
                      rintro r9 h9 ⟨rfl, Q9, F9, rfl, hF9⟩
                      refine g_istore_n X (lv' := [(0, .ref (kad K (0))), (1, .int (nI (n))), (2, .int (nI (hiT n d - dgT d))), (3, .int (nI (d)))]) dX9_findCyclotomic_69 70 rfl (by decide) rfl rfl ?_
                      refine g_eq (lv' := [(0, .ref (kad K (0))), (1, .int (nI (n))), (2, .int (nI (hiT n (d + 1)))), (3, .int (nI (d)))]) rfl (by rw [(tb_3 n (by omega) d (by omega) hd1 f60z).1]) rfl ?_
                      refine g_iinc X (v := (nI (d + 1))) (lv' := [(0, .ref (kad K (0))), (1, .int (nI (n))), (2, .int (nI (hiT n (d + 1)))), (3, .int (nI (d + 1)))]) dX9_findCyclotomic_70 73 rfl (by decide) rfl (n_inc d 1) rfl rfl ?_
                      refine g_goto X dX9_findCyclotomic_73 52 (by decide) ?_
                      skip
                      exact ih52 (d + 1) (mrow (mrow g2 11 Q9) 10 F9) (by omega) (by omega) (fc_row (fc_row hD2 (Or.inr rfl)) (Or.inl rfl)) (fun k hk => (hF9 k hk).trans ((qt_congr (tb_3 n (by omega) d (by omega) hd1 f60z).2.2 hR (hD2.1 d hd1 (by omega)).2 (tb_3 n (by omega) d (by omega) hd1 f60z).2.1 k hk).trans (tb_4 n (by omega) d (by omega) hd1 f60z k hk))) (by omega)
              skip
              refine g_mem (h := (mrow g 10 (cpR (rsF n 1) (g 10) k))) (h' := (mrow g 10 (cpR (rsF n 1) (g 10) k))) rfl ?_
              exact lp52 _ 1 (mrow g 10 (cpR (rsF n 1) (g 10) k)) (by omega) (by omega) (fc_row hD (Or.inl rfl)) (fun x hx => if_pos (by omega)) (Nat.lt_succ_self _)
            · skip
              refine g_aload_n X dX9_findCyclotomic_18 19 rfl rfl ?_
              refine g_get (c := 0) (k := 14) (T := TX9) (sk := skM0) (v := .ref (kad K (10))) X wf_X9_48 inX9 dX9_findCyclotomic_19 22 rfl (by decide) rfl rfl (by decide) rfl ?_
              refine g_iload_n X dX9_findCyclotomic_22 23 rfl rfl ?_
              refine g_iload_n X dX9_findCyclotomic_23 24 rfl rfl ?_
              refine g_iload_n X dX9_findCyclotomic_24 25 rfl rfl ?_
              refine g_icmp_ne X ((k : Nat) : Int) ((n : Nat) : Int) dX9_findCyclotomic_25 32 (by decide) 28 rfl (nI_toInt (by omega)) (nI_toInt (by omega)) (fun t25 => ?_) (fun f25 => ?_)
              · skip
                refine g_iload_n X dX9_findCyclotomic_32 33 rfl rfl ?_
                refine g_if_ne X ((k : Nat) : Int) dX9_findCyclotomic_33 40 (by decide) 36 rfl (nI_toInt (by omega)) (fun t33 => ?_) (fun f33 => ?_)
                · skip
                  refine g_iconst X dX9_findCyclotomic_40 41 rfl (v := (nI (0))) rfl ?_
                  refine g_iast (c := 10) (n := 25) (r := 10) (o := 0) (i := k) X dX9_findCyclotomic_41 42 rfl (by decide) rfl rfl (by omega) ?_
                  refine g_iinc X (v := (nI (k + 1))) (lv' := [(0, .ref (kad K (0))), (1, .int (nI (n))), (2, .int (nI (k + 1)))]) dX9_findCyclotomic_42 45 rfl (by decide) rfl (n_inc k 1) rfl rfl ?_
                  refine g_goto X dX9_findCyclotomic_45 12 (by decide) ?_
                  skip
                  refine g_mem (h := (mup (mrow g 10 (cpR (rsF n 1) (g 10) k)) 10 k (nI (0)))) (h' := (mrow g 10 (cpR (rsF n 1) (g 10) (k + 1)))) (by rw [mup_m, ← cpR_s, tb_0 n (by omega) hn1 k (by omega), if_neg (by omega), if_neg (by omega)]) ?_
                  exact ih12 (k + 1) (by omega) (by omega)
                · skip
                  refine g_iconst X dX9_findCyclotomic_36 37 rfl (v := (zI (-1))) rfl ?_
                  refine g_goto X dX9_findCyclotomic_37 41 (by decide) ?_
                  refine g_iast (c := 10) (n := 25) (r := 10) (o := 0) (i := k) X dX9_findCyclotomic_41 42 rfl (by decide) rfl rfl (by omega) ?_
                  refine g_iinc X (v := (nI (k + 1))) (lv' := [(0, .ref (kad K (0))), (1, .int (nI (n))), (2, .int (nI (k + 1)))]) dX9_findCyclotomic_42 45 rfl (by decide) rfl (n_inc k 1) rfl rfl ?_
                  refine g_goto X dX9_findCyclotomic_45 12 (by decide) ?_
                  skip
                  refine g_mem (h := (mup (mrow g 10 (cpR (rsF n 1) (g 10) k)) 10 k (zI (-1)))) (h' := (mrow g 10 (cpR (rsF n 1) (g 10) (k + 1)))) (by rw [mup_m, ← cpR_s, tb_0 n (by omega) hn1 k (by omega), if_neg (by omega), if_pos (by omega)]) ?_
                  exact ih12 (k + 1) (by omega) (by omega)
              · skip
                refine g_iconst X dX9_findCyclotomic_28 29 rfl (v := (nI (1))) rfl ?_
                refine g_goto X dX9_findCyclotomic_29 41 (by decide) ?_
                refine g_iast (c := 10) (n := 25) (r := 10) (o := 0) (i := k) X dX9_findCyclotomic_41 42 rfl (by decide) rfl rfl (by omega) ?_
                refine g_iinc X (v := (nI (k + 1))) (lv' := [(0, .ref (kad K (0))), (1, .int (nI (n))), (2, .int (nI (k + 1)))]) dX9_findCyclotomic_42 45 rfl (by decide) rfl (n_inc k 1) rfl rfl ?_
                refine g_goto X dX9_findCyclotomic_45 12 (by decide) ?_
                skip
                refine g_mem (h := (mup (mrow g 10 (cpR (rsF n 1) (g 10) k)) 10 k (nI (1)))) (h' := (mrow g 10 (cpR (rsF n 1) (g 10) (k + 1)))) (by rw [mup_m, ← cpR_s, tb_0 n (by omega) hn1 k (by omega), if_pos (by omega)]) ?_
                exact ih12 (k + 1) (by omega) (by omega)
        skip
        refine g_mem (h := g) (h' := (mrow g 10 (cpR (rsF n 1) (g 10) 0))) (by rw [cpR_0]; exact (mrow_id _ 10).symm) ?_
        exact lp12 _ 0 (by omega) (Nat.lt_succ_self _)
  skip
  refine g_mem (h := h) (h' := h) rfl ?_
  exact lp2 _ 1 h (by omega) (by omega) (⟨fun e a b => absurd b (by omega), mag_rf h _ _⟩) (Nat.lt_succ_self _)
