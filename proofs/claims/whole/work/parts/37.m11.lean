def mtM (h : Mem) (x0 x1 x2 : Int32) : Mem := clM (mup (mup (mup h 0 0 x0) 0 1 x1) 0 2 x2)
set_option maxHeartbeats 1000000 in
set_option maxRecDepth 100000 in
theorem c_M_motor (h : Mem) (x0 x1 x2 : Int32) : cI 25 ML yX9_motor cX9_motor 5 (some .int) 2 49 (fun ad => [.ref (ad (0)), .int (x0), .int (x1), .int (x2)]) h (fun r h2 => (okMot x0 x1 x2 → r = nI 1 ∧ (∀ k, k < 25 → h2 7 k = phF (tn x0) k) ∧ h2 0 10 = nI (dgT (tn x0)) ∧ mag (mtM h x0 x1 x2) h2 [7, 8, 9, 10, 11] [10]) ∧ (¬ okMot x0 x1 x2 → r = zI (-1) ∧ h2 = h)) := by
  refine cI_of MLW (by decide +kernel) (fun ad => Nat.le_of_ble_eq_true rfl) ?_
  intro K X Z
  show G 25 ML 5 K h 0 [(0, .ref (kad K (0))), (1, .int (x0)), (2, .int (x1)), (3, .int (x2))] []
  refine g_iload_n X dX9_motor_0 1 rfl rfl ?_
  refine g_i2l X (v := (x0).toInt64) dX9_motor_1 2 rfl rfl ?_
  refine g_ldc2 X (v := (3)) dX9_motor_2 5 rfl wk_X9_96 ?_
  refine g_ldc2 X (v := (24)) dX9_motor_5 8 rfl wk_X9_98 ?_
  refine g_callSix (st := []) (v := (bI (3 ≤ (x0).toInt ∧ (x0).toInt ≤ 24))) (m2 := h) X cw_X9_100 (c_M_in h ((x0).toInt64) (3 : Int64) (24 : Int64) ((x0).toInt) 3 24 (i64_of rfl) rfl rfl) dX9_motor_8 11 rfl rfl rfl rfl (by decide) (Nat.le_of_ble_eq_true rfl) ?_
  refine g_ifeq_B X dX9_motor_11 38 (by decide) 14 rfl (fun t11 => ?_) (fun f11 => ?_)
  · skip
    refine g_iconst X dX9_motor_38 39 rfl (v := (zI (-1))) rfl ?_
    refine g_iret (h := h) (v := (zI (-1))) X Z dX9_motor_39 ?_
    exact ⟨fun z => absurd z.1 t11, fun _ => ⟨rfl, rfl⟩⟩
  · skip
    refine g_iload_n X dX9_motor_14 15 rfl rfl ?_
    refine g_i2l X (v := (x1).toInt64) dX9_motor_15 16 rfl rfl ?_
    refine g_lconst X dX9_motor_16 17 rfl (v := (1 : Int64)) rfl ?_
    refine g_ldc2 X (v := (6)) dX9_motor_17 20 rfl wk_X9_104 ?_
    refine g_callSix (st := []) (v := (bI (1 ≤ (x1).toInt ∧ (x1).toInt ≤ 6))) (m2 := h) X cw_X9_100 (c_M_in h ((x1).toInt64) (1 : Int64) (6 : Int64) ((x1).toInt) 1 6 (i64_of rfl) rfl rfl) dX9_motor_20 23 rfl rfl rfl rfl (by decide) (Nat.le_of_ble_eq_true rfl) ?_
    refine g_ifeq_B X dX9_motor_23 38 (by decide) 26 rfl (fun t23 => ?_) (fun f23 => ?_)
    · skip
      refine g_iconst X dX9_motor_38 39 rfl (v := (zI (-1))) rfl ?_
      refine g_iret (h := h) (v := (zI (-1))) X Z dX9_motor_39 ?_
      exact ⟨fun z => absurd z.2.1 t23, fun _ => ⟨rfl, rfl⟩⟩
    · skip
      refine g_iload_n X dX9_motor_26 27 rfl rfl ?_
      refine g_i2l X (v := (x2).toInt64) dX9_motor_27 28 rfl rfl ?_
      refine g_lconst X dX9_motor_28 29 rfl (v := (1 : Int64)) rfl ?_
      refine g_ldc2 X (v := (3)) dX9_motor_29 32 rfl wk_X9_96 ?_
      refine g_callSix (st := []) (v := (bI (1 ≤ (x2).toInt ∧ (x2).toInt ≤ 3))) (m2 := h) X cw_X9_100 (c_M_in h ((x2).toInt64) (1 : Int64) (3 : Int64) ((x2).toInt) 1 3 (i64_of rfl) rfl rfl) dX9_motor_32 35 rfl rfl rfl rfl (by decide) (Nat.le_of_ble_eq_true rfl) ?_
      refine g_ifne_B X dX9_motor_35 40 (by decide) 38 rfl (fun t35 => ?_) (fun f35 => ?_)
      · skip
        obtain ⟨a, ha1, ha2, rfl⟩ := inR_3 (a := 3) (b := 24) f11
        have ea : tn (nI a) = a := tn_nI (by omega)
        refine g_aload_n X dX9_motor_40 41 rfl rfl ?_
        refine g_iload_n X dX9_motor_41 42 rfl rfl ?_
        refine g_put (c := 0) (k := 0) (T := TX9) (sk := skM0) X wf_X9_7 inX9 tyX9_ok nmX9 dX9_motor_42 45 rfl (by decide) rfl rfl (by decide) rfl rfl rfl ?_
        refine g_aload_n X dX9_motor_45 46 rfl rfl ?_
        refine g_iload_n X dX9_motor_46 47 rfl rfl ?_
        refine g_put (c := 0) (k := 1) (T := TX9) (sk := skM0) X wf_X9_13 inX9 tyX9_ok nmX9 dX9_motor_47 50 rfl (by decide) rfl rfl (by decide) rfl rfl rfl ?_
        refine g_aload_n X dX9_motor_50 51 rfl rfl ?_
        refine g_iload_n X dX9_motor_51 52 rfl rfl ?_
        refine g_put (c := 0) (k := 2) (T := TX9) (sk := skM0) X wf_X9_16 inX9 tyX9_ok nmX9 dX9_motor_52 55 rfl (by decide) rfl rfl (by decide) rfl rfl rfl ?_
        refine g_aload_n X dX9_motor_55 56 rfl rfl ?_
        refine g_callVix (st := []) (v := ((mup (mup (mup h 0 0 (nI (a))) 0 1 (x1)) 0 2 (x2)) 0 3)) (m2 := (clM (mup (mup (mup h 0 0 (nI (a))) 0 1 (x1)) 0 2 (x2)))) X cw_X9_106 (c_M_clear (mup (mup (mup h 0 0 (nI (a))) 0 1 (x1)) 0 2 (x2))) dX9_motor_56 59 rfl (by decide) rfl rfl rfl rfl rfl (by decide) (Nat.le_of_ble_eq_true rfl) ?_
        refine g_istore X (lv' := [(0, .ref (kad K (0))), (1, .int (nI (a))), (2, .int (x1)), (3, .int (x2)), (4, .int ((mup (mup (mup h 0 0 (nI (a))) 0 1 (x1)) 0 2 (x2)) 0 3))]) dX9_motor_59 61 rfl (by decide) rfl rfl ?_
        refine g_aload_n X dX9_motor_61 62 rfl rfl ?_
        refine g_callVv (st := []) X cw_X9_93 (c_M_findCyclotomic (clM (mup (mup (mup h 0 0 (nI (a))) 0 1 (x1)) 0 2 (x2))) a rfl ha1 ha2) dX9_motor_62 65 rfl (by decide) rfl rfl rfl rfl rfl (by decide) (Nat.le_of_ble_eq_true rfl) ?_
        rintro h9 ⟨e7, e10, hE9⟩
        refine g_iconst X dX9_motor_65 66 rfl (v := (nI (1))) rfl ?_
        refine g_iret (h := h9) (v := (nI (1))) X Z dX9_motor_66 ?_
        exact ⟨fun _ => ⟨rfl, by rw [ea]; exact e7, by rw [ea]; exact e10, hE9⟩, fun z => absurd ⟨f11, f23, t35⟩ z⟩
      · skip
        refine g_iconst X dX9_motor_38 39 rfl (v := (zI (-1))) rfl ?_
        refine g_iret (h := h) (v := (zI (-1))) X Z dX9_motor_39 ?_
        exact ⟨fun z => absurd z.2.2 f35, fun _ => ⟨rfl, rfl⟩⟩
def sumF (f : Nat → Nat) : Nat → Nat
  | 0 => 0
  | k + 1 => sumF f k + f k
theorem sumF_add (f g : Nat → Nat) : ∀ k, sumF (fun j => f j + g j) k = sumF f k + sumF g k
  | 0 => rfl
  | k + 1 => by show sumF (fun j => f j + g j) k + (f k + g k) = sumF f k + f k + (sumF g k + g k); rw [sumF_add f g k]; omega
theorem sumF_le {f : Nat → Nat} {b : Nat} : ∀ k, (∀ j, j < k → f j ≤ b) → sumF f k ≤ b * k
  | 0, _ => Nat.le_refl _
  | k + 1, h => by
    have h1 := sumF_le k (fun j hj => h j (by omega))
    have h2 := h k (by omega)
    show sumF f k + f k ≤ b * (k + 1)
    rw [Nat.mul_succ]; omega
theorem sumF_one {a : Nat} : ∀ k, sumF (fun j => if a = j then 1 else 0) k = if a < k then 1 else 0
  | 0 => rfl
  | k + 1 => by
    show sumF (fun j => if a = j then 1 else 0) k + (if a = k then 1 else 0) = _
    rw [sumF_one k]
    by_cases h : a < k
    · rw [if_pos h, if_neg (by omega), if_pos (by omega)]
    · rw [if_neg h]
      by_cases e : a = k
      · rw [if_pos e, if_pos (by omega)]
      · rw [if_neg e, if_neg (by omega)]
theorem sumF_zero : ∀ k, sumF (fun _ => 0) k = 0
  | 0 => rfl
  | k + 1 => by show sumF (fun _ => 0) k + 0 = 0; rw [sumF_zero k]
theorem cnt_sum {ci co : Nat → Int32} : ∀ n, (∀ k, k < n → tn (ci k) < 24 ∧ tn (co k) < 24) → sumF (cntS ci co n) 24 = 2 * n
  | 0, _ => sumF_zero 24
  | n + 1, h => by
    have e : sumF (cntS ci co (n + 1)) 24 = sumF (fun j => (cntS ci co n j + (if tn (ci n) = j then 1 else 0)) + (if tn (co n) = j then 1 else 0)) 24 := rfl
    have hh := h n (by omega)
    rw [e, sumF_add, sumF_add, sumF_one, sumF_one, if_pos hh.1, if_pos hh.2]
    have := cnt_sum n (fun k hk => h k (by omega))
    have e2 : sumF (fun j => cntS ci co n j) 24 = sumF (cntS ci co n) 24 := rfl
    omega
theorem room_left {ci co : Nat → Int32} {n a b : Nat} (h : ∀ k, k < n → tn (ci k) < 24 ∧ tn (co k) < 24) (h2 : ∀ j, j < 24 → cntS ci co n j ≤ 2) (ha : a < 24) (hb : b < 24) (hab : a ≠ b) (fa : cntS ci co n a ≤ 1) (fb : cntS ci co n b ≤ 1) : n < 24 := by
  have s := cnt_sum n h
  have t : sumF (fun j => (cntS ci co n j + (if a = j then 1 else 0)) + (if b = j then 1 else 0)) 24 ≤ 2 * 24 := by
    refine sumF_le 24 (fun j hj => ?_)
    have := h2 j hj
    by_cases e1 : a = j
    · rw [if_pos e1, if_neg (by omega)]; rw [e1] at fa; omega
    · rw [if_neg e1]
      by_cases e2 : b = j
      · rw [if_pos e2]; rw [e2] at fb; omega
      · rw [if_neg e2]; omega
  rw [sumF_add, sumF_add, sumF_one, sumF_one, if_pos ha, if_pos hb] at t
  have e2 : sumF (fun j => cntS ci co n j) 24 = sumF (cntS ci co n) 24 := rfl
  omega
def CM (h : Mem) (n : Nat) : Prop := (∀ j, j < 24 → h 6 j = nI (cntS (h 2) (h 3) n j)) ∧ ∀ j, j < 24 → cntS (h 2) (h 3) n j ≤ 2
theorem ad_inv2 {h : Mem} {q p m n d : Nat} {x0 x1 x2 x3 : Int32} (C : MC h q p m n d) (V : CM h n) (ok : okc q m x0 x1 x2 x3) (nf : ¬ fullS (h 6) x1 x2) : n < 24 ∧ MC (adX h n x0 x1 x2 x3) q p m (n + 1) d ∧ CM (adX h n x0 x1 x2 x3) (n + 1) := by
  have C' := C
  obtain ⟨hq, hp, hm, hq1, hq2, hp1, hp2, hm1, hm2, hn, hn2, hc, hd, hd1, hd2⟩ := C
  have hk := okc_coil hq2 hm2 ok
  have ha := hk.ci.2
  have hb := hk.co.2
  have hne := hk.ne
  have fa : cntS (h 2) (h 3) n (tn x1) ≤ 1 := by
    have h1 := V.1 (tn x1) (by omega)
    have h2 := V.2 (tn x1) (by omega)
    rcases Nat.lt_or_ge (cntS (h 2) (h 3) n (tn x1)) 2 with z | z
    · omega
    · exact absurd (Or.inl (by rw [h1, nI_toInt (by omega)]; omega)) nf
  have fb : cntS (h 2) (h 3) n (tn x2) ≤ 1 := by
    have h1 := V.1 (tn x2) (by omega)
    have h2 := V.2 (tn x2) (by omega)
    rcases Nat.lt_or_ge (cntS (h 2) (h 3) n (tn x2)) 2 with z | z
    · omega
    · exact absurd (Or.inr (by rw [h1, nI_toInt (by omega)]; omega)) nf
  have hn24 : n < 24 := room_left (fun k hk => ⟨by have := (hc k hk).ci.2; omega, by have := (hc k hk).co.2; omega⟩) V.2 (by omega) (by omega) hne fa fb
  have e2 : adX h n x0 x1 x2 x3 2 = upd (h 2) n x1 := rfl
  have e3 : adX h n x0 x1 x2 x3 3 = upd (h 3) n x2 := rfl
  have ecnt : ∀ j, cntS (adX h n x0 x1 x2 x3 2) (adX h n x0 x1 x2 x3 3) (n + 1) j = cntS (h 2) (h 3) n j + (if tn x1 = j then 1 else 0) + (if tn x2 = j then 1 else 0) := by
    intro j
    rw [cntS_s, e2, e3, upd_s, upd_s, cntS_congr n j (fun k hk => ⟨upd_n (h 2) x1 (by omega), upd_n (h 3) x2 (by omega)⟩)]
  refine ⟨hn24, adX_inv C' hk hn24, fun j hj => ?_, fun j hj => ?_⟩
  · rw [ecnt j]
    show sd2 (h 6) (tn x1) (tn x2) j = _
    unfold sd2
    by_cases e2 : j = tn x2
    · subst e2
      rw [upd_s, upd_n _ _ (Ne.symm hne), V.1 _ hj, if_neg hne, if_pos rfl]
      exact nI_add _ _
    · have z2 : ¬ tn x2 = j := fun z => e2 z.symm
      rw [upd_n _ _ e2, if_neg z2]
      by_cases e1 : j = tn x1
      · subst e1
        rw [upd_s, V.1 _ hj, if_pos rfl]
        exact nI_add _ _
      · have z1 : ¬ tn x1 = j := fun z => e1 z.symm
        rw [upd_n _ _ e1, V.1 _ hj, if_neg z1]
        rfl
  · rw [ecnt j]
    have h2 := V.2 j hj
    by_cases e1 : tn x1 = j
    · rw [if_pos e1, if_neg (by omega)]
      rw [e1] at fa
      omega
    · by_cases e2 : tn x2 = j
      · rw [if_neg e1, if_pos e2]
        rw [e2] at fb
        omega
      · rw [if_neg e1, if_neg e2]
        omega
def wbF (h : Mem) (a : Nat) : Nat → Nat → Int32
  | 0 => fun j => if j < 24 then h 6 j else h 24 j
  | t + 1 => sd2 (wbF h a t) (tn (h 23 (a + 4 * t + 1))) (tn (h 23 (a + 4 * t + 2)))
def laN (h : Mem) (n0 a : Nat) : Nat → Mem
  | 0 => h
  | t + 1 => adX (laN h n0 a t) (n0 + t) (h 23 (a + 4 * t)) (h 23 (a + 4 * t + 1)) (h 23 (a + 4 * t + 2)) (h 23 (a + 4 * t + 3))
theorem laN_s (h : Mem) (n0 a t : Nat) : laN h n0 a (t + 1) = adX (laN h n0 a t) (n0 + t) (h 23 (a + 4 * t)) (h 23 (a + 4 * t + 1)) (h 23 (a + 4 * t + 2)) (h 23 (a + 4 * t + 3)) := rfl
theorem laN_23 (h : Mem) (n0 a : Nat) : ∀ t, laN h n0 a t 23 = h 23
  | 0 => rfl
  | t + 1 => (show laN h n0 a (t + 1) 23 = laN h n0 a t 23 from rfl).trans (laN_23 h n0 a t)
theorem laN_wb (h : Mem) (n0 a : Nat) (hq : ∀ t, tn (h 23 (a + 4 * t + 1)) < 24 ∨ True) : ∀ t, (∀ s, s < t → tn (h 23 (a + 4 * s + 1)) < 24 ∧ tn (h 23 (a + 4 * s + 2)) < 24) → ∀ j, j < 24 → laN h n0 a t 6 j = wbF h a t j
  | 0, _ => fun j hj => (if_pos hj).symm
  | t + 1, g => by
    have ih := laN_wb h n0 a hq t (fun s hs => g s (by omega))
    have g1 := g t (by omega)
    intro j hj
    show sd2 (laN h n0 a t 6) (tn (h 23 (a + 4 * t + 1))) (tn (h 23 (a + 4 * t + 2))) j = sd2 (wbF h a t) (tn (h 23 (a + 4 * t + 1))) (tn (h 23 (a + 4 * t + 2))) j
    unfold sd2
    simp only [upd, ih j hj, ih _ g1.1, ih _ g1.2]
def gM (h : Mem) (q m a t : Nat) : Prop := okc q m (h 23 (a + 4 * t)) (h 23 (a + 4 * t + 1)) (h 23 (a + 4 * t + 2)) (h 23 (a + 4 * t + 3)) ∧ ¬ fullS (wbF h a t) (h 23 (a + 4 * t + 1)) (h 23 (a + 4 * t + 2))
theorem gM_i {h : Mem} {q m a t : Nat} (g : gM h q m a t) : h 23 (a + 4 * t + 1) = nI (tn (h 23 (a + 4 * t + 1))) ∧ h 23 (a + 4 * t + 2) = nI (tn (h 23 (a + 4 * t + 2))) ∧ tn (h 23 (a + 4 * t + 1)) < q ∧ tn (h 23 (a + 4 * t + 2)) < q := by
  obtain ⟨⟨-, h1, h2, -, -⟩, -⟩ := g
  exact ⟨nI_tn h1.1, nI_tn h2.1, by unfold tn; omega, by unfold tn; omega⟩
theorem la_all {h : Mem} {q p m n d a : Nat} (C : MC h q p m n d) (V : CM h n) : ∀ t, (∀ s, s < t → gM h q m a s) → MC (laN h n a t) q p m (n + t) d ∧ CM (laN h n a t) (n + t) ∧ ∀ j, j < 24 → laN h n a t 6 j = wbF h a t j
  | 0, _ => ⟨C, V, fun j hj => (if_pos hj).symm⟩
  | t + 1, g => by
    obtain ⟨C1, V1, W1⟩ := la_all C V t (fun s hs => g s (by omega))
    have gt := g t (by omega)
    have hi := gM_i gt
    have hq2 : q ≤ 24 := C.2.2.2.2.1
    have nf : ¬ fullS (laN h n a t 6) (h 23 (a + 4 * t + 1)) (h 23 (a + 4 * t + 2)) := by
      unfold fullS
      rw [W1 _ (by omega), W1 _ (by omega)]
      exact gt.2
    obtain ⟨-, C2, V2⟩ := ad_inv2 C1 V1 gt.1 nf
    exact ⟨C2, V2, laN_wb h n a (fun _ => Or.inr trivial) (t + 1) (fun s hs => by have y := gM_i (g s hs); omega)⟩
theorem la_room {h : Mem} {q p m n d a : Nat} (C : MC h q p m n d) (V : CM h n) (t : Nat) (g : ∀ s, s < t → gM h q m a s) : n + t ≤ 24 := (la_all C V t g).1.2.2.2.2.2.2.2.2.2.2.1
theorem wb_le {h : Mem} {q p m n d a t : Nat} (C : MC h q p m n d) (V : CM h n) (g : ∀ s, s < t → gM h q m a s) : ∀ j, j < 24 → (wbF h a t j).toInt ≤ 2 := by
  obtain ⟨-, V1, W1⟩ := la_all C V t g
  intro j hj
  have h2 := V1.2 j hj
  rw [← W1 j hj, V1.1 j hj, nI_toInt (by omega)]
  omega
theorem mrow_mrow (h : Mem) {c d : Nat} (n : c ≠ d) (f g : Nat → Int32) : mrow (mrow h d f) c g = mrow (mrow h c g) d f := by
  funext x
  by_cases e : x = c
  · subst e; rw [mrow_s, mrow_n _ _ n, mrow_s]
  · rw [mrow_n _ _ e]
    by_cases e2 : x = d
    · subst e2; rw [mrow_s, mrow_s]
    · rw [mrow_n _ _ e2, mrow_n _ _ e2, mrow_n _ _ e]
theorem adX_row (g : Mem) (W : Nat → Int32) (n : Nat) (x0 x1 x2 x3 : Int32) : adX (mrow g 24 W) n x0 x1 x2 x3 = mrow (adX g n x0 x1 x2 x3) 24 W := by
  unfold adX
  rw [mup_mrow (d := 24) _ (by decide), mup_mrow (d := 24) _ (by decide), mup_mrow (d := 24) _ (by decide), mup_mrow (d := 24) _ (by decide), mup_mrow (d := 24) _ (by decide), mrow_mrow (d := 24) _ (by decide), mup_mrow (d := 24) _ (by decide)]
  rfl
def lbPost (h : Mem) (q m n a cnt : Nat) (r : Int32) (h2 : Mem) : Prop := ((∀ k, k < cnt → gM h q m a k) ∧ r = nI (n + cnt) ∧ ∃ F, h2 = mrow (laN h n a cnt) 24 F) ∨ ∃ k, k < cnt ∧ (∀ j, j < k → gM h q m a j) ∧ ¬ gM h q m a k ∧ r = zI (-2) ∧ ∃ F, h2 = mrow h 24 F
def cuP (h : Mem) (q m n : Nat) (x0 x1 x2 x3 : Int32) (r : Int32) (h2 : Mem) : Prop := if (okSh x0 x1 ∧ (0 ≤ x3.toInt ∧ x3.toInt ≤ 24)) then (if (iuR h x0 x1 x2 (4 * tn x3)).toInt = 0 then lbPost h q m n (96 * tn x0 + tn x2) (tn x3) r h2 else r = iuR h x0 x1 x2 (4 * tn x3) ∧ h2 = h) else r = zI (-1) ∧ h2 = h
set_option maxHeartbeats 1000000 in
set_option maxRecDepth 100000 in
theorem c_M_coils (h : Mem) (q p m n d : Nat) (II : MI h q p m n d) (x0 x1 x2 x3 : Int32) : cI 25 ML yX9_coils cX9_coils 8 (some .int) 3 75 (fun ad => [.ref (ad (0)), .int (x0), .int (x1), .int (x2), .int (x3)]) h (fun r h2 => cuP h q m n x0 x1 x2 x3 r h2) := by
  refine cI_of MLW (by decide +kernel) (fun ad => Nat.le_of_ble_eq_true rfl) ?_
  intro K X Z
  obtain ⟨C, hsA, hsB, hpol, hdq, ⟨tz, htz, hto⟩, ⟨pz, hpz, hpk⟩, hshe⟩ := id II
  obtain ⟨hq, hp, hm, hq1, hq2, hp1, hp2, hm1, hm2, hn, hn2, hc, hd, hd1, hd2⟩ := id C
  show G 25 ML 8 K h 0 [(0, .ref (kad K (0))), (1, .int (x0)), (2, .int (x1)), (3, .int (x2)), (4, .int (x3))] []
  refine g_iload_n X dX9_coils_0 1 rfl rfl ?_
  refine g_iload_n X dX9_coils_1 2 rfl rfl ?_
  refine g_callSix (st := []) (v := (bI (okSh (x0) (x1)))) (m2 := h) X cw_X9_209 (c_M_isSheet h (x0) (x1)) dX9_coils_2 5 rfl rfl rfl rfl (by decide) (Nat.le_of_ble_eq_true rfl) ?_
  refine g_ifeq_B X dX9_coils_5 21 (by decide) 8 rfl (fun t5 => ?_) (fun f5 => ?_)
  · skip
    refine g_iconst X dX9_coils_21 22 rfl (v := (zI (-1))) rfl ?_
    refine g_iret (h := h) (v := (zI (-1))) X Z dX9_coils_22 ?_
    exact (if_neg (fun z => t5 z.1)).mpr ⟨rfl, rfl⟩
  · skip
    refine g_iload X dX9_coils_8 10 rfl rfl ?_
    refine g_i2l X (v := (x3).toInt64) dX9_coils_10 11 rfl rfl ?_
    refine g_lconst X dX9_coils_11 12 rfl (v := (0 : Int64)) rfl ?_
    refine g_ldc2 X (v := (24)) dX9_coils_12 15 rfl wk_X9_98 ?_
    refine g_callSix (st := []) (v := (bI (0 ≤ (x3).toInt ∧ (x3).toInt ≤ 24))) (m2 := h) X cw_X9_100 (c_M_in h ((x3).toInt64) (0 : Int64) (24 : Int64) ((x3).toInt) 0 24 (i64_of rfl) rfl rfl) dX9_coils_15 18 rfl rfl rfl rfl (by decide) (Nat.le_of_ble_eq_true rfl) ?_
    refine g_ifne_B X dX9_coils_18 23 (by decide) 21 rfl (fun t18 => ?_) (fun f18 => ?_)
    · skip
      obtain ⟨s, hs0_, hs_, rfl⟩ := inR_3 (a := 0) (b := 3) f5.1
      have es : tn (nI s) = s := tn_nI (by omega)
      obtain ⟨⟨hl1, hl2⟩, zz, hzz, hze⟩ := hshe s (by omega)
      have ez : tn (h 22 s) = zz := by rw [hze]; exact tn_nI (by omega)
      obtain ⟨cnt, hc0_, hcn, rfl⟩ := inR_3 (a := 0) (b := 24) t18
      have ec : tn (nI cnt) = cnt := tn_nI (by omega)
      refine g_aload_n X dX9_coils_23 24 rfl rfl ?_
      refine g_get (c := 0) (k := 28) (T := TX9) (sk := skM0) (v := .ref (kad K (21))) X wf_X9_81 inX9 dX9_coils_24 27 rfl (by decide) rfl rfl (by decide) rfl ?_
      refine g_iload_n X dX9_coils_27 28 rfl rfl ?_
      refine g_iald (c := 21) (n := 4) (r := 21) (o := 0) (i := s) (v := (h 21 s)) X dX9_coils_28 29 rfl (by decide) rfl rfl (by omega) rfl ?_
      refine g_iload_n X dX9_coils_29 30 rfl rfl ?_
      refine g_icmp_eq X ((h 21 s).toInt) ((x1).toInt) dX9_coils_30 50 (by decide) 33 rfl rfl rfl (fun t30 => ?_) (fun f30 => ?_)
      · skip
        refine g_iload_n X dX9_coils_50 51 rfl rfl ?_
        refine g_i2l X (v := (x2).toInt64) dX9_coils_51 52 rfl rfl ?_
        refine g_lconst X dX9_coils_52 53 rfl (v := (0 : Int64)) rfl ?_
        refine g_aload_n X dX9_coils_53 54 rfl rfl ?_
        refine g_get (c := 0) (k := 29) (T := TX9) (sk := skM0) (v := .ref (kad K (22))) X wf_X9_84 inX9 dX9_coils_54 57 rfl (by decide) rfl rfl (by decide) rfl ?_
        refine g_iload_n X dX9_coils_57 58 rfl rfl ?_
        refine g_iald (c := 22) (n := 4) (r := 22) (o := 0) (i := s) (v := (nI (zz))) X dX9_coils_58 59 rfl (by decide) rfl rfl (by omega) hze ?_
        refine g_iconst X dX9_coils_59 60 rfl (v := (nI (4))) rfl ?_
        refine g_iload X dX9_coils_60 62 rfl rfl ?_
        refine g_imul X (v := (nI (4 * cnt))) dX9_coils_62 63 rfl (pk_mul 4 cnt) ?_
        refine g_isub X (v := (zI (((zz : Nat) : Int) - ((4 * cnt : Nat) : Int)))) dX9_coils_63 64 rfl (nn_sub zz (4 * cnt)) ?_
        refine g_i2l X (v := (zI (((zz : Nat) : Int) - ((4 * cnt : Nat) : Int))).toInt64) dX9_coils_64 65 rfl rfl ?_
        refine g_callSix (st := []) (v := (bI (0 ≤ (x2).toInt ∧ (x2).toInt ≤ ((zz : Nat) : Int) - ((4 * cnt : Nat) : Int)))) (m2 := h) X cw_X9_100 (c_M_in h ((x2).toInt64) (0 : Int64) ((zI (((zz : Nat) : Int) - ((4 * cnt : Nat) : Int))).toInt64) ((x2).toInt) 0 (((zz : Nat) : Int) - ((4 * cnt : Nat) : Int)) (i64_of rfl) rfl (i64_of (zI_toInt (by omega)))) dX9_coils_65 68 rfl rfl rfl rfl (by decide) (Nat.le_of_ble_eq_true rfl) ?_
        refine g_ifne_B X dX9_coils_68 74 (by decide) 71 rfl (fun t68 => ?_) (fun f68 => ?_)
        · skip
          obtain ⟨i, hi0, hi1, rfl⟩ := inR_3 (x := x2) (a := 0) (b := 96 - 4 * cnt) ⟨t68.1, by omega⟩
          have ek : tn (nI i) = i := tn_nI (by omega)
          have hi9 : i + 4 * cnt ≤ 96 := by have := t68.2; rw [nI_toInt (by omega)] at this; omega
          have e7 : iuR h (nI s) x1 (nI i) (4 * cnt) = nI 0 := by
            rw [iuR, es, ez]
            exact (if_neg (by omega)).trans ((if_neg (by omega)).trans (if_pos ⟨t68.1, by have := t68.2; omega⟩))
          refine g_iconst X dX9_coils_74 75 rfl (v := (nI (0))) rfl ?_
          refine g_istore X (lv' := [(0, .ref (kad K (0))), (1, .int (nI (s))), (2, .int (x1)), (3, .int (nI (i))), (4, .int (nI (cnt))), (5, .int (nI 0))]) dX9_coils_75 77 rfl (by decide) rfl rfl ?_
          have lp77 : ∀ (fu : Nat) (z : Nat) (hz : z ≤ 24), 24 - z < fu → G 25 ML 8 K (mrow h 24 (cpR (h 6) (h 24) z)) 77 [(0, .ref (kad K (0))), (1, .int (nI (s))), (2, .int (x1)), (3, .int (nI (i))), (4, .int (nI (cnt))), (5, .int (nI (z)))] [] := by
            intro fu
            induction fu with
            | zero => intro z hz hm; exact absurd hm (Nat.not_lt_zero _)
            | succ fu ih77 =>
              intro z hz hm77
              refine g_iload X dX9_coils_77 79 rfl rfl ?_
              refine g_bipush X dX9_coils_79 81 rfl (v := (nI (24))) rfl ?_
              refine g_icmp_ge X ((z : Nat) : Int) 24 dX9_coils_81 104 (by decide) 84 rfl (nI_toInt (by omega)) rfl (fun t81 => ?_) (fun f81 => ?_)
              · skip
                refine g_bipush X dX9_coils_104 106 rfl (v := (nI (96))) rfl ?_
                refine g_iload_n X dX9_coils_106 107 rfl rfl ?_
                refine g_imul X (v := (nI (96 * s))) dX9_coils_107 108 rfl (pk_mul 96 s) ?_
                refine g_iload_n X dX9_coils_108 109 rfl rfl ?_
                refine g_iadd X (v := (nI (96 * s + i))) dX9_coils_109 110 rfl (nI_add (96 * s) i) ?_
                refine g_istore X (lv' := [(0, .ref (kad K (0))), (1, .int (nI (s))), (2, .int (x1)), (3, .int (nI (i))), (4, .int (nI (cnt))), (5, .int (nI (96 * s + i)))]) dX9_coils_110 112 rfl (by decide) rfl rfl ?_
                refine g_iload X dX9_coils_112 114 rfl rfl ?_
                refine g_istore X (lv' := [(0, .ref (kad K (0))), (1, .int (nI (s))), (2, .int (x1)), (3, .int (nI (i))), (4, .int (nI (cnt))), (5, .int (nI (96 * s + i))), (6, .int (nI (96 * s + i)))]) dX9_coils_114 116 rfl (by decide) rfl rfl ?_
                have lp116 : ∀ (fu : Nat) (t : Nat) (ht : t ≤ cnt) (hg : ∀ b, b < t → gM h q m (96 * s + i) b), cnt - t < fu → G 25 ML 8 K (mrow h 24 (wbF h (96 * s + i) t)) 116 [(0, .ref (kad K (0))), (1, .int (nI (s))), (2, .int (x1)), (3, .int (nI (i))), (4, .int (nI (cnt))), (5, .int (nI (96 * s + i))), (6, .int (nI (96 * s + i + 4 * t)))] [] := by
                  intro fu
                  induction fu with
                  | zero => intro t ht hg hm; exact absurd hm (Nat.not_lt_zero _)
                  | succ fu ih116 =>
                    intro t ht hg hm116
                    have hwb := wb_le C ⟨hsA, hsB⟩ hg
                    refine g_iload X dX9_coils_116 118 rfl rfl ?_
                    refine g_iload X dX9_coils_118 120 rfl rfl ?_
                    refine g_iconst X dX9_coils_120 121 rfl (v := (nI (4))) rfl ?_
                    refine g_iload X dX9_coils_121 123 rfl rfl ?_
                    refine g_imul X (v := (nI (4 * cnt))) dX9_coils_123 124 rfl (pk_mul 4 cnt) ?_
                    refine g_iadd X (v := (nI (96 * s + i + (4 * cnt)))) dX9_coils_124 125 rfl (nI_add (96 * s + i) (4 * cnt)) ?_
                    refine g_icmp_ge X ((96 * s + i + 4 * t : Nat) : Int) ((96 * s + i + (4 * cnt) : Nat) : Int) dX9_coils_125 254 (by decide) 128 rfl (nI_toInt (by omega)) (nI_toInt (by omega)) (fun t125 => ?_) (fun f125 => ?_)
                    · skip
                      have hcc : t = cnt := by omega
                      have hrm := la_room C ⟨hsA, hsB⟩ t hg
                      obtain ⟨t9, ht9⟩ : ∃ t9, t9 = t := ⟨_, rfl⟩
                      rw [← ht9]
                      have hg9 : ∀ b, b < cnt → gM h q m (96 * s + i) b := fun b hb => hg b (by omega)
                      refine g_aload_n X dX9_coils_254 255 rfl rfl ?_
                      refine g_get (c := 0) (k := 3) (T := TX9) (sk := skM0) (v := .int (nI (n))) X wf_X9_116 inX9 dX9_coils_255 258 rfl (by decide) rfl rfl (by decide) (congrArg Value.int (hn)) ?_
                      refine g_iload X dX9_coils_258 260 rfl rfl ?_
                      refine g_iadd X (v := (nI (n + cnt))) dX9_coils_260 261 rfl (nI_add n cnt) ?_
                      refine g_bipush X dX9_coils_261 263 rfl (v := (nI (24))) rfl ?_
                      refine g_icmp_le X ((n + cnt : Nat) : Int) 24 dX9_coils_263 269 (by decide) 266 rfl (nI_toInt (by omega)) rfl (fun t263 => ?_) (fun f263 => ?_)
                      · skip
                        refine g_iload X dX9_coils_269 271 rfl rfl ?_
                        refine g_istore X (lv' := [(0, .ref (kad K (0))), (1, .int (nI (s))), (2, .int (x1)), (3, .int (nI (i))), (4, .int (nI (cnt))), (5, .int (nI (96 * s + i))), (6, .int (nI (96 * s + i)))]) dX9_coils_271 273 rfl (by decide) rfl rfl ?_
                        have lp273 : ∀ (fu : Nat) (t : Nat) (ht : t ≤ cnt), cnt - t < fu → G 25 ML 8 K (mrow (laN h n (96 * s + i) t) 24 (wbF h (96 * s + i) t9)) 273 [(0, .ref (kad K (0))), (1, .int (nI (s))), (2, .int (x1)), (3, .int (nI (i))), (4, .int (nI (cnt))), (5, .int (nI (96 * s + i))), (6, .int (nI (96 * s + i + 4 * t)))] [] := by
                          intro fu
                          induction fu with
                          | zero => intro t ht hm; exact absurd hm (Nat.not_lt_zero _)
                          | succ fu ih273 =>
                            intro t ht hm273
                            have hla := la_all C ⟨hsA, hsB⟩ t (fun b hb => hg9 b (by omega))
                            refine g_iload X dX9_coils_273 275 rfl rfl ?_
                            refine g_iload X dX9_coils_275 277 rfl rfl ?_
                            refine g_iconst X dX9_coils_277 278 rfl (v := (nI (4))) rfl ?_
                            refine g_iload X dX9_coils_278 280 rfl rfl ?_
                            refine g_imul X (v := (nI (4 * cnt))) dX9_coils_280 281 rfl (pk_mul 4 cnt) ?_
                            refine g_iadd X (v := (nI (96 * s + i + (4 * cnt)))) dX9_coils_281 282 rfl (nI_add (96 * s + i) (4 * cnt)) ?_
                            refine g_icmp_ge X ((96 * s + i + 4 * t : Nat) : Int) ((96 * s + i + (4 * cnt) : Nat) : Int) dX9_coils_282 331 (by decide) 285 rfl (nI_toInt (by omega)) (nI_toInt (by omega)) (fun t282 => ?_) (fun f282 => ?_)
                            · skip
                              refine g_aload_n X dX9_coils_331 332 rfl rfl ?_
                              refine g_get (c := 0) (k := 3) (T := TX9) (sk := skM0) (v := .int (nI (n + t))) X wf_X9_116 inX9 dX9_coils_332 335 rfl (by decide) rfl rfl (by decide) (congrArg Value.int (hla.1.2.2.2.2.2.2.2.2.2.1)) ?_
                              refine g_iret (h := (mrow (laN h n (96 * s + i) t) 24 (wbF h (96 * s + i) t9))) (v := (nI (n + t))) X Z dX9_coils_335 ?_
                              unfold cuP
                              rw [if_pos ⟨f5, t18⟩, ec, if_pos (by rw [e7]; rfl), es, ek]
                              exact Or.inl ⟨hg9, by rw [show t = cnt from by omega], _, by rw [show t = cnt from by omega]⟩
                            · skip
                              have hgk := hg9 t (by omega)
                              obtain ⟨hka, hkb, hia, hib⟩ := gM_i hgk
                              refine g_aload_n X dX9_coils_285 286 rfl rfl ?_
                              refine g_aload_n X dX9_coils_286 287 rfl rfl ?_
                              refine g_get (c := 0) (k := 30) (T := TX9) (sk := skM0) (v := .ref (kad K (23))) X wf_X9_87 inX9 dX9_coils_287 290 rfl (by decide) rfl rfl (by decide) rfl ?_
                              refine g_iload X dX9_coils_290 292 rfl rfl ?_
                              refine g_iald (c := 23) (n := 384) (r := 23) (o := 0) (i := 96 * s + i + 4 * t) (v := (h 23 (96 * s + i + 4 * t))) X dX9_coils_292 293 rfl (by decide) rfl rfl (by omega) (congrFun (laN_23 _ _ _ t) _) ?_
                              refine g_aload_n X dX9_coils_293 294 rfl rfl ?_
                              refine g_get (c := 0) (k := 30) (T := TX9) (sk := skM0) (v := .ref (kad K (23))) X wf_X9_87 inX9 dX9_coils_294 297 rfl (by decide) rfl rfl (by decide) rfl ?_
                              refine g_iload X dX9_coils_297 299 rfl rfl ?_
                              refine g_iconst X dX9_coils_299 300 rfl (v := (nI (1))) rfl ?_
                              refine g_iadd X (v := (nI (96 * s + i + 4 * t + 1))) dX9_coils_300 301 rfl (nI_add (96 * s + i + 4 * t) 1) ?_
                              refine g_iald (c := 23) (n := 384) (r := 23) (o := 0) (i := 96 * s + i + 4 * t + 1) (v := (nI (tn (h 23 (96 * s + i + 4 * t + 1))))) X dX9_coils_301 302 rfl (by decide) rfl rfl (by omega) ((congrFun (laN_23 _ _ _ t) _).trans hka) ?_
                              refine g_aload_n X dX9_coils_302 303 rfl rfl ?_
                              refine g_get (c := 0) (k := 30) (T := TX9) (sk := skM0) (v := .ref (kad K (23))) X wf_X9_87 inX9 dX9_coils_303 306 rfl (by decide) rfl rfl (by decide) rfl ?_
                              refine g_iload X dX9_coils_306 308 rfl rfl ?_
                              refine g_iconst X dX9_coils_308 309 rfl (v := (nI (2))) rfl ?_
                              refine g_iadd X (v := (nI (96 * s + i + 4 * t + 2))) dX9_coils_309 310 rfl (nI_add (96 * s + i + 4 * t) 2) ?_
                              refine g_iald (c := 23) (n := 384) (r := 23) (o := 0) (i := 96 * s + i + 4 * t + 2) (v := (nI (tn (h 23 (96 * s + i + 4 * t + 2))))) X dX9_coils_310 311 rfl (by decide) rfl rfl (by omega) ((congrFun (laN_23 _ _ _ t) _).trans hkb) ?_
                              refine g_aload_n X dX9_coils_311 312 rfl rfl ?_
                              refine g_get (c := 0) (k := 30) (T := TX9) (sk := skM0) (v := .ref (kad K (23))) X wf_X9_87 inX9 dX9_coils_312 315 rfl (by decide) rfl rfl (by decide) rfl ?_
                              refine g_iload X dX9_coils_315 317 rfl rfl ?_
                              refine g_iconst X dX9_coils_317 318 rfl (v := (nI (3))) rfl ?_
                              refine g_iadd X (v := (nI (96 * s + i + 4 * t + 3))) dX9_coils_318 319 rfl (nI_add (96 * s + i + 4 * t) 3) ?_
                              refine g_iald (c := 23) (n := 384) (r := 23) (o := 0) (i := 96 * s + i + 4 * t + 3) (v := (h 23 (96 * s + i + 4 * t + 3))) X dX9_coils_319 320 rfl (by decide) rfl rfl (by omega) (congrFun (laN_23 _ _ _ t) _) ?_
                              refine g_callVix (st := []) (v := (nI (n + t))) (m2 := (adX (mrow (laN h n (96 * s + i) t) 24 (wbF h (96 * s + i) t9)) (n + t) (h 23 (96 * s + i + 4 * t)) (nI (tn (h 23 (96 * s + i + 4 * t + 1)))) (nI (tn (h 23 (96 * s + i + 4 * t + 2)))) (h 23 (96 * s + i + 4 * t + 3)))) X cw_X9_123 (c_M_add (mrow (laN h n (96 * s + i) t) 24 (wbF h (96 * s + i) t9)) (n + t) (tn (h 23 (96 * s + i + 4 * t + 1))) (tn (h 23 (96 * s + i + 4 * t + 2))) (h 23 (96 * s + i + 4 * t)) (h 23 (96 * s + i + 4 * t + 3)) hla.1.2.2.2.2.2.2.2.2.2.1 (by omega) (by omega) (by omega)) dX9_coils_320 323 rfl (by decide) rfl rfl rfl rfl rfl (by decide) (Nat.le_of_ble_eq_true rfl) ?_
                              refine g_istore X (lv' := [(0, .ref (kad K (0))), (1, .int (nI (s))), (2, .int (x1)), (3, .int (nI (i))), (4, .int (nI (cnt))), (5, .int (nI (96 * s + i))), (6, .int (nI (96 * s + i + 4 * t))), (7, .int (nI (n + t)))]) dX9_coils_323 325 rfl (by decide) rfl rfl ?_
                              refine g_iinc X (v := (nI (96 * s + i + 4 * (t + 1)))) (lv' := [(0, .ref (kad K (0))), (1, .int (nI (s))), (2, .int (x1)), (3, .int (nI (i))), (4, .int (nI (cnt))), (5, .int (nI (96 * s + i))), (6, .int (nI (96 * s + i + 4 * (t + 1)))), (7, .int (nI (n + t)))]) dX9_coils_325 328 rfl (by decide) rfl ((n_inc (96 * s + i + 4 * t) 4).trans (congrArg nI (by omega))) rfl rfl ?_
                              refine g_goto X dX9_coils_328 273 (by decide) ?_
                              refine g_sub [0, 1, 2, 3, 4, 5, 6] rfl ?_
                              refine g_mem (h := (adX (mrow (laN h n (96 * s + i) t) 24 (wbF h (96 * s + i) t9)) (n + t) (h 23 (96 * s + i + 4 * t)) (nI (tn (h 23 (96 * s + i + 4 * t + 1)))) (nI (tn (h 23 (96 * s + i + 4 * t + 2)))) (h 23 (96 * s + i + 4 * t + 3)))) (h' := (mrow (laN h n (96 * s + i) (t + 1)) 24 (wbF h (96 * s + i) t9))) (by rw [adX_row, ← hka, ← hkb]; rfl) ?_
                              exact ih273 (t + 1) (by omega) (by omega)
                        skip
                        refine g_mem (h := (mrow h 24 (wbF h (96 * s + i) t9))) (h' := (mrow (laN h n (96 * s + i) 0) 24 (wbF h (96 * s + i) t9))) rfl ?_
                        exact lp273 _ 0 (by omega) (Nat.lt_succ_self _)
                      · skip
                        exact absurd f263 (by omega)
                    · skip
                      refine g_aload_n X dX9_coils_128 129 rfl rfl ?_
                      refine g_aload_n X dX9_coils_129 130 rfl rfl ?_
                      refine g_get (c := 0) (k := 30) (T := TX9) (sk := skM0) (v := .ref (kad K (23))) X wf_X9_87 inX9 dX9_coils_130 133 rfl (by decide) rfl rfl (by decide) rfl ?_
                      refine g_iload X dX9_coils_133 135 rfl rfl ?_
                      refine g_iald (c := 23) (n := 384) (r := 23) (o := 0) (i := 96 * s + i + 4 * t) (v := (h 23 (96 * s + i + 4 * t))) X dX9_coils_135 136 rfl (by decide) rfl rfl (by omega) rfl ?_
                      refine g_i2l X (v := (h 23 (96 * s + i + 4 * t)).toInt64) dX9_coils_136 137 rfl rfl ?_
                      refine g_aload_n X dX9_coils_137 138 rfl rfl ?_
                      refine g_get (c := 0) (k := 30) (T := TX9) (sk := skM0) (v := .ref (kad K (23))) X wf_X9_87 inX9 dX9_coils_138 141 rfl (by decide) rfl rfl (by decide) rfl ?_
                      refine g_iload X dX9_coils_141 143 rfl rfl ?_
                      refine g_iconst X dX9_coils_143 144 rfl (v := (nI (1))) rfl ?_
                      refine g_iadd X (v := (nI (96 * s + i + 4 * t + 1))) dX9_coils_144 145 rfl (nI_add (96 * s + i + 4 * t) 1) ?_
                      refine g_iald (c := 23) (n := 384) (r := 23) (o := 0) (i := 96 * s + i + 4 * t + 1) (v := (h 23 (96 * s + i + 4 * t + 1))) X dX9_coils_145 146 rfl (by decide) rfl rfl (by omega) rfl ?_
                      refine g_i2l X (v := (h 23 (96 * s + i + 4 * t + 1)).toInt64) dX9_coils_146 147 rfl rfl ?_
                      refine g_aload_n X dX9_coils_147 148 rfl rfl ?_
                      refine g_get (c := 0) (k := 30) (T := TX9) (sk := skM0) (v := .ref (kad K (23))) X wf_X9_87 inX9 dX9_coils_148 151 rfl (by decide) rfl rfl (by decide) rfl ?_
                      refine g_iload X dX9_coils_151 153 rfl rfl ?_
                      refine g_iconst X dX9_coils_153 154 rfl (v := (nI (2))) rfl ?_
                      refine g_iadd X (v := (nI (96 * s + i + 4 * t + 2))) dX9_coils_154 155 rfl (nI_add (96 * s + i + 4 * t) 2) ?_
                      refine g_iald (c := 23) (n := 384) (r := 23) (o := 0) (i := 96 * s + i + 4 * t + 2) (v := (h 23 (96 * s + i + 4 * t + 2))) X dX9_coils_155 156 rfl (by decide) rfl rfl (by omega) rfl ?_
                      refine g_i2l X (v := (h 23 (96 * s + i + 4 * t + 2)).toInt64) dX9_coils_156 157 rfl rfl ?_
                      refine g_aload_n X dX9_coils_157 158 rfl rfl ?_
                      refine g_get (c := 0) (k := 30) (T := TX9) (sk := skM0) (v := .ref (kad K (23))) X wf_X9_87 inX9 dX9_coils_158 161 rfl (by decide) rfl rfl (by decide) rfl ?_
                      refine g_iload X dX9_coils_161 163 rfl rfl ?_
                      refine g_iconst X dX9_coils_163 164 rfl (v := (nI (3))) rfl ?_
                      refine g_iadd X (v := (nI (96 * s + i + 4 * t + 3))) dX9_coils_164 165 rfl (nI_add (96 * s + i + 4 * t) 3) ?_
                      refine g_iald (c := 23) (n := 384) (r := 23) (o := 0) (i := 96 * s + i + 4 * t + 3) (v := (h 23 (96 * s + i + 4 * t + 3))) X dX9_coils_165 166 rfl (by decide) rfl rfl (by omega) rfl ?_
                      refine g_i2l X (v := (h 23 (96 * s + i + 4 * t + 3)).toInt64) dX9_coils_166 167 rfl rfl ?_
                      refine g_callVix (st := []) (v := (bI ((0 ≤ (h 23 (96 * s + i + 4 * t)).toInt ∧ (h 23 (96 * s + i + 4 * t)).toInt ≤ (m : Int) - 1) ∧ (0 ≤ (h 23 (96 * s + i + 4 * t + 1)).toInt ∧ (h 23 (96 * s + i + 4 * t + 1)).toInt ≤ (q : Int) - 1) ∧ (0 ≤ (h 23 (96 * s + i + 4 * t + 2)).toInt ∧ (h 23 (96 * s + i + 4 * t + 2)).toInt ≤ (q : Int) - 1) ∧ ¬ (h 23 (96 * s + i + 4 * t + 1)).toInt = (h 23 (96 * s + i + 4 * t + 2)).toInt ∧ (1 ≤ (h 23 (96 * s + i + 4 * t + 3)).toInt ∧ (h 23 (96 * s + i + 4 * t + 3)).toInt ≤ 99)))) (m2 := (mrow h 24 (wbF h (96 * s + i) t))) X cw_X9_119 (c_M_isCoil (mrow h 24 (wbF h (96 * s + i) t)) ((h 23 (96 * s + i + 4 * t)).toInt64) ((h 23 (96 * s + i + 4 * t + 1)).toInt64) ((h 23 (96 * s + i + 4 * t + 2)).toInt64) ((h 23 (96 * s + i + 4 * t + 3)).toInt64) ((h 23 (96 * s + i + 4 * t)).toInt) ((h 23 (96 * s + i + 4 * t + 1)).toInt) ((h 23 (96 * s + i + 4 * t + 2)).toInt) ((h 23 (96 * s + i + 4 * t + 3)).toInt) (i64_of rfl) (i64_of rfl) (i64_of rfl) (i64_of rfl) q m hq hm (by omega) (by omega)) dX9_coils_167 170 rfl (by decide) rfl rfl rfl rfl rfl (by decide) (Nat.le_of_ble_eq_true rfl) ?_
                      refine g_ifeq_B X dX9_coils_170 209 (by decide) 173 rfl (fun t170 => ?_) (fun f170 => ?_)
                      · skip
                        refine g_bipush X dX9_coils_209 211 rfl (v := (zI (-2))) rfl ?_
                        refine g_iret (h := (mrow h 24 (wbF h (96 * s + i) t))) (v := (zI (-2))) X Z dX9_coils_211 ?_
                        unfold cuP
                        rw [if_pos ⟨f5, t18⟩, ec, if_pos (by rw [e7]; rfl), es, ek]
                        exact Or.inr ⟨t, by omega, hg, fun z => t170 z.1, rfl, _, rfl⟩
                      · skip
                        have hka : h 23 (96 * s + i + 4 * t + 1) = nI (tn (h 23 (96 * s + i + 4 * t + 1))) := nI_tn f170.2.1.1
                        have hkb : h 23 (96 * s + i + 4 * t + 2) = nI (tn (h 23 (96 * s + i + 4 * t + 2))) := nI_tn f170.2.2.1.1
                        have hia : tn (h 23 (96 * s + i + 4 * t + 1)) < q := by have := f170.2.1; unfold tn; omega
                        have hib : tn (h 23 (96 * s + i + 4 * t + 2)) < q := by have := f170.2.2.1; unfold tn; omega
                        have hwa := hwb (tn (h 23 (96 * s + i + 4 * t + 1))) (by omega)
                        have hwc := hwb (tn (h 23 (96 * s + i + 4 * t + 2))) (by omega)
                        refine g_aload_n X dX9_coils_173 174 rfl rfl ?_
                        refine g_get (c := 0) (k := 31) (T := TX9) (sk := skM0) (v := .ref (kad K (24))) X wf_X9_90 inX9 dX9_coils_174 177 rfl (by decide) rfl rfl (by decide) rfl ?_
                        refine g_aload_n X dX9_coils_177 178 rfl rfl ?_
                        refine g_get (c := 0) (k := 30) (T := TX9) (sk := skM0) (v := .ref (kad K (23))) X wf_X9_87 inX9 dX9_coils_178 181 rfl (by decide) rfl rfl (by decide) rfl ?_
                        refine g_iload X dX9_coils_181 183 rfl rfl ?_
                        refine g_iconst X dX9_coils_183 184 rfl (v := (nI (1))) rfl ?_
                        refine g_iadd X (v := (nI (96 * s + i + 4 * t + 1))) dX9_coils_184 185 rfl (nI_add (96 * s + i + 4 * t) 1) ?_
                        refine g_iald (c := 23) (n := 384) (r := 23) (o := 0) (i := 96 * s + i + 4 * t + 1) (v := (nI (tn (h 23 (96 * s + i + 4 * t + 1))))) X dX9_coils_185 186 rfl (by decide) rfl rfl (by omega) hka ?_
                        refine g_iald (c := 24) (n := 24) (r := 24) (o := 0) (i := tn (h 23 (96 * s + i + 4 * t + 1))) (v := (wbF h (96 * s + i) t (tn (h 23 (96 * s + i + 4 * t + 1))))) X dX9_coils_186 187 rfl (by decide) rfl rfl (by omega) rfl ?_
                        refine g_iconst X dX9_coils_187 188 rfl (v := (nI (2))) rfl ?_
                        refine g_icmp_eq X ((wbF h (96 * s + i) t (tn (h 23 (96 * s + i + 4 * t + 1)))).toInt) 2 dX9_coils_188 209 (by decide) 191 rfl rfl rfl (fun t188 => ?_) (fun f188 => ?_)
                        · skip
                          refine g_bipush X dX9_coils_209 211 rfl (v := (zI (-2))) rfl ?_
                          refine g_iret (h := (mrow h 24 (wbF h (96 * s + i) t))) (v := (zI (-2))) X Z dX9_coils_211 ?_
                          unfold cuP
                          rw [if_pos ⟨f5, t18⟩, ec, if_pos (by rw [e7]; rfl), es, ek]
                          exact Or.inr ⟨t, by omega, hg, fun z => z.2 (Or.inl (by omega)), rfl, _, rfl⟩
                        · skip
                          refine g_aload_n X dX9_coils_191 192 rfl rfl ?_
                          refine g_get (c := 0) (k := 31) (T := TX9) (sk := skM0) (v := .ref (kad K (24))) X wf_X9_90 inX9 dX9_coils_192 195 rfl (by decide) rfl rfl (by decide) rfl ?_
                          refine g_aload_n X dX9_coils_195 196 rfl rfl ?_
                          refine g_get (c := 0) (k := 30) (T := TX9) (sk := skM0) (v := .ref (kad K (23))) X wf_X9_87 inX9 dX9_coils_196 199 rfl (by decide) rfl rfl (by decide) rfl ?_
                          refine g_iload X dX9_coils_199 201 rfl rfl ?_
                          refine g_iconst X dX9_coils_201 202 rfl (v := (nI (2))) rfl ?_
                          refine g_iadd X (v := (nI (96 * s + i + 4 * t + 2))) dX9_coils_202 203 rfl (nI_add (96 * s + i + 4 * t) 2) ?_
                          refine g_iald (c := 23) (n := 384) (r := 23) (o := 0) (i := 96 * s + i + 4 * t + 2) (v := (nI (tn (h 23 (96 * s + i + 4 * t + 2))))) X dX9_coils_203 204 rfl (by decide) rfl rfl (by omega) hkb ?_
                          refine g_iald (c := 24) (n := 24) (r := 24) (o := 0) (i := tn (h 23 (96 * s + i + 4 * t + 2))) (v := (wbF h (96 * s + i) t (tn (h 23 (96 * s + i + 4 * t + 2))))) X dX9_coils_204 205 rfl (by decide) rfl rfl (by omega) rfl ?_
                          refine g_iconst X dX9_coils_205 206 rfl (v := (nI (2))) rfl ?_
                          refine g_icmp_ne X ((wbF h (96 * s + i) t (tn (h 23 (96 * s + i + 4 * t + 2)))).toInt) 2 dX9_coils_206 212 (by decide) 209 rfl rfl rfl (fun t206 => ?_) (fun f206 => ?_)
                          · skip
                            have hgt : gM h q m (96 * s + i) t := ⟨f170, fun z => by rcases z with z | z <;> omega⟩
                            refine g_aload_n X dX9_coils_212 213 rfl rfl ?_
                            refine g_get (c := 0) (k := 31) (T := TX9) (sk := skM0) (v := .ref (kad K (24))) X wf_X9_90 inX9 dX9_coils_213 216 rfl (by decide) rfl rfl (by decide) rfl ?_
                            refine g_aload_n X dX9_coils_216 217 rfl rfl ?_
                            refine g_get (c := 0) (k := 30) (T := TX9) (sk := skM0) (v := .ref (kad K (23))) X wf_X9_87 inX9 dX9_coils_217 220 rfl (by decide) rfl rfl (by decide) rfl ?_
                            refine g_iload X dX9_coils_220 222 rfl rfl ?_
                            refine g_iconst X dX9_coils_222 223 rfl (v := (nI (1))) rfl ?_
                            refine g_iadd X (v := (nI (96 * s + i + 4 * t + 1))) dX9_coils_223 224 rfl (nI_add (96 * s + i + 4 * t) 1) ?_
                            refine g_iald (c := 23) (n := 384) (r := 23) (o := 0) (i := 96 * s + i + 4 * t + 1) (v := (nI (tn (h 23 (96 * s + i + 4 * t + 1))))) X dX9_coils_224 225 rfl (by decide) rfl rfl (by omega) hka ?_
                            refine g_dup2 X dX9_coils_225 226 rfl rfl rfl ?_
                            refine g_iald (c := 24) (n := 24) (r := 24) (o := 0) (i := tn (h 23 (96 * s + i + 4 * t + 1))) (v := (wbF h (96 * s + i) t (tn (h 23 (96 * s + i + 4 * t + 1))))) X dX9_coils_226 227 rfl (by decide) rfl rfl (by omega) rfl ?_
                            refine g_iconst X dX9_coils_227 228 rfl (v := (nI (1))) rfl ?_
                            refine g_iadd X (v := ((wbF h (96 * s + i) t (tn (h 23 (96 * s + i + 4 * t + 1)))) + (nI (1)))) dX9_coils_228 229 rfl rfl ?_
                            refine g_iast (c := 24) (n := 24) (r := 24) (o := 0) (i := tn (h 23 (96 * s + i + 4 * t + 1))) X dX9_coils_229 230 rfl (by decide) rfl rfl (by omega) ?_
                            refine g_aload_n X dX9_coils_230 231 rfl rfl ?_
                            refine g_get (c := 0) (k := 31) (T := TX9) (sk := skM0) (v := .ref (kad K (24))) X wf_X9_90 inX9 dX9_coils_231 234 rfl (by decide) rfl rfl (by decide) rfl ?_
                            refine g_aload_n X dX9_coils_234 235 rfl rfl ?_
                            refine g_get (c := 0) (k := 30) (T := TX9) (sk := skM0) (v := .ref (kad K (23))) X wf_X9_87 inX9 dX9_coils_235 238 rfl (by decide) rfl rfl (by decide) rfl ?_
                            refine g_iload X dX9_coils_238 240 rfl rfl ?_
                            refine g_iconst X dX9_coils_240 241 rfl (v := (nI (2))) rfl ?_
                            refine g_iadd X (v := (nI (96 * s + i + 4 * t + 2))) dX9_coils_241 242 rfl (nI_add (96 * s + i + 4 * t) 2) ?_
                            refine g_iald (c := 23) (n := 384) (r := 23) (o := 0) (i := 96 * s + i + 4 * t + 2) (v := (nI (tn (h 23 (96 * s + i + 4 * t + 2))))) X dX9_coils_242 243 rfl (by decide) rfl rfl (by omega) hkb ?_
                            refine g_dup2 X dX9_coils_243 244 rfl rfl rfl ?_
                            refine g_iald (c := 24) (n := 24) (r := 24) (o := 0) (i := tn (h 23 (96 * s + i + 4 * t + 2))) (v := (upd (wbF h (96 * s + i) t) (tn (h 23 (96 * s + i + 4 * t + 1))) (wbF h (96 * s + i) t (tn (h 23 (96 * s + i + 4 * t + 1))) + nI 1) (tn (h 23 (96 * s + i + 4 * t + 2))))) X dX9_coils_244 245 rfl (by decide) rfl rfl (by omega) rfl ?_
                            refine g_iconst X dX9_coils_245 246 rfl (v := (nI (1))) rfl ?_
                            refine g_iadd X (v := ((upd (wbF h (96 * s + i) t) (tn (h 23 (96 * s + i + 4 * t + 1))) (wbF h (96 * s + i) t (tn (h 23 (96 * s + i + 4 * t + 1))) + nI 1) (tn (h 23 (96 * s + i + 4 * t + 2)))) + (nI (1)))) dX9_coils_246 247 rfl rfl ?_
                            refine g_iast (c := 24) (n := 24) (r := 24) (o := 0) (i := tn (h 23 (96 * s + i + 4 * t + 2))) X dX9_coils_247 248 rfl (by decide) rfl rfl (by omega) ?_
                            refine g_iinc X (v := (nI (96 * s + i + 4 * (t + 1)))) (lv' := [(0, .ref (kad K (0))), (1, .int (nI (s))), (2, .int (x1)), (3, .int (nI (i))), (4, .int (nI (cnt))), (5, .int (nI (96 * s + i))), (6, .int (nI (96 * s + i + 4 * (t + 1))))]) dX9_coils_248 251 rfl (by decide) rfl ((n_inc (96 * s + i + 4 * t) 4).trans (congrArg nI (by omega))) rfl rfl ?_
                            refine g_goto X dX9_coils_251 116 (by decide) ?_
                            skip
                            refine g_mem (h := (mup (mup (mrow h 24 (wbF h (96 * s + i) t)) 24 (tn (h 23 (96 * s + i + 4 * t + 1))) ((wbF h (96 * s + i) t (tn (h 23 (96 * s + i + 4 * t + 1)))) + (nI (1)))) 24 (tn (h 23 (96 * s + i + 4 * t + 2))) ((upd (wbF h (96 * s + i) t) (tn (h 23 (96 * s + i + 4 * t + 1))) (wbF h (96 * s + i) t (tn (h 23 (96 * s + i + 4 * t + 1))) + nI 1) (tn (h 23 (96 * s + i + 4 * t + 2)))) + (nI (1))))) (h' := (mrow h 24 (wbF h (96 * s + i) (t + 1)))) (by rw [mup_m, mup_m]; rfl) ?_
                            exact ih116 (t + 1) (by omega) (fun b z => (Nat.lt_succ_iff_lt_or_eq.mp z).elim (hg b) (fun y => by rw [y]; exact hgt)) (by omega)
                          · skip
                            refine g_bipush X dX9_coils_209 211 rfl (v := (zI (-2))) rfl ?_
                            refine g_iret (h := (mrow h 24 (wbF h (96 * s + i) t))) (v := (zI (-2))) X Z dX9_coils_211 ?_
                            unfold cuP
                            rw [if_pos ⟨f5, t18⟩, ec, if_pos (by rw [e7]; rfl), es, ek]
                            exact Or.inr ⟨t, by omega, hg, fun z => z.2 (Or.inr (by omega)), rfl, _, rfl⟩
                skip
                refine g_mem (h := (mrow h 24 (cpR (h 6) (h 24) z))) (h' := (mrow h 24 (wbF h (96 * s + i) 0))) (by rw [show z = 24 from by omega]; rfl) ?_
                exact lp116 _ 0 (by omega) (fun b z => absurd z (Nat.not_lt_zero b)) (Nat.lt_succ_self _)
              · skip
                refine g_aload_n X dX9_coils_84 85 rfl rfl ?_
                refine g_get (c := 0) (k := 31) (T := TX9) (sk := skM0) (v := .ref (kad K (24))) X wf_X9_90 inX9 dX9_coils_85 88 rfl (by decide) rfl rfl (by decide) rfl ?_
                refine g_iload X dX9_coils_88 90 rfl rfl ?_
                refine g_aload_n X dX9_coils_90 91 rfl rfl ?_
                refine g_get (c := 0) (k := 9) (T := TX9) (sk := skM0) (v := .ref (kad K (6))) X wf_X9_36 inX9 dX9_coils_91 94 rfl (by decide) rfl rfl (by decide) rfl ?_
                refine g_iload X dX9_coils_94 96 rfl rfl ?_
                refine g_iald (c := 6) (n := 24) (r := 6) (o := 0) (i := z) (v := (h 6 z)) X dX9_coils_96 97 rfl (by decide) rfl rfl (by omega) rfl ?_
                refine g_iast (c := 24) (n := 24) (r := 24) (o := 0) (i := z) X dX9_coils_97 98 rfl (by decide) rfl rfl (by omega) ?_
                refine g_iinc X (v := (nI (z + 1))) (lv' := [(0, .ref (kad K (0))), (1, .int (nI (s))), (2, .int (x1)), (3, .int (nI (i))), (4, .int (nI (cnt))), (5, .int (nI (z + 1)))]) dX9_coils_98 101 rfl (by decide) rfl (n_inc z 1) rfl rfl ?_
                refine g_goto X dX9_coils_101 77 (by decide) ?_
                skip
                refine g_mem (h := (mup (mrow h 24 (cpR (h 6) (h 24) z)) 24 z (h 6 z))) (h' := (mrow h 24 (cpR (h 6) (h 24) (z + 1)))) (by rw [mup_m, cpR_s]) ?_
                exact ih77 (z + 1) (by omega) (by omega)
          skip
          refine g_mem (h := h) (h' := (mrow h 24 (cpR (h 6) (h 24) 0))) (by rw [cpR_0]; exact (mrow_id _ 24).symm) ?_
          exact lp77 _ 0 (by omega) (Nat.lt_succ_self _)
        · skip
          refine g_bipush X dX9_coils_71 73 rfl (v := (zI (-13))) rfl ?_
          refine g_iret (h := h) (v := (zI (-13))) X Z dX9_coils_73 ?_
          have e7 : iuR h (nI s) x1 x2 (4 * cnt) = zI (-13) := by
            rw [iuR, es, ez]
            exact (if_neg (by omega)).trans ((if_neg (by omega)).trans (if_neg (fun z => f68 ⟨z.1, by have := z.2; omega⟩)))
          exact (if_pos ⟨f5, t18⟩).mpr (by rw [ec]; exact (if_neg (by rw [e7]; decide)).mpr ⟨e7.symm, rfl⟩)
      · skip
        refine g_aload_n X dX9_coils_33 34 rfl rfl ?_
        refine g_get (c := 0) (k := 28) (T := TX9) (sk := skM0) (v := .ref (kad K (21))) X wf_X9_81 inX9 dX9_coils_34 37 rfl (by decide) rfl rfl (by decide) rfl ?_
        refine g_iload_n X dX9_coils_37 38 rfl rfl ?_
        refine g_iald (c := 21) (n := 4) (r := 21) (o := 0) (i := s) (v := (h 21 s)) X dX9_coils_38 39 rfl (by decide) rfl rfl (by omega) rfl ?_
        refine g_if_ge X ((h 21 s).toInt) dX9_coils_39 47 (by decide) 42 rfl rfl (fun t39 => ?_) (fun f39 => ?_)
        · skip
          refine g_bipush X dX9_coils_47 49 rfl (v := (zI (-12))) rfl ?_
          refine g_iret (h := h) (v := (zI (-12))) X Z dX9_coils_49 ?_
          have e7 : iuR h (nI s) x1 x2 (4 * cnt) = zI (-12) := by
            rw [iuR, es, ez]
            exact (if_neg (by omega)).trans (if_pos f30)
          exact (if_pos ⟨f5, t18⟩).mpr (by rw [ec]; exact (if_neg (by rw [e7]; decide)).mpr ⟨e7.symm, rfl⟩)
        · skip
          refine g_bipush X dX9_coils_42 44 rfl (v := (zI (-11))) rfl ?_
          refine g_goto X dX9_coils_44 49 (by decide) ?_
          refine g_iret (h := h) (v := (zI (-11))) X Z dX9_coils_49 ?_
          have e7 : iuR h (nI s) x1 x2 (4 * cnt) = zI (-11) := by
            rw [iuR, es, ez]
            exact if_pos (by omega)
          exact (if_pos ⟨f5, t18⟩).mpr (by rw [ec]; exact (if_neg (by rw [e7]; decide)).mpr ⟨e7.symm, rfl⟩)
    · skip
      refine g_iconst X dX9_coils_21 22 rfl (v := (zI (-1))) rfl ?_
      refine g_iret (h := h) (v := (zI (-1))) X Z dX9_coils_22 ?_
      exact (if_neg (fun z => f18 z.2)).mpr ⟨rfl, rfl⟩
