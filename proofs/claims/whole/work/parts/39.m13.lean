def prB (size : Nat) (sc : Nat → Nat → Nat) (set last x : Nat) : Bool := !set.testBit x && decide ((sc last x : Int) + eI size sc (set ||| 2 ^ x) x = eI size sc set last)
theorem prB_t {size : Nat} {sc : Nat → Nat → Nat} {set last x : Nat} : prB size sc set last x = true ↔ set.testBit x = false ∧ (sc last x : Int) + eI size sc (set ||| 2 ^ x) x = eI size sc set last := by
  unfold prB
  rw [Bool.and_eq_true, decide_eq_true_iff, Bool.not_eq_true']
theorem ex_pr {size : Nat} {sc : Nat → Nat → Nat} {set last : Nat} (h7 : size < 8) (hsc : ∀ a b, sc a b ≤ 24) (h : set < 2 ^ size - 1) : ∃ x, x < size ∧ prB size sc set last x = true := by
  obtain ⟨x, hx, hb⟩ := ex_bit size h7 set h
  rcases mnI_at (F := fun x => (sc last x : Int) + eI size sc (set ||| 2 ^ x) x) (P := fun x => !set.testBit x) size (fun k hk _ => by have c := eI_bd (last := k) h7 hsc (or_in (x := k) (show set ≤ 2 ^ size - 1 by omega) hk); omega) with ⟨-, hno⟩ | ⟨-, -, k, hk, hPk, hek⟩
  · exact absurd (show (!set.testBit x) = true by rw [hb]; rfl) (hno x hx)
  · refine ⟨k, hk, prB_t.mpr ⟨by simpa using hPk, ?_⟩⟩
    rw [eI_lt h, hek]
def fstN (P : Nat → Bool) : Nat → Nat → Nat
  | 0, s => s
  | n + 1, s => if P s = true then s else fstN P n (s + 1)
theorem fstN_at {P : Nat → Bool} : ∀ n s, (∃ x, s ≤ x ∧ x < s + n ∧ P x = true) → s ≤ fstN P n s ∧ fstN P n s < s + n ∧ P (fstN P n s) = true ∧ ∀ y, s ≤ y → y < fstN P n s → ¬ P y = true
  | 0, s, h => by obtain ⟨x, a, b, -⟩ := h; omega
  | n + 1, s, h => by
    unfold fstN
    by_cases c : P s = true
    · rw [if_pos c]; exact ⟨Nat.le_refl _, by omega, c, fun y a b => by omega⟩
    · rw [if_neg c]
      obtain ⟨x, a, b, hx⟩ := h
      have hne : x ≠ s := fun e => c (by rw [← e]; exact hx)
      obtain ⟨h1, h2, h3, h4⟩ := fstN_at n (s + 1) ⟨x, by omega, by omega, hx⟩
      refine ⟨by omega, by omega, h3, fun y ya yb => ?_⟩
      by_cases e : y = s
      · rw [e]; exact c
      · exact h4 y (by omega) yb
def trc (size : Nat) (sc : Nat → Nat → Nat) : Nat → Nat × Nat
  | 0 => (1, 0)
  | k + 1 => ((trc size sc k).1 ||| 2 ^ (fstN (prB size sc (trc size sc k).1 (trc size sc k).2) size 0), fstN (prB size sc (trc size sc k).1 (trc size sc k).2) size 0)
def cbN (set : Nat) : Nat → Nat
  | 0 => 0
  | n + 1 => cbN set n + (if set.testBit n = true then 1 else 0)
theorem cb_or {set x : Nat} (h : set.testBit x = false) : ∀ n, cbN (set ||| 2 ^ x) n = cbN set n + (if x < n then 1 else 0)
  | 0 => rfl
  | n + 1 => by
    unfold cbN
    rw [cb_or h n, Nat.testBit_or, Nat.testBit_two_pow]
    by_cases e : x = n
    · subst e
      rw [h]
      simp
    · by_cases c : x < n
      · rw [if_pos c, if_pos (show x < n + 1 by omega), decide_eq_false e, Bool.or_false]; omega
      · rw [if_neg c, if_neg (show ¬ x < n + 1 by omega), decide_eq_false e, Bool.or_false, Nat.add_zero, Nat.add_zero]
theorem cb_full : ∀ size, size < 8 → cbN (2 ^ size - 1) size = size ∧ (1 ≤ size → cbN 1 size = 1) := by decide +kernel
theorem trc_ok {size : Nat} {sc : Nat → Nat → Nat} (h1 : 1 ≤ size) (h7 : size < 8) (hsc : ∀ a b, sc a b ≤ 24) : ∀ u, u < size → 1 ≤ (trc size sc u).1 ∧ (trc size sc u).1 ≤ 2 ^ size - 1 ∧ (trc size sc u).2 < size ∧ cbN (trc size sc u).1 size = u + 1 ∧ (u + 1 < size → (trc size sc u).1 < 2 ^ size - 1 ∧ (trc size sc (u + 1)).2 < size ∧ prB size sc (trc size sc u).1 (trc size sc u).2 (trc size sc (u + 1)).2 = true ∧ ∀ y, y < (trc size sc (u + 1)).2 → ¬ prB size sc (trc size sc u).1 (trc size sc u).2 y = true) := by
  have nxt : ∀ u, (trc size sc u).1 ≤ 2 ^ size - 1 → cbN (trc size sc u).1 size = u + 1 → u + 1 < size → (trc size sc u).1 < 2 ^ size - 1 ∧ (trc size sc (u + 1)).2 < size ∧ prB size sc (trc size sc u).1 (trc size sc u).2 (trc size sc (u + 1)).2 = true ∧ ∀ y, y < (trc size sc (u + 1)).2 → ¬ prB size sc (trc size sc u).1 (trc size sc u).2 y = true := by
    intro u a b c
    have hlt : (trc size sc u).1 < 2 ^ size - 1 := by
      rcases Nat.lt_or_eq_of_le a with z | z
      · exact z
      · rw [z, (cb_full size h7).1] at b; omega
    obtain ⟨x, hx, hp⟩ := ex_pr (last := (trc size sc u).2) h7 hsc hlt
    obtain ⟨-, f2, f3, f4⟩ := fstN_at (P := prB size sc (trc size sc u).1 (trc size sc u).2) size 0 ⟨x, by omega, by omega, hp⟩
    exact ⟨hlt, by have : (trc size sc (u + 1)).2 = fstN (prB size sc (trc size sc u).1 (trc size sc u).2) size 0 := rfl; omega, f3, fun y hy => f4 y (by omega) hy⟩
  intro u
  induction u with
  | zero =>
    intro _
    have h2 : 2 ^ 1 ≤ 2 ^ size := Nat.pow_le_pow_right (by decide) h1
    have a : (trc size sc 0).1 ≤ 2 ^ size - 1 := by show 1 ≤ 2 ^ size - 1; omega
    exact ⟨by show 1 ≤ 1; omega, a, by show 0 < size; omega, (cb_full size h7).2 h1, nxt 0 a ((cb_full size h7).2 h1)⟩
  | succ u ih =>
    intro hu
    obtain ⟨a0, a, b, c, d⟩ := ih (by omega)
    obtain ⟨d1, d2, d3, d4⟩ := d hu
    have e : (trc size sc (u + 1)).1 = (trc size sc u).1 ||| 2 ^ (trc size sc (u + 1)).2 := rfl
    have e1 : (trc size sc (u + 1)).1 ≤ 2 ^ size - 1 := by rw [e]; exact or_in a d2
    have e2 : cbN (trc size sc (u + 1)).1 size = u + 1 + 1 := by rw [e, cb_or (prB_t.mp d3).1, if_pos d2, c]
    exact ⟨by rw [e]; have := or_gt (prB_t.mp d3).1; omega, e1, d2, e2, nxt (u + 1) e1 e2⟩
theorem bs_0 {size : Nat} {sc : Nat → Nat → Nat} {set last x : Nat} (h : set < 2 ^ size - 1) (hb : set.testBit x = true) : bsI size sc set last (x + 1) = bsI size sc set last x := by
  unfold bsI
  rw [if_neg (by omega), if_neg (by omega)]
  show (if (!set.testBit x) = true then _ else _) = _
  rw [if_neg (by rw [hb]; decide)]
theorem bs_1 {size : Nat} {sc : Nat → Nat → Nat} {set last x : Nat} (h : set < 2 ^ size - 1) (hb : set.testBit x = false) : bsI size sc set last (x + 1) = if bsI size sc set last x < 0 ∨ (sc last x : Int) + eI size sc (set ||| 2 ^ x) x < bsI size sc set last x then (sc last x : Int) + eI size sc (set ||| 2 ^ x) x else bsI size sc set last x := by
  have e : ¬ set = 2 ^ size - 1 := by omega
  unfold bsI
  rw [if_neg e, if_neg e]
  show (if (!set.testBit x) = true then _ else _) = _
  rw [if_pos (by rw [hb]; rfl)]
def tuQ (h h2 : Mem) (q : Nat) (L : List Nat) (r : Int32) : Prop := (7 < L.length ∧ r = zI (-3) ∧ h2 0 24 = h 0 24 ∧ h2 19 = h 19) ∨ (L.length = 0 ∧ r = zI (-4) ∧ h2 0 24 = h 0 24 ∧ h2 19 = h 19) ∨ (1 ≤ L.length ∧ L.length ≤ 7 ∧ r = zI (eI L.length (scF q (h 3) (h 2) (fun i => L.getD i 0)) 1 0) ∧ h2 0 24 = nI L.length ∧ ∀ j, j < L.length → h2 19 j = nI (L.getD (trc L.length (scF q (h 3) (h 2) (fun i => L.getD i 0)) j).2 0))
set_option maxHeartbeats 1000000 in
set_option maxRecDepth 100000 in
theorem c_M_tour (h : Mem) (q p m n d : Nat) (II : MI h q p m n d) (x0 : Int32) : cI 25 ML yX9_tour cX9_tour 8 (some .int) 1 25 (fun ad => [.ref (ad (0)), .int (x0)]) h (fun r h2 => (isC m x0 → tuQ h h2 q (glB (uil (h 1) (h 5) ((tn x0 : Nat) : Int)) n) r) ∧ (¬ isC m x0 → r = zI (-1) ∧ h2 = h) ∧ mag h h2 [14, 18, 19] [18, 24]) := by
  refine cI_of MLW (by decide +kernel) (fun ad => Nat.le_of_ble_eq_true rfl) ?_
  intro K X Z
  obtain ⟨C, hsA, hsB, hpol, hdq, ⟨tz, htz, hto⟩, ⟨pz, hpz, hpk⟩, hshe⟩ := id II
  obtain ⟨hq, hp, hm, hq1, hq2, hp1, hp2, hm1, hm2, hn, hn2, hc, hd, hd1, hd2⟩ := id C
  show G 25 ML 8 K h 0 [(0, .ref (kad K (0))), (1, .int (x0))] []
  refine g_iload_n X dX9_tour_0 1 rfl rfl ?_
  refine g_i2l X (v := (x0).toInt64) dX9_tour_1 2 rfl rfl ?_
  refine g_lconst X dX9_tour_2 3 rfl (v := (0 : Int64)) rfl ?_
  refine g_aload_n X dX9_tour_3 4 rfl rfl ?_
  refine g_get (c := 0) (k := 2) (T := TX9) (sk := skM0) (v := .int (nI (m))) X wf_X9_16 inX9 dX9_tour_4 7 rfl (by decide) rfl rfl (by decide) (congrArg Value.int (hm)) ?_
  refine g_iconst X dX9_tour_7 8 rfl (v := (nI (1))) rfl ?_
  refine g_isub X (v := (zI (((m : Nat) : Int) - ((1 : Nat) : Int)))) dX9_tour_8 9 rfl (nn_sub m 1) ?_
  refine g_i2l X (v := (zI (((m : Nat) : Int) - ((1 : Nat) : Int))).toInt64) dX9_tour_9 10 rfl rfl ?_
  refine g_callSix (st := []) (v := (bI (0 ≤ (x0).toInt ∧ (x0).toInt ≤ ((m : Nat) : Int) - ((1 : Nat) : Int)))) (m2 := h) X cw_X9_100 (c_M_in h ((x0).toInt64) (0 : Int64) ((zI (((m : Nat) : Int) - ((1 : Nat) : Int))).toInt64) ((x0).toInt) 0 (((m : Nat) : Int) - ((1 : Nat) : Int)) (i64_of rfl) rfl (i64_of (zI_toInt (by omega)))) dX9_tour_10 13 rfl rfl rfl rfl (by decide) (Nat.le_of_ble_eq_true rfl) ?_
  refine g_ifne_B X dX9_tour_13 18 (by decide) 16 rfl (fun t13 => ?_) (fun f13 => ?_)
  · skip
    obtain ⟨f, hf, rfl⟩ := inR_nat t13
    have ef : tn (nI f) = f := tn_nI (by omega)
    refine g_aload_n X dX9_tour_18 19 rfl rfl ?_
    refine g_iload_n X dX9_tour_19 20 rfl rfl ?_
    refine g_callVvx (st := []) (m2 := (mrow (mup h 0 18 (nI ((glB (uil (h 1) (h 5) ((f : Nat) : Int)) n).length))) 14 (grow (glB (uil (h 1) (h 5) ((f : Nat) : Int)) n) 24 (h 14)))) X cw_X9_179 (c_M_listUsed h q m n (nI (f)) ((f : Nat) : Int) (nI_toInt (by omega)) (by exact hn) hn2 hm2 (by exact hc)) dX9_tour_20 23 rfl (by decide) rfl rfl rfl rfl rfl (by decide) (Nat.le_of_ble_eq_true rfl) ?_
    obtain ⟨L, hL⟩ : ∃ L, L = (glB (uil (h 1) (h 5) ((f : Nat) : Int)) n) := ⟨_, rfl⟩
    rw [← hL]
    have hLl : L.length ≤ n := by rw [hL]; exact glB_len _ _
    have hLm : ∀ i, i < L.length → L.getD i 0 < n := fun i hi => by
      rw [hL] at hi ⊢
      exact (glB_at hi).1
    refine g_aload_n X dX9_tour_23 24 rfl rfl ?_
    refine g_get (c := 0) (k := 18) (T := TX9) (sk := skM0) (v := .int (nI (L.length))) X wf_X9_176 inX9 dX9_tour_24 27 rfl (by decide) rfl rfl (by decide) rfl ?_
    refine g_bipush X dX9_tour_27 29 rfl (v := (nI (7))) rfl ?_
    refine g_icmp_le X ((L.length : Nat) : Int) 7 dX9_tour_29 35 (by decide) 32 rfl (nI_toInt (by omega)) rfl (fun t29 => ?_) (fun f29 => ?_)
    · skip
      refine g_aload_n X dX9_tour_35 36 rfl rfl ?_
      refine g_get (c := 0) (k := 18) (T := TX9) (sk := skM0) (v := .int (nI (L.length))) X wf_X9_176 inX9 dX9_tour_36 39 rfl (by decide) rfl rfl (by decide) rfl ?_
      refine g_if_ne X ((L.length : Nat) : Int) dX9_tour_39 45 (by decide) 42 rfl (nI_toInt (by omega)) (fun t39 => ?_) (fun f39 => ?_)
      · skip
        have h27 : 2 ^ L.length ≤ 2 ^ 7 := Nat.pow_le_pow_right (by decide) (by omega)
        have h21 : 2 ^ 1 ≤ 2 ^ L.length := Nat.pow_le_pow_right (by decide) (by omega)
        refine g_iconst X dX9_tour_45 46 rfl (v := (nI (1))) rfl ?_
        refine g_aload_n X dX9_tour_46 47 rfl rfl ?_
        refine g_get (c := 0) (k := 18) (T := TX9) (sk := skM0) (v := .int (nI (L.length))) X wf_X9_176 inX9 dX9_tour_47 50 rfl (by decide) rfl rfl (by decide) rfl ?_
        refine g_ishl X (v := (nI (2 ^ L.length))) dX9_tour_50 51 rfl (nI_shl1 (by omega)) ?_
        refine g_iconst X dX9_tour_51 52 rfl (v := (nI (1))) rfl ?_
        refine g_isub X (v := (nI (2 ^ L.length - 1))) dX9_tour_52 53 rfl (pk_sub (by omega)) ?_
        obtain ⟨full, hfull⟩ : ∃ full, full = 2 ^ L.length - 1 := ⟨_, rfl⟩
        rw [← hfull]
        have hf7 : full ≤ 127 := by omega
        have hf1 : 1 ≤ full := by omega
        refine g_istore_n X (lv' := [(0, .ref (kad K (0))), (1, .int (nI (f))), (2, .int (nI (full)))]) dX9_tour_53 54 rfl (by decide) rfl rfl ?_
        refine g_iload_n X dX9_tour_54 55 rfl rfl ?_
        refine g_istore_n X (lv' := [(0, .ref (kad K (0))), (1, .int (nI (f))), (2, .int (nI (full))), (3, .int (nI (full)))]) dX9_tour_55 56 rfl (by decide) rfl rfl ?_
        have lp56 : ∀ (fu : Nat) (set : Nat) (E : Nat → Int32) (hset : set ≤ full) (hE : ∀ s, set < s → s ≤ full → ∀ c, c < L.length → E (7 * s + c) = zI (eI L.length (scF q (h 3) (h 2) (fun i => L.getD i 0)) s c)), set < fu → G 25 ML 8 K (mrow (mrow (mup h 0 18 (nI (L.length))) 14 (grow L 24 (h 14))) 18 E) 56 [(0, .ref (kad K (0))), (1, .int (nI (f))), (2, .int (nI (full))), (3, .int (nI (set)))] [] := by
          intro fu
          induction fu with
          | zero => intro set E hset hE hm; exact absurd hm (Nat.not_lt_zero _)
          | succ fu ih56 =>
            intro set E hset hE hm56
            refine g_iload_n X dX9_tour_56 57 rfl rfl ?_
            refine g_if_le X ((set : Nat) : Int) dX9_tour_57 237 (by decide) 60 rfl (nI_toInt (by omega)) (fun t57 => ?_) (fun f57 => ?_)
            · skip
              refine g_aload_n X dX9_tour_237 238 rfl rfl ?_
              refine g_aload_n X dX9_tour_238 239 rfl rfl ?_
              refine g_get (c := 0) (k := 18) (T := TX9) (sk := skM0) (v := .int (nI (L.length))) X wf_X9_176 inX9 dX9_tour_239 242 rfl (by decide) rfl rfl (by decide) rfl ?_
              refine g_put (c := 0) (k := 24) (T := TX9) (sk := skM0) X wf_X9_192 inX9 tyX9_ok nmX9 dX9_tour_242 245 rfl (by decide) rfl rfl (by decide) rfl rfl rfl ?_
              refine g_iconst X dX9_tour_245 246 rfl (v := (nI (1))) rfl ?_
              refine g_istore_n X (lv' := [(0, .ref (kad K (0))), (1, .int (nI (f))), (2, .int (nI (full))), (3, .int (nI 1))]) dX9_tour_246 247 rfl (by decide) rfl rfl ?_
              refine g_iconst X dX9_tour_247 248 rfl (v := (nI (0))) rfl ?_
              refine g_istore X (lv' := [(0, .ref (kad K (0))), (1, .int (nI (f))), (2, .int (nI (full))), (3, .int (nI 1)), (4, .int (nI 0))]) dX9_tour_248 250 rfl (by decide) rfl rfl ?_
              refine g_aload_n X dX9_tour_250 251 rfl rfl ?_
              refine g_get (c := 0) (k := 25) (T := TX9) (sk := skM0) (v := .ref (kad K (19))) X wf_X9_75 inX9 dX9_tour_251 254 rfl (by decide) rfl rfl (by decide) rfl ?_
              refine g_iconst X dX9_tour_254 255 rfl (v := (nI (0))) rfl ?_
              refine g_aload_n X dX9_tour_255 256 rfl rfl ?_
              refine g_get (c := 0) (k := 19) (T := TX9) (sk := skM0) (v := .ref (kad K (14))) X wf_X9_60 inX9 dX9_tour_256 259 rfl (by decide) rfl rfl (by decide) rfl ?_
              refine g_iconst X dX9_tour_259 260 rfl (v := (nI (0))) rfl ?_
              refine g_iald (c := 14) (n := 24) (r := 14) (o := 0) (i := 0) (v := (nI (L.getD 0 0))) X dX9_tour_260 261 rfl (by decide) rfl rfl (by omega) (grow_at (by omega) (by omega)) ?_
              refine g_iast (c := 19) (n := 7) (r := 19) (o := 0) (i := 0) X dX9_tour_261 262 rfl (by decide) rfl rfl (by omega) ?_
              refine g_iconst X dX9_tour_262 263 rfl (v := (nI (1))) rfl ?_
              refine g_istore X (lv' := [(0, .ref (kad K (0))), (1, .int (nI (f))), (2, .int (nI (full))), (3, .int (nI 1)), (4, .int (nI 0)), (5, .int (nI 1))]) dX9_tour_263 265 rfl (by decide) rfl rfl ?_
              have lp265 : ∀ (fu : Nat) (u : Nat) (T : Nat → Int32) (hu : u + 1 ≤ L.length) (hT : ∀ j, j < u + 1 → T j = nI (L.getD (trc L.length (scF q (h 3) (h 2) (fun i => L.getD i 0)) j).2 0)), L.length - u < fu → G 25 ML 8 K (mrow (mup (mrow (mrow (mup h 0 18 (nI (L.length))) 14 (grow L 24 (h 14))) 18 E) 0 24 (nI (L.length))) 19 T) 265 [(0, .ref (kad K (0))), (1, .int (nI (f))), (2, .int (nI (full))), (3, .int (nI ((trc L.length (scF q (h 3) (h 2) (fun i => L.getD i 0)) u).1))), (4, .int (nI ((trc L.length (scF q (h 3) (h 2) (fun i => L.getD i 0)) u).2))), (5, .int (nI (u + 1)))] [] := by
                intro fu
                induction fu with
                | zero => intro u T hu hT hm; exact absurd hm (Nat.not_lt_zero _)
                | succ fu ih265 =>
                  intro u T hu hT hm265
                  refine g_iload X dX9_tour_265 267 rfl rfl ?_
                  refine g_aload_n X dX9_tour_267 268 rfl rfl ?_
                  refine g_get (c := 0) (k := 18) (T := TX9) (sk := skM0) (v := .int (nI (L.length))) X wf_X9_176 inX9 dX9_tour_268 271 rfl (by decide) rfl rfl (by decide) rfl ?_
                  refine g_icmp_ge X ((u + 1 : Nat) : Int) ((L.length : Nat) : Int) dX9_tour_271 385 (by decide) 274 rfl (nI_toInt (by omega)) (nI_toInt (by omega)) (fun t271 => ?_) (fun f271 => ?_)
                  · skip
                    refine g_aload_n X dX9_tour_385 386 rfl rfl ?_
                    refine g_get (c := 0) (k := 23) (T := TX9) (sk := skM0) (v := .ref (kad K (18))) X wf_X9_72 inX9 dX9_tour_386 389 rfl (by decide) rfl rfl (by decide) rfl ?_
                    refine g_bipush X dX9_tour_389 391 rfl (v := (nI (7))) rfl ?_
                    refine g_iald (c := 18) (n := 896) (r := 18) (o := 0) (i := 7) (v := (zI (eI L.length (scF q (h 3) (h 2) (fun i => L.getD i 0)) 1 0))) X dX9_tour_391 392 rfl (by decide) rfl rfl (by omega) (hE 1 (by omega) (by omega) 0 (by omega)) ?_
                    refine g_iret (h := (mrow (mup (mrow (mrow (mup h 0 18 (nI (L.length))) 14 (grow L 24 (h 14))) 18 E) 0 24 (nI (L.length))) 19 T)) (v := (zI (eI L.length (scF q (h 3) (h 2) (fun i => L.getD i 0)) 1 0))) X Z dX9_tour_392 ?_
                    exact ⟨fun _ => by rw [ef, ← hL]; exact Or.inr (Or.inr ⟨by omega, by omega, rfl, rfl, fun j hj => (congrFun (mrow_s _ _ _) j).trans (hT j (by omega))⟩), fun z => absurd t13 z, mag_w (show mag h _ [14, 18, 19] [18, 24] from ⟨fun c c0 hc9 => by simp at hc9; rw [mrow_n _ _ (by omega), mup_n _ _ c0, mrow_n _ _ (by omega)]; exact (list_mag h _ _).1 c c0 (by simp; omega), fun j hj => by simp at hj; rw [mrow_n _ _ (by decide), mup_s, if_neg hj.2, mrow_n _ _ (by decide)]; exact (list_mag h _ _).2 j (by simp; omega)⟩) (by decide) (by decide)⟩
                  · skip
                    obtain ⟨hr0, hr1, hr2, -, hr3⟩ := trc_ok (size := L.length) (sc := (scF q (h 3) (h 2) (fun i => L.getD i 0))) (by omega) (by omega) (fun a b => Nat.le_trans (scF_le _ _ _ _ _ _) hq2) u (by omega)
                    obtain ⟨hr4, hX1, hX2, hX3⟩ := hr3 (by omega)
                    refine g_iconst X dX9_tour_274 275 rfl (v := (nI (0))) rfl ?_
                    refine g_istore X (lv' := [(0, .ref (kad K (0))), (1, .int (nI (f))), (2, .int (nI (full))), (3, .int (nI ((trc L.length (scF q (h 3) (h 2) (fun i => L.getD i 0)) u).1))), (4, .int (nI ((trc L.length (scF q (h 3) (h 2) (fun i => L.getD i 0)) u).2))), (5, .int (nI (u + 1))), (6, .int (nI 0))]) dX9_tour_275 277 rfl (by decide) rfl rfl ?_
                    have lp277 : ∀ (fu : Nat) (x : Nat) (hxx : x ≤ (trc L.length (scF q (h 3) (h 2) (fun i => L.getD i 0)) (u + 1)).2), L.length - x < fu → G 25 ML 8 K (mrow (mup (mrow (mrow (mup h 0 18 (nI (L.length))) 14 (grow L 24 (h 14))) 18 E) 0 24 (nI (L.length))) 19 T) 277 [(0, .ref (kad K (0))), (1, .int (nI (f))), (2, .int (nI (full))), (3, .int (nI ((trc L.length (scF q (h 3) (h 2) (fun i => L.getD i 0)) u).1))), (4, .int (nI ((trc L.length (scF q (h 3) (h 2) (fun i => L.getD i 0)) u).2))), (5, .int (nI (u + 1))), (6, .int (nI (x)))] [] := by
                      intro fu
                      induction fu with
                      | zero => intro x hxx hm; exact absurd hm (Nat.not_lt_zero _)
                      | succ fu ih277 =>
                        intro x hxx hm277
                        refine g_iload_n X dX9_tour_277 278 rfl rfl ?_
                        refine g_iload X dX9_tour_278 280 rfl rfl ?_
                        refine g_ishr X (v := ((nI ((trc L.length (scF q (h 3) (h 2) (fun i => L.getD i 0)) u).1)) >>> ((nI (x)) &&& 31))) dX9_tour_280 281 rfl rfl ?_
                        refine g_iconst X dX9_tour_281 282 rfl (v := (nI (1))) rfl ?_
                        refine g_iand X (v := (nI (if (trc L.length (scF q (h 3) (h 2) (fun i => L.getD i 0)) u).1.testBit x then 1 else 0))) dX9_tour_282 283 rfl (nI_bit (by omega) (by omega)) ?_
                        refine g_iconst X dX9_tour_283 284 rfl (v := (nI (1))) rfl ?_
                        refine g_icmp_eq X ((if (trc L.length (scF q (h 3) (h 2) (fun i => L.getD i 0)) u).1.testBit x then 1 else 0 : Nat) : Int) 1 dX9_tour_284 348 (by decide) 287 rfl (nI_toInt (by split <;> omega)) rfl (fun t284 => ?_) (fun f284 => ?_)
                        · skip
                          refine g_iinc X (v := (nI (x + 1))) (lv' := [(0, .ref (kad K (0))), (1, .int (nI (f))), (2, .int (nI (full))), (3, .int (nI ((trc L.length (scF q (h 3) (h 2) (fun i => L.getD i 0)) u).1))), (4, .int (nI ((trc L.length (scF q (h 3) (h 2) (fun i => L.getD i 0)) u).2))), (5, .int (nI (u + 1))), (6, .int (nI (x + 1)))]) dX9_tour_348 351 rfl (by decide) rfl (n_inc x 1) rfl rfl ?_
                          refine g_goto X dX9_tour_351 277 (by decide) ?_
                          skip
                          exact ih277 (x + 1) (by
                                        rcases Nat.lt_or_eq_of_le hxx with z | z
                                        · exact z
                                        · have y := (prB_t.mp hX2).1
                                          rw [← z] at y
                                          rw [y] at t284
                                          exact absurd t284 (by decide)) (by omega)
                        · skip
                          have hl1 := hLm (trc L.length (scF q (h 3) (h 2) (fun i => L.getD i 0)) u).2 (by omega)
                          have hl2 := hLm x (by omega)
                          have hk1 := (hc _ hl1).co.2
                          have hk2 := (hc _ hl2).ci.2
                          have hap := apt_le q (tn (h 3 (L.getD (trc L.length (scF q (h 3) (h 2) (fun i => L.getD i 0)) u).2 0))) (tn (h 2 (L.getD x 0)))
                          have hbit : (trc L.length (scF q (h 3) (h 2) (fun i => L.getD i 0)) u).1.testBit x = false := by
                            cases hz : (trc L.length (scF q (h 3) (h 2) (fun i => L.getD i 0)) u).1.testBit x with
                            | false => rfl
                            | true => rw [hz] at f284; exact absurd rfl f284
                          have hog := or_gt hbit
                          have hoi : (trc L.length (scF q (h 3) (h 2) (fun i => L.getD i 0)) u).1 ||| 2 ^ x ≤ 2 ^ L.length - 1 := or_in (by omega) (by omega)
                          have hb1 := eI_bd (sc := (scF q (h 3) (h 2) (fun i => L.getD i 0))) (last := x) (show L.length < 8 by omega) (fun a b => Nat.le_trans (scF_le _ _ _ _ _ _) hq2) hoi
                          have hb3 := eI_bd (sc := (scF q (h 3) (h 2) (fun i => L.getD i 0))) (last := (trc L.length (scF q (h 3) (h 2) (fun i => L.getD i 0)) u).2) (show L.length < 8 by omega) (fun a b => Nat.le_trans (scF_le _ _ _ _ _ _) hq2) hr1
                          refine g_aload_n X dX9_tour_287 288 rfl rfl ?_
                          refine g_aload_n X dX9_tour_288 289 rfl rfl ?_
                          refine g_get (c := 0) (k := 6) (T := TX9) (sk := skM0) (v := .ref (kad K (3))) X wf_X9_26 inX9 dX9_tour_289 292 rfl (by decide) rfl rfl (by decide) rfl ?_
                          refine g_aload_n X dX9_tour_292 293 rfl rfl ?_
                          refine g_get (c := 0) (k := 19) (T := TX9) (sk := skM0) (v := .ref (kad K (14))) X wf_X9_60 inX9 dX9_tour_293 296 rfl (by decide) rfl rfl (by decide) rfl ?_
                          refine g_iload X dX9_tour_296 298 rfl rfl ?_
                          refine g_iald (c := 14) (n := 24) (r := 14) (o := 0) (i := (trc L.length (scF q (h 3) (h 2) (fun i => L.getD i 0)) u).2) (v := (nI (L.getD ((trc L.length (scF q (h 3) (h 2) (fun i => L.getD i 0)) u).2) 0))) X dX9_tour_298 299 rfl (by decide) rfl rfl (by omega) (grow_at (by omega) (by omega)) ?_
                          refine g_iald (c := 3) (n := 24) (r := 3) (o := 0) (i := L.getD ((trc L.length (scF q (h 3) (h 2) (fun i => L.getD i 0)) u).2) 0) (v := (nI (tn (h 3 (L.getD ((trc L.length (scF q (h 3) (h 2) (fun i => L.getD i 0)) u).2) 0))))) X dX9_tour_299 300 rfl (by decide) rfl rfl (by omega) ((hc _ (hLm _ (by omega))).co.1) ?_
                          refine g_aload_n X dX9_tour_300 301 rfl rfl ?_
                          refine g_get (c := 0) (k := 5) (T := TX9) (sk := skM0) (v := .ref (kad K (2))) X wf_X9_23 inX9 dX9_tour_301 304 rfl (by decide) rfl rfl (by decide) rfl ?_
                          refine g_aload_n X dX9_tour_304 305 rfl rfl ?_
                          refine g_get (c := 0) (k := 19) (T := TX9) (sk := skM0) (v := .ref (kad K (14))) X wf_X9_60 inX9 dX9_tour_305 308 rfl (by decide) rfl rfl (by decide) rfl ?_
                          refine g_iload X dX9_tour_308 310 rfl rfl ?_
                          refine g_iald (c := 14) (n := 24) (r := 14) (o := 0) (i := x) (v := (nI (L.getD x 0))) X dX9_tour_310 311 rfl (by decide) rfl rfl (by omega) (grow_at (by omega) (by omega)) ?_
                          refine g_iald (c := 2) (n := 24) (r := 2) (o := 0) (i := L.getD x 0) (v := (nI (tn (h 2 (L.getD x 0))))) X dX9_tour_311 312 rfl (by decide) rfl rfl (by omega) ((hc _ (hLm _ (by omega))).ci.1) ?_
                          refine g_callVix (st := []) (v := (nI (apt q (tn (h 3 (L.getD ((trc L.length (scF q (h 3) (h 2) (fun i => L.getD i 0)) u).2) 0))) (tn (h 2 (L.getD x 0)))))) (m2 := (mrow (mup (mrow (mrow (mup h 0 18 (nI (L.length))) 14 (grow L 24 (h 14))) 18 E) 0 24 (nI (L.length))) 19 T)) X cw_X9_189 (c_M_apart (mrow (mup (mrow (mrow (mup h 0 18 (nI (L.length))) 14 (grow L 24 (h 14))) 18 E) 0 24 (nI (L.length))) 19 T) q (tn (h 3 (L.getD ((trc L.length (scF q (h 3) (h 2) (fun i => L.getD i 0)) u).2) 0))) (tn (h 2 (L.getD x 0))) hq (by omega) (by omega) (by omega)) dX9_tour_312 315 rfl (by decide) rfl rfl rfl rfl rfl (by decide) (Nat.le_of_ble_eq_true rfl) ?_
                          refine g_aload_n X dX9_tour_315 316 rfl rfl ?_
                          refine g_get (c := 0) (k := 23) (T := TX9) (sk := skM0) (v := .ref (kad K (18))) X wf_X9_72 inX9 dX9_tour_316 319 rfl (by decide) rfl rfl (by decide) rfl ?_
                          refine g_bipush X dX9_tour_319 321 rfl (v := (nI (7))) rfl ?_
                          refine g_iload_n X dX9_tour_321 322 rfl rfl ?_
                          refine g_iconst X dX9_tour_322 323 rfl (v := (nI (1))) rfl ?_
                          refine g_iload X dX9_tour_323 325 rfl rfl ?_
                          refine g_ishl X (v := (nI (2 ^ x))) dX9_tour_325 326 rfl (nI_shl1 (by omega)) ?_
                          refine g_ior X (v := (nI ((trc L.length (scF q (h 3) (h 2) (fun i => L.getD i 0)) u).1 ||| 2 ^ x))) dX9_tour_326 327 rfl (nI_or _ _) ?_
                          refine g_imul X (v := (nI (7 * ((trc L.length (scF q (h 3) (h 2) (fun i => L.getD i 0)) u).1 ||| 2 ^ x)))) dX9_tour_327 328 rfl (pk_mul 7 ((trc L.length (scF q (h 3) (h 2) (fun i => L.getD i 0)) u).1 ||| 2 ^ x)) ?_
                          refine g_iload X dX9_tour_328 330 rfl rfl ?_
                          refine g_iadd X (v := (nI ((7 * ((trc L.length (scF q (h 3) (h 2) (fun i => L.getD i 0)) u).1 ||| 2 ^ x)) + x))) dX9_tour_330 331 rfl (nI_add (7 * ((trc L.length (scF q (h 3) (h 2) (fun i => L.getD i 0)) u).1 ||| 2 ^ x)) x) ?_
                          refine g_iald (c := 18) (n := 896) (r := 18) (o := 0) (i := (7 * ((trc L.length (scF q (h 3) (h 2) (fun i => L.getD i 0)) u).1 ||| 2 ^ x)) + x) (v := (zI (eI L.length (scF q (h 3) (h 2) (fun i => L.getD i 0)) ((trc L.length (scF q (h 3) (h 2) (fun i => L.getD i 0)) u).1 ||| 2 ^ x) x))) X dX9_tour_331 332 rfl (by decide) rfl rfl (by omega) (hE _ (by omega) (by omega) x (by omega)) ?_
                          refine g_iadd X (v := (zI (((apt q (tn (h 3 (L.getD (trc L.length (scF q (h 3) (h 2) (fun i => L.getD i 0)) u).2 0))) (tn (h 2 (L.getD x 0))) : Nat) : Int) + eI L.length (scF q (h 3) (h 2) (fun i => L.getD i 0)) ((trc L.length (scF q (h 3) (h 2) (fun i => L.getD i 0)) u).1 ||| 2 ^ x) x))) dX9_tour_332 333 rfl (nz_add _ _) ?_
                          refine g_aload_n X dX9_tour_333 334 rfl rfl ?_
                          refine g_get (c := 0) (k := 23) (T := TX9) (sk := skM0) (v := .ref (kad K (18))) X wf_X9_72 inX9 dX9_tour_334 337 rfl (by decide) rfl rfl (by decide) rfl ?_
                          refine g_bipush X dX9_tour_337 339 rfl (v := (nI (7))) rfl ?_
                          refine g_iload_n X dX9_tour_339 340 rfl rfl ?_
                          refine g_imul X (v := (nI (7 * ((trc L.length (scF q (h 3) (h 2) (fun i => L.getD i 0)) u).1)))) dX9_tour_340 341 rfl (pk_mul 7 ((trc L.length (scF q (h 3) (h 2) (fun i => L.getD i 0)) u).1)) ?_
                          refine g_iload X dX9_tour_341 343 rfl rfl ?_
                          refine g_iadd X (v := (nI ((7 * ((trc L.length (scF q (h 3) (h 2) (fun i => L.getD i 0)) u).1)) + ((trc L.length (scF q (h 3) (h 2) (fun i => L.getD i 0)) u).2)))) dX9_tour_343 344 rfl (nI_add (7 * ((trc L.length (scF q (h 3) (h 2) (fun i => L.getD i 0)) u).1)) ((trc L.length (scF q (h 3) (h 2) (fun i => L.getD i 0)) u).2)) ?_
                          refine g_iald (c := 18) (n := 896) (r := 18) (o := 0) (i := (7 * ((trc L.length (scF q (h 3) (h 2) (fun i => L.getD i 0)) u).1)) + ((trc L.length (scF q (h 3) (h 2) (fun i => L.getD i 0)) u).2)) (v := (zI (eI L.length (scF q (h 3) (h 2) (fun i => L.getD i 0)) (trc L.length (scF q (h 3) (h 2) (fun i => L.getD i 0)) u).1 (trc L.length (scF q (h 3) (h 2) (fun i => L.getD i 0)) u).2))) X dX9_tour_344 345 rfl (by decide) rfl rfl (by omega) (hE _ (by omega) (by omega) _ (by omega)) ?_
                          refine g_icmp_eq X (((apt q (tn (h 3 (L.getD (trc L.length (scF q (h 3) (h 2) (fun i => L.getD i 0)) u).2 0))) (tn (h 2 (L.getD x 0))) : Nat) : Int) + eI L.length (scF q (h 3) (h 2) (fun i => L.getD i 0)) ((trc L.length (scF q (h 3) (h 2) (fun i => L.getD i 0)) u).1 ||| 2 ^ x) x) (eI L.length (scF q (h 3) (h 2) (fun i => L.getD i 0)) (trc L.length (scF q (h 3) (h 2) (fun i => L.getD i 0)) u).1 (trc L.length (scF q (h 3) (h 2) (fun i => L.getD i 0)) u).2) dX9_tour_345 354 (by decide) 348 rfl (zI_toInt (by omega)) (zI_toInt (by omega)) (fun t345 => ?_) (fun f345 => ?_)
                          · skip
                            have hxX : x = (trc L.length (scF q (h 3) (h 2) (fun i => L.getD i 0)) (u + 1)).2 := by
                              rcases Nat.lt_or_eq_of_le hxx with z | z
                              · exact absurd (prB_t.mpr ⟨hbit, t345⟩) (hX3 x z)
                              · exact z
                            refine g_aload_n X dX9_tour_354 355 rfl rfl ?_
                            refine g_get (c := 0) (k := 25) (T := TX9) (sk := skM0) (v := .ref (kad K (19))) X wf_X9_75 inX9 dX9_tour_355 358 rfl (by decide) rfl rfl (by decide) rfl ?_
                            refine g_iload X dX9_tour_358 360 rfl rfl ?_
                            refine g_aload_n X dX9_tour_360 361 rfl rfl ?_
                            refine g_get (c := 0) (k := 19) (T := TX9) (sk := skM0) (v := .ref (kad K (14))) X wf_X9_60 inX9 dX9_tour_361 364 rfl (by decide) rfl rfl (by decide) rfl ?_
                            refine g_iload X dX9_tour_364 366 rfl rfl ?_
                            refine g_iald (c := 14) (n := 24) (r := 14) (o := 0) (i := x) (v := (nI (L.getD x 0))) X dX9_tour_366 367 rfl (by decide) rfl rfl (by omega) (grow_at (by omega) (by omega)) ?_
                            refine g_iast (c := 19) (n := 7) (r := 19) (o := 0) (i := u + 1) X dX9_tour_367 368 rfl (by decide) rfl rfl (by omega) ?_
                            refine g_iload_n X dX9_tour_368 369 rfl rfl ?_
                            refine g_iconst X dX9_tour_369 370 rfl (v := (nI (1))) rfl ?_
                            refine g_iload X dX9_tour_370 372 rfl rfl ?_
                            refine g_ishl X (v := (nI (2 ^ x))) dX9_tour_372 373 rfl (nI_shl1 (by omega)) ?_
                            refine g_ior X (v := (nI ((trc L.length (scF q (h 3) (h 2) (fun i => L.getD i 0)) u).1 ||| 2 ^ x))) dX9_tour_373 374 rfl (nI_or _ _) ?_
                            refine g_istore_n X (lv' := [(0, .ref (kad K (0))), (1, .int (nI (f))), (2, .int (nI (full))), (3, .int (nI ((trc L.length (scF q (h 3) (h 2) (fun i => L.getD i 0)) u).1 ||| 2 ^ x))), (4, .int (nI ((trc L.length (scF q (h 3) (h 2) (fun i => L.getD i 0)) u).2))), (5, .int (nI (u + 1))), (6, .int (nI (x)))]) dX9_tour_374 375 rfl (by decide) rfl rfl ?_
                            refine g_iload X dX9_tour_375 377 rfl rfl ?_
                            refine g_istore X (lv' := [(0, .ref (kad K (0))), (1, .int (nI (f))), (2, .int (nI (full))), (3, .int (nI ((trc L.length (scF q (h 3) (h 2) (fun i => L.getD i 0)) u).1 ||| 2 ^ x))), (4, .int (nI (x))), (5, .int (nI (u + 1))), (6, .int (nI (x)))]) dX9_tour_377 379 rfl (by decide) rfl rfl ?_
                            refine g_eq (lv' := [(0, .ref (kad K (0))), (1, .int (nI (f))), (2, .int (nI (full))), (3, .int (nI ((trc L.length (scF q (h 3) (h 2) (fun i => L.getD i 0)) (u + 1)).1))), (4, .int (nI ((trc L.length (scF q (h 3) (h 2) (fun i => L.getD i 0)) (u + 1)).2))), (5, .int (nI (u + 1))), (6, .int (nI (x)))]) rfl (by rw [hxX]; rfl) rfl ?_
                            refine g_iinc X (v := (nI (u + 2))) (lv' := [(0, .ref (kad K (0))), (1, .int (nI (f))), (2, .int (nI (full))), (3, .int (nI ((trc L.length (scF q (h 3) (h 2) (fun i => L.getD i 0)) (u + 1)).1))), (4, .int (nI ((trc L.length (scF q (h 3) (h 2) (fun i => L.getD i 0)) (u + 1)).2))), (5, .int (nI (u + 2))), (6, .int (nI (x)))]) dX9_tour_379 382 rfl (by decide) rfl (n_inc (u + 1) 1) rfl rfl ?_
                            refine g_goto X dX9_tour_382 265 (by decide) ?_
                            refine g_sub [0, 1, 2, 3, 4, 5] rfl ?_
                            refine g_mem (h := (mup (mrow (mup (mrow (mrow (mup h 0 18 (nI (L.length))) 14 (grow L 24 (h 14))) 18 E) 0 24 (nI (L.length))) 19 T) 19 (u + 1) (nI (L.getD x 0)))) (h' := (mrow (mup (mrow (mrow (mup h 0 18 (nI (L.length))) 14 (grow L 24 (h 14))) 18 E) 0 24 (nI (L.length))) 19 (upd T (u + 1) (nI (L.getD x 0))))) (by rw [mup_m]) ?_
                            exact ih265 (u + 1) (upd T (u + 1) (nI (L.getD x 0))) (by omega) (fun j hj => if z : j = u + 1 then by rw [z, upd_s, hxX] else by rw [upd_n _ _ (by omega)]; exact hT j (by omega)) (by omega)
                          · skip
                            refine g_iinc X (v := (nI (x + 1))) (lv' := [(0, .ref (kad K (0))), (1, .int (nI (f))), (2, .int (nI (full))), (3, .int (nI ((trc L.length (scF q (h 3) (h 2) (fun i => L.getD i 0)) u).1))), (4, .int (nI ((trc L.length (scF q (h 3) (h 2) (fun i => L.getD i 0)) u).2))), (5, .int (nI (u + 1))), (6, .int (nI (x + 1)))]) dX9_tour_348 351 rfl (by decide) rfl (n_inc x 1) rfl rfl ?_
                            refine g_goto X dX9_tour_351 277 (by decide) ?_
                            skip
                            exact ih277 (x + 1) (by
                                          rcases Nat.lt_or_eq_of_le hxx with z | z
                                          · exact z
                                          · have y := (prB_t.mp hX2).2
                                            rw [← z] at y
                                            exact absurd y f345) (by omega)
                    skip
                    exact lp277 _ 0 (by omega) (Nat.lt_succ_self _)
              skip
              refine g_mem (h := (mup (mup (mrow (mrow (mup h 0 18 (nI (L.length))) 14 (grow L 24 (h 14))) 18 E) 0 24 (nI (L.length))) 19 0 (nI (L.getD 0 0)))) (h' := (mrow (mup (mrow (mrow (mup h 0 18 (nI (L.length))) 14 (grow L 24 (h 14))) 18 E) 0 24 (nI (L.length))) 19 (upd (h 19) 0 (nI (L.getD 0 0))))) (by rw [mup_r]; rfl) ?_
              exact lp265 _ 0 (upd (h 19) 0 (nI (L.getD 0 0))) (by omega) (fun j hj => by rw [show j = 0 from by omega, upd_s]; rfl) (Nat.lt_succ_self _)
            · skip
              refine g_iconst X dX9_tour_60 61 rfl (v := (nI (0))) rfl ?_
              refine g_istore X (lv' := [(0, .ref (kad K (0))), (1, .int (nI (f))), (2, .int (nI (full))), (3, .int (nI (set))), (4, .int (nI 0))]) dX9_tour_61 63 rfl (by decide) rfl rfl ?_
              have lp63 : ∀ (fu : Nat) (b : Nat) (E2 : Nat → Int32) (hb : b ≤ L.length) (hE2 : ∀ s, set < s → s ≤ full → ∀ c, c < L.length → E2 (7 * s + c) = zI (eI L.length (scF q (h 3) (h 2) (fun i => L.getD i 0)) s c)) (hE3 : ∀ c, c < b → E2 (7 * set + c) = zI (eI L.length (scF q (h 3) (h 2) (fun i => L.getD i 0)) set c)), L.length - b < fu → G 25 ML 8 K (mrow (mrow (mup h 0 18 (nI (L.length))) 14 (grow L 24 (h 14))) 18 E2) 63 [(0, .ref (kad K (0))), (1, .int (nI (f))), (2, .int (nI (full))), (3, .int (nI (set))), (4, .int (nI (b)))] [] := by
                intro fu
                induction fu with
                | zero => intro b E2 hb hE2 hE3 hm; exact absurd hm (Nat.not_lt_zero _)
                | succ fu ih63 =>
                  intro b E2 hb hE2 hE3 hm63
                  refine g_iload X dX9_tour_63 65 rfl rfl ?_
                  refine g_aload_n X dX9_tour_65 66 rfl rfl ?_
                  refine g_get (c := 0) (k := 18) (T := TX9) (sk := skM0) (v := .int (nI (L.length))) X wf_X9_176 inX9 dX9_tour_66 69 rfl (by decide) rfl rfl (by decide) rfl ?_
                  refine g_icmp_ge X ((b : Nat) : Int) ((L.length : Nat) : Int) dX9_tour_69 231 (by decide) 72 rfl (nI_toInt (by omega)) (nI_toInt (by omega)) (fun t69 => ?_) (fun f69 => ?_)
                  · skip
                    refine g_iinc X (v := (nI (set - 1))) (lv' := [(0, .ref (kad K (0))), (1, .int (nI (f))), (2, .int (nI (full))), (3, .int (nI (set - 1))), (4, .int (nI (b)))]) dX9_tour_231 234 rfl (by decide) rfl (n_dec (by omega)) rfl rfl ?_
                    refine g_goto X dX9_tour_234 56 (by decide) ?_
                    refine g_sub [0, 1, 2, 3] rfl ?_
                    exact ih56 (set - 1) E2 (by omega) (fun s a b9 c hc9 => if z : s = set then by rw [z]; exact hE3 c (by omega) else hE2 s (by omega) b9 c hc9) (by omega)
                  · skip
                    refine g_iload_n X dX9_tour_72 73 rfl rfl ?_
                    refine g_iload_n X dX9_tour_73 74 rfl rfl ?_
                    refine g_icmp_ne X ((set : Nat) : Int) ((full : Nat) : Int) dX9_tour_74 107 (by decide) 77 rfl (nI_toInt (by omega)) (nI_toInt (by omega)) (fun t74 => ?_) (fun f74 => ?_)
                    · skip
                      refine g_iconst X dX9_tour_107 108 rfl (v := (zI (-1))) rfl ?_
                      refine g_eq (st' := [.int (zI (bsI L.length (scF q (h 3) (h 2) (fun i => L.getD i 0)) set b 0))]) rfl rfl (congrArg (fun y => [Value.int y]) (show _ = zI (bsI L.length (scF q (h 3) (h 2) (fun i => L.getD i 0)) set b 0) from by unfold bsI; rw [if_neg (by omega)]; rfl)) ?_
                      refine g_istore X (lv' := [(0, .ref (kad K (0))), (1, .int (nI (f))), (2, .int (nI (full))), (3, .int (nI (set))), (4, .int (nI (b))), (5, .int (zI (bsI L.length (scF q (h 3) (h 2) (fun i => L.getD i 0)) set b 0)))]) dX9_tour_108 110 rfl (by decide) rfl rfl ?_
                      refine g_iconst X dX9_tour_110 111 rfl (v := (nI (0))) rfl ?_
                      refine g_istore X (lv' := [(0, .ref (kad K (0))), (1, .int (nI (f))), (2, .int (nI (full))), (3, .int (nI (set))), (4, .int (nI (b))), (5, .int (zI (bsI L.length (scF q (h 3) (h 2) (fun i => L.getD i 0)) set b 0))), (6, .int (nI 0))]) dX9_tour_111 113 rfl (by decide) rfl rfl ?_
                      have lp113 : ∀ (fu : Nat) (x : Nat) (hx : x ≤ L.length), L.length - x < fu → G 25 ML 8 K (mrow (mrow (mup h 0 18 (nI (L.length))) 14 (grow L 24 (h 14))) 18 E2) 113 [(0, .ref (kad K (0))), (1, .int (nI (f))), (2, .int (nI (full))), (3, .int (nI (set))), (4, .int (nI (b))), (5, .int (zI (bsI L.length (scF q (h 3) (h 2) (fun i => L.getD i 0)) set b x))), (6, .int (nI (x)))] [] := by
                        intro fu
                        induction fu with
                        | zero => intro x hx hm; exact absurd hm (Nat.not_lt_zero _)
                        | succ fu ih113 =>
                          intro x hx hm113
                          refine g_iload X dX9_tour_113 115 rfl rfl ?_
                          refine g_aload_n X dX9_tour_115 116 rfl rfl ?_
                          refine g_get (c := 0) (k := 18) (T := TX9) (sk := skM0) (v := .int (nI (L.length))) X wf_X9_176 inX9 dX9_tour_116 119 rfl (by decide) rfl rfl (by decide) rfl ?_
                          refine g_icmp_ge X ((x : Nat) : Int) ((L.length : Nat) : Int) dX9_tour_119 211 (by decide) 122 rfl (nI_toInt (by omega)) (nI_toInt (by omega)) (fun t119 => ?_) (fun f119 => ?_)
                          · skip
                            refine g_eq (lv' := [(0, .ref (kad K (0))), (1, .int (nI (f))), (2, .int (nI (full))), (3, .int (nI (set))), (4, .int (nI (b))), (5, .int (zI (eI L.length (scF q (h 3) (h 2) (fun i => L.getD i 0)) set b))), (6, .int (nI (x)))]) rfl (by rw [bsI_e (by omega) (Or.inr (by omega))]) rfl ?_
                            refine g_aload_n X dX9_tour_211 212 rfl rfl ?_
                            refine g_get (c := 0) (k := 23) (T := TX9) (sk := skM0) (v := .ref (kad K (18))) X wf_X9_72 inX9 dX9_tour_212 215 rfl (by decide) rfl rfl (by decide) rfl ?_
                            refine g_bipush X dX9_tour_215 217 rfl (v := (nI (7))) rfl ?_
                            refine g_iload_n X dX9_tour_217 218 rfl rfl ?_
                            refine g_imul X (v := (nI (7 * set))) dX9_tour_218 219 rfl (pk_mul 7 set) ?_
                            refine g_iload X dX9_tour_219 221 rfl rfl ?_
                            refine g_iadd X (v := (nI (7 * set + b))) dX9_tour_221 222 rfl (nI_add (7 * set) b) ?_
                            refine g_iload X dX9_tour_222 224 rfl rfl ?_
                            refine g_iast (c := 18) (n := 896) (r := 18) (o := 0) (i := 7 * set + b) X dX9_tour_224 225 rfl (by decide) rfl rfl (by omega) ?_
                            refine g_iinc X (v := (nI (b + 1))) (lv' := [(0, .ref (kad K (0))), (1, .int (nI (f))), (2, .int (nI (full))), (3, .int (nI (set))), (4, .int (nI (b + 1))), (5, .int (zI (eI L.length (scF q (h 3) (h 2) (fun i => L.getD i 0)) set b))), (6, .int (nI (x)))]) dX9_tour_225 228 rfl (by decide) rfl (n_inc b 1) rfl rfl ?_
                            refine g_goto X dX9_tour_228 63 (by decide) ?_
                            refine g_sub [0, 1, 2, 3, 4] rfl ?_
                            refine g_mem (h := (mup (mrow (mrow (mup h 0 18 (nI (L.length))) 14 (grow L 24 (h 14))) 18 E2) 18 (7 * set + b) (zI (eI L.length (scF q (h 3) (h 2) (fun i => L.getD i 0)) set b)))) (h' := (mrow (mrow (mup h 0 18 (nI (L.length))) 14 (grow L 24 (h 14))) 18 (upd E2 (7 * set + b) (zI (eI L.length (scF q (h 3) (h 2) (fun i => L.getD i 0)) set b))))) (by rw [mup_m]) ?_
                            exact ih63 (b + 1) (upd E2 (7 * set + b) (zI (eI L.length (scF q (h 3) (h 2) (fun i => L.getD i 0)) set b))) (by omega) (fun s a b9 c hc9 => by rw [upd_n _ _ (by omega)]; exact hE2 s a b9 c hc9) (fun c hc9 => if z : c = b then by rw [z, upd_s] else by rw [upd_n _ _ (by omega)]; exact hE3 c (by omega)) (by omega)
                          · skip
                            refine g_iload_n X dX9_tour_122 123 rfl rfl ?_
                            refine g_iload_n X dX9_tour_123 124 rfl rfl ?_
                            refine g_icmp_ge X ((set : Nat) : Int) ((full : Nat) : Int) dX9_tour_124 211 (by decide) 127 rfl (nI_toInt (by omega)) (nI_toInt (by omega)) (fun t124 => ?_) (fun f124 => ?_)
                            · skip
                              refine g_eq (lv' := [(0, .ref (kad K (0))), (1, .int (nI (f))), (2, .int (nI (full))), (3, .int (nI (set))), (4, .int (nI (b))), (5, .int (zI (eI L.length (scF q (h 3) (h 2) (fun i => L.getD i 0)) set b))), (6, .int (nI (x)))]) rfl (by rw [bsI_e (by omega) (Or.inl (by omega))]) rfl ?_
                              refine g_aload_n X dX9_tour_211 212 rfl rfl ?_
                              refine g_get (c := 0) (k := 23) (T := TX9) (sk := skM0) (v := .ref (kad K (18))) X wf_X9_72 inX9 dX9_tour_212 215 rfl (by decide) rfl rfl (by decide) rfl ?_
                              refine g_bipush X dX9_tour_215 217 rfl (v := (nI (7))) rfl ?_
                              refine g_iload_n X dX9_tour_217 218 rfl rfl ?_
                              refine g_imul X (v := (nI (7 * set))) dX9_tour_218 219 rfl (pk_mul 7 set) ?_
                              refine g_iload X dX9_tour_219 221 rfl rfl ?_
                              refine g_iadd X (v := (nI (7 * set + b))) dX9_tour_221 222 rfl (nI_add (7 * set) b) ?_
                              refine g_iload X dX9_tour_222 224 rfl rfl ?_
                              refine g_iast (c := 18) (n := 896) (r := 18) (o := 0) (i := 7 * set + b) X dX9_tour_224 225 rfl (by decide) rfl rfl (by omega) ?_
                              refine g_iinc X (v := (nI (b + 1))) (lv' := [(0, .ref (kad K (0))), (1, .int (nI (f))), (2, .int (nI (full))), (3, .int (nI (set))), (4, .int (nI (b + 1))), (5, .int (zI (eI L.length (scF q (h 3) (h 2) (fun i => L.getD i 0)) set b))), (6, .int (nI (x)))]) dX9_tour_225 228 rfl (by decide) rfl (n_inc b 1) rfl rfl ?_
                              refine g_goto X dX9_tour_228 63 (by decide) ?_
                              refine g_sub [0, 1, 2, 3, 4] rfl ?_
                              refine g_mem (h := (mup (mrow (mrow (mup h 0 18 (nI (L.length))) 14 (grow L 24 (h 14))) 18 E2) 18 (7 * set + b) (zI (eI L.length (scF q (h 3) (h 2) (fun i => L.getD i 0)) set b)))) (h' := (mrow (mrow (mup h 0 18 (nI (L.length))) 14 (grow L 24 (h 14))) 18 (upd E2 (7 * set + b) (zI (eI L.length (scF q (h 3) (h 2) (fun i => L.getD i 0)) set b))))) (by rw [mup_m]) ?_
                              exact ih63 (b + 1) (upd E2 (7 * set + b) (zI (eI L.length (scF q (h 3) (h 2) (fun i => L.getD i 0)) set b))) (by omega) (fun s a b9 c hc9 => by rw [upd_n _ _ (by omega)]; exact hE2 s a b9 c hc9) (fun c hc9 => if z : c = b then by rw [z, upd_s] else by rw [upd_n _ _ (by omega)]; exact hE3 c (by omega)) (by omega)
                            · skip
                              refine g_iload_n X dX9_tour_127 128 rfl rfl ?_
                              refine g_iload X dX9_tour_128 130 rfl rfl ?_
                              refine g_ishr X (v := ((nI (set)) >>> ((nI (x)) &&& 31))) dX9_tour_130 131 rfl rfl ?_
                              refine g_iconst X dX9_tour_131 132 rfl (v := (nI (1))) rfl ?_
                              refine g_iand X (v := (nI (if set.testBit x then 1 else 0))) dX9_tour_132 133 rfl (nI_bit (by omega) (by omega)) ?_
                              refine g_if_ne X ((if set.testBit x then 1 else 0 : Nat) : Int) dX9_tour_133 205 (by decide) 136 rfl (nI_toInt (by split <;> omega)) (fun t133 => ?_) (fun f133 => ?_)
                              · skip
                                have hbit : set.testBit x = true := by
                                  cases hz : set.testBit x with
                                  | true => rfl
                                  | false => rw [hz] at t133; exact absurd rfl t133
                                refine g_eq (lv' := [(0, .ref (kad K (0))), (1, .int (nI (f))), (2, .int (nI (full))), (3, .int (nI (set))), (4, .int (nI (b))), (5, .int (zI (bsI L.length (scF q (h 3) (h 2) (fun i => L.getD i 0)) set b (x + 1)))), (6, .int (nI (x)))]) rfl (by rw [bs_0 (show set < 2 ^ L.length - 1 by omega) hbit]) rfl ?_
                                refine g_iinc X (v := (nI (x + 1))) (lv' := [(0, .ref (kad K (0))), (1, .int (nI (f))), (2, .int (nI (full))), (3, .int (nI (set))), (4, .int (nI (b))), (5, .int (zI (bsI L.length (scF q (h 3) (h 2) (fun i => L.getD i 0)) set b (x + 1)))), (6, .int (nI (x + 1)))]) dX9_tour_205 208 rfl (by decide) rfl (n_inc x 1) rfl rfl ?_
                                refine g_goto X dX9_tour_208 113 (by decide) ?_
                                skip
                                exact ih113 (x + 1) (by omega) (by omega)
                              · skip
                                have hl1 := hLm b (by omega)
                                have hl2 := hLm x (by omega)
                                have hk1 := (hc _ hl1).co.2
                                have hk2 := (hc _ hl2).ci.2
                                have hap := apt_le q (tn (h 3 (L.getD b 0))) (tn (h 2 (L.getD x 0)))
                                have hbit : set.testBit x = false := by
                                  cases hz : set.testBit x with
                                  | false => rfl
                                  | true => rw [hz] at f133; exact absurd f133 (by decide)
                                have hog := or_gt hbit
                                have hoi : set ||| 2 ^ x ≤ 2 ^ L.length - 1 := or_in (by omega) (by omega)
                                have hb1 := eI_bd (sc := (scF q (h 3) (h 2) (fun i => L.getD i 0))) (last := x) (show L.length < 8 by omega) (fun a b => Nat.le_trans (scF_le _ _ _ _ _ _) hq2) hoi
                                have hbs := bsI_bd (sc := (scF q (h 3) (h 2) (fun i => L.getD i 0))) (last := b) (show L.length < 8 by omega) (fun a b => Nat.le_trans (scF_le _ _ _ _ _ _) hq2) (show set ≤ 2 ^ L.length - 1 by omega) hx
                                have hb2 : bsI L.length (scF q (h 3) (h 2) (fun i => L.getD i 0)) set b (x + 1) = (if bsI L.length (scF q (h 3) (h 2) (fun i => L.getD i 0)) set b x < 0 ∨ (((apt q (tn (h 3 (L.getD b 0))) (tn (h 2 (L.getD x 0))) : Nat) : Int) + eI L.length (scF q (h 3) (h 2) (fun i => L.getD i 0)) (set ||| 2 ^ x) x) < bsI L.length (scF q (h 3) (h 2) (fun i => L.getD i 0)) set b x then (((apt q (tn (h 3 (L.getD b 0))) (tn (h 2 (L.getD x 0))) : Nat) : Int) + eI L.length (scF q (h 3) (h 2) (fun i => L.getD i 0)) (set ||| 2 ^ x) x) else bsI L.length (scF q (h 3) (h 2) (fun i => L.getD i 0)) set b x) := bs_1 (sc := (scF q (h 3) (h 2) (fun i => L.getD i 0))) (last := b) (show set < 2 ^ L.length - 1 by omega) hbit
                                refine g_aload_n X dX9_tour_136 137 rfl rfl ?_
                                refine g_aload_n X dX9_tour_137 138 rfl rfl ?_
                                refine g_get (c := 0) (k := 6) (T := TX9) (sk := skM0) (v := .ref (kad K (3))) X wf_X9_26 inX9 dX9_tour_138 141 rfl (by decide) rfl rfl (by decide) rfl ?_
                                refine g_aload_n X dX9_tour_141 142 rfl rfl ?_
                                refine g_get (c := 0) (k := 19) (T := TX9) (sk := skM0) (v := .ref (kad K (14))) X wf_X9_60 inX9 dX9_tour_142 145 rfl (by decide) rfl rfl (by decide) rfl ?_
                                refine g_iload X dX9_tour_145 147 rfl rfl ?_
                                refine g_iald (c := 14) (n := 24) (r := 14) (o := 0) (i := b) (v := (nI (L.getD b 0))) X dX9_tour_147 148 rfl (by decide) rfl rfl (by omega) (grow_at (by omega) (by omega)) ?_
                                refine g_iald (c := 3) (n := 24) (r := 3) (o := 0) (i := L.getD b 0) (v := (nI (tn (h 3 (L.getD b 0))))) X dX9_tour_148 149 rfl (by decide) rfl rfl (by omega) ((hc _ (hLm _ (by omega))).co.1) ?_
                                refine g_aload_n X dX9_tour_149 150 rfl rfl ?_
                                refine g_get (c := 0) (k := 5) (T := TX9) (sk := skM0) (v := .ref (kad K (2))) X wf_X9_23 inX9 dX9_tour_150 153 rfl (by decide) rfl rfl (by decide) rfl ?_
                                refine g_aload_n X dX9_tour_153 154 rfl rfl ?_
                                refine g_get (c := 0) (k := 19) (T := TX9) (sk := skM0) (v := .ref (kad K (14))) X wf_X9_60 inX9 dX9_tour_154 157 rfl (by decide) rfl rfl (by decide) rfl ?_
                                refine g_iload X dX9_tour_157 159 rfl rfl ?_
                                refine g_iald (c := 14) (n := 24) (r := 14) (o := 0) (i := x) (v := (nI (L.getD x 0))) X dX9_tour_159 160 rfl (by decide) rfl rfl (by omega) (grow_at (by omega) (by omega)) ?_
                                refine g_iald (c := 2) (n := 24) (r := 2) (o := 0) (i := L.getD x 0) (v := (nI (tn (h 2 (L.getD x 0))))) X dX9_tour_160 161 rfl (by decide) rfl rfl (by omega) ((hc _ (hLm _ (by omega))).ci.1) ?_
                                refine g_callVix (st := []) (v := (nI (apt q (tn (h 3 (L.getD b 0))) (tn (h 2 (L.getD x 0)))))) (m2 := (mrow (mrow (mup h 0 18 (nI (L.length))) 14 (grow L 24 (h 14))) 18 E2)) X cw_X9_189 (c_M_apart (mrow (mrow (mup h 0 18 (nI (L.length))) 14 (grow L 24 (h 14))) 18 E2) q (tn (h 3 (L.getD b 0))) (tn (h 2 (L.getD x 0))) hq (by omega) (by omega) (by omega)) dX9_tour_161 164 rfl (by decide) rfl rfl rfl rfl rfl (by decide) (Nat.le_of_ble_eq_true rfl) ?_
                                refine g_aload_n X dX9_tour_164 165 rfl rfl ?_
                                refine g_get (c := 0) (k := 23) (T := TX9) (sk := skM0) (v := .ref (kad K (18))) X wf_X9_72 inX9 dX9_tour_165 168 rfl (by decide) rfl rfl (by decide) rfl ?_
                                refine g_bipush X dX9_tour_168 170 rfl (v := (nI (7))) rfl ?_
                                refine g_iload_n X dX9_tour_170 171 rfl rfl ?_
                                refine g_iconst X dX9_tour_171 172 rfl (v := (nI (1))) rfl ?_
                                refine g_iload X dX9_tour_172 174 rfl rfl ?_
                                refine g_ishl X (v := (nI (2 ^ x))) dX9_tour_174 175 rfl (nI_shl1 (by omega)) ?_
                                refine g_ior X (v := (nI (set ||| 2 ^ x))) dX9_tour_175 176 rfl (nI_or _ _) ?_
                                refine g_imul X (v := (nI (7 * (set ||| 2 ^ x)))) dX9_tour_176 177 rfl (pk_mul 7 (set ||| 2 ^ x)) ?_
                                refine g_iload X dX9_tour_177 179 rfl rfl ?_
                                refine g_iadd X (v := (nI ((7 * (set ||| 2 ^ x)) + x))) dX9_tour_179 180 rfl (nI_add (7 * (set ||| 2 ^ x)) x) ?_
                                refine g_iald (c := 18) (n := 896) (r := 18) (o := 0) (i := (7 * (set ||| 2 ^ x)) + x) (v := (zI (eI L.length (scF q (h 3) (h 2) (fun i => L.getD i 0)) (set ||| 2 ^ x) x))) X dX9_tour_180 181 rfl (by decide) rfl rfl (by omega) (hE2 _ hog (by omega) x (by omega)) ?_
                                refine g_iadd X (v := (zI (((apt q (tn (h 3 (L.getD b 0))) (tn (h 2 (L.getD x 0))) : Nat) : Int) + eI L.length (scF q (h 3) (h 2) (fun i => L.getD i 0)) (set ||| 2 ^ x) x))) dX9_tour_181 182 rfl (nz_add _ _) ?_
                                refine g_istore X (lv' := [(0, .ref (kad K (0))), (1, .int (nI (f))), (2, .int (nI (full))), (3, .int (nI (set))), (4, .int (nI (b))), (5, .int (zI (bsI L.length (scF q (h 3) (h 2) (fun i => L.getD i 0)) set b x))), (6, .int (nI (x))), (7, .int (zI (((apt q (tn (h 3 (L.getD b 0))) (tn (h 2 (L.getD x 0))) : Nat) : Int) + eI L.length (scF q (h 3) (h 2) (fun i => L.getD i 0)) (set ||| 2 ^ x) x)))]) dX9_tour_182 184 rfl (by decide) rfl rfl ?_
                                refine g_iload X dX9_tour_184 186 rfl rfl ?_
                                refine g_if_lt X (bsI L.length (scF q (h 3) (h 2) (fun i => L.getD i 0)) set b x) dX9_tour_186 196 (by decide) 189 rfl (zI_toInt (by omega)) (fun t186 => ?_) (fun f186 => ?_)
                                · skip
                                  refine g_iload X dX9_tour_196 198 rfl rfl ?_
                                  refine g_goto X dX9_tour_198 203 (by decide) ?_
                                  refine g_eq (st' := [.int (zI (bsI L.length (scF q (h 3) (h 2) (fun i => L.getD i 0)) set b (x + 1)))]) rfl rfl (by rw [hb2, if_pos (Or.inl t186)]) ?_
                                  refine g_istore X (lv' := [(0, .ref (kad K (0))), (1, .int (nI (f))), (2, .int (nI (full))), (3, .int (nI (set))), (4, .int (nI (b))), (5, .int (zI (bsI L.length (scF q (h 3) (h 2) (fun i => L.getD i 0)) set b (x + 1)))), (6, .int (nI (x))), (7, .int (zI (((apt q (tn (h 3 (L.getD b 0))) (tn (h 2 (L.getD x 0))) : Nat) : Int) + eI L.length (scF q (h 3) (h 2) (fun i => L.getD i 0)) (set ||| 2 ^ x) x)))]) dX9_tour_203 205 rfl (by decide) rfl rfl ?_
                                  skip
                                  refine g_iinc X (v := (nI (x + 1))) (lv' := [(0, .ref (kad K (0))), (1, .int (nI (f))), (2, .int (nI (full))), (3, .int (nI (set))), (4, .int (nI (b))), (5, .int (zI (bsI L.length (scF q (h 3) (h 2) (fun i => L.getD i 0)) set b (x + 1)))), (6, .int (nI (x + 1))), (7, .int (zI (((apt q (tn (h 3 (L.getD b 0))) (tn (h 2 (L.getD x 0))) : Nat) : Int) + eI L.length (scF q (h 3) (h 2) (fun i => L.getD i 0)) (set ||| 2 ^ x) x)))]) dX9_tour_205 208 rfl (by decide) rfl (n_inc x 1) rfl rfl ?_
                                  refine g_goto X dX9_tour_208 113 (by decide) ?_
                                  refine g_sub [0, 1, 2, 3, 4, 5, 6] rfl ?_
                                  exact ih113 (x + 1) (by omega) (by omega)
                                · skip
                                  refine g_iload X dX9_tour_189 191 rfl rfl ?_
                                  refine g_iload X dX9_tour_191 193 rfl rfl ?_
                                  refine g_icmp_ge X (((apt q (tn (h 3 (L.getD b 0))) (tn (h 2 (L.getD x 0))) : Nat) : Int) + eI L.length (scF q (h 3) (h 2) (fun i => L.getD i 0)) (set ||| 2 ^ x) x) (bsI L.length (scF q (h 3) (h 2) (fun i => L.getD i 0)) set b x) dX9_tour_193 201 (by decide) 196 rfl (zI_toInt (by omega)) (zI_toInt (by omega)) (fun t193 => ?_) (fun f193 => ?_)
                                  · skip
                                    refine g_iload X dX9_tour_201 203 rfl rfl ?_
                                    refine g_eq (st' := [.int (zI (bsI L.length (scF q (h 3) (h 2) (fun i => L.getD i 0)) set b (x + 1)))]) rfl rfl (by rw [hb2, if_neg (fun z => z.elim f186 (fun y => absurd t193 (Int.not_le.mpr y)))]) ?_
                                    refine g_istore X (lv' := [(0, .ref (kad K (0))), (1, .int (nI (f))), (2, .int (nI (full))), (3, .int (nI (set))), (4, .int (nI (b))), (5, .int (zI (bsI L.length (scF q (h 3) (h 2) (fun i => L.getD i 0)) set b (x + 1)))), (6, .int (nI (x))), (7, .int (zI (((apt q (tn (h 3 (L.getD b 0))) (tn (h 2 (L.getD x 0))) : Nat) : Int) + eI L.length (scF q (h 3) (h 2) (fun i => L.getD i 0)) (set ||| 2 ^ x) x)))]) dX9_tour_203 205 rfl (by decide) rfl rfl ?_
                                    skip
                                    refine g_iinc X (v := (nI (x + 1))) (lv' := [(0, .ref (kad K (0))), (1, .int (nI (f))), (2, .int (nI (full))), (3, .int (nI (set))), (4, .int (nI (b))), (5, .int (zI (bsI L.length (scF q (h 3) (h 2) (fun i => L.getD i 0)) set b (x + 1)))), (6, .int (nI (x + 1))), (7, .int (zI (((apt q (tn (h 3 (L.getD b 0))) (tn (h 2 (L.getD x 0))) : Nat) : Int) + eI L.length (scF q (h 3) (h 2) (fun i => L.getD i 0)) (set ||| 2 ^ x) x)))]) dX9_tour_205 208 rfl (by decide) rfl (n_inc x 1) rfl rfl ?_
                                    refine g_goto X dX9_tour_208 113 (by decide) ?_
                                    refine g_sub [0, 1, 2, 3, 4, 5, 6] rfl ?_
                                    exact ih113 (x + 1) (by omega) (by omega)
                                  · skip
                                    refine g_iload X dX9_tour_196 198 rfl rfl ?_
                                    refine g_goto X dX9_tour_198 203 (by decide) ?_
                                    refine g_eq (st' := [.int (zI (bsI L.length (scF q (h 3) (h 2) (fun i => L.getD i 0)) set b (x + 1)))]) rfl rfl (by rw [hb2, if_pos (Or.inr (Int.not_le.mp f193))]) ?_
                                    refine g_istore X (lv' := [(0, .ref (kad K (0))), (1, .int (nI (f))), (2, .int (nI (full))), (3, .int (nI (set))), (4, .int (nI (b))), (5, .int (zI (bsI L.length (scF q (h 3) (h 2) (fun i => L.getD i 0)) set b (x + 1)))), (6, .int (nI (x))), (7, .int (zI (((apt q (tn (h 3 (L.getD b 0))) (tn (h 2 (L.getD x 0))) : Nat) : Int) + eI L.length (scF q (h 3) (h 2) (fun i => L.getD i 0)) (set ||| 2 ^ x) x)))]) dX9_tour_203 205 rfl (by decide) rfl rfl ?_
                                    skip
                                    refine g_iinc X (v := (nI (x + 1))) (lv' := [(0, .ref (kad K (0))), (1, .int (nI (f))), (2, .int (nI (full))), (3, .int (nI (set))), (4, .int (nI (b))), (5, .int (zI (bsI L.length (scF q (h 3) (h 2) (fun i => L.getD i 0)) set b (x + 1)))), (6, .int (nI (x + 1))), (7, .int (zI (((apt q (tn (h 3 (L.getD b 0))) (tn (h 2 (L.getD x 0))) : Nat) : Int) + eI L.length (scF q (h 3) (h 2) (fun i => L.getD i 0)) (set ||| 2 ^ x) x)))]) dX9_tour_205 208 rfl (by decide) rfl (n_inc x 1) rfl rfl ?_
                                    refine g_goto X dX9_tour_208 113 (by decide) ?_
                                    refine g_sub [0, 1, 2, 3, 4, 5, 6] rfl ?_
                                    exact ih113 (x + 1) (by omega) (by omega)
                      skip
                      exact lp113 _ 0 (by omega) (Nat.lt_succ_self _)
                    · skip
                      have hl1 := hLm b (by omega)
                      have hl2 := hLm 0 (by omega)
                      have hk1 := (hc _ hl1).co.2
                      have hk2 := (hc _ hl2).ci.2
                      have hap := apt_le q (tn (h 3 (L.getD b 0))) (tn (h 2 (L.getD 0 0)))
                      refine g_aload_n X dX9_tour_77 78 rfl rfl ?_
                      refine g_aload_n X dX9_tour_78 79 rfl rfl ?_
                      refine g_get (c := 0) (k := 6) (T := TX9) (sk := skM0) (v := .ref (kad K (3))) X wf_X9_26 inX9 dX9_tour_79 82 rfl (by decide) rfl rfl (by decide) rfl ?_
                      refine g_aload_n X dX9_tour_82 83 rfl rfl ?_
                      refine g_get (c := 0) (k := 19) (T := TX9) (sk := skM0) (v := .ref (kad K (14))) X wf_X9_60 inX9 dX9_tour_83 86 rfl (by decide) rfl rfl (by decide) rfl ?_
                      refine g_iload X dX9_tour_86 88 rfl rfl ?_
                      refine g_iald (c := 14) (n := 24) (r := 14) (o := 0) (i := b) (v := (nI (L.getD b 0))) X dX9_tour_88 89 rfl (by decide) rfl rfl (by omega) (grow_at (by omega) (by omega)) ?_
                      refine g_iald (c := 3) (n := 24) (r := 3) (o := 0) (i := L.getD b 0) (v := (nI (tn (h 3 (L.getD b 0))))) X dX9_tour_89 90 rfl (by decide) rfl rfl (by omega) ((hc _ (hLm _ (by omega))).co.1) ?_
                      refine g_aload_n X dX9_tour_90 91 rfl rfl ?_
                      refine g_get (c := 0) (k := 5) (T := TX9) (sk := skM0) (v := .ref (kad K (2))) X wf_X9_23 inX9 dX9_tour_91 94 rfl (by decide) rfl rfl (by decide) rfl ?_
                      refine g_aload_n X dX9_tour_94 95 rfl rfl ?_
                      refine g_get (c := 0) (k := 19) (T := TX9) (sk := skM0) (v := .ref (kad K (14))) X wf_X9_60 inX9 dX9_tour_95 98 rfl (by decide) rfl rfl (by decide) rfl ?_
                      refine g_iconst X dX9_tour_98 99 rfl (v := (nI (0))) rfl ?_
                      refine g_iald (c := 14) (n := 24) (r := 14) (o := 0) (i := 0) (v := (nI (L.getD 0 0))) X dX9_tour_99 100 rfl (by decide) rfl rfl (by omega) (grow_at (by omega) (by omega)) ?_
                      refine g_iald (c := 2) (n := 24) (r := 2) (o := 0) (i := L.getD 0 0) (v := (nI (tn (h 2 (L.getD 0 0))))) X dX9_tour_100 101 rfl (by decide) rfl rfl (by omega) ((hc _ (hLm _ (by omega))).ci.1) ?_
                      refine g_callVix (st := []) (v := (nI (apt q (tn (h 3 (L.getD b 0))) (tn (h 2 (L.getD 0 0)))))) (m2 := (mrow (mrow (mup h 0 18 (nI (L.length))) 14 (grow L 24 (h 14))) 18 E2)) X cw_X9_189 (c_M_apart (mrow (mrow (mup h 0 18 (nI (L.length))) 14 (grow L 24 (h 14))) 18 E2) q (tn (h 3 (L.getD b 0))) (tn (h 2 (L.getD 0 0))) hq (by omega) (by omega) (by omega)) dX9_tour_101 104 rfl (by decide) rfl rfl rfl rfl rfl (by decide) (Nat.le_of_ble_eq_true rfl) ?_
                      refine g_goto X dX9_tour_104 108 (by decide) ?_
                      refine g_eq (st' := [.int (zI (bsI L.length (scF q (h 3) (h 2) (fun i => L.getD i 0)) set b 0))]) rfl rfl (congrArg (fun y => [Value.int y]) (show _ = zI (bsI L.length (scF q (h 3) (h 2) (fun i => L.getD i 0)) set b 0) from by unfold bsI; rw [if_pos (by omega)]; rfl)) ?_
                      refine g_istore X (lv' := [(0, .ref (kad K (0))), (1, .int (nI (f))), (2, .int (nI (full))), (3, .int (nI (set))), (4, .int (nI (b))), (5, .int (zI (bsI L.length (scF q (h 3) (h 2) (fun i => L.getD i 0)) set b 0)))]) dX9_tour_108 110 rfl (by decide) rfl rfl ?_
                      refine g_iconst X dX9_tour_110 111 rfl (v := (nI (0))) rfl ?_
                      refine g_istore X (lv' := [(0, .ref (kad K (0))), (1, .int (nI (f))), (2, .int (nI (full))), (3, .int (nI (set))), (4, .int (nI (b))), (5, .int (zI (bsI L.length (scF q (h 3) (h 2) (fun i => L.getD i 0)) set b 0))), (6, .int (nI 0))]) dX9_tour_111 113 rfl (by decide) rfl rfl ?_
                      have lp113 : ∀ (fu : Nat) (x : Nat) (hx : x ≤ L.length), L.length - x < fu → G 25 ML 8 K (mrow (mrow (mup h 0 18 (nI (L.length))) 14 (grow L 24 (h 14))) 18 E2) 113 [(0, .ref (kad K (0))), (1, .int (nI (f))), (2, .int (nI (full))), (3, .int (nI (set))), (4, .int (nI (b))), (5, .int (zI (bsI L.length (scF q (h 3) (h 2) (fun i => L.getD i 0)) set b x))), (6, .int (nI (x)))] [] := by
                        intro fu
                        induction fu with
                        | zero => intro x hx hm; exact absurd hm (Nat.not_lt_zero _)
                        | succ fu ih113 =>
                          intro x hx hm113
                          refine g_iload X dX9_tour_113 115 rfl rfl ?_
                          refine g_aload_n X dX9_tour_115 116 rfl rfl ?_
                          refine g_get (c := 0) (k := 18) (T := TX9) (sk := skM0) (v := .int (nI (L.length))) X wf_X9_176 inX9 dX9_tour_116 119 rfl (by decide) rfl rfl (by decide) rfl ?_
                          refine g_icmp_ge X ((x : Nat) : Int) ((L.length : Nat) : Int) dX9_tour_119 211 (by decide) 122 rfl (nI_toInt (by omega)) (nI_toInt (by omega)) (fun t119 => ?_) (fun f119 => ?_)
                          · skip
                            refine g_eq (lv' := [(0, .ref (kad K (0))), (1, .int (nI (f))), (2, .int (nI (full))), (3, .int (nI (set))), (4, .int (nI (b))), (5, .int (zI (eI L.length (scF q (h 3) (h 2) (fun i => L.getD i 0)) set b))), (6, .int (nI (x)))]) rfl (by rw [bsI_e (by omega) (Or.inr (by omega))]) rfl ?_
                            refine g_aload_n X dX9_tour_211 212 rfl rfl ?_
                            refine g_get (c := 0) (k := 23) (T := TX9) (sk := skM0) (v := .ref (kad K (18))) X wf_X9_72 inX9 dX9_tour_212 215 rfl (by decide) rfl rfl (by decide) rfl ?_
                            refine g_bipush X dX9_tour_215 217 rfl (v := (nI (7))) rfl ?_
                            refine g_iload_n X dX9_tour_217 218 rfl rfl ?_
                            refine g_imul X (v := (nI (7 * set))) dX9_tour_218 219 rfl (pk_mul 7 set) ?_
                            refine g_iload X dX9_tour_219 221 rfl rfl ?_
                            refine g_iadd X (v := (nI (7 * set + b))) dX9_tour_221 222 rfl (nI_add (7 * set) b) ?_
                            refine g_iload X dX9_tour_222 224 rfl rfl ?_
                            refine g_iast (c := 18) (n := 896) (r := 18) (o := 0) (i := 7 * set + b) X dX9_tour_224 225 rfl (by decide) rfl rfl (by omega) ?_
                            refine g_iinc X (v := (nI (b + 1))) (lv' := [(0, .ref (kad K (0))), (1, .int (nI (f))), (2, .int (nI (full))), (3, .int (nI (set))), (4, .int (nI (b + 1))), (5, .int (zI (eI L.length (scF q (h 3) (h 2) (fun i => L.getD i 0)) set b))), (6, .int (nI (x)))]) dX9_tour_225 228 rfl (by decide) rfl (n_inc b 1) rfl rfl ?_
                            refine g_goto X dX9_tour_228 63 (by decide) ?_
                            refine g_sub [0, 1, 2, 3, 4] rfl ?_
                            refine g_mem (h := (mup (mrow (mrow (mup h 0 18 (nI (L.length))) 14 (grow L 24 (h 14))) 18 E2) 18 (7 * set + b) (zI (eI L.length (scF q (h 3) (h 2) (fun i => L.getD i 0)) set b)))) (h' := (mrow (mrow (mup h 0 18 (nI (L.length))) 14 (grow L 24 (h 14))) 18 (upd E2 (7 * set + b) (zI (eI L.length (scF q (h 3) (h 2) (fun i => L.getD i 0)) set b))))) (by rw [mup_m]) ?_
                            exact ih63 (b + 1) (upd E2 (7 * set + b) (zI (eI L.length (scF q (h 3) (h 2) (fun i => L.getD i 0)) set b))) (by omega) (fun s a b9 c hc9 => by rw [upd_n _ _ (by omega)]; exact hE2 s a b9 c hc9) (fun c hc9 => if z : c = b then by rw [z, upd_s] else by rw [upd_n _ _ (by omega)]; exact hE3 c (by omega)) (by omega)
                          · skip
                            refine g_iload_n X dX9_tour_122 123 rfl rfl ?_
                            refine g_iload_n X dX9_tour_123 124 rfl rfl ?_
                            refine g_icmp_ge X ((set : Nat) : Int) ((full : Nat) : Int) dX9_tour_124 211 (by decide) 127 rfl (nI_toInt (by omega)) (nI_toInt (by omega)) (fun t124 => ?_) (fun f124 => ?_)
                            · skip
                              refine g_eq (lv' := [(0, .ref (kad K (0))), (1, .int (nI (f))), (2, .int (nI (full))), (3, .int (nI (set))), (4, .int (nI (b))), (5, .int (zI (eI L.length (scF q (h 3) (h 2) (fun i => L.getD i 0)) set b))), (6, .int (nI (x)))]) rfl (by rw [bsI_e (by omega) (Or.inl (by omega))]) rfl ?_
                              refine g_aload_n X dX9_tour_211 212 rfl rfl ?_
                              refine g_get (c := 0) (k := 23) (T := TX9) (sk := skM0) (v := .ref (kad K (18))) X wf_X9_72 inX9 dX9_tour_212 215 rfl (by decide) rfl rfl (by decide) rfl ?_
                              refine g_bipush X dX9_tour_215 217 rfl (v := (nI (7))) rfl ?_
                              refine g_iload_n X dX9_tour_217 218 rfl rfl ?_
                              refine g_imul X (v := (nI (7 * set))) dX9_tour_218 219 rfl (pk_mul 7 set) ?_
                              refine g_iload X dX9_tour_219 221 rfl rfl ?_
                              refine g_iadd X (v := (nI (7 * set + b))) dX9_tour_221 222 rfl (nI_add (7 * set) b) ?_
                              refine g_iload X dX9_tour_222 224 rfl rfl ?_
                              refine g_iast (c := 18) (n := 896) (r := 18) (o := 0) (i := 7 * set + b) X dX9_tour_224 225 rfl (by decide) rfl rfl (by omega) ?_
                              refine g_iinc X (v := (nI (b + 1))) (lv' := [(0, .ref (kad K (0))), (1, .int (nI (f))), (2, .int (nI (full))), (3, .int (nI (set))), (4, .int (nI (b + 1))), (5, .int (zI (eI L.length (scF q (h 3) (h 2) (fun i => L.getD i 0)) set b))), (6, .int (nI (x)))]) dX9_tour_225 228 rfl (by decide) rfl (n_inc b 1) rfl rfl ?_
                              refine g_goto X dX9_tour_228 63 (by decide) ?_
                              refine g_sub [0, 1, 2, 3, 4] rfl ?_
                              refine g_mem (h := (mup (mrow (mrow (mup h 0 18 (nI (L.length))) 14 (grow L 24 (h 14))) 18 E2) 18 (7 * set + b) (zI (eI L.length (scF q (h 3) (h 2) (fun i => L.getD i 0)) set b)))) (h' := (mrow (mrow (mup h 0 18 (nI (L.length))) 14 (grow L 24 (h 14))) 18 (upd E2 (7 * set + b) (zI (eI L.length (scF q (h 3) (h 2) (fun i => L.getD i 0)) set b))))) (by rw [mup_m]) ?_
                              exact ih63 (b + 1) (upd E2 (7 * set + b) (zI (eI L.length (scF q (h 3) (h 2) (fun i => L.getD i 0)) set b))) (by omega) (fun s a b9 c hc9 => by rw [upd_n _ _ (by omega)]; exact hE2 s a b9 c hc9) (fun c hc9 => if z : c = b then by rw [z, upd_s] else by rw [upd_n _ _ (by omega)]; exact hE3 c (by omega)) (by omega)
                            · skip
                              refine g_iload_n X dX9_tour_127 128 rfl rfl ?_
                              refine g_iload X dX9_tour_128 130 rfl rfl ?_
                              refine g_ishr X (v := ((nI (set)) >>> ((nI (x)) &&& 31))) dX9_tour_130 131 rfl rfl ?_
                              refine g_iconst X dX9_tour_131 132 rfl (v := (nI (1))) rfl ?_
                              refine g_iand X (v := (nI (if set.testBit x then 1 else 0))) dX9_tour_132 133 rfl (nI_bit (by omega) (by omega)) ?_
                              refine g_if_ne X ((if set.testBit x then 1 else 0 : Nat) : Int) dX9_tour_133 205 (by decide) 136 rfl (nI_toInt (by split <;> omega)) (fun t133 => ?_) (fun f133 => ?_)
                              · skip
                                have hbit : set.testBit x = true := by
                                  cases hz : set.testBit x with
                                  | true => rfl
                                  | false => rw [hz] at t133; exact absurd rfl t133
                                refine g_eq (lv' := [(0, .ref (kad K (0))), (1, .int (nI (f))), (2, .int (nI (full))), (3, .int (nI (set))), (4, .int (nI (b))), (5, .int (zI (bsI L.length (scF q (h 3) (h 2) (fun i => L.getD i 0)) set b (x + 1)))), (6, .int (nI (x)))]) rfl (by rw [bs_0 (show set < 2 ^ L.length - 1 by omega) hbit]) rfl ?_
                                refine g_iinc X (v := (nI (x + 1))) (lv' := [(0, .ref (kad K (0))), (1, .int (nI (f))), (2, .int (nI (full))), (3, .int (nI (set))), (4, .int (nI (b))), (5, .int (zI (bsI L.length (scF q (h 3) (h 2) (fun i => L.getD i 0)) set b (x + 1)))), (6, .int (nI (x + 1)))]) dX9_tour_205 208 rfl (by decide) rfl (n_inc x 1) rfl rfl ?_
                                refine g_goto X dX9_tour_208 113 (by decide) ?_
                                skip
                                exact ih113 (x + 1) (by omega) (by omega)
                              · skip
                                have hl1 := hLm b (by omega)
                                have hl2 := hLm x (by omega)
                                have hk1 := (hc _ hl1).co.2
                                have hk2 := (hc _ hl2).ci.2
                                have hap := apt_le q (tn (h 3 (L.getD b 0))) (tn (h 2 (L.getD x 0)))
                                have hbit : set.testBit x = false := by
                                  cases hz : set.testBit x with
                                  | false => rfl
                                  | true => rw [hz] at f133; exact absurd f133 (by decide)
                                have hog := or_gt hbit
                                have hoi : set ||| 2 ^ x ≤ 2 ^ L.length - 1 := or_in (by omega) (by omega)
                                have hb1 := eI_bd (sc := (scF q (h 3) (h 2) (fun i => L.getD i 0))) (last := x) (show L.length < 8 by omega) (fun a b => Nat.le_trans (scF_le _ _ _ _ _ _) hq2) hoi
                                have hbs := bsI_bd (sc := (scF q (h 3) (h 2) (fun i => L.getD i 0))) (last := b) (show L.length < 8 by omega) (fun a b => Nat.le_trans (scF_le _ _ _ _ _ _) hq2) (show set ≤ 2 ^ L.length - 1 by omega) hx
                                have hb2 : bsI L.length (scF q (h 3) (h 2) (fun i => L.getD i 0)) set b (x + 1) = (if bsI L.length (scF q (h 3) (h 2) (fun i => L.getD i 0)) set b x < 0 ∨ (((apt q (tn (h 3 (L.getD b 0))) (tn (h 2 (L.getD x 0))) : Nat) : Int) + eI L.length (scF q (h 3) (h 2) (fun i => L.getD i 0)) (set ||| 2 ^ x) x) < bsI L.length (scF q (h 3) (h 2) (fun i => L.getD i 0)) set b x then (((apt q (tn (h 3 (L.getD b 0))) (tn (h 2 (L.getD x 0))) : Nat) : Int) + eI L.length (scF q (h 3) (h 2) (fun i => L.getD i 0)) (set ||| 2 ^ x) x) else bsI L.length (scF q (h 3) (h 2) (fun i => L.getD i 0)) set b x) := bs_1 (sc := (scF q (h 3) (h 2) (fun i => L.getD i 0))) (last := b) (show set < 2 ^ L.length - 1 by omega) hbit
                                refine g_aload_n X dX9_tour_136 137 rfl rfl ?_
                                refine g_aload_n X dX9_tour_137 138 rfl rfl ?_
                                refine g_get (c := 0) (k := 6) (T := TX9) (sk := skM0) (v := .ref (kad K (3))) X wf_X9_26 inX9 dX9_tour_138 141 rfl (by decide) rfl rfl (by decide) rfl ?_
                                refine g_aload_n X dX9_tour_141 142 rfl rfl ?_
                                refine g_get (c := 0) (k := 19) (T := TX9) (sk := skM0) (v := .ref (kad K (14))) X wf_X9_60 inX9 dX9_tour_142 145 rfl (by decide) rfl rfl (by decide) rfl ?_
                                refine g_iload X dX9_tour_145 147 rfl rfl ?_
                                refine g_iald (c := 14) (n := 24) (r := 14) (o := 0) (i := b) (v := (nI (L.getD b 0))) X dX9_tour_147 148 rfl (by decide) rfl rfl (by omega) (grow_at (by omega) (by omega)) ?_
                                refine g_iald (c := 3) (n := 24) (r := 3) (o := 0) (i := L.getD b 0) (v := (nI (tn (h 3 (L.getD b 0))))) X dX9_tour_148 149 rfl (by decide) rfl rfl (by omega) ((hc _ (hLm _ (by omega))).co.1) ?_
                                refine g_aload_n X dX9_tour_149 150 rfl rfl ?_
                                refine g_get (c := 0) (k := 5) (T := TX9) (sk := skM0) (v := .ref (kad K (2))) X wf_X9_23 inX9 dX9_tour_150 153 rfl (by decide) rfl rfl (by decide) rfl ?_
                                refine g_aload_n X dX9_tour_153 154 rfl rfl ?_
                                refine g_get (c := 0) (k := 19) (T := TX9) (sk := skM0) (v := .ref (kad K (14))) X wf_X9_60 inX9 dX9_tour_154 157 rfl (by decide) rfl rfl (by decide) rfl ?_
                                refine g_iload X dX9_tour_157 159 rfl rfl ?_
                                refine g_iald (c := 14) (n := 24) (r := 14) (o := 0) (i := x) (v := (nI (L.getD x 0))) X dX9_tour_159 160 rfl (by decide) rfl rfl (by omega) (grow_at (by omega) (by omega)) ?_
                                refine g_iald (c := 2) (n := 24) (r := 2) (o := 0) (i := L.getD x 0) (v := (nI (tn (h 2 (L.getD x 0))))) X dX9_tour_160 161 rfl (by decide) rfl rfl (by omega) ((hc _ (hLm _ (by omega))).ci.1) ?_
                                refine g_callVix (st := []) (v := (nI (apt q (tn (h 3 (L.getD b 0))) (tn (h 2 (L.getD x 0)))))) (m2 := (mrow (mrow (mup h 0 18 (nI (L.length))) 14 (grow L 24 (h 14))) 18 E2)) X cw_X9_189 (c_M_apart (mrow (mrow (mup h 0 18 (nI (L.length))) 14 (grow L 24 (h 14))) 18 E2) q (tn (h 3 (L.getD b 0))) (tn (h 2 (L.getD x 0))) hq (by omega) (by omega) (by omega)) dX9_tour_161 164 rfl (by decide) rfl rfl rfl rfl rfl (by decide) (Nat.le_of_ble_eq_true rfl) ?_
                                refine g_aload_n X dX9_tour_164 165 rfl rfl ?_
                                refine g_get (c := 0) (k := 23) (T := TX9) (sk := skM0) (v := .ref (kad K (18))) X wf_X9_72 inX9 dX9_tour_165 168 rfl (by decide) rfl rfl (by decide) rfl ?_
                                refine g_bipush X dX9_tour_168 170 rfl (v := (nI (7))) rfl ?_
                                refine g_iload_n X dX9_tour_170 171 rfl rfl ?_
                                refine g_iconst X dX9_tour_171 172 rfl (v := (nI (1))) rfl ?_
                                refine g_iload X dX9_tour_172 174 rfl rfl ?_
                                refine g_ishl X (v := (nI (2 ^ x))) dX9_tour_174 175 rfl (nI_shl1 (by omega)) ?_
                                refine g_ior X (v := (nI (set ||| 2 ^ x))) dX9_tour_175 176 rfl (nI_or _ _) ?_
                                refine g_imul X (v := (nI (7 * (set ||| 2 ^ x)))) dX9_tour_176 177 rfl (pk_mul 7 (set ||| 2 ^ x)) ?_
                                refine g_iload X dX9_tour_177 179 rfl rfl ?_
                                refine g_iadd X (v := (nI ((7 * (set ||| 2 ^ x)) + x))) dX9_tour_179 180 rfl (nI_add (7 * (set ||| 2 ^ x)) x) ?_
                                refine g_iald (c := 18) (n := 896) (r := 18) (o := 0) (i := (7 * (set ||| 2 ^ x)) + x) (v := (zI (eI L.length (scF q (h 3) (h 2) (fun i => L.getD i 0)) (set ||| 2 ^ x) x))) X dX9_tour_180 181 rfl (by decide) rfl rfl (by omega) (hE2 _ hog (by omega) x (by omega)) ?_
                                refine g_iadd X (v := (zI (((apt q (tn (h 3 (L.getD b 0))) (tn (h 2 (L.getD x 0))) : Nat) : Int) + eI L.length (scF q (h 3) (h 2) (fun i => L.getD i 0)) (set ||| 2 ^ x) x))) dX9_tour_181 182 rfl (nz_add _ _) ?_
                                refine g_istore X (lv' := [(0, .ref (kad K (0))), (1, .int (nI (f))), (2, .int (nI (full))), (3, .int (nI (set))), (4, .int (nI (b))), (5, .int (zI (bsI L.length (scF q (h 3) (h 2) (fun i => L.getD i 0)) set b x))), (6, .int (nI (x))), (7, .int (zI (((apt q (tn (h 3 (L.getD b 0))) (tn (h 2 (L.getD x 0))) : Nat) : Int) + eI L.length (scF q (h 3) (h 2) (fun i => L.getD i 0)) (set ||| 2 ^ x) x)))]) dX9_tour_182 184 rfl (by decide) rfl rfl ?_
                                refine g_iload X dX9_tour_184 186 rfl rfl ?_
                                refine g_if_lt X (bsI L.length (scF q (h 3) (h 2) (fun i => L.getD i 0)) set b x) dX9_tour_186 196 (by decide) 189 rfl (zI_toInt (by omega)) (fun t186 => ?_) (fun f186 => ?_)
                                · skip
                                  refine g_iload X dX9_tour_196 198 rfl rfl ?_
                                  refine g_goto X dX9_tour_198 203 (by decide) ?_
                                  refine g_eq (st' := [.int (zI (bsI L.length (scF q (h 3) (h 2) (fun i => L.getD i 0)) set b (x + 1)))]) rfl rfl (by rw [hb2, if_pos (Or.inl t186)]) ?_
                                  refine g_istore X (lv' := [(0, .ref (kad K (0))), (1, .int (nI (f))), (2, .int (nI (full))), (3, .int (nI (set))), (4, .int (nI (b))), (5, .int (zI (bsI L.length (scF q (h 3) (h 2) (fun i => L.getD i 0)) set b (x + 1)))), (6, .int (nI (x))), (7, .int (zI (((apt q (tn (h 3 (L.getD b 0))) (tn (h 2 (L.getD x 0))) : Nat) : Int) + eI L.length (scF q (h 3) (h 2) (fun i => L.getD i 0)) (set ||| 2 ^ x) x)))]) dX9_tour_203 205 rfl (by decide) rfl rfl ?_
                                  skip
                                  refine g_iinc X (v := (nI (x + 1))) (lv' := [(0, .ref (kad K (0))), (1, .int (nI (f))), (2, .int (nI (full))), (3, .int (nI (set))), (4, .int (nI (b))), (5, .int (zI (bsI L.length (scF q (h 3) (h 2) (fun i => L.getD i 0)) set b (x + 1)))), (6, .int (nI (x + 1))), (7, .int (zI (((apt q (tn (h 3 (L.getD b 0))) (tn (h 2 (L.getD x 0))) : Nat) : Int) + eI L.length (scF q (h 3) (h 2) (fun i => L.getD i 0)) (set ||| 2 ^ x) x)))]) dX9_tour_205 208 rfl (by decide) rfl (n_inc x 1) rfl rfl ?_
                                  refine g_goto X dX9_tour_208 113 (by decide) ?_
                                  refine g_sub [0, 1, 2, 3, 4, 5, 6] rfl ?_
                                  exact ih113 (x + 1) (by omega) (by omega)
                                · skip
                                  refine g_iload X dX9_tour_189 191 rfl rfl ?_
                                  refine g_iload X dX9_tour_191 193 rfl rfl ?_
                                  refine g_icmp_ge X (((apt q (tn (h 3 (L.getD b 0))) (tn (h 2 (L.getD x 0))) : Nat) : Int) + eI L.length (scF q (h 3) (h 2) (fun i => L.getD i 0)) (set ||| 2 ^ x) x) (bsI L.length (scF q (h 3) (h 2) (fun i => L.getD i 0)) set b x) dX9_tour_193 201 (by decide) 196 rfl (zI_toInt (by omega)) (zI_toInt (by omega)) (fun t193 => ?_) (fun f193 => ?_)
                                  · skip
                                    refine g_iload X dX9_tour_201 203 rfl rfl ?_
                                    refine g_eq (st' := [.int (zI (bsI L.length (scF q (h 3) (h 2) (fun i => L.getD i 0)) set b (x + 1)))]) rfl rfl (by rw [hb2, if_neg (fun z => z.elim f186 (fun y => absurd t193 (Int.not_le.mpr y)))]) ?_
                                    refine g_istore X (lv' := [(0, .ref (kad K (0))), (1, .int (nI (f))), (2, .int (nI (full))), (3, .int (nI (set))), (4, .int (nI (b))), (5, .int (zI (bsI L.length (scF q (h 3) (h 2) (fun i => L.getD i 0)) set b (x + 1)))), (6, .int (nI (x))), (7, .int (zI (((apt q (tn (h 3 (L.getD b 0))) (tn (h 2 (L.getD x 0))) : Nat) : Int) + eI L.length (scF q (h 3) (h 2) (fun i => L.getD i 0)) (set ||| 2 ^ x) x)))]) dX9_tour_203 205 rfl (by decide) rfl rfl ?_
                                    skip
                                    refine g_iinc X (v := (nI (x + 1))) (lv' := [(0, .ref (kad K (0))), (1, .int (nI (f))), (2, .int (nI (full))), (3, .int (nI (set))), (4, .int (nI (b))), (5, .int (zI (bsI L.length (scF q (h 3) (h 2) (fun i => L.getD i 0)) set b (x + 1)))), (6, .int (nI (x + 1))), (7, .int (zI (((apt q (tn (h 3 (L.getD b 0))) (tn (h 2 (L.getD x 0))) : Nat) : Int) + eI L.length (scF q (h 3) (h 2) (fun i => L.getD i 0)) (set ||| 2 ^ x) x)))]) dX9_tour_205 208 rfl (by decide) rfl (n_inc x 1) rfl rfl ?_
                                    refine g_goto X dX9_tour_208 113 (by decide) ?_
                                    refine g_sub [0, 1, 2, 3, 4, 5, 6] rfl ?_
                                    exact ih113 (x + 1) (by omega) (by omega)
                                  · skip
                                    refine g_iload X dX9_tour_196 198 rfl rfl ?_
                                    refine g_goto X dX9_tour_198 203 (by decide) ?_
                                    refine g_eq (st' := [.int (zI (bsI L.length (scF q (h 3) (h 2) (fun i => L.getD i 0)) set b (x + 1)))]) rfl rfl (by rw [hb2, if_pos (Or.inr (Int.not_le.mp f193))]) ?_
                                    refine g_istore X (lv' := [(0, .ref (kad K (0))), (1, .int (nI (f))), (2, .int (nI (full))), (3, .int (nI (set))), (4, .int (nI (b))), (5, .int (zI (bsI L.length (scF q (h 3) (h 2) (fun i => L.getD i 0)) set b (x + 1)))), (6, .int (nI (x))), (7, .int (zI (((apt q (tn (h 3 (L.getD b 0))) (tn (h 2 (L.getD x 0))) : Nat) : Int) + eI L.length (scF q (h 3) (h 2) (fun i => L.getD i 0)) (set ||| 2 ^ x) x)))]) dX9_tour_203 205 rfl (by decide) rfl rfl ?_
                                    skip
                                    refine g_iinc X (v := (nI (x + 1))) (lv' := [(0, .ref (kad K (0))), (1, .int (nI (f))), (2, .int (nI (full))), (3, .int (nI (set))), (4, .int (nI (b))), (5, .int (zI (bsI L.length (scF q (h 3) (h 2) (fun i => L.getD i 0)) set b (x + 1)))), (6, .int (nI (x + 1))), (7, .int (zI (((apt q (tn (h 3 (L.getD b 0))) (tn (h 2 (L.getD x 0))) : Nat) : Int) + eI L.length (scF q (h 3) (h 2) (fun i => L.getD i 0)) (set ||| 2 ^ x) x)))]) dX9_tour_205 208 rfl (by decide) rfl (n_inc x 1) rfl rfl ?_
                                    refine g_goto X dX9_tour_208 113 (by decide) ?_
                                    refine g_sub [0, 1, 2, 3, 4, 5, 6] rfl ?_
                                    exact ih113 (x + 1) (by omega) (by omega)
                      skip
                      exact lp113 _ 0 (by omega) (Nat.lt_succ_self _)
              skip
              refine g_mem (h := (mrow (mrow (mup h 0 18 (nI (L.length))) 14 (grow L 24 (h 14))) 18 E)) (h' := (mrow (mrow (mup h 0 18 (nI (L.length))) 14 (grow L 24 (h 14))) 18 E)) rfl ?_
              exact lp63 _ 0 E (by omega) hE (fun c z => absurd z (Nat.not_lt_zero c)) (Nat.lt_succ_self _)
        skip
        refine g_mem (h := (mrow (mup h 0 18 (nI (L.length))) 14 (grow L 24 (h 14)))) (h' := (mrow (mrow (mup h 0 18 (nI (L.length))) 14 (grow L 24 (h 14))) 18 (h 18))) ((mrow_id _ 18).symm) ?_
        exact lp56 _ full (h 18) (Nat.le_refl _) (fun s a b => absurd b (by omega)) (Nat.lt_succ_self _)
      · skip
        refine g_bipush X dX9_tour_42 44 rfl (v := (zI (-4))) rfl ?_
        refine g_iret (h := (mrow (mup h 0 18 (nI (L.length))) 14 (grow L 24 (h 14)))) (v := (zI (-4))) X Z dX9_tour_44 ?_
        exact ⟨fun _ => by rw [ef, ← hL]; exact Or.inr (Or.inl ⟨by omega, rfl, rfl, rfl⟩), fun z => absurd t13 z, mag_w (list_mag h _ _) (by decide) (by decide)⟩
    · skip
      refine g_bipush X dX9_tour_32 34 rfl (v := (zI (-3))) rfl ?_
      refine g_iret (h := (mrow (mup h 0 18 (nI (L.length))) 14 (grow L 24 (h 14)))) (v := (zI (-3))) X Z dX9_tour_34 ?_
      exact ⟨fun _ => by rw [ef, ← hL]; exact Or.inl ⟨by omega, rfl, rfl, rfl⟩, fun z => absurd t13 z, mag_w (list_mag h _ _) (by decide) (by decide)⟩
  · skip
    refine g_iconst X dX9_tour_16 17 rfl (v := (zI (-1))) rfl ?_
    refine g_iret (h := h) (v := (zI (-1))) X Z dX9_tour_17 ?_
    exact ⟨fun z => absurd z f13, fun _ => ⟨rfl, rfl⟩, mag_rf _ _ _⟩
