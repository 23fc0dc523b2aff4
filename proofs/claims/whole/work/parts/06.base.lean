def skX0 : Nat → Option Nat := fun k => match k with
  | 0 => some 1
  | 1 => some 2
  | 2 => some 29
  | 3 => some 36
  | 4 => some 43
  | 5 => some 53
  | 6 => some 58
  | 7 => some 61
  | _ => none
def skX1 : Nat → Option Nat := fun k => match k with
  | 0 => none
  | 1 => none
  | 2 => none
  | _ => none
def skX2 : Nat → Option Nat := fun k => match k with
  | 0 => none
  | 1 => none
  | 2 => some 3
  | 3 => some 4
  | _ => none
def skX29 : Nat → Option Nat := fun k => match k with
  | 0 => some 1
  | 1 => none
  | 2 => some 30
  | 3 => some 31
  | 4 => some 32
  | 5 => some 33
  | 6 => some 34
  | 7 => some 35
  | _ => none
def skX36 : Nat → Option Nat := fun k => match k with
  | 0 => some 1
  | 1 => some 2
  | 2 => some 29
  | 3 => none
  | 4 => some 37
  | 5 => some 41
  | 6 => some 42
  | _ => none
def skX43 : Nat → Option Nat := fun k => match k with
  | 0 => some 1
  | 1 => some 2
  | 2 => some 29
  | 3 => some 44
  | 4 => some 45
  | 5 => none
  | 6 => none
  | 7 => some 46
  | 8 => some 47
  | 9 => some 48
  | _ => none
def skX53 : Nat → Option Nat := fun k => match k with
  | 0 => some 29
  | 1 => none
  | 2 => some 54
  | 3 => some 55
  | 4 => none
  | 5 => none
  | 6 => some 56
  | 7 => some 57
  | _ => none
def skX58 : Nat → Option Nat := fun k => match k with
  | 0 => some 1
  | 1 => some 29
  | 2 => some 36
  | 3 => none
  | 4 => some 59
  | 5 => some 60
  | _ => none
def skX61 : Nat → Option Nat := fun k => match k with
  | 0 => some 62
  | 1 => some 63
  | 2 => some 64
  | _ => none
def XL : Nat → KD := fun c =>
  if 5 ≤ c ∧ c < 29 then .inr (0, 24, 5, 24 * (c - 5)) else
  if 38 ≤ c ∧ c < 41 then .inr (0, 24, 38, 24 * (c - 38)) else
  if 49 ≤ c ∧ c < 53 then .inr (0, 24, 49, 24 * (c - 49)) else
  if 65 ≤ c ∧ c < 69 then .inr (0, 96, 65, 96 * (c - 65)) else
  match c with
  | 0 => .inl (8, 8, skX0)
  | 1 => .inl (1, 3, skX1)
  | 2 => .inl (3, 4, skX2)
  | 3 => .inr (0, 25, 3, 0)
  | 4 => .inr (2, 24, 5, 0)
  | 29 => .inl (0, 8, skX29)
  | 30 => .inr (0, 24, 30, 0)
  | 31 => .inr (0, 24, 31, 0)
  | 32 => .inr (0, 24, 32, 0)
  | 33 => .inr (0, 24, 33, 0)
  | 34 => .inr (1, 24, 34, 0)
  | 35 => .inr (0, 24, 35, 0)
  | 36 => .inl (6, 7, skX36)
  | 37 => .inr (2, 3, 38, 0)
  | 41 => .inr (0, 24, 41, 0)
  | 42 => .inr (0, 3, 42, 0)
  | 43 => .inl (7, 10, skX43)
  | 44 => .inr (0, 24, 44, 0)
  | 45 => .inr (0, 8, 45, 0)
  | 46 => .inr (0, 8, 46, 0)
  | 47 => .inr (0, 4, 47, 0)
  | 48 => .inr (2, 4, 49, 0)
  | 53 => .inl (5, 8, skX53)
  | 54 => .inr (0, 7, 54, 0)
  | 55 => .inr (0, 7, 55, 0)
  | 56 => .inr (0, 7, 56, 0)
  | 57 => .inr (1, 7, 57, 0)
  | 58 => .inl (2, 6, skX58)
  | 59 => .inr (0, 3, 59, 0)
  | 60 => .inr (0, 3, 60, 0)
  | 61 => .inl (4, 3, skX61)
  | 62 => .inr (0, 4, 62, 0)
  | 63 => .inr (0, 4, 63, 0)
  | 64 => .inr (2, 4, 65, 0)
  | _ => .inr (2, 0, 0, 0)
theorem XLW : LWb 69 XL = true := by decide +kernel
theorem XL_5 {r : Nat} (hr : r < 24) : XL (5 + r) = .inr (0, 24, 5, 24 * r) := by
  unfold XL
  rw [if_pos (by omega)]
  simp
theorem XL_38 {r : Nat} (hr : r < 3) : XL (38 + r) = .inr (0, 24, 38, 24 * r) := by
  unfold XL
  rw [if_neg (by omega)]
  rw [if_pos (by omega)]
  simp
theorem XL_49 {r : Nat} (hr : r < 4) : XL (49 + r) = .inr (0, 24, 49, 24 * r) := by
  unfold XL
  rw [if_neg (by omega)]
  rw [if_neg (by omega)]
  rw [if_pos (by omega)]
  simp
theorem XL_65 {r : Nat} (hr : r < 4) : XL (65 + r) = .inr (0, 96, 65, 96 * r) := by
  unfold XL
  rw [if_neg (by omega)]
  rw [if_neg (by omega)]
  rw [if_neg (by omega)]
  rw [if_pos (by omega)]
  simp
def skM0 : Nat → Option Nat := fun k => match k with
  | 0 => none
  | 1 => none
  | 2 => none
  | 3 => none
  | 4 => some 1
  | 5 => some 2
  | 6 => some 3
  | 7 => some 4
  | 8 => some 5
  | 9 => some 6
  | 10 => none
  | 11 => some 7
  | 12 => some 8
  | 13 => some 9
  | 14 => some 10
  | 15 => some 11
  | 16 => some 12
  | 17 => some 13
  | 18 => none
  | 19 => some 14
  | 20 => some 15
  | 21 => some 16
  | 22 => some 17
  | 23 => some 18
  | 24 => none
  | 25 => some 19
  | 26 => none
  | 27 => some 20
  | 28 => some 21
  | 29 => some 22
  | 30 => some 23
  | 31 => some 24
  | _ => none
def ML : Nat → KD := fun c =>
  match c with
  | 0 => .inl (9, 32, skM0)
  | 1 => .inr (0, 24, 1, 0)
  | 2 => .inr (0, 24, 2, 0)
  | 3 => .inr (0, 24, 3, 0)
  | 4 => .inr (0, 24, 4, 0)
  | 5 => .inr (1, 24, 5, 0)
  | 6 => .inr (0, 24, 6, 0)
  | 7 => .inr (0, 25, 7, 0)
  | 8 => .inr (0, 625, 8, 0)
  | 9 => .inr (0, 25, 9, 0)
  | 10 => .inr (0, 25, 10, 0)
  | 11 => .inr (0, 25, 11, 0)
  | 12 => .inr (0, 24, 12, 0)
  | 13 => .inr (0, 24, 13, 0)
  | 14 => .inr (0, 24, 14, 0)
  | 15 => .inr (0, 24, 15, 0)
  | 16 => .inr (0, 8, 16, 0)
  | 17 => .inr (0, 4, 17, 0)
  | 18 => .inr (0, 896, 18, 0)
  | 19 => .inr (0, 7, 19, 0)
  | 20 => .inr (0, 3, 20, 0)
  | 21 => .inr (0, 4, 21, 0)
  | 22 => .inr (0, 4, 22, 0)
  | 23 => .inr (0, 384, 23, 0)
  | 24 => .inr (0, 24, 24, 0)
  | _ => .inr (2, 0, 0, 0)
theorem MLW : LWb 25 ML = true := by decide +kernel

def zI (a : Int) : Int32 := Int32.ofInt a
theorem zI_toInt {a : Int} (h : -2147483648 ≤ a ∧ a < 2147483648) : (zI a).toInt = a := Int32.toInt_ofInt_of_le (by omega) (by omega)
theorem zI_nat (a : Nat) : zI (a : Int) = nI a := rfl
theorem zI_of {a : Int} {n : Nat} (h : a = (n : Int)) : zI a = nI n := by rw [h]; rfl
theorem zI_eq {x : Int32} {a : Int} (h : x.toInt = a) : x = zI a := by rw [← h]; exact (Int32.ofInt_toInt x).symm
theorem zz_add (a b : Int) : zI a + zI b = zI (a + b) := (Int32.ofInt_add a b).symm
theorem zz_sub (a b : Int) : zI a - zI b = zI (a - b) := (Int32.ofInt_sub a b).symm
theorem zz_mul (a b : Int) : zI a * zI b = zI (a * b) := (Int32.ofInt_mul a b).symm
theorem nz_add (a : Nat) (b : Int) : nI a + zI b = zI (a + b) := zz_add a b
theorem zn_add (a : Int) (b : Nat) : zI a + nI b = zI (a + b) := zz_add a b
theorem nn_sub (a b : Nat) : nI a - nI b = zI (a - b) := zz_sub a b
theorem zn_sub (a : Int) (b : Nat) : zI a - nI b = zI (a - b) := zz_sub a b
theorem nz_sub (a : Nat) (b : Int) : nI a - zI b = zI (a - b) := zz_sub a b
theorem nz_mul (a : Nat) (b : Int) : nI a * zI b = zI (a * b) := zz_mul a b
theorem zn_mul (a : Int) (b : Nat) : zI a * nI b = zI (a * b) := zz_mul a b
theorem n_inc (a c : Nat) : nI a + Int32.ofInt (c : Int) = nI (a + c) := nI_add a c
theorem z_inc (a c : Int) : zI a + Int32.ofInt c = zI (a + c) := zz_add a c
theorem n_incz (a : Nat) (c : Int) : nI a + Int32.ofInt c = zI (a + c) := zz_add a c
theorem n_neg (a : Nat) : -(nI a) = zI (-a) := by
  have := zz_sub 0 (a : Int)
  rw [Int.zero_sub] at this
  rw [← this]
  show -(nI a) = 0 - nI a
  exact (Int32.zero_sub (nI a)).symm
theorem nI_inj {a b : Nat} (ha : a < 2147483648) (hb : b < 2147483648) (h : nI a = nI b) : a = b := (nI_eq ha hb).mp h
theorem nI_ne {a : Nat} (h0 : 0 < a) (h : a < 2147483648) : ¬ nI a = 0 := nI_ne0 h0 h
/-- x is between a and b -/
abbrev inR (x : Int32) (a b : Int) : Prop := a ≤ x.toInt ∧ x.toInt ≤ b
theorem inR_nat {x : Int32} {n : Nat} (h : inR x 0 ((n : Int) - 1)) : ∃ j : Nat, j < n ∧ x = nI j := by
  refine ⟨x.toInt.toNat, ?_, ?_⟩
  · have := h.1; have := h.2; omega
  · have h1 := h.1
    exact (zI_eq rfl).trans (zI_of (by omega))
theorem inR_nat2 {x : Int32} {a n : Nat} (h : inR x a n) : ∃ j : Nat, a ≤ j ∧ j ≤ n ∧ x = nI j := by
  refine ⟨x.toInt.toNat, ?_, ?_, ?_⟩
  · have := h.1; have := h.2; omega
  · have := h.1; have := h.2; omega
  · have h1 := h.1
    exact (zI_eq rfl).trans (zI_of (by omega))
theorem inR_n {j : Nat} {a b : Int} (hj : j < 2147483648) : inR (nI j) a b ↔ a ≤ (j : Int) ∧ (j : Int) ≤ b := by
  unfold inR
  rw [nI_toInt hj]
theorem mup_m (h : Mem) (c j : Nat) (f : Nat → Int32) (v : Int32) : mup (mrow h c f) c j v = mrow h c (upd f j v) := by
  funext d
  unfold mup
  by_cases hd : d = c
  · subst hd; rw [mrow_s, mrow_s, mrow_s]
  · rw [mrow_n _ _ hd, mrow_n _ _ hd, mrow_n _ _ hd]
theorem mrow_m (h : Mem) (c : Nat) (f g : Nat → Int32) : mrow (mrow h c f) c g = mrow h c g := by
  funext d
  by_cases hd : d = c
  · subst hd; rw [mrow_s, mrow_s]
  · rw [mrow_n _ _ hd, mrow_n _ _ hd, mrow_n _ _ hd]
theorem mrow_id (h : Mem) (c : Nat) : mrow h c (h c) = h := by
  funext d
  by_cases hd : d = c
  · subst hd; rw [mrow_s]
  · rw [mrow_n _ _ hd]
theorem mup_ss (h : Mem) (c j : Nat) (v : Int32) : mup h c j v c j = v := by rw [mup_s, if_pos rfl]
/-- a stretch of a row, all of one value -/
def mfill (h : Mem) (c o k : Nat) (v : Int32) : Mem := mrow h c (fun j => if o ≤ j ∧ j < o + k then v else h c j)
theorem mfill_0 (h : Mem) (c o : Nat) (v : Int32) : mfill h c o 0 v = h := by
  unfold mfill
  refine Eq.trans (congrArg (mrow h c) (funext fun j => ?_)) (mrow_id h c)
  rw [if_neg (by omega)]
theorem mfill_1 (h : Mem) (c o k i : Nat) (v : Int32) (hi : i = o + k) : mup (mfill h c o k v) c i v = mfill h c o (k + 1) v := by
  subst hi
  unfold mfill
  rw [mup_m]
  refine congrArg (mrow h c) (funext fun j => ?_)
  simp only [upd]
  by_cases hj : j = o + k
  · rw [if_pos hj, if_pos (by omega)]
  · rw [if_neg hj]
    by_cases h2 : o ≤ j ∧ j < o + k
    · rw [if_pos h2, if_pos (by omega)]
    · rw [if_neg h2, if_neg (by omega)]

theorem cw_X8_27 : CW RX8 27 yX3_raiseTo cX3_raiseTo 2 none 1 true false := ⟨wm_X8_27, wn_X3, wc_X3_raiseTo, ⟨wi_X3_raiseTo, ws_X3_raiseTo⟩, by decide +kernel⟩
theorem cw_X3_24 : CW RX3 24 yX3_layPolynomial cX3_layPolynomial 3 none 0 true false := ⟨wm_X3_24, wn_X3, wc_X3_layPolynomial, ⟨wi_X3_layPolynomial, ws_X3_layPolynomial⟩, by decide +kernel⟩
theorem cw_X3_30 : CW RX3 30 yX3_setToOne cX3_setToOne 2 none 1 false false := ⟨wm_X3_30, wn_X3, wc_X3_setToOne, wt_X3_setToOne, by decide +kernel⟩
theorem cw_X3_37 : CW RX3 37 yX3_signOf cX3_signOf 4 (some .int) 1 false false := ⟨wm_X3_37, wn_X3, wc_X3_signOf, wt_X3_signOf, by decide +kernel⟩
theorem cw_X3_41 : CW RX3 41 yX3_multiply cX3_multiply 3 none 1 true false := ⟨wm_X3_41, wn_X3, wc_X3_multiply, ⟨wi_X3_multiply, ws_X3_multiply⟩, by decide +kernel⟩
theorem cw_X3_45 : CW RX3 45 yX3_divide cX3_divide 3 none 1 true false := ⟨wm_X3_45, wn_X3, wc_X3_divide, ⟨wi_X3_divide, ws_X3_divide⟩, by decide +kernel⟩
theorem cw_X3_27 : CW RX3 27 yX3_layPowers cX3_layPowers 2 none 0 true false := ⟨wm_X3_27, wn_X3, wc_X3_layPowers, ⟨wi_X3_layPowers, ws_X3_layPowers⟩, by decide +kernel⟩
theorem cw_X3_54 : CW RX3 54 yX3_turnByOne cX3_turnByOne 4 none 1 true false := ⟨wm_X3_54, wn_X3, wc_X3_turnByOne, ⟨wi_X3_turnByOne, ws_X3_turnByOne⟩, by decide +kernel⟩
theorem cw_L_13 : CW RL 13 yX8_motor cX8_motor 4 (some .int) 3 true false := ⟨wm_L_13, wn_X8, wc_X8_motor, ⟨wi_X8_motor, ws_X8_motor⟩, by decide +kernel⟩
theorem cw_X8_81 : CW RX8 81 yX8_isWithin cX8_isWithin 3 (some .boolean) 3 false false := ⟨wm_X8_81, wn_X8, wc_X8_isWithin, wt_X8_isWithin, by decide +kernel⟩
theorem cw_X8_85 : CW RX8 85 yX0_keepFirst cX0_keepFirst 2 none 1 true false := ⟨wm_X8_85, wn_X0, wc_X0_keepFirst, ⟨wi_X0_keepFirst, ws_X0_keepFirst⟩, by decide +kernel⟩
theorem cw_L_18 : CW RL 18 yX8_coil cX8_coil 5 (some .int) 4 true false := ⟨wm_L_18, wn_X8, wc_X8_coil, ⟨wi_X8_coil, ws_X8_coil⟩, by decide +kernel⟩
theorem cw_X8_94 : CW RX8 94 yX0_lay cX0_lay 5 (some .int) 4 true false := ⟨wm_X8_94, wn_X0, wc_X0_lay, ⟨wi_X0_lay, ws_X0_lay⟩, by decide +kernel⟩
theorem cw_X0_43 : CW RX0 43 yX1_hasPhase cX1_hasPhase 2 (some .boolean) 1 true false := ⟨wm_X0_43, wn_X1, wc_X1_hasPhase, ⟨wi_X1_hasPhase, ws_X1_hasPhase⟩, by decide +kernel⟩
theorem cw_X1_19 : CW RX1 19 yX8_isWithin cX8_isWithin 3 (some .boolean) 3 false true := ⟨wm_X1_19, wn_X8, wc_X8_isWithin, wt_X8_isWithin, by decide +kernel⟩
theorem cw_X0_49 : CW RX0 49 yX1_hasSlot cX1_hasSlot 2 (some .boolean) 1 true false := ⟨wm_X0_49, wn_X1, wc_X1_hasSlot, ⟨wi_X1_hasSlot, ws_X1_hasSlot⟩, by decide +kernel⟩
theorem cw_X0_39 : CW RX0 39 yX8_isWithin cX8_isWithin 3 (some .boolean) 3 false true := ⟨wm_X0_39, wn_X8, wc_X8_isWithin, wt_X8_isWithin, by decide +kernel⟩
theorem cw_L_23 : CW RL 23 yX8_use cX8_use 4 (some .int) 2 true false := ⟨wm_L_23, wn_X8, wc_X8_use, ⟨wi_X8_use, ws_X8_use⟩, by decide +kernel⟩
theorem cw_X8_98 : CW RX8 98 yX0_has cX0_has 2 (some .boolean) 1 true false := ⟨wm_X8_98, wn_X0, wc_X0_has, ⟨wi_X0_has, ws_X0_has⟩, by decide +kernel⟩
theorem cw_X8_106 : CW RX8 106 yX8_oneIf cX8_oneIf 1 (some .int) 1 false false := ⟨wm_X8_106, wn_X8, wc_X8_oneIf, wt_X8_oneIf, by decide +kernel⟩
theorem cw_L_28 : CW RL 28 yX8_clear cX8_clear 2 (some .int) 0 true false := ⟨wm_L_28, wn_X8, wc_X8_clear, ⟨wi_X8_clear, ws_X8_clear⟩, by decide +kernel⟩
theorem cw_L_33 : CW RL 33 yX8_make cX8_make 3 (some .int) 1 true false := ⟨wm_L_33, wn_X8, wc_X8_make, ⟨wi_X8_make, ws_X8_make⟩, by decide +kernel⟩
theorem cw_X8_113 : CW RX8 113 yX8_layByRule cX8_layByRule 5 none 2 true false := ⟨wm_X8_113, wn_X8, wc_X8_layByRule, ⟨wi_X8_layByRule, ws_X8_layByRule⟩, by decide +kernel⟩
theorem cw_X8_117 : CW RX8 117 yX1_beltOf cX1_beltOf 2 (some .int) 1 true false := ⟨wm_X8_117, wn_X1, wc_X1_beltOf, ⟨wi_X1_beltOf, ws_X1_beltOf⟩, by decide +kernel⟩
theorem cw_X8_121 : CW RX8 121 yX1_isTurnedRound cX1_isTurnedRound 2 (some .boolean) 1 true false := ⟨wm_X8_121, wn_X1, wc_X1_isTurnedRound, ⟨wi_X1_isTurnedRound, ws_X1_isTurnedRound⟩, by decide +kernel⟩
theorem cw_X8_124 : CW RX8 124 yX1_phaseOf cX1_phaseOf 2 (some .int) 1 true false := ⟨wm_X8_124, wn_X1, wc_X1_phaseOf, ⟨wi_X1_phaseOf, ws_X1_phaseOf⟩, by decide +kernel⟩
theorem cw_L_38 : CW RL 38 yX8_told cX8_told 3 (some .int) 2 true false := ⟨wm_L_38, wn_X8, wc_X8_told, ⟨wi_X8_told, ws_X8_told⟩, by decide +kernel⟩
theorem cw_L_43 : CW RL 43 yX8_sides cX8_sides 2 (some .int) 1 true false := ⟨wm_L_43, wn_X8, wc_X8_sides, ⟨wi_X8_sides, ws_X8_sides⟩, by decide +kernel⟩
theorem cw_X8_140 : CW RX8 140 yX1_hasSlot cX1_hasSlot 2 (some .boolean) 1 true false := ⟨wm_X8_140, wn_X1, wc_X1_hasSlot, ⟨wi_X1_hasSlot, ws_X1_hasSlot⟩, by decide +kernel⟩
theorem cw_L_47 : CW RL 47 yX8_count cX8_count 2 (some .int) 1 true false := ⟨wm_L_47, wn_X8, wc_X8_count, ⟨wi_X8_count, ws_X8_count⟩, by decide +kernel⟩
theorem cw_X8_146 : CW RX8 146 yX0_inUse cX0_inUse 3 (some .int) 0 true false := ⟨wm_X8_146, wn_X0, wc_X0_inUse, ⟨wi_X0_inUse, ws_X0_inUse⟩, by decide +kernel⟩
theorem cw_X0_52 : CW RX0 52 yX8_oneIf cX8_oneIf 1 (some .int) 1 false true := ⟨wm_X0_52, wn_X8, wc_X8_oneIf, wt_X8_oneIf, by decide +kernel⟩
theorem cw_X8_153 : CW RX8 153 yX8_leastCommonMultiple cX8_leastCommonMultiple 2 (some .int) 2 false false := ⟨wm_X8_153, wn_X8, wc_X8_leastCommonMultiple, wt_X8_leastCommonMultiple, by decide +kernel⟩
theorem cw_X8_235 : CW RX8 235 yX8_greatestCommonDivisor cX8_greatestCommonDivisor 4 (some .int) 2 false false := ⟨wm_X8_235, wn_X8, wc_X8_greatestCommonDivisor, wt_X8_greatestCommonDivisor, by decide +kernel⟩
theorem cw_X8_157 : CW RX8 157 yX1_isEven cX1_isEven 1 (some .boolean) 0 true false := ⟨wm_X8_157, wn_X1, wc_X1_isEven, ⟨wi_X1_isEven, ws_X1_isEven⟩, by decide +kernel⟩
theorem cw_X1_35 : CW RX1 35 yX8_greatestCommonDivisor cX8_greatestCommonDivisor 4 (some .int) 2 false true := ⟨wm_X1_35, wn_X8, wc_X8_greatestCommonDivisor, wt_X8_greatestCommonDivisor, by decide +kernel⟩
theorem cw_L_51 : CW RL 51 yX8_cyclotomic cX8_cyclotomic 2 (some .int) 1 true false := ⟨wm_L_51, wn_X8, wc_X8_cyclotomic, ⟨wi_X8_cyclotomic, ws_X8_cyclotomic⟩, by decide +kernel⟩
theorem cw_L_55 : CW RL 55 yX8_wave cX8_wave 4 (some .int) 3 true false := ⟨wm_L_55, wn_X8, wc_X8_wave, ⟨wi_X8_wave, ws_X8_wave⟩, by decide +kernel⟩
theorem cw_X8_164 : CW RX8 164 yX1_hasPhase cX1_hasPhase 2 (some .boolean) 1 true false := ⟨wm_X8_164, wn_X1, wc_X1_hasPhase, ⟨wi_X1_hasPhase, ws_X1_hasPhase⟩, by decide +kernel⟩
theorem cw_X8_167 : CW RX8 167 yX8_isTone cX8_isTone 1 (some .boolean) 1 false false := ⟨wm_X8_167, wn_X8, wc_X8_isTone, wt_X8_isTone, by decide +kernel⟩
theorem cw_X8_171 : CW RX8 171 yX6_gather cX6_gather 3 none 1 true false := ⟨wm_X8_171, wn_X6, wc_X6_gather, ⟨wi_X6_gather, ws_X6_gather⟩, by decide +kernel⟩
theorem cw_X6_39 : CW RX6 39 yX6_setToNought cX6_setToNought 2 none 1 false false := ⟨wm_X6_39, wn_X6, wc_X6_setToNought, wt_X6_setToNought, by decide +kernel⟩
theorem cw_X6_52 : CW RX6 52 yX6_addCoil cX6_addCoil 5 none 2 true false := ⟨wm_X6_52, wn_X6, wc_X6_addCoil, ⟨wi_X6_addCoil, ws_X6_addCoil⟩, by decide +kernel⟩
theorem cw_X6_65 : CW RX6 65 yX3_add cX3_add 6 none 3 true false := ⟨wm_X6_65, wn_X3, wc_X3_add, ⟨wi_X3_add, ws_X3_add⟩, by decide +kernel⟩
theorem cw_X3_57 : CW RX3 57 yJ9_floorMod_7cf53 cJ9_floorMod_7cf53 3 (some .int) 2 false false := ⟨wm_X3_57, wn_J9, wc_J9_floorMod_7cf53, wt_J9_floorMod_7cf53, by decide +kernel⟩
theorem cw_L_59 : CW RL 59 yX8_isStill cX8_isStill 3 (some .int) 2 true false := ⟨wm_L_59, wn_X8, wc_X8_isStill, ⟨wi_X8_isStill, ws_X8_isStill⟩, by decide +kernel⟩
theorem cw_X8_178 : CW RX8 178 yX6_isNought cX6_isNought 2 (some .boolean) 1 true false := ⟨wm_X8_178, wn_X6, wc_X6_isNought, ⟨wi_X6_isNought, ws_X6_isNought⟩, by decide +kernel⟩
theorem cw_X6_74 : CW RX6 74 yX3_isNought cX3_isNought 3 (some .boolean) 1 true false := ⟨wm_X6_74, wn_X3, wc_X3_isNought, ⟨wi_X3_isNought, ws_X3_isNought⟩, by decide +kernel⟩
theorem cw_L_63 : CW RL 63 yX8_balanced cX8_balanced 2 (some .int) 1 true false := ⟨wm_L_63, wn_X8, wc_X8_balanced, ⟨wi_X8_balanced, ws_X8_balanced⟩, by decide +kernel⟩
theorem cw_X8_181 : CW RX8 181 yX6_leastTurn cX6_leastTurn 2 (some .int) 0 true false := ⟨wm_X8_181, wn_X6, wc_X6_leastTurn, ⟨wi_X6_leastTurn, ws_X6_leastTurn⟩, by decide +kernel⟩
theorem cw_X6_83 : CW RX6 83 yX6_isNoughtTogether cX6_isNoughtTogether 3 (some .boolean) 0 true false := ⟨wm_X6_83, wn_X6, wc_X6_isNoughtTogether, ⟨wi_X6_isNoughtTogether, ws_X6_isNoughtTogether⟩, by decide +kernel⟩
theorem cw_X6_87 : CW RX6 87 yX6_findLikeTurns cX6_findLikeTurns 3 none 0 true false := ⟨wm_X6_87, wn_X6, wc_X6_findLikeTurns, ⟨wi_X6_findLikeTurns, ws_X6_findLikeTurns⟩, by decide +kernel⟩
theorem cw_X6_106 : CW RX6 106 yX3_areSame cX3_areSame 4 (some .boolean) 2 true false := ⟨wm_X6_106, wn_X3, wc_X3_areSame, ⟨wi_X3_areSame, ws_X3_areSame⟩, by decide +kernel⟩
theorem cw_X6_110 : CW RX6 110 yX3_turnByOne cX3_turnByOne 4 none 1 true false := ⟨wm_X6_110, wn_X3, wc_X3_turnByOne, ⟨wi_X3_turnByOne, ws_X3_turnByOne⟩, by decide +kernel⟩
theorem cw_X6_93 : CW RX6 93 yX6_isLikeBy cX6_isLikeBy 4 (some .boolean) 1 true false := ⟨wm_X6_93, wn_X6, wc_X6_isLikeBy, ⟨wi_X6_isLikeBy, ws_X6_isLikeBy⟩, by decide +kernel⟩
theorem cw_L_67 : CW RL 67 yX8_ways cX8_ways 3 (some .int) 2 true false := ⟨wm_L_67, wn_X8, wc_X8_ways, ⟨wi_X8_ways, ws_X8_ways⟩, by decide +kernel⟩
theorem cw_X8_184 : CW RX8 184 yX7_part cX7_part 3 (some .int) 2 true false := ⟨wm_X8_184, wn_X7, wc_X7_part, ⟨wi_X7_part, ws_X7_part⟩, by decide +kernel⟩
theorem cw_X7_41 : CW RX7 41 yX0_gather cX0_gather 5 (some .int) 2 true false := ⟨wm_X7_41, wn_X0, wc_X0_gather, ⟨wi_X0_gather, ws_X0_gather⟩, by decide +kernel⟩
theorem cw_X0_56 : CW RX0 56 yX0_isUsedIn cX0_isUsedIn 3 (some .boolean) 2 true false := ⟨wm_X0_56, wn_X0, wc_X0_isUsedIn, ⟨wi_X0_isUsedIn, ws_X0_isUsedIn⟩, by decide +kernel⟩
theorem cw_X7_54 : CW RX7 54 yX7_choose cX7_choose 5 (some .boolean) 2 true false := ⟨wm_X7_54, wn_X7, wc_X7_choose, ⟨wi_X7_choose, ws_X7_choose⟩, by decide +kernel⟩
theorem cw_X7_61 : CW RX7 61 yX7_areAllSame cX7_areAllSame 2 (some .boolean) 0 true false := ⟨wm_X7_61, wn_X7, wc_X7_areAllSame, ⟨wi_X7_areAllSame, ws_X7_areAllSame⟩, by decide +kernel⟩
theorem cw_X7_95 : CW RX7 95 yX3_areSame cX3_areSame 4 (some .boolean) 2 true false := ⟨wm_X7_95, wn_X3, wc_X3_areSame, ⟨wi_X3_areSame, ws_X3_areSame⟩, by decide +kernel⟩
theorem cw_X7_65 : CW RX7 65 yX7_move cX7_move 5 none 3 true false := ⟨wm_X7_65, wn_X7, wc_X7_move, ⟨wi_X7_move, ws_X7_move⟩, by decide +kernel⟩
theorem cw_X7_86 : CW RX7 86 yX3_add cX3_add 6 none 3 true false := ⟨wm_X7_86, wn_X3, wc_X3_add, ⟨wi_X3_add, ws_X3_add⟩, by decide +kernel⟩
theorem cw_X7_69 : CW RX7 69 yJ9_max_7cf53 cJ9_max_7cf53 2 (some .int) 2 false false := ⟨wm_X7_69, wn_J9, wc_J9_max_7cf53, wt_J9_max_7cf53, by decide +kernel⟩
theorem cw_X7_58 : CW RX7 58 yX7_keepChosen cX7_keepChosen 2 none 0 true false := ⟨wm_X7_58, wn_X7, wc_X7_keepChosen, ⟨wi_X7_keepChosen, ws_X7_keepChosen⟩, by decide +kernel⟩
theorem cw_L_71 : CW RL 71 yX8_wayOf cX8_wayOf 2 (some .int) 1 true false := ⟨wm_L_71, wn_X8, wc_X8_wayOf, ⟨wi_X8_wayOf, ws_X8_wayOf⟩, by decide +kernel⟩
theorem cw_L_75 : CW RL 75 yX8_copper cX8_copper 3 (some .int) 0 true false := ⟨wm_L_75, wn_X8, wc_X8_copper, ⟨wi_X8_copper, ws_X8_copper⟩, by decide +kernel⟩
theorem cw_X8_190 : CW RX8 190 yX1_between cX1_between 4 (some .int) 2 true false := ⟨wm_X8_190, wn_X1, wc_X1_between, ⟨wi_X1_between, ws_X1_between⟩, by decide +kernel⟩
theorem cw_X1_25 : CW RX1 25 yJ9_abs_0f7a4 cJ9_abs_0f7a4 1 (some .int) 1 false false := ⟨wm_X1_25, wn_J9, wc_J9_abs_0f7a4, wt_J9_abs_0f7a4, by decide +kernel⟩
theorem cw_X1_31 : CW RX1 31 yJ9_min_7cf53 cJ9_min_7cf53 2 (some .int) 2 false false := ⟨wm_X1_31, wn_J9, wc_J9_min_7cf53, wt_J9_min_7cf53, by decide +kernel⟩
theorem cw_L_79 : CW RL 79 yX8_tour cX8_tour 2 (some .int) 1 true false := ⟨wm_L_79, wn_X8, wc_X8_tour, ⟨wi_X8_tour, ws_X8_tour⟩, by decide +kernel⟩
theorem cw_X8_193 : CW RX8 193 yX5_shortest cX5_shortest 2 (some .int) 1 true false := ⟨wm_X8_193, wn_X5, wc_X5_shortest, ⟨wi_X5_shortest, ws_X5_shortest⟩, by decide +kernel⟩
theorem cw_X5_29 : CW RX5 29 yX0_gather cX0_gather 5 (some .int) 2 true false := ⟨wm_X5_29, wn_X0, wc_X0_gather, ⟨wi_X0_gather, ws_X0_gather⟩, by decide +kernel⟩
theorem cw_X5_45 : CW RX5 45 yX5_goOn cX5_goOn 4 none 2 true false := ⟨wm_X5_45, wn_X5, wc_X5_goOn, ⟨wi_X5_goOn, ws_X5_goOn⟩, by decide +kernel⟩
theorem cw_X5_49 : CW RX5 49 yX5_step cX5_step 3 (some .int) 2 true false := ⟨wm_X5_49, wn_X5, wc_X5_step, ⟨wi_X5_step, ws_X5_step⟩, by decide +kernel⟩
theorem cw_X5_67 : CW RX5 67 yX1_between cX1_between 4 (some .int) 2 true false := ⟨wm_X5_67, wn_X1, wc_X1_between, ⟨wi_X1_between, ws_X1_between⟩, by decide +kernel⟩
theorem cw_X5_53 : CW RX5 53 yX5_keepIfLess cX5_keepIfLess 2 none 1 true false := ⟨wm_X5_53, wn_X5, wc_X5_keepIfLess, ⟨wi_X5_keepIfLess, ws_X5_keepIfLess⟩, by decide +kernel⟩
theorem cw_L_83 : CW RL 83 yX8_tourAt cX8_tourAt 2 (some .int) 1 true false := ⟨wm_L_83, wn_X8, wc_X8_tourAt, ⟨wi_X8_tourAt, ws_X8_tourAt⟩, by decide +kernel⟩
theorem cw_L_87 : CW RL 87 yX8_mend cX8_mend 1 (some .int) 0 true false := ⟨wm_L_87, wn_X8, wc_X8_mend, ⟨wi_X8_mend, ws_X8_mend⟩, by decide +kernel⟩
theorem cw_X8_200 : CW RX8 200 yX2_fewestToMend cX2_fewestToMend 2 (some .int) 0 true false := ⟨wm_X8_200, wn_X2, wc_X2_fewestToMend, ⟨wi_X2_fewestToMend, ws_X2_fewestToMend⟩, by decide +kernel⟩
theorem cw_X2_36 : CW RX2 36 yX6_gather cX6_gather 3 none 1 true false := ⟨wm_X2_36, wn_X6, wc_X6_gather, ⟨wi_X6_gather, ws_X6_gather⟩, by decide +kernel⟩
theorem cw_X2_42 : CW RX2 42 yX2_pickToMend cX2_pickToMend 6 (some .boolean) 3 true false := ⟨wm_X2_42, wn_X2, wc_X2_pickToMend, ⟨wi_X2_pickToMend, ws_X2_pickToMend⟩, by decide +kernel⟩
theorem cw_X2_50 : CW RX2 50 yX6_isNought cX6_isNought 2 (some .boolean) 1 true false := ⟨wm_X2_50, wn_X6, wc_X6_isNought, ⟨wi_X6_isNought, ws_X6_isNought⟩, by decide +kernel⟩
theorem cw_X2_54 : CW RX2 54 yX6_leastTurn cX6_leastTurn 2 (some .int) 0 true false := ⟨wm_X2_54, wn_X6, wc_X6_leastTurn, ⟨wi_X6_leastTurn, ws_X6_leastTurn⟩, by decide +kernel⟩
theorem cw_X2_67 : CW RX2 67 yX6_addCoil cX6_addCoil 5 none 2 true false := ⟨wm_X2_67, wn_X6, wc_X6_addCoil, ⟨wi_X6_addCoil, ws_X6_addCoil⟩, by decide +kernel⟩
theorem cw_X2_46 : CW RX2 46 yX2_keep cX2_keep 2 (some .int) 1 true false := ⟨wm_X2_46, wn_X2, wc_X2_keep, ⟨wi_X2_keep, ws_X2_keep⟩, by decide +kernel⟩
theorem cw_L_91 : CW RL 91 yX8_shorts cX8_shorts 3 (some .int) 2 true false := ⟨wm_L_91, wn_X8, wc_X8_shorts, ⟨wi_X8_shorts, ws_X8_shorts⟩, by decide +kernel⟩
theorem cw_X8_203 : CW RX8 203 yX2_fewestShort cX2_fewestShort 5 (some .int) 2 true false := ⟨wm_X8_203, wn_X2, wc_X2_fewestShort, ⟨wi_X2_fewestShort, ws_X2_fewestShort⟩, by decide +kernel⟩
theorem cw_X2_71 : CW RX2 71 yX2_turnsOf cX2_turnsOf 4 (some .int) 1 true false := ⟨wm_X2_71, wn_X2, wc_X2_turnsOf, ⟨wi_X2_turnsOf, ws_X2_turnsOf⟩, by decide +kernel⟩
theorem cw_X2_78 : CW RX2 78 yX0_isUsedIn cX0_isUsedIn 3 (some .boolean) 2 true false := ⟨wm_X2_78, wn_X0, wc_X0_isUsedIn, ⟨wi_X0_isUsedIn, ws_X0_isUsedIn⟩, by decide +kernel⟩
theorem cw_X2_74 : CW RX2 74 yX2_pickShort cX2_pickShort 7 (some .boolean) 5 true false := ⟨wm_X2_74, wn_X2, wc_X2_pickShort, ⟨wi_X2_pickShort, ws_X2_pickShort⟩, by decide +kernel⟩
theorem cw_L_95 : CW RL 95 yX8_picked cX8_picked 2 (some .int) 1 true false := ⟨wm_L_95, wn_X8, wc_X8_picked, ⟨wi_X8_picked, ws_X8_picked⟩, by decide +kernel⟩
theorem cw_L_99 : CW RL 99 yX8_sheet cX8_sheet 4 (some .int) 3 true false := ⟨wm_L_99, wn_X8, wc_X8_sheet, ⟨wi_X8_sheet, ws_X8_sheet⟩, by decide +kernel⟩
theorem cw_X8_208 : CW RX8 208 yX4_hasPlace cX4_hasPlace 3 (some .boolean) 2 true false := ⟨wm_X8_208, wn_X4, wc_X4_hasPlace, ⟨wi_X4_hasPlace, ws_X4_hasPlace⟩, by decide +kernel⟩
theorem cw_X4_23 : CW RX4 23 yX8_isWithin cX8_isWithin 3 (some .boolean) 3 false true := ⟨wm_X4_23, wn_X8, wc_X8_isWithin, wt_X8_isWithin, by decide +kernel⟩
theorem cw_X8_212 : CW RX8 212 yX4_renew cX4_renew 5 none 3 true false := ⟨wm_X8_212, wn_X4, wc_X4_renew, ⟨wi_X4_renew, ws_X4_renew⟩, by decide +kernel⟩
theorem cw_L_103 : CW RL 103 yX8_drop cX8_drop 2 (some .int) 1 true false := ⟨wm_L_103, wn_X8, wc_X8_drop, ⟨wi_X8_drop, ws_X8_drop⟩, by decide +kernel⟩
theorem cw_X8_216 : CW RX8 216 yX4_isMissing cX4_isMissing 2 (some .boolean) 1 true false := ⟨wm_X8_216, wn_X4, wc_X4_isMissing, ⟨wi_X4_isMissing, ws_X4_isMissing⟩, by decide +kernel⟩
theorem cw_X8_219 : CW RX8 219 yX4_empty cX4_empty 2 (some .int) 1 true false := ⟨wm_X8_219, wn_X4, wc_X4_empty, ⟨wi_X4_empty, ws_X4_empty⟩, by decide +kernel⟩
theorem cw_L_107 : CW RL 107 yX8_item cX8_item 6 (some .int) 4 true false := ⟨wm_L_107, wn_X8, wc_X8_item, ⟨wi_X8_item, ws_X8_item⟩, by decide +kernel⟩
theorem cw_X8_222 : CW RX8 222 yX4_refusalOf cX4_refusalOf 5 (some .int) 4 true false := ⟨wm_X8_222, wn_X4, wc_X4_refusalOf, ⟨wi_X4_refusalOf, ws_X4_refusalOf⟩, by decide +kernel⟩
theorem cw_X4_27 : CW RX4 27 yX4_isMissing cX4_isMissing 2 (some .boolean) 1 true false := ⟨wm_X4_27, wn_X4, wc_X4_isMissing, ⟨wi_X4_isMissing, ws_X4_isMissing⟩, by decide +kernel⟩
theorem cw_X8_225 : CW RX8 225 yX4_put cX4_put 4 none 3 true false := ⟨wm_X8_225, wn_X4, wc_X4_put, ⟨wi_X4_put, ws_X4_put⟩, by decide +kernel⟩
theorem cw_L_111 : CW RL 111 yX8_coils cX8_coils 6 (some .int) 4 true false := ⟨wm_L_111, wn_X8, wc_X8_coils, ⟨wi_X8_coils, ws_X8_coils⟩, by decide +kernel⟩
theorem cw_X8_231 : CW RX8 231 yX8_layAll cX8_layAll 8 (some .int) 3 true false := ⟨wm_X8_231, wn_X8, wc_X8_layAll, ⟨wi_X8_layAll, ws_X8_layAll⟩, by decide +kernel⟩
theorem cw_X9_93 : CW RX9 93 yX9_findCyclotomic cX9_findCyclotomic 4 none 0 true false := ⟨wm_X9_93, wn_X9, wc_X9_findCyclotomic, ⟨wi_X9_findCyclotomic, ws_X9_findCyclotomic⟩, by decide +kernel⟩
theorem cw_X9_136 : CW RX9 136 yX9_divide cX9_divide 7 (some .int) 2 true false := ⟨wm_X9_136, wn_X9, wc_X9_divide, ⟨wi_X9_divide, ws_X9_divide⟩, by decide +kernel⟩
theorem cw_L_17 : CW RL 17 yX9_motor cX9_motor 5 (some .int) 3 true false := ⟨wm_L_17, wn_X9, wc_X9_motor, ⟨wi_X9_motor, ws_X9_motor⟩, by decide +kernel⟩
theorem cw_X9_100 : CW RX9 100 yX9_in cX9_in 6 (some .boolean) 3 false false := ⟨wm_X9_100, wn_X9, wc_X9_in, wt_X9_in, by decide +kernel⟩
theorem cw_X9_106 : CW RX9 106 yX9_clear cX9_clear 3 (some .int) 0 true false := ⟨wm_X9_106, wn_X9, wc_X9_clear, ⟨wi_X9_clear, ws_X9_clear⟩, by decide +kernel⟩
theorem cw_L_22 : CW RL 22 yX9_coil cX9_coil 5 (some .int) 4 true false := ⟨wm_L_22, wn_X9, wc_X9_coil, ⟨wi_X9_coil, ws_X9_coil⟩, by decide +kernel⟩
theorem cw_X9_119 : CW RX9 119 yX9_isCoil cX9_isCoil 9 (some .boolean) 4 true false := ⟨wm_X9_119, wn_X9, wc_X9_isCoil, ⟨wi_X9_isCoil, ws_X9_isCoil⟩, by decide +kernel⟩
theorem cw_X9_110 : CW RX9 110 yX9_isSlot cX9_isSlot 3 (some .boolean) 1 true false := ⟨wm_X9_110, wn_X9, wc_X9_isSlot, ⟨wi_X9_isSlot, ws_X9_isSlot⟩, by decide +kernel⟩
theorem cw_X9_123 : CW RX9 123 yX9_add cX9_add 5 (some .int) 4 true false := ⟨wm_X9_123, wn_X9, wc_X9_add, ⟨wi_X9_add, ws_X9_add⟩, by decide +kernel⟩
theorem cw_L_27 : CW RL 27 yX9_use cX9_use 4 (some .int) 2 true false := ⟨wm_L_27, wn_X9, wc_X9_use, ⟨wi_X9_use, ws_X9_use⟩, by decide +kernel⟩
theorem cw_L_32 : CW RL 32 yX9_clear cX9_clear 3 (some .int) 0 true false := ⟨wm_L_32, wn_X9, wc_X9_clear, ⟨wi_X9_clear, ws_X9_clear⟩, by decide +kernel⟩
theorem cw_L_37 : CW RL 37 yX9_make cX9_make 9 (some .int) 1 true false := ⟨wm_L_37, wn_X9, wc_X9_make, ⟨wi_X9_make, ws_X9_make⟩, by decide +kernel⟩
theorem cw_L_42 : CW RL 42 yX9_told cX9_told 3 (some .int) 2 true false := ⟨wm_L_42, wn_X9, wc_X9_told, ⟨wi_X9_told, ws_X9_told⟩, by decide +kernel⟩
theorem cw_L_46 : CW RL 46 yX9_sides cX9_sides 2 (some .int) 1 true false := ⟨wm_L_46, wn_X9, wc_X9_sides, ⟨wi_X9_sides, ws_X9_sides⟩, by decide +kernel⟩
theorem cw_L_50 : CW RL 50 yX9_count cX9_count 4 (some .int) 1 true false := ⟨wm_L_50, wn_X9, wc_X9_count, ⟨wi_X9_count, ws_X9_count⟩, by decide +kernel⟩
theorem cw_X9_132 : CW RX9 132 yX9_common cX9_common 5 (some .int) 2 false false := ⟨wm_X9_132, wn_X9, wc_X9_common, wt_X9_common, by decide +kernel⟩
theorem cw_L_54 : CW RL 54 yX9_cyclotomic cX9_cyclotomic 2 (some .int) 1 true false := ⟨wm_L_54, wn_X9, wc_X9_cyclotomic, ⟨wi_X9_cyclotomic, ws_X9_cyclotomic⟩, by decide +kernel⟩
theorem cw_L_58 : CW RL 58 yX9_wave cX9_wave 4 (some .int) 3 true false := ⟨wm_L_58, wn_X9, wc_X9_wave, ⟨wi_X9_wave, ws_X9_wave⟩, by decide +kernel⟩
theorem cw_X9_152 : CW RX9 152 yX9_isTone cX9_isTone 1 (some .boolean) 1 false false := ⟨wm_X9_152, wn_X9, wc_X9_isTone, wt_X9_isTone, by decide +kernel⟩
theorem cw_X9_157 : CW RX9 157 yX9_findWave cX9_findWave 4 none 2 true false := ⟨wm_X9_157, wn_X9, wc_X9_findWave, ⟨wi_X9_findWave, ws_X9_findWave⟩, by decide +kernel⟩
theorem cw_X9_139 : CW RX9 139 yX9_clearRow cX9_clearRow 2 none 1 false false := ⟨wm_X9_139, wn_X9, wc_X9_clearRow, wt_X9_clearRow, by decide +kernel⟩
theorem cw_X9_143 : CW RX9 143 yX9_addCoil cX9_addCoil 8 none 5 true false := ⟨wm_X9_143, wn_X9, wc_X9_addCoil, ⟨wi_X9_addCoil, ws_X9_addCoil⟩, by decide +kernel⟩
theorem cw_X9_147 : CW RX9 147 yX9_reduce cX9_reduce 5 none 1 true false := ⟨wm_X9_147, wn_X9, wc_X9_reduce, ⟨wi_X9_reduce, ws_X9_reduce⟩, by decide +kernel⟩
theorem cw_L_62 : CW RL 62 yX9_isStill cX9_isStill 3 (some .int) 2 true false := ⟨wm_L_62, wn_X9, wc_X9_isStill, ⟨wi_X9_isStill, ws_X9_isStill⟩, by decide +kernel⟩
theorem cw_X9_165 : CW RX9 165 yX9_isStillAt cX9_isStillAt 3 (some .boolean) 2 true false := ⟨wm_X9_165, wn_X9, wc_X9_isStillAt, ⟨wi_X9_isStillAt, ws_X9_isStillAt⟩, by decide +kernel⟩
theorem cw_X9_161 : CW RX9 161 yX9_isZero cX9_isZero 4 (some .boolean) 1 true false := ⟨wm_X9_161, wn_X9, wc_X9_isZero, ⟨wi_X9_isZero, ws_X9_isZero⟩, by decide +kernel⟩
theorem cw_L_66 : CW RL 66 yX9_balanced cX9_balanced 2 (some .int) 1 true false := ⟨wm_L_66, wn_X9, wc_X9_balanced, ⟨wi_X9_balanced, ws_X9_balanced⟩, by decide +kernel⟩
theorem cw_X9_172 : CW RX9 172 yX9_balancedBy cX9_balancedBy 3 (some .int) 1 true false := ⟨wm_X9_172, wn_X9, wc_X9_balancedBy, ⟨wi_X9_balancedBy, ws_X9_balancedBy⟩, by decide +kernel⟩
theorem cw_X9_169 : CW RX9 169 yX9_isBalanced cX9_isBalanced 6 (some .boolean) 2 true false := ⟨wm_X9_169, wn_X9, wc_X9_isBalanced, ⟨wi_X9_isBalanced, ws_X9_isBalanced⟩, by decide +kernel⟩
theorem cw_L_70 : CW RL 70 yX9_ways cX9_ways 5 (some .int) 2 true false := ⟨wm_L_70, wn_X9, wc_X9_ways, ⟨wi_X9_ways, ws_X9_ways⟩, by decide +kernel⟩
theorem cw_X9_179 : CW RX9 179 yX9_listUsed cX9_listUsed 3 none 1 true false := ⟨wm_X9_179, wn_X9, wc_X9_listUsed, ⟨wi_X9_listUsed, ws_X9_listUsed⟩, by decide +kernel⟩
theorem cw_X9_183 : CW RX9 183 yX9_isParting cX9_isParting 5 (some .boolean) 1 true false := ⟨wm_X9_183, wn_X9, wc_X9_isParting, ⟨wi_X9_isParting, ws_X9_isParting⟩, by decide +kernel⟩
theorem cw_X9_186 : CW RX9 186 yX9_step cX9_step 3 (some .boolean) 1 true false := ⟨wm_X9_186, wn_X9, wc_X9_step, ⟨wi_X9_step, ws_X9_step⟩, by decide +kernel⟩
theorem cw_L_74 : CW RL 74 yX9_wayOf cX9_wayOf 2 (some .int) 1 true false := ⟨wm_L_74, wn_X9, wc_X9_wayOf, ⟨wi_X9_wayOf, ws_X9_wayOf⟩, by decide +kernel⟩
theorem cw_L_78 : CW RL 78 yX9_copper cX9_copper 3 (some .int) 0 true false := ⟨wm_L_78, wn_X9, wc_X9_copper, ⟨wi_X9_copper, ws_X9_copper⟩, by decide +kernel⟩
theorem cw_X9_189 : CW RX9 189 yX9_apart cX9_apart 4 (some .int) 2 true false := ⟨wm_X9_189, wn_X9, wc_X9_apart, ⟨wi_X9_apart, ws_X9_apart⟩, by decide +kernel⟩
theorem cw_L_82 : CW RL 82 yX9_tour cX9_tour 8 (some .int) 1 true false := ⟨wm_L_82, wn_X9, wc_X9_tour, ⟨wi_X9_tour, ws_X9_tour⟩, by decide +kernel⟩
theorem cw_L_86 : CW RL 86 yX9_tourAt cX9_tourAt 2 (some .int) 1 true false := ⟨wm_L_86, wn_X9, wc_X9_tourAt, ⟨wi_X9_tourAt, ws_X9_tourAt⟩, by decide +kernel⟩
theorem cw_L_90 : CW RL 90 yX9_mend cX9_mend 4 (some .int) 0 true false := ⟨wm_L_90, wn_X9, wc_X9_mend, ⟨wi_X9_mend, ws_X9_mend⟩, by decide +kernel⟩
theorem cw_X9_198 : CW RX9 198 yX9_isMended cX9_isMended 1 (some .boolean) 0 true false := ⟨wm_X9_198, wn_X9, wc_X9_isMended, ⟨wi_X9_isMended, ws_X9_isMended⟩, by decide +kernel⟩
theorem cw_X9_202 : CW RX9 202 yX9_pick cX9_pick 5 (some .int) 4 true false := ⟨wm_X9_202, wn_X9, wc_X9_pick, ⟨wi_X9_pick, ws_X9_pick⟩, by decide +kernel⟩
theorem cw_L_94 : CW RL 94 yX9_shorts cX9_shorts 7 (some .int) 2 true false := ⟨wm_L_94, wn_X9, wc_X9_shorts, ⟨wi_X9_shorts, ws_X9_shorts⟩, by decide +kernel⟩
theorem cw_L_98 : CW RL 98 yX9_picked cX9_picked 2 (some .int) 1 true false := ⟨wm_L_98, wn_X9, wc_X9_picked, ⟨wi_X9_picked, ws_X9_picked⟩, by decide +kernel⟩
theorem cw_L_102 : CW RL 102 yX9_sheet cX9_sheet 5 (some .int) 3 true false := ⟨wm_L_102, wn_X9, wc_X9_sheet, ⟨wi_X9_sheet, ws_X9_sheet⟩, by decide +kernel⟩
theorem cw_X9_209 : CW RX9 209 yX9_isSheet cX9_isSheet 2 (some .boolean) 2 false false := ⟨wm_X9_209, wn_X9, wc_X9_isSheet, wt_X9_isSheet, by decide +kernel⟩
theorem cw_L_106 : CW RL 106 yX9_drop cX9_drop 2 (some .int) 1 true false := ⟨wm_L_106, wn_X9, wc_X9_drop, ⟨wi_X9_drop, ws_X9_drop⟩, by decide +kernel⟩
theorem cw_L_110 : CW RL 110 yX9_item cX9_item 5 (some .int) 4 true false := ⟨wm_L_110, wn_X9, wc_X9_item, ⟨wi_X9_item, ws_X9_item⟩, by decide +kernel⟩
theorem cw_L_114 : CW RL 114 yX9_coils cX9_coils 8 (some .int) 4 true false := ⟨wm_L_114, wn_X9, wc_X9_coils, ⟨wi_X9_coils, ws_X9_coils⟩, by decide +kernel⟩
theorem wq_abs : Cond.code Lib.Math.abs.name Lib.Math.abs.code 1 (some .int) ∈ lw_good := tb_g 579 (by decide +kernel) rfl
theorem wq_min : Cond.code Lib.Math.min.name Lib.Math.min.code 2 (some .int) ∈ lw_good := tb_g 582 (by decide +kernel) rfl
theorem wq_max : Cond.code Lib.Math.max.name Lib.Math.max.code 2 (some .int) ∈ lw_good := tb_g 560 (by decide +kernel) rfl
theorem wq_abs_s : Cond.static Lib.Math.abs.name ∈ lw_good := tb_g 578 (by decide +kernel) rfl
theorem wq_min_s : Cond.static Lib.Math.min.name ∈ lw_good := tb_g 581 (by decide +kernel) rfl
theorem wq_max_s : Cond.static Lib.Math.max.name ∈ lw_good := tb_g 559 (by decide +kernel) rfl
theorem wq_X7_69 : Cond.methodLink RX7 69 Lib.Math.max.name ∈ lw_good := tb_g 558 (by decide +kernel) rfl
theorem wq_X1_25 : Cond.methodLink RX1 25 Lib.Math.abs.name ∈ lw_good := tb_g 577 (by decide +kernel) rfl
theorem wq_X1_31 : Cond.methodLink RX1 31 Lib.Math.min.name ∈ lw_good := tb_g 580 (by decide +kernel) rfl
section Gm
variable {N : Nat} {L : Nat → KD} {nL : Nat} {cc : ByteArray} {own : String} {rt : Option FieldType} {fr lo : Nat} {K : KT} {h : Mem} {pc : Nat} {lv : List (Nat × Value)} {st : List Value}
theorem g_mabs (X : Cx N L nL cc own rt fr lo K) {idx : Nat} {x v : Int32} (hw : Cond.methodLink own idx Lib.Math.abs.name ∈ lw_good) (hd : decode cc pc = .ok (.invokestatic idx, 3)) (q : Nat) (hq : pc + 3 = q) (hr : 1 ≤ fr ∧ 21 ≤ lo) (hst : (st.map fun v => v.category).sum ≤ 8) (hv : (if 0 ≤ x then x else 0 - x) = v) (k : G N L nL K h q lv (.int v :: st)) : G N L nL K h pc lv (.int x :: st) := by
  subst hq hv
  intro H locs ls hP hS hl
  have hrm := X.room
  exact va_mabs X.exec X.bytes (X.maxL.trans hl.1.symm) X.ow (X.ts _ hw) (X.ts _ wq_abs_s) (X.ts _ wn_J9) (X.ts _ wq_abs) (by rw [hrm.1]; exact hr.1) (by rw [hrm.2.1]; have := hr.2; omega) hrm.2.2.1 hrm.2.2.2 hd (k H locs ls hP hS hl)
theorem g_mmin (X : Cx N L nL cc own rt fr lo K) {idx : Nat} {x y v : Int32} (hw : Cond.methodLink own idx Lib.Math.min.name ∈ lw_good) (hd : decode cc pc = .ok (.invokestatic idx, 3)) (q : Nat) (hq : pc + 3 = q) (hr : 1 ≤ fr ∧ 21 ≤ lo) (hst : (st.map fun v => v.category).sum ≤ 8) (hv : (if y < x then y else x) = v) (k : G N L nL K h q lv (.int v :: st)) : G N L nL K h pc lv (.int y :: .int x :: st) := by
  subst hq hv
  intro H locs ls hP hS hl
  have hrm := X.room
  exact va_mmin X.exec X.bytes (X.maxL.trans hl.1.symm) X.ow (X.ts _ hw) (X.ts _ wq_min_s) (X.ts _ wn_J9) (X.ts _ wq_min) (by rw [hrm.1]; exact hr.1) (by rw [hrm.2.1]; have := hr.2; omega) hrm.2.2.1 hrm.2.2.2 hd (k H locs ls hP hS hl)
theorem g_mmax (X : Cx N L nL cc own rt fr lo K) {idx : Nat} {x y v : Int32} (hw : Cond.methodLink own idx Lib.Math.max.name ∈ lw_good) (hd : decode cc pc = .ok (.invokestatic idx, 3)) (q : Nat) (hq : pc + 3 = q) (hr : 1 ≤ fr ∧ 21 ≤ lo) (hst : (st.map fun v => v.category).sum ≤ 8) (hv : (if x < y then y else x) = v) (k : G N L nL K h q lv (.int v :: st)) : G N L nL K h pc lv (.int y :: .int x :: st) := by
  subst hq hv
  intro H locs ls hP hS hl
  have hrm := X.room
  exact va_mmax X.exec X.bytes (X.maxL.trans hl.1.symm) X.ow (X.ts _ hw) (X.ts _ wq_max_s) (X.ts _ wn_J9) (X.ts _ wq_max) (by rw [hrm.1]; exact hr.1) (by rw [hrm.2.1]; have := hr.2; omega) hrm.2.2.1 hrm.2.2.2 hd (k H locs ls hP hS hl)
end Gm
section Gx
variable {N : Nat} {L : Nat → KD} {nL : Nat} {cc : ByteArray} {own : String} {rt : Option FieldType} {fr lo : Nat} {K : KT} {h : Mem} {pc : Nat} {lv : List (Nat × Value)} {st : List Value}
theorem g_callVix {v : Int32} {m2 : Mem} (X : Cx N L nL cc own rt fr lo K) {idx : Nat} {y : MethodName} {bs : ByteArray} {mL n : Nat} {ret : Option FieldType} {fr2 lo2 : Nat} {av : (Nat → Nat) → List Value} {As st0 : List Value} (cw : CW own idx y bs mL ret n true false) (hM : cI N L y bs mL ret fr2 lo2 av h (fun r h' => r = v ∧ h' = m2)) (hd : decode cc pc = .ok (.invokevirtual idx, 3)) (q : Nat) (hq : pc + 3 = q) {c ci nf : Nat} {sk : Nat → Option Nat} {T : u_T} (hc : c < N) (hL : L c = .inl (ci, nf, sk)) (hcl : vwCl[ci]? = some (y.cls, T, nf)) (hav : av (kad K) = .ref (kad K c) :: As) (hn : As.length = n) (hst : st0 = As.reverse ++ .ref (kad K c) :: st) (hr : fr2 + 1 ≤ fr ∧ 19 + mL + lo2 ≤ lo) (hcat : (st.map fun v => v.category).sum ≤ 8) (k : G N L nL K m2 q lv (.int v :: st)) : G N L nL K h pc lv st0 :=
  g_callVi (st := st) X cw hM hd q hq hc hL hcl hav hn hst hr hcat (fun _ _ e => by obtain ⟨e1, e2⟩ := e; rw [e1, e2]; exact k)
theorem g_callVvx {m2 : Mem} (X : Cx N L nL cc own rt fr lo K) {idx : Nat} {y : MethodName} {bs : ByteArray} {mL n : Nat} {fr2 lo2 : Nat} {av : (Nat → Nat) → List Value} {As st0 : List Value} (cw : CW own idx y bs mL none n true false) (hM : cV N L y bs mL fr2 lo2 av h (fun h' => h' = m2)) (hd : decode cc pc = .ok (.invokevirtual idx, 3)) (q : Nat) (hq : pc + 3 = q) {c ci nf : Nat} {sk : Nat → Option Nat} {T : u_T} (hc : c < N) (hL : L c = .inl (ci, nf, sk)) (hcl : vwCl[ci]? = some (y.cls, T, nf)) (hav : av (kad K) = .ref (kad K c) :: As) (hn : As.length = n) (hst : st0 = As.reverse ++ .ref (kad K c) :: st) (hr : fr2 + 1 ≤ fr ∧ 19 + mL + lo2 ≤ lo) (hcat : (st.map fun v => v.category).sum ≤ 8) (k : G N L nL K m2 q lv st) : G N L nL K h pc lv st0 :=
  g_callVv (st := st) X cw hM hd q hq hc hL hcl hav hn hst hr hcat (fun _ e => e ▸ k)
theorem g_callVNix {v : Int32} {m2 : Mem} (X : Cx N L nL cc own rt fr lo K) {idx : Nat} {y : MethodName} {bs : ByteArray} {mL n : Nat} {ret : Option FieldType} {fr2 lo2 : Nat} {av : (Nat → Nat) → List Value} {As st0 : List Value} (cw : CW own idx y bs mL ret n true true) (hM : cI N L y bs mL ret fr2 lo2 av h (fun r h' => r = v ∧ h' = m2)) (hd : decode cc pc = .ok (.invokevirtual idx, 3)) (q : Nat) (hq : pc + 3 = q) {c ci nf : Nat} {sk : Nat → Option Nat} {T : u_T} (hc : c < N) (hL : L c = .inl (ci, nf, sk)) (hcl : vwCl[ci]? = some (y.cls, T, nf)) (hav : av (kad K) = .ref (kad K c) :: As) (hn : As.length = n) (hst : st0 = As.reverse ++ .ref (kad K c) :: st) (hr : fr2 + 1 ≤ fr ∧ 19 + mL + lo2 ≤ lo) (hcat : (st.map fun v => v.category).sum ≤ 8) (k : G N L nL K m2 q lv (.int v :: st)) : G N L nL K h pc lv st0 :=
  g_callVNi (st := st) X cw hM hd q hq hc hL hcl hav hn hst hr hcat (fun _ _ e => by obtain ⟨e1, e2⟩ := e; rw [e1, e2]; exact k)
theorem g_callVNvx {m2 : Mem} (X : Cx N L nL cc own rt fr lo K) {idx : Nat} {y : MethodName} {bs : ByteArray} {mL n : Nat} {fr2 lo2 : Nat} {av : (Nat → Nat) → List Value} {As st0 : List Value} (cw : CW own idx y bs mL none n true true) (hM : cV N L y bs mL fr2 lo2 av h (fun h' => h' = m2)) (hd : decode cc pc = .ok (.invokevirtual idx, 3)) (q : Nat) (hq : pc + 3 = q) {c ci nf : Nat} {sk : Nat → Option Nat} {T : u_T} (hc : c < N) (hL : L c = .inl (ci, nf, sk)) (hcl : vwCl[ci]? = some (y.cls, T, nf)) (hav : av (kad K) = .ref (kad K c) :: As) (hn : As.length = n) (hst : st0 = As.reverse ++ .ref (kad K c) :: st) (hr : fr2 + 1 ≤ fr ∧ 19 + mL + lo2 ≤ lo) (hcat : (st.map fun v => v.category).sum ≤ 8) (k : G N L nL K m2 q lv st) : G N L nL K h pc lv st0 :=
  g_callVNv (st := st) X cw hM hd q hq hc hL hcl hav hn hst hr hcat (fun _ e => e ▸ k)
theorem g_callSix {v : Int32} {m2 : Mem} (X : Cx N L nL cc own rt fr lo K) {idx : Nat} {y : MethodName} {bs : ByteArray} {mL n : Nat} {ret : Option FieldType} {fr2 lo2 : Nat} {av : (Nat → Nat) → List Value} {As st0 : List Value} (cw : CW own idx y bs mL ret n false false) (hM : cI N L y bs mL ret fr2 lo2 av h (fun r h' => r = v ∧ h' = m2)) (hd : decode cc pc = .ok (.invokestatic idx, 3)) (q : Nat) (hq : pc + 3 = q) (hav : av (kad K) = As) (hn : As.length = n) (hst : st0 = As.reverse ++ st) (hr : fr2 + 1 ≤ fr ∧ 19 + mL + lo2 ≤ lo) (hcat : (st.map fun v => v.category).sum ≤ 8) (k : G N L nL K m2 q lv (.int v :: st)) : G N L nL K h pc lv st0 :=
  g_callSi (st := st) X cw hM hd q hq hav hn hst hr hcat (fun _ _ e => by obtain ⟨e1, e2⟩ := e; rw [e1, e2]; exact k)
theorem g_callSvx {m2 : Mem} (X : Cx N L nL cc own rt fr lo K) {idx : Nat} {y : MethodName} {bs : ByteArray} {mL n : Nat} {fr2 lo2 : Nat} {av : (Nat → Nat) → List Value} {As st0 : List Value} (cw : CW own idx y bs mL none n false false) (hM : cV N L y bs mL fr2 lo2 av h (fun h' => h' = m2)) (hd : decode cc pc = .ok (.invokestatic idx, 3)) (q : Nat) (hq : pc + 3 = q) (hav : av (kad K) = As) (hn : As.length = n) (hst : st0 = As.reverse ++ st) (hr : fr2 + 1 ≤ fr ∧ 19 + mL + lo2 ≤ lo) (hcat : (st.map fun v => v.category).sum ≤ 8) (k : G N L nL K m2 q lv st) : G N L nL K h pc lv st0 :=
  g_callSv (st := st) X cw hM hd q hq hav hn hst hr hcat (fun _ e => e ▸ k)
theorem g_callSNix {v : Int32} {m2 : Mem} (X : Cx N L nL cc own rt fr lo K) {idx : Nat} {y : MethodName} {bs : ByteArray} {mL n : Nat} {ret : Option FieldType} {fr2 lo2 : Nat} {av : (Nat → Nat) → List Value} {As st0 : List Value} (cw : CW own idx y bs mL ret n false true) (hM : cI N L y bs mL ret fr2 lo2 av h (fun r h' => r = v ∧ h' = m2)) (hd : decode cc pc = .ok (.invokestatic idx, 3)) (q : Nat) (hq : pc + 3 = q) (hav : av (kad K) = As) (hn : As.length = n) (hst : st0 = As.reverse ++ st) (hr : fr2 + 1 ≤ fr ∧ 19 + mL + lo2 ≤ lo) (hcat : (st.map fun v => v.category).sum ≤ 8) (k : G N L nL K m2 q lv (.int v :: st)) : G N L nL K h pc lv st0 :=
  g_callSNi (st := st) X cw hM hd q hq hav hn hst hr hcat (fun _ _ e => by obtain ⟨e1, e2⟩ := e; rw [e1, e2]; exact k)
theorem g_callSNvx {m2 : Mem} (X : Cx N L nL cc own rt fr lo K) {idx : Nat} {y : MethodName} {bs : ByteArray} {mL n : Nat} {fr2 lo2 : Nat} {av : (Nat → Nat) → List Value} {As st0 : List Value} (cw : CW own idx y bs mL none n false true) (hM : cV N L y bs mL fr2 lo2 av h (fun h' => h' = m2)) (hd : decode cc pc = .ok (.invokestatic idx, 3)) (q : Nat) (hq : pc + 3 = q) (hav : av (kad K) = As) (hn : As.length = n) (hst : st0 = As.reverse ++ st) (hr : fr2 + 1 ≤ fr ∧ 19 + mL + lo2 ≤ lo) (hcat : (st.map fun v => v.category).sum ≤ 8) (k : G N L nL K m2 q lv st) : G N L nL K h pc lv st0 :=
  g_callSNv (st := st) X cw hM hd q hq hav hn hst hr hcat (fun _ e => e ▸ k)
end Gx
