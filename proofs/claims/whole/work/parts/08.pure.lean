/-! numbers, coils, sides: what both systems' states are made of -/
def tn (x : Int32) : Nat := x.toInt.toNat
theorem tn_nI {a : Nat} (h : a < 2147483648) : tn (nI a) = a := by unfold tn; rw [nI_toInt h]; rfl
theorem nI_tn {x : Int32} (h : 0 ≤ x.toInt) : x = nI (tn x) := (zI_eq rfl).trans (zI_of (by unfold tn; omega))
theorem eq_tn {x : Int32} {a : Nat} (ha : a < 2147483648) (h : x = nI a) : tn x = a := by rw [h, tn_nI ha]
/-- the n coils of a motor of q slots and m phases: each is as the document tells -/
def coilOK (q m : Nat) (x0 x1 x2 x3 u : Int32) : Prop := x0 = nI (tn x0) ∧ tn x0 < m ∧ x1 = nI (tn x1) ∧ tn x1 < q ∧ x2 = nI (tn x2) ∧ tn x2 < q ∧ tn x1 ≠ tn x2 ∧ x3 = nI (tn x3) ∧ 1 ≤ tn x3 ∧ tn x3 ≤ 99 ∧ (u = nI 0 ∨ u = nI 1)
def coilsOK (q m n : Nat) (ph ci co tu us : Nat → Int32) : Prop := ∀ k, k < n → coilOK q m (ph k) (ci k) (co k) (tu k) (us k)
section CK
variable {q m : Nat} {x0 x1 x2 x3 u : Int32}
theorem coilOK.ph (h : coilOK q m x0 x1 x2 x3 u) : x0 = nI (tn x0) ∧ tn x0 < m := ⟨h.1, h.2.1⟩
theorem coilOK.ci (h : coilOK q m x0 x1 x2 x3 u) : x1 = nI (tn x1) ∧ tn x1 < q := ⟨h.2.2.1, h.2.2.2.1⟩
theorem coilOK.co (h : coilOK q m x0 x1 x2 x3 u) : x2 = nI (tn x2) ∧ tn x2 < q := ⟨h.2.2.2.2.1, h.2.2.2.2.2.1⟩
theorem coilOK.ne (h : coilOK q m x0 x1 x2 x3 u) : tn x1 ≠ tn x2 := h.2.2.2.2.2.2.1
theorem coilOK.tu (h : coilOK q m x0 x1 x2 x3 u) : x3 = nI (tn x3) ∧ 1 ≤ tn x3 ∧ tn x3 ≤ 99 := ⟨h.2.2.2.2.2.2.2.1, h.2.2.2.2.2.2.2.2.1, h.2.2.2.2.2.2.2.2.2.1⟩
theorem coilOK.us (h : coilOK q m x0 x1 x2 x3 u) : u = nI 0 ∨ u = nI 1 := h.2.2.2.2.2.2.2.2.2.2
end CK
theorem us_b {u : Int32} (h : u = nI 0 ∨ u = nI 1) : u = bI (u = nI 1) := by
  rcases h with h | h
  · rw [bI_f (by rw [h]; decide), h]
  · rw [bI_t h, h]
/-- sides of slot j by the first s coils -/
def cntS (ci co : Nat → Int32) : Nat → Nat → Nat
  | 0, _ => 0
  | s + 1, j => cntS ci co s j + (if tn (ci s) = j then 1 else 0) + (if tn (co s) = j then 1 else 0)
theorem cntS_s (ci co : Nat → Int32) (s j : Nat) : cntS ci co (s + 1) j = cntS ci co s j + (if tn (ci s) = j then 1 else 0) + (if tn (co s) = j then 1 else 0) := rfl
def sdF (ci co f0 : Nat → Int32) (s : Nat) : Nat → Int32 := fun j => if j < 24 then nI (cntS ci co s j) else f0 j
/-- one side more at a, and at b -/
def sd2 (f : Nat → Int32) (a b : Nat) : Nat → Int32 := upd (upd f a (f a + nI 1)) b (upd f a (f a + nI 1) b + nI 1)
theorem upd_s (f : Nat → Int32) (k : Nat) (x : Int32) : upd f k x k = x := if_pos rfl
theorem upd_n (f : Nat → Int32) {k j : Nat} (x : Int32) (h : j ≠ k) : upd f k x j = f j := if_neg h
theorem upd_id (f : Nat → Int32) (k : Nat) : upd f k (f k) = f := by
  funext j; by_cases h : j = k
  · subst h; rw [upd_s]
  · rw [upd_n _ _ h]
theorem i32_ac (x : Int32) : x + nI 1 - nI 1 = x := Int32.add_sub_cancel x (nI 1)
theorem nI_dec (a : Nat) : nI (a + 1) - nI 1 = nI a := by rw [← nI_1]; exact i32_ac (nI a)
theorem sd_back {ci co f0 : Nat → Int32} {s q : Nat} (hq : q ≤ 24) (ha : tn (ci s) < q) (hb : tn (co s) < q) (hn : tn (ci s) ≠ tn (co s)) :
    upd (upd (sdF ci co f0 (s + 1)) (tn (ci s)) (sdF ci co f0 (s + 1) (tn (ci s)) - nI 1)) (tn (co s)) (upd (sdF ci co f0 (s + 1)) (tn (ci s)) (sdF ci co f0 (s + 1) (tn (ci s)) - nI 1) (tn (co s)) - nI 1) = sdF ci co f0 s := by
  funext j
  by_cases h1 : j = tn (co s)
  · subst h1
    rw [upd_s, upd_n _ _ (Ne.symm hn)]
    unfold sdF
    rw [if_pos (by omega), if_pos (by omega)]
    rw [cntS_s, if_neg hn, if_pos rfl]
    exact nI_dec _
  · rw [upd_n _ _ h1]
    by_cases h2 : j = tn (ci s)
    · subst h2
      rw [upd_s]
      unfold sdF
      rw [if_pos (by omega), if_pos (by omega)]
      rw [cntS_s, if_pos rfl, if_neg (Ne.symm hn)]
      exact nI_dec _
    · rw [upd_n _ _ h2]
      unfold sdF
      by_cases h3 : j < 24
      · rw [if_pos h3, if_pos h3]
        rw [cntS_s, if_neg (Ne.symm h2), if_neg (Ne.symm h1), Nat.add_zero]
      · rw [if_neg h3, if_neg h3]
theorem sdF_id {ci co f : Nat → Int32} {n : Nat} (h : ∀ j, j < 24 → f j = nI (cntS ci co n j)) : sdF ci co f n = f := by
  funext j
  unfold sdF
  by_cases hj : j < 24
  · rw [if_pos hj, h j hj]
  · rw [if_neg hj]
/-! lists of coils -/
def glB (P : Nat → Bool) (k : Nat) : List Nat := (List.range k).filter P
theorem glB_t {P : Nat → Bool} {k : Nat} (h : P k = true) : glB P (k + 1) = glB P k ++ [k] := by
  unfold glB; rw [List.range_succ, List.filter_append]; simp [h]
theorem glB_f {P : Nat → Bool} {k : Nat} (h : P k = false) : glB P (k + 1) = glB P k := by
  unfold glB; rw [List.range_succ, List.filter_append]; simp [h]
theorem glB_len (P : Nat → Bool) (k : Nat) : (glB P k).length ≤ k := by
  have := List.length_filter_le P (List.range k)
  rwa [List.length_range] at this
theorem glB_mem {P : Nat → Bool} {k j : Nat} : j ∈ glB P k ↔ j < k ∧ P j = true := by
  unfold glB; rw [List.mem_filter, List.mem_range]
/-- a row whose first places hold a list (as many as there is room for) -/
def grow (l : List Nat) (len : Nat) (f0 : Nat → Int32) : Nat → Int32 := fun j => if j < l.length ∧ j < len then nI (l.getD j 0) else f0 j
theorem grow_nil (len : Nat) (f0 : Nat → Int32) : grow [] len f0 = f0 := by
  funext j; unfold grow; rw [if_neg (by simp)]
theorem grow_in {l : List Nat} {len k : Nat} {f0 : Nat → Int32} (h : l.length < len) : upd (grow l len f0) l.length (nI k) = grow (l ++ [k]) len f0 := by
  funext j
  unfold grow
  by_cases hj : j = l.length
  · subst hj
    rw [upd_s, if_pos ⟨by simp, h⟩]
    simp
  · rw [upd_n _ _ hj]
    by_cases h2 : j < l.length ∧ j < len
    · rw [if_pos h2, if_pos ⟨by simp; omega, h2.2⟩]
      congr 1
      simp [List.getElem?_append_left h2.1]
    · rw [if_neg h2, if_neg (by simp; omega)]
theorem grow_out {l : List Nat} {len k : Nat} {f0 : Nat → Int32} (h : len ≤ l.length) : grow l len f0 = grow (l ++ [k]) len f0 := by
  funext j
  unfold grow
  by_cases h2 : j < l.length ∧ j < len
  · rw [if_pos h2, if_pos ⟨by simp; omega, h2.2⟩]
    congr 1
    simp [List.getElem?_append_left h2.1]
  · rw [if_neg h2, if_neg (by simp; omega)]
/-- coil k is in use, and of phase f -/
def uin (ph us : Nat → Int32) (f : Nat) (k : Nat) : Bool := decide (us k = nI 1) && decide (tn (ph k) = f)
def cntU (us : Nat → Int32) : Nat → Nat
  | 0 => 0
  | k + 1 => cntU us k + (if us k = nI 1 then 1 else 0)
theorem cntU_le (us : Nat → Int32) : ∀ k, cntU us k ≤ k
  | 0 => Nat.le_refl _
  | k + 1 => by have := cntU_le us k; unfold cntU; split <;> omega
theorem bI_nI (c : Prop) [Decidable c] : bI c = nI (if c then 1 else 0) := by
  by_cases h : c
  · rw [bI_t h, if_pos h]
  · rw [bI_f h, if_neg h]
/-- a coil as the document tells it -/
abbrev okc (q m : Nat) (x0 x1 x2 x3 : Int32) : Prop := (0 ≤ x0.toInt ∧ x0.toInt ≤ (m : Int) - 1) ∧ (0 ≤ x1.toInt ∧ x1.toInt ≤ (q : Int) - 1) ∧ (0 ≤ x2.toInt ∧ x2.toInt ≤ (q : Int) - 1) ∧ ¬ x1.toInt = x2.toInt ∧ (1 ≤ x3.toInt ∧ x3.toInt ≤ 99)
abbrev fullS (sd : Nat → Int32) (x1 x2 : Int32) : Prop := 2 ≤ (sd (tn x1)).toInt ∨ 2 ≤ (sd (tn x2)).toInt
def layV (q m n : Nat) (sd : Nat → Int32) (x0 x1 x2 x3 : Int32) : Int32 :=
  if okc q m x0 x1 x2 x3 then (if fullS sd x1 x2 then zI (-2) else if 24 ≤ n then zI (-3) else nI n) else zI (-1)
abbrev layG (q m n : Nat) (sd : Nat → Int32) (x0 x1 x2 x3 : Int32) : Prop := okc q m x0 x1 x2 x3 ∧ ¬ fullS sd x1 x2 ∧ n < 24
