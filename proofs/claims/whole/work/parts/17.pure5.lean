/-! the tour: what the class's search does -/
def tkP (pi : Nat → Nat) : Nat → Nat → Bool
  | 0, _ => false
  | k + 1, j => tkP pi k j || decide (pi k = j)
theorem tkP_congr {pi pi' : Nat → Nat} : ∀ k j, (∀ i, i < k → pi i = pi' i) → tkP pi k j = tkP pi' k j
  | 0, _, _ => rfl
  | k + 1, j, e => by
    unfold tkP
    rw [tkP_congr k j (fun i h => e i (by omega)), e k (by omega)]
def scF (q : Nat) (co ci : Nat → Int32) (cs : Nat → Nat) (a b : Nat) : Nat := apt q (tn (co (cs a))) (tn (ci (cs b)))
theorem apt_le (q a b : Nat) : apt q a b ≤ q := by unfold apt; omega
theorem scF_le (q : Nat) (co ci : Nat → Int32) (cs : Nat → Nat) (a b : Nat) : scF q co ci cs a b ≤ q := apt_le _ _ _
def cpF (size : Nat) (cs pi : Nat → Nat) (B : Nat → Int32) : Nat → Int32 := fun j => if j < size then nI (cs (pi j)) else B j
abbrev TS : Type := Nat × (Nat → Int32)
def goL (F : Nat → TS → TS) : Nat → Nat → TS → TS
  | 0, _, x => x
  | n + 1, s, x => goL F n (s + 1) (F s x)
def goS (size : Nat) (sc : Nat → Nat → Nat) (cs : Nat → Nat) : Nat → Nat → Nat → (Nat → Nat) → TS → TS
  | 0, _, sum, pi, x => if x.1 ≤ sum then x else if sum + sc (pi (size - 1)) (pi 0) < x.1 then (sum + sc (pi (size - 1)) (pi 0), cpF size cs pi x.2) else x
  | r + 1, a, sum, pi, x => if x.1 ≤ sum then x else goL (fun s y => if tkP pi a s = true then y else goS size sc cs r (a + 1) (sum + sc (pi (a - 1)) s) (updN pi a s) y) (size - 1) 1 x
theorem goS_0 (size : Nat) (sc : Nat → Nat → Nat) (cs : Nat → Nat) (a sum : Nat) (pi : Nat → Nat) (x : TS) : goS size sc cs 0 a sum pi x = if x.1 ≤ sum then x else if sum + sc (pi (size - 1)) (pi 0) < x.1 then (sum + sc (pi (size - 1)) (pi 0), cpF size cs pi x.2) else x := rfl
theorem goS_s (size : Nat) (sc : Nat → Nat → Nat) (cs : Nat → Nat) (r a sum : Nat) (pi : Nat → Nat) (x : TS) : goS size sc cs (r + 1) a sum pi x = if x.1 ≤ sum then x else goL (fun s y => if tkP pi a s = true then y else goS size sc cs r (a + 1) (sum + sc (pi (a - 1)) s) (updN pi a s) y) (size - 1) 1 x := rfl
theorem goL_le {F : Nat → TS → TS} (h : ∀ s x, (F s x).1 ≤ x.1) : ∀ n s x, (goL F n s x).1 ≤ x.1
  | 0, _, _ => Nat.le_refl _
  | n + 1, s, x => Nat.le_trans (goL_le h n (s + 1) (F s x)) (h s x)
theorem goS_le {size : Nat} {sc : Nat → Nat → Nat} {cs : Nat → Nat} : ∀ r a sum pi x, (goS size sc cs r a sum pi x).1 ≤ x.1
  | 0, a, sum, pi, x => by
    rw [goS_0]
    split
    · exact Nat.le_refl _
    · split
      · rename_i h; exact Nat.le_of_lt h
      · exact Nat.le_refl _
  | r + 1, a, sum, pi, x => by
    rw [goS_s]
    split
    · exact Nat.le_refl _
    · refine goL_le (fun s y => ?_) _ _ _
      by_cases h : tkP pi a s = true
      · rw [if_pos h]; exact Nat.le_refl _
      · rw [if_neg h]; exact goS_le r _ _ _ _
def tM (h : Mem) (X : TS) (c : Nat → Int32) : Mem := mrow (mrow (mup h 53 5 (nI X.1)) 54 X.2) 56 c
theorem tM_id {h : Mem} {L : Nat} (hL : h 53 5 = nI L) : h = tM h (L, h 54) (h 56) := by
  unfold tM
  rw [← hL, mrow_id_f, mrow_id, mrow_id]
def TC (h : Mem) (size n : Nat) (cs : Nat → Nat) : Prop := h 53 4 = nI size ∧ 1 ≤ size ∧ size ≤ 7 ∧ ∀ j, j < size → h 55 j = nI (cs j) ∧ cs j < n
def TP (h : Mem) (size a : Nat) (cs pi : Nat → Nat) : Prop := 1 ≤ a ∧ (∀ j, j < a → h 56 j = nI (cs (pi j)) ∧ pi j < size) ∧ ∀ j, 1 ≤ j → j < size → h 57 j = bI (tkP pi a j = true)
def tPost (h : Mem) (a : Nat) (X : TS) (h2 : Mem) : Prop := ∃ c, h2 = tM h X c ∧ ∀ j, j < a → c j = h 56 j
theorem tp_step {h : Mem} {size a s : Nat} {cs pi : Nat → Nat} {c : Nat → Int32} {X : TS} (P : TP h size a cs pi) (hc : ∀ j, j < a → c j = h 56 j) (hs : s < size) : TP (mup (mup (tM h X c) 57 s (nI 1)) 56 a (nI (cs s))) size (a + 1) cs (updN pi a s) := by
  refine ⟨by omega, fun j hj => ?_, fun j h1 h2 => ?_⟩
  · show upd c a (nI (cs s)) j = _ ∧ _
    by_cases e : j = a
    · subst e; rw [upd_s, updN_s]; exact ⟨rfl, hs⟩
    · rw [upd_n _ _ e, updN_n _ _ e, hc j (by omega)]; exact P.2.1 j (by omega)
  · show upd (h 57) s (nI 1) j = bI ((tkP (updN pi a s) a j || decide (updN pi a s a = j)) = true)
    rw [tkP_congr a j (fun i hi => updN_n pi s (by omega : i ≠ a)), updN_s]
    by_cases e : j = s
    · subst e; rw [upd_s]; exact (bI_t (by simp)).symm
    · rw [upd_n _ _ e, P.2.2 j h1 h2]
      refine bI_c ?_
      have : decide (s = j) = false := decide_eq_false (fun z => e z.symm)
      rw [this, Bool.or_false]
theorem tM_back {h : Mem} {a s : Nat} {X X' : TS} {c c' : Nat → Int32} {v : Int32} (h0 : h 57 s = nI 0) : mup (tM (mup (mup (tM h X c) 57 s (nI 1)) 56 a v) X' c') 57 s (nI 0) = tM h X' c' := by
  funext x j
  by_cases h7 : x = 57
  · subst h7
    show upd (upd (h 57) s (nI 1)) s (nI 0) j = h 57 j
    by_cases e : j = s
    · subst e; rw [upd_s, h0]
    · rw [upd_n _ _ e, upd_n _ _ e]
  · by_cases h6 : x = 56
    · subst h6; rfl
    · by_cases h4 : x = 54
      · subst h4; rfl
      · by_cases h3 : x = 53
        · subst h3
          show upd (upd (h 53) 5 (nI X.1)) 5 (nI X'.1) j = upd (h 53) 5 (nI X'.1) j
          by_cases e : j = 5
          · subst e; rw [upd_s, upd_s]
          · rw [upd_n _ _ e, upd_n _ _ e, upd_n _ _ e]
        · simp only [tM, mrow, mup, h7, h6, h4, h3, if_false]
