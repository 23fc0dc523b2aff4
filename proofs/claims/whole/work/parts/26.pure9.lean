/-! the reference's state -/
def MC (h : Mem) (q p m n d : Nat) : Prop := h 0 0 = nI q ∧ h 0 1 = nI p ∧ h 0 2 = nI m ∧ 3 ≤ q ∧ q ≤ 24 ∧ 1 ≤ p ∧ p ≤ 6 ∧ 1 ≤ m ∧ m ≤ 3 ∧ h 0 3 = nI n ∧ n ≤ 24 ∧ coilsOK q m n (h 1) (h 2) (h 3) (h 4) (h 5) ∧ h 0 10 = nI d ∧ 1 ≤ d ∧ d ≤ q
theorem i64_of {x : Int32} {a : Int} (h : x.toInt = a) : x.toInt64.toInt = a := by rw [← h]; exact Int32.toInt_toInt64 x
theorem lgc {x y : Int64} {a b : Int} (hx : x.toInt = a) (hy : y.toInt = b) : ((lg_cmp x y).toInt < 0 ↔ a < b) ∧ (0 < (lg_cmp x y).toInt ↔ b < a) ∧ ((lg_cmp x y).toInt = 0 ↔ a = b) := by
  subst hx hy
  unfold lg_cmp
  by_cases h1 : x > y
  · have h2 : y.toInt < x.toInt := Int64.lt_iff_toInt_lt.mp h1
    rw [if_pos h1]
    have e : (1 : Int32).toInt = 1 := rfl
    rw [e]
    omega
  · have h2 : ¬ y.toInt < x.toInt := fun z => h1 (Int64.lt_iff_toInt_lt.mpr z)
    rw [if_neg h1]
    by_cases h3 : x = y
    · subst h3
      rw [if_pos rfl]
      have e : (0 : Int32).toInt = 0 := rfl
      rw [e]
      omega
    · have h4 : x.toInt ≠ y.toInt := fun z => h3 (Int64.toInt_inj.mp z)
      rw [if_neg h3]
      have e : (-1 : Int32).toInt = -1 := rfl
      rw [e]
      omega
theorem gdv_gcd : ∀ a, a < 25 → ∀ b, b < 25 → 1 ≤ a → gdv a b a = Nat.gcd a b := by decide +kernel
/-- one more coil in the reference's rows -/
def adX (h : Mem) (n : Nat) (x0 x1 x2 x3 : Int32) : Mem := mup (mrow (mup (mup (mup (mup (mup h 1 n x0) 2 n x1) 3 n x2) 4 n x3) 5 n (nI 1)) 6 (sd2 (h 6) (tn x1) (tn x2))) 0 3 (nI (n + 1))
theorem ad_mem (h : Mem) (n a b : Nat) (x0 x1 x2 x3 : Int32) : mup (mrow (mup (mup (mup (mup (mup h 1 n x0) 2 n x1) 3 n x2) 4 n x3) 5 n (nI 1)) 6 (sd2 (h 6) a b)) 0 3 (nI (n + 1)) = mup (mup (mup (mup (mup (mup (mup (mup h 1 n x0) 2 n x1) 3 n x2) 4 n x3) 5 n (nI 1)) 6 a (h 6 a + nI 1)) 6 b (upd (h 6) a (h 6 a + nI 1) b + nI 1)) 0 3 (nI (n + 1)) := by
  rw [mup_mup]
  rfl
def clM (h : Mem) : Mem := mrow (mup h 0 3 (nI 0)) 6 (zrK (h 6) 24)
def mkN (h : Mem) (q p m b : Nat) : Nat → Mem
  | 0 => h
  | k + 1 => adX (mkN h q p m b k) k (nI (rPh q p m k)) (nI (rIn q p m b k)) (nI (rOut q p m b k)) (nI 1)
theorem adX_inv {h : Mem} {q p m n d : Nat} {x0 x1 x2 x3 : Int32} (C : MC h q p m n d) (hk : coilOK q m x0 x1 x2 x3 (nI 1)) (hn24 : n < 24) : MC (adX h n x0 x1 x2 x3) q p m (n + 1) d := by
  obtain ⟨hq, hp, hm, hq1, hq2, hp1, hp2, hm1, hm2, hn, hn2, hc, hd, hd1, hd2⟩ := C
  refine ⟨hq, hp, hm, hq1, hq2, hp1, hp2, hm1, hm2, rfl, by omega, fun k hk1 => ?_, hd, hd1, hd2⟩
  show coilOK q m (upd (h 1) n x0 k) (upd (h 2) n x1 k) (upd (h 3) n x2 k) (upd (h 4) n x3 k) (upd (h 5) n (nI 1) k)
  by_cases e : k = n
  · subst e
    rw [upd_s, upd_s, upd_s, upd_s, upd_s]
    exact hk
  · rw [upd_n _ _ e, upd_n _ _ e, upd_n _ _ e, upd_n _ _ e, upd_n _ _ e]
    exact hc k (by omega)
theorem clM_inv {h : Mem} {q p m n d : Nat} (C : MC h q p m n d) : MC (clM h) q p m 0 d := by
  obtain ⟨hq, hp, hm, hq1, hq2, hp1, hp2, hm1, hm2, hn, hn2, hc, hd, hd1, hd2⟩ := C
  exact ⟨hq, hp, hm, hq1, hq2, hp1, hp2, hm1, hm2, rfl, by omega, fun k hk => absurd hk (Nat.not_lt_zero _), hd, hd1, hd2⟩
theorem rule_ok {q p m b k : Nat} (hq : 3 ≤ q) (hq2 : q ≤ 24) (hm1 : 1 ≤ m) (hm2 : m ≤ 3) (hb1 : 1 ≤ b) (hb2 : b < q) (hk : k < q) : coilOK q m (nI (rPh q p m k)) (nI (rIn q p m b k)) (nI (rOut q p m b k)) (nI 1) (nI 1) := by
  have hmod := Nat.mod_lt (k + b) (show 0 < q by omega)
  have hne : (k + b) % q ≠ k := by
    rcases Nat.lt_or_ge (k + b) q with z | z
    · rw [Nat.mod_eq_of_lt z]; omega
    · rw [Nat.mod_eq_sub_mod z, Nat.mod_eq_of_lt (by omega)]; omega
  have hin : rIn q p m b k < q := by unfold rIn; split <;> omega
  have hout : rOut q p m b k < q := by unfold rOut; split <;> omega
  have hio : rIn q p m b k ≠ rOut q p m b k := by unfold rIn rOut; split <;> omega
  have hph : rPh q p m k < m := phaseN_lt hm1 hm2
  have e0 : tn (nI (rPh q p m k)) = rPh q p m k := tn_nI (by omega)
  have e1 : tn (nI (rIn q p m b k)) = rIn q p m b k := tn_nI (by omega)
  have e2 : tn (nI (rOut q p m b k)) = rOut q p m b k := tn_nI (by omega)
  have e3 : tn (nI 1) = 1 := tn_nI (by omega)
  exact ⟨by rw [e0], by rw [e0]; exact hph, by rw [e1], by rw [e1]; exact hin, by rw [e2], by rw [e2]; exact hout, by rw [e1, e2]; exact hio, by rw [e3], by rw [e3]; omega, by rw [e3]; omega, Or.inr rfl⟩
theorem mkN_inv {h : Mem} {q p m d b : Nat} (C : MC h q p m 0 d) (hb1 : 1 ≤ b) (hb2 : b < q) : ∀ k, k ≤ q → MC (mkN h q p m b k) q p m k d
  | 0, _ => C
  | k + 1, hk => by
    obtain ⟨hq, hp, hm, hq1, hq2, hp1, hp2, hm1, hm2, -⟩ := id C
    exact adX_inv (mkN_inv C hb1 hb2 k (by omega)) (rule_ok hq1 hq2 hm1 hm2 hb1 hb2 (by omega)) (by omega)
