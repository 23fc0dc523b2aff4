/-! one more coil keeps the state -/
def CI9 (h : Mem) (n : Nat) : Prop := (∀ j, j < 24 → h 35 j = nI (cntS (h 31) (h 32) n j)) ∧ ∀ j, j < 24 → cntS (h 31) (h 32) n j ≤ 2
theorem cntS_congr {ci co ci' co' : Nat → Int32} : ∀ n j, (∀ k, k < n → ci k = ci' k ∧ co k = co' k) → cntS ci co n j = cntS ci' co' n j
  | 0, _, _ => rfl
  | n + 1, j, e => by
    rw [cntS_s, cntS_s, cntS_congr n j (fun k hk => e k (by omega)), (e n (by omega)).1, (e n (by omega)).2]
theorem okc_coil {q m : Nat} {x0 x1 x2 x3 : Int32} (hq : q ≤ 24) (hm : m ≤ 3) (h : okc q m x0 x1 x2 x3) : coilOK q m x0 x1 x2 x3 (nI 1) := by
  obtain ⟨h0, h1, h2, h3, h4⟩ := h
  refine ⟨nI_tn h0.1, by unfold tn; omega, nI_tn h1.1, by unfold tn; omega, nI_tn h2.1, by unfold tn; omega, by unfold tn; omega, nI_tn (by omega), by unfold tn; omega, by unfold tn; omega, Or.inr rfl⟩
theorem lay_inv {h : Mem} {q p m n d : Nat} {x0 x1 x2 x3 : Int32} (C : XC h q p m n d) (V : CI9 h n) (g : layG q m n (h 35) x0 x1 x2 x3) : XC (layMX h n x0 x1 x2 x3) q p m (n + 1) d ∧ CI9 (layMX h n x0 x1 x2 x3) (n + 1) := by
  obtain ⟨hq, hp, hm, hq1, hq2, hp1, hp2, hm1, hm2, hn, hn2, hc, hq0, hd, hd1, hd2⟩ := C
  obtain ⟨ok, nf, hn24⟩ := g
  have hk := okc_coil hq2 hm2 ok
  have ha := hk.ci.2
  have hb := hk.co.2
  have hne := hk.ne
  have fa : cntS (h 31) (h 32) n (tn x1) ≤ 1 := by
    have h1 := V.1 (tn x1) (by omega)
    have h2 := V.2 (tn x1) (by omega)
    rcases Nat.lt_or_ge (cntS (h 31) (h 32) n (tn x1)) 2 with z | z
    · omega
    · exact absurd (Or.inl (by rw [h1, nI_toInt (by omega)]; omega)) nf
  have fb : cntS (h 31) (h 32) n (tn x2) ≤ 1 := by
    have h1 := V.1 (tn x2) (by omega)
    have h2 := V.2 (tn x2) (by omega)
    rcases Nat.lt_or_ge (cntS (h 31) (h 32) n (tn x2)) 2 with z | z
    · omega
    · exact absurd (Or.inr (by rw [h1, nI_toInt (by omega)]; omega)) nf
  have e31 : layMX h n x0 x1 x2 x3 31 = upd (h 31) n x1 := rfl
  have e32 : layMX h n x0 x1 x2 x3 32 = upd (h 32) n x2 := rfl
  have ecnt : ∀ j, cntS (layMX h n x0 x1 x2 x3 31) (layMX h n x0 x1 x2 x3 32) (n + 1) j = cntS (h 31) (h 32) n j + (if tn x1 = j then 1 else 0) + (if tn x2 = j then 1 else 0) := by
    intro j
    rw [cntS_s, e31, e32, upd_s, upd_s, cntS_congr n j (fun k hk => ⟨upd_n (h 31) x1 (by omega), upd_n (h 32) x2 (by omega)⟩)]
  refine ⟨⟨hq, hp, hm, hq1, hq2, hp1, hp2, hm1, hm2, rfl, by omega, fun k hk1 => ?_, hq0, hd, hd1, hd2⟩, fun j hj => ?_, fun j hj => ?_⟩
  · show coilOK q m (upd (h 30) n x0 k) (upd (h 31) n x1 k) (upd (h 32) n x2 k) (upd (h 33) n x3 k) (upd (h 34) n (nI 1) k)
    by_cases e : k = n
    · subst e
      rw [upd_s, upd_s, upd_s, upd_s, upd_s]
      exact hk
    · rw [upd_n _ _ e, upd_n _ _ e, upd_n _ _ e, upd_n _ _ e, upd_n _ _ e]
      exact hc k (by omega)
  · rw [ecnt j]
    show sd2 (h 35) (tn x1) (tn x2) j = _
    unfold sd2
    by_cases e2 : j = tn x2
    · subst e2
      rw [upd_s, upd_n _ _ (Ne.symm hne), V.1 _ hj, if_neg hne, if_pos rfl]
      exact nI_add _ _
    · have z2 : ¬ tn x2 = j := fun z => e2 z.symm
      rw [upd_n _ _ e2, if_neg z2]
      by_cases e1 : j = tn x1
      · subst e1
        rw [upd_s, V.1 _ hj, if_pos rfl]
        exact nI_add _ _
      · have z1 : ¬ tn x1 = j := fun z => e1 z.symm
        rw [upd_n _ _ e1, V.1 _ hj, if_neg z1]
        rfl
  · rw [ecnt j]
    have h2 := V.2 j hj
    by_cases e1 : tn x1 = j
    · rw [if_pos e1, if_neg (by omega)]
      rw [e1] at fa
      omega
    · by_cases e2 : tn x2 = j
      · rw [if_neg e1, if_pos e2]
        rw [e2] at fb
        omega
      · rw [if_neg e1, if_neg e2]
        omega
/-- the coils of a sheet, one behind the other -/
def laM (h : Mem) (n0 a : Nat) : Nat → Mem
  | 0 => h
  | k + 1 => layMX (laM h n0 a k) (n0 + k) (h 65 (a + 4 * k)) (h 65 (a + 4 * k + 1)) (h 65 (a + 4 * k + 2)) (h 65 (a + 4 * k + 3))
theorem laM_s (h : Mem) (n0 a k : Nat) : laM h n0 a (k + 1) = layMX (laM h n0 a k) (n0 + k) (h 65 (a + 4 * k)) (h 65 (a + 4 * k + 1)) (h 65 (a + 4 * k + 2)) (h 65 (a + 4 * k + 3)) := rfl
theorem laM_o (h : Mem) (n0 a : Nat) {c : Nat} (hc : c ≠ 29 ∧ c ≠ 30 ∧ c ≠ 31 ∧ c ≠ 32 ∧ c ≠ 33 ∧ c ≠ 34 ∧ c ≠ 35) : ∀ k, laM h n0 a k c = h c
  | 0 => rfl
  | k + 1 => by
    rw [laM_s]
    unfold layMX
    rw [mup_n _ _ hc.1, mrow_n _ _ hc.2.2.2.2.2.2, mup_n _ _ hc.2.2.2.2.2.1, mup_n _ _ hc.2.2.2.2.1, mup_n _ _ hc.2.2.2.1, mup_n _ _ hc.2.2.1, mup_n _ _ hc.2.1]
    exact laM_o h n0 a hc k
def laG (h : Mem) (q m n0 a k : Nat) : Prop := layG q m (n0 + k) (laM h n0 a k 35) (h 65 (a + 4 * k)) (h 65 (a + 4 * k + 1)) (h 65 (a + 4 * k + 2)) (h 65 (a + 4 * k + 3))
def laV (h : Mem) (q m n0 a k : Nat) : Int32 := layV q m (n0 + k) (laM h n0 a k 35) (h 65 (a + 4 * k)) (h 65 (a + 4 * k + 1)) (h 65 (a + 4 * k + 2)) (h 65 (a + 4 * k + 3))
theorem la_inv {h : Mem} {q p m n0 a d : Nat} (C : XC h q p m n0 d) (V : CI9 h n0) : ∀ k, (∀ j, j < k → laG h q m n0 a j) → XC (laM h n0 a k) q p m (n0 + k) d ∧ CI9 (laM h n0 a k) (n0 + k)
  | 0, _ => ⟨C, V⟩
  | k + 1, g => by
    obtain ⟨C1, V1⟩ := la_inv C V k (fun j hj => g j (by omega))
    exact lay_inv C1 V1 (g k (by omega))
def laPost (h : Mem) (q m n0 a n : Nat) (r : Int32) (h2 : Mem) : Prop := ((∀ k, k < n → laG h q m n0 a k) ∧ r = nI (n0 + n) ∧ h2 = laM h n0 a n) ∨ ∃ k, k < n ∧ (∀ j, j < k → laG h q m n0 a j) ∧ ¬ laG h q m n0 a k ∧ r = (if laV h q m n0 a k = zI (-3) then zI (-3) else zI (-2)) ∧ h2 = kfM (laM h n0 a k) n0
/-- the coils of the rule -/
def rPh (q p m i : Nat) : Nat := phaseN m (beltN q p m i)
def rIn (q p m b i : Nat) : Nat := if turnedB m (beltN q p m i) = true then (i + b) % q else i
def rOut (q p m b i : Nat) : Nat := if turnedB m (beltN q p m i) = true then i else (i + b) % q
def mkM (h : Mem) (q p m b : Nat) : Nat → Mem
  | 0 => h
  | k + 1 => layMX (mkM h q p m b k) k (nI (rPh q p m k)) (nI (rIn q p m b k)) (nI (rOut q p m b k)) (nI 1)
theorem mkM_s (h : Mem) (q p m b k : Nat) : mkM h q p m b (k + 1) = layMX (mkM h q p m b k) k (nI (rPh q p m k)) (nI (rIn q p m b k)) (nI (rOut q p m b k)) (nI 1) := rfl
/-- how many of the first k slots have s behind the span -/
def spN (q b s : Nat) : Nat → Nat
  | 0 => 0
  | k + 1 => spN q b s k + (if (k + b) % q = s then 1 else 0)
theorem sp_inj {q b i j : Nat} (hi : i < q) (hj : j < q) (e : (i + b) % q = (j + b) % q) : i = j := by
  have h1 : (i + b % q) % q = (j + b % q) % q := by rw [Nat.add_mod_mod, Nat.add_mod_mod]; exact e
  have hb : b % q < q := Nat.mod_lt b (by omega)
  generalize b % q = c at h1 hb
  rcases Nat.lt_or_ge (i + c) q with z | z <;> rcases Nat.lt_or_ge (j + c) q with y | y
  · rw [Nat.mod_eq_of_lt z, Nat.mod_eq_of_lt y] at h1; omega
  · rw [Nat.mod_eq_of_lt z, Nat.mod_eq_sub_mod y, Nat.mod_eq_of_lt (by omega)] at h1; omega
  · rw [Nat.mod_eq_sub_mod z, Nat.mod_eq_of_lt (by omega : i + c - q < q), Nat.mod_eq_of_lt y] at h1; omega
  · rw [Nat.mod_eq_sub_mod z, Nat.mod_eq_sub_mod y, Nat.mod_eq_of_lt (by omega : i + c - q < q), Nat.mod_eq_of_lt (by omega : j + c - q < q)] at h1; omega
theorem spN_0 {q b k : Nat} : ∀ i, i ≤ k → k < q → spN q b ((k + b) % q) i = 0
  | 0, _, _ => rfl
  | i + 1, h, hk => by
    unfold spN
    rw [spN_0 i (by omega) hk, if_neg (fun e => by have := sp_inj (by omega) hk e; omega)]
theorem spN_le {q b s : Nat} : ∀ k, k ≤ q → spN q b s k ≤ 1
  | 0, _ => by show 0 ≤ 1; decide
  | k + 1, h => by
    unfold spN
    by_cases e : (k + b) % q = s
    · rw [if_pos e, ← e, spN_0 k (Nat.le_refl k) (by omega)]; omega
    · rw [if_neg e]; have := spN_le (q := q) (b := b) (s := s) k (by omega); omega
theorem phaseN_lt {m u : Nat} (h1 : 1 ≤ m) (h2 : m ≤ 3) : phaseN m u < m := by
  unfold phaseN
  rcases (show m = 1 ∨ m = 2 ∨ m = 3 by omega) with rfl | rfl | rfl
  · rw [if_neg (by decide), if_neg (by decide)]; decide
  · rw [if_pos rfl]; omega
  · rw [if_neg (by decide), if_pos rfl]; omega
theorem fullS_nI {f : Nat → Int32} {a b : Nat} (ha : a < 24) (hb : b < 24) {x y : Nat} (e1 : f a = nI x) (e2 : f b = nI y) (hx : x < 2) (hy : y < 2) : ¬ fullS f (nI a) (nI b) := by
  unfold fullS
  rw [tn_nI (by omega), tn_nI (by omega), e1, e2, nI_toInt (by omega), nI_toInt (by omega)]
  omega
theorem mk_inv {h : Mem} {q p m d b : Nat} (C : XC h q p m 0 d) (V : CI9 h 0) (hb1 : 1 ≤ b) (hb2 : b < q) : ∀ k, k ≤ q → XC (mkM h q p m b k) q p m k d ∧ CI9 (mkM h q p m b k) k ∧ (∀ s, cntS (mkM h q p m b k 31) (mkM h q p m b k 32) k s = (if s < k then 1 else 0) + spN q b s k) ∧ (k < q → layG q m k (mkM h q p m b k 35) (nI (rPh q p m k)) (nI (rIn q p m b k)) (nI (rOut q p m b k)) (nI 1)) := by
  intro k
  obtain ⟨hq, hp, hm, hq1, hq2, hp1, hp2, hm1, hm2, -⟩ := id C
  have good : ∀ k, k < q → CI9 (mkM h q p m b k) k → (∀ s, cntS (mkM h q p m b k 31) (mkM h q p m b k 32) k s = (if s < k then 1 else 0) + spN q b s k) → layG q m k (mkM h q p m b k 35) (nI (rPh q p m k)) (nI (rIn q p m b k)) (nI (rOut q p m b k)) (nI 1) := by
    intro k hk V1 S1
    have hmod := Nat.mod_lt (k + b) (show 0 < q by omega)
    have hne : (k + b) % q ≠ k := by
      rcases Nat.lt_or_ge (k + b) q with z | z
      · rw [Nat.mod_eq_of_lt z]; omega
      · rw [Nat.mod_eq_sub_mod z, Nat.mod_eq_of_lt (by omega)]; omega
    have hin : rIn q p m b k < q := by unfold rIn; split <;> omega
    have hout : rOut q p m b k < q := by unfold rOut; split <;> omega
    have hio : rIn q p m b k ≠ rOut q p m b k := by unfold rIn rOut; split <;> omega
    have hph : rPh q p m k < m := phaseN_lt hm1 hm2
    have e1 : cntS (mkM h q p m b k 31) (mkM h q p m b k 32) k k < 2 := by rw [S1, if_neg (by omega)]; have := spN_le (q := q) (b := b) (s := k) k (by omega); omega
    have e2 : cntS (mkM h q p m b k 31) (mkM h q p m b k 32) k ((k + b) % q) < 2 := by rw [S1, spN_0 k (Nat.le_refl k) hk]; split <;> omega
    have a1 : cntS (mkM h q p m b k 31) (mkM h q p m b k 32) k (rIn q p m b k) < 2 := by unfold rIn; split; exact e2; exact e1
    have a2 : cntS (mkM h q p m b k 31) (mkM h q p m b k 32) k (rOut q p m b k) < 2 := by unfold rOut; split; exact e1; exact e2
    refine ⟨⟨?_, ?_, ?_, ?_, ?_⟩, fullS_nI (by omega) (by omega) (V1.1 _ (by omega)) (V1.1 _ (by omega)) a1 a2, by omega⟩
    · rw [nI_toInt (by omega)]; omega
    · rw [nI_toInt (by omega)]; omega
    · rw [nI_toInt (by omega)]; omega
    · rw [nI_toInt (by omega), nI_toInt (by omega)]; omega
    · rw [nI_toInt (by omega)]; omega
  induction k with
  | zero => exact fun _ => ⟨C, V, fun s => by rw [if_neg (by omega)]; rfl, fun hk => good 0 hk V (fun s => by rw [if_neg (by omega)]; rfl)⟩
  | succ k ih =>
    intro hk
    obtain ⟨C1, V1, S1, g1⟩ := ih (by omega)
    obtain ⟨C2, V2⟩ := lay_inv C1 V1 (g1 (by omega))
    have S2 : ∀ s, cntS (mkM h q p m b (k + 1) 31) (mkM h q p m b (k + 1) 32) (k + 1) s = (if s < k + 1 then 1 else 0) + spN q b s (k + 1) := by
      intro s
      have e31 : mkM h q p m b (k + 1) 31 = upd (mkM h q p m b k 31) k (nI (rIn q p m b k)) := rfl
      have e32 : mkM h q p m b (k + 1) 32 = upd (mkM h q p m b k 32) k (nI (rOut q p m b k)) := rfl
      have hmod := Nat.mod_lt (k + b) (show 0 < q by omega)
      have hin : rIn q p m b k < q := by unfold rIn; split <;> omega
      have hout : rOut q p m b k < q := by unfold rOut; split <;> omega
      rw [cntS_s, e31, e32, upd_s, upd_s, tn_nI (by omega), tn_nI (by omega), cntS_congr k s (fun j hj => ⟨upd_n (mkM h q p m b k 31) _ (by omega), upd_n (mkM h q p m b k 32) _ (by omega)⟩), S1]
      show _ = (if s < k + 1 then 1 else 0) + (spN q b s k + (if (k + b) % q = s then 1 else 0))
      have e9 : (if rIn q p m b k = s then 1 else 0) + (if rOut q p m b k = s then 1 else 0) = (if k = s then 1 else 0) + (if (k + b) % q = s then 1 else 0) := by
        unfold rIn rOut
        split
        · exact Nat.add_comm _ _
        · rfl
      have e8 : (if s < k + 1 then 1 else 0) = (if s < k then 1 else 0) + (if k = s then 1 else 0) := by
        by_cases z : s < k
        · rw [if_pos z, if_pos (by omega), if_neg (by omega)]
        · by_cases y : k = s
          · rw [if_neg z, if_pos y, if_pos (by omega)]
          · rw [if_neg z, if_neg y, if_neg (by omega)]
      omega
    exact ⟨C2, V2, S2, fun hk2 => good (k + 1) hk2 V2 S2⟩
