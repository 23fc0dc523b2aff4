/-! tour: the search through all orders finds what the table of least ways traces -/
/-- the order that goes on by the first best stop -/
def gp (size : Nat) (sc : Nat → Nat → Nat) : Nat → Nat → Nat → (Nat → Nat) → Nat → Nat
  | 0, _, _, pi => pi
  | r + 1, a, set, pi => gp size sc r (a + 1) (set ||| 2 ^ (fstN (prB size sc set (pi (a - 1))) size 0)) (updN pi a (fstN (prB size sc set (pi (a - 1))) size 0))
theorem gp_trc {size : Nat} {sc : Nat → Nat → Nat} : ∀ r a set (pi : Nat → Nat), 1 ≤ a → a + r = size → (trc size sc (a - 1)).1 = set → (∀ j, j < a → pi j = (trc size sc j).2) → ∀ j, j < size → gp size sc r a set pi j = (trc size sc j).2
  | 0, a, set, pi, _, ha, _, h => fun j hj => h j (by omega)
  | r + 1, a, set, pi, h1, ha, hs, h => by
    obtain ⟨b, rfl⟩ : ∃ b, a = b + 1 := ⟨a - 1, by omega⟩
    have e1 : (trc size sc b).1 = set := hs
    have e2 : pi b = (trc size sc b).2 := h b (by omega)
    have e3 : (trc size sc (b + 1)).2 = fstN (prB size sc set (pi b)) size 0 := by
      rw [e2, ← e1]; rfl
    have e4 : (trc size sc (b + 1)).1 = set ||| 2 ^ (fstN (prB size sc set (pi b)) size 0) := by
      rw [e2, ← e1]; rfl
    show ∀ j, j < size → gp size sc r (b + 1 + 1) (set ||| 2 ^ (fstN (prB size sc set (pi b)) size 0)) (updN pi (b + 1) (fstN (prB size sc set (pi b)) size 0)) j = (trc size sc j).2
    refine gp_trc r (b + 1 + 1) _ _ (by omega) (by omega) e4 (fun j hj => ?_)
    by_cases c : j = b + 1
    · rw [c, updN_s]; exact e3.symm
    · rw [updN_n _ _ c]; exact h j (by omega)
theorem cp_cp {size : Nat} {cs p p' : Nat → Nat} {B : Nat → Int32} : cpF size cs p (cpF size cs p' B) = cpF size cs p B := by
  funext j
  unfold cpF
  by_cases c : j < size
  · rw [if_pos c, if_pos c]
  · rw [if_neg c, if_neg c, if_neg c]
theorem gl_keep {F : Nat → TS → TS} : ∀ n s (y : TS), (∀ t, s ≤ t → t < s + n → F t y = y) → goL F n s y = y
  | 0, _, _, _ => rfl
  | n + 1, s, y, h => by
    show goL F n (s + 1) (F s y) = y
    rw [h s (Nat.le_refl s) (by omega)]
    exact gl_keep n (s + 1) y (fun t h1 h2 => h t (by omega) (by omega))
theorem gl_min {F : Nat → TS → TS} {U : Nat → Bool} {V : Nat → Nat} {P : Nat → Nat → Nat} {size hi : Nat} {cs : Nat → Nat} (hF : ∀ t (y : TS), t < hi → F t y = if U t = true then y else if y.1 ≤ V t then y else (V t, cpF size cs (P t) y.2)) {t0 : Nat} (h0 : U t0 = false) : ∀ n s (x : TS), s ≤ t0 → t0 < s + n → s + n ≤ hi → (∀ t, s ≤ t → t < t0 → U t = false → V t0 < V t) → (∀ t, t0 ≤ t → t < s + n → U t = false → V t0 ≤ V t) → goL F n s x = if x.1 ≤ V t0 then x else (V t0, cpF size cs (P t0) x.2)
  | 0, s, x, h1, h2, _, _, _ => by omega
  | n + 1, s, x, h1, h2, hh, h3, h4 => by
    show goL F n (s + 1) (F s x) = _
    by_cases c : s = t0
    · subst c
      have hk : ∀ y : TS, y.1 ≤ V s → goL F n (s + 1) y = y := fun y hy => gl_keep n (s + 1) y (fun t a b => by
        rw [hF t y (by omega)]
        by_cases u : U t = true
        · rw [if_pos u]
        · rw [if_neg u, if_pos (Nat.le_trans hy (h4 t (by omega) (by omega) (by simpa using u)))])
      have e : F s x = if x.1 ≤ V s then x else (V s, cpF size cs (P s) x.2) := by
        rw [hF s x (by omega), if_neg (by rw [h0]; decide)]
      rw [e]
      by_cases d : x.1 ≤ V s
      · rw [if_pos d]; exact hk x d
      · rw [if_neg d]; exact hk _ (Nat.le_refl _)
    · have ih := gl_min hF h0 n (s + 1) (F s x) (by omega) (by omega) (by omega) (fun t a b => h3 t (by omega) b) (fun t a b => h4 t a (by omega))
      rw [ih, hF s x (by omega)]
      by_cases u : U s = true
      · rw [if_pos u]
      · rw [if_neg u]
        have lt := h3 s (Nat.le_refl s) (by omega) (by simpa using u)
        by_cases d : x.1 ≤ V s
        · rw [if_pos d]
        · rw [if_neg d]
          show (if V s ≤ V t0 then (V s, cpF size cs (P s) x.2) else (V t0, cpF size cs (P t0) (cpF size cs (P s) x.2))) = if x.1 ≤ V t0 then x else (V t0, cpF size cs (P t0) x.2)
          rw [if_neg (show ¬ V s ≤ V t0 by omega), if_neg (show ¬ x.1 ≤ V t0 by omega), cp_cp]
theorem cb_all : ∀ size, size < 8 → ∀ set, set < 2 ^ size → cbN set size = size → set = 2 ^ size - 1 := by decide +kernel
theorem tk_in {pi : Nat → Nat} : ∀ k i, i < k → tkP pi k (pi i) = true
  | 0, _, h => absurd h (Nat.not_lt_zero _)
  | k + 1, i, h => by
    show (tkP pi k (pi i) || decide (pi k = pi i)) = true
    by_cases c : i = k
    · rw [c, decide_eq_true (p := pi k = pi k) rfl, Bool.or_true]
    · rw [tk_in k i (by omega), Bool.true_or]
theorem go_eq {size : Nat} {sc : Nat → Nat → Nat} {cs : Nat → Nat} (h7 : size < 8) (hsc : ∀ a b, sc a b ≤ 24) : ∀ r a sum set (pi : Nat → Nat) (x : TS), 1 ≤ a → a + r = size → set ≤ 2 ^ size - 1 → cbN set size = a → (∀ j, j < size → set.testBit j = tkP pi a j) → pi 0 = 0 → goS size sc cs r a sum pi x = if x.1 ≤ sum + (eI size sc set (pi (a - 1))).toNat then x else (sum + (eI size sc set (pi (a - 1))).toNat, cpF size cs (gp size sc r a set pi) x.2)
  | 0, a, sum, set, pi, x, h1, ha, hs, hcb, htk, hp0 => by
    have p2 := Nat.two_pow_pos size
    have ea : a = size := by omega
    have hfull : set = 2 ^ size - 1 := cb_all size h7 set (by omega) (by omega)
    have ee : (eI size sc set (pi (a - 1))).toNat = sc (pi (size - 1)) (pi 0) := by
      rw [hfull, eI_full, hp0, ea]
      exact Int.toNat_natCast _
    rw [goS_0, ee]
    show _ = if x.1 ≤ sum + sc (pi (size - 1)) (pi 0) then x else (sum + sc (pi (size - 1)) (pi 0), cpF size cs pi x.2)
    by_cases c : x.1 ≤ sum
    · rw [if_pos c, if_pos (by omega)]
    · by_cases d : x.1 ≤ sum + sc (pi (size - 1)) (pi 0)
      · rw [if_neg c, if_neg (by omega), if_pos d]
      · rw [if_neg c, if_pos (by omega), if_neg d]
  | r + 1, a, sum, set, pi, x, h1, ha, hs, hcb, htk, hp0 => by
    have hlt : set < 2 ^ size - 1 := by
      rcases Nat.lt_or_eq_of_le hs with z | z
      · exact z
      · rw [z, (cb_full size h7).1] at hcb; omega
    obtain ⟨x0, hx0, hx1⟩ := ex_pr (last := pi (a - 1)) h7 hsc hlt
    obtain ⟨-, t2, t3, t4⟩ := fstN_at (P := prB size sc set (pi (a - 1))) size 0 ⟨x0, Nat.zero_le _, by omega, hx1⟩
    have hgp : gp size sc (r + 1) a set pi = gp size sc r (a + 1) (set ||| 2 ^ (fstN (prB size sc set (pi (a - 1))) size 0)) (updN pi a (fstN (prB size sc set (pi (a - 1))) size 0)) := rfl
    rw [hgp]
    generalize fstN (prB size sc set (pi (a - 1))) size 0 = t0 at t2 t3 t4 ⊢
    obtain ⟨b0, b1⟩ := prB_t.mp t3
    have hbd : ∀ t, t < size → 0 ≤ eI size sc (set ||| 2 ^ t) t := fun t ht => (eI_bd h7 hsc (or_in hs ht)).1
    have hmin : ∀ t, t < size → set.testBit t = false → eI size sc set (pi (a - 1)) ≤ (sc (pi (a - 1)) t : Int) + eI size sc (set ||| 2 ^ t) t := by
      intro t ht hb
      rw [eI_lt hlt]
      rcases mnI_at (F := fun x => (sc (pi (a - 1)) x : Int) + eI size sc (set ||| 2 ^ x) x) (P := fun x => !set.testBit x) size (fun k hk _ => by have := hbd k hk; omega) with ⟨-, hno⟩ | ⟨-, hle, -⟩
      · exact absurd (show (!set.testBit t) = true by rw [hb]; rfl) (hno t ht)
      · exact hle t ht (by rw [hb]; rfl)
    have k0 := hbd t0 (by omega)
    have hV : sum + sc (pi (a - 1)) t0 + (eI size sc (set ||| 2 ^ t0) t0).toNat = sum + (eI size sc set (pi (a - 1))).toNat := by omega
    have hbit0 : set.testBit 0 = true := by
      rw [htk 0 (by omega)]
      have := tk_in (pi := pi) a 0 (by omega)
      rw [hp0] at this
      exact this
    have ht0 : 1 ≤ t0 := by
      rcases Nat.lt_or_ge 0 t0 with z | z
      · exact z
      · rw [show t0 = 0 by omega, hbit0] at b0
        cases b0
    rw [goS_s]
    by_cases c : x.1 ≤ sum
    · rw [if_pos c, if_pos (by omega)]
    · rw [if_neg c, ← hV]
      refine gl_min (U := fun t => tkP pi a t) (V := fun t => sum + sc (pi (a - 1)) t + (eI size sc (set ||| 2 ^ t) t).toNat) (P := fun t => gp size sc r (a + 1) (set ||| 2 ^ t) (updN pi a t)) (hi := size) (fun t y ht => ?_) ?_ (size - 1) 1 x ht0 (by omega) (by omega) (fun t h2 h3 hU => ?_) (fun t h2 h3 hU => ?_)
      · show (if tkP pi a t = true then y else goS size sc cs r (a + 1) (sum + sc (pi (a - 1)) t) (updN pi a t) y) = _
        by_cases u : tkP pi a t = true
        · rw [if_pos u, if_pos u]
        · rw [if_neg u, if_neg u]
          have hb : set.testBit t = false := by rw [htk t ht]; simpa using u
          have ih := go_eq (cs := cs) h7 hsc r (a + 1) (sum + sc (pi (a - 1)) t) (set ||| 2 ^ t) (updN pi a t) y (by omega) (by omega) (or_in hs ht) (by rw [cb_or hb, if_pos ht, hcb]) (fun j hj => by
            rw [Nat.testBit_or, Nat.testBit_two_pow, htk j hj]
            show _ = (tkP (updN pi a t) a j || decide (updN pi a t a = j))
            rw [tkP_congr a j (fun i hi => updN_n pi t (by omega : i ≠ a)), updN_s]) (by rw [updN_n _ _ (by omega)]; exact hp0)
          rw [Nat.add_sub_cancel, updN_s] at ih
          exact ih
      · show tkP pi a t0 = false
        rw [← htk t0 (by omega)]; exact b0
      · have hU' : tkP pi a t = false := hU
        have hb : set.testBit t = false := by rw [htk t (by omega)]; exact hU'
        have m := hmin t (by omega) hb
        have kt := hbd t (by omega)
        have ne : ¬ (sc (pi (a - 1)) t : Int) + eI size sc (set ||| 2 ^ t) t = eI size sc set (pi (a - 1)) := fun z => t4 t (Nat.zero_le _) h3 (prB_t.mpr ⟨hb, z⟩)
        show sum + sc (pi (a - 1)) t0 + (eI size sc (set ||| 2 ^ t0) t0).toNat < sum + sc (pi (a - 1)) t + (eI size sc (set ||| 2 ^ t) t).toNat
        omega
      · have hU' : tkP pi a t = false := hU
        have hb : set.testBit t = false := by rw [htk t (by omega)]; exact hU'
        have m := hmin t (by omega) hb
        have kt := hbd t (by omega)
        show sum + sc (pi (a - 1)) t0 + (eI size sc (set ||| 2 ^ t0) t0).toNat ≤ sum + sc (pi (a - 1)) t + (eI size sc (set ||| 2 ^ t) t).toNat
        omega
theorem e_le {size : Nat} {sc : Nat → Nat → Nat} (h7 : size < 8) (hsc : ∀ a b, sc a b ≤ 12) : ∀ r set last, set ≤ 2 ^ size - 1 → cbN set size + r = size → eI size sc set last ≤ ((12 * (r + 1) : Nat) : Int)
  | 0, set, last, hs, hcb => by
    have p2 := Nat.two_pow_pos size
    have hfull : set = 2 ^ size - 1 := cb_all size h7 set (by omega) (by omega)
    have := hsc last 0
    rw [hfull, eI_full]
    omega
  | r + 1, set, last, hs, hcb => by
    have hlt : set < 2 ^ size - 1 := by
      rcases Nat.lt_or_eq_of_le hs with z | z
      · exact z
      · rw [z, (cb_full size h7).1] at hcb; omega
    obtain ⟨x, hx, hp⟩ := ex_pr (last := last) h7 (fun a b => Nat.le_trans (hsc a b) (by decide)) hlt
    obtain ⟨b0, b1⟩ := prB_t.mp hp
    have ih := e_le h7 hsc r (set ||| 2 ^ x) x (or_in hs hx) (by rw [cb_or b0, if_pos hx]; omega)
    have := hsc last x
    rw [← b1]
    omega
theorem apt_12 {q a b : Nat} (hq : q ≤ 24) : apt q a b ≤ 12 := by unfold apt; omega
theorem a_tour {x y y2 : Mem} {q p m n d f : Nat} {v : Int32} (r : RLT x y q p m n d) (Q : tuQ y y2 q (glB (uil (y 1) (y 5) ((f : Nat) : Int)) n) v) : v = touR (glB (uin (x 30) (x 34) f) n) (goS (glB (uin (x 30) (x 34) f) n).length (scF q (x 32) (x 31) (fun j => (glB (uin (x 30) (x 34) f) n).getD j 0)) (fun j => (glB (uin (x 30) (x 34) f) n).getD j 0) ((glB (uin (x 30) (x 34) f) n).length - 1) 1 0 (fun _ => 0) (168, x 54)) ∧ y2 0 24 = touN (y 0 24) (glB (uin (x 30) (x 34) f) n) ∧ ∀ j, j < tn (touN (x 53 1) (glB (uin (x 30) (x 34) f) n)) → touF (x 54) (glB (uin (x 30) (x 34) f) n) (goS (glB (uin (x 30) (x 34) f) n).length (scF q (x 32) (x 31) (fun j => (glB (uin (x 30) (x 34) f) n).getD j 0)) (fun j => (glB (uin (x 30) (x 34) f) n).getD j 0) ((glB (uin (x 30) (x 34) f) n).length - 1) 1 0 (fun _ => 0) (168, x 54)) j = y2 19 j := by
  have hq2 : q ≤ 24 := r.1.1.2.2.2.2.1
  have e53 := r.2.2.2.2.1
  have e54 := r.2.2.2.2.2.1
  have eL : glB (uil (y 1) (y 5) ((f : Nat) : Int)) n = glB (uin (x 30) (x 34) f) n := glB_congr (uil_uin (fun k hk => (r.2.2.1 k hk).1) (fun k hk => (r.2.2.1 k hk).2.2.2.2))
  rw [eL] at Q
  have hcs : ∀ j, j < (glB (uin (x 30) (x 34) f) n).length → (glB (uin (x 30) (x 34) f) n).getD j 0 < n := fun j hj => gl_lt hj
  generalize glB (uin (x 30) (x 34) f) n = L at Q hcs ⊢
  unfold touR touN touF
  rcases Q with ⟨h8, hv, h24, h19⟩ | ⟨h0, hv, h24, h19⟩ | ⟨h1, h8, hv, h24, h19⟩
  · rw [if_pos h8, if_pos h8, if_pos h8, if_pos h8, h19]
    exact ⟨hv, h24, e54⟩
  · rw [if_neg (show ¬ 7 < L.length by omega), if_neg (show ¬ 7 < L.length by omega), if_neg (show ¬ 7 < L.length by omega), if_neg (show ¬ 7 < L.length by omega), if_pos h0, if_pos h0, if_pos h0, if_pos h0, h19]
    exact ⟨hv, h24, e54⟩
  · rw [if_neg (show ¬ 7 < L.length by omega), if_neg (show ¬ 7 < L.length by omega), if_neg (show ¬ 7 < L.length by omega), if_neg (show ¬ 7 < L.length by omega), if_neg (show ¬ L.length = 0 by omega), if_neg (show ¬ L.length = 0 by omega), if_neg (show ¬ L.length = 0 by omega), if_neg (show ¬ L.length = 0 by omega)]
    have hall : ∀ a, L.getD a 0 < n := by
      intro a
      have n0 := hcs 0 (by omega)
      by_cases c : a < L.length
      · exact hcs a c
      · have e : L.getD a 0 = 0 := by
          rw [List.getD_eq_getElem?_getD, List.getElem?_eq_none (by omega)]
          rfl
        omega
    have esc : scF q (x 32) (x 31) (fun j => L.getD j 0) = scF q (y 3) (y 2) (fun j => L.getD j 0) := by
      funext a b
      unfold scF
      rw [(r.2.2.1 _ (hall a)).2.2.1, (r.2.2.1 _ (hall b)).2.1]
    rw [esc]
    have h12 : ∀ a b, scF q (y 3) (y 2) (fun j => L.getD j 0) a b ≤ 12 := fun a b => apt_12 hq2
    generalize scF q (y 3) (y 2) (fun j => L.getD j 0) = sc at hv h19 h12 ⊢
    have h24' : ∀ a b, sc a b ≤ 24 := fun a b => Nat.le_trans (h12 a b) (by decide)
    have p2 := Nat.pow_le_pow_right (show 0 < 2 by decide) h1
    have cb1 := (cb_full L.length (by omega)).2 h1
    have hb : eI L.length sc 1 0 ≤ ((12 * (L.length - 1 + 1) : Nat) : Int) := e_le (by omega) h12 (L.length - 1) 1 0 (by omega) (by rw [cb1]; omega)
    have hb0 := (eI_bd (size := L.length) (sc := sc) (set := 1) (last := 0) (by omega) h24' (by omega)).1
    have hgo := go_eq (cs := fun j => L.getD j 0) (by omega) h24' (L.length - 1) 1 0 1 (fun _ => 0) (168, x 54) (Nat.le_refl 1) (by omega) (by omega) cb1 (fun j hj => by
      show (1 : Nat).testBit j = (false || decide (0 = j))
      rw [Bool.false_or]
      exact Nat.testBit_two_pow (n := 0)) rfl
    have hgo2 : goS L.length sc (fun j => L.getD j 0) (L.length - 1) 1 0 (fun _ => 0) (168, x 54) = ((eI L.length sc 1 0).toNat, cpF L.length (fun j => L.getD j 0) (gp L.length sc (L.length - 1) 1 1 (fun _ => 0)) (x 54)) := by
      rw [hgo]
      show (if 168 ≤ 0 + (eI L.length sc 1 0).toNat then ((168, x 54) : TS) else (0 + (eI L.length sc 1 0).toNat, cpF L.length (fun j => L.getD j 0) (gp L.length sc (L.length - 1) 1 1 (fun _ => 0)) (x 54))) = _
      rw [if_neg (by omega), Nat.zero_add]
    rw [hgo2]
    refine ⟨?_, h24, fun j hj => ?_⟩
    · rw [hv]
      exact zI_of (by omega)
    · rw [tn_nI (by omega)] at hj
      show (if j < L.length then nI (L.getD (gp L.length sc (L.length - 1) 1 1 (fun _ => 0) j) 0) else x 54 j) = y2 19 j
      rw [if_pos hj, h19 j hj, gp_trc (L.length - 1) 1 1 (fun _ => 0) (Nat.le_refl 1) (by omega) rfl (fun j hj => by rw [show j = 0 by omega]; rfl) j hj]
