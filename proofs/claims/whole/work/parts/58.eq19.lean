/-! ways: the search that begins ways in their order finds the first parting of all -/
/-- what the coils of a way have together -/
def wsT (q p : Nat) (ci co tu : Nat → Int32) (cs dg : Nat → Nat) (w i size : Nat) : Int32 := sumI (fun k => dlT q p 0 ci co tu (nI 1) (decide (dg k = w)) (cs k) i) size
theorem wy_ws {q p n w : Nat} {g ci co tu : Nat → Int32} {cs dg : Nat → Nat} (hq3 : 3 ≤ q) (hd : dgT q ≤ 24) (G : ∀ j, j < q → ∀ i, i < 24 → g (i + 24 * j) = tpT q j i) (htu : ∀ k, k < n → tu k = nI (tn (tu k))) : ∀ k, (∀ j, j < k → cs j < n) → ∀ i, i < dgT q → wyS (dgT q) q p g cs ci co tu dg w k i = wsT q p ci co tu cs dg w i k
  | 0, _ => fun _ _ => by show nI 0 = (0 : Int32); decide
  | k + 1, h => fun i hi => by
    have ih := wy_ws (p := p) (ci := ci) (co := co) (dg := dg) (w := w) hq3 hd G htu k (fun j hj => h j (by omega)) i hi
    show (if dg k = w then acF (dgT q) q g (p * tn (ci (cs k))) (p * tn (co (cs k))) (nI 1 * nI (tn (tu (cs k)))) (wyS (dgT q) q p g cs ci co tu dg w k) else wyS (dgT q) q p g cs ci co tu dg w k) i = wsT q p ci co tu cs dg w i k + dlT q p 0 ci co tu (nI 1) (decide (dg k = w)) (cs k) i
    unfold dlT
    by_cases c : dg k = w
    · have ma := Nat.mod_lt (p * tn (ci (cs k))) (show 0 < q by omega)
      have mb := Nat.mod_lt (p * tn (co (cs k))) (show 0 < q by omega)
      rw [if_pos c, if_pos (decide_eq_true c), acF_i hi, ih, G _ ma i (by omega), G _ mb i (by omega), ← htu (cs k) (h k (by omega)), Nat.add_zero, Nat.add_zero]
      grind
    · rw [if_neg c, if_neg (by rw [decide_eq_false c]; decide), ih, Int32.add_zero]
theorem dlT_t {q t w k i : Nat} {ci co tu : Nat → Int32} {x : Int32} : dlT q t w ci co tu x true k i = (x * tu k) * tpT q ((t * tn (ci k) + w) % q) i - (x * tu k) * tpT q ((t * tn (co k) + w) % q) i := if_pos rfl
theorem dlT_f {q t w k i : Nat} {ci co tu : Nat → Int32} {x : Int32} : dlT q t w ci co tu x false k i = 0 := if_neg (by decide)
theorem pw_ws {q p w i : Nat} {ci co tu : Nat → Int32} {cs dg : Nat → Nat} (hq3 : 3 ≤ q) (hw : w ≠ 0) : ∀ k, lin q (pwS q p ci co tu cs dg w zF k) i = wsT q p ci co tu cs dg w i k - wsT q p ci co tu cs dg 0 i k
  | 0 => by
    show lin q zF i = (0 : Int32) - 0
    rw [lin_zF]; decide
  | k + 1 => by
    have ih := pw_ws (p := p) (i := i) (ci := ci) (co := co) (tu := tu) (cs := cs) (dg := dg) hq3 hw k
    have ma := Nat.mod_lt (p * tn (ci (cs k)) + 0) (show 0 < q by omega)
    have mb := Nat.mod_lt (p * tn (co (cs k)) + 0) (show 0 < q by omega)
    show lin q (rwA ((p * tn (ci (cs k)) + 0) % q) ((p * tn (co (cs k)) + 0) % q) (tmI (dg k) w * tu (cs k)) (pwS q p ci co tu cs dg w zF k)) i = wsT q p ci co tu cs dg w i k + dlT q p 0 ci co tu (nI 1) (decide (dg k = w)) (cs k) i - (wsT q p ci co tu cs dg 0 i k + dlT q p 0 ci co tu (nI 1) (decide (dg k = 0)) (cs k) i)
    rw [lin_rwA ma mb, ih]
    unfold tmI
    by_cases c : dg k = w
    · rw [if_pos c, decide_eq_true c, decide_eq_false (p := dg k = 0) (by omega), dlT_t, dlT_f]
      grind
    · by_cases e : dg k = 0
      · rw [if_neg c, if_pos e, decide_eq_false c, decide_eq_true e, dlT_t, dlT_f, show zI (-1) = -(1 : Int32) from by decide, show nI 1 = (1 : Int32) from by decide]
        grind
      · rw [if_neg c, if_neg e, decide_eq_false c, decide_eq_false e, dlT_f, show nI 0 = (0 : Int32) from by decide]
        grind
/-- a parting, told of each way alike -/
def ptP (q p : Nat) (ci co tu : Nat → Int32) (cs : Nat → Nat) (g size : Nat) (dg : Nat → Nat) : Prop := (∀ w, w < g → hcnt dg size w * g = size) ∧ ∀ w, w < g → ∀ i, i < dgT q → wsT q p ci co tu cs dg w i size = wsT q p ci co tu cs dg 0 i size
theorem pt_P {h : Mem} {q p g size : Nat} {cs dg : Nat → Nat} (hq : q < 25) (hq3 : 3 ≤ q) (hp : ∀ i, i < 25 → h 7 i = phF q i) : ptB h q (dgT q) p g size cs dg = true ↔ ptP q p (h 2) (h 3) (h 4) cs g size dg := by
  rw [pt_t]
  have z : ∀ w, 1 ≤ w → (zwB h q (dgT q) p cs dg size w = true ↔ ∀ i, i < dgT q → wsT q p (h 2) (h 3) (h 4) cs dg w i size = wsT q p (h 2) (h 3) (h 4) cs dg 0 i size) := by
    intro w hw
    unfold zwB
    rw [zr_lin hq hq3 hp]
    refine ⟨fun y i hi => ?_, fun y i hi => ?_⟩
    · have e := y i hi
      rw [pw_ws hq3 (by omega)] at e
      grind
    · rw [pw_ws hq3 (by omega), y i hi, Int32.sub_self]
  refine ⟨fun y => ⟨y.1, fun w hw i hi => ?_⟩, fun y => ⟨y.1, fun w hw h1 => (z w h1).mpr (y.2 w hw)⟩⟩
  by_cases c : w = 0
  · rw [c]
  · exact (z w (by omega)).mp (y.2 w hw (by omega)) i hi
/-- two ways change their names -/
def sw (b c x : Nat) : Nat := if x = b then c else if x = c then b else x
theorem sw_iff {b c x w : Nat} : sw b c x = w ↔ x = sw b c w := by
  unfold sw
  repeat' split
  all_goals omega
theorem sw_lt {b c x g : Nat} (hb : b < g) (hc : c < g) (hx : x < g) : sw b c x < g := by
  unfold sw
  split
  · exact hc
  · split
    · exact hb
    · exact hx
theorem hc_sw {b c w : Nat} {dg : Nat → Nat} : ∀ k, hcnt (fun j => sw b c (dg j)) k w = hcnt dg k (sw b c w)
  | 0 => rfl
  | k + 1 => by
    show hcnt (fun j => sw b c (dg j)) k w + (if sw b c (dg k) = w then 1 else 0) = hcnt dg k (sw b c w) + (if dg k = sw b c w then 1 else 0)
    rw [hc_sw k]
    by_cases e : sw b c (dg k) = w
    · rw [if_pos e, if_pos (sw_iff.mp e)]
    · rw [if_neg e, if_neg (fun z => e (sw_iff.mpr z))]
theorem ws_sw {q p b c w i size : Nat} {ci co tu : Nat → Int32} {cs dg : Nat → Nat} : wsT q p ci co tu cs (fun j => sw b c (dg j)) w i size = wsT q p ci co tu cs dg (sw b c w) i size := by
  unfold wsT
  refine sumI_congr size (fun k _ => ?_)
  rw [show decide (sw b c (dg k) = w) = decide (dg k = sw b c w) from decide_eq_decide.mpr sw_iff]
theorem pt_sw {q p b c g size : Nat} {ci co tu : Nat → Int32} {cs dg : Nat → Nat} (hb : b < g) (hc : c < g) (h : ptP q p ci co tu cs g size dg) : ptP q p ci co tu cs g size (fun j => sw b c (dg j)) := by
  refine ⟨fun w hw => ?_, fun w hw i hi => ?_⟩
  · rw [hc_sw]; exact h.1 _ (sw_lt hb hc hw)
  · rw [ws_sw, ws_sw, h.2 _ (sw_lt hb hc hw) i hi, h.2 _ (sw_lt hb hc (by omega)) i hi]
theorem vl_lex {g a : Nat} {z t : Nat → Nat} : ∀ k, a < k → (∀ j, j < a → z j = t j) → z a < t a → (∀ j, j < k → z j < g) → vl g z k < vl g t k
  | 0, h, _, _, _ => absurd h (Nat.not_lt_zero a)
  | k + 1, h, e, l, b => by
    show vl g z k * g + z k < vl g t k * g + t k
    by_cases c : a = k
    · subst c
      rw [vl_congr a e]
      omega
    · have ih := vl_lex k (by omega) e l (fun j hj => b j (by omega))
      have m := Nat.mul_le_mul_right g (show vl g z k + 1 ≤ vl g t k from ih)
      rw [Nat.succ_mul] at m
      have bk := b k (by omega)
      omega
/-- how many ways are begun by the first coils -/
def bgn (t : Nat → Nat) : Nat → Nat
  | 0 => 0
  | a + 1 => max (bgn t a) (t a + 1)
theorem bgn_lt {t : Nat → Nat} : ∀ a j, j < a → t j < bgn t a
  | 0, _, h => absurd h (Nat.not_lt_zero _)
  | a + 1, j, h => by
    show t j < max (bgn t a) (t a + 1)
    by_cases c : j = a
    · subst c; omega
    · have := bgn_lt (t := t) a j (by omega)
      omega
/-- the first parting of all begins its ways in their order -/
theorem rgs_ok {q p g size : Nat} {ci co tu : Nat → Int32} {cs dg : Nat → Nat} (hv : ∀ i, i < size → dg i < g) (hP : ptP q p ci co tu cs g size dg) (hmin : ∀ dg' : Nat → Nat, (∀ i, i < size → dg' i < g) → vl g dg' size < vl g dg size → ¬ ptP q p ci co tu cs g size dg') : ∀ a, a < size → dg a ≤ bgn dg a := by
  intro a ha
  rcases Nat.lt_or_ge (bgn dg a) (dg a) with c | c
  · exfalso
    have hc := hv a ha
    refine hmin (fun j => sw (bgn dg a) (dg a) (dg j)) (fun i hi => sw_lt (by omega) hc (hv i hi)) ?_ (pt_sw (by omega) hc hP)
    refine vl_lex (a := a) size ha (fun j hj => ?_) ?_ (fun i hi => sw_lt (by omega) hc (hv i hi))
    · have := bgn_lt (t := dg) a j hj
      show sw (bgn dg a) (dg a) (dg j) = dg j
      unfold sw
      rw [if_neg (by omega), if_neg (by omega)]
    · show sw (bgn dg a) (dg a) (dg a) < dg a
      unfold sw
      rw [if_neg (by omega), if_pos rfl]
      exact c
  · exact c
theorem hc_mono {t : Nat → Nat} {w a : Nat} : ∀ k, a ≤ k → hcnt t a w ≤ hcnt t k w
  | 0, h => by rw [show a = 0 by omega]; exact Nat.le_refl _
  | k + 1, h => by
    by_cases c : a = k + 1
    · rw [c]; exact Nat.le_refl _
    · have := hc_mono (t := t) (w := w) (a := a) k (by omega)
      show hcnt t a w ≤ hcnt t k w + (if t k = w then 1 else 0)
      omega
theorem tw_mem {F : Nat → Option (Nat → Nat)} {z : Nat → Nat} : ∀ n s, tryW F n s = some z → ∃ w, s ≤ w ∧ w < s + n ∧ F w = some z
  | 0, _, e => by cases e
  | n + 1, s, e => by
    cases hF : F s with
    | some z' =>
      rw [tryW_some hF] at e
      cases e
      exact ⟨s, Nat.le_refl _, by omega, hF⟩
    | none =>
      rw [tryW_none hF] at e
      obtain ⟨w, h1, h2, h3⟩ := tw_mem n (s + 1) e
      exact ⟨w, by omega, by omega, h3⟩
theorem tw_fst {F : Nat → Option (Nat → Nat)} {w : Nat} {z0 : Nat → Nat} (h : F w = some z0) : ∀ n s, s ≤ w → w < s + n → ∃ w' z', w' ≤ w ∧ F w' = some z' ∧ tryW F n s = some z'
  | 0, s, h1, h2 => by omega
  | n + 1, s, h1, h2 => by
    cases hF : F s with
    | some z' => exact ⟨s, z', h1, hF, tryW_some hF⟩
    | none =>
      rw [tryW_none hF]
      have hne : s ≠ w := by
        intro e
        rw [e, h] at hF
        cases hF
      exact tw_fst h n (s + 1) (by omega) (by omega)
theorem ch_some {g per size : Nat} {ok : (Nat → Nat) → Bool} : ∀ r a begun (dg z : Nat → Nat), a + r = size → chS g per ok r a begun dg = some z → (∀ j, j < a → dg j < g) → (∀ w, w < g → hcnt dg a w ≤ per) → ok z = true ∧ (∀ j, j < a → z j = dg j) ∧ (∀ j, j < size → z j < g) ∧ ∀ w, w < g → hcnt z size w ≤ per
  | 0, a, begun, dg, z, ha, e, h1, h2 => by
    have e' : (if ok dg = true then some dg else none) = some z := e
    by_cases c : ok dg = true
    · rw [if_pos c] at e'
      cases e'
      rw [show size = a by omega]
      exact ⟨c, fun _ _ => rfl, h1, h2⟩
    · rw [if_neg c] at e'
      cases e'
  | r + 1, a, begun, dg, z, ha, e, h1, h2 => by
    rw [chS_s] at e
    obtain ⟨w, -, hw2, hF⟩ := tw_mem _ _ e
    have hw : w < g := by omega
    have hF' : (if hcnt dg a w < per then chS g per ok r (a + 1) (max begun (w + 1)) (updN dg a w) else none) = some z := hF
    by_cases c : hcnt dg a w < per
    · rw [if_pos c] at hF'
      have e0 : ∀ j, j < a → updN dg a w j = dg j := fun j hj => updN_n _ _ (by omega)
      obtain ⟨k1, k2, k3, k4⟩ := ch_some (size := size) r (a + 1) _ (updN dg a w) z (by omega) hF' (fun j hj => by
        by_cases y : j = a
        · rw [y, updN_s]; exact hw
        · rw [updN_n _ _ y]; exact h1 j (by omega)) (fun v hv => by
        show hcnt (updN dg a w) a v + (if updN dg a w a = v then 1 else 0) ≤ per
        rw [hcnt_congr a v e0, updN_s]
        have := h2 v hv
        by_cases y : w = v
        · rw [if_pos y, ← y]; omega
        · rw [if_neg y]; omega)
      exact ⟨k1, fun j hj => (k2 j (by omega)).trans (e0 j hj), k3, k4⟩
    · rw [if_neg c] at hF'
      cases hF'
theorem ch_le {g per size : Nat} {ok : (Nat → Nat) → Bool} (hok : ∀ f f' : Nat → Nat, (∀ j, j < size → f j = f' j) → ok f = ok f') {t : Nat → Nat} (ht : ∀ j, j < size → t j < g) (hr : ∀ j, j < size → t j ≤ bgn t j) (hc : ∀ w, w < g → hcnt t size w ≤ per) (hokt : ok t = true) : ∀ r a (dg : Nat → Nat), a + r = size → (∀ j, j < a → dg j = t j) → ∃ z, chS g per ok r a (bgn t a) dg = some z ∧ vl g z size ≤ vl g t size
  | 0, a, dg, ha, e => by
    have ea : size = a := by omega
    have e1 : ∀ j, j < size → dg j = t j := fun j hj => e j (by omega)
    refine ⟨dg, ?_, by rw [vl_congr size e1]; exact Nat.le_refl _⟩
    show (if ok dg = true then some dg else none) = some dg
    rw [if_pos (by rw [hok dg t e1]; exact hokt)]
  | r + 1, a, dg, ha, e => by
    have hta := ht a (by omega)
    have hra := hr a (by omega)
    have hcn : ∀ w, hcnt dg a w = hcnt t a w := fun w => hcnt_congr a w e
    have hlt : hcnt dg a (t a) < per := by
      have m := hc_mono (t := t) (w := t a) (a := a + 1) size (by omega)
      have s : hcnt t (a + 1) (t a) = hcnt t a (t a) + 1 := by
        show hcnt t a (t a) + (if t a = t a then 1 else 0) = _
        rw [if_pos rfl]
      have b := hc (t a) hta
      rw [hcn]
      omega
    obtain ⟨z0, hz0, hl0⟩ := ch_le hok ht hr hc hokt r (a + 1) (updN dg a (t a)) (by omega) (fun j hj => by
      by_cases y : j = a
      · rw [y, updN_s]
      · rw [updN_n _ _ y]; exact e j (by omega))
    have hF : (fun way => if hcnt dg a way < per then chS g per ok r (a + 1) (max (bgn t a) (way + 1)) (updN dg a way) else none) (t a) = some z0 := by
      show (if hcnt dg a (t a) < per then chS g per ok r (a + 1) (max (bgn t a) (t a + 1)) (updN dg a (t a)) else none) = some z0
      rw [if_pos hlt]
      exact hz0
    obtain ⟨w', z', h1, h2, h3⟩ := tw_fst (F := fun way => if hcnt dg a way < per then chS g per ok r (a + 1) (max (bgn t a) (way + 1)) (updN dg a way) else none) (w := t a) hF (min g (bgn t a + 1)) 0 (Nat.zero_le _) (by omega)
    refine ⟨z', by rw [chS_s]; exact h3, ?_⟩
    by_cases y : w' = t a
    · subst y
      have e2 := hF.symm.trans h2
      cases e2
      exact hl0
    · have h2' : (if hcnt dg a w' < per then chS g per ok r (a + 1) (max (bgn t a) (w' + 1)) (updN dg a w') else none) = some z' := h2
      by_cases c : hcnt dg a w' < per
      · rw [if_pos c] at h2'
        have e0 : ∀ j, j < a → updN dg a w' j = dg j := fun j hj => updN_n _ _ (by omega)
        obtain ⟨-, k2, k3, -⟩ := ch_some (size := size) r (a + 1) _ (updN dg a w') z' (by omega) h2' (fun j hj => by
          by_cases y : j = a
          · rw [y, updN_s]; omega
          · rw [updN_n _ _ y, e j (by omega)]; exact ht j (by omega)) (fun v hv => by
          show hcnt (updN dg a w') a v + (if updN dg a w' a = v then 1 else 0) ≤ per
          rw [hcnt_congr a v e0, updN_s]
          have m := hc_mono (t := t) (w := v) (a := a) size (by omega)
          have b := hc v hv
          have s := hcn v
          by_cases y : w' = v
          · rw [if_pos y]
            rw [y] at c
            omega
          · rw [if_neg y]; omega)
        refine Nat.le_of_lt (vl_lex (a := a) size (by omega) (fun j hj => ?_) ?_ k3)
        · rw [k2 j (by omega), e0 j hj, e j hj]
        · rw [k2 a (by omega), updN_s]; omega
      · rw [if_neg c] at h2'
        cases h2'
theorem hc_sum {z : Nat → Nat} {g : Nat} : ∀ k, (∀ j, j < k → z j < g) → sumF (fun w => hcnt z k w) g = k
  | 0, _ => by
    have h : ∀ g, sumF (fun _ => 0) g = 0 := by
      intro g
      induction g with
      | zero => rfl
      | succ g ih => show sumF (fun _ => 0) g + 0 = 0; rw [ih]
    exact h g
  | k + 1, h => by
    show sumF (fun w => hcnt z k w + (if z k = w then 1 else 0)) g = k + 1
    rw [sumF_add, hc_sum k (fun j hj => h j (by omega)), sumF_one, if_pos (h k (by omega))]
theorem sumF_eq {f : Nat → Nat} {b : Nat} : ∀ g, (∀ j, j < g → f j ≤ b) → sumF f g = b * g → ∀ j, j < g → f j = b
  | 0, _, _ => fun j hj => absurd hj (Nat.not_lt_zero j)
  | g + 1, h, e => by
    have h1 := sumF_le g (fun j hj => h j (by omega))
    have h2 := h g (by omega)
    have e' : sumF f g + f g = b * g + b := e.trans (Nat.mul_succ b g)
    intro j hj
    by_cases c : j = g
    · rw [c]; omega
    · exact sumF_eq g (fun j hj => h j (by omega)) (by omega) j (by omega)
theorem hc_per {z : Nat → Nat} {g per size : Nat} (hz : ∀ j, j < size → z j < g) (hc : ∀ w, w < g → hcnt z size w ≤ per) (e : per * g = size) : ∀ w, w < g → hcnt z size w * g = size := by
  intro w hw
  rw [sumF_eq (f := fun w => hcnt z size w) g hc ((hc_sum size hz).trans e.symm) w hw]
  exact e
theorem ws_congr {q p w i size : Nat} {ci co tu ci' co' tu' : Nat → Int32} {cs dg dg' : Nat → Nat} (e : ∀ k, k < size → dg k = dg' k ∧ ci (cs k) = ci' (cs k) ∧ co (cs k) = co' (cs k) ∧ tu (cs k) = tu' (cs k)) : wsT q p ci co tu cs dg w i size = wsT q p ci' co' tu' cs dg' w i size := by
  unfold wsT
  refine sumI_congr size (fun k hk => ?_)
  obtain ⟨e1, e2, e3, e4⟩ := e k hk
  unfold dlT
  rw [e1, e2, e3, e4]
/-- what the class looks at when all are chosen: the ways' sums are the same -/
theorem okW_P {x y : Mem} {q p m n d g size : Nat} {cs : Nat → Nat} (r : RLT x y q p m n d) (hcs : ∀ j, j < size → cs j < n) (hg : 1 ≤ g) (dg : Nat → Nat) : okW d q p g size (x 5) cs (x 31) (x 32) (x 33) dg = true ↔ ∀ w, w < g → ∀ i, i < dgT q → wsT q p (y 2) (y 3) (y 4) cs dg w i size = wsT q p (y 2) (y 3) (y 4) cs dg 0 i size := by
  obtain ⟨hq, hq3, hd, hd24, hx, hy, hG⟩ := rl_base r
  have e := r.2.2.1
  have hc := r.1.1.2.2.2.2.2.2.2.2.2.2.2.1
  subst hd
  have k : ∀ w i, i < dgT q → wyS (dgT q) q p (x 5) cs (x 31) (x 32) (x 33) dg w size i = wsT q p (y 2) (y 3) (y 4) cs dg w i size := by
    intro w i hi
    rw [wy_ws hq3 hd24 hG (fun k hk => (hc k hk).tu.1) size hcs i hi]
    exact ws_congr (fun k hk => ⟨rfl, (e _ (hcs k hk)).2.1, (e _ (hcs k hk)).2.2.1, (e _ (hcs k hk)).2.2.2.1⟩)
  unfold okW
  rw [decide_eq_true_iff]
  exact ⟨fun z w hw i hi => (k w i hi).symm.trans ((z w hw i hi).symm.trans (k 0 i hi)), fun z w hw i hi => (k 0 i hi).trans ((z w hw i hi).symm.trans (k w i hi).symm)⟩
theorem okW_cg {d q p g size : Nat} {gr : Nat → Int32} {cs : Nat → Nat} {ci co tu : Nat → Int32} (hg : 1 ≤ g) (f f' : Nat → Nat) (e : ∀ j, j < size → f j = f' j) : okW d q p g size gr cs ci co tu f = okW d q p g size gr cs ci co tu f' := by
  unfold okW
  rw [decide_eq_decide]
  have k : ∀ w, wyS d q p gr cs ci co tu f w size = wyS d q p gr cs ci co tu f' w size := fun w => wyS_congr size e
  exact ⟨fun z w hw i hi => by rw [← k, ← k]; exact z w hw i hi, fun z w hw i hi => by rw [k, k]; exact z w hw i hi⟩
theorem kc_congr {F F' : Nat → Int32} {cs z z' : Nat → Nat} : ∀ k, (∀ j, j < k → z j = z' j) → (∀ j, j < 24 → kcF F cs z k j = kcF F' cs z' k j)
  | 0, _ => fun j hj => by
    show (if j < 24 then zI (-4) else F j) = (if j < 24 then zI (-4) else F' j)
    rw [if_pos hj, if_pos hj]
  | k + 1, e => fun j hj => by
    show upd (kcF F cs z k) (cs k) (nI (z k)) j = upd (kcF F' cs z' k) (cs k) (nI (z' k)) j
    rw [e k (by omega)]
    by_cases c : j = cs k
    · rw [c, upd_s, upd_s]
    · rw [upd_n _ _ c, upd_n _ _ c]; exact kc_congr k (fun j hj => e j (by omega)) j hj
theorem a_ways {x y y2 : Mem} {q p m n d g f : Nat} {v : Int32} (r : RLT x y q p m n d) (hg1 : 1 ≤ g) (Q : wyQ y y2 q d p g (glB (uil (y 1) (y 5) ((f : Nat) : Int)) n) v) : v = wayR g (glB (uin (x 30) (x 34) f) n) (chS g ((glB (uin (x 30) (x 34) f) n).length / g) (okW d q p g (glB (uin (x 30) (x 34) f) n).length (x 5) (fun j => (glB (uin (x 30) (x 34) f) n).getD j 0) (x 31) (x 32) (x 33)) (glB (uin (x 30) (x 34) f) n).length 0 0 (fun _ => 0)) ∧ ∀ j, j < 24 → wayF (x 44) g (glB (uin (x 30) (x 34) f) n) (chS g ((glB (uin (x 30) (x 34) f) n).length / g) (okW d q p g (glB (uin (x 30) (x 34) f) n).length (x 5) (fun j => (glB (uin (x 30) (x 34) f) n).getD j 0) (x 31) (x 32) (x 33)) (glB (uin (x 30) (x 34) f) n).length 0 0 (fun _ => 0)) j = y2 15 j := by
  obtain ⟨hq, hq3, hd, hd24, hx, hy, hG⟩ := rl_base r
  have e44 := r.2.2.2.1
  have eL : glB (uil (y 1) (y 5) ((f : Nat) : Int)) n = glB (uin (x 30) (x 34) f) n := glB_congr (uil_uin (fun k hk => (r.2.2.1 k hk).1) (fun k hk => (r.2.2.1 k hk).2.2.2.2))
  rw [eL] at Q
  have hcs : ∀ j, j < (glB (uin (x 30) (x 34) f) n).length → (glB (uin (x 30) (x 34) f) n).getD j 0 < n := fun j hj => gl_lt hj
  generalize glB (uin (x 30) (x 34) f) n = L at Q hcs ⊢
  have hokW := okW_P (g := g) (size := L.length) (cs := fun j => L.getD j 0) r hcs hg1
  have hokC := okW_cg (d := d) (q := q) (p := p) (g := g) (size := L.length) (gr := x 5) (cs := fun j => L.getD j 0) (ci := x 31) (co := x 32) (tu := x 33) hg1
  generalize okW d q p g L.length (x 5) (fun j => L.getD j 0) (x 31) (x 32) (x 33) = ok at hokW hokC ⊢
  subst hd
  have hpt : ∀ dg : Nat → Nat, ptB y q (dgT q) p g L.length (fun i => L.getD i 0) dg = true ↔ ptP q p (y 2) (y 3) (y 4) (fun i => L.getD i 0) g L.length dg := fun dg => pt_P hq hq3 hy
  -- what the search finds is a parting
  have snd : ∀ z, L.length % g = 0 → chS g (L.length / g) ok L.length 0 0 (fun _ => 0) = some z → (∀ j, j < L.length → z j < g) ∧ ptP q p (y 2) (y 3) (y 4) (fun i => L.getD i 0) g L.length z := by
    intro z hm hz
    obtain ⟨k1, -, k3, k4⟩ := ch_some (size := L.length) L.length 0 0 (fun _ => 0) z (by omega) hz (fun j hj => absurd hj (Nat.not_lt_zero j)) (fun w _ => Nat.zero_le _)
    exact ⟨k3, hc_per k3 k4 (Nat.div_mul_cancel (Nat.dvd_of_mod_eq_zero hm)), (hokW z).mp k1⟩
  unfold wayR wayF
  rcases Q with ⟨h8, hv, h15⟩ | ⟨h8, hno, hv, h15⟩ | ⟨h1, h8, dg, hdv, hdp, hmin, hv, h15⟩
  · rw [if_pos h8, if_pos h8, h15]
    exact ⟨hv, e44⟩
  · rw [if_neg (show ¬ 8 < L.length by omega), if_neg (show ¬ 8 < L.length by omega), h15]
    by_cases c : L.length = 0 ∨ L.length % g ≠ 0
    · rw [if_pos c, if_pos c]
      exact ⟨hv, e44⟩
    · rw [if_neg c, if_neg c]
      cases hz : chS g (L.length / g) ok L.length 0 0 (fun _ => 0) with
      | none => exact ⟨hv, e44⟩
      | some z =>
        exfalso
        obtain ⟨z1, z2⟩ := snd z (by omega) hz
        rcases hno with y0 | y0
        · exact c (Or.inl y0)
        · have := y0 z z1
          rw [(hpt z).mpr z2] at this
          cases this
  · have hP := (hpt dg).mp hdp
    have hper : hcnt dg L.length 0 * g = L.length := hP.1 0 (by omega)
    have hm : L.length % g = 0 := by rw [← hper]; exact Nat.mul_mod_left _ _
    have hper2 : hcnt dg L.length 0 = L.length / g := by
      have := Nat.mul_div_cancel (hcnt dg L.length 0) (show 0 < g by omega)
      rw [hper] at this
      exact this.symm
    have hcw : ∀ w, w < g → hcnt dg L.length w ≤ L.length / g := by
      intro w hw
      have a1 := hP.1 w hw
      rw [← hper2]
      exact Nat.le_of_eq (Nat.eq_of_mul_eq_mul_right (show 0 < g by omega) (a1.trans hper.symm))
    have hrgs := rgs_ok hdv hP (fun dg' h1 h2 h3 => by
      have := hmin dg' h1 h2
      rw [(hpt dg').mpr h3] at this
      cases this)
    obtain ⟨z, hz, hl⟩ := ch_le (size := L.length) hokC hdv hrgs hcw ((hokW dg).mpr hP.2) L.length 0 (fun _ => 0) (by omega) (fun j hj => absurd hj (Nat.not_lt_zero j))
    have hz' : chS g (L.length / g) ok L.length 0 0 (fun _ => 0) = some z := hz
    obtain ⟨z1, z2⟩ := snd z hm hz'
    have hge : ¬ vl g z L.length < vl g dg L.length := by
      intro w
      have := hmin z z1 w
      rw [(hpt z).mpr z2] at this
      cases this
    have heq := vl_inj L.length z1 hdv (by omega)
    rw [if_neg (show ¬ 8 < L.length by omega), if_neg (show ¬ 8 < L.length by omega), if_neg (show ¬ (L.length = 0 ∨ L.length % g ≠ 0) by omega), if_neg (show ¬ (L.length = 0 ∨ L.length % g ≠ 0) by omega), hz', h15]
    exact ⟨hv, kc_congr L.length heq⟩
