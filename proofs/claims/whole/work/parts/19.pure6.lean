/-! picks: the fewest coils that do -/
def tryP (F : Nat → Option (List Nat)) : Nat → Nat → Option (List Nat)
  | 0, _ => none
  | n + 1, w => match F w with
    | some z => some z
    | none => tryP F n (w + 1)
theorem tryP_some {F : Nat → Option (List Nat)} {n w : Nat} {z : List Nat} (h : F w = some z) : tryP F (n + 1) w = some z := by
  show (match F w with | some z => some z | none => tryP F n (w + 1)) = _
  rw [h]
theorem tryP_none {F : Nat → Option (List Nat)} {n w : Nat} (h : F w = none) : tryP F (n + 1) w = tryP F n (w + 1) := by
  show (match F w with | some z => some z | none => tryP F n (w + 1)) = _
  rw [h]
theorem tryP_of {F : Nat → Option (List Nat)} {Q : List Nat → Prop} (h : ∀ w z, F w = some z → Q z) : ∀ n w z, tryP F n w = some z → Q z
  | 0, _, _, e => by cases e
  | n + 1, w, z, e => by
    cases hF : F w with
    | none => rw [tryP_none hF] at e; exact tryP_of h n (w + 1) z e
    | some z' => rw [tryP_some hF] at e; cases e; exact h w z hF
def pkG (U : Nat → Bool) (ok : List Nat → Bool) (n : Nat) : Nat → Nat → List Nat → Option (List Nat)
  | 0, _, l => if ok l then some l else none
  | r + 1, a, l => tryP (fun k => if U k = true then pkG U ok n r (k + 1) (l ++ [k]) else none) (n - a) a
theorem pkG_s (U : Nat → Bool) (ok : List Nat → Bool) (n r a : Nat) (l : List Nat) : pkG U ok n (r + 1) a l = tryP (fun k => if U k = true then pkG U ok n r (k + 1) (l ++ [k]) else none) (n - a) a := rfl
theorem pkG_len {U : Nat → Bool} {ok : List Nat → Bool} {n : Nat} : ∀ r a l z, pkG U ok n r a l = some z → z.length = l.length + r
  | 0, a, l, z, e => by
    unfold pkG at e
    split at e
    · cases e; rfl
    · cases e
  | r + 1, a, l, z, e => by
    rw [pkG_s] at e
    refine tryP_of (Q := fun z => z.length = l.length + (r + 1)) (fun k z h => ?_) _ _ _ e
    by_cases hU : U k = true
    · simp only [if_pos hU] at h
      have := pkG_len r (k + 1) (l ++ [k]) z h
      rw [List.length_append] at this
      simp only [List.length_cons, List.length_nil] at this
      omega
    · simp only [if_neg hU] at h
      cases h
/-- the rows without some coils -/
def rem1 (d q tone : Nat) (g ph ci co tu : Nat → Int32) (S : Nat → Nat → Int32) (k : Nat) : Nat → Nat → Int32 := fun f => if f = tn (ph k) then acF d q g (tone * tn (ci k)) (tone * tn (co k)) (zI (-1) * nI (tn (tu k))) (S f) else S f
def remS (d q tone : Nat) (g ph ci co tu : Nat → Int32) (S : Nat → Nat → Int32) (l : List Nat) : Nat → Nat → Int32 := l.foldl (rem1 d q tone g ph ci co tu) S
def okM (q m d tone : Nat) (p : Nat → Int32) (S : Nat → Nat → Int32) : Bool := decide (¬ (∀ i, i < d → S 0 i = 0) ∧ ¬ ltV q m d tone p S = zI (-4))
theorem turnN_congr {d : Nat} {p f g : Nat → Int32} (hd : 1 ≤ d) (hd2 : d ≤ 24) (e : ∀ i, i < 24 → f i = g i) : ∀ k i, i < 24 → turnN d p f k i = turnN d p g k i
  | 0 => e
  | k + 1 => turnF_congr hd hd2 (turnN_congr hd hd2 e k)
theorem togK_congr {d : Nat} {S S' : Nat → Nat → Int32} (hd2 : d ≤ 24) : ∀ m, m ≤ 3 → (∀ f i, f < 3 → i < 24 → S f i = S' f i) → ∀ i, i < 24 → togK d S m i = togK d S' m i
  | 0, _, _ => fun _ _ => rfl
  | m + 1, h, e => fun i hi => by
    show (if i < d then togK d S m i + S m i else togK d S m i) = (if i < d then togK d S' m i + S' m i else togK d S' m i)
    rw [togK_congr hd2 m (by omega) e i hi, e m i (by omega) hi]
theorem likeP_congr {d : Nat} {p : Nat → Int32} {S S' : Nat → Nat → Int32} (hd : 1 ≤ d) (hd2 : d ≤ 24) (e : ∀ f i, f < 3 → i < 24 → S f i = S' f i) {f : Nat} (hf : f < 3) (k : Nat) : likeP d p S f k = likeP d p S' f k := by
  unfold likeP
  rw [decide_eq_decide]
  exact ⟨fun z i hi => (turnN_congr hd hd2 (fun i hi => (e 0 i (by omega) hi).symm) k i (by omega)).trans ((z i hi).trans (e f i hf (by omega))), fun z i hi => (turnN_congr hd hd2 (fun i hi => e 0 i (by omega) hi) k i (by omega)).trans ((z i hi).trans (e f i hf (by omega)).symm)⟩
theorem ltV_congr {q m d tone : Nat} {p : Nat → Int32} {S S' : Nat → Nat → Int32} (hm : m ≤ 3) (hd : 1 ≤ d) (hd2 : d ≤ 24) (e : ∀ f i, f < 3 → i < 24 → S f i = S' f i) : ltV q m d tone p S = ltV q m d tone p S' := by
  unfold ltV
  have e1 : (∀ i, i < d → togK d S m i = 0) ↔ (∀ i, i < d → togK d S' m i = 0) :=
    ⟨fun z i hi => (togK_congr hd2 m hm e i (by omega)).symm.trans (z i hi), fun z i hi => (togK_congr hd2 m hm e i (by omega)).trans (z i hi)⟩
  have e2 : lbP q m d tone p S = lbP q m d tone p S' := by
    funext s
    unfold lbP
    rw [decide_eq_decide]
    exact ⟨fun z f hf => (likeP_congr hd hd2 e (by omega) _).symm.trans (z f hf), fun z f hf => (likeP_congr hd hd2 e (by omega) _).trans (z f hf)⟩
  rw [e2]
  by_cases c : 1 < m ∧ ¬ (∀ i, i < d → togK d S m i = 0)
  · rw [if_pos c, if_pos ⟨c.1, fun z => c.2 (e1.mpr z)⟩]
  · rw [if_neg c, if_neg (fun z => c ⟨z.1, fun y => z.2 (e1.mp y)⟩)]
theorem okM_congr {q m d tone : Nat} {p : Nat → Int32} {S S' : Nat → Nat → Int32} (hm : m ≤ 3) (hd : 1 ≤ d) (hd2 : d ≤ 24) (e : ∀ f i, f < 3 → i < 24 → S f i = S' f i) : okM q m d tone p S = okM q m d tone p S' := by
  unfold okM
  rw [ltV_congr hm hd hd2 e, decide_eq_decide]
  have e1 : (∀ i, i < d → S 0 i = 0) ↔ (∀ i, i < d → S' 0 i = 0) :=
    ⟨fun z i hi => (e 0 i (by omega) (by omega)).symm.trans (z i hi), fun z i hi => (e 0 i (by omega) (by omega)).trans (z i hi)⟩
  rw [e1]
def adM (h : Mem) (d q tone k : Nat) (t : Int32) : Mem := mrow h 38 (gput (h 38) (24 * tn (h 30 k)) 24 (acF d q (h 5) (tone * tn (h 31 k)) (tone * tn (h 32 k)) (t * nI (tn (h 33 k))) (grd (h 38) (24 * tn (h 30 k)))))
theorem ad_inv (h : Mem) (d q tone k : Nat) (w v c : Nat → Int32) : adM (mrow (mrow (mrow (adM h d q tone k (zI (-1))) 41 w) 42 v) 60 c) d q tone k (nI 1) = mrow (mrow (mrow h 41 w) 42 v) 60 c := by
  funext x
  by_cases h9 : x = 38
  · subst h9
    show gput (gput (h 38) _ 24 _) (24 * tn (h 30 k)) 24 _ = h 38
    funext j
    by_cases hj : 24 * tn (h 30 k) ≤ j ∧ j < 24 * tn (h 30 k) + 24
    · unfold gput
      rw [if_pos hj]
      refine (acF_at (f' := acF d q (h 5) (tone * tn (h 31 k)) (tone * tn (h 32 k)) (zI (-1) * nI (tn (h 33 k))) (grd (h 38) (24 * tn (h 30 k)))) (gput_in (F := h 38) (by omega))).trans ?_
      have e : nI 1 * nI (tn (h 33 k)) = -(zI (-1) * nI (tn (h 33 k))) := by rw [neg1_mul, Int32.neg_neg]
      show acF d q (h 5) (tone * tn (h 31 k)) (tone * tn (h 32 k)) (nI 1 * nI (tn (h 33 k))) _ _ = _
      rw [e]
      refine (acF_inv _).trans ?_
      unfold grd
      rw [show j - 24 * tn (h 30 k) + 24 * tn (h 30 k) = j by omega]
    · rw [gput_out (by omega), gput_out (by omega)]
  · by_cases h7 : x = 41
    · subst h7; rfl
    · by_cases h6 : x = 42
      · subst h6; rfl
      · by_cases h5 : x = 60
        · subst h5; rfl
        · simp only [adM, mrow, h9, h7, h6, h5, if_false]
def sumOK (h : Mem) (S : Nat → Nat → Int32) : Prop := ∀ f i, f < 3 → i < 24 → grd (h 38) (24 * f) i = S f i
theorem ad_sum {h : Mem} {d q tone k : Nat} {S : Nat → Nat → Int32} (H : sumOK h S) (hk : tn (h 30 k) < 3) : sumOK (adM h d q tone k (zI (-1))) (rem1 d q tone (h 5) (h 30) (h 31) (h 32) (h 33) S k) := by
  intro f i hf hi
  show gput (h 38) (24 * tn (h 30 k)) 24 _ (i + 24 * f) = (if f = tn (h 30 k) then acF d q (h 5) (tone * tn (h 31 k)) (tone * tn (h 32 k)) (zI (-1) * nI (tn (h 33 k))) (S f) else S f) i
  by_cases e : f = tn (h 30 k)
  · rw [if_pos e, e, gput_in hi]
    refine acF_at ?_
    rw [← e]
    exact H f i hf hi
  · rw [if_neg e, gput_out (by omega)]
    exact H f i hf hi
def sumT (tu : Nat → Int32) (l : List Nat) : Nat := (l.map (fun k => tn (tu k))).sum
theorem sumT_app (tu : Nat → Int32) (l : List Nat) (k : Nat) : sumT tu (l ++ [k]) = sumT tu l + tn (tu k) := by
  unfold sumT
  rw [List.map_append, List.sum_append]
  simp
def tuS (P : Nat → Bool) (tu : Nat → Int32) : Nat → Nat
  | 0 => 0
  | k + 1 => tuS P tu k + (if P k = true then tn (tu k) else 0)
theorem tuS_le {P : Nat → Bool} {tu : Nat → Int32} : ∀ k, (∀ j, j < k → tn (tu j) ≤ 99) → tuS P tu k ≤ 99 * k
  | 0, _ => Nat.le_refl _
  | k + 1, h => by
    have h1 := tuS_le (P := P) k (fun j hj => h j (by omega))
    have h2 := h k (by omega)
    unfold tuS
    split <;> omega
def pkV (res : Option (List Nat)) : Int32 := match res with
  | some z => nI z.length
  | none => zI (-4)
def pkN (v : Int32) (res : Option (List Nat)) : Int32 := match res with
  | some z => nI z.length
  | none => v
def pkQ (F F' : Nat → Int32) (res : Option (List Nat)) : Prop := match res with
  | some z => ∀ j, j < z.length → F' j = nI (z.getD j 0)
  | none => F' = F
theorem getD_app {l : List Nat} {k j : Nat} (h : j < l.length) : (l ++ [k]).getD j 0 = l.getD j 0 := by
  simp [List.getElem?_append_left h]
theorem getD_end (l : List Nat) (k : Nat) : (l ++ [k]).getD l.length 0 = k := by simp
