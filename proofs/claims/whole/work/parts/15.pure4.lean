/-! the ways: what the class's search does -/
def updN (f : Nat → Nat) (k x : Nat) : Nat → Nat := fun j => if j = k then x else f j
theorem updN_s (f : Nat → Nat) (k x : Nat) : updN f k x k = x := if_pos rfl
theorem updN_n (f : Nat → Nat) {k j : Nat} (x : Nat) (h : j ≠ k) : updN f k x j = f j := if_neg h
def hcnt (dg : Nat → Nat) : Nat → Nat → Nat
  | 0, _ => 0
  | k + 1, w => hcnt dg k w + (if dg k = w then 1 else 0)
theorem hcnt_le (dg : Nat → Nat) : ∀ k w, hcnt dg k w ≤ k
  | 0, _ => Nat.le_refl _
  | k + 1, w => by have := hcnt_le dg k w; unfold hcnt; split <;> omega
theorem hcnt_congr {dg dg' : Nat → Nat} : ∀ k w, (∀ j, j < k → dg j = dg' j) → hcnt dg k w = hcnt dg' k w
  | 0, _, _ => rfl
  | k + 1, w, e => by
    unfold hcnt
    rw [hcnt_congr k w (fun j h => e j (by omega)), e k (by omega)]
/-- a way's wave by the first k of the listed coils -/
def wyS (d q p : Nat) (g : Nat → Int32) (cs : Nat → Nat) (ci co tu : Nat → Int32) (dg : Nat → Nat) (w : Nat) : Nat → Nat → Int32
  | 0 => zF
  | k + 1 => if dg k = w then acF d q g (p * tn (ci (cs k))) (p * tn (co (cs k))) (nI 1 * nI (tn (tu (cs k)))) (wyS d q p g cs ci co tu dg w k) else wyS d q p g cs ci co tu dg w k
theorem wyS_s (d q p : Nat) (g : Nat → Int32) (cs : Nat → Nat) (ci co tu : Nat → Int32) (dg : Nat → Nat) (w k : Nat) : wyS d q p g cs ci co tu dg w (k + 1) = if dg k = w then acF d q g (p * tn (ci (cs k))) (p * tn (co (cs k))) (nI 1 * nI (tn (tu (cs k)))) (wyS d q p g cs ci co tu dg w k) else wyS d q p g cs ci co tu dg w k := rfl
theorem wyS_congr {d q p : Nat} {g : Nat → Int32} {cs : Nat → Nat} {ci co tu : Nat → Int32} {dg dg' : Nat → Nat} {w : Nat} : ∀ k, (∀ j, j < k → dg j = dg' j) → wyS d q p g cs ci co tu dg w k = wyS d q p g cs ci co tu dg' w k
  | 0, _ => rfl
  | k + 1, e => by
    unfold wyS
    rw [wyS_congr k (fun j h => e j (by omega)), e k (by omega)]
def tryW (F : Nat → Option (Nat → Nat)) : Nat → Nat → Option (Nat → Nat)
  | 0, _ => none
  | n + 1, w => match F w with
    | some z => some z
    | none => tryW F n (w + 1)
theorem tryW_some {F : Nat → Option (Nat → Nat)} {n w : Nat} {z : Nat → Nat} (h : F w = some z) : tryW F (n + 1) w = some z := by unfold tryW; rw [h]
theorem tryW_none {F : Nat → Option (Nat → Nat)} {n w : Nat} (h : F w = none) : tryW F (n + 1) w = tryW F n (w + 1) := by
  show (match F w with | some z => some z | none => tryW F n (w + 1)) = _
  rw [h]
def chS (g per : Nat) (ok : (Nat → Nat) → Bool) : Nat → Nat → Nat → (Nat → Nat) → Option (Nat → Nat)
  | 0, _, _, dg => if ok dg then some dg else none
  | r + 1, a, begun, dg => tryW (fun way => if hcnt dg a way < per then chS g per ok r (a + 1) (max begun (way + 1)) (updN dg a way) else none) (min g (begun + 1)) 0
theorem chS_s (g per : Nat) (ok : (Nat → Nat) → Bool) (r a begun : Nat) (dg : Nat → Nat) : chS g per ok (r + 1) a begun dg = tryW (fun way => if hcnt dg a way < per then chS g per ok r (a + 1) (max begun (way + 1)) (updN dg a way) else none) (min g (begun + 1)) 0 := rfl
def okW (d q p g size : Nat) (gr : Nat → Int32) (cs : Nat → Nat) (ci co tu : Nat → Int32) (dg : Nat → Nat) : Bool := decide (∀ w, w < g → ∀ i, i < d → wyS d q p gr cs ci co tu dg 0 size i = wyS d q p gr cs ci co tu dg w size i)
def WC (h : Mem) (size g n : Nat) (cs : Nat → Nat) : Prop := h 43 5 = nI size ∧ h 43 6 = nI g ∧ size ≤ 8 ∧ 1 ≤ g ∧ g ≤ 4 ∧ ∀ j, j < size → h 45 j = nI (cs j) ∧ cs j < n
def WY (h : Mem) (d q p : Nat) (cs dg : Nat → Nat) (a : Nat) : Prop := (∀ w, w < 4 → h 47 w = nI (hcnt dg a w)) ∧ ∀ w i, w < 4 → i < 24 → h 49 (i + 24 * w) = wyS d q p (h 5) cs (h 31) (h 32) (h 33) dg w a i
def chPost (h : Mem) (size a : Nat) (res : Option (Nat → Nat)) (r : Int32) (h2 : Mem) : Prop := r = bI (res.isSome = true) ∧ ∃ c, h2 = mrow h 46 c ∧ (∀ j, j < a → c j = h 46 j) ∧ (∀ z, res = some z → ∀ j, j < size → c j = nI (z j))
def mvM (h : Mem) (d q p k w : Nat) (t : Int32) : Mem := mrow (mup h 47 w (h 47 w + t)) 49 (gput (h 49) (24 * w) 24 (acF d q (h 5) (p * tn (h 31 k)) (p * tn (h 32 k)) (t * nI (tn (h 33 k))) (grd (h 49) (24 * w))))
theorem i32_anc (x y z : Int32) : x + y * z + -y * z = x := by
  rw [Int32.neg_mul, Int32.add_neg_eq_sub]
  exact Int32.add_sub_cancel x (y * z)
theorem acF_inv {d q : Nat} {g f : Nat → Int32} {a b : Nat} {t : Int32} (i : Nat) : acF d q g a b (-t) (acF d q g a b t f) i = f i := by
  unfold acF addF
  by_cases h : i < d
  · simp only [if_pos h]
    generalize grd g (24 * (a % q)) i = x
    generalize grd g (24 * (b % q)) i = y
    rw [Int32.neg_neg]
    have e : f i + t * x + -t * y + -t * x + t * y = f i + t * x + -t * x + -t * y + t * y := by
      rw [Int32.add_assoc (f i + t * x) (-t * y) (-t * x), Int32.add_comm (-t * y) (-t * x), ← Int32.add_assoc]
    rw [e, i32_anc]
    have e2 := i32_anc (f i) (-t) y
    rw [Int32.neg_neg] at e2
    exact e2
  · simp only [if_neg h]
theorem neg1_mul (x : Int32) : zI (-1) * x = -(nI 1 * x) := by
  show (-1 : Int32) * x = -((1 : Int32) * x)
  rw [Int32.one_mul, Int32.neg_mul, Int32.one_mul]
theorem add_neg1 (x : Int32) : x + nI 1 + zI (-1) = x := by
  show x + 1 + (-1 : Int32) = x
  rw [Int32.add_neg_eq_sub]
  exact Int32.add_sub_cancel x 1
theorem mv_inv (h : Mem) (d q p k w : Nat) (c : Nat → Int32) : mvM (mrow (mvM h d q p k w (nI 1)) 46 c) d q p k w (zI (-1)) = mrow h 46 c := by
  funext x
  by_cases h9 : x = 49
  · subst h9
    show gput (mvM h d q p k w (nI 1) 49) (24 * w) 24 _ = h 49
    funext j
    by_cases hj : 24 * w ≤ j ∧ j < 24 * w + 24
    · unfold gput
      rw [if_pos hj, neg1_mul]
      have e : ∀ i, i < 24 → grd (mrow (mvM h d q p k w (nI 1)) 46 c 49) (24 * w) i = acF d q (h 5) (p * tn (h 31 k)) (p * tn (h 32 k)) (nI 1 * nI (tn (h 33 k))) (grd (h 49) (24 * w)) i := fun i hi => gput_in hi
      refine (acF_at (e _ (by omega))).trans ((acF_inv _).trans ?_)
      unfold grd
      rw [show j - 24 * w + 24 * w = j by omega]
    · rw [gput_out (by omega)]
      show gput (h 49) (24 * w) 24 _ j = h 49 j
      rw [gput_out (by omega)]
  · by_cases h7 : x = 47
    · subst h7
      show upd (upd (h 47) w (h 47 w + nI 1)) w (upd (h 47) w (h 47 w + nI 1) w + zI (-1)) = h 47
      funext j
      by_cases hj : j = w
      · subst hj; rw [upd_s, upd_s, add_neg1]
      · rw [upd_n _ _ hj, upd_n _ _ hj]
    · by_cases h6 : x = 46
      · subst h6; rfl
      · simp only [mvM, mrow, mup, h9, h7, h6, if_false]
theorem wy_step {h : Mem} {d q p : Nat} {cs dg : Nat → Nat} {a way : Nat} (H : WY h d q p cs dg a) (hw : way < 4) : WY (mvM h d q p (cs a) way (nI 1)) d q p cs (updN dg a way) (a + 1) := by
  have e0 : ∀ j, j < a → updN dg a way j = dg j := fun j hj => updN_n _ _ (by omega)
  refine ⟨fun w hw2 => ?_, fun w i hw2 hi => ?_⟩
  · show upd (h 47) way (h 47 way + nI 1) w = nI (hcnt (updN dg a way) a w + (if updN dg a way a = w then 1 else 0))
    rw [hcnt_congr a w e0, updN_s]
    by_cases e : w = way
    · subst e; rw [upd_s, if_pos rfl, H.1 w hw2]; exact nI_add _ _
    · rw [upd_n _ _ e, if_neg (Ne.symm e), H.1 w hw2]; rfl
  · show gput (h 49) (24 * way) 24 _ (i + 24 * w) = _
    rw [wyS_s, updN_s]
    by_cases e : way = w
    · subst e
      rw [if_pos rfl, gput_in hi]
      refine acF_at ?_
      rw [wyS_congr a e0]
      exact H.2 way i hw2 hi
    · rw [if_neg e, gput_out (by omega)]
      rw [wyS_congr a e0]
      exact H.2 w i hw2 hi
/-- the ways told: of each coil its way, -4 of the others -/
def kcF (F : Nat → Int32) (cs : Nat → Nat) (z : Nat → Nat) : Nat → Nat → Int32
  | 0 => fun j => if j < 24 then zI (-4) else F j
  | k + 1 => upd (kcF F cs z k) (cs k) (nI (z k))
def ngK (F : Nat → Int32) (k : Nat) : Nat → Int32 := fun j => if j < k then zI (-4) else F j
theorem ngK_0 (F : Nat → Int32) : ngK F 0 = F := by funext j; unfold ngK; rw [if_neg (by omega)]
theorem ngK_s (F : Nat → Int32) (k : Nat) : upd (ngK F k) k (zI (-4)) = ngK F (k + 1) := by
  funext i
  unfold ngK
  by_cases hi : i = k
  · subst hi; rw [upd_s, if_pos (by omega)]
  · rw [upd_n _ _ hi]
    by_cases h3 : i < k
    · rw [if_pos h3, if_pos (by omega)]
    · rw [if_neg h3, if_neg (by omega)]
