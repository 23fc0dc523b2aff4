def lk (ok : List Nat → Bool) : Nat → List Nat → List Nat → Option (List Nat)
  | 0, _, l => if ok l = true then some l else none
  | _ + 1, [], _ => none
  | r + 1, x :: xs, l => match lk ok r xs (l ++ [x]) with
    | some z => some z
    | none => lk ok (r + 1) xs l
theorem lk_0 {ok : List Nat → Bool} {xs l : List Nat} : lk ok 0 xs l = if ok l = true then some l else none := by cases xs <;> simp [lk]
theorem lk_some {ok : List Nat → Bool} {r x : Nat} {xs l z : List Nat} (h : lk ok r xs (l ++ [x]) = some z) : lk ok (r + 1) (x :: xs) l = some z := by
  show (match lk ok r xs (l ++ [x]) with | some z => some z | none => lk ok (r + 1) xs l) = _
  rw [h]
theorem lk_none {ok : List Nat → Bool} {r x : Nat} {xs l : List Nat} (h : lk ok r xs (l ++ [x]) = none) : lk ok (r + 1) (x :: xs) l = lk ok (r + 1) xs l := by
  show (match lk ok r xs (l ++ [x]) with | some z => some z | none => lk ok (r + 1) xs l) = _
  rw [h]
theorem pk_lk {U : Nat → Bool} {ok : List Nat → Bool} {n : Nat} : ∀ r a l, pkG U ok n r a l = lk ok r ((List.range' a (n - a)).filter U) l
  | 0, _, _ => lk_0.symm
  | r + 1, a, l => by
    have key : ∀ k a, k = n - a → tryP (fun k => if U k = true then pkG U ok n r (k + 1) (l ++ [k]) else none) k a = lk ok (r + 1) ((List.range' a k).filter U) l := by
      intro k
      induction k with
      | zero => intro a _; rfl
      | succ k ih =>
        intro a hk
        have h1 := ih (a + 1) (by omega)
        rw [List.range'_succ]
        by_cases c : U a = true
        · rw [List.filter_cons_of_pos c]
          have e : (fun k => if U k = true then pkG U ok n r (k + 1) (l ++ [k]) else none) a = lk ok r ((List.range' (a + 1) k).filter U) (l ++ [a]) := by
            show (if U a = true then pkG U ok n r (a + 1) (l ++ [a]) else none) = _
            rw [if_pos c, pk_lk r (a + 1) (l ++ [a]), show n - (a + 1) = k by omega]
          cases hz : lk ok r ((List.range' (a + 1) k).filter U) (l ++ [a]) with
          | some z => rw [lk_some hz]; exact tryP_some (e.trans hz)
          | none => rw [lk_none hz, ← h1]; exact tryP_none (e.trans hz)
        · rw [List.filter_cons_of_neg c, ← h1]
          exact tryP_none (if_neg c)
    rw [pkG_s]
    exact key (n - a) a rfl
theorem qk_lk {ok : List Nat → Bool} {L : List Nat} : ∀ r a l, qk ok L r a l = lk ok r (L.drop a) l
  | 0, _, _ => lk_0.symm
  | r + 1, a, l => by
    have key : ∀ k a, k = L.length - a → tryP (fun i => qk ok L r (i + 1) (l ++ [L.getD i 0])) k a = lk ok (r + 1) (L.drop a) l := by
      intro k
      induction k with
      | zero =>
        intro a hk
        rw [List.drop_eq_nil_of_le (by omega)]
        rfl
      | succ k ih =>
        intro a hk
        have h1 := ih (a + 1) (by omega)
        have ha : a < L.length := by omega
        have hg : L.getD a 0 = L[a] := by rw [List.getD_eq_getElem?_getD, List.getElem?_eq_getElem ha]; rfl
        rw [List.drop_eq_getElem_cons ha, ← hg]
        have e : (fun i => qk ok L r (i + 1) (l ++ [L.getD i 0])) a = lk ok r (L.drop (a + 1)) (l ++ [L.getD a 0]) := qk_lk r (a + 1) (l ++ [L.getD a 0])
        cases hz : lk ok r (L.drop (a + 1)) (l ++ [L.getD a 0]) with
        | some z => rw [lk_some hz]; exact tryP_some (e.trans hz)
        | none => rw [lk_none hz, ← h1]; exact tryP_none (e.trans hz)
    exact key (L.length - a) a rfl
theorem pk_qk {U : Nat → Bool} {ok : List Nat → Bool} {n r : Nat} : pkG U ok n r 0 [] = qk ok (glB U n) r 0 [] := by
  rw [pk_lk, qk_lk, List.drop_zero, Nat.sub_zero, ← List.range_eq_range']
  rfl
theorem lk_congr {ok ok' : List Nat → Bool} {L : List Nat} : ∀ r xs l, (∀ x, x ∈ xs → x ∈ L) → (∀ x, x ∈ l → x ∈ L) → (∀ z, (∀ x, x ∈ z → x ∈ L) → ok z = ok' z) → lk ok r xs l = lk ok' r xs l
  | 0, xs, l, _, hl, e => by
    rw [lk_0, lk_0, e l hl]
  | r + 1, [], _, _, _, _ => rfl
  | r + 1, x :: xs, l, hx, hl, e => by
    have h1 := lk_congr r xs (l ++ [x]) (fun y hy => hx y (List.mem_cons_of_mem _ hy)) (fun y hy => by
      rcases List.mem_append.mp hy with z | z
      · exact hl y z
      · rw [List.mem_singleton] at z; rw [z]; exact hx x List.mem_cons_self) e
    have h2 := lk_congr (r + 1) xs l (fun y hy => hx y (List.mem_cons_of_mem _ hy)) hl e
    show (match lk ok r xs (l ++ [x]) with | some z => some z | none => lk ok (r + 1) xs l) = (match lk ok' r xs (l ++ [x]) with | some z => some z | none => lk ok' (r + 1) xs l)
    rw [h1, h2]
theorem sum_glB {U : Nat → Bool} {tu : Nat → Int32} : ∀ n, sumT tu (glB U n) = tuS U tu n
  | 0 => rfl
  | n + 1 => by
    by_cases c : U n = true
    · rw [glB_t c, sumT_app, sum_glB n]
      show _ = tuS U tu n + (if U n = true then tn (tu n) else 0)
      rw [if_pos c]
    · rw [glB_f (by simpa using c), sum_glB n]
      show _ = tuS U tu n + (if U n = true then tn (tu n) else 0)
      rw [if_neg c, Nat.add_zero]
