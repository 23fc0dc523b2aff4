theorem glB_congr {P Q : Nat → Bool} {n : Nat} (h : ∀ k, k < n → P k = Q k) : glB P n = glB Q n := by
  unfold glB
  exact List.filter_congr (fun k hk => h k (List.mem_range.mp hk))
theorem uil_uin {ph us ph' us' : Nat → Int32} {f n : Nat} (h1 : ∀ k, k < n → ph k = ph' k) (h5 : ∀ k, k < n → us k = us' k) : ∀ k, k < n → uil ph' us' ((f : Nat) : Int) k = uin ph us f k := by
  intro k hk
  unfold uil uin
  rw [h1 k hk, h5 k hk]
  congr 1
  rw [decide_eq_decide]
  omega
theorem sumT_congr {tu tu' : Nat → Int32} {n : Nat} (h : ∀ k, k < n → tu k = tu' k) {l : List Nat} (hl : ∀ x, x ∈ l → x < n) : sumT tu l = sumT tu' l := by
  unfold sumT
  rw [List.map_congr_left (fun x hx => by rw [h x (hl x hx)])]
theorem qk_congr {ok ok' : List Nat → Bool} {L : List Nat} {r : Nat} (e : ∀ z, (∀ x, x ∈ z → x ∈ L) → ok z = ok' z) : qk ok L r 0 [] = qk ok' L r 0 [] := by
  rw [qk_lk, qk_lk, List.drop_zero]
  exact lk_congr r L [] (fun x hx => hx) (fun x hx => absurd hx (by simp)) e
theorem shorts_eq {ph us tu ph' us' tu' : Nat → Int32} {f rd n : Nat} (h1 : ∀ k, k < n → ph k = ph' k) (h4 : ∀ k, k < n → tu k = tu' k) (h5 : ∀ k, k < n → us k = us' k) : tryP (fun j => pkG (uin ph us f) (fun l => decide (((tuS (uin ph us f) tu n : Nat) : Int) - ((rd : Nat) : Int) - ((sumT tu l : Nat) : Int) = 0)) n j 0 []) 4 0 = tryP (fun r => qk (shK tu' (((sumT tu' (glB (uil ph' us' ((f : Nat) : Int)) n) : Nat) : Int) - ((rd : Nat) : Int))) (glB (uil ph' us' ((f : Nat) : Int)) n) r 0 []) 4 0 := by
  have eL : glB (uil ph' us' ((f : Nat) : Int)) n = glB (uin ph us f) n := glB_congr (uil_uin h1 h5)
  have hm : ∀ x, x ∈ glB (uin ph us f) n → x < n := fun x hx => (glB_mem.mp hx).1
  rw [eL]
  congr 1
  funext r
  rw [pk_qk]
  refine qk_congr (fun z hz => ?_)
  unfold shK
  rw [← sum_glB n, sumT_congr h4 hm, sumT_congr h4 (fun x hx => hm x (hz x hx))]
theorem copS_congr {q : Nat} {ci co tu us ci' co' tu' us' : Nat → Int32} : ∀ n, (∀ k, k < n → ci k = ci' k ∧ co k = co' k ∧ tu k = tu' k ∧ us k = us' k) → copS q ci co tu us n = copS q ci' co' tu' us' n
  | 0, _ => rfl
  | n + 1, e => by
    obtain ⟨a, b, c, d⟩ := e n (by omega)
    show copS q ci co tu us n + _ = copS q ci' co' tu' us' n + _
    rw [copS_congr n (fun k hk => e k (by omega)), a, b, c, d]
theorem cntU_congr {us us' : Nat → Int32} : ∀ n, (∀ k, k < n → us k = us' k) → cntU us n = cntU us' n
  | 0, _ => rfl
  | n + 1, e => by
    show cntU us n + _ = cntU us' n + _
    rw [cntU_congr n (fun k hk => e k (by omega)), e n (by omega)]
/-- the two worlds' states, seen from the calls: the same -/
def RLT (x y : Mem) (q p m n d : Nat) : Prop := XI x q p m n d ∧ MI y q p m n d ∧ (∀ k, k < n → x 30 k = y 1 k ∧ x 31 k = y 2 k ∧ x 32 k = y 3 k ∧ x 33 k = y 4 k ∧ x 34 k = y 5 k) ∧ (∀ j, j < 24 → x 44 j = y 15 j) ∧ x 53 1 = y 0 24 ∧ (∀ j, j < tn (x 53 1) → x 54 j = y 19 j) ∧ x 58 3 = y 0 26 ∧ (∀ j, j < tn (x 58 3) → x 59 j = y 20 j) ∧ (∀ s, s < 4 → x 62 s = y 21 s ∧ x 63 s = y 22 s) ∧ ∀ s i, s < 4 → i < 96 → x 65 (i + 96 * s) = y 23 (96 * s + i)
theorem told_eq {n : Nat} {ph ci co tu us ph' ci' co' tu' us' : Nat → Int32} (e : ∀ k, k < n → ph k = ph' k ∧ ci k = ci' k ∧ co k = co' k ∧ tu k = tu' k ∧ us k = us' k) (a b : Int32) : toldV n ph ci co tu us a b = toldV n ph' ci' co' tu' us' a b := by
  unfold toldV
  by_cases c : isC n a
  · have ht : tn a < n := by unfold tn; have := c.1; have := c.2; omega
    obtain ⟨e1, e2, e3, e4, e5⟩ := e (tn a) ht
    rw [if_pos c, if_pos c, e1, e2, e3, e4, e5]
  · rw [if_neg c, if_neg c]
theorem atV_eq {n m : Nat} {f g : Nat → Int32} (e : ∀ k, k < n → f k = g k) (hn : n = m) (a : Int32) : atV n f a = atV m g a := by
  subst hn
  unfold atV
  by_cases c : isC n a
  · have ht : tn a < n := by unfold tn; have := c.1; have := c.2; omega
    rw [if_pos c, if_pos c, e _ ht]
  · rw [if_neg c, if_neg c]
