def REL (x y : Mem) : Prop := ∃ q p m n d, RLT x y q p m n d
theorem a_told {x y : Mem} {q p m n d : Nat} (r : RLT x y q p m n d) (a b : Int32) : toldV n (x 30) (x 31) (x 32) (x 33) (x 34) a b = toldV n (y 1) (y 2) (y 3) (y 4) (y 5) a b := told_eq r.2.2.1 a b
theorem rl_sd {x y : Mem} {q p m n d : Nat} (r : RLT x y q p m n d) : ∀ j, j < 24 → x 35 j = y 6 j := by
  obtain ⟨I, J, e, -⟩ := r
  intro j hj
  rw [I.2.1 j hj, J.2.1 j hj]
  exact congrArg nI (cntS_congr n j (fun k hk => ⟨(e k hk).2.1, (e k hk).2.2.1⟩))
theorem a_sides {x y : Mem} {q p m n d : Nat} (r : RLT x y q p m n d) (a : Int32) : sidV q (x 35) a = sidV q (y 6) a := by
  have hq : q ≤ 24 := r.1.1.2.2.2.2.1
  unfold sidV
  by_cases c : isC q a
  · have ht : tn a < q := by unfold tn; have := c.1; have := c.2; omega
    rw [if_pos c, if_pos c, rl_sd r _ (by omega)]
  · rw [if_neg c, if_neg c]
theorem a_count {x y : Mem} {q p m n d : Nat} (r : RLT x y q p m n d) (a : Int32) : cntV q p m n d (x 34) a = cntV q p m n d (y 5) a := by
  unfold cntV
  rw [cntU_congr n (fun k hk => (r.2.2.1 k hk).2.2.2.2)]
theorem a_cyc {x y : Mem} {q p m n d : Nat} (r : RLT x y q p m n d) (a : Int32) : cycV d (x 3) a = cycV d (y 7) a := by
  obtain ⟨I, J, -⟩ := r
  have hd : d ≤ 24 := I.1.2.2.2.2.2.2.2.2.2.2.2.2.2.2.2
  unfold cycV
  by_cases c : 0 ≤ a.toInt ∧ a.toInt ≤ d
  · have ht : tn a ≤ d := by unfold tn; have := c.1; have := c.2; omega
    rw [if_pos c, if_pos c, I.2.2.2.2.1 _ (by omega), J.2.2.2.1 _ (by omega)]
  · rw [if_neg c, if_neg c]
theorem a_wayOf {x y : Mem} {q p m n d : Nat} (r : RLT x y q p m n d) (a : Int32) : atV n (x 44) a = atV n (y 15) a := by
  have hn : n ≤ 24 := r.1.1.2.2.2.2.2.2.2.2.2.2.1
  exact atV_eq (fun k hk => r.2.2.2.1 k (by omega)) rfl a
theorem a_copper {x y : Mem} {q p m n d : Nat} (r : RLT x y q p m n d) : copS q (x 31) (x 32) (x 33) (x 34) n = copS q (y 2) (y 3) (y 4) (y 5) n :=
  copS_congr n (fun k hk => ⟨(r.2.2.1 k hk).2.1, (r.2.2.1 k hk).2.2.1, (r.2.2.1 k hk).2.2.2.1, (r.2.2.1 k hk).2.2.2.2⟩)
theorem a_tourAt {x y : Mem} {q p m n d : Nat} (r : RLT x y q p m n d) (a : Int32) : (if a.toInt = -1 then x 53 1 else atV (tn (x 53 1)) (x 54) a) = (if a.toInt = -1 then y 0 24 else atV (tn (y 0 24)) (y 19) a) := by
  rw [← r.2.2.2.2.1, atV_eq r.2.2.2.2.2.1 rfl a]
theorem a_picked {x y : Mem} {q p m n d : Nat} (r : RLT x y q p m n d) (a : Int32) : atV (tn (x 58 3)) (x 59) a = atV (tn (y 0 26)) (y 20) a := by
  rw [← r.2.2.2.2.2.2.1]
  exact atV_eq r.2.2.2.2.2.2.2.1 rfl a
