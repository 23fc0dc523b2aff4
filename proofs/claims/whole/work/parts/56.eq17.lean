theorem laM_lo (h : Mem) (n a : Nat) : ∀ k j, j < n → laM h n a k 30 j = h 30 j ∧ laM h n a k 31 j = h 31 j ∧ laM h n a k 32 j = h 32 j ∧ laM h n a k 33 j = h 33 j ∧ laM h n a k 34 j = h 34 j
  | 0, _, _ => ⟨rfl, rfl, rfl, rfl, rfl⟩
  | k + 1, j, hj => by
    obtain ⟨h1, h2, h3, h4, h5⟩ := laM_lo h n a k j hj
    refine ⟨?_, ?_, ?_, ?_, ?_⟩
    · show upd (laM h n a k 30) (n + k) _ j = _
      rw [upd_n _ _ (by omega)]; exact h1
    · show upd (laM h n a k 31) (n + k) _ j = _
      rw [upd_n _ _ (by omega)]; exact h2
    · show upd (laM h n a k 32) (n + k) _ j = _
      rw [upd_n _ _ (by omega)]; exact h3
    · show upd (laM h n a k 33) (n + k) _ j = _
      rw [upd_n _ _ (by omega)]; exact h4
    · show upd (laM h n a k 34) (n + k) _ j = _
      rw [upd_n _ _ (by omega)]; exact h5
theorem r_back {x y : Mem} {q p m n d a k : Nat} {F : Nat → Int32} (r : RLT x y q p m n d) : RLT (kfM (laM x n a k) n) (mrow y 24 F) q p m n d := by
  obtain ⟨I, J, h, h2, h3, h4, h5, h6, h7, h8⟩ := r
  obtain ⟨⟨hq, hp, hm, hq1, hq2, hp1, hp2, hm1, hm2, hn, hn2, hc, hq0, hd, hd1, hd2⟩, i1, i2, i3, i4, i5, i6, i7, i8, i9, i10, i11⟩ := I
  have lo := laM_lo x n a k
  have o : ∀ {c : Nat}, c ≠ 29 ∧ c ≠ 30 ∧ c ≠ 31 ∧ c ≠ 32 ∧ c ≠ 33 ∧ c ≠ 34 ∧ c ≠ 35 → kfM (laM x n a k) n c = x c := by
    intro c hc9
    unfold kfM
    rw [mup_n _ _ hc9.1, mrow_n _ _ hc9.2.2.2.2.2.2]
    exact laM_o x n a hc9 k
  have o1 := o (c := 1) (by decide)
  have o2 := o (c := 2) (by decide)
  have o3 := o (c := 3) (by decide)
  have o5 := o (c := 5) (by decide)
  have o44 := o (c := 44) (by decide)
  have o47 := o (c := 47) (by decide)
  have o49 := o (c := 49) (by decide)
  have o53 := o (c := 53) (by decide)
  have o54 := o (c := 54) (by decide)
  have o57 := o (c := 57) (by decide)
  have o58 := o (c := 58) (by decide)
  have o59 := o (c := 59) (by decide)
  have o62 := o (c := 62) (by decide)
  have o63 := o (c := 63) (by decide)
  have o65 := o (c := 65) (by decide)
  have cc : ∀ j, cntS (laM x n a k 31) (laM x n a k 32) n j = cntS (x 31) (x 32) n j := fun j => cntS_congr n j (fun i hi => ⟨(lo i hi).2.1, (lo i hi).2.2.1⟩)
  refine ⟨⟨⟨by rw [o1]; exact hq, by rw [o1]; exact hp, by rw [o1]; exact hm, hq1, hq2, hp1, hp2, hm1, hm2, rfl, hn2, fun j hj => ?_, by rw [o2]; exact hq0, by rw [o2]; exact hd, hd1, hd2⟩, fun j hj => if_pos hj, fun j hj => ?_, i3, by rw [o3]; exact i4, by rw [o5, o3]; exact i5, by rw [o47]; exact i6, by rw [o49]; exact i7, by rw [o57]; exact i8, by rw [o53]; exact i9, by rw [o58]; exact i10, by rw [o62, o63]; exact i11⟩, J, fun j hj => ?_, by rw [o44]; exact h2, by rw [o53]; exact h3, by rw [o53, o54]; exact h4, by rw [o58]; exact h5, by rw [o58, o59]; exact h6, by rw [o62, o63]; exact h7, by rw [o65]; exact h8⟩
  · show coilOK q m (laM x n a k 30 j) (laM x n a k 31 j) (laM x n a k 32 j) (laM x n a k 33 j) (laM x n a k 34 j)
    obtain ⟨l1, l2, l3, l4, l5⟩ := lo j hj
    rw [l1, l2, l3, l4, l5]
    exact hc j hj
  · show cntS (laM x n a k 31) (laM x n a k 32) n j ≤ 2
    rw [cc j]
    exact i2 j hj
  · obtain ⟨l1, l2, l3, l4, l5⟩ := lo j hj
    obtain ⟨e1, e2, e3, e4, e5⟩ := h j hj
    exact ⟨l1.trans e1, l2.trans e2, l3.trans e3, l4.trans e4, l5.trans e5⟩
