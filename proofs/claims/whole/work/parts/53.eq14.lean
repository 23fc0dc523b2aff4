theorem r_pick {x y x2 y2 : Mem} {q p m n d : Nat} (r : RLT x y q p m n d) {res : Option (List Nat)} (hl : ∀ z, res = some z → z.length ≤ 3) (a : agr x x2 [36, 38, 41, 42, 58, 59, 60]) (b : mag y y2 [20, 12, 13, 14] [26, 18]) (a3 : x2 58 3 = pkN (x 58 3) res) (a4 : pkQ (x 59) (x2 59) res) (b3 : y2 0 26 = pkN (y 0 26) res) (b4 : pkQ (y 20) (y2 20) res) : RLT x2 y2 q p m n d := by
  have ex1 : x2 1 = x 1 := a 1 (by decide)
  have ex2 : x2 2 = x 2 := a 2 (by decide)
  have ex3 : x2 3 = x 3 := a 3 (by decide)
  have ex5 : x2 5 = x 5 := a 5 (by decide)
  have ex29 : x2 29 = x 29 := a 29 (by decide)
  have ex30 : x2 30 = x 30 := a 30 (by decide)
  have ex31 : x2 31 = x 31 := a 31 (by decide)
  have ex32 : x2 32 = x 32 := a 32 (by decide)
  have ex33 : x2 33 = x 33 := a 33 (by decide)
  have ex34 : x2 34 = x 34 := a 34 (by decide)
  have ex35 : x2 35 = x 35 := a 35 (by decide)
  have ex44 : x2 44 = x 44 := a 44 (by decide)
  have ex47 : x2 47 = x 47 := a 47 (by decide)
  have ex49 : x2 49 = x 49 := a 49 (by decide)
  have ex53 : x2 53 = x 53 := a 53 (by decide)
  have ex54 : x2 54 = x 54 := a 54 (by decide)
  have ex57 : x2 57 = x 57 := a 57 (by decide)
  have ex62 : x2 62 = x 62 := a 62 (by decide)
  have ex63 : x2 63 = x 63 := a 63 (by decide)
  have ex65 : x2 65 = x 65 := a 65 (by decide)
  have ey1 : y2 1 = y 1 := b.1 1 (by decide) (by decide)
  have ey2 : y2 2 = y 2 := b.1 2 (by decide) (by decide)
  have ey3 : y2 3 = y 3 := b.1 3 (by decide) (by decide)
  have ey4 : y2 4 = y 4 := b.1 4 (by decide) (by decide)
  have ey5 : y2 5 = y 5 := b.1 5 (by decide) (by decide)
  have ey6 : y2 6 = y 6 := b.1 6 (by decide) (by decide)
  have ey7 : y2 7 = y 7 := b.1 7 (by decide) (by decide)
  have ey15 : y2 15 = y 15 := b.1 15 (by decide) (by decide)
  have ey19 : y2 19 = y 19 := b.1 19 (by decide) (by decide)
  have ey21 : y2 21 = y 21 := b.1 21 (by decide) (by decide)
  have ey22 : y2 22 = y 22 := b.1 22 (by decide) (by decide)
  have ey23 : y2 23 = y 23 := b.1 23 (by decide) (by decide)
  have ef0 : y2 0 0 = y 0 0 := b.2 0 (by decide)
  have ef1 : y2 0 1 = y 0 1 := b.2 1 (by decide)
  have ef2 : y2 0 2 = y 0 2 := b.2 2 (by decide)
  have ef3 : y2 0 3 = y 0 3 := b.2 3 (by decide)
  have ef10 : y2 0 10 = y 0 10 := b.2 10 (by decide)
  have ef24 : y2 0 24 = y 0 24 := b.2 24 (by decide)
  obtain ⟨I, J, h, h2, h3, h4, h5, h6, h7, h8⟩ := r
  obtain ⟨C, i1, i2, i3, i4, i5, i6, i7, i8, i9, i10, i11⟩ := I
  obtain ⟨D, j1, j2, j3, j4, j5, j6, j7⟩ := J
  have hx : ∃ t, t ≤ 3 ∧ x2 58 3 = nI t := by
    cases res with
    | none => rw [a3]; exact i10
    | some z => exact ⟨z.length, hl z rfl, a3⟩
  have hy : ∃ t, t ≤ 3 ∧ y2 0 26 = nI t := by
    cases res with
    | none => rw [b3]; exact j6
    | some z => exact ⟨z.length, hl z rfl, b3⟩
  have he : x2 58 3 = y2 0 26 := by
    cases res with
    | none => rw [a3, b3]; exact h5
    | some z => exact a3.trans b3.symm
  have hr : ∀ j, j < tn (x2 58 3) → x2 59 j = y2 20 j := by
    cases res with
    | none =>
      have a5 : x2 59 = x 59 := a4
      have b5 : y2 20 = y 20 := b4
      rw [a3, a5, b5]; exact h6
    | some z =>
      have z3 := hl z rfl
      intro j hj
      rw [a3] at hj
      have hj2 : j < z.length := by
        have e : tn (pkN (x 58 3) (some z)) = z.length := tn_nI (by omega)
        omega
      exact (a4 j hj2).trans (b4 j hj2).symm
  unfold XC at C
  unfold MC at D
  unfold RLT XI XC MI MC
  simp only [ex1, ex2, ex3, ex5, ex29, ex30, ex31, ex32, ex33, ex34, ex35, ex44, ex47, ex49, ex53, ex54, ex57, ex62, ex63, ex65, ey1, ey2, ey3, ey4, ey5, ey6, ey7, ey15, ey19, ey21, ey22, ey23, ef0, ef1, ef2, ef3, ef10, ef24]
  exact ⟨⟨C, i1, i2, i3, i4, i5, i6, i7, i8, i9, hx, i11⟩, ⟨D, j1, j2, j3, j4, j5, hy, j7⟩, h, h2, h3, h4, he, hr, h7, h8⟩
