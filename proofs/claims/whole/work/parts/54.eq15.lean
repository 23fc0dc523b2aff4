theorem r_motor {x y y2 : Mem} {q p m n d : Nat} {a b c : Int32} (r : RLT x y q p m n d) (ok : okMot a b c) (h7 : ∀ k, k < 25 → y2 7 k = phF (tn a) k) (h10 : y2 0 10 = nI (dgT (tn a))) (g : mag (mtM y a b c) y2 [7, 8, 9, 10, 11] [10]) : RLT (motM x a b c) y2 (tn a) (tn b) (tn c) 0 (dgN (tn a)) := by
  obtain ⟨⟨a1, a2⟩, ⟨b1, b2⟩, ⟨c1, c2⟩⟩ := ok
  have ea : a = nI (tn a) := nI_tn (by omega)
  have eb : b = nI (tn b) := nI_tn (by omega)
  have ec : c = nI (tn c) := nI_tn (by omega)
  have la : 3 ≤ tn a ∧ tn a ≤ 24 := by unfold tn; omega
  have lb : 1 ≤ tn b ∧ tn b ≤ 6 := by unfold tn; omega
  have lc : 1 ≤ tn c ∧ tn c ≤ 3 := by unfold tn; omega
  have hd := dgN_ok (tn a) (by omega) la.1
  have t6 := tb_6 (tn a) (by omega) la.1
  have t5 := tb_5 (tn a) (by omega) (by omega)
  obtain ⟨I, J, h, h2, h3, h4, h5, h6, h8, h9⟩ := r
  obtain ⟨C, i1, i2, i3, i4, i5, i6, i7, i8, i9, i10, i11⟩ := I
  obtain ⟨D, j1, j2, j3, j4, j5, j6, j7⟩ := J
  have e6 : y2 6 = zrK (y 6) 24 := g.1 6 (by decide) (by decide)
  have e15 : y2 15 = y 15 := g.1 15 (by decide) (by decide)
  have e19 : y2 19 = y 19 := g.1 19 (by decide) (by decide)
  have e20 : y2 20 = y 20 := g.1 20 (by decide) (by decide)
  have e21 : y2 21 = y 21 := g.1 21 (by decide) (by decide)
  have e22 : y2 22 = y 22 := g.1 22 (by decide) (by decide)
  have e23 : y2 23 = y 23 := g.1 23 (by decide) (by decide)
  have f24 : y2 0 24 = y 0 24 := g.2 24 (by decide)
  have f26 : y2 0 26 = y 0 26 := g.2 26 (by decide)
  refine ⟨⟨⟨ea, eb, ec, la.1, la.2, lb.1, lb.2, lc.1, lc.2, rfl, by omega, fun k hk => absurd hk (Nat.not_lt_zero k), rfl, rfl, hd.2.1, hd.2.2⟩, fun j hj => if_pos hj, fun j _ => Nat.zero_le 2, rfl, fun i hi => ?_, fun j i hj hi => ?_, i6, i7, i8, i9, i10, i11⟩, ⟨⟨(g.2 0 (by decide)).trans ea, (g.2 1 (by decide)).trans eb, (g.2 2 (by decide)).trans ec, la.1, la.2, lb.1, lb.2, lc.1, lc.2, g.2 3 (by decide), by omega, fun k hk => absurd hk (Nat.not_lt_zero k), by rw [h10, t6.1], hd.2.1, by rw [← t6.1]; exact t5.2.2.1⟩, fun j hj => by rw [e6]; exact if_pos hj, fun j _ => Nat.zero_le 2, fun i hi => (h7 i hi).trans (t6.2 i hi), rfl, by rw [f24]; exact j5, by rw [f26]; exact j6, by rw [e21, e22]; exact j7⟩, fun k hk => absurd hk (Nat.not_lt_zero k), by rw [e15]; exact h2, by rw [f24]; exact h3, by rw [e19]; exact h4, by rw [f26]; exact h5, by rw [e20]; exact h6, by rw [e21, e22]; exact h8, by rw [e23]; exact h9⟩
  · exact gput_in (o := 0) hi
  · show powG _ _ _ (tn a) (i + 24 * j) = _
    unfold powG
    rw [if_pos (by omega), show (i + 24 * j) / 24 = j by omega, show (i + 24 * j) % 24 = i by omega]
    rfl
