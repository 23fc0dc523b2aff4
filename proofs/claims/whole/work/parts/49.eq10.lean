theorem r_drop {x y : Mem} {q p m n d s : Nat} (r : RLT x y q p m n d) (hs : s < 4) : RLT (mup x 62 s (zI (-1))) (mup y 21 s (zI (-1))) q p m n d := by
  obtain ⟨I, J, e, e2, e3, e4, e5, e6, e7, e8⟩ := r
  obtain ⟨C, i1, i2, i3, i4, i5, i6, i7, i8, i9, i10, i11⟩ := I
  obtain ⟨D, j1, j2, j3, j4, j5, j6, j7⟩ := J
  have up : ∀ (f : Nat → Int32) (z : Nat), (-1 ≤ (f z).toInt ∧ (f z).toInt ≤ 2) → (-1 ≤ (upd f s (zI (-1)) z).toInt ∧ (upd f s (zI (-1)) z).toInt ≤ 2) := by
    intro f z h
    by_cases c : z = s
    · rw [c, upd_s]; decide
    · rw [upd_n _ _ c]; exact h
  refine ⟨⟨C, i1, i2, i3, i4, i5, i6, i7, i8, i9, i10, fun w hw => ⟨up _ w (i11 w hw).1, (i11 w hw).2⟩⟩, ⟨D, j1, j2, j3, j4, j5, j6, fun w hw => ⟨up _ w (j7 w hw).1, (j7 w hw).2⟩⟩, e, e2, e3, e4, e5, e6, fun w hw => ⟨?_, (e7 w hw).2⟩, e8⟩
  show upd (x 62) s (zI (-1)) w = upd (y 21) s (zI (-1)) w
  by_cases c : w = s
  · rw [c, upd_s, upd_s]
  · rw [upd_n _ _ c, upd_n _ _ c]; exact (e7 w hw).1
theorem a_drop {x y : Mem} {q p m n d : Nat} (r : RLT x y q p m n d) (a : Int32) : drV a (x 62) (x 63) = drV a (y 21) (y 22) ∧ (drG a (x 62) ↔ drG a (y 21)) := by
  have e := r.2.2.2.2.2.2.2.2.1
  unfold drV
  by_cases c : 0 ≤ a.toInt ∧ a.toInt ≤ 3
  · have ht : tn a < 4 := by unfold tn; have := c.1; have := c.2; omega
    obtain ⟨e1, e2⟩ := e _ ht
    unfold drG
    rw [if_pos c, if_pos c, e1, e2]
    exact ⟨rfl, Iff.rfl⟩
  · rw [if_neg c, if_neg c]
    exact ⟨rfl, ⟨fun z => absurd z.1 c, fun z => absurd z.1 c⟩⟩
theorem r_item {x y : Mem} {q p m n d s i : Nat} {v : Int32} (r : RLT x y q p m n d) (hs : s < 4) (hi : i < 96) : RLT (mup x 65 (i + 96 * s) v) (mup y 23 (96 * s + i) v) q p m n d := by
  obtain ⟨I, J, e, e2, e3, e4, e5, e6, e7, e8⟩ := r
  refine ⟨I, J, e, e2, e3, e4, e5, e6, e7, fun w j hw hj => ?_⟩
  show upd (x 65) (i + 96 * s) v (j + 96 * w) = upd (y 23) (96 * s + i) v (96 * w + j)
  by_cases c : w = s ∧ j = i
  · rw [c.1, c.2, upd_s, upd_s]
  · rw [upd_n _ _ (by omega), upd_n _ _ (by omega)]; exact e8 w j hw hj
