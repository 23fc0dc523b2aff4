theorem a_itR {x y : Mem} {q p m n d : Nat} (r : RLT x y q p m n d) {a b c : Int32} (k : Nat) (ok : okSh a b) : itR x a b c k = iuR y a b c k := by
  have ht : tn a < 4 := by unfold tn; have := ok.1.1; have := ok.1.2; omega
  obtain ⟨e1, e2⟩ := r.2.2.2.2.2.2.2.2.1 _ ht
  unfold itR iuR
  rw [e1, e2]
theorem r_itM {x y : Mem} {q p m n d : Nat} (r : RLT x y q p m n d) {a b c v : Int32} (ok : okSh a b) (hi : tn c < 96) : RLT (itM x a c v) (iuM y a c v) q p m n d := by
  have ht : tn a < 4 := by unfold tn; have := ok.1.1; have := ok.1.2; omega
  obtain ⟨e1, -⟩ := r.2.2.2.2.2.2.2.2.1 _ ht
  unfold itM iuM
  rw [e1]
  exact r_item r ht hi
theorem r_sheet {x y : Mem} {q p m n d : Nat} (r : RLT x y q p m n d) {a b c : Int32} (ok : shG a b c) (h0 : 0 ≤ c.toInt) : RLT (shM x a b c) (shN y a b c) q p m n d := by
  have ht : tn a < 4 := by unfold tn; have := ok.1.1.1; have := ok.1.1.2; omega
  have hb : -1 ≤ b.toInt ∧ b.toInt ≤ 2 := ⟨by have := ok.1.2.1; omega, ok.1.2.2⟩
  have hc : ∃ z, z ≤ 96 ∧ c = nI z := ⟨tn c, by have := ok.2; unfold tn; omega, nI_tn h0⟩
  obtain ⟨I, J, e, e2, e3, e4, e5, e6, e7, e8⟩ := r
  obtain ⟨C, i1, i2, i3, i4, i5, i6, i7, i8, i9, i10, i11⟩ := I
  obtain ⟨D, j1, j2, j3, j4, j5, j6, j7⟩ := J
  generalize hs : tn a = s at ht
  have up : ∀ (f g : Nat → Int32) (z : Nat), ((-1 ≤ (f z).toInt ∧ (f z).toInt ≤ 2) ∧ ∃ k, k ≤ 96 ∧ g z = nI k) → ((-1 ≤ (upd f s b z).toInt ∧ (upd f s b z).toInt ≤ 2) ∧ ∃ k, k ≤ 96 ∧ upd g s c z = nI k) := by
    intro f g z h
    by_cases k : z = s
    · rw [k, upd_s, upd_s]; exact ⟨hb, hc⟩
    · rw [upd_n _ _ k, upd_n _ _ k]; exact h
  unfold shM shN
  rw [hs]
  refine ⟨⟨C, i1, i2, i3, i4, i5, i6, i7, i8, i9, i10, fun w hw => up _ _ w (i11 w hw)⟩, ⟨D, j1, j2, j3, j4, j5, j6, fun w hw => up _ _ w (j7 w hw)⟩, e, e2, e3, e4, e5, e6, fun w hw => ?_, fun w j hw hj => ?_⟩
  · show upd (x 62) s b w = upd (y 21) s b w ∧ upd (x 63) s c w = upd (y 22) s c w
    by_cases k : w = s
    · rw [k, upd_s, upd_s, upd_s, upd_s]; exact ⟨rfl, rfl⟩
    · rw [upd_n _ _ k, upd_n _ _ k, upd_n _ _ k, upd_n _ _ k]; exact e7 w hw
  · show gput (x 65) (96 * s) 96 zF (j + 96 * w) = gput (y 23) (96 * s) 96 zF (96 * w + j)
    unfold gput
    by_cases k : w = s
    · rw [k, if_pos (by omega), if_pos (by omega)]; rfl
    · rw [if_neg (by omega), if_neg (by omega)]; exact e8 w j hw hj
