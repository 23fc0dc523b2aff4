theorem r_clear {x y : Mem} {q p m n d : Nat} (r : RLT x y q p m n d) : RLT (kfM x 0) (clM y) q p m 0 d := by
  obtain ⟨I, J, h, h2, h3, h4, h5, h6, h7, h8⟩ := r
  obtain ⟨⟨hq, hp, hm, hq1, hq2, hp1, hp2, hm1, hm2, hn, hn2, hc, hq0, hd, hd1, hd2⟩, i1, i2, i3⟩ := I
  obtain ⟨C, j1, j2, j3⟩ := J
  exact ⟨⟨⟨hq, hp, hm, hq1, hq2, hp1, hp2, hm1, hm2, rfl, by omega, fun k hk => absurd hk (Nat.not_lt_zero k), hq0, hd, hd1, hd2⟩, fun j hj => if_pos hj, fun j _ => Nat.zero_le 2, i3⟩, ⟨clM_inv C, fun j hj => if_pos hj, fun j _ => Nat.zero_le 2, j3⟩, fun k hk => absurd hk (Nat.not_lt_zero k), h2, h3, h4, h5, h6, h7, h8⟩
theorem r_make {x y : Mem} {q p m d b : Nat} (r : RLT x y q p m 0 d) (hb1 : 1 ≤ b) (hb2 : b < q) : ∀ k, k ≤ q → RLT (mkM x q p m b k) (mkN y q p m b k) q p m k d
  | 0, _ => r
  | k + 1, hk => by
    have ih := r_make r hb1 hb2 k (by omega)
    have g := (mk_inv r.1.1 ⟨r.1.2.1, r.1.2.2.1⟩ hb1 hb2 k (by omega)).2.2.2 (by omega)
    exact (r_lay ih g.1 g.2.1).2
