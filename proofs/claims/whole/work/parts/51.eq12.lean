theorem full_eq {f g : Nat → Int32} {q m : Nat} {a b c e : Int32} (hq : q ≤ 24) (h : ∀ j, j < 24 → f j = g j) (ok : okc q m a b c e) : fullS f b c ↔ fullS g b c := by
  obtain ⟨-, h1, h2, -, -⟩ := ok
  have k1 : tn b < 24 := by unfold tn; omega
  have k2 : tn c < 24 := by unfold tn; omega
  unfold fullS
  rw [h _ k1, h _ k2]
theorem r_lay {x y : Mem} {q p m n d : Nat} {a b c e : Int32} (r : RLT x y q p m n d) (ok : okc q m a b c e) (nf : ¬ fullS (x 35) b c) : n < 24 ∧ RLT (layMX x n a b c e) (adX y n a b c e) q p m (n + 1) d := by
  have hsd := rl_sd r
  obtain ⟨I, J, h, h2, h3, h4, h5, h6, h7, h8⟩ := r
  have hq2 : q ≤ 24 := I.1.2.2.2.2.1
  obtain ⟨hn, D1, W1⟩ := ad_inv2 J.1 ⟨J.2.1, J.2.2.1⟩ ok (fun z => nf ((full_eq hq2 hsd ok).mpr z))
  obtain ⟨C1, V1⟩ := lay_inv I.1 ⟨I.2.1, I.2.2.1⟩ ⟨ok, nf, hn⟩
  refine ⟨hn, ⟨C1, V1.1, V1.2, I.2.2.2⟩, ⟨D1, W1.1, W1.2, J.2.2.2⟩, fun k hk => ?_, h2, h3, h4, h5, h6, h7, h8⟩
  show upd (x 30) n a k = upd (y 1) n a k ∧ upd (x 31) n b k = upd (y 2) n b k ∧ upd (x 32) n c k = upd (y 3) n c k ∧ upd (x 33) n e k = upd (y 4) n e k ∧ upd (x 34) n (nI 1) k = upd (y 5) n (nI 1) k
  by_cases z : k = n
  · rw [z, upd_s, upd_s, upd_s, upd_s, upd_s, upd_s, upd_s, upd_s, upd_s, upd_s]
    exact ⟨rfl, rfl, rfl, rfl, rfl⟩
  · rw [upd_n _ _ z, upd_n _ _ z, upd_n _ _ z, upd_n _ _ z, upd_n _ _ z, upd_n _ _ z, upd_n _ _ z, upd_n _ _ z, upd_n _ _ z, upd_n _ _ z]
    exact h k (by omega)
theorem a_lay {x y : Mem} {q p m n d : Nat} {a b c e : Int32} (r : RLT x y q p m n d) : layV q m n (x 35) a b c e = layV q m n (y 6) a b c e ∧ (layG q m n (x 35) a b c e ↔ layG q m n (y 6) a b c e) := by
  have hq2 : q ≤ 24 := r.1.1.2.2.2.2.1
  unfold layV
  by_cases ok : okc q m a b c e
  · have f := full_eq hq2 (rl_sd r) ok
    rw [if_pos ok, if_pos ok]
    refine ⟨?_, ⟨fun z => ⟨z.1, fun w => z.2.1 (f.mpr w), z.2.2⟩, fun z => ⟨z.1, fun w => z.2.1 (f.mp w), z.2.2⟩⟩⟩
    by_cases g : fullS (x 35) b c
    · rw [if_pos g, if_pos (f.mp g)]
    · rw [if_neg g, if_neg (fun w => g (f.mpr w))]
  · rw [if_neg ok, if_neg ok]
    exact ⟨rfl, ⟨fun z => absurd z.1 ok, fun z => absurd z.1 ok⟩⟩
