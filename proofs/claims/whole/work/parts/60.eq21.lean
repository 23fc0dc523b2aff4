/-! coils: the same answers, the same state -/
theorem r_24 {x y : Mem} {q p m n d : Nat} {F : Nat → Int32} (r : RLT x y q p m n d) : RLT x (mrow y 24 F) q p m n d := by
  obtain ⟨I, J, h, h2, h3, h4, h5, h6, h7, h8⟩ := r
  exact ⟨I, J, h, h2, h3, h4, h5, h6, h7, h8⟩
theorem la_g {x y : Mem} {q p m n d a cnt k : Nat} (r : RLT x y q p m n d) (H : ∀ N, a ≤ N → N < a + 4 * cnt → x 65 N = y 23 N) (hk : k < cnt) (g : ∀ j, j < k → gM y q m a j) : (laG x q m n a k ↔ gM y q m a k) ∧ (¬ laG x q m n a k → ¬ laV x q m n a k = zI (-3)) := by
  have ih := r_la r H k (by omega) g
  obtain ⟨-, -, W⟩ := la_all r.2.1.1 ⟨r.2.1.2.1, r.2.1.2.2.1⟩ k g
  have hsd := rl_sd ih
  have hq2 : q ≤ 24 := r.1.1.2.2.2.2.1
  have e0 := H (a + 4 * k) (by omega) (by omega)
  have e1 := H (a + 4 * k + 1) (by omega) (by omega)
  have e2 := H (a + 4 * k + 2) (by omega) (by omega)
  have e3 := H (a + 4 * k + 3) (by omega) (by omega)
  have ef : okc q m (y 23 (a + 4 * k)) (y 23 (a + 4 * k + 1)) (y 23 (a + 4 * k + 2)) (y 23 (a + 4 * k + 3)) → (fullS (laM x n a k 35) (y 23 (a + 4 * k + 1)) (y 23 (a + 4 * k + 2)) ↔ fullS (wbF y a k) (y 23 (a + 4 * k + 1)) (y 23 (a + 4 * k + 2))) := by
    intro ok
    exact full_eq hq2 (fun j hj => (hsd j hj).trans (W j hj)) ok
  have er : okc q m (y 23 (a + 4 * k)) (y 23 (a + 4 * k + 1)) (y 23 (a + 4 * k + 2)) (y 23 (a + 4 * k + 3)) → ¬ fullS (laM x n a k 35) (y 23 (a + 4 * k + 1)) (y 23 (a + 4 * k + 2)) → n + k < 24 := fun ok nf => (r_lay ih ok nf).1
  unfold laG laV gM layV
  rw [e0, e1, e2, e3]
  refine ⟨⟨fun z => ⟨z.1, fun w => z.2.1 ((ef z.1).mpr w)⟩, fun z => ⟨z.1, fun w => z.2 ((ef z.1).mp w), er z.1 (fun w => z.2 ((ef z.1).mp w))⟩⟩, fun z => ?_⟩
  by_cases c1 : okc q m (y 23 (a + 4 * k)) (y 23 (a + 4 * k + 1)) (y 23 (a + 4 * k + 2)) (y 23 (a + 4 * k + 3))
  · rw [if_pos c1]
    by_cases c2 : fullS (laM x n a k 35) (y 23 (a + 4 * k + 1)) (y 23 (a + 4 * k + 2))
    · rw [if_pos c2]; decide
    · exact absurd ⟨c1, c2, er c1 c2⟩ z
  · rw [if_neg c1]; decide
theorem a_coils {x y x2 y2 : Mem} {q p m n d : Nat} {a b c e v w : Int32} (r : RLT x y q p m n d) (Q : coP x q m n a b c e v x2) (S : cuP y q m n a b c e w y2) : v = w ∧ REL x2 y2 := by
  unfold coP at Q
  unfold cuP at S
  by_cases g : okSh a b ∧ (0 ≤ e.toInt ∧ e.toInt ≤ 24)
  · rw [if_pos g] at Q S
    rw [a_itR r (c := c) (4 * tn e) g.1] at Q
    by_cases z : (iuR y a b c (4 * tn e)).toInt = 0
    · rw [if_pos z, Nat.add_comm (tn c) (96 * tn a)] at Q
      rw [if_pos z] at S
      have hs : tn a < 4 := by unfold tn; have := g.1.1.1; have := g.1.1.2; omega
      obtain ⟨-, zz, hz, hz2⟩ := r.2.1.2.2.2.2.2.2.2 (tn a) hs
      have hc : tn c + 4 * tn e ≤ 96 := by
        unfold iuR refV at z
        rw [hz2, tn_nI (by omega)] at z
        by_cases c1 : (y 21 (tn a)).toInt = -1
        · rw [if_pos c1] at z; exact absurd z (by decide)
        · rw [if_neg c1] at z
          by_cases c2 : (y 21 (tn a)).toInt = b.toInt
          · rw [if_neg (fun w => w c2)] at z
            by_cases c3 : 0 ≤ c.toInt ∧ c.toInt ≤ (zz : Int) - (4 * tn e : Nat)
            · have h1 := c3.1
              have h2 := c3.2
              have h3 : ((tn c : Nat) : Int) = c.toInt := Int.toNat_of_nonneg h1
              omega
            · rw [if_neg c3] at z; exact absurd z (by decide)
          · rw [if_pos c2] at z; exact absurd z (by decide)
      have H : ∀ N, 96 * tn a + tn c ≤ N → N < 96 * tn a + tn c + 4 * tn e → x 65 N = y 23 N := by
        intro N h1 h2
        have e8 := r.2.2.2.2.2.2.2.2.2 (tn a) (N - 96 * tn a) hs (by omega)
        rw [show N - 96 * tn a + 96 * tn a = N by omega, show 96 * tn a + (N - 96 * tn a) = N by omega] at e8
        exact e8
      have all : ∀ k, k ≤ tn e → (∀ j, j < k → laG x q m n (96 * tn a + tn c) j) → ∀ j, j < k → gM y q m (96 * tn a + tn c) j := by
        intro k
        induction k with
        | zero => exact fun _ _ j hj => absurd hj (Nat.not_lt_zero j)
        | succ k ih =>
          intro hk hl
          have ih' := ih (by omega) (fun j hj => hl j (by omega))
          intro j hj
          by_cases cj : j = k
          · rw [cj]
            exact (la_g r H (by omega) ih').1.mp (hl k (by omega))
          · exact ih' j (by omega)
      rcases Q with ⟨g1, hv, hx⟩ | ⟨k, hk, g1, ng, hv, hx⟩
      · have ga := all (tn e) (Nat.le_refl _) g1
        rcases S with ⟨-, hw, F, hy⟩ | ⟨k, hk, -, ng, -⟩
        · refine ⟨hv.trans hw.symm, ?_⟩
          rw [hx, hy]
          exact ⟨q, p, m, n + tn e, d, r_24 (r_la r H (tn e) (Nat.le_refl _) ga)⟩
        · exact absurd (ga k hk) ng
      · have ga := all k (by omega) g1
        have kk := la_g r H hk ga
        rw [if_neg (kk.2 ng)] at hv
        rcases S with ⟨g2, -, -⟩ | ⟨k', -, -, -, hw, F, hy⟩
        · exact absurd (kk.1.mpr (g2 k hk)) ng
        · refine ⟨hv.trans hw.symm, ?_⟩
          rw [hx, hy]
          exact ⟨q, p, m, n, d, r_back r⟩
    · rw [if_neg z] at Q S
      rw [Q.2, S.2]
      exact ⟨Q.1.trans S.1.symm, q, p, m, n, d, r⟩
  · rw [if_neg g] at Q S
    rw [Q.2, S.2]
    exact ⟨Q.1.trans S.1.symm, q, p, m, n, d, r⟩
