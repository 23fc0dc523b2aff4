theorem r_la {x y : Mem} {q p m n d a cnt : Nat} (r : RLT x y q p m n d) (H : ∀ N, a ≤ N → N < a + 4 * cnt → x 65 N = y 23 N) : ∀ k, k ≤ cnt → (∀ j, j < k → gM y q m a j) → RLT (laM x n a k) (laN y n a k) q p m (n + k) d
  | 0, _, _ => r
  | k + 1, hk, g => by
    have ih := r_la r H k (by omega) (fun j hj => g j (by omega))
    have gk := g k (by omega)
    have hi := gM_i gk
    have hq2 : q ≤ 24 := r.1.1.2.2.2.2.1
    obtain ⟨-, -, W⟩ := la_all r.2.1.1 ⟨r.2.1.2.1, r.2.1.2.2.1⟩ k (fun j hj => g j (by omega))
    have hsd := rl_sd ih
    have nf : ¬ fullS (laM x n a k 35) (y 23 (a + 4 * k + 1)) (y 23 (a + 4 * k + 2)) := by
      have z := gk.2
      unfold fullS at z ⊢
      rw [hsd _ (by omega), hsd _ (by omega), W _ (by omega), W _ (by omega)]
      exact z
    have e := (r_lay ih gk.1 nf).2
    rw [laM_s, H _ (by omega) (by omega), H _ (by omega) (by omega), H _ (by omega) (by omega), H _ (by omega) (by omega)]
    exact e
