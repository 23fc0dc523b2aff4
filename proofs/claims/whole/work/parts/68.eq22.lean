/-! each call: the same answer, and the same state behind it -/
theorem rl_0 {y : Mem} (h7 : ∀ k, k < 25 → y 7 k = phF 12 k) (h10 : y 0 10 = nI (dgT 12)) (g : mag hM2 y [7, 8, 9, 10, 11] [10]) : RLT hX1 y 12 1 3 0 4 := by
  have t6 := tb_6 12 (by decide) (by decide)
  have row : ∀ c, c ≠ 0 → c ∉ [7, 8, 9, 10, 11] → y c = hM2 c := fun c a b => g.1 c a b
  have fld : ∀ j, j ∉ [10] → y 0 j = hM2 0 j := fun j a => g.2 j a
  have e6 := row 6 (by decide) (by decide)
  have e15 := row 15 (by decide) (by decide)
  have e19 := row 19 (by decide) (by decide)
  have e20 := row 20 (by decide) (by decide)
  have e21 := row 21 (by decide) (by decide)
  have e22 := row 22 (by decide) (by decide)
  have e23 := row 23 (by decide) (by decide)
  have f24 := fld 24 (by decide)
  have f26 := fld 26 (by decide)
  have lane : ∀ s, s < 4 → hM2 21 s = zI (-1) := fun s hs => if_pos hs
  have way : ∀ j, j < 24 → hM2 15 j = zI (-4) := fun j hj => if_pos hj
  have hd : 4 = dgN 12 := by decide +kernel
  have hd2 : dgT 12 = 4 := t6.1.trans hd.symm
  refine ⟨⟨⟨rfl, rfl, rfl, by decide, by decide, by decide, by decide, by decide, by decide, rfl, by decide, fun k hk => absurd hk (Nat.not_lt_zero k), rfl, rfl, by decide, by decide⟩, fun j _ => rfl, fun j _ => Nat.zero_le 2, hd, fun i hi => ?_, fun j i hj hi => ?_, fun w _ => rfl, fun w i _ _ => rfl, fun j _ _ => rfl, ⟨0, by decide, rfl⟩, ⟨0, by decide, rfl⟩, fun s _ => ⟨show -1 ≤ (zI (-1)).toInt ∧ (zI (-1)).toInt ≤ 2 from by decide, 0, by decide, rfl⟩⟩, ⟨⟨fld 0 (by decide), fld 1 (by decide), fld 2 (by decide), by decide, by decide, by decide, by decide, by decide, by decide, fld 3 (by decide), by decide, fun k hk => absurd hk (Nat.not_lt_zero k), by rw [h10, hd2], by decide, by decide⟩, fun j _ => by rw [e6]; rfl, fun j _ => Nat.zero_le 2, fun i hi => (h7 i hi).trans (t6.2 i hi), hd, ⟨0, by decide, by rw [f24]; rfl⟩, ⟨0, by decide, by rw [f26]; rfl⟩, fun s hs => by rw [e21, e22, lane s hs]; exact ⟨by decide, 0, by decide, rfl⟩⟩, fun k hk => absurd hk (Nat.not_lt_zero k), fun j hj => by rw [e15, way j hj]; rfl, by rw [f24]; rfl, fun j _ => by rw [e19]; rfl, by rw [f26]; rfl, fun j _ => by rw [e20]; rfl, fun s hs => by rw [e21, e22, lane s hs]; exact ⟨rfl, rfl⟩, fun s i _ _ => by rw [e23]; rfl⟩
  · exact gput_in (o := 0) hi
  · show powG _ _ _ 12 (i + 24 * j) = _
    unfold powG
    rw [if_pos (by omega), show (i + 24 * j) / 24 = j by omega, show (i + 24 * j) % 24 = i by omega]
    rfl
theorem r_upd {x y x2 y2 : Mem} {q p m n d : Nat} (r : RLT x y q p m n d) (ax : ∀ c, c ∈ [1, 2, 3, 5, 29, 30, 31, 32, 33, 34, 35, 47, 49, 57, 62, 63, 65] → x2 c = x c) (ay : ∀ c, c ∈ [1, 2, 3, 4, 5, 6, 7, 21, 22, 23] → y2 c = y c) (az : ∀ j, j ∈ [0, 1, 2, 3, 10] → y2 0 j = y 0 j) (h44 : ∀ j, j < 24 → x2 44 j = y2 15 j) (h53 : x2 53 1 = y2 0 24) (h54 : ∀ j, j < tn (x2 53 1) → x2 54 j = y2 19 j) (t53 : ∃ t, t ≤ 7 ∧ x2 53 1 = nI t) (h58 : x2 58 3 = y2 0 26) (h59 : ∀ j, j < tn (x2 58 3) → x2 59 j = y2 20 j) (t58 : ∃ t, t ≤ 3 ∧ x2 58 3 = nI t) : RLT x2 y2 q p m n d := by
  have ex1 : x2 1 = x 1 := ax 1 (by decide)
  have ex2 : x2 2 = x 2 := ax 2 (by decide)
  have ex3 : x2 3 = x 3 := ax 3 (by decide)
  have ex5 : x2 5 = x 5 := ax 5 (by decide)
  have ex29 : x2 29 = x 29 := ax 29 (by decide)
  have ex30 : x2 30 = x 30 := ax 30 (by decide)
  have ex31 : x2 31 = x 31 := ax 31 (by decide)
  have ex32 : x2 32 = x 32 := ax 32 (by decide)
  have ex33 : x2 33 = x 33 := ax 33 (by decide)
  have ex34 : x2 34 = x 34 := ax 34 (by decide)
  have ex35 : x2 35 = x 35 := ax 35 (by decide)
  have ex47 : x2 47 = x 47 := ax 47 (by decide)
  have ex49 : x2 49 = x 49 := ax 49 (by decide)
  have ex57 : x2 57 = x 57 := ax 57 (by decide)
  have ex62 : x2 62 = x 62 := ax 62 (by decide)
  have ex63 : x2 63 = x 63 := ax 63 (by decide)
  have ex65 : x2 65 = x 65 := ax 65 (by decide)
  have ey1 : y2 1 = y 1 := ay 1 (by decide)
  have ey2 : y2 2 = y 2 := ay 2 (by decide)
  have ey3 : y2 3 = y 3 := ay 3 (by decide)
  have ey4 : y2 4 = y 4 := ay 4 (by decide)
  have ey5 : y2 5 = y 5 := ay 5 (by decide)
  have ey6 : y2 6 = y 6 := ay 6 (by decide)
  have ey7 : y2 7 = y 7 := ay 7 (by decide)
  have ey21 : y2 21 = y 21 := ay 21 (by decide)
  have ey22 : y2 22 = y 22 := ay 22 (by decide)
  have ey23 : y2 23 = y 23 := ay 23 (by decide)
  have ef0 : y2 0 0 = y 0 0 := az 0 (by decide)
  have ef1 : y2 0 1 = y 0 1 := az 1 (by decide)
  have ef2 : y2 0 2 = y 0 2 := az 2 (by decide)
  have ef3 : y2 0 3 = y 0 3 := az 3 (by decide)
  have ef10 : y2 0 10 = y 0 10 := az 10 (by decide)
  obtain ⟨I, J, h, -, -, -, -, -, h7, h8⟩ := r
  obtain ⟨C, i1, i2, i3, i4, i5, i6, i7, i8, -, -, i11⟩ := I
  obtain ⟨D, j1, j2, j3, j4, -, -, j7⟩ := J
  have t24 : ∃ t, t ≤ 7 ∧ y2 0 24 = nI t := by rw [← h53]; exact t53
  have t26 : ∃ t, t ≤ 3 ∧ y2 0 26 = nI t := by rw [← h58]; exact t58
  unfold XC at C
  unfold MC at D
  unfold RLT XI XC MI MC
  simp only [ex1, ex2, ex3, ex5, ex29, ex30, ex31, ex32, ex33, ex34, ex35, ex47, ex49, ex57, ex62, ex63, ex65, ey1, ey2, ey3, ey4, ey5, ey6, ey7, ey21, ey22, ey23, ef0, ef1, ef2, ef3, ef10]
  exact ⟨⟨C, i1, i2, i3, i4, i5, i6, i7, i8, t53, t58, i11⟩, ⟨D, j1, j2, j3, j4, t24, t26, j7⟩, h, h44, h53, h54, h58, h59, h7, h8⟩
theorem agr_in {x x2 : Mem} {l S : List Nat} (a : agr x x2 l) (h : ∀ c, c ∈ S → c ∉ l) : ∀ c, c ∈ S → x2 c = x c := fun c hc => a c (h c hc)
theorem mag_in {y y2 : Mem} {l F S : List Nat} (a : mag y y2 l F) (h : ∀ c, c ∈ S → c ≠ 0 ∧ c ∉ l) : ∀ c, c ∈ S → y2 c = y c := fun c hc => a.1 c (h c hc).1 (h c hc).2
theorem mag_fl {y y2 : Mem} {l F S : List Nat} (a : mag y y2 l F) (h : ∀ c, c ∈ S → c ∉ F) : ∀ c, c ∈ S → y2 0 c = y 0 c := fun c hc => a.2 c (h c hc)
theorem mag_of {y y2 : Mem} {l : List Nat} (a : agr y y2 l) (h : 0 ∉ l) : mag y y2 l [] := ⟨fun c _ hc => a c hc, fun j _ => by rw [a 0 h]⟩
/-- a call that leaves what lasts alone -/
theorem r_same {x y x2 y2 : Mem} {q p m n d : Nat} {l F : List Nat} (r : RLT x y q p m n d) (a : xeq x x2) (b : mag y y2 l F) (h1 : ∀ c, c ∈ [1, 2, 3, 4, 5, 6, 7, 15, 19, 20, 21, 22, 23] → c ≠ 0 ∧ c ∉ l) (h2 : ∀ c, c ∈ [0, 1, 2, 3, 10, 24, 26] → c ∉ F) : RLT x2 y2 q p m n d := by
  obtain ⟨a0, a1, a2⟩ := a
  have e44 : x2 44 = x 44 := a0 44 (by decide)
  have e54 : x2 54 = x 54 := a0 54 (by decide)
  have e59 : x2 59 = x 59 := a0 59 (by decide)
  have y15 : y2 15 = y 15 := b.1 15 (h1 15 (by decide)).1 (h1 15 (by decide)).2
  have y19 : y2 19 = y 19 := b.1 19 (h1 19 (by decide)).1 (h1 19 (by decide)).2
  have y20 : y2 20 = y 20 := b.1 20 (h1 20 (by decide)).1 (h1 20 (by decide)).2
  have y24 : y2 0 24 = y 0 24 := b.2 24 (h2 24 (by decide))
  have y26 : y2 0 26 = y 0 26 := b.2 26 (h2 26 (by decide))
  refine r_upd r (agr_in a0 (by decide)) (mag_in b (fun c hc => h1 c ((by decide : ∀ c, c ∈ [1, 2, 3, 4, 5, 6, 7, 21, 22, 23] → c ∈ [1, 2, 3, 4, 5, 6, 7, 15, 19, 20, 21, 22, 23]) c hc))) (mag_fl b (fun c hc => h2 c ((by decide : ∀ c, c ∈ [0, 1, 2, 3, 10] → c ∈ [0, 1, 2, 3, 10, 24, 26]) c hc))) ?_ ?_ ?_ ?_ ?_ ?_ ?_
  · rw [e44, y15]; exact r.2.2.2.1
  · rw [a1, y24]; exact r.2.2.2.2.1
  · rw [a1, e54, y19]; exact r.2.2.2.2.2.1
  · rw [a1]; exact r.1.2.2.2.2.2.2.2.2.2.1
  · rw [a2, y26]; exact r.2.2.2.2.2.2.1
  · rw [a2, e59, y20]; exact r.2.2.2.2.2.2.2.1
  · rw [a2]; exact r.1.2.2.2.2.2.2.2.2.2.2.1
theorem tp_len {U : Nat → Bool} {ok : List Nat → Bool} {n : Nat} {z : List Nat} : ∀ N s, tryP (fun j => pkG U ok n j 0 []) N s = some z → z.length < s + N
  | 0, _, e => by cases e
  | N + 1, s, e => by
    cases hF : pkG U ok n s 0 [] with
    | none =>
      rw [tryP_none (F := fun j => pkG U ok n j 0 []) hF] at e
      have := tp_len N (s + 1) e
      omega
    | some z' =>
      rw [tryP_some (F := fun j => pkG U ok n j 0 []) hF] at e
      cases e
      have := pkG_len s 0 [] z hF
      rw [List.length_nil] at this
      omega
theorem t_motor {x y x2 y2 : Mem} {q p m n d : Nat} {v w z0 z1 z2 : Int32} (r : RLT x y q p m n d) (P : v = (if okMot z0 z1 z2 then nI 1 else zI (-1)) ∧ x2 = if okMot z0 z1 z2 then motM x z0 z1 z2 else x) (S : (okMot z0 z1 z2 → w = nI 1 ∧ (∀ k, k < 25 → y2 7 k = phF (tn z0) k) ∧ y2 0 10 = nI (dgT (tn z0)) ∧ mag (mtM y z0 z1 z2) y2 [7, 8, 9, 10, 11] [10]) ∧ (¬ okMot z0 z1 z2 → w = zI (-1) ∧ y2 = y)) : v = w ∧ REL x2 y2 := by
  by_cases g : okMot z0 z1 z2
  · rw [if_pos g, if_pos g] at P
    obtain ⟨s1, s2, s3, s4⟩ := S.1 g
    rw [P.1, P.2]
    exact ⟨s1.symm, _, _, _, _, _, r_motor r g s2 s3 s4⟩
  · rw [if_neg g, if_neg g] at P
    obtain ⟨s1, s2⟩ := S.2 g
    rw [P.1, P.2, s1, s2]
    exact ⟨rfl, _, _, _, _, _, r⟩
theorem t_coil {x y x2 y2 : Mem} {q p m n d : Nat} {v w z0 z1 z2 z3 : Int32} (r : RLT x y q p m n d) (P : v = layV q m n (x 35) z0 z1 z2 z3 ∧ x2 = if layG q m n (x 35) z0 z1 z2 z3 then layMX x n z0 z1 z2 z3 else x) (S : w = layV q m n (y 6) z0 z1 z2 z3 ∧ y2 = if layG q m n (y 6) z0 z1 z2 z3 then adX y n z0 z1 z2 z3 else y) : v = w ∧ REL x2 y2 := by
  obtain ⟨e1, e2⟩ := a_lay (a := z0) (b := z1) (c := z2) (e := z3) r
  by_cases g : layG q m n (x 35) z0 z1 z2 z3
  · rw [if_pos g] at P
    rw [if_pos (e2.mp g)] at S
    rw [P.1, P.2, S.1, S.2]
    exact ⟨e1, _, _, _, _, _, (r_lay r g.1 g.2.1).2⟩
  · rw [if_neg g] at P
    rw [if_neg (fun z => g (e2.mpr z))] at S
    rw [P.1, P.2, S.1, S.2]
    exact ⟨e1, _, _, _, _, _, r⟩
theorem t_use {x y x2 y2 : Mem} {q p m n d : Nat} {v w z0 zv : Int32} (r : RLT x y q p m n d) (hv : zv = nI 0 ∨ zv = nI 1) (P : v = (if isC n z0 then x 34 (tn z0) else zI (-1)) ∧ x2 = if isC n z0 then mup x 34 (tn z0) zv else x) (S : w = (if isC n z0 then y 5 (tn z0) else zI (-1)) ∧ y2 = if isC n z0 then mup y 5 (tn z0) zv else y) : v = w ∧ REL x2 y2 := by
  by_cases g : isC n z0
  · rw [if_pos g, if_pos g] at P S
    have ht : tn z0 < n := by unfold tn; have := g.1; have := g.2; omega
    rw [P.1, P.2, S.1, S.2]
    exact ⟨(r.2.2.1 _ ht).2.2.2.2, _, _, _, _, _, r_use hv r⟩
  · rw [if_neg g, if_neg g] at P S
    rw [P.1, P.2, S.1, S.2]
    exact ⟨rfl, _, _, _, _, _, r⟩
theorem t_clear {x y x2 y2 : Mem} {q p m n d : Nat} {v w : Int32} (r : RLT x y q p m n d) (P : v = nI n ∧ x2 = kfM x 0) (S : w = y 0 3 ∧ y2 = clM y) : v = w ∧ REL x2 y2 := by
  rw [P.1, P.2, S.1, S.2]
  exact ⟨r.2.1.1.2.2.2.2.2.2.2.2.2.1.symm, _, _, _, _, _, r_clear r⟩
theorem t_make {x y x2 y2 : Mem} {q p m n d : Nat} {v w z0 : Int32} (r : RLT x y q p m n d) (P : v = (if 1 ≤ z0.toInt ∧ z0.toInt ≤ (q : Int) - 1 then nI q else zI (-1)) ∧ x2 = if 1 ≤ z0.toInt ∧ z0.toInt ≤ (q : Int) - 1 then mkM (kfM x 0) q p m (tn z0) q else x) (S : w = (if 1 ≤ z0.toInt ∧ z0.toInt ≤ (q : Int) - 1 then nI q else zI (-1)) ∧ y2 = if 1 ≤ z0.toInt ∧ z0.toInt ≤ (q : Int) - 1 then mkN (clM y) q p m (tn z0) q else y) : v = w ∧ REL x2 y2 := by
  by_cases g : 1 ≤ z0.toInt ∧ z0.toInt ≤ (q : Int) - 1
  · rw [if_pos g, if_pos g] at P S
    rw [P.1, P.2, S.1, S.2]
    have h1 : 1 ≤ tn z0 ∧ tn z0 < q := by unfold tn; have := g.1; have := g.2; omega
    exact ⟨rfl, _, _, _, _, _, r_make (r_clear r) h1.1 h1.2 q (Nat.le_refl q)⟩
  · rw [if_neg g, if_neg g] at P S
    rw [P.1, P.2, S.1, S.2]
    exact ⟨rfl, _, _, _, _, _, r⟩
theorem t_told {x y x2 y2 : Mem} {q p m n d : Nat} {v w z0 z1 : Int32} (r : RLT x y q p m n d) (P : v = toldV n (x 30) (x 31) (x 32) (x 33) (x 34) z0 z1 ∧ x2 = x) (S : w = toldV n (y 1) (y 2) (y 3) (y 4) (y 5) z0 z1 ∧ y2 = y) : v = w ∧ REL x2 y2 := by
  rw [P.1, P.2, S.1, S.2]
  exact ⟨a_told r z0 z1, _, _, _, _, _, r⟩
theorem t_sides {x y x2 y2 : Mem} {q p m n d : Nat} {v w z0 : Int32} (r : RLT x y q p m n d) (P : v = sidV q (x 35) z0 ∧ x2 = x) (S : w = sidV q (y 6) z0 ∧ y2 = y) : v = w ∧ REL x2 y2 := by
  rw [P.1, P.2, S.1, S.2]
  exact ⟨a_sides r z0, _, _, _, _, _, r⟩
theorem t_count {x y x2 y2 : Mem} {q p m n d : Nat} {v w z0 : Int32} (r : RLT x y q p m n d) (P : v = cntV q p m n d (x 34) z0 ∧ x2 = x) (S : w = cntV q p m n d (y 5) z0 ∧ y2 = y) : v = w ∧ REL x2 y2 := by
  rw [P.1, P.2, S.1, S.2]
  exact ⟨a_count r z0, _, _, _, _, _, r⟩
theorem t_cyclotomic {x y x2 y2 : Mem} {q p m n d : Nat} {v w z0 : Int32} (r : RLT x y q p m n d) (P : v = cycV d (x 3) z0 ∧ x2 = x) (S : w = cycV d (y 7) z0 ∧ y2 = y) : v = w ∧ REL x2 y2 := by
  rw [P.1, P.2, S.1, S.2]
  exact ⟨a_cyc r z0, _, _, _, _, _, r⟩
theorem t_wave {x y x2 y2 : Mem} {q p m n d : Nat} {v w z0 z1 z2 : Int32} (r : RLT x y q p m n d) (P : v = wavV m d (fun t b => wvS d q t (x 5) (x 30) (x 31) (x 32) (x 33) (x 34) b n) z0 z1 z2 ∧ xeq x x2) (S : w = (if (isC m z0 ∧ (1 ≤ z1.toInt ∧ z1.toInt ≤ 47) ∧ isC d z2) then fwZ y q n d (tn z0) (tn z1) (tn z2) else (-100001)) ∧ agr y y2 [12]) : v = w ∧ REL x2 y2 := by
  rw [P.1, S.1]
  exact ⟨a_wave r z0 z1 z2, _, _, _, _, _, r_same r P.2 (mag_of S.2 (by decide)) (by decide) (by decide)⟩
theorem t_isStill {x y x2 y2 : Mem} {q p m n d : Nat} {v w z0 z1 : Int32} (r : RLT x y q p m n d) (P : v = stiV m d (fun t b => wvS d q t (x 5) (x 30) (x 31) (x 32) (x 33) (x 34) b n) z0 z1 ∧ xeq x x2) (S : w = (if (isC m z0 ∧ (1 ≤ z1.toInt ∧ z1.toInt ≤ 47)) then bI (zrB (fwZ y q n d (tn z0) (tn z1)) q = true) else zI (-1)) ∧ agr y y2 [12]) : v = w ∧ REL x2 y2 := by
  rw [P.1, S.1]
  exact ⟨a_isStill r z0 z1, _, _, _, _, _, r_same r P.2 (mag_of S.2 (by decide)) (by decide) (by decide)⟩
theorem t_balanced {x y x2 y2 : Mem} {q p m n d : Nat} {v w z0 : Int32} (r : RLT x y q p m n d) (P : v = balV q m d (x 3) (fun t b => wvS d q t (x 5) (x 30) (x 31) (x 32) (x 33) (x 34) b n) z0 ∧ xeq x x2) (S : w = (if 1 ≤ z0.toInt ∧ z0.toInt ≤ 47 then scanV (balP y q m n d (tn z0)) q 0 else zI (-1)) ∧ agr y y2 [13]) : v = w ∧ REL x2 y2 := by
  rw [P.1, S.1]
  exact ⟨a_bal r z0, _, _, _, _, _, r_same r P.2 (mag_of S.2 (by decide)) (by decide) (by decide)⟩
theorem t_ways {x y x2 y2 : Mem} {q p m n d : Nat} {v w z0 z1 : Int32} (r : RLT x y q p m n d) (P : v = (if (isC m z0 ∧ (1 ≤ z1.toInt ∧ z1.toInt ≤ 4)) then wayR (tn z1) (glB (uin (x 30) (x 34) (tn z0)) n) (chS (tn z1) ((glB (uin (x 30) (x 34) (tn z0)) n).length / (tn z1)) (okW d q p (tn z1) (glB (uin (x 30) (x 34) (tn z0)) n).length (x 5) (fun j => (glB (uin (x 30) (x 34) (tn z0)) n).getD j 0) (x 31) (x 32) (x 33)) (glB (uin (x 30) (x 34) (tn z0)) n).length 0 0 (fun _ => 0)) else zI (-1)) ∧ x2 44 = (if (isC m z0 ∧ (1 ≤ z1.toInt ∧ z1.toInt ≤ 4)) then wayF (x 44) (tn z1) (glB (uin (x 30) (x 34) (tn z0)) n) (chS (tn z1) ((glB (uin (x 30) (x 34) (tn z0)) n).length / (tn z1)) (okW d q p (tn z1) (glB (uin (x 30) (x 34) (tn z0)) n).length (x 5) (fun j => (glB (uin (x 30) (x 34) (tn z0)) n).getD j 0) (x 31) (x 32) (x 33)) (glB (uin (x 30) (x 34) (tn z0)) n).length 0 0 (fun _ => 0)) else x 44) ∧ agr x x2 [43, 44, 45, 46]) (S : ((isC m z0 ∧ (1 ≤ z1.toInt ∧ z1.toInt ≤ 4)) → wyQ y y2 q d p (tn z1) (glB (uil (y 1) (y 5) ((tn z0 : Nat) : Int)) n) w) ∧ (¬ (isC m z0 ∧ (1 ≤ z1.toInt ∧ z1.toInt ≤ 4)) → w = zI (-1) ∧ y2 = y) ∧ mag y y2 [13, 14, 15, 16, 17] [18]) : v = w ∧ REL x2 y2 := by
  obtain ⟨p1, p2, p3⟩ := P
  obtain ⟨s1, s2, s3⟩ := S
  have e53 : x2 53 = x 53 := p3 53 (by decide)
  have e54 : x2 54 = x 54 := p3 54 (by decide)
  have e58 : x2 58 = x 58 := p3 58 (by decide)
  have e59 : x2 59 = x 59 := p3 59 (by decide)
  have y19 : y2 19 = y 19 := s3.1 19 (by decide) (by decide)
  have y20 : y2 20 = y 20 := s3.1 20 (by decide) (by decide)
  have y24 : y2 0 24 = y 0 24 := s3.2 24 (by decide)
  have y26 : y2 0 26 = y 0 26 := s3.2 26 (by decide)
  have key : v = w ∧ ∀ j, j < 24 → x2 44 j = y2 15 j := by
    by_cases g : isC m z0 ∧ (1 ≤ z1.toInt ∧ z1.toInt ≤ 4)
    · rw [if_pos g] at p1 p2
      have hg : 1 ≤ tn z1 := by unfold tn; have := g.2.1; omega
      obtain ⟨a1, a2⟩ := a_ways r hg (s1 g)
      exact ⟨p1.trans a1.symm, by rw [p2]; exact a2⟩
    · rw [if_neg g] at p1 p2
      obtain ⟨a1, a2⟩ := s2 g
      exact ⟨p1.trans a1.symm, by rw [p2, a2]; exact r.2.2.2.1⟩
  refine ⟨key.1, q, p, m, n, d, r_upd r (agr_in p3 (by decide)) (mag_in s3 (by decide)) (mag_fl s3 (by decide)) key.2 ?_ ?_ ?_ ?_ ?_ ?_⟩
  · rw [e53, y24]; exact r.2.2.2.2.1
  · rw [e53, e54, y19]; exact r.2.2.2.2.2.1
  · rw [e53]; exact r.1.2.2.2.2.2.2.2.2.2.1
  · rw [e58, y26]; exact r.2.2.2.2.2.2.1
  · rw [e58, e59, y20]; exact r.2.2.2.2.2.2.2.1
  · rw [e58]; exact r.1.2.2.2.2.2.2.2.2.2.2.1
theorem t_wayOf {x y x2 y2 : Mem} {q p m n d : Nat} {v w z0 : Int32} (r : RLT x y q p m n d) (P : v = atV n (x 44) z0 ∧ x2 = x) (S : w = atV n (y 15) z0 ∧ y2 = y) : v = w ∧ REL x2 y2 := by
  rw [P.1, P.2, S.1, S.2]
  exact ⟨a_wayOf r z0, _, _, _, _, _, r⟩
theorem t_copper {x y x2 y2 : Mem} {q p m n d : Nat} {v w : Int32} (r : RLT x y q p m n d) (P : v = nI (copS q (x 31) (x 32) (x 33) (x 34) n) ∧ x2 = x) (S : w = nI (copS q (y 2) (y 3) (y 4) (y 5) n) ∧ y2 = y) : v = w ∧ REL x2 y2 := by
  rw [P.1, P.2, S.1, S.2]
  exact ⟨by rw [a_copper r], _, _, _, _, _, r⟩
theorem t_tour {x y x2 y2 : Mem} {q p m n d : Nat} {v w z0 : Int32} (r : RLT x y q p m n d) (P : v = (if isC m z0 then touR (glB (uin (x 30) (x 34) (tn z0)) n) (goS (glB (uin (x 30) (x 34) (tn z0)) n).length (scF q (x 32) (x 31) (fun j => (glB (uin (x 30) (x 34) (tn z0)) n).getD j 0)) (fun j => (glB (uin (x 30) (x 34) (tn z0)) n).getD j 0) ((glB (uin (x 30) (x 34) (tn z0)) n).length - 1) 1 0 (fun _ => 0) (168, x 54)) else zI (-1)) ∧ x2 54 = (if isC m z0 then touF (x 54) (glB (uin (x 30) (x 34) (tn z0)) n) (goS (glB (uin (x 30) (x 34) (tn z0)) n).length (scF q (x 32) (x 31) (fun j => (glB (uin (x 30) (x 34) (tn z0)) n).getD j 0)) (fun j => (glB (uin (x 30) (x 34) (tn z0)) n).getD j 0) ((glB (uin (x 30) (x 34) (tn z0)) n).length - 1) 1 0 (fun _ => 0) (168, x 54)) else x 54) ∧ x2 53 1 = (if isC m z0 then touN (x 53 1) (glB (uin (x 30) (x 34) (tn z0)) n) else x 53 1) ∧ agr x x2 [53, 54, 55, 56]) (S : (isC m z0 → tuQ y y2 q (glB (uil (y 1) (y 5) ((tn z0 : Nat) : Int)) n) w) ∧ (¬ isC m z0 → w = zI (-1) ∧ y2 = y) ∧ mag y y2 [14, 18, 19] [18, 24]) : v = w ∧ REL x2 y2 := by
  obtain ⟨p1, p2, p3, p4⟩ := P
  obtain ⟨s1, s2, s3⟩ := S
  have e44 : x2 44 = x 44 := p4 44 (by decide)
  have e58 : x2 58 = x 58 := p4 58 (by decide)
  have e59 : x2 59 = x 59 := p4 59 (by decide)
  have y15 : y2 15 = y 15 := s3.1 15 (by decide) (by decide)
  have y20 : y2 20 = y 20 := s3.1 20 (by decide) (by decide)
  have y26 : y2 0 26 = y 0 26 := s3.2 26 (by decide)
  have key : v = w ∧ x2 53 1 = y2 0 24 ∧ (∀ j, j < tn (x2 53 1) → x2 54 j = y2 19 j) ∧ ∃ t, t ≤ 7 ∧ x2 53 1 = nI t := by
    by_cases g : isC m z0
    · rw [if_pos g] at p1 p2 p3
      obtain ⟨a1, a2, a3⟩ := a_tour r (s1 g)
      refine ⟨p1.trans a1.symm, ?_, ?_, ?_⟩
      · rw [p3, a2]
        unfold touN
        rw [r.2.2.2.2.1]
      · rw [p3, p2]; exact a3
      · rw [p3]
        unfold touN
        by_cases c1 : 7 < (glB (uin (x 30) (x 34) (tn z0)) n).length
        · rw [if_pos c1]; exact r.1.2.2.2.2.2.2.2.2.2.1
        · rw [if_neg c1]
          by_cases c2 : (glB (uin (x 30) (x 34) (tn z0)) n).length = 0
          · rw [if_pos c2]; exact r.1.2.2.2.2.2.2.2.2.2.1
          · rw [if_neg c2]; exact ⟨_, by omega, rfl⟩
    · rw [if_neg g] at p1 p2 p3
      obtain ⟨a1, a2⟩ := s2 g
      refine ⟨p1.trans a1.symm, ?_, ?_, ?_⟩
      · rw [p3, a2]; exact r.2.2.2.2.1
      · rw [p3, p2, a2]; exact r.2.2.2.2.2.1
      · rw [p3]; exact r.1.2.2.2.2.2.2.2.2.2.1
  refine ⟨key.1, q, p, m, n, d, r_upd r (agr_in p4 (by decide)) (mag_in s3 (by decide)) (mag_fl s3 (by decide)) ?_ key.2.1 key.2.2.1 key.2.2.2 ?_ ?_ ?_⟩
  · rw [e44, y15]; exact r.2.2.2.1
  · rw [e58, y26]; exact r.2.2.2.2.2.2.1
  · rw [e58, e59, y20]; exact r.2.2.2.2.2.2.2.1
  · rw [e58]; exact r.1.2.2.2.2.2.2.2.2.2.2.1
theorem t_tourAt {x y x2 y2 : Mem} {q p m n d : Nat} {v w z0 : Int32} (r : RLT x y q p m n d) (P : v = (if z0.toInt = -1 then x 53 1 else atV (tn (x 53 1)) (x 54) z0) ∧ x2 = x) (S : w = (if z0.toInt = -1 then y 0 24 else atV (tn (y 0 24)) (y 19) z0) ∧ y2 = y) : v = w ∧ REL x2 y2 := by
  rw [P.1, P.2, S.1, S.2]
  exact ⟨a_tourAt r z0, _, _, _, _, _, r⟩
theorem t_mend {x y x2 y2 : Mem} {q p m n d : Nat} {v w : Int32} (r : RLT x y q p m n d) (P : v = pkV (tryP (fun j => pkG (fun k => decide (x 34 k = nI 1)) (fun l => okM q m d p (x 3) (remS d q p (x 5) (x 30) (x 31) (x 32) (x 33) (fun b => wvS d q p (x 5) (x 30) (x 31) (x 32) (x 33) (x 34) b n) l)) n j 0 []) 3 0) ∧ x2 58 3 = pkN (x 58 3) (tryP (fun j => pkG (fun k => decide (x 34 k = nI 1)) (fun l => okM q m d p (x 3) (remS d q p (x 5) (x 30) (x 31) (x 32) (x 33) (fun b => wvS d q p (x 5) (x 30) (x 31) (x 32) (x 33) (x 34) b n) l)) n j 0 []) 3 0) ∧ pkQ (x 59) (x2 59) (tryP (fun j => pkG (fun k => decide (x 34 k = nI 1)) (fun l => okM q m d p (x 3) (remS d q p (x 5) (x 30) (x 31) (x 32) (x 33) (fun b => wvS d q p (x 5) (x 30) (x 31) (x 32) (x 33) (x 34) b n) l)) n j 0 []) 3 0) ∧ agr x x2 [36, 38, 41, 42, 58, 59, 60]) (S : w = pkV (tryP (fun w => qk (okN y q p m n d) (glB (uil (y 1) (y 5) (-1)) n) w 0 []) 3 0) ∧ y2 0 26 = pkN (y 0 26) (tryP (fun w => qk (okN y q p m n d) (glB (uil (y 1) (y 5) (-1)) n) w 0 []) 3 0) ∧ pkQ (y 20) (y2 20) (tryP (fun w => qk (okN y q p m n d) (glB (uil (y 1) (y 5) (-1)) n) w 0 []) 3 0) ∧ mag y y2 [20, 12, 13, 14] [26, 18]) : v = w ∧ REL x2 y2 := by
  obtain ⟨p1, p2, p3, p4⟩ := P
  rw [← a_mend r] at S
  obtain ⟨s1, s2, s3, s4⟩ := S
  refine ⟨p1.trans s1.symm, q, p, m, n, d, r_pick r (fun z hz => ?_) p4 s4 p2 p3 s2 s3⟩
  have := tp_len 3 0 hz
  omega
theorem t_shorts {x y x2 y2 : Mem} {q p m n d : Nat} {v w z0 z1 : Int32} (r : RLT x y q p m n d) (P : v = (if (isC m z0 ∧ (0 ≤ z1.toInt ∧ z1.toInt ≤ 9999)) then pkV (tryP (fun j => pkG (uin (x 30) (x 34) (tn z0)) (fun l => decide ((((tuS (uin (x 30) (x 34) (tn z0)) (x 33) n : Nat) : Int) - (((tn z1) : Nat) : Int)) - ((sumT (x 33) l : Nat) : Int) = 0)) n j 0 []) 4 0) else zI (-1)) ∧ x2 58 3 = pkN (x 58 3) (ifO (isC m z0 ∧ (0 ≤ z1.toInt ∧ z1.toInt ≤ 9999)) (tryP (fun j => pkG (uin (x 30) (x 34) (tn z0)) (fun l => decide ((((tuS (uin (x 30) (x 34) (tn z0)) (x 33) n : Nat) : Int) - (((tn z1) : Nat) : Int)) - ((sumT (x 33) l : Nat) : Int) = 0)) n j 0 []) 4 0)) ∧ pkQ (x 59) (x2 59) (ifO (isC m z0 ∧ (0 ≤ z1.toInt ∧ z1.toInt ≤ 9999)) (tryP (fun j => pkG (uin (x 30) (x 34) (tn z0)) (fun l => decide ((((tuS (uin (x 30) (x 34) (tn z0)) (x 33) n : Nat) : Int) - (((tn z1) : Nat) : Int)) - ((sumT (x 33) l : Nat) : Int) = 0)) n j 0 []) 4 0)) ∧ agr x x2 [58, 59, 60]) (S : w = (if (isC m z0 ∧ (0 ≤ z1.toInt ∧ z1.toInt ≤ 9999)) then pkV (tryP (fun w => qk (shK (y 4) (((sumT (y 4) (glB (uil (y 1) (y 5) (((tn z0) : Nat) : Int)) n) : Nat) : Int) - (((tn z1) : Nat) : Int))) (glB (uil (y 1) (y 5) (((tn z0) : Nat) : Int)) n) w 0 []) 4 0) else zI (-1)) ∧ y2 0 26 = pkN (y 0 26) (ifO (isC m z0 ∧ (0 ≤ z1.toInt ∧ z1.toInt ≤ 9999)) (tryP (fun w => qk (shK (y 4) (((sumT (y 4) (glB (uil (y 1) (y 5) (((tn z0) : Nat) : Int)) n) : Nat) : Int) - (((tn z1) : Nat) : Int))) (glB (uil (y 1) (y 5) (((tn z0) : Nat) : Int)) n) w 0 []) 4 0)) ∧ pkQ (y 20) (y2 20) (ifO (isC m z0 ∧ (0 ≤ z1.toInt ∧ z1.toInt ≤ 9999)) (tryP (fun w => qk (shK (y 4) (((sumT (y 4) (glB (uil (y 1) (y 5) (((tn z0) : Nat) : Int)) n) : Nat) : Int) - (((tn z1) : Nat) : Int))) (glB (uil (y 1) (y 5) (((tn z0) : Nat) : Int)) n) w 0 []) 4 0)) ∧ mag y y2 [20, 14] [26, 18]) : v = w ∧ REL x2 y2 := by
  obtain ⟨p1, p2, p3, p4⟩ := P
  rw [← shorts_eq (rd := tn z1) (f := tn z0) (fun k hk => (r.2.2.1 k hk).1) (fun k hk => (r.2.2.1 k hk).2.2.2.1) (fun k hk => (r.2.2.1 k hk).2.2.2.2)] at S
  obtain ⟨s1, s2, s3, s4⟩ := S
  refine ⟨p1.trans s1.symm, q, p, m, n, d, r_pick r (fun z hz => ?_) (fun c hc => p4 c (fun w => hc ((by decide : ∀ c, c ∈ [58, 59, 60] → c ∈ [36, 38, 41, 42, 58, 59, 60]) c w))) ⟨fun c h0 hc => s4.1 c h0 (fun w => hc ((by decide : ∀ c, c ∈ [20, 14] → c ∈ [20, 12, 13, 14]) c w)), s4.2⟩ p2 p3 s2 s3⟩
  by_cases g : isC m z0 ∧ (0 ≤ z1.toInt ∧ z1.toInt ≤ 9999)
  · unfold ifO at hz
    rw [if_pos g] at hz
    have := tp_len 4 0 hz
    omega
  · unfold ifO at hz
    rw [if_neg g] at hz
    cases hz
theorem t_picked {x y x2 y2 : Mem} {q p m n d : Nat} {v w z0 : Int32} (r : RLT x y q p m n d) (P : v = atV (tn (x 58 3)) (x 59) z0 ∧ x2 = x) (S : w = atV (tn (y 0 26)) (y 20) z0 ∧ y2 = y) : v = w ∧ REL x2 y2 := by
  rw [P.1, P.2, S.1, S.2]
  exact ⟨a_picked r z0, _, _, _, _, _, r⟩
theorem t_sheet {x y x2 y2 : Mem} {q p m n d : Nat} {v w z0 z1 z2 : Int32} (r : RLT x y q p m n d) (P : v = shV z0 z1 z2 ∧ x2 = if shG z0 z1 z2 ∧ 0 ≤ z2.toInt then shM x z0 z1 z2 else x) (S : w = shV z0 z1 z2 ∧ y2 = if shG z0 z1 z2 ∧ 0 ≤ z2.toInt then shN y z0 z1 z2 else y) : v = w ∧ REL x2 y2 := by
  by_cases g : shG z0 z1 z2 ∧ 0 ≤ z2.toInt
  · rw [if_pos g] at P S
    rw [P.1, P.2, S.1, S.2]
    exact ⟨rfl, _, _, _, _, _, r_sheet r g.1 g.2⟩
  · rw [if_neg g] at P S
    rw [P.1, P.2, S.1, S.2]
    exact ⟨rfl, _, _, _, _, _, r⟩
theorem t_drop {x y x2 y2 : Mem} {q p m n d : Nat} {v w z0 : Int32} (r : RLT x y q p m n d) (P : v = drV z0 (x 62) (x 63) ∧ x2 = if drG z0 (x 62) then mup x 62 (tn z0) (zI (-1)) else x) (S : w = drV z0 (y 21) (y 22) ∧ y2 = if drG z0 (y 21) then mup y 21 (tn z0) (zI (-1)) else y) : v = w ∧ REL x2 y2 := by
  obtain ⟨e1, e2⟩ := a_drop r z0
  by_cases g : drG z0 (x 62)
  · rw [if_pos g] at P
    rw [if_pos (e2.mp g)] at S
    rw [P.1, P.2, S.1, S.2]
    exact ⟨e1, _, _, _, _, _, r_drop r (by unfold tn; have := g.1.1; have := g.1.2; omega)⟩
  · rw [if_neg g] at P
    rw [if_neg (fun z => g (e2.mpr z))] at S
    rw [P.1, P.2, S.1, S.2]
    exact ⟨e1, _, _, _, _, _, r⟩
theorem t_item {x y x2 y2 : Mem} {q p m n d : Nat} {v w z0 z1 z2 z3 : Int32} (r : RLT x y q p m n d) (P : v = (if okSh z0 z1 then (if (itR x z0 z1 z2 1).toInt = 0 then nI 1 else itR x z0 z1 z2 1) else zI (-1)) ∧ x2 = if okSh z0 z1 ∧ (itR x z0 z1 z2 1).toInt = 0 then itM x z0 z2 z3 else x) (S : w = (if okSh z0 z1 then (if (iuR y z0 z1 z2 1).toInt = 0 then nI 1 else iuR y z0 z1 z2 1) else zI (-1)) ∧ y2 = if okSh z0 z1 ∧ (iuR y z0 z1 z2 1).toInt = 0 then iuM y z0 z2 z3 else y) : v = w ∧ REL x2 y2 := by
  by_cases ok : okSh z0 z1
  · have e := a_itR r (c := z2) 1 ok
    by_cases g : (itR x z0 z1 z2 1).toInt = 0
    · have g' : (iuR y z0 z1 z2 1).toInt = 0 := by rw [← e]; exact g
      have hc : tn z2 < 96 := by
        have ht : tn z0 < 4 := by unfold tn; have := ok.1.1; have := ok.1.2; omega
        obtain ⟨-, zz, hz, hz2⟩ := r.2.1.2.2.2.2.2.2.2 (tn z0) ht
        have g2 := g'
        unfold iuR refV at g2
        rw [hz2, tn_nI (by omega)] at g2
        by_cases c1 : (y 21 (tn z0)).toInt = -1
        · rw [if_pos c1] at g2; exact absurd g2 (by decide)
        · rw [if_neg c1] at g2
          by_cases c2 : (y 21 (tn z0)).toInt = z1.toInt
          · rw [if_neg (fun w => w c2)] at g2
            by_cases c3 : 0 ≤ z2.toInt ∧ z2.toInt ≤ (zz : Int) - (1 : Nat)
            · have h1 := c3.1
              have h2 := c3.2
              unfold tn
              omega
            · rw [if_neg c3] at g2; exact absurd g2 (by decide)
          · rw [if_pos c2] at g2; exact absurd g2 (by decide)
      rw [if_pos ok, if_pos g, if_pos ⟨ok, g⟩] at P
      rw [if_pos ok, if_pos g', if_pos ⟨ok, g'⟩] at S
      rw [P.1, P.2, S.1, S.2]
      exact ⟨rfl, _, _, _, _, _, r_itM r ok hc⟩
    · have g' : ¬ (iuR y z0 z1 z2 1).toInt = 0 := by rw [← e]; exact g
      rw [if_pos ok, if_neg g, if_neg (fun z => g z.2)] at P
      rw [if_pos ok, if_neg g', if_neg (fun z => g' z.2)] at S
      rw [P.1, P.2, S.1, S.2]
      exact ⟨e, _, _, _, _, _, r⟩
  · rw [if_neg ok, if_neg (fun z => ok z.1)] at P S
    rw [P.1, P.2, S.1, S.2]
    exact ⟨rfl, _, _, _, _, _, r⟩
theorem t_coils {x y x2 y2 : Mem} {q p m n d : Nat} {v w z0 z1 z2 z3 : Int32} (r : RLT x y q p m n d) (P : coP x q m n z0 z1 z2 z3 v x2) (S : cuP y q m n z0 z1 z2 z3 w y2) : v = w ∧ REL x2 y2 := by
  exact a_coils r P S
