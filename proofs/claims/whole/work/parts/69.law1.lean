/-! THE LAW: its rows over both worlds -/
def Lx (K : KT) : Prop :=
  K.1.1.tables.exec = Jvm.exec ∧ K.2.1.2.2.2.2.code = cL_law ∧ K.2.1.2.2.2.2.maxLocals = 4 ∧ K.1.2.2.2.2.vm.findClass RL = some K.2.1.1.cls ∧ (∀ w ∈ lw_good, w.before K.2.1.2.1 K.1.2.2.2.2 = true) ∧ va_K K.2.2.2.1 vwCl (tysC K.2.2.2.2.1) K.1.2.2.2.2 ∧ (∀ q, K.1.2.2.2.2.heap.size ≤ q → K.2.2.2.2.2.2 q) ∧ K.2.1.2.2.2.1.locks = false ∧ K.1.2.2.2.1 = room_1 ∧ (∀ w ∈ lw_nest, va_Nw w K.1.2.2.2.2) ∧ va_AOA .int K.1.2.2.2.2
/-- the script, which stays -/
def SX (K : KT) (b L : Nat) (xs : Nat → Int32) : Prop := va_X b L xs K.1.2.2.2.2 K.1.2.2.2.2.heap ∧ b < K.1.2.2.2.2.heap.size ∧ ¬ K.2.2.2.2.2.2 b ∧ L ≤ 2560
section Lr
variable {K : KT} {ws : va_W} {ce sl pc : Nat} {lv : List (Nat × Value)} {st : List Value}
theorem Lx.exec (X : Lx K) : K.1.1.tables.exec = Jvm.exec := X.1
theorem Lx.bytes (X : Lx K) : K.2.1.2.2.2.2.code = cL_law := X.2.1
theorem Lx.maxL (X : Lx K) : K.2.1.2.2.2.2.maxLocals = 4 := X.2.2.1
theorem Lx.ow (X : Lx K) : K.1.2.2.2.2.vm.findClass RL = some K.2.1.1.cls := X.2.2.2.1
theorem Lx.ts (X : Lx K) : ∀ w ∈ lw_good, w.before K.2.1.2.1 K.1.2.2.2.2 = true := X.2.2.2.2.1
theorem Lx.kn (X : Lx K) : va_K K.2.2.2.1 vwCl (tysC K.2.2.2.2.1) K.1.2.2.2.2 := X.2.2.2.2.2.1
theorem Lx.al (X : Lx K) : ∀ q, K.1.2.2.2.2.heap.size ≤ q → K.2.2.2.2.2.2 q := X.2.2.2.2.2.2.1
theorem Lx.nolock (X : Lx K) : K.2.1.2.2.2.1.locks = false := X.2.2.2.2.2.2.2.1
theorem Lx.room (X : Lx K) : K.1.2.2.2.1 = room_1 := X.2.2.2.2.2.2.2.2.1
theorem Lx.nw (X : Lx K) : ∀ w ∈ lw_nest, va_Nw w K.1.2.2.2.2 := X.2.2.2.2.2.2.2.2.2.1
theorem Lx.ao (X : Lx K) : va_AOA .int K.1.2.2.2.2 := X.2.2.2.2.2.2.2.2.2.2
theorem l_iconst (X : Lx K) {n : Int} {v : Int32} (hd : decode cL_law pc = .ok (.iconst n, 1)) (q : Nat) (hq : pc + 1 = q) (hv : Int32.ofInt n = v) (k : B 4 K ws ce sl q lv (.int v :: st)) : B 4 K ws ce sl pc lv st := by
  subst hq
  intro H locs ls hP hD hS hl
  exact lv_iconst X.exec X.bytes hd hv (k H locs ls hP hD hS hl)
theorem l_bipush (X : Lx K) {n : Int} {v : Int32} (hd : decode cL_law pc = .ok (.bipush n, 2)) (q : Nat) (hq : pc + 2 = q) (hv : (Int8.ofInt n).toInt32 = v) (k : B 4 K ws ce sl q lv (.int v :: st)) : B 4 K ws ce sl pc lv st := by
  subst hq
  intro H locs ls hP hD hS hl
  exact lv_bipush X.exec X.bytes hd hv (k H locs ls hP hD hS hl)
theorem l_iload_n (X : Lx K) {k4 : Fin 4} {x : Int32} (hd : decode cL_law pc = .ok (.iload_n k4, 1)) (q : Nat) (hq : pc + 1 = q) (hl : lg lv (k4 : Nat) = some (.int x)) (k : B 4 K ws ce sl q lv (.int x :: st)) : B 4 K ws ce sl pc lv st := by
  subst hq
  intro H locs ls hP hD hS hl2
  exact lv_iload_n X.exec X.bytes hd rfl (lv_g hl2 hl) (k H locs ls hP hD hS hl2)
theorem l_aload_n (X : Lx K) {k4 : Fin 4} {x : Nat} (hd : decode cL_law pc = .ok (.aload_n k4, 1)) (q : Nat) (hq : pc + 1 = q) (hl : lg lv (k4 : Nat) = some (.ref x)) (k : B 4 K ws ce sl q lv (.ref x :: st)) : B 4 K ws ce sl pc lv st := by
  subst hq
  intro H locs ls hP hD hS hl2
  exact lv_aload_n X.exec X.bytes hd rfl (lv_g hl2 hl) (k H locs ls hP hD hS hl2)
theorem l_istore_n (X : Lx K) {k4 : Fin 4} {x : Int32} {lv' : List (Nat × Value)} (hd : decode cL_law pc = .ok (.istore_n k4, 1)) (q : Nat) (hq : pc + 1 = q) (hn : (k4 : Nat) < 4) (hk : lok lv (k4 : Nat) = true) (hl : lput lv (k4 : Nat) (.int x) = lv') (k : B 4 K ws ce sl q lv' st) : B 4 K ws ce sl pc lv (.int x :: st) := by
  subst hq; subst hl
  intro H locs ls hP hD hS hl2
  exact lv_istore_n X.exec X.bytes hd rfl hl2 hn rfl (fun ls' hl3 => k H locs ls' hP hD hS (lv_put hk hl3))
theorem l_astore_n (X : Lx K) {k4 : Fin 4} {x : Nat} {lv' : List (Nat × Value)} (hd : decode cL_law pc = .ok (.astore_n k4, 1)) (q : Nat) (hq : pc + 1 = q) (hn : (k4 : Nat) < 4) (hk : lok lv (k4 : Nat) = true) (hl : lput lv (k4 : Nat) (.ref x) = lv') (k : B 4 K ws ce sl q lv' st) : B 4 K ws ce sl pc lv (.ref x :: st) := by
  subst hq; subst hl
  intro H locs ls hP hD hS hl2
  exact lv_astore_n X.exec X.bytes hd rfl hl2 hn rfl (fun ls' hl3 => k H locs ls' hP hD hS (lv_put hk hl3))
theorem l_iinc (X : Lx K) {i : Nat} {n : Int} {x v : Int32} {lv' : List (Nat × Value)} (hd : decode cL_law pc = .ok (.iinc i n, 3)) (q : Nat) (hq : pc + 3 = q) (hn : i < 4) (hx : lg lv i = some (.int x)) (hv : x + Int32.ofInt n = v) (hk : lok lv i = true) (hl : lput lv i (.int v) = lv') (k : B 4 K ws ce sl q lv' st) : B 4 K ws ce sl pc lv st := by
  subst hq; subst hl
  intro H locs ls hP hD hS hl2
  obtain ⟨k9, hk9⟩ := lv_memk hx
  exact lv_iinc X.exec X.bytes hd hl2 hk9 hv hn rfl (fun ls' hl3 => k H locs ls' hP hD hS (lv_put hk hl3))
theorem l_dup (X : Lx K) {v : Value} (hd : decode cL_law pc = .ok (.dup, 1)) (q : Nat) (hq : pc + 1 = q) (hc : v.category = 1) (k : B 4 K ws ce sl q lv (v :: v :: st)) : B 4 K ws ce sl pc lv (v :: st) := by
  subst hq
  intro H locs ls hP hD hS hl
  exact lv_dup X.exec X.bytes hd hc (k H locs ls hP hD hS hl)
theorem l_iadd (X : Lx K) {x y v : Int32} (hd : decode cL_law pc = .ok (.iadd, 1)) (q : Nat) (hq : pc + 1 = q) (hv : x + y = v) (k : B 4 K ws ce sl q lv (.int v :: st)) : B 4 K ws ce sl pc lv (.int y :: .int x :: st) := by
  subst hq; subst hv
  intro H locs ls hP hD hS hl
  exact lv_iadd X.exec X.bytes hd (k H locs ls hP hD hS hl)
theorem l_isub (X : Lx K) {x y v : Int32} (hd : decode cL_law pc = .ok (.isub, 1)) (q : Nat) (hq : pc + 1 = q) (hv : x - y = v) (k : B 4 K ws ce sl q lv (.int v :: st)) : B 4 K ws ce sl pc lv (.int y :: .int x :: st) := by
  subst hq; subst hv
  intro H locs ls hP hD hS hl
  exact lv_isub X.exec X.bytes hd (k H locs ls hP hD hS hl)
theorem l_iand (X : Lx K) {x y v : Int32} (hd : decode cL_law pc = .ok (.iand, 1)) (q : Nat) (hq : pc + 1 = q) (hv : x &&& y = v) (k : B 4 K ws ce sl q lv (.int v :: st)) : B 4 K ws ce sl pc lv (.int y :: .int x :: st) := by
  subst hq; subst hv
  intro H locs ls hP hD hS hl
  exact lv_iand X.exec X.bytes hd (k H locs ls hP hD hS hl)
theorem l_goto (X : Lx K) {off : Int} (hd : decode cL_law pc = .ok (.goto off, 3)) (q : Nat) (hq : (pc : Int) + off = (q : Int)) (k : B 4 K ws ce sl q lv st) : B 4 K ws ce sl pc lv st := by
  intro H locs ls hP hD hS hl
  exact lv_goto X.exec X.bytes hd hq (k H locs ls hP hD hS hl)
theorem l_icmp_eq (X : Lx K) {x y : Int32} (a b : Int) {off : Int} (hd : decode cL_law pc = .ok (.if_icmp .eq off, 3)) (t : Nat) (ht : (pc : Int) + off = (t : Int)) (q : Nat) (hq : pc + 3 = q) (hx : x.toInt = a) (hy : y.toInt = b) (kt : a = b → B 4 K ws ce sl t lv st) (kf : ¬ (a = b) → B 4 K ws ce sl q lv st) : B 4 K ws ce sl pc lv (.int y :: .int x :: st) := by
  subst hq
  intro H locs ls hP hD hS hl
  have e := ir_eq hx hy
  refine lv_icmp_eq X.exec X.bytes hd ht (fun c => kt (e.mp c) H locs ls hP hD hS hl) (fun c => kf (fun z => c (e.mpr z)) H locs ls hP hD hS hl)
theorem l_if_eq (X : Lx K) {x : Int32} (a : Int) {off : Int} (hd : decode cL_law pc = .ok (.ifCond .eq off, 3)) (t : Nat) (ht : (pc : Int) + off = (t : Int)) (q : Nat) (hq : pc + 3 = q) (hx : x.toInt = a) (kt : a = 0 → B 4 K ws ce sl t lv st) (kf : ¬ (a = 0) → B 4 K ws ce sl q lv st) : B 4 K ws ce sl pc lv (.int x :: st) := by
  subst hq
  intro H locs ls hP hD hS hl
  have hy : (0 : Int32).toInt = 0 := rfl
  have e := ir_eq hx hy
  refine lv_if_eq X.exec X.bytes hd ht (fun c => kt (e.mp c) H locs ls hP hD hS hl) (fun c => kf (fun z => c (e.mpr z)) H locs ls hP hD hS hl)
theorem l_icmp_gt (X : Lx K) {x y : Int32} (a b : Int) {off : Int} (hd : decode cL_law pc = .ok (.if_icmp .gt off, 3)) (t : Nat) (ht : (pc : Int) + off = (t : Int)) (q : Nat) (hq : pc + 3 = q) (hx : x.toInt = a) (hy : y.toInt = b) (kt : b < a → B 4 K ws ce sl t lv st) (kf : ¬ (b < a) → B 4 K ws ce sl q lv st) : B 4 K ws ce sl pc lv (.int y :: .int x :: st) := by
  subst hq
  intro H locs ls hP hD hS hl
  have e := ir_lt hy hx
  refine lv_icmp_gt X.exec X.bytes hd ht (fun c => kt (e.mp c) H locs ls hP hD hS hl) (fun c => kf (fun z => c (e.mpr z)) H locs ls hP hD hS hl)
theorem l_new (X : Lx K) {idx ci n : Nat} {C : String} {T : u_T} {ty : Nat → FieldType} {fs : List Value} (hin : ∀ w ∈ u_ws C T n, w ∈ lw_good) (hty : ∀ k, k < n → parseFieldDescriptor (T k).2.2.1 = some (ty k)) (hw : Cond.classLink RL idx C ∈ lw_good) (hi : Cond.instantiable C n ∈ lw_good) (hn : Cond.initialized C ∈ lw_good) (hc : vwCl[ci]? = some (C, T, n)) (hfs : ∀ j, j < n → defaultValue (ty j) = vp_V fs j) (h1 : ce + 1 ≤ room_1.cells) (h2 : sl + n ≤ room_1.slots) (hd : decode cL_law pc = .ok (.new idx, 3)) (q : Nat) (hq : pc + 3 = q) (k : ∀ a, B 4 K (ws ++ [(a, .inr (ci, fs))]) (ce + 1) (sl + n) q lv (.ref a :: st)) : B 4 K ws ce sl pc lv st := by
  subst hq
  intro H locs ls hP hD hS hl
  exact va_new X.exec X.bytes X.ts hin ty hty X.ow (X.ts _ hw) (X.ts _ hi) (X.ts _ hn) X.kn hP hD hS X.al hc hfs (by rw [X.room]; exact h1) (by rw [X.room]; exact h2) hd (fun a H1 hP1 hD1 hS1 => k a H1 locs ls hP1 hD1 hS1 hl)
theorem l_initS (X : Lx K) {idx : Nat} {y : MethodName} {bs : ByteArray} {mL n fr2 lo2 mc ms a : Nat} {nest : Bool} {As st0 : List Value} {w0 wr : va_W} {S : Type} {post : S → Prop} {w1 : Nat × Nat × Nat → S → va_W} (cw : CI RL idx y bs mL n nest) (hM : cBS y bs mL fr2 lo2 mc ms (.ref a :: As) w0 post w1) (hd : decode cL_law pc = .ok (.invokespecial idx, 3)) (q : Nat) (hq : pc + 3 = q) (isC isR : List Nat) (hC : isC.map (fun i => ws[i]?) = w0.map some) (hC2 : isC.filterMap (fun i => ws[i]?) = w0) (hnC : va_nd isC = true) (hR : isR.map (fun i => ws[i]?) = wr.map some) (hnR : va_nd isR = true) (hdis : ∀ i ∈ isR, i ∉ isC) (hAs : As.length = n) (hst : st0 = As.reverse ++ .ref a :: st) (hr : fr2 + 1 ≤ room_1.frames ∧ 19 + mL + lo2 ≤ room_1.locals) (hc1 : ce + mc ≤ room_1.cells) (hc2 : sl + ms ≤ room_1.slots) (hcat : (st.map fun v => v.category).sum ≤ 8) (k : ∀ ad, post ad → B 4 K (wr ++ w1 K.2.2.2.2.1 ad) (ce + mc) (sl + ms) q lv st) : B 4 K ws ce sl pc lv st0 := by
  subst hq hst
  intro H locs ls hP hD hS hl
  obtain ⟨h1, h2, h3, h4, h5, h6⟩ := cw
  have hPc := hP.sub isC hC2
  have hDc := hD.sub isC hnC hC
  have hF := va_free hD hS X.al isC hC
  have hM1 := hM K.1.2.1 K.2.2.2.1 K.2.2.2.2.1 H.size
  have hG : GoodIn lw_good (.code y bs mL none :: lw_good) := fun w hw => by
    rcases List.mem_cons.mp hw with rfl | hw
    · exact tb_good _ h3
    · exact tb_good _ hw
  have hR2 : (rmB fr2 lo2 mc ms).frames + 1 ≤ K.1.2.2.2.1.frames ∧ 8 + (mL + 11) + (rmB fr2 lo2 mc ms).locals ≤ K.1.2.2.2.1.locals := by
    rw [X.room]
    show fr2 + 1 ≤ room_1.frames ∧ 8 + (mL + 11) + lo2 ≤ room_1.locals
    omega
  have hpre : PreS K.1.2.2.2.2 H (va_Pc (.ref a :: As) (PreB K.2.2.2.1 K.2.2.2.2.1 H.size w0)) (.ref a :: As) := by
    refine ⟨fun a U g mk q => ?_, fun U hU hW => ⟨rfl, by rw [hU], by rw [hU]; exact hPc, va_K.moved hW.alike X.kn, hDc.weaken (fun _ _ _ _ => trivial), nest_warm hW X.nw, va_AOA.moved hW.alike X.ao⟩⟩
    obtain ⟨q0, q1, qP, qK, qD, qN, qA⟩ := q
    exact ⟨q0, q1, qP, va_K.moved (u := U) (U := U.calling g mk a) (Vm.Alike.refl U.vm) qK, qD, nest_same (u := U) (U := U.calling g mk a) rfl qN, va_AOA.moved (u := U) (U := U.calling g mk a) (Vm.Alike.refl U.vm) qA⟩
  have hfit : ce + mc ≤ K.1.2.2.2.1.cells ∧ sl + ms ≤ K.1.2.2.2.1.slots := by
    rw [X.room]; exact ⟨hc1, hc2⟩
  have hrun : va_Run K.1.1 K.1.2.1 K.1.2.2.1 K.1.2.2.2.1 K.1.2.2.2.2 K.2.1.1 K.2.1.2.1 K.2.1.2.2.1 K.2.1.2.2.2.1 K.2.1.2.2.2.2 H locs ce sl mc ms (F0 K.2.1.1 pc ls (As.reverse ++ .ref a :: st)) st (va_Qv post (endS K.2.2.2.1 K.2.2.2.2.1 w1 (va_A w0 H.size)) (va_A w0 H.size) (Value.ref a :: As).toArray) (va_A w0 H.size) := by
    cases nest with
    | false =>
      rw [if_neg (by decide)] at h1
      exact va_runI (nL := 4) (own := RL) (Ts := lw_good) ⟨X.exec, X.bytes, X.maxL, X.ow, X.ts⟩ hM1 ⟨callB_of n X.ts hG rfl rfl rfl (X.ts _ h2) (X.ts _ h1) h5 hR2, h6, X.ts _ h4⟩ hpre rfl hAs hl.1 rfl (lv_room hcat) hd hfit
    | true =>
      rw [if_pos rfl] at h1
      exact va_runIN (nL := 4) (own := RL) (Ts := lw_good) ⟨X.exec, X.bytes, X.maxL, X.ow, X.ts⟩ hM1 ⟨va_cnB n X.ts hG rfl rfl rfl (X.nw _ h1) (X.ts _ h2) h5 hR2, h6, X.ts _ h4⟩ hpre rfl hAs hl.1 rfl (lv_room hcat) hd hfit
  refine va_callv hrun hS (fun q _ z => hF q z) hF (fun ad t H1 locs1 ht hvm hw hB hz1 hk1 hS1 => ?_)
  obtain ⟨hP1, hK1, hD1⟩ := hB
  rw [ht] at hP1
  obtain ⟨hP2, hD2⟩ := va_join (wr := wr) (w1 := w1 K.2.2.2.2.1 ad) hP hD isC isR hC hR hnR hdis hk1 hF hP1 hD1
  exact k ad hw H1 locs1 ls hP2 hD2 hS1 hl
theorem l_init1 (X : Lx K) {idx : Nat} {y : MethodName} {bs : ByteArray} {mL n fr2 lo2 mc ms a : Nat} {nest : Bool} {As st0 : List Value} {wr : va_W} {x : Nat × va_E} {S : Type} {post : S → Prop} {w1 : Nat × Nat × Nat → S → va_W} (cw : CI RL idx y bs mL n nest) (hM : cBS y bs mL fr2 lo2 mc ms (.ref a :: As) [x] post w1) (hd : decode cL_law pc = .ok (.invokespecial idx, 3)) (q : Nat) (hq : pc + 3 = q) (hws : ws = wr ++ [x]) (hAs : As.length = n) (hst : st0 = As.reverse ++ .ref a :: st) (hr : fr2 + 1 ≤ room_1.frames ∧ 19 + mL + lo2 ≤ room_1.locals) (hc1 : ce + mc ≤ room_1.cells) (hc2 : sl + ms ≤ room_1.slots) (hcat : (st.map fun v => v.category).sum ≤ 8) (k : ∀ ad, post ad → B 4 K (wr ++ w1 K.2.2.2.2.1 ad) (ce + mc) (sl + ms) q lv st) : B 4 K ws ce sl pc lv st0 := by
  subst hws
  refine l_initS X cw hM hd q hq [wr.length] (List.range wr.length) ?_ ?_ rfl (hR_app wr x) (by rw [List.range_eq_range']; exact nd_rg _ _) (fun i hi z => ?_) hAs hst hr hc1 hc2 hcat k
  · show [(wr ++ [x])[wr.length]?] = [some x]
    rw [hC_at]
  · rw [List.filterMap_cons_some (hC_at wr x)]
    rfl
  · have h1 := List.mem_range.mp hi
    have h2 := List.mem_singleton.mp z
    omega
theorem l_sld (X : Lx K) {b L : Nat} {xs : Nat → Int32} (Y : SX K b L xs) {i : Nat} {x : Int32} (hx : x = nI i) (hi : i < L) (hd : decode cL_law pc = .ok (.iaload, 1)) (q : Nat) (hq : pc + 1 = q) (k : B 4 K ws ce sl q lv (.int (xs i) :: st)) : B 4 K ws ce sl pc lv (.int x :: .ref b :: st) := by
  subst hq hx
  obtain ⟨y1, y2, y3, y4⟩ := Y
  intro H locs ls hP hD hS hl
  have hc : (nI i).toNatClampNeg = i := nI_clamp (by omega)
  refine va_sld (i := nI i) X.exec X.bytes y1 y2 y3 hS (vp_in_nI hi (by omega)) hd ?_
  rw [hc]
  exact k H locs ls hP hD hS hl
theorem l_slen (X : Lx K) {b L : Nat} {xs : Nat → Int32} (Y : SX K b L xs) (hd : decode cL_law pc = .ok (.arraylength, 1)) (q : Nat) (hq : pc + 1 = q) (k : B 4 K ws ce sl q lv (.int (nI L) :: st)) : B 4 K ws ce sl pc lv (.ref b :: st) := by
  subst hq
  obtain ⟨y1, y2, y3, y4⟩ := Y
  intro H locs ls hP hD hS hl
  exact va_slen X.exec X.bytes y1 y2 y3 hS hd (k H locs ls hP hD hS hl)
/-- the k-th int of a call -/
theorem l_arg (X : Lx K) {b L i k : Nat} {xs : Nat → Int32} {kk : Int} (Y : SX K b L xs) (hi : i + k < L) (h0 : lg lv 0 = some (.ref b)) (h3 : lg lv 3 = some (.int (nI i))) (hk : Int32.ofInt kk = nI k) (d1 : decode cL_law pc = .ok (.aload_n 0, 1)) (d2 : decode cL_law (pc + 1) = .ok (.iload_n 3, 1)) (d3 : decode cL_law (pc + 2) = .ok (.iconst kk, 1)) (d4 : decode cL_law (pc + 3) = .ok (.iadd, 1)) (d5 : decode cL_law (pc + 4) = .ok (.iaload, 1)) (q : Nat) (hq : pc + 5 = q) (kt : B 4 K ws ce sl q lv (.int (xs (i + k)) :: st)) : B 4 K ws ce sl pc lv st := by
  refine l_aload_n X d1 (pc + 1) rfl h0 ?_
  refine l_iload_n X d2 (pc + 2) rfl h3 ?_
  refine l_iconst X d3 (pc + 3) rfl hk ?_
  refine l_iadd X d4 (pc + 4) rfl (nI_add i k) ?_
  exact l_sld X Y rfl hi d5 q hq kt
theorem l_switch (X : Lx K) {x : Int32} (j : Nat) (hj : x = nI j) (tgt : Nat) (off : Int) (h24 : j < 24) (ho : (#[112, 155, 208, 257, 270, 293, 326, 349, 372, 395, 438, 471, 494, 527, 550, 563, 586, 609, 622, 655, 678, 721, 744, 797] : Array Int)[j]? = some off) (ht : (32 : Int) + off = (tgt : Int)) (k : B 4 K ws ce sl tgt lv st) : B 4 K ws ce sl 32 lv (.int x :: st) := by
  subst hj
  intro H locs ls hP hD hS hl
  have e : (nI j).toInt = (j : Int) := nI_toInt (by omega)
  exact lv_tableIn X.exec X.bytes dL_law_32 (by omega) (by omega) (by rw [e]; exact ho) ht (k H locs ls hP hD hS hl)
theorem l_switchO (X : Lx K) {x : Int32} (hx : x.toInt < 0 ∨ 23 < x.toInt) (k : B 4 K ws ce sl 882 lv st) : B 4 K ws ce sl 32 lv (.int x :: st) := by
  intro H locs ls hP hD hS hl
  exact lv_tableOut X.exec X.bytes dL_law_32 hx (by decide) (k H locs ls hP hD hS hl)
theorem ap_l (a b : va_W) : (List.range a.length).map (fun i => (a ++ b)[i]?) = a.map some := by
  apply List.ext_getElem?
  intro i
  rw [List.getElem?_map, List.getElem?_map]
  by_cases hi : i < a.length
  · rw [List.getElem?_range hi, Option.map_some, List.getElem?_append_left hi, List.getElem?_eq_getElem hi, Option.map_some]
  · rw [List.getElem?_eq_none (by simp; omega), List.getElem?_eq_none (by omega)]
    rfl
theorem ap_r (a b : va_W) : (List.range' a.length b.length).map (fun i => (a ++ b)[i]?) = b.map some := by
  apply List.ext_getElem?
  intro i
  rw [List.getElem?_map, List.getElem?_map]
  by_cases hi : i < b.length
  · rw [List.getElem?_range' hi, Option.map_some, List.getElem?_append_right (by omega), List.getElem?_eq_getElem hi, Option.map_some, List.getElem?_eq_getElem (by omega)]
    congr 2
    congr 1
    omega
  · rw [List.getElem?_eq_none (by simp; omega), List.getElem?_eq_none (by omega)]
    rfl
theorem wd_len (N : Nat) (L : Nat → KD) (cs : Nat × Nat × Nat) (ad : Nat → Nat) (h : Mem) : (wd N L cs ad h).length = N := by simp [wd]
/-- a call of one of the two, whose cells come first; behind it they come last -/
theorem l_call (X : Lx K) {N : Nat} {L : Nat → KD} {h : Mem} {idx : Nat} {y : MethodName} {bs : ByteArray} {mL n fr2 lo2 : Nat} {av : (Nat → Nat) → List Value} {post : Int32 → Mem → Prop} {As st0 : List Value} {wr : va_W} {ad : Nat → Nat} {ci nf : Nat} {sk : Nat → Option Nat} {T : u_T} (cw : CW RL idx y bs mL (some .int) n true false) (hM : cI N L y bs mL (some .int) fr2 lo2 av h post) (hd : decode cL_law pc = .ok (.invokevirtual idx, 3)) (q : Nat) (hq : pc + 3 = q) (h0 : 0 < N) (hL : L 0 = .inl (ci, nf, sk)) (hcl : vwCl[ci]? = some (y.cls, T, nf)) (hav : av ad = .ref (ad 0) :: As) (hn : As.length = n) (hst : st0 = As.reverse ++ .ref (ad 0) :: st) (hr : fr2 + 1 ≤ 2048 ∧ 19 + mL + lo2 ≤ 84000) (hcat : (st.map fun v => v.category).sum ≤ 8) (hce : ce ≤ 600000 ∧ sl ≤ 7302250) (k : ∀ r h', post r h' → B 4 K (wr ++ wd N L K.2.2.2.2.1 ad h') ce sl q lv (.int r :: st)) : B 4 K (wd N L K.2.2.2.2.1 ad h ++ wr) ce sl pc lv st0 := by
  subst hq hst
  intro H locs ls hP hD hS hl
  have hlen := wd_len N L K.2.2.2.2.1 ad h
  have hC := ap_l (wd N L K.2.2.2.2.1 ad h) wr
  have hR := ap_r (wd N L K.2.2.2.2.1 ad h) wr
  rw [hlen] at hC hR
  have hPc : va_P K.2.2.2.1 vwCl (wd N L K.2.2.2.2.1 ad h) H := fun k q hk => hP k q (by rw [List.getElem?_append_left (List.getElem?_eq_some_iff.mp hk).1]; exact hk)
  have hDc : va_D K.2.2.2.2.2.2 (wd N L K.2.2.2.2.1 ad h) := hD.sub (List.range N) (by rw [List.range_eq_range']; exact nd_rg _ _) hC
  have hF := va_free hD hS X.al (List.range N) hC
  have toA : ∀ q, wdA N ad H.size q → va_A (wd N L K.2.2.2.2.1 ad h) H.size q := by
    intro q hq
    rcases hq with ⟨c, hc, rfl⟩ | hq
    · exact Or.inl ⟨c, _, wd_get hc⟩
    · exact Or.inr hq
  have hG : GoodIn lw_good (.code y bs mL (some .int) :: lw_good) := fun w hw => by
    rcases List.mem_cons.mp hw with rfl | hw
    · exact tb_good _ cw.2.2.1
    · exact tb_good _ hw
  have hR2 : (rmC fr2 lo2).frames + 1 ≤ K.1.2.2.2.1.frames ∧ 8 + (mL + 11) + (rmC fr2 lo2).locals ≤ K.1.2.2.2.1.locals := by
    rw [X.room]
    show fr2 + 1 ≤ 2048 ∧ 8 + (mL + 11) + lo2 ≤ 84000
    omega
  have h1 : Cond.methodLink RL idx y ∈ lw_good := cw.1
  have hM1 := hM K.1.2.1 K.2.2.2.1 K.2.2.2.2.1 ad H.size
  rw [hav] at hM1
  have he : (wd N L K.2.2.2.2.1 ad h)[0]? = some (ad 0, xe K.2.2.2.2.1 ad h 0 (L 0)) := wd_get h0
  rw [hL] at he
  have hrecv := va_recv X.kn hPc hcl he
  have hpre : PreV K.1.2.2.2.2 H y.cls (ad 0) (va_Pc (.ref (ad 0) :: As) (PreU N L K.2.2.2.1 K.2.2.2.2.1 ad H.size h)) As := by
    refine ⟨fun a U g mk q => ?_, hrecv, fun U hU hW => ⟨rfl, by rw [hU], by rw [hU]; exact hPc, va_K.moved hW.alike X.kn, wd_D hDc (fun _ _ => trivial) h, nest_warm hW X.nw⟩⟩
    obtain ⟨q0, q1, qP, qK, qD, qN⟩ := q
    exact ⟨q0, q1, qP, va_K.moved (u := U) (U := U.calling g mk a) (Vm.Alike.refl U.vm) qK, qD, nest_same (u := U) (U := U.calling g mk a) rfl qN⟩
  have hfit : ce + 0 ≤ K.1.2.2.2.1.cells ∧ sl + 0 ≤ K.1.2.2.2.1.slots := by
    rw [X.room]; exact hce
  have hrun := va_runV (g := F0 K.2.1.1 pc ls (As.reverse ++ .ref (ad 0) :: st)) (nL := 4) (own := RL) (Ts := lw_good) (p := K.1.1) (l := K.1.2.1) (e := K.1.2.2.1) (R := K.1.2.2.2.1) (below := K.2.1.2.2.1) (meth := K.2.1.2.2.2.1) (c := K.2.1.2.2.2.2) (locs := locs) ⟨X.exec, X.bytes, X.maxL, X.ow, X.ts⟩ hM1 ⟨callB_of n X.ts hG rfl rfl rfl (X.ts _ cw.2.1) (X.ts _ h1) cw.2.2.2.2 hR2, X.ts _ (cw_i cw).1, X.ts _ (cw_i cw).2⟩ hpre rfl hn hl.1 rfl (lv_room hcat) hd hfit
  refine va_calli hrun hS (fun q _ z => hF q (toA q z)) (fun q z => hF q (toA q z)) (fun r h' t H1 locs1 ht hvm hw hB hz1 hk1 hS1 => ?_)
  obtain ⟨hP1, -⟩ := hB
  rw [ht] at hP1
  obtain ⟨hP2, hD2⟩ := va_join (wr := wr) (w1 := wd N L K.2.2.2.2.1 ad h') hP hD (List.range N) (List.range' N wr.length) hC hR (nd_rg _ _) (fun i hi z => by
    have a1 := (List.mem_range'_1.mp hi).1
    have a2 := List.mem_range.mp z
    omega) (fun q a z => hk1 q a (fun w => z (toA q w))) hF hP1 (wd_D hDc (fun c hc => va_A.in (wd_get (h := h) hc)) h')
  exact k r h' hw H1 locs1 ls hP2 hD2 hS1 hl
end Lr
