/-! WHILE CELLS ARE MADE: worlds that grow; the rows of constructors -/
theorem wo_X8 : Cond.methodLink RX8 3 objectInit ∈ lw_good := tb_g 56 (by decide +kernel) rfl
theorem wo_X1 : Cond.methodLink RX1 1 objectInit ∈ lw_good := tb_g 64 (by decide +kernel) rfl
theorem wo_X3 : Cond.methodLink RX3 3 objectInit ∈ lw_good := tb_g 87 (by decide +kernel) rfl
theorem wo_X0 : Cond.methodLink RX0 3 objectInit ∈ lw_good := tb_g 145 (by decide +kernel) rfl
theorem wo_X6 : Cond.methodLink RX6 3 objectInit ∈ lw_good := tb_g 199 (by decide +kernel) rfl
theorem wo_X7 : Cond.methodLink RX7 3 objectInit ∈ lw_good := tb_g 229 (by decide +kernel) rfl
theorem wo_X5 : Cond.methodLink RX5 5 objectInit ∈ lw_good := tb_g 268 (by decide +kernel) rfl
theorem wo_X2 : Cond.methodLink RX2 3 objectInit ∈ lw_good := tb_g 301 (by decide +kernel) rfl
theorem wo_X4 : Cond.methodLink RX4 3 objectInit ∈ lw_good := tb_g 328 (by decide +kernel) rfl
theorem wo_X9 : Cond.methodLink RX9 1 objectInit ∈ lw_good := tb_g 703 (by decide +kernel) rfl
theorem wo_i : Cond.instanceMethod objectInit ∈ lw_good := tb_g 57 (by decide +kernel) rfl
theorem wo_c : Cond.code objectInit ⟨#[0xb1]⟩ 1 none ∈ lw_good := tb_g 58 (by decide +kernel) rfl
theorem wo_I : Cond.arrayClass .int ∈ lw_good := tb_g 106 (by decide +kernel) rfl
theorem wo_Z : Cond.arrayClass .boolean ∈ lw_good := tb_g 193 (by decide +kernel) rfl
theorem wo_O : Cond.arrayOver (.array .int) ∈ lw_tbl := tb_at 89 (by decide +kernel)
theorem va_AOA.moved {ty : FieldType} {u U : State} (hvm : u.vm.Alike U.vm) (h : va_AOA ty u) : va_AOA ty U := by
  have e := Cond.arrayOver_setVmC (args := #[]) hvm (.array ty)
  exact (show (Cond.arrayOver (.array ty)).before #[] (u.setVm U.vm) = true from e.trans h)
abbrev Wn (K : KT) (H : Heap) (locs : List Loc) (ce sl : Nat) (g : JFrame) : Prop := W K.1.1 K.1.2.1 K.1.2.2.1 K.1.2.2.2.1 K.1.2.2.2.2 K.2.1.1 K.2.1.2.1 K.2.1.2.2.1 K.2.1.2.2.2.1 K.2.1.2.2.2.2 H locs ce sl K.2.2.1.1 g
/-- from the world ws, with so many cells and slots made, at pc, with these locals and this stack, it comes to the end that K names -/
def B (nL : Nat) (K : KT) (ws : va_W) (ce sl pc : Nat) (lv : List (Nat × Value)) (st : List Value) : Prop :=
  ∀ (H : Heap) (locs : List Loc) (ls : Array Slot), va_P K.2.2.2.1 vwCl ws H → va_D K.2.2.2.2.2.2 ws → va_S K.2.2.2.2.2.2 K.1.2.2.2.2.heap H locs → lv_has ls nL lv → Wn K H locs ce sl (F0 K.2.1.1 pc ls st)
def Bx (nL : Nat) (cc : ByteArray) (own : String) (rm : Room) (K : KT) : Prop :=
  K.1.1.tables.exec = Jvm.exec ∧ K.2.1.2.2.2.2.code = cc ∧ K.2.1.2.2.2.2.maxLocals = nL ∧ K.1.2.2.2.2.vm.findClass own = some K.2.1.1.cls ∧ (∀ w ∈ lw_good, w.before K.2.1.2.1 K.1.2.2.2.2 = true) ∧ va_K K.2.2.2.1 vwCl (tysC K.2.2.2.2.1) K.1.2.2.2.2 ∧ (∀ q, K.1.2.2.2.2.heap.size ≤ q → K.2.2.2.2.2.2 q) ∧ K.2.1.2.2.2.1.locks = false ∧ K.2.1.2.2.2.1.sig.returnType = none ∧ K.1.2.2.2.1 = rm ∧ (∀ w ∈ lw_nest, va_Nw w K.1.2.2.2.2) ∧ K.2.1.2.2.2.1.name = "<init>" ∧ va_AOA .int K.1.2.2.2.2
section Br
variable {nL : Nat} {cc : ByteArray} {own : String} {rm : Room} {K : KT} {ws : va_W} {ce sl pc : Nat} {lv : List (Nat × Value)} {st : List Value}
theorem Bx.exec (X : Bx nL cc own rm K) : K.1.1.tables.exec = Jvm.exec := X.1
theorem Bx.bytes (X : Bx nL cc own rm K) : K.2.1.2.2.2.2.code = cc := X.2.1
theorem Bx.maxL (X : Bx nL cc own rm K) : K.2.1.2.2.2.2.maxLocals = nL := X.2.2.1
theorem Bx.ow (X : Bx nL cc own rm K) : K.1.2.2.2.2.vm.findClass own = some K.2.1.1.cls := X.2.2.2.1
theorem Bx.ts (X : Bx nL cc own rm K) : ∀ w ∈ lw_good, w.before K.2.1.2.1 K.1.2.2.2.2 = true := X.2.2.2.2.1
theorem Bx.kn (X : Bx nL cc own rm K) : va_K K.2.2.2.1 vwCl (tysC K.2.2.2.2.1) K.1.2.2.2.2 := X.2.2.2.2.2.1
theorem Bx.al (X : Bx nL cc own rm K) : ∀ q, K.1.2.2.2.2.heap.size ≤ q → K.2.2.2.2.2.2 q := X.2.2.2.2.2.2.1
theorem Bx.nolock (X : Bx nL cc own rm K) : K.2.1.2.2.2.1.locks = false := X.2.2.2.2.2.2.2.1
theorem Bx.ret (X : Bx nL cc own rm K) : K.2.1.2.2.2.1.sig.returnType = none := X.2.2.2.2.2.2.2.2.1
theorem Bx.room (X : Bx nL cc own rm K) : K.1.2.2.2.1 = rm := X.2.2.2.2.2.2.2.2.2.1
theorem Bx.nw (X : Bx nL cc own rm K) : ∀ w ∈ lw_nest, va_Nw w K.1.2.2.2.2 := X.2.2.2.2.2.2.2.2.2.2.1
theorem Bx.isInit (X : Bx nL cc own rm K) : K.2.1.2.2.2.1.name = "<init>" := X.2.2.2.2.2.2.2.2.2.2.2.1
theorem Bx.ao (X : Bx nL cc own rm K) : va_AOA .int K.1.2.2.2.2 := X.2.2.2.2.2.2.2.2.2.2.2.2
theorem b_aload_n (X : Bx nL cc own rm K) {k4 : Fin 4} {x : Nat} (hd : decode cc pc = .ok (.aload_n k4, 1)) (q : Nat) (hq : pc + 1 = q) (hl : lg lv (k4 : Nat) = some (.ref x)) (k : B nL K ws ce sl q lv (.ref x :: st)) : B nL K ws ce sl pc lv st := by
  subst hq
  intro H locs ls hP hD hS hl2
  exact lv_aload_n X.exec X.bytes hd rfl (lv_g hl2 hl) (k H locs ls hP hD hS hl2)
theorem b_iconst (X : Bx nL cc own rm K) {n : Int} {v : Int32} (hd : decode cc pc = .ok (.iconst n, 1)) (q : Nat) (hq : pc + 1 = q) (hv : Int32.ofInt n = v) (k : B nL K ws ce sl q lv (.int v :: st)) : B nL K ws ce sl pc lv st := by
  subst hq
  intro H locs ls hP hD hS hl
  exact lv_iconst X.exec X.bytes hd hv (k H locs ls hP hD hS hl)
theorem b_bipush (X : Bx nL cc own rm K) {n : Int} {v : Int32} (hd : decode cc pc = .ok (.bipush n, 2)) (q : Nat) (hq : pc + 2 = q) (hv : (Int8.ofInt n).toInt32 = v) (k : B nL K ws ce sl q lv (.int v :: st)) : B nL K ws ce sl pc lv st := by
  subst hq
  intro H locs ls hP hD hS hl
  exact lv_bipush X.exec X.bytes hd hv (k H locs ls hP hD hS hl)
theorem b_sipush (X : Bx nL cc own rm K) {n : Int} {v : Int32} (hd : decode cc pc = .ok (.sipush n, 3)) (q : Nat) (hq : pc + 3 = q) (hv : (Int16.ofInt n).toInt32 = v) (k : B nL K ws ce sl q lv (.int v :: st)) : B nL K ws ce sl pc lv st := by
  subst hq
  intro H locs ls hP hD hS hl
  exact lv_sipush X.exec X.bytes hd hv (k H locs ls hP hD hS hl)
theorem b_dup (X : Bx nL cc own rm K) {a : Nat} (hd : decode cc pc = .ok (.dup, 1)) (q : Nat) (hq : pc + 1 = q) (k : B nL K ws ce sl q lv (.ref a :: .ref a :: st)) : B nL K ws ce sl pc lv (.ref a :: st) := by
  subst hq
  intro H locs ls hP hD hS hl
  exact lv_dup X.exec X.bytes hd rfl (k H locs ls hP hD hS hl)
theorem b_obj (X : Bx nL cc own rm K) {idx a : Nat} (hw : Cond.methodLink own idx objectInit ∈ lw_good) (hd : decode cc pc = .ok (.invokespecial idx, 3)) (q : Nat) (hq : pc + 3 = q) (hr : 1 ≤ rm.frames ∧ 20 ≤ rm.locals) (hst : (st.map fun v => v.category).sum ≤ 8) (k : B nL K ws ce sl q lv st) : B nL K ws ce sl pc lv (.ref a :: st) := by
  subst hq
  intro H locs ls hP hD hS hl
  have h1 := lv_room (pc := pc) (ls := ls) (m := K.2.1.1) (rest := .ref a :: st) hst
  refine W.objInit X.exec X.bytes X.ow (X.ts _ hw) (X.ts _ wo_i) (X.ts _ wo_c) rfl (hl.1.trans X.maxL.symm) rfl hd (by rw [X.room]; exact hr.1) (by rw [X.room]; have := hr.2; omega) (k H locs ls hP hD hS hl)
theorem b_new (X : Bx nL cc own rm K) {idx ci n : Nat} {C : String} {T : u_T} {ty : Nat → FieldType} {fs : List Value} (hin : ∀ w ∈ u_ws C T n, w ∈ lw_good) (hty : ∀ k, k < n → parseFieldDescriptor (T k).2.2.1 = some (ty k)) (hw : Cond.classLink own idx C ∈ lw_good) (hi : Cond.instantiable C n ∈ lw_good) (hn : Cond.initialized C ∈ lw_good) (hc : vwCl[ci]? = some (C, T, n)) (hfs : ∀ j, j < n → defaultValue (ty j) = vp_V fs j) (h1 : ce + 1 ≤ rm.cells) (h2 : sl + n ≤ rm.slots) (hd : decode cc pc = .ok (.new idx, 3)) (q : Nat) (hq : pc + 3 = q) (k : ∀ a, B nL K (ws ++ [(a, .inr (ci, fs))]) (ce + 1) (sl + n) q lv (.ref a :: st)) : B nL K ws ce sl pc lv st := by
  subst hq
  intro H locs ls hP hD hS hl
  exact va_new X.exec X.bytes X.ts hin ty hty X.ow (X.ts _ hw) (X.ts _ hi) (X.ts _ hn) X.kn hP hD hS X.al hc hfs (by rw [X.room]; exact h1) (by rw [X.room]; exact h2) hd (fun a H1 hP1 hD1 hS1 => k a H1 locs ls hP1 hD1 hS1 hl)
theorem cs_int {D : va_G} {cs : Nat × Nat × Nat} {s : State} (h : va_K D vwCl (tysC cs) s) : s.vm.findClass ("[" ++ FieldType.int.toString) = some cs.1 := (h.2 0 _ rfl).2
theorem cs_bool {D : va_G} {cs : Nat × Nat × Nat} {s : State} (h : va_K D vwCl (tysC cs) s) : s.vm.findClass ("[" ++ FieldType.boolean.toString) = some cs.2.1 := (h.2 1 _ rfl).2
theorem cs_arr {D : va_G} {cs : Nat × Nat × Nat} {s : State} (h : va_K D vwCl (tysC cs) s) : s.vm.findClass ("[" ++ (FieldType.array .int).toString) = some cs.2.2 := (h.2 2 _ rfl).2
theorem b_newi (X : Bx nL cc own rm K) {n : Nat} (hn : n < 100000) {x : Int32} (hx : x = nI n) (h1 : ce + 1 ≤ rm.cells) (h2 : sl + n ≤ rm.slots) (hd : decode cc pc = .ok (.newarray .int, 2)) (q : Nat) (hq : pc + 2 = q) (k : ∀ a, B nL K (ws ++ [(a, .inl (K.2.2.2.2.1.1, n, .inl (fun _ => 0)))]) (ce + 1) (sl + n) q lv (.ref a :: st)) : B nL K ws ce sl pc lv (.int x :: st) := by
  subst hq hx
  intro H locs ls hP hD hS hl
  refine va_newa (atype := .int) (ty := .int) (N' := n) (a0 := (n, .inl (fun _ => 0))) X.exec X.bytes (X.ts _ wo_I) rfl X.kn hP hD hS X.al (fun _ => rfl) (fun z => ?_) (nI_clamp (by omega)) (by show n * 4 ≤ 536870912; omega) (by rw [X.room]; exact h1) (by rw [X.room]; exact h2) hd (fun a cA H1 hK1 hP1 hD1 hS1 => ?_)
  · have := Int32.lt_iff_toInt_lt.mp z
    rw [nI_toInt (by omega)] at this
    have e : (0 : Int32).toInt = 0 := rfl
    omega
  · have e : K.1.2.2.2.2.vm.findClass ("[" ++ FieldType.int.toString) = some cA := (hK1.2 3 _ rfl).2
    rw [cs_int X.kn] at e
    cases e
    exact k a H1 locs ls hP1 hD1 hS1 hl
theorem b_newz (X : Bx nL cc own rm K) {n : Nat} (hn : n < 100000) {x : Int32} (hx : x = nI n) (h1 : ce + 1 ≤ rm.cells) (h2 : sl + n ≤ rm.slots) (hd : decode cc pc = .ok (.newarray .boolean, 2)) (q : Nat) (hq : pc + 2 = q) (k : ∀ a, B nL K (ws ++ [(a, .inl (K.2.2.2.2.1.2.1, n, .inl (fun _ => 0)))]) (ce + 1) (sl + n) q lv (.ref a :: st)) : B nL K ws ce sl pc lv (.int x :: st) := by
  subst hq hx
  intro H locs ls hP hD hS hl
  refine va_newa (atype := .boolean) (ty := .boolean) (N' := n) (a0 := (n, .inl (fun _ => 0))) X.exec X.bytes (X.ts _ wo_Z) rfl X.kn hP hD hS X.al (fun _ => rfl) (fun z => ?_) (nI_clamp (by omega)) (by show n * 1 ≤ 536870912; omega) (by rw [X.room]; exact h1) (by rw [X.room]; exact h2) hd (fun a cA H1 hK1 hP1 hD1 hS1 => ?_)
  · have := Int32.lt_iff_toInt_lt.mp z
    rw [nI_toInt (by omega)] at this
    have e : (0 : Int32).toInt = 0 := rfl
    omega
  · have e : K.1.2.2.2.2.vm.findClass ("[" ++ FieldType.boolean.toString) = some cA := (hK1.2 3 _ rfl).2
    rw [cs_bool X.kn] at e
    cases e
    exact k a H1 locs ls hP1 hD1 hS1 hl
theorem b_newg (X : Bx nL cc own rm K) {n m idx : Nat} (hn : n < 1000) (hm : m < 1000) {x y : Int32} (hx : x = nI n) (hy : y = nI m) (hw : Cond.classLink own idx "[[I" ∈ lw_good) (h1 : ce + (1 + n) ≤ rm.cells) (h2 : sl + (n + n * m) ≤ rm.slots) (hd : decode cc pc = .ok (.multianewarray idx 2, 4)) (q : Nat) (hq : pc + 4 = q) (k : ∀ (a : Nat) (r : Nat → Nat), B nL K ((ws ++ [(a, .inl (K.2.2.2.2.1.2.2, n, .inr (.inr (.inr (.inr (fun i => if i < n then some (r i) else none))))))]) ++ (List.range n).map (fun i => (r i, .inl (K.2.2.2.2.1.1, m, .inl (fun _ => 0))))) (ce + 1 + n) (sl + n + n * m) q lv (.ref a :: st)) : B nL K ws ce sl pc lv (.int y :: .int x :: st) := by
  subst hq hx hy
  intro H locs ls hP hD hS hl
  have hpos : ∀ n, n < 1000 → ¬ nI n < 0 := by
    intro n hn z
    have := Int32.lt_iff_toInt_lt.mp z
    rw [nI_toInt (by omega)] at this
    have e : (0 : Int32).toInt = 0 := rfl
    omega
  have hmul : n * m ≤ 1000 * m := Nat.mul_le_mul_right m (by omega)
  refine va_mna (X := ws) (L := []) (f := fun _ => .inr (0, [])) (ty := .int) (cy := K.2.2.2.2.1.1) (N' := n) (K' := m) (z := (m, .inl (fun _ => 0))) X.exec X.bytes X.ow (X.ts _ hw) X.ao (X.ts _ wo_I) (cs_int X.kn) X.kn (by show va_P K.2.2.2.1 vwCl (ws ++ []) H; rw [List.append_nil]; exact hP) (by show va_D K.2.2.2.2.2.2 (ws ++ []); rw [List.append_nil]; exact hD) hS X.al (hpos n hn) (hpos m hm) (nI_clamp (by omega)) (nI_clamp (by omega)) (by omega) (by show m * 4 ≤ 536870912; omega) (by omega) rfl rfl (by rw [X.room]; exact h1) (by rw [X.room]; exact h2) (fun c => arrV_new c m (.int 0)) hd (fun a r cA H1 _ _ hK1 hP1 hD1 hS1 => ?_)
  have e : K.1.2.2.2.2.vm.findClass ("[" ++ (FieldType.array .int).toString) = some cA := (hK1.2 3 _ rfl).2
  rw [cs_arr X.kn] at e
  cases e
  have el : va_pl ([] ++ (List.range n).map r) (vr_up (fun _ => .inr (0, [])) ((List.range n).map r) (.inl (K.2.2.2.2.1.1, m, .inl (fun _ => 0)))) = (List.range n).map (fun i => ((r i, .inl (K.2.2.2.2.1.1, m, .inl (fun _ => 0))) : Nat × va_E)) := by
    unfold va_pl
    rw [List.nil_append, List.map_map]
    refine List.map_congr_left (fun i hi => ?_)
    show (r i, vr_up _ _ _ (r i)) = _
    rw [vr_up_in (List.mem_map_of_mem hi)]
  rw [el] at hP1 hD1
  exact k a r H1 locs ls hP1 hD1 hS1 hl
theorem b_putF (X : Bx nL cc own rm K) {c ci n k idx a : Nat} {C : String} {T : u_T} {ty0 : Nat → FieldType} {fs : List Value} {v : Value} {ty : FieldType} {ws' : va_W} (hw : Cond.fieldLink own idx (T k).1 (T k).2.1 (T k).2.2.1 ∈ lw_good) (hin : ∀ w ∈ u_ws C T n, w ∈ lw_good) (hty : ∀ k, k < n → parseFieldDescriptor (T k).2.2.1 = some (ty0 k)) (hnm : ∀ a, a < n → ∀ b, b < n → a ≠ b → (T a).2.1 ≠ (T b).2.1) (hd : decode cc pc = .ok (.putfield idx, 3)) (q : Nat) (hq : pc + 3 = q) (he : ws[c]? = some (a, .inr (ci, fs))) (hc : vwCl[ci]? = some (C, T, n)) (hk : k < n) (hfin : (T k).2.2.2 = true) (hdecl : (T k).1 = own) (hty0 : ty0 k = ty) (hn : narrow ty v = v) (hfit : fits ty v = true) (hl : k < fs.length) (hws : ws.set c (a, .inr (ci, fs.set k v)) = ws') (kk : B nL K ws' ce sl q lv st) : B nL K ws ce sl pc lv (v :: .ref a :: st) := by
  subst hq hws hty0
  intro H locs ls hP hD hS hl2
  exact va_putF X.exec X.bytes X.ts hin ty0 hty hnm X.ow X.kn hP hD hS c he hc k hk (X.ts _ hw) (fun _ h => h) hfin X.isInit hdecl (hty k hk) hn hfit hl hd (fun H1 locs1 hP1 hD1 hS1 => kk H1 locs1 ls hP1 hD1 hS1 hl2)
theorem b_put (X : Bx nL cc own rm K) {c ci n k idx a : Nat} {C : String} {T : u_T} {ty0 : Nat → FieldType} {fs : List Value} {v : Value} {ty : FieldType} {ws' : va_W} (hw : Cond.fieldLink own idx (T k).1 (T k).2.1 (T k).2.2.1 ∈ lw_good) (hin : ∀ w ∈ u_ws C T n, w ∈ lw_good) (hty : ∀ k, k < n → parseFieldDescriptor (T k).2.2.1 = some (ty0 k)) (hnm : ∀ a, a < n → ∀ b, b < n → a ≠ b → (T a).2.1 ≠ (T b).2.1) (hd : decode cc pc = .ok (.putfield idx, 3)) (q : Nat) (hq : pc + 3 = q) (he : ws[c]? = some (a, .inr (ci, fs))) (hc : vwCl[ci]? = some (C, T, n)) (hk : k < n) (hfin : (T k).2.2.2 = false) (hty0 : ty0 k = ty) (hn : narrow ty v = v) (hfit : fits ty v = true) (hl : k < fs.length) (hws : ws.set c (a, .inr (ci, fs.set k v)) = ws') (kk : B nL K ws' ce sl q lv st) : B nL K ws ce sl pc lv (v :: .ref a :: st) := by
  subst hq hws hty0
  intro H locs ls hP hD hS hl2
  exact va_put X.exec X.bytes X.ts hin ty0 hty hnm X.ow X.kn hP hD hS c he hc k hk (X.ts _ hw) (fun _ h => h) hfin (hty k hk) hn hfit hl hd (fun H1 locs1 hP1 hD1 hS1 => kk H1 locs1 ls hP1 hD1 hS1 hl2)
theorem b_get (X : Bx nL cc own rm K) {c ci n k idx a : Nat} {C : String} {T : u_T} {fs : List Value} {v : Value} (hw : Cond.fieldLink own idx (T k).1 (T k).2.1 (T k).2.2.1 ∈ lw_good) (hin : ∀ w ∈ u_ws C T n, w ∈ lw_good) (hd : decode cc pc = .ok (.getfield idx, 3)) (q : Nat) (hq : pc + 3 = q) (he : ws[c]? = some (a, .inr (ci, fs))) (hc : vwCl[ci]? = some (C, T, n)) (hk : k < n) (hv : fs[k]? = some v) (kk : B nL K ws ce sl q lv (v :: st)) : B nL K ws ce sl pc lv (.ref a :: st) := by
  subst hq
  intro H locs ls hP hD hS hl2
  exact va_get X.exec X.bytes X.ts hin X.ow X.kn hP c he hc k hk (X.ts _ hw) (fun _ h => h) hv hd (kk H locs ls hP hD hS hl2)
theorem b_perm (is : List Nat) {ws' : va_W} (hs : is.filterMap (fun i => ws[i]?) = ws') (hs2 : is.map (fun i => ws[i]?) = ws'.map some) (hn : va_nd is = true) (k : B nL K ws' ce sl pc lv st) : B nL K ws ce sl pc lv st := fun H locs ls hP hD hS hl => k H locs ls (hP.sub is hs) (hD.sub is hn hs2) hS hl
theorem b_sub {lv' : List (Nat × Value)} (ks : List Nat) (hl : lv_pick lv ks = lv') (k : B nL K ws ce sl pc lv' st) : B nL K ws ce sl pc lv st := fun H locs ls hP hD hS hv => k H locs ls hP hD hS (lv_sub hv ks hl)
theorem b_eq {ws' : va_W} (e : ws = ws') (k : B nL K ws' ce sl pc lv st) : B nL K ws ce sl pc lv st := by subst e; exact k
end Br
