/-! constructors: contracts and calls -/
def PreB (D : va_G) (cs : Nat × Nat × Nat) (sz : Nat) (w0 : va_W) : State → Prop := fun U => U.heap.size = sz ∧ va_P D vwCl w0 U.heap ∧ va_K D vwCl (tysC cs) U ∧ va_D (fun _ => True) w0 ∧ (∀ w ∈ lw_nest, va_Nw w U) ∧ va_AOA .int U
def endC (D : va_G) (cs : Nat × Nat × Nat) (w1 : Nat × Nat × Nat → (Nat → Nat) → va_W) (A : Nat → Prop) : (Nat → Nat) → State → Prop := fun ad t => va_P D vwCl (w1 cs ad) t.heap ∧ va_K D vwCl (tysC cs) t ∧ va_D A (w1 cs ad)
abbrev rmB (fr lo mc ms : Nat) : Room := { frames := fr, cells := mc, slots := ms, locals := lo }
/-- a constructor: from a state that holds the world w0 it ends, and then there are addresses ad, of which post, and the world w1 -/
def cB (y : MethodName) (bs : ByteArray) (mL fr lo mc ms : Nat) (args : List Value) (w0 : va_W) (post : (Nat → Nat) → Prop) (w1 : Nat × Nat × Nat → (Nat → Nat) → va_W) : Prop :=
  ∀ (l : Launch) (D : va_G) (cs : Nat × Nat × Nat) (sz : Nat), Met l y (.code y bs mL none :: lw_good) (rmB fr lo mc ms) (va_Pc args (PreB D cs sz w0)) (va_Qv post (endC D cs w1 (va_A w0 sz)) (va_A w0 sz)) mc ms (va_A w0 sz)
def ZB (K : KT) (post : (Nat → Nat) → Prop) (w1 : Nat × Nat × Nat → (Nat → Nat) → va_W) (mc ms : Nat) : Prop := K.2.2.1.1 = MQ K.2.1.2.2.1 (va_Qv post (endC K.2.2.2.1 K.2.2.2.2.1 w1 K.2.2.2.2.2.2) K.2.2.2.2.2.2) K.2.1.2.1 K.1.2.2.2.2 mc ms K.2.2.2.2.2.2
theorem cB_of {y : MethodName} {bs : ByteArray} {mL fr lo mc ms : Nat} {args : List Value} {w0 : va_W} {post : (Nat → Nat) → Prop} {w1 : Nat × Nat × Nat → (Nat → Nat) → va_W} (hy : plainName y.cls = true) (hlen : (lg_sl args).length ≤ mL) (hin : y.name = "<init>") (body : ∀ K : KT, Bx mL bs y.cls (rmB fr lo mc ms) K → ZB K post w1 mc ms → B mL K w0 0 0 0 (lv_args 0 args) []) : cB y bs mL fr lo mc ms args w0 post w1 := by
  intro l D cs sz
  refine Met.ofW (cc := bs) (maxL := mL) (ret := none) hy rfl ?_
  intro p e s m args' below meth c s₁ Bd hml hv
  obtain ⟨rfl, hsz, hP, hK, hD, hNw, hAO⟩ := hv
  subst hsz
  have hl := lv_entry args (n := mL) hlen
  rw [lg_entry_eq]
  exact body ((p, l, e, rmB fr lo mc ms, s), (m, args.toArray, below, meth, c), (MQ below (va_Qv post (endC D cs w1 (va_A w0 s.heap.size)) (va_A w0 s.heap.size)) args.toArray s mc ms (va_A w0 s.heap.size), 0, 0), (D, cs, (fun _ => 0), va_A w0 s.heap.size)) ⟨Bd.exec, Bd.bytes, hml, findClass_of_methodNamed Bd.named, fun w hw => atoms_spec (ws := .code y bs mL none :: lw_good) Bd.pre w (List.mem_cons_of_mem _ hw), hK, fun q hq => Or.inr hq, Bd.notSynchronized, Bd.returns, rfl, hNw, ((name_of_methodNamed Bd.named Bd.method).1).trans hin, hAO⟩ rfl s.heap [] _ hP hD.self va_S.rf hl
/-- the words of a constructor's call -/
def CI (own : String) (idx : Nat) (y : MethodName) (bs : ByteArray) (mL n : Nat) (nest : Bool) : Prop :=
  (if nest then Cond.methodLinkNest own idx y "SlotTurns" ∈ lw_nest else Cond.methodLink own idx y ∈ lw_good) ∧ Cond.initialized y.cls ∈ lw_good ∧ Cond.code y bs mL none ∈ lw_good ∧ Cond.instanceMethod y ∈ lw_good ∧ (y.cls ≠ "java/lang/invoke/MethodHandle" ∧ y.cls ≠ "java/lang/invoke/VarHandle" ∧ (parseMethodDescriptor y.desc).map (fun d => d.parameters.length) = some n) ∧ y.name = "<init>"
section Bc
variable {nL : Nat} {cc : ByteArray} {own : String} {rm : Room} {K : KT} {ws : va_W} {ce sl pc : Nat} {lv : List (Nat × Value)} {st : List Value}
theorem b_ret (X : Bx nL cc own rm K) {post : (Nat → Nat) → Prop} {w1 : Nat × Nat × Nat → (Nat → Nat) → va_W} (Z : ZB K post w1 ce sl) (hd : decode cc pc = .ok (.return_, 1)) (ad : Nat → Nat) (hp : post ad) (hws : ws = w1 K.2.2.2.2.1 ad) : B nL K ws ce sl pc lv [] := by
  subst hws
  intro H locs ls hP hD hS hl
  show W _ _ _ _ _ _ _ _ _ _ _ _ ce sl K.2.2.1.1 _
  rw [Z]
  exact W.vret X.exec X.bytes X.ret (fun t ht hW => ⟨⟨ad, rfl, hp, by rw [ht]; exact hP, va_K.moved hW.alike X.kn, hD⟩, hS.F ht⟩) hS.2.2 hd X.nolock
theorem b_init (X : Bx nL cc own rm K) {idx : Nat} {y : MethodName} {bs : ByteArray} {mL n fr2 lo2 mc ms a : Nat} {nest : Bool} {As st0 : List Value} {w0 wr : va_W} {post : (Nat → Nat) → Prop} {w1 : Nat × Nat × Nat → (Nat → Nat) → va_W} (cw : CI own idx y bs mL n nest) (hM : cB y bs mL fr2 lo2 mc ms (.ref a :: As) w0 post w1) (hd : decode cc pc = .ok (.invokespecial idx, 3)) (q : Nat) (hq : pc + 3 = q) (isC isR : List Nat) (hC : isC.map (fun i => ws[i]?) = w0.map some) (hC2 : isC.filterMap (fun i => ws[i]?) = w0) (hnC : va_nd isC = true) (hR : isR.map (fun i => ws[i]?) = wr.map some) (hnR : va_nd isR = true) (hdis : ∀ i ∈ isR, i ∉ isC) (hAs : As.length = n) (hst : st0 = As.reverse ++ .ref a :: st) (hr : fr2 + 1 ≤ rm.frames ∧ 19 + mL + lo2 ≤ rm.locals) (hc1 : ce + mc ≤ rm.cells) (hc2 : sl + ms ≤ rm.slots) (hcat : (st.map fun v => v.category).sum ≤ 8) (k : ∀ ad, post ad → B nL K (wr ++ w1 K.2.2.2.2.1 ad) (ce + mc) (sl + ms) q lv st) : B nL K ws ce sl pc lv st0 := by
  subst hq hst
  intro H locs ls hP hD hS hl
  obtain ⟨h1, h2, h3, h4, h5, h6⟩ := cw
  have hPc := hP.sub isC hC2
  have hDc := hD.sub isC hnC hC
  have hF := va_free hD hS X.al isC hC
  have hM1 := hM K.1.2.1 K.2.2.2.1 K.2.2.2.2.1 H.size
  have hG : GoodIn lw_good (.code y bs mL none :: lw_good) := fun w hw => by
    rcases List.mem_cons.mp hw with rfl | hw
    · exact tb_good _ h3
    · exact tb_good _ hw
  have hR2 : (rmB fr2 lo2 mc ms).frames + 1 ≤ K.1.2.2.2.1.frames ∧ 8 + (mL + 11) + (rmB fr2 lo2 mc ms).locals ≤ K.1.2.2.2.1.locals := by
    rw [X.room]
    show fr2 + 1 ≤ rm.frames ∧ 8 + (mL + 11) + lo2 ≤ rm.locals
    omega
  have hpre : PreS K.1.2.2.2.2 H (va_Pc (.ref a :: As) (PreB K.2.2.2.1 K.2.2.2.2.1 H.size w0)) (.ref a :: As) := by
    refine ⟨fun a U g mk q => ?_, fun U hU hW => ⟨rfl, by rw [hU], by rw [hU]; exact hPc, va_K.moved hW.alike X.kn, hDc.weaken (fun _ _ _ _ => trivial), nest_warm hW X.nw, va_AOA.moved hW.alike X.ao⟩⟩
    obtain ⟨q0, q1, qP, qK, qD, qN, qA⟩ := q
    exact ⟨q0, q1, qP, va_K.moved (u := U) (U := U.calling g mk a) (Vm.Alike.refl U.vm) qK, qD, nest_same (u := U) (U := U.calling g mk a) rfl qN, va_AOA.moved (u := U) (U := U.calling g mk a) (Vm.Alike.refl U.vm) qA⟩
  have hfit : ce + mc ≤ K.1.2.2.2.1.cells ∧ sl + ms ≤ K.1.2.2.2.1.slots := by
    rw [X.room]; exact ⟨hc1, hc2⟩
  have hrun : va_Run K.1.1 K.1.2.1 K.1.2.2.1 K.1.2.2.2.1 K.1.2.2.2.2 K.2.1.1 K.2.1.2.1 K.2.1.2.2.1 K.2.1.2.2.2.1 K.2.1.2.2.2.2 H locs ce sl mc ms (F0 K.2.1.1 pc ls (As.reverse ++ .ref a :: st)) st (va_Qv post (endC K.2.2.2.1 K.2.2.2.2.1 w1 (va_A w0 H.size)) (va_A w0 H.size) (Value.ref a :: As).toArray) (va_A w0 H.size) := by
    cases nest with
    | false =>
      rw [if_neg (by decide)] at h1
      exact va_runI (nL := nL) (own := own) (Ts := lw_good) ⟨X.exec, X.bytes, X.maxL, X.ow, X.ts⟩ hM1 ⟨callB_of n X.ts hG rfl rfl rfl (X.ts _ h2) (X.ts _ h1) h5 hR2, h6, X.ts _ h4⟩ hpre rfl hAs hl.1 rfl (lv_room hcat) hd hfit
    | true =>
      rw [if_pos rfl] at h1
      exact va_runIN (nL := nL) (own := own) (Ts := lw_good) ⟨X.exec, X.bytes, X.maxL, X.ow, X.ts⟩ hM1 ⟨va_cnB n X.ts hG rfl rfl rfl (X.nw _ h1) (X.ts _ h2) h5 hR2, h6, X.ts _ h4⟩ hpre rfl hAs hl.1 rfl (lv_room hcat) hd hfit
  refine va_callv hrun hS (fun q _ z => hF q z) hF (fun ad t H1 locs1 ht hvm hw hB hz1 hk1 hS1 => ?_)
  obtain ⟨hP1, hK1, hD1⟩ := hB
  rw [ht] at hP1
  obtain ⟨hP2, hD2⟩ := va_join (wr := wr) (w1 := w1 K.2.2.2.2.1 ad) hP hD isC isR hC hR hnR hdis hk1 hF hP1 hD1
  exact k ad hw H1 locs1 ls hP2 hD2 hS1 hl
/-- the same frame, where the cells that there are keep their kinds -/
abbrev KG (K : KT) (ce sl : Nat) (ad : Nat → Nat) : KT := (K.1, K.2.1, (K.2.2.1.1, ce, sl), (K.2.2.2.1, K.2.2.2.2.1, ad, K.2.2.2.2.2.2))
theorem b_toG {N : Nat} {L : Nat → KD} (hLW : LWb N L = true) (X : Bx nL cc own rm K) (h : Mem) (ad : Nat → Nat) (hws : ws = wd N L K.2.2.2.2.1 ad h) (hce : ce ≤ rm.cells) (hsl : sl ≤ rm.slots) (k : Cx N L nL cc own none rm.frames rm.locals (KG K ce sl ad) → G N L nL (KG K ce sl ad) h pc lv st) : B nL K ws ce sl pc lv st := by
  subst hws
  intro H locs ls hP hD hS hl
  exact k ⟨X.exec, X.bytes, X.maxL, X.ow, X.ts, X.kn, fun h' => wd_D hD (fun c hc => hD.2 c _ (wd_get hc)) h', X.al, hLW, X.nolock, X.ret, by show K.1.2.2.2.1.frames = rm.frames; rw [X.room], by show K.1.2.2.2.1.locals = rm.locals; rw [X.room], by show ce ≤ K.1.2.2.2.1.cells; rw [X.room]; exact hce, by show sl ≤ K.1.2.2.2.1.slots; rw [X.room]; exact hsl, X.nw⟩ H locs ls hP hS hl
theorem g_toB {N : Nat} {L : Nat → KD} {rt : Option FieldType} {fr lo : Nat} {h : Mem} {ad : Nat → Nat} (X : Cx N L nL cc own rt fr lo (KG K ce sl ad)) (k : B nL K (wd N L K.2.2.2.2.1 ad h) ce sl pc lv st) : G N L nL (KG K ce sl ad) h pc lv st := fun H locs ls hP hS hl => k H locs ls hP (X.dd h) hS hl
end Bc
