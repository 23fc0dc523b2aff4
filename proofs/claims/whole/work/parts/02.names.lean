/-- an array class over T[] stands in the tables -/
def va_AOA (ty : FieldType) (U : State) : Prop := (Cond.arrayOver (.array ty)).before #[] U = true
theorem va_AOA.use {ty : FieldType} {A : Array Value} {U : State} (h : va_AOA ty U) : (Cond.arrayOver (.array ty)).before A U = true := h
/-! ===== BEGIN new T[n][m]: the outer array a place, the inner ones among the pooled ===== -/
/-- f, but v at every address of l -/
def vr_up {α : Type} (f : Nat → α) (l : List Nat) (v : α) : Nat → α := fun a => if a ∈ l then v else f a
theorem vr_up_in {α : Type} {f : Nat → α} {l : List Nat} {v : α} {a : Nat} (h : a ∈ l) : vr_up f l v a = v := if_pos h
theorem vr_up_ne {α : Type} {f : Nat → α} {l : List Nat} {v : α} {a : Nat} (h : a ∉ l) : vr_up f l v a = f a := if_neg h
theorem vr_rows {L l : List Nat} {f : Nat → va_E} {e : va_E} (h : ∀ a, a ∈ l → a ∉ L) : va_pl L f ++ l.map (fun a => (a, e)) = va_pl (L ++ l) (vr_up f l e) := by
  unfold va_pl
  rw [List.map_append]
  congr 1
  · apply List.map_congr_left
    intro a ha
    rw [vr_up_ne (fun q => h a q ha)]
  · apply List.map_congr_left
    intro a ha
    rw [vr_up_in ha]
theorem vr_lay {X rows : va_W} {x : Nat × va_E} {pl : va_W} {D : va_G} {cl : List vw_C} {H : Heap} (hP : va_P D cl (((X ++ pl) ++ [x]) ++ rows) H) : va_P D cl ((X ++ [x]) ++ (pl ++ rows)) H := by
  rw [List.append_assoc (X ++ pl)] at hP
  have h := va_P.swap hP
  rw [← List.append_assoc X] at h
  have h2 := va_P.swap h
  rw [List.append_assoc (X ++ [x])] at h2
  exact h2
theorem vr_layD {X rows : va_W} {x : Nat × va_E} {pl : va_W} {A : Nat → Prop} (hD : va_D A (((X ++ pl) ++ [x]) ++ rows)) : va_D A ((X ++ [x]) ++ (pl ++ rows)) := by
  rw [List.append_assoc (X ++ pl)] at hD
  have h := va_D.swap hD
  rw [← List.append_assoc X] at h
  have h2 := va_D.swap h
  rw [List.append_assoc (X ++ [x])] at h2
  exact h2
theorem vr_outer (c : ClassId) (N h0 : Nat) : ∀ i : Nat, Jvm.Free.Multi.outerC c N h0 i = arrV c N (fun j => va_rf (if j < i then some (h0 + 1 + j) else none))
  | 0 => by
    show ({ cls := c, slots := Array.replicate N .null, vm := .none } : Cell) = _
    rw [arrV_new]
    refine congrArg (arrV c N) (funext fun j => ?_)
    simp [va_rf]
  | i + 1 => by
    show (Jvm.Free.Multi.outerC c N h0 i).setSlot i (.ref (h0 + 1 + i)) = _
    rw [vr_outer c N h0 i, arrV_store]
    refine congrArg (arrV c N) (funext fun j => ?_)
    by_cases e : j = i
    · subst e
      simp [updV, va_rf]
    · by_cases h : j < i
      · simp [updV, e, h, Nat.lt_succ_of_lt h]
      · simp [updV, e, h, show ¬ j < i + 1 by omega]
section VGM
variable {p : Program} {l : Launch} {e : Env} {R : Room} {s : State} {m : MethodId} {args : Array Value} {below : List Frame} {meth : Method} {c : Code} {H : Heap} {locs : List Loc} {cells slots : Nat} {Q : State → Prop}
variable {cc : ByteArray} {pc : Nat} {ls : Array Slot} {rest : List Value} {D : va_G} {cl : List vw_C} {A : Nat → Prop} {a : Nat} {tys : List (ClassId × FieldType)} {ws : va_W} {H0 : Heap}
theorem va_mna {X : va_W} {L : List Nat} {f : Nat → va_E} {cc : ByteArray} (hexec : p.tables.exec = Jvm.exec) (hb : c.code = cc) {own : String} {index : Nat} {ty : FieldType} {cy : ClassId} (hown : s.vm.findClass own = some m.cls) (hclink : (Cond.classLink own index ("[" ++ (FieldType.array ty).toString)).before args s = true) (hover : va_AOA ty s) (harr : (Cond.arrayClass ty).before args s = true) (hcy : s.vm.findClass (FieldType.array ty).toString = some cy)
    (hK : va_K D cl tys s) (hP : va_P D cl (X ++ va_pl L f) H) (hD : va_D A (X ++ va_pl L f)) (hS : va_S A H0 H locs) (hA : ∀ q, H0.size ≤ q → A q) {n k : Int32} {N' K' : Nat} {z : vp_A} (hn : ¬ n < 0) (hk : ¬ k < 0) (hN : n.toNatClampNeg = N') (hM : k.toNatClampNeg = K')
    (hb1 : N' * 4 ≤ 536870912) (hb2 : K' * componentBytes ty ≤ 536870912) (hb3 : K' ≤ 536870912) (hdf : fits ty (defaultValue ty) = true) (hdd : (defaultValue ty).isDefault = true) (hcells : cells + (1 + N') ≤ R.cells) (hslots : slots + (N' + N' * K') ≤ R.slots) (hz : ∀ c : ClassId, Jvm.Free.Multi.innerC c K' (defaultValue ty) = vp_cell c z) (hdg : decode cc pc = .ok (.multianewarray index 2, 4))
    (kk : ∀ (q : Nat) (r : Nat → Nat) (cA : ClassId) (H1 : Heap), (∀ i j : Nat, i < N' → j < N' → r i = r j → i = j) → (∀ i : Nat, i < N' → r i ∉ L) → va_K D cl (tys ++ [(cA, .array ty)]) s →
      va_P D cl ((X ++ [(q, .inl (cA, N', .inr (.inr (.inr (.inr (fun i => if i < N' then some (r i) else none))))))]) ++ va_pl (L ++ (List.range N').map r) (vr_up f ((List.range N').map r) (.inl (cy, z)))) H1 → va_D A ((X ++ [(q, .inl (cA, N', .inr (.inr (.inr (.inr (fun i => if i < N' then some (r i) else none))))))]) ++ va_pl (L ++ (List.range N').map r) (vr_up f ((List.range N').map r) (.inl (cy, z)))) → va_S A H0 H1 locs →
      W p l e R s m args below meth c H1 locs (cells + 1 + N') (slots + N' + N' * K') Q (F0 m (pc + 4) ls (.ref q :: rest))) : W p l e R s m args below meth c H locs cells slots Q (F0 m pc ls (.int k :: .int n :: rest)) := by
  subst hN
  subst hM
  intro T hT Xs
  obtain ⟨vm₁, cA, comp, -, fA, fC, hO, -, X', step⟩ := Xs.multianewarray2F hexec hown hclink (va_AOA.use hover) harr (g := F0 m pc ls (.int k :: .int n :: rest)) rfl (by rw [hb]; exact hdg) rfl hn hk hb1 hb2 hb3 hdf hdd hcells hslots
  have ec : some cy = some comp := hcy.symm.trans fC
  cases ec
  generalize hF : Jvm.Free.Multi.fill (T.setVm vm₁) cA cy n.toNatClampNeg k.toNatClampNeg (defaultValue ty) n.toNatClampNeg = F at X' step
  have hTh : (T.setVm vm₁).heap = H := hT
  obtain ⟨f1, f2, -, -⟩ := Jvm.Free.Multi.fill_facts (T.setVm vm₁) cA cy n.toNatClampNeg k.toNatClampNeg (defaultValue ty) n.toNatClampNeg
  rw [hF, hTh] at f1 f2
  have hold : ∀ x : Nat, x < H.size → F.heap[x]? = H[x]? := fun x hx => by
    have := Jvm.Free.Multi.fill_old (T.setVm vm₁) cA cy n.toNatClampNeg k.toNatClampNeg (defaultValue ty) (a := x) (by rw [hTh]; exact hx) n.toNatClampNeg
    rw [hF, hTh] at this
    exact this
  have hrow : ∀ j : Nat, j < n.toNatClampNeg → F.heap[H.size + 1 + j]? = some (vp_cell cy z) := fun j hj => by
    have := Jvm.Free.Multi.fill_inner (T.setVm vm₁) cA cy n.toNatClampNeg k.toNatClampNeg (defaultValue ty) n.toNatClampNeg j hj
    rw [hF, hTh, hz] at this
    exact this
  have hout : Jvm.Free.Multi.outerC cA n.toNatClampNeg H.size n.toNatClampNeg = vp_cell cA (n.toNatClampNeg, .inr (.inr (.inr (.inr (fun i => if i < n.toNatClampNeg then some (H.size + 1 + i) else none))))) := by
    rw [vp_cell_q]
    exact vr_outer cA n.toNatClampNeg H.size n.toNatClampNeg
  rw [hout] at f2
  have hlt : ∀ a, a ∈ L → a < H.size := fun a ha => by
    obtain ⟨k9, hk9⟩ := va_pl_get (X := X) (f := f) ha
    exact (hP k9 _ hk9).lt
  have hnl : ∀ i : Nat, i < n.toNatClampNeg → H.size + 1 + i ∉ L := fun i _ h => by
    have := hlt _ h
    omega
  have hnm : ∀ a, a ∈ (List.range n.toNatClampNeg).map (fun i => H.size + 1 + i) → a ∉ L := fun a ha h => by
    obtain ⟨i, -, rfl⟩ := List.mem_map.mp ha
    have := hlt _ h
    omega
  have hP0 : va_P D cl (X ++ va_pl L f) F.heap := hP.kept (fun k9 x hx => hold x.1 ((hP k9 x hx).lt))
  have hP1 : va_P D cl ((X ++ va_pl L f) ++ [(H.size, .inl (cA, n.toNatClampNeg, .inr (.inr (.inr (.inr (fun i => if i < n.toNatClampNeg then some (H.size + 1 + i) else none))))))]) F.heap := hP0.app (fun k9 x hx => by
    have h0 : k9 < 1 := (List.getElem?_eq_some_iff.mp hx).1
    rw [show k9 = 0 by omega] at hx
    cases hx
    exact f2)
  have hP2 : va_P D cl (((X ++ va_pl L f) ++ [(H.size, .inl (cA, n.toNatClampNeg, .inr (.inr (.inr (.inr (fun i => if i < n.toNatClampNeg then some (H.size + 1 + i) else none))))))]) ++ ((List.range n.toNatClampNeg).map (fun i => H.size + 1 + i)).map (fun a => (a, .inl (cy, z)))) F.heap := hP1.app (fun k9 x hx => by
    obtain ⟨a, ha, rfl⟩ := List.mem_map.mp (List.mem_of_getElem? hx)
    obtain ⟨i, hi, rfl⟩ := List.mem_map.mp ha
    exact hrow i (List.mem_range.mp hi))
  have hD2 : va_D A (((X ++ va_pl L f) ++ [(H.size, .inl (cA, n.toNatClampNeg, .inr (.inr (.inr (.inr (fun i => if i < n.toNatClampNeg then some (H.size + 1 + i) else none))))))]) ++ ((List.range n.toNatClampNeg).map (fun i => H.size + 1 + i)).map (fun a => (a, .inl (cy, z)))) := by
    have hD1 := hD.push (e := .inl (cA, n.toNatClampNeg, .inr (.inr (.inr (.inr (fun i => if i < n.toNatClampNeg then some (H.size + 1 + i) else none)))))) hP rfl (hA _ hS.1)
    generalize hW1 : (X ++ va_pl L f) ++ [(H.size, .inl (cA, n.toNatClampNeg, .inr (.inr (.inr (.inr (fun i => if i < n.toNatClampNeg then some (H.size + 1 + i) else none))))))] = W1 at hD1 hP1 ⊢
    have hle : ∀ (k9 : Nat) (x : Nat × va_E), W1[k9]? = some x → x.1 ≤ H.size := fun k9 x hx => by
      rw [← hW1] at hx
      by_cases hl : k9 < (X ++ va_pl L f).length
      · rw [List.getElem?_append_left hl] at hx
        exact Nat.le_of_lt ((hP k9 x hx).lt)
      · rw [List.getElem?_append_right (by omega)] at hx
        have h0 : k9 - (X ++ va_pl L f).length < 1 := (List.getElem?_eq_some_iff.mp hx).1
        rw [show k9 - (X ++ va_pl L f).length = 0 by omega] at hx
        cases hx
        exact Nat.le_refl _
    have hr : ∀ (k9 : Nat) (x : Nat × va_E), (((List.range n.toNatClampNeg).map (fun i => H.size + 1 + i)).map (fun a => ((a, .inl (cy, z)) : Nat × va_E)))[k9]? = some x → x.1 = H.size + 1 + k9 := fun k9 x hx => by
      rw [List.getElem?_map, List.getElem?_map] at hx
      by_cases h9 : k9 < n.toNatClampNeg
      · rw [List.getElem?_range h9] at hx
        cases hx
        rfl
      · have hn0 : (List.range n.toNatClampNeg)[k9]? = none := List.getElem?_eq_none (by rw [List.length_range]; omega)
        rw [hn0] at hx
        cases hx
    refine ⟨fun i j x y hi hj hxy => ?_, fun k9 x hx => ?_⟩
    · by_cases h1 : i < W1.length <;> by_cases h2 : j < W1.length
      · rw [List.getElem?_append_left h1] at hi
        rw [List.getElem?_append_left h2] at hj
        exact hD1.1 i j x y hi hj hxy
      · rw [List.getElem?_append_left h1] at hi
        rw [List.getElem?_append_right (by omega)] at hj
        have := hle _ _ hi
        have := hr _ _ hj
        omega
      · rw [List.getElem?_append_right (by omega)] at hi
        rw [List.getElem?_append_left h2] at hj
        have := hle _ _ hj
        have := hr _ _ hi
        omega
      · rw [List.getElem?_append_right (by omega)] at hi hj
        have := hr _ _ hi
        have := hr _ _ hj
        omega
    · by_cases h1 : k9 < W1.length
      · rw [List.getElem?_append_left h1] at hx
        exact hD1.2 k9 x hx
      · rw [List.getElem?_append_right (by omega)] at hx
        have := hr _ _ hx
        exact hA _ (by have := hS.1; omega)
  have hAr : ArrOfT s cA (.array ty) := fun N9 z9 => by
    obtain ⟨-, k9, hk9, cm9, hkk9⟩ := (hO 0 0 0).1
    exact ⟨(fun q hq => by cases hq), k9, hk9, cm9, hkk9⟩
  have hK2 : va_K D cl (tys ++ [(cA, .array ty)]) s := ⟨hK.1, fun k9 x hx => by
    by_cases hl : k9 < tys.length
    · rw [List.getElem?_append_left hl] at hx
      exact hK.2 k9 x hx
    · rw [List.getElem?_append_right (by omega)] at hx
      have h0 : k9 - tys.length < 1 := (List.getElem?_eq_some_iff.mp hx).1
      rw [show k9 - tys.length = 0 by omega] at hx
      cases hx
      exact ⟨hAr, fA⟩⟩
  obtain ⟨t, a1, b1⟩ := kk H.size (fun i => H.size + 1 + i) cA F.heap (fun i j _ _ h => by have h9 : H.size + 1 + i = H.size + 1 + j := h; omega) hnl hK2 (by rw [← vr_rows hnm]; exact vr_lay hP2) (by rw [← vr_rows hnm]; exact vr_layD hD2) ⟨by rw [f1]; have := hS.1; omega, fun x h1 h2 => (hold x (Nat.lt_of_lt_of_le h1 hS.1)).trans (hS.2.1 x h1 h2), hS.2.2⟩ F rfl X'
  refine ⟨t, step t ?_, b1⟩
  have e : T.heap.size = H.size := by rw [hT]
  rw [e]
  exact a1
end VGM
/-! ===== END ===== -/

def RX0 : String := "SlotTurns$CoilList"
def TX0 : u_T := fun k => match k with
  | 0 => ("SlotTurns$CoilList", "machine", "LSlotTurns$Motor;", true)
  | 1 => ("SlotTurns$CoilList", "size", "I", false)
  | 2 => ("SlotTurns$CoilList", "phase", "[I", true)
  | 3 => ("SlotTurns$CoilList", "in", "[I", true)
  | 4 => ("SlotTurns$CoilList", "out", "[I", true)
  | 5 => ("SlotTurns$CoilList", "turns", "[I", true)
  | 6 => ("SlotTurns$CoilList", "used", "[Z", true)
  | _ => ("SlotTurns$CoilList", "sidesIn", "[I", true)
def tyX0 : Nat → FieldType := fun k => match k with
  | 0 => .object "SlotTurns$Motor"
  | 1 => .int
  | 2 => .array .int
  | 3 => .array .int
  | 4 => .array .int
  | 5 => .array .int
  | 6 => .array .boolean
  | _ => .array .int
theorem nmX0 : ∀ a, a < 8 → ∀ b, b < 8 → a ≠ b → (TX0 a).2.1 ≠ (TX0 b).2.1 := by decide +kernel
theorem tyX0_ok : ∀ k, k < 8 → parseFieldDescriptor (TX0 k).2.2.1 = some (tyX0 k) := by decide +kernel
abbrev cX0_init : ByteArray := prog_2_method_1_code
def yX0_init : MethodName := ⟨RX0, "<init>", "(LSlotTurns$Motor;)V"⟩
abbrev cX0_has : ByteArray := prog_2_method_2_code
def yX0_has : MethodName := ⟨RX0, "has", "(I)Z"⟩
abbrev cX0_lay : ByteArray := prog_2_method_3_code
def yX0_lay : MethodName := ⟨RX0, "lay", "(IIII)I"⟩
abbrev cX0_keepFirst : ByteArray := prog_2_method_4_code
def yX0_keepFirst : MethodName := ⟨RX0, "keepFirst", "(I)V"⟩
abbrev cX0_inUse : ByteArray := prog_2_method_5_code
def yX0_inUse : MethodName := ⟨RX0, "inUse", "()I"⟩
abbrev cX0_isUsedIn : ByteArray := prog_2_method_6_code
def yX0_isUsedIn : MethodName := ⟨RX0, "isUsedIn", "(II)Z"⟩
abbrev cX0_gather : ByteArray := prog_2_method_7_code
def yX0_gather : MethodName := ⟨RX0, "gather", "(I[I)I"⟩
def RX1 : String := "SlotTurns$Motor"
def TX1 : u_T := fun k => match k with
  | 0 => ("SlotTurns$Motor", "slots", "I", false)
  | 1 => ("SlotTurns$Motor", "poles", "I", false)
  | _ => ("SlotTurns$Motor", "phases", "I", false)
def tyX1 : Nat → FieldType := fun k => match k with
  | 0 => .int
  | 1 => .int
  | _ => .int
theorem nmX1 : ∀ a, a < 3 → ∀ b, b < 3 → a ≠ b → (TX1 a).2.1 ≠ (TX1 b).2.1 := by decide +kernel
theorem tyX1_ok : ∀ k, k < 3 → parseFieldDescriptor (TX1 k).2.2.1 = some (tyX1 k) := by decide +kernel
abbrev cX1_init : ByteArray := prog_3_method_1_code
def yX1_init : MethodName := ⟨RX1, "<init>", "()V"⟩
abbrev cX1_hasSlot : ByteArray := prog_3_method_2_code
def yX1_hasSlot : MethodName := ⟨RX1, "hasSlot", "(I)Z"⟩
abbrev cX1_hasPhase : ByteArray := prog_3_method_3_code
def yX1_hasPhase : MethodName := ⟨RX1, "hasPhase", "(I)Z"⟩
abbrev cX1_between : ByteArray := prog_3_method_4_code
def yX1_between : MethodName := ⟨RX1, "between", "(II)I"⟩
abbrev cX1_beltOf : ByteArray := prog_3_method_5_code
def yX1_beltOf : MethodName := ⟨RX1, "beltOf", "(I)I"⟩
abbrev cX1_phaseOf : ByteArray := prog_3_method_6_code
def yX1_phaseOf : MethodName := ⟨RX1, "phaseOf", "(I)I"⟩
abbrev cX1_isTurnedRound : ByteArray := prog_3_method_7_code
def yX1_isTurnedRound : MethodName := ⟨RX1, "isTurnedRound", "(I)Z"⟩
abbrev cX1_isEven : ByteArray := prog_3_method_8_code
def yX1_isEven : MethodName := ⟨RX1, "isEven", "()Z"⟩
def RX2 : String := "SlotTurns$Picker"
def TX2 : u_T := fun k => match k with
  | 0 => ("SlotTurns$Picker", "machine", "LSlotTurns$Motor;", true)
  | 1 => ("SlotTurns$Picker", "list", "LSlotTurns$CoilList;", true)
  | 2 => ("SlotTurns$Picker", "waves", "LSlotTurns$Waves;", true)
  | 3 => ("SlotTurns$Picker", "latestSize", "I", false)
  | 4 => ("SlotTurns$Picker", "latest", "[I", true)
  | _ => ("SlotTurns$Picker", "trial", "[I", true)
def tyX2 : Nat → FieldType := fun k => match k with
  | 0 => .object "SlotTurns$Motor"
  | 1 => .object "SlotTurns$CoilList"
  | 2 => .object "SlotTurns$Waves"
  | 3 => .int
  | 4 => .array .int
  | _ => .array .int
theorem nmX2 : ∀ a, a < 6 → ∀ b, b < 6 → a ≠ b → (TX2 a).2.1 ≠ (TX2 b).2.1 := by decide +kernel
theorem tyX2_ok : ∀ k, k < 6 → parseFieldDescriptor (TX2 k).2.2.1 = some (tyX2 k) := by decide +kernel
abbrev cX2_init : ByteArray := prog_4_method_1_code
def yX2_init : MethodName := ⟨RX2, "<init>", "(LSlotTurns$Motor;LSlotTurns$CoilList;LSlotTurns$Waves;)V"⟩
abbrev cX2_fewestToMend : ByteArray := prog_4_method_2_code
def yX2_fewestToMend : MethodName := ⟨RX2, "fewestToMend", "()I"⟩
abbrev cX2_pickToMend : ByteArray := prog_4_method_3_code
def yX2_pickToMend : MethodName := ⟨RX2, "pickToMend", "(III)Z"⟩
abbrev cX2_fewestShort : ByteArray := prog_4_method_4_code
def yX2_fewestShort : MethodName := ⟨RX2, "fewestShort", "(II)I"⟩
abbrev cX2_turnsOf : ByteArray := prog_4_method_5_code
def yX2_turnsOf : MethodName := ⟨RX2, "turnsOf", "(I)I"⟩
abbrev cX2_pickShort : ByteArray := prog_4_method_6_code
def yX2_pickShort : MethodName := ⟨RX2, "pickShort", "(IIIII)Z"⟩
abbrev cX2_keep : ByteArray := prog_4_method_7_code
def yX2_keep : MethodName := ⟨RX2, "keep", "(I)I"⟩
def RX3 : String := "SlotTurns$Roots"
def TX3 : u_T := fun k => match k with
  | 0 => ("SlotTurns$Roots", "order", "I", false)
  | 1 => ("SlotTurns$Roots", "degree", "I", false)
  | 2 => ("SlotTurns$Roots", "polynomial", "[I", true)
  | _ => ("SlotTurns$Roots", "powers", "[[I", true)
def tyX3 : Nat → FieldType := fun k => match k with
  | 0 => .int
  | 1 => .int
  | 2 => .array .int
  | _ => .array (.array .int)
theorem nmX3 : ∀ a, a < 4 → ∀ b, b < 4 → a ≠ b → (TX3 a).2.1 ≠ (TX3 b).2.1 := by decide +kernel
theorem tyX3_ok : ∀ k, k < 4 → parseFieldDescriptor (TX3 k).2.2.1 = some (tyX3 k) := by decide +kernel
abbrev cX3_init : ByteArray := prog_5_method_1_code
def yX3_init : MethodName := ⟨RX3, "<init>", "()V"⟩
abbrev cX3_raiseTo : ByteArray := prog_5_method_2_code
def yX3_raiseTo : MethodName := ⟨RX3, "raiseTo", "(I)V"⟩
abbrev cX3_layPolynomial : ByteArray := prog_5_method_3_code
def yX3_layPolynomial : MethodName := ⟨RX3, "layPolynomial", "()V"⟩
abbrev cX3_multiply : ByteArray := prog_5_method_4_code
def yX3_multiply : MethodName := ⟨RX3, "multiply", "(I)V"⟩
abbrev cX3_divide : ByteArray := prog_5_method_5_code
def yX3_divide : MethodName := ⟨RX3, "divide", "(I)V"⟩
abbrev cX3_signOf : ByteArray := prog_5_method_6_code
def yX3_signOf : MethodName := ⟨RX3, "signOf", "(I)I"⟩
abbrev cX3_layPowers : ByteArray := prog_5_method_7_code
def yX3_layPowers : MethodName := ⟨RX3, "layPowers", "()V"⟩
abbrev cX3_setToOne : ByteArray := prog_5_method_8_code
def yX3_setToOne : MethodName := ⟨RX3, "setToOne", "([I)V"⟩
abbrev cX3_turnByOne : ByteArray := prog_5_method_9_code
def yX3_turnByOne : MethodName := ⟨RX3, "turnByOne", "([I)V"⟩
abbrev cX3_add : ByteArray := prog_5_method_10_code
def yX3_add : MethodName := ⟨RX3, "add", "([III)V"⟩
abbrev cX3_isNought : ByteArray := prog_5_method_11_code
def yX3_isNought : MethodName := ⟨RX3, "isNought", "([I)Z"⟩
abbrev cX3_areSame : ByteArray := prog_5_method_12_code
def yX3_areSame : MethodName := ⟨RX3, "areSame", "([I[I)Z"⟩
def RX4 : String := "SlotTurns$Sheets"
def TX4 : u_T := fun k => match k with
  | 0 => ("SlotTurns$Sheets", "laneOf", "[I", true)
  | 1 => ("SlotTurns$Sheets", "sizeOf", "[I", true)
  | _ => ("SlotTurns$Sheets", "items", "[[I", true)
def tyX4 : Nat → FieldType := fun k => match k with
  | 0 => .array .int
  | 1 => .array .int
  | _ => .array (.array .int)
theorem nmX4 : ∀ a, a < 3 → ∀ b, b < 3 → a ≠ b → (TX4 a).2.1 ≠ (TX4 b).2.1 := by decide +kernel
theorem tyX4_ok : ∀ k, k < 3 → parseFieldDescriptor (TX4 k).2.2.1 = some (tyX4 k) := by decide +kernel
abbrev cX4_init : ByteArray := prog_6_method_1_code
def yX4_init : MethodName := ⟨RX4, "<init>", "()V"⟩
abbrev cX4_hasPlace : ByteArray := prog_6_method_2_code
def yX4_hasPlace : MethodName := ⟨RX4, "hasPlace", "(II)Z"⟩
abbrev cX4_isMissing : ByteArray := prog_6_method_3_code
def yX4_isMissing : MethodName := ⟨RX4, "isMissing", "(I)Z"⟩
abbrev cX4_refusalOf : ByteArray := prog_6_method_4_code
def yX4_refusalOf : MethodName := ⟨RX4, "refusalOf", "(IIII)I"⟩
abbrev cX4_renew : ByteArray := prog_6_method_5_code
def yX4_renew : MethodName := ⟨RX4, "renew", "(III)V"⟩
abbrev cX4_empty : ByteArray := prog_6_method_6_code
def yX4_empty : MethodName := ⟨RX4, "empty", "(I)I"⟩
abbrev cX4_put : ByteArray := prog_6_method_7_code
def yX4_put : MethodName := ⟨RX4, "put", "(III)V"⟩
def RX5 : String := "SlotTurns$TourFinder"
def TX5 : u_T := fun k => match k with
  | 0 => ("SlotTurns$TourFinder", "list", "LSlotTurns$CoilList;", true)
  | 1 => ("SlotTurns$TourFinder", "latestSize", "I", false)
  | 2 => ("SlotTurns$TourFinder", "latest", "[I", true)
  | 3 => ("SlotTurns$TourFinder", "stops", "[I", true)
  | 4 => ("SlotTurns$TourFinder", "size", "I", false)
  | 5 => ("SlotTurns$TourFinder", "least", "I", false)
  | 6 => ("SlotTurns$TourFinder", "order", "[I", true)
  | _ => ("SlotTurns$TourFinder", "isTaken", "[Z", true)
def tyX5 : Nat → FieldType := fun k => match k with
  | 0 => .object "SlotTurns$CoilList"
  | 1 => .int
  | 2 => .array .int
  | 3 => .array .int
  | 4 => .int
  | 5 => .int
  | 6 => .array .int
  | _ => .array .boolean
theorem nmX5 : ∀ a, a < 8 → ∀ b, b < 8 → a ≠ b → (TX5 a).2.1 ≠ (TX5 b).2.1 := by decide +kernel
theorem tyX5_ok : ∀ k, k < 8 → parseFieldDescriptor (TX5 k).2.2.1 = some (tyX5 k) := by decide +kernel
abbrev cX5_init : ByteArray := prog_7_method_1_code
def yX5_init : MethodName := ⟨RX5, "<init>", "(LSlotTurns$CoilList;)V"⟩
abbrev cX5_shortest : ByteArray := prog_7_method_2_code
def yX5_shortest : MethodName := ⟨RX5, "shortest", "(I)I"⟩
abbrev cX5_goOn : ByteArray := prog_7_method_3_code
def yX5_goOn : MethodName := ⟨RX5, "goOn", "(II)V"⟩
abbrev cX5_step : ByteArray := prog_7_method_4_code
def yX5_step : MethodName := ⟨RX5, "step", "(II)I"⟩
abbrev cX5_keepIfLess : ByteArray := prog_7_method_5_code
def yX5_keepIfLess : MethodName := ⟨RX5, "keepIfLess", "(I)V"⟩
def RX6 : String := "SlotTurns$Waves"
def TX6 : u_T := fun k => match k with
  | 0 => ("SlotTurns$Waves", "machine", "LSlotTurns$Motor;", true)
  | 1 => ("SlotTurns$Waves", "roots", "LSlotTurns$Roots;", true)
  | 2 => ("SlotTurns$Waves", "list", "LSlotTurns$CoilList;", true)
  | 3 => ("SlotTurns$Waves", "tone", "I", false)
  | 4 => ("SlotTurns$Waves", "sums", "[[I", true)
  | 5 => ("SlotTurns$Waves", "work", "[I", true)
  | _ => ("SlotTurns$Waves", "likeTurns", "[I", true)
def tyX6 : Nat → FieldType := fun k => match k with
  | 0 => .object "SlotTurns$Motor"
  | 1 => .object "SlotTurns$Roots"
  | 2 => .object "SlotTurns$CoilList"
  | 3 => .int
  | 4 => .array (.array .int)
  | 5 => .array .int
  | _ => .array .int
theorem nmX6 : ∀ a, a < 7 → ∀ b, b < 7 → a ≠ b → (TX6 a).2.1 ≠ (TX6 b).2.1 := by decide +kernel
theorem tyX6_ok : ∀ k, k < 7 → parseFieldDescriptor (TX6 k).2.2.1 = some (tyX6 k) := by decide +kernel
abbrev cX6_init : ByteArray := prog_8_method_1_code
def yX6_init : MethodName := ⟨RX6, "<init>", "(LSlotTurns$Motor;LSlotTurns$Roots;LSlotTurns$CoilList;)V"⟩
abbrev cX6_gather : ByteArray := prog_8_method_2_code
def yX6_gather : MethodName := ⟨RX6, "gather", "(I)V"⟩
abbrev cX6_addCoil : ByteArray := prog_8_method_3_code
def yX6_addCoil : MethodName := ⟨RX6, "addCoil", "(II)V"⟩
abbrev cX6_isNought : ByteArray := prog_8_method_4_code
def yX6_isNought : MethodName := ⟨RX6, "isNought", "(I)Z"⟩
abbrev cX6_leastTurn : ByteArray := prog_8_method_5_code
def yX6_leastTurn : MethodName := ⟨RX6, "leastTurn", "()I"⟩
abbrev cX6_isNoughtTogether : ByteArray := prog_8_method_6_code
def yX6_isNoughtTogether : MethodName := ⟨RX6, "isNoughtTogether", "()Z"⟩
abbrev cX6_findLikeTurns : ByteArray := prog_8_method_7_code
def yX6_findLikeTurns : MethodName := ⟨RX6, "findLikeTurns", "()V"⟩
abbrev cX6_isLikeBy : ByteArray := prog_8_method_8_code
def yX6_isLikeBy : MethodName := ⟨RX6, "isLikeBy", "(I)Z"⟩
abbrev cX6_setToNought : ByteArray := prog_8_method_9_code
def yX6_setToNought : MethodName := ⟨RX6, "setToNought", "([I)V"⟩
def RX7 : String := "SlotTurns$WayFinder"
def TX7 : u_T := fun k => match k with
  | 0 => ("SlotTurns$WayFinder", "machine", "LSlotTurns$Motor;", true)
  | 1 => ("SlotTurns$WayFinder", "roots", "LSlotTurns$Roots;", true)
  | 2 => ("SlotTurns$WayFinder", "list", "LSlotTurns$CoilList;", true)
  | 3 => ("SlotTurns$WayFinder", "latest", "[I", true)
  | 4 => ("SlotTurns$WayFinder", "parted", "[I", true)
  | 5 => ("SlotTurns$WayFinder", "size", "I", false)
  | 6 => ("SlotTurns$WayFinder", "wayCount", "I", false)
  | 7 => ("SlotTurns$WayFinder", "chosen", "[I", true)
  | 8 => ("SlotTurns$WayFinder", "held", "[I", true)
  | _ => ("SlotTurns$WayFinder", "sums", "[[I", true)
def tyX7 : Nat → FieldType := fun k => match k with
  | 0 => .object "SlotTurns$Motor"
  | 1 => .object "SlotTurns$Roots"
  | 2 => .object "SlotTurns$CoilList"
  | 3 => .array .int
  | 4 => .array .int
  | 5 => .int
  | 6 => .int
  | 7 => .array .int
  | 8 => .array .int
  | _ => .array (.array .int)
theorem nmX7 : ∀ a, a < 10 → ∀ b, b < 10 → a ≠ b → (TX7 a).2.1 ≠ (TX7 b).2.1 := by decide +kernel
theorem tyX7_ok : ∀ k, k < 10 → parseFieldDescriptor (TX7 k).2.2.1 = some (tyX7 k) := by decide +kernel
abbrev cX7_init : ByteArray := prog_9_method_1_code
def yX7_init : MethodName := ⟨RX7, "<init>", "(LSlotTurns$Motor;LSlotTurns$Roots;LSlotTurns$CoilList;)V"⟩
abbrev cX7_part : ByteArray := prog_9_method_2_code
def yX7_part : MethodName := ⟨RX7, "part", "(II)I"⟩
abbrev cX7_choose : ByteArray := prog_9_method_3_code
def yX7_choose : MethodName := ⟨RX7, "choose", "(II)Z"⟩
abbrev cX7_move : ByteArray := prog_9_method_4_code
def yX7_move : MethodName := ⟨RX7, "move", "(III)V"⟩
abbrev cX7_areAllSame : ByteArray := prog_9_method_5_code
def yX7_areAllSame : MethodName := ⟨RX7, "areAllSame", "()Z"⟩
abbrev cX7_keepChosen : ByteArray := prog_9_method_6_code
def yX7_keepChosen : MethodName := ⟨RX7, "keepChosen", "()V"⟩
def RX8 : String := "SlotTurns"
def TX8 : u_T := fun k => match k with
  | 0 => ("SlotTurns", "machine", "LSlotTurns$Motor;", true)
  | 1 => ("SlotTurns", "roots", "LSlotTurns$Roots;", true)
  | 2 => ("SlotTurns", "list", "LSlotTurns$CoilList;", true)
  | 3 => ("SlotTurns", "waves", "LSlotTurns$Waves;", true)
  | 4 => ("SlotTurns", "wayFinder", "LSlotTurns$WayFinder;", true)
  | 5 => ("SlotTurns", "tourFinder", "LSlotTurns$TourFinder;", true)
  | 6 => ("SlotTurns", "picker", "LSlotTurns$Picker;", true)
  | _ => ("SlotTurns", "rows", "LSlotTurns$Sheets;", true)
def tyX8 : Nat → FieldType := fun k => match k with
  | 0 => .object "SlotTurns$Motor"
  | 1 => .object "SlotTurns$Roots"
  | 2 => .object "SlotTurns$CoilList"
  | 3 => .object "SlotTurns$Waves"
  | 4 => .object "SlotTurns$WayFinder"
  | 5 => .object "SlotTurns$TourFinder"
  | 6 => .object "SlotTurns$Picker"
  | _ => .object "SlotTurns$Sheets"
theorem nmX8 : ∀ a, a < 8 → ∀ b, b < 8 → a ≠ b → (TX8 a).2.1 ≠ (TX8 b).2.1 := by decide +kernel
theorem tyX8_ok : ∀ k, k < 8 → parseFieldDescriptor (TX8 k).2.2.1 = some (tyX8 k) := by decide +kernel
abbrev cX8_init : ByteArray := prog_1_method_1_code
def yX8_init : MethodName := ⟨RX8, "<init>", "()V"⟩
abbrev cX8_motor : ByteArray := prog_1_method_2_code
def yX8_motor : MethodName := ⟨RX8, "motor", "(III)I"⟩
abbrev cX8_coil : ByteArray := prog_1_method_3_code
def yX8_coil : MethodName := ⟨RX8, "coil", "(IIII)I"⟩
abbrev cX8_use : ByteArray := prog_1_method_4_code
def yX8_use : MethodName := ⟨RX8, "use", "(IZ)I"⟩
abbrev cX8_clear : ByteArray := prog_1_method_5_code
def yX8_clear : MethodName := ⟨RX8, "clear", "()I"⟩
abbrev cX8_make : ByteArray := prog_1_method_6_code
def yX8_make : MethodName := ⟨RX8, "make", "(I)I"⟩
abbrev cX8_layByRule : ByteArray := prog_1_method_7_code
def yX8_layByRule : MethodName := ⟨RX8, "layByRule", "(II)V"⟩
abbrev cX8_told : ByteArray := prog_1_method_8_code
def yX8_told : MethodName := ⟨RX8, "told", "(II)I"⟩
abbrev cX8_sides : ByteArray := prog_1_method_9_code
def yX8_sides : MethodName := ⟨RX8, "sides", "(I)I"⟩
abbrev cX8_count : ByteArray := prog_1_method_10_code
def yX8_count : MethodName := ⟨RX8, "count", "(I)I"⟩
abbrev cX8_cyclotomic : ByteArray := prog_1_method_11_code
def yX8_cyclotomic : MethodName := ⟨RX8, "cyclotomic", "(I)I"⟩
abbrev cX8_wave : ByteArray := prog_1_method_12_code
def yX8_wave : MethodName := ⟨RX8, "wave", "(III)I"⟩
abbrev cX8_isStill : ByteArray := prog_1_method_13_code
def yX8_isStill : MethodName := ⟨RX8, "isStill", "(II)I"⟩
abbrev cX8_balanced : ByteArray := prog_1_method_14_code
def yX8_balanced : MethodName := ⟨RX8, "balanced", "(I)I"⟩
abbrev cX8_ways : ByteArray := prog_1_method_15_code
def yX8_ways : MethodName := ⟨RX8, "ways", "(II)I"⟩
abbrev cX8_wayOf : ByteArray := prog_1_method_16_code
def yX8_wayOf : MethodName := ⟨RX8, "wayOf", "(I)I"⟩
abbrev cX8_copper : ByteArray := prog_1_method_17_code
def yX8_copper : MethodName := ⟨RX8, "copper", "()I"⟩
abbrev cX8_tour : ByteArray := prog_1_method_18_code
def yX8_tour : MethodName := ⟨RX8, "tour", "(I)I"⟩
abbrev cX8_tourAt : ByteArray := prog_1_method_19_code
def yX8_tourAt : MethodName := ⟨RX8, "tourAt", "(I)I"⟩
abbrev cX8_mend : ByteArray := prog_1_method_20_code
def yX8_mend : MethodName := ⟨RX8, "mend", "()I"⟩
abbrev cX8_shorts : ByteArray := prog_1_method_21_code
def yX8_shorts : MethodName := ⟨RX8, "shorts", "(II)I"⟩
abbrev cX8_picked : ByteArray := prog_1_method_22_code
def yX8_picked : MethodName := ⟨RX8, "picked", "(I)I"⟩
abbrev cX8_sheet : ByteArray := prog_1_method_23_code
def yX8_sheet : MethodName := ⟨RX8, "sheet", "(III)I"⟩
abbrev cX8_drop : ByteArray := prog_1_method_24_code
def yX8_drop : MethodName := ⟨RX8, "drop", "(I)I"⟩
abbrev cX8_item : ByteArray := prog_1_method_25_code
def yX8_item : MethodName := ⟨RX8, "item", "(IIII)I"⟩
abbrev cX8_coils : ByteArray := prog_1_method_26_code
def yX8_coils : MethodName := ⟨RX8, "coils", "(IIII)I"⟩
abbrev cX8_layAll : ByteArray := prog_1_method_27_code
def yX8_layAll : MethodName := ⟨RX8, "layAll", "([III)I"⟩
abbrev cX8_isWithin : ByteArray := prog_1_method_28_code
def yX8_isWithin : MethodName := ⟨RX8, "isWithin", "(III)Z"⟩
abbrev cX8_isTone : ByteArray := prog_1_method_29_code
def yX8_isTone : MethodName := ⟨RX8, "isTone", "(I)Z"⟩
abbrev cX8_oneIf : ByteArray := prog_1_method_30_code
def yX8_oneIf : MethodName := ⟨RX8, "oneIf", "(Z)I"⟩
abbrev cX8_greatestCommonDivisor : ByteArray := prog_1_method_31_code
def yX8_greatestCommonDivisor : MethodName := ⟨RX8, "greatestCommonDivisor", "(II)I"⟩
abbrev cX8_leastCommonMultiple : ByteArray := prog_1_method_32_code
def yX8_leastCommonMultiple : MethodName := ⟨RX8, "leastCommonMultiple", "(II)I"⟩
def RX9 : String := "SlotTurnsModel"
def TX9 : u_T := fun k => match k with
  | 0 => ("SlotTurnsModel", "q", "I", false)
  | 1 => ("SlotTurnsModel", "p", "I", false)
  | 2 => ("SlotTurnsModel", "m", "I", false)
  | 3 => ("SlotTurnsModel", "coils", "I", false)
  | 4 => ("SlotTurnsModel", "phases", "[I", true)
  | 5 => ("SlotTurnsModel", "ins", "[I", true)
  | 6 => ("SlotTurnsModel", "outs", "[I", true)
  | 7 => ("SlotTurnsModel", "turns", "[I", true)
  | 8 => ("SlotTurnsModel", "used", "[Z", true)
  | 9 => ("SlotTurnsModel", "sides", "[I", true)
  | 10 => ("SlotTurnsModel", "degree", "I", false)
  | 11 => ("SlotTurnsModel", "poly", "[I", true)
  | 12 => ("SlotTurnsModel", "all", "[I", true)
  | 13 => ("SlotTurnsModel", "degrees", "[I", true)
  | 14 => ("SlotTurnsModel", "rest", "[I", true)
  | 15 => ("SlotTurnsModel", "quotient", "[I", true)
  | 16 => ("SlotTurnsModel", "wave", "[I", true)
  | 17 => ("SlotTurnsModel", "other", "[I", true)
  | 18 => ("SlotTurnsModel", "listed", "I", false)
  | 19 => ("SlotTurnsModel", "list", "[I", true)
  | 20 => ("SlotTurnsModel", "wayIs", "[I", true)
  | 21 => ("SlotTurnsModel", "digits", "[I", true)
  | 22 => ("SlotTurnsModel", "many", "[I", true)
  | 23 => ("SlotTurnsModel", "ends", "[I", true)
  | 24 => ("SlotTurnsModel", "toured", "I", false)
  | 25 => ("SlotTurnsModel", "tours", "[I", true)
  | 26 => ("SlotTurnsModel", "pickedMany", "I", false)
  | 27 => ("SlotTurnsModel", "picked", "[I", true)
  | 28 => ("SlotTurnsModel", "lanes", "[I", true)
  | 29 => ("SlotTurnsModel", "sizes", "[I", true)
  | 30 => ("SlotTurnsModel", "items", "[I", true)
  | _ => ("SlotTurnsModel", "wouldBe", "[I", true)
def tyX9 : Nat → FieldType := fun k => match k with
  | 0 => .int
  | 1 => .int
  | 2 => .int
  | 3 => .int
  | 4 => .array .int
  | 5 => .array .int
  | 6 => .array .int
  | 7 => .array .int
  | 8 => .array .boolean
  | 9 => .array .int
  | 10 => .int
  | 11 => .array .int
  | 12 => .array .int
  | 13 => .array .int
  | 14 => .array .int
  | 15 => .array .int
  | 16 => .array .int
  | 17 => .array .int
  | 18 => .int
  | 19 => .array .int
  | 20 => .array .int
  | 21 => .array .int
  | 22 => .array .int
  | 23 => .array .int
  | 24 => .int
  | 25 => .array .int
  | 26 => .int
  | 27 => .array .int
  | 28 => .array .int
  | 29 => .array .int
  | 30 => .array .int
  | _ => .array .int
theorem nmX9 : ∀ a, a < 32 → ∀ b, b < 32 → a ≠ b → (TX9 a).2.1 ≠ (TX9 b).2.1 := by decide +kernel
theorem tyX9_ok : ∀ k, k < 32 → parseFieldDescriptor (TX9 k).2.2.1 = some (tyX9 k) := by decide +kernel
abbrev cX9_in : ByteArray := prog_11_method_1_code
def yX9_in : MethodName := ⟨RX9, "in", "(JJJ)Z"⟩
abbrev cX9_common : ByteArray := prog_11_method_2_code
def yX9_common : MethodName := ⟨RX9, "common", "(II)I"⟩
abbrev cX9_init : ByteArray := prog_11_method_3_code
def yX9_init : MethodName := ⟨RX9, "<init>", "()V"⟩
abbrev cX9_motor : ByteArray := prog_11_method_4_code
def yX9_motor : MethodName := ⟨RX9, "motor", "(III)I"⟩
abbrev cX9_isSlot : ByteArray := prog_11_method_5_code
def yX9_isSlot : MethodName := ⟨RX9, "isSlot", "(J)Z"⟩
abbrev cX9_isCoil : ByteArray := prog_11_method_6_code
def yX9_isCoil : MethodName := ⟨RX9, "isCoil", "(JJJJ)Z"⟩
abbrev cX9_add : ByteArray := prog_11_method_7_code
def yX9_add : MethodName := ⟨RX9, "add", "(IIII)I"⟩
abbrev cX9_coil : ByteArray := prog_11_method_8_code
def yX9_coil : MethodName := ⟨RX9, "coil", "(IIII)I"⟩
abbrev cX9_use : ByteArray := prog_11_method_9_code
def yX9_use : MethodName := ⟨RX9, "use", "(IZ)I"⟩
abbrev cX9_clear : ByteArray := prog_11_method_10_code
def yX9_clear : MethodName := ⟨RX9, "clear", "()I"⟩
abbrev cX9_make : ByteArray := prog_11_method_11_code
def yX9_make : MethodName := ⟨RX9, "make", "(I)I"⟩
abbrev cX9_told : ByteArray := prog_11_method_12_code
def yX9_told : MethodName := ⟨RX9, "told", "(II)I"⟩
abbrev cX9_sides : ByteArray := prog_11_method_13_code
def yX9_sides : MethodName := ⟨RX9, "sides", "(I)I"⟩
abbrev cX9_count : ByteArray := prog_11_method_14_code
def yX9_count : MethodName := ⟨RX9, "count", "(I)I"⟩
abbrev cX9_findCyclotomic : ByteArray := prog_11_method_15_code
def yX9_findCyclotomic : MethodName := ⟨RX9, "findCyclotomic", "()V"⟩
abbrev cX9_divide : ByteArray := prog_11_method_16_code
def yX9_divide : MethodName := ⟨RX9, "divide", "(II)I"⟩
abbrev cX9_cyclotomic : ByteArray := prog_11_method_17_code
def yX9_cyclotomic : MethodName := ⟨RX9, "cyclotomic", "(I)I"⟩
abbrev cX9_clearRow : ByteArray := prog_11_method_18_code
def yX9_clearRow : MethodName := ⟨RX9, "clearRow", "([I)V"⟩
abbrev cX9_addCoil : ByteArray := prog_11_method_19_code
def yX9_addCoil : MethodName := ⟨RX9, "addCoil", "([IIIII)V"⟩
abbrev cX9_reduce : ByteArray := prog_11_method_20_code
def yX9_reduce : MethodName := ⟨RX9, "reduce", "([I)V"⟩
abbrev cX9_isZero : ByteArray := prog_11_method_21_code
def yX9_isZero : MethodName := ⟨RX9, "isZero", "([I)Z"⟩
abbrev cX9_findWave : ByteArray := prog_11_method_22_code
def yX9_findWave : MethodName := ⟨RX9, "findWave", "(II)V"⟩
abbrev cX9_isTone : ByteArray := prog_11_method_23_code
def yX9_isTone : MethodName := ⟨RX9, "isTone", "(I)Z"⟩
abbrev cX9_wave : ByteArray := prog_11_method_24_code
def yX9_wave : MethodName := ⟨RX9, "wave", "(III)I"⟩
abbrev cX9_isStillAt : ByteArray := prog_11_method_25_code
def yX9_isStillAt : MethodName := ⟨RX9, "isStillAt", "(II)Z"⟩
abbrev cX9_isStill : ByteArray := prog_11_method_26_code
def yX9_isStill : MethodName := ⟨RX9, "isStill", "(II)I"⟩
abbrev cX9_isBalanced : ByteArray := prog_11_method_27_code
def yX9_isBalanced : MethodName := ⟨RX9, "isBalanced", "(II)Z"⟩
abbrev cX9_balancedBy : ByteArray := prog_11_method_28_code
def yX9_balancedBy : MethodName := ⟨RX9, "balancedBy", "(I)I"⟩
abbrev cX9_balanced : ByteArray := prog_11_method_29_code
def yX9_balanced : MethodName := ⟨RX9, "balanced", "(I)I"⟩
abbrev cX9_listUsed : ByteArray := prog_11_method_30_code
def yX9_listUsed : MethodName := ⟨RX9, "listUsed", "(I)V"⟩
abbrev cX9_isParting : ByteArray := prog_11_method_31_code
def yX9_isParting : MethodName := ⟨RX9, "isParting", "(I)Z"⟩
abbrev cX9_step : ByteArray := prog_11_method_32_code
def yX9_step : MethodName := ⟨RX9, "step", "(I)Z"⟩
abbrev cX9_ways : ByteArray := prog_11_method_33_code
def yX9_ways : MethodName := ⟨RX9, "ways", "(II)I"⟩
abbrev cX9_wayOf : ByteArray := prog_11_method_34_code
def yX9_wayOf : MethodName := ⟨RX9, "wayOf", "(I)I"⟩
abbrev cX9_apart : ByteArray := prog_11_method_35_code
def yX9_apart : MethodName := ⟨RX9, "apart", "(II)I"⟩
abbrev cX9_copper : ByteArray := prog_11_method_36_code
def yX9_copper : MethodName := ⟨RX9, "copper", "()I"⟩
abbrev cX9_tour : ByteArray := prog_11_method_37_code
def yX9_tour : MethodName := ⟨RX9, "tour", "(I)I"⟩
abbrev cX9_tourAt : ByteArray := prog_11_method_38_code
def yX9_tourAt : MethodName := ⟨RX9, "tourAt", "(I)I"⟩
abbrev cX9_pick : ByteArray := prog_11_method_39_code
def yX9_pick : MethodName := ⟨RX9, "pick", "(IIII)I"⟩
abbrev cX9_isMended : ByteArray := prog_11_method_40_code
def yX9_isMended : MethodName := ⟨RX9, "isMended", "()Z"⟩
abbrev cX9_mend : ByteArray := prog_11_method_41_code
def yX9_mend : MethodName := ⟨RX9, "mend", "()I"⟩
abbrev cX9_shorts : ByteArray := prog_11_method_42_code
def yX9_shorts : MethodName := ⟨RX9, "shorts", "(II)I"⟩
abbrev cX9_picked : ByteArray := prog_11_method_43_code
def yX9_picked : MethodName := ⟨RX9, "picked", "(I)I"⟩
abbrev cX9_isSheet : ByteArray := prog_11_method_44_code
def yX9_isSheet : MethodName := ⟨RX9, "isSheet", "(II)Z"⟩
abbrev cX9_sheet : ByteArray := prog_11_method_45_code
def yX9_sheet : MethodName := ⟨RX9, "sheet", "(III)I"⟩
abbrev cX9_drop : ByteArray := prog_11_method_46_code
def yX9_drop : MethodName := ⟨RX9, "drop", "(I)I"⟩
abbrev cX9_item : ByteArray := prog_11_method_47_code
def yX9_item : MethodName := ⟨RX9, "item", "(IIII)I"⟩
abbrev cX9_coils : ByteArray := prog_11_method_48_code
def yX9_coils : MethodName := ⟨RX9, "coils", "(IIII)I"⟩
def RJ9 : String := "java/lang/Math"
abbrev cJ9_floorMod_7cf53 : ByteArray := prog_12_method_50_code
def yJ9_floorMod_7cf53 : MethodName := ⟨RJ9, "floorMod", "(II)I"⟩
abbrev cJ9_abs_0f7a4 : ByteArray := prog_12_method_59_code
def yJ9_abs_0f7a4 : MethodName := ⟨RJ9, "abs", "(I)I"⟩
abbrev cJ9_max_7cf53 : ByteArray := prog_12_method_65_code
def yJ9_max_7cf53 : MethodName := ⟨RJ9, "max", "(II)I"⟩
abbrev cJ9_min_7cf53 : ByteArray := prog_12_method_69_code
def yJ9_min_7cf53 : MethodName := ⟨RJ9, "min", "(II)I"⟩
def RJ10 : String := "java/lang/System"
def RL : String := "SlotTurnsLaw"
abbrev cL_law : ByteArray := code
def yL_law : MethodName := ⟨RL, "law", "([I)Z"⟩
abbrev vwCl : List vw_C := [(RX0, TX0, 8), (RX1, TX1, 3), (RX2, TX2, 6), (RX3, TX3, 4), (RX4, TX4, 3), (RX5, TX5, 8), (RX6, TX6, 7), (RX7, TX7, 10), (RX8, TX8, 8), (RX9, TX9, 32)]
