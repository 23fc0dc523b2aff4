/-! the law's cases: one call of both, and the same answer -/
theorem m_hsd {x y : Mem} {q p m n d : Nat} (r : RLT x y q p m n d) : ∀ j, j < 24 → y 6 j = nI (tn (y 6 j)) ∧ tn (y 6 j) ≤ 2 ∧ (y 6 j).toInt = ((tn (y 6 j) : Nat) : Int) := by
  intro j hj
  have h1 := r.2.1.2.1 j hj
  have h2 := r.2.1.2.2.1 j hj
  rw [h1, tn_nI (by omega), nI_toInt (by omega)]
  exact ⟨rfl, h2, rfl⟩
set_option maxRecDepth 100000 in
theorem lc_motor {K : KT} (X : Lx K) {b L i ce sl : Nat} {xs : Nat → Int32} (Y : SX K b L xs) {hx hm : Mem} {ad am : Nat → Nat} {q p m n d : Nat} (hi : i + 4 < L) (hce : ce ≤ 600000 ∧ sl ≤ 7302250) (r : RLT hx hm q p m n d) (k : ∀ hx2 hm2, REL hx2 hm2 → B 4 K (wd 69 XL K.2.2.2.2.1 ad hx2 ++ wd 25 ML K.2.2.2.2.1 am hm2) ce sl 882 [(0, .ref b), (1, .ref (ad 0)), (2, .ref (am 0)), (3, .int (nI i))] []) : B 4 K (wd 69 XL K.2.2.2.2.1 ad hx ++ wd 25 ML K.2.2.2.2.1 am hm) ce sl 144 [(0, .ref b), (1, .ref (ad 0)), (2, .ref (am 0)), (3, .int (nI i))] [] := by
  refine l_aload_n X dL_law_144 145 rfl rfl ?_
  refine l_arg X Y (k := 1) (by omega) rfl rfl rfl dL_law_145 dL_law_146 dL_law_147 dL_law_148 dL_law_149 150 rfl ?_
  refine l_arg X Y (k := 2) (by omega) rfl rfl rfl dL_law_150 dL_law_151 dL_law_152 dL_law_153 dL_law_154 155 rfl ?_
  refine l_arg X Y (k := 3) (by omega) rfl rfl rfl dL_law_155 dL_law_156 dL_law_157 dL_law_158 dL_law_159 160 rfl ?_
  refine l_call (N := 69) (L := XL) (st := []) X cw_L_13 (c_X8_motor hx q p m n d r.1 (xs (i + 1)) (xs (i + 2)) (xs (i + 3))) dL_law_160 163 rfl (by decide) rfl rfl rfl rfl rfl ⟨Nat.le_of_ble_eq_true rfl, Nat.le_of_ble_eq_true rfl⟩ (Nat.le_of_ble_eq_true rfl) hce (fun v x2 P => ?_)
  refine l_aload_n X dL_law_163 164 rfl rfl ?_
  refine l_arg X Y (k := 1) (by omega) rfl rfl rfl dL_law_164 dL_law_165 dL_law_166 dL_law_167 dL_law_168 169 rfl ?_
  refine l_arg X Y (k := 2) (by omega) rfl rfl rfl dL_law_169 dL_law_170 dL_law_171 dL_law_172 dL_law_173 174 rfl ?_
  refine l_arg X Y (k := 3) (by omega) rfl rfl rfl dL_law_174 dL_law_175 dL_law_176 dL_law_177 dL_law_178 179 rfl ?_
  refine l_call (N := 25) (L := ML) (st := [.int v]) X cw_L_17 (c_M_motor hm (xs (i + 1)) (xs (i + 2)) (xs (i + 3))) dL_law_179 182 rfl (by decide) rfl rfl rfl rfl rfl ⟨Nat.le_of_ble_eq_true rfl, Nat.le_of_ble_eq_true rfl⟩ (Nat.le_of_ble_eq_true rfl) hce (fun w y2 S => ?_)
  have t := t_motor r P S
  refine l_icmp_eq X v.toInt w.toInt dL_law_182 882 (by decide) 185 rfl rfl rfl (fun _ => k x2 y2 t.2) (fun f => absurd (congrArg Int32.toInt t.1) f)
set_option maxRecDepth 100000 in
theorem lc_coil {K : KT} (X : Lx K) {b L i ce sl : Nat} {xs : Nat → Int32} (Y : SX K b L xs) {hx hm : Mem} {ad am : Nat → Nat} {q p m n d : Nat} (hi : i + 4 < L) (hce : ce ≤ 600000 ∧ sl ≤ 7302250) (r : RLT hx hm q p m n d) (k : ∀ hx2 hm2, REL hx2 hm2 → B 4 K (wd 69 XL K.2.2.2.2.1 ad hx2 ++ wd 25 ML K.2.2.2.2.1 am hm2) ce sl 882 [(0, .ref b), (1, .ref (ad 0)), (2, .ref (am 0)), (3, .int (nI i))] []) : B 4 K (wd 69 XL K.2.2.2.2.1 ad hx ++ wd 25 ML K.2.2.2.2.1 am hm) ce sl 187 [(0, .ref b), (1, .ref (ad 0)), (2, .ref (am 0)), (3, .int (nI i))] [] := by
  refine l_aload_n X dL_law_187 188 rfl rfl ?_
  refine l_arg X Y (k := 1) (by omega) rfl rfl rfl dL_law_188 dL_law_189 dL_law_190 dL_law_191 dL_law_192 193 rfl ?_
  refine l_arg X Y (k := 2) (by omega) rfl rfl rfl dL_law_193 dL_law_194 dL_law_195 dL_law_196 dL_law_197 198 rfl ?_
  refine l_arg X Y (k := 3) (by omega) rfl rfl rfl dL_law_198 dL_law_199 dL_law_200 dL_law_201 dL_law_202 203 rfl ?_
  refine l_arg X Y (k := 4) (by omega) rfl rfl rfl dL_law_203 dL_law_204 dL_law_205 dL_law_206 dL_law_207 208 rfl ?_
  refine l_call (N := 69) (L := XL) (st := []) X cw_L_18 (c_X8_coil hx q p m n d r.1 (xs (i + 1)) (xs (i + 2)) (xs (i + 3)) (xs (i + 4))) dL_law_208 211 rfl (by decide) rfl rfl rfl rfl rfl ⟨Nat.le_of_ble_eq_true rfl, Nat.le_of_ble_eq_true rfl⟩ (Nat.le_of_ble_eq_true rfl) hce (fun v x2 P => ?_)
  refine l_aload_n X dL_law_211 212 rfl rfl ?_
  refine l_arg X Y (k := 1) (by omega) rfl rfl rfl dL_law_212 dL_law_213 dL_law_214 dL_law_215 dL_law_216 217 rfl ?_
  refine l_arg X Y (k := 2) (by omega) rfl rfl rfl dL_law_217 dL_law_218 dL_law_219 dL_law_220 dL_law_221 222 rfl ?_
  refine l_arg X Y (k := 3) (by omega) rfl rfl rfl dL_law_222 dL_law_223 dL_law_224 dL_law_225 dL_law_226 227 rfl ?_
  refine l_arg X Y (k := 4) (by omega) rfl rfl rfl dL_law_227 dL_law_228 dL_law_229 dL_law_230 dL_law_231 232 rfl ?_
  refine l_call (N := 25) (L := ML) (st := [.int v]) X cw_L_22 (c_M_coil hm q p m n d r.2.1.1 (m_hsd r) (xs (i + 1)) (xs (i + 2)) (xs (i + 3)) (xs (i + 4))) dL_law_232 235 rfl (by decide) rfl rfl rfl rfl rfl ⟨Nat.le_of_ble_eq_true rfl, Nat.le_of_ble_eq_true rfl⟩ (Nat.le_of_ble_eq_true rfl) hce (fun w y2 S => ?_)
  have t := t_coil r P S
  refine l_icmp_eq X v.toInt w.toInt dL_law_235 882 (by decide) 238 rfl rfl rfl (fun _ => k x2 y2 t.2) (fun f => absurd (congrArg Int32.toInt t.1) f)
set_option maxRecDepth 100000 in
theorem lc_use {K : KT} (X : Lx K) {b L i ce sl : Nat} {xs : Nat → Int32} (Y : SX K b L xs) {hx hm : Mem} {ad am : Nat → Nat} {q p m n d : Nat} (hi : i + 4 < L) (hce : ce ≤ 600000 ∧ sl ≤ 7302250) (r : RLT hx hm q p m n d) (k : ∀ hx2 hm2, REL hx2 hm2 → B 4 K (wd 69 XL K.2.2.2.2.1 ad hx2 ++ wd 25 ML K.2.2.2.2.1 am hm2) ce sl 882 [(0, .ref b), (1, .ref (ad 0)), (2, .ref (am 0)), (3, .int (nI i))] []) : B 4 K (wd 69 XL K.2.2.2.2.1 ad hx ++ wd 25 ML K.2.2.2.2.1 am hm) ce sl 240 [(0, .ref b), (1, .ref (ad 0)), (2, .ref (am 0)), (3, .int (nI i))] [] := by
  have go : ∀ zv : Int32, (zv = nI 0 ∧ (xs (i + 2)).toInt = 0) ∨ (zv = nI 1 ∧ ¬ (xs (i + 2)).toInt = 0) → B 4 K (wd 69 XL K.2.2.2.2.1 ad hx ++ wd 25 ML K.2.2.2.2.1 am hm) ce sl 259 [(0, .ref b), (1, .ref (ad 0)), (2, .ref (am 0)), (3, .int (nI i))] [.int zv, .int (xs (i + 1)), .ref (ad 0)] := by
    intro zv hzv
    have hv : zv = nI 0 ∨ zv = nI 1 := hzv.elim (fun z => Or.inl z.1) (fun z => Or.inr z.1)
    refine l_call (N := 69) (L := XL) (st := []) X cw_L_23 (c_X8_use hx q p m n d r.1 (xs (i + 1)) zv hv) dL_law_259 262 rfl (by decide) rfl rfl rfl rfl rfl ⟨Nat.le_of_ble_eq_true rfl, Nat.le_of_ble_eq_true rfl⟩ (Nat.le_of_ble_eq_true rfl) hce (fun v x2 P => ?_)
    have go2 : B 4 K (wd 25 ML K.2.2.2.2.1 am hm ++ wd 69 XL K.2.2.2.2.1 ad x2) ce sl 281 [(0, .ref b), (1, .ref (ad 0)), (2, .ref (am 0)), (3, .int (nI i))] [.int zv, .int (xs (i + 1)), .ref (am 0), .int v] := by
      refine l_call (N := 25) (L := ML) (st := [.int v]) X cw_L_27 (c_M_use hm q p m n d r.2.1.1 (xs (i + 1)) zv hv) dL_law_281 284 rfl (by decide) rfl rfl rfl rfl rfl ⟨Nat.le_of_ble_eq_true rfl, Nat.le_of_ble_eq_true rfl⟩ (Nat.le_of_ble_eq_true rfl) hce (fun w y2 S => ?_)
      have t := t_use r hv P S
      refine l_icmp_eq X v.toInt w.toInt dL_law_284 882 (by decide) 287 rfl rfl rfl (fun _ => k x2 y2 t.2) (fun f => absurd (congrArg Int32.toInt t.1) f)
    refine l_aload_n X dL_law_262 263 rfl rfl ?_
    refine l_arg X Y (k := 1) (by omega) rfl rfl rfl dL_law_263 dL_law_264 dL_law_265 dL_law_266 dL_law_267 268 rfl ?_
    refine l_arg X Y (k := 2) (by omega) rfl rfl rfl dL_law_268 dL_law_269 dL_law_270 dL_law_271 dL_law_272 273 rfl ?_
    refine l_if_eq X (xs (i + 2)).toInt dL_law_273 280 (by decide) 276 rfl rfl (fun t0 => ?_) (fun f0 => ?_)
    · refine l_iconst X dL_law_280 281 rfl (v := zv) ?_ go2
      rcases hzv with z | z
      · rw [z.1]; rfl
      · exact absurd t0 z.2
    · refine l_iconst X dL_law_276 277 rfl (v := zv) ?_ ?_
      · rcases hzv with z | z
        · exact absurd z.2 f0
        · rw [z.1]; rfl
      · exact l_goto X dL_law_277 281 (by decide) go2
  refine l_aload_n X dL_law_240 241 rfl rfl ?_
  refine l_arg X Y (k := 1) (by omega) rfl rfl rfl dL_law_241 dL_law_242 dL_law_243 dL_law_244 dL_law_245 246 rfl ?_
  refine l_arg X Y (k := 2) (by omega) rfl rfl rfl dL_law_246 dL_law_247 dL_law_248 dL_law_249 dL_law_250 251 rfl ?_
  refine l_if_eq X (xs (i + 2)).toInt dL_law_251 258 (by decide) 254 rfl rfl (fun t0 => ?_) (fun f0 => ?_)
  · exact l_iconst X dL_law_258 259 rfl (v := nI 0) rfl (go (nI 0) (Or.inl ⟨rfl, t0⟩))
  · refine l_iconst X dL_law_254 255 rfl (v := nI 1) rfl ?_
    exact l_goto X dL_law_255 259 (by decide) (go (nI 1) (Or.inr ⟨rfl, f0⟩))
set_option maxRecDepth 100000 in
theorem lc_clear {K : KT} (X : Lx K) {b L i ce sl : Nat} {xs : Nat → Int32} (Y : SX K b L xs) {hx hm : Mem} {ad am : Nat → Nat} {q p m n d : Nat} (hi : i + 4 < L) (hce : ce ≤ 600000 ∧ sl ≤ 7302250) (r : RLT hx hm q p m n d) (k : ∀ hx2 hm2, REL hx2 hm2 → B 4 K (wd 69 XL K.2.2.2.2.1 ad hx2 ++ wd 25 ML K.2.2.2.2.1 am hm2) ce sl 882 [(0, .ref b), (1, .ref (ad 0)), (2, .ref (am 0)), (3, .int (nI i))] []) : B 4 K (wd 69 XL K.2.2.2.2.1 ad hx ++ wd 25 ML K.2.2.2.2.1 am hm) ce sl 289 [(0, .ref b), (1, .ref (ad 0)), (2, .ref (am 0)), (3, .int (nI i))] [] := by
  refine l_aload_n X dL_law_289 290 rfl rfl ?_
  refine l_call (N := 69) (L := XL) (st := []) X cw_L_28 (c_X8_clear hx q p m n d r.1) dL_law_290 293 rfl (by decide) rfl rfl rfl rfl rfl ⟨Nat.le_of_ble_eq_true rfl, Nat.le_of_ble_eq_true rfl⟩ (Nat.le_of_ble_eq_true rfl) hce (fun v x2 P => ?_)
  refine l_aload_n X dL_law_293 294 rfl rfl ?_
  refine l_call (N := 25) (L := ML) (st := [.int v]) X cw_L_32 (c_M_clear hm) dL_law_294 297 rfl (by decide) rfl rfl rfl rfl rfl ⟨Nat.le_of_ble_eq_true rfl, Nat.le_of_ble_eq_true rfl⟩ (Nat.le_of_ble_eq_true rfl) hce (fun w y2 S => ?_)
  have t := t_clear r P S
  refine l_icmp_eq X v.toInt w.toInt dL_law_297 882 (by decide) 300 rfl rfl rfl (fun _ => k x2 y2 t.2) (fun f => absurd (congrArg Int32.toInt t.1) f)
set_option maxRecDepth 100000 in
theorem lc_make {K : KT} (X : Lx K) {b L i ce sl : Nat} {xs : Nat → Int32} (Y : SX K b L xs) {hx hm : Mem} {ad am : Nat → Nat} {q p m n d : Nat} (hi : i + 4 < L) (hce : ce ≤ 600000 ∧ sl ≤ 7302250) (r : RLT hx hm q p m n d) (k : ∀ hx2 hm2, REL hx2 hm2 → B 4 K (wd 69 XL K.2.2.2.2.1 ad hx2 ++ wd 25 ML K.2.2.2.2.1 am hm2) ce sl 882 [(0, .ref b), (1, .ref (ad 0)), (2, .ref (am 0)), (3, .int (nI i))] []) : B 4 K (wd 69 XL K.2.2.2.2.1 ad hx ++ wd 25 ML K.2.2.2.2.1 am hm) ce sl 302 [(0, .ref b), (1, .ref (ad 0)), (2, .ref (am 0)), (3, .int (nI i))] [] := by
  refine l_aload_n X dL_law_302 303 rfl rfl ?_
  refine l_arg X Y (k := 1) (by omega) rfl rfl rfl dL_law_303 dL_law_304 dL_law_305 dL_law_306 dL_law_307 308 rfl ?_
  refine l_call (N := 69) (L := XL) (st := []) X cw_L_33 (c_X8_make hx q p m n d r.1 (xs (i + 1))) dL_law_308 311 rfl (by decide) rfl rfl rfl rfl rfl ⟨Nat.le_of_ble_eq_true rfl, Nat.le_of_ble_eq_true rfl⟩ (Nat.le_of_ble_eq_true rfl) hce (fun v x2 P => ?_)
  refine l_aload_n X dL_law_311 312 rfl rfl ?_
  refine l_arg X Y (k := 1) (by omega) rfl rfl rfl dL_law_312 dL_law_313 dL_law_314 dL_law_315 dL_law_316 317 rfl ?_
  refine l_call (N := 25) (L := ML) (st := [.int v]) X cw_L_37 (c_M_make hm q p m n d r.2.1.1 (xs (i + 1))) dL_law_317 320 rfl (by decide) rfl rfl rfl rfl rfl ⟨Nat.le_of_ble_eq_true rfl, Nat.le_of_ble_eq_true rfl⟩ (Nat.le_of_ble_eq_true rfl) hce (fun w y2 S => ?_)
  have t := t_make r P S
  refine l_icmp_eq X v.toInt w.toInt dL_law_320 882 (by decide) 323 rfl rfl rfl (fun _ => k x2 y2 t.2) (fun f => absurd (congrArg Int32.toInt t.1) f)
set_option maxRecDepth 100000 in
theorem lc_told {K : KT} (X : Lx K) {b L i ce sl : Nat} {xs : Nat → Int32} (Y : SX K b L xs) {hx hm : Mem} {ad am : Nat → Nat} {q p m n d : Nat} (hi : i + 4 < L) (hce : ce ≤ 600000 ∧ sl ≤ 7302250) (r : RLT hx hm q p m n d) (k : ∀ hx2 hm2, REL hx2 hm2 → B 4 K (wd 69 XL K.2.2.2.2.1 ad hx2 ++ wd 25 ML K.2.2.2.2.1 am hm2) ce sl 882 [(0, .ref b), (1, .ref (ad 0)), (2, .ref (am 0)), (3, .int (nI i))] []) : B 4 K (wd 69 XL K.2.2.2.2.1 ad hx ++ wd 25 ML K.2.2.2.2.1 am hm) ce sl 325 [(0, .ref b), (1, .ref (ad 0)), (2, .ref (am 0)), (3, .int (nI i))] [] := by
  refine l_aload_n X dL_law_325 326 rfl rfl ?_
  refine l_arg X Y (k := 1) (by omega) rfl rfl rfl dL_law_326 dL_law_327 dL_law_328 dL_law_329 dL_law_330 331 rfl ?_
  refine l_arg X Y (k := 2) (by omega) rfl rfl rfl dL_law_331 dL_law_332 dL_law_333 dL_law_334 dL_law_335 336 rfl ?_
  refine l_call (N := 69) (L := XL) (st := []) X cw_L_38 (c_X8_told hx q p m n d r.1 (xs (i + 1)) (xs (i + 2))) dL_law_336 339 rfl (by decide) rfl rfl rfl rfl rfl ⟨Nat.le_of_ble_eq_true rfl, Nat.le_of_ble_eq_true rfl⟩ (Nat.le_of_ble_eq_true rfl) hce (fun v x2 P => ?_)
  refine l_aload_n X dL_law_339 340 rfl rfl ?_
  refine l_arg X Y (k := 1) (by omega) rfl rfl rfl dL_law_340 dL_law_341 dL_law_342 dL_law_343 dL_law_344 345 rfl ?_
  refine l_arg X Y (k := 2) (by omega) rfl rfl rfl dL_law_345 dL_law_346 dL_law_347 dL_law_348 dL_law_349 350 rfl ?_
  refine l_call (N := 25) (L := ML) (st := [.int v]) X cw_L_42 (c_M_told hm q p m n d r.2.1.1 (xs (i + 1)) (xs (i + 2))) dL_law_350 353 rfl (by decide) rfl rfl rfl rfl rfl ⟨Nat.le_of_ble_eq_true rfl, Nat.le_of_ble_eq_true rfl⟩ (Nat.le_of_ble_eq_true rfl) hce (fun w y2 S => ?_)
  have t := t_told r P S
  refine l_icmp_eq X v.toInt w.toInt dL_law_353 882 (by decide) 356 rfl rfl rfl (fun _ => k x2 y2 t.2) (fun f => absurd (congrArg Int32.toInt t.1) f)
set_option maxRecDepth 100000 in
theorem lc_sides {K : KT} (X : Lx K) {b L i ce sl : Nat} {xs : Nat → Int32} (Y : SX K b L xs) {hx hm : Mem} {ad am : Nat → Nat} {q p m n d : Nat} (hi : i + 4 < L) (hce : ce ≤ 600000 ∧ sl ≤ 7302250) (r : RLT hx hm q p m n d) (k : ∀ hx2 hm2, REL hx2 hm2 → B 4 K (wd 69 XL K.2.2.2.2.1 ad hx2 ++ wd 25 ML K.2.2.2.2.1 am hm2) ce sl 882 [(0, .ref b), (1, .ref (ad 0)), (2, .ref (am 0)), (3, .int (nI i))] []) : B 4 K (wd 69 XL K.2.2.2.2.1 ad hx ++ wd 25 ML K.2.2.2.2.1 am hm) ce sl 358 [(0, .ref b), (1, .ref (ad 0)), (2, .ref (am 0)), (3, .int (nI i))] [] := by
  refine l_aload_n X dL_law_358 359 rfl rfl ?_
  refine l_arg X Y (k := 1) (by omega) rfl rfl rfl dL_law_359 dL_law_360 dL_law_361 dL_law_362 dL_law_363 364 rfl ?_
  refine l_call (N := 69) (L := XL) (st := []) X cw_L_43 (c_X8_sides hx q p m n d r.1 (xs (i + 1))) dL_law_364 367 rfl (by decide) rfl rfl rfl rfl rfl ⟨Nat.le_of_ble_eq_true rfl, Nat.le_of_ble_eq_true rfl⟩ (Nat.le_of_ble_eq_true rfl) hce (fun v x2 P => ?_)
  refine l_aload_n X dL_law_367 368 rfl rfl ?_
  refine l_arg X Y (k := 1) (by omega) rfl rfl rfl dL_law_368 dL_law_369 dL_law_370 dL_law_371 dL_law_372 373 rfl ?_
  refine l_call (N := 25) (L := ML) (st := [.int v]) X cw_L_46 (c_M_sides hm q p m n d r.2.1.1 (xs (i + 1))) dL_law_373 376 rfl (by decide) rfl rfl rfl rfl rfl ⟨Nat.le_of_ble_eq_true rfl, Nat.le_of_ble_eq_true rfl⟩ (Nat.le_of_ble_eq_true rfl) hce (fun w y2 S => ?_)
  have t := t_sides r P S
  refine l_icmp_eq X v.toInt w.toInt dL_law_376 882 (by decide) 379 rfl rfl rfl (fun _ => k x2 y2 t.2) (fun f => absurd (congrArg Int32.toInt t.1) f)
set_option maxRecDepth 100000 in
theorem lc_count {K : KT} (X : Lx K) {b L i ce sl : Nat} {xs : Nat → Int32} (Y : SX K b L xs) {hx hm : Mem} {ad am : Nat → Nat} {q p m n d : Nat} (hi : i + 4 < L) (hce : ce ≤ 600000 ∧ sl ≤ 7302250) (r : RLT hx hm q p m n d) (k : ∀ hx2 hm2, REL hx2 hm2 → B 4 K (wd 69 XL K.2.2.2.2.1 ad hx2 ++ wd 25 ML K.2.2.2.2.1 am hm2) ce sl 882 [(0, .ref b), (1, .ref (ad 0)), (2, .ref (am 0)), (3, .int (nI i))] []) : B 4 K (wd 69 XL K.2.2.2.2.1 ad hx ++ wd 25 ML K.2.2.2.2.1 am hm) ce sl 381 [(0, .ref b), (1, .ref (ad 0)), (2, .ref (am 0)), (3, .int (nI i))] [] := by
  refine l_aload_n X dL_law_381 382 rfl rfl ?_
  refine l_arg X Y (k := 1) (by omega) rfl rfl rfl dL_law_382 dL_law_383 dL_law_384 dL_law_385 dL_law_386 387 rfl ?_
  refine l_call (N := 69) (L := XL) (st := []) X cw_L_47 (c_X8_count hx q p m n d r.1 (xs (i + 1))) dL_law_387 390 rfl (by decide) rfl rfl rfl rfl rfl ⟨Nat.le_of_ble_eq_true rfl, Nat.le_of_ble_eq_true rfl⟩ (Nat.le_of_ble_eq_true rfl) hce (fun v x2 P => ?_)
  refine l_aload_n X dL_law_390 391 rfl rfl ?_
  refine l_arg X Y (k := 1) (by omega) rfl rfl rfl dL_law_391 dL_law_392 dL_law_393 dL_law_394 dL_law_395 396 rfl ?_
  refine l_call (N := 25) (L := ML) (st := [.int v]) X cw_L_50 (c_M_count hm q p m n d r.2.1.1 (xs (i + 1))) dL_law_396 399 rfl (by decide) rfl rfl rfl rfl rfl ⟨Nat.le_of_ble_eq_true rfl, Nat.le_of_ble_eq_true rfl⟩ (Nat.le_of_ble_eq_true rfl) hce (fun w y2 S => ?_)
  have t := t_count r P S
  refine l_icmp_eq X v.toInt w.toInt dL_law_399 882 (by decide) 402 rfl rfl rfl (fun _ => k x2 y2 t.2) (fun f => absurd (congrArg Int32.toInt t.1) f)
set_option maxRecDepth 100000 in
theorem lc_cyclotomic {K : KT} (X : Lx K) {b L i ce sl : Nat} {xs : Nat → Int32} (Y : SX K b L xs) {hx hm : Mem} {ad am : Nat → Nat} {q p m n d : Nat} (hi : i + 4 < L) (hce : ce ≤ 600000 ∧ sl ≤ 7302250) (r : RLT hx hm q p m n d) (k : ∀ hx2 hm2, REL hx2 hm2 → B 4 K (wd 69 XL K.2.2.2.2.1 ad hx2 ++ wd 25 ML K.2.2.2.2.1 am hm2) ce sl 882 [(0, .ref b), (1, .ref (ad 0)), (2, .ref (am 0)), (3, .int (nI i))] []) : B 4 K (wd 69 XL K.2.2.2.2.1 ad hx ++ wd 25 ML K.2.2.2.2.1 am hm) ce sl 404 [(0, .ref b), (1, .ref (ad 0)), (2, .ref (am 0)), (3, .int (nI i))] [] := by
  refine l_aload_n X dL_law_404 405 rfl rfl ?_
  refine l_arg X Y (k := 1) (by omega) rfl rfl rfl dL_law_405 dL_law_406 dL_law_407 dL_law_408 dL_law_409 410 rfl ?_
  refine l_call (N := 69) (L := XL) (st := []) X cw_L_51 (c_X8_cyclotomic hx q p m n d r.1 (xs (i + 1))) dL_law_410 413 rfl (by decide) rfl rfl rfl rfl rfl ⟨Nat.le_of_ble_eq_true rfl, Nat.le_of_ble_eq_true rfl⟩ (Nat.le_of_ble_eq_true rfl) hce (fun v x2 P => ?_)
  refine l_aload_n X dL_law_413 414 rfl rfl ?_
  refine l_arg X Y (k := 1) (by omega) rfl rfl rfl dL_law_414 dL_law_415 dL_law_416 dL_law_417 dL_law_418 419 rfl ?_
  refine l_call (N := 25) (L := ML) (st := [.int v]) X cw_L_54 (c_M_cyclotomic hm q p m n d r.2.1 (xs (i + 1))) dL_law_419 422 rfl (by decide) rfl rfl rfl rfl rfl ⟨Nat.le_of_ble_eq_true rfl, Nat.le_of_ble_eq_true rfl⟩ (Nat.le_of_ble_eq_true rfl) hce (fun w y2 S => ?_)
  have t := t_cyclotomic r P S
  refine l_icmp_eq X v.toInt w.toInt dL_law_422 882 (by decide) 425 rfl rfl rfl (fun _ => k x2 y2 t.2) (fun f => absurd (congrArg Int32.toInt t.1) f)
set_option maxRecDepth 100000 in
theorem lc_wave {K : KT} (X : Lx K) {b L i ce sl : Nat} {xs : Nat → Int32} (Y : SX K b L xs) {hx hm : Mem} {ad am : Nat → Nat} {q p m n d : Nat} (hi : i + 4 < L) (hce : ce ≤ 600000 ∧ sl ≤ 7302250) (r : RLT hx hm q p m n d) (k : ∀ hx2 hm2, REL hx2 hm2 → B 4 K (wd 69 XL K.2.2.2.2.1 ad hx2 ++ wd 25 ML K.2.2.2.2.1 am hm2) ce sl 882 [(0, .ref b), (1, .ref (ad 0)), (2, .ref (am 0)), (3, .int (nI i))] []) : B 4 K (wd 69 XL K.2.2.2.2.1 ad hx ++ wd 25 ML K.2.2.2.2.1 am hm) ce sl 427 [(0, .ref b), (1, .ref (ad 0)), (2, .ref (am 0)), (3, .int (nI i))] [] := by
  refine l_aload_n X dL_law_427 428 rfl rfl ?_
  refine l_arg X Y (k := 1) (by omega) rfl rfl rfl dL_law_428 dL_law_429 dL_law_430 dL_law_431 dL_law_432 433 rfl ?_
  refine l_arg X Y (k := 2) (by omega) rfl rfl rfl dL_law_433 dL_law_434 dL_law_435 dL_law_436 dL_law_437 438 rfl ?_
  refine l_arg X Y (k := 3) (by omega) rfl rfl rfl dL_law_438 dL_law_439 dL_law_440 dL_law_441 dL_law_442 443 rfl ?_
  refine l_call (N := 69) (L := XL) (st := []) X cw_L_55 (c_X8_wave hx q p m n d r.1 (xs (i + 1)) (xs (i + 2)) (xs (i + 3))) dL_law_443 446 rfl (by decide) rfl rfl rfl rfl rfl ⟨Nat.le_of_ble_eq_true rfl, Nat.le_of_ble_eq_true rfl⟩ (Nat.le_of_ble_eq_true rfl) hce (fun v x2 P => ?_)
  refine l_aload_n X dL_law_446 447 rfl rfl ?_
  refine l_arg X Y (k := 1) (by omega) rfl rfl rfl dL_law_447 dL_law_448 dL_law_449 dL_law_450 dL_law_451 452 rfl ?_
  refine l_arg X Y (k := 2) (by omega) rfl rfl rfl dL_law_452 dL_law_453 dL_law_454 dL_law_455 dL_law_456 457 rfl ?_
  refine l_arg X Y (k := 3) (by omega) rfl rfl rfl dL_law_457 dL_law_458 dL_law_459 dL_law_460 dL_law_461 462 rfl ?_
  refine l_call (N := 25) (L := ML) (st := [.int v]) X cw_L_58 (c_M_wave hm q p m n d r.2.1 (xs (i + 1)) (xs (i + 2)) (xs (i + 3))) dL_law_462 465 rfl (by decide) rfl rfl rfl rfl rfl ⟨Nat.le_of_ble_eq_true rfl, Nat.le_of_ble_eq_true rfl⟩ (Nat.le_of_ble_eq_true rfl) hce (fun w y2 S => ?_)
  have t := t_wave r P S
  refine l_icmp_eq X v.toInt w.toInt dL_law_465 882 (by decide) 468 rfl rfl rfl (fun _ => k x2 y2 t.2) (fun f => absurd (congrArg Int32.toInt t.1) f)
set_option maxRecDepth 100000 in
theorem lc_isStill {K : KT} (X : Lx K) {b L i ce sl : Nat} {xs : Nat → Int32} (Y : SX K b L xs) {hx hm : Mem} {ad am : Nat → Nat} {q p m n d : Nat} (hi : i + 4 < L) (hce : ce ≤ 600000 ∧ sl ≤ 7302250) (r : RLT hx hm q p m n d) (k : ∀ hx2 hm2, REL hx2 hm2 → B 4 K (wd 69 XL K.2.2.2.2.1 ad hx2 ++ wd 25 ML K.2.2.2.2.1 am hm2) ce sl 882 [(0, .ref b), (1, .ref (ad 0)), (2, .ref (am 0)), (3, .int (nI i))] []) : B 4 K (wd 69 XL K.2.2.2.2.1 ad hx ++ wd 25 ML K.2.2.2.2.1 am hm) ce sl 470 [(0, .ref b), (1, .ref (ad 0)), (2, .ref (am 0)), (3, .int (nI i))] [] := by
  refine l_aload_n X dL_law_470 471 rfl rfl ?_
  refine l_arg X Y (k := 1) (by omega) rfl rfl rfl dL_law_471 dL_law_472 dL_law_473 dL_law_474 dL_law_475 476 rfl ?_
  refine l_arg X Y (k := 2) (by omega) rfl rfl rfl dL_law_476 dL_law_477 dL_law_478 dL_law_479 dL_law_480 481 rfl ?_
  refine l_call (N := 69) (L := XL) (st := []) X cw_L_59 (c_X8_isStill hx q p m n d r.1 (xs (i + 1)) (xs (i + 2))) dL_law_481 484 rfl (by decide) rfl rfl rfl rfl rfl ⟨Nat.le_of_ble_eq_true rfl, Nat.le_of_ble_eq_true rfl⟩ (Nat.le_of_ble_eq_true rfl) hce (fun v x2 P => ?_)
  refine l_aload_n X dL_law_484 485 rfl rfl ?_
  refine l_arg X Y (k := 1) (by omega) rfl rfl rfl dL_law_485 dL_law_486 dL_law_487 dL_law_488 dL_law_489 490 rfl ?_
  refine l_arg X Y (k := 2) (by omega) rfl rfl rfl dL_law_490 dL_law_491 dL_law_492 dL_law_493 dL_law_494 495 rfl ?_
  refine l_call (N := 25) (L := ML) (st := [.int v]) X cw_L_62 (c_M_isStill hm q p m n d r.2.1 (xs (i + 1)) (xs (i + 2))) dL_law_495 498 rfl (by decide) rfl rfl rfl rfl rfl ⟨Nat.le_of_ble_eq_true rfl, Nat.le_of_ble_eq_true rfl⟩ (Nat.le_of_ble_eq_true rfl) hce (fun w y2 S => ?_)
  have t := t_isStill r P S
  refine l_icmp_eq X v.toInt w.toInt dL_law_498 882 (by decide) 501 rfl rfl rfl (fun _ => k x2 y2 t.2) (fun f => absurd (congrArg Int32.toInt t.1) f)
set_option maxRecDepth 100000 in
theorem lc_balanced {K : KT} (X : Lx K) {b L i ce sl : Nat} {xs : Nat → Int32} (Y : SX K b L xs) {hx hm : Mem} {ad am : Nat → Nat} {q p m n d : Nat} (hi : i + 4 < L) (hce : ce ≤ 600000 ∧ sl ≤ 7302250) (r : RLT hx hm q p m n d) (k : ∀ hx2 hm2, REL hx2 hm2 → B 4 K (wd 69 XL K.2.2.2.2.1 ad hx2 ++ wd 25 ML K.2.2.2.2.1 am hm2) ce sl 882 [(0, .ref b), (1, .ref (ad 0)), (2, .ref (am 0)), (3, .int (nI i))] []) : B 4 K (wd 69 XL K.2.2.2.2.1 ad hx ++ wd 25 ML K.2.2.2.2.1 am hm) ce sl 503 [(0, .ref b), (1, .ref (ad 0)), (2, .ref (am 0)), (3, .int (nI i))] [] := by
  refine l_aload_n X dL_law_503 504 rfl rfl ?_
  refine l_arg X Y (k := 1) (by omega) rfl rfl rfl dL_law_504 dL_law_505 dL_law_506 dL_law_507 dL_law_508 509 rfl ?_
  refine l_call (N := 69) (L := XL) (st := []) X cw_L_63 (c_X8_balanced hx q p m n d r.1 (xs (i + 1))) dL_law_509 512 rfl (by decide) rfl rfl rfl rfl rfl ⟨Nat.le_of_ble_eq_true rfl, Nat.le_of_ble_eq_true rfl⟩ (Nat.le_of_ble_eq_true rfl) hce (fun v x2 P => ?_)
  refine l_aload_n X dL_law_512 513 rfl rfl ?_
  refine l_arg X Y (k := 1) (by omega) rfl rfl rfl dL_law_513 dL_law_514 dL_law_515 dL_law_516 dL_law_517 518 rfl ?_
  refine l_call (N := 25) (L := ML) (st := [.int v]) X cw_L_66 (c_M_balanced hm q p m n d r.2.1 (xs (i + 1))) dL_law_518 521 rfl (by decide) rfl rfl rfl rfl rfl ⟨Nat.le_of_ble_eq_true rfl, Nat.le_of_ble_eq_true rfl⟩ (Nat.le_of_ble_eq_true rfl) hce (fun w y2 S => ?_)
  have t := t_balanced r P S
  refine l_icmp_eq X v.toInt w.toInt dL_law_521 882 (by decide) 524 rfl rfl rfl (fun _ => k x2 y2 t.2) (fun f => absurd (congrArg Int32.toInt t.1) f)
set_option maxRecDepth 100000 in
theorem lc_ways {K : KT} (X : Lx K) {b L i ce sl : Nat} {xs : Nat → Int32} (Y : SX K b L xs) {hx hm : Mem} {ad am : Nat → Nat} {q p m n d : Nat} (hi : i + 4 < L) (hce : ce ≤ 600000 ∧ sl ≤ 7302250) (r : RLT hx hm q p m n d) (k : ∀ hx2 hm2, REL hx2 hm2 → B 4 K (wd 69 XL K.2.2.2.2.1 ad hx2 ++ wd 25 ML K.2.2.2.2.1 am hm2) ce sl 882 [(0, .ref b), (1, .ref (ad 0)), (2, .ref (am 0)), (3, .int (nI i))] []) : B 4 K (wd 69 XL K.2.2.2.2.1 ad hx ++ wd 25 ML K.2.2.2.2.1 am hm) ce sl 526 [(0, .ref b), (1, .ref (ad 0)), (2, .ref (am 0)), (3, .int (nI i))] [] := by
  refine l_aload_n X dL_law_526 527 rfl rfl ?_
  refine l_arg X Y (k := 1) (by omega) rfl rfl rfl dL_law_527 dL_law_528 dL_law_529 dL_law_530 dL_law_531 532 rfl ?_
  refine l_arg X Y (k := 2) (by omega) rfl rfl rfl dL_law_532 dL_law_533 dL_law_534 dL_law_535 dL_law_536 537 rfl ?_
  refine l_call (N := 69) (L := XL) (st := []) X cw_L_67 (c_X8_ways hx q p m n d r.1 (xs (i + 1)) (xs (i + 2))) dL_law_537 540 rfl (by decide) rfl rfl rfl rfl rfl ⟨Nat.le_of_ble_eq_true rfl, Nat.le_of_ble_eq_true rfl⟩ (Nat.le_of_ble_eq_true rfl) hce (fun v x2 P => ?_)
  refine l_aload_n X dL_law_540 541 rfl rfl ?_
  refine l_arg X Y (k := 1) (by omega) rfl rfl rfl dL_law_541 dL_law_542 dL_law_543 dL_law_544 dL_law_545 546 rfl ?_
  refine l_arg X Y (k := 2) (by omega) rfl rfl rfl dL_law_546 dL_law_547 dL_law_548 dL_law_549 dL_law_550 551 rfl ?_
  refine l_call (N := 25) (L := ML) (st := [.int v]) X cw_L_70 (c_M_ways hm q p m n d r.2.1 (xs (i + 1)) (xs (i + 2))) dL_law_551 554 rfl (by decide) rfl rfl rfl rfl rfl ⟨Nat.le_of_ble_eq_true rfl, Nat.le_of_ble_eq_true rfl⟩ (Nat.le_of_ble_eq_true rfl) hce (fun w y2 S => ?_)
  have t := t_ways r P S
  refine l_icmp_eq X v.toInt w.toInt dL_law_554 882 (by decide) 557 rfl rfl rfl (fun _ => k x2 y2 t.2) (fun f => absurd (congrArg Int32.toInt t.1) f)
set_option maxRecDepth 100000 in
theorem lc_wayOf {K : KT} (X : Lx K) {b L i ce sl : Nat} {xs : Nat → Int32} (Y : SX K b L xs) {hx hm : Mem} {ad am : Nat → Nat} {q p m n d : Nat} (hi : i + 4 < L) (hce : ce ≤ 600000 ∧ sl ≤ 7302250) (r : RLT hx hm q p m n d) (k : ∀ hx2 hm2, REL hx2 hm2 → B 4 K (wd 69 XL K.2.2.2.2.1 ad hx2 ++ wd 25 ML K.2.2.2.2.1 am hm2) ce sl 882 [(0, .ref b), (1, .ref (ad 0)), (2, .ref (am 0)), (3, .int (nI i))] []) : B 4 K (wd 69 XL K.2.2.2.2.1 ad hx ++ wd 25 ML K.2.2.2.2.1 am hm) ce sl 559 [(0, .ref b), (1, .ref (ad 0)), (2, .ref (am 0)), (3, .int (nI i))] [] := by
  refine l_aload_n X dL_law_559 560 rfl rfl ?_
  refine l_arg X Y (k := 1) (by omega) rfl rfl rfl dL_law_560 dL_law_561 dL_law_562 dL_law_563 dL_law_564 565 rfl ?_
  refine l_call (N := 69) (L := XL) (st := []) X cw_L_71 (c_X8_wayOf hx q p m n d r.1 (xs (i + 1))) dL_law_565 568 rfl (by decide) rfl rfl rfl rfl rfl ⟨Nat.le_of_ble_eq_true rfl, Nat.le_of_ble_eq_true rfl⟩ (Nat.le_of_ble_eq_true rfl) hce (fun v x2 P => ?_)
  refine l_aload_n X dL_law_568 569 rfl rfl ?_
  refine l_arg X Y (k := 1) (by omega) rfl rfl rfl dL_law_569 dL_law_570 dL_law_571 dL_law_572 dL_law_573 574 rfl ?_
  refine l_call (N := 25) (L := ML) (st := [.int v]) X cw_L_74 (c_M_wayOf hm q p m n d r.2.1 (xs (i + 1))) dL_law_574 577 rfl (by decide) rfl rfl rfl rfl rfl ⟨Nat.le_of_ble_eq_true rfl, Nat.le_of_ble_eq_true rfl⟩ (Nat.le_of_ble_eq_true rfl) hce (fun w y2 S => ?_)
  have t := t_wayOf r P S
  refine l_icmp_eq X v.toInt w.toInt dL_law_577 882 (by decide) 580 rfl rfl rfl (fun _ => k x2 y2 t.2) (fun f => absurd (congrArg Int32.toInt t.1) f)
set_option maxRecDepth 100000 in
theorem lc_copper {K : KT} (X : Lx K) {b L i ce sl : Nat} {xs : Nat → Int32} (Y : SX K b L xs) {hx hm : Mem} {ad am : Nat → Nat} {q p m n d : Nat} (hi : i + 4 < L) (hce : ce ≤ 600000 ∧ sl ≤ 7302250) (r : RLT hx hm q p m n d) (k : ∀ hx2 hm2, REL hx2 hm2 → B 4 K (wd 69 XL K.2.2.2.2.1 ad hx2 ++ wd 25 ML K.2.2.2.2.1 am hm2) ce sl 882 [(0, .ref b), (1, .ref (ad 0)), (2, .ref (am 0)), (3, .int (nI i))] []) : B 4 K (wd 69 XL K.2.2.2.2.1 ad hx ++ wd 25 ML K.2.2.2.2.1 am hm) ce sl 582 [(0, .ref b), (1, .ref (ad 0)), (2, .ref (am 0)), (3, .int (nI i))] [] := by
  refine l_aload_n X dL_law_582 583 rfl rfl ?_
  refine l_call (N := 69) (L := XL) (st := []) X cw_L_75 (c_X8_copper hx q p m n d r.1) dL_law_583 586 rfl (by decide) rfl rfl rfl rfl rfl ⟨Nat.le_of_ble_eq_true rfl, Nat.le_of_ble_eq_true rfl⟩ (Nat.le_of_ble_eq_true rfl) hce (fun v x2 P => ?_)
  refine l_aload_n X dL_law_586 587 rfl rfl ?_
  refine l_call (N := 25) (L := ML) (st := [.int v]) X cw_L_78 (c_M_copper hm q p m n d r.2.1) dL_law_587 590 rfl (by decide) rfl rfl rfl rfl rfl ⟨Nat.le_of_ble_eq_true rfl, Nat.le_of_ble_eq_true rfl⟩ (Nat.le_of_ble_eq_true rfl) hce (fun w y2 S => ?_)
  have t := t_copper r P S
  refine l_icmp_eq X v.toInt w.toInt dL_law_590 882 (by decide) 593 rfl rfl rfl (fun _ => k x2 y2 t.2) (fun f => absurd (congrArg Int32.toInt t.1) f)
set_option maxRecDepth 100000 in
theorem lc_tour {K : KT} (X : Lx K) {b L i ce sl : Nat} {xs : Nat → Int32} (Y : SX K b L xs) {hx hm : Mem} {ad am : Nat → Nat} {q p m n d : Nat} (hi : i + 4 < L) (hce : ce ≤ 600000 ∧ sl ≤ 7302250) (r : RLT hx hm q p m n d) (k : ∀ hx2 hm2, REL hx2 hm2 → B 4 K (wd 69 XL K.2.2.2.2.1 ad hx2 ++ wd 25 ML K.2.2.2.2.1 am hm2) ce sl 882 [(0, .ref b), (1, .ref (ad 0)), (2, .ref (am 0)), (3, .int (nI i))] []) : B 4 K (wd 69 XL K.2.2.2.2.1 ad hx ++ wd 25 ML K.2.2.2.2.1 am hm) ce sl 595 [(0, .ref b), (1, .ref (ad 0)), (2, .ref (am 0)), (3, .int (nI i))] [] := by
  refine l_aload_n X dL_law_595 596 rfl rfl ?_
  refine l_arg X Y (k := 1) (by omega) rfl rfl rfl dL_law_596 dL_law_597 dL_law_598 dL_law_599 dL_law_600 601 rfl ?_
  refine l_call (N := 69) (L := XL) (st := []) X cw_L_79 (c_X8_tour hx q p m n d r.1 (xs (i + 1))) dL_law_601 604 rfl (by decide) rfl rfl rfl rfl rfl ⟨Nat.le_of_ble_eq_true rfl, Nat.le_of_ble_eq_true rfl⟩ (Nat.le_of_ble_eq_true rfl) hce (fun v x2 P => ?_)
  refine l_aload_n X dL_law_604 605 rfl rfl ?_
  refine l_arg X Y (k := 1) (by omega) rfl rfl rfl dL_law_605 dL_law_606 dL_law_607 dL_law_608 dL_law_609 610 rfl ?_
  refine l_call (N := 25) (L := ML) (st := [.int v]) X cw_L_82 (c_M_tour hm q p m n d r.2.1 (xs (i + 1))) dL_law_610 613 rfl (by decide) rfl rfl rfl rfl rfl ⟨Nat.le_of_ble_eq_true rfl, Nat.le_of_ble_eq_true rfl⟩ (Nat.le_of_ble_eq_true rfl) hce (fun w y2 S => ?_)
  have t := t_tour r P S
  refine l_icmp_eq X v.toInt w.toInt dL_law_613 882 (by decide) 616 rfl rfl rfl (fun _ => k x2 y2 t.2) (fun f => absurd (congrArg Int32.toInt t.1) f)
set_option maxRecDepth 100000 in
theorem lc_tourAt {K : KT} (X : Lx K) {b L i ce sl : Nat} {xs : Nat → Int32} (Y : SX K b L xs) {hx hm : Mem} {ad am : Nat → Nat} {q p m n d : Nat} (hi : i + 4 < L) (hce : ce ≤ 600000 ∧ sl ≤ 7302250) (r : RLT hx hm q p m n d) (k : ∀ hx2 hm2, REL hx2 hm2 → B 4 K (wd 69 XL K.2.2.2.2.1 ad hx2 ++ wd 25 ML K.2.2.2.2.1 am hm2) ce sl 882 [(0, .ref b), (1, .ref (ad 0)), (2, .ref (am 0)), (3, .int (nI i))] []) : B 4 K (wd 69 XL K.2.2.2.2.1 ad hx ++ wd 25 ML K.2.2.2.2.1 am hm) ce sl 618 [(0, .ref b), (1, .ref (ad 0)), (2, .ref (am 0)), (3, .int (nI i))] [] := by
  refine l_aload_n X dL_law_618 619 rfl rfl ?_
  refine l_arg X Y (k := 1) (by omega) rfl rfl rfl dL_law_619 dL_law_620 dL_law_621 dL_law_622 dL_law_623 624 rfl ?_
  refine l_call (N := 69) (L := XL) (st := []) X cw_L_83 (c_X8_tourAt hx q p m n d r.1 (xs (i + 1))) dL_law_624 627 rfl (by decide) rfl rfl rfl rfl rfl ⟨Nat.le_of_ble_eq_true rfl, Nat.le_of_ble_eq_true rfl⟩ (Nat.le_of_ble_eq_true rfl) hce (fun v x2 P => ?_)
  refine l_aload_n X dL_law_627 628 rfl rfl ?_
  refine l_arg X Y (k := 1) (by omega) rfl rfl rfl dL_law_628 dL_law_629 dL_law_630 dL_law_631 dL_law_632 633 rfl ?_
  refine l_call (N := 25) (L := ML) (st := [.int v]) X cw_L_86 (c_M_tourAt hm q p m n d r.2.1 (xs (i + 1))) dL_law_633 636 rfl (by decide) rfl rfl rfl rfl rfl ⟨Nat.le_of_ble_eq_true rfl, Nat.le_of_ble_eq_true rfl⟩ (Nat.le_of_ble_eq_true rfl) hce (fun w y2 S => ?_)
  have t := t_tourAt r P S
  refine l_icmp_eq X v.toInt w.toInt dL_law_636 882 (by decide) 639 rfl rfl rfl (fun _ => k x2 y2 t.2) (fun f => absurd (congrArg Int32.toInt t.1) f)
set_option maxRecDepth 100000 in
theorem lc_mend {K : KT} (X : Lx K) {b L i ce sl : Nat} {xs : Nat → Int32} (Y : SX K b L xs) {hx hm : Mem} {ad am : Nat → Nat} {q p m n d : Nat} (hi : i + 4 < L) (hce : ce ≤ 600000 ∧ sl ≤ 7302250) (r : RLT hx hm q p m n d) (k : ∀ hx2 hm2, REL hx2 hm2 → B 4 K (wd 69 XL K.2.2.2.2.1 ad hx2 ++ wd 25 ML K.2.2.2.2.1 am hm2) ce sl 882 [(0, .ref b), (1, .ref (ad 0)), (2, .ref (am 0)), (3, .int (nI i))] []) : B 4 K (wd 69 XL K.2.2.2.2.1 ad hx ++ wd 25 ML K.2.2.2.2.1 am hm) ce sl 641 [(0, .ref b), (1, .ref (ad 0)), (2, .ref (am 0)), (3, .int (nI i))] [] := by
  refine l_aload_n X dL_law_641 642 rfl rfl ?_
  refine l_call (N := 69) (L := XL) (st := []) X cw_L_87 (c_X8_mend hx q p m n d r.1) dL_law_642 645 rfl (by decide) rfl rfl rfl rfl rfl ⟨Nat.le_of_ble_eq_true rfl, Nat.le_of_ble_eq_true rfl⟩ (Nat.le_of_ble_eq_true rfl) hce (fun v x2 P => ?_)
  refine l_aload_n X dL_law_645 646 rfl rfl ?_
  refine l_call (N := 25) (L := ML) (st := [.int v]) X cw_L_90 (c_M_mend hm q p m n d r.2.1.1) dL_law_646 649 rfl (by decide) rfl rfl rfl rfl rfl ⟨Nat.le_of_ble_eq_true rfl, Nat.le_of_ble_eq_true rfl⟩ (Nat.le_of_ble_eq_true rfl) hce (fun w y2 S => ?_)
  have t := t_mend r P S
  refine l_icmp_eq X v.toInt w.toInt dL_law_649 882 (by decide) 652 rfl rfl rfl (fun _ => k x2 y2 t.2) (fun f => absurd (congrArg Int32.toInt t.1) f)
set_option maxRecDepth 100000 in
theorem lc_shorts {K : KT} (X : Lx K) {b L i ce sl : Nat} {xs : Nat → Int32} (Y : SX K b L xs) {hx hm : Mem} {ad am : Nat → Nat} {q p m n d : Nat} (hi : i + 4 < L) (hce : ce ≤ 600000 ∧ sl ≤ 7302250) (r : RLT hx hm q p m n d) (k : ∀ hx2 hm2, REL hx2 hm2 → B 4 K (wd 69 XL K.2.2.2.2.1 ad hx2 ++ wd 25 ML K.2.2.2.2.1 am hm2) ce sl 882 [(0, .ref b), (1, .ref (ad 0)), (2, .ref (am 0)), (3, .int (nI i))] []) : B 4 K (wd 69 XL K.2.2.2.2.1 ad hx ++ wd 25 ML K.2.2.2.2.1 am hm) ce sl 654 [(0, .ref b), (1, .ref (ad 0)), (2, .ref (am 0)), (3, .int (nI i))] [] := by
  refine l_aload_n X dL_law_654 655 rfl rfl ?_
  refine l_arg X Y (k := 1) (by omega) rfl rfl rfl dL_law_655 dL_law_656 dL_law_657 dL_law_658 dL_law_659 660 rfl ?_
  refine l_arg X Y (k := 2) (by omega) rfl rfl rfl dL_law_660 dL_law_661 dL_law_662 dL_law_663 dL_law_664 665 rfl ?_
  refine l_call (N := 69) (L := XL) (st := []) X cw_L_91 (c_X8_shorts hx q p m n d r.1 (xs (i + 1)) (xs (i + 2))) dL_law_665 668 rfl (by decide) rfl rfl rfl rfl rfl ⟨Nat.le_of_ble_eq_true rfl, Nat.le_of_ble_eq_true rfl⟩ (Nat.le_of_ble_eq_true rfl) hce (fun v x2 P => ?_)
  refine l_aload_n X dL_law_668 669 rfl rfl ?_
  refine l_arg X Y (k := 1) (by omega) rfl rfl rfl dL_law_669 dL_law_670 dL_law_671 dL_law_672 dL_law_673 674 rfl ?_
  refine l_arg X Y (k := 2) (by omega) rfl rfl rfl dL_law_674 dL_law_675 dL_law_676 dL_law_677 dL_law_678 679 rfl ?_
  refine l_call (N := 25) (L := ML) (st := [.int v]) X cw_L_94 (c_M_shorts hm q p m n d r.2.1 (xs (i + 1)) (xs (i + 2))) dL_law_679 682 rfl (by decide) rfl rfl rfl rfl rfl ⟨Nat.le_of_ble_eq_true rfl, Nat.le_of_ble_eq_true rfl⟩ (Nat.le_of_ble_eq_true rfl) hce (fun w y2 S => ?_)
  have t := t_shorts r P S
  refine l_icmp_eq X v.toInt w.toInt dL_law_682 882 (by decide) 685 rfl rfl rfl (fun _ => k x2 y2 t.2) (fun f => absurd (congrArg Int32.toInt t.1) f)
set_option maxRecDepth 100000 in
theorem lc_picked {K : KT} (X : Lx K) {b L i ce sl : Nat} {xs : Nat → Int32} (Y : SX K b L xs) {hx hm : Mem} {ad am : Nat → Nat} {q p m n d : Nat} (hi : i + 4 < L) (hce : ce ≤ 600000 ∧ sl ≤ 7302250) (r : RLT hx hm q p m n d) (k : ∀ hx2 hm2, REL hx2 hm2 → B 4 K (wd 69 XL K.2.2.2.2.1 ad hx2 ++ wd 25 ML K.2.2.2.2.1 am hm2) ce sl 882 [(0, .ref b), (1, .ref (ad 0)), (2, .ref (am 0)), (3, .int (nI i))] []) : B 4 K (wd 69 XL K.2.2.2.2.1 ad hx ++ wd 25 ML K.2.2.2.2.1 am hm) ce sl 687 [(0, .ref b), (1, .ref (ad 0)), (2, .ref (am 0)), (3, .int (nI i))] [] := by
  refine l_aload_n X dL_law_687 688 rfl rfl ?_
  refine l_arg X Y (k := 1) (by omega) rfl rfl rfl dL_law_688 dL_law_689 dL_law_690 dL_law_691 dL_law_692 693 rfl ?_
  refine l_call (N := 69) (L := XL) (st := []) X cw_L_95 (c_X8_picked hx q p m n d r.1 (xs (i + 1))) dL_law_693 696 rfl (by decide) rfl rfl rfl rfl rfl ⟨Nat.le_of_ble_eq_true rfl, Nat.le_of_ble_eq_true rfl⟩ (Nat.le_of_ble_eq_true rfl) hce (fun v x2 P => ?_)
  refine l_aload_n X dL_law_696 697 rfl rfl ?_
  refine l_arg X Y (k := 1) (by omega) rfl rfl rfl dL_law_697 dL_law_698 dL_law_699 dL_law_700 dL_law_701 702 rfl ?_
  refine l_call (N := 25) (L := ML) (st := [.int v]) X cw_L_98 (c_M_picked hm q p m n d r.2.1 (xs (i + 1))) dL_law_702 705 rfl (by decide) rfl rfl rfl rfl rfl ⟨Nat.le_of_ble_eq_true rfl, Nat.le_of_ble_eq_true rfl⟩ (Nat.le_of_ble_eq_true rfl) hce (fun w y2 S => ?_)
  have t := t_picked r P S
  refine l_icmp_eq X v.toInt w.toInt dL_law_705 882 (by decide) 708 rfl rfl rfl (fun _ => k x2 y2 t.2) (fun f => absurd (congrArg Int32.toInt t.1) f)
set_option maxRecDepth 100000 in
theorem lc_sheet {K : KT} (X : Lx K) {b L i ce sl : Nat} {xs : Nat → Int32} (Y : SX K b L xs) {hx hm : Mem} {ad am : Nat → Nat} {q p m n d : Nat} (hi : i + 4 < L) (hce : ce ≤ 600000 ∧ sl ≤ 7302250) (r : RLT hx hm q p m n d) (k : ∀ hx2 hm2, REL hx2 hm2 → B 4 K (wd 69 XL K.2.2.2.2.1 ad hx2 ++ wd 25 ML K.2.2.2.2.1 am hm2) ce sl 882 [(0, .ref b), (1, .ref (ad 0)), (2, .ref (am 0)), (3, .int (nI i))] []) : B 4 K (wd 69 XL K.2.2.2.2.1 ad hx ++ wd 25 ML K.2.2.2.2.1 am hm) ce sl 710 [(0, .ref b), (1, .ref (ad 0)), (2, .ref (am 0)), (3, .int (nI i))] [] := by
  refine l_aload_n X dL_law_710 711 rfl rfl ?_
  refine l_arg X Y (k := 1) (by omega) rfl rfl rfl dL_law_711 dL_law_712 dL_law_713 dL_law_714 dL_law_715 716 rfl ?_
  refine l_arg X Y (k := 2) (by omega) rfl rfl rfl dL_law_716 dL_law_717 dL_law_718 dL_law_719 dL_law_720 721 rfl ?_
  refine l_arg X Y (k := 3) (by omega) rfl rfl rfl dL_law_721 dL_law_722 dL_law_723 dL_law_724 dL_law_725 726 rfl ?_
  refine l_call (N := 69) (L := XL) (st := []) X cw_L_99 (c_X8_sheet hx q p m n d r.1 (xs (i + 1)) (xs (i + 2)) (xs (i + 3))) dL_law_726 729 rfl (by decide) rfl rfl rfl rfl rfl ⟨Nat.le_of_ble_eq_true rfl, Nat.le_of_ble_eq_true rfl⟩ (Nat.le_of_ble_eq_true rfl) hce (fun v x2 P => ?_)
  refine l_aload_n X dL_law_729 730 rfl rfl ?_
  refine l_arg X Y (k := 1) (by omega) rfl rfl rfl dL_law_730 dL_law_731 dL_law_732 dL_law_733 dL_law_734 735 rfl ?_
  refine l_arg X Y (k := 2) (by omega) rfl rfl rfl dL_law_735 dL_law_736 dL_law_737 dL_law_738 dL_law_739 740 rfl ?_
  refine l_arg X Y (k := 3) (by omega) rfl rfl rfl dL_law_740 dL_law_741 dL_law_742 dL_law_743 dL_law_744 745 rfl ?_
  refine l_call (N := 25) (L := ML) (st := [.int v]) X cw_L_102 (c_M_sheet hm q p m n d r.2.1 (xs (i + 1)) (xs (i + 2)) (xs (i + 3))) dL_law_745 748 rfl (by decide) rfl rfl rfl rfl rfl ⟨Nat.le_of_ble_eq_true rfl, Nat.le_of_ble_eq_true rfl⟩ (Nat.le_of_ble_eq_true rfl) hce (fun w y2 S => ?_)
  have t := t_sheet r P S
  refine l_icmp_eq X v.toInt w.toInt dL_law_748 882 (by decide) 751 rfl rfl rfl (fun _ => k x2 y2 t.2) (fun f => absurd (congrArg Int32.toInt t.1) f)
set_option maxRecDepth 100000 in
theorem lc_drop {K : KT} (X : Lx K) {b L i ce sl : Nat} {xs : Nat → Int32} (Y : SX K b L xs) {hx hm : Mem} {ad am : Nat → Nat} {q p m n d : Nat} (hi : i + 4 < L) (hce : ce ≤ 600000 ∧ sl ≤ 7302250) (r : RLT hx hm q p m n d) (k : ∀ hx2 hm2, REL hx2 hm2 → B 4 K (wd 69 XL K.2.2.2.2.1 ad hx2 ++ wd 25 ML K.2.2.2.2.1 am hm2) ce sl 882 [(0, .ref b), (1, .ref (ad 0)), (2, .ref (am 0)), (3, .int (nI i))] []) : B 4 K (wd 69 XL K.2.2.2.2.1 ad hx ++ wd 25 ML K.2.2.2.2.1 am hm) ce sl 753 [(0, .ref b), (1, .ref (ad 0)), (2, .ref (am 0)), (3, .int (nI i))] [] := by
  refine l_aload_n X dL_law_753 754 rfl rfl ?_
  refine l_arg X Y (k := 1) (by omega) rfl rfl rfl dL_law_754 dL_law_755 dL_law_756 dL_law_757 dL_law_758 759 rfl ?_
  refine l_call (N := 69) (L := XL) (st := []) X cw_L_103 (c_X8_drop hx q p m n d r.1 (xs (i + 1))) dL_law_759 762 rfl (by decide) rfl rfl rfl rfl rfl ⟨Nat.le_of_ble_eq_true rfl, Nat.le_of_ble_eq_true rfl⟩ (Nat.le_of_ble_eq_true rfl) hce (fun v x2 P => ?_)
  refine l_aload_n X dL_law_762 763 rfl rfl ?_
  refine l_arg X Y (k := 1) (by omega) rfl rfl rfl dL_law_763 dL_law_764 dL_law_765 dL_law_766 dL_law_767 768 rfl ?_
  refine l_call (N := 25) (L := ML) (st := [.int v]) X cw_L_106 (c_M_drop hm q p m n d r.2.1 (xs (i + 1))) dL_law_768 771 rfl (by decide) rfl rfl rfl rfl rfl ⟨Nat.le_of_ble_eq_true rfl, Nat.le_of_ble_eq_true rfl⟩ (Nat.le_of_ble_eq_true rfl) hce (fun w y2 S => ?_)
  have t := t_drop r P S
  refine l_icmp_eq X v.toInt w.toInt dL_law_771 882 (by decide) 774 rfl rfl rfl (fun _ => k x2 y2 t.2) (fun f => absurd (congrArg Int32.toInt t.1) f)
set_option maxRecDepth 100000 in
theorem lc_item {K : KT} (X : Lx K) {b L i ce sl : Nat} {xs : Nat → Int32} (Y : SX K b L xs) {hx hm : Mem} {ad am : Nat → Nat} {q p m n d : Nat} (hi : i + 4 < L) (hce : ce ≤ 600000 ∧ sl ≤ 7302250) (r : RLT hx hm q p m n d) (k : ∀ hx2 hm2, REL hx2 hm2 → B 4 K (wd 69 XL K.2.2.2.2.1 ad hx2 ++ wd 25 ML K.2.2.2.2.1 am hm2) ce sl 882 [(0, .ref b), (1, .ref (ad 0)), (2, .ref (am 0)), (3, .int (nI i))] []) : B 4 K (wd 69 XL K.2.2.2.2.1 ad hx ++ wd 25 ML K.2.2.2.2.1 am hm) ce sl 776 [(0, .ref b), (1, .ref (ad 0)), (2, .ref (am 0)), (3, .int (nI i))] [] := by
  refine l_aload_n X dL_law_776 777 rfl rfl ?_
  refine l_arg X Y (k := 1) (by omega) rfl rfl rfl dL_law_777 dL_law_778 dL_law_779 dL_law_780 dL_law_781 782 rfl ?_
  refine l_arg X Y (k := 2) (by omega) rfl rfl rfl dL_law_782 dL_law_783 dL_law_784 dL_law_785 dL_law_786 787 rfl ?_
  refine l_arg X Y (k := 3) (by omega) rfl rfl rfl dL_law_787 dL_law_788 dL_law_789 dL_law_790 dL_law_791 792 rfl ?_
  refine l_arg X Y (k := 4) (by omega) rfl rfl rfl dL_law_792 dL_law_793 dL_law_794 dL_law_795 dL_law_796 797 rfl ?_
  refine l_call (N := 69) (L := XL) (st := []) X cw_L_107 (c_X8_item hx q p m n d r.1 (xs (i + 1)) (xs (i + 2)) (xs (i + 3)) (xs (i + 4))) dL_law_797 800 rfl (by decide) rfl rfl rfl rfl rfl ⟨Nat.le_of_ble_eq_true rfl, Nat.le_of_ble_eq_true rfl⟩ (Nat.le_of_ble_eq_true rfl) hce (fun v x2 P => ?_)
  refine l_aload_n X dL_law_800 801 rfl rfl ?_
  refine l_arg X Y (k := 1) (by omega) rfl rfl rfl dL_law_801 dL_law_802 dL_law_803 dL_law_804 dL_law_805 806 rfl ?_
  refine l_arg X Y (k := 2) (by omega) rfl rfl rfl dL_law_806 dL_law_807 dL_law_808 dL_law_809 dL_law_810 811 rfl ?_
  refine l_arg X Y (k := 3) (by omega) rfl rfl rfl dL_law_811 dL_law_812 dL_law_813 dL_law_814 dL_law_815 816 rfl ?_
  refine l_arg X Y (k := 4) (by omega) rfl rfl rfl dL_law_816 dL_law_817 dL_law_818 dL_law_819 dL_law_820 821 rfl ?_
  refine l_call (N := 25) (L := ML) (st := [.int v]) X cw_L_110 (c_M_item hm q p m n d r.2.1 (xs (i + 1)) (xs (i + 2)) (xs (i + 3)) (xs (i + 4))) dL_law_821 824 rfl (by decide) rfl rfl rfl rfl rfl ⟨Nat.le_of_ble_eq_true rfl, Nat.le_of_ble_eq_true rfl⟩ (Nat.le_of_ble_eq_true rfl) hce (fun w y2 S => ?_)
  have t := t_item r P S
  refine l_icmp_eq X v.toInt w.toInt dL_law_824 882 (by decide) 827 rfl rfl rfl (fun _ => k x2 y2 t.2) (fun f => absurd (congrArg Int32.toInt t.1) f)
set_option maxRecDepth 100000 in
theorem lc_coils {K : KT} (X : Lx K) {b L i ce sl : Nat} {xs : Nat → Int32} (Y : SX K b L xs) {hx hm : Mem} {ad am : Nat → Nat} {q p m n d : Nat} (hi : i + 4 < L) (hce : ce ≤ 600000 ∧ sl ≤ 7302250) (r : RLT hx hm q p m n d) (k : ∀ hx2 hm2, REL hx2 hm2 → B 4 K (wd 69 XL K.2.2.2.2.1 ad hx2 ++ wd 25 ML K.2.2.2.2.1 am hm2) ce sl 882 [(0, .ref b), (1, .ref (ad 0)), (2, .ref (am 0)), (3, .int (nI i))] []) : B 4 K (wd 69 XL K.2.2.2.2.1 ad hx ++ wd 25 ML K.2.2.2.2.1 am hm) ce sl 829 [(0, .ref b), (1, .ref (ad 0)), (2, .ref (am 0)), (3, .int (nI i))] [] := by
  refine l_aload_n X dL_law_829 830 rfl rfl ?_
  refine l_arg X Y (k := 1) (by omega) rfl rfl rfl dL_law_830 dL_law_831 dL_law_832 dL_law_833 dL_law_834 835 rfl ?_
  refine l_arg X Y (k := 2) (by omega) rfl rfl rfl dL_law_835 dL_law_836 dL_law_837 dL_law_838 dL_law_839 840 rfl ?_
  refine l_arg X Y (k := 3) (by omega) rfl rfl rfl dL_law_840 dL_law_841 dL_law_842 dL_law_843 dL_law_844 845 rfl ?_
  refine l_arg X Y (k := 4) (by omega) rfl rfl rfl dL_law_845 dL_law_846 dL_law_847 dL_law_848 dL_law_849 850 rfl ?_
  refine l_call (N := 69) (L := XL) (st := []) X cw_L_111 (c_X8_coils hx q p m n d r.1 (xs (i + 1)) (xs (i + 2)) (xs (i + 3)) (xs (i + 4))) dL_law_850 853 rfl (by decide) rfl rfl rfl rfl rfl ⟨Nat.le_of_ble_eq_true rfl, Nat.le_of_ble_eq_true rfl⟩ (Nat.le_of_ble_eq_true rfl) hce (fun v x2 P => ?_)
  refine l_aload_n X dL_law_853 854 rfl rfl ?_
  refine l_arg X Y (k := 1) (by omega) rfl rfl rfl dL_law_854 dL_law_855 dL_law_856 dL_law_857 dL_law_858 859 rfl ?_
  refine l_arg X Y (k := 2) (by omega) rfl rfl rfl dL_law_859 dL_law_860 dL_law_861 dL_law_862 dL_law_863 864 rfl ?_
  refine l_arg X Y (k := 3) (by omega) rfl rfl rfl dL_law_864 dL_law_865 dL_law_866 dL_law_867 dL_law_868 869 rfl ?_
  refine l_arg X Y (k := 4) (by omega) rfl rfl rfl dL_law_869 dL_law_870 dL_law_871 dL_law_872 dL_law_873 874 rfl ?_
  refine l_call (N := 25) (L := ML) (st := [.int v]) X cw_L_114 (c_M_coils hm q p m n d r.2.1 (xs (i + 1)) (xs (i + 2)) (xs (i + 3)) (xs (i + 4))) dL_law_874 877 rfl (by decide) rfl rfl rfl rfl rfl ⟨Nat.le_of_ble_eq_true rfl, Nat.le_of_ble_eq_true rfl⟩ (Nat.le_of_ble_eq_true rfl) hce (fun w y2 S => ?_)
  have t := t_coils r P S
  refine l_icmp_eq X v.toInt w.toInt dL_law_877 882 (by decide) 880 rfl rfl rfl (fun _ => k x2 y2 t.2) (fun f => absurd (congrArg Int32.toInt t.1) f)
