section LW2
variable {D : DX} {p : Program} {e : Env} {s : State} {m : MethodId} {below : List Frame} {meth : Method} {c : Code} {b L : Nat} {xs : Nat → Int32}
set_option maxHeartbeats 1000000 in
theorem lc_type {O : Nat} {X E F Y Z V : Nat → Nat} {P G : Nat → Nat → Nat} {M : Nat → Nat} {K : KT} {wC wM : va_W} {i : Nat} (hX : va_X b L xs s s.heap) (hbl : b < s.heap.size) (hL : L ≤ 2560) (hi : i + 5 ≤ L) (St : StB D O X E F Y Z V P G M K yX4_type cX4_type 2 yX5_type cX5_type 2 [.int (xs (i + 1))]) (hC : CE D O X E F Y Z V P G K wC) (hM : ME D M K wM) (nx : ∀ (K' : KT) (wC' wM' : va_W), RelP K' → CE D O X E F Y Z V P G K' wC' → ME D M K' wM' → J D (GL p e s m b below meth c) (yLw meth) code 4 ret room_1 (lw_Z below #[Value.ref b] s) 72 9486 (wC' ++ wM') 786 (lvL b O (M 0) i) []) : J D (GL p e s m b below meth c) (yLw meth) code 4 ret room_1 (lw_Z below #[Value.ref b] s) 72 9486 (wC ++ wM) 144 (lvL b O (M 0) i) [] := by
  obtain ⟨A, K', R', h4, h5⟩ := St
  obtain ⟨r4, c4, b4⟩ := h4 wC hC
  obtain ⟨r5, c5, b5⟩ := h5 wM hM
  obtain ⟨f5, hf5⟩ := ME_0 hM
  refine j_aload_n dL_law_144 1 rfl ?_
  refine jl_arg (d := 1) hX hbl hL dL_law_145 dL_law_146 dL_law_147 dL_law_148 dL_law_149 rfl (by omega) ?_
  refine j_callP (wr := wM) (rest := []) c4 rfl cw_L_13 rfl (RB_fit b4 (Nat.le_of_ble_eq_true rfl)) b4.2.2 ⟨Nat.le_of_ble_eq_true rfl, Nat.le_of_ble_eq_true rfl⟩ dL_law_150 rfl (Nat.le_of_ble_eq_true rfl) rfl 4 (CE_0 hC) rfl rfl (fun v_ u_ hf => ?_)
  obtain ⟨rfl, hC'⟩ := hf
  refine j_ws (st2 := [.int A]) rfl rfl ?_
  refine j_aload_n dL_law_153 2 rfl ?_
  refine jl_arg (d := 1) hX hbl hL dL_law_154 dL_law_155 dL_law_156 dL_law_157 dL_law_158 rfl (by omega) ?_
  refine j_callP (wr := u_) (rest := [.int A]) c5 rfl cw_L_17 rfl (RB_fit b5 (Nat.le_of_ble_eq_true rfl)) b5.2.2 ⟨Nat.le_of_ble_eq_true rfl, Nat.le_of_ble_eq_true rfl⟩ dL_law_159 rfl (Nat.le_of_ble_eq_true rfl) rfl 5 hf5 rfl rfl (fun v_ w_ hf => ?_)
  obtain ⟨rfl, hM'⟩ := hf
  refine j_ws (st2 := [.int A, .int A]) rfl rfl ?_
  exact j_icmp_eq (tgt := 786) dL_law_162 (by decide) (fun _ => nx K' _ _ R' hC' hM') (fun q => absurd rfl q)

set_option maxHeartbeats 1000000 in
theorem lc_clear {O : Nat} {X E F Y Z V : Nat → Nat} {P G : Nat → Nat → Nat} {M : Nat → Nat} {K : KT} {wC wM : va_W} {i : Nat} (hX : va_X b L xs s s.heap) (hbl : b < s.heap.size) (hL : L ≤ 2560) (hi : i + 5 ≤ L) (St : StB D O X E F Y Z V P G M K yX4_clear cX4_clear 2 yX5_clear cX5_clear 2 []) (hC : CE D O X E F Y Z V P G K wC) (hM : ME D M K wM) (nx : ∀ (K' : KT) (wC' wM' : va_W), RelP K' → CE D O X E F Y Z V P G K' wC' → ME D M K' wM' → J D (GL p e s m b below meth c) (yLw meth) code 4 ret room_1 (lw_Z below #[Value.ref b] s) 72 9486 (wC' ++ wM') 786 (lvL b O (M 0) i) []) : J D (GL p e s m b below meth c) (yLw meth) code 4 ret room_1 (lw_Z below #[Value.ref b] s) 72 9486 (wC ++ wM) 167 (lvL b O (M 0) i) [] := by
  obtain ⟨A, K', R', h4, h5⟩ := St
  obtain ⟨r4, c4, b4⟩ := h4 wC hC
  obtain ⟨r5, c5, b5⟩ := h5 wM hM
  obtain ⟨f5, hf5⟩ := ME_0 hM
  refine j_aload_n dL_law_167 1 rfl ?_
  refine j_callP (wr := wM) (rest := []) c4 rfl cw_L_18 rfl (RB_fit b4 (Nat.le_of_ble_eq_true rfl)) b4.2.2 ⟨Nat.le_of_ble_eq_true rfl, Nat.le_of_ble_eq_true rfl⟩ dL_law_168 rfl (Nat.le_of_ble_eq_true rfl) rfl 4 (CE_0 hC) rfl rfl (fun v_ u_ hf => ?_)
  obtain ⟨rfl, hC'⟩ := hf
  refine j_ws (st2 := [.int A]) rfl rfl ?_
  refine j_aload_n dL_law_171 2 rfl ?_
  refine j_callP (wr := u_) (rest := [.int A]) c5 rfl cw_L_22 rfl (RB_fit b5 (Nat.le_of_ble_eq_true rfl)) b5.2.2 ⟨Nat.le_of_ble_eq_true rfl, Nat.le_of_ble_eq_true rfl⟩ dL_law_172 rfl (Nat.le_of_ble_eq_true rfl) rfl 5 hf5 rfl rfl (fun v_ w_ hf => ?_)
  obtain ⟨rfl, hM'⟩ := hf
  refine j_ws (st2 := [.int A, .int A]) rfl rfl ?_
  exact j_icmp_eq (tgt := 786) dL_law_175 (by decide) (fun _ => nx K' _ _ R' hC' hM') (fun q => absurd rfl q)

set_option maxHeartbeats 1000000 in
theorem lc_posts {O : Nat} {X E F Y Z V : Nat → Nat} {P G : Nat → Nat → Nat} {M : Nat → Nat} {K : KT} {wC wM : va_W} {i : Nat} (hX : va_X b L xs s s.heap) (hbl : b < s.heap.size) (hL : L ≤ 2560) (hi : i + 5 ≤ L) (St : StB D O X E F Y Z V P G M K yX4_posts cX4_posts 3 yX5_posts cX5_posts 1 []) (hC : CE D O X E F Y Z V P G K wC) (hM : ME D M K wM) (nx : ∀ (K' : KT) (wC' wM' : va_W), RelP K' → CE D O X E F Y Z V P G K' wC' → ME D M K' wM' → J D (GL p e s m b below meth c) (yLw meth) code 4 ret room_1 (lw_Z below #[Value.ref b] s) 72 9486 (wC' ++ wM') 786 (lvL b O (M 0) i) []) : J D (GL p e s m b below meth c) (yLw meth) code 4 ret room_1 (lw_Z below #[Value.ref b] s) 72 9486 (wC ++ wM) 180 (lvL b O (M 0) i) [] := by
  obtain ⟨A, K', R', h4, h5⟩ := St
  obtain ⟨r4, c4, b4⟩ := h4 wC hC
  obtain ⟨r5, c5, b5⟩ := h5 wM hM
  obtain ⟨f5, hf5⟩ := ME_0 hM
  refine j_aload_n dL_law_180 1 rfl ?_
  refine j_callP (wr := wM) (rest := []) c4 rfl cw_L_23 rfl (RB_fit b4 (Nat.le_of_ble_eq_true rfl)) b4.2.2 ⟨Nat.le_of_ble_eq_true rfl, Nat.le_of_ble_eq_true rfl⟩ dL_law_181 rfl (Nat.le_of_ble_eq_true rfl) rfl 4 (CE_0 hC) rfl rfl (fun v_ u_ hf => ?_)
  obtain ⟨rfl, hC'⟩ := hf
  refine j_ws (st2 := [.int A]) rfl rfl ?_
  refine j_aload_n dL_law_184 2 rfl ?_
  refine j_callP (wr := u_) (rest := [.int A]) c5 rfl cw_L_26 rfl (RB_fit b5 (Nat.le_of_ble_eq_true rfl)) b5.2.2 ⟨Nat.le_of_ble_eq_true rfl, Nat.le_of_ble_eq_true rfl⟩ dL_law_185 rfl (Nat.le_of_ble_eq_true rfl) rfl 5 hf5 rfl rfl (fun v_ w_ hf => ?_)
  obtain ⟨rfl, hM'⟩ := hf
  refine j_ws (st2 := [.int A, .int A]) rfl rfl ?_
  exact j_icmp_eq (tgt := 786) dL_law_188 (by decide) (fun _ => nx K' _ _ R' hC' hM') (fun q => absurd rfl q)

set_option maxHeartbeats 1000000 in
theorem lc_ticks {O : Nat} {X E F Y Z V : Nat → Nat} {P G : Nat → Nat → Nat} {M : Nat → Nat} {K : KT} {wC wM : va_W} {i : Nat} (hX : va_X b L xs s s.heap) (hbl : b < s.heap.size) (hL : L ≤ 2560) (hi : i + 5 ≤ L) (St : StB D O X E F Y Z V P G M K yX4_ticks cX4_ticks 4 yX5_ticks cX5_ticks 4 [.int (xs (i + 1))]) (hC : CE D O X E F Y Z V P G K wC) (hM : ME D M K wM) (nx : ∀ (K' : KT) (wC' wM' : va_W), RelP K' → CE D O X E F Y Z V P G K' wC' → ME D M K' wM' → J D (GL p e s m b below meth c) (yLw meth) code 4 ret room_1 (lw_Z below #[Value.ref b] s) 72 9486 (wC' ++ wM') 786 (lvL b O (M 0) i) []) : J D (GL p e s m b below meth c) (yLw meth) code 4 ret room_1 (lw_Z below #[Value.ref b] s) 72 9486 (wC ++ wM) 193 (lvL b O (M 0) i) [] := by
  obtain ⟨A, K', R', h4, h5⟩ := St
  obtain ⟨r4, c4, b4⟩ := h4 wC hC
  obtain ⟨r5, c5, b5⟩ := h5 wM hM
  obtain ⟨f5, hf5⟩ := ME_0 hM
  refine j_aload_n dL_law_193 1 rfl ?_
  refine jl_arg (d := 1) hX hbl hL dL_law_194 dL_law_195 dL_law_196 dL_law_197 dL_law_198 rfl (by omega) ?_
  refine j_callP (wr := wM) (rest := []) c4 rfl cw_L_27 rfl (RB_fit b4 (Nat.le_of_ble_eq_true rfl)) b4.2.2 ⟨Nat.le_of_ble_eq_true rfl, Nat.le_of_ble_eq_true rfl⟩ dL_law_199 rfl (Nat.le_of_ble_eq_true rfl) rfl 4 (CE_0 hC) rfl rfl (fun v_ u_ hf => ?_)
  obtain ⟨rfl, hC'⟩ := hf
  refine j_ws (st2 := [.int A]) rfl rfl ?_
  refine j_aload_n dL_law_202 2 rfl ?_
  refine jl_arg (d := 1) hX hbl hL dL_law_203 dL_law_204 dL_law_205 dL_law_206 dL_law_207 rfl (by omega) ?_
  refine j_callP (wr := u_) (rest := [.int A]) c5 rfl cw_L_30 rfl (RB_fit b5 (Nat.le_of_ble_eq_true rfl)) b5.2.2 ⟨Nat.le_of_ble_eq_true rfl, Nat.le_of_ble_eq_true rfl⟩ dL_law_208 rfl (Nat.le_of_ble_eq_true rfl) rfl 5 hf5 rfl rfl (fun v_ w_ hf => ?_)
  obtain ⟨rfl, hM'⟩ := hf
  refine j_ws (st2 := [.int A, .int A]) rfl rfl ?_
  exact j_icmp_eq (tgt := 786) dL_law_211 (by decide) (fun _ => nx K' _ _ R' hC' hM') (fun q => absurd rfl q)

set_option maxHeartbeats 1000000 in
theorem lc_cancels {O : Nat} {X E F Y Z V : Nat → Nat} {P G : Nat → Nat → Nat} {M : Nat → Nat} {K : KT} {wC wM : va_W} {i : Nat} (hX : va_X b L xs s s.heap) (hbl : b < s.heap.size) (hL : L ≤ 2560) (hi : i + 5 ≤ L) (St : StB D O X E F Y Z V P G M K yX4_cancels cX4_cancels 2 yX5_cancels cX5_cancels 6 [.int (xs (i + 1))]) (hC : CE D O X E F Y Z V P G K wC) (hM : ME D M K wM) (nx : ∀ (K' : KT) (wC' wM' : va_W), RelP K' → CE D O X E F Y Z V P G K' wC' → ME D M K' wM' → J D (GL p e s m b below meth c) (yLw meth) code 4 ret room_1 (lw_Z below #[Value.ref b] s) 72 9486 (wC' ++ wM') 786 (lvL b O (M 0) i) []) : J D (GL p e s m b below meth c) (yLw meth) code 4 ret room_1 (lw_Z below #[Value.ref b] s) 72 9486 (wC ++ wM) 216 (lvL b O (M 0) i) [] := by
  obtain ⟨A, K', R', h4, h5⟩ := St
  obtain ⟨r4, c4, b4⟩ := h4 wC hC
  obtain ⟨r5, c5, b5⟩ := h5 wM hM
  obtain ⟨f5, hf5⟩ := ME_0 hM
  refine j_aload_n dL_law_216 1 rfl ?_
  refine jl_arg (d := 1) hX hbl hL dL_law_217 dL_law_218 dL_law_219 dL_law_220 dL_law_221 rfl (by omega) ?_
  refine j_callP (wr := wM) (rest := []) c4 rfl cw_L_31 rfl (RB_fit b4 (Nat.le_of_ble_eq_true rfl)) b4.2.2 ⟨Nat.le_of_ble_eq_true rfl, Nat.le_of_ble_eq_true rfl⟩ dL_law_222 rfl (Nat.le_of_ble_eq_true rfl) rfl 4 (CE_0 hC) rfl rfl (fun v_ u_ hf => ?_)
  obtain ⟨rfl, hC'⟩ := hf
  refine j_ws (st2 := [.int A]) rfl rfl ?_
  refine j_aload_n dL_law_225 2 rfl ?_
  refine jl_arg (d := 1) hX hbl hL dL_law_226 dL_law_227 dL_law_228 dL_law_229 dL_law_230 rfl (by omega) ?_
  refine j_callP (wr := u_) (rest := [.int A]) c5 rfl cw_L_34 rfl (RB_fit b5 (Nat.le_of_ble_eq_true rfl)) b5.2.2 ⟨Nat.le_of_ble_eq_true rfl, Nat.le_of_ble_eq_true rfl⟩ dL_law_231 rfl (Nat.le_of_ble_eq_true rfl) rfl 5 hf5 rfl rfl (fun v_ w_ hf => ?_)
  obtain ⟨rfl, hM'⟩ := hf
  refine j_ws (st2 := [.int A, .int A]) rfl rfl ?_
  exact j_icmp_eq (tgt := 786) dL_law_234 (by decide) (fun _ => nx K' _ _ R' hC' hM') (fun q => absurd rfl q)

set_option maxHeartbeats 1000000 in
theorem lc_switches {O : Nat} {X E F Y Z V : Nat → Nat} {P G : Nat → Nat → Nat} {M : Nat → Nat} {K : KT} {wC wM : va_W} {i : Nat} (hX : va_X b L xs s s.heap) (hbl : b < s.heap.size) (hL : L ≤ 2560) (hi : i + 5 ≤ L) (St : StB D O X E F Y Z V P G M K yX4_switches cX4_switches 3 yX5_switches cX5_switches 3 [.int (xs (i + 1))]) (hC : CE D O X E F Y Z V P G K wC) (hM : ME D M K wM) (nx : ∀ (K' : KT) (wC' wM' : va_W), RelP K' → CE D O X E F Y Z V P G K' wC' → ME D M K' wM' → J D (GL p e s m b below meth c) (yLw meth) code 4 ret room_1 (lw_Z below #[Value.ref b] s) 72 9486 (wC' ++ wM') 786 (lvL b O (M 0) i) []) : J D (GL p e s m b below meth c) (yLw meth) code 4 ret room_1 (lw_Z below #[Value.ref b] s) 72 9486 (wC ++ wM) 239 (lvL b O (M 0) i) [] := by
  obtain ⟨A, K', R', h4, h5⟩ := St
  obtain ⟨r4, c4, b4⟩ := h4 wC hC
  obtain ⟨r5, c5, b5⟩ := h5 wM hM
  obtain ⟨f5, hf5⟩ := ME_0 hM
  refine j_aload_n dL_law_239 1 rfl ?_
  refine jl_arg (d := 1) hX hbl hL dL_law_240 dL_law_241 dL_law_242 dL_law_243 dL_law_244 rfl (by omega) ?_
  refine j_callP (wr := wM) (rest := []) c4 rfl cw_L_35 rfl (RB_fit b4 (Nat.le_of_ble_eq_true rfl)) b4.2.2 ⟨Nat.le_of_ble_eq_true rfl, Nat.le_of_ble_eq_true rfl⟩ dL_law_245 rfl (Nat.le_of_ble_eq_true rfl) rfl 4 (CE_0 hC) rfl rfl (fun v_ u_ hf => ?_)
  obtain ⟨rfl, hC'⟩ := hf
  refine j_ws (st2 := [.int A]) rfl rfl ?_
  refine j_aload_n dL_law_248 2 rfl ?_
  refine jl_arg (d := 1) hX hbl hL dL_law_249 dL_law_250 dL_law_251 dL_law_252 dL_law_253 rfl (by omega) ?_
  refine j_callP (wr := u_) (rest := [.int A]) c5 rfl cw_L_38 rfl (RB_fit b5 (Nat.le_of_ble_eq_true rfl)) b5.2.2 ⟨Nat.le_of_ble_eq_true rfl, Nat.le_of_ble_eq_true rfl⟩ dL_law_254 rfl (Nat.le_of_ble_eq_true rfl) rfl 5 hf5 rfl rfl (fun v_ w_ hf => ?_)
  obtain ⟨rfl, hM'⟩ := hf
  refine j_ws (st2 := [.int A, .int A]) rfl rfl ?_
  exact j_icmp_eq (tgt := 786) dL_law_257 (by decide) (fun _ => nx K' _ _ R' hC' hM') (fun q => absurd rfl q)

set_option maxHeartbeats 1000000 in
theorem lc_tunes {O : Nat} {X E F Y Z V : Nat → Nat} {P G : Nat → Nat → Nat} {M : Nat → Nat} {K : KT} {wC wM : va_W} {i : Nat} (hX : va_X b L xs s s.heap) (hbl : b < s.heap.size) (hL : L ≤ 2560) (hi : i + 5 ≤ L) (St : StB D O X E F Y Z V P G M K yX4_tunes cX4_tunes 4 yX5_tunes cX5_tunes 5 [.int (xs (i + 1)), .int (xs (i + 2)), .int (xs (i + 3))]) (hC : CE D O X E F Y Z V P G K wC) (hM : ME D M K wM) (nx : ∀ (K' : KT) (wC' wM' : va_W), RelP K' → CE D O X E F Y Z V P G K' wC' → ME D M K' wM' → J D (GL p e s m b below meth c) (yLw meth) code 4 ret room_1 (lw_Z below #[Value.ref b] s) 72 9486 (wC' ++ wM') 786 (lvL b O (M 0) i) []) : J D (GL p e s m b below meth c) (yLw meth) code 4 ret room_1 (lw_Z below #[Value.ref b] s) 72 9486 (wC ++ wM) 262 (lvL b O (M 0) i) [] := by
  obtain ⟨A, K', R', h4, h5⟩ := St
  obtain ⟨r4, c4, b4⟩ := h4 wC hC
  obtain ⟨r5, c5, b5⟩ := h5 wM hM
  obtain ⟨f5, hf5⟩ := ME_0 hM
  refine j_aload_n dL_law_262 1 rfl ?_
  refine jl_arg (d := 1) hX hbl hL dL_law_263 dL_law_264 dL_law_265 dL_law_266 dL_law_267 rfl (by omega) ?_
  refine jl_arg (d := 2) hX hbl hL dL_law_268 dL_law_269 dL_law_270 dL_law_271 dL_law_272 rfl (by omega) ?_
  refine jl_arg (d := 3) hX hbl hL dL_law_273 dL_law_274 dL_law_275 dL_law_276 dL_law_277 rfl (by omega) ?_
  refine j_callP (wr := wM) (rest := []) c4 rfl cw_L_39 rfl (RB_fit b4 (Nat.le_of_ble_eq_true rfl)) b4.2.2 ⟨Nat.le_of_ble_eq_true rfl, Nat.le_of_ble_eq_true rfl⟩ dL_law_278 rfl (Nat.le_of_ble_eq_true rfl) rfl 4 (CE_0 hC) rfl rfl (fun v_ u_ hf => ?_)
  obtain ⟨rfl, hC'⟩ := hf
  refine j_ws (st2 := [.int A]) rfl rfl ?_
  refine j_aload_n dL_law_281 2 rfl ?_
  refine jl_arg (d := 1) hX hbl hL dL_law_282 dL_law_283 dL_law_284 dL_law_285 dL_law_286 rfl (by omega) ?_
  refine jl_arg (d := 2) hX hbl hL dL_law_287 dL_law_288 dL_law_289 dL_law_290 dL_law_291 rfl (by omega) ?_
  refine jl_arg (d := 3) hX hbl hL dL_law_292 dL_law_293 dL_law_294 dL_law_295 dL_law_296 rfl (by omega) ?_
  refine j_callP (wr := u_) (rest := [.int A]) c5 rfl cw_L_43 rfl (RB_fit b5 (Nat.le_of_ble_eq_true rfl)) b5.2.2 ⟨Nat.le_of_ble_eq_true rfl, Nat.le_of_ble_eq_true rfl⟩ dL_law_297 rfl (Nat.le_of_ble_eq_true rfl) rfl 5 hf5 rfl rfl (fun v_ w_ hf => ?_)
  obtain ⟨rfl, hM'⟩ := hf
  refine j_ws (st2 := [.int A, .int A]) rfl rfl ?_
  exact j_icmp_eq (tgt := 786) dL_law_300 (by decide) (fun _ => nx K' _ _ R' hC' hM') (fun q => absurd rfl q)

set_option maxHeartbeats 1000000 in
theorem lc_undo {O : Nat} {X E F Y Z V : Nat → Nat} {P G : Nat → Nat → Nat} {M : Nat → Nat} {K : KT} {wC wM : va_W} {i : Nat} (hX : va_X b L xs s s.heap) (hbl : b < s.heap.size) (hL : L ≤ 2560) (hi : i + 5 ≤ L) (St : StB D O X E F Y Z V P G M K yX4_undo cX4_undo 1 yX5_undo cX5_undo 2 []) (hC : CE D O X E F Y Z V P G K wC) (hM : ME D M K wM) (nx : ∀ (K' : KT) (wC' wM' : va_W), RelP K' → CE D O X E F Y Z V P G K' wC' → ME D M K' wM' → J D (GL p e s m b below meth c) (yLw meth) code 4 ret room_1 (lw_Z below #[Value.ref b] s) 72 9486 (wC' ++ wM') 786 (lvL b O (M 0) i) []) : J D (GL p e s m b below meth c) (yLw meth) code 4 ret room_1 (lw_Z below #[Value.ref b] s) 72 9486 (wC ++ wM) 305 (lvL b O (M 0) i) [] := by
  obtain ⟨A, K', R', h4, h5⟩ := St
  obtain ⟨r4, c4, b4⟩ := h4 wC hC
  obtain ⟨r5, c5, b5⟩ := h5 wM hM
  obtain ⟨f5, hf5⟩ := ME_0 hM
  refine j_aload_n dL_law_305 1 rfl ?_
  refine j_callP (wr := wM) (rest := []) c4 rfl cw_L_44 rfl (RB_fit b4 (Nat.le_of_ble_eq_true rfl)) b4.2.2 ⟨Nat.le_of_ble_eq_true rfl, Nat.le_of_ble_eq_true rfl⟩ dL_law_306 rfl (Nat.le_of_ble_eq_true rfl) rfl 4 (CE_0 hC) rfl rfl (fun v_ u_ hf => ?_)
  obtain ⟨rfl, hC'⟩ := hf
  refine j_ws (st2 := [.int A]) rfl rfl ?_
  refine j_aload_n dL_law_309 2 rfl ?_
  refine j_callP (wr := u_) (rest := [.int A]) c5 rfl cw_L_47 rfl (RB_fit b5 (Nat.le_of_ble_eq_true rfl)) b5.2.2 ⟨Nat.le_of_ble_eq_true rfl, Nat.le_of_ble_eq_true rfl⟩ dL_law_310 rfl (Nat.le_of_ble_eq_true rfl) rfl 5 hf5 rfl rfl (fun v_ w_ hf => ?_)
  obtain ⟨rfl, hM'⟩ := hf
  refine j_ws (st2 := [.int A, .int A]) rfl rfl ?_
  exact j_icmp_eq (tgt := 786) dL_law_313 (by decide) (fun _ => nx K' _ _ R' hC' hM') (fun q => absurd rfl q)

set_option maxHeartbeats 1000000 in
theorem lc_at {O : Nat} {X E F Y Z V : Nat → Nat} {P G : Nat → Nat → Nat} {M : Nat → Nat} {K : KT} {wC wM : va_W} {i : Nat} (hX : va_X b L xs s s.heap) (hbl : b < s.heap.size) (hL : L ≤ 2560) (hi : i + 5 ≤ L) (St : StB D O X E F Y Z V P G M K yX4_at cX4_at 2 yX5_at cX5_at 2 [.int (xs (i + 1))]) (hC : CE D O X E F Y Z V P G K wC) (hM : ME D M K wM) (nx : ∀ (K' : KT) (wC' wM' : va_W), RelP K' → CE D O X E F Y Z V P G K' wC' → ME D M K' wM' → J D (GL p e s m b below meth c) (yLw meth) code 4 ret room_1 (lw_Z below #[Value.ref b] s) 72 9486 (wC' ++ wM') 786 (lvL b O (M 0) i) []) : J D (GL p e s m b below meth c) (yLw meth) code 4 ret room_1 (lw_Z below #[Value.ref b] s) 72 9486 (wC ++ wM) 318 (lvL b O (M 0) i) [] := by
  obtain ⟨A, K', R', h4, h5⟩ := St
  obtain ⟨r4, c4, b4⟩ := h4 wC hC
  obtain ⟨r5, c5, b5⟩ := h5 wM hM
  obtain ⟨f5, hf5⟩ := ME_0 hM
  refine j_aload_n dL_law_318 1 rfl ?_
  refine jl_arg (d := 1) hX hbl hL dL_law_319 dL_law_320 dL_law_321 dL_law_322 dL_law_323 rfl (by omega) ?_
  refine j_callP (wr := wM) (rest := []) c4 rfl cw_L_48 rfl (RB_fit b4 (Nat.le_of_ble_eq_true rfl)) b4.2.2 ⟨Nat.le_of_ble_eq_true rfl, Nat.le_of_ble_eq_true rfl⟩ dL_law_324 rfl (Nat.le_of_ble_eq_true rfl) rfl 4 (CE_0 hC) rfl rfl (fun v_ u_ hf => ?_)
  obtain ⟨rfl, hC'⟩ := hf
  refine j_ws (st2 := [.int A]) rfl rfl ?_
  refine j_aload_n dL_law_327 2 rfl ?_
  refine jl_arg (d := 1) hX hbl hL dL_law_328 dL_law_329 dL_law_330 dL_law_331 dL_law_332 rfl (by omega) ?_
  refine j_callP (wr := u_) (rest := [.int A]) c5 rfl cw_L_51 rfl (RB_fit b5 (Nat.le_of_ble_eq_true rfl)) b5.2.2 ⟨Nat.le_of_ble_eq_true rfl, Nat.le_of_ble_eq_true rfl⟩ dL_law_333 rfl (Nat.le_of_ble_eq_true rfl) rfl 5 hf5 rfl rfl (fun v_ w_ hf => ?_)
  obtain ⟨rfl, hM'⟩ := hf
  refine j_ws (st2 := [.int A, .int A]) rfl rfl ?_
  exact j_icmp_eq (tgt := 786) dL_law_336 (by decide) (fun _ => nx K' _ _ R' hC' hM') (fun q => absurd rfl q)

set_option maxHeartbeats 1000000 in
theorem lc_channel {O : Nat} {X E F Y Z V : Nat → Nat} {P G : Nat → Nat → Nat} {M : Nat → Nat} {K : KT} {wC wM : va_W} {i : Nat} (hX : va_X b L xs s s.heap) (hbl : b < s.heap.size) (hL : L ≤ 2560) (hi : i + 5 ≤ L) (St : StB D O X E F Y Z V P G M K yX4_channel cX4_channel 3 yX5_channel cX5_channel 4 [.int (xs (i + 1)), .int (xs (i + 2))]) (hC : CE D O X E F Y Z V P G K wC) (hM : ME D M K wM) (nx : ∀ (K' : KT) (wC' wM' : va_W), RelP K' → CE D O X E F Y Z V P G K' wC' → ME D M K' wM' → J D (GL p e s m b below meth c) (yLw meth) code 4 ret room_1 (lw_Z below #[Value.ref b] s) 72 9486 (wC' ++ wM') 786 (lvL b O (M 0) i) []) : J D (GL p e s m b below meth c) (yLw meth) code 4 ret room_1 (lw_Z below #[Value.ref b] s) 72 9486 (wC ++ wM) 341 (lvL b O (M 0) i) [] := by
  obtain ⟨A, K', R', h4, h5⟩ := St
  obtain ⟨r4, c4, b4⟩ := h4 wC hC
  obtain ⟨r5, c5, b5⟩ := h5 wM hM
  obtain ⟨f5, hf5⟩ := ME_0 hM
  refine j_aload_n dL_law_341 1 rfl ?_
  refine jl_arg (d := 1) hX hbl hL dL_law_342 dL_law_343 dL_law_344 dL_law_345 dL_law_346 rfl (by omega) ?_
  refine jl_arg (d := 2) hX hbl hL dL_law_347 dL_law_348 dL_law_349 dL_law_350 dL_law_351 rfl (by omega) ?_
  refine j_callP (wr := wM) (rest := []) c4 rfl cw_L_52 rfl (RB_fit b4 (Nat.le_of_ble_eq_true rfl)) b4.2.2 ⟨Nat.le_of_ble_eq_true rfl, Nat.le_of_ble_eq_true rfl⟩ dL_law_352 rfl (Nat.le_of_ble_eq_true rfl) rfl 4 (CE_0 hC) rfl rfl (fun v_ u_ hf => ?_)
  obtain ⟨rfl, hC'⟩ := hf
  refine j_ws (st2 := [.int A]) rfl rfl ?_
  refine j_aload_n dL_law_355 2 rfl ?_
  refine jl_arg (d := 1) hX hbl hL dL_law_356 dL_law_357 dL_law_358 dL_law_359 dL_law_360 rfl (by omega) ?_
  refine jl_arg (d := 2) hX hbl hL dL_law_361 dL_law_362 dL_law_363 dL_law_364 dL_law_365 rfl (by omega) ?_
  refine j_callP (wr := u_) (rest := [.int A]) c5 rfl cw_L_56 rfl (RB_fit b5 (Nat.le_of_ble_eq_true rfl)) b5.2.2 ⟨Nat.le_of_ble_eq_true rfl, Nat.le_of_ble_eq_true rfl⟩ dL_law_366 rfl (Nat.le_of_ble_eq_true rfl) rfl 5 hf5 rfl rfl (fun v_ w_ hf => ?_)
  obtain ⟨rfl, hM'⟩ := hf
  refine j_ws (st2 := [.int A, .int A]) rfl rfl ?_
  exact j_icmp_eq (tgt := 786) dL_law_369 (by decide) (fun _ => nx K' _ _ R' hC' hM') (fun q => absurd rfl q)

set_option maxHeartbeats 1000000 in
theorem lc_slot {O : Nat} {X E F Y Z V : Nat → Nat} {P G : Nat → Nat → Nat} {M : Nat → Nat} {K : KT} {wC wM : va_W} {i : Nat} (hX : va_X b L xs s s.heap) (hbl : b < s.heap.size) (hL : L ≤ 2560) (hi : i + 5 ≤ L) (St : StB D O X E F Y Z V P G M K yX4_slot cX4_slot 5 yX5_slot cX5_slot 5 [.int (xs (i + 1)), .int (xs (i + 2)), .int (xs (i + 3))]) (hC : CE D O X E F Y Z V P G K wC) (hM : ME D M K wM) (nx : ∀ (K' : KT) (wC' wM' : va_W), RelP K' → CE D O X E F Y Z V P G K' wC' → ME D M K' wM' → J D (GL p e s m b below meth c) (yLw meth) code 4 ret room_1 (lw_Z below #[Value.ref b] s) 72 9486 (wC' ++ wM') 786 (lvL b O (M 0) i) []) : J D (GL p e s m b below meth c) (yLw meth) code 4 ret room_1 (lw_Z below #[Value.ref b] s) 72 9486 (wC ++ wM) 374 (lvL b O (M 0) i) [] := by
  obtain ⟨A, K', R', h4, h5⟩ := St
  obtain ⟨r4, c4, b4⟩ := h4 wC hC
  obtain ⟨r5, c5, b5⟩ := h5 wM hM
  obtain ⟨f5, hf5⟩ := ME_0 hM
  refine j_aload_n dL_law_374 1 rfl ?_
  refine jl_arg (d := 1) hX hbl hL dL_law_375 dL_law_376 dL_law_377 dL_law_378 dL_law_379 rfl (by omega) ?_
  refine jl_arg (d := 2) hX hbl hL dL_law_380 dL_law_381 dL_law_382 dL_law_383 dL_law_384 rfl (by omega) ?_
  refine jl_arg (d := 3) hX hbl hL dL_law_385 dL_law_386 dL_law_387 dL_law_388 dL_law_389 rfl (by omega) ?_
  refine j_callP (wr := wM) (rest := []) c4 rfl cw_L_57 rfl (RB_fit b4 (Nat.le_of_ble_eq_true rfl)) b4.2.2 ⟨Nat.le_of_ble_eq_true rfl, Nat.le_of_ble_eq_true rfl⟩ dL_law_390 rfl (Nat.le_of_ble_eq_true rfl) rfl 4 (CE_0 hC) rfl rfl (fun v_ u_ hf => ?_)
  obtain ⟨rfl, hC'⟩ := hf
  refine j_ws (st2 := [.int A]) rfl rfl ?_
  refine j_aload_n dL_law_393 2 rfl ?_
  refine jl_arg (d := 1) hX hbl hL dL_law_394 dL_law_395 dL_law_396 dL_law_397 dL_law_398 rfl (by omega) ?_
  refine jl_arg (d := 2) hX hbl hL dL_law_399 dL_law_400 dL_law_401 dL_law_402 dL_law_403 rfl (by omega) ?_
  refine jl_arg (d := 3) hX hbl hL dL_law_404 dL_law_405 dL_law_406 dL_law_407 dL_law_408 rfl (by omega) ?_
  refine j_callP (wr := u_) (rest := [.int A]) c5 rfl cw_L_60 rfl (RB_fit b5 (Nat.le_of_ble_eq_true rfl)) b5.2.2 ⟨Nat.le_of_ble_eq_true rfl, Nat.le_of_ble_eq_true rfl⟩ dL_law_409 rfl (Nat.le_of_ble_eq_true rfl) rfl 5 hf5 rfl rfl (fun v_ w_ hf => ?_)
  obtain ⟨rfl, hM'⟩ := hf
  refine j_ws (st2 := [.int A, .int A]) rfl rfl ?_
  exact j_icmp_eq (tgt := 786) dL_law_412 (by decide) (fun _ => nx K' _ _ R' hC' hM') (fun q => absurd rfl q)

set_option maxHeartbeats 1000000 in
theorem lc_unit {O : Nat} {X E F Y Z V : Nat → Nat} {P G : Nat → Nat → Nat} {M : Nat → Nat} {K : KT} {wC wM : va_W} {i : Nat} (hX : va_X b L xs s s.heap) (hbl : b < s.heap.size) (hL : L ≤ 2560) (hi : i + 5 ≤ L) (St : StB D O X E F Y Z V P G M K yX4_unit cX4_unit 6 yX5_unit cX5_unit 6 [.int (xs (i + 1)), .int (xs (i + 2)), .int (xs (i + 3)), .int (xs (i + 4))]) (hC : CE D O X E F Y Z V P G K wC) (hM : ME D M K wM) (nx : ∀ (K' : KT) (wC' wM' : va_W), RelP K' → CE D O X E F Y Z V P G K' wC' → ME D M K' wM' → J D (GL p e s m b below meth c) (yLw meth) code 4 ret room_1 (lw_Z below #[Value.ref b] s) 72 9486 (wC' ++ wM') 786 (lvL b O (M 0) i) []) : J D (GL p e s m b below meth c) (yLw meth) code 4 ret room_1 (lw_Z below #[Value.ref b] s) 72 9486 (wC ++ wM) 417 (lvL b O (M 0) i) [] := by
  obtain ⟨A, K', R', h4, h5⟩ := St
  obtain ⟨r4, c4, b4⟩ := h4 wC hC
  obtain ⟨r5, c5, b5⟩ := h5 wM hM
  obtain ⟨f5, hf5⟩ := ME_0 hM
  refine j_aload_n dL_law_417 1 rfl ?_
  refine jl_arg (d := 1) hX hbl hL dL_law_418 dL_law_419 dL_law_420 dL_law_421 dL_law_422 rfl (by omega) ?_
  refine jl_arg (d := 2) hX hbl hL dL_law_423 dL_law_424 dL_law_425 dL_law_426 dL_law_427 rfl (by omega) ?_
  refine jl_arg (d := 3) hX hbl hL dL_law_428 dL_law_429 dL_law_430 dL_law_431 dL_law_432 rfl (by omega) ?_
  refine jl_arg (d := 4) hX hbl hL dL_law_433 dL_law_434 dL_law_435 dL_law_436 dL_law_437 rfl (by omega) ?_
  refine j_callP (wr := wM) (rest := []) c4 rfl cw_L_61 rfl (RB_fit b4 (Nat.le_of_ble_eq_true rfl)) b4.2.2 ⟨Nat.le_of_ble_eq_true rfl, Nat.le_of_ble_eq_true rfl⟩ dL_law_438 rfl (Nat.le_of_ble_eq_true rfl) rfl 4 (CE_0 hC) rfl rfl (fun v_ u_ hf => ?_)
  obtain ⟨rfl, hC'⟩ := hf
  refine j_ws (st2 := [.int A]) rfl rfl ?_
  refine j_aload_n dL_law_441 2 rfl ?_
  refine jl_arg (d := 1) hX hbl hL dL_law_442 dL_law_443 dL_law_444 dL_law_445 dL_law_446 rfl (by omega) ?_
  refine jl_arg (d := 2) hX hbl hL dL_law_447 dL_law_448 dL_law_449 dL_law_450 dL_law_451 rfl (by omega) ?_
  refine jl_arg (d := 3) hX hbl hL dL_law_452 dL_law_453 dL_law_454 dL_law_455 dL_law_456 rfl (by omega) ?_
  refine jl_arg (d := 4) hX hbl hL dL_law_457 dL_law_458 dL_law_459 dL_law_460 dL_law_461 rfl (by omega) ?_
  refine j_callP (wr := u_) (rest := [.int A]) c5 rfl cw_L_65 rfl (RB_fit b5 (Nat.le_of_ble_eq_true rfl)) b5.2.2 ⟨Nat.le_of_ble_eq_true rfl, Nat.le_of_ble_eq_true rfl⟩ dL_law_462 rfl (Nat.le_of_ble_eq_true rfl) rfl 5 hf5 rfl rfl (fun v_ w_ hf => ?_)
  obtain ⟨rfl, hM'⟩ := hf
  refine j_ws (st2 := [.int A, .int A]) rfl rfl ?_
  exact j_icmp_eq (tgt := 786) dL_law_465 (by decide) (fun _ => nx K' _ _ R' hC' hM') (fun q => absurd rfl q)

set_option maxHeartbeats 1000000 in
theorem lc_waiting {O : Nat} {X E F Y Z V : Nat → Nat} {P G : Nat → Nat → Nat} {M : Nat → Nat} {K : KT} {wC wM : va_W} {i : Nat} (hX : va_X b L xs s s.heap) (hbl : b < s.heap.size) (hL : L ≤ 2560) (hi : i + 5 ≤ L) (St : StB D O X E F Y Z V P G M K yX4_waiting cX4_waiting 3 yX5_waiting cX5_waiting 2 [.int (xs (i + 1))]) (hC : CE D O X E F Y Z V P G K wC) (hM : ME D M K wM) (nx : ∀ (K' : KT) (wC' wM' : va_W), RelP K' → CE D O X E F Y Z V P G K' wC' → ME D M K' wM' → J D (GL p e s m b below meth c) (yLw meth) code 4 ret room_1 (lw_Z below #[Value.ref b] s) 72 9486 (wC' ++ wM') 786 (lvL b O (M 0) i) []) : J D (GL p e s m b below meth c) (yLw meth) code 4 ret room_1 (lw_Z below #[Value.ref b] s) 72 9486 (wC ++ wM) 470 (lvL b O (M 0) i) [] := by
  obtain ⟨A, K', R', h4, h5⟩ := St
  obtain ⟨r4, c4, b4⟩ := h4 wC hC
  obtain ⟨r5, c5, b5⟩ := h5 wM hM
  obtain ⟨f5, hf5⟩ := ME_0 hM
  refine j_aload_n dL_law_470 1 rfl ?_
  refine jl_arg (d := 1) hX hbl hL dL_law_471 dL_law_472 dL_law_473 dL_law_474 dL_law_475 rfl (by omega) ?_
  refine j_callP (wr := wM) (rest := []) c4 rfl cw_L_66 rfl (RB_fit b4 (Nat.le_of_ble_eq_true rfl)) b4.2.2 ⟨Nat.le_of_ble_eq_true rfl, Nat.le_of_ble_eq_true rfl⟩ dL_law_476 rfl (Nat.le_of_ble_eq_true rfl) rfl 4 (CE_0 hC) rfl rfl (fun v_ u_ hf => ?_)
  obtain ⟨rfl, hC'⟩ := hf
  refine j_ws (st2 := [.int A]) rfl rfl ?_
  refine j_aload_n dL_law_479 2 rfl ?_
  refine jl_arg (d := 1) hX hbl hL dL_law_480 dL_law_481 dL_law_482 dL_law_483 dL_law_484 rfl (by omega) ?_
  refine j_callP (wr := u_) (rest := [.int A]) c5 rfl cw_L_69 rfl (RB_fit b5 (Nat.le_of_ble_eq_true rfl)) b5.2.2 ⟨Nat.le_of_ble_eq_true rfl, Nat.le_of_ble_eq_true rfl⟩ dL_law_485 rfl (Nat.le_of_ble_eq_true rfl) rfl 5 hf5 rfl rfl (fun v_ w_ hf => ?_)
  obtain ⟨rfl, hM'⟩ := hf
  refine j_ws (st2 := [.int A, .int A]) rfl rfl ?_
  exact j_icmp_eq (tgt := 786) dL_law_488 (by decide) (fun _ => nx K' _ _ R' hC' hM') (fun q => absurd rfl q)

set_option maxHeartbeats 1000000 in
theorem lc_both {O : Nat} {X E F Y Z V : Nat → Nat} {P G : Nat → Nat → Nat} {M : Nat → Nat} {K : KT} {wC wM : va_W} {i : Nat} (hX : va_X b L xs s s.heap) (hbl : b < s.heap.size) (hL : L ≤ 2560) (hi : i + 5 ≤ L) (St : StB D O X E F Y Z V P G M K yX4_both cX4_both 7 yX5_both cX5_both 11 [.int (xs (i + 1)), .int (xs (i + 2)), .int (xs (i + 3)), .int (xs (i + 4))]) (hC : CE D O X E F Y Z V P G K wC) (hM : ME D M K wM) (nx : ∀ (K' : KT) (wC' wM' : va_W), RelP K' → CE D O X E F Y Z V P G K' wC' → ME D M K' wM' → J D (GL p e s m b below meth c) (yLw meth) code 4 ret room_1 (lw_Z below #[Value.ref b] s) 72 9486 (wC' ++ wM') 786 (lvL b O (M 0) i) []) : J D (GL p e s m b below meth c) (yLw meth) code 4 ret room_1 (lw_Z below #[Value.ref b] s) 72 9486 (wC ++ wM) 493 (lvL b O (M 0) i) [] := by
  obtain ⟨A, K', R', h4, h5⟩ := St
  obtain ⟨r4, c4, b4⟩ := h4 wC hC
  obtain ⟨r5, c5, b5⟩ := h5 wM hM
  obtain ⟨f5, hf5⟩ := ME_0 hM
  refine j_aload_n dL_law_493 1 rfl ?_
  refine jl_arg (d := 1) hX hbl hL dL_law_494 dL_law_495 dL_law_496 dL_law_497 dL_law_498 rfl (by omega) ?_
  refine jl_arg (d := 2) hX hbl hL dL_law_499 dL_law_500 dL_law_501 dL_law_502 dL_law_503 rfl (by omega) ?_
  refine jl_arg (d := 3) hX hbl hL dL_law_504 dL_law_505 dL_law_506 dL_law_507 dL_law_508 rfl (by omega) ?_
  refine jl_arg (d := 4) hX hbl hL dL_law_509 dL_law_510 dL_law_511 dL_law_512 dL_law_513 rfl (by omega) ?_
  refine j_callP (wr := wM) (rest := []) c4 rfl cw_L_70 rfl (RB_fit b4 (Nat.le_of_ble_eq_true rfl)) b4.2.2 ⟨Nat.le_of_ble_eq_true rfl, Nat.le_of_ble_eq_true rfl⟩ dL_law_514 rfl (Nat.le_of_ble_eq_true rfl) rfl 4 (CE_0 hC) rfl rfl (fun v_ u_ hf => ?_)
  obtain ⟨rfl, hC'⟩ := hf
  refine j_ws (st2 := [.int A]) rfl rfl ?_
  refine j_aload_n dL_law_517 2 rfl ?_
  refine jl_arg (d := 1) hX hbl hL dL_law_518 dL_law_519 dL_law_520 dL_law_521 dL_law_522 rfl (by omega) ?_
  refine jl_arg (d := 2) hX hbl hL dL_law_523 dL_law_524 dL_law_525 dL_law_526 dL_law_527 rfl (by omega) ?_
  refine jl_arg (d := 3) hX hbl hL dL_law_528 dL_law_529 dL_law_530 dL_law_531 dL_law_532 rfl (by omega) ?_
  refine jl_arg (d := 4) hX hbl hL dL_law_533 dL_law_534 dL_law_535 dL_law_536 dL_law_537 rfl (by omega) ?_
  refine j_callP (wr := u_) (rest := [.int A]) c5 rfl cw_L_73 rfl (RB_fit b5 (Nat.le_of_ble_eq_true rfl)) b5.2.2 ⟨Nat.le_of_ble_eq_true rfl, Nat.le_of_ble_eq_true rfl⟩ dL_law_538 rfl (Nat.le_of_ble_eq_true rfl) rfl 5 hf5 rfl rfl (fun v_ w_ hf => ?_)
  obtain ⟨rfl, hM'⟩ := hf
  refine j_ws (st2 := [.int A, .int A]) rfl rfl ?_
  exact j_icmp_eq (tgt := 786) dL_law_541 (by decide) (fun _ => nx K' _ _ R' hC' hM') (fun q => absurd rfl q)

set_option maxHeartbeats 1000000 in
theorem lc_over {O : Nat} {X E F Y Z V : Nat → Nat} {P G : Nat → Nat → Nat} {M : Nat → Nat} {K : KT} {wC wM : va_W} {i : Nat} (hX : va_X b L xs s s.heap) (hbl : b < s.heap.size) (hL : L ≤ 2560) (hi : i + 5 ≤ L) (St : StB D O X E F Y Z V P G M K yX4_over cX4_over 2 yX5_over cX5_over 3 [.int (xs (i + 1))]) (hC : CE D O X E F Y Z V P G K wC) (hM : ME D M K wM) (nx : ∀ (K' : KT) (wC' wM' : va_W), RelP K' → CE D O X E F Y Z V P G K' wC' → ME D M K' wM' → J D (GL p e s m b below meth c) (yLw meth) code 4 ret room_1 (lw_Z below #[Value.ref b] s) 72 9486 (wC' ++ wM') 786 (lvL b O (M 0) i) []) : J D (GL p e s m b below meth c) (yLw meth) code 4 ret room_1 (lw_Z below #[Value.ref b] s) 72 9486 (wC ++ wM) 546 (lvL b O (M 0) i) [] := by
  obtain ⟨A, K', R', h4, h5⟩ := St
  obtain ⟨r4, c4, b4⟩ := h4 wC hC
  obtain ⟨r5, c5, b5⟩ := h5 wM hM
  obtain ⟨f5, hf5⟩ := ME_0 hM
  refine j_aload_n dL_law_546 1 rfl ?_
  refine jl_arg (d := 1) hX hbl hL dL_law_547 dL_law_548 dL_law_549 dL_law_550 dL_law_551 rfl (by omega) ?_
  refine j_callP (wr := wM) (rest := []) c4 rfl cw_L_74 rfl (RB_fit b4 (Nat.le_of_ble_eq_true rfl)) b4.2.2 ⟨Nat.le_of_ble_eq_true rfl, Nat.le_of_ble_eq_true rfl⟩ dL_law_552 rfl (Nat.le_of_ble_eq_true rfl) rfl 4 (CE_0 hC) rfl rfl (fun v_ u_ hf => ?_)
  obtain ⟨rfl, hC'⟩ := hf
  refine j_ws (st2 := [.int A]) rfl rfl ?_
  refine j_aload_n dL_law_555 2 rfl ?_
  refine jl_arg (d := 1) hX hbl hL dL_law_556 dL_law_557 dL_law_558 dL_law_559 dL_law_560 rfl (by omega) ?_
  refine j_callP (wr := u_) (rest := [.int A]) c5 rfl cw_L_77 rfl (RB_fit b5 (Nat.le_of_ble_eq_true rfl)) b5.2.2 ⟨Nat.le_of_ble_eq_true rfl, Nat.le_of_ble_eq_true rfl⟩ dL_law_561 rfl (Nat.le_of_ble_eq_true rfl) rfl 5 hf5 rfl rfl (fun v_ w_ hf => ?_)
  obtain ⟨rfl, hM'⟩ := hf
  refine j_ws (st2 := [.int A, .int A]) rfl rfl ?_
  exact j_icmp_eq (tgt := 786) dL_law_564 (by decide) (fun _ => nx K' _ _ R' hC' hM') (fun q => absurd rfl q)

set_option maxHeartbeats 1000000 in
theorem lc_lands {O : Nat} {X E F Y Z V : Nat → Nat} {P G : Nat → Nat → Nat} {M : Nat → Nat} {K : KT} {wC wM : va_W} {i : Nat} (hX : va_X b L xs s s.heap) (hbl : b < s.heap.size) (hL : L ≤ 2560) (hi : i + 5 ≤ L) (St : StB D O X E F Y Z V P G M K yX4_lands cX4_lands 2 yX5_lands cX5_lands 6 [.int (xs (i + 1))]) (hC : CE D O X E F Y Z V P G K wC) (hM : ME D M K wM) (nx : ∀ (K' : KT) (wC' wM' : va_W), RelP K' → CE D O X E F Y Z V P G K' wC' → ME D M K' wM' → J D (GL p e s m b below meth c) (yLw meth) code 4 ret room_1 (lw_Z below #[Value.ref b] s) 72 9486 (wC' ++ wM') 786 (lvL b O (M 0) i) []) : J D (GL p e s m b below meth c) (yLw meth) code 4 ret room_1 (lw_Z below #[Value.ref b] s) 72 9486 (wC ++ wM) 569 (lvL b O (M 0) i) [] := by
  obtain ⟨A, K', R', h4, h5⟩ := St
  obtain ⟨r4, c4, b4⟩ := h4 wC hC
  obtain ⟨r5, c5, b5⟩ := h5 wM hM
  obtain ⟨f5, hf5⟩ := ME_0 hM
  refine j_aload_n dL_law_569 1 rfl ?_
  refine jl_arg (d := 1) hX hbl hL dL_law_570 dL_law_571 dL_law_572 dL_law_573 dL_law_574 rfl (by omega) ?_
  refine j_callP (wr := wM) (rest := []) c4 rfl cw_L_78 rfl (RB_fit b4 (Nat.le_of_ble_eq_true rfl)) b4.2.2 ⟨Nat.le_of_ble_eq_true rfl, Nat.le_of_ble_eq_true rfl⟩ dL_law_575 rfl (Nat.le_of_ble_eq_true rfl) rfl 4 (CE_0 hC) rfl rfl (fun v_ u_ hf => ?_)
  obtain ⟨rfl, hC'⟩ := hf
  refine j_ws (st2 := [.int A]) rfl rfl ?_
  refine j_aload_n dL_law_578 2 rfl ?_
  refine jl_arg (d := 1) hX hbl hL dL_law_579 dL_law_580 dL_law_581 dL_law_582 dL_law_583 rfl (by omega) ?_
  refine j_callP (wr := u_) (rest := [.int A]) c5 rfl cw_L_81 rfl (RB_fit b5 (Nat.le_of_ble_eq_true rfl)) b5.2.2 ⟨Nat.le_of_ble_eq_true rfl, Nat.le_of_ble_eq_true rfl⟩ dL_law_584 rfl (Nat.le_of_ble_eq_true rfl) rfl 5 hf5 rfl rfl (fun v_ w_ hf => ?_)
  obtain ⟨rfl, hM'⟩ := hf
  refine j_ws (st2 := [.int A, .int A]) rfl rfl ?_
  exact j_icmp_eq (tgt := 786) dL_law_587 (by decide) (fun _ => nx K' _ _ R' hC' hM') (fun q => absurd rfl q)

set_option maxHeartbeats 1000000 in
theorem lc_enough {O : Nat} {X E F Y Z V : Nat → Nat} {P G : Nat → Nat → Nat} {M : Nat → Nat} {K : KT} {wC wM : va_W} {i : Nat} (hX : va_X b L xs s s.heap) (hbl : b < s.heap.size) (hL : L ≤ 2560) (hi : i + 5 ≤ L) (St : StB D O X E F Y Z V P G M K yX4_enough cX4_enough 4 yX5_enough cX5_enough 6 [.int (xs (i + 1)), .int (xs (i + 2))]) (hC : CE D O X E F Y Z V P G K wC) (hM : ME D M K wM) (nx : ∀ (K' : KT) (wC' wM' : va_W), RelP K' → CE D O X E F Y Z V P G K' wC' → ME D M K' wM' → J D (GL p e s m b below meth c) (yLw meth) code 4 ret room_1 (lw_Z below #[Value.ref b] s) 72 9486 (wC' ++ wM') 786 (lvL b O (M 0) i) []) : J D (GL p e s m b below meth c) (yLw meth) code 4 ret room_1 (lw_Z below #[Value.ref b] s) 72 9486 (wC ++ wM) 592 (lvL b O (M 0) i) [] := by
  obtain ⟨A, K', R', h4, h5⟩ := St
  obtain ⟨r4, c4, b4⟩ := h4 wC hC
  obtain ⟨r5, c5, b5⟩ := h5 wM hM
  obtain ⟨f5, hf5⟩ := ME_0 hM
  refine j_aload_n dL_law_592 1 rfl ?_
  refine jl_arg (d := 1) hX hbl hL dL_law_593 dL_law_594 dL_law_595 dL_law_596 dL_law_597 rfl (by omega) ?_
  refine jl_arg (d := 2) hX hbl hL dL_law_598 dL_law_599 dL_law_600 dL_law_601 dL_law_602 rfl (by omega) ?_
  refine j_callP (wr := wM) (rest := []) c4 rfl cw_L_82 rfl (RB_fit b4 (Nat.le_of_ble_eq_true rfl)) b4.2.2 ⟨Nat.le_of_ble_eq_true rfl, Nat.le_of_ble_eq_true rfl⟩ dL_law_603 rfl (Nat.le_of_ble_eq_true rfl) rfl 4 (CE_0 hC) rfl rfl (fun v_ u_ hf => ?_)
  obtain ⟨rfl, hC'⟩ := hf
  refine j_ws (st2 := [.int A]) rfl rfl ?_
  refine j_aload_n dL_law_606 2 rfl ?_
  refine jl_arg (d := 1) hX hbl hL dL_law_607 dL_law_608 dL_law_609 dL_law_610 dL_law_611 rfl (by omega) ?_
  refine jl_arg (d := 2) hX hbl hL dL_law_612 dL_law_613 dL_law_614 dL_law_615 dL_law_616 rfl (by omega) ?_
  refine j_callP (wr := u_) (rest := [.int A]) c5 rfl cw_L_85 rfl (RB_fit b5 (Nat.le_of_ble_eq_true rfl)) b5.2.2 ⟨Nat.le_of_ble_eq_true rfl, Nat.le_of_ble_eq_true rfl⟩ dL_law_617 rfl (Nat.le_of_ble_eq_true rfl) rfl 5 hf5 rfl rfl (fun v_ w_ hf => ?_)
  obtain ⟨rfl, hM'⟩ := hf
  refine j_ws (st2 := [.int A, .int A]) rfl rfl ?_
  exact j_icmp_eq (tgt := 786) dL_law_620 (by decide) (fun _ => nx K' _ _ R' hC' hM') (fun q => absurd rfl q)

set_option maxHeartbeats 1000000 in
theorem lc_granted {O : Nat} {X E F Y Z V : Nat → Nat} {P G : Nat → Nat → Nat} {M : Nat → Nat} {K : KT} {wC wM : va_W} {i : Nat} (hX : va_X b L xs s s.heap) (hbl : b < s.heap.size) (hL : L ≤ 2560) (hi : i + 5 ≤ L) (St : StB D O X E F Y Z V P G M K yX4_granted cX4_granted 3 yX5_granted cX5_granted 4 [.int (xs (i + 1))]) (hC : CE D O X E F Y Z V P G K wC) (hM : ME D M K wM) (nx : ∀ (K' : KT) (wC' wM' : va_W), RelP K' → CE D O X E F Y Z V P G K' wC' → ME D M K' wM' → J D (GL p e s m b below meth c) (yLw meth) code 4 ret room_1 (lw_Z below #[Value.ref b] s) 72 9486 (wC' ++ wM') 786 (lvL b O (M 0) i) []) : J D (GL p e s m b below meth c) (yLw meth) code 4 ret room_1 (lw_Z below #[Value.ref b] s) 72 9486 (wC ++ wM) 625 (lvL b O (M 0) i) [] := by
  obtain ⟨A, K', R', h4, h5⟩ := St
  obtain ⟨r4, c4, b4⟩ := h4 wC hC
  obtain ⟨r5, c5, b5⟩ := h5 wM hM
  obtain ⟨f5, hf5⟩ := ME_0 hM
  refine j_aload_n dL_law_625 1 rfl ?_
  refine jl_arg (d := 1) hX hbl hL dL_law_626 dL_law_627 dL_law_628 dL_law_629 dL_law_630 rfl (by omega) ?_
  refine j_callP (wr := wM) (rest := []) c4 rfl cw_L_86 rfl (RB_fit b4 (Nat.le_of_ble_eq_true rfl)) b4.2.2 ⟨Nat.le_of_ble_eq_true rfl, Nat.le_of_ble_eq_true rfl⟩ dL_law_631 rfl (Nat.le_of_ble_eq_true rfl) rfl 4 (CE_0 hC) rfl rfl (fun v_ u_ hf => ?_)
  obtain ⟨rfl, hC'⟩ := hf
  refine j_ws (st2 := [.int A]) rfl rfl ?_
  refine j_aload_n dL_law_634 2 rfl ?_
  refine jl_arg (d := 1) hX hbl hL dL_law_635 dL_law_636 dL_law_637 dL_law_638 dL_law_639 rfl (by omega) ?_
  refine j_callP (wr := u_) (rest := [.int A]) c5 rfl cw_L_89 rfl (RB_fit b5 (Nat.le_of_ble_eq_true rfl)) b5.2.2 ⟨Nat.le_of_ble_eq_true rfl, Nat.le_of_ble_eq_true rfl⟩ dL_law_640 rfl (Nat.le_of_ble_eq_true rfl) rfl 5 hf5 rfl rfl (fun v_ w_ hf => ?_)
  obtain ⟨rfl, hM'⟩ := hf
  refine j_ws (st2 := [.int A, .int A]) rfl rfl ?_
  exact j_icmp_eq (tgt := 786) dL_law_643 (by decide) (fun _ => nx K' _ _ R' hC' hM') (fun q => absurd rfl q)

set_option maxHeartbeats 1000000 in
theorem lc_sees {O : Nat} {X E F Y Z V : Nat → Nat} {P G : Nat → Nat → Nat} {M : Nat → Nat} {K : KT} {wC wM : va_W} {i : Nat} (hX : va_X b L xs s s.heap) (hbl : b < s.heap.size) (hL : L ≤ 2560) (hi : i + 5 ≤ L) (St : StB D O X E F Y Z V P G M K yX4_sees cX4_sees 3 yX5_sees cX5_sees 3 [.int (xs (i + 1)), .int (xs (i + 2))]) (hC : CE D O X E F Y Z V P G K wC) (hM : ME D M K wM) (nx : ∀ (K' : KT) (wC' wM' : va_W), RelP K' → CE D O X E F Y Z V P G K' wC' → ME D M K' wM' → J D (GL p e s m b below meth c) (yLw meth) code 4 ret room_1 (lw_Z below #[Value.ref b] s) 72 9486 (wC' ++ wM') 786 (lvL b O (M 0) i) []) : J D (GL p e s m b below meth c) (yLw meth) code 4 ret room_1 (lw_Z below #[Value.ref b] s) 72 9486 (wC ++ wM) 648 (lvL b O (M 0) i) [] := by
  obtain ⟨A, K', R', h4, h5⟩ := St
  obtain ⟨r4, c4, b4⟩ := h4 wC hC
  obtain ⟨r5, c5, b5⟩ := h5 wM hM
  obtain ⟨f5, hf5⟩ := ME_0 hM
  refine j_aload_n dL_law_648 1 rfl ?_
  refine jl_arg (d := 1) hX hbl hL dL_law_649 dL_law_650 dL_law_651 dL_law_652 dL_law_653 rfl (by omega) ?_
  refine jl_arg (d := 2) hX hbl hL dL_law_654 dL_law_655 dL_law_656 dL_law_657 dL_law_658 rfl (by omega) ?_
  refine j_callP (wr := wM) (rest := []) c4 rfl cw_L_90 rfl (RB_fit b4 (Nat.le_of_ble_eq_true rfl)) b4.2.2 ⟨Nat.le_of_ble_eq_true rfl, Nat.le_of_ble_eq_true rfl⟩ dL_law_659 rfl (Nat.le_of_ble_eq_true rfl) rfl 4 (CE_0 hC) rfl rfl (fun v_ u_ hf => ?_)
  obtain ⟨rfl, hC'⟩ := hf
  refine j_ws (st2 := [.int A]) rfl rfl ?_
  refine j_aload_n dL_law_662 2 rfl ?_
  refine jl_arg (d := 1) hX hbl hL dL_law_663 dL_law_664 dL_law_665 dL_law_666 dL_law_667 rfl (by omega) ?_
  refine jl_arg (d := 2) hX hbl hL dL_law_668 dL_law_669 dL_law_670 dL_law_671 dL_law_672 rfl (by omega) ?_
  refine j_callP (wr := u_) (rest := [.int A]) c5 rfl cw_L_93 rfl (RB_fit b5 (Nat.le_of_ble_eq_true rfl)) b5.2.2 ⟨Nat.le_of_ble_eq_true rfl, Nat.le_of_ble_eq_true rfl⟩ dL_law_673 rfl (Nat.le_of_ble_eq_true rfl) rfl 5 hf5 rfl rfl (fun v_ w_ hf => ?_)
  obtain ⟨rfl, hM'⟩ := hf
  refine j_ws (st2 := [.int A, .int A]) rfl rfl ?_
  exact j_icmp_eq (tgt := 786) dL_law_676 (by decide) (fun _ => nx K' _ _ R' hC' hM') (fun q => absurd rfl q)

set_option maxHeartbeats 1000000 in
theorem lc_forget {O : Nat} {X E F Y Z V : Nat → Nat} {P G : Nat → Nat → Nat} {M : Nat → Nat} {K : KT} {wC wM : va_W} {i : Nat} (hX : va_X b L xs s s.heap) (hbl : b < s.heap.size) (hL : L ≤ 2560) (hi : i + 5 ≤ L) (St : StB D O X E F Y Z V P G M K yX4_forget cX4_forget 2 yX5_forget cX5_forget 2 []) (hC : CE D O X E F Y Z V P G K wC) (hM : ME D M K wM) (nx : ∀ (K' : KT) (wC' wM' : va_W), RelP K' → CE D O X E F Y Z V P G K' wC' → ME D M K' wM' → J D (GL p e s m b below meth c) (yLw meth) code 4 ret room_1 (lw_Z below #[Value.ref b] s) 72 9486 (wC' ++ wM') 786 (lvL b O (M 0) i) []) : J D (GL p e s m b below meth c) (yLw meth) code 4 ret room_1 (lw_Z below #[Value.ref b] s) 72 9486 (wC ++ wM) 681 (lvL b O (M 0) i) [] := by
  obtain ⟨A, K', R', h4, h5⟩ := St
  obtain ⟨r4, c4, b4⟩ := h4 wC hC
  obtain ⟨r5, c5, b5⟩ := h5 wM hM
  obtain ⟨f5, hf5⟩ := ME_0 hM
  refine j_aload_n dL_law_681 1 rfl ?_
  refine j_callP (wr := wM) (rest := []) c4 rfl cw_L_94 rfl (RB_fit b4 (Nat.le_of_ble_eq_true rfl)) b4.2.2 ⟨Nat.le_of_ble_eq_true rfl, Nat.le_of_ble_eq_true rfl⟩ dL_law_682 rfl (Nat.le_of_ble_eq_true rfl) rfl 4 (CE_0 hC) rfl rfl (fun v_ u_ hf => ?_)
  obtain ⟨rfl, hC'⟩ := hf
  refine j_ws (st2 := [.int A]) rfl rfl ?_
  refine j_aload_n dL_law_685 2 rfl ?_
  refine j_callP (wr := u_) (rest := [.int A]) c5 rfl cw_L_97 rfl (RB_fit b5 (Nat.le_of_ble_eq_true rfl)) b5.2.2 ⟨Nat.le_of_ble_eq_true rfl, Nat.le_of_ble_eq_true rfl⟩ dL_law_686 rfl (Nat.le_of_ble_eq_true rfl) rfl 5 hf5 rfl rfl (fun v_ w_ hf => ?_)
  obtain ⟨rfl, hM'⟩ := hf
  refine j_ws (st2 := [.int A, .int A]) rfl rfl ?_
  exact j_icmp_eq (tgt := 786) dL_law_689 (by decide) (fun _ => nx K' _ _ R' hC' hM') (fun q => absurd rfl q)

set_option maxHeartbeats 1000000 in
theorem lc_ranks {O : Nat} {X E F Y Z V : Nat → Nat} {P G : Nat → Nat → Nat} {M : Nat → Nat} {K : KT} {wC wM : va_W} {i : Nat} (hX : va_X b L xs s s.heap) (hbl : b < s.heap.size) (hL : L ≤ 2560) (hi : i + 5 ≤ L) (St : StB D O X E F Y Z V P G M K yX4_ranks cX4_ranks 4 yX5_ranks cX5_ranks 4 [.int (xs (i + 1))]) (hC : CE D O X E F Y Z V P G K wC) (hM : ME D M K wM) (nx : ∀ (K' : KT) (wC' wM' : va_W), RelP K' → CE D O X E F Y Z V P G K' wC' → ME D M K' wM' → J D (GL p e s m b below meth c) (yLw meth) code 4 ret room_1 (lw_Z below #[Value.ref b] s) 72 9486 (wC' ++ wM') 786 (lvL b O (M 0) i) []) : J D (GL p e s m b below meth c) (yLw meth) code 4 ret room_1 (lw_Z below #[Value.ref b] s) 72 9486 (wC ++ wM) 694 (lvL b O (M 0) i) [] := by
  obtain ⟨A, K', R', h4, h5⟩ := St
  obtain ⟨r4, c4, b4⟩ := h4 wC hC
  obtain ⟨r5, c5, b5⟩ := h5 wM hM
  obtain ⟨f5, hf5⟩ := ME_0 hM
  refine j_aload_n dL_law_694 1 rfl ?_
  refine jl_arg (d := 1) hX hbl hL dL_law_695 dL_law_696 dL_law_697 dL_law_698 dL_law_699 rfl (by omega) ?_
  refine j_callP (wr := wM) (rest := []) c4 rfl cw_L_98 rfl (RB_fit b4 (Nat.le_of_ble_eq_true rfl)) b4.2.2 ⟨Nat.le_of_ble_eq_true rfl, Nat.le_of_ble_eq_true rfl⟩ dL_law_700 rfl (Nat.le_of_ble_eq_true rfl) rfl 4 (CE_0 hC) rfl rfl (fun v_ u_ hf => ?_)
  obtain ⟨rfl, hC'⟩ := hf
  refine j_ws (st2 := [.int A]) rfl rfl ?_
  refine j_aload_n dL_law_703 2 rfl ?_
  refine jl_arg (d := 1) hX hbl hL dL_law_704 dL_law_705 dL_law_706 dL_law_707 dL_law_708 rfl (by omega) ?_
  refine j_callP (wr := u_) (rest := [.int A]) c5 rfl cw_L_101 rfl (RB_fit b5 (Nat.le_of_ble_eq_true rfl)) b5.2.2 ⟨Nat.le_of_ble_eq_true rfl, Nat.le_of_ble_eq_true rfl⟩ dL_law_709 rfl (Nat.le_of_ble_eq_true rfl) rfl 5 hf5 rfl rfl (fun v_ w_ hf => ?_)
  obtain ⟨rfl, hM'⟩ := hf
  refine j_ws (st2 := [.int A, .int A]) rfl rfl ?_
  exact j_icmp_eq (tgt := 786) dL_law_712 (by decide) (fun _ => nx K' _ _ R' hC' hM') (fun q => absurd rfl q)

set_option maxHeartbeats 1000000 in
theorem lc_keep {O : Nat} {X E F Y Z V : Nat → Nat} {P G : Nat → Nat → Nat} {M : Nat → Nat} {K : KT} {wC wM : va_W} {i : Nat} (hX : va_X b L xs s s.heap) (hbl : b < s.heap.size) (hL : L ≤ 2560) (hi : i + 5 ≤ L) (St : StB D O X E F Y Z V P G M K yX4_keep cX4_keep 2 yX5_keep cX5_keep 3 [.int (xs (i + 1))]) (hC : CE D O X E F Y Z V P G K wC) (hM : ME D M K wM) (nx : ∀ (K' : KT) (wC' wM' : va_W), RelP K' → CE D O X E F Y Z V P G K' wC' → ME D M K' wM' → J D (GL p e s m b below meth c) (yLw meth) code 4 ret room_1 (lw_Z below #[Value.ref b] s) 72 9486 (wC' ++ wM') 786 (lvL b O (M 0) i) []) : J D (GL p e s m b below meth c) (yLw meth) code 4 ret room_1 (lw_Z below #[Value.ref b] s) 72 9486 (wC ++ wM) 717 (lvL b O (M 0) i) [] := by
  obtain ⟨A, K', R', h4, h5⟩ := St
  obtain ⟨r4, c4, b4⟩ := h4 wC hC
  obtain ⟨r5, c5, b5⟩ := h5 wM hM
  obtain ⟨f5, hf5⟩ := ME_0 hM
  refine j_aload_n dL_law_717 1 rfl ?_
  refine jl_arg (d := 1) hX hbl hL dL_law_718 dL_law_719 dL_law_720 dL_law_721 dL_law_722 rfl (by omega) ?_
  refine j_callP (wr := wM) (rest := []) c4 rfl cw_L_102 rfl (RB_fit b4 (Nat.le_of_ble_eq_true rfl)) b4.2.2 ⟨Nat.le_of_ble_eq_true rfl, Nat.le_of_ble_eq_true rfl⟩ dL_law_723 rfl (Nat.le_of_ble_eq_true rfl) rfl 4 (CE_0 hC) rfl rfl (fun v_ u_ hf => ?_)
  obtain ⟨rfl, hC'⟩ := hf
  refine j_ws (st2 := [.int A]) rfl rfl ?_
  refine j_aload_n dL_law_726 2 rfl ?_
  refine jl_arg (d := 1) hX hbl hL dL_law_727 dL_law_728 dL_law_729 dL_law_730 dL_law_731 rfl (by omega) ?_
  refine j_callP (wr := u_) (rest := [.int A]) c5 rfl cw_L_105 rfl (RB_fit b5 (Nat.le_of_ble_eq_true rfl)) b5.2.2 ⟨Nat.le_of_ble_eq_true rfl, Nat.le_of_ble_eq_true rfl⟩ dL_law_732 rfl (Nat.le_of_ble_eq_true rfl) rfl 5 hf5 rfl rfl (fun v_ w_ hf => ?_)
  obtain ⟨rfl, hM'⟩ := hf
  refine j_ws (st2 := [.int A, .int A]) rfl rfl ?_
  exact j_icmp_eq (tgt := 786) dL_law_735 (by decide) (fun _ => nx K' _ _ R' hC' hM') (fun q => absurd rfl q)

set_option maxHeartbeats 1000000 in
theorem lc_back {O : Nat} {X E F Y Z V : Nat → Nat} {P G : Nat → Nat → Nat} {M : Nat → Nat} {K : KT} {wC wM : va_W} {i : Nat} (hX : va_X b L xs s s.heap) (hbl : b < s.heap.size) (hL : L ≤ 2560) (hi : i + 5 ≤ L) (St : StB D O X E F Y Z V P G M K yX4_back cX4_back 2 yX5_back cX5_back 3 [.int (xs (i + 1))]) (hC : CE D O X E F Y Z V P G K wC) (hM : ME D M K wM) (nx : ∀ (K' : KT) (wC' wM' : va_W), RelP K' → CE D O X E F Y Z V P G K' wC' → ME D M K' wM' → J D (GL p e s m b below meth c) (yLw meth) code 4 ret room_1 (lw_Z below #[Value.ref b] s) 72 9486 (wC' ++ wM') 786 (lvL b O (M 0) i) []) : J D (GL p e s m b below meth c) (yLw meth) code 4 ret room_1 (lw_Z below #[Value.ref b] s) 72 9486 (wC ++ wM) 740 (lvL b O (M 0) i) [] := by
  obtain ⟨A, K', R', h4, h5⟩ := St
  obtain ⟨r4, c4, b4⟩ := h4 wC hC
  obtain ⟨r5, c5, b5⟩ := h5 wM hM
  obtain ⟨f5, hf5⟩ := ME_0 hM
  refine j_aload_n dL_law_740 1 rfl ?_
  refine jl_arg (d := 1) hX hbl hL dL_law_741 dL_law_742 dL_law_743 dL_law_744 dL_law_745 rfl (by omega) ?_
  refine j_callP (wr := wM) (rest := []) c4 rfl cw_L_106 rfl (RB_fit b4 (Nat.le_of_ble_eq_true rfl)) b4.2.2 ⟨Nat.le_of_ble_eq_true rfl, Nat.le_of_ble_eq_true rfl⟩ dL_law_746 rfl (Nat.le_of_ble_eq_true rfl) rfl 4 (CE_0 hC) rfl rfl (fun v_ u_ hf => ?_)
  obtain ⟨rfl, hC'⟩ := hf
  refine j_ws (st2 := [.int A]) rfl rfl ?_
  refine j_aload_n dL_law_749 2 rfl ?_
  refine jl_arg (d := 1) hX hbl hL dL_law_750 dL_law_751 dL_law_752 dL_law_753 dL_law_754 rfl (by omega) ?_
  refine j_callP (wr := u_) (rest := [.int A]) c5 rfl cw_L_109 rfl (RB_fit b5 (Nat.le_of_ble_eq_true rfl)) b5.2.2 ⟨Nat.le_of_ble_eq_true rfl, Nat.le_of_ble_eq_true rfl⟩ dL_law_755 rfl (Nat.le_of_ble_eq_true rfl) rfl 5 hf5 rfl rfl (fun v_ w_ hf => ?_)
  obtain ⟨rfl, hM'⟩ := hf
  refine j_ws (st2 := [.int A, .int A]) rfl rfl ?_
  exact j_icmp_eq (tgt := 786) dL_law_758 (by decide) (fun _ => nx K' _ _ R' hC' hM') (fun q => absurd rfl q)

set_option maxHeartbeats 1000000 in
theorem lc_count {O : Nat} {X E F Y Z V : Nat → Nat} {P G : Nat → Nat → Nat} {M : Nat → Nat} {K : KT} {wC wM : va_W} {i : Nat} (hX : va_X b L xs s s.heap) (hbl : b < s.heap.size) (hL : L ≤ 2560) (hi : i + 5 ≤ L) (St : StB D O X E F Y Z V P G M K yX4_count cX4_count 2 yX5_count cX5_count 2 [.int (xs (i + 1))]) (hC : CE D O X E F Y Z V P G K wC) (hM : ME D M K wM) (nx : ∀ (K' : KT) (wC' wM' : va_W), RelP K' → CE D O X E F Y Z V P G K' wC' → ME D M K' wM' → J D (GL p e s m b below meth c) (yLw meth) code 4 ret room_1 (lw_Z below #[Value.ref b] s) 72 9486 (wC' ++ wM') 786 (lvL b O (M 0) i) []) : J D (GL p e s m b below meth c) (yLw meth) code 4 ret room_1 (lw_Z below #[Value.ref b] s) 72 9486 (wC ++ wM) 763 (lvL b O (M 0) i) [] := by
  obtain ⟨A, K', R', h4, h5⟩ := St
  obtain ⟨r4, c4, b4⟩ := h4 wC hC
  obtain ⟨r5, c5, b5⟩ := h5 wM hM
  obtain ⟨f5, hf5⟩ := ME_0 hM
  refine j_aload_n dL_law_763 1 rfl ?_
  refine jl_arg (d := 1) hX hbl hL dL_law_764 dL_law_765 dL_law_766 dL_law_767 dL_law_768 rfl (by omega) ?_
  refine j_callP (wr := wM) (rest := []) c4 rfl cw_L_110 rfl (RB_fit b4 (Nat.le_of_ble_eq_true rfl)) b4.2.2 ⟨Nat.le_of_ble_eq_true rfl, Nat.le_of_ble_eq_true rfl⟩ dL_law_769 rfl (Nat.le_of_ble_eq_true rfl) rfl 4 (CE_0 hC) rfl rfl (fun v_ u_ hf => ?_)
  obtain ⟨rfl, hC'⟩ := hf
  refine j_ws (st2 := [.int A]) rfl rfl ?_
  refine j_aload_n dL_law_772 2 rfl ?_
  refine jl_arg (d := 1) hX hbl hL dL_law_773 dL_law_774 dL_law_775 dL_law_776 dL_law_777 rfl (by omega) ?_
  refine j_callP (wr := u_) (rest := [.int A]) c5 rfl cw_L_113 rfl (RB_fit b5 (Nat.le_of_ble_eq_true rfl)) b5.2.2 ⟨Nat.le_of_ble_eq_true rfl, Nat.le_of_ble_eq_true rfl⟩ dL_law_778 rfl (Nat.le_of_ble_eq_true rfl) rfl 5 hf5 rfl rfl (fun v_ w_ hf => ?_)
  obtain ⟨rfl, hM'⟩ := hf
  refine j_ws (st2 := [.int A, .int A]) rfl rfl ?_
  exact j_icmp_eq (tgt := 786) dL_law_781 (by decide) (fun _ => nx K' _ _ R' hC' hM') (fun q => absurd rfl q)
end LW2
