/-! ===== BEGIN the law: its cases ===== -/
section LC
variable {G : GT} {l : Launch} {p : Program} {e : Env} {s : State} {m : MethodId} {below : List Frame} {meth : Method} {c : Code} {b0 L i : Nat} {xs : Nat → Int32} {H : Heap}
set_option maxHeartbeats 1000000 in
theorem lc_feed (hX : va_X b0 L xs s s.heap) (hb0 : b0 < s.heap.size) (hi : i + 4 ≤ L) (hL : L ≤ 256) (hS : SS G H s.heap.size) (k : ∀ H1 : Heap, SS G H1 s.heap.size → LX G l p e s m below meth c b0 1080 [(0, .ref b0), (1, .ref s.heap.size), (2, .ref (s.heap.size + 120)), (3, .int (nI i))] [] H1) : LX G l p e s m below meth c b0 192 [(0, .ref b0), (1, .ref s.heap.size), (2, .ref (s.heap.size + 120)), (3, .int (nI i))] [] H := by
  obtain ⟨r, fs, ho, hM⟩ := j_feed (B := s.heap.size) (l := l) (x := xs (i + 1)) (Nat.le_refl _) hS
  refine b_aload_n 1 dL_law_192 rfl rfl ?_
  refine b_aload_n 0 dL_law_193 rfl rfl ?_
  refine b_iload_n 3 dL_law_194 rfl rfl ?_
  refine b_iconst 1 dL_law_195 (by decide) ?_
  refine b_iaddN (a := i) (b := 1) dL_law_196 ?_
  refine b_sld (j := i + 1) hX hb0 rfl (by omega) (by omega) dL_law_197 ?_
  refine b_callVi (As := [.int (xs (i + 1))]) (rest := []) (d := 1) (mc := 0) (ms := 0) (ci := 6) l_L_13 im_X6_feed se_X6_feed ⟨_, rfl, rfl⟩ dL_law_198 ⟨(Nat.le_of_ble_eq_true rfl), (Nat.le_of_ble_eq_true rfl)⟩ rfl (Nat.le_of_ble_eq_true rfl) ⟨(Nat.le_of_ble_eq_true rfl), (Nat.le_of_ble_eq_true rfl)⟩ ho hM (fun H1 hp => ?_)
  obtain ⟨⟨fs2, ho2⟩, hM2⟩ := hp
  refine b_aload_n 2 dL_law_201 rfl rfl ?_
  refine b_aload_n 0 dL_law_202 rfl rfl ?_
  refine b_iload_n 3 dL_law_203 rfl rfl ?_
  refine b_iconst 1 dL_law_204 (by decide) ?_
  refine b_iaddN (a := i) (b := 1) dL_law_205 ?_
  refine b_sld (j := i + 1) hX hb0 rfl (by omega) (by omega) dL_law_206 ?_
  refine b_callVi (As := [.int (xs (i + 1))]) (rest := [.int r]) (d := 1) (mc := 0) (ms := 0) (ci := 7) l_L_17 im_X7_feed se_X7_feed ⟨_, rfl, rfl⟩ dL_law_207 ⟨(Nat.le_of_ble_eq_true rfl), (Nat.le_of_ble_eq_true rfl)⟩ rfl (Nat.le_of_ble_eq_true rfl) ⟨(Nat.le_of_ble_eq_true rfl), (Nat.le_of_ble_eq_true rfl)⟩ ho2 hM2 (fun H2 hp => ?_)
  exact b_icmpeq 1080 dL_law_210 (by decide) (fun _ => k _ hp) (fun h => absurd rfl h)
set_option maxHeartbeats 1000000 in
theorem lc_kitchen (hX : va_X b0 L xs s s.heap) (hb0 : b0 < s.heap.size) (hi : i + 4 ≤ L) (hL : L ≤ 256) (hS : SS G H s.heap.size) (k : ∀ H1 : Heap, SS G H1 s.heap.size → LX G l p e s m below meth c b0 1080 [(0, .ref b0), (1, .ref s.heap.size), (2, .ref (s.heap.size + 120)), (3, .int (nI i))] [] H1) : LX G l p e s m below meth c b0 215 [(0, .ref b0), (1, .ref s.heap.size), (2, .ref (s.heap.size + 120)), (3, .int (nI i))] [] H := by
  obtain ⟨r, fs, ho, hM⟩ := j_kitchen (B := s.heap.size) (l := l) (Nat.le_refl _) hS
  refine b_aload_n 1 dL_law_215 rfl rfl ?_
  refine b_callVi (As := []) (rest := []) (d := 5) (mc := 0) (ms := 0) (ci := 6) l_L_18 im_X6_kitchen se_X6_kitchen ⟨_, rfl, rfl⟩ dL_law_216 ⟨(Nat.le_of_ble_eq_true rfl), (Nat.le_of_ble_eq_true rfl)⟩ rfl (Nat.le_of_ble_eq_true rfl) ⟨(Nat.le_of_ble_eq_true rfl), (Nat.le_of_ble_eq_true rfl)⟩ ho hM (fun H1 hp => ?_)
  obtain ⟨⟨fs2, ho2⟩, hM2⟩ := hp
  refine b_aload_n 2 dL_law_219 rfl rfl ?_
  refine b_callVi (As := []) (rest := [.int r]) (d := 6) (mc := 0) (ms := 0) (ci := 7) l_L_22 im_X7_kitchen se_X7_kitchen ⟨_, rfl, rfl⟩ dL_law_220 ⟨(Nat.le_of_ble_eq_true rfl), (Nat.le_of_ble_eq_true rfl)⟩ rfl (Nat.le_of_ble_eq_true rfl) ⟨(Nat.le_of_ble_eq_true rfl), (Nat.le_of_ble_eq_true rfl)⟩ ho2 hM2 (fun H2 hp => ?_)
  exact b_icmpeq 1080 dL_law_223 (by decide) (fun _ => k _ hp) (fun h => absurd rfl h)
set_option maxHeartbeats 1000000 in
theorem lc_fault (hX : va_X b0 L xs s s.heap) (hb0 : b0 < s.heap.size) (hi : i + 4 ≤ L) (hL : L ≤ 256) (hS : SS G H s.heap.size) (k : ∀ H1 : Heap, SS G H1 s.heap.size → LX G l p e s m below meth c b0 1080 [(0, .ref b0), (1, .ref s.heap.size), (2, .ref (s.heap.size + 120)), (3, .int (nI i))] [] H1) : LX G l p e s m below meth c b0 228 [(0, .ref b0), (1, .ref s.heap.size), (2, .ref (s.heap.size + 120)), (3, .int (nI i))] [] H := by
  obtain ⟨r, fs, ho, hM⟩ := j_fault (B := s.heap.size) (l := l) (Nat.le_refl _) hS
  refine b_aload_n 1 dL_law_228 rfl rfl ?_
  refine b_callVi (As := []) (rest := []) (d := 0) (mc := 0) (ms := 0) (ci := 6) l_L_23 im_X6_fault se_X6_fault ⟨_, rfl, rfl⟩ dL_law_229 ⟨(Nat.le_of_ble_eq_true rfl), (Nat.le_of_ble_eq_true rfl)⟩ rfl (Nat.le_of_ble_eq_true rfl) ⟨(Nat.le_of_ble_eq_true rfl), (Nat.le_of_ble_eq_true rfl)⟩ ho hM (fun H1 hp => ?_)
  obtain ⟨⟨fs2, ho2⟩, hM2⟩ := hp
  refine b_aload_n 2 dL_law_232 rfl rfl ?_
  refine b_callVi (As := []) (rest := [.int r]) (d := 0) (mc := 0) (ms := 0) (ci := 7) l_L_26 im_X7_fault se_X7_fault ⟨_, rfl, rfl⟩ dL_law_233 ⟨(Nat.le_of_ble_eq_true rfl), (Nat.le_of_ble_eq_true rfl)⟩ rfl (Nat.le_of_ble_eq_true rfl) ⟨(Nat.le_of_ble_eq_true rfl), (Nat.le_of_ble_eq_true rfl)⟩ ho2 hM2 (fun H2 hp => ?_)
  exact b_icmpeq 1080 dL_law_236 (by decide) (fun _ => k _ hp) (fun h => absurd rfl h)
set_option maxHeartbeats 1000000 in
theorem lc_told (hX : va_X b0 L xs s s.heap) (hb0 : b0 < s.heap.size) (hi : i + 4 ≤ L) (hL : L ≤ 256) (hS : SS G H s.heap.size) (k : ∀ H1 : Heap, SS G H1 s.heap.size → LX G l p e s m below meth c b0 1080 [(0, .ref b0), (1, .ref s.heap.size), (2, .ref (s.heap.size + 120)), (3, .int (nI i))] [] H1) : LX G l p e s m below meth c b0 241 [(0, .ref b0), (1, .ref s.heap.size), (2, .ref (s.heap.size + 120)), (3, .int (nI i))] [] H := by
  obtain ⟨r, fs, ho, hM⟩ := j_told (B := s.heap.size) (l := l) (x := xs (i + 1)) (Nat.le_refl _) hS
  refine b_aload_n 1 dL_law_241 rfl rfl ?_
  refine b_aload_n 0 dL_law_242 rfl rfl ?_
  refine b_iload_n 3 dL_law_243 rfl rfl ?_
  refine b_iconst 1 dL_law_244 (by decide) ?_
  refine b_iaddN (a := i) (b := 1) dL_law_245 ?_
  refine b_sld (j := i + 1) hX hb0 rfl (by omega) (by omega) dL_law_246 ?_
  refine b_callVi (As := [.int (xs (i + 1))]) (rest := []) (d := 2) (mc := 0) (ms := 0) (ci := 6) l_L_27 im_X6_told se_X6_told ⟨_, rfl, rfl⟩ dL_law_247 ⟨(Nat.le_of_ble_eq_true rfl), (Nat.le_of_ble_eq_true rfl)⟩ rfl (Nat.le_of_ble_eq_true rfl) ⟨(Nat.le_of_ble_eq_true rfl), (Nat.le_of_ble_eq_true rfl)⟩ ho hM (fun H1 hp => ?_)
  obtain ⟨⟨fs2, ho2⟩, hM2⟩ := hp
  refine b_aload_n 2 dL_law_250 rfl rfl ?_
  refine b_aload_n 0 dL_law_251 rfl rfl ?_
  refine b_iload_n 3 dL_law_252 rfl rfl ?_
  refine b_iconst 1 dL_law_253 (by decide) ?_
  refine b_iaddN (a := i) (b := 1) dL_law_254 ?_
  refine b_sld (j := i + 1) hX hb0 rfl (by omega) (by omega) dL_law_255 ?_
  refine b_callVi (As := [.int (xs (i + 1))]) (rest := [.int r]) (d := 1) (mc := 0) (ms := 0) (ci := 7) l_L_30 im_X7_told se_X7_told ⟨_, rfl, rfl⟩ dL_law_256 ⟨(Nat.le_of_ble_eq_true rfl), (Nat.le_of_ble_eq_true rfl)⟩ rfl (Nat.le_of_ble_eq_true rfl) ⟨(Nat.le_of_ble_eq_true rfl), (Nat.le_of_ble_eq_true rfl)⟩ ho2 hM2 (fun H2 hp => ?_)
  exact b_icmpeq 1080 dL_law_259 (by decide) (fun _ => k _ hp) (fun h => absurd rfl h)
set_option maxHeartbeats 1000000 in
theorem lc_word (hX : va_X b0 L xs s s.heap) (hb0 : b0 < s.heap.size) (hi : i + 4 ≤ L) (hL : L ≤ 256) (hS : SS G H s.heap.size) (k : ∀ H1 : Heap, SS G H1 s.heap.size → LX G l p e s m below meth c b0 1080 [(0, .ref b0), (1, .ref s.heap.size), (2, .ref (s.heap.size + 120)), (3, .int (nI i))] [] H1) : LX G l p e s m below meth c b0 264 [(0, .ref b0), (1, .ref s.heap.size), (2, .ref (s.heap.size + 120)), (3, .int (nI i))] [] H := by
  obtain ⟨r, fs, ho, hM⟩ := j_word (B := s.heap.size) (l := l) (x := xs (i + 1)) (y := xs (i + 2)) (Nat.le_refl _) hS
  refine b_aload_n 1 dL_law_264 rfl rfl ?_
  refine b_aload_n 0 dL_law_265 rfl rfl ?_
  refine b_iload_n 3 dL_law_266 rfl rfl ?_
  refine b_iconst 1 dL_law_267 (by decide) ?_
  refine b_iaddN (a := i) (b := 1) dL_law_268 ?_
  refine b_sld (j := i + 1) hX hb0 rfl (by omega) (by omega) dL_law_269 ?_
  refine b_aload_n 0 dL_law_270 rfl rfl ?_
  refine b_iload_n 3 dL_law_271 rfl rfl ?_
  refine b_iconst 2 dL_law_272 (by decide) ?_
  refine b_iaddN (a := i) (b := 2) dL_law_273 ?_
  refine b_sld (j := i + 2) hX hb0 rfl (by omega) (by omega) dL_law_274 ?_
  refine b_callVi (As := [.int (xs (i + 1)), .int (xs (i + 2))]) (rest := []) (d := 1) (mc := 0) (ms := 0) (ci := 6) l_L_31 im_X6_word se_X6_word ⟨_, rfl, rfl⟩ dL_law_275 ⟨(Nat.le_of_ble_eq_true rfl), (Nat.le_of_ble_eq_true rfl)⟩ rfl (Nat.le_of_ble_eq_true rfl) ⟨(Nat.le_of_ble_eq_true rfl), (Nat.le_of_ble_eq_true rfl)⟩ ho hM (fun H1 hp => ?_)
  obtain ⟨⟨fs2, ho2⟩, hM2⟩ := hp
  refine b_aload_n 2 dL_law_278 rfl rfl ?_
  refine b_aload_n 0 dL_law_279 rfl rfl ?_
  refine b_iload_n 3 dL_law_280 rfl rfl ?_
  refine b_iconst 1 dL_law_281 (by decide) ?_
  refine b_iaddN (a := i) (b := 1) dL_law_282 ?_
  refine b_sld (j := i + 1) hX hb0 rfl (by omega) (by omega) dL_law_283 ?_
  refine b_aload_n 0 dL_law_284 rfl rfl ?_
  refine b_iload_n 3 dL_law_285 rfl rfl ?_
  refine b_iconst 2 dL_law_286 (by decide) ?_
  refine b_iaddN (a := i) (b := 2) dL_law_287 ?_
  refine b_sld (j := i + 2) hX hb0 rfl (by omega) (by omega) dL_law_288 ?_
  refine b_callVi (As := [.int (xs (i + 1)), .int (xs (i + 2))]) (rest := [.int r]) (d := 2) (mc := 0) (ms := 0) (ci := 7) l_L_35 im_X7_word se_X7_word ⟨_, rfl, rfl⟩ dL_law_289 ⟨(Nat.le_of_ble_eq_true rfl), (Nat.le_of_ble_eq_true rfl)⟩ rfl (Nat.le_of_ble_eq_true rfl) ⟨(Nat.le_of_ble_eq_true rfl), (Nat.le_of_ble_eq_true rfl)⟩ ho2 hM2 (fun H2 hp => ?_)
  exact b_icmpeq 1080 dL_law_292 (by decide) (fun _ => k _ hp) (fun h => absurd rfl h)
set_option maxHeartbeats 1000000 in
theorem lc_voice (hX : va_X b0 L xs s s.heap) (hb0 : b0 < s.heap.size) (hi : i + 4 ≤ L) (hL : L ≤ 256) (hS : SS G H s.heap.size) (k : ∀ H1 : Heap, SS G H1 s.heap.size → LX G l p e s m below meth c b0 1080 [(0, .ref b0), (1, .ref s.heap.size), (2, .ref (s.heap.size + 120)), (3, .int (nI i))] [] H1) : LX G l p e s m below meth c b0 297 [(0, .ref b0), (1, .ref s.heap.size), (2, .ref (s.heap.size + 120)), (3, .int (nI i))] [] H := by
  obtain ⟨r, fs, ho, hM⟩ := j_voice (B := s.heap.size) (l := l) (x := xs (i + 1)) (Nat.le_refl _) hS
  refine b_aload_n 1 dL_law_297 rfl rfl ?_
  refine b_aload_n 0 dL_law_298 rfl rfl ?_
  refine b_iload_n 3 dL_law_299 rfl rfl ?_
  refine b_iconst 1 dL_law_300 (by decide) ?_
  refine b_iaddN (a := i) (b := 1) dL_law_301 ?_
  refine b_sld (j := i + 1) hX hb0 rfl (by omega) (by omega) dL_law_302 ?_
  refine b_callVi (As := [.int (xs (i + 1))]) (rest := []) (d := 1) (mc := 0) (ms := 0) (ci := 6) l_L_36 im_X6_voice se_X6_voice ⟨_, rfl, rfl⟩ dL_law_303 ⟨(Nat.le_of_ble_eq_true rfl), (Nat.le_of_ble_eq_true rfl)⟩ rfl (Nat.le_of_ble_eq_true rfl) ⟨(Nat.le_of_ble_eq_true rfl), (Nat.le_of_ble_eq_true rfl)⟩ ho hM (fun H1 hp => ?_)
  obtain ⟨⟨fs2, ho2⟩, hM2⟩ := hp
  refine b_aload_n 2 dL_law_306 rfl rfl ?_
  refine b_aload_n 0 dL_law_307 rfl rfl ?_
  refine b_iload_n 3 dL_law_308 rfl rfl ?_
  refine b_iconst 1 dL_law_309 (by decide) ?_
  refine b_iaddN (a := i) (b := 1) dL_law_310 ?_
  refine b_sld (j := i + 1) hX hb0 rfl (by omega) (by omega) dL_law_311 ?_
  refine b_callVi (As := [.int (xs (i + 1))]) (rest := [.int r]) (d := 2) (mc := 0) (ms := 0) (ci := 7) l_L_39 im_X7_voice se_X7_voice ⟨_, rfl, rfl⟩ dL_law_312 ⟨(Nat.le_of_ble_eq_true rfl), (Nat.le_of_ble_eq_true rfl)⟩ rfl (Nat.le_of_ble_eq_true rfl) ⟨(Nat.le_of_ble_eq_true rfl), (Nat.le_of_ble_eq_true rfl)⟩ ho2 hM2 (fun H2 hp => ?_)
  exact b_icmpeq 1080 dL_law_315 (by decide) (fun _ => k _ hp) (fun h => absurd rfl h)
set_option maxHeartbeats 1000000 in
theorem lc_hear (hX : va_X b0 L xs s s.heap) (hb0 : b0 < s.heap.size) (hi : i + 4 ≤ L) (hL : L ≤ 256) (hS : SS G H s.heap.size) (k : ∀ H1 : Heap, SS G H1 s.heap.size → LX G l p e s m below meth c b0 1080 [(0, .ref b0), (1, .ref s.heap.size), (2, .ref (s.heap.size + 120)), (3, .int (nI i))] [] H1) : LX G l p e s m below meth c b0 320 [(0, .ref b0), (1, .ref s.heap.size), (2, .ref (s.heap.size + 120)), (3, .int (nI i))] [] H := by
  obtain ⟨r, fs, ho, hM⟩ := j_hear (B := s.heap.size) (l := l) (x := xs (i + 1)) (Nat.le_refl _) hS
  refine b_aload_n 1 dL_law_320 rfl rfl ?_
  refine b_aload_n 0 dL_law_321 rfl rfl ?_
  refine b_iload_n 3 dL_law_322 rfl rfl ?_
  refine b_iconst 1 dL_law_323 (by decide) ?_
  refine b_iaddN (a := i) (b := 1) dL_law_324 ?_
  refine b_sld (j := i + 1) hX hb0 rfl (by omega) (by omega) dL_law_325 ?_
  refine b_callVi (As := [.int (xs (i + 1))]) (rest := []) (d := 7) (mc := 0) (ms := 0) (ci := 6) l_L_40 im_X6_hear se_X6_hear ⟨_, rfl, rfl⟩ dL_law_326 ⟨(Nat.le_of_ble_eq_true rfl), (Nat.le_of_ble_eq_true rfl)⟩ rfl (Nat.le_of_ble_eq_true rfl) ⟨(Nat.le_of_ble_eq_true rfl), (Nat.le_of_ble_eq_true rfl)⟩ ho hM (fun H1 hp => ?_)
  obtain ⟨⟨fs2, ho2⟩, hM2⟩ := hp
  refine b_aload_n 2 dL_law_329 rfl rfl ?_
  refine b_aload_n 0 dL_law_330 rfl rfl ?_
  refine b_iload_n 3 dL_law_331 rfl rfl ?_
  refine b_iconst 1 dL_law_332 (by decide) ?_
  refine b_iaddN (a := i) (b := 1) dL_law_333 ?_
  refine b_sld (j := i + 1) hX hb0 rfl (by omega) (by omega) dL_law_334 ?_
  refine b_callVi (As := [.int (xs (i + 1))]) (rest := [.int r]) (d := 7) (mc := 0) (ms := 0) (ci := 7) l_L_43 im_X7_hear se_X7_hear ⟨_, rfl, rfl⟩ dL_law_335 ⟨(Nat.le_of_ble_eq_true rfl), (Nat.le_of_ble_eq_true rfl)⟩ rfl (Nat.le_of_ble_eq_true rfl) ⟨(Nat.le_of_ble_eq_true rfl), (Nat.le_of_ble_eq_true rfl)⟩ ho2 hM2 (fun H2 hp => ?_)
  exact b_icmpeq 1080 dL_law_338 (by decide) (fun _ => k _ hp) (fun h => absurd rfl h)
set_option maxHeartbeats 1000000 in
theorem lc_takeBack (hX : va_X b0 L xs s s.heap) (hb0 : b0 < s.heap.size) (hi : i + 4 ≤ L) (hL : L ≤ 256) (hS : SS G H s.heap.size) (k : ∀ H1 : Heap, SS G H1 s.heap.size → LX G l p e s m below meth c b0 1080 [(0, .ref b0), (1, .ref s.heap.size), (2, .ref (s.heap.size + 120)), (3, .int (nI i))] [] H1) : LX G l p e s m below meth c b0 343 [(0, .ref b0), (1, .ref s.heap.size), (2, .ref (s.heap.size + 120)), (3, .int (nI i))] [] H := by
  obtain ⟨r, fs, ho, hM⟩ := j_takeBack (B := s.heap.size) (l := l) (x := xs (i + 1)) (Nat.le_refl _) hS
  refine b_aload_n 1 dL_law_343 rfl rfl ?_
  refine b_aload_n 0 dL_law_344 rfl rfl ?_
  refine b_iload_n 3 dL_law_345 rfl rfl ?_
  refine b_iconst 1 dL_law_346 (by decide) ?_
  refine b_iaddN (a := i) (b := 1) dL_law_347 ?_
  refine b_sld (j := i + 1) hX hb0 rfl (by omega) (by omega) dL_law_348 ?_
  refine b_callVi (As := [.int (xs (i + 1))]) (rest := []) (d := 3) (mc := 0) (ms := 0) (ci := 6) l_L_44 im_X6_takeBack se_X6_takeBack ⟨_, rfl, rfl⟩ dL_law_349 ⟨(Nat.le_of_ble_eq_true rfl), (Nat.le_of_ble_eq_true rfl)⟩ rfl (Nat.le_of_ble_eq_true rfl) ⟨(Nat.le_of_ble_eq_true rfl), (Nat.le_of_ble_eq_true rfl)⟩ ho hM (fun H1 hp => ?_)
  obtain ⟨⟨fs2, ho2⟩, hM2⟩ := hp
  refine b_aload_n 2 dL_law_352 rfl rfl ?_
  refine b_aload_n 0 dL_law_353 rfl rfl ?_
  refine b_iload_n 3 dL_law_354 rfl rfl ?_
  refine b_iconst 1 dL_law_355 (by decide) ?_
  refine b_iaddN (a := i) (b := 1) dL_law_356 ?_
  refine b_sld (j := i + 1) hX hb0 rfl (by omega) (by omega) dL_law_357 ?_
  refine b_callVi (As := [.int (xs (i + 1))]) (rest := [.int r]) (d := 2) (mc := 0) (ms := 0) (ci := 7) l_L_47 im_X7_takeBack se_X7_takeBack ⟨_, rfl, rfl⟩ dL_law_358 ⟨(Nat.le_of_ble_eq_true rfl), (Nat.le_of_ble_eq_true rfl)⟩ rfl (Nat.le_of_ble_eq_true rfl) ⟨(Nat.le_of_ble_eq_true rfl), (Nat.le_of_ble_eq_true rfl)⟩ ho2 hM2 (fun H2 hp => ?_)
  exact b_icmpeq 1080 dL_law_361 (by decide) (fun _ => k _ hp) (fun h => absurd rfl h)
set_option maxHeartbeats 1000000 in
theorem lc_letBe (hX : va_X b0 L xs s s.heap) (hb0 : b0 < s.heap.size) (hi : i + 4 ≤ L) (hL : L ≤ 256) (hS : SS G H s.heap.size) (k : ∀ H1 : Heap, SS G H1 s.heap.size → LX G l p e s m below meth c b0 1080 [(0, .ref b0), (1, .ref s.heap.size), (2, .ref (s.heap.size + 120)), (3, .int (nI i))] [] H1) : LX G l p e s m below meth c b0 366 [(0, .ref b0), (1, .ref s.heap.size), (2, .ref (s.heap.size + 120)), (3, .int (nI i))] [] H := by
  obtain ⟨r, fs, ho, hM⟩ := j_letBe (B := s.heap.size) (l := l) (Nat.le_refl _) hS
  refine b_aload_n 1 dL_law_366 rfl rfl ?_
  refine b_callVi (As := []) (rest := []) (d := 3) (mc := 0) (ms := 0) (ci := 6) l_L_48 im_X6_letBe se_X6_letBe ⟨_, rfl, rfl⟩ dL_law_367 ⟨(Nat.le_of_ble_eq_true rfl), (Nat.le_of_ble_eq_true rfl)⟩ rfl (Nat.le_of_ble_eq_true rfl) ⟨(Nat.le_of_ble_eq_true rfl), (Nat.le_of_ble_eq_true rfl)⟩ ho hM (fun H1 hp => ?_)
  obtain ⟨⟨fs2, ho2⟩, hM2⟩ := hp
  refine b_aload_n 2 dL_law_370 rfl rfl ?_
  refine b_callVi (As := []) (rest := [.int r]) (d := 2) (mc := 0) (ms := 0) (ci := 7) l_L_51 im_X7_letBe se_X7_letBe ⟨_, rfl, rfl⟩ dL_law_371 ⟨(Nat.le_of_ble_eq_true rfl), (Nat.le_of_ble_eq_true rfl)⟩ rfl (Nat.le_of_ble_eq_true rfl) ⟨(Nat.le_of_ble_eq_true rfl), (Nat.le_of_ble_eq_true rfl)⟩ ho2 hM2 (fun H2 hp => ?_)
  exact b_icmpeq 1080 dL_law_374 (by decide) (fun _ => k _ hp) (fun h => absurd rfl h)
set_option maxHeartbeats 1000000 in
theorem lc_call (hX : va_X b0 L xs s s.heap) (hb0 : b0 < s.heap.size) (hi : i + 4 ≤ L) (hL : L ≤ 256) (hS : SS G H s.heap.size) (k : ∀ H1 : Heap, SS G H1 s.heap.size → LX G l p e s m below meth c b0 1080 [(0, .ref b0), (1, .ref s.heap.size), (2, .ref (s.heap.size + 120)), (3, .int (nI i))] [] H1) : LX G l p e s m below meth c b0 379 [(0, .ref b0), (1, .ref s.heap.size), (2, .ref (s.heap.size + 120)), (3, .int (nI i))] [] H := by
  obtain ⟨r, fs, ho, hM⟩ := j_call (B := s.heap.size) (l := l) (x := xs (i + 1)) (y := xs (i + 2)) (Nat.le_refl _) hS
  refine b_aload_n 1 dL_law_379 rfl rfl ?_
  refine b_aload_n 0 dL_law_380 rfl rfl ?_
  refine b_iload_n 3 dL_law_381 rfl rfl ?_
  refine b_iconst 1 dL_law_382 (by decide) ?_
  refine b_iaddN (a := i) (b := 1) dL_law_383 ?_
  refine b_sld (j := i + 1) hX hb0 rfl (by omega) (by omega) dL_law_384 ?_
  refine b_aload_n 0 dL_law_385 rfl rfl ?_
  refine b_iload_n 3 dL_law_386 rfl rfl ?_
  refine b_iconst 2 dL_law_387 (by decide) ?_
  refine b_iaddN (a := i) (b := 2) dL_law_388 ?_
  refine b_sld (j := i + 2) hX hb0 rfl (by omega) (by omega) dL_law_389 ?_
  refine b_callVi (As := [.int (xs (i + 1)), .int (xs (i + 2))]) (rest := []) (d := 3) (mc := 0) (ms := 0) (ci := 6) l_L_52 im_X6_call se_X6_call ⟨_, rfl, rfl⟩ dL_law_390 ⟨(Nat.le_of_ble_eq_true rfl), (Nat.le_of_ble_eq_true rfl)⟩ rfl (Nat.le_of_ble_eq_true rfl) ⟨(Nat.le_of_ble_eq_true rfl), (Nat.le_of_ble_eq_true rfl)⟩ ho hM (fun H1 hp => ?_)
  obtain ⟨⟨fs2, ho2⟩, hM2⟩ := hp
  refine b_aload_n 2 dL_law_393 rfl rfl ?_
  refine b_aload_n 0 dL_law_394 rfl rfl ?_
  refine b_iload_n 3 dL_law_395 rfl rfl ?_
  refine b_iconst 1 dL_law_396 (by decide) ?_
  refine b_iaddN (a := i) (b := 1) dL_law_397 ?_
  refine b_sld (j := i + 1) hX hb0 rfl (by omega) (by omega) dL_law_398 ?_
  refine b_aload_n 0 dL_law_399 rfl rfl ?_
  refine b_iload_n 3 dL_law_400 rfl rfl ?_
  refine b_iconst 2 dL_law_401 (by decide) ?_
  refine b_iaddN (a := i) (b := 2) dL_law_402 ?_
  refine b_sld (j := i + 2) hX hb0 rfl (by omega) (by omega) dL_law_403 ?_
  refine b_callVi (As := [.int (xs (i + 1)), .int (xs (i + 2))]) (rest := [.int r]) (d := 2) (mc := 0) (ms := 0) (ci := 7) l_L_55 im_X7_call se_X7_call ⟨_, rfl, rfl⟩ dL_law_404 ⟨(Nat.le_of_ble_eq_true rfl), (Nat.le_of_ble_eq_true rfl)⟩ rfl (Nat.le_of_ble_eq_true rfl) ⟨(Nat.le_of_ble_eq_true rfl), (Nat.le_of_ble_eq_true rfl)⟩ ho2 hM2 (fun H2 hp => ?_)
  exact b_icmpeq 1080 dL_law_407 (by decide) (fun _ => k _ hp) (fun h => absurd rfl h)
set_option maxHeartbeats 1000000 in
theorem lc_drift (hX : va_X b0 L xs s s.heap) (hb0 : b0 < s.heap.size) (hi : i + 4 ≤ L) (hL : L ≤ 256) (hS : SS G H s.heap.size) (k : ∀ H1 : Heap, SS G H1 s.heap.size → LX G l p e s m below meth c b0 1080 [(0, .ref b0), (1, .ref s.heap.size), (2, .ref (s.heap.size + 120)), (3, .int (nI i))] [] H1) : LX G l p e s m below meth c b0 412 [(0, .ref b0), (1, .ref s.heap.size), (2, .ref (s.heap.size + 120)), (3, .int (nI i))] [] H := by
  obtain ⟨r, fs, ho, hM⟩ := j_drift (B := s.heap.size) (l := l) (x := xs (i + 1)) (Nat.le_refl _) hS
  refine b_aload_n 1 dL_law_412 rfl rfl ?_
  refine b_aload_n 0 dL_law_413 rfl rfl ?_
  refine b_iload_n 3 dL_law_414 rfl rfl ?_
  refine b_iconst 1 dL_law_415 (by decide) ?_
  refine b_iaddN (a := i) (b := 1) dL_law_416 ?_
  refine b_sld (j := i + 1) hX hb0 rfl (by omega) (by omega) dL_law_417 ?_
  refine b_callVi (As := [.int (xs (i + 1))]) (rest := []) (d := 7) (mc := 0) (ms := 0) (ci := 6) l_L_56 im_X6_drift se_X6_drift ⟨_, rfl, rfl⟩ dL_law_418 ⟨(Nat.le_of_ble_eq_true rfl), (Nat.le_of_ble_eq_true rfl)⟩ rfl (Nat.le_of_ble_eq_true rfl) ⟨(Nat.le_of_ble_eq_true rfl), (Nat.le_of_ble_eq_true rfl)⟩ ho hM (fun H1 hp => ?_)
  obtain ⟨⟨fs2, ho2⟩, hM2⟩ := hp
  refine b_aload_n 2 dL_law_421 rfl rfl ?_
  refine b_aload_n 0 dL_law_422 rfl rfl ?_
  refine b_iload_n 3 dL_law_423 rfl rfl ?_
  refine b_iconst 1 dL_law_424 (by decide) ?_
  refine b_iaddN (a := i) (b := 1) dL_law_425 ?_
  refine b_sld (j := i + 1) hX hb0 rfl (by omega) (by omega) dL_law_426 ?_
  refine b_callVi (As := [.int (xs (i + 1))]) (rest := [.int r]) (d := 7) (mc := 0) (ms := 0) (ci := 7) l_L_59 im_X7_drift se_X7_drift ⟨_, rfl, rfl⟩ dL_law_427 ⟨(Nat.le_of_ble_eq_true rfl), (Nat.le_of_ble_eq_true rfl)⟩ rfl (Nat.le_of_ble_eq_true rfl) ⟨(Nat.le_of_ble_eq_true rfl), (Nat.le_of_ble_eq_true rfl)⟩ ho2 hM2 (fun H2 hp => ?_)
  exact b_icmpeq 1080 dL_law_430 (by decide) (fun _ => k _ hp) (fun h => absurd rfl h)
set_option maxHeartbeats 1000000 in
theorem lc_undo (hX : va_X b0 L xs s s.heap) (hb0 : b0 < s.heap.size) (hi : i + 4 ≤ L) (hL : L ≤ 256) (hS : SS G H s.heap.size) (k : ∀ H1 : Heap, SS G H1 s.heap.size → LX G l p e s m below meth c b0 1080 [(0, .ref b0), (1, .ref s.heap.size), (2, .ref (s.heap.size + 120)), (3, .int (nI i))] [] H1) : LX G l p e s m below meth c b0 435 [(0, .ref b0), (1, .ref s.heap.size), (2, .ref (s.heap.size + 120)), (3, .int (nI i))] [] H := by
  obtain ⟨r, fs, ho, hM⟩ := j_undo (B := s.heap.size) (l := l) (Nat.le_refl _) hS
  refine b_aload_n 1 dL_law_435 rfl rfl ?_
  refine b_callVi (As := []) (rest := []) (d := 3) (mc := 0) (ms := 0) (ci := 6) l_L_60 im_X6_undo se_X6_undo ⟨_, rfl, rfl⟩ dL_law_436 ⟨(Nat.le_of_ble_eq_true rfl), (Nat.le_of_ble_eq_true rfl)⟩ rfl (Nat.le_of_ble_eq_true rfl) ⟨(Nat.le_of_ble_eq_true rfl), (Nat.le_of_ble_eq_true rfl)⟩ ho hM (fun H1 hp => ?_)
  obtain ⟨⟨fs2, ho2⟩, hM2⟩ := hp
  refine b_aload_n 2 dL_law_439 rfl rfl ?_
  refine b_callVi (As := []) (rest := [.int r]) (d := 0) (mc := 0) (ms := 0) (ci := 7) l_L_63 im_X7_undo se_X7_undo ⟨_, rfl, rfl⟩ dL_law_440 ⟨(Nat.le_of_ble_eq_true rfl), (Nat.le_of_ble_eq_true rfl)⟩ rfl (Nat.le_of_ble_eq_true rfl) ⟨(Nat.le_of_ble_eq_true rfl), (Nat.le_of_ble_eq_true rfl)⟩ ho2 hM2 (fun H2 hp => ?_)
  exact b_icmpeq 1080 dL_law_443 (by decide) (fun _ => k _ hp) (fun h => absurd rfl h)
set_option maxHeartbeats 1000000 in
theorem lc_guess (hX : va_X b0 L xs s s.heap) (hb0 : b0 < s.heap.size) (hi : i + 4 ≤ L) (hL : L ≤ 256) (hS : SS G H s.heap.size) (k : ∀ H1 : Heap, SS G H1 s.heap.size → LX G l p e s m below meth c b0 1080 [(0, .ref b0), (1, .ref s.heap.size), (2, .ref (s.heap.size + 120)), (3, .int (nI i))] [] H1) : LX G l p e s m below meth c b0 448 [(0, .ref b0), (1, .ref s.heap.size), (2, .ref (s.heap.size + 120)), (3, .int (nI i))] [] H := by
  obtain ⟨r, fs, ho, hM⟩ := j_guess (B := s.heap.size) (l := l) (x := xs (i + 1)) (Nat.le_refl _) hS
  refine b_aload_n 1 dL_law_448 rfl rfl ?_
  refine b_aload_n 0 dL_law_449 rfl rfl ?_
  refine b_iload_n 3 dL_law_450 rfl rfl ?_
  refine b_iconst 1 dL_law_451 (by decide) ?_
  refine b_iaddN (a := i) (b := 1) dL_law_452 ?_
  refine b_sld (j := i + 1) hX hb0 rfl (by omega) (by omega) dL_law_453 ?_
  refine b_callVi (As := [.int (xs (i + 1))]) (rest := []) (d := 4) (mc := 0) (ms := 0) (ci := 6) l_L_64 im_X6_guess se_X6_guess ⟨_, rfl, rfl⟩ dL_law_454 ⟨(Nat.le_of_ble_eq_true rfl), (Nat.le_of_ble_eq_true rfl)⟩ rfl (Nat.le_of_ble_eq_true rfl) ⟨(Nat.le_of_ble_eq_true rfl), (Nat.le_of_ble_eq_true rfl)⟩ ho hM (fun H1 hp => ?_)
  obtain ⟨⟨fs2, ho2⟩, hM2⟩ := hp
  refine b_aload_n 2 dL_law_457 rfl rfl ?_
  refine b_aload_n 0 dL_law_458 rfl rfl ?_
  refine b_iload_n 3 dL_law_459 rfl rfl ?_
  refine b_iconst 1 dL_law_460 (by decide) ?_
  refine b_iaddN (a := i) (b := 1) dL_law_461 ?_
  refine b_sld (j := i + 1) hX hb0 rfl (by omega) (by omega) dL_law_462 ?_
  refine b_callVi (As := [.int (xs (i + 1))]) (rest := [.int r]) (d := 4) (mc := 0) (ms := 0) (ci := 7) l_L_67 im_X7_guess se_X7_guess ⟨_, rfl, rfl⟩ dL_law_463 ⟨(Nat.le_of_ble_eq_true rfl), (Nat.le_of_ble_eq_true rfl)⟩ rfl (Nat.le_of_ble_eq_true rfl) ⟨(Nat.le_of_ble_eq_true rfl), (Nat.le_of_ble_eq_true rfl)⟩ ho2 hM2 (fun H2 hp => ?_)
  exact b_icmpeq 1080 dL_law_466 (by decide) (fun _ => k _ hp) (fun h => absurd rfl h)
set_option maxHeartbeats 1000000 in
theorem lc_sure (hX : va_X b0 L xs s s.heap) (hb0 : b0 < s.heap.size) (hi : i + 4 ≤ L) (hL : L ≤ 256) (hS : SS G H s.heap.size) (k : ∀ H1 : Heap, SS G H1 s.heap.size → LX G l p e s m below meth c b0 1080 [(0, .ref b0), (1, .ref s.heap.size), (2, .ref (s.heap.size + 120)), (3, .int (nI i))] [] H1) : LX G l p e s m below meth c b0 471 [(0, .ref b0), (1, .ref s.heap.size), (2, .ref (s.heap.size + 120)), (3, .int (nI i))] [] H := by
  obtain ⟨r, fs, ho, hM⟩ := j_sure (B := s.heap.size) (l := l) (x := xs (i + 1)) (y := xs (i + 2)) (Nat.le_refl _) hS
  refine b_aload_n 1 dL_law_471 rfl rfl ?_
  refine b_aload_n 0 dL_law_472 rfl rfl ?_
  refine b_iload_n 3 dL_law_473 rfl rfl ?_
  refine b_iconst 1 dL_law_474 (by decide) ?_
  refine b_iaddN (a := i) (b := 1) dL_law_475 ?_
  refine b_sld (j := i + 1) hX hb0 rfl (by omega) (by omega) dL_law_476 ?_
  refine b_aload_n 0 dL_law_477 rfl rfl ?_
  refine b_iload_n 3 dL_law_478 rfl rfl ?_
  refine b_iconst 2 dL_law_479 (by decide) ?_
  refine b_iaddN (a := i) (b := 2) dL_law_480 ?_
  refine b_sld (j := i + 2) hX hb0 rfl (by omega) (by omega) dL_law_481 ?_
  refine b_callVi (As := [.int (xs (i + 1)), .int (xs (i + 2))]) (rest := []) (d := 4) (mc := 0) (ms := 0) (ci := 6) l_L_68 im_X6_sure se_X6_sure ⟨_, rfl, rfl⟩ dL_law_482 ⟨(Nat.le_of_ble_eq_true rfl), (Nat.le_of_ble_eq_true rfl)⟩ rfl (Nat.le_of_ble_eq_true rfl) ⟨(Nat.le_of_ble_eq_true rfl), (Nat.le_of_ble_eq_true rfl)⟩ ho hM (fun H1 hp => ?_)
  obtain ⟨⟨fs2, ho2⟩, hM2⟩ := hp
  refine b_aload_n 2 dL_law_485 rfl rfl ?_
  refine b_aload_n 0 dL_law_486 rfl rfl ?_
  refine b_iload_n 3 dL_law_487 rfl rfl ?_
  refine b_iconst 1 dL_law_488 (by decide) ?_
  refine b_iaddN (a := i) (b := 1) dL_law_489 ?_
  refine b_sld (j := i + 1) hX hb0 rfl (by omega) (by omega) dL_law_490 ?_
  refine b_aload_n 0 dL_law_491 rfl rfl ?_
  refine b_iload_n 3 dL_law_492 rfl rfl ?_
  refine b_iconst 2 dL_law_493 (by decide) ?_
  refine b_iaddN (a := i) (b := 2) dL_law_494 ?_
  refine b_sld (j := i + 2) hX hb0 rfl (by omega) (by omega) dL_law_495 ?_
  refine b_callVi (As := [.int (xs (i + 1)), .int (xs (i + 2))]) (rest := [.int r]) (d := 4) (mc := 0) (ms := 0) (ci := 7) l_L_71 im_X7_sure se_X7_sure ⟨_, rfl, rfl⟩ dL_law_496 ⟨(Nat.le_of_ble_eq_true rfl), (Nat.le_of_ble_eq_true rfl)⟩ rfl (Nat.le_of_ble_eq_true rfl) ⟨(Nat.le_of_ble_eq_true rfl), (Nat.le_of_ble_eq_true rfl)⟩ ho2 hM2 (fun H2 hp => ?_)
  exact b_icmpeq 1080 dL_law_499 (by decide) (fun _ => k _ hp) (fun h => absurd rfl h)
set_option maxHeartbeats 1000000 in
theorem lc_rule (hX : va_X b0 L xs s s.heap) (hb0 : b0 < s.heap.size) (hi : i + 4 ≤ L) (hL : L ≤ 256) (hS : SS G H s.heap.size) (k : ∀ H1 : Heap, SS G H1 s.heap.size → LX G l p e s m below meth c b0 1080 [(0, .ref b0), (1, .ref s.heap.size), (2, .ref (s.heap.size + 120)), (3, .int (nI i))] [] H1) : LX G l p e s m below meth c b0 504 [(0, .ref b0), (1, .ref s.heap.size), (2, .ref (s.heap.size + 120)), (3, .int (nI i))] [] H := by
  obtain ⟨r, fs, ho, hM⟩ := j_rule (B := s.heap.size) (l := l) (x := xs (i + 1)) (Nat.le_refl _) hS
  refine b_aload_n 1 dL_law_504 rfl rfl ?_
  refine b_aload_n 0 dL_law_505 rfl rfl ?_
  refine b_iload_n 3 dL_law_506 rfl rfl ?_
  refine b_iconst 1 dL_law_507 (by decide) ?_
  refine b_iaddN (a := i) (b := 1) dL_law_508 ?_
  refine b_sld (j := i + 1) hX hb0 rfl (by omega) (by omega) dL_law_509 ?_
  refine b_callVi (As := [.int (xs (i + 1))]) (rest := []) (d := 6) (mc := 0) (ms := 0) (ci := 6) l_L_72 im_X6_rule se_X6_rule ⟨_, rfl, rfl⟩ dL_law_510 ⟨(Nat.le_of_ble_eq_true rfl), (Nat.le_of_ble_eq_true rfl)⟩ rfl (Nat.le_of_ble_eq_true rfl) ⟨(Nat.le_of_ble_eq_true rfl), (Nat.le_of_ble_eq_true rfl)⟩ ho hM (fun H1 hp => ?_)
  obtain ⟨⟨fs2, ho2⟩, hM2⟩ := hp
  refine b_aload_n 2 dL_law_513 rfl rfl ?_
  refine b_aload_n 0 dL_law_514 rfl rfl ?_
  refine b_iload_n 3 dL_law_515 rfl rfl ?_
  refine b_iconst 1 dL_law_516 (by decide) ?_
  refine b_iaddN (a := i) (b := 1) dL_law_517 ?_
  refine b_sld (j := i + 1) hX hb0 rfl (by omega) (by omega) dL_law_518 ?_
  refine b_callVi (As := [.int (xs (i + 1))]) (rest := [.int r]) (d := 6) (mc := 0) (ms := 0) (ci := 7) l_L_75 im_X7_rule se_X7_rule ⟨_, rfl, rfl⟩ dL_law_519 ⟨(Nat.le_of_ble_eq_true rfl), (Nat.le_of_ble_eq_true rfl)⟩ rfl (Nat.le_of_ble_eq_true rfl) ⟨(Nat.le_of_ble_eq_true rfl), (Nat.le_of_ble_eq_true rfl)⟩ ho2 hM2 (fun H2 hp => ?_)
  exact b_icmpeq 1080 dL_law_522 (by decide) (fun _ => k _ hp) (fun h => absurd rfl h)
set_option maxHeartbeats 1000000 in
theorem lc_worth (hX : va_X b0 L xs s s.heap) (hb0 : b0 < s.heap.size) (hi : i + 4 ≤ L) (hL : L ≤ 256) (hS : SS G H s.heap.size) (k : ∀ H1 : Heap, SS G H1 s.heap.size → LX G l p e s m below meth c b0 1080 [(0, .ref b0), (1, .ref s.heap.size), (2, .ref (s.heap.size + 120)), (3, .int (nI i))] [] H1) : LX G l p e s m below meth c b0 527 [(0, .ref b0), (1, .ref s.heap.size), (2, .ref (s.heap.size + 120)), (3, .int (nI i))] [] H := by
  obtain ⟨r, fs, ho, hM⟩ := j_worth (B := s.heap.size) (l := l) (x := xs (i + 1)) (y := xs (i + 2)) (Nat.le_refl _) hS
  refine b_aload_n 1 dL_law_527 rfl rfl ?_
  refine b_aload_n 0 dL_law_528 rfl rfl ?_
  refine b_iload_n 3 dL_law_529 rfl rfl ?_
  refine b_iconst 1 dL_law_530 (by decide) ?_
  refine b_iaddN (a := i) (b := 1) dL_law_531 ?_
  refine b_sld (j := i + 1) hX hb0 rfl (by omega) (by omega) dL_law_532 ?_
  refine b_aload_n 0 dL_law_533 rfl rfl ?_
  refine b_iload_n 3 dL_law_534 rfl rfl ?_
  refine b_iconst 2 dL_law_535 (by decide) ?_
  refine b_iaddN (a := i) (b := 2) dL_law_536 ?_
  refine b_sld (j := i + 2) hX hb0 rfl (by omega) (by omega) dL_law_537 ?_
  refine b_callVi (As := [.int (xs (i + 1)), .int (xs (i + 2))]) (rest := []) (d := 5) (mc := 0) (ms := 0) (ci := 6) l_L_76 im_X6_worth se_X6_worth ⟨_, rfl, rfl⟩ dL_law_538 ⟨(Nat.le_of_ble_eq_true rfl), (Nat.le_of_ble_eq_true rfl)⟩ rfl (Nat.le_of_ble_eq_true rfl) ⟨(Nat.le_of_ble_eq_true rfl), (Nat.le_of_ble_eq_true rfl)⟩ ho hM (fun H1 hp => ?_)
  obtain ⟨⟨fs2, ho2⟩, hM2⟩ := hp
  refine b_aload_n 2 dL_law_541 rfl rfl ?_
  refine b_aload_n 0 dL_law_542 rfl rfl ?_
  refine b_iload_n 3 dL_law_543 rfl rfl ?_
  refine b_iconst 1 dL_law_544 (by decide) ?_
  refine b_iaddN (a := i) (b := 1) dL_law_545 ?_
  refine b_sld (j := i + 1) hX hb0 rfl (by omega) (by omega) dL_law_546 ?_
  refine b_aload_n 0 dL_law_547 rfl rfl ?_
  refine b_iload_n 3 dL_law_548 rfl rfl ?_
  refine b_iconst 2 dL_law_549 (by decide) ?_
  refine b_iaddN (a := i) (b := 2) dL_law_550 ?_
  refine b_sld (j := i + 2) hX hb0 rfl (by omega) (by omega) dL_law_551 ?_
  refine b_callVi (As := [.int (xs (i + 1)), .int (xs (i + 2))]) (rest := [.int r]) (d := 5) (mc := 0) (ms := 0) (ci := 7) l_L_79 im_X7_worth se_X7_worth ⟨_, rfl, rfl⟩ dL_law_552 ⟨(Nat.le_of_ble_eq_true rfl), (Nat.le_of_ble_eq_true rfl)⟩ rfl (Nat.le_of_ble_eq_true rfl) ⟨(Nat.le_of_ble_eq_true rfl), (Nat.le_of_ble_eq_true rfl)⟩ ho2 hM2 (fun H2 hp => ?_)
  exact b_icmpeq 1080 dL_law_555 (by decide) (fun _ => k _ hp) (fun h => absurd rfl h)
set_option maxHeartbeats 1000000 in
theorem lc_said (hX : va_X b0 L xs s s.heap) (hb0 : b0 < s.heap.size) (hi : i + 4 ≤ L) (hL : L ≤ 256) (hS : SS G H s.heap.size) (k : ∀ H1 : Heap, SS G H1 s.heap.size → LX G l p e s m below meth c b0 1080 [(0, .ref b0), (1, .ref s.heap.size), (2, .ref (s.heap.size + 120)), (3, .int (nI i))] [] H1) : LX G l p e s m below meth c b0 560 [(0, .ref b0), (1, .ref s.heap.size), (2, .ref (s.heap.size + 120)), (3, .int (nI i))] [] H := by
  obtain ⟨r, fs, ho, hM⟩ := j_said (B := s.heap.size) (l := l) (x := xs (i + 1)) (y := xs (i + 2)) (Nat.le_refl _) hS
  refine b_aload_n 1 dL_law_560 rfl rfl ?_
  refine b_aload_n 0 dL_law_561 rfl rfl ?_
  refine b_iload_n 3 dL_law_562 rfl rfl ?_
  refine b_iconst 1 dL_law_563 (by decide) ?_
  refine b_iaddN (a := i) (b := 1) dL_law_564 ?_
  refine b_sld (j := i + 1) hX hb0 rfl (by omega) (by omega) dL_law_565 ?_
  refine b_aload_n 0 dL_law_566 rfl rfl ?_
  refine b_iload_n 3 dL_law_567 rfl rfl ?_
  refine b_iconst 2 dL_law_568 (by decide) ?_
  refine b_iaddN (a := i) (b := 2) dL_law_569 ?_
  refine b_sld (j := i + 2) hX hb0 rfl (by omega) (by omega) dL_law_570 ?_
  refine b_callVi (As := [.int (xs (i + 1)), .int (xs (i + 2))]) (rest := []) (d := 2) (mc := 0) (ms := 0) (ci := 6) l_L_80 im_X6_said se_X6_said ⟨_, rfl, rfl⟩ dL_law_571 ⟨(Nat.le_of_ble_eq_true rfl), (Nat.le_of_ble_eq_true rfl)⟩ rfl (Nat.le_of_ble_eq_true rfl) ⟨(Nat.le_of_ble_eq_true rfl), (Nat.le_of_ble_eq_true rfl)⟩ ho hM (fun H1 hp => ?_)
  obtain ⟨⟨fs2, ho2⟩, hM2⟩ := hp
  refine b_aload_n 2 dL_law_574 rfl rfl ?_
  refine b_aload_n 0 dL_law_575 rfl rfl ?_
  refine b_iload_n 3 dL_law_576 rfl rfl ?_
  refine b_iconst 1 dL_law_577 (by decide) ?_
  refine b_iaddN (a := i) (b := 1) dL_law_578 ?_
  refine b_sld (j := i + 1) hX hb0 rfl (by omega) (by omega) dL_law_579 ?_
  refine b_aload_n 0 dL_law_580 rfl rfl ?_
  refine b_iload_n 3 dL_law_581 rfl rfl ?_
  refine b_iconst 2 dL_law_582 (by decide) ?_
  refine b_iaddN (a := i) (b := 2) dL_law_583 ?_
  refine b_sld (j := i + 2) hX hb0 rfl (by omega) (by omega) dL_law_584 ?_
  refine b_callVi (As := [.int (xs (i + 1)), .int (xs (i + 2))]) (rest := [.int r]) (d := 2) (mc := 0) (ms := 0) (ci := 7) l_L_83 im_X7_said se_X7_said ⟨_, rfl, rfl⟩ dL_law_585 ⟨(Nat.le_of_ble_eq_true rfl), (Nat.le_of_ble_eq_true rfl)⟩ rfl (Nat.le_of_ble_eq_true rfl) ⟨(Nat.le_of_ble_eq_true rfl), (Nat.le_of_ble_eq_true rfl)⟩ ho2 hM2 (fun H2 hp => ?_)
  exact b_icmpeq 1080 dL_law_588 (by decide) (fun _ => k _ hp) (fun h => absurd rfl h)
set_option maxHeartbeats 1000000 in
theorem lc_misheard (hX : va_X b0 L xs s s.heap) (hb0 : b0 < s.heap.size) (hi : i + 4 ≤ L) (hL : L ≤ 256) (hS : SS G H s.heap.size) (k : ∀ H1 : Heap, SS G H1 s.heap.size → LX G l p e s m below meth c b0 1080 [(0, .ref b0), (1, .ref s.heap.size), (2, .ref (s.heap.size + 120)), (3, .int (nI i))] [] H1) : LX G l p e s m below meth c b0 593 [(0, .ref b0), (1, .ref s.heap.size), (2, .ref (s.heap.size + 120)), (3, .int (nI i))] [] H := by
  obtain ⟨r, fs, ho, hM⟩ := j_misheard (B := s.heap.size) (l := l) (x := xs (i + 1)) (Nat.le_refl _) hS
  refine b_aload_n 1 dL_law_593 rfl rfl ?_
  refine b_aload_n 0 dL_law_594 rfl rfl ?_
  refine b_iload_n 3 dL_law_595 rfl rfl ?_
  refine b_iconst 1 dL_law_596 (by decide) ?_
  refine b_iaddN (a := i) (b := 1) dL_law_597 ?_
  refine b_sld (j := i + 1) hX hb0 rfl (by omega) (by omega) dL_law_598 ?_
  refine b_callVi (As := [.int (xs (i + 1))]) (rest := []) (d := 5) (mc := 0) (ms := 0) (ci := 6) l_L_84 im_X6_misheard se_X6_misheard ⟨_, rfl, rfl⟩ dL_law_599 ⟨(Nat.le_of_ble_eq_true rfl), (Nat.le_of_ble_eq_true rfl)⟩ rfl (Nat.le_of_ble_eq_true rfl) ⟨(Nat.le_of_ble_eq_true rfl), (Nat.le_of_ble_eq_true rfl)⟩ ho hM (fun H1 hp => ?_)
  obtain ⟨⟨fs2, ho2⟩, hM2⟩ := hp
  refine b_aload_n 2 dL_law_602 rfl rfl ?_
  refine b_aload_n 0 dL_law_603 rfl rfl ?_
  refine b_iload_n 3 dL_law_604 rfl rfl ?_
  refine b_iconst 1 dL_law_605 (by decide) ?_
  refine b_iaddN (a := i) (b := 1) dL_law_606 ?_
  refine b_sld (j := i + 1) hX hb0 rfl (by omega) (by omega) dL_law_607 ?_
  refine b_callVi (As := [.int (xs (i + 1))]) (rest := [.int r]) (d := 4) (mc := 0) (ms := 0) (ci := 7) l_L_87 im_X7_misheard se_X7_misheard ⟨_, rfl, rfl⟩ dL_law_608 ⟨(Nat.le_of_ble_eq_true rfl), (Nat.le_of_ble_eq_true rfl)⟩ rfl (Nat.le_of_ble_eq_true rfl) ⟨(Nat.le_of_ble_eq_true rfl), (Nat.le_of_ble_eq_true rfl)⟩ ho2 hM2 (fun H2 hp => ?_)
  exact b_icmpeq 1080 dL_law_611 (by decide) (fun _ => k _ hp) (fun h => absurd rfl h)
set_option maxHeartbeats 1000000 in
theorem lc_who (hX : va_X b0 L xs s s.heap) (hb0 : b0 < s.heap.size) (hi : i + 4 ≤ L) (hL : L ≤ 256) (hS : SS G H s.heap.size) (k : ∀ H1 : Heap, SS G H1 s.heap.size → LX G l p e s m below meth c b0 1080 [(0, .ref b0), (1, .ref s.heap.size), (2, .ref (s.heap.size + 120)), (3, .int (nI i))] [] H1) : LX G l p e s m below meth c b0 616 [(0, .ref b0), (1, .ref s.heap.size), (2, .ref (s.heap.size + 120)), (3, .int (nI i))] [] H := by
  obtain ⟨r, fs, ho, hM⟩ := j_who (B := s.heap.size) (l := l) (x := xs (i + 1)) (Nat.le_refl _) hS
  refine b_aload_n 1 dL_law_616 rfl rfl ?_
  refine b_aload_n 0 dL_law_617 rfl rfl ?_
  refine b_iload_n 3 dL_law_618 rfl rfl ?_
  refine b_iconst 1 dL_law_619 (by decide) ?_
  refine b_iaddN (a := i) (b := 1) dL_law_620 ?_
  refine b_sld (j := i + 1) hX hb0 rfl (by omega) (by omega) dL_law_621 ?_
  refine b_callVi (As := [.int (xs (i + 1))]) (rest := []) (d := 3) (mc := 0) (ms := 0) (ci := 6) l_L_88 im_X6_who se_X6_who ⟨_, rfl, rfl⟩ dL_law_622 ⟨(Nat.le_of_ble_eq_true rfl), (Nat.le_of_ble_eq_true rfl)⟩ rfl (Nat.le_of_ble_eq_true rfl) ⟨(Nat.le_of_ble_eq_true rfl), (Nat.le_of_ble_eq_true rfl)⟩ ho hM (fun H1 hp => ?_)
  obtain ⟨⟨fs2, ho2⟩, hM2⟩ := hp
  refine b_aload_n 2 dL_law_625 rfl rfl ?_
  refine b_aload_n 0 dL_law_626 rfl rfl ?_
  refine b_iload_n 3 dL_law_627 rfl rfl ?_
  refine b_iconst 1 dL_law_628 (by decide) ?_
  refine b_iaddN (a := i) (b := 1) dL_law_629 ?_
  refine b_sld (j := i + 1) hX hb0 rfl (by omega) (by omega) dL_law_630 ?_
  refine b_callVi (As := [.int (xs (i + 1))]) (rest := [.int r]) (d := 3) (mc := 0) (ms := 0) (ci := 7) l_L_91 im_X7_who se_X7_who ⟨_, rfl, rfl⟩ dL_law_631 ⟨(Nat.le_of_ble_eq_true rfl), (Nat.le_of_ble_eq_true rfl)⟩ rfl (Nat.le_of_ble_eq_true rfl) ⟨(Nat.le_of_ble_eq_true rfl), (Nat.le_of_ble_eq_true rfl)⟩ ho2 hM2 (fun H2 hp => ?_)
  exact b_icmpeq 1080 dL_law_634 (by decide) (fun _ => k _ hp) (fun h => absurd rfl h)
set_option maxHeartbeats 1000000 in
theorem lc_meant (hX : va_X b0 L xs s s.heap) (hb0 : b0 < s.heap.size) (hi : i + 4 ≤ L) (hL : L ≤ 256) (hS : SS G H s.heap.size) (k : ∀ H1 : Heap, SS G H1 s.heap.size → LX G l p e s m below meth c b0 1080 [(0, .ref b0), (1, .ref s.heap.size), (2, .ref (s.heap.size + 120)), (3, .int (nI i))] [] H1) : LX G l p e s m below meth c b0 639 [(0, .ref b0), (1, .ref s.heap.size), (2, .ref (s.heap.size + 120)), (3, .int (nI i))] [] H := by
  obtain ⟨r, fs, ho, hM⟩ := j_meant (B := s.heap.size) (l := l) (x := xs (i + 1)) (y := xs (i + 2)) (Nat.le_refl _) hS
  refine b_aload_n 1 dL_law_639 rfl rfl ?_
  refine b_aload_n 0 dL_law_640 rfl rfl ?_
  refine b_iload_n 3 dL_law_641 rfl rfl ?_
  refine b_iconst 1 dL_law_642 (by decide) ?_
  refine b_iaddN (a := i) (b := 1) dL_law_643 ?_
  refine b_sld (j := i + 1) hX hb0 rfl (by omega) (by omega) dL_law_644 ?_
  refine b_aload_n 0 dL_law_645 rfl rfl ?_
  refine b_iload_n 3 dL_law_646 rfl rfl ?_
  refine b_iconst 2 dL_law_647 (by decide) ?_
  refine b_iaddN (a := i) (b := 2) dL_law_648 ?_
  refine b_sld (j := i + 2) hX hb0 rfl (by omega) (by omega) dL_law_649 ?_
  refine b_callVi (As := [.int (xs (i + 1)), .int (xs (i + 2))]) (rest := []) (d := 3) (mc := 0) (ms := 0) (ci := 6) l_L_92 im_X6_meant se_X6_meant ⟨_, rfl, rfl⟩ dL_law_650 ⟨(Nat.le_of_ble_eq_true rfl), (Nat.le_of_ble_eq_true rfl)⟩ rfl (Nat.le_of_ble_eq_true rfl) ⟨(Nat.le_of_ble_eq_true rfl), (Nat.le_of_ble_eq_true rfl)⟩ ho hM (fun H1 hp => ?_)
  obtain ⟨⟨fs2, ho2⟩, hM2⟩ := hp
  refine b_aload_n 2 dL_law_653 rfl rfl ?_
  refine b_aload_n 0 dL_law_654 rfl rfl ?_
  refine b_iload_n 3 dL_law_655 rfl rfl ?_
  refine b_iconst 1 dL_law_656 (by decide) ?_
  refine b_iaddN (a := i) (b := 1) dL_law_657 ?_
  refine b_sld (j := i + 1) hX hb0 rfl (by omega) (by omega) dL_law_658 ?_
  refine b_aload_n 0 dL_law_659 rfl rfl ?_
  refine b_iload_n 3 dL_law_660 rfl rfl ?_
  refine b_iconst 2 dL_law_661 (by decide) ?_
  refine b_iaddN (a := i) (b := 2) dL_law_662 ?_
  refine b_sld (j := i + 2) hX hb0 rfl (by omega) (by omega) dL_law_663 ?_
  refine b_callVi (As := [.int (xs (i + 1)), .int (xs (i + 2))]) (rest := [.int r]) (d := 3) (mc := 0) (ms := 0) (ci := 7) l_L_95 im_X7_meant se_X7_meant ⟨_, rfl, rfl⟩ dL_law_664 ⟨(Nat.le_of_ble_eq_true rfl), (Nat.le_of_ble_eq_true rfl)⟩ rfl (Nat.le_of_ble_eq_true rfl) ⟨(Nat.le_of_ble_eq_true rfl), (Nat.le_of_ble_eq_true rfl)⟩ ho2 hM2 (fun H2 hp => ?_)
  exact b_icmpeq 1080 dL_law_667 (by decide) (fun _ => k _ hp) (fun h => absurd rfl h)
set_option maxHeartbeats 1000000 in
theorem lc_alike (hX : va_X b0 L xs s s.heap) (hb0 : b0 < s.heap.size) (hi : i + 4 ≤ L) (hL : L ≤ 256) (hS : SS G H s.heap.size) (k : ∀ H1 : Heap, SS G H1 s.heap.size → LX G l p e s m below meth c b0 1080 [(0, .ref b0), (1, .ref s.heap.size), (2, .ref (s.heap.size + 120)), (3, .int (nI i))] [] H1) : LX G l p e s m below meth c b0 672 [(0, .ref b0), (1, .ref s.heap.size), (2, .ref (s.heap.size + 120)), (3, .int (nI i))] [] H := by
  obtain ⟨r, fs, ho, hM⟩ := j_alike (B := s.heap.size) (l := l) (x := xs (i + 1)) (y := xs (i + 2)) (Nat.le_refl _) hS
  refine b_aload_n 1 dL_law_672 rfl rfl ?_
  refine b_aload_n 0 dL_law_673 rfl rfl ?_
  refine b_iload_n 3 dL_law_674 rfl rfl ?_
  refine b_iconst 1 dL_law_675 (by decide) ?_
  refine b_iaddN (a := i) (b := 1) dL_law_676 ?_
  refine b_sld (j := i + 1) hX hb0 rfl (by omega) (by omega) dL_law_677 ?_
  refine b_aload_n 0 dL_law_678 rfl rfl ?_
  refine b_iload_n 3 dL_law_679 rfl rfl ?_
  refine b_iconst 2 dL_law_680 (by decide) ?_
  refine b_iaddN (a := i) (b := 2) dL_law_681 ?_
  refine b_sld (j := i + 2) hX hb0 rfl (by omega) (by omega) dL_law_682 ?_
  refine b_callVi (As := [.int (xs (i + 1)), .int (xs (i + 2))]) (rest := []) (d := 2) (mc := 0) (ms := 0) (ci := 6) l_L_96 im_X6_alike se_X6_alike ⟨_, rfl, rfl⟩ dL_law_683 ⟨(Nat.le_of_ble_eq_true rfl), (Nat.le_of_ble_eq_true rfl)⟩ rfl (Nat.le_of_ble_eq_true rfl) ⟨(Nat.le_of_ble_eq_true rfl), (Nat.le_of_ble_eq_true rfl)⟩ ho hM (fun H1 hp => ?_)
  obtain ⟨⟨fs2, ho2⟩, hM2⟩ := hp
  refine b_aload_n 2 dL_law_686 rfl rfl ?_
  refine b_aload_n 0 dL_law_687 rfl rfl ?_
  refine b_iload_n 3 dL_law_688 rfl rfl ?_
  refine b_iconst 1 dL_law_689 (by decide) ?_
  refine b_iaddN (a := i) (b := 1) dL_law_690 ?_
  refine b_sld (j := i + 1) hX hb0 rfl (by omega) (by omega) dL_law_691 ?_
  refine b_aload_n 0 dL_law_692 rfl rfl ?_
  refine b_iload_n 3 dL_law_693 rfl rfl ?_
  refine b_iconst 2 dL_law_694 (by decide) ?_
  refine b_iaddN (a := i) (b := 2) dL_law_695 ?_
  refine b_sld (j := i + 2) hX hb0 rfl (by omega) (by omega) dL_law_696 ?_
  refine b_callVi (As := [.int (xs (i + 1)), .int (xs (i + 2))]) (rest := [.int r]) (d := 2) (mc := 0) (ms := 0) (ci := 7) l_L_99 im_X7_alike se_X7_alike ⟨_, rfl, rfl⟩ dL_law_697 ⟨(Nat.le_of_ble_eq_true rfl), (Nat.le_of_ble_eq_true rfl)⟩ rfl (Nat.le_of_ble_eq_true rfl) ⟨(Nat.le_of_ble_eq_true rfl), (Nat.le_of_ble_eq_true rfl)⟩ ho2 hM2 (fun H2 hp => ?_)
  exact b_icmpeq 1080 dL_law_700 (by decide) (fun _ => k _ hp) (fun h => absurd rfl h)
set_option maxHeartbeats 1000000 in
theorem lc_wake (hX : va_X b0 L xs s s.heap) (hb0 : b0 < s.heap.size) (hi : i + 4 ≤ L) (hL : L ≤ 256) (hS : SS G H s.heap.size) (k : ∀ H1 : Heap, SS G H1 s.heap.size → LX G l p e s m below meth c b0 1080 [(0, .ref b0), (1, .ref s.heap.size), (2, .ref (s.heap.size + 120)), (3, .int (nI i))] [] H1) : LX G l p e s m below meth c b0 705 [(0, .ref b0), (1, .ref s.heap.size), (2, .ref (s.heap.size + 120)), (3, .int (nI i))] [] H := by
  obtain ⟨r, fs, ho, hM⟩ := j_wake (B := s.heap.size) (l := l) (x := xs (i + 1)) (Nat.le_refl _) hS
  refine b_aload_n 1 dL_law_705 rfl rfl ?_
  refine b_aload_n 0 dL_law_706 rfl rfl ?_
  refine b_iload_n 3 dL_law_707 rfl rfl ?_
  refine b_iconst 1 dL_law_708 (by decide) ?_
  refine b_iaddN (a := i) (b := 1) dL_law_709 ?_
  refine b_sld (j := i + 1) hX hb0 rfl (by omega) (by omega) dL_law_710 ?_
  refine b_callVi (As := [.int (xs (i + 1))]) (rest := []) (d := 3) (mc := 0) (ms := 0) (ci := 6) l_L_100 im_X6_wake se_X6_wake ⟨_, rfl, rfl⟩ dL_law_711 ⟨(Nat.le_of_ble_eq_true rfl), (Nat.le_of_ble_eq_true rfl)⟩ rfl (Nat.le_of_ble_eq_true rfl) ⟨(Nat.le_of_ble_eq_true rfl), (Nat.le_of_ble_eq_true rfl)⟩ ho hM (fun H1 hp => ?_)
  obtain ⟨⟨fs2, ho2⟩, hM2⟩ := hp
  refine b_aload_n 2 dL_law_714 rfl rfl ?_
  refine b_aload_n 0 dL_law_715 rfl rfl ?_
  refine b_iload_n 3 dL_law_716 rfl rfl ?_
  refine b_iconst 1 dL_law_717 (by decide) ?_
  refine b_iaddN (a := i) (b := 1) dL_law_718 ?_
  refine b_sld (j := i + 1) hX hb0 rfl (by omega) (by omega) dL_law_719 ?_
  refine b_callVi (As := [.int (xs (i + 1))]) (rest := [.int r]) (d := 2) (mc := 0) (ms := 0) (ci := 7) l_L_103 im_X7_wake se_X7_wake ⟨_, rfl, rfl⟩ dL_law_720 ⟨(Nat.le_of_ble_eq_true rfl), (Nat.le_of_ble_eq_true rfl)⟩ rfl (Nat.le_of_ble_eq_true rfl) ⟨(Nat.le_of_ble_eq_true rfl), (Nat.le_of_ble_eq_true rfl)⟩ ho2 hM2 (fun H2 hp => ?_)
  exact b_icmpeq 1080 dL_law_723 (by decide) (fun _ => k _ hp) (fun h => absurd rfl h)
set_option maxHeartbeats 1000000 in
theorem lc_falsely (hX : va_X b0 L xs s s.heap) (hb0 : b0 < s.heap.size) (hi : i + 4 ≤ L) (hL : L ≤ 256) (hS : SS G H s.heap.size) (k : ∀ H1 : Heap, SS G H1 s.heap.size → LX G l p e s m below meth c b0 1080 [(0, .ref b0), (1, .ref s.heap.size), (2, .ref (s.heap.size + 120)), (3, .int (nI i))] [] H1) : LX G l p e s m below meth c b0 728 [(0, .ref b0), (1, .ref s.heap.size), (2, .ref (s.heap.size + 120)), (3, .int (nI i))] [] H := by
  obtain ⟨r, fs, ho, hM⟩ := j_falsely (B := s.heap.size) (l := l) (x := xs (i + 1)) (y := xs (i + 2)) (Nat.le_refl _) hS
  refine b_aload_n 1 dL_law_728 rfl rfl ?_
  refine b_aload_n 0 dL_law_729 rfl rfl ?_
  refine b_iload_n 3 dL_law_730 rfl rfl ?_
  refine b_iconst 1 dL_law_731 (by decide) ?_
  refine b_iaddN (a := i) (b := 1) dL_law_732 ?_
  refine b_sld (j := i + 1) hX hb0 rfl (by omega) (by omega) dL_law_733 ?_
  refine b_aload_n 0 dL_law_734 rfl rfl ?_
  refine b_iload_n 3 dL_law_735 rfl rfl ?_
  refine b_iconst 2 dL_law_736 (by decide) ?_
  refine b_iaddN (a := i) (b := 2) dL_law_737 ?_
  refine b_sld (j := i + 2) hX hb0 rfl (by omega) (by omega) dL_law_738 ?_
  refine b_callVi (As := [.int (xs (i + 1)), .int (xs (i + 2))]) (rest := []) (d := 2) (mc := 0) (ms := 0) (ci := 6) l_L_104 im_X6_falsely se_X6_falsely ⟨_, rfl, rfl⟩ dL_law_739 ⟨(Nat.le_of_ble_eq_true rfl), (Nat.le_of_ble_eq_true rfl)⟩ rfl (Nat.le_of_ble_eq_true rfl) ⟨(Nat.le_of_ble_eq_true rfl), (Nat.le_of_ble_eq_true rfl)⟩ ho hM (fun H1 hp => ?_)
  obtain ⟨⟨fs2, ho2⟩, hM2⟩ := hp
  refine b_aload_n 2 dL_law_742 rfl rfl ?_
  refine b_aload_n 0 dL_law_743 rfl rfl ?_
  refine b_iload_n 3 dL_law_744 rfl rfl ?_
  refine b_iconst 1 dL_law_745 (by decide) ?_
  refine b_iaddN (a := i) (b := 1) dL_law_746 ?_
  refine b_sld (j := i + 1) hX hb0 rfl (by omega) (by omega) dL_law_747 ?_
  refine b_aload_n 0 dL_law_748 rfl rfl ?_
  refine b_iload_n 3 dL_law_749 rfl rfl ?_
  refine b_iconst 2 dL_law_750 (by decide) ?_
  refine b_iaddN (a := i) (b := 2) dL_law_751 ?_
  refine b_sld (j := i + 2) hX hb0 rfl (by omega) (by omega) dL_law_752 ?_
  refine b_callVi (As := [.int (xs (i + 1)), .int (xs (i + 2))]) (rest := [.int r]) (d := 2) (mc := 0) (ms := 0) (ci := 7) l_L_107 im_X7_falsely se_X7_falsely ⟨_, rfl, rfl⟩ dL_law_753 ⟨(Nat.le_of_ble_eq_true rfl), (Nat.le_of_ble_eq_true rfl)⟩ rfl (Nat.le_of_ble_eq_true rfl) ⟨(Nat.le_of_ble_eq_true rfl), (Nat.le_of_ble_eq_true rfl)⟩ ho2 hM2 (fun H2 hp => ?_)
  exact b_icmpeq 1080 dL_law_756 (by decide) (fun _ => k _ hp) (fun h => absurd rfl h)
set_option maxHeartbeats 1000000 in
theorem lc_needs (hX : va_X b0 L xs s s.heap) (hb0 : b0 < s.heap.size) (hi : i + 4 ≤ L) (hL : L ≤ 256) (hS : SS G H s.heap.size) (k : ∀ H1 : Heap, SS G H1 s.heap.size → LX G l p e s m below meth c b0 1080 [(0, .ref b0), (1, .ref s.heap.size), (2, .ref (s.heap.size + 120)), (3, .int (nI i))] [] H1) : LX G l p e s m below meth c b0 761 [(0, .ref b0), (1, .ref s.heap.size), (2, .ref (s.heap.size + 120)), (3, .int (nI i))] [] H := by
  obtain ⟨r, fs, ho, hM⟩ := j_needs (B := s.heap.size) (l := l) (x := xs (i + 1)) (y := xs (i + 2)) (z := xs (i + 3)) (Nat.le_refl _) hS
  refine b_aload_n 1 dL_law_761 rfl rfl ?_
  refine b_aload_n 0 dL_law_762 rfl rfl ?_
  refine b_iload_n 3 dL_law_763 rfl rfl ?_
  refine b_iconst 1 dL_law_764 (by decide) ?_
  refine b_iaddN (a := i) (b := 1) dL_law_765 ?_
  refine b_sld (j := i + 1) hX hb0 rfl (by omega) (by omega) dL_law_766 ?_
  refine b_aload_n 0 dL_law_767 rfl rfl ?_
  refine b_iload_n 3 dL_law_768 rfl rfl ?_
  refine b_iconst 2 dL_law_769 (by decide) ?_
  refine b_iaddN (a := i) (b := 2) dL_law_770 ?_
  refine b_sld (j := i + 2) hX hb0 rfl (by omega) (by omega) dL_law_771 ?_
  refine b_aload_n 0 dL_law_772 rfl rfl ?_
  refine b_iload_n 3 dL_law_773 rfl rfl ?_
  refine b_iconst 3 dL_law_774 (by decide) ?_
  refine b_iaddN (a := i) (b := 3) dL_law_775 ?_
  refine b_sld (j := i + 3) hX hb0 rfl (by omega) (by omega) dL_law_776 ?_
  refine b_callVi (As := [.int (xs (i + 1)), .int (xs (i + 2)), .int (xs (i + 3))]) (rest := []) (d := 6) (mc := 0) (ms := 0) (ci := 6) l_L_108 im_X6_needs se_X6_needs ⟨_, rfl, rfl⟩ dL_law_777 ⟨(Nat.le_of_ble_eq_true rfl), (Nat.le_of_ble_eq_true rfl)⟩ rfl (Nat.le_of_ble_eq_true rfl) ⟨(Nat.le_of_ble_eq_true rfl), (Nat.le_of_ble_eq_true rfl)⟩ ho hM (fun H1 hp => ?_)
  obtain ⟨⟨fs2, ho2⟩, hM2⟩ := hp
  refine b_aload_n 2 dL_law_780 rfl rfl ?_
  refine b_aload_n 0 dL_law_781 rfl rfl ?_
  refine b_iload_n 3 dL_law_782 rfl rfl ?_
  refine b_iconst 1 dL_law_783 (by decide) ?_
  refine b_iaddN (a := i) (b := 1) dL_law_784 ?_
  refine b_sld (j := i + 1) hX hb0 rfl (by omega) (by omega) dL_law_785 ?_
  refine b_aload_n 0 dL_law_786 rfl rfl ?_
  refine b_iload_n 3 dL_law_787 rfl rfl ?_
  refine b_iconst 2 dL_law_788 (by decide) ?_
  refine b_iaddN (a := i) (b := 2) dL_law_789 ?_
  refine b_sld (j := i + 2) hX hb0 rfl (by omega) (by omega) dL_law_790 ?_
  refine b_aload_n 0 dL_law_791 rfl rfl ?_
  refine b_iload_n 3 dL_law_792 rfl rfl ?_
  refine b_iconst 3 dL_law_793 (by decide) ?_
  refine b_iaddN (a := i) (b := 3) dL_law_794 ?_
  refine b_sld (j := i + 3) hX hb0 rfl (by omega) (by omega) dL_law_795 ?_
  refine b_callVi (As := [.int (xs (i + 1)), .int (xs (i + 2)), .int (xs (i + 3))]) (rest := [.int r]) (d := 6) (mc := 0) (ms := 0) (ci := 7) l_L_112 im_X7_needs se_X7_needs ⟨_, rfl, rfl⟩ dL_law_796 ⟨(Nat.le_of_ble_eq_true rfl), (Nat.le_of_ble_eq_true rfl)⟩ rfl (Nat.le_of_ble_eq_true rfl) ⟨(Nat.le_of_ble_eq_true rfl), (Nat.le_of_ble_eq_true rfl)⟩ ho2 hM2 (fun H2 hp => ?_)
  exact b_icmpeq 1080 dL_law_799 (by decide) (fun _ => k _ hp) (fun h => absurd rfl h)
set_option maxHeartbeats 1000000 in
theorem lc_bestCalled (hX : va_X b0 L xs s s.heap) (hb0 : b0 < s.heap.size) (hi : i + 4 ≤ L) (hL : L ≤ 256) (hS : SS G H s.heap.size) (k : ∀ H1 : Heap, SS G H1 s.heap.size → LX G l p e s m below meth c b0 1080 [(0, .ref b0), (1, .ref s.heap.size), (2, .ref (s.heap.size + 120)), (3, .int (nI i))] [] H1) : LX G l p e s m below meth c b0 804 [(0, .ref b0), (1, .ref s.heap.size), (2, .ref (s.heap.size + 120)), (3, .int (nI i))] [] H := by
  obtain ⟨r, fs, ho, hM⟩ := j_bestCalled (B := s.heap.size) (l := l) (x := xs (i + 1)) (y := xs (i + 2)) (Nat.le_refl _) hS
  refine b_aload_n 1 dL_law_804 rfl rfl ?_
  refine b_aload_n 0 dL_law_805 rfl rfl ?_
  refine b_iload_n 3 dL_law_806 rfl rfl ?_
  refine b_iconst 1 dL_law_807 (by decide) ?_
  refine b_iaddN (a := i) (b := 1) dL_law_808 ?_
  refine b_sld (j := i + 1) hX hb0 rfl (by omega) (by omega) dL_law_809 ?_
  refine b_aload_n 0 dL_law_810 rfl rfl ?_
  refine b_iload_n 3 dL_law_811 rfl rfl ?_
  refine b_iconst 2 dL_law_812 (by decide) ?_
  refine b_iaddN (a := i) (b := 2) dL_law_813 ?_
  refine b_sld (j := i + 2) hX hb0 rfl (by omega) (by omega) dL_law_814 ?_
  refine b_callVi (As := [.int (xs (i + 1)), .int (xs (i + 2))]) (rest := []) (d := 5) (mc := 0) (ms := 0) (ci := 6) l_L_113 im_X6_bestCalled se_X6_bestCalled ⟨_, rfl, rfl⟩ dL_law_815 ⟨(Nat.le_of_ble_eq_true rfl), (Nat.le_of_ble_eq_true rfl)⟩ rfl (Nat.le_of_ble_eq_true rfl) ⟨(Nat.le_of_ble_eq_true rfl), (Nat.le_of_ble_eq_true rfl)⟩ ho hM (fun H1 hp => ?_)
  obtain ⟨⟨fs2, ho2⟩, hM2⟩ := hp
  refine b_aload_n 2 dL_law_818 rfl rfl ?_
  refine b_aload_n 0 dL_law_819 rfl rfl ?_
  refine b_iload_n 3 dL_law_820 rfl rfl ?_
  refine b_iconst 1 dL_law_821 (by decide) ?_
  refine b_iaddN (a := i) (b := 1) dL_law_822 ?_
  refine b_sld (j := i + 1) hX hb0 rfl (by omega) (by omega) dL_law_823 ?_
  refine b_aload_n 0 dL_law_824 rfl rfl ?_
  refine b_iload_n 3 dL_law_825 rfl rfl ?_
  refine b_iconst 2 dL_law_826 (by decide) ?_
  refine b_iaddN (a := i) (b := 2) dL_law_827 ?_
  refine b_sld (j := i + 2) hX hb0 rfl (by omega) (by omega) dL_law_828 ?_
  refine b_callVi (As := [.int (xs (i + 1)), .int (xs (i + 2))]) (rest := [.int r]) (d := 5) (mc := 0) (ms := 0) (ci := 7) l_L_116 im_X7_bestCalled se_X7_bestCalled ⟨_, rfl, rfl⟩ dL_law_829 ⟨(Nat.le_of_ble_eq_true rfl), (Nat.le_of_ble_eq_true rfl)⟩ rfl (Nat.le_of_ble_eq_true rfl) ⟨(Nat.le_of_ble_eq_true rfl), (Nat.le_of_ble_eq_true rfl)⟩ ho2 hM2 (fun H2 hp => ?_)
  exact b_icmpeq 1080 dL_law_832 (by decide) (fun _ => k _ hp) (fun h => absurd rfl h)
set_option maxHeartbeats 1000000 in
theorem lc_asks (hX : va_X b0 L xs s s.heap) (hb0 : b0 < s.heap.size) (hi : i + 4 ≤ L) (hL : L ≤ 256) (hS : SS G H s.heap.size) (k : ∀ H1 : Heap, SS G H1 s.heap.size → LX G l p e s m below meth c b0 1080 [(0, .ref b0), (1, .ref s.heap.size), (2, .ref (s.heap.size + 120)), (3, .int (nI i))] [] H1) : LX G l p e s m below meth c b0 837 [(0, .ref b0), (1, .ref s.heap.size), (2, .ref (s.heap.size + 120)), (3, .int (nI i))] [] H := by
  obtain ⟨r, fs, ho, hM⟩ := j_asks (B := s.heap.size) (l := l) (x := xs (i + 1)) (Nat.le_refl _) hS
  refine b_aload_n 1 dL_law_837 rfl rfl ?_
  refine b_aload_n 0 dL_law_838 rfl rfl ?_
  refine b_iload_n 3 dL_law_839 rfl rfl ?_
  refine b_iconst 1 dL_law_840 (by decide) ?_
  refine b_iaddN (a := i) (b := 1) dL_law_841 ?_
  refine b_sld (j := i + 1) hX hb0 rfl (by omega) (by omega) dL_law_842 ?_
  refine b_callVi (As := [.int (xs (i + 1))]) (rest := []) (d := 0) (mc := 0) (ms := 0) (ci := 6) l_L_117 im_X6_asks se_X6_asks ⟨_, rfl, rfl⟩ dL_law_843 ⟨(Nat.le_of_ble_eq_true rfl), (Nat.le_of_ble_eq_true rfl)⟩ rfl (Nat.le_of_ble_eq_true rfl) ⟨(Nat.le_of_ble_eq_true rfl), (Nat.le_of_ble_eq_true rfl)⟩ ho hM (fun H1 hp => ?_)
  obtain ⟨⟨fs2, ho2⟩, hM2⟩ := hp
  refine b_aload_n 2 dL_law_846 rfl rfl ?_
  refine b_aload_n 0 dL_law_847 rfl rfl ?_
  refine b_iload_n 3 dL_law_848 rfl rfl ?_
  refine b_iconst 1 dL_law_849 (by decide) ?_
  refine b_iaddN (a := i) (b := 1) dL_law_850 ?_
  refine b_sld (j := i + 1) hX hb0 rfl (by omega) (by omega) dL_law_851 ?_
  refine b_callVi (As := [.int (xs (i + 1))]) (rest := [.int r]) (d := 1) (mc := 0) (ms := 0) (ci := 7) l_L_120 im_X7_asks se_X7_asks ⟨_, rfl, rfl⟩ dL_law_852 ⟨(Nat.le_of_ble_eq_true rfl), (Nat.le_of_ble_eq_true rfl)⟩ rfl (Nat.le_of_ble_eq_true rfl) ⟨(Nat.le_of_ble_eq_true rfl), (Nat.le_of_ble_eq_true rfl)⟩ ho2 hM2 (fun H2 hp => ?_)
  exact b_icmpeq 1080 dL_law_855 (by decide) (fun _ => k _ hp) (fun h => absurd rfl h)
set_option maxHeartbeats 1000000 in
theorem lc_waked (hX : va_X b0 L xs s s.heap) (hb0 : b0 < s.heap.size) (hi : i + 4 ≤ L) (hL : L ≤ 256) (hS : SS G H s.heap.size) (k : ∀ H1 : Heap, SS G H1 s.heap.size → LX G l p e s m below meth c b0 1080 [(0, .ref b0), (1, .ref s.heap.size), (2, .ref (s.heap.size + 120)), (3, .int (nI i))] [] H1) : LX G l p e s m below meth c b0 860 [(0, .ref b0), (1, .ref s.heap.size), (2, .ref (s.heap.size + 120)), (3, .int (nI i))] [] H := by
  obtain ⟨r, fs, ho, hM⟩ := j_waked (B := s.heap.size) (l := l) (x := xs (i + 1)) (y := xs (i + 2)) (Nat.le_refl _) hS
  refine b_aload_n 1 dL_law_860 rfl rfl ?_
  refine b_aload_n 0 dL_law_861 rfl rfl ?_
  refine b_iload_n 3 dL_law_862 rfl rfl ?_
  refine b_iconst 1 dL_law_863 (by decide) ?_
  refine b_iaddN (a := i) (b := 1) dL_law_864 ?_
  refine b_sld (j := i + 1) hX hb0 rfl (by omega) (by omega) dL_law_865 ?_
  refine b_aload_n 0 dL_law_866 rfl rfl ?_
  refine b_iload_n 3 dL_law_867 rfl rfl ?_
  refine b_iconst 2 dL_law_868 (by decide) ?_
  refine b_iaddN (a := i) (b := 2) dL_law_869 ?_
  refine b_sld (j := i + 2) hX hb0 rfl (by omega) (by omega) dL_law_870 ?_
  refine b_callVi (As := [.int (xs (i + 1)), .int (xs (i + 2))]) (rest := []) (d := 0) (mc := 0) (ms := 0) (ci := 6) l_L_121 im_X6_waked se_X6_waked ⟨_, rfl, rfl⟩ dL_law_871 ⟨(Nat.le_of_ble_eq_true rfl), (Nat.le_of_ble_eq_true rfl)⟩ rfl (Nat.le_of_ble_eq_true rfl) ⟨(Nat.le_of_ble_eq_true rfl), (Nat.le_of_ble_eq_true rfl)⟩ ho hM (fun H1 hp => ?_)
  obtain ⟨⟨fs2, ho2⟩, hM2⟩ := hp
  refine b_aload_n 2 dL_law_874 rfl rfl ?_
  refine b_aload_n 0 dL_law_875 rfl rfl ?_
  refine b_iload_n 3 dL_law_876 rfl rfl ?_
  refine b_iconst 1 dL_law_877 (by decide) ?_
  refine b_iaddN (a := i) (b := 1) dL_law_878 ?_
  refine b_sld (j := i + 1) hX hb0 rfl (by omega) (by omega) dL_law_879 ?_
  refine b_aload_n 0 dL_law_880 rfl rfl ?_
  refine b_iload_n 3 dL_law_881 rfl rfl ?_
  refine b_iconst 2 dL_law_882 (by decide) ?_
  refine b_iaddN (a := i) (b := 2) dL_law_883 ?_
  refine b_sld (j := i + 2) hX hb0 rfl (by omega) (by omega) dL_law_884 ?_
  refine b_callVi (As := [.int (xs (i + 1)), .int (xs (i + 2))]) (rest := [.int r]) (d := 1) (mc := 0) (ms := 0) (ci := 7) l_L_124 im_X7_waked se_X7_waked ⟨_, rfl, rfl⟩ dL_law_885 ⟨(Nat.le_of_ble_eq_true rfl), (Nat.le_of_ble_eq_true rfl)⟩ rfl (Nat.le_of_ble_eq_true rfl) ⟨(Nat.le_of_ble_eq_true rfl), (Nat.le_of_ble_eq_true rfl)⟩ ho2 hM2 (fun H2 hp => ?_)
  exact b_icmpeq 1080 dL_law_888 (by decide) (fun _ => k _ hp) (fun h => absurd rfl h)
set_option maxHeartbeats 1000000 in
theorem lc_see (hX : va_X b0 L xs s s.heap) (hb0 : b0 < s.heap.size) (hi : i + 4 ≤ L) (hL : L ≤ 256) (hS : SS G H s.heap.size) (k : ∀ H1 : Heap, SS G H1 s.heap.size → LX G l p e s m below meth c b0 1080 [(0, .ref b0), (1, .ref s.heap.size), (2, .ref (s.heap.size + 120)), (3, .int (nI i))] [] H1) : LX G l p e s m below meth c b0 893 [(0, .ref b0), (1, .ref s.heap.size), (2, .ref (s.heap.size + 120)), (3, .int (nI i))] [] H := by
  obtain ⟨r, fs, ho, hM⟩ := j_see (B := s.heap.size) (l := l) (x := xs (i + 1)) (y := xs (i + 2)) (Nat.le_refl _) hS
  refine b_aload_n 1 dL_law_893 rfl rfl ?_
  refine b_aload_n 0 dL_law_894 rfl rfl ?_
  refine b_iload_n 3 dL_law_895 rfl rfl ?_
  refine b_iconst 1 dL_law_896 (by decide) ?_
  refine b_iaddN (a := i) (b := 1) dL_law_897 ?_
  refine b_sld (j := i + 1) hX hb0 rfl (by omega) (by omega) dL_law_898 ?_
  refine b_aload_n 0 dL_law_899 rfl rfl ?_
  refine b_iload_n 3 dL_law_900 rfl rfl ?_
  refine b_iconst 2 dL_law_901 (by decide) ?_
  refine b_iaddN (a := i) (b := 2) dL_law_902 ?_
  refine b_sld (j := i + 2) hX hb0 rfl (by omega) (by omega) dL_law_903 ?_
  refine b_callVi (As := [.int (xs (i + 1)), .int (xs (i + 2))]) (rest := []) (d := 1) (mc := 0) (ms := 0) (ci := 6) l_L_125 im_X6_see se_X6_see ⟨_, rfl, rfl⟩ dL_law_904 ⟨(Nat.le_of_ble_eq_true rfl), (Nat.le_of_ble_eq_true rfl)⟩ rfl (Nat.le_of_ble_eq_true rfl) ⟨(Nat.le_of_ble_eq_true rfl), (Nat.le_of_ble_eq_true rfl)⟩ ho hM (fun H1 hp => ?_)
  obtain ⟨⟨fs2, ho2⟩, hM2⟩ := hp
  refine b_aload_n 2 dL_law_907 rfl rfl ?_
  refine b_aload_n 0 dL_law_908 rfl rfl ?_
  refine b_iload_n 3 dL_law_909 rfl rfl ?_
  refine b_iconst 1 dL_law_910 (by decide) ?_
  refine b_iaddN (a := i) (b := 1) dL_law_911 ?_
  refine b_sld (j := i + 1) hX hb0 rfl (by omega) (by omega) dL_law_912 ?_
  refine b_aload_n 0 dL_law_913 rfl rfl ?_
  refine b_iload_n 3 dL_law_914 rfl rfl ?_
  refine b_iconst 2 dL_law_915 (by decide) ?_
  refine b_iaddN (a := i) (b := 2) dL_law_916 ?_
  refine b_sld (j := i + 2) hX hb0 rfl (by omega) (by omega) dL_law_917 ?_
  refine b_callVi (As := [.int (xs (i + 1)), .int (xs (i + 2))]) (rest := [.int r]) (d := 2) (mc := 0) (ms := 0) (ci := 7) l_L_128 im_X7_see se_X7_see ⟨_, rfl, rfl⟩ dL_law_918 ⟨(Nat.le_of_ble_eq_true rfl), (Nat.le_of_ble_eq_true rfl)⟩ rfl (Nat.le_of_ble_eq_true rfl) ⟨(Nat.le_of_ble_eq_true rfl), (Nat.le_of_ble_eq_true rfl)⟩ ho2 hM2 (fun H2 hp => ?_)
  exact b_icmpeq 1080 dL_law_921 (by decide) (fun _ => k _ hp) (fun h => absurd rfl h)
set_option maxHeartbeats 1000000 in
theorem lc_speaker (hX : va_X b0 L xs s s.heap) (hb0 : b0 < s.heap.size) (hi : i + 4 ≤ L) (hL : L ≤ 256) (hS : SS G H s.heap.size) (k : ∀ H1 : Heap, SS G H1 s.heap.size → LX G l p e s m below meth c b0 1080 [(0, .ref b0), (1, .ref s.heap.size), (2, .ref (s.heap.size + 120)), (3, .int (nI i))] [] H1) : LX G l p e s m below meth c b0 926 [(0, .ref b0), (1, .ref s.heap.size), (2, .ref (s.heap.size + 120)), (3, .int (nI i))] [] H := by
  obtain ⟨r, fs, ho, hM⟩ := j_speaker (B := s.heap.size) (l := l) (Nat.le_refl _) hS
  refine b_aload_n 1 dL_law_926 rfl rfl ?_
  refine b_callVi (As := []) (rest := []) (d := 6) (mc := 0) (ms := 0) (ci := 6) l_L_129 im_X6_speaker se_X6_speaker ⟨_, rfl, rfl⟩ dL_law_927 ⟨(Nat.le_of_ble_eq_true rfl), (Nat.le_of_ble_eq_true rfl)⟩ rfl (Nat.le_of_ble_eq_true rfl) ⟨(Nat.le_of_ble_eq_true rfl), (Nat.le_of_ble_eq_true rfl)⟩ ho hM (fun H1 hp => ?_)
  obtain ⟨⟨fs2, ho2⟩, hM2⟩ := hp
  refine b_aload_n 2 dL_law_930 rfl rfl ?_
  refine b_callVi (As := []) (rest := [.int r]) (d := 4) (mc := 0) (ms := 0) (ci := 7) l_L_132 im_X7_speaker se_X7_speaker ⟨_, rfl, rfl⟩ dL_law_931 ⟨(Nat.le_of_ble_eq_true rfl), (Nat.le_of_ble_eq_true rfl)⟩ rfl (Nat.le_of_ble_eq_true rfl) ⟨(Nat.le_of_ble_eq_true rfl), (Nat.le_of_ble_eq_true rfl)⟩ ho2 hM2 (fun H2 hp => ?_)
  exact b_icmpeq 1080 dL_law_934 (by decide) (fun _ => k _ hp) (fun h => absurd rfl h)
set_option maxHeartbeats 1000000 in
theorem lc_sayNext (hX : va_X b0 L xs s s.heap) (hb0 : b0 < s.heap.size) (hi : i + 4 ≤ L) (hL : L ≤ 256) (hS : SS G H s.heap.size) (k : ∀ H1 : Heap, SS G H1 s.heap.size → LX G l p e s m below meth c b0 1080 [(0, .ref b0), (1, .ref s.heap.size), (2, .ref (s.heap.size + 120)), (3, .int (nI i))] [] H1) : LX G l p e s m below meth c b0 939 [(0, .ref b0), (1, .ref s.heap.size), (2, .ref (s.heap.size + 120)), (3, .int (nI i))] [] H := by
  obtain ⟨r, fs, ho, hM⟩ := j_sayNext (B := s.heap.size) (l := l) (Nat.le_refl _) hS
  refine b_aload_n 1 dL_law_939 rfl rfl ?_
  refine b_callVi (As := []) (rest := []) (d := 7) (mc := 0) (ms := 0) (ci := 6) l_L_133 im_X6_sayNext se_X6_sayNext ⟨_, rfl, rfl⟩ dL_law_940 ⟨(Nat.le_of_ble_eq_true rfl), (Nat.le_of_ble_eq_true rfl)⟩ rfl (Nat.le_of_ble_eq_true rfl) ⟨(Nat.le_of_ble_eq_true rfl), (Nat.le_of_ble_eq_true rfl)⟩ ho hM (fun H1 hp => ?_)
  obtain ⟨⟨fs2, ho2⟩, hM2⟩ := hp
  refine b_aload_n 2 dL_law_943 rfl rfl ?_
  refine b_callVi (As := []) (rest := [.int r]) (d := 5) (mc := 0) (ms := 0) (ci := 7) l_L_136 im_X7_sayNext se_X7_sayNext ⟨_, rfl, rfl⟩ dL_law_944 ⟨(Nat.le_of_ble_eq_true rfl), (Nat.le_of_ble_eq_true rfl)⟩ rfl (Nat.le_of_ble_eq_true rfl) ⟨(Nat.le_of_ble_eq_true rfl), (Nat.le_of_ble_eq_true rfl)⟩ ho2 hM2 (fun H2 hp => ?_)
  exact b_icmpeq 1080 dL_law_947 (by decide) (fun _ => k _ hp) (fun h => absurd rfl h)
set_option maxHeartbeats 1000000 in
theorem lc_write (hX : va_X b0 L xs s s.heap) (hb0 : b0 < s.heap.size) (hi : i + 4 ≤ L) (hL : L ≤ 256) (hS : SS G H s.heap.size) (k : ∀ H1 : Heap, SS G H1 s.heap.size → LX G l p e s m below meth c b0 1080 [(0, .ref b0), (1, .ref s.heap.size), (2, .ref (s.heap.size + 120)), (3, .int (nI i))] [] H1) : LX G l p e s m below meth c b0 952 [(0, .ref b0), (1, .ref s.heap.size), (2, .ref (s.heap.size + 120)), (3, .int (nI i))] [] H := by
  obtain ⟨r, fs, ho, hM⟩ := j_write (B := s.heap.size) (l := l) (x := xs (i + 1)) (y := xs (i + 2)) (Nat.le_refl _) hS
  refine b_aload_n 1 dL_law_952 rfl rfl ?_
  refine b_aload_n 0 dL_law_953 rfl rfl ?_
  refine b_iload_n 3 dL_law_954 rfl rfl ?_
  refine b_iconst 1 dL_law_955 (by decide) ?_
  refine b_iaddN (a := i) (b := 1) dL_law_956 ?_
  refine b_sld (j := i + 1) hX hb0 rfl (by omega) (by omega) dL_law_957 ?_
  refine b_aload_n 0 dL_law_958 rfl rfl ?_
  refine b_iload_n 3 dL_law_959 rfl rfl ?_
  refine b_iconst 2 dL_law_960 (by decide) ?_
  refine b_iaddN (a := i) (b := 2) dL_law_961 ?_
  refine b_sld (j := i + 2) hX hb0 rfl (by omega) (by omega) dL_law_962 ?_
  refine b_callVi (As := [.int (xs (i + 1)), .int (xs (i + 2))]) (rest := []) (d := 1) (mc := 0) (ms := 0) (ci := 6) l_L_137 im_X6_write se_X6_write ⟨_, rfl, rfl⟩ dL_law_963 ⟨(Nat.le_of_ble_eq_true rfl), (Nat.le_of_ble_eq_true rfl)⟩ rfl (Nat.le_of_ble_eq_true rfl) ⟨(Nat.le_of_ble_eq_true rfl), (Nat.le_of_ble_eq_true rfl)⟩ ho hM (fun H1 hp => ?_)
  obtain ⟨⟨fs2, ho2⟩, hM2⟩ := hp
  refine b_aload_n 2 dL_law_966 rfl rfl ?_
  refine b_aload_n 0 dL_law_967 rfl rfl ?_
  refine b_iload_n 3 dL_law_968 rfl rfl ?_
  refine b_iconst 1 dL_law_969 (by decide) ?_
  refine b_iaddN (a := i) (b := 1) dL_law_970 ?_
  refine b_sld (j := i + 1) hX hb0 rfl (by omega) (by omega) dL_law_971 ?_
  refine b_aload_n 0 dL_law_972 rfl rfl ?_
  refine b_iload_n 3 dL_law_973 rfl rfl ?_
  refine b_iconst 2 dL_law_974 (by decide) ?_
  refine b_iaddN (a := i) (b := 2) dL_law_975 ?_
  refine b_sld (j := i + 2) hX hb0 rfl (by omega) (by omega) dL_law_976 ?_
  refine b_callVi (As := [.int (xs (i + 1)), .int (xs (i + 2))]) (rest := [.int r]) (d := 2) (mc := 0) (ms := 0) (ci := 7) l_L_140 im_X7_write se_X7_write ⟨_, rfl, rfl⟩ dL_law_977 ⟨(Nat.le_of_ble_eq_true rfl), (Nat.le_of_ble_eq_true rfl)⟩ rfl (Nat.le_of_ble_eq_true rfl) ⟨(Nat.le_of_ble_eq_true rfl), (Nat.le_of_ble_eq_true rfl)⟩ ho2 hM2 (fun H2 hp => ?_)
  exact b_icmpeq 1080 dL_law_980 (by decide) (fun _ => k _ hp) (fun h => absurd rfl h)
set_option maxHeartbeats 1000000 in
theorem lc_tear (hX : va_X b0 L xs s s.heap) (hb0 : b0 < s.heap.size) (hi : i + 4 ≤ L) (hL : L ≤ 256) (hS : SS G H s.heap.size) (k : ∀ H1 : Heap, SS G H1 s.heap.size → LX G l p e s m below meth c b0 1080 [(0, .ref b0), (1, .ref s.heap.size), (2, .ref (s.heap.size + 120)), (3, .int (nI i))] [] H1) : LX G l p e s m below meth c b0 985 [(0, .ref b0), (1, .ref s.heap.size), (2, .ref (s.heap.size + 120)), (3, .int (nI i))] [] H := by
  obtain ⟨r, fs, ho, hM⟩ := j_tear (B := s.heap.size) (l := l) (Nat.le_refl _) hS
  refine b_aload_n 1 dL_law_985 rfl rfl ?_
  refine b_callVi (As := []) (rest := []) (d := 1) (mc := 0) (ms := 0) (ci := 6) l_L_141 im_X6_tear se_X6_tear ⟨_, rfl, rfl⟩ dL_law_986 ⟨(Nat.le_of_ble_eq_true rfl), (Nat.le_of_ble_eq_true rfl)⟩ rfl (Nat.le_of_ble_eq_true rfl) ⟨(Nat.le_of_ble_eq_true rfl), (Nat.le_of_ble_eq_true rfl)⟩ ho hM (fun H1 hp => ?_)
  obtain ⟨⟨fs2, ho2⟩, hM2⟩ := hp
  refine b_aload_n 2 dL_law_989 rfl rfl ?_
  refine b_callVi (As := []) (rest := [.int r]) (d := 0) (mc := 0) (ms := 0) (ci := 7) l_L_144 im_X7_tear se_X7_tear ⟨_, rfl, rfl⟩ dL_law_990 ⟨(Nat.le_of_ble_eq_true rfl), (Nat.le_of_ble_eq_true rfl)⟩ rfl (Nat.le_of_ble_eq_true rfl) ⟨(Nat.le_of_ble_eq_true rfl), (Nat.le_of_ble_eq_true rfl)⟩ ho2 hM2 (fun H2 hp => ?_)
  exact b_icmpeq 1080 dL_law_993 (by decide) (fun _ => k _ hp) (fun h => absurd rfl h)
set_option maxHeartbeats 1000000 in
theorem lc_judge (hX : va_X b0 L xs s s.heap) (hb0 : b0 < s.heap.size) (hi : i + 4 ≤ L) (hL : L ≤ 256) (hS : SS G H s.heap.size) (k : ∀ H1 : Heap, SS G H1 s.heap.size → LX G l p e s m below meth c b0 1080 [(0, .ref b0), (1, .ref s.heap.size), (2, .ref (s.heap.size + 120)), (3, .int (nI i))] [] H1) : LX G l p e s m below meth c b0 998 [(0, .ref b0), (1, .ref s.heap.size), (2, .ref (s.heap.size + 120)), (3, .int (nI i))] [] H := by
  obtain ⟨r, fs, ho, hM⟩ := j_judge (B := s.heap.size) (l := l) (Nat.le_refl _) hS
  refine b_aload_n 1 dL_law_998 rfl rfl ?_
  refine b_callVi (As := []) (rest := []) (d := 1) (mc := 0) (ms := 0) (ci := 6) l_L_145 im_X6_judge se_X6_judge ⟨_, rfl, rfl⟩ dL_law_999 ⟨(Nat.le_of_ble_eq_true rfl), (Nat.le_of_ble_eq_true rfl)⟩ rfl (Nat.le_of_ble_eq_true rfl) ⟨(Nat.le_of_ble_eq_true rfl), (Nat.le_of_ble_eq_true rfl)⟩ ho hM (fun H1 hp => ?_)
  obtain ⟨⟨fs2, ho2⟩, hM2⟩ := hp
  refine b_aload_n 2 dL_law_1002 rfl rfl ?_
  refine b_callVi (As := []) (rest := [.int r]) (d := 0) (mc := 0) (ms := 0) (ci := 7) l_L_148 im_X7_judge se_X7_judge ⟨_, rfl, rfl⟩ dL_law_1003 ⟨(Nat.le_of_ble_eq_true rfl), (Nat.le_of_ble_eq_true rfl)⟩ rfl (Nat.le_of_ble_eq_true rfl) ⟨(Nat.le_of_ble_eq_true rfl), (Nat.le_of_ble_eq_true rfl)⟩ ho2 hM2 (fun H2 hp => ?_)
  exact b_icmpeq 1080 dL_law_1006 (by decide) (fun _ => k _ hp) (fun h => absurd rfl h)
set_option maxHeartbeats 1000000 in
theorem lc_seed (hX : va_X b0 L xs s s.heap) (hb0 : b0 < s.heap.size) (hi : i + 4 ≤ L) (hL : L ≤ 256) (hS : SS G H s.heap.size) (k : ∀ H1 : Heap, SS G H1 s.heap.size → LX G l p e s m below meth c b0 1080 [(0, .ref b0), (1, .ref s.heap.size), (2, .ref (s.heap.size + 120)), (3, .int (nI i))] [] H1) : LX G l p e s m below meth c b0 1011 [(0, .ref b0), (1, .ref s.heap.size), (2, .ref (s.heap.size + 120)), (3, .int (nI i))] [] H := by
  obtain ⟨r, fs, ho, hM⟩ := j_seed (B := s.heap.size) (l := l) (x := xs (i + 1)) (Nat.le_refl _) hS
  refine b_aload_n 1 dL_law_1011 rfl rfl ?_
  refine b_aload_n 0 dL_law_1012 rfl rfl ?_
  refine b_iload_n 3 dL_law_1013 rfl rfl ?_
  refine b_iconst 1 dL_law_1014 (by decide) ?_
  refine b_iaddN (a := i) (b := 1) dL_law_1015 ?_
  refine b_sld (j := i + 1) hX hb0 rfl (by omega) (by omega) dL_law_1016 ?_
  refine b_callVi (As := [.int (xs (i + 1))]) (rest := []) (d := 0) (mc := 0) (ms := 0) (ci := 6) l_L_149 im_X6_seed se_X6_seed ⟨_, rfl, rfl⟩ dL_law_1017 ⟨(Nat.le_of_ble_eq_true rfl), (Nat.le_of_ble_eq_true rfl)⟩ rfl (Nat.le_of_ble_eq_true rfl) ⟨(Nat.le_of_ble_eq_true rfl), (Nat.le_of_ble_eq_true rfl)⟩ ho hM (fun H1 hp => ?_)
  obtain ⟨⟨fs2, ho2⟩, hM2⟩ := hp
  refine b_aload_n 2 dL_law_1020 rfl rfl ?_
  refine b_aload_n 0 dL_law_1021 rfl rfl ?_
  refine b_iload_n 3 dL_law_1022 rfl rfl ?_
  refine b_iconst 1 dL_law_1023 (by decide) ?_
  refine b_iaddN (a := i) (b := 1) dL_law_1024 ?_
  refine b_sld (j := i + 1) hX hb0 rfl (by omega) (by omega) dL_law_1025 ?_
  refine b_callVi (As := [.int (xs (i + 1))]) (rest := [.int r]) (d := 0) (mc := 0) (ms := 0) (ci := 7) l_L_152 im_X7_seed se_X7_seed ⟨_, rfl, rfl⟩ dL_law_1026 ⟨(Nat.le_of_ble_eq_true rfl), (Nat.le_of_ble_eq_true rfl)⟩ rfl (Nat.le_of_ble_eq_true rfl) ⟨(Nat.le_of_ble_eq_true rfl), (Nat.le_of_ble_eq_true rfl)⟩ ho2 hM2 (fun H2 hp => ?_)
  exact b_icmpeq 1080 dL_law_1029 (by decide) (fun _ => k _ hp) (fun h => absurd rfl h)
set_option maxHeartbeats 1000000 in
theorem lc_keep (hX : va_X b0 L xs s s.heap) (hb0 : b0 < s.heap.size) (hi : i + 4 ≤ L) (hL : L ≤ 256) (hS : SS G H s.heap.size) (k : ∀ H1 : Heap, SS G H1 s.heap.size → LX G l p e s m below meth c b0 1080 [(0, .ref b0), (1, .ref s.heap.size), (2, .ref (s.heap.size + 120)), (3, .int (nI i))] [] H1) : LX G l p e s m below meth c b0 1034 [(0, .ref b0), (1, .ref s.heap.size), (2, .ref (s.heap.size + 120)), (3, .int (nI i))] [] H := by
  obtain ⟨r, fs, ho, hM⟩ := j_keep (B := s.heap.size) (l := l) (x := xs (i + 1)) (Nat.le_refl _) hS
  refine b_aload_n 1 dL_law_1034 rfl rfl ?_
  refine b_aload_n 0 dL_law_1035 rfl rfl ?_
  refine b_iload_n 3 dL_law_1036 rfl rfl ?_
  refine b_iconst 1 dL_law_1037 (by decide) ?_
  refine b_iaddN (a := i) (b := 1) dL_law_1038 ?_
  refine b_sld (j := i + 1) hX hb0 rfl (by omega) (by omega) dL_law_1039 ?_
  refine b_callVi (As := [.int (xs (i + 1))]) (rest := []) (d := 2) (mc := 0) (ms := 0) (ci := 6) l_L_153 im_X6_keep se_X6_keep ⟨_, rfl, rfl⟩ dL_law_1040 ⟨(Nat.le_of_ble_eq_true rfl), (Nat.le_of_ble_eq_true rfl)⟩ rfl (Nat.le_of_ble_eq_true rfl) ⟨(Nat.le_of_ble_eq_true rfl), (Nat.le_of_ble_eq_true rfl)⟩ ho hM (fun H1 hp => ?_)
  obtain ⟨⟨fs2, ho2⟩, hM2⟩ := hp
  refine b_aload_n 2 dL_law_1043 rfl rfl ?_
  refine b_aload_n 0 dL_law_1044 rfl rfl ?_
  refine b_iload_n 3 dL_law_1045 rfl rfl ?_
  refine b_iconst 1 dL_law_1046 (by decide) ?_
  refine b_iaddN (a := i) (b := 1) dL_law_1047 ?_
  refine b_sld (j := i + 1) hX hb0 rfl (by omega) (by omega) dL_law_1048 ?_
  refine b_callVi (As := [.int (xs (i + 1))]) (rest := [.int r]) (d := 1) (mc := 0) (ms := 0) (ci := 7) l_L_156 im_X7_keep se_X7_keep ⟨_, rfl, rfl⟩ dL_law_1049 ⟨(Nat.le_of_ble_eq_true rfl), (Nat.le_of_ble_eq_true rfl)⟩ rfl (Nat.le_of_ble_eq_true rfl) ⟨(Nat.le_of_ble_eq_true rfl), (Nat.le_of_ble_eq_true rfl)⟩ ho2 hM2 (fun H2 hp => ?_)
  exact b_icmpeq 1080 dL_law_1052 (by decide) (fun _ => k _ hp) (fun h => absurd rfl h)
set_option maxHeartbeats 1000000 in
theorem lc_goBack (hX : va_X b0 L xs s s.heap) (hb0 : b0 < s.heap.size) (hi : i + 4 ≤ L) (hL : L ≤ 256) (hS : SS G H s.heap.size) (k : ∀ H1 : Heap, SS G H1 s.heap.size → LX G l p e s m below meth c b0 1080 [(0, .ref b0), (1, .ref s.heap.size), (2, .ref (s.heap.size + 120)), (3, .int (nI i))] [] H1) : LX G l p e s m below meth c b0 1057 [(0, .ref b0), (1, .ref s.heap.size), (2, .ref (s.heap.size + 120)), (3, .int (nI i))] [] H := by
  obtain ⟨r, fs, ho, hM⟩ := j_goBack (B := s.heap.size) (l := l) (x := xs (i + 1)) (Nat.le_refl _) hS
  refine b_aload_n 1 dL_law_1057 rfl rfl ?_
  refine b_aload_n 0 dL_law_1058 rfl rfl ?_
  refine b_iload_n 3 dL_law_1059 rfl rfl ?_
  refine b_iconst 1 dL_law_1060 (by decide) ?_
  refine b_iaddN (a := i) (b := 1) dL_law_1061 ?_
  refine b_sld (j := i + 1) hX hb0 rfl (by omega) (by omega) dL_law_1062 ?_
  refine b_callVi (As := [.int (xs (i + 1))]) (rest := []) (d := 2) (mc := 0) (ms := 0) (ci := 6) l_L_157 im_X6_goBack se_X6_goBack ⟨_, rfl, rfl⟩ dL_law_1063 ⟨(Nat.le_of_ble_eq_true rfl), (Nat.le_of_ble_eq_true rfl)⟩ rfl (Nat.le_of_ble_eq_true rfl) ⟨(Nat.le_of_ble_eq_true rfl), (Nat.le_of_ble_eq_true rfl)⟩ ho hM (fun H1 hp => ?_)
  obtain ⟨⟨fs2, ho2⟩, hM2⟩ := hp
  refine b_aload_n 2 dL_law_1066 rfl rfl ?_
  refine b_aload_n 0 dL_law_1067 rfl rfl ?_
  refine b_iload_n 3 dL_law_1068 rfl rfl ?_
  refine b_iconst 1 dL_law_1069 (by decide) ?_
  refine b_iaddN (a := i) (b := 1) dL_law_1070 ?_
  refine b_sld (j := i + 1) hX hb0 rfl (by omega) (by omega) dL_law_1071 ?_
  refine b_callVi (As := [.int (xs (i + 1))]) (rest := [.int r]) (d := 1) (mc := 0) (ms := 0) (ci := 7) l_L_160 im_X7_goBack se_X7_goBack ⟨_, rfl, rfl⟩ dL_law_1072 ⟨(Nat.le_of_ble_eq_true rfl), (Nat.le_of_ble_eq_true rfl)⟩ rfl (Nat.le_of_ble_eq_true rfl) ⟨(Nat.le_of_ble_eq_true rfl), (Nat.le_of_ble_eq_true rfl)⟩ ho2 hM2 (fun H2 hp => ?_)
  exact b_icmpeq 1080 dL_law_1075 (by decide) (fun _ => k _ hp) (fun h => absurd rfl h)
end LC
/-! ===== END ===== -/
