set_option maxHeartbeats 4000000 in
set_option maxRecDepth 100000 in
/-- case 0: addRoom -/
theorem lw_c0 {p : Program} {l : Launch} {e : Env} {s : State} {m : MethodId} {below : List Frame} {meth : Method} {c : Code} {G : ecG} {X Y : Nat → Prop} {b L x y zo zd i : Nat} {ya : Nat → Nat} {xs : Nat → Int32} {H : Heap} {locs : List Loc} {M : ecM} {th : Int32} {f : Nat → Int64} {fd : Nat → UInt64} {ls : Array Slot} {cells slots : Nat} {Q : State → Prop} (F : lwF p l s m c G X Y b L xs zo zd) (I : lwI s G X Y x y zo zd ya H locs M M th f fd) (hi : i + 7 ≤ L) (hl : lv_has ls 9 (lwL b x y zo zd i)) (hc : cells + 8 ≤ room_1.cells) (hs : slots + 150 ≤ room_1.slots) (kk : ∀ (H : Heap) (locs : List Loc) (M : ecM) (th : Int32) (f : Nat → Int64) (fd : Nat → UInt64) (ls : Array Slot), lwI s G X Y x y zo zd ya H locs M M th f fd → lv_has ls 9 (lwL b x y zo zd i) → W p l e room_1 s m #[Value.ref b] below meth c H locs (cells + 8) (slots + 150) Q (F0 m 2146 ls [])) : W p l e room_1 s m #[Value.ref b] below meth c H locs cells slots Q (F0 m 180 ls []) := by
  obtain ⟨hC, hls, hOk, hX, hbl, hL, hAN, hXA, hYA, hoA, hdA, hYX, hXo, hXd, hYo, hYd, hdo⟩ := id F
  have hK := hOk.1
  have hY : ∀ q, Y q → ecN0 G ≤ q := fun q h => hAN q (hYA q h)
  have hwf := I.2.2.1.wf
  obtain ⟨hS, hXs, hEC, hx, hz, hzd⟩ := id I
  have hl : lv_has ls 9 [(0, .ref b), (1, .ref x), (2, .ref y), (3, .ref zo), (4, .ref zd), (5, .int (nI i))] := hl
  refine lv_aload_n hC.1 hC.2.1 dL_law_180 rfl (lv_at hl 1 rfl) ?_
  refine lv_aload_n hC.1 hC.2.1 dL_law_181 rfl (lv_at hl 3 rfl) ?_
  refine ec_goXE1 (ec_xSH hC (c_L_addRoom l hls G X M x zo f hXo (hAN _ hoA)) kL_116 (hOk.at hS hAN) ⟨hXs, hEC, hz⟩ hl.1 ⟨Nat.le_of_ble_eq_true rfl, Nat.le_of_ble_eq_true rfl⟩ rfl (Nat.le_of_ble_eq_true rfl) dL_law_182 ⟨hc, hs⟩) hS (fun q h => h.elim (hXA q) (fun h => by rw [h]; exact hoA)) (fun _ _ _ _ _ hx9 => hx9.elim) (fun H locs hp hzs hk1 hS => ?_)
  obtain ⟨hEC, f, hz, hf⟩ := hp
  have I := I.hlp F hS hzs hk1 hEC hz
  obtain ⟨hS, hXs, hEC, hx, hz, hzd⟩ := id I
  refine lv_istore (lv' := [(6, .int (nI (thAdd M))), (0, .ref b), (1, .ref x), (2, .ref y), (3, .ref zo), (4, .ref zd), (5, .int (nI i))]) hC.1 hC.2.1 dL_law_185 hl (by decide) rfl (fun ls hl => ?_)
  refine lv_aload_n hC.1 hC.2.1 dL_law_187 rfl (lv_at hl 3 rfl) ?_
  refine ec_goEi (ec_rV hC (c_X6_addRoom l G Y M th y ya hY hwf) kL_121 (hOk.at hS hAN) hx (ec_rc hK hx.1 ⟨_, _, rfl⟩) hl.1 ⟨Nat.le_of_ble_eq_true rfl, Nat.le_of_ble_eq_true rfl⟩ rfl (Nat.le_of_ble_eq_true rfl) dL_law_188 ⟨hc, hs⟩) hS hYA (fun w H locs hp hzs hk1 hS => ?_)
  obtain ⟨hw, hp⟩ := hp
  have I := I.mod F hS hzs hk1 hp
  obtain ⟨hS, hXs, hEC, hx, hz, hzd⟩ := id I
  refine lv_istore (lv' := [(7, .int w), (6, .int (nI (thAdd M))), (0, .ref b), (1, .ref x), (2, .ref y), (3, .ref zo), (4, .ref zd), (5, .int (nI i))]) hC.1 hC.2.1 dL_law_191 hl (by decide) rfl (fun ls hl => ?_)
  refine lv_aload_n hC.1 hC.2.1 dL_law_193 rfl (lv_at hl 4 rfl) ?_
  refine ec_go1 (ec_rV hC (c_X6_thrown l G Y _ _ y ya) kL_122 (hOk.at hS hAN) hx (ec_rc hK hx.1 ⟨_, _, rfl⟩) hl.1 ⟨Nat.le_of_ble_eq_true rfl, Nat.le_of_ble_eq_true rfl⟩ rfl (Nat.le_of_ble_eq_true rfl) dL_law_194 ⟨hc, hs⟩) ?_
  refine lv_iload hC.1 hC.2.1 dL_law_197 (lv_at hl 1 rfl) ?_
  refine lv_icmp_eq (tgt := 204) hC.1 hC.2.1 dL_law_199 (by decide) (fun c_199 => ?_) (fun c => absurd rfl c)
  refine lv_iload hC.1 hC.2.1 dL_law_204 (lv_at hl 1 rfl) ?_
  refine lv_if_ne (tgt := 221) hC.1 hC.2.1 dL_law_206 (by decide) (fun c_206 => ?_) (fun c_206 => ?_)
  · refine lv_goto (tgt := 2146) hC.1 hC.2.1 dL_law_221 (by decide) ?_
    exact kk _ _ _ _ _ _ _ I (lv_sub hl [2, 3, 4, 5, 6, 7] rfl)
  · refine lv_aload_n hC.1 hC.2.1 dL_law_209 rfl (lv_at hl 5 rfl) ?_
    refine lv_iconst (v := 0) hC.1 hC.2.1 dL_law_210 (by decide) ?_
    have hT : thAdd M = 0 := (nI_eq (b := 0) (by first | exact thAdd_lt _ | exact thAdd_lt _ _ | exact thAdd_lt _ _ _ | exact thAdd_lt _ _ _ _ | exact thAdd_lt _ _ _ _ _ | exact thAdd_lt _ _ _ _ _ _ | exact thAdd_lt _ _ _ _ _ _ _) (by decide)).mp c_206
    have hf := hf hT
    have hw := hw hT
    subst hw
    have hl : lv_has ls 9 [(7, .int (nI (mnR M))), (6, .int (nI (thAdd M))), (0, .ref b), (1, .ref x), (2, .ref y), (3, .ref zo), (4, .ref zd), (5, .int (nI i))] := hl
    refine ec_lald hC hK hz 0 rfl (by decide) (by decide) dL_law_211 ?_
    refine lv_iload hC.1 hC.2.1 dL_law_212 (lv_at hl 0 rfl) ?_
    refine lv_i2l hC.1 hC.2.1 dL_law_214 rfl ?_
    refine W.lcmp hC.1 hC.2.1 dL_law_215 ?_
    refine lv_if_eq (tgt := 221) hC.1 hC.2.1 dL_law_216 (by decide) (fun c_216 => ?_) (fun c => absurd ((ec_cm0 _ _).mpr hf) c)
    refine lv_goto (tgt := 2146) hC.1 hC.2.1 dL_law_221 (by decide) ?_
    exact kk _ _ _ _ _ _ _ I (lv_sub hl [2, 3, 4, 5, 6, 7] rfl)

set_option maxHeartbeats 4000000 in
set_option maxRecDepth 100000 in
/-- case 1: setState -/
theorem lw_c1 {p : Program} {l : Launch} {e : Env} {s : State} {m : MethodId} {below : List Frame} {meth : Method} {c : Code} {G : ecG} {X Y : Nat → Prop} {b L x y zo zd i : Nat} {ya : Nat → Nat} {xs : Nat → Int32} {H : Heap} {locs : List Loc} {M : ecM} {th : Int32} {f : Nat → Int64} {fd : Nat → UInt64} {ls : Array Slot} {cells slots : Nat} {Q : State → Prop} (F : lwF p l s m c G X Y b L xs zo zd) (I : lwI s G X Y x y zo zd ya H locs M M th f fd) (hi : i + 7 ≤ L) (hl : lv_has ls 9 (lwL b x y zo zd i)) (hc : cells + 8 ≤ room_1.cells) (hs : slots + 150 ≤ room_1.slots) (kk : ∀ (H : Heap) (locs : List Loc) (M : ecM) (th : Int32) (f : Nat → Int64) (fd : Nat → UInt64) (ls : Array Slot), lwI s G X Y x y zo zd ya H locs M M th f fd → lv_has ls 9 (lwL b x y zo zd i) → W p l e room_1 s m #[Value.ref b] below meth c H locs (cells + 8) (slots + 150) Q (F0 m 2146 ls [])) : W p l e room_1 s m #[Value.ref b] below meth c H locs cells slots Q (F0 m 224 ls []) := by
  obtain ⟨hC, hls, hOk, hX, hbl, hL, hAN, hXA, hYA, hoA, hdA, hYX, hXo, hXd, hYo, hYd, hdo⟩ := id F
  have hK := hOk.1
  have hY : ∀ q, Y q → ecN0 G ≤ q := fun q h => hAN q (hYA q h)
  have hwf := I.2.2.1.wf
  obtain ⟨hS, hXs, hEC, hx, hz, hzd⟩ := id I
  have hl : lv_has ls 9 [(0, .ref b), (1, .ref x), (2, .ref y), (3, .ref zo), (4, .ref zd), (5, .int (nI i))] := hl
  refine lv_aload_n hC.1 hC.2.1 dL_law_224 rfl (lv_at hl 1 rfl) ?_
  refine lv_aload_n hC.1 hC.2.1 dL_law_225 rfl (lv_at hl 0 rfl) ?_
  refine lv_iload hC.1 hC.2.1 dL_law_226 (lv_at hl 5 rfl) ?_
  refine lv_iconst (v := 1) hC.1 hC.2.1 dL_law_228 (by decide) ?_
  refine lv_iadd hC.1 hC.2.1 dL_law_229 ?_
  refine lw_ld hC hX hbl hS hL (i + 1) (nI_add i 1) (by omega) dL_law_230 ?_
  refine lv_aload_n hC.1 hC.2.1 dL_law_231 rfl (lv_at hl 0 rfl) ?_
  refine lv_iload hC.1 hC.2.1 dL_law_232 (lv_at hl 5 rfl) ?_
  refine lv_iconst (v := 2) hC.1 hC.2.1 dL_law_234 (by decide) ?_
  refine lv_iadd hC.1 hC.2.1 dL_law_235 ?_
  refine lw_ld hC hX hbl hS hL (i + 2) (nI_add i 2) (by omega) dL_law_236 ?_
  refine lv_aload_n hC.1 hC.2.1 dL_law_237 rfl (lv_at hl 0 rfl) ?_
  refine lv_iload hC.1 hC.2.1 dL_law_238 (lv_at hl 5 rfl) ?_
  refine lv_iconst (v := 3) hC.1 hC.2.1 dL_law_240 (by decide) ?_
  refine lv_iadd hC.1 hC.2.1 dL_law_241 ?_
  refine lw_ld hC hX hbl hS hL (i + 3) (nI_add i 3) (by omega) dL_law_242 ?_
  refine lv_aload_n hC.1 hC.2.1 dL_law_243 rfl (lv_at hl 0 rfl) ?_
  refine lv_iload hC.1 hC.2.1 dL_law_244 (lv_at hl 5 rfl) ?_
  refine lv_iconst (v := 4) hC.1 hC.2.1 dL_law_246 (by decide) ?_
  refine lv_iadd hC.1 hC.2.1 dL_law_247 ?_
  refine lw_ld hC hX hbl hS hL (i + 4) (nI_add i 4) (by omega) dL_law_248 ?_
  refine lw_bool hC dL_law_249 dL_law_252 dL_law_253 dL_law_256 ?_
  refine lv_aload_n hC.1 hC.2.1 dL_law_257 rfl (lv_at hl 3 rfl) ?_
  refine ec_goXE1 (ec_xSH hC (c_L_setState l hls G X M x zo f hXo (hAN _ hoA) (xs (i + 1)) (xs (i + 2)) (xs (i + 3)) (!decide (xs (i + 4) = 0))) kL_125 (hOk.at hS hAN) ⟨hXs, hEC, hz⟩ hl.1 ⟨Nat.le_of_ble_eq_true rfl, Nat.le_of_ble_eq_true rfl⟩ rfl (Nat.le_of_ble_eq_true rfl) dL_law_258 ⟨hc, hs⟩) hS (fun q h => h.elim (hXA q) (fun h => by rw [h]; exact hoA)) (fun _ _ _ _ _ hx9 => hx9.elim) (fun H locs hp hzs hk1 hS => ?_)
  obtain ⟨hEC, f, hz, hf⟩ := hp
  have I := I.hlp F hS hzs hk1 hEC hz
  obtain ⟨hS, hXs, hEC, hx, hz, hzd⟩ := id I
  refine lv_istore (lv' := [(6, .int (nI (thSet M (xs (i + 1)) (xs (i + 2)) (xs (i + 3))))), (0, .ref b), (1, .ref x), (2, .ref y), (3, .ref zo), (4, .ref zd), (5, .int (nI i))]) hC.1 hC.2.1 dL_law_261 hl (by decide) rfl (fun ls hl => ?_)
  refine lv_aload_n hC.1 hC.2.1 dL_law_263 rfl (lv_at hl 3 rfl) ?_
  refine lv_aload_n hC.1 hC.2.1 dL_law_264 rfl (lv_at hl 1 rfl) ?_
  refine lv_iload hC.1 hC.2.1 dL_law_265 (lv_at hl 6 rfl) ?_
  refine lv_iconst (v := 1) hC.1 hC.2.1 dL_law_267 (by decide) ?_
  refine lv_iadd hC.1 hC.2.1 dL_law_268 ?_
  refine lw_ld hC hX hbl hS hL (i + 1) (nI_add i 1) (by omega) dL_law_269 ?_
  refine lv_aload_n hC.1 hC.2.1 dL_law_270 rfl (lv_at hl 1 rfl) ?_
  refine lv_iload hC.1 hC.2.1 dL_law_271 (lv_at hl 6 rfl) ?_
  refine lv_iconst (v := 2) hC.1 hC.2.1 dL_law_273 (by decide) ?_
  refine lv_iadd hC.1 hC.2.1 dL_law_274 ?_
  refine lw_ld hC hX hbl hS hL (i + 2) (nI_add i 2) (by omega) dL_law_275 ?_
  refine lv_aload_n hC.1 hC.2.1 dL_law_276 rfl (lv_at hl 1 rfl) ?_
  refine lv_iload hC.1 hC.2.1 dL_law_277 (lv_at hl 6 rfl) ?_
  refine lv_iconst (v := 3) hC.1 hC.2.1 dL_law_279 (by decide) ?_
  refine lv_iadd hC.1 hC.2.1 dL_law_280 ?_
  refine lw_ld hC hX hbl hS hL (i + 3) (nI_add i 3) (by omega) dL_law_281 ?_
  refine lv_aload_n hC.1 hC.2.1 dL_law_282 rfl (lv_at hl 1 rfl) ?_
  refine lv_iload hC.1 hC.2.1 dL_law_283 (lv_at hl 6 rfl) ?_
  refine lv_iconst (v := 4) hC.1 hC.2.1 dL_law_285 (by decide) ?_
  refine lv_iadd hC.1 hC.2.1 dL_law_286 ?_
  refine lw_ld hC hX hbl hS hL (i + 4) (nI_add i 4) (by omega) dL_law_287 ?_
  refine lw_bool hC dL_law_288 dL_law_291 dL_law_292 dL_law_295 ?_
  refine ec_goEi (ec_rV hC (c_X6_setState l G Y M th y ya hY hwf (xs (i + 1)) (xs (i + 2)) (xs (i + 3)) (!decide (xs (i + 4) = 0))) kL_128 (hOk.at hS hAN) hx (ec_rc hK hx.1 ⟨_, _, rfl⟩) hl.1 ⟨Nat.le_of_ble_eq_true rfl, Nat.le_of_ble_eq_true rfl⟩ rfl (Nat.le_of_ble_eq_true rfl) dL_law_296 ⟨hc, hs⟩) hS hYA (fun w H locs hp hzs hk1 hS => ?_)
  obtain ⟨hw, hp⟩ := hp
  have I := I.mod F hS hzs hk1 hp
  obtain ⟨hS, hXs, hEC, hx, hz, hzd⟩ := id I
  refine lv_istore (lv' := [(7, .int w), (6, .int (nI (thSet M (xs (i + 1)) (xs (i + 2)) (xs (i + 3))))), (0, .ref b), (1, .ref x), (2, .ref y), (3, .ref zo), (4, .ref zd), (5, .int (nI i))]) hC.1 hC.2.1 dL_law_299 hl (by decide) rfl (fun ls hl => ?_)
  refine lv_aload_n hC.1 hC.2.1 dL_law_301 rfl (lv_at hl 4 rfl) ?_
  refine ec_go1 (ec_rV hC (c_X6_thrown l G Y _ _ y ya) kL_122 (hOk.at hS hAN) hx (ec_rc hK hx.1 ⟨_, _, rfl⟩) hl.1 ⟨Nat.le_of_ble_eq_true rfl, Nat.le_of_ble_eq_true rfl⟩ rfl (Nat.le_of_ble_eq_true rfl) dL_law_302 ⟨hc, hs⟩) ?_
  refine lv_iload hC.1 hC.2.1 dL_law_305 (lv_at hl 1 rfl) ?_
  refine lv_icmp_eq (tgt := 312) hC.1 hC.2.1 dL_law_307 (by decide) (fun c_307 => ?_) (fun c => absurd rfl c)
  refine lv_iload hC.1 hC.2.1 dL_law_312 (lv_at hl 1 rfl) ?_
  refine lv_if_ne (tgt := 329) hC.1 hC.2.1 dL_law_314 (by decide) (fun c_314 => ?_) (fun c_314 => ?_)
  · refine lv_goto (tgt := 2146) hC.1 hC.2.1 dL_law_329 (by decide) ?_
    exact kk _ _ _ _ _ _ _ I (lv_sub hl [2, 3, 4, 5, 6, 7] rfl)
  · refine lv_aload_n hC.1 hC.2.1 dL_law_317 rfl (lv_at hl 5 rfl) ?_
    refine lv_iconst (v := 0) hC.1 hC.2.1 dL_law_318 (by decide) ?_
    have hT : thSet M (xs (i + 1)) (xs (i + 2)) (xs (i + 3)) = 0 := (nI_eq (b := 0) (by first | exact thSet_lt _ | exact thSet_lt _ _ | exact thSet_lt _ _ _ | exact thSet_lt _ _ _ _ | exact thSet_lt _ _ _ _ _ | exact thSet_lt _ _ _ _ _ _ | exact thSet_lt _ _ _ _ _ _ _) (by decide)).mp c_314
    have hf := hf hT
    have hw := hw hT
    subst hw
    have hl : lv_has ls 9 [(7, .int (nI (dif (M.1 0 (cN (xs (i + 1)))) (cdN (xs (i + 2)) (xs (i + 3)) (!decide (xs (i + 4) = 0)))))), (6, .int (nI (thSet M (xs (i + 1)) (xs (i + 2)) (xs (i + 3))))), (0, .ref b), (1, .ref x), (2, .ref y), (3, .ref zo), (4, .ref zd), (5, .int (nI i))] := hl
    refine ec_lald hC hK hz 0 rfl (by decide) (by decide) dL_law_319 ?_
    refine lv_iload hC.1 hC.2.1 dL_law_320 (lv_at hl 0 rfl) ?_
    refine lv_i2l hC.1 hC.2.1 dL_law_322 rfl ?_
    refine W.lcmp hC.1 hC.2.1 dL_law_323 ?_
    refine lv_if_eq (tgt := 329) hC.1 hC.2.1 dL_law_324 (by decide) (fun c_324 => ?_) (fun c => absurd ((ec_cm0 _ _).mpr hf) c)
    refine lv_goto (tgt := 2146) hC.1 hC.2.1 dL_law_329 (by decide) ?_
    exact kk _ _ _ _ _ _ _ I (lv_sub hl [2, 3, 4, 5, 6, 7] rfl)

set_option maxHeartbeats 4000000 in
set_option maxRecDepth 100000 in
/-- case 2: curtains -/
theorem lw_c2 {p : Program} {l : Launch} {e : Env} {s : State} {m : MethodId} {below : List Frame} {meth : Method} {c : Code} {G : ecG} {X Y : Nat → Prop} {b L x y zo zd i : Nat} {ya : Nat → Nat} {xs : Nat → Int32} {H : Heap} {locs : List Loc} {M : ecM} {th : Int32} {f : Nat → Int64} {fd : Nat → UInt64} {ls : Array Slot} {cells slots : Nat} {Q : State → Prop} (F : lwF p l s m c G X Y b L xs zo zd) (I : lwI s G X Y x y zo zd ya H locs M M th f fd) (hi : i + 7 ≤ L) (hl : lv_has ls 9 (lwL b x y zo zd i)) (hc : cells + 8 ≤ room_1.cells) (hs : slots + 150 ≤ room_1.slots) (kk : ∀ (H : Heap) (locs : List Loc) (M : ecM) (th : Int32) (f : Nat → Int64) (fd : Nat → UInt64) (ls : Array Slot), lwI s G X Y x y zo zd ya H locs M M th f fd → lv_has ls 9 (lwL b x y zo zd i) → W p l e room_1 s m #[Value.ref b] below meth c H locs (cells + 8) (slots + 150) Q (F0 m 2146 ls [])) : W p l e room_1 s m #[Value.ref b] below meth c H locs cells slots Q (F0 m 332 ls []) := by
  obtain ⟨hC, hls, hOk, hX, hbl, hL, hAN, hXA, hYA, hoA, hdA, hYX, hXo, hXd, hYo, hYd, hdo⟩ := id F
  have hK := hOk.1
  have hY : ∀ q, Y q → ecN0 G ≤ q := fun q h => hAN q (hYA q h)
  have hwf := I.2.2.1.wf
  obtain ⟨hS, hXs, hEC, hx, hz, hzd⟩ := id I
  have hl : lv_has ls 9 [(0, .ref b), (1, .ref x), (2, .ref y), (3, .ref zo), (4, .ref zd), (5, .int (nI i))] := hl
  refine lv_aload_n hC.1 hC.2.1 dL_law_332 rfl (lv_at hl 1 rfl) ?_
  refine lv_aload_n hC.1 hC.2.1 dL_law_333 rfl (lv_at hl 0 rfl) ?_
  refine lv_iload hC.1 hC.2.1 dL_law_334 (lv_at hl 5 rfl) ?_
  refine lv_iconst (v := 1) hC.1 hC.2.1 dL_law_336 (by decide) ?_
  refine lv_iadd hC.1 hC.2.1 dL_law_337 ?_
  refine lw_ld hC hX hbl hS hL (i + 1) (nI_add i 1) (by omega) dL_law_338 ?_
  refine lv_aload_n hC.1 hC.2.1 dL_law_339 rfl (lv_at hl 3 rfl) ?_
  refine ec_goXE1 (ec_xSH hC (c_L_curtains l hls G X M x zo f hXo (hAN _ hoA) (xs (i + 1))) kL_129 (hOk.at hS hAN) ⟨hXs, hEC, hz⟩ hl.1 ⟨Nat.le_of_ble_eq_true rfl, Nat.le_of_ble_eq_true rfl⟩ rfl (Nat.le_of_ble_eq_true rfl) dL_law_340 ⟨hc, hs⟩) hS (fun q h => h.elim (hXA q) (fun h => by rw [h]; exact hoA)) (fun _ _ _ _ _ hx9 => hx9.elim) (fun H locs hp hzs hk1 hS => ?_)
  obtain ⟨hEC, f, hz, hf⟩ := hp
  rw [ite_self] at hEC
  have I := I.hlp F hS hzs hk1 hEC hz
  obtain ⟨hS, hXs, hEC, hx, hz, hzd⟩ := id I
  refine lv_istore (lv' := [(6, .int (nI (thR M (xs (i + 1))))), (0, .ref b), (1, .ref x), (2, .ref y), (3, .ref zo), (4, .ref zd), (5, .int (nI i))]) hC.1 hC.2.1 dL_law_343 hl (by decide) rfl (fun ls hl => ?_)
  refine lv_aload_n hC.1 hC.2.1 dL_law_345 rfl (lv_at hl 3 rfl) ?_
  refine lv_aload_n hC.1 hC.2.1 dL_law_346 rfl (lv_at hl 1 rfl) ?_
  refine lv_iload hC.1 hC.2.1 dL_law_347 (lv_at hl 6 rfl) ?_
  refine lv_iconst (v := 1) hC.1 hC.2.1 dL_law_349 (by decide) ?_
  refine lv_iadd hC.1 hC.2.1 dL_law_350 ?_
  refine lw_ld hC hX hbl hS hL (i + 1) (nI_add i 1) (by omega) dL_law_351 ?_
  refine ec_goEi (ec_rV hC (c_X6_curtains l G Y M th y ya hY hwf (xs (i + 1))) kL_132 (hOk.at hS hAN) hx (ec_rc hK hx.1 ⟨_, _, rfl⟩) hl.1 ⟨Nat.le_of_ble_eq_true rfl, Nat.le_of_ble_eq_true rfl⟩ rfl (Nat.le_of_ble_eq_true rfl) dL_law_352 ⟨hc, hs⟩) hS hYA (fun w H locs hp hzs hk1 hS => ?_)
  obtain ⟨hw, hp⟩ := hp
  have I := I.mod F hS hzs hk1 hp
  obtain ⟨hS, hXs, hEC, hx, hz, hzd⟩ := id I
  refine lv_istore (lv' := [(7, .int w), (6, .int (nI (thR M (xs (i + 1))))), (0, .ref b), (1, .ref x), (2, .ref y), (3, .ref zo), (4, .ref zd), (5, .int (nI i))]) hC.1 hC.2.1 dL_law_355 hl (by decide) rfl (fun ls hl => ?_)
  refine lv_aload_n hC.1 hC.2.1 dL_law_357 rfl (lv_at hl 4 rfl) ?_
  refine ec_go1 (ec_rV hC (c_X6_thrown l G Y _ _ y ya) kL_122 (hOk.at hS hAN) hx (ec_rc hK hx.1 ⟨_, _, rfl⟩) hl.1 ⟨Nat.le_of_ble_eq_true rfl, Nat.le_of_ble_eq_true rfl⟩ rfl (Nat.le_of_ble_eq_true rfl) dL_law_358 ⟨hc, hs⟩) ?_
  refine lv_iload hC.1 hC.2.1 dL_law_361 (lv_at hl 1 rfl) ?_
  refine lv_icmp_eq (tgt := 368) hC.1 hC.2.1 dL_law_363 (by decide) (fun c_363 => ?_) (fun c => absurd rfl c)
  refine lv_iload hC.1 hC.2.1 dL_law_368 (lv_at hl 1 rfl) ?_
  refine lv_if_ne (tgt := 385) hC.1 hC.2.1 dL_law_370 (by decide) (fun c_370 => ?_) (fun c_370 => ?_)
  · refine lv_goto (tgt := 2146) hC.1 hC.2.1 dL_law_385 (by decide) ?_
    exact kk _ _ _ _ _ _ _ I (lv_sub hl [2, 3, 4, 5, 6, 7] rfl)
  · refine lv_aload_n hC.1 hC.2.1 dL_law_373 rfl (lv_at hl 5 rfl) ?_
    refine lv_iconst (v := 0) hC.1 hC.2.1 dL_law_374 (by decide) ?_
    have hT : thR M (xs (i + 1)) = 0 := (nI_eq (b := 0) (by first | exact thR_lt _ | exact thR_lt _ _ | exact thR_lt _ _ _ | exact thR_lt _ _ _ _ | exact thR_lt _ _ _ _ _ | exact thR_lt _ _ _ _ _ _ | exact thR_lt _ _ _ _ _ _ _) (by decide)).mp c_370
    have hf := hf hT
    have hw := hw hT
    subst hw
    have hl : lv_has ls 9 [(7, .int (nI (M.1 0 (cN (xs (i + 1))) / 20))), (6, .int (nI (thR M (xs (i + 1))))), (0, .ref b), (1, .ref x), (2, .ref y), (3, .ref zo), (4, .ref zd), (5, .int (nI i))] := hl
    refine ec_lald hC hK hz 0 rfl (by decide) (by decide) dL_law_375 ?_
    refine lv_iload hC.1 hC.2.1 dL_law_376 (lv_at hl 0 rfl) ?_
    refine lv_i2l hC.1 hC.2.1 dL_law_378 rfl ?_
    refine W.lcmp hC.1 hC.2.1 dL_law_379 ?_
    refine lv_if_eq (tgt := 385) hC.1 hC.2.1 dL_law_380 (by decide) (fun c_380 => ?_) (fun c => absurd ((ec_cm0 _ _).mpr hf) c)
    refine lv_goto (tgt := 2146) hC.1 hC.2.1 dL_law_385 (by decide) ?_
    exact kk _ _ _ _ _ _ _ I (lv_sub hl [2, 3, 4, 5, 6, 7] rfl)

set_option maxHeartbeats 4000000 in
set_option maxRecDepth 100000 in
/-- case 3: seats -/
theorem lw_c3 {p : Program} {l : Launch} {e : Env} {s : State} {m : MethodId} {below : List Frame} {meth : Method} {c : Code} {G : ecG} {X Y : Nat → Prop} {b L x y zo zd i : Nat} {ya : Nat → Nat} {xs : Nat → Int32} {H : Heap} {locs : List Loc} {M : ecM} {th : Int32} {f : Nat → Int64} {fd : Nat → UInt64} {ls : Array Slot} {cells slots : Nat} {Q : State → Prop} (F : lwF p l s m c G X Y b L xs zo zd) (I : lwI s G X Y x y zo zd ya H locs M M th f fd) (hi : i + 7 ≤ L) (hl : lv_has ls 9 (lwL b x y zo zd i)) (hc : cells + 8 ≤ room_1.cells) (hs : slots + 150 ≤ room_1.slots) (kk : ∀ (H : Heap) (locs : List Loc) (M : ecM) (th : Int32) (f : Nat → Int64) (fd : Nat → UInt64) (ls : Array Slot), lwI s G X Y x y zo zd ya H locs M M th f fd → lv_has ls 9 (lwL b x y zo zd i) → W p l e room_1 s m #[Value.ref b] below meth c H locs (cells + 8) (slots + 150) Q (F0 m 2146 ls [])) : W p l e room_1 s m #[Value.ref b] below meth c H locs cells slots Q (F0 m 388 ls []) := by
  obtain ⟨hC, hls, hOk, hX, hbl, hL, hAN, hXA, hYA, hoA, hdA, hYX, hXo, hXd, hYo, hYd, hdo⟩ := id F
  have hK := hOk.1
  have hY : ∀ q, Y q → ecN0 G ≤ q := fun q h => hAN q (hYA q h)
  have hwf := I.2.2.1.wf
  obtain ⟨hS, hXs, hEC, hx, hz, hzd⟩ := id I
  have hl : lv_has ls 9 [(0, .ref b), (1, .ref x), (2, .ref y), (3, .ref zo), (4, .ref zd), (5, .int (nI i))] := hl
  refine lv_aload_n hC.1 hC.2.1 dL_law_388 rfl (lv_at hl 1 rfl) ?_
  refine lv_aload_n hC.1 hC.2.1 dL_law_389 rfl (lv_at hl 0 rfl) ?_
  refine lv_iload hC.1 hC.2.1 dL_law_390 (lv_at hl 5 rfl) ?_
  refine lv_iconst (v := 1) hC.1 hC.2.1 dL_law_392 (by decide) ?_
  refine lv_iadd hC.1 hC.2.1 dL_law_393 ?_
  refine lw_ld hC hX hbl hS hL (i + 1) (nI_add i 1) (by omega) dL_law_394 ?_
  refine lv_aload_n hC.1 hC.2.1 dL_law_395 rfl (lv_at hl 3 rfl) ?_
  refine ec_goXE1 (ec_xSH hC (c_L_seats l hls G X M x zo f hXo (hAN _ hoA) (xs (i + 1))) kL_133 (hOk.at hS hAN) ⟨hXs, hEC, hz⟩ hl.1 ⟨Nat.le_of_ble_eq_true rfl, Nat.le_of_ble_eq_true rfl⟩ rfl (Nat.le_of_ble_eq_true rfl) dL_law_396 ⟨hc, hs⟩) hS (fun q h => h.elim (hXA q) (fun h => by rw [h]; exact hoA)) (fun _ _ _ _ _ hx9 => hx9.elim) (fun H locs hp hzs hk1 hS => ?_)
  obtain ⟨hEC, f, hz, hf⟩ := hp
  rw [ite_self] at hEC
  have I := I.hlp F hS hzs hk1 hEC hz
  obtain ⟨hS, hXs, hEC, hx, hz, hzd⟩ := id I
  refine lv_istore (lv' := [(6, .int (nI (thR M (xs (i + 1))))), (0, .ref b), (1, .ref x), (2, .ref y), (3, .ref zo), (4, .ref zd), (5, .int (nI i))]) hC.1 hC.2.1 dL_law_399 hl (by decide) rfl (fun ls hl => ?_)
  refine lv_aload_n hC.1 hC.2.1 dL_law_401 rfl (lv_at hl 3 rfl) ?_
  refine lv_aload_n hC.1 hC.2.1 dL_law_402 rfl (lv_at hl 1 rfl) ?_
  refine lv_iload hC.1 hC.2.1 dL_law_403 (lv_at hl 6 rfl) ?_
  refine lv_iconst (v := 1) hC.1 hC.2.1 dL_law_405 (by decide) ?_
  refine lv_iadd hC.1 hC.2.1 dL_law_406 ?_
  refine lw_ld hC hX hbl hS hL (i + 1) (nI_add i 1) (by omega) dL_law_407 ?_
  refine ec_goEi (ec_rV hC (c_X6_seats l G Y M th y ya hY hwf (xs (i + 1))) kL_135 (hOk.at hS hAN) hx (ec_rc hK hx.1 ⟨_, _, rfl⟩) hl.1 ⟨Nat.le_of_ble_eq_true rfl, Nat.le_of_ble_eq_true rfl⟩ rfl (Nat.le_of_ble_eq_true rfl) dL_law_408 ⟨hc, hs⟩) hS hYA (fun w H locs hp hzs hk1 hS => ?_)
  obtain ⟨hw, hp⟩ := hp
  have I := I.mod F hS hzs hk1 hp
  obtain ⟨hS, hXs, hEC, hx, hz, hzd⟩ := id I
  refine lv_istore (lv' := [(7, .int w), (6, .int (nI (thR M (xs (i + 1))))), (0, .ref b), (1, .ref x), (2, .ref y), (3, .ref zo), (4, .ref zd), (5, .int (nI i))]) hC.1 hC.2.1 dL_law_411 hl (by decide) rfl (fun ls hl => ?_)
  refine lv_aload_n hC.1 hC.2.1 dL_law_413 rfl (lv_at hl 4 rfl) ?_
  refine ec_go1 (ec_rV hC (c_X6_thrown l G Y _ _ y ya) kL_122 (hOk.at hS hAN) hx (ec_rc hK hx.1 ⟨_, _, rfl⟩) hl.1 ⟨Nat.le_of_ble_eq_true rfl, Nat.le_of_ble_eq_true rfl⟩ rfl (Nat.le_of_ble_eq_true rfl) dL_law_414 ⟨hc, hs⟩) ?_
  refine lv_iload hC.1 hC.2.1 dL_law_417 (lv_at hl 1 rfl) ?_
  refine lv_icmp_eq (tgt := 424) hC.1 hC.2.1 dL_law_419 (by decide) (fun c_419 => ?_) (fun c => absurd rfl c)
  refine lv_iload hC.1 hC.2.1 dL_law_424 (lv_at hl 1 rfl) ?_
  refine lv_if_ne (tgt := 441) hC.1 hC.2.1 dL_law_426 (by decide) (fun c_426 => ?_) (fun c_426 => ?_)
  · refine lv_goto (tgt := 2146) hC.1 hC.2.1 dL_law_441 (by decide) ?_
    exact kk _ _ _ _ _ _ _ I (lv_sub hl [2, 3, 4, 5, 6, 7] rfl)
  · refine lv_aload_n hC.1 hC.2.1 dL_law_429 rfl (lv_at hl 5 rfl) ?_
    refine lv_iconst (v := 0) hC.1 hC.2.1 dL_law_430 (by decide) ?_
    have hT : thR M (xs (i + 1)) = 0 := (nI_eq (b := 0) (by first | exact thR_lt _ | exact thR_lt _ _ | exact thR_lt _ _ _ | exact thR_lt _ _ _ _ | exact thR_lt _ _ _ _ _ | exact thR_lt _ _ _ _ _ _ | exact thR_lt _ _ _ _ _ _ _) (by decide)).mp c_426
    have hf := hf hT
    have hw := hw hT
    subst hw
    have hl : lv_has ls 9 [(7, .int (nI (M.1 0 (cN (xs (i + 1))) % 20 / 2))), (6, .int (nI (thR M (xs (i + 1))))), (0, .ref b), (1, .ref x), (2, .ref y), (3, .ref zo), (4, .ref zd), (5, .int (nI i))] := hl
    refine ec_lald hC hK hz 0 rfl (by decide) (by decide) dL_law_431 ?_
    refine lv_iload hC.1 hC.2.1 dL_law_432 (lv_at hl 0 rfl) ?_
    refine lv_i2l hC.1 hC.2.1 dL_law_434 rfl ?_
    refine W.lcmp hC.1 hC.2.1 dL_law_435 ?_
    refine lv_if_eq (tgt := 441) hC.1 hC.2.1 dL_law_436 (by decide) (fun c_436 => ?_) (fun c => absurd ((ec_cm0 _ _).mpr hf) c)
    refine lv_goto (tgt := 2146) hC.1 hC.2.1 dL_law_441 (by decide) ?_
    exact kk _ _ _ _ _ _ _ I (lv_sub hl [2, 3, 4, 5, 6, 7] rfl)

set_option maxHeartbeats 4000000 in
set_option maxRecDepth 100000 in
/-- case 4: areOpen -/
theorem lw_c4 {p : Program} {l : Launch} {e : Env} {s : State} {m : MethodId} {below : List Frame} {meth : Method} {c : Code} {G : ecG} {X Y : Nat → Prop} {b L x y zo zd i : Nat} {ya : Nat → Nat} {xs : Nat → Int32} {H : Heap} {locs : List Loc} {M : ecM} {th : Int32} {f : Nat → Int64} {fd : Nat → UInt64} {ls : Array Slot} {cells slots : Nat} {Q : State → Prop} (F : lwF p l s m c G X Y b L xs zo zd) (I : lwI s G X Y x y zo zd ya H locs M M th f fd) (hi : i + 7 ≤ L) (hl : lv_has ls 9 (lwL b x y zo zd i)) (hc : cells + 8 ≤ room_1.cells) (hs : slots + 150 ≤ room_1.slots) (kk : ∀ (H : Heap) (locs : List Loc) (M : ecM) (th : Int32) (f : Nat → Int64) (fd : Nat → UInt64) (ls : Array Slot), lwI s G X Y x y zo zd ya H locs M M th f fd → lv_has ls 9 (lwL b x y zo zd i) → W p l e room_1 s m #[Value.ref b] below meth c H locs (cells + 8) (slots + 150) Q (F0 m 2146 ls [])) : W p l e room_1 s m #[Value.ref b] below meth c H locs cells slots Q (F0 m 444 ls []) := by
  obtain ⟨hC, hls, hOk, hX, hbl, hL, hAN, hXA, hYA, hoA, hdA, hYX, hXo, hXd, hYo, hYd, hdo⟩ := id F
  have hK := hOk.1
  have hY : ∀ q, Y q → ecN0 G ≤ q := fun q h => hAN q (hYA q h)
  have hwf := I.2.2.1.wf
  obtain ⟨hS, hXs, hEC, hx, hz, hzd⟩ := id I
  have hl : lv_has ls 9 [(0, .ref b), (1, .ref x), (2, .ref y), (3, .ref zo), (4, .ref zd), (5, .int (nI i))] := hl
  refine lv_aload_n hC.1 hC.2.1 dL_law_444 rfl (lv_at hl 1 rfl) ?_
  refine lv_aload_n hC.1 hC.2.1 dL_law_445 rfl (lv_at hl 0 rfl) ?_
  refine lv_iload hC.1 hC.2.1 dL_law_446 (lv_at hl 5 rfl) ?_
  refine lv_iconst (v := 1) hC.1 hC.2.1 dL_law_448 (by decide) ?_
  refine lv_iadd hC.1 hC.2.1 dL_law_449 ?_
  refine lw_ld hC hX hbl hS hL (i + 1) (nI_add i 1) (by omega) dL_law_450 ?_
  refine lv_aload_n hC.1 hC.2.1 dL_law_451 rfl (lv_at hl 3 rfl) ?_
  refine ec_goXE1 (ec_xSH hC (c_L_areOpen l hls G X M x zo f hXo (hAN _ hoA) (xs (i + 1))) kL_136 (hOk.at hS hAN) ⟨hXs, hEC, hz⟩ hl.1 ⟨Nat.le_of_ble_eq_true rfl, Nat.le_of_ble_eq_true rfl⟩ rfl (Nat.le_of_ble_eq_true rfl) dL_law_452 ⟨hc, hs⟩) hS (fun q h => h.elim (hXA q) (fun h => by rw [h]; exact hoA)) (fun _ _ _ _ _ hx9 => hx9.elim) (fun H locs hp hzs hk1 hS => ?_)
  obtain ⟨hEC, f, hz, hf⟩ := hp
  rw [ite_self] at hEC
  have I := I.hlp F hS hzs hk1 hEC hz
  obtain ⟨hS, hXs, hEC, hx, hz, hzd⟩ := id I
  refine lv_istore (lv' := [(6, .int (nI (thR M (xs (i + 1))))), (0, .ref b), (1, .ref x), (2, .ref y), (3, .ref zo), (4, .ref zd), (5, .int (nI i))]) hC.1 hC.2.1 dL_law_455 hl (by decide) rfl (fun ls hl => ?_)
  refine lv_aload_n hC.1 hC.2.1 dL_law_457 rfl (lv_at hl 3 rfl) ?_
  refine lv_aload_n hC.1 hC.2.1 dL_law_458 rfl (lv_at hl 1 rfl) ?_
  refine lv_iload hC.1 hC.2.1 dL_law_459 (lv_at hl 6 rfl) ?_
  refine lv_iconst (v := 1) hC.1 hC.2.1 dL_law_461 (by decide) ?_
  refine lv_iadd hC.1 hC.2.1 dL_law_462 ?_
  refine lw_ld hC hX hbl hS hL (i + 1) (nI_add i 1) (by omega) dL_law_463 ?_
  refine ec_goEi (ec_rV hC (c_X6_areOpen l G Y M th y ya hY hwf (xs (i + 1))) kL_138 (hOk.at hS hAN) hx (ec_rc hK hx.1 ⟨_, _, rfl⟩) hl.1 ⟨Nat.le_of_ble_eq_true rfl, Nat.le_of_ble_eq_true rfl⟩ rfl (Nat.le_of_ble_eq_true rfl) dL_law_464 ⟨hc, hs⟩) hS hYA (fun w H locs hp hzs hk1 hS => ?_)
  obtain ⟨hw, hp⟩ := hp
  have I := I.mod F hS hzs hk1 hp
  obtain ⟨hS, hXs, hEC, hx, hz, hzd⟩ := id I
  refine lv_istore (lv' := [(7, .int w), (6, .int (nI (thR M (xs (i + 1))))), (0, .ref b), (1, .ref x), (2, .ref y), (3, .ref zo), (4, .ref zd), (5, .int (nI i))]) hC.1 hC.2.1 dL_law_467 hl (by decide) rfl (fun ls hl => ?_)
  refine lv_aload_n hC.1 hC.2.1 dL_law_469 rfl (lv_at hl 4 rfl) ?_
  refine ec_go1 (ec_rV hC (c_X6_thrown l G Y _ _ y ya) kL_122 (hOk.at hS hAN) hx (ec_rc hK hx.1 ⟨_, _, rfl⟩) hl.1 ⟨Nat.le_of_ble_eq_true rfl, Nat.le_of_ble_eq_true rfl⟩ rfl (Nat.le_of_ble_eq_true rfl) dL_law_470 ⟨hc, hs⟩) ?_
  refine lv_iload hC.1 hC.2.1 dL_law_473 (lv_at hl 1 rfl) ?_
  refine lv_icmp_eq (tgt := 480) hC.1 hC.2.1 dL_law_475 (by decide) (fun c_475 => ?_) (fun c => absurd rfl c)
  refine lv_iload hC.1 hC.2.1 dL_law_480 (lv_at hl 1 rfl) ?_
  refine lv_if_ne (tgt := 504) hC.1 hC.2.1 dL_law_482 (by decide) (fun c_482 => ?_) (fun c_482 => ?_)
  · refine lv_goto (tgt := 2146) hC.1 hC.2.1 dL_law_504 (by decide) ?_
    exact kk _ _ _ _ _ _ _ I (lv_sub hl [2, 3, 4, 5, 6, 7] rfl)
  · refine lv_aload_n hC.1 hC.2.1 dL_law_485 rfl (lv_at hl 5 rfl) ?_
    refine lv_iconst (v := 0) hC.1 hC.2.1 dL_law_486 (by decide) ?_
    have hT : thR M (xs (i + 1)) = 0 := (nI_eq (b := 0) (by first | exact thR_lt _ | exact thR_lt _ _ | exact thR_lt _ _ _ | exact thR_lt _ _ _ _ | exact thR_lt _ _ _ _ _ | exact thR_lt _ _ _ _ _ _ | exact thR_lt _ _ _ _ _ _ _) (by decide)).mp c_482
    have hf := hf hT
    have hw := hw hT
    subst hw
    have hl : lv_has ls 9 [(7, .int (nI (M.1 0 (cN (xs (i + 1))) % 2))), (6, .int (nI (thR M (xs (i + 1))))), (0, .ref b), (1, .ref x), (2, .ref y), (3, .ref zo), (4, .ref zd), (5, .int (nI i))] := hl
    refine ec_lald hC hK hz 0 rfl (by decide) (by decide) dL_law_487 ?_
    refine lv_iload hC.1 hC.2.1 dL_law_488 (lv_at hl 0 rfl) ?_
    refine lv_if_eq (tgt := 497) hC.1 hC.2.1 dL_law_490 (by decide) (fun c_490 => ?_) (fun c_490 => ?_)
    · refine lv_lconst (v := 0) hC.1 hC.2.1 dL_law_497 (by decide) ?_
      refine W.lcmp hC.1 hC.2.1 dL_law_498 ?_
      refine lv_if_eq (tgt := 504) hC.1 hC.2.1 dL_law_499 (by decide) (fun c_499 => ?_) (fun c => absurd ((ec_cm0 _ _).mpr (hf.trans (tb_0 c_490).symm)) c)
      refine lv_goto (tgt := 2146) hC.1 hC.2.1 dL_law_504 (by decide) ?_
      exact kk _ _ _ _ _ _ _ I (lv_sub hl [2, 3, 4, 5, 6, 7] rfl)
    · refine lv_lconst (v := 1) hC.1 hC.2.1 dL_law_493 (by decide) ?_
      refine lv_goto (tgt := 498) hC.1 hC.2.1 dL_law_494 (by decide) ?_
      refine W.lcmp hC.1 hC.2.1 dL_law_498 ?_
      refine lv_if_eq (tgt := 504) hC.1 hC.2.1 dL_law_499 (by decide) (fun c_499 => ?_) (fun c => absurd ((ec_cm0 _ _).mpr (hf.trans (tb_1 c_490).symm)) c)
      refine lv_goto (tgt := 2146) hC.1 hC.2.1 dL_law_504 (by decide) ?_
      exact kk _ _ _ _ _ _ _ I (lv_sub hl [2, 3, 4, 5, 6, 7] rfl)

set_option maxHeartbeats 4000000 in
set_option maxRecDepth 100000 in
/-- case 5: changes -/
theorem lw_c5 {p : Program} {l : Launch} {e : Env} {s : State} {m : MethodId} {below : List Frame} {meth : Method} {c : Code} {G : ecG} {X Y : Nat → Prop} {b L x y zo zd i : Nat} {ya : Nat → Nat} {xs : Nat → Int32} {H : Heap} {locs : List Loc} {M : ecM} {th : Int32} {f : Nat → Int64} {fd : Nat → UInt64} {ls : Array Slot} {cells slots : Nat} {Q : State → Prop} (F : lwF p l s m c G X Y b L xs zo zd) (I : lwI s G X Y x y zo zd ya H locs M M th f fd) (hi : i + 7 ≤ L) (hl : lv_has ls 9 (lwL b x y zo zd i)) (hc : cells + 8 ≤ room_1.cells) (hs : slots + 150 ≤ room_1.slots) (kk : ∀ (H : Heap) (locs : List Loc) (M : ecM) (th : Int32) (f : Nat → Int64) (fd : Nat → UInt64) (ls : Array Slot), lwI s G X Y x y zo zd ya H locs M M th f fd → lv_has ls 9 (lwL b x y zo zd i) → W p l e room_1 s m #[Value.ref b] below meth c H locs (cells + 8) (slots + 150) Q (F0 m 2146 ls [])) : W p l e room_1 s m #[Value.ref b] below meth c H locs cells slots Q (F0 m 507 ls []) := by
  obtain ⟨hC, hls, hOk, hX, hbl, hL, hAN, hXA, hYA, hoA, hdA, hYX, hXo, hXd, hYo, hYd, hdo⟩ := id F
  have hK := hOk.1
  have hY : ∀ q, Y q → ecN0 G ≤ q := fun q h => hAN q (hYA q h)
  have hwf := I.2.2.1.wf
  obtain ⟨hS, hXs, hEC, hx, hz, hzd⟩ := id I
  have hl : lv_has ls 9 [(0, .ref b), (1, .ref x), (2, .ref y), (3, .ref zo), (4, .ref zd), (5, .int (nI i))] := hl
  refine lv_aload_n hC.1 hC.2.1 dL_law_507 rfl (lv_at hl 1 rfl) ?_
  refine lv_aload_n hC.1 hC.2.1 dL_law_508 rfl (lv_at hl 0 rfl) ?_
  refine lv_iload hC.1 hC.2.1 dL_law_509 (lv_at hl 5 rfl) ?_
  refine lv_iconst (v := 1) hC.1 hC.2.1 dL_law_511 (by decide) ?_
  refine lv_iadd hC.1 hC.2.1 dL_law_512 ?_
  refine lw_ld hC hX hbl hS hL (i + 1) (nI_add i 1) (by omega) dL_law_513 ?_
  refine lv_aload_n hC.1 hC.2.1 dL_law_514 rfl (lv_at hl 3 rfl) ?_
  refine ec_goXE1 (ec_xSH hC (c_L_changes l hls G X M x zo f hXo (hAN _ hoA) (xs (i + 1))) kL_139 (hOk.at hS hAN) ⟨hXs, hEC, hz⟩ hl.1 ⟨Nat.le_of_ble_eq_true rfl, Nat.le_of_ble_eq_true rfl⟩ rfl (Nat.le_of_ble_eq_true rfl) dL_law_515 ⟨hc, hs⟩) hS (fun q h => h.elim (hXA q) (fun h => by rw [h]; exact hoA)) (fun _ _ _ _ _ hx9 => hx9.elim) (fun H locs hp hzs hk1 hS => ?_)
  obtain ⟨hEC, f, hz, hf⟩ := hp
  rw [ite_self] at hEC
  have I := I.hlp F hS hzs hk1 hEC hz
  obtain ⟨hS, hXs, hEC, hx, hz, hzd⟩ := id I
  refine lv_istore (lv' := [(6, .int (nI (thR M (xs (i + 1))))), (0, .ref b), (1, .ref x), (2, .ref y), (3, .ref zo), (4, .ref zd), (5, .int (nI i))]) hC.1 hC.2.1 dL_law_518 hl (by decide) rfl (fun ls hl => ?_)
  refine lv_aload_n hC.1 hC.2.1 dL_law_520 rfl (lv_at hl 3 rfl) ?_
  refine lv_aload_n hC.1 hC.2.1 dL_law_521 rfl (lv_at hl 1 rfl) ?_
  refine lv_iload hC.1 hC.2.1 dL_law_522 (lv_at hl 6 rfl) ?_
  refine lv_iconst (v := 1) hC.1 hC.2.1 dL_law_524 (by decide) ?_
  refine lv_iadd hC.1 hC.2.1 dL_law_525 ?_
  refine lw_ld hC hX hbl hS hL (i + 1) (nI_add i 1) (by omega) dL_law_526 ?_
  refine ec_goEi (ec_rV hC (c_X6_changes l G Y M th y ya hY hwf (xs (i + 1))) kL_141 (hOk.at hS hAN) hx (ec_rc hK hx.1 ⟨_, _, rfl⟩) hl.1 ⟨Nat.le_of_ble_eq_true rfl, Nat.le_of_ble_eq_true rfl⟩ rfl (Nat.le_of_ble_eq_true rfl) dL_law_527 ⟨hc, hs⟩) hS hYA (fun w H locs hp hzs hk1 hS => ?_)
  obtain ⟨hw, hp⟩ := hp
  have I := I.mod F hS hzs hk1 hp
  obtain ⟨hS, hXs, hEC, hx, hz, hzd⟩ := id I
  refine lv_istore (lv' := [(7, .int w), (6, .int (nI (thR M (xs (i + 1))))), (0, .ref b), (1, .ref x), (2, .ref y), (3, .ref zo), (4, .ref zd), (5, .int (nI i))]) hC.1 hC.2.1 dL_law_530 hl (by decide) rfl (fun ls hl => ?_)
  refine lv_aload_n hC.1 hC.2.1 dL_law_532 rfl (lv_at hl 4 rfl) ?_
  refine ec_go1 (ec_rV hC (c_X6_thrown l G Y _ _ y ya) kL_122 (hOk.at hS hAN) hx (ec_rc hK hx.1 ⟨_, _, rfl⟩) hl.1 ⟨Nat.le_of_ble_eq_true rfl, Nat.le_of_ble_eq_true rfl⟩ rfl (Nat.le_of_ble_eq_true rfl) dL_law_533 ⟨hc, hs⟩) ?_
  refine lv_iload hC.1 hC.2.1 dL_law_536 (lv_at hl 1 rfl) ?_
  refine lv_icmp_eq (tgt := 543) hC.1 hC.2.1 dL_law_538 (by decide) (fun c_538 => ?_) (fun c => absurd rfl c)
  refine lv_iload hC.1 hC.2.1 dL_law_543 (lv_at hl 1 rfl) ?_
  refine lv_if_ne (tgt := 560) hC.1 hC.2.1 dL_law_545 (by decide) (fun c_545 => ?_) (fun c_545 => ?_)
  · refine lv_goto (tgt := 2146) hC.1 hC.2.1 dL_law_560 (by decide) ?_
    exact kk _ _ _ _ _ _ _ I (lv_sub hl [2, 3, 4, 5, 6, 7] rfl)
  · refine lv_aload_n hC.1 hC.2.1 dL_law_548 rfl (lv_at hl 5 rfl) ?_
    refine lv_iconst (v := 0) hC.1 hC.2.1 dL_law_549 (by decide) ?_
    have hT : thR M (xs (i + 1)) = 0 := (nI_eq (b := 0) (by first | exact thR_lt _ | exact thR_lt _ _ | exact thR_lt _ _ _ | exact thR_lt _ _ _ _ | exact thR_lt _ _ _ _ _ | exact thR_lt _ _ _ _ _ _ | exact thR_lt _ _ _ _ _ _ _) (by decide)).mp c_545
    have hf := hf hT
    have hw := hw hT
    subst hw
    have hl : lv_has ls 9 [(7, .int (M.2.1 0 (cN (xs (i + 1))))), (6, .int (nI (thR M (xs (i + 1))))), (0, .ref b), (1, .ref x), (2, .ref y), (3, .ref zo), (4, .ref zd), (5, .int (nI i))] := hl
    refine ec_lald hC hK hz 0 rfl (by decide) (by decide) dL_law_550 ?_
    refine lv_iload hC.1 hC.2.1 dL_law_551 (lv_at hl 0 rfl) ?_
    refine lv_i2l hC.1 hC.2.1 dL_law_553 rfl ?_
    refine W.lcmp hC.1 hC.2.1 dL_law_554 ?_
    refine lv_if_eq (tgt := 560) hC.1 hC.2.1 dL_law_555 (by decide) (fun c_555 => ?_) (fun c => absurd ((ec_cm0 _ _).mpr hf) c)
    refine lv_goto (tgt := 2146) hC.1 hC.2.1 dL_law_560 (by decide) ?_
    exact kk _ _ _ _ _ _ _ I (lv_sub hl [2, 3, 4, 5, 6, 7] rfl)

set_option maxHeartbeats 4000000 in
set_option maxRecDepth 100000 in
/-- case 6: measure -/
theorem lw_c6 {p : Program} {l : Launch} {e : Env} {s : State} {m : MethodId} {below : List Frame} {meth : Method} {c : Code} {G : ecG} {X Y : Nat → Prop} {b L x y zo zd i : Nat} {ya : Nat → Nat} {xs : Nat → Int32} {H : Heap} {locs : List Loc} {M : ecM} {th : Int32} {f : Nat → Int64} {fd : Nat → UInt64} {ls : Array Slot} {cells slots : Nat} {Q : State → Prop} (F : lwF p l s m c G X Y b L xs zo zd) (I : lwI s G X Y x y zo zd ya H locs M M th f fd) (hi : i + 7 ≤ L) (hl : lv_has ls 9 (lwL b x y zo zd i)) (hc : cells + 8 ≤ room_1.cells) (hs : slots + 150 ≤ room_1.slots) (kk : ∀ (H : Heap) (locs : List Loc) (M : ecM) (th : Int32) (f : Nat → Int64) (fd : Nat → UInt64) (ls : Array Slot), lwI s G X Y x y zo zd ya H locs M M th f fd → lv_has ls 9 (lwL b x y zo zd i) → W p l e room_1 s m #[Value.ref b] below meth c H locs (cells + 8) (slots + 150) Q (F0 m 2146 ls [])) : W p l e room_1 s m #[Value.ref b] below meth c H locs cells slots Q (F0 m 563 ls []) := by
  obtain ⟨hC, hls, hOk, hX, hbl, hL, hAN, hXA, hYA, hoA, hdA, hYX, hXo, hXd, hYo, hYd, hdo⟩ := id F
  have hK := hOk.1
  have hY : ∀ q, Y q → ecN0 G ≤ q := fun q h => hAN q (hYA q h)
  have hwf := I.2.2.1.wf
  obtain ⟨hS, hXs, hEC, hx, hz, hzd⟩ := id I
  have hl : lv_has ls 9 [(0, .ref b), (1, .ref x), (2, .ref y), (3, .ref zo), (4, .ref zd), (5, .int (nI i))] := hl
  refine lv_aload_n hC.1 hC.2.1 dL_law_563 rfl (lv_at hl 1 rfl) ?_
  refine lv_aload_n hC.1 hC.2.1 dL_law_564 rfl (lv_at hl 0 rfl) ?_
  refine lv_iload hC.1 hC.2.1 dL_law_565 (lv_at hl 5 rfl) ?_
  refine lv_iconst (v := 1) hC.1 hC.2.1 dL_law_567 (by decide) ?_
  refine lv_iadd hC.1 hC.2.1 dL_law_568 ?_
  refine lw_ld hC hX hbl hS hL (i + 1) (nI_add i 1) (by omega) dL_law_569 ?_
  refine lv_aload_n hC.1 hC.2.1 dL_law_570 rfl (lv_at hl 0 rfl) ?_
  refine lv_iload hC.1 hC.2.1 dL_law_571 (lv_at hl 5 rfl) ?_
  refine lv_iconst (v := 2) hC.1 hC.2.1 dL_law_573 (by decide) ?_
  refine lv_iadd hC.1 hC.2.1 dL_law_574 ?_
  refine lw_ld hC hX hbl hS hL (i + 2) (nI_add i 2) (by omega) dL_law_575 ?_
  refine lv_aload_n hC.1 hC.2.1 dL_law_576 rfl (lv_at hl 0 rfl) ?_
  refine lv_iload hC.1 hC.2.1 dL_law_577 (lv_at hl 5 rfl) ?_
  refine lv_iconst (v := 3) hC.1 hC.2.1 dL_law_579 (by decide) ?_
  refine lv_iadd hC.1 hC.2.1 dL_law_580 ?_
  refine lw_ld hC hX hbl hS hL (i + 3) (nI_add i 3) (by omega) dL_law_581 ?_
  refine lv_aload_n hC.1 hC.2.1 dL_law_582 rfl (lv_at hl 0 rfl) ?_
  refine lv_iload hC.1 hC.2.1 dL_law_583 (lv_at hl 5 rfl) ?_
  refine lv_iconst (v := 4) hC.1 hC.2.1 dL_law_585 (by decide) ?_
  refine lv_iadd hC.1 hC.2.1 dL_law_586 ?_
  refine lw_ld hC hX hbl hS hL (i + 4) (nI_add i 4) (by omega) dL_law_587 ?_
  refine lv_aload_n hC.1 hC.2.1 dL_law_588 rfl (lv_at hl 0 rfl) ?_
  refine lv_iload hC.1 hC.2.1 dL_law_589 (lv_at hl 5 rfl) ?_
  refine lv_iconst (v := 5) hC.1 hC.2.1 dL_law_591 (by decide) ?_
  refine lv_iadd hC.1 hC.2.1 dL_law_592 ?_
  refine lw_ld hC hX hbl hS hL (i + 5) (nI_add i 5) (by omega) dL_law_593 ?_
  refine lv_aload_n hC.1 hC.2.1 dL_law_594 rfl (lv_at hl 0 rfl) ?_
  refine lv_iload hC.1 hC.2.1 dL_law_595 (lv_at hl 5 rfl) ?_
  refine lv_bipush (v := 6) hC.1 hC.2.1 dL_law_597 (by decide) ?_
  refine lv_iadd hC.1 hC.2.1 dL_law_599 ?_
  refine lw_ld hC hX hbl hS hL (i + 6) (nI_add i 6) (by omega) dL_law_600 ?_
  refine lv_aload_n hC.1 hC.2.1 dL_law_601 rfl (lv_at hl 3 rfl) ?_
  refine ec_goXE1 (ec_xSH hC (c_L_measure l hls G X M x zo f hXo (hAN _ hoA) (xs (i + 1)) (xs (i + 2)) (xs (i + 3)) (xs (i + 4)) (xs (i + 5)) (xs (i + 6))) kL_142 (hOk.at hS hAN) ⟨hXs, hEC, hz⟩ hl.1 ⟨Nat.le_of_ble_eq_true rfl, Nat.le_of_ble_eq_true rfl⟩ rfl (Nat.le_of_ble_eq_true rfl) dL_law_602 ⟨hc, hs⟩) hS (fun q h => h.elim (hXA q) (fun h => by rw [h]; exact hoA)) (fun _ _ _ _ _ hx9 => hx9.elim) (fun H locs hp hzs hk1 hS => ?_)
  obtain ⟨hEC, f, hz, hf⟩ := hp
  have I := I.hlp F hS hzs hk1 hEC hz
  obtain ⟨hS, hXs, hEC, hx, hz, hzd⟩ := id I
  refine lv_istore (lv' := [(6, .int (nI (thMes M (xs (i + 1)) (xs (i + 2)) (xs (i + 3)) (xs (i + 4)) (xs (i + 5)) (xs (i + 6))))), (0, .ref b), (1, .ref x), (2, .ref y), (3, .ref zo), (4, .ref zd), (5, .int (nI i))]) hC.1 hC.2.1 dL_law_605 hl (by decide) rfl (fun ls hl => ?_)
  refine lv_aload_n hC.1 hC.2.1 dL_law_607 rfl (lv_at hl 3 rfl) ?_
  refine lv_aload_n hC.1 hC.2.1 dL_law_608 rfl (lv_at hl 1 rfl) ?_
  refine lv_iload hC.1 hC.2.1 dL_law_609 (lv_at hl 6 rfl) ?_
  refine lv_iconst (v := 1) hC.1 hC.2.1 dL_law_611 (by decide) ?_
  refine lv_iadd hC.1 hC.2.1 dL_law_612 ?_
  refine lw_ld hC hX hbl hS hL (i + 1) (nI_add i 1) (by omega) dL_law_613 ?_
  refine lv_aload_n hC.1 hC.2.1 dL_law_614 rfl (lv_at hl 1 rfl) ?_
  refine lv_iload hC.1 hC.2.1 dL_law_615 (lv_at hl 6 rfl) ?_
  refine lv_iconst (v := 2) hC.1 hC.2.1 dL_law_617 (by decide) ?_
  refine lv_iadd hC.1 hC.2.1 dL_law_618 ?_
  refine lw_ld hC hX hbl hS hL (i + 2) (nI_add i 2) (by omega) dL_law_619 ?_
  refine lv_aload_n hC.1 hC.2.1 dL_law_620 rfl (lv_at hl 1 rfl) ?_
  refine lv_iload hC.1 hC.2.1 dL_law_621 (lv_at hl 6 rfl) ?_
  refine lv_iconst (v := 3) hC.1 hC.2.1 dL_law_623 (by decide) ?_
  refine lv_iadd hC.1 hC.2.1 dL_law_624 ?_
  refine lw_ld hC hX hbl hS hL (i + 3) (nI_add i 3) (by omega) dL_law_625 ?_
  refine lv_aload_n hC.1 hC.2.1 dL_law_626 rfl (lv_at hl 1 rfl) ?_
  refine lv_iload hC.1 hC.2.1 dL_law_627 (lv_at hl 6 rfl) ?_
  refine lv_iconst (v := 4) hC.1 hC.2.1 dL_law_629 (by decide) ?_
  refine lv_iadd hC.1 hC.2.1 dL_law_630 ?_
  refine lw_ld hC hX hbl hS hL (i + 4) (nI_add i 4) (by omega) dL_law_631 ?_
  refine lv_aload_n hC.1 hC.2.1 dL_law_632 rfl (lv_at hl 1 rfl) ?_
  refine lv_iload hC.1 hC.2.1 dL_law_633 (lv_at hl 6 rfl) ?_
  refine lv_iconst (v := 5) hC.1 hC.2.1 dL_law_635 (by decide) ?_
  refine lv_iadd hC.1 hC.2.1 dL_law_636 ?_
  refine lw_ld hC hX hbl hS hL (i + 5) (nI_add i 5) (by omega) dL_law_637 ?_
  refine lv_aload_n hC.1 hC.2.1 dL_law_638 rfl (lv_at hl 1 rfl) ?_
  refine lv_iload hC.1 hC.2.1 dL_law_639 (lv_at hl 6 rfl) ?_
  refine lv_bipush (v := 6) hC.1 hC.2.1 dL_law_641 (by decide) ?_
  refine lv_iadd hC.1 hC.2.1 dL_law_643 ?_
  refine lw_ld hC hX hbl hS hL (i + 6) (nI_add i 6) (by omega) dL_law_644 ?_
  refine ec_goEi (ec_rV hC (c_X6_measure l G Y M th y ya hY hwf (xs (i + 1)) (xs (i + 2)) (xs (i + 3)) (xs (i + 4)) (xs (i + 5)) (xs (i + 6))) kL_145 (hOk.at hS hAN) hx (ec_rc hK hx.1 ⟨_, _, rfl⟩) hl.1 ⟨Nat.le_of_ble_eq_true rfl, Nat.le_of_ble_eq_true rfl⟩ rfl (Nat.le_of_ble_eq_true rfl) dL_law_645 ⟨hc, hs⟩) hS hYA (fun w H locs hp hzs hk1 hS => ?_)
  obtain ⟨hw, hp⟩ := hp
  have I := I.mod F hS hzs hk1 hp
  obtain ⟨hS, hXs, hEC, hx, hz, hzd⟩ := id I
  refine lv_istore (lv' := [(7, .int w), (6, .int (nI (thMes M (xs (i + 1)) (xs (i + 2)) (xs (i + 3)) (xs (i + 4)) (xs (i + 5)) (xs (i + 6))))), (0, .ref b), (1, .ref x), (2, .ref y), (3, .ref zo), (4, .ref zd), (5, .int (nI i))]) hC.1 hC.2.1 dL_law_648 hl (by decide) rfl (fun ls hl => ?_)
  refine lv_aload_n hC.1 hC.2.1 dL_law_650 rfl (lv_at hl 4 rfl) ?_
  refine ec_go1 (ec_rV hC (c_X6_thrown l G Y _ _ y ya) kL_122 (hOk.at hS hAN) hx (ec_rc hK hx.1 ⟨_, _, rfl⟩) hl.1 ⟨Nat.le_of_ble_eq_true rfl, Nat.le_of_ble_eq_true rfl⟩ rfl (Nat.le_of_ble_eq_true rfl) dL_law_651 ⟨hc, hs⟩) ?_
  refine lv_iload hC.1 hC.2.1 dL_law_654 (lv_at hl 1 rfl) ?_
  refine lv_icmp_eq (tgt := 661) hC.1 hC.2.1 dL_law_656 (by decide) (fun c_656 => ?_) (fun c => absurd rfl c)
  refine lv_iload hC.1 hC.2.1 dL_law_661 (lv_at hl 1 rfl) ?_
  refine lv_if_ne (tgt := 678) hC.1 hC.2.1 dL_law_663 (by decide) (fun c_663 => ?_) (fun c_663 => ?_)
  · refine lv_goto (tgt := 2146) hC.1 hC.2.1 dL_law_678 (by decide) ?_
    exact kk _ _ _ _ _ _ _ I (lv_sub hl [2, 3, 4, 5, 6, 7] rfl)
  · refine lv_aload_n hC.1 hC.2.1 dL_law_666 rfl (lv_at hl 5 rfl) ?_
    refine lv_iconst (v := 0) hC.1 hC.2.1 dL_law_667 (by decide) ?_
    have hT : thMes M (xs (i + 1)) (xs (i + 2)) (xs (i + 3)) (xs (i + 4)) (xs (i + 5)) (xs (i + 6)) = 0 := (nI_eq (b := 0) (by first | exact thMes_lt _ | exact thMes_lt _ _ | exact thMes_lt _ _ _ | exact thMes_lt _ _ _ _ | exact thMes_lt _ _ _ _ _ | exact thMes_lt _ _ _ _ _ _ | exact thMes_lt _ _ _ _ _ _ _) (by decide)).mp c_663
    have hf := hf hT
    have hw := hw hT
    subst hw
    have hl : lv_has ls 9 [(7, .int (nI (mnA M))), (6, .int (nI (thMes M (xs (i + 1)) (xs (i + 2)) (xs (i + 3)) (xs (i + 4)) (xs (i + 5)) (xs (i + 6))))), (0, .ref b), (1, .ref x), (2, .ref y), (3, .ref zo), (4, .ref zd), (5, .int (nI i))] := hl
    refine ec_lald hC hK hz 0 rfl (by decide) (by decide) dL_law_668 ?_
    refine lv_iload hC.1 hC.2.1 dL_law_669 (lv_at hl 0 rfl) ?_
    refine lv_i2l hC.1 hC.2.1 dL_law_671 rfl ?_
    refine W.lcmp hC.1 hC.2.1 dL_law_672 ?_
    refine lv_if_eq (tgt := 678) hC.1 hC.2.1 dL_law_673 (by decide) (fun c_673 => ?_) (fun c => absurd ((ec_cm0 _ _).mpr hf) c)
    refine lv_goto (tgt := 2146) hC.1 hC.2.1 dL_law_678 (by decide) ?_
    exact kk _ _ _ _ _ _ _ I (lv_sub hl [2, 3, 4, 5, 6, 7] rfl)

set_option maxHeartbeats 4000000 in
set_option maxRecDepth 100000 in
/-- case 7: sample -/
theorem lw_c7 {p : Program} {l : Launch} {e : Env} {s : State} {m : MethodId} {below : List Frame} {meth : Method} {c : Code} {G : ecG} {X Y : Nat → Prop} {b L x y zo zd i : Nat} {ya : Nat → Nat} {xs : Nat → Int32} {H : Heap} {locs : List Loc} {M : ecM} {th : Int32} {f : Nat → Int64} {fd : Nat → UInt64} {ls : Array Slot} {cells slots : Nat} {Q : State → Prop} (F : lwF p l s m c G X Y b L xs zo zd) (I : lwI s G X Y x y zo zd ya H locs M M th f fd) (hi : i + 7 ≤ L) (hl : lv_has ls 9 (lwL b x y zo zd i)) (hc : cells + 8 ≤ room_1.cells) (hs : slots + 150 ≤ room_1.slots) (kk : ∀ (H : Heap) (locs : List Loc) (M : ecM) (th : Int32) (f : Nat → Int64) (fd : Nat → UInt64) (ls : Array Slot), lwI s G X Y x y zo zd ya H locs M M th f fd → lv_has ls 9 (lwL b x y zo zd i) → W p l e room_1 s m #[Value.ref b] below meth c H locs (cells + 8) (slots + 150) Q (F0 m 2146 ls [])) : W p l e room_1 s m #[Value.ref b] below meth c H locs cells slots Q (F0 m 681 ls []) := by
  obtain ⟨hC, hls, hOk, hX, hbl, hL, hAN, hXA, hYA, hoA, hdA, hYX, hXo, hXd, hYo, hYd, hdo⟩ := id F
  have hK := hOk.1
  have hY : ∀ q, Y q → ecN0 G ≤ q := fun q h => hAN q (hYA q h)
  have hwf := I.2.2.1.wf
  obtain ⟨hS, hXs, hEC, hx, hz, hzd⟩ := id I
  have hl : lv_has ls 9 [(0, .ref b), (1, .ref x), (2, .ref y), (3, .ref zo), (4, .ref zd), (5, .int (nI i))] := hl
  refine lv_aload_n hC.1 hC.2.1 dL_law_681 rfl (lv_at hl 1 rfl) ?_
  refine lv_aload_n hC.1 hC.2.1 dL_law_682 rfl (lv_at hl 0 rfl) ?_
  refine lv_iload hC.1 hC.2.1 dL_law_683 (lv_at hl 5 rfl) ?_
  refine lv_iconst (v := 1) hC.1 hC.2.1 dL_law_685 (by decide) ?_
  refine lv_iadd hC.1 hC.2.1 dL_law_686 ?_
  refine lw_ld hC hX hbl hS hL (i + 1) (nI_add i 1) (by omega) dL_law_687 ?_
  refine lv_aload_n hC.1 hC.2.1 dL_law_688 rfl (lv_at hl 0 rfl) ?_
  refine lv_iload hC.1 hC.2.1 dL_law_689 (lv_at hl 5 rfl) ?_
  refine lv_iconst (v := 2) hC.1 hC.2.1 dL_law_691 (by decide) ?_
  refine lv_iadd hC.1 hC.2.1 dL_law_692 ?_
  refine lw_ld hC hX hbl hS hL (i + 2) (nI_add i 2) (by omega) dL_law_693 ?_
  refine lv_aload_n hC.1 hC.2.1 dL_law_694 rfl (lv_at hl 3 rfl) ?_
  refine ec_goXE1 (ec_xSH hC (c_L_sample l hls G X M x zo f hXo (hAN _ hoA) (xs (i + 1)) (xs (i + 2))) kL_146 (hOk.at hS hAN) ⟨hXs, hEC, hz⟩ hl.1 ⟨Nat.le_of_ble_eq_true rfl, Nat.le_of_ble_eq_true rfl⟩ rfl (Nat.le_of_ble_eq_true rfl) dL_law_695 ⟨hc, hs⟩) hS (fun q h => h.elim (hXA q) (fun h => by rw [h]; exact hoA)) (fun _ _ _ _ _ hx9 => hx9.elim) (fun H locs hp hzs hk1 hS => ?_)
  obtain ⟨hEC, f, hz, hf⟩ := hp
  rw [ite_self] at hEC
  have I := I.hlp F hS hzs hk1 hEC hz
  obtain ⟨hS, hXs, hEC, hx, hz, hzd⟩ := id I
  refine lv_istore (lv' := [(6, .int (nI (thSam M (xs (i + 1)) (xs (i + 2))))), (0, .ref b), (1, .ref x), (2, .ref y), (3, .ref zo), (4, .ref zd), (5, .int (nI i))]) hC.1 hC.2.1 dL_law_698 hl (by decide) rfl (fun ls hl => ?_)
  refine lv_aload_n hC.1 hC.2.1 dL_law_700 rfl (lv_at hl 3 rfl) ?_
  refine lv_aload_n hC.1 hC.2.1 dL_law_701 rfl (lv_at hl 1 rfl) ?_
  refine lv_iload hC.1 hC.2.1 dL_law_702 (lv_at hl 6 rfl) ?_
  refine lv_iconst (v := 1) hC.1 hC.2.1 dL_law_704 (by decide) ?_
  refine lv_iadd hC.1 hC.2.1 dL_law_705 ?_
  refine lw_ld hC hX hbl hS hL (i + 1) (nI_add i 1) (by omega) dL_law_706 ?_
  refine lv_aload_n hC.1 hC.2.1 dL_law_707 rfl (lv_at hl 1 rfl) ?_
  refine lv_iload hC.1 hC.2.1 dL_law_708 (lv_at hl 6 rfl) ?_
  refine lv_iconst (v := 2) hC.1 hC.2.1 dL_law_710 (by decide) ?_
  refine lv_iadd hC.1 hC.2.1 dL_law_711 ?_
  refine lw_ld hC hX hbl hS hL (i + 2) (nI_add i 2) (by omega) dL_law_712 ?_
  refine ec_goEi (ec_rV hC (c_X6_sample l G Y M th y ya hY hwf (xs (i + 1)) (xs (i + 2))) kL_149 (hOk.at hS hAN) hx (ec_rc hK hx.1 ⟨_, _, rfl⟩) hl.1 ⟨Nat.le_of_ble_eq_true rfl, Nat.le_of_ble_eq_true rfl⟩ rfl (Nat.le_of_ble_eq_true rfl) dL_law_713 ⟨hc, hs⟩) hS hYA (fun w H locs hp hzs hk1 hS => ?_)
  obtain ⟨hw, hp⟩ := hp
  have I := I.mod F hS hzs hk1 hp
  obtain ⟨hS, hXs, hEC, hx, hz, hzd⟩ := id I
  refine lv_istore (lv' := [(7, .int w), (6, .int (nI (thSam M (xs (i + 1)) (xs (i + 2))))), (0, .ref b), (1, .ref x), (2, .ref y), (3, .ref zo), (4, .ref zd), (5, .int (nI i))]) hC.1 hC.2.1 dL_law_716 hl (by decide) rfl (fun ls hl => ?_)
  refine lv_aload_n hC.1 hC.2.1 dL_law_718 rfl (lv_at hl 4 rfl) ?_
  refine ec_go1 (ec_rV hC (c_X6_thrown l G Y _ _ y ya) kL_122 (hOk.at hS hAN) hx (ec_rc hK hx.1 ⟨_, _, rfl⟩) hl.1 ⟨Nat.le_of_ble_eq_true rfl, Nat.le_of_ble_eq_true rfl⟩ rfl (Nat.le_of_ble_eq_true rfl) dL_law_719 ⟨hc, hs⟩) ?_
  refine lv_iload hC.1 hC.2.1 dL_law_722 (lv_at hl 1 rfl) ?_
  refine lv_icmp_eq (tgt := 729) hC.1 hC.2.1 dL_law_724 (by decide) (fun c_724 => ?_) (fun c => absurd rfl c)
  refine lv_iload hC.1 hC.2.1 dL_law_729 (lv_at hl 1 rfl) ?_
  refine lv_if_ne (tgt := 746) hC.1 hC.2.1 dL_law_731 (by decide) (fun c_731 => ?_) (fun c_731 => ?_)
  · refine lv_goto (tgt := 2146) hC.1 hC.2.1 dL_law_746 (by decide) ?_
    exact kk _ _ _ _ _ _ _ I (lv_sub hl [2, 3, 4, 5, 6, 7] rfl)
  · refine lv_aload_n hC.1 hC.2.1 dL_law_734 rfl (lv_at hl 5 rfl) ?_
    refine lv_iconst (v := 0) hC.1 hC.2.1 dL_law_735 (by decide) ?_
    have hT : thSam M (xs (i + 1)) (xs (i + 2)) = 0 := (nI_eq (b := 0) (by first | exact thSam_lt _ | exact thSam_lt _ _ | exact thSam_lt _ _ _ | exact thSam_lt _ _ _ _ | exact thSam_lt _ _ _ _ _ | exact thSam_lt _ _ _ _ _ _ | exact thSam_lt _ _ _ _ _ _ _) (by decide)).mp c_731
    have hf := hf hT
    have hw := hw hT
    subst hw
    have hl : lv_has ls 9 [(7, .int (M.2.1 4 (4 * cN (xs (i + 1)) + cN (xs (i + 2))))), (6, .int (nI (thSam M (xs (i + 1)) (xs (i + 2))))), (0, .ref b), (1, .ref x), (2, .ref y), (3, .ref zo), (4, .ref zd), (5, .int (nI i))] := hl
    refine ec_lald hC hK hz 0 rfl (by decide) (by decide) dL_law_736 ?_
    refine lv_iload hC.1 hC.2.1 dL_law_737 (lv_at hl 0 rfl) ?_
    refine lv_i2l hC.1 hC.2.1 dL_law_739 rfl ?_
    refine W.lcmp hC.1 hC.2.1 dL_law_740 ?_
    refine lv_if_eq (tgt := 746) hC.1 hC.2.1 dL_law_741 (by decide) (fun c_741 => ?_) (fun c => absurd ((ec_cm0 _ _).mpr hf) c)
    refine lv_goto (tgt := 2146) hC.1 hC.2.1 dL_law_746 (by decide) ?_
    exact kk _ _ _ _ _ _ _ I (lv_sub hl [2, 3, 4, 5, 6, 7] rfl)

set_option maxHeartbeats 4000000 in
set_option maxRecDepth 100000 in
/-- case 8: age -/
theorem lw_c8 {p : Program} {l : Launch} {e : Env} {s : State} {m : MethodId} {below : List Frame} {meth : Method} {c : Code} {G : ecG} {X Y : Nat → Prop} {b L x y zo zd i : Nat} {ya : Nat → Nat} {xs : Nat → Int32} {H : Heap} {locs : List Loc} {M : ecM} {th : Int32} {f : Nat → Int64} {fd : Nat → UInt64} {ls : Array Slot} {cells slots : Nat} {Q : State → Prop} (F : lwF p l s m c G X Y b L xs zo zd) (I : lwI s G X Y x y zo zd ya H locs M M th f fd) (hi : i + 7 ≤ L) (hl : lv_has ls 9 (lwL b x y zo zd i)) (hc : cells + 8 ≤ room_1.cells) (hs : slots + 150 ≤ room_1.slots) (kk : ∀ (H : Heap) (locs : List Loc) (M : ecM) (th : Int32) (f : Nat → Int64) (fd : Nat → UInt64) (ls : Array Slot), lwI s G X Y x y zo zd ya H locs M M th f fd → lv_has ls 9 (lwL b x y zo zd i) → W p l e room_1 s m #[Value.ref b] below meth c H locs (cells + 8) (slots + 150) Q (F0 m 2146 ls [])) : W p l e room_1 s m #[Value.ref b] below meth c H locs cells slots Q (F0 m 749 ls []) := by
  obtain ⟨hC, hls, hOk, hX, hbl, hL, hAN, hXA, hYA, hoA, hdA, hYX, hXo, hXd, hYo, hYd, hdo⟩ := id F
  have hK := hOk.1
  have hY : ∀ q, Y q → ecN0 G ≤ q := fun q h => hAN q (hYA q h)
  have hwf := I.2.2.1.wf
  obtain ⟨hS, hXs, hEC, hx, hz, hzd⟩ := id I
  have hl : lv_has ls 9 [(0, .ref b), (1, .ref x), (2, .ref y), (3, .ref zo), (4, .ref zd), (5, .int (nI i))] := hl
  refine lv_aload_n hC.1 hC.2.1 dL_law_749 rfl (lv_at hl 1 rfl) ?_
  refine lv_aload_n hC.1 hC.2.1 dL_law_750 rfl (lv_at hl 0 rfl) ?_
  refine lv_iload hC.1 hC.2.1 dL_law_751 (lv_at hl 5 rfl) ?_
  refine lv_iconst (v := 1) hC.1 hC.2.1 dL_law_753 (by decide) ?_
  refine lv_iadd hC.1 hC.2.1 dL_law_754 ?_
  refine lw_ld hC hX hbl hS hL (i + 1) (nI_add i 1) (by omega) dL_law_755 ?_
  refine lv_aload_n hC.1 hC.2.1 dL_law_756 rfl (lv_at hl 3 rfl) ?_
  refine ec_goXE1 (ec_xSH hC (c_L_age l hls G X M x zo f hXo (hAN _ hoA) (xs (i + 1))) kL_150 (hOk.at hS hAN) ⟨hXs, hEC, hz⟩ hl.1 ⟨Nat.le_of_ble_eq_true rfl, Nat.le_of_ble_eq_true rfl⟩ rfl (Nat.le_of_ble_eq_true rfl) dL_law_757 ⟨hc, hs⟩) hS (fun q h => h.elim (hXA q) (fun h => by rw [h]; exact hoA)) (fun _ _ _ _ _ hx9 => hx9.elim) (fun H locs hp hzs hk1 hS => ?_)
  obtain ⟨hEC, f, hz, hf⟩ := hp
  rw [ite_self] at hEC
  have I := I.hlp F hS hzs hk1 hEC hz
  obtain ⟨hS, hXs, hEC, hx, hz, hzd⟩ := id I
  refine lv_istore (lv' := [(6, .int (nI (thA M (xs (i + 1))))), (0, .ref b), (1, .ref x), (2, .ref y), (3, .ref zo), (4, .ref zd), (5, .int (nI i))]) hC.1 hC.2.1 dL_law_760 hl (by decide) rfl (fun ls hl => ?_)
  refine lv_aload_n hC.1 hC.2.1 dL_law_762 rfl (lv_at hl 3 rfl) ?_
  refine lv_aload_n hC.1 hC.2.1 dL_law_763 rfl (lv_at hl 1 rfl) ?_
  refine lv_iload hC.1 hC.2.1 dL_law_764 (lv_at hl 6 rfl) ?_
  refine lv_iconst (v := 1) hC.1 hC.2.1 dL_law_766 (by decide) ?_
  refine lv_iadd hC.1 hC.2.1 dL_law_767 ?_
  refine lw_ld hC hX hbl hS hL (i + 1) (nI_add i 1) (by omega) dL_law_768 ?_
  refine ec_goEi (ec_rV hC (c_X6_age l G Y M th y ya hY hwf (xs (i + 1))) kL_152 (hOk.at hS hAN) hx (ec_rc hK hx.1 ⟨_, _, rfl⟩) hl.1 ⟨Nat.le_of_ble_eq_true rfl, Nat.le_of_ble_eq_true rfl⟩ rfl (Nat.le_of_ble_eq_true rfl) dL_law_769 ⟨hc, hs⟩) hS hYA (fun w H locs hp hzs hk1 hS => ?_)
  obtain ⟨hw, hp⟩ := hp
  have I := I.mod F hS hzs hk1 hp
  obtain ⟨hS, hXs, hEC, hx, hz, hzd⟩ := id I
  refine lv_istore (lv' := [(7, .int w), (6, .int (nI (thA M (xs (i + 1))))), (0, .ref b), (1, .ref x), (2, .ref y), (3, .ref zo), (4, .ref zd), (5, .int (nI i))]) hC.1 hC.2.1 dL_law_772 hl (by decide) rfl (fun ls hl => ?_)
  refine lv_aload_n hC.1 hC.2.1 dL_law_774 rfl (lv_at hl 4 rfl) ?_
  refine ec_go1 (ec_rV hC (c_X6_thrown l G Y _ _ y ya) kL_122 (hOk.at hS hAN) hx (ec_rc hK hx.1 ⟨_, _, rfl⟩) hl.1 ⟨Nat.le_of_ble_eq_true rfl, Nat.le_of_ble_eq_true rfl⟩ rfl (Nat.le_of_ble_eq_true rfl) dL_law_775 ⟨hc, hs⟩) ?_
  refine lv_iload hC.1 hC.2.1 dL_law_778 (lv_at hl 1 rfl) ?_
  refine lv_icmp_eq (tgt := 785) hC.1 hC.2.1 dL_law_780 (by decide) (fun c_780 => ?_) (fun c => absurd rfl c)
  refine lv_iload hC.1 hC.2.1 dL_law_785 (lv_at hl 1 rfl) ?_
  refine lv_if_ne (tgt := 802) hC.1 hC.2.1 dL_law_787 (by decide) (fun c_787 => ?_) (fun c_787 => ?_)
  · refine lv_goto (tgt := 2146) hC.1 hC.2.1 dL_law_802 (by decide) ?_
    exact kk _ _ _ _ _ _ _ I (lv_sub hl [2, 3, 4, 5, 6, 7] rfl)
  · refine lv_aload_n hC.1 hC.2.1 dL_law_790 rfl (lv_at hl 5 rfl) ?_
    refine lv_iconst (v := 0) hC.1 hC.2.1 dL_law_791 (by decide) ?_
    have hT : thA M (xs (i + 1)) = 0 := (nI_eq (b := 0) (by first | exact thA_lt _ | exact thA_lt _ _ | exact thA_lt _ _ _ | exact thA_lt _ _ _ _ | exact thA_lt _ _ _ _ _ | exact thA_lt _ _ _ _ _ _ | exact thA_lt _ _ _ _ _ _ _) (by decide)).mp c_787
    have hf := hf hT
    have hw := hw hT
    subst hw
    have hl : lv_has ls 9 [(7, .int (ageM M (cN (xs (i + 1))))), (6, .int (nI (thA M (xs (i + 1))))), (0, .ref b), (1, .ref x), (2, .ref y), (3, .ref zo), (4, .ref zd), (5, .int (nI i))] := hl
    refine ec_lald hC hK hz 0 rfl (by decide) (by decide) dL_law_792 ?_
    refine lv_iload hC.1 hC.2.1 dL_law_793 (lv_at hl 0 rfl) ?_
    refine lv_i2l hC.1 hC.2.1 dL_law_795 rfl ?_
    refine W.lcmp hC.1 hC.2.1 dL_law_796 ?_
    refine lv_if_eq (tgt := 802) hC.1 hC.2.1 dL_law_797 (by decide) (fun c_797 => ?_) (fun c => absurd ((ec_cm0 _ _).mpr hf) c)
    refine lv_goto (tgt := 2146) hC.1 hC.2.1 dL_law_802 (by decide) ?_
    exact kk _ _ _ _ _ _ _ I (lv_sub hl [2, 3, 4, 5, 6, 7] rfl)

set_option maxHeartbeats 4000000 in
set_option maxRecDepth 100000 in
/-- case 9: latest -/
theorem lw_c9 {p : Program} {l : Launch} {e : Env} {s : State} {m : MethodId} {below : List Frame} {meth : Method} {c : Code} {G : ecG} {X Y : Nat → Prop} {b L x y zo zd i : Nat} {ya : Nat → Nat} {xs : Nat → Int32} {H : Heap} {locs : List Loc} {M : ecM} {th : Int32} {f : Nat → Int64} {fd : Nat → UInt64} {ls : Array Slot} {cells slots : Nat} {Q : State → Prop} (F : lwF p l s m c G X Y b L xs zo zd) (I : lwI s G X Y x y zo zd ya H locs M M th f fd) (hi : i + 7 ≤ L) (hl : lv_has ls 9 (lwL b x y zo zd i)) (hc : cells + 8 ≤ room_1.cells) (hs : slots + 150 ≤ room_1.slots) (kk : ∀ (H : Heap) (locs : List Loc) (M : ecM) (th : Int32) (f : Nat → Int64) (fd : Nat → UInt64) (ls : Array Slot), lwI s G X Y x y zo zd ya H locs M M th f fd → lv_has ls 9 (lwL b x y zo zd i) → W p l e room_1 s m #[Value.ref b] below meth c H locs (cells + 8) (slots + 150) Q (F0 m 2146 ls [])) : W p l e room_1 s m #[Value.ref b] below meth c H locs cells slots Q (F0 m 805 ls []) := by
  obtain ⟨hC, hls, hOk, hX, hbl, hL, hAN, hXA, hYA, hoA, hdA, hYX, hXo, hXd, hYo, hYd, hdo⟩ := id F
  have hK := hOk.1
  have hY : ∀ q, Y q → ecN0 G ≤ q := fun q h => hAN q (hYA q h)
  have hwf := I.2.2.1.wf
  obtain ⟨hS, hXs, hEC, hx, hz, hzd⟩ := id I
  have hl : lv_has ls 9 [(0, .ref b), (1, .ref x), (2, .ref y), (3, .ref zo), (4, .ref zd), (5, .int (nI i))] := hl
  refine lv_aload_n hC.1 hC.2.1 dL_law_805 rfl (lv_at hl 1 rfl) ?_
  refine lv_aload_n hC.1 hC.2.1 dL_law_806 rfl (lv_at hl 0 rfl) ?_
  refine lv_iload hC.1 hC.2.1 dL_law_807 (lv_at hl 5 rfl) ?_
  refine lv_iconst (v := 1) hC.1 hC.2.1 dL_law_809 (by decide) ?_
  refine lv_iadd hC.1 hC.2.1 dL_law_810 ?_
  refine lw_ld hC hX hbl hS hL (i + 1) (nI_add i 1) (by omega) dL_law_811 ?_
  refine lv_aload_n hC.1 hC.2.1 dL_law_812 rfl (lv_at hl 0 rfl) ?_
  refine lv_iload hC.1 hC.2.1 dL_law_813 (lv_at hl 5 rfl) ?_
  refine lv_iconst (v := 2) hC.1 hC.2.1 dL_law_815 (by decide) ?_
  refine lv_iadd hC.1 hC.2.1 dL_law_816 ?_
  refine lw_ld hC hX hbl hS hL (i + 2) (nI_add i 2) (by omega) dL_law_817 ?_
  refine lv_aload_n hC.1 hC.2.1 dL_law_818 rfl (lv_at hl 0 rfl) ?_
  refine lv_iload hC.1 hC.2.1 dL_law_819 (lv_at hl 5 rfl) ?_
  refine lv_iconst (v := 3) hC.1 hC.2.1 dL_law_821 (by decide) ?_
  refine lv_iadd hC.1 hC.2.1 dL_law_822 ?_
  refine lw_ld hC hX hbl hS hL (i + 3) (nI_add i 3) (by omega) dL_law_823 ?_
  refine lv_aload_n hC.1 hC.2.1 dL_law_824 rfl (lv_at hl 0 rfl) ?_
  refine lv_iload hC.1 hC.2.1 dL_law_825 (lv_at hl 5 rfl) ?_
  refine lv_iconst (v := 4) hC.1 hC.2.1 dL_law_827 (by decide) ?_
  refine lv_iadd hC.1 hC.2.1 dL_law_828 ?_
  refine lw_ld hC hX hbl hS hL (i + 4) (nI_add i 4) (by omega) dL_law_829 ?_
  refine lv_aload_n hC.1 hC.2.1 dL_law_830 rfl (lv_at hl 0 rfl) ?_
  refine lv_iload hC.1 hC.2.1 dL_law_831 (lv_at hl 5 rfl) ?_
  refine lv_iconst (v := 5) hC.1 hC.2.1 dL_law_833 (by decide) ?_
  refine lv_iadd hC.1 hC.2.1 dL_law_834 ?_
  refine lw_ld hC hX hbl hS hL (i + 5) (nI_add i 5) (by omega) dL_law_835 ?_
  refine lw_bool hC dL_law_836 dL_law_839 dL_law_840 dL_law_843 ?_
  refine lv_aload_n hC.1 hC.2.1 dL_law_844 rfl (lv_at hl 3 rfl) ?_
  refine ec_goXE1 (ec_xSH hC (c_L_latest l hls G X M x zo f hXo (hAN _ hoA) (xs (i + 1)) (xs (i + 2)) (xs (i + 3)) (xs (i + 4)) (!decide (xs (i + 5) = 0))) kL_153 (hOk.at hS hAN) ⟨hXs, hEC, hz⟩ hl.1 ⟨Nat.le_of_ble_eq_true rfl, Nat.le_of_ble_eq_true rfl⟩ rfl (Nat.le_of_ble_eq_true rfl) dL_law_845 ⟨hc, hs⟩) hS (fun q h => h.elim (hXA q) (fun h => by rw [h]; exact hoA)) (fun _ _ _ _ _ hx9 => hx9.elim) (fun H locs hp hzs hk1 hS => ?_)
  obtain ⟨hEC, f, hz, hf⟩ := hp
  rw [ite_self] at hEC
  have I := I.hlp F hS hzs hk1 hEC hz
  obtain ⟨hS, hXs, hEC, hx, hz, hzd⟩ := id I
  refine lv_istore (lv' := [(6, .int (nI (thLat M (xs (i + 1)) (xs (i + 2)) (xs (i + 3)) (xs (i + 4)) (!decide (xs (i + 5) = 0))))), (0, .ref b), (1, .ref x), (2, .ref y), (3, .ref zo), (4, .ref zd), (5, .int (nI i))]) hC.1 hC.2.1 dL_law_848 hl (by decide) rfl (fun ls hl => ?_)
  refine lv_aload_n hC.1 hC.2.1 dL_law_850 rfl (lv_at hl 3 rfl) ?_
  refine lv_aload_n hC.1 hC.2.1 dL_law_851 rfl (lv_at hl 1 rfl) ?_
  refine lv_iload hC.1 hC.2.1 dL_law_852 (lv_at hl 6 rfl) ?_
  refine lv_iconst (v := 1) hC.1 hC.2.1 dL_law_854 (by decide) ?_
  refine lv_iadd hC.1 hC.2.1 dL_law_855 ?_
  refine lw_ld hC hX hbl hS hL (i + 1) (nI_add i 1) (by omega) dL_law_856 ?_
  refine lv_aload_n hC.1 hC.2.1 dL_law_857 rfl (lv_at hl 1 rfl) ?_
  refine lv_iload hC.1 hC.2.1 dL_law_858 (lv_at hl 6 rfl) ?_
  refine lv_iconst (v := 2) hC.1 hC.2.1 dL_law_860 (by decide) ?_
  refine lv_iadd hC.1 hC.2.1 dL_law_861 ?_
  refine lw_ld hC hX hbl hS hL (i + 2) (nI_add i 2) (by omega) dL_law_862 ?_
  refine lv_aload_n hC.1 hC.2.1 dL_law_863 rfl (lv_at hl 1 rfl) ?_
  refine lv_iload hC.1 hC.2.1 dL_law_864 (lv_at hl 6 rfl) ?_
  refine lv_iconst (v := 3) hC.1 hC.2.1 dL_law_866 (by decide) ?_
  refine lv_iadd hC.1 hC.2.1 dL_law_867 ?_
  refine lw_ld hC hX hbl hS hL (i + 3) (nI_add i 3) (by omega) dL_law_868 ?_
  refine lv_aload_n hC.1 hC.2.1 dL_law_869 rfl (lv_at hl 1 rfl) ?_
  refine lv_iload hC.1 hC.2.1 dL_law_870 (lv_at hl 6 rfl) ?_
  refine lv_iconst (v := 4) hC.1 hC.2.1 dL_law_872 (by decide) ?_
  refine lv_iadd hC.1 hC.2.1 dL_law_873 ?_
  refine lw_ld hC hX hbl hS hL (i + 4) (nI_add i 4) (by omega) dL_law_874 ?_
  refine lv_aload_n hC.1 hC.2.1 dL_law_875 rfl (lv_at hl 1 rfl) ?_
  refine lv_iload hC.1 hC.2.1 dL_law_876 (lv_at hl 6 rfl) ?_
  refine lv_iconst (v := 5) hC.1 hC.2.1 dL_law_878 (by decide) ?_
  refine lv_iadd hC.1 hC.2.1 dL_law_879 ?_
  refine lw_ld hC hX hbl hS hL (i + 5) (nI_add i 5) (by omega) dL_law_880 ?_
  refine lw_bool hC dL_law_881 dL_law_884 dL_law_885 dL_law_888 ?_
  refine ec_goEi (ec_rV hC (c_X6_latest l G Y M th y ya hY hwf (xs (i + 1)) (xs (i + 2)) (xs (i + 3)) (xs (i + 4)) (!decide (xs (i + 5) = 0))) kL_156 (hOk.at hS hAN) hx (ec_rc hK hx.1 ⟨_, _, rfl⟩) hl.1 ⟨Nat.le_of_ble_eq_true rfl, Nat.le_of_ble_eq_true rfl⟩ rfl (Nat.le_of_ble_eq_true rfl) dL_law_889 ⟨hc, hs⟩) hS hYA (fun w H locs hp hzs hk1 hS => ?_)
  obtain ⟨hw, hp⟩ := hp
  have I := I.mod F hS hzs hk1 hp
  obtain ⟨hS, hXs, hEC, hx, hz, hzd⟩ := id I
  refine lv_istore (lv' := [(7, .int w), (6, .int (nI (thLat M (xs (i + 1)) (xs (i + 2)) (xs (i + 3)) (xs (i + 4)) (!decide (xs (i + 5) = 0))))), (0, .ref b), (1, .ref x), (2, .ref y), (3, .ref zo), (4, .ref zd), (5, .int (nI i))]) hC.1 hC.2.1 dL_law_892 hl (by decide) rfl (fun ls hl => ?_)
  refine lv_aload_n hC.1 hC.2.1 dL_law_894 rfl (lv_at hl 4 rfl) ?_
  refine ec_go1 (ec_rV hC (c_X6_thrown l G Y _ _ y ya) kL_122 (hOk.at hS hAN) hx (ec_rc hK hx.1 ⟨_, _, rfl⟩) hl.1 ⟨Nat.le_of_ble_eq_true rfl, Nat.le_of_ble_eq_true rfl⟩ rfl (Nat.le_of_ble_eq_true rfl) dL_law_895 ⟨hc, hs⟩) ?_
  refine lv_iload hC.1 hC.2.1 dL_law_898 (lv_at hl 1 rfl) ?_
  refine lv_icmp_eq (tgt := 905) hC.1 hC.2.1 dL_law_900 (by decide) (fun c_900 => ?_) (fun c => absurd rfl c)
  refine lv_iload hC.1 hC.2.1 dL_law_905 (lv_at hl 1 rfl) ?_
  refine lv_if_ne (tgt := 922) hC.1 hC.2.1 dL_law_907 (by decide) (fun c_907 => ?_) (fun c_907 => ?_)
  · refine lv_goto (tgt := 2146) hC.1 hC.2.1 dL_law_922 (by decide) ?_
    exact kk _ _ _ _ _ _ _ I (lv_sub hl [2, 3, 4, 5, 6, 7] rfl)
  · refine lv_aload_n hC.1 hC.2.1 dL_law_910 rfl (lv_at hl 5 rfl) ?_
    refine lv_iconst (v := 0) hC.1 hC.2.1 dL_law_911 (by decide) ?_
    have hT : thLat M (xs (i + 1)) (xs (i + 2)) (xs (i + 3)) (xs (i + 4)) (!decide (xs (i + 5) = 0)) = 0 := (nI_eq (b := 0) (by first | exact thLat_lt _ | exact thLat_lt _ _ | exact thLat_lt _ _ _ | exact thLat_lt _ _ _ _ | exact thLat_lt _ _ _ _ _ | exact thLat_lt _ _ _ _ _ _ | exact thLat_lt _ _ _ _ _ _ _) (by decide)).mp c_907
    have hf := hf hT
    have hw := hw hT
    subst hw
    have hl : lv_has ls 9 [(7, .int (nI ((latN M (cN (xs (i + 1))) (xs (i + 2)) (cdN (xs (i + 3)) (xs (i + 4)) (!decide (xs (i + 5) = 0))) (mnA M)).getD 0))), (6, .int (nI (thLat M (xs (i + 1)) (xs (i + 2)) (xs (i + 3)) (xs (i + 4)) (!decide (xs (i + 5) = 0))))), (0, .ref b), (1, .ref x), (2, .ref y), (3, .ref zo), (4, .ref zd), (5, .int (nI i))] := hl
    refine ec_lald hC hK hz 0 rfl (by decide) (by decide) dL_law_912 ?_
    refine lv_iload hC.1 hC.2.1 dL_law_913 (lv_at hl 0 rfl) ?_
    refine lv_i2l hC.1 hC.2.1 dL_law_915 rfl ?_
    refine W.lcmp hC.1 hC.2.1 dL_law_916 ?_
    refine lv_if_eq (tgt := 922) hC.1 hC.2.1 dL_law_917 (by decide) (fun c_917 => ?_) (fun c => absurd ((ec_cm0 _ _).mpr hf) c)
    refine lv_goto (tgt := 2146) hC.1 hC.2.1 dL_law_922 (by decide) ?_
    exact kk _ _ _ _ _ _ _ I (lv_sub hl [2, 3, 4, 5, 6, 7] rfl)
