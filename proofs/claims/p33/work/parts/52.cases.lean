theorem AR.bok {M : ecM} {g : Nat → Nat → Int32} (h : AR M g) {r c d : Nat} {o : Bool} {f l : Int32} (hc : c < 3) (hd : d < 3) : AR (bokM M r (cdN (nI c) (nI d) o) f l) (up2 (up2 (up2 (up2 (up2 (up2 g 2 (mnB M) (nI r)) 0 (mnB M) f) 1 (mnB M) l) 3 (mnB M) (nI c)) 4 (mnB M) (nI d)) 5 (mnB M) (bI o)) := by
  obtain ⟨h1, h2⟩ := h
  have m4 : ∀ i, (bokM M r (cdN (nI c) (nI d) o) f l).1 4 i = if i = mnB M then r else M.1 4 i := fun _ => rfl
  have m5 : ∀ i, (bokM M r (cdN (nI c) (nI d) o) f l).1 5 i = if i = mnB M then (cdN (nI c) (nI d) o) else M.1 5 i := fun _ => rfl
  have m7 : ∀ i, (bokM M r (cdN (nI c) (nI d) o) f l).2.1 7 i = if i = mnB M then f else M.2.1 7 i := fun _ => rfl
  have m8 : ∀ i, (bokM M r (cdN (nI c) (nI d) o) f l).2.1 8 i = if i = mnB M then l else M.2.1 8 i := fun _ => rfl
  have hn : mnB (bokM M r (cdN (nI c) (nI d) o) f l) = mnB M + 1 := rfl
  refine ⟨fun k hk => ?_, fun k => h2 k⟩
  rw [hn] at hk
  rw [m4, m5, m7, m8]
  have q0 : up2 (up2 (up2 (up2 (up2 (up2 g 2 (mnB M) (nI r)) 0 (mnB M) f) 1 (mnB M) l) 3 (mnB M) (nI c)) 4 (mnB M) (nI d)) 5 (mnB M) (bI o) 0 k = if k = mnB M then f else g 0 k := rfl
  have q1 : up2 (up2 (up2 (up2 (up2 (up2 g 2 (mnB M) (nI r)) 0 (mnB M) f) 1 (mnB M) l) 3 (mnB M) (nI c)) 4 (mnB M) (nI d)) 5 (mnB M) (bI o) 1 k = if k = mnB M then l else g 1 k := rfl
  have q2 : up2 (up2 (up2 (up2 (up2 (up2 g 2 (mnB M) (nI r)) 0 (mnB M) f) 1 (mnB M) l) 3 (mnB M) (nI c)) 4 (mnB M) (nI d)) 5 (mnB M) (bI o) 2 k = if k = mnB M then nI r else g 2 k := rfl
  have q3 : up2 (up2 (up2 (up2 (up2 (up2 g 2 (mnB M) (nI r)) 0 (mnB M) f) 1 (mnB M) l) 3 (mnB M) (nI c)) 4 (mnB M) (nI d)) 5 (mnB M) (bI o) 3 k = if k = mnB M then nI c else g 3 k := rfl
  have q4 : up2 (up2 (up2 (up2 (up2 (up2 g 2 (mnB M) (nI r)) 0 (mnB M) f) 1 (mnB M) l) 3 (mnB M) (nI c)) 4 (mnB M) (nI d)) 5 (mnB M) (bI o) 4 k = if k = mnB M then nI d else g 4 k := rfl
  have q5 : up2 (up2 (up2 (up2 (up2 (up2 g 2 (mnB M) (nI r)) 0 (mnB M) f) 1 (mnB M) l) 3 (mnB M) (nI c)) 4 (mnB M) (nI d)) 5 (mnB M) (bI o) 5 k = if k = mnB M then bI o else g 5 k := rfl
  rw [q0, q1, q2, q3, q4, q5]
  by_cases e : k = mnB M
  · rw [if_pos e, if_pos e, if_pos e, if_pos e, if_pos e, if_pos e, if_pos e, if_pos e, if_pos e, if_pos e, cd_c hc hd, cd_d hc hd, cd_o hc hd, nI_b]
    exact ⟨rfl, rfl, rfl, rfl, rfl, rfl⟩
  · rw [if_neg e, if_neg e, if_neg e, if_neg e, if_neg e, if_neg e, if_neg e, if_neg e, if_neg e, if_neg e]
    exact h1 k (by omega)
theorem AR.can {M : ecM} {g : Nat → Nat → Int32} (h : AR M g) {k : Nat} {z : Int32} (hz : z = 1) : AR (setN M 6 k 1) (up2 g 6 k z) := by
  obtain ⟨h1, h2⟩ := h
  refine ⟨fun i hi => h1 i hi, fun i => ?_⟩
  have m6 : (setN M 6 k 1).1 6 i = if i = k then 1 else M.1 6 i := rfl
  have q6 : up2 g 6 k z 6 i = if i = k then z else g 6 i := rfl
  rw [m6, q6]
  split
  · rw [hz]; rfl
  · exact h2 i
theorem AR.sm {M : ecM} {g : Nat → Nat → Int32} (h : AR M g) {k : Nat} {z : Int32} (hz : z = nI (M.1 6 k)) : AR M (up2 g 6 k z) := by
  obtain ⟨h1, h2⟩ := h
  refine ⟨fun i hi => h1 i hi, fun i => ?_⟩
  have q6 : up2 g 6 k z 6 i = if i = k then z else g 6 i := rfl
  rw [q6]
  split
  · next e => rw [hz, e]
  · exact h2 i
theorem b01 {e : Nat} (h : e ≤ 1) : bI (decide (e = 1)) = nI e := by
  rcases (show e = 0 ∨ e = 1 by omega) with z | z <;> subst z <;> rfl

set_option maxHeartbeats 4000000 in
set_option maxRecDepth 100000 in
/-- setState -/
theorem lw_set {p : Program} {l : Launch} {e : Env} {s : State} {m : MethodId} {below : List Frame} {meth : Method} {c : Code} {G : ecG} {X : Nat → Prop} {b L x R0 t : Nat} {xs : Nat → Int32} {ar : Nat → Nat} {H : Heap} {locs : List Loc} {M : ecM} {g : Nat → Nat → Int32} {ls : Array Slot} {cells slots : Nat} {Q : State → Prop} {v u r c3 d3 : Nat} {o : Bool} (F : lwF p l s m c G X b L xs ar) (I : lwW s G X x ar H locs M g) (hAR : AR M g) (hP : PI (5 * t) (300 * t) t (20 * t) M) (hR : mnR M = R0) (hR0 : R0 ≤ 3 ∧ 0 < R0) (ht : t < 28) (hv9 : v < 50000) (hu : u < 9000) (hr : r < R0) (hc3 : c3 < 3) (hd3 : d3 < 3) (hl : lv_has ls 28 [(0, .ref b), (1, .ref x), (2, .int (nI R0)), (3, .int (nI (mnF M))), (4, .int (mlm M)), (5, .int (nI (mnB M))), (6, .ref (ar 0)), (7, .ref (ar 1)), (8, .ref (ar 2)), (9, .ref (ar 3)), (10, .ref (ar 4)), (11, .ref (ar 5)), (12, .ref (ar 6)), (13, .int (nI t)), (14, .int (nI v)), (15, .int (nI u)), (16, .int (nI r)), (17, .int (nI c3)), (18, .int (nI d3)), (19, .int (M.2.1 0 r)), (20, .int (bI o))]) (hc : cells + 1900 ≤ room_1.cells) (hs : slots + 19900 ≤ room_1.slots) (kk : ∀ (H : Heap) (locs : List Loc) (M2 : ecM) (g2 : Nat → Nat → Int32) (ls : Array Slot), lwW s G X x ar H locs M2 g2 → AR M2 g2 → PI (5 * t + 5) (300 * t + 300) (t + 1) (20 * t + 20) M2 → mnR M2 = R0 → lv_has ls 28 [(0, .ref b), (1, .ref x), (2, .int (nI R0)), (3, .int (nI (mnF M2))), (4, .int (mlm M2)), (5, .int (nI (mnB M2))), (6, .ref (ar 0)), (7, .ref (ar 1)), (8, .ref (ar 2)), (9, .ref (ar 3)), (10, .ref (ar 4)), (11, .ref (ar 5)), (12, .ref (ar 6)), (13, .int (nI t))] → W p l e room_1 s m #[Value.ref b] below meth c H locs (cells + 1900) (slots + 19900) Q (F0 m 1185 ls [])) : W p l e room_1 s m #[Value.ref b] below meth c H locs cells slots Q (F0 m 260 ls []) := by
  obtain ⟨hC, hls, hOk, hX, hbl, hL, hAN, hXA, hrA, hrD⟩ := id F
  have hK := hOk.1
  obtain ⟨hS, hXs, hEC, h5, z5, z6⟩ := id I
  have hW := hEC.wf
  have hn0 := hW.n
  have hAN9 : ∀ q, (fun q : Nat => s.heap.size ≤ q) q → ecN0 G ≤ q := hAN
  have hrM : r < mnR M := by omega
  have hcr : cN (nI r) = r := cN_nI (by omega)
  have hk80 := hW.rs r
  refine lv_aload_n hC.1 hC.2.1 dL_law_260 rfl (lv_at hl 1 rfl) ?_
  refine lv_iload hC.1 hC.2.1 dL_law_261 (lv_at hl 16 rfl) ?_
  refine ec_goXE1 (ec_xV hC (c_X5_curtains l hls G X M x (nI r)) kL_132 (hOk.at hS hAN9) ⟨hXs, hEC⟩ (hEC.rcv hK) hl.1 ⟨Nat.le_of_ble_eq_true rfl, Nat.le_of_ble_eq_true rfl⟩ rfl (Nat.le_of_ble_eq_true rfl) dL_law_263 ⟨(by omega), (by omega)⟩) hS hXA (fun E9 ce9 q9 H9 l9 hx hk9 hS9 h1 h2 h3 => (lw_no (T_R hW hrM) hx (by decide)).elim) (fun H locs hp hzs hk1 hS => ?_)
  obtain ⟨-, hEC⟩ := hp
  have I := I.to F hS hzs hk1 hEC
  obtain ⟨hS, hXs, hEC, h5, z5, z6⟩ := id I
  refine ec_topi (y := (nI (M.1 0 r / 20))) (by rw [hcr]) ?_
  refine lv_iload hC.1 hC.2.1 dL_law_266 (lv_at hl 17 rfl) ?_
  refine lw_ne hC dL_law_268 dL_law_271 dL_law_272 dL_law_275 ?_
  refine lv_aload_n hC.1 hC.2.1 dL_law_276 rfl (lv_at hl 1 rfl) ?_
  refine lv_iload hC.1 hC.2.1 dL_law_277 (lv_at hl 16 rfl) ?_
  refine ec_goXE1 (ec_xV hC (c_X5_seats l hls G X M x (nI r)) kL_135 (hOk.at hS hAN9) ⟨hXs, hEC⟩ (hEC.rcv hK) hl.1 ⟨Nat.le_of_ble_eq_true rfl, Nat.le_of_ble_eq_true rfl⟩ rfl (Nat.le_of_ble_eq_true rfl) dL_law_279 ⟨(by omega), (by omega)⟩) hS hXA (fun E9 ce9 q9 H9 l9 hx hk9 hS9 h1 h2 h3 => (lw_no (T_R hW hrM) hx (by decide)).elim) (fun H locs hp hzs hk1 hS => ?_)
  obtain ⟨-, hEC⟩ := hp
  have I := I.to F hS hzs hk1 hEC
  obtain ⟨hS, hXs, hEC, h5, z5, z6⟩ := id I
  refine ec_topi (y := (nI (M.1 0 r % 20 / 2))) (by rw [hcr]) ?_
  refine lv_iload hC.1 hC.2.1 dL_law_282 (lv_at hl 18 rfl) ?_
  refine lw_ne hC dL_law_284 dL_law_287 dL_law_288 dL_law_291 ?_
  refine lv_iadd hC.1 hC.2.1 dL_law_292 ?_
  refine lv_aload_n hC.1 hC.2.1 dL_law_293 rfl (lv_at hl 1 rfl) ?_
  refine lv_iload hC.1 hC.2.1 dL_law_294 (lv_at hl 16 rfl) ?_
  refine ec_goXE1 (ec_xV hC (c_X5_areOpen l hls G X M x (nI r)) kL_156 (hOk.at hS hAN9) ⟨hXs, hEC⟩ (hEC.rcv hK) hl.1 ⟨Nat.le_of_ble_eq_true rfl, Nat.le_of_ble_eq_true rfl⟩ rfl (Nat.le_of_ble_eq_true rfl) dL_law_296 ⟨(by omega), (by omega)⟩) hS hXA (fun E9 ce9 q9 H9 l9 hx hk9 hS9 h1 h2 h3 => (lw_no (T_R hW hrM) hx (by decide)).elim) (fun H locs hp hzs hk1 hS => ?_)
  obtain ⟨-, hEC⟩ := hp
  have I := I.to F hS hzs hk1 hEC
  obtain ⟨hS, hXs, hEC, h5, z5, z6⟩ := id I
  refine ec_topi (y := (nI (M.1 0 r % 2))) (by rw [hcr]) ?_
  refine lv_iload hC.1 hC.2.1 dL_law_299 (lv_at hl 20 rfl) ?_
  refine lw_ne hC dL_law_301 dL_law_304 dL_law_305 dL_law_308 ?_
  refine lv_iadd hC.1 hC.2.1 dL_law_309 ?_
  refine ec_topi (y := (nI (dif (M.1 0 r) (cdN (nI c3) (nI d3) o)))) (prt_1 hk80 hc3 hd3) ?_
  refine lv_istore (lv' := [(21, .int (nI (dif (M.1 0 r) (cdN (nI c3) (nI d3) o)))), (0, .ref b), (1, .ref x), (2, .int (nI R0)), (3, .int (nI (mnF M))), (4, .int (mlm M)), (5, .int (nI (mnB M))), (6, .ref (ar 0)), (7, .ref (ar 1)), (8, .ref (ar 2)), (9, .ref (ar 3)), (10, .ref (ar 4)), (11, .ref (ar 5)), (12, .ref (ar 6)), (13, .int (nI t)), (14, .int (nI v)), (15, .int (nI u)), (16, .int (nI r)), (17, .int (nI c3)), (18, .int (nI d3)), (19, .int (M.2.1 0 r)), (20, .int (bI o))]) hC.1 hC.2.1 dL_law_310 hl (by decide) rfl (fun ls hl => ?_)
  refine lv_aload_n hC.1 hC.2.1 dL_law_312 rfl (lv_at hl 2 rfl) ?_
  refine lv_iload hC.1 hC.2.1 dL_law_313 (lv_at hl 17 rfl) ?_
  refine lv_iload hC.1 hC.2.1 dL_law_315 (lv_at hl 18 rfl) ?_
  refine lv_iload hC.1 hC.2.1 dL_law_317 (lv_at hl 19 rfl) ?_
  refine lv_iload hC.1 hC.2.1 dL_law_319 (lv_at hl 21 rfl) ?_
  have hT9 := T_Set hW hrM hc3 hd3
  refine ec_goXE1 (ec_xSH hC (c_L_setState l hls G X M x (nI r) (nI c3) (nI d3) o) kL_159 (hOk.at hS hAN9) ⟨hXs, hEC⟩ hl.1 ⟨Nat.le_of_ble_eq_true rfl, Nat.le_of_ble_eq_true rfl⟩ rfl (Nat.le_of_ble_eq_true rfl) dL_law_321 ⟨(by omega), (by omega)⟩) hS hXA (fun _ _ _ _ _ hx9 => hx9.elim) (fun H locs hEC hzs hk1 hS => ?_)
  rw [if_pos hT9] at hEC
  rw [hcr] at hEC
  have I := I.to F hS hzs hk1 hEC
  have hAR := hAR.gv r (cdN (nI c3) (nI d3) o)
  obtain ⟨hS, hXs, hEC, h5, z5, z6⟩ := id I
  have hP := hP.gv (r := r) (k := (cdN (nI c3) (nI d3) o)) (by omega)
  have hW := hEC.wf
  have hn0 := hW.n
  have hrM : r < mnR (gvM M r (cdN (nI c3) (nI d3) o)) := hrM
  refine ec_topi (y := (nI (dif (M.1 0 r) (cdN (nI c3) (nI d3) o)))) (by rw [hT9, hv_0, hcr]) ?_
  refine lv_iload hC.1 hC.2.1 dL_law_324 (lv_at hl 0 rfl) ?_
  refine lv_icmp_ne (tgt := 391) hC.1 hC.2.1 dL_law_326 (by decide) (fun c => absurd rfl c) (fun c_326 => ?_)
  refine lv_aload_n hC.1 hC.2.1 dL_law_329 rfl (lv_at hl 2 rfl) ?_
  refine lv_iload hC.1 hC.2.1 dL_law_330 (lv_at hl 17 rfl) ?_
  refine ec_goXE1 (ec_xV hC (c_X5_changes l hls G X (gvM M r (cdN (nI c3) (nI d3) o)) x (nI r)) kL_32 (hOk.at hS hAN9) ⟨hXs, hEC⟩ (hEC.rcv hK) hl.1 ⟨Nat.le_of_ble_eq_true rfl, Nat.le_of_ble_eq_true rfl⟩ rfl (Nat.le_of_ble_eq_true rfl) dL_law_332 ⟨(by omega), (by omega)⟩) hS hXA (fun E9 ce9 q9 H9 l9 hx hk9 hS9 h1 h2 h3 => (lw_no (T_R hW hrM) hx (by decide)).elim) (fun H locs hp hzs hk1 hS => ?_)
  obtain ⟨-, hEC⟩ := hp
  have I := I.to F hS hzs hk1 hEC
  obtain ⟨hS, hXs, hEC, h5, z5, z6⟩ := id I
  refine ec_topi (y := (M.2.1 0 r + nI (dif (M.1 0 r) (cdN (nI c3) (nI d3) o)))) (by rw [hcr]; exact gv_c M r (cdN (nI c3) (nI d3) o)) ?_
  refine lv_iload hC.1 hC.2.1 dL_law_335 (lv_at hl 20 rfl) ?_
  refine lv_iload hC.1 hC.2.1 dL_law_337 (lv_at hl 0 rfl) ?_
  refine lv_iadd hC.1 hC.2.1 dL_law_339 ?_
  refine lv_icmp_ne (tgt := 391) hC.1 hC.2.1 dL_law_340 (by decide) (fun c => absurd rfl c) (fun c_340 => ?_)
  refine lv_aload_n hC.1 hC.2.1 dL_law_343 rfl (lv_at hl 2 rfl) ?_
  refine lv_iload hC.1 hC.2.1 dL_law_344 (lv_at hl 17 rfl) ?_
  refine ec_goXE1 (ec_xV hC (c_X5_curtains l hls G X (gvM M r (cdN (nI c3) (nI d3) o)) x (nI r)) kL_132 (hOk.at hS hAN9) ⟨hXs, hEC⟩ (hEC.rcv hK) hl.1 ⟨Nat.le_of_ble_eq_true rfl, Nat.le_of_ble_eq_true rfl⟩ rfl (Nat.le_of_ble_eq_true rfl) dL_law_346 ⟨(by omega), (by omega)⟩) hS hXA (fun E9 ce9 q9 H9 l9 hx hk9 hS9 h1 h2 h3 => (lw_no (T_R hW hrM) hx (by decide)).elim) (fun H locs hp hzs hk1 hS => ?_)
  obtain ⟨-, hEC⟩ := hp
  have I := I.to F hS hzs hk1 hEC
  obtain ⟨hS, hXs, hEC, h5, z5, z6⟩ := id I
  refine ec_topi (y := (nI c3)) (by rw [hcr, gv_s, cd_c hc3 hd3]) ?_
  refine lv_iload hC.1 hC.2.1 dL_law_349 (lv_at hl 18 rfl) ?_
  refine lv_icmp_ne (tgt := 391) hC.1 hC.2.1 dL_law_351 (by decide) (fun c => absurd rfl c) (fun c_351 => ?_)
  refine lv_aload_n hC.1 hC.2.1 dL_law_354 rfl (lv_at hl 2 rfl) ?_
  refine lv_iload hC.1 hC.2.1 dL_law_355 (lv_at hl 17 rfl) ?_
  refine ec_goXE1 (ec_xV hC (c_X5_seats l hls G X (gvM M r (cdN (nI c3) (nI d3) o)) x (nI r)) kL_135 (hOk.at hS hAN9) ⟨hXs, hEC⟩ (hEC.rcv hK) hl.1 ⟨Nat.le_of_ble_eq_true rfl, Nat.le_of_ble_eq_true rfl⟩ rfl (Nat.le_of_ble_eq_true rfl) dL_law_357 ⟨(by omega), (by omega)⟩) hS hXA (fun E9 ce9 q9 H9 l9 hx hk9 hS9 h1 h2 h3 => (lw_no (T_R hW hrM) hx (by decide)).elim) (fun H locs hp hzs hk1 hS => ?_)
  obtain ⟨-, hEC⟩ := hp
  have I := I.to F hS hzs hk1 hEC
  obtain ⟨hS, hXs, hEC, h5, z5, z6⟩ := id I
  refine ec_topi (y := (nI d3)) (by rw [hcr, gv_s, cd_d hc3 hd3]) ?_
  refine lv_iload hC.1 hC.2.1 dL_law_360 (lv_at hl 19 rfl) ?_
  refine lv_icmp_ne (tgt := 391) hC.1 hC.2.1 dL_law_362 (by decide) (fun c => absurd rfl c) (fun c_362 => ?_)
  refine lv_aload_n hC.1 hC.2.1 dL_law_365 rfl (lv_at hl 2 rfl) ?_
  refine lv_iload hC.1 hC.2.1 dL_law_366 (lv_at hl 17 rfl) ?_
  refine ec_goXE1 (ec_xV hC (c_X5_areOpen l hls G X (gvM M r (cdN (nI c3) (nI d3) o)) x (nI r)) kL_156 (hOk.at hS hAN9) ⟨hXs, hEC⟩ (hEC.rcv hK) hl.1 ⟨Nat.le_of_ble_eq_true rfl, Nat.le_of_ble_eq_true rfl⟩ rfl (Nat.le_of_ble_eq_true rfl) dL_law_368 ⟨(by omega), (by omega)⟩) hS hXA (fun E9 ce9 q9 H9 l9 hx hk9 hS9 h1 h2 h3 => (lw_no (T_R hW hrM) hx (by decide)).elim) (fun H locs hp hzs hk1 hS => ?_)
  obtain ⟨-, hEC⟩ := hp
  have I := I.to F hS hzs hk1 hEC
  obtain ⟨hS, hXs, hEC, h5, z5, z6⟩ := id I
  refine ec_topi (y := (bI o)) (by rw [hcr, gv_s, cd_o hc3 hd3, nI_b]) ?_
  refine lv_iload hC.1 hC.2.1 dL_law_371 (lv_at hl 21 rfl) ?_
  refine lv_icmp_ne (tgt := 391) hC.1 hC.2.1 dL_law_373 (by decide) (fun c => absurd rfl c) (fun c_373 => ?_)
  refine lv_aload_n hC.1 hC.2.1 dL_law_376 rfl (lv_at hl 2 rfl) ?_
  refine lv_iload hC.1 hC.2.1 dL_law_377 (lv_at hl 17 rfl) ?_
  refine lv_iload hC.1 hC.2.1 dL_law_379 (lv_at hl 18 rfl) ?_
  refine lv_iload hC.1 hC.2.1 dL_law_381 (lv_at hl 19 rfl) ?_
  refine lv_iload hC.1 hC.2.1 dL_law_383 (lv_at hl 21 rfl) ?_
  have hT9 := T_Set hW hrM hc3 hd3
  refine ec_goXE1 (ec_xSH hC (c_L_setState l hls G X (gvM M r (cdN (nI c3) (nI d3) o)) x (nI r) (nI c3) (nI d3) o) kL_159 (hOk.at hS hAN9) ⟨hXs, hEC⟩ hl.1 ⟨Nat.le_of_ble_eq_true rfl, Nat.le_of_ble_eq_true rfl⟩ rfl (Nat.le_of_ble_eq_true rfl) dL_law_385 ⟨(by omega), (by omega)⟩) hS hXA (fun _ _ _ _ _ hx9 => hx9.elim) (fun H locs hEC hzs hk1 hS => ?_)
  rw [if_pos hT9] at hEC
  rw [hcr] at hEC
  have I := I.to F hS hzs hk1 hEC
  have hAR := hAR.gv r (cdN (nI c3) (nI d3) o)
  obtain ⟨hS, hXs, hEC, h5, z5, z6⟩ := id I
  have hP := hP.gv (r := r) (k := (cdN (nI c3) (nI d3) o)) (by omega)
  have hW := hEC.wf
  have hn0 := hW.n
  refine ec_topi (y := 0) (by rw [hT9, hv_0, hcr, gv_s, dif_self]; rfl) ?_
  refine lv_if_eq (tgt := 1185) hC.1 hC.2.1 dL_law_388 (by decide) (fun _ => ?_) (fun c => absurd (by decide) c)
  refine W.widen (k := cells + 1900) (n := slots + 19900) (by omega) (by omega) ?_
  exact kk H locs (gvM (gvM M r (cdN (nI c3) (nI d3) o)) r (cdN (nI c3) (nI d3) o)) g ls I hAR (hP.mono (by omega) (by omega) (by omega) (by omega)) (hR) ⟨hl.1, hl.2.1, (ec_lvc (lv_at hl 1 rfl) (ec_lvc (lv_at hl 2 rfl) (ec_lvc (lv_at hl 3 rfl) (ec_lvc (lv_at hl 4 rfl) (ec_lvc (lv_at hl 5 rfl) (ec_lvc (lv_at hl 6 rfl) (ec_lvc (lv_at hl 7 rfl) (ec_lvc (lv_at hl 8 rfl) (ec_lvc (lv_at hl 9 rfl) (ec_lvc (lv_at hl 10 rfl) (ec_lvc (lv_at hl 11 rfl) (ec_lvc (lv_at hl 12 rfl) (ec_lvc (lv_at hl 13 rfl) (ec_lvc (lv_at hl 14 rfl) ec_lvn))))))))))))))⟩

set_option maxHeartbeats 4000000 in
set_option maxRecDepth 100000 in
/-- measure -/
theorem lw_mes {p : Program} {l : Launch} {e : Env} {s : State} {m : MethodId} {below : List Frame} {meth : Method} {c : Code} {G : ecG} {X : Nat → Prop} {b L x R0 t : Nat} {xs : Nat → Int32} {ar : Nat → Nat} {H : Heap} {locs : List Loc} {M : ecM} {g : Nat → Nat → Int32} {ls : Array Slot} {cells slots : Nat} {Q : State → Prop} {v u r c3 d3 : Nat} {o : Bool} (F : lwF p l s m c G X b L xs ar) (I : lwW s G X x ar H locs M g) (hAR : AR M g) (hP : PI (5 * t) (300 * t) t (20 * t) M) (hR : mnR M = R0) (hR0 : R0 ≤ 3 ∧ 0 < R0) (ht : t < 28) (hv9 : v < 50000) (hu : u < 9000) (hr : r < R0) (hc3 : c3 < 3) (hd3 : d3 < 3) (hl : lv_has ls 28 [(0, .ref b), (1, .ref x), (2, .int (nI R0)), (3, .int (nI (mnF M))), (4, .int (mlm M)), (5, .int (nI (mnB M))), (6, .ref (ar 0)), (7, .ref (ar 1)), (8, .ref (ar 2)), (9, .ref (ar 3)), (10, .ref (ar 4)), (11, .ref (ar 5)), (12, .ref (ar 6)), (13, .int (nI t)), (14, .int (nI v)), (15, .int (nI u)), (16, .int (nI r)), (17, .int (nI c3)), (18, .int (nI d3)), (19, .int (M.2.1 0 r)), (20, .int (bI o))]) (hc : cells + 1900 ≤ room_1.cells) (hs : slots + 19900 ≤ room_1.slots) (kk : ∀ (H : Heap) (locs : List Loc) (M2 : ecM) (g2 : Nat → Nat → Int32) (ls : Array Slot), lwW s G X x ar H locs M2 g2 → AR M2 g2 → PI (5 * t + 5) (300 * t + 300) (t + 1) (20 * t + 20) M2 → mnR M2 = R0 → lv_has ls 28 [(0, .ref b), (1, .ref x), (2, .int (nI R0)), (3, .int (nI (mnF M2))), (4, .int (mlm M2)), (5, .int (nI (mnB M2))), (6, .ref (ar 0)), (7, .ref (ar 1)), (8, .ref (ar 2)), (9, .ref (ar 3)), (10, .ref (ar 4)), (11, .ref (ar 5)), (12, .ref (ar 6)), (13, .int (nI t))] → W p l e room_1 s m #[Value.ref b] below meth c H locs (cells + 1900) (slots + 19900) Q (F0 m 1185 ls [])) : W p l e room_1 s m #[Value.ref b] below meth c H locs cells slots Q (F0 m 393 ls []) := by
  obtain ⟨hC, hls, hOk, hX, hbl, hL, hAN, hXA, hrA, hrD⟩ := id F
  have hK := hOk.1
  obtain ⟨hS, hXs, hEC, h5, z5, z6⟩ := id I
  have hW := hEC.wf
  have hn0 := hW.n
  have hAN9 : ∀ q, (fun q : Nat => s.heap.size ≤ q) q → ecN0 G ≤ q := hAN
  have hrM : r < mnR M := by omega
  have hcr : cN (nI r) = r := cN_nI (by omega)
  have hk80 := hW.rs r
  have hpm := pm_1 ((u / 3) % 2) (by omega)
  have hcA : cN (nI (mnA M)) = mnA M := cN_nI (by omega)
  refine lv_aload_n hC.1 hC.2.1 dL_law_393 rfl (lv_at hl 1 rfl) ?_
  refine ec_go1 (ec_rV hC (c_X5_answers l G X M x) kL_111 (hOk.at hS hAN9) hEC (hEC.rcv hK) hl.1 ⟨Nat.le_of_ble_eq_true rfl, Nat.le_of_ble_eq_true rfl⟩ rfl (Nat.le_of_ble_eq_true rfl) dL_law_394 ⟨(by omega), (by omega)⟩) ?_
  refine lv_istore (lv' := [(21, .int (nI (mnA M))), (0, .ref b), (1, .ref x), (2, .int (nI R0)), (3, .int (nI (mnF M))), (4, .int (mlm M)), (5, .int (nI (mnB M))), (6, .ref (ar 0)), (7, .ref (ar 1)), (8, .ref (ar 2)), (9, .ref (ar 3)), (10, .ref (ar 4)), (11, .ref (ar 5)), (12, .ref (ar 6)), (13, .int (nI t)), (14, .int (nI v)), (15, .int (nI u)), (16, .int (nI r)), (17, .int (nI c3)), (18, .int (nI d3)), (19, .int (M.2.1 0 r)), (20, .int (bI o))]) hC.1 hC.2.1 dL_law_397 hl (by decide) rfl (fun ls hl => ?_)
  refine lv_aload_n hC.1 hC.2.1 dL_law_399 rfl (lv_at hl 2 rfl) ?_
  refine lv_iload hC.1 hC.2.1 dL_law_400 (lv_at hl 17 rfl) ?_
  refine lv_iload hC.1 hC.2.1 dL_law_402 (lv_at hl 16 rfl) ?_
  refine lv_iconst (v := 3) hC.1 hC.2.1 dL_law_404 (by decide) ?_
  refine lw_rem hC (k := u) (n := 3) rfl rfl (by omega) (by omega) (by omega) dL_law_405 ?_
  refine lv_iload hC.1 hC.2.1 dL_law_406 (lv_at hl 16 rfl) ?_
  refine lv_iconst (v := 3) hC.1 hC.2.1 dL_law_408 (by decide) ?_
  refine lw_div hC (k := u) (n := 3) rfl rfl (by omega) (by omega) (by omega) dL_law_409 ?_
  refine lv_iconst (v := 2) hC.1 hC.2.1 dL_law_410 (by decide) ?_
  refine lw_rem hC (k := (u / 3)) (n := 2) rfl rfl (by omega) (by omega) (by omega) dL_law_411 ?_
  refine lv_iconst (v := 2) hC.1 hC.2.1 dL_law_412 (by decide) ?_
  refine lw_mul hC (k := ((u / 3) % 2)) (n := 2) rfl rfl  dL_law_413 ?_
  refine lv_iconst (v := 1) hC.1 hC.2.1 dL_law_414 (by decide) ?_
  refine lv_isub hC.1 hC.2.1 dL_law_415 ?_
  refine lv_iload hC.1 hC.2.1 dL_law_416 (lv_at hl 15 rfl) ?_
  refine lv_bipush (v := 19) hC.1 hC.2.1 dL_law_418 (by decide) ?_
  refine lw_rem hC (k := v) (n := 19) rfl rfl (by omega) (by omega) (by omega) dL_law_420 ?_
  refine lv_bipush (v := 9) hC.1 hC.2.1 dL_law_421 (by decide) ?_
  refine lv_isub hC.1 hC.2.1 dL_law_423 ?_
  refine lv_iload hC.1 hC.2.1 dL_law_424 (lv_at hl 15 rfl) ?_
  refine lv_bipush (v := 19) hC.1 hC.2.1 dL_law_426 (by decide) ?_
  refine lw_div hC (k := v) (n := 19) rfl rfl (by omega) (by omega) (by omega) dL_law_428 ?_
  refine lv_bipush (v := 19) hC.1 hC.2.1 dL_law_429 (by decide) ?_
  refine lw_rem hC (k := (v / 19)) (n := 19) rfl rfl (by omega) (by omega) (by omega) dL_law_431 ?_
  refine lv_bipush (v := 9) hC.1 hC.2.1 dL_law_432 (by decide) ?_
  refine lv_isub hC.1 hC.2.1 dL_law_434 ?_
  refine lv_iload hC.1 hC.2.1 dL_law_435 (lv_at hl 15 rfl) ?_
  refine lv_sipush (v := 361) hC.1 hC.2.1 dL_law_437 (by decide) ?_
  refine lw_div hC (k := v) (n := 361) rfl rfl (by omega) (by omega) (by omega) dL_law_440 ?_
  refine lv_bipush (v := 19) hC.1 hC.2.1 dL_law_441 (by decide) ?_
  refine lw_rem hC (k := (v / 361)) (n := 19) rfl rfl (by omega) (by omega) (by omega) dL_law_443 ?_
  refine lv_bipush (v := 9) hC.1 hC.2.1 dL_law_444 (by decide) ?_
  refine lv_isub hC.1 hC.2.1 dL_law_446 ?_
  have hT9 := T_Mes hW hrM (show u % 3 < 3 by omega) hpm (show v % 19 < 19 by omega) (show (v / 19) % 19 < 19 by omega) (show (v / 361) % 19 < 19 by omega) (by have := hP.2.2.1; omega)
  refine ec_goXE1 (ec_xSH hC (c_L_measure l hls G X M x (nI r) (nI (u % 3)) (nI ((u / 3) % 2 * 2) - 1) (nI (v % 19) - 9) (nI ((v / 19) % 19) - 9) (nI ((v / 361) % 19) - 9)) kL_162 (hOk.at hS hAN9) ⟨hXs, hEC⟩ hl.1 ⟨Nat.le_of_ble_eq_true rfl, Nat.le_of_ble_eq_true rfl⟩ rfl (Nat.le_of_ble_eq_true rfl) dL_law_447 ⟨(by omega), (by omega)⟩) hS hXA (fun _ _ _ _ _ hx9 => hx9.elim) (fun H locs hEC hzs hk1 hS => ?_)
  rw [if_pos hT9] at hEC
  rw [hcr] at hEC
  have I := I.to F hS hzs hk1 hEC
  have hAR := (show AR (mesM M r (nI (u % 3)) (nI ((u / 3) % 2 * 2) - 1) (nI (v % 19) - 9) (nI ((v / 19) % 19) - 9) (nI ((v / 361) % 19) - 9)) g from hAR.to rfl rfl rfl rfl rfl rfl)
  obtain ⟨hS, hXs, hEC, h5, z5, z6⟩ := id I
  have hP := hP.mes (r := r) (pl := nI (u % 3)) (b := nI (v % 19) - 9) (c2 := nI ((v / 19) % 19) - 9) (d := nI ((v / 361) % 19) - 9) hW hpm
  have hW := hEC.wf
  have hn0 := hW.n
  have hrM : r < mnR (mesM M r (nI (u % 3)) (nI ((u / 3) % 2 * 2) - 1) (nI (v % 19) - 9) (nI ((v / 19) % 19) - 9) (nI ((v / 361) % 19) - 9)) := hrM
  have hA1 : mnA M < mnA (mesM M r (nI (u % 3)) (nI ((u / 3) % 2 * 2) - 1) (nI (v % 19) - 9) (nI ((v / 19) % 19) - 9) (nI ((v / 361) % 19) - 9)) := Nat.lt_succ_self _
  refine ec_topi (y := (nI (mnA M))) (by rw [hT9, hv_0]) ?_
  refine lv_istore (lv' := [(22, .int (nI (mnA M))), (21, .int (nI (mnA M))), (0, .ref b), (1, .ref x), (2, .int (nI R0)), (3, .int (nI (mnF M))), (4, .int (mlm M)), (5, .int (nI (mnB M))), (6, .ref (ar 0)), (7, .ref (ar 1)), (8, .ref (ar 2)), (9, .ref (ar 3)), (10, .ref (ar 4)), (11, .ref (ar 5)), (12, .ref (ar 6)), (13, .int (nI t)), (14, .int (nI v)), (15, .int (nI u)), (16, .int (nI r)), (17, .int (nI c3)), (18, .int (nI d3)), (19, .int (M.2.1 0 r)), (20, .int (bI o))]) hC.1 hC.2.1 dL_law_450 hl (by decide) rfl (fun ls hl => ?_)
  refine lv_iload hC.1 hC.2.1 dL_law_452 (lv_at hl 0 rfl) ?_
  refine lv_iload hC.1 hC.2.1 dL_law_454 (lv_at hl 1 rfl) ?_
  refine lv_icmp_ne (tgt := 501) hC.1 hC.2.1 dL_law_456 (by decide) (fun c => absurd rfl c) (fun c_456 => ?_)
  refine lv_aload_n hC.1 hC.2.1 dL_law_459 rfl (lv_at hl 3 rfl) ?_
  refine lv_iload hC.1 hC.2.1 dL_law_460 (lv_at hl 0 rfl) ?_
  refine ec_goXE1 (ec_xV hC (c_X5_age l hls G X (mesM M r (nI (u % 3)) (nI ((u / 3) % 2 * 2) - 1) (nI (v % 19) - 9) (nI ((v / 19) % 19) - 9) (nI ((v / 361) % 19) - 9)) x (nI (mnA M))) kL_47 (hOk.at hS hAN9) ⟨hXs, hEC⟩ (hEC.rcv hK) hl.1 ⟨Nat.le_of_ble_eq_true rfl, Nat.le_of_ble_eq_true rfl⟩ rfl (Nat.le_of_ble_eq_true rfl) dL_law_462 ⟨(by omega), (by omega)⟩) hS hXA (fun E9 ce9 q9 H9 l9 hx hk9 hS9 h1 h2 h3 => (lw_no (T_A hW hA1) hx (by decide)).elim) (fun H locs hp hzs hk1 hS => ?_)
  obtain ⟨-, hEC⟩ := hp
  have I := I.to F hS hzs hk1 hEC
  obtain ⟨hS, hXs, hEC, h5, z5, z6⟩ := id I
  refine ec_topi (y := 0) (by rw [hcA]; exact age_mes M r _ _ _ _ _) ?_
  refine lv_if_ne (tgt := 501) hC.1 hC.2.1 dL_law_465 (by decide) (fun c => absurd rfl c) (fun _ => ?_)
  refine lv_aload_n hC.1 hC.2.1 dL_law_468 rfl (lv_at hl 3 rfl) ?_
  refine lv_iload hC.1 hC.2.1 dL_law_469 (lv_at hl 18 rfl) ?_
  refine lv_iload hC.1 hC.2.1 dL_law_471 (lv_at hl 17 rfl) ?_
  refine lv_iconst (v := 3) hC.1 hC.2.1 dL_law_473 (by decide) ?_
  refine lw_rem hC (k := u) (n := 3) rfl rfl (by omega) (by omega) (by omega) dL_law_474 ?_
  refine lv_aload_n hC.1 hC.2.1 dL_law_475 rfl (lv_at hl 3 rfl) ?_
  refine lv_iload hC.1 hC.2.1 dL_law_476 (lv_at hl 18 rfl) ?_
  refine ec_goXE1 (ec_xV hC (c_X5_curtains l hls G X (mesM M r (nI (u % 3)) (nI ((u / 3) % 2 * 2) - 1) (nI (v % 19) - 9) (nI ((v / 19) % 19) - 9) (nI ((v / 361) % 19) - 9)) x (nI r)) kL_132 (hOk.at hS hAN9) ⟨hXs, hEC⟩ (hEC.rcv hK) hl.1 ⟨Nat.le_of_ble_eq_true rfl, Nat.le_of_ble_eq_true rfl⟩ rfl (Nat.le_of_ble_eq_true rfl) dL_law_478 ⟨(by omega), (by omega)⟩) hS hXA (fun E9 ce9 q9 H9 l9 hx hk9 hS9 h1 h2 h3 => (lw_no (T_R hW hrM) hx (by decide)).elim) (fun H locs hp hzs hk1 hS => ?_)
  obtain ⟨-, hEC⟩ := hp
  have I := I.to F hS hzs hk1 hEC
  obtain ⟨hS, hXs, hEC, h5, z5, z6⟩ := id I
  refine ec_topi (y := (nI (M.1 0 r / 20))) (by rw [hcr]; rfl) ?_
  refine lv_aload_n hC.1 hC.2.1 dL_law_481 rfl (lv_at hl 3 rfl) ?_
  refine lv_iload hC.1 hC.2.1 dL_law_482 (lv_at hl 18 rfl) ?_
  refine ec_goXE1 (ec_xV hC (c_X5_seats l hls G X (mesM M r (nI (u % 3)) (nI ((u / 3) % 2 * 2) - 1) (nI (v % 19) - 9) (nI ((v / 19) % 19) - 9) (nI ((v / 361) % 19) - 9)) x (nI r)) kL_135 (hOk.at hS hAN9) ⟨hXs, hEC⟩ (hEC.rcv hK) hl.1 ⟨Nat.le_of_ble_eq_true rfl, Nat.le_of_ble_eq_true rfl⟩ rfl (Nat.le_of_ble_eq_true rfl) dL_law_484 ⟨(by omega), (by omega)⟩) hS hXA (fun E9 ce9 q9 H9 l9 hx hk9 hS9 h1 h2 h3 => (lw_no (T_R hW hrM) hx (by decide)).elim) (fun H locs hp hzs hk1 hS => ?_)
  obtain ⟨-, hEC⟩ := hp
  have I := I.to F hS hzs hk1 hEC
  obtain ⟨hS, hXs, hEC, h5, z5, z6⟩ := id I
  refine ec_topi (y := (nI (M.1 0 r % 20 / 2))) (by rw [hcr]; rfl) ?_
  refine lv_aload_n hC.1 hC.2.1 dL_law_487 rfl (lv_at hl 3 rfl) ?_
  refine lv_iload hC.1 hC.2.1 dL_law_488 (lv_at hl 18 rfl) ?_
  refine ec_goXE1 (ec_xV hC (c_X5_areOpen l hls G X (mesM M r (nI (u % 3)) (nI ((u / 3) % 2 * 2) - 1) (nI (v % 19) - 9) (nI ((v / 19) % 19) - 9) (nI ((v / 361) % 19) - 9)) x (nI r)) kL_156 (hOk.at hS hAN9) ⟨hXs, hEC⟩ (hEC.rcv hK) hl.1 ⟨Nat.le_of_ble_eq_true rfl, Nat.le_of_ble_eq_true rfl⟩ rfl (Nat.le_of_ble_eq_true rfl) dL_law_490 ⟨(by omega), (by omega)⟩) hS hXA (fun E9 ce9 q9 H9 l9 hx hk9 hS9 h1 h2 h3 => (lw_no (T_R hW hrM) hx (by decide)).elim) (fun H locs hp hzs hk1 hS => ?_)
  obtain ⟨-, hEC⟩ := hp
  have I := I.to F hS hzs hk1 hEC
  obtain ⟨hS, hXs, hEC, h5, z5, z6⟩ := id I
  refine ec_topi (y := (bI (decide (M.1 0 r % 2 = 1)))) (by rw [hcr]; exact n2_b (M.1 0 r)) ?_
  have hT9 := T_Lat (k := M.1 0 r) hW hrM (show u % 3 < 3 by omega) hk80 (lat_mes M r (nI (u % 3)) (nI ((u / 3) % 2 * 2) - 1) (nI (v % 19) - 9) (nI ((v / 19) % 19) - 9) (nI ((v / 361) % 19) - 9))
  refine ec_goXE1 (ec_xSH hC (c_L_latest l hls G X (mesM M r (nI (u % 3)) (nI ((u / 3) % 2 * 2) - 1) (nI (v % 19) - 9) (nI ((v / 19) % 19) - 9) (nI ((v / 361) % 19) - 9)) x (nI r) (nI (u % 3)) (nI (M.1 0 r / 20)) (nI (M.1 0 r % 20 / 2)) (decide (M.1 0 r % 2 = 1))) kL_165 (hOk.at hS hAN9) ⟨hXs, hEC⟩ hl.1 ⟨Nat.le_of_ble_eq_true rfl, Nat.le_of_ble_eq_true rfl⟩ rfl (Nat.le_of_ble_eq_true rfl) dL_law_493 ⟨(by omega), (by omega)⟩) hS hXA (fun _ _ _ _ _ hx9 => hx9.elim) (fun H locs hEC hzs hk1 hS => ?_)
  rw [ite_self] at hEC
  have I := I.to F hS hzs hk1 hEC
  obtain ⟨hS, hXs, hEC, h5, z5, z6⟩ := id I
  refine ec_topi (y := (nI (mnA M))) (by rw [hT9, hv_0, hcr, cd_of _ hk80, show latN (mesM M r (nI (u % 3)) (nI ((u / 3) % 2 * 2) - 1) (nI (v % 19) - 9) (nI ((v / 19) % 19) - 9) (nI ((v / 361) % 19) - 9)) r (nI (u % 3)) (M.1 0 r) (mnA (mesM M r (nI (u % 3)) (nI ((u / 3) % 2 * 2) - 1) (nI (v % 19) - 9) (nI ((v / 19) % 19) - 9) (nI ((v / 361) % 19) - 9))) = some (mnA M) from lat_mes M r (nI (u % 3)) (nI ((u / 3) % 2 * 2) - 1) (nI (v % 19) - 9) (nI ((v / 19) % 19) - 9) (nI ((v / 361) % 19) - 9)]; rfl) ?_
  refine lv_iload hC.1 hC.2.1 dL_law_496 (lv_at hl 0 rfl) ?_
  refine lv_icmp_eq (tgt := 1185) hC.1 hC.2.1 dL_law_498 (by decide) (fun c_498 => ?_) (fun c => absurd rfl c)
  refine W.widen (k := cells + 1900) (n := slots + 19900) (by omega) (by omega) ?_
  exact kk H locs (mesM M r (nI (u % 3)) (nI ((u / 3) % 2 * 2) - 1) (nI (v % 19) - 9) (nI ((v / 19) % 19) - 9) (nI ((v / 361) % 19) - 9)) g ls I hAR (hP.mono (by omega) (by omega) (by omega) (by omega)) (hR) ⟨hl.1, hl.2.1, (ec_lvc (lv_at hl 2 rfl) (ec_lvc (lv_at hl 3 rfl) (ec_lvc (lv_at hl 4 rfl) (ec_lvc (lv_at hl 5 rfl) (ec_lvc (lv_at hl 6 rfl) (ec_lvc (lv_at hl 7 rfl) (ec_lvc (lv_at hl 8 rfl) (ec_lvc (lv_at hl 9 rfl) (ec_lvc (lv_at hl 10 rfl) (ec_lvc (lv_at hl 11 rfl) (ec_lvc (lv_at hl 12 rfl) (ec_lvc (lv_at hl 13 rfl) (ec_lvc (lv_at hl 14 rfl) (ec_lvc (lv_at hl 15 rfl) ec_lvn))))))))))))))⟩

set_option maxHeartbeats 4000000 in
set_option maxRecDepth 100000 in
/-- makeFilter -/
theorem lw_mak {p : Program} {l : Launch} {e : Env} {s : State} {m : MethodId} {below : List Frame} {meth : Method} {c : Code} {G : ecG} {X : Nat → Prop} {b L x R0 t : Nat} {xs : Nat → Int32} {ar : Nat → Nat} {H : Heap} {locs : List Loc} {M : ecM} {g : Nat → Nat → Int32} {ls : Array Slot} {cells slots : Nat} {Q : State → Prop} {v u r c3 d3 : Nat} {o : Bool} (F : lwF p l s m c G X b L xs ar) (I : lwW s G X x ar H locs M g) (hAR : AR M g) (hP : PI (5 * t) (300 * t) t (20 * t) M) (hR : mnR M = R0) (hR0 : R0 ≤ 3 ∧ 0 < R0) (ht : t < 28) (hv9 : v < 50000) (hu : u < 9000) (hr : r < R0) (hc3 : c3 < 3) (hd3 : d3 < 3) (hl : lv_has ls 28 [(0, .ref b), (1, .ref x), (2, .int (nI R0)), (3, .int (nI (mnF M))), (4, .int (mlm M)), (5, .int (nI (mnB M))), (6, .ref (ar 0)), (7, .ref (ar 1)), (8, .ref (ar 2)), (9, .ref (ar 3)), (10, .ref (ar 4)), (11, .ref (ar 5)), (12, .ref (ar 6)), (13, .int (nI t)), (14, .int (nI v)), (15, .int (nI u)), (16, .int (nI r)), (17, .int (nI c3)), (18, .int (nI d3)), (19, .int (M.2.1 0 r)), (20, .int (bI o))]) (hc : cells + 1900 ≤ room_1.cells) (hs : slots + 19900 ≤ room_1.slots) (kk : ∀ (H : Heap) (locs : List Loc) (M2 : ecM) (g2 : Nat → Nat → Int32) (ls : Array Slot), lwW s G X x ar H locs M2 g2 → AR M2 g2 → PI (5 * t + 5) (300 * t + 300) (t + 1) (20 * t + 20) M2 → mnR M2 = R0 → lv_has ls 28 [(0, .ref b), (1, .ref x), (2, .int (nI R0)), (3, .int (nI (mnF M2))), (4, .int (mlm M2)), (5, .int (nI (mnB M2))), (6, .ref (ar 0)), (7, .ref (ar 1)), (8, .ref (ar 2)), (9, .ref (ar 3)), (10, .ref (ar 4)), (11, .ref (ar 5)), (12, .ref (ar 6)), (13, .int (nI t))] → W p l e room_1 s m #[Value.ref b] below meth c H locs (cells + 1900) (slots + 19900) Q (F0 m 1185 ls [])) : W p l e room_1 s m #[Value.ref b] below meth c H locs cells slots Q (F0 m 503 ls []) := by
  obtain ⟨hC, hls, hOk, hX, hbl, hL, hAN, hXA, hrA, hrD⟩ := id F
  have hK := hOk.1
  obtain ⟨hS, hXs, hEC, h5, z5, z6⟩ := id I
  have hW := hEC.wf
  have hn0 := hW.n
  have hAN9 : ∀ q, (fun q : Nat => s.heap.size ≤ q) q → ecN0 G ≤ q := hAN
  have hrM : r < mnR M := by omega
  have hcr : cN (nI r) = r := cN_nI (by omega)
  have hk80 := hW.rs r
  refine lv_aload_n hC.1 hC.2.1 dL_law_503 rfl (lv_at hl 1 rfl) ?_
  refine ec_go1 (ec_rV hC (c_X5_answers l G X M x) kL_111 (hOk.at hS hAN9) hEC (hEC.rcv hK) hl.1 ⟨Nat.le_of_ble_eq_true rfl, Nat.le_of_ble_eq_true rfl⟩ rfl (Nat.le_of_ble_eq_true rfl) dL_law_504 ⟨(by omega), (by omega)⟩) ?_
  refine lv_if_ne (tgt := 513) hC.1 hC.2.1 dL_law_507 (by decide) (fun c_507 => ?_) (fun c_507 => ?_)
  · have hA0 : 0 < mnA M := Nat.pos_of_ne_zero (fun z => c_507 (by rw [z]; rfl))
    refine lv_aload_n hC.1 hC.2.1 dL_law_513 rfl (lv_at hl 1 rfl) ?_
    refine lv_iload hC.1 hC.2.1 dL_law_514 (lv_at hl 15 rfl) ?_
    refine lv_aload_n hC.1 hC.2.1 dL_law_516 rfl (lv_at hl 1 rfl) ?_
    refine ec_go1 (ec_rV hC (c_X5_answers l G X M x) kL_111 (hOk.at hS hAN9) hEC (hEC.rcv hK) hl.1 ⟨Nat.le_of_ble_eq_true rfl, Nat.le_of_ble_eq_true rfl⟩ rfl (Nat.le_of_ble_eq_true rfl) dL_law_517 ⟨(by omega), (by omega)⟩) ?_
    refine lw_rem hC (k := u) (n := (mnA M)) rfl rfl (by omega) (by omega) (by omega) dL_law_520 ?_
    have hum : u % mnA M < mnA M := Nat.mod_lt _ hA0
    have hcu : cN (nI (u % mnA M)) = u % mnA M := cN_nI (by omega)
    by_cases h20 : mnF M = 20
    · have hF20 : nI (mnF M) = 20 := by rw [h20]; rfl
      have hT9 := (T_Mak hW hum).trans (if_pos h20)
      refine ec_goXE1 (ec_xSH hC (c_L_makeFilter l hls G X M x (nI (u % mnA M))) kL_168 (hOk.at hS hAN9) ⟨hXs, hEC⟩ hl.1 ⟨Nat.le_of_ble_eq_true rfl, Nat.le_of_ble_eq_true rfl⟩ rfl (Nat.le_of_ble_eq_true rfl) dL_law_521 ⟨(by omega), (by omega)⟩) hS hXA (fun _ _ _ _ _ hx9 => hx9.elim) (fun H locs hEC hzs hk1 hS => ?_)
      rw [if_neg (by rw [hT9]; decide)] at hEC
      have I := I.to F hS hzs hk1 hEC
      obtain ⟨hS, hXs, hEC, h5, z5, z6⟩ := id I
      refine ec_topi (y := (-1000000)) (by rw [hT9]; rfl) ?_
      refine lv_istore (lv' := [(21, .int (-1000000)), (0, .ref b), (1, .ref x), (2, .int (nI R0)), (3, .int (nI (mnF M))), (4, .int (mlm M)), (5, .int (nI (mnB M))), (6, .ref (ar 0)), (7, .ref (ar 1)), (8, .ref (ar 2)), (9, .ref (ar 3)), (10, .ref (ar 4)), (11, .ref (ar 5)), (12, .ref (ar 6)), (13, .int (nI t)), (14, .int (nI v)), (15, .int (nI u)), (16, .int (nI r)), (17, .int (nI c3)), (18, .int (nI d3)), (19, .int (M.2.1 0 r)), (20, .int (bI o))]) hC.1 hC.2.1 dL_law_524 hl (by decide) rfl (fun ls hl => ?_)
      refine lv_iload hC.1 hC.2.1 dL_law_526 (lv_at hl 0 rfl) ?_
      refine lv_iload_n hC.1 hC.2.1 dL_law_528 rfl (lv_at hl 4 rfl) ?_
      refine lv_bipush (v := 20) hC.1 hC.2.1 dL_law_529 (by decide) ?_
      refine lv_icmp_ne (tgt := 539) hC.1 hC.2.1 dL_law_531 (by decide) (fun c => absurd hF20 c) (fun c_531 => ?_)
      refine lv_ldc hC.1 hC.2.1 hC.2.2.2.1 (hC.2.2.2.2 _ q362) dL_law_534 ?_
      refine lv_goto (tgt := 540) hC.1 hC.2.1 dL_law_536 (by decide) ?_
      refine lv_icmp_eq (tgt := 545) hC.1 hC.2.1 dL_law_540 (by decide) (fun _ => ?_) (fun c => absurd (by decide) c)
      refine lv_iload_n hC.1 hC.2.1 dL_law_545 rfl (lv_at hl 4 rfl) ?_
      refine lv_iload hC.1 hC.2.1 dL_law_546 (lv_at hl 0 rfl) ?_
      refine lv_if_lt (tgt := 555) hC.1 hC.2.1 dL_law_548 (by decide) (fun _ => ?_) (fun c => absurd (by decide) c)
      refine lv_iconst (v := 0) hC.1 hC.2.1 dL_law_555 (by decide) ?_
      refine lw_add hC (k := (mnF M)) (n := 0) rfl rfl  dL_law_556 ?_
      refine lv_istore_n (lv' := [(3, .int (nI ((mnF M) + 0))), (21, .int (-1000000)), (0, .ref b), (1, .ref x), (2, .int (nI R0)), (4, .int (mlm M)), (5, .int (nI (mnB M))), (6, .ref (ar 0)), (7, .ref (ar 1)), (8, .ref (ar 2)), (9, .ref (ar 3)), (10, .ref (ar 4)), (11, .ref (ar 5)), (12, .ref (ar 6)), (13, .int (nI t)), (14, .int (nI v)), (15, .int (nI u)), (16, .int (nI r)), (17, .int (nI c3)), (18, .int (nI d3)), (19, .int (M.2.1 0 r)), (20, .int (bI o))]) hC.1 hC.2.1 dL_law_557 rfl hl (by decide) rfl (fun ls hl => ?_)
      refine lv_goto (tgt := 1185) hC.1 hC.2.1 dL_law_558 (by decide) ?_
      refine W.widen (k := cells + 1900) (n := slots + 19900) (by omega) (by omega) ?_
      exact kk H locs M g ls I hAR (hP.mono (by omega) (by omega) (by omega) (by omega)) (hR) ⟨hl.1, hl.2.1, (ec_lvc (lv_at hl 2 rfl) (ec_lvc (lv_at hl 3 rfl) (ec_lvc (lv_at hl 4 rfl) (ec_lvc (lv_at hl 0 rfl) (ec_lvc (lv_at hl 5 rfl) (ec_lvc (lv_at hl 6 rfl) (ec_lvc (lv_at hl 7 rfl) (ec_lvc (lv_at hl 8 rfl) (ec_lvc (lv_at hl 9 rfl) (ec_lvc (lv_at hl 10 rfl) (ec_lvc (lv_at hl 11 rfl) (ec_lvc (lv_at hl 12 rfl) (ec_lvc (lv_at hl 13 rfl) (ec_lvc (lv_at hl 14 rfl) ec_lvn))))))))))))))⟩
    · have hF20 : ¬ nI (mnF M) = 20 := fun z => h20 ((nI_eq (b := 20) (by omega) (by decide)).mp z)
      have hT9 := (T_Mak hW hum).trans (if_neg h20)
      refine ec_goXE1 (ec_xSH hC (c_L_makeFilter l hls G X M x (nI (u % mnA M))) kL_168 (hOk.at hS hAN9) ⟨hXs, hEC⟩ hl.1 ⟨Nat.le_of_ble_eq_true rfl, Nat.le_of_ble_eq_true rfl⟩ rfl (Nat.le_of_ble_eq_true rfl) dL_law_521 ⟨(by omega), (by omega)⟩) hS hXA (fun _ _ _ _ _ hx9 => hx9.elim) (fun H locs hEC hzs hk1 hS => ?_)
      rw [if_pos hT9] at hEC
      rw [hcu] at hEC
      have I := I.to F hS hzs hk1 hEC
      have hAR := (show AR (filM M (u % mnA M)) g from hAR.to rfl rfl rfl rfl rfl rfl)
      obtain ⟨hS, hXs, hEC, h5, z5, z6⟩ := id I
      have hP := hP.fil (a9 := u % mnA M) hW
      have hW := hEC.wf
      have hn0 := hW.n
      refine ec_topi (y := (nI (mnF M))) (by rw [hT9, hv_0]) ?_
      refine lv_istore (lv' := [(21, .int (nI (mnF M))), (0, .ref b), (1, .ref x), (2, .int (nI R0)), (3, .int (nI (mnF M))), (4, .int (mlm M)), (5, .int (nI (mnB M))), (6, .ref (ar 0)), (7, .ref (ar 1)), (8, .ref (ar 2)), (9, .ref (ar 3)), (10, .ref (ar 4)), (11, .ref (ar 5)), (12, .ref (ar 6)), (13, .int (nI t)), (14, .int (nI v)), (15, .int (nI u)), (16, .int (nI r)), (17, .int (nI c3)), (18, .int (nI d3)), (19, .int (M.2.1 0 r)), (20, .int (bI o))]) hC.1 hC.2.1 dL_law_524 hl (by decide) rfl (fun ls hl => ?_)
      refine lv_iload hC.1 hC.2.1 dL_law_526 (lv_at hl 0 rfl) ?_
      refine lv_iload_n hC.1 hC.2.1 dL_law_528 rfl (lv_at hl 4 rfl) ?_
      refine lv_bipush (v := 20) hC.1 hC.2.1 dL_law_529 (by decide) ?_
      refine lv_icmp_ne (tgt := 539) hC.1 hC.2.1 dL_law_531 (by decide) (fun c_531 => ?_) (fun c => absurd c hF20)
      refine lv_iload_n hC.1 hC.2.1 dL_law_539 rfl (lv_at hl 4 rfl) ?_
      refine lv_icmp_eq (tgt := 545) hC.1 hC.2.1 dL_law_540 (by decide) (fun c_540 => ?_) (fun c => absurd rfl c)
      refine lv_iload_n hC.1 hC.2.1 dL_law_545 rfl (lv_at hl 4 rfl) ?_
      refine lv_iload hC.1 hC.2.1 dL_law_546 (lv_at hl 0 rfl) ?_
      refine lv_if_lt (tgt := 555) hC.1 hC.2.1 dL_law_548 (by decide) (fun c => absurd c (nI_pos (by omega))) (fun c_548 => ?_)
      refine lv_iconst (v := 1) hC.1 hC.2.1 dL_law_551 (by decide) ?_
      refine lv_goto (tgt := 556) hC.1 hC.2.1 dL_law_552 (by decide) ?_
      refine lw_add hC (k := (mnF M)) (n := 1) rfl rfl  dL_law_556 ?_
      refine lv_istore_n (lv' := [(3, .int (nI ((mnF M) + 1))), (21, .int (nI (mnF M))), (0, .ref b), (1, .ref x), (2, .int (nI R0)), (4, .int (mlm M)), (5, .int (nI (mnB M))), (6, .ref (ar 0)), (7, .ref (ar 1)), (8, .ref (ar 2)), (9, .ref (ar 3)), (10, .ref (ar 4)), (11, .ref (ar 5)), (12, .ref (ar 6)), (13, .int (nI t)), (14, .int (nI v)), (15, .int (nI u)), (16, .int (nI r)), (17, .int (nI c3)), (18, .int (nI d3)), (19, .int (M.2.1 0 r)), (20, .int (bI o))]) hC.1 hC.2.1 dL_law_557 rfl hl (by decide) rfl (fun ls hl => ?_)
      refine lv_goto (tgt := 1185) hC.1 hC.2.1 dL_law_558 (by decide) ?_
      refine W.widen (k := cells + 1900) (n := slots + 19900) (by omega) (by omega) ?_
      exact kk H locs (filM M (u % mnA M)) g ls I hAR (hP.mono (by omega) (by omega) (by omega) (by omega)) (hR) ⟨hl.1, hl.2.1, (ec_lvc (lv_at hl 2 rfl) (ec_lvc (lv_at hl 3 rfl) (ec_lvc (lv_at hl 4 rfl) (ec_lvc (lv_at hl 0 rfl) (ec_lvc (lv_at hl 5 rfl) (ec_lvc (lv_at hl 6 rfl) (ec_lvc (lv_at hl 7 rfl) (ec_lvc (lv_at hl 8 rfl) (ec_lvc (lv_at hl 9 rfl) (ec_lvc (lv_at hl 10 rfl) (ec_lvc (lv_at hl 11 rfl) (ec_lvc (lv_at hl 12 rfl) (ec_lvc (lv_at hl 13 rfl) (ec_lvc (lv_at hl 14 rfl) ec_lvn))))))))))))))⟩
  · refine lv_goto (tgt := 1185) hC.1 hC.2.1 dL_law_510 (by decide) ?_
    refine W.widen (k := cells + 1900) (n := slots + 19900) (by omega) (by omega) ?_
    exact kk H locs M g ls I hAR (hP.mono (by omega) (by omega) (by omega) (by omega)) (hR) ⟨hl.1, hl.2.1, (ec_lvc (lv_at hl 0 rfl) (ec_lvc (lv_at hl 1 rfl) (ec_lvc (lv_at hl 2 rfl) (ec_lvc (lv_at hl 3 rfl) (ec_lvc (lv_at hl 4 rfl) (ec_lvc (lv_at hl 5 rfl) (ec_lvc (lv_at hl 6 rfl) (ec_lvc (lv_at hl 7 rfl) (ec_lvc (lv_at hl 8 rfl) (ec_lvc (lv_at hl 9 rfl) (ec_lvc (lv_at hl 10 rfl) (ec_lvc (lv_at hl 11 rfl) (ec_lvc (lv_at hl 12 rfl) (ec_lvc (lv_at hl 13 rfl) ec_lvn))))))))))))))⟩

set_option maxHeartbeats 4000000 in
set_option maxRecDepth 100000 in
/-- use -/
theorem lw_use {p : Program} {l : Launch} {e : Env} {s : State} {m : MethodId} {below : List Frame} {meth : Method} {c : Code} {G : ecG} {X : Nat → Prop} {b L x R0 t : Nat} {xs : Nat → Int32} {ar : Nat → Nat} {H : Heap} {locs : List Loc} {M : ecM} {g : Nat → Nat → Int32} {ls : Array Slot} {cells slots : Nat} {Q : State → Prop} {v u r c3 d3 : Nat} {o : Bool} (F : lwF p l s m c G X b L xs ar) (I : lwW s G X x ar H locs M g) (hAR : AR M g) (hP : PI (5 * t) (300 * t) t (20 * t) M) (hR : mnR M = R0) (hR0 : R0 ≤ 3 ∧ 0 < R0) (ht : t < 28) (hv9 : v < 50000) (hu : u < 9000) (hr : r < R0) (hc3 : c3 < 3) (hd3 : d3 < 3) (hl : lv_has ls 28 [(0, .ref b), (1, .ref x), (2, .int (nI R0)), (3, .int (nI (mnF M))), (4, .int (mlm M)), (5, .int (nI (mnB M))), (6, .ref (ar 0)), (7, .ref (ar 1)), (8, .ref (ar 2)), (9, .ref (ar 3)), (10, .ref (ar 4)), (11, .ref (ar 5)), (12, .ref (ar 6)), (13, .int (nI t)), (14, .int (nI v)), (15, .int (nI u)), (16, .int (nI r)), (17, .int (nI c3)), (18, .int (nI d3)), (19, .int (M.2.1 0 r)), (20, .int (bI o))]) (hc : cells + 1900 ≤ room_1.cells) (hs : slots + 19900 ≤ room_1.slots) (kk : ∀ (H : Heap) (locs : List Loc) (M2 : ecM) (g2 : Nat → Nat → Int32) (ls : Array Slot), lwW s G X x ar H locs M2 g2 → AR M2 g2 → PI (5 * t + 5) (300 * t + 300) (t + 1) (20 * t + 20) M2 → mnR M2 = R0 → lv_has ls 28 [(0, .ref b), (1, .ref x), (2, .int (nI R0)), (3, .int (nI (mnF M2))), (4, .int (mlm M2)), (5, .int (nI (mnB M2))), (6, .ref (ar 0)), (7, .ref (ar 1)), (8, .ref (ar 2)), (9, .ref (ar 3)), (10, .ref (ar 4)), (11, .ref (ar 5)), (12, .ref (ar 6)), (13, .int (nI t))] → W p l e room_1 s m #[Value.ref b] below meth c H locs (cells + 1900) (slots + 19900) Q (F0 m 1185 ls [])) : W p l e room_1 s m #[Value.ref b] below meth c H locs cells slots Q (F0 m 561 ls []) := by
  obtain ⟨hC, hls, hOk, hX, hbl, hL, hAN, hXA, hrA, hrD⟩ := id F
  have hK := hOk.1
  obtain ⟨hS, hXs, hEC, h5, z5, z6⟩ := id I
  have hW := hEC.wf
  have hn0 := hW.n
  have hAN9 : ∀ q, (fun q : Nat => s.heap.size ≤ q) q → ecN0 G ≤ q := hAN
  have hrM : r < mnR M := by omega
  have hcr : cN (nI r) = r := cN_nI (by omega)
  have hk80 := hW.rs r
  refine lv_iload_n hC.1 hC.2.1 dL_law_561 rfl (lv_at hl 3 rfl) ?_
  refine lv_if_ne (tgt := 568) hC.1 hC.2.1 dL_law_562 (by decide) (fun c_562 => ?_) (fun c_562 => ?_)
  · have hF0 : 0 < mnF M := Nat.pos_of_ne_zero (fun z => c_562 (by rw [z]; rfl))
    refine lv_iload hC.1 hC.2.1 dL_law_568 (lv_at hl 15 rfl) ?_
    refine lv_iload_n hC.1 hC.2.1 dL_law_570 rfl (lv_at hl 3 rfl) ?_
    refine lw_rem hC (k := u) (n := (mnF M)) rfl rfl (by omega) (by omega) (by omega) dL_law_571 ?_
    obtain ⟨f, hfe⟩ : ∃ f, f = u % mnF M := ⟨_, rfl⟩
    have hf : f < mnF M := by rw [hfe]; exact Nat.mod_lt _ hF0
    have hcf : cN (nI f) = f := cN_nI (by omega)
    rw [show (u % (mnF M)) = f from hfe.symm]
    refine lv_istore (lv' := [(21, .int (nI f)), (0, .ref b), (1, .ref x), (2, .int (nI R0)), (3, .int (nI (mnF M))), (4, .int (mlm M)), (5, .int (nI (mnB M))), (6, .ref (ar 0)), (7, .ref (ar 1)), (8, .ref (ar 2)), (9, .ref (ar 3)), (10, .ref (ar 4)), (11, .ref (ar 5)), (12, .ref (ar 6)), (13, .int (nI t)), (14, .int (nI v)), (15, .int (nI u)), (16, .int (nI r)), (17, .int (nI c3)), (18, .int (nI d3)), (19, .int (M.2.1 0 r)), (20, .int (bI o))]) hC.1 hC.2.1 dL_law_572 hl (by decide) rfl (fun ls hl => ?_)
    refine lv_aload_n hC.1 hC.2.1 dL_law_574 rfl (lv_at hl 2 rfl) ?_
    refine lv_iload hC.1 hC.2.1 dL_law_575 (lv_at hl 0 rfl) ?_
    refine ec_goXE1 (ec_xV hC (c_X5_inputs l hls G X M x (nI f)) kL_81 (hOk.at hS hAN9) ⟨hXs, hEC⟩ (hEC.rcv hK) hl.1 ⟨Nat.le_of_ble_eq_true rfl, Nat.le_of_ble_eq_true rfl⟩ rfl (Nat.le_of_ble_eq_true rfl) dL_law_577 ⟨(by omega), (by omega)⟩) hS hXA (fun E9 ce9 q9 H9 l9 hx hk9 hS9 h1 h2 h3 => (lw_no (T_F hW hf) hx (by decide)).elim) (fun H locs hp hzs hk1 hS => ?_)
    obtain ⟨-, hEC⟩ := hp
    have I := I.to F hS hzs hk1 hEC
    obtain ⟨hS, hXs, hEC, h5, z5, z6⟩ := id I
    refine ec_topi (y := (M.2.1 6 f)) (by rw [hcf]) ?_
    refine lv_istore (lv' := [(22, .int (M.2.1 6 f)), (21, .int (nI f)), (0, .ref b), (1, .ref x), (2, .int (nI R0)), (3, .int (nI (mnF M))), (4, .int (mlm M)), (5, .int (nI (mnB M))), (6, .ref (ar 0)), (7, .ref (ar 1)), (8, .ref (ar 2)), (9, .ref (ar 3)), (10, .ref (ar 4)), (11, .ref (ar 5)), (12, .ref (ar 6)), (13, .int (nI t)), (14, .int (nI v)), (15, .int (nI u)), (16, .int (nI r)), (17, .int (nI c3)), (18, .int (nI d3)), (19, .int (M.2.1 0 r)), (20, .int (bI o))]) hC.1 hC.2.1 dL_law_580 hl (by decide) rfl (fun ls hl => ?_)
    refine lv_iload hC.1 hC.2.1 dL_law_582 (lv_at hl 16 rfl) ?_
    refine lv_sipush (v := 1999) hC.1 hC.2.1 dL_law_584 (by decide) ?_
    refine lw_rem hC (k := v) (n := 1999) rfl rfl (by omega) (by omega) (by omega) dL_law_587 ?_
    refine lv_sipush (v := 999) hC.1 hC.2.1 dL_law_588 (by decide) ?_
    refine lv_isub hC.1 hC.2.1 dL_law_591 ?_
    refine lv_istore (lv' := [(23, .int ((nI (v % 1999)) - 999)), (22, .int (M.2.1 6 f)), (21, .int (nI f)), (0, .ref b), (1, .ref x), (2, .int (nI R0)), (3, .int (nI (mnF M))), (4, .int (mlm M)), (5, .int (nI (mnB M))), (6, .ref (ar 0)), (7, .ref (ar 1)), (8, .ref (ar 2)), (9, .ref (ar 3)), (10, .ref (ar 4)), (11, .ref (ar 5)), (12, .ref (ar 6)), (13, .int (nI t)), (14, .int (nI v)), (15, .int (nI u)), (16, .int (nI r)), (17, .int (nI c3)), (18, .int (nI d3)), (19, .int (M.2.1 0 r)), (20, .int (bI o))]) hC.1 hC.2.1 dL_law_592 hl (by decide) rfl (fun ls hl => ?_)
    refine lv_aload_n hC.1 hC.2.1 dL_law_594 rfl (lv_at hl 4 rfl) ?_
    refine lv_iload hC.1 hC.2.1 dL_law_595 (lv_at hl 2 rfl) ?_
    have hT9 := T_F hW hf
    refine ec_goXE1 (ec_xSH hC (c_L_bar l hls G X M x (nI f)) kL_125 (hOk.at hS hAN9) ⟨hXs, hEC⟩ hl.1 ⟨Nat.le_of_ble_eq_true rfl, Nat.le_of_ble_eq_true rfl⟩ rfl (Nat.le_of_ble_eq_true rfl) dL_law_597 ⟨(by omega), (by omega)⟩) hS hXA (fun _ _ _ _ _ hx9 => hx9.elim) (fun H locs hEC hzs hk1 hS => ?_)
    rw [ite_self] at hEC
    have I := I.to F hS hzs hk1 hEC
    obtain ⟨hS, hXs, hEC, h5, z5, z6⟩ := id I
    refine ec_topi (y := (barM M f)) (by rw [hT9, hv_0, hcf]) ?_
    refine lv_istore (lv' := [(24, .int (barM M f)), (23, .int ((nI (v % 1999)) - 999)), (22, .int (M.2.1 6 f)), (21, .int (nI f)), (0, .ref b), (1, .ref x), (2, .int (nI R0)), (3, .int (nI (mnF M))), (4, .int (mlm M)), (5, .int (nI (mnB M))), (6, .ref (ar 0)), (7, .ref (ar 1)), (8, .ref (ar 2)), (9, .ref (ar 3)), (10, .ref (ar 4)), (11, .ref (ar 5)), (12, .ref (ar 6)), (13, .int (nI t)), (14, .int (nI v)), (15, .int (nI u)), (16, .int (nI r)), (17, .int (nI c3)), (18, .int (nI d3)), (19, .int (M.2.1 0 r)), (20, .int (bI o))]) hC.1 hC.2.1 dL_law_600 hl (by decide) rfl (fun ls hl => ?_)
    refine lv_aload_n hC.1 hC.2.1 dL_law_602 rfl (lv_at hl 5 rfl) ?_
    refine lv_iload hC.1 hC.2.1 dL_law_603 (lv_at hl 3 rfl) ?_
    refine lv_iload hC.1 hC.2.1 dL_law_605 (lv_at hl 1 rfl) ?_
    have hy9 := rg_999 (show v % 1999 < 1999 by omega)
    have hpast := (hP.2.2.2.2.2.2.1 f hf).2.2
    by_cases h45 : barM M f = 45
    · skip
      have hT9 := (T_Use hW hf hy9).trans (if_pos h45)
      refine ec_goXE1 (ec_xSH hC (c_L_use l hls G X M x (nI f) (nI (v % 1999) - 999)) kL_170 (hOk.at hS hAN9) ⟨hXs, hEC⟩ hl.1 ⟨Nat.le_of_ble_eq_true rfl, Nat.le_of_ble_eq_true rfl⟩ rfl (Nat.le_of_ble_eq_true rfl) dL_law_607 ⟨(by omega), (by omega)⟩) hS hXA (fun _ _ _ _ _ hx9 => hx9.elim) (fun H locs hEC hzs hk1 hS => ?_)
      rw [if_pos hT9] at hEC
      rw [hcf] at hEC
      have I := I.to F hS hzs hk1 hEC
      have hAR := hAR.u (uE.use (f := f) (x := (nI (v % 1999) - 999)) (uE.rf M))
      obtain ⟨hS, hXs, hEC, h5, z5, z6⟩ := id I
      have hP := hP.use (x := (nI (v % 1999) - 999)) hf (by omega)
      have hW := hEC.wf
      have hn0 := hW.n
      have hf2 : f < mnF (useM M f (nI (v % 1999) - 999)) := hf
      refine ec_topl (y := (gvS (tpA M f) (psU (psA M f) (nI (v % 1999) - 999)) 6)) (by rw [hT9, hv_0, hcf]) ?_
      refine lv_lstore (lv' := [(25, .long (gvS (tpA M f) (psU (psA M f) (nI (v % 1999) - 999)) 6)), (24, .int (barM M f)), (23, .int ((nI (v % 1999)) - 999)), (22, .int (M.2.1 6 f)), (21, .int (nI f)), (0, .ref b), (1, .ref x), (2, .int (nI R0)), (3, .int (nI (mnF M))), (4, .int (mlm M)), (5, .int (nI (mnB M))), (6, .ref (ar 0)), (7, .ref (ar 1)), (8, .ref (ar 2)), (9, .ref (ar 3)), (10, .ref (ar 4)), (11, .ref (ar 5)), (12, .ref (ar 6)), (13, .int (nI t)), (14, .int (nI v)), (15, .int (nI u)), (16, .int (nI r)), (17, .int (nI c3)), (18, .int (nI d3)), (19, .int (M.2.1 0 r)), (20, .int (bI o))]) hC.1 hC.2.1 dL_law_610 hl (by decide) rfl (fun ls hl => ?_)
      refine lv_iload hC.1 hC.2.1 dL_law_612 (lv_at hl 1 rfl) ?_
      refine lv_bipush (v := 45) hC.1 hC.2.1 dL_law_614 (by decide) ?_
      refine lv_icmp_ne (tgt := 657) hC.1 hC.2.1 dL_law_616 (by decide) (fun c => absurd h45 c) (fun c_616 => ?_)
      refine lv_aload_n hC.1 hC.2.1 dL_law_619 rfl (lv_at hl 6 rfl) ?_
      refine lv_iload hC.1 hC.2.1 dL_law_620 (lv_at hl 4 rfl) ?_
      refine ec_goXE1 (ec_xV hC (c_X5_inputs l hls G X (useM M f (nI (v % 1999) - 999)) x (nI f)) kL_81 (hOk.at hS hAN9) ⟨hXs, hEC⟩ (hEC.rcv hK) hl.1 ⟨Nat.le_of_ble_eq_true rfl, Nat.le_of_ble_eq_true rfl⟩ rfl (Nat.le_of_ble_eq_true rfl) dL_law_622 ⟨(by omega), (by omega)⟩) hS hXA (fun E9 ce9 q9 H9 l9 hx hk9 hS9 h1 h2 h3 => (lw_no (T_F hW hf2) hx (by decide)).elim) (fun H locs hp hzs hk1 hS => ?_)
      obtain ⟨-, hEC⟩ := hp
      have I := I.to F hS hzs hk1 hEC
      obtain ⟨hS, hXs, hEC, h5, z5, z6⟩ := id I
      refine ec_topi (y := (M.2.1 6 f + 1)) (by rw [hcf]; exact use_6s M f (nI (v % 1999) - 999)) ?_
      refine lv_iload hC.1 hC.2.1 dL_law_625 (lv_at hl 3 rfl) ?_
      refine lv_iconst (v := 1) hC.1 hC.2.1 dL_law_627 (by decide) ?_
      refine lv_iadd hC.1 hC.2.1 dL_law_628 ?_
      refine lv_icmp_ne (tgt := 677) hC.1 hC.2.1 dL_law_629 (by decide) (fun c => absurd rfl c) (fun c_629 => ?_)
      refine lv_iload hC.1 hC.2.1 dL_law_632 (lv_at hl 3 rfl) ?_
      refine lv_if_ne (tgt := 679) hC.1 hC.2.1 dL_law_634 (by decide) (fun c_634 => ?_) (fun c_634 => ?_)
      · refine lv_iload hC.1 hC.2.1 dL_law_679 (lv_at hl 1 rfl) ?_
        refine lv_bipush (v := 45) hC.1 hC.2.1 dL_law_681 (by decide) ?_
        refine lv_icmp_eq (tgt := 689) hC.1 hC.2.1 dL_law_683 (by decide) (fun c_683 => ?_) (fun c => absurd h45 c)
        obtain ⟨M2, hM2⟩ : ∃ M2, M2 = (useM M f (nI (v % 1999) - 999)) := ⟨_, rfl⟩
        rw [← hM2] at I hAR hP hEC
        have hu2 : uE M M2 := by rw [hM2]; exact (uE.rf M).use
        have hf3 : f < mnF M2 := by rw [hM2]; exact hf
        refine lv_iconst (v := 0) hC.1 hC.2.1 dL_law_689 (by decide) ?_
        refine lv_istore (lv' := [(27, .int 0), (25, .long (gvS (tpA M f) (psU (psA M f) (nI (v % 1999) - 999)) 6)), (24, .int (barM M f)), (23, .int ((nI (v % 1999)) - 999)), (22, .int (M.2.1 6 f)), (21, .int (nI f)), (0, .ref b), (1, .ref x), (2, .int (nI R0)), (3, .int (nI (mnF M))), (4, .int (mlm M)), (5, .int (nI (mnB M))), (6, .ref (ar 0)), (7, .ref (ar 1)), (8, .ref (ar 2)), (9, .ref (ar 3)), (10, .ref (ar 4)), (11, .ref (ar 5)), (12, .ref (ar 6)), (13, .int (nI t)), (14, .int (nI v)), (15, .int (nI u)), (16, .int (nI r)), (17, .int (nI c3)), (18, .int (nI d3)), (19, .int (M.2.1 0 r)), (20, .int (bI o))]) hC.1 hC.2.1 dL_law_690 hl (by decide) rfl (fun ls hl => ?_)
        refine ec_loopC (n := 6) 8 150 (fun i H locs ls => lv_has ls 28 [(27, .int (nI i)), (21, .int (nI f)), (0, .ref b), (1, .ref x), (2, .int (nI R0)), (3, .int (nI (mnF M))), (4, .int (mlm M)), (5, .int (nI (mnB M))), (6, .ref (ar 0)), (7, .ref (ar 1)), (8, .ref (ar 2)), (9, .ref (ar 3)), (10, .ref (ar 4)), (11, .ref (ar 5)), (12, .ref (ar 6)), (13, .int (nI t))] ∧ (lwW s G X x ar H locs (us0 M2 f i) g ∧ AR (us0 M2 f i) g) ∧ True) ⟨⟨hl.1, hl.2.1, (ec_lvc (lv_at hl 0 rfl) (ec_lvc (lv_at hl 5 rfl) (ec_lvc (lv_at hl 6 rfl) (ec_lvc (lv_at hl 7 rfl) (ec_lvc (lv_at hl 8 rfl) (ec_lvc (lv_at hl 9 rfl) (ec_lvc (lv_at hl 10 rfl) (ec_lvc (lv_at hl 11 rfl) (ec_lvc (lv_at hl 12 rfl) (ec_lvc (lv_at hl 13 rfl) (ec_lvc (lv_at hl 14 rfl) (ec_lvc (lv_at hl 15 rfl) (ec_lvc (lv_at hl 16 rfl) (ec_lvc (lv_at hl 17 rfl) (ec_lvc (lv_at hl 18 rfl) (ec_lvc (lv_at hl 19 rfl) ec_lvn))))))))))))))))⟩, ⟨I, hAR⟩, trivial⟩ (fun H locs ls h9 => ?_) (fun i H locs ls hi h9 hk0 => ?_)
        · obtain ⟨hl, hW9, hI5⟩ := h9
          obtain ⟨I, hAR⟩ := hW9
          obtain ⟨hS, hXs, hEC, h5, z5, z6⟩ := id I
          have hW := hEC.wf
          have hn0 := hW.n
          refine lv_iload hC.1 hC.2.1 dL_law_692 (lv_at hl 0 rfl) ?_
          refine lv_bipush (v := 6) hC.1 hC.2.1 dL_law_694 (by decide) ?_
          refine lv_icmp_ge (tgt := 714) hC.1 hC.2.1 dL_law_696 (by decide) (fun c_696 => ?_) (fun c => absurd (Int32.le_refl _) c)
          obtain ⟨M3, hM3⟩ : ∃ M3, M3 = us0 M2 f 6 := ⟨_, rfl⟩
          have hz3 : ∀ j, j < 6 → psA M3 f j = 0 := fun j hj => by rw [hM3]; exact us0_p 6 j hj hj
          have hu3 : uE M M3 := by rw [hM3]; exact hu2.tr (us0_u M2 f 6)
          have hP : PI (5 * t) (300 * t) t (20 * t + 1 + 6) M3 := by rw [hM3]; exact us0_P hP hf3 (by omega) 6 (by omega)
          have hf4 : f < mnF M3 := by show f < M3.1 7 2; rw [hu3.1]; exact hf
          rw [← hM3] at I hAR hEC
          refine lv_iconst (v := 0) hC.1 hC.2.1 dL_law_714 (by decide) ?_
          refine lv_istore (lv' := [(27, .int 0), (21, .int (nI f)), (0, .ref b), (1, .ref x), (2, .int (nI R0)), (3, .int (nI (mnF M))), (4, .int (mlm M)), (5, .int (nI (mnB M))), (6, .ref (ar 0)), (7, .ref (ar 1)), (8, .ref (ar 2)), (9, .ref (ar 3)), (10, .ref (ar 4)), (11, .ref (ar 5)), (12, .ref (ar 6)), (13, .int (nI t))]) hC.1 hC.2.1 dL_law_715 hl (by decide) rfl (fun ls hl => ?_)
          refine ec_loopC (n := 6) 12 190 (fun i H locs ls => lv_has ls 28 [(27, .int (nI i)), (21, .int (nI f)), (0, .ref b), (1, .ref x), (2, .int (nI R0)), (3, .int (nI (mnF M))), (4, .int (mlm M)), (5, .int (nI (mnB M))), (6, .ref (ar 0)), (7, .ref (ar 1)), (8, .ref (ar 2)), (9, .ref (ar 3)), (10, .ref (ar 4)), (11, .ref (ar 5)), (12, .ref (ar 6)), (13, .int (nI t))] ∧ (lwW s G X x ar H locs (us1 M3 f i) g ∧ AR (us1 M3 f i) g) ∧ True) ⟨⟨hl.1, hl.2.1, (ec_lvc (lv_at hl 0 rfl) (ec_lvc (lv_at hl 1 rfl) (ec_lvc (lv_at hl 2 rfl) (ec_lvc (lv_at hl 3 rfl) (ec_lvc (lv_at hl 4 rfl) (ec_lvc (lv_at hl 5 rfl) (ec_lvc (lv_at hl 6 rfl) (ec_lvc (lv_at hl 7 rfl) (ec_lvc (lv_at hl 8 rfl) (ec_lvc (lv_at hl 9 rfl) (ec_lvc (lv_at hl 10 rfl) (ec_lvc (lv_at hl 11 rfl) (ec_lvc (lv_at hl 12 rfl) (ec_lvc (lv_at hl 13 rfl) (ec_lvc (lv_at hl 14 rfl) (ec_lvc (lv_at hl 15 rfl) ec_lvn))))))))))))))))⟩, ⟨I, hAR⟩, trivial⟩ (fun H locs ls h9 => ?_) (fun i H locs ls hi h9 hk1x => ?_)
          · obtain ⟨hl, hW9, hI6⟩ := h9
            obtain ⟨I, hAR⟩ := hW9
            obtain ⟨hS, hXs, hEC, h5, z5, z6⟩ := id I
            have hW := hEC.wf
            have hn0 := hW.n
            refine lv_iload hC.1 hC.2.1 dL_law_717 (lv_at hl 0 rfl) ?_
            refine lv_bipush (v := 6) hC.1 hC.2.1 dL_law_719 (by decide) ?_
            refine lv_icmp_ge (tgt := 760) hC.1 hC.2.1 dL_law_721 (by decide) (fun c_721 => ?_) (fun c => absurd (Int32.le_refl _) c)
            obtain ⟨M4, hM4⟩ : ∃ M4, M4 = us1 M3 f 6 := ⟨_, rfl⟩
            have hu4 : uE M M4 := by rw [hM4]; exact hu3.tr (us1_u M3 f 6)
            have hP : PI (5 * t) (300 * t) t (20 * t + 1 + 6 + 6) M4 := by rw [hM4]; exact us1_P hP hf4 (by omega) 6 (by omega)
            rw [← hM4] at I hAR hEC
            rw [show mnF M = mnF M4 by show M.1 7 2 = M4.1 7 2; rw [hu4.1], show mlm M = mlm M4 by show M.2.1 9 1 = M4.2.1 9 1; rw [hu4.2.2 9 (by decide) (by decide)], show mnB M = mnB M4 by show M.1 7 3 = M4.1 7 3; rw [hu4.1]] at hl
            refine lv_goto (tgt := 1185) hC.1 hC.2.1 dL_law_760 (by decide) ?_
            refine W.widen (k := cells + 1900) (n := slots + 19900) (by omega) (by omega) ?_
            exact kk H locs M4 g ls I hAR (hP.mono (by omega) (by omega) (by omega) (by omega)) (by rw [← hR]; show M4.1 7 0 = M.1 7 0; rw [hu4.1]) ⟨hl.1, hl.2.1, (ec_lvc (lv_at hl 2 rfl) (ec_lvc (lv_at hl 3 rfl) (ec_lvc (lv_at hl 4 rfl) (ec_lvc (lv_at hl 5 rfl) (ec_lvc (lv_at hl 6 rfl) (ec_lvc (lv_at hl 7 rfl) (ec_lvc (lv_at hl 8 rfl) (ec_lvc (lv_at hl 9 rfl) (ec_lvc (lv_at hl 10 rfl) (ec_lvc (lv_at hl 11 rfl) (ec_lvc (lv_at hl 12 rfl) (ec_lvc (lv_at hl 13 rfl) (ec_lvc (lv_at hl 14 rfl) (ec_lvc (lv_at hl 15 rfl) ec_lvn))))))))))))))⟩
          · obtain ⟨hl, hW9, hI6⟩ := h9
            obtain ⟨I, hAR⟩ := hW9
            obtain ⟨hS, hXs, hEC, h5, z5, z6⟩ := id I
            have hW := hEC.wf
            have hn0 := hW.n
            have hci : cN (nI i) = i := cN_nI (by omega)
            have hui : uE M (us1 M3 f i) := hu3.tr (us1_u M3 f i)
            have hfi : f < mnF (us1 M3 f i) := by show f < (us1 M3 f i).1 7 2; rw [hui.1]; exact hf
            refine lv_iload hC.1 hC.2.1 dL_law_717 (lv_at hl 0 rfl) ?_
            refine lv_bipush (v := 6) hC.1 hC.2.1 dL_law_719 (by decide) ?_
            refine lv_icmp_ge (tgt := 760) hC.1 hC.2.1 dL_law_721 (by decide) (fun c => absurd c (lt_n (b := 6) hi (by omega))) (fun c_721 => ?_)
            refine lv_aload_n hC.1 hC.2.1 dL_law_724 rfl (lv_at hl 3 rfl) ?_
            refine lv_iload hC.1 hC.2.1 dL_law_725 (lv_at hl 1 rfl) ?_
            refine lv_iload hC.1 hC.2.1 dL_law_727 (lv_at hl 0 rfl) ?_
            refine lw_is0 hC dL_law_729 dL_law_732 dL_law_733 dL_law_736 ?_
            refine ec_topi (y := (if i = 0 then 1 else 0)) (is0_i i (by omega)) ?_
            have hT9 := (T_Use (y := (if i = 0 then 1 else 0)) hW hfi (by split <;> decide)).trans (if_pos ((hui.bar f).trans h45))
            refine ec_goXE1 (ec_xSH hC (c_L_use l hls G X (us1 M3 f i) x (nI f) (if i = 0 then 1 else 0)) kL_170 (hOk.at hS hAN9) ⟨hXs, hEC⟩ hl.1 ⟨Nat.le_of_ble_eq_true rfl, Nat.le_of_ble_eq_true rfl⟩ rfl (Nat.le_of_ble_eq_true rfl) dL_law_737 ⟨(by omega), (by omega)⟩) hS hXA (fun _ _ _ _ _ hx9 => hx9.elim) (fun H locs hEC hzs hk1 hS => ?_)
            rw [if_pos hT9] at hEC
            rw [hcf] at hEC
            have I := I.to F hS hzs hk1 hEC
            have hAR := hAR.u (uE.use (f := f) (x := (if i = 0 then 1 else 0)) (uE.rf (us1 M3 f i)))
            obtain ⟨hS, hXs, hEC, h5, z5, z6⟩ := id I
            have hW := hEC.wf
            have hn0 := hW.n
            have hEC : EC G X (us1 M3 f (i + 1)) x H := hEC
            have I : lwW s G X x ar H locs (us1 M3 f (i + 1)) g := I
            have hAR : AR (us1 M3 f (i + 1)) g := hAR
            have hfi2 : f < mnF (us1 M3 f (i + 1)) := hfi
            have hW : WF (us1 M3 f (i + 1)) := hW
            refine ec_topl (y := (tpA (us1 M3 f i) f i)) (by rw [hT9, hv_0, hcf]; exact us1_g hz3 hi) ?_
            refine lv_aload_n hC.1 hC.2.1 dL_law_740 rfl (lv_at hl 3 rfl) ?_
            refine lv_iload hC.1 hC.2.1 dL_law_741 (lv_at hl 1 rfl) ?_
            refine lv_iload hC.1 hC.2.1 dL_law_743 (lv_at hl 0 rfl) ?_
            refine ec_goXE1 (ec_xV hC (c_X5_tap l hls G X (us1 M3 f (i + 1)) x (nI f) (nI i)) kL_60 (hOk.at hS hAN9) ⟨hXs, hEC⟩ (hEC.rcv hK) hl.1 ⟨Nat.le_of_ble_eq_true rfl, Nat.le_of_ble_eq_true rfl⟩ rfl (Nat.le_of_ble_eq_true rfl) dL_law_745 ⟨(by omega), (by omega)⟩) hS hXA (fun E9 ce9 q9 H9 l9 hx hk9 hS9 h1 h2 h3 => (lw_no (T_Tap hW hfi2 hi) hx (by decide)).elim) (fun H locs hp hzs hk1 hS => ?_)
            obtain ⟨-, hEC⟩ := hp
            have I := I.to F hS hzs hk1 hEC
            obtain ⟨hS, hXs, hEC, h5, z5, z6⟩ := id I
            refine ec_topl (y := (tpA (us1 M3 f i) f i)) (by rw [hcf, hci]; rfl) ?_
            refine W.lcmp hC.1 hC.2.1 dL_law_748 ?_
            refine lv_if_eq (tgt := 754) hC.1 hC.2.1 dL_law_749 (by decide) (fun c_749 => ?_) (fun c => absurd ((ec_cm0 _ _).mpr rfl) c)
            refine lv_iinc (v := (nI (i + 1))) (lv' := [(27, .int (nI (i + 1))), (21, .int (nI f)), (0, .ref b), (1, .ref x), (2, .int (nI R0)), (3, .int (nI (mnF M))), (4, .int (mlm M)), (5, .int (nI (mnB M))), (6, .ref (ar 0)), (7, .ref (ar 1)), (8, .ref (ar 2)), (9, .ref (ar 3)), (10, .ref (ar 4)), (11, .ref (ar 5)), (12, .ref (ar 6)), (13, .int (nI t))]) hC.1 hC.2.1 dL_law_754 hl (k := 0) rfl (nI_1 _) (by decide) rfl (fun ls hl => ?_)
            refine lv_goto (tgt := 717) hC.1 hC.2.1 dL_law_757 (by decide) ?_
            exact W.widen (by omega) (by omega) (hk1x H locs ls ⟨⟨hl.1, hl.2.1, (ec_lvc (lv_at hl 0 rfl) (ec_lvc (lv_at hl 1 rfl) (ec_lvc (lv_at hl 2 rfl) (ec_lvc (lv_at hl 3 rfl) (ec_lvc (lv_at hl 4 rfl) (ec_lvc (lv_at hl 5 rfl) (ec_lvc (lv_at hl 6 rfl) (ec_lvc (lv_at hl 7 rfl) (ec_lvc (lv_at hl 8 rfl) (ec_lvc (lv_at hl 9 rfl) (ec_lvc (lv_at hl 10 rfl) (ec_lvc (lv_at hl 11 rfl) (ec_lvc (lv_at hl 12 rfl) (ec_lvc (lv_at hl 13 rfl) (ec_lvc (lv_at hl 14 rfl) (ec_lvc (lv_at hl 15 rfl) ec_lvn))))))))))))))))⟩, ⟨I, hAR⟩, trivial⟩)
        · obtain ⟨hl, hW9, hI5⟩ := h9
          obtain ⟨I, hAR⟩ := hW9
          obtain ⟨hS, hXs, hEC, h5, z5, z6⟩ := id I
          have hW := hEC.wf
          have hn0 := hW.n
          have hci : cN (nI i) = i := cN_nI (by omega)
          have hui : uE M (us0 M2 f i) := hu2.tr (us0_u M2 f i)
          have hfi : f < mnF (us0 M2 f i) := by show f < (us0 M2 f i).1 7 2; rw [hui.1]; exact hf
          refine lv_iload hC.1 hC.2.1 dL_law_692 (lv_at hl 0 rfl) ?_
          refine lv_bipush (v := 6) hC.1 hC.2.1 dL_law_694 (by decide) ?_
          refine lv_icmp_ge (tgt := 714) hC.1 hC.2.1 dL_law_696 (by decide) (fun c => absurd c (lt_n (b := 6) hi (by omega))) (fun c_696 => ?_)
          refine lv_aload_n hC.1 hC.2.1 dL_law_699 rfl (lv_at hl 3 rfl) ?_
          refine lv_iload hC.1 hC.2.1 dL_law_700 (lv_at hl 1 rfl) ?_
          refine lv_iconst (v := 0) hC.1 hC.2.1 dL_law_702 (by decide) ?_
          have hT9 := (T_Use hW hfi (show rgB 0 (-999) 999 = true by decide)).trans (if_pos ((hui.bar f).trans h45))
          refine ec_goXE1 (ec_xSH hC (c_L_use l hls G X (us0 M2 f i) x (nI f) 0) kL_170 (hOk.at hS hAN9) ⟨hXs, hEC⟩ hl.1 ⟨Nat.le_of_ble_eq_true rfl, Nat.le_of_ble_eq_true rfl⟩ rfl (Nat.le_of_ble_eq_true rfl) dL_law_703 ⟨(by omega), (by omega)⟩) hS hXA (fun _ _ _ _ _ hx9 => hx9.elim) (fun H locs hEC hzs hk1 hS => ?_)
          rw [if_pos hT9] at hEC
          rw [hcf] at hEC
          have I := I.to F hS hzs hk1 hEC
          have hAR := hAR.u (uE.use (f := f) (x := 0) (uE.rf (us0 M2 f i)))
          obtain ⟨hS, hXs, hEC, h5, z5, z6⟩ := id I
          have hW := hEC.wf
          have hn0 := hW.n
          have hEC : EC G X (us0 M2 f (i + 1)) x H := hEC
          have I : lwW s G X x ar H locs (us0 M2 f (i + 1)) g := I
          have hAR : AR (us0 M2 f (i + 1)) g := hAR
          refine ec_topl (y := (gvS (tpA (us0 M2 f i) f) (psU (psA (us0 M2 f i) f) 0) 6)) (by rw [hT9, hv_0, hcf]) ?_
          refine lv_lstore (lv' := [(25, .long (gvS (tpA (us0 M2 f i) f) (psU (psA (us0 M2 f i) f) 0) 6)), (27, .int (nI i)), (21, .int (nI f)), (0, .ref b), (1, .ref x), (2, .int (nI R0)), (3, .int (nI (mnF M))), (4, .int (mlm M)), (5, .int (nI (mnB M))), (6, .ref (ar 0)), (7, .ref (ar 1)), (8, .ref (ar 2)), (9, .ref (ar 3)), (10, .ref (ar 4)), (11, .ref (ar 5)), (12, .ref (ar 6)), (13, .int (nI t))]) hC.1 hC.2.1 dL_law_706 hl (by decide) rfl (fun ls hl => ?_)
          refine lv_iinc (v := (nI (i + 1))) (lv' := [(27, .int (nI (i + 1))), (25, .long (gvS (tpA (us0 M2 f i) f) (psU (psA (us0 M2 f i) f) 0) 6)), (21, .int (nI f)), (0, .ref b), (1, .ref x), (2, .int (nI R0)), (3, .int (nI (mnF M))), (4, .int (mlm M)), (5, .int (nI (mnB M))), (6, .ref (ar 0)), (7, .ref (ar 1)), (8, .ref (ar 2)), (9, .ref (ar 3)), (10, .ref (ar 4)), (11, .ref (ar 5)), (12, .ref (ar 6)), (13, .int (nI t))]) hC.1 hC.2.1 dL_law_708 hl (k := 1) rfl (nI_1 _) (by decide) rfl (fun ls hl => ?_)
          refine lv_goto (tgt := 692) hC.1 hC.2.1 dL_law_711 (by decide) ?_
          exact W.widen (by omega) (by omega) (hk0 H locs ls ⟨⟨hl.1, hl.2.1, (ec_lvc (lv_at hl 0 rfl) (ec_lvc (lv_at hl 2 rfl) (ec_lvc (lv_at hl 3 rfl) (ec_lvc (lv_at hl 4 rfl) (ec_lvc (lv_at hl 5 rfl) (ec_lvc (lv_at hl 6 rfl) (ec_lvc (lv_at hl 7 rfl) (ec_lvc (lv_at hl 8 rfl) (ec_lvc (lv_at hl 9 rfl) (ec_lvc (lv_at hl 10 rfl) (ec_lvc (lv_at hl 11 rfl) (ec_lvc (lv_at hl 12 rfl) (ec_lvc (lv_at hl 13 rfl) (ec_lvc (lv_at hl 14 rfl) (ec_lvc (lv_at hl 15 rfl) (ec_lvc (lv_at hl 16 rfl) ec_lvn))))))))))))))))⟩, ⟨I, hAR⟩, trivial⟩)
      · refine lv_lload hC.1 hC.2.1 dL_law_637 (lv_at hl 0 rfl) ?_
        refine lv_iload hC.1 hC.2.1 dL_law_639 (lv_at hl 2 rfl) ?_
        refine lv_i2l hC.1 hC.2.1 dL_law_641 rfl ?_
        refine lv_aload_n hC.1 hC.2.1 dL_law_642 rfl (lv_at hl 6 rfl) ?_
        refine lv_iload hC.1 hC.2.1 dL_law_643 (lv_at hl 4 rfl) ?_
        refine lv_iconst (v := 0) hC.1 hC.2.1 dL_law_645 (by decide) ?_
        refine ec_goXE1 (ec_xV hC (c_X5_tap l hls G X (useM M f (nI (v % 1999) - 999)) x (nI f) 0) kL_60 (hOk.at hS hAN9) ⟨hXs, hEC⟩ (hEC.rcv hK) hl.1 ⟨Nat.le_of_ble_eq_true rfl, Nat.le_of_ble_eq_true rfl⟩ rfl (Nat.le_of_ble_eq_true rfl) dL_law_646 ⟨(by omega), (by omega)⟩) hS hXA (fun E9 ce9 q9 H9 l9 hx hk9 hS9 h1 h2 h3 => (lw_no (T_Tap hW hf2 (show 0 < 6 by decide)) hx (by decide)).elim) (fun H locs hp hzs hk1 hS => ?_)
        obtain ⟨-, hEC⟩ := hp
        have I := I.to F hS hzs hk1 hEC
        obtain ⟨hS, hXs, hEC, h5, z5, z6⟩ := id I
        refine ec_topl (y := (tpA M f 0)) (by rw [hcf]; rfl) ?_
        refine lv_lmul hC.1 hC.2.1 dL_law_649 ?_
        refine W.lcmp hC.1 hC.2.1 dL_law_650 ?_
        refine lv_if_eq (tgt := 679) hC.1 hC.2.1 dL_law_651 (by decide) (fun c_651 => ?_) (fun c => absurd ((ec_cm0 _ _).mpr (gvS_0 (hpast c_634))) c)
        refine lv_iload hC.1 hC.2.1 dL_law_679 (lv_at hl 1 rfl) ?_
        refine lv_bipush (v := 45) hC.1 hC.2.1 dL_law_681 (by decide) ?_
        refine lv_icmp_eq (tgt := 689) hC.1 hC.2.1 dL_law_683 (by decide) (fun c_683 => ?_) (fun c => absurd h45 c)
        obtain ⟨M2, hM2⟩ : ∃ M2, M2 = (useM M f (nI (v % 1999) - 999)) := ⟨_, rfl⟩
        rw [← hM2] at I hAR hP hEC
        have hu2 : uE M M2 := by rw [hM2]; exact (uE.rf M).use
        have hf3 : f < mnF M2 := by rw [hM2]; exact hf
        refine lv_iconst (v := 0) hC.1 hC.2.1 dL_law_689 (by decide) ?_
        refine lv_istore (lv' := [(27, .int 0), (25, .long (gvS (tpA M f) (psU (psA M f) (nI (v % 1999) - 999)) 6)), (24, .int (barM M f)), (23, .int ((nI (v % 1999)) - 999)), (22, .int (M.2.1 6 f)), (21, .int (nI f)), (0, .ref b), (1, .ref x), (2, .int (nI R0)), (3, .int (nI (mnF M))), (4, .int (mlm M)), (5, .int (nI (mnB M))), (6, .ref (ar 0)), (7, .ref (ar 1)), (8, .ref (ar 2)), (9, .ref (ar 3)), (10, .ref (ar 4)), (11, .ref (ar 5)), (12, .ref (ar 6)), (13, .int (nI t)), (14, .int (nI v)), (15, .int (nI u)), (16, .int (nI r)), (17, .int (nI c3)), (18, .int (nI d3)), (19, .int (M.2.1 0 r)), (20, .int (bI o))]) hC.1 hC.2.1 dL_law_690 hl (by decide) rfl (fun ls hl => ?_)
        refine ec_loopC (n := 6) 8 150 (fun i H locs ls => lv_has ls 28 [(27, .int (nI i)), (21, .int (nI f)), (0, .ref b), (1, .ref x), (2, .int (nI R0)), (3, .int (nI (mnF M))), (4, .int (mlm M)), (5, .int (nI (mnB M))), (6, .ref (ar 0)), (7, .ref (ar 1)), (8, .ref (ar 2)), (9, .ref (ar 3)), (10, .ref (ar 4)), (11, .ref (ar 5)), (12, .ref (ar 6)), (13, .int (nI t))] ∧ (lwW s G X x ar H locs (us0 M2 f i) g ∧ AR (us0 M2 f i) g) ∧ True) ⟨⟨hl.1, hl.2.1, (ec_lvc (lv_at hl 0 rfl) (ec_lvc (lv_at hl 5 rfl) (ec_lvc (lv_at hl 6 rfl) (ec_lvc (lv_at hl 7 rfl) (ec_lvc (lv_at hl 8 rfl) (ec_lvc (lv_at hl 9 rfl) (ec_lvc (lv_at hl 10 rfl) (ec_lvc (lv_at hl 11 rfl) (ec_lvc (lv_at hl 12 rfl) (ec_lvc (lv_at hl 13 rfl) (ec_lvc (lv_at hl 14 rfl) (ec_lvc (lv_at hl 15 rfl) (ec_lvc (lv_at hl 16 rfl) (ec_lvc (lv_at hl 17 rfl) (ec_lvc (lv_at hl 18 rfl) (ec_lvc (lv_at hl 19 rfl) ec_lvn))))))))))))))))⟩, ⟨I, hAR⟩, trivial⟩ (fun H locs ls h9 => ?_) (fun i H locs ls hi h9 hk0 => ?_)
        · obtain ⟨hl, hW9, hI5⟩ := h9
          obtain ⟨I, hAR⟩ := hW9
          obtain ⟨hS, hXs, hEC, h5, z5, z6⟩ := id I
          have hW := hEC.wf
          have hn0 := hW.n
          refine lv_iload hC.1 hC.2.1 dL_law_692 (lv_at hl 0 rfl) ?_
          refine lv_bipush (v := 6) hC.1 hC.2.1 dL_law_694 (by decide) ?_
          refine lv_icmp_ge (tgt := 714) hC.1 hC.2.1 dL_law_696 (by decide) (fun c_696 => ?_) (fun c => absurd (Int32.le_refl _) c)
          obtain ⟨M3, hM3⟩ : ∃ M3, M3 = us0 M2 f 6 := ⟨_, rfl⟩
          have hz3 : ∀ j, j < 6 → psA M3 f j = 0 := fun j hj => by rw [hM3]; exact us0_p 6 j hj hj
          have hu3 : uE M M3 := by rw [hM3]; exact hu2.tr (us0_u M2 f 6)
          have hP : PI (5 * t) (300 * t) t (20 * t + 1 + 6) M3 := by rw [hM3]; exact us0_P hP hf3 (by omega) 6 (by omega)
          have hf4 : f < mnF M3 := by show f < M3.1 7 2; rw [hu3.1]; exact hf
          rw [← hM3] at I hAR hEC
          refine lv_iconst (v := 0) hC.1 hC.2.1 dL_law_714 (by decide) ?_
          refine lv_istore (lv' := [(27, .int 0), (21, .int (nI f)), (0, .ref b), (1, .ref x), (2, .int (nI R0)), (3, .int (nI (mnF M))), (4, .int (mlm M)), (5, .int (nI (mnB M))), (6, .ref (ar 0)), (7, .ref (ar 1)), (8, .ref (ar 2)), (9, .ref (ar 3)), (10, .ref (ar 4)), (11, .ref (ar 5)), (12, .ref (ar 6)), (13, .int (nI t))]) hC.1 hC.2.1 dL_law_715 hl (by decide) rfl (fun ls hl => ?_)
          refine ec_loopC (n := 6) 12 190 (fun i H locs ls => lv_has ls 28 [(27, .int (nI i)), (21, .int (nI f)), (0, .ref b), (1, .ref x), (2, .int (nI R0)), (3, .int (nI (mnF M))), (4, .int (mlm M)), (5, .int (nI (mnB M))), (6, .ref (ar 0)), (7, .ref (ar 1)), (8, .ref (ar 2)), (9, .ref (ar 3)), (10, .ref (ar 4)), (11, .ref (ar 5)), (12, .ref (ar 6)), (13, .int (nI t))] ∧ (lwW s G X x ar H locs (us1 M3 f i) g ∧ AR (us1 M3 f i) g) ∧ True) ⟨⟨hl.1, hl.2.1, (ec_lvc (lv_at hl 0 rfl) (ec_lvc (lv_at hl 1 rfl) (ec_lvc (lv_at hl 2 rfl) (ec_lvc (lv_at hl 3 rfl) (ec_lvc (lv_at hl 4 rfl) (ec_lvc (lv_at hl 5 rfl) (ec_lvc (lv_at hl 6 rfl) (ec_lvc (lv_at hl 7 rfl) (ec_lvc (lv_at hl 8 rfl) (ec_lvc (lv_at hl 9 rfl) (ec_lvc (lv_at hl 10 rfl) (ec_lvc (lv_at hl 11 rfl) (ec_lvc (lv_at hl 12 rfl) (ec_lvc (lv_at hl 13 rfl) (ec_lvc (lv_at hl 14 rfl) (ec_lvc (lv_at hl 15 rfl) ec_lvn))))))))))))))))⟩, ⟨I, hAR⟩, trivial⟩ (fun H locs ls h9 => ?_) (fun i H locs ls hi h9 hk1x => ?_)
          · obtain ⟨hl, hW9, hI6⟩ := h9
            obtain ⟨I, hAR⟩ := hW9
            obtain ⟨hS, hXs, hEC, h5, z5, z6⟩ := id I
            have hW := hEC.wf
            have hn0 := hW.n
            refine lv_iload hC.1 hC.2.1 dL_law_717 (lv_at hl 0 rfl) ?_
            refine lv_bipush (v := 6) hC.1 hC.2.1 dL_law_719 (by decide) ?_
            refine lv_icmp_ge (tgt := 760) hC.1 hC.2.1 dL_law_721 (by decide) (fun c_721 => ?_) (fun c => absurd (Int32.le_refl _) c)
            obtain ⟨M4, hM4⟩ : ∃ M4, M4 = us1 M3 f 6 := ⟨_, rfl⟩
            have hu4 : uE M M4 := by rw [hM4]; exact hu3.tr (us1_u M3 f 6)
            have hP : PI (5 * t) (300 * t) t (20 * t + 1 + 6 + 6) M4 := by rw [hM4]; exact us1_P hP hf4 (by omega) 6 (by omega)
            rw [← hM4] at I hAR hEC
            rw [show mnF M = mnF M4 by show M.1 7 2 = M4.1 7 2; rw [hu4.1], show mlm M = mlm M4 by show M.2.1 9 1 = M4.2.1 9 1; rw [hu4.2.2 9 (by decide) (by decide)], show mnB M = mnB M4 by show M.1 7 3 = M4.1 7 3; rw [hu4.1]] at hl
            refine lv_goto (tgt := 1185) hC.1 hC.2.1 dL_law_760 (by decide) ?_
            refine W.widen (k := cells + 1900) (n := slots + 19900) (by omega) (by omega) ?_
            exact kk H locs M4 g ls I hAR (hP.mono (by omega) (by omega) (by omega) (by omega)) (by rw [← hR]; show M4.1 7 0 = M.1 7 0; rw [hu4.1]) ⟨hl.1, hl.2.1, (ec_lvc (lv_at hl 2 rfl) (ec_lvc (lv_at hl 3 rfl) (ec_lvc (lv_at hl 4 rfl) (ec_lvc (lv_at hl 5 rfl) (ec_lvc (lv_at hl 6 rfl) (ec_lvc (lv_at hl 7 rfl) (ec_lvc (lv_at hl 8 rfl) (ec_lvc (lv_at hl 9 rfl) (ec_lvc (lv_at hl 10 rfl) (ec_lvc (lv_at hl 11 rfl) (ec_lvc (lv_at hl 12 rfl) (ec_lvc (lv_at hl 13 rfl) (ec_lvc (lv_at hl 14 rfl) (ec_lvc (lv_at hl 15 rfl) ec_lvn))))))))))))))⟩
          · obtain ⟨hl, hW9, hI6⟩ := h9
            obtain ⟨I, hAR⟩ := hW9
            obtain ⟨hS, hXs, hEC, h5, z5, z6⟩ := id I
            have hW := hEC.wf
            have hn0 := hW.n
            have hci : cN (nI i) = i := cN_nI (by omega)
            have hui : uE M (us1 M3 f i) := hu3.tr (us1_u M3 f i)
            have hfi : f < mnF (us1 M3 f i) := by show f < (us1 M3 f i).1 7 2; rw [hui.1]; exact hf
            refine lv_iload hC.1 hC.2.1 dL_law_717 (lv_at hl 0 rfl) ?_
            refine lv_bipush (v := 6) hC.1 hC.2.1 dL_law_719 (by decide) ?_
            refine lv_icmp_ge (tgt := 760) hC.1 hC.2.1 dL_law_721 (by decide) (fun c => absurd c (lt_n (b := 6) hi (by omega))) (fun c_721 => ?_)
            refine lv_aload_n hC.1 hC.2.1 dL_law_724 rfl (lv_at hl 3 rfl) ?_
            refine lv_iload hC.1 hC.2.1 dL_law_725 (lv_at hl 1 rfl) ?_
            refine lv_iload hC.1 hC.2.1 dL_law_727 (lv_at hl 0 rfl) ?_
            refine lw_is0 hC dL_law_729 dL_law_732 dL_law_733 dL_law_736 ?_
            refine ec_topi (y := (if i = 0 then 1 else 0)) (is0_i i (by omega)) ?_
            have hT9 := (T_Use (y := (if i = 0 then 1 else 0)) hW hfi (by split <;> decide)).trans (if_pos ((hui.bar f).trans h45))
            refine ec_goXE1 (ec_xSH hC (c_L_use l hls G X (us1 M3 f i) x (nI f) (if i = 0 then 1 else 0)) kL_170 (hOk.at hS hAN9) ⟨hXs, hEC⟩ hl.1 ⟨Nat.le_of_ble_eq_true rfl, Nat.le_of_ble_eq_true rfl⟩ rfl (Nat.le_of_ble_eq_true rfl) dL_law_737 ⟨(by omega), (by omega)⟩) hS hXA (fun _ _ _ _ _ hx9 => hx9.elim) (fun H locs hEC hzs hk1 hS => ?_)
            rw [if_pos hT9] at hEC
            rw [hcf] at hEC
            have I := I.to F hS hzs hk1 hEC
            have hAR := hAR.u (uE.use (f := f) (x := (if i = 0 then 1 else 0)) (uE.rf (us1 M3 f i)))
            obtain ⟨hS, hXs, hEC, h5, z5, z6⟩ := id I
            have hW := hEC.wf
            have hn0 := hW.n
            have hEC : EC G X (us1 M3 f (i + 1)) x H := hEC
            have I : lwW s G X x ar H locs (us1 M3 f (i + 1)) g := I
            have hAR : AR (us1 M3 f (i + 1)) g := hAR
            have hfi2 : f < mnF (us1 M3 f (i + 1)) := hfi
            have hW : WF (us1 M3 f (i + 1)) := hW
            refine ec_topl (y := (tpA (us1 M3 f i) f i)) (by rw [hT9, hv_0, hcf]; exact us1_g hz3 hi) ?_
            refine lv_aload_n hC.1 hC.2.1 dL_law_740 rfl (lv_at hl 3 rfl) ?_
            refine lv_iload hC.1 hC.2.1 dL_law_741 (lv_at hl 1 rfl) ?_
            refine lv_iload hC.1 hC.2.1 dL_law_743 (lv_at hl 0 rfl) ?_
            refine ec_goXE1 (ec_xV hC (c_X5_tap l hls G X (us1 M3 f (i + 1)) x (nI f) (nI i)) kL_60 (hOk.at hS hAN9) ⟨hXs, hEC⟩ (hEC.rcv hK) hl.1 ⟨Nat.le_of_ble_eq_true rfl, Nat.le_of_ble_eq_true rfl⟩ rfl (Nat.le_of_ble_eq_true rfl) dL_law_745 ⟨(by omega), (by omega)⟩) hS hXA (fun E9 ce9 q9 H9 l9 hx hk9 hS9 h1 h2 h3 => (lw_no (T_Tap hW hfi2 hi) hx (by decide)).elim) (fun H locs hp hzs hk1 hS => ?_)
            obtain ⟨-, hEC⟩ := hp
            have I := I.to F hS hzs hk1 hEC
            obtain ⟨hS, hXs, hEC, h5, z5, z6⟩ := id I
            refine ec_topl (y := (tpA (us1 M3 f i) f i)) (by rw [hcf, hci]; rfl) ?_
            refine W.lcmp hC.1 hC.2.1 dL_law_748 ?_
            refine lv_if_eq (tgt := 754) hC.1 hC.2.1 dL_law_749 (by decide) (fun c_749 => ?_) (fun c => absurd ((ec_cm0 _ _).mpr rfl) c)
            refine lv_iinc (v := (nI (i + 1))) (lv' := [(27, .int (nI (i + 1))), (21, .int (nI f)), (0, .ref b), (1, .ref x), (2, .int (nI R0)), (3, .int (nI (mnF M))), (4, .int (mlm M)), (5, .int (nI (mnB M))), (6, .ref (ar 0)), (7, .ref (ar 1)), (8, .ref (ar 2)), (9, .ref (ar 3)), (10, .ref (ar 4)), (11, .ref (ar 5)), (12, .ref (ar 6)), (13, .int (nI t))]) hC.1 hC.2.1 dL_law_754 hl (k := 0) rfl (nI_1 _) (by decide) rfl (fun ls hl => ?_)
            refine lv_goto (tgt := 717) hC.1 hC.2.1 dL_law_757 (by decide) ?_
            exact W.widen (by omega) (by omega) (hk1x H locs ls ⟨⟨hl.1, hl.2.1, (ec_lvc (lv_at hl 0 rfl) (ec_lvc (lv_at hl 1 rfl) (ec_lvc (lv_at hl 2 rfl) (ec_lvc (lv_at hl 3 rfl) (ec_lvc (lv_at hl 4 rfl) (ec_lvc (lv_at hl 5 rfl) (ec_lvc (lv_at hl 6 rfl) (ec_lvc (lv_at hl 7 rfl) (ec_lvc (lv_at hl 8 rfl) (ec_lvc (lv_at hl 9 rfl) (ec_lvc (lv_at hl 10 rfl) (ec_lvc (lv_at hl 11 rfl) (ec_lvc (lv_at hl 12 rfl) (ec_lvc (lv_at hl 13 rfl) (ec_lvc (lv_at hl 14 rfl) (ec_lvc (lv_at hl 15 rfl) ec_lvn))))))))))))))))⟩, ⟨I, hAR⟩, trivial⟩)
        · obtain ⟨hl, hW9, hI5⟩ := h9
          obtain ⟨I, hAR⟩ := hW9
          obtain ⟨hS, hXs, hEC, h5, z5, z6⟩ := id I
          have hW := hEC.wf
          have hn0 := hW.n
          have hci : cN (nI i) = i := cN_nI (by omega)
          have hui : uE M (us0 M2 f i) := hu2.tr (us0_u M2 f i)
          have hfi : f < mnF (us0 M2 f i) := by show f < (us0 M2 f i).1 7 2; rw [hui.1]; exact hf
          refine lv_iload hC.1 hC.2.1 dL_law_692 (lv_at hl 0 rfl) ?_
          refine lv_bipush (v := 6) hC.1 hC.2.1 dL_law_694 (by decide) ?_
          refine lv_icmp_ge (tgt := 714) hC.1 hC.2.1 dL_law_696 (by decide) (fun c => absurd c (lt_n (b := 6) hi (by omega))) (fun c_696 => ?_)
          refine lv_aload_n hC.1 hC.2.1 dL_law_699 rfl (lv_at hl 3 rfl) ?_
          refine lv_iload hC.1 hC.2.1 dL_law_700 (lv_at hl 1 rfl) ?_
          refine lv_iconst (v := 0) hC.1 hC.2.1 dL_law_702 (by decide) ?_
          have hT9 := (T_Use hW hfi (show rgB 0 (-999) 999 = true by decide)).trans (if_pos ((hui.bar f).trans h45))
          refine ec_goXE1 (ec_xSH hC (c_L_use l hls G X (us0 M2 f i) x (nI f) 0) kL_170 (hOk.at hS hAN9) ⟨hXs, hEC⟩ hl.1 ⟨Nat.le_of_ble_eq_true rfl, Nat.le_of_ble_eq_true rfl⟩ rfl (Nat.le_of_ble_eq_true rfl) dL_law_703 ⟨(by omega), (by omega)⟩) hS hXA (fun _ _ _ _ _ hx9 => hx9.elim) (fun H locs hEC hzs hk1 hS => ?_)
          rw [if_pos hT9] at hEC
          rw [hcf] at hEC
          have I := I.to F hS hzs hk1 hEC
          have hAR := hAR.u (uE.use (f := f) (x := 0) (uE.rf (us0 M2 f i)))
          obtain ⟨hS, hXs, hEC, h5, z5, z6⟩ := id I
          have hW := hEC.wf
          have hn0 := hW.n
          have hEC : EC G X (us0 M2 f (i + 1)) x H := hEC
          have I : lwW s G X x ar H locs (us0 M2 f (i + 1)) g := I
          have hAR : AR (us0 M2 f (i + 1)) g := hAR
          refine ec_topl (y := (gvS (tpA (us0 M2 f i) f) (psU (psA (us0 M2 f i) f) 0) 6)) (by rw [hT9, hv_0, hcf]) ?_
          refine lv_lstore (lv' := [(25, .long (gvS (tpA (us0 M2 f i) f) (psU (psA (us0 M2 f i) f) 0) 6)), (27, .int (nI i)), (21, .int (nI f)), (0, .ref b), (1, .ref x), (2, .int (nI R0)), (3, .int (nI (mnF M))), (4, .int (mlm M)), (5, .int (nI (mnB M))), (6, .ref (ar 0)), (7, .ref (ar 1)), (8, .ref (ar 2)), (9, .ref (ar 3)), (10, .ref (ar 4)), (11, .ref (ar 5)), (12, .ref (ar 6)), (13, .int (nI t))]) hC.1 hC.2.1 dL_law_706 hl (by decide) rfl (fun ls hl => ?_)
          refine lv_iinc (v := (nI (i + 1))) (lv' := [(27, .int (nI (i + 1))), (25, .long (gvS (tpA (us0 M2 f i) f) (psU (psA (us0 M2 f i) f) 0) 6)), (21, .int (nI f)), (0, .ref b), (1, .ref x), (2, .int (nI R0)), (3, .int (nI (mnF M))), (4, .int (mlm M)), (5, .int (nI (mnB M))), (6, .ref (ar 0)), (7, .ref (ar 1)), (8, .ref (ar 2)), (9, .ref (ar 3)), (10, .ref (ar 4)), (11, .ref (ar 5)), (12, .ref (ar 6)), (13, .int (nI t))]) hC.1 hC.2.1 dL_law_708 hl (k := 1) rfl (nI_1 _) (by decide) rfl (fun ls hl => ?_)
          refine lv_goto (tgt := 692) hC.1 hC.2.1 dL_law_711 (by decide) ?_
          exact W.widen (by omega) (by omega) (hk0 H locs ls ⟨⟨hl.1, hl.2.1, (ec_lvc (lv_at hl 0 rfl) (ec_lvc (lv_at hl 2 rfl) (ec_lvc (lv_at hl 3 rfl) (ec_lvc (lv_at hl 4 rfl) (ec_lvc (lv_at hl 5 rfl) (ec_lvc (lv_at hl 6 rfl) (ec_lvc (lv_at hl 7 rfl) (ec_lvc (lv_at hl 8 rfl) (ec_lvc (lv_at hl 9 rfl) (ec_lvc (lv_at hl 10 rfl) (ec_lvc (lv_at hl 11 rfl) (ec_lvc (lv_at hl 12 rfl) (ec_lvc (lv_at hl 13 rfl) (ec_lvc (lv_at hl 14 rfl) (ec_lvc (lv_at hl 15 rfl) (ec_lvc (lv_at hl 16 rfl) ec_lvn))))))))))))))))⟩, ⟨I, hAR⟩, trivial⟩)
    · skip
      have hT9 := (T_Use hW hf hy9).trans (if_neg h45)
      refine ec_goXE1 (ec_xSH hC (c_L_use l hls G X M x (nI f) (nI (v % 1999) - 999)) kL_170 (hOk.at hS hAN9) ⟨hXs, hEC⟩ hl.1 ⟨Nat.le_of_ble_eq_true rfl, Nat.le_of_ble_eq_true rfl⟩ rfl (Nat.le_of_ble_eq_true rfl) dL_law_607 ⟨(by omega), (by omega)⟩) hS hXA (fun _ _ _ _ _ hx9 => hx9.elim) (fun H locs hEC hzs hk1 hS => ?_)
      rw [if_neg (by rw [hT9]; decide)] at hEC
      have I := I.to F hS hzs hk1 hEC
      obtain ⟨hS, hXs, hEC, h5, z5, z6⟩ := id I
      refine ec_topl (y := (-1500000)) (by rw [hT9]; rfl) ?_
      refine lv_lstore (lv' := [(25, .long (-1500000)), (24, .int (barM M f)), (23, .int ((nI (v % 1999)) - 999)), (22, .int (M.2.1 6 f)), (21, .int (nI f)), (0, .ref b), (1, .ref x), (2, .int (nI R0)), (3, .int (nI (mnF M))), (4, .int (mlm M)), (5, .int (nI (mnB M))), (6, .ref (ar 0)), (7, .ref (ar 1)), (8, .ref (ar 2)), (9, .ref (ar 3)), (10, .ref (ar 4)), (11, .ref (ar 5)), (12, .ref (ar 6)), (13, .int (nI t)), (14, .int (nI v)), (15, .int (nI u)), (16, .int (nI r)), (17, .int (nI c3)), (18, .int (nI d3)), (19, .int (M.2.1 0 r)), (20, .int (bI o))]) hC.1 hC.2.1 dL_law_610 hl (by decide) rfl (fun ls hl => ?_)
      refine lv_iload hC.1 hC.2.1 dL_law_612 (lv_at hl 1 rfl) ?_
      refine lv_bipush (v := 45) hC.1 hC.2.1 dL_law_614 (by decide) ?_
      refine lv_icmp_ne (tgt := 657) hC.1 hC.2.1 dL_law_616 (by decide) (fun c_616 => ?_) (fun c => absurd c h45)
      refine lv_lload hC.1 hC.2.1 dL_law_657 (lv_at hl 0 rfl) ?_
      refine lv_ldc2 hC.1 hC.2.1 hC.2.2.2.1 (hC.2.2.2.2 _ q550) dL_law_659 ?_
      refine W.lcmp hC.1 hC.2.1 dL_law_662 ?_
      refine lv_if_ne (tgt := 677) hC.1 hC.2.1 dL_law_663 (by decide) (fun c => absurd ((ec_cm0 _ _).mpr rfl) c) (fun c_663 => ?_)
      refine lv_aload_n hC.1 hC.2.1 dL_law_666 rfl (lv_at hl 6 rfl) ?_
      refine lv_iload hC.1 hC.2.1 dL_law_667 (lv_at hl 4 rfl) ?_
      refine ec_goXE1 (ec_xV hC (c_X5_inputs l hls G X M x (nI f)) kL_81 (hOk.at hS hAN9) ⟨hXs, hEC⟩ (hEC.rcv hK) hl.1 ⟨Nat.le_of_ble_eq_true rfl, Nat.le_of_ble_eq_true rfl⟩ rfl (Nat.le_of_ble_eq_true rfl) dL_law_669 ⟨(by omega), (by omega)⟩) hS hXA (fun E9 ce9 q9 H9 l9 hx hk9 hS9 h1 h2 h3 => (lw_no (T_F hW hf) hx (by decide)).elim) (fun H locs hp hzs hk1 hS => ?_)
      obtain ⟨-, hEC⟩ := hp
      have I := I.to F hS hzs hk1 hEC
      obtain ⟨hS, hXs, hEC, h5, z5, z6⟩ := id I
      refine ec_topi (y := (M.2.1 6 f)) (by rw [hcf]) ?_
      refine lv_iload hC.1 hC.2.1 dL_law_672 (lv_at hl 3 rfl) ?_
      refine lv_icmp_eq (tgt := 679) hC.1 hC.2.1 dL_law_674 (by decide) (fun c_674 => ?_) (fun c => absurd rfl c)
      refine lv_iload hC.1 hC.2.1 dL_law_679 (lv_at hl 1 rfl) ?_
      refine lv_bipush (v := 45) hC.1 hC.2.1 dL_law_681 (by decide) ?_
      refine lv_icmp_eq (tgt := 689) hC.1 hC.2.1 dL_law_683 (by decide) (fun c => absurd c h45) (fun c_683 => ?_)
      refine lv_goto (tgt := 1185) hC.1 hC.2.1 dL_law_686 (by decide) ?_
      refine W.widen (k := cells + 1900) (n := slots + 19900) (by omega) (by omega) ?_
      exact kk H locs M g ls I hAR (hP.mono (by omega) (by omega) (by omega) (by omega)) (hR) ⟨hl.1, hl.2.1, (ec_lvc (lv_at hl 5 rfl) (ec_lvc (lv_at hl 6 rfl) (ec_lvc (lv_at hl 7 rfl) (ec_lvc (lv_at hl 8 rfl) (ec_lvc (lv_at hl 9 rfl) (ec_lvc (lv_at hl 10 rfl) (ec_lvc (lv_at hl 11 rfl) (ec_lvc (lv_at hl 12 rfl) (ec_lvc (lv_at hl 13 rfl) (ec_lvc (lv_at hl 14 rfl) (ec_lvc (lv_at hl 15 rfl) (ec_lvc (lv_at hl 16 rfl) (ec_lvc (lv_at hl 17 rfl) (ec_lvc (lv_at hl 18 rfl) ec_lvn))))))))))))))⟩
  · refine lv_goto (tgt := 1185) hC.1 hC.2.1 dL_law_565 (by decide) ?_
    refine W.widen (k := cells + 1900) (n := slots + 19900) (by omega) (by omega) ?_
    exact kk H locs M g ls I hAR (hP.mono (by omega) (by omega) (by omega) (by omega)) (hR) ⟨hl.1, hl.2.1, (ec_lvc (lv_at hl 0 rfl) (ec_lvc (lv_at hl 1 rfl) (ec_lvc (lv_at hl 2 rfl) (ec_lvc (lv_at hl 3 rfl) (ec_lvc (lv_at hl 4 rfl) (ec_lvc (lv_at hl 5 rfl) (ec_lvc (lv_at hl 6 rfl) (ec_lvc (lv_at hl 7 rfl) (ec_lvc (lv_at hl 8 rfl) (ec_lvc (lv_at hl 9 rfl) (ec_lvc (lv_at hl 10 rfl) (ec_lvc (lv_at hl 11 rfl) (ec_lvc (lv_at hl 12 rfl) (ec_lvc (lv_at hl 13 rfl) ec_lvn))))))))))))))⟩

set_option maxHeartbeats 4000000 in
set_option maxRecDepth 100000 in
/-- setLimit -/
theorem lw_lim {p : Program} {l : Launch} {e : Env} {s : State} {m : MethodId} {below : List Frame} {meth : Method} {c : Code} {G : ecG} {X : Nat → Prop} {b L x R0 t : Nat} {xs : Nat → Int32} {ar : Nat → Nat} {H : Heap} {locs : List Loc} {M : ecM} {g : Nat → Nat → Int32} {ls : Array Slot} {cells slots : Nat} {Q : State → Prop} {v u r c3 d3 : Nat} {o : Bool} (F : lwF p l s m c G X b L xs ar) (I : lwW s G X x ar H locs M g) (hAR : AR M g) (hP : PI (5 * t) (300 * t) t (20 * t) M) (hR : mnR M = R0) (hR0 : R0 ≤ 3 ∧ 0 < R0) (ht : t < 28) (hv9 : v < 50000) (hu : u < 9000) (hr : r < R0) (hc3 : c3 < 3) (hd3 : d3 < 3) (hl : lv_has ls 28 [(0, .ref b), (1, .ref x), (2, .int (nI R0)), (3, .int (nI (mnF M))), (4, .int (mlm M)), (5, .int (nI (mnB M))), (6, .ref (ar 0)), (7, .ref (ar 1)), (8, .ref (ar 2)), (9, .ref (ar 3)), (10, .ref (ar 4)), (11, .ref (ar 5)), (12, .ref (ar 6)), (13, .int (nI t)), (14, .int (nI v)), (15, .int (nI u)), (16, .int (nI r)), (17, .int (nI c3)), (18, .int (nI d3)), (19, .int (M.2.1 0 r)), (20, .int (bI o))]) (hc : cells + 1900 ≤ room_1.cells) (hs : slots + 19900 ≤ room_1.slots) (kk : ∀ (H : Heap) (locs : List Loc) (M2 : ecM) (g2 : Nat → Nat → Int32) (ls : Array Slot), lwW s G X x ar H locs M2 g2 → AR M2 g2 → PI (5 * t + 5) (300 * t + 300) (t + 1) (20 * t + 20) M2 → mnR M2 = R0 → lv_has ls 28 [(0, .ref b), (1, .ref x), (2, .int (nI R0)), (3, .int (nI (mnF M2))), (4, .int (mlm M2)), (5, .int (nI (mnB M2))), (6, .ref (ar 0)), (7, .ref (ar 1)), (8, .ref (ar 2)), (9, .ref (ar 3)), (10, .ref (ar 4)), (11, .ref (ar 5)), (12, .ref (ar 6)), (13, .int (nI t))] → W p l e room_1 s m #[Value.ref b] below meth c H locs (cells + 1900) (slots + 19900) Q (F0 m 1185 ls [])) : W p l e room_1 s m #[Value.ref b] below meth c H locs cells slots Q (F0 m 763 ls []) := by
  obtain ⟨hC, hls, hOk, hX, hbl, hL, hAN, hXA, hrA, hrD⟩ := id F
  have hK := hOk.1
  obtain ⟨hS, hXs, hEC, h5, z5, z6⟩ := id I
  have hW := hEC.wf
  have hn0 := hW.n
  have hAN9 : ∀ q, (fun q : Nat => s.heap.size ≤ q) q → ecN0 G ≤ q := hAN
  have hrM : r < mnR M := by omega
  have hcr : cN (nI r) = r := cN_nI (by omega)
  have hk80 := hW.rs r
  refine lv_aload_n hC.1 hC.2.1 dL_law_763 rfl (lv_at hl 1 rfl) ?_
  refine lv_iload hC.1 hC.2.1 dL_law_764 (lv_at hl 15 rfl) ?_
  refine lv_bipush (v := 60) hC.1 hC.2.1 dL_law_766 (by decide) ?_
  refine lw_rem hC (k := u) (n := 60) rfl rfl (by omega) (by omega) (by omega) dL_law_768 ?_
  have hT9 := T_Lim (show u % 60 < 60 by omega)
  refine ec_goXE1 (ec_xSH hC (c_L_setLimit l hls G X M x (nI (u % 60))) kL_173 (hOk.at hS hAN9) ⟨hXs, hEC⟩ hl.1 ⟨Nat.le_of_ble_eq_true rfl, Nat.le_of_ble_eq_true rfl⟩ rfl (Nat.le_of_ble_eq_true rfl) dL_law_769 ⟨(by omega), (by omega)⟩) hS hXA (fun _ _ _ _ _ hx9 => hx9.elim) (fun H locs hEC hzs hk1 hS => ?_)
  rw [if_pos hT9] at hEC
  have I := I.to F hS hzs hk1 hEC
  have hAR := (show AR (setI M 9 1 (nI (u % 60))) g from hAR.to rfl rfl rfl rfl rfl rfl)
  obtain ⟨hS, hXs, hEC, h5, z5, z6⟩ := id I
  have hP := hP.lim (x := nI (u % 60))
  have hW := hEC.wf
  have hn0 := hW.n
  refine ec_topi (y := (mlm M)) (by rw [hT9, hv_0]) ?_
  refine lv_iload hC.1 hC.2.1 dL_law_772 (lv_at hl 4 rfl) ?_
  refine lv_icmp_eq (tgt := 779) hC.1 hC.2.1 dL_law_774 (by decide) (fun c_774 => ?_) (fun c => absurd rfl c)
  refine lv_iload hC.1 hC.2.1 dL_law_779 (lv_at hl 15 rfl) ?_
  refine lv_bipush (v := 60) hC.1 hC.2.1 dL_law_781 (by decide) ?_
  refine lw_rem hC (k := u) (n := 60) rfl rfl (by omega) (by omega) (by omega) dL_law_783 ?_
  refine lv_istore (lv' := [(4, .int (nI (u % 60))), (0, .ref b), (1, .ref x), (2, .int (nI R0)), (3, .int (nI (mnF M))), (5, .int (nI (mnB M))), (6, .ref (ar 0)), (7, .ref (ar 1)), (8, .ref (ar 2)), (9, .ref (ar 3)), (10, .ref (ar 4)), (11, .ref (ar 5)), (12, .ref (ar 6)), (13, .int (nI t)), (14, .int (nI v)), (15, .int (nI u)), (16, .int (nI r)), (17, .int (nI c3)), (18, .int (nI d3)), (19, .int (M.2.1 0 r)), (20, .int (bI o))]) hC.1 hC.2.1 dL_law_784 hl (by decide) rfl (fun ls hl => ?_)
  refine lv_goto (tgt := 1185) hC.1 hC.2.1 dL_law_786 (by decide) ?_
  refine W.widen (k := cells + 1900) (n := slots + 19900) (by omega) (by omega) ?_
  exact kk H locs (setI M 9 1 (nI (u % 60))) g ls I hAR (hP.mono (by omega) (by omega) (by omega) (by omega)) (hR) ⟨hl.1, hl.2.1, (ec_lvc (lv_at hl 1 rfl) (ec_lvc (lv_at hl 2 rfl) (ec_lvc (lv_at hl 3 rfl) (ec_lvc (lv_at hl 4 rfl) (ec_lvc (lv_at hl 0 rfl) (ec_lvc (lv_at hl 5 rfl) (ec_lvc (lv_at hl 6 rfl) (ec_lvc (lv_at hl 7 rfl) (ec_lvc (lv_at hl 8 rfl) (ec_lvc (lv_at hl 9 rfl) (ec_lvc (lv_at hl 10 rfl) (ec_lvc (lv_at hl 11 rfl) (ec_lvc (lv_at hl 12 rfl) (ec_lvc (lv_at hl 13 rfl) ec_lvn))))))))))))))⟩

set_option maxHeartbeats 4000000 in
set_option maxRecDepth 100000 in
/-- book -/
theorem lw_bok {p : Program} {l : Launch} {e : Env} {s : State} {m : MethodId} {below : List Frame} {meth : Method} {c : Code} {G : ecG} {X : Nat → Prop} {b L x R0 t : Nat} {xs : Nat → Int32} {ar : Nat → Nat} {H : Heap} {locs : List Loc} {M : ecM} {g : Nat → Nat → Int32} {ls : Array Slot} {cells slots : Nat} {Q : State → Prop} {v u r c3 d3 : Nat} {o : Bool} (F : lwF p l s m c G X b L xs ar) (I : lwW s G X x ar H locs M g) (hAR : AR M g) (hP : PI (5 * t) (300 * t) t (20 * t) M) (hR : mnR M = R0) (hR0 : R0 ≤ 3 ∧ 0 < R0) (ht : t < 28) (hv9 : v < 50000) (hu : u < 9000) (hr : r < R0) (hc3 : c3 < 3) (hd3 : d3 < 3) (hl : lv_has ls 28 [(0, .ref b), (1, .ref x), (2, .int (nI R0)), (3, .int (nI (mnF M))), (4, .int (mlm M)), (5, .int (nI (mnB M))), (6, .ref (ar 0)), (7, .ref (ar 1)), (8, .ref (ar 2)), (9, .ref (ar 3)), (10, .ref (ar 4)), (11, .ref (ar 5)), (12, .ref (ar 6)), (13, .int (nI t)), (14, .int (nI v)), (15, .int (nI u)), (16, .int (nI r)), (17, .int (nI c3)), (18, .int (nI d3)), (19, .int (M.2.1 0 r)), (20, .int (bI o))]) (hc : cells + 1900 ≤ room_1.cells) (hs : slots + 19900 ≤ room_1.slots) (kk : ∀ (H : Heap) (locs : List Loc) (M2 : ecM) (g2 : Nat → Nat → Int32) (ls : Array Slot), lwW s G X x ar H locs M2 g2 → AR M2 g2 → PI (5 * t + 5) (300 * t + 300) (t + 1) (20 * t + 20) M2 → mnR M2 = R0 → lv_has ls 28 [(0, .ref b), (1, .ref x), (2, .int (nI R0)), (3, .int (nI (mnF M2))), (4, .int (mlm M2)), (5, .int (nI (mnB M2))), (6, .ref (ar 0)), (7, .ref (ar 1)), (8, .ref (ar 2)), (9, .ref (ar 3)), (10, .ref (ar 4)), (11, .ref (ar 5)), (12, .ref (ar 6)), (13, .int (nI t))] → W p l e room_1 s m #[Value.ref b] below meth c H locs (cells + 1900) (slots + 19900) Q (F0 m 1185 ls [])) : W p l e room_1 s m #[Value.ref b] below meth c H locs cells slots Q (F0 m 789 ls []) := by
  obtain ⟨hC, hls, hOk, hX, hbl, hL, hAN, hXA, hrA, hrD⟩ := id F
  have hK := hOk.1
  obtain ⟨hS, hXs, hEC, h5, z5, z6⟩ := id I
  have hW := hEC.wf
  have hn0 := hW.n
  have hAN9 : ∀ q, (fun q : Nat => s.heap.size ≤ q) q → ecN0 G ≤ q := hAN
  have hrM : r < mnR M := by omega
  have hcr : cN (nI r) = r := cN_nI (by omega)
  have hk80 := hW.rs r
  refine lv_aload_n hC.1 hC.2.1 dL_law_789 rfl (lv_at hl 1 rfl) ?_
  refine ec_go1 (ec_rV hC (c_X5_hour l G X M x) kL_175 (hOk.at hS hAN9) hEC (hEC.rcv hK) hl.1 ⟨Nat.le_of_ble_eq_true rfl, Nat.le_of_ble_eq_true rfl⟩ rfl (Nat.le_of_ble_eq_true rfl) dL_law_790 ⟨(by omega), (by omega)⟩) ?_
  refine lv_iconst (v := 1) hC.1 hC.2.1 dL_law_793 (by decide) ?_
  refine lv_iadd hC.1 hC.2.1 dL_law_794 ?_
  refine lv_iload hC.1 hC.2.1 dL_law_795 (lv_at hl 15 rfl) ?_
  refine lv_bipush (v := 9) hC.1 hC.2.1 dL_law_797 (by decide) ?_
  refine lw_rem hC (k := u) (n := 9) rfl rfl (by omega) (by omega) (by omega) dL_law_799 ?_
  refine lv_iadd hC.1 hC.2.1 dL_law_800 ?_
  obtain ⟨fr, hfr⟩ : ∃ fr : Int32, fr = mhr M + 1 + nI (u % 9) := ⟨_, rfl⟩
  have hp1 := hP.1
  have hm1 : (mhr M + 1).toInt = (mhr M).toInt + 1 := i3a (by omega) (by decide)
  have hu9 : (nI (u % 9)).toInt = (u % 9 : Nat) := nI_toInt (by omega)
  have hfT : fr.toInt = (mhr M).toInt + 1 + (u % 9 : Nat) := by rw [hfr, i3a (by omega) (by omega), hm1, hu9]
  refine ec_topi (y := fr) hfr.symm ?_
  refine lv_istore (lv' := [(21, .int fr), (0, .ref b), (1, .ref x), (2, .int (nI R0)), (3, .int (nI (mnF M))), (4, .int (mlm M)), (5, .int (nI (mnB M))), (6, .ref (ar 0)), (7, .ref (ar 1)), (8, .ref (ar 2)), (9, .ref (ar 3)), (10, .ref (ar 4)), (11, .ref (ar 5)), (12, .ref (ar 6)), (13, .int (nI t)), (14, .int (nI v)), (15, .int (nI u)), (16, .int (nI r)), (17, .int (nI c3)), (18, .int (nI d3)), (19, .int (M.2.1 0 r)), (20, .int (bI o))]) hC.1 hC.2.1 dL_law_801 hl (by decide) rfl (fun ls hl => ?_)
  refine lv_iload hC.1 hC.2.1 dL_law_803 (lv_at hl 0 rfl) ?_
  refine lv_iload hC.1 hC.2.1 dL_law_805 (lv_at hl 16 rfl) ?_
  refine lv_bipush (v := 9) hC.1 hC.2.1 dL_law_807 (by decide) ?_
  refine lw_div hC (k := u) (n := 9) rfl rfl (by omega) (by omega) (by omega) dL_law_809 ?_
  refine lv_iconst (v := 4) hC.1 hC.2.1 dL_law_810 (by decide) ?_
  refine lw_rem hC (k := (u / 9)) (n := 4) rfl rfl (by omega) (by omega) (by omega) dL_law_811 ?_
  refine lv_iadd hC.1 hC.2.1 dL_law_812 ?_
  obtain ⟨la, hla⟩ : ∃ la : Int32, la = fr + nI ((u / 9) % 4) := ⟨_, rfl⟩
  have hu4 : (nI ((u / 9) % 4)).toInt = ((u / 9) % 4 : Nat) := nI_toInt (by omega)
  have hlT : la.toInt = fr.toInt + ((u / 9) % 4 : Nat) := by rw [hla, i3a (by omega) (by omega), hu4]
  have hle : fr ≤ la := by rw [Int32.le_iff_toInt_le]; omega
  have hlt : mhr M < fr := by rw [Int32.lt_iff_toInt_lt]; omega
  have hl9 : la ≤ 9999 := by rw [Int32.le_iff_toInt_le, show (9999 : Int32).toInt = 9999 from rfl]; omega
  have hTC := T_Cla (o := o) hW hrM hc3 hd3 hle
  have hTB := T_Bok (o := o) hW hrM hc3 hd3 hle hlt hl9
  refine ec_topi (y := la) hla.symm ?_
  refine lv_istore (lv' := [(22, .int la), (21, .int fr), (0, .ref b), (1, .ref x), (2, .int (nI R0)), (3, .int (nI (mnF M))), (4, .int (mlm M)), (5, .int (nI (mnB M))), (6, .ref (ar 0)), (7, .ref (ar 1)), (8, .ref (ar 2)), (9, .ref (ar 3)), (10, .ref (ar 4)), (11, .ref (ar 5)), (12, .ref (ar 6)), (13, .int (nI t)), (14, .int (nI v)), (15, .int (nI u)), (16, .int (nI r)), (17, .int (nI c3)), (18, .int (nI d3)), (19, .int (M.2.1 0 r)), (20, .int (bI o))]) hC.1 hC.2.1 dL_law_813 hl (by decide) rfl (fun ls hl => ?_)
  refine lv_aload_n hC.1 hC.2.1 dL_law_815 rfl (lv_at hl 3 rfl) ?_
  refine lv_iload hC.1 hC.2.1 dL_law_816 (lv_at hl 18 rfl) ?_
  refine lv_iload hC.1 hC.2.1 dL_law_818 (lv_at hl 19 rfl) ?_
  refine lv_iload hC.1 hC.2.1 dL_law_820 (lv_at hl 20 rfl) ?_
  refine lv_iload hC.1 hC.2.1 dL_law_822 (lv_at hl 22 rfl) ?_
  refine lv_iload hC.1 hC.2.1 dL_law_824 (lv_at hl 1 rfl) ?_
  refine lv_iload hC.1 hC.2.1 dL_law_826 (lv_at hl 0 rfl) ?_
  obtain hcl | ⟨k, hcl⟩ := ec_opt (clM M r (cdN (nI c3) (nI d3) o) fr la)
  · rw [hcl] at hTC hTB
    have hTC : thCla M (nI r) (nI c3) (nI d3) o fr la = 3 := hTC
    have hT9 := hTC
    refine ec_goXE1 (ec_xSH hC (c_L_clash l hls G X M x (nI r) (nI c3) (nI d3) o fr la) kL_178 (hOk.at hS hAN9) ⟨hXs, hEC⟩ hl.1 ⟨Nat.le_of_ble_eq_true rfl, Nat.le_of_ble_eq_true rfl⟩ rfl (Nat.le_of_ble_eq_true rfl) dL_law_828 ⟨(by omega), (by omega)⟩) hS hXA (fun _ _ _ _ _ hx9 => hx9.elim) (fun H locs hEC hzs hk1 hS => ?_)
    rw [ite_self] at hEC
    have I := I.to F hS hzs hk1 hEC
    obtain ⟨hS, hXs, hEC, h5, z5, z6⟩ := id I
    refine ec_topi (y := (-3000000)) (by rw [hT9]; rfl) ?_
    refine lv_istore (lv' := [(23, .int (-3000000)), (22, .int la), (21, .int fr), (0, .ref b), (1, .ref x), (2, .int (nI R0)), (3, .int (nI (mnF M))), (4, .int (mlm M)), (5, .int (nI (mnB M))), (6, .ref (ar 0)), (7, .ref (ar 1)), (8, .ref (ar 2)), (9, .ref (ar 3)), (10, .ref (ar 4)), (11, .ref (ar 5)), (12, .ref (ar 6)), (13, .int (nI t)), (14, .int (nI v)), (15, .int (nI u)), (16, .int (nI r)), (17, .int (nI c3)), (18, .int (nI d3)), (19, .int (M.2.1 0 r)), (20, .int (bI o))]) hC.1 hC.2.1 dL_law_831 hl (by decide) rfl (fun ls hl => ?_)
    refine lv_aload_n hC.1 hC.2.1 dL_law_833 rfl (lv_at hl 4 rfl) ?_
    refine lv_iload hC.1 hC.2.1 dL_law_834 (lv_at hl 19 rfl) ?_
    refine lv_iload hC.1 hC.2.1 dL_law_836 (lv_at hl 20 rfl) ?_
    refine lv_iload hC.1 hC.2.1 dL_law_838 (lv_at hl 21 rfl) ?_
    refine lv_iload hC.1 hC.2.1 dL_law_840 (lv_at hl 23 rfl) ?_
    refine lv_iload hC.1 hC.2.1 dL_law_842 (lv_at hl 2 rfl) ?_
    refine lv_iload hC.1 hC.2.1 dL_law_844 (lv_at hl 1 rfl) ?_
    have hTB : thBok M (nI r) (nI c3) (nI d3) o fr la = if mnB M = 16 then 4 else 0 := hTB
    by_cases h16 : mnB M = 16
    · have hB16 : nI (mnB M) = 16 := by rw [h16]; rfl
      have hT9 := hTB.trans (if_pos h16)
      refine ec_goXE1 (ec_xSH hC (c_L_book l hls G X M x (nI r) (nI c3) (nI d3) o fr la) kL_181 (hOk.at hS hAN9) ⟨hXs, hEC⟩ hl.1 ⟨Nat.le_of_ble_eq_true rfl, Nat.le_of_ble_eq_true rfl⟩ rfl (Nat.le_of_ble_eq_true rfl) dL_law_846 ⟨(by omega), (by omega)⟩) hS hXA (fun _ _ _ _ _ hx9 => hx9.elim) (fun H locs hEC hzs hk1 hS => ?_)
      rw [if_neg (by rw [hT9]; decide)] at hEC
      have I := I.to F hS hzs hk1 hEC
      obtain ⟨hS, hXs, hEC, h5, z5, z6⟩ := id I
      refine ec_topi (y := (-1000000)) (by rw [hT9]; rfl) ?_
      refine lv_istore (lv' := [(24, .int (-1000000)), (23, .int (-3000000)), (22, .int la), (21, .int fr), (0, .ref b), (1, .ref x), (2, .int (nI R0)), (3, .int (nI (mnF M))), (4, .int (mlm M)), (5, .int (nI (mnB M))), (6, .ref (ar 0)), (7, .ref (ar 1)), (8, .ref (ar 2)), (9, .ref (ar 3)), (10, .ref (ar 4)), (11, .ref (ar 5)), (12, .ref (ar 6)), (13, .int (nI t)), (14, .int (nI v)), (15, .int (nI u)), (16, .int (nI r)), (17, .int (nI c3)), (18, .int (nI d3)), (19, .int (M.2.1 0 r)), (20, .int (bI o))]) hC.1 hC.2.1 dL_law_849 hl (by decide) rfl (fun ls hl => ?_)
      refine lv_iload hC.1 hC.2.1 dL_law_851 (lv_at hl 0 rfl) ?_
      refine lv_iload hC.1 hC.2.1 dL_law_853 (lv_at hl 1 rfl) ?_
      refine lv_ldc hC.1 hC.2.1 hC.2.2.2.1 (hC.2.2.2.2 _ q469) dL_law_855 ?_
      refine lv_icmp_eq (tgt := 865) hC.1 hC.2.1 dL_law_857 (by decide) (fun _ => ?_) (fun c => absurd (by decide) c)
      refine lv_iload hC.1 hC.2.1 dL_law_865 (lv_at hl 9 rfl) ?_
      refine lv_bipush (v := 16) hC.1 hC.2.1 dL_law_867 (by decide) ?_
      refine lv_icmp_ne (tgt := 877) hC.1 hC.2.1 dL_law_869 (by decide) (fun c => absurd hB16 c) (fun c_869 => ?_)
      refine lv_ldc hC.1 hC.2.1 hC.2.2.2.1 (hC.2.2.2.2 _ q362) dL_law_872 ?_
      refine lv_goto (tgt := 879) hC.1 hC.2.1 dL_law_874 (by decide) ?_
      refine lv_icmp_eq (tgt := 884) hC.1 hC.2.1 dL_law_879 (by decide) (fun _ => ?_) (fun c => absurd (by decide) c)
      refine lv_iload hC.1 hC.2.1 dL_law_884 (lv_at hl 0 rfl) ?_
      refine lv_if_ge (tgt := 892) hC.1 hC.2.1 dL_law_886 (by decide) (fun c => absurd c (by decide)) (fun _ => ?_)
      refine lv_goto (tgt := 1185) hC.1 hC.2.1 dL_law_889 (by decide) ?_
      refine W.widen (k := cells + 1900) (n := slots + 19900) (by omega) (by omega) ?_
      exact kk H locs M g ls I hAR (hP.mono (by omega) (by omega) (by omega) (by omega)) (hR) ⟨hl.1, hl.2.1, (ec_lvc (lv_at hl 4 rfl) (ec_lvc (lv_at hl 5 rfl) (ec_lvc (lv_at hl 6 rfl) (ec_lvc (lv_at hl 7 rfl) (ec_lvc (lv_at hl 8 rfl) (ec_lvc (lv_at hl 9 rfl) (ec_lvc (lv_at hl 10 rfl) (ec_lvc (lv_at hl 11 rfl) (ec_lvc (lv_at hl 12 rfl) (ec_lvc (lv_at hl 13 rfl) (ec_lvc (lv_at hl 14 rfl) (ec_lvc (lv_at hl 15 rfl) (ec_lvc (lv_at hl 16 rfl) (ec_lvc (lv_at hl 17 rfl) ec_lvn))))))))))))))⟩
    · have hB16 : ¬ nI (mnB M) = 16 := fun z => h16 ((nI_eq (b := 16) (by omega) (by decide)).mp z)
      have hT9 := hTB.trans (if_neg h16)
      refine ec_goXE1 (ec_xSH hC (c_L_book l hls G X M x (nI r) (nI c3) (nI d3) o fr la) kL_181 (hOk.at hS hAN9) ⟨hXs, hEC⟩ hl.1 ⟨Nat.le_of_ble_eq_true rfl, Nat.le_of_ble_eq_true rfl⟩ rfl (Nat.le_of_ble_eq_true rfl) dL_law_846 ⟨(by omega), (by omega)⟩) hS hXA (fun _ _ _ _ _ hx9 => hx9.elim) (fun H locs hEC hzs hk1 hS => ?_)
      rw [if_pos hT9] at hEC
      rw [hcr] at hEC
      have I := I.to F hS hzs hk1 hEC
      obtain ⟨hS, hXs, hEC, h5, z5, z6⟩ := id I
      have hP := hP.bok hcl (by omega) (by omega) (by omega)
      have hW2 := hEC.wf
      refine ec_topi (y := (nI (mnB M))) (by rw [hT9, hv_0]) ?_
      refine lv_istore (lv' := [(24, .int (nI (mnB M))), (23, .int (-3000000)), (22, .int la), (21, .int fr), (0, .ref b), (1, .ref x), (2, .int (nI R0)), (3, .int (nI (mnF M))), (4, .int (mlm M)), (5, .int (nI (mnB M))), (6, .ref (ar 0)), (7, .ref (ar 1)), (8, .ref (ar 2)), (9, .ref (ar 3)), (10, .ref (ar 4)), (11, .ref (ar 5)), (12, .ref (ar 6)), (13, .int (nI t)), (14, .int (nI v)), (15, .int (nI u)), (16, .int (nI r)), (17, .int (nI c3)), (18, .int (nI d3)), (19, .int (M.2.1 0 r)), (20, .int (bI o))]) hC.1 hC.2.1 dL_law_849 hl (by decide) rfl (fun ls hl => ?_)
      refine lv_iload hC.1 hC.2.1 dL_law_851 (lv_at hl 0 rfl) ?_
      refine lv_iload hC.1 hC.2.1 dL_law_853 (lv_at hl 1 rfl) ?_
      refine lv_ldc hC.1 hC.2.1 hC.2.2.2.1 (hC.2.2.2.2 _ q469) dL_law_855 ?_
      refine lv_icmp_eq (tgt := 865) hC.1 hC.2.1 dL_law_857 (by decide) (fun _ => ?_) (fun c => absurd (by decide) c)
      refine lv_iload hC.1 hC.2.1 dL_law_865 (lv_at hl 9 rfl) ?_
      refine lv_bipush (v := 16) hC.1 hC.2.1 dL_law_867 (by decide) ?_
      refine lv_icmp_ne (tgt := 877) hC.1 hC.2.1 dL_law_869 (by decide) (fun c_869 => ?_) (fun c => absurd c hB16)
      refine lv_iload hC.1 hC.2.1 dL_law_877 (lv_at hl 9 rfl) ?_
      refine lv_icmp_eq (tgt := 884) hC.1 hC.2.1 dL_law_879 (by decide) (fun c_879 => ?_) (fun c => absurd rfl c)
      refine lv_iload hC.1 hC.2.1 dL_law_884 (lv_at hl 0 rfl) ?_
      refine lv_if_ge (tgt := 892) hC.1 hC.2.1 dL_law_886 (by decide) (fun c_886 => ?_) (fun c => absurd (nI_pos' (by omega)) c)
      refine lv_aload hC.1 hC.2.1 dL_law_892 (lv_at hl 12 rfl) ?_
      refine lv_iload hC.1 hC.2.1 dL_law_894 (lv_at hl 0 rfl) ?_
      refine lv_iload hC.1 hC.2.1 dL_law_896 (lv_at hl 20 rfl) ?_
      refine lw_ist F I 2 (by decide) (mnB M) (by omega) rfl dL_law_898 (fun H locs I => ?_)
      refine lv_aload hC.1 hC.2.1 dL_law_899 (lv_at hl 10 rfl) ?_
      refine lv_iload hC.1 hC.2.1 dL_law_901 (lv_at hl 0 rfl) ?_
      refine lv_iload hC.1 hC.2.1 dL_law_903 (lv_at hl 3 rfl) ?_
      refine lw_ist F I 0 (by decide) (mnB M) (by omega) rfl dL_law_905 (fun H locs I => ?_)
      refine lv_aload hC.1 hC.2.1 dL_law_906 (lv_at hl 11 rfl) ?_
      refine lv_iload hC.1 hC.2.1 dL_law_908 (lv_at hl 0 rfl) ?_
      refine lv_iload hC.1 hC.2.1 dL_law_910 (lv_at hl 2 rfl) ?_
      refine lw_ist F I 1 (by decide) (mnB M) (by omega) rfl dL_law_912 (fun H locs I => ?_)
      refine lv_aload hC.1 hC.2.1 dL_law_913 (lv_at hl 13 rfl) ?_
      refine lv_iload hC.1 hC.2.1 dL_law_915 (lv_at hl 0 rfl) ?_
      refine lv_iload hC.1 hC.2.1 dL_law_917 (lv_at hl 21 rfl) ?_
      refine lw_ist F I 3 (by decide) (mnB M) (by omega) rfl dL_law_919 (fun H locs I => ?_)
      refine lv_aload hC.1 hC.2.1 dL_law_920 (lv_at hl 14 rfl) ?_
      refine lv_iload hC.1 hC.2.1 dL_law_922 (lv_at hl 0 rfl) ?_
      refine lv_iload hC.1 hC.2.1 dL_law_924 (lv_at hl 22 rfl) ?_
      refine lw_ist F I 4 (by decide) (mnB M) (by omega) rfl dL_law_926 (fun H locs I => ?_)
      refine lv_aload hC.1 hC.2.1 dL_law_927 (lv_at hl 15 rfl) ?_
      refine lv_iload hC.1 hC.2.1 dL_law_929 (lv_at hl 0 rfl) ?_
      refine lv_iload hC.1 hC.2.1 dL_law_931 (lv_at hl 24 rfl) ?_
      refine lw_zst5 F I (mnB M) (by omega) rfl dL_law_933 (fun H locs I => ?_)
      obtain ⟨g2, hg2⟩ : ∃ g2, g2 = (up2 (up2 (up2 (up2 (up2 (up2 g 2 (mnB M) (nI r)) 0 (mnB M) fr) 1 (mnB M) la) 3 (mnB M) (nI c3)) 4 (mnB M) (nI d3)) 5 (mnB M) (bI o)) := ⟨_, rfl⟩
      rw [← hg2] at I
      have hAR : AR (bokM M r (cdN (nI c3) (nI d3) o) fr la) g2 := by
        rw [hg2]
        exact AR.bok hAR hc3 hd3
      refine lv_iinc (v := (nI ((mnB M) + 1))) (lv' := [(5, .int (nI ((mnB M) + 1))), (24, .int (nI (mnB M))), (23, .int (-3000000)), (22, .int la), (21, .int fr), (0, .ref b), (1, .ref x), (2, .int (nI R0)), (3, .int (nI (mnF M))), (4, .int (mlm M)), (6, .ref (ar 0)), (7, .ref (ar 1)), (8, .ref (ar 2)), (9, .ref (ar 3)), (10, .ref (ar 4)), (11, .ref (ar 5)), (12, .ref (ar 6)), (13, .int (nI t)), (14, .int (nI v)), (15, .int (nI u)), (16, .int (nI r)), (17, .int (nI c3)), (18, .int (nI d3)), (19, .int (M.2.1 0 r)), (20, .int (bI o))]) hC.1 hC.2.1 dL_law_934 hl (k := 9) rfl (nI_1 _) (by decide) rfl (fun ls hl => ?_)
      refine lv_goto (tgt := 1185) hC.1 hC.2.1 dL_law_937 (by decide) ?_
      refine W.widen (k := cells + 1900) (n := slots + 19900) (by omega) (by omega) ?_
      exact kk H locs (bokM M r (cdN (nI c3) (nI d3) o) fr la) g2 ls I hAR (hP.mono (by omega) (by omega) (by omega) (by omega)) (hR) ⟨hl.1, hl.2.1, (ec_lvc (lv_at hl 5 rfl) (ec_lvc (lv_at hl 6 rfl) (ec_lvc (lv_at hl 7 rfl) (ec_lvc (lv_at hl 8 rfl) (ec_lvc (lv_at hl 9 rfl) (ec_lvc (lv_at hl 0 rfl) (ec_lvc (lv_at hl 10 rfl) (ec_lvc (lv_at hl 11 rfl) (ec_lvc (lv_at hl 12 rfl) (ec_lvc (lv_at hl 13 rfl) (ec_lvc (lv_at hl 14 rfl) (ec_lvc (lv_at hl 15 rfl) (ec_lvc (lv_at hl 16 rfl) (ec_lvc (lv_at hl 17 rfl) ec_lvn))))))))))))))⟩
  · rw [hcl] at hTC hTB
    have hTC : thCla M (nI r) (nI c3) (nI d3) o fr la = 0 := hTC
    have hkB := (fstN_lt hcl).2.1
    have hT9 := hTC
    refine ec_goXE1 (ec_xSH hC (c_L_clash l hls G X M x (nI r) (nI c3) (nI d3) o fr la) kL_178 (hOk.at hS hAN9) ⟨hXs, hEC⟩ hl.1 ⟨Nat.le_of_ble_eq_true rfl, Nat.le_of_ble_eq_true rfl⟩ rfl (Nat.le_of_ble_eq_true rfl) dL_law_828 ⟨(by omega), (by omega)⟩) hS hXA (fun _ _ _ _ _ hx9 => hx9.elim) (fun H locs hEC hzs hk1 hS => ?_)
    rw [ite_self] at hEC
    have I := I.to F hS hzs hk1 hEC
    obtain ⟨hS, hXs, hEC, h5, z5, z6⟩ := id I
    refine ec_topi (y := (nI k)) (by rw [hT9, hv_0, hcr, hcl]; rfl) ?_
    refine lv_istore (lv' := [(23, .int (nI k)), (22, .int la), (21, .int fr), (0, .ref b), (1, .ref x), (2, .int (nI R0)), (3, .int (nI (mnF M))), (4, .int (mlm M)), (5, .int (nI (mnB M))), (6, .ref (ar 0)), (7, .ref (ar 1)), (8, .ref (ar 2)), (9, .ref (ar 3)), (10, .ref (ar 4)), (11, .ref (ar 5)), (12, .ref (ar 6)), (13, .int (nI t)), (14, .int (nI v)), (15, .int (nI u)), (16, .int (nI r)), (17, .int (nI c3)), (18, .int (nI d3)), (19, .int (M.2.1 0 r)), (20, .int (bI o))]) hC.1 hC.2.1 dL_law_831 hl (by decide) rfl (fun ls hl => ?_)
    refine lv_aload_n hC.1 hC.2.1 dL_law_833 rfl (lv_at hl 4 rfl) ?_
    refine lv_iload hC.1 hC.2.1 dL_law_834 (lv_at hl 19 rfl) ?_
    refine lv_iload hC.1 hC.2.1 dL_law_836 (lv_at hl 20 rfl) ?_
    refine lv_iload hC.1 hC.2.1 dL_law_838 (lv_at hl 21 rfl) ?_
    refine lv_iload hC.1 hC.2.1 dL_law_840 (lv_at hl 23 rfl) ?_
    refine lv_iload hC.1 hC.2.1 dL_law_842 (lv_at hl 2 rfl) ?_
    refine lv_iload hC.1 hC.2.1 dL_law_844 (lv_at hl 1 rfl) ?_
    have hTB : thBok M (nI r) (nI c3) (nI d3) o fr la = 3 := hTB
    have hT9 := hTB
    refine ec_goXE1 (ec_xSH hC (c_L_book l hls G X M x (nI r) (nI c3) (nI d3) o fr la) kL_181 (hOk.at hS hAN9) ⟨hXs, hEC⟩ hl.1 ⟨Nat.le_of_ble_eq_true rfl, Nat.le_of_ble_eq_true rfl⟩ rfl (Nat.le_of_ble_eq_true rfl) dL_law_846 ⟨(by omega), (by omega)⟩) hS hXA (fun _ _ _ _ _ hx9 => hx9.elim) (fun H locs hEC hzs hk1 hS => ?_)
    rw [if_neg (by rw [hT9]; decide)] at hEC
    have I := I.to F hS hzs hk1 hEC
    obtain ⟨hS, hXs, hEC, h5, z5, z6⟩ := id I
    refine ec_topi (y := (-1500000)) (by rw [hT9]; rfl) ?_
    refine lv_istore (lv' := [(24, .int (-1500000)), (23, .int (nI k)), (22, .int la), (21, .int fr), (0, .ref b), (1, .ref x), (2, .int (nI R0)), (3, .int (nI (mnF M))), (4, .int (mlm M)), (5, .int (nI (mnB M))), (6, .ref (ar 0)), (7, .ref (ar 1)), (8, .ref (ar 2)), (9, .ref (ar 3)), (10, .ref (ar 4)), (11, .ref (ar 5)), (12, .ref (ar 6)), (13, .int (nI t)), (14, .int (nI v)), (15, .int (nI u)), (16, .int (nI r)), (17, .int (nI c3)), (18, .int (nI d3)), (19, .int (M.2.1 0 r)), (20, .int (bI o))]) hC.1 hC.2.1 dL_law_849 hl (by decide) rfl (fun ls hl => ?_)
    refine lv_iload hC.1 hC.2.1 dL_law_851 (lv_at hl 0 rfl) ?_
    refine lv_iload hC.1 hC.2.1 dL_law_853 (lv_at hl 1 rfl) ?_
    refine lv_ldc hC.1 hC.2.1 hC.2.2.2.1 (hC.2.2.2.2 _ q469) dL_law_855 ?_
    refine lv_icmp_eq (tgt := 865) hC.1 hC.2.1 dL_law_857 (by decide) (fun c => absurd c (nI_ne (by omega)).1) (fun c_857 => ?_)
    refine lv_ldc hC.1 hC.2.1 hC.2.2.2.1 (hC.2.2.2.2 _ q615) dL_law_860 ?_
    refine lv_goto (tgt := 879) hC.1 hC.2.1 dL_law_862 (by decide) ?_
    refine lv_icmp_eq (tgt := 884) hC.1 hC.2.1 dL_law_879 (by decide) (fun _ => ?_) (fun c => absurd (by decide) c)
    refine lv_iload hC.1 hC.2.1 dL_law_884 (lv_at hl 0 rfl) ?_
    refine lv_if_ge (tgt := 892) hC.1 hC.2.1 dL_law_886 (by decide) (fun c => absurd c (by decide)) (fun _ => ?_)
    refine lv_goto (tgt := 1185) hC.1 hC.2.1 dL_law_889 (by decide) ?_
    refine W.widen (k := cells + 1900) (n := slots + 19900) (by omega) (by omega) ?_
    exact kk H locs M g ls I hAR (hP.mono (by omega) (by omega) (by omega) (by omega)) (hR) ⟨hl.1, hl.2.1, (ec_lvc (lv_at hl 4 rfl) (ec_lvc (lv_at hl 5 rfl) (ec_lvc (lv_at hl 6 rfl) (ec_lvc (lv_at hl 7 rfl) (ec_lvc (lv_at hl 8 rfl) (ec_lvc (lv_at hl 9 rfl) (ec_lvc (lv_at hl 10 rfl) (ec_lvc (lv_at hl 11 rfl) (ec_lvc (lv_at hl 12 rfl) (ec_lvc (lv_at hl 13 rfl) (ec_lvc (lv_at hl 14 rfl) (ec_lvc (lv_at hl 15 rfl) (ec_lvc (lv_at hl 16 rfl) (ec_lvc (lv_at hl 17 rfl) ec_lvn))))))))))))))⟩
