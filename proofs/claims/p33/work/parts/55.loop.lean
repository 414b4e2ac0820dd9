set_option maxHeartbeats 4000000 in
set_option maxRecDepth 100000 in
/-- THE LAW'S LOOP -/
theorem law_loop {p : Program} {l : Launch} {e : Env} {s : State} {m : MethodId} {below : List Frame} {meth : Method} {c : Code} {G : ecG} {X : Nat → Prop} {b L x R0 : Nat} {xs : Nat → Int32} {ar : Nat → Nat} {H : Heap} {locs : List Loc} {M : ecM} {g : Nat → Nat → Int32} {ls : Array Slot} (F : lwF p l s m c G X b L xs ar) (hr : meth.sig.returnType = ret) (hlocks : meth.locks = false) (hR0 : R0 ≤ 3 ∧ 0 < R0) (I : lwW s G X x ar H locs M g) (hAR : AR M g) (hP : PI 0 0 0 0 M) (hR : mnR M = R0) (hl : lv_has ls 28 [(0, .ref b), (1, .ref x), (2, .int (nI R0)), (3, .int (nI (mnF M))), (4, .int (mlm M)), (5, .int (nI (mnB M))), (6, .ref (ar 0)), (7, .ref (ar 1)), (8, .ref (ar 2)), (9, .ref (ar 3)), (10, .ref (ar 4)), (11, .ref (ar 5)), (12, .ref (ar 6)), (13, .int (nI 0))]) : W p l e room_1 s m #[Value.ref b] below meth c H locs 200 2000 (lw_Z below #[Value.ref b] s) (F0 m 97 ls []) := by
  obtain ⟨hC, hls, hOk, hX, hbl, hL, hAN, hXA, hrA, hrD⟩ := id F
  have hK := hOk.1
  obtain ⟨hS, hXs, hEC, h5, z5, z6⟩ := id I
  have hW := hEC.wf
  have hn0 := hW.n
  have hAN9 : ∀ q, (fun q : Nat => s.heap.size ≤ q) q → ecN0 G ≤ q := hAN
  have hbA : ¬ (fun q : Nat => s.heap.size ≤ q) b := Nat.not_le.mpr hbl
  have hroom : 300000 ≤ room_1.cells := Nat.le_of_ble_eq_true rfl
  have sroom : 3000000 ≤ room_1.slots := Nat.le_of_ble_eq_true rfl
  refine ec_loopC (n := 28) 8200 81500 (fun t H locs ls => ∃ (M : ecM) (g : Nat → Nat → Int32), lv_has ls 28 [(0, .ref b), (1, .ref x), (2, .int (nI R0)), (3, .int (nI (mnF M))), (4, .int (mlm M)), (5, .int (nI (mnB M))), (6, .ref (ar 0)), (7, .ref (ar 1)), (8, .ref (ar 2)), (9, .ref (ar 3)), (10, .ref (ar 4)), (11, .ref (ar 5)), (12, .ref (ar 6)), (13, .int (nI t))] ∧ lwW s G X x ar H locs M g ∧ AR M g ∧ PI (5 * t) (300 * t) t (20 * t) M ∧ mnR M = R0) ⟨M, g, hl, I, hAR, hP, hR⟩ (fun H locs ls h9 => ?_) (fun t H locs ls ht h9 hkt => ?_)
  · obtain ⟨M, g, hl, I, hAR, hP, hR⟩ := h9
    obtain ⟨hS, hXs, hEC, h5, z5, z6⟩ := id I
    have hW := hEC.wf
    have hn0 := hW.n
    rw [← hR] at hl
    refine lv_iload hC.1 hC.2.1 dL_law_97 (lv_at hl 13 rfl) ?_
    refine lv_bipush (v := 28) hC.1 hC.2.1 dL_law_99 (by decide) ?_
    refine lv_icmp_ge (tgt := 1383) hC.1 hC.2.1 dL_law_101 (by decide) (fun c_101 => ?_) (fun c => absurd (Int32.le_refl _) c)
    refine lv_aload_n hC.1 hC.2.1 dL_law_1383 rfl (lv_at hl 1 rfl) ?_
    refine lv_iload_n hC.1 hC.2.1 dL_law_1384 rfl (lv_at hl 2 rfl) ?_
    refine lv_iconst (v := 0) hC.1 hC.2.1 dL_law_1385 (by decide) ?_
    refine lv_iconst (v := 1) hC.1 hC.2.1 dL_law_1386 (by decide) ?_
    refine lv_iconst (v := 0) hC.1 hC.2.1 dL_law_1387 (by decide) ?_
    refine lv_iconst (v := 0) hC.1 hC.2.1 dL_law_1388 (by decide) ?_
    refine lv_iconst (v := 0) hC.1 hC.2.1 dL_law_1389 (by decide) ?_
    have hT9 := (T_MesX (M := M) (pl := 0) (a := 1) (b := 0) (c := 0) (d := 0))
    refine ec_goXE1 (ec_xSH hC (c_L_measure l hls G X M x (nI (mnR M)) 0 1 0 0 0) kL_162 (hOk.at hS hAN9) ⟨hXs, hEC⟩ hl.1 ⟨Nat.le_of_ble_eq_true rfl, Nat.le_of_ble_eq_true rfl⟩ rfl (Nat.le_of_ble_eq_true rfl) dL_law_1390 ⟨(by omega), (by omega)⟩) hS hXA (fun _ _ _ _ _ hx9 => hx9.elim) (fun H locs hEC hzs hk1 hS => ?_)
    rw [if_neg (by rw [hT9]; decide)] at hEC
    have I := I.to F hS hzs hk1 hEC
    obtain ⟨hS, hXs, hEC, h5, z5, z6⟩ := id I
    refine ec_topi (y := (-2500000)) (by rw [hT9]; rfl) ?_
    refine lv_ldc hC.1 hC.2.1 hC.2.2.2.1 (hC.2.2.2.2 _ q399) dL_law_1393 ?_
    refine lv_icmp_ne (tgt := 1474) hC.1 hC.2.1 dL_law_1395 (by decide) (fun c => absurd rfl c) (fun _ => ?_)
    refine lv_aload_n hC.1 hC.2.1 dL_law_1398 rfl (lv_at hl 1 rfl) ?_
    refine ec_go1 (ec_rV hC (c_X5_answers l G X M x) kL_111 (hOk.at hS hAN9) hEC (hEC.rcv hK) hl.1 ⟨Nat.le_of_ble_eq_true rfl, Nat.le_of_ble_eq_true rfl⟩ rfl (Nat.le_of_ble_eq_true rfl) dL_law_1399 ⟨(by omega), (by omega)⟩) ?_
    refine lv_bipush (v := 40) hC.1 hC.2.1 dL_law_1402 (by decide) ?_
    refine lv_icmp_eq (tgt := 1422) hC.1 hC.2.1 dL_law_1404 (by decide) (fun c_1404 => ?_) (fun c_1404 => ?_)
    · refine lv_aload_n hC.1 hC.2.1 dL_law_1422 rfl (lv_at hl 1 rfl) ?_
      refine lv_aload_n hC.1 hC.2.1 dL_law_1423 rfl (lv_at hl 1 rfl) ?_
      refine ec_go1 (ec_rV hC (c_X5_answers l G X M x) kL_111 (hOk.at hS hAN9) hEC (hEC.rcv hK) hl.1 ⟨Nat.le_of_ble_eq_true rfl, Nat.le_of_ble_eq_true rfl⟩ rfl (Nat.le_of_ble_eq_true rfl) dL_law_1424 ⟨(by omega), (by omega)⟩) ?_
      have hT9 := (T_MakX (M := M))
      refine ec_goXE1 (ec_xSH hC (c_L_makeFilter l hls G X M x (nI (mnA M))) kL_168 (hOk.at hS hAN9) ⟨hXs, hEC⟩ hl.1 ⟨Nat.le_of_ble_eq_true rfl, Nat.le_of_ble_eq_true rfl⟩ rfl (Nat.le_of_ble_eq_true rfl) dL_law_1427 ⟨(by omega), (by omega)⟩) hS hXA (fun _ _ _ _ _ hx9 => hx9.elim) (fun H locs hEC hzs hk1 hS => ?_)
      rw [if_neg (by rw [hT9]; decide)] at hEC
      have I := I.to F hS hzs hk1 hEC
      obtain ⟨hS, hXs, hEC, h5, z5, z6⟩ := id I
      refine ec_topi (y := (-2500000)) (by rw [hT9]; rfl) ?_
      refine lv_ldc hC.1 hC.2.1 hC.2.2.2.1 (hC.2.2.2.2 _ q399) dL_law_1430 ?_
      refine lv_icmp_ne (tgt := 1474) hC.1 hC.2.1 dL_law_1432 (by decide) (fun c => absurd rfl c) (fun _ => ?_)
      refine lv_aload_n hC.1 hC.2.1 dL_law_1435 rfl (lv_at hl 1 rfl) ?_
      refine lv_iload hC.1 hC.2.1 dL_law_1436 (lv_at hl 5 rfl) ?_
      have hT9 := (T_CanX (M := M))
      refine ec_goXE1 (ec_xSH hC (c_L_cancel l hls G X M x (nI (mnB M))) kL_183 (hOk.at hS hAN9) ⟨hXs, hEC⟩ hl.1 ⟨Nat.le_of_ble_eq_true rfl, Nat.le_of_ble_eq_true rfl⟩ rfl (Nat.le_of_ble_eq_true rfl) dL_law_1438 ⟨(by omega), (by omega)⟩) hS hXA (fun _ _ _ _ _ hx9 => hx9.elim) (fun H locs hEC hzs hk1 hS => ?_)
      rw [if_neg (by rw [hT9]; decide)] at hEC
      have I := I.to F hS hzs hk1 hEC
      obtain ⟨hS, hXs, hEC, h5, z5, z6⟩ := id I
      refine ec_topi (y := (-2500000)) (by rw [hT9]; rfl) ?_
      refine lv_ldc hC.1 hC.2.1 hC.2.2.2.1 (hC.2.2.2.2 _ q399) dL_law_1441 ?_
      refine lv_icmp_ne (tgt := 1474) hC.1 hC.2.1 dL_law_1443 (by decide) (fun c => absurd rfl c) (fun _ => ?_)
      refine lv_aload_n hC.1 hC.2.1 dL_law_1446 rfl (lv_at hl 1 rfl) ?_
      refine lv_iconst (v := -1) hC.1 hC.2.1 dL_law_1447 (by decide) ?_
      have hT9 := (T_NxtX (M := M))
      refine ec_goXE1 (ec_xSH hC (c_L_nextBooking l hls G X M x (-1)) kL_191 (hOk.at hS hAN9) ⟨hXs, hEC⟩ hl.1 ⟨Nat.le_of_ble_eq_true rfl, Nat.le_of_ble_eq_true rfl⟩ rfl (Nat.le_of_ble_eq_true rfl) dL_law_1448 ⟨(by omega), (by omega)⟩) hS hXA (fun _ _ _ _ _ hx9 => hx9.elim) (fun H locs hEC hzs hk1 hS => ?_)
      rw [ite_self] at hEC
      have I := I.to F hS hzs hk1 hEC
      obtain ⟨hS, hXs, hEC, h5, z5, z6⟩ := id I
      refine ec_topi (y := (-2500000)) (by rw [hT9]; rfl) ?_
      refine lv_ldc hC.1 hC.2.1 hC.2.2.2.1 (hC.2.2.2.2 _ q399) dL_law_1451 ?_
      refine lv_icmp_ne (tgt := 1474) hC.1 hC.2.1 dL_law_1453 (by decide) (fun c => absurd rfl c) (fun _ => ?_)
      refine lv_aload_n hC.1 hC.2.1 dL_law_1456 rfl (lv_at hl 1 rfl) ?_
      refine lv_iconst (v := 0) hC.1 hC.2.1 dL_law_1457 (by decide) ?_
      refine lv_iconst (v := -1) hC.1 hC.2.1 dL_law_1458 (by decide) ?_
      refine lv_iconst (v := 0) hC.1 hC.2.1 dL_law_1459 (by decide) ?_
      refine lv_iconst (v := 0) hC.1 hC.2.1 dL_law_1460 (by decide) ?_
      refine lv_iconst (v := 1) hC.1 hC.2.1 dL_law_1461 (by decide) ?_
      have hT9 := T_LatX hW (by omega)
      refine ec_goXE1 (ec_xSH hC (c_L_latest l hls G X M x 0 (-1) 0 0 true) kL_165 (hOk.at hS hAN9) ⟨hXs, hEC⟩ hl.1 ⟨Nat.le_of_ble_eq_true rfl, Nat.le_of_ble_eq_true rfl⟩ rfl (Nat.le_of_ble_eq_true rfl) dL_law_1462 ⟨(by omega), (by omega)⟩) hS hXA (fun _ _ _ _ _ hx9 => hx9.elim) (fun H locs hEC hzs hk1 hS => ?_)
      rw [ite_self] at hEC
      have I := I.to F hS hzs hk1 hEC
      obtain ⟨hS, hXs, hEC, h5, z5, z6⟩ := id I
      refine ec_topi (y := (-2000000)) (by rw [hT9]; rfl) ?_
      refine lv_ldc hC.1 hC.2.1 hC.2.2.2.1 (hC.2.2.2.2 _ q400) dL_law_1465 ?_
      refine lv_icmp_ne (tgt := 1474) hC.1 hC.2.1 dL_law_1467 (by decide) (fun c => absurd rfl c) (fun _ => ?_)
      refine lv_iconst (v := 1) hC.1 hC.2.1 dL_law_1470 (by decide) ?_
      refine lv_goto (tgt := 1475) hC.1 hC.2.1 dL_law_1471 (by decide) ?_
      refine va_forget (fun q hq => hS.2.2 q hq) ?_
      refine W.widen (k := 718548) (n := 6946127) (by omega) (by omega) ?_
      refine W.base ?_
      exact lw_ret (fun _ => ⟨Nat.le_refl _, fun _ => rfl⟩) hC.1 hC.2.1 hr hlocks dL_law_1475
    · refine lv_aload_n hC.1 hC.2.1 dL_law_1407 rfl (lv_at hl 1 rfl) ?_
      refine lv_iconst (v := 0) hC.1 hC.2.1 dL_law_1408 (by decide) ?_
      refine lv_iconst (v := 0) hC.1 hC.2.1 dL_law_1409 (by decide) ?_
      refine lv_iconst (v := 0) hC.1 hC.2.1 dL_law_1410 (by decide) ?_
      refine lv_iconst (v := 0) hC.1 hC.2.1 dL_law_1411 (by decide) ?_
      refine lv_iconst (v := 0) hC.1 hC.2.1 dL_law_1412 (by decide) ?_
      refine lv_iconst (v := 0) hC.1 hC.2.1 dL_law_1413 (by decide) ?_
      have hT9 := T_Mes2 hW (by omega)
      refine ec_goXE1 (ec_xSH hC (c_L_measure l hls G X M x 0 0 0 0 0 0) kL_162 (hOk.at hS hAN9) ⟨hXs, hEC⟩ hl.1 ⟨Nat.le_of_ble_eq_true rfl, Nat.le_of_ble_eq_true rfl⟩ rfl (Nat.le_of_ble_eq_true rfl) dL_law_1414 ⟨(by omega), (by omega)⟩) hS hXA (fun _ _ _ _ _ hx9 => hx9.elim) (fun H locs hEC hzs hk1 hS => ?_)
      rw [if_neg (by rw [hT9]; decide)] at hEC
      have I := I.to F hS hzs hk1 hEC
      obtain ⟨hS, hXs, hEC, h5, z5, z6⟩ := id I
      refine ec_topi (y := (-2000000)) (by rw [hT9]; rfl) ?_
      refine lv_ldc hC.1 hC.2.1 hC.2.2.2.1 (hC.2.2.2.2 _ q400) dL_law_1417 ?_
      refine lv_icmp_ne (tgt := 1474) hC.1 hC.2.1 dL_law_1419 (by decide) (fun c => absurd rfl c) (fun _ => ?_)
      refine lv_aload_n hC.1 hC.2.1 dL_law_1422 rfl (lv_at hl 1 rfl) ?_
      refine lv_aload_n hC.1 hC.2.1 dL_law_1423 rfl (lv_at hl 1 rfl) ?_
      refine ec_go1 (ec_rV hC (c_X5_answers l G X M x) kL_111 (hOk.at hS hAN9) hEC (hEC.rcv hK) hl.1 ⟨Nat.le_of_ble_eq_true rfl, Nat.le_of_ble_eq_true rfl⟩ rfl (Nat.le_of_ble_eq_true rfl) dL_law_1424 ⟨(by omega), (by omega)⟩) ?_
      have hT9 := (T_MakX (M := M))
      refine ec_goXE1 (ec_xSH hC (c_L_makeFilter l hls G X M x (nI (mnA M))) kL_168 (hOk.at hS hAN9) ⟨hXs, hEC⟩ hl.1 ⟨Nat.le_of_ble_eq_true rfl, Nat.le_of_ble_eq_true rfl⟩ rfl (Nat.le_of_ble_eq_true rfl) dL_law_1427 ⟨(by omega), (by omega)⟩) hS hXA (fun _ _ _ _ _ hx9 => hx9.elim) (fun H locs hEC hzs hk1 hS => ?_)
      rw [if_neg (by rw [hT9]; decide)] at hEC
      have I := I.to F hS hzs hk1 hEC
      obtain ⟨hS, hXs, hEC, h5, z5, z6⟩ := id I
      refine ec_topi (y := (-2500000)) (by rw [hT9]; rfl) ?_
      refine lv_ldc hC.1 hC.2.1 hC.2.2.2.1 (hC.2.2.2.2 _ q399) dL_law_1430 ?_
      refine lv_icmp_ne (tgt := 1474) hC.1 hC.2.1 dL_law_1432 (by decide) (fun c => absurd rfl c) (fun _ => ?_)
      refine lv_aload_n hC.1 hC.2.1 dL_law_1435 rfl (lv_at hl 1 rfl) ?_
      refine lv_iload hC.1 hC.2.1 dL_law_1436 (lv_at hl 5 rfl) ?_
      have hT9 := (T_CanX (M := M))
      refine ec_goXE1 (ec_xSH hC (c_L_cancel l hls G X M x (nI (mnB M))) kL_183 (hOk.at hS hAN9) ⟨hXs, hEC⟩ hl.1 ⟨Nat.le_of_ble_eq_true rfl, Nat.le_of_ble_eq_true rfl⟩ rfl (Nat.le_of_ble_eq_true rfl) dL_law_1438 ⟨(by omega), (by omega)⟩) hS hXA (fun _ _ _ _ _ hx9 => hx9.elim) (fun H locs hEC hzs hk1 hS => ?_)
      rw [if_neg (by rw [hT9]; decide)] at hEC
      have I := I.to F hS hzs hk1 hEC
      obtain ⟨hS, hXs, hEC, h5, z5, z6⟩ := id I
      refine ec_topi (y := (-2500000)) (by rw [hT9]; rfl) ?_
      refine lv_ldc hC.1 hC.2.1 hC.2.2.2.1 (hC.2.2.2.2 _ q399) dL_law_1441 ?_
      refine lv_icmp_ne (tgt := 1474) hC.1 hC.2.1 dL_law_1443 (by decide) (fun c => absurd rfl c) (fun _ => ?_)
      refine lv_aload_n hC.1 hC.2.1 dL_law_1446 rfl (lv_at hl 1 rfl) ?_
      refine lv_iconst (v := -1) hC.1 hC.2.1 dL_law_1447 (by decide) ?_
      have hT9 := (T_NxtX (M := M))
      refine ec_goXE1 (ec_xSH hC (c_L_nextBooking l hls G X M x (-1)) kL_191 (hOk.at hS hAN9) ⟨hXs, hEC⟩ hl.1 ⟨Nat.le_of_ble_eq_true rfl, Nat.le_of_ble_eq_true rfl⟩ rfl (Nat.le_of_ble_eq_true rfl) dL_law_1448 ⟨(by omega), (by omega)⟩) hS hXA (fun _ _ _ _ _ hx9 => hx9.elim) (fun H locs hEC hzs hk1 hS => ?_)
      rw [ite_self] at hEC
      have I := I.to F hS hzs hk1 hEC
      obtain ⟨hS, hXs, hEC, h5, z5, z6⟩ := id I
      refine ec_topi (y := (-2500000)) (by rw [hT9]; rfl) ?_
      refine lv_ldc hC.1 hC.2.1 hC.2.2.2.1 (hC.2.2.2.2 _ q399) dL_law_1451 ?_
      refine lv_icmp_ne (tgt := 1474) hC.1 hC.2.1 dL_law_1453 (by decide) (fun c => absurd rfl c) (fun _ => ?_)
      refine lv_aload_n hC.1 hC.2.1 dL_law_1456 rfl (lv_at hl 1 rfl) ?_
      refine lv_iconst (v := 0) hC.1 hC.2.1 dL_law_1457 (by decide) ?_
      refine lv_iconst (v := -1) hC.1 hC.2.1 dL_law_1458 (by decide) ?_
      refine lv_iconst (v := 0) hC.1 hC.2.1 dL_law_1459 (by decide) ?_
      refine lv_iconst (v := 0) hC.1 hC.2.1 dL_law_1460 (by decide) ?_
      refine lv_iconst (v := 1) hC.1 hC.2.1 dL_law_1461 (by decide) ?_
      have hT9 := T_LatX hW (by omega)
      refine ec_goXE1 (ec_xSH hC (c_L_latest l hls G X M x 0 (-1) 0 0 true) kL_165 (hOk.at hS hAN9) ⟨hXs, hEC⟩ hl.1 ⟨Nat.le_of_ble_eq_true rfl, Nat.le_of_ble_eq_true rfl⟩ rfl (Nat.le_of_ble_eq_true rfl) dL_law_1462 ⟨(by omega), (by omega)⟩) hS hXA (fun _ _ _ _ _ hx9 => hx9.elim) (fun H locs hEC hzs hk1 hS => ?_)
      rw [ite_self] at hEC
      have I := I.to F hS hzs hk1 hEC
      obtain ⟨hS, hXs, hEC, h5, z5, z6⟩ := id I
      refine ec_topi (y := (-2000000)) (by rw [hT9]; rfl) ?_
      refine lv_ldc hC.1 hC.2.1 hC.2.2.2.1 (hC.2.2.2.2 _ q400) dL_law_1465 ?_
      refine lv_icmp_ne (tgt := 1474) hC.1 hC.2.1 dL_law_1467 (by decide) (fun c => absurd rfl c) (fun _ => ?_)
      refine lv_iconst (v := 1) hC.1 hC.2.1 dL_law_1470 (by decide) ?_
      refine lv_goto (tgt := 1475) hC.1 hC.2.1 dL_law_1471 (by decide) ?_
      refine va_forget (fun q hq => hS.2.2 q hq) ?_
      refine W.widen (k := 718548) (n := 6946127) (by omega) (by omega) ?_
      refine W.base ?_
      exact lw_ret (fun _ => ⟨Nat.le_refl _, fun _ => rfl⟩) hC.1 hC.2.1 hr hlocks dL_law_1475
  · obtain ⟨M, g, hl, I, hAR, hP, hR⟩ := h9
    obtain ⟨hS, hXs, hEC, h5, z5, z6⟩ := id I
    have hW := hEC.wf
    have hn0 := hW.n
    have kk : ∀ (H : Heap) (locs : List Loc) (M2 : ecM) (g2 : Nat → Nat → Int32) (ls : Array Slot), lwW s G X x ar H locs M2 g2 → AR M2 g2 → PI (5 * t + 5) (300 * t + 300) (t + 1) (20 * t + 20) M2 → mnR M2 = R0 → lv_has ls 28 [(0, .ref b), (1, .ref x), (2, .int (nI R0)), (3, .int (nI (mnF M2))), (4, .int (mlm M2)), (5, .int (nI (mnB M2))), (6, .ref (ar 0)), (7, .ref (ar 1)), (8, .ref (ar 2)), (9, .ref (ar 3)), (10, .ref (ar 4)), (11, .ref (ar 5)), (12, .ref (ar 6)), (13, .int (nI t))] → W p l e room_1 s m #[Value.ref b] below meth c H locs (200 + 8200 * t + 100 + 1900) (2000 + 81500 * t + 1000 + 19900) (lw_Z below #[Value.ref b] s) (F0 m 1185 ls []) := by
      intro H locs M g ls I hAR hP hR hl
      refine lw_nc F I hAR hP hl (fun H locs ls I hl => ?_)
      obtain ⟨hS, hXs, hEC, h5, z5, z6⟩ := id I
      have hW := hEC.wf
      have hn0 := hW.n
      rw [← hR] at hl
      refine lv_aload_n hC.1 hC.2.1 dL_law_1341 rfl (lv_at hl 1 rfl) ?_
      refine lv_iload_n hC.1 hC.2.1 dL_law_1342 rfl (lv_at hl 2 rfl) ?_
      refine lv_iload_n hC.1 hC.2.1 dL_law_1343 rfl (lv_at hl 3 rfl) ?_
      refine lv_iload hC.1 hC.2.1 dL_law_1344 (lv_at hl 4 rfl) ?_
      refine ec_goXE1 (ec_xS hC (c_L_isLab l hls G X M x hP (by omega) (by omega)) kL_187 (hOk.at hS hAN9) ⟨hXs, hEC⟩ hl.1 ⟨Nat.le_of_ble_eq_true rfl, Nat.le_of_ble_eq_true rfl⟩ rfl (Nat.le_of_ble_eq_true rfl) dL_law_1346 ⟨(by omega), (by omega)⟩) hS hXA (fun _ _ _ _ _ hx9 => hx9.elim) (fun H locs hEC hzs hk1 hS => ?_)
      have I := I.to F hS hzs hk1 hEC
      obtain ⟨hS, hXs, hEC, h5, z5, z6⟩ := id I
      refine lv_if_eq (tgt := 1375) hC.1 hC.2.1 dL_law_1349 (by decide) (fun c => absurd c (by decide)) (fun _ => ?_)
      refine lv_aload_n hC.1 hC.2.1 dL_law_1352 rfl (lv_at hl 1 rfl) ?_
      refine lv_iload_n hC.1 hC.2.1 dL_law_1353 rfl (lv_at hl 2 rfl) ?_
      refine lv_iconst (v := 0) hC.1 hC.2.1 dL_law_1354 (by decide) ?_
      refine lv_iconst (v := 0) hC.1 hC.2.1 dL_law_1355 (by decide) ?_
      refine lv_iconst (v := 1) hC.1 hC.2.1 dL_law_1356 (by decide) ?_
      have hT9 := (T_SetX (M := M) (c := 0) (d := 0))
      refine ec_goXE1 (ec_xSH hC (c_L_setState l hls G X M x (nI (mnR M)) 0 0 true) kL_159 (hOk.at hS hAN9) ⟨hXs, hEC⟩ hl.1 ⟨Nat.le_of_ble_eq_true rfl, Nat.le_of_ble_eq_true rfl⟩ rfl (Nat.le_of_ble_eq_true rfl) dL_law_1357 ⟨(by omega), (by omega)⟩) hS hXA (fun _ _ _ _ _ hx9 => hx9.elim) (fun H locs hEC hzs hk1 hS => ?_)
      rw [if_neg (by rw [hT9]; decide)] at hEC
      have I := I.to F hS hzs hk1 hEC
      obtain ⟨hS, hXs, hEC, h5, z5, z6⟩ := id I
      refine ec_topi (y := (-2500000)) (by rw [hT9]; rfl) ?_
      refine lv_ldc hC.1 hC.2.1 hC.2.2.2.1 (hC.2.2.2.2 _ q399) dL_law_1360 ?_
      refine lv_icmp_ne (tgt := 1375) hC.1 hC.2.1 dL_law_1362 (by decide) (fun c => absurd rfl c) (fun _ => ?_)
      refine lv_aload_n hC.1 hC.2.1 dL_law_1365 rfl (lv_at hl 1 rfl) ?_
      refine lv_iconst (v := 0) hC.1 hC.2.1 dL_law_1366 (by decide) ?_
      have hT9 := (T_PasX (M := M))
      refine ec_goXE1 (ec_xSH hC (c_L_pass l hls G X M x 0) kL_185 (hOk.at hS hAN9) ⟨hXs, hEC⟩ hl.1 ⟨Nat.le_of_ble_eq_true rfl, Nat.le_of_ble_eq_true rfl⟩ rfl (Nat.le_of_ble_eq_true rfl) dL_law_1367 ⟨(by omega), (by omega)⟩) hS hXA (fun _ _ _ _ _ hx9 => hx9.elim) (fun H locs hEC hzs hk1 hS => ?_)
      rw [if_neg (by rw [hT9]; decide)] at hEC
      have I := I.to F hS hzs hk1 hEC
      obtain ⟨hS, hXs, hEC, h5, z5, z6⟩ := id I
      refine ec_topi (y := (-2000000)) (by rw [hT9]; rfl) ?_
      refine lv_ldc hC.1 hC.2.1 hC.2.2.2.1 (hC.2.2.2.2 _ q400) dL_law_1370 ?_
      refine lv_icmp_eq (tgt := 1377) hC.1 hC.2.1 dL_law_1372 (by decide) (fun _ => ?_) (fun c => absurd (by decide) c)
      refine lv_iinc (v := (nI (t + 1))) (lv' := [(13, .int (nI (t + 1))), (0, .ref b), (1, .ref x), (2, .int (nI (mnR M))), (3, .int (nI (mnF M))), (4, .int (mlm M)), (5, .int (nI (mnB M))), (6, .ref (ar 0)), (7, .ref (ar 1)), (8, .ref (ar 2)), (9, .ref (ar 3)), (10, .ref (ar 4)), (11, .ref (ar 5)), (12, .ref (ar 6))]) hC.1 hC.2.1 dL_law_1377 hl (k := 13) rfl (nI_1 _) (by decide) rfl (fun ls hl => ?_)
      refine lv_goto (tgt := 97) hC.1 hC.2.1 dL_law_1380 (by decide) ?_
      rw [hR] at hl
      exact W.widen (by omega) (by omega) (hkt H locs ls ⟨M, g, ⟨hl.1, hl.2.1, (ec_lvc (lv_at hl 1 rfl) (ec_lvc (lv_at hl 2 rfl) (ec_lvc (lv_at hl 3 rfl) (ec_lvc (lv_at hl 4 rfl) (ec_lvc (lv_at hl 5 rfl) (ec_lvc (lv_at hl 6 rfl) (ec_lvc (lv_at hl 7 rfl) (ec_lvc (lv_at hl 8 rfl) (ec_lvc (lv_at hl 9 rfl) (ec_lvc (lv_at hl 10 rfl) (ec_lvc (lv_at hl 11 rfl) (ec_lvc (lv_at hl 12 rfl) (ec_lvc (lv_at hl 13 rfl) (ec_lvc (lv_at hl 0 rfl) ec_lvn))))))))))))))⟩, I, hAR, hP.mono (by omega) (by omega) (by omega) (by omega), hR⟩)
    refine lv_iload hC.1 hC.2.1 dL_law_97 (lv_at hl 13 rfl) ?_
    refine lv_bipush (v := 28) hC.1 hC.2.1 dL_law_99 (by decide) ?_
    refine lv_icmp_ge (tgt := 1383) hC.1 hC.2.1 dL_law_101 (by decide) (fun c => absurd c (lt_n (b := 28) ht (by omega))) (fun c_101 => ?_)
    refine lv_aload_n hC.1 hC.2.1 dL_law_104 rfl (lv_at hl 0 rfl) ?_
    refine lv_iconst (v := 1) hC.1 hC.2.1 dL_law_105 (by decide) ?_
    refine lv_iconst (v := 3) hC.1 hC.2.1 dL_law_106 (by decide) ?_
    refine lv_iload hC.1 hC.2.1 dL_law_107 (lv_at hl 13 rfl) ?_
    refine lw_mul hC (k := 3) (n := t) rfl rfl  dL_law_109 ?_
    refine lw_add hC (k := 1) (n := (3 * t)) rfl rfl  dL_law_110 ?_
    refine lv_ldc hC.1 hC.2.1 hC.2.2.2.1 (hC.2.2.2.2 _ q719) dL_law_111 ?_
    refine ec_goR (ec_rSx hC (c_L_some l G b L xs ((1 + (3 * t))) 50000 (by omega) (by omega) (by decide) (by decide)) kL_148 (hOk.at hS hAN9) (hX.kept (hS.2.1 b hbl hbA)) (Nat.lt_of_lt_of_le hbl hS.1) hl.1 ⟨Nat.le_of_ble_eq_true rfl, Nat.le_of_ble_eq_true rfl⟩ rfl (Nat.le_of_ble_eq_true rfl) dL_law_113 ⟨(by omega), (by omega)⟩) (fun v9 hv9 => ?_)
    obtain ⟨v, hv9, rfl⟩ := hv9
    refine W.eq (g2 := F0 m 116 ls [.int (nI v)]) rfl ?_
    refine lv_istore (lv' := [(14, .int (nI v)), (0, .ref b), (1, .ref x), (2, .int (nI R0)), (3, .int (nI (mnF M))), (4, .int (mlm M)), (5, .int (nI (mnB M))), (6, .ref (ar 0)), (7, .ref (ar 1)), (8, .ref (ar 2)), (9, .ref (ar 3)), (10, .ref (ar 4)), (11, .ref (ar 5)), (12, .ref (ar 6)), (13, .int (nI t))]) hC.1 hC.2.1 dL_law_116 hl (by decide) rfl (fun ls hl => ?_)
    refine lv_aload_n hC.1 hC.2.1 dL_law_118 rfl (lv_at hl 1 rfl) ?_
    refine lv_iconst (v := 2) hC.1 hC.2.1 dL_law_119 (by decide) ?_
    refine lv_iconst (v := 3) hC.1 hC.2.1 dL_law_120 (by decide) ?_
    refine lv_iload hC.1 hC.2.1 dL_law_121 (lv_at hl 14 rfl) ?_
    refine lw_mul hC (k := 3) (n := t) rfl rfl  dL_law_123 ?_
    refine lw_add hC (k := 2) (n := (3 * t)) rfl rfl  dL_law_124 ?_
    refine lv_sipush (v := 9000) hC.1 hC.2.1 dL_law_125 (by decide) ?_
    refine ec_goR (ec_rSx hC (c_L_some l G b L xs ((2 + (3 * t))) 9000 (by omega) (by omega) (by decide) (by decide)) kL_148 (hOk.at hS hAN9) (hX.kept (hS.2.1 b hbl hbA)) (Nat.lt_of_lt_of_le hbl hS.1) hl.1 ⟨Nat.le_of_ble_eq_true rfl, Nat.le_of_ble_eq_true rfl⟩ rfl (Nat.le_of_ble_eq_true rfl) dL_law_128 ⟨(by omega), (by omega)⟩) (fun v9 hv9 => ?_)
    obtain ⟨u, hu, rfl⟩ := hv9
    refine W.eq (g2 := F0 m 131 ls [.int (nI u)]) rfl ?_
    refine lv_istore (lv' := [(15, .int (nI u)), (14, .int (nI v)), (0, .ref b), (1, .ref x), (2, .int (nI R0)), (3, .int (nI (mnF M))), (4, .int (mlm M)), (5, .int (nI (mnB M))), (6, .ref (ar 0)), (7, .ref (ar 1)), (8, .ref (ar 2)), (9, .ref (ar 3)), (10, .ref (ar 4)), (11, .ref (ar 5)), (12, .ref (ar 6)), (13, .int (nI t))]) hC.1 hC.2.1 dL_law_131 hl (by decide) rfl (fun ls hl => ?_)
    refine lv_iload hC.1 hC.2.1 dL_law_133 (lv_at hl 1 rfl) ?_
    refine lv_iload_n hC.1 hC.2.1 dL_law_135 rfl (lv_at hl 4 rfl) ?_
    refine lw_rem hC (k := v) (n := R0) rfl rfl (by omega) (by omega) (by omega) dL_law_136 ?_
    obtain ⟨r, hre⟩ : ∃ r, r = v % R0 := ⟨_, rfl⟩
    have hr9 : r < R0 := by rw [hre]; exact Nat.mod_lt _ hR0.2
    have hcr : cN (nI r) = r := cN_nI (by omega)
    rw [show v % R0 = r from hre.symm]
    refine lv_istore (lv' := [(16, .int (nI r)), (15, .int (nI u)), (14, .int (nI v)), (0, .ref b), (1, .ref x), (2, .int (nI R0)), (3, .int (nI (mnF M))), (4, .int (mlm M)), (5, .int (nI (mnB M))), (6, .ref (ar 0)), (7, .ref (ar 1)), (8, .ref (ar 2)), (9, .ref (ar 3)), (10, .ref (ar 4)), (11, .ref (ar 5)), (12, .ref (ar 6)), (13, .int (nI t))]) hC.1 hC.2.1 dL_law_137 hl (by decide) rfl (fun ls hl => ?_)
    refine lv_iload hC.1 hC.2.1 dL_law_139 (lv_at hl 2 rfl) ?_
    refine lv_iconst (v := 3) hC.1 hC.2.1 dL_law_141 (by decide) ?_
    refine lw_div hC (k := v) (n := 3) rfl rfl (by omega) (by omega) (by omega) dL_law_142 ?_
    refine lv_iconst (v := 3) hC.1 hC.2.1 dL_law_143 (by decide) ?_
    refine lw_rem hC (k := (v / 3)) (n := 3) rfl rfl (by omega) (by omega) (by omega) dL_law_144 ?_
    obtain ⟨c3, hc3e⟩ : ∃ c3, c3 = (v / 3) % 3 := ⟨_, rfl⟩
    have hc3 : c3 < 3 := by omega
    rw [show (v / 3) % 3 = c3 from hc3e.symm]
    refine lv_istore (lv' := [(17, .int (nI c3)), (16, .int (nI r)), (15, .int (nI u)), (14, .int (nI v)), (0, .ref b), (1, .ref x), (2, .int (nI R0)), (3, .int (nI (mnF M))), (4, .int (mlm M)), (5, .int (nI (mnB M))), (6, .ref (ar 0)), (7, .ref (ar 1)), (8, .ref (ar 2)), (9, .ref (ar 3)), (10, .ref (ar 4)), (11, .ref (ar 5)), (12, .ref (ar 6)), (13, .int (nI t))]) hC.1 hC.2.1 dL_law_145 hl (by decide) rfl (fun ls hl => ?_)
    refine lv_iload hC.1 hC.2.1 dL_law_147 (lv_at hl 3 rfl) ?_
    refine lv_bipush (v := 9) hC.1 hC.2.1 dL_law_149 (by decide) ?_
    refine lw_div hC (k := v) (n := 9) rfl rfl (by omega) (by omega) (by omega) dL_law_151 ?_
    refine lv_iconst (v := 3) hC.1 hC.2.1 dL_law_152 (by decide) ?_
    refine lw_rem hC (k := (v / 9)) (n := 3) rfl rfl (by omega) (by omega) (by omega) dL_law_153 ?_
    obtain ⟨d3, hd3e⟩ : ∃ d3, d3 = (v / 9) % 3 := ⟨_, rfl⟩
    have hd3 : d3 < 3 := by omega
    rw [show (v / 9) % 3 = d3 from hd3e.symm]
    refine lv_istore (lv' := [(18, .int (nI d3)), (17, .int (nI c3)), (16, .int (nI r)), (15, .int (nI u)), (14, .int (nI v)), (0, .ref b), (1, .ref x), (2, .int (nI R0)), (3, .int (nI (mnF M))), (4, .int (mlm M)), (5, .int (nI (mnB M))), (6, .ref (ar 0)), (7, .ref (ar 1)), (8, .ref (ar 2)), (9, .ref (ar 3)), (10, .ref (ar 4)), (11, .ref (ar 5)), (12, .ref (ar 6)), (13, .int (nI t))]) hC.1 hC.2.1 dL_law_154 hl (by decide) rfl (fun ls hl => ?_)
    refine lv_aload_n hC.1 hC.2.1 dL_law_156 rfl (lv_at hl 6 rfl) ?_
    refine lv_iload hC.1 hC.2.1 dL_law_157 (lv_at hl 2 rfl) ?_
    refine ec_goXE1 (ec_xV hC (c_X5_changes l hls G X M x (nI r)) kL_32 (hOk.at hS hAN9) ⟨hXs, hEC⟩ (hEC.rcv hK) hl.1 ⟨Nat.le_of_ble_eq_true rfl, Nat.le_of_ble_eq_true rfl⟩ rfl (Nat.le_of_ble_eq_true rfl) dL_law_159 ⟨(by omega), (by omega)⟩) hS hXA (fun E9 ce9 q9 H9 l9 hx hk9 hS9 h1 h2 h3 => (lw_no (T_R hW (show r < mnR M by omega)) hx (by decide)).elim) (fun H locs hp hzs hk1 hS => ?_)
    obtain ⟨-, hEC⟩ := hp
    have I := I.to F hS hzs hk1 hEC
    obtain ⟨hS, hXs, hEC, h5, z5, z6⟩ := id I
    refine ec_topi (y := (M.2.1 0 r)) (by rw [hcr]) ?_
    refine lv_istore (lv' := [(19, .int (M.2.1 0 r)), (18, .int (nI d3)), (17, .int (nI c3)), (16, .int (nI r)), (15, .int (nI u)), (14, .int (nI v)), (0, .ref b), (1, .ref x), (2, .int (nI R0)), (3, .int (nI (mnF M))), (4, .int (mlm M)), (5, .int (nI (mnB M))), (6, .ref (ar 0)), (7, .ref (ar 1)), (8, .ref (ar 2)), (9, .ref (ar 3)), (10, .ref (ar 4)), (11, .ref (ar 5)), (12, .ref (ar 6)), (13, .int (nI t))]) hC.1 hC.2.1 dL_law_162 hl (by decide) rfl (fun ls hl => ?_)
    refine lv_iload hC.1 hC.2.1 dL_law_164 (lv_at hl 5 rfl) ?_
    refine lv_bipush (v := 27) hC.1 hC.2.1 dL_law_166 (by decide) ?_
    refine lw_div hC (k := v) (n := 27) rfl rfl (by omega) (by omega) (by omega) dL_law_168 ?_
    refine lv_iconst (v := 2) hC.1 hC.2.1 dL_law_169 (by decide) ?_
    refine lw_rem hC (k := (v / 27)) (n := 2) rfl rfl (by omega) (by omega) (by omega) dL_law_170 ?_
    refine lw_is0 hC dL_law_171 dL_law_174 dL_law_175 dL_law_178 ?_
    obtain ⟨o, ho⟩ : ∃ o, o = (decide ((nI ((v / 27) % 2)) = 0)) := ⟨_, rfl⟩
    rw [← ho]
    refine lv_istore (lv' := [(20, .int (bI o)), (19, .int (M.2.1 0 r)), (18, .int (nI d3)), (17, .int (nI c3)), (16, .int (nI r)), (15, .int (nI u)), (14, .int (nI v)), (0, .ref b), (1, .ref x), (2, .int (nI R0)), (3, .int (nI (mnF M))), (4, .int (mlm M)), (5, .int (nI (mnB M))), (6, .ref (ar 0)), (7, .ref (ar 1)), (8, .ref (ar 2)), (9, .ref (ar 3)), (10, .ref (ar 4)), (11, .ref (ar 5)), (12, .ref (ar 6)), (13, .int (nI t))]) hC.1 hC.2.1 dL_law_179 hl (by decide) rfl (fun ls hl => ?_)
    refine lv_aload_n hC.1 hC.2.1 dL_law_181 rfl (lv_at hl 7 rfl) ?_
    refine lv_iconst (v := 3) hC.1 hC.2.1 dL_law_182 (by decide) ?_
    refine lv_iconst (v := 3) hC.1 hC.2.1 dL_law_183 (by decide) ?_
    refine lv_iload hC.1 hC.2.1 dL_law_184 (lv_at hl 20 rfl) ?_
    refine lw_mul hC (k := 3) (n := t) rfl rfl  dL_law_186 ?_
    refine lw_add hC (k := 3) (n := (3 * t)) rfl rfl  dL_law_187 ?_
    refine lv_bipush (v := 14) hC.1 hC.2.1 dL_law_188 (by decide) ?_
    refine ec_goR (ec_rSx hC (c_L_some l G b L xs ((3 + (3 * t))) 14 (by omega) (by omega) (by decide) (by decide)) kL_148 (hOk.at hS hAN9) (hX.kept (hS.2.1 b hbl hbA)) (Nat.lt_of_lt_of_le hbl hS.1) hl.1 ⟨Nat.le_of_ble_eq_true rfl, Nat.le_of_ble_eq_true rfl⟩ rfl (Nat.le_of_ble_eq_true rfl) dL_law_190 ⟨(by omega), (by omega)⟩) (fun v9 hv9 => ?_)
    obtain ⟨w9, hw9, rfl⟩ := hv9
    refine W.eq (g2 := F0 m 193 ls [.int (nI w9)]) rfl ?_
    refine W.widen (k := 200 + 8200 * t + 100) (n := 2000 + 81500 * t + 1000) (by omega) (by omega) ?_
    have hl9 : lv_has ls 28 [(0, .ref b), (1, .ref x), (2, .int (nI R0)), (3, .int (nI (mnF M))), (4, .int (mlm M)), (5, .int (nI (mnB M))), (6, .ref (ar 0)), (7, .ref (ar 1)), (8, .ref (ar 2)), (9, .ref (ar 3)), (10, .ref (ar 4)), (11, .ref (ar 5)), (12, .ref (ar 6)), (13, .int (nI t)), (14, .int (nI v)), (15, .int (nI u)), (16, .int (nI r)), (17, .int (nI c3)), (18, .int (nI d3)), (19, .int (M.2.1 0 r)), (20, .int (bI o))] := ⟨hl.1, hl.2.1, (ec_lvc (lv_at hl 7 rfl) (ec_lvc (lv_at hl 8 rfl) (ec_lvc (lv_at hl 9 rfl) (ec_lvc (lv_at hl 10 rfl) (ec_lvc (lv_at hl 11 rfl) (ec_lvc (lv_at hl 12 rfl) (ec_lvc (lv_at hl 13 rfl) (ec_lvc (lv_at hl 14 rfl) (ec_lvc (lv_at hl 15 rfl) (ec_lvc (lv_at hl 16 rfl) (ec_lvc (lv_at hl 17 rfl) (ec_lvc (lv_at hl 18 rfl) (ec_lvc (lv_at hl 19 rfl) (ec_lvc (lv_at hl 20 rfl) (ec_lvc (lv_at hl 6 rfl) (ec_lvc (lv_at hl 5 rfl) (ec_lvc (lv_at hl 4 rfl) (ec_lvc (lv_at hl 3 rfl) (ec_lvc (lv_at hl 2 rfl) (ec_lvc (lv_at hl 1 rfl) (ec_lvc (lv_at hl 0 rfl) ec_lvn)))))))))))))))))))))⟩
    have hj9 : w9 = 0 ∨ w9 = 1 ∨ w9 = 2 ∨ w9 = 3 ∨ w9 = 4 ∨ w9 = 5 ∨ w9 = 6 ∨ w9 = 7 ∨ w9 = 8 ∨ w9 = 9 ∨ w9 = 10 ∨ w9 = 11 ∨ w9 = 12 ∨ w9 = 13 := by omega
    rcases hj9 with rfl | rfl | rfl | rfl | rfl | rfl | rfl | rfl | rfl | rfl | rfl | rfl | rfl | rfl
    · exact lv_tableIn (x := nI 0) (off := 67) (tgt := 260) hC.1 hC.2.1 dL_law_193 (by decide) (by decide) rfl (by decide) (lw_set F I hAR hP hR hR0 ht hv9 hu hr9 hc3 hd3 hl9 (by omega) (by omega) kk)
    · exact lv_tableIn (x := nI 1) (off := 67) (tgt := 260) hC.1 hC.2.1 dL_law_193 (by decide) (by decide) rfl (by decide) (lw_set F I hAR hP hR hR0 ht hv9 hu hr9 hc3 hd3 hl9 (by omega) (by omega) kk)
    · exact lv_tableIn (x := nI 2) (off := 200) (tgt := 393) hC.1 hC.2.1 dL_law_193 (by decide) (by decide) rfl (by decide) (lw_mes F I hAR hP hR hR0 ht hv9 hu hr9 hc3 hd3 hl9 (by omega) (by omega) kk)
    · exact lv_tableIn (x := nI 3) (off := 200) (tgt := 393) hC.1 hC.2.1 dL_law_193 (by decide) (by decide) rfl (by decide) (lw_mes F I hAR hP hR hR0 ht hv9 hu hr9 hc3 hd3 hl9 (by omega) (by omega) kk)
    · exact lv_tableIn (x := nI 4) (off := 200) (tgt := 393) hC.1 hC.2.1 dL_law_193 (by decide) (by decide) rfl (by decide) (lw_mes F I hAR hP hR hR0 ht hv9 hu hr9 hc3 hd3 hl9 (by omega) (by omega) kk)
    · exact lv_tableIn (x := nI 5) (off := 310) (tgt := 503) hC.1 hC.2.1 dL_law_193 (by decide) (by decide) rfl (by decide) (lw_mak F I hAR hP hR hR0 ht hv9 hu hr9 hc3 hd3 hl9 (by omega) (by omega) kk)
    · exact lv_tableIn (x := nI 6) (off := 310) (tgt := 503) hC.1 hC.2.1 dL_law_193 (by decide) (by decide) rfl (by decide) (lw_mak F I hAR hP hR hR0 ht hv9 hu hr9 hc3 hd3 hl9 (by omega) (by omega) kk)
    · exact lv_tableIn (x := nI 7) (off := 368) (tgt := 561) hC.1 hC.2.1 dL_law_193 (by decide) (by decide) rfl (by decide) (lw_use F I hAR hP hR hR0 ht hv9 hu hr9 hc3 hd3 hl9 (by omega) (by omega) kk)
    · exact lv_tableIn (x := nI 8) (off := 368) (tgt := 561) hC.1 hC.2.1 dL_law_193 (by decide) (by decide) rfl (by decide) (lw_use F I hAR hP hR hR0 ht hv9 hu hr9 hc3 hd3 hl9 (by omega) (by omega) kk)
    · exact lv_tableIn (x := nI 9) (off := 570) (tgt := 763) hC.1 hC.2.1 dL_law_193 (by decide) (by decide) rfl (by decide) (lw_lim F I hAR hP hR hR0 ht hv9 hu hr9 hc3 hd3 hl9 (by omega) (by omega) kk)
    · exact lv_tableIn (x := nI 10) (off := 596) (tgt := 789) hC.1 hC.2.1 dL_law_193 (by decide) (by decide) rfl (by decide) (lw_bok F I hAR hP hR hR0 ht hv9 hu hr9 hc3 hd3 hl9 (by omega) (by omega) kk)
    · exact lv_tableIn (x := nI 11) (off := 596) (tgt := 789) hC.1 hC.2.1 dL_law_193 (by decide) (by decide) rfl (by decide) (lw_bok F I hAR hP hR hR0 ht hv9 hu hr9 hc3 hd3 hl9 (by omega) (by omega) kk)
    · exact lv_tableIn (x := nI 12) (off := 747) (tgt := 940) hC.1 hC.2.1 dL_law_193 (by decide) (by decide) rfl (by decide) (lw_can F I hAR hP hR hR0 ht hv9 hu hr9 hc3 hd3 hl9 (by omega) (by omega) kk)
    · exact lv_tableOut (x := nI 13) (tgt := 1047) hC.1 hC.2.1 dL_law_193 (Or.inr (by decide)) (by decide) (lw_pas F I hAR hP hR hR0 ht hv9 hu hr9 hc3 hd3 hl9 (by omega) (by omega) kk)

def adM : Nat → ecM
  | 0 => mM0
  | n + 1 => addM (adM n)
theorem adM_n : ∀ n, mnR (adM n) = n
  | 0 => rfl
  | n + 1 => by show mnR (adM n) + 1 = n + 1; rw [adM_n n]
theorem adM_f : ∀ n, mnF (adM n) = 0 ∧ mlm (adM n) = 24 ∧ mnB (adM n) = 0
  | 0 => ⟨rfl, rfl, rfl⟩
  | n + 1 => adM_f n
theorem PI.add {h c a n : Nat} {M : ecM} (P : PI h c a n M) : PI h c a n (addM M) := P
theorem adM_P : ∀ n, PI 0 0 0 0 (adM n)
  | 0 => PI.z rfl
  | n + 1 => (adM_P n).add
theorem AR.add {M : ecM} {g : Nat → Nat → Int32} (h : AR M g) : AR (addM M) g := h.to rfl rfl rfl rfl rfl rfl

set_option maxHeartbeats 4000000 in
set_option maxRecDepth 100000 in
/-- the law's rooms -/
theorem law_rooms {p : Program} {l : Launch} {e : Env} {s : State} {m : MethodId} {below : List Frame} {meth : Method} {c : Code} {G : ecG} {X : Nat → Prop} {b L x R0 : Nat} {xs : Nat → Int32} {ar : Nat → Nat} {H : Heap} {locs : List Loc} {g : Nat → Nat → Int32} {ls : Array Slot} (F : lwF p l s m c G X b L xs ar) (hr : meth.sig.returnType = ret) (hlocks : meth.locks = false) (hR0 : R0 ≤ 3 ∧ 0 < R0) (I : lwW s G X x ar H locs mM0 g) (hAR : AR mM0 g) (hl : lv_has ls 28 [(0, .ref b), (1, .ref x), (2, .int (nI R0)), (3, .int 0), (4, .int 24), (5, .int 0), (6, .ref (ar 0)), (7, .ref (ar 1)), (8, .ref (ar 2)), (9, .ref (ar 3)), (10, .ref (ar 4)), (11, .ref (ar 5)), (12, .ref (ar 6))]) : W p l e room_1 s m #[Value.ref b] below meth c H locs 100 1000 (lw_Z below #[Value.ref b] s) (F0 m 68 ls []) := by
  obtain ⟨hC, hls, hOk, hX, hbl, hL, hAN, hXA, hrA, hrD⟩ := id F
  have hK := hOk.1
  obtain ⟨hS, hXs, hEC, h5, z5, z6⟩ := id I
  have hW := hEC.wf
  have hn0 := hW.n
  have hAN9 : ∀ q, (fun q : Nat => s.heap.size ≤ q) q → ecN0 G ≤ q := hAN
  have hroom : 300000 ≤ room_1.cells := Nat.le_of_ble_eq_true rfl
  have sroom : 3000000 ≤ room_1.slots := Nat.le_of_ble_eq_true rfl
  refine lv_iconst (v := 0) hC.1 hC.2.1 dL_law_68 (by decide) ?_
  refine lv_istore (lv' := [(13, .int 0), (0, .ref b), (1, .ref x), (2, .int (nI R0)), (3, .int 0), (4, .int 24), (5, .int 0), (6, .ref (ar 0)), (7, .ref (ar 1)), (8, .ref (ar 2)), (9, .ref (ar 3)), (10, .ref (ar 4)), (11, .ref (ar 5)), (12, .ref (ar 6))]) hC.1 hC.2.1 dL_law_69 hl (by decide) rfl (fun ls hl => ?_)
  refine ec_loopC (n := R0) 8 150 (fun i H locs ls => lv_has ls 28 [(13, .int (nI i)), (0, .ref b), (1, .ref x), (2, .int (nI R0)), (3, .int 0), (4, .int 24), (5, .int 0), (6, .ref (ar 0)), (7, .ref (ar 1)), (8, .ref (ar 2)), (9, .ref (ar 3)), (10, .ref (ar 4)), (11, .ref (ar 5)), (12, .ref (ar 6))] ∧ (lwW s G X x ar H locs (adM i) g ∧ AR (adM i) g) ∧ True) ⟨⟨hl.1, hl.2.1, (ec_lvc (lv_at hl 0 rfl) (ec_lvc (lv_at hl 1 rfl) (ec_lvc (lv_at hl 2 rfl) (ec_lvc (lv_at hl 3 rfl) (ec_lvc (lv_at hl 4 rfl) (ec_lvc (lv_at hl 5 rfl) (ec_lvc (lv_at hl 6 rfl) (ec_lvc (lv_at hl 7 rfl) (ec_lvc (lv_at hl 8 rfl) (ec_lvc (lv_at hl 9 rfl) (ec_lvc (lv_at hl 10 rfl) (ec_lvc (lv_at hl 11 rfl) (ec_lvc (lv_at hl 12 rfl) (ec_lvc (lv_at hl 13 rfl) ec_lvn))))))))))))))⟩, ⟨I, hAR⟩, trivial⟩ (fun H locs ls h9 => ?_) (fun i H locs ls hi h9 hk => ?_)
  · obtain ⟨hl, hW9, hI⟩ := h9
    obtain ⟨I, hAR⟩ := hW9
    obtain ⟨hS, hXs, hEC, h5, z5, z6⟩ := id I
    have hW := hEC.wf
    have hn0 := hW.n
    refine lv_iload hC.1 hC.2.1 dL_law_71 (lv_at hl 0 rfl) ?_
    refine lv_iload_n hC.1 hC.2.1 dL_law_73 rfl (lv_at hl 3 rfl) ?_
    refine lv_icmp_ge (tgt := 94) hC.1 hC.2.1 dL_law_74 (by decide) (fun c_74 => ?_) (fun c => absurd (Int32.le_refl _) c)
    refine lv_iconst (v := 0) hC.1 hC.2.1 dL_law_94 (by decide) ?_
    refine lv_istore (lv' := [(13, .int 0), (0, .ref b), (1, .ref x), (2, .int (nI R0)), (3, .int 0), (4, .int 24), (5, .int 0), (6, .ref (ar 0)), (7, .ref (ar 1)), (8, .ref (ar 2)), (9, .ref (ar 3)), (10, .ref (ar 4)), (11, .ref (ar 5)), (12, .ref (ar 6))]) hC.1 hC.2.1 dL_law_95 hl (by decide) rfl (fun ls hl => ?_)
    obtain ⟨M9, hM9⟩ : ∃ M9, M9 = adM R0 := ⟨_, rfl⟩
    have hf9 := adM_f R0
    have hp9 := adM_P R0
    have hn9 := adM_n R0
    rw [← hM9] at I hAR hf9 hp9 hn9
    refine W.widen (k := 200) (n := 2000) (by omega) (by omega) ?_
    exact law_loop F hr hlocks hR0 I hAR hp9 hn9 (by rw [hf9.1, hf9.2.1, hf9.2.2]; exact ⟨hl.1, hl.2.1, (ec_lvc (lv_at hl 1 rfl) (ec_lvc (lv_at hl 2 rfl) (ec_lvc (lv_at hl 3 rfl) (ec_lvc (lv_at hl 4 rfl) (ec_lvc (lv_at hl 5 rfl) (ec_lvc (lv_at hl 6 rfl) (ec_lvc (lv_at hl 7 rfl) (ec_lvc (lv_at hl 8 rfl) (ec_lvc (lv_at hl 9 rfl) (ec_lvc (lv_at hl 10 rfl) (ec_lvc (lv_at hl 11 rfl) (ec_lvc (lv_at hl 12 rfl) (ec_lvc (lv_at hl 13 rfl) (ec_lvc (lv_at hl 0 rfl) ec_lvn))))))))))))))⟩)
  · obtain ⟨hl, hW9, hI⟩ := h9
    obtain ⟨I, hAR⟩ := hW9
    obtain ⟨hS, hXs, hEC, h5, z5, z6⟩ := id I
    have hW := hEC.wf
    have hn0 := hW.n
    have hcn := adM_n i
    refine lv_iload hC.1 hC.2.1 dL_law_71 (lv_at hl 0 rfl) ?_
    refine lv_iload_n hC.1 hC.2.1 dL_law_73 rfl (lv_at hl 3 rfl) ?_
    refine lv_icmp_ge (tgt := 94) hC.1 hC.2.1 dL_law_74 (by decide) (fun c => absurd c (lt_n hi (by omega))) (fun c_74 => ?_)
    refine lv_aload_n hC.1 hC.2.1 dL_law_77 rfl (lv_at hl 2 rfl) ?_
    have hT9 := (T_Add (M := adM i) (by omega))
    refine ec_goXE1 (ec_xSH hC (c_L_addRoom l hls G X (adM i) x ) kL_152 (hOk.at hS hAN9) ⟨hXs, hEC⟩ hl.1 ⟨Nat.le_of_ble_eq_true rfl, Nat.le_of_ble_eq_true rfl⟩ rfl (Nat.le_of_ble_eq_true rfl) dL_law_78 ⟨(by omega), (by omega)⟩) hS hXA (fun _ _ _ _ _ hx9 => hx9.elim) (fun H locs hEC hzs hk1 hS => ?_)
    rw [if_pos hT9] at hEC
    have hEC : EC G X (adM (i + 1)) x H := hEC
    have I := I.to F hS hzs hk1 hEC
    have hAR := hAR.add
    obtain ⟨hS, hXs, hEC, h5, z5, z6⟩ := id I
    have hW := hEC.wf
    have hn0 := hW.n
    refine ec_topi (y := (nI i)) (by rw [hT9, hv_0, hcn]) ?_
    refine lv_iload hC.1 hC.2.1 dL_law_81 (lv_at hl 0 rfl) ?_
    refine lv_icmp_eq (tgt := 88) hC.1 hC.2.1 dL_law_83 (by decide) (fun c_83 => ?_) (fun c => absurd rfl c)
    refine lv_iinc (v := (nI (i + 1))) (lv' := [(13, .int (nI (i + 1))), (0, .ref b), (1, .ref x), (2, .int (nI R0)), (3, .int 0), (4, .int 24), (5, .int 0), (6, .ref (ar 0)), (7, .ref (ar 1)), (8, .ref (ar 2)), (9, .ref (ar 3)), (10, .ref (ar 4)), (11, .ref (ar 5)), (12, .ref (ar 6))]) hC.1 hC.2.1 dL_law_88 hl (k := 0) rfl (nI_1 _) (by decide) rfl (fun ls hl => ?_)
    refine lv_goto (tgt := 71) hC.1 hC.2.1 dL_law_91 (by decide) ?_
    exact W.widen (by omega) (by omega) (hk H locs ls ⟨⟨hl.1, hl.2.1, (ec_lvc (lv_at hl 0 rfl) (ec_lvc (lv_at hl 1 rfl) (ec_lvc (lv_at hl 2 rfl) (ec_lvc (lv_at hl 3 rfl) (ec_lvc (lv_at hl 4 rfl) (ec_lvc (lv_at hl 5 rfl) (ec_lvc (lv_at hl 6 rfl) (ec_lvc (lv_at hl 7 rfl) (ec_lvc (lv_at hl 8 rfl) (ec_lvc (lv_at hl 9 rfl) (ec_lvc (lv_at hl 10 rfl) (ec_lvc (lv_at hl 11 rfl) (ec_lvc (lv_at hl 12 rfl) (ec_lvc (lv_at hl 13 rfl) ec_lvn))))))))))))))⟩, ⟨I, hAR⟩, trivial⟩)

set_option maxHeartbeats 4000000 in
set_option maxRecDepth 100000 in
/-- THE LAW, from its entry -/
theorem whole_start {p : Program} {e : Env} {s : State} {m : MethodId} {below : List Frame} {meth : Method} {c : Code} (l : Launch) (hflags : l.flags = flags0) {b L : Nat} {xs : Nat → Int32} (hL : L ≤ 260) (C0 : lw_At p s m meth c b L xs) : W p l e room_1 s m #[Value.ref b] below meth c s.heap [] 0 0 (lw_Z below #[Value.ref b] s) (entryFrame m ([Value.ref b] : List Value).toArray 28) := by
  obtain ⟨hx, hb, hr, hml, hown, hts, hX, hbl, hlocks, hgv⟩ := C0
  have hls : l.stackTraces = false := by
    unfold Launch.stackTraces
    rw [hflags]
    decide +kernel
  obtain ⟨G, hN0, hOk⟩ := lw_ok hts hgv
  have hC : CallFix p m c cL_law 28 s #[Value.ref b] GW RL := ⟨hx, hb, hml, hown, htsG hts⟩
  have hK := hOk.1
  have hAN : ∀ q : Nat, s.heap.size ≤ q → ecN0 G ≤ q := fun q h => by rw [hN0]; exact h
  have hAN9 : ∀ q, (fun q : Nat => s.heap.size ≤ q) q → ecN0 G ≤ q := hAN
  have hbA : ¬ (fun q : Nat => s.heap.size ≤ q) b := Nat.not_le.mpr hbl
  have hS : va_S (fun q : Nat => s.heap.size ≤ q) s.heap s.heap [] := va_S.rf
  have hl := lv_entry ([.ref b]) (n := 28) (Nat.le_of_ble_eq_true rfl)
  rw [lg_entry_eq]
  generalize (lg_sl ([.ref b]) ++ List.replicate (28 - (lg_sl ([.ref b])).length) Slot.unset).toArray = ls at hl ⊢
  have hl : lv_has ls 28 [(0, .ref b)] := hl
  refine ec_new hC hK hS cfX5 nL_14 (fs := [.null, .null, .null, .null, .int 0, .int 0]) (lt_s (lt_s (lt_s (lt_s (lt_s (lt_s lt_0 rfl) rfl) rfl) rfl) rfl) rfl) (Nat.le_of_ble_eq_true rfl) (Nat.le_of_ble_eq_true rfl) dL_law_0 (fun x H xe hx9 hk0 hS hz0 => ?_)
  have hA : s.heap.size ≤ H.size := hk0.1
  have hxA : s.heap.size ≤ x := by rw [xe]; exact Nat.le_refl _
  refine lv_dup hC.1 hC.2.1 dL_law_3 rfl ?_
  refine ec_goE0 (ec_rI hC (c_X5_init l G (fun q : Nat => s.heap.size ≤ q) x) kL_147 (hOk.at hS hAN9) ⟨⟨hAN, fun q hq => Nat.le_trans hA hq⟩, hxA, hx9⟩ hl.1 ⟨Nat.le_of_ble_eq_true rfl, Nat.le_of_ble_eq_true rfl⟩ rfl (Nat.le_of_ble_eq_true rfl) dL_law_4 ⟨Nat.le_of_ble_eq_true rfl, Nat.le_of_ble_eq_true rfl⟩) hS (fun _ h => h) (fun H locs hEC hz hk1 hS => ?_)
  have hA : s.heap.size ≤ H.size := Nat.le_trans hA hz
  refine lv_astore_n (lv' := [(1, .ref x), (0, .ref b)]) hC.1 hC.2.1 dL_law_7 rfl hl (by decide) rfl (fun ls hl => ?_)
  obtain ⟨n1, hn1⟩ : ∃ n1, n1 = H.size := ⟨_, rfl⟩
  have hEC : EC G (fun q : Nat => s.heap.size ≤ q ∧ q < n1) mM0 x H := hEC.mono (fun q h1 h2 => ⟨h2, by rw [hn1]; exact h1⟩)
  refine lv_iconst (v := 1) hC.1 hC.2.1 dL_law_8 (by decide) ?_
  refine lv_aload_n hC.1 hC.2.1 dL_law_9 rfl (lv_at hl 1 rfl) ?_
  refine lv_iconst (v := 0) hC.1 hC.2.1 dL_law_10 (by decide) ?_
  refine lv_iconst (v := 3) hC.1 hC.2.1 dL_law_11 (by decide) ?_
  refine ec_goR (ec_rSx hC (c_L_some l G b L xs 0 3 (by omega) (by omega) (by decide) (by decide)) kL_148 (hOk.at hS hAN9) (hX.kept (hS.2.1 b hbl hbA)) (Nat.lt_of_lt_of_le hbl hS.1) hl.1 ⟨Nat.le_of_ble_eq_true rfl, Nat.le_of_ble_eq_true rfl⟩ rfl (Nat.le_of_ble_eq_true rfl) dL_law_12 ⟨(Nat.le_of_ble_eq_true rfl), (Nat.le_of_ble_eq_true rfl)⟩) (fun v9 hv9 => ?_)
  obtain ⟨w9, hw9, rfl⟩ := hv9
  refine W.eq (g2 := F0 m 15 ls [.int (nI w9), .int 1]) rfl ?_
  refine lw_add hC (k := 1) (n := w9) rfl rfl  dL_law_15 ?_
  obtain ⟨R0, hR0e⟩ : ∃ R0, R0 = 1 + w9 := ⟨_, rfl⟩
  rw [show 1 + w9 = R0 from hR0e.symm]
  refine lv_istore_n (lv' := [(2, .int (nI R0)), (1, .ref x), (0, .ref b)]) hC.1 hC.2.1 dL_law_16 rfl hl (by decide) rfl (fun ls hl => ?_)
  refine lv_iconst (v := 0) hC.1 hC.2.1 dL_law_17 (by decide) ?_
  refine lv_istore_n (lv' := [(3, .int 0), (2, .int (nI R0)), (1, .ref x), (0, .ref b)]) hC.1 hC.2.1 dL_law_18 rfl hl (by decide) rfl (fun ls hl => ?_)
  refine lv_bipush (v := 24) hC.1 hC.2.1 dL_law_19 (by decide) ?_
  refine lv_istore (lv' := [(4, .int 24), (3, .int 0), (2, .int (nI R0)), (1, .ref x), (0, .ref b)]) hC.1 hC.2.1 dL_law_21 hl (by decide) rfl (fun ls hl => ?_)
  refine lv_iconst (v := 0) hC.1 hC.2.1 dL_law_23 (by decide) ?_
  refine lv_istore (lv' := [(5, .int 0), (4, .int 24), (3, .int 0), (2, .int (nI R0)), (1, .ref x), (0, .ref b)]) hC.1 hC.2.1 dL_law_24 hl (by decide) rfl (fun ls hl => ?_)
  refine lv_bipush (v := 17) hC.1 hC.2.1 dL_law_26 (by decide) ?_
  refine ec_newI hC hK hS q451 17 rfl (by decide) (Nat.le_of_ble_eq_true rfl) (Nat.le_of_ble_eq_true rfl) dL_law_28 (fun a0 H ae0 ha0 hk0 hS hz10 => ?_)
  have hEC := hEC.kp hk0
  refine lv_astore (lv' := [(6, .ref a0), (5, .int 0), (4, .int 24), (3, .int 0), (2, .int (nI R0)), (1, .ref x), (0, .ref b)]) hC.1 hC.2.1 dL_law_30 hl (by decide) rfl (fun ls hl => ?_)
  refine lv_bipush (v := 17) hC.1 hC.2.1 dL_law_32 (by decide) ?_
  refine ec_newI hC hK hS q451 17 rfl (by decide) (Nat.le_of_ble_eq_true rfl) (Nat.le_of_ble_eq_true rfl) dL_law_34 (fun a1 H ae1 ha1 hk0 hS hz11 => ?_)
  have hEC := hEC.kp hk0
  have ha0 := ha0.kp hk0
  refine lv_astore (lv' := [(7, .ref a1), (6, .ref a0), (5, .int 0), (4, .int 24), (3, .int 0), (2, .int (nI R0)), (1, .ref x), (0, .ref b)]) hC.1 hC.2.1 dL_law_36 hl (by decide) rfl (fun ls hl => ?_)
  refine lv_bipush (v := 17) hC.1 hC.2.1 dL_law_38 (by decide) ?_
  refine ec_newI hC hK hS q451 17 rfl (by decide) (Nat.le_of_ble_eq_true rfl) (Nat.le_of_ble_eq_true rfl) dL_law_40 (fun a2 H ae2 ha2 hk0 hS hz12 => ?_)
  have hEC := hEC.kp hk0
  have ha0 := ha0.kp hk0
  have ha1 := ha1.kp hk0
  refine lv_astore (lv' := [(8, .ref a2), (7, .ref a1), (6, .ref a0), (5, .int 0), (4, .int 24), (3, .int 0), (2, .int (nI R0)), (1, .ref x), (0, .ref b)]) hC.1 hC.2.1 dL_law_42 hl (by decide) rfl (fun ls hl => ?_)
  refine lv_bipush (v := 17) hC.1 hC.2.1 dL_law_44 (by decide) ?_
  refine ec_newI hC hK hS q451 17 rfl (by decide) (Nat.le_of_ble_eq_true rfl) (Nat.le_of_ble_eq_true rfl) dL_law_46 (fun a3 H ae3 ha3 hk0 hS hz13 => ?_)
  have hEC := hEC.kp hk0
  have ha0 := ha0.kp hk0
  have ha1 := ha1.kp hk0
  have ha2 := ha2.kp hk0
  refine lv_astore (lv' := [(9, .ref a3), (8, .ref a2), (7, .ref a1), (6, .ref a0), (5, .int 0), (4, .int 24), (3, .int 0), (2, .int (nI R0)), (1, .ref x), (0, .ref b)]) hC.1 hC.2.1 dL_law_48 hl (by decide) rfl (fun ls hl => ?_)
  refine lv_bipush (v := 17) hC.1 hC.2.1 dL_law_50 (by decide) ?_
  refine ec_newI hC hK hS q451 17 rfl (by decide) (Nat.le_of_ble_eq_true rfl) (Nat.le_of_ble_eq_true rfl) dL_law_52 (fun a4 H ae4 ha4 hk0 hS hz14 => ?_)
  have hEC := hEC.kp hk0
  have ha0 := ha0.kp hk0
  have ha1 := ha1.kp hk0
  have ha2 := ha2.kp hk0
  have ha3 := ha3.kp hk0
  refine lv_astore (lv' := [(10, .ref a4), (9, .ref a3), (8, .ref a2), (7, .ref a1), (6, .ref a0), (5, .int 0), (4, .int 24), (3, .int 0), (2, .int (nI R0)), (1, .ref x), (0, .ref b)]) hC.1 hC.2.1 dL_law_54 hl (by decide) rfl (fun ls hl => ?_)
  refine lv_bipush (v := 17) hC.1 hC.2.1 dL_law_56 (by decide) ?_
  refine ec_newZ hC hK hS q720 17 rfl (by decide) (Nat.le_of_ble_eq_true rfl) (Nat.le_of_ble_eq_true rfl) dL_law_58 (fun a5 H ae5 ha5 hk0 hS hz15 => ?_)
  have hEC := hEC.kp hk0
  have ha0 := ha0.kp hk0
  have ha1 := ha1.kp hk0
  have ha2 := ha2.kp hk0
  have ha3 := ha3.kp hk0
  have ha4 := ha4.kp hk0
  refine lv_astore (lv' := [(11, .ref a5), (10, .ref a4), (9, .ref a3), (8, .ref a2), (7, .ref a1), (6, .ref a0), (5, .int 0), (4, .int 24), (3, .int 0), (2, .int (nI R0)), (1, .ref x), (0, .ref b)]) hC.1 hC.2.1 dL_law_60 hl (by decide) rfl (fun ls hl => ?_)
  refine lv_bipush (v := 17) hC.1 hC.2.1 dL_law_62 (by decide) ?_
  refine ec_newZ hC hK hS q720 17 rfl (by decide) (Nat.le_of_ble_eq_true rfl) (Nat.le_of_ble_eq_true rfl) dL_law_64 (fun a6 H ae6 ha6 hk0 hS hz16 => ?_)
  have hEC := hEC.kp hk0
  have ha0 := ha0.kp hk0
  have ha1 := ha1.kp hk0
  have ha2 := ha2.kp hk0
  have ha3 := ha3.kp hk0
  have ha4 := ha4.kp hk0
  have ha5 := ha5.kp hk0
  refine lv_astore (lv' := [(12, .ref a6), (11, .ref a5), (10, .ref a4), (9, .ref a3), (8, .ref a2), (7, .ref a1), (6, .ref a0), (5, .int 0), (4, .int 24), (3, .int 0), (2, .int (nI R0)), (1, .ref x), (0, .ref b)]) hC.1 hC.2.1 dL_law_66 hl (by decide) rfl (fun ls hl => ?_)
  have e0 : a0 = n1 := by omega
  have e1 : a1 = n1 + 1 := by omega
  have e2 : a2 = n1 + 2 := by omega
  have e3 : a3 = n1 + 3 := by omega
  have e4 : a4 = n1 + 4 := by omega
  have e5 : a5 = n1 + 5 := by omega
  have e6 : a6 = n1 + 6 := by omega
  have e9 : H.size = n1 + 7 := by omega
  subst e1 e2 e3 e4 e5 e6
  have hE : EC G (fun q : Nat => (s.heap.size ≤ q ∧ q < n1) ∨ n1 + 7 ≤ q) mM0 x H := hEC.mono (fun q _ h => Or.inl h)
  have hXA : ∀ q, (fun q : Nat => (s.heap.size ≤ q ∧ q < n1) ∨ n1 + 7 ≤ q) q → s.heap.size ≤ q := fun q h => by
    rcases h with h | h
    · exact h.1
    · omega
  refine W.widen (k := 100) (n := 1000) (Nat.le_of_ble_eq_true rfl) (Nat.le_of_ble_eq_true rfl) ?_
  have F : lwF p l s m c G (fun q : Nat => (s.heap.size ≤ q ∧ q < n1) ∨ n1 + 7 ≤ q) b L xs (fun j => n1 + j) := ⟨hC, hls, hOk, hX, hbl, hL, hAN, hXA, fun j hj => ⟨by show s.heap.size ≤ n1 + j; omega, fun z => by
    have z : (s.heap.size ≤ n1 + j ∧ n1 + j < n1) ∨ n1 + 7 ≤ n1 + j := z
    rcases z with z | z
    · have := z.2; omega
    · omega⟩, fun i j hi hj hij z => hij (by have z : n1 + i = n1 + j := z; omega)⟩
  have I : lwW s G (fun q : Nat => (s.heap.size ≤ q ∧ q < n1) ∨ n1 + 7 ≤ q) x (fun j => n1 + j) H _ mM0 (fun _ _ => 0) := ⟨hS, ⟨fun q h => hAN q (hXA q h), fun q h => Or.inr (by omega)⟩, hE, fun j hj => by
    rcases (show j = 0 ∨ j = 1 ∨ j = 2 ∨ j = 3 ∨ j = 4 by omega) with rfl | rfl | rfl | rfl | rfl
    · rw [e0] at ha0; exact ha0
    · exact ha1
    · exact ha2
    · exact ha3
    · exact ha4, ha5, ha6⟩
  have hAR : AR mM0 (fun _ _ => 0) := ⟨fun k hk => absurd hk (Nat.not_lt_zero k), fun k => rfl⟩
  rw [e0] at hl
  exact law_rooms F hr hlocks ⟨by omega, by omega⟩ I hAR ⟨hl.1, hl.2.1, (ec_lvc (lv_at hl 12 rfl) (ec_lvc (lv_at hl 11 rfl) (ec_lvc (lv_at hl 10 rfl) (ec_lvc (lv_at hl 9 rfl) (ec_lvc (lv_at hl 8 rfl) (ec_lvc (lv_at hl 7 rfl) (ec_lvc (lv_at hl 6 rfl) (ec_lvc (lv_at hl 5 rfl) (ec_lvc (lv_at hl 4 rfl) (ec_lvc (lv_at hl 3 rfl) (ec_lvc (lv_at hl 2 rfl) (ec_lvc (lv_at hl 1 rfl) (ec_lvc (lv_at hl 0 rfl) ec_lvn)))))))))))))⟩

set_option maxHeartbeats 4000000 in
theorem lw_walk (l : Launch) (hflags : l.flags = flags0) (b : Addr) (xs : List Int32) : MetFree l x (headSpec (Jvm.Cond.code x code maxLocals ret :: tables_1) room_1) (lw_P b xs) (fun _ _ _ _ _ => True) lw_Q := by
  refine MetFree.of_bodyS (code := code) (maxLocals := maxLocals) (ret := ret) (by decide) ?_ ?_
  · intro args s m h hn
    obtain ⟨meth, c, h1, h2, h3, h4, h5, h6, -, -⟩ := Cond.code_spec hn (atoms_spec (ws := Jvm.Cond.code x code maxLocals ret :: tables_1) h _ List.mem_cons_self)
    exact ⟨meth, c, h1, h2, h3, h4, h5, h6⟩
  · intro p e s m args below meth c s₁ B hml0 hP _
    obtain ⟨rfl, hx, hbd, hgv⟩ := hP
    obtain ⟨scr, harrAt, hlist, hof, hsmall⟩ := hx
    obtain ⟨hcb, hkn, -, -⟩ := State.arrayAt?_spec harrAt
    have hown : s.vm.findClass R_law = some m.cls := findClass_of_methodNamed B.named
    have hts0 : ∀ c ∈ (Jvm.Cond.code x code maxLocals ret :: tables_1), c.before #[Value.ref b] s = true := atoms_spec (ws := Jvm.Cond.code x code maxLocals ret :: tables_1) B.pre
    have hts : ∀ w ∈ lw_tbl, w.before #[Value.ref b] s = true := k2_hts_sels lw_privs (fun w hw => hts0 w (List.mem_cons_of_mem _ hw)) lw_privs_ok
    have hml : c.maxLocals = 28 := B.maxLocals_eq (hts0 _ List.mem_cons_self)
    have X₀ : Stand p l e room_1 s m #[Value.ref b] below meth c s₁ [] 0 0 := Stand.of_body B
    have hh0 : s₁.heap = s.heap := by rw [B.state]; rfl
    have hsz : scr.slots.size = xs.length := by rw [← Array.length_toList, hlist, List.length_map]
    have hval : ∀ j : Nat, j < xs.length → scr.slots[j]? = some (.int (xs.getD j 0)) := fun j hj => by
      rw [← Array.getElem?_toList, hlist]
      simp [hj]
    have hbl : b < s.heap.size := (Array.getElem?_eq_some_iff.mp hcb).1
    have hX : va_X b xs.length (fun j => xs.getD j 0) s s.heap := ⟨scr, hcb, hof, hkn, hsz, hval⟩
    have K : W p l e room_1 s m #[Value.ref b] below meth c s₁.heap [] 0 0 (lw_Z below #[Value.ref b] s) (entryFrame m ([Value.ref b] : List Value).toArray 28) := by
      rw [hh0]
      exact whole_start l hflags hbd ⟨B.exec, B.bytes, B.returns, hml, hown, hts, hX, hbl, B.notSynchronized, hgv⟩
    obtain ⟨t, a1, o, b1, b2, b3⟩ := K s₁ rfl X₀
    exact ⟨t, o, a1, b1, b2, b3⟩
theorem lw_pre_spec {args : Array Value} {s : State} (h : (Jvm.Cond.and given_1 narrow_1).before args s = true) (hr : rest_1_c.before args s = true) : ∃ (b : Addr) (xs : List Int32), lw_P b xs args s := by
  have hs := flat_of_before _ h
  have hq := flat_of_before _ hr
  have hc : (Cond.count 1).before args s = true := hs _ (by decide +kernel)
  have harr : (Cond.arrayOf (.arg 0) .int).before args s = true := hs _ (by decide +kernel)
  have hle : (Cond.le (.length (.arg 0)) (.int 260)).before args s = true := hs _ (by decide +kernel)
  have hlen : (Cond.isInt (.length (.arg 0))).before args s = true := hq _ (by decide +kernel)
  have hall : (Cond.all (.arg 0) (.isInt (.elem (.arg 0) (.index 0)))).before args s = true := hq _ (by decide +kernel)
  obtain ⟨b, xs, hb, hx⟩ := State.ints_of_pre rfl harr hlen hall
  have hsm : xs.length < 2 ^ 31 := hx.choose_spec.2.2.2
  have hev : (Term.length (.arg 0)).eval args s none [] s = some (.int xs.length.toInt32) := hx.length_eval hb
  have hv := Cond.le_ints hev (show (Term.int 260).eval args s none [] s = some (.int 260) from rfl)
  have hd : xs.length.toInt32 ≤ 260 := by
    simpa [Cond.before, Cond.holds, hv] using hle
  have hN : xs.length ≤ 260 := (Int32.ofNat_le_ofNat hsm (by decide)).mp (show Int32.ofNat xs.length ≤ Int32.ofNat 260 from hd)
  exact ⟨b, xs, Cond.one_arg hc (show args[0]? = some (.ref b) from hb), hx, hN, h⟩
theorem lw_comes (l : Launch) (hflags : l.flags = flags0) : Comes l x (Jvm.Cond.code x code maxLocals ret :: tables_1) room_1 (fun tb e args s => Calls_1 tb e args s ∧ rest_1 tb e args s ∧ Pre_1 tb e args s)
    (fun _ _ args s o t => lw_Q args s o t) := by
  intro p e ha hc hk s m args below hf hfit hheap happ hpre
  obtain ⟨b, xs, hP⟩ := lw_pre_spec hpre.2.2 hpre.2.1
  obtain ⟨k, o, h1, h2, h3, hQ⟩ := lw_walk l hflags b xs p e ha hc hk s m args below hf ((Spec.applies_iff_loose hf).mp happ).1 hP trivial
  exact ⟨k, o, h1, h2, h3, hQ⟩
theorem lw_frame {s t : State} {o : Outcome} {args : Array Value} (h : State.butDraws s t lw_cs (fun t1 => Framed s o t1 [] 718548 6946127)) :
    State.butDraws s t [Jvm.Choice.named "NaN.bits"] (fun t1 => Framed s o t1 (fieldLocs frame_1_writes args s ++ arrayLocs frame_1_arrays args s ++ staticLocs frame_1_statics s) 718548 6946127) := h
theorem lw_limb (L : Cond) (hL : ∀ (args : Array Value) (s t : State), L.after args s (.returned (some (.int 1))) t = true) :
    ArmFor flags0 classFile x code maxLocals ret World_1 tables_1 room_1 Calls_1 rest_1 Pre_1
      (fun tb e a s o t => postC L tb e a s o t ∧ State.butDraws s t [Jvm.Choice.named "NaN.bits"] (fun t1 => Framed s o t1 (fieldLocs frame_1_writes a s ++ arrayLocs frame_1_arrays a s ++ staticLocs frame_1_statics s) 718548 6946127)) := by
  intro l hflags _ _ p e ha hc hk s m args below hf hfit hheap happ hpre
  obtain ⟨k, o, h1, h2, h3, rfl, hF⟩ := lw_comes l hflags p e ha hc hk s m args below hf hfit hheap happ hpre
  exact ⟨k, _, h1, h2, h3, hL args s _, lw_frame hF⟩
theorem i_vc : Claimed_1_1 ∧ Claimed_1_2 := ⟨lw_limb limb_1_1 (fun args s t => by simp [limb_1_1, Cond.after, Cond.holds, Cond.value]), lw_limb limb_1_2 (fun args s t => Cond.after_iff.mpr (by
  first | (rw [show limb_1_2 = Cond.eq .result (.int 1) from rfl, Cond.eq_ints (x := 1) (y := 1) rfl rfl]; simp; done) | (simp [limb_1_2, Cond.value, Term.eval]; done)))⟩
