set_option maxHeartbeats 4000000 in
set_option maxRecDepth 100000 in
/-- case 20: isChecked -/
theorem lw_c20 {p : Program} {l : Launch} {e : Env} {s : State} {m : MethodId} {below : List Frame} {meth : Method} {c : Code} {G : ecG} {X Y : Nat → Prop} {b L x y zo zd i : Nat} {ya : Nat → Nat} {xs : Nat → Int32} {H : Heap} {locs : List Loc} {M : ecM} {th : Int32} {f : Nat → Int64} {fd : Nat → UInt64} {ls : Array Slot} {cells slots : Nat} {Q : State → Prop} (F : lwF p l s m c G X Y b L xs zo zd) (I : lwI s G X Y x y zo zd ya H locs M M th f fd) (hi : i + 7 ≤ L) (hl : lv_has ls 9 (lwL b x y zo zd i)) (hc : cells + 8 ≤ room_1.cells) (hs : slots + 150 ≤ room_1.slots) (kk : ∀ (H : Heap) (locs : List Loc) (M : ecM) (th : Int32) (f : Nat → Int64) (fd : Nat → UInt64) (ls : Array Slot), lwI s G X Y x y zo zd ya H locs M M th f fd → lv_has ls 9 (lwL b x y zo zd i) → W p l e room_1 s m #[Value.ref b] below meth c H locs (cells + 8) (slots + 150) Q (F0 m 2146 ls [])) : W p l e room_1 s m #[Value.ref b] below meth c H locs cells slots Q (F0 m 1499 ls []) := by
  obtain ⟨hC, hls, hOk, hX, hbl, hL, hAN, hXA, hYA, hoA, hdA, hYX, hXo, hXd, hYo, hYd, hdo⟩ := id F
  have hK := hOk.1
  have hY : ∀ q, Y q → ecN0 G ≤ q := fun q h => hAN q (hYA q h)
  have hwf := I.2.2.1.wf
  obtain ⟨hS, hXs, hEC, hx, hz, hzd⟩ := id I
  have hl : lv_has ls 9 [(0, .ref b), (1, .ref x), (2, .ref y), (3, .ref zo), (4, .ref zd), (5, .int (nI i))] := hl
  refine lv_aload_n hC.1 hC.2.1 dL_law_1499 rfl (lv_at hl 1 rfl) ?_
  refine lv_aload_n hC.1 hC.2.1 dL_law_1500 rfl (lv_at hl 0 rfl) ?_
  refine lv_iload hC.1 hC.2.1 dL_law_1501 (lv_at hl 5 rfl) ?_
  refine lv_iconst (v := 1) hC.1 hC.2.1 dL_law_1503 (by decide) ?_
  refine lv_iadd hC.1 hC.2.1 dL_law_1504 ?_
  refine lw_ld hC hX hbl hS hL (i + 1) (nI_add i 1) (by omega) dL_law_1505 ?_
  refine lv_aload_n hC.1 hC.2.1 dL_law_1506 rfl (lv_at hl 3 rfl) ?_
  refine ec_goXE1 (ec_xSH hC (c_L_isChecked l hls G X M x zo f hXo (hAN _ hoA) (xs (i + 1))) kL_189 (hOk.at hS hAN) ⟨hXs, hEC, hz⟩ hl.1 ⟨Nat.le_of_ble_eq_true rfl, Nat.le_of_ble_eq_true rfl⟩ rfl (Nat.le_of_ble_eq_true rfl) dL_law_1507 ⟨hc, hs⟩) hS (fun q h => h.elim (hXA q) (fun h => by rw [h]; exact hoA)) (fun _ _ _ _ _ hx9 => hx9.elim) (fun H locs hp hzs hk1 hS => ?_)
  obtain ⟨hEC, f, hz, hf⟩ := hp
  rw [ite_self] at hEC
  have I := I.hlp F hS hzs hk1 hEC hz
  obtain ⟨hS, hXs, hEC, hx, hz, hzd⟩ := id I
  refine lv_istore (lv' := [(6, .int (nI (thF M (xs (i + 1))))), (0, .ref b), (1, .ref x), (2, .ref y), (3, .ref zo), (4, .ref zd), (5, .int (nI i))]) hC.1 hC.2.1 dL_law_1510 hl (by decide) rfl (fun ls hl => ?_)
  refine lv_aload_n hC.1 hC.2.1 dL_law_1512 rfl (lv_at hl 3 rfl) ?_
  refine lv_aload_n hC.1 hC.2.1 dL_law_1513 rfl (lv_at hl 1 rfl) ?_
  refine lv_iload hC.1 hC.2.1 dL_law_1514 (lv_at hl 6 rfl) ?_
  refine lv_iconst (v := 1) hC.1 hC.2.1 dL_law_1516 (by decide) ?_
  refine lv_iadd hC.1 hC.2.1 dL_law_1517 ?_
  refine lw_ld hC hX hbl hS hL (i + 1) (nI_add i 1) (by omega) dL_law_1518 ?_
  refine ec_goEi (ec_rV hC (c_X6_isChecked l G Y M th y ya hY hwf (xs (i + 1))) kL_191 (hOk.at hS hAN) hx (ec_rc hK hx.1 ⟨_, _, rfl⟩) hl.1 ⟨Nat.le_of_ble_eq_true rfl, Nat.le_of_ble_eq_true rfl⟩ rfl (Nat.le_of_ble_eq_true rfl) dL_law_1519 ⟨hc, hs⟩) hS hYA (fun w H locs hp hzs hk1 hS => ?_)
  obtain ⟨hw, hp⟩ := hp
  have I := I.mod F hS hzs hk1 hp
  obtain ⟨hS, hXs, hEC, hx, hz, hzd⟩ := id I
  refine lv_istore (lv' := [(7, .int w), (6, .int (nI (thF M (xs (i + 1))))), (0, .ref b), (1, .ref x), (2, .ref y), (3, .ref zo), (4, .ref zd), (5, .int (nI i))]) hC.1 hC.2.1 dL_law_1522 hl (by decide) rfl (fun ls hl => ?_)
  refine lv_aload_n hC.1 hC.2.1 dL_law_1524 rfl (lv_at hl 4 rfl) ?_
  refine ec_go1 (ec_rV hC (c_X6_thrown l G Y _ _ y ya) kL_122 (hOk.at hS hAN) hx (ec_rc hK hx.1 ⟨_, _, rfl⟩) hl.1 ⟨Nat.le_of_ble_eq_true rfl, Nat.le_of_ble_eq_true rfl⟩ rfl (Nat.le_of_ble_eq_true rfl) dL_law_1525 ⟨hc, hs⟩) ?_
  refine lv_iload hC.1 hC.2.1 dL_law_1528 (lv_at hl 1 rfl) ?_
  refine lv_icmp_eq (tgt := 1535) hC.1 hC.2.1 dL_law_1530 (by decide) (fun c_1530 => ?_) (fun c => absurd rfl c)
  refine lv_iload hC.1 hC.2.1 dL_law_1535 (lv_at hl 1 rfl) ?_
  refine lv_if_ne (tgt := 1559) hC.1 hC.2.1 dL_law_1537 (by decide) (fun c_1537 => ?_) (fun c_1537 => ?_)
  · refine lv_goto (tgt := 2146) hC.1 hC.2.1 dL_law_1559 (by decide) ?_
    exact kk _ _ _ _ _ _ _ I (lv_sub hl [2, 3, 4, 5, 6, 7] rfl)
  · refine lv_aload_n hC.1 hC.2.1 dL_law_1540 rfl (lv_at hl 5 rfl) ?_
    refine lv_iconst (v := 0) hC.1 hC.2.1 dL_law_1541 (by decide) ?_
    have hT : thF M (xs (i + 1)) = 0 := (nI_eq (b := 0) (by first | exact thF_lt _ | exact thF_lt _ _ | exact thF_lt _ _ _ | exact thF_lt _ _ _ _ | exact thF_lt _ _ _ _ _ | exact thF_lt _ _ _ _ _ _ | exact thF_lt _ _ _ _ _ _ _) (by decide)).mp c_1537
    have hf := hf hT
    have hw := hw hT
    subst hw
    have hl : lv_has ls 9 [(7, .int (bI (decide (rgt (smA M (M.1 3 (cN (xs (i + 1))))) (tpA M (cN (xs (i + 1)))) = 6)))), (6, .int (nI (thF M (xs (i + 1))))), (0, .ref b), (1, .ref x), (2, .ref y), (3, .ref zo), (4, .ref zd), (5, .int (nI i))] := hl
    refine ec_lald hC hK hz 0 rfl (by decide) (by decide) dL_law_1542 ?_
    refine lv_iload hC.1 hC.2.1 dL_law_1543 (lv_at hl 0 rfl) ?_
    refine lv_if_eq (tgt := 1552) hC.1 hC.2.1 dL_law_1545 (by decide) (fun c_1545 => ?_) (fun c_1545 => ?_)
    · refine lv_lconst (v := 0) hC.1 hC.2.1 dL_law_1552 (by decide) ?_
      refine W.lcmp hC.1 hC.2.1 dL_law_1553 ?_
      refine lv_if_eq (tgt := 1559) hC.1 hC.2.1 dL_law_1554 (by decide) (fun c_1554 => ?_) (fun c => absurd ((ec_cm0 _ _).mpr (hf.trans (tb_0 c_1545).symm)) c)
      refine lv_goto (tgt := 2146) hC.1 hC.2.1 dL_law_1559 (by decide) ?_
      exact kk _ _ _ _ _ _ _ I (lv_sub hl [2, 3, 4, 5, 6, 7] rfl)
    · refine lv_lconst (v := 1) hC.1 hC.2.1 dL_law_1548 (by decide) ?_
      refine lv_goto (tgt := 1553) hC.1 hC.2.1 dL_law_1549 (by decide) ?_
      refine W.lcmp hC.1 hC.2.1 dL_law_1553 ?_
      refine lv_if_eq (tgt := 1559) hC.1 hC.2.1 dL_law_1554 (by decide) (fun c_1554 => ?_) (fun c => absurd ((ec_cm0 _ _).mpr (hf.trans (tb_b c_1545).symm)) c)
      refine lv_goto (tgt := 2146) hC.1 hC.2.1 dL_law_1559 (by decide) ?_
      exact kk _ _ _ _ _ _ _ I (lv_sub hl [2, 3, 4, 5, 6, 7] rfl)

set_option maxHeartbeats 4000000 in
set_option maxRecDepth 100000 in
/-- case 21: setLimit -/
theorem lw_c21 {p : Program} {l : Launch} {e : Env} {s : State} {m : MethodId} {below : List Frame} {meth : Method} {c : Code} {G : ecG} {X Y : Nat → Prop} {b L x y zo zd i : Nat} {ya : Nat → Nat} {xs : Nat → Int32} {H : Heap} {locs : List Loc} {M : ecM} {th : Int32} {f : Nat → Int64} {fd : Nat → UInt64} {ls : Array Slot} {cells slots : Nat} {Q : State → Prop} (F : lwF p l s m c G X Y b L xs zo zd) (I : lwI s G X Y x y zo zd ya H locs M M th f fd) (hi : i + 7 ≤ L) (hl : lv_has ls 9 (lwL b x y zo zd i)) (hc : cells + 8 ≤ room_1.cells) (hs : slots + 150 ≤ room_1.slots) (kk : ∀ (H : Heap) (locs : List Loc) (M : ecM) (th : Int32) (f : Nat → Int64) (fd : Nat → UInt64) (ls : Array Slot), lwI s G X Y x y zo zd ya H locs M M th f fd → lv_has ls 9 (lwL b x y zo zd i) → W p l e room_1 s m #[Value.ref b] below meth c H locs (cells + 8) (slots + 150) Q (F0 m 2146 ls [])) : W p l e room_1 s m #[Value.ref b] below meth c H locs cells slots Q (F0 m 1562 ls []) := by
  obtain ⟨hC, hls, hOk, hX, hbl, hL, hAN, hXA, hYA, hoA, hdA, hYX, hXo, hXd, hYo, hYd, hdo⟩ := id F
  have hK := hOk.1
  have hY : ∀ q, Y q → ecN0 G ≤ q := fun q h => hAN q (hYA q h)
  have hwf := I.2.2.1.wf
  obtain ⟨hS, hXs, hEC, hx, hz, hzd⟩ := id I
  have hl : lv_has ls 9 [(0, .ref b), (1, .ref x), (2, .ref y), (3, .ref zo), (4, .ref zd), (5, .int (nI i))] := hl
  refine lv_aload_n hC.1 hC.2.1 dL_law_1562 rfl (lv_at hl 1 rfl) ?_
  refine lv_aload_n hC.1 hC.2.1 dL_law_1563 rfl (lv_at hl 0 rfl) ?_
  refine lv_iload hC.1 hC.2.1 dL_law_1564 (lv_at hl 5 rfl) ?_
  refine lv_iconst (v := 1) hC.1 hC.2.1 dL_law_1566 (by decide) ?_
  refine lv_iadd hC.1 hC.2.1 dL_law_1567 ?_
  refine lw_ld hC hX hbl hS hL (i + 1) (nI_add i 1) (by omega) dL_law_1568 ?_
  refine lv_aload_n hC.1 hC.2.1 dL_law_1569 rfl (lv_at hl 3 rfl) ?_
  refine ec_goXE1 (ec_xSH hC (c_L_setLimit l hls G X M x zo f hXo (hAN _ hoA) (xs (i + 1))) kL_192 (hOk.at hS hAN) ⟨hXs, hEC, hz⟩ hl.1 ⟨Nat.le_of_ble_eq_true rfl, Nat.le_of_ble_eq_true rfl⟩ rfl (Nat.le_of_ble_eq_true rfl) dL_law_1570 ⟨hc, hs⟩) hS (fun q h => h.elim (hXA q) (fun h => by rw [h]; exact hoA)) (fun _ _ _ _ _ hx9 => hx9.elim) (fun H locs hp hzs hk1 hS => ?_)
  obtain ⟨hEC, f, hz, hf⟩ := hp
  have I := I.hlp F hS hzs hk1 hEC hz
  obtain ⟨hS, hXs, hEC, hx, hz, hzd⟩ := id I
  refine lv_istore (lv' := [(6, .int (nI (thLim (xs (i + 1))))), (0, .ref b), (1, .ref x), (2, .ref y), (3, .ref zo), (4, .ref zd), (5, .int (nI i))]) hC.1 hC.2.1 dL_law_1573 hl (by decide) rfl (fun ls hl => ?_)
  refine lv_aload_n hC.1 hC.2.1 dL_law_1575 rfl (lv_at hl 3 rfl) ?_
  refine lv_aload_n hC.1 hC.2.1 dL_law_1576 rfl (lv_at hl 1 rfl) ?_
  refine lv_iload hC.1 hC.2.1 dL_law_1577 (lv_at hl 6 rfl) ?_
  refine lv_iconst (v := 1) hC.1 hC.2.1 dL_law_1579 (by decide) ?_
  refine lv_iadd hC.1 hC.2.1 dL_law_1580 ?_
  refine lw_ld hC hX hbl hS hL (i + 1) (nI_add i 1) (by omega) dL_law_1581 ?_
  refine ec_goEi (ec_rV hC (c_X6_setLimit l G Y M th y ya hY hwf (xs (i + 1))) kL_194 (hOk.at hS hAN) hx (ec_rc hK hx.1 ⟨_, _, rfl⟩) hl.1 ⟨Nat.le_of_ble_eq_true rfl, Nat.le_of_ble_eq_true rfl⟩ rfl (Nat.le_of_ble_eq_true rfl) dL_law_1582 ⟨hc, hs⟩) hS hYA (fun w H locs hp hzs hk1 hS => ?_)
  obtain ⟨hw, hp⟩ := hp
  have I := I.mod F hS hzs hk1 hp
  obtain ⟨hS, hXs, hEC, hx, hz, hzd⟩ := id I
  refine lv_istore (lv' := [(7, .int w), (6, .int (nI (thLim (xs (i + 1))))), (0, .ref b), (1, .ref x), (2, .ref y), (3, .ref zo), (4, .ref zd), (5, .int (nI i))]) hC.1 hC.2.1 dL_law_1585 hl (by decide) rfl (fun ls hl => ?_)
  refine lv_aload_n hC.1 hC.2.1 dL_law_1587 rfl (lv_at hl 4 rfl) ?_
  refine ec_go1 (ec_rV hC (c_X6_thrown l G Y _ _ y ya) kL_122 (hOk.at hS hAN) hx (ec_rc hK hx.1 ⟨_, _, rfl⟩) hl.1 ⟨Nat.le_of_ble_eq_true rfl, Nat.le_of_ble_eq_true rfl⟩ rfl (Nat.le_of_ble_eq_true rfl) dL_law_1588 ⟨hc, hs⟩) ?_
  refine lv_iload hC.1 hC.2.1 dL_law_1591 (lv_at hl 1 rfl) ?_
  refine lv_icmp_eq (tgt := 1598) hC.1 hC.2.1 dL_law_1593 (by decide) (fun c_1593 => ?_) (fun c => absurd rfl c)
  refine lv_iload hC.1 hC.2.1 dL_law_1598 (lv_at hl 1 rfl) ?_
  refine lv_if_ne (tgt := 1615) hC.1 hC.2.1 dL_law_1600 (by decide) (fun c_1600 => ?_) (fun c_1600 => ?_)
  · refine lv_goto (tgt := 2146) hC.1 hC.2.1 dL_law_1615 (by decide) ?_
    exact kk _ _ _ _ _ _ _ I (lv_sub hl [2, 3, 4, 5, 6, 7] rfl)
  · refine lv_aload_n hC.1 hC.2.1 dL_law_1603 rfl (lv_at hl 5 rfl) ?_
    refine lv_iconst (v := 0) hC.1 hC.2.1 dL_law_1604 (by decide) ?_
    have hT : thLim (xs (i + 1)) = 0 := (nI_eq (b := 0) (by first | exact thLim_lt _ | exact thLim_lt _ _ | exact thLim_lt _ _ _ | exact thLim_lt _ _ _ _ | exact thLim_lt _ _ _ _ _ | exact thLim_lt _ _ _ _ _ _ | exact thLim_lt _ _ _ _ _ _ _) (by decide)).mp c_1600
    have hf := hf hT
    have hw := hw hT
    subst hw
    have hl : lv_has ls 9 [(7, .int (mlm M)), (6, .int (nI (thLim (xs (i + 1))))), (0, .ref b), (1, .ref x), (2, .ref y), (3, .ref zo), (4, .ref zd), (5, .int (nI i))] := hl
    refine ec_lald hC hK hz 0 rfl (by decide) (by decide) dL_law_1605 ?_
    refine lv_iload hC.1 hC.2.1 dL_law_1606 (lv_at hl 0 rfl) ?_
    refine lv_i2l hC.1 hC.2.1 dL_law_1608 rfl ?_
    refine W.lcmp hC.1 hC.2.1 dL_law_1609 ?_
    refine lv_if_eq (tgt := 1615) hC.1 hC.2.1 dL_law_1610 (by decide) (fun c_1610 => ?_) (fun c => absurd ((ec_cm0 _ _).mpr hf) c)
    refine lv_goto (tgt := 2146) hC.1 hC.2.1 dL_law_1615 (by decide) ?_
    exact kk _ _ _ _ _ _ _ I (lv_sub hl [2, 3, 4, 5, 6, 7] rfl)

set_option maxHeartbeats 4000000 in
set_option maxRecDepth 100000 in
/-- case 22: usable -/
theorem lw_c22 {p : Program} {l : Launch} {e : Env} {s : State} {m : MethodId} {below : List Frame} {meth : Method} {c : Code} {G : ecG} {X Y : Nat → Prop} {b L x y zo zd i : Nat} {ya : Nat → Nat} {xs : Nat → Int32} {H : Heap} {locs : List Loc} {M : ecM} {th : Int32} {f : Nat → Int64} {fd : Nat → UInt64} {ls : Array Slot} {cells slots : Nat} {Q : State → Prop} (F : lwF p l s m c G X Y b L xs zo zd) (I : lwI s G X Y x y zo zd ya H locs M M th f fd) (hi : i + 7 ≤ L) (hl : lv_has ls 9 (lwL b x y zo zd i)) (hc : cells + 8 ≤ room_1.cells) (hs : slots + 150 ≤ room_1.slots) (kk : ∀ (H : Heap) (locs : List Loc) (M : ecM) (th : Int32) (f : Nat → Int64) (fd : Nat → UInt64) (ls : Array Slot), lwI s G X Y x y zo zd ya H locs M M th f fd → lv_has ls 9 (lwL b x y zo zd i) → W p l e room_1 s m #[Value.ref b] below meth c H locs (cells + 8) (slots + 150) Q (F0 m 2146 ls [])) : W p l e room_1 s m #[Value.ref b] below meth c H locs cells slots Q (F0 m 1618 ls []) := by
  obtain ⟨hC, hls, hOk, hX, hbl, hL, hAN, hXA, hYA, hoA, hdA, hYX, hXo, hXd, hYo, hYd, hdo⟩ := id F
  have hK := hOk.1
  have hY : ∀ q, Y q → ecN0 G ≤ q := fun q h => hAN q (hYA q h)
  have hwf := I.2.2.1.wf
  obtain ⟨hS, hXs, hEC, hx, hz, hzd⟩ := id I
  have hl : lv_has ls 9 [(0, .ref b), (1, .ref x), (2, .ref y), (3, .ref zo), (4, .ref zd), (5, .int (nI i))] := hl
  refine lv_aload_n hC.1 hC.2.1 dL_law_1618 rfl (lv_at hl 1 rfl) ?_
  have hlab : ∃ fs, ecA G x (eO 5 fs) H := by obtain ⟨tg9, ad9, hx9, hw9⟩ := hEC; exact ⟨_, hx9 ▸ hw9.1.1⟩
  obtain ⟨fs9, hlab⟩ := hlab
  refine ec_go1 (ec_rV hC (c_X5_usable l G X M x) kL_195 (hOk.at hS hAN) hEC (ec_rc hK hlab ⟨_, _, rfl⟩) hl.1 ⟨Nat.le_of_ble_eq_true rfl, Nat.le_of_ble_eq_true rfl⟩ rfl (Nat.le_of_ble_eq_true rfl) dL_law_1619 ⟨Nat.le_trans (Nat.le_add_right cells 8) hc, Nat.le_trans (Nat.le_add_right slots 150) hs⟩) ?_
  refine lv_aload_n hC.1 hC.2.1 dL_law_1622 rfl (lv_at hl 2 rfl) ?_
  refine ec_goE1 (ec_rV hC (c_X6_usable l G Y M th y ya hY hwf) kL_198 (hOk.at hS hAN) hx (ec_rc hK hx.1 ⟨_, _, rfl⟩) hl.1 ⟨Nat.le_of_ble_eq_true rfl, Nat.le_of_ble_eq_true rfl⟩ rfl (Nat.le_of_ble_eq_true rfl) dL_law_1623 ⟨Nat.le_trans (Nat.le_add_right cells 8) hc, Nat.le_trans (Nat.le_add_right slots 150) hs⟩) hS hYA (fun H locs hp hzs hk1 hS => ?_)
  have I := I.mod F hS hzs hk1 hp
  obtain ⟨hS, hXs, hEC, hx, hz, hzd⟩ := id I
  refine lv_icmp_eq (tgt := 2146) hC.1 hC.2.1 dL_law_1626 (by decide) (fun c_1626 => ?_) (fun c => absurd rfl c)
  refine W.widen (k := cells + 8) (n := slots + 150) (show cells ≤ cells + 8 from Nat.le_add_right _ _) (show slots ≤ slots + 150 from Nat.le_add_right _ _) ?_
  exact kk _ _ _ _ _ _ _ I (lv_sub hl [0, 1, 2, 3, 4, 5] rfl)

set_option maxHeartbeats 4000000 in
set_option maxRecDepth 100000 in
/-- case 23: book -/
theorem lw_c23 {p : Program} {l : Launch} {e : Env} {s : State} {m : MethodId} {below : List Frame} {meth : Method} {c : Code} {G : ecG} {X Y : Nat → Prop} {b L x y zo zd i : Nat} {ya : Nat → Nat} {xs : Nat → Int32} {H : Heap} {locs : List Loc} {M : ecM} {th : Int32} {f : Nat → Int64} {fd : Nat → UInt64} {ls : Array Slot} {cells slots : Nat} {Q : State → Prop} (F : lwF p l s m c G X Y b L xs zo zd) (I : lwI s G X Y x y zo zd ya H locs M M th f fd) (hi : i + 7 ≤ L) (hl : lv_has ls 9 (lwL b x y zo zd i)) (hc : cells + 8 ≤ room_1.cells) (hs : slots + 150 ≤ room_1.slots) (kk : ∀ (H : Heap) (locs : List Loc) (M : ecM) (th : Int32) (f : Nat → Int64) (fd : Nat → UInt64) (ls : Array Slot), lwI s G X Y x y zo zd ya H locs M M th f fd → lv_has ls 9 (lwL b x y zo zd i) → W p l e room_1 s m #[Value.ref b] below meth c H locs (cells + 8) (slots + 150) Q (F0 m 2146 ls [])) : W p l e room_1 s m #[Value.ref b] below meth c H locs cells slots Q (F0 m 1631 ls []) := by
  obtain ⟨hC, hls, hOk, hX, hbl, hL, hAN, hXA, hYA, hoA, hdA, hYX, hXo, hXd, hYo, hYd, hdo⟩ := id F
  have hK := hOk.1
  have hY : ∀ q, Y q → ecN0 G ≤ q := fun q h => hAN q (hYA q h)
  have hwf := I.2.2.1.wf
  obtain ⟨hS, hXs, hEC, hx, hz, hzd⟩ := id I
  have hl : lv_has ls 9 [(0, .ref b), (1, .ref x), (2, .ref y), (3, .ref zo), (4, .ref zd), (5, .int (nI i))] := hl
  refine lv_aload_n hC.1 hC.2.1 dL_law_1631 rfl (lv_at hl 1 rfl) ?_
  refine lv_aload_n hC.1 hC.2.1 dL_law_1632 rfl (lv_at hl 0 rfl) ?_
  refine lv_iload hC.1 hC.2.1 dL_law_1633 (lv_at hl 5 rfl) ?_
  refine lv_iconst (v := 1) hC.1 hC.2.1 dL_law_1635 (by decide) ?_
  refine lv_iadd hC.1 hC.2.1 dL_law_1636 ?_
  refine lw_ld hC hX hbl hS hL (i + 1) (nI_add i 1) (by omega) dL_law_1637 ?_
  refine lv_aload_n hC.1 hC.2.1 dL_law_1638 rfl (lv_at hl 0 rfl) ?_
  refine lv_iload hC.1 hC.2.1 dL_law_1639 (lv_at hl 5 rfl) ?_
  refine lv_iconst (v := 2) hC.1 hC.2.1 dL_law_1641 (by decide) ?_
  refine lv_iadd hC.1 hC.2.1 dL_law_1642 ?_
  refine lw_ld hC hX hbl hS hL (i + 2) (nI_add i 2) (by omega) dL_law_1643 ?_
  refine lv_aload_n hC.1 hC.2.1 dL_law_1644 rfl (lv_at hl 0 rfl) ?_
  refine lv_iload hC.1 hC.2.1 dL_law_1645 (lv_at hl 5 rfl) ?_
  refine lv_iconst (v := 3) hC.1 hC.2.1 dL_law_1647 (by decide) ?_
  refine lv_iadd hC.1 hC.2.1 dL_law_1648 ?_
  refine lw_ld hC hX hbl hS hL (i + 3) (nI_add i 3) (by omega) dL_law_1649 ?_
  refine lv_aload_n hC.1 hC.2.1 dL_law_1650 rfl (lv_at hl 0 rfl) ?_
  refine lv_iload hC.1 hC.2.1 dL_law_1651 (lv_at hl 5 rfl) ?_
  refine lv_iconst (v := 4) hC.1 hC.2.1 dL_law_1653 (by decide) ?_
  refine lv_iadd hC.1 hC.2.1 dL_law_1654 ?_
  refine lw_ld hC hX hbl hS hL (i + 4) (nI_add i 4) (by omega) dL_law_1655 ?_
  refine lw_bool hC dL_law_1656 dL_law_1659 dL_law_1660 dL_law_1663 ?_
  refine lv_aload_n hC.1 hC.2.1 dL_law_1664 rfl (lv_at hl 0 rfl) ?_
  refine lv_iload hC.1 hC.2.1 dL_law_1665 (lv_at hl 5 rfl) ?_
  refine lv_iconst (v := 5) hC.1 hC.2.1 dL_law_1667 (by decide) ?_
  refine lv_iadd hC.1 hC.2.1 dL_law_1668 ?_
  refine lw_ld hC hX hbl hS hL (i + 5) (nI_add i 5) (by omega) dL_law_1669 ?_
  refine lv_aload_n hC.1 hC.2.1 dL_law_1670 rfl (lv_at hl 0 rfl) ?_
  refine lv_iload hC.1 hC.2.1 dL_law_1671 (lv_at hl 5 rfl) ?_
  refine lv_bipush (v := 6) hC.1 hC.2.1 dL_law_1673 (by decide) ?_
  refine lv_iadd hC.1 hC.2.1 dL_law_1675 ?_
  refine lw_ld hC hX hbl hS hL (i + 6) (nI_add i 6) (by omega) dL_law_1676 ?_
  refine lv_aload_n hC.1 hC.2.1 dL_law_1677 rfl (lv_at hl 3 rfl) ?_
  refine ec_goXE1 (ec_xSH hC (c_L_book l hls G X M x zo f hXo (hAN _ hoA) (xs (i + 1)) (xs (i + 2)) (xs (i + 3)) (!decide (xs (i + 4) = 0)) (xs (i + 5)) (xs (i + 6))) kL_199 (hOk.at hS hAN) ⟨hXs, hEC, hz⟩ hl.1 ⟨Nat.le_of_ble_eq_true rfl, Nat.le_of_ble_eq_true rfl⟩ rfl (Nat.le_of_ble_eq_true rfl) dL_law_1678 ⟨hc, hs⟩) hS (fun q h => h.elim (hXA q) (fun h => by rw [h]; exact hoA)) (fun _ _ _ _ _ hx9 => hx9.elim) (fun H locs hp hzs hk1 hS => ?_)
  obtain ⟨hEC, f, hz, hf⟩ := hp
  have I := I.hlp F hS hzs hk1 hEC hz
  obtain ⟨hS, hXs, hEC, hx, hz, hzd⟩ := id I
  refine lv_istore (lv' := [(6, .int (nI (thBok M (xs (i + 1)) (xs (i + 2)) (xs (i + 3)) (!decide (xs (i + 4) = 0)) (xs (i + 5)) (xs (i + 6))))), (0, .ref b), (1, .ref x), (2, .ref y), (3, .ref zo), (4, .ref zd), (5, .int (nI i))]) hC.1 hC.2.1 dL_law_1681 hl (by decide) rfl (fun ls hl => ?_)
  refine lv_aload_n hC.1 hC.2.1 dL_law_1683 rfl (lv_at hl 3 rfl) ?_
  refine lv_aload_n hC.1 hC.2.1 dL_law_1684 rfl (lv_at hl 1 rfl) ?_
  refine lv_iload hC.1 hC.2.1 dL_law_1685 (lv_at hl 6 rfl) ?_
  refine lv_iconst (v := 1) hC.1 hC.2.1 dL_law_1687 (by decide) ?_
  refine lv_iadd hC.1 hC.2.1 dL_law_1688 ?_
  refine lw_ld hC hX hbl hS hL (i + 1) (nI_add i 1) (by omega) dL_law_1689 ?_
  refine lv_aload_n hC.1 hC.2.1 dL_law_1690 rfl (lv_at hl 1 rfl) ?_
  refine lv_iload hC.1 hC.2.1 dL_law_1691 (lv_at hl 6 rfl) ?_
  refine lv_iconst (v := 2) hC.1 hC.2.1 dL_law_1693 (by decide) ?_
  refine lv_iadd hC.1 hC.2.1 dL_law_1694 ?_
  refine lw_ld hC hX hbl hS hL (i + 2) (nI_add i 2) (by omega) dL_law_1695 ?_
  refine lv_aload_n hC.1 hC.2.1 dL_law_1696 rfl (lv_at hl 1 rfl) ?_
  refine lv_iload hC.1 hC.2.1 dL_law_1697 (lv_at hl 6 rfl) ?_
  refine lv_iconst (v := 3) hC.1 hC.2.1 dL_law_1699 (by decide) ?_
  refine lv_iadd hC.1 hC.2.1 dL_law_1700 ?_
  refine lw_ld hC hX hbl hS hL (i + 3) (nI_add i 3) (by omega) dL_law_1701 ?_
  refine lv_aload_n hC.1 hC.2.1 dL_law_1702 rfl (lv_at hl 1 rfl) ?_
  refine lv_iload hC.1 hC.2.1 dL_law_1703 (lv_at hl 6 rfl) ?_
  refine lv_iconst (v := 4) hC.1 hC.2.1 dL_law_1705 (by decide) ?_
  refine lv_iadd hC.1 hC.2.1 dL_law_1706 ?_
  refine lw_ld hC hX hbl hS hL (i + 4) (nI_add i 4) (by omega) dL_law_1707 ?_
  refine lw_bool hC dL_law_1708 dL_law_1711 dL_law_1712 dL_law_1715 ?_
  refine lv_aload_n hC.1 hC.2.1 dL_law_1716 rfl (lv_at hl 1 rfl) ?_
  refine lv_iload hC.1 hC.2.1 dL_law_1717 (lv_at hl 6 rfl) ?_
  refine lv_iconst (v := 5) hC.1 hC.2.1 dL_law_1719 (by decide) ?_
  refine lv_iadd hC.1 hC.2.1 dL_law_1720 ?_
  refine lw_ld hC hX hbl hS hL (i + 5) (nI_add i 5) (by omega) dL_law_1721 ?_
  refine lv_aload_n hC.1 hC.2.1 dL_law_1722 rfl (lv_at hl 1 rfl) ?_
  refine lv_iload hC.1 hC.2.1 dL_law_1723 (lv_at hl 6 rfl) ?_
  refine lv_bipush (v := 6) hC.1 hC.2.1 dL_law_1725 (by decide) ?_
  refine lv_iadd hC.1 hC.2.1 dL_law_1727 ?_
  refine lw_ld hC hX hbl hS hL (i + 6) (nI_add i 6) (by omega) dL_law_1728 ?_
  refine ec_goEi (ec_rV hC (c_X6_book l G Y M th y ya hY hwf (xs (i + 1)) (xs (i + 2)) (xs (i + 3)) (!decide (xs (i + 4) = 0)) (xs (i + 5)) (xs (i + 6))) kL_202 (hOk.at hS hAN) hx (ec_rc hK hx.1 ⟨_, _, rfl⟩) hl.1 ⟨Nat.le_of_ble_eq_true rfl, Nat.le_of_ble_eq_true rfl⟩ rfl (Nat.le_of_ble_eq_true rfl) dL_law_1729 ⟨hc, hs⟩) hS hYA (fun w H locs hp hzs hk1 hS => ?_)
  obtain ⟨hw, hp⟩ := hp
  have I := I.mod F hS hzs hk1 hp
  obtain ⟨hS, hXs, hEC, hx, hz, hzd⟩ := id I
  refine lv_istore (lv' := [(7, .int w), (6, .int (nI (thBok M (xs (i + 1)) (xs (i + 2)) (xs (i + 3)) (!decide (xs (i + 4) = 0)) (xs (i + 5)) (xs (i + 6))))), (0, .ref b), (1, .ref x), (2, .ref y), (3, .ref zo), (4, .ref zd), (5, .int (nI i))]) hC.1 hC.2.1 dL_law_1732 hl (by decide) rfl (fun ls hl => ?_)
  refine lv_aload_n hC.1 hC.2.1 dL_law_1734 rfl (lv_at hl 4 rfl) ?_
  refine ec_go1 (ec_rV hC (c_X6_thrown l G Y _ _ y ya) kL_122 (hOk.at hS hAN) hx (ec_rc hK hx.1 ⟨_, _, rfl⟩) hl.1 ⟨Nat.le_of_ble_eq_true rfl, Nat.le_of_ble_eq_true rfl⟩ rfl (Nat.le_of_ble_eq_true rfl) dL_law_1735 ⟨hc, hs⟩) ?_
  refine lv_iload hC.1 hC.2.1 dL_law_1738 (lv_at hl 1 rfl) ?_
  refine lv_icmp_eq (tgt := 1745) hC.1 hC.2.1 dL_law_1740 (by decide) (fun c_1740 => ?_) (fun c => absurd rfl c)
  refine lv_iload hC.1 hC.2.1 dL_law_1745 (lv_at hl 1 rfl) ?_
  refine lv_if_ne (tgt := 1762) hC.1 hC.2.1 dL_law_1747 (by decide) (fun c_1747 => ?_) (fun c_1747 => ?_)
  · refine lv_goto (tgt := 2146) hC.1 hC.2.1 dL_law_1762 (by decide) ?_
    exact kk _ _ _ _ _ _ _ I (lv_sub hl [2, 3, 4, 5, 6, 7] rfl)
  · refine lv_aload_n hC.1 hC.2.1 dL_law_1750 rfl (lv_at hl 5 rfl) ?_
    refine lv_iconst (v := 0) hC.1 hC.2.1 dL_law_1751 (by decide) ?_
    have hT : thBok M (xs (i + 1)) (xs (i + 2)) (xs (i + 3)) (!decide (xs (i + 4) = 0)) (xs (i + 5)) (xs (i + 6)) = 0 := (nI_eq (b := 0) (by first | exact thBok_lt _ | exact thBok_lt _ _ | exact thBok_lt _ _ _ | exact thBok_lt _ _ _ _ | exact thBok_lt _ _ _ _ _ | exact thBok_lt _ _ _ _ _ _ | exact thBok_lt _ _ _ _ _ _ _) (by decide)).mp c_1747
    have hf := hf hT
    have hw := hw hT
    subst hw
    have hl : lv_has ls 9 [(7, .int (nI (mnB M))), (6, .int (nI (thBok M (xs (i + 1)) (xs (i + 2)) (xs (i + 3)) (!decide (xs (i + 4) = 0)) (xs (i + 5)) (xs (i + 6))))), (0, .ref b), (1, .ref x), (2, .ref y), (3, .ref zo), (4, .ref zd), (5, .int (nI i))] := hl
    refine ec_lald hC hK hz 0 rfl (by decide) (by decide) dL_law_1752 ?_
    refine lv_iload hC.1 hC.2.1 dL_law_1753 (lv_at hl 0 rfl) ?_
    refine lv_i2l hC.1 hC.2.1 dL_law_1755 rfl ?_
    refine W.lcmp hC.1 hC.2.1 dL_law_1756 ?_
    refine lv_if_eq (tgt := 1762) hC.1 hC.2.1 dL_law_1757 (by decide) (fun c_1757 => ?_) (fun c => absurd ((ec_cm0 _ _).mpr hf) c)
    refine lv_goto (tgt := 2146) hC.1 hC.2.1 dL_law_1762 (by decide) ?_
    exact kk _ _ _ _ _ _ _ I (lv_sub hl [2, 3, 4, 5, 6, 7] rfl)

set_option maxHeartbeats 4000000 in
set_option maxRecDepth 100000 in
/-- case 24: clash -/
theorem lw_c24 {p : Program} {l : Launch} {e : Env} {s : State} {m : MethodId} {below : List Frame} {meth : Method} {c : Code} {G : ecG} {X Y : Nat → Prop} {b L x y zo zd i : Nat} {ya : Nat → Nat} {xs : Nat → Int32} {H : Heap} {locs : List Loc} {M : ecM} {th : Int32} {f : Nat → Int64} {fd : Nat → UInt64} {ls : Array Slot} {cells slots : Nat} {Q : State → Prop} (F : lwF p l s m c G X Y b L xs zo zd) (I : lwI s G X Y x y zo zd ya H locs M M th f fd) (hi : i + 7 ≤ L) (hl : lv_has ls 9 (lwL b x y zo zd i)) (hc : cells + 8 ≤ room_1.cells) (hs : slots + 150 ≤ room_1.slots) (kk : ∀ (H : Heap) (locs : List Loc) (M : ecM) (th : Int32) (f : Nat → Int64) (fd : Nat → UInt64) (ls : Array Slot), lwI s G X Y x y zo zd ya H locs M M th f fd → lv_has ls 9 (lwL b x y zo zd i) → W p l e room_1 s m #[Value.ref b] below meth c H locs (cells + 8) (slots + 150) Q (F0 m 2146 ls [])) : W p l e room_1 s m #[Value.ref b] below meth c H locs cells slots Q (F0 m 1765 ls []) := by
  obtain ⟨hC, hls, hOk, hX, hbl, hL, hAN, hXA, hYA, hoA, hdA, hYX, hXo, hXd, hYo, hYd, hdo⟩ := id F
  have hK := hOk.1
  have hY : ∀ q, Y q → ecN0 G ≤ q := fun q h => hAN q (hYA q h)
  have hwf := I.2.2.1.wf
  obtain ⟨hS, hXs, hEC, hx, hz, hzd⟩ := id I
  have hl : lv_has ls 9 [(0, .ref b), (1, .ref x), (2, .ref y), (3, .ref zo), (4, .ref zd), (5, .int (nI i))] := hl
  refine lv_aload_n hC.1 hC.2.1 dL_law_1765 rfl (lv_at hl 1 rfl) ?_
  refine lv_aload_n hC.1 hC.2.1 dL_law_1766 rfl (lv_at hl 0 rfl) ?_
  refine lv_iload hC.1 hC.2.1 dL_law_1767 (lv_at hl 5 rfl) ?_
  refine lv_iconst (v := 1) hC.1 hC.2.1 dL_law_1769 (by decide) ?_
  refine lv_iadd hC.1 hC.2.1 dL_law_1770 ?_
  refine lw_ld hC hX hbl hS hL (i + 1) (nI_add i 1) (by omega) dL_law_1771 ?_
  refine lv_aload_n hC.1 hC.2.1 dL_law_1772 rfl (lv_at hl 0 rfl) ?_
  refine lv_iload hC.1 hC.2.1 dL_law_1773 (lv_at hl 5 rfl) ?_
  refine lv_iconst (v := 2) hC.1 hC.2.1 dL_law_1775 (by decide) ?_
  refine lv_iadd hC.1 hC.2.1 dL_law_1776 ?_
  refine lw_ld hC hX hbl hS hL (i + 2) (nI_add i 2) (by omega) dL_law_1777 ?_
  refine lv_aload_n hC.1 hC.2.1 dL_law_1778 rfl (lv_at hl 0 rfl) ?_
  refine lv_iload hC.1 hC.2.1 dL_law_1779 (lv_at hl 5 rfl) ?_
  refine lv_iconst (v := 3) hC.1 hC.2.1 dL_law_1781 (by decide) ?_
  refine lv_iadd hC.1 hC.2.1 dL_law_1782 ?_
  refine lw_ld hC hX hbl hS hL (i + 3) (nI_add i 3) (by omega) dL_law_1783 ?_
  refine lv_aload_n hC.1 hC.2.1 dL_law_1784 rfl (lv_at hl 0 rfl) ?_
  refine lv_iload hC.1 hC.2.1 dL_law_1785 (lv_at hl 5 rfl) ?_
  refine lv_iconst (v := 4) hC.1 hC.2.1 dL_law_1787 (by decide) ?_
  refine lv_iadd hC.1 hC.2.1 dL_law_1788 ?_
  refine lw_ld hC hX hbl hS hL (i + 4) (nI_add i 4) (by omega) dL_law_1789 ?_
  refine lw_bool hC dL_law_1790 dL_law_1793 dL_law_1794 dL_law_1797 ?_
  refine lv_aload_n hC.1 hC.2.1 dL_law_1798 rfl (lv_at hl 0 rfl) ?_
  refine lv_iload hC.1 hC.2.1 dL_law_1799 (lv_at hl 5 rfl) ?_
  refine lv_iconst (v := 5) hC.1 hC.2.1 dL_law_1801 (by decide) ?_
  refine lv_iadd hC.1 hC.2.1 dL_law_1802 ?_
  refine lw_ld hC hX hbl hS hL (i + 5) (nI_add i 5) (by omega) dL_law_1803 ?_
  refine lv_aload_n hC.1 hC.2.1 dL_law_1804 rfl (lv_at hl 0 rfl) ?_
  refine lv_iload hC.1 hC.2.1 dL_law_1805 (lv_at hl 5 rfl) ?_
  refine lv_bipush (v := 6) hC.1 hC.2.1 dL_law_1807 (by decide) ?_
  refine lv_iadd hC.1 hC.2.1 dL_law_1809 ?_
  refine lw_ld hC hX hbl hS hL (i + 6) (nI_add i 6) (by omega) dL_law_1810 ?_
  refine lv_aload_n hC.1 hC.2.1 dL_law_1811 rfl (lv_at hl 3 rfl) ?_
  refine ec_goXE1 (ec_xSH hC (c_L_clash l hls G X M x zo f hXo (hAN _ hoA) (xs (i + 1)) (xs (i + 2)) (xs (i + 3)) (!decide (xs (i + 4) = 0)) (xs (i + 5)) (xs (i + 6))) kL_203 (hOk.at hS hAN) ⟨hXs, hEC, hz⟩ hl.1 ⟨Nat.le_of_ble_eq_true rfl, Nat.le_of_ble_eq_true rfl⟩ rfl (Nat.le_of_ble_eq_true rfl) dL_law_1812 ⟨hc, hs⟩) hS (fun q h => h.elim (hXA q) (fun h => by rw [h]; exact hoA)) (fun _ _ _ _ _ hx9 => hx9.elim) (fun H locs hp hzs hk1 hS => ?_)
  obtain ⟨hEC, f, hz, hf⟩ := hp
  rw [ite_self] at hEC
  have I := I.hlp F hS hzs hk1 hEC hz
  obtain ⟨hS, hXs, hEC, hx, hz, hzd⟩ := id I
  refine lv_istore (lv' := [(6, .int (nI (thCla M (xs (i + 1)) (xs (i + 2)) (xs (i + 3)) (!decide (xs (i + 4) = 0)) (xs (i + 5)) (xs (i + 6))))), (0, .ref b), (1, .ref x), (2, .ref y), (3, .ref zo), (4, .ref zd), (5, .int (nI i))]) hC.1 hC.2.1 dL_law_1815 hl (by decide) rfl (fun ls hl => ?_)
  refine lv_aload_n hC.1 hC.2.1 dL_law_1817 rfl (lv_at hl 3 rfl) ?_
  refine lv_aload_n hC.1 hC.2.1 dL_law_1818 rfl (lv_at hl 1 rfl) ?_
  refine lv_iload hC.1 hC.2.1 dL_law_1819 (lv_at hl 6 rfl) ?_
  refine lv_iconst (v := 1) hC.1 hC.2.1 dL_law_1821 (by decide) ?_
  refine lv_iadd hC.1 hC.2.1 dL_law_1822 ?_
  refine lw_ld hC hX hbl hS hL (i + 1) (nI_add i 1) (by omega) dL_law_1823 ?_
  refine lv_aload_n hC.1 hC.2.1 dL_law_1824 rfl (lv_at hl 1 rfl) ?_
  refine lv_iload hC.1 hC.2.1 dL_law_1825 (lv_at hl 6 rfl) ?_
  refine lv_iconst (v := 2) hC.1 hC.2.1 dL_law_1827 (by decide) ?_
  refine lv_iadd hC.1 hC.2.1 dL_law_1828 ?_
  refine lw_ld hC hX hbl hS hL (i + 2) (nI_add i 2) (by omega) dL_law_1829 ?_
  refine lv_aload_n hC.1 hC.2.1 dL_law_1830 rfl (lv_at hl 1 rfl) ?_
  refine lv_iload hC.1 hC.2.1 dL_law_1831 (lv_at hl 6 rfl) ?_
  refine lv_iconst (v := 3) hC.1 hC.2.1 dL_law_1833 (by decide) ?_
  refine lv_iadd hC.1 hC.2.1 dL_law_1834 ?_
  refine lw_ld hC hX hbl hS hL (i + 3) (nI_add i 3) (by omega) dL_law_1835 ?_
  refine lv_aload_n hC.1 hC.2.1 dL_law_1836 rfl (lv_at hl 1 rfl) ?_
  refine lv_iload hC.1 hC.2.1 dL_law_1837 (lv_at hl 6 rfl) ?_
  refine lv_iconst (v := 4) hC.1 hC.2.1 dL_law_1839 (by decide) ?_
  refine lv_iadd hC.1 hC.2.1 dL_law_1840 ?_
  refine lw_ld hC hX hbl hS hL (i + 4) (nI_add i 4) (by omega) dL_law_1841 ?_
  refine lw_bool hC dL_law_1842 dL_law_1845 dL_law_1846 dL_law_1849 ?_
  refine lv_aload_n hC.1 hC.2.1 dL_law_1850 rfl (lv_at hl 1 rfl) ?_
  refine lv_iload hC.1 hC.2.1 dL_law_1851 (lv_at hl 6 rfl) ?_
  refine lv_iconst (v := 5) hC.1 hC.2.1 dL_law_1853 (by decide) ?_
  refine lv_iadd hC.1 hC.2.1 dL_law_1854 ?_
  refine lw_ld hC hX hbl hS hL (i + 5) (nI_add i 5) (by omega) dL_law_1855 ?_
  refine lv_aload_n hC.1 hC.2.1 dL_law_1856 rfl (lv_at hl 1 rfl) ?_
  refine lv_iload hC.1 hC.2.1 dL_law_1857 (lv_at hl 6 rfl) ?_
  refine lv_bipush (v := 6) hC.1 hC.2.1 dL_law_1859 (by decide) ?_
  refine lv_iadd hC.1 hC.2.1 dL_law_1861 ?_
  refine lw_ld hC hX hbl hS hL (i + 6) (nI_add i 6) (by omega) dL_law_1862 ?_
  refine ec_goEi (ec_rV hC (c_X6_clash l G Y M th y ya hY hwf (xs (i + 1)) (xs (i + 2)) (xs (i + 3)) (!decide (xs (i + 4) = 0)) (xs (i + 5)) (xs (i + 6))) kL_205 (hOk.at hS hAN) hx (ec_rc hK hx.1 ⟨_, _, rfl⟩) hl.1 ⟨Nat.le_of_ble_eq_true rfl, Nat.le_of_ble_eq_true rfl⟩ rfl (Nat.le_of_ble_eq_true rfl) dL_law_1863 ⟨hc, hs⟩) hS hYA (fun w H locs hp hzs hk1 hS => ?_)
  obtain ⟨hw, hp⟩ := hp
  have I := I.mod F hS hzs hk1 hp
  obtain ⟨hS, hXs, hEC, hx, hz, hzd⟩ := id I
  refine lv_istore (lv' := [(7, .int w), (6, .int (nI (thCla M (xs (i + 1)) (xs (i + 2)) (xs (i + 3)) (!decide (xs (i + 4) = 0)) (xs (i + 5)) (xs (i + 6))))), (0, .ref b), (1, .ref x), (2, .ref y), (3, .ref zo), (4, .ref zd), (5, .int (nI i))]) hC.1 hC.2.1 dL_law_1866 hl (by decide) rfl (fun ls hl => ?_)
  refine lv_aload_n hC.1 hC.2.1 dL_law_1868 rfl (lv_at hl 4 rfl) ?_
  refine ec_go1 (ec_rV hC (c_X6_thrown l G Y _ _ y ya) kL_122 (hOk.at hS hAN) hx (ec_rc hK hx.1 ⟨_, _, rfl⟩) hl.1 ⟨Nat.le_of_ble_eq_true rfl, Nat.le_of_ble_eq_true rfl⟩ rfl (Nat.le_of_ble_eq_true rfl) dL_law_1869 ⟨hc, hs⟩) ?_
  refine lv_iload hC.1 hC.2.1 dL_law_1872 (lv_at hl 1 rfl) ?_
  refine lv_icmp_eq (tgt := 1879) hC.1 hC.2.1 dL_law_1874 (by decide) (fun c_1874 => ?_) (fun c => absurd rfl c)
  refine lv_iload hC.1 hC.2.1 dL_law_1879 (lv_at hl 1 rfl) ?_
  refine lv_if_ne (tgt := 1896) hC.1 hC.2.1 dL_law_1881 (by decide) (fun c_1881 => ?_) (fun c_1881 => ?_)
  · refine lv_goto (tgt := 2146) hC.1 hC.2.1 dL_law_1896 (by decide) ?_
    exact kk _ _ _ _ _ _ _ I (lv_sub hl [2, 3, 4, 5, 6, 7] rfl)
  · refine lv_aload_n hC.1 hC.2.1 dL_law_1884 rfl (lv_at hl 5 rfl) ?_
    refine lv_iconst (v := 0) hC.1 hC.2.1 dL_law_1885 (by decide) ?_
    have hT : thCla M (xs (i + 1)) (xs (i + 2)) (xs (i + 3)) (!decide (xs (i + 4) = 0)) (xs (i + 5)) (xs (i + 6)) = 0 := (nI_eq (b := 0) (by first | exact thCla_lt _ | exact thCla_lt _ _ | exact thCla_lt _ _ _ | exact thCla_lt _ _ _ _ | exact thCla_lt _ _ _ _ _ | exact thCla_lt _ _ _ _ _ _ | exact thCla_lt _ _ _ _ _ _ _) (by decide)).mp c_1881
    have hf := hf hT
    have hw := hw hT
    subst hw
    have hl : lv_has ls 9 [(7, .int (nI ((clM M (cN (xs (i + 1))) (cdN (xs (i + 2)) (xs (i + 3)) (!decide (xs (i + 4) = 0))) (xs (i + 5)) (xs (i + 6))).getD 0))), (6, .int (nI (thCla M (xs (i + 1)) (xs (i + 2)) (xs (i + 3)) (!decide (xs (i + 4) = 0)) (xs (i + 5)) (xs (i + 6))))), (0, .ref b), (1, .ref x), (2, .ref y), (3, .ref zo), (4, .ref zd), (5, .int (nI i))] := hl
    refine ec_lald hC hK hz 0 rfl (by decide) (by decide) dL_law_1886 ?_
    refine lv_iload hC.1 hC.2.1 dL_law_1887 (lv_at hl 0 rfl) ?_
    refine lv_i2l hC.1 hC.2.1 dL_law_1889 rfl ?_
    refine W.lcmp hC.1 hC.2.1 dL_law_1890 ?_
    refine lv_if_eq (tgt := 1896) hC.1 hC.2.1 dL_law_1891 (by decide) (fun c_1891 => ?_) (fun c => absurd ((ec_cm0 _ _).mpr hf) c)
    refine lv_goto (tgt := 2146) hC.1 hC.2.1 dL_law_1896 (by decide) ?_
    exact kk _ _ _ _ _ _ _ I (lv_sub hl [2, 3, 4, 5, 6, 7] rfl)

set_option maxHeartbeats 4000000 in
set_option maxRecDepth 100000 in
/-- case 25: cancel -/
theorem lw_c25 {p : Program} {l : Launch} {e : Env} {s : State} {m : MethodId} {below : List Frame} {meth : Method} {c : Code} {G : ecG} {X Y : Nat → Prop} {b L x y zo zd i : Nat} {ya : Nat → Nat} {xs : Nat → Int32} {H : Heap} {locs : List Loc} {M : ecM} {th : Int32} {f : Nat → Int64} {fd : Nat → UInt64} {ls : Array Slot} {cells slots : Nat} {Q : State → Prop} (F : lwF p l s m c G X Y b L xs zo zd) (I : lwI s G X Y x y zo zd ya H locs M M th f fd) (hi : i + 7 ≤ L) (hl : lv_has ls 9 (lwL b x y zo zd i)) (hc : cells + 8 ≤ room_1.cells) (hs : slots + 150 ≤ room_1.slots) (kk : ∀ (H : Heap) (locs : List Loc) (M : ecM) (th : Int32) (f : Nat → Int64) (fd : Nat → UInt64) (ls : Array Slot), lwI s G X Y x y zo zd ya H locs M M th f fd → lv_has ls 9 (lwL b x y zo zd i) → W p l e room_1 s m #[Value.ref b] below meth c H locs (cells + 8) (slots + 150) Q (F0 m 2146 ls [])) : W p l e room_1 s m #[Value.ref b] below meth c H locs cells slots Q (F0 m 1899 ls []) := by
  obtain ⟨hC, hls, hOk, hX, hbl, hL, hAN, hXA, hYA, hoA, hdA, hYX, hXo, hXd, hYo, hYd, hdo⟩ := id F
  have hK := hOk.1
  have hY : ∀ q, Y q → ecN0 G ≤ q := fun q h => hAN q (hYA q h)
  have hwf := I.2.2.1.wf
  obtain ⟨hS, hXs, hEC, hx, hz, hzd⟩ := id I
  have hl : lv_has ls 9 [(0, .ref b), (1, .ref x), (2, .ref y), (3, .ref zo), (4, .ref zd), (5, .int (nI i))] := hl
  refine lv_aload_n hC.1 hC.2.1 dL_law_1899 rfl (lv_at hl 1 rfl) ?_
  refine lv_aload_n hC.1 hC.2.1 dL_law_1900 rfl (lv_at hl 0 rfl) ?_
  refine lv_iload hC.1 hC.2.1 dL_law_1901 (lv_at hl 5 rfl) ?_
  refine lv_iconst (v := 1) hC.1 hC.2.1 dL_law_1903 (by decide) ?_
  refine lv_iadd hC.1 hC.2.1 dL_law_1904 ?_
  refine lw_ld hC hX hbl hS hL (i + 1) (nI_add i 1) (by omega) dL_law_1905 ?_
  refine lv_aload_n hC.1 hC.2.1 dL_law_1906 rfl (lv_at hl 3 rfl) ?_
  refine ec_goXE1 (ec_xSH hC (c_L_cancel l hls G X M x zo f hXo (hAN _ hoA) (xs (i + 1))) kL_206 (hOk.at hS hAN) ⟨hXs, hEC, hz⟩ hl.1 ⟨Nat.le_of_ble_eq_true rfl, Nat.le_of_ble_eq_true rfl⟩ rfl (Nat.le_of_ble_eq_true rfl) dL_law_1907 ⟨hc, hs⟩) hS (fun q h => h.elim (hXA q) (fun h => by rw [h]; exact hoA)) (fun _ _ _ _ _ hx9 => hx9.elim) (fun H locs hp hzs hk1 hS => ?_)
  obtain ⟨hEC, f, hz, hf⟩ := hp
  have I := I.hlp F hS hzs hk1 hEC hz
  obtain ⟨hS, hXs, hEC, hx, hz, hzd⟩ := id I
  refine lv_istore (lv' := [(6, .int (nI (thCan M (xs (i + 1))))), (0, .ref b), (1, .ref x), (2, .ref y), (3, .ref zo), (4, .ref zd), (5, .int (nI i))]) hC.1 hC.2.1 dL_law_1910 hl (by decide) rfl (fun ls hl => ?_)
  refine lv_aload_n hC.1 hC.2.1 dL_law_1912 rfl (lv_at hl 3 rfl) ?_
  refine lv_aload_n hC.1 hC.2.1 dL_law_1913 rfl (lv_at hl 1 rfl) ?_
  refine lv_iload hC.1 hC.2.1 dL_law_1914 (lv_at hl 6 rfl) ?_
  refine lv_iconst (v := 1) hC.1 hC.2.1 dL_law_1916 (by decide) ?_
  refine lv_iadd hC.1 hC.2.1 dL_law_1917 ?_
  refine lw_ld hC hX hbl hS hL (i + 1) (nI_add i 1) (by omega) dL_law_1918 ?_
  refine ec_goEi (ec_rV hC (c_X6_cancel l G Y M th y ya hY hwf (xs (i + 1))) kL_208 (hOk.at hS hAN) hx (ec_rc hK hx.1 ⟨_, _, rfl⟩) hl.1 ⟨Nat.le_of_ble_eq_true rfl, Nat.le_of_ble_eq_true rfl⟩ rfl (Nat.le_of_ble_eq_true rfl) dL_law_1919 ⟨hc, hs⟩) hS hYA (fun w H locs hp hzs hk1 hS => ?_)
  obtain ⟨hw, hp⟩ := hp
  have I := I.mod F hS hzs hk1 hp
  obtain ⟨hS, hXs, hEC, hx, hz, hzd⟩ := id I
  refine lv_istore (lv' := [(7, .int w), (6, .int (nI (thCan M (xs (i + 1))))), (0, .ref b), (1, .ref x), (2, .ref y), (3, .ref zo), (4, .ref zd), (5, .int (nI i))]) hC.1 hC.2.1 dL_law_1922 hl (by decide) rfl (fun ls hl => ?_)
  refine lv_aload_n hC.1 hC.2.1 dL_law_1924 rfl (lv_at hl 4 rfl) ?_
  refine ec_go1 (ec_rV hC (c_X6_thrown l G Y _ _ y ya) kL_122 (hOk.at hS hAN) hx (ec_rc hK hx.1 ⟨_, _, rfl⟩) hl.1 ⟨Nat.le_of_ble_eq_true rfl, Nat.le_of_ble_eq_true rfl⟩ rfl (Nat.le_of_ble_eq_true rfl) dL_law_1925 ⟨hc, hs⟩) ?_
  refine lv_iload hC.1 hC.2.1 dL_law_1928 (lv_at hl 1 rfl) ?_
  refine lv_icmp_eq (tgt := 1935) hC.1 hC.2.1 dL_law_1930 (by decide) (fun c_1930 => ?_) (fun c => absurd rfl c)
  refine lv_iload hC.1 hC.2.1 dL_law_1935 (lv_at hl 1 rfl) ?_
  refine lv_if_ne (tgt := 1952) hC.1 hC.2.1 dL_law_1937 (by decide) (fun c_1937 => ?_) (fun c_1937 => ?_)
  · refine lv_goto (tgt := 2146) hC.1 hC.2.1 dL_law_1952 (by decide) ?_
    exact kk _ _ _ _ _ _ _ I (lv_sub hl [2, 3, 4, 5, 6, 7] rfl)
  · refine lv_aload_n hC.1 hC.2.1 dL_law_1940 rfl (lv_at hl 5 rfl) ?_
    refine lv_iconst (v := 0) hC.1 hC.2.1 dL_law_1941 (by decide) ?_
    have hT : thCan M (xs (i + 1)) = 0 := (nI_eq (b := 0) (by first | exact thCan_lt _ | exact thCan_lt _ _ | exact thCan_lt _ _ _ | exact thCan_lt _ _ _ _ | exact thCan_lt _ _ _ _ _ | exact thCan_lt _ _ _ _ _ _ | exact thCan_lt _ _ _ _ _ _ _) (by decide)).mp c_1937
    have hf := hf hT
    have hw := hw hT
    subst hw
    have hl : lv_has ls 9 [(7, .int (nI (cntN (setN M 6 (cN (xs (i + 1))) 1) (mnB M)))), (6, .int (nI (thCan M (xs (i + 1))))), (0, .ref b), (1, .ref x), (2, .ref y), (3, .ref zo), (4, .ref zd), (5, .int (nI i))] := hl
    refine ec_lald hC hK hz 0 rfl (by decide) (by decide) dL_law_1942 ?_
    refine lv_iload hC.1 hC.2.1 dL_law_1943 (lv_at hl 0 rfl) ?_
    refine lv_i2l hC.1 hC.2.1 dL_law_1945 rfl ?_
    refine W.lcmp hC.1 hC.2.1 dL_law_1946 ?_
    refine lv_if_eq (tgt := 1952) hC.1 hC.2.1 dL_law_1947 (by decide) (fun c_1947 => ?_) (fun c => absurd ((ec_cm0 _ _).mpr hf) c)
    refine lv_goto (tgt := 2146) hC.1 hC.2.1 dL_law_1952 (by decide) ?_
    exact kk _ _ _ _ _ _ _ I (lv_sub hl [2, 3, 4, 5, 6, 7] rfl)

set_option maxHeartbeats 4000000 in
set_option maxRecDepth 100000 in
/-- case 26: pass -/
theorem lw_c26 {p : Program} {l : Launch} {e : Env} {s : State} {m : MethodId} {below : List Frame} {meth : Method} {c : Code} {G : ecG} {X Y : Nat → Prop} {b L x y zo zd i : Nat} {ya : Nat → Nat} {xs : Nat → Int32} {H : Heap} {locs : List Loc} {M : ecM} {th : Int32} {f : Nat → Int64} {fd : Nat → UInt64} {ls : Array Slot} {cells slots : Nat} {Q : State → Prop} (F : lwF p l s m c G X Y b L xs zo zd) (I : lwI s G X Y x y zo zd ya H locs M M th f fd) (hi : i + 7 ≤ L) (hl : lv_has ls 9 (lwL b x y zo zd i)) (hc : cells + 8 ≤ room_1.cells) (hs : slots + 150 ≤ room_1.slots) (kk : ∀ (H : Heap) (locs : List Loc) (M : ecM) (th : Int32) (f : Nat → Int64) (fd : Nat → UInt64) (ls : Array Slot), lwI s G X Y x y zo zd ya H locs M M th f fd → lv_has ls 9 (lwL b x y zo zd i) → W p l e room_1 s m #[Value.ref b] below meth c H locs (cells + 8) (slots + 150) Q (F0 m 2146 ls [])) : W p l e room_1 s m #[Value.ref b] below meth c H locs cells slots Q (F0 m 1955 ls []) := by
  obtain ⟨hC, hls, hOk, hX, hbl, hL, hAN, hXA, hYA, hoA, hdA, hYX, hXo, hXd, hYo, hYd, hdo⟩ := id F
  have hK := hOk.1
  have hY : ∀ q, Y q → ecN0 G ≤ q := fun q h => hAN q (hYA q h)
  have hwf := I.2.2.1.wf
  obtain ⟨hS, hXs, hEC, hx, hz, hzd⟩ := id I
  have hl : lv_has ls 9 [(0, .ref b), (1, .ref x), (2, .ref y), (3, .ref zo), (4, .ref zd), (5, .int (nI i))] := hl
  refine lv_aload_n hC.1 hC.2.1 dL_law_1955 rfl (lv_at hl 1 rfl) ?_
  refine lv_aload_n hC.1 hC.2.1 dL_law_1956 rfl (lv_at hl 0 rfl) ?_
  refine lv_iload hC.1 hC.2.1 dL_law_1957 (lv_at hl 5 rfl) ?_
  refine lv_iconst (v := 1) hC.1 hC.2.1 dL_law_1959 (by decide) ?_
  refine lv_iadd hC.1 hC.2.1 dL_law_1960 ?_
  refine lw_ld hC hX hbl hS hL (i + 1) (nI_add i 1) (by omega) dL_law_1961 ?_
  refine lv_aload_n hC.1 hC.2.1 dL_law_1962 rfl (lv_at hl 3 rfl) ?_
  refine ec_goXE1 (ec_xSH hC (c_L_pass l hls G X M x zo f hXo (hAN _ hoA) (xs (i + 1))) kL_209 (hOk.at hS hAN) ⟨hXs, hEC, hz⟩ hl.1 ⟨Nat.le_of_ble_eq_true rfl, Nat.le_of_ble_eq_true rfl⟩ rfl (Nat.le_of_ble_eq_true rfl) dL_law_1963 ⟨hc, hs⟩) hS (fun q h => h.elim (hXA q) (fun h => by rw [h]; exact hoA)) (fun _ _ _ _ _ hx9 => hx9.elim) (fun H locs hp hzs hk1 hS => ?_)
  obtain ⟨hEC, f, hz, hf⟩ := hp
  have I := I.hlp F hS hzs hk1 hEC hz
  obtain ⟨hS, hXs, hEC, hx, hz, hzd⟩ := id I
  refine lv_istore (lv' := [(6, .int (nI (thPas M (xs (i + 1))))), (0, .ref b), (1, .ref x), (2, .ref y), (3, .ref zo), (4, .ref zd), (5, .int (nI i))]) hC.1 hC.2.1 dL_law_1966 hl (by decide) rfl (fun ls hl => ?_)
  refine lv_aload_n hC.1 hC.2.1 dL_law_1968 rfl (lv_at hl 3 rfl) ?_
  refine lv_aload_n hC.1 hC.2.1 dL_law_1969 rfl (lv_at hl 1 rfl) ?_
  refine lv_iload hC.1 hC.2.1 dL_law_1970 (lv_at hl 6 rfl) ?_
  refine lv_iconst (v := 1) hC.1 hC.2.1 dL_law_1972 (by decide) ?_
  refine lv_iadd hC.1 hC.2.1 dL_law_1973 ?_
  refine lw_ld hC hX hbl hS hL (i + 1) (nI_add i 1) (by omega) dL_law_1974 ?_
  refine ec_goEi (ec_rV hC (c_X6_pass l G Y M th y ya hY hwf (xs (i + 1))) kL_211 (hOk.at hS hAN) hx (ec_rc hK hx.1 ⟨_, _, rfl⟩) hl.1 ⟨Nat.le_of_ble_eq_true rfl, Nat.le_of_ble_eq_true rfl⟩ rfl (Nat.le_of_ble_eq_true rfl) dL_law_1975 ⟨hc, hs⟩) hS hYA (fun w H locs hp hzs hk1 hS => ?_)
  obtain ⟨hw, hp⟩ := hp
  have I := I.mod F hS hzs hk1 hp
  obtain ⟨hS, hXs, hEC, hx, hz, hzd⟩ := id I
  refine lv_istore (lv' := [(7, .int w), (6, .int (nI (thPas M (xs (i + 1))))), (0, .ref b), (1, .ref x), (2, .ref y), (3, .ref zo), (4, .ref zd), (5, .int (nI i))]) hC.1 hC.2.1 dL_law_1978 hl (by decide) rfl (fun ls hl => ?_)
  refine lv_aload_n hC.1 hC.2.1 dL_law_1980 rfl (lv_at hl 4 rfl) ?_
  refine ec_go1 (ec_rV hC (c_X6_thrown l G Y _ _ y ya) kL_122 (hOk.at hS hAN) hx (ec_rc hK hx.1 ⟨_, _, rfl⟩) hl.1 ⟨Nat.le_of_ble_eq_true rfl, Nat.le_of_ble_eq_true rfl⟩ rfl (Nat.le_of_ble_eq_true rfl) dL_law_1981 ⟨hc, hs⟩) ?_
  refine lv_iload hC.1 hC.2.1 dL_law_1984 (lv_at hl 1 rfl) ?_
  refine lv_icmp_eq (tgt := 1991) hC.1 hC.2.1 dL_law_1986 (by decide) (fun c_1986 => ?_) (fun c => absurd rfl c)
  refine lv_iload hC.1 hC.2.1 dL_law_1991 (lv_at hl 1 rfl) ?_
  refine lv_if_ne (tgt := 2008) hC.1 hC.2.1 dL_law_1993 (by decide) (fun c_1993 => ?_) (fun c_1993 => ?_)
  · refine lv_goto (tgt := 2146) hC.1 hC.2.1 dL_law_2008 (by decide) ?_
    exact kk _ _ _ _ _ _ _ I (lv_sub hl [2, 3, 4, 5, 6, 7] rfl)
  · refine lv_aload_n hC.1 hC.2.1 dL_law_1996 rfl (lv_at hl 5 rfl) ?_
    refine lv_iconst (v := 0) hC.1 hC.2.1 dL_law_1997 (by decide) ?_
    have hT : thPas M (xs (i + 1)) = 0 := (nI_eq (b := 0) (by first | exact thPas_lt _ | exact thPas_lt _ _ | exact thPas_lt _ _ _ | exact thPas_lt _ _ _ _ | exact thPas_lt _ _ _ _ _ | exact thPas_lt _ _ _ _ _ _ | exact thPas_lt _ _ _ _ _ _ _) (by decide)).mp c_1993
    have hf := hf hT
    have hw := hw hT
    subst hw
    have hl : lv_has ls 9 [(7, .int (nI (pasC M (cN (xs (i + 1)))))), (6, .int (nI (thPas M (xs (i + 1))))), (0, .ref b), (1, .ref x), (2, .ref y), (3, .ref zo), (4, .ref zd), (5, .int (nI i))] := hl
    refine ec_lald hC hK hz 0 rfl (by decide) (by decide) dL_law_1998 ?_
    refine lv_iload hC.1 hC.2.1 dL_law_1999 (lv_at hl 0 rfl) ?_
    refine lv_i2l hC.1 hC.2.1 dL_law_2001 rfl ?_
    refine W.lcmp hC.1 hC.2.1 dL_law_2002 ?_
    refine lv_if_eq (tgt := 2008) hC.1 hC.2.1 dL_law_2003 (by decide) (fun c_2003 => ?_) (fun c => absurd ((ec_cm0 _ _).mpr hf) c)
    refine lv_goto (tgt := 2146) hC.1 hC.2.1 dL_law_2008 (by decide) ?_
    exact kk _ _ _ _ _ _ _ I (lv_sub hl [2, 3, 4, 5, 6, 7] rfl)

set_option maxHeartbeats 4000000 in
set_option maxRecDepth 100000 in
/-- case 27: hour -/
theorem lw_c27 {p : Program} {l : Launch} {e : Env} {s : State} {m : MethodId} {below : List Frame} {meth : Method} {c : Code} {G : ecG} {X Y : Nat → Prop} {b L x y zo zd i : Nat} {ya : Nat → Nat} {xs : Nat → Int32} {H : Heap} {locs : List Loc} {M : ecM} {th : Int32} {f : Nat → Int64} {fd : Nat → UInt64} {ls : Array Slot} {cells slots : Nat} {Q : State → Prop} (F : lwF p l s m c G X Y b L xs zo zd) (I : lwI s G X Y x y zo zd ya H locs M M th f fd) (hi : i + 7 ≤ L) (hl : lv_has ls 9 (lwL b x y zo zd i)) (hc : cells + 8 ≤ room_1.cells) (hs : slots + 150 ≤ room_1.slots) (kk : ∀ (H : Heap) (locs : List Loc) (M : ecM) (th : Int32) (f : Nat → Int64) (fd : Nat → UInt64) (ls : Array Slot), lwI s G X Y x y zo zd ya H locs M M th f fd → lv_has ls 9 (lwL b x y zo zd i) → W p l e room_1 s m #[Value.ref b] below meth c H locs (cells + 8) (slots + 150) Q (F0 m 2146 ls [])) : W p l e room_1 s m #[Value.ref b] below meth c H locs cells slots Q (F0 m 2011 ls []) := by
  obtain ⟨hC, hls, hOk, hX, hbl, hL, hAN, hXA, hYA, hoA, hdA, hYX, hXo, hXd, hYo, hYd, hdo⟩ := id F
  have hK := hOk.1
  have hY : ∀ q, Y q → ecN0 G ≤ q := fun q h => hAN q (hYA q h)
  have hwf := I.2.2.1.wf
  obtain ⟨hS, hXs, hEC, hx, hz, hzd⟩ := id I
  have hl : lv_has ls 9 [(0, .ref b), (1, .ref x), (2, .ref y), (3, .ref zo), (4, .ref zd), (5, .int (nI i))] := hl
  refine lv_aload_n hC.1 hC.2.1 dL_law_2011 rfl (lv_at hl 1 rfl) ?_
  have hlab : ∃ fs, ecA G x (eO 5 fs) H := by obtain ⟨tg9, ad9, hx9, hw9⟩ := hEC; exact ⟨_, hx9 ▸ hw9.1.1⟩
  obtain ⟨fs9, hlab⟩ := hlab
  refine ec_go1 (ec_rV hC (c_X5_hour l G X M x) kL_212 (hOk.at hS hAN) hEC (ec_rc hK hlab ⟨_, _, rfl⟩) hl.1 ⟨Nat.le_of_ble_eq_true rfl, Nat.le_of_ble_eq_true rfl⟩ rfl (Nat.le_of_ble_eq_true rfl) dL_law_2012 ⟨Nat.le_trans (Nat.le_add_right cells 8) hc, Nat.le_trans (Nat.le_add_right slots 150) hs⟩) ?_
  refine lv_aload_n hC.1 hC.2.1 dL_law_2015 rfl (lv_at hl 2 rfl) ?_
  refine ec_goE1 (ec_rV hC (c_X6_hour l G Y M th y ya hY hwf) kL_215 (hOk.at hS hAN) hx (ec_rc hK hx.1 ⟨_, _, rfl⟩) hl.1 ⟨Nat.le_of_ble_eq_true rfl, Nat.le_of_ble_eq_true rfl⟩ rfl (Nat.le_of_ble_eq_true rfl) dL_law_2016 ⟨Nat.le_trans (Nat.le_add_right cells 8) hc, Nat.le_trans (Nat.le_add_right slots 150) hs⟩) hS hYA (fun H locs hp hzs hk1 hS => ?_)
  have I := I.mod F hS hzs hk1 hp
  obtain ⟨hS, hXs, hEC, hx, hz, hzd⟩ := id I
  refine lv_icmp_eq (tgt := 2146) hC.1 hC.2.1 dL_law_2019 (by decide) (fun c_2019 => ?_) (fun c => absurd rfl c)
  refine W.widen (k := cells + 8) (n := slots + 150) (show cells ≤ cells + 8 from Nat.le_add_right _ _) (show slots ≤ slots + 150 from Nat.le_add_right _ _) ?_
  exact kk _ _ _ _ _ _ _ I (lv_sub hl [0, 1, 2, 3, 4, 5] rfl)

set_option maxHeartbeats 4000000 in
set_option maxRecDepth 100000 in
/-- case 28: nextBooking -/
theorem lw_c28 {p : Program} {l : Launch} {e : Env} {s : State} {m : MethodId} {below : List Frame} {meth : Method} {c : Code} {G : ecG} {X Y : Nat → Prop} {b L x y zo zd i : Nat} {ya : Nat → Nat} {xs : Nat → Int32} {H : Heap} {locs : List Loc} {M : ecM} {th : Int32} {f : Nat → Int64} {fd : Nat → UInt64} {ls : Array Slot} {cells slots : Nat} {Q : State → Prop} (F : lwF p l s m c G X Y b L xs zo zd) (I : lwI s G X Y x y zo zd ya H locs M M th f fd) (hi : i + 7 ≤ L) (hl : lv_has ls 9 (lwL b x y zo zd i)) (hc : cells + 8 ≤ room_1.cells) (hs : slots + 150 ≤ room_1.slots) (kk : ∀ (H : Heap) (locs : List Loc) (M : ecM) (th : Int32) (f : Nat → Int64) (fd : Nat → UInt64) (ls : Array Slot), lwI s G X Y x y zo zd ya H locs M M th f fd → lv_has ls 9 (lwL b x y zo zd i) → W p l e room_1 s m #[Value.ref b] below meth c H locs (cells + 8) (slots + 150) Q (F0 m 2146 ls [])) : W p l e room_1 s m #[Value.ref b] below meth c H locs cells slots Q (F0 m 2024 ls []) := by
  obtain ⟨hC, hls, hOk, hX, hbl, hL, hAN, hXA, hYA, hoA, hdA, hYX, hXo, hXd, hYo, hYd, hdo⟩ := id F
  have hK := hOk.1
  have hY : ∀ q, Y q → ecN0 G ≤ q := fun q h => hAN q (hYA q h)
  have hwf := I.2.2.1.wf
  obtain ⟨hS, hXs, hEC, hx, hz, hzd⟩ := id I
  have hl : lv_has ls 9 [(0, .ref b), (1, .ref x), (2, .ref y), (3, .ref zo), (4, .ref zd), (5, .int (nI i))] := hl
  refine lv_aload_n hC.1 hC.2.1 dL_law_2024 rfl (lv_at hl 1 rfl) ?_
  refine lv_aload_n hC.1 hC.2.1 dL_law_2025 rfl (lv_at hl 0 rfl) ?_
  refine lv_iload hC.1 hC.2.1 dL_law_2026 (lv_at hl 5 rfl) ?_
  refine lv_iconst (v := 1) hC.1 hC.2.1 dL_law_2028 (by decide) ?_
  refine lv_iadd hC.1 hC.2.1 dL_law_2029 ?_
  refine lw_ld hC hX hbl hS hL (i + 1) (nI_add i 1) (by omega) dL_law_2030 ?_
  refine lv_aload_n hC.1 hC.2.1 dL_law_2031 rfl (lv_at hl 3 rfl) ?_
  refine ec_goXE1 (ec_xSH hC (c_L_nextBooking l hls G X M x zo f hXo (hAN _ hoA) (xs (i + 1))) kL_216 (hOk.at hS hAN) ⟨hXs, hEC, hz⟩ hl.1 ⟨Nat.le_of_ble_eq_true rfl, Nat.le_of_ble_eq_true rfl⟩ rfl (Nat.le_of_ble_eq_true rfl) dL_law_2032 ⟨hc, hs⟩) hS (fun q h => h.elim (hXA q) (fun h => by rw [h]; exact hoA)) (fun _ _ _ _ _ hx9 => hx9.elim) (fun H locs hp hzs hk1 hS => ?_)
  obtain ⟨hEC, f, hz, hf⟩ := hp
  rw [ite_self] at hEC
  have I := I.hlp F hS hzs hk1 hEC hz
  obtain ⟨hS, hXs, hEC, hx, hz, hzd⟩ := id I
  refine lv_istore (lv' := [(6, .int (nI (thNxt M (xs (i + 1))))), (0, .ref b), (1, .ref x), (2, .ref y), (3, .ref zo), (4, .ref zd), (5, .int (nI i))]) hC.1 hC.2.1 dL_law_2035 hl (by decide) rfl (fun ls hl => ?_)
  refine lv_aload_n hC.1 hC.2.1 dL_law_2037 rfl (lv_at hl 3 rfl) ?_
  refine lv_aload_n hC.1 hC.2.1 dL_law_2038 rfl (lv_at hl 1 rfl) ?_
  refine lv_iload hC.1 hC.2.1 dL_law_2039 (lv_at hl 6 rfl) ?_
  refine lv_iconst (v := 1) hC.1 hC.2.1 dL_law_2041 (by decide) ?_
  refine lv_iadd hC.1 hC.2.1 dL_law_2042 ?_
  refine lw_ld hC hX hbl hS hL (i + 1) (nI_add i 1) (by omega) dL_law_2043 ?_
  refine ec_goEi (ec_rV hC (c_X6_nextBooking l G Y M th y ya hY hwf (xs (i + 1))) kL_218 (hOk.at hS hAN) hx (ec_rc hK hx.1 ⟨_, _, rfl⟩) hl.1 ⟨Nat.le_of_ble_eq_true rfl, Nat.le_of_ble_eq_true rfl⟩ rfl (Nat.le_of_ble_eq_true rfl) dL_law_2044 ⟨hc, hs⟩) hS hYA (fun w H locs hp hzs hk1 hS => ?_)
  obtain ⟨hw, hp⟩ := hp
  have I := I.mod F hS hzs hk1 hp
  obtain ⟨hS, hXs, hEC, hx, hz, hzd⟩ := id I
  refine lv_istore (lv' := [(7, .int w), (6, .int (nI (thNxt M (xs (i + 1))))), (0, .ref b), (1, .ref x), (2, .ref y), (3, .ref zo), (4, .ref zd), (5, .int (nI i))]) hC.1 hC.2.1 dL_law_2047 hl (by decide) rfl (fun ls hl => ?_)
  refine lv_aload_n hC.1 hC.2.1 dL_law_2049 rfl (lv_at hl 4 rfl) ?_
  refine ec_go1 (ec_rV hC (c_X6_thrown l G Y _ _ y ya) kL_122 (hOk.at hS hAN) hx (ec_rc hK hx.1 ⟨_, _, rfl⟩) hl.1 ⟨Nat.le_of_ble_eq_true rfl, Nat.le_of_ble_eq_true rfl⟩ rfl (Nat.le_of_ble_eq_true rfl) dL_law_2050 ⟨hc, hs⟩) ?_
  refine lv_iload hC.1 hC.2.1 dL_law_2053 (lv_at hl 1 rfl) ?_
  refine lv_icmp_eq (tgt := 2060) hC.1 hC.2.1 dL_law_2055 (by decide) (fun c_2055 => ?_) (fun c => absurd rfl c)
  refine lv_iload hC.1 hC.2.1 dL_law_2060 (lv_at hl 1 rfl) ?_
  refine lv_if_ne (tgt := 2077) hC.1 hC.2.1 dL_law_2062 (by decide) (fun c_2062 => ?_) (fun c_2062 => ?_)
  · refine lv_goto (tgt := 2146) hC.1 hC.2.1 dL_law_2077 (by decide) ?_
    exact kk _ _ _ _ _ _ _ I (lv_sub hl [2, 3, 4, 5, 6, 7] rfl)
  · refine lv_aload_n hC.1 hC.2.1 dL_law_2065 rfl (lv_at hl 5 rfl) ?_
    refine lv_iconst (v := 0) hC.1 hC.2.1 dL_law_2066 (by decide) ?_
    have hT : thNxt M (xs (i + 1)) = 0 := (nI_eq (b := 0) (by first | exact thNxt_lt _ | exact thNxt_lt _ _ | exact thNxt_lt _ _ _ | exact thNxt_lt _ _ _ _ | exact thNxt_lt _ _ _ _ _ | exact thNxt_lt _ _ _ _ _ _ | exact thNxt_lt _ _ _ _ _ _ _) (by decide)).mp c_2062
    have hf := hf hT
    have hw := hw hT
    subst hw
    have hl : lv_has ls 9 [(7, .int (nI ((nxtN M (cN (xs (i + 1))) (mnB M)).getD 0))), (6, .int (nI (thNxt M (xs (i + 1))))), (0, .ref b), (1, .ref x), (2, .ref y), (3, .ref zo), (4, .ref zd), (5, .int (nI i))] := hl
    refine ec_lald hC hK hz 0 rfl (by decide) (by decide) dL_law_2067 ?_
    refine lv_iload hC.1 hC.2.1 dL_law_2068 (lv_at hl 0 rfl) ?_
    refine lv_i2l hC.1 hC.2.1 dL_law_2070 rfl ?_
    refine W.lcmp hC.1 hC.2.1 dL_law_2071 ?_
    refine lv_if_eq (tgt := 2077) hC.1 hC.2.1 dL_law_2072 (by decide) (fun c_2072 => ?_) (fun c => absurd ((ec_cm0 _ _).mpr hf) c)
    refine lv_goto (tgt := 2146) hC.1 hC.2.1 dL_law_2077 (by decide) ?_
    exact kk _ _ _ _ _ _ _ I (lv_sub hl [2, 3, 4, 5, 6, 7] rfl)

set_option maxHeartbeats 4000000 in
set_option maxRecDepth 100000 in
/-- case 29: usableShare -/
theorem lw_c29 {p : Program} {l : Launch} {e : Env} {s : State} {m : MethodId} {below : List Frame} {meth : Method} {c : Code} {G : ecG} {X Y : Nat → Prop} {b L x y zo zd i : Nat} {ya : Nat → Nat} {xs : Nat → Int32} {H : Heap} {locs : List Loc} {M : ecM} {th : Int32} {f : Nat → Int64} {fd : Nat → UInt64} {ls : Array Slot} {cells slots : Nat} {Q : State → Prop} (F : lwF p l s m c G X Y b L xs zo zd) (I : lwI s G X Y x y zo zd ya H locs M M th f fd) (hi : i + 7 ≤ L) (hl : lv_has ls 9 (lwL b x y zo zd i)) (hc : cells + 8 ≤ room_1.cells) (hs : slots + 150 ≤ room_1.slots) (kk : ∀ (H : Heap) (locs : List Loc) (M : ecM) (th : Int32) (f : Nat → Int64) (fd : Nat → UInt64) (ls : Array Slot), lwI s G X Y x y zo zd ya H locs M M th f fd → lv_has ls 9 (lwL b x y zo zd i) → W p l e room_1 s m #[Value.ref b] below meth c H locs (cells + 8) (slots + 150) Q (F0 m 2146 ls [])) : W p l e room_1 s m #[Value.ref b] below meth c H locs cells slots Q (F0 m 2080 ls []) := by
  obtain ⟨hC, hls, hOk, hX, hbl, hL, hAN, hXA, hYA, hoA, hdA, hYX, hXo, hXd, hYo, hYd, hdo⟩ := id F
  have hK := hOk.1
  have hY : ∀ q, Y q → ecN0 G ≤ q := fun q h => hAN q (hYA q h)
  have hwf := I.2.2.1.wf
  obtain ⟨hS, hXs, hEC, hx, hz, hzd⟩ := id I
  have hl : lv_has ls 9 [(0, .ref b), (1, .ref x), (2, .ref y), (3, .ref zo), (4, .ref zd), (5, .int (nI i))] := hl
  refine lv_aload_n hC.1 hC.2.1 dL_law_2080 rfl (lv_at hl 1 rfl) ?_
  refine lv_aload hC.1 hC.2.1 dL_law_2081 (lv_at hl 4 rfl) ?_
  refine ec_goXE1 (ec_xSH hC (c_L_usableShare l hls G X M x zd fd hXd (hAN _ hdA)) kL_219 (hOk.at hS hAN) ⟨hXs, hEC, hzd⟩ hl.1 ⟨Nat.le_of_ble_eq_true rfl, Nat.le_of_ble_eq_true rfl⟩ rfl (Nat.le_of_ble_eq_true rfl) dL_law_2083 ⟨hc, hs⟩) hS (fun q h => h.elim (hXA q) (fun h => by rw [h]; exact hdA)) (fun _ _ _ _ _ hx9 => hx9.elim) (fun H locs hp hzs hk1 hS => ?_)
  obtain ⟨hEC, fd, hzd, hf⟩ := hp
  rw [ite_self] at hEC
  have I := I.hlpD F hS hzs hk1 hEC hzd
  obtain ⟨hS, hXs, hEC, hx, hz, hzd⟩ := id I
  refine lv_istore (lv' := [(6, .int (nI (thSha M))), (0, .ref b), (1, .ref x), (2, .ref y), (3, .ref zo), (4, .ref zd), (5, .int (nI i))]) hC.1 hC.2.1 dL_law_2086 hl (by decide) rfl (fun ls hl => ?_)
  refine lv_aload_n hC.1 hC.2.1 dL_law_2088 rfl (lv_at hl 3 rfl) ?_
  refine ec_goEf (ec_rV hC (c_X6_usableShare l G Y M th y ya hY hwf) kL_222 (hOk.at hS hAN) hx (ec_rc hK hx.1 ⟨_, _, rfl⟩) hl.1 ⟨Nat.le_of_ble_eq_true rfl, Nat.le_of_ble_eq_true rfl⟩ rfl (Nat.le_of_ble_eq_true rfl) dL_law_2089 ⟨hc, hs⟩) hS hYA (fun w H locs hp hzs hk1 hS => ?_)
  obtain ⟨hw, hp⟩ := hp
  have I := I.mod F hS hzs hk1 hp
  obtain ⟨hS, hXs, hEC, hx, hz, hzd⟩ := id I
  refine lv_fstore (lv' := [(7, .float w), (6, .int (nI (thSha M))), (0, .ref b), (1, .ref x), (2, .ref y), (3, .ref zo), (4, .ref zd), (5, .int (nI i))]) hC.1 hC.2.1 dL_law_2092 hl (by decide) rfl (fun ls hl => ?_)
  refine lv_aload_n hC.1 hC.2.1 dL_law_2094 rfl (lv_at hl 4 rfl) ?_
  refine ec_go1 (ec_rV hC (c_X6_thrown l G Y _ _ y ya) kL_122 (hOk.at hS hAN) hx (ec_rc hK hx.1 ⟨_, _, rfl⟩) hl.1 ⟨Nat.le_of_ble_eq_true rfl, Nat.le_of_ble_eq_true rfl⟩ rfl (Nat.le_of_ble_eq_true rfl) dL_law_2095 ⟨hc, hs⟩) ?_
  refine lv_iload hC.1 hC.2.1 dL_law_2098 (lv_at hl 1 rfl) ?_
  refine lv_icmp_eq (tgt := 2105) hC.1 hC.2.1 dL_law_2100 (by decide) (fun c_2100 => ?_) (fun c => absurd rfl c)
  refine lv_iload hC.1 hC.2.1 dL_law_2105 (lv_at hl 1 rfl) ?_
  refine lv_if_ne (tgt := 2143) hC.1 hC.2.1 dL_law_2107 (by decide) (fun c_2107 => ?_) (fun c_2107 => ?_)
  · refine lv_goto (tgt := 2146) hC.1 hC.2.1 dL_law_2143 (by decide) ?_
    exact kk _ _ _ _ _ _ _ I (lv_sub hl [2, 3, 4, 5, 6, 7] rfl)
  · refine lv_aload hC.1 hC.2.1 dL_law_2110 (lv_at hl 6 rfl) ?_
    refine lv_iconst (v := 0) hC.1 hC.2.1 dL_law_2112 (by decide) ?_
    have hT : thSha M = 0 := (nI_eq (b := 0) (by first | exact thSha_lt _ | exact thSha_lt _ _ | exact thSha_lt _ _ _ | exact thSha_lt _ _ _ _ | exact thSha_lt _ _ _ _ _ | exact thSha_lt _ _ _ _ _ _ | exact thSha_lt _ _ _ _ _ _ _) (by decide)).mp c_2107
    have hf := hf hT
    have hw := hw hT
    subst hw
    have hnz : mnF M ≠ 0 := fun z => by unfold thSha at hT; rw [if_pos z] at hT; cases hT
    have hl : lv_has ls 9 [(7, .float (FP.fdiv (FP.i2f (nI (freN M (mnF M)))) (FP.i2f (nI (mnF M))))), (6, .int (nI (thSha M))), (0, .ref b), (1, .ref x), (2, .ref y), (3, .ref zo), (4, .ref zd), (5, .int (nI i))] := hl
    have hnn := sh_nd _ (show freN M (mnF M) < 21 by have := freN_le M (mnF M); have := hwf.2.2.1; omega) _ (show mnF M < 21 by have := hwf.2.2.1; omega) (show 0 < mnF M by omega)
    refine ec_dald hC hK hzd 0 rfl (by decide) (by decide) dL_law_2113 ?_
    refine lv_fload hC.1 hC.2.1 dL_law_2114 (lv_at hl 0 rfl) ?_
    refine lv_f2d hC.1 hC.2.1 dL_law_2116 hnn.1 ?_
    refine lv_dcmp hC.1 hC.2.1 dL_law_2117 ?_
    refine lv_if_eq (tgt := 2143) hC.1 hC.2.1 dL_law_2118 (by decide) (fun c_2118 => ?_) (fun c => absurd (by rw [hf]; exact hnn.2) c)
    refine lv_goto (tgt := 2146) hC.1 hC.2.1 dL_law_2143 (by decide) ?_
    exact kk _ _ _ _ _ _ _ I (lv_sub hl [2, 3, 4, 5, 6, 7] rfl)
