set_option maxHeartbeats 4000000 in
set_option maxRecDepth 100000 in
/-- setLimit -/
theorem c_X5_setLimit (l : Launch) (hls : l.stackTraces = false) (G : ecG) (X : Nat → Prop) (M : ecM) (x : Nat) (a : Int32) : vx_Met l yX5_setLimit (ecWs yX5_setLimit cX5_setLimit 3 (Option.some FieldType.int)) (ecRm 9 8 150) (ecPc [.ref x, .int a] G (fun H => ecXs G X H ∧ EC G X M x H)) (ecEp (fun v H1 => v = some (.int (mlm M)) ∧ thLim a = 0 ∧ EC G X (setI M 9 1 a) x H1) (X)) (ecXc (fun E => (E, thLim a) ∈ [(eAG, 1)])) 8 150 (X) := by
  refine ec_xmet (by decide) (Nat.le_of_ble_eq_true rfl) ?_
  intro p e s m below meth c hC hr hlocks hnx hOk hpre ls hl
  have hK := hOk.1
  obtain ⟨hXs, hEC⟩ := hpre
  have hS : va_S (X) s.heap s.heap [] := va_S.rf
  have hkp : ecKp s.heap s.heap := ecKp.rf
  have hAN : ∀ q, (X) q → ecN0 G ≤ q := hXs.1
  have hl : lv_has ls 3 [(0, .ref x), (1, .int a)] := hl
  obtain ⟨tg, ad, rfl, hw⟩ := hEC
  have hn0 := hw.wf.n
  have hlab : ecA G (ad 0 0) (eO 5 [.ref (ad 1 0), .ref (ad 1 1), .ref (ad 1 2), .ref (ad 1 3), .int (mhr M), .int (mlm M)]) s.heap := hw.1.1
  refine lv_iload_n hC.1 hC.2.1 dX5_setLimit_0 rfl (lv_at hl 1 rfl) ?_
  refine lv_if_lt (tgt := 11) hC.1 hC.2.1 dX5_setLimit_1 (by decide) (fun c_1 => ?_) (fun c_1 => ?_)
  · exact ec_throw hC hls xX5_90 hOk hAN hS hkp (is := 195) (text := "a limit is from 0 to 999") (by decide) hl.1 hnx hlocks dX5_setLimit_11 dX5_setLimit_14 dX5_setLimit_15 dX5_setLimit_17 dX5_setLimit_20 (ecx (by unfold thLim; rw [rgB_lo c_1]; rfl) rfl (.head _)) ⟨Nat.le_of_ble_eq_true rfl, Nat.le_of_ble_eq_true rfl, Nat.le_of_ble_eq_true rfl, Nat.le_of_ble_eq_true rfl⟩ (Nat.le_of_ble_eq_true rfl) (Nat.le_of_ble_eq_true rfl)
  · refine lv_iload_n hC.1 hC.2.1 dX5_setLimit_4 rfl (lv_at hl 1 rfl) ?_
    refine lv_sipush (v := 999) hC.1 hC.2.1 dX5_setLimit_5 (by decide) ?_
    refine lv_icmp_le (tgt := 21) hC.1 hC.2.1 dX5_setLimit_8 (by decide) (fun c_8 => ?_) (fun c_8 => ?_)
    · refine lv_aload_n hC.1 hC.2.1 dX5_setLimit_21 rfl (lv_at hl 0 rfl) ?_
      refine ec_get hC hK hlab fX5_29 rfl dX5_setLimit_22 ?_
      refine lv_istore_n (lv' := [(2, .int (mlm M)), (0, .ref (ad 0 0)), (1, .int a)]) hC.1 hC.2.1 dX5_setLimit_25 rfl hl (by decide) rfl (fun ls hl => ?_)
      refine lv_aload_n hC.1 hC.2.1 dX5_setLimit_26 rfl (lv_at hl 1 rfl) ?_
      refine lv_iload_n hC.1 hC.2.1 dX5_setLimit_27 rfl (lv_at hl 2 rfl) ?_
      refine ec_put hC hK hS hlab hw.1.2.2 fX5_29 rfl rfl rfl (Nat.le_of_ble_eq_true rfl) dX5_setLimit_28 (fun H locs h9 o9 z9 hS => ?_)
      have hlab : ecA G (ad 0 0) (eO 5 [.ref (ad 1 0), .ref (ad 1 1), .ref (ad 1 2), .ref (ad 1 3), .int (mhr M), .int a]) H := h9
      refine lv_iload_n hC.1 hC.2.1 dX5_setLimit_31 rfl (lv_at hl 0 rfl) ?_
      refine vx_ret ?_
      refine W.widen (k := 8) (n := 150) (Nat.le_of_ble_eq_true rfl) (Nat.le_of_ble_eq_true rfl) ?_
      exact W.iret hC.1 hC.2.1 hr (fun t9 ht9 _ => ⟨_, rfl, by rw [ht9]; exact ⟨rfl, (by unfold thLim; rw [rgB_ok2 c_1 c_8]; rfl), tg, ad, rfl, hw.setLm hlab (fun q _ hn => o9 q hn)⟩, hS.F ht9⟩) hS.2.2 dX5_setLimit_32
    · exact ec_throw hC hls xX5_90 hOk hAN hS hkp (is := 195) (text := "a limit is from 0 to 999") (by decide) hl.1 hnx hlocks dX5_setLimit_11 dX5_setLimit_14 dX5_setLimit_15 dX5_setLimit_17 dX5_setLimit_20 (ecx (by unfold thLim; rw [rgB_hi2 c_8]; rfl) rfl (.head _)) ⟨Nat.le_of_ble_eq_true rfl, Nat.le_of_ble_eq_true rfl, Nat.le_of_ble_eq_true rfl, Nat.le_of_ble_eq_true rfl⟩ (Nat.le_of_ble_eq_true rfl) (Nat.le_of_ble_eq_true rfl)

set_option maxHeartbeats 4000000 in
set_option maxRecDepth 100000 in
/-- clash -/
theorem c_X5_clash (l : Launch) (hls : l.stackTraces = false) (G : ecG) (X : Nat → Prop) (M : ecM) (x : Nat) (r c0 s0 : Int32) (o : Bool) (f2 l2 : Int32) : vx_Met l yX5_clash (ecWs yX5_clash cX5_clash 10 (Option.some FieldType.int)) (ecRm 9 8 150) (ecPc [.ref x, .int r, .int c0, .int s0, .int (bI o), .int f2, .int l2] G (fun H => ecXs G X H ∧ EC G X M x H)) (ecEp (fun v H1 => v = some (.int (nI ((clM M (cN r) (cdN c0 s0 o) f2 l2).getD 0))) ∧ thCla M r c0 s0 o f2 l2 = 0 ∧ EC G X (M) x H1) (X)) (ecXc (fun E => (E, thCla M r c0 s0 o f2 l2) ∈ [(eIX, 1), (eAG, 2), (eNS, 3)])) 8 150 (X) := by
  refine ec_xmet (by decide) (Nat.le_of_ble_eq_true rfl) ?_
  intro p e s m below meth c hC hr hlocks hnx hOk hpre ls hl
  have hK := hOk.1
  obtain ⟨hXs, hEC⟩ := hpre
  have hS : va_S (X) s.heap s.heap [] := va_S.rf
  have hkp : ecKp s.heap s.heap := ecKp.rf
  have hAN : ∀ q, (X) q → ecN0 G ≤ q := hXs.1
  have hl : lv_has ls 10 [(0, .ref x), (1, .int r), (2, .int c0), (3, .int s0), (4, .int (bI o)), (5, .int f2), (6, .int l2)] := hl
  obtain ⟨tg, ad, rfl, hw⟩ := hEC
  have hn0 := hw.wf.n
  refine lv_aload_n hC.1 hC.2.1 dX5_clash_0 rfl (lv_at hl 0 rfl) ?_
  refine lv_iload_n hC.1 hC.2.1 dX5_clash_1 rfl (lv_at hl 1 rfl) ?_
  refine ec_goXj (ec_xV hC (c_X5_roomAt l hls G X M tg ad r) kX5_57 (hOk.at hS hAN) hw (ec_rc hK hw.1.1 ⟨_, _, rfl⟩) hl.1 ⟨Nat.le_of_ble_eq_true rfl, Nat.le_of_ble_eq_true rfl⟩ rfl (Nat.le_of_ble_eq_true rfl) dX5_clash_2 ⟨Nat.le_of_ble_eq_true rfl, Nat.le_of_ble_eq_true rfl⟩) hS (fun E9 ce9 q9 H9 hx hk9 hS9 h1 h2 h3 => ec_out hnx hlocks (ecx (by unfold thCla; rw [hx.2]; rfl) hx.1 (.head _)) (hkp.tr hk9) hS9 h1 h2 h3 (Nat.le_of_ble_eq_true rfl) (Nat.le_of_ble_eq_true rfl)) (fun j hj => ?_)
  obtain ⟨hj, rfl⟩ := hj
  have hjc : cN (nI j) = j := nI_clamp (by have := hw.wf.n; omega)
  refine lv_astore (lv' := [(7, .ref (ad 3 j)), (0, .ref (ad 0 0)), (1, .int (nI j)), (2, .int c0), (3, .int s0), (4, .int (bI o)), (5, .int f2), (6, .int l2)]) hC.1 hC.2.1 dX5_clash_5 hl (by decide) rfl (fun ls hl => ?_)
  refine lv_iload_n hC.1 hC.2.1 dX5_clash_7 rfl (lv_at hl 3 rfl) ?_
  refine lv_iload_n hC.1 hC.2.1 dX5_clash_8 rfl (lv_at hl 4 rfl) ?_
  refine lv_iload hC.1 hC.2.1 dX5_clash_9 (lv_at hl 5 rfl) ?_
  refine ec_goXEq (ec_xS hC (c_X5_stateOf l hls G c0 s0 o s.heap.size) kX5_61 (hOk.at hS hAN) rfl hl.1 ⟨Nat.le_of_ble_eq_true rfl, Nat.le_of_ble_eq_true rfl⟩ rfl (Nat.le_of_ble_eq_true rfl) dX5_clash_11 ⟨Nat.le_of_ble_eq_true rfl, Nat.le_of_ble_eq_true rfl⟩) hS (fun z h => hXs.2 z h) (fun E9 ce9 q9 H9 locs9 hx hk9 hS9 h1 h2 h3 => ec_out hnx hlocks (ecx (by unfold thCla; rw [if_pos (ixB_of (by have := hn0; omega) hj), hx.2, Bool.false_and]; rfl) hx.1 (.tail _ (.head _))) (hkp.tr hk9) hS9 h1 h2 h3 (Nat.le_of_ble_eq_true rfl) (Nat.le_of_ble_eq_true rfl)) (fun q H locs hp hz hk1 hS => ?_)
  obtain ⟨hqz, hst, hq⟩ := hp
  have h80 := (cdN_3 o hst).1
  have hkp1 := ecKp.of hz rfl hk1
  have hkp := hkp.tr hkp1
  have hw := hw.re (tg2 := tgO tg s.heap.size) hkp1 (fun z hz => tgO_o hz)
  have hqT : ecT G X (tgO tg s.heap.size) H q 0 (eO 4 (stL (cdN c0 s0 o))) := ⟨hq, tgO_n hqz, hXs.2 q hqz⟩
  refine lv_astore (lv' := [(8, .ref q), (7, .ref (ad 3 j)), (0, .ref (ad 0 0)), (1, .int (nI j)), (2, .int c0), (3, .int s0), (4, .int (bI o)), (5, .int f2), (6, .int l2)]) hC.1 hC.2.1 dX5_clash_14 hl (by decide) rfl (fun ls hl => ?_)
  refine lv_iload hC.1 hC.2.1 dX5_clash_16 (lv_at hl 8 rfl) ?_
  refine lv_iload hC.1 hC.2.1 dX5_clash_18 (lv_at hl 7 rfl) ?_
  refine lv_icmp_ge (tgt := 33) hC.1 hC.2.1 dX5_clash_20 (by decide) (fun c_20 => ?_) (fun c_20 => ?_)
  · refine lv_aload_n hC.1 hC.2.1 dX5_clash_33 rfl (lv_at hl 2 rfl) ?_
    refine lv_aload hC.1 hC.2.1 dX5_clash_34 (lv_at hl 1 rfl) ?_
    refine lv_aload hC.1 hC.2.1 dX5_clash_36 (lv_at hl 0 rfl) ?_
    refine lv_iload hC.1 hC.2.1 dX5_clash_38 (lv_at hl 7 rfl) ?_
    refine lv_iload hC.1 hC.2.1 dX5_clash_40 (lv_at hl 8 rfl) ?_
    refine ec_go1 (ec_rV hC (c_X5_firstClash l G X M (tgO tg s.heap.size) ad j (cdN c0 s0 o) q f2 l2 hj h80) kX5_199 (hOk.at hS hAN) ⟨hw, hq⟩ (ec_rc hK hw.1.1 ⟨_, _, rfl⟩) hl.1 ⟨Nat.le_of_ble_eq_true rfl, Nat.le_of_ble_eq_true rfl⟩ rfl (Nat.le_of_ble_eq_true rfl) dX5_clash_42 ⟨Nat.le_of_ble_eq_true rfl, Nat.le_of_ble_eq_true rfl⟩) ?_
    obtain hcl | ⟨u, hcl⟩ := ec_opt (clM M j (cdN c0 s0 o) f2 l2)
    · refine ec_topv (y := .null) (by rw [hcl]; rfl) ?_
      refine lv_astoreN (lv' := [(9, .null), (8, .ref q), (7, .ref (ad 3 j)), (0, .ref (ad 0 0)), (1, .int (nI j)), (2, .int c0), (3, .int s0), (4, .int (bI o)), (5, .int f2), (6, .int l2)]) hC.1 hC.2.1 dX5_clash_45 hl (by decide) rfl (fun ls hl => ?_)
      refine lv_aloadN hC.1 hC.2.1 dX5_clash_47 (lv_at hl 0 rfl) ?_
      refine lv_ifnonnullN hC.1 hC.2.1 dX5_clash_49 ?_
      exact ec_throwN hC hls xX5_109 hOk hAN hS hkp (is := 214) (text := "it clashes with no booking") (by decide) hl.1 hnx hlocks dX5_clash_52 dX5_clash_55 dX5_clash_56 dX5_clash_58 dX5_clash_61 (ecx (by unfold thCla; rw [if_pos (ixB_of (by have := hn0; omega) hj), if_pos (Bool.and_eq_true_iff.mpr ⟨hst, decide_eq_true c_20⟩), hjc, hcl]; rfl) rfl (.tail _ (.tail _ (.head _)))) ⟨Nat.le_of_ble_eq_true rfl, Nat.le_of_ble_eq_true rfl, Nat.le_of_ble_eq_true rfl, Nat.le_of_ble_eq_true rfl⟩ (Nat.le_of_ble_eq_true rfl) (Nat.le_of_ble_eq_true rfl)
    · refine ec_topv (y := .ref (ad 11 u)) (by rw [hcl]; rfl) ?_
      have hu : u < mnB M := by have := fstN_lt hcl; omega
      refine lv_astore (lv' := [(9, .ref (ad 11 u)), (8, .ref q), (7, .ref (ad 3 j)), (0, .ref (ad 0 0)), (1, .int (nI j)), (2, .int c0), (3, .int s0), (4, .int (bI o)), (5, .int f2), (6, .int l2)]) hC.1 hC.2.1 dX5_clash_45 hl (by decide) rfl (fun ls hl => ?_)
      refine lv_aload hC.1 hC.2.1 dX5_clash_47 (lv_at hl 0 rfl) ?_
      refine lv_ifnonnull (tgt := 62) hC.1 hC.2.1 dX5_clash_49 (by decide) ?_
      refine lv_aload hC.1 hC.2.1 dX5_clash_62 (lv_at hl 0 rfl) ?_
      refine ec_get hC hK (hw.bk hu).1 fX5_216 rfl dX5_clash_64 ?_
      refine vx_ret ?_
      refine W.widen (k := 8) (n := 150) (Nat.le_of_ble_eq_true rfl) (Nat.le_of_ble_eq_true rfl) ?_
      exact W.iret hC.1 hC.2.1 hr (fun t9 ht9 _ => ⟨_, rfl, by rw [ht9]; exact ⟨(by rw [hjc, hcl]; rfl), (by unfold thCla; rw [if_pos (ixB_of (by have := hn0; omega) hj), if_pos (Bool.and_eq_true_iff.mpr ⟨hst, decide_eq_true c_20⟩), hjc, hcl]; rfl), _, ad, rfl, hw⟩, hS.F ht9⟩) hS.2.2 dX5_clash_67
  · exact ec_throw hC hls xX5_90 hOk hAN hS hkp (is := 212) (text := "the last hour is less than the first one") (by decide) hl.1 hnx hlocks dX5_clash_23 dX5_clash_26 dX5_clash_27 dX5_clash_29 dX5_clash_32 (ecx (by unfold thCla; rw [if_pos (ixB_of (by have := hn0; omega) hj), decide_eq_false c_20, Bool.and_false]; rfl) rfl (.tail _ (.head _))) ⟨Nat.le_of_ble_eq_true rfl, Nat.le_of_ble_eq_true rfl, Nat.le_of_ble_eq_true rfl, Nat.le_of_ble_eq_true rfl⟩ (Nat.le_of_ble_eq_true rfl) (Nat.le_of_ble_eq_true rfl)

set_option maxHeartbeats 4000000 in
set_option maxRecDepth 100000 in
/-- cancel -/
theorem c_X5_cancel (l : Launch) (hls : l.stackTraces = false) (G : ecG) (X : Nat → Prop) (M : ecM) (x : Nat) (b : Int32) : vx_Met l yX5_cancel (ecWs yX5_cancel cX5_cancel 3 (Option.some FieldType.int)) (ecRm 9 8 150) (ecPc [.ref x, .int b] G (fun H => ecXs G X H ∧ EC G X M x H)) (ecEp (fun v H1 => v = some (.int (nI (cntN (setN M 6 (cN b) 1) (mnB M)))) ∧ thCan M b = 0 ∧ EC G X (setN M 6 (cN b) 1) x H1) (X)) (ecXc (fun E => (E, thCan M b) ∈ [(eIX, 1), (eIS, 2)])) 8 150 (X) := by
  refine ec_xmet (by decide) (Nat.le_of_ble_eq_true rfl) ?_
  intro p e s m below meth c hC hr hlocks hnx hOk hpre ls hl
  have hK := hOk.1
  obtain ⟨hXs, hEC⟩ := hpre
  have hS : va_S (X) s.heap s.heap [] := va_S.rf
  have hkp : ecKp s.heap s.heap := ecKp.rf
  have hAN : ∀ q, (X) q → ecN0 G ≤ q := hXs.1
  have hl : lv_has ls 3 [(0, .ref x), (1, .int b)] := hl
  obtain ⟨tg, ad, rfl, hw⟩ := hEC
  have hn0 := hw.wf.n
  refine lv_iload_n hC.1 hC.2.1 dX5_cancel_0 rfl (lv_at hl 1 rfl) ?_
  refine lv_if_lt (tgt := 15) hC.1 hC.2.1 dX5_cancel_1 (by decide) (fun c_1 => ?_) (fun c_1 => ?_)
  · exact ec_throw hC hls xX5_217 hOk hAN hS hkp (is := 219) (text := "there is no such booking") (by decide) hl.1 hnx hlocks dX5_cancel_15 dX5_cancel_18 dX5_cancel_19 dX5_cancel_21 dX5_cancel_24 (ecx (by unfold thCan; rw [ixB_lo c_1]; rfl) rfl (.head _)) ⟨Nat.le_of_ble_eq_true rfl, Nat.le_of_ble_eq_true rfl, Nat.le_of_ble_eq_true rfl, Nat.le_of_ble_eq_true rfl⟩ (Nat.le_of_ble_eq_true rfl) (Nat.le_of_ble_eq_true rfl)
  · refine lv_iload_n hC.1 hC.2.1 dX5_cancel_4 rfl (lv_at hl 1 rfl) ?_
    refine lv_aload_n hC.1 hC.2.1 dX5_cancel_5 rfl (lv_at hl 0 rfl) ?_
    refine ec_get hC hK hw.1.1 fX5_22 rfl dX5_cancel_6 ?_
    obtain ⟨v0_z1, v1_z1, hL_z1⟩ := (hw.2.1 3 (by decide)).obj
    refine ec_go1 (ec_rV hC (c_Jx4a65c_size_8abf5 l G (ad 1 3) v0_z1 v1_z1 (nI (M.1 7 3))) kX5_32 (hOk.at hS hAN) hL_z1.1 (ec_rc hK hL_z1.1 ⟨_, _, rfl⟩) hl.1 ⟨Nat.le_of_ble_eq_true rfl, Nat.le_of_ble_eq_true rfl⟩ rfl (Nat.le_of_ble_eq_true rfl) dX5_cancel_9 ⟨Nat.le_of_ble_eq_true rfl, Nat.le_of_ble_eq_true rfl⟩) ?_
    refine lv_icmp_lt (tgt := 25) hC.1 hC.2.1 dX5_cancel_12 (by decide) (fun c_12 => ?_) (fun c_12 => ?_)
    · obtain ⟨j, hj, rfl⟩ := ixB_j (n := mnB M) (by omega) c_1 c_12
      have hjc : cN (nI j) = j := nI_clamp (by omega)
      have hbk : ecA G (ad 11 j) (eO 1 [.int (nI j), .ref (ad 3 (M.1 4 j)), .ref (ad 12 j), .int (M.2.1 7 j), .int (M.2.1 8 j), .int (nI (M.1 6 j))]) s.heap := (hw.bk hj).1
      refine lv_aload_n hC.1 hC.2.1 dX5_cancel_25 rfl (lv_at hl 0 rfl) ?_
      refine ec_get hC hK hw.1.1 fX5_22 rfl dX5_cancel_26 ?_
      refine lv_iload_n hC.1 hC.2.1 dX5_cancel_29 rfl (lv_at hl 1 rfl) ?_
      obtain ⟨v0_g2, cap_g2, g_g2, hc_g2, hn_g2, hL_g2, hD_g2, hg_g2⟩ := (hw.2.1 3 (by decide)).el (i := j) hj
      refine ec_go1 (ec_rV hC (c_Jx4a65c_get_915e3 l G (ad 1 3) (ad 2 3) j (M.1 7 3) cap_g2 v0_g2 g_g2 hj hn_g2 (by omega)) kX5_131 (hOk.at hS hAN) ⟨hL_g2, hD_g2⟩ (ec_rc hK hL_g2 ⟨_, _, rfl⟩) hl.1 ⟨Nat.le_of_ble_eq_true rfl, Nat.le_of_ble_eq_true rfl⟩ rfl (Nat.le_of_ble_eq_true rfl) dX5_cancel_30 ⟨Nat.le_of_ble_eq_true rfl, Nat.le_of_ble_eq_true rfl⟩) ?_
      refine ec_topv (y := .ref (ad 11 j)) (by rw [hg_g2]; rfl) ?_
      refine ec_cast hC hK hbk ⟨_, _, rfl⟩ nX5_207.1 dX5_cancel_33 ?_
      refine lv_astore_n (lv' := [(2, .ref (ad 11 j)), (0, .ref (ad 0 0)), (1, .int (nI j))]) hC.1 hC.2.1 dX5_cancel_36 rfl hl (by decide) rfl (fun ls hl => ?_)
      refine lv_aload_n hC.1 hC.2.1 dX5_cancel_37 rfl (lv_at hl 0 rfl) ?_
      refine ec_get hC hK hbk fX5_222 rfl dX5_cancel_38 ?_
      refine lv_if_ne (tgt := 55) hC.1 hC.2.1 dX5_cancel_41 (by decide) (fun c_41 => ?_) (fun c_41 => ?_)
      · exact ec_throw hC hls xX5_36 hOk hAN hS hkp (is := 228) (text := "it is cancelled or has begun") (by decide) hl.1 hnx hlocks dX5_cancel_55 dX5_cancel_58 dX5_cancel_59 dX5_cancel_61 dX5_cancel_64 (ecx (by unfold thCan; rw [if_pos (ixB_of (by have := hn0; omega) hj), hjc, if_neg (fun z => c_41 (by rw [z.1]; rfl))]) rfl (.tail _ (.head _))) ⟨Nat.le_of_ble_eq_true rfl, Nat.le_of_ble_eq_true rfl, Nat.le_of_ble_eq_true rfl, Nat.le_of_ble_eq_true rfl⟩ (Nat.le_of_ble_eq_true rfl) (Nat.le_of_ble_eq_true rfl)
      · refine lv_aload_n hC.1 hC.2.1 dX5_cancel_44 rfl (lv_at hl 0 rfl) ?_
        refine ec_get hC hK hbk fX5_225 rfl dX5_cancel_45 ?_
        refine lv_aload_n hC.1 hC.2.1 dX5_cancel_48 rfl (lv_at hl 1 rfl) ?_
        refine ec_get hC hK hw.1.1 fX5_25 rfl dX5_cancel_49 ?_
        refine lv_icmp_gt (tgt := 65) hC.1 hC.2.1 dX5_cancel_52 (by decide) (fun c_52 => ?_) (fun c_52 => ?_)
        · refine lv_aload_n hC.1 hC.2.1 dX5_cancel_65 rfl (lv_at hl 0 rfl) ?_
          refine lv_iconst (v := 1) hC.1 hC.2.1 dX5_cancel_66 (by decide) ?_
          refine ec_put hC hK hS hbk (hw.2.2.2.2.2.1 j hj).1.2.2 fX5_222 rfl rfl rfl (Nat.le_of_ble_eq_true rfl) dX5_cancel_67 (fun H locs h9 o9 z9 hS => ?_)
          have hbk : ecA G (ad 11 j) (eO 1 [.int (nI j), .ref (ad 3 (M.1 4 j)), .ref (ad 12 j), .int (M.2.1 7 j), .int (M.2.1 8 j), .int 1]) H := h9
          refine lv_aload_n hC.1 hC.2.1 dX5_cancel_70 rfl (lv_at hl 1 rfl) ?_
          have hcd : M.1 6 j = 0 ∧ mhr M < M.2.1 7 j := ⟨(nI_eq (b := 0) (by have := hw.wf.gn j; omega) (by decide)).mp c_41, c_52⟩
          have hw := hw.cancel hj hbk (fun q _ hn => o9 q hn)
          refine ec_go1 (ec_rV hC (c_X5_standingBookings l G X (setN M 6 j 1) tg ad) kX5_230 (hOk.at hS hAN) hw (ec_rc hK hw.1.1 ⟨_, _, rfl⟩) hl.1 ⟨Nat.le_of_ble_eq_true rfl, Nat.le_of_ble_eq_true rfl⟩ rfl (Nat.le_of_ble_eq_true rfl) dX5_cancel_71 ⟨Nat.le_of_ble_eq_true rfl, Nat.le_of_ble_eq_true rfl⟩) ?_
          refine vx_ret ?_
          refine W.widen (k := 8) (n := 150) (Nat.le_of_ble_eq_true rfl) (Nat.le_of_ble_eq_true rfl) ?_
          exact W.iret hC.1 hC.2.1 hr (fun t9 ht9 _ => ⟨_, rfl, by rw [ht9]; exact ⟨(by rw [hjc]; rfl), (by unfold thCan; rw [if_pos (ixB_of (by have := hn0; omega) hj), hjc, if_pos hcd]), tg, ad, rfl, (by rw [hjc]; exact hw)⟩, hS.F ht9⟩) hS.2.2 dX5_cancel_74
        · exact ec_throw hC hls xX5_36 hOk hAN hS hkp (is := 228) (text := "it is cancelled or has begun") (by decide) hl.1 hnx hlocks dX5_cancel_55 dX5_cancel_58 dX5_cancel_59 dX5_cancel_61 dX5_cancel_64 (ecx (by unfold thCan; rw [if_pos (ixB_of (by have := hn0; omega) hj), hjc, if_neg (fun z => c_52 z.2)]) rfl (.tail _ (.head _))) ⟨Nat.le_of_ble_eq_true rfl, Nat.le_of_ble_eq_true rfl, Nat.le_of_ble_eq_true rfl, Nat.le_of_ble_eq_true rfl⟩ (Nat.le_of_ble_eq_true rfl) (Nat.le_of_ble_eq_true rfl)
    · exact ec_throw hC hls xX5_217 hOk hAN hS hkp (is := 219) (text := "there is no such booking") (by decide) hl.1 hnx hlocks dX5_cancel_15 dX5_cancel_18 dX5_cancel_19 dX5_cancel_21 dX5_cancel_24 (ecx (by unfold thCan; rw [ixB_hi2 c_12]; rfl) rfl (.head _)) ⟨Nat.le_of_ble_eq_true rfl, Nat.le_of_ble_eq_true rfl, Nat.le_of_ble_eq_true rfl, Nat.le_of_ble_eq_true rfl⟩ (Nat.le_of_ble_eq_true rfl) (Nat.le_of_ble_eq_true rfl)

set_option maxHeartbeats 4000000 in
set_option maxRecDepth 100000 in
/-- use -/
theorem c_X5_use (l : Launch) (hls : l.stackTraces = false) (G : ecG) (X : Nat → Prop) (M : ecM) (x : Nat) (f y : Int32) : vx_Met l yX5_use (ecWs yX5_use cX5_use 4 (Option.some FieldType.long)) (ecRm 9 8 150) (ecPc [.ref x, .int f, .int y] G (fun H => ecXs G X H ∧ EC G X M x H)) (ecEp (fun v H1 => v = some (.long (gvS (tpA M (cN f)) (psU (psA M (cN f)) y) 6)) ∧ thUse M f y = 0 ∧ EC G X (useM M (cN f) y) x H1) (X)) (ecXc (fun E => (E, thUse M f y) ∈ [(eIX, 1), (eAG, 2), (eUO, 3)])) 8 150 (X) := by
  refine ec_xmet (by decide) (Nat.le_of_ble_eq_true rfl) ?_
  intro p e s m below meth c hC hr hlocks hnx hOk hpre ls hl
  have hK := hOk.1
  obtain ⟨hXs, hEC⟩ := hpre
  have hS : va_S (X) s.heap s.heap [] := va_S.rf
  have hkp : ecKp s.heap s.heap := ecKp.rf
  have hAN : ∀ q, (X) q → ecN0 G ≤ q := hXs.1
  have hl : lv_has ls 4 [(0, .ref x), (1, .int f), (2, .int y)] := hl
  obtain ⟨tg, ad, rfl, hw⟩ := hEC
  have hn0 := hw.wf.n
  refine lv_aload_n hC.1 hC.2.1 dX5_use_0 rfl (lv_at hl 0 rfl) ?_
  refine lv_iload_n hC.1 hC.2.1 dX5_use_1 rfl (lv_at hl 1 rfl) ?_
  refine ec_goXj (ec_xV hC (c_X5_filterAt l hls G X M tg ad f) kX5_150 (hOk.at hS hAN) hw (ec_rc hK hw.1.1 ⟨_, _, rfl⟩) hl.1 ⟨Nat.le_of_ble_eq_true rfl, Nat.le_of_ble_eq_true rfl⟩ rfl (Nat.le_of_ble_eq_true rfl) dX5_use_2 ⟨Nat.le_of_ble_eq_true rfl, Nat.le_of_ble_eq_true rfl⟩) hS (fun E9 ce9 q9 H9 hx hk9 hS9 h1 h2 h3 => ec_out hnx hlocks (ecx (by unfold thUse; rw [hx.2]; rfl) hx.1 (.head _)) (hkp.tr hk9) hS9 h1 h2 h3 (Nat.le_of_ble_eq_true rfl) (Nat.le_of_ble_eq_true rfl)) (fun j hj => ?_)
  obtain ⟨hj, rfl⟩ := hj
  have hjc : cN (nI j) = j := nI_clamp (by have := hw.wf.n; omega)
  refine lv_astore_n (lv' := [(3, .ref (ad 8 j)), (0, .ref (ad 0 0)), (1, .int (nI j)), (2, .int y)]) hC.1 hC.2.1 dX5_use_5 rfl hl (by decide) rfl (fun ls hl => ?_)
  refine lv_iload_n hC.1 hC.2.1 dX5_use_6 rfl (lv_at hl 3 rfl) ?_
  refine lv_sipush (v := -999) hC.1 hC.2.1 dX5_use_7 (by decide) ?_
  refine lv_icmp_lt (tgt := 20) hC.1 hC.2.1 dX5_use_10 (by decide) (fun c_10 => ?_) (fun c_10 => ?_)
  · exact ec_throw hC hls xX5_90 hOk hAN hS hkp (is := 168) (text := "an input is from -999 to 999") (by decide) hl.1 hnx hlocks dX5_use_20 dX5_use_23 dX5_use_24 dX5_use_26 dX5_use_29 (ecx (by unfold thUse; rw [if_pos (ixB_of (by have := hn0; omega) hj), rgB_lo c_10]; rfl) rfl (.tail _ (.head _))) ⟨Nat.le_of_ble_eq_true rfl, Nat.le_of_ble_eq_true rfl, Nat.le_of_ble_eq_true rfl, Nat.le_of_ble_eq_true rfl⟩ (Nat.le_of_ble_eq_true rfl) (Nat.le_of_ble_eq_true rfl)
  · refine lv_iload_n hC.1 hC.2.1 dX5_use_13 rfl (lv_at hl 3 rfl) ?_
    refine lv_sipush (v := 999) hC.1 hC.2.1 dX5_use_14 (by decide) ?_
    refine lv_icmp_le (tgt := 30) hC.1 hC.2.1 dX5_use_17 (by decide) (fun c_17 => ?_) (fun c_17 => ?_)
    · refine lv_aload_n hC.1 hC.2.1 dX5_use_30 rfl (lv_at hl 1 rfl) ?_
      refine lv_aload_n hC.1 hC.2.1 dX5_use_31 rfl (lv_at hl 0 rfl) ?_
      refine ec_go1 (ec_rV hC (c_X5_firstBar l G X M tg ad j hj) kX5_164 (hOk.at hS hAN) hw (ec_rc hK hw.1.1 ⟨_, _, rfl⟩) hl.1 ⟨Nat.le_of_ble_eq_true rfl, Nat.le_of_ble_eq_true rfl⟩ rfl (Nat.le_of_ble_eq_true rfl) dX5_use_32 ⟨Nat.le_of_ble_eq_true rfl, Nat.le_of_ble_eq_true rfl⟩) ?_
      refine lv_bipush (v := 45) hC.1 hC.2.1 dX5_use_35 (by decide) ?_
      refine lv_icmp_eq (tgt := 50) hC.1 hC.2.1 dX5_use_37 (by decide) (fun c_37 => ?_) (fun c_37 => ?_)
      · refine lv_aload_n hC.1 hC.2.1 dX5_use_50 rfl (lv_at hl 0 rfl) ?_
        refine lv_iload_n hC.1 hC.2.1 dX5_use_51 rfl (lv_at hl 3 rfl) ?_
        have hne : ad 10 j ≠ ad 8 j := (hw.2.2.2.2.1 j hj).2.2.ne (hw.2.2.2.2.1 j hj).1 (by omega)
        have ht := (hw.fi hj).2.1
        have hA8 := (hw.2.2.2.2.1 j hj).1.2.2
        have hA10 := (hw.2.2.2.2.1 j hj).2.2.2.2
        have ht9 : ¬ (ad 9 j = ad 8 j ∨ ad 9 j = ad 10 j) := fun z => z.elim (fun z => (hw.2.2.2.2.1 j hj).2.1.ne (hw.2.2.2.2.1 j hj).1 (by omega) z) (fun z => (hw.2.2.2.2.1 j hj).2.1.ne (hw.2.2.2.2.1 j hj).2.2 (by omega) z)
        refine ec_goE0 (ec_rV hC (c_X2_getInput l G (ad 8 j) (ad 10 j) _ _ (psA M j) y (M.2.1 6 j) hne) kX5_175 (hOk.at hS hAN) ⟨(hw.fi hj).1, (hw.fi hj).2.2⟩ (ec_rc hK (hw.fi hj).1 ⟨_, _, rfl⟩) hl.1 ⟨Nat.le_of_ble_eq_true rfl, Nat.le_of_ble_eq_true rfl⟩ rfl (Nat.le_of_ble_eq_true rfl) dX5_use_52 ⟨Nat.le_of_ble_eq_true rfl, Nat.le_of_ble_eq_true rfl⟩) hS (fun z h => h.elim (fun h => by rw [h]; exact hA8) (fun h => by rw [h]; exact hA10)) (fun H locs hp hz hk1 hS => ?_)
        have ht := ht.kept (hk1 _ ht.lt ht9)
        have hw := hw.used hj hp.1 hp.2 (fun q hq n1 n2 => hk1 q hq (fun z => z.elim n1 n2))
        refine lv_aload_n hC.1 hC.2.1 dX5_use_55 rfl (lv_at hl 0 rfl) ?_
        refine ec_go1 (ec_rV hC (c_X2_given l G (ad 8 j) (ad 9 j) (ad 10 j) _ _ (tpA M j) (psU (psA M j) y)) kX5_178 (hOk.at hS hAN) ⟨hp.1, ht, hp.2⟩ (ec_rc hK hp.1 ⟨_, _, rfl⟩) hl.1 ⟨Nat.le_of_ble_eq_true rfl, Nat.le_of_ble_eq_true rfl⟩ rfl (Nat.le_of_ble_eq_true rfl) dX5_use_56 ⟨Nat.le_of_ble_eq_true rfl, Nat.le_of_ble_eq_true rfl⟩) ?_
        refine vx_ret ?_
        refine W.widen (k := 8) (n := 150) (Nat.le_of_ble_eq_true rfl) (Nat.le_of_ble_eq_true rfl) ?_
        exact W.lret hC.1 hC.2.1 hr (fun t9 ht9 _ => ⟨_, rfl, by rw [ht9]; exact ⟨(by rw [hjc]), (by unfold thUse; rw [if_pos (ixB_of (by have := hn0; omega) hj), if_pos (rgB_ok2 c_10 c_17), hjc, if_pos c_37]), tg, ad, rfl, (by rw [hjc]; exact hw)⟩, hS.F ht9⟩) hS.2.2 dX5_use_59
      · exact ec_throw hC hls xX5_170 hOk hAN hS hkp (is := 172) (text := "the use is barred") (by decide) hl.1 hnx hlocks dX5_use_40 dX5_use_43 dX5_use_44 dX5_use_46 dX5_use_49 (ecx (by unfold thUse; rw [if_pos (ixB_of (by have := hn0; omega) hj), if_pos (rgB_ok2 c_10 c_17), hjc, if_neg c_37]) rfl (.tail _ (.tail _ (.head _)))) ⟨Nat.le_of_ble_eq_true rfl, Nat.le_of_ble_eq_true rfl, Nat.le_of_ble_eq_true rfl, Nat.le_of_ble_eq_true rfl⟩ (Nat.le_of_ble_eq_true rfl) (Nat.le_of_ble_eq_true rfl)
    · exact ec_throw hC hls xX5_90 hOk hAN hS hkp (is := 168) (text := "an input is from -999 to 999") (by decide) hl.1 hnx hlocks dX5_use_20 dX5_use_23 dX5_use_24 dX5_use_26 dX5_use_29 (ecx (by unfold thUse; rw [if_pos (ixB_of (by have := hn0; omega) hj), rgB_hi2 c_17]; rfl) rfl (.tail _ (.head _))) ⟨Nat.le_of_ble_eq_true rfl, Nat.le_of_ble_eq_true rfl, Nat.le_of_ble_eq_true rfl, Nat.le_of_ble_eq_true rfl⟩ (Nat.le_of_ble_eq_true rfl) (Nat.le_of_ble_eq_true rfl)

theorem nxtN_s {M : ecM} {r n : Nat} : nxtN M r (n + 1) = match nxtN M r n with
    | none => if nxB M r n = true then some n else none
    | some f => if nxB M r n = true ∧ M.2.1 7 n < M.2.1 7 f then some n else some f := rfl

set_option maxHeartbeats 4000000 in
set_option maxRecDepth 100000 in
/-- nextBooking -/
theorem c_X5_nextBooking (l : Launch) (hls : l.stackTraces = false) (G : ecG) (X : Nat → Prop) (M : ecM) (x : Nat) (r : Int32) : vx_Met l yX5_nextBooking (ecWs yX5_nextBooking cX5_nextBooking 6 (Option.some FieldType.int)) (ecRm 9 8 150) (ecPc [.ref x, .int r] G (fun H => ecXs G X H ∧ EC G X M x H)) (ecEp (fun v H1 => v = some (.int (nI ((nxtN M (cN r) (mnB M)).getD 0))) ∧ thNxt M r = 0 ∧ EC G X (M) x H1) (X)) (ecXc (fun E => (E, thNxt M r) ∈ [(eIX, 1), (eNS, 2)])) 8 150 (X) := by
  refine ec_xmet (by decide) (Nat.le_of_ble_eq_true rfl) ?_
  intro p e s m below meth c hC hr hlocks hnx hOk hpre ls hl
  have hK := hOk.1
  obtain ⟨hXs, hEC⟩ := hpre
  have hS : va_S (X) s.heap s.heap [] := va_S.rf
  have hkp : ecKp s.heap s.heap := ecKp.rf
  have hAN : ∀ q, (X) q → ecN0 G ≤ q := hXs.1
  have hl : lv_has ls 6 [(0, .ref x), (1, .int r)] := hl
  obtain ⟨tg, ad, rfl, hw⟩ := hEC
  have hn0 := hw.wf.n
  refine lv_aload_n hC.1 hC.2.1 dX5_nextBooking_0 rfl (lv_at hl 0 rfl) ?_
  refine lv_iload_n hC.1 hC.2.1 dX5_nextBooking_1 rfl (lv_at hl 1 rfl) ?_
  refine ec_goXj (ec_xV hC (c_X5_roomAt l hls G X M tg ad r) kX5_57 (hOk.at hS hAN) hw (ec_rc hK hw.1.1 ⟨_, _, rfl⟩) hl.1 ⟨Nat.le_of_ble_eq_true rfl, Nat.le_of_ble_eq_true rfl⟩ rfl (Nat.le_of_ble_eq_true rfl) dX5_nextBooking_2 ⟨Nat.le_of_ble_eq_true rfl, Nat.le_of_ble_eq_true rfl⟩) hS (fun E9 ce9 q9 H9 hx hk9 hS9 h1 h2 h3 => ec_out hnx hlocks (ecx (by unfold thNxt; rw [hx.2]; rfl) hx.1 (.head _)) (hkp.tr hk9) hS9 h1 h2 h3 (Nat.le_of_ble_eq_true rfl) (Nat.le_of_ble_eq_true rfl)) (fun j hj => ?_)
  obtain ⟨hj, rfl⟩ := hj
  have hjc : cN (nI j) = j := nI_clamp (by have := hw.wf.n; omega)
  refine lv_astore_n (lv' := [(2, .ref (ad 3 j)), (0, .ref (ad 0 0)), (1, .int (nI j))]) hC.1 hC.2.1 dX5_nextBooking_5 rfl hl (by decide) rfl (fun ls hl => ?_)
  refine lv_null hC.1 hC.2.1 dX5_nextBooking_6 ?_
  refine lv_astore_nN (lv' := [(3, .null), (2, .ref (ad 3 j)), (0, .ref (ad 0 0)), (1, .int (nI j))]) hC.1 hC.2.1 dX5_nextBooking_7 rfl hl (by decide) rfl (fun ls hl => ?_)
  refine lv_iconst (v := 0) hC.1 hC.2.1 dX5_nextBooking_8 (by decide) ?_
  refine lv_istore (lv' := [(4, .int 0), (3, .null), (2, .ref (ad 3 j)), (0, .ref (ad 0 0)), (1, .int (nI j))]) hC.1 hC.2.1 dX5_nextBooking_9 hl (by decide) rfl (fun ls hl => ?_)
  refine ec_loopR (n := mnB M) (fun i ls => lv_has ls 6 [(3, va_rf ((nxtN M j i).map (ad 11))), (4, .int (nI i)), (0, .ref (ad 0 0)), (2, .ref (ad 3 j))] ∧ True) ⟨⟨hl.1, hl.2.1, (ec_lvc (lv_at hl 1 rfl) (ec_lvc (lv_at hl 0 rfl) (ec_lvc (lv_at hl 3 rfl) (ec_lvc (lv_at hl 2 rfl) ec_lvn))))⟩, trivial⟩ (fun ls h9 => ?_) (fun i ls hi h9 hk => ?_)
  · obtain ⟨hl, hI⟩ := h9
    obtain hxt | ⟨u, hxt⟩ := ec_opt (nxtN M j (mnB M))
    · skip
      rw [hxt] at hl
      have hl : lv_has ls 6 [(3, .null), (4, .int (nI (mnB M))), (0, .ref (ad 0 0)), (2, .ref (ad 3 j))] := hl
      refine lv_iload hC.1 hC.2.1 dX5_nextBooking_11 (lv_at hl 1 rfl) ?_
      refine lv_aload_n hC.1 hC.2.1 dX5_nextBooking_13 rfl (lv_at hl 2 rfl) ?_
      refine ec_get hC hK hw.1.1 fX5_22 rfl dX5_nextBooking_14 ?_
      obtain ⟨v0_z1, v1_z1, hL_z1⟩ := (hw.2.1 3 (by decide)).obj
      refine ec_go1 (ec_rV hC (c_Jx4a65c_size_8abf5 l G (ad 1 3) v0_z1 v1_z1 (nI (M.1 7 3))) kX5_32 (hOk.at hS hAN) hL_z1.1 (ec_rc hK hL_z1.1 ⟨_, _, rfl⟩) hl.1 ⟨Nat.le_of_ble_eq_true rfl, Nat.le_of_ble_eq_true rfl⟩ rfl (Nat.le_of_ble_eq_true rfl) dX5_nextBooking_17 ⟨Nat.le_of_ble_eq_true rfl, Nat.le_of_ble_eq_true rfl⟩) ?_
      refine lv_icmp_ge (tgt := 83) hC.1 hC.2.1 dX5_nextBooking_20 (by decide) (fun c_20 => ?_) (fun c => absurd (Int32.le_refl _) c)
      refine lv_aload_nN hC.1 hC.2.1 dX5_nextBooking_83 rfl (lv_at hl 0 rfl) ?_
      refine lv_ifnonnullN hC.1 hC.2.1 dX5_nextBooking_84 ?_
      exact ec_throwN hC hls xX5_109 hOk hAN hS hkp (is := 242) (text := "no booking of the room is to come") (by decide) hl.1 hnx hlocks dX5_nextBooking_87 dX5_nextBooking_90 dX5_nextBooking_91 dX5_nextBooking_93 dX5_nextBooking_96 (ecx (by unfold thNxt; rw [if_pos (ixB_of (by have := hn0; omega) hj), hjc, hxt]; rfl) rfl (.tail _ (.head _))) ⟨Nat.le_of_ble_eq_true rfl, Nat.le_of_ble_eq_true rfl, Nat.le_of_ble_eq_true rfl, Nat.le_of_ble_eq_true rfl⟩ (Nat.le_of_ble_eq_true rfl) (Nat.le_of_ble_eq_true rfl)
    · skip
      rw [hxt] at hl
      have hl : lv_has ls 6 [(3, .ref (ad 11 u)), (4, .int (nI (mnB M))), (0, .ref (ad 0 0)), (2, .ref (ad 3 j))] := hl
      have hu : u < mnB M := by have := nxtN_lt hxt; omega
      refine lv_iload hC.1 hC.2.1 dX5_nextBooking_11 (lv_at hl 1 rfl) ?_
      refine lv_aload_n hC.1 hC.2.1 dX5_nextBooking_13 rfl (lv_at hl 2 rfl) ?_
      refine ec_get hC hK hw.1.1 fX5_22 rfl dX5_nextBooking_14 ?_
      obtain ⟨v0_z2, v1_z2, hL_z2⟩ := (hw.2.1 3 (by decide)).obj
      refine ec_go1 (ec_rV hC (c_Jx4a65c_size_8abf5 l G (ad 1 3) v0_z2 v1_z2 (nI (M.1 7 3))) kX5_32 (hOk.at hS hAN) hL_z2.1 (ec_rc hK hL_z2.1 ⟨_, _, rfl⟩) hl.1 ⟨Nat.le_of_ble_eq_true rfl, Nat.le_of_ble_eq_true rfl⟩ rfl (Nat.le_of_ble_eq_true rfl) dX5_nextBooking_17 ⟨Nat.le_of_ble_eq_true rfl, Nat.le_of_ble_eq_true rfl⟩) ?_
      refine lv_icmp_ge (tgt := 83) hC.1 hC.2.1 dX5_nextBooking_20 (by decide) (fun c_20 => ?_) (fun c => absurd (Int32.le_refl _) c)
      refine lv_aload_n hC.1 hC.2.1 dX5_nextBooking_83 rfl (lv_at hl 0 rfl) ?_
      refine lv_ifnonnull (tgt := 97) hC.1 hC.2.1 dX5_nextBooking_84 (by decide) ?_
      refine lv_aload_n hC.1 hC.2.1 dX5_nextBooking_97 rfl (lv_at hl 0 rfl) ?_
      refine ec_get hC hK (hw.bk hu).1 fX5_216 rfl dX5_nextBooking_98 ?_
      refine vx_ret ?_
      refine W.widen (k := 8) (n := 150) (Nat.le_of_ble_eq_true rfl) (Nat.le_of_ble_eq_true rfl) ?_
      exact W.iret hC.1 hC.2.1 hr (fun t9 ht9 _ => ⟨_, rfl, by rw [ht9]; exact ⟨(by rw [hjc, hxt]; rfl), (by unfold thNxt; rw [if_pos (ixB_of (by have := hn0; omega) hj), hjc, hxt]; rfl), tg, ad, rfl, hw⟩, hS.F ht9⟩) hS.2.2 dX5_nextBooking_101
  · obtain ⟨hl, hI⟩ := h9
    obtain hxt | ⟨u, hxt⟩ := ec_opt (nxtN M j i)
    · skip
      rw [hxt] at hl
      have hl : lv_has ls 6 [(3, .null), (4, .int (nI i)), (0, .ref (ad 0 0)), (2, .ref (ad 3 j))] := hl
      refine lv_iload hC.1 hC.2.1 dX5_nextBooking_11 (lv_at hl 1 rfl) ?_
      refine lv_aload_n hC.1 hC.2.1 dX5_nextBooking_13 rfl (lv_at hl 2 rfl) ?_
      refine ec_get hC hK hw.1.1 fX5_22 rfl dX5_nextBooking_14 ?_
      obtain ⟨v0_z3, v1_z3, hL_z3⟩ := (hw.2.1 3 (by decide)).obj
      refine ec_go1 (ec_rV hC (c_Jx4a65c_size_8abf5 l G (ad 1 3) v0_z3 v1_z3 (nI (M.1 7 3))) kX5_32 (hOk.at hS hAN) hL_z3.1 (ec_rc hK hL_z3.1 ⟨_, _, rfl⟩) hl.1 ⟨Nat.le_of_ble_eq_true rfl, Nat.le_of_ble_eq_true rfl⟩ rfl (Nat.le_of_ble_eq_true rfl) dX5_nextBooking_17 ⟨Nat.le_of_ble_eq_true rfl, Nat.le_of_ble_eq_true rfl⟩) ?_
      refine lv_icmp_ge (tgt := 83) hC.1 hC.2.1 dX5_nextBooking_20 (by decide) (fun c => absurd c (fun z => Int32.lt_irrefl (Int32.lt_of_lt_of_le (nI_lt (b := mnB M) hi (by have := hw.wf.n; omega)) z))) (fun c_20 => ?_)
      refine lv_aload_n hC.1 hC.2.1 dX5_nextBooking_23 rfl (lv_at hl 2 rfl) ?_
      refine ec_get hC hK hw.1.1 fX5_22 rfl dX5_nextBooking_24 ?_
      refine lv_iload hC.1 hC.2.1 dX5_nextBooking_27 (lv_at hl 1 rfl) ?_
      obtain ⟨v0_g4, cap_g4, g_g4, hc_g4, hn_g4, hL_g4, hD_g4, hg_g4⟩ := (hw.2.1 3 (by decide)).el (i := i) hi
      refine ec_go1 (ec_rV hC (c_Jx4a65c_get_915e3 l G (ad 1 3) (ad 2 3) i (M.1 7 3) cap_g4 v0_g4 g_g4 hi hn_g4 (by omega)) kX5_131 (hOk.at hS hAN) ⟨hL_g4, hD_g4⟩ (ec_rc hK hL_g4 ⟨_, _, rfl⟩) hl.1 ⟨Nat.le_of_ble_eq_true rfl, Nat.le_of_ble_eq_true rfl⟩ rfl (Nat.le_of_ble_eq_true rfl) dX5_nextBooking_29 ⟨Nat.le_of_ble_eq_true rfl, Nat.le_of_ble_eq_true rfl⟩) ?_
      refine ec_topv (y := .ref (ad 11 i)) (by rw [hg_g4]; rfl) ?_
      refine ec_cast hC hK (hw.bk hi).1 ⟨_, _, rfl⟩ nX5_207.1 dX5_nextBooking_32 ?_
      refine lv_astore (lv' := [(5, .ref (ad 11 i)), (3, .null), (4, .int (nI i)), (0, .ref (ad 0 0)), (2, .ref (ad 3 j))]) hC.1 hC.2.1 dX5_nextBooking_35 hl (by decide) rfl (fun ls hl => ?_)
      refine lv_aload hC.1 hC.2.1 dX5_nextBooking_37 (lv_at hl 0 rfl) ?_
      refine lv_aload_n hC.1 hC.2.1 dX5_nextBooking_39 rfl (lv_at hl 4 rfl) ?_
      refine ec_go1 (ec_rV hC (c_X1_standsFor l G (ad 11 i) (ad 3 (M.1 4 i)) (ad 3 j) (M.1 6 i) _ _ _ _ (hw.wf.gn i)) kX5_238 (hOk.at hS hAN) (hw.bk hi).1 (ec_rc hK (hw.bk hi).1 ⟨_, _, rfl⟩) hl.1 ⟨Nat.le_of_ble_eq_true rfl, Nat.le_of_ble_eq_true rfl⟩ rfl (Nat.le_of_ble_eq_true rfl) dX5_nextBooking_40 ⟨Nat.le_of_ble_eq_true rfl, Nat.le_of_ble_eq_true rfl⟩) ?_
      refine lv_if_eq (tgt := 77) hC.1 hC.2.1 dX5_nextBooking_43 (by decide) (fun c_43 => ?_) (fun c_43 => ?_)
      · refine lv_iinc (v := (nI (i + 1))) (lv' := [(4, .int (nI (i + 1))), (5, .ref (ad 11 i)), (3, .null), (0, .ref (ad 0 0)), (2, .ref (ad 3 j))]) hC.1 hC.2.1 dX5_nextBooking_77 hl (k := 2) rfl (nI_1 _) (by decide) rfl (fun ls hl => ?_)
        refine lv_goto (tgt := 11) hC.1 hC.2.1 dX5_nextBooking_80 (by decide) ?_
        have hnb : nxB M j i = false := by
          unfold nxB
          rcases Bool.and_eq_false_iff.mp ((bI_0 _).mp c_43) with z | z
          · rw [z, Bool.false_and, Bool.false_and]
          · rw [decide_eq_false (fun y => of_decide_eq_false z ((hw.rne (hw.wf.bk hi).1 hj).mpr y)), Bool.and_false, Bool.false_and]
        have e9 : nxtN M j (i + 1) = none := by rw [nxtN_s, hxt]; exact if_neg (by rw [hnb]; decide)
        -- 
        exact hk ls (by rw [e9]; exact ⟨⟨hl.1, hl.2.1, (ec_lvc (lv_at hl 2 rfl) (ec_lvc (lv_at hl 0 rfl) (ec_lvc (lv_at hl 3 rfl) (ec_lvc (lv_at hl 4 rfl) ec_lvn))))⟩, trivial⟩)
      · refine lv_aload hC.1 hC.2.1 dX5_nextBooking_46 (lv_at hl 0 rfl) ?_
        refine ec_get hC hK (hw.bk hi).1 fX5_225 rfl dX5_nextBooking_48 ?_
        refine lv_aload_n hC.1 hC.2.1 dX5_nextBooking_51 rfl (lv_at hl 3 rfl) ?_
        refine ec_get hC hK hw.1.1 fX5_25 rfl dX5_nextBooking_52 ?_
        refine lv_icmp_le (tgt := 77) hC.1 hC.2.1 dX5_nextBooking_55 (by decide) (fun c_55 => ?_) (fun c_55 => ?_)
        · refine lv_iinc (v := (nI (i + 1))) (lv' := [(4, .int (nI (i + 1))), (5, .ref (ad 11 i)), (3, .null), (0, .ref (ad 0 0)), (2, .ref (ad 3 j))]) hC.1 hC.2.1 dX5_nextBooking_77 hl (k := 2) rfl (nI_1 _) (by decide) rfl (fun ls hl => ?_)
          refine lv_goto (tgt := 11) hC.1 hC.2.1 dX5_nextBooking_80 (by decide) ?_
          have hnb : nxB M j i = false := by
            unfold nxB
            rw [decide_eq_false (p := mhr M < M.2.1 7 i) (Int32.not_lt.mpr c_55), Bool.and_false]
          have e9 : nxtN M j (i + 1) = none := by rw [nxtN_s, hxt]; exact if_neg (by rw [hnb]; decide)
          -- 
          exact hk ls (by rw [e9]; exact ⟨⟨hl.1, hl.2.1, (ec_lvc (lv_at hl 2 rfl) (ec_lvc (lv_at hl 0 rfl) (ec_lvc (lv_at hl 3 rfl) (ec_lvc (lv_at hl 4 rfl) ec_lvn))))⟩, trivial⟩)
        · refine lv_aload_nN hC.1 hC.2.1 dX5_nextBooking_58 rfl (lv_at hl 1 rfl) ?_
          refine lv_ifnullN (tgt := 74) hC.1 hC.2.1 dX5_nextBooking_59 (by decide) ?_
          refine lv_aload hC.1 hC.2.1 dX5_nextBooking_74 (lv_at hl 0 rfl) ?_
          refine lv_astore_n (lv' := [(3, .ref (ad 11 i)), (5, .ref (ad 11 i)), (4, .int (nI i)), (0, .ref (ad 0 0)), (2, .ref (ad 3 j))]) hC.1 hC.2.1 dX5_nextBooking_76 rfl hl (by decide) rfl (fun ls hl => ?_)
          refine lv_iinc (v := (nI (i + 1))) (lv' := [(4, .int (nI (i + 1))), (3, .ref (ad 11 i)), (5, .ref (ad 11 i)), (0, .ref (ad 0 0)), (2, .ref (ad 3 j))]) hC.1 hC.2.1 dX5_nextBooking_77 hl (k := 2) rfl (nI_1 _) (by decide) rfl (fun ls hl => ?_)
          refine lv_goto (tgt := 11) hC.1 hC.2.1 dX5_nextBooking_80 (by decide) ?_
          have h43 := (bI_n0 _).mp c_43
          rw [Bool.and_eq_true, decide_eq_true_eq, decide_eq_true_eq] at h43
          have hnb : nxB M j i = true := by
            unfold nxB
            rw [decide_eq_true h43.1, decide_eq_true ((hw.rne (hw.wf.bk hi).1 hj).mp h43.2), decide_eq_true (Int32.not_le.mp c_55)]
            rfl
          have e9 : nxtN M j (i + 1) = some i := by rw [nxtN_s, hxt]; exact if_pos hnb
          -- 
          exact hk ls (by rw [e9]; exact ⟨⟨hl.1, hl.2.1, (ec_lvc (lv_at hl 1 rfl) (ec_lvc (lv_at hl 0 rfl) (ec_lvc (lv_at hl 3 rfl) (ec_lvc (lv_at hl 4 rfl) ec_lvn))))⟩, trivial⟩)
    · skip
      rw [hxt] at hl
      have hl : lv_has ls 6 [(3, .ref (ad 11 u)), (4, .int (nI i)), (0, .ref (ad 0 0)), (2, .ref (ad 3 j))] := hl
      have hu : u < mnB M := by have := nxtN_lt hxt; omega
      refine lv_iload hC.1 hC.2.1 dX5_nextBooking_11 (lv_at hl 1 rfl) ?_
      refine lv_aload_n hC.1 hC.2.1 dX5_nextBooking_13 rfl (lv_at hl 2 rfl) ?_
      refine ec_get hC hK hw.1.1 fX5_22 rfl dX5_nextBooking_14 ?_
      obtain ⟨v0_z5, v1_z5, hL_z5⟩ := (hw.2.1 3 (by decide)).obj
      refine ec_go1 (ec_rV hC (c_Jx4a65c_size_8abf5 l G (ad 1 3) v0_z5 v1_z5 (nI (M.1 7 3))) kX5_32 (hOk.at hS hAN) hL_z5.1 (ec_rc hK hL_z5.1 ⟨_, _, rfl⟩) hl.1 ⟨Nat.le_of_ble_eq_true rfl, Nat.le_of_ble_eq_true rfl⟩ rfl (Nat.le_of_ble_eq_true rfl) dX5_nextBooking_17 ⟨Nat.le_of_ble_eq_true rfl, Nat.le_of_ble_eq_true rfl⟩) ?_
      refine lv_icmp_ge (tgt := 83) hC.1 hC.2.1 dX5_nextBooking_20 (by decide) (fun c => absurd c (fun z => Int32.lt_irrefl (Int32.lt_of_lt_of_le (nI_lt (b := mnB M) hi (by have := hw.wf.n; omega)) z))) (fun c_20 => ?_)
      refine lv_aload_n hC.1 hC.2.1 dX5_nextBooking_23 rfl (lv_at hl 2 rfl) ?_
      refine ec_get hC hK hw.1.1 fX5_22 rfl dX5_nextBooking_24 ?_
      refine lv_iload hC.1 hC.2.1 dX5_nextBooking_27 (lv_at hl 1 rfl) ?_
      obtain ⟨v0_g6, cap_g6, g_g6, hc_g6, hn_g6, hL_g6, hD_g6, hg_g6⟩ := (hw.2.1 3 (by decide)).el (i := i) hi
      refine ec_go1 (ec_rV hC (c_Jx4a65c_get_915e3 l G (ad 1 3) (ad 2 3) i (M.1 7 3) cap_g6 v0_g6 g_g6 hi hn_g6 (by omega)) kX5_131 (hOk.at hS hAN) ⟨hL_g6, hD_g6⟩ (ec_rc hK hL_g6 ⟨_, _, rfl⟩) hl.1 ⟨Nat.le_of_ble_eq_true rfl, Nat.le_of_ble_eq_true rfl⟩ rfl (Nat.le_of_ble_eq_true rfl) dX5_nextBooking_29 ⟨Nat.le_of_ble_eq_true rfl, Nat.le_of_ble_eq_true rfl⟩) ?_
      refine ec_topv (y := .ref (ad 11 i)) (by rw [hg_g6]; rfl) ?_
      refine ec_cast hC hK (hw.bk hi).1 ⟨_, _, rfl⟩ nX5_207.1 dX5_nextBooking_32 ?_
      refine lv_astore (lv' := [(5, .ref (ad 11 i)), (3, .ref (ad 11 u)), (4, .int (nI i)), (0, .ref (ad 0 0)), (2, .ref (ad 3 j))]) hC.1 hC.2.1 dX5_nextBooking_35 hl (by decide) rfl (fun ls hl => ?_)
      refine lv_aload hC.1 hC.2.1 dX5_nextBooking_37 (lv_at hl 0 rfl) ?_
      refine lv_aload_n hC.1 hC.2.1 dX5_nextBooking_39 rfl (lv_at hl 4 rfl) ?_
      refine ec_go1 (ec_rV hC (c_X1_standsFor l G (ad 11 i) (ad 3 (M.1 4 i)) (ad 3 j) (M.1 6 i) _ _ _ _ (hw.wf.gn i)) kX5_238 (hOk.at hS hAN) (hw.bk hi).1 (ec_rc hK (hw.bk hi).1 ⟨_, _, rfl⟩) hl.1 ⟨Nat.le_of_ble_eq_true rfl, Nat.le_of_ble_eq_true rfl⟩ rfl (Nat.le_of_ble_eq_true rfl) dX5_nextBooking_40 ⟨Nat.le_of_ble_eq_true rfl, Nat.le_of_ble_eq_true rfl⟩) ?_
      refine lv_if_eq (tgt := 77) hC.1 hC.2.1 dX5_nextBooking_43 (by decide) (fun c_43 => ?_) (fun c_43 => ?_)
      · refine lv_iinc (v := (nI (i + 1))) (lv' := [(4, .int (nI (i + 1))), (5, .ref (ad 11 i)), (3, .ref (ad 11 u)), (0, .ref (ad 0 0)), (2, .ref (ad 3 j))]) hC.1 hC.2.1 dX5_nextBooking_77 hl (k := 2) rfl (nI_1 _) (by decide) rfl (fun ls hl => ?_)
        refine lv_goto (tgt := 11) hC.1 hC.2.1 dX5_nextBooking_80 (by decide) ?_
        have hnb : nxB M j i = false := by
          unfold nxB
          rcases Bool.and_eq_false_iff.mp ((bI_0 _).mp c_43) with z | z
          · rw [z, Bool.false_and, Bool.false_and]
          · rw [decide_eq_false (fun y => of_decide_eq_false z ((hw.rne (hw.wf.bk hi).1 hj).mpr y)), Bool.and_false, Bool.false_and]
        have e9 : nxtN M j (i + 1) = some u := by rw [nxtN_s, hxt]; exact if_neg (fun z => absurd z.1 (by rw [hnb]; decide))
        -- 
        exact hk ls (by rw [e9]; exact ⟨⟨hl.1, hl.2.1, (ec_lvc (lv_at hl 2 rfl) (ec_lvc (lv_at hl 0 rfl) (ec_lvc (lv_at hl 3 rfl) (ec_lvc (lv_at hl 4 rfl) ec_lvn))))⟩, trivial⟩)
      · refine lv_aload hC.1 hC.2.1 dX5_nextBooking_46 (lv_at hl 0 rfl) ?_
        refine ec_get hC hK (hw.bk hi).1 fX5_225 rfl dX5_nextBooking_48 ?_
        refine lv_aload_n hC.1 hC.2.1 dX5_nextBooking_51 rfl (lv_at hl 3 rfl) ?_
        refine ec_get hC hK hw.1.1 fX5_25 rfl dX5_nextBooking_52 ?_
        refine lv_icmp_le (tgt := 77) hC.1 hC.2.1 dX5_nextBooking_55 (by decide) (fun c_55 => ?_) (fun c_55 => ?_)
        · refine lv_iinc (v := (nI (i + 1))) (lv' := [(4, .int (nI (i + 1))), (5, .ref (ad 11 i)), (3, .ref (ad 11 u)), (0, .ref (ad 0 0)), (2, .ref (ad 3 j))]) hC.1 hC.2.1 dX5_nextBooking_77 hl (k := 2) rfl (nI_1 _) (by decide) rfl (fun ls hl => ?_)
          refine lv_goto (tgt := 11) hC.1 hC.2.1 dX5_nextBooking_80 (by decide) ?_
          have hnb : nxB M j i = false := by
            unfold nxB
            rw [decide_eq_false (p := mhr M < M.2.1 7 i) (Int32.not_lt.mpr c_55), Bool.and_false]
          have e9 : nxtN M j (i + 1) = some u := by rw [nxtN_s, hxt]; exact if_neg (fun z => absurd z.1 (by rw [hnb]; decide))
          -- 
          exact hk ls (by rw [e9]; exact ⟨⟨hl.1, hl.2.1, (ec_lvc (lv_at hl 2 rfl) (ec_lvc (lv_at hl 0 rfl) (ec_lvc (lv_at hl 3 rfl) (ec_lvc (lv_at hl 4 rfl) ec_lvn))))⟩, trivial⟩)
        · refine lv_aload_n hC.1 hC.2.1 dX5_nextBooking_58 rfl (lv_at hl 1 rfl) ?_
          refine lv_ifnull hC.1 hC.2.1 dX5_nextBooking_59 ?_
          refine lv_aload hC.1 hC.2.1 dX5_nextBooking_62 (lv_at hl 0 rfl) ?_
          refine ec_get hC hK (hw.bk hi).1 fX5_225 rfl dX5_nextBooking_64 ?_
          refine lv_aload_n hC.1 hC.2.1 dX5_nextBooking_67 rfl (lv_at hl 1 rfl) ?_
          refine ec_get hC hK (hw.bk hu).1 fX5_225 rfl dX5_nextBooking_68 ?_
          refine lv_icmp_ge (tgt := 77) hC.1 hC.2.1 dX5_nextBooking_71 (by decide) (fun c_71 => ?_) (fun c_71 => ?_)
          · refine lv_iinc (v := (nI (i + 1))) (lv' := [(4, .int (nI (i + 1))), (5, .ref (ad 11 i)), (3, .ref (ad 11 u)), (0, .ref (ad 0 0)), (2, .ref (ad 3 j))]) hC.1 hC.2.1 dX5_nextBooking_77 hl (k := 2) rfl (nI_1 _) (by decide) rfl (fun ls hl => ?_)
            refine lv_goto (tgt := 11) hC.1 hC.2.1 dX5_nextBooking_80 (by decide) ?_
            have h43 := (bI_n0 _).mp c_43
            rw [Bool.and_eq_true, decide_eq_true_eq, decide_eq_true_eq] at h43
            have hnb : nxB M j i = true := by
              unfold nxB
              rw [decide_eq_true h43.1, decide_eq_true ((hw.rne (hw.wf.bk hi).1 hj).mp h43.2), decide_eq_true (Int32.not_le.mp c_55)]
              rfl
            have e9 : nxtN M j (i + 1) = some u := by rw [nxtN_s, hxt]; exact if_neg (fun z => Int32.lt_irrefl (Int32.lt_of_lt_of_le z.2 c_71))
            -- 
            exact hk ls (by rw [e9]; exact ⟨⟨hl.1, hl.2.1, (ec_lvc (lv_at hl 2 rfl) (ec_lvc (lv_at hl 0 rfl) (ec_lvc (lv_at hl 3 rfl) (ec_lvc (lv_at hl 4 rfl) ec_lvn))))⟩, trivial⟩)
          · refine lv_aload hC.1 hC.2.1 dX5_nextBooking_74 (lv_at hl 0 rfl) ?_
            refine lv_astore_n (lv' := [(3, .ref (ad 11 i)), (5, .ref (ad 11 i)), (4, .int (nI i)), (0, .ref (ad 0 0)), (2, .ref (ad 3 j))]) hC.1 hC.2.1 dX5_nextBooking_76 rfl hl (by decide) rfl (fun ls hl => ?_)
            refine lv_iinc (v := (nI (i + 1))) (lv' := [(4, .int (nI (i + 1))), (3, .ref (ad 11 i)), (5, .ref (ad 11 i)), (0, .ref (ad 0 0)), (2, .ref (ad 3 j))]) hC.1 hC.2.1 dX5_nextBooking_77 hl (k := 2) rfl (nI_1 _) (by decide) rfl (fun ls hl => ?_)
            refine lv_goto (tgt := 11) hC.1 hC.2.1 dX5_nextBooking_80 (by decide) ?_
            have h43 := (bI_n0 _).mp c_43
            rw [Bool.and_eq_true, decide_eq_true_eq, decide_eq_true_eq] at h43
            have hnb : nxB M j i = true := by
              unfold nxB
              rw [decide_eq_true h43.1, decide_eq_true ((hw.rne (hw.wf.bk hi).1 hj).mp h43.2), decide_eq_true (Int32.not_le.mp c_55)]
              rfl
            have e9 : nxtN M j (i + 1) = some i := by rw [nxtN_s, hxt]; exact if_pos ⟨hnb, Int32.not_le.mp c_71⟩
            -- 
            exact hk ls (by rw [e9]; exact ⟨⟨hl.1, hl.2.1, (ec_lvc (lv_at hl 1 rfl) (ec_lvc (lv_at hl 0 rfl) (ec_lvc (lv_at hl 3 rfl) (ec_lvc (lv_at hl 4 rfl) ec_lvn))))⟩, trivial⟩)
