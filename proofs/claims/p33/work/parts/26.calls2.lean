theorem ec_opt (o : Option Nat) : o = none ∨ ∃ u, o = some u := by cases o <;> simp
theorem ecO.re {G : ecG} {X : Nat → Prop} {M : ecM} {tg tg2 : Nat → Nat} {ad : Nat → Nat → Nat} {H H1 : Heap} (h : ecO G X M tg ad H) (k : ecKp H H1) (e : ∀ q, q < H.size → tg2 q = tg q) : ecO G X M tg2 ad H1 := by
  have s : ecSp tg tg2 (fun _ => False) H H1 := ⟨fun q hq _ => k.2 q hq, e⟩
  obtain ⟨h1, h2, h3, h4, h5, h6, h7⟩ := h
  exact ⟨h1.st s id, fun j hj => (h2 j hj).st s id id, h3.st s (fun _ _ => id) id, h4.st s (fun _ _ => id) id, h5.st s (fun _ _ => id) (fun _ _ => id) id, h6.st s (fun _ _ => id) id, h7⟩
theorem ecKp.of {H H1 : Heap} {sz : Nat} (hz : H.size ≤ H1.size) (h : H.size = sz) (k : ∀ q : Nat, q < H.size → ¬ sz ≤ q → H1[q]? = H[q]?) : ecKp H H1 := ⟨hz, fun q hq => k q hq (by omega)⟩
/-- a new state that is none of the laboratory's yet -/
def tgO (tg : Nat → Nat) (sz : Nat) : Nat → Nat := fun z => if z < sz then tg z else 0
theorem tgO_o {tg : Nat → Nat} {sz q : Nat} (h : q < sz) : tgO tg sz q = tg q := if_pos h
theorem tgO_n {tg : Nat → Nat} {sz q : Nat} (h : sz ≤ q) : tgO tg sz q = 0 := if_neg (Nat.not_lt.mpr h)

set_option maxHeartbeats 4000000 in
set_option maxRecDepth 100000 in
/-- setState -/
theorem c_X5_setState (l : Launch) (hls : l.stackTraces = false) (G : ecG) (X : Nat → Prop) (M : ecM) (x : Nat) (r c0 s0 : Int32) (o : Bool) : vx_Met l yX5_setState (ecWs yX5_setState cX5_setState 6 (Option.some FieldType.int)) (ecRm 9 8 150) (ecPc [.ref x, .int r, .int c0, .int s0, .int (bI o)] G (fun H => ecXs G X H ∧ EC G X M x H)) (ecEp (fun v H1 => v = some (.int (nI (dif (M.1 0 (cN r)) (cdN c0 s0 o)))) ∧ thSet M r c0 s0 = 0 ∧ EC G X (gvM M (cN r) (cdN c0 s0 o)) x H1) (X)) (ecXc (fun E => (E, thSet M r c0 s0) ∈ [(eIX, 1), (eAG, 2)])) 8 150 (X) := by
  refine ec_xmet (by decide) (Nat.le_of_ble_eq_true rfl) ?_
  intro p e s m below meth c hC hr hlocks hnx hOk hpre ls hl
  have hK := hOk.1
  obtain ⟨hXs, hEC⟩ := hpre
  have hS : va_S (X) s.heap s.heap [] := va_S.rf
  have hkp : ecKp s.heap s.heap := ecKp.rf
  have hAN : ∀ q, (X) q → ecN0 G ≤ q := hXs.1
  have hl : lv_has ls 6 [(0, .ref x), (1, .int r), (2, .int c0), (3, .int s0), (4, .int (bI o))] := hl
  obtain ⟨tg, ad, rfl, hw⟩ := hEC
  have hn0 := hw.wf.n
  refine lv_aload_n hC.1 hC.2.1 dX5_setState_0 rfl (lv_at hl 0 rfl) ?_
  refine lv_iload_n hC.1 hC.2.1 dX5_setState_1 rfl (lv_at hl 1 rfl) ?_
  refine ec_goXj (ec_xV hC (c_X5_roomAt l hls G X M tg ad r) kX5_57 (hOk.at hS hAN) hw (ec_rc hK hw.1.1 ⟨_, _, rfl⟩) hl.1 ⟨Nat.le_of_ble_eq_true rfl, Nat.le_of_ble_eq_true rfl⟩ rfl (Nat.le_of_ble_eq_true rfl) dX5_setState_2 ⟨Nat.le_of_ble_eq_true rfl, Nat.le_of_ble_eq_true rfl⟩) hS (fun E9 ce9 q9 H9 hx hk9 hS9 h1 h2 h3 => ec_out hnx hlocks (ecx (by unfold thSet; rw [hx.2]; rfl) hx.1 (.head _)) (hkp.tr hk9) hS9 h1 h2 h3 (Nat.le_of_ble_eq_true rfl) (Nat.le_of_ble_eq_true rfl)) (fun j hj => ?_)
  obtain ⟨hj, rfl⟩ := hj
  have hjc : cN (nI j) = j := nI_clamp (by have := hw.wf.n; omega)
  refine lv_astore (lv' := [(5, .ref (ad 3 j)), (0, .ref (ad 0 0)), (1, .int (nI j)), (2, .int c0), (3, .int s0), (4, .int (bI o))]) hC.1 hC.2.1 dX5_setState_5 hl (by decide) rfl (fun ls hl => ?_)
  refine lv_aload hC.1 hC.2.1 dX5_setState_7 (lv_at hl 0 rfl) ?_
  refine lv_iload_n hC.1 hC.2.1 dX5_setState_9 rfl (lv_at hl 3 rfl) ?_
  refine lv_iload_n hC.1 hC.2.1 dX5_setState_10 rfl (lv_at hl 4 rfl) ?_
  refine lv_iload hC.1 hC.2.1 dX5_setState_11 (lv_at hl 5 rfl) ?_
  refine ec_goXEq (ec_xS hC (c_X5_stateOf l hls G c0 s0 o s.heap.size) kX5_61 (hOk.at hS hAN) rfl hl.1 ⟨Nat.le_of_ble_eq_true rfl, Nat.le_of_ble_eq_true rfl⟩ rfl (Nat.le_of_ble_eq_true rfl) dX5_setState_13 ⟨Nat.le_of_ble_eq_true rfl, Nat.le_of_ble_eq_true rfl⟩) hS (fun z h => hXs.2 z h) (fun E9 ce9 q9 H9 locs9 hx hk9 hS9 h1 h2 h3 => ec_out hnx hlocks (ecx (by unfold thSet; rw [if_pos (ixB_of (by have := hn0; omega) hj), hx.2]; rfl) hx.1 (.tail _ (.head _))) (hkp.tr hk9) hS9 h1 h2 h3 (Nat.le_of_ble_eq_true rfl) (Nat.le_of_ble_eq_true rfl)) (fun q H locs hp hz hk1 hS => ?_)
  obtain ⟨hqz, hst, hq⟩ := hp
  have h80 := (cdN_3 o hst).1
  have hkp1 := ecKp.of hz rfl hk1
  have hkp := hkp.tr hkp1
  have hw := hw.re (tg2 := tgO tg s.heap.size) hkp1 (fun z hz => tgO_o hz)
  have hqT : ecT G X (tgO tg s.heap.size) H q 0 (eO 4 (stL (cdN c0 s0 o))) := ⟨hq, tgO_n hqz, hXs.2 q hqz⟩
  refine ec_goE1 (ec_rV hC (c_X3_take l G (ad 3 j) (ad 4 j) q (M.1 0 j) (cdN c0 s0 o) (M.2.1 0 j) (hXs.1 _ (hw.2.2.1 j hj).1.2.2) (hw.wf.rs _) h80) kX5_65 (hOk.at hS hAN) ⟨(hw.ro hj).1, (hw.ro hj).2, hq⟩ (ec_rc hK (hw.ro hj).1 ⟨_, _, rfl⟩) hl.1 ⟨Nat.le_of_ble_eq_true rfl, Nat.le_of_ble_eq_true rfl⟩ rfl (Nat.le_of_ble_eq_true rfl) dX5_setState_16 ⟨Nat.le_of_ble_eq_true rfl, Nat.le_of_ble_eq_true rfl⟩) hS (fun z h => by rw [h]; exact (hw.2.2.1 j hj).1.2.2) (fun H locs hp hz hk1 hS => ?_)
  have hw := hw.setRoom hj h80 hqT hp (fun x hx hn => hk1 x hx hn)
  refine vx_ret ?_
  refine W.widen (k := 8) (n := 150) (Nat.le_of_ble_eq_true rfl) (Nat.le_of_ble_eq_true rfl) ?_
  exact W.iret hC.1 hC.2.1 hr (fun t9 ht9 _ => ⟨_, rfl, by rw [ht9]; exact ⟨(by rw [hjc]), (by unfold thSet; rw [if_pos (ixB_of (by have := hn0; omega) hj), if_pos hst]), _, up2 ad 4 j q, rfl, (by rw [hjc]; exact hw)⟩, hS.F ht9⟩) hS.2.2 dX5_setState_19

set_option maxHeartbeats 4000000 in
set_option maxRecDepth 100000 in
/-- latest -/
theorem c_X5_latest (l : Launch) (hls : l.stackTraces = false) (G : ecG) (X : Nat → Prop) (M : ecM) (x : Nat) (r pl c0 s0 : Int32) (o : Bool) : vx_Met l yX5_latest (ecWs yX5_latest cX5_latest 8 (Option.some FieldType.int)) (ecRm 9 8 150) (ecPc [.ref x, .int r, .int pl, .int c0, .int s0, .int (bI o)] G (fun H => ecXs G X H ∧ EC G X M x H)) (ecEp (fun v H1 => v = some (.int (nI ((latN M (cN r) pl (cdN c0 s0 o) (mnA M)).getD 0))) ∧ thLat M r pl c0 s0 o = 0 ∧ EC G X (M) x H1) (X)) (ecXc (fun E => (E, thLat M r pl c0 s0 o) ∈ [(eIX, 1), (eAG, 2), (eNS, 3)])) 8 150 (X) := by
  refine ec_xmet (by decide) (Nat.le_of_ble_eq_true rfl) ?_
  intro p e s m below meth c hC hr hlocks hnx hOk hpre ls hl
  have hK := hOk.1
  obtain ⟨hXs, hEC⟩ := hpre
  have hS : va_S (X) s.heap s.heap [] := va_S.rf
  have hkp : ecKp s.heap s.heap := ecKp.rf
  have hAN : ∀ q, (X) q → ecN0 G ≤ q := hXs.1
  have hl : lv_has ls 8 [(0, .ref x), (1, .int r), (2, .int pl), (3, .int c0), (4, .int s0), (5, .int (bI o))] := hl
  obtain ⟨tg, ad, rfl, hw⟩ := hEC
  have hn0 := hw.wf.n
  refine lv_aload_n hC.1 hC.2.1 dX5_latest_0 rfl (lv_at hl 0 rfl) ?_
  refine lv_iload_n hC.1 hC.2.1 dX5_latest_1 rfl (lv_at hl 1 rfl) ?_
  refine ec_goXj (ec_xV hC (c_X5_roomAt l hls G X M tg ad r) kX5_57 (hOk.at hS hAN) hw (ec_rc hK hw.1.1 ⟨_, _, rfl⟩) hl.1 ⟨Nat.le_of_ble_eq_true rfl, Nat.le_of_ble_eq_true rfl⟩ rfl (Nat.le_of_ble_eq_true rfl) dX5_latest_2 ⟨Nat.le_of_ble_eq_true rfl, Nat.le_of_ble_eq_true rfl⟩) hS (fun E9 ce9 q9 H9 hx hk9 hS9 h1 h2 h3 => ec_out hnx hlocks (ecx (by unfold thLat; rw [hx.2]; rfl) hx.1 (.head _)) (hkp.tr hk9) hS9 h1 h2 h3 (Nat.le_of_ble_eq_true rfl) (Nat.le_of_ble_eq_true rfl)) (fun j hj => ?_)
  obtain ⟨hj, rfl⟩ := hj
  have hjc : cN (nI j) = j := nI_clamp (by have := hw.wf.n; omega)
  refine lv_astore (lv' := [(6, .ref (ad 3 j)), (0, .ref (ad 0 0)), (1, .int (nI j)), (2, .int pl), (3, .int c0), (4, .int s0), (5, .int (bI o))]) hC.1 hC.2.1 dX5_latest_5 hl (by decide) rfl (fun ls hl => ?_)
  refine lv_iload_n hC.1 hC.2.1 dX5_latest_7 rfl (lv_at hl 3 rfl) ?_
  refine ec_goX0 (ec_xS hC (c_X5_checkPlace l hls G pl) kX5_86 (hOk.at hS hAN) trivial hl.1 ⟨Nat.le_of_ble_eq_true rfl, Nat.le_of_ble_eq_true rfl⟩ rfl (Nat.le_of_ble_eq_true rfl) dX5_latest_8 ⟨Nat.le_of_ble_eq_true rfl, Nat.le_of_ble_eq_true rfl⟩) hS (fun E9 ce9 q9 H9 hx hk9 hS9 h1 h2 h3 => ec_out hnx hlocks (ecx (by unfold thLat; rw [if_pos (ixB_of (by have := hn0; omega) hj), hx.2, Bool.false_and]; rfl) hx.1 (.tail _ (.head _))) (hkp.tr hk9) hS9 h1 h2 h3 (Nat.le_of_ble_eq_true rfl) (Nat.le_of_ble_eq_true rfl)) (fun hpl => ?_)
  refine lv_aload_n hC.1 hC.2.1 dX5_latest_11 rfl (lv_at hl 1 rfl) ?_
  refine lv_aload hC.1 hC.2.1 dX5_latest_12 (lv_at hl 0 rfl) ?_
  refine lv_iload_n hC.1 hC.2.1 dX5_latest_14 rfl (lv_at hl 3 rfl) ?_
  refine lv_iload_n hC.1 hC.2.1 dX5_latest_15 rfl (lv_at hl 4 rfl) ?_
  refine lv_iload hC.1 hC.2.1 dX5_latest_16 (lv_at hl 5 rfl) ?_
  refine lv_iload hC.1 hC.2.1 dX5_latest_18 (lv_at hl 6 rfl) ?_
  refine ec_goXEq (ec_xS hC (c_X5_stateOf l hls G c0 s0 o s.heap.size) kX5_61 (hOk.at hS hAN) rfl hl.1 ⟨Nat.le_of_ble_eq_true rfl, Nat.le_of_ble_eq_true rfl⟩ rfl (Nat.le_of_ble_eq_true rfl) dX5_latest_20 ⟨Nat.le_of_ble_eq_true rfl, Nat.le_of_ble_eq_true rfl⟩) hS (fun z h => hXs.2 z h) (fun E9 ce9 q9 H9 locs9 hx hk9 hS9 h1 h2 h3 => ec_out hnx hlocks (ecx (by unfold thLat; rw [if_pos (ixB_of (by have := hn0; omega) hj), hx.2, Bool.and_false]; rfl) hx.1 (.tail _ (.head _))) (hkp.tr hk9) hS9 h1 h2 h3 (Nat.le_of_ble_eq_true rfl) (Nat.le_of_ble_eq_true rfl)) (fun q H locs hp hz hk1 hS => ?_)
  obtain ⟨hqz, hst, hq⟩ := hp
  have h80 := (cdN_3 o hst).1
  have hkp1 := ecKp.of hz rfl hk1
  have hkp := hkp.tr hkp1
  have hw := hw.re (tg2 := tgO tg s.heap.size) hkp1 (fun z hz => tgO_o hz)
  have hqT : ecT G X (tgO tg s.heap.size) H q 0 (eO 4 (stL (cdN c0 s0 o))) := ⟨hq, tgO_n hqz, hXs.2 q hqz⟩
  refine ec_go1 (ec_rV hC (c_X5_newestAnswer l G X M (tgO tg s.heap.size) ad j (cdN c0 s0 o) q pl hj h80) kX5_122 (hOk.at hS hAN) ⟨hw, hq⟩ (ec_rc hK hw.1.1 ⟨_, _, rfl⟩) hl.1 ⟨Nat.le_of_ble_eq_true rfl, Nat.le_of_ble_eq_true rfl⟩ rfl (Nat.le_of_ble_eq_true rfl) dX5_latest_23 ⟨Nat.le_of_ble_eq_true rfl, Nat.le_of_ble_eq_true rfl⟩) ?_
  obtain hlat | ⟨u, hlat⟩ := ec_opt (latN M j pl (cdN c0 s0 o) (mnA M))
  · refine ec_topv (y := .null) (by rw [hlat]; rfl) ?_
    refine lv_astoreN (lv' := [(7, .null), (6, .ref (ad 3 j)), (0, .ref (ad 0 0)), (1, .int (nI j)), (2, .int pl), (3, .int c0), (4, .int s0), (5, .int (bI o))]) hC.1 hC.2.1 dX5_latest_26 hl (by decide) rfl (fun ls hl => ?_)
    refine lv_aloadN hC.1 hC.2.1 dX5_latest_28 (lv_at hl 0 rfl) ?_
    refine lv_ifnonnullN hC.1 hC.2.1 dX5_latest_30 ?_
    exact ec_throwN hC hls xX5_109 hOk hAN hS hkp (is := 126) (text := "there is no such answer") (by decide) hl.1 hnx hlocks dX5_latest_33 dX5_latest_36 dX5_latest_37 dX5_latest_39 dX5_latest_42 (ecx (by unfold thLat; rw [if_pos (ixB_of (by have := hn0; omega) hj), if_pos (Bool.and_eq_true_iff.mpr ⟨hpl, hst⟩), hjc, hlat]; rfl) rfl (.tail _ (.tail _ (.head _)))) ⟨Nat.le_of_ble_eq_true rfl, Nat.le_of_ble_eq_true rfl, Nat.le_of_ble_eq_true rfl, Nat.le_of_ble_eq_true rfl⟩ (Nat.le_of_ble_eq_true rfl) (Nat.le_of_ble_eq_true rfl)
  · refine ec_topv (y := .ref (ad 5 u)) (by rw [hlat]; rfl) ?_
    have hu := latN_lt hlat
    refine lv_astore (lv' := [(7, .ref (ad 5 u)), (6, .ref (ad 3 j)), (0, .ref (ad 0 0)), (1, .int (nI j)), (2, .int pl), (3, .int c0), (4, .int s0), (5, .int (bI o))]) hC.1 hC.2.1 dX5_latest_26 hl (by decide) rfl (fun ls hl => ?_)
    refine lv_aload hC.1 hC.2.1 dX5_latest_28 (lv_at hl 0 rfl) ?_
    refine lv_ifnonnull (tgt := 43) hC.1 hC.2.1 dX5_latest_30 (by decide) ?_
    refine lv_aload hC.1 hC.2.1 dX5_latest_43 (lv_at hl 0 rfl) ?_
    refine ec_get hC hK (hw.an hu).1 fX5_128 rfl dX5_latest_45 ?_
    refine vx_ret ?_
    refine W.widen (k := 8) (n := 150) (Nat.le_of_ble_eq_true rfl) (Nat.le_of_ble_eq_true rfl) ?_
    exact W.iret hC.1 hC.2.1 hr (fun t9 ht9 _ => ⟨_, rfl, by rw [ht9]; exact ⟨(by rw [hjc, hlat]; rfl), (by unfold thLat; rw [if_pos (ixB_of (by have := hn0; omega) hj), if_pos (Bool.and_eq_true_iff.mpr ⟨hpl, hst⟩), hjc, hlat]; rfl), _, _, rfl, hw⟩, hS.F ht9⟩) hS.2.2 dX5_latest_48

set_option maxHeartbeats 4000000 in
set_option maxRecDepth 100000 in
/-- statesMeasured -/
theorem c_X5_statesMeasured (l : Launch) (hls : l.stackTraces = false) (G : ecG) (X : Nat → Prop) (M : ecM) (x : Nat) (r : Int32) : vx_Met l yX5_statesMeasured (ecWs yX5_statesMeasured cX5_statesMeasured 6 (Option.some FieldType.int)) (ecRm 7 4 40) (ecPc [.ref x, .int r] G (fun H => ecXs G X H ∧ EC G X M x H)) (ecEp (fun v H1 => v = some (.int (nI (smN M (cN r) (mnA M)))) ∧ thR M r = 0 ∧ EC G X (M) x H1) (X)) (ecXc (fun E => (E, thR M r) ∈ [(eIX, 1)])) 4 40 (X) := by
  refine ec_xmet (by decide) (Nat.le_of_ble_eq_true rfl) ?_
  intro p e s m below meth c hC hr hlocks hnx hOk hpre ls hl
  have hK := hOk.1
  obtain ⟨hXs, hEC⟩ := hpre
  have hS : va_S (X) s.heap s.heap [] := va_S.rf
  have hkp : ecKp s.heap s.heap := ecKp.rf
  have hAN : ∀ q, (X) q → ecN0 G ≤ q := hXs.1
  have hl : lv_has ls 6 [(0, .ref x), (1, .int r)] := hl
  obtain ⟨tg, ad, rfl, hw⟩ := hEC
  have hn0 := hw.wf.n
  refine lv_aload_n hC.1 hC.2.1 dX5_statesMeasured_0 rfl (lv_at hl 0 rfl) ?_
  refine lv_iload_n hC.1 hC.2.1 dX5_statesMeasured_1 rfl (lv_at hl 1 rfl) ?_
  refine ec_goXj (ec_xV hC (c_X5_roomAt l hls G X M tg ad r) kX5_57 (hOk.at hS hAN) hw (ec_rc hK hw.1.1 ⟨_, _, rfl⟩) hl.1 ⟨Nat.le_of_ble_eq_true rfl, Nat.le_of_ble_eq_true rfl⟩ rfl (Nat.le_of_ble_eq_true rfl) dX5_statesMeasured_2 ⟨Nat.le_of_ble_eq_true rfl, Nat.le_of_ble_eq_true rfl⟩) hS (fun E9 ce9 q9 H9 hx hk9 hS9 h1 h2 h3 => ec_out hnx hlocks (ecx (by unfold thR; rw [hx.2]; rfl) hx.1 (.head _)) (hkp.tr hk9) hS9 h1 h2 h3 (Nat.le_of_ble_eq_true rfl) (Nat.le_of_ble_eq_true rfl)) (fun j hj => ?_)
  obtain ⟨hj, rfl⟩ := hj
  have hjc : cN (nI j) = j := nI_clamp (by have := hw.wf.n; omega)
  refine lv_astore_n (lv' := [(2, .ref (ad 3 j)), (0, .ref (ad 0 0)), (1, .int (nI j))]) hC.1 hC.2.1 dX5_statesMeasured_5 rfl hl (by decide) rfl (fun ls hl => ?_)
  refine lv_iconst (v := 0) hC.1 hC.2.1 dX5_statesMeasured_6 (by decide) ?_
  refine lv_istore_n (lv' := [(3, .int 0), (2, .ref (ad 3 j)), (0, .ref (ad 0 0)), (1, .int (nI j))]) hC.1 hC.2.1 dX5_statesMeasured_7 rfl hl (by decide) rfl (fun ls hl => ?_)
  refine lv_iconst (v := 0) hC.1 hC.2.1 dX5_statesMeasured_8 (by decide) ?_
  refine lv_istore (lv' := [(4, .int 0), (3, .int 0), (2, .ref (ad 3 j)), (0, .ref (ad 0 0)), (1, .int (nI j))]) hC.1 hC.2.1 dX5_statesMeasured_9 hl (by decide) rfl (fun ls hl => ?_)
  refine ec_loopR (n := mnA M) (fun i ls => lv_has ls 6 [(3, .int (nI (smN M j i))), (4, .int (nI i)), (0, .ref (ad 0 0)), (2, .ref (ad 3 j))] ∧ True) ⟨⟨hl.1, hl.2.1, (ec_lvc (lv_at hl 1 rfl) (ec_lvc (lv_at hl 0 rfl) (ec_lvc (lv_at hl 3 rfl) (ec_lvc (lv_at hl 2 rfl) ec_lvn))))⟩, trivial⟩ (fun ls h9 => ?_) (fun i ls hi h9 hk => ?_)
  · obtain ⟨hl, hI⟩ := h9
    refine lv_iload hC.1 hC.2.1 dX5_statesMeasured_11 (lv_at hl 1 rfl) ?_
    refine lv_aload_n hC.1 hC.2.1 dX5_statesMeasured_13 rfl (lv_at hl 2 rfl) ?_
    refine ec_get hC hK hw.1.1 fX5_16 rfl dX5_statesMeasured_14 ?_
    obtain ⟨v0_z1, v1_z1, hL_z1⟩ := (hw.2.1 1 (by decide)).obj
    refine ec_go1 (ec_rV hC (c_Jx4a65c_size_8abf5 l G (ad 1 1) v0_z1 v1_z1 (nI (M.1 7 1))) kX5_32 (hOk.at hS hAN) hL_z1.1 (ec_rc hK hL_z1.1 ⟨_, _, rfl⟩) hl.1 ⟨Nat.le_of_ble_eq_true rfl, Nat.le_of_ble_eq_true rfl⟩ rfl (Nat.le_of_ble_eq_true rfl) dX5_statesMeasured_17 ⟨Nat.le_of_ble_eq_true rfl, Nat.le_of_ble_eq_true rfl⟩) ?_
    refine lv_icmp_ge (tgt := 64) hC.1 hC.2.1 dX5_statesMeasured_20 (by decide) (fun c_20 => ?_) (fun c => absurd (Int32.le_refl _) c)
    refine lv_iload_n hC.1 hC.2.1 dX5_statesMeasured_64 rfl (lv_at hl 0 rfl) ?_
    refine vx_ret ?_
    refine W.widen (k := 4) (n := 40) (Nat.le_of_ble_eq_true rfl) (Nat.le_of_ble_eq_true rfl) ?_
    exact W.iret hC.1 hC.2.1 hr (fun t9 ht9 _ => ⟨_, rfl, by rw [ht9]; exact ⟨(by rw [hjc]), (by unfold thR; rw [if_pos (ixB_of (by have := hn0; omega) hj)]), tg, ad, rfl, hw⟩, hS.F ht9⟩) hS.2.2 dX5_statesMeasured_65
  · obtain ⟨hl, hI⟩ := h9
    refine lv_iload hC.1 hC.2.1 dX5_statesMeasured_11 (lv_at hl 1 rfl) ?_
    refine lv_aload_n hC.1 hC.2.1 dX5_statesMeasured_13 rfl (lv_at hl 2 rfl) ?_
    refine ec_get hC hK hw.1.1 fX5_16 rfl dX5_statesMeasured_14 ?_
    obtain ⟨v0_z2, v1_z2, hL_z2⟩ := (hw.2.1 1 (by decide)).obj
    refine ec_go1 (ec_rV hC (c_Jx4a65c_size_8abf5 l G (ad 1 1) v0_z2 v1_z2 (nI (M.1 7 1))) kX5_32 (hOk.at hS hAN) hL_z2.1 (ec_rc hK hL_z2.1 ⟨_, _, rfl⟩) hl.1 ⟨Nat.le_of_ble_eq_true rfl, Nat.le_of_ble_eq_true rfl⟩ rfl (Nat.le_of_ble_eq_true rfl) dX5_statesMeasured_17 ⟨Nat.le_of_ble_eq_true rfl, Nat.le_of_ble_eq_true rfl⟩) ?_
    refine lv_icmp_ge (tgt := 64) hC.1 hC.2.1 dX5_statesMeasured_20 (by decide) (fun c => absurd c (fun z => Int32.lt_irrefl (Int32.lt_of_lt_of_le (nI_lt (b := mnA M) hi (by have := hw.wf.n; omega)) z))) (fun c_20 => ?_)
    refine lv_aload_n hC.1 hC.2.1 dX5_statesMeasured_23 rfl (lv_at hl 2 rfl) ?_
    refine ec_get hC hK hw.1.1 fX5_16 rfl dX5_statesMeasured_24 ?_
    refine lv_iload hC.1 hC.2.1 dX5_statesMeasured_27 (lv_at hl 1 rfl) ?_
    obtain ⟨v0_g3, cap_g3, g_g3, hc_g3, hn_g3, hL_g3, hD_g3, hg_g3⟩ := (hw.2.1 1 (by decide)).el (i := i) hi
    refine ec_go1 (ec_rV hC (c_Jx4a65c_get_915e3 l G (ad 1 1) (ad 2 1) i (M.1 7 1) cap_g3 v0_g3 g_g3 hi hn_g3 (by omega)) kX5_131 (hOk.at hS hAN) ⟨hL_g3, hD_g3⟩ (ec_rc hK hL_g3 ⟨_, _, rfl⟩) hl.1 ⟨Nat.le_of_ble_eq_true rfl, Nat.le_of_ble_eq_true rfl⟩ rfl (Nat.le_of_ble_eq_true rfl) dX5_statesMeasured_29 ⟨Nat.le_of_ble_eq_true rfl, Nat.le_of_ble_eq_true rfl⟩) ?_
    refine ec_topv (y := .ref (ad 5 i)) (by rw [hg_g3]; rfl) ?_
    refine ec_cast hC hK (hw.an hi).1 ⟨_, _, rfl⟩ nX5_100.1 dX5_statesMeasured_32 ?_
    refine lv_astore (lv' := [(5, .ref (ad 5 i)), (3, .int (nI (smN M j i))), (4, .int (nI i)), (0, .ref (ad 0 0)), (2, .ref (ad 3 j))]) hC.1 hC.2.1 dX5_statesMeasured_35 hl (by decide) rfl (fun ls hl => ?_)
    refine lv_aload hC.1 hC.2.1 dX5_statesMeasured_37 (lv_at hl 0 rfl) ?_
    refine ec_get hC hK (hw.an hi).1 fX5_135 rfl dX5_statesMeasured_39 ?_
    refine lv_aload_n hC.1 hC.2.1 dX5_statesMeasured_42 rfl (lv_at hl 4 rfl) ?_
    refine lv_acmp_ne (rx := (some (ad 3 (M.1 1 i)))) (ry := (some (ad 3 j))) (tgt := 58) hC.1 hC.2.1 dX5_statesMeasured_43 (by decide) (fun c_43 => ?_) (fun c_43 => ?_)
    · refine lv_iinc (v := (nI (i + 1))) (lv' := [(4, .int (nI (i + 1))), (5, .ref (ad 5 i)), (3, .int (nI (smN M j i))), (0, .ref (ad 0 0)), (2, .ref (ad 3 j))]) hC.1 hC.2.1 dX5_statesMeasured_58 hl (k := 2) rfl (nI_1 _) (by decide) rfl (fun ls hl => ?_)
      refine lv_goto (tgt := 11) hC.1 hC.2.1 dX5_statesMeasured_61 (by decide) ?_
      have e9 : smN M j (i + 1) = smN M j i := by rw [smN_s, decide_eq_false (fun z => c_43 (by rw [z])), Bool.false_and]; rfl
      rw [← e9] at hl
      exact hk ls ⟨⟨hl.1, hl.2.1, (ec_lvc (lv_at hl 2 rfl) (ec_lvc (lv_at hl 0 rfl) (ec_lvc (lv_at hl 3 rfl) (ec_lvc (lv_at hl 4 rfl) ec_lvn))))⟩, trivial⟩
    · refine lv_aload_n hC.1 hC.2.1 dX5_statesMeasured_46 rfl (lv_at hl 3 rfl) ?_
      refine lv_aload hC.1 hC.2.1 dX5_statesMeasured_47 (lv_at hl 0 rfl) ?_
      refine ec_go1 (ec_rV hC (c_X5_isFirstOfItsState l G X M tg ad i hi) kX5_139 (hOk.at hS hAN) hw (ec_rc hK hw.1.1 ⟨_, _, rfl⟩) hl.1 ⟨Nat.le_of_ble_eq_true rfl, Nat.le_of_ble_eq_true rfl⟩ rfl (Nat.le_of_ble_eq_true rfl) dX5_statesMeasured_49 ⟨Nat.le_of_ble_eq_true rfl, Nat.le_of_ble_eq_true rfl⟩) ?_
      refine lv_if_eq (tgt := 58) hC.1 hC.2.1 dX5_statesMeasured_52 (by decide) (fun c_52 => ?_) (fun c_52 => ?_)
      · refine lv_iinc (v := (nI (i + 1))) (lv' := [(4, .int (nI (i + 1))), (5, .ref (ad 5 i)), (3, .int (nI (smN M j i))), (0, .ref (ad 0 0)), (2, .ref (ad 3 j))]) hC.1 hC.2.1 dX5_statesMeasured_58 hl (k := 2) rfl (nI_1 _) (by decide) rfl (fun ls hl => ?_)
        refine lv_goto (tgt := 11) hC.1 hC.2.1 dX5_statesMeasured_61 (by decide) ?_
        have e9 : smN M j (i + 1) = smN M j i := by rw [smN_s, (bI_0 _).mp c_52, Bool.and_false]; rfl
        rw [← e9] at hl
        exact hk ls ⟨⟨hl.1, hl.2.1, (ec_lvc (lv_at hl 2 rfl) (ec_lvc (lv_at hl 0 rfl) (ec_lvc (lv_at hl 3 rfl) (ec_lvc (lv_at hl 4 rfl) ec_lvn))))⟩, trivial⟩
      · refine lv_iinc (v := (nI ((smN M j i) + 1))) (lv' := [(3, .int (nI ((smN M j i) + 1))), (5, .ref (ad 5 i)), (4, .int (nI i)), (0, .ref (ad 0 0)), (2, .ref (ad 3 j))]) hC.1 hC.2.1 dX5_statesMeasured_55 hl (k := 1) rfl (nI_1 _) (by decide) rfl (fun ls hl => ?_)
        refine lv_iinc (v := (nI (i + 1))) (lv' := [(4, .int (nI (i + 1))), (3, .int (nI ((smN M j i) + 1))), (5, .ref (ad 5 i)), (0, .ref (ad 0 0)), (2, .ref (ad 3 j))]) hC.1 hC.2.1 dX5_statesMeasured_58 hl (k := 2) rfl (nI_1 _) (by decide) rfl (fun ls hl => ?_)
        refine lv_goto (tgt := 11) hC.1 hC.2.1 dX5_statesMeasured_61 (by decide) ?_
        have e9 : smN M j (i + 1) = smN M j i + 1 := by rw [smN_s, decide_eq_true ((hw.rne (hw.wf.an hi).1 hj).mp (Option.some.inj c_43)), (bI_n0 _).mp c_52]; rfl
        rw [← e9] at hl
        exact hk ls ⟨⟨hl.1, hl.2.1, (ec_lvc (lv_at hl 1 rfl) (ec_lvc (lv_at hl 0 rfl) (ec_lvc (lv_at hl 3 rfl) (ec_lvc (lv_at hl 4 rfl) ec_lvn))))⟩, trivial⟩
