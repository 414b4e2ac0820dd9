theorem barM_nar (M : ecM) (f : Nat) : narrow .char (.int (barM M f)) = .int (barM M f) := by
  unfold barM
  split
  · split
    · split <;> rfl
    · rfl
  · rfl

set_option maxHeartbeats 4000000 in
set_option maxRecDepth 100000 in
/-- curtains -/
theorem c_X5_curtains (l : Launch) (hls : l.stackTraces = false) (G : ecG) (X : Nat → Prop) (M : ecM) (x : Nat) (r : Int32) : vx_Met l yX5_curtains (ecWs yX5_curtains cX5_curtains 2 (Option.some FieldType.int)) (ecRm 7 4 40) (ecPc [.ref x, .int r] G (fun H => ecXs G X H ∧ EC G X M x H)) (ecEp (fun v H1 => v = some (.int (nI (M.1 0 (cN r) / 20))) ∧ thR M r = 0 ∧ EC G X (M) x H1) (X)) (ecXc (fun E => (E, thR M r) ∈ [(eIX, 1)])) 4 40 (X) := by
  refine ec_xmet (by decide) (Nat.le_of_ble_eq_true rfl) ?_
  intro p e s m below meth c hC hr hlocks hnx hOk hpre ls hl
  have hK := hOk.1
  obtain ⟨hXs, hEC⟩ := hpre
  have hS : va_S (X) s.heap s.heap [] := va_S.rf
  have hkp : ecKp s.heap s.heap := ecKp.rf
  have hAN : ∀ q, (X) q → ecN0 G ≤ q := hXs.1
  have hl : lv_has ls 2 [(0, .ref x), (1, .int r)] := hl
  obtain ⟨tg, ad, rfl, hw⟩ := hEC
  have hn0 := hw.wf.n
  refine lv_aload_n hC.1 hC.2.1 dX5_curtains_0 rfl (lv_at hl 0 rfl) ?_
  refine lv_iload_n hC.1 hC.2.1 dX5_curtains_1 rfl (lv_at hl 1 rfl) ?_
  refine ec_goXj (ec_xV hC (c_X5_roomAt l hls G X M tg ad r) kX5_57 (hOk.at hS hAN) hw (ec_rc hK hw.1.1 ⟨_, _, rfl⟩) hl.1 ⟨Nat.le_of_ble_eq_true rfl, Nat.le_of_ble_eq_true rfl⟩ rfl (Nat.le_of_ble_eq_true rfl) dX5_curtains_2 ⟨Nat.le_of_ble_eq_true rfl, Nat.le_of_ble_eq_true rfl⟩) hS (fun E9 ce9 q9 H9 hx hk9 hS9 h1 h2 h3 => ec_out hnx hlocks (ecx (by unfold thR; rw [hx.2]; rfl) hx.1 (.head _)) (hkp.tr hk9) hS9 h1 h2 h3 (Nat.le_of_ble_eq_true rfl) (Nat.le_of_ble_eq_true rfl)) (fun j hj => ?_)
  obtain ⟨hj, rfl⟩ := hj
  have hjc : cN (nI j) = j := nI_clamp (by have := hw.wf.n; omega)
  refine ec_get hC hK (hw.ro hj).1 fX5_69 rfl dX5_curtains_5 ?_
  refine ec_get hC hK (hw.ro hj).2 fX5_73 rfl dX5_curtains_8 ?_
  refine vx_ret ?_
  refine W.widen (k := 4) (n := 40) (Nat.le_of_ble_eq_true rfl) (Nat.le_of_ble_eq_true rfl) ?_
  exact W.iret hC.1 hC.2.1 hr (fun t9 ht9 _ => ⟨_, rfl, by rw [ht9]; exact ⟨(by rw [hjc]), (by unfold thR; rw [if_pos (ixB_of (by have := hn0; omega) hj)]), tg, ad, rfl, hw⟩, hS.F ht9⟩) hS.2.2 dX5_curtains_11

set_option maxHeartbeats 4000000 in
set_option maxRecDepth 100000 in
/-- seats -/
theorem c_X5_seats (l : Launch) (hls : l.stackTraces = false) (G : ecG) (X : Nat → Prop) (M : ecM) (x : Nat) (r : Int32) : vx_Met l yX5_seats (ecWs yX5_seats cX5_seats 2 (Option.some FieldType.int)) (ecRm 7 4 40) (ecPc [.ref x, .int r] G (fun H => ecXs G X H ∧ EC G X M x H)) (ecEp (fun v H1 => v = some (.int (nI (M.1 0 (cN r) % 20 / 2))) ∧ thR M r = 0 ∧ EC G X (M) x H1) (X)) (ecXc (fun E => (E, thR M r) ∈ [(eIX, 1)])) 4 40 (X) := by
  refine ec_xmet (by decide) (Nat.le_of_ble_eq_true rfl) ?_
  intro p e s m below meth c hC hr hlocks hnx hOk hpre ls hl
  have hK := hOk.1
  obtain ⟨hXs, hEC⟩ := hpre
  have hS : va_S (X) s.heap s.heap [] := va_S.rf
  have hkp : ecKp s.heap s.heap := ecKp.rf
  have hAN : ∀ q, (X) q → ecN0 G ≤ q := hXs.1
  have hl : lv_has ls 2 [(0, .ref x), (1, .int r)] := hl
  obtain ⟨tg, ad, rfl, hw⟩ := hEC
  have hn0 := hw.wf.n
  refine lv_aload_n hC.1 hC.2.1 dX5_seats_0 rfl (lv_at hl 0 rfl) ?_
  refine lv_iload_n hC.1 hC.2.1 dX5_seats_1 rfl (lv_at hl 1 rfl) ?_
  refine ec_goXj (ec_xV hC (c_X5_roomAt l hls G X M tg ad r) kX5_57 (hOk.at hS hAN) hw (ec_rc hK hw.1.1 ⟨_, _, rfl⟩) hl.1 ⟨Nat.le_of_ble_eq_true rfl, Nat.le_of_ble_eq_true rfl⟩ rfl (Nat.le_of_ble_eq_true rfl) dX5_seats_2 ⟨Nat.le_of_ble_eq_true rfl, Nat.le_of_ble_eq_true rfl⟩) hS (fun E9 ce9 q9 H9 hx hk9 hS9 h1 h2 h3 => ec_out hnx hlocks (ecx (by unfold thR; rw [hx.2]; rfl) hx.1 (.head _)) (hkp.tr hk9) hS9 h1 h2 h3 (Nat.le_of_ble_eq_true rfl) (Nat.le_of_ble_eq_true rfl)) (fun j hj => ?_)
  obtain ⟨hj, rfl⟩ := hj
  have hjc : cN (nI j) = j := nI_clamp (by have := hw.wf.n; omega)
  refine ec_get hC hK (hw.ro hj).1 fX5_69 rfl dX5_seats_5 ?_
  refine ec_get hC hK (hw.ro hj).2 fX5_76 rfl dX5_seats_8 ?_
  refine vx_ret ?_
  refine W.widen (k := 4) (n := 40) (Nat.le_of_ble_eq_true rfl) (Nat.le_of_ble_eq_true rfl) ?_
  exact W.iret hC.1 hC.2.1 hr (fun t9 ht9 _ => ⟨_, rfl, by rw [ht9]; exact ⟨(by rw [hjc]), (by unfold thR; rw [if_pos (ixB_of (by have := hn0; omega) hj)]), tg, ad, rfl, hw⟩, hS.F ht9⟩) hS.2.2 dX5_seats_11

set_option maxHeartbeats 4000000 in
set_option maxRecDepth 100000 in
/-- areOpen -/
theorem c_X5_areOpen (l : Launch) (hls : l.stackTraces = false) (G : ecG) (X : Nat → Prop) (M : ecM) (x : Nat) (r : Int32) : vx_Met l yX5_areOpen (ecWs yX5_areOpen cX5_areOpen 2 (Option.some FieldType.boolean)) (ecRm 7 4 40) (ecPc [.ref x, .int r] G (fun H => ecXs G X H ∧ EC G X M x H)) (ecEp (fun v H1 => v = some (.int (nI (M.1 0 (cN r) % 2))) ∧ thR M r = 0 ∧ EC G X (M) x H1) (X)) (ecXc (fun E => (E, thR M r) ∈ [(eIX, 1)])) 4 40 (X) := by
  refine ec_xmet (by decide) (Nat.le_of_ble_eq_true rfl) ?_
  intro p e s m below meth c hC hr hlocks hnx hOk hpre ls hl
  have hK := hOk.1
  obtain ⟨hXs, hEC⟩ := hpre
  have hS : va_S (X) s.heap s.heap [] := va_S.rf
  have hkp : ecKp s.heap s.heap := ecKp.rf
  have hAN : ∀ q, (X) q → ecN0 G ≤ q := hXs.1
  have hl : lv_has ls 2 [(0, .ref x), (1, .int r)] := hl
  obtain ⟨tg, ad, rfl, hw⟩ := hEC
  have hn0 := hw.wf.n
  refine lv_aload_n hC.1 hC.2.1 dX5_areOpen_0 rfl (lv_at hl 0 rfl) ?_
  refine lv_iload_n hC.1 hC.2.1 dX5_areOpen_1 rfl (lv_at hl 1 rfl) ?_
  refine ec_goXj (ec_xV hC (c_X5_roomAt l hls G X M tg ad r) kX5_57 (hOk.at hS hAN) hw (ec_rc hK hw.1.1 ⟨_, _, rfl⟩) hl.1 ⟨Nat.le_of_ble_eq_true rfl, Nat.le_of_ble_eq_true rfl⟩ rfl (Nat.le_of_ble_eq_true rfl) dX5_areOpen_2 ⟨Nat.le_of_ble_eq_true rfl, Nat.le_of_ble_eq_true rfl⟩) hS (fun E9 ce9 q9 H9 hx hk9 hS9 h1 h2 h3 => ec_out hnx hlocks (ecx (by unfold thR; rw [hx.2]; rfl) hx.1 (.head _)) (hkp.tr hk9) hS9 h1 h2 h3 (Nat.le_of_ble_eq_true rfl) (Nat.le_of_ble_eq_true rfl)) (fun j hj => ?_)
  obtain ⟨hj, rfl⟩ := hj
  have hjc : cN (nI j) = j := nI_clamp (by have := hw.wf.n; omega)
  refine ec_get hC hK (hw.ro hj).1 fX5_69 rfl dX5_areOpen_5 ?_
  refine ec_get hC hK (hw.ro hj).2 fX5_79 rfl dX5_areOpen_8 ?_
  refine vx_ret ?_
  refine W.widen (k := 4) (n := 40) (Nat.le_of_ble_eq_true rfl) (Nat.le_of_ble_eq_true rfl) ?_
  exact W.zret hC.1 hC.2.1 hr nI_01 (fun t9 ht9 _ => ⟨_, rfl, by rw [ht9]; exact ⟨(by rw [hjc]), (by unfold thR; rw [if_pos (ixB_of (by have := hn0; omega) hj)]), tg, ad, rfl, hw⟩, hS.F ht9⟩) hS.2.2 dX5_areOpen_11

set_option maxHeartbeats 4000000 in
set_option maxRecDepth 100000 in
/-- changes -/
theorem c_X5_changes (l : Launch) (hls : l.stackTraces = false) (G : ecG) (X : Nat → Prop) (M : ecM) (x : Nat) (r : Int32) : vx_Met l yX5_changes (ecWs yX5_changes cX5_changes 2 (Option.some FieldType.int)) (ecRm 7 4 40) (ecPc [.ref x, .int r] G (fun H => ecXs G X H ∧ EC G X M x H)) (ecEp (fun v H1 => v = some (.int (M.2.1 0 (cN r))) ∧ thR M r = 0 ∧ EC G X (M) x H1) (X)) (ecXc (fun E => (E, thR M r) ∈ [(eIX, 1)])) 4 40 (X) := by
  refine ec_xmet (by decide) (Nat.le_of_ble_eq_true rfl) ?_
  intro p e s m below meth c hC hr hlocks hnx hOk hpre ls hl
  have hK := hOk.1
  obtain ⟨hXs, hEC⟩ := hpre
  have hS : va_S (X) s.heap s.heap [] := va_S.rf
  have hkp : ecKp s.heap s.heap := ecKp.rf
  have hAN : ∀ q, (X) q → ecN0 G ≤ q := hXs.1
  have hl : lv_has ls 2 [(0, .ref x), (1, .int r)] := hl
  obtain ⟨tg, ad, rfl, hw⟩ := hEC
  have hn0 := hw.wf.n
  refine lv_aload_n hC.1 hC.2.1 dX5_changes_0 rfl (lv_at hl 0 rfl) ?_
  refine lv_iload_n hC.1 hC.2.1 dX5_changes_1 rfl (lv_at hl 1 rfl) ?_
  refine ec_goXj (ec_xV hC (c_X5_roomAt l hls G X M tg ad r) kX5_57 (hOk.at hS hAN) hw (ec_rc hK hw.1.1 ⟨_, _, rfl⟩) hl.1 ⟨Nat.le_of_ble_eq_true rfl, Nat.le_of_ble_eq_true rfl⟩ rfl (Nat.le_of_ble_eq_true rfl) dX5_changes_2 ⟨Nat.le_of_ble_eq_true rfl, Nat.le_of_ble_eq_true rfl⟩) hS (fun E9 ce9 q9 H9 hx hk9 hS9 h1 h2 h3 => ec_out hnx hlocks (ecx (by unfold thR; rw [hx.2]; rfl) hx.1 (.head _)) (hkp.tr hk9) hS9 h1 h2 h3 (Nat.le_of_ble_eq_true rfl) (Nat.le_of_ble_eq_true rfl)) (fun j hj => ?_)
  obtain ⟨hj, rfl⟩ := hj
  have hjc : cN (nI j) = j := nI_clamp (by have := hw.wf.n; omega)
  refine ec_get hC hK (hw.ro hj).1 fX5_83 rfl dX5_changes_5 ?_
  refine vx_ret ?_
  refine W.widen (k := 4) (n := 40) (Nat.le_of_ble_eq_true rfl) (Nat.le_of_ble_eq_true rfl) ?_
  exact W.iret hC.1 hC.2.1 hr (fun t9 ht9 _ => ⟨_, rfl, by rw [ht9]; exact ⟨(by rw [hjc]), (by unfold thR; rw [if_pos (ixB_of (by have := hn0; omega) hj)]), tg, ad, rfl, hw⟩, hS.F ht9⟩) hS.2.2 dX5_changes_8

set_option maxHeartbeats 4000000 in
set_option maxRecDepth 100000 in
/-- sample -/
theorem c_X5_sample (l : Launch) (hls : l.stackTraces = false) (G : ecG) (X : Nat → Prop) (M : ecM) (x : Nat) (a i : Int32) : vx_Met l yX5_sample (ecWs yX5_sample cX5_sample 4 (Option.some FieldType.int)) (ecRm 7 4 40) (ecPc [.ref x, .int a, .int i] G (fun H => ecXs G X H ∧ EC G X M x H)) (ecEp (fun v H1 => v = some (.int (M.2.1 4 (4 * cN a + cN i))) ∧ thSam M a i = 0 ∧ EC G X (M) x H1) (X)) (ecXc (fun E => (E, thSam M a i) ∈ [(eIX, 1), (eNS, 2)])) 4 40 (X) := by
  refine ec_xmet (by decide) (Nat.le_of_ble_eq_true rfl) ?_
  intro p e s m below meth c hC hr hlocks hnx hOk hpre ls hl
  have hK := hOk.1
  obtain ⟨hXs, hEC⟩ := hpre
  have hS : va_S (X) s.heap s.heap [] := va_S.rf
  have hkp : ecKp s.heap s.heap := ecKp.rf
  have hAN : ∀ q, (X) q → ecN0 G ≤ q := hXs.1
  have hl : lv_has ls 4 [(0, .ref x), (1, .int a), (2, .int i)] := hl
  obtain ⟨tg, ad, rfl, hw⟩ := hEC
  have hn0 := hw.wf.n
  refine lv_aload_n hC.1 hC.2.1 dX5_sample_0 rfl (lv_at hl 0 rfl) ?_
  refine lv_iload_n hC.1 hC.2.1 dX5_sample_1 rfl (lv_at hl 1 rfl) ?_
  refine ec_goXj (ec_xV hC (c_X5_answerAt l hls G X M tg ad a) kX5_105 (hOk.at hS hAN) hw (ec_rc hK hw.1.1 ⟨_, _, rfl⟩) hl.1 ⟨Nat.le_of_ble_eq_true rfl, Nat.le_of_ble_eq_true rfl⟩ rfl (Nat.le_of_ble_eq_true rfl) dX5_sample_2 ⟨Nat.le_of_ble_eq_true rfl, Nat.le_of_ble_eq_true rfl⟩) hS (fun E9 ce9 q9 H9 hx hk9 hS9 h1 h2 h3 => ec_out hnx hlocks (ecx (by unfold thSam; rw [hx.2]; rfl) hx.1 (.head _)) (hkp.tr hk9) hS9 h1 h2 h3 (Nat.le_of_ble_eq_true rfl) (Nat.le_of_ble_eq_true rfl)) (fun j hj => ?_)
  obtain ⟨hj, rfl⟩ := hj
  have hjc : cN (nI j) = j := nI_clamp (by have := hw.wf.n; omega)
  refine lv_astore_n (lv' := [(3, .ref (ad 5 j)), (0, .ref (ad 0 0)), (1, .int (nI j)), (2, .int i)]) hC.1 hC.2.1 dX5_sample_5 rfl hl (by decide) rfl (fun ls hl => ?_)
  refine lv_iload_n hC.1 hC.2.1 dX5_sample_6 rfl (lv_at hl 3 rfl) ?_
  refine lv_if_lt (tgt := 15) hC.1 hC.2.1 dX5_sample_7 (by decide) (fun c_7 => ?_) (fun c_7 => ?_)
  · exact ec_throwN hC hls xX5_109 hOk hAN hS hkp (is := 111) (text := "a sample has an index from 0 to 3") (by decide) hl.1 hnx hlocks dX5_sample_15 dX5_sample_18 dX5_sample_19 dX5_sample_21 dX5_sample_24 (ecx (by unfold thSam; rw [if_pos (ixB_of (by have := hn0; omega) hj), ixB_lo c_7]; rfl) rfl (.tail _ (.head _))) ⟨Nat.le_of_ble_eq_true rfl, Nat.le_of_ble_eq_true rfl, Nat.le_of_ble_eq_true rfl, Nat.le_of_ble_eq_true rfl⟩ (Nat.le_of_ble_eq_true rfl) (Nat.le_of_ble_eq_true rfl)
  · refine lv_iload_n hC.1 hC.2.1 dX5_sample_10 rfl (lv_at hl 3 rfl) ?_
    refine lv_iconst (v := 4) hC.1 hC.2.1 dX5_sample_11 (by decide) ?_
    refine lv_icmp_lt (tgt := 25) hC.1 hC.2.1 dX5_sample_12 (by decide) (fun c_12 => ?_) (fun c_12 => ?_)
    · obtain ⟨k, hk, rfl⟩ := ixB_j (n := 4) (by decide) c_7 c_12
      have hkc : cN (nI k) = k := nI_clamp (by omega)
      refine lv_aload_n hC.1 hC.2.1 dX5_sample_25 rfl (lv_at hl 0 rfl) ?_
      refine ec_get hC hK (hw.an hj).1 fX5_114 rfl dX5_sample_26 ?_
      refine lv_iload_n hC.1 hC.2.1 dX5_sample_29 rfl (lv_at hl 3 rfl) ?_
      refine ec_iald hC hK (hw.an hj).2.2 k rfl (by omega) (by omega) dX5_sample_30 ?_
      refine vx_ret ?_
      refine W.widen (k := 4) (n := 40) (Nat.le_of_ble_eq_true rfl) (Nat.le_of_ble_eq_true rfl) ?_
      exact W.iret hC.1 hC.2.1 hr (fun t9 ht9 _ => ⟨_, rfl, by rw [ht9]; exact ⟨(by rw [hjc, hkc]), (by unfold thSam; rw [if_pos (ixB_of (by have := hn0; omega) hj), if_pos (ixB_of (by decide) hk)]), tg, ad, rfl, hw⟩, hS.F ht9⟩) hS.2.2 dX5_sample_31
    · exact ec_throwN hC hls xX5_109 hOk hAN hS hkp (is := 111) (text := "a sample has an index from 0 to 3") (by decide) hl.1 hnx hlocks dX5_sample_15 dX5_sample_18 dX5_sample_19 dX5_sample_21 dX5_sample_24 (ecx (by unfold thSam; rw [if_pos (ixB_of (by have := hn0; omega) hj), ixB_hi (n := 4) (by exact Int32.not_lt.mp c_12)]; rfl) rfl (.tail _ (.head _))) ⟨Nat.le_of_ble_eq_true rfl, Nat.le_of_ble_eq_true rfl, Nat.le_of_ble_eq_true rfl, Nat.le_of_ble_eq_true rfl⟩ (Nat.le_of_ble_eq_true rfl) (Nat.le_of_ble_eq_true rfl)

set_option maxHeartbeats 4000000 in
set_option maxRecDepth 100000 in
/-- age -/
theorem c_X5_age (l : Launch) (hls : l.stackTraces = false) (G : ecG) (X : Nat → Prop) (M : ecM) (x : Nat) (a : Int32) : vx_Met l yX5_age (ecWs yX5_age cX5_age 2 (Option.some FieldType.int)) (ecRm 7 4 40) (ecPc [.ref x, .int a] G (fun H => ecXs G X H ∧ EC G X M x H)) (ecEp (fun v H1 => v = some (.int (ageM M (cN a))) ∧ thA M a = 0 ∧ EC G X (M) x H1) (X)) (ecXc (fun E => (E, thA M a) ∈ [(eIX, 1)])) 4 40 (X) := by
  refine ec_xmet (by decide) (Nat.le_of_ble_eq_true rfl) ?_
  intro p e s m below meth c hC hr hlocks hnx hOk hpre ls hl
  have hK := hOk.1
  obtain ⟨hXs, hEC⟩ := hpre
  have hS : va_S (X) s.heap s.heap [] := va_S.rf
  have hkp : ecKp s.heap s.heap := ecKp.rf
  have hAN : ∀ q, (X) q → ecN0 G ≤ q := hXs.1
  have hl : lv_has ls 2 [(0, .ref x), (1, .int a)] := hl
  obtain ⟨tg, ad, rfl, hw⟩ := hEC
  have hn0 := hw.wf.n
  refine lv_aload_n hC.1 hC.2.1 dX5_age_0 rfl (lv_at hl 0 rfl) ?_
  refine lv_iload_n hC.1 hC.2.1 dX5_age_1 rfl (lv_at hl 1 rfl) ?_
  refine ec_goXj (ec_xV hC (c_X5_answerAt l hls G X M tg ad a) kX5_105 (hOk.at hS hAN) hw (ec_rc hK hw.1.1 ⟨_, _, rfl⟩) hl.1 ⟨Nat.le_of_ble_eq_true rfl, Nat.le_of_ble_eq_true rfl⟩ rfl (Nat.le_of_ble_eq_true rfl) dX5_age_2 ⟨Nat.le_of_ble_eq_true rfl, Nat.le_of_ble_eq_true rfl⟩) hS (fun E9 ce9 q9 H9 hx hk9 hS9 h1 h2 h3 => ec_out hnx hlocks (ecx (by unfold thA; rw [hx.2]; rfl) hx.1 (.head _)) (hkp.tr hk9) hS9 h1 h2 h3 (Nat.le_of_ble_eq_true rfl) (Nat.le_of_ble_eq_true rfl)) (fun j hj => ?_)
  obtain ⟨hj, rfl⟩ := hj
  have hjc : cN (nI j) = j := nI_clamp (by have := hw.wf.n; omega)
  refine lv_aload_n hC.1 hC.2.1 dX5_age_5 rfl (lv_at hl 0 rfl) ?_
  refine ec_get hC hK hw.1.1 fX5_25 rfl dX5_age_6 ?_
  refine ec_go1 (ec_rV hC (c_X0_ageAt l G (ad 5 j) (ad 3 (M.1 1 j)) 0 _ _ _ _ _ (mhr M) (M.2.1 2 j) (M.2.1 0 (M.1 1 j)) (M.2.1 3 j)) kX5_118 (hOk.at hS hAN) ⟨(hw.an hj).1, (hw.ro (hw.wf.an hj).1).1⟩ (ec_rc hK (hw.an hj).1 ⟨_, _, rfl⟩) hl.1 ⟨Nat.le_of_ble_eq_true rfl, Nat.le_of_ble_eq_true rfl⟩ rfl (Nat.le_of_ble_eq_true rfl) dX5_age_9 ⟨Nat.le_of_ble_eq_true rfl, Nat.le_of_ble_eq_true rfl⟩) ?_
  refine vx_ret ?_
  refine W.widen (k := 4) (n := 40) (Nat.le_of_ble_eq_true rfl) (Nat.le_of_ble_eq_true rfl) ?_
  exact W.iret hC.1 hC.2.1 hr (fun t9 ht9 _ => ⟨_, rfl, by rw [ht9]; exact ⟨(by rw [hjc]; rfl), (by unfold thA; rw [if_pos (ixB_of (by have := hn0; omega) hj)]), tg, ad, rfl, hw⟩, hS.F ht9⟩) hS.2.2 dX5_age_12

set_option maxHeartbeats 4000000 in
set_option maxRecDepth 100000 in
/-- answerOf -/
theorem c_X5_answerOf (l : Launch) (hls : l.stackTraces = false) (G : ecG) (X : Nat → Prop) (M : ecM) (x : Nat) (f : Int32) : vx_Met l yX5_answerOf (ecWs yX5_answerOf cX5_answerOf 2 (Option.some FieldType.int)) (ecRm 7 4 40) (ecPc [.ref x, .int f] G (fun H => ecXs G X H ∧ EC G X M x H)) (ecEp (fun v H1 => v = some (.int (nI (M.1 3 (cN f)))) ∧ thF M f = 0 ∧ EC G X (M) x H1) (X)) (ecXc (fun E => (E, thF M f) ∈ [(eIX, 1)])) 4 40 (X) := by
  refine ec_xmet (by decide) (Nat.le_of_ble_eq_true rfl) ?_
  intro p e s m below meth c hC hr hlocks hnx hOk hpre ls hl
  have hK := hOk.1
  obtain ⟨hXs, hEC⟩ := hpre
  have hS : va_S (X) s.heap s.heap [] := va_S.rf
  have hkp : ecKp s.heap s.heap := ecKp.rf
  have hAN : ∀ q, (X) q → ecN0 G ≤ q := hXs.1
  have hl : lv_has ls 2 [(0, .ref x), (1, .int f)] := hl
  obtain ⟨tg, ad, rfl, hw⟩ := hEC
  have hn0 := hw.wf.n
  refine lv_aload_n hC.1 hC.2.1 dX5_answerOf_0 rfl (lv_at hl 0 rfl) ?_
  refine lv_iload_n hC.1 hC.2.1 dX5_answerOf_1 rfl (lv_at hl 1 rfl) ?_
  refine ec_goXj (ec_xV hC (c_X5_filterAt l hls G X M tg ad f) kX5_150 (hOk.at hS hAN) hw (ec_rc hK hw.1.1 ⟨_, _, rfl⟩) hl.1 ⟨Nat.le_of_ble_eq_true rfl, Nat.le_of_ble_eq_true rfl⟩ rfl (Nat.le_of_ble_eq_true rfl) dX5_answerOf_2 ⟨Nat.le_of_ble_eq_true rfl, Nat.le_of_ble_eq_true rfl⟩) hS (fun E9 ce9 q9 H9 hx hk9 hS9 h1 h2 h3 => ec_out hnx hlocks (ecx (by unfold thF; rw [hx.2]; rfl) hx.1 (.head _)) (hkp.tr hk9) hS9 h1 h2 h3 (Nat.le_of_ble_eq_true rfl) (Nat.le_of_ble_eq_true rfl)) (fun j hj => ?_)
  obtain ⟨hj, rfl⟩ := hj
  have hjc : cN (nI j) = j := nI_clamp (by have := hw.wf.n; omega)
  have ha3 := hw.wf.fi hj
  refine ec_get hC hK (hw.fi hj).1 fX5_154 rfl dX5_answerOf_5 ?_
  refine ec_get hC hK (hw.an ha3).1 fX5_128 rfl dX5_answerOf_8 ?_
  refine vx_ret ?_
  refine W.widen (k := 4) (n := 40) (Nat.le_of_ble_eq_true rfl) (Nat.le_of_ble_eq_true rfl) ?_
  exact W.iret hC.1 hC.2.1 hr (fun t9 ht9 _ => ⟨_, rfl, by rw [ht9]; exact ⟨(by rw [hjc]), (by unfold thF; rw [if_pos (ixB_of (by have := hn0; omega) hj)]), tg, ad, rfl, hw⟩, hS.F ht9⟩) hS.2.2 dX5_answerOf_11

set_option maxHeartbeats 4000000 in
set_option maxRecDepth 100000 in
/-- tap -/
theorem c_X5_tap (l : Launch) (hls : l.stackTraces = false) (G : ecG) (X : Nat → Prop) (M : ecM) (x : Nat) (f i : Int32) : vx_Met l yX5_tap (ecWs yX5_tap cX5_tap 4 (Option.some FieldType.long)) (ecRm 7 4 40) (ecPc [.ref x, .int f, .int i] G (fun H => ecXs G X H ∧ EC G X M x H)) (ecEp (fun v H1 => v = some (.long (M.2.2 (6 * cN f + cN i))) ∧ thTap M f i = 0 ∧ EC G X (M) x H1) (X)) (ecXc (fun E => (E, thTap M f i) ∈ [(eIX, 1), (eNS, 2)])) 4 40 (X) := by
  refine ec_xmet (by decide) (Nat.le_of_ble_eq_true rfl) ?_
  intro p e s m below meth c hC hr hlocks hnx hOk hpre ls hl
  have hK := hOk.1
  obtain ⟨hXs, hEC⟩ := hpre
  have hS : va_S (X) s.heap s.heap [] := va_S.rf
  have hkp : ecKp s.heap s.heap := ecKp.rf
  have hAN : ∀ q, (X) q → ecN0 G ≤ q := hXs.1
  have hl : lv_has ls 4 [(0, .ref x), (1, .int f), (2, .int i)] := hl
  obtain ⟨tg, ad, rfl, hw⟩ := hEC
  have hn0 := hw.wf.n
  refine lv_aload_n hC.1 hC.2.1 dX5_tap_0 rfl (lv_at hl 0 rfl) ?_
  refine lv_iload_n hC.1 hC.2.1 dX5_tap_1 rfl (lv_at hl 1 rfl) ?_
  refine ec_goXj (ec_xV hC (c_X5_filterAt l hls G X M tg ad f) kX5_150 (hOk.at hS hAN) hw (ec_rc hK hw.1.1 ⟨_, _, rfl⟩) hl.1 ⟨Nat.le_of_ble_eq_true rfl, Nat.le_of_ble_eq_true rfl⟩ rfl (Nat.le_of_ble_eq_true rfl) dX5_tap_2 ⟨Nat.le_of_ble_eq_true rfl, Nat.le_of_ble_eq_true rfl⟩) hS (fun E9 ce9 q9 H9 hx hk9 hS9 h1 h2 h3 => ec_out hnx hlocks (ecx (by unfold thTap; rw [hx.2]; rfl) hx.1 (.head _)) (hkp.tr hk9) hS9 h1 h2 h3 (Nat.le_of_ble_eq_true rfl) (Nat.le_of_ble_eq_true rfl)) (fun j hj => ?_)
  obtain ⟨hj, rfl⟩ := hj
  have hjc : cN (nI j) = j := nI_clamp (by have := hw.wf.n; omega)
  refine lv_astore_n (lv' := [(3, .ref (ad 8 j)), (0, .ref (ad 0 0)), (1, .int (nI j)), (2, .int i)]) hC.1 hC.2.1 dX5_tap_5 rfl hl (by decide) rfl (fun ls hl => ?_)
  refine lv_iload_n hC.1 hC.2.1 dX5_tap_6 rfl (lv_at hl 3 rfl) ?_
  refine lv_if_lt (tgt := 16) hC.1 hC.2.1 dX5_tap_7 (by decide) (fun c_7 => ?_) (fun c_7 => ?_)
  · exact ec_throwN hC hls xX5_109 hOk hAN hS hkp (is := 158) (text := "a tap has an index from 0 to 5") (by decide) hl.1 hnx hlocks dX5_tap_16 dX5_tap_19 dX5_tap_20 dX5_tap_22 dX5_tap_25 (ecx (by unfold thTap; rw [if_pos (ixB_of (by have := hn0; omega) hj), ixB_lo c_7]; rfl) rfl (.tail _ (.head _))) ⟨Nat.le_of_ble_eq_true rfl, Nat.le_of_ble_eq_true rfl, Nat.le_of_ble_eq_true rfl, Nat.le_of_ble_eq_true rfl⟩ (Nat.le_of_ble_eq_true rfl) (Nat.le_of_ble_eq_true rfl)
  · refine lv_iload_n hC.1 hC.2.1 dX5_tap_10 rfl (lv_at hl 3 rfl) ?_
    refine lv_bipush (v := 6) hC.1 hC.2.1 dX5_tap_11 (by decide) ?_
    refine lv_icmp_lt (tgt := 26) hC.1 hC.2.1 dX5_tap_13 (by decide) (fun c_13 => ?_) (fun c_13 => ?_)
    · obtain ⟨k, hk, rfl⟩ := ixB_j (n := 6) (by decide) c_7 c_13
      have hkc : cN (nI k) = k := nI_clamp (by omega)
      refine lv_aload_n hC.1 hC.2.1 dX5_tap_26 rfl (lv_at hl 0 rfl) ?_
      refine ec_get hC hK (hw.fi hj).1 fX5_160 rfl dX5_tap_27 ?_
      refine lv_iload_n hC.1 hC.2.1 dX5_tap_30 rfl (lv_at hl 3 rfl) ?_
      refine ec_lald hC hK (hw.fi hj).2.1 k rfl (by omega) (by omega) dX5_tap_31 ?_
      refine vx_ret ?_
      refine W.widen (k := 4) (n := 40) (Nat.le_of_ble_eq_true rfl) (Nat.le_of_ble_eq_true rfl) ?_
      exact W.lret hC.1 hC.2.1 hr (fun t9 ht9 _ => ⟨_, rfl, by rw [ht9]; exact ⟨(by rw [hjc, hkc]), (by unfold thTap; rw [if_pos (ixB_of (by have := hn0; omega) hj), if_pos (ixB_of (by decide) hk)]), tg, ad, rfl, hw⟩, hS.F ht9⟩) hS.2.2 dX5_tap_32
    · exact ec_throwN hC hls xX5_109 hOk hAN hS hkp (is := 158) (text := "a tap has an index from 0 to 5") (by decide) hl.1 hnx hlocks dX5_tap_16 dX5_tap_19 dX5_tap_20 dX5_tap_22 dX5_tap_25 (ecx (by unfold thTap; rw [if_pos (ixB_of (by have := hn0; omega) hj), ixB_hi (n := 6) (by exact Int32.not_lt.mp c_13)]; rfl) rfl (.tail _ (.head _))) ⟨Nat.le_of_ble_eq_true rfl, Nat.le_of_ble_eq_true rfl, Nat.le_of_ble_eq_true rfl, Nat.le_of_ble_eq_true rfl⟩ (Nat.le_of_ble_eq_true rfl) (Nat.le_of_ble_eq_true rfl)

set_option maxHeartbeats 4000000 in
set_option maxRecDepth 100000 in
/-- bar -/
theorem c_X5_bar (l : Launch) (hls : l.stackTraces = false) (G : ecG) (X : Nat → Prop) (M : ecM) (x : Nat) (f : Int32) : vx_Met l yX5_bar (ecWs yX5_bar cX5_bar 2 (Option.some FieldType.char)) (ecRm 7 4 40) (ecPc [.ref x, .int f] G (fun H => ecXs G X H ∧ EC G X M x H)) (ecEp (fun v H1 => v = some (.int (barM M (cN f))) ∧ thF M f = 0 ∧ EC G X (M) x H1) (X)) (ecXc (fun E => (E, thF M f) ∈ [(eIX, 1)])) 4 40 (X) := by
  refine ec_xmet (by decide) (Nat.le_of_ble_eq_true rfl) ?_
  intro p e s m below meth c hC hr hlocks hnx hOk hpre ls hl
  have hK := hOk.1
  obtain ⟨hXs, hEC⟩ := hpre
  have hS : va_S (X) s.heap s.heap [] := va_S.rf
  have hkp : ecKp s.heap s.heap := ecKp.rf
  have hAN : ∀ q, (X) q → ecN0 G ≤ q := hXs.1
  have hl : lv_has ls 2 [(0, .ref x), (1, .int f)] := hl
  obtain ⟨tg, ad, rfl, hw⟩ := hEC
  have hn0 := hw.wf.n
  refine lv_aload_n hC.1 hC.2.1 dX5_bar_0 rfl (lv_at hl 0 rfl) ?_
  refine lv_aload_n hC.1 hC.2.1 dX5_bar_1 rfl (lv_at hl 0 rfl) ?_
  refine lv_iload_n hC.1 hC.2.1 dX5_bar_2 rfl (lv_at hl 1 rfl) ?_
  refine ec_goXj (ec_xV hC (c_X5_filterAt l hls G X M tg ad f) kX5_150 (hOk.at hS hAN) hw (ec_rc hK hw.1.1 ⟨_, _, rfl⟩) hl.1 ⟨Nat.le_of_ble_eq_true rfl, Nat.le_of_ble_eq_true rfl⟩ rfl (Nat.le_of_ble_eq_true rfl) dX5_bar_3 ⟨Nat.le_of_ble_eq_true rfl, Nat.le_of_ble_eq_true rfl⟩) hS (fun E9 ce9 q9 H9 hx hk9 hS9 h1 h2 h3 => ec_out hnx hlocks (ecx (by unfold thF; rw [hx.2]; rfl) hx.1 (.head _)) (hkp.tr hk9) hS9 h1 h2 h3 (Nat.le_of_ble_eq_true rfl) (Nat.le_of_ble_eq_true rfl)) (fun j hj => ?_)
  obtain ⟨hj, rfl⟩ := hj
  have hjc : cN (nI j) = j := nI_clamp (by have := hw.wf.n; omega)
  refine ec_go1 (ec_rV hC (c_X5_firstBar l G X M tg ad j hj) kX5_164 (hOk.at hS hAN) hw (ec_rc hK hw.1.1 ⟨_, _, rfl⟩) hl.1 ⟨Nat.le_of_ble_eq_true rfl, Nat.le_of_ble_eq_true rfl⟩ rfl (Nat.le_of_ble_eq_true rfl) dX5_bar_6 ⟨Nat.le_of_ble_eq_true rfl, Nat.le_of_ble_eq_true rfl⟩) ?_
  refine vx_ret ?_
  refine W.widen (k := 4) (n := 40) (Nat.le_of_ble_eq_true rfl) (Nat.le_of_ble_eq_true rfl) ?_
  exact W.zret hC.1 hC.2.1 hr (barM_nar _ _) (fun t9 ht9 _ => ⟨_, rfl, by rw [ht9]; exact ⟨(by rw [hjc]), (by unfold thF; rw [if_pos (ixB_of (by have := hn0; omega) hj)]), tg, ad, rfl, hw⟩, hS.F ht9⟩) hS.2.2 dX5_bar_9

set_option maxHeartbeats 4000000 in
set_option maxRecDepth 100000 in
/-- inputs -/
theorem c_X5_inputs (l : Launch) (hls : l.stackTraces = false) (G : ecG) (X : Nat → Prop) (M : ecM) (x : Nat) (f : Int32) : vx_Met l yX5_inputs (ecWs yX5_inputs cX5_inputs 2 (Option.some FieldType.int)) (ecRm 7 4 40) (ecPc [.ref x, .int f] G (fun H => ecXs G X H ∧ EC G X M x H)) (ecEp (fun v H1 => v = some (.int (M.2.1 6 (cN f))) ∧ thF M f = 0 ∧ EC G X (M) x H1) (X)) (ecXc (fun E => (E, thF M f) ∈ [(eIX, 1)])) 4 40 (X) := by
  refine ec_xmet (by decide) (Nat.le_of_ble_eq_true rfl) ?_
  intro p e s m below meth c hC hr hlocks hnx hOk hpre ls hl
  have hK := hOk.1
  obtain ⟨hXs, hEC⟩ := hpre
  have hS : va_S (X) s.heap s.heap [] := va_S.rf
  have hkp : ecKp s.heap s.heap := ecKp.rf
  have hAN : ∀ q, (X) q → ecN0 G ≤ q := hXs.1
  have hl : lv_has ls 2 [(0, .ref x), (1, .int f)] := hl
  obtain ⟨tg, ad, rfl, hw⟩ := hEC
  have hn0 := hw.wf.n
  refine lv_aload_n hC.1 hC.2.1 dX5_inputs_0 rfl (lv_at hl 0 rfl) ?_
  refine lv_iload_n hC.1 hC.2.1 dX5_inputs_1 rfl (lv_at hl 1 rfl) ?_
  refine ec_goXj (ec_xV hC (c_X5_filterAt l hls G X M tg ad f) kX5_150 (hOk.at hS hAN) hw (ec_rc hK hw.1.1 ⟨_, _, rfl⟩) hl.1 ⟨Nat.le_of_ble_eq_true rfl, Nat.le_of_ble_eq_true rfl⟩ rfl (Nat.le_of_ble_eq_true rfl) dX5_inputs_2 ⟨Nat.le_of_ble_eq_true rfl, Nat.le_of_ble_eq_true rfl⟩) hS (fun E9 ce9 q9 H9 hx hk9 hS9 h1 h2 h3 => ec_out hnx hlocks (ecx (by unfold thF; rw [hx.2]; rfl) hx.1 (.head _)) (hkp.tr hk9) hS9 h1 h2 h3 (Nat.le_of_ble_eq_true rfl) (Nat.le_of_ble_eq_true rfl)) (fun j hj => ?_)
  obtain ⟨hj, rfl⟩ := hj
  have hjc : cN (nI j) = j := nI_clamp (by have := hw.wf.n; omega)
  refine ec_get hC hK (hw.fi hj).1 fX5_182 rfl dX5_inputs_5 ?_
  refine vx_ret ?_
  refine W.widen (k := 4) (n := 40) (Nat.le_of_ble_eq_true rfl) (Nat.le_of_ble_eq_true rfl) ?_
  exact W.iret hC.1 hC.2.1 hr (fun t9 ht9 _ => ⟨_, rfl, by rw [ht9]; exact ⟨(by rw [hjc]), (by unfold thF; rw [if_pos (ixB_of (by have := hn0; omega) hj)]), tg, ad, rfl, hw⟩, hS.F ht9⟩) hS.2.2 dX5_inputs_8

set_option maxHeartbeats 4000000 in
set_option maxRecDepth 100000 in
/-- product -/
theorem c_X5_product (l : Launch) (hls : l.stackTraces = false) (G : ecG) (X : Nat → Prop) (M : ecM) (x : Nat) (f a i : Int32) : vx_Met l yX5_product (ecWs yX5_product cX5_product 6 (Option.some FieldType.long)) (ecRm 7 4 40) (ecPc [.ref x, .int f, .int a, .int i] G (fun H => ecXs G X H ∧ EC G X M x H)) (ecEp (fun v H1 => v = some (.long (prd (smA M (cN a)) (tpA M (cN f)) (cN i))) ∧ thPro M f a i = 0 ∧ EC G X (M) x H1) (X)) (ecXc (fun E => (E, thPro M f a i) ∈ [(eIX, 1), (eNS, 2)])) 4 40 (X) := by
  refine ec_xmet (by decide) (Nat.le_of_ble_eq_true rfl) ?_
  intro p e s m below meth c hC hr hlocks hnx hOk hpre ls hl
  have hK := hOk.1
  obtain ⟨hXs, hEC⟩ := hpre
  have hS : va_S (X) s.heap s.heap [] := va_S.rf
  have hkp : ecKp s.heap s.heap := ecKp.rf
  have hAN : ∀ q, (X) q → ecN0 G ≤ q := hXs.1
  have hl : lv_has ls 6 [(0, .ref x), (1, .int f), (2, .int a), (3, .int i)] := hl
  obtain ⟨tg, ad, rfl, hw⟩ := hEC
  have hn0 := hw.wf.n
  refine lv_aload_n hC.1 hC.2.1 dX5_product_0 rfl (lv_at hl 0 rfl) ?_
  refine lv_iload_n hC.1 hC.2.1 dX5_product_1 rfl (lv_at hl 1 rfl) ?_
  refine ec_goXj (ec_xV hC (c_X5_filterAt l hls G X M tg ad f) kX5_150 (hOk.at hS hAN) hw (ec_rc hK hw.1.1 ⟨_, _, rfl⟩) hl.1 ⟨Nat.le_of_ble_eq_true rfl, Nat.le_of_ble_eq_true rfl⟩ rfl (Nat.le_of_ble_eq_true rfl) dX5_product_2 ⟨Nat.le_of_ble_eq_true rfl, Nat.le_of_ble_eq_true rfl⟩) hS (fun E9 ce9 q9 H9 hx hk9 hS9 h1 h2 h3 => ec_out hnx hlocks (ecx (by unfold thPro; rw [hx.2, Bool.false_and]; rfl) hx.1 (.head _)) (hkp.tr hk9) hS9 h1 h2 h3 (Nat.le_of_ble_eq_true rfl) (Nat.le_of_ble_eq_true rfl)) (fun j hj => ?_)
  obtain ⟨hj, rfl⟩ := hj
  have hjc : cN (nI j) = j := nI_clamp (by have := hw.wf.n; omega)
  refine lv_astore (lv' := [(4, .ref (ad 8 j)), (0, .ref (ad 0 0)), (1, .int (nI j)), (2, .int a), (3, .int i)]) hC.1 hC.2.1 dX5_product_5 hl (by decide) rfl (fun ls hl => ?_)
  refine lv_aload_n hC.1 hC.2.1 dX5_product_7 rfl (lv_at hl 1 rfl) ?_
  refine lv_iload_n hC.1 hC.2.1 dX5_product_8 rfl (lv_at hl 3 rfl) ?_
  refine ec_goXj (ec_xV hC (c_X5_answerAt l hls G X M tg ad a) kX5_105 (hOk.at hS hAN) hw (ec_rc hK hw.1.1 ⟨_, _, rfl⟩) hl.1 ⟨Nat.le_of_ble_eq_true rfl, Nat.le_of_ble_eq_true rfl⟩ rfl (Nat.le_of_ble_eq_true rfl) dX5_product_9 ⟨Nat.le_of_ble_eq_true rfl, Nat.le_of_ble_eq_true rfl⟩) hS (fun E9 ce9 q9 H9 hx hk9 hS9 h1 h2 h3 => ec_out hnx hlocks (ecx (by unfold thPro; rw [hx.2, Bool.and_false]; rfl) hx.1 (.head _)) (hkp.tr hk9) hS9 h1 h2 h3 (Nat.le_of_ble_eq_true rfl) (Nat.le_of_ble_eq_true rfl)) (fun u hu => ?_)
  obtain ⟨hu, rfl⟩ := hu
  have huc : cN (nI u) = u := nI_clamp (by have := hw.wf.n; omega)
  refine lv_astore (lv' := [(5, .ref (ad 5 u)), (4, .ref (ad 8 j)), (0, .ref (ad 0 0)), (1, .int (nI j)), (2, .int (nI u)), (3, .int i)]) hC.1 hC.2.1 dX5_product_12 hl (by decide) rfl (fun ls hl => ?_)
  refine lv_iload_n hC.1 hC.2.1 dX5_product_14 rfl (lv_at hl 5 rfl) ?_
  refine lv_if_lt (tgt := 24) hC.1 hC.2.1 dX5_product_15 (by decide) (fun c_15 => ?_) (fun c_15 => ?_)
  · exact ec_throwN hC hls xX5_109 hOk hAN hS hkp (is := 185) (text := "a sample of a product row has an index from 0 to 5") (by decide) hl.1 hnx hlocks dX5_product_24 dX5_product_27 dX5_product_28 dX5_product_30 dX5_product_33 (ecx (by unfold thPro; rw [if_pos (Bool.and_eq_true_iff.mpr ⟨ixB_of (by have := hn0; omega) hj, ixB_of (by have := hn0; omega) hu⟩), ixB_lo c_15]; rfl) rfl (.tail _ (.head _))) ⟨Nat.le_of_ble_eq_true rfl, Nat.le_of_ble_eq_true rfl, Nat.le_of_ble_eq_true rfl, Nat.le_of_ble_eq_true rfl⟩ (Nat.le_of_ble_eq_true rfl) (Nat.le_of_ble_eq_true rfl)
  · refine lv_iload_n hC.1 hC.2.1 dX5_product_18 rfl (lv_at hl 5 rfl) ?_
    refine lv_bipush (v := 6) hC.1 hC.2.1 dX5_product_19 (by decide) ?_
    refine lv_icmp_lt (tgt := 34) hC.1 hC.2.1 dX5_product_21 (by decide) (fun c_21 => ?_) (fun c_21 => ?_)
    · obtain ⟨k, hk, rfl⟩ := ixB_j (n := 6) (by decide) c_15 c_21
      have hkc : cN (nI k) = k := nI_clamp (by omega)
      refine lv_aload hC.1 hC.2.1 dX5_product_34 (lv_at hl 1 rfl) ?_
      refine lv_aload hC.1 hC.2.1 dX5_product_36 (lv_at hl 0 rfl) ?_
      refine lv_iload_n hC.1 hC.2.1 dX5_product_38 rfl (lv_at hl 5 rfl) ?_
      refine ec_go1 (ec_rV hC (c_X2_rowSample l G (ad 8 j) (ad 5 u) (ad 9 j) (ad 7 u) k _ _ _ _ _ _ _ _ _ (tpA M j) (smA M u) hk) kX5_187 (hOk.at hS hAN) ⟨(hw.fi hj).1, (hw.an hu).1, (hw.fi hj).2.1, (hw.an hu).2.2⟩ (ec_rc hK (hw.fi hj).1 ⟨_, _, rfl⟩) hl.1 ⟨Nat.le_of_ble_eq_true rfl, Nat.le_of_ble_eq_true rfl⟩ rfl (Nat.le_of_ble_eq_true rfl) dX5_product_39 ⟨Nat.le_of_ble_eq_true rfl, Nat.le_of_ble_eq_true rfl⟩) ?_
      refine vx_ret ?_
      refine W.widen (k := 4) (n := 40) (Nat.le_of_ble_eq_true rfl) (Nat.le_of_ble_eq_true rfl) ?_
      exact W.lret hC.1 hC.2.1 hr (fun t9 ht9 _ => ⟨_, rfl, by rw [ht9]; exact ⟨(by rw [hjc, huc, hkc]), (by unfold thPro; rw [if_pos (Bool.and_eq_true_iff.mpr ⟨ixB_of (by have := hn0; omega) hj, ixB_of (by have := hn0; omega) hu⟩), if_pos (ixB_of (by decide) hk)]), tg, ad, rfl, hw⟩, hS.F ht9⟩) hS.2.2 dX5_product_42
    · exact ec_throwN hC hls xX5_109 hOk hAN hS hkp (is := 185) (text := "a sample of a product row has an index from 0 to 5") (by decide) hl.1 hnx hlocks dX5_product_24 dX5_product_27 dX5_product_28 dX5_product_30 dX5_product_33 (ecx (by unfold thPro; rw [if_pos (Bool.and_eq_true_iff.mpr ⟨ixB_of (by have := hn0; omega) hj, ixB_of (by have := hn0; omega) hu⟩), ixB_hi (n := 6) (by exact Int32.not_lt.mp c_21)]; rfl) rfl (.tail _ (.head _))) ⟨Nat.le_of_ble_eq_true rfl, Nat.le_of_ble_eq_true rfl, Nat.le_of_ble_eq_true rfl, Nat.le_of_ble_eq_true rfl⟩ (Nat.le_of_ble_eq_true rfl) (Nat.le_of_ble_eq_true rfl)

set_option maxHeartbeats 4000000 in
set_option maxRecDepth 100000 in
/-- rightSamples -/
theorem c_X5_rightSamples (l : Launch) (hls : l.stackTraces = false) (G : ecG) (X : Nat → Prop) (M : ecM) (x : Nat) (f a : Int32) : vx_Met l yX5_rightSamples (ecWs yX5_rightSamples cX5_rightSamples 4 (Option.some FieldType.int)) (ecRm 7 4 40) (ecPc [.ref x, .int f, .int a] G (fun H => ecXs G X H ∧ EC G X M x H)) (ecEp (fun v H1 => v = some (.int (nI (rgt (smA M (cN a)) (tpA M (cN f))))) ∧ thPr M f a = 0 ∧ EC G X (M) x H1) (X)) (ecXc (fun E => (E, thPr M f a) ∈ [(eIX, 1)])) 4 40 (X) := by
  refine ec_xmet (by decide) (Nat.le_of_ble_eq_true rfl) ?_
  intro p e s m below meth c hC hr hlocks hnx hOk hpre ls hl
  have hK := hOk.1
  obtain ⟨hXs, hEC⟩ := hpre
  have hS : va_S (X) s.heap s.heap [] := va_S.rf
  have hkp : ecKp s.heap s.heap := ecKp.rf
  have hAN : ∀ q, (X) q → ecN0 G ≤ q := hXs.1
  have hl : lv_has ls 4 [(0, .ref x), (1, .int f), (2, .int a)] := hl
  obtain ⟨tg, ad, rfl, hw⟩ := hEC
  have hn0 := hw.wf.n
  refine lv_aload_n hC.1 hC.2.1 dX5_rightSamples_0 rfl (lv_at hl 0 rfl) ?_
  refine lv_iload_n hC.1 hC.2.1 dX5_rightSamples_1 rfl (lv_at hl 1 rfl) ?_
  refine ec_goXj (ec_xV hC (c_X5_filterAt l hls G X M tg ad f) kX5_150 (hOk.at hS hAN) hw (ec_rc hK hw.1.1 ⟨_, _, rfl⟩) hl.1 ⟨Nat.le_of_ble_eq_true rfl, Nat.le_of_ble_eq_true rfl⟩ rfl (Nat.le_of_ble_eq_true rfl) dX5_rightSamples_2 ⟨Nat.le_of_ble_eq_true rfl, Nat.le_of_ble_eq_true rfl⟩) hS (fun E9 ce9 q9 H9 hx hk9 hS9 h1 h2 h3 => ec_out hnx hlocks (ecx (by unfold thPr; rw [hx.2, Bool.false_and]; rfl) hx.1 (.head _)) (hkp.tr hk9) hS9 h1 h2 h3 (Nat.le_of_ble_eq_true rfl) (Nat.le_of_ble_eq_true rfl)) (fun j hj => ?_)
  obtain ⟨hj, rfl⟩ := hj
  have hjc : cN (nI j) = j := nI_clamp (by have := hw.wf.n; omega)
  refine lv_astore_n (lv' := [(3, .ref (ad 8 j)), (0, .ref (ad 0 0)), (1, .int (nI j)), (2, .int a)]) hC.1 hC.2.1 dX5_rightSamples_5 rfl hl (by decide) rfl (fun ls hl => ?_)
  refine lv_aload_n hC.1 hC.2.1 dX5_rightSamples_6 rfl (lv_at hl 0 rfl) ?_
  refine lv_aload_n hC.1 hC.2.1 dX5_rightSamples_7 rfl (lv_at hl 1 rfl) ?_
  refine lv_iload_n hC.1 hC.2.1 dX5_rightSamples_8 rfl (lv_at hl 3 rfl) ?_
  refine ec_goXj (ec_xV hC (c_X5_answerAt l hls G X M tg ad a) kX5_105 (hOk.at hS hAN) hw (ec_rc hK hw.1.1 ⟨_, _, rfl⟩) hl.1 ⟨Nat.le_of_ble_eq_true rfl, Nat.le_of_ble_eq_true rfl⟩ rfl (Nat.le_of_ble_eq_true rfl) dX5_rightSamples_9 ⟨Nat.le_of_ble_eq_true rfl, Nat.le_of_ble_eq_true rfl⟩) hS (fun E9 ce9 q9 H9 hx hk9 hS9 h1 h2 h3 => ec_out hnx hlocks (ecx (by unfold thPr; rw [hx.2, Bool.and_false]; rfl) hx.1 (.head _)) (hkp.tr hk9) hS9 h1 h2 h3 (Nat.le_of_ble_eq_true rfl) (Nat.le_of_ble_eq_true rfl)) (fun u hu => ?_)
  obtain ⟨hu, rfl⟩ := hu
  have huc : cN (nI u) = u := nI_clamp (by have := hw.wf.n; omega)
  refine ec_go1 (ec_rV hC (c_X2_rightSamplesWith l G (ad 8 j) (ad 5 u) (ad 9 j) (ad 7 u) _ _ _ _ _ _ _ _ _ (tpA M j) (smA M u)) kX5_191 (hOk.at hS hAN) ⟨(hw.fi hj).1, (hw.an hu).1, (hw.fi hj).2.1, (hw.an hu).2.2⟩ (ec_rc hK (hw.fi hj).1 ⟨_, _, rfl⟩) hl.1 ⟨Nat.le_of_ble_eq_true rfl, Nat.le_of_ble_eq_true rfl⟩ rfl (Nat.le_of_ble_eq_true rfl) dX5_rightSamples_12 ⟨Nat.le_of_ble_eq_true rfl, Nat.le_of_ble_eq_true rfl⟩) ?_
  refine vx_ret ?_
  refine W.widen (k := 4) (n := 40) (Nat.le_of_ble_eq_true rfl) (Nat.le_of_ble_eq_true rfl) ?_
  exact W.iret hC.1 hC.2.1 hr (fun t9 ht9 _ => ⟨_, rfl, by rw [ht9]; exact ⟨(by rw [hjc, huc]), (by unfold thPr; rw [if_pos (Bool.and_eq_true_iff.mpr ⟨ixB_of (by have := hn0; omega) hj, ixB_of (by have := hn0; omega) hu⟩)]), tg, ad, rfl, hw⟩, hS.F ht9⟩) hS.2.2 dX5_rightSamples_15

theorem rgtN_le (s : Nat → Int32) (t : Nat → Int64) : ∀ d n, rgtN s t n d ≤ d
  | 0, _ => Nat.le_refl 0
  | d + 1, n => by
    have := rgtN_le s t d (n + 1)
    show (if prd s t n = (if n = 0 then 1 else 0) then 1 + rgtN s t (n + 1) d else 0) ≤ d + 1
    by_cases h : prd s t n = (if n = 0 then 1 else 0)
    · rw [if_pos h]; omega
    · rw [if_neg h]; omega
theorem rgt_6 (s : Nat → Int32) (t : Nat → Int64) : nI (rgt s t) = 6 ↔ rgt s t = 6 := nI_eq (b := 6) (Nat.lt_of_le_of_lt (rgtN_le s t 6 0) (by decide)) (by decide)

set_option maxHeartbeats 4000000 in
set_option maxRecDepth 100000 in
/-- isChecked -/
theorem c_X5_isChecked (l : Launch) (hls : l.stackTraces = false) (G : ecG) (X : Nat → Prop) (M : ecM) (x : Nat) (f : Int32) : vx_Met l yX5_isChecked (ecWs yX5_isChecked cX5_isChecked 3 (Option.some FieldType.boolean)) (ecRm 7 4 40) (ecPc [.ref x, .int f] G (fun H => ecXs G X H ∧ EC G X M x H)) (ecEp (fun v H1 => v = some (.int (bI (decide (rgt (smA M (M.1 3 (cN f))) (tpA M (cN f)) = 6)))) ∧ thF M f = 0 ∧ EC G X (M) x H1) (X)) (ecXc (fun E => (E, thF M f) ∈ [(eIX, 1)])) 4 40 (X) := by
  refine ec_xmet (by decide) (Nat.le_of_ble_eq_true rfl) ?_
  intro p e s m below meth c hC hr hlocks hnx hOk hpre ls hl
  have hK := hOk.1
  obtain ⟨hXs, hEC⟩ := hpre
  have hS : va_S (X) s.heap s.heap [] := va_S.rf
  have hkp : ecKp s.heap s.heap := ecKp.rf
  have hAN : ∀ q, (X) q → ecN0 G ≤ q := hXs.1
  have hl : lv_has ls 3 [(0, .ref x), (1, .int f)] := hl
  obtain ⟨tg, ad, rfl, hw⟩ := hEC
  have hn0 := hw.wf.n
  refine lv_aload_n hC.1 hC.2.1 dX5_isChecked_0 rfl (lv_at hl 0 rfl) ?_
  refine lv_iload_n hC.1 hC.2.1 dX5_isChecked_1 rfl (lv_at hl 1 rfl) ?_
  refine ec_goXj (ec_xV hC (c_X5_filterAt l hls G X M tg ad f) kX5_150 (hOk.at hS hAN) hw (ec_rc hK hw.1.1 ⟨_, _, rfl⟩) hl.1 ⟨Nat.le_of_ble_eq_true rfl, Nat.le_of_ble_eq_true rfl⟩ rfl (Nat.le_of_ble_eq_true rfl) dX5_isChecked_2 ⟨Nat.le_of_ble_eq_true rfl, Nat.le_of_ble_eq_true rfl⟩) hS (fun E9 ce9 q9 H9 hx hk9 hS9 h1 h2 h3 => ec_out hnx hlocks (ecx (by unfold thF; rw [hx.2]; rfl) hx.1 (.head _)) (hkp.tr hk9) hS9 h1 h2 h3 (Nat.le_of_ble_eq_true rfl) (Nat.le_of_ble_eq_true rfl)) (fun j hj => ?_)
  obtain ⟨hj, rfl⟩ := hj
  have hjc : cN (nI j) = j := nI_clamp (by have := hw.wf.n; omega)
  refine lv_astore_n (lv' := [(2, .ref (ad 8 j)), (0, .ref (ad 0 0)), (1, .int (nI j))]) hC.1 hC.2.1 dX5_isChecked_5 rfl hl (by decide) rfl (fun ls hl => ?_)
  refine lv_aload_n hC.1 hC.2.1 dX5_isChecked_6 rfl (lv_at hl 0 rfl) ?_
  refine lv_aload_n hC.1 hC.2.1 dX5_isChecked_7 rfl (lv_at hl 0 rfl) ?_
  refine ec_get hC hK (hw.fi hj).1 fX5_154 rfl dX5_isChecked_8 ?_
  have ha3 := hw.wf.fi hj
  refine ec_go1 (ec_rV hC (c_X2_rightSamplesWith l G (ad 8 j) (ad 5 (M.1 3 j)) (ad 9 j) (ad 7 (M.1 3 j)) _ _ _ _ _ _ _ _ _ (tpA M j) (smA M (M.1 3 j))) kX5_191 (hOk.at hS hAN) ⟨(hw.fi hj).1, (hw.an ha3).1, (hw.fi hj).2.1, (hw.an ha3).2.2⟩ (ec_rc hK (hw.fi hj).1 ⟨_, _, rfl⟩) hl.1 ⟨Nat.le_of_ble_eq_true rfl, Nat.le_of_ble_eq_true rfl⟩ rfl (Nat.le_of_ble_eq_true rfl) dX5_isChecked_11 ⟨Nat.le_of_ble_eq_true rfl, Nat.le_of_ble_eq_true rfl⟩) ?_
  refine lv_bipush (v := 6) hC.1 hC.2.1 dX5_isChecked_14 (by decide) ?_
  refine lv_icmp_ne (tgt := 23) hC.1 hC.2.1 dX5_isChecked_16 (by decide) (fun c_16 => ?_) (fun c_16 => ?_)
  · refine lv_iconst (v := 0) hC.1 hC.2.1 dX5_isChecked_23 (by decide) ?_
    refine vx_ret ?_
    refine W.widen (k := 4) (n := 40) (Nat.le_of_ble_eq_true rfl) (Nat.le_of_ble_eq_true rfl) ?_
    exact W.zret hC.1 hC.2.1 hr rfl (fun t9 ht9 _ => ⟨_, rfl, by rw [ht9]; exact ⟨(by rw [hjc, decide_eq_false (fun z => c_16 ((rgt_6 _ _).mpr z))]; rfl), (by unfold thF; rw [if_pos (ixB_of (by have := hn0; omega) hj)]), tg, ad, rfl, hw⟩, hS.F ht9⟩) hS.2.2 dX5_isChecked_24
  · refine lv_iconst (v := 1) hC.1 hC.2.1 dX5_isChecked_19 (by decide) ?_
    refine lv_goto (tgt := 24) hC.1 hC.2.1 dX5_isChecked_20 (by decide) ?_
    refine vx_ret ?_
    refine W.widen (k := 4) (n := 40) (Nat.le_of_ble_eq_true rfl) (Nat.le_of_ble_eq_true rfl) ?_
    exact W.zret hC.1 hC.2.1 hr rfl (fun t9 ht9 _ => ⟨_, rfl, by rw [ht9]; exact ⟨(by rw [hjc, decide_eq_true ((rgt_6 _ _).mp c_16)]; rfl), (by unfold thF; rw [if_pos (ixB_of (by have := hn0; omega) hj)]), tg, ad, rfl, hw⟩, hS.F ht9⟩) hS.2.2 dX5_isChecked_24
