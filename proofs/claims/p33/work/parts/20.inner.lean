theorem ixB_hi2 {x : Int32} {n : Nat} (h : ¬ x < nI n) : ixB x n = false := ixB_hi (Int32.not_lt.mp h)
theorem ixB_j {x : Int32} {n : Nat} (hn : n < 2 ^ 31) (h1 : ¬ x < 0) (h2 : x < nI n) : ∃ j : Nat, j < n ∧ x = nI j := ixB_t hn (ixB_ok h1 (Int32.not_le.mpr h2))
theorem ecO.wf {G : ecG} {X : Nat → Prop} {M : ecM} {tg : Nat → Nat} {ad : Nat → Nat → Nat} {H : Heap} (h : ecO G X M tg ad H) : WF M := h.2.2.2.2.2.2
theorem WF.n {M : ecM} (h : WF M) : mnR M ≤ 4 ∧ mnA M ≤ 40 ∧ mnF M ≤ 20 ∧ mnB M ≤ 16 := ⟨h.1, h.2.1, h.2.2.1, h.2.2.2.1⟩
theorem WF.n7 {M : ecM} (h : WF M) : M.1 7 0 ≤ 4 ∧ M.1 7 1 ≤ 40 ∧ M.1 7 2 ≤ 20 ∧ M.1 7 3 ≤ 16 := h.n
theorem WF.rs {M : ecM} (h : WF M) (i : Nat) : M.1 0 i < 80 := h.2.2.2.2.1 i
theorem WF.an {M : ecM} (h : WF M) {i : Nat} (hi : i < mnA M) : M.1 1 i < mnR M ∧ M.1 2 i < 80 := h.2.2.2.2.2.2.1 i hi
theorem WF.fi {M : ecM} (h : WF M) {i : Nat} (hi : i < mnF M) : M.1 3 i < mnA M := h.2.2.2.2.2.2.2.1 i hi
theorem WF.bk {M : ecM} (h : WF M) {i : Nat} (hi : i < mnB M) : M.1 4 i < mnR M ∧ M.1 5 i < 80 ∧ 0 < (M.2.1 8 i).toInt := h.2.2.2.2.2.2.2.2.1 i hi
theorem WF.gn {M : ecM} (h : WF M) (i : Nat) : M.1 6 i ≤ 1 := h.2.2.2.2.2.2.2.2.2.1 i
theorem ecO.ro {G : ecG} {X : Nat → Prop} {M : ecM} {tg : Nat → Nat} {ad : Nat → Nat → Nat} {H : Heap} (h : ecO G X M tg ad H) {i : Nat} (hi : i < mnR M) : ecA G (ad 3 i) (eO 3 [.ref (ad 4 i), .int (M.2.1 0 i)]) H ∧ ecA G (ad 4 i) (eO 4 (stL (M.1 0 i))) H := ⟨(h.2.2.1 i hi).1.1, (h.2.2.1 i hi).2.1⟩
theorem ecO.an {G : ecG} {X : Nat → Prop} {M : ecM} {tg : Nat → Nat} {ad : Nat → Nat → Nat} {H : Heap} (h : ecO G X M tg ad H) {i : Nat} (hi : i < mnA M) : ecA G (ad 5 i) (eO 0 [.int (nI i), .ref (ad 3 (M.1 1 i)), .ref (ad 6 i), .int (M.2.1 1 i), .ref (ad 7 i), .int (M.2.1 2 i), .int (M.2.1 3 i)]) H ∧ ecA G (ad 6 i) (eO 4 (stL (M.1 2 i))) H ∧ ecA G (ad 7 i) (eI G 4 (smA M i)) H := ⟨(h.2.2.2.1 i hi).1.1, (h.2.2.2.1 i hi).2.1.1, (h.2.2.2.1 i hi).2.2.1⟩
theorem ecO.fi {G : ecG} {X : Nat → Prop} {M : ecM} {tg : Nat → Nat} {ad : Nat → Nat → Nat} {H : Heap} (h : ecO G X M tg ad H) {i : Nat} (hi : i < mnF M) : ecA G (ad 8 i) (eO 2 [.ref (ad 5 (M.1 3 i)), .ref (ad 9 i), .ref (ad 10 i), .int (M.2.1 6 i)]) H ∧ ecA G (ad 9 i) (eJ G 6 (tpA M i)) H ∧ ecA G (ad 10 i) (eI G 6 (psA M i)) H := ⟨(h.2.2.2.2.1 i hi).1.1, (h.2.2.2.2.1 i hi).2.1.1, (h.2.2.2.2.1 i hi).2.2.1⟩
theorem ecO.bk {G : ecG} {X : Nat → Prop} {M : ecM} {tg : Nat → Nat} {ad : Nat → Nat → Nat} {H : Heap} (h : ecO G X M tg ad H) {i : Nat} (hi : i < mnB M) : ecA G (ad 11 i) (eO 1 [.int (nI i), .ref (ad 3 (M.1 4 i)), .ref (ad 12 i), .int (M.2.1 7 i), .int (M.2.1 8 i), .int (nI (M.1 6 i))]) H ∧ ecA G (ad 12 i) (eO 4 (stL (M.1 5 i))) H := ⟨(h.2.2.2.2.2.1 i hi).1.1, (h.2.2.2.2.2.1 i hi).2.1⟩
/-- rooms of one laboratory are the same cell if they are the same one -/
theorem ecO.rne {G : ecG} {X : Nat → Prop} {M : ecM} {tg : Nat → Nat} {ad : Nat → Nat → Nat} {H : Heap} (h : ecO G X M tg ad H) {i j : Nat} (hi : i < mnR M) (hj : j < mnR M) : ad 3 i = ad 3 j ↔ i = j :=
  ⟨fun z => Classical.byContradiction fun n => (h.2.2.1 i hi).1.ne (h.2.2.1 j hj).1 (by omega) z, fun z => by rw [z]⟩
theorem ecO.ane {G : ecG} {X : Nat → Prop} {M : ecM} {tg : Nat → Nat} {ad : Nat → Nat → Nat} {H : Heap} (h : ecO G X M tg ad H) {i j : Nat} (hi : i < mnA M) (hj : j < mnA M) : ad 5 i = ad 5 j ↔ i = j :=
  ⟨fun z => Classical.byContradiction fun n => (h.2.2.2.1 i hi).1.ne (h.2.2.2.1 j hj).1 (by omega) z, fun z => by rw [z]⟩

set_option maxHeartbeats 4000000 in
set_option maxRecDepth 100000 in
/-- roomAt -/
theorem c_X5_roomAt (l : Launch) (hls : l.stackTraces = false) (G : ecG) (X : Nat → Prop) (M : ecM) (tg : Nat → Nat) (ad : Nat → Nat → Nat) (x : Int32) : vx_Met l yX5_roomAt (ecWs yX5_roomAt cX5_roomAt 2 (Option.some (FieldType.object "EchoChamber$Room"))) (ecRm 6 1 6) (ecPc [.ref (ad 0 0), .int x] G (fun H => ecO G X M tg ad H)) (ecRp (fun v => ∃ j : Nat, (j < mnR M ∧ x = nI j) ∧ v = some (.ref (ad 3 j)))) (ecXc (fun E => E = eIX ∧ ixB x (mnR M) = false)) 1 6 (fun _ => False) := by
  refine ec_xmet (by decide) (Nat.le_of_ble_eq_true rfl) ?_
  intro p e s m below meth c hC hr hlocks hnx hOk hpre ls hl
  have hK := hOk.1
  have hw := hpre
  have hS : va_S (fun _ => False) s.heap s.heap [] := va_S.rf
  have hkp : ecKp s.heap s.heap := ecKp.rf
  have hAN : ∀ q, (fun _ => False) q → ecN0 G ≤ q := fun _ h => h.elim
  have hl : lv_has ls 2 [(0, .ref (ad 0 0)), (1, .int x)] := hl
  refine lv_iload_n hC.1 hC.2.1 dX5_roomAt_0 rfl (lv_at hl 1 rfl) ?_
  refine lv_if_lt (tgt := 15) hC.1 hC.2.1 dX5_roomAt_1 (by decide) (fun c_1 => ?_) (fun c_1 => ?_)
  · exact ec_throw hC hls xX5_217 hOk hAN hS hkp (is := 249) (text := "there is no such room") (by decide) hl.1 hnx hlocks dX5_roomAt_15 dX5_roomAt_18 dX5_roomAt_19 dX5_roomAt_21 dX5_roomAt_24 ⟨rfl, ixB_lo c_1⟩ ⟨Nat.le_of_ble_eq_true rfl, Nat.le_of_ble_eq_true rfl, Nat.le_of_ble_eq_true rfl, Nat.le_of_ble_eq_true rfl⟩ (Nat.le_of_ble_eq_true rfl) (Nat.le_of_ble_eq_true rfl)
  · refine lv_iload_n hC.1 hC.2.1 dX5_roomAt_4 rfl (lv_at hl 1 rfl) ?_
    refine lv_aload_n hC.1 hC.2.1 dX5_roomAt_5 rfl (lv_at hl 0 rfl) ?_
    refine ec_get hC hK hw.1.1 fX5_10 rfl dX5_roomAt_6 ?_
    obtain ⟨v0_z1, v1_z1, hL_z1⟩ := (hw.2.1 0 (by decide)).obj
    refine ec_go1 (ec_rV hC (c_Jx4a65c_size_8abf5 l G (ad 1 0) v0_z1 v1_z1 (nI (M.1 7 0))) kX5_32 (hOk.at hS hAN) hL_z1.1 (ec_rc hK hL_z1.1 ⟨_, _, rfl⟩) hl.1 ⟨Nat.le_of_ble_eq_true rfl, Nat.le_of_ble_eq_true rfl⟩ rfl (Nat.le_of_ble_eq_true rfl) dX5_roomAt_9 ⟨Nat.le_of_ble_eq_true rfl, Nat.le_of_ble_eq_true rfl⟩) ?_
    refine lv_icmp_lt (tgt := 25) hC.1 hC.2.1 dX5_roomAt_12 (by decide) (fun c_12 => ?_) (fun c_12 => ?_)
    · obtain ⟨j, hj, rfl⟩ := ixB_j (by have := hw.wf.n7; show M.1 7 0 < 2147483648; omega) c_1 c_12
      refine lv_aload_n hC.1 hC.2.1 dX5_roomAt_25 rfl (lv_at hl 0 rfl) ?_
      refine ec_get hC hK hw.1.1 fX5_10 rfl dX5_roomAt_26 ?_
      refine lv_iload_n hC.1 hC.2.1 dX5_roomAt_29 rfl (lv_at hl 1 rfl) ?_
      obtain ⟨v0_g2, cap_g2, g_g2, hc_g2, hn_g2, hL_g2, hD_g2, hg_g2⟩ := (hw.2.1 0 (by decide)).el (i := j) hj
      refine ec_go1 (ec_rV hC (c_Jx4a65c_get_915e3 l G (ad 1 0) (ad 2 0) j (M.1 7 0) cap_g2 v0_g2 g_g2 hj hn_g2 (by omega)) kX5_131 (hOk.at hS hAN) ⟨hL_g2, hD_g2⟩ (ec_rc hK hL_g2 ⟨_, _, rfl⟩) hl.1 ⟨Nat.le_of_ble_eq_true rfl, Nat.le_of_ble_eq_true rfl⟩ rfl (Nat.le_of_ble_eq_true rfl) dX5_roomAt_30 ⟨Nat.le_of_ble_eq_true rfl, Nat.le_of_ble_eq_true rfl⟩) ?_
      refine ec_topv (y := .ref (ad 3 j)) (by rw [hg_g2]; rfl) ?_
      refine ec_cast hC hK (hw.ro hj).1 ⟨_, _, rfl⟩ nX5_43.1 dX5_roomAt_33 ?_
      refine vx_ret ?_
      refine W.widen (k := 1) (n := 6) (Nat.le_of_ble_eq_true rfl) (Nat.le_of_ble_eq_true rfl) ?_
      exact W.aret hC.1 hC.2.1 hr (Or.inl ⟨_, rfl⟩) (Or.inr ⟨_, rfl⟩) (fun t9 ht9 _ => ⟨_, rfl, ⟨j, ⟨hj, rfl⟩, rfl⟩, ht9⟩) hS.2.2 dX5_roomAt_36
    · exact ec_throw hC hls xX5_217 hOk hAN hS hkp (is := 249) (text := "there is no such room") (by decide) hl.1 hnx hlocks dX5_roomAt_15 dX5_roomAt_18 dX5_roomAt_19 dX5_roomAt_21 dX5_roomAt_24 ⟨rfl, ixB_hi2 c_12⟩ ⟨Nat.le_of_ble_eq_true rfl, Nat.le_of_ble_eq_true rfl, Nat.le_of_ble_eq_true rfl, Nat.le_of_ble_eq_true rfl⟩ (Nat.le_of_ble_eq_true rfl) (Nat.le_of_ble_eq_true rfl)

set_option maxHeartbeats 4000000 in
set_option maxRecDepth 100000 in
/-- answerAt -/
theorem c_X5_answerAt (l : Launch) (hls : l.stackTraces = false) (G : ecG) (X : Nat → Prop) (M : ecM) (tg : Nat → Nat) (ad : Nat → Nat → Nat) (x : Int32) : vx_Met l yX5_answerAt (ecWs yX5_answerAt cX5_answerAt 2 (Option.some (FieldType.object "EchoChamber$Answer"))) (ecRm 6 1 6) (ecPc [.ref (ad 0 0), .int x] G (fun H => ecO G X M tg ad H)) (ecRp (fun v => ∃ j : Nat, (j < mnA M ∧ x = nI j) ∧ v = some (.ref (ad 5 j)))) (ecXc (fun E => E = eIX ∧ ixB x (mnA M) = false)) 1 6 (fun _ => False) := by
  refine ec_xmet (by decide) (Nat.le_of_ble_eq_true rfl) ?_
  intro p e s m below meth c hC hr hlocks hnx hOk hpre ls hl
  have hK := hOk.1
  have hw := hpre
  have hS : va_S (fun _ => False) s.heap s.heap [] := va_S.rf
  have hkp : ecKp s.heap s.heap := ecKp.rf
  have hAN : ∀ q, (fun _ => False) q → ecN0 G ≤ q := fun _ h => h.elim
  have hl : lv_has ls 2 [(0, .ref (ad 0 0)), (1, .int x)] := hl
  refine lv_iload_n hC.1 hC.2.1 dX5_answerAt_0 rfl (lv_at hl 1 rfl) ?_
  refine lv_if_lt (tgt := 15) hC.1 hC.2.1 dX5_answerAt_1 (by decide) (fun c_1 => ?_) (fun c_1 => ?_)
  · exact ec_throw hC hls xX5_217 hOk hAN hS hkp (is := 126) (text := "there is no such answer") (by decide) hl.1 hnx hlocks dX5_answerAt_15 dX5_answerAt_18 dX5_answerAt_19 dX5_answerAt_21 dX5_answerAt_24 ⟨rfl, ixB_lo c_1⟩ ⟨Nat.le_of_ble_eq_true rfl, Nat.le_of_ble_eq_true rfl, Nat.le_of_ble_eq_true rfl, Nat.le_of_ble_eq_true rfl⟩ (Nat.le_of_ble_eq_true rfl) (Nat.le_of_ble_eq_true rfl)
  · refine lv_iload_n hC.1 hC.2.1 dX5_answerAt_4 rfl (lv_at hl 1 rfl) ?_
    refine lv_aload_n hC.1 hC.2.1 dX5_answerAt_5 rfl (lv_at hl 0 rfl) ?_
    refine ec_get hC hK hw.1.1 fX5_16 rfl dX5_answerAt_6 ?_
    obtain ⟨v0_z1, v1_z1, hL_z1⟩ := (hw.2.1 1 (by decide)).obj
    refine ec_go1 (ec_rV hC (c_Jx4a65c_size_8abf5 l G (ad 1 1) v0_z1 v1_z1 (nI (M.1 7 1))) kX5_32 (hOk.at hS hAN) hL_z1.1 (ec_rc hK hL_z1.1 ⟨_, _, rfl⟩) hl.1 ⟨Nat.le_of_ble_eq_true rfl, Nat.le_of_ble_eq_true rfl⟩ rfl (Nat.le_of_ble_eq_true rfl) dX5_answerAt_9 ⟨Nat.le_of_ble_eq_true rfl, Nat.le_of_ble_eq_true rfl⟩) ?_
    refine lv_icmp_lt (tgt := 25) hC.1 hC.2.1 dX5_answerAt_12 (by decide) (fun c_12 => ?_) (fun c_12 => ?_)
    · obtain ⟨j, hj, rfl⟩ := ixB_j (by have := hw.wf.n7; show M.1 7 1 < 2147483648; omega) c_1 c_12
      refine lv_aload_n hC.1 hC.2.1 dX5_answerAt_25 rfl (lv_at hl 0 rfl) ?_
      refine ec_get hC hK hw.1.1 fX5_16 rfl dX5_answerAt_26 ?_
      refine lv_iload_n hC.1 hC.2.1 dX5_answerAt_29 rfl (lv_at hl 1 rfl) ?_
      obtain ⟨v0_g2, cap_g2, g_g2, hc_g2, hn_g2, hL_g2, hD_g2, hg_g2⟩ := (hw.2.1 1 (by decide)).el (i := j) hj
      refine ec_go1 (ec_rV hC (c_Jx4a65c_get_915e3 l G (ad 1 1) (ad 2 1) j (M.1 7 1) cap_g2 v0_g2 g_g2 hj hn_g2 (by omega)) kX5_131 (hOk.at hS hAN) ⟨hL_g2, hD_g2⟩ (ec_rc hK hL_g2 ⟨_, _, rfl⟩) hl.1 ⟨Nat.le_of_ble_eq_true rfl, Nat.le_of_ble_eq_true rfl⟩ rfl (Nat.le_of_ble_eq_true rfl) dX5_answerAt_30 ⟨Nat.le_of_ble_eq_true rfl, Nat.le_of_ble_eq_true rfl⟩) ?_
      refine ec_topv (y := .ref (ad 5 j)) (by rw [hg_g2]; rfl) ?_
      refine ec_cast hC hK (hw.an hj).1 ⟨_, _, rfl⟩ nX5_100.1 dX5_answerAt_33 ?_
      refine vx_ret ?_
      refine W.widen (k := 1) (n := 6) (Nat.le_of_ble_eq_true rfl) (Nat.le_of_ble_eq_true rfl) ?_
      exact W.aret hC.1 hC.2.1 hr (Or.inl ⟨_, rfl⟩) (Or.inr ⟨_, rfl⟩) (fun t9 ht9 _ => ⟨_, rfl, ⟨j, ⟨hj, rfl⟩, rfl⟩, ht9⟩) hS.2.2 dX5_answerAt_36
    · exact ec_throw hC hls xX5_217 hOk hAN hS hkp (is := 126) (text := "there is no such answer") (by decide) hl.1 hnx hlocks dX5_answerAt_15 dX5_answerAt_18 dX5_answerAt_19 dX5_answerAt_21 dX5_answerAt_24 ⟨rfl, ixB_hi2 c_12⟩ ⟨Nat.le_of_ble_eq_true rfl, Nat.le_of_ble_eq_true rfl, Nat.le_of_ble_eq_true rfl, Nat.le_of_ble_eq_true rfl⟩ (Nat.le_of_ble_eq_true rfl) (Nat.le_of_ble_eq_true rfl)

set_option maxHeartbeats 4000000 in
set_option maxRecDepth 100000 in
/-- filterAt -/
theorem c_X5_filterAt (l : Launch) (hls : l.stackTraces = false) (G : ecG) (X : Nat → Prop) (M : ecM) (tg : Nat → Nat) (ad : Nat → Nat → Nat) (x : Int32) : vx_Met l yX5_filterAt (ecWs yX5_filterAt cX5_filterAt 2 (Option.some (FieldType.object "EchoChamber$Filter"))) (ecRm 6 1 6) (ecPc [.ref (ad 0 0), .int x] G (fun H => ecO G X M tg ad H)) (ecRp (fun v => ∃ j : Nat, (j < mnF M ∧ x = nI j) ∧ v = some (.ref (ad 8 j)))) (ecXc (fun E => E = eIX ∧ ixB x (mnF M) = false)) 1 6 (fun _ => False) := by
  refine ec_xmet (by decide) (Nat.le_of_ble_eq_true rfl) ?_
  intro p e s m below meth c hC hr hlocks hnx hOk hpre ls hl
  have hK := hOk.1
  have hw := hpre
  have hS : va_S (fun _ => False) s.heap s.heap [] := va_S.rf
  have hkp : ecKp s.heap s.heap := ecKp.rf
  have hAN : ∀ q, (fun _ => False) q → ecN0 G ≤ q := fun _ h => h.elim
  have hl : lv_has ls 2 [(0, .ref (ad 0 0)), (1, .int x)] := hl
  refine lv_iload_n hC.1 hC.2.1 dX5_filterAt_0 rfl (lv_at hl 1 rfl) ?_
  refine lv_if_lt (tgt := 15) hC.1 hC.2.1 dX5_filterAt_1 (by decide) (fun c_1 => ?_) (fun c_1 => ?_)
  · exact ec_throw hC hls xX5_217 hOk hAN hS hkp (is := 251) (text := "there is no such filter") (by decide) hl.1 hnx hlocks dX5_filterAt_15 dX5_filterAt_18 dX5_filterAt_19 dX5_filterAt_21 dX5_filterAt_24 ⟨rfl, ixB_lo c_1⟩ ⟨Nat.le_of_ble_eq_true rfl, Nat.le_of_ble_eq_true rfl, Nat.le_of_ble_eq_true rfl, Nat.le_of_ble_eq_true rfl⟩ (Nat.le_of_ble_eq_true rfl) (Nat.le_of_ble_eq_true rfl)
  · refine lv_iload_n hC.1 hC.2.1 dX5_filterAt_4 rfl (lv_at hl 1 rfl) ?_
    refine lv_aload_n hC.1 hC.2.1 dX5_filterAt_5 rfl (lv_at hl 0 rfl) ?_
    refine ec_get hC hK hw.1.1 fX5_19 rfl dX5_filterAt_6 ?_
    obtain ⟨v0_z1, v1_z1, hL_z1⟩ := (hw.2.1 2 (by decide)).obj
    refine ec_go1 (ec_rV hC (c_Jx4a65c_size_8abf5 l G (ad 1 2) v0_z1 v1_z1 (nI (M.1 7 2))) kX5_32 (hOk.at hS hAN) hL_z1.1 (ec_rc hK hL_z1.1 ⟨_, _, rfl⟩) hl.1 ⟨Nat.le_of_ble_eq_true rfl, Nat.le_of_ble_eq_true rfl⟩ rfl (Nat.le_of_ble_eq_true rfl) dX5_filterAt_9 ⟨Nat.le_of_ble_eq_true rfl, Nat.le_of_ble_eq_true rfl⟩) ?_
    refine lv_icmp_lt (tgt := 25) hC.1 hC.2.1 dX5_filterAt_12 (by decide) (fun c_12 => ?_) (fun c_12 => ?_)
    · obtain ⟨j, hj, rfl⟩ := ixB_j (by have := hw.wf.n7; show M.1 7 2 < 2147483648; omega) c_1 c_12
      refine lv_aload_n hC.1 hC.2.1 dX5_filterAt_25 rfl (lv_at hl 0 rfl) ?_
      refine ec_get hC hK hw.1.1 fX5_19 rfl dX5_filterAt_26 ?_
      refine lv_iload_n hC.1 hC.2.1 dX5_filterAt_29 rfl (lv_at hl 1 rfl) ?_
      obtain ⟨v0_g2, cap_g2, g_g2, hc_g2, hn_g2, hL_g2, hD_g2, hg_g2⟩ := (hw.2.1 2 (by decide)).el (i := j) hj
      refine ec_go1 (ec_rV hC (c_Jx4a65c_get_915e3 l G (ad 1 2) (ad 2 2) j (M.1 7 2) cap_g2 v0_g2 g_g2 hj hn_g2 (by omega)) kX5_131 (hOk.at hS hAN) ⟨hL_g2, hD_g2⟩ (ec_rc hK hL_g2 ⟨_, _, rfl⟩) hl.1 ⟨Nat.le_of_ble_eq_true rfl, Nat.le_of_ble_eq_true rfl⟩ rfl (Nat.le_of_ble_eq_true rfl) dX5_filterAt_30 ⟨Nat.le_of_ble_eq_true rfl, Nat.le_of_ble_eq_true rfl⟩) ?_
      refine ec_topv (y := .ref (ad 8 j)) (by rw [hg_g2]; rfl) ?_
      refine ec_cast hC hK (hw.fi hj).1 ⟨_, _, rfl⟩ nX5_145.1 dX5_filterAt_33 ?_
      refine vx_ret ?_
      refine W.widen (k := 1) (n := 6) (Nat.le_of_ble_eq_true rfl) (Nat.le_of_ble_eq_true rfl) ?_
      exact W.aret hC.1 hC.2.1 hr (Or.inl ⟨_, rfl⟩) (Or.inr ⟨_, rfl⟩) (fun t9 ht9 _ => ⟨_, rfl, ⟨j, ⟨hj, rfl⟩, rfl⟩, ht9⟩) hS.2.2 dX5_filterAt_36
    · exact ec_throw hC hls xX5_217 hOk hAN hS hkp (is := 251) (text := "there is no such filter") (by decide) hl.1 hnx hlocks dX5_filterAt_15 dX5_filterAt_18 dX5_filterAt_19 dX5_filterAt_21 dX5_filterAt_24 ⟨rfl, ixB_hi2 c_12⟩ ⟨Nat.le_of_ble_eq_true rfl, Nat.le_of_ble_eq_true rfl, Nat.le_of_ble_eq_true rfl, Nat.le_of_ble_eq_true rfl⟩ (Nat.le_of_ble_eq_true rfl) (Nat.le_of_ble_eq_true rfl)

theorem latN_s {M : ecM} {r : Nat} {pl : Int32} {k n : Nat} : latN M r pl k (n + 1) = if M.1 1 n = r ∧ M.1 2 n = k ∧ M.2.1 1 n = pl then some n else latN M r pl k n := rfl
theorem nI_p1 (i : Nat) : nI (i + 1) - 1 = nI i := by
  rw [← nI_1 i]
  exact Int32.add_sub_cancel _ _
theorem nI_m1 (i : Nat) : nI i + (-1) = nI i - 1 := by rw [Int32.sub_eq_add_neg]

set_option maxHeartbeats 4000000 in
set_option maxRecDepth 100000 in
/-- the latest answer for these -/
theorem c_X5_newestAnswer (l : Launch) (G : ecG) (X : Nat → Prop) (M : ecM) (tg : Nat → Nat) (ad : Nat → Nat → Nat) (r k q : Nat) (pl : Int32) (hr9 : r < mnR M) (hk9 : k < 80) : Met l yX5_newestAnswer (ecWs yX5_newestAnswer cX5_newestAnswer 6 (Option.some (FieldType.object "EchoChamber$Answer"))) (ecRm 4 0 0) (ecPc [.ref (ad 0 0), .ref (ad 3 r), .int pl, .ref q] G (fun H => ecO G X M tg ad H ∧ ecA G q (eO 4 (stL k)) H)) (ecRp (fun v => v = some (va_rf ((latN M r pl k (mnA M)).map (ad 5))))) 0 0 (fun _ => False) := by
  refine ec_met (by decide) (Nat.le_of_ble_eq_true rfl) ?_
  intro p e s m below meth c hC hr hlocks hname hOk hpre ls hl
  have hK := hOk.1
  obtain ⟨hw, hq⟩ := hpre
  have hS : va_S (fun _ => False) s.heap s.heap [] := va_S.rf
  have hAN : ∀ q, (fun _ : Nat => False) q → ecN0 G ≤ q := fun _ h => h.elim
  have hl : lv_has ls 6 [(0, .ref (ad 0 0)), (1, .ref (ad 3 r)), (2, .int pl), (3, .ref q)] := hl
  refine lv_aload_n hC.1 hC.2.1 dX5_newestAnswer_0 rfl (lv_at hl 0 rfl) ?_
  refine ec_get hC hK hw.1.1 fX5_16 rfl dX5_newestAnswer_1 ?_
  obtain ⟨v0_z1, v1_z1, hL_z1⟩ := (hw.2.1 1 (by decide)).obj
  refine ec_go1 (ec_rV hC (c_Jx4a65c_size_8abf5 l G (ad 1 1) v0_z1 v1_z1 (nI (M.1 7 1))) kX5_32 (hOk.at hS hAN) hL_z1.1 (ec_rc hK hL_z1.1 ⟨_, _, rfl⟩) hl.1 ⟨Nat.le_of_ble_eq_true rfl, Nat.le_of_ble_eq_true rfl⟩ rfl (Nat.le_of_ble_eq_true rfl) dX5_newestAnswer_4 ⟨Nat.le_of_ble_eq_true rfl, Nat.le_of_ble_eq_true rfl⟩) ?_
  refine lv_iconst (v := 1) hC.1 hC.2.1 dX5_newestAnswer_7 (by decide) ?_
  refine lv_isub hC.1 hC.2.1 dX5_newestAnswer_8 ?_
  refine lv_istore (lv' := [(4, .int ((nI (M.1 7 1)) - 1)), (0, .ref (ad 0 0)), (1, .ref (ad 3 r)), (2, .int pl), (3, .ref q)]) hC.1 hC.2.1 dX5_newestAnswer_9 hl (by decide) rfl (fun ls hl => ?_)
  refine ec_loopRD (n := mnA M) (fun i ls => lv_has ls 6 [(4, .int (nI i - 1)), (0, .ref (ad 0 0)), (1, .ref (ad 3 r)), (2, .int pl), (3, .ref q)] ∧ latN M r pl k (mnA M) = latN M r pl k i) ⟨⟨hl.1, hl.2.1, (ec_lvc (lv_at hl 0 rfl) (ec_lvc (lv_at hl 1 rfl) (ec_lvc (lv_at hl 2 rfl) (ec_lvc (lv_at hl 3 rfl) (ec_lvc (lv_at hl 4 rfl) ec_lvn)))))⟩, rfl⟩ (fun ls h9 => ?_) (fun i ls hi h9 hk => ?_)
  · obtain ⟨hl, hI⟩ := h9
    refine lv_iload hC.1 hC.2.1 dX5_newestAnswer_11 (lv_at hl 0 rfl) ?_
    refine lv_if_lt (tgt := 58) hC.1 hC.2.1 dX5_newestAnswer_13 (by decide) (fun c_13 => ?_) (fun c => absurd (by decide) c)
    refine lv_null hC.1 hC.2.1 dX5_newestAnswer_58 ?_
    exact W.aret hC.1 hC.2.1 hr (Or.inl ⟨_, rfl⟩) (Or.inl rfl) (fun t9 ht9 _ => ⟨_, rfl, (by rw [hI]; rfl), ht9⟩) hS.2.2 dX5_newestAnswer_59
  · obtain ⟨hl, hI⟩ := h9
    rw [show nI (i + 1) - 1 = nI i from nI_p1 i] at hl
    have hwn := hw.wf.n
    refine lv_iload hC.1 hC.2.1 dX5_newestAnswer_11 (lv_at hl 0 rfl) ?_
    refine lv_if_lt (tgt := 58) hC.1 hC.2.1 dX5_newestAnswer_13 (by decide) (fun c => absurd c (nI_pos (by have := hw.wf.n; omega))) (fun c_13 => ?_)
    refine lv_aload_n hC.1 hC.2.1 dX5_newestAnswer_16 rfl (lv_at hl 1 rfl) ?_
    refine ec_get hC hK hw.1.1 fX5_16 rfl dX5_newestAnswer_17 ?_
    refine lv_iload hC.1 hC.2.1 dX5_newestAnswer_20 (lv_at hl 0 rfl) ?_
    obtain ⟨v0_g2, cap_g2, g_g2, hc_g2, hn_g2, hL_g2, hD_g2, hg_g2⟩ := (hw.2.1 1 (by decide)).el (i := i) hi
    refine ec_go1 (ec_rV hC (c_Jx4a65c_get_915e3 l G (ad 1 1) (ad 2 1) i (M.1 7 1) cap_g2 v0_g2 g_g2 hi hn_g2 (by omega)) kX5_131 (hOk.at hS hAN) ⟨hL_g2, hD_g2⟩ (ec_rc hK hL_g2 ⟨_, _, rfl⟩) hl.1 ⟨Nat.le_of_ble_eq_true rfl, Nat.le_of_ble_eq_true rfl⟩ rfl (Nat.le_of_ble_eq_true rfl) dX5_newestAnswer_22 ⟨Nat.le_of_ble_eq_true rfl, Nat.le_of_ble_eq_true rfl⟩) ?_
    refine ec_topv (y := .ref (ad 5 i)) (by rw [hg_g2]; rfl) ?_
    refine ec_cast hC hK (hw.an hi).1 ⟨_, _, rfl⟩ nX5_100.1 dX5_newestAnswer_25 ?_
    refine lv_astore (lv' := [(5, .ref (ad 5 i)), (4, .int (nI i)), (0, .ref (ad 0 0)), (1, .ref (ad 3 r)), (2, .int pl), (3, .ref q)]) hC.1 hC.2.1 dX5_newestAnswer_28 hl (by decide) rfl (fun ls hl => ?_)
    refine lv_aload hC.1 hC.2.1 dX5_newestAnswer_30 (lv_at hl 0 rfl) ?_
    refine ec_get hC hK (hw.an hi).1 fX5_259 rfl dX5_newestAnswer_32 ?_
    refine lv_iload_n hC.1 hC.2.1 dX5_newestAnswer_35 rfl (lv_at hl 4 rfl) ?_
    refine lv_icmp_ne (tgt := 52) hC.1 hC.2.1 dX5_newestAnswer_36 (by decide) (fun c_36 => ?_) (fun c_36 => ?_)
    · refine lv_iinc (v := (nI i - 1)) (lv' := [(4, .int (nI i - 1)), (5, .ref (ad 5 i)), (0, .ref (ad 0 0)), (1, .ref (ad 3 r)), (2, .int pl), (3, .ref q)]) hC.1 hC.2.1 dX5_newestAnswer_52 hl (k := 1) rfl (nI_m1 i) (by decide) rfl (fun ls hl => ?_)
      refine lv_goto (tgt := 11) hC.1 hC.2.1 dX5_newestAnswer_55 (by decide) ?_
      exact hk ls ⟨⟨hl.1, hl.2.1, (ec_lvc (lv_at hl 0 rfl) (ec_lvc (lv_at hl 2 rfl) (ec_lvc (lv_at hl 3 rfl) (ec_lvc (lv_at hl 4 rfl) (ec_lvc (lv_at hl 5 rfl) ec_lvn)))))⟩, hI.trans (by rw [latN_s, if_neg (fun z => c_36 z.2.2)])⟩
    · refine lv_aload hC.1 hC.2.1 dX5_newestAnswer_39 (lv_at hl 0 rfl) ?_
      refine lv_aload_n hC.1 hC.2.1 dX5_newestAnswer_41 rfl (lv_at hl 3 rfl) ?_
      refine lv_aload_n hC.1 hC.2.1 dX5_newestAnswer_42 rfl (lv_at hl 5 rfl) ?_
      refine ec_go1 (ec_rV hC (c_X0_isForState l G (ad 5 i) (ad 3 (M.1 1 i)) (ad 3 r) (ad 6 i) q (M.1 2 i) k _ _ _ _ _ (hw.wf.an hi).2 hk9) kX5_262 (hOk.at hS hAN) ⟨(hw.an hi).1, (hw.an hi).2.1, hq⟩ (ec_rc hK (hw.an hi).1 ⟨_, _, rfl⟩) hl.1 ⟨Nat.le_of_ble_eq_true rfl, Nat.le_of_ble_eq_true rfl⟩ rfl (Nat.le_of_ble_eq_true rfl) dX5_newestAnswer_43 ⟨Nat.le_of_ble_eq_true rfl, Nat.le_of_ble_eq_true rfl⟩) ?_
      refine lv_if_eq (tgt := 52) hC.1 hC.2.1 dX5_newestAnswer_46 (by decide) (fun c_46 => ?_) (fun c_46 => ?_)
      · refine lv_iinc (v := (nI i - 1)) (lv' := [(4, .int (nI i - 1)), (5, .ref (ad 5 i)), (0, .ref (ad 0 0)), (1, .ref (ad 3 r)), (2, .int pl), (3, .ref q)]) hC.1 hC.2.1 dX5_newestAnswer_52 hl (k := 1) rfl (nI_m1 i) (by decide) rfl (fun ls hl => ?_)
        refine lv_goto (tgt := 11) hC.1 hC.2.1 dX5_newestAnswer_55 (by decide) ?_
        exact hk ls ⟨⟨hl.1, hl.2.1, (ec_lvc (lv_at hl 0 rfl) (ec_lvc (lv_at hl 2 rfl) (ec_lvc (lv_at hl 3 rfl) (ec_lvc (lv_at hl 4 rfl) (ec_lvc (lv_at hl 5 rfl) ec_lvn)))))⟩, hI.trans (by rw [latN_s, if_neg (fun z => absurd ((bI_0 _).mp c_46) (by rw [decide_eq_true ((hw.rne (hw.wf.an hi).1 hr9).mpr z.1), decide_eq_true z.2.1]; decide))])⟩
      · refine lv_aload hC.1 hC.2.1 dX5_newestAnswer_49 (lv_at hl 0 rfl) ?_
        have h46 := (bI_n0 _).mp c_46
        rw [Bool.and_eq_true, decide_eq_true_eq, decide_eq_true_eq] at h46
        exact W.aret hC.1 hC.2.1 hr (Or.inl ⟨_, rfl⟩) (Or.inr ⟨_, rfl⟩) (fun t9 ht9 _ => ⟨_, rfl, (by rw [hI, latN_s, if_pos ⟨(hw.rne (hw.wf.an hi).1 hr9).mp h46.1, h46.2, c_36⟩]; rfl), ht9⟩) hS.2.2 dX5_newestAnswer_51

theorem frN_f {M : ecM} {x j : Nat} (h : frN M x j = false) : ∀ n, j ≤ n → frN M x n = false := by
  intro n hn
  induction n with
  | zero => rw [← show j = 0 by omega]; exact h
  | succ n ih =>
    rcases Nat.lt_or_ge n j with q | q
    · rw [← show j = n + 1 by omega]; exact h
    · show (frN M x n && _) = false
      rw [ih q, Bool.false_and]
theorem frN_s {M : ecM} {x j : Nat} : frN M x (j + 1) = (frN M x j && !(decide (M.1 1 j = M.1 1 x) && decide (M.1 2 j = M.1 2 x))) := rfl
theorem cntN_s {M : ecM} {n : Nat} : cntN M (n + 1) = cntN M n + (if M.1 6 n = 0 then 1 else 0) := rfl
theorem cntN_le (M : ecM) : ∀ n, cntN M n ≤ n
  | 0 => Nat.le_refl 0
  | n + 1 => by have := cntN_le M n; rw [cntN_s]; split <;> omega
theorem fstN_s {q : Nat → Bool} {k d : Nat} : fstN q k (d + 1) = if q k = true then some k else fstN q (k + 1) d := rfl

theorem frN_x {M : ecM} {x i : Nat} (h : frN M x i = true) (h1 : frN M x (i + 1) = false) : i ≤ x → (frN M x x = true ↔ i = x) := by
  intro q
  constructor
  · intro z
    rcases Nat.lt_or_ge i x with q2 | q2
    · rw [frN_f h1 x q2] at z
      cases z
    · omega
  · intro z
    subst z
    exact h
theorem nI_inj {i x n m : Nat} (hi : i < n) (hn : n < 2 ^ 31 ∧ m < 2 ^ 31) (hx : x < m) (h : nI i = nI x) : i = x := by
  rcases Nat.lt_trichotomy i x with q | q | q
  · exact (Int32.lt_irrefl (by have := nI_lt q (by omega); rw [h] at this; exact this)).elim
  · exact q
  · exact (Int32.lt_irrefl (by have := nI_lt q (by omega); rw [h] at this; exact this)).elim

set_option maxHeartbeats 4000000 in
set_option maxRecDepth 100000 in
/-- whether an answer is the first of its state -/
theorem c_X5_isFirstOfItsState (l : Launch) (G : ecG) (X : Nat → Prop) (M : ecM) (tg : Nat → Nat) (ad : Nat → Nat → Nat) (x : Nat) (hx9 : x < mnA M) : Met l yX5_isFirstOfItsState (ecWs yX5_isFirstOfItsState cX5_isFirstOfItsState 4 (Option.some FieldType.boolean)) (ecRm 4 0 0) (ecPc [.ref (ad 0 0), .ref (ad 5 x)] G (fun H => ecO G X M tg ad H)) (ecRp (fun v => v = some (.int (bI (frN M x x))))) 0 0 (fun _ => False) := by
  refine ec_met (by decide) (Nat.le_of_ble_eq_true rfl) ?_
  intro p e s m below meth c hC hr hlocks hname hOk hpre ls hl
  have hK := hOk.1
  have hw := hpre
  have hS : va_S (fun _ => False) s.heap s.heap [] := va_S.rf
  have hAN : ∀ q, (fun _ : Nat => False) q → ecN0 G ≤ q := fun _ h => h.elim
  have hl : lv_has ls 4 [(0, .ref (ad 0 0)), (1, .ref (ad 5 x))] := hl
  refine lv_iconst (v := 0) hC.1 hC.2.1 dX5_isFirstOfItsState_0 (by decide) ?_
  refine lv_istore_n (lv' := [(2, .int 0), (0, .ref (ad 0 0)), (1, .ref (ad 5 x))]) hC.1 hC.2.1 dX5_isFirstOfItsState_1 rfl hl (by decide) rfl (fun ls hl => ?_)
  refine ec_loopR (n := mnA M) (fun i ls => lv_has ls 4 [(2, .int (nI i)), (0, .ref (ad 0 0)), (1, .ref (ad 5 x))] ∧ frN M x i = true) ⟨⟨hl.1, hl.2.1, (ec_lvc (lv_at hl 0 rfl) (ec_lvc (lv_at hl 1 rfl) (ec_lvc (lv_at hl 2 rfl) ec_lvn)))⟩, rfl⟩ (fun ls h9 => ?_) (fun i ls hi h9 hk => ?_)
  · obtain ⟨hl, hI⟩ := h9
    refine lv_iload_n hC.1 hC.2.1 dX5_isFirstOfItsState_2 rfl (lv_at hl 0 rfl) ?_
    refine lv_aload_n hC.1 hC.2.1 dX5_isFirstOfItsState_3 rfl (lv_at hl 1 rfl) ?_
    refine ec_get hC hK hw.1.1 fX5_16 rfl dX5_isFirstOfItsState_4 ?_
    obtain ⟨v0_z1, v1_z1, hL_z1⟩ := (hw.2.1 1 (by decide)).obj
    refine ec_go1 (ec_rV hC (c_Jx4a65c_size_8abf5 l G (ad 1 1) v0_z1 v1_z1 (nI (M.1 7 1))) kX5_32 (hOk.at hS hAN) hL_z1.1 (ec_rc hK hL_z1.1 ⟨_, _, rfl⟩) hl.1 ⟨Nat.le_of_ble_eq_true rfl, Nat.le_of_ble_eq_true rfl⟩ rfl (Nat.le_of_ble_eq_true rfl) dX5_isFirstOfItsState_7 ⟨Nat.le_of_ble_eq_true rfl, Nat.le_of_ble_eq_true rfl⟩) ?_
    refine lv_icmp_ge (tgt := 63) hC.1 hC.2.1 dX5_isFirstOfItsState_10 (by decide) (fun c_10 => ?_) (fun c => absurd (Int32.le_refl _) c)
    refine lv_iconst (v := 0) hC.1 hC.2.1 dX5_isFirstOfItsState_63 (by decide) ?_
    have hf9 := frN_f (M := M) (x := x) (j := x + 1) (by rw [frN_s, decide_eq_true rfl, decide_eq_true rfl, Bool.and_self, Bool.not_true, Bool.and_false]) (mnA M) hx9
    exact W.zret hC.1 hC.2.1 hr rfl (fun t9 ht9 _ => ⟨_, rfl, (ec_int (by rw [hI] at hf9; cases hf9)), ht9⟩) hS.2.2 dX5_isFirstOfItsState_64
  · obtain ⟨hl, hI⟩ := h9
    refine lv_iload_n hC.1 hC.2.1 dX5_isFirstOfItsState_2 rfl (lv_at hl 0 rfl) ?_
    refine lv_aload_n hC.1 hC.2.1 dX5_isFirstOfItsState_3 rfl (lv_at hl 1 rfl) ?_
    refine ec_get hC hK hw.1.1 fX5_16 rfl dX5_isFirstOfItsState_4 ?_
    obtain ⟨v0_z2, v1_z2, hL_z2⟩ := (hw.2.1 1 (by decide)).obj
    refine ec_go1 (ec_rV hC (c_Jx4a65c_size_8abf5 l G (ad 1 1) v0_z2 v1_z2 (nI (M.1 7 1))) kX5_32 (hOk.at hS hAN) hL_z2.1 (ec_rc hK hL_z2.1 ⟨_, _, rfl⟩) hl.1 ⟨Nat.le_of_ble_eq_true rfl, Nat.le_of_ble_eq_true rfl⟩ rfl (Nat.le_of_ble_eq_true rfl) dX5_isFirstOfItsState_7 ⟨Nat.le_of_ble_eq_true rfl, Nat.le_of_ble_eq_true rfl⟩) ?_
    refine lv_icmp_ge (tgt := 63) hC.1 hC.2.1 dX5_isFirstOfItsState_10 (by decide) (fun c => absurd c (fun z => Int32.lt_irrefl (Int32.lt_of_lt_of_le (nI_lt hi (by have := hw.wf.n; omega)) z))) (fun c_10 => ?_)
    refine lv_aload_n hC.1 hC.2.1 dX5_isFirstOfItsState_13 rfl (lv_at hl 1 rfl) ?_
    refine ec_get hC hK hw.1.1 fX5_16 rfl dX5_isFirstOfItsState_14 ?_
    refine lv_iload_n hC.1 hC.2.1 dX5_isFirstOfItsState_17 rfl (lv_at hl 0 rfl) ?_
    obtain ⟨v0_g3, cap_g3, g_g3, hc_g3, hn_g3, hL_g3, hD_g3, hg_g3⟩ := (hw.2.1 1 (by decide)).el (i := i) hi
    refine ec_go1 (ec_rV hC (c_Jx4a65c_get_915e3 l G (ad 1 1) (ad 2 1) i (M.1 7 1) cap_g3 v0_g3 g_g3 hi hn_g3 (by omega)) kX5_131 (hOk.at hS hAN) ⟨hL_g3, hD_g3⟩ (ec_rc hK hL_g3 ⟨_, _, rfl⟩) hl.1 ⟨Nat.le_of_ble_eq_true rfl, Nat.le_of_ble_eq_true rfl⟩ rfl (Nat.le_of_ble_eq_true rfl) dX5_isFirstOfItsState_18 ⟨Nat.le_of_ble_eq_true rfl, Nat.le_of_ble_eq_true rfl⟩) ?_
    refine ec_topv (y := .ref (ad 5 i)) (by rw [hg_g3]; rfl) ?_
    refine ec_cast hC hK (hw.an hi).1 ⟨_, _, rfl⟩ nX5_100.1 dX5_isFirstOfItsState_21 ?_
    refine lv_astore_n (lv' := [(3, .ref (ad 5 i)), (2, .int (nI i)), (0, .ref (ad 0 0)), (1, .ref (ad 5 x))]) hC.1 hC.2.1 dX5_isFirstOfItsState_24 rfl hl (by decide) rfl (fun ls hl => ?_)
    refine lv_aload_n hC.1 hC.2.1 dX5_isFirstOfItsState_25 rfl (lv_at hl 0 rfl) ?_
    refine lv_aload_n hC.1 hC.2.1 dX5_isFirstOfItsState_26 rfl (lv_at hl 3 rfl) ?_
    refine ec_get hC hK (hw.an hx9).1 fX5_135 rfl dX5_isFirstOfItsState_27 ?_
    refine lv_aload_n hC.1 hC.2.1 dX5_isFirstOfItsState_30 rfl (lv_at hl 3 rfl) ?_
    refine ec_get hC hK (hw.an hx9).1 fX5_266 rfl dX5_isFirstOfItsState_31 ?_
    refine ec_go1 (ec_rV hC (c_X0_isForState l G (ad 5 i) (ad 3 (M.1 1 i)) (ad 3 (M.1 1 x)) (ad 6 i) (ad 6 x) (M.1 2 i) (M.1 2 x) _ _ _ _ _ (hw.wf.an hi).2 (hw.wf.an hx9).2) kX5_262 (hOk.at hS hAN) ⟨(hw.an hi).1, (hw.an hi).2.1, (hw.an hx9).2.1⟩ (ec_rc hK (hw.an hi).1 ⟨_, _, rfl⟩) hl.1 ⟨Nat.le_of_ble_eq_true rfl, Nat.le_of_ble_eq_true rfl⟩ rfl (Nat.le_of_ble_eq_true rfl) dX5_isFirstOfItsState_34 ⟨Nat.le_of_ble_eq_true rfl, Nat.le_of_ble_eq_true rfl⟩) ?_
    refine lv_if_eq (tgt := 57) hC.1 hC.2.1 dX5_isFirstOfItsState_37 (by decide) (fun c_37 => ?_) (fun c_37 => ?_)
    · refine lv_iinc (v := (nI (i + 1))) (lv' := [(2, .int (nI (i + 1))), (3, .ref (ad 5 i)), (0, .ref (ad 0 0)), (1, .ref (ad 5 x))]) hC.1 hC.2.1 dX5_isFirstOfItsState_57 hl (k := 1) rfl (nI_1 _) (by decide) rfl (fun ls hl => ?_)
      refine lv_goto (tgt := 2) hC.1 hC.2.1 dX5_isFirstOfItsState_60 (by decide) ?_
      have h37 := (bI_0 _).mp c_37
      have hi3 : frN M x (i + 1) = true := by
        rw [frN_s, hI, Bool.true_and, Bool.not_eq_true', Bool.and_eq_false_iff]
        rcases Bool.and_eq_false_iff.mp h37 with q | q
        · exact Or.inl (decide_eq_false (fun z => of_decide_eq_false q ((hw.rne (hw.wf.an hi).1 (hw.wf.an hx9).1).mpr z)))
        · exact Or.inr q
      -- 
      exact hk ls ⟨⟨hl.1, hl.2.1, (ec_lvc (lv_at hl 0 rfl) (ec_lvc (lv_at hl 2 rfl) (ec_lvc (lv_at hl 3 rfl) ec_lvn)))⟩, hi3⟩
    · refine lv_aload_n hC.1 hC.2.1 dX5_isFirstOfItsState_40 rfl (lv_at hl 0 rfl) ?_
      refine ec_get hC hK (hw.an hi).1 fX5_128 rfl dX5_isFirstOfItsState_41 ?_
      refine lv_aload_n hC.1 hC.2.1 dX5_isFirstOfItsState_44 rfl (lv_at hl 3 rfl) ?_
      refine ec_get hC hK (hw.an hx9).1 fX5_128 rfl dX5_isFirstOfItsState_45 ?_
      refine lv_icmp_ne (tgt := 55) hC.1 hC.2.1 dX5_isFirstOfItsState_48 (by decide) (fun c_48 => ?_) (fun c_48 => ?_)
      · refine lv_iconst (v := 0) hC.1 hC.2.1 dX5_isFirstOfItsState_55 (by decide) ?_
        have h37 := (bI_n0 _).mp c_37
        rw [Bool.and_eq_true, decide_eq_true_eq, decide_eq_true_eq] at h37
        have hf9 : frN M x (i + 1) = false := by rw [frN_s, decide_eq_true ((hw.rne (hw.wf.an hi).1 (hw.wf.an hx9).1).mp h37.1), decide_eq_true h37.2, Bool.and_self, Bool.not_true, Bool.and_false]
        have hix : i ≤ x → (frN M x x = true ↔ i = x) := frN_x hI hf9
        have hxi : i ≤ x := Nat.le_of_not_lt (fun q => by have := frN_f (M := M) (x := x) (j := x + 1) (by rw [frN_s, decide_eq_true rfl, decide_eq_true rfl, Bool.and_self, Bool.not_true, Bool.and_false]) i q; rw [hI] at this; cases this)
        exact W.zret hC.1 hC.2.1 hr rfl (fun t9 ht9 _ => ⟨_, rfl, (ec_int (by rw [show frN M x x = false from Bool.eq_false_iff.mpr (fun q => c_48 (by rw [(hix hxi).mp q]))]; rfl)), ht9⟩) hS.2.2 dX5_isFirstOfItsState_56
      · refine lv_iconst (v := 1) hC.1 hC.2.1 dX5_isFirstOfItsState_51 (by decide) ?_
        refine lv_goto (tgt := 56) hC.1 hC.2.1 dX5_isFirstOfItsState_52 (by decide) ?_
        have h37 := (bI_n0 _).mp c_37
        rw [Bool.and_eq_true, decide_eq_true_eq, decide_eq_true_eq] at h37
        have hf9 : frN M x (i + 1) = false := by rw [frN_s, decide_eq_true ((hw.rne (hw.wf.an hi).1 (hw.wf.an hx9).1).mp h37.1), decide_eq_true h37.2, Bool.and_self, Bool.not_true, Bool.and_false]
        have hix : i ≤ x → (frN M x x = true ↔ i = x) := frN_x hI hf9
        have hxi : i ≤ x := Nat.le_of_not_lt (fun q => by have := frN_f (M := M) (x := x) (j := x + 1) (by rw [frN_s, decide_eq_true rfl, decide_eq_true rfl, Bool.and_self, Bool.not_true, Bool.and_false]) i q; rw [hI] at this; cases this)
        exact W.zret hC.1 hC.2.1 hr rfl (fun t9 ht9 _ => ⟨_, rfl, (ec_int (by rw [(hix hxi).mpr (nI_inj hi (by have := hw.wf.n; omega) hx9 c_48)]; rfl)), ht9⟩) hS.2.2 dX5_isFirstOfItsState_56

set_option maxHeartbeats 4000000 in
set_option maxRecDepth 100000 in
/-- the first bar of a filter -/
theorem c_X5_firstBar (l : Launch) (G : ecG) (X : Nat → Prop) (M : ecM) (tg : Nat → Nat) (ad : Nat → Nat → Nat) (i : Nat) (hi9 : i < mnF M) : Met l yX5_firstBar (ecWs yX5_firstBar cX5_firstBar 3 (Option.some FieldType.char)) (ecRm 5 0 0) (ecPc [.ref (ad 0 0), .ref (ad 8 i)] G (fun H => ecO G X M tg ad H)) (ecRp (fun v => v = some (.int (barM M i)))) 0 0 (fun _ => False) := by
  refine ec_met (by decide) (Nat.le_of_ble_eq_true rfl) ?_
  intro p e s m below meth c hC hr hlocks hname hOk hpre ls hl
  have hK := hOk.1
  have hw := hpre
  have hS : va_S (fun _ => False) s.heap s.heap [] := va_S.rf
  have hAN : ∀ q, (fun _ : Nat => False) q → ecN0 G ≤ q := fun _ h => h.elim
  have hl : lv_has ls 3 [(0, .ref (ad 0 0)), (1, .ref (ad 8 i))] := hl
  obtain ⟨a, hae⟩ : ∃ a, a = M.1 3 i := ⟨_, rfl⟩
  have ha1 : a < mnA M := by rw [hae]; exact hw.wf.fi hi9
  have ha9 := hw.wf.an ha1
  have hbar : barM M i = if M.1 0 (M.1 1 a) = M.1 2 a then (if latN M (M.1 1 a) (M.2.1 1 a) (M.1 2 a) (mnA M) = some a then (if mlm M < ageM M a then 111 else 45) else 108) else 115 := by rw [hae]; rfl
  refine lv_aload_n hC.1 hC.2.1 dX5_firstBar_0 rfl (lv_at hl 1 rfl) ?_
  refine ec_get hC hK (hw.fi hi9).1 fX5_154 rfl dX5_firstBar_1 ?_
  rw [← hae]
  refine lv_astore_n (lv' := [(2, .ref (ad 5 a)), (0, .ref (ad 0 0)), (1, .ref (ad 8 i))]) hC.1 hC.2.1 dX5_firstBar_4 rfl hl (by decide) rfl (fun ls hl => ?_)
  refine lv_aload_n hC.1 hC.2.1 dX5_firstBar_5 rfl (lv_at hl 0 rfl) ?_
  refine ec_get hC hK (hw.an ha1).1 fX5_135 rfl dX5_firstBar_6 ?_
  refine ec_get hC hK (hw.ro ha9.1).1 fX5_69 rfl dX5_firstBar_9 ?_
  refine lv_aload_n hC.1 hC.2.1 dX5_firstBar_12 rfl (lv_at hl 0 rfl) ?_
  refine ec_get hC hK (hw.an ha1).1 fX5_266 rfl dX5_firstBar_13 ?_
  refine ec_go1 (ec_rV hC (c_X4_partsUnlike l G (ad 4 (M.1 1 a)) (ad 6 a) (M.1 0 (M.1 1 a)) (M.1 2 a) (hw.wf.rs _) ha9.2) kX5_267 (hOk.at hS hAN) ⟨(hw.ro ha9.1).2, (hw.an ha1).2.1⟩ (ec_rc hK (hw.ro ha9.1).2 ⟨_, _, rfl⟩) hl.1 ⟨Nat.le_of_ble_eq_true rfl, Nat.le_of_ble_eq_true rfl⟩ rfl (Nat.le_of_ble_eq_true rfl) dX5_firstBar_16 ⟨Nat.le_of_ble_eq_true rfl, Nat.le_of_ble_eq_true rfl⟩) ?_
  refine lv_if_le (tgt := 25) hC.1 hC.2.1 dX5_firstBar_19 (by decide) (fun c_19 => ?_) (fun c_19 => ?_)
  · refine lv_aload_n hC.1 hC.2.1 dX5_firstBar_25 rfl (lv_at hl 1 rfl) ?_
    refine lv_aload_n hC.1 hC.2.1 dX5_firstBar_26 rfl (lv_at hl 0 rfl) ?_
    refine ec_get hC hK (hw.an ha1).1 fX5_135 rfl dX5_firstBar_27 ?_
    refine lv_aload_n hC.1 hC.2.1 dX5_firstBar_30 rfl (lv_at hl 0 rfl) ?_
    refine ec_get hC hK (hw.an ha1).1 fX5_259 rfl dX5_firstBar_31 ?_
    refine lv_aload_n hC.1 hC.2.1 dX5_firstBar_34 rfl (lv_at hl 0 rfl) ?_
    refine ec_get hC hK (hw.an ha1).1 fX5_266 rfl dX5_firstBar_35 ?_
    refine ec_go1 (ec_rV hC (c_X5_newestAnswer l G X M tg ad (M.1 1 a) (M.1 2 a) (ad 6 a) (M.2.1 1 a) ha9.1 ha9.2) kX5_122 (hOk.at hS hAN) ⟨hw, (hw.an ha1).2.1⟩ (ec_rc hK hw.1.1 ⟨_, _, rfl⟩) hl.1 ⟨Nat.le_of_ble_eq_true rfl, Nat.le_of_ble_eq_true rfl⟩ rfl (Nat.le_of_ble_eq_true rfl) dX5_firstBar_38 ⟨Nat.le_of_ble_eq_true rfl, Nat.le_of_ble_eq_true rfl⟩) ?_
    refine lv_aload_n hC.1 hC.2.1 dX5_firstBar_41 rfl (lv_at hl 0 rfl) ?_
    refine lv_acmp_eq (rx := ((latN M (M.1 1 a) (M.2.1 1 a) (M.1 2 a) (mnA M)).map (ad 5))) (ry := (some (ad 5 a))) (tgt := 48) hC.1 hC.2.1 dX5_firstBar_42 (by decide) (fun c_42 => ?_) (fun c_42 => ?_)
    · refine lv_aload_n hC.1 hC.2.1 dX5_firstBar_48 rfl (lv_at hl 0 rfl) ?_
      refine lv_aload_n hC.1 hC.2.1 dX5_firstBar_49 rfl (lv_at hl 1 rfl) ?_
      refine ec_get hC hK hw.1.1 fX5_25 rfl dX5_firstBar_50 ?_
      refine ec_go1 (ec_rV hC (c_X0_ageAt l G (ad 5 a) (ad 3 (M.1 1 a)) 0 _ _ _ _ _ (mhr M) (M.2.1 2 a) (M.2.1 0 (M.1 1 a)) (M.2.1 3 a)) kX5_118 (hOk.at hS hAN) ⟨(hw.an ha1).1, (hw.ro ha9.1).1⟩ (ec_rc hK (hw.an ha1).1 ⟨_, _, rfl⟩) hl.1 ⟨Nat.le_of_ble_eq_true rfl, Nat.le_of_ble_eq_true rfl⟩ rfl (Nat.le_of_ble_eq_true rfl) dX5_firstBar_53 ⟨Nat.le_of_ble_eq_true rfl, Nat.le_of_ble_eq_true rfl⟩) ?_
      refine lv_aload_n hC.1 hC.2.1 dX5_firstBar_56 rfl (lv_at hl 1 rfl) ?_
      refine ec_get hC hK hw.1.1 fX5_29 rfl dX5_firstBar_57 ?_
      refine lv_icmp_le (tgt := 66) hC.1 hC.2.1 dX5_firstBar_60 (by decide) (fun c_60 => ?_) (fun c_60 => ?_)
      · refine lv_bipush (v := 45) hC.1 hC.2.1 dX5_firstBar_66 (by decide) ?_
        have h19 : M.1 0 (M.1 1 a) = M.1 2 a := (dif_0 (hw.wf.rs _) ha9.2).mp (by
          rcases Nat.eq_zero_or_pos (dif (M.1 0 (M.1 1 a)) (M.1 2 a)) with q | q
          · exact q
          · exact absurd c_19 (Int32.not_le.mpr (nI_lt (a := 0) q (by have := dif_le (M.1 0 (M.1 1 a)) (M.1 2 a); omega))))
        have h42 : latN M (M.1 1 a) (M.2.1 1 a) (M.1 2 a) (mnA M) = some a := by
          cases hq : latN M (M.1 1 a) (M.2.1 1 a) (M.1 2 a) (mnA M) with
          | none => rw [hq] at c_42; cases c_42
          | some b => rw [hq] at c_42; rw [(hw.ane (latN_lt hq) ha1).mp (Option.some.inj c_42)]
        exact W.zret hC.1 hC.2.1 hr rfl (fun t9 ht9 _ => ⟨_, rfl, (ec_int (by rw [hbar, if_pos h19, if_pos h42, if_neg (show ¬ mlm M < ageM M a from Int32.not_lt.mpr c_60)])), ht9⟩) hS.2.2 dX5_firstBar_68
      · refine lv_bipush (v := 111) hC.1 hC.2.1 dX5_firstBar_63 (by decide) ?_
        have h19 : M.1 0 (M.1 1 a) = M.1 2 a := (dif_0 (hw.wf.rs _) ha9.2).mp (by
          rcases Nat.eq_zero_or_pos (dif (M.1 0 (M.1 1 a)) (M.1 2 a)) with q | q
          · exact q
          · exact absurd c_19 (Int32.not_le.mpr (nI_lt (a := 0) q (by have := dif_le (M.1 0 (M.1 1 a)) (M.1 2 a); omega))))
        have h42 : latN M (M.1 1 a) (M.2.1 1 a) (M.1 2 a) (mnA M) = some a := by
          cases hq : latN M (M.1 1 a) (M.2.1 1 a) (M.1 2 a) (mnA M) with
          | none => rw [hq] at c_42; cases c_42
          | some b => rw [hq] at c_42; rw [(hw.ane (latN_lt hq) ha1).mp (Option.some.inj c_42)]
        exact W.zret hC.1 hC.2.1 hr rfl (fun t9 ht9 _ => ⟨_, rfl, (ec_int (by rw [hbar, if_pos h19, if_pos h42, if_pos (show mlm M < ageM M a from Int32.not_le.mp c_60)])), ht9⟩) hS.2.2 dX5_firstBar_65
    · refine lv_bipush (v := 108) hC.1 hC.2.1 dX5_firstBar_45 (by decide) ?_
      have h19 : M.1 0 (M.1 1 a) = M.1 2 a := (dif_0 (hw.wf.rs _) ha9.2).mp (by
        rcases Nat.eq_zero_or_pos (dif (M.1 0 (M.1 1 a)) (M.1 2 a)) with q | q
        · exact q
        · exact absurd c_19 (Int32.not_le.mpr (nI_lt (a := 0) q (by have := dif_le (M.1 0 (M.1 1 a)) (M.1 2 a); omega))))
      exact W.zret hC.1 hC.2.1 hr rfl (fun t9 ht9 _ => ⟨_, rfl, (ec_int (by rw [hbar, if_pos h19, if_neg (fun z => c_42 (by rw [z]; rfl))])), ht9⟩) hS.2.2 dX5_firstBar_47
  · refine lv_bipush (v := 115) hC.1 hC.2.1 dX5_firstBar_22 (by decide) ?_
    exact W.zret hC.1 hC.2.1 hr rfl (fun t9 ht9 _ => ⟨_, rfl, (ec_int (by rw [hbar, if_neg (fun z => c_19 (by rw [(dif_0 (hw.wf.rs _) ha9.2).mpr z]; exact Int32.le_refl _))])), ht9⟩) hS.2.2 dX5_firstBar_24

set_option maxHeartbeats 4000000 in
set_option maxRecDepth 100000 in
/-- the first booking with which these clash -/
theorem c_X5_firstClash (l : Launch) (G : ecG) (X : Nat → Prop) (M : ecM) (tg : Nat → Nat) (ad : Nat → Nat → Nat) (r k q : Nat) (f2 l2 : Int32) (hr9 : r < mnR M) (hk9 : k < 80) : Met l yX5_firstClash (ecWs yX5_firstClash cX5_firstClash 7 (Option.some (FieldType.object "EchoChamber$Booking"))) (ecRm 4 0 0) (ecPc [.ref (ad 0 0), .ref (ad 3 r), .ref q, .int f2, .int l2] G (fun H => ecO G X M tg ad H ∧ ecA G q (eO 4 (stL k)) H)) (ecRp (fun v => v = some (va_rf ((clM M r k f2 l2).map (ad 11))))) 0 0 (fun _ => False) := by
  refine ec_met (by decide) (Nat.le_of_ble_eq_true rfl) ?_
  intro p e s m below meth c hC hr hlocks hname hOk hpre ls hl
  have hK := hOk.1
  obtain ⟨hw, hq⟩ := hpre
  have hS : va_S (fun _ => False) s.heap s.heap [] := va_S.rf
  have hAN : ∀ q, (fun _ : Nat => False) q → ecN0 G ≤ q := fun _ h => h.elim
  have hl : lv_has ls 7 [(0, .ref (ad 0 0)), (1, .ref (ad 3 r)), (2, .ref q), (3, .int f2), (4, .int l2)] := hl
  refine lv_iconst (v := 0) hC.1 hC.2.1 dX5_firstClash_0 (by decide) ?_
  refine lv_istore (lv' := [(5, .int 0), (0, .ref (ad 0 0)), (1, .ref (ad 3 r)), (2, .ref q), (3, .int f2), (4, .int l2)]) hC.1 hC.2.1 dX5_firstClash_1 hl (by decide) rfl (fun ls hl => ?_)
  refine ec_loopR (n := mnB M) (fun i ls => lv_has ls 7 [(5, .int (nI i)), (0, .ref (ad 0 0)), (1, .ref (ad 3 r)), (2, .ref q), (3, .int f2), (4, .int l2)] ∧ clM M r k f2 l2 = fstN (clB M r k f2 l2) i (mnB M - i)) ⟨⟨hl.1, hl.2.1, (ec_lvc (lv_at hl 0 rfl) (ec_lvc (lv_at hl 1 rfl) (ec_lvc (lv_at hl 2 rfl) (ec_lvc (lv_at hl 3 rfl) (ec_lvc (lv_at hl 4 rfl) (ec_lvc (lv_at hl 5 rfl) ec_lvn))))))⟩, rfl⟩ (fun ls h9 => ?_) (fun i ls hi h9 hk => ?_)
  · obtain ⟨hl, hI⟩ := h9
    refine lv_iload hC.1 hC.2.1 dX5_firstClash_3 (lv_at hl 0 rfl) ?_
    refine lv_aload_n hC.1 hC.2.1 dX5_firstClash_5 rfl (lv_at hl 1 rfl) ?_
    refine ec_get hC hK hw.1.1 fX5_22 rfl dX5_firstClash_6 ?_
    obtain ⟨v0_z1, v1_z1, hL_z1⟩ := (hw.2.1 3 (by decide)).obj
    refine ec_go1 (ec_rV hC (c_Jx4a65c_size_8abf5 l G (ad 1 3) v0_z1 v1_z1 (nI (M.1 7 3))) kX5_32 (hOk.at hS hAN) hL_z1.1 (ec_rc hK hL_z1.1 ⟨_, _, rfl⟩) hl.1 ⟨Nat.le_of_ble_eq_true rfl, Nat.le_of_ble_eq_true rfl⟩ rfl (Nat.le_of_ble_eq_true rfl) dX5_firstClash_9 ⟨Nat.le_of_ble_eq_true rfl, Nat.le_of_ble_eq_true rfl⟩) ?_
    refine lv_icmp_ge (tgt := 59) hC.1 hC.2.1 dX5_firstClash_12 (by decide) (fun c_12 => ?_) (fun c => absurd (Int32.le_refl _) c)
    refine lv_null hC.1 hC.2.1 dX5_firstClash_59 ?_
    exact W.aret hC.1 hC.2.1 hr (Or.inl ⟨_, rfl⟩) (Or.inl rfl) (fun t9 ht9 _ => ⟨_, rfl, (by rw [hI, Nat.sub_self]; rfl), ht9⟩) hS.2.2 dX5_firstClash_60
  · obtain ⟨hl, hI⟩ := h9
    refine lv_iload hC.1 hC.2.1 dX5_firstClash_3 (lv_at hl 0 rfl) ?_
    refine lv_aload_n hC.1 hC.2.1 dX5_firstClash_5 rfl (lv_at hl 1 rfl) ?_
    refine ec_get hC hK hw.1.1 fX5_22 rfl dX5_firstClash_6 ?_
    obtain ⟨v0_z2, v1_z2, hL_z2⟩ := (hw.2.1 3 (by decide)).obj
    refine ec_go1 (ec_rV hC (c_Jx4a65c_size_8abf5 l G (ad 1 3) v0_z2 v1_z2 (nI (M.1 7 3))) kX5_32 (hOk.at hS hAN) hL_z2.1 (ec_rc hK hL_z2.1 ⟨_, _, rfl⟩) hl.1 ⟨Nat.le_of_ble_eq_true rfl, Nat.le_of_ble_eq_true rfl⟩ rfl (Nat.le_of_ble_eq_true rfl) dX5_firstClash_9 ⟨Nat.le_of_ble_eq_true rfl, Nat.le_of_ble_eq_true rfl⟩) ?_
    refine lv_icmp_ge (tgt := 59) hC.1 hC.2.1 dX5_firstClash_12 (by decide) (fun c => absurd c (fun z => Int32.lt_irrefl (Int32.lt_of_lt_of_le (nI_lt (b := mnB M) hi (by have := hw.wf.n; omega)) z))) (fun c_12 => ?_)
    refine lv_aload_n hC.1 hC.2.1 dX5_firstClash_15 rfl (lv_at hl 1 rfl) ?_
    refine ec_get hC hK hw.1.1 fX5_22 rfl dX5_firstClash_16 ?_
    refine lv_iload hC.1 hC.2.1 dX5_firstClash_19 (lv_at hl 0 rfl) ?_
    obtain ⟨v0_g3, cap_g3, g_g3, hc_g3, hn_g3, hL_g3, hD_g3, hg_g3⟩ := (hw.2.1 3 (by decide)).el (i := i) hi
    refine ec_go1 (ec_rV hC (c_Jx4a65c_get_915e3 l G (ad 1 3) (ad 2 3) i (M.1 7 3) cap_g3 v0_g3 g_g3 hi hn_g3 (by omega)) kX5_131 (hOk.at hS hAN) ⟨hL_g3, hD_g3⟩ (ec_rc hK hL_g3 ⟨_, _, rfl⟩) hl.1 ⟨Nat.le_of_ble_eq_true rfl, Nat.le_of_ble_eq_true rfl⟩ rfl (Nat.le_of_ble_eq_true rfl) dX5_firstClash_21 ⟨Nat.le_of_ble_eq_true rfl, Nat.le_of_ble_eq_true rfl⟩) ?_
    refine ec_topv (y := .ref (ad 11 i)) (by rw [hg_g3]; rfl) ?_
    refine ec_cast hC hK (hw.bk hi).1 ⟨_, _, rfl⟩ nX5_207.1 dX5_firstClash_24 ?_
    refine lv_astore (lv' := [(6, .ref (ad 11 i)), (5, .int (nI i)), (0, .ref (ad 0 0)), (1, .ref (ad 3 r)), (2, .ref q), (3, .int f2), (4, .int l2)]) hC.1 hC.2.1 dX5_firstClash_27 hl (by decide) rfl (fun ls hl => ?_)
    refine lv_aload hC.1 hC.2.1 dX5_firstClash_29 (lv_at hl 0 rfl) ?_
    refine lv_aload_n hC.1 hC.2.1 dX5_firstClash_31 rfl (lv_at hl 3 rfl) ?_
    refine ec_go1 (ec_rV hC (c_X1_standsFor l G (ad 11 i) (ad 3 (M.1 4 i)) (ad 3 r) (M.1 6 i) _ _ _ _ (hw.wf.gn i)) kX5_238 (hOk.at hS hAN) (hw.bk hi).1 (ec_rc hK (hw.bk hi).1 ⟨_, _, rfl⟩) hl.1 ⟨Nat.le_of_ble_eq_true rfl, Nat.le_of_ble_eq_true rfl⟩ rfl (Nat.le_of_ble_eq_true rfl) dX5_firstClash_32 ⟨Nat.le_of_ble_eq_true rfl, Nat.le_of_ble_eq_true rfl⟩) ?_
    refine lv_if_eq (tgt := 53) hC.1 hC.2.1 dX5_firstClash_35 (by decide) (fun c_35 => ?_) (fun c_35 => ?_)
    · refine lv_iinc (v := (nI (i + 1))) (lv' := [(5, .int (nI (i + 1))), (6, .ref (ad 11 i)), (0, .ref (ad 0 0)), (1, .ref (ad 3 r)), (2, .ref q), (3, .int f2), (4, .int l2)]) hC.1 hC.2.1 dX5_firstClash_53 hl (k := 1) rfl (nI_1 _) (by decide) rfl (fun ls hl => ?_)
      refine lv_goto (tgt := 3) hC.1 hC.2.1 dX5_firstClash_56 (by decide) ?_
      have he : mnB M - i = (mnB M - (i + 1)) + 1 := by omega
      have hcl : clB M r k f2 l2 i = false := by
        unfold clB
        rcases Bool.and_eq_false_iff.mp ((bI_0 _).mp c_35) with z | z
        · rw [z, Bool.false_and, Bool.false_and]
        · rw [decide_eq_false (fun y => of_decide_eq_false z ((hw.rne (hw.wf.bk hi).1 hr9).mpr y)), Bool.and_false, Bool.false_and]
      have hi3 : clM M r k f2 l2 = fstN (clB M r k f2 l2) (i + 1) (mnB M - (i + 1)) := by rw [hI, he, fstN_s, hcl]; rfl
      exact hk ls ⟨⟨hl.1, hl.2.1, (ec_lvc (lv_at hl 0 rfl) (ec_lvc (lv_at hl 2 rfl) (ec_lvc (lv_at hl 3 rfl) (ec_lvc (lv_at hl 4 rfl) (ec_lvc (lv_at hl 5 rfl) (ec_lvc (lv_at hl 6 rfl) ec_lvn))))))⟩, hi3⟩
    · refine lv_aload hC.1 hC.2.1 dX5_firstClash_38 (lv_at hl 0 rfl) ?_
      refine lv_aload_n hC.1 hC.2.1 dX5_firstClash_40 rfl (lv_at hl 4 rfl) ?_
      refine lv_iload_n hC.1 hC.2.1 dX5_firstClash_41 rfl (lv_at hl 5 rfl) ?_
      refine lv_iload hC.1 hC.2.1 dX5_firstClash_42 (lv_at hl 6 rfl) ?_
      refine ec_go1 (ec_rV hC (c_X1_isTooNear l G (ad 11 i) (ad 12 i) q (M.1 5 i) k _ _ _ (M.2.1 7 i) (M.2.1 8 i) f2 l2 (hw.wf.bk hi).2.1 hk9) kX5_270 (hOk.at hS hAN) ⟨(hw.bk hi).1, (hw.bk hi).2, hq⟩ (ec_rc hK (hw.bk hi).1 ⟨_, _, rfl⟩) hl.1 ⟨Nat.le_of_ble_eq_true rfl, Nat.le_of_ble_eq_true rfl⟩ rfl (Nat.le_of_ble_eq_true rfl) dX5_firstClash_44 ⟨Nat.le_of_ble_eq_true rfl, Nat.le_of_ble_eq_true rfl⟩) ?_
      refine lv_if_eq (tgt := 53) hC.1 hC.2.1 dX5_firstClash_47 (by decide) (fun c_47 => ?_) (fun c_47 => ?_)
      · refine lv_iinc (v := (nI (i + 1))) (lv' := [(5, .int (nI (i + 1))), (6, .ref (ad 11 i)), (0, .ref (ad 0 0)), (1, .ref (ad 3 r)), (2, .ref q), (3, .int f2), (4, .int l2)]) hC.1 hC.2.1 dX5_firstClash_53 hl (k := 1) rfl (nI_1 _) (by decide) rfl (fun ls hl => ?_)
        refine lv_goto (tgt := 3) hC.1 hC.2.1 dX5_firstClash_56 (by decide) ?_
        have he : mnB M - i = (mnB M - (i + 1)) + 1 := by omega
        have hcl : clB M r k f2 l2 i = false := by
          unfold clB
          rw [show nearB M i k f2 l2 = false from (bI_0 _).mp c_47, Bool.and_false]
        have hi3 : clM M r k f2 l2 = fstN (clB M r k f2 l2) (i + 1) (mnB M - (i + 1)) := by rw [hI, he, fstN_s, hcl]; rfl
        exact hk ls ⟨⟨hl.1, hl.2.1, (ec_lvc (lv_at hl 0 rfl) (ec_lvc (lv_at hl 2 rfl) (ec_lvc (lv_at hl 3 rfl) (ec_lvc (lv_at hl 4 rfl) (ec_lvc (lv_at hl 5 rfl) (ec_lvc (lv_at hl 6 rfl) ec_lvn))))))⟩, hi3⟩
      · refine lv_aload hC.1 hC.2.1 dX5_firstClash_50 (lv_at hl 0 rfl) ?_
        have he : mnB M - i = (mnB M - (i + 1)) + 1 := by omega
        have h35 := (bI_n0 _).mp c_35
        rw [Bool.and_eq_true, decide_eq_true_eq, decide_eq_true_eq] at h35
        have hcl : clB M r k f2 l2 i = true := by
          unfold clB
          rw [decide_eq_true h35.1, decide_eq_true ((hw.rne (hw.wf.bk hi).1 hr9).mp h35.2), show nearB M i k f2 l2 = true from (bI_n0 _).mp c_47]
          rfl
        exact W.aret hC.1 hC.2.1 hr (Or.inl ⟨_, rfl⟩) (Or.inr ⟨_, rfl⟩) (fun t9 ht9 _ => ⟨_, rfl, (by rw [hI, he, fstN_s, if_pos hcl]; rfl), ht9⟩) hS.2.2 dX5_firstClash_52

set_option maxHeartbeats 4000000 in
set_option maxRecDepth 100000 in
/-- how many bookings stand -/
theorem c_X5_standingBookings (l : Launch) (G : ecG) (X : Nat → Prop) (M : ecM) (tg : Nat → Nat) (ad : Nat → Nat → Nat) : Met l yX5_standingBookings (ecWs yX5_standingBookings cX5_standingBookings 3 (Option.some FieldType.int)) (ecRm 4 0 0) (ecPc [.ref (ad 0 0)] G (fun H => ecO G X M tg ad H)) (ecRp (fun v => v = some (.int (nI (cntN M (mnB M)))))) 0 0 (fun _ => False) := by
  refine ec_met (by decide) (Nat.le_of_ble_eq_true rfl) ?_
  intro p e s m below meth c hC hr hlocks hname hOk hpre ls hl
  have hK := hOk.1
  have hw := hpre
  have hS : va_S (fun _ => False) s.heap s.heap [] := va_S.rf
  have hAN : ∀ q, (fun _ : Nat => False) q → ecN0 G ≤ q := fun _ h => h.elim
  have hl : lv_has ls 3 [(0, .ref (ad 0 0))] := hl
  refine lv_iconst (v := 0) hC.1 hC.2.1 dX5_standingBookings_0 (by decide) ?_
  refine lv_istore_n (lv' := [(1, .int 0), (0, .ref (ad 0 0))]) hC.1 hC.2.1 dX5_standingBookings_1 rfl hl (by decide) rfl (fun ls hl => ?_)
  refine lv_iconst (v := 0) hC.1 hC.2.1 dX5_standingBookings_2 (by decide) ?_
  refine lv_istore_n (lv' := [(2, .int 0), (1, .int 0), (0, .ref (ad 0 0))]) hC.1 hC.2.1 dX5_standingBookings_3 rfl hl (by decide) rfl (fun ls hl => ?_)
  refine ec_loopR (n := mnB M) (fun i ls => lv_has ls 3 [(1, .int (nI (cntN M i))), (2, .int (nI i)), (0, .ref (ad 0 0))] ∧ True) ⟨⟨hl.1, hl.2.1, (ec_lvc (lv_at hl 1 rfl) (ec_lvc (lv_at hl 0 rfl) (ec_lvc (lv_at hl 2 rfl) ec_lvn)))⟩, trivial⟩ (fun ls h9 => ?_) (fun i ls hi h9 hk => ?_)
  · obtain ⟨hl, hI⟩ := h9
    refine lv_iload_n hC.1 hC.2.1 dX5_standingBookings_4 rfl (lv_at hl 1 rfl) ?_
    refine lv_aload_n hC.1 hC.2.1 dX5_standingBookings_5 rfl (lv_at hl 2 rfl) ?_
    refine ec_get hC hK hw.1.1 fX5_22 rfl dX5_standingBookings_6 ?_
    obtain ⟨v0_z1, v1_z1, hL_z1⟩ := (hw.2.1 3 (by decide)).obj
    refine ec_go1 (ec_rV hC (c_Jx4a65c_size_8abf5 l G (ad 1 3) v0_z1 v1_z1 (nI (M.1 7 3))) kX5_32 (hOk.at hS hAN) hL_z1.1 (ec_rc hK hL_z1.1 ⟨_, _, rfl⟩) hl.1 ⟨Nat.le_of_ble_eq_true rfl, Nat.le_of_ble_eq_true rfl⟩ rfl (Nat.le_of_ble_eq_true rfl) dX5_standingBookings_9 ⟨Nat.le_of_ble_eq_true rfl, Nat.le_of_ble_eq_true rfl⟩) ?_
    refine lv_icmp_ge (tgt := 41) hC.1 hC.2.1 dX5_standingBookings_12 (by decide) (fun c_12 => ?_) (fun c => absurd (Int32.le_refl _) c)
    refine lv_iload_n hC.1 hC.2.1 dX5_standingBookings_41 rfl (lv_at hl 0 rfl) ?_
    exact W.iret hC.1 hC.2.1 hr (fun t9 ht9 _ => ⟨_, rfl, rfl, ht9⟩) hS.2.2 dX5_standingBookings_42
  · obtain ⟨hl, hI⟩ := h9
    refine lv_iload_n hC.1 hC.2.1 dX5_standingBookings_4 rfl (lv_at hl 1 rfl) ?_
    refine lv_aload_n hC.1 hC.2.1 dX5_standingBookings_5 rfl (lv_at hl 2 rfl) ?_
    refine ec_get hC hK hw.1.1 fX5_22 rfl dX5_standingBookings_6 ?_
    obtain ⟨v0_z2, v1_z2, hL_z2⟩ := (hw.2.1 3 (by decide)).obj
    refine ec_go1 (ec_rV hC (c_Jx4a65c_size_8abf5 l G (ad 1 3) v0_z2 v1_z2 (nI (M.1 7 3))) kX5_32 (hOk.at hS hAN) hL_z2.1 (ec_rc hK hL_z2.1 ⟨_, _, rfl⟩) hl.1 ⟨Nat.le_of_ble_eq_true rfl, Nat.le_of_ble_eq_true rfl⟩ rfl (Nat.le_of_ble_eq_true rfl) dX5_standingBookings_9 ⟨Nat.le_of_ble_eq_true rfl, Nat.le_of_ble_eq_true rfl⟩) ?_
    refine lv_icmp_ge (tgt := 41) hC.1 hC.2.1 dX5_standingBookings_12 (by decide) (fun c => absurd c (fun z => Int32.lt_irrefl (Int32.lt_of_lt_of_le (nI_lt (b := mnB M) hi (by have := hw.wf.n; omega)) z))) (fun c_12 => ?_)
    refine lv_aload_n hC.1 hC.2.1 dX5_standingBookings_15 rfl (lv_at hl 2 rfl) ?_
    refine ec_get hC hK hw.1.1 fX5_22 rfl dX5_standingBookings_16 ?_
    refine lv_iload_n hC.1 hC.2.1 dX5_standingBookings_19 rfl (lv_at hl 1 rfl) ?_
    obtain ⟨v0_g3, cap_g3, g_g3, hc_g3, hn_g3, hL_g3, hD_g3, hg_g3⟩ := (hw.2.1 3 (by decide)).el (i := i) hi
    refine ec_go1 (ec_rV hC (c_Jx4a65c_get_915e3 l G (ad 1 3) (ad 2 3) i (M.1 7 3) cap_g3 v0_g3 g_g3 hi hn_g3 (by omega)) kX5_131 (hOk.at hS hAN) ⟨hL_g3, hD_g3⟩ (ec_rc hK hL_g3 ⟨_, _, rfl⟩) hl.1 ⟨Nat.le_of_ble_eq_true rfl, Nat.le_of_ble_eq_true rfl⟩ rfl (Nat.le_of_ble_eq_true rfl) dX5_standingBookings_20 ⟨Nat.le_of_ble_eq_true rfl, Nat.le_of_ble_eq_true rfl⟩) ?_
    refine ec_topv (y := .ref (ad 11 i)) (by rw [hg_g3]; rfl) ?_
    refine ec_cast hC hK (hw.bk hi).1 ⟨_, _, rfl⟩ nX5_207.1 dX5_standingBookings_23 ?_
    refine ec_get hC hK (hw.bk hi).1 fX5_222 rfl dX5_standingBookings_26 ?_
    refine lv_if_ne (tgt := 35) hC.1 hC.2.1 dX5_standingBookings_29 (by decide) (fun c_29 => ?_) (fun c_29 => ?_)
    · refine lv_iinc (v := (nI (i + 1))) (lv' := [(2, .int (nI (i + 1))), (1, .int (nI (cntN M i))), (0, .ref (ad 0 0))]) hC.1 hC.2.1 dX5_standingBookings_35 hl (k := 1) rfl (nI_1 _) (by decide) rfl (fun ls hl => ?_)
      refine lv_goto (tgt := 4) hC.1 hC.2.1 dX5_standingBookings_38 (by decide) ?_
      have e9 : cntN M (i + 1) = cntN M i := by rw [cntN_s, if_neg (fun z => c_29 (by rw [z]; rfl))]; rfl
      rw [← e9] at hl
      exact hk ls ⟨⟨hl.1, hl.2.1, (ec_lvc (lv_at hl 1 rfl) (ec_lvc (lv_at hl 0 rfl) (ec_lvc (lv_at hl 2 rfl) ec_lvn)))⟩, trivial⟩
    · refine lv_iinc (v := (nI ((cntN M i) + 1))) (lv' := [(1, .int (nI ((cntN M i) + 1))), (2, .int (nI i)), (0, .ref (ad 0 0))]) hC.1 hC.2.1 dX5_standingBookings_32 hl (k := 0) rfl (nI_1 _) (by decide) rfl (fun ls hl => ?_)
      refine lv_iinc (v := (nI (i + 1))) (lv' := [(2, .int (nI (i + 1))), (1, .int (nI ((cntN M i) + 1))), (0, .ref (ad 0 0))]) hC.1 hC.2.1 dX5_standingBookings_35 hl (k := 1) rfl (nI_1 _) (by decide) rfl (fun ls hl => ?_)
      refine lv_goto (tgt := 4) hC.1 hC.2.1 dX5_standingBookings_38 (by decide) ?_
      have e9 : cntN M (i + 1) = cntN M i + 1 := by rw [cntN_s, if_pos ((nI_eq (a := M.1 6 i) (b := 0) (by have := hw.wf.gn i; omega) (by decide)).mp c_29)]
      rw [← e9] at hl
      exact hk ls ⟨⟨hl.1, hl.2.1, (ec_lvc (lv_at hl 1 rfl) (ec_lvc (lv_at hl 0 rfl) (ec_lvc (lv_at hl 2 rfl) ec_lvn)))⟩, trivial⟩

set_option maxHeartbeats 4000000 in
set_option maxRecDepth 100000 in
/-- a state out of its parts -/
theorem c_X5_stateOf (l : Launch) (hls : l.stackTraces = false) (G : ecG) (c0 s0 : Int32) (o : Bool) (sz : Nat) : vx_Met l yX5_stateOf (ecWs yX5_stateOf cX5_stateOf 3 (Option.some (FieldType.object "EchoChamber$State"))) (ecRm 6 1 6) (ecPc [.int c0, .int s0, .int (bI o)] G (fun H => H.size = sz)) (ecEp (fun v H1 => ∃ q : Nat, v = some (.ref q) ∧ (sz ≤ q ∧ stB c0 s0 = true ∧ ecA G q (eO 4 (stL (cdN c0 s0 o))) H1)) (fun x : Nat => sz ≤ x)) (ecXc (fun E => E = eAG ∧ stB c0 s0 = false)) 1 6 (fun x : Nat => sz ≤ x) := by
  refine ec_xmet (by decide) (Nat.le_of_ble_eq_true rfl) ?_
  intro p e s m below meth c hC hr hlocks hnx hOk hpre ls hl
  have hK := hOk.1
  have hsz := hpre
  have hS : va_S (fun x : Nat => sz ≤ x) s.heap s.heap [] := va_S.rf
  have hkp : ecKp s.heap s.heap := ecKp.rf
  have hAN : ∀ q, (fun x : Nat => sz ≤ x) q → ecN0 G ≤ q := fun q h => Nat.le_trans hOk.2.1 (by rw [hsz]; exact h)
  have hl : lv_has ls 3 [(0, .int c0), (1, .int s0), (2, .int (bI o))] := hl
  refine lv_iload_n hC.1 hC.2.1 dX5_stateOf_0 rfl (lv_at hl 0 rfl) ?_
  refine lv_if_lt (tgt := 19) hC.1 hC.2.1 dX5_stateOf_1 (by decide) (fun c_1 => ?_) (fun c_1 => ?_)
  · exact ec_throw hC hls xX5_90 hOk hAN hS hkp (is := 253) (text := "there is no such state") (by decide) hl.1 hnx hlocks dX5_stateOf_19 dX5_stateOf_22 dX5_stateOf_23 dX5_stateOf_25 dX5_stateOf_28 ⟨rfl, by unfold stB; rw [rgB_lo c_1, Bool.false_and]⟩ ⟨Nat.le_of_ble_eq_true rfl, Nat.le_of_ble_eq_true rfl, Nat.le_of_ble_eq_true rfl, Nat.le_of_ble_eq_true rfl⟩ (Nat.le_of_ble_eq_true rfl) (Nat.le_of_ble_eq_true rfl)
  · refine lv_iload_n hC.1 hC.2.1 dX5_stateOf_4 rfl (lv_at hl 0 rfl) ?_
    refine lv_iconst (v := 3) hC.1 hC.2.1 dX5_stateOf_5 (by decide) ?_
    refine lv_icmp_gt (tgt := 19) hC.1 hC.2.1 dX5_stateOf_6 (by decide) (fun c_6 => ?_) (fun c_6 => ?_)
    · exact ec_throw hC hls xX5_90 hOk hAN hS hkp (is := 253) (text := "there is no such state") (by decide) hl.1 hnx hlocks dX5_stateOf_19 dX5_stateOf_22 dX5_stateOf_23 dX5_stateOf_25 dX5_stateOf_28 ⟨rfl, by unfold stB; rw [rgB_hi c_6, Bool.false_and]⟩ ⟨Nat.le_of_ble_eq_true rfl, Nat.le_of_ble_eq_true rfl, Nat.le_of_ble_eq_true rfl, Nat.le_of_ble_eq_true rfl⟩ (Nat.le_of_ble_eq_true rfl) (Nat.le_of_ble_eq_true rfl)
    · refine lv_iload_n hC.1 hC.2.1 dX5_stateOf_9 rfl (lv_at hl 1 rfl) ?_
      refine lv_if_lt (tgt := 19) hC.1 hC.2.1 dX5_stateOf_10 (by decide) (fun c_10 => ?_) (fun c_10 => ?_)
      · exact ec_throw hC hls xX5_90 hOk hAN hS hkp (is := 253) (text := "there is no such state") (by decide) hl.1 hnx hlocks dX5_stateOf_19 dX5_stateOf_22 dX5_stateOf_23 dX5_stateOf_25 dX5_stateOf_28 ⟨rfl, by unfold stB; rw [rgB_lo c_10, Bool.and_false]⟩ ⟨Nat.le_of_ble_eq_true rfl, Nat.le_of_ble_eq_true rfl, Nat.le_of_ble_eq_true rfl, Nat.le_of_ble_eq_true rfl⟩ (Nat.le_of_ble_eq_true rfl) (Nat.le_of_ble_eq_true rfl)
      · refine lv_iload_n hC.1 hC.2.1 dX5_stateOf_13 rfl (lv_at hl 1 rfl) ?_
        refine lv_bipush (v := 9) hC.1 hC.2.1 dX5_stateOf_14 (by decide) ?_
        refine lv_icmp_le (tgt := 29) hC.1 hC.2.1 dX5_stateOf_16 (by decide) (fun c_16 => ?_) (fun c_16 => ?_)
        · have hst : stB c0 s0 = true := by unfold stB; rw [rgB_ok c_1 c_6, rgB_ok2 c_10 c_16]; rfl
          refine ec_new hC hK hS cfX4 nX5_45 (fs := [.int 0, .int 0, .int 0]) (lt_s (lt_s (lt_s lt_0 rfl) rfl) rfl) (Nat.le_of_ble_eq_true rfl) (Nat.le_of_ble_eq_true rfl) dX5_stateOf_29 (fun q H hq0 ha hkp1 hS hz => ?_)
          have hqs : sz ≤ q := by rw [hq0, hsz]; exact Nat.le_refl _
          refine lv_dup hC.1 hC.2.1 dX5_stateOf_32 rfl ?_
          refine lv_iload_n hC.1 hC.2.1 dX5_stateOf_33 rfl (lv_at hl 0 rfl) ?_
          refine lv_iload_n hC.1 hC.2.1 dX5_stateOf_34 rfl (lv_at hl 1 rfl) ?_
          refine lv_iload_n hC.1 hC.2.1 dX5_stateOf_35 rfl (lv_at hl 2 rfl) ?_
          refine ec_goE0 (ec_rI hC (c_X4_init l G q c0 s0 o) kX5_47 (hOk.at hS hAN) ha hl.1 ⟨Nat.le_of_ble_eq_true rfl, Nat.le_of_ble_eq_true rfl⟩ rfl (Nat.le_of_ble_eq_true rfl) dX5_stateOf_36 ⟨Nat.le_of_ble_eq_true rfl, Nat.le_of_ble_eq_true rfl⟩) hS (fun z h => by rw [h]; exact hqs) (fun H locs ha hz hk1 hS => ?_)
          refine vx_ret ?_
          refine W.widen (k := 1) (n := 6) (Nat.le_of_ble_eq_true rfl) (Nat.le_of_ble_eq_true rfl) ?_
          exact W.aret hC.1 hC.2.1 hr (Or.inl ⟨_, rfl⟩) (Or.inr ⟨_, rfl⟩) (fun t9 ht9 _ => ⟨_, rfl, by rw [ht9]; exact ⟨q, rfl, hqs, hst, by rw [(cdN_3 o hst).2]; exact ha⟩, hS.F ht9⟩) hS.2.2 dX5_stateOf_39
        · exact ec_throw hC hls xX5_90 hOk hAN hS hkp (is := 253) (text := "there is no such state") (by decide) hl.1 hnx hlocks dX5_stateOf_19 dX5_stateOf_22 dX5_stateOf_23 dX5_stateOf_25 dX5_stateOf_28 ⟨rfl, by unfold stB; rw [rgB_hi2 c_16, Bool.and_false]⟩ ⟨Nat.le_of_ble_eq_true rfl, Nat.le_of_ble_eq_true rfl, Nat.le_of_ble_eq_true rfl, Nat.le_of_ble_eq_true rfl⟩ (Nat.le_of_ble_eq_true rfl) (Nat.le_of_ble_eq_true rfl)

set_option maxHeartbeats 4000000 in
set_option maxRecDepth 100000 in
/-- a place is one -/
theorem c_X5_checkPlace (l : Launch) (hls : l.stackTraces = false) (G : ecG) (pl : Int32) : vx_Met l yX5_checkPlace (ecWs yX5_checkPlace cX5_checkPlace 1 none) (ecRm 6 1 6) (ecPc [.int pl] G (fun H => True)) (ecRp (fun v => v = none ∧ rgB pl 0 9 = true)) (ecXc (fun E => E = eAG ∧ rgB pl 0 9 = false)) 1 6 (fun _ => False) := by
  refine ec_xmet (by decide) (Nat.le_of_ble_eq_true rfl) ?_
  intro p e s m below meth c hC hr hlocks hnx hOk hpre ls hl
  have hK := hOk.1
  have hS : va_S (fun _ => False) s.heap s.heap [] := va_S.rf
  have hkp : ecKp s.heap s.heap := ecKp.rf
  have hAN : ∀ q, (fun _ => False) q → ecN0 G ≤ q := fun _ h => h.elim
  have hl : lv_has ls 1 [(0, .int pl)] := hl
  refine lv_iload_n hC.1 hC.2.1 dX5_checkPlace_0 rfl (lv_at hl 0 rfl) ?_
  refine lv_if_lt (tgt := 10) hC.1 hC.2.1 dX5_checkPlace_1 (by decide) (fun c_1 => ?_) (fun c_1 => ?_)
  · exact ec_throw hC hls xX5_90 hOk hAN hS hkp (is := 255) (text := "there is no such place") (by decide) hl.1 hnx hlocks dX5_checkPlace_10 dX5_checkPlace_13 dX5_checkPlace_14 dX5_checkPlace_16 dX5_checkPlace_19 ⟨rfl, rgB_lo c_1⟩ ⟨Nat.le_of_ble_eq_true rfl, Nat.le_of_ble_eq_true rfl, Nat.le_of_ble_eq_true rfl, Nat.le_of_ble_eq_true rfl⟩ (Nat.le_of_ble_eq_true rfl) (Nat.le_of_ble_eq_true rfl)
  · refine lv_iload_n hC.1 hC.2.1 dX5_checkPlace_4 rfl (lv_at hl 0 rfl) ?_
    refine lv_bipush (v := 9) hC.1 hC.2.1 dX5_checkPlace_5 (by decide) ?_
    refine lv_icmp_le (tgt := 20) hC.1 hC.2.1 dX5_checkPlace_7 (by decide) (fun c_7 => ?_) (fun c_7 => ?_)
    · refine vx_ret ?_
      refine W.widen (k := 1) (n := 6) (Nat.le_of_ble_eq_true rfl) (Nat.le_of_ble_eq_true rfl) ?_
      exact W.vret hC.1 hC.2.1 hr (fun t9 ht9 _ => ⟨_, rfl, ⟨rfl, rgB_ok2 c_1 c_7⟩, ht9⟩) hS.2.2 dX5_checkPlace_20
    · exact ec_throw hC hls xX5_90 hOk hAN hS hkp (is := 255) (text := "there is no such place") (by decide) hl.1 hnx hlocks dX5_checkPlace_10 dX5_checkPlace_13 dX5_checkPlace_14 dX5_checkPlace_16 dX5_checkPlace_19 ⟨rfl, rgB_hi2 c_7⟩ ⟨Nat.le_of_ble_eq_true rfl, Nat.le_of_ble_eq_true rfl, Nat.le_of_ble_eq_true rfl, Nat.le_of_ble_eq_true rfl⟩ (Nat.le_of_ble_eq_true rfl) (Nat.le_of_ble_eq_true rfl)

set_option maxHeartbeats 4000000 in
set_option maxRecDepth 100000 in
/-- a sample is one -/
theorem c_X5_checkSample (l : Launch) (hls : l.stackTraces = false) (G : ecG) (pl : Int32) : vx_Met l yX5_checkSample (ecWs yX5_checkSample cX5_checkSample 1 none) (ecRm 6 1 6) (ecPc [.int pl] G (fun H => True)) (ecRp (fun v => v = none ∧ rgB pl (-9) 9 = true)) (ecXc (fun E => E = eAG ∧ rgB pl (-9) 9 = false)) 1 6 (fun _ => False) := by
  refine ec_xmet (by decide) (Nat.le_of_ble_eq_true rfl) ?_
  intro p e s m below meth c hC hr hlocks hnx hOk hpre ls hl
  have hK := hOk.1
  have hS : va_S (fun _ => False) s.heap s.heap [] := va_S.rf
  have hkp : ecKp s.heap s.heap := ecKp.rf
  have hAN : ∀ q, (fun _ => False) q → ecN0 G ≤ q := fun _ h => h.elim
  have hl : lv_has ls 1 [(0, .int pl)] := hl
  refine lv_iload_n hC.1 hC.2.1 dX5_checkSample_0 rfl (lv_at hl 0 rfl) ?_
  refine lv_bipush (v := -9) hC.1 hC.2.1 dX5_checkSample_1 (by decide) ?_
  refine lv_icmp_lt (tgt := 12) hC.1 hC.2.1 dX5_checkSample_3 (by decide) (fun c_3 => ?_) (fun c_3 => ?_)
  · exact ec_throwW hC hls xX5_90 hOk hAN hS hkp (is := 257) (text := "a sample is from -9 to 9") (by decide) hl.1 hnx hlocks dX5_checkSample_12 dX5_checkSample_15 dX5_checkSample_16 dX5_checkSample_19 dX5_checkSample_22 ⟨rfl, rgB_lo c_3⟩ ⟨Nat.le_of_ble_eq_true rfl, Nat.le_of_ble_eq_true rfl, Nat.le_of_ble_eq_true rfl, Nat.le_of_ble_eq_true rfl⟩ (Nat.le_of_ble_eq_true rfl) (Nat.le_of_ble_eq_true rfl)
  · refine lv_iload_n hC.1 hC.2.1 dX5_checkSample_6 rfl (lv_at hl 0 rfl) ?_
    refine lv_bipush (v := 9) hC.1 hC.2.1 dX5_checkSample_7 (by decide) ?_
    refine lv_icmp_le (tgt := 23) hC.1 hC.2.1 dX5_checkSample_9 (by decide) (fun c_9 => ?_) (fun c_9 => ?_)
    · refine vx_ret ?_
      refine W.widen (k := 1) (n := 6) (Nat.le_of_ble_eq_true rfl) (Nat.le_of_ble_eq_true rfl) ?_
      exact W.vret hC.1 hC.2.1 hr (fun t9 ht9 _ => ⟨_, rfl, ⟨rfl, rgB_ok2 c_3 c_9⟩, ht9⟩) hS.2.2 dX5_checkSample_23
    · exact ec_throwW hC hls xX5_90 hOk hAN hS hkp (is := 257) (text := "a sample is from -9 to 9") (by decide) hl.1 hnx hlocks dX5_checkSample_12 dX5_checkSample_15 dX5_checkSample_16 dX5_checkSample_19 dX5_checkSample_22 ⟨rfl, rgB_hi2 c_9⟩ ⟨Nat.le_of_ble_eq_true rfl, Nat.le_of_ble_eq_true rfl, Nat.le_of_ble_eq_true rfl, Nat.le_of_ble_eq_true rfl⟩ (Nat.le_of_ble_eq_true rfl) (Nat.le_of_ble_eq_true rfl)
