set_option maxHeartbeats 4000000 in
set_option maxRecDepth 100000 in
/-- the first bar -/
theorem c_X6_barOf (l : Launch) (G : ecG) (Y : Nat → Prop) (M : ecM) (th : Int32) (y : Nat) (ya : Nat → Nat) (hwf : WF M) (f : Nat) (hf : f < mnF M) : Met l yX6_barOf (ecWs yX6_barOf cX6_barOf 4 (Option.some FieldType.char)) (ecRm 3 0 0) (ecPc [.ref y, .int (nI f)] G (fun H => rfX G Y M th y ya H)) (ecRp (fun v => v = some (.int (barM M f)))) 0 0 (fun _ => False) := by
  refine ec_met (by decide) (Nat.le_of_ble_eq_true rfl) ?_
  intro p e s m below meth c hC hr hlocks hname hOk hpre ls hl
  have hK := hOk.1
  have hx := hpre
  have hS : va_S (fun _ => False) s.heap s.heap [] := va_S.rf
  have hAN : ∀ q, (fun _ : Nat => False) q → ecN0 G ≤ q := fun _ h => h.elim
  have hl : lv_has ls 4 [(0, .ref y), (1, .int (nI f))] := hl
  have hn0 := hwf.n
  have ha1 := hwf.fi hf
  have ha9 := hwf.an ha1
  refine lv_aload_n hC.1 hC.2.1 dX6_barOf_0 rfl (lv_at hl 0 rfl) ?_
  refine ec_get hC hK hx.1 fX6_38 rfl dX6_barOf_1 ?_
  refine lv_iload_n hC.1 hC.2.1 dX6_barOf_4 rfl (lv_at hl 1 rfl) ?_
  refine ec_iald hC hK (hx.2.1 8 (by decide)) f rfl (by omega) (by omega) dX6_barOf_5 ?_
  refine lv_istore_n (lv' := [(2, .int (nI (M.1 3 f))), (0, .ref y), (1, .int (nI f))]) hC.1 hC.2.1 dX6_barOf_6 rfl hl (by decide) rfl (fun ls hl => ?_)
  refine lv_aload_n hC.1 hC.2.1 dX6_barOf_7 rfl (lv_at hl 1 rfl) ?_
  refine ec_get hC hK hx.1 fX6_20 rfl dX6_barOf_8 ?_
  refine lv_iload_n hC.1 hC.2.1 dX6_barOf_11 rfl (lv_at hl 0 rfl) ?_
  refine ec_iald hC hK (hx.2.1 2 (by decide)) (M.1 3 f) rfl (by omega) (by omega) dX6_barOf_12 ?_
  refine lv_istore_n (lv' := [(3, .int (nI (M.1 1 ((M.1 3 f))))), (2, .int (nI (M.1 3 f))), (0, .ref y), (1, .int (nI f))]) hC.1 hC.2.1 dX6_barOf_13 rfl hl (by decide) rfl (fun ls hl => ?_)
  refine lv_aload_n hC.1 hC.2.1 dX6_barOf_14 rfl (lv_at hl 2 rfl) ?_
  refine ec_get hC hK hx.1 fX6_13 rfl dX6_barOf_15 ?_
  refine lv_iload_n hC.1 hC.2.1 dX6_barOf_18 rfl (lv_at hl 0 rfl) ?_
  refine ec_iald hC hK (hx.2.1 0 (by decide)) (M.1 1 ((M.1 3 f))) rfl (by omega) (by omega) dX6_barOf_19 ?_
  refine lv_aload_n hC.1 hC.2.1 dX6_barOf_20 rfl (lv_at hl 2 rfl) ?_
  refine ec_get hC hK hx.1 fX6_23 rfl dX6_barOf_21 ?_
  refine lv_iload_n hC.1 hC.2.1 dX6_barOf_24 rfl (lv_at hl 1 rfl) ?_
  refine ec_iald hC hK (hx.2.1 3 (by decide)) (M.1 3 f) rfl (by omega) (by omega) dX6_barOf_25 ?_
  refine lv_icmp_eq (tgt := 32) hC.1 hC.2.1 dX6_barOf_26 (by decide) (fun c_26 => ?_) (fun c_26 => ?_)
  · refine lv_aload_n hC.1 hC.2.1 dX6_barOf_32 rfl (lv_at hl 2 rfl) ?_
    refine lv_iload_n hC.1 hC.2.1 dX6_barOf_33 rfl (lv_at hl 0 rfl) ?_
    refine lv_aload_n hC.1 hC.2.1 dX6_barOf_34 rfl (lv_at hl 2 rfl) ?_
    refine ec_get hC hK hx.1 fX6_26 rfl dX6_barOf_35 ?_
    refine lv_iload_n hC.1 hC.2.1 dX6_barOf_38 rfl (lv_at hl 1 rfl) ?_
    refine ec_iald hC hK (hx.2.1 4 (by decide)) (M.1 3 f) rfl (by omega) (by omega) dX6_barOf_39 ?_
    refine lv_aload_n hC.1 hC.2.1 dX6_barOf_40 rfl (lv_at hl 2 rfl) ?_
    refine ec_get hC hK hx.1 fX6_23 rfl dX6_barOf_41 ?_
    refine lv_iload_n hC.1 hC.2.1 dX6_barOf_44 rfl (lv_at hl 1 rfl) ?_
    refine ec_iald hC hK (hx.2.1 3 (by decide)) (M.1 3 f) rfl (by omega) (by omega) dX6_barOf_45 ?_
    refine ec_go1 (ec_rV hC (c_X6_latestOf l G Y M th y ya hwf (M.1 1 (M.1 3 f)) (M.1 2 (M.1 3 f)) (M.2.1 1 (M.1 3 f)) ha9.1 ha9.2) kX6_118 (hOk.at hS hAN) hx (ec_rc hK hx.1 ⟨_, _, rfl⟩) hl.1 ⟨Nat.le_of_ble_eq_true rfl, Nat.le_of_ble_eq_true rfl⟩ rfl (Nat.le_of_ble_eq_true rfl) dX6_barOf_46 ⟨Nat.le_of_ble_eq_true rfl, Nat.le_of_ble_eq_true rfl⟩) ?_
    refine lv_iload_n hC.1 hC.2.1 dX6_barOf_49 rfl (lv_at hl 1 rfl) ?_
    refine lv_icmp_eq (tgt := 58) hC.1 hC.2.1 dX6_barOf_50 (by decide) (fun c_50 => ?_) (fun c_50 => ?_)
    · refine lv_aload_n hC.1 hC.2.1 dX6_barOf_58 rfl (lv_at hl 2 rfl) ?_
      refine lv_iload_n hC.1 hC.2.1 dX6_barOf_59 rfl (lv_at hl 1 rfl) ?_
      refine ec_go1 (ec_rV hC (c_X6_ageOf l G Y M th y ya hwf (M.1 3 f) ha1) kX6_114 (hOk.at hS hAN) hx (ec_rc hK hx.1 ⟨_, _, rfl⟩) hl.1 ⟨Nat.le_of_ble_eq_true rfl, Nat.le_of_ble_eq_true rfl⟩ rfl (Nat.le_of_ble_eq_true rfl) dX6_barOf_60 ⟨Nat.le_of_ble_eq_true rfl, Nat.le_of_ble_eq_true rfl⟩) ?_
      refine lv_aload_n hC.1 hC.2.1 dX6_barOf_63 rfl (lv_at hl 2 rfl) ?_
      refine ec_get hC hK hx.1 fX6_7 rfl dX6_barOf_64 ?_
      refine lv_icmp_le (tgt := 75) hC.1 hC.2.1 dX6_barOf_67 (by decide) (fun c_67 => ?_) (fun c_67 => ?_)
      · refine lv_bipush (v := 45) hC.1 hC.2.1 dX6_barOf_75 (by decide) ?_
        have h19 : M.1 0 (M.1 1 (M.1 3 f)) = M.1 2 (M.1 3 f) := (nI_x (hwf.rs _) ha9.2).mp c_26
        have h42 : latN M (M.1 1 (M.1 3 f)) (M.2.1 1 (M.1 3 f)) (M.1 2 (M.1 3 f)) (mnA M) = some (M.1 3 f) := (oI_eq (latN_b hwf) (by omega)).mp c_50
        exact W.zret hC.1 hC.2.1 hr rfl (fun t9 ht9 _ => ⟨_, rfl, (ec_int (by unfold barM; rw [if_pos h19, if_pos h42, if_neg (Int32.not_lt.mpr c_67)])), ht9⟩) hS.2.2 dX6_barOf_77
      · refine lv_bipush (v := 111) hC.1 hC.2.1 dX6_barOf_70 (by decide) ?_
        refine lv_goto (tgt := 77) hC.1 hC.2.1 dX6_barOf_72 (by decide) ?_
        have h19 : M.1 0 (M.1 1 (M.1 3 f)) = M.1 2 (M.1 3 f) := (nI_x (hwf.rs _) ha9.2).mp c_26
        have h42 : latN M (M.1 1 (M.1 3 f)) (M.2.1 1 (M.1 3 f)) (M.1 2 (M.1 3 f)) (mnA M) = some (M.1 3 f) := (oI_eq (latN_b hwf) (by omega)).mp c_50
        exact W.zret hC.1 hC.2.1 hr rfl (fun t9 ht9 _ => ⟨_, rfl, (ec_int (by unfold barM; rw [if_pos h19, if_pos h42, if_pos (Int32.not_le.mp c_67)])), ht9⟩) hS.2.2 dX6_barOf_77
    · refine lv_bipush (v := 108) hC.1 hC.2.1 dX6_barOf_53 (by decide) ?_
      refine lv_goto (tgt := 77) hC.1 hC.2.1 dX6_barOf_55 (by decide) ?_
      have h19 : M.1 0 (M.1 1 (M.1 3 f)) = M.1 2 (M.1 3 f) := (nI_x (hwf.rs _) ha9.2).mp c_26
      exact W.zret hC.1 hC.2.1 hr rfl (fun t9 ht9 _ => ⟨_, rfl, (ec_int (by unfold barM; rw [if_pos h19, if_neg (fun z => c_50 ((oI_eq (latN_b hwf) (by omega)).mpr z))])), ht9⟩) hS.2.2 dX6_barOf_77
  · refine lv_bipush (v := 115) hC.1 hC.2.1 dX6_barOf_29 (by decide) ?_
    exact W.zret hC.1 hC.2.1 hr rfl (fun t9 ht9 _ => ⟨_, rfl, (ec_int (by unfold barM; rw [if_neg (fun z => c_26 (by rw [z]))])), ht9⟩) hS.2.2 dX6_barOf_31

set_option maxHeartbeats 4000000 in
set_option maxRecDepth 100000 in
/-- inputs -/
theorem c_X6_inputs (l : Launch) (G : ecG) (Y : Nat → Prop) (M : ecM) (th : Int32) (y : Nat) (ya : Nat → Nat) (hY : ∀ q, Y q → ecN0 G ≤ q) (hwf : WF M) (f : Int32) : Met l yX6_inputs (ecWs yX6_inputs cX6_inputs 2 (Option.some FieldType.int)) (ecRm 4 0 0) (ecPc [.ref y, .int f] G (fun H => rfX G Y M th y ya H)) (ecEp (fun v H1 => ∃ w : Int32, v = some (.int w) ∧ (thF M f = 0 → w = M.2.1 6 (cN f)) ∧ rfX G Y M (nI (thF M f)) y ya H1) (Y)) 0 0 (Y) := by
  refine ec_met (by decide) (Nat.le_of_ble_eq_true rfl) ?_
  intro p e s m below meth c hC hr hlocks hname hOk hpre ls hl
  have hK := hOk.1
  have hx := hpre
  have hS : va_S (Y) s.heap s.heap [] := va_S.rf
  have hAN : ∀ q, (Y) q → ecN0 G ≤ q := hY
  have hl : lv_has ls 2 [(0, .ref y), (1, .int f)] := hl
  have hn0 := hwf.n
  refine lv_aload_n hC.1 hC.2.1 dX6_inputs_0 rfl (lv_at hl 0 rfl) ?_
  refine lv_iload_n hC.1 hC.2.1 dX6_inputs_1 rfl (lv_at hl 1 rfl) ?_
  refine ec_goE1 (ec_rV hC (c_X6_failsFilter l G Y M th y ya hY hwf f) kX6_122 (hOk.at hS hAN) hx (ec_rc hK hx.1 ⟨_, _, rfl⟩) hl.1 ⟨Nat.le_of_ble_eq_true rfl, Nat.le_of_ble_eq_true rfl⟩ rfl (Nat.le_of_ble_eq_true rfl) dX6_inputs_2 ⟨Nat.le_of_ble_eq_true rfl, Nat.le_of_ble_eq_true rfl⟩) hS (fun _ h => h) (fun H locs hx hz hk1 hS => ?_)
  refine lv_if_eq (tgt := 12) hC.1 hC.2.1 dX6_inputs_5 (by decide) (fun c_5 => ?_) (fun c_5 => ?_)
  · have hT : thF M f = 0 := fz_0.mp c_5
    obtain ⟨j, hj, rfl⟩ := ixB_t (by omega) (if_th (k := 0) hT).1
    have hjc : cN (nI j) = j := nI_clamp (by omega)
    refine lv_aload_n hC.1 hC.2.1 dX6_inputs_12 rfl (lv_at hl 0 rfl) ?_
    refine ec_get hC hK hx.1 fX6_48 rfl dX6_inputs_13 ?_
    refine lv_iload_n hC.1 hC.2.1 dX6_inputs_16 rfl (lv_at hl 1 rfl) ?_
    refine ec_iald hC hK (hx.2.1 11 (by decide)) j rfl (by omega) (by omega) dX6_inputs_17 ?_
    exact W.iret hC.1 hC.2.1 hr (fun t9 ht9 _ => ⟨_, rfl, by rw [ht9]; exact ⟨_, rfl, fun _ => (by rw [hjc]), hx⟩, hS.F ht9⟩) hS.2.2 dX6_inputs_18
  · refine lv_iconst (v := 0) hC.1 hC.2.1 dX6_inputs_8 (by decide) ?_
    refine lv_goto (tgt := 18) hC.1 hC.2.1 dX6_inputs_9 (by decide) ?_
    exact W.iret hC.1 hC.2.1 hr (fun t9 ht9 _ => ⟨_, rfl, by rw [ht9]; exact ⟨_, rfl, fun z => absurd z (fun z => c_5 (fz_0.mpr z)), hx⟩, hS.F ht9⟩) hS.2.2 dX6_inputs_18

set_option maxHeartbeats 4000000 in
set_option maxRecDepth 100000 in
/-- answerOf -/
theorem c_X6_answerOf (l : Launch) (G : ecG) (Y : Nat → Prop) (M : ecM) (th : Int32) (y : Nat) (ya : Nat → Nat) (hY : ∀ q, Y q → ecN0 G ≤ q) (hwf : WF M) (f : Int32) : Met l yX6_answerOf (ecWs yX6_answerOf cX6_answerOf 2 (Option.some FieldType.int)) (ecRm 4 0 0) (ecPc [.ref y, .int f] G (fun H => rfX G Y M th y ya H)) (ecEp (fun v H1 => ∃ w : Int32, v = some (.int w) ∧ (thF M f = 0 → w = nI (M.1 3 (cN f))) ∧ rfX G Y M (nI (thF M f)) y ya H1) (Y)) 0 0 (Y) := by
  refine ec_met (by decide) (Nat.le_of_ble_eq_true rfl) ?_
  intro p e s m below meth c hC hr hlocks hname hOk hpre ls hl
  have hK := hOk.1
  have hx := hpre
  have hS : va_S (Y) s.heap s.heap [] := va_S.rf
  have hAN : ∀ q, (Y) q → ecN0 G ≤ q := hY
  have hl : lv_has ls 2 [(0, .ref y), (1, .int f)] := hl
  have hn0 := hwf.n
  refine lv_aload_n hC.1 hC.2.1 dX6_answerOf_0 rfl (lv_at hl 0 rfl) ?_
  refine lv_iload_n hC.1 hC.2.1 dX6_answerOf_1 rfl (lv_at hl 1 rfl) ?_
  refine ec_goE1 (ec_rV hC (c_X6_failsFilter l G Y M th y ya hY hwf f) kX6_122 (hOk.at hS hAN) hx (ec_rc hK hx.1 ⟨_, _, rfl⟩) hl.1 ⟨Nat.le_of_ble_eq_true rfl, Nat.le_of_ble_eq_true rfl⟩ rfl (Nat.le_of_ble_eq_true rfl) dX6_answerOf_2 ⟨Nat.le_of_ble_eq_true rfl, Nat.le_of_ble_eq_true rfl⟩) hS (fun _ h => h) (fun H locs hx hz hk1 hS => ?_)
  refine lv_if_eq (tgt := 12) hC.1 hC.2.1 dX6_answerOf_5 (by decide) (fun c_5 => ?_) (fun c_5 => ?_)
  · have hT : thF M f = 0 := fz_0.mp c_5
    obtain ⟨j, hj, rfl⟩ := ixB_t (by omega) (if_th (k := 0) hT).1
    have hjc : cN (nI j) = j := nI_clamp (by omega)
    refine lv_aload_n hC.1 hC.2.1 dX6_answerOf_12 rfl (lv_at hl 0 rfl) ?_
    refine ec_get hC hK hx.1 fX6_38 rfl dX6_answerOf_13 ?_
    refine lv_iload_n hC.1 hC.2.1 dX6_answerOf_16 rfl (lv_at hl 1 rfl) ?_
    refine ec_iald hC hK (hx.2.1 8 (by decide)) j rfl (by omega) (by omega) dX6_answerOf_17 ?_
    exact W.iret hC.1 hC.2.1 hr (fun t9 ht9 _ => ⟨_, rfl, by rw [ht9]; exact ⟨_, rfl, fun _ => (by rw [hjc]), hx⟩, hS.F ht9⟩) hS.2.2 dX6_answerOf_18
  · refine lv_iconst (v := 0) hC.1 hC.2.1 dX6_answerOf_8 (by decide) ?_
    refine lv_goto (tgt := 18) hC.1 hC.2.1 dX6_answerOf_9 (by decide) ?_
    exact W.iret hC.1 hC.2.1 hr (fun t9 ht9 _ => ⟨_, rfl, by rw [ht9]; exact ⟨_, rfl, fun z => absurd z (fun z => c_5 (fz_0.mpr z)), hx⟩, hS.F ht9⟩) hS.2.2 dX6_answerOf_18

set_option maxHeartbeats 4000000 in
set_option maxRecDepth 100000 in
/-- bar -/
theorem c_X6_bar (l : Launch) (G : ecG) (Y : Nat → Prop) (M : ecM) (th : Int32) (y : Nat) (ya : Nat → Nat) (hY : ∀ q, Y q → ecN0 G ≤ q) (hwf : WF M) (f : Int32) : Met l yX6_bar (ecWs yX6_bar cX6_bar 2 (Option.some FieldType.char)) (ecRm 4 0 0) (ecPc [.ref y, .int f] G (fun H => rfX G Y M th y ya H)) (ecEp (fun v H1 => ∃ w : Int32, v = some (.int w) ∧ (thF M f = 0 → w = barM M (cN f)) ∧ rfX G Y M (nI (thF M f)) y ya H1) (Y)) 0 0 (Y) := by
  refine ec_met (by decide) (Nat.le_of_ble_eq_true rfl) ?_
  intro p e s m below meth c hC hr hlocks hname hOk hpre ls hl
  have hK := hOk.1
  have hx := hpre
  have hS : va_S (Y) s.heap s.heap [] := va_S.rf
  have hAN : ∀ q, (Y) q → ecN0 G ≤ q := hY
  have hl : lv_has ls 2 [(0, .ref y), (1, .int f)] := hl
  have hn0 := hwf.n
  refine lv_aload_n hC.1 hC.2.1 dX6_bar_0 rfl (lv_at hl 0 rfl) ?_
  refine lv_iload_n hC.1 hC.2.1 dX6_bar_1 rfl (lv_at hl 1 rfl) ?_
  refine ec_goE1 (ec_rV hC (c_X6_failsFilter l G Y M th y ya hY hwf f) kX6_122 (hOk.at hS hAN) hx (ec_rc hK hx.1 ⟨_, _, rfl⟩) hl.1 ⟨Nat.le_of_ble_eq_true rfl, Nat.le_of_ble_eq_true rfl⟩ rfl (Nat.le_of_ble_eq_true rfl) dX6_bar_2 ⟨Nat.le_of_ble_eq_true rfl, Nat.le_of_ble_eq_true rfl⟩) hS (fun _ h => h) (fun H locs hx hz hk1 hS => ?_)
  refine lv_if_eq (tgt := 12) hC.1 hC.2.1 dX6_bar_5 (by decide) (fun c_5 => ?_) (fun c_5 => ?_)
  · have hT : thF M f = 0 := fz_0.mp c_5
    obtain ⟨j, hj, rfl⟩ := ixB_t (by omega) (if_th (k := 0) hT).1
    have hjc : cN (nI j) = j := nI_clamp (by omega)
    refine lv_aload_n hC.1 hC.2.1 dX6_bar_12 rfl (lv_at hl 0 rfl) ?_
    refine lv_iload_n hC.1 hC.2.1 dX6_bar_13 rfl (lv_at hl 1 rfl) ?_
    refine ec_go1 (ec_rV hC (c_X6_barOf l G Y M _ y ya hwf j hj) kX6_125 (hOk.at hS hAN) hx (ec_rc hK hx.1 ⟨_, _, rfl⟩) hl.1 ⟨Nat.le_of_ble_eq_true rfl, Nat.le_of_ble_eq_true rfl⟩ rfl (Nat.le_of_ble_eq_true rfl) dX6_bar_14 ⟨Nat.le_of_ble_eq_true rfl, Nat.le_of_ble_eq_true rfl⟩) ?_
    exact W.zret hC.1 hC.2.1 hr (barM_nar _ _) (fun t9 ht9 _ => ⟨_, rfl, by rw [ht9]; exact ⟨_, rfl, fun _ => (by rw [hjc]), hx⟩, hS.F ht9⟩) hS.2.2 dX6_bar_17
  · refine lv_iconst (v := 0) hC.1 hC.2.1 dX6_bar_8 (by decide) ?_
    refine lv_goto (tgt := 17) hC.1 hC.2.1 dX6_bar_9 (by decide) ?_
    exact W.zret hC.1 hC.2.1 hr rfl (fun t9 ht9 _ => ⟨_, rfl, by rw [ht9]; exact ⟨_, rfl, fun z => absurd z (fun z => c_5 (fz_0.mpr z)), hx⟩, hS.F ht9⟩) hS.2.2 dX6_bar_17

set_option maxHeartbeats 4000000 in
set_option maxRecDepth 100000 in
/-- how many filters can be used -/
theorem c_X6_free (l : Launch) (G : ecG) (Y : Nat → Prop) (M : ecM) (th : Int32) (y : Nat) (ya : Nat → Nat) (hwf : WF M) : Met l yX6_free (ecWs yX6_free cX6_free 3 (Option.some FieldType.int)) (ecRm 4 0 0) (ecPc [.ref y] G (fun H => rfX G Y M th y ya H)) (ecRp (fun v => v = some (.int (nI (freN M (mnF M)))))) 0 0 (fun _ => False) := by
  refine ec_met (by decide) (Nat.le_of_ble_eq_true rfl) ?_
  intro p e s m below meth c hC hr hlocks hname hOk hpre ls hl
  have hK := hOk.1
  have hx := hpre
  have hS : va_S (fun _ => False) s.heap s.heap [] := va_S.rf
  have hAN : ∀ q, (fun _ : Nat => False) q → ecN0 G ≤ q := fun _ h => h.elim
  have hl : lv_has ls 3 [(0, .ref y)] := hl
  have hn0 := hwf.n
  refine lv_iconst (v := 0) hC.1 hC.2.1 dX6_free_0 (by decide) ?_
  refine lv_istore_n (lv' := [(1, .int 0), (0, .ref y)]) hC.1 hC.2.1 dX6_free_1 rfl hl (by decide) rfl (fun ls hl => ?_)
  refine lv_iconst (v := 0) hC.1 hC.2.1 dX6_free_2 (by decide) ?_
  refine lv_istore_n (lv' := [(2, .int 0), (1, .int 0), (0, .ref y)]) hC.1 hC.2.1 dX6_free_3 rfl hl (by decide) rfl (fun ls hl => ?_)
  refine ec_loopR (n := mnF M) (fun i ls => lv_has ls 3 [(1, .int (nI (freN M i))), (2, .int (nI i)), (0, .ref y)] ∧ True) ⟨⟨hl.1, hl.2.1, (ec_lvc (lv_at hl 1 rfl) (ec_lvc (lv_at hl 0 rfl) (ec_lvc (lv_at hl 2 rfl) ec_lvn)))⟩, trivial⟩ (fun ls h9 => ?_) (fun i ls hi h9 hk => ?_)
  · obtain ⟨hl, hI⟩ := h9
    refine lv_iload_n hC.1 hC.2.1 dX6_free_4 rfl (lv_at hl 1 rfl) ?_
    refine lv_aload_n hC.1 hC.2.1 dX6_free_5 rfl (lv_at hl 2 rfl) ?_
    refine ec_get hC hK hx.1 fX6_87 rfl dX6_free_6 ?_
    refine lv_icmp_ge (tgt := 36) hC.1 hC.2.1 dX6_free_9 (by decide) (fun c_9 => ?_) (fun c => absurd (Int32.le_refl _) c)
    refine lv_iload_n hC.1 hC.2.1 dX6_free_36 rfl (lv_at hl 0 rfl) ?_
    exact W.iret hC.1 hC.2.1 hr (fun t9 ht9 _ => ⟨_, rfl, rfl, ht9⟩) hS.2.2 dX6_free_37
  · obtain ⟨hl, hI⟩ := h9
    refine lv_iload_n hC.1 hC.2.1 dX6_free_4 rfl (lv_at hl 1 rfl) ?_
    refine lv_aload_n hC.1 hC.2.1 dX6_free_5 rfl (lv_at hl 2 rfl) ?_
    refine ec_get hC hK hx.1 fX6_87 rfl dX6_free_6 ?_
    refine lv_icmp_ge (tgt := 36) hC.1 hC.2.1 dX6_free_9 (by decide) (fun c => absurd c (fun z => Int32.lt_irrefl (Int32.lt_of_lt_of_le (nI_lt (b := mnF M) hi (by omega)) z))) (fun c_9 => ?_)
    refine lv_iload_n hC.1 hC.2.1 dX6_free_12 rfl (lv_at hl 0 rfl) ?_
    refine lv_aload_n hC.1 hC.2.1 dX6_free_13 rfl (lv_at hl 2 rfl) ?_
    refine lv_iload_n hC.1 hC.2.1 dX6_free_14 rfl (lv_at hl 1 rfl) ?_
    refine ec_go1 (ec_rV hC (c_X6_barOf l G Y M th y ya hwf i hi) kX6_125 (hOk.at hS hAN) hx (ec_rc hK hx.1 ⟨_, _, rfl⟩) hl.1 ⟨Nat.le_of_ble_eq_true rfl, Nat.le_of_ble_eq_true rfl⟩ rfl (Nat.le_of_ble_eq_true rfl) dX6_free_15 ⟨Nat.le_of_ble_eq_true rfl, Nat.le_of_ble_eq_true rfl⟩) ?_
    refine lv_bipush (v := 45) hC.1 hC.2.1 dX6_free_18 (by decide) ?_
    refine lv_icmp_ne (tgt := 27) hC.1 hC.2.1 dX6_free_20 (by decide) (fun c_20 => ?_) (fun c_20 => ?_)
    · refine lv_iconst (v := 0) hC.1 hC.2.1 dX6_free_27 (by decide) ?_
      have e9 : freN M (i + 1) = freN M i + 0 := by rw [freN_s, if_neg c_20]
      refine lv_iadd hC.1 hC.2.1 dX6_free_28 ?_
      refine ec_topi (y := nI (freN M (i + 1))) (by rw [e9]; exact nI_add _ 0) ?_
      refine lv_istore_n (lv' := [(1, .int (nI (freN M (i + 1)))), (2, .int (nI i)), (0, .ref y)]) hC.1 hC.2.1 dX6_free_29 rfl hl (by decide) rfl (fun ls hl => ?_)
      refine lv_iinc (v := (nI (i + 1))) (lv' := [(2, .int (nI (i + 1))), (1, .int (nI (freN M (i + 1)))), (0, .ref y)]) hC.1 hC.2.1 dX6_free_30 hl (k := 1) rfl (nI_1 _) (by decide) rfl (fun ls hl => ?_)
      refine lv_goto (tgt := 4) hC.1 hC.2.1 dX6_free_33 (by decide) ?_
      exact hk ls ⟨⟨hl.1, hl.2.1, (ec_lvc (lv_at hl 1 rfl) (ec_lvc (lv_at hl 0 rfl) (ec_lvc (lv_at hl 2 rfl) ec_lvn)))⟩, trivial⟩
    · refine lv_iconst (v := 1) hC.1 hC.2.1 dX6_free_23 (by decide) ?_
      refine lv_goto (tgt := 28) hC.1 hC.2.1 dX6_free_24 (by decide) ?_
      have e9 : freN M (i + 1) = freN M i + 1 := by rw [freN_s, if_pos c_20]
      refine lv_iadd hC.1 hC.2.1 dX6_free_28 ?_
      refine ec_topi (y := nI (freN M (i + 1))) (by rw [e9]; exact nI_add _ 1) ?_
      refine lv_istore_n (lv' := [(1, .int (nI (freN M (i + 1)))), (2, .int (nI i)), (0, .ref y)]) hC.1 hC.2.1 dX6_free_29 rfl hl (by decide) rfl (fun ls hl => ?_)
      refine lv_iinc (v := (nI (i + 1))) (lv' := [(2, .int (nI (i + 1))), (1, .int (nI (freN M (i + 1)))), (0, .ref y)]) hC.1 hC.2.1 dX6_free_30 hl (k := 1) rfl (nI_1 _) (by decide) rfl (fun ls hl => ?_)
      refine lv_goto (tgt := 4) hC.1 hC.2.1 dX6_free_33 (by decide) ?_
      exact hk ls ⟨⟨hl.1, hl.2.1, (ec_lvc (lv_at hl 1 rfl) (ec_lvc (lv_at hl 0 rfl) (ec_lvc (lv_at hl 2 rfl) ec_lvn)))⟩, trivial⟩

set_option maxHeartbeats 4000000 in
set_option maxRecDepth 100000 in
/-- how many filters can be used -/
theorem c_X6_usable (l : Launch) (G : ecG) (Y : Nat → Prop) (M : ecM) (th : Int32) (y : Nat) (ya : Nat → Nat) (hY : ∀ q, Y q → ecN0 G ≤ q) (hwf : WF M) : Met l yX6_usable (ecWs yX6_usable cX6_usable 1 (Option.some FieldType.int)) (ecRm 5 0 0) (ecPc [.ref y] G (fun H => rfX G Y M th y ya H)) (ecEp (fun v H1 => v = some (.int (nI (freN M (mnF M)))) ∧ rfX G Y M 0 y ya H1) (Y)) 0 0 (Y) := by
  refine ec_met (by decide) (Nat.le_of_ble_eq_true rfl) ?_
  intro p e s m below meth c hC hr hlocks hname hOk hpre ls hl
  have hK := hOk.1
  have hx := hpre
  have hS : va_S (Y) s.heap s.heap [] := va_S.rf
  have hAN : ∀ q, (Y) q → ecN0 G ≤ q := hY
  have hl : lv_has ls 1 [(0, .ref y)] := hl
  have hn0 := hwf.n
  refine lv_aload_n hC.1 hC.2.1 dX6_usable_0 rfl (lv_at hl 0 rfl) ?_
  refine lv_iconst (v := 0) hC.1 hC.2.1 dX6_usable_1 (by decide) ?_
  refine ec_put hC hK hS hx.1 hx.2.2.2.2.1 fX6_67 rfl rfl rfl (Nat.le_of_ble_eq_true rfl) dX6_usable_2 (fun H locs h9 o9 z9 hS => ?_)
  have hx := hx.put0 (th2 := 0) h9 o9
  refine lv_aload_n hC.1 hC.2.1 dX6_usable_5 rfl (lv_at hl 0 rfl) ?_
  refine ec_go1 (ec_rV hC (c_X6_free l G Y M _ y ya hwf) kX6_139 (hOk.at hS hAN) hx (ec_rc hK hx.1 ⟨_, _, rfl⟩) hl.1 ⟨Nat.le_of_ble_eq_true rfl, Nat.le_of_ble_eq_true rfl⟩ rfl (Nat.le_of_ble_eq_true rfl) dX6_usable_6 ⟨Nat.le_of_ble_eq_true rfl, Nat.le_of_ble_eq_true rfl⟩) ?_
  exact W.iret hC.1 hC.2.1 hr (fun t9 ht9 _ => ⟨_, rfl, by rw [ht9]; exact ⟨rfl, hx⟩, hS.F ht9⟩) hS.2.2 dX6_usable_9

theorem thSha_lt (M : ecM) : thSha M < 2 ^ 31 := ite_lt (by decide) (by decide)
set_option maxHeartbeats 4000000 in
set_option maxRecDepth 100000 in
/-- the share -/
theorem c_X6_usableShare (l : Launch) (G : ecG) (Y : Nat → Prop) (M : ecM) (th : Int32) (y : Nat) (ya : Nat → Nat) (hY : ∀ q, Y q → ecN0 G ≤ q) (hwf : WF M) : Met l yX6_usableShare (ecWs yX6_usableShare cX6_usableShare 1 (Option.some FieldType.float)) (ecRm 5 0 0) (ecPc [.ref y] G (fun H => rfX G Y M th y ya H)) (ecEp (fun v H1 => ∃ w : UInt32, v = some (.float w) ∧ (thSha M = 0 → w = FP.fdiv (FP.i2f (nI (freN M (mnF M)))) (FP.i2f (nI (mnF M)))) ∧ rfX G Y M (nI (thSha M)) y ya H1) (Y)) 0 0 (Y) := by
  refine ec_met (by decide) (Nat.le_of_ble_eq_true rfl) ?_
  intro p e s m below meth c hC hr hlocks hname hOk hpre ls hl
  have hK := hOk.1
  have hx := hpre
  have hS : va_S (Y) s.heap s.heap [] := va_S.rf
  have hAN : ∀ q, (Y) q → ecN0 G ≤ q := hY
  have hl : lv_has ls 1 [(0, .ref y)] := hl
  have hn0 := hwf.n
  refine ec_join (pcj := 13) (stj := [.int (nI (thSha M)), .ref y]) ?_ (fun kj => ?_)
  · refine ec_goE1 (ec_rV hC (c_X6_fails l G Y M _ y ya (thSha M) (thSha_lt M) hY) kX6_81 (hOk.at hS hAN) hx (ec_rc hK hx.1 ⟨_, _, rfl⟩) hl.1 ⟨Nat.le_of_ble_eq_true rfl, Nat.le_of_ble_eq_true rfl⟩ rfl (Nat.le_of_ble_eq_true rfl) dX6_usableShare_13 ⟨Nat.le_of_ble_eq_true rfl, Nat.le_of_ble_eq_true rfl⟩) hS (fun _ h => h) (fun H locs hx hz hk1 hS => ?_)
    refine lv_if_eq (tgt := 23) hC.1 hC.2.1 dX6_usableShare_16 (by decide) (fun c_16 => ?_) (fun c_16 => ?_)
    · refine lv_aload_n hC.1 hC.2.1 dX6_usableShare_23 rfl (lv_at hl 0 rfl) ?_
      refine ec_go1 (ec_rV hC (c_X6_free l G Y M _ y ya hwf) kX6_139 (hOk.at hS hAN) hx (ec_rc hK hx.1 ⟨_, _, rfl⟩) hl.1 ⟨Nat.le_of_ble_eq_true rfl, Nat.le_of_ble_eq_true rfl⟩ rfl (Nat.le_of_ble_eq_true rfl) dX6_usableShare_24 ⟨Nat.le_of_ble_eq_true rfl, Nat.le_of_ble_eq_true rfl⟩) ?_
      refine lv_i2f hC.1 hC.2.1 dX6_usableShare_27 ?_
      refine lv_aload_n hC.1 hC.2.1 dX6_usableShare_28 rfl (lv_at hl 0 rfl) ?_
      refine ec_get hC hK hx.1 fX6_87 rfl dX6_usableShare_29 ?_
      refine lv_i2f hC.1 hC.2.1 dX6_usableShare_32 ?_
      have hnz : mnF M ≠ 0 := fun z => by have hT := fz_0.mp c_16; unfold thSha at hT; rw [if_pos z] at hT; cases hT
      refine lv_fdiv hC.1 hC.2.1 dX6_usableShare_33 (sh_nn _ (by have := freN_le M (mnF M); omega) _ (show mnF M < 21 by omega) (show 0 < mnF M by omega)) ?_
      exact W.fret hC.1 hC.2.1 hr (fun t9 ht9 _ => ⟨_, rfl, by rw [ht9]; exact ⟨_, rfl, fun _ => rfl, hx⟩, hS.F ht9⟩) hS.2.2 dX6_usableShare_34
    · refine lv_fconst0 hC.1 hC.2.1 dX6_usableShare_19 ?_
      refine lv_goto (tgt := 34) hC.1 hC.2.1 dX6_usableShare_20 (by decide) ?_
      exact W.fret hC.1 hC.2.1 hr (fun t9 ht9 _ => ⟨_, rfl, by rw [ht9]; exact ⟨_, rfl, fun z => absurd (fz_0.mpr z) c_16, hx⟩, hS.F ht9⟩) hS.2.2 dX6_usableShare_34
  · refine lv_aload_n hC.1 hC.2.1 dX6_usableShare_0 rfl (lv_at hl 0 rfl) ?_
    refine lv_aload_n hC.1 hC.2.1 dX6_usableShare_1 rfl (lv_at hl 0 rfl) ?_
    refine ec_get hC hK hx.1 fX6_87 rfl dX6_usableShare_2 ?_
    refine lv_if_ne (tgt := 12) hC.1 hC.2.1 dX6_usableShare_5 (by decide) (fun c_5 => ?_) (fun c_5 => ?_)
    · refine lv_iconst (v := 0) hC.1 hC.2.1 dX6_usableShare_12 (by decide) ?_
      refine ec_topi (y := (nI (thSha M))) (by rw [show thSha M = 0 by simp [thSha, (show ¬ mnF M = 0 from fun z => c_5 (by rw [z]; rfl))]]; rfl) ?_
      exact kj
    · refine lv_iconst (v := 1) hC.1 hC.2.1 dX6_usableShare_8 (by decide) ?_
      refine lv_goto (tgt := 13) hC.1 hC.2.1 dX6_usableShare_9 (by decide) ?_
      refine ec_topi (y := (nI (thSha M))) (by rw [show thSha M = 1 by simp [thSha, ((nI_eq (a := mnF M) (b := 0) (by omega) (by decide)).mp c_5)]]; rfl) ?_
      exact kj

theorem thSam_lt (M : ecM) (a i : Int32) : thSam M a i < 2 ^ 31 := ite_lt (ite_lt (by decide) (by decide)) (by decide)
theorem thTap_lt (M : ecM) (a i : Int32) : thTap M a i < 2 ^ 31 := ite_lt (ite_lt (by decide) (by decide)) (by decide)
theorem thSam_n {M : ecM} {a i : Int32} (h : ¬ thA M a = 0) : thSam M a i = thA M a := by
  unfold thSam thA at *
  split
  · rename_i h1; rw [if_pos h1] at h; exact absurd rfl h
  · rfl
theorem thTap_n {M : ecM} {a i : Int32} (h : ¬ thF M a = 0) : thTap M a i = thF M a := by
  unfold thTap thF at *
  split
  · rename_i h1; rw [if_pos h1] at h; exact absurd rfl h
  · rfl
theorem thSam_y {M : ecM} {a i : Int32} (h : thA M a = 0) : thSam M a i = if ixB i 4 = true then 0 else 2 := if_pos (if_th (k := 0) h).1
theorem thTap_y {M : ecM} {a i : Int32} (h : thF M a = 0) : thTap M a i = if ixB i 6 = true then 0 else 2 := if_pos (if_th (k := 0) h).1

set_option maxHeartbeats 4000000 in
set_option maxRecDepth 100000 in
/-- sample -/
theorem c_X6_sample (l : Launch) (G : ecG) (Y : Nat → Prop) (M : ecM) (th : Int32) (y : Nat) (ya : Nat → Nat) (hY : ∀ q, Y q → ecN0 G ≤ q) (hwf : WF M) (a i : Int32) : Met l yX6_sample (ecWs yX6_sample cX6_sample 3 (Option.some FieldType.int)) (ecRm 4 0 0) (ecPc [.ref y, .int a, .int i] G (fun H => rfX G Y M th y ya H)) (ecEp (fun v H1 => ∃ w : Int32, v = some (.int w) ∧ (thSam M a i = 0 → w = M.2.1 4 (4 * cN a + cN i)) ∧ rfX G Y M (nI (thSam M a i)) y ya H1) (Y)) 0 0 (Y) := by
  refine ec_met (by decide) (Nat.le_of_ble_eq_true rfl) ?_
  intro p e s m below meth c hC hr hlocks hname hOk hpre ls hl
  have hK := hOk.1
  have hx := hpre
  have hS : va_S (Y) s.heap s.heap [] := va_S.rf
  have hAN : ∀ q, (Y) q → ecN0 G ≤ q := hY
  have hl : lv_has ls 3 [(0, .ref y), (1, .int a), (2, .int i)] := hl
  have hn0 := hwf.n
  refine lv_aload_n hC.1 hC.2.1 dX6_sample_0 rfl (lv_at hl 0 rfl) ?_
  refine lv_iload_n hC.1 hC.2.1 dX6_sample_1 rfl (lv_at hl 1 rfl) ?_
  refine ec_goE1 (ec_rV hC (c_X6_failsAnswer l G Y M th y ya hY hwf a) kX6_111 (hOk.at hS hAN) hx (ec_rc hK hx.1 ⟨_, _, rfl⟩) hl.1 ⟨Nat.le_of_ble_eq_true rfl, Nat.le_of_ble_eq_true rfl⟩ rfl (Nat.le_of_ble_eq_true rfl) dX6_sample_2 ⟨Nat.le_of_ble_eq_true rfl, Nat.le_of_ble_eq_true rfl⟩) hS (fun _ h => h) (fun H locs hx hz hk1 hS => ?_)
  refine lv_if_eq (tgt := 10) hC.1 hC.2.1 dX6_sample_5 (by decide) (fun c_5 => ?_) (fun c_5 => ?_)
  · have hT1 : thA M a = 0 := fz_0.mp c_5
    have hT2 := thSam_y (i := i) hT1
    refine lv_aload_n hC.1 hC.2.1 dX6_sample_10 rfl (lv_at hl 0 rfl) ?_
    refine ec_join (pcj := 25) (stj := [.int (nI (thSam M a i)), .ref y]) ?_ (fun kj => ?_)
    · refine ec_goE1 (ec_rV hC (c_X6_fails l G Y M _ y ya (thSam M a i) (thSam_lt _ _ _) hY) kX6_81 (hOk.at hS hAN) hx (ec_rc hK hx.1 ⟨_, _, rfl⟩) hl.1 ⟨Nat.le_of_ble_eq_true rfl, Nat.le_of_ble_eq_true rfl⟩ rfl (Nat.le_of_ble_eq_true rfl) dX6_sample_25 ⟨Nat.le_of_ble_eq_true rfl, Nat.le_of_ble_eq_true rfl⟩) hS (fun _ h => h) (fun H locs hx hz hk1 hS => ?_)
      refine lv_if_eq (tgt := 35) hC.1 hC.2.1 dX6_sample_28 (by decide) (fun c_28 => ?_) (fun c_28 => ?_)
      · have hT : thSam M a i = 0 := fz_0.mp c_28
        have hix : ixB i 4 = true := (if_th (k := 1) (hT2.symm.trans hT)).1
        obtain ⟨u, hu, rfl⟩ := ixB_t (by omega) (if_th (k := 0) hT1).1
        obtain ⟨k, hk, rfl⟩ := ixB_t (by decide) hix
        have huc : cN (nI u) = u := nI_clamp (by omega)
        have hkc : cN (nI k) = k := nI_clamp (by omega)
        refine lv_aload_n hC.1 hC.2.1 dX6_sample_35 rfl (lv_at hl 0 rfl) ?_
        refine ec_get hC hK hx.1 fX6_35 rfl dX6_sample_36 ?_
        refine lv_iconst (v := 4) hC.1 hC.2.1 dX6_sample_39 (by decide) ?_
        refine lv_iload_n hC.1 hC.2.1 dX6_sample_40 rfl (lv_at hl 1 rfl) ?_
        refine lv_imul hC.1 hC.2.1 dX6_sample_41 ?_
        refine lv_iload_n hC.1 hC.2.1 dX6_sample_42 rfl (lv_at hl 2 rfl) ?_
        refine lv_iadd hC.1 hC.2.1 dX6_sample_43 ?_
        refine ec_iald hC hK (hx.2.1 7 (by decide)) (4 * u + k) (ix_ma 4 u k) (by omega) (by omega) dX6_sample_44 ?_
        exact W.iret hC.1 hC.2.1 hr (fun t9 ht9 _ => ⟨_, rfl, by rw [ht9]; exact ⟨_, rfl, fun _ => (by rw [huc, hkc]), hx⟩, hS.F ht9⟩) hS.2.2 dX6_sample_45
      · refine lv_iconst (v := 0) hC.1 hC.2.1 dX6_sample_31 (by decide) ?_
        refine lv_goto (tgt := 45) hC.1 hC.2.1 dX6_sample_32 (by decide) ?_
        exact W.iret hC.1 hC.2.1 hr (fun t9 ht9 _ => ⟨_, rfl, by rw [ht9]; exact ⟨_, rfl, fun z => absurd (fz_0.mpr z) c_28, hx⟩, hS.F ht9⟩) hS.2.2 dX6_sample_45
    · refine lv_iload_n hC.1 hC.2.1 dX6_sample_11 rfl (lv_at hl 2 rfl) ?_
      refine lv_iconst (v := 0) hC.1 hC.2.1 dX6_sample_12 (by decide) ?_
      refine lv_iconst (v := 3) hC.1 hC.2.1 dX6_sample_13 (by decide) ?_
      refine ec_go1 (ec_rS hC (c_X6_in l G i 0 3) kX6_73 (hOk.at hS hAN) trivial hl.1 ⟨Nat.le_of_ble_eq_true rfl, Nat.le_of_ble_eq_true rfl⟩ rfl (Nat.le_of_ble_eq_true rfl) dX6_sample_14 ⟨Nat.le_of_ble_eq_true rfl, Nat.le_of_ble_eq_true rfl⟩) ?_
      refine lv_if_eq (tgt := 24) hC.1 hC.2.1 dX6_sample_17 (by decide) (fun c_17 => ?_) (fun c_17 => ?_)
      · refine lv_iconst (v := 2) hC.1 hC.2.1 dX6_sample_24 (by decide) ?_
        refine ec_topi (y := (nI (thSam M a i))) (by rw [hT2, if_neg (show ¬ ixB i 4 = true by rw [← rg_c 3 (by decide) (y := 3) rfl, (bI_0 _).mp c_17]; decide)]; rfl) ?_
        exact kj
      · refine lv_iconst (v := 0) hC.1 hC.2.1 dX6_sample_20 (by decide) ?_
        refine lv_goto (tgt := 25) hC.1 hC.2.1 dX6_sample_21 (by decide) ?_
        refine ec_topi (y := (nI (thSam M a i))) (by rw [hT2, if_pos (show ixB i 4 = true by rw [← rg_c 3 (by decide) (y := 3) rfl]; exact (bI_n0 _).mp c_17)]; rfl) ?_
        exact kj
  · refine lv_iconst (v := 0) hC.1 hC.2.1 dX6_sample_8 (by decide) ?_
    have hne : ¬ thA M a = 0 := fun z => c_5 (fz_0.mpr z)
    rw [← thSam_n (i := i) hne] at hx
    exact W.iret hC.1 hC.2.1 hr (fun t9 ht9 _ => ⟨_, rfl, by rw [ht9]; exact ⟨_, rfl, fun z => absurd ((thSam_n (i := i) hne).symm.trans z) hne, hx⟩, hS.F ht9⟩) hS.2.2 dX6_sample_9

set_option maxHeartbeats 4000000 in
set_option maxRecDepth 100000 in
/-- tap -/
theorem c_X6_tap (l : Launch) (G : ecG) (Y : Nat → Prop) (M : ecM) (th : Int32) (y : Nat) (ya : Nat → Nat) (hY : ∀ q, Y q → ecN0 G ≤ q) (hwf : WF M) (a i : Int32) : Met l yX6_tap (ecWs yX6_tap cX6_tap 3 (Option.some FieldType.long)) (ecRm 4 0 0) (ecPc [.ref y, .int a, .int i] G (fun H => rfX G Y M th y ya H)) (ecEp (fun v H1 => ∃ w : Int64, v = some (.long w) ∧ (thTap M a i = 0 → w = M.2.2 (6 * cN a + cN i)) ∧ rfX G Y M (nI (thTap M a i)) y ya H1) (Y)) 0 0 (Y) := by
  refine ec_met (by decide) (Nat.le_of_ble_eq_true rfl) ?_
  intro p e s m below meth c hC hr hlocks hname hOk hpre ls hl
  have hK := hOk.1
  have hx := hpre
  have hS : va_S (Y) s.heap s.heap [] := va_S.rf
  have hAN : ∀ q, (Y) q → ecN0 G ≤ q := hY
  have hl : lv_has ls 3 [(0, .ref y), (1, .int a), (2, .int i)] := hl
  have hn0 := hwf.n
  refine lv_aload_n hC.1 hC.2.1 dX6_tap_0 rfl (lv_at hl 0 rfl) ?_
  refine lv_iload_n hC.1 hC.2.1 dX6_tap_1 rfl (lv_at hl 1 rfl) ?_
  refine ec_goE1 (ec_rV hC (c_X6_failsFilter l G Y M th y ya hY hwf a) kX6_122 (hOk.at hS hAN) hx (ec_rc hK hx.1 ⟨_, _, rfl⟩) hl.1 ⟨Nat.le_of_ble_eq_true rfl, Nat.le_of_ble_eq_true rfl⟩ rfl (Nat.le_of_ble_eq_true rfl) dX6_tap_2 ⟨Nat.le_of_ble_eq_true rfl, Nat.le_of_ble_eq_true rfl⟩) hS (fun _ h => h) (fun H locs hx hz hk1 hS => ?_)
  refine lv_if_eq (tgt := 10) hC.1 hC.2.1 dX6_tap_5 (by decide) (fun c_5 => ?_) (fun c_5 => ?_)
  · have hT1 : thF M a = 0 := fz_0.mp c_5
    have hT2 := thTap_y (i := i) hT1
    refine lv_aload_n hC.1 hC.2.1 dX6_tap_10 rfl (lv_at hl 0 rfl) ?_
    refine ec_join (pcj := 25) (stj := [.int (nI (thTap M a i)), .ref y]) ?_ (fun kj => ?_)
    · refine ec_goE1 (ec_rV hC (c_X6_fails l G Y M _ y ya (thTap M a i) (thTap_lt _ _ _) hY) kX6_81 (hOk.at hS hAN) hx (ec_rc hK hx.1 ⟨_, _, rfl⟩) hl.1 ⟨Nat.le_of_ble_eq_true rfl, Nat.le_of_ble_eq_true rfl⟩ rfl (Nat.le_of_ble_eq_true rfl) dX6_tap_25 ⟨Nat.le_of_ble_eq_true rfl, Nat.le_of_ble_eq_true rfl⟩) hS (fun _ h => h) (fun H locs hx hz hk1 hS => ?_)
      refine lv_if_eq (tgt := 35) hC.1 hC.2.1 dX6_tap_28 (by decide) (fun c_28 => ?_) (fun c_28 => ?_)
      · have hT : thTap M a i = 0 := fz_0.mp c_28
        have hix : ixB i 6 = true := (if_th (k := 1) (hT2.symm.trans hT)).1
        obtain ⟨u, hu, rfl⟩ := ixB_t (by omega) (if_th (k := 0) hT1).1
        obtain ⟨k, hk, rfl⟩ := ixB_t (by decide) hix
        have huc : cN (nI u) = u := nI_clamp (by omega)
        have hkc : cN (nI k) = k := nI_clamp (by omega)
        refine lv_aload_n hC.1 hC.2.1 dX6_tap_35 rfl (lv_at hl 0 rfl) ?_
        refine ec_get hC hK hx.1 fX6_41 rfl dX6_tap_36 ?_
        refine lv_bipush (v := 6) hC.1 hC.2.1 dX6_tap_39 (by decide) ?_
        refine lv_iload_n hC.1 hC.2.1 dX6_tap_41 rfl (lv_at hl 1 rfl) ?_
        refine lv_imul hC.1 hC.2.1 dX6_tap_42 ?_
        refine lv_iload_n hC.1 hC.2.1 dX6_tap_43 rfl (lv_at hl 2 rfl) ?_
        refine lv_iadd hC.1 hC.2.1 dX6_tap_44 ?_
        refine ec_lald hC hK (hx.2.1 9 (by decide)) (6 * u + k) (ix_ma 6 u k) (by omega) (by omega) dX6_tap_45 ?_
        exact W.lret hC.1 hC.2.1 hr (fun t9 ht9 _ => ⟨_, rfl, by rw [ht9]; exact ⟨_, rfl, fun _ => (by rw [huc, hkc]), hx⟩, hS.F ht9⟩) hS.2.2 dX6_tap_46
      · refine lv_lconst (v := 0) hC.1 hC.2.1 dX6_tap_31 (by decide) ?_
        refine lv_goto (tgt := 46) hC.1 hC.2.1 dX6_tap_32 (by decide) ?_
        exact W.lret hC.1 hC.2.1 hr (fun t9 ht9 _ => ⟨_, rfl, by rw [ht9]; exact ⟨_, rfl, fun z => absurd (fz_0.mpr z) c_28, hx⟩, hS.F ht9⟩) hS.2.2 dX6_tap_46
    · refine lv_iload_n hC.1 hC.2.1 dX6_tap_11 rfl (lv_at hl 2 rfl) ?_
      refine lv_iconst (v := 0) hC.1 hC.2.1 dX6_tap_12 (by decide) ?_
      refine lv_iconst (v := 5) hC.1 hC.2.1 dX6_tap_13 (by decide) ?_
      refine ec_go1 (ec_rS hC (c_X6_in l G i 0 5) kX6_73 (hOk.at hS hAN) trivial hl.1 ⟨Nat.le_of_ble_eq_true rfl, Nat.le_of_ble_eq_true rfl⟩ rfl (Nat.le_of_ble_eq_true rfl) dX6_tap_14 ⟨Nat.le_of_ble_eq_true rfl, Nat.le_of_ble_eq_true rfl⟩) ?_
      refine lv_if_eq (tgt := 24) hC.1 hC.2.1 dX6_tap_17 (by decide) (fun c_17 => ?_) (fun c_17 => ?_)
      · refine lv_iconst (v := 2) hC.1 hC.2.1 dX6_tap_24 (by decide) ?_
        refine ec_topi (y := (nI (thTap M a i))) (by rw [hT2, if_neg (show ¬ ixB i 6 = true by rw [← rg_c 5 (by decide) (y := 5) rfl, (bI_0 _).mp c_17]; decide)]; rfl) ?_
        exact kj
      · refine lv_iconst (v := 0) hC.1 hC.2.1 dX6_tap_20 (by decide) ?_
        refine lv_goto (tgt := 25) hC.1 hC.2.1 dX6_tap_21 (by decide) ?_
        refine ec_topi (y := (nI (thTap M a i))) (by rw [hT2, if_pos (show ixB i 6 = true by rw [← rg_c 5 (by decide) (y := 5) rfl]; exact (bI_n0 _).mp c_17)]; rfl) ?_
        exact kj
  · refine lv_lconst (v := 0) hC.1 hC.2.1 dX6_tap_8 (by decide) ?_
    have hne : ¬ thF M a = 0 := fun z => c_5 (fz_0.mpr z)
    rw [← thTap_n (i := i) hne] at hx
    exact W.lret hC.1 hC.2.1 hr (fun t9 ht9 _ => ⟨_, rfl, by rw [ht9]; exact ⟨_, rfl, fun z => absurd ((thTap_n (i := i) hne).symm.trans z) hne, hx⟩, hS.F ht9⟩) hS.2.2 dX6_tap_9
