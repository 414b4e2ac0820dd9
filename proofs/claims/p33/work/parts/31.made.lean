/-- the laboratory at first -/
def mM0 : ecM := (fun _ _ => 0, up2 (fun _ _ => 0) 9 1 24, fun _ => 0)
theorem WF.m0 : WF mM0 := by
  refine ⟨Nat.zero_le _, Nat.zero_le _, Nat.zero_le _, Nat.zero_le _, fun i => ?_, fun i _ => ⟨rfl, rfl⟩, fun i hi => absurd hi (Nat.not_lt_zero _), fun i hi => absurd hi (Nat.not_lt_zero _), fun i hi => absurd hi (Nat.not_lt_zero _), fun i => Nat.zero_le _, fun i _ => rfl, fun i _ => rfl, fun i _ => rfl, ?_, ?_⟩
  · show 0 < 80; decide
  · show 0 ≤ (0 : Int32).toInt; decide
  · show (0 : Int32).toInt ≤ 9999; decide

set_option maxHeartbeats 4000000 in
set_option maxRecDepth 100000 in
/-- a laboratory is made -/
theorem c_X5_init (l : Launch) (G : ecG) (X : Nat → Prop) (x : Nat) : Met l yX5_init (ecWs yX5_init cX5_init 1 none) (ecRm 9 4 12) (ecPc [.ref x] G (fun H => ecXs G X H ∧ X x ∧ ecA G x (eO 5 [.null, .null, .null, .null, .int 0, .int 0]) H)) (ecEp (fun v H1 => v = none ∧ EC G X mM0 x H1) (X)) 4 12 (X) := by
  refine ec_met (by decide) (Nat.le_of_ble_eq_true rfl) ?_
  intro p e s m below meth c hC hr hlocks hname hOk hpre ls hl
  have hK := hOk.1
  obtain ⟨hXs, hx, ha⟩ := hpre
  have hS : va_S (X) s.heap s.heap [] := va_S.rf
  have hAN : ∀ q, (X) q → ecN0 G ≤ q := hXs.1
  have hl : lv_has ls 1 [(0, .ref x)] := hl
  have hA : s.heap.size ≤ s.heap.size := Nat.le_refl _
  have hxl : x < s.heap.size := ha.lt
  refine lv_aload_n hC.1 hC.2.1 dX5_init_0 rfl (lv_at hl 0 rfl) ?_
  refine W.objInit hC.1 hC.2.1 hC.2.2.2.1 (hC.2.2.2.2 _ kX5_1) (hC.2.2.2.2 _ qOi) (hC.2.2.2.2 _ qOc) rfl (by rw [hC.2.2.1]; exact hl.1) rfl dX5_init_1 (Nat.le_of_ble_eq_true rfl) (Nat.le_of_ble_eq_true rfl) ?_
  refine W.eq (g2 := F0 m 4 ls []) rfl ?_
  refine lv_aload_n hC.1 hC.2.1 dX5_init_4 rfl (lv_at hl 0 rfl) ?_
  refine ec_new hC hK hS cfJx4a65c nX5_7 (fs := [.int 0, .null, .int 0]) (lt_s (lt_s (lt_s lt_0 rfl) rfl) rfl) (Nat.le_of_ble_eq_true rfl) (Nat.le_of_ble_eq_true rfl) dX5_init_5 (fun q0 H q0e hq0 hk0 hS hz0 => ?_)
  have hs0 : s.heap.size ≤ q0 := by rw [q0e]; exact hA
  have hA : s.heap.size ≤ H.size := Nat.le_trans hA hk0.1
  have ha := ha.kp hk0
  refine lv_dup hC.1 hC.2.1 dX5_init_8 rfl ?_
  refine ec_goE0 (ec_rI hC (c_Jx4a65c_init_da8c8 l G q0 (hXs.1 _ (hXs.2 _ hs0))) kX5_9 (hOk.at hS hAN) hq0 hl.1 ⟨Nat.le_of_ble_eq_true rfl, Nat.le_of_ble_eq_true rfl⟩ rfl (Nat.le_of_ble_eq_true rfl) dX5_init_9 ⟨Nat.le_of_ble_eq_true rfl, Nat.le_of_ble_eq_true rfl⟩) hS (fun z h => by rw [h]; exact hXs.2 _ hs0) (fun H locs hq0 hz hk1 hS => ?_)
  have hA : s.heap.size ≤ H.size := Nat.le_trans hA hz
  have ha := ha.kept (hk1 _ ha.lt (fun z => by have : x = q0 := z; omega))
  refine ec_putF hC hK hS ha hx fX5_10 rfl hname rfl rfl rfl (Nat.le_of_ble_eq_true rfl) dX5_init_12 (fun H locs h9 o9 z9 hS => ?_)
  have hA : s.heap.size ≤ H.size := Nat.le_trans hA (Nat.le_of_eq z9.symm)
  have hq0 := hq0.kept (o9 _ (by omega))
  have ha : ecA G x (eO 5 [.ref q0, .null, .null, .null, .int 0, .int 0]) H := h9
  refine lv_aload_n hC.1 hC.2.1 dX5_init_15 rfl (lv_at hl 0 rfl) ?_
  have hl01 : q0 < H.size := hq0.lt
  refine ec_new hC hK hS cfJx4a65c nX5_7 (fs := [.int 0, .null, .int 0]) (lt_s (lt_s (lt_s lt_0 rfl) rfl) rfl) (Nat.le_of_ble_eq_true rfl) (Nat.le_of_ble_eq_true rfl) dX5_init_16 (fun q1 H q1e hq1 hk0 hS hz0 => ?_)
  have hs1 : s.heap.size ≤ q1 := by rw [q1e]; exact hA
  have hA : s.heap.size ≤ H.size := Nat.le_trans hA hk0.1
  have ha := ha.kp hk0
  have hq0 := hq0.kp hk0
  refine lv_dup hC.1 hC.2.1 dX5_init_19 rfl ?_
  refine ec_goE0 (ec_rI hC (c_Jx4a65c_init_da8c8 l G q1 (hXs.1 _ (hXs.2 _ hs1))) kX5_9 (hOk.at hS hAN) hq1 hl.1 ⟨Nat.le_of_ble_eq_true rfl, Nat.le_of_ble_eq_true rfl⟩ rfl (Nat.le_of_ble_eq_true rfl) dX5_init_20 ⟨Nat.le_of_ble_eq_true rfl, Nat.le_of_ble_eq_true rfl⟩) hS (fun z h => by rw [h]; exact hXs.2 _ hs1) (fun H locs hq1 hz hk1 hS => ?_)
  have hA : s.heap.size ≤ H.size := Nat.le_trans hA hz
  have ha := ha.kept (hk1 _ ha.lt (fun z => by have : x = q1 := z; omega))
  have hq0 := hq0.kept (hk1 _ hq0.lt (fun z => by have : q0 = q1 := z; omega))
  refine ec_putF hC hK hS ha hx fX5_16 rfl hname rfl rfl rfl (Nat.le_of_ble_eq_true rfl) dX5_init_23 (fun H locs h9 o9 z9 hS => ?_)
  have hA : s.heap.size ≤ H.size := Nat.le_trans hA (Nat.le_of_eq z9.symm)
  have hq0 := hq0.kept (o9 _ (by omega))
  have hq1 := hq1.kept (o9 _ (by omega))
  have ha : ecA G x (eO 5 [.ref q0, .ref q1, .null, .null, .int 0, .int 0]) H := h9
  refine lv_aload_n hC.1 hC.2.1 dX5_init_26 rfl (lv_at hl 0 rfl) ?_
  have hl02 : q0 < H.size := hq0.lt
  have hl12 : q1 < H.size := hq1.lt
  refine ec_new hC hK hS cfJx4a65c nX5_7 (fs := [.int 0, .null, .int 0]) (lt_s (lt_s (lt_s lt_0 rfl) rfl) rfl) (Nat.le_of_ble_eq_true rfl) (Nat.le_of_ble_eq_true rfl) dX5_init_27 (fun q2 H q2e hq2 hk0 hS hz0 => ?_)
  have hs2 : s.heap.size ≤ q2 := by rw [q2e]; exact hA
  have hA : s.heap.size ≤ H.size := Nat.le_trans hA hk0.1
  have ha := ha.kp hk0
  have hq0 := hq0.kp hk0
  have hq1 := hq1.kp hk0
  refine lv_dup hC.1 hC.2.1 dX5_init_30 rfl ?_
  refine ec_goE0 (ec_rI hC (c_Jx4a65c_init_da8c8 l G q2 (hXs.1 _ (hXs.2 _ hs2))) kX5_9 (hOk.at hS hAN) hq2 hl.1 ⟨Nat.le_of_ble_eq_true rfl, Nat.le_of_ble_eq_true rfl⟩ rfl (Nat.le_of_ble_eq_true rfl) dX5_init_31 ⟨Nat.le_of_ble_eq_true rfl, Nat.le_of_ble_eq_true rfl⟩) hS (fun z h => by rw [h]; exact hXs.2 _ hs2) (fun H locs hq2 hz hk1 hS => ?_)
  have hA : s.heap.size ≤ H.size := Nat.le_trans hA hz
  have ha := ha.kept (hk1 _ ha.lt (fun z => by have : x = q2 := z; omega))
  have hq0 := hq0.kept (hk1 _ hq0.lt (fun z => by have : q0 = q2 := z; omega))
  have hq1 := hq1.kept (hk1 _ hq1.lt (fun z => by have : q1 = q2 := z; omega))
  refine ec_putF hC hK hS ha hx fX5_19 rfl hname rfl rfl rfl (Nat.le_of_ble_eq_true rfl) dX5_init_34 (fun H locs h9 o9 z9 hS => ?_)
  have hA : s.heap.size ≤ H.size := Nat.le_trans hA (Nat.le_of_eq z9.symm)
  have hq0 := hq0.kept (o9 _ (by omega))
  have hq1 := hq1.kept (o9 _ (by omega))
  have hq2 := hq2.kept (o9 _ (by omega))
  have ha : ecA G x (eO 5 [.ref q0, .ref q1, .ref q2, .null, .int 0, .int 0]) H := h9
  refine lv_aload_n hC.1 hC.2.1 dX5_init_37 rfl (lv_at hl 0 rfl) ?_
  have hl03 : q0 < H.size := hq0.lt
  have hl13 : q1 < H.size := hq1.lt
  have hl23 : q2 < H.size := hq2.lt
  refine ec_new hC hK hS cfJx4a65c nX5_7 (fs := [.int 0, .null, .int 0]) (lt_s (lt_s (lt_s lt_0 rfl) rfl) rfl) (Nat.le_of_ble_eq_true rfl) (Nat.le_of_ble_eq_true rfl) dX5_init_38 (fun q3 H q3e hq3 hk0 hS hz0 => ?_)
  have hs3 : s.heap.size ≤ q3 := by rw [q3e]; exact hA
  have hA : s.heap.size ≤ H.size := Nat.le_trans hA hk0.1
  have ha := ha.kp hk0
  have hq0 := hq0.kp hk0
  have hq1 := hq1.kp hk0
  have hq2 := hq2.kp hk0
  refine lv_dup hC.1 hC.2.1 dX5_init_41 rfl ?_
  refine ec_goE0 (ec_rI hC (c_Jx4a65c_init_da8c8 l G q3 (hXs.1 _ (hXs.2 _ hs3))) kX5_9 (hOk.at hS hAN) hq3 hl.1 ⟨Nat.le_of_ble_eq_true rfl, Nat.le_of_ble_eq_true rfl⟩ rfl (Nat.le_of_ble_eq_true rfl) dX5_init_42 ⟨Nat.le_of_ble_eq_true rfl, Nat.le_of_ble_eq_true rfl⟩) hS (fun z h => by rw [h]; exact hXs.2 _ hs3) (fun H locs hq3 hz hk1 hS => ?_)
  have hA : s.heap.size ≤ H.size := Nat.le_trans hA hz
  have ha := ha.kept (hk1 _ ha.lt (fun z => by have : x = q3 := z; omega))
  have hq0 := hq0.kept (hk1 _ hq0.lt (fun z => by have : q0 = q3 := z; omega))
  have hq1 := hq1.kept (hk1 _ hq1.lt (fun z => by have : q1 = q3 := z; omega))
  have hq2 := hq2.kept (hk1 _ hq2.lt (fun z => by have : q2 = q3 := z; omega))
  refine ec_putF hC hK hS ha hx fX5_22 rfl hname rfl rfl rfl (Nat.le_of_ble_eq_true rfl) dX5_init_45 (fun H locs h9 o9 z9 hS => ?_)
  have hA : s.heap.size ≤ H.size := Nat.le_trans hA (Nat.le_of_eq z9.symm)
  have hq0 := hq0.kept (o9 _ (by omega))
  have hq1 := hq1.kept (o9 _ (by omega))
  have hq2 := hq2.kept (o9 _ (by omega))
  have hq3 := hq3.kept (o9 _ (by omega))
  have ha : ecA G x (eO 5 [.ref q0, .ref q1, .ref q2, .ref q3, .int 0, .int 0]) H := h9
  refine lv_aload_n hC.1 hC.2.1 dX5_init_48 rfl (lv_at hl 0 rfl) ?_
  refine lv_iconst (v := 0) hC.1 hC.2.1 dX5_init_49 (by decide) ?_
  refine ec_put hC hK hS ha hx fX5_25 rfl rfl rfl (Nat.le_of_ble_eq_true rfl) dX5_init_50 (fun H locs h9 o9 z9 hS => ?_)
  have hA : s.heap.size ≤ H.size := Nat.le_trans hA (Nat.le_of_eq z9.symm)
  have hq0 := hq0.kept (o9 _ (by omega))
  have hq1 := hq1.kept (o9 _ (by omega))
  have hq2 := hq2.kept (o9 _ (by omega))
  have hq3 := hq3.kept (o9 _ (by omega))
  have ha : ecA G x (eO 5 [.ref q0, .ref q1, .ref q2, .ref q3, .int 0, .int 0]) H := h9
  refine lv_aload_n hC.1 hC.2.1 dX5_init_53 rfl (lv_at hl 0 rfl) ?_
  refine lv_bipush (v := 24) hC.1 hC.2.1 dX5_init_54 (by decide) ?_
  refine ec_put hC hK hS ha hx fX5_29 rfl rfl rfl (Nat.le_of_ble_eq_true rfl) dX5_init_56 (fun H locs h9 o9 z9 hS => ?_)
  have hA : s.heap.size ≤ H.size := Nat.le_trans hA (Nat.le_of_eq z9.symm)
  have hq0 := hq0.kept (o9 _ (by omega))
  have hq1 := hq1.kept (o9 _ (by omega))
  have hq2 := hq2.kept (o9 _ (by omega))
  have hq3 := hq3.kept (o9 _ (by omega))
  have ha : ecA G x (eO 5 [.ref q0, .ref q1, .ref q2, .ref q3, .int 0, .int 24]) H := h9
  exact W.vret hC.1 hC.2.1 hr (fun t9 ht9 _ => ⟨_, rfl, by rw [ht9]; exact ⟨rfl, fun q => if q = x then 1 else if q = q0 then 64 else if q = q1 then 65 else if q = q2 then 66 else 67, fun k i => if k = 1 then (if i = 0 then q0 else if i = 1 then q1 else if i = 2 then q2 else q3) else x, rfl, ⟨ha, if_pos rfl, hx⟩, lt_4 ⟨0, Or.inl ⟨rfl, hq0, by show (if q0 = x then 1 else if q0 = q0 then 64 else _) = _; rw [if_neg (by omega), if_pos rfl], hXs.2 _ hs0⟩⟩ ⟨0, Or.inl ⟨rfl, hq1, by show (if q1 = x then 1 else if q1 = q0 then 64 else if q1 = q1 then 65 else _) = _; rw [if_neg (by omega), if_neg (by omega), if_pos rfl], hXs.2 _ hs1⟩⟩ ⟨0, Or.inl ⟨rfl, hq2, by show (if q2 = x then 1 else if q2 = q0 then 64 else if q2 = q1 then 65 else if q2 = q2 then 66 else _) = _; rw [if_neg (by omega), if_neg (by omega), if_neg (by omega), if_pos rfl], hXs.2 _ hs2⟩⟩ ⟨0, Or.inl ⟨rfl, hq3, by show (if q3 = x then 1 else if q3 = q0 then 64 else if q3 = q1 then 65 else if q3 = q2 then 66 else 67) = _; rw [if_neg (by omega), if_neg (by omega), if_neg (by omega), if_neg (by omega)], hXs.2 _ hs3⟩⟩, fun i hi => absurd hi (Nat.not_lt_zero _), fun i hi => absurd hi (Nat.not_lt_zero _), fun i hi => absurd hi (Nat.not_lt_zero _), fun i hi => absurd hi (Nat.not_lt_zero _), WF.m0⟩, hS.F ht9⟩) hS.2.2 dX5_init_59
