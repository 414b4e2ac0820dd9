set_option maxHeartbeats 4000000 in
set_option maxRecDepth 100000 in
/-- a State is made: its three parts -/
theorem c_X4_init (l : Launch) (G : ecG) (a : Nat) (x y : Int32) (o : Bool) : Met l yX4_init (ecWs yX4_init cX4_init 4 none) (ecRm 1 0 0) (ecPc [.ref a, .int x, .int y, .int (bI o)] G (fun H => ecA G a (eO 4 [.int 0, .int 0, .int 0]) H)) (ecEp (fun v H1 => v = none ∧ ecA G a (eO 4 [.int x, .int y, .int (bI o)]) H1) (fun q : Nat => q = a)) 0 0 (fun q : Nat => q = a) := by
  refine ec_met (by decide) (Nat.le_of_ble_eq_true rfl) ?_
  intro p e s m below meth c hC hr hlocks hname hOk hpre ls hl
  have hK := hOk.1
  have ha := hpre
  have hS : va_S (fun q : Nat => q = a) s.heap s.heap [] := va_S.rf
  have hl : lv_has ls 4 [(0, .ref a), (1, .int x), (2, .int y), (3, .int (bI o))] := hl
  refine lv_aload_n hC.1 hC.2.1 dX4_init_0 rfl (lv_at hl 0 rfl) ?_
  refine W.objInit hC.1 hC.2.1 hC.2.2.2.1 (hC.2.2.2.2 _ kX4_1) (hC.2.2.2.2 _ qOi) (hC.2.2.2.2 _ qOc) rfl (by rw [hC.2.2.1]; exact hl.1) rfl dX4_init_1 (Nat.le_of_ble_eq_true rfl) (Nat.le_of_ble_eq_true rfl) ?_
  refine W.eq (g2 := F0 m 4 ls []) rfl ?_
  refine lv_aload_n hC.1 hC.2.1 dX4_init_4 rfl (lv_at hl 0 rfl) ?_
  refine lv_iload_n hC.1 hC.2.1 dX4_init_5 rfl (lv_at hl 1 rfl) ?_
  refine ec_putF hC hK hS ha rfl fX4_7 rfl hname rfl rfl rfl (Nat.le_of_ble_eq_true rfl) dX4_init_6 (fun H locs h9 o9 z9 hS => ?_)
  have ha : ecA G a (eO 4 [.int x, .int 0, .int 0]) H := h9
  refine lv_aload_n hC.1 hC.2.1 dX4_init_9 rfl (lv_at hl 0 rfl) ?_
  refine lv_iload_n hC.1 hC.2.1 dX4_init_10 rfl (lv_at hl 2 rfl) ?_
  refine ec_putF hC hK hS ha rfl fX4_13 rfl hname rfl rfl rfl (Nat.le_of_ble_eq_true rfl) dX4_init_11 (fun H locs h9 o9 z9 hS => ?_)
  have ha : ecA G a (eO 4 [.int x, .int y, .int 0]) H := h9
  refine lv_aload_n hC.1 hC.2.1 dX4_init_14 rfl (lv_at hl 0 rfl) ?_
  refine lv_iload_n hC.1 hC.2.1 dX4_init_15 rfl (lv_at hl 3 rfl) ?_
  refine ec_putF hC hK hS ha rfl fX4_16 rfl hname rfl (bI_nar _) (bI_fit _) (Nat.le_of_ble_eq_true rfl) dX4_init_16 (fun H locs h9 o9 z9 hS => ?_)
  have ha : ecA G a (eO 4 [.int x, .int y, .int (bI o)]) H := h9
  exact W.vret hC.1 hC.2.1 hr (fun t9 ht9 _ => ⟨_, rfl, ⟨rfl, by rw [ht9]; exact ha⟩, hS.F ht9⟩) hS.2.2 dX4_init_19

set_option maxHeartbeats 4000000 in
set_option maxRecDepth 100000 in
/-- in how many parts two states differ -/
theorem c_X4_partsUnlike (l : Launch) (G : ecG) (a b k k2 : Nat) (hk : k < 80) (hk2 : k2 < 80) : Met l yX4_partsUnlike (ecWs yX4_partsUnlike cX4_partsUnlike 3 (Option.some FieldType.int)) (ecRm 1 0 0) (ecPc [.ref a, .ref b] G (fun H => ecA G a (eO 4 (stL k)) H ∧ ecA G b (eO 4 (stL k2)) H)) (ecRp (fun v => v = some (.int (nI (dif k k2))))) 0 0 (fun _ => False) := by
  refine ec_met (by decide) (Nat.le_of_ble_eq_true rfl) ?_
  intro p e s m below meth c hC hr hlocks hname hOk hpre ls hl
  have hK := hOk.1
  obtain ⟨ha, hb⟩ := hpre
  have hS : va_S (fun _ => False) s.heap s.heap [] := va_S.rf
  have hAN : ∀ q, (fun _ : Nat => False) q → ecN0 G ≤ q := fun _ h => h.elim
  have hl : lv_has ls 3 [(0, .ref a), (1, .ref b)] := hl
  refine lv_iconst (v := 0) hC.1 hC.2.1 dX4_partsUnlike_0 (by decide) ?_
  refine lv_istore_n (lv' := [(2, .int 0), (0, .ref a), (1, .ref b)]) hC.1 hC.2.1 dX4_partsUnlike_1 rfl hl (by decide) rfl (fun ls hl => ?_)
  refine lv_aload_n hC.1 hC.2.1 dX4_partsUnlike_2 rfl (lv_at hl 1 rfl) ?_
  refine ec_get hC hK ha fX4_7 rfl dX4_partsUnlike_3 ?_
  refine lv_aload_n hC.1 hC.2.1 dX4_partsUnlike_6 rfl (lv_at hl 2 rfl) ?_
  refine ec_get hC hK hb fX4_7 rfl dX4_partsUnlike_7 ?_
  refine lv_icmp_eq (tgt := 16) hC.1 hC.2.1 dX4_partsUnlike_10 (by decide) (fun c_10 => ?_) (fun c_10 => ?_)
  · refine lv_aload_n hC.1 hC.2.1 dX4_partsUnlike_16 rfl (lv_at hl 1 rfl) ?_
    refine ec_get hC hK ha fX4_13 rfl dX4_partsUnlike_17 ?_
    refine lv_aload_n hC.1 hC.2.1 dX4_partsUnlike_20 rfl (lv_at hl 2 rfl) ?_
    refine ec_get hC hK hb fX4_13 rfl dX4_partsUnlike_21 ?_
    refine lv_icmp_eq (tgt := 30) hC.1 hC.2.1 dX4_partsUnlike_24 (by decide) (fun c_24 => ?_) (fun c_24 => ?_)
    · refine lv_aload_n hC.1 hC.2.1 dX4_partsUnlike_30 rfl (lv_at hl 1 rfl) ?_
      refine ec_get hC hK ha fX4_16 rfl dX4_partsUnlike_31 ?_
      refine lv_aload_n hC.1 hC.2.1 dX4_partsUnlike_34 rfl (lv_at hl 2 rfl) ?_
      refine ec_get hC hK hb fX4_16 rfl dX4_partsUnlike_35 ?_
      refine lv_icmp_eq (tgt := 44) hC.1 hC.2.1 dX4_partsUnlike_38 (by decide) (fun c_38 => ?_) (fun c_38 => ?_)
      · refine lv_iload_n hC.1 hC.2.1 dX4_partsUnlike_44 rfl (lv_at hl 0 rfl) ?_
        exact W.iret hC.1 hC.2.1 hr (fun t9 ht9 _ => ⟨_, rfl, (ec_int (by unfold dif; rw [if_pos ((nI_x (by omega) (by omega)).mp c_10), if_pos ((nI_x (by omega) (by omega)).mp c_24), if_pos ((nI_x (by omega) (by omega)).mp c_38)]; rfl)), ht9⟩) hS.2.2 dX4_partsUnlike_45
      · refine lv_iinc (v := 1) (lv' := [(2, .int 1), (0, .ref a), (1, .ref b)]) hC.1 hC.2.1 dX4_partsUnlike_41 hl (k := 0) rfl (by decide) (by decide) rfl (fun ls hl => ?_)
        refine lv_iload_n hC.1 hC.2.1 dX4_partsUnlike_44 rfl (lv_at hl 0 rfl) ?_
        exact W.iret hC.1 hC.2.1 hr (fun t9 ht9 _ => ⟨_, rfl, (ec_int (by unfold dif; rw [if_pos ((nI_x (by omega) (by omega)).mp c_10), if_pos ((nI_x (by omega) (by omega)).mp c_24), if_neg (fun z => c_38 ((nI_x (by omega) (by omega)).mpr z))]; rfl)), ht9⟩) hS.2.2 dX4_partsUnlike_45
    · refine lv_iinc (v := 1) (lv' := [(2, .int 1), (0, .ref a), (1, .ref b)]) hC.1 hC.2.1 dX4_partsUnlike_27 hl (k := 0) rfl (by decide) (by decide) rfl (fun ls hl => ?_)
      refine lv_aload_n hC.1 hC.2.1 dX4_partsUnlike_30 rfl (lv_at hl 1 rfl) ?_
      refine ec_get hC hK ha fX4_16 rfl dX4_partsUnlike_31 ?_
      refine lv_aload_n hC.1 hC.2.1 dX4_partsUnlike_34 rfl (lv_at hl 2 rfl) ?_
      refine ec_get hC hK hb fX4_16 rfl dX4_partsUnlike_35 ?_
      refine lv_icmp_eq (tgt := 44) hC.1 hC.2.1 dX4_partsUnlike_38 (by decide) (fun c_38 => ?_) (fun c_38 => ?_)
      · refine lv_iload_n hC.1 hC.2.1 dX4_partsUnlike_44 rfl (lv_at hl 0 rfl) ?_
        exact W.iret hC.1 hC.2.1 hr (fun t9 ht9 _ => ⟨_, rfl, (ec_int (by unfold dif; rw [if_pos ((nI_x (by omega) (by omega)).mp c_10), if_neg (fun z => c_24 ((nI_x (by omega) (by omega)).mpr z)), if_pos ((nI_x (by omega) (by omega)).mp c_38)]; rfl)), ht9⟩) hS.2.2 dX4_partsUnlike_45
      · refine lv_iinc (v := 2) (lv' := [(2, .int 2), (0, .ref a), (1, .ref b)]) hC.1 hC.2.1 dX4_partsUnlike_41 hl (k := 0) rfl (by decide) (by decide) rfl (fun ls hl => ?_)
        refine lv_iload_n hC.1 hC.2.1 dX4_partsUnlike_44 rfl (lv_at hl 0 rfl) ?_
        exact W.iret hC.1 hC.2.1 hr (fun t9 ht9 _ => ⟨_, rfl, (ec_int (by unfold dif; rw [if_pos ((nI_x (by omega) (by omega)).mp c_10), if_neg (fun z => c_24 ((nI_x (by omega) (by omega)).mpr z)), if_neg (fun z => c_38 ((nI_x (by omega) (by omega)).mpr z))]; rfl)), ht9⟩) hS.2.2 dX4_partsUnlike_45
  · refine lv_iinc (v := 1) (lv' := [(2, .int 1), (0, .ref a), (1, .ref b)]) hC.1 hC.2.1 dX4_partsUnlike_13 hl (k := 0) rfl (by decide) (by decide) rfl (fun ls hl => ?_)
    refine lv_aload_n hC.1 hC.2.1 dX4_partsUnlike_16 rfl (lv_at hl 1 rfl) ?_
    refine ec_get hC hK ha fX4_13 rfl dX4_partsUnlike_17 ?_
    refine lv_aload_n hC.1 hC.2.1 dX4_partsUnlike_20 rfl (lv_at hl 2 rfl) ?_
    refine ec_get hC hK hb fX4_13 rfl dX4_partsUnlike_21 ?_
    refine lv_icmp_eq (tgt := 30) hC.1 hC.2.1 dX4_partsUnlike_24 (by decide) (fun c_24 => ?_) (fun c_24 => ?_)
    · refine lv_aload_n hC.1 hC.2.1 dX4_partsUnlike_30 rfl (lv_at hl 1 rfl) ?_
      refine ec_get hC hK ha fX4_16 rfl dX4_partsUnlike_31 ?_
      refine lv_aload_n hC.1 hC.2.1 dX4_partsUnlike_34 rfl (lv_at hl 2 rfl) ?_
      refine ec_get hC hK hb fX4_16 rfl dX4_partsUnlike_35 ?_
      refine lv_icmp_eq (tgt := 44) hC.1 hC.2.1 dX4_partsUnlike_38 (by decide) (fun c_38 => ?_) (fun c_38 => ?_)
      · refine lv_iload_n hC.1 hC.2.1 dX4_partsUnlike_44 rfl (lv_at hl 0 rfl) ?_
        exact W.iret hC.1 hC.2.1 hr (fun t9 ht9 _ => ⟨_, rfl, (ec_int (by unfold dif; rw [if_neg (fun z => c_10 ((nI_x (by omega) (by omega)).mpr z)), if_pos ((nI_x (by omega) (by omega)).mp c_24), if_pos ((nI_x (by omega) (by omega)).mp c_38)]; rfl)), ht9⟩) hS.2.2 dX4_partsUnlike_45
      · refine lv_iinc (v := 2) (lv' := [(2, .int 2), (0, .ref a), (1, .ref b)]) hC.1 hC.2.1 dX4_partsUnlike_41 hl (k := 0) rfl (by decide) (by decide) rfl (fun ls hl => ?_)
        refine lv_iload_n hC.1 hC.2.1 dX4_partsUnlike_44 rfl (lv_at hl 0 rfl) ?_
        exact W.iret hC.1 hC.2.1 hr (fun t9 ht9 _ => ⟨_, rfl, (ec_int (by unfold dif; rw [if_neg (fun z => c_10 ((nI_x (by omega) (by omega)).mpr z)), if_pos ((nI_x (by omega) (by omega)).mp c_24), if_neg (fun z => c_38 ((nI_x (by omega) (by omega)).mpr z))]; rfl)), ht9⟩) hS.2.2 dX4_partsUnlike_45
    · refine lv_iinc (v := 2) (lv' := [(2, .int 2), (0, .ref a), (1, .ref b)]) hC.1 hC.2.1 dX4_partsUnlike_27 hl (k := 0) rfl (by decide) (by decide) rfl (fun ls hl => ?_)
      refine lv_aload_n hC.1 hC.2.1 dX4_partsUnlike_30 rfl (lv_at hl 1 rfl) ?_
      refine ec_get hC hK ha fX4_16 rfl dX4_partsUnlike_31 ?_
      refine lv_aload_n hC.1 hC.2.1 dX4_partsUnlike_34 rfl (lv_at hl 2 rfl) ?_
      refine ec_get hC hK hb fX4_16 rfl dX4_partsUnlike_35 ?_
      refine lv_icmp_eq (tgt := 44) hC.1 hC.2.1 dX4_partsUnlike_38 (by decide) (fun c_38 => ?_) (fun c_38 => ?_)
      · refine lv_iload_n hC.1 hC.2.1 dX4_partsUnlike_44 rfl (lv_at hl 0 rfl) ?_
        exact W.iret hC.1 hC.2.1 hr (fun t9 ht9 _ => ⟨_, rfl, (ec_int (by unfold dif; rw [if_neg (fun z => c_10 ((nI_x (by omega) (by omega)).mpr z)), if_neg (fun z => c_24 ((nI_x (by omega) (by omega)).mpr z)), if_pos ((nI_x (by omega) (by omega)).mp c_38)]; rfl)), ht9⟩) hS.2.2 dX4_partsUnlike_45
      · refine lv_iinc (v := 3) (lv' := [(2, .int 3), (0, .ref a), (1, .ref b)]) hC.1 hC.2.1 dX4_partsUnlike_41 hl (k := 0) rfl (by decide) (by decide) rfl (fun ls hl => ?_)
        refine lv_iload_n hC.1 hC.2.1 dX4_partsUnlike_44 rfl (lv_at hl 0 rfl) ?_
        exact W.iret hC.1 hC.2.1 hr (fun t9 ht9 _ => ⟨_, rfl, (ec_int (by unfold dif; rw [if_neg (fun z => c_10 ((nI_x (by omega) (by omega)).mpr z)), if_neg (fun z => c_24 ((nI_x (by omega) (by omega)).mpr z)), if_neg (fun z => c_38 ((nI_x (by omega) (by omega)).mpr z))]; rfl)), ht9⟩) hS.2.2 dX4_partsUnlike_45

set_option maxHeartbeats 4000000 in
set_option maxRecDepth 100000 in
/-- a Room is made: its state, no changes -/
theorem c_X3_init (l : Launch) (G : ecG) (a q : Nat) : Met l yX3_init (ecWs yX3_init cX3_init 2 none) (ecRm 1 0 0) (ecPc [.ref a, .ref q] G (fun H => ecA G a (eO 3 [.null, .int 0]) H)) (ecEp (fun v H1 => v = none ∧ ecA G a (eO 3 [.ref q, .int 0]) H1) (fun q : Nat => q = a)) 0 0 (fun q : Nat => q = a) := by
  refine ec_met (by decide) (Nat.le_of_ble_eq_true rfl) ?_
  intro p e s m below meth c hC hr hlocks hname hOk hpre ls hl
  have hK := hOk.1
  have ha := hpre
  have hS : va_S (fun q : Nat => q = a) s.heap s.heap [] := va_S.rf
  have hl : lv_has ls 2 [(0, .ref a), (1, .ref q)] := hl
  refine lv_aload_n hC.1 hC.2.1 dX3_init_0 rfl (lv_at hl 0 rfl) ?_
  refine W.objInit hC.1 hC.2.1 hC.2.2.2.1 (hC.2.2.2.2 _ kX3_1) (hC.2.2.2.2 _ qOi) (hC.2.2.2.2 _ qOc) rfl (by rw [hC.2.2.1]; exact hl.1) rfl dX3_init_1 (Nat.le_of_ble_eq_true rfl) (Nat.le_of_ble_eq_true rfl) ?_
  refine W.eq (g2 := F0 m 4 ls []) rfl ?_
  refine lv_aload_n hC.1 hC.2.1 dX3_init_4 rfl (lv_at hl 0 rfl) ?_
  refine lv_aload_n hC.1 hC.2.1 dX3_init_5 rfl (lv_at hl 1 rfl) ?_
  refine ec_put hC hK hS ha rfl fX3_7 rfl rfl rfl (Nat.le_of_ble_eq_true rfl) dX3_init_6 (fun H locs h9 o9 z9 hS => ?_)
  have ha : ecA G a (eO 3 [.ref q, .int 0]) H := h9
  refine lv_aload_n hC.1 hC.2.1 dX3_init_9 rfl (lv_at hl 0 rfl) ?_
  refine lv_iconst (v := 0) hC.1 hC.2.1 dX3_init_10 (by decide) ?_
  refine ec_put hC hK hS ha rfl fX3_13 rfl rfl rfl (Nat.le_of_ble_eq_true rfl) dX3_init_11 (fun H locs h9 o9 z9 hS => ?_)
  have ha : ecA G a (eO 3 [.ref q, .int 0]) H := h9
  exact W.vret hC.1 hC.2.1 hr (fun t9 ht9 _ => ⟨_, rfl, ⟨rfl, by rw [ht9]; exact ha⟩, hS.F ht9⟩) hS.2.2 dX3_init_14

set_option maxHeartbeats 4000000 in
set_option maxRecDepth 100000 in
/-- a Room takes a state -/
theorem c_X3_take (l : Launch) (G : ecG) (a q q2 k k2 : Nat) (ch : Int32) (hN : ecN0 G ≤ a) (hk : k < 80) (hk2 : k2 < 80) : Met l yX3_take (ecWs yX3_take cX3_take 3 (Option.some FieldType.int)) (ecRm 2 0 0) (ecPc [.ref a, .ref q2] G (fun H => ecA G a (eO 3 [.ref q, .int ch]) H ∧ ecA G q (eO 4 (stL k)) H ∧ ecA G q2 (eO 4 (stL k2)) H)) (ecEp (fun v H1 => v = some (.int (nI (dif k k2))) ∧ ecA G a (eO 3 [.ref q2, .int (ch + nI (dif k k2))]) H1) (fun q : Nat => q = a)) 0 0 (fun q : Nat => q = a) := by
  refine ec_met (by decide) (Nat.le_of_ble_eq_true rfl) ?_
  intro p e s m below meth c hC hr hlocks hname hOk hpre ls hl
  have hK := hOk.1
  obtain ⟨ha, hq, hq2⟩ := hpre
  have hS : va_S (fun q : Nat => q = a) s.heap s.heap [] := va_S.rf
  have hAN : ∀ q, (fun q : Nat => q = a) q → ecN0 G ≤ q := fun q h => by rw [h]; exact hN
  have hl : lv_has ls 3 [(0, .ref a), (1, .ref q2)] := hl
  refine lv_aload_n hC.1 hC.2.1 dX3_take_0 rfl (lv_at hl 0 rfl) ?_
  refine ec_get hC hK ha fX3_7 rfl dX3_take_1 ?_
  refine lv_aload_n hC.1 hC.2.1 dX3_take_4 rfl (lv_at hl 1 rfl) ?_
  refine ec_go1 (ec_rV hC (c_X4_partsUnlike l G q q2 k k2 hk hk2) kX3_17 (hOk.at hS hAN) ⟨hq, hq2⟩ (ec_rc hK hq ⟨_, _, rfl⟩) hl.1 ⟨Nat.le_of_ble_eq_true rfl, Nat.le_of_ble_eq_true rfl⟩ rfl (Nat.le_of_ble_eq_true rfl) dX3_take_5 ⟨Nat.le_of_ble_eq_true rfl, Nat.le_of_ble_eq_true rfl⟩) ?_
  refine lv_istore_n (lv' := [(2, .int (nI (dif k k2))), (0, .ref a), (1, .ref q2)]) hC.1 hC.2.1 dX3_take_8 rfl hl (by decide) rfl (fun ls hl => ?_)
  refine lv_aload_n hC.1 hC.2.1 dX3_take_9 rfl (lv_at hl 1 rfl) ?_
  refine lv_aload_n hC.1 hC.2.1 dX3_take_10 rfl (lv_at hl 2 rfl) ?_
  refine ec_put hC hK hS ha rfl fX3_7 rfl rfl rfl (Nat.le_of_ble_eq_true rfl) dX3_take_11 (fun H locs h9 o9 z9 hS => ?_)
  have ha : ecA G a (eO 3 [.ref q2, .int ch]) H := h9
  refine lv_aload_n hC.1 hC.2.1 dX3_take_14 rfl (lv_at hl 1 rfl) ?_
  refine lv_dup hC.1 hC.2.1 dX3_take_15 rfl ?_
  refine ec_get hC hK ha fX3_13 rfl dX3_take_16 ?_
  refine lv_iload_n hC.1 hC.2.1 dX3_take_19 rfl (lv_at hl 0 rfl) ?_
  refine lv_iadd hC.1 hC.2.1 dX3_take_20 ?_
  refine ec_put hC hK hS ha rfl fX3_13 rfl rfl rfl (Nat.le_of_ble_eq_true rfl) dX3_take_21 (fun H locs h9 o9 z9 hS => ?_)
  have ha : ecA G a (eO 3 [.ref q2, .int (ch + (nI (dif k k2)))]) H := h9
  refine lv_iload_n hC.1 hC.2.1 dX3_take_24 rfl (lv_at hl 0 rfl) ?_
  exact W.iret hC.1 hC.2.1 hr (fun t9 ht9 _ => ⟨_, rfl, ⟨rfl, by rw [ht9]; exact ha⟩, hS.F ht9⟩) hS.2.2 dX3_take_25

set_option maxHeartbeats 4000000 in
set_option maxRecDepth 100000 in
/-- an Answer is made -/
theorem c_X0_init (l : Launch) (G : ecG) (a r q sa : Nat) (n pl h ch : Int32) (hne : r ≠ a) : Met l yX0_init (ecWs yX0_init cX0_init 6 none) (ecRm 1 0 0) (ecPc [.ref a, .int n, .ref r, .int pl, .ref sa, .int h] G (fun H => ecA G a (eO 0 [.int 0, .null, .null, .int 0, .null, .int 0, .int 0]) H ∧ ecA G r (eO 3 [.ref q, .int ch]) H)) (ecEp (fun v H1 => v = none ∧ ecA G a (eO 0 [.int n, .ref r, .ref q, .int pl, .ref sa, .int h, .int ch]) H1) (fun q : Nat => q = a)) 0 0 (fun q : Nat => q = a) := by
  refine ec_met (by decide) (Nat.le_of_ble_eq_true rfl) ?_
  intro p e s m below meth c hC hr hlocks hname hOk hpre ls hl
  have hK := hOk.1
  obtain ⟨ha, hq⟩ := hpre
  have hS : va_S (fun q : Nat => q = a) s.heap s.heap [] := va_S.rf
  have hl : lv_has ls 6 [(0, .ref a), (1, .int n), (2, .ref r), (3, .int pl), (4, .ref sa), (5, .int h)] := hl
  refine lv_aload_n hC.1 hC.2.1 dX0_init_0 rfl (lv_at hl 0 rfl) ?_
  refine W.objInit hC.1 hC.2.1 hC.2.2.2.1 (hC.2.2.2.2 _ kX0_3) (hC.2.2.2.2 _ qOi) (hC.2.2.2.2 _ qOc) rfl (by rw [hC.2.2.1]; exact hl.1) rfl dX0_init_1 (Nat.le_of_ble_eq_true rfl) (Nat.le_of_ble_eq_true rfl) ?_
  refine W.eq (g2 := F0 m 4 ls []) rfl ?_
  refine lv_aload_n hC.1 hC.2.1 dX0_init_4 rfl (lv_at hl 0 rfl) ?_
  refine lv_iload_n hC.1 hC.2.1 dX0_init_5 rfl (lv_at hl 1 rfl) ?_
  refine ec_putF hC hK hS ha rfl fX0_9 rfl hname rfl rfl rfl (Nat.le_of_ble_eq_true rfl) dX0_init_6 (fun H locs h9 o9 z9 hS => ?_)
  have hq := hq.kept (o9 _ hne)
  have ha : ecA G a (eO 0 [.int n, .null, .null, .int 0, .null, .int 0, .int 0]) H := h9
  refine lv_aload_n hC.1 hC.2.1 dX0_init_9 rfl (lv_at hl 0 rfl) ?_
  refine lv_aload_n hC.1 hC.2.1 dX0_init_10 rfl (lv_at hl 2 rfl) ?_
  refine ec_putF hC hK hS ha rfl fX0_15 rfl hname rfl rfl rfl (Nat.le_of_ble_eq_true rfl) dX0_init_11 (fun H locs h9 o9 z9 hS => ?_)
  have hq := hq.kept (o9 _ hne)
  have ha : ecA G a (eO 0 [.int n, .ref r, .null, .int 0, .null, .int 0, .int 0]) H := h9
  refine lv_aload_n hC.1 hC.2.1 dX0_init_14 rfl (lv_at hl 0 rfl) ?_
  refine lv_aload_n hC.1 hC.2.1 dX0_init_15 rfl (lv_at hl 2 rfl) ?_
  refine ec_get hC hK hq fX0_19 rfl dX0_init_16 ?_
  refine ec_putF hC hK hS ha rfl fX0_25 rfl hname rfl rfl rfl (Nat.le_of_ble_eq_true rfl) dX0_init_19 (fun H locs h9 o9 z9 hS => ?_)
  have hq := hq.kept (o9 _ hne)
  have ha : ecA G a (eO 0 [.int n, .ref r, .ref q, .int 0, .null, .int 0, .int 0]) H := h9
  refine lv_aload_n hC.1 hC.2.1 dX0_init_22 rfl (lv_at hl 0 rfl) ?_
  refine lv_iload_n hC.1 hC.2.1 dX0_init_23 rfl (lv_at hl 3 rfl) ?_
  refine ec_putF hC hK hS ha rfl fX0_26 rfl hname rfl rfl rfl (Nat.le_of_ble_eq_true rfl) dX0_init_24 (fun H locs h9 o9 z9 hS => ?_)
  have hq := hq.kept (o9 _ hne)
  have ha : ecA G a (eO 0 [.int n, .ref r, .ref q, .int pl, .null, .int 0, .int 0]) H := h9
  refine lv_aload_n hC.1 hC.2.1 dX0_init_27 rfl (lv_at hl 0 rfl) ?_
  refine lv_aload hC.1 hC.2.1 dX0_init_28 (lv_at hl 4 rfl) ?_
  refine ec_putF hC hK hS ha rfl fX0_29 rfl hname rfl rfl rfl (Nat.le_of_ble_eq_true rfl) dX0_init_30 (fun H locs h9 o9 z9 hS => ?_)
  have hq := hq.kept (o9 _ hne)
  have ha : ecA G a (eO 0 [.int n, .ref r, .ref q, .int pl, .ref sa, .int 0, .int 0]) H := h9
  refine lv_aload_n hC.1 hC.2.1 dX0_init_33 rfl (lv_at hl 0 rfl) ?_
  refine lv_iload hC.1 hC.2.1 dX0_init_34 (lv_at hl 5 rfl) ?_
  refine ec_putF hC hK hS ha rfl fX0_33 rfl hname rfl rfl rfl (Nat.le_of_ble_eq_true rfl) dX0_init_36 (fun H locs h9 o9 z9 hS => ?_)
  have hq := hq.kept (o9 _ hne)
  have ha : ecA G a (eO 0 [.int n, .ref r, .ref q, .int pl, .ref sa, .int h, .int 0]) H := h9
  refine lv_aload_n hC.1 hC.2.1 dX0_init_39 rfl (lv_at hl 0 rfl) ?_
  refine lv_aload_n hC.1 hC.2.1 dX0_init_40 rfl (lv_at hl 2 rfl) ?_
  refine ec_get hC hK hq fX0_36 rfl dX0_init_41 ?_
  refine ec_putF hC hK hS ha rfl fX0_39 rfl hname rfl rfl rfl (Nat.le_of_ble_eq_true rfl) dX0_init_44 (fun H locs h9 o9 z9 hS => ?_)
  have hq := hq.kept (o9 _ hne)
  have ha : ecA G a (eO 0 [.int n, .ref r, .ref q, .int pl, .ref sa, .int h, .int ch]) H := h9
  exact W.vret hC.1 hC.2.1 hr (fun t9 ht9 _ => ⟨_, rfl, ⟨rfl, by rw [ht9]; exact ha⟩, hS.F ht9⟩) hS.2.2 dX0_init_47

set_option maxHeartbeats 4000000 in
set_option maxRecDepth 100000 in
/-- whether an answer is for a room and a state -/
theorem c_X0_isForState (l : Launch) (G : ecG) (a r r2 q q2 k k2 : Nat) (v0 v3 v4 v5 v6 : Value) (hk : k < 80) (hk2 : k2 < 80) : Met l yX0_isForState (ecWs yX0_isForState cX0_isForState 3 (Option.some FieldType.boolean)) (ecRm 2 0 0) (ecPc [.ref a, .ref r2, .ref q2] G (fun H => ecA G a (eO 0 [v0, .ref r, .ref q, v3, v4, v5, v6]) H ∧ ecA G q (eO 4 (stL k)) H ∧ ecA G q2 (eO 4 (stL k2)) H)) (ecRp (fun v => v = some (.int (bI (decide (r = r2) && decide (k = k2)))))) 0 0 (fun _ => False) := by
  refine ec_met (by decide) (Nat.le_of_ble_eq_true rfl) ?_
  intro p e s m below meth c hC hr hlocks hname hOk hpre ls hl
  have hK := hOk.1
  obtain ⟨ha, hq, hq2⟩ := hpre
  have hS : va_S (fun _ => False) s.heap s.heap [] := va_S.rf
  have hAN : ∀ q, (fun _ : Nat => False) q → ecN0 G ≤ q := fun _ h => h.elim
  have hl : lv_has ls 3 [(0, .ref a), (1, .ref r2), (2, .ref q2)] := hl
  refine lv_aload_n hC.1 hC.2.1 dX0_isForState_0 rfl (lv_at hl 0 rfl) ?_
  refine ec_get hC hK ha fX0_15 rfl dX0_isForState_1 ?_
  refine lv_aload_n hC.1 hC.2.1 dX0_isForState_4 rfl (lv_at hl 1 rfl) ?_
  refine lv_acmp_ne (rx := (some r)) (ry := (some r2)) (tgt := 23) hC.1 hC.2.1 dX0_isForState_5 (by decide) (fun c_5 => ?_) (fun c_5 => ?_)
  · refine lv_iconst (v := 0) hC.1 hC.2.1 dX0_isForState_23 (by decide) ?_
    exact W.zret hC.1 hC.2.1 hr rfl (fun t9 ht9 _ => ⟨_, rfl, (ec_int (by rw [decide_eq_false (fun z => c_5 (by rw [z])), Bool.false_and]; rfl)), ht9⟩) hS.2.2 dX0_isForState_24
  · refine lv_aload_n hC.1 hC.2.1 dX0_isForState_8 rfl (lv_at hl 0 rfl) ?_
    refine ec_get hC hK ha fX0_25 rfl dX0_isForState_9 ?_
    refine lv_aload_n hC.1 hC.2.1 dX0_isForState_12 rfl (lv_at hl 2 rfl) ?_
    refine ec_go1 (ec_rV hC (c_X4_partsUnlike l G q q2 k k2 hk hk2) kX0_42 (hOk.at hS hAN) ⟨hq, hq2⟩ (ec_rc hK hq ⟨_, _, rfl⟩) hl.1 ⟨Nat.le_of_ble_eq_true rfl, Nat.le_of_ble_eq_true rfl⟩ rfl (Nat.le_of_ble_eq_true rfl) dX0_isForState_13 ⟨Nat.le_of_ble_eq_true rfl, Nat.le_of_ble_eq_true rfl⟩) ?_
    refine lv_if_ne (tgt := 23) hC.1 hC.2.1 dX0_isForState_16 (by decide) (fun c_16 => ?_) (fun c_16 => ?_)
    · refine lv_iconst (v := 0) hC.1 hC.2.1 dX0_isForState_23 (by decide) ?_
      exact W.zret hC.1 hC.2.1 hr rfl (fun t9 ht9 _ => ⟨_, rfl, (ec_int (by rw [decide_eq_false (p := k = k2) (fun z => c_16 (by rw [(dif_0 hk hk2).mpr z]; rfl)), Bool.and_false]; rfl)), ht9⟩) hS.2.2 dX0_isForState_24
    · refine lv_iconst (v := 1) hC.1 hC.2.1 dX0_isForState_19 (by decide) ?_
      refine lv_goto (tgt := 24) hC.1 hC.2.1 dX0_isForState_20 (by decide) ?_
      exact W.zret hC.1 hC.2.1 hr rfl (fun t9 ht9 _ => ⟨_, rfl, (ec_int (by rw [decide_eq_true (Option.some.inj c_5), decide_eq_true ((dif_0 hk hk2).mp ((nI_eq (Nat.lt_of_le_of_lt (dif_le _ _) (by decide)) (by decide)).mp c_16))]; rfl)), ht9⟩) hS.2.2 dX0_isForState_24

set_option maxHeartbeats 4000000 in
set_option maxRecDepth 100000 in
/-- an answer its age -/
theorem c_X0_ageAt (l : Launch) (G : ecG) (a r q : Nat) (v0 v2 v3 v4 vr : Value) (h ht2 ch ct : Int32) : Met l yX0_ageAt (ecWs yX0_ageAt cX0_ageAt 2 (Option.some FieldType.int)) (ecRm 1 0 0) (ecPc [.ref a, .int h] G (fun H => ecA G a (eO 0 [v0, .ref r, v2, v3, v4, .int ht2, .int ct]) H ∧ ecA G r (eO 3 [vr, .int ch]) H)) (ecRp (fun v => v = some (.int (h - ht2 + 2 * (ch - ct))))) 0 0 (fun _ => False) := by
  refine ec_met (by decide) (Nat.le_of_ble_eq_true rfl) ?_
  intro p e s m below meth c hC hr hlocks hname hOk hpre ls hl
  have hK := hOk.1
  obtain ⟨ha, hq⟩ := hpre
  have hS : va_S (fun _ => False) s.heap s.heap [] := va_S.rf
  have hAN : ∀ q, (fun _ : Nat => False) q → ecN0 G ≤ q := fun _ h => h.elim
  have hl : lv_has ls 2 [(0, .ref a), (1, .int h)] := hl
  refine lv_iload_n hC.1 hC.2.1 dX0_ageAt_0 rfl (lv_at hl 1 rfl) ?_
  refine lv_aload_n hC.1 hC.2.1 dX0_ageAt_1 rfl (lv_at hl 0 rfl) ?_
  refine ec_get hC hK ha fX0_33 rfl dX0_ageAt_2 ?_
  refine lv_isub hC.1 hC.2.1 dX0_ageAt_5 ?_
  refine lv_iconst (v := 2) hC.1 hC.2.1 dX0_ageAt_6 (by decide) ?_
  refine lv_aload_n hC.1 hC.2.1 dX0_ageAt_7 rfl (lv_at hl 0 rfl) ?_
  refine ec_get hC hK ha fX0_15 rfl dX0_ageAt_8 ?_
  refine ec_get hC hK hq fX0_36 rfl dX0_ageAt_11 ?_
  refine lv_aload_n hC.1 hC.2.1 dX0_ageAt_14 rfl (lv_at hl 0 rfl) ?_
  refine ec_get hC hK ha fX0_39 rfl dX0_ageAt_15 ?_
  refine lv_isub hC.1 hC.2.1 dX0_ageAt_18 ?_
  refine lv_imul hC.1 hC.2.1 dX0_ageAt_19 ?_
  refine lv_iadd hC.1 hC.2.1 dX0_ageAt_20 ?_
  exact W.iret hC.1 hC.2.1 hr (fun t9 ht9 _ => ⟨_, rfl, rfl, ht9⟩) hS.2.2 dX0_ageAt_21

set_option maxHeartbeats 4000000 in
set_option maxRecDepth 100000 in
/-- a Booking is made -/
theorem c_X1_init (l : Launch) (G : ecG) (a r q : Nat) (n f la : Int32) : Met l yX1_init (ecWs yX1_init cX1_init 6 none) (ecRm 1 0 0) (ecPc [.ref a, .int n, .ref r, .ref q, .int f, .int la] G (fun H => ecA G a (eO 1 [.int 0, .null, .null, .int 0, .int 0, .int 0]) H)) (ecEp (fun v H1 => v = none ∧ ecA G a (eO 1 [.int n, .ref r, .ref q, .int f, .int la, .int 0]) H1) (fun q : Nat => q = a)) 0 0 (fun q : Nat => q = a) := by
  refine ec_met (by decide) (Nat.le_of_ble_eq_true rfl) ?_
  intro p e s m below meth c hC hr hlocks hname hOk hpre ls hl
  have hK := hOk.1
  have ha := hpre
  have hS : va_S (fun q : Nat => q = a) s.heap s.heap [] := va_S.rf
  have hl : lv_has ls 6 [(0, .ref a), (1, .int n), (2, .ref r), (3, .ref q), (4, .int f), (5, .int la)] := hl
  refine lv_aload_n hC.1 hC.2.1 dX1_init_0 rfl (lv_at hl 0 rfl) ?_
  refine W.objInit hC.1 hC.2.1 hC.2.2.2.1 (hC.2.2.2.2 _ kX1_1) (hC.2.2.2.2 _ qOi) (hC.2.2.2.2 _ qOc) rfl (by rw [hC.2.2.1]; exact hl.1) rfl dX1_init_1 (Nat.le_of_ble_eq_true rfl) (Nat.le_of_ble_eq_true rfl) ?_
  refine W.eq (g2 := F0 m 4 ls []) rfl ?_
  refine lv_aload_n hC.1 hC.2.1 dX1_init_4 rfl (lv_at hl 0 rfl) ?_
  refine lv_iload_n hC.1 hC.2.1 dX1_init_5 rfl (lv_at hl 1 rfl) ?_
  refine ec_putF hC hK hS ha rfl fX1_7 rfl hname rfl rfl rfl (Nat.le_of_ble_eq_true rfl) dX1_init_6 (fun H locs h9 o9 z9 hS => ?_)
  have ha : ecA G a (eO 1 [.int n, .null, .null, .int 0, .int 0, .int 0]) H := h9
  refine lv_aload_n hC.1 hC.2.1 dX1_init_9 rfl (lv_at hl 0 rfl) ?_
  refine lv_aload_n hC.1 hC.2.1 dX1_init_10 rfl (lv_at hl 2 rfl) ?_
  refine ec_putF hC hK hS ha rfl fX1_13 rfl hname rfl rfl rfl (Nat.le_of_ble_eq_true rfl) dX1_init_11 (fun H locs h9 o9 z9 hS => ?_)
  have ha : ecA G a (eO 1 [.int n, .ref r, .null, .int 0, .int 0, .int 0]) H := h9
  refine lv_aload_n hC.1 hC.2.1 dX1_init_14 rfl (lv_at hl 0 rfl) ?_
  refine lv_aload_n hC.1 hC.2.1 dX1_init_15 rfl (lv_at hl 3 rfl) ?_
  refine ec_putF hC hK hS ha rfl fX1_17 rfl hname rfl rfl rfl (Nat.le_of_ble_eq_true rfl) dX1_init_16 (fun H locs h9 o9 z9 hS => ?_)
  have ha : ecA G a (eO 1 [.int n, .ref r, .ref q, .int 0, .int 0, .int 0]) H := h9
  refine lv_aload_n hC.1 hC.2.1 dX1_init_19 rfl (lv_at hl 0 rfl) ?_
  refine lv_iload hC.1 hC.2.1 dX1_init_20 (lv_at hl 4 rfl) ?_
  refine ec_putF hC hK hS ha rfl fX1_21 rfl hname rfl rfl rfl (Nat.le_of_ble_eq_true rfl) dX1_init_22 (fun H locs h9 o9 z9 hS => ?_)
  have ha : ecA G a (eO 1 [.int n, .ref r, .ref q, .int f, .int 0, .int 0]) H := h9
  refine lv_aload_n hC.1 hC.2.1 dX1_init_25 rfl (lv_at hl 0 rfl) ?_
  refine lv_iload hC.1 hC.2.1 dX1_init_26 (lv_at hl 5 rfl) ?_
  refine ec_putF hC hK hS ha rfl fX1_24 rfl hname rfl rfl rfl (Nat.le_of_ble_eq_true rfl) dX1_init_28 (fun H locs h9 o9 z9 hS => ?_)
  have ha : ecA G a (eO 1 [.int n, .ref r, .ref q, .int f, .int la, .int 0]) H := h9
  refine lv_aload_n hC.1 hC.2.1 dX1_init_31 rfl (lv_at hl 0 rfl) ?_
  refine lv_iconst (v := 0) hC.1 hC.2.1 dX1_init_32 (by decide) ?_
  refine ec_put hC hK hS ha rfl fX1_27 rfl rfl rfl (Nat.le_of_ble_eq_true rfl) dX1_init_33 (fun H locs h9 o9 z9 hS => ?_)
  have ha : ecA G a (eO 1 [.int n, .ref r, .ref q, .int f, .int la, .int 0]) H := h9
  exact W.vret hC.1 hC.2.1 hr (fun t9 ht9 _ => ⟨_, rfl, ⟨rfl, by rw [ht9]; exact ha⟩, hS.F ht9⟩) hS.2.2 dX1_init_36

set_option maxHeartbeats 4000000 in
set_option maxRecDepth 100000 in
/-- whether a booking stands for a room -/
theorem c_X1_standsFor (l : Launch) (G : ecG) (a r r2 g : Nat) (v0 v2 v3 v4 : Value) (hg : g ≤ 1) : Met l yX1_standsFor (ecWs yX1_standsFor cX1_standsFor 2 (Option.some FieldType.boolean)) (ecRm 1 0 0) (ecPc [.ref a, .ref r2] G (fun H => ecA G a (eO 1 [v0, .ref r, v2, v3, v4, .int (nI g)]) H)) (ecRp (fun v => v = some (.int (bI (decide (g = 0) && decide (r = r2)))))) 0 0 (fun _ => False) := by
  refine ec_met (by decide) (Nat.le_of_ble_eq_true rfl) ?_
  intro p e s m below meth c hC hr hlocks hname hOk hpre ls hl
  have hK := hOk.1
  have ha := hpre
  have hS : va_S (fun _ => False) s.heap s.heap [] := va_S.rf
  have hAN : ∀ q, (fun _ : Nat => False) q → ecN0 G ≤ q := fun _ h => h.elim
  have hl : lv_has ls 2 [(0, .ref a), (1, .ref r2)] := hl
  refine lv_aload_n hC.1 hC.2.1 dX1_standsFor_0 rfl (lv_at hl 0 rfl) ?_
  refine ec_get hC hK ha fX1_27 rfl dX1_standsFor_1 ?_
  refine lv_if_ne (tgt := 19) hC.1 hC.2.1 dX1_standsFor_4 (by decide) (fun c_4 => ?_) (fun c_4 => ?_)
  · refine lv_iconst (v := 0) hC.1 hC.2.1 dX1_standsFor_19 (by decide) ?_
    exact W.zret hC.1 hC.2.1 hr rfl (fun t9 ht9 _ => ⟨_, rfl, (ec_int (by rw [decide_eq_false (fun z => c_4 (by rw [z]; rfl)), Bool.false_and]; rfl)), ht9⟩) hS.2.2 dX1_standsFor_20
  · refine lv_aload_n hC.1 hC.2.1 dX1_standsFor_7 rfl (lv_at hl 0 rfl) ?_
    refine ec_get hC hK ha fX1_13 rfl dX1_standsFor_8 ?_
    refine lv_aload_n hC.1 hC.2.1 dX1_standsFor_11 rfl (lv_at hl 1 rfl) ?_
    refine lv_acmp_ne (rx := (some r)) (ry := (some r2)) (tgt := 19) hC.1 hC.2.1 dX1_standsFor_12 (by decide) (fun c_12 => ?_) (fun c_12 => ?_)
    · refine lv_iconst (v := 0) hC.1 hC.2.1 dX1_standsFor_19 (by decide) ?_
      exact W.zret hC.1 hC.2.1 hr rfl (fun t9 ht9 _ => ⟨_, rfl, (ec_int (by rw [decide_eq_true ((nI_eq (Nat.lt_of_le_of_lt hg (by decide)) (by decide)).mp c_4), decide_eq_false (fun z => c_12 (by rw [z])), Bool.and_false]; rfl)), ht9⟩) hS.2.2 dX1_standsFor_20
    · refine lv_iconst (v := 1) hC.1 hC.2.1 dX1_standsFor_15 (by decide) ?_
      refine lv_goto (tgt := 20) hC.1 hC.2.1 dX1_standsFor_16 (by decide) ?_
      exact W.zret hC.1 hC.2.1 hr rfl (fun t9 ht9 _ => ⟨_, rfl, (ec_int (by rw [decide_eq_true ((nI_eq (Nat.lt_of_le_of_lt hg (by decide)) (by decide)).mp c_4), decide_eq_true (Option.some.inj c_12)]; rfl)), ht9⟩) hS.2.2 dX1_standsFor_20

set_option maxHeartbeats 4000000 in
set_option maxRecDepth 100000 in
/-- hours between -/
theorem c_X1_hoursBetween (l : Launch) (G : ecG) (x y : Int32) : Met l yX1_hoursBetween (ecWs yX1_hoursBetween cX1_hoursBetween 2 (Option.some FieldType.long)) (ecRm 1 0 0) (ecPc [.int x, .int y] G (fun H => True)) (ecRp (fun v => v = some (.long (Int32.toInt64 y - Int32.toInt64 x - 1)))) 0 0 (fun _ => False) := by
  refine ec_met (by decide) (Nat.le_of_ble_eq_true rfl) ?_
  intro p e s m below meth c hC hr hlocks hname hOk hpre ls hl
  have hK := hOk.1
  have hS : va_S (fun _ => False) s.heap s.heap [] := va_S.rf
  have hAN : ∀ q, (fun _ : Nat => False) q → ecN0 G ≤ q := fun _ h => h.elim
  have hl : lv_has ls 2 [(0, .int x), (1, .int y)] := hl
  refine lv_iload_n hC.1 hC.2.1 dX1_hoursBetween_0 rfl (lv_at hl 1 rfl) ?_
  refine lv_i2l hC.1 hC.2.1 dX1_hoursBetween_1 rfl ?_
  refine lv_iload_n hC.1 hC.2.1 dX1_hoursBetween_2 rfl (lv_at hl 0 rfl) ?_
  refine lv_i2l hC.1 hC.2.1 dX1_hoursBetween_3 rfl ?_
  refine lv_lsub hC.1 hC.2.1 dX1_hoursBetween_4 ?_
  refine lv_lconst (v := 1) hC.1 hC.2.1 dX1_hoursBetween_5 (by decide) ?_
  refine lv_lsub hC.1 hC.2.1 dX1_hoursBetween_6 ?_
  exact W.lret hC.1 hC.2.1 hr (fun t9 ht9 _ => ⟨_, rfl, rfl, ht9⟩) hS.2.2 dX1_hoursBetween_7

theorem ec_hb (x y : Int32) (d : Nat) (hd : d ≤ 3) : (Int32.toInt64 y - Int32.toInt64 x - 1 < (nI d).toInt64) ↔ y.toInt - x.toInt ≤ d := by
  have hx1 := x.toInt_lt; have hx2 := x.le_toInt; have hy1 := y.toInt_lt; have hy2 := y.le_toInt
  have e1 : (Int32.toInt64 y - Int32.toInt64 x).toInt = y.toInt - x.toInt := by
    rw [Int64.toInt_sub, Int32.toInt_toInt64, Int32.toInt_toInt64, Int.bmod_eq_of_le (by omega) (by omega)]
  have e2 : (Int32.toInt64 y - Int32.toInt64 x - 1).toInt = y.toInt - x.toInt - 1 := by
    rw [Int64.toInt_sub, e1, show (1 : Int64).toInt = 1 from rfl, Int.bmod_eq_of_le (by omega) (by omega)]
  rw [Int64.lt_iff_toInt_lt, e2, Int32.toInt_toInt64, nI_toInt (by omega)]
  omega
theorem ec_hb1 (x y : Int32) (d : Nat) (hd : d ≤ 3) : (0 ≤ lg_cmp (Int32.toInt64 y - Int32.toInt64 x - 1) (nI d).toInt64) ↔ ¬ y.toInt - x.toInt ≤ d := by
  rw [lg_cmp_ge, ← ec_hb x y d hd, Int64.not_lt]
theorem ec_hb2 (x y : Int32) (d : Nat) (hd : d ≤ 3) : (¬ 0 ≤ lg_cmp (Int32.toInt64 y - Int32.toInt64 x - 1) (nI d).toInt64) ↔ y.toInt - x.toInt ≤ d := by
  rw [ec_hb1 x y d hd, Classical.not_not]

set_option maxHeartbeats 4000000 in
set_option maxRecDepth 100000 in
/-- whether a booking is too near -/
theorem c_X1_isTooNear (l : Launch) (G : ecG) (a q q2 k k2 : Nat) (v0 v1 v5 : Value) (f la f2 l2 : Int32) (hk : k < 80) (hk2 : k2 < 80) : Met l yX1_isTooNear (ecWs yX1_isTooNear cX1_isTooNear 5 (Option.some FieldType.boolean)) (ecRm 2 0 0) (ecPc [.ref a, .ref q2, .int f2, .int l2] G (fun H => ecA G a (eO 1 [v0, v1, .ref q, .int f, .int la, v5]) H ∧ ecA G q (eO 4 (stL k)) H ∧ ecA G q2 (eO 4 (stL k2)) H)) (ecRp (fun v => v = some (.int (bI (decide (f.toInt - l2.toInt ≤ dif k k2) && decide (f2.toInt - la.toInt ≤ dif k k2)))))) 0 0 (fun _ => False) := by
  refine ec_met (by decide) (Nat.le_of_ble_eq_true rfl) ?_
  intro p e s m below meth c hC hr hlocks hname hOk hpre ls hl
  have hK := hOk.1
  obtain ⟨ha, hq, hq2⟩ := hpre
  have hS : va_S (fun _ => False) s.heap s.heap [] := va_S.rf
  have hAN : ∀ q, (fun _ : Nat => False) q → ecN0 G ≤ q := fun _ h => h.elim
  have hl : lv_has ls 5 [(0, .ref a), (1, .ref q2), (2, .int f2), (3, .int l2)] := hl
  refine lv_aload_n hC.1 hC.2.1 dX1_isTooNear_0 rfl (lv_at hl 0 rfl) ?_
  refine ec_get hC hK ha fX1_17 rfl dX1_isTooNear_1 ?_
  refine lv_aload_n hC.1 hC.2.1 dX1_isTooNear_4 rfl (lv_at hl 1 rfl) ?_
  refine ec_go1 (ec_rV hC (c_X4_partsUnlike l G q q2 k k2 hk hk2) kX1_31 (hOk.at hS hAN) ⟨hq, hq2⟩ (ec_rc hK hq ⟨_, _, rfl⟩) hl.1 ⟨Nat.le_of_ble_eq_true rfl, Nat.le_of_ble_eq_true rfl⟩ rfl (Nat.le_of_ble_eq_true rfl) dX1_isTooNear_5 ⟨Nat.le_of_ble_eq_true rfl, Nat.le_of_ble_eq_true rfl⟩) ?_
  refine lv_istore (lv' := [(4, .int (nI (dif k k2))), (0, .ref a), (1, .ref q2), (2, .int f2), (3, .int l2)]) hC.1 hC.2.1 dX1_isTooNear_8 hl (by decide) rfl (fun ls hl => ?_)
  refine lv_aload_n hC.1 hC.2.1 dX1_isTooNear_10 rfl (lv_at hl 1 rfl) ?_
  refine ec_get hC hK ha fX1_24 rfl dX1_isTooNear_11 ?_
  refine lv_iload_n hC.1 hC.2.1 dX1_isTooNear_14 rfl (lv_at hl 3 rfl) ?_
  refine ec_go1 (ec_rS hC (c_X1_hoursBetween l G la f2) kX1_37 (hOk.at hS hAN) trivial hl.1 ⟨Nat.le_of_ble_eq_true rfl, Nat.le_of_ble_eq_true rfl⟩ rfl (Nat.le_of_ble_eq_true rfl) dX1_isTooNear_15 ⟨Nat.le_of_ble_eq_true rfl, Nat.le_of_ble_eq_true rfl⟩) ?_
  refine lv_iload hC.1 hC.2.1 dX1_isTooNear_18 (lv_at hl 0 rfl) ?_
  refine lv_i2l hC.1 hC.2.1 dX1_isTooNear_20 rfl ?_
  refine W.lcmp hC.1 hC.2.1 dX1_isTooNear_21 ?_
  refine lv_if_ge (tgt := 44) hC.1 hC.2.1 dX1_isTooNear_22 (by decide) (fun c_22 => ?_) (fun c_22 => ?_)
  · refine lv_iconst (v := 0) hC.1 hC.2.1 dX1_isTooNear_44 (by decide) ?_
    exact W.zret hC.1 hC.2.1 hr rfl (fun t9 ht9 _ => ⟨_, rfl, (ec_int (by rw [decide_eq_false (fun z => (((ec_hb1 la f2 (dif k k2) (dif_le k k2))).mp c_22) z), Bool.and_false]; rfl)), ht9⟩) hS.2.2 dX1_isTooNear_45
  · refine lv_iload_n hC.1 hC.2.1 dX1_isTooNear_25 rfl (lv_at hl 4 rfl) ?_
    refine lv_aload_n hC.1 hC.2.1 dX1_isTooNear_26 rfl (lv_at hl 1 rfl) ?_
    refine ec_get hC hK ha fX1_21 rfl dX1_isTooNear_27 ?_
    refine ec_go1 (ec_rS hC (c_X1_hoursBetween l G l2 f) kX1_37 (hOk.at hS hAN) trivial hl.1 ⟨Nat.le_of_ble_eq_true rfl, Nat.le_of_ble_eq_true rfl⟩ rfl (Nat.le_of_ble_eq_true rfl) dX1_isTooNear_30 ⟨Nat.le_of_ble_eq_true rfl, Nat.le_of_ble_eq_true rfl⟩) ?_
    refine lv_iload hC.1 hC.2.1 dX1_isTooNear_33 (lv_at hl 0 rfl) ?_
    refine lv_i2l hC.1 hC.2.1 dX1_isTooNear_35 rfl ?_
    refine W.lcmp hC.1 hC.2.1 dX1_isTooNear_36 ?_
    refine lv_if_ge (tgt := 44) hC.1 hC.2.1 dX1_isTooNear_37 (by decide) (fun c_37 => ?_) (fun c_37 => ?_)
    · refine lv_iconst (v := 0) hC.1 hC.2.1 dX1_isTooNear_44 (by decide) ?_
      exact W.zret hC.1 hC.2.1 hr rfl (fun t9 ht9 _ => ⟨_, rfl, (ec_int (by rw [decide_eq_false (fun z => (((ec_hb1 l2 f (dif k k2) (dif_le k k2))).mp c_37) z), Bool.false_and]; rfl)), ht9⟩) hS.2.2 dX1_isTooNear_45
    · refine lv_iconst (v := 1) hC.1 hC.2.1 dX1_isTooNear_40 (by decide) ?_
      refine lv_goto (tgt := 45) hC.1 hC.2.1 dX1_isTooNear_41 (by decide) ?_
      exact W.zret hC.1 hC.2.1 hr rfl (fun t9 ht9 _ => ⟨_, rfl, (ec_int (by rw [decide_eq_true (((ec_hb2 la f2 (dif k k2) (dif_le k k2))).mp c_22), decide_eq_true (((ec_hb2 l2 f (dif k k2) (dif_le k k2))).mp c_37)]; rfl)), ht9⟩) hS.2.2 dX1_isTooNear_45
