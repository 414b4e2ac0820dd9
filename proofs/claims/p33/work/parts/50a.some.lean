theorem qAbs : Cond.code Lib.Math.abs.name Lib.Math.abs.code 1 (some .int) ∈ GW := gw_of 681 (by decide +kernel) rfl
theorem us_8 (x : Int32) : (x.toUInt32 >>> ((3 : Int32).toUInt32 &&& Int32.toUInt32 31)).toInt32 = nI (x.toBitVec.toNat / 8) := by
  refine Int32.toBitVec_inj.mp (BitVec.eq_of_toNat_eq ?_)
  rw [pk_ushr x 3 3 (by decide), pk_tn (by have := x.toBitVec.isLt; omega)]

set_option maxHeartbeats 4000000 in
set_option maxRecDepth 100000 in
/-- an element of the script, or a number of its own -/
theorem c_L_cell (l : Launch) (G : ecG) (b L : Nat) (xs : Nat → Int32) (k : Nat) (hk : k < 1000) (hL : L < 2 ^ 31) : Met l yL_cell (ecWs yL_cell cL_cell 2 (Option.some FieldType.int)) (ecRm 1 0 0) (ecPx [.ref b, .int (nI k)] G b L xs) (ecRp (fun v => ∃ w : Int32, v = some (.int w))) 0 0 (fun _ => False) := by
  refine ec_pmet (by decide) (Nat.le_of_ble_eq_true rfl) ?_
  intro p e s m below meth c hC hr hlocks hOk hX hbl ls hl
  have hK := hOk.1
  have hS : va_S (fun _ => False) s.heap s.heap [] := va_S.rf
  have hAN : ∀ q, (fun _ : Nat => False) q → ecN0 G ≤ q := fun _ h => h.elim
  have hl : lv_has ls 2 [(0, .ref b), (1, .int (nI k))] := hl
  refine lv_iload_n hC.1 hC.2.1 dL_cell_0 rfl (lv_at hl 1 rfl) ?_
  refine lv_aload_n hC.1 hC.2.1 dL_cell_1 rfl (lv_at hl 0 rfl) ?_
  refine va_slen hC.1 hC.2.1 hX hbl (fun z => z) hS dL_cell_2 ?_
  refine lv_icmp_ge (tgt := 12) hC.1 hC.2.1 dL_cell_3 (by decide) (fun c_3 => ?_) (fun c_3 => ?_)
  · refine lv_sipush (v := 7919) hC.1 hC.2.1 dL_cell_12 (by decide) ?_
    refine lv_iload_n hC.1 hC.2.1 dL_cell_15 rfl (lv_at hl 1 rfl) ?_
    refine lv_imul hC.1 hC.2.1 dL_cell_16 ?_
    refine lv_bipush (v := 12) hC.1 hC.2.1 dL_cell_17 (by decide) ?_
    refine lv_iadd hC.1 hC.2.1 dL_cell_19 ?_
    exact W.iret hC.1 hC.2.1 hr (fun t9 ht9 _ => ⟨_, rfl, ⟨_, rfl⟩, ht9⟩) hS.2.2 dL_cell_20
  · refine lv_aload_n hC.1 hC.2.1 dL_cell_6 rfl (lv_at hl 0 rfl) ?_
    refine lv_iload_n hC.1 hC.2.1 dL_cell_7 rfl (lv_at hl 1 rfl) ?_
    have c_3x : k < L := Nat.lt_of_not_le (fun z => c_3 (nI_le z (by omega)))
    refine va_sld hC.1 hC.2.1 hX hbl (fun z => z) hS (vp_in_nI (c_3x) (by omega)) dL_cell_8 ?_
    refine lv_goto (tgt := 20) hC.1 hC.2.1 dL_cell_9 (by decide) ?_
    exact W.iret hC.1 hC.2.1 hr (fun t9 ht9 _ => ⟨_, rfl, ⟨_, rfl⟩, ht9⟩) hS.2.2 dL_cell_20

set_option maxHeartbeats 4000000 in
set_option maxRecDepth 100000 in
/-- a number below n out of the script -/
theorem c_L_some (l : Launch) (G : ecG) (b L : Nat) (xs : Nat → Int32) (k n : Nat) (hk : k < 1000) (hL : L < 2 ^ 31) (h0 : 0 < n) (hn : n < 100000) : Met l yL_some (ecWs yL_some cL_some 3 (Option.some FieldType.int)) (ecRm 2 0 0) (ecPx [.ref b, .int (nI k), .int (nI n)] G b L xs) (ecRp (fun v => ∃ j : Nat, j < n ∧ v = some (.int (nI j)))) 0 0 (fun _ => False) := by
  refine ec_pmet (by decide) (Nat.le_of_ble_eq_true rfl) ?_
  intro p e s m below meth c hC hr hlocks hOk hX hbl ls hl
  have hK := hOk.1
  have hS : va_S (fun _ => False) s.heap s.heap [] := va_S.rf
  have hAN : ∀ q, (fun _ : Nat => False) q → ecN0 G ≤ q := fun _ h => h.elim
  have hl : lv_has ls 3 [(0, .ref b), (1, .int (nI k)), (2, .int (nI n))] := hl
  refine lv_aload_n hC.1 hC.2.1 dL_some_0 rfl (lv_at hl 0 rfl) ?_
  refine lv_iload_n hC.1 hC.2.1 dL_some_1 rfl (lv_at hl 1 rfl) ?_
  refine ec_goR (ec_rSx hC (c_L_cell l G b L xs k hk hL) kL_7 (hOk.at hS hAN) hX hbl hl.1 ⟨Nat.le_of_ble_eq_true rfl, Nat.le_of_ble_eq_true rfl⟩ rfl (Nat.le_of_ble_eq_true rfl) dL_some_2 ⟨Nat.le_of_ble_eq_true rfl, Nat.le_of_ble_eq_true rfl⟩) (fun v hv => ?_)
  obtain ⟨x9, rfl⟩ := hv
  refine W.eq (g2 := F0 m 5 ls [.int x9]) rfl ?_
  refine lv_iconst (v := 3) hC.1 hC.2.1 dL_some_5 (by decide) ?_
  refine lv_iushr hC.1 hC.2.1 dL_some_6 (us_8 x9) ?_
  refine lv_iload_n hC.1 hC.2.1 dL_some_7 rfl (lv_at hl 2 rfl) ?_
  refine lw_rem hC rfl rfl (by have := x9.toBitVec.isLt; omega) h0 (by omega) dL_some_8 ?_
  exact W.iret hC.1 hC.2.1 hr (fun t9 ht9 _ => ⟨_, rfl, ⟨_, Nat.mod_lt _ h0, rfl⟩, ht9⟩) hS.2.2 dL_some_9
