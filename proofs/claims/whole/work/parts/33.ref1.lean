section ECJN
variable {p : Program} {l : Launch} {e : Env} {R : Room} {s : State} {m : MethodId} {args : Array Value} {below : List Frame} {meth : Method} {c : Code} {H : Heap} {locs : List Loc} {cells slots : Nat} {Q : State → Prop} {pc : Nat} {ls : Array Slot} {st0 : List Value}
theorem ec_join {pcj : Nat} {stj : List Value} (k : W p l e R s m args below meth c H locs cells slots Q (F0 m pcj ls stj)) (b : W p l e R s m args below meth c H locs cells slots Q (F0 m pcj ls stj) → W p l e R s m args below meth c H locs cells slots Q (F0 m pc ls st0)) : W p l e R s m args below meth c H locs cells slots Q (F0 m pc ls st0) := b k
end ECJN
theorem ix_ma (d a k : Nat) : nI d * nI a + nI k = nI (d * a + k) := by rw [nI_mulN, nI_add]
theorem ix_m (d a : Nat) : nI d * nI a = nI (d * a) := nI_mulN d a
theorem cdN_I {c s : Int32} {o : Bool} (h : stB c s = true) : 20 * c + 2 * s + bI o = nI (cdN c s o) := by
  simp only [stB, Bool.and_eq_true] at h
  obtain ⟨i, h1, rfl⟩ := rgB_t (n := 3) (by decide) h.1
  obtain ⟨j, h2, rfl⟩ := rgB_t (n := 9) (by decide) h.2
  unfold cdN
  rw [nI_clamp (n := i) (by omega), nI_clamp (n := j) (by omega), show (20 : Int32) * nI i = nI (20 * i) from ix_m 20 i, show (2 : Int32) * nI j = nI (2 * j) from ix_m 2 j, nI_add, show bI o = nI (b1 o) by cases o <;> rfl, nI_add]

set_option maxHeartbeats 4000000 in
set_option maxRecDepth 100000 in
/-- whether it is in bounds -/
theorem c_X6_in (l : Launch) (G : ecG) (z0 lo hi : Int32) : Met l yX6_in (ecWs yX6_in cX6_in 3 (Option.some FieldType.boolean)) (ecRm 1 0 0) (ecPc [.int z0, .int lo, .int hi] G (fun H => True)) (ecRp (fun v => v = some (.int (bI (rgB z0 lo hi))))) 0 0 (fun _ => False) := by
  refine ec_met (by decide) (Nat.le_of_ble_eq_true rfl) ?_
  intro p e s m below meth c hC hr hlocks hname hOk hpre ls hl
  have hK := hOk.1
  have hS : va_S (fun _ => False) s.heap s.heap [] := va_S.rf
  have hAN : ∀ q, (fun _ : Nat => False) q → ecN0 G ≤ q := fun _ h => h.elim
  have hl : lv_has ls 3 [(0, .int z0), (1, .int lo), (2, .int hi)] := hl
  refine lv_iload_n hC.1 hC.2.1 dX6_in_0 rfl (lv_at hl 0 rfl) ?_
  refine lv_iload_n hC.1 hC.2.1 dX6_in_1 rfl (lv_at hl 1 rfl) ?_
  refine lv_icmp_lt (tgt := 14) hC.1 hC.2.1 dX6_in_2 (by decide) (fun c_2 => ?_) (fun c_2 => ?_)
  · refine lv_iconst (v := 0) hC.1 hC.2.1 dX6_in_14 (by decide) ?_
    exact W.zret hC.1 hC.2.1 hr rfl (fun t9 ht9 _ => ⟨_, rfl, (ec_int (by rw [show rgB z0 lo hi = false from rgB_lo c_2]; rfl)), ht9⟩) hS.2.2 dX6_in_15
  · refine lv_iload_n hC.1 hC.2.1 dX6_in_5 rfl (lv_at hl 0 rfl) ?_
    refine lv_iload_n hC.1 hC.2.1 dX6_in_6 rfl (lv_at hl 2 rfl) ?_
    refine lv_icmp_gt (tgt := 14) hC.1 hC.2.1 dX6_in_7 (by decide) (fun c_7 => ?_) (fun c_7 => ?_)
    · refine lv_iconst (v := 0) hC.1 hC.2.1 dX6_in_14 (by decide) ?_
      exact W.zret hC.1 hC.2.1 hr rfl (fun t9 ht9 _ => ⟨_, rfl, (ec_int (by rw [show rgB z0 lo hi = false from rgB_hi c_7]; rfl)), ht9⟩) hS.2.2 dX6_in_15
    · refine lv_iconst (v := 1) hC.1 hC.2.1 dX6_in_10 (by decide) ?_
      refine lv_goto (tgt := 15) hC.1 hC.2.1 dX6_in_11 (by decide) ?_
      exact W.zret hC.1 hC.2.1 hr rfl (fun t9 ht9 _ => ⟨_, rfl, (ec_int (by rw [show rgB z0 lo hi = true from rgB_ok c_2 c_7]; rfl)), ht9⟩) hS.2.2 dX6_in_15

set_option maxHeartbeats 4000000 in
set_option maxRecDepth 100000 in
/-- whether these are a state -/
theorem c_X6_isState (l : Launch) (G : ecG) (c0 s0 : Int32) : Met l yX6_isState (ecWs yX6_isState cX6_isState 2 (Option.some FieldType.boolean)) (ecRm 2 0 0) (ecPc [.int c0, .int s0] G (fun H => True)) (ecRp (fun v => v = some (.int (bI (stB c0 s0))))) 0 0 (fun _ => False) := by
  refine ec_met (by decide) (Nat.le_of_ble_eq_true rfl) ?_
  intro p e s m below meth c hC hr hlocks hname hOk hpre ls hl
  have hK := hOk.1
  have hS : va_S (fun _ => False) s.heap s.heap [] := va_S.rf
  have hAN : ∀ q, (fun _ : Nat => False) q → ecN0 G ≤ q := fun _ h => h.elim
  have hl : lv_has ls 2 [(0, .int c0), (1, .int s0)] := hl
  refine lv_iload_n hC.1 hC.2.1 dX6_isState_0 rfl (lv_at hl 0 rfl) ?_
  refine lv_iconst (v := 0) hC.1 hC.2.1 dX6_isState_1 (by decide) ?_
  refine lv_iconst (v := 3) hC.1 hC.2.1 dX6_isState_2 (by decide) ?_
  refine ec_go1 (ec_rS hC (c_X6_in l G c0 0 3) kX6_73 (hOk.at hS hAN) trivial hl.1 ⟨Nat.le_of_ble_eq_true rfl, Nat.le_of_ble_eq_true rfl⟩ rfl (Nat.le_of_ble_eq_true rfl) dX6_isState_3 ⟨Nat.le_of_ble_eq_true rfl, Nat.le_of_ble_eq_true rfl⟩) ?_
  refine lv_if_eq (tgt := 23) hC.1 hC.2.1 dX6_isState_6 (by decide) (fun c_6 => ?_) (fun c_6 => ?_)
  · refine lv_iconst (v := 0) hC.1 hC.2.1 dX6_isState_23 (by decide) ?_
    exact W.zret hC.1 hC.2.1 hr rfl (fun t9 ht9 _ => ⟨_, rfl, (ec_int (by unfold stB; rw [(bI_0 _).mp c_6, Bool.false_and]; rfl)), ht9⟩) hS.2.2 dX6_isState_24
  · refine lv_iload_n hC.1 hC.2.1 dX6_isState_9 rfl (lv_at hl 1 rfl) ?_
    refine lv_iconst (v := 0) hC.1 hC.2.1 dX6_isState_10 (by decide) ?_
    refine lv_bipush (v := 9) hC.1 hC.2.1 dX6_isState_11 (by decide) ?_
    refine ec_go1 (ec_rS hC (c_X6_in l G s0 0 9) kX6_73 (hOk.at hS hAN) trivial hl.1 ⟨Nat.le_of_ble_eq_true rfl, Nat.le_of_ble_eq_true rfl⟩ rfl (Nat.le_of_ble_eq_true rfl) dX6_isState_13 ⟨Nat.le_of_ble_eq_true rfl, Nat.le_of_ble_eq_true rfl⟩) ?_
    refine lv_if_eq (tgt := 23) hC.1 hC.2.1 dX6_isState_16 (by decide) (fun c_16 => ?_) (fun c_16 => ?_)
    · refine lv_iconst (v := 0) hC.1 hC.2.1 dX6_isState_23 (by decide) ?_
      exact W.zret hC.1 hC.2.1 hr rfl (fun t9 ht9 _ => ⟨_, rfl, (ec_int (by unfold stB; rw [(bI_0 _).mp c_16, Bool.and_false]; rfl)), ht9⟩) hS.2.2 dX6_isState_24
    · refine lv_iconst (v := 1) hC.1 hC.2.1 dX6_isState_19 (by decide) ?_
      refine lv_goto (tgt := 24) hC.1 hC.2.1 dX6_isState_20 (by decide) ?_
      exact W.zret hC.1 hC.2.1 hr rfl (fun t9 ht9 _ => ⟨_, rfl, (ec_int (by unfold stB; rw [(bI_n0 _).mp c_6, (bI_n0 _).mp c_16]; rfl)), ht9⟩) hS.2.2 dX6_isState_24

set_option maxHeartbeats 4000000 in
set_option maxRecDepth 100000 in
/-- the code of a state -/
theorem c_X6_state (l : Launch) (G : ecG) (c0 s0 : Int32) (o : Bool) (hst : stB c0 s0 = true) : Met l yX6_state (ecWs yX6_state cX6_state 3 (Option.some FieldType.int)) (ecRm 1 0 0) (ecPc [.int c0, .int s0, .int (bI o)] G (fun H => True)) (ecRp (fun v => v = some (.int (nI (cdN c0 s0 o))))) 0 0 (fun _ => False) := by
  refine ec_met (by decide) (Nat.le_of_ble_eq_true rfl) ?_
  intro p e s m below meth c hC hr hlocks hname hOk hpre ls hl
  have hK := hOk.1
  have hS : va_S (fun _ => False) s.heap s.heap [] := va_S.rf
  have hAN : ∀ q, (fun _ : Nat => False) q → ecN0 G ≤ q := fun _ h => h.elim
  have hl : lv_has ls 3 [(0, .int c0), (1, .int s0), (2, .int (bI o))] := hl
  refine lv_bipush (v := 20) hC.1 hC.2.1 dX6_state_0 (by decide) ?_
  refine lv_iload_n hC.1 hC.2.1 dX6_state_2 rfl (lv_at hl 0 rfl) ?_
  refine lv_imul hC.1 hC.2.1 dX6_state_3 ?_
  refine lv_iconst (v := 2) hC.1 hC.2.1 dX6_state_4 (by decide) ?_
  refine lv_iload_n hC.1 hC.2.1 dX6_state_5 rfl (lv_at hl 1 rfl) ?_
  refine lv_imul hC.1 hC.2.1 dX6_state_6 ?_
  refine lv_iadd hC.1 hC.2.1 dX6_state_7 ?_
  refine lv_iload_n hC.1 hC.2.1 dX6_state_8 rfl (lv_at hl 2 rfl) ?_
  refine lv_if_eq (tgt := 16) hC.1 hC.2.1 dX6_state_9 (by decide) (fun c_9 => ?_) (fun c_9 => ?_)
  · refine lv_iconst (v := 0) hC.1 hC.2.1 dX6_state_16 (by decide) ?_
    refine lv_iadd hC.1 hC.2.1 dX6_state_17 ?_
    exact W.iret hC.1 hC.2.1 hr (fun t9 ht9 _ => ⟨_, rfl, (ec_int (by rw [← cdN_I hst, (bI_0 _).mp c_9]; rfl)), ht9⟩) hS.2.2 dX6_state_18
  · refine lv_iconst (v := 1) hC.1 hC.2.1 dX6_state_12 (by decide) ?_
    refine lv_goto (tgt := 17) hC.1 hC.2.1 dX6_state_13 (by decide) ?_
    refine lv_iadd hC.1 hC.2.1 dX6_state_17 ?_
    exact W.iret hC.1 hC.2.1 hr (fun t9 ht9 _ => ⟨_, rfl, (ec_int (by rw [← cdN_I hst, (bI_n0 _).mp c_9]; rfl)), ht9⟩) hS.2.2 dX6_state_18

theorem df_1 {a b : Nat} (ha : a < 80) (hb : b < 80) : nI a / 20 = nI b / 20 ↔ a / 20 = b / 20 := by
  rw [show nI a / 20 = nI (a / 20) from pk_div (d := 20) (by omega) (by decide) (by decide), show nI b / 20 = nI (b / 20) from pk_div (d := 20) (by omega) (by decide) (by decide)]
  exact nI_eq (by omega) (by omega)
theorem df_m {a : Nat} (ha : a < 80) : (nI a - nI a / 20 * 20) / 2 = nI (a % 20 / 2) := by
  rw [show nI a - nI a / 20 * 20 = nI (a % 20) from nI_rem (d := 20) (by omega) (by decide) (by decide)]
  exact pk_div (d := 2) (by omega) (by decide) (by decide)
theorem df_r {a : Nat} (ha : a < 80) : nI a - nI a / 2 * 2 = nI (a % 2) := nI_rem (d := 2) (by omega) (by decide) (by decide)
theorem df_2 {a b : Nat} (ha : a < 80) (hb : b < 80) : (nI a - nI a / 20 * 20) / 2 = (nI b - nI b / 20 * 20) / 2 ↔ a % 20 / 2 = b % 20 / 2 := by
  rw [df_m ha, df_m hb]
  exact nI_eq (by omega) (by omega)
theorem df_3 {a b : Nat} (ha : a < 80) (hb : b < 80) : nI a - nI a / 2 * 2 = nI b - nI b / 2 * 2 ↔ a % 2 = b % 2 := by
  rw [df_r ha, df_r hb]
  exact nI_eq (by omega) (by omega)

set_option maxHeartbeats 4000000 in
set_option maxRecDepth 100000 in
/-- in how many parts two states differ -/
theorem c_X6_differ (l : Launch) (G : ecG) (a b : Nat) (ha : a < 80) (hb : b < 80) : Met l yX6_differ (ecWs yX6_differ cX6_differ 3 (Option.some FieldType.int)) (ecRm 1 0 0) (ecPc [.int (nI a), .int (nI b)] G (fun H => True)) (ecRp (fun v => v = some (.int (nI (dif a b))))) 0 0 (fun _ => False) := by
  refine ec_met (by decide) (Nat.le_of_ble_eq_true rfl) ?_
  intro p e s m below meth c hC hr hlocks hname hOk hpre ls hl
  have hK := hOk.1
  have hS : va_S (fun _ => False) s.heap s.heap [] := va_S.rf
  have hAN : ∀ q, (fun _ : Nat => False) q → ecN0 G ≤ q := fun _ h => h.elim
  have hl : lv_has ls 3 [(0, .int (nI a)), (1, .int (nI b))] := hl
  refine lv_iload_n hC.1 hC.2.1 dX6_differ_0 rfl (lv_at hl 0 rfl) ?_
  refine lv_bipush (v := 20) hC.1 hC.2.1 dX6_differ_1 (by decide) ?_
  refine lv_idiv hC.1 hC.2.1 dX6_differ_3 (by decide) ?_
  refine lv_iload_n hC.1 hC.2.1 dX6_differ_4 rfl (lv_at hl 1 rfl) ?_
  refine lv_bipush (v := 20) hC.1 hC.2.1 dX6_differ_5 (by decide) ?_
  refine lv_idiv hC.1 hC.2.1 dX6_differ_7 (by decide) ?_
  refine lv_icmp_ne (tgt := 15) hC.1 hC.2.1 dX6_differ_8 (by decide) (fun c_8 => ?_) (fun c_8 => ?_)
  · refine lv_iconst (v := 1) hC.1 hC.2.1 dX6_differ_15 (by decide) ?_
    refine lv_istore_n (lv' := [(2, .int 1), (0, .int (nI a)), (1, .int (nI b))]) hC.1 hC.2.1 dX6_differ_16 rfl hl (by decide) rfl (fun ls hl => ?_)
    refine lv_iload_n hC.1 hC.2.1 dX6_differ_17 rfl (lv_at hl 0 rfl) ?_
    refine lv_iload_n hC.1 hC.2.1 dX6_differ_18 rfl (lv_at hl 1 rfl) ?_
    refine lv_bipush (v := 20) hC.1 hC.2.1 dX6_differ_19 (by decide) ?_
    refine lv_irem hC.1 hC.2.1 dX6_differ_21 (by decide) ?_
    refine lv_iconst (v := 2) hC.1 hC.2.1 dX6_differ_22 (by decide) ?_
    refine lv_idiv hC.1 hC.2.1 dX6_differ_23 (by decide) ?_
    refine lv_iload_n hC.1 hC.2.1 dX6_differ_24 rfl (lv_at hl 2 rfl) ?_
    refine lv_bipush (v := 20) hC.1 hC.2.1 dX6_differ_25 (by decide) ?_
    refine lv_irem hC.1 hC.2.1 dX6_differ_27 (by decide) ?_
    refine lv_iconst (v := 2) hC.1 hC.2.1 dX6_differ_28 (by decide) ?_
    refine lv_idiv hC.1 hC.2.1 dX6_differ_29 (by decide) ?_
    refine lv_icmp_ne (tgt := 37) hC.1 hC.2.1 dX6_differ_30 (by decide) (fun c_30 => ?_) (fun c_30 => ?_)
    · refine lv_iconst (v := 1) hC.1 hC.2.1 dX6_differ_37 (by decide) ?_
      refine lv_iadd hC.1 hC.2.1 dX6_differ_38 ?_
      refine ec_topi (y := 2) (by decide) ?_
      refine lv_istore_n (lv' := [(2, .int 2), (0, .int (nI a)), (1, .int (nI b))]) hC.1 hC.2.1 dX6_differ_39 rfl hl (by decide) rfl (fun ls hl => ?_)
      refine lv_iload_n hC.1 hC.2.1 dX6_differ_40 rfl (lv_at hl 0 rfl) ?_
      refine lv_iload_n hC.1 hC.2.1 dX6_differ_41 rfl (lv_at hl 1 rfl) ?_
      refine lv_iconst (v := 2) hC.1 hC.2.1 dX6_differ_42 (by decide) ?_
      refine lv_irem hC.1 hC.2.1 dX6_differ_43 (by decide) ?_
      refine lv_iload_n hC.1 hC.2.1 dX6_differ_44 rfl (lv_at hl 2 rfl) ?_
      refine lv_iconst (v := 2) hC.1 hC.2.1 dX6_differ_45 (by decide) ?_
      refine lv_irem hC.1 hC.2.1 dX6_differ_46 (by decide) ?_
      refine lv_icmp_ne (tgt := 54) hC.1 hC.2.1 dX6_differ_47 (by decide) (fun c_47 => ?_) (fun c_47 => ?_)
      · refine lv_iconst (v := 1) hC.1 hC.2.1 dX6_differ_54 (by decide) ?_
        refine lv_iadd hC.1 hC.2.1 dX6_differ_55 ?_
        refine ec_topi (y := 3) (by decide) ?_
        exact W.iret hC.1 hC.2.1 hr (fun t9 ht9 _ => ⟨_, rfl, (ec_int (by unfold dif; rw [if_neg (fun z => c_8 ((df_1 ha hb).mpr z)), if_neg (fun z => c_30 ((df_2 ha hb).mpr z)), if_neg (fun z => c_47 ((df_3 ha hb).mpr z))]; rfl)), ht9⟩) hS.2.2 dX6_differ_56
      · refine lv_iconst (v := 0) hC.1 hC.2.1 dX6_differ_50 (by decide) ?_
        refine lv_goto (tgt := 55) hC.1 hC.2.1 dX6_differ_51 (by decide) ?_
        refine lv_iadd hC.1 hC.2.1 dX6_differ_55 ?_
        refine ec_topi (y := 2) (by decide) ?_
        exact W.iret hC.1 hC.2.1 hr (fun t9 ht9 _ => ⟨_, rfl, (ec_int (by unfold dif; rw [if_neg (fun z => c_8 ((df_1 ha hb).mpr z)), if_neg (fun z => c_30 ((df_2 ha hb).mpr z)), if_pos ((df_3 ha hb).mp c_47)]; rfl)), ht9⟩) hS.2.2 dX6_differ_56
    · refine lv_iconst (v := 0) hC.1 hC.2.1 dX6_differ_33 (by decide) ?_
      refine lv_goto (tgt := 38) hC.1 hC.2.1 dX6_differ_34 (by decide) ?_
      refine lv_iadd hC.1 hC.2.1 dX6_differ_38 ?_
      refine ec_topi (y := 1) (by decide) ?_
      refine lv_istore_n (lv' := [(2, .int 1), (0, .int (nI a)), (1, .int (nI b))]) hC.1 hC.2.1 dX6_differ_39 rfl hl (by decide) rfl (fun ls hl => ?_)
      refine lv_iload_n hC.1 hC.2.1 dX6_differ_40 rfl (lv_at hl 0 rfl) ?_
      refine lv_iload_n hC.1 hC.2.1 dX6_differ_41 rfl (lv_at hl 1 rfl) ?_
      refine lv_iconst (v := 2) hC.1 hC.2.1 dX6_differ_42 (by decide) ?_
      refine lv_irem hC.1 hC.2.1 dX6_differ_43 (by decide) ?_
      refine lv_iload_n hC.1 hC.2.1 dX6_differ_44 rfl (lv_at hl 2 rfl) ?_
      refine lv_iconst (v := 2) hC.1 hC.2.1 dX6_differ_45 (by decide) ?_
      refine lv_irem hC.1 hC.2.1 dX6_differ_46 (by decide) ?_
      refine lv_icmp_ne (tgt := 54) hC.1 hC.2.1 dX6_differ_47 (by decide) (fun c_47 => ?_) (fun c_47 => ?_)
      · refine lv_iconst (v := 1) hC.1 hC.2.1 dX6_differ_54 (by decide) ?_
        refine lv_iadd hC.1 hC.2.1 dX6_differ_55 ?_
        refine ec_topi (y := 2) (by decide) ?_
        exact W.iret hC.1 hC.2.1 hr (fun t9 ht9 _ => ⟨_, rfl, (ec_int (by unfold dif; rw [if_neg (fun z => c_8 ((df_1 ha hb).mpr z)), if_pos ((df_2 ha hb).mp c_30), if_neg (fun z => c_47 ((df_3 ha hb).mpr z))]; rfl)), ht9⟩) hS.2.2 dX6_differ_56
      · refine lv_iconst (v := 0) hC.1 hC.2.1 dX6_differ_50 (by decide) ?_
        refine lv_goto (tgt := 55) hC.1 hC.2.1 dX6_differ_51 (by decide) ?_
        refine lv_iadd hC.1 hC.2.1 dX6_differ_55 ?_
        refine ec_topi (y := 1) (by decide) ?_
        exact W.iret hC.1 hC.2.1 hr (fun t9 ht9 _ => ⟨_, rfl, (ec_int (by unfold dif; rw [if_neg (fun z => c_8 ((df_1 ha hb).mpr z)), if_pos ((df_2 ha hb).mp c_30), if_pos ((df_3 ha hb).mp c_47)]; rfl)), ht9⟩) hS.2.2 dX6_differ_56
  · refine lv_iconst (v := 0) hC.1 hC.2.1 dX6_differ_11 (by decide) ?_
    refine lv_goto (tgt := 16) hC.1 hC.2.1 dX6_differ_12 (by decide) ?_
    refine lv_istore_n (lv' := [(2, .int 0), (0, .int (nI a)), (1, .int (nI b))]) hC.1 hC.2.1 dX6_differ_16 rfl hl (by decide) rfl (fun ls hl => ?_)
    refine lv_iload_n hC.1 hC.2.1 dX6_differ_17 rfl (lv_at hl 0 rfl) ?_
    refine lv_iload_n hC.1 hC.2.1 dX6_differ_18 rfl (lv_at hl 1 rfl) ?_
    refine lv_bipush (v := 20) hC.1 hC.2.1 dX6_differ_19 (by decide) ?_
    refine lv_irem hC.1 hC.2.1 dX6_differ_21 (by decide) ?_
    refine lv_iconst (v := 2) hC.1 hC.2.1 dX6_differ_22 (by decide) ?_
    refine lv_idiv hC.1 hC.2.1 dX6_differ_23 (by decide) ?_
    refine lv_iload_n hC.1 hC.2.1 dX6_differ_24 rfl (lv_at hl 2 rfl) ?_
    refine lv_bipush (v := 20) hC.1 hC.2.1 dX6_differ_25 (by decide) ?_
    refine lv_irem hC.1 hC.2.1 dX6_differ_27 (by decide) ?_
    refine lv_iconst (v := 2) hC.1 hC.2.1 dX6_differ_28 (by decide) ?_
    refine lv_idiv hC.1 hC.2.1 dX6_differ_29 (by decide) ?_
    refine lv_icmp_ne (tgt := 37) hC.1 hC.2.1 dX6_differ_30 (by decide) (fun c_30 => ?_) (fun c_30 => ?_)
    · refine lv_iconst (v := 1) hC.1 hC.2.1 dX6_differ_37 (by decide) ?_
      refine lv_iadd hC.1 hC.2.1 dX6_differ_38 ?_
      refine ec_topi (y := 1) (by decide) ?_
      refine lv_istore_n (lv' := [(2, .int 1), (0, .int (nI a)), (1, .int (nI b))]) hC.1 hC.2.1 dX6_differ_39 rfl hl (by decide) rfl (fun ls hl => ?_)
      refine lv_iload_n hC.1 hC.2.1 dX6_differ_40 rfl (lv_at hl 0 rfl) ?_
      refine lv_iload_n hC.1 hC.2.1 dX6_differ_41 rfl (lv_at hl 1 rfl) ?_
      refine lv_iconst (v := 2) hC.1 hC.2.1 dX6_differ_42 (by decide) ?_
      refine lv_irem hC.1 hC.2.1 dX6_differ_43 (by decide) ?_
      refine lv_iload_n hC.1 hC.2.1 dX6_differ_44 rfl (lv_at hl 2 rfl) ?_
      refine lv_iconst (v := 2) hC.1 hC.2.1 dX6_differ_45 (by decide) ?_
      refine lv_irem hC.1 hC.2.1 dX6_differ_46 (by decide) ?_
      refine lv_icmp_ne (tgt := 54) hC.1 hC.2.1 dX6_differ_47 (by decide) (fun c_47 => ?_) (fun c_47 => ?_)
      · refine lv_iconst (v := 1) hC.1 hC.2.1 dX6_differ_54 (by decide) ?_
        refine lv_iadd hC.1 hC.2.1 dX6_differ_55 ?_
        refine ec_topi (y := 2) (by decide) ?_
        exact W.iret hC.1 hC.2.1 hr (fun t9 ht9 _ => ⟨_, rfl, (ec_int (by unfold dif; rw [if_pos ((df_1 ha hb).mp c_8), if_neg (fun z => c_30 ((df_2 ha hb).mpr z)), if_neg (fun z => c_47 ((df_3 ha hb).mpr z))]; rfl)), ht9⟩) hS.2.2 dX6_differ_56
      · refine lv_iconst (v := 0) hC.1 hC.2.1 dX6_differ_50 (by decide) ?_
        refine lv_goto (tgt := 55) hC.1 hC.2.1 dX6_differ_51 (by decide) ?_
        refine lv_iadd hC.1 hC.2.1 dX6_differ_55 ?_
        refine ec_topi (y := 1) (by decide) ?_
        exact W.iret hC.1 hC.2.1 hr (fun t9 ht9 _ => ⟨_, rfl, (ec_int (by unfold dif; rw [if_pos ((df_1 ha hb).mp c_8), if_neg (fun z => c_30 ((df_2 ha hb).mpr z)), if_pos ((df_3 ha hb).mp c_47)]; rfl)), ht9⟩) hS.2.2 dX6_differ_56
    · refine lv_iconst (v := 0) hC.1 hC.2.1 dX6_differ_33 (by decide) ?_
      refine lv_goto (tgt := 38) hC.1 hC.2.1 dX6_differ_34 (by decide) ?_
      refine lv_iadd hC.1 hC.2.1 dX6_differ_38 ?_
      refine ec_topi (y := 0) (by decide) ?_
      refine lv_istore_n (lv' := [(2, .int 0), (0, .int (nI a)), (1, .int (nI b))]) hC.1 hC.2.1 dX6_differ_39 rfl hl (by decide) rfl (fun ls hl => ?_)
      refine lv_iload_n hC.1 hC.2.1 dX6_differ_40 rfl (lv_at hl 0 rfl) ?_
      refine lv_iload_n hC.1 hC.2.1 dX6_differ_41 rfl (lv_at hl 1 rfl) ?_
      refine lv_iconst (v := 2) hC.1 hC.2.1 dX6_differ_42 (by decide) ?_
      refine lv_irem hC.1 hC.2.1 dX6_differ_43 (by decide) ?_
      refine lv_iload_n hC.1 hC.2.1 dX6_differ_44 rfl (lv_at hl 2 rfl) ?_
      refine lv_iconst (v := 2) hC.1 hC.2.1 dX6_differ_45 (by decide) ?_
      refine lv_irem hC.1 hC.2.1 dX6_differ_46 (by decide) ?_
      refine lv_icmp_ne (tgt := 54) hC.1 hC.2.1 dX6_differ_47 (by decide) (fun c_47 => ?_) (fun c_47 => ?_)
      · refine lv_iconst (v := 1) hC.1 hC.2.1 dX6_differ_54 (by decide) ?_
        refine lv_iadd hC.1 hC.2.1 dX6_differ_55 ?_
        refine ec_topi (y := 1) (by decide) ?_
        exact W.iret hC.1 hC.2.1 hr (fun t9 ht9 _ => ⟨_, rfl, (ec_int (by unfold dif; rw [if_pos ((df_1 ha hb).mp c_8), if_pos ((df_2 ha hb).mp c_30), if_neg (fun z => c_47 ((df_3 ha hb).mpr z))]; rfl)), ht9⟩) hS.2.2 dX6_differ_56
      · refine lv_iconst (v := 0) hC.1 hC.2.1 dX6_differ_50 (by decide) ?_
        refine lv_goto (tgt := 55) hC.1 hC.2.1 dX6_differ_51 (by decide) ?_
        refine lv_iadd hC.1 hC.2.1 dX6_differ_55 ?_
        refine ec_topi (y := 0) (by decide) ?_
        exact W.iret hC.1 hC.2.1 hr (fun t9 ht9 _ => ⟨_, rfl, (ec_int (by unfold dif; rw [if_pos ((df_1 ha hb).mp c_8), if_pos ((df_2 ha hb).mp c_30), if_pos ((df_3 ha hb).mp c_47)]; rfl)), ht9⟩) hS.2.2 dX6_differ_56

set_option maxHeartbeats 4000000 in
set_option maxRecDepth 100000 in
/-- what is thrown is set down -/
theorem c_X6_fails (l : Launch) (G : ecG) (Y : Nat → Prop) (M : ecM) (th : Int32) (y : Nat) (ya : Nat → Nat) (t : Nat) (ht : t < 2 ^ 31) (hY : ∀ q, Y q → ecN0 G ≤ q) : Met l yX6_fails (ecWs yX6_fails cX6_fails 2 (Option.some FieldType.boolean)) (ecRm 1 0 0) (ecPc [.ref y, .int (nI t)] G (fun H => rfX G Y M th y ya H)) (ecEp (fun v H1 => v = some (.int (bI (decide (0 < t)))) ∧ rfX G Y M (nI t) y ya H1) (Y)) 0 0 (Y) := by
  refine ec_met (by decide) (Nat.le_of_ble_eq_true rfl) ?_
  intro p e s m below meth c hC hr hlocks hname hOk hpre ls hl
  have hK := hOk.1
  have hx := hpre
  have hS : va_S (Y) s.heap s.heap [] := va_S.rf
  have hAN : ∀ q, (Y) q → ecN0 G ≤ q := hY
  have hl : lv_has ls 2 [(0, .ref y), (1, .int (nI t))] := hl
  refine lv_aload_n hC.1 hC.2.1 dX6_fails_0 rfl (lv_at hl 0 rfl) ?_
  refine lv_iload_n hC.1 hC.2.1 dX6_fails_1 rfl (lv_at hl 1 rfl) ?_
  refine ec_put hC hK hS hx.1 hx.2.2.2.2.1 fX6_67 rfl rfl rfl (Nat.le_of_ble_eq_true rfl) dX6_fails_2 (fun H locs h9 o9 z9 hS => ?_)
  have hx := hx.put0 (th2 := ((nI t))) h9 o9
  refine lv_iload_n hC.1 hC.2.1 dX6_fails_5 rfl (lv_at hl 1 rfl) ?_
  refine lv_if_le (tgt := 13) hC.1 hC.2.1 dX6_fails_6 (by decide) (fun c_6 => ?_) (fun c_6 => ?_)
  · refine lv_iconst (v := 0) hC.1 hC.2.1 dX6_fails_13 (by decide) ?_
    exact W.zret hC.1 hC.2.1 hr rfl (fun t9 ht9 _ => ⟨_, rfl, by rw [ht9]; exact ⟨(by rw [decide_eq_false (p := 0 < t) (fun z => absurd c_6 (Int32.not_le.mpr (nI_lt (a := 0) z ht)))]; rfl), hx⟩, hS.F ht9⟩) hS.2.2 dX6_fails_14
  · refine lv_iconst (v := 1) hC.1 hC.2.1 dX6_fails_9 (by decide) ?_
    refine lv_goto (tgt := 14) hC.1 hC.2.1 dX6_fails_10 (by decide) ?_
    exact W.zret hC.1 hC.2.1 hr rfl (fun t9 ht9 _ => ⟨_, rfl, by rw [ht9]; exact ⟨(by rw [decide_eq_true (p := 0 < t) (Nat.pos_of_ne_zero (fun z => c_6 (by rw [z]; decide)))]; rfl), hx⟩, hS.F ht9⟩) hS.2.2 dX6_fails_14

set_option maxHeartbeats 4000000 in
set_option maxRecDepth 100000 in
/-- what was thrown -/
theorem c_X6_thrown (l : Launch) (G : ecG) (Y : Nat → Prop) (M : ecM) (th : Int32) (y : Nat) (ya : Nat → Nat) : Met l yX6_thrown (ecWs yX6_thrown cX6_thrown 1 (Option.some FieldType.int)) (ecRm 1 0 0) (ecPc [.ref y] G (fun H => rfX G Y M th y ya H)) (ecRp (fun v => v = some (.int th))) 0 0 (fun _ => False) := by
  refine ec_met (by decide) (Nat.le_of_ble_eq_true rfl) ?_
  intro p e s m below meth c hC hr hlocks hname hOk hpre ls hl
  have hK := hOk.1
  have hx := hpre
  have hS : va_S (fun _ => False) s.heap s.heap [] := va_S.rf
  have hAN : ∀ q, (fun _ : Nat => False) q → ecN0 G ≤ q := fun _ h => h.elim
  have hl : lv_has ls 1 [(0, .ref y)] := hl
  refine lv_aload_n hC.1 hC.2.1 dX6_thrown_0 rfl (lv_at hl 0 rfl) ?_
  refine ec_get hC hK hx.1 fX6_67 rfl dX6_thrown_1 ?_
  exact W.iret hC.1 hC.2.1 hr (fun t9 ht9 _ => ⟨_, rfl, rfl, ht9⟩) hS.2.2 dX6_thrown_4

set_option maxHeartbeats 4000000 in
set_option maxRecDepth 100000 in
/-- whether there is such a room -/
theorem c_X6_isRoom (l : Launch) (G : ecG) (Y : Nat → Prop) (M : ecM) (th : Int32) (y : Nat) (ya : Nat → Nat) (hwf : WF M) (r : Int32) : Met l yX6_isRoom (ecWs yX6_isRoom cX6_isRoom 2 (Option.some FieldType.boolean)) (ecRm 2 0 0) (ecPc [.ref y, .int r] G (fun H => rfX G Y M th y ya H)) (ecRp (fun v => v = some (.int (bI (ixB r (mnR M)))))) 0 0 (fun _ => False) := by
  refine ec_met (by decide) (Nat.le_of_ble_eq_true rfl) ?_
  intro p e s m below meth c hC hr hlocks hname hOk hpre ls hl
  have hK := hOk.1
  have hx := hpre
  have hS : va_S (fun _ => False) s.heap s.heap [] := va_S.rf
  have hAN : ∀ q, (fun _ : Nat => False) q → ecN0 G ≤ q := fun _ h => h.elim
  have hl : lv_has ls 2 [(0, .ref y), (1, .int r)] := hl
  have hn0 := hwf.n
  refine lv_iload_n hC.1 hC.2.1 dX6_isRoom_0 rfl (lv_at hl 1 rfl) ?_
  refine lv_iconst (v := 0) hC.1 hC.2.1 dX6_isRoom_1 (by decide) ?_
  refine lv_aload_n hC.1 hC.2.1 dX6_isRoom_2 rfl (lv_at hl 0 rfl) ?_
  refine ec_get hC hK hx.1 fX6_70 rfl dX6_isRoom_3 ?_
  refine lv_iconst (v := 1) hC.1 hC.2.1 dX6_isRoom_6 (by decide) ?_
  refine lv_isub hC.1 hC.2.1 dX6_isRoom_7 ?_
  refine ec_go1 (ec_rS hC (c_X6_in l G r 0 (nI (mnR M) - 1)) kX6_73 (hOk.at hS hAN) trivial hl.1 ⟨Nat.le_of_ble_eq_true rfl, Nat.le_of_ble_eq_true rfl⟩ rfl (Nat.le_of_ble_eq_true rfl) dX6_isRoom_8 ⟨Nat.le_of_ble_eq_true rfl, Nat.le_of_ble_eq_true rfl⟩) ?_
  refine ec_topi (y := bI (ixB r (mnR M))) (by rw [rg_ix (by omega)]) ?_
  exact W.zret hC.1 hC.2.1 hr (bI_nar _) (fun t9 ht9 _ => ⟨_, rfl, rfl, ht9⟩) hS.2.2 dX6_isRoom_11

theorem thR_lt (M : ecM) (r : Int32) : thR M r < 2 ^ 31 := ite_lt (by decide) (by decide)
theorem thA_lt (M : ecM) (r : Int32) : thA M r < 2 ^ 31 := ite_lt (by decide) (by decide)
theorem thF_lt (M : ecM) (r : Int32) : thF M r < 2 ^ 31 := ite_lt (by decide) (by decide)

set_option maxHeartbeats 4000000 in
set_option maxRecDepth 100000 in
/-- failsRoom -/
theorem c_X6_failsRoom (l : Launch) (G : ecG) (Y : Nat → Prop) (M : ecM) (th : Int32) (y : Nat) (ya : Nat → Nat) (hY : ∀ q, Y q → ecN0 G ≤ q) (hwf : WF M) (r : Int32) : Met l yX6_failsRoom (ecWs yX6_failsRoom cX6_failsRoom 2 (Option.some FieldType.boolean)) (ecRm 3 0 0) (ecPc [.ref y, .int r] G (fun H => rfX G Y M th y ya H)) (ecEp (fun v H1 => v = some (.int (bI (decide (0 < thR M r)))) ∧ rfX G Y M (nI (thR M r)) y ya H1) (Y)) 0 0 (Y) := by
  refine ec_met (by decide) (Nat.le_of_ble_eq_true rfl) ?_
  intro p e s m below meth c hC hr hlocks hname hOk hpre ls hl
  have hK := hOk.1
  have hx := hpre
  have hS : va_S (Y) s.heap s.heap [] := va_S.rf
  have hAN : ∀ q, (Y) q → ecN0 G ≤ q := hY
  have hl : lv_has ls 2 [(0, .ref y), (1, .int r)] := hl
  have hn0 := hwf.n
  refine ec_join (pcj := 14) (stj := [.int (nI (thR M r)), .ref y]) ?_ (fun kj => ?_)
  · refine ec_goE1 (ec_rV hC (c_X6_fails l G Y M _ y ya (thR M r) (thR_lt M r) hY) kX6_81 (hOk.at hS hAN) hx (ec_rc hK hx.1 ⟨_, _, rfl⟩) hl.1 ⟨Nat.le_of_ble_eq_true rfl, Nat.le_of_ble_eq_true rfl⟩ rfl (Nat.le_of_ble_eq_true rfl) dX6_failsRoom_14 ⟨Nat.le_of_ble_eq_true rfl, Nat.le_of_ble_eq_true rfl⟩) hS (fun _ h => h) (fun H locs hx hz hk1 hS => ?_)
    exact W.zret hC.1 hC.2.1 hr (bI_nar _) (fun t9 ht9 _ => ⟨_, rfl, by rw [ht9]; exact ⟨rfl, hx⟩, hS.F ht9⟩) hS.2.2 dX6_failsRoom_17
  · refine lv_aload_n hC.1 hC.2.1 dX6_failsRoom_0 rfl (lv_at hl 0 rfl) ?_
    refine lv_aload_n hC.1 hC.2.1 dX6_failsRoom_1 rfl (lv_at hl 0 rfl) ?_
    refine lv_iload_n hC.1 hC.2.1 dX6_failsRoom_2 rfl (lv_at hl 1 rfl) ?_
    refine ec_go1 (ec_rV hC (c_X6_isRoom l G Y M th y ya hwf r) kX6_77 (hOk.at hS hAN) hx (ec_rc hK hx.1 ⟨_, _, rfl⟩) hl.1 ⟨Nat.le_of_ble_eq_true rfl, Nat.le_of_ble_eq_true rfl⟩ rfl (Nat.le_of_ble_eq_true rfl) dX6_failsRoom_3 ⟨Nat.le_of_ble_eq_true rfl, Nat.le_of_ble_eq_true rfl⟩) ?_
    refine lv_if_eq (tgt := 13) hC.1 hC.2.1 dX6_failsRoom_6 (by decide) (fun c_6 => ?_) (fun c_6 => ?_)
    · refine lv_iconst (v := 1) hC.1 hC.2.1 dX6_failsRoom_13 (by decide) ?_
      refine ec_topi (y := (nI (thR M r))) (by rw [show thR M r = 1 by simp [thR, (bI_0 _).mp c_6]]; rfl) ?_
      exact kj
    · refine lv_iconst (v := 0) hC.1 hC.2.1 dX6_failsRoom_9 (by decide) ?_
      refine lv_goto (tgt := 14) hC.1 hC.2.1 dX6_failsRoom_10 (by decide) ?_
      refine ec_topi (y := (nI (thR M r))) (by rw [show thR M r = 0 by simp [thR, (bI_n0 _).mp c_6]]; rfl) ?_
      exact kj

set_option maxHeartbeats 4000000 in
set_option maxRecDepth 100000 in
/-- failsAnswer -/
theorem c_X6_failsAnswer (l : Launch) (G : ecG) (Y : Nat → Prop) (M : ecM) (th : Int32) (y : Nat) (ya : Nat → Nat) (hY : ∀ q, Y q → ecN0 G ≤ q) (hwf : WF M) (r : Int32) : Met l yX6_failsAnswer (ecWs yX6_failsAnswer cX6_failsAnswer 2 (Option.some FieldType.boolean)) (ecRm 3 0 0) (ecPc [.ref y, .int r] G (fun H => rfX G Y M th y ya H)) (ecEp (fun v H1 => v = some (.int (bI (decide (0 < thA M r)))) ∧ rfX G Y M (nI (thA M r)) y ya H1) (Y)) 0 0 (Y) := by
  refine ec_met (by decide) (Nat.le_of_ble_eq_true rfl) ?_
  intro p e s m below meth c hC hr hlocks hname hOk hpre ls hl
  have hK := hOk.1
  have hx := hpre
  have hS : va_S (Y) s.heap s.heap [] := va_S.rf
  have hAN : ∀ q, (Y) q → ecN0 G ≤ q := hY
  have hl : lv_has ls 2 [(0, .ref y), (1, .int r)] := hl
  have hn0 := hwf.n
  refine ec_join (pcj := 20) (stj := [.int (nI (thA M r)), .ref y]) ?_ (fun kj => ?_)
  · refine ec_goE1 (ec_rV hC (c_X6_fails l G Y M _ y ya (thA M r) (thA_lt M r) hY) kX6_81 (hOk.at hS hAN) hx (ec_rc hK hx.1 ⟨_, _, rfl⟩) hl.1 ⟨Nat.le_of_ble_eq_true rfl, Nat.le_of_ble_eq_true rfl⟩ rfl (Nat.le_of_ble_eq_true rfl) dX6_failsAnswer_20 ⟨Nat.le_of_ble_eq_true rfl, Nat.le_of_ble_eq_true rfl⟩) hS (fun _ h => h) (fun H locs hx hz hk1 hS => ?_)
    exact W.zret hC.1 hC.2.1 hr (bI_nar _) (fun t9 ht9 _ => ⟨_, rfl, by rw [ht9]; exact ⟨rfl, hx⟩, hS.F ht9⟩) hS.2.2 dX6_failsAnswer_23
  · refine lv_aload_n hC.1 hC.2.1 dX6_failsAnswer_0 rfl (lv_at hl 0 rfl) ?_
    refine lv_iload_n hC.1 hC.2.1 dX6_failsAnswer_1 rfl (lv_at hl 1 rfl) ?_
    refine lv_iconst (v := 0) hC.1 hC.2.1 dX6_failsAnswer_2 (by decide) ?_
    refine lv_aload_n hC.1 hC.2.1 dX6_failsAnswer_3 rfl (lv_at hl 0 rfl) ?_
    refine ec_get hC hK hx.1 fX6_84 rfl dX6_failsAnswer_4 ?_
    refine lv_iconst (v := 1) hC.1 hC.2.1 dX6_failsAnswer_7 (by decide) ?_
    refine lv_isub hC.1 hC.2.1 dX6_failsAnswer_8 ?_
    refine ec_go1 (ec_rS hC (c_X6_in l G r 0 (nI (mnA M) - 1)) kX6_73 (hOk.at hS hAN) trivial hl.1 ⟨Nat.le_of_ble_eq_true rfl, Nat.le_of_ble_eq_true rfl⟩ rfl (Nat.le_of_ble_eq_true rfl) dX6_failsAnswer_9 ⟨Nat.le_of_ble_eq_true rfl, Nat.le_of_ble_eq_true rfl⟩) ?_
    refine ec_topi (y := bI (ixB r (mnA M))) (by rw [rg_ix (by omega)]) ?_
    refine lv_if_eq (tgt := 19) hC.1 hC.2.1 dX6_failsAnswer_12 (by decide) (fun c_12 => ?_) (fun c_12 => ?_)
    · refine lv_iconst (v := 1) hC.1 hC.2.1 dX6_failsAnswer_19 (by decide) ?_
      refine ec_topi (y := (nI (thA M r))) (by rw [show thA M r = 1 by simp [thA, (bI_0 _).mp c_12]]; rfl) ?_
      exact kj
    · refine lv_iconst (v := 0) hC.1 hC.2.1 dX6_failsAnswer_15 (by decide) ?_
      refine lv_goto (tgt := 20) hC.1 hC.2.1 dX6_failsAnswer_16 (by decide) ?_
      refine ec_topi (y := (nI (thA M r))) (by rw [show thA M r = 0 by simp [thA, (bI_n0 _).mp c_12]]; rfl) ?_
      exact kj

set_option maxHeartbeats 4000000 in
set_option maxRecDepth 100000 in
/-- failsFilter -/
theorem c_X6_failsFilter (l : Launch) (G : ecG) (Y : Nat → Prop) (M : ecM) (th : Int32) (y : Nat) (ya : Nat → Nat) (hY : ∀ q, Y q → ecN0 G ≤ q) (hwf : WF M) (r : Int32) : Met l yX6_failsFilter (ecWs yX6_failsFilter cX6_failsFilter 2 (Option.some FieldType.boolean)) (ecRm 3 0 0) (ecPc [.ref y, .int r] G (fun H => rfX G Y M th y ya H)) (ecEp (fun v H1 => v = some (.int (bI (decide (0 < thF M r)))) ∧ rfX G Y M (nI (thF M r)) y ya H1) (Y)) 0 0 (Y) := by
  refine ec_met (by decide) (Nat.le_of_ble_eq_true rfl) ?_
  intro p e s m below meth c hC hr hlocks hname hOk hpre ls hl
  have hK := hOk.1
  have hx := hpre
  have hS : va_S (Y) s.heap s.heap [] := va_S.rf
  have hAN : ∀ q, (Y) q → ecN0 G ≤ q := hY
  have hl : lv_has ls 2 [(0, .ref y), (1, .int r)] := hl
  have hn0 := hwf.n
  refine ec_join (pcj := 20) (stj := [.int (nI (thF M r)), .ref y]) ?_ (fun kj => ?_)
  · refine ec_goE1 (ec_rV hC (c_X6_fails l G Y M _ y ya (thF M r) (thF_lt M r) hY) kX6_81 (hOk.at hS hAN) hx (ec_rc hK hx.1 ⟨_, _, rfl⟩) hl.1 ⟨Nat.le_of_ble_eq_true rfl, Nat.le_of_ble_eq_true rfl⟩ rfl (Nat.le_of_ble_eq_true rfl) dX6_failsFilter_20 ⟨Nat.le_of_ble_eq_true rfl, Nat.le_of_ble_eq_true rfl⟩) hS (fun _ h => h) (fun H locs hx hz hk1 hS => ?_)
    exact W.zret hC.1 hC.2.1 hr (bI_nar _) (fun t9 ht9 _ => ⟨_, rfl, by rw [ht9]; exact ⟨rfl, hx⟩, hS.F ht9⟩) hS.2.2 dX6_failsFilter_23
  · refine lv_aload_n hC.1 hC.2.1 dX6_failsFilter_0 rfl (lv_at hl 0 rfl) ?_
    refine lv_iload_n hC.1 hC.2.1 dX6_failsFilter_1 rfl (lv_at hl 1 rfl) ?_
    refine lv_iconst (v := 0) hC.1 hC.2.1 dX6_failsFilter_2 (by decide) ?_
    refine lv_aload_n hC.1 hC.2.1 dX6_failsFilter_3 rfl (lv_at hl 0 rfl) ?_
    refine ec_get hC hK hx.1 fX6_87 rfl dX6_failsFilter_4 ?_
    refine lv_iconst (v := 1) hC.1 hC.2.1 dX6_failsFilter_7 (by decide) ?_
    refine lv_isub hC.1 hC.2.1 dX6_failsFilter_8 ?_
    refine ec_go1 (ec_rS hC (c_X6_in l G r 0 (nI (mnF M) - 1)) kX6_73 (hOk.at hS hAN) trivial hl.1 ⟨Nat.le_of_ble_eq_true rfl, Nat.le_of_ble_eq_true rfl⟩ rfl (Nat.le_of_ble_eq_true rfl) dX6_failsFilter_9 ⟨Nat.le_of_ble_eq_true rfl, Nat.le_of_ble_eq_true rfl⟩) ?_
    refine ec_topi (y := bI (ixB r (mnF M))) (by rw [rg_ix (by omega)]) ?_
    refine lv_if_eq (tgt := 19) hC.1 hC.2.1 dX6_failsFilter_12 (by decide) (fun c_12 => ?_) (fun c_12 => ?_)
    · refine lv_iconst (v := 1) hC.1 hC.2.1 dX6_failsFilter_19 (by decide) ?_
      refine ec_topi (y := (nI (thF M r))) (by rw [show thF M r = 1 by simp [thF, (bI_0 _).mp c_12]]; rfl) ?_
      exact kj
    · refine lv_iconst (v := 0) hC.1 hC.2.1 dX6_failsFilter_15 (by decide) ?_
      refine lv_goto (tgt := 20) hC.1 hC.2.1 dX6_failsFilter_16 (by decide) ?_
      refine ec_topi (y := (nI (thF M r))) (by rw [show thF M r = 0 by simp [thF, (bI_n0 _).mp c_12]]; rfl) ?_
      exact kj
