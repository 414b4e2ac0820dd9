/-- the number of a thing, or -1 -/
def oI : Option Nat → Int32
  | none => -1
  | some j => nI j
theorem nI_nn {a : Nat} (h : a < 2 ^ 31) : ¬ nI a < 0 := Int32.not_lt.mpr (nI_pos' h)
theorem oI_1 {o : Option Nat} (h : ∀ j, o = some j → j < 2 ^ 31) : oI o = -1 ↔ o = none := by
  cases o with
  | none => exact ⟨fun _ => rfl, fun _ => rfl⟩
  | some j =>
    refine ⟨fun z => absurd (nI_nn (h j rfl)) ?_, fun z => by cases z⟩
    rw [show nI j = -1 from z]; decide
theorem oI_eq {o : Option Nat} {a : Nat} (h : ∀ j, o = some j → j < 2 ^ 31) (ha : a < 2 ^ 31) : oI o = nI a ↔ o = some a := by
  cases o with
  | none =>
    refine ⟨fun z => absurd (nI_nn ha) ?_, fun z => by cases z⟩
    rw [← z]; decide
  | some j => exact (nI_eq (h j rfl) ha).trans ⟨fun z => by rw [z], fun z => Option.some.inj z⟩
theorem ix_t {f i k : Nat} (h : k ≤ i) : nI 6 * nI f + nI i - nI k = nI (6 * f + (i - k)) := by
  rw [ix_ma, pk_sub (by omega), Nat.add_sub_assoc h]

set_option maxHeartbeats 4000000 in
set_option maxRecDepth 100000 in
/-- a room is given a state -/
theorem c_X6_gives (l : Launch) (G : ecG) (Y : Nat → Prop) (M : ecM) (th : Int32) (y : Nat) (ya : Nat → Nat) (hY : ∀ q, Y q → ecN0 G ≤ q) (hwf : WF M) (r k : Nat) (hr9 : r < mnR M) (hk : k < 80) : Met l yX6_gives (ecWs yX6_gives cX6_gives 4 (Option.some FieldType.int)) (ecRm 2 0 0) (ecPc [.ref y, .int (nI r), .int (nI k)] G (fun H => rfX G Y M th y ya H)) (ecEp (fun v H1 => v = some (.int (nI (dif (M.1 0 r) k))) ∧ rfX G Y (gvM M r k) th y ya H1) (Y)) 0 0 (Y) := by
  refine ec_met (by decide) (Nat.le_of_ble_eq_true rfl) ?_
  intro p e s m below meth c hC hr hlocks hname hOk hpre ls hl
  have hK := hOk.1
  have hx := hpre
  have hS : va_S (Y) s.heap s.heap [] := va_S.rf
  have hAN : ∀ q, (Y) q → ecN0 G ≤ q := hY
  have hl : lv_has ls 4 [(0, .ref y), (1, .int (nI r)), (2, .int (nI k))] := hl
  have hn0 := hwf.n
  refine lv_aload_n hC.1 hC.2.1 dX6_gives_0 rfl (lv_at hl 0 rfl) ?_
  refine ec_get hC hK hx.1 fX6_13 rfl dX6_gives_1 ?_
  refine lv_iload_n hC.1 hC.2.1 dX6_gives_4 rfl (lv_at hl 1 rfl) ?_
  refine ec_iald hC hK (hx.2.1 0 (by decide)) r rfl (by omega) (by omega) dX6_gives_5 ?_
  refine lv_iload_n hC.1 hC.2.1 dX6_gives_6 rfl (lv_at hl 2 rfl) ?_
  refine ec_go1 (ec_rS hC (c_X6_differ l G (M.1 0 r) k (hwf.rs _) hk) kX6_90 (hOk.at hS hAN) trivial hl.1 ⟨Nat.le_of_ble_eq_true rfl, Nat.le_of_ble_eq_true rfl⟩ rfl (Nat.le_of_ble_eq_true rfl) dX6_gives_7 ⟨Nat.le_of_ble_eq_true rfl, Nat.le_of_ble_eq_true rfl⟩) ?_
  refine lv_istore_n (lv' := [(3, .int (nI (dif (M.1 0 r) k))), (0, .ref y), (1, .int (nI r)), (2, .int (nI k))]) hC.1 hC.2.1 dX6_gives_10 rfl hl (by decide) rfl (fun ls hl => ?_)
  refine lv_aload_n hC.1 hC.2.1 dX6_gives_11 rfl (lv_at hl 1 rfl) ?_
  refine ec_get hC hK hx.1 fX6_13 rfl dX6_gives_12 ?_
  refine lv_iload_n hC.1 hC.2.1 dX6_gives_15 rfl (lv_at hl 2 rfl) ?_
  refine lv_iload_n hC.1 hC.2.1 dX6_gives_16 rfl (lv_at hl 3 rfl) ?_
  refine ec_iast hC hK hS (hx.2.1 0 (by decide)) (hx.2.2.2.2.2 0 (by decide)) r rfl (by omega) (by omega) dX6_gives_17 (fun H locs h9 o9 z9 hS => ?_)
  have hx := rf_s0 (i := r) (v := k) hx h9 o9
  refine lv_aload_n hC.1 hC.2.1 dX6_gives_18 rfl (lv_at hl 1 rfl) ?_
  refine ec_get hC hK hx.1 fX6_17 rfl dX6_gives_19 ?_
  refine lv_iload_n hC.1 hC.2.1 dX6_gives_22 rfl (lv_at hl 2 rfl) ?_
  refine lv_dup2_11 hC.1 hC.2.1 dX6_gives_23 rfl rfl ?_
  refine ec_iald hC hK (hx.2.1 1 (by decide)) r rfl (by omega) (by omega) dX6_gives_24 ?_
  refine lv_iload_n hC.1 hC.2.1 dX6_gives_25 rfl (lv_at hl 0 rfl) ?_
  refine lv_iadd hC.1 hC.2.1 dX6_gives_26 ?_
  refine ec_iast hC hK hS (hx.2.1 1 (by decide)) (hx.2.2.2.2.2 1 (by decide)) r rfl (by omega) (by omega) dX6_gives_27 (fun H locs h9 o9 z9 hS => ?_)
  have hx := rf_s1 (i := r) (v := (((M.2.1 0 r) + (nI (dif (M.1 0 r) k))))) hx h9 o9
  refine lv_iload_n hC.1 hC.2.1 dX6_gives_28 rfl (lv_at hl 0 rfl) ?_
  exact W.iret hC.1 hC.2.1 hr (fun t9 ht9 _ => ⟨_, rfl, by rw [ht9]; exact ⟨rfl, hx⟩, hS.F ht9⟩) hS.2.2 dX6_gives_29

theorem thAdd_lt (M : ecM) : thAdd M < 2 ^ 31 := ite_lt (by decide) (by decide)
theorem thSet_lt (M : ecM) (r c s : Int32) : thSet M r c s < 2 ^ 31 := ite_lt (ite_lt (by decide) (by decide)) (by decide)

set_option maxHeartbeats 4000000 in
set_option maxRecDepth 100000 in
/-- a room is added -/
theorem c_X6_addRoom (l : Launch) (G : ecG) (Y : Nat → Prop) (M : ecM) (th : Int32) (y : Nat) (ya : Nat → Nat) (hY : ∀ q, Y q → ecN0 G ≤ q) (hwf : WF M) : Met l yX6_addRoom (ecWs yX6_addRoom cX6_addRoom 1 (Option.some FieldType.int)) (ecRm 3 0 0) (ecPc [.ref y] G (fun H => rfX G Y M th y ya H)) (ecEp (fun v H1 => ∃ w : Int32, v = some (.int w) ∧ (thAdd M = 0 → w = nI (mnR M)) ∧ rfX G Y (if thAdd M = 0 then addM M else M) (nI (thAdd M)) y ya H1) (Y)) 0 0 (Y) := by
  refine ec_met (by decide) (Nat.le_of_ble_eq_true rfl) ?_
  intro p e s m below meth c hC hr hlocks hname hOk hpre ls hl
  have hK := hOk.1
  have hx := hpre
  have hS : va_S (Y) s.heap s.heap [] := va_S.rf
  have hAN : ∀ q, (Y) q → ecN0 G ≤ q := hY
  have hl : lv_has ls 1 [(0, .ref y)] := hl
  have hn0 := hwf.n
  refine ec_join (pcj := 14) (stj := [.int (nI (thAdd M)), .ref y]) ?_ (fun kj => ?_)
  · refine ec_goE1 (ec_rV hC (c_X6_fails l G Y M _ y ya (thAdd M) (thAdd_lt M) hY) kX6_81 (hOk.at hS hAN) hx (ec_rc hK hx.1 ⟨_, _, rfl⟩) hl.1 ⟨Nat.le_of_ble_eq_true rfl, Nat.le_of_ble_eq_true rfl⟩ rfl (Nat.le_of_ble_eq_true rfl) dX6_addRoom_14 ⟨Nat.le_of_ble_eq_true rfl, Nat.le_of_ble_eq_true rfl⟩) hS (fun _ h => h) (fun H locs hx hz hk1 hS => ?_)
    refine lv_if_eq (tgt := 22) hC.1 hC.2.1 dX6_addRoom_17 (by decide) (fun c_17 => ?_) (fun c_17 => ?_)
    · have hT : thAdd M = 0 := fz_0.mp c_17
      refine lv_aload_n hC.1 hC.2.1 dX6_addRoom_22 rfl (lv_at hl 0 rfl) ?_
      refine lv_dup hC.1 hC.2.1 dX6_addRoom_23 rfl ?_
      refine ec_get hC hK hx.1 fX6_70 rfl dX6_addRoom_24 ?_
      refine lv_iconst (v := 1) hC.1 hC.2.1 dX6_addRoom_27 (by decide) ?_
      refine lv_iadd hC.1 hC.2.1 dX6_addRoom_28 ?_
      refine ec_topi (y := nI (mnR M + 1)) (nI_1 _) ?_
      refine ec_put hC hK hS hx.1 hx.2.2.2.2.1 fX6_70 rfl rfl rfl (Nat.le_of_ble_eq_true rfl) dX6_addRoom_29 (fun H locs h9 o9 z9 hS => ?_)
      have hx := hx.put7 (j := 0) (v := (mnR M + 1)) h9 o9
      refine lv_aload_n hC.1 hC.2.1 dX6_addRoom_32 rfl (lv_at hl 0 rfl) ?_
      refine ec_get hC hK hx.1 fX6_70 rfl dX6_addRoom_33 ?_
      refine lv_iconst (v := 1) hC.1 hC.2.1 dX6_addRoom_36 (by decide) ?_
      refine lv_isub hC.1 hC.2.1 dX6_addRoom_37 ?_
      refine ec_topi (y := nI (mnR M)) (nI_p1 _) ?_
      exact W.iret hC.1 hC.2.1 hr (fun t9 ht9 _ => ⟨_, rfl, by rw [ht9]; exact ⟨_, rfl, fun _ => rfl, (by rw [if_pos hT]; exact hx)⟩, hS.F ht9⟩) hS.2.2 dX6_addRoom_38
    · refine lv_iconst (v := 0) hC.1 hC.2.1 dX6_addRoom_20 (by decide) ?_
      exact W.iret hC.1 hC.2.1 hr (fun t9 ht9 _ => ⟨_, rfl, by rw [ht9]; exact ⟨_, rfl, fun z => absurd z (fun z => c_17 (fz_0.mpr z)), (by rw [if_neg (fun z => c_17 (fz_0.mpr z))]; exact hx)⟩, hS.F ht9⟩) hS.2.2 dX6_addRoom_21
  · refine lv_aload_n hC.1 hC.2.1 dX6_addRoom_0 rfl (lv_at hl 0 rfl) ?_
    refine lv_aload_n hC.1 hC.2.1 dX6_addRoom_1 rfl (lv_at hl 0 rfl) ?_
    refine ec_get hC hK hx.1 fX6_70 rfl dX6_addRoom_2 ?_
    refine lv_iconst (v := 4) hC.1 hC.2.1 dX6_addRoom_5 (by decide) ?_
    refine lv_icmp_ne (tgt := 13) hC.1 hC.2.1 dX6_addRoom_6 (by decide) (fun c_6 => ?_) (fun c_6 => ?_)
    · refine lv_iconst (v := 0) hC.1 hC.2.1 dX6_addRoom_13 (by decide) ?_
      refine ec_topi (y := (nI (thAdd M))) (by rw [show thAdd M = 0 by simp [thAdd, (show ¬ mnR M = 4 from fun z => c_6 (by rw [z]; rfl))]]; rfl) ?_
      exact kj
    · refine lv_iconst (v := 1) hC.1 hC.2.1 dX6_addRoom_9 (by decide) ?_
      refine lv_goto (tgt := 14) hC.1 hC.2.1 dX6_addRoom_10 (by decide) ?_
      refine ec_topi (y := (nI (thAdd M))) (by rw [show thAdd M = 1 by simp [thAdd, ((nI_eq (a := mnR M) (b := 4) (by omega) (by decide)).mp c_6)]]; rfl) ?_
      exact kj

theorem if_th2 {b : Bool} {k : Nat} (h : (if b = true then 0 else k + 1) = 0) : b = true := (if_th h).1

set_option maxHeartbeats 4000000 in
set_option maxRecDepth 100000 in
/-- a room is set -/
theorem c_X6_setState (l : Launch) (G : ecG) (Y : Nat → Prop) (M : ecM) (th : Int32) (y : Nat) (ya : Nat → Nat) (hY : ∀ q, Y q → ecN0 G ≤ q) (hwf : WF M) (r c0 s0 : Int32) (o : Bool) : Met l yX6_setState (ecWs yX6_setState cX6_setState 5 (Option.some FieldType.int)) (ecRm 4 0 0) (ecPc [.ref y, .int r, .int c0, .int s0, .int (bI o)] G (fun H => rfX G Y M th y ya H)) (ecEp (fun v H1 => ∃ w : Int32, v = some (.int w) ∧ (thSet M r c0 s0 = 0 → w = nI (dif (M.1 0 (cN r)) (cdN c0 s0 o))) ∧ rfX G Y (if thSet M r c0 s0 = 0 then gvM M (cN r) (cdN c0 s0 o) else M) (nI (thSet M r c0 s0)) y ya H1) (Y)) 0 0 (Y) := by
  refine ec_met (by decide) (Nat.le_of_ble_eq_true rfl) ?_
  intro p e s m below meth c hC hr hlocks hname hOk hpre ls hl
  have hK := hOk.1
  have hx := hpre
  have hS : va_S (Y) s.heap s.heap [] := va_S.rf
  have hAN : ∀ q, (Y) q → ecN0 G ≤ q := hY
  have hl : lv_has ls 5 [(0, .ref y), (1, .int r), (2, .int c0), (3, .int s0), (4, .int (bI o))] := hl
  have hn0 := hwf.n
  refine ec_join (pcj := 26) (stj := [.int (nI (thSet M r c0 s0)), .ref y]) ?_ (fun kj => ?_)
  · refine ec_goE1 (ec_rV hC (c_X6_fails l G Y M _ y ya (thSet M r c0 s0) (thSet_lt _ _ _ _) hY) kX6_81 (hOk.at hS hAN) hx (ec_rc hK hx.1 ⟨_, _, rfl⟩) hl.1 ⟨Nat.le_of_ble_eq_true rfl, Nat.le_of_ble_eq_true rfl⟩ rfl (Nat.le_of_ble_eq_true rfl) dX6_setState_26 ⟨Nat.le_of_ble_eq_true rfl, Nat.le_of_ble_eq_true rfl⟩) hS (fun _ h => h) (fun H locs hx hz hk1 hS => ?_)
    refine lv_if_eq (tgt := 34) hC.1 hC.2.1 dX6_setState_29 (by decide) (fun c_29 => ?_) (fun c_29 => ?_)
    · have hT : thSet M r c0 s0 = 0 := fz_0.mp c_29
      obtain ⟨j, hj, rfl⟩ := ixB_t (by omega) (if_th (k := 0) hT).1
      have hjc : cN (nI j) = j := nI_clamp (by omega)
      have hst : stB c0 s0 = true := (if_th (k := 1) (if_th (k := 0) hT).2).1
      have h80 := (cdN_3 o hst).1
      refine lv_aload_n hC.1 hC.2.1 dX6_setState_34 rfl (lv_at hl 0 rfl) ?_
      refine lv_iload_n hC.1 hC.2.1 dX6_setState_35 rfl (lv_at hl 1 rfl) ?_
      refine lv_iload_n hC.1 hC.2.1 dX6_setState_36 rfl (lv_at hl 2 rfl) ?_
      refine lv_iload_n hC.1 hC.2.1 dX6_setState_37 rfl (lv_at hl 3 rfl) ?_
      refine lv_iload hC.1 hC.2.1 dX6_setState_38 (lv_at hl 4 rfl) ?_
      refine ec_go1 (ec_rS hC (c_X6_state l G c0 s0 o hst) kX6_98 (hOk.at hS hAN) trivial hl.1 ⟨Nat.le_of_ble_eq_true rfl, Nat.le_of_ble_eq_true rfl⟩ rfl (Nat.le_of_ble_eq_true rfl) dX6_setState_40 ⟨Nat.le_of_ble_eq_true rfl, Nat.le_of_ble_eq_true rfl⟩) ?_
      refine ec_goE1 (ec_rV hC (c_X6_gives l G Y M _ y ya hY hwf j (cdN c0 s0 o) hj h80) kX6_102 (hOk.at hS hAN) hx (ec_rc hK hx.1 ⟨_, _, rfl⟩) hl.1 ⟨Nat.le_of_ble_eq_true rfl, Nat.le_of_ble_eq_true rfl⟩ rfl (Nat.le_of_ble_eq_true rfl) dX6_setState_43 ⟨Nat.le_of_ble_eq_true rfl, Nat.le_of_ble_eq_true rfl⟩) hS (fun _ h => h) (fun H locs hx hz hk1 hS => ?_)
      exact W.iret hC.1 hC.2.1 hr (fun t9 ht9 _ => ⟨_, rfl, by rw [ht9]; exact ⟨_, rfl, fun _ => (by rw [hjc]), (by rw [if_pos hT, hjc]; exact hx)⟩, hS.F ht9⟩) hS.2.2 dX6_setState_46
    · refine lv_iconst (v := 0) hC.1 hC.2.1 dX6_setState_32 (by decide) ?_
      exact W.iret hC.1 hC.2.1 hr (fun t9 ht9 _ => ⟨_, rfl, by rw [ht9]; exact ⟨_, rfl, fun z => absurd z (fun z => c_29 (fz_0.mpr z)), (by rw [if_neg (fun z => c_29 (fz_0.mpr z))]; exact hx)⟩, hS.F ht9⟩) hS.2.2 dX6_setState_33
  · refine lv_aload_n hC.1 hC.2.1 dX6_setState_0 rfl (lv_at hl 0 rfl) ?_
    refine lv_aload_n hC.1 hC.2.1 dX6_setState_1 rfl (lv_at hl 0 rfl) ?_
    refine lv_iload_n hC.1 hC.2.1 dX6_setState_2 rfl (lv_at hl 1 rfl) ?_
    refine ec_go1 (ec_rV hC (c_X6_isRoom l G Y M _ y ya hwf r) kX6_77 (hOk.at hS hAN) hx (ec_rc hK hx.1 ⟨_, _, rfl⟩) hl.1 ⟨Nat.le_of_ble_eq_true rfl, Nat.le_of_ble_eq_true rfl⟩ rfl (Nat.le_of_ble_eq_true rfl) dX6_setState_3 ⟨Nat.le_of_ble_eq_true rfl, Nat.le_of_ble_eq_true rfl⟩) ?_
    refine lv_if_ne (tgt := 13) hC.1 hC.2.1 dX6_setState_6 (by decide) (fun c_6 => ?_) (fun c_6 => ?_)
    · refine lv_iload_n hC.1 hC.2.1 dX6_setState_13 rfl (lv_at hl 2 rfl) ?_
      refine lv_iload_n hC.1 hC.2.1 dX6_setState_14 rfl (lv_at hl 3 rfl) ?_
      refine ec_go1 (ec_rS hC (c_X6_isState l G c0 s0) kX6_94 (hOk.at hS hAN) trivial hl.1 ⟨Nat.le_of_ble_eq_true rfl, Nat.le_of_ble_eq_true rfl⟩ rfl (Nat.le_of_ble_eq_true rfl) dX6_setState_15 ⟨Nat.le_of_ble_eq_true rfl, Nat.le_of_ble_eq_true rfl⟩) ?_
      refine lv_if_eq (tgt := 25) hC.1 hC.2.1 dX6_setState_18 (by decide) (fun c_18 => ?_) (fun c_18 => ?_)
      · refine lv_iconst (v := 2) hC.1 hC.2.1 dX6_setState_25 (by decide) ?_
        refine ec_topi (y := (nI (thSet M r c0 s0))) (by rw [show thSet M r c0 s0 = 2 by simp [thSet, (bI_n0 _).mp c_6, (bI_0 _).mp c_18]]; rfl) ?_
        exact kj
      · refine lv_iconst (v := 0) hC.1 hC.2.1 dX6_setState_21 (by decide) ?_
        refine lv_goto (tgt := 26) hC.1 hC.2.1 dX6_setState_22 (by decide) ?_
        refine ec_topi (y := (nI (thSet M r c0 s0))) (by rw [show thSet M r c0 s0 = 0 by simp [thSet, (bI_n0 _).mp c_6, (bI_n0 _).mp c_18]]; rfl) ?_
        exact kj
    · refine lv_iconst (v := 1) hC.1 hC.2.1 dX6_setState_9 (by decide) ?_
      refine lv_goto (tgt := 26) hC.1 hC.2.1 dX6_setState_10 (by decide) ?_
      refine ec_topi (y := (nI (thSet M r c0 s0))) (by rw [show thSet M r c0 s0 = 1 by simp [thSet, (bI_0 _).mp c_6]]; rfl) ?_
      exact kj

theorem ao_1 {a : Nat} (ha : a < 80) (h : nI a - nI a / 2 * 2 = 1) : 1 = nI (a % 2) := by rw [df_r ha] at h; exact h.symm
theorem ao_0 {a : Nat} (ha : a < 80) (h : ¬ nI a - nI a / 2 * 2 = 1) : 0 = nI (a % 2) := by
  rw [df_r ha] at h
  rcases (show a % 2 = 0 ∨ a % 2 = 1 by omega) with q | q
  · rw [q]; rfl
  · exact absurd (by rw [q]; rfl) h

set_option maxHeartbeats 4000000 in
set_option maxRecDepth 100000 in
/-- curtains -/
theorem c_X6_curtains (l : Launch) (G : ecG) (Y : Nat → Prop) (M : ecM) (th : Int32) (y : Nat) (ya : Nat → Nat) (hY : ∀ q, Y q → ecN0 G ≤ q) (hwf : WF M) (r : Int32) : Met l yX6_curtains (ecWs yX6_curtains cX6_curtains 2 (Option.some FieldType.int)) (ecRm 4 0 0) (ecPc [.ref y, .int r] G (fun H => rfX G Y M th y ya H)) (ecEp (fun v H1 => ∃ w : Int32, v = some (.int w) ∧ (thR M r = 0 → w = nI (M.1 0 (cN r) / 20)) ∧ rfX G Y M (nI (thR M r)) y ya H1) (Y)) 0 0 (Y) := by
  refine ec_met (by decide) (Nat.le_of_ble_eq_true rfl) ?_
  intro p e s m below meth c hC hr hlocks hname hOk hpre ls hl
  have hK := hOk.1
  have hx := hpre
  have hS : va_S (Y) s.heap s.heap [] := va_S.rf
  have hAN : ∀ q, (Y) q → ecN0 G ≤ q := hY
  have hl : lv_has ls 2 [(0, .ref y), (1, .int r)] := hl
  have hn0 := hwf.n
  refine lv_aload_n hC.1 hC.2.1 dX6_curtains_0 rfl (lv_at hl 0 rfl) ?_
  refine lv_iload_n hC.1 hC.2.1 dX6_curtains_1 rfl (lv_at hl 1 rfl) ?_
  refine ec_goE1 (ec_rV hC (c_X6_failsRoom l G Y M th y ya hY hwf r) kX6_105 (hOk.at hS hAN) hx (ec_rc hK hx.1 ⟨_, _, rfl⟩) hl.1 ⟨Nat.le_of_ble_eq_true rfl, Nat.le_of_ble_eq_true rfl⟩ rfl (Nat.le_of_ble_eq_true rfl) dX6_curtains_2 ⟨Nat.le_of_ble_eq_true rfl, Nat.le_of_ble_eq_true rfl⟩) hS (fun _ h => h) (fun H locs hx hz hk1 hS => ?_)
  refine lv_if_eq (tgt := 12) hC.1 hC.2.1 dX6_curtains_5 (by decide) (fun c_5 => ?_) (fun c_5 => ?_)
  · have hT : thR M r = 0 := fz_0.mp c_5
    obtain ⟨j, hj, rfl⟩ := ixB_t (by omega) (if_th (k := 0) hT).1
    have hjc : cN (nI j) = j := nI_clamp (by omega)
    refine lv_aload_n hC.1 hC.2.1 dX6_curtains_12 rfl (lv_at hl 0 rfl) ?_
    refine ec_get hC hK hx.1 fX6_13 rfl dX6_curtains_13 ?_
    refine lv_iload_n hC.1 hC.2.1 dX6_curtains_16 rfl (lv_at hl 1 rfl) ?_
    refine ec_iald hC hK (hx.2.1 0 (by decide)) j rfl (by omega) (by omega) dX6_curtains_17 ?_
    refine lv_bipush (v := 20) hC.1 hC.2.1 dX6_curtains_18 (by decide) ?_
    refine lv_idiv hC.1 hC.2.1 dX6_curtains_20 (by decide) ?_
    exact W.iret hC.1 hC.2.1 hr (fun t9 ht9 _ => ⟨_, rfl, by rw [ht9]; exact ⟨_, rfl, fun _ => (by rw [hjc]; exact pk_div (d := 20) (by have := hwf.rs j; omega) (by decide) (by decide)), hx⟩, hS.F ht9⟩) hS.2.2 dX6_curtains_21
  · refine lv_iconst (v := 0) hC.1 hC.2.1 dX6_curtains_8 (by decide) ?_
    refine lv_goto (tgt := 21) hC.1 hC.2.1 dX6_curtains_9 (by decide) ?_
    exact W.iret hC.1 hC.2.1 hr (fun t9 ht9 _ => ⟨_, rfl, by rw [ht9]; exact ⟨_, rfl, fun z => absurd z (fun z => c_5 (fz_0.mpr z)), hx⟩, hS.F ht9⟩) hS.2.2 dX6_curtains_21

set_option maxHeartbeats 4000000 in
set_option maxRecDepth 100000 in
/-- seats -/
theorem c_X6_seats (l : Launch) (G : ecG) (Y : Nat → Prop) (M : ecM) (th : Int32) (y : Nat) (ya : Nat → Nat) (hY : ∀ q, Y q → ecN0 G ≤ q) (hwf : WF M) (r : Int32) : Met l yX6_seats (ecWs yX6_seats cX6_seats 2 (Option.some FieldType.int)) (ecRm 4 0 0) (ecPc [.ref y, .int r] G (fun H => rfX G Y M th y ya H)) (ecEp (fun v H1 => ∃ w : Int32, v = some (.int w) ∧ (thR M r = 0 → w = nI (M.1 0 (cN r) % 20 / 2)) ∧ rfX G Y M (nI (thR M r)) y ya H1) (Y)) 0 0 (Y) := by
  refine ec_met (by decide) (Nat.le_of_ble_eq_true rfl) ?_
  intro p e s m below meth c hC hr hlocks hname hOk hpre ls hl
  have hK := hOk.1
  have hx := hpre
  have hS : va_S (Y) s.heap s.heap [] := va_S.rf
  have hAN : ∀ q, (Y) q → ecN0 G ≤ q := hY
  have hl : lv_has ls 2 [(0, .ref y), (1, .int r)] := hl
  have hn0 := hwf.n
  refine lv_aload_n hC.1 hC.2.1 dX6_seats_0 rfl (lv_at hl 0 rfl) ?_
  refine lv_iload_n hC.1 hC.2.1 dX6_seats_1 rfl (lv_at hl 1 rfl) ?_
  refine ec_goE1 (ec_rV hC (c_X6_failsRoom l G Y M th y ya hY hwf r) kX6_105 (hOk.at hS hAN) hx (ec_rc hK hx.1 ⟨_, _, rfl⟩) hl.1 ⟨Nat.le_of_ble_eq_true rfl, Nat.le_of_ble_eq_true rfl⟩ rfl (Nat.le_of_ble_eq_true rfl) dX6_seats_2 ⟨Nat.le_of_ble_eq_true rfl, Nat.le_of_ble_eq_true rfl⟩) hS (fun _ h => h) (fun H locs hx hz hk1 hS => ?_)
  refine lv_if_eq (tgt := 12) hC.1 hC.2.1 dX6_seats_5 (by decide) (fun c_5 => ?_) (fun c_5 => ?_)
  · have hT : thR M r = 0 := fz_0.mp c_5
    obtain ⟨j, hj, rfl⟩ := ixB_t (by omega) (if_th (k := 0) hT).1
    have hjc : cN (nI j) = j := nI_clamp (by omega)
    refine lv_aload_n hC.1 hC.2.1 dX6_seats_12 rfl (lv_at hl 0 rfl) ?_
    refine ec_get hC hK hx.1 fX6_13 rfl dX6_seats_13 ?_
    refine lv_iload_n hC.1 hC.2.1 dX6_seats_16 rfl (lv_at hl 1 rfl) ?_
    refine ec_iald hC hK (hx.2.1 0 (by decide)) j rfl (by omega) (by omega) dX6_seats_17 ?_
    refine lv_bipush (v := 20) hC.1 hC.2.1 dX6_seats_18 (by decide) ?_
    refine lv_irem hC.1 hC.2.1 dX6_seats_20 (by decide) ?_
    refine lv_iconst (v := 2) hC.1 hC.2.1 dX6_seats_21 (by decide) ?_
    refine lv_idiv hC.1 hC.2.1 dX6_seats_22 (by decide) ?_
    exact W.iret hC.1 hC.2.1 hr (fun t9 ht9 _ => ⟨_, rfl, by rw [ht9]; exact ⟨_, rfl, fun _ => (by rw [hjc]; exact df_m (hwf.rs j)), hx⟩, hS.F ht9⟩) hS.2.2 dX6_seats_23
  · refine lv_iconst (v := 0) hC.1 hC.2.1 dX6_seats_8 (by decide) ?_
    refine lv_goto (tgt := 23) hC.1 hC.2.1 dX6_seats_9 (by decide) ?_
    exact W.iret hC.1 hC.2.1 hr (fun t9 ht9 _ => ⟨_, rfl, by rw [ht9]; exact ⟨_, rfl, fun z => absurd z (fun z => c_5 (fz_0.mpr z)), hx⟩, hS.F ht9⟩) hS.2.2 dX6_seats_23

set_option maxHeartbeats 4000000 in
set_option maxRecDepth 100000 in
/-- areOpen -/
theorem c_X6_areOpen (l : Launch) (G : ecG) (Y : Nat → Prop) (M : ecM) (th : Int32) (y : Nat) (ya : Nat → Nat) (hY : ∀ q, Y q → ecN0 G ≤ q) (hwf : WF M) (r : Int32) : Met l yX6_areOpen (ecWs yX6_areOpen cX6_areOpen 2 (Option.some FieldType.boolean)) (ecRm 4 0 0) (ecPc [.ref y, .int r] G (fun H => rfX G Y M th y ya H)) (ecEp (fun v H1 => ∃ w : Int32, v = some (.int w) ∧ (thR M r = 0 → w = nI (M.1 0 (cN r) % 2)) ∧ rfX G Y M (nI (thR M r)) y ya H1) (Y)) 0 0 (Y) := by
  refine ec_met (by decide) (Nat.le_of_ble_eq_true rfl) ?_
  intro p e s m below meth c hC hr hlocks hname hOk hpre ls hl
  have hK := hOk.1
  have hx := hpre
  have hS : va_S (Y) s.heap s.heap [] := va_S.rf
  have hAN : ∀ q, (Y) q → ecN0 G ≤ q := hY
  have hl : lv_has ls 2 [(0, .ref y), (1, .int r)] := hl
  have hn0 := hwf.n
  refine lv_aload_n hC.1 hC.2.1 dX6_areOpen_0 rfl (lv_at hl 0 rfl) ?_
  refine lv_iload_n hC.1 hC.2.1 dX6_areOpen_1 rfl (lv_at hl 1 rfl) ?_
  refine ec_goE1 (ec_rV hC (c_X6_failsRoom l G Y M th y ya hY hwf r) kX6_105 (hOk.at hS hAN) hx (ec_rc hK hx.1 ⟨_, _, rfl⟩) hl.1 ⟨Nat.le_of_ble_eq_true rfl, Nat.le_of_ble_eq_true rfl⟩ rfl (Nat.le_of_ble_eq_true rfl) dX6_areOpen_2 ⟨Nat.le_of_ble_eq_true rfl, Nat.le_of_ble_eq_true rfl⟩) hS (fun _ h => h) (fun H locs hx hz hk1 hS => ?_)
  refine lv_if_ne (tgt := 24) hC.1 hC.2.1 dX6_areOpen_5 (by decide) (fun c_5 => ?_) (fun c_5 => ?_)
  · refine lv_iconst (v := 0) hC.1 hC.2.1 dX6_areOpen_24 (by decide) ?_
    exact W.zret hC.1 hC.2.1 hr rfl (fun t9 ht9 _ => ⟨_, rfl, by rw [ht9]; exact ⟨_, rfl, fun z => absurd z (fun z => c_5 (fz_0.mpr z)), hx⟩, hS.F ht9⟩) hS.2.2 dX6_areOpen_25
  · have hT : thR M r = 0 := fz_0.mp c_5
    obtain ⟨j, hj, rfl⟩ := ixB_t (by omega) (if_th (k := 0) hT).1
    have hjc : cN (nI j) = j := nI_clamp (by omega)
    refine lv_aload_n hC.1 hC.2.1 dX6_areOpen_8 rfl (lv_at hl 0 rfl) ?_
    refine ec_get hC hK hx.1 fX6_13 rfl dX6_areOpen_9 ?_
    refine lv_iload_n hC.1 hC.2.1 dX6_areOpen_12 rfl (lv_at hl 1 rfl) ?_
    refine ec_iald hC hK (hx.2.1 0 (by decide)) j rfl (by omega) (by omega) dX6_areOpen_13 ?_
    refine lv_iconst (v := 2) hC.1 hC.2.1 dX6_areOpen_14 (by decide) ?_
    refine lv_irem hC.1 hC.2.1 dX6_areOpen_15 (by decide) ?_
    refine lv_iconst (v := 1) hC.1 hC.2.1 dX6_areOpen_16 (by decide) ?_
    refine lv_icmp_ne (tgt := 24) hC.1 hC.2.1 dX6_areOpen_17 (by decide) (fun c_17 => ?_) (fun c_17 => ?_)
    · refine lv_iconst (v := 0) hC.1 hC.2.1 dX6_areOpen_24 (by decide) ?_
      exact W.zret hC.1 hC.2.1 hr rfl (fun t9 ht9 _ => ⟨_, rfl, by rw [ht9]; exact ⟨_, rfl, fun _ => (by rw [hjc]; exact ao_0 (hwf.rs j) c_17), hx⟩, hS.F ht9⟩) hS.2.2 dX6_areOpen_25
    · refine lv_iconst (v := 1) hC.1 hC.2.1 dX6_areOpen_20 (by decide) ?_
      refine lv_goto (tgt := 25) hC.1 hC.2.1 dX6_areOpen_21 (by decide) ?_
      exact W.zret hC.1 hC.2.1 hr rfl (fun t9 ht9 _ => ⟨_, rfl, by rw [ht9]; exact ⟨_, rfl, fun _ => (by rw [hjc]; exact ao_1 (hwf.rs j) c_17), hx⟩, hS.F ht9⟩) hS.2.2 dX6_areOpen_25

set_option maxHeartbeats 4000000 in
set_option maxRecDepth 100000 in
/-- changes -/
theorem c_X6_changes (l : Launch) (G : ecG) (Y : Nat → Prop) (M : ecM) (th : Int32) (y : Nat) (ya : Nat → Nat) (hY : ∀ q, Y q → ecN0 G ≤ q) (hwf : WF M) (r : Int32) : Met l yX6_changes (ecWs yX6_changes cX6_changes 2 (Option.some FieldType.int)) (ecRm 4 0 0) (ecPc [.ref y, .int r] G (fun H => rfX G Y M th y ya H)) (ecEp (fun v H1 => ∃ w : Int32, v = some (.int w) ∧ (thR M r = 0 → w = M.2.1 0 (cN r)) ∧ rfX G Y M (nI (thR M r)) y ya H1) (Y)) 0 0 (Y) := by
  refine ec_met (by decide) (Nat.le_of_ble_eq_true rfl) ?_
  intro p e s m below meth c hC hr hlocks hname hOk hpre ls hl
  have hK := hOk.1
  have hx := hpre
  have hS : va_S (Y) s.heap s.heap [] := va_S.rf
  have hAN : ∀ q, (Y) q → ecN0 G ≤ q := hY
  have hl : lv_has ls 2 [(0, .ref y), (1, .int r)] := hl
  have hn0 := hwf.n
  refine lv_aload_n hC.1 hC.2.1 dX6_changes_0 rfl (lv_at hl 0 rfl) ?_
  refine lv_iload_n hC.1 hC.2.1 dX6_changes_1 rfl (lv_at hl 1 rfl) ?_
  refine ec_goE1 (ec_rV hC (c_X6_failsRoom l G Y M th y ya hY hwf r) kX6_105 (hOk.at hS hAN) hx (ec_rc hK hx.1 ⟨_, _, rfl⟩) hl.1 ⟨Nat.le_of_ble_eq_true rfl, Nat.le_of_ble_eq_true rfl⟩ rfl (Nat.le_of_ble_eq_true rfl) dX6_changes_2 ⟨Nat.le_of_ble_eq_true rfl, Nat.le_of_ble_eq_true rfl⟩) hS (fun _ h => h) (fun H locs hx hz hk1 hS => ?_)
  refine lv_if_eq (tgt := 12) hC.1 hC.2.1 dX6_changes_5 (by decide) (fun c_5 => ?_) (fun c_5 => ?_)
  · have hT : thR M r = 0 := fz_0.mp c_5
    obtain ⟨j, hj, rfl⟩ := ixB_t (by omega) (if_th (k := 0) hT).1
    have hjc : cN (nI j) = j := nI_clamp (by omega)
    refine lv_aload_n hC.1 hC.2.1 dX6_changes_12 rfl (lv_at hl 0 rfl) ?_
    refine ec_get hC hK hx.1 fX6_17 rfl dX6_changes_13 ?_
    refine lv_iload_n hC.1 hC.2.1 dX6_changes_16 rfl (lv_at hl 1 rfl) ?_
    refine ec_iald hC hK (hx.2.1 1 (by decide)) j rfl (by omega) (by omega) dX6_changes_17 ?_
    exact W.iret hC.1 hC.2.1 hr (fun t9 ht9 _ => ⟨_, rfl, by rw [ht9]; exact ⟨_, rfl, fun _ => (by rw [hjc]), hx⟩, hS.F ht9⟩) hS.2.2 dX6_changes_18
  · refine lv_iconst (v := 0) hC.1 hC.2.1 dX6_changes_8 (by decide) ?_
    refine lv_goto (tgt := 18) hC.1 hC.2.1 dX6_changes_9 (by decide) ?_
    exact W.iret hC.1 hC.2.1 hr (fun t9 ht9 _ => ⟨_, rfl, by rw [ht9]; exact ⟨_, rfl, fun z => absurd z (fun z => c_5 (fz_0.mpr z)), hx⟩, hS.F ht9⟩) hS.2.2 dX6_changes_18
