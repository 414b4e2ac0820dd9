set_option maxHeartbeats 4000000 in
set_option maxRecDepth 100000 in
/-- a booking is cancelled -/
theorem c_X6_cancel (l : Launch) (G : ecG) (Y : Nat → Prop) (M : ecM) (th : Int32) (y : Nat) (ya : Nat → Nat) (hY : ∀ q, Y q → ecN0 G ≤ q) (hwf : WF M) (b : Int32) : Met l yX6_cancel (ecWs yX6_cancel cX6_cancel 4 (Option.some FieldType.int)) (ecRm 4 0 0) (ecPc [.ref y, .int b] G (fun H => rfX G Y M th y ya H)) (ecEp (fun v H1 => ∃ w : Int32, v = some (.int w) ∧ (thCan M b = 0 → w = nI (cntN (setN M 6 (cN b) 1) (mnB M))) ∧ rfX G Y (if thCan M b = 0 then setN M 6 (cN b) 1 else M) (nI (thCan M b)) y ya H1) (Y)) 0 0 (Y) := by
  refine ec_met (by decide) (Nat.le_of_ble_eq_true rfl) ?_
  intro p e s m below meth c hC hr hlocks hname hOk hpre ls hl
  have hK := hOk.1
  have hx := hpre
  have hS : va_S (Y) s.heap s.heap [] := va_S.rf
  have hAN : ∀ q, (Y) q → ecN0 G ≤ q := hY
  have hl : lv_has ls 4 [(0, .ref y), (1, .int b)] := hl
  have hn0 := hwf.n
  refine ec_join (pcj := 46) (stj := [.int (nI (thCan M b)), .ref y]) ?_ (fun kj => ?_)
  · refine ec_goE1 (ec_rV hC (c_X6_fails l G Y M _ y ya (thCan M b) (thCan_lt _ _) hY) kX6_81 (hOk.at hS hAN) hx (ec_rc hK hx.1 ⟨_, _, rfl⟩) hl.1 ⟨Nat.le_of_ble_eq_true rfl, Nat.le_of_ble_eq_true rfl⟩ rfl (Nat.le_of_ble_eq_true rfl) dX6_cancel_46 ⟨Nat.le_of_ble_eq_true rfl, Nat.le_of_ble_eq_true rfl⟩) hS (fun _ h => h) (fun H locs hx hz hk1 hS => ?_)
    refine lv_if_eq (tgt := 54) hC.1 hC.2.1 dX6_cancel_49 (by decide) (fun c_49 => ?_) (fun c_49 => ?_)
    · have hT : thCan M b = 0 := fz_0.mp c_49
      obtain ⟨hix, h92⟩ := if_th (k := 0) hT
      obtain ⟨j, hj, rfl⟩ := ixB_t (by omega) hix
      have hjc : cN (nI j) = j := nI_clamp (by omega)
      refine lv_aload_n hC.1 hC.2.1 dX6_cancel_54 rfl (lv_at hl 0 rfl) ?_
      refine ec_get hC hK hx.1 fX6_63 rfl dX6_cancel_55 ?_
      refine lv_iload_n hC.1 hC.2.1 dX6_cancel_58 rfl (lv_at hl 1 rfl) ?_
      refine lv_iconst (v := 1) hC.1 hC.2.1 dX6_cancel_59 (by decide) ?_
      refine ec_topi (y := bI true) rfl ?_
      refine ec_zast hC hK hS (hx.2.1 16 (by decide)) (hx.2.2.2.2.2 16 (by decide)) j rfl (by omega) (by omega) dX6_cancel_60 (fun H locs h9 o9 z9 hS => ?_)
      have hx := rf_s16 (i := j) (v := 1) hx h9 o9
      refine lv_iconst (v := 0) hC.1 hC.2.1 dX6_cancel_61 (by decide) ?_
      refine lv_istore_n (lv' := [(2, .int 0), (0, .ref y), (1, .int (nI j))]) hC.1 hC.2.1 dX6_cancel_62 rfl hl (by decide) rfl (fun ls hl => ?_)
      refine lv_iconst (v := 0) hC.1 hC.2.1 dX6_cancel_63 (by decide) ?_
      refine lv_istore_n (lv' := [(3, .int 0), (2, .int 0), (0, .ref y), (1, .int (nI j))]) hC.1 hC.2.1 dX6_cancel_64 rfl hl (by decide) rfl (fun ls hl => ?_)
      refine ec_loopR (n := mnB M) (fun i ls => lv_has ls 4 [(2, .int (nI (cntN (setN M 6 j 1) i))), (3, .int (nI i)), (0, .ref y), (1, .int (nI j))] ∧ True) ⟨⟨hl.1, hl.2.1, (ec_lvc (lv_at hl 1 rfl) (ec_lvc (lv_at hl 0 rfl) (ec_lvc (lv_at hl 2 rfl) (ec_lvc (lv_at hl 3 rfl) ec_lvn))))⟩, trivial⟩ (fun ls h9 => ?_) (fun i ls hi h9 hk => ?_)
      · obtain ⟨hl, hI⟩ := h9
        refine lv_iload_n hC.1 hC.2.1 dX6_cancel_65 rfl (lv_at hl 1 rfl) ?_
        refine lv_aload_n hC.1 hC.2.1 dX6_cancel_66 rfl (lv_at hl 2 rfl) ?_
        refine ec_get hC hK hx.1 fX6_143 rfl dX6_cancel_67 ?_
        refine lv_icmp_ge (tgt := 96) hC.1 hC.2.1 dX6_cancel_70 (by decide) (fun c_70 => ?_) (fun c => absurd (Int32.le_refl _) c)
        refine lv_iload_n hC.1 hC.2.1 dX6_cancel_96 rfl (lv_at hl 0 rfl) ?_
        exact W.iret hC.1 hC.2.1 hr (fun t9 ht9 _ => ⟨_, rfl, by rw [ht9]; exact ⟨_, rfl, fun _ => (by rw [hjc]), (by rw [if_pos hT, hjc]; exact hx)⟩, hS.F ht9⟩) hS.2.2 dX6_cancel_97
      · obtain ⟨hl, hI⟩ := h9
        refine lv_iload_n hC.1 hC.2.1 dX6_cancel_65 rfl (lv_at hl 1 rfl) ?_
        refine lv_aload_n hC.1 hC.2.1 dX6_cancel_66 rfl (lv_at hl 2 rfl) ?_
        refine ec_get hC hK hx.1 fX6_143 rfl dX6_cancel_67 ?_
        refine lv_icmp_ge (tgt := 96) hC.1 hC.2.1 dX6_cancel_70 (by decide) (fun c => absurd c (fun z => Int32.lt_irrefl (Int32.lt_of_lt_of_le (nI_lt (b := mnB M) hi (by omega)) z))) (fun c_70 => ?_)
        refine lv_iload_n hC.1 hC.2.1 dX6_cancel_73 rfl (lv_at hl 0 rfl) ?_
        refine lv_aload_n hC.1 hC.2.1 dX6_cancel_74 rfl (lv_at hl 2 rfl) ?_
        refine ec_get hC hK hx.1 fX6_63 rfl dX6_cancel_75 ?_
        refine lv_iload_n hC.1 hC.2.1 dX6_cancel_78 rfl (lv_at hl 1 rfl) ?_
        refine ec_zald hC hK (hx.2.1 16 (by decide)) i rfl (by omega) (by omega) dX6_cancel_79 ?_
        refine lv_if_eq (tgt := 87) hC.1 hC.2.1 dX6_cancel_80 (by decide) (fun c_80 => ?_) (fun c_80 => ?_)
        · refine lv_iconst (v := 1) hC.1 hC.2.1 dX6_cancel_87 (by decide) ?_
          have e9 : cntN (setN M 6 j 1) (i + 1) = cntN (setN M 6 j 1) i + 1 := by rw [cntN_s, if_pos ((nI_eq (b := 0) (by have := (hwf.can hj).gn i; omega) (by decide)).mp c_80)]
          refine lv_iadd hC.1 hC.2.1 dX6_cancel_88 ?_
          refine ec_topi (y := nI (cntN (setN M 6 j 1) (i + 1))) (by rw [e9]; exact nI_add _ 1) ?_
          refine lv_istore_n (lv' := [(2, .int (nI (cntN (setN M 6 j 1) (i + 1)))), (3, .int (nI i)), (0, .ref y), (1, .int (nI j))]) hC.1 hC.2.1 dX6_cancel_89 rfl hl (by decide) rfl (fun ls hl => ?_)
          refine lv_iinc (v := (nI (i + 1))) (lv' := [(3, .int (nI (i + 1))), (2, .int (nI (cntN (setN M 6 j 1) (i + 1)))), (0, .ref y), (1, .int (nI j))]) hC.1 hC.2.1 dX6_cancel_90 hl (k := 1) rfl (nI_1 _) (by decide) rfl (fun ls hl => ?_)
          refine lv_goto (tgt := 65) hC.1 hC.2.1 dX6_cancel_93 (by decide) ?_
          exact hk ls ⟨⟨hl.1, hl.2.1, (ec_lvc (lv_at hl 1 rfl) (ec_lvc (lv_at hl 0 rfl) (ec_lvc (lv_at hl 2 rfl) (ec_lvc (lv_at hl 3 rfl) ec_lvn))))⟩, trivial⟩
        · refine lv_iconst (v := 0) hC.1 hC.2.1 dX6_cancel_83 (by decide) ?_
          refine lv_goto (tgt := 88) hC.1 hC.2.1 dX6_cancel_84 (by decide) ?_
          have e9 : cntN (setN M 6 j 1) (i + 1) = cntN (setN M 6 j 1) i + 0 := by rw [cntN_s, if_neg (fun z => c_80 (by rw [z]; rfl))]
          refine lv_iadd hC.1 hC.2.1 dX6_cancel_88 ?_
          refine ec_topi (y := nI (cntN (setN M 6 j 1) (i + 1))) (by rw [e9]; exact nI_add _ 0) ?_
          refine lv_istore_n (lv' := [(2, .int (nI (cntN (setN M 6 j 1) (i + 1)))), (3, .int (nI i)), (0, .ref y), (1, .int (nI j))]) hC.1 hC.2.1 dX6_cancel_89 rfl hl (by decide) rfl (fun ls hl => ?_)
          refine lv_iinc (v := (nI (i + 1))) (lv' := [(3, .int (nI (i + 1))), (2, .int (nI (cntN (setN M 6 j 1) (i + 1)))), (0, .ref y), (1, .int (nI j))]) hC.1 hC.2.1 dX6_cancel_90 hl (k := 1) rfl (nI_1 _) (by decide) rfl (fun ls hl => ?_)
          refine lv_goto (tgt := 65) hC.1 hC.2.1 dX6_cancel_93 (by decide) ?_
          exact hk ls ⟨⟨hl.1, hl.2.1, (ec_lvc (lv_at hl 1 rfl) (ec_lvc (lv_at hl 0 rfl) (ec_lvc (lv_at hl 2 rfl) (ec_lvc (lv_at hl 3 rfl) ec_lvn))))⟩, trivial⟩
    · refine lv_iconst (v := 0) hC.1 hC.2.1 dX6_cancel_52 (by decide) ?_
      exact W.iret hC.1 hC.2.1 hr (fun t9 ht9 _ => ⟨_, rfl, by rw [ht9]; exact ⟨_, rfl, fun z => absurd z (fun z => c_49 (fz_0.mpr z)), (by rw [if_neg (fun z => c_49 (fz_0.mpr z))]; exact hx)⟩, hS.F ht9⟩) hS.2.2 dX6_cancel_53
  · refine lv_aload_n hC.1 hC.2.1 dX6_cancel_0 rfl (lv_at hl 0 rfl) ?_
    refine lv_iload_n hC.1 hC.2.1 dX6_cancel_1 rfl (lv_at hl 1 rfl) ?_
    refine lv_iconst (v := 0) hC.1 hC.2.1 dX6_cancel_2 (by decide) ?_
    refine lv_aload_n hC.1 hC.2.1 dX6_cancel_3 rfl (lv_at hl 0 rfl) ?_
    refine ec_get hC hK hx.1 fX6_143 rfl dX6_cancel_4 ?_
    refine lv_iconst (v := 1) hC.1 hC.2.1 dX6_cancel_7 (by decide) ?_
    refine lv_isub hC.1 hC.2.1 dX6_cancel_8 ?_
    refine ec_go1 (ec_rS hC (c_X6_in l G b 0 (nI (mnB M) - 1)) kX6_73 (hOk.at hS hAN) trivial hl.1 ⟨Nat.le_of_ble_eq_true rfl, Nat.le_of_ble_eq_true rfl⟩ rfl (Nat.le_of_ble_eq_true rfl) dX6_cancel_9 ⟨Nat.le_of_ble_eq_true rfl, Nat.le_of_ble_eq_true rfl⟩) ?_
    refine ec_topi (y := bI (ixB b (mnB M))) (by rw [rg_ix (by omega)]) ?_
    refine lv_if_ne (tgt := 19) hC.1 hC.2.1 dX6_cancel_12 (by decide) (fun c_12 => ?_) (fun c_12 => ?_)
    · obtain ⟨j, hj, hbj⟩ := ixB_t (n := mnB M) (by omega) ((bI_n0 _).mp c_12)
      have hjc : cN b = j := by rw [hbj]; exact nI_clamp (by omega)
      refine lv_aload_n hC.1 hC.2.1 dX6_cancel_19 rfl (lv_at hl 0 rfl) ?_
      refine ec_get hC hK hx.1 fX6_63 rfl dX6_cancel_20 ?_
      refine lv_iload_n hC.1 hC.2.1 dX6_cancel_23 rfl (lv_at hl 1 rfl) ?_
      refine ec_zald hC hK (hx.2.1 16 (by decide)) j hbj (by omega) (by omega) dX6_cancel_24 ?_
      refine lv_if_ne (tgt := 41) hC.1 hC.2.1 dX6_cancel_25 (by decide) (fun c_25 => ?_) (fun c_25 => ?_)
      · refine lv_iconst (v := 2) hC.1 hC.2.1 dX6_cancel_41 (by decide) ?_
        refine lv_goto (tgt := 46) hC.1 hC.2.1 dX6_cancel_42 (by decide) ?_
        refine ec_topi (y := (nI (thCan M b))) (by rw [show thCan M b = 2 by simp [thCan, (bI_n0 _).mp c_12, (show ¬ M.1 6 j = 0 from fun z => c_25 (by rw [z]; rfl)), hjc]]; rfl) ?_
        exact kj
      · refine lv_aload_n hC.1 hC.2.1 dX6_cancel_28 rfl (lv_at hl 0 rfl) ?_
        refine ec_get hC hK hx.1 fX6_57 rfl dX6_cancel_29 ?_
        refine lv_iload_n hC.1 hC.2.1 dX6_cancel_32 rfl (lv_at hl 1 rfl) ?_
        refine ec_iald hC hK (hx.2.1 14 (by decide)) j hbj (by omega) (by omega) dX6_cancel_33 ?_
        refine lv_aload_n hC.1 hC.2.1 dX6_cancel_34 rfl (lv_at hl 0 rfl) ?_
        refine ec_get hC hK hx.1 fX6_108 rfl dX6_cancel_35 ?_
        refine lv_icmp_gt (tgt := 45) hC.1 hC.2.1 dX6_cancel_38 (by decide) (fun c_38 => ?_) (fun c_38 => ?_)
        · refine lv_iconst (v := 0) hC.1 hC.2.1 dX6_cancel_45 (by decide) ?_
          refine ec_topi (y := (nI (thCan M b))) (by rw [show thCan M b = 0 by simp [thCan, (bI_n0 _).mp c_12, ((nI_eq (a := M.1 6 j) (b := 0) (by have := hwf.gn j; omega) (by decide)).mp c_25), (show mhr M < M.2.1 7 j from c_38), hjc]]; rfl) ?_
          exact kj
        · refine lv_iconst (v := 2) hC.1 hC.2.1 dX6_cancel_41 (by decide) ?_
          refine lv_goto (tgt := 46) hC.1 hC.2.1 dX6_cancel_42 (by decide) ?_
          refine ec_topi (y := (nI (thCan M b))) (by rw [show thCan M b = 2 by simp [thCan, (bI_n0 _).mp c_12, ((nI_eq (a := M.1 6 j) (b := 0) (by have := hwf.gn j; omega) (by decide)).mp c_25), (show ¬ mhr M < M.2.1 7 j from c_38), hjc]]; rfl) ?_
          exact kj
    · refine lv_iconst (v := 1) hC.1 hC.2.1 dX6_cancel_15 (by decide) ?_
      refine lv_goto (tgt := 46) hC.1 hC.2.1 dX6_cancel_16 (by decide) ?_
      refine ec_topi (y := (nI (thCan M b))) (by rw [show thCan M b = 1 by simp [thCan, (bI_0 _).mp c_12]]; rfl) ?_
      exact kj

theorem nxN_b {M : ecM} (hwf : WF M) {r n : Nat} (hn : n ≤ mnB M) : ∀ j, nxtN M r n = some j → j < 2 ^ 31 := fun j h => by have := nxtN_lt h; have := hwf.n; omega
theorem thNxt_y {M : ecM} {j : Nat} (hj : j < mnR M) (hr : mnR M ≤ 4) : thNxt M (nI j) = if (nxtN M j (mnB M)).isSome = true then 0 else 2 := by
  unfold thNxt; rw [if_pos (ixB_of (by omega) hj), show cN (nI j) = j from nI_clamp (by omega)]

set_option maxHeartbeats 4000000 in
set_option maxRecDepth 100000 in
/-- the next booking -/
theorem c_X6_nextBooking (l : Launch) (G : ecG) (Y : Nat → Prop) (M : ecM) (th : Int32) (y : Nat) (ya : Nat → Nat) (hY : ∀ q, Y q → ecN0 G ≤ q) (hwf : WF M) (r : Int32) : Met l yX6_nextBooking (ecWs yX6_nextBooking cX6_nextBooking 5 (Option.some FieldType.int)) (ecRm 4 0 0) (ecPc [.ref y, .int r] G (fun H => rfX G Y M th y ya H)) (ecEp (fun v H1 => ∃ w : Int32, v = some (.int w) ∧ (thNxt M r = 0 → w = nI ((nxtN M (cN r) (mnB M)).getD 0)) ∧ rfX G Y M (nI (thNxt M r)) y ya H1) (Y)) 0 0 (Y) := by
  refine ec_met (by decide) (Nat.le_of_ble_eq_true rfl) ?_
  intro p e s m below meth c hC hr hlocks hname hOk hpre ls hl
  have hK := hOk.1
  have hx := hpre
  have hS : va_S (Y) s.heap s.heap [] := va_S.rf
  have hAN : ∀ q, (Y) q → ecN0 G ≤ q := hY
  have hl : lv_has ls 5 [(0, .ref y), (1, .int r)] := hl
  have hn0 := hwf.n
  refine lv_aload_n hC.1 hC.2.1 dX6_nextBooking_0 rfl (lv_at hl 0 rfl) ?_
  refine lv_iload_n hC.1 hC.2.1 dX6_nextBooking_1 rfl (lv_at hl 1 rfl) ?_
  refine ec_goE1 (ec_rV hC (c_X6_failsRoom l G Y M th y ya hY hwf r) kX6_105 (hOk.at hS hAN) hx (ec_rc hK hx.1 ⟨_, _, rfl⟩) hl.1 ⟨Nat.le_of_ble_eq_true rfl, Nat.le_of_ble_eq_true rfl⟩ rfl (Nat.le_of_ble_eq_true rfl) dX6_nextBooking_2 ⟨Nat.le_of_ble_eq_true rfl, Nat.le_of_ble_eq_true rfl⟩) hS (fun _ h => h) (fun H locs hx hz hk1 hS => ?_)
  refine lv_if_eq (tgt := 10) hC.1 hC.2.1 dX6_nextBooking_5 (by decide) (fun c_5 => ?_) (fun c_5 => ?_)
  · have hT : thR M r = 0 := fz_0.mp c_5
    obtain ⟨j, hj, rfl⟩ := ixB_t (by omega) (if_th (k := 0) hT).1
    have hjc : cN (nI j) = j := nI_clamp (by omega)
    have hT1 := hT
    have hT2 := thNxt_y hj hn0.1
    refine lv_iconst (v := -1) hC.1 hC.2.1 dX6_nextBooking_10 (by decide) ?_
    refine lv_istore_n (lv' := [(2, .int (-1)), (0, .ref y), (1, .int (nI j))]) hC.1 hC.2.1 dX6_nextBooking_11 rfl hl (by decide) rfl (fun ls hl => ?_)
    refine lv_iconst (v := 0) hC.1 hC.2.1 dX6_nextBooking_12 (by decide) ?_
    refine lv_istore_n (lv' := [(3, .int 0), (2, .int (-1)), (0, .ref y), (1, .int (nI j))]) hC.1 hC.2.1 dX6_nextBooking_13 rfl hl (by decide) rfl (fun ls hl => ?_)
    refine ec_loopR (n := mnB M) (fun i ls => lv_has ls 5 [(2, .int (oI (nxtN M j i))), (3, .int (nI i)), (0, .ref y), (1, .int (nI j))] ∧ True) ⟨⟨hl.1, hl.2.1, (ec_lvc (lv_at hl 1 rfl) (ec_lvc (lv_at hl 0 rfl) (ec_lvc (lv_at hl 2 rfl) (ec_lvc (lv_at hl 3 rfl) ec_lvn))))⟩, trivial⟩ (fun ls h9 => ?_) (fun i ls hi h9 hk => ?_)
    · obtain ⟨hl, hI⟩ := h9
      refine lv_iload_n hC.1 hC.2.1 dX6_nextBooking_14 rfl (lv_at hl 1 rfl) ?_
      refine lv_aload_n hC.1 hC.2.1 dX6_nextBooking_15 rfl (lv_at hl 2 rfl) ?_
      refine ec_get hC hK hx.1 fX6_143 rfl dX6_nextBooking_16 ?_
      refine lv_icmp_ge (tgt := 98) hC.1 hC.2.1 dX6_nextBooking_19 (by decide) (fun c_19 => ?_) (fun c => absurd (Int32.le_refl _) c)
      refine ec_join (pcj := 109) (stj := [.int (nI (thNxt M (nI j))), .ref y]) ?_ (fun kj => ?_)
      · refine ec_goE1 (ec_rV hC (c_X6_fails l G Y M _ y ya (thNxt M (nI j)) (thNxt_lt _ _) hY) kX6_81 (hOk.at hS hAN) hx (ec_rc hK hx.1 ⟨_, _, rfl⟩) hl.1 ⟨Nat.le_of_ble_eq_true rfl, Nat.le_of_ble_eq_true rfl⟩ rfl (Nat.le_of_ble_eq_true rfl) dX6_nextBooking_109 ⟨Nat.le_of_ble_eq_true rfl, Nat.le_of_ble_eq_true rfl⟩) hS (fun _ h => h) (fun H locs hx hz hk1 hS => ?_)
        refine lv_if_eq (tgt := 119) hC.1 hC.2.1 dX6_nextBooking_112 (by decide) (fun c_112 => ?_) (fun c_112 => ?_)
        · refine lv_iload_n hC.1 hC.2.1 dX6_nextBooking_119 rfl (lv_at hl 0 rfl) ?_
          have hT9 : thNxt M (nI j) = 0 := fz_0.mp c_112
          exact W.iret hC.1 hC.2.1 hr (fun t9 ht9 _ => ⟨_, rfl, by rw [ht9]; exact ⟨_, rfl, fun _ => (by rw [hjc]; exact oI_s (if_y0 (k := 1) (hT2.symm.trans hT9))), hx⟩, hS.F ht9⟩) hS.2.2 dX6_nextBooking_120
        · refine lv_iconst (v := 0) hC.1 hC.2.1 dX6_nextBooking_115 (by decide) ?_
          refine lv_goto (tgt := 120) hC.1 hC.2.1 dX6_nextBooking_116 (by decide) ?_
          exact W.iret hC.1 hC.2.1 hr (fun t9 ht9 _ => ⟨_, rfl, by rw [ht9]; exact ⟨_, rfl, fun z => absurd (fz_0.mpr z) c_112, hx⟩, hS.F ht9⟩) hS.2.2 dX6_nextBooking_120
      · refine lv_aload_n hC.1 hC.2.1 dX6_nextBooking_98 rfl (lv_at hl 2 rfl) ?_
        refine lv_iload_n hC.1 hC.2.1 dX6_nextBooking_99 rfl (lv_at hl 0 rfl) ?_
        refine lv_iconst (v := -1) hC.1 hC.2.1 dX6_nextBooking_100 (by decide) ?_
        refine lv_icmp_ne (tgt := 108) hC.1 hC.2.1 dX6_nextBooking_101 (by decide) (fun c_101 => ?_) (fun c_101 => ?_)
        · refine lv_iconst (v := 0) hC.1 hC.2.1 dX6_nextBooking_108 (by decide) ?_
          refine ec_topi (y := (nI (thNxt M (nI j)))) (by rw [hT2, if_pos (Option.isSome_iff_ne_none.mpr (fun z => c_101 ((oI_1 (nxN_b hwf (Nat.le_refl _))).mpr z)))]; rfl) ?_
          exact kj
        · refine lv_iconst (v := 2) hC.1 hC.2.1 dX6_nextBooking_104 (by decide) ?_
          refine lv_goto (tgt := 109) hC.1 hC.2.1 dX6_nextBooking_105 (by decide) ?_
          refine ec_topi (y := (nI (thNxt M (nI j)))) (by rw [hT2, (oI_1 (nxN_b hwf (Nat.le_refl _))).mp c_101]; rfl) ?_
          exact kj
    · obtain ⟨hl, hI⟩ := h9
      refine lv_iload_n hC.1 hC.2.1 dX6_nextBooking_14 rfl (lv_at hl 1 rfl) ?_
      refine lv_aload_n hC.1 hC.2.1 dX6_nextBooking_15 rfl (lv_at hl 2 rfl) ?_
      refine ec_get hC hK hx.1 fX6_143 rfl dX6_nextBooking_16 ?_
      refine lv_icmp_ge (tgt := 98) hC.1 hC.2.1 dX6_nextBooking_19 (by decide) (fun c => absurd c (fun z => Int32.lt_irrefl (Int32.lt_of_lt_of_le (nI_lt (b := mnB M) hi (by omega)) z))) (fun c_19 => ?_)
      refine ec_join (pcj := 59) (stj := [.int (bI (nxB M j i))]) ?_ (fun kj => ?_)
      · refine lv_istore (lv' := [(4, .int (bI (nxB M j i))), (2, .int (oI (nxtN M j i))), (3, .int (nI i)), (0, .ref y), (1, .int (nI j))]) hC.1 hC.2.1 dX6_nextBooking_59 hl (by decide) rfl (fun ls hl => ?_)
        refine lv_iload hC.1 hC.2.1 dX6_nextBooking_61 (lv_at hl 0 rfl) ?_
        refine lv_if_eq (tgt := 90) hC.1 hC.2.1 dX6_nextBooking_63 (by decide) (fun c_63 => ?_) (fun c_63 => ?_)
        · refine lv_iload_n hC.1 hC.2.1 dX6_nextBooking_90 rfl (lv_at hl 1 rfl) ?_
          refine lv_istore_n (lv' := [(2, .int (oI (nxtN M j i))), (4, .int (bI (nxB M j i))), (3, .int (nI i)), (0, .ref y), (1, .int (nI j))]) hC.1 hC.2.1 dX6_nextBooking_91 rfl hl (by decide) rfl (fun ls hl => ?_)
          refine lv_iinc (v := (nI (i + 1))) (lv' := [(3, .int (nI (i + 1))), (2, .int (oI (nxtN M j i))), (4, .int (bI (nxB M j i))), (0, .ref y), (1, .int (nI j))]) hC.1 hC.2.1 dX6_nextBooking_92 hl (k := 2) rfl (nI_1 _) (by decide) rfl (fun ls hl => ?_)
          refine lv_goto (tgt := 14) hC.1 hC.2.1 dX6_nextBooking_95 (by decide) ?_
          have e9 : nxtN M j (i + 1) = nxtN M j i := by
            rw [nxtN_s]
            cases hz : nxtN M j i with
            | none => exact if_neg (by rw [(bI_0 _).mp c_63]; decide)
            | some f => exact if_neg (fun z => absurd z.1 (by rw [(bI_0 _).mp c_63]; decide))
          -- 
          exact hk ls (by rw [e9]; exact ⟨⟨hl.1, hl.2.1, (ec_lvc (lv_at hl 1 rfl) (ec_lvc (lv_at hl 0 rfl) (ec_lvc (lv_at hl 3 rfl) (ec_lvc (lv_at hl 4 rfl) ec_lvn))))⟩, trivial⟩)
        · refine lv_iload_n hC.1 hC.2.1 dX6_nextBooking_66 rfl (lv_at hl 1 rfl) ?_
          refine lv_iconst (v := -1) hC.1 hC.2.1 dX6_nextBooking_67 (by decide) ?_
          refine lv_icmp_eq (tgt := 86) hC.1 hC.2.1 dX6_nextBooking_68 (by decide) (fun c_68 => ?_) (fun c_68 => ?_)
          · refine lv_iload_n hC.1 hC.2.1 dX6_nextBooking_86 rfl (lv_at hl 2 rfl) ?_
            refine lv_goto (tgt := 91) hC.1 hC.2.1 dX6_nextBooking_87 (by decide) ?_
            refine lv_istore_n (lv' := [(2, .int (nI i)), (4, .int (bI (nxB M j i))), (3, .int (nI i)), (0, .ref y), (1, .int (nI j))]) hC.1 hC.2.1 dX6_nextBooking_91 rfl hl (by decide) rfl (fun ls hl => ?_)
            refine lv_iinc (v := (nI (i + 1))) (lv' := [(3, .int (nI (i + 1))), (2, .int (nI i)), (4, .int (bI (nxB M j i))), (0, .ref y), (1, .int (nI j))]) hC.1 hC.2.1 dX6_nextBooking_92 hl (k := 2) rfl (nI_1 _) (by decide) rfl (fun ls hl => ?_)
            refine lv_goto (tgt := 14) hC.1 hC.2.1 dX6_nextBooking_95 (by decide) ?_
            have e9 : nxtN M j (i + 1) = some i := by rw [nxtN_s, (oI_1 (nxN_b hwf (by omega))).mp c_68]; exact if_pos ((bI_n0 _).mp c_63)
            -- 
            exact hk ls (by rw [e9]; exact ⟨⟨hl.1, hl.2.1, (ec_lvc (lv_at hl 1 rfl) (ec_lvc (lv_at hl 0 rfl) (ec_lvc (lv_at hl 3 rfl) (ec_lvc (lv_at hl 4 rfl) ec_lvn))))⟩, trivial⟩)
          · obtain ⟨u, hxu⟩ : ∃ u, nxtN M j i = some u := by
              rcases ec_opt (nxtN M j i) with z | z
              · exact absurd ((oI_1 (nxN_b hwf (by omega))).mpr z) c_68
              · exact z
            have hub : u < mnB M := by have := nxtN_lt hxu; omega
            have hou : oI (nxtN M j i) = nI u := by rw [hxu]; rfl
            refine lv_aload_n hC.1 hC.2.1 dX6_nextBooking_71 rfl (lv_at hl 3 rfl) ?_
            refine ec_get hC hK hx.1 fX6_57 rfl dX6_nextBooking_72 ?_
            refine lv_iload_n hC.1 hC.2.1 dX6_nextBooking_75 rfl (lv_at hl 2 rfl) ?_
            refine ec_iald hC hK (hx.2.1 14 (by decide)) i rfl (by omega) (by omega) dX6_nextBooking_76 ?_
            refine lv_aload_n hC.1 hC.2.1 dX6_nextBooking_77 rfl (lv_at hl 3 rfl) ?_
            refine ec_get hC hK hx.1 fX6_57 rfl dX6_nextBooking_78 ?_
            refine lv_iload_n hC.1 hC.2.1 dX6_nextBooking_81 rfl (lv_at hl 1 rfl) ?_
            refine ec_iald hC hK (hx.2.1 14 (by decide)) u hou (by omega) (by omega) dX6_nextBooking_82 ?_
            refine lv_icmp_ge (tgt := 90) hC.1 hC.2.1 dX6_nextBooking_83 (by decide) (fun c_83 => ?_) (fun c_83 => ?_)
            · refine lv_iload_n hC.1 hC.2.1 dX6_nextBooking_90 rfl (lv_at hl 1 rfl) ?_
              refine lv_istore_n (lv' := [(2, .int (oI (nxtN M j i))), (4, .int (bI (nxB M j i))), (3, .int (nI i)), (0, .ref y), (1, .int (nI j))]) hC.1 hC.2.1 dX6_nextBooking_91 rfl hl (by decide) rfl (fun ls hl => ?_)
              refine lv_iinc (v := (nI (i + 1))) (lv' := [(3, .int (nI (i + 1))), (2, .int (oI (nxtN M j i))), (4, .int (bI (nxB M j i))), (0, .ref y), (1, .int (nI j))]) hC.1 hC.2.1 dX6_nextBooking_92 hl (k := 2) rfl (nI_1 _) (by decide) rfl (fun ls hl => ?_)
              refine lv_goto (tgt := 14) hC.1 hC.2.1 dX6_nextBooking_95 (by decide) ?_
              have e9 : nxtN M j (i + 1) = nxtN M j i := by rw [nxtN_s, hxu]; exact if_neg (fun z => Int32.lt_irrefl (Int32.lt_of_lt_of_le z.2 c_83))
              -- 
              exact hk ls (by rw [e9]; exact ⟨⟨hl.1, hl.2.1, (ec_lvc (lv_at hl 1 rfl) (ec_lvc (lv_at hl 0 rfl) (ec_lvc (lv_at hl 3 rfl) (ec_lvc (lv_at hl 4 rfl) ec_lvn))))⟩, trivial⟩)
            · refine lv_iload_n hC.1 hC.2.1 dX6_nextBooking_86 rfl (lv_at hl 2 rfl) ?_
              refine lv_goto (tgt := 91) hC.1 hC.2.1 dX6_nextBooking_87 (by decide) ?_
              refine lv_istore_n (lv' := [(2, .int (nI i)), (4, .int (bI (nxB M j i))), (3, .int (nI i)), (0, .ref y), (1, .int (nI j))]) hC.1 hC.2.1 dX6_nextBooking_91 rfl hl (by decide) rfl (fun ls hl => ?_)
              refine lv_iinc (v := (nI (i + 1))) (lv' := [(3, .int (nI (i + 1))), (2, .int (nI i)), (4, .int (bI (nxB M j i))), (0, .ref y), (1, .int (nI j))]) hC.1 hC.2.1 dX6_nextBooking_92 hl (k := 2) rfl (nI_1 _) (by decide) rfl (fun ls hl => ?_)
              refine lv_goto (tgt := 14) hC.1 hC.2.1 dX6_nextBooking_95 (by decide) ?_
              have e9 : nxtN M j (i + 1) = some i := by rw [nxtN_s, hxu]; exact if_pos ⟨(bI_n0 _).mp c_63, Int32.not_le.mp c_83⟩
              -- 
              exact hk ls (by rw [e9]; exact ⟨⟨hl.1, hl.2.1, (ec_lvc (lv_at hl 1 rfl) (ec_lvc (lv_at hl 0 rfl) (ec_lvc (lv_at hl 3 rfl) (ec_lvc (lv_at hl 4 rfl) ec_lvn))))⟩, trivial⟩)
      · refine lv_aload_n hC.1 hC.2.1 dX6_nextBooking_22 rfl (lv_at hl 2 rfl) ?_
        refine ec_get hC hK hx.1 fX6_51 rfl dX6_nextBooking_23 ?_
        refine lv_iload_n hC.1 hC.2.1 dX6_nextBooking_26 rfl (lv_at hl 1 rfl) ?_
        refine ec_iald hC hK (hx.2.1 12 (by decide)) i rfl (by omega) (by omega) dX6_nextBooking_27 ?_
        refine lv_iload_n hC.1 hC.2.1 dX6_nextBooking_28 rfl (lv_at hl 3 rfl) ?_
        refine lv_icmp_ne (tgt := 58) hC.1 hC.2.1 dX6_nextBooking_29 (by decide) (fun c_29 => ?_) (fun c_29 => ?_)
        · refine lv_iconst (v := 0) hC.1 hC.2.1 dX6_nextBooking_58 (by decide) ?_
          refine ec_topi (y := (bI (nxB M j i))) (by rw [show nxB M j i = false by unfold nxB; rw [decide_eq_false (p := M.1 4 i = j) (fun z => c_29 (by rw [z])), Bool.and_false, Bool.false_and]]; rfl) ?_
          exact kj
        · refine lv_aload_n hC.1 hC.2.1 dX6_nextBooking_32 rfl (lv_at hl 2 rfl) ?_
          refine ec_get hC hK hx.1 fX6_63 rfl dX6_nextBooking_33 ?_
          refine lv_iload_n hC.1 hC.2.1 dX6_nextBooking_36 rfl (lv_at hl 1 rfl) ?_
          refine ec_zald hC hK (hx.2.1 16 (by decide)) i rfl (by omega) (by omega) dX6_nextBooking_37 ?_
          refine lv_if_ne (tgt := 58) hC.1 hC.2.1 dX6_nextBooking_38 (by decide) (fun c_38 => ?_) (fun c_38 => ?_)
          · refine lv_iconst (v := 0) hC.1 hC.2.1 dX6_nextBooking_58 (by decide) ?_
            refine ec_topi (y := (bI (nxB M j i))) (by rw [show nxB M j i = false by unfold nxB; rw [decide_eq_false (p := M.1 6 i = 0) (fun z => c_38 (by rw [z]; rfl)), Bool.false_and, Bool.false_and]]; rfl) ?_
            exact kj
          · refine lv_aload_n hC.1 hC.2.1 dX6_nextBooking_41 rfl (lv_at hl 2 rfl) ?_
            refine ec_get hC hK hx.1 fX6_57 rfl dX6_nextBooking_42 ?_
            refine lv_iload_n hC.1 hC.2.1 dX6_nextBooking_45 rfl (lv_at hl 1 rfl) ?_
            refine ec_iald hC hK (hx.2.1 14 (by decide)) i rfl (by omega) (by omega) dX6_nextBooking_46 ?_
            refine lv_aload_n hC.1 hC.2.1 dX6_nextBooking_47 rfl (lv_at hl 2 rfl) ?_
            refine ec_get hC hK hx.1 fX6_108 rfl dX6_nextBooking_48 ?_
            refine lv_icmp_le (tgt := 58) hC.1 hC.2.1 dX6_nextBooking_51 (by decide) (fun c_51 => ?_) (fun c_51 => ?_)
            · refine lv_iconst (v := 0) hC.1 hC.2.1 dX6_nextBooking_58 (by decide) ?_
              refine ec_topi (y := (bI (nxB M j i))) (by rw [show nxB M j i = false by unfold nxB; rw [decide_eq_false (p := mhr M < M.2.1 7 i) (Int32.not_lt.mpr c_51), Bool.and_false]]; rfl) ?_
              exact kj
            · refine lv_iconst (v := 1) hC.1 hC.2.1 dX6_nextBooking_54 (by decide) ?_
              refine lv_goto (tgt := 59) hC.1 hC.2.1 dX6_nextBooking_55 (by decide) ?_
              refine ec_topi (y := (bI (nxB M j i))) (by rw [show nxB M j i = true by unfold nxB; rw [decide_eq_true ((nI_eq (by have := hwf.bk hi; omega) (by omega)).mp c_29), decide_eq_true ((nI_eq (a := M.1 6 i) (b := 0) (by have := hwf.gn i; omega) (by decide)).mp c_38), decide_eq_true (Int32.not_le.mp c_51)]; rfl]; rfl) ?_
              exact kj
  · refine lv_iconst (v := 0) hC.1 hC.2.1 dX6_nextBooking_8 (by decide) ?_
    have hne : ¬ thR M r = 0 := fun z => c_5 (fz_0.mpr z)
    rw [← thNxt_n hne] at hx
    exact W.iret hC.1 hC.2.1 hr (fun t9 ht9 _ => ⟨_, rfl, by rw [ht9]; exact ⟨_, rfl, fun z => absurd ((thNxt_n hne).symm.trans z) hne, hx⟩, hS.F ht9⟩) hS.2.2 dX6_nextBooking_9
