theorem begM_k (M : ecM) : ∀ i, (∀ k, k ≠ 0 → (begM M i).1 k = M.1 k) ∧ (∀ k, k ≠ 0 → (begM M i).2.1 k = M.2.1 k) ∧ (begM M i).2.2 = M.2.2
  | 0 => ⟨fun _ _ => rfl, fun _ _ => rfl, rfl⟩
  | i + 1 => by
    have ih := begM_k M i
    unfold begM
    split
    · refine ⟨fun k hk => ?_, fun k hk => ?_, ih.2.2⟩
      · rw [← ih.1 k hk]; funext j; exact up2_k hk
      · rw [← ih.2.1 k hk]; funext j; exact up2_k hk
    · exact ih
theorem begM_p {M : ecM} {i : Nat} (h : M.1 6 i = 0 ∧ M.2.1 7 i = mhr M) : begM M (i + 1) = gvM (begM M i) (M.1 4 i) (M.1 5 i) := if_pos h
theorem begM_f {M : ecM} {i : Nat} (h : ¬ (M.1 6 i = 0 ∧ M.2.1 7 i = mhr M)) : begM M (i + 1) = begM M i := if_neg h
theorem begC_p {M : ecM} {i : Nat} (h : M.1 6 i = 0 ∧ M.2.1 7 i = mhr M) : begC M (i + 1) = begC M i + 1 := by
  show begC M i + _ = _
  rw [if_pos h]
theorem begC_f {M : ecM} {i : Nat} (h : ¬ (M.1 6 i = 0 ∧ M.2.1 7 i = mhr M)) : begC M (i + 1) = begC M i := by
  show begC M i + _ = _
  rw [if_neg h]; rfl
theorem begC_le (M : ecM) : ∀ i, begC M i ≤ i
  | 0 => Nat.le_refl 0
  | i + 1 => by
    have ih := begC_le M i
    by_cases h : M.1 6 i = 0 ∧ M.2.1 7 i = mhr M
    · rw [begC_p h]; omega
    · rw [begC_f h]; omega

set_option maxHeartbeats 4000000 in
set_option maxRecDepth 100000 in
/-- the bookings of the hour begin -/
theorem c_X5_beginBookings (l : Launch) (G : ecG) (X : Nat → Prop) (M : ecM) (tg : Nat → Nat) (ad : Nat → Nat → Nat) (hX : ∀ q, X q → ecN0 G ≤ q) : Met l yX5_beginBookings (ecWs yX5_beginBookings cX5_beginBookings 4 (Option.some FieldType.int)) (ecRm 4 0 0) (ecPc [.ref (ad 0 0)] G (fun H => ecO G X M tg ad H)) (ecEp (fun v H1 => v = some (.int (nI (begC M (mnB M)))) ∧ ∃ ad1, ad1 0 0 = ad 0 0 ∧ ecO G X (begM M (mnB M)) tg ad1 H1) (X)) 0 0 (X) := by
  refine ec_met (by decide) (Nat.le_of_ble_eq_true rfl) ?_
  intro p e s m below meth c hC hr hlocks hname hOk hpre ls hl
  have hK := hOk.1
  have hw := hpre
  have hS : va_S (X) s.heap s.heap [] := va_S.rf
  have hAN : ∀ q, (X) q → ecN0 G ≤ q := hX
  have hl : lv_has ls 4 [(0, .ref (ad 0 0))] := hl
  have hwf := hw.wf
  refine lv_iconst (v := 0) hC.1 hC.2.1 dX5_beginBookings_0 (by decide) ?_
  refine lv_istore_n (lv' := [(1, .int 0), (0, .ref (ad 0 0))]) hC.1 hC.2.1 dX5_beginBookings_1 rfl hl (by decide) rfl (fun ls hl => ?_)
  refine lv_iconst (v := 0) hC.1 hC.2.1 dX5_beginBookings_2 (by decide) ?_
  refine lv_istore_n (lv' := [(2, .int 0), (1, .int 0), (0, .ref (ad 0 0))]) hC.1 hC.2.1 dX5_beginBookings_3 rfl hl (by decide) rfl (fun ls hl => ?_)
  refine ec_loop (n := mnB M) (fun i H locs ls => lv_has ls 4 [(1, .int (nI (begC M i))), (2, .int (nI i)), (0, .ref (ad 0 0))] ∧ ∃ ad1 : Nat → Nat → Nat, ad1 0 0 = ad 0 0 ∧ ecO G X (begM M i) tg ad1 H ∧ va_S X s.heap H locs) ⟨⟨hl.1, hl.2.1, (ec_lvc (lv_at hl 1 rfl) (ec_lvc (lv_at hl 0 rfl) (ec_lvc (lv_at hl 2 rfl) ec_lvn)))⟩, ⟨ad, rfl, hw, hS⟩⟩ (fun H locs ls h9 => ?_) (fun i H locs ls hi h9 hk => ?_)
  · obtain ⟨hl, hI⟩ := h9
    obtain ⟨ad, h00, hw, hS⟩ := hI
    rw [← h00] at hl
    have hlab : ecA G (ad 0 0) (eO 5 [.ref (ad 1 0), .ref (ad 1 1), .ref (ad 1 2), .ref (ad 1 3), .int (mhr M), .int (mlm M)]) H := by
      have z := hw.1.1
      unfold ecLb at z
      rw [show mhr (begM M (mnB M)) = mhr M from congrFun ((begM_k M (mnB M)).2.1 9 (by decide)) 0, show mlm (begM M (mnB M)) = mlm M from congrFun ((begM_k M (mnB M)).2.1 9 (by decide)) 1] at z
      exact z
    have hls3 : ecLt G X tg H (ad 1 3) (ad 2 3) 3 (M.1 7 3) (ad (ecKd 3)) := by
      have z := hw.2.1 3 (by decide)
      rw [(begM_k M (mnB M)).1 7 (by decide)] at z
      exact z
    refine lv_iload_n hC.1 hC.2.1 dX5_beginBookings_4 rfl (lv_at hl 1 rfl) ?_
    refine lv_aload_n hC.1 hC.2.1 dX5_beginBookings_5 rfl (lv_at hl 2 rfl) ?_
    refine ec_get hC hK hlab fX5_22 rfl dX5_beginBookings_6 ?_
    obtain ⟨v0_z1, v1_z1, hL_z1⟩ := hls3.obj
    refine ec_go1 (ec_rV hC (c_Jx4a65c_size_8abf5 l G (ad 1 3) v0_z1 v1_z1 (nI (M.1 7 3))) kX5_32 (hOk.at hS hAN) hL_z1.1 (ec_rc hK hL_z1.1 ⟨_, _, rfl⟩) hl.1 ⟨Nat.le_of_ble_eq_true rfl, Nat.le_of_ble_eq_true rfl⟩ rfl (Nat.le_of_ble_eq_true rfl) dX5_beginBookings_9 ⟨Nat.le_of_ble_eq_true rfl, Nat.le_of_ble_eq_true rfl⟩) ?_
    refine lv_icmp_ge (tgt := 66) hC.1 hC.2.1 dX5_beginBookings_12 (by decide) (fun c_12 => ?_) (fun c => absurd (Int32.le_refl _) c)
    refine lv_iload_n hC.1 hC.2.1 dX5_beginBookings_66 rfl (lv_at hl 0 rfl) ?_
    exact W.iret hC.1 hC.2.1 hr (fun t9 ht9 _ => ⟨_, rfl, by rw [ht9]; exact ⟨rfl, ad, h00, hw⟩, hS.F ht9⟩) hS.2.2 dX5_beginBookings_67
  · obtain ⟨hl, hI⟩ := h9
    obtain ⟨ad, h00, hw, hS⟩ := hI
    rw [← h00] at hl
    have hlab : ecA G (ad 0 0) (eO 5 [.ref (ad 1 0), .ref (ad 1 1), .ref (ad 1 2), .ref (ad 1 3), .int (mhr M), .int (mlm M)]) H := by
      have z := hw.1.1
      unfold ecLb at z
      rw [show mhr (begM M i) = mhr M from congrFun ((begM_k M i).2.1 9 (by decide)) 0, show mlm (begM M i) = mlm M from congrFun ((begM_k M i).2.1 9 (by decide)) 1] at z
      exact z
    have hls3 : ecLt G X tg H (ad 1 3) (ad 2 3) 3 (M.1 7 3) (ad (ecKd 3)) := by
      have z := hw.2.1 3 (by decide)
      rw [(begM_k M i).1 7 (by decide)] at z
      exact z
    have hb : ecT G X tg H (ad 11 i) (704 + i) (eO 1 [.int (nI i), .ref (ad 3 (M.1 4 i)), .ref (ad 12 i), .int (M.2.1 7 i), .int (M.2.1 8 i), .int (nI (M.1 6 i))]) ∧ ecT G X tg H (ad 12 i) 0 (eO 4 (stL (M.1 5 i))) := by
      have z := hw.2.2.2.2.2.1 i (by show i < (begM M i).1 7 3; rw [(begM_k M i).1 7 (by decide)]; exact hi)
      rw [(begM_k M i).1 4 (by decide), (begM_k M i).1 5 (by decide), (begM_k M i).1 6 (by decide), (begM_k M i).2.1 7 (by decide), (begM_k M i).2.1 8 (by decide)] at z
      exact z
    have hbw : M.1 4 i < mnR (begM M i) ∧ M.1 5 i < 80 := by
      have z := hwf.bk hi
      refine ⟨?_, z.2.1⟩
      show _ < (begM M i).1 7 0
      rw [(begM_k M i).1 7 (by decide)]; exact z.1
    refine lv_iload_n hC.1 hC.2.1 dX5_beginBookings_4 rfl (lv_at hl 1 rfl) ?_
    refine lv_aload_n hC.1 hC.2.1 dX5_beginBookings_5 rfl (lv_at hl 2 rfl) ?_
    refine ec_get hC hK hlab fX5_22 rfl dX5_beginBookings_6 ?_
    obtain ⟨v0_z2, v1_z2, hL_z2⟩ := hls3.obj
    refine ec_go1 (ec_rV hC (c_Jx4a65c_size_8abf5 l G (ad 1 3) v0_z2 v1_z2 (nI (M.1 7 3))) kX5_32 (hOk.at hS hAN) hL_z2.1 (ec_rc hK hL_z2.1 ⟨_, _, rfl⟩) hl.1 ⟨Nat.le_of_ble_eq_true rfl, Nat.le_of_ble_eq_true rfl⟩ rfl (Nat.le_of_ble_eq_true rfl) dX5_beginBookings_9 ⟨Nat.le_of_ble_eq_true rfl, Nat.le_of_ble_eq_true rfl⟩) ?_
    refine lv_icmp_ge (tgt := 66) hC.1 hC.2.1 dX5_beginBookings_12 (by decide) (fun c => absurd c (fun z => Int32.lt_irrefl (Int32.lt_of_lt_of_le (nI_lt (b := mnB M) hi (by have := hwf.n; omega)) z))) (fun c_12 => ?_)
    refine lv_aload_n hC.1 hC.2.1 dX5_beginBookings_15 rfl (lv_at hl 2 rfl) ?_
    refine ec_get hC hK hlab fX5_22 rfl dX5_beginBookings_16 ?_
    refine lv_iload_n hC.1 hC.2.1 dX5_beginBookings_19 rfl (lv_at hl 1 rfl) ?_
    obtain ⟨v0_g3, cap_g3, g_g3, hc_g3, hn_g3, hL_g3, hD_g3, hg_g3⟩ := hls3.el (i := i) hi
    refine ec_go1 (ec_rV hC (c_Jx4a65c_get_915e3 l G (ad 1 3) (ad 2 3) i (M.1 7 3) cap_g3 v0_g3 g_g3 hi hn_g3 (by omega)) kX5_131 (hOk.at hS hAN) ⟨hL_g3, hD_g3⟩ (ec_rc hK hL_g3 ⟨_, _, rfl⟩) hl.1 ⟨Nat.le_of_ble_eq_true rfl, Nat.le_of_ble_eq_true rfl⟩ rfl (Nat.le_of_ble_eq_true rfl) dX5_beginBookings_20 ⟨Nat.le_of_ble_eq_true rfl, Nat.le_of_ble_eq_true rfl⟩) ?_
    refine ec_topv (y := .ref (ad 11 i)) (by rw [hg_g3]; rfl) ?_
    refine ec_cast hC hK hb.1.1 ⟨_, _, rfl⟩ nX5_207.1 dX5_beginBookings_23 ?_
    refine lv_astore_n (lv' := [(3, .ref (ad 11 i)), (1, .int (nI (begC M i))), (2, .int (nI i)), (0, .ref (ad 0 0))]) hC.1 hC.2.1 dX5_beginBookings_26 rfl hl (by decide) rfl (fun ls hl => ?_)
    refine lv_aload_n hC.1 hC.2.1 dX5_beginBookings_27 rfl (lv_at hl 0 rfl) ?_
    refine ec_get hC hK hb.1.1 fX5_222 rfl dX5_beginBookings_28 ?_
    refine lv_if_ne (tgt := 60) hC.1 hC.2.1 dX5_beginBookings_31 (by decide) (fun c_31 => ?_) (fun c_31 => ?_)
    · refine lv_iinc (v := (nI (i + 1))) (lv' := [(2, .int (nI (i + 1))), (3, .ref (ad 11 i)), (1, .int (nI (begC M i))), (0, .ref (ad 0 0))]) hC.1 hC.2.1 dX5_beginBookings_60 hl (k := 2) rfl (nI_1 _) (by decide) rfl (fun ls hl => ?_)
      refine lv_goto (tgt := 4) hC.1 hC.2.1 dX5_beginBookings_63 (by decide) ?_
      have hcd : ¬ (M.1 6 i = 0 ∧ M.2.1 7 i = mhr M) := fun z => c_31 (by rw [z.1]; rfl)
      rw [← begM_f hcd] at hw
      rw [← begC_f hcd, h00] at hl
      exact hk H locs ls ⟨⟨hl.1, hl.2.1, (ec_lvc (lv_at hl 2 rfl) (ec_lvc (lv_at hl 0 rfl) (ec_lvc (lv_at hl 3 rfl) ec_lvn)))⟩, ⟨ad, h00, hw, hS⟩⟩
    · refine lv_aload_n hC.1 hC.2.1 dX5_beginBookings_34 rfl (lv_at hl 0 rfl) ?_
      refine ec_get hC hK hb.1.1 fX5_225 rfl dX5_beginBookings_35 ?_
      refine lv_aload_n hC.1 hC.2.1 dX5_beginBookings_38 rfl (lv_at hl 3 rfl) ?_
      refine ec_get hC hK hlab fX5_25 rfl dX5_beginBookings_39 ?_
      refine lv_icmp_ne (tgt := 60) hC.1 hC.2.1 dX5_beginBookings_42 (by decide) (fun c_42 => ?_) (fun c_42 => ?_)
      · refine lv_iinc (v := (nI (i + 1))) (lv' := [(2, .int (nI (i + 1))), (3, .ref (ad 11 i)), (1, .int (nI (begC M i))), (0, .ref (ad 0 0))]) hC.1 hC.2.1 dX5_beginBookings_60 hl (k := 2) rfl (nI_1 _) (by decide) rfl (fun ls hl => ?_)
        refine lv_goto (tgt := 4) hC.1 hC.2.1 dX5_beginBookings_63 (by decide) ?_
        have hcd : ¬ (M.1 6 i = 0 ∧ M.2.1 7 i = mhr M) := fun z => c_42 z.2
        rw [← begM_f hcd] at hw
        rw [← begC_f hcd, h00] at hl
        exact hk H locs ls ⟨⟨hl.1, hl.2.1, (ec_lvc (lv_at hl 2 rfl) (ec_lvc (lv_at hl 0 rfl) (ec_lvc (lv_at hl 3 rfl) ec_lvn)))⟩, ⟨ad, h00, hw, hS⟩⟩
      · refine lv_aload_n hC.1 hC.2.1 dX5_beginBookings_45 rfl (lv_at hl 0 rfl) ?_
        refine ec_get hC hK hb.1.1 fX5_274 rfl dX5_beginBookings_46 ?_
        refine lv_aload_n hC.1 hC.2.1 dX5_beginBookings_49 rfl (lv_at hl 0 rfl) ?_
        refine ec_get hC hK hb.1.1 fX5_275 rfl dX5_beginBookings_50 ?_
        refine ec_goE1 (ec_rV hC (c_X3_take l G (ad 3 (M.1 4 i)) (ad 4 (M.1 4 i)) (ad 12 i) ((begM M i).1 0 (M.1 4 i)) (M.1 5 i) ((begM M i).2.1 0 (M.1 4 i)) (hX _ (hw.2.2.1 _ hbw.1).1.2.2) (hw.wf.rs _) hbw.2) kX5_65 (hOk.at hS hAN) ⟨(hw.ro hbw.1).1, (hw.ro hbw.1).2, hb.2.1⟩ (ec_rc hK (hw.ro hbw.1).1 ⟨_, _, rfl⟩) hl.1 ⟨Nat.le_of_ble_eq_true rfl, Nat.le_of_ble_eq_true rfl⟩ rfl (Nat.le_of_ble_eq_true rfl) dX5_beginBookings_53 ⟨Nat.le_of_ble_eq_true rfl, Nat.le_of_ble_eq_true rfl⟩) hS (fun z h => by rw [h]; exact (hw.2.2.1 _ hbw.1).1.2.2) (fun H locs hp hz hk1 hS => ?_)
        have hcd : M.1 6 i = 0 ∧ M.2.1 7 i = mhr M := ⟨(nI_eq (b := 0) (by have := hwf.gn i; omega) (by decide)).mp c_31, c_42⟩
        have hw := hw.setRoom hbw.1 hbw.2 hb.2 hp (fun x hx hn => hk1 x hx hn)
        rw [← begM_p hcd] at hw
        refine lv_pop hC.1 hC.2.1 dX5_beginBookings_56 rfl ?_
        refine lv_iinc (v := (nI ((begC M i) + 1))) (lv' := [(1, .int (nI ((begC M i) + 1))), (3, .ref (ad 11 i)), (2, .int (nI i)), (0, .ref (ad 0 0))]) hC.1 hC.2.1 dX5_beginBookings_57 hl (k := 1) rfl (nI_1 _) (by decide) rfl (fun ls hl => ?_)
        refine lv_iinc (v := (nI (i + 1))) (lv' := [(2, .int (nI (i + 1))), (1, .int (nI ((begC M i) + 1))), (3, .ref (ad 11 i)), (0, .ref (ad 0 0))]) hC.1 hC.2.1 dX5_beginBookings_60 hl (k := 2) rfl (nI_1 _) (by decide) rfl (fun ls hl => ?_)
        refine lv_goto (tgt := 4) hC.1 hC.2.1 dX5_beginBookings_63 (by decide) ?_
        rw [← begC_p hcd, h00] at hl
        exact hk H locs ls ⟨⟨hl.1, hl.2.1, (ec_lvc (lv_at hl 1 rfl) (ec_lvc (lv_at hl 0 rfl) (ec_lvc (lv_at hl 3 rfl) ec_lvn)))⟩, ⟨up2 ad 4 (M.1 4 i) (ad 12 i), h00, hw, hS⟩⟩
