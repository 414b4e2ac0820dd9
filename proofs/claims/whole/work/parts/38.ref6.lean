set_option maxHeartbeats 4000000 in
set_option maxRecDepth 100000 in
/-- statesMeasured -/
theorem c_X6_statesMeasured (l : Launch) (G : ecG) (Y : Nat → Prop) (M : ecM) (th : Int32) (y : Nat) (ya : Nat → Nat) (hY : ∀ q, Y q → ecN0 G ≤ q) (hwf : WF M) (r : Int32) : Met l yX6_statesMeasured (ecWs yX6_statesMeasured cX6_statesMeasured 6 (Option.some FieldType.int)) (ecRm 4 0 0) (ecPc [.ref y, .int r] G (fun H => rfX G Y M th y ya H)) (ecEp (fun v H1 => ∃ w : Int32, v = some (.int w) ∧ (thR M r = 0 → w = nI (smN M (cN r) (mnA M))) ∧ rfX G Y M (nI (thR M r)) y ya H1) (Y)) 0 0 (Y) := by
  refine ec_met (by decide) (Nat.le_of_ble_eq_true rfl) ?_
  intro p e s m below meth c hC hr hlocks hname hOk hpre ls hl
  have hK := hOk.1
  have hx := hpre
  have hS : va_S (Y) s.heap s.heap [] := va_S.rf
  have hAN : ∀ q, (Y) q → ecN0 G ≤ q := hY
  have hl : lv_has ls 6 [(0, .ref y), (1, .int r)] := hl
  have hn0 := hwf.n
  refine lv_aload_n hC.1 hC.2.1 dX6_statesMeasured_0 rfl (lv_at hl 0 rfl) ?_
  refine lv_iload_n hC.1 hC.2.1 dX6_statesMeasured_1 rfl (lv_at hl 1 rfl) ?_
  refine ec_goE1 (ec_rV hC (c_X6_failsRoom l G Y M th y ya hY hwf r) kX6_105 (hOk.at hS hAN) hx (ec_rc hK hx.1 ⟨_, _, rfl⟩) hl.1 ⟨Nat.le_of_ble_eq_true rfl, Nat.le_of_ble_eq_true rfl⟩ rfl (Nat.le_of_ble_eq_true rfl) dX6_statesMeasured_2 ⟨Nat.le_of_ble_eq_true rfl, Nat.le_of_ble_eq_true rfl⟩) hS (fun _ h => h) (fun H locs hx hz hk1 hS => ?_)
  refine lv_if_eq (tgt := 10) hC.1 hC.2.1 dX6_statesMeasured_5 (by decide) (fun c_5 => ?_) (fun c_5 => ?_)
  · have hT : thR M r = 0 := fz_0.mp c_5
    obtain ⟨j, hj, rfl⟩ := ixB_t (by omega) (if_th (k := 0) hT).1
    have hjc : cN (nI j) = j := nI_clamp (by omega)
    refine lv_iconst (v := 0) hC.1 hC.2.1 dX6_statesMeasured_10 (by decide) ?_
    refine lv_istore_n (lv' := [(2, .int 0), (0, .ref y), (1, .int (nI j))]) hC.1 hC.2.1 dX6_statesMeasured_11 rfl hl (by decide) rfl (fun ls hl => ?_)
    refine lv_iconst (v := 0) hC.1 hC.2.1 dX6_statesMeasured_12 (by decide) ?_
    refine lv_istore_n (lv' := [(3, .int 0), (2, .int 0), (0, .ref y), (1, .int (nI j))]) hC.1 hC.2.1 dX6_statesMeasured_13 rfl hl (by decide) rfl (fun ls hl => ?_)
    refine ec_loopR (n := mnA M) (fun i ls => lv_has ls 6 [(2, .int (nI (smN M j i))), (3, .int (nI i)), (0, .ref y), (1, .int (nI j))] ∧ True) ⟨⟨hl.1, hl.2.1, (ec_lvc (lv_at hl 1 rfl) (ec_lvc (lv_at hl 0 rfl) (ec_lvc (lv_at hl 2 rfl) (ec_lvc (lv_at hl 3 rfl) ec_lvn))))⟩, trivial⟩ (fun ls h9 => ?_) (fun i ls hi h9 hk => ?_)
    · obtain ⟨hl, hI⟩ := h9
      refine lv_iload_n hC.1 hC.2.1 dX6_statesMeasured_14 rfl (lv_at hl 1 rfl) ?_
      refine lv_aload_n hC.1 hC.2.1 dX6_statesMeasured_15 rfl (lv_at hl 2 rfl) ?_
      refine ec_get hC hK hx.1 fX6_84 rfl dX6_statesMeasured_16 ?_
      refine lv_icmp_ge (tgt := 112) hC.1 hC.2.1 dX6_statesMeasured_19 (by decide) (fun c_19 => ?_) (fun c => absurd (Int32.le_refl _) c)
      refine lv_iload_n hC.1 hC.2.1 dX6_statesMeasured_112 rfl (lv_at hl 0 rfl) ?_
      exact W.iret hC.1 hC.2.1 hr (fun t9 ht9 _ => ⟨_, rfl, by rw [ht9]; exact ⟨_, rfl, fun _ => (by rw [hjc]), hx⟩, hS.F ht9⟩) hS.2.2 dX6_statesMeasured_113
    · obtain ⟨hl, hI⟩ := h9
      refine lv_iload_n hC.1 hC.2.1 dX6_statesMeasured_14 rfl (lv_at hl 1 rfl) ?_
      refine lv_aload_n hC.1 hC.2.1 dX6_statesMeasured_15 rfl (lv_at hl 2 rfl) ?_
      refine ec_get hC hK hx.1 fX6_84 rfl dX6_statesMeasured_16 ?_
      refine lv_icmp_ge (tgt := 112) hC.1 hC.2.1 dX6_statesMeasured_19 (by decide) (fun c => absurd c (fun z => Int32.lt_irrefl (Int32.lt_of_lt_of_le (nI_lt (b := mnA M) hi (by omega)) z))) (fun c_19 => ?_)
      refine lv_aload_n hC.1 hC.2.1 dX6_statesMeasured_22 rfl (lv_at hl 2 rfl) ?_
      refine ec_get hC hK hx.1 fX6_20 rfl dX6_statesMeasured_23 ?_
      refine lv_iload_n hC.1 hC.2.1 dX6_statesMeasured_26 rfl (lv_at hl 1 rfl) ?_
      refine ec_iald hC hK (hx.2.1 2 (by decide)) i rfl (by omega) (by omega) dX6_statesMeasured_27 ?_
      refine lv_iload_n hC.1 hC.2.1 dX6_statesMeasured_28 rfl (lv_at hl 3 rfl) ?_
      refine lv_icmp_ne (tgt := 36) hC.1 hC.2.1 dX6_statesMeasured_29 (by decide) (fun c_29 => ?_) (fun c_29 => ?_)
      · refine lv_iconst (v := 0) hC.1 hC.2.1 dX6_statesMeasured_36 (by decide) ?_
        refine ec_topi (y := bI (decide (M.1 1 i = j) && frN M i 0)) (by rw [decide_eq_false (fun z => c_29 (by rw [z]))]; rfl) ?_
        refine lv_istore (lv' := [(4, .int (bI (decide (M.1 1 i = j) && frN M i 0))), (2, .int (nI (smN M j i))), (3, .int (nI i)), (0, .ref y), (1, .int (nI j))]) hC.1 hC.2.1 dX6_statesMeasured_37 hl (by decide) rfl (fun ls hl => ?_)
        refine lv_iconst (v := 0) hC.1 hC.2.1 dX6_statesMeasured_39 (by decide) ?_
        refine lv_istore (lv' := [(5, .int 0), (4, .int (bI (decide (M.1 1 i = j) && frN M i 0))), (2, .int (nI (smN M j i))), (3, .int (nI i)), (0, .ref y), (1, .int (nI j))]) hC.1 hC.2.1 dX6_statesMeasured_40 hl (by decide) rfl (fun ls hl => ?_)
        refine ec_loopR (n := i) (fun q ls => lv_has ls 6 [(4, .int (bI (decide (M.1 1 i = j) && frN M i q))), (5, .int (nI q)), (2, .int (nI (smN M j i))), (3, .int (nI i)), (0, .ref y), (1, .int (nI j))] ∧ True) ⟨⟨hl.1, hl.2.1, (ec_lvc (lv_at hl 1 rfl) (ec_lvc (lv_at hl 0 rfl) (ec_lvc (lv_at hl 2 rfl) (ec_lvc (lv_at hl 3 rfl) (ec_lvc (lv_at hl 4 rfl) (ec_lvc (lv_at hl 5 rfl) ec_lvn))))))⟩, trivial⟩ (fun ls h9 => ?_) (fun q ls hq h9 hkq => ?_)
        · obtain ⟨hl, hI⟩ := h9
          refine lv_iload hC.1 hC.2.1 dX6_statesMeasured_42 (lv_at hl 1 rfl) ?_
          refine lv_iload_n hC.1 hC.2.1 dX6_statesMeasured_44 rfl (lv_at hl 3 rfl) ?_
          refine lv_icmp_ge (tgt := 93) hC.1 hC.2.1 dX6_statesMeasured_45 (by decide) (fun c_45 => ?_) (fun c => absurd (Int32.le_refl _) c)
          refine lv_iload_n hC.1 hC.2.1 dX6_statesMeasured_93 rfl (lv_at hl 2 rfl) ?_
          refine lv_iload hC.1 hC.2.1 dX6_statesMeasured_94 (lv_at hl 0 rfl) ?_
          refine lv_if_eq (tgt := 103) hC.1 hC.2.1 dX6_statesMeasured_96 (by decide) (fun c_96 => ?_) (fun c_96 => ?_)
          · refine lv_iconst (v := 0) hC.1 hC.2.1 dX6_statesMeasured_103 (by decide) ?_
            have e9 : smN M j (i + 1) = smN M j i + 0 := by rw [smN_s, (bI_0 _).mp c_96]; rfl
            refine lv_iadd hC.1 hC.2.1 dX6_statesMeasured_104 ?_
            refine ec_topi (y := nI (smN M j (i + 1))) (by rw [e9]; exact nI_add _ 0) ?_
            refine lv_istore_n (lv' := [(2, .int (nI (smN M j (i + 1)))), (4, .int (bI (decide (M.1 1 i = j) && frN M i i))), (5, .int (nI i)), (3, .int (nI i)), (0, .ref y), (1, .int (nI j))]) hC.1 hC.2.1 dX6_statesMeasured_105 rfl hl (by decide) rfl (fun ls hl => ?_)
            refine lv_iinc (v := (nI (i + 1))) (lv' := [(3, .int (nI (i + 1))), (2, .int (nI (smN M j (i + 1)))), (4, .int (bI (decide (M.1 1 i = j) && frN M i i))), (5, .int (nI i)), (0, .ref y), (1, .int (nI j))]) hC.1 hC.2.1 dX6_statesMeasured_106 hl (k := 3) rfl (nI_1 _) (by decide) rfl (fun ls hl => ?_)
            refine lv_goto (tgt := 14) hC.1 hC.2.1 dX6_statesMeasured_109 (by decide) ?_
            exact hk ls ⟨⟨hl.1, hl.2.1, (ec_lvc (lv_at hl 1 rfl) (ec_lvc (lv_at hl 0 rfl) (ec_lvc (lv_at hl 4 rfl) (ec_lvc (lv_at hl 5 rfl) ec_lvn))))⟩, trivial⟩
          · refine lv_iconst (v := 1) hC.1 hC.2.1 dX6_statesMeasured_99 (by decide) ?_
            refine lv_goto (tgt := 104) hC.1 hC.2.1 dX6_statesMeasured_100 (by decide) ?_
            have e9 : smN M j (i + 1) = smN M j i + 1 := by rw [smN_s, (bI_n0 _).mp c_96]; rfl
            refine lv_iadd hC.1 hC.2.1 dX6_statesMeasured_104 ?_
            refine ec_topi (y := nI (smN M j (i + 1))) (by rw [e9]; exact nI_add _ 1) ?_
            refine lv_istore_n (lv' := [(2, .int (nI (smN M j (i + 1)))), (4, .int (bI (decide (M.1 1 i = j) && frN M i i))), (5, .int (nI i)), (3, .int (nI i)), (0, .ref y), (1, .int (nI j))]) hC.1 hC.2.1 dX6_statesMeasured_105 rfl hl (by decide) rfl (fun ls hl => ?_)
            refine lv_iinc (v := (nI (i + 1))) (lv' := [(3, .int (nI (i + 1))), (2, .int (nI (smN M j (i + 1)))), (4, .int (bI (decide (M.1 1 i = j) && frN M i i))), (5, .int (nI i)), (0, .ref y), (1, .int (nI j))]) hC.1 hC.2.1 dX6_statesMeasured_106 hl (k := 3) rfl (nI_1 _) (by decide) rfl (fun ls hl => ?_)
            refine lv_goto (tgt := 14) hC.1 hC.2.1 dX6_statesMeasured_109 (by decide) ?_
            exact hk ls ⟨⟨hl.1, hl.2.1, (ec_lvc (lv_at hl 1 rfl) (ec_lvc (lv_at hl 0 rfl) (ec_lvc (lv_at hl 4 rfl) (ec_lvc (lv_at hl 5 rfl) ec_lvn))))⟩, trivial⟩
        · obtain ⟨hl, hI⟩ := h9
          have hq2 : q < mnA M := by omega
          refine lv_iload hC.1 hC.2.1 dX6_statesMeasured_42 (lv_at hl 1 rfl) ?_
          refine lv_iload_n hC.1 hC.2.1 dX6_statesMeasured_44 rfl (lv_at hl 3 rfl) ?_
          refine lv_icmp_ge (tgt := 93) hC.1 hC.2.1 dX6_statesMeasured_45 (by decide) (fun c => absurd c (fun z => Int32.lt_irrefl (Int32.lt_of_lt_of_le (nI_lt (b := i) hq (by omega)) z))) (fun c_45 => ?_)
          refine lv_iload hC.1 hC.2.1 dX6_statesMeasured_48 (lv_at hl 0 rfl) ?_
          refine lv_if_eq (tgt := 84) hC.1 hC.2.1 dX6_statesMeasured_50 (by decide) (fun c_50 => ?_) (fun c_50 => ?_)
          · refine lv_iconst (v := 0) hC.1 hC.2.1 dX6_statesMeasured_84 (by decide) ?_
            have e8 : (decide (M.1 1 i = j) && frN M i (q + 1)) = false := by rw [frN_s, ← Bool.and_assoc, (bI_0 _).mp c_50, Bool.false_and]
            refine ec_topi (y := bI (decide (M.1 1 i = j) && frN M i (q + 1))) (by rw [e8]; rfl) ?_
            refine lv_istore (lv' := [(4, .int (bI (decide (M.1 1 i = j) && frN M i (q + 1)))), (5, .int (nI q)), (2, .int (nI (smN M j i))), (3, .int (nI i)), (0, .ref y), (1, .int (nI j))]) hC.1 hC.2.1 dX6_statesMeasured_85 hl (by decide) rfl (fun ls hl => ?_)
            refine lv_iinc (v := (nI (q + 1))) (lv' := [(5, .int (nI (q + 1))), (4, .int (bI (decide (M.1 1 i = j) && frN M i (q + 1)))), (2, .int (nI (smN M j i))), (3, .int (nI i)), (0, .ref y), (1, .int (nI j))]) hC.1 hC.2.1 dX6_statesMeasured_87 hl (k := 1) rfl (nI_1 _) (by decide) rfl (fun ls hl => ?_)
            refine lv_goto (tgt := 42) hC.1 hC.2.1 dX6_statesMeasured_90 (by decide) ?_
            exact hkq ls ⟨⟨hl.1, hl.2.1, (ec_lvc (lv_at hl 1 rfl) (ec_lvc (lv_at hl 0 rfl) (ec_lvc (lv_at hl 2 rfl) (ec_lvc (lv_at hl 3 rfl) (ec_lvc (lv_at hl 4 rfl) (ec_lvc (lv_at hl 5 rfl) ec_lvn))))))⟩, trivial⟩
          · refine lv_aload_n hC.1 hC.2.1 dX6_statesMeasured_53 rfl (lv_at hl 4 rfl) ?_
            refine ec_get hC hK hx.1 fX6_20 rfl dX6_statesMeasured_54 ?_
            refine lv_iload hC.1 hC.2.1 dX6_statesMeasured_57 (lv_at hl 1 rfl) ?_
            refine ec_iald hC hK (hx.2.1 2 (by decide)) q rfl (by omega) (by omega) dX6_statesMeasured_59 ?_
            refine lv_iload_n hC.1 hC.2.1 dX6_statesMeasured_60 rfl (lv_at hl 5 rfl) ?_
            refine lv_icmp_ne (tgt := 80) hC.1 hC.2.1 dX6_statesMeasured_61 (by decide) (fun c_61 => ?_) (fun c_61 => ?_)
            · refine lv_iconst (v := 1) hC.1 hC.2.1 dX6_statesMeasured_80 (by decide) ?_
              refine lv_goto (tgt := 85) hC.1 hC.2.1 dX6_statesMeasured_81 (by decide) ?_
              have h50 := Bool.and_eq_true_iff.mp ((bI_n0 _).mp c_50)
              have hij : M.1 1 i = j := of_decide_eq_true h50.1
              have e8 : (decide (M.1 1 i = j) && frN M i (q + 1)) = true := by rw [frN_s, h50.1, h50.2, decide_eq_false (p := M.1 1 q = M.1 1 i) (fun z => c_61 (by rw [z, hij]))]; rfl
              refine ec_topi (y := bI (decide (M.1 1 i = j) && frN M i (q + 1))) (by rw [e8]; rfl) ?_
              refine lv_istore (lv' := [(4, .int (bI (decide (M.1 1 i = j) && frN M i (q + 1)))), (5, .int (nI q)), (2, .int (nI (smN M j i))), (3, .int (nI i)), (0, .ref y), (1, .int (nI j))]) hC.1 hC.2.1 dX6_statesMeasured_85 hl (by decide) rfl (fun ls hl => ?_)
              refine lv_iinc (v := (nI (q + 1))) (lv' := [(5, .int (nI (q + 1))), (4, .int (bI (decide (M.1 1 i = j) && frN M i (q + 1)))), (2, .int (nI (smN M j i))), (3, .int (nI i)), (0, .ref y), (1, .int (nI j))]) hC.1 hC.2.1 dX6_statesMeasured_87 hl (k := 1) rfl (nI_1 _) (by decide) rfl (fun ls hl => ?_)
              refine lv_goto (tgt := 42) hC.1 hC.2.1 dX6_statesMeasured_90 (by decide) ?_
              exact hkq ls ⟨⟨hl.1, hl.2.1, (ec_lvc (lv_at hl 1 rfl) (ec_lvc (lv_at hl 0 rfl) (ec_lvc (lv_at hl 2 rfl) (ec_lvc (lv_at hl 3 rfl) (ec_lvc (lv_at hl 4 rfl) (ec_lvc (lv_at hl 5 rfl) ec_lvn))))))⟩, trivial⟩
            · refine lv_aload_n hC.1 hC.2.1 dX6_statesMeasured_64 rfl (lv_at hl 4 rfl) ?_
              refine ec_get hC hK hx.1 fX6_23 rfl dX6_statesMeasured_65 ?_
              refine lv_iload hC.1 hC.2.1 dX6_statesMeasured_68 (lv_at hl 1 rfl) ?_
              refine ec_iald hC hK (hx.2.1 3 (by decide)) q rfl (by omega) (by omega) dX6_statesMeasured_70 ?_
              refine lv_aload_n hC.1 hC.2.1 dX6_statesMeasured_71 rfl (lv_at hl 4 rfl) ?_
              refine ec_get hC hK hx.1 fX6_23 rfl dX6_statesMeasured_72 ?_
              refine lv_iload_n hC.1 hC.2.1 dX6_statesMeasured_75 rfl (lv_at hl 3 rfl) ?_
              refine ec_iald hC hK (hx.2.1 3 (by decide)) i rfl (by omega) (by omega) dX6_statesMeasured_76 ?_
              refine lv_icmp_eq (tgt := 84) hC.1 hC.2.1 dX6_statesMeasured_77 (by decide) (fun c_77 => ?_) (fun c_77 => ?_)
              · refine lv_iconst (v := 0) hC.1 hC.2.1 dX6_statesMeasured_84 (by decide) ?_
                have h50 := Bool.and_eq_true_iff.mp ((bI_n0 _).mp c_50)
                have hij : M.1 1 i = j := of_decide_eq_true h50.1
                have hqi : M.1 1 q = M.1 1 i := ((nI_eq (by have := hwf.an hq2; omega) (by omega)).mp c_61).trans hij.symm
                have e8 : (decide (M.1 1 i = j) && frN M i (q + 1)) = false := by rw [frN_s, h50.1, h50.2, decide_eq_true hqi, decide_eq_true ((nI_x (hwf.an hq2).2 (hwf.an hi).2).mp c_77)]; rfl
                refine ec_topi (y := bI (decide (M.1 1 i = j) && frN M i (q + 1))) (by rw [e8]; rfl) ?_
                refine lv_istore (lv' := [(4, .int (bI (decide (M.1 1 i = j) && frN M i (q + 1)))), (5, .int (nI q)), (2, .int (nI (smN M j i))), (3, .int (nI i)), (0, .ref y), (1, .int (nI j))]) hC.1 hC.2.1 dX6_statesMeasured_85 hl (by decide) rfl (fun ls hl => ?_)
                refine lv_iinc (v := (nI (q + 1))) (lv' := [(5, .int (nI (q + 1))), (4, .int (bI (decide (M.1 1 i = j) && frN M i (q + 1)))), (2, .int (nI (smN M j i))), (3, .int (nI i)), (0, .ref y), (1, .int (nI j))]) hC.1 hC.2.1 dX6_statesMeasured_87 hl (k := 1) rfl (nI_1 _) (by decide) rfl (fun ls hl => ?_)
                refine lv_goto (tgt := 42) hC.1 hC.2.1 dX6_statesMeasured_90 (by decide) ?_
                exact hkq ls ⟨⟨hl.1, hl.2.1, (ec_lvc (lv_at hl 1 rfl) (ec_lvc (lv_at hl 0 rfl) (ec_lvc (lv_at hl 2 rfl) (ec_lvc (lv_at hl 3 rfl) (ec_lvc (lv_at hl 4 rfl) (ec_lvc (lv_at hl 5 rfl) ec_lvn))))))⟩, trivial⟩
              · refine lv_iconst (v := 1) hC.1 hC.2.1 dX6_statesMeasured_80 (by decide) ?_
                refine lv_goto (tgt := 85) hC.1 hC.2.1 dX6_statesMeasured_81 (by decide) ?_
                have h50 := Bool.and_eq_true_iff.mp ((bI_n0 _).mp c_50)
                have hij : M.1 1 i = j := of_decide_eq_true h50.1
                have hqi : M.1 1 q = M.1 1 i := ((nI_eq (by have := hwf.an hq2; omega) (by omega)).mp c_61).trans hij.symm
                have e8 : (decide (M.1 1 i = j) && frN M i (q + 1)) = true := by rw [frN_s, h50.1, h50.2, decide_eq_true hqi, decide_eq_false (fun z => c_77 (by rw [z]))]; rfl
                refine ec_topi (y := bI (decide (M.1 1 i = j) && frN M i (q + 1))) (by rw [e8]; rfl) ?_
                refine lv_istore (lv' := [(4, .int (bI (decide (M.1 1 i = j) && frN M i (q + 1)))), (5, .int (nI q)), (2, .int (nI (smN M j i))), (3, .int (nI i)), (0, .ref y), (1, .int (nI j))]) hC.1 hC.2.1 dX6_statesMeasured_85 hl (by decide) rfl (fun ls hl => ?_)
                refine lv_iinc (v := (nI (q + 1))) (lv' := [(5, .int (nI (q + 1))), (4, .int (bI (decide (M.1 1 i = j) && frN M i (q + 1)))), (2, .int (nI (smN M j i))), (3, .int (nI i)), (0, .ref y), (1, .int (nI j))]) hC.1 hC.2.1 dX6_statesMeasured_87 hl (k := 1) rfl (nI_1 _) (by decide) rfl (fun ls hl => ?_)
                refine lv_goto (tgt := 42) hC.1 hC.2.1 dX6_statesMeasured_90 (by decide) ?_
                exact hkq ls ⟨⟨hl.1, hl.2.1, (ec_lvc (lv_at hl 1 rfl) (ec_lvc (lv_at hl 0 rfl) (ec_lvc (lv_at hl 2 rfl) (ec_lvc (lv_at hl 3 rfl) (ec_lvc (lv_at hl 4 rfl) (ec_lvc (lv_at hl 5 rfl) ec_lvn))))))⟩, trivial⟩
      · refine lv_iconst (v := 1) hC.1 hC.2.1 dX6_statesMeasured_32 (by decide) ?_
        refine lv_goto (tgt := 37) hC.1 hC.2.1 dX6_statesMeasured_33 (by decide) ?_
        refine ec_topi (y := bI (decide (M.1 1 i = j) && frN M i 0)) (by rw [decide_eq_true ((nI_eq (by have := hwf.an hi; omega) (by omega)).mp c_29)]; rfl) ?_
        refine lv_istore (lv' := [(4, .int (bI (decide (M.1 1 i = j) && frN M i 0))), (2, .int (nI (smN M j i))), (3, .int (nI i)), (0, .ref y), (1, .int (nI j))]) hC.1 hC.2.1 dX6_statesMeasured_37 hl (by decide) rfl (fun ls hl => ?_)
        refine lv_iconst (v := 0) hC.1 hC.2.1 dX6_statesMeasured_39 (by decide) ?_
        refine lv_istore (lv' := [(5, .int 0), (4, .int (bI (decide (M.1 1 i = j) && frN M i 0))), (2, .int (nI (smN M j i))), (3, .int (nI i)), (0, .ref y), (1, .int (nI j))]) hC.1 hC.2.1 dX6_statesMeasured_40 hl (by decide) rfl (fun ls hl => ?_)
        refine ec_loopR (n := i) (fun q ls => lv_has ls 6 [(4, .int (bI (decide (M.1 1 i = j) && frN M i q))), (5, .int (nI q)), (2, .int (nI (smN M j i))), (3, .int (nI i)), (0, .ref y), (1, .int (nI j))] ∧ True) ⟨⟨hl.1, hl.2.1, (ec_lvc (lv_at hl 1 rfl) (ec_lvc (lv_at hl 0 rfl) (ec_lvc (lv_at hl 2 rfl) (ec_lvc (lv_at hl 3 rfl) (ec_lvc (lv_at hl 4 rfl) (ec_lvc (lv_at hl 5 rfl) ec_lvn))))))⟩, trivial⟩ (fun ls h9 => ?_) (fun q ls hq h9 hkq => ?_)
        · obtain ⟨hl, hI⟩ := h9
          refine lv_iload hC.1 hC.2.1 dX6_statesMeasured_42 (lv_at hl 1 rfl) ?_
          refine lv_iload_n hC.1 hC.2.1 dX6_statesMeasured_44 rfl (lv_at hl 3 rfl) ?_
          refine lv_icmp_ge (tgt := 93) hC.1 hC.2.1 dX6_statesMeasured_45 (by decide) (fun c_45 => ?_) (fun c => absurd (Int32.le_refl _) c)
          refine lv_iload_n hC.1 hC.2.1 dX6_statesMeasured_93 rfl (lv_at hl 2 rfl) ?_
          refine lv_iload hC.1 hC.2.1 dX6_statesMeasured_94 (lv_at hl 0 rfl) ?_
          refine lv_if_eq (tgt := 103) hC.1 hC.2.1 dX6_statesMeasured_96 (by decide) (fun c_96 => ?_) (fun c_96 => ?_)
          · refine lv_iconst (v := 0) hC.1 hC.2.1 dX6_statesMeasured_103 (by decide) ?_
            have e9 : smN M j (i + 1) = smN M j i + 0 := by rw [smN_s, (bI_0 _).mp c_96]; rfl
            refine lv_iadd hC.1 hC.2.1 dX6_statesMeasured_104 ?_
            refine ec_topi (y := nI (smN M j (i + 1))) (by rw [e9]; exact nI_add _ 0) ?_
            refine lv_istore_n (lv' := [(2, .int (nI (smN M j (i + 1)))), (4, .int (bI (decide (M.1 1 i = j) && frN M i i))), (5, .int (nI i)), (3, .int (nI i)), (0, .ref y), (1, .int (nI j))]) hC.1 hC.2.1 dX6_statesMeasured_105 rfl hl (by decide) rfl (fun ls hl => ?_)
            refine lv_iinc (v := (nI (i + 1))) (lv' := [(3, .int (nI (i + 1))), (2, .int (nI (smN M j (i + 1)))), (4, .int (bI (decide (M.1 1 i = j) && frN M i i))), (5, .int (nI i)), (0, .ref y), (1, .int (nI j))]) hC.1 hC.2.1 dX6_statesMeasured_106 hl (k := 3) rfl (nI_1 _) (by decide) rfl (fun ls hl => ?_)
            refine lv_goto (tgt := 14) hC.1 hC.2.1 dX6_statesMeasured_109 (by decide) ?_
            exact hk ls ⟨⟨hl.1, hl.2.1, (ec_lvc (lv_at hl 1 rfl) (ec_lvc (lv_at hl 0 rfl) (ec_lvc (lv_at hl 4 rfl) (ec_lvc (lv_at hl 5 rfl) ec_lvn))))⟩, trivial⟩
          · refine lv_iconst (v := 1) hC.1 hC.2.1 dX6_statesMeasured_99 (by decide) ?_
            refine lv_goto (tgt := 104) hC.1 hC.2.1 dX6_statesMeasured_100 (by decide) ?_
            have e9 : smN M j (i + 1) = smN M j i + 1 := by rw [smN_s, (bI_n0 _).mp c_96]; rfl
            refine lv_iadd hC.1 hC.2.1 dX6_statesMeasured_104 ?_
            refine ec_topi (y := nI (smN M j (i + 1))) (by rw [e9]; exact nI_add _ 1) ?_
            refine lv_istore_n (lv' := [(2, .int (nI (smN M j (i + 1)))), (4, .int (bI (decide (M.1 1 i = j) && frN M i i))), (5, .int (nI i)), (3, .int (nI i)), (0, .ref y), (1, .int (nI j))]) hC.1 hC.2.1 dX6_statesMeasured_105 rfl hl (by decide) rfl (fun ls hl => ?_)
            refine lv_iinc (v := (nI (i + 1))) (lv' := [(3, .int (nI (i + 1))), (2, .int (nI (smN M j (i + 1)))), (4, .int (bI (decide (M.1 1 i = j) && frN M i i))), (5, .int (nI i)), (0, .ref y), (1, .int (nI j))]) hC.1 hC.2.1 dX6_statesMeasured_106 hl (k := 3) rfl (nI_1 _) (by decide) rfl (fun ls hl => ?_)
            refine lv_goto (tgt := 14) hC.1 hC.2.1 dX6_statesMeasured_109 (by decide) ?_
            exact hk ls ⟨⟨hl.1, hl.2.1, (ec_lvc (lv_at hl 1 rfl) (ec_lvc (lv_at hl 0 rfl) (ec_lvc (lv_at hl 4 rfl) (ec_lvc (lv_at hl 5 rfl) ec_lvn))))⟩, trivial⟩
        · obtain ⟨hl, hI⟩ := h9
          have hq2 : q < mnA M := by omega
          refine lv_iload hC.1 hC.2.1 dX6_statesMeasured_42 (lv_at hl 1 rfl) ?_
          refine lv_iload_n hC.1 hC.2.1 dX6_statesMeasured_44 rfl (lv_at hl 3 rfl) ?_
          refine lv_icmp_ge (tgt := 93) hC.1 hC.2.1 dX6_statesMeasured_45 (by decide) (fun c => absurd c (fun z => Int32.lt_irrefl (Int32.lt_of_lt_of_le (nI_lt (b := i) hq (by omega)) z))) (fun c_45 => ?_)
          refine lv_iload hC.1 hC.2.1 dX6_statesMeasured_48 (lv_at hl 0 rfl) ?_
          refine lv_if_eq (tgt := 84) hC.1 hC.2.1 dX6_statesMeasured_50 (by decide) (fun c_50 => ?_) (fun c_50 => ?_)
          · refine lv_iconst (v := 0) hC.1 hC.2.1 dX6_statesMeasured_84 (by decide) ?_
            have e8 : (decide (M.1 1 i = j) && frN M i (q + 1)) = false := by rw [frN_s, ← Bool.and_assoc, (bI_0 _).mp c_50, Bool.false_and]
            refine ec_topi (y := bI (decide (M.1 1 i = j) && frN M i (q + 1))) (by rw [e8]; rfl) ?_
            refine lv_istore (lv' := [(4, .int (bI (decide (M.1 1 i = j) && frN M i (q + 1)))), (5, .int (nI q)), (2, .int (nI (smN M j i))), (3, .int (nI i)), (0, .ref y), (1, .int (nI j))]) hC.1 hC.2.1 dX6_statesMeasured_85 hl (by decide) rfl (fun ls hl => ?_)
            refine lv_iinc (v := (nI (q + 1))) (lv' := [(5, .int (nI (q + 1))), (4, .int (bI (decide (M.1 1 i = j) && frN M i (q + 1)))), (2, .int (nI (smN M j i))), (3, .int (nI i)), (0, .ref y), (1, .int (nI j))]) hC.1 hC.2.1 dX6_statesMeasured_87 hl (k := 1) rfl (nI_1 _) (by decide) rfl (fun ls hl => ?_)
            refine lv_goto (tgt := 42) hC.1 hC.2.1 dX6_statesMeasured_90 (by decide) ?_
            exact hkq ls ⟨⟨hl.1, hl.2.1, (ec_lvc (lv_at hl 1 rfl) (ec_lvc (lv_at hl 0 rfl) (ec_lvc (lv_at hl 2 rfl) (ec_lvc (lv_at hl 3 rfl) (ec_lvc (lv_at hl 4 rfl) (ec_lvc (lv_at hl 5 rfl) ec_lvn))))))⟩, trivial⟩
          · refine lv_aload_n hC.1 hC.2.1 dX6_statesMeasured_53 rfl (lv_at hl 4 rfl) ?_
            refine ec_get hC hK hx.1 fX6_20 rfl dX6_statesMeasured_54 ?_
            refine lv_iload hC.1 hC.2.1 dX6_statesMeasured_57 (lv_at hl 1 rfl) ?_
            refine ec_iald hC hK (hx.2.1 2 (by decide)) q rfl (by omega) (by omega) dX6_statesMeasured_59 ?_
            refine lv_iload_n hC.1 hC.2.1 dX6_statesMeasured_60 rfl (lv_at hl 5 rfl) ?_
            refine lv_icmp_ne (tgt := 80) hC.1 hC.2.1 dX6_statesMeasured_61 (by decide) (fun c_61 => ?_) (fun c_61 => ?_)
            · refine lv_iconst (v := 1) hC.1 hC.2.1 dX6_statesMeasured_80 (by decide) ?_
              refine lv_goto (tgt := 85) hC.1 hC.2.1 dX6_statesMeasured_81 (by decide) ?_
              have h50 := Bool.and_eq_true_iff.mp ((bI_n0 _).mp c_50)
              have hij : M.1 1 i = j := of_decide_eq_true h50.1
              have e8 : (decide (M.1 1 i = j) && frN M i (q + 1)) = true := by rw [frN_s, h50.1, h50.2, decide_eq_false (p := M.1 1 q = M.1 1 i) (fun z => c_61 (by rw [z, hij]))]; rfl
              refine ec_topi (y := bI (decide (M.1 1 i = j) && frN M i (q + 1))) (by rw [e8]; rfl) ?_
              refine lv_istore (lv' := [(4, .int (bI (decide (M.1 1 i = j) && frN M i (q + 1)))), (5, .int (nI q)), (2, .int (nI (smN M j i))), (3, .int (nI i)), (0, .ref y), (1, .int (nI j))]) hC.1 hC.2.1 dX6_statesMeasured_85 hl (by decide) rfl (fun ls hl => ?_)
              refine lv_iinc (v := (nI (q + 1))) (lv' := [(5, .int (nI (q + 1))), (4, .int (bI (decide (M.1 1 i = j) && frN M i (q + 1)))), (2, .int (nI (smN M j i))), (3, .int (nI i)), (0, .ref y), (1, .int (nI j))]) hC.1 hC.2.1 dX6_statesMeasured_87 hl (k := 1) rfl (nI_1 _) (by decide) rfl (fun ls hl => ?_)
              refine lv_goto (tgt := 42) hC.1 hC.2.1 dX6_statesMeasured_90 (by decide) ?_
              exact hkq ls ⟨⟨hl.1, hl.2.1, (ec_lvc (lv_at hl 1 rfl) (ec_lvc (lv_at hl 0 rfl) (ec_lvc (lv_at hl 2 rfl) (ec_lvc (lv_at hl 3 rfl) (ec_lvc (lv_at hl 4 rfl) (ec_lvc (lv_at hl 5 rfl) ec_lvn))))))⟩, trivial⟩
            · refine lv_aload_n hC.1 hC.2.1 dX6_statesMeasured_64 rfl (lv_at hl 4 rfl) ?_
              refine ec_get hC hK hx.1 fX6_23 rfl dX6_statesMeasured_65 ?_
              refine lv_iload hC.1 hC.2.1 dX6_statesMeasured_68 (lv_at hl 1 rfl) ?_
              refine ec_iald hC hK (hx.2.1 3 (by decide)) q rfl (by omega) (by omega) dX6_statesMeasured_70 ?_
              refine lv_aload_n hC.1 hC.2.1 dX6_statesMeasured_71 rfl (lv_at hl 4 rfl) ?_
              refine ec_get hC hK hx.1 fX6_23 rfl dX6_statesMeasured_72 ?_
              refine lv_iload_n hC.1 hC.2.1 dX6_statesMeasured_75 rfl (lv_at hl 3 rfl) ?_
              refine ec_iald hC hK (hx.2.1 3 (by decide)) i rfl (by omega) (by omega) dX6_statesMeasured_76 ?_
              refine lv_icmp_eq (tgt := 84) hC.1 hC.2.1 dX6_statesMeasured_77 (by decide) (fun c_77 => ?_) (fun c_77 => ?_)
              · refine lv_iconst (v := 0) hC.1 hC.2.1 dX6_statesMeasured_84 (by decide) ?_
                have h50 := Bool.and_eq_true_iff.mp ((bI_n0 _).mp c_50)
                have hij : M.1 1 i = j := of_decide_eq_true h50.1
                have hqi : M.1 1 q = M.1 1 i := ((nI_eq (by have := hwf.an hq2; omega) (by omega)).mp c_61).trans hij.symm
                have e8 : (decide (M.1 1 i = j) && frN M i (q + 1)) = false := by rw [frN_s, h50.1, h50.2, decide_eq_true hqi, decide_eq_true ((nI_x (hwf.an hq2).2 (hwf.an hi).2).mp c_77)]; rfl
                refine ec_topi (y := bI (decide (M.1 1 i = j) && frN M i (q + 1))) (by rw [e8]; rfl) ?_
                refine lv_istore (lv' := [(4, .int (bI (decide (M.1 1 i = j) && frN M i (q + 1)))), (5, .int (nI q)), (2, .int (nI (smN M j i))), (3, .int (nI i)), (0, .ref y), (1, .int (nI j))]) hC.1 hC.2.1 dX6_statesMeasured_85 hl (by decide) rfl (fun ls hl => ?_)
                refine lv_iinc (v := (nI (q + 1))) (lv' := [(5, .int (nI (q + 1))), (4, .int (bI (decide (M.1 1 i = j) && frN M i (q + 1)))), (2, .int (nI (smN M j i))), (3, .int (nI i)), (0, .ref y), (1, .int (nI j))]) hC.1 hC.2.1 dX6_statesMeasured_87 hl (k := 1) rfl (nI_1 _) (by decide) rfl (fun ls hl => ?_)
                refine lv_goto (tgt := 42) hC.1 hC.2.1 dX6_statesMeasured_90 (by decide) ?_
                exact hkq ls ⟨⟨hl.1, hl.2.1, (ec_lvc (lv_at hl 1 rfl) (ec_lvc (lv_at hl 0 rfl) (ec_lvc (lv_at hl 2 rfl) (ec_lvc (lv_at hl 3 rfl) (ec_lvc (lv_at hl 4 rfl) (ec_lvc (lv_at hl 5 rfl) ec_lvn))))))⟩, trivial⟩
              · refine lv_iconst (v := 1) hC.1 hC.2.1 dX6_statesMeasured_80 (by decide) ?_
                refine lv_goto (tgt := 85) hC.1 hC.2.1 dX6_statesMeasured_81 (by decide) ?_
                have h50 := Bool.and_eq_true_iff.mp ((bI_n0 _).mp c_50)
                have hij : M.1 1 i = j := of_decide_eq_true h50.1
                have hqi : M.1 1 q = M.1 1 i := ((nI_eq (by have := hwf.an hq2; omega) (by omega)).mp c_61).trans hij.symm
                have e8 : (decide (M.1 1 i = j) && frN M i (q + 1)) = true := by rw [frN_s, h50.1, h50.2, decide_eq_true hqi, decide_eq_false (fun z => c_77 (by rw [z]))]; rfl
                refine ec_topi (y := bI (decide (M.1 1 i = j) && frN M i (q + 1))) (by rw [e8]; rfl) ?_
                refine lv_istore (lv' := [(4, .int (bI (decide (M.1 1 i = j) && frN M i (q + 1)))), (5, .int (nI q)), (2, .int (nI (smN M j i))), (3, .int (nI i)), (0, .ref y), (1, .int (nI j))]) hC.1 hC.2.1 dX6_statesMeasured_85 hl (by decide) rfl (fun ls hl => ?_)
                refine lv_iinc (v := (nI (q + 1))) (lv' := [(5, .int (nI (q + 1))), (4, .int (bI (decide (M.1 1 i = j) && frN M i (q + 1)))), (2, .int (nI (smN M j i))), (3, .int (nI i)), (0, .ref y), (1, .int (nI j))]) hC.1 hC.2.1 dX6_statesMeasured_87 hl (k := 1) rfl (nI_1 _) (by decide) rfl (fun ls hl => ?_)
                refine lv_goto (tgt := 42) hC.1 hC.2.1 dX6_statesMeasured_90 (by decide) ?_
                exact hkq ls ⟨⟨hl.1, hl.2.1, (ec_lvc (lv_at hl 1 rfl) (ec_lvc (lv_at hl 0 rfl) (ec_lvc (lv_at hl 2 rfl) (ec_lvc (lv_at hl 3 rfl) (ec_lvc (lv_at hl 4 rfl) (ec_lvc (lv_at hl 5 rfl) ec_lvn))))))⟩, trivial⟩
  · refine lv_iconst (v := 0) hC.1 hC.2.1 dX6_statesMeasured_8 (by decide) ?_
    exact W.iret hC.1 hC.2.1 hr (fun t9 ht9 _ => ⟨_, rfl, by rw [ht9]; exact ⟨_, rfl, fun z => absurd z (fun z => c_5 (fz_0.mpr z)), hx⟩, hS.F ht9⟩) hS.2.2 dX6_statesMeasured_9

theorem thMes_lt (M : ecM) (r pl a b c d : Int32) : thMes M r pl a b c d < 2 ^ 31 := ite_lt (ite_lt (ite_lt (by decide) (by decide)) (by decide)) (by decide)
theorem thMak_lt (M : ecM) (a : Int32) : thMak M a < 2 ^ 31 := ite_lt (ite_lt (by decide) (by decide)) (by decide)
theorem if_n0 {c : Prop} [Decidable c] {k : Nat} (h : (if c then k + 1 else 0) = 0) : ¬ c := fun z => by rw [if_pos z] at h; cases h

set_option maxHeartbeats 4000000 in
set_option maxRecDepth 100000 in
/-- an answer is measured -/
theorem c_X6_measure (l : Launch) (G : ecG) (Y : Nat → Prop) (M : ecM) (th : Int32) (y : Nat) (ya : Nat → Nat) (hY : ∀ q, Y q → ecN0 G ≤ q) (hwf : WF M) (r pl a b c0 d : Int32) : Met l yX6_measure (ecWs yX6_measure cX6_measure 8 (Option.some FieldType.int)) (ecRm 4 0 0) (ecPc [.ref y, .int r, .int pl, .int a, .int b, .int c0, .int d] G (fun H => rfX G Y M th y ya H)) (ecEp (fun v H1 => ∃ w : Int32, v = some (.int w) ∧ (thMes M r pl a b c0 d = 0 → w = nI (mnA M)) ∧ rfX G Y (if thMes M r pl a b c0 d = 0 then mesM M (cN r) pl a b c0 d else M) (nI (thMes M r pl a b c0 d)) y ya H1) (Y)) 0 0 (Y) := by
  refine ec_met (by decide) (Nat.le_of_ble_eq_true rfl) ?_
  intro p e s m below meth c hC hr hlocks hname hOk hpre ls hl
  have hK := hOk.1
  have hx := hpre
  have hS : va_S (Y) s.heap s.heap [] := va_S.rf
  have hAN : ∀ q, (Y) q → ecN0 G ≤ q := hY
  have hl : lv_has ls 8 [(0, .ref y), (1, .int r), (2, .int pl), (3, .int a), (4, .int b), (5, .int c0), (6, .int d)] := hl
  have hn0 := hwf.n
  refine ec_join (pcj := 61) (stj := [.int (bI (smB pl a b c0 d))]) ?_ (fun kj => ?_)
  · refine lv_istore (lv' := [(7, .int (bI (smB pl a b c0 d))), (0, .ref y), (1, .int r), (2, .int pl), (3, .int a), (4, .int b), (5, .int c0), (6, .int d)]) hC.1 hC.2.1 dX6_measure_61 hl (by decide) rfl (fun ls hl => ?_)
    refine ec_join (pcj := 99) (stj := [.int (nI (thMes M r pl a b c0 d)), .ref y]) ?_ (fun kj => ?_)
    · refine ec_goE1 (ec_rV hC (c_X6_fails l G Y M _ y ya (thMes M r pl a b c0 d) (thMes_lt _ _ _ _ _ _ _) hY) kX6_81 (hOk.at hS hAN) hx (ec_rc hK hx.1 ⟨_, _, rfl⟩) hl.1 ⟨Nat.le_of_ble_eq_true rfl, Nat.le_of_ble_eq_true rfl⟩ rfl (Nat.le_of_ble_eq_true rfl) dX6_measure_99 ⟨Nat.le_of_ble_eq_true rfl, Nat.le_of_ble_eq_true rfl⟩) hS (fun _ h => h) (fun H locs hx hz hk1 hS => ?_)
      refine lv_if_eq (tgt := 107) hC.1 hC.2.1 dX6_measure_102 (by decide) (fun c_102 => ?_) (fun c_102 => ?_)
      · have hT : thMes M r pl a b c0 d = 0 := fz_0.mp c_102
        obtain ⟨hix, h92⟩ := if_th (k := 0) hT
        obtain ⟨hsm, h93⟩ := if_th (k := 1) h92
        have hn4 : ¬ mnA M = 40 := if_n0 (k := 2) h93
        obtain ⟨j, hj, rfl⟩ := ixB_t (by omega) hix
        have hjc : cN (nI j) = j := nI_clamp (by omega)
        refine lv_aload_n hC.1 hC.2.1 dX6_measure_107 rfl (lv_at hl 1 rfl) ?_
        refine ec_get hC hK hx.1 fX6_20 rfl dX6_measure_108 ?_
        refine lv_aload_n hC.1 hC.2.1 dX6_measure_111 rfl (lv_at hl 1 rfl) ?_
        refine ec_get hC hK hx.1 fX6_84 rfl dX6_measure_112 ?_
        refine lv_iload_n hC.1 hC.2.1 dX6_measure_115 rfl (lv_at hl 2 rfl) ?_
        refine ec_iast hC hK hS (hx.2.1 2 (by decide)) (hx.2.2.2.2.2 2 (by decide)) (mnA M) rfl (by omega) (by omega) dX6_measure_116 (fun H locs h9 o9 z9 hS => ?_)
        have hx := rf_s2 (i := (mnA M)) (v := j) hx h9 o9
        refine lv_aload_n hC.1 hC.2.1 dX6_measure_117 rfl (lv_at hl 1 rfl) ?_
        refine ec_get hC hK hx.1 fX6_23 rfl dX6_measure_118 ?_
        refine lv_aload_n hC.1 hC.2.1 dX6_measure_121 rfl (lv_at hl 1 rfl) ?_
        refine ec_get hC hK hx.1 fX6_84 rfl dX6_measure_122 ?_
        refine lv_aload_n hC.1 hC.2.1 dX6_measure_125 rfl (lv_at hl 1 rfl) ?_
        refine ec_get hC hK hx.1 fX6_13 rfl dX6_measure_126 ?_
        refine lv_iload_n hC.1 hC.2.1 dX6_measure_129 rfl (lv_at hl 2 rfl) ?_
        refine ec_iald hC hK (hx.2.1 0 (by decide)) j rfl (by omega) (by omega) dX6_measure_130 ?_
        refine ec_topi (y := nI (M.1 0 j)) rfl ?_
        refine ec_iast hC hK hS (hx.2.1 3 (by decide)) (hx.2.2.2.2.2 3 (by decide)) (mnA M) rfl (by omega) (by omega) dX6_measure_131 (fun H locs h9 o9 z9 hS => ?_)
        have hx := rf_s3 (i := (mnA M)) (v := (M.1 0 j)) hx h9 o9
        refine lv_aload_n hC.1 hC.2.1 dX6_measure_132 rfl (lv_at hl 1 rfl) ?_
        refine ec_get hC hK hx.1 fX6_26 rfl dX6_measure_133 ?_
        refine lv_aload_n hC.1 hC.2.1 dX6_measure_136 rfl (lv_at hl 1 rfl) ?_
        refine ec_get hC hK hx.1 fX6_84 rfl dX6_measure_137 ?_
        refine lv_iload_n hC.1 hC.2.1 dX6_measure_140 rfl (lv_at hl 3 rfl) ?_
        refine ec_iast hC hK hS (hx.2.1 4 (by decide)) (hx.2.2.2.2.2 4 (by decide)) (mnA M) rfl (by omega) (by omega) dX6_measure_141 (fun H locs h9 o9 z9 hS => ?_)
        have hx := rf_s4 (i := (mnA M)) (v := pl) hx h9 o9
        refine lv_aload_n hC.1 hC.2.1 dX6_measure_142 rfl (lv_at hl 1 rfl) ?_
        refine ec_get hC hK hx.1 fX6_29 rfl dX6_measure_143 ?_
        refine lv_aload_n hC.1 hC.2.1 dX6_measure_146 rfl (lv_at hl 1 rfl) ?_
        refine ec_get hC hK hx.1 fX6_84 rfl dX6_measure_147 ?_
        refine lv_aload_n hC.1 hC.2.1 dX6_measure_150 rfl (lv_at hl 1 rfl) ?_
        refine ec_get hC hK hx.1 fX6_108 rfl dX6_measure_151 ?_
        refine ec_topi (y := mhr M) rfl ?_
        refine ec_iast hC hK hS (hx.2.1 5 (by decide)) (hx.2.2.2.2.2 5 (by decide)) (mnA M) rfl (by omega) (by omega) dX6_measure_154 (fun H locs h9 o9 z9 hS => ?_)
        have hx := rf_s5 (i := (mnA M)) (v := ((mhr M))) hx h9 o9
        refine lv_aload_n hC.1 hC.2.1 dX6_measure_155 rfl (lv_at hl 1 rfl) ?_
        refine ec_get hC hK hx.1 fX6_32 rfl dX6_measure_156 ?_
        refine lv_aload_n hC.1 hC.2.1 dX6_measure_159 rfl (lv_at hl 1 rfl) ?_
        refine ec_get hC hK hx.1 fX6_84 rfl dX6_measure_160 ?_
        refine lv_aload_n hC.1 hC.2.1 dX6_measure_163 rfl (lv_at hl 1 rfl) ?_
        refine ec_get hC hK hx.1 fX6_17 rfl dX6_measure_164 ?_
        refine lv_iload_n hC.1 hC.2.1 dX6_measure_167 rfl (lv_at hl 2 rfl) ?_
        refine ec_iald hC hK (hx.2.1 1 (by decide)) j rfl (by omega) (by omega) dX6_measure_168 ?_
        refine ec_topi (y := M.2.1 0 j) rfl ?_
        refine ec_iast hC hK hS (hx.2.1 6 (by decide)) (hx.2.2.2.2.2 6 (by decide)) (mnA M) rfl (by omega) (by omega) dX6_measure_169 (fun H locs h9 o9 z9 hS => ?_)
        have hx := rf_s6 (i := (mnA M)) (v := ((M.2.1 0 j))) hx h9 o9
        refine lv_aload_n hC.1 hC.2.1 dX6_measure_170 rfl (lv_at hl 1 rfl) ?_
        refine ec_get hC hK hx.1 fX6_35 rfl dX6_measure_171 ?_
        refine lv_iconst (v := 4) hC.1 hC.2.1 dX6_measure_174 (by decide) ?_
        refine lv_aload_n hC.1 hC.2.1 dX6_measure_175 rfl (lv_at hl 1 rfl) ?_
        refine ec_get hC hK hx.1 fX6_84 rfl dX6_measure_176 ?_
        refine lv_imul hC.1 hC.2.1 dX6_measure_179 ?_
        refine lv_iload_n hC.1 hC.2.1 dX6_measure_180 rfl (lv_at hl 4 rfl) ?_
        refine ec_iast hC hK hS (hx.2.1 7 (by decide)) (hx.2.2.2.2.2 7 (by decide)) (4 * mnA M) (ix_m 4 (mnA M)) (by omega) (by omega) dX6_measure_181 (fun H locs h9 o9 z9 hS => ?_)
        have hx := rf_s7 (i := (4 * mnA M)) (v := a) hx h9 o9
        refine lv_aload_n hC.1 hC.2.1 dX6_measure_182 rfl (lv_at hl 1 rfl) ?_
        refine ec_get hC hK hx.1 fX6_35 rfl dX6_measure_183 ?_
        refine lv_iconst (v := 4) hC.1 hC.2.1 dX6_measure_186 (by decide) ?_
        refine lv_aload_n hC.1 hC.2.1 dX6_measure_187 rfl (lv_at hl 1 rfl) ?_
        refine ec_get hC hK hx.1 fX6_84 rfl dX6_measure_188 ?_
        refine lv_imul hC.1 hC.2.1 dX6_measure_191 ?_
        refine lv_iconst (v := 1) hC.1 hC.2.1 dX6_measure_192 (by decide) ?_
        refine lv_iadd hC.1 hC.2.1 dX6_measure_193 ?_
        refine lv_iload hC.1 hC.2.1 dX6_measure_194 (lv_at hl 5 rfl) ?_
        refine ec_iast hC hK hS (hx.2.1 7 (by decide)) (hx.2.2.2.2.2 7 (by decide)) (4 * mnA M + 1) (ix_ma 4 (mnA M) 1) (by omega) (by omega) dX6_measure_196 (fun H locs h9 o9 z9 hS => ?_)
        have hx := rf_s7 (i := (4 * mnA M + 1)) (v := b) hx h9 o9
        refine lv_aload_n hC.1 hC.2.1 dX6_measure_197 rfl (lv_at hl 1 rfl) ?_
        refine ec_get hC hK hx.1 fX6_35 rfl dX6_measure_198 ?_
        refine lv_iconst (v := 4) hC.1 hC.2.1 dX6_measure_201 (by decide) ?_
        refine lv_aload_n hC.1 hC.2.1 dX6_measure_202 rfl (lv_at hl 1 rfl) ?_
        refine ec_get hC hK hx.1 fX6_84 rfl dX6_measure_203 ?_
        refine lv_imul hC.1 hC.2.1 dX6_measure_206 ?_
        refine lv_iconst (v := 2) hC.1 hC.2.1 dX6_measure_207 (by decide) ?_
        refine lv_iadd hC.1 hC.2.1 dX6_measure_208 ?_
        refine lv_iload hC.1 hC.2.1 dX6_measure_209 (lv_at hl 6 rfl) ?_
        refine ec_iast hC hK hS (hx.2.1 7 (by decide)) (hx.2.2.2.2.2 7 (by decide)) (4 * mnA M + 2) (ix_ma 4 (mnA M) 2) (by omega) (by omega) dX6_measure_211 (fun H locs h9 o9 z9 hS => ?_)
        have hx := rf_s7 (i := (4 * mnA M + 2)) (v := c0) hx h9 o9
        refine lv_aload_n hC.1 hC.2.1 dX6_measure_212 rfl (lv_at hl 1 rfl) ?_
        refine ec_get hC hK hx.1 fX6_35 rfl dX6_measure_213 ?_
        refine lv_iconst (v := 4) hC.1 hC.2.1 dX6_measure_216 (by decide) ?_
        refine lv_aload_n hC.1 hC.2.1 dX6_measure_217 rfl (lv_at hl 1 rfl) ?_
        refine ec_get hC hK hx.1 fX6_84 rfl dX6_measure_218 ?_
        refine lv_imul hC.1 hC.2.1 dX6_measure_221 ?_
        refine lv_iconst (v := 3) hC.1 hC.2.1 dX6_measure_222 (by decide) ?_
        refine lv_iadd hC.1 hC.2.1 dX6_measure_223 ?_
        refine lv_iload hC.1 hC.2.1 dX6_measure_224 (lv_at hl 7 rfl) ?_
        refine ec_iast hC hK hS (hx.2.1 7 (by decide)) (hx.2.2.2.2.2 7 (by decide)) (4 * mnA M + 3) (ix_ma 4 (mnA M) 3) (by omega) (by omega) dX6_measure_226 (fun H locs h9 o9 z9 hS => ?_)
        have hx := rf_s7 (i := (4 * mnA M + 3)) (v := d) hx h9 o9
        refine lv_aload_n hC.1 hC.2.1 dX6_measure_227 rfl (lv_at hl 1 rfl) ?_
        refine lv_dup hC.1 hC.2.1 dX6_measure_228 rfl ?_
        refine ec_get hC hK hx.1 fX6_84 rfl dX6_measure_229 ?_
        refine lv_iconst (v := 1) hC.1 hC.2.1 dX6_measure_232 (by decide) ?_
        refine lv_iadd hC.1 hC.2.1 dX6_measure_233 ?_
        refine ec_topi (y := nI (mnA M + 1)) (nI_1 _) ?_
        refine ec_put hC hK hS hx.1 hx.2.2.2.2.1 fX6_84 rfl rfl rfl (Nat.le_of_ble_eq_true rfl) dX6_measure_234 (fun H locs h9 o9 z9 hS => ?_)
        have hx := hx.put7 (j := 1) (v := (mnA M + 1)) h9 o9
        refine lv_aload_n hC.1 hC.2.1 dX6_measure_237 rfl (lv_at hl 1 rfl) ?_
        refine ec_get hC hK hx.1 fX6_84 rfl dX6_measure_238 ?_
        refine lv_iconst (v := 1) hC.1 hC.2.1 dX6_measure_241 (by decide) ?_
        refine lv_isub hC.1 hC.2.1 dX6_measure_242 ?_
        refine ec_topi (y := nI (mnA M)) (nI_p1 _) ?_
        exact W.iret hC.1 hC.2.1 hr (fun t9 ht9 _ => ⟨_, rfl, by rw [ht9]; exact ⟨_, rfl, fun _ => rfl, (by rw [if_pos hT, hjc]; exact hx)⟩, hS.F ht9⟩) hS.2.2 dX6_measure_243
      · refine lv_iconst (v := 0) hC.1 hC.2.1 dX6_measure_105 (by decide) ?_
        exact W.iret hC.1 hC.2.1 hr (fun t9 ht9 _ => ⟨_, rfl, by rw [ht9]; exact ⟨_, rfl, fun z => absurd z (fun z => c_102 (fz_0.mpr z)), (by rw [if_neg (fun z => c_102 (fz_0.mpr z))]; exact hx)⟩, hS.F ht9⟩) hS.2.2 dX6_measure_106
    · refine lv_aload_n hC.1 hC.2.1 dX6_measure_63 rfl (lv_at hl 1 rfl) ?_
      refine lv_aload_n hC.1 hC.2.1 dX6_measure_64 rfl (lv_at hl 1 rfl) ?_
      refine lv_iload_n hC.1 hC.2.1 dX6_measure_65 rfl (lv_at hl 2 rfl) ?_
      refine ec_go1 (ec_rV hC (c_X6_isRoom l G Y M _ y ya hwf r) kX6_77 (hOk.at hS hAN) hx (ec_rc hK hx.1 ⟨_, _, rfl⟩) hl.1 ⟨Nat.le_of_ble_eq_true rfl, Nat.le_of_ble_eq_true rfl⟩ rfl (Nat.le_of_ble_eq_true rfl) dX6_measure_66 ⟨Nat.le_of_ble_eq_true rfl, Nat.le_of_ble_eq_true rfl⟩) ?_
      refine lv_if_ne (tgt := 76) hC.1 hC.2.1 dX6_measure_69 (by decide) (fun c_69 => ?_) (fun c_69 => ?_)
      · refine lv_iload hC.1 hC.2.1 dX6_measure_76 (lv_at hl 0 rfl) ?_
        refine lv_if_ne (tgt := 85) hC.1 hC.2.1 dX6_measure_78 (by decide) (fun c_78 => ?_) (fun c_78 => ?_)
        · refine lv_aload_n hC.1 hC.2.1 dX6_measure_85 rfl (lv_at hl 1 rfl) ?_
          refine ec_get hC hK hx.1 fX6_84 rfl dX6_measure_86 ?_
          refine lv_bipush (v := 40) hC.1 hC.2.1 dX6_measure_89 (by decide) ?_
          refine lv_icmp_ne (tgt := 98) hC.1 hC.2.1 dX6_measure_91 (by decide) (fun c_91 => ?_) (fun c_91 => ?_)
          · refine lv_iconst (v := 0) hC.1 hC.2.1 dX6_measure_98 (by decide) ?_
            refine ec_topi (y := (nI (thMes M r pl a b c0 d))) (by rw [show thMes M r pl a b c0 d = 0 by simp [thMes, (bI_n0 _).mp c_69, (bI_n0 _).mp c_78, (show ¬ mnA M = 40 from fun z => c_91 (by rw [z]; rfl))]]; rfl) ?_
            exact kj
          · refine lv_iconst (v := 3) hC.1 hC.2.1 dX6_measure_94 (by decide) ?_
            refine lv_goto (tgt := 99) hC.1 hC.2.1 dX6_measure_95 (by decide) ?_
            refine ec_topi (y := (nI (thMes M r pl a b c0 d))) (by rw [show thMes M r pl a b c0 d = 3 by simp [thMes, (bI_n0 _).mp c_69, (bI_n0 _).mp c_78, ((nI_eq (a := mnA M) (b := 40) (by omega) (by decide)).mp c_91)]]; rfl) ?_
            exact kj
        · refine lv_iconst (v := 2) hC.1 hC.2.1 dX6_measure_81 (by decide) ?_
          refine lv_goto (tgt := 99) hC.1 hC.2.1 dX6_measure_82 (by decide) ?_
          refine ec_topi (y := (nI (thMes M r pl a b c0 d))) (by rw [show thMes M r pl a b c0 d = 2 by simp [thMes, (bI_n0 _).mp c_69, (bI_0 _).mp c_78]]; rfl) ?_
          exact kj
      · refine lv_iconst (v := 1) hC.1 hC.2.1 dX6_measure_72 (by decide) ?_
        refine lv_goto (tgt := 99) hC.1 hC.2.1 dX6_measure_73 (by decide) ?_
        refine ec_topi (y := (nI (thMes M r pl a b c0 d))) (by rw [show thMes M r pl a b c0 d = 1 by simp [thMes, (bI_0 _).mp c_69]]; rfl) ?_
        exact kj
  · refine lv_iload_n hC.1 hC.2.1 dX6_measure_0 rfl (lv_at hl 2 rfl) ?_
    refine lv_iconst (v := 0) hC.1 hC.2.1 dX6_measure_1 (by decide) ?_
    refine lv_bipush (v := 9) hC.1 hC.2.1 dX6_measure_2 (by decide) ?_
    refine ec_go1 (ec_rS hC (c_X6_in l G pl 0 9) kX6_73 (hOk.at hS hAN) trivial hl.1 ⟨Nat.le_of_ble_eq_true rfl, Nat.le_of_ble_eq_true rfl⟩ rfl (Nat.le_of_ble_eq_true rfl) dX6_measure_4 ⟨Nat.le_of_ble_eq_true rfl, Nat.le_of_ble_eq_true rfl⟩) ?_
    refine lv_if_eq (tgt := 60) hC.1 hC.2.1 dX6_measure_7 (by decide) (fun c_7 => ?_) (fun c_7 => ?_)
    · refine lv_iconst (v := 0) hC.1 hC.2.1 dX6_measure_60 (by decide) ?_
      refine ec_topi (y := (bI (smB pl a b c0 d))) (by rw [show smB pl a b c0 d = false by simp [smB, (bI_0 _).mp c_7]]; rfl) ?_
      exact kj
    · refine lv_iload_n hC.1 hC.2.1 dX6_measure_10 rfl (lv_at hl 3 rfl) ?_
      refine lv_iconst (v := 1) hC.1 hC.2.1 dX6_measure_11 (by decide) ?_
      refine lv_icmp_eq (tgt := 20) hC.1 hC.2.1 dX6_measure_12 (by decide) (fun c_12 => ?_) (fun c_12 => ?_)
      · refine lv_iload hC.1 hC.2.1 dX6_measure_20 (lv_at hl 4 rfl) ?_
        refine lv_bipush (v := -9) hC.1 hC.2.1 dX6_measure_22 (by decide) ?_
        refine lv_bipush (v := 9) hC.1 hC.2.1 dX6_measure_24 (by decide) ?_
        refine ec_go1 (ec_rS hC (c_X6_in l G b (-9) 9) kX6_73 (hOk.at hS hAN) trivial hl.1 ⟨Nat.le_of_ble_eq_true rfl, Nat.le_of_ble_eq_true rfl⟩ rfl (Nat.le_of_ble_eq_true rfl) dX6_measure_26 ⟨Nat.le_of_ble_eq_true rfl, Nat.le_of_ble_eq_true rfl⟩) ?_
        refine lv_if_eq (tgt := 60) hC.1 hC.2.1 dX6_measure_29 (by decide) (fun c_29 => ?_) (fun c_29 => ?_)
        · refine lv_iconst (v := 0) hC.1 hC.2.1 dX6_measure_60 (by decide) ?_
          refine ec_topi (y := (bI (smB pl a b c0 d))) (by rw [show smB pl a b c0 d = false by simp [smB, (bI_n0 _).mp c_7, c_12, (bI_0 _).mp c_29]]; rfl) ?_
          exact kj
        · refine lv_iload hC.1 hC.2.1 dX6_measure_32 (lv_at hl 5 rfl) ?_
          refine lv_bipush (v := -9) hC.1 hC.2.1 dX6_measure_34 (by decide) ?_
          refine lv_bipush (v := 9) hC.1 hC.2.1 dX6_measure_36 (by decide) ?_
          refine ec_go1 (ec_rS hC (c_X6_in l G c0 (-9) 9) kX6_73 (hOk.at hS hAN) trivial hl.1 ⟨Nat.le_of_ble_eq_true rfl, Nat.le_of_ble_eq_true rfl⟩ rfl (Nat.le_of_ble_eq_true rfl) dX6_measure_38 ⟨Nat.le_of_ble_eq_true rfl, Nat.le_of_ble_eq_true rfl⟩) ?_
          refine lv_if_eq (tgt := 60) hC.1 hC.2.1 dX6_measure_41 (by decide) (fun c_41 => ?_) (fun c_41 => ?_)
          · refine lv_iconst (v := 0) hC.1 hC.2.1 dX6_measure_60 (by decide) ?_
            refine ec_topi (y := (bI (smB pl a b c0 d))) (by rw [show smB pl a b c0 d = false by simp [smB, (bI_n0 _).mp c_7, c_12, (bI_n0 _).mp c_29, (bI_0 _).mp c_41]]; rfl) ?_
            exact kj
          · refine lv_iload hC.1 hC.2.1 dX6_measure_44 (lv_at hl 6 rfl) ?_
            refine lv_bipush (v := -9) hC.1 hC.2.1 dX6_measure_46 (by decide) ?_
            refine lv_bipush (v := 9) hC.1 hC.2.1 dX6_measure_48 (by decide) ?_
            refine ec_go1 (ec_rS hC (c_X6_in l G d (-9) 9) kX6_73 (hOk.at hS hAN) trivial hl.1 ⟨Nat.le_of_ble_eq_true rfl, Nat.le_of_ble_eq_true rfl⟩ rfl (Nat.le_of_ble_eq_true rfl) dX6_measure_50 ⟨Nat.le_of_ble_eq_true rfl, Nat.le_of_ble_eq_true rfl⟩) ?_
            refine lv_if_eq (tgt := 60) hC.1 hC.2.1 dX6_measure_53 (by decide) (fun c_53 => ?_) (fun c_53 => ?_)
            · refine lv_iconst (v := 0) hC.1 hC.2.1 dX6_measure_60 (by decide) ?_
              refine ec_topi (y := (bI (smB pl a b c0 d))) (by rw [show smB pl a b c0 d = false by simp [smB, (bI_n0 _).mp c_7, c_12, (bI_n0 _).mp c_29, (bI_n0 _).mp c_41, (bI_0 _).mp c_53]]; rfl) ?_
              exact kj
            · refine lv_iconst (v := 1) hC.1 hC.2.1 dX6_measure_56 (by decide) ?_
              refine lv_goto (tgt := 61) hC.1 hC.2.1 dX6_measure_57 (by decide) ?_
              refine ec_topi (y := (bI (smB pl a b c0 d))) (by rw [show smB pl a b c0 d = true by simp [smB, (bI_n0 _).mp c_7, c_12, (bI_n0 _).mp c_29, (bI_n0 _).mp c_41, (bI_n0 _).mp c_53]]; rfl) ?_
              exact kj
      · refine lv_iload_n hC.1 hC.2.1 dX6_measure_15 rfl (lv_at hl 3 rfl) ?_
        refine lv_iconst (v := -1) hC.1 hC.2.1 dX6_measure_16 (by decide) ?_
        refine lv_icmp_ne (tgt := 60) hC.1 hC.2.1 dX6_measure_17 (by decide) (fun c_17 => ?_) (fun c_17 => ?_)
        · refine lv_iconst (v := 0) hC.1 hC.2.1 dX6_measure_60 (by decide) ?_
          refine ec_topi (y := (bI (smB pl a b c0 d))) (by rw [show smB pl a b c0 d = false by simp [smB, (bI_n0 _).mp c_7, c_12, c_17]]; rfl) ?_
          exact kj
        · refine lv_iload hC.1 hC.2.1 dX6_measure_20 (lv_at hl 4 rfl) ?_
          refine lv_bipush (v := -9) hC.1 hC.2.1 dX6_measure_22 (by decide) ?_
          refine lv_bipush (v := 9) hC.1 hC.2.1 dX6_measure_24 (by decide) ?_
          refine ec_go1 (ec_rS hC (c_X6_in l G b (-9) 9) kX6_73 (hOk.at hS hAN) trivial hl.1 ⟨Nat.le_of_ble_eq_true rfl, Nat.le_of_ble_eq_true rfl⟩ rfl (Nat.le_of_ble_eq_true rfl) dX6_measure_26 ⟨Nat.le_of_ble_eq_true rfl, Nat.le_of_ble_eq_true rfl⟩) ?_
          refine lv_if_eq (tgt := 60) hC.1 hC.2.1 dX6_measure_29 (by decide) (fun c_29 => ?_) (fun c_29 => ?_)
          · refine lv_iconst (v := 0) hC.1 hC.2.1 dX6_measure_60 (by decide) ?_
            refine ec_topi (y := (bI (smB pl a b c0 d))) (by rw [show smB pl a b c0 d = false by simp [smB, (bI_n0 _).mp c_7, c_12, c_17, (bI_0 _).mp c_29]]; rfl) ?_
            exact kj
          · refine lv_iload hC.1 hC.2.1 dX6_measure_32 (lv_at hl 5 rfl) ?_
            refine lv_bipush (v := -9) hC.1 hC.2.1 dX6_measure_34 (by decide) ?_
            refine lv_bipush (v := 9) hC.1 hC.2.1 dX6_measure_36 (by decide) ?_
            refine ec_go1 (ec_rS hC (c_X6_in l G c0 (-9) 9) kX6_73 (hOk.at hS hAN) trivial hl.1 ⟨Nat.le_of_ble_eq_true rfl, Nat.le_of_ble_eq_true rfl⟩ rfl (Nat.le_of_ble_eq_true rfl) dX6_measure_38 ⟨Nat.le_of_ble_eq_true rfl, Nat.le_of_ble_eq_true rfl⟩) ?_
            refine lv_if_eq (tgt := 60) hC.1 hC.2.1 dX6_measure_41 (by decide) (fun c_41 => ?_) (fun c_41 => ?_)
            · refine lv_iconst (v := 0) hC.1 hC.2.1 dX6_measure_60 (by decide) ?_
              refine ec_topi (y := (bI (smB pl a b c0 d))) (by rw [show smB pl a b c0 d = false by simp [smB, (bI_n0 _).mp c_7, c_12, c_17, (bI_n0 _).mp c_29, (bI_0 _).mp c_41]]; rfl) ?_
              exact kj
            · refine lv_iload hC.1 hC.2.1 dX6_measure_44 (lv_at hl 6 rfl) ?_
              refine lv_bipush (v := -9) hC.1 hC.2.1 dX6_measure_46 (by decide) ?_
              refine lv_bipush (v := 9) hC.1 hC.2.1 dX6_measure_48 (by decide) ?_
              refine ec_go1 (ec_rS hC (c_X6_in l G d (-9) 9) kX6_73 (hOk.at hS hAN) trivial hl.1 ⟨Nat.le_of_ble_eq_true rfl, Nat.le_of_ble_eq_true rfl⟩ rfl (Nat.le_of_ble_eq_true rfl) dX6_measure_50 ⟨Nat.le_of_ble_eq_true rfl, Nat.le_of_ble_eq_true rfl⟩) ?_
              refine lv_if_eq (tgt := 60) hC.1 hC.2.1 dX6_measure_53 (by decide) (fun c_53 => ?_) (fun c_53 => ?_)
              · refine lv_iconst (v := 0) hC.1 hC.2.1 dX6_measure_60 (by decide) ?_
                refine ec_topi (y := (bI (smB pl a b c0 d))) (by rw [show smB pl a b c0 d = false by simp [smB, (bI_n0 _).mp c_7, c_12, c_17, (bI_n0 _).mp c_29, (bI_n0 _).mp c_41, (bI_0 _).mp c_53]]; rfl) ?_
                exact kj
              · refine lv_iconst (v := 1) hC.1 hC.2.1 dX6_measure_56 (by decide) ?_
                refine lv_goto (tgt := 61) hC.1 hC.2.1 dX6_measure_57 (by decide) ?_
                refine ec_topi (y := (bI (smB pl a b c0 d))) (by rw [show smB pl a b c0 d = true by simp [smB, (bI_n0 _).mp c_7, c_12, c_17, (bI_n0 _).mp c_29, (bI_n0 _).mp c_41, (bI_n0 _).mp c_53]]; rfl) ?_
                exact kj
