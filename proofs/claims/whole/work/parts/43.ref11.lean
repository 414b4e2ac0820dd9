theorem WF.beg {M : ecM} (h : WF M) : ∀ i, i ≤ mnB M → WF (begM M i)
  | 0, _ => h
  | i + 1, hi => by
    have ih := WF.beg h i (by omega)
    have hb := h.bk (i := i) (by omega)
    by_cases hc : M.1 6 i = 0 ∧ M.2.1 7 i = mhr M
    · rw [begM_p hc]
      exact ih.gv (by show M.1 4 i < (begM M i).1 7 0; rw [(begM_k M i).1 7 (by decide)]; exact hb.1) hb.2.1
    · rw [begM_f hc]; exact ih
theorem mnB_beg (M : ecM) (i : Nat) : mnB (begM M i) = mnB M := congrFun ((begM_k M i).1 7 (by decide)) 3
theorem mnB_hr (M : ecM) : mnB (hrM M) = mnB M := mnB_beg (setI M 9 0 (mhr M + 1)) (mnB M)
theorem mnB_pas (M : ecM) : ∀ i, mnB (pasM M i) = mnB M
  | 0 => rfl
  | i + 1 => by show mnB (hrM (pasM M i)) = _; rw [mnB_hr, mnB_pas M i]
theorem WF.pas {M : ecM} (h : WF M) {n : Nat} (hn : n ≤ 100) (hs : (mhr M).toInt + n ≤ 9999) : ∀ i, i ≤ n → WF (pasM M i)
  | 0, _ => h
  | i + 1, hi => by
    have ih := WF.pas h hn hs i (by omega)
    have hlt : (mhr (pasM M i) + 1).toInt = (mhr M).toInt + (i + 1 : Nat) := by
      rw [pasM_h, Int32.add_assoc, show nI i + 1 = nI (i + 1) from nI_1 i]; exact mh_n h.h0.1 h.h0.2 (by omega)
    have h0 := h.h0
    exact (ih.hr (x := mhr (pasM M i) + 1) (by rw [hlt]; omega) (by rw [hlt]; omega)).beg _ (Nat.le_refl _)

set_option maxHeartbeats 4000000 in
set_option maxRecDepth 100000 in
/-- hours pass -/
theorem c_X6_pass (l : Launch) (G : ecG) (Y : Nat → Prop) (M : ecM) (th : Int32) (y : Nat) (ya : Nat → Nat) (hY : ∀ q, Y q → ecN0 G ≤ q) (hwf : WF M) (h : Int32) : Met l yX6_pass (ecWs yX6_pass cX6_pass 6 (Option.some FieldType.int)) (ecRm 4 0 0) (ecPc [.ref y, .int h] G (fun H => rfX G Y M th y ya H)) (ecEp (fun v H1 => ∃ w : Int32, v = some (.int w) ∧ (thPas M h = 0 → w = nI (pasC M (cN h))) ∧ rfX G Y (if thPas M h = 0 then pasM M (cN h) else M) (nI (thPas M h)) y ya H1) (Y)) 0 0 (Y) := by
  refine ec_met (by decide) (Nat.le_of_ble_eq_true rfl) ?_
  intro p e s m below meth c hC hr hlocks hname hOk hpre ls hl
  have hK := hOk.1
  have hx := hpre
  have hS : va_S (Y) s.heap s.heap [] := va_S.rf
  have hAN : ∀ q, (Y) q → ecN0 G ≤ q := hY
  have hl : lv_has ls 6 [(0, .ref y), (1, .int h)] := hl
  have hn0 := hwf.n
  refine ec_join (pcj := 28) (stj := [.int (nI (thPas M h)), .ref y]) ?_ (fun kj => ?_)
  · refine ec_goE1 (ec_rV hC (c_X6_fails l G Y M _ y ya (thPas M h) (thPas_lt _ _) hY) kX6_81 (hOk.at hS hAN) hx (ec_rc hK hx.1 ⟨_, _, rfl⟩) hl.1 ⟨Nat.le_of_ble_eq_true rfl, Nat.le_of_ble_eq_true rfl⟩ rfl (Nat.le_of_ble_eq_true rfl) dX6_pass_28 ⟨Nat.le_of_ble_eq_true rfl, Nat.le_of_ble_eq_true rfl⟩) hS (fun _ h => h) (fun H locs hx hz hk1 hS => ?_)
    refine lv_if_eq (tgt := 36) hC.1 hC.2.1 dX6_pass_31 (by decide) (fun c_31 => ?_) (fun c_31 => ?_)
    · have hT : thPas M h = 0 := fz_0.mp c_31
      have hcond : rgB h 1 48 = true ∧ mhr M + h ≤ 9999 := if_y0 (k := 0) hT
      obtain ⟨n, hn1, hn2, rfl⟩ := rgB_1 (n := 48) (by decide) hcond.1
      have hnc : cN (nI n) = n := nI_clamp (by omega)
      have hmh := hwf.h0
      have hsum : (mhr M).toInt + n ≤ 9999 := by rw [← mh_n hmh.1 hmh.2 (by omega)]; exact Int32.le_iff_toInt_le.mp hcond.2
      have hpw := hwf.pas (n := n) (by omega) hsum
      refine lv_iconst (v := 0) hC.1 hC.2.1 dX6_pass_36 (by decide) ?_
      refine lv_istore_n (lv' := [(2, .int 0), (0, .ref y), (1, .int (nI n))]) hC.1 hC.2.1 dX6_pass_37 rfl hl (by decide) rfl (fun ls hl => ?_)
      refine lv_iconst (v := 0) hC.1 hC.2.1 dX6_pass_38 (by decide) ?_
      refine lv_istore_n (lv' := [(3, .int 0), (2, .int 0), (0, .ref y), (1, .int (nI n))]) hC.1 hC.2.1 dX6_pass_39 rfl hl (by decide) rfl (fun ls hl => ?_)
      refine ec_loop (n := n) (fun i H locs ls => lv_has ls 6 [(2, .int (nI (pasC M i))), (3, .int (nI i)), (0, .ref y), (1, .int (nI n))] ∧ (rfX G Y (pasM M i) (nI (thPas M (nI n))) y ya H ∧ va_S Y s.heap H locs)) ⟨⟨hl.1, hl.2.1, (ec_lvc (lv_at hl 1 rfl) (ec_lvc (lv_at hl 0 rfl) (ec_lvc (lv_at hl 2 rfl) (ec_lvc (lv_at hl 3 rfl) ec_lvn))))⟩, ⟨hx, hS⟩⟩ (fun H locs ls h9 => ?_) (fun i H locs ls hi h9 hk => ?_)
      · obtain ⟨hl, hI⟩ := h9
        obtain ⟨hx, hS⟩ := hI
        refine lv_iload_n hC.1 hC.2.1 dX6_pass_40 rfl (lv_at hl 1 rfl) ?_
        refine lv_iload_n hC.1 hC.2.1 dX6_pass_41 rfl (lv_at hl 3 rfl) ?_
        refine lv_icmp_ge (tgt := 126) hC.1 hC.2.1 dX6_pass_42 (by decide) (fun c_42 => ?_) (fun c => absurd (Int32.le_refl _) c)
        refine lv_iload_n hC.1 hC.2.1 dX6_pass_126 rfl (lv_at hl 0 rfl) ?_
        exact W.iret hC.1 hC.2.1 hr (fun t9 ht9 _ => ⟨_, rfl, by rw [ht9]; exact ⟨_, rfl, fun _ => (by rw [hnc]), (by rw [if_pos hT, hnc]; exact hx)⟩, hS.F ht9⟩) hS.2.2 dX6_pass_127
      · obtain ⟨hl, hI⟩ := h9
        obtain ⟨hx, hS⟩ := hI
        refine lv_iload_n hC.1 hC.2.1 dX6_pass_40 rfl (lv_at hl 1 rfl) ?_
        refine lv_iload_n hC.1 hC.2.1 dX6_pass_41 rfl (lv_at hl 3 rfl) ?_
        refine lv_icmp_ge (tgt := 126) hC.1 hC.2.1 dX6_pass_42 (by decide) (fun c => absurd c (fun z => Int32.lt_irrefl (Int32.lt_of_lt_of_le (nI_lt hi (by omega)) z))) (fun c_42 => ?_)
        refine lv_aload_n hC.1 hC.2.1 dX6_pass_45 rfl (lv_at hl 2 rfl) ?_
        refine lv_dup hC.1 hC.2.1 dX6_pass_46 rfl ?_
        refine ec_get hC hK hx.1 fX6_108 rfl dX6_pass_47 ?_
        refine lv_iconst (v := 1) hC.1 hC.2.1 dX6_pass_50 (by decide) ?_
        refine lv_iadd hC.1 hC.2.1 dX6_pass_51 ?_
        have hw0 := hpw i (by omega)
        have hmb : mnB (setI (pasM M i) 9 0 (mhr (pasM M i) + 1)) = mnB M := mnB_pas M i
        have hlt : (mhr (pasM M i) + 1).toInt = (mhr M).toInt + (i + 1 : Nat) := by rw [pasM_h, Int32.add_assoc, show nI i + 1 = nI (i + 1) from nI_1 i]; exact mh_n hmh.1 hmh.2 (by omega)
        have hw1 : WF (setI (pasM M i) 9 0 (mhr (pasM M i) + 1)) := hw0.hr (by rw [hlt]; omega) (by rw [hlt]; omega)
        refine ec_put hC hK hS hx.1 hx.2.2.2.2.1 fX6_108 rfl rfl rfl (Nat.le_of_ble_eq_true rfl) dX6_pass_52 (fun H locs h9 o9 z9 hS => ?_)
        have hx := hx.put9 (j := 0) (v := ((mhr (pasM M i) + 1))) h9 o9
        refine lv_iconst (v := 0) hC.1 hC.2.1 dX6_pass_55 (by decide) ?_
        refine lv_istore (lv' := [(4, .int 0), (2, .int (nI (pasC M i))), (3, .int (nI i)), (0, .ref y), (1, .int (nI n))]) hC.1 hC.2.1 dX6_pass_56 hl (by decide) rfl (fun ls hl => ?_)
        refine ec_loop (n := (mnB M)) (fun q H locs ls => lv_has ls 6 [(2, .int (nI (pasC M i + begC (setI (pasM M i) 9 0 (mhr (pasM M i) + 1)) q))), (4, .int (nI q)), (3, .int (nI i)), (0, .ref y), (1, .int (nI n))] ∧ (rfX G Y (begM (setI (pasM M i) 9 0 (mhr (pasM M i) + 1)) q) (nI (thPas M (nI n))) y ya H ∧ va_S Y s.heap H locs)) ⟨⟨hl.1, hl.2.1, (ec_lvc (lv_at hl 1 rfl) (ec_lvc (lv_at hl 0 rfl) (ec_lvc (lv_at hl 2 rfl) (ec_lvc (lv_at hl 3 rfl) (ec_lvc (lv_at hl 4 rfl) ec_lvn)))))⟩, ⟨hx, hS⟩⟩ (fun H locs ls h9 => ?_) (fun q H locs ls hq h9 hkq => ?_)
        · obtain ⟨hl, hI⟩ := h9
          obtain ⟨hx, hS⟩ := hI
          refine lv_iload hC.1 hC.2.1 dX6_pass_58 (lv_at hl 1 rfl) ?_
          refine lv_aload_n hC.1 hC.2.1 dX6_pass_60 rfl (lv_at hl 3 rfl) ?_
          refine ec_get hC hK hx.1 fX6_143 rfl dX6_pass_61 ?_
          refine lv_icmp_ge (tgt := 120) hC.1 hC.2.1 dX6_pass_64 (by decide) (fun c_64 => ?_) (fun c => absurd (by rw [show mnB (begM (setI (pasM M i) 9 0 (mhr (pasM M i) + 1)) (mnB M)) = mnB M from (mnB_beg _ _).trans hmb]; exact Int32.le_refl _) c)
          refine lv_iinc (v := (nI (i + 1))) (lv' := [(3, .int (nI (i + 1))), (2, .int (nI (pasC M i + begC (setI (pasM M i) 9 0 (mhr (pasM M i) + 1)) (mnB M)))), (4, .int (nI (mnB M))), (0, .ref y), (1, .int (nI n))]) hC.1 hC.2.1 dX6_pass_120 hl (k := 2) rfl (nI_1 _) (by decide) rfl (fun ls hl => ?_)
          refine lv_goto (tgt := 40) hC.1 hC.2.1 dX6_pass_123 (by decide) ?_
          have e8 : pasC M (i + 1) = pasC M i + begC (setI (pasM M i) 9 0 (mhr (pasM M i) + 1)) (mnB M) := by show pasC M i + begC _ (mnB (pasM M i)) = _; rw [mnB_pas]
          have e7 : pasM M (i + 1) = begM (setI (pasM M i) 9 0 (mhr (pasM M i) + 1)) (mnB M) := by show begM _ (mnB (pasM M i)) = _; rw [mnB_pas]
          rw [← e7] at hx
          -- 
          exact hk H locs ls (by rw [e8]; exact ⟨⟨hl.1, hl.2.1, (ec_lvc (lv_at hl 1 rfl) (ec_lvc (lv_at hl 0 rfl) (ec_lvc (lv_at hl 3 rfl) (ec_lvc (lv_at hl 4 rfl) ec_lvn))))⟩, ⟨hx, hS⟩⟩)
        · obtain ⟨hl, hI⟩ := h9
          obtain ⟨hx, hS⟩ := hI
          have hq2 : q < mnB M := hq
          have hqw : WF (begM (setI (pasM M i) 9 0 (mhr (pasM M i) + 1)) q) := hw1.beg q (by rw [hmb]; omega)
          have hbk := hw1.bk (i := q) (by rw [hmb]; exact hq)
          have hbr : ((setI (pasM M i) 9 0 (mhr (pasM M i) + 1))).1 4 q < mnR (begM (setI (pasM M i) 9 0 (mhr (pasM M i) + 1)) q) := by show _ < (begM (setI (pasM M i) 9 0 (mhr (pasM M i) + 1)) q).1 7 0; rw [(begM_k (setI (pasM M i) 9 0 (mhr (pasM M i) + 1)) q).1 7 (by decide)]; exact hbk.1
          have hk6 := fun z => congrFun ((begM_k (setI (pasM M i) 9 0 (mhr (pasM M i) + 1)) q).1 6 (by decide)) z
          have hk7 := fun z => congrFun ((begM_k (setI (pasM M i) 9 0 (mhr (pasM M i) + 1)) q).2.1 7 (by decide)) z
          have hk4 := fun z => congrFun ((begM_k (setI (pasM M i) 9 0 (mhr (pasM M i) + 1)) q).1 4 (by decide)) z
          have hk5 := fun z => congrFun ((begM_k (setI (pasM M i) 9 0 (mhr (pasM M i) + 1)) q).1 5 (by decide)) z
          have hmq : mhr (begM (setI (pasM M i) 9 0 (mhr (pasM M i) + 1)) q) = mhr (setI (pasM M i) 9 0 (mhr (pasM M i) + 1)) := congrFun ((begM_k (setI (pasM M i) 9 0 (mhr (pasM M i) + 1)) q).2.1 9 (by decide)) 0
          refine lv_iload hC.1 hC.2.1 dX6_pass_58 (lv_at hl 1 rfl) ?_
          refine lv_aload_n hC.1 hC.2.1 dX6_pass_60 rfl (lv_at hl 3 rfl) ?_
          refine ec_get hC hK hx.1 fX6_143 rfl dX6_pass_61 ?_
          refine lv_icmp_ge (tgt := 120) hC.1 hC.2.1 dX6_pass_64 (by decide) (fun c => absurd c (fun z => by rw [show mnB (begM (setI (pasM M i) 9 0 (mhr (pasM M i) + 1)) q) = mnB M from (mnB_beg _ _).trans hmb] at z; exact Int32.lt_irrefl (Int32.lt_of_lt_of_le (nI_lt (b := mnB M) hq (by omega)) z))) (fun c_64 => ?_)
          refine lv_aload_n hC.1 hC.2.1 dX6_pass_67 rfl (lv_at hl 3 rfl) ?_
          refine ec_get hC hK hx.1 fX6_63 rfl dX6_pass_68 ?_
          refine lv_iload hC.1 hC.2.1 dX6_pass_71 (lv_at hl 1 rfl) ?_
          refine ec_zald hC hK (hx.2.1 16 (by decide)) q rfl (by omega) (by omega) dX6_pass_73 ?_
          refine lv_if_ne (tgt := 114) hC.1 hC.2.1 dX6_pass_74 (by decide) (fun c_74 => ?_) (fun c_74 => ?_)
          · refine lv_iinc (v := (nI (q + 1))) (lv' := [(4, .int (nI (q + 1))), (2, .int (nI (pasC M i + begC (setI (pasM M i) 9 0 (mhr (pasM M i) + 1)) q))), (3, .int (nI i)), (0, .ref y), (1, .int (nI n))]) hC.1 hC.2.1 dX6_pass_114 hl (k := 1) rfl (nI_1 _) (by decide) rfl (fun ls hl => ?_)
            refine lv_goto (tgt := 58) hC.1 hC.2.1 dX6_pass_117 (by decide) ?_
            have hcd : ¬ (((setI (pasM M i) 9 0 (mhr (pasM M i) + 1))).1 6 q = 0 ∧ ((setI (pasM M i) 9 0 (mhr (pasM M i) + 1))).2.1 7 q = mhr (setI (pasM M i) 9 0 (mhr (pasM M i) + 1))) := fun z => c_74 (by show nI ((begM (setI (pasM M i) 9 0 (mhr (pasM M i) + 1)) q).1 6 q) = 0; rw [hk6, z.1]; rfl)
            have e9 : begC (setI (pasM M i) 9 0 (mhr (pasM M i) + 1)) (q + 1) = begC (setI (pasM M i) 9 0 (mhr (pasM M i) + 1)) q := begC_f hcd
            rw [← begM_f hcd] at hx
            -- 
            exact hkq H locs ls (by rw [e9]; exact ⟨⟨hl.1, hl.2.1, (ec_lvc (lv_at hl 1 rfl) (ec_lvc (lv_at hl 0 rfl) (ec_lvc (lv_at hl 2 rfl) (ec_lvc (lv_at hl 3 rfl) (ec_lvc (lv_at hl 4 rfl) ec_lvn)))))⟩, ⟨hx, hS⟩⟩)
          · refine lv_aload_n hC.1 hC.2.1 dX6_pass_77 rfl (lv_at hl 3 rfl) ?_
            refine ec_get hC hK hx.1 fX6_57 rfl dX6_pass_78 ?_
            refine lv_iload hC.1 hC.2.1 dX6_pass_81 (lv_at hl 1 rfl) ?_
            refine ec_iald hC hK (hx.2.1 14 (by decide)) q rfl (by omega) (by omega) dX6_pass_83 ?_
            refine lv_aload_n hC.1 hC.2.1 dX6_pass_84 rfl (lv_at hl 3 rfl) ?_
            refine ec_get hC hK hx.1 fX6_108 rfl dX6_pass_85 ?_
            refine lv_icmp_ne (tgt := 114) hC.1 hC.2.1 dX6_pass_88 (by decide) (fun c_88 => ?_) (fun c_88 => ?_)
            · refine lv_iinc (v := (nI (q + 1))) (lv' := [(4, .int (nI (q + 1))), (2, .int (nI (pasC M i + begC (setI (pasM M i) 9 0 (mhr (pasM M i) + 1)) q))), (3, .int (nI i)), (0, .ref y), (1, .int (nI n))]) hC.1 hC.2.1 dX6_pass_114 hl (k := 1) rfl (nI_1 _) (by decide) rfl (fun ls hl => ?_)
              refine lv_goto (tgt := 58) hC.1 hC.2.1 dX6_pass_117 (by decide) ?_
              have hcd : ¬ (((setI (pasM M i) 9 0 (mhr (pasM M i) + 1))).1 6 q = 0 ∧ ((setI (pasM M i) 9 0 (mhr (pasM M i) + 1))).2.1 7 q = mhr (setI (pasM M i) 9 0 (mhr (pasM M i) + 1))) := fun z => c_88 (by show (begM (setI (pasM M i) 9 0 (mhr (pasM M i) + 1)) q).2.1 7 q = mhr (begM (setI (pasM M i) 9 0 (mhr (pasM M i) + 1)) q); rw [hk7, hmq]; exact z.2)
              have e9 : begC (setI (pasM M i) 9 0 (mhr (pasM M i) + 1)) (q + 1) = begC (setI (pasM M i) 9 0 (mhr (pasM M i) + 1)) q := begC_f hcd
              rw [← begM_f hcd] at hx
              -- 
              exact hkq H locs ls (by rw [e9]; exact ⟨⟨hl.1, hl.2.1, (ec_lvc (lv_at hl 1 rfl) (ec_lvc (lv_at hl 0 rfl) (ec_lvc (lv_at hl 2 rfl) (ec_lvc (lv_at hl 3 rfl) (ec_lvc (lv_at hl 4 rfl) ec_lvn)))))⟩, ⟨hx, hS⟩⟩)
            · refine lv_aload_n hC.1 hC.2.1 dX6_pass_91 rfl (lv_at hl 3 rfl) ?_
              refine lv_aload_n hC.1 hC.2.1 dX6_pass_92 rfl (lv_at hl 3 rfl) ?_
              refine ec_get hC hK hx.1 fX6_51 rfl dX6_pass_93 ?_
              refine lv_iload hC.1 hC.2.1 dX6_pass_96 (lv_at hl 1 rfl) ?_
              refine ec_iald hC hK (hx.2.1 12 (by decide)) q rfl (by omega) (by omega) dX6_pass_98 ?_
              refine ec_topi (y := nI (((setI (pasM M i) 9 0 (mhr (pasM M i) + 1))).1 4 q)) (by rw [hk4]) ?_
              refine lv_aload_n hC.1 hC.2.1 dX6_pass_99 rfl (lv_at hl 3 rfl) ?_
              refine ec_get hC hK hx.1 fX6_54 rfl dX6_pass_100 ?_
              refine lv_iload hC.1 hC.2.1 dX6_pass_103 (lv_at hl 1 rfl) ?_
              refine ec_iald hC hK (hx.2.1 13 (by decide)) q rfl (by omega) (by omega) dX6_pass_105 ?_
              refine ec_topi (y := nI (((setI (pasM M i) 9 0 (mhr (pasM M i) + 1))).1 5 q)) (by rw [hk5]) ?_
              refine ec_goE1 (ec_rV hC (c_X6_gives l G Y (begM (setI (pasM M i) 9 0 (mhr (pasM M i) + 1)) q) _ y ya hY hqw (((setI (pasM M i) 9 0 (mhr (pasM M i) + 1))).1 4 q) (((setI (pasM M i) 9 0 (mhr (pasM M i) + 1))).1 5 q) hbr hbk.2.1) kX6_102 (hOk.at hS hAN) hx (ec_rc hK hx.1 ⟨_, _, rfl⟩) hl.1 ⟨Nat.le_of_ble_eq_true rfl, Nat.le_of_ble_eq_true rfl⟩ rfl (Nat.le_of_ble_eq_true rfl) dX6_pass_106 ⟨Nat.le_of_ble_eq_true rfl, Nat.le_of_ble_eq_true rfl⟩) hS (fun _ h => h) (fun H locs hx hz hk1 hS => ?_)
              have hcd : ((setI (pasM M i) 9 0 (mhr (pasM M i) + 1))).1 6 q = 0 ∧ ((setI (pasM M i) 9 0 (mhr (pasM M i) + 1))).2.1 7 q = mhr (setI (pasM M i) 9 0 (mhr (pasM M i) + 1)) := ⟨(nI_eq (b := 0) (by have := hw1.gn q; omega) (by decide)).mp (by rw [← hk6]; exact c_74), by rw [← hk7, ← hmq]; exact c_88⟩
              rw [← begM_p hcd] at hx
              refine lv_istore (lv' := [(5, .int (nI (dif ((begM (setI (pasM M i) 9 0 (mhr (pasM M i) + 1)) q).1 0 (((setI (pasM M i) 9 0 (mhr (pasM M i) + 1))).1 4 q)) (((setI (pasM M i) 9 0 (mhr (pasM M i) + 1))).1 5 q)))), (2, .int (nI (pasC M i + begC (setI (pasM M i) 9 0 (mhr (pasM M i) + 1)) q))), (4, .int (nI q)), (3, .int (nI i)), (0, .ref y), (1, .int (nI n))]) hC.1 hC.2.1 dX6_pass_109 hl (by decide) rfl (fun ls hl => ?_)
              refine lv_iinc (v := (nI (pasC M i + (begC (setI (pasM M i) 9 0 (mhr (pasM M i) + 1)) q + 1)))) (lv' := [(2, .int (nI (pasC M i + (begC (setI (pasM M i) 9 0 (mhr (pasM M i) + 1)) q + 1)))), (5, .int (nI (dif ((begM (setI (pasM M i) 9 0 (mhr (pasM M i) + 1)) q).1 0 (((setI (pasM M i) 9 0 (mhr (pasM M i) + 1))).1 4 q)) (((setI (pasM M i) 9 0 (mhr (pasM M i) + 1))).1 5 q)))), (4, .int (nI q)), (3, .int (nI i)), (0, .ref y), (1, .int (nI n))]) hC.1 hC.2.1 dX6_pass_111 hl (k := 1) rfl (nI_1 _) (by decide) rfl (fun ls hl => ?_)
              refine lv_iinc (v := (nI (q + 1))) (lv' := [(4, .int (nI (q + 1))), (2, .int (nI (pasC M i + (begC (setI (pasM M i) 9 0 (mhr (pasM M i) + 1)) q + 1)))), (5, .int (nI (dif ((begM (setI (pasM M i) 9 0 (mhr (pasM M i) + 1)) q).1 0 (((setI (pasM M i) 9 0 (mhr (pasM M i) + 1))).1 4 q)) (((setI (pasM M i) 9 0 (mhr (pasM M i) + 1))).1 5 q)))), (3, .int (nI i)), (0, .ref y), (1, .int (nI n))]) hC.1 hC.2.1 dX6_pass_114 hl (k := 2) rfl (nI_1 _) (by decide) rfl (fun ls hl => ?_)
              refine lv_goto (tgt := 58) hC.1 hC.2.1 dX6_pass_117 (by decide) ?_
              have e9 : begC (setI (pasM M i) 9 0 (mhr (pasM M i) + 1)) (q + 1) = begC (setI (pasM M i) 9 0 (mhr (pasM M i) + 1)) q + 1 := begC_p hcd
              -- 
              exact hkq H locs ls (by rw [e9]; exact ⟨⟨hl.1, hl.2.1, (ec_lvc (lv_at hl 1 rfl) (ec_lvc (lv_at hl 0 rfl) (ec_lvc (lv_at hl 3 rfl) (ec_lvc (lv_at hl 4 rfl) (ec_lvc (lv_at hl 5 rfl) ec_lvn)))))⟩, ⟨hx, hS⟩⟩)
    · refine lv_iconst (v := 0) hC.1 hC.2.1 dX6_pass_34 (by decide) ?_
      exact W.iret hC.1 hC.2.1 hr (fun t9 ht9 _ => ⟨_, rfl, by rw [ht9]; exact ⟨_, rfl, fun z => absurd z (fun z => c_31 (fz_0.mpr z)), (by rw [if_neg (fun z => c_31 (fz_0.mpr z))]; exact hx)⟩, hS.F ht9⟩) hS.2.2 dX6_pass_35
  · refine lv_aload_n hC.1 hC.2.1 dX6_pass_0 rfl (lv_at hl 0 rfl) ?_
    refine lv_iload_n hC.1 hC.2.1 dX6_pass_1 rfl (lv_at hl 1 rfl) ?_
    refine lv_iconst (v := 1) hC.1 hC.2.1 dX6_pass_2 (by decide) ?_
    refine lv_bipush (v := 48) hC.1 hC.2.1 dX6_pass_3 (by decide) ?_
    refine ec_go1 (ec_rS hC (c_X6_in l G h 1 48) kX6_73 (hOk.at hS hAN) trivial hl.1 ⟨Nat.le_of_ble_eq_true rfl, Nat.le_of_ble_eq_true rfl⟩ rfl (Nat.le_of_ble_eq_true rfl) dX6_pass_5 ⟨Nat.le_of_ble_eq_true rfl, Nat.le_of_ble_eq_true rfl⟩) ?_
    refine lv_if_eq (tgt := 23) hC.1 hC.2.1 dX6_pass_8 (by decide) (fun c_8 => ?_) (fun c_8 => ?_)
    · refine lv_iconst (v := 1) hC.1 hC.2.1 dX6_pass_23 (by decide) ?_
      refine lv_goto (tgt := 28) hC.1 hC.2.1 dX6_pass_24 (by decide) ?_
      refine ec_topi (y := (nI (thPas M h))) (by rw [show thPas M h = 1 from if_neg (fun z => absurd z.1 (by rw [(bI_0 _).mp c_8]; decide))]; rfl) ?_
      exact kj
    · refine lv_aload_n hC.1 hC.2.1 dX6_pass_11 rfl (lv_at hl 0 rfl) ?_
      refine ec_get hC hK hx.1 fX6_108 rfl dX6_pass_12 ?_
      refine lv_iload_n hC.1 hC.2.1 dX6_pass_15 rfl (lv_at hl 1 rfl) ?_
      refine lv_iadd hC.1 hC.2.1 dX6_pass_16 ?_
      refine lv_sipush (v := 9999) hC.1 hC.2.1 dX6_pass_17 (by decide) ?_
      refine lv_icmp_le (tgt := 27) hC.1 hC.2.1 dX6_pass_20 (by decide) (fun c_20 => ?_) (fun c_20 => ?_)
      · refine lv_iconst (v := 0) hC.1 hC.2.1 dX6_pass_27 (by decide) ?_
        refine ec_topi (y := (nI (thPas M h))) (by rw [show thPas M h = 0 from if_pos ⟨(bI_n0 _).mp c_8, c_20⟩]; rfl) ?_
        exact kj
      · refine lv_iconst (v := 1) hC.1 hC.2.1 dX6_pass_23 (by decide) ?_
        refine lv_goto (tgt := 28) hC.1 hC.2.1 dX6_pass_24 (by decide) ?_
        refine ec_topi (y := (nI (thPas M h))) (by rw [show thPas M h = 1 from if_neg (fun z => c_20 z.2)]; rfl) ?_
        exact kj
