set_option maxHeartbeats 4000000 in
set_option maxRecDepth 100000 in
/-- how many answers there are -/
theorem c_X5_answers (l : Launch) (G : ecG) (X : Nat → Prop) (M : ecM) (x : Nat) : Met l yX5_answers (ecWs yX5_answers cX5_answers 1 (Option.some FieldType.int)) (ecRm 7 0 0) (ecPc [.ref x] G (fun H => EC G X M x H)) (ecRp (fun v => v = some (.int (nI (mnA M))))) 0 0 (fun _ => False) := by
  refine ec_met (by decide) (Nat.le_of_ble_eq_true rfl) ?_
  intro p e s m below meth c hC hr hlocks hname hOk hpre ls hl
  have hK := hOk.1
  have hEC := hpre
  have hS : va_S (fun _ => False) s.heap s.heap [] := va_S.rf
  have hAN : ∀ q, (fun _ : Nat => False) q → ecN0 G ≤ q := fun _ h => h.elim
  have hl : lv_has ls 1 [(0, .ref x)] := hl
  obtain ⟨tg, ad, rfl, hw⟩ := hEC
  have hn0 := hw.wf.n
  refine lv_aload_n hC.1 hC.2.1 dX5_answers_0 rfl (lv_at hl 0 rfl) ?_
  refine ec_get hC hK hw.1.1 fX5_16 rfl dX5_answers_1 ?_
  obtain ⟨v0_z1, v1_z1, hL_z1⟩ := (hw.2.1 1 (by decide)).obj
  refine ec_go1 (ec_rV hC (c_Jx4a65c_size_8abf5 l G (ad 1 1) v0_z1 v1_z1 (nI (M.1 7 1))) kX5_32 (hOk.at hS hAN) hL_z1.1 (ec_rc hK hL_z1.1 ⟨_, _, rfl⟩) hl.1 ⟨Nat.le_of_ble_eq_true rfl, Nat.le_of_ble_eq_true rfl⟩ rfl (Nat.le_of_ble_eq_true rfl) dX5_answers_4 ⟨Nat.le_of_ble_eq_true rfl, Nat.le_of_ble_eq_true rfl⟩) ?_
  exact W.iret hC.1 hC.2.1 hr (fun t9 ht9 _ => ⟨_, rfl, rfl, ht9⟩) hS.2.2 dX5_answers_7

set_option maxHeartbeats 4000000 in
set_option maxRecDepth 100000 in
/-- the hour -/
theorem c_X5_hour (l : Launch) (G : ecG) (X : Nat → Prop) (M : ecM) (x : Nat) : Met l yX5_hour (ecWs yX5_hour cX5_hour 1 (Option.some FieldType.int)) (ecRm 7 0 0) (ecPc [.ref x] G (fun H => EC G X M x H)) (ecRp (fun v => v = some (.int (mhr M)))) 0 0 (fun _ => False) := by
  refine ec_met (by decide) (Nat.le_of_ble_eq_true rfl) ?_
  intro p e s m below meth c hC hr hlocks hname hOk hpre ls hl
  have hK := hOk.1
  have hEC := hpre
  have hS : va_S (fun _ => False) s.heap s.heap [] := va_S.rf
  have hAN : ∀ q, (fun _ : Nat => False) q → ecN0 G ≤ q := fun _ h => h.elim
  have hl : lv_has ls 1 [(0, .ref x)] := hl
  obtain ⟨tg, ad, rfl, hw⟩ := hEC
  have hn0 := hw.wf.n
  refine lv_aload_n hC.1 hC.2.1 dX5_hour_0 rfl (lv_at hl 0 rfl) ?_
  refine ec_get hC hK hw.1.1 fX5_25 rfl dX5_hour_1 ?_
  exact W.iret hC.1 hC.2.1 hr (fun t9 ht9 _ => ⟨_, rfl, rfl, ht9⟩) hS.2.2 dX5_hour_4

set_option maxHeartbeats 4000000 in
set_option maxRecDepth 100000 in
/-- how many filters can be used -/
theorem c_X5_usable (l : Launch) (G : ecG) (X : Nat → Prop) (M : ecM) (x : Nat) : Met l yX5_usable (ecWs yX5_usable cX5_usable 3 (Option.some FieldType.int)) (ecRm 6 0 0) (ecPc [.ref x] G (fun H => EC G X M x H)) (ecRp (fun v => v = some (.int (nI (freN M (mnF M)))))) 0 0 (fun _ => False) := by
  refine ec_met (by decide) (Nat.le_of_ble_eq_true rfl) ?_
  intro p e s m below meth c hC hr hlocks hname hOk hpre ls hl
  have hK := hOk.1
  have hEC := hpre
  have hS : va_S (fun _ => False) s.heap s.heap [] := va_S.rf
  have hAN : ∀ q, (fun _ : Nat => False) q → ecN0 G ≤ q := fun _ h => h.elim
  have hl : lv_has ls 3 [(0, .ref x)] := hl
  obtain ⟨tg, ad, rfl, hw⟩ := hEC
  have hn0 := hw.wf.n
  refine lv_iconst (v := 0) hC.1 hC.2.1 dX5_usable_0 (by decide) ?_
  refine lv_istore_n (lv' := [(1, .int 0), (0, .ref (ad 0 0))]) hC.1 hC.2.1 dX5_usable_1 rfl hl (by decide) rfl (fun ls hl => ?_)
  refine lv_iconst (v := 0) hC.1 hC.2.1 dX5_usable_2 (by decide) ?_
  refine lv_istore_n (lv' := [(2, .int 0), (1, .int 0), (0, .ref (ad 0 0))]) hC.1 hC.2.1 dX5_usable_3 rfl hl (by decide) rfl (fun ls hl => ?_)
  refine ec_loopR (n := mnF M) (fun i ls => lv_has ls 3 [(1, .int (nI (freN M i))), (2, .int (nI i)), (0, .ref (ad 0 0))] ∧ True) ⟨⟨hl.1, hl.2.1, (ec_lvc (lv_at hl 1 rfl) (ec_lvc (lv_at hl 0 rfl) (ec_lvc (lv_at hl 2 rfl) ec_lvn)))⟩, trivial⟩ (fun ls h9 => ?_) (fun i ls hi h9 hk => ?_)
  · obtain ⟨hl, hI⟩ := h9
    refine lv_iload_n hC.1 hC.2.1 dX5_usable_4 rfl (lv_at hl 1 rfl) ?_
    refine lv_aload_n hC.1 hC.2.1 dX5_usable_5 rfl (lv_at hl 2 rfl) ?_
    refine ec_get hC hK hw.1.1 fX5_19 rfl dX5_usable_6 ?_
    obtain ⟨v0_z1, v1_z1, hL_z1⟩ := (hw.2.1 2 (by decide)).obj
    refine ec_go1 (ec_rV hC (c_Jx4a65c_size_8abf5 l G (ad 1 2) v0_z1 v1_z1 (nI (M.1 7 2))) kX5_32 (hOk.at hS hAN) hL_z1.1 (ec_rc hK hL_z1.1 ⟨_, _, rfl⟩) hl.1 ⟨Nat.le_of_ble_eq_true rfl, Nat.le_of_ble_eq_true rfl⟩ rfl (Nat.le_of_ble_eq_true rfl) dX5_usable_9 ⟨Nat.le_of_ble_eq_true rfl, Nat.le_of_ble_eq_true rfl⟩) ?_
    refine lv_icmp_ge (tgt := 44) hC.1 hC.2.1 dX5_usable_12 (by decide) (fun c_12 => ?_) (fun c => absurd (Int32.le_refl _) c)
    refine lv_iload_n hC.1 hC.2.1 dX5_usable_44 rfl (lv_at hl 0 rfl) ?_
    exact W.iret hC.1 hC.2.1 hr (fun t9 ht9 _ => ⟨_, rfl, rfl, ht9⟩) hS.2.2 dX5_usable_45
  · obtain ⟨hl, hI⟩ := h9
    refine lv_iload_n hC.1 hC.2.1 dX5_usable_4 rfl (lv_at hl 1 rfl) ?_
    refine lv_aload_n hC.1 hC.2.1 dX5_usable_5 rfl (lv_at hl 2 rfl) ?_
    refine ec_get hC hK hw.1.1 fX5_19 rfl dX5_usable_6 ?_
    obtain ⟨v0_z2, v1_z2, hL_z2⟩ := (hw.2.1 2 (by decide)).obj
    refine ec_go1 (ec_rV hC (c_Jx4a65c_size_8abf5 l G (ad 1 2) v0_z2 v1_z2 (nI (M.1 7 2))) kX5_32 (hOk.at hS hAN) hL_z2.1 (ec_rc hK hL_z2.1 ⟨_, _, rfl⟩) hl.1 ⟨Nat.le_of_ble_eq_true rfl, Nat.le_of_ble_eq_true rfl⟩ rfl (Nat.le_of_ble_eq_true rfl) dX5_usable_9 ⟨Nat.le_of_ble_eq_true rfl, Nat.le_of_ble_eq_true rfl⟩) ?_
    refine lv_icmp_ge (tgt := 44) hC.1 hC.2.1 dX5_usable_12 (by decide) (fun c => absurd c (fun z => Int32.lt_irrefl (Int32.lt_of_lt_of_le (nI_lt (b := mnF M) hi (by have := hw.wf.n; omega)) z))) (fun c_12 => ?_)
    refine lv_aload_n hC.1 hC.2.1 dX5_usable_15 rfl (lv_at hl 2 rfl) ?_
    refine lv_aload_n hC.1 hC.2.1 dX5_usable_16 rfl (lv_at hl 2 rfl) ?_
    refine ec_get hC hK hw.1.1 fX5_19 rfl dX5_usable_17 ?_
    refine lv_iload_n hC.1 hC.2.1 dX5_usable_20 rfl (lv_at hl 1 rfl) ?_
    obtain ⟨v0_g3, cap_g3, g_g3, hc_g3, hn_g3, hL_g3, hD_g3, hg_g3⟩ := (hw.2.1 2 (by decide)).el (i := i) hi
    refine ec_go1 (ec_rV hC (c_Jx4a65c_get_915e3 l G (ad 1 2) (ad 2 2) i (M.1 7 2) cap_g3 v0_g3 g_g3 hi hn_g3 (by omega)) kX5_131 (hOk.at hS hAN) ⟨hL_g3, hD_g3⟩ (ec_rc hK hL_g3 ⟨_, _, rfl⟩) hl.1 ⟨Nat.le_of_ble_eq_true rfl, Nat.le_of_ble_eq_true rfl⟩ rfl (Nat.le_of_ble_eq_true rfl) dX5_usable_21 ⟨Nat.le_of_ble_eq_true rfl, Nat.le_of_ble_eq_true rfl⟩) ?_
    refine ec_topv (y := .ref (ad 8 i)) (by rw [hg_g3]; rfl) ?_
    refine ec_cast hC hK (hw.fi hi).1 ⟨_, _, rfl⟩ nX5_145.1 dX5_usable_24 ?_
    refine ec_go1 (ec_rV hC (c_X5_firstBar l G X M tg ad i hi) kX5_164 (hOk.at hS hAN) hw (ec_rc hK hw.1.1 ⟨_, _, rfl⟩) hl.1 ⟨Nat.le_of_ble_eq_true rfl, Nat.le_of_ble_eq_true rfl⟩ rfl (Nat.le_of_ble_eq_true rfl) dX5_usable_27 ⟨Nat.le_of_ble_eq_true rfl, Nat.le_of_ble_eq_true rfl⟩) ?_
    refine lv_bipush (v := 45) hC.1 hC.2.1 dX5_usable_30 (by decide) ?_
    refine lv_icmp_ne (tgt := 38) hC.1 hC.2.1 dX5_usable_32 (by decide) (fun c_32 => ?_) (fun c_32 => ?_)
    · refine lv_iinc (v := (nI (i + 1))) (lv' := [(2, .int (nI (i + 1))), (1, .int (nI (freN M i))), (0, .ref (ad 0 0))]) hC.1 hC.2.1 dX5_usable_38 hl (k := 1) rfl (nI_1 _) (by decide) rfl (fun ls hl => ?_)
      refine lv_goto (tgt := 4) hC.1 hC.2.1 dX5_usable_41 (by decide) ?_
      have e9 : freN M (i + 1) = freN M i := by rw [freN_s, if_neg c_32]; rfl
      rw [← e9] at hl
      exact hk ls ⟨⟨hl.1, hl.2.1, (ec_lvc (lv_at hl 1 rfl) (ec_lvc (lv_at hl 0 rfl) (ec_lvc (lv_at hl 2 rfl) ec_lvn)))⟩, trivial⟩
    · refine lv_iinc (v := (nI ((freN M i) + 1))) (lv' := [(1, .int (nI ((freN M i) + 1))), (2, .int (nI i)), (0, .ref (ad 0 0))]) hC.1 hC.2.1 dX5_usable_35 hl (k := 0) rfl (nI_1 _) (by decide) rfl (fun ls hl => ?_)
      refine lv_iinc (v := (nI (i + 1))) (lv' := [(2, .int (nI (i + 1))), (1, .int (nI ((freN M i) + 1))), (0, .ref (ad 0 0))]) hC.1 hC.2.1 dX5_usable_38 hl (k := 1) rfl (nI_1 _) (by decide) rfl (fun ls hl => ?_)
      refine lv_goto (tgt := 4) hC.1 hC.2.1 dX5_usable_41 (by decide) ?_
      have e9 : freN M (i + 1) = freN M i + 1 := by rw [freN_s, if_pos c_32]
      rw [← e9] at hl
      exact hk ls ⟨⟨hl.1, hl.2.1, (ec_lvc (lv_at hl 1 rfl) (ec_lvc (lv_at hl 0 rfl) (ec_lvc (lv_at hl 2 rfl) ec_lvn)))⟩, trivial⟩

theorem sh_nn : ∀ a, a < 21 → ∀ n, n < 21 → 0 < n → vf_n32 (FP.fdiv (FP.i2f (nI a)) (FP.i2f (nI n))) := by
  unfold vf_n32
  decide +kernel

set_option maxHeartbeats 4000000 in
set_option maxRecDepth 100000 in
/-- usableShare -/
theorem c_X5_usableShare (l : Launch) (hls : l.stackTraces = false) (G : ecG) (X : Nat → Prop) (M : ecM) (x : Nat) : vx_Met l yX5_usableShare (ecWs yX5_usableShare cX5_usableShare 2 (Option.some FieldType.float)) (ecRm 7 4 40) (ecPc [.ref x] G (fun H => ecXs G X H ∧ EC G X M x H)) (ecEp (fun v H1 => v = some (.float (FP.fdiv (FP.i2f (nI (freN M (mnF M)))) (FP.i2f (nI (mnF M))))) ∧ thSha M = 0 ∧ EC G X (M) x H1) (X)) (ecXc (fun E => (E, thSha M) ∈ [(eNS, 1)])) 4 40 (X) := by
  refine ec_xmet (by decide) (Nat.le_of_ble_eq_true rfl) ?_
  intro p e s m below meth c hC hr hlocks hnx hOk hpre ls hl
  have hK := hOk.1
  obtain ⟨hXs, hEC⟩ := hpre
  have hS : va_S (X) s.heap s.heap [] := va_S.rf
  have hkp : ecKp s.heap s.heap := ecKp.rf
  have hAN : ∀ q, (X) q → ecN0 G ≤ q := hXs.1
  have hl : lv_has ls 2 [(0, .ref x)] := hl
  obtain ⟨tg, ad, rfl, hw⟩ := hEC
  have hn0 := hw.wf.n
  refine lv_aload_n hC.1 hC.2.1 dX5_usableShare_0 rfl (lv_at hl 0 rfl) ?_
  refine ec_get hC hK hw.1.1 fX5_19 rfl dX5_usableShare_1 ?_
  obtain ⟨v0_z1, v1_z1, hL_z1⟩ := (hw.2.1 2 (by decide)).obj
  refine ec_go1 (ec_rV hC (c_Jx4a65c_size_8abf5 l G (ad 1 2) v0_z1 v1_z1 (nI (M.1 7 2))) kX5_32 (hOk.at hS hAN) hL_z1.1 (ec_rc hK hL_z1.1 ⟨_, _, rfl⟩) hl.1 ⟨Nat.le_of_ble_eq_true rfl, Nat.le_of_ble_eq_true rfl⟩ rfl (Nat.le_of_ble_eq_true rfl) dX5_usableShare_4 ⟨Nat.le_of_ble_eq_true rfl, Nat.le_of_ble_eq_true rfl⟩) ?_
  refine lv_istore_n (lv' := [(1, .int (nI (M.1 7 2))), (0, .ref (ad 0 0))]) hC.1 hC.2.1 dX5_usableShare_7 rfl hl (by decide) rfl (fun ls hl => ?_)
  refine lv_iload_n hC.1 hC.2.1 dX5_usableShare_8 rfl (lv_at hl 0 rfl) ?_
  refine lv_if_ne (tgt := 22) hC.1 hC.2.1 dX5_usableShare_9 (by decide) (fun c_9 => ?_) (fun c_9 => ?_)
  · refine lv_aload_n hC.1 hC.2.1 dX5_usableShare_22 rfl (lv_at hl 1 rfl) ?_
    have hnz : mnF M ≠ 0 := fun z => c_9 (by show nI (mnF M) = 0; rw [z]; rfl)
    refine ec_go1 (ec_rV hC (c_X5_usable l G X M (ad 0 0)) kX5_246 (hOk.at hS hAN) ⟨tg, ad, rfl, hw⟩ (ec_rc hK hw.1.1 ⟨_, _, rfl⟩) hl.1 ⟨Nat.le_of_ble_eq_true rfl, Nat.le_of_ble_eq_true rfl⟩ rfl (Nat.le_of_ble_eq_true rfl) dX5_usableShare_23 ⟨Nat.le_of_ble_eq_true rfl, Nat.le_of_ble_eq_true rfl⟩) ?_
    refine lv_i2f hC.1 hC.2.1 dX5_usableShare_26 ?_
    refine lv_iload_n hC.1 hC.2.1 dX5_usableShare_27 rfl (lv_at hl 0 rfl) ?_
    refine lv_i2f hC.1 hC.2.1 dX5_usableShare_28 ?_
    refine lv_fdiv hC.1 hC.2.1 dX5_usableShare_29 (sh_nn _ (by have := freN_le M (mnF M); omega) _ (show mnF M < 21 by omega) (show 0 < mnF M by omega)) ?_
    refine vx_ret ?_
    refine W.widen (k := 4) (n := 40) (Nat.le_of_ble_eq_true rfl) (Nat.le_of_ble_eq_true rfl) ?_
    exact W.fret hC.1 hC.2.1 hr (fun t9 ht9 _ => ⟨_, rfl, by rw [ht9]; exact ⟨rfl, if_neg hnz, tg, ad, rfl, hw⟩, hS.F ht9⟩) hS.2.2 dX5_usableShare_30
  · exact ec_throwN hC hls xX5_109 hOk hAN hS hkp (is := 244) (text := "there are no filters") (by decide) hl.1 hnx hlocks dX5_usableShare_12 dX5_usableShare_15 dX5_usableShare_16 dX5_usableShare_18 dX5_usableShare_21 (ecx (if_pos ((nI_eq (a := mnF M) (b := 0) (by omega) (by decide)).mp c_9)) rfl (.head _)) ⟨Nat.le_of_ble_eq_true rfl, Nat.le_of_ble_eq_true rfl, Nat.le_of_ble_eq_true rfl, Nat.le_of_ble_eq_true rfl⟩ (Nat.le_of_ble_eq_true rfl) (Nat.le_of_ble_eq_true rfl)

theorem rgB_1 {x : Int32} {n : Nat} (hn : n < 2 ^ 30) (h : rgB x 1 (nI n) = true) : ∃ j : Nat, 1 ≤ j ∧ j ≤ n ∧ x = nI j := by
  simp only [rgB, Bool.and_eq_true, decide_eq_true_eq] at h
  obtain ⟨j, h1, rfl⟩ := rgB_t (x := x) hn (by simp only [rgB, Bool.and_eq_true, decide_eq_true_eq]; exact ⟨Int32.le_trans (by decide) h.1, h.2⟩)
  refine ⟨j, ?_, h1, rfl⟩
  rcases Nat.eq_zero_or_pos j with z | z
  · subst z; exact absurd h.1 (by decide)
  · exact z
theorem WF.h0 {M : ecM} (h : WF M) : 0 ≤ (mhr M).toInt ∧ (mhr M).toInt ≤ 9999 := h.2.2.2.2.2.2.2.2.2.2.2.2.2
theorem mh_n {x : Int32} (h0 : 0 ≤ x.toInt) (h1 : x.toInt ≤ 9999) {j : Nat} (hj : j ≤ 100) : (x + nI j).toInt = x.toInt + j := by
  rw [Int32.toInt_add, nI_toInt (by omega)]
  exact Int.bmod_eq_of_le (by omega) (by omega)
theorem hrM_h (M : ecM) : mhr (hrM M) = mhr M + 1 := congrFun ((begM_k (setI M 9 0 (mhr M + 1)) (mnB M)).2.1 9 (by decide)) 0
theorem pasM_h (M : ecM) : ∀ i, mhr (pasM M i) = mhr M + nI i
  | 0 => by show mhr M = mhr M + nI 0; rw [show nI 0 = 0 from rfl, Int32.add_zero]
  | i + 1 => by
    show mhr (hrM (pasM M i)) = _
    rw [hrM_h, pasM_h M i, ← nI_1 i, Int32.add_assoc]

set_option maxHeartbeats 4000000 in
set_option maxRecDepth 100000 in
/-- pass -/
theorem c_X5_pass (l : Launch) (hls : l.stackTraces = false) (G : ecG) (X : Nat → Prop) (M : ecM) (x : Nat) (h : Int32) : vx_Met l yX5_pass (ecWs yX5_pass cX5_pass 4 (Option.some FieldType.int)) (ecRm 9 8 150) (ecPc [.ref x, .int h] G (fun H => ecXs G X H ∧ EC G X M x H)) (ecEp (fun v H1 => v = some (.int (nI (pasC M (cN h)))) ∧ thPas M h = 0 ∧ EC G X (pasM M (cN h)) x H1) (X)) (ecXc (fun E => (E, thPas M h) ∈ [(eAG, 1)])) 8 150 (X) := by
  refine ec_xmet (by decide) (Nat.le_of_ble_eq_true rfl) ?_
  intro p e s m below meth c hC hr hlocks hnx hOk hpre ls hl
  have hK := hOk.1
  obtain ⟨hXs, hEC⟩ := hpre
  have hS : va_S (X) s.heap s.heap [] := va_S.rf
  have hkp : ecKp s.heap s.heap := ecKp.rf
  have hAN : ∀ q, (X) q → ecN0 G ≤ q := hXs.1
  have hl : lv_has ls 4 [(0, .ref x), (1, .int h)] := hl
  obtain ⟨tg, ad, rfl, hw⟩ := hEC
  have hn0 := hw.wf.n
  refine lv_iload_n hC.1 hC.2.1 dX5_pass_0 rfl (lv_at hl 1 rfl) ?_
  refine lv_iconst (v := 1) hC.1 hC.2.1 dX5_pass_1 (by decide) ?_
  refine lv_icmp_lt (tgt := 23) hC.1 hC.2.1 dX5_pass_2 (by decide) (fun c_2 => ?_) (fun c_2 => ?_)
  · exact ec_throw hC hls xX5_90 hOk hAN hS hkp (is := 233) (text := "so many hours can not pass") (by decide) hl.1 hnx hlocks dX5_pass_23 dX5_pass_26 dX5_pass_27 dX5_pass_29 dX5_pass_32 (ecx (if_neg (fun z => absurd z.1 (by rw [rgB_lo c_2]; decide))) rfl (.head _)) ⟨Nat.le_of_ble_eq_true rfl, Nat.le_of_ble_eq_true rfl, Nat.le_of_ble_eq_true rfl, Nat.le_of_ble_eq_true rfl⟩ (Nat.le_of_ble_eq_true rfl) (Nat.le_of_ble_eq_true rfl)
  · refine lv_iload_n hC.1 hC.2.1 dX5_pass_5 rfl (lv_at hl 1 rfl) ?_
    refine lv_bipush (v := 48) hC.1 hC.2.1 dX5_pass_6 (by decide) ?_
    refine lv_icmp_gt (tgt := 23) hC.1 hC.2.1 dX5_pass_8 (by decide) (fun c_8 => ?_) (fun c_8 => ?_)
    · exact ec_throw hC hls xX5_90 hOk hAN hS hkp (is := 233) (text := "so many hours can not pass") (by decide) hl.1 hnx hlocks dX5_pass_23 dX5_pass_26 dX5_pass_27 dX5_pass_29 dX5_pass_32 (ecx (if_neg (fun z => absurd z.1 (by rw [rgB_hi c_8]; decide))) rfl (.head _)) ⟨Nat.le_of_ble_eq_true rfl, Nat.le_of_ble_eq_true rfl, Nat.le_of_ble_eq_true rfl, Nat.le_of_ble_eq_true rfl⟩ (Nat.le_of_ble_eq_true rfl) (Nat.le_of_ble_eq_true rfl)
    · refine lv_aload_n hC.1 hC.2.1 dX5_pass_11 rfl (lv_at hl 0 rfl) ?_
      refine ec_get hC hK hw.1.1 fX5_25 rfl dX5_pass_12 ?_
      refine lv_iload_n hC.1 hC.2.1 dX5_pass_15 rfl (lv_at hl 1 rfl) ?_
      refine lv_iadd hC.1 hC.2.1 dX5_pass_16 ?_
      refine lv_sipush (v := 9999) hC.1 hC.2.1 dX5_pass_17 (by decide) ?_
      refine lv_icmp_le (tgt := 33) hC.1 hC.2.1 dX5_pass_20 (by decide) (fun c_20 => ?_) (fun c_20 => ?_)
      · obtain ⟨n, hn1, hn2, rfl⟩ := rgB_1 (n := 48) (by decide) (rgB_ok (Int32.not_lt.mpr (Int32.not_lt.mp c_2)) c_8)
        have hnc : cN (nI n) = n := nI_clamp (by omega)
        have hmh := hw.wf.h0
        have hsum : (mhr M).toInt + n ≤ 9999 := by rw [← mh_n hmh.1 hmh.2 (by omega)]; exact Int32.le_iff_toInt_le.mp c_20
        refine lv_iconst (v := 0) hC.1 hC.2.1 dX5_pass_33 (by decide) ?_
        refine lv_istore_n (lv' := [(2, .int 0), (0, .ref (ad 0 0)), (1, .int (nI n))]) hC.1 hC.2.1 dX5_pass_34 rfl hl (by decide) rfl (fun ls hl => ?_)
        refine lv_iconst (v := 0) hC.1 hC.2.1 dX5_pass_35 (by decide) ?_
        refine lv_istore_n (lv' := [(3, .int 0), (2, .int 0), (0, .ref (ad 0 0)), (1, .int (nI n))]) hC.1 hC.2.1 dX5_pass_36 rfl hl (by decide) rfl (fun ls hl => ?_)
        refine ec_loop (n := n) (fun i H locs ls => lv_has ls 4 [(2, .int (nI (pasC M i))), (3, .int (nI i)), (0, .ref (ad 0 0)), (1, .int (nI n))] ∧ ∃ ad1 : Nat → Nat → Nat, ad1 0 0 = ad 0 0 ∧ ecO G X (pasM M i) tg ad1 H ∧ va_S X s.heap H locs) ⟨⟨hl.1, hl.2.1, (ec_lvc (lv_at hl 1 rfl) (ec_lvc (lv_at hl 0 rfl) (ec_lvc (lv_at hl 2 rfl) (ec_lvc (lv_at hl 3 rfl) ec_lvn))))⟩, ⟨ad, rfl, hw, hS⟩⟩ (fun H locs ls h9 => ?_) (fun i H locs ls hi h9 hk => ?_)
        · obtain ⟨hl, hI⟩ := h9
          obtain ⟨ad, h00, hw, hS⟩ := hI
          rw [← h00] at hl
          refine lv_iload_n hC.1 hC.2.1 dX5_pass_37 rfl (lv_at hl 1 rfl) ?_
          refine lv_iload_n hC.1 hC.2.1 dX5_pass_38 rfl (lv_at hl 3 rfl) ?_
          refine lv_icmp_ge (tgt := 65) hC.1 hC.2.1 dX5_pass_39 (by decide) (fun c_39 => ?_) (fun c => absurd (Int32.le_refl _) c)
          refine lv_iload_n hC.1 hC.2.1 dX5_pass_65 rfl (lv_at hl 0 rfl) ?_
          refine vx_ret ?_
          refine W.widen (k := 8) (n := 150) (Nat.le_of_ble_eq_true rfl) (Nat.le_of_ble_eq_true rfl) ?_
          exact W.iret hC.1 hC.2.1 hr (fun t9 ht9 _ => ⟨_, rfl, by rw [ht9]; exact ⟨(by rw [hnc]), if_pos ⟨rgB_ok (Int32.not_lt.mpr (Int32.not_lt.mp c_2)) c_8, c_20⟩, tg, ad, h00, (by rw [hnc]; exact hw)⟩, hS.F ht9⟩) hS.2.2 dX5_pass_66
        · obtain ⟨hl, hI⟩ := h9
          obtain ⟨ad, h00, hw, hS⟩ := hI
          rw [← h00] at hl
          have hlab : ecA G (ad 0 0) (eO 5 [.ref (ad 1 0), .ref (ad 1 1), .ref (ad 1 2), .ref (ad 1 3), .int (mhr (pasM M i)), .int (mlm (pasM M i))]) H := hw.1.1
          refine lv_iload_n hC.1 hC.2.1 dX5_pass_37 rfl (lv_at hl 1 rfl) ?_
          refine lv_iload_n hC.1 hC.2.1 dX5_pass_38 rfl (lv_at hl 3 rfl) ?_
          refine lv_icmp_ge (tgt := 65) hC.1 hC.2.1 dX5_pass_39 (by decide) (fun c => absurd c (fun z => Int32.lt_irrefl (Int32.lt_of_lt_of_le (nI_lt hi (by omega)) z))) (fun c_39 => ?_)
          refine lv_aload_n hC.1 hC.2.1 dX5_pass_42 rfl (lv_at hl 2 rfl) ?_
          refine lv_dup hC.1 hC.2.1 dX5_pass_43 rfl ?_
          refine ec_get hC hK hlab fX5_25 rfl dX5_pass_44 ?_
          refine lv_iconst (v := 1) hC.1 hC.2.1 dX5_pass_47 (by decide) ?_
          refine lv_iadd hC.1 hC.2.1 dX5_pass_48 ?_
          refine ec_put hC hK hS hlab hw.1.2.2 fX5_25 rfl rfl rfl (Nat.le_of_ble_eq_true rfl) dX5_pass_49 (fun H locs h9 o9 z9 hS => ?_)
          have hlab : ecA G (ad 0 0) (eO 5 [.ref (ad 1 0), .ref (ad 1 1), .ref (ad 1 2), .ref (ad 1 3), .int ((mhr (pasM M i)) + 1), .int (mlm (pasM M i))]) H := h9
          refine lv_iload_n hC.1 hC.2.1 dX5_pass_52 rfl (lv_at hl 0 rfl) ?_
          refine lv_aload_n hC.1 hC.2.1 dX5_pass_53 rfl (lv_at hl 2 rfl) ?_
          have hlt : (mhr (pasM M i) + 1).toInt = (mhr M).toInt + (i + 1 : Nat) := by rw [pasM_h, Int32.add_assoc, show nI i + 1 = nI (i + 1) from nI_1 i]; exact mh_n hmh.1 hmh.2 (by omega)
          have hw := hw.setHr (by rw [hlt]; omega) (by rw [hlt]; omega) hlab (fun q _ hn => o9 q hn)
          refine ec_goE1 (ec_rV hC (c_X5_beginBookings l G X (setI (pasM M i) 9 0 (mhr (pasM M i) + 1)) tg ad hXs.1) kX5_235 (hOk.at hS hAN) hw (ec_rc hK hw.1.1 ⟨_, _, rfl⟩) hl.1 ⟨Nat.le_of_ble_eq_true rfl, Nat.le_of_ble_eq_true rfl⟩ rfl (Nat.le_of_ble_eq_true rfl) dX5_pass_54 ⟨Nat.le_of_ble_eq_true rfl, Nat.le_of_ble_eq_true rfl⟩) hS (fun _ h => h) (fun H locs hp hz hk1 hS => ?_)
          obtain ⟨ad1, h01, hw⟩ := hp
          refine lv_iadd hC.1 hC.2.1 dX5_pass_57 ?_
          refine ec_topi (y := nI (pasC M (i + 1))) (nI_add _ _) ?_
          refine lv_istore_n (lv' := [(2, .int (nI (pasC M (i + 1)))), (3, .int (nI i)), (0, .ref (ad 0 0)), (1, .int (nI n))]) hC.1 hC.2.1 dX5_pass_58 rfl hl (by decide) rfl (fun ls hl => ?_)
          refine lv_iinc (v := (nI (i + 1))) (lv' := [(3, .int (nI (i + 1))), (2, .int (nI (pasC M (i + 1)))), (0, .ref (ad 0 0)), (1, .int (nI n))]) hC.1 hC.2.1 dX5_pass_59 hl (k := 1) rfl (nI_1 _) (by decide) rfl (fun ls hl => ?_)
          refine lv_goto (tgt := 37) hC.1 hC.2.1 dX5_pass_62 (by decide) ?_
          rw [h00] at hl
          exact hk H locs ls ⟨⟨hl.1, hl.2.1, (ec_lvc (lv_at hl 1 rfl) (ec_lvc (lv_at hl 0 rfl) (ec_lvc (lv_at hl 2 rfl) (ec_lvc (lv_at hl 3 rfl) ec_lvn))))⟩, ⟨ad1, h01.trans h00, hw, hS⟩⟩
      · exact ec_throw hC hls xX5_90 hOk hAN hS hkp (is := 233) (text := "so many hours can not pass") (by decide) hl.1 hnx hlocks dX5_pass_23 dX5_pass_26 dX5_pass_27 dX5_pass_29 dX5_pass_32 (ecx (if_neg (fun z => c_20 z.2)) rfl (.head _)) ⟨Nat.le_of_ble_eq_true rfl, Nat.le_of_ble_eq_true rfl, Nat.le_of_ble_eq_true rfl, Nat.le_of_ble_eq_true rfl⟩ (Nat.le_of_ble_eq_true rfl) (Nat.le_of_ble_eq_true rfl)
