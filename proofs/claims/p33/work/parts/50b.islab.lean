/-- how many terms a sample of the product row has -/
def nn (n : Nat) : Nat := if n < 3 then n + 1 else 4
theorem nn_4 (n : Nat) : nn n ≤ 4 := by unfold nn; split <;> omega
theorem nn_n (n : Nat) : nn n ≤ n + 1 := by unfold nn; split <;> omega
theorem nn_x {n : Nat} (h : nn n < 4) : n < nn n := by unfold nn at h ⊢; split at h <;> simp_all
theorem nz_if {n : Nat} (h : n < 2147483648) : (if nI n = 0 then (1 : Int64) else 0) = if n = 0 then 1 else 0 := by
  by_cases z : n = 0
  · rw [z]; rfl
  · rw [if_neg z, if_neg (show ¬ nI n = 0 from fun q => z ((nI_eq (b := 0) h (by decide)).mp q))]
theorem fre_1 (M : ecM) (k : Nat) : nI (freN M k) + bI (decide (barM M k = 45)) = nI (freN M (k + 1)) := by
  rw [freN_s]
  by_cases z : barM M k = 45
  · rw [if_pos z, decide_eq_true z]; exact nI_add _ 1
  · rw [if_neg z, decide_eq_false z]; exact nI_add _ 0
theorem dz {a b : Nat} (ha : a < 2147483648) (hb : b < 2147483648) (h : a = 0 ↔ b = 0) : bI (decide (nI a = 0)) = bI (decide (nI b = 0)) := by
  congr 1
  exact decide_eq_decide.mpr ⟨fun q => congrArg nI (h.mp ((nI_eq (b := 0) ha (by decide)).mp q)), fun q => congrArg nI (h.mpr ((nI_eq (b := 0) hb (by decide)).mp q))⟩
theorem le_n {a b : Nat} (h : a ≤ b) (hb : b < 2147483648) : ¬ nI b < nI a := fun z => Int32.lt_irrefl (Int32.lt_of_lt_of_le z (nI_le h hb))
theorem lt_n {a b : Nat} (h : a < b) (hb : b < 2147483648) : ¬ nI b ≤ nI a := fun z => Int32.lt_irrefl (Int32.lt_of_lt_of_le (nI_lt h hb) z)
theorem n_lt {a b : Nat} (h : ¬ nI b ≤ nI a) (ha : a < 2147483648) : a < b := Nat.lt_of_not_le (fun z => h (nI_le z ha))
theorem ng_0 {x : Int32} (h : 0 ≤ x.toInt) : ¬ x < 0 := by
  rw [Int32.lt_iff_toInt_lt]
  show ¬ x.toInt < 0
  omega

set_option maxHeartbeats 4000000 in
set_option maxRecDepth 100000 in
/-- THE LOOK at a laboratory: it is as it should be, and stays as it is -/
theorem c_L_isLab (l : Launch) (hls : l.stackTraces = false) (G : ecG) (X : Nat → Prop) (M : ecM) (x : Nat) {h9 c9 a9 n9 : Nat} (hP : PI h9 c9 a9 n9 M) (hh : h9 ≤ 100000) (hc9 : c9 ≤ 100000) : vx_Met l yL_isLab (ecWs yL_isLab cL_isLab 13 (Option.some FieldType.boolean)) (ecRm 9 6000 60000) (ecPc [.ref x, .int (nI (mnR M)), .int (nI (mnF M)), .int (mlm M)] G (fun H => ecXs G X H ∧ EC G X M x H)) (ecEp (fun v H1 => v = some (.int 1) ∧ EC G X M x H1) X) (ecXc (fun _ => False)) 6000 60000 X := by
  refine ec_xmet (by decide) (Nat.le_of_ble_eq_true rfl) ?_
  intro p e s m below meth c hC hr hlocks hnx hOk hpre ls hl
  have hK := hOk.1
  obtain ⟨hXs, hEC⟩ := hpre
  have hS : va_S X s.heap s.heap [] := va_S.rf
  have hAN : ∀ q, X q → ecN0 G ≤ q := hXs.1
  have hW := hEC.wf
  have hn0 := hW.n
  have hl : lv_has ls 13 [(0, .ref x), (1, .int (nI (mnR M))), (2, .int (nI (mnF M))), (3, .int (mlm M))] := hl
  refine lv_iconst (v := 0) hC.1 hC.2.1 dL_isLab_0 (by decide) ?_
  refine lv_istore (lv' := [(4, .int 0), (0, .ref x), (1, .int (nI (mnR M))), (2, .int (nI (mnF M))), (3, .int (mlm M))]) hC.1 hC.2.1 dL_isLab_1 hl (by decide) rfl (fun ls hl => ?_)
  refine lv_aload_n hC.1 hC.2.1 dL_isLab_3 rfl (lv_at hl 1 rfl) ?_
  refine ec_go1 (ec_rV hC (c_X5_answers l G X M x) kL_111 (hOk.at hS hAN) hEC (hEC.rcv hK) hl.1 ⟨Nat.le_of_ble_eq_true rfl, Nat.le_of_ble_eq_true rfl⟩ rfl (Nat.le_of_ble_eq_true rfl) dL_isLab_4 ⟨(by show _ ≤ 6000; omega), (by show _ ≤ 60000; omega)⟩) ?_
  refine lv_istore (lv' := [(5, .int (nI (mnA M))), (4, .int 0), (0, .ref x), (1, .int (nI (mnR M))), (2, .int (nI (mnF M))), (3, .int (mlm M))]) hC.1 hC.2.1 dL_isLab_7 hl (by decide) rfl (fun ls hl => ?_)
  refine lv_iconst (v := 0) hC.1 hC.2.1 dL_isLab_9 (by decide) ?_
  refine lv_istore (lv' := [(6, .int 0), (5, .int (nI (mnA M))), (4, .int 0), (0, .ref x), (1, .int (nI (mnR M))), (2, .int (nI (mnF M))), (3, .int (mlm M))]) hC.1 hC.2.1 dL_isLab_10 hl (by decide) rfl (fun ls hl => ?_)
  refine ec_loopC (n := (mnA M)) 20 200 (fun i H locs ls => lv_has ls 13 [(6, .int (nI i)), (4, .int 0), (0, .ref x), (1, .int (nI (mnR M))), (2, .int (nI (mnF M))), (3, .int (mlm M)), (5, .int (nI (mnA M)))] ∧ (va_S X s.heap H locs ∧ ecXs G X H ∧ EC G X M x H) ∧ True) ⟨⟨hl.1, hl.2.1, (ec_lvc (lv_at hl 0 rfl) (ec_lvc (lv_at hl 2 rfl) (ec_lvc (lv_at hl 3 rfl) (ec_lvc (lv_at hl 4 rfl) (ec_lvc (lv_at hl 5 rfl) (ec_lvc (lv_at hl 6 rfl) (ec_lvc (lv_at hl 1 rfl) ec_lvn)))))))⟩, ⟨hS, hXs, hEC⟩, trivial⟩ (fun H locs ls h9 => ?_) (fun i H locs ls hi h9 hk => ?_)
  · obtain ⟨hl, hW9, hI⟩ := h9
    obtain ⟨hS, hXs, hEC⟩ := hW9
    refine lv_iload hC.1 hC.2.1 dL_isLab_12 (lv_at hl 0 rfl) ?_
    refine lv_iload hC.1 hC.2.1 dL_isLab_14 (lv_at hl 6 rfl) ?_
    refine lv_icmp_ge (tgt := 89) hC.1 hC.2.1 dL_isLab_16 (by decide) (fun c_16 => ?_) (fun c => absurd (Int32.le_refl _) c)
    refine lv_iconst (v := 0) hC.1 hC.2.1 dL_isLab_89 (by decide) ?_
    refine lv_istore (lv' := [(6, .int 0), (4, .int 0), (0, .ref x), (1, .int (nI (mnR M))), (2, .int (nI (mnF M))), (3, .int (mlm M)), (5, .int (nI (mnA M)))]) hC.1 hC.2.1 dL_isLab_90 hl (by decide) rfl (fun ls hl => ?_)
    refine ec_loopC (n := (mnF M)) 248 2480 (fun k H locs ls => lv_has ls 13 [(6, .int (nI k)), (4, .int (nI (freN M k))), (0, .ref x), (1, .int (nI (mnR M))), (2, .int (nI (mnF M))), (3, .int (mlm M)), (5, .int (nI (mnA M)))] ∧ (va_S X s.heap H locs ∧ ecXs G X H ∧ EC G X M x H) ∧ True) ⟨⟨hl.1, hl.2.1, (ec_lvc (lv_at hl 0 rfl) (ec_lvc (lv_at hl 1 rfl) (ec_lvc (lv_at hl 2 rfl) (ec_lvc (lv_at hl 3 rfl) (ec_lvc (lv_at hl 4 rfl) (ec_lvc (lv_at hl 5 rfl) (ec_lvc (lv_at hl 6 rfl) ec_lvn)))))))⟩, ⟨hS, hXs, hEC⟩, trivial⟩ (fun H locs ls h9 => ?_) (fun k H locs ls hk h9 hkk => ?_)
    · obtain ⟨hl, hW9, hI⟩ := h9
      obtain ⟨hS, hXs, hEC⟩ := hW9
      refine lv_iload hC.1 hC.2.1 dL_isLab_92 (lv_at hl 0 rfl) ?_
      refine lv_iload_n hC.1 hC.2.1 dL_isLab_94 rfl (lv_at hl 4 rfl) ?_
      refine lv_icmp_ge (tgt := 315) hC.1 hC.2.1 dL_isLab_95 (by decide) (fun c_95 => ?_) (fun c => absurd (Int32.le_refl _) c)
      refine lv_iconst (v := 0) hC.1 hC.2.1 dL_isLab_315 (by decide) ?_
      refine lv_istore (lv' := [(6, .int 0), (4, .int (nI (freN M (mnF M)))), (0, .ref x), (1, .int (nI (mnR M))), (2, .int (nI (mnF M))), (3, .int (mlm M)), (5, .int (nI (mnA M)))]) hC.1 hC.2.1 dL_isLab_316 hl (by decide) rfl (fun ls hl => ?_)
      refine lv_iconst (v := 0) hC.1 hC.2.1 dL_isLab_318 (by decide) ?_
      refine lv_istore (lv' := [(7, .int 0), (6, .int 0), (4, .int (nI (freN M (mnF M)))), (0, .ref x), (1, .int (nI (mnR M))), (2, .int (nI (mnF M))), (3, .int (mlm M)), (5, .int (nI (mnA M)))]) hC.1 hC.2.1 dL_isLab_319 hl (by decide) rfl (fun ls hl => ?_)
      refine ec_loopC (n := (mnR M)) 16 160 (fun r H locs ls => lv_has ls 13 [(7, .int (nI r)), (6, .int (nI (ssN M (mnA M) r))), (4, .int (nI (freN M (mnF M)))), (0, .ref x), (1, .int (nI (mnR M))), (2, .int (nI (mnF M))), (3, .int (mlm M)), (5, .int (nI (mnA M)))] ∧ (va_S X s.heap H locs ∧ ecXs G X H ∧ EC G X M x H) ∧ True) ⟨⟨hl.1, hl.2.1, (ec_lvc (lv_at hl 0 rfl) (ec_lvc (lv_at hl 1 rfl) (ec_lvc (lv_at hl 2 rfl) (ec_lvc (lv_at hl 3 rfl) (ec_lvc (lv_at hl 4 rfl) (ec_lvc (lv_at hl 5 rfl) (ec_lvc (lv_at hl 6 rfl) (ec_lvc (lv_at hl 7 rfl) ec_lvn))))))))⟩, ⟨hS, hXs, hEC⟩, trivial⟩ (fun H locs ls h9 => ?_) (fun r H locs ls hr9 h9 hkr => ?_)
      · obtain ⟨hl, hW9, hI4⟩ := h9
        obtain ⟨hS, hXs, hEC⟩ := hW9
        refine lv_iload hC.1 hC.2.1 dL_isLab_321 (lv_at hl 0 rfl) ?_
        refine lv_iload_n hC.1 hC.2.1 dL_isLab_323 rfl (lv_at hl 4 rfl) ?_
        refine lv_icmp_ge (tgt := 376) hC.1 hC.2.1 dL_isLab_324 (by decide) (fun c_324 => ?_) (fun c => absurd (Int32.le_refl _) c)
        have hfl := freN_le M (mnF M)
        have hsl := ssN_le M (mnR M) (mnA M)
        refine lv_aload_n hC.1 hC.2.1 dL_isLab_376 rfl (lv_at hl 3 rfl) ?_
        refine ec_go1 (ec_rV hC (c_X5_usable l G X M x) kL_138 (hOk.at hS hAN) hEC (hEC.rcv hK) hl.1 ⟨Nat.le_of_ble_eq_true rfl, Nat.le_of_ble_eq_true rfl⟩ rfl (Nat.le_of_ble_eq_true rfl) dL_isLab_377 ⟨(by show _ ≤ 6000; omega), (by show _ ≤ 60000; omega)⟩) ?_
        refine lv_iload hC.1 hC.2.1 dL_isLab_380 (lv_at hl 2 rfl) ?_
        refine lv_icmp_ne (tgt := 458) hC.1 hC.2.1 dL_isLab_382 (by decide) (fun c => absurd rfl c) (fun c_382 => ?_)
        refine lv_iload_n hC.1 hC.2.1 dL_isLab_385 rfl (lv_at hl 5 rfl) ?_
        refine lv_if_eq (tgt := 403) hC.1 hC.2.1 dL_isLab_386 (by decide) (fun c_386 => ?_) (fun c_386 => ?_)
        · refine lv_iload hC.1 hC.2.1 dL_isLab_403 (lv_at hl 1 rfl) ?_
          refine lv_iload hC.1 hC.2.1 dL_isLab_405 (lv_at hl 7 rfl) ?_
          refine lv_icmp_gt (tgt := 458) hC.1 hC.2.1 dL_isLab_407 (by decide) (fun c => absurd c (le_n hsl (by omega))) (fun c_407 => ?_)
          refine lv_iload hC.1 hC.2.1 dL_isLab_410 (lv_at hl 7 rfl) ?_
          refine lw_is0 hC dL_isLab_412 dL_isLab_415 dL_isLab_416 dL_isLab_419 ?_
          refine lv_iload hC.1 hC.2.1 dL_isLab_420 (lv_at hl 1 rfl) ?_
          refine lw_is0 hC dL_isLab_422 dL_isLab_425 dL_isLab_426 dL_isLab_429 ?_
          refine lv_icmp_ne (tgt := 458) hC.1 hC.2.1 dL_isLab_430 (by decide) (fun c => absurd (dz (by omega) (by omega) (ssN_iff hW)) c) (fun c_430 => ?_)
          refine lv_aload_n hC.1 hC.2.1 dL_isLab_433 rfl (lv_at hl 3 rfl) ?_
          refine lv_iload_n hC.1 hC.2.1 dL_isLab_434 rfl (lv_at hl 5 rfl) ?_
          have hT9 := T_Fx hW
          refine ec_goXE1 (ec_xSH hC (c_L_bar l hls G X M x (nI (mnF M))) kL_125 (hOk.at hS hAN) ⟨hXs, hEC⟩ hl.1 ⟨Nat.le_of_ble_eq_true rfl, Nat.le_of_ble_eq_true rfl⟩ rfl (Nat.le_of_ble_eq_true rfl) dL_isLab_435 ⟨(by show _ ≤ 6000; omega), (by show _ ≤ 60000; omega)⟩) hS (fun _ h => h) (fun _ _ _ _ _ hx9 => hx9.elim) (fun H locs hEC hzs hk1 hS => ?_)
          rw [ite_self] at hEC
          have hXs := hXs.le hzs
          refine ec_topi (y := (-2500000)) (by rw [hT9]; rfl) ?_
          refine lv_ldc hC.1 hC.2.1 hC.2.2.2.1 (hC.2.2.2.2 _ q399) dL_isLab_438 ?_
          refine lv_icmp_ne (tgt := 458) hC.1 hC.2.1 dL_isLab_440 (by decide) (fun c => absurd rfl c) (fun _ => ?_)
          refine lv_aload_n hC.1 hC.2.1 dL_isLab_443 rfl (lv_at hl 3 rfl) ?_
          refine lv_iload hC.1 hC.2.1 dL_isLab_444 (lv_at hl 7 rfl) ?_
          have hT9 := T_Ax hW
          refine ec_goXE1 (ec_xSH hC (c_L_age l hls G X M x (nI (mnA M))) kL_145 (hOk.at hS hAN) ⟨hXs, hEC⟩ hl.1 ⟨Nat.le_of_ble_eq_true rfl, Nat.le_of_ble_eq_true rfl⟩ rfl (Nat.le_of_ble_eq_true rfl) dL_isLab_446 ⟨(by show _ ≤ 6000; omega), (by show _ ≤ 60000; omega)⟩) hS (fun _ h => h) (fun _ _ _ _ _ hx9 => hx9.elim) (fun H locs hEC hzs hk1 hS => ?_)
          rw [ite_self] at hEC
          have hXs := hXs.le hzs
          refine ec_topi (y := (-2500000)) (by rw [hT9]; rfl) ?_
          refine lv_ldc hC.1 hC.2.1 hC.2.2.2.1 (hC.2.2.2.2 _ q399) dL_isLab_449 ?_
          refine lv_icmp_ne (tgt := 458) hC.1 hC.2.1 dL_isLab_451 (by decide) (fun c => absurd rfl c) (fun _ => ?_)
          refine lv_iconst (v := 1) hC.1 hC.2.1 dL_isLab_454 (by decide) ?_
          refine lv_goto (tgt := 459) hC.1 hC.2.1 dL_isLab_455 (by decide) ?_
          refine vx_ret ?_
          refine W.widen (k := 6000) (n := 60000) (by omega) (by omega) ?_
          exact W.zret hC.1 hC.2.1 hr rfl (fun t9 ht9 _ => ⟨_, rfl, by rw [ht9]; exact ⟨rfl, hEC⟩, hS.F ht9⟩) hS.2.2 dL_isLab_459
        · refine lv_aload_n hC.1 hC.2.1 dL_isLab_389 rfl (lv_at hl 3 rfl) ?_
          have hnz : mnF M ≠ 0 := fun z => c_386 (by rw [z]; rfl)
          have hsh := sh_nf _ (show freN M (mnF M) < 21 by omega) _ (show mnF M < 21 by omega) (show 0 < mnF M by omega)
          refine ec_goXE1 (ec_xV hC (c_X5_usableShare l hls G X M x ) kL_141 (hOk.at hS hAN) ⟨hXs, hEC⟩ (hEC.rcv hK) hl.1 ⟨Nat.le_of_ble_eq_true rfl, Nat.le_of_ble_eq_true rfl⟩ rfl (Nat.le_of_ble_eq_true rfl) dL_isLab_390 ⟨(by show _ ≤ 6000; omega), (by show _ ≤ 60000; omega)⟩) hS (fun _ h => h) (fun E9 ce9 q9 H9 l9 hx hk9 hS9 h1 h2 h3 => (lw_no (show thSha M = 0 by unfold thSha; rw [if_neg hnz]) hx (by decide)).elim) (fun H locs hp hzs hk1 hS => ?_)
          obtain ⟨-, hEC⟩ := hp
          have hXs := hXs.le hzs
          refine ec_topv (y := .float (FP.fdiv (FP.i2f (nI (freN M (mnF M)))) (FP.i2f (nI (mnF M))))) rfl ?_
          refine lv_iload hC.1 hC.2.1 dL_isLab_393 (lv_at hl 2 rfl) ?_
          refine lv_i2f hC.1 hC.2.1 dL_isLab_395 ?_
          refine lv_iload_n hC.1 hC.2.1 dL_isLab_396 rfl (lv_at hl 5 rfl) ?_
          refine lv_i2f hC.1 hC.2.1 dL_isLab_397 ?_
          refine lv_fdiv hC.1 hC.2.1 dL_isLab_398 hsh.1 ?_
          refine lv_fcmp hC.1 hC.2.1 dL_isLab_399 ?_
          refine ec_topi (y := 0) hsh.2 ?_
          refine lv_if_ne (tgt := 458) hC.1 hC.2.1 dL_isLab_400 (by decide) (fun c => absurd rfl c) (fun _ => ?_)
          refine lv_iload hC.1 hC.2.1 dL_isLab_403 (lv_at hl 1 rfl) ?_
          refine lv_iload hC.1 hC.2.1 dL_isLab_405 (lv_at hl 7 rfl) ?_
          refine lv_icmp_gt (tgt := 458) hC.1 hC.2.1 dL_isLab_407 (by decide) (fun c => absurd c (le_n hsl (by omega))) (fun c_407 => ?_)
          refine lv_iload hC.1 hC.2.1 dL_isLab_410 (lv_at hl 7 rfl) ?_
          refine lw_is0 hC dL_isLab_412 dL_isLab_415 dL_isLab_416 dL_isLab_419 ?_
          refine lv_iload hC.1 hC.2.1 dL_isLab_420 (lv_at hl 1 rfl) ?_
          refine lw_is0 hC dL_isLab_422 dL_isLab_425 dL_isLab_426 dL_isLab_429 ?_
          refine lv_icmp_ne (tgt := 458) hC.1 hC.2.1 dL_isLab_430 (by decide) (fun c => absurd (dz (by omega) (by omega) (ssN_iff hW)) c) (fun c_430 => ?_)
          refine lv_aload_n hC.1 hC.2.1 dL_isLab_433 rfl (lv_at hl 3 rfl) ?_
          refine lv_iload_n hC.1 hC.2.1 dL_isLab_434 rfl (lv_at hl 5 rfl) ?_
          have hT9 := T_Fx hW
          refine ec_goXE1 (ec_xSH hC (c_L_bar l hls G X M x (nI (mnF M))) kL_125 (hOk.at hS hAN) ⟨hXs, hEC⟩ hl.1 ⟨Nat.le_of_ble_eq_true rfl, Nat.le_of_ble_eq_true rfl⟩ rfl (Nat.le_of_ble_eq_true rfl) dL_isLab_435 ⟨(by show _ ≤ 6000; omega), (by show _ ≤ 60000; omega)⟩) hS (fun _ h => h) (fun _ _ _ _ _ hx9 => hx9.elim) (fun H locs hEC hzs hk1 hS => ?_)
          rw [ite_self] at hEC
          have hXs := hXs.le hzs
          refine ec_topi (y := (-2500000)) (by rw [hT9]; rfl) ?_
          refine lv_ldc hC.1 hC.2.1 hC.2.2.2.1 (hC.2.2.2.2 _ q399) dL_isLab_438 ?_
          refine lv_icmp_ne (tgt := 458) hC.1 hC.2.1 dL_isLab_440 (by decide) (fun c => absurd rfl c) (fun _ => ?_)
          refine lv_aload_n hC.1 hC.2.1 dL_isLab_443 rfl (lv_at hl 3 rfl) ?_
          refine lv_iload hC.1 hC.2.1 dL_isLab_444 (lv_at hl 7 rfl) ?_
          have hT9 := T_Ax hW
          refine ec_goXE1 (ec_xSH hC (c_L_age l hls G X M x (nI (mnA M))) kL_145 (hOk.at hS hAN) ⟨hXs, hEC⟩ hl.1 ⟨Nat.le_of_ble_eq_true rfl, Nat.le_of_ble_eq_true rfl⟩ rfl (Nat.le_of_ble_eq_true rfl) dL_isLab_446 ⟨(by show _ ≤ 6000; omega), (by show _ ≤ 60000; omega)⟩) hS (fun _ h => h) (fun _ _ _ _ _ hx9 => hx9.elim) (fun H locs hEC hzs hk1 hS => ?_)
          rw [ite_self] at hEC
          have hXs := hXs.le hzs
          refine ec_topi (y := (-2500000)) (by rw [hT9]; rfl) ?_
          refine lv_ldc hC.1 hC.2.1 hC.2.2.2.1 (hC.2.2.2.2 _ q399) dL_isLab_449 ?_
          refine lv_icmp_ne (tgt := 458) hC.1 hC.2.1 dL_isLab_451 (by decide) (fun c => absurd rfl c) (fun _ => ?_)
          refine lv_iconst (v := 1) hC.1 hC.2.1 dL_isLab_454 (by decide) ?_
          refine lv_goto (tgt := 459) hC.1 hC.2.1 dL_isLab_455 (by decide) ?_
          refine vx_ret ?_
          refine W.widen (k := 6000) (n := 60000) (by omega) (by omega) ?_
          exact W.zret hC.1 hC.2.1 hr rfl (fun t9 ht9 _ => ⟨_, rfl, by rw [ht9]; exact ⟨rfl, hEC⟩, hS.F ht9⟩) hS.2.2 dL_isLab_459
      · obtain ⟨hl, hW9, hI4⟩ := h9
        obtain ⟨hS, hXs, hEC⟩ := hW9
        have hcr : cN (nI r) = r := cN_nI (by omega)
        have hk80 := hW.rs r
        refine lv_iload hC.1 hC.2.1 dL_isLab_321 (lv_at hl 0 rfl) ?_
        refine lv_iload_n hC.1 hC.2.1 dL_isLab_323 rfl (lv_at hl 4 rfl) ?_
        refine lv_icmp_ge (tgt := 376) hC.1 hC.2.1 dL_isLab_324 (by decide) (fun c => absurd c (lt_n hr9 (by omega))) (fun c_324 => ?_)
        refine lv_iload hC.1 hC.2.1 dL_isLab_327 (lv_at hl 1 rfl) ?_
        refine lv_aload_n hC.1 hC.2.1 dL_isLab_329 rfl (lv_at hl 3 rfl) ?_
        refine lv_iload hC.1 hC.2.1 dL_isLab_330 (lv_at hl 0 rfl) ?_
        refine ec_goXE1 (ec_xV hC (c_X5_statesMeasured l hls G X M x (nI r)) kL_54 (hOk.at hS hAN) ⟨hXs, hEC⟩ (hEC.rcv hK) hl.1 ⟨Nat.le_of_ble_eq_true rfl, Nat.le_of_ble_eq_true rfl⟩ rfl (Nat.le_of_ble_eq_true rfl) dL_isLab_332 ⟨(by show _ ≤ 6000; omega), (by show _ ≤ 60000; omega)⟩) hS (fun _ h => h) (fun E9 ce9 q9 H9 l9 hx hk9 hS9 h1 h2 h3 => (lw_no (T_R hW hr9) hx (by decide)).elim) (fun H locs hp hzs hk1 hS => ?_)
        obtain ⟨-, hEC⟩ := hp
        have hXs := hXs.le hzs
        refine ec_topi (y := (nI (smN M r (mnA M)))) (by rw [hcr]) ?_
        refine lv_iadd hC.1 hC.2.1 dL_isLab_335 ?_
        refine ec_topi (y := (nI (ssN M (mnA M) (r + 1)))) (nI_add _ _) ?_
        refine lv_istore (lv' := [(6, .int (nI (ssN M (mnA M) (r + 1)))), (7, .int (nI r)), (4, .int (nI (freN M (mnF M)))), (0, .ref x), (1, .int (nI (mnR M))), (2, .int (nI (mnF M))), (3, .int (mlm M)), (5, .int (nI (mnA M)))]) hC.1 hC.2.1 dL_isLab_336 hl (by decide) rfl (fun ls hl => ?_)
        refine lv_aload_n hC.1 hC.2.1 dL_isLab_338 rfl (lv_at hl 3 rfl) ?_
        refine lv_iload hC.1 hC.2.1 dL_isLab_339 (lv_at hl 1 rfl) ?_
        refine ec_goXE1 (ec_xV hC (c_X5_changes l hls G X M x (nI r)) kL_32 (hOk.at hS hAN) ⟨hXs, hEC⟩ (hEC.rcv hK) hl.1 ⟨Nat.le_of_ble_eq_true rfl, Nat.le_of_ble_eq_true rfl⟩ rfl (Nat.le_of_ble_eq_true rfl) dL_isLab_341 ⟨(by show _ ≤ 6000; omega), (by show _ ≤ 60000; omega)⟩) hS (fun _ h => h) (fun E9 ce9 q9 H9 l9 hx hk9 hS9 h1 h2 h3 => (lw_no (T_R hW hr9) hx (by decide)).elim) (fun H locs hp hzs hk1 hS => ?_)
        obtain ⟨-, hEC⟩ := hp
        have hXs := hXs.le hzs
        refine ec_topi (y := (M.2.1 0 r)) (by rw [hcr]) ?_
        refine lv_if_lt (tgt := 368) hC.1 hC.2.1 dL_isLab_344 (by decide) (fun c => absurd c (ng_0 (hP.2.1 r).1)) (fun c_344 => ?_)
        refine lv_aload_n hC.1 hC.2.1 dL_isLab_347 rfl (lv_at hl 3 rfl) ?_
        refine lv_iload hC.1 hC.2.1 dL_isLab_348 (lv_at hl 1 rfl) ?_
        refine ec_goXE1 (ec_xV hC (c_X5_curtains l hls G X M x (nI r)) kL_132 (hOk.at hS hAN) ⟨hXs, hEC⟩ (hEC.rcv hK) hl.1 ⟨Nat.le_of_ble_eq_true rfl, Nat.le_of_ble_eq_true rfl⟩ rfl (Nat.le_of_ble_eq_true rfl) dL_isLab_350 ⟨(by show _ ≤ 6000; omega), (by show _ ≤ 60000; omega)⟩) hS (fun _ h => h) (fun E9 ce9 q9 H9 l9 hx hk9 hS9 h1 h2 h3 => (lw_no (T_R hW hr9) hx (by decide)).elim) (fun H locs hp hzs hk1 hS => ?_)
        obtain ⟨-, hEC⟩ := hp
        have hXs := hXs.le hzs
        refine ec_topi (y := (nI (M.1 0 r / 20))) (by rw [hcr]) ?_
        refine lv_iconst (v := 3) hC.1 hC.2.1 dL_isLab_353 (by decide) ?_
        refine lv_icmp_gt (tgt := 368) hC.1 hC.2.1 dL_isLab_354 (by decide) (fun c => absurd c (le_n (b := 3) (by omega) (by omega))) (fun c_354 => ?_)
        refine lv_aload_n hC.1 hC.2.1 dL_isLab_357 rfl (lv_at hl 3 rfl) ?_
        refine lv_iload hC.1 hC.2.1 dL_isLab_358 (lv_at hl 1 rfl) ?_
        refine ec_goXE1 (ec_xV hC (c_X5_seats l hls G X M x (nI r)) kL_135 (hOk.at hS hAN) ⟨hXs, hEC⟩ (hEC.rcv hK) hl.1 ⟨Nat.le_of_ble_eq_true rfl, Nat.le_of_ble_eq_true rfl⟩ rfl (Nat.le_of_ble_eq_true rfl) dL_isLab_360 ⟨(by show _ ≤ 6000; omega), (by show _ ≤ 60000; omega)⟩) hS (fun _ h => h) (fun E9 ce9 q9 H9 l9 hx hk9 hS9 h1 h2 h3 => (lw_no (T_R hW hr9) hx (by decide)).elim) (fun H locs hp hzs hk1 hS => ?_)
        obtain ⟨-, hEC⟩ := hp
        have hXs := hXs.le hzs
        refine ec_topi (y := (nI (M.1 0 r % 20 / 2))) (by rw [hcr]) ?_
        refine lv_bipush (v := 9) hC.1 hC.2.1 dL_isLab_363 (by decide) ?_
        refine lv_icmp_le (tgt := 370) hC.1 hC.2.1 dL_isLab_365 (by decide) (fun c_365 => ?_) (fun c => absurd (nI_le (b := 9) (by omega) (by omega)) c)
        refine lv_iinc (v := (nI (r + 1))) (lv' := [(7, .int (nI (r + 1))), (6, .int (nI (ssN M (mnA M) (r + 1)))), (4, .int (nI (freN M (mnF M)))), (0, .ref x), (1, .int (nI (mnR M))), (2, .int (nI (mnF M))), (3, .int (mlm M)), (5, .int (nI (mnA M)))]) hC.1 hC.2.1 dL_isLab_370 hl (k := 1) rfl (nI_1 _) (by decide) rfl (fun ls hl => ?_)
        refine lv_goto (tgt := 321) hC.1 hC.2.1 dL_isLab_373 (by decide) ?_
        exact W.widen (by omega) (by omega) (hkr H locs ls ⟨⟨hl.1, hl.2.1, (ec_lvc (lv_at hl 0 rfl) (ec_lvc (lv_at hl 1 rfl) (ec_lvc (lv_at hl 2 rfl) (ec_lvc (lv_at hl 3 rfl) (ec_lvc (lv_at hl 4 rfl) (ec_lvc (lv_at hl 5 rfl) (ec_lvc (lv_at hl 6 rfl) (ec_lvc (lv_at hl 7 rfl) ec_lvn))))))))⟩, ⟨hS, hXs, hEC⟩, trivial⟩)
    · obtain ⟨hl, hW9, hI⟩ := h9
      obtain ⟨hS, hXs, hEC⟩ := hW9
      have hck : cN (nI k) = k := cN_nI (by omega)
      have hak : M.1 3 k < mnA M := hW.fi hk
      have hca : cN (nI (M.1 3 k)) = M.1 3 k := cN_nI (by omega)
      have hft := FT hW hP hk
      have hr6 := rgt_six hft.1
      refine lv_iload hC.1 hC.2.1 dL_isLab_92 (lv_at hl 0 rfl) ?_
      refine lv_iload_n hC.1 hC.2.1 dL_isLab_94 rfl (lv_at hl 4 rfl) ?_
      refine lv_icmp_ge (tgt := 315) hC.1 hC.2.1 dL_isLab_95 (by decide) (fun c => absurd c (lt_n hk (by omega))) (fun c_95 => ?_)
      refine lv_aload_n hC.1 hC.2.1 dL_isLab_98 rfl (lv_at hl 2 rfl) ?_
      refine lv_iload hC.1 hC.2.1 dL_isLab_99 (lv_at hl 0 rfl) ?_
      refine ec_goXE1 (ec_xV hC (c_X5_answerOf l hls G X M x (nI k)) kL_122 (hOk.at hS hAN) ⟨hXs, hEC⟩ (hEC.rcv hK) hl.1 ⟨Nat.le_of_ble_eq_true rfl, Nat.le_of_ble_eq_true rfl⟩ rfl (Nat.le_of_ble_eq_true rfl) dL_isLab_101 ⟨(by show _ ≤ 6000; omega), (by show _ ≤ 60000; omega)⟩) hS (fun _ h => h) (fun E9 ce9 q9 H9 l9 hx hk9 hS9 h1 h2 h3 => (lw_no (T_F hW hk) hx (by decide)).elim) (fun H locs hp hzs hk1 hS => ?_)
      obtain ⟨-, hEC⟩ := hp
      have hXs := hXs.le hzs
      refine ec_topi (y := (nI (M.1 3 k))) (by rw [hck]) ?_
      refine lv_istore (lv' := [(7, .int (nI (M.1 3 k))), (6, .int (nI k)), (4, .int (nI (freN M k))), (0, .ref x), (1, .int (nI (mnR M))), (2, .int (nI (mnF M))), (3, .int (mlm M)), (5, .int (nI (mnA M)))]) hC.1 hC.2.1 dL_isLab_104 hl (by decide) rfl (fun ls hl => ?_)
      refine lv_aload_n hC.1 hC.2.1 dL_isLab_106 rfl (lv_at hl 3 rfl) ?_
      refine lv_iload hC.1 hC.2.1 dL_isLab_107 (lv_at hl 1 rfl) ?_
      have hT9 := T_F hW hk
      refine ec_goXE1 (ec_xSH hC (c_L_bar l hls G X M x (nI k)) kL_125 (hOk.at hS hAN) ⟨hXs, hEC⟩ hl.1 ⟨Nat.le_of_ble_eq_true rfl, Nat.le_of_ble_eq_true rfl⟩ rfl (Nat.le_of_ble_eq_true rfl) dL_isLab_109 ⟨(by show _ ≤ 6000; omega), (by show _ ≤ 60000; omega)⟩) hS (fun _ h => h) (fun _ _ _ _ _ hx9 => hx9.elim) (fun H locs hEC hzs hk1 hS => ?_)
      rw [ite_self] at hEC
      have hXs := hXs.le hzs
      refine ec_topi (y := (barM M k)) (by rw [hT9, hv_0, hck]) ?_
      refine lv_istore (lv' := [(8, .int (barM M k)), (7, .int (nI (M.1 3 k))), (6, .int (nI k)), (4, .int (nI (freN M k))), (0, .ref x), (1, .int (nI (mnR M))), (2, .int (nI (mnF M))), (3, .int (mlm M)), (5, .int (nI (mnA M)))]) hC.1 hC.2.1 dL_isLab_112 hl (by decide) rfl (fun ls hl => ?_)
      refine lv_aload_n hC.1 hC.2.1 dL_isLab_114 rfl (lv_at hl 4 rfl) ?_
      refine lv_iload hC.1 hC.2.1 dL_isLab_115 (lv_at hl 2 rfl) ?_
      refine ec_goXE1 (ec_xV hC (c_X5_isChecked l hls G X M x (nI k)) kL_128 (hOk.at hS hAN) ⟨hXs, hEC⟩ (hEC.rcv hK) hl.1 ⟨Nat.le_of_ble_eq_true rfl, Nat.le_of_ble_eq_true rfl⟩ rfl (Nat.le_of_ble_eq_true rfl) dL_isLab_117 ⟨(by show _ ≤ 6000; omega), (by show _ ≤ 60000; omega)⟩) hS (fun _ h => h) (fun E9 ce9 q9 H9 l9 hx hk9 hS9 h1 h2 h3 => (lw_no (T_F hW hk) hx (by decide)).elim) (fun H locs hp hzs hk1 hS => ?_)
      obtain ⟨-, hEC⟩ := hp
      have hXs := hXs.le hzs
      refine ec_topi (y := 1) (by rw [hck, hr6]; rfl) ?_
      refine lv_if_eq (tgt := 189) hC.1 hC.2.1 dL_isLab_120 (by decide) (fun c => absurd c (by decide)) (fun _ => ?_)
      refine lv_aload_n hC.1 hC.2.1 dL_isLab_123 rfl (lv_at hl 4 rfl) ?_
      refine lv_iload hC.1 hC.2.1 dL_isLab_124 (lv_at hl 2 rfl) ?_
      refine lv_iload hC.1 hC.2.1 dL_isLab_126 (lv_at hl 1 rfl) ?_
      refine ec_goXE1 (ec_xV hC (c_X5_rightSamples l hls G X M x (nI k) (nI (M.1 3 k))) kL_88 (hOk.at hS hAN) ⟨hXs, hEC⟩ (hEC.rcv hK) hl.1 ⟨Nat.le_of_ble_eq_true rfl, Nat.le_of_ble_eq_true rfl⟩ rfl (Nat.le_of_ble_eq_true rfl) dL_isLab_128 ⟨(by show _ ≤ 6000; omega), (by show _ ≤ 60000; omega)⟩) hS (fun _ h => h) (fun E9 ce9 q9 H9 l9 hx hk9 hS9 h1 h2 h3 => (lw_no (T_Pr hW hk hak) hx (by decide)).elim) (fun H locs hp hzs hk1 hS => ?_)
      obtain ⟨-, hEC⟩ := hp
      have hXs := hXs.le hzs
      refine ec_topi (y := 6) (by rw [hck, hca, hr6]; rfl) ?_
      refine lv_bipush (v := 6) hC.1 hC.2.1 dL_isLab_131 (by decide) ?_
      refine lv_icmp_ne (tgt := 189) hC.1 hC.2.1 dL_isLab_133 (by decide) (fun c => absurd rfl c) (fun _ => ?_)
      refine lv_aload_n hC.1 hC.2.1 dL_isLab_136 rfl (lv_at hl 4 rfl) ?_
      refine lv_iload hC.1 hC.2.1 dL_isLab_137 (lv_at hl 2 rfl) ?_
      refine lv_iconst (v := 0) hC.1 hC.2.1 dL_isLab_139 (by decide) ?_
      refine ec_goXE1 (ec_xV hC (c_X5_tap l hls G X M x (nI k) 0) kL_60 (hOk.at hS hAN) ⟨hXs, hEC⟩ (hEC.rcv hK) hl.1 ⟨Nat.le_of_ble_eq_true rfl, Nat.le_of_ble_eq_true rfl⟩ rfl (Nat.le_of_ble_eq_true rfl) dL_isLab_140 ⟨(by show _ ≤ 6000; omega), (by show _ ≤ 60000; omega)⟩) hS (fun _ h => h) (fun E9 ce9 q9 H9 l9 hx hk9 hS9 h1 h2 h3 => (lw_no (T_Tap hW hk (show 0 < 6 by decide)) hx (by decide)).elim) (fun H locs hp hzs hk1 hS => ?_)
      obtain ⟨-, hEC⟩ := hp
      have hXs := hXs.le hzs
      refine ec_topl (y := (tpA M k 0)) (by rw [hck]; rfl) ?_
      refine lv_aload_n hC.1 hC.2.1 dL_isLab_143 rfl (lv_at hl 4 rfl) ?_
      refine lv_iload hC.1 hC.2.1 dL_isLab_144 (lv_at hl 1 rfl) ?_
      refine lv_iconst (v := 0) hC.1 hC.2.1 dL_isLab_146 (by decide) ?_
      refine ec_goXE1 (ec_xV hC (c_X5_sample l hls G X M x (nI (M.1 3 k)) 0) kL_40 (hOk.at hS hAN) ⟨hXs, hEC⟩ (hEC.rcv hK) hl.1 ⟨Nat.le_of_ble_eq_true rfl, Nat.le_of_ble_eq_true rfl⟩ rfl (Nat.le_of_ble_eq_true rfl) dL_isLab_147 ⟨(by show _ ≤ 6000; omega), (by show _ ≤ 60000; omega)⟩) hS (fun _ h => h) (fun E9 ce9 q9 H9 l9 hx hk9 hS9 h1 h2 h3 => (lw_no (T_Sam hW hak (show 0 < 4 by decide)) hx (by decide)).elim) (fun H locs hp hzs hk1 hS => ?_)
      obtain ⟨-, hEC⟩ := hp
      have hXs := hXs.le hzs
      refine ec_topi (y := (smA M (M.1 3 k) 0)) (by rw [hca]; rfl) ?_
      refine lv_i2l hC.1 hC.2.1 dL_isLab_150 rfl ?_
      refine W.lcmp hC.1 hC.2.1 dL_isLab_151 ?_
      refine lv_if_ne (tgt := 189) hC.1 hC.2.1 dL_isLab_152 (by decide) (fun c => absurd ((ec_cm0 _ _).mpr hft.2) c) (fun c_152 => ?_)
      refine lv_iload hC.1 hC.2.1 dL_isLab_155 (lv_at hl 0 rfl) ?_
      refine lv_bipush (v := 45) hC.1 hC.2.1 dL_isLab_157 (by decide) ?_
      refine lv_icmp_ne (tgt := 172) hC.1 hC.2.1 dL_isLab_159 (by decide) (fun c_159 => ?_) (fun c_159 => ?_)
      · refine lv_iload hC.1 hC.2.1 dL_isLab_172 (lv_at hl 0 rfl) ?_
        refine lv_bipush (v := 111) hC.1 hC.2.1 dL_isLab_174 (by decide) ?_
        refine lv_icmp_ne (tgt := 191) hC.1 hC.2.1 dL_isLab_176 (by decide) (fun c_176 => ?_) (fun c_176 => ?_)
        · refine lv_iconst (v := 0) hC.1 hC.2.1 dL_isLab_191 (by decide) ?_
          refine lv_istore (lv' := [(9, .int 0), (8, .int (barM M k)), (7, .int (nI (M.1 3 k))), (6, .int (nI k)), (4, .int (nI (freN M k))), (0, .ref x), (1, .int (nI (mnR M))), (2, .int (nI (mnF M))), (3, .int (mlm M)), (5, .int (nI (mnA M)))]) hC.1 hC.2.1 dL_isLab_192 hl (by decide) rfl (fun ls hl => ?_)
          refine ec_loopC (n := 6) 36 360 (fun n H locs ls => lv_has ls 13 [(9, .int (nI n)), (8, .int (barM M k)), (7, .int (nI (M.1 3 k))), (6, .int (nI k)), (4, .int (nI (freN M k))), (0, .ref x), (1, .int (nI (mnR M))), (2, .int (nI (mnF M))), (3, .int (mlm M)), (5, .int (nI (mnA M)))] ∧ (va_S X s.heap H locs ∧ ecXs G X H ∧ EC G X M x H) ∧ True) ⟨⟨hl.1, hl.2.1, (ec_lvc (lv_at hl 0 rfl) (ec_lvc (lv_at hl 1 rfl) (ec_lvc (lv_at hl 2 rfl) (ec_lvc (lv_at hl 3 rfl) (ec_lvc (lv_at hl 4 rfl) (ec_lvc (lv_at hl 5 rfl) (ec_lvc (lv_at hl 6 rfl) (ec_lvc (lv_at hl 7 rfl) (ec_lvc (lv_at hl 8 rfl) (ec_lvc (lv_at hl 9 rfl) ec_lvn))))))))))⟩, ⟨hS, hXs, hEC⟩, trivial⟩ (fun H locs ls h9 => ?_) (fun n H locs ls hn h9 hkn => ?_)
          · obtain ⟨hl, hW9, hI2⟩ := h9
            obtain ⟨hS, hXs, hEC⟩ := hW9
            refine lv_iload hC.1 hC.2.1 dL_isLab_194 (lv_at hl 0 rfl) ?_
            refine lv_bipush (v := 6) hC.1 hC.2.1 dL_isLab_196 (by decide) ?_
            refine lv_icmp_ge (tgt := 292) hC.1 hC.2.1 dL_isLab_198 (by decide) (fun c_198 => ?_) (fun c => absurd (Int32.le_refl _) c)
            refine lv_iload hC.1 hC.2.1 dL_isLab_292 (lv_at hl 4 rfl) ?_
            refine lv_iload hC.1 hC.2.1 dL_isLab_294 (lv_at hl 1 rfl) ?_
            refine lv_bipush (v := 45) hC.1 hC.2.1 dL_isLab_296 (by decide) ?_
            refine lw_eq hC dL_isLab_298 dL_isLab_301 dL_isLab_302 dL_isLab_305 ?_
            refine lv_iadd hC.1 hC.2.1 dL_isLab_306 ?_
            refine ec_topi (y := (nI (freN M (k + 1)))) (fre_1 M k) ?_
            refine lv_istore (lv' := [(4, .int (nI (freN M (k + 1)))), (9, .int (nI 6)), (8, .int (barM M k)), (7, .int (nI (M.1 3 k))), (6, .int (nI k)), (0, .ref x), (1, .int (nI (mnR M))), (2, .int (nI (mnF M))), (3, .int (mlm M)), (5, .int (nI (mnA M)))]) hC.1 hC.2.1 dL_isLab_307 hl (by decide) rfl (fun ls hl => ?_)
            refine lv_iinc (v := (nI (k + 1))) (lv' := [(6, .int (nI (k + 1))), (4, .int (nI (freN M (k + 1)))), (9, .int (nI 6)), (8, .int (barM M k)), (7, .int (nI (M.1 3 k))), (0, .ref x), (1, .int (nI (mnR M))), (2, .int (nI (mnF M))), (3, .int (mlm M)), (5, .int (nI (mnA M)))]) hC.1 hC.2.1 dL_isLab_309 hl (k := 4) rfl (nI_1 _) (by decide) rfl (fun ls hl => ?_)
            refine lv_goto (tgt := 92) hC.1 hC.2.1 dL_isLab_312 (by decide) ?_
            exact W.widen (by omega) (by omega) (hkk H locs ls ⟨⟨hl.1, hl.2.1, (ec_lvc (lv_at hl 0 rfl) (ec_lvc (lv_at hl 1 rfl) (ec_lvc (lv_at hl 5 rfl) (ec_lvc (lv_at hl 6 rfl) (ec_lvc (lv_at hl 7 rfl) (ec_lvc (lv_at hl 8 rfl) (ec_lvc (lv_at hl 9 rfl) ec_lvn)))))))⟩, ⟨hS, hXs, hEC⟩, trivial⟩)
          · obtain ⟨hl, hW9, hI2⟩ := h9
            obtain ⟨hS, hXs, hEC⟩ := hW9
            have hcn : cN (nI n) = n := cN_nI (by omega)
            have hn4 := nn_4 n
            have hnn := nn_n n
            refine lv_iload hC.1 hC.2.1 dL_isLab_194 (lv_at hl 0 rfl) ?_
            refine lv_bipush (v := 6) hC.1 hC.2.1 dL_isLab_196 (by decide) ?_
            refine lv_icmp_ge (tgt := 292) hC.1 hC.2.1 dL_isLab_198 (by decide) (fun c => absurd c (lt_n (b := 6) hn (by omega))) (fun c_198 => ?_)
            refine lv_lconst (v := 0) hC.1 hC.2.1 dL_isLab_201 (by decide) ?_
            refine lv_lstore (lv' := [(10, .long 0), (9, .int (nI n)), (8, .int (barM M k)), (7, .int (nI (M.1 3 k))), (6, .int (nI k)), (4, .int (nI (freN M k))), (0, .ref x), (1, .int (nI (mnR M))), (2, .int (nI (mnF M))), (3, .int (mlm M)), (5, .int (nI (mnA M)))]) hC.1 hC.2.1 dL_isLab_202 hl (by decide) rfl (fun ls hl => ?_)
            refine lv_iconst (v := 0) hC.1 hC.2.1 dL_isLab_204 (by decide) ?_
            refine lv_istore (lv' := [(12, .int 0), (10, .long 0), (9, .int (nI n)), (8, .int (barM M k)), (7, .int (nI (M.1 3 k))), (6, .int (nI k)), (4, .int (nI (freN M k))), (0, .ref x), (1, .int (nI (mnR M))), (2, .int (nI (mnF M))), (3, .int (mlm M)), (5, .int (nI (mnA M)))]) hC.1 hC.2.1 dL_isLab_205 hl (by decide) rfl (fun ls hl => ?_)
            refine ec_loopC (n := (nn n)) 8 80 (fun j H locs ls => lv_has ls 13 [(12, .int (nI j)), (10, .long (prS (smA M (M.1 3 k)) (tpA M k) n j)), (9, .int (nI n)), (8, .int (barM M k)), (7, .int (nI (M.1 3 k))), (6, .int (nI k)), (4, .int (nI (freN M k))), (0, .ref x), (1, .int (nI (mnR M))), (2, .int (nI (mnF M))), (3, .int (mlm M)), (5, .int (nI (mnA M)))] ∧ (va_S X s.heap H locs ∧ ecXs G X H ∧ EC G X M x H) ∧ True) ⟨⟨hl.1, hl.2.1, (ec_lvc (lv_at hl 0 rfl) (ec_lvc (lv_at hl 1 rfl) (ec_lvc (lv_at hl 2 rfl) (ec_lvc (lv_at hl 3 rfl) (ec_lvc (lv_at hl 4 rfl) (ec_lvc (lv_at hl 5 rfl) (ec_lvc (lv_at hl 6 rfl) (ec_lvc (lv_at hl 7 rfl) (ec_lvc (lv_at hl 8 rfl) (ec_lvc (lv_at hl 9 rfl) (ec_lvc (lv_at hl 10 rfl) (ec_lvc (lv_at hl 11 rfl) ec_lvn))))))))))))⟩, ⟨hS, hXs, hEC⟩, trivial⟩ (fun H locs ls h9 => ?_) (fun j H locs ls hj h9 hkj => ?_)
            · obtain ⟨hl, hW9, hI3⟩ := h9
              obtain ⟨hS, hXs, hEC⟩ := hW9
              refine lv_iload hC.1 hC.2.1 dL_isLab_207 (lv_at hl 0 rfl) ?_
              refine lv_iconst (v := 4) hC.1 hC.2.1 dL_isLab_209 (by decide) ?_
              refine lv_icmp_ge (tgt := 252) hC.1 hC.2.1 dL_isLab_210 (by decide) (fun c_210 => ?_) (fun c_210 => ?_)
              · refine lv_lload hC.1 hC.2.1 dL_isLab_252 (lv_at hl 1 rfl) ?_
                refine lv_iload hC.1 hC.2.1 dL_isLab_254 (lv_at hl 2 rfl) ?_
                refine lw_is0J hC dL_isLab_256 dL_isLab_259 dL_isLab_260 dL_isLab_263 ?_
                refine W.lcmp hC.1 hC.2.1 dL_isLab_264 ?_
                refine lv_if_ne (tgt := 284) hC.1 hC.2.1 dL_isLab_265 (by decide) (fun c => absurd ((ec_cm0 _ _).mpr (by rw [nz_if (by omega)]; exact hft.1 n hn)) c) (fun c_265 => ?_)
                refine lv_aload_n hC.1 hC.2.1 dL_isLab_268 rfl (lv_at hl 7 rfl) ?_
                refine lv_iload hC.1 hC.2.1 dL_isLab_269 (lv_at hl 5 rfl) ?_
                refine lv_iload hC.1 hC.2.1 dL_isLab_271 (lv_at hl 4 rfl) ?_
                refine lv_iload hC.1 hC.2.1 dL_isLab_273 (lv_at hl 2 rfl) ?_
                refine ec_goXE1 (ec_xV hC (c_X5_product l hls G X M x (nI k) (nI (M.1 3 k)) (nI n)) kL_84 (hOk.at hS hAN) ⟨hXs, hEC⟩ (hEC.rcv hK) hl.1 ⟨Nat.le_of_ble_eq_true rfl, Nat.le_of_ble_eq_true rfl⟩ rfl (Nat.le_of_ble_eq_true rfl) dL_isLab_275 ⟨(by show _ ≤ 6000; omega), (by show _ ≤ 60000; omega)⟩) hS (fun _ h => h) (fun E9 ce9 q9 H9 l9 hx hk9 hS9 h1 h2 h3 => (lw_no (T_Pro hW hk hak hn) hx (by decide)).elim) (fun H locs hp hzs hk1 hS => ?_)
                obtain ⟨-, hEC⟩ := hp
                have hXs := hXs.le hzs
                refine ec_topl (y := (prd (smA M (M.1 3 k)) (tpA M k) n)) (by rw [hck, hca, hcn]) ?_
                refine lv_lload hC.1 hC.2.1 dL_isLab_278 (lv_at hl 1 rfl) ?_
                refine W.lcmp hC.1 hC.2.1 dL_isLab_280 ?_
                refine lv_if_eq (tgt := 286) hC.1 hC.2.1 dL_isLab_281 (by decide) (fun c_281 => ?_) (fun c => absurd ((ec_cm0 _ _).mpr rfl) c)
                refine lv_iinc (v := (nI (n + 1))) (lv' := [(9, .int (nI (n + 1))), (12, .int (nI (nn n))), (10, .long (prS (smA M (M.1 3 k)) (tpA M k) n (nn n))), (8, .int (barM M k)), (7, .int (nI (M.1 3 k))), (6, .int (nI k)), (4, .int (nI (freN M k))), (0, .ref x), (1, .int (nI (mnR M))), (2, .int (nI (mnF M))), (3, .int (mlm M)), (5, .int (nI (mnA M)))]) hC.1 hC.2.1 dL_isLab_286 hl (k := 2) rfl (nI_1 _) (by decide) rfl (fun ls hl => ?_)
                refine lv_goto (tgt := 194) hC.1 hC.2.1 dL_isLab_289 (by decide) ?_
                exact W.widen (by omega) (by omega) (hkn H locs ls ⟨⟨hl.1, hl.2.1, (ec_lvc (lv_at hl 0 rfl) (ec_lvc (lv_at hl 3 rfl) (ec_lvc (lv_at hl 4 rfl) (ec_lvc (lv_at hl 5 rfl) (ec_lvc (lv_at hl 6 rfl) (ec_lvc (lv_at hl 7 rfl) (ec_lvc (lv_at hl 8 rfl) (ec_lvc (lv_at hl 9 rfl) (ec_lvc (lv_at hl 10 rfl) (ec_lvc (lv_at hl 11 rfl) ec_lvn))))))))))⟩, ⟨hS, hXs, hEC⟩, trivial⟩)
              · refine lv_iload hC.1 hC.2.1 dL_isLab_213 (lv_at hl 0 rfl) ?_
                refine lv_iload hC.1 hC.2.1 dL_isLab_215 (lv_at hl 2 rfl) ?_
                refine lv_icmp_gt (tgt := 252) hC.1 hC.2.1 dL_isLab_217 (by decide) (fun c_217 => ?_) (fun c => absurd (nI_lt (nn_x (n_lt (b := 4) c_210 (by omega))) (by omega)) c)
                refine lv_lload hC.1 hC.2.1 dL_isLab_252 (lv_at hl 1 rfl) ?_
                refine lv_iload hC.1 hC.2.1 dL_isLab_254 (lv_at hl 2 rfl) ?_
                refine lw_is0J hC dL_isLab_256 dL_isLab_259 dL_isLab_260 dL_isLab_263 ?_
                refine W.lcmp hC.1 hC.2.1 dL_isLab_264 ?_
                refine lv_if_ne (tgt := 284) hC.1 hC.2.1 dL_isLab_265 (by decide) (fun c => absurd ((ec_cm0 _ _).mpr (by rw [nz_if (by omega)]; exact hft.1 n hn)) c) (fun c_265 => ?_)
                refine lv_aload_n hC.1 hC.2.1 dL_isLab_268 rfl (lv_at hl 7 rfl) ?_
                refine lv_iload hC.1 hC.2.1 dL_isLab_269 (lv_at hl 5 rfl) ?_
                refine lv_iload hC.1 hC.2.1 dL_isLab_271 (lv_at hl 4 rfl) ?_
                refine lv_iload hC.1 hC.2.1 dL_isLab_273 (lv_at hl 2 rfl) ?_
                refine ec_goXE1 (ec_xV hC (c_X5_product l hls G X M x (nI k) (nI (M.1 3 k)) (nI n)) kL_84 (hOk.at hS hAN) ⟨hXs, hEC⟩ (hEC.rcv hK) hl.1 ⟨Nat.le_of_ble_eq_true rfl, Nat.le_of_ble_eq_true rfl⟩ rfl (Nat.le_of_ble_eq_true rfl) dL_isLab_275 ⟨(by show _ ≤ 6000; omega), (by show _ ≤ 60000; omega)⟩) hS (fun _ h => h) (fun E9 ce9 q9 H9 l9 hx hk9 hS9 h1 h2 h3 => (lw_no (T_Pro hW hk hak hn) hx (by decide)).elim) (fun H locs hp hzs hk1 hS => ?_)
                obtain ⟨-, hEC⟩ := hp
                have hXs := hXs.le hzs
                refine ec_topl (y := (prd (smA M (M.1 3 k)) (tpA M k) n)) (by rw [hck, hca, hcn]) ?_
                refine lv_lload hC.1 hC.2.1 dL_isLab_278 (lv_at hl 1 rfl) ?_
                refine W.lcmp hC.1 hC.2.1 dL_isLab_280 ?_
                refine lv_if_eq (tgt := 286) hC.1 hC.2.1 dL_isLab_281 (by decide) (fun c_281 => ?_) (fun c => absurd ((ec_cm0 _ _).mpr rfl) c)
                refine lv_iinc (v := (nI (n + 1))) (lv' := [(9, .int (nI (n + 1))), (12, .int (nI (nn n))), (10, .long (prS (smA M (M.1 3 k)) (tpA M k) n (nn n))), (8, .int (barM M k)), (7, .int (nI (M.1 3 k))), (6, .int (nI k)), (4, .int (nI (freN M k))), (0, .ref x), (1, .int (nI (mnR M))), (2, .int (nI (mnF M))), (3, .int (mlm M)), (5, .int (nI (mnA M)))]) hC.1 hC.2.1 dL_isLab_286 hl (k := 2) rfl (nI_1 _) (by decide) rfl (fun ls hl => ?_)
                refine lv_goto (tgt := 194) hC.1 hC.2.1 dL_isLab_289 (by decide) ?_
                exact W.widen (by omega) (by omega) (hkn H locs ls ⟨⟨hl.1, hl.2.1, (ec_lvc (lv_at hl 0 rfl) (ec_lvc (lv_at hl 3 rfl) (ec_lvc (lv_at hl 4 rfl) (ec_lvc (lv_at hl 5 rfl) (ec_lvc (lv_at hl 6 rfl) (ec_lvc (lv_at hl 7 rfl) (ec_lvc (lv_at hl 8 rfl) (ec_lvc (lv_at hl 9 rfl) (ec_lvc (lv_at hl 10 rfl) (ec_lvc (lv_at hl 11 rfl) ec_lvn))))))))))⟩, ⟨hS, hXs, hEC⟩, trivial⟩)
            · obtain ⟨hl, hW9, hI3⟩ := h9
              obtain ⟨hS, hXs, hEC⟩ := hW9
              have hcj : cN (nI j) = j := cN_nI (by omega)
              have hcnj : cN (nI (n - j)) = n - j := cN_nI (by omega)
              refine lv_iload hC.1 hC.2.1 dL_isLab_207 (lv_at hl 0 rfl) ?_
              refine lv_iconst (v := 4) hC.1 hC.2.1 dL_isLab_209 (by decide) ?_
              refine lv_icmp_ge (tgt := 252) hC.1 hC.2.1 dL_isLab_210 (by decide) (fun c => absurd c (lt_n (b := 4) (Nat.lt_of_lt_of_le hj hn4) (by omega))) (fun c_210 => ?_)
              refine lv_iload hC.1 hC.2.1 dL_isLab_213 (lv_at hl 0 rfl) ?_
              refine lv_iload hC.1 hC.2.1 dL_isLab_215 (lv_at hl 2 rfl) ?_
              refine lv_icmp_gt (tgt := 252) hC.1 hC.2.1 dL_isLab_217 (by decide) (fun c => absurd c (le_n (show j ≤ n by omega) (by omega))) (fun c_217 => ?_)
              refine lv_lload hC.1 hC.2.1 dL_isLab_220 (lv_at hl 1 rfl) ?_
              refine lv_aload_n hC.1 hC.2.1 dL_isLab_222 rfl (lv_at hl 7 rfl) ?_
              refine lv_iload hC.1 hC.2.1 dL_isLab_223 (lv_at hl 4 rfl) ?_
              refine lv_iload hC.1 hC.2.1 dL_isLab_225 (lv_at hl 0 rfl) ?_
              refine ec_goXE1 (ec_xV hC (c_X5_sample l hls G X M x (nI (M.1 3 k)) (nI j)) kL_40 (hOk.at hS hAN) ⟨hXs, hEC⟩ (hEC.rcv hK) hl.1 ⟨Nat.le_of_ble_eq_true rfl, Nat.le_of_ble_eq_true rfl⟩ rfl (Nat.le_of_ble_eq_true rfl) dL_isLab_227 ⟨(by show _ ≤ 6000; omega), (by show _ ≤ 60000; omega)⟩) hS (fun _ h => h) (fun E9 ce9 q9 H9 l9 hx hk9 hS9 h1 h2 h3 => (lw_no (T_Sam hW hak (show j < 4 by omega)) hx (by decide)).elim) (fun H locs hp hzs hk1 hS => ?_)
              obtain ⟨-, hEC⟩ := hp
              have hXs := hXs.le hzs
              refine ec_topi (y := (smA M (M.1 3 k) j)) (by rw [hca, hcj]) ?_
              refine lv_i2l hC.1 hC.2.1 dL_isLab_230 rfl ?_
              refine lv_aload_n hC.1 hC.2.1 dL_isLab_231 rfl (lv_at hl 7 rfl) ?_
              refine lv_iload hC.1 hC.2.1 dL_isLab_232 (lv_at hl 5 rfl) ?_
              refine lv_iload hC.1 hC.2.1 dL_isLab_234 (lv_at hl 2 rfl) ?_
              refine lv_iload hC.1 hC.2.1 dL_isLab_236 (lv_at hl 0 rfl) ?_
              refine lw_sub hC (k := n) (n := j) rfl rfl (by omega) dL_isLab_238 ?_
              refine ec_goXE1 (ec_xV hC (c_X5_tap l hls G X M x (nI k) (nI (n - j))) kL_60 (hOk.at hS hAN) ⟨hXs, hEC⟩ (hEC.rcv hK) hl.1 ⟨Nat.le_of_ble_eq_true rfl, Nat.le_of_ble_eq_true rfl⟩ rfl (Nat.le_of_ble_eq_true rfl) dL_isLab_239 ⟨(by show _ ≤ 6000; omega), (by show _ ≤ 60000; omega)⟩) hS (fun _ h => h) (fun E9 ce9 q9 H9 l9 hx hk9 hS9 h1 h2 h3 => (lw_no (T_Tap hW hk (show n - j < 6 by omega)) hx (by decide)).elim) (fun H locs hp hzs hk1 hS => ?_)
              obtain ⟨-, hEC⟩ := hp
              have hXs := hXs.le hzs
              refine ec_topl (y := (tpA M k (n - j))) (by rw [hck, hcnj]) ?_
              refine lv_lmul hC.1 hC.2.1 dL_isLab_242 ?_
              refine lv_ladd hC.1 hC.2.1 dL_isLab_243 ?_
              refine lv_lstore (lv' := [(10, .long ((prS (smA M (M.1 3 k)) (tpA M k) n j) + ((Int32.toInt64 (smA M (M.1 3 k) j)) * (tpA M k (n - j))))), (12, .int (nI j)), (9, .int (nI n)), (8, .int (barM M k)), (7, .int (nI (M.1 3 k))), (6, .int (nI k)), (4, .int (nI (freN M k))), (0, .ref x), (1, .int (nI (mnR M))), (2, .int (nI (mnF M))), (3, .int (mlm M)), (5, .int (nI (mnA M)))]) hC.1 hC.2.1 dL_isLab_244 hl (by decide) rfl (fun ls hl => ?_)
              refine lv_iinc (v := (nI (j + 1))) (lv' := [(12, .int (nI (j + 1))), (10, .long ((prS (smA M (M.1 3 k)) (tpA M k) n j) + ((Int32.toInt64 (smA M (M.1 3 k) j)) * (tpA M k (n - j))))), (9, .int (nI n)), (8, .int (barM M k)), (7, .int (nI (M.1 3 k))), (6, .int (nI k)), (4, .int (nI (freN M k))), (0, .ref x), (1, .int (nI (mnR M))), (2, .int (nI (mnF M))), (3, .int (mlm M)), (5, .int (nI (mnA M)))]) hC.1 hC.2.1 dL_isLab_246 hl (k := 1) rfl (nI_1 _) (by decide) rfl (fun ls hl => ?_)
              refine lv_goto (tgt := 207) hC.1 hC.2.1 dL_isLab_249 (by decide) ?_
              rw [← prS_s (smA M (M.1 3 k)) (tpA M k) n j] at hl
              exact W.widen (by omega) (by omega) (hkj H locs ls ⟨⟨hl.1, hl.2.1, (ec_lvc (lv_at hl 0 rfl) (ec_lvc (lv_at hl 1 rfl) (ec_lvc (lv_at hl 2 rfl) (ec_lvc (lv_at hl 3 rfl) (ec_lvc (lv_at hl 4 rfl) (ec_lvc (lv_at hl 5 rfl) (ec_lvc (lv_at hl 6 rfl) (ec_lvc (lv_at hl 7 rfl) (ec_lvc (lv_at hl 8 rfl) (ec_lvc (lv_at hl 9 rfl) (ec_lvc (lv_at hl 10 rfl) (ec_lvc (lv_at hl 11 rfl) ec_lvn))))))))))))⟩, ⟨hS, hXs, hEC⟩, trivial⟩)
        · refine lv_aload_n hC.1 hC.2.1 dL_isLab_179 rfl (lv_at hl 4 rfl) ?_
          refine lv_iload hC.1 hC.2.1 dL_isLab_180 (lv_at hl 1 rfl) ?_
          refine ec_goXE1 (ec_xV hC (c_X5_age l hls G X M x (nI (M.1 3 k))) kL_47 (hOk.at hS hAN) ⟨hXs, hEC⟩ (hEC.rcv hK) hl.1 ⟨Nat.le_of_ble_eq_true rfl, Nat.le_of_ble_eq_true rfl⟩ rfl (Nat.le_of_ble_eq_true rfl) dL_isLab_182 ⟨(by show _ ≤ 6000; omega), (by show _ ≤ 60000; omega)⟩) hS (fun _ h => h) (fun E9 ce9 q9 H9 l9 hx hk9 hS9 h1 h2 h3 => (lw_no (T_A hW hak) hx (by decide)).elim) (fun H locs hp hzs hk1 hS => ?_)
          obtain ⟨-, hEC⟩ := hp
          have hXs := hXs.le hzs
          refine ec_topi (y := (ageM M (M.1 3 k))) (by rw [hca]) ?_
          refine lv_iload_n hC.1 hC.2.1 dL_isLab_185 rfl (lv_at hl 7 rfl) ?_
          refine lv_icmp_gt (tgt := 191) hC.1 hC.2.1 dL_isLab_186 (by decide) (fun c_186 => ?_) (fun c => absurd (bar_111 c_176) c)
          refine lv_iconst (v := 0) hC.1 hC.2.1 dL_isLab_191 (by decide) ?_
          refine lv_istore (lv' := [(9, .int 0), (8, .int (barM M k)), (7, .int (nI (M.1 3 k))), (6, .int (nI k)), (4, .int (nI (freN M k))), (0, .ref x), (1, .int (nI (mnR M))), (2, .int (nI (mnF M))), (3, .int (mlm M)), (5, .int (nI (mnA M)))]) hC.1 hC.2.1 dL_isLab_192 hl (by decide) rfl (fun ls hl => ?_)
          refine ec_loopC (n := 6) 36 360 (fun n H locs ls => lv_has ls 13 [(9, .int (nI n)), (8, .int (barM M k)), (7, .int (nI (M.1 3 k))), (6, .int (nI k)), (4, .int (nI (freN M k))), (0, .ref x), (1, .int (nI (mnR M))), (2, .int (nI (mnF M))), (3, .int (mlm M)), (5, .int (nI (mnA M)))] ∧ (va_S X s.heap H locs ∧ ecXs G X H ∧ EC G X M x H) ∧ True) ⟨⟨hl.1, hl.2.1, (ec_lvc (lv_at hl 0 rfl) (ec_lvc (lv_at hl 1 rfl) (ec_lvc (lv_at hl 2 rfl) (ec_lvc (lv_at hl 3 rfl) (ec_lvc (lv_at hl 4 rfl) (ec_lvc (lv_at hl 5 rfl) (ec_lvc (lv_at hl 6 rfl) (ec_lvc (lv_at hl 7 rfl) (ec_lvc (lv_at hl 8 rfl) (ec_lvc (lv_at hl 9 rfl) ec_lvn))))))))))⟩, ⟨hS, hXs, hEC⟩, trivial⟩ (fun H locs ls h9 => ?_) (fun n H locs ls hn h9 hkn => ?_)
          · obtain ⟨hl, hW9, hI2⟩ := h9
            obtain ⟨hS, hXs, hEC⟩ := hW9
            refine lv_iload hC.1 hC.2.1 dL_isLab_194 (lv_at hl 0 rfl) ?_
            refine lv_bipush (v := 6) hC.1 hC.2.1 dL_isLab_196 (by decide) ?_
            refine lv_icmp_ge (tgt := 292) hC.1 hC.2.1 dL_isLab_198 (by decide) (fun c_198 => ?_) (fun c => absurd (Int32.le_refl _) c)
            refine lv_iload hC.1 hC.2.1 dL_isLab_292 (lv_at hl 4 rfl) ?_
            refine lv_iload hC.1 hC.2.1 dL_isLab_294 (lv_at hl 1 rfl) ?_
            refine lv_bipush (v := 45) hC.1 hC.2.1 dL_isLab_296 (by decide) ?_
            refine lw_eq hC dL_isLab_298 dL_isLab_301 dL_isLab_302 dL_isLab_305 ?_
            refine lv_iadd hC.1 hC.2.1 dL_isLab_306 ?_
            refine ec_topi (y := (nI (freN M (k + 1)))) (fre_1 M k) ?_
            refine lv_istore (lv' := [(4, .int (nI (freN M (k + 1)))), (9, .int (nI 6)), (8, .int (barM M k)), (7, .int (nI (M.1 3 k))), (6, .int (nI k)), (0, .ref x), (1, .int (nI (mnR M))), (2, .int (nI (mnF M))), (3, .int (mlm M)), (5, .int (nI (mnA M)))]) hC.1 hC.2.1 dL_isLab_307 hl (by decide) rfl (fun ls hl => ?_)
            refine lv_iinc (v := (nI (k + 1))) (lv' := [(6, .int (nI (k + 1))), (4, .int (nI (freN M (k + 1)))), (9, .int (nI 6)), (8, .int (barM M k)), (7, .int (nI (M.1 3 k))), (0, .ref x), (1, .int (nI (mnR M))), (2, .int (nI (mnF M))), (3, .int (mlm M)), (5, .int (nI (mnA M)))]) hC.1 hC.2.1 dL_isLab_309 hl (k := 4) rfl (nI_1 _) (by decide) rfl (fun ls hl => ?_)
            refine lv_goto (tgt := 92) hC.1 hC.2.1 dL_isLab_312 (by decide) ?_
            exact W.widen (by omega) (by omega) (hkk H locs ls ⟨⟨hl.1, hl.2.1, (ec_lvc (lv_at hl 0 rfl) (ec_lvc (lv_at hl 1 rfl) (ec_lvc (lv_at hl 5 rfl) (ec_lvc (lv_at hl 6 rfl) (ec_lvc (lv_at hl 7 rfl) (ec_lvc (lv_at hl 8 rfl) (ec_lvc (lv_at hl 9 rfl) ec_lvn)))))))⟩, ⟨hS, hXs, hEC⟩, trivial⟩)
          · obtain ⟨hl, hW9, hI2⟩ := h9
            obtain ⟨hS, hXs, hEC⟩ := hW9
            have hcn : cN (nI n) = n := cN_nI (by omega)
            have hn4 := nn_4 n
            have hnn := nn_n n
            refine lv_iload hC.1 hC.2.1 dL_isLab_194 (lv_at hl 0 rfl) ?_
            refine lv_bipush (v := 6) hC.1 hC.2.1 dL_isLab_196 (by decide) ?_
            refine lv_icmp_ge (tgt := 292) hC.1 hC.2.1 dL_isLab_198 (by decide) (fun c => absurd c (lt_n (b := 6) hn (by omega))) (fun c_198 => ?_)
            refine lv_lconst (v := 0) hC.1 hC.2.1 dL_isLab_201 (by decide) ?_
            refine lv_lstore (lv' := [(10, .long 0), (9, .int (nI n)), (8, .int (barM M k)), (7, .int (nI (M.1 3 k))), (6, .int (nI k)), (4, .int (nI (freN M k))), (0, .ref x), (1, .int (nI (mnR M))), (2, .int (nI (mnF M))), (3, .int (mlm M)), (5, .int (nI (mnA M)))]) hC.1 hC.2.1 dL_isLab_202 hl (by decide) rfl (fun ls hl => ?_)
            refine lv_iconst (v := 0) hC.1 hC.2.1 dL_isLab_204 (by decide) ?_
            refine lv_istore (lv' := [(12, .int 0), (10, .long 0), (9, .int (nI n)), (8, .int (barM M k)), (7, .int (nI (M.1 3 k))), (6, .int (nI k)), (4, .int (nI (freN M k))), (0, .ref x), (1, .int (nI (mnR M))), (2, .int (nI (mnF M))), (3, .int (mlm M)), (5, .int (nI (mnA M)))]) hC.1 hC.2.1 dL_isLab_205 hl (by decide) rfl (fun ls hl => ?_)
            refine ec_loopC (n := (nn n)) 8 80 (fun j H locs ls => lv_has ls 13 [(12, .int (nI j)), (10, .long (prS (smA M (M.1 3 k)) (tpA M k) n j)), (9, .int (nI n)), (8, .int (barM M k)), (7, .int (nI (M.1 3 k))), (6, .int (nI k)), (4, .int (nI (freN M k))), (0, .ref x), (1, .int (nI (mnR M))), (2, .int (nI (mnF M))), (3, .int (mlm M)), (5, .int (nI (mnA M)))] ∧ (va_S X s.heap H locs ∧ ecXs G X H ∧ EC G X M x H) ∧ True) ⟨⟨hl.1, hl.2.1, (ec_lvc (lv_at hl 0 rfl) (ec_lvc (lv_at hl 1 rfl) (ec_lvc (lv_at hl 2 rfl) (ec_lvc (lv_at hl 3 rfl) (ec_lvc (lv_at hl 4 rfl) (ec_lvc (lv_at hl 5 rfl) (ec_lvc (lv_at hl 6 rfl) (ec_lvc (lv_at hl 7 rfl) (ec_lvc (lv_at hl 8 rfl) (ec_lvc (lv_at hl 9 rfl) (ec_lvc (lv_at hl 10 rfl) (ec_lvc (lv_at hl 11 rfl) ec_lvn))))))))))))⟩, ⟨hS, hXs, hEC⟩, trivial⟩ (fun H locs ls h9 => ?_) (fun j H locs ls hj h9 hkj => ?_)
            · obtain ⟨hl, hW9, hI3⟩ := h9
              obtain ⟨hS, hXs, hEC⟩ := hW9
              refine lv_iload hC.1 hC.2.1 dL_isLab_207 (lv_at hl 0 rfl) ?_
              refine lv_iconst (v := 4) hC.1 hC.2.1 dL_isLab_209 (by decide) ?_
              refine lv_icmp_ge (tgt := 252) hC.1 hC.2.1 dL_isLab_210 (by decide) (fun c_210 => ?_) (fun c_210 => ?_)
              · refine lv_lload hC.1 hC.2.1 dL_isLab_252 (lv_at hl 1 rfl) ?_
                refine lv_iload hC.1 hC.2.1 dL_isLab_254 (lv_at hl 2 rfl) ?_
                refine lw_is0J hC dL_isLab_256 dL_isLab_259 dL_isLab_260 dL_isLab_263 ?_
                refine W.lcmp hC.1 hC.2.1 dL_isLab_264 ?_
                refine lv_if_ne (tgt := 284) hC.1 hC.2.1 dL_isLab_265 (by decide) (fun c => absurd ((ec_cm0 _ _).mpr (by rw [nz_if (by omega)]; exact hft.1 n hn)) c) (fun c_265 => ?_)
                refine lv_aload_n hC.1 hC.2.1 dL_isLab_268 rfl (lv_at hl 7 rfl) ?_
                refine lv_iload hC.1 hC.2.1 dL_isLab_269 (lv_at hl 5 rfl) ?_
                refine lv_iload hC.1 hC.2.1 dL_isLab_271 (lv_at hl 4 rfl) ?_
                refine lv_iload hC.1 hC.2.1 dL_isLab_273 (lv_at hl 2 rfl) ?_
                refine ec_goXE1 (ec_xV hC (c_X5_product l hls G X M x (nI k) (nI (M.1 3 k)) (nI n)) kL_84 (hOk.at hS hAN) ⟨hXs, hEC⟩ (hEC.rcv hK) hl.1 ⟨Nat.le_of_ble_eq_true rfl, Nat.le_of_ble_eq_true rfl⟩ rfl (Nat.le_of_ble_eq_true rfl) dL_isLab_275 ⟨(by show _ ≤ 6000; omega), (by show _ ≤ 60000; omega)⟩) hS (fun _ h => h) (fun E9 ce9 q9 H9 l9 hx hk9 hS9 h1 h2 h3 => (lw_no (T_Pro hW hk hak hn) hx (by decide)).elim) (fun H locs hp hzs hk1 hS => ?_)
                obtain ⟨-, hEC⟩ := hp
                have hXs := hXs.le hzs
                refine ec_topl (y := (prd (smA M (M.1 3 k)) (tpA M k) n)) (by rw [hck, hca, hcn]) ?_
                refine lv_lload hC.1 hC.2.1 dL_isLab_278 (lv_at hl 1 rfl) ?_
                refine W.lcmp hC.1 hC.2.1 dL_isLab_280 ?_
                refine lv_if_eq (tgt := 286) hC.1 hC.2.1 dL_isLab_281 (by decide) (fun c_281 => ?_) (fun c => absurd ((ec_cm0 _ _).mpr rfl) c)
                refine lv_iinc (v := (nI (n + 1))) (lv' := [(9, .int (nI (n + 1))), (12, .int (nI (nn n))), (10, .long (prS (smA M (M.1 3 k)) (tpA M k) n (nn n))), (8, .int (barM M k)), (7, .int (nI (M.1 3 k))), (6, .int (nI k)), (4, .int (nI (freN M k))), (0, .ref x), (1, .int (nI (mnR M))), (2, .int (nI (mnF M))), (3, .int (mlm M)), (5, .int (nI (mnA M)))]) hC.1 hC.2.1 dL_isLab_286 hl (k := 2) rfl (nI_1 _) (by decide) rfl (fun ls hl => ?_)
                refine lv_goto (tgt := 194) hC.1 hC.2.1 dL_isLab_289 (by decide) ?_
                exact W.widen (by omega) (by omega) (hkn H locs ls ⟨⟨hl.1, hl.2.1, (ec_lvc (lv_at hl 0 rfl) (ec_lvc (lv_at hl 3 rfl) (ec_lvc (lv_at hl 4 rfl) (ec_lvc (lv_at hl 5 rfl) (ec_lvc (lv_at hl 6 rfl) (ec_lvc (lv_at hl 7 rfl) (ec_lvc (lv_at hl 8 rfl) (ec_lvc (lv_at hl 9 rfl) (ec_lvc (lv_at hl 10 rfl) (ec_lvc (lv_at hl 11 rfl) ec_lvn))))))))))⟩, ⟨hS, hXs, hEC⟩, trivial⟩)
              · refine lv_iload hC.1 hC.2.1 dL_isLab_213 (lv_at hl 0 rfl) ?_
                refine lv_iload hC.1 hC.2.1 dL_isLab_215 (lv_at hl 2 rfl) ?_
                refine lv_icmp_gt (tgt := 252) hC.1 hC.2.1 dL_isLab_217 (by decide) (fun c_217 => ?_) (fun c => absurd (nI_lt (nn_x (n_lt (b := 4) c_210 (by omega))) (by omega)) c)
                refine lv_lload hC.1 hC.2.1 dL_isLab_252 (lv_at hl 1 rfl) ?_
                refine lv_iload hC.1 hC.2.1 dL_isLab_254 (lv_at hl 2 rfl) ?_
                refine lw_is0J hC dL_isLab_256 dL_isLab_259 dL_isLab_260 dL_isLab_263 ?_
                refine W.lcmp hC.1 hC.2.1 dL_isLab_264 ?_
                refine lv_if_ne (tgt := 284) hC.1 hC.2.1 dL_isLab_265 (by decide) (fun c => absurd ((ec_cm0 _ _).mpr (by rw [nz_if (by omega)]; exact hft.1 n hn)) c) (fun c_265 => ?_)
                refine lv_aload_n hC.1 hC.2.1 dL_isLab_268 rfl (lv_at hl 7 rfl) ?_
                refine lv_iload hC.1 hC.2.1 dL_isLab_269 (lv_at hl 5 rfl) ?_
                refine lv_iload hC.1 hC.2.1 dL_isLab_271 (lv_at hl 4 rfl) ?_
                refine lv_iload hC.1 hC.2.1 dL_isLab_273 (lv_at hl 2 rfl) ?_
                refine ec_goXE1 (ec_xV hC (c_X5_product l hls G X M x (nI k) (nI (M.1 3 k)) (nI n)) kL_84 (hOk.at hS hAN) ⟨hXs, hEC⟩ (hEC.rcv hK) hl.1 ⟨Nat.le_of_ble_eq_true rfl, Nat.le_of_ble_eq_true rfl⟩ rfl (Nat.le_of_ble_eq_true rfl) dL_isLab_275 ⟨(by show _ ≤ 6000; omega), (by show _ ≤ 60000; omega)⟩) hS (fun _ h => h) (fun E9 ce9 q9 H9 l9 hx hk9 hS9 h1 h2 h3 => (lw_no (T_Pro hW hk hak hn) hx (by decide)).elim) (fun H locs hp hzs hk1 hS => ?_)
                obtain ⟨-, hEC⟩ := hp
                have hXs := hXs.le hzs
                refine ec_topl (y := (prd (smA M (M.1 3 k)) (tpA M k) n)) (by rw [hck, hca, hcn]) ?_
                refine lv_lload hC.1 hC.2.1 dL_isLab_278 (lv_at hl 1 rfl) ?_
                refine W.lcmp hC.1 hC.2.1 dL_isLab_280 ?_
                refine lv_if_eq (tgt := 286) hC.1 hC.2.1 dL_isLab_281 (by decide) (fun c_281 => ?_) (fun c => absurd ((ec_cm0 _ _).mpr rfl) c)
                refine lv_iinc (v := (nI (n + 1))) (lv' := [(9, .int (nI (n + 1))), (12, .int (nI (nn n))), (10, .long (prS (smA M (M.1 3 k)) (tpA M k) n (nn n))), (8, .int (barM M k)), (7, .int (nI (M.1 3 k))), (6, .int (nI k)), (4, .int (nI (freN M k))), (0, .ref x), (1, .int (nI (mnR M))), (2, .int (nI (mnF M))), (3, .int (mlm M)), (5, .int (nI (mnA M)))]) hC.1 hC.2.1 dL_isLab_286 hl (k := 2) rfl (nI_1 _) (by decide) rfl (fun ls hl => ?_)
                refine lv_goto (tgt := 194) hC.1 hC.2.1 dL_isLab_289 (by decide) ?_
                exact W.widen (by omega) (by omega) (hkn H locs ls ⟨⟨hl.1, hl.2.1, (ec_lvc (lv_at hl 0 rfl) (ec_lvc (lv_at hl 3 rfl) (ec_lvc (lv_at hl 4 rfl) (ec_lvc (lv_at hl 5 rfl) (ec_lvc (lv_at hl 6 rfl) (ec_lvc (lv_at hl 7 rfl) (ec_lvc (lv_at hl 8 rfl) (ec_lvc (lv_at hl 9 rfl) (ec_lvc (lv_at hl 10 rfl) (ec_lvc (lv_at hl 11 rfl) ec_lvn))))))))))⟩, ⟨hS, hXs, hEC⟩, trivial⟩)
            · obtain ⟨hl, hW9, hI3⟩ := h9
              obtain ⟨hS, hXs, hEC⟩ := hW9
              have hcj : cN (nI j) = j := cN_nI (by omega)
              have hcnj : cN (nI (n - j)) = n - j := cN_nI (by omega)
              refine lv_iload hC.1 hC.2.1 dL_isLab_207 (lv_at hl 0 rfl) ?_
              refine lv_iconst (v := 4) hC.1 hC.2.1 dL_isLab_209 (by decide) ?_
              refine lv_icmp_ge (tgt := 252) hC.1 hC.2.1 dL_isLab_210 (by decide) (fun c => absurd c (lt_n (b := 4) (Nat.lt_of_lt_of_le hj hn4) (by omega))) (fun c_210 => ?_)
              refine lv_iload hC.1 hC.2.1 dL_isLab_213 (lv_at hl 0 rfl) ?_
              refine lv_iload hC.1 hC.2.1 dL_isLab_215 (lv_at hl 2 rfl) ?_
              refine lv_icmp_gt (tgt := 252) hC.1 hC.2.1 dL_isLab_217 (by decide) (fun c => absurd c (le_n (show j ≤ n by omega) (by omega))) (fun c_217 => ?_)
              refine lv_lload hC.1 hC.2.1 dL_isLab_220 (lv_at hl 1 rfl) ?_
              refine lv_aload_n hC.1 hC.2.1 dL_isLab_222 rfl (lv_at hl 7 rfl) ?_
              refine lv_iload hC.1 hC.2.1 dL_isLab_223 (lv_at hl 4 rfl) ?_
              refine lv_iload hC.1 hC.2.1 dL_isLab_225 (lv_at hl 0 rfl) ?_
              refine ec_goXE1 (ec_xV hC (c_X5_sample l hls G X M x (nI (M.1 3 k)) (nI j)) kL_40 (hOk.at hS hAN) ⟨hXs, hEC⟩ (hEC.rcv hK) hl.1 ⟨Nat.le_of_ble_eq_true rfl, Nat.le_of_ble_eq_true rfl⟩ rfl (Nat.le_of_ble_eq_true rfl) dL_isLab_227 ⟨(by show _ ≤ 6000; omega), (by show _ ≤ 60000; omega)⟩) hS (fun _ h => h) (fun E9 ce9 q9 H9 l9 hx hk9 hS9 h1 h2 h3 => (lw_no (T_Sam hW hak (show j < 4 by omega)) hx (by decide)).elim) (fun H locs hp hzs hk1 hS => ?_)
              obtain ⟨-, hEC⟩ := hp
              have hXs := hXs.le hzs
              refine ec_topi (y := (smA M (M.1 3 k) j)) (by rw [hca, hcj]) ?_
              refine lv_i2l hC.1 hC.2.1 dL_isLab_230 rfl ?_
              refine lv_aload_n hC.1 hC.2.1 dL_isLab_231 rfl (lv_at hl 7 rfl) ?_
              refine lv_iload hC.1 hC.2.1 dL_isLab_232 (lv_at hl 5 rfl) ?_
              refine lv_iload hC.1 hC.2.1 dL_isLab_234 (lv_at hl 2 rfl) ?_
              refine lv_iload hC.1 hC.2.1 dL_isLab_236 (lv_at hl 0 rfl) ?_
              refine lw_sub hC (k := n) (n := j) rfl rfl (by omega) dL_isLab_238 ?_
              refine ec_goXE1 (ec_xV hC (c_X5_tap l hls G X M x (nI k) (nI (n - j))) kL_60 (hOk.at hS hAN) ⟨hXs, hEC⟩ (hEC.rcv hK) hl.1 ⟨Nat.le_of_ble_eq_true rfl, Nat.le_of_ble_eq_true rfl⟩ rfl (Nat.le_of_ble_eq_true rfl) dL_isLab_239 ⟨(by show _ ≤ 6000; omega), (by show _ ≤ 60000; omega)⟩) hS (fun _ h => h) (fun E9 ce9 q9 H9 l9 hx hk9 hS9 h1 h2 h3 => (lw_no (T_Tap hW hk (show n - j < 6 by omega)) hx (by decide)).elim) (fun H locs hp hzs hk1 hS => ?_)
              obtain ⟨-, hEC⟩ := hp
              have hXs := hXs.le hzs
              refine ec_topl (y := (tpA M k (n - j))) (by rw [hck, hcnj]) ?_
              refine lv_lmul hC.1 hC.2.1 dL_isLab_242 ?_
              refine lv_ladd hC.1 hC.2.1 dL_isLab_243 ?_
              refine lv_lstore (lv' := [(10, .long ((prS (smA M (M.1 3 k)) (tpA M k) n j) + ((Int32.toInt64 (smA M (M.1 3 k) j)) * (tpA M k (n - j))))), (12, .int (nI j)), (9, .int (nI n)), (8, .int (barM M k)), (7, .int (nI (M.1 3 k))), (6, .int (nI k)), (4, .int (nI (freN M k))), (0, .ref x), (1, .int (nI (mnR M))), (2, .int (nI (mnF M))), (3, .int (mlm M)), (5, .int (nI (mnA M)))]) hC.1 hC.2.1 dL_isLab_244 hl (by decide) rfl (fun ls hl => ?_)
              refine lv_iinc (v := (nI (j + 1))) (lv' := [(12, .int (nI (j + 1))), (10, .long ((prS (smA M (M.1 3 k)) (tpA M k) n j) + ((Int32.toInt64 (smA M (M.1 3 k) j)) * (tpA M k (n - j))))), (9, .int (nI n)), (8, .int (barM M k)), (7, .int (nI (M.1 3 k))), (6, .int (nI k)), (4, .int (nI (freN M k))), (0, .ref x), (1, .int (nI (mnR M))), (2, .int (nI (mnF M))), (3, .int (mlm M)), (5, .int (nI (mnA M)))]) hC.1 hC.2.1 dL_isLab_246 hl (k := 1) rfl (nI_1 _) (by decide) rfl (fun ls hl => ?_)
              refine lv_goto (tgt := 207) hC.1 hC.2.1 dL_isLab_249 (by decide) ?_
              rw [← prS_s (smA M (M.1 3 k)) (tpA M k) n j] at hl
              exact W.widen (by omega) (by omega) (hkj H locs ls ⟨⟨hl.1, hl.2.1, (ec_lvc (lv_at hl 0 rfl) (ec_lvc (lv_at hl 1 rfl) (ec_lvc (lv_at hl 2 rfl) (ec_lvc (lv_at hl 3 rfl) (ec_lvc (lv_at hl 4 rfl) (ec_lvc (lv_at hl 5 rfl) (ec_lvc (lv_at hl 6 rfl) (ec_lvc (lv_at hl 7 rfl) (ec_lvc (lv_at hl 8 rfl) (ec_lvc (lv_at hl 9 rfl) (ec_lvc (lv_at hl 10 rfl) (ec_lvc (lv_at hl 11 rfl) ec_lvn))))))))))))⟩, ⟨hS, hXs, hEC⟩, trivial⟩)
      · refine lv_aload_n hC.1 hC.2.1 dL_isLab_162 rfl (lv_at hl 4 rfl) ?_
        refine lv_iload hC.1 hC.2.1 dL_isLab_163 (lv_at hl 1 rfl) ?_
        refine ec_goXE1 (ec_xV hC (c_X5_age l hls G X M x (nI (M.1 3 k))) kL_47 (hOk.at hS hAN) ⟨hXs, hEC⟩ (hEC.rcv hK) hl.1 ⟨Nat.le_of_ble_eq_true rfl, Nat.le_of_ble_eq_true rfl⟩ rfl (Nat.le_of_ble_eq_true rfl) dL_isLab_165 ⟨(by show _ ≤ 6000; omega), (by show _ ≤ 60000; omega)⟩) hS (fun _ h => h) (fun E9 ce9 q9 H9 l9 hx hk9 hS9 h1 h2 h3 => (lw_no (T_A hW hak) hx (by decide)).elim) (fun H locs hp hzs hk1 hS => ?_)
        obtain ⟨-, hEC⟩ := hp
        have hXs := hXs.le hzs
        refine ec_topi (y := (ageM M (M.1 3 k))) (by rw [hca]) ?_
        refine lv_iload_n hC.1 hC.2.1 dL_isLab_168 rfl (lv_at hl 7 rfl) ?_
        refine lv_icmp_gt (tgt := 189) hC.1 hC.2.1 dL_isLab_169 (by decide) (fun c => absurd c (bar_45 c_159)) (fun c_169 => ?_)
        refine lv_iload hC.1 hC.2.1 dL_isLab_172 (lv_at hl 0 rfl) ?_
        refine lv_bipush (v := 111) hC.1 hC.2.1 dL_isLab_174 (by decide) ?_
        refine lv_icmp_ne (tgt := 191) hC.1 hC.2.1 dL_isLab_176 (by decide) (fun c_176 => ?_) (fun c_176 => ?_)
        · refine lv_iconst (v := 0) hC.1 hC.2.1 dL_isLab_191 (by decide) ?_
          refine lv_istore (lv' := [(9, .int 0), (8, .int (barM M k)), (7, .int (nI (M.1 3 k))), (6, .int (nI k)), (4, .int (nI (freN M k))), (0, .ref x), (1, .int (nI (mnR M))), (2, .int (nI (mnF M))), (3, .int (mlm M)), (5, .int (nI (mnA M)))]) hC.1 hC.2.1 dL_isLab_192 hl (by decide) rfl (fun ls hl => ?_)
          refine ec_loopC (n := 6) 36 360 (fun n H locs ls => lv_has ls 13 [(9, .int (nI n)), (8, .int (barM M k)), (7, .int (nI (M.1 3 k))), (6, .int (nI k)), (4, .int (nI (freN M k))), (0, .ref x), (1, .int (nI (mnR M))), (2, .int (nI (mnF M))), (3, .int (mlm M)), (5, .int (nI (mnA M)))] ∧ (va_S X s.heap H locs ∧ ecXs G X H ∧ EC G X M x H) ∧ True) ⟨⟨hl.1, hl.2.1, (ec_lvc (lv_at hl 0 rfl) (ec_lvc (lv_at hl 1 rfl) (ec_lvc (lv_at hl 2 rfl) (ec_lvc (lv_at hl 3 rfl) (ec_lvc (lv_at hl 4 rfl) (ec_lvc (lv_at hl 5 rfl) (ec_lvc (lv_at hl 6 rfl) (ec_lvc (lv_at hl 7 rfl) (ec_lvc (lv_at hl 8 rfl) (ec_lvc (lv_at hl 9 rfl) ec_lvn))))))))))⟩, ⟨hS, hXs, hEC⟩, trivial⟩ (fun H locs ls h9 => ?_) (fun n H locs ls hn h9 hkn => ?_)
          · obtain ⟨hl, hW9, hI2⟩ := h9
            obtain ⟨hS, hXs, hEC⟩ := hW9
            refine lv_iload hC.1 hC.2.1 dL_isLab_194 (lv_at hl 0 rfl) ?_
            refine lv_bipush (v := 6) hC.1 hC.2.1 dL_isLab_196 (by decide) ?_
            refine lv_icmp_ge (tgt := 292) hC.1 hC.2.1 dL_isLab_198 (by decide) (fun c_198 => ?_) (fun c => absurd (Int32.le_refl _) c)
            refine lv_iload hC.1 hC.2.1 dL_isLab_292 (lv_at hl 4 rfl) ?_
            refine lv_iload hC.1 hC.2.1 dL_isLab_294 (lv_at hl 1 rfl) ?_
            refine lv_bipush (v := 45) hC.1 hC.2.1 dL_isLab_296 (by decide) ?_
            refine lw_eq hC dL_isLab_298 dL_isLab_301 dL_isLab_302 dL_isLab_305 ?_
            refine lv_iadd hC.1 hC.2.1 dL_isLab_306 ?_
            refine ec_topi (y := (nI (freN M (k + 1)))) (fre_1 M k) ?_
            refine lv_istore (lv' := [(4, .int (nI (freN M (k + 1)))), (9, .int (nI 6)), (8, .int (barM M k)), (7, .int (nI (M.1 3 k))), (6, .int (nI k)), (0, .ref x), (1, .int (nI (mnR M))), (2, .int (nI (mnF M))), (3, .int (mlm M)), (5, .int (nI (mnA M)))]) hC.1 hC.2.1 dL_isLab_307 hl (by decide) rfl (fun ls hl => ?_)
            refine lv_iinc (v := (nI (k + 1))) (lv' := [(6, .int (nI (k + 1))), (4, .int (nI (freN M (k + 1)))), (9, .int (nI 6)), (8, .int (barM M k)), (7, .int (nI (M.1 3 k))), (0, .ref x), (1, .int (nI (mnR M))), (2, .int (nI (mnF M))), (3, .int (mlm M)), (5, .int (nI (mnA M)))]) hC.1 hC.2.1 dL_isLab_309 hl (k := 4) rfl (nI_1 _) (by decide) rfl (fun ls hl => ?_)
            refine lv_goto (tgt := 92) hC.1 hC.2.1 dL_isLab_312 (by decide) ?_
            exact W.widen (by omega) (by omega) (hkk H locs ls ⟨⟨hl.1, hl.2.1, (ec_lvc (lv_at hl 0 rfl) (ec_lvc (lv_at hl 1 rfl) (ec_lvc (lv_at hl 5 rfl) (ec_lvc (lv_at hl 6 rfl) (ec_lvc (lv_at hl 7 rfl) (ec_lvc (lv_at hl 8 rfl) (ec_lvc (lv_at hl 9 rfl) ec_lvn)))))))⟩, ⟨hS, hXs, hEC⟩, trivial⟩)
          · obtain ⟨hl, hW9, hI2⟩ := h9
            obtain ⟨hS, hXs, hEC⟩ := hW9
            have hcn : cN (nI n) = n := cN_nI (by omega)
            have hn4 := nn_4 n
            have hnn := nn_n n
            refine lv_iload hC.1 hC.2.1 dL_isLab_194 (lv_at hl 0 rfl) ?_
            refine lv_bipush (v := 6) hC.1 hC.2.1 dL_isLab_196 (by decide) ?_
            refine lv_icmp_ge (tgt := 292) hC.1 hC.2.1 dL_isLab_198 (by decide) (fun c => absurd c (lt_n (b := 6) hn (by omega))) (fun c_198 => ?_)
            refine lv_lconst (v := 0) hC.1 hC.2.1 dL_isLab_201 (by decide) ?_
            refine lv_lstore (lv' := [(10, .long 0), (9, .int (nI n)), (8, .int (barM M k)), (7, .int (nI (M.1 3 k))), (6, .int (nI k)), (4, .int (nI (freN M k))), (0, .ref x), (1, .int (nI (mnR M))), (2, .int (nI (mnF M))), (3, .int (mlm M)), (5, .int (nI (mnA M)))]) hC.1 hC.2.1 dL_isLab_202 hl (by decide) rfl (fun ls hl => ?_)
            refine lv_iconst (v := 0) hC.1 hC.2.1 dL_isLab_204 (by decide) ?_
            refine lv_istore (lv' := [(12, .int 0), (10, .long 0), (9, .int (nI n)), (8, .int (barM M k)), (7, .int (nI (M.1 3 k))), (6, .int (nI k)), (4, .int (nI (freN M k))), (0, .ref x), (1, .int (nI (mnR M))), (2, .int (nI (mnF M))), (3, .int (mlm M)), (5, .int (nI (mnA M)))]) hC.1 hC.2.1 dL_isLab_205 hl (by decide) rfl (fun ls hl => ?_)
            refine ec_loopC (n := (nn n)) 8 80 (fun j H locs ls => lv_has ls 13 [(12, .int (nI j)), (10, .long (prS (smA M (M.1 3 k)) (tpA M k) n j)), (9, .int (nI n)), (8, .int (barM M k)), (7, .int (nI (M.1 3 k))), (6, .int (nI k)), (4, .int (nI (freN M k))), (0, .ref x), (1, .int (nI (mnR M))), (2, .int (nI (mnF M))), (3, .int (mlm M)), (5, .int (nI (mnA M)))] ∧ (va_S X s.heap H locs ∧ ecXs G X H ∧ EC G X M x H) ∧ True) ⟨⟨hl.1, hl.2.1, (ec_lvc (lv_at hl 0 rfl) (ec_lvc (lv_at hl 1 rfl) (ec_lvc (lv_at hl 2 rfl) (ec_lvc (lv_at hl 3 rfl) (ec_lvc (lv_at hl 4 rfl) (ec_lvc (lv_at hl 5 rfl) (ec_lvc (lv_at hl 6 rfl) (ec_lvc (lv_at hl 7 rfl) (ec_lvc (lv_at hl 8 rfl) (ec_lvc (lv_at hl 9 rfl) (ec_lvc (lv_at hl 10 rfl) (ec_lvc (lv_at hl 11 rfl) ec_lvn))))))))))))⟩, ⟨hS, hXs, hEC⟩, trivial⟩ (fun H locs ls h9 => ?_) (fun j H locs ls hj h9 hkj => ?_)
            · obtain ⟨hl, hW9, hI3⟩ := h9
              obtain ⟨hS, hXs, hEC⟩ := hW9
              refine lv_iload hC.1 hC.2.1 dL_isLab_207 (lv_at hl 0 rfl) ?_
              refine lv_iconst (v := 4) hC.1 hC.2.1 dL_isLab_209 (by decide) ?_
              refine lv_icmp_ge (tgt := 252) hC.1 hC.2.1 dL_isLab_210 (by decide) (fun c_210 => ?_) (fun c_210 => ?_)
              · refine lv_lload hC.1 hC.2.1 dL_isLab_252 (lv_at hl 1 rfl) ?_
                refine lv_iload hC.1 hC.2.1 dL_isLab_254 (lv_at hl 2 rfl) ?_
                refine lw_is0J hC dL_isLab_256 dL_isLab_259 dL_isLab_260 dL_isLab_263 ?_
                refine W.lcmp hC.1 hC.2.1 dL_isLab_264 ?_
                refine lv_if_ne (tgt := 284) hC.1 hC.2.1 dL_isLab_265 (by decide) (fun c => absurd ((ec_cm0 _ _).mpr (by rw [nz_if (by omega)]; exact hft.1 n hn)) c) (fun c_265 => ?_)
                refine lv_aload_n hC.1 hC.2.1 dL_isLab_268 rfl (lv_at hl 7 rfl) ?_
                refine lv_iload hC.1 hC.2.1 dL_isLab_269 (lv_at hl 5 rfl) ?_
                refine lv_iload hC.1 hC.2.1 dL_isLab_271 (lv_at hl 4 rfl) ?_
                refine lv_iload hC.1 hC.2.1 dL_isLab_273 (lv_at hl 2 rfl) ?_
                refine ec_goXE1 (ec_xV hC (c_X5_product l hls G X M x (nI k) (nI (M.1 3 k)) (nI n)) kL_84 (hOk.at hS hAN) ⟨hXs, hEC⟩ (hEC.rcv hK) hl.1 ⟨Nat.le_of_ble_eq_true rfl, Nat.le_of_ble_eq_true rfl⟩ rfl (Nat.le_of_ble_eq_true rfl) dL_isLab_275 ⟨(by show _ ≤ 6000; omega), (by show _ ≤ 60000; omega)⟩) hS (fun _ h => h) (fun E9 ce9 q9 H9 l9 hx hk9 hS9 h1 h2 h3 => (lw_no (T_Pro hW hk hak hn) hx (by decide)).elim) (fun H locs hp hzs hk1 hS => ?_)
                obtain ⟨-, hEC⟩ := hp
                have hXs := hXs.le hzs
                refine ec_topl (y := (prd (smA M (M.1 3 k)) (tpA M k) n)) (by rw [hck, hca, hcn]) ?_
                refine lv_lload hC.1 hC.2.1 dL_isLab_278 (lv_at hl 1 rfl) ?_
                refine W.lcmp hC.1 hC.2.1 dL_isLab_280 ?_
                refine lv_if_eq (tgt := 286) hC.1 hC.2.1 dL_isLab_281 (by decide) (fun c_281 => ?_) (fun c => absurd ((ec_cm0 _ _).mpr rfl) c)
                refine lv_iinc (v := (nI (n + 1))) (lv' := [(9, .int (nI (n + 1))), (12, .int (nI (nn n))), (10, .long (prS (smA M (M.1 3 k)) (tpA M k) n (nn n))), (8, .int (barM M k)), (7, .int (nI (M.1 3 k))), (6, .int (nI k)), (4, .int (nI (freN M k))), (0, .ref x), (1, .int (nI (mnR M))), (2, .int (nI (mnF M))), (3, .int (mlm M)), (5, .int (nI (mnA M)))]) hC.1 hC.2.1 dL_isLab_286 hl (k := 2) rfl (nI_1 _) (by decide) rfl (fun ls hl => ?_)
                refine lv_goto (tgt := 194) hC.1 hC.2.1 dL_isLab_289 (by decide) ?_
                exact W.widen (by omega) (by omega) (hkn H locs ls ⟨⟨hl.1, hl.2.1, (ec_lvc (lv_at hl 0 rfl) (ec_lvc (lv_at hl 3 rfl) (ec_lvc (lv_at hl 4 rfl) (ec_lvc (lv_at hl 5 rfl) (ec_lvc (lv_at hl 6 rfl) (ec_lvc (lv_at hl 7 rfl) (ec_lvc (lv_at hl 8 rfl) (ec_lvc (lv_at hl 9 rfl) (ec_lvc (lv_at hl 10 rfl) (ec_lvc (lv_at hl 11 rfl) ec_lvn))))))))))⟩, ⟨hS, hXs, hEC⟩, trivial⟩)
              · refine lv_iload hC.1 hC.2.1 dL_isLab_213 (lv_at hl 0 rfl) ?_
                refine lv_iload hC.1 hC.2.1 dL_isLab_215 (lv_at hl 2 rfl) ?_
                refine lv_icmp_gt (tgt := 252) hC.1 hC.2.1 dL_isLab_217 (by decide) (fun c_217 => ?_) (fun c => absurd (nI_lt (nn_x (n_lt (b := 4) c_210 (by omega))) (by omega)) c)
                refine lv_lload hC.1 hC.2.1 dL_isLab_252 (lv_at hl 1 rfl) ?_
                refine lv_iload hC.1 hC.2.1 dL_isLab_254 (lv_at hl 2 rfl) ?_
                refine lw_is0J hC dL_isLab_256 dL_isLab_259 dL_isLab_260 dL_isLab_263 ?_
                refine W.lcmp hC.1 hC.2.1 dL_isLab_264 ?_
                refine lv_if_ne (tgt := 284) hC.1 hC.2.1 dL_isLab_265 (by decide) (fun c => absurd ((ec_cm0 _ _).mpr (by rw [nz_if (by omega)]; exact hft.1 n hn)) c) (fun c_265 => ?_)
                refine lv_aload_n hC.1 hC.2.1 dL_isLab_268 rfl (lv_at hl 7 rfl) ?_
                refine lv_iload hC.1 hC.2.1 dL_isLab_269 (lv_at hl 5 rfl) ?_
                refine lv_iload hC.1 hC.2.1 dL_isLab_271 (lv_at hl 4 rfl) ?_
                refine lv_iload hC.1 hC.2.1 dL_isLab_273 (lv_at hl 2 rfl) ?_
                refine ec_goXE1 (ec_xV hC (c_X5_product l hls G X M x (nI k) (nI (M.1 3 k)) (nI n)) kL_84 (hOk.at hS hAN) ⟨hXs, hEC⟩ (hEC.rcv hK) hl.1 ⟨Nat.le_of_ble_eq_true rfl, Nat.le_of_ble_eq_true rfl⟩ rfl (Nat.le_of_ble_eq_true rfl) dL_isLab_275 ⟨(by show _ ≤ 6000; omega), (by show _ ≤ 60000; omega)⟩) hS (fun _ h => h) (fun E9 ce9 q9 H9 l9 hx hk9 hS9 h1 h2 h3 => (lw_no (T_Pro hW hk hak hn) hx (by decide)).elim) (fun H locs hp hzs hk1 hS => ?_)
                obtain ⟨-, hEC⟩ := hp
                have hXs := hXs.le hzs
                refine ec_topl (y := (prd (smA M (M.1 3 k)) (tpA M k) n)) (by rw [hck, hca, hcn]) ?_
                refine lv_lload hC.1 hC.2.1 dL_isLab_278 (lv_at hl 1 rfl) ?_
                refine W.lcmp hC.1 hC.2.1 dL_isLab_280 ?_
                refine lv_if_eq (tgt := 286) hC.1 hC.2.1 dL_isLab_281 (by decide) (fun c_281 => ?_) (fun c => absurd ((ec_cm0 _ _).mpr rfl) c)
                refine lv_iinc (v := (nI (n + 1))) (lv' := [(9, .int (nI (n + 1))), (12, .int (nI (nn n))), (10, .long (prS (smA M (M.1 3 k)) (tpA M k) n (nn n))), (8, .int (barM M k)), (7, .int (nI (M.1 3 k))), (6, .int (nI k)), (4, .int (nI (freN M k))), (0, .ref x), (1, .int (nI (mnR M))), (2, .int (nI (mnF M))), (3, .int (mlm M)), (5, .int (nI (mnA M)))]) hC.1 hC.2.1 dL_isLab_286 hl (k := 2) rfl (nI_1 _) (by decide) rfl (fun ls hl => ?_)
                refine lv_goto (tgt := 194) hC.1 hC.2.1 dL_isLab_289 (by decide) ?_
                exact W.widen (by omega) (by omega) (hkn H locs ls ⟨⟨hl.1, hl.2.1, (ec_lvc (lv_at hl 0 rfl) (ec_lvc (lv_at hl 3 rfl) (ec_lvc (lv_at hl 4 rfl) (ec_lvc (lv_at hl 5 rfl) (ec_lvc (lv_at hl 6 rfl) (ec_lvc (lv_at hl 7 rfl) (ec_lvc (lv_at hl 8 rfl) (ec_lvc (lv_at hl 9 rfl) (ec_lvc (lv_at hl 10 rfl) (ec_lvc (lv_at hl 11 rfl) ec_lvn))))))))))⟩, ⟨hS, hXs, hEC⟩, trivial⟩)
            · obtain ⟨hl, hW9, hI3⟩ := h9
              obtain ⟨hS, hXs, hEC⟩ := hW9
              have hcj : cN (nI j) = j := cN_nI (by omega)
              have hcnj : cN (nI (n - j)) = n - j := cN_nI (by omega)
              refine lv_iload hC.1 hC.2.1 dL_isLab_207 (lv_at hl 0 rfl) ?_
              refine lv_iconst (v := 4) hC.1 hC.2.1 dL_isLab_209 (by decide) ?_
              refine lv_icmp_ge (tgt := 252) hC.1 hC.2.1 dL_isLab_210 (by decide) (fun c => absurd c (lt_n (b := 4) (Nat.lt_of_lt_of_le hj hn4) (by omega))) (fun c_210 => ?_)
              refine lv_iload hC.1 hC.2.1 dL_isLab_213 (lv_at hl 0 rfl) ?_
              refine lv_iload hC.1 hC.2.1 dL_isLab_215 (lv_at hl 2 rfl) ?_
              refine lv_icmp_gt (tgt := 252) hC.1 hC.2.1 dL_isLab_217 (by decide) (fun c => absurd c (le_n (show j ≤ n by omega) (by omega))) (fun c_217 => ?_)
              refine lv_lload hC.1 hC.2.1 dL_isLab_220 (lv_at hl 1 rfl) ?_
              refine lv_aload_n hC.1 hC.2.1 dL_isLab_222 rfl (lv_at hl 7 rfl) ?_
              refine lv_iload hC.1 hC.2.1 dL_isLab_223 (lv_at hl 4 rfl) ?_
              refine lv_iload hC.1 hC.2.1 dL_isLab_225 (lv_at hl 0 rfl) ?_
              refine ec_goXE1 (ec_xV hC (c_X5_sample l hls G X M x (nI (M.1 3 k)) (nI j)) kL_40 (hOk.at hS hAN) ⟨hXs, hEC⟩ (hEC.rcv hK) hl.1 ⟨Nat.le_of_ble_eq_true rfl, Nat.le_of_ble_eq_true rfl⟩ rfl (Nat.le_of_ble_eq_true rfl) dL_isLab_227 ⟨(by show _ ≤ 6000; omega), (by show _ ≤ 60000; omega)⟩) hS (fun _ h => h) (fun E9 ce9 q9 H9 l9 hx hk9 hS9 h1 h2 h3 => (lw_no (T_Sam hW hak (show j < 4 by omega)) hx (by decide)).elim) (fun H locs hp hzs hk1 hS => ?_)
              obtain ⟨-, hEC⟩ := hp
              have hXs := hXs.le hzs
              refine ec_topi (y := (smA M (M.1 3 k) j)) (by rw [hca, hcj]) ?_
              refine lv_i2l hC.1 hC.2.1 dL_isLab_230 rfl ?_
              refine lv_aload_n hC.1 hC.2.1 dL_isLab_231 rfl (lv_at hl 7 rfl) ?_
              refine lv_iload hC.1 hC.2.1 dL_isLab_232 (lv_at hl 5 rfl) ?_
              refine lv_iload hC.1 hC.2.1 dL_isLab_234 (lv_at hl 2 rfl) ?_
              refine lv_iload hC.1 hC.2.1 dL_isLab_236 (lv_at hl 0 rfl) ?_
              refine lw_sub hC (k := n) (n := j) rfl rfl (by omega) dL_isLab_238 ?_
              refine ec_goXE1 (ec_xV hC (c_X5_tap l hls G X M x (nI k) (nI (n - j))) kL_60 (hOk.at hS hAN) ⟨hXs, hEC⟩ (hEC.rcv hK) hl.1 ⟨Nat.le_of_ble_eq_true rfl, Nat.le_of_ble_eq_true rfl⟩ rfl (Nat.le_of_ble_eq_true rfl) dL_isLab_239 ⟨(by show _ ≤ 6000; omega), (by show _ ≤ 60000; omega)⟩) hS (fun _ h => h) (fun E9 ce9 q9 H9 l9 hx hk9 hS9 h1 h2 h3 => (lw_no (T_Tap hW hk (show n - j < 6 by omega)) hx (by decide)).elim) (fun H locs hp hzs hk1 hS => ?_)
              obtain ⟨-, hEC⟩ := hp
              have hXs := hXs.le hzs
              refine ec_topl (y := (tpA M k (n - j))) (by rw [hck, hcnj]) ?_
              refine lv_lmul hC.1 hC.2.1 dL_isLab_242 ?_
              refine lv_ladd hC.1 hC.2.1 dL_isLab_243 ?_
              refine lv_lstore (lv' := [(10, .long ((prS (smA M (M.1 3 k)) (tpA M k) n j) + ((Int32.toInt64 (smA M (M.1 3 k) j)) * (tpA M k (n - j))))), (12, .int (nI j)), (9, .int (nI n)), (8, .int (barM M k)), (7, .int (nI (M.1 3 k))), (6, .int (nI k)), (4, .int (nI (freN M k))), (0, .ref x), (1, .int (nI (mnR M))), (2, .int (nI (mnF M))), (3, .int (mlm M)), (5, .int (nI (mnA M)))]) hC.1 hC.2.1 dL_isLab_244 hl (by decide) rfl (fun ls hl => ?_)
              refine lv_iinc (v := (nI (j + 1))) (lv' := [(12, .int (nI (j + 1))), (10, .long ((prS (smA M (M.1 3 k)) (tpA M k) n j) + ((Int32.toInt64 (smA M (M.1 3 k) j)) * (tpA M k (n - j))))), (9, .int (nI n)), (8, .int (barM M k)), (7, .int (nI (M.1 3 k))), (6, .int (nI k)), (4, .int (nI (freN M k))), (0, .ref x), (1, .int (nI (mnR M))), (2, .int (nI (mnF M))), (3, .int (mlm M)), (5, .int (nI (mnA M)))]) hC.1 hC.2.1 dL_isLab_246 hl (k := 1) rfl (nI_1 _) (by decide) rfl (fun ls hl => ?_)
              refine lv_goto (tgt := 207) hC.1 hC.2.1 dL_isLab_249 (by decide) ?_
              rw [← prS_s (smA M (M.1 3 k)) (tpA M k) n j] at hl
              exact W.widen (by omega) (by omega) (hkj H locs ls ⟨⟨hl.1, hl.2.1, (ec_lvc (lv_at hl 0 rfl) (ec_lvc (lv_at hl 1 rfl) (ec_lvc (lv_at hl 2 rfl) (ec_lvc (lv_at hl 3 rfl) (ec_lvc (lv_at hl 4 rfl) (ec_lvc (lv_at hl 5 rfl) (ec_lvc (lv_at hl 6 rfl) (ec_lvc (lv_at hl 7 rfl) (ec_lvc (lv_at hl 8 rfl) (ec_lvc (lv_at hl 9 rfl) (ec_lvc (lv_at hl 10 rfl) (ec_lvc (lv_at hl 11 rfl) ec_lvn))))))))))))⟩, ⟨hS, hXs, hEC⟩, trivial⟩)
        · refine lv_aload_n hC.1 hC.2.1 dL_isLab_179 rfl (lv_at hl 4 rfl) ?_
          refine lv_iload hC.1 hC.2.1 dL_isLab_180 (lv_at hl 1 rfl) ?_
          refine ec_goXE1 (ec_xV hC (c_X5_age l hls G X M x (nI (M.1 3 k))) kL_47 (hOk.at hS hAN) ⟨hXs, hEC⟩ (hEC.rcv hK) hl.1 ⟨Nat.le_of_ble_eq_true rfl, Nat.le_of_ble_eq_true rfl⟩ rfl (Nat.le_of_ble_eq_true rfl) dL_isLab_182 ⟨(by show _ ≤ 6000; omega), (by show _ ≤ 60000; omega)⟩) hS (fun _ h => h) (fun E9 ce9 q9 H9 l9 hx hk9 hS9 h1 h2 h3 => (lw_no (T_A hW hak) hx (by decide)).elim) (fun H locs hp hzs hk1 hS => ?_)
          obtain ⟨-, hEC⟩ := hp
          have hXs := hXs.le hzs
          refine ec_topi (y := (ageM M (M.1 3 k))) (by rw [hca]) ?_
          refine lv_iload_n hC.1 hC.2.1 dL_isLab_185 rfl (lv_at hl 7 rfl) ?_
          refine lv_icmp_gt (tgt := 191) hC.1 hC.2.1 dL_isLab_186 (by decide) (fun c_186 => ?_) (fun c => absurd (bar_111 c_176) c)
          refine lv_iconst (v := 0) hC.1 hC.2.1 dL_isLab_191 (by decide) ?_
          refine lv_istore (lv' := [(9, .int 0), (8, .int (barM M k)), (7, .int (nI (M.1 3 k))), (6, .int (nI k)), (4, .int (nI (freN M k))), (0, .ref x), (1, .int (nI (mnR M))), (2, .int (nI (mnF M))), (3, .int (mlm M)), (5, .int (nI (mnA M)))]) hC.1 hC.2.1 dL_isLab_192 hl (by decide) rfl (fun ls hl => ?_)
          refine ec_loopC (n := 6) 36 360 (fun n H locs ls => lv_has ls 13 [(9, .int (nI n)), (8, .int (barM M k)), (7, .int (nI (M.1 3 k))), (6, .int (nI k)), (4, .int (nI (freN M k))), (0, .ref x), (1, .int (nI (mnR M))), (2, .int (nI (mnF M))), (3, .int (mlm M)), (5, .int (nI (mnA M)))] ∧ (va_S X s.heap H locs ∧ ecXs G X H ∧ EC G X M x H) ∧ True) ⟨⟨hl.1, hl.2.1, (ec_lvc (lv_at hl 0 rfl) (ec_lvc (lv_at hl 1 rfl) (ec_lvc (lv_at hl 2 rfl) (ec_lvc (lv_at hl 3 rfl) (ec_lvc (lv_at hl 4 rfl) (ec_lvc (lv_at hl 5 rfl) (ec_lvc (lv_at hl 6 rfl) (ec_lvc (lv_at hl 7 rfl) (ec_lvc (lv_at hl 8 rfl) (ec_lvc (lv_at hl 9 rfl) ec_lvn))))))))))⟩, ⟨hS, hXs, hEC⟩, trivial⟩ (fun H locs ls h9 => ?_) (fun n H locs ls hn h9 hkn => ?_)
          · obtain ⟨hl, hW9, hI2⟩ := h9
            obtain ⟨hS, hXs, hEC⟩ := hW9
            refine lv_iload hC.1 hC.2.1 dL_isLab_194 (lv_at hl 0 rfl) ?_
            refine lv_bipush (v := 6) hC.1 hC.2.1 dL_isLab_196 (by decide) ?_
            refine lv_icmp_ge (tgt := 292) hC.1 hC.2.1 dL_isLab_198 (by decide) (fun c_198 => ?_) (fun c => absurd (Int32.le_refl _) c)
            refine lv_iload hC.1 hC.2.1 dL_isLab_292 (lv_at hl 4 rfl) ?_
            refine lv_iload hC.1 hC.2.1 dL_isLab_294 (lv_at hl 1 rfl) ?_
            refine lv_bipush (v := 45) hC.1 hC.2.1 dL_isLab_296 (by decide) ?_
            refine lw_eq hC dL_isLab_298 dL_isLab_301 dL_isLab_302 dL_isLab_305 ?_
            refine lv_iadd hC.1 hC.2.1 dL_isLab_306 ?_
            refine ec_topi (y := (nI (freN M (k + 1)))) (fre_1 M k) ?_
            refine lv_istore (lv' := [(4, .int (nI (freN M (k + 1)))), (9, .int (nI 6)), (8, .int (barM M k)), (7, .int (nI (M.1 3 k))), (6, .int (nI k)), (0, .ref x), (1, .int (nI (mnR M))), (2, .int (nI (mnF M))), (3, .int (mlm M)), (5, .int (nI (mnA M)))]) hC.1 hC.2.1 dL_isLab_307 hl (by decide) rfl (fun ls hl => ?_)
            refine lv_iinc (v := (nI (k + 1))) (lv' := [(6, .int (nI (k + 1))), (4, .int (nI (freN M (k + 1)))), (9, .int (nI 6)), (8, .int (barM M k)), (7, .int (nI (M.1 3 k))), (0, .ref x), (1, .int (nI (mnR M))), (2, .int (nI (mnF M))), (3, .int (mlm M)), (5, .int (nI (mnA M)))]) hC.1 hC.2.1 dL_isLab_309 hl (k := 4) rfl (nI_1 _) (by decide) rfl (fun ls hl => ?_)
            refine lv_goto (tgt := 92) hC.1 hC.2.1 dL_isLab_312 (by decide) ?_
            exact W.widen (by omega) (by omega) (hkk H locs ls ⟨⟨hl.1, hl.2.1, (ec_lvc (lv_at hl 0 rfl) (ec_lvc (lv_at hl 1 rfl) (ec_lvc (lv_at hl 5 rfl) (ec_lvc (lv_at hl 6 rfl) (ec_lvc (lv_at hl 7 rfl) (ec_lvc (lv_at hl 8 rfl) (ec_lvc (lv_at hl 9 rfl) ec_lvn)))))))⟩, ⟨hS, hXs, hEC⟩, trivial⟩)
          · obtain ⟨hl, hW9, hI2⟩ := h9
            obtain ⟨hS, hXs, hEC⟩ := hW9
            have hcn : cN (nI n) = n := cN_nI (by omega)
            have hn4 := nn_4 n
            have hnn := nn_n n
            refine lv_iload hC.1 hC.2.1 dL_isLab_194 (lv_at hl 0 rfl) ?_
            refine lv_bipush (v := 6) hC.1 hC.2.1 dL_isLab_196 (by decide) ?_
            refine lv_icmp_ge (tgt := 292) hC.1 hC.2.1 dL_isLab_198 (by decide) (fun c => absurd c (lt_n (b := 6) hn (by omega))) (fun c_198 => ?_)
            refine lv_lconst (v := 0) hC.1 hC.2.1 dL_isLab_201 (by decide) ?_
            refine lv_lstore (lv' := [(10, .long 0), (9, .int (nI n)), (8, .int (barM M k)), (7, .int (nI (M.1 3 k))), (6, .int (nI k)), (4, .int (nI (freN M k))), (0, .ref x), (1, .int (nI (mnR M))), (2, .int (nI (mnF M))), (3, .int (mlm M)), (5, .int (nI (mnA M)))]) hC.1 hC.2.1 dL_isLab_202 hl (by decide) rfl (fun ls hl => ?_)
            refine lv_iconst (v := 0) hC.1 hC.2.1 dL_isLab_204 (by decide) ?_
            refine lv_istore (lv' := [(12, .int 0), (10, .long 0), (9, .int (nI n)), (8, .int (barM M k)), (7, .int (nI (M.1 3 k))), (6, .int (nI k)), (4, .int (nI (freN M k))), (0, .ref x), (1, .int (nI (mnR M))), (2, .int (nI (mnF M))), (3, .int (mlm M)), (5, .int (nI (mnA M)))]) hC.1 hC.2.1 dL_isLab_205 hl (by decide) rfl (fun ls hl => ?_)
            refine ec_loopC (n := (nn n)) 8 80 (fun j H locs ls => lv_has ls 13 [(12, .int (nI j)), (10, .long (prS (smA M (M.1 3 k)) (tpA M k) n j)), (9, .int (nI n)), (8, .int (barM M k)), (7, .int (nI (M.1 3 k))), (6, .int (nI k)), (4, .int (nI (freN M k))), (0, .ref x), (1, .int (nI (mnR M))), (2, .int (nI (mnF M))), (3, .int (mlm M)), (5, .int (nI (mnA M)))] ∧ (va_S X s.heap H locs ∧ ecXs G X H ∧ EC G X M x H) ∧ True) ⟨⟨hl.1, hl.2.1, (ec_lvc (lv_at hl 0 rfl) (ec_lvc (lv_at hl 1 rfl) (ec_lvc (lv_at hl 2 rfl) (ec_lvc (lv_at hl 3 rfl) (ec_lvc (lv_at hl 4 rfl) (ec_lvc (lv_at hl 5 rfl) (ec_lvc (lv_at hl 6 rfl) (ec_lvc (lv_at hl 7 rfl) (ec_lvc (lv_at hl 8 rfl) (ec_lvc (lv_at hl 9 rfl) (ec_lvc (lv_at hl 10 rfl) (ec_lvc (lv_at hl 11 rfl) ec_lvn))))))))))))⟩, ⟨hS, hXs, hEC⟩, trivial⟩ (fun H locs ls h9 => ?_) (fun j H locs ls hj h9 hkj => ?_)
            · obtain ⟨hl, hW9, hI3⟩ := h9
              obtain ⟨hS, hXs, hEC⟩ := hW9
              refine lv_iload hC.1 hC.2.1 dL_isLab_207 (lv_at hl 0 rfl) ?_
              refine lv_iconst (v := 4) hC.1 hC.2.1 dL_isLab_209 (by decide) ?_
              refine lv_icmp_ge (tgt := 252) hC.1 hC.2.1 dL_isLab_210 (by decide) (fun c_210 => ?_) (fun c_210 => ?_)
              · refine lv_lload hC.1 hC.2.1 dL_isLab_252 (lv_at hl 1 rfl) ?_
                refine lv_iload hC.1 hC.2.1 dL_isLab_254 (lv_at hl 2 rfl) ?_
                refine lw_is0J hC dL_isLab_256 dL_isLab_259 dL_isLab_260 dL_isLab_263 ?_
                refine W.lcmp hC.1 hC.2.1 dL_isLab_264 ?_
                refine lv_if_ne (tgt := 284) hC.1 hC.2.1 dL_isLab_265 (by decide) (fun c => absurd ((ec_cm0 _ _).mpr (by rw [nz_if (by omega)]; exact hft.1 n hn)) c) (fun c_265 => ?_)
                refine lv_aload_n hC.1 hC.2.1 dL_isLab_268 rfl (lv_at hl 7 rfl) ?_
                refine lv_iload hC.1 hC.2.1 dL_isLab_269 (lv_at hl 5 rfl) ?_
                refine lv_iload hC.1 hC.2.1 dL_isLab_271 (lv_at hl 4 rfl) ?_
                refine lv_iload hC.1 hC.2.1 dL_isLab_273 (lv_at hl 2 rfl) ?_
                refine ec_goXE1 (ec_xV hC (c_X5_product l hls G X M x (nI k) (nI (M.1 3 k)) (nI n)) kL_84 (hOk.at hS hAN) ⟨hXs, hEC⟩ (hEC.rcv hK) hl.1 ⟨Nat.le_of_ble_eq_true rfl, Nat.le_of_ble_eq_true rfl⟩ rfl (Nat.le_of_ble_eq_true rfl) dL_isLab_275 ⟨(by show _ ≤ 6000; omega), (by show _ ≤ 60000; omega)⟩) hS (fun _ h => h) (fun E9 ce9 q9 H9 l9 hx hk9 hS9 h1 h2 h3 => (lw_no (T_Pro hW hk hak hn) hx (by decide)).elim) (fun H locs hp hzs hk1 hS => ?_)
                obtain ⟨-, hEC⟩ := hp
                have hXs := hXs.le hzs
                refine ec_topl (y := (prd (smA M (M.1 3 k)) (tpA M k) n)) (by rw [hck, hca, hcn]) ?_
                refine lv_lload hC.1 hC.2.1 dL_isLab_278 (lv_at hl 1 rfl) ?_
                refine W.lcmp hC.1 hC.2.1 dL_isLab_280 ?_
                refine lv_if_eq (tgt := 286) hC.1 hC.2.1 dL_isLab_281 (by decide) (fun c_281 => ?_) (fun c => absurd ((ec_cm0 _ _).mpr rfl) c)
                refine lv_iinc (v := (nI (n + 1))) (lv' := [(9, .int (nI (n + 1))), (12, .int (nI (nn n))), (10, .long (prS (smA M (M.1 3 k)) (tpA M k) n (nn n))), (8, .int (barM M k)), (7, .int (nI (M.1 3 k))), (6, .int (nI k)), (4, .int (nI (freN M k))), (0, .ref x), (1, .int (nI (mnR M))), (2, .int (nI (mnF M))), (3, .int (mlm M)), (5, .int (nI (mnA M)))]) hC.1 hC.2.1 dL_isLab_286 hl (k := 2) rfl (nI_1 _) (by decide) rfl (fun ls hl => ?_)
                refine lv_goto (tgt := 194) hC.1 hC.2.1 dL_isLab_289 (by decide) ?_
                exact W.widen (by omega) (by omega) (hkn H locs ls ⟨⟨hl.1, hl.2.1, (ec_lvc (lv_at hl 0 rfl) (ec_lvc (lv_at hl 3 rfl) (ec_lvc (lv_at hl 4 rfl) (ec_lvc (lv_at hl 5 rfl) (ec_lvc (lv_at hl 6 rfl) (ec_lvc (lv_at hl 7 rfl) (ec_lvc (lv_at hl 8 rfl) (ec_lvc (lv_at hl 9 rfl) (ec_lvc (lv_at hl 10 rfl) (ec_lvc (lv_at hl 11 rfl) ec_lvn))))))))))⟩, ⟨hS, hXs, hEC⟩, trivial⟩)
              · refine lv_iload hC.1 hC.2.1 dL_isLab_213 (lv_at hl 0 rfl) ?_
                refine lv_iload hC.1 hC.2.1 dL_isLab_215 (lv_at hl 2 rfl) ?_
                refine lv_icmp_gt (tgt := 252) hC.1 hC.2.1 dL_isLab_217 (by decide) (fun c_217 => ?_) (fun c => absurd (nI_lt (nn_x (n_lt (b := 4) c_210 (by omega))) (by omega)) c)
                refine lv_lload hC.1 hC.2.1 dL_isLab_252 (lv_at hl 1 rfl) ?_
                refine lv_iload hC.1 hC.2.1 dL_isLab_254 (lv_at hl 2 rfl) ?_
                refine lw_is0J hC dL_isLab_256 dL_isLab_259 dL_isLab_260 dL_isLab_263 ?_
                refine W.lcmp hC.1 hC.2.1 dL_isLab_264 ?_
                refine lv_if_ne (tgt := 284) hC.1 hC.2.1 dL_isLab_265 (by decide) (fun c => absurd ((ec_cm0 _ _).mpr (by rw [nz_if (by omega)]; exact hft.1 n hn)) c) (fun c_265 => ?_)
                refine lv_aload_n hC.1 hC.2.1 dL_isLab_268 rfl (lv_at hl 7 rfl) ?_
                refine lv_iload hC.1 hC.2.1 dL_isLab_269 (lv_at hl 5 rfl) ?_
                refine lv_iload hC.1 hC.2.1 dL_isLab_271 (lv_at hl 4 rfl) ?_
                refine lv_iload hC.1 hC.2.1 dL_isLab_273 (lv_at hl 2 rfl) ?_
                refine ec_goXE1 (ec_xV hC (c_X5_product l hls G X M x (nI k) (nI (M.1 3 k)) (nI n)) kL_84 (hOk.at hS hAN) ⟨hXs, hEC⟩ (hEC.rcv hK) hl.1 ⟨Nat.le_of_ble_eq_true rfl, Nat.le_of_ble_eq_true rfl⟩ rfl (Nat.le_of_ble_eq_true rfl) dL_isLab_275 ⟨(by show _ ≤ 6000; omega), (by show _ ≤ 60000; omega)⟩) hS (fun _ h => h) (fun E9 ce9 q9 H9 l9 hx hk9 hS9 h1 h2 h3 => (lw_no (T_Pro hW hk hak hn) hx (by decide)).elim) (fun H locs hp hzs hk1 hS => ?_)
                obtain ⟨-, hEC⟩ := hp
                have hXs := hXs.le hzs
                refine ec_topl (y := (prd (smA M (M.1 3 k)) (tpA M k) n)) (by rw [hck, hca, hcn]) ?_
                refine lv_lload hC.1 hC.2.1 dL_isLab_278 (lv_at hl 1 rfl) ?_
                refine W.lcmp hC.1 hC.2.1 dL_isLab_280 ?_
                refine lv_if_eq (tgt := 286) hC.1 hC.2.1 dL_isLab_281 (by decide) (fun c_281 => ?_) (fun c => absurd ((ec_cm0 _ _).mpr rfl) c)
                refine lv_iinc (v := (nI (n + 1))) (lv' := [(9, .int (nI (n + 1))), (12, .int (nI (nn n))), (10, .long (prS (smA M (M.1 3 k)) (tpA M k) n (nn n))), (8, .int (barM M k)), (7, .int (nI (M.1 3 k))), (6, .int (nI k)), (4, .int (nI (freN M k))), (0, .ref x), (1, .int (nI (mnR M))), (2, .int (nI (mnF M))), (3, .int (mlm M)), (5, .int (nI (mnA M)))]) hC.1 hC.2.1 dL_isLab_286 hl (k := 2) rfl (nI_1 _) (by decide) rfl (fun ls hl => ?_)
                refine lv_goto (tgt := 194) hC.1 hC.2.1 dL_isLab_289 (by decide) ?_
                exact W.widen (by omega) (by omega) (hkn H locs ls ⟨⟨hl.1, hl.2.1, (ec_lvc (lv_at hl 0 rfl) (ec_lvc (lv_at hl 3 rfl) (ec_lvc (lv_at hl 4 rfl) (ec_lvc (lv_at hl 5 rfl) (ec_lvc (lv_at hl 6 rfl) (ec_lvc (lv_at hl 7 rfl) (ec_lvc (lv_at hl 8 rfl) (ec_lvc (lv_at hl 9 rfl) (ec_lvc (lv_at hl 10 rfl) (ec_lvc (lv_at hl 11 rfl) ec_lvn))))))))))⟩, ⟨hS, hXs, hEC⟩, trivial⟩)
            · obtain ⟨hl, hW9, hI3⟩ := h9
              obtain ⟨hS, hXs, hEC⟩ := hW9
              have hcj : cN (nI j) = j := cN_nI (by omega)
              have hcnj : cN (nI (n - j)) = n - j := cN_nI (by omega)
              refine lv_iload hC.1 hC.2.1 dL_isLab_207 (lv_at hl 0 rfl) ?_
              refine lv_iconst (v := 4) hC.1 hC.2.1 dL_isLab_209 (by decide) ?_
              refine lv_icmp_ge (tgt := 252) hC.1 hC.2.1 dL_isLab_210 (by decide) (fun c => absurd c (lt_n (b := 4) (Nat.lt_of_lt_of_le hj hn4) (by omega))) (fun c_210 => ?_)
              refine lv_iload hC.1 hC.2.1 dL_isLab_213 (lv_at hl 0 rfl) ?_
              refine lv_iload hC.1 hC.2.1 dL_isLab_215 (lv_at hl 2 rfl) ?_
              refine lv_icmp_gt (tgt := 252) hC.1 hC.2.1 dL_isLab_217 (by decide) (fun c => absurd c (le_n (show j ≤ n by omega) (by omega))) (fun c_217 => ?_)
              refine lv_lload hC.1 hC.2.1 dL_isLab_220 (lv_at hl 1 rfl) ?_
              refine lv_aload_n hC.1 hC.2.1 dL_isLab_222 rfl (lv_at hl 7 rfl) ?_
              refine lv_iload hC.1 hC.2.1 dL_isLab_223 (lv_at hl 4 rfl) ?_
              refine lv_iload hC.1 hC.2.1 dL_isLab_225 (lv_at hl 0 rfl) ?_
              refine ec_goXE1 (ec_xV hC (c_X5_sample l hls G X M x (nI (M.1 3 k)) (nI j)) kL_40 (hOk.at hS hAN) ⟨hXs, hEC⟩ (hEC.rcv hK) hl.1 ⟨Nat.le_of_ble_eq_true rfl, Nat.le_of_ble_eq_true rfl⟩ rfl (Nat.le_of_ble_eq_true rfl) dL_isLab_227 ⟨(by show _ ≤ 6000; omega), (by show _ ≤ 60000; omega)⟩) hS (fun _ h => h) (fun E9 ce9 q9 H9 l9 hx hk9 hS9 h1 h2 h3 => (lw_no (T_Sam hW hak (show j < 4 by omega)) hx (by decide)).elim) (fun H locs hp hzs hk1 hS => ?_)
              obtain ⟨-, hEC⟩ := hp
              have hXs := hXs.le hzs
              refine ec_topi (y := (smA M (M.1 3 k) j)) (by rw [hca, hcj]) ?_
              refine lv_i2l hC.1 hC.2.1 dL_isLab_230 rfl ?_
              refine lv_aload_n hC.1 hC.2.1 dL_isLab_231 rfl (lv_at hl 7 rfl) ?_
              refine lv_iload hC.1 hC.2.1 dL_isLab_232 (lv_at hl 5 rfl) ?_
              refine lv_iload hC.1 hC.2.1 dL_isLab_234 (lv_at hl 2 rfl) ?_
              refine lv_iload hC.1 hC.2.1 dL_isLab_236 (lv_at hl 0 rfl) ?_
              refine lw_sub hC (k := n) (n := j) rfl rfl (by omega) dL_isLab_238 ?_
              refine ec_goXE1 (ec_xV hC (c_X5_tap l hls G X M x (nI k) (nI (n - j))) kL_60 (hOk.at hS hAN) ⟨hXs, hEC⟩ (hEC.rcv hK) hl.1 ⟨Nat.le_of_ble_eq_true rfl, Nat.le_of_ble_eq_true rfl⟩ rfl (Nat.le_of_ble_eq_true rfl) dL_isLab_239 ⟨(by show _ ≤ 6000; omega), (by show _ ≤ 60000; omega)⟩) hS (fun _ h => h) (fun E9 ce9 q9 H9 l9 hx hk9 hS9 h1 h2 h3 => (lw_no (T_Tap hW hk (show n - j < 6 by omega)) hx (by decide)).elim) (fun H locs hp hzs hk1 hS => ?_)
              obtain ⟨-, hEC⟩ := hp
              have hXs := hXs.le hzs
              refine ec_topl (y := (tpA M k (n - j))) (by rw [hck, hcnj]) ?_
              refine lv_lmul hC.1 hC.2.1 dL_isLab_242 ?_
              refine lv_ladd hC.1 hC.2.1 dL_isLab_243 ?_
              refine lv_lstore (lv' := [(10, .long ((prS (smA M (M.1 3 k)) (tpA M k) n j) + ((Int32.toInt64 (smA M (M.1 3 k) j)) * (tpA M k (n - j))))), (12, .int (nI j)), (9, .int (nI n)), (8, .int (barM M k)), (7, .int (nI (M.1 3 k))), (6, .int (nI k)), (4, .int (nI (freN M k))), (0, .ref x), (1, .int (nI (mnR M))), (2, .int (nI (mnF M))), (3, .int (mlm M)), (5, .int (nI (mnA M)))]) hC.1 hC.2.1 dL_isLab_244 hl (by decide) rfl (fun ls hl => ?_)
              refine lv_iinc (v := (nI (j + 1))) (lv' := [(12, .int (nI (j + 1))), (10, .long ((prS (smA M (M.1 3 k)) (tpA M k) n j) + ((Int32.toInt64 (smA M (M.1 3 k) j)) * (tpA M k (n - j))))), (9, .int (nI n)), (8, .int (barM M k)), (7, .int (nI (M.1 3 k))), (6, .int (nI k)), (4, .int (nI (freN M k))), (0, .ref x), (1, .int (nI (mnR M))), (2, .int (nI (mnF M))), (3, .int (mlm M)), (5, .int (nI (mnA M)))]) hC.1 hC.2.1 dL_isLab_246 hl (k := 1) rfl (nI_1 _) (by decide) rfl (fun ls hl => ?_)
              refine lv_goto (tgt := 207) hC.1 hC.2.1 dL_isLab_249 (by decide) ?_
              rw [← prS_s (smA M (M.1 3 k)) (tpA M k) n j] at hl
              exact W.widen (by omega) (by omega) (hkj H locs ls ⟨⟨hl.1, hl.2.1, (ec_lvc (lv_at hl 0 rfl) (ec_lvc (lv_at hl 1 rfl) (ec_lvc (lv_at hl 2 rfl) (ec_lvc (lv_at hl 3 rfl) (ec_lvc (lv_at hl 4 rfl) (ec_lvc (lv_at hl 5 rfl) (ec_lvc (lv_at hl 6 rfl) (ec_lvc (lv_at hl 7 rfl) (ec_lvc (lv_at hl 8 rfl) (ec_lvc (lv_at hl 9 rfl) (ec_lvc (lv_at hl 10 rfl) (ec_lvc (lv_at hl 11 rfl) ec_lvn))))))))))))⟩, ⟨hS, hXs, hEC⟩, trivial⟩)
  · obtain ⟨hl, hW9, hI⟩ := h9
    obtain ⟨hS, hXs, hEC⟩ := hW9
    have hci : cN (nI i) = i := cN_nI (by omega)
    refine lv_iload hC.1 hC.2.1 dL_isLab_12 (lv_at hl 0 rfl) ?_
    refine lv_iload hC.1 hC.2.1 dL_isLab_14 (lv_at hl 6 rfl) ?_
    refine lv_icmp_ge (tgt := 89) hC.1 hC.2.1 dL_isLab_16 (by decide) (fun c => absurd c (lt_n hi (by omega))) (fun c_16 => ?_)
    refine lv_aload_n hC.1 hC.2.1 dL_isLab_19 rfl (lv_at hl 2 rfl) ?_
    refine lv_iload hC.1 hC.2.1 dL_isLab_20 (lv_at hl 0 rfl) ?_
    refine ec_goXE1 (ec_xV hC (c_X5_age l hls G X M x (nI i)) kL_47 (hOk.at hS hAN) ⟨hXs, hEC⟩ (hEC.rcv hK) hl.1 ⟨Nat.le_of_ble_eq_true rfl, Nat.le_of_ble_eq_true rfl⟩ rfl (Nat.le_of_ble_eq_true rfl) dL_isLab_22 ⟨(by show _ ≤ 6000; omega), (by show _ ≤ 60000; omega)⟩) hS (fun _ h => h) (fun E9 ce9 q9 H9 l9 hx hk9 hS9 h1 h2 h3 => (lw_no (T_A hW hi) hx (by decide)).elim) (fun H locs hp hzs hk1 hS => ?_)
    obtain ⟨-, hEC⟩ := hp
    have hXs := hXs.le hzs
    refine ec_topi (y := (ageM M i)) (by rw [hci]) ?_
    refine lv_if_lt (tgt := 81) hC.1 hC.2.1 dL_isLab_25 (by decide) (fun c => absurd c (age_pos hP hh hc9 hi)) (fun c_25 => ?_)
    refine lv_aload_n hC.1 hC.2.1 dL_isLab_28 rfl (lv_at hl 2 rfl) ?_
    refine lv_iload hC.1 hC.2.1 dL_isLab_29 (lv_at hl 0 rfl) ?_
    refine lv_iconst (v := 0) hC.1 hC.2.1 dL_isLab_31 (by decide) ?_
    refine ec_goXE1 (ec_xV hC (c_X5_sample l hls G X M x (nI i) 0) kL_40 (hOk.at hS hAN) ⟨hXs, hEC⟩ (hEC.rcv hK) hl.1 ⟨Nat.le_of_ble_eq_true rfl, Nat.le_of_ble_eq_true rfl⟩ rfl (Nat.le_of_ble_eq_true rfl) dL_isLab_32 ⟨(by show _ ≤ 6000; omega), (by show _ ≤ 60000; omega)⟩) hS (fun _ h => h) (fun E9 ce9 q9 H9 l9 hx hk9 hS9 h1 h2 h3 => (lw_no (T_Sam hW hi (show 0 < 4 by decide)) hx (by decide)).elim) (fun H locs hp hzs hk1 hS => ?_)
    obtain ⟨-, hEC⟩ := hp
    have hXs := hXs.le hzs
    refine ec_topi (y := (M.2.1 4 (4 * i))) (by rw [hci]; rfl) ?_
    refine va_mabs hC.1 hC.2.1 (by rw [hC.2.2.1]; exact hl.1.symm) hC.2.2.2.1 (hC.2.2.2.2 _ q666) (hC.2.2.2.2 _ q667) (hC.2.2.2.2 _ q12) (hC.2.2.2.2 _ qAbs) (Nat.le_of_ble_eq_true rfl) (Nat.le_of_ble_eq_true rfl) (by show _ ≤ 6000; omega) (by show _ ≤ 60000; omega) dL_isLab_35 ?_
    refine ec_topi (y := 1) (abs_1 (hP.2.2.2.1 i hi).2.2) ?_
    refine lv_iconst (v := 1) hC.1 hC.2.1 dL_isLab_38 (by decide) ?_
    refine lv_icmp_ne (tgt := 81) hC.1 hC.2.1 dL_isLab_39 (by decide) (fun c => absurd rfl c) (fun _ => ?_)
    refine lv_iload hC.1 hC.2.1 dL_isLab_42 (lv_at hl 0 rfl) ?_
    refine lv_if_le (tgt := 69) hC.1 hC.2.1 dL_isLab_44 (by decide) (fun c_44 => ?_) (fun c_44 => ?_)
    · refine lv_aload_n hC.1 hC.2.1 dL_isLab_69 rfl (lv_at hl 2 rfl) ?_
      refine lv_iload hC.1 hC.2.1 dL_isLab_70 (lv_at hl 0 rfl) ?_
      refine lv_iconst (v := 4) hC.1 hC.2.1 dL_isLab_72 (by decide) ?_
      have hT9 := T_Sx hW hi
      refine ec_goXE1 (ec_xSH hC (c_L_sample l hls G X M x (nI i) 4) kL_119 (hOk.at hS hAN) ⟨hXs, hEC⟩ hl.1 ⟨Nat.le_of_ble_eq_true rfl, Nat.le_of_ble_eq_true rfl⟩ rfl (Nat.le_of_ble_eq_true rfl) dL_isLab_73 ⟨(by show _ ≤ 6000; omega), (by show _ ≤ 60000; omega)⟩) hS (fun _ h => h) (fun _ _ _ _ _ hx9 => hx9.elim) (fun H locs hEC hzs hk1 hS => ?_)
      rw [ite_self] at hEC
      have hXs := hXs.le hzs
      refine ec_topi (y := (-3000000)) (by rw [hT9]; rfl) ?_
      refine lv_ldc hC.1 hC.2.1 hC.2.2.2.1 (hC.2.2.2.2 _ q469) dL_isLab_76 ?_
      refine lv_icmp_eq (tgt := 83) hC.1 hC.2.1 dL_isLab_78 (by decide) (fun _ => ?_) (fun c => absurd (by decide) c)
      refine lv_iinc (v := (nI (i + 1))) (lv' := [(6, .int (nI (i + 1))), (4, .int 0), (0, .ref x), (1, .int (nI (mnR M))), (2, .int (nI (mnF M))), (3, .int (mlm M)), (5, .int (nI (mnA M)))]) hC.1 hC.2.1 dL_isLab_83 hl (k := 0) rfl (nI_1 _) (by decide) rfl (fun ls hl => ?_)
      refine lv_goto (tgt := 12) hC.1 hC.2.1 dL_isLab_86 (by decide) ?_
      exact W.widen (by omega) (by omega) (hk H locs ls ⟨⟨hl.1, hl.2.1, (ec_lvc (lv_at hl 0 rfl) (ec_lvc (lv_at hl 1 rfl) (ec_lvc (lv_at hl 2 rfl) (ec_lvc (lv_at hl 3 rfl) (ec_lvc (lv_at hl 4 rfl) (ec_lvc (lv_at hl 5 rfl) (ec_lvc (lv_at hl 6 rfl) ec_lvn)))))))⟩, ⟨hS, hXs, hEC⟩, trivial⟩)
    · refine lv_aload_n hC.1 hC.2.1 dL_isLab_47 rfl (lv_at hl 2 rfl) ?_
      refine lv_iload hC.1 hC.2.1 dL_isLab_48 (lv_at hl 0 rfl) ?_
      have hi0 : 0 < i := Nat.pos_of_ne_zero (fun z => c_44 (by rw [z]; exact Int32.le_refl _))
      have hci1 : cN (nI (i - 1)) = i - 1 := cN_nI (by omega)
      refine ec_goXE1 (ec_xV hC (c_X5_age l hls G X M x (nI i)) kL_47 (hOk.at hS hAN) ⟨hXs, hEC⟩ (hEC.rcv hK) hl.1 ⟨Nat.le_of_ble_eq_true rfl, Nat.le_of_ble_eq_true rfl⟩ rfl (Nat.le_of_ble_eq_true rfl) dL_isLab_50 ⟨(by show _ ≤ 6000; omega), (by show _ ≤ 60000; omega)⟩) hS (fun _ h => h) (fun E9 ce9 q9 H9 l9 hx hk9 hS9 h1 h2 h3 => (lw_no (T_A hW hi) hx (by decide)).elim) (fun H locs hp hzs hk1 hS => ?_)
      obtain ⟨-, hEC⟩ := hp
      have hXs := hXs.le hzs
      refine ec_topi (y := (ageM M i)) (by rw [hci]) ?_
      refine lv_aload_n hC.1 hC.2.1 dL_isLab_53 rfl (lv_at hl 2 rfl) ?_
      refine lv_iload hC.1 hC.2.1 dL_isLab_54 (lv_at hl 0 rfl) ?_
      refine lv_iconst (v := 1) hC.1 hC.2.1 dL_isLab_56 (by decide) ?_
      refine lw_sub hC (k := i) (n := 1) rfl rfl (by omega) dL_isLab_57 ?_
      refine ec_goXE1 (ec_xV hC (c_X5_age l hls G X M x (nI (i - 1))) kL_47 (hOk.at hS hAN) ⟨hXs, hEC⟩ (hEC.rcv hK) hl.1 ⟨Nat.le_of_ble_eq_true rfl, Nat.le_of_ble_eq_true rfl⟩ rfl (Nat.le_of_ble_eq_true rfl) dL_isLab_58 ⟨(by show _ ≤ 6000; omega), (by show _ ≤ 60000; omega)⟩) hS (fun _ h => h) (fun E9 ce9 q9 H9 l9 hx hk9 hS9 h1 h2 h3 => (lw_no (T_A hW (show i - 1 < mnA M by omega)) hx (by decide)).elim) (fun H locs hp hzs hk1 hS => ?_)
      obtain ⟨-, hEC⟩ := hp
      have hXs := hXs.le hzs
      refine ec_topi (y := (ageM M (i - 1))) (by rw [hci1]) ?_
      refine lv_icmp_le (tgt := 69) hC.1 hC.2.1 dL_isLab_61 (by decide) (fun c_61 => ?_) (fun c_61 => ?_)
      · refine lv_aload_n hC.1 hC.2.1 dL_isLab_69 rfl (lv_at hl 2 rfl) ?_
        refine lv_iload hC.1 hC.2.1 dL_isLab_70 (lv_at hl 0 rfl) ?_
        refine lv_iconst (v := 4) hC.1 hC.2.1 dL_isLab_72 (by decide) ?_
        have hT9 := T_Sx hW hi
        refine ec_goXE1 (ec_xSH hC (c_L_sample l hls G X M x (nI i) 4) kL_119 (hOk.at hS hAN) ⟨hXs, hEC⟩ hl.1 ⟨Nat.le_of_ble_eq_true rfl, Nat.le_of_ble_eq_true rfl⟩ rfl (Nat.le_of_ble_eq_true rfl) dL_isLab_73 ⟨(by show _ ≤ 6000; omega), (by show _ ≤ 60000; omega)⟩) hS (fun _ h => h) (fun _ _ _ _ _ hx9 => hx9.elim) (fun H locs hEC hzs hk1 hS => ?_)
        rw [ite_self] at hEC
        have hXs := hXs.le hzs
        refine ec_topi (y := (-3000000)) (by rw [hT9]; rfl) ?_
        refine lv_ldc hC.1 hC.2.1 hC.2.2.2.1 (hC.2.2.2.2 _ q469) dL_isLab_76 ?_
        refine lv_icmp_eq (tgt := 83) hC.1 hC.2.1 dL_isLab_78 (by decide) (fun _ => ?_) (fun c => absurd (by decide) c)
        refine lv_iinc (v := (nI (i + 1))) (lv' := [(6, .int (nI (i + 1))), (4, .int 0), (0, .ref x), (1, .int (nI (mnR M))), (2, .int (nI (mnF M))), (3, .int (mlm M)), (5, .int (nI (mnA M)))]) hC.1 hC.2.1 dL_isLab_83 hl (k := 0) rfl (nI_1 _) (by decide) rfl (fun ls hl => ?_)
        refine lv_goto (tgt := 12) hC.1 hC.2.1 dL_isLab_86 (by decide) ?_
        exact W.widen (by omega) (by omega) (hk H locs ls ⟨⟨hl.1, hl.2.1, (ec_lvc (lv_at hl 0 rfl) (ec_lvc (lv_at hl 1 rfl) (ec_lvc (lv_at hl 2 rfl) (ec_lvc (lv_at hl 3 rfl) (ec_lvc (lv_at hl 4 rfl) (ec_lvc (lv_at hl 5 rfl) (ec_lvc (lv_at hl 6 rfl) ec_lvn)))))))⟩, ⟨hS, hXs, hEC⟩, trivial⟩)
      · refine lv_iload_n hC.1 hC.2.1 dL_isLab_64 rfl (lv_at hl 3 rfl) ?_
        refine lv_iconst (v := 1) hC.1 hC.2.1 dL_isLab_65 (by decide) ?_
        refine lv_icmp_eq (tgt := 81) hC.1 hC.2.1 dL_isLab_66 (by decide) (fun c => absurd c (fun z => c_61 (by have h9 := age_mon (i := i - 1) hW hP hh hc9 (by omega) ((nI_eq (b := 1) (by omega) (by decide)).mp z); rwa [show i - 1 + 1 = i by omega] at h9))) (fun c_66 => ?_)
        refine lv_aload_n hC.1 hC.2.1 dL_isLab_69 rfl (lv_at hl 2 rfl) ?_
        refine lv_iload hC.1 hC.2.1 dL_isLab_70 (lv_at hl 0 rfl) ?_
        refine lv_iconst (v := 4) hC.1 hC.2.1 dL_isLab_72 (by decide) ?_
        have hT9 := T_Sx hW hi
        refine ec_goXE1 (ec_xSH hC (c_L_sample l hls G X M x (nI i) 4) kL_119 (hOk.at hS hAN) ⟨hXs, hEC⟩ hl.1 ⟨Nat.le_of_ble_eq_true rfl, Nat.le_of_ble_eq_true rfl⟩ rfl (Nat.le_of_ble_eq_true rfl) dL_isLab_73 ⟨(by show _ ≤ 6000; omega), (by show _ ≤ 60000; omega)⟩) hS (fun _ h => h) (fun _ _ _ _ _ hx9 => hx9.elim) (fun H locs hEC hzs hk1 hS => ?_)
        rw [ite_self] at hEC
        have hXs := hXs.le hzs
        refine ec_topi (y := (-3000000)) (by rw [hT9]; rfl) ?_
        refine lv_ldc hC.1 hC.2.1 hC.2.2.2.1 (hC.2.2.2.2 _ q469) dL_isLab_76 ?_
        refine lv_icmp_eq (tgt := 83) hC.1 hC.2.1 dL_isLab_78 (by decide) (fun _ => ?_) (fun c => absurd (by decide) c)
        refine lv_iinc (v := (nI (i + 1))) (lv' := [(6, .int (nI (i + 1))), (4, .int 0), (0, .ref x), (1, .int (nI (mnR M))), (2, .int (nI (mnF M))), (3, .int (mlm M)), (5, .int (nI (mnA M)))]) hC.1 hC.2.1 dL_isLab_83 hl (k := 0) rfl (nI_1 _) (by decide) rfl (fun ls hl => ?_)
        refine lv_goto (tgt := 12) hC.1 hC.2.1 dL_isLab_86 (by decide) ?_
        exact W.widen (by omega) (by omega) (hk H locs ls ⟨⟨hl.1, hl.2.1, (ec_lvc (lv_at hl 0 rfl) (ec_lvc (lv_at hl 1 rfl) (ec_lvc (lv_at hl 2 rfl) (ec_lvc (lv_at hl 3 rfl) (ec_lvc (lv_at hl 4 rfl) (ec_lvc (lv_at hl 5 rfl) (ec_lvc (lv_at hl 6 rfl) ec_lvn)))))))⟩, ⟨hS, hXs, hEC⟩, trivial⟩)
