theorem hr_st {h c a n : Nat} {M : ecM} (P : PI h c a n M) : ∀ k, k < mnB M → (hrM M).1 6 k = 0 → (hrM M).2.1 7 k = mhr (hrM M) → (hrM M).1 0 ((hrM M).1 4 k) = (hrM M).1 5 k := by
  obtain ⟨h1, h2, h3, -⟩ := hr_f M
  intro k hk k0 kh
  rw [h1 6 (by decide)] at k0
  rw [h2 7 (by decide) (by decide), h3] at kh
  rw [h1 4 (by decide), h1 5 (by decide)]
  exact beg_st (M := setI M 9 0 (mhr M + 1)) (N := mnB M) rfl (fun b hb => (P.2.2.2.2.2.2.2.1 b hb).2.1) P.2.2.2.2.2.2.2.2 (mnB M) (Nat.le_refl _) k hk k0 kh
/-- how many of the first k bookings begin in the next hour -/
def bcN (M : ecM) (k : Nat) : Nat := begC (setI M 9 0 (mhr M + 1)) k
theorem bcN_s (M : ecM) (k : Nat) : bcN M (k + 1) = bcN M k + (if (hrM M).1 6 k = 0 ∧ (hrM M).2.1 7 k = mhr (hrM M) then 1 else 0) := by
  obtain ⟨h1, h2, h3, -⟩ := hr_f M
  rw [h1 6 (by decide), h2 7 (by decide) (by decide), h3]
  rfl
theorem nc_x {h c a n : Nat} {M : ecM} (P : PI h c a n M) {k j : Nat} (hk : k < mnB M) (hj : j < k) (e1 : M.1 6 k = 0) (e2 : M.1 6 j = 0) (e4 : M.1 4 k = M.1 4 j) (h1 : ¬ nI (dif (M.1 5 k) (M.1 5 j)) < M.2.1 7 k - M.2.1 8 j) : nI (dif (M.1 5 k) (M.1 5 j)) < M.2.1 7 j - M.2.1 8 k := by
  have q := P.2.2.2.2.2.2.2.2 k hk j hj e2 e1 e4.symm
  have b1 := P.2.2.2.2.2.2.2.1 k hk
  have b2 := P.2.2.2.2.2.2.2.1 j (by omega)
  have hd := dif_le (M.1 5 k) (M.1 5 j)
  rw [Int32.lt_iff_toInt_lt, i3s (by omega) (by omega), nI_toInt (by omega)] at h1 ⊢
  omega

set_option maxHeartbeats 4000000 in
set_option maxRecDepth 100000 in
/-- cancel -/
theorem lw_can {p : Program} {l : Launch} {e : Env} {s : State} {m : MethodId} {below : List Frame} {meth : Method} {c : Code} {G : ecG} {X : Nat → Prop} {b L x R0 t : Nat} {xs : Nat → Int32} {ar : Nat → Nat} {H : Heap} {locs : List Loc} {M : ecM} {g : Nat → Nat → Int32} {ls : Array Slot} {cells slots : Nat} {Q : State → Prop} {v u r c3 d3 : Nat} {o : Bool} (F : lwF p l s m c G X b L xs ar) (I : lwW s G X x ar H locs M g) (hAR : AR M g) (hP : PI (5 * t) (300 * t) t (20 * t) M) (hR : mnR M = R0) (hR0 : R0 ≤ 3 ∧ 0 < R0) (ht : t < 28) (hv9 : v < 50000) (hu : u < 9000) (hr : r < R0) (hc3 : c3 < 3) (hd3 : d3 < 3) (hl : lv_has ls 28 [(0, .ref b), (1, .ref x), (2, .int (nI R0)), (3, .int (nI (mnF M))), (4, .int (mlm M)), (5, .int (nI (mnB M))), (6, .ref (ar 0)), (7, .ref (ar 1)), (8, .ref (ar 2)), (9, .ref (ar 3)), (10, .ref (ar 4)), (11, .ref (ar 5)), (12, .ref (ar 6)), (13, .int (nI t)), (14, .int (nI v)), (15, .int (nI u)), (16, .int (nI r)), (17, .int (nI c3)), (18, .int (nI d3)), (19, .int (M.2.1 0 r)), (20, .int (bI o))]) (hc : cells + 1900 ≤ room_1.cells) (hs : slots + 19900 ≤ room_1.slots) (kk : ∀ (H : Heap) (locs : List Loc) (M2 : ecM) (g2 : Nat → Nat → Int32) (ls : Array Slot), lwW s G X x ar H locs M2 g2 → AR M2 g2 → PI (5 * t + 5) (300 * t + 300) (t + 1) (20 * t + 20) M2 → mnR M2 = R0 → lv_has ls 28 [(0, .ref b), (1, .ref x), (2, .int (nI R0)), (3, .int (nI (mnF M2))), (4, .int (mlm M2)), (5, .int (nI (mnB M2))), (6, .ref (ar 0)), (7, .ref (ar 1)), (8, .ref (ar 2)), (9, .ref (ar 3)), (10, .ref (ar 4)), (11, .ref (ar 5)), (12, .ref (ar 6)), (13, .int (nI t))] → W p l e room_1 s m #[Value.ref b] below meth c H locs (cells + 1900) (slots + 19900) Q (F0 m 1185 ls [])) : W p l e room_1 s m #[Value.ref b] below meth c H locs cells slots Q (F0 m 940 ls []) := by
  obtain ⟨hC, hls, hOk, hX, hbl, hL, hAN, hXA, hrA, hrD⟩ := id F
  have hK := hOk.1
  obtain ⟨hS, hXs, hEC, h5, z5, z6⟩ := id I
  have hW := hEC.wf
  have hn0 := hW.n
  have hAN9 : ∀ q, (fun q : Nat => s.heap.size ≤ q) q → ecN0 G ≤ q := hAN
  have hrM : r < mnR M := by omega
  have hcr : cN (nI r) = r := cN_nI (by omega)
  have hk80 := hW.rs r
  refine lv_iload hC.1 hC.2.1 dL_law_940 (lv_at hl 5 rfl) ?_
  refine lv_if_ne (tgt := 948) hC.1 hC.2.1 dL_law_942 (by decide) (fun c_942 => ?_) (fun c_942 => ?_)
  · have hB0 : 0 < mnB M := Nat.pos_of_ne_zero (fun z => c_942 (by rw [z]; rfl))
    refine lv_iload hC.1 hC.2.1 dL_law_948 (lv_at hl 15 rfl) ?_
    refine lv_iload hC.1 hC.2.1 dL_law_950 (lv_at hl 5 rfl) ?_
    refine lw_rem hC (k := u) (n := (mnB M)) rfl rfl (by omega) (by omega) (by omega) dL_law_952 ?_
    obtain ⟨k9, hke⟩ : ∃ k9, k9 = u % mnB M := ⟨_, rfl⟩
    have hk9 : k9 < mnB M := by rw [hke]; exact Nat.mod_lt _ hB0
    have hck : cN (nI k9) = k9 := cN_nI (by omega)
    rw [show (u % (mnB M)) = k9 from hke.symm]
    have hg9 := hW.gn k9
    refine lv_istore (lv' := [(21, .int (nI k9)), (0, .ref b), (1, .ref x), (2, .int (nI R0)), (3, .int (nI (mnF M))), (4, .int (mlm M)), (5, .int (nI (mnB M))), (6, .ref (ar 0)), (7, .ref (ar 1)), (8, .ref (ar 2)), (9, .ref (ar 3)), (10, .ref (ar 4)), (11, .ref (ar 5)), (12, .ref (ar 6)), (13, .int (nI t)), (14, .int (nI v)), (15, .int (nI u)), (16, .int (nI r)), (17, .int (nI c3)), (18, .int (nI d3)), (19, .int (M.2.1 0 r)), (20, .int (bI o))]) hC.1 hC.2.1 dL_law_953 hl (by decide) rfl (fun ls hl => ?_)
    refine lv_iload hC.1 hC.2.1 dL_law_955 (lv_at hl 16 rfl) ?_
    refine lv_iconst (v := 5) hC.1 hC.2.1 dL_law_957 (by decide) ?_
    refine lw_rem hC (k := u) (n := 5) rfl rfl (by omega) (by omega) (by omega) dL_law_958 ?_
    refine lv_if_ne (tgt := 971) hC.1 hC.2.1 dL_law_959 (by decide) (fun c_959 => ?_) (fun c_959 => ?_)
    · refine lv_ldc hC.1 hC.2.1 hC.2.2.2.1 (hC.2.2.2.2 _ q362) dL_law_971 ?_
      refine lv_istore (lv' := [(22, .int (-1000000)), (21, .int (nI k9)), (0, .ref b), (1, .ref x), (2, .int (nI R0)), (3, .int (nI (mnF M))), (4, .int (mlm M)), (5, .int (nI (mnB M))), (6, .ref (ar 0)), (7, .ref (ar 1)), (8, .ref (ar 2)), (9, .ref (ar 3)), (10, .ref (ar 4)), (11, .ref (ar 5)), (12, .ref (ar 6)), (13, .int (nI t)), (14, .int (nI v)), (15, .int (nI u)), (16, .int (nI r)), (17, .int (nI c3)), (18, .int (nI d3)), (19, .int (M.2.1 0 r)), (20, .int (bI o))]) hC.1 hC.2.1 dL_law_973 hl (by decide) rfl (fun ls hl => ?_)
      refine lv_iload hC.1 hC.2.1 dL_law_975 (lv_at hl 17 rfl) ?_
      refine lv_iconst (v := 5) hC.1 hC.2.1 dL_law_977 (by decide) ?_
      refine lw_rem hC (k := u) (n := 5) rfl rfl (by omega) (by omega) (by omega) dL_law_978 ?_
      refine lv_if_ne (tgt := 1024) hC.1 hC.2.1 dL_law_979 (by decide) (fun c_979 => ?_) (fun c => absurd c c_959)
      refine lv_aload hC.1 hC.2.1 dL_law_1024 (lv_at hl 14 rfl) ?_
      refine lv_iload hC.1 hC.2.1 dL_law_1026 (lv_at hl 1 rfl) ?_
      refine lv_dup2_11 hC.1 hC.2.1 dL_law_1028 rfl rfl ?_
      refine ec_zald hC hK z6 k9 rfl (by omega) (by decide) dL_law_1029 ?_
      refine ec_topi (y := (nI (M.1 6 k9))) (hAR.2 k9) ?_
      refine lv_iload hC.1 hC.2.1 dL_law_1030 (lv_at hl 0 rfl) ?_
      refine lv_ldc hC.1 hC.2.1 hC.2.2.2.1 (hC.2.2.2.2 _ q362) dL_law_1032 ?_
      refine lw_neq hC dL_law_1034 dL_law_1037 dL_law_1038 dL_law_1041 ?_
      refine lv_ior hC.1 hC.2.1 dL_law_1042 ?_
      refine ec_topi (y := (bI (decide (M.1 6 k9 = 1) || (!decide ((-1000000) = (-1000000)))))) (or_b hg9 _) ?_
      refine lw_zst6 F I k9 (by omega) rfl dL_law_1043 (fun H locs I => ?_)
      have hAR := hAR.sm (k := k9) (z := (bI (decide (M.1 6 k9 = 1) || (!decide ((-1000000) = (-1000000)))))) (by rw [decide_eq_true rfl, Bool.not_true, Bool.or_false]; exact b01 hg9)
      refine lv_goto (tgt := 1185) hC.1 hC.2.1 dL_law_1044 (by decide) ?_
      refine W.widen (k := cells + 1900) (n := slots + 19900) (by omega) (by omega) ?_
      exact kk H locs M (up2 g 6 k9 (bI (decide (M.1 6 k9 = 1) || (!decide ((-1000000) = (-1000000)))))) ls I hAR (hP.mono (by omega) (by omega) (by omega) (by omega)) (hR) ⟨hl.1, hl.2.1, (ec_lvc (lv_at hl 2 rfl) (ec_lvc (lv_at hl 3 rfl) (ec_lvc (lv_at hl 4 rfl) (ec_lvc (lv_at hl 5 rfl) (ec_lvc (lv_at hl 6 rfl) (ec_lvc (lv_at hl 7 rfl) (ec_lvc (lv_at hl 8 rfl) (ec_lvc (lv_at hl 9 rfl) (ec_lvc (lv_at hl 10 rfl) (ec_lvc (lv_at hl 11 rfl) (ec_lvc (lv_at hl 12 rfl) (ec_lvc (lv_at hl 13 rfl) (ec_lvc (lv_at hl 14 rfl) (ec_lvc (lv_at hl 15 rfl) ec_lvn))))))))))))))⟩
    · refine lv_aload_n hC.1 hC.2.1 dL_law_962 rfl (lv_at hl 2 rfl) ?_
      refine lv_iload hC.1 hC.2.1 dL_law_963 (lv_at hl 0 rfl) ?_
      by_cases hcan : M.1 6 k9 = 0 ∧ mhr M < M.2.1 7 k9
      · skip
        obtain ⟨n9, hn9⟩ : ∃ n9, n9 = cntN (setN M 6 k9 1) (mnB M) := ⟨_, rfl⟩
        have hnl : n9 ≤ 16 := by rw [hn9]; have := cntN_le (setN M 6 k9 1) (mnB M); omega
        have hT9 := (T_Can hW hk9).trans (if_pos hcan)
        refine ec_goXE1 (ec_xSH hC (c_L_cancel l hls G X M x (nI k9)) kL_183 (hOk.at hS hAN9) ⟨hXs, hEC⟩ hl.1 ⟨Nat.le_of_ble_eq_true rfl, Nat.le_of_ble_eq_true rfl⟩ rfl (Nat.le_of_ble_eq_true rfl) dL_law_965 ⟨(by omega), (by omega)⟩) hS hXA (fun _ _ _ _ _ hx9 => hx9.elim) (fun H locs hEC hzs hk1 hS => ?_)
        rw [if_pos hT9] at hEC
        rw [hck] at hEC
        have I := I.to F hS hzs hk1 hEC
        obtain ⟨hS, hXs, hEC, h5, z5, z6⟩ := id I
        have hP := hP.can (b := k9)
        refine ec_topi (y := (nI n9)) (by rw [hT9, hv_0, hck, hn9]) ?_
        refine lv_goto (tgt := 973) hC.1 hC.2.1 dL_law_968 (by decide) ?_
        refine lv_istore (lv' := [(22, .int (nI n9)), (21, .int (nI k9)), (0, .ref b), (1, .ref x), (2, .int (nI R0)), (3, .int (nI (mnF M))), (4, .int (mlm M)), (5, .int (nI (mnB M))), (6, .ref (ar 0)), (7, .ref (ar 1)), (8, .ref (ar 2)), (9, .ref (ar 3)), (10, .ref (ar 4)), (11, .ref (ar 5)), (12, .ref (ar 6)), (13, .int (nI t)), (14, .int (nI v)), (15, .int (nI u)), (16, .int (nI r)), (17, .int (nI c3)), (18, .int (nI d3)), (19, .int (M.2.1 0 r)), (20, .int (bI o))]) hC.1 hC.2.1 dL_law_973 hl (by decide) rfl (fun ls hl => ?_)
        refine lv_iload hC.1 hC.2.1 dL_law_975 (lv_at hl 17 rfl) ?_
        refine lv_iconst (v := 5) hC.1 hC.2.1 dL_law_977 (by decide) ?_
        refine lw_rem hC (k := u) (n := 5) rfl rfl (by omega) (by omega) (by omega) dL_law_978 ?_
        refine lv_if_ne (tgt := 1024) hC.1 hC.2.1 dL_law_979 (by decide) (fun c => absurd c_959 c) (fun c_979 => ?_)
        refine lv_iload hC.1 hC.2.1 dL_law_982 (lv_at hl 0 rfl) ?_
        refine lv_ldc hC.1 hC.2.1 hC.2.2.2.1 (hC.2.2.2.2 _ q362) dL_law_984 ?_
        refine lw_eq hC dL_law_986 dL_law_989 dL_law_990 dL_law_993 ?_
        refine ec_topi (y := 0) (by rw [decide_eq_false (nI_ne (k := n9) (by omega)).2]; rfl) ?_
        refine lv_aload hC.1 hC.2.1 dL_law_994 (lv_at hl 14 rfl) ?_
        refine lv_iload hC.1 hC.2.1 dL_law_996 (lv_at hl 1 rfl) ?_
        refine ec_zald hC hK z6 k9 rfl (by omega) (by decide) dL_law_998 ?_
        refine ec_topi (y := 0) (by rw [hAR.2 k9, hcan.1]; rfl) ?_
        refine lv_if_ne (tgt := 1014) hC.1 hC.2.1 dL_law_999 (by decide) (fun c => absurd rfl c) (fun _ => ?_)
        refine lv_aload hC.1 hC.2.1 dL_law_1002 (lv_at hl 8 rfl) ?_
        refine lv_iload hC.1 hC.2.1 dL_law_1004 (lv_at hl 1 rfl) ?_
        refine ec_iald hC hK (h5 0 (by decide)) k9 rfl (by omega) (by decide) dL_law_1006 ?_
        refine ec_topi (y := (M.2.1 7 k9)) (hAR.1 k9 hk9).1 ?_
        refine lv_aload_n hC.1 hC.2.1 dL_law_1007 rfl (lv_at hl 3 rfl) ?_
        refine ec_go1 (ec_rV hC (c_X5_hour l G X (setN M 6 k9 1) x) kL_175 (hOk.at hS hAN9) hEC (hEC.rcv hK) hl.1 ⟨Nat.le_of_ble_eq_true rfl, Nat.le_of_ble_eq_true rfl⟩ rfl (Nat.le_of_ble_eq_true rfl) dL_law_1008 ⟨(by omega), (by omega)⟩) ?_
        refine lv_icmp_gt (tgt := 1018) hC.1 hC.2.1 dL_law_1011 (by decide) (fun c_1011 => ?_) (fun c => absurd hcan.2 c)
        refine lv_iconst (v := 0) hC.1 hC.2.1 dL_law_1018 (by decide) ?_
        refine lv_icmp_eq (tgt := 1024) hC.1 hC.2.1 dL_law_1019 (by decide) (fun _ => ?_) (fun c => absurd (by decide) c)
        refine lv_aload hC.1 hC.2.1 dL_law_1024 (lv_at hl 14 rfl) ?_
        refine lv_iload hC.1 hC.2.1 dL_law_1026 (lv_at hl 1 rfl) ?_
        refine lv_dup2_11 hC.1 hC.2.1 dL_law_1028 rfl rfl ?_
        refine ec_zald hC hK z6 k9 rfl (by omega) (by decide) dL_law_1029 ?_
        refine ec_topi (y := (nI (M.1 6 k9))) (hAR.2 k9) ?_
        refine lv_iload hC.1 hC.2.1 dL_law_1030 (lv_at hl 0 rfl) ?_
        refine lv_ldc hC.1 hC.2.1 hC.2.2.2.1 (hC.2.2.2.2 _ q362) dL_law_1032 ?_
        refine lw_neq hC dL_law_1034 dL_law_1037 dL_law_1038 dL_law_1041 ?_
        refine lv_ior hC.1 hC.2.1 dL_law_1042 ?_
        refine ec_topi (y := (bI (decide (M.1 6 k9 = 1) || (!decide ((nI n9) = (-1000000)))))) (or_b hg9 _) ?_
        refine lw_zst6 F I k9 (by omega) rfl dL_law_1043 (fun H locs I => ?_)
        have hAR := hAR.can (k := k9) (z := (bI (decide (M.1 6 k9 = 1) || (!decide ((nI n9) = (-1000000)))))) (by rw [decide_eq_false (nI_ne (k := n9) (by omega)).2, Bool.not_false, Bool.or_true]; rfl)
        refine lv_goto (tgt := 1185) hC.1 hC.2.1 dL_law_1044 (by decide) ?_
        refine W.widen (k := cells + 1900) (n := slots + 19900) (by omega) (by omega) ?_
        exact kk H locs (setN M 6 k9 1) (up2 g 6 k9 (bI (decide (M.1 6 k9 = 1) || (!decide ((nI n9) = (-1000000)))))) ls I hAR (hP.mono (by omega) (by omega) (by omega) (by omega)) (hR) ⟨hl.1, hl.2.1, (ec_lvc (lv_at hl 2 rfl) (ec_lvc (lv_at hl 3 rfl) (ec_lvc (lv_at hl 4 rfl) (ec_lvc (lv_at hl 5 rfl) (ec_lvc (lv_at hl 6 rfl) (ec_lvc (lv_at hl 7 rfl) (ec_lvc (lv_at hl 8 rfl) (ec_lvc (lv_at hl 9 rfl) (ec_lvc (lv_at hl 10 rfl) (ec_lvc (lv_at hl 11 rfl) (ec_lvc (lv_at hl 12 rfl) (ec_lvc (lv_at hl 13 rfl) (ec_lvc (lv_at hl 14 rfl) (ec_lvc (lv_at hl 15 rfl) ec_lvn))))))))))))))⟩
      · skip
        have hT9 := (T_Can hW hk9).trans (if_neg hcan)
        refine ec_goXE1 (ec_xSH hC (c_L_cancel l hls G X M x (nI k9)) kL_183 (hOk.at hS hAN9) ⟨hXs, hEC⟩ hl.1 ⟨Nat.le_of_ble_eq_true rfl, Nat.le_of_ble_eq_true rfl⟩ rfl (Nat.le_of_ble_eq_true rfl) dL_law_965 ⟨(by omega), (by omega)⟩) hS hXA (fun _ _ _ _ _ hx9 => hx9.elim) (fun H locs hEC hzs hk1 hS => ?_)
        rw [if_neg (by rw [hT9]; decide)] at hEC
        have I := I.to F hS hzs hk1 hEC
        obtain ⟨hS, hXs, hEC, h5, z5, z6⟩ := id I
        refine ec_topi (y := (-1000000)) (by rw [hT9]; rfl) ?_
        refine lv_goto (tgt := 973) hC.1 hC.2.1 dL_law_968 (by decide) ?_
        refine lv_istore (lv' := [(22, .int (-1000000)), (21, .int (nI k9)), (0, .ref b), (1, .ref x), (2, .int (nI R0)), (3, .int (nI (mnF M))), (4, .int (mlm M)), (5, .int (nI (mnB M))), (6, .ref (ar 0)), (7, .ref (ar 1)), (8, .ref (ar 2)), (9, .ref (ar 3)), (10, .ref (ar 4)), (11, .ref (ar 5)), (12, .ref (ar 6)), (13, .int (nI t)), (14, .int (nI v)), (15, .int (nI u)), (16, .int (nI r)), (17, .int (nI c3)), (18, .int (nI d3)), (19, .int (M.2.1 0 r)), (20, .int (bI o))]) hC.1 hC.2.1 dL_law_973 hl (by decide) rfl (fun ls hl => ?_)
        refine lv_iload hC.1 hC.2.1 dL_law_975 (lv_at hl 17 rfl) ?_
        refine lv_iconst (v := 5) hC.1 hC.2.1 dL_law_977 (by decide) ?_
        refine lw_rem hC (k := u) (n := 5) rfl rfl (by omega) (by omega) (by omega) dL_law_978 ?_
        refine lv_if_ne (tgt := 1024) hC.1 hC.2.1 dL_law_979 (by decide) (fun c => absurd c_959 c) (fun c_979 => ?_)
        refine lv_iload hC.1 hC.2.1 dL_law_982 (lv_at hl 0 rfl) ?_
        refine lv_ldc hC.1 hC.2.1 hC.2.2.2.1 (hC.2.2.2.2 _ q362) dL_law_984 ?_
        refine lw_eq hC dL_law_986 dL_law_989 dL_law_990 dL_law_993 ?_
        refine ec_topi (y := 1) (by decide) ?_
        refine lv_aload hC.1 hC.2.1 dL_law_994 (lv_at hl 14 rfl) ?_
        refine lv_iload hC.1 hC.2.1 dL_law_996 (lv_at hl 1 rfl) ?_
        refine ec_zald hC hK z6 k9 rfl (by omega) (by decide) dL_law_998 ?_
        refine ec_topi (y := (nI (M.1 6 k9))) (hAR.2 k9) ?_
        refine lv_if_ne (tgt := 1014) hC.1 hC.2.1 dL_law_999 (by decide) (fun c_999 => ?_) (fun c_999 => ?_)
        · refine lv_iconst (v := 1) hC.1 hC.2.1 dL_law_1014 (by decide) ?_
          refine lv_goto (tgt := 1019) hC.1 hC.2.1 dL_law_1015 (by decide) ?_
          refine lv_icmp_eq (tgt := 1024) hC.1 hC.2.1 dL_law_1019 (by decide) (fun _ => ?_) (fun c => absurd (by decide) c)
          refine lv_aload hC.1 hC.2.1 dL_law_1024 (lv_at hl 14 rfl) ?_
          refine lv_iload hC.1 hC.2.1 dL_law_1026 (lv_at hl 1 rfl) ?_
          refine lv_dup2_11 hC.1 hC.2.1 dL_law_1028 rfl rfl ?_
          refine ec_zald hC hK z6 k9 rfl (by omega) (by decide) dL_law_1029 ?_
          refine ec_topi (y := (nI (M.1 6 k9))) (hAR.2 k9) ?_
          refine lv_iload hC.1 hC.2.1 dL_law_1030 (lv_at hl 0 rfl) ?_
          refine lv_ldc hC.1 hC.2.1 hC.2.2.2.1 (hC.2.2.2.2 _ q362) dL_law_1032 ?_
          refine lw_neq hC dL_law_1034 dL_law_1037 dL_law_1038 dL_law_1041 ?_
          refine lv_ior hC.1 hC.2.1 dL_law_1042 ?_
          refine ec_topi (y := (bI (decide (M.1 6 k9 = 1) || (!decide ((-1000000) = (-1000000)))))) (or_b hg9 _) ?_
          refine lw_zst6 F I k9 (by omega) rfl dL_law_1043 (fun H locs I => ?_)
          have hAR := hAR.sm (k := k9) (z := (bI (decide (M.1 6 k9 = 1) || (!decide ((-1000000) = (-1000000)))))) (by rw [decide_eq_true rfl, Bool.not_true, Bool.or_false]; exact b01 hg9)
          refine lv_goto (tgt := 1185) hC.1 hC.2.1 dL_law_1044 (by decide) ?_
          refine W.widen (k := cells + 1900) (n := slots + 19900) (by omega) (by omega) ?_
          exact kk H locs M (up2 g 6 k9 (bI (decide (M.1 6 k9 = 1) || (!decide ((-1000000) = (-1000000)))))) ls I hAR (hP.mono (by omega) (by omega) (by omega) (by omega)) (hR) ⟨hl.1, hl.2.1, (ec_lvc (lv_at hl 2 rfl) (ec_lvc (lv_at hl 3 rfl) (ec_lvc (lv_at hl 4 rfl) (ec_lvc (lv_at hl 5 rfl) (ec_lvc (lv_at hl 6 rfl) (ec_lvc (lv_at hl 7 rfl) (ec_lvc (lv_at hl 8 rfl) (ec_lvc (lv_at hl 9 rfl) (ec_lvc (lv_at hl 10 rfl) (ec_lvc (lv_at hl 11 rfl) (ec_lvc (lv_at hl 12 rfl) (ec_lvc (lv_at hl 13 rfl) (ec_lvc (lv_at hl 14 rfl) (ec_lvc (lv_at hl 15 rfl) ec_lvn))))))))))))))⟩
        · refine lv_aload hC.1 hC.2.1 dL_law_1002 (lv_at hl 8 rfl) ?_
          refine lv_iload hC.1 hC.2.1 dL_law_1004 (lv_at hl 1 rfl) ?_
          refine ec_iald hC hK (h5 0 (by decide)) k9 rfl (by omega) (by decide) dL_law_1006 ?_
          refine ec_topi (y := (M.2.1 7 k9)) (hAR.1 k9 hk9).1 ?_
          refine lv_aload_n hC.1 hC.2.1 dL_law_1007 rfl (lv_at hl 3 rfl) ?_
          refine ec_go1 (ec_rV hC (c_X5_hour l G X M x) kL_175 (hOk.at hS hAN9) hEC (hEC.rcv hK) hl.1 ⟨Nat.le_of_ble_eq_true rfl, Nat.le_of_ble_eq_true rfl⟩ rfl (Nat.le_of_ble_eq_true rfl) dL_law_1008 ⟨(by omega), (by omega)⟩) ?_
          refine lv_icmp_gt (tgt := 1018) hC.1 hC.2.1 dL_law_1011 (by decide) (fun c => absurd c (fun z => hcan ⟨(nI_eq (b := 0) (by omega) (by decide)).mp c_999, z⟩)) (fun c_1011 => ?_)
          refine lv_iconst (v := 1) hC.1 hC.2.1 dL_law_1014 (by decide) ?_
          refine lv_goto (tgt := 1019) hC.1 hC.2.1 dL_law_1015 (by decide) ?_
          refine lv_icmp_eq (tgt := 1024) hC.1 hC.2.1 dL_law_1019 (by decide) (fun _ => ?_) (fun c => absurd (by decide) c)
          refine lv_aload hC.1 hC.2.1 dL_law_1024 (lv_at hl 14 rfl) ?_
          refine lv_iload hC.1 hC.2.1 dL_law_1026 (lv_at hl 1 rfl) ?_
          refine lv_dup2_11 hC.1 hC.2.1 dL_law_1028 rfl rfl ?_
          refine ec_zald hC hK z6 k9 rfl (by omega) (by decide) dL_law_1029 ?_
          refine ec_topi (y := (nI (M.1 6 k9))) (hAR.2 k9) ?_
          refine lv_iload hC.1 hC.2.1 dL_law_1030 (lv_at hl 0 rfl) ?_
          refine lv_ldc hC.1 hC.2.1 hC.2.2.2.1 (hC.2.2.2.2 _ q362) dL_law_1032 ?_
          refine lw_neq hC dL_law_1034 dL_law_1037 dL_law_1038 dL_law_1041 ?_
          refine lv_ior hC.1 hC.2.1 dL_law_1042 ?_
          refine ec_topi (y := (bI (decide (M.1 6 k9 = 1) || (!decide ((-1000000) = (-1000000)))))) (or_b hg9 _) ?_
          refine lw_zst6 F I k9 (by omega) rfl dL_law_1043 (fun H locs I => ?_)
          have hAR := hAR.sm (k := k9) (z := (bI (decide (M.1 6 k9 = 1) || (!decide ((-1000000) = (-1000000)))))) (by rw [decide_eq_true rfl, Bool.not_true, Bool.or_false]; exact b01 hg9)
          refine lv_goto (tgt := 1185) hC.1 hC.2.1 dL_law_1044 (by decide) ?_
          refine W.widen (k := cells + 1900) (n := slots + 19900) (by omega) (by omega) ?_
          exact kk H locs M (up2 g 6 k9 (bI (decide (M.1 6 k9 = 1) || (!decide ((-1000000) = (-1000000)))))) ls I hAR (hP.mono (by omega) (by omega) (by omega) (by omega)) (hR) ⟨hl.1, hl.2.1, (ec_lvc (lv_at hl 2 rfl) (ec_lvc (lv_at hl 3 rfl) (ec_lvc (lv_at hl 4 rfl) (ec_lvc (lv_at hl 5 rfl) (ec_lvc (lv_at hl 6 rfl) (ec_lvc (lv_at hl 7 rfl) (ec_lvc (lv_at hl 8 rfl) (ec_lvc (lv_at hl 9 rfl) (ec_lvc (lv_at hl 10 rfl) (ec_lvc (lv_at hl 11 rfl) (ec_lvc (lv_at hl 12 rfl) (ec_lvc (lv_at hl 13 rfl) (ec_lvc (lv_at hl 14 rfl) (ec_lvc (lv_at hl 15 rfl) ec_lvn))))))))))))))⟩
  · refine lv_goto (tgt := 1185) hC.1 hC.2.1 dL_law_945 (by decide) ?_
    refine W.widen (k := cells + 1900) (n := slots + 19900) (by omega) (by omega) ?_
    exact kk H locs M g ls I hAR (hP.mono (by omega) (by omega) (by omega) (by omega)) (hR) ⟨hl.1, hl.2.1, (ec_lvc (lv_at hl 0 rfl) (ec_lvc (lv_at hl 1 rfl) (ec_lvc (lv_at hl 2 rfl) (ec_lvc (lv_at hl 3 rfl) (ec_lvc (lv_at hl 4 rfl) (ec_lvc (lv_at hl 5 rfl) (ec_lvc (lv_at hl 6 rfl) (ec_lvc (lv_at hl 7 rfl) (ec_lvc (lv_at hl 8 rfl) (ec_lvc (lv_at hl 9 rfl) (ec_lvc (lv_at hl 10 rfl) (ec_lvc (lv_at hl 11 rfl) (ec_lvc (lv_at hl 12 rfl) (ec_lvc (lv_at hl 13 rfl) ec_lvn))))))))))))))⟩

set_option maxHeartbeats 4000000 in
set_option maxRecDepth 100000 in
/-- pass -/
theorem lw_pas {p : Program} {l : Launch} {e : Env} {s : State} {m : MethodId} {below : List Frame} {meth : Method} {c : Code} {G : ecG} {X : Nat → Prop} {b L x R0 t : Nat} {xs : Nat → Int32} {ar : Nat → Nat} {H : Heap} {locs : List Loc} {M : ecM} {g : Nat → Nat → Int32} {ls : Array Slot} {cells slots : Nat} {Q : State → Prop} {v u r c3 d3 : Nat} {o : Bool} (F : lwF p l s m c G X b L xs ar) (I : lwW s G X x ar H locs M g) (hAR : AR M g) (hP : PI (5 * t) (300 * t) t (20 * t) M) (hR : mnR M = R0) (hR0 : R0 ≤ 3 ∧ 0 < R0) (ht : t < 28) (hv9 : v < 50000) (hu : u < 9000) (hr : r < R0) (hc3 : c3 < 3) (hd3 : d3 < 3) (hl : lv_has ls 28 [(0, .ref b), (1, .ref x), (2, .int (nI R0)), (3, .int (nI (mnF M))), (4, .int (mlm M)), (5, .int (nI (mnB M))), (6, .ref (ar 0)), (7, .ref (ar 1)), (8, .ref (ar 2)), (9, .ref (ar 3)), (10, .ref (ar 4)), (11, .ref (ar 5)), (12, .ref (ar 6)), (13, .int (nI t)), (14, .int (nI v)), (15, .int (nI u)), (16, .int (nI r)), (17, .int (nI c3)), (18, .int (nI d3)), (19, .int (M.2.1 0 r)), (20, .int (bI o))]) (hc : cells + 1900 ≤ room_1.cells) (hs : slots + 19900 ≤ room_1.slots) (kk : ∀ (H : Heap) (locs : List Loc) (M2 : ecM) (g2 : Nat → Nat → Int32) (ls : Array Slot), lwW s G X x ar H locs M2 g2 → AR M2 g2 → PI (5 * t + 5) (300 * t + 300) (t + 1) (20 * t + 20) M2 → mnR M2 = R0 → lv_has ls 28 [(0, .ref b), (1, .ref x), (2, .int (nI R0)), (3, .int (nI (mnF M2))), (4, .int (mlm M2)), (5, .int (nI (mnB M2))), (6, .ref (ar 0)), (7, .ref (ar 1)), (8, .ref (ar 2)), (9, .ref (ar 3)), (10, .ref (ar 4)), (11, .ref (ar 5)), (12, .ref (ar 6)), (13, .int (nI t))] → W p l e room_1 s m #[Value.ref b] below meth c H locs (cells + 1900) (slots + 19900) Q (F0 m 1185 ls [])) : W p l e room_1 s m #[Value.ref b] below meth c H locs cells slots Q (F0 m 1047 ls []) := by
  obtain ⟨hC, hls, hOk, hX, hbl, hL, hAN, hXA, hrA, hrD⟩ := id F
  have hK := hOk.1
  obtain ⟨hS, hXs, hEC, h5, z5, z6⟩ := id I
  have hW := hEC.wf
  have hn0 := hW.n
  have hAN9 : ∀ q, (fun q : Nat => s.heap.size ≤ q) q → ecN0 G ≤ q := hAN
  have hB16 : mnB M ≤ 16 := hn0.2.2.2
  refine lv_iconst (v := 1) hC.1 hC.2.1 dL_law_1047 (by decide) ?_
  refine lv_iload hC.1 hC.2.1 dL_law_1048 (lv_at hl 15 rfl) ?_
  refine lv_iconst (v := 5) hC.1 hC.2.1 dL_law_1050 (by decide) ?_
  refine lw_rem hC (k := u) (n := 5) rfl rfl (by omega) (by omega) (by omega) dL_law_1051 ?_
  refine lw_add hC (k := 1) (n := (u % 5)) rfl rfl  dL_law_1052 ?_
  obtain ⟨nh, hnh⟩ : ∃ nh, nh = 1 + u % 5 := ⟨_, rfl⟩
  have hnh5 : nh ≤ 5 := by omega
  rw [show (1 + (u % 5)) = nh from hnh.symm]
  refine lv_istore (lv' := [(21, .int (nI nh)), (0, .ref b), (1, .ref x), (2, .int (nI R0)), (3, .int (nI (mnF M))), (4, .int (mlm M)), (5, .int (nI (mnB M))), (6, .ref (ar 0)), (7, .ref (ar 1)), (8, .ref (ar 2)), (9, .ref (ar 3)), (10, .ref (ar 4)), (11, .ref (ar 5)), (12, .ref (ar 6)), (13, .int (nI t)), (14, .int (nI v)), (15, .int (nI u)), (16, .int (nI r)), (17, .int (nI c3)), (18, .int (nI d3)), (19, .int (M.2.1 0 r)), (20, .int (bI o))]) hC.1 hC.2.1 dL_law_1053 hl (by decide) rfl (fun ls hl => ?_)
  refine lv_iconst (v := 0) hC.1 hC.2.1 dL_law_1055 (by decide) ?_
  refine lv_istore (lv' := [(22, .int 0), (21, .int (nI nh)), (0, .ref b), (1, .ref x), (2, .int (nI R0)), (3, .int (nI (mnF M))), (4, .int (mlm M)), (5, .int (nI (mnB M))), (6, .ref (ar 0)), (7, .ref (ar 1)), (8, .ref (ar 2)), (9, .ref (ar 3)), (10, .ref (ar 4)), (11, .ref (ar 5)), (12, .ref (ar 6)), (13, .int (nI t)), (14, .int (nI v)), (15, .int (nI u)), (16, .int (nI r)), (17, .int (nI c3)), (18, .int (nI d3)), (19, .int (M.2.1 0 r)), (20, .int (bI o))]) hC.1 hC.2.1 dL_law_1056 hl (by decide) rfl (fun ls hl => ?_)
  refine ec_loopC (n := nh) 208 2100 (fun j H locs ls => lv_has ls 28 [(22, .int (nI j)), (21, .int (nI nh)), (0, .ref b), (1, .ref x), (2, .int (nI R0)), (3, .int (nI (mnF M))), (4, .int (mlm M)), (5, .int (nI (mnB M))), (6, .ref (ar 0)), (7, .ref (ar 1)), (8, .ref (ar 2)), (9, .ref (ar 3)), (10, .ref (ar 4)), (11, .ref (ar 5)), (12, .ref (ar 6)), (13, .int (nI t))] ∧ (lwW s G X x ar H locs (pasM M j) g ∧ AR (pasM M j) g) ∧ True) ⟨⟨hl.1, hl.2.1, (ec_lvc (lv_at hl 0 rfl) (ec_lvc (lv_at hl 1 rfl) (ec_lvc (lv_at hl 2 rfl) (ec_lvc (lv_at hl 3 rfl) (ec_lvc (lv_at hl 4 rfl) (ec_lvc (lv_at hl 5 rfl) (ec_lvc (lv_at hl 6 rfl) (ec_lvc (lv_at hl 7 rfl) (ec_lvc (lv_at hl 8 rfl) (ec_lvc (lv_at hl 9 rfl) (ec_lvc (lv_at hl 10 rfl) (ec_lvc (lv_at hl 11 rfl) (ec_lvc (lv_at hl 12 rfl) (ec_lvc (lv_at hl 13 rfl) (ec_lvc (lv_at hl 14 rfl) (ec_lvc (lv_at hl 15 rfl) ec_lvn))))))))))))))))⟩, ⟨I, hAR⟩, trivial⟩ (fun H locs ls h9 => ?_) (fun j H locs ls hj h9 hkj => ?_)
  · obtain ⟨hl, hW9, hI7⟩ := h9
    obtain ⟨I, hAR⟩ := hW9
    obtain ⟨hS, hXs, hEC, h5, z5, z6⟩ := id I
    have hW := hEC.wf
    have hn0 := hW.n
    obtain ⟨N9, hN9⟩ : ∃ N9, N9 = pasM M nh := ⟨_, rfl⟩
    have hp9 := hP.pas hB16 (by omega) (by omega) nh (by omega)
    have hf9 := pas_f M nh
    rw [← hN9] at I hAR hp9 hf9
    rw [show mnF M = mnF N9 from (congrFun (hf9.1 7 (by decide)) 2).symm, show mlm M = mlm N9 from hf9.2.symm, show mnB M = mnB N9 from (congrFun (hf9.1 7 (by decide)) 3).symm] at hl
    refine lv_iload hC.1 hC.2.1 dL_law_1058 (lv_at hl 0 rfl) ?_
    refine lv_iload hC.1 hC.2.1 dL_law_1060 (lv_at hl 1 rfl) ?_
    refine lv_icmp_ge (tgt := 1185) hC.1 hC.2.1 dL_law_1062 (by decide) (fun c_1062 => ?_) (fun c => absurd (Int32.le_refl _) c)
    refine W.widen (k := cells + 1900) (n := slots + 19900) (by omega) (by omega) ?_
    exact kk H locs N9 g ls I hAR (hp9.mono (by omega) (by omega) (by omega) (by omega)) ((congrFun (hf9.1 7 (by decide)) 0).trans hR) ⟨hl.1, hl.2.1, (ec_lvc (lv_at hl 2 rfl) (ec_lvc (lv_at hl 3 rfl) (ec_lvc (lv_at hl 4 rfl) (ec_lvc (lv_at hl 5 rfl) (ec_lvc (lv_at hl 6 rfl) (ec_lvc (lv_at hl 7 rfl) (ec_lvc (lv_at hl 8 rfl) (ec_lvc (lv_at hl 9 rfl) (ec_lvc (lv_at hl 10 rfl) (ec_lvc (lv_at hl 11 rfl) (ec_lvc (lv_at hl 12 rfl) (ec_lvc (lv_at hl 13 rfl) (ec_lvc (lv_at hl 14 rfl) (ec_lvc (lv_at hl 15 rfl) ec_lvn))))))))))))))⟩
  · obtain ⟨hl, hW9, hI7⟩ := h9
    obtain ⟨I, hAR⟩ := hW9
    obtain ⟨hS, hXs, hEC, h5, z5, z6⟩ := id I
    have hW := hEC.wf
    have hn0 := hW.n
    have hPj := hP.pas hB16 (by omega) (by omega) j (by omega)
    have hBj : mnB (pasM M j) = mnB M := congrFun ((pas_f M j).1 7 (by decide)) 3
    refine lv_iload hC.1 hC.2.1 dL_law_1058 (lv_at hl 0 rfl) ?_
    refine lv_iload hC.1 hC.2.1 dL_law_1060 (lv_at hl 1 rfl) ?_
    refine lv_icmp_ge (tgt := 1185) hC.1 hC.2.1 dL_law_1062 (by decide) (fun c => absurd c (lt_n hj (by omega))) (fun c_1062 => ?_)
    refine lv_iconst (v := 0) hC.1 hC.2.1 dL_law_1065 (by decide) ?_
    refine lv_istore (lv' := [(23, .int 0), (22, .int (nI j)), (21, .int (nI nh)), (0, .ref b), (1, .ref x), (2, .int (nI R0)), (3, .int (nI (mnF M))), (4, .int (mlm M)), (5, .int (nI (mnB M))), (6, .ref (ar 0)), (7, .ref (ar 1)), (8, .ref (ar 2)), (9, .ref (ar 3)), (10, .ref (ar 4)), (11, .ref (ar 5)), (12, .ref (ar 6)), (13, .int (nI t))]) hC.1 hC.2.1 dL_law_1066 hl (by decide) rfl (fun ls hl => ?_)
    refine lv_aload_n hC.1 hC.2.1 dL_law_1068 rfl (lv_at hl 4 rfl) ?_
    refine lv_iconst (v := 1) hC.1 hC.2.1 dL_law_1069 (by decide) ?_
    have hT9 := T_Pas hPj (by omega)
    refine ec_goXE1 (ec_xSH hC (c_L_pass l hls G X (pasM M j) x 1) kL_185 (hOk.at hS hAN9) ⟨hXs, hEC⟩ hl.1 ⟨Nat.le_of_ble_eq_true rfl, Nat.le_of_ble_eq_true rfl⟩ rfl (Nat.le_of_ble_eq_true rfl) dL_law_1070 ⟨(by omega), (by omega)⟩) hS hXA (fun _ _ _ _ _ hx9 => hx9.elim) (fun H locs hEC hzs hk1 hS => ?_)
    rw [if_pos hT9] at hEC
    rw [show cN (1 : Int32) = 1 from by decide] at hEC
    have hEC : EC G X (hrM (pasM M j)) x H := hEC
    have I := I.to F hS hzs hk1 hEC
    have hAR := hAR.hr
    obtain ⟨hS, hXs, hEC, h5, z5, z6⟩ := id I
    have hW := hEC.wf
    have hn0 := hW.n
    obtain ⟨N, hN⟩ : ∃ N, N = hrM (pasM M j) := ⟨_, rfl⟩
    have hst := hr_st hPj
    have hbc := bcN_s (pasM M j)
    rw [← hN] at hst I hAR hEC hW
    have hbc : ∀ k, bcN (pasM M j) (k + 1) = bcN (pasM M j) k + (if N.1 6 k = 0 ∧ N.2.1 7 k = mhr N then 1 else 0) := fun k => by rw [hN]; exact bcN_s (pasM M j) k
    have hBN : mnB N = mnB M := by rw [hN]; exact (congrFun ((hr_f (pasM M j)).1 7 (by decide)) 3).trans hBj
    have hn0 := hW.n
    refine ec_topi (y := (nI (hrC (pasM M j)))) (by rw [hT9, hv_0, show cN (1 : Int32) = 1 from by decide]; exact congrArg nI (Nat.zero_add _)) ?_
    refine lv_istore (lv' := [(24, .int (nI (hrC (pasM M j)))), (23, .int 0), (22, .int (nI j)), (21, .int (nI nh)), (0, .ref b), (1, .ref x), (2, .int (nI R0)), (3, .int (nI (mnF M))), (4, .int (mlm M)), (5, .int (nI (mnB M))), (6, .ref (ar 0)), (7, .ref (ar 1)), (8, .ref (ar 2)), (9, .ref (ar 3)), (10, .ref (ar 4)), (11, .ref (ar 5)), (12, .ref (ar 6)), (13, .int (nI t))]) hC.1 hC.2.1 dL_law_1073 hl (by decide) rfl (fun ls hl => ?_)
    refine lv_iconst (v := 0) hC.1 hC.2.1 dL_law_1075 (by decide) ?_
    refine lv_istore (lv' := [(25, .int 0), (24, .int (nI (hrC (pasM M j)))), (23, .int 0), (22, .int (nI j)), (21, .int (nI nh)), (0, .ref b), (1, .ref x), (2, .int (nI R0)), (3, .int (nI (mnF M))), (4, .int (mlm M)), (5, .int (nI (mnB M))), (6, .ref (ar 0)), (7, .ref (ar 1)), (8, .ref (ar 2)), (9, .ref (ar 3)), (10, .ref (ar 4)), (11, .ref (ar 5)), (12, .ref (ar 6)), (13, .int (nI t))]) hC.1 hC.2.1 dL_law_1076 hl (by decide) rfl (fun ls hl => ?_)
    refine ec_loopC (n := (mnB M)) 12 120 (fun k H locs ls => lv_has ls 28 [(25, .int (nI k)), (23, .int (nI (bcN (pasM M j) k))), (24, .int (nI (hrC (pasM M j)))), (22, .int (nI j)), (21, .int (nI nh)), (0, .ref b), (1, .ref x), (2, .int (nI R0)), (3, .int (nI (mnF M))), (4, .int (mlm M)), (5, .int (nI (mnB M))), (6, .ref (ar 0)), (7, .ref (ar 1)), (8, .ref (ar 2)), (9, .ref (ar 3)), (10, .ref (ar 4)), (11, .ref (ar 5)), (12, .ref (ar 6)), (13, .int (nI t))] ∧ (lwW s G X x ar H locs N g ∧ AR N g) ∧ True) ⟨⟨hl.1, hl.2.1, (ec_lvc (lv_at hl 0 rfl) (ec_lvc (lv_at hl 2 rfl) (ec_lvc (lv_at hl 1 rfl) (ec_lvc (lv_at hl 3 rfl) (ec_lvc (lv_at hl 4 rfl) (ec_lvc (lv_at hl 5 rfl) (ec_lvc (lv_at hl 6 rfl) (ec_lvc (lv_at hl 7 rfl) (ec_lvc (lv_at hl 8 rfl) (ec_lvc (lv_at hl 9 rfl) (ec_lvc (lv_at hl 10 rfl) (ec_lvc (lv_at hl 11 rfl) (ec_lvc (lv_at hl 12 rfl) (ec_lvc (lv_at hl 13 rfl) (ec_lvc (lv_at hl 14 rfl) (ec_lvc (lv_at hl 15 rfl) (ec_lvc (lv_at hl 16 rfl) (ec_lvc (lv_at hl 17 rfl) (ec_lvc (lv_at hl 18 rfl) ec_lvn)))))))))))))))))))⟩, ⟨I, hAR⟩, trivial⟩ (fun H locs ls h9 => ?_) (fun k H locs ls hk h9 hkk => ?_)
    · obtain ⟨hl, hW9, hI8⟩ := h9
      obtain ⟨I, hAR⟩ := hW9
      obtain ⟨hS, hXs, hEC, h5, z5, z6⟩ := id I
      have hW := hEC.wf
      have hn0 := hW.n
      refine lv_iload hC.1 hC.2.1 dL_law_1078 (lv_at hl 0 rfl) ?_
      refine lv_iload hC.1 hC.2.1 dL_law_1080 (lv_at hl 10 rfl) ?_
      refine lv_icmp_ge (tgt := 1170) hC.1 hC.2.1 dL_law_1082 (by decide) (fun c_1082 => ?_) (fun c => absurd (Int32.le_refl _) c)
      refine lv_iload hC.1 hC.2.1 dL_law_1170 (lv_at hl 2 rfl) ?_
      refine lv_iload hC.1 hC.2.1 dL_law_1172 (lv_at hl 1 rfl) ?_
      refine lv_icmp_eq (tgt := 1179) hC.1 hC.2.1 dL_law_1174 (by decide) (fun c_1174 => ?_) (fun c => absurd (by rw [← hBj]; rfl) c)
      refine lv_iinc (v := (nI (j + 1))) (lv' := [(22, .int (nI (j + 1))), (25, .int (nI (mnB M))), (23, .int (nI (bcN (pasM M j) (mnB M)))), (24, .int (nI (hrC (pasM M j)))), (21, .int (nI nh)), (0, .ref b), (1, .ref x), (2, .int (nI R0)), (3, .int (nI (mnF M))), (4, .int (mlm M)), (5, .int (nI (mnB M))), (6, .ref (ar 0)), (7, .ref (ar 1)), (8, .ref (ar 2)), (9, .ref (ar 3)), (10, .ref (ar 4)), (11, .ref (ar 5)), (12, .ref (ar 6)), (13, .int (nI t))]) hC.1 hC.2.1 dL_law_1179 hl (k := 3) rfl (nI_1 _) (by decide) rfl (fun ls hl => ?_)
      refine lv_goto (tgt := 1058) hC.1 hC.2.1 dL_law_1182 (by decide) ?_
      rw [hN] at I hAR
      exact W.widen (by omega) (by omega) (hkj H locs ls ⟨⟨hl.1, hl.2.1, (ec_lvc (lv_at hl 0 rfl) (ec_lvc (lv_at hl 4 rfl) (ec_lvc (lv_at hl 5 rfl) (ec_lvc (lv_at hl 6 rfl) (ec_lvc (lv_at hl 7 rfl) (ec_lvc (lv_at hl 8 rfl) (ec_lvc (lv_at hl 9 rfl) (ec_lvc (lv_at hl 10 rfl) (ec_lvc (lv_at hl 11 rfl) (ec_lvc (lv_at hl 12 rfl) (ec_lvc (lv_at hl 13 rfl) (ec_lvc (lv_at hl 14 rfl) (ec_lvc (lv_at hl 15 rfl) (ec_lvc (lv_at hl 16 rfl) (ec_lvc (lv_at hl 17 rfl) (ec_lvc (lv_at hl 18 rfl) ec_lvn))))))))))))))))⟩, ⟨I, hAR⟩, trivial⟩)
    · obtain ⟨hl, hW9, hI8⟩ := h9
      obtain ⟨I, hAR⟩ := hW9
      obtain ⟨hS, hXs, hEC, h5, z5, z6⟩ := id I
      have hW := hEC.wf
      have hn0 := hW.n
      have hkN : k < mnB N := by omega
      refine lv_iload hC.1 hC.2.1 dL_law_1078 (lv_at hl 0 rfl) ?_
      refine lv_iload hC.1 hC.2.1 dL_law_1080 (lv_at hl 10 rfl) ?_
      refine lv_icmp_ge (tgt := 1170) hC.1 hC.2.1 dL_law_1082 (by decide) (fun c => absurd c (lt_n hk (by omega))) (fun c_1082 => ?_)
      refine lv_aload hC.1 hC.2.1 dL_law_1085 (lv_at hl 17 rfl) ?_
      refine lv_iload hC.1 hC.2.1 dL_law_1087 (lv_at hl 0 rfl) ?_
      refine ec_zald hC hK z6 k rfl (by omega) (by decide) dL_law_1089 ?_
      refine ec_topi (y := (nI (N.1 6 k))) (hAR.2 k) ?_
      refine lv_if_ne (tgt := 1164) hC.1 hC.2.1 dL_law_1090 (by decide) (fun c_1090 => ?_) (fun c_1090 => ?_)
      · refine lv_iinc (v := (nI (k + 1))) (lv' := [(25, .int (nI (k + 1))), (23, .int (nI (bcN (pasM M j) k))), (24, .int (nI (hrC (pasM M j)))), (22, .int (nI j)), (21, .int (nI nh)), (0, .ref b), (1, .ref x), (2, .int (nI R0)), (3, .int (nI (mnF M))), (4, .int (mlm M)), (5, .int (nI (mnB M))), (6, .ref (ar 0)), (7, .ref (ar 1)), (8, .ref (ar 2)), (9, .ref (ar 3)), (10, .ref (ar 4)), (11, .ref (ar 5)), (12, .ref (ar 6)), (13, .int (nI t))]) hC.1 hC.2.1 dL_law_1164 hl (k := 0) rfl (nI_1 _) (by decide) rfl (fun ls hl => ?_)
        refine lv_goto (tgt := 1078) hC.1 hC.2.1 dL_law_1167 (by decide) ?_
        have e9 : bcN (pasM M j) (k + 1) = bcN (pasM M j) k := by rw [hbc, if_neg (fun z => c_1090 (by rw [z.1]; rfl))]; rfl
        rw [← e9] at hl
        exact W.widen (by omega) (by omega) (hkk H locs ls ⟨⟨hl.1, hl.2.1, (ec_lvc (lv_at hl 0 rfl) (ec_lvc (lv_at hl 1 rfl) (ec_lvc (lv_at hl 2 rfl) (ec_lvc (lv_at hl 3 rfl) (ec_lvc (lv_at hl 4 rfl) (ec_lvc (lv_at hl 5 rfl) (ec_lvc (lv_at hl 6 rfl) (ec_lvc (lv_at hl 7 rfl) (ec_lvc (lv_at hl 8 rfl) (ec_lvc (lv_at hl 9 rfl) (ec_lvc (lv_at hl 10 rfl) (ec_lvc (lv_at hl 11 rfl) (ec_lvc (lv_at hl 12 rfl) (ec_lvc (lv_at hl 13 rfl) (ec_lvc (lv_at hl 14 rfl) (ec_lvc (lv_at hl 15 rfl) (ec_lvc (lv_at hl 16 rfl) (ec_lvc (lv_at hl 17 rfl) (ec_lvc (lv_at hl 18 rfl) ec_lvn)))))))))))))))))))⟩, ⟨I, hAR⟩, trivial⟩)
      · refine lv_aload hC.1 hC.2.1 dL_law_1093 (lv_at hl 11 rfl) ?_
        refine lv_iload hC.1 hC.2.1 dL_law_1095 (lv_at hl 0 rfl) ?_
        refine ec_iald hC hK (h5 0 (by decide)) k rfl (by omega) (by decide) dL_law_1097 ?_
        refine ec_topi (y := (N.2.1 7 k)) (hAR.1 k hkN).1 ?_
        refine lv_aload_n hC.1 hC.2.1 dL_law_1098 rfl (lv_at hl 6 rfl) ?_
        refine ec_go1 (ec_rV hC (c_X5_hour l G X N x) kL_175 (hOk.at hS hAN9) hEC (hEC.rcv hK) hl.1 ⟨Nat.le_of_ble_eq_true rfl, Nat.le_of_ble_eq_true rfl⟩ rfl (Nat.le_of_ble_eq_true rfl) dL_law_1099 ⟨(by omega), (by omega)⟩) ?_
        refine lv_icmp_eq (tgt := 1108) hC.1 hC.2.1 dL_law_1102 (by decide) (fun c_1102 => ?_) (fun c_1102 => ?_)
        · have hk0 : N.1 6 k = 0 := (nI_eq (b := 0) (by have := hW.gn k; omega) (by decide)).mp c_1090
          have hsk := hst k (by omega) hk0 c_1102
          have hbk := hW.bk hkN
          have hc4 : cN (nI (N.1 4 k)) = N.1 4 k := cN_nI (by omega)
          refine lv_iinc (v := (nI (bcN (pasM M j) k + 1))) (lv' := [(23, .int (nI (bcN (pasM M j) k + 1))), (25, .int (nI k)), (24, .int (nI (hrC (pasM M j)))), (22, .int (nI j)), (21, .int (nI nh)), (0, .ref b), (1, .ref x), (2, .int (nI R0)), (3, .int (nI (mnF M))), (4, .int (mlm M)), (5, .int (nI (mnB M))), (6, .ref (ar 0)), (7, .ref (ar 1)), (8, .ref (ar 2)), (9, .ref (ar 3)), (10, .ref (ar 4)), (11, .ref (ar 5)), (12, .ref (ar 6)), (13, .int (nI t))]) hC.1 hC.2.1 dL_law_1108 hl (k := 1) rfl (nI_1 _) (by decide) rfl (fun ls hl => ?_)
          refine lv_aload_n hC.1 hC.2.1 dL_law_1111 rfl (lv_at hl 6 rfl) ?_
          refine lv_aload hC.1 hC.2.1 dL_law_1112 (lv_at hl 13 rfl) ?_
          refine lv_iload hC.1 hC.2.1 dL_law_1114 (lv_at hl 1 rfl) ?_
          refine ec_iald hC hK (h5 2 (by decide)) k rfl (by omega) (by decide) dL_law_1116 ?_
          refine ec_topi (y := (nI (N.1 4 k))) (hAR.1 k hkN).2.2.1 ?_
          refine ec_goXE1 (ec_xV hC (c_X5_curtains l hls G X N x (nI (N.1 4 k))) kL_132 (hOk.at hS hAN9) ⟨hXs, hEC⟩ (hEC.rcv hK) hl.1 ⟨Nat.le_of_ble_eq_true rfl, Nat.le_of_ble_eq_true rfl⟩ rfl (Nat.le_of_ble_eq_true rfl) dL_law_1117 ⟨(by omega), (by omega)⟩) hS hXA (fun E9 ce9 q9 H9 l9 hx hk9 hS9 h1 h2 h3 => (lw_no (T_R hW hbk.1) hx (by decide)).elim) (fun H locs hp hzs hk1 hS => ?_)
          obtain ⟨-, hEC⟩ := hp
          have I := I.to F hS hzs hk1 hEC
          obtain ⟨hS, hXs, hEC, h5, z5, z6⟩ := id I
          refine ec_topi (y := (nI (N.1 5 k / 20))) (by rw [hc4, hsk]) ?_
          refine lv_aload hC.1 hC.2.1 dL_law_1120 (lv_at hl 14 rfl) ?_
          refine lv_iload hC.1 hC.2.1 dL_law_1122 (lv_at hl 1 rfl) ?_
          refine ec_iald hC hK (h5 3 (by decide)) k rfl (by omega) (by decide) dL_law_1124 ?_
          refine ec_topi (y := (nI (N.1 5 k / 20))) (hAR.1 k hkN).2.2.2.1 ?_
          refine lv_icmp_ne (tgt := 1162) hC.1 hC.2.1 dL_law_1125 (by decide) (fun c => absurd rfl c) (fun c_1125 => ?_)
          refine lv_aload_n hC.1 hC.2.1 dL_law_1128 rfl (lv_at hl 6 rfl) ?_
          refine lv_aload hC.1 hC.2.1 dL_law_1129 (lv_at hl 13 rfl) ?_
          refine lv_iload hC.1 hC.2.1 dL_law_1131 (lv_at hl 1 rfl) ?_
          refine ec_iald hC hK (h5 2 (by decide)) k rfl (by omega) (by decide) dL_law_1133 ?_
          refine ec_topi (y := (nI (N.1 4 k))) (hAR.1 k hkN).2.2.1 ?_
          refine ec_goXE1 (ec_xV hC (c_X5_seats l hls G X N x (nI (N.1 4 k))) kL_135 (hOk.at hS hAN9) ⟨hXs, hEC⟩ (hEC.rcv hK) hl.1 ⟨Nat.le_of_ble_eq_true rfl, Nat.le_of_ble_eq_true rfl⟩ rfl (Nat.le_of_ble_eq_true rfl) dL_law_1134 ⟨(by omega), (by omega)⟩) hS hXA (fun E9 ce9 q9 H9 l9 hx hk9 hS9 h1 h2 h3 => (lw_no (T_R hW hbk.1) hx (by decide)).elim) (fun H locs hp hzs hk1 hS => ?_)
          obtain ⟨-, hEC⟩ := hp
          have I := I.to F hS hzs hk1 hEC
          obtain ⟨hS, hXs, hEC, h5, z5, z6⟩ := id I
          refine ec_topi (y := (nI (N.1 5 k % 20 / 2))) (by rw [hc4, hsk]) ?_
          refine lv_aload hC.1 hC.2.1 dL_law_1137 (lv_at hl 15 rfl) ?_
          refine lv_iload hC.1 hC.2.1 dL_law_1139 (lv_at hl 1 rfl) ?_
          refine ec_iald hC hK (h5 4 (by decide)) k rfl (by omega) (by decide) dL_law_1141 ?_
          refine ec_topi (y := (nI (N.1 5 k % 20 / 2))) (hAR.1 k hkN).2.2.2.2.1 ?_
          refine lv_icmp_ne (tgt := 1162) hC.1 hC.2.1 dL_law_1142 (by decide) (fun c => absurd rfl c) (fun c_1142 => ?_)
          refine lv_aload_n hC.1 hC.2.1 dL_law_1145 rfl (lv_at hl 6 rfl) ?_
          refine lv_aload hC.1 hC.2.1 dL_law_1146 (lv_at hl 13 rfl) ?_
          refine lv_iload hC.1 hC.2.1 dL_law_1148 (lv_at hl 1 rfl) ?_
          refine ec_iald hC hK (h5 2 (by decide)) k rfl (by omega) (by decide) dL_law_1150 ?_
          refine ec_topi (y := (nI (N.1 4 k))) (hAR.1 k hkN).2.2.1 ?_
          refine ec_goXE1 (ec_xV hC (c_X5_areOpen l hls G X N x (nI (N.1 4 k))) kL_156 (hOk.at hS hAN9) ⟨hXs, hEC⟩ (hEC.rcv hK) hl.1 ⟨Nat.le_of_ble_eq_true rfl, Nat.le_of_ble_eq_true rfl⟩ rfl (Nat.le_of_ble_eq_true rfl) dL_law_1151 ⟨(by omega), (by omega)⟩) hS hXA (fun E9 ce9 q9 H9 l9 hx hk9 hS9 h1 h2 h3 => (lw_no (T_R hW hbk.1) hx (by decide)).elim) (fun H locs hp hzs hk1 hS => ?_)
          obtain ⟨-, hEC⟩ := hp
          have I := I.to F hS hzs hk1 hEC
          obtain ⟨hS, hXs, hEC, h5, z5, z6⟩ := id I
          refine ec_topi (y := (nI (N.1 5 k % 2))) (by rw [hc4, hsk]) ?_
          refine lv_aload hC.1 hC.2.1 dL_law_1154 (lv_at hl 16 rfl) ?_
          refine lv_iload hC.1 hC.2.1 dL_law_1156 (lv_at hl 1 rfl) ?_
          refine ec_zald hC hK z5 k rfl (by omega) (by decide) dL_law_1158 ?_
          refine ec_topi (y := (nI (N.1 5 k % 2))) (hAR.1 k hkN).2.2.2.2.2 ?_
          refine lv_icmp_eq (tgt := 1164) hC.1 hC.2.1 dL_law_1159 (by decide) (fun c_1159 => ?_) (fun c => absurd rfl c)
          refine lv_iinc (v := (nI (k + 1))) (lv' := [(25, .int (nI (k + 1))), (23, .int (nI (bcN (pasM M j) k + 1))), (24, .int (nI (hrC (pasM M j)))), (22, .int (nI j)), (21, .int (nI nh)), (0, .ref b), (1, .ref x), (2, .int (nI R0)), (3, .int (nI (mnF M))), (4, .int (mlm M)), (5, .int (nI (mnB M))), (6, .ref (ar 0)), (7, .ref (ar 1)), (8, .ref (ar 2)), (9, .ref (ar 3)), (10, .ref (ar 4)), (11, .ref (ar 5)), (12, .ref (ar 6)), (13, .int (nI t))]) hC.1 hC.2.1 dL_law_1164 hl (k := 1) rfl (nI_1 _) (by decide) rfl (fun ls hl => ?_)
          refine lv_goto (tgt := 1078) hC.1 hC.2.1 dL_law_1167 (by decide) ?_
          have e9 : bcN (pasM M j) (k + 1) = bcN (pasM M j) k + 1 := by rw [hbc, if_pos ⟨hk0, c_1102⟩]
          rw [← e9] at hl
          exact W.widen (by omega) (by omega) (hkk H locs ls ⟨⟨hl.1, hl.2.1, (ec_lvc (lv_at hl 0 rfl) (ec_lvc (lv_at hl 1 rfl) (ec_lvc (lv_at hl 2 rfl) (ec_lvc (lv_at hl 3 rfl) (ec_lvc (lv_at hl 4 rfl) (ec_lvc (lv_at hl 5 rfl) (ec_lvc (lv_at hl 6 rfl) (ec_lvc (lv_at hl 7 rfl) (ec_lvc (lv_at hl 8 rfl) (ec_lvc (lv_at hl 9 rfl) (ec_lvc (lv_at hl 10 rfl) (ec_lvc (lv_at hl 11 rfl) (ec_lvc (lv_at hl 12 rfl) (ec_lvc (lv_at hl 13 rfl) (ec_lvc (lv_at hl 14 rfl) (ec_lvc (lv_at hl 15 rfl) (ec_lvc (lv_at hl 16 rfl) (ec_lvc (lv_at hl 17 rfl) (ec_lvc (lv_at hl 18 rfl) ec_lvn)))))))))))))))))))⟩, ⟨I, hAR⟩, trivial⟩)
        · refine lv_goto (tgt := 1164) hC.1 hC.2.1 dL_law_1105 (by decide) ?_
          refine lv_iinc (v := (nI (k + 1))) (lv' := [(25, .int (nI (k + 1))), (23, .int (nI (bcN (pasM M j) k))), (24, .int (nI (hrC (pasM M j)))), (22, .int (nI j)), (21, .int (nI nh)), (0, .ref b), (1, .ref x), (2, .int (nI R0)), (3, .int (nI (mnF M))), (4, .int (mlm M)), (5, .int (nI (mnB M))), (6, .ref (ar 0)), (7, .ref (ar 1)), (8, .ref (ar 2)), (9, .ref (ar 3)), (10, .ref (ar 4)), (11, .ref (ar 5)), (12, .ref (ar 6)), (13, .int (nI t))]) hC.1 hC.2.1 dL_law_1164 hl (k := 0) rfl (nI_1 _) (by decide) rfl (fun ls hl => ?_)
          refine lv_goto (tgt := 1078) hC.1 hC.2.1 dL_law_1167 (by decide) ?_
          have e9 : bcN (pasM M j) (k + 1) = bcN (pasM M j) k := by rw [hbc, if_neg (fun z => c_1102 z.2)]; rfl
          rw [← e9] at hl
          exact W.widen (by omega) (by omega) (hkk H locs ls ⟨⟨hl.1, hl.2.1, (ec_lvc (lv_at hl 0 rfl) (ec_lvc (lv_at hl 1 rfl) (ec_lvc (lv_at hl 2 rfl) (ec_lvc (lv_at hl 3 rfl) (ec_lvc (lv_at hl 4 rfl) (ec_lvc (lv_at hl 5 rfl) (ec_lvc (lv_at hl 6 rfl) (ec_lvc (lv_at hl 7 rfl) (ec_lvc (lv_at hl 8 rfl) (ec_lvc (lv_at hl 9 rfl) (ec_lvc (lv_at hl 10 rfl) (ec_lvc (lv_at hl 11 rfl) (ec_lvc (lv_at hl 12 rfl) (ec_lvc (lv_at hl 13 rfl) (ec_lvc (lv_at hl 14 rfl) (ec_lvc (lv_at hl 15 rfl) (ec_lvc (lv_at hl 16 rfl) (ec_lvc (lv_at hl 17 rfl) (ec_lvc (lv_at hl 18 rfl) ec_lvn)))))))))))))))))))⟩, ⟨I, hAR⟩, trivial⟩)

set_option maxHeartbeats 4000000 in
set_option maxRecDepth 100000 in
/-- no two bookings that stand clash -/
theorem lw_nc {p : Program} {l : Launch} {e : Env} {s : State} {m : MethodId} {below : List Frame} {meth : Method} {c : Code} {G : ecG} {X : Nat → Prop} {b L x R0 t : Nat} {xs : Nat → Int32} {ar : Nat → Nat} {H : Heap} {locs : List Loc} {M : ecM} {g : Nat → Nat → Int32} {ls : Array Slot} {cells slots : Nat} {Q : State → Prop} {h9 c9 a9 n9 : Nat} (F : lwF p l s m c G X b L xs ar) (I : lwW s G X x ar H locs M g) (hAR : AR M g) (hP : PI h9 c9 a9 n9 M) (hl : lv_has ls 28 [(0, .ref b), (1, .ref x), (2, .int (nI R0)), (3, .int (nI (mnF M))), (4, .int (mlm M)), (5, .int (nI (mnB M))), (6, .ref (ar 0)), (7, .ref (ar 1)), (8, .ref (ar 2)), (9, .ref (ar 3)), (10, .ref (ar 4)), (11, .ref (ar 5)), (12, .ref (ar 6)), (13, .int (nI t))]) (kk : ∀ (H : Heap) (locs : List Loc) (ls : Array Slot), lwW s G X x ar H locs M g → lv_has ls 28 [(0, .ref b), (1, .ref x), (2, .int (nI R0)), (3, .int (nI (mnF M))), (4, .int (mlm M)), (5, .int (nI (mnB M))), (6, .ref (ar 0)), (7, .ref (ar 1)), (8, .ref (ar 2)), (9, .ref (ar 3)), (10, .ref (ar 4)), (11, .ref (ar 5)), (12, .ref (ar 6)), (13, .int (nI t))] → W p l e room_1 s m #[Value.ref b] below meth c H locs cells slots Q (F0 m 1341 ls [])) : W p l e room_1 s m #[Value.ref b] below meth c H locs cells slots Q (F0 m 1185 ls []) := by
  obtain ⟨hC, hls, hOk, hX, hbl, hL, hAN, hXA, hrA, hrD⟩ := id F
  have hK := hOk.1
  obtain ⟨hS, hXs, hEC, h5, z5, z6⟩ := id I
  have hW := hEC.wf
  have hn0 := hW.n
  have hAN9 : ∀ q, (fun q : Nat => s.heap.size ≤ q) q → ecN0 G ≤ q := hAN
  refine lv_iconst (v := 0) hC.1 hC.2.1 dL_law_1185 (by decide) ?_
  refine lv_istore (lv' := [(21, .int 0), (0, .ref b), (1, .ref x), (2, .int (nI R0)), (3, .int (nI (mnF M))), (4, .int (mlm M)), (5, .int (nI (mnB M))), (6, .ref (ar 0)), (7, .ref (ar 1)), (8, .ref (ar 2)), (9, .ref (ar 3)), (10, .ref (ar 4)), (11, .ref (ar 5)), (12, .ref (ar 6)), (13, .int (nI t))]) hC.1 hC.2.1 dL_law_1186 hl (by decide) rfl (fun ls hl => ?_)
  refine ec_loopC (n := (mnB M)) 0 0 (fun k H locs ls => lv_has ls 28 [(21, .int (nI k)), (0, .ref b), (1, .ref x), (2, .int (nI R0)), (3, .int (nI (mnF M))), (4, .int (mlm M)), (5, .int (nI (mnB M))), (6, .ref (ar 0)), (7, .ref (ar 1)), (8, .ref (ar 2)), (9, .ref (ar 3)), (10, .ref (ar 4)), (11, .ref (ar 5)), (12, .ref (ar 6)), (13, .int (nI t))] ∧ (lwW s G X x ar H locs M g ∧ AR M g) ∧ True) ⟨⟨hl.1, hl.2.1, (ec_lvc (lv_at hl 0 rfl) (ec_lvc (lv_at hl 1 rfl) (ec_lvc (lv_at hl 2 rfl) (ec_lvc (lv_at hl 3 rfl) (ec_lvc (lv_at hl 4 rfl) (ec_lvc (lv_at hl 5 rfl) (ec_lvc (lv_at hl 6 rfl) (ec_lvc (lv_at hl 7 rfl) (ec_lvc (lv_at hl 8 rfl) (ec_lvc (lv_at hl 9 rfl) (ec_lvc (lv_at hl 10 rfl) (ec_lvc (lv_at hl 11 rfl) (ec_lvc (lv_at hl 12 rfl) (ec_lvc (lv_at hl 13 rfl) (ec_lvc (lv_at hl 14 rfl) ec_lvn)))))))))))))))⟩, ⟨I, hAR⟩, trivial⟩ (fun H locs ls h9 => ?_) (fun k H locs ls hk h9 hkk => ?_)
  · obtain ⟨hl, hW9, hI7⟩ := h9
    obtain ⟨I, hAR⟩ := hW9
    obtain ⟨hS, hXs, hEC, h5, z5, z6⟩ := id I
    have hW := hEC.wf
    have hn0 := hW.n
    refine lv_iload hC.1 hC.2.1 dL_law_1188 (lv_at hl 0 rfl) ?_
    refine lv_iload hC.1 hC.2.1 dL_law_1190 (lv_at hl 6 rfl) ?_
    refine lv_icmp_ge (tgt := 1341) hC.1 hC.2.1 dL_law_1192 (by decide) (fun c_1192 => ?_) (fun c => absurd (Int32.le_refl _) c)
    refine W.widen (k := cells) (n := slots) (by omega) (by omega) ?_
    exact kk H locs ls I ⟨hl.1, hl.2.1, (ec_lvc (lv_at hl 1 rfl) (ec_lvc (lv_at hl 2 rfl) (ec_lvc (lv_at hl 3 rfl) (ec_lvc (lv_at hl 4 rfl) (ec_lvc (lv_at hl 5 rfl) (ec_lvc (lv_at hl 6 rfl) (ec_lvc (lv_at hl 7 rfl) (ec_lvc (lv_at hl 8 rfl) (ec_lvc (lv_at hl 9 rfl) (ec_lvc (lv_at hl 10 rfl) (ec_lvc (lv_at hl 11 rfl) (ec_lvc (lv_at hl 12 rfl) (ec_lvc (lv_at hl 13 rfl) (ec_lvc (lv_at hl 14 rfl) ec_lvn))))))))))))))⟩
  · obtain ⟨hl, hW9, hI7⟩ := h9
    obtain ⟨I, hAR⟩ := hW9
    obtain ⟨hS, hXs, hEC, h5, z5, z6⟩ := id I
    have hW := hEC.wf
    have hn0 := hW.n
    refine lv_iload hC.1 hC.2.1 dL_law_1188 (lv_at hl 0 rfl) ?_
    refine lv_iload hC.1 hC.2.1 dL_law_1190 (lv_at hl 6 rfl) ?_
    refine lv_icmp_ge (tgt := 1341) hC.1 hC.2.1 dL_law_1192 (by decide) (fun c => absurd c (lt_n hk (by omega))) (fun c_1192 => ?_)
    refine lv_iconst (v := 0) hC.1 hC.2.1 dL_law_1195 (by decide) ?_
    refine lv_istore (lv' := [(22, .int 0), (21, .int (nI k)), (0, .ref b), (1, .ref x), (2, .int (nI R0)), (3, .int (nI (mnF M))), (4, .int (mlm M)), (5, .int (nI (mnB M))), (6, .ref (ar 0)), (7, .ref (ar 1)), (8, .ref (ar 2)), (9, .ref (ar 3)), (10, .ref (ar 4)), (11, .ref (ar 5)), (12, .ref (ar 6)), (13, .int (nI t))]) hC.1 hC.2.1 dL_law_1196 hl (by decide) rfl (fun ls hl => ?_)
    refine ec_loopC (n := k) 0 0 (fun j H locs ls => lv_has ls 28 [(22, .int (nI j)), (21, .int (nI k)), (0, .ref b), (1, .ref x), (2, .int (nI R0)), (3, .int (nI (mnF M))), (4, .int (mlm M)), (5, .int (nI (mnB M))), (6, .ref (ar 0)), (7, .ref (ar 1)), (8, .ref (ar 2)), (9, .ref (ar 3)), (10, .ref (ar 4)), (11, .ref (ar 5)), (12, .ref (ar 6)), (13, .int (nI t))] ∧ (lwW s G X x ar H locs M g ∧ AR M g) ∧ True) ⟨⟨hl.1, hl.2.1, (ec_lvc (lv_at hl 0 rfl) (ec_lvc (lv_at hl 1 rfl) (ec_lvc (lv_at hl 2 rfl) (ec_lvc (lv_at hl 3 rfl) (ec_lvc (lv_at hl 4 rfl) (ec_lvc (lv_at hl 5 rfl) (ec_lvc (lv_at hl 6 rfl) (ec_lvc (lv_at hl 7 rfl) (ec_lvc (lv_at hl 8 rfl) (ec_lvc (lv_at hl 9 rfl) (ec_lvc (lv_at hl 10 rfl) (ec_lvc (lv_at hl 11 rfl) (ec_lvc (lv_at hl 12 rfl) (ec_lvc (lv_at hl 13 rfl) (ec_lvc (lv_at hl 14 rfl) (ec_lvc (lv_at hl 15 rfl) ec_lvn))))))))))))))))⟩, ⟨I, hAR⟩, trivial⟩ (fun H locs ls h9 => ?_) (fun j H locs ls hj h9 hkj => ?_)
    · obtain ⟨hl, hW9, hI8⟩ := h9
      obtain ⟨I, hAR⟩ := hW9
      obtain ⟨hS, hXs, hEC, h5, z5, z6⟩ := id I
      have hW := hEC.wf
      have hn0 := hW.n
      refine lv_iload hC.1 hC.2.1 dL_law_1198 (lv_at hl 0 rfl) ?_
      refine lv_iload hC.1 hC.2.1 dL_law_1200 (lv_at hl 1 rfl) ?_
      refine lv_icmp_ge (tgt := 1335) hC.1 hC.2.1 dL_law_1202 (by decide) (fun c_1202 => ?_) (fun c => absurd (Int32.le_refl _) c)
      refine lv_iinc (v := (nI (k + 1))) (lv' := [(21, .int (nI (k + 1))), (22, .int (nI k)), (0, .ref b), (1, .ref x), (2, .int (nI R0)), (3, .int (nI (mnF M))), (4, .int (mlm M)), (5, .int (nI (mnB M))), (6, .ref (ar 0)), (7, .ref (ar 1)), (8, .ref (ar 2)), (9, .ref (ar 3)), (10, .ref (ar 4)), (11, .ref (ar 5)), (12, .ref (ar 6)), (13, .int (nI t))]) hC.1 hC.2.1 dL_law_1335 hl (k := 1) rfl (nI_1 _) (by decide) rfl (fun ls hl => ?_)
      refine lv_goto (tgt := 1188) hC.1 hC.2.1 dL_law_1338 (by decide) ?_
      exact W.widen (by omega) (by omega) (hkk H locs ls ⟨⟨hl.1, hl.2.1, (ec_lvc (lv_at hl 0 rfl) (ec_lvc (lv_at hl 2 rfl) (ec_lvc (lv_at hl 3 rfl) (ec_lvc (lv_at hl 4 rfl) (ec_lvc (lv_at hl 5 rfl) (ec_lvc (lv_at hl 6 rfl) (ec_lvc (lv_at hl 7 rfl) (ec_lvc (lv_at hl 8 rfl) (ec_lvc (lv_at hl 9 rfl) (ec_lvc (lv_at hl 10 rfl) (ec_lvc (lv_at hl 11 rfl) (ec_lvc (lv_at hl 12 rfl) (ec_lvc (lv_at hl 13 rfl) (ec_lvc (lv_at hl 14 rfl) (ec_lvc (lv_at hl 15 rfl) ec_lvn)))))))))))))))⟩, ⟨I, hAR⟩, trivial⟩)
    · obtain ⟨hl, hW9, hI8⟩ := h9
      obtain ⟨I, hAR⟩ := hW9
      obtain ⟨hS, hXs, hEC, h5, z5, z6⟩ := id I
      have hW := hEC.wf
      have hn0 := hW.n
      have hjB : j < mnB M := by omega
      refine lv_iload hC.1 hC.2.1 dL_law_1198 (lv_at hl 0 rfl) ?_
      refine lv_iload hC.1 hC.2.1 dL_law_1200 (lv_at hl 1 rfl) ?_
      refine lv_icmp_ge (tgt := 1335) hC.1 hC.2.1 dL_law_1202 (by decide) (fun c => absurd c (lt_n hj (by omega))) (fun c_1202 => ?_)
      refine lv_aload hC.1 hC.2.1 dL_law_1205 (lv_at hl 14 rfl) ?_
      refine lv_iload hC.1 hC.2.1 dL_law_1207 (lv_at hl 1 rfl) ?_
      refine ec_zald hC hK z6 k rfl (by omega) (by decide) dL_law_1209 ?_
      refine ec_topi (y := (nI (M.1 6 k))) (hAR.2 k) ?_
      refine lv_if_ne (tgt := 1329) hC.1 hC.2.1 dL_law_1210 (by decide) (fun c_1210 => ?_) (fun c_1210 => ?_)
      · refine lv_iinc (v := (nI (j + 1))) (lv' := [(22, .int (nI (j + 1))), (21, .int (nI k)), (0, .ref b), (1, .ref x), (2, .int (nI R0)), (3, .int (nI (mnF M))), (4, .int (mlm M)), (5, .int (nI (mnB M))), (6, .ref (ar 0)), (7, .ref (ar 1)), (8, .ref (ar 2)), (9, .ref (ar 3)), (10, .ref (ar 4)), (11, .ref (ar 5)), (12, .ref (ar 6)), (13, .int (nI t))]) hC.1 hC.2.1 dL_law_1329 hl (k := 0) rfl (nI_1 _) (by decide) rfl (fun ls hl => ?_)
        refine lv_goto (tgt := 1198) hC.1 hC.2.1 dL_law_1332 (by decide) ?_
        exact W.widen (by omega) (by omega) (hkj H locs ls ⟨⟨hl.1, hl.2.1, (ec_lvc (lv_at hl 0 rfl) (ec_lvc (lv_at hl 1 rfl) (ec_lvc (lv_at hl 2 rfl) (ec_lvc (lv_at hl 3 rfl) (ec_lvc (lv_at hl 4 rfl) (ec_lvc (lv_at hl 5 rfl) (ec_lvc (lv_at hl 6 rfl) (ec_lvc (lv_at hl 7 rfl) (ec_lvc (lv_at hl 8 rfl) (ec_lvc (lv_at hl 9 rfl) (ec_lvc (lv_at hl 10 rfl) (ec_lvc (lv_at hl 11 rfl) (ec_lvc (lv_at hl 12 rfl) (ec_lvc (lv_at hl 13 rfl) (ec_lvc (lv_at hl 14 rfl) (ec_lvc (lv_at hl 15 rfl) ec_lvn))))))))))))))))⟩, ⟨I, hAR⟩, trivial⟩)
      · refine lv_aload hC.1 hC.2.1 dL_law_1213 (lv_at hl 14 rfl) ?_
        refine lv_iload hC.1 hC.2.1 dL_law_1215 (lv_at hl 0 rfl) ?_
        refine ec_zald hC hK z6 j rfl (by omega) (by decide) dL_law_1217 ?_
        refine ec_topi (y := (nI (M.1 6 j))) (hAR.2 j) ?_
        refine lv_if_ne (tgt := 1329) hC.1 hC.2.1 dL_law_1218 (by decide) (fun c_1218 => ?_) (fun c_1218 => ?_)
        · refine lv_iinc (v := (nI (j + 1))) (lv' := [(22, .int (nI (j + 1))), (21, .int (nI k)), (0, .ref b), (1, .ref x), (2, .int (nI R0)), (3, .int (nI (mnF M))), (4, .int (mlm M)), (5, .int (nI (mnB M))), (6, .ref (ar 0)), (7, .ref (ar 1)), (8, .ref (ar 2)), (9, .ref (ar 3)), (10, .ref (ar 4)), (11, .ref (ar 5)), (12, .ref (ar 6)), (13, .int (nI t))]) hC.1 hC.2.1 dL_law_1329 hl (k := 0) rfl (nI_1 _) (by decide) rfl (fun ls hl => ?_)
          refine lv_goto (tgt := 1198) hC.1 hC.2.1 dL_law_1332 (by decide) ?_
          exact W.widen (by omega) (by omega) (hkj H locs ls ⟨⟨hl.1, hl.2.1, (ec_lvc (lv_at hl 0 rfl) (ec_lvc (lv_at hl 1 rfl) (ec_lvc (lv_at hl 2 rfl) (ec_lvc (lv_at hl 3 rfl) (ec_lvc (lv_at hl 4 rfl) (ec_lvc (lv_at hl 5 rfl) (ec_lvc (lv_at hl 6 rfl) (ec_lvc (lv_at hl 7 rfl) (ec_lvc (lv_at hl 8 rfl) (ec_lvc (lv_at hl 9 rfl) (ec_lvc (lv_at hl 10 rfl) (ec_lvc (lv_at hl 11 rfl) (ec_lvc (lv_at hl 12 rfl) (ec_lvc (lv_at hl 13 rfl) (ec_lvc (lv_at hl 14 rfl) (ec_lvc (lv_at hl 15 rfl) ec_lvn))))))))))))))))⟩, ⟨I, hAR⟩, trivial⟩)
        · refine lv_aload hC.1 hC.2.1 dL_law_1221 (lv_at hl 10 rfl) ?_
          refine lv_iload hC.1 hC.2.1 dL_law_1223 (lv_at hl 1 rfl) ?_
          refine ec_iald hC hK (h5 2 (by decide)) k rfl (by omega) (by decide) dL_law_1225 ?_
          refine ec_topi (y := (nI (M.1 4 k))) (hAR.1 k hk).2.2.1 ?_
          refine lv_aload hC.1 hC.2.1 dL_law_1226 (lv_at hl 10 rfl) ?_
          refine lv_iload hC.1 hC.2.1 dL_law_1228 (lv_at hl 0 rfl) ?_
          refine ec_iald hC hK (h5 2 (by decide)) j rfl (by omega) (by decide) dL_law_1230 ?_
          refine ec_topi (y := (nI (M.1 4 j))) (hAR.1 j hjB).2.2.1 ?_
          refine lv_icmp_eq (tgt := 1237) hC.1 hC.2.1 dL_law_1231 (by decide) (fun c_1231 => ?_) (fun c_1231 => ?_)
          · refine lv_aload hC.1 hC.2.1 dL_law_1237 (lv_at hl 11 rfl) ?_
            refine lv_iload hC.1 hC.2.1 dL_law_1239 (lv_at hl 1 rfl) ?_
            refine ec_iald hC hK (h5 3 (by decide)) k rfl (by omega) (by decide) dL_law_1241 ?_
            refine ec_topi (y := (nI (M.1 5 k / 20))) (hAR.1 k hk).2.2.2.1 ?_
            refine lv_aload hC.1 hC.2.1 dL_law_1242 (lv_at hl 11 rfl) ?_
            refine lv_iload hC.1 hC.2.1 dL_law_1244 (lv_at hl 0 rfl) ?_
            refine ec_iald hC hK (h5 3 (by decide)) j rfl (by omega) (by decide) dL_law_1246 ?_
            refine ec_topi (y := (nI (M.1 5 j / 20))) (hAR.1 j hjB).2.2.2.1 ?_
            refine lw_ne hC dL_law_1247 dL_law_1250 dL_law_1251 dL_law_1254 ?_
            refine lv_aload hC.1 hC.2.1 dL_law_1255 (lv_at hl 12 rfl) ?_
            refine lv_iload hC.1 hC.2.1 dL_law_1257 (lv_at hl 1 rfl) ?_
            refine ec_iald hC hK (h5 4 (by decide)) k rfl (by omega) (by decide) dL_law_1259 ?_
            refine ec_topi (y := (nI (M.1 5 k % 20 / 2))) (hAR.1 k hk).2.2.2.2.1 ?_
            refine lv_aload hC.1 hC.2.1 dL_law_1260 (lv_at hl 12 rfl) ?_
            refine lv_iload hC.1 hC.2.1 dL_law_1262 (lv_at hl 0 rfl) ?_
            refine ec_iald hC hK (h5 4 (by decide)) j rfl (by omega) (by decide) dL_law_1264 ?_
            refine ec_topi (y := (nI (M.1 5 j % 20 / 2))) (hAR.1 j hjB).2.2.2.2.1 ?_
            refine lw_ne hC dL_law_1265 dL_law_1268 dL_law_1269 dL_law_1272 ?_
            refine lv_iadd hC.1 hC.2.1 dL_law_1273 ?_
            refine lv_aload hC.1 hC.2.1 dL_law_1274 (lv_at hl 13 rfl) ?_
            refine lv_iload hC.1 hC.2.1 dL_law_1276 (lv_at hl 1 rfl) ?_
            refine ec_zald hC hK z5 k rfl (by omega) (by decide) dL_law_1278 ?_
            refine ec_topi (y := (nI (M.1 5 k % 2))) (hAR.1 k hk).2.2.2.2.2 ?_
            refine lv_aload hC.1 hC.2.1 dL_law_1279 (lv_at hl 13 rfl) ?_
            refine lv_iload hC.1 hC.2.1 dL_law_1281 (lv_at hl 0 rfl) ?_
            refine ec_zald hC hK z5 j rfl (by omega) (by decide) dL_law_1283 ?_
            refine ec_topi (y := (nI (M.1 5 j % 2))) (hAR.1 j hjB).2.2.2.2.2 ?_
            refine lw_ne hC dL_law_1284 dL_law_1287 dL_law_1288 dL_law_1291 ?_
            refine lv_iadd hC.1 hC.2.1 dL_law_1292 ?_
            refine ec_topi (y := (nI (dif (M.1 5 k) (M.1 5 j)))) (prt_2 (hW.bk hk).2.1 (hW.bk hjB).2.1) ?_
            refine lv_istore (lv' := [(23, .int (nI (dif (M.1 5 k) (M.1 5 j)))), (22, .int (nI j)), (21, .int (nI k)), (0, .ref b), (1, .ref x), (2, .int (nI R0)), (3, .int (nI (mnF M))), (4, .int (mlm M)), (5, .int (nI (mnB M))), (6, .ref (ar 0)), (7, .ref (ar 1)), (8, .ref (ar 2)), (9, .ref (ar 3)), (10, .ref (ar 4)), (11, .ref (ar 5)), (12, .ref (ar 6)), (13, .int (nI t))]) hC.1 hC.2.1 dL_law_1293 hl (by decide) rfl (fun ls hl => ?_)
            refine lv_aload hC.1 hC.2.1 dL_law_1295 (lv_at hl 9 rfl) ?_
            refine lv_iload hC.1 hC.2.1 dL_law_1297 (lv_at hl 2 rfl) ?_
            refine ec_iald hC hK (h5 0 (by decide)) k rfl (by omega) (by decide) dL_law_1299 ?_
            refine ec_topi (y := (M.2.1 7 k)) (hAR.1 k hk).1 ?_
            refine lv_aload hC.1 hC.2.1 dL_law_1300 (lv_at hl 10 rfl) ?_
            refine lv_iload hC.1 hC.2.1 dL_law_1302 (lv_at hl 1 rfl) ?_
            refine ec_iald hC hK (h5 1 (by decide)) j rfl (by omega) (by decide) dL_law_1304 ?_
            refine ec_topi (y := (M.2.1 8 j)) (hAR.1 j hjB).2.1 ?_
            refine lv_isub hC.1 hC.2.1 dL_law_1305 ?_
            refine lv_iload hC.1 hC.2.1 dL_law_1306 (lv_at hl 0 rfl) ?_
            refine lv_icmp_gt (tgt := 1329) hC.1 hC.2.1 dL_law_1308 (by decide) (fun c_1308 => ?_) (fun c_1308 => ?_)
            · refine lv_iinc (v := (nI (j + 1))) (lv' := [(22, .int (nI (j + 1))), (23, .int (nI (dif (M.1 5 k) (M.1 5 j)))), (21, .int (nI k)), (0, .ref b), (1, .ref x), (2, .int (nI R0)), (3, .int (nI (mnF M))), (4, .int (mlm M)), (5, .int (nI (mnB M))), (6, .ref (ar 0)), (7, .ref (ar 1)), (8, .ref (ar 2)), (9, .ref (ar 3)), (10, .ref (ar 4)), (11, .ref (ar 5)), (12, .ref (ar 6)), (13, .int (nI t))]) hC.1 hC.2.1 dL_law_1329 hl (k := 1) rfl (nI_1 _) (by decide) rfl (fun ls hl => ?_)
              refine lv_goto (tgt := 1198) hC.1 hC.2.1 dL_law_1332 (by decide) ?_
              exact W.widen (by omega) (by omega) (hkj H locs ls ⟨⟨hl.1, hl.2.1, (ec_lvc (lv_at hl 0 rfl) (ec_lvc (lv_at hl 2 rfl) (ec_lvc (lv_at hl 3 rfl) (ec_lvc (lv_at hl 4 rfl) (ec_lvc (lv_at hl 5 rfl) (ec_lvc (lv_at hl 6 rfl) (ec_lvc (lv_at hl 7 rfl) (ec_lvc (lv_at hl 8 rfl) (ec_lvc (lv_at hl 9 rfl) (ec_lvc (lv_at hl 10 rfl) (ec_lvc (lv_at hl 11 rfl) (ec_lvc (lv_at hl 12 rfl) (ec_lvc (lv_at hl 13 rfl) (ec_lvc (lv_at hl 14 rfl) (ec_lvc (lv_at hl 15 rfl) (ec_lvc (lv_at hl 16 rfl) ec_lvn))))))))))))))))⟩, ⟨I, hAR⟩, trivial⟩)
            · refine lv_aload hC.1 hC.2.1 dL_law_1311 (lv_at hl 9 rfl) ?_
              refine lv_iload hC.1 hC.2.1 dL_law_1313 (lv_at hl 1 rfl) ?_
              refine ec_iald hC hK (h5 0 (by decide)) j rfl (by omega) (by decide) dL_law_1315 ?_
              refine ec_topi (y := (M.2.1 7 j)) (hAR.1 j hjB).1 ?_
              refine lv_aload hC.1 hC.2.1 dL_law_1316 (lv_at hl 10 rfl) ?_
              refine lv_iload hC.1 hC.2.1 dL_law_1318 (lv_at hl 2 rfl) ?_
              refine ec_iald hC hK (h5 1 (by decide)) k rfl (by omega) (by decide) dL_law_1320 ?_
              refine ec_topi (y := (M.2.1 8 k)) (hAR.1 k hk).2.1 ?_
              refine lv_isub hC.1 hC.2.1 dL_law_1321 ?_
              refine lv_iload hC.1 hC.2.1 dL_law_1322 (lv_at hl 0 rfl) ?_
              refine lv_icmp_gt (tgt := 1329) hC.1 hC.2.1 dL_law_1324 (by decide) (fun c_1324 => ?_) (fun c => absurd (nc_x hP hk hj ((nI_eq (b := 0) (by have := hW.gn k; omega) (by decide)).mp c_1210) ((nI_eq (b := 0) (by have := hW.gn j; omega) (by decide)).mp c_1218) ((nI_eq (by have := (hW.bk hk).1; omega) (by have := (hW.bk hjB).1; omega)).mp c_1231) c_1308) c)
              refine lv_iinc (v := (nI (j + 1))) (lv' := [(22, .int (nI (j + 1))), (23, .int (nI (dif (M.1 5 k) (M.1 5 j)))), (21, .int (nI k)), (0, .ref b), (1, .ref x), (2, .int (nI R0)), (3, .int (nI (mnF M))), (4, .int (mlm M)), (5, .int (nI (mnB M))), (6, .ref (ar 0)), (7, .ref (ar 1)), (8, .ref (ar 2)), (9, .ref (ar 3)), (10, .ref (ar 4)), (11, .ref (ar 5)), (12, .ref (ar 6)), (13, .int (nI t))]) hC.1 hC.2.1 dL_law_1329 hl (k := 1) rfl (nI_1 _) (by decide) rfl (fun ls hl => ?_)
              refine lv_goto (tgt := 1198) hC.1 hC.2.1 dL_law_1332 (by decide) ?_
              exact W.widen (by omega) (by omega) (hkj H locs ls ⟨⟨hl.1, hl.2.1, (ec_lvc (lv_at hl 0 rfl) (ec_lvc (lv_at hl 2 rfl) (ec_lvc (lv_at hl 3 rfl) (ec_lvc (lv_at hl 4 rfl) (ec_lvc (lv_at hl 5 rfl) (ec_lvc (lv_at hl 6 rfl) (ec_lvc (lv_at hl 7 rfl) (ec_lvc (lv_at hl 8 rfl) (ec_lvc (lv_at hl 9 rfl) (ec_lvc (lv_at hl 10 rfl) (ec_lvc (lv_at hl 11 rfl) (ec_lvc (lv_at hl 12 rfl) (ec_lvc (lv_at hl 13 rfl) (ec_lvc (lv_at hl 14 rfl) (ec_lvc (lv_at hl 15 rfl) (ec_lvc (lv_at hl 16 rfl) ec_lvn))))))))))))))))⟩, ⟨I, hAR⟩, trivial⟩)
          · refine lv_goto (tgt := 1329) hC.1 hC.2.1 dL_law_1234 (by decide) ?_
            refine lv_iinc (v := (nI (j + 1))) (lv' := [(22, .int (nI (j + 1))), (21, .int (nI k)), (0, .ref b), (1, .ref x), (2, .int (nI R0)), (3, .int (nI (mnF M))), (4, .int (mlm M)), (5, .int (nI (mnB M))), (6, .ref (ar 0)), (7, .ref (ar 1)), (8, .ref (ar 2)), (9, .ref (ar 3)), (10, .ref (ar 4)), (11, .ref (ar 5)), (12, .ref (ar 6)), (13, .int (nI t))]) hC.1 hC.2.1 dL_law_1329 hl (k := 0) rfl (nI_1 _) (by decide) rfl (fun ls hl => ?_)
            refine lv_goto (tgt := 1198) hC.1 hC.2.1 dL_law_1332 (by decide) ?_
            exact W.widen (by omega) (by omega) (hkj H locs ls ⟨⟨hl.1, hl.2.1, (ec_lvc (lv_at hl 0 rfl) (ec_lvc (lv_at hl 1 rfl) (ec_lvc (lv_at hl 2 rfl) (ec_lvc (lv_at hl 3 rfl) (ec_lvc (lv_at hl 4 rfl) (ec_lvc (lv_at hl 5 rfl) (ec_lvc (lv_at hl 6 rfl) (ec_lvc (lv_at hl 7 rfl) (ec_lvc (lv_at hl 8 rfl) (ec_lvc (lv_at hl 9 rfl) (ec_lvc (lv_at hl 10 rfl) (ec_lvc (lv_at hl 11 rfl) (ec_lvc (lv_at hl 12 rfl) (ec_lvc (lv_at hl 13 rfl) (ec_lvc (lv_at hl 14 rfl) (ec_lvc (lv_at hl 15 rfl) ec_lvn))))))))))))))))⟩, ⟨I, hAR⟩, trivial⟩)
