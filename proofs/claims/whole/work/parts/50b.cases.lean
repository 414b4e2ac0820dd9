set_option maxHeartbeats 4000000 in
set_option maxRecDepth 100000 in
/-- case 10: statesMeasured -/
theorem lw_c10 {p : Program} {l : Launch} {e : Env} {s : State} {m : MethodId} {below : List Frame} {meth : Method} {c : Code} {G : ecG} {X Y : Nat → Prop} {b L x y zo zd i : Nat} {ya : Nat → Nat} {xs : Nat → Int32} {H : Heap} {locs : List Loc} {M : ecM} {th : Int32} {f : Nat → Int64} {fd : Nat → UInt64} {ls : Array Slot} {cells slots : Nat} {Q : State → Prop} (F : lwF p l s m c G X Y b L xs zo zd) (I : lwI s G X Y x y zo zd ya H locs M M th f fd) (hi : i + 7 ≤ L) (hl : lv_has ls 9 (lwL b x y zo zd i)) (hc : cells + 8 ≤ room_1.cells) (hs : slots + 150 ≤ room_1.slots) (kk : ∀ (H : Heap) (locs : List Loc) (M : ecM) (th : Int32) (f : Nat → Int64) (fd : Nat → UInt64) (ls : Array Slot), lwI s G X Y x y zo zd ya H locs M M th f fd → lv_has ls 9 (lwL b x y zo zd i) → W p l e room_1 s m #[Value.ref b] below meth c H locs (cells + 8) (slots + 150) Q (F0 m 2146 ls [])) : W p l e room_1 s m #[Value.ref b] below meth c H locs cells slots Q (F0 m 925 ls []) := by
  obtain ⟨hC, hls, hOk, hX, hbl, hL, hAN, hXA, hYA, hoA, hdA, hYX, hXo, hXd, hYo, hYd, hdo⟩ := id F
  have hK := hOk.1
  have hY : ∀ q, Y q → ecN0 G ≤ q := fun q h => hAN q (hYA q h)
  have hwf := I.2.2.1.wf
  obtain ⟨hS, hXs, hEC, hx, hz, hzd⟩ := id I
  have hl : lv_has ls 9 [(0, .ref b), (1, .ref x), (2, .ref y), (3, .ref zo), (4, .ref zd), (5, .int (nI i))] := hl
  refine lv_aload_n hC.1 hC.2.1 dL_law_925 rfl (lv_at hl 1 rfl) ?_
  refine lv_aload_n hC.1 hC.2.1 dL_law_926 rfl (lv_at hl 0 rfl) ?_
  refine lv_iload hC.1 hC.2.1 dL_law_927 (lv_at hl 5 rfl) ?_
  refine lv_iconst (v := 1) hC.1 hC.2.1 dL_law_929 (by decide) ?_
  refine lv_iadd hC.1 hC.2.1 dL_law_930 ?_
  refine lw_ld hC hX hbl hS hL (i + 1) (nI_add i 1) (by omega) dL_law_931 ?_
  refine lv_aload_n hC.1 hC.2.1 dL_law_932 rfl (lv_at hl 3 rfl) ?_
  refine ec_goXE1 (ec_xSH hC (c_L_statesMeasured l hls G X M x zo f hXo (hAN _ hoA) (xs (i + 1))) kL_157 (hOk.at hS hAN) ⟨hXs, hEC, hz⟩ hl.1 ⟨Nat.le_of_ble_eq_true rfl, Nat.le_of_ble_eq_true rfl⟩ rfl (Nat.le_of_ble_eq_true rfl) dL_law_933 ⟨hc, hs⟩) hS (fun q h => h.elim (hXA q) (fun h => by rw [h]; exact hoA)) (fun _ _ _ _ _ hx9 => hx9.elim) (fun H locs hp hzs hk1 hS => ?_)
  obtain ⟨hEC, f, hz, hf⟩ := hp
  rw [ite_self] at hEC
  have I := I.hlp F hS hzs hk1 hEC hz
  obtain ⟨hS, hXs, hEC, hx, hz, hzd⟩ := id I
  refine lv_istore (lv' := [(6, .int (nI (thR M (xs (i + 1))))), (0, .ref b), (1, .ref x), (2, .ref y), (3, .ref zo), (4, .ref zd), (5, .int (nI i))]) hC.1 hC.2.1 dL_law_936 hl (by decide) rfl (fun ls hl => ?_)
  refine lv_aload_n hC.1 hC.2.1 dL_law_938 rfl (lv_at hl 3 rfl) ?_
  refine lv_aload_n hC.1 hC.2.1 dL_law_939 rfl (lv_at hl 1 rfl) ?_
  refine lv_iload hC.1 hC.2.1 dL_law_940 (lv_at hl 6 rfl) ?_
  refine lv_iconst (v := 1) hC.1 hC.2.1 dL_law_942 (by decide) ?_
  refine lv_iadd hC.1 hC.2.1 dL_law_943 ?_
  refine lw_ld hC hX hbl hS hL (i + 1) (nI_add i 1) (by omega) dL_law_944 ?_
  refine ec_goEi (ec_rV hC (c_X6_statesMeasured l G Y M th y ya hY hwf (xs (i + 1))) kL_159 (hOk.at hS hAN) hx (ec_rc hK hx.1 ⟨_, _, rfl⟩) hl.1 ⟨Nat.le_of_ble_eq_true rfl, Nat.le_of_ble_eq_true rfl⟩ rfl (Nat.le_of_ble_eq_true rfl) dL_law_945 ⟨hc, hs⟩) hS hYA (fun w H locs hp hzs hk1 hS => ?_)
  obtain ⟨hw, hp⟩ := hp
  have I := I.mod F hS hzs hk1 hp
  obtain ⟨hS, hXs, hEC, hx, hz, hzd⟩ := id I
  refine lv_istore (lv' := [(7, .int w), (6, .int (nI (thR M (xs (i + 1))))), (0, .ref b), (1, .ref x), (2, .ref y), (3, .ref zo), (4, .ref zd), (5, .int (nI i))]) hC.1 hC.2.1 dL_law_948 hl (by decide) rfl (fun ls hl => ?_)
  refine lv_aload_n hC.1 hC.2.1 dL_law_950 rfl (lv_at hl 4 rfl) ?_
  refine ec_go1 (ec_rV hC (c_X6_thrown l G Y _ _ y ya) kL_122 (hOk.at hS hAN) hx (ec_rc hK hx.1 ⟨_, _, rfl⟩) hl.1 ⟨Nat.le_of_ble_eq_true rfl, Nat.le_of_ble_eq_true rfl⟩ rfl (Nat.le_of_ble_eq_true rfl) dL_law_951 ⟨hc, hs⟩) ?_
  refine lv_iload hC.1 hC.2.1 dL_law_954 (lv_at hl 1 rfl) ?_
  refine lv_icmp_eq (tgt := 961) hC.1 hC.2.1 dL_law_956 (by decide) (fun c_956 => ?_) (fun c => absurd rfl c)
  refine lv_iload hC.1 hC.2.1 dL_law_961 (lv_at hl 1 rfl) ?_
  refine lv_if_ne (tgt := 978) hC.1 hC.2.1 dL_law_963 (by decide) (fun c_963 => ?_) (fun c_963 => ?_)
  · refine lv_goto (tgt := 2146) hC.1 hC.2.1 dL_law_978 (by decide) ?_
    exact kk _ _ _ _ _ _ _ I (lv_sub hl [2, 3, 4, 5, 6, 7] rfl)
  · refine lv_aload_n hC.1 hC.2.1 dL_law_966 rfl (lv_at hl 5 rfl) ?_
    refine lv_iconst (v := 0) hC.1 hC.2.1 dL_law_967 (by decide) ?_
    have hT : thR M (xs (i + 1)) = 0 := (nI_eq (b := 0) (by first | exact thR_lt _ | exact thR_lt _ _ | exact thR_lt _ _ _ | exact thR_lt _ _ _ _ | exact thR_lt _ _ _ _ _ | exact thR_lt _ _ _ _ _ _ | exact thR_lt _ _ _ _ _ _ _) (by decide)).mp c_963
    have hf := hf hT
    have hw := hw hT
    subst hw
    have hl : lv_has ls 9 [(7, .int (nI (smN M (cN (xs (i + 1))) (mnA M)))), (6, .int (nI (thR M (xs (i + 1))))), (0, .ref b), (1, .ref x), (2, .ref y), (3, .ref zo), (4, .ref zd), (5, .int (nI i))] := hl
    refine ec_lald hC hK hz 0 rfl (by decide) (by decide) dL_law_968 ?_
    refine lv_iload hC.1 hC.2.1 dL_law_969 (lv_at hl 0 rfl) ?_
    refine lv_i2l hC.1 hC.2.1 dL_law_971 rfl ?_
    refine W.lcmp hC.1 hC.2.1 dL_law_972 ?_
    refine lv_if_eq (tgt := 978) hC.1 hC.2.1 dL_law_973 (by decide) (fun c_973 => ?_) (fun c => absurd ((ec_cm0 _ _).mpr hf) c)
    refine lv_goto (tgt := 2146) hC.1 hC.2.1 dL_law_978 (by decide) ?_
    exact kk _ _ _ _ _ _ _ I (lv_sub hl [2, 3, 4, 5, 6, 7] rfl)

set_option maxHeartbeats 4000000 in
set_option maxRecDepth 100000 in
/-- case 11: answers -/
theorem lw_c11 {p : Program} {l : Launch} {e : Env} {s : State} {m : MethodId} {below : List Frame} {meth : Method} {c : Code} {G : ecG} {X Y : Nat → Prop} {b L x y zo zd i : Nat} {ya : Nat → Nat} {xs : Nat → Int32} {H : Heap} {locs : List Loc} {M : ecM} {th : Int32} {f : Nat → Int64} {fd : Nat → UInt64} {ls : Array Slot} {cells slots : Nat} {Q : State → Prop} (F : lwF p l s m c G X Y b L xs zo zd) (I : lwI s G X Y x y zo zd ya H locs M M th f fd) (hi : i + 7 ≤ L) (hl : lv_has ls 9 (lwL b x y zo zd i)) (hc : cells + 8 ≤ room_1.cells) (hs : slots + 150 ≤ room_1.slots) (kk : ∀ (H : Heap) (locs : List Loc) (M : ecM) (th : Int32) (f : Nat → Int64) (fd : Nat → UInt64) (ls : Array Slot), lwI s G X Y x y zo zd ya H locs M M th f fd → lv_has ls 9 (lwL b x y zo zd i) → W p l e room_1 s m #[Value.ref b] below meth c H locs (cells + 8) (slots + 150) Q (F0 m 2146 ls [])) : W p l e room_1 s m #[Value.ref b] below meth c H locs cells slots Q (F0 m 981 ls []) := by
  obtain ⟨hC, hls, hOk, hX, hbl, hL, hAN, hXA, hYA, hoA, hdA, hYX, hXo, hXd, hYo, hYd, hdo⟩ := id F
  have hK := hOk.1
  have hY : ∀ q, Y q → ecN0 G ≤ q := fun q h => hAN q (hYA q h)
  have hwf := I.2.2.1.wf
  obtain ⟨hS, hXs, hEC, hx, hz, hzd⟩ := id I
  have hl : lv_has ls 9 [(0, .ref b), (1, .ref x), (2, .ref y), (3, .ref zo), (4, .ref zd), (5, .int (nI i))] := hl
  refine lv_aload_n hC.1 hC.2.1 dL_law_981 rfl (lv_at hl 1 rfl) ?_
  have hlab : ∃ fs, ecA G x (eO 5 fs) H := by obtain ⟨tg9, ad9, hx9, hw9⟩ := hEC; exact ⟨_, hx9 ▸ hw9.1.1⟩
  obtain ⟨fs9, hlab⟩ := hlab
  refine ec_go1 (ec_rV hC (c_X5_answers l G X M x) kL_160 (hOk.at hS hAN) hEC (ec_rc hK hlab ⟨_, _, rfl⟩) hl.1 ⟨Nat.le_of_ble_eq_true rfl, Nat.le_of_ble_eq_true rfl⟩ rfl (Nat.le_of_ble_eq_true rfl) dL_law_982 ⟨Nat.le_trans (Nat.le_add_right cells 8) hc, Nat.le_trans (Nat.le_add_right slots 150) hs⟩) ?_
  refine lv_aload_n hC.1 hC.2.1 dL_law_985 rfl (lv_at hl 2 rfl) ?_
  refine ec_goE1 (ec_rV hC (c_X6_answers l G Y M th y ya hY hwf) kL_163 (hOk.at hS hAN) hx (ec_rc hK hx.1 ⟨_, _, rfl⟩) hl.1 ⟨Nat.le_of_ble_eq_true rfl, Nat.le_of_ble_eq_true rfl⟩ rfl (Nat.le_of_ble_eq_true rfl) dL_law_986 ⟨Nat.le_trans (Nat.le_add_right cells 8) hc, Nat.le_trans (Nat.le_add_right slots 150) hs⟩) hS hYA (fun H locs hp hzs hk1 hS => ?_)
  have I := I.mod F hS hzs hk1 hp
  obtain ⟨hS, hXs, hEC, hx, hz, hzd⟩ := id I
  refine lv_icmp_eq (tgt := 2146) hC.1 hC.2.1 dL_law_989 (by decide) (fun c_989 => ?_) (fun c => absurd rfl c)
  refine W.widen (k := cells + 8) (n := slots + 150) (show cells ≤ cells + 8 from Nat.le_add_right _ _) (show slots ≤ slots + 150 from Nat.le_add_right _ _) ?_
  exact kk _ _ _ _ _ _ _ I (lv_sub hl [0, 1, 2, 3, 4, 5] rfl)

set_option maxHeartbeats 4000000 in
set_option maxRecDepth 100000 in
/-- case 12: makeFilter -/
theorem lw_c12 {p : Program} {l : Launch} {e : Env} {s : State} {m : MethodId} {below : List Frame} {meth : Method} {c : Code} {G : ecG} {X Y : Nat → Prop} {b L x y zo zd i : Nat} {ya : Nat → Nat} {xs : Nat → Int32} {H : Heap} {locs : List Loc} {M : ecM} {th : Int32} {f : Nat → Int64} {fd : Nat → UInt64} {ls : Array Slot} {cells slots : Nat} {Q : State → Prop} (F : lwF p l s m c G X Y b L xs zo zd) (I : lwI s G X Y x y zo zd ya H locs M M th f fd) (hi : i + 7 ≤ L) (hl : lv_has ls 9 (lwL b x y zo zd i)) (hc : cells + 8 ≤ room_1.cells) (hs : slots + 150 ≤ room_1.slots) (kk : ∀ (H : Heap) (locs : List Loc) (M : ecM) (th : Int32) (f : Nat → Int64) (fd : Nat → UInt64) (ls : Array Slot), lwI s G X Y x y zo zd ya H locs M M th f fd → lv_has ls 9 (lwL b x y zo zd i) → W p l e room_1 s m #[Value.ref b] below meth c H locs (cells + 8) (slots + 150) Q (F0 m 2146 ls [])) : W p l e room_1 s m #[Value.ref b] below meth c H locs cells slots Q (F0 m 994 ls []) := by
  obtain ⟨hC, hls, hOk, hX, hbl, hL, hAN, hXA, hYA, hoA, hdA, hYX, hXo, hXd, hYo, hYd, hdo⟩ := id F
  have hK := hOk.1
  have hY : ∀ q, Y q → ecN0 G ≤ q := fun q h => hAN q (hYA q h)
  have hwf := I.2.2.1.wf
  obtain ⟨hS, hXs, hEC, hx, hz, hzd⟩ := id I
  have hl : lv_has ls 9 [(0, .ref b), (1, .ref x), (2, .ref y), (3, .ref zo), (4, .ref zd), (5, .int (nI i))] := hl
  refine lv_aload_n hC.1 hC.2.1 dL_law_994 rfl (lv_at hl 1 rfl) ?_
  refine lv_aload_n hC.1 hC.2.1 dL_law_995 rfl (lv_at hl 0 rfl) ?_
  refine lv_iload hC.1 hC.2.1 dL_law_996 (lv_at hl 5 rfl) ?_
  refine lv_iconst (v := 1) hC.1 hC.2.1 dL_law_998 (by decide) ?_
  refine lv_iadd hC.1 hC.2.1 dL_law_999 ?_
  refine lw_ld hC hX hbl hS hL (i + 1) (nI_add i 1) (by omega) dL_law_1000 ?_
  refine lv_aload_n hC.1 hC.2.1 dL_law_1001 rfl (lv_at hl 3 rfl) ?_
  refine ec_goXE1 (ec_xSH hC (c_L_makeFilter l hls G X M x zo f hXo (hAN _ hoA) (xs (i + 1))) kL_164 (hOk.at hS hAN) ⟨hXs, hEC, hz⟩ hl.1 ⟨Nat.le_of_ble_eq_true rfl, Nat.le_of_ble_eq_true rfl⟩ rfl (Nat.le_of_ble_eq_true rfl) dL_law_1002 ⟨hc, hs⟩) hS (fun q h => h.elim (hXA q) (fun h => by rw [h]; exact hoA)) (fun _ _ _ _ _ hx9 => hx9.elim) (fun H locs hp hzs hk1 hS => ?_)
  obtain ⟨hEC, f, hz, hf⟩ := hp
  have I := I.hlp F hS hzs hk1 hEC hz
  obtain ⟨hS, hXs, hEC, hx, hz, hzd⟩ := id I
  refine lv_istore (lv' := [(6, .int (nI (thMak M (xs (i + 1))))), (0, .ref b), (1, .ref x), (2, .ref y), (3, .ref zo), (4, .ref zd), (5, .int (nI i))]) hC.1 hC.2.1 dL_law_1005 hl (by decide) rfl (fun ls hl => ?_)
  refine lv_aload_n hC.1 hC.2.1 dL_law_1007 rfl (lv_at hl 3 rfl) ?_
  refine lv_aload_n hC.1 hC.2.1 dL_law_1008 rfl (lv_at hl 1 rfl) ?_
  refine lv_iload hC.1 hC.2.1 dL_law_1009 (lv_at hl 6 rfl) ?_
  refine lv_iconst (v := 1) hC.1 hC.2.1 dL_law_1011 (by decide) ?_
  refine lv_iadd hC.1 hC.2.1 dL_law_1012 ?_
  refine lw_ld hC hX hbl hS hL (i + 1) (nI_add i 1) (by omega) dL_law_1013 ?_
  refine ec_goEi (ec_rV hC (c_X6_makeFilter l G Y M th y ya hY hwf (xs (i + 1))) kL_166 (hOk.at hS hAN) hx (ec_rc hK hx.1 ⟨_, _, rfl⟩) hl.1 ⟨Nat.le_of_ble_eq_true rfl, Nat.le_of_ble_eq_true rfl⟩ rfl (Nat.le_of_ble_eq_true rfl) dL_law_1014 ⟨hc, hs⟩) hS hYA (fun w H locs hp hzs hk1 hS => ?_)
  obtain ⟨hw, hp⟩ := hp
  have I := I.mod F hS hzs hk1 hp
  obtain ⟨hS, hXs, hEC, hx, hz, hzd⟩ := id I
  refine lv_istore (lv' := [(7, .int w), (6, .int (nI (thMak M (xs (i + 1))))), (0, .ref b), (1, .ref x), (2, .ref y), (3, .ref zo), (4, .ref zd), (5, .int (nI i))]) hC.1 hC.2.1 dL_law_1017 hl (by decide) rfl (fun ls hl => ?_)
  refine lv_aload_n hC.1 hC.2.1 dL_law_1019 rfl (lv_at hl 4 rfl) ?_
  refine ec_go1 (ec_rV hC (c_X6_thrown l G Y _ _ y ya) kL_122 (hOk.at hS hAN) hx (ec_rc hK hx.1 ⟨_, _, rfl⟩) hl.1 ⟨Nat.le_of_ble_eq_true rfl, Nat.le_of_ble_eq_true rfl⟩ rfl (Nat.le_of_ble_eq_true rfl) dL_law_1020 ⟨hc, hs⟩) ?_
  refine lv_iload hC.1 hC.2.1 dL_law_1023 (lv_at hl 1 rfl) ?_
  refine lv_icmp_eq (tgt := 1030) hC.1 hC.2.1 dL_law_1025 (by decide) (fun c_1025 => ?_) (fun c => absurd rfl c)
  refine lv_iload hC.1 hC.2.1 dL_law_1030 (lv_at hl 1 rfl) ?_
  refine lv_if_ne (tgt := 1047) hC.1 hC.2.1 dL_law_1032 (by decide) (fun c_1032 => ?_) (fun c_1032 => ?_)
  · refine lv_goto (tgt := 2146) hC.1 hC.2.1 dL_law_1047 (by decide) ?_
    exact kk _ _ _ _ _ _ _ I (lv_sub hl [2, 3, 4, 5, 6, 7] rfl)
  · refine lv_aload_n hC.1 hC.2.1 dL_law_1035 rfl (lv_at hl 5 rfl) ?_
    refine lv_iconst (v := 0) hC.1 hC.2.1 dL_law_1036 (by decide) ?_
    have hT : thMak M (xs (i + 1)) = 0 := (nI_eq (b := 0) (by first | exact thMak_lt _ | exact thMak_lt _ _ | exact thMak_lt _ _ _ | exact thMak_lt _ _ _ _ | exact thMak_lt _ _ _ _ _ | exact thMak_lt _ _ _ _ _ _ | exact thMak_lt _ _ _ _ _ _ _) (by decide)).mp c_1032
    have hf := hf hT
    have hw := hw hT
    subst hw
    have hl : lv_has ls 9 [(7, .int (nI (mnF M))), (6, .int (nI (thMak M (xs (i + 1))))), (0, .ref b), (1, .ref x), (2, .ref y), (3, .ref zo), (4, .ref zd), (5, .int (nI i))] := hl
    refine ec_lald hC hK hz 0 rfl (by decide) (by decide) dL_law_1037 ?_
    refine lv_iload hC.1 hC.2.1 dL_law_1038 (lv_at hl 0 rfl) ?_
    refine lv_i2l hC.1 hC.2.1 dL_law_1040 rfl ?_
    refine W.lcmp hC.1 hC.2.1 dL_law_1041 ?_
    refine lv_if_eq (tgt := 1047) hC.1 hC.2.1 dL_law_1042 (by decide) (fun c_1042 => ?_) (fun c => absurd ((ec_cm0 _ _).mpr hf) c)
    refine lv_goto (tgt := 2146) hC.1 hC.2.1 dL_law_1047 (by decide) ?_
    exact kk _ _ _ _ _ _ _ I (lv_sub hl [2, 3, 4, 5, 6, 7] rfl)

set_option maxHeartbeats 4000000 in
set_option maxRecDepth 100000 in
/-- case 13: answerOf -/
theorem lw_c13 {p : Program} {l : Launch} {e : Env} {s : State} {m : MethodId} {below : List Frame} {meth : Method} {c : Code} {G : ecG} {X Y : Nat → Prop} {b L x y zo zd i : Nat} {ya : Nat → Nat} {xs : Nat → Int32} {H : Heap} {locs : List Loc} {M : ecM} {th : Int32} {f : Nat → Int64} {fd : Nat → UInt64} {ls : Array Slot} {cells slots : Nat} {Q : State → Prop} (F : lwF p l s m c G X Y b L xs zo zd) (I : lwI s G X Y x y zo zd ya H locs M M th f fd) (hi : i + 7 ≤ L) (hl : lv_has ls 9 (lwL b x y zo zd i)) (hc : cells + 8 ≤ room_1.cells) (hs : slots + 150 ≤ room_1.slots) (kk : ∀ (H : Heap) (locs : List Loc) (M : ecM) (th : Int32) (f : Nat → Int64) (fd : Nat → UInt64) (ls : Array Slot), lwI s G X Y x y zo zd ya H locs M M th f fd → lv_has ls 9 (lwL b x y zo zd i) → W p l e room_1 s m #[Value.ref b] below meth c H locs (cells + 8) (slots + 150) Q (F0 m 2146 ls [])) : W p l e room_1 s m #[Value.ref b] below meth c H locs cells slots Q (F0 m 1050 ls []) := by
  obtain ⟨hC, hls, hOk, hX, hbl, hL, hAN, hXA, hYA, hoA, hdA, hYX, hXo, hXd, hYo, hYd, hdo⟩ := id F
  have hK := hOk.1
  have hY : ∀ q, Y q → ecN0 G ≤ q := fun q h => hAN q (hYA q h)
  have hwf := I.2.2.1.wf
  obtain ⟨hS, hXs, hEC, hx, hz, hzd⟩ := id I
  have hl : lv_has ls 9 [(0, .ref b), (1, .ref x), (2, .ref y), (3, .ref zo), (4, .ref zd), (5, .int (nI i))] := hl
  refine lv_aload_n hC.1 hC.2.1 dL_law_1050 rfl (lv_at hl 1 rfl) ?_
  refine lv_aload_n hC.1 hC.2.1 dL_law_1051 rfl (lv_at hl 0 rfl) ?_
  refine lv_iload hC.1 hC.2.1 dL_law_1052 (lv_at hl 5 rfl) ?_
  refine lv_iconst (v := 1) hC.1 hC.2.1 dL_law_1054 (by decide) ?_
  refine lv_iadd hC.1 hC.2.1 dL_law_1055 ?_
  refine lw_ld hC hX hbl hS hL (i + 1) (nI_add i 1) (by omega) dL_law_1056 ?_
  refine lv_aload_n hC.1 hC.2.1 dL_law_1057 rfl (lv_at hl 3 rfl) ?_
  refine ec_goXE1 (ec_xSH hC (c_L_answerOf l hls G X M x zo f hXo (hAN _ hoA) (xs (i + 1))) kL_167 (hOk.at hS hAN) ⟨hXs, hEC, hz⟩ hl.1 ⟨Nat.le_of_ble_eq_true rfl, Nat.le_of_ble_eq_true rfl⟩ rfl (Nat.le_of_ble_eq_true rfl) dL_law_1058 ⟨hc, hs⟩) hS (fun q h => h.elim (hXA q) (fun h => by rw [h]; exact hoA)) (fun _ _ _ _ _ hx9 => hx9.elim) (fun H locs hp hzs hk1 hS => ?_)
  obtain ⟨hEC, f, hz, hf⟩ := hp
  rw [ite_self] at hEC
  have I := I.hlp F hS hzs hk1 hEC hz
  obtain ⟨hS, hXs, hEC, hx, hz, hzd⟩ := id I
  refine lv_istore (lv' := [(6, .int (nI (thF M (xs (i + 1))))), (0, .ref b), (1, .ref x), (2, .ref y), (3, .ref zo), (4, .ref zd), (5, .int (nI i))]) hC.1 hC.2.1 dL_law_1061 hl (by decide) rfl (fun ls hl => ?_)
  refine lv_aload_n hC.1 hC.2.1 dL_law_1063 rfl (lv_at hl 3 rfl) ?_
  refine lv_aload_n hC.1 hC.2.1 dL_law_1064 rfl (lv_at hl 1 rfl) ?_
  refine lv_iload hC.1 hC.2.1 dL_law_1065 (lv_at hl 6 rfl) ?_
  refine lv_iconst (v := 1) hC.1 hC.2.1 dL_law_1067 (by decide) ?_
  refine lv_iadd hC.1 hC.2.1 dL_law_1068 ?_
  refine lw_ld hC hX hbl hS hL (i + 1) (nI_add i 1) (by omega) dL_law_1069 ?_
  refine ec_goEi (ec_rV hC (c_X6_answerOf l G Y M th y ya hY hwf (xs (i + 1))) kL_169 (hOk.at hS hAN) hx (ec_rc hK hx.1 ⟨_, _, rfl⟩) hl.1 ⟨Nat.le_of_ble_eq_true rfl, Nat.le_of_ble_eq_true rfl⟩ rfl (Nat.le_of_ble_eq_true rfl) dL_law_1070 ⟨hc, hs⟩) hS hYA (fun w H locs hp hzs hk1 hS => ?_)
  obtain ⟨hw, hp⟩ := hp
  have I := I.mod F hS hzs hk1 hp
  obtain ⟨hS, hXs, hEC, hx, hz, hzd⟩ := id I
  refine lv_istore (lv' := [(7, .int w), (6, .int (nI (thF M (xs (i + 1))))), (0, .ref b), (1, .ref x), (2, .ref y), (3, .ref zo), (4, .ref zd), (5, .int (nI i))]) hC.1 hC.2.1 dL_law_1073 hl (by decide) rfl (fun ls hl => ?_)
  refine lv_aload_n hC.1 hC.2.1 dL_law_1075 rfl (lv_at hl 4 rfl) ?_
  refine ec_go1 (ec_rV hC (c_X6_thrown l G Y _ _ y ya) kL_122 (hOk.at hS hAN) hx (ec_rc hK hx.1 ⟨_, _, rfl⟩) hl.1 ⟨Nat.le_of_ble_eq_true rfl, Nat.le_of_ble_eq_true rfl⟩ rfl (Nat.le_of_ble_eq_true rfl) dL_law_1076 ⟨hc, hs⟩) ?_
  refine lv_iload hC.1 hC.2.1 dL_law_1079 (lv_at hl 1 rfl) ?_
  refine lv_icmp_eq (tgt := 1086) hC.1 hC.2.1 dL_law_1081 (by decide) (fun c_1081 => ?_) (fun c => absurd rfl c)
  refine lv_iload hC.1 hC.2.1 dL_law_1086 (lv_at hl 1 rfl) ?_
  refine lv_if_ne (tgt := 1103) hC.1 hC.2.1 dL_law_1088 (by decide) (fun c_1088 => ?_) (fun c_1088 => ?_)
  · refine lv_goto (tgt := 2146) hC.1 hC.2.1 dL_law_1103 (by decide) ?_
    exact kk _ _ _ _ _ _ _ I (lv_sub hl [2, 3, 4, 5, 6, 7] rfl)
  · refine lv_aload_n hC.1 hC.2.1 dL_law_1091 rfl (lv_at hl 5 rfl) ?_
    refine lv_iconst (v := 0) hC.1 hC.2.1 dL_law_1092 (by decide) ?_
    have hT : thF M (xs (i + 1)) = 0 := (nI_eq (b := 0) (by first | exact thF_lt _ | exact thF_lt _ _ | exact thF_lt _ _ _ | exact thF_lt _ _ _ _ | exact thF_lt _ _ _ _ _ | exact thF_lt _ _ _ _ _ _ | exact thF_lt _ _ _ _ _ _ _) (by decide)).mp c_1088
    have hf := hf hT
    have hw := hw hT
    subst hw
    have hl : lv_has ls 9 [(7, .int (nI (M.1 3 (cN (xs (i + 1)))))), (6, .int (nI (thF M (xs (i + 1))))), (0, .ref b), (1, .ref x), (2, .ref y), (3, .ref zo), (4, .ref zd), (5, .int (nI i))] := hl
    refine ec_lald hC hK hz 0 rfl (by decide) (by decide) dL_law_1093 ?_
    refine lv_iload hC.1 hC.2.1 dL_law_1094 (lv_at hl 0 rfl) ?_
    refine lv_i2l hC.1 hC.2.1 dL_law_1096 rfl ?_
    refine W.lcmp hC.1 hC.2.1 dL_law_1097 ?_
    refine lv_if_eq (tgt := 1103) hC.1 hC.2.1 dL_law_1098 (by decide) (fun c_1098 => ?_) (fun c => absurd ((ec_cm0 _ _).mpr hf) c)
    refine lv_goto (tgt := 2146) hC.1 hC.2.1 dL_law_1103 (by decide) ?_
    exact kk _ _ _ _ _ _ _ I (lv_sub hl [2, 3, 4, 5, 6, 7] rfl)

set_option maxHeartbeats 4000000 in
set_option maxRecDepth 100000 in
/-- case 14: tap -/
theorem lw_c14 {p : Program} {l : Launch} {e : Env} {s : State} {m : MethodId} {below : List Frame} {meth : Method} {c : Code} {G : ecG} {X Y : Nat → Prop} {b L x y zo zd i : Nat} {ya : Nat → Nat} {xs : Nat → Int32} {H : Heap} {locs : List Loc} {M : ecM} {th : Int32} {f : Nat → Int64} {fd : Nat → UInt64} {ls : Array Slot} {cells slots : Nat} {Q : State → Prop} (F : lwF p l s m c G X Y b L xs zo zd) (I : lwI s G X Y x y zo zd ya H locs M M th f fd) (hi : i + 7 ≤ L) (hl : lv_has ls 9 (lwL b x y zo zd i)) (hc : cells + 8 ≤ room_1.cells) (hs : slots + 150 ≤ room_1.slots) (kk : ∀ (H : Heap) (locs : List Loc) (M : ecM) (th : Int32) (f : Nat → Int64) (fd : Nat → UInt64) (ls : Array Slot), lwI s G X Y x y zo zd ya H locs M M th f fd → lv_has ls 9 (lwL b x y zo zd i) → W p l e room_1 s m #[Value.ref b] below meth c H locs (cells + 8) (slots + 150) Q (F0 m 2146 ls [])) : W p l e room_1 s m #[Value.ref b] below meth c H locs cells slots Q (F0 m 1106 ls []) := by
  obtain ⟨hC, hls, hOk, hX, hbl, hL, hAN, hXA, hYA, hoA, hdA, hYX, hXo, hXd, hYo, hYd, hdo⟩ := id F
  have hK := hOk.1
  have hY : ∀ q, Y q → ecN0 G ≤ q := fun q h => hAN q (hYA q h)
  have hwf := I.2.2.1.wf
  obtain ⟨hS, hXs, hEC, hx, hz, hzd⟩ := id I
  have hl : lv_has ls 9 [(0, .ref b), (1, .ref x), (2, .ref y), (3, .ref zo), (4, .ref zd), (5, .int (nI i))] := hl
  refine lv_aload_n hC.1 hC.2.1 dL_law_1106 rfl (lv_at hl 1 rfl) ?_
  refine lv_aload_n hC.1 hC.2.1 dL_law_1107 rfl (lv_at hl 0 rfl) ?_
  refine lv_iload hC.1 hC.2.1 dL_law_1108 (lv_at hl 5 rfl) ?_
  refine lv_iconst (v := 1) hC.1 hC.2.1 dL_law_1110 (by decide) ?_
  refine lv_iadd hC.1 hC.2.1 dL_law_1111 ?_
  refine lw_ld hC hX hbl hS hL (i + 1) (nI_add i 1) (by omega) dL_law_1112 ?_
  refine lv_aload_n hC.1 hC.2.1 dL_law_1113 rfl (lv_at hl 0 rfl) ?_
  refine lv_iload hC.1 hC.2.1 dL_law_1114 (lv_at hl 5 rfl) ?_
  refine lv_iconst (v := 2) hC.1 hC.2.1 dL_law_1116 (by decide) ?_
  refine lv_iadd hC.1 hC.2.1 dL_law_1117 ?_
  refine lw_ld hC hX hbl hS hL (i + 2) (nI_add i 2) (by omega) dL_law_1118 ?_
  refine lv_aload_n hC.1 hC.2.1 dL_law_1119 rfl (lv_at hl 3 rfl) ?_
  refine ec_goXE1 (ec_xSH hC (c_L_tap l hls G X M x zo f hXo (hAN _ hoA) (xs (i + 1)) (xs (i + 2))) kL_170 (hOk.at hS hAN) ⟨hXs, hEC, hz⟩ hl.1 ⟨Nat.le_of_ble_eq_true rfl, Nat.le_of_ble_eq_true rfl⟩ rfl (Nat.le_of_ble_eq_true rfl) dL_law_1120 ⟨hc, hs⟩) hS (fun q h => h.elim (hXA q) (fun h => by rw [h]; exact hoA)) (fun _ _ _ _ _ hx9 => hx9.elim) (fun H locs hp hzs hk1 hS => ?_)
  obtain ⟨hEC, f, hz, hf⟩ := hp
  rw [ite_self] at hEC
  have I := I.hlp F hS hzs hk1 hEC hz
  obtain ⟨hS, hXs, hEC, hx, hz, hzd⟩ := id I
  refine lv_istore (lv' := [(6, .int (nI (thTap M (xs (i + 1)) (xs (i + 2))))), (0, .ref b), (1, .ref x), (2, .ref y), (3, .ref zo), (4, .ref zd), (5, .int (nI i))]) hC.1 hC.2.1 dL_law_1123 hl (by decide) rfl (fun ls hl => ?_)
  refine lv_aload_n hC.1 hC.2.1 dL_law_1125 rfl (lv_at hl 3 rfl) ?_
  refine lv_aload_n hC.1 hC.2.1 dL_law_1126 rfl (lv_at hl 1 rfl) ?_
  refine lv_iload hC.1 hC.2.1 dL_law_1127 (lv_at hl 6 rfl) ?_
  refine lv_iconst (v := 1) hC.1 hC.2.1 dL_law_1129 (by decide) ?_
  refine lv_iadd hC.1 hC.2.1 dL_law_1130 ?_
  refine lw_ld hC hX hbl hS hL (i + 1) (nI_add i 1) (by omega) dL_law_1131 ?_
  refine lv_aload_n hC.1 hC.2.1 dL_law_1132 rfl (lv_at hl 1 rfl) ?_
  refine lv_iload hC.1 hC.2.1 dL_law_1133 (lv_at hl 6 rfl) ?_
  refine lv_iconst (v := 2) hC.1 hC.2.1 dL_law_1135 (by decide) ?_
  refine lv_iadd hC.1 hC.2.1 dL_law_1136 ?_
  refine lw_ld hC hX hbl hS hL (i + 2) (nI_add i 2) (by omega) dL_law_1137 ?_
  refine ec_goEj (ec_rV hC (c_X6_tap l G Y M th y ya hY hwf (xs (i + 1)) (xs (i + 2))) kL_172 (hOk.at hS hAN) hx (ec_rc hK hx.1 ⟨_, _, rfl⟩) hl.1 ⟨Nat.le_of_ble_eq_true rfl, Nat.le_of_ble_eq_true rfl⟩ rfl (Nat.le_of_ble_eq_true rfl) dL_law_1138 ⟨hc, hs⟩) hS hYA (fun w H locs hp hzs hk1 hS => ?_)
  obtain ⟨hw, hp⟩ := hp
  have I := I.mod F hS hzs hk1 hp
  obtain ⟨hS, hXs, hEC, hx, hz, hzd⟩ := id I
  refine lv_lstore (lv' := [(7, .long w), (6, .int (nI (thTap M (xs (i + 1)) (xs (i + 2))))), (0, .ref b), (1, .ref x), (2, .ref y), (3, .ref zo), (4, .ref zd), (5, .int (nI i))]) hC.1 hC.2.1 dL_law_1141 hl (by decide) rfl (fun ls hl => ?_)
  refine lv_aload_n hC.1 hC.2.1 dL_law_1143 rfl (lv_at hl 4 rfl) ?_
  refine ec_go1 (ec_rV hC (c_X6_thrown l G Y _ _ y ya) kL_122 (hOk.at hS hAN) hx (ec_rc hK hx.1 ⟨_, _, rfl⟩) hl.1 ⟨Nat.le_of_ble_eq_true rfl, Nat.le_of_ble_eq_true rfl⟩ rfl (Nat.le_of_ble_eq_true rfl) dL_law_1144 ⟨hc, hs⟩) ?_
  refine lv_iload hC.1 hC.2.1 dL_law_1147 (lv_at hl 1 rfl) ?_
  refine lv_icmp_eq (tgt := 1154) hC.1 hC.2.1 dL_law_1149 (by decide) (fun c_1149 => ?_) (fun c => absurd rfl c)
  refine lv_iload hC.1 hC.2.1 dL_law_1154 (lv_at hl 1 rfl) ?_
  refine lv_if_ne (tgt := 1170) hC.1 hC.2.1 dL_law_1156 (by decide) (fun c_1156 => ?_) (fun c_1156 => ?_)
  · refine lv_goto (tgt := 2146) hC.1 hC.2.1 dL_law_1170 (by decide) ?_
    exact kk _ _ _ _ _ _ _ I (lv_sub hl [2, 3, 4, 5, 6, 7] rfl)
  · refine lv_aload_n hC.1 hC.2.1 dL_law_1159 rfl (lv_at hl 5 rfl) ?_
    refine lv_iconst (v := 0) hC.1 hC.2.1 dL_law_1160 (by decide) ?_
    have hT : thTap M (xs (i + 1)) (xs (i + 2)) = 0 := (nI_eq (b := 0) (by first | exact thTap_lt _ | exact thTap_lt _ _ | exact thTap_lt _ _ _ | exact thTap_lt _ _ _ _ | exact thTap_lt _ _ _ _ _ | exact thTap_lt _ _ _ _ _ _ | exact thTap_lt _ _ _ _ _ _ _) (by decide)).mp c_1156
    have hf := hf hT
    have hw := hw hT
    subst hw
    have hl : lv_has ls 9 [(7, .long (M.2.2 (6 * cN (xs (i + 1)) + cN (xs (i + 2))))), (6, .int (nI (thTap M (xs (i + 1)) (xs (i + 2))))), (0, .ref b), (1, .ref x), (2, .ref y), (3, .ref zo), (4, .ref zd), (5, .int (nI i))] := hl
    refine ec_lald hC hK hz 0 rfl (by decide) (by decide) dL_law_1161 ?_
    refine lv_lload hC.1 hC.2.1 dL_law_1162 (lv_at hl 0 rfl) ?_
    refine W.lcmp hC.1 hC.2.1 dL_law_1164 ?_
    refine lv_if_eq (tgt := 1170) hC.1 hC.2.1 dL_law_1165 (by decide) (fun c_1165 => ?_) (fun c => absurd ((ec_cm0 _ _).mpr hf) c)
    refine lv_goto (tgt := 2146) hC.1 hC.2.1 dL_law_1170 (by decide) ?_
    exact kk _ _ _ _ _ _ _ I (lv_sub hl [2, 3, 4, 5, 6, 7] rfl)

set_option maxHeartbeats 4000000 in
set_option maxRecDepth 100000 in
/-- case 15: bar -/
theorem lw_c15 {p : Program} {l : Launch} {e : Env} {s : State} {m : MethodId} {below : List Frame} {meth : Method} {c : Code} {G : ecG} {X Y : Nat → Prop} {b L x y zo zd i : Nat} {ya : Nat → Nat} {xs : Nat → Int32} {H : Heap} {locs : List Loc} {M : ecM} {th : Int32} {f : Nat → Int64} {fd : Nat → UInt64} {ls : Array Slot} {cells slots : Nat} {Q : State → Prop} (F : lwF p l s m c G X Y b L xs zo zd) (I : lwI s G X Y x y zo zd ya H locs M M th f fd) (hi : i + 7 ≤ L) (hl : lv_has ls 9 (lwL b x y zo zd i)) (hc : cells + 8 ≤ room_1.cells) (hs : slots + 150 ≤ room_1.slots) (kk : ∀ (H : Heap) (locs : List Loc) (M : ecM) (th : Int32) (f : Nat → Int64) (fd : Nat → UInt64) (ls : Array Slot), lwI s G X Y x y zo zd ya H locs M M th f fd → lv_has ls 9 (lwL b x y zo zd i) → W p l e room_1 s m #[Value.ref b] below meth c H locs (cells + 8) (slots + 150) Q (F0 m 2146 ls [])) : W p l e room_1 s m #[Value.ref b] below meth c H locs cells slots Q (F0 m 1173 ls []) := by
  obtain ⟨hC, hls, hOk, hX, hbl, hL, hAN, hXA, hYA, hoA, hdA, hYX, hXo, hXd, hYo, hYd, hdo⟩ := id F
  have hK := hOk.1
  have hY : ∀ q, Y q → ecN0 G ≤ q := fun q h => hAN q (hYA q h)
  have hwf := I.2.2.1.wf
  obtain ⟨hS, hXs, hEC, hx, hz, hzd⟩ := id I
  have hl : lv_has ls 9 [(0, .ref b), (1, .ref x), (2, .ref y), (3, .ref zo), (4, .ref zd), (5, .int (nI i))] := hl
  refine lv_aload_n hC.1 hC.2.1 dL_law_1173 rfl (lv_at hl 1 rfl) ?_
  refine lv_aload_n hC.1 hC.2.1 dL_law_1174 rfl (lv_at hl 0 rfl) ?_
  refine lv_iload hC.1 hC.2.1 dL_law_1175 (lv_at hl 5 rfl) ?_
  refine lv_iconst (v := 1) hC.1 hC.2.1 dL_law_1177 (by decide) ?_
  refine lv_iadd hC.1 hC.2.1 dL_law_1178 ?_
  refine lw_ld hC hX hbl hS hL (i + 1) (nI_add i 1) (by omega) dL_law_1179 ?_
  refine lv_aload_n hC.1 hC.2.1 dL_law_1180 rfl (lv_at hl 3 rfl) ?_
  refine ec_goXE1 (ec_xSH hC (c_L_bar l hls G X M x zo f hXo (hAN _ hoA) (xs (i + 1))) kL_173 (hOk.at hS hAN) ⟨hXs, hEC, hz⟩ hl.1 ⟨Nat.le_of_ble_eq_true rfl, Nat.le_of_ble_eq_true rfl⟩ rfl (Nat.le_of_ble_eq_true rfl) dL_law_1181 ⟨hc, hs⟩) hS (fun q h => h.elim (hXA q) (fun h => by rw [h]; exact hoA)) (fun _ _ _ _ _ hx9 => hx9.elim) (fun H locs hp hzs hk1 hS => ?_)
  obtain ⟨hEC, f, hz, hf⟩ := hp
  rw [ite_self] at hEC
  have I := I.hlp F hS hzs hk1 hEC hz
  obtain ⟨hS, hXs, hEC, hx, hz, hzd⟩ := id I
  refine lv_istore (lv' := [(6, .int (nI (thF M (xs (i + 1))))), (0, .ref b), (1, .ref x), (2, .ref y), (3, .ref zo), (4, .ref zd), (5, .int (nI i))]) hC.1 hC.2.1 dL_law_1184 hl (by decide) rfl (fun ls hl => ?_)
  refine lv_aload_n hC.1 hC.2.1 dL_law_1186 rfl (lv_at hl 3 rfl) ?_
  refine lv_aload_n hC.1 hC.2.1 dL_law_1187 rfl (lv_at hl 1 rfl) ?_
  refine lv_iload hC.1 hC.2.1 dL_law_1188 (lv_at hl 6 rfl) ?_
  refine lv_iconst (v := 1) hC.1 hC.2.1 dL_law_1190 (by decide) ?_
  refine lv_iadd hC.1 hC.2.1 dL_law_1191 ?_
  refine lw_ld hC hX hbl hS hL (i + 1) (nI_add i 1) (by omega) dL_law_1192 ?_
  refine ec_goEi (ec_rV hC (c_X6_bar l G Y M th y ya hY hwf (xs (i + 1))) kL_175 (hOk.at hS hAN) hx (ec_rc hK hx.1 ⟨_, _, rfl⟩) hl.1 ⟨Nat.le_of_ble_eq_true rfl, Nat.le_of_ble_eq_true rfl⟩ rfl (Nat.le_of_ble_eq_true rfl) dL_law_1193 ⟨hc, hs⟩) hS hYA (fun w H locs hp hzs hk1 hS => ?_)
  obtain ⟨hw, hp⟩ := hp
  have I := I.mod F hS hzs hk1 hp
  obtain ⟨hS, hXs, hEC, hx, hz, hzd⟩ := id I
  refine lv_istore (lv' := [(7, .int w), (6, .int (nI (thF M (xs (i + 1))))), (0, .ref b), (1, .ref x), (2, .ref y), (3, .ref zo), (4, .ref zd), (5, .int (nI i))]) hC.1 hC.2.1 dL_law_1196 hl (by decide) rfl (fun ls hl => ?_)
  refine lv_aload_n hC.1 hC.2.1 dL_law_1198 rfl (lv_at hl 4 rfl) ?_
  refine ec_go1 (ec_rV hC (c_X6_thrown l G Y _ _ y ya) kL_122 (hOk.at hS hAN) hx (ec_rc hK hx.1 ⟨_, _, rfl⟩) hl.1 ⟨Nat.le_of_ble_eq_true rfl, Nat.le_of_ble_eq_true rfl⟩ rfl (Nat.le_of_ble_eq_true rfl) dL_law_1199 ⟨hc, hs⟩) ?_
  refine lv_iload hC.1 hC.2.1 dL_law_1202 (lv_at hl 1 rfl) ?_
  refine lv_icmp_eq (tgt := 1209) hC.1 hC.2.1 dL_law_1204 (by decide) (fun c_1204 => ?_) (fun c => absurd rfl c)
  refine lv_iload hC.1 hC.2.1 dL_law_1209 (lv_at hl 1 rfl) ?_
  refine lv_if_ne (tgt := 1226) hC.1 hC.2.1 dL_law_1211 (by decide) (fun c_1211 => ?_) (fun c_1211 => ?_)
  · refine lv_goto (tgt := 2146) hC.1 hC.2.1 dL_law_1226 (by decide) ?_
    exact kk _ _ _ _ _ _ _ I (lv_sub hl [2, 3, 4, 5, 6, 7] rfl)
  · refine lv_aload_n hC.1 hC.2.1 dL_law_1214 rfl (lv_at hl 5 rfl) ?_
    refine lv_iconst (v := 0) hC.1 hC.2.1 dL_law_1215 (by decide) ?_
    have hT : thF M (xs (i + 1)) = 0 := (nI_eq (b := 0) (by first | exact thF_lt _ | exact thF_lt _ _ | exact thF_lt _ _ _ | exact thF_lt _ _ _ _ | exact thF_lt _ _ _ _ _ | exact thF_lt _ _ _ _ _ _ | exact thF_lt _ _ _ _ _ _ _) (by decide)).mp c_1211
    have hf := hf hT
    have hw := hw hT
    subst hw
    have hl : lv_has ls 9 [(7, .int (barM M (cN (xs (i + 1))))), (6, .int (nI (thF M (xs (i + 1))))), (0, .ref b), (1, .ref x), (2, .ref y), (3, .ref zo), (4, .ref zd), (5, .int (nI i))] := hl
    refine ec_lald hC hK hz 0 rfl (by decide) (by decide) dL_law_1216 ?_
    refine lv_iload hC.1 hC.2.1 dL_law_1217 (lv_at hl 0 rfl) ?_
    refine lv_i2l hC.1 hC.2.1 dL_law_1219 rfl ?_
    refine W.lcmp hC.1 hC.2.1 dL_law_1220 ?_
    refine lv_if_eq (tgt := 1226) hC.1 hC.2.1 dL_law_1221 (by decide) (fun c_1221 => ?_) (fun c => absurd ((ec_cm0 _ _).mpr hf) c)
    refine lv_goto (tgt := 2146) hC.1 hC.2.1 dL_law_1226 (by decide) ?_
    exact kk _ _ _ _ _ _ _ I (lv_sub hl [2, 3, 4, 5, 6, 7] rfl)

set_option maxHeartbeats 4000000 in
set_option maxRecDepth 100000 in
/-- case 16: use -/
theorem lw_c16 {p : Program} {l : Launch} {e : Env} {s : State} {m : MethodId} {below : List Frame} {meth : Method} {c : Code} {G : ecG} {X Y : Nat → Prop} {b L x y zo zd i : Nat} {ya : Nat → Nat} {xs : Nat → Int32} {H : Heap} {locs : List Loc} {M : ecM} {th : Int32} {f : Nat → Int64} {fd : Nat → UInt64} {ls : Array Slot} {cells slots : Nat} {Q : State → Prop} (F : lwF p l s m c G X Y b L xs zo zd) (I : lwI s G X Y x y zo zd ya H locs M M th f fd) (hi : i + 7 ≤ L) (hl : lv_has ls 9 (lwL b x y zo zd i)) (hc : cells + 8 ≤ room_1.cells) (hs : slots + 150 ≤ room_1.slots) (kk : ∀ (H : Heap) (locs : List Loc) (M : ecM) (th : Int32) (f : Nat → Int64) (fd : Nat → UInt64) (ls : Array Slot), lwI s G X Y x y zo zd ya H locs M M th f fd → lv_has ls 9 (lwL b x y zo zd i) → W p l e room_1 s m #[Value.ref b] below meth c H locs (cells + 8) (slots + 150) Q (F0 m 2146 ls [])) : W p l e room_1 s m #[Value.ref b] below meth c H locs cells slots Q (F0 m 1229 ls []) := by
  obtain ⟨hC, hls, hOk, hX, hbl, hL, hAN, hXA, hYA, hoA, hdA, hYX, hXo, hXd, hYo, hYd, hdo⟩ := id F
  have hK := hOk.1
  have hY : ∀ q, Y q → ecN0 G ≤ q := fun q h => hAN q (hYA q h)
  have hwf := I.2.2.1.wf
  obtain ⟨hS, hXs, hEC, hx, hz, hzd⟩ := id I
  have hl : lv_has ls 9 [(0, .ref b), (1, .ref x), (2, .ref y), (3, .ref zo), (4, .ref zd), (5, .int (nI i))] := hl
  refine lv_aload_n hC.1 hC.2.1 dL_law_1229 rfl (lv_at hl 1 rfl) ?_
  refine lv_aload_n hC.1 hC.2.1 dL_law_1230 rfl (lv_at hl 0 rfl) ?_
  refine lv_iload hC.1 hC.2.1 dL_law_1231 (lv_at hl 5 rfl) ?_
  refine lv_iconst (v := 1) hC.1 hC.2.1 dL_law_1233 (by decide) ?_
  refine lv_iadd hC.1 hC.2.1 dL_law_1234 ?_
  refine lw_ld hC hX hbl hS hL (i + 1) (nI_add i 1) (by omega) dL_law_1235 ?_
  refine lv_aload_n hC.1 hC.2.1 dL_law_1236 rfl (lv_at hl 0 rfl) ?_
  refine lv_iload hC.1 hC.2.1 dL_law_1237 (lv_at hl 5 rfl) ?_
  refine lv_iconst (v := 2) hC.1 hC.2.1 dL_law_1239 (by decide) ?_
  refine lv_iadd hC.1 hC.2.1 dL_law_1240 ?_
  refine lw_ld hC hX hbl hS hL (i + 2) (nI_add i 2) (by omega) dL_law_1241 ?_
  refine lv_aload_n hC.1 hC.2.1 dL_law_1242 rfl (lv_at hl 3 rfl) ?_
  refine ec_goXE1 (ec_xSH hC (c_L_use l hls G X M x zo f hXo (hAN _ hoA) (xs (i + 1)) (xs (i + 2))) kL_176 (hOk.at hS hAN) ⟨hXs, hEC, hz⟩ hl.1 ⟨Nat.le_of_ble_eq_true rfl, Nat.le_of_ble_eq_true rfl⟩ rfl (Nat.le_of_ble_eq_true rfl) dL_law_1243 ⟨hc, hs⟩) hS (fun q h => h.elim (hXA q) (fun h => by rw [h]; exact hoA)) (fun _ _ _ _ _ hx9 => hx9.elim) (fun H locs hp hzs hk1 hS => ?_)
  obtain ⟨hEC, f, hz, hf⟩ := hp
  have I := I.hlp F hS hzs hk1 hEC hz
  obtain ⟨hS, hXs, hEC, hx, hz, hzd⟩ := id I
  refine lv_istore (lv' := [(6, .int (nI (thUse M (xs (i + 1)) (xs (i + 2))))), (0, .ref b), (1, .ref x), (2, .ref y), (3, .ref zo), (4, .ref zd), (5, .int (nI i))]) hC.1 hC.2.1 dL_law_1246 hl (by decide) rfl (fun ls hl => ?_)
  refine lv_aload_n hC.1 hC.2.1 dL_law_1248 rfl (lv_at hl 3 rfl) ?_
  refine lv_aload_n hC.1 hC.2.1 dL_law_1249 rfl (lv_at hl 1 rfl) ?_
  refine lv_iload hC.1 hC.2.1 dL_law_1250 (lv_at hl 6 rfl) ?_
  refine lv_iconst (v := 1) hC.1 hC.2.1 dL_law_1252 (by decide) ?_
  refine lv_iadd hC.1 hC.2.1 dL_law_1253 ?_
  refine lw_ld hC hX hbl hS hL (i + 1) (nI_add i 1) (by omega) dL_law_1254 ?_
  refine lv_aload_n hC.1 hC.2.1 dL_law_1255 rfl (lv_at hl 1 rfl) ?_
  refine lv_iload hC.1 hC.2.1 dL_law_1256 (lv_at hl 6 rfl) ?_
  refine lv_iconst (v := 2) hC.1 hC.2.1 dL_law_1258 (by decide) ?_
  refine lv_iadd hC.1 hC.2.1 dL_law_1259 ?_
  refine lw_ld hC hX hbl hS hL (i + 2) (nI_add i 2) (by omega) dL_law_1260 ?_
  refine ec_goEj (ec_rV hC (c_X6_use l G Y M th y ya hY hwf (xs (i + 1)) (xs (i + 2))) kL_178 (hOk.at hS hAN) hx (ec_rc hK hx.1 ⟨_, _, rfl⟩) hl.1 ⟨Nat.le_of_ble_eq_true rfl, Nat.le_of_ble_eq_true rfl⟩ rfl (Nat.le_of_ble_eq_true rfl) dL_law_1261 ⟨hc, hs⟩) hS hYA (fun w H locs hp hzs hk1 hS => ?_)
  obtain ⟨hw, hp⟩ := hp
  have I := I.mod F hS hzs hk1 hp
  obtain ⟨hS, hXs, hEC, hx, hz, hzd⟩ := id I
  refine lv_lstore (lv' := [(7, .long w), (6, .int (nI (thUse M (xs (i + 1)) (xs (i + 2))))), (0, .ref b), (1, .ref x), (2, .ref y), (3, .ref zo), (4, .ref zd), (5, .int (nI i))]) hC.1 hC.2.1 dL_law_1264 hl (by decide) rfl (fun ls hl => ?_)
  refine lv_aload_n hC.1 hC.2.1 dL_law_1266 rfl (lv_at hl 4 rfl) ?_
  refine ec_go1 (ec_rV hC (c_X6_thrown l G Y _ _ y ya) kL_122 (hOk.at hS hAN) hx (ec_rc hK hx.1 ⟨_, _, rfl⟩) hl.1 ⟨Nat.le_of_ble_eq_true rfl, Nat.le_of_ble_eq_true rfl⟩ rfl (Nat.le_of_ble_eq_true rfl) dL_law_1267 ⟨hc, hs⟩) ?_
  refine lv_iload hC.1 hC.2.1 dL_law_1270 (lv_at hl 1 rfl) ?_
  refine lv_icmp_eq (tgt := 1277) hC.1 hC.2.1 dL_law_1272 (by decide) (fun c_1272 => ?_) (fun c => absurd rfl c)
  refine lv_iload hC.1 hC.2.1 dL_law_1277 (lv_at hl 1 rfl) ?_
  refine lv_if_ne (tgt := 1293) hC.1 hC.2.1 dL_law_1279 (by decide) (fun c_1279 => ?_) (fun c_1279 => ?_)
  · refine lv_goto (tgt := 2146) hC.1 hC.2.1 dL_law_1293 (by decide) ?_
    exact kk _ _ _ _ _ _ _ I (lv_sub hl [2, 3, 4, 5, 6, 7] rfl)
  · refine lv_aload_n hC.1 hC.2.1 dL_law_1282 rfl (lv_at hl 5 rfl) ?_
    refine lv_iconst (v := 0) hC.1 hC.2.1 dL_law_1283 (by decide) ?_
    have hT : thUse M (xs (i + 1)) (xs (i + 2)) = 0 := (nI_eq (b := 0) (by first | exact thUse_lt _ | exact thUse_lt _ _ | exact thUse_lt _ _ _ | exact thUse_lt _ _ _ _ | exact thUse_lt _ _ _ _ _ | exact thUse_lt _ _ _ _ _ _ | exact thUse_lt _ _ _ _ _ _ _) (by decide)).mp c_1279
    have hf := hf hT
    have hw := hw hT
    subst hw
    have hl : lv_has ls 9 [(7, .long (gvS (tpA M (cN (xs (i + 1)))) (psU (psA M (cN (xs (i + 1)))) (xs (i + 2))) 6)), (6, .int (nI (thUse M (xs (i + 1)) (xs (i + 2))))), (0, .ref b), (1, .ref x), (2, .ref y), (3, .ref zo), (4, .ref zd), (5, .int (nI i))] := hl
    refine ec_lald hC hK hz 0 rfl (by decide) (by decide) dL_law_1284 ?_
    refine lv_lload hC.1 hC.2.1 dL_law_1285 (lv_at hl 0 rfl) ?_
    refine W.lcmp hC.1 hC.2.1 dL_law_1287 ?_
    refine lv_if_eq (tgt := 1293) hC.1 hC.2.1 dL_law_1288 (by decide) (fun c_1288 => ?_) (fun c => absurd ((ec_cm0 _ _).mpr hf) c)
    refine lv_goto (tgt := 2146) hC.1 hC.2.1 dL_law_1293 (by decide) ?_
    exact kk _ _ _ _ _ _ _ I (lv_sub hl [2, 3, 4, 5, 6, 7] rfl)

set_option maxHeartbeats 4000000 in
set_option maxRecDepth 100000 in
/-- case 17: inputs -/
theorem lw_c17 {p : Program} {l : Launch} {e : Env} {s : State} {m : MethodId} {below : List Frame} {meth : Method} {c : Code} {G : ecG} {X Y : Nat → Prop} {b L x y zo zd i : Nat} {ya : Nat → Nat} {xs : Nat → Int32} {H : Heap} {locs : List Loc} {M : ecM} {th : Int32} {f : Nat → Int64} {fd : Nat → UInt64} {ls : Array Slot} {cells slots : Nat} {Q : State → Prop} (F : lwF p l s m c G X Y b L xs zo zd) (I : lwI s G X Y x y zo zd ya H locs M M th f fd) (hi : i + 7 ≤ L) (hl : lv_has ls 9 (lwL b x y zo zd i)) (hc : cells + 8 ≤ room_1.cells) (hs : slots + 150 ≤ room_1.slots) (kk : ∀ (H : Heap) (locs : List Loc) (M : ecM) (th : Int32) (f : Nat → Int64) (fd : Nat → UInt64) (ls : Array Slot), lwI s G X Y x y zo zd ya H locs M M th f fd → lv_has ls 9 (lwL b x y zo zd i) → W p l e room_1 s m #[Value.ref b] below meth c H locs (cells + 8) (slots + 150) Q (F0 m 2146 ls [])) : W p l e room_1 s m #[Value.ref b] below meth c H locs cells slots Q (F0 m 1296 ls []) := by
  obtain ⟨hC, hls, hOk, hX, hbl, hL, hAN, hXA, hYA, hoA, hdA, hYX, hXo, hXd, hYo, hYd, hdo⟩ := id F
  have hK := hOk.1
  have hY : ∀ q, Y q → ecN0 G ≤ q := fun q h => hAN q (hYA q h)
  have hwf := I.2.2.1.wf
  obtain ⟨hS, hXs, hEC, hx, hz, hzd⟩ := id I
  have hl : lv_has ls 9 [(0, .ref b), (1, .ref x), (2, .ref y), (3, .ref zo), (4, .ref zd), (5, .int (nI i))] := hl
  refine lv_aload_n hC.1 hC.2.1 dL_law_1296 rfl (lv_at hl 1 rfl) ?_
  refine lv_aload_n hC.1 hC.2.1 dL_law_1297 rfl (lv_at hl 0 rfl) ?_
  refine lv_iload hC.1 hC.2.1 dL_law_1298 (lv_at hl 5 rfl) ?_
  refine lv_iconst (v := 1) hC.1 hC.2.1 dL_law_1300 (by decide) ?_
  refine lv_iadd hC.1 hC.2.1 dL_law_1301 ?_
  refine lw_ld hC hX hbl hS hL (i + 1) (nI_add i 1) (by omega) dL_law_1302 ?_
  refine lv_aload_n hC.1 hC.2.1 dL_law_1303 rfl (lv_at hl 3 rfl) ?_
  refine ec_goXE1 (ec_xSH hC (c_L_inputs l hls G X M x zo f hXo (hAN _ hoA) (xs (i + 1))) kL_179 (hOk.at hS hAN) ⟨hXs, hEC, hz⟩ hl.1 ⟨Nat.le_of_ble_eq_true rfl, Nat.le_of_ble_eq_true rfl⟩ rfl (Nat.le_of_ble_eq_true rfl) dL_law_1304 ⟨hc, hs⟩) hS (fun q h => h.elim (hXA q) (fun h => by rw [h]; exact hoA)) (fun _ _ _ _ _ hx9 => hx9.elim) (fun H locs hp hzs hk1 hS => ?_)
  obtain ⟨hEC, f, hz, hf⟩ := hp
  rw [ite_self] at hEC
  have I := I.hlp F hS hzs hk1 hEC hz
  obtain ⟨hS, hXs, hEC, hx, hz, hzd⟩ := id I
  refine lv_istore (lv' := [(6, .int (nI (thF M (xs (i + 1))))), (0, .ref b), (1, .ref x), (2, .ref y), (3, .ref zo), (4, .ref zd), (5, .int (nI i))]) hC.1 hC.2.1 dL_law_1307 hl (by decide) rfl (fun ls hl => ?_)
  refine lv_aload_n hC.1 hC.2.1 dL_law_1309 rfl (lv_at hl 3 rfl) ?_
  refine lv_aload_n hC.1 hC.2.1 dL_law_1310 rfl (lv_at hl 1 rfl) ?_
  refine lv_iload hC.1 hC.2.1 dL_law_1311 (lv_at hl 6 rfl) ?_
  refine lv_iconst (v := 1) hC.1 hC.2.1 dL_law_1313 (by decide) ?_
  refine lv_iadd hC.1 hC.2.1 dL_law_1314 ?_
  refine lw_ld hC hX hbl hS hL (i + 1) (nI_add i 1) (by omega) dL_law_1315 ?_
  refine ec_goEi (ec_rV hC (c_X6_inputs l G Y M th y ya hY hwf (xs (i + 1))) kL_181 (hOk.at hS hAN) hx (ec_rc hK hx.1 ⟨_, _, rfl⟩) hl.1 ⟨Nat.le_of_ble_eq_true rfl, Nat.le_of_ble_eq_true rfl⟩ rfl (Nat.le_of_ble_eq_true rfl) dL_law_1316 ⟨hc, hs⟩) hS hYA (fun w H locs hp hzs hk1 hS => ?_)
  obtain ⟨hw, hp⟩ := hp
  have I := I.mod F hS hzs hk1 hp
  obtain ⟨hS, hXs, hEC, hx, hz, hzd⟩ := id I
  refine lv_istore (lv' := [(7, .int w), (6, .int (nI (thF M (xs (i + 1))))), (0, .ref b), (1, .ref x), (2, .ref y), (3, .ref zo), (4, .ref zd), (5, .int (nI i))]) hC.1 hC.2.1 dL_law_1319 hl (by decide) rfl (fun ls hl => ?_)
  refine lv_aload_n hC.1 hC.2.1 dL_law_1321 rfl (lv_at hl 4 rfl) ?_
  refine ec_go1 (ec_rV hC (c_X6_thrown l G Y _ _ y ya) kL_122 (hOk.at hS hAN) hx (ec_rc hK hx.1 ⟨_, _, rfl⟩) hl.1 ⟨Nat.le_of_ble_eq_true rfl, Nat.le_of_ble_eq_true rfl⟩ rfl (Nat.le_of_ble_eq_true rfl) dL_law_1322 ⟨hc, hs⟩) ?_
  refine lv_iload hC.1 hC.2.1 dL_law_1325 (lv_at hl 1 rfl) ?_
  refine lv_icmp_eq (tgt := 1332) hC.1 hC.2.1 dL_law_1327 (by decide) (fun c_1327 => ?_) (fun c => absurd rfl c)
  refine lv_iload hC.1 hC.2.1 dL_law_1332 (lv_at hl 1 rfl) ?_
  refine lv_if_ne (tgt := 1349) hC.1 hC.2.1 dL_law_1334 (by decide) (fun c_1334 => ?_) (fun c_1334 => ?_)
  · refine lv_goto (tgt := 2146) hC.1 hC.2.1 dL_law_1349 (by decide) ?_
    exact kk _ _ _ _ _ _ _ I (lv_sub hl [2, 3, 4, 5, 6, 7] rfl)
  · refine lv_aload_n hC.1 hC.2.1 dL_law_1337 rfl (lv_at hl 5 rfl) ?_
    refine lv_iconst (v := 0) hC.1 hC.2.1 dL_law_1338 (by decide) ?_
    have hT : thF M (xs (i + 1)) = 0 := (nI_eq (b := 0) (by first | exact thF_lt _ | exact thF_lt _ _ | exact thF_lt _ _ _ | exact thF_lt _ _ _ _ | exact thF_lt _ _ _ _ _ | exact thF_lt _ _ _ _ _ _ | exact thF_lt _ _ _ _ _ _ _) (by decide)).mp c_1334
    have hf := hf hT
    have hw := hw hT
    subst hw
    have hl : lv_has ls 9 [(7, .int (M.2.1 6 (cN (xs (i + 1))))), (6, .int (nI (thF M (xs (i + 1))))), (0, .ref b), (1, .ref x), (2, .ref y), (3, .ref zo), (4, .ref zd), (5, .int (nI i))] := hl
    refine ec_lald hC hK hz 0 rfl (by decide) (by decide) dL_law_1339 ?_
    refine lv_iload hC.1 hC.2.1 dL_law_1340 (lv_at hl 0 rfl) ?_
    refine lv_i2l hC.1 hC.2.1 dL_law_1342 rfl ?_
    refine W.lcmp hC.1 hC.2.1 dL_law_1343 ?_
    refine lv_if_eq (tgt := 1349) hC.1 hC.2.1 dL_law_1344 (by decide) (fun c_1344 => ?_) (fun c => absurd ((ec_cm0 _ _).mpr hf) c)
    refine lv_goto (tgt := 2146) hC.1 hC.2.1 dL_law_1349 (by decide) ?_
    exact kk _ _ _ _ _ _ _ I (lv_sub hl [2, 3, 4, 5, 6, 7] rfl)

set_option maxHeartbeats 4000000 in
set_option maxRecDepth 100000 in
/-- case 18: product -/
theorem lw_c18 {p : Program} {l : Launch} {e : Env} {s : State} {m : MethodId} {below : List Frame} {meth : Method} {c : Code} {G : ecG} {X Y : Nat → Prop} {b L x y zo zd i : Nat} {ya : Nat → Nat} {xs : Nat → Int32} {H : Heap} {locs : List Loc} {M : ecM} {th : Int32} {f : Nat → Int64} {fd : Nat → UInt64} {ls : Array Slot} {cells slots : Nat} {Q : State → Prop} (F : lwF p l s m c G X Y b L xs zo zd) (I : lwI s G X Y x y zo zd ya H locs M M th f fd) (hi : i + 7 ≤ L) (hl : lv_has ls 9 (lwL b x y zo zd i)) (hc : cells + 8 ≤ room_1.cells) (hs : slots + 150 ≤ room_1.slots) (kk : ∀ (H : Heap) (locs : List Loc) (M : ecM) (th : Int32) (f : Nat → Int64) (fd : Nat → UInt64) (ls : Array Slot), lwI s G X Y x y zo zd ya H locs M M th f fd → lv_has ls 9 (lwL b x y zo zd i) → W p l e room_1 s m #[Value.ref b] below meth c H locs (cells + 8) (slots + 150) Q (F0 m 2146 ls [])) : W p l e room_1 s m #[Value.ref b] below meth c H locs cells slots Q (F0 m 1352 ls []) := by
  obtain ⟨hC, hls, hOk, hX, hbl, hL, hAN, hXA, hYA, hoA, hdA, hYX, hXo, hXd, hYo, hYd, hdo⟩ := id F
  have hK := hOk.1
  have hY : ∀ q, Y q → ecN0 G ≤ q := fun q h => hAN q (hYA q h)
  have hwf := I.2.2.1.wf
  obtain ⟨hS, hXs, hEC, hx, hz, hzd⟩ := id I
  have hl : lv_has ls 9 [(0, .ref b), (1, .ref x), (2, .ref y), (3, .ref zo), (4, .ref zd), (5, .int (nI i))] := hl
  refine lv_aload_n hC.1 hC.2.1 dL_law_1352 rfl (lv_at hl 1 rfl) ?_
  refine lv_aload_n hC.1 hC.2.1 dL_law_1353 rfl (lv_at hl 0 rfl) ?_
  refine lv_iload hC.1 hC.2.1 dL_law_1354 (lv_at hl 5 rfl) ?_
  refine lv_iconst (v := 1) hC.1 hC.2.1 dL_law_1356 (by decide) ?_
  refine lv_iadd hC.1 hC.2.1 dL_law_1357 ?_
  refine lw_ld hC hX hbl hS hL (i + 1) (nI_add i 1) (by omega) dL_law_1358 ?_
  refine lv_aload_n hC.1 hC.2.1 dL_law_1359 rfl (lv_at hl 0 rfl) ?_
  refine lv_iload hC.1 hC.2.1 dL_law_1360 (lv_at hl 5 rfl) ?_
  refine lv_iconst (v := 2) hC.1 hC.2.1 dL_law_1362 (by decide) ?_
  refine lv_iadd hC.1 hC.2.1 dL_law_1363 ?_
  refine lw_ld hC hX hbl hS hL (i + 2) (nI_add i 2) (by omega) dL_law_1364 ?_
  refine lv_aload_n hC.1 hC.2.1 dL_law_1365 rfl (lv_at hl 0 rfl) ?_
  refine lv_iload hC.1 hC.2.1 dL_law_1366 (lv_at hl 5 rfl) ?_
  refine lv_iconst (v := 3) hC.1 hC.2.1 dL_law_1368 (by decide) ?_
  refine lv_iadd hC.1 hC.2.1 dL_law_1369 ?_
  refine lw_ld hC hX hbl hS hL (i + 3) (nI_add i 3) (by omega) dL_law_1370 ?_
  refine lv_aload_n hC.1 hC.2.1 dL_law_1371 rfl (lv_at hl 3 rfl) ?_
  refine ec_goXE1 (ec_xSH hC (c_L_product l hls G X M x zo f hXo (hAN _ hoA) (xs (i + 1)) (xs (i + 2)) (xs (i + 3))) kL_182 (hOk.at hS hAN) ⟨hXs, hEC, hz⟩ hl.1 ⟨Nat.le_of_ble_eq_true rfl, Nat.le_of_ble_eq_true rfl⟩ rfl (Nat.le_of_ble_eq_true rfl) dL_law_1372 ⟨hc, hs⟩) hS (fun q h => h.elim (hXA q) (fun h => by rw [h]; exact hoA)) (fun _ _ _ _ _ hx9 => hx9.elim) (fun H locs hp hzs hk1 hS => ?_)
  obtain ⟨hEC, f, hz, hf⟩ := hp
  rw [ite_self] at hEC
  have I := I.hlp F hS hzs hk1 hEC hz
  obtain ⟨hS, hXs, hEC, hx, hz, hzd⟩ := id I
  refine lv_istore (lv' := [(6, .int (nI (thPro M (xs (i + 1)) (xs (i + 2)) (xs (i + 3))))), (0, .ref b), (1, .ref x), (2, .ref y), (3, .ref zo), (4, .ref zd), (5, .int (nI i))]) hC.1 hC.2.1 dL_law_1375 hl (by decide) rfl (fun ls hl => ?_)
  refine lv_aload_n hC.1 hC.2.1 dL_law_1377 rfl (lv_at hl 3 rfl) ?_
  refine lv_aload_n hC.1 hC.2.1 dL_law_1378 rfl (lv_at hl 1 rfl) ?_
  refine lv_iload hC.1 hC.2.1 dL_law_1379 (lv_at hl 6 rfl) ?_
  refine lv_iconst (v := 1) hC.1 hC.2.1 dL_law_1381 (by decide) ?_
  refine lv_iadd hC.1 hC.2.1 dL_law_1382 ?_
  refine lw_ld hC hX hbl hS hL (i + 1) (nI_add i 1) (by omega) dL_law_1383 ?_
  refine lv_aload_n hC.1 hC.2.1 dL_law_1384 rfl (lv_at hl 1 rfl) ?_
  refine lv_iload hC.1 hC.2.1 dL_law_1385 (lv_at hl 6 rfl) ?_
  refine lv_iconst (v := 2) hC.1 hC.2.1 dL_law_1387 (by decide) ?_
  refine lv_iadd hC.1 hC.2.1 dL_law_1388 ?_
  refine lw_ld hC hX hbl hS hL (i + 2) (nI_add i 2) (by omega) dL_law_1389 ?_
  refine lv_aload_n hC.1 hC.2.1 dL_law_1390 rfl (lv_at hl 1 rfl) ?_
  refine lv_iload hC.1 hC.2.1 dL_law_1391 (lv_at hl 6 rfl) ?_
  refine lv_iconst (v := 3) hC.1 hC.2.1 dL_law_1393 (by decide) ?_
  refine lv_iadd hC.1 hC.2.1 dL_law_1394 ?_
  refine lw_ld hC hX hbl hS hL (i + 3) (nI_add i 3) (by omega) dL_law_1395 ?_
  refine ec_goEj (ec_rV hC (c_X6_product l G Y M th y ya hY hwf (xs (i + 1)) (xs (i + 2)) (xs (i + 3))) kL_185 (hOk.at hS hAN) hx (ec_rc hK hx.1 ⟨_, _, rfl⟩) hl.1 ⟨Nat.le_of_ble_eq_true rfl, Nat.le_of_ble_eq_true rfl⟩ rfl (Nat.le_of_ble_eq_true rfl) dL_law_1396 ⟨hc, hs⟩) hS hYA (fun w H locs hp hzs hk1 hS => ?_)
  obtain ⟨hw, hp⟩ := hp
  have I := I.mod F hS hzs hk1 hp
  obtain ⟨hS, hXs, hEC, hx, hz, hzd⟩ := id I
  refine lv_lstore (lv' := [(7, .long w), (6, .int (nI (thPro M (xs (i + 1)) (xs (i + 2)) (xs (i + 3))))), (0, .ref b), (1, .ref x), (2, .ref y), (3, .ref zo), (4, .ref zd), (5, .int (nI i))]) hC.1 hC.2.1 dL_law_1399 hl (by decide) rfl (fun ls hl => ?_)
  refine lv_aload_n hC.1 hC.2.1 dL_law_1401 rfl (lv_at hl 4 rfl) ?_
  refine ec_go1 (ec_rV hC (c_X6_thrown l G Y _ _ y ya) kL_122 (hOk.at hS hAN) hx (ec_rc hK hx.1 ⟨_, _, rfl⟩) hl.1 ⟨Nat.le_of_ble_eq_true rfl, Nat.le_of_ble_eq_true rfl⟩ rfl (Nat.le_of_ble_eq_true rfl) dL_law_1402 ⟨hc, hs⟩) ?_
  refine lv_iload hC.1 hC.2.1 dL_law_1405 (lv_at hl 1 rfl) ?_
  refine lv_icmp_eq (tgt := 1412) hC.1 hC.2.1 dL_law_1407 (by decide) (fun c_1407 => ?_) (fun c => absurd rfl c)
  refine lv_iload hC.1 hC.2.1 dL_law_1412 (lv_at hl 1 rfl) ?_
  refine lv_if_ne (tgt := 1428) hC.1 hC.2.1 dL_law_1414 (by decide) (fun c_1414 => ?_) (fun c_1414 => ?_)
  · refine lv_goto (tgt := 2146) hC.1 hC.2.1 dL_law_1428 (by decide) ?_
    exact kk _ _ _ _ _ _ _ I (lv_sub hl [2, 3, 4, 5, 6, 7] rfl)
  · refine lv_aload_n hC.1 hC.2.1 dL_law_1417 rfl (lv_at hl 5 rfl) ?_
    refine lv_iconst (v := 0) hC.1 hC.2.1 dL_law_1418 (by decide) ?_
    have hT : thPro M (xs (i + 1)) (xs (i + 2)) (xs (i + 3)) = 0 := (nI_eq (b := 0) (by first | exact thPro_lt _ | exact thPro_lt _ _ | exact thPro_lt _ _ _ | exact thPro_lt _ _ _ _ | exact thPro_lt _ _ _ _ _ | exact thPro_lt _ _ _ _ _ _ | exact thPro_lt _ _ _ _ _ _ _) (by decide)).mp c_1414
    have hf := hf hT
    have hw := hw hT
    subst hw
    have hl : lv_has ls 9 [(7, .long (prd (smA M (cN (xs (i + 2)))) (tpA M (cN (xs (i + 1)))) (cN (xs (i + 3))))), (6, .int (nI (thPro M (xs (i + 1)) (xs (i + 2)) (xs (i + 3))))), (0, .ref b), (1, .ref x), (2, .ref y), (3, .ref zo), (4, .ref zd), (5, .int (nI i))] := hl
    refine ec_lald hC hK hz 0 rfl (by decide) (by decide) dL_law_1419 ?_
    refine lv_lload hC.1 hC.2.1 dL_law_1420 (lv_at hl 0 rfl) ?_
    refine W.lcmp hC.1 hC.2.1 dL_law_1422 ?_
    refine lv_if_eq (tgt := 1428) hC.1 hC.2.1 dL_law_1423 (by decide) (fun c_1423 => ?_) (fun c => absurd ((ec_cm0 _ _).mpr hf) c)
    refine lv_goto (tgt := 2146) hC.1 hC.2.1 dL_law_1428 (by decide) ?_
    exact kk _ _ _ _ _ _ _ I (lv_sub hl [2, 3, 4, 5, 6, 7] rfl)

set_option maxHeartbeats 4000000 in
set_option maxRecDepth 100000 in
/-- case 19: rightSamples -/
theorem lw_c19 {p : Program} {l : Launch} {e : Env} {s : State} {m : MethodId} {below : List Frame} {meth : Method} {c : Code} {G : ecG} {X Y : Nat → Prop} {b L x y zo zd i : Nat} {ya : Nat → Nat} {xs : Nat → Int32} {H : Heap} {locs : List Loc} {M : ecM} {th : Int32} {f : Nat → Int64} {fd : Nat → UInt64} {ls : Array Slot} {cells slots : Nat} {Q : State → Prop} (F : lwF p l s m c G X Y b L xs zo zd) (I : lwI s G X Y x y zo zd ya H locs M M th f fd) (hi : i + 7 ≤ L) (hl : lv_has ls 9 (lwL b x y zo zd i)) (hc : cells + 8 ≤ room_1.cells) (hs : slots + 150 ≤ room_1.slots) (kk : ∀ (H : Heap) (locs : List Loc) (M : ecM) (th : Int32) (f : Nat → Int64) (fd : Nat → UInt64) (ls : Array Slot), lwI s G X Y x y zo zd ya H locs M M th f fd → lv_has ls 9 (lwL b x y zo zd i) → W p l e room_1 s m #[Value.ref b] below meth c H locs (cells + 8) (slots + 150) Q (F0 m 2146 ls [])) : W p l e room_1 s m #[Value.ref b] below meth c H locs cells slots Q (F0 m 1431 ls []) := by
  obtain ⟨hC, hls, hOk, hX, hbl, hL, hAN, hXA, hYA, hoA, hdA, hYX, hXo, hXd, hYo, hYd, hdo⟩ := id F
  have hK := hOk.1
  have hY : ∀ q, Y q → ecN0 G ≤ q := fun q h => hAN q (hYA q h)
  have hwf := I.2.2.1.wf
  obtain ⟨hS, hXs, hEC, hx, hz, hzd⟩ := id I
  have hl : lv_has ls 9 [(0, .ref b), (1, .ref x), (2, .ref y), (3, .ref zo), (4, .ref zd), (5, .int (nI i))] := hl
  refine lv_aload_n hC.1 hC.2.1 dL_law_1431 rfl (lv_at hl 1 rfl) ?_
  refine lv_aload_n hC.1 hC.2.1 dL_law_1432 rfl (lv_at hl 0 rfl) ?_
  refine lv_iload hC.1 hC.2.1 dL_law_1433 (lv_at hl 5 rfl) ?_
  refine lv_iconst (v := 1) hC.1 hC.2.1 dL_law_1435 (by decide) ?_
  refine lv_iadd hC.1 hC.2.1 dL_law_1436 ?_
  refine lw_ld hC hX hbl hS hL (i + 1) (nI_add i 1) (by omega) dL_law_1437 ?_
  refine lv_aload_n hC.1 hC.2.1 dL_law_1438 rfl (lv_at hl 0 rfl) ?_
  refine lv_iload hC.1 hC.2.1 dL_law_1439 (lv_at hl 5 rfl) ?_
  refine lv_iconst (v := 2) hC.1 hC.2.1 dL_law_1441 (by decide) ?_
  refine lv_iadd hC.1 hC.2.1 dL_law_1442 ?_
  refine lw_ld hC hX hbl hS hL (i + 2) (nI_add i 2) (by omega) dL_law_1443 ?_
  refine lv_aload_n hC.1 hC.2.1 dL_law_1444 rfl (lv_at hl 3 rfl) ?_
  refine ec_goXE1 (ec_xSH hC (c_L_rightSamples l hls G X M x zo f hXo (hAN _ hoA) (xs (i + 1)) (xs (i + 2))) kL_186 (hOk.at hS hAN) ⟨hXs, hEC, hz⟩ hl.1 ⟨Nat.le_of_ble_eq_true rfl, Nat.le_of_ble_eq_true rfl⟩ rfl (Nat.le_of_ble_eq_true rfl) dL_law_1445 ⟨hc, hs⟩) hS (fun q h => h.elim (hXA q) (fun h => by rw [h]; exact hoA)) (fun _ _ _ _ _ hx9 => hx9.elim) (fun H locs hp hzs hk1 hS => ?_)
  obtain ⟨hEC, f, hz, hf⟩ := hp
  rw [ite_self] at hEC
  have I := I.hlp F hS hzs hk1 hEC hz
  obtain ⟨hS, hXs, hEC, hx, hz, hzd⟩ := id I
  refine lv_istore (lv' := [(6, .int (nI (thPr M (xs (i + 1)) (xs (i + 2))))), (0, .ref b), (1, .ref x), (2, .ref y), (3, .ref zo), (4, .ref zd), (5, .int (nI i))]) hC.1 hC.2.1 dL_law_1448 hl (by decide) rfl (fun ls hl => ?_)
  refine lv_aload_n hC.1 hC.2.1 dL_law_1450 rfl (lv_at hl 3 rfl) ?_
  refine lv_aload_n hC.1 hC.2.1 dL_law_1451 rfl (lv_at hl 1 rfl) ?_
  refine lv_iload hC.1 hC.2.1 dL_law_1452 (lv_at hl 6 rfl) ?_
  refine lv_iconst (v := 1) hC.1 hC.2.1 dL_law_1454 (by decide) ?_
  refine lv_iadd hC.1 hC.2.1 dL_law_1455 ?_
  refine lw_ld hC hX hbl hS hL (i + 1) (nI_add i 1) (by omega) dL_law_1456 ?_
  refine lv_aload_n hC.1 hC.2.1 dL_law_1457 rfl (lv_at hl 1 rfl) ?_
  refine lv_iload hC.1 hC.2.1 dL_law_1458 (lv_at hl 6 rfl) ?_
  refine lv_iconst (v := 2) hC.1 hC.2.1 dL_law_1460 (by decide) ?_
  refine lv_iadd hC.1 hC.2.1 dL_law_1461 ?_
  refine lw_ld hC hX hbl hS hL (i + 2) (nI_add i 2) (by omega) dL_law_1462 ?_
  refine ec_goEi (ec_rV hC (c_X6_rightSamples l G Y M th y ya hY hwf (xs (i + 1)) (xs (i + 2))) kL_188 (hOk.at hS hAN) hx (ec_rc hK hx.1 ⟨_, _, rfl⟩) hl.1 ⟨Nat.le_of_ble_eq_true rfl, Nat.le_of_ble_eq_true rfl⟩ rfl (Nat.le_of_ble_eq_true rfl) dL_law_1463 ⟨hc, hs⟩) hS hYA (fun w H locs hp hzs hk1 hS => ?_)
  obtain ⟨hw, hp⟩ := hp
  have I := I.mod F hS hzs hk1 hp
  obtain ⟨hS, hXs, hEC, hx, hz, hzd⟩ := id I
  refine lv_istore (lv' := [(7, .int w), (6, .int (nI (thPr M (xs (i + 1)) (xs (i + 2))))), (0, .ref b), (1, .ref x), (2, .ref y), (3, .ref zo), (4, .ref zd), (5, .int (nI i))]) hC.1 hC.2.1 dL_law_1466 hl (by decide) rfl (fun ls hl => ?_)
  refine lv_aload_n hC.1 hC.2.1 dL_law_1468 rfl (lv_at hl 4 rfl) ?_
  refine ec_go1 (ec_rV hC (c_X6_thrown l G Y _ _ y ya) kL_122 (hOk.at hS hAN) hx (ec_rc hK hx.1 ⟨_, _, rfl⟩) hl.1 ⟨Nat.le_of_ble_eq_true rfl, Nat.le_of_ble_eq_true rfl⟩ rfl (Nat.le_of_ble_eq_true rfl) dL_law_1469 ⟨hc, hs⟩) ?_
  refine lv_iload hC.1 hC.2.1 dL_law_1472 (lv_at hl 1 rfl) ?_
  refine lv_icmp_eq (tgt := 1479) hC.1 hC.2.1 dL_law_1474 (by decide) (fun c_1474 => ?_) (fun c => absurd rfl c)
  refine lv_iload hC.1 hC.2.1 dL_law_1479 (lv_at hl 1 rfl) ?_
  refine lv_if_ne (tgt := 1496) hC.1 hC.2.1 dL_law_1481 (by decide) (fun c_1481 => ?_) (fun c_1481 => ?_)
  · refine lv_goto (tgt := 2146) hC.1 hC.2.1 dL_law_1496 (by decide) ?_
    exact kk _ _ _ _ _ _ _ I (lv_sub hl [2, 3, 4, 5, 6, 7] rfl)
  · refine lv_aload_n hC.1 hC.2.1 dL_law_1484 rfl (lv_at hl 5 rfl) ?_
    refine lv_iconst (v := 0) hC.1 hC.2.1 dL_law_1485 (by decide) ?_
    have hT : thPr M (xs (i + 1)) (xs (i + 2)) = 0 := (nI_eq (b := 0) (by first | exact thPr_lt _ | exact thPr_lt _ _ | exact thPr_lt _ _ _ | exact thPr_lt _ _ _ _ | exact thPr_lt _ _ _ _ _ | exact thPr_lt _ _ _ _ _ _ | exact thPr_lt _ _ _ _ _ _ _) (by decide)).mp c_1481
    have hf := hf hT
    have hw := hw hT
    subst hw
    have hl : lv_has ls 9 [(7, .int (nI (rgt (smA M (cN (xs (i + 2)))) (tpA M (cN (xs (i + 1))))))), (6, .int (nI (thPr M (xs (i + 1)) (xs (i + 2))))), (0, .ref b), (1, .ref x), (2, .ref y), (3, .ref zo), (4, .ref zd), (5, .int (nI i))] := hl
    refine ec_lald hC hK hz 0 rfl (by decide) (by decide) dL_law_1486 ?_
    refine lv_iload hC.1 hC.2.1 dL_law_1487 (lv_at hl 0 rfl) ?_
    refine lv_i2l hC.1 hC.2.1 dL_law_1489 rfl ?_
    refine W.lcmp hC.1 hC.2.1 dL_law_1490 ?_
    refine lv_if_eq (tgt := 1496) hC.1 hC.2.1 dL_law_1491 (by decide) (fun c_1491 => ?_) (fun c => absurd ((ec_cm0 _ _).mpr hf) c)
    refine lv_goto (tgt := 2146) hC.1 hC.2.1 dL_law_1496 (by decide) ?_
    exact kk _ _ _ _ _ _ _ I (lv_sub hl [2, 3, 4, 5, 6, 7] rfl)
