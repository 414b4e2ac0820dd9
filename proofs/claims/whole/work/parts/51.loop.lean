set_option maxHeartbeats 4000000 in
set_option maxRecDepth 100000 in
/-- THE LAW'S LOOP -/
theorem law_loop {p : Program} {l : Launch} {e : Env} {s : State} {m : MethodId} {below : List Frame} {meth : Method} {c : Code} {G : ecG} {X Y : Nat → Prop} {b L x y zo zd : Nat} {ya : Nat → Nat} {xs : Nat → Int32} (F : lwF p l s m c G X Y b L xs zo zd) (hr : meth.sig.returnType = ret) (hlocks : meth.locks = false) :
    ∀ (n k : Nat), L ≤ 7 * (k + n) → 7 * k ≤ L → ∀ (H : Heap) (locs : List Loc) (M : ecM) (th : Int32) (f : Nat → Int64) (fd : Nat → UInt64) (ls : Array Slot), lwI s G X Y x y zo zd ya H locs M M th f fd → lv_has ls 9 (lwL b x y zo zd (7 * k)) → W p l e room_1 s m #[Value.ref b] below meth c H locs (40 + 8 * k) (1200 + 150 * k) (lw_Z below #[Value.ref b] s) (F0 m 28 ls []) := by
  obtain ⟨hC, hls, hOk, hX, hbl, hL, hAN, hXA, hYA, hoA, hdA, hYX, hXo, hXd, hYo, hYd, hdo⟩ := id F
  have hK := hOk.1
  have hbA : ¬ (fun q : Nat => s.heap.size ≤ q) b := Nat.not_le.mpr hbl
  intro n
  induction n with
  | zero =>
    intro k h1 h2 H locs M th f fd ls I hl
    have hS := I.1
    have hl : lv_has ls 9 [(0, .ref b), (1, .ref x), (2, .ref y), (3, .ref zo), (4, .ref zd), (5, .int (nI (7 * k)))] := hl
    refine lv_iload hC.1 hC.2.1 dL_law_28 (lv_at hl 5 rfl) ?_
    refine lv_aload_n hC.1 hC.2.1 dL_law_30 rfl (lv_at hl 0 rfl) ?_
    refine va_slen hC.1 hC.2.1 hX hbl hbA hS dL_law_31 ?_
    refine lv_bipush (v := 7) hC.1 hC.2.1 dL_law_32 (by decide) ?_
    refine lv_isub hC.1 hC.2.1 dL_law_34 ?_
    refine lv_icmp_gt (tgt := 2152) hC.1 hC.2.1 dL_law_35 (by decide) (fun _ => ?_) (fun c9 => absurd ((lw_gt (by omega) hL).mpr (by omega)) c9)
    refine lv_iconst (v := 1) hC.1 hC.2.1 dL_law_2152 (by decide) ?_
    refine va_forget (fun q hq => hS.2.2 q hq) ?_
    refine W.widen (k := 601024) (n := 7293034) (by omega) (by omega) ?_
    refine W.base ?_
    exact lw_ret (fun _ => ⟨Nat.le_refl _, fun _ => rfl⟩) hC.1 hC.2.1 hr hlocks dL_law_2153
  | succ n ih =>
    intro k h1 h2 H locs M th f fd ls I hl
    have hS := I.1
    have hl : lv_has ls 9 [(0, .ref b), (1, .ref x), (2, .ref y), (3, .ref zo), (4, .ref zd), (5, .int (nI (7 * k)))] := hl
    refine lv_iload hC.1 hC.2.1 dL_law_28 (lv_at hl 5 rfl) ?_
    refine lv_aload_n hC.1 hC.2.1 dL_law_30 rfl (lv_at hl 0 rfl) ?_
    refine va_slen hC.1 hC.2.1 hX hbl hbA hS dL_law_31 ?_
    refine lv_bipush (v := 7) hC.1 hC.2.1 dL_law_32 (by decide) ?_
    refine lv_isub hC.1 hC.2.1 dL_law_34 ?_
    refine lv_icmp_gt (tgt := 2152) hC.1 hC.2.1 dL_law_35 (by decide) (fun _ => ?_) (fun c9 => ?_)
    · refine lv_iconst (v := 1) hC.1 hC.2.1 dL_law_2152 (by decide) ?_
      refine va_forget (fun q hq => hS.2.2 q hq) ?_
      refine W.widen (k := 601024) (n := 7293034) (by omega) (by omega) ?_
      refine W.base ?_
      exact lw_ret (fun _ => ⟨Nat.le_refl _, fun _ => rfl⟩) hC.1 hC.2.1 hr hlocks dL_law_2153
    · have hi : 7 * k + 7 ≤ L := Nat.not_lt.mp (fun z => c9 ((lw_gt (by omega) hL).mpr z))
      have hc : 40 + 8 * k + 8 ≤ room_1.cells := Nat.le_trans (show 40 + 8 * k + 8 ≤ 601024 by omega) (Nat.le_of_ble_eq_true rfl)
      have hs : 1200 + 150 * k + 150 ≤ room_1.slots := Nat.le_trans (show 1200 + 150 * k + 150 ≤ 7293034 by omega) (Nat.le_of_ble_eq_true rfl)
      have kk : ∀ (H : Heap) (locs : List Loc) (M : ecM) (th : Int32) (f : Nat → Int64) (fd : Nat → UInt64) (ls : Array Slot), lwI s G X Y x y zo zd ya H locs M M th f fd → lv_has ls 9 (lwL b x y zo zd (7 * k)) → W p l e room_1 s m #[Value.ref b] below meth c H locs (40 + 8 * k + 8) (1200 + 150 * k + 150) (lw_Z below #[Value.ref b] s) (F0 m 2146 ls []) := by
        intro H locs M th f fd ls I hl
        have hl : lv_has ls 9 [(0, .ref b), (1, .ref x), (2, .ref y), (3, .ref zo), (4, .ref zd), (5, .int (nI (7 * k)))] := hl
        refine lv_iinc (v := nI (7 * k + 7)) (lv' := [(5, .int (nI (7 * k + 7))), (0, .ref b), (1, .ref x), (2, .ref y), (3, .ref zo), (4, .ref zd)]) hC.1 hC.2.1 dL_law_2146 hl (k := 5) rfl (nI_add (7 * k) 7) (by decide) rfl (fun ls hl => ?_)
        refine lv_goto (tgt := 28) hC.1 hC.2.1 dL_law_2149 (by decide) ?_
        refine W.widen (k := 40 + 8 * (k + 1)) (n := 1200 + 150 * (k + 1)) (by omega) (by omega) ?_
        exact ih (k + 1) (by omega) (by omega) H locs M th f fd ls I (lv_sub hl [1, 2, 3, 4, 5, 0] rfl)
      refine lv_aload_n hC.1 hC.2.1 dL_law_38 rfl (lv_at hl 0 rfl) ?_
      refine lv_iload hC.1 hC.2.1 dL_law_39 (lv_at hl 5 rfl) ?_
      refine lw_ld hC hX hbl hS hL (7 * k) rfl (by omega) dL_law_41 ?_
      refine lv_bipush (v := 31) hC.1 hC.2.1 dL_law_42 (by decide) ?_
      refine lv_iand hC.1 hC.2.1 dL_law_44 ?_
      obtain ⟨j, hj, ej⟩ := pk_andE (xs (7 * k)) (m := 31) 5 (by decide)
      refine ec_topi (y := nI j) ej ?_
      have hl9 : lv_has ls 9 (lwL b x y zo zd (7 * k)) := hl
      have hj : j = 0 ∨ j = 1 ∨ j = 2 ∨ j = 3 ∨ j = 4 ∨ j = 5 ∨ j = 6 ∨ j = 7 ∨ j = 8 ∨ j = 9 ∨ j = 10 ∨ j = 11 ∨ j = 12 ∨ j = 13 ∨ j = 14 ∨ j = 15 ∨ j = 16 ∨ j = 17 ∨ j = 18 ∨ j = 19 ∨ j = 20 ∨ j = 21 ∨ j = 22 ∨ j = 23 ∨ j = 24 ∨ j = 25 ∨ j = 26 ∨ j = 27 ∨ j = 28 ∨ j = 29 ∨ j = 30 ∨ j = 31 := by omega
      rcases hj with rfl | rfl | rfl | rfl | rfl | rfl | rfl | rfl | rfl | rfl | rfl | rfl | rfl | rfl | rfl | rfl | rfl | rfl | rfl | rfl | rfl | rfl | rfl | rfl | rfl | rfl | rfl | rfl | rfl | rfl | rfl | rfl
      · exact lv_tableIn (x := nI 0) (off := 135) (tgt := 180) hC.1 hC.2.1 dL_law_45 (by decide) (by decide) rfl (by decide) (lw_c0 F I hi hl9 hc hs kk)
      · exact lv_tableIn (x := nI 1) (off := 179) (tgt := 224) hC.1 hC.2.1 dL_law_45 (by decide) (by decide) rfl (by decide) (lw_c1 F I hi hl9 hc hs kk)
      · exact lv_tableIn (x := nI 2) (off := 287) (tgt := 332) hC.1 hC.2.1 dL_law_45 (by decide) (by decide) rfl (by decide) (lw_c2 F I hi hl9 hc hs kk)
      · exact lv_tableIn (x := nI 3) (off := 343) (tgt := 388) hC.1 hC.2.1 dL_law_45 (by decide) (by decide) rfl (by decide) (lw_c3 F I hi hl9 hc hs kk)
      · exact lv_tableIn (x := nI 4) (off := 399) (tgt := 444) hC.1 hC.2.1 dL_law_45 (by decide) (by decide) rfl (by decide) (lw_c4 F I hi hl9 hc hs kk)
      · exact lv_tableIn (x := nI 5) (off := 462) (tgt := 507) hC.1 hC.2.1 dL_law_45 (by decide) (by decide) rfl (by decide) (lw_c5 F I hi hl9 hc hs kk)
      · exact lv_tableIn (x := nI 6) (off := 518) (tgt := 563) hC.1 hC.2.1 dL_law_45 (by decide) (by decide) rfl (by decide) (lw_c6 F I hi hl9 hc hs kk)
      · exact lv_tableIn (x := nI 7) (off := 636) (tgt := 681) hC.1 hC.2.1 dL_law_45 (by decide) (by decide) rfl (by decide) (lw_c7 F I hi hl9 hc hs kk)
      · exact lv_tableIn (x := nI 8) (off := 704) (tgt := 749) hC.1 hC.2.1 dL_law_45 (by decide) (by decide) rfl (by decide) (lw_c8 F I hi hl9 hc hs kk)
      · exact lv_tableIn (x := nI 9) (off := 760) (tgt := 805) hC.1 hC.2.1 dL_law_45 (by decide) (by decide) rfl (by decide) (lw_c9 F I hi hl9 hc hs kk)
      · exact lv_tableIn (x := nI 10) (off := 880) (tgt := 925) hC.1 hC.2.1 dL_law_45 (by decide) (by decide) rfl (by decide) (lw_c10 F I hi hl9 hc hs kk)
      · exact lv_tableIn (x := nI 11) (off := 936) (tgt := 981) hC.1 hC.2.1 dL_law_45 (by decide) (by decide) rfl (by decide) (lw_c11 F I hi hl9 hc hs kk)
      · exact lv_tableIn (x := nI 12) (off := 949) (tgt := 994) hC.1 hC.2.1 dL_law_45 (by decide) (by decide) rfl (by decide) (lw_c12 F I hi hl9 hc hs kk)
      · exact lv_tableIn (x := nI 13) (off := 1005) (tgt := 1050) hC.1 hC.2.1 dL_law_45 (by decide) (by decide) rfl (by decide) (lw_c13 F I hi hl9 hc hs kk)
      · exact lv_tableIn (x := nI 14) (off := 1061) (tgt := 1106) hC.1 hC.2.1 dL_law_45 (by decide) (by decide) rfl (by decide) (lw_c14 F I hi hl9 hc hs kk)
      · exact lv_tableIn (x := nI 15) (off := 1128) (tgt := 1173) hC.1 hC.2.1 dL_law_45 (by decide) (by decide) rfl (by decide) (lw_c15 F I hi hl9 hc hs kk)
      · exact lv_tableIn (x := nI 16) (off := 1184) (tgt := 1229) hC.1 hC.2.1 dL_law_45 (by decide) (by decide) rfl (by decide) (lw_c16 F I hi hl9 hc hs kk)
      · exact lv_tableIn (x := nI 17) (off := 1251) (tgt := 1296) hC.1 hC.2.1 dL_law_45 (by decide) (by decide) rfl (by decide) (lw_c17 F I hi hl9 hc hs kk)
      · exact lv_tableIn (x := nI 18) (off := 1307) (tgt := 1352) hC.1 hC.2.1 dL_law_45 (by decide) (by decide) rfl (by decide) (lw_c18 F I hi hl9 hc hs kk)
      · exact lv_tableIn (x := nI 19) (off := 1386) (tgt := 1431) hC.1 hC.2.1 dL_law_45 (by decide) (by decide) rfl (by decide) (lw_c19 F I hi hl9 hc hs kk)
      · exact lv_tableIn (x := nI 20) (off := 1454) (tgt := 1499) hC.1 hC.2.1 dL_law_45 (by decide) (by decide) rfl (by decide) (lw_c20 F I hi hl9 hc hs kk)
      · exact lv_tableIn (x := nI 21) (off := 1517) (tgt := 1562) hC.1 hC.2.1 dL_law_45 (by decide) (by decide) rfl (by decide) (lw_c21 F I hi hl9 hc hs kk)
      · exact lv_tableIn (x := nI 22) (off := 1573) (tgt := 1618) hC.1 hC.2.1 dL_law_45 (by decide) (by decide) rfl (by decide) (lw_c22 F I hi hl9 hc hs kk)
      · exact lv_tableIn (x := nI 23) (off := 1586) (tgt := 1631) hC.1 hC.2.1 dL_law_45 (by decide) (by decide) rfl (by decide) (lw_c23 F I hi hl9 hc hs kk)
      · exact lv_tableIn (x := nI 24) (off := 1720) (tgt := 1765) hC.1 hC.2.1 dL_law_45 (by decide) (by decide) rfl (by decide) (lw_c24 F I hi hl9 hc hs kk)
      · exact lv_tableIn (x := nI 25) (off := 1854) (tgt := 1899) hC.1 hC.2.1 dL_law_45 (by decide) (by decide) rfl (by decide) (lw_c25 F I hi hl9 hc hs kk)
      · exact lv_tableIn (x := nI 26) (off := 1910) (tgt := 1955) hC.1 hC.2.1 dL_law_45 (by decide) (by decide) rfl (by decide) (lw_c26 F I hi hl9 hc hs kk)
      · exact lv_tableIn (x := nI 27) (off := 1966) (tgt := 2011) hC.1 hC.2.1 dL_law_45 (by decide) (by decide) rfl (by decide) (lw_c27 F I hi hl9 hc hs kk)
      · exact lv_tableIn (x := nI 28) (off := 1979) (tgt := 2024) hC.1 hC.2.1 dL_law_45 (by decide) (by decide) rfl (by decide) (lw_c28 F I hi hl9 hc hs kk)
      · exact lv_tableIn (x := nI 29) (off := 2035) (tgt := 2080) hC.1 hC.2.1 dL_law_45 (by decide) (by decide) rfl (by decide) (lw_c29 F I hi hl9 hc hs kk)
      · refine lv_tableOut (x := nI 30) (tgt := 2146) hC.1 hC.2.1 dL_law_45 (Or.inr (by decide)) (by decide) ?_
        exact W.widen (Nat.le_add_right _ _) (Nat.le_add_right _ _) (kk _ _ _ _ _ _ _ I hl9)
      · refine lv_tableOut (x := nI 31) (tgt := 2146) hC.1 hC.2.1 dL_law_45 (Or.inr (by decide)) (by decide) ?_
        exact W.widen (Nat.le_add_right _ _) (Nat.le_add_right _ _) (kk _ _ _ _ _ _ _ I hl9)

theorem EC.mono {G : ecG} {X X2 : Nat → Prop} {M : ecM} {x : Nat} {H : Heap} (h : EC G X M x H) (k : ∀ q, q < H.size → X q → X2 q) : EC G X2 M x H := by
  obtain ⟨tg, ad, h0, h1, h2, h3, h4, h5, h6, h7⟩ := h
  have t9 : ∀ {a t : Nat} {e : va_E}, ecT G X tg H a t e → ecT G X2 tg H a t e := fun z => ⟨z.1, z.2.1, k _ z.1.lt z.2.2⟩
  refine ⟨tg, ad, h0, t9 h1, fun j hj => ?_, fun i hi => ⟨t9 (h3 i hi).1, t9 (h3 i hi).2⟩, fun i hi => ⟨t9 (h4 i hi).1, t9 (h4 i hi).2.1, t9 (h4 i hi).2.2⟩, fun i hi => ⟨t9 (h5 i hi).1, t9 (h5 i hi).2.1, t9 (h5 i hi).2.2⟩, fun i hi => ⟨t9 (h6 i hi).1, t9 (h6 i hi).2⟩, h7⟩
  obtain ⟨mc, ⟨hn, h⟩ | ⟨cap, g, a1, a2, a3, h, h8, h9⟩⟩ := h2 j hj
  · exact ⟨mc, Or.inl ⟨hn, t9 h⟩⟩
  · exact ⟨mc, Or.inr ⟨cap, g, a1, a2, a3, t9 h, t9 h8, h9⟩⟩
theorem rfX.mono {G : ecG} {Y Y2 : Nat → Prop} {M : ecM} {th : Int32} {y : Nat} {ya : Nat → Nat} {H : Heap} (h : rfX G Y M th y ya H) (k : ∀ q, q < H.size → Y q → Y2 q) : rfX G Y2 M th y ya H :=
  ⟨h.1, h.2.1, h.2.2.1, h.2.2.2.1, k _ h.1.lt h.2.2.2.2.1, fun j hj => k _ (h.2.1 j hj).lt (h.2.2.2.2.2 j hj)⟩

set_option maxHeartbeats 4000000 in
set_option maxRecDepth 100000 in
/-- THE LAW, from its entry -/
theorem whole_start {p : Program} {e : Env} {s : State} {m : MethodId} {below : List Frame} {meth : Method} {c : Code} (l : Launch) (hflags : l.flags = flags0) {b L : Nat} {xs : Nat → Int32} (hL : L ≤ 3584) (C0 : lw_At p s m meth c b L xs) : W p l e room_1 s m #[Value.ref b] below meth c s.heap [] 0 0 (lw_Z below #[Value.ref b] s) (entryFrame m ([Value.ref b] : List Value).toArray 9) := by
  obtain ⟨hx, hb, hr, hml, hown, hts, hX, hbl, hlocks, hgv⟩ := C0
  have hls : l.stackTraces = false := by
    unfold Launch.stackTraces
    rw [hflags]
    decide +kernel
  obtain ⟨G, hN0, hOk⟩ := lw_ok hts hgv
  have hC : CallFix p m c cL_law 9 s #[Value.ref b] GW RL := ⟨hx, hb, hml, hown, htsG hts⟩
  have hK := hOk.1
  have hAN : ∀ q : Nat, s.heap.size ≤ q → ecN0 G ≤ q := fun q h => by rw [hN0]; exact h
  have hAN' : ∀ q, (fun q : Nat => s.heap.size ≤ q) q → ecN0 G ≤ q := hAN
  have hS : va_S (fun q : Nat => s.heap.size ≤ q) s.heap s.heap [] := va_S.rf
  have hl := lv_entry ([.ref b]) (n := 9) (Nat.le_of_ble_eq_true rfl)
  rw [lg_entry_eq]
  generalize (lg_sl ([.ref b]) ++ List.replicate (9 - (lg_sl ([.ref b])).length) Slot.unset).toArray = ls at hl ⊢
  have hl : lv_has ls 9 [(0, .ref b)] := hl
  refine ec_new hC hK hS cfX5 nL_8 (fs := [.null, .null, .null, .null, .int 0, .int 0]) (lt_s (lt_s (lt_s (lt_s (lt_s (lt_s lt_0 rfl) rfl) rfl) rfl) rfl) rfl) (Nat.le_of_ble_eq_true rfl) (Nat.le_of_ble_eq_true rfl) dL_law_0 (fun x H xe hx9 hk0 hS hz0 => ?_)
  have hA : s.heap.size ≤ H.size := hk0.1
  have hxA : s.heap.size ≤ x := by rw [xe]; exact Nat.le_refl _
  refine lv_dup hC.1 hC.2.1 dL_law_3 rfl ?_
  refine ec_goE0 (ec_rI hC (c_X5_init l G (fun q : Nat => s.heap.size ≤ q) x) kL_112 (hOk.at hS hAN') ⟨⟨hAN, fun q hq => Nat.le_trans hA hq⟩, hxA, hx9⟩ hl.1 ⟨Nat.le_of_ble_eq_true rfl, Nat.le_of_ble_eq_true rfl⟩ rfl (Nat.le_of_ble_eq_true rfl) dL_law_4 ⟨Nat.le_of_ble_eq_true rfl, Nat.le_of_ble_eq_true rfl⟩) hS (fun _ h => h) (fun H locs hEC hz hk1 hS => ?_)
  have hA : s.heap.size ≤ H.size := Nat.le_trans hA hz
  refine lv_astore_n (lv' := [(1, .ref x), (0, .ref b)]) hC.1 hC.2.1 dL_law_7 rfl hl (by decide) rfl (fun ls hl => ?_)
  obtain ⟨n1, hn1⟩ : ∃ n1, n1 = H.size := ⟨_, rfl⟩
  have hEC : EC G (fun q : Nat => s.heap.size ≤ q ∧ q < n1) mM0 x H := hEC.mono (fun q h1 h2 => ⟨h2, by rw [hn1]; exact h1⟩)
  refine ec_new hC hK hS cfX6 nL_113 (fs := [.int 0, .int 0, .int 0, .int 0, .null, .null, .int 0, .null, .null, .null, .null, .null, .null, .int 0, .null, .null, .null, .null, .int 0, .null, .null, .null, .null, .null]) (lt_s (lt_s (lt_s (lt_s (lt_s (lt_s (lt_s (lt_s (lt_s (lt_s (lt_s (lt_s (lt_s (lt_s (lt_s (lt_s (lt_s (lt_s (lt_s (lt_s (lt_s (lt_s (lt_s (lt_s lt_0 rfl) rfl) rfl) rfl) rfl) rfl) rfl) rfl) rfl) rfl) rfl) rfl) rfl) rfl) rfl) rfl) rfl) rfl) rfl) rfl) rfl) rfl) rfl) rfl) (Nat.le_of_ble_eq_true rfl) (Nat.le_of_ble_eq_true rfl) dL_law_8 (fun y H ye hy9 hk0 hS hz0 => ?_)
  have hyn : y = n1 := by rw [ye, hn1]
  have hEC := hEC.kp hk0
  have hz1 : H.size = y + 1 := by rw [hz0, ye]
  refine lv_dup hC.1 hC.2.1 dL_law_11 rfl ?_
  refine ec_goE0 (ec_rI hC (c_X6_init l G (fun q : Nat => n1 ≤ q) y) kL_115 (hOk.at hS hAN') ⟨⟨fun q hq => hAN q (by have : n1 ≤ q := hq; omega), fun q hq => by show n1 ≤ q; omega⟩, by show n1 ≤ y; omega, hz1, hy9⟩ hl.1 ⟨Nat.le_of_ble_eq_true rfl, Nat.le_of_ble_eq_true rfl⟩ rfl (Nat.le_of_ble_eq_true rfl) dL_law_12 ⟨Nat.le_of_ble_eq_true rfl, Nat.le_of_ble_eq_true rfl⟩) hS (fun q h => by have h : n1 ≤ q := h; show s.heap.size ≤ q; omega) (fun H locs hp hz hk1 hS => ?_)
  obtain ⟨ya, hrx⟩ := hp
  have hEC := hEC.ot (Y := fun q : Nat => n1 ≤ q) hk1 (fun q hq z => by have h1 : q < n1 := hq.2; have h2 : n1 ≤ q := z; omega)
  refine lv_astore_n (lv' := [(2, .ref y), (1, .ref x), (0, .ref b)]) hC.1 hC.2.1 dL_law_15 rfl hl (by decide) rfl (fun ls hl => ?_)
  obtain ⟨n2, hn2⟩ : ∃ n2, n2 = H.size := ⟨_, rfl⟩
  have hn12 : n1 < n2 := by omega
  have hrx : rfX G (fun q : Nat => n1 ≤ q ∧ q < n2) mM0 0 y ya H := hrx.mono (fun q h1 h2 => ⟨h2, by rw [hn2]; exact h1⟩)
  refine lv_iconst (v := 1) hC.1 hC.2.1 dL_law_16 (by decide) ?_
  refine ec_newJ hC hK hS q523 1 rfl (by decide) (Nat.le_of_ble_eq_true rfl) (Nat.le_of_ble_eq_true rfl) dL_law_17 (fun zo H zoe hzo hk0 hS hz0 => ?_)
  have hEC := hEC.kp hk0
  have hrx := hrx.kp hk0
  refine lv_astore_n (lv' := [(3, .ref zo), (2, .ref y), (1, .ref x), (0, .ref b)]) hC.1 hC.2.1 dL_law_19 rfl hl (by decide) rfl (fun ls hl => ?_)
  refine lv_iconst (v := 1) hC.1 hC.2.1 dL_law_20 (by decide) ?_
  have hzs0 := hz0
  refine ec_newD hC hK hS q1009 1 rfl (by decide) (Nat.le_of_ble_eq_true rfl) (Nat.le_of_ble_eq_true rfl) dL_law_21 (fun zd H zde hzd hk0 hS hz0 => ?_)
  have hEC := hEC.kp hk0
  have hrx := hrx.kp hk0
  have hzo := hzo.kp hk0
  refine lv_astore (lv' := [(4, .ref zd), (3, .ref zo), (2, .ref y), (1, .ref x), (0, .ref b)]) hC.1 hC.2.1 dL_law_23 hl (by decide) rfl (fun ls hl => ?_)
  refine lv_iconst (v := 0) hC.1 hC.2.1 dL_law_25 (by decide) ?_
  refine lv_istore (lv' := [(5, .int 0), (4, .ref zd), (3, .ref zo), (2, .ref y), (1, .ref x), (0, .ref b)]) hC.1 hC.2.1 dL_law_26 hl (by decide) rfl (fun ls hl => ?_)
  refine W.widen (k := 40 + 8 * 0) (n := 1200 + 150 * 0) (Nat.le_of_ble_eq_true rfl) (Nat.le_of_ble_eq_true rfl) ?_
  have e1 : zo = n2 := by omega
  have e2 : zd = n2 + 1 := by omega
  have e3 : H.size = n2 + 2 := by omega
  have e4 : s.heap.size ≤ n1 := by omega
  refine law_loop (X := fun q : Nat => (s.heap.size ≤ q ∧ q < n1) ∨ n2 + 2 ≤ q) (Y := fun q : Nat => n1 ≤ q ∧ q < n2) (zo := zo) (zd := zd) (xs := xs) (ya := ya) ⟨hC, hls, hOk, hX, hbl, hL, hAN, ?_, ?_, ?_, ?_, ?_, ?_, ?_, ?_, ?_, ?_⟩ hr hlocks L 0 (by omega) (by omega) H _ mM0 0 _ _ ls ⟨hS, ⟨?_, ?_⟩, hEC.mono (fun q _ h => Or.inl h), hrx, hzo, hzd⟩ (lv_sub hl [5, 4, 3, 2, 1, 0] rfl)
  · intro q h
    rcases h with h | h
    · exact h.1
    · show s.heap.size ≤ q; omega
  · intro q h
    have h1 : n1 ≤ q := h.1
    show s.heap.size ≤ q; omega
  · omega
  · omega
  · intro q h z
    have h1 : n1 ≤ q := h.1
    have h2 : q < n2 := h.2
    rcases z with z | z
    · have := z.2; omega
    · omega
  · intro z
    rcases z with z | z
    · have := z.2; omega
    · omega
  · intro z
    rcases z with z | z
    · have := z.2; omega
    · omega
  · intro z
    have := z.2; omega
  · intro z
    have := z.2; omega
  · omega
  · intro q h
    refine hAN q ?_
    rcases h with h | h
    · exact h.1
    · show s.heap.size ≤ q; omega
  · intro q h
    exact Or.inr (by omega)

set_option maxHeartbeats 4000000 in
theorem lw_walk (l : Launch) (hflags : l.flags = flags0) (b : Addr) (xs : List Int32) : MetFree l x (headSpec (Jvm.Cond.code x code maxLocals ret :: tables_1) room_1) (lw_P b xs) (fun _ _ _ _ _ => True) lw_Q := by
  refine MetFree.of_bodyS (code := code) (maxLocals := maxLocals) (ret := ret) (by decide) ?_ ?_
  · intro args s m h hn
    obtain ⟨meth, c, h1, h2, h3, h4, h5, h6, -, -⟩ := Cond.code_spec hn (atoms_spec (ws := Jvm.Cond.code x code maxLocals ret :: tables_1) h _ List.mem_cons_self)
    exact ⟨meth, c, h1, h2, h3, h4, h5, h6⟩
  · intro p e s m args below meth c s₁ B hml0 hP _
    obtain ⟨rfl, hx, hbd, hgv⟩ := hP
    obtain ⟨scr, harrAt, hlist, hof, hsmall⟩ := hx
    obtain ⟨hcb, hkn, -, -⟩ := State.arrayAt?_spec harrAt
    have hown : s.vm.findClass R_law = some m.cls := findClass_of_methodNamed B.named
    have hts0 : ∀ c ∈ (Jvm.Cond.code x code maxLocals ret :: tables_1), c.before #[Value.ref b] s = true := atoms_spec (ws := Jvm.Cond.code x code maxLocals ret :: tables_1) B.pre
    have hts : ∀ w ∈ lw_tbl, w.before #[Value.ref b] s = true := k2_hts_sels lw_privs (fun w hw => hts0 w (List.mem_cons_of_mem _ hw)) lw_privs_ok
    have hml : c.maxLocals = 9 := B.maxLocals_eq (hts0 _ List.mem_cons_self)
    have X₀ : Stand p l e room_1 s m #[Value.ref b] below meth c s₁ [] 0 0 := Stand.of_body B
    have hh0 : s₁.heap = s.heap := by rw [B.state]; rfl
    have hsz : scr.slots.size = xs.length := by rw [← Array.length_toList, hlist, List.length_map]
    have hval : ∀ j : Nat, j < xs.length → scr.slots[j]? = some (.int (xs.getD j 0)) := fun j hj => by
      rw [← Array.getElem?_toList, hlist]
      simp [hj]
    have hbl : b < s.heap.size := (Array.getElem?_eq_some_iff.mp hcb).1
    have hX : va_X b xs.length (fun j => xs.getD j 0) s s.heap := ⟨scr, hcb, hof, hkn, hsz, hval⟩
    have K : W p l e room_1 s m #[Value.ref b] below meth c s₁.heap [] 0 0 (lw_Z below #[Value.ref b] s) (entryFrame m ([Value.ref b] : List Value).toArray 9) := by
      rw [hh0]
      exact whole_start l hflags hbd ⟨B.exec, B.bytes, B.returns, hml, hown, hts, hX, hbl, B.notSynchronized, hgv⟩
    obtain ⟨t, a1, o, b1, b2, b3⟩ := K s₁ rfl X₀
    exact ⟨t, o, a1, b1, b2, b3⟩
theorem lw_pre_spec {args : Array Value} {s : State} (h : (Jvm.Cond.and given_1 narrow_1).before args s = true) (hr : rest_1_c.before args s = true) : ∃ (b : Addr) (xs : List Int32), lw_P b xs args s := by
  have hs := flat_of_before _ h
  have hq := flat_of_before _ hr
  have hc : (Cond.count 1).before args s = true := hs _ (by decide +kernel)
  have harr : (Cond.arrayOf (.arg 0) .int).before args s = true := hs _ (by decide +kernel)
  have hle : (Cond.le (.length (.arg 0)) (.int 3584)).before args s = true := hs _ (by decide +kernel)
  have hlen : (Cond.isInt (.length (.arg 0))).before args s = true := hq _ (by decide +kernel)
  have hall : (Cond.all (.arg 0) (.isInt (.elem (.arg 0) (.index 0)))).before args s = true := hq _ (by decide +kernel)
  obtain ⟨b, xs, hb, hx⟩ := State.ints_of_pre rfl harr hlen hall
  have hsm : xs.length < 2 ^ 31 := hx.choose_spec.2.2.2
  have hev : (Term.length (.arg 0)).eval args s none [] s = some (.int xs.length.toInt32) := hx.length_eval hb
  have hv := Cond.le_ints hev (show (Term.int 3584).eval args s none [] s = some (.int 3584) from rfl)
  have hd : xs.length.toInt32 ≤ 3584 := by
    simpa [Cond.before, Cond.holds, hv] using hle
  have hN : xs.length ≤ 3584 := (Int32.ofNat_le_ofNat hsm (by decide)).mp (show Int32.ofNat xs.length ≤ Int32.ofNat 3584 from hd)
  exact ⟨b, xs, Cond.one_arg hc (show args[0]? = some (.ref b) from hb), hx, hN, h⟩
theorem lw_comes (l : Launch) (hflags : l.flags = flags0) : Comes l x (Jvm.Cond.code x code maxLocals ret :: tables_1) room_1 (fun tb e args s => Calls_1 tb e args s ∧ rest_1 tb e args s ∧ Pre_1 tb e args s)
    (fun _ _ args s o t => lw_Q args s o t) := by
  intro p e ha hc hk s m args below hf hfit hheap happ hpre
  obtain ⟨b, xs, hP⟩ := lw_pre_spec hpre.2.2 hpre.2.1
  obtain ⟨k, o, h1, h2, h3, hQ⟩ := lw_walk l hflags b xs p e ha hc hk s m args below hf ((Spec.applies_iff_loose hf).mp happ).1 hP trivial
  exact ⟨k, o, h1, h2, h3, hQ⟩
theorem lw_frame {s t : State} {o : Outcome} {args : Array Value} (h : State.butDraws s t lw_cs (fun t1 => Framed s o t1 [] 601024 7293034)) :
    State.butDraws s t [Jvm.Choice.named "NaN.bits"] (fun t1 => Framed s o t1 (fieldLocs frame_1_writes args s ++ arrayLocs frame_1_arrays args s ++ staticLocs frame_1_statics s) 601024 7293034) := h
theorem lw_limb (L : Cond) (hL : ∀ (args : Array Value) (s t : State), L.after args s (.returned (some (.int 1))) t = true) :
    ArmFor flags0 classFile x code maxLocals ret World_1 tables_1 room_1 Calls_1 rest_1 Pre_1
      (fun tb e a s o t => postC L tb e a s o t ∧ State.butDraws s t [Jvm.Choice.named "NaN.bits"] (fun t1 => Framed s o t1 (fieldLocs frame_1_writes a s ++ arrayLocs frame_1_arrays a s ++ staticLocs frame_1_statics s) 601024 7293034)) := by
  intro l hflags _ _ p e ha hc hk s m args below hf hfit hheap happ hpre
  obtain ⟨k, o, h1, h2, h3, rfl, hF⟩ := lw_comes l hflags p e ha hc hk s m args below hf hfit hheap happ hpre
  exact ⟨k, _, h1, h2, h3, hL args s _, lw_frame hF⟩
theorem i_vc : Claimed_1_1 ∧ Claimed_1_2 := ⟨lw_limb limb_1_1 (fun args s t => by simp [limb_1_1, Cond.after, Cond.holds, Cond.value]), lw_limb limb_1_2 (fun args s t => Cond.after_iff.mpr (by
  first | (rw [show limb_1_2 = Cond.eq .result (.int 1) from rfl, Cond.eq_ints (x := 1) (y := 1) rfl rfl]; simp; done) | (simp [limb_1_2, Cond.value, Term.eval]; done)))⟩
