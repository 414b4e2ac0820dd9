set_option maxHeartbeats 4000000 in
set_option maxRecDepth 100000 in
/-- an age -/
theorem c_X6_ageOf (l : Launch) (G : ecG) (Y : Nat → Prop) (M : ecM) (th : Int32) (y : Nat) (ya : Nat → Nat) (hwf : WF M) (a : Nat) (ha : a < mnA M) : Met l yX6_ageOf (ecWs yX6_ageOf cX6_ageOf 2 (Option.some FieldType.int)) (ecRm 1 0 0) (ecPc [.ref y, .int (nI a)] G (fun H => rfX G Y M th y ya H)) (ecRp (fun v => v = some (.int (ageM M a)))) 0 0 (fun _ => False) := by
  refine ec_met (by decide) (Nat.le_of_ble_eq_true rfl) ?_
  intro p e s m below meth c hC hr hlocks hname hOk hpre ls hl
  have hK := hOk.1
  have hx := hpre
  have hS : va_S (fun _ => False) s.heap s.heap [] := va_S.rf
  have hAN : ∀ q, (fun _ : Nat => False) q → ecN0 G ≤ q := fun _ h => h.elim
  have hl : lv_has ls 2 [(0, .ref y), (1, .int (nI a))] := hl
  have hn0 := hwf.n
  have ha1 := hwf.an ha
  refine lv_aload_n hC.1 hC.2.1 dX6_ageOf_0 rfl (lv_at hl 0 rfl) ?_
  refine ec_get hC hK hx.1 fX6_108 rfl dX6_ageOf_1 ?_
  refine lv_aload_n hC.1 hC.2.1 dX6_ageOf_4 rfl (lv_at hl 0 rfl) ?_
  refine ec_get hC hK hx.1 fX6_29 rfl dX6_ageOf_5 ?_
  refine lv_iload_n hC.1 hC.2.1 dX6_ageOf_8 rfl (lv_at hl 1 rfl) ?_
  refine ec_iald hC hK (hx.2.1 5 (by decide)) a rfl (by omega) (by omega) dX6_ageOf_9 ?_
  refine lv_isub hC.1 hC.2.1 dX6_ageOf_10 ?_
  refine lv_iconst (v := 2) hC.1 hC.2.1 dX6_ageOf_11 (by decide) ?_
  refine lv_aload_n hC.1 hC.2.1 dX6_ageOf_12 rfl (lv_at hl 0 rfl) ?_
  refine ec_get hC hK hx.1 fX6_17 rfl dX6_ageOf_13 ?_
  refine lv_aload_n hC.1 hC.2.1 dX6_ageOf_16 rfl (lv_at hl 0 rfl) ?_
  refine ec_get hC hK hx.1 fX6_20 rfl dX6_ageOf_17 ?_
  refine lv_iload_n hC.1 hC.2.1 dX6_ageOf_20 rfl (lv_at hl 1 rfl) ?_
  refine ec_iald hC hK (hx.2.1 2 (by decide)) a rfl (by omega) (by omega) dX6_ageOf_21 ?_
  refine ec_iald hC hK (hx.2.1 1 (by decide)) (M.1 1 a) rfl (by omega) (by omega) dX6_ageOf_22 ?_
  refine lv_aload_n hC.1 hC.2.1 dX6_ageOf_23 rfl (lv_at hl 0 rfl) ?_
  refine ec_get hC hK hx.1 fX6_32 rfl dX6_ageOf_24 ?_
  refine lv_iload_n hC.1 hC.2.1 dX6_ageOf_27 rfl (lv_at hl 1 rfl) ?_
  refine ec_iald hC hK (hx.2.1 6 (by decide)) a rfl (by omega) (by omega) dX6_ageOf_28 ?_
  refine lv_isub hC.1 hC.2.1 dX6_ageOf_29 ?_
  refine lv_imul hC.1 hC.2.1 dX6_ageOf_30 ?_
  refine lv_iadd hC.1 hC.2.1 dX6_ageOf_31 ?_
  exact W.iret hC.1 hC.2.1 hr (fun t9 ht9 _ => ⟨_, rfl, rfl, ht9⟩) hS.2.2 dX6_ageOf_32

set_option maxHeartbeats 4000000 in
set_option maxRecDepth 100000 in
/-- age -/
theorem c_X6_age (l : Launch) (G : ecG) (Y : Nat → Prop) (M : ecM) (th : Int32) (y : Nat) (ya : Nat → Nat) (hY : ∀ q, Y q → ecN0 G ≤ q) (hwf : WF M) (a : Int32) : Met l yX6_age (ecWs yX6_age cX6_age 2 (Option.some FieldType.int)) (ecRm 4 0 0) (ecPc [.ref y, .int a] G (fun H => rfX G Y M th y ya H)) (ecEp (fun v H1 => ∃ w : Int32, v = some (.int w) ∧ (thA M a = 0 → w = ageM M (cN a)) ∧ rfX G Y M (nI (thA M a)) y ya H1) (Y)) 0 0 (Y) := by
  refine ec_met (by decide) (Nat.le_of_ble_eq_true rfl) ?_
  intro p e s m below meth c hC hr hlocks hname hOk hpre ls hl
  have hK := hOk.1
  have hx := hpre
  have hS : va_S (Y) s.heap s.heap [] := va_S.rf
  have hAN : ∀ q, (Y) q → ecN0 G ≤ q := hY
  have hl : lv_has ls 2 [(0, .ref y), (1, .int a)] := hl
  have hn0 := hwf.n
  refine lv_aload_n hC.1 hC.2.1 dX6_age_0 rfl (lv_at hl 0 rfl) ?_
  refine lv_iload_n hC.1 hC.2.1 dX6_age_1 rfl (lv_at hl 1 rfl) ?_
  refine ec_goE1 (ec_rV hC (c_X6_failsAnswer l G Y M th y ya hY hwf a) kX6_111 (hOk.at hS hAN) hx (ec_rc hK hx.1 ⟨_, _, rfl⟩) hl.1 ⟨Nat.le_of_ble_eq_true rfl, Nat.le_of_ble_eq_true rfl⟩ rfl (Nat.le_of_ble_eq_true rfl) dX6_age_2 ⟨Nat.le_of_ble_eq_true rfl, Nat.le_of_ble_eq_true rfl⟩) hS (fun _ h => h) (fun H locs hx hz hk1 hS => ?_)
  refine lv_if_eq (tgt := 12) hC.1 hC.2.1 dX6_age_5 (by decide) (fun c_5 => ?_) (fun c_5 => ?_)
  · have hT : thA M a = 0 := fz_0.mp c_5
    obtain ⟨j, hj, rfl⟩ := ixB_t (by omega) (if_th (k := 0) hT).1
    have hjc : cN (nI j) = j := nI_clamp (by omega)
    refine lv_aload_n hC.1 hC.2.1 dX6_age_12 rfl (lv_at hl 0 rfl) ?_
    refine lv_iload_n hC.1 hC.2.1 dX6_age_13 rfl (lv_at hl 1 rfl) ?_
    refine ec_go1 (ec_rV hC (c_X6_ageOf l G Y M _ y ya hwf j hj) kX6_114 (hOk.at hS hAN) hx (ec_rc hK hx.1 ⟨_, _, rfl⟩) hl.1 ⟨Nat.le_of_ble_eq_true rfl, Nat.le_of_ble_eq_true rfl⟩ rfl (Nat.le_of_ble_eq_true rfl) dX6_age_14 ⟨Nat.le_of_ble_eq_true rfl, Nat.le_of_ble_eq_true rfl⟩) ?_
    exact W.iret hC.1 hC.2.1 hr (fun t9 ht9 _ => ⟨_, rfl, by rw [ht9]; exact ⟨_, rfl, fun _ => (by rw [hjc]), hx⟩, hS.F ht9⟩) hS.2.2 dX6_age_17
  · refine lv_iconst (v := 0) hC.1 hC.2.1 dX6_age_8 (by decide) ?_
    refine lv_goto (tgt := 17) hC.1 hC.2.1 dX6_age_9 (by decide) ?_
    exact W.iret hC.1 hC.2.1 hr (fun t9 ht9 _ => ⟨_, rfl, by rw [ht9]; exact ⟨_, rfl, fun z => absurd z (fun z => c_5 (fz_0.mpr z)), hx⟩, hS.F ht9⟩) hS.2.2 dX6_age_17

set_option maxHeartbeats 4000000 in
set_option maxRecDepth 100000 in
/-- the latest of these -/
theorem c_X6_latestOf (l : Launch) (G : ecG) (Y : Nat → Prop) (M : ecM) (th : Int32) (y : Nat) (ya : Nat → Nat) (hwf : WF M) (r k : Nat) (pl : Int32) (hr9 : r < mnR M) (hk8 : k < 80) : Met l yX6_latestOf (ecWs yX6_latestOf cX6_latestOf 6 (Option.some FieldType.int)) (ecRm 1 0 0) (ecPc [.ref y, .int (nI r), .int pl, .int (nI k)] G (fun H => rfX G Y M th y ya H)) (ecRp (fun v => v = some (.int (oI (latN M r pl k (mnA M)))))) 0 0 (fun _ => False) := by
  refine ec_met (by decide) (Nat.le_of_ble_eq_true rfl) ?_
  intro p e s m below meth c hC hr hlocks hname hOk hpre ls hl
  have hK := hOk.1
  have hx := hpre
  have hS : va_S (fun _ => False) s.heap s.heap [] := va_S.rf
  have hAN : ∀ q, (fun _ : Nat => False) q → ecN0 G ≤ q := fun _ h => h.elim
  have hl : lv_has ls 6 [(0, .ref y), (1, .int (nI r)), (2, .int pl), (3, .int (nI k))] := hl
  have hn0 := hwf.n
  refine lv_iconst (v := -1) hC.1 hC.2.1 dX6_latestOf_0 (by decide) ?_
  refine lv_istore (lv' := [(4, .int (-1)), (0, .ref y), (1, .int (nI r)), (2, .int pl), (3, .int (nI k))]) hC.1 hC.2.1 dX6_latestOf_1 hl (by decide) rfl (fun ls hl => ?_)
  refine lv_iconst (v := 0) hC.1 hC.2.1 dX6_latestOf_3 (by decide) ?_
  refine lv_istore (lv' := [(5, .int 0), (4, .int (-1)), (0, .ref y), (1, .int (nI r)), (2, .int pl), (3, .int (nI k))]) hC.1 hC.2.1 dX6_latestOf_4 hl (by decide) rfl (fun ls hl => ?_)
  refine ec_loopR (n := mnA M) (fun i ls => lv_has ls 6 [(4, .int (oI (latN M r pl k i))), (5, .int (nI i)), (0, .ref y), (1, .int (nI r)), (2, .int pl), (3, .int (nI k))] ∧ True) ⟨⟨hl.1, hl.2.1, (ec_lvc (lv_at hl 1 rfl) (ec_lvc (lv_at hl 0 rfl) (ec_lvc (lv_at hl 2 rfl) (ec_lvc (lv_at hl 3 rfl) (ec_lvc (lv_at hl 4 rfl) (ec_lvc (lv_at hl 5 rfl) ec_lvn))))))⟩, trivial⟩ (fun ls h9 => ?_) (fun i ls hi h9 hk => ?_)
  · obtain ⟨hl, hI⟩ := h9
    refine lv_iload hC.1 hC.2.1 dX6_latestOf_6 (lv_at hl 1 rfl) ?_
    refine lv_aload_n hC.1 hC.2.1 dX6_latestOf_8 rfl (lv_at hl 2 rfl) ?_
    refine ec_get hC hK hx.1 fX6_84 rfl dX6_latestOf_9 ?_
    refine lv_icmp_ge (tgt := 63) hC.1 hC.2.1 dX6_latestOf_12 (by decide) (fun c_12 => ?_) (fun c => absurd (Int32.le_refl _) c)
    refine lv_iload hC.1 hC.2.1 dX6_latestOf_63 (lv_at hl 0 rfl) ?_
    exact W.iret hC.1 hC.2.1 hr (fun t9 ht9 _ => ⟨_, rfl, rfl, ht9⟩) hS.2.2 dX6_latestOf_65
  · obtain ⟨hl, hI⟩ := h9
    refine lv_iload hC.1 hC.2.1 dX6_latestOf_6 (lv_at hl 1 rfl) ?_
    refine lv_aload_n hC.1 hC.2.1 dX6_latestOf_8 rfl (lv_at hl 2 rfl) ?_
    refine ec_get hC hK hx.1 fX6_84 rfl dX6_latestOf_9 ?_
    refine lv_icmp_ge (tgt := 63) hC.1 hC.2.1 dX6_latestOf_12 (by decide) (fun c => absurd c (fun z => Int32.lt_irrefl (Int32.lt_of_lt_of_le (nI_lt (b := mnA M) hi (by omega)) z))) (fun c_12 => ?_)
    refine lv_aload_n hC.1 hC.2.1 dX6_latestOf_15 rfl (lv_at hl 2 rfl) ?_
    refine ec_get hC hK hx.1 fX6_20 rfl dX6_latestOf_16 ?_
    refine lv_iload hC.1 hC.2.1 dX6_latestOf_19 (lv_at hl 1 rfl) ?_
    refine ec_iald hC hK (hx.2.1 2 (by decide)) i rfl (by omega) (by omega) dX6_latestOf_21 ?_
    refine lv_iload_n hC.1 hC.2.1 dX6_latestOf_22 rfl (lv_at hl 3 rfl) ?_
    refine lv_icmp_ne (tgt := 53) hC.1 hC.2.1 dX6_latestOf_23 (by decide) (fun c_23 => ?_) (fun c_23 => ?_)
    · refine lv_iload hC.1 hC.2.1 dX6_latestOf_53 (lv_at hl 0 rfl) ?_
      refine lv_istore (lv' := [(4, .int (oI (latN M r pl k i))), (5, .int (nI i)), (0, .ref y), (1, .int (nI r)), (2, .int pl), (3, .int (nI k))]) hC.1 hC.2.1 dX6_latestOf_55 hl (by decide) rfl (fun ls hl => ?_)
      refine lv_iinc (v := (nI (i + 1))) (lv' := [(5, .int (nI (i + 1))), (4, .int (oI (latN M r pl k i))), (0, .ref y), (1, .int (nI r)), (2, .int pl), (3, .int (nI k))]) hC.1 hC.2.1 dX6_latestOf_57 hl (k := 1) rfl (nI_1 _) (by decide) rfl (fun ls hl => ?_)
      refine lv_goto (tgt := 6) hC.1 hC.2.1 dX6_latestOf_60 (by decide) ?_
      have e9 : latN M r pl k (i + 1) = latN M r pl k i := by rw [latN_s, if_neg (fun z => c_23 (by rw [z.1]))]
      -- 
      exact hk ls (by rw [e9]; exact ⟨⟨hl.1, hl.2.1, (ec_lvc (lv_at hl 1 rfl) (ec_lvc (lv_at hl 0 rfl) (ec_lvc (lv_at hl 2 rfl) (ec_lvc (lv_at hl 3 rfl) (ec_lvc (lv_at hl 4 rfl) (ec_lvc (lv_at hl 5 rfl) ec_lvn))))))⟩, trivial⟩)
    · refine lv_aload_n hC.1 hC.2.1 dX6_latestOf_26 rfl (lv_at hl 2 rfl) ?_
      refine ec_get hC hK hx.1 fX6_23 rfl dX6_latestOf_27 ?_
      refine lv_iload hC.1 hC.2.1 dX6_latestOf_30 (lv_at hl 1 rfl) ?_
      refine ec_iald hC hK (hx.2.1 3 (by decide)) i rfl (by omega) (by omega) dX6_latestOf_32 ?_
      refine lv_iload_n hC.1 hC.2.1 dX6_latestOf_33 rfl (lv_at hl 5 rfl) ?_
      refine lv_icmp_ne (tgt := 53) hC.1 hC.2.1 dX6_latestOf_34 (by decide) (fun c_34 => ?_) (fun c_34 => ?_)
      · refine lv_iload hC.1 hC.2.1 dX6_latestOf_53 (lv_at hl 0 rfl) ?_
        refine lv_istore (lv' := [(4, .int (oI (latN M r pl k i))), (5, .int (nI i)), (0, .ref y), (1, .int (nI r)), (2, .int pl), (3, .int (nI k))]) hC.1 hC.2.1 dX6_latestOf_55 hl (by decide) rfl (fun ls hl => ?_)
        refine lv_iinc (v := (nI (i + 1))) (lv' := [(5, .int (nI (i + 1))), (4, .int (oI (latN M r pl k i))), (0, .ref y), (1, .int (nI r)), (2, .int pl), (3, .int (nI k))]) hC.1 hC.2.1 dX6_latestOf_57 hl (k := 1) rfl (nI_1 _) (by decide) rfl (fun ls hl => ?_)
        refine lv_goto (tgt := 6) hC.1 hC.2.1 dX6_latestOf_60 (by decide) ?_
        have e9 : latN M r pl k (i + 1) = latN M r pl k i := by rw [latN_s, if_neg (fun z => c_34 (by rw [z.2.1]))]
        -- 
        exact hk ls (by rw [e9]; exact ⟨⟨hl.1, hl.2.1, (ec_lvc (lv_at hl 1 rfl) (ec_lvc (lv_at hl 0 rfl) (ec_lvc (lv_at hl 2 rfl) (ec_lvc (lv_at hl 3 rfl) (ec_lvc (lv_at hl 4 rfl) (ec_lvc (lv_at hl 5 rfl) ec_lvn))))))⟩, trivial⟩)
      · refine lv_aload_n hC.1 hC.2.1 dX6_latestOf_37 rfl (lv_at hl 2 rfl) ?_
        refine ec_get hC hK hx.1 fX6_26 rfl dX6_latestOf_38 ?_
        refine lv_iload hC.1 hC.2.1 dX6_latestOf_41 (lv_at hl 1 rfl) ?_
        refine ec_iald hC hK (hx.2.1 4 (by decide)) i rfl (by omega) (by omega) dX6_latestOf_43 ?_
        refine lv_iload_n hC.1 hC.2.1 dX6_latestOf_44 rfl (lv_at hl 4 rfl) ?_
        refine lv_icmp_ne (tgt := 53) hC.1 hC.2.1 dX6_latestOf_45 (by decide) (fun c_45 => ?_) (fun c_45 => ?_)
        · refine lv_iload hC.1 hC.2.1 dX6_latestOf_53 (lv_at hl 0 rfl) ?_
          refine lv_istore (lv' := [(4, .int (oI (latN M r pl k i))), (5, .int (nI i)), (0, .ref y), (1, .int (nI r)), (2, .int pl), (3, .int (nI k))]) hC.1 hC.2.1 dX6_latestOf_55 hl (by decide) rfl (fun ls hl => ?_)
          refine lv_iinc (v := (nI (i + 1))) (lv' := [(5, .int (nI (i + 1))), (4, .int (oI (latN M r pl k i))), (0, .ref y), (1, .int (nI r)), (2, .int pl), (3, .int (nI k))]) hC.1 hC.2.1 dX6_latestOf_57 hl (k := 1) rfl (nI_1 _) (by decide) rfl (fun ls hl => ?_)
          refine lv_goto (tgt := 6) hC.1 hC.2.1 dX6_latestOf_60 (by decide) ?_
          have e9 : latN M r pl k (i + 1) = latN M r pl k i := by rw [latN_s, if_neg (fun z => c_45 z.2.2)]
          -- 
          exact hk ls (by rw [e9]; exact ⟨⟨hl.1, hl.2.1, (ec_lvc (lv_at hl 1 rfl) (ec_lvc (lv_at hl 0 rfl) (ec_lvc (lv_at hl 2 rfl) (ec_lvc (lv_at hl 3 rfl) (ec_lvc (lv_at hl 4 rfl) (ec_lvc (lv_at hl 5 rfl) ec_lvn))))))⟩, trivial⟩)
        · refine lv_iload hC.1 hC.2.1 dX6_latestOf_48 (lv_at hl 1 rfl) ?_
          refine lv_goto (tgt := 55) hC.1 hC.2.1 dX6_latestOf_50 (by decide) ?_
          refine lv_istore (lv' := [(4, .int (nI i)), (5, .int (nI i)), (0, .ref y), (1, .int (nI r)), (2, .int pl), (3, .int (nI k))]) hC.1 hC.2.1 dX6_latestOf_55 hl (by decide) rfl (fun ls hl => ?_)
          refine lv_iinc (v := (nI (i + 1))) (lv' := [(5, .int (nI (i + 1))), (4, .int (nI i)), (0, .ref y), (1, .int (nI r)), (2, .int pl), (3, .int (nI k))]) hC.1 hC.2.1 dX6_latestOf_57 hl (k := 1) rfl (nI_1 _) (by decide) rfl (fun ls hl => ?_)
          refine lv_goto (tgt := 6) hC.1 hC.2.1 dX6_latestOf_60 (by decide) ?_
          have e9 : latN M r pl k (i + 1) = some i := by rw [latN_s, if_pos ⟨(nI_eq (by have := hwf.an hi; omega) (by omega)).mp c_23, (nI_x (hwf.an hi).2 hk8).mp c_34, c_45⟩]
          -- 
          exact hk ls (by rw [e9]; exact ⟨⟨hl.1, hl.2.1, (ec_lvc (lv_at hl 1 rfl) (ec_lvc (lv_at hl 0 rfl) (ec_lvc (lv_at hl 2 rfl) (ec_lvc (lv_at hl 3 rfl) (ec_lvc (lv_at hl 4 rfl) (ec_lvc (lv_at hl 5 rfl) ec_lvn))))))⟩, trivial⟩)

theorem thLat_lt (M : ecM) (r pl c s : Int32) (o : Bool) : thLat M r pl c s o < 2 ^ 31 := ite_lt (ite_lt (ite_lt (by decide) (by decide)) (by decide)) (by decide)
/-- what the first test of latest, .. finds -/
def thLa1 (M : ecM) (r pl c s : Int32) : Nat := if ixB r (mnR M) = true then (if (rgB pl 0 9 && stB c s) = true then 0 else 2) else 1
theorem thLa1_lt (M : ecM) (r pl c s : Int32) : thLa1 M r pl c s < 2 ^ 31 := ite_lt (ite_lt (by decide) (by decide)) (by decide)
theorem thLa1_n {M : ecM} {r pl c s : Int32} {o : Bool} (h : ¬ thLa1 M r pl c s = 0) : thLat M r pl c s o = thLa1 M r pl c s := by
  unfold thLat thLa1 at *
  split
  · split
    · rename_i h1 h2; rw [if_pos h1, if_pos h2] at h; exact absurd rfl h
    · rfl
  · rfl
theorem latN_b {M : ecM} (hwf : WF M) {r : Nat} {pl : Int32} {k : Nat} : ∀ j, latN M r pl k (mnA M) = some j → j < 2 ^ 31 := fun j h => by have := latN_lt h; have := hwf.n; omega
theorem oI_g {o : Option Nat} (h : ¬ o = none) : oI o = nI (o.getD 0) := by
  cases o with
  | none => exact absurd rfl h
  | some j => rfl

set_option maxHeartbeats 4000000 in
set_option maxRecDepth 100000 in
/-- the latest answer -/
theorem c_X6_latest (l : Launch) (G : ecG) (Y : Nat → Prop) (M : ecM) (th : Int32) (y : Nat) (ya : Nat → Nat) (hY : ∀ q, Y q → ecN0 G ≤ q) (hwf : WF M) (r pl c0 s0 : Int32) (o : Bool) : Met l yX6_latest (ecWs yX6_latest cX6_latest 7 (Option.some FieldType.int)) (ecRm 4 0 0) (ecPc [.ref y, .int r, .int pl, .int c0, .int s0, .int (bI o)] G (fun H => rfX G Y M th y ya H)) (ecEp (fun v H1 => ∃ w : Int32, v = some (.int w) ∧ (thLat M r pl c0 s0 o = 0 → w = nI ((latN M (cN r) pl (cdN c0 s0 o) (mnA M)).getD 0)) ∧ rfX G Y M (nI (thLat M r pl c0 s0 o)) y ya H1) (Y)) 0 0 (Y) := by
  refine ec_met (by decide) (Nat.le_of_ble_eq_true rfl) ?_
  intro p e s m below meth c hC hr hlocks hname hOk hpre ls hl
  have hK := hOk.1
  have hx := hpre
  have hS : va_S (Y) s.heap s.heap [] := va_S.rf
  have hAN : ∀ q, (Y) q → ecN0 G ≤ q := hY
  have hl : lv_has ls 7 [(0, .ref y), (1, .int r), (2, .int pl), (3, .int c0), (4, .int s0), (5, .int (bI o))] := hl
  have hn0 := hwf.n
  refine ec_join (pcj := 37) (stj := [.int (nI (thLa1 M r pl c0 s0)), .ref y]) ?_ (fun kj => ?_)
  · refine ec_goE1 (ec_rV hC (c_X6_fails l G Y M _ y ya (thLa1 M r pl c0 s0) (thLa1_lt _ _ _ _ _) hY) kX6_81 (hOk.at hS hAN) hx (ec_rc hK hx.1 ⟨_, _, rfl⟩) hl.1 ⟨Nat.le_of_ble_eq_true rfl, Nat.le_of_ble_eq_true rfl⟩ rfl (Nat.le_of_ble_eq_true rfl) dX6_latest_37 ⟨Nat.le_of_ble_eq_true rfl, Nat.le_of_ble_eq_true rfl⟩) hS (fun _ h => h) (fun H locs hx hz hk1 hS => ?_)
    refine lv_if_eq (tgt := 45) hC.1 hC.2.1 dX6_latest_40 (by decide) (fun c_40 => ?_) (fun c_40 => ?_)
    · have hT1 : thLa1 M r pl c0 s0 = 0 := fz_0.mp c_40
      obtain ⟨hix, h92⟩ := if_th (k := 0) hT1
      obtain ⟨hpl, hst⟩ := Bool.and_eq_true_iff.mp (if_th (k := 1) h92).1
      obtain ⟨j, hj, rfl⟩ := ixB_t (by omega) hix
      have hjc : cN (nI j) = j := nI_clamp (by omega)
      have h80 := (cdN_3 o hst).1
      refine lv_aload_n hC.1 hC.2.1 dX6_latest_45 rfl (lv_at hl 0 rfl) ?_
      refine lv_iload_n hC.1 hC.2.1 dX6_latest_46 rfl (lv_at hl 1 rfl) ?_
      refine lv_iload_n hC.1 hC.2.1 dX6_latest_47 rfl (lv_at hl 2 rfl) ?_
      refine lv_iload_n hC.1 hC.2.1 dX6_latest_48 rfl (lv_at hl 3 rfl) ?_
      refine lv_iload hC.1 hC.2.1 dX6_latest_49 (lv_at hl 4 rfl) ?_
      refine lv_iload hC.1 hC.2.1 dX6_latest_51 (lv_at hl 5 rfl) ?_
      refine ec_go1 (ec_rS hC (c_X6_state l G c0 s0 o hst) kX6_98 (hOk.at hS hAN) trivial hl.1 ⟨Nat.le_of_ble_eq_true rfl, Nat.le_of_ble_eq_true rfl⟩ rfl (Nat.le_of_ble_eq_true rfl) dX6_latest_53 ⟨Nat.le_of_ble_eq_true rfl, Nat.le_of_ble_eq_true rfl⟩) ?_
      refine ec_go1 (ec_rV hC (c_X6_latestOf l G Y M _ y ya hwf j (cdN c0 s0 o) pl hj h80) kX6_118 (hOk.at hS hAN) hx (ec_rc hK hx.1 ⟨_, _, rfl⟩) hl.1 ⟨Nat.le_of_ble_eq_true rfl, Nat.le_of_ble_eq_true rfl⟩ rfl (Nat.le_of_ble_eq_true rfl) dX6_latest_56 ⟨Nat.le_of_ble_eq_true rfl, Nat.le_of_ble_eq_true rfl⟩) ?_
      have hT2 : thLat M (nI j) pl c0 s0 o = if (latN M j pl (cdN c0 s0 o) (mnA M)).isSome = true then 0 else 3 := by unfold thLat; rw [if_pos hix, if_pos (Bool.and_eq_true_iff.mpr ⟨hpl, hst⟩), hjc]
      refine lv_istore (lv' := [(6, .int (oI (latN M j pl (cdN c0 s0 o) (mnA M)))), (0, .ref y), (1, .int (nI j)), (2, .int pl), (3, .int c0), (4, .int s0), (5, .int (bI o))]) hC.1 hC.2.1 dX6_latest_59 hl (by decide) rfl (fun ls hl => ?_)
      refine ec_join (pcj := 73) (stj := [.int (nI (thLat M (nI j) pl c0 s0 o)), .ref y]) ?_ (fun kj => ?_)
      · refine ec_goE1 (ec_rV hC (c_X6_fails l G Y M _ y ya (thLat M (nI j) pl c0 s0 o) (thLat_lt _ _ _ _ _ _) hY) kX6_81 (hOk.at hS hAN) hx (ec_rc hK hx.1 ⟨_, _, rfl⟩) hl.1 ⟨Nat.le_of_ble_eq_true rfl, Nat.le_of_ble_eq_true rfl⟩ rfl (Nat.le_of_ble_eq_true rfl) dX6_latest_73 ⟨Nat.le_of_ble_eq_true rfl, Nat.le_of_ble_eq_true rfl⟩) hS (fun _ h => h) (fun H locs hx hz hk1 hS => ?_)
        refine lv_if_eq (tgt := 83) hC.1 hC.2.1 dX6_latest_76 (by decide) (fun c_76 => ?_) (fun c_76 => ?_)
        · refine lv_iload hC.1 hC.2.1 dX6_latest_83 (lv_at hl 0 rfl) ?_
          have hT : thLat M (nI j) pl c0 s0 o = 0 := fz_0.mp c_76
          have hne : ¬ latN M j pl (cdN c0 s0 o) (mnA M) = none := fun z => by rw [hT2, z] at hT; simp at hT
          exact W.iret hC.1 hC.2.1 hr (fun t9 ht9 _ => ⟨_, rfl, by rw [ht9]; exact ⟨_, rfl, fun _ => (by rw [hjc]; exact oI_g hne), hx⟩, hS.F ht9⟩) hS.2.2 dX6_latest_85
        · refine lv_iconst (v := 0) hC.1 hC.2.1 dX6_latest_79 (by decide) ?_
          refine lv_goto (tgt := 85) hC.1 hC.2.1 dX6_latest_80 (by decide) ?_
          exact W.iret hC.1 hC.2.1 hr (fun t9 ht9 _ => ⟨_, rfl, by rw [ht9]; exact ⟨_, rfl, fun z => absurd (fz_0.mpr z) c_76, hx⟩, hS.F ht9⟩) hS.2.2 dX6_latest_85
      · refine lv_aload_n hC.1 hC.2.1 dX6_latest_61 rfl (lv_at hl 1 rfl) ?_
        refine lv_iload hC.1 hC.2.1 dX6_latest_62 (lv_at hl 0 rfl) ?_
        refine lv_iconst (v := -1) hC.1 hC.2.1 dX6_latest_64 (by decide) ?_
        refine lv_icmp_ne (tgt := 72) hC.1 hC.2.1 dX6_latest_65 (by decide) (fun c_65 => ?_) (fun c_65 => ?_)
        · refine lv_iconst (v := 0) hC.1 hC.2.1 dX6_latest_72 (by decide) ?_
          refine ec_topi (y := (nI (thLat M (nI j) pl c0 s0 o))) (by rw [hT2, if_pos (Option.isSome_iff_ne_none.mpr (fun z => c_65 ((oI_1 (latN_b hwf)).mpr z)))]; rfl) ?_
          exact kj
        · refine lv_iconst (v := 3) hC.1 hC.2.1 dX6_latest_68 (by decide) ?_
          refine lv_goto (tgt := 73) hC.1 hC.2.1 dX6_latest_69 (by decide) ?_
          refine ec_topi (y := (nI (thLat M (nI j) pl c0 s0 o))) (by rw [hT2, (oI_1 (latN_b hwf)).mp c_65]; rfl) ?_
          exact kj
    · refine lv_iconst (v := 0) hC.1 hC.2.1 dX6_latest_43 (by decide) ?_
      have hne : ¬ thLa1 M r pl c0 s0 = 0 := fun z => c_40 (fz_0.mpr z)
      rw [← thLa1_n (o := o) hne] at hx
      exact W.iret hC.1 hC.2.1 hr (fun t9 ht9 _ => ⟨_, rfl, by rw [ht9]; exact ⟨_, rfl, fun z => absurd (thLa1_n (o := o) hne ▸ z) hne, hx⟩, hS.F ht9⟩) hS.2.2 dX6_latest_44
  · refine lv_aload_n hC.1 hC.2.1 dX6_latest_0 rfl (lv_at hl 0 rfl) ?_
    refine lv_aload_n hC.1 hC.2.1 dX6_latest_1 rfl (lv_at hl 0 rfl) ?_
    refine lv_iload_n hC.1 hC.2.1 dX6_latest_2 rfl (lv_at hl 1 rfl) ?_
    refine ec_go1 (ec_rV hC (c_X6_isRoom l G Y M _ y ya hwf r) kX6_77 (hOk.at hS hAN) hx (ec_rc hK hx.1 ⟨_, _, rfl⟩) hl.1 ⟨Nat.le_of_ble_eq_true rfl, Nat.le_of_ble_eq_true rfl⟩ rfl (Nat.le_of_ble_eq_true rfl) dX6_latest_3 ⟨Nat.le_of_ble_eq_true rfl, Nat.le_of_ble_eq_true rfl⟩) ?_
    refine lv_if_ne (tgt := 13) hC.1 hC.2.1 dX6_latest_6 (by decide) (fun c_6 => ?_) (fun c_6 => ?_)
    · refine lv_iload_n hC.1 hC.2.1 dX6_latest_13 rfl (lv_at hl 2 rfl) ?_
      refine lv_iconst (v := 0) hC.1 hC.2.1 dX6_latest_14 (by decide) ?_
      refine lv_bipush (v := 9) hC.1 hC.2.1 dX6_latest_15 (by decide) ?_
      refine ec_go1 (ec_rS hC (c_X6_in l G pl 0 9) kX6_73 (hOk.at hS hAN) trivial hl.1 ⟨Nat.le_of_ble_eq_true rfl, Nat.le_of_ble_eq_true rfl⟩ rfl (Nat.le_of_ble_eq_true rfl) dX6_latest_17 ⟨Nat.le_of_ble_eq_true rfl, Nat.le_of_ble_eq_true rfl⟩) ?_
      refine lv_if_eq (tgt := 36) hC.1 hC.2.1 dX6_latest_20 (by decide) (fun c_20 => ?_) (fun c_20 => ?_)
      · refine lv_iconst (v := 2) hC.1 hC.2.1 dX6_latest_36 (by decide) ?_
        refine ec_topi (y := (nI (thLa1 M r pl c0 s0))) (by rw [show thLa1 M r pl c0 s0 = 2 by simp [thLa1, (bI_n0 _).mp c_6, (bI_0 _).mp c_20]]; rfl) ?_
        exact kj
      · refine lv_iload_n hC.1 hC.2.1 dX6_latest_23 rfl (lv_at hl 3 rfl) ?_
        refine lv_iload hC.1 hC.2.1 dX6_latest_24 (lv_at hl 4 rfl) ?_
        refine ec_go1 (ec_rS hC (c_X6_isState l G c0 s0) kX6_94 (hOk.at hS hAN) trivial hl.1 ⟨Nat.le_of_ble_eq_true rfl, Nat.le_of_ble_eq_true rfl⟩ rfl (Nat.le_of_ble_eq_true rfl) dX6_latest_26 ⟨Nat.le_of_ble_eq_true rfl, Nat.le_of_ble_eq_true rfl⟩) ?_
        refine lv_if_eq (tgt := 36) hC.1 hC.2.1 dX6_latest_29 (by decide) (fun c_29 => ?_) (fun c_29 => ?_)
        · refine lv_iconst (v := 2) hC.1 hC.2.1 dX6_latest_36 (by decide) ?_
          refine ec_topi (y := (nI (thLa1 M r pl c0 s0))) (by rw [show thLa1 M r pl c0 s0 = 2 by simp [thLa1, (bI_n0 _).mp c_6, (bI_n0 _).mp c_20, (bI_0 _).mp c_29]]; rfl) ?_
          exact kj
        · refine lv_iconst (v := 0) hC.1 hC.2.1 dX6_latest_32 (by decide) ?_
          refine lv_goto (tgt := 37) hC.1 hC.2.1 dX6_latest_33 (by decide) ?_
          refine ec_topi (y := (nI (thLa1 M r pl c0 s0))) (by rw [show thLa1 M r pl c0 s0 = 0 by simp [thLa1, (bI_n0 _).mp c_6, (bI_n0 _).mp c_20, (bI_n0 _).mp c_29]]; rfl) ?_
          exact kj
    · refine lv_iconst (v := 1) hC.1 hC.2.1 dX6_latest_9 (by decide) ?_
      refine lv_goto (tgt := 37) hC.1 hC.2.1 dX6_latest_10 (by decide) ?_
      refine ec_topi (y := (nI (thLa1 M r pl c0 s0))) (by rw [show thLa1 M r pl c0 s0 = 1 by simp [thLa1, (bI_0 _).mp c_6]]; rfl) ?_
      exact kj

set_option maxHeartbeats 4000000 in
set_option maxRecDepth 100000 in
/-- answers -/
theorem c_X6_answers (l : Launch) (G : ecG) (Y : Nat → Prop) (M : ecM) (th : Int32) (y : Nat) (ya : Nat → Nat) (hY : ∀ q, Y q → ecN0 G ≤ q) (hwf : WF M) : Met l yX6_answers (ecWs yX6_answers cX6_answers 1 (Option.some FieldType.int)) (ecRm 4 0 0) (ecPc [.ref y] G (fun H => rfX G Y M th y ya H)) (ecEp (fun v H1 => v = some (.int (nI (mnA M))) ∧ rfX G Y M 0 y ya H1) (Y)) 0 0 (Y) := by
  refine ec_met (by decide) (Nat.le_of_ble_eq_true rfl) ?_
  intro p e s m below meth c hC hr hlocks hname hOk hpre ls hl
  have hK := hOk.1
  have hx := hpre
  have hS : va_S (Y) s.heap s.heap [] := va_S.rf
  have hAN : ∀ q, (Y) q → ecN0 G ≤ q := hY
  have hl : lv_has ls 1 [(0, .ref y)] := hl
  have hn0 := hwf.n
  refine lv_aload_n hC.1 hC.2.1 dX6_answers_0 rfl (lv_at hl 0 rfl) ?_
  refine lv_iconst (v := 0) hC.1 hC.2.1 dX6_answers_1 (by decide) ?_
  refine ec_put hC hK hS hx.1 hx.2.2.2.2.1 fX6_67 rfl rfl rfl (Nat.le_of_ble_eq_true rfl) dX6_answers_2 (fun H locs h9 o9 z9 hS => ?_)
  have hx := hx.put0 (th2 := 0) h9 o9
  refine lv_aload_n hC.1 hC.2.1 dX6_answers_5 rfl (lv_at hl 0 rfl) ?_
  refine ec_get hC hK hx.1 fX6_84 rfl dX6_answers_6 ?_
  exact W.iret hC.1 hC.2.1 hr (fun t9 ht9 _ => ⟨_, rfl, by rw [ht9]; exact ⟨rfl, hx⟩, hS.F ht9⟩) hS.2.2 dX6_answers_9

set_option maxHeartbeats 4000000 in
set_option maxRecDepth 100000 in
/-- hour -/
theorem c_X6_hour (l : Launch) (G : ecG) (Y : Nat → Prop) (M : ecM) (th : Int32) (y : Nat) (ya : Nat → Nat) (hY : ∀ q, Y q → ecN0 G ≤ q) (hwf : WF M) : Met l yX6_hour (ecWs yX6_hour cX6_hour 1 (Option.some FieldType.int)) (ecRm 4 0 0) (ecPc [.ref y] G (fun H => rfX G Y M th y ya H)) (ecEp (fun v H1 => v = some (.int (mhr M)) ∧ rfX G Y M 0 y ya H1) (Y)) 0 0 (Y) := by
  refine ec_met (by decide) (Nat.le_of_ble_eq_true rfl) ?_
  intro p e s m below meth c hC hr hlocks hname hOk hpre ls hl
  have hK := hOk.1
  have hx := hpre
  have hS : va_S (Y) s.heap s.heap [] := va_S.rf
  have hAN : ∀ q, (Y) q → ecN0 G ≤ q := hY
  have hl : lv_has ls 1 [(0, .ref y)] := hl
  have hn0 := hwf.n
  refine lv_aload_n hC.1 hC.2.1 dX6_hour_0 rfl (lv_at hl 0 rfl) ?_
  refine lv_iconst (v := 0) hC.1 hC.2.1 dX6_hour_1 (by decide) ?_
  refine ec_put hC hK hS hx.1 hx.2.2.2.2.1 fX6_67 rfl rfl rfl (Nat.le_of_ble_eq_true rfl) dX6_hour_2 (fun H locs h9 o9 z9 hS => ?_)
  have hx := hx.put0 (th2 := 0) h9 o9
  refine lv_aload_n hC.1 hC.2.1 dX6_hour_5 rfl (lv_at hl 0 rfl) ?_
  refine ec_get hC hK hx.1 fX6_108 rfl dX6_hour_6 ?_
  exact W.iret hC.1 hC.2.1 hr (fun t9 ht9 _ => ⟨_, rfl, by rw [ht9]; exact ⟨rfl, hx⟩, hS.F ht9⟩) hS.2.2 dX6_hour_9
