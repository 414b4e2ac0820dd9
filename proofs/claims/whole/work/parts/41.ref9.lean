theorem thCla_lt (M : ecM) (r c s : Int32) (o : Bool) (f l : Int32) : thCla M r c s o f l < 2 ^ 31 := ite_lt (ite_lt (ite_lt (by decide) (by decide)) (by decide)) (by decide)
def thCl1 (M : ecM) (r c s f l : Int32) : Nat := if ixB r (mnR M) = true then (if (stB c s && decide (f ≤ l)) = true then 0 else 2) else 1
theorem thCl1_lt (M : ecM) (r c s f l : Int32) : thCl1 M r c s f l < 2 ^ 31 := ite_lt (ite_lt (by decide) (by decide)) (by decide)
theorem thCl1_n {M : ecM} {r c s : Int32} {o : Bool} {f l : Int32} (h : ¬ thCl1 M r c s f l = 0) : thCla M r c s o f l = thCl1 M r c s f l := by
  unfold thCla thCl1 at *
  split
  · split
    · rename_i h1 h2; rw [if_pos h1, if_pos h2] at h; exact absurd rfl h
    · rfl
  · rfl
theorem thBok_lt (M : ecM) (r c s : Int32) (o : Bool) (f l : Int32) : thBok M r c s o f l < 2 ^ 31 := ite_lt (ite_lt (ite_lt (by decide) (ite_lt (by decide) (by decide))) (by decide)) (by decide)
def thBo1 (M : ecM) (r c s f l : Int32) : Nat := if ixB r (mnR M) = true then (if bkB M c s f l = true then 0 else 2) else 1
theorem thBo1_lt (M : ecM) (r c s f l : Int32) : thBo1 M r c s f l < 2 ^ 31 := ite_lt (ite_lt (by decide) (by decide)) (by decide)
theorem thBo1_n {M : ecM} {r c s : Int32} {o : Bool} {f l : Int32} (h : ¬ thBo1 M r c s f l = 0) : thBok M r c s o f l = thBo1 M r c s f l := by
  unfold thBok thBo1 at *
  split
  · split
    · rename_i h1 h2; rw [if_pos h1, if_pos h2] at h; exact absurd rfl h
    · rfl
  · rfl
theorem thCan_lt (M : ecM) (b : Int32) : thCan M b < 2 ^ 31 := ite_lt (ite_lt (by decide) (by decide)) (by decide)
theorem thNxt_lt (M : ecM) (r : Int32) : thNxt M r < 2 ^ 31 := ite_lt (ite_lt (by decide) (by decide)) (by decide)
theorem thNxt_n {M : ecM} {r : Int32} (h : ¬ thR M r = 0) : thNxt M r = thR M r := by
  unfold thNxt thR at *
  split
  · rename_i h1; rw [if_pos h1] at h; exact absurd rfl h
  · rfl
theorem thPas_lt (M : ecM) (h : Int32) : thPas M h < 2 ^ 31 := ite_lt (by decide) (by decide)
theorem oI_s {o : Option Nat} (h : o.isSome = true) : oI o = nI (o.getD 0) := by
  cases o with
  | none => cases h
  | some j => rfl

set_option maxHeartbeats 4000000 in
set_option maxRecDepth 100000 in
/-- the first clash -/
theorem c_X6_clash (l : Launch) (G : ecG) (Y : Nat → Prop) (M : ecM) (th : Int32) (y : Nat) (ya : Nat → Nat) (hY : ∀ q, Y q → ecN0 G ≤ q) (hwf : WF M) (r c0 s0 : Int32) (o : Bool) (f2 l2 : Int32) : Met l yX6_clash (ecWs yX6_clash cX6_clash 8 (Option.some FieldType.int)) (ecRm 4 0 0) (ecPc [.ref y, .int r, .int c0, .int s0, .int (bI o), .int f2, .int l2] G (fun H => rfX G Y M th y ya H)) (ecEp (fun v H1 => ∃ w : Int32, v = some (.int w) ∧ (thCla M r c0 s0 o f2 l2 = 0 → w = nI ((clM M (cN r) (cdN c0 s0 o) f2 l2).getD 0)) ∧ rfX G Y M (nI (thCla M r c0 s0 o f2 l2)) y ya H1) (Y)) 0 0 (Y) := by
  refine ec_met (by decide) (Nat.le_of_ble_eq_true rfl) ?_
  intro p e s m below meth c hC hr hlocks hname hOk hpre ls hl
  have hK := hOk.1
  have hx := hpre
  have hS : va_S (Y) s.heap s.heap [] := va_S.rf
  have hAN : ∀ q, (Y) q → ecN0 G ≤ q := hY
  have hl : lv_has ls 8 [(0, .ref y), (1, .int r), (2, .int c0), (3, .int s0), (4, .int (bI o)), (5, .int f2), (6, .int l2)] := hl
  have hn0 := hwf.n
  refine ec_join (pcj := 33) (stj := [.int (nI (thCl1 M r c0 s0 f2 l2)), .ref y]) ?_ (fun kj => ?_)
  · refine ec_goE1 (ec_rV hC (c_X6_fails l G Y M _ y ya (thCl1 M r c0 s0 f2 l2) (thCl1_lt _ _ _ _ _ _) hY) kX6_81 (hOk.at hS hAN) hx (ec_rc hK hx.1 ⟨_, _, rfl⟩) hl.1 ⟨Nat.le_of_ble_eq_true rfl, Nat.le_of_ble_eq_true rfl⟩ rfl (Nat.le_of_ble_eq_true rfl) dX6_clash_33 ⟨Nat.le_of_ble_eq_true rfl, Nat.le_of_ble_eq_true rfl⟩) hS (fun _ h => h) (fun H locs hx hz hk1 hS => ?_)
    refine lv_if_eq (tgt := 41) hC.1 hC.2.1 dX6_clash_36 (by decide) (fun c_36 => ?_) (fun c_36 => ?_)
    · have hT1 : thCl1 M r c0 s0 f2 l2 = 0 := fz_0.mp c_36
      obtain ⟨hix, h92⟩ := if_th (k := 0) hT1
      have hbb := (if_th (k := 1) h92).1
      have hst : stB c0 s0 = true := (Bool.and_eq_true_iff.mp hbb).1
      obtain ⟨j, hj, rfl⟩ := ixB_t (by omega) hix
      have hjc : cN (nI j) = j := nI_clamp (by omega)
      have h80 := (cdN_3 o hst).1
      refine lv_aload_n hC.1 hC.2.1 dX6_clash_41 rfl (lv_at hl 0 rfl) ?_
      refine lv_iload_n hC.1 hC.2.1 dX6_clash_42 rfl (lv_at hl 1 rfl) ?_
      refine lv_iload_n hC.1 hC.2.1 dX6_clash_43 rfl (lv_at hl 2 rfl) ?_
      refine lv_iload_n hC.1 hC.2.1 dX6_clash_44 rfl (lv_at hl 3 rfl) ?_
      refine lv_iload hC.1 hC.2.1 dX6_clash_45 (lv_at hl 4 rfl) ?_
      refine ec_go1 (ec_rS hC (c_X6_state l G c0 s0 o hst) kX6_98 (hOk.at hS hAN) trivial hl.1 ⟨Nat.le_of_ble_eq_true rfl, Nat.le_of_ble_eq_true rfl⟩ rfl (Nat.le_of_ble_eq_true rfl) dX6_clash_47 ⟨Nat.le_of_ble_eq_true rfl, Nat.le_of_ble_eq_true rfl⟩) ?_
      refine lv_iload hC.1 hC.2.1 dX6_clash_50 (lv_at hl 5 rfl) ?_
      refine lv_iload hC.1 hC.2.1 dX6_clash_52 (lv_at hl 6 rfl) ?_
      refine ec_go1 (ec_rV hC (c_X6_clashOf l G Y M _ y ya hwf j (cdN c0 s0 o) f2 l2 hj h80) kX6_146 (hOk.at hS hAN) hx (ec_rc hK hx.1 ⟨_, _, rfl⟩) hl.1 ⟨Nat.le_of_ble_eq_true rfl, Nat.le_of_ble_eq_true rfl⟩ rfl (Nat.le_of_ble_eq_true rfl) dX6_clash_54 ⟨Nat.le_of_ble_eq_true rfl, Nat.le_of_ble_eq_true rfl⟩) ?_
      have hT2 : thCla M (nI j) c0 s0 o f2 l2 = if (clM M j (cdN c0 s0 o) f2 l2).isSome = true then 0 else 3 := by unfold thCla; rw [if_pos hix, if_pos hbb, hjc]
      refine lv_istore (lv' := [(7, .int (oI (clM M j (cdN c0 s0 o) f2 l2))), (0, .ref y), (1, .int (nI j)), (2, .int c0), (3, .int s0), (4, .int (bI o)), (5, .int f2), (6, .int l2)]) hC.1 hC.2.1 dX6_clash_57 hl (by decide) rfl (fun ls hl => ?_)
      refine ec_join (pcj := 71) (stj := [.int (nI (thCla M (nI j) c0 s0 o f2 l2)), .ref y]) ?_ (fun kj => ?_)
      · refine ec_goE1 (ec_rV hC (c_X6_fails l G Y M _ y ya (thCla M (nI j) c0 s0 o f2 l2) (thCla_lt _ _ _ _ _ _ _) hY) kX6_81 (hOk.at hS hAN) hx (ec_rc hK hx.1 ⟨_, _, rfl⟩) hl.1 ⟨Nat.le_of_ble_eq_true rfl, Nat.le_of_ble_eq_true rfl⟩ rfl (Nat.le_of_ble_eq_true rfl) dX6_clash_71 ⟨Nat.le_of_ble_eq_true rfl, Nat.le_of_ble_eq_true rfl⟩) hS (fun _ h => h) (fun H locs hx hz hk1 hS => ?_)
        refine lv_if_eq (tgt := 81) hC.1 hC.2.1 dX6_clash_74 (by decide) (fun c_74 => ?_) (fun c_74 => ?_)
        · refine lv_iload hC.1 hC.2.1 dX6_clash_81 (lv_at hl 0 rfl) ?_
          have hT : thCla M (nI j) c0 s0 o f2 l2 = 0 := fz_0.mp c_74
          exact W.iret hC.1 hC.2.1 hr (fun t9 ht9 _ => ⟨_, rfl, by rw [ht9]; exact ⟨_, rfl, fun _ => (by rw [hjc]; exact oI_s (if_y0 (k := 2) (hT2.symm.trans hT))), hx⟩, hS.F ht9⟩) hS.2.2 dX6_clash_83
        · refine lv_iconst (v := 0) hC.1 hC.2.1 dX6_clash_77 (by decide) ?_
          refine lv_goto (tgt := 83) hC.1 hC.2.1 dX6_clash_78 (by decide) ?_
          exact W.iret hC.1 hC.2.1 hr (fun t9 ht9 _ => ⟨_, rfl, by rw [ht9]; exact ⟨_, rfl, fun z => absurd (fz_0.mpr z) c_74, hx⟩, hS.F ht9⟩) hS.2.2 dX6_clash_83
      · refine lv_aload_n hC.1 hC.2.1 dX6_clash_59 rfl (lv_at hl 1 rfl) ?_
        refine lv_iload hC.1 hC.2.1 dX6_clash_60 (lv_at hl 0 rfl) ?_
        refine lv_iconst (v := -1) hC.1 hC.2.1 dX6_clash_62 (by decide) ?_
        refine lv_icmp_ne (tgt := 70) hC.1 hC.2.1 dX6_clash_63 (by decide) (fun c_63 => ?_) (fun c_63 => ?_)
        · refine lv_iconst (v := 0) hC.1 hC.2.1 dX6_clash_70 (by decide) ?_
          refine ec_topi (y := (nI (thCla M (nI j) c0 s0 o f2 l2))) (by rw [hT2, if_pos (Option.isSome_iff_ne_none.mpr (fun z => c_63 ((oI_1 (clM_b hwf)).mpr z)))]; rfl) ?_
          exact kj
        · refine lv_iconst (v := 3) hC.1 hC.2.1 dX6_clash_66 (by decide) ?_
          refine lv_goto (tgt := 71) hC.1 hC.2.1 dX6_clash_67 (by decide) ?_
          refine ec_topi (y := (nI (thCla M (nI j) c0 s0 o f2 l2))) (by rw [hT2, (oI_1 (clM_b hwf)).mp c_63]; rfl) ?_
          exact kj
    · refine lv_iconst (v := 0) hC.1 hC.2.1 dX6_clash_39 (by decide) ?_
      have hne : ¬ thCl1 M r c0 s0 f2 l2 = 0 := fun z => c_36 (fz_0.mpr z)
      rw [← thCl1_n (o := o) hne] at hx
      exact W.iret hC.1 hC.2.1 hr (fun t9 ht9 _ => ⟨_, rfl, by rw [ht9]; exact ⟨_, rfl, fun z => absurd ((thCl1_n (o := o) hne).symm.trans z) hne, hx⟩, hS.F ht9⟩) hS.2.2 dX6_clash_40
  · refine lv_aload_n hC.1 hC.2.1 dX6_clash_0 rfl (lv_at hl 0 rfl) ?_
    refine lv_aload_n hC.1 hC.2.1 dX6_clash_1 rfl (lv_at hl 0 rfl) ?_
    refine lv_iload_n hC.1 hC.2.1 dX6_clash_2 rfl (lv_at hl 1 rfl) ?_
    refine ec_go1 (ec_rV hC (c_X6_isRoom l G Y M _ y ya hwf r) kX6_77 (hOk.at hS hAN) hx (ec_rc hK hx.1 ⟨_, _, rfl⟩) hl.1 ⟨Nat.le_of_ble_eq_true rfl, Nat.le_of_ble_eq_true rfl⟩ rfl (Nat.le_of_ble_eq_true rfl) dX6_clash_3 ⟨Nat.le_of_ble_eq_true rfl, Nat.le_of_ble_eq_true rfl⟩) ?_
    refine lv_if_ne (tgt := 13) hC.1 hC.2.1 dX6_clash_6 (by decide) (fun c_6 => ?_) (fun c_6 => ?_)
    · refine lv_iload_n hC.1 hC.2.1 dX6_clash_13 rfl (lv_at hl 2 rfl) ?_
      refine lv_iload_n hC.1 hC.2.1 dX6_clash_14 rfl (lv_at hl 3 rfl) ?_
      refine ec_go1 (ec_rS hC (c_X6_isState l G c0 s0) kX6_94 (hOk.at hS hAN) trivial hl.1 ⟨Nat.le_of_ble_eq_true rfl, Nat.le_of_ble_eq_true rfl⟩ rfl (Nat.le_of_ble_eq_true rfl) dX6_clash_15 ⟨Nat.le_of_ble_eq_true rfl, Nat.le_of_ble_eq_true rfl⟩) ?_
      refine lv_if_eq (tgt := 32) hC.1 hC.2.1 dX6_clash_18 (by decide) (fun c_18 => ?_) (fun c_18 => ?_)
      · refine lv_iconst (v := 2) hC.1 hC.2.1 dX6_clash_32 (by decide) ?_
        refine ec_topi (y := (nI (thCl1 M r c0 s0 f2 l2))) (by rw [show thCl1 M r c0 s0 f2 l2 = 2 by simp [thCl1, (bI_n0 _).mp c_6, (bI_0 _).mp c_18]]; rfl) ?_
        exact kj
      · refine lv_iload hC.1 hC.2.1 dX6_clash_21 (lv_at hl 6 rfl) ?_
        refine lv_iload hC.1 hC.2.1 dX6_clash_23 (lv_at hl 5 rfl) ?_
        refine lv_icmp_lt (tgt := 32) hC.1 hC.2.1 dX6_clash_25 (by decide) (fun c_25 => ?_) (fun c_25 => ?_)
        · refine lv_iconst (v := 2) hC.1 hC.2.1 dX6_clash_32 (by decide) ?_
          refine ec_topi (y := (nI (thCl1 M r c0 s0 f2 l2))) (by rw [show thCl1 M r c0 s0 f2 l2 = 2 by simp [thCl1, (bI_n0 _).mp c_6, (bI_n0 _).mp c_18, (show ¬ f2 ≤ l2 from Int32.not_le.mpr c_25)]]; rfl) ?_
          exact kj
        · refine lv_iconst (v := 0) hC.1 hC.2.1 dX6_clash_28 (by decide) ?_
          refine lv_goto (tgt := 33) hC.1 hC.2.1 dX6_clash_29 (by decide) ?_
          refine ec_topi (y := (nI (thCl1 M r c0 s0 f2 l2))) (by rw [show thCl1 M r c0 s0 f2 l2 = 0 by simp [thCl1, (bI_n0 _).mp c_6, (bI_n0 _).mp c_18, (show f2 ≤ l2 from Int32.not_lt.mp c_25)]]; rfl) ?_
          exact kj
    · refine lv_iconst (v := 1) hC.1 hC.2.1 dX6_clash_9 (by decide) ?_
      refine lv_goto (tgt := 33) hC.1 hC.2.1 dX6_clash_10 (by decide) ?_
      refine ec_topi (y := (nI (thCl1 M r c0 s0 f2 l2))) (by rw [show thCl1 M r c0 s0 f2 l2 = 1 by simp [thCl1, (bI_0 _).mp c_6]]; rfl) ?_
      exact kj

set_option maxHeartbeats 4000000 in
set_option maxRecDepth 100000 in
/-- a booking -/
theorem c_X6_book (l : Launch) (G : ecG) (Y : Nat → Prop) (M : ecM) (th : Int32) (y : Nat) (ya : Nat → Nat) (hY : ∀ q, Y q → ecN0 G ≤ q) (hwf : WF M) (r c0 s0 : Int32) (o : Bool) (f2 l2 : Int32) : Met l yX6_book (ecWs yX6_book cX6_book 9 (Option.some FieldType.int)) (ecRm 4 0 0) (ecPc [.ref y, .int r, .int c0, .int s0, .int (bI o), .int f2, .int l2] G (fun H => rfX G Y M th y ya H)) (ecEp (fun v H1 => ∃ w : Int32, v = some (.int w) ∧ (thBok M r c0 s0 o f2 l2 = 0 → w = nI (mnB M)) ∧ rfX G Y (if thBok M r c0 s0 o f2 l2 = 0 then bokM M (cN r) (cdN c0 s0 o) f2 l2 else M) (nI (thBok M r c0 s0 o f2 l2)) y ya H1) (Y)) 0 0 (Y) := by
  refine ec_met (by decide) (Nat.le_of_ble_eq_true rfl) ?_
  intro p e s m below meth c hC hr hlocks hname hOk hpre ls hl
  have hK := hOk.1
  have hx := hpre
  have hS : va_S (Y) s.heap s.heap [] := va_S.rf
  have hAN : ∀ q, (Y) q → ecN0 G ≤ q := hY
  have hl : lv_has ls 9 [(0, .ref y), (1, .int r), (2, .int c0), (3, .int s0), (4, .int (bI o)), (5, .int f2), (6, .int l2)] := hl
  have hn0 := hwf.n
  refine ec_join (pcj := 37) (stj := [.int (bI (bkB M c0 s0 f2 l2))]) ?_ (fun kj => ?_)
  · refine lv_istore (lv' := [(7, .int (bI (bkB M c0 s0 f2 l2))), (0, .ref y), (1, .int r), (2, .int c0), (3, .int s0), (4, .int (bI o)), (5, .int f2), (6, .int l2)]) hC.1 hC.2.1 dX6_book_37 hl (by decide) rfl (fun ls hl => ?_)
    refine ec_join (pcj := 62) (stj := [.int (nI (thBo1 M r c0 s0 f2 l2)), .ref y]) ?_ (fun kj => ?_)
    · refine ec_goE1 (ec_rV hC (c_X6_fails l G Y M _ y ya (thBo1 M r c0 s0 f2 l2) (thBo1_lt _ _ _ _ _ _) hY) kX6_81 (hOk.at hS hAN) hx (ec_rc hK hx.1 ⟨_, _, rfl⟩) hl.1 ⟨Nat.le_of_ble_eq_true rfl, Nat.le_of_ble_eq_true rfl⟩ rfl (Nat.le_of_ble_eq_true rfl) dX6_book_62 ⟨Nat.le_of_ble_eq_true rfl, Nat.le_of_ble_eq_true rfl⟩) hS (fun _ h => h) (fun H locs hx hz hk1 hS => ?_)
      refine lv_if_eq (tgt := 70) hC.1 hC.2.1 dX6_book_65 (by decide) (fun c_65 => ?_) (fun c_65 => ?_)
      · have hT1 : thBo1 M r c0 s0 f2 l2 = 0 := fz_0.mp c_65
        obtain ⟨hix, h92⟩ := if_th (k := 0) hT1
        have hbb := (if_th (k := 1) h92).1
        have hst : stB c0 s0 = true := by unfold bkB at hbb; exact (Bool.and_eq_true_iff.mp (Bool.and_eq_true_iff.mp (Bool.and_eq_true_iff.mp hbb).1).1).1
        obtain ⟨j, hj, rfl⟩ := ixB_t (by omega) hix
        have hjc : cN (nI j) = j := nI_clamp (by omega)
        have h80 := (cdN_3 o hst).1
        refine lv_iload_n hC.1 hC.2.1 dX6_book_70 rfl (lv_at hl 3 rfl) ?_
        refine lv_iload_n hC.1 hC.2.1 dX6_book_71 rfl (lv_at hl 4 rfl) ?_
        refine lv_iload hC.1 hC.2.1 dX6_book_72 (lv_at hl 5 rfl) ?_
        refine ec_go1 (ec_rS hC (c_X6_state l G c0 s0 o hst) kX6_98 (hOk.at hS hAN) trivial hl.1 ⟨Nat.le_of_ble_eq_true rfl, Nat.le_of_ble_eq_true rfl⟩ rfl (Nat.le_of_ble_eq_true rfl) dX6_book_74 ⟨Nat.le_of_ble_eq_true rfl, Nat.le_of_ble_eq_true rfl⟩) ?_
        refine lv_istore (lv' := [(8, .int (nI (cdN c0 s0 o))), (7, .int (bI (bkB M c0 s0 f2 l2))), (0, .ref y), (1, .int (nI j)), (2, .int c0), (3, .int s0), (4, .int (bI o)), (5, .int f2), (6, .int l2)]) hC.1 hC.2.1 dX6_book_77 hl (by decide) rfl (fun ls hl => ?_)
        have hT2 : thBok M (nI j) c0 s0 o f2 l2 = if (clM M j (cdN c0 s0 o) f2 l2).isSome = true then 3 else if mnB M = 16 then 4 else 0 := by unfold thBok; rw [if_pos hix, if_pos hbb, hjc]
        refine ec_join (pcj := 113) (stj := [.int (nI (thBok M (nI j) c0 s0 o f2 l2)), .ref y]) ?_ (fun kj => ?_)
        · refine ec_goE1 (ec_rV hC (c_X6_fails l G Y M _ y ya (thBok M (nI j) c0 s0 o f2 l2) (thBok_lt _ _ _ _ _ _ _) hY) kX6_81 (hOk.at hS hAN) hx (ec_rc hK hx.1 ⟨_, _, rfl⟩) hl.1 ⟨Nat.le_of_ble_eq_true rfl, Nat.le_of_ble_eq_true rfl⟩ rfl (Nat.le_of_ble_eq_true rfl) dX6_book_113 ⟨Nat.le_of_ble_eq_true rfl, Nat.le_of_ble_eq_true rfl⟩) hS (fun _ h => h) (fun H locs hx hz hk1 hS => ?_)
          refine lv_if_eq (tgt := 121) hC.1 hC.2.1 dX6_book_116 (by decide) (fun c_116 => ?_) (fun c_116 => ?_)
          · have hT : thBok M (nI j) c0 s0 o f2 l2 = 0 := fz_0.mp c_116
            have hn4 : ¬ mnB M = 16 := fun z => by
              rw [hT2, if_pos z] at hT
              split at hT <;> cases hT
            refine lv_aload_n hC.1 hC.2.1 dX6_book_121 rfl (lv_at hl 2 rfl) ?_
            refine ec_get hC hK hx.1 fX6_51 rfl dX6_book_122 ?_
            refine lv_aload_n hC.1 hC.2.1 dX6_book_125 rfl (lv_at hl 2 rfl) ?_
            refine ec_get hC hK hx.1 fX6_143 rfl dX6_book_126 ?_
            refine lv_iload_n hC.1 hC.2.1 dX6_book_129 rfl (lv_at hl 3 rfl) ?_
            refine ec_iast hC hK hS (hx.2.1 12 (by decide)) (hx.2.2.2.2.2 12 (by decide)) (mnB M) rfl (by omega) (by omega) dX6_book_130 (fun H locs h9 o9 z9 hS => ?_)
            have hx := rf_s12 (i := (mnB M)) (v := j) hx h9 o9
            refine lv_aload_n hC.1 hC.2.1 dX6_book_131 rfl (lv_at hl 2 rfl) ?_
            refine ec_get hC hK hx.1 fX6_54 rfl dX6_book_132 ?_
            refine lv_aload_n hC.1 hC.2.1 dX6_book_135 rfl (lv_at hl 2 rfl) ?_
            refine ec_get hC hK hx.1 fX6_143 rfl dX6_book_136 ?_
            refine lv_iload hC.1 hC.2.1 dX6_book_139 (lv_at hl 0 rfl) ?_
            refine ec_iast hC hK hS (hx.2.1 13 (by decide)) (hx.2.2.2.2.2 13 (by decide)) (mnB M) rfl (by omega) (by omega) dX6_book_141 (fun H locs h9 o9 z9 hS => ?_)
            have hx := rf_s13 (i := (mnB M)) (v := (cdN c0 s0 o)) hx h9 o9
            refine lv_aload_n hC.1 hC.2.1 dX6_book_142 rfl (lv_at hl 2 rfl) ?_
            refine ec_get hC hK hx.1 fX6_57 rfl dX6_book_143 ?_
            refine lv_aload_n hC.1 hC.2.1 dX6_book_146 rfl (lv_at hl 2 rfl) ?_
            refine ec_get hC hK hx.1 fX6_143 rfl dX6_book_147 ?_
            refine lv_iload hC.1 hC.2.1 dX6_book_150 (lv_at hl 7 rfl) ?_
            refine ec_iast hC hK hS (hx.2.1 14 (by decide)) (hx.2.2.2.2.2 14 (by decide)) (mnB M) rfl (by omega) (by omega) dX6_book_152 (fun H locs h9 o9 z9 hS => ?_)
            have hx := rf_s14 (i := (mnB M)) (v := f2) hx h9 o9
            refine lv_aload_n hC.1 hC.2.1 dX6_book_153 rfl (lv_at hl 2 rfl) ?_
            refine ec_get hC hK hx.1 fX6_60 rfl dX6_book_154 ?_
            refine lv_aload_n hC.1 hC.2.1 dX6_book_157 rfl (lv_at hl 2 rfl) ?_
            refine ec_get hC hK hx.1 fX6_143 rfl dX6_book_158 ?_
            refine lv_iload hC.1 hC.2.1 dX6_book_161 (lv_at hl 8 rfl) ?_
            refine ec_iast hC hK hS (hx.2.1 15 (by decide)) (hx.2.2.2.2.2 15 (by decide)) (mnB M) rfl (by omega) (by omega) dX6_book_163 (fun H locs h9 o9 z9 hS => ?_)
            have hx := rf_s15 (i := (mnB M)) (v := l2) hx h9 o9
            refine lv_aload_n hC.1 hC.2.1 dX6_book_164 rfl (lv_at hl 2 rfl) ?_
            refine lv_dup hC.1 hC.2.1 dX6_book_165 rfl ?_
            refine ec_get hC hK hx.1 fX6_143 rfl dX6_book_166 ?_
            refine lv_iconst (v := 1) hC.1 hC.2.1 dX6_book_169 (by decide) ?_
            refine lv_iadd hC.1 hC.2.1 dX6_book_170 ?_
            refine ec_topi (y := nI (mnB M + 1)) (nI_1 _) ?_
            refine ec_put hC hK hS hx.1 hx.2.2.2.2.1 fX6_143 rfl rfl rfl (Nat.le_of_ble_eq_true rfl) dX6_book_171 (fun H locs h9 o9 z9 hS => ?_)
            have hx := hx.put7 (j := 3) (v := (mnB M + 1)) h9 o9
            refine lv_aload_n hC.1 hC.2.1 dX6_book_174 rfl (lv_at hl 2 rfl) ?_
            refine ec_get hC hK hx.1 fX6_143 rfl dX6_book_175 ?_
            refine lv_iconst (v := 1) hC.1 hC.2.1 dX6_book_178 (by decide) ?_
            refine lv_isub hC.1 hC.2.1 dX6_book_179 ?_
            refine ec_topi (y := nI (mnB M)) (nI_p1 _) ?_
            exact W.iret hC.1 hC.2.1 hr (fun t9 ht9 _ => ⟨_, rfl, by rw [ht9]; exact ⟨_, rfl, fun _ => rfl, by rw [if_pos hT, hjc]; exact hx⟩, hS.F ht9⟩) hS.2.2 dX6_book_180
          · refine lv_iconst (v := 0) hC.1 hC.2.1 dX6_book_119 (by decide) ?_
            exact W.iret hC.1 hC.2.1 hr (fun t9 ht9 _ => ⟨_, rfl, by rw [ht9]; exact ⟨_, rfl, fun z => absurd (fz_0.mpr z) c_116, by rw [if_neg (fun z => c_116 (fz_0.mpr z))]; exact hx⟩, hS.F ht9⟩) hS.2.2 dX6_book_120
        · refine lv_aload_n hC.1 hC.2.1 dX6_book_79 rfl (lv_at hl 2 rfl) ?_
          refine lv_aload_n hC.1 hC.2.1 dX6_book_80 rfl (lv_at hl 2 rfl) ?_
          refine lv_iload_n hC.1 hC.2.1 dX6_book_81 rfl (lv_at hl 3 rfl) ?_
          refine lv_iload hC.1 hC.2.1 dX6_book_82 (lv_at hl 0 rfl) ?_
          refine lv_iload hC.1 hC.2.1 dX6_book_84 (lv_at hl 7 rfl) ?_
          refine lv_iload hC.1 hC.2.1 dX6_book_86 (lv_at hl 8 rfl) ?_
          refine ec_go1 (ec_rV hC (c_X6_clashOf l G Y M _ y ya hwf j (cdN c0 s0 o) f2 l2 hj h80) kX6_146 (hOk.at hS hAN) hx (ec_rc hK hx.1 ⟨_, _, rfl⟩) hl.1 ⟨Nat.le_of_ble_eq_true rfl, Nat.le_of_ble_eq_true rfl⟩ rfl (Nat.le_of_ble_eq_true rfl) dX6_book_88 ⟨Nat.le_of_ble_eq_true rfl, Nat.le_of_ble_eq_true rfl⟩) ?_
          have hT2 : thBok M (nI j) c0 s0 o f2 l2 = if (clM M j (cdN c0 s0 o) f2 l2).isSome = true then 3 else if mnB M = 16 then 4 else 0 := by unfold thBok; rw [if_pos hix, if_pos hbb, hjc]
          refine lv_iconst (v := -1) hC.1 hC.2.1 dX6_book_91 (by decide) ?_
          refine lv_icmp_eq (tgt := 99) hC.1 hC.2.1 dX6_book_92 (by decide) (fun c_92 => ?_) (fun c_92 => ?_)
          · refine lv_aload_n hC.1 hC.2.1 dX6_book_99 rfl (lv_at hl 2 rfl) ?_
            refine ec_get hC hK hx.1 fX6_143 rfl dX6_book_100 ?_
            refine lv_bipush (v := 16) hC.1 hC.2.1 dX6_book_103 (by decide) ?_
            refine lv_icmp_ne (tgt := 112) hC.1 hC.2.1 dX6_book_105 (by decide) (fun c_105 => ?_) (fun c_105 => ?_)
            · refine lv_iconst (v := 0) hC.1 hC.2.1 dX6_book_112 (by decide) ?_
              refine ec_topi (y := (nI (thBok M (nI j) c0 s0 o f2 l2))) (by rw [hT2, (oI_1 (clM_b hwf)).mp c_92, if_neg (by decide), if_neg (fun z => c_105 (by rw [z]; rfl))]; rfl) ?_
              exact kj
            · refine lv_iconst (v := 4) hC.1 hC.2.1 dX6_book_108 (by decide) ?_
              refine lv_goto (tgt := 113) hC.1 hC.2.1 dX6_book_109 (by decide) ?_
              refine ec_topi (y := (nI (thBok M (nI j) c0 s0 o f2 l2))) (by rw [hT2, (oI_1 (clM_b hwf)).mp c_92, if_neg (by decide), if_pos ((nI_eq (a := mnB M) (b := 16) (by omega) (by decide)).mp c_105)]; rfl) ?_
              exact kj
          · refine lv_iconst (v := 3) hC.1 hC.2.1 dX6_book_95 (by decide) ?_
            refine lv_goto (tgt := 113) hC.1 hC.2.1 dX6_book_96 (by decide) ?_
            refine ec_topi (y := (nI (thBok M (nI j) c0 s0 o f2 l2))) (by rw [hT2, if_pos (Option.isSome_iff_ne_none.mpr (fun z => c_92 ((oI_1 (clM_b hwf)).mpr z)))]; rfl) ?_
            exact kj
      · refine lv_iconst (v := 0) hC.1 hC.2.1 dX6_book_68 (by decide) ?_
        have hne : ¬ thBo1 M r c0 s0 f2 l2 = 0 := fun z => c_65 (fz_0.mpr z)
        rw [← thBo1_n (o := o) hne] at hx
        have hne2 : ¬ thBok M r c0 s0 o f2 l2 = 0 := fun z => hne ((thBo1_n (o := o) hne).symm.trans z)
        exact W.iret hC.1 hC.2.1 hr (fun t9 ht9 _ => ⟨_, rfl, by rw [ht9]; exact ⟨_, rfl, fun z => absurd z hne2, by rw [if_neg hne2]; exact hx⟩, hS.F ht9⟩) hS.2.2 dX6_book_69
    · refine lv_aload_n hC.1 hC.2.1 dX6_book_39 rfl (lv_at hl 1 rfl) ?_
      refine lv_aload_n hC.1 hC.2.1 dX6_book_40 rfl (lv_at hl 1 rfl) ?_
      refine lv_iload_n hC.1 hC.2.1 dX6_book_41 rfl (lv_at hl 2 rfl) ?_
      refine ec_go1 (ec_rV hC (c_X6_isRoom l G Y M _ y ya hwf r) kX6_77 (hOk.at hS hAN) hx (ec_rc hK hx.1 ⟨_, _, rfl⟩) hl.1 ⟨Nat.le_of_ble_eq_true rfl, Nat.le_of_ble_eq_true rfl⟩ rfl (Nat.le_of_ble_eq_true rfl) dX6_book_42 ⟨Nat.le_of_ble_eq_true rfl, Nat.le_of_ble_eq_true rfl⟩) ?_
      refine lv_if_ne (tgt := 52) hC.1 hC.2.1 dX6_book_45 (by decide) (fun c_45 => ?_) (fun c_45 => ?_)
      · refine lv_iload hC.1 hC.2.1 dX6_book_52 (lv_at hl 0 rfl) ?_
        refine lv_if_eq (tgt := 61) hC.1 hC.2.1 dX6_book_54 (by decide) (fun c_54 => ?_) (fun c_54 => ?_)
        · refine lv_iconst (v := 2) hC.1 hC.2.1 dX6_book_61 (by decide) ?_
          refine ec_topi (y := (nI (thBo1 M r c0 s0 f2 l2))) (by rw [show thBo1 M r c0 s0 f2 l2 = 2 by simp [thBo1, (bI_n0 _).mp c_45, (bI_0 _).mp c_54]]; rfl) ?_
          exact kj
        · refine lv_iconst (v := 0) hC.1 hC.2.1 dX6_book_57 (by decide) ?_
          refine lv_goto (tgt := 62) hC.1 hC.2.1 dX6_book_58 (by decide) ?_
          refine ec_topi (y := (nI (thBo1 M r c0 s0 f2 l2))) (by rw [show thBo1 M r c0 s0 f2 l2 = 0 by simp [thBo1, (bI_n0 _).mp c_45, (bI_n0 _).mp c_54]]; rfl) ?_
          exact kj
      · refine lv_iconst (v := 1) hC.1 hC.2.1 dX6_book_48 (by decide) ?_
        refine lv_goto (tgt := 62) hC.1 hC.2.1 dX6_book_49 (by decide) ?_
        refine ec_topi (y := (nI (thBo1 M r c0 s0 f2 l2))) (by rw [show thBo1 M r c0 s0 f2 l2 = 1 by simp [thBo1, (bI_0 _).mp c_45]]; rfl) ?_
        exact kj
  · refine lv_iload_n hC.1 hC.2.1 dX6_book_0 rfl (lv_at hl 2 rfl) ?_
    refine lv_iload_n hC.1 hC.2.1 dX6_book_1 rfl (lv_at hl 3 rfl) ?_
    refine ec_go1 (ec_rS hC (c_X6_isState l G c0 s0) kX6_94 (hOk.at hS hAN) trivial hl.1 ⟨Nat.le_of_ble_eq_true rfl, Nat.le_of_ble_eq_true rfl⟩ rfl (Nat.le_of_ble_eq_true rfl) dX6_book_2 ⟨Nat.le_of_ble_eq_true rfl, Nat.le_of_ble_eq_true rfl⟩) ?_
    refine lv_if_eq (tgt := 36) hC.1 hC.2.1 dX6_book_5 (by decide) (fun c_5 => ?_) (fun c_5 => ?_)
    · refine lv_iconst (v := 0) hC.1 hC.2.1 dX6_book_36 (by decide) ?_
      refine ec_topi (y := (bI (bkB M c0 s0 f2 l2))) (by rw [show bkB M c0 s0 f2 l2 = false by simp [bkB, (bI_0 _).mp c_5]]; rfl) ?_
      exact kj
    · refine lv_iload hC.1 hC.2.1 dX6_book_8 (lv_at hl 5 rfl) ?_
      refine lv_aload_n hC.1 hC.2.1 dX6_book_10 rfl (lv_at hl 0 rfl) ?_
      refine ec_get hC hK hx.1 fX6_108 rfl dX6_book_11 ?_
      refine lv_icmp_le (tgt := 36) hC.1 hC.2.1 dX6_book_14 (by decide) (fun c_14 => ?_) (fun c_14 => ?_)
      · refine lv_iconst (v := 0) hC.1 hC.2.1 dX6_book_36 (by decide) ?_
        refine ec_topi (y := (bI (bkB M c0 s0 f2 l2))) (by rw [show bkB M c0 s0 f2 l2 = false by simp [bkB, (bI_n0 _).mp c_5, (show ¬ mhr M < f2 from Int32.not_lt.mpr c_14)]]; rfl) ?_
        exact kj
      · refine lv_iload hC.1 hC.2.1 dX6_book_17 (lv_at hl 6 rfl) ?_
        refine lv_iload hC.1 hC.2.1 dX6_book_19 (lv_at hl 5 rfl) ?_
        refine lv_icmp_lt (tgt := 36) hC.1 hC.2.1 dX6_book_21 (by decide) (fun c_21 => ?_) (fun c_21 => ?_)
        · refine lv_iconst (v := 0) hC.1 hC.2.1 dX6_book_36 (by decide) ?_
          refine ec_topi (y := (bI (bkB M c0 s0 f2 l2))) (by rw [show bkB M c0 s0 f2 l2 = false by simp [bkB, (bI_n0 _).mp c_5, (show mhr M < f2 from Int32.not_le.mp c_14), (show ¬ f2 ≤ l2 from Int32.not_le.mpr c_21)]]; rfl) ?_
          exact kj
        · refine lv_iload hC.1 hC.2.1 dX6_book_24 (lv_at hl 6 rfl) ?_
          refine lv_sipush (v := 9999) hC.1 hC.2.1 dX6_book_26 (by decide) ?_
          refine lv_icmp_gt (tgt := 36) hC.1 hC.2.1 dX6_book_29 (by decide) (fun c_29 => ?_) (fun c_29 => ?_)
          · refine lv_iconst (v := 0) hC.1 hC.2.1 dX6_book_36 (by decide) ?_
            refine ec_topi (y := (bI (bkB M c0 s0 f2 l2))) (by rw [show bkB M c0 s0 f2 l2 = false by simp [bkB, (bI_n0 _).mp c_5, (show mhr M < f2 from Int32.not_le.mp c_14), (show f2 ≤ l2 from Int32.not_lt.mp c_21), (show ¬ l2 ≤ 9999 from Int32.not_le.mpr c_29)]]; rfl) ?_
            exact kj
          · refine lv_iconst (v := 1) hC.1 hC.2.1 dX6_book_32 (by decide) ?_
            refine lv_goto (tgt := 37) hC.1 hC.2.1 dX6_book_33 (by decide) ?_
            refine ec_topi (y := (bI (bkB M c0 s0 f2 l2))) (by rw [show bkB M c0 s0 f2 l2 = true by simp [bkB, (bI_n0 _).mp c_5, (show mhr M < f2 from Int32.not_le.mp c_14), (show f2 ≤ l2 from Int32.not_lt.mp c_21), (show l2 ≤ 9999 from Int32.not_lt.mp c_29)]]; rfl) ?_
            exact kj
