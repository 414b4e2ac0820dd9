theorem ca_1 (x y : Int32) (d : Nat) : (Int32.toInt64 y - Int32.toInt64 x ≤ (nI d).toInt64) ↔ y.toInt - x.toInt ≤ (nI d).toInt := by
  have hx1 := x.toInt_lt; have hx2 := x.le_toInt; have hy1 := y.toInt_lt; have hy2 := y.le_toInt
  have e1 : (Int32.toInt64 y - Int32.toInt64 x).toInt = y.toInt - x.toInt := by
    rw [Int64.toInt_sub, Int32.toInt_toInt64, Int32.toInt_toInt64, Int.bmod_eq_of_le (by omega) (by omega)]
  rw [Int64.le_iff_toInt_le, e1, Int32.toInt_toInt64]
/-- a booking that begins ahead of an hour by more than so many -/
theorem ca_a {l f : Int32} {d : Nat} (hd : d ≤ 3) (h : ¬ f ≤ l) (h2 : ¬ lg_cmp (Int32.toInt64 f - Int32.toInt64 l) (nI d).toInt64 ≤ 0) : ¬ f.toInt - l.toInt ≤ d := by
  rw [lg_cmp_le, ca_1, nI_toInt (by omega)] at h2; exact h2
theorem ca_b {l f : Int32} {d : Nat} (hd : d ≤ 3) (h2 : lg_cmp (Int32.toInt64 f - Int32.toInt64 l) (nI d).toInt64 ≤ 0) : f.toInt - l.toInt ≤ d := by
  rw [lg_cmp_le, ca_1, nI_toInt (by omega)] at h2; exact h2
theorem ca_c {l f : Int32} {d : Nat} (h : f ≤ l) : f.toInt - l.toInt ≤ d := by
  have := Int32.le_iff_toInt_le.mp h; omega
theorem ca_s {f la : Int32} (hl : 0 < la.toInt) (h : ¬ f ≤ la) : (f - la).toInt = f.toInt - la.toInt := by
  have h1 := Int32.lt_iff_toInt_lt.mp (Int32.not_le.mp h)
  have hx1 := f.toInt_lt
  rw [Int32.toInt_sub]
  exact Int.bmod_eq_of_le (by omega) (by omega)
theorem ca_d {f la : Int32} {d : Nat} (hd : d ≤ 3) (hl : 0 < la.toInt) (h : ¬ f ≤ la) (h2 : ¬ f - la ≤ nI d) : ¬ f.toInt - la.toInt ≤ d := by
  rw [Int32.le_iff_toInt_le, ca_s hl h, nI_toInt (by omega)] at h2; exact h2
theorem ca_e {f la : Int32} {d : Nat} (hd : d ≤ 3) (hl : 0 < la.toInt) (h : ¬ f ≤ la) (h2 : f - la ≤ nI d) : f.toInt - la.toInt ≤ d := by
  rw [Int32.le_iff_toInt_le, ca_s hl h, nI_toInt (by omega)] at h2; exact h2
theorem clM_b {M : ecM} (hwf : WF M) {r c : Nat} {f l : Int32} : ∀ j, clM M r c f l = some j → j < 2 ^ 31 := fun j h => by have := fstN_lt h; have := hwf.n; omega

set_option maxHeartbeats 4000000 in
set_option maxRecDepth 100000 in
/-- the first clash -/
theorem c_X6_clashOf (l : Launch) (G : ecG) (Y : Nat → Prop) (M : ecM) (th : Int32) (y : Nat) (ya : Nat → Nat) (hwf : WF M) (r k : Nat) (f2 l2 : Int32) (hr9 : r < mnR M) (hk8 : k < 80) : Met l yX6_clashOf (ecWs yX6_clashOf cX6_clashOf 11 (Option.some FieldType.int)) (ecRm 2 0 0) (ecPc [.ref y, .int (nI r), .int (nI k), .int f2, .int l2] G (fun H => rfX G Y M th y ya H)) (ecRp (fun v => v = some (.int (oI (clM M r k f2 l2))))) 0 0 (fun _ => False) := by
  refine ec_met (by decide) (Nat.le_of_ble_eq_true rfl) ?_
  intro p e s m below meth c hC hr hlocks hname hOk hpre ls hl
  have hK := hOk.1
  have hx := hpre
  have hS : va_S (fun _ => False) s.heap s.heap [] := va_S.rf
  have hAN : ∀ q, (fun _ : Nat => False) q → ecN0 G ≤ q := fun _ h => h.elim
  have hl : lv_has ls 11 [(0, .ref y), (1, .int (nI r)), (2, .int (nI k)), (3, .int f2), (4, .int l2)] := hl
  have hn0 := hwf.n
  refine lv_iconst (v := -1) hC.1 hC.2.1 dX6_clashOf_0 (by decide) ?_
  refine lv_istore (lv' := [(5, .int (-1)), (0, .ref y), (1, .int (nI r)), (2, .int (nI k)), (3, .int f2), (4, .int l2)]) hC.1 hC.2.1 dX6_clashOf_1 hl (by decide) rfl (fun ls hl => ?_)
  refine lv_aload_n hC.1 hC.2.1 dX6_clashOf_3 rfl (lv_at hl 1 rfl) ?_
  refine ec_get hC hK hx.1 fX6_143 rfl dX6_clashOf_4 ?_
  refine lv_iconst (v := 1) hC.1 hC.2.1 dX6_clashOf_7 (by decide) ?_
  refine lv_isub hC.1 hC.2.1 dX6_clashOf_8 ?_
  refine lv_istore (lv' := [(6, .int ((nI (mnB M)) - 1)), (5, .int (-1)), (0, .ref y), (1, .int (nI r)), (2, .int (nI k)), (3, .int f2), (4, .int l2)]) hC.1 hC.2.1 dX6_clashOf_9 hl (by decide) rfl (fun ls hl => ?_)
  have hl : lv_has ls 11 [(6, .int (nI (mnB M) - 1)), (5, .int (oI (fstN (clB M r k f2 l2) (mnB M) (mnB M - mnB M)))), (0, .ref y), (1, .int (nI r)), (2, .int (nI k)), (3, .int f2), (4, .int l2)] := by rw [Nat.sub_self]; exact hl
  refine ec_loopRD (n := mnB M) (fun i ls => lv_has ls 11 [(5, .int (oI (fstN (clB M r k f2 l2) i (mnB M - i)))), (6, .int (nI i - 1)), (0, .ref y), (1, .int (nI r)), (2, .int (nI k)), (3, .int f2), (4, .int l2)] ∧ True) ⟨⟨hl.1, hl.2.1, (ec_lvc (lv_at hl 1 rfl) (ec_lvc (lv_at hl 0 rfl) (ec_lvc (lv_at hl 2 rfl) (ec_lvc (lv_at hl 3 rfl) (ec_lvc (lv_at hl 4 rfl) (ec_lvc (lv_at hl 5 rfl) (ec_lvc (lv_at hl 6 rfl) ec_lvn)))))))⟩, trivial⟩ (fun ls h9 => ?_) (fun i ls hi h9 hk => ?_)
  · obtain ⟨hl, hI⟩ := h9
    refine lv_iload hC.1 hC.2.1 dX6_clashOf_11 (lv_at hl 1 rfl) ?_
    refine lv_if_lt (tgt := 157) hC.1 hC.2.1 dX6_clashOf_13 (by decide) (fun c_13 => ?_) (fun c => absurd (by decide) c)
    refine lv_iload hC.1 hC.2.1 dX6_clashOf_157 (lv_at hl 0 rfl) ?_
    exact W.iret hC.1 hC.2.1 hr (fun t9 ht9 _ => ⟨_, rfl, rfl, ht9⟩) hS.2.2 dX6_clashOf_159
  · obtain ⟨hl, hI⟩ := h9
    rw [show nI (i + 1) - 1 = nI i from nI_p1 i] at hl
    have hbk := hwf.bk hi
    have hd3 := dif_le (M.1 5 i) k
    refine lv_iload hC.1 hC.2.1 dX6_clashOf_11 (lv_at hl 1 rfl) ?_
    refine lv_if_lt (tgt := 157) hC.1 hC.2.1 dX6_clashOf_13 (by decide) (fun c => absurd c (nI_pos (by omega))) (fun c_13 => ?_)
    refine lv_aload_n hC.1 hC.2.1 dX6_clashOf_16 rfl (lv_at hl 2 rfl) ?_
    refine ec_get hC hK hx.1 fX6_54 rfl dX6_clashOf_17 ?_
    refine lv_iload hC.1 hC.2.1 dX6_clashOf_20 (lv_at hl 1 rfl) ?_
    refine ec_iald hC hK (hx.2.1 13 (by decide)) i rfl (by omega) (by omega) dX6_clashOf_22 ?_
    refine lv_iload_n hC.1 hC.2.1 dX6_clashOf_23 rfl (lv_at hl 4 rfl) ?_
    refine ec_go1 (ec_rS hC (c_X6_differ l G (M.1 5 i) k hbk.2.1 hk8) kX6_90 (hOk.at hS hAN) trivial hl.1 ⟨Nat.le_of_ble_eq_true rfl, Nat.le_of_ble_eq_true rfl⟩ rfl (Nat.le_of_ble_eq_true rfl) dX6_clashOf_24 ⟨Nat.le_of_ble_eq_true rfl, Nat.le_of_ble_eq_true rfl⟩) ?_
    refine lv_istore (lv' := [(7, .int (nI (dif (M.1 5 i) k))), (5, .int (oI (fstN (clB M r k f2 l2) (i + 1) (mnB M - (i + 1))))), (6, .int (nI i)), (0, .ref y), (1, .int (nI r)), (2, .int (nI k)), (3, .int f2), (4, .int l2)]) hC.1 hC.2.1 dX6_clashOf_27 hl (by decide) rfl (fun ls hl => ?_)
    refine ec_join (pcj := 55) (stj := [.int (bI (decide (M.1 4 i = r) && decide (M.1 6 i = 0)))]) ?_ (fun kj => ?_)
    · refine lv_istore (lv' := [(8, .int (bI (decide (M.1 4 i = r) && decide (M.1 6 i = 0)))), (7, .int (nI (dif (M.1 5 i) k))), (5, .int (oI (fstN (clB M r k f2 l2) (i + 1) (mnB M - (i + 1))))), (6, .int (nI i)), (0, .ref y), (1, .int (nI r)), (2, .int (nI k)), (3, .int f2), (4, .int l2)]) hC.1 hC.2.1 dX6_clashOf_55 hl (by decide) rfl (fun ls hl => ?_)
      refine ec_join (pcj := 93) (stj := [.int (bI (decide (¬ (M.2.1 7 i).toInt - l2.toInt ≤ dif (M.1 5 i) k)))]) ?_ (fun kj => ?_)
      · refine lv_istore (lv' := [(9, .int (bI (decide (¬ (M.2.1 7 i).toInt - l2.toInt ≤ dif (M.1 5 i) k)))), (8, .int (bI (decide (M.1 4 i = r) && decide (M.1 6 i = 0)))), (7, .int (nI (dif (M.1 5 i) k))), (5, .int (oI (fstN (clB M r k f2 l2) (i + 1) (mnB M - (i + 1))))), (6, .int (nI i)), (0, .ref y), (1, .int (nI r)), (2, .int (nI k)), (3, .int f2), (4, .int l2)]) hC.1 hC.2.1 dX6_clashOf_93 hl (by decide) rfl (fun ls hl => ?_)
        refine ec_join (pcj := 125) (stj := [.int (bI (decide (¬ f2.toInt - (M.2.1 8 i).toInt ≤ dif (M.1 5 i) k)))]) ?_ (fun kj => ?_)
        · refine lv_istore (lv' := [(10, .int (bI (decide (¬ f2.toInt - (M.2.1 8 i).toInt ≤ dif (M.1 5 i) k)))), (9, .int (bI (decide (¬ (M.2.1 7 i).toInt - l2.toInt ≤ dif (M.1 5 i) k)))), (8, .int (bI (decide (M.1 4 i = r) && decide (M.1 6 i = 0)))), (7, .int (nI (dif (M.1 5 i) k))), (5, .int (oI (fstN (clB M r k f2 l2) (i + 1) (mnB M - (i + 1))))), (6, .int (nI i)), (0, .ref y), (1, .int (nI r)), (2, .int (nI k)), (3, .int f2), (4, .int l2)]) hC.1 hC.2.1 dX6_clashOf_125 hl (by decide) rfl (fun ls hl => ?_)
          refine lv_iload hC.1 hC.2.1 dX6_clashOf_127 (lv_at hl 2 rfl) ?_
          refine lv_if_eq (tgt := 147) hC.1 hC.2.1 dX6_clashOf_129 (by decide) (fun c_129 => ?_) (fun c_129 => ?_)
          · refine lv_iload hC.1 hC.2.1 dX6_clashOf_147 (lv_at hl 4 rfl) ?_
            refine lv_istore (lv' := [(5, .int (oI (fstN (clB M r k f2 l2) (i + 1) (mnB M - (i + 1))))), (10, .int (bI (decide (¬ f2.toInt - (M.2.1 8 i).toInt ≤ dif (M.1 5 i) k)))), (9, .int (bI (decide (¬ (M.2.1 7 i).toInt - l2.toInt ≤ dif (M.1 5 i) k)))), (8, .int (bI (decide (M.1 4 i = r) && decide (M.1 6 i = 0)))), (7, .int (nI (dif (M.1 5 i) k))), (6, .int (nI i)), (0, .ref y), (1, .int (nI r)), (2, .int (nI k)), (3, .int f2), (4, .int l2)]) hC.1 hC.2.1 dX6_clashOf_149 hl (by decide) rfl (fun ls hl => ?_)
            refine lv_iinc (v := (nI i - 1)) (lv' := [(6, .int (nI i - 1)), (5, .int (oI (fstN (clB M r k f2 l2) (i + 1) (mnB M - (i + 1))))), (10, .int (bI (decide (¬ f2.toInt - (M.2.1 8 i).toInt ≤ dif (M.1 5 i) k)))), (9, .int (bI (decide (¬ (M.2.1 7 i).toInt - l2.toInt ≤ dif (M.1 5 i) k)))), (8, .int (bI (decide (M.1 4 i = r) && decide (M.1 6 i = 0)))), (7, .int (nI (dif (M.1 5 i) k))), (0, .ref y), (1, .int (nI r)), (2, .int (nI k)), (3, .int f2), (4, .int l2)]) hC.1 hC.2.1 dX6_clashOf_151 hl (k := 5) rfl (nI_m1 i) (by decide) rfl (fun ls hl => ?_)
            refine lv_goto (tgt := 11) hC.1 hC.2.1 dX6_clashOf_154 (by decide) ?_
            have he : mnB M - i = (mnB M - (i + 1)) + 1 := by omega
            have hcl : clB M r k f2 l2 i = false := by
              unfold clB nearB
              rcases Bool.and_eq_false_iff.mp ((bI_0 _).mp c_129) with z | z
              · rw [z, Bool.and_false, Bool.false_and]
              · rw [z, Bool.false_and, Bool.false_and]
            have e9 : fstN (clB M r k f2 l2) i (mnB M - i) = fstN (clB M r k f2 l2) (i + 1) (mnB M - (i + 1)) := by rw [he, fstN_s, hcl]; rfl
            -- 
            exact hk ls (by rw [e9]; exact ⟨⟨hl.1, hl.2.1, (ec_lvc (lv_at hl 1 rfl) (ec_lvc (lv_at hl 0 rfl) (ec_lvc (lv_at hl 6 rfl) (ec_lvc (lv_at hl 7 rfl) (ec_lvc (lv_at hl 8 rfl) (ec_lvc (lv_at hl 9 rfl) (ec_lvc (lv_at hl 10 rfl) ec_lvn)))))))⟩, trivial⟩)
          · refine lv_iload hC.1 hC.2.1 dX6_clashOf_132 (lv_at hl 1 rfl) ?_
            refine lv_if_ne (tgt := 147) hC.1 hC.2.1 dX6_clashOf_134 (by decide) (fun c_134 => ?_) (fun c_134 => ?_)
            · refine lv_iload hC.1 hC.2.1 dX6_clashOf_147 (lv_at hl 4 rfl) ?_
              refine lv_istore (lv' := [(5, .int (oI (fstN (clB M r k f2 l2) (i + 1) (mnB M - (i + 1))))), (10, .int (bI (decide (¬ f2.toInt - (M.2.1 8 i).toInt ≤ dif (M.1 5 i) k)))), (9, .int (bI (decide (¬ (M.2.1 7 i).toInt - l2.toInt ≤ dif (M.1 5 i) k)))), (8, .int (bI (decide (M.1 4 i = r) && decide (M.1 6 i = 0)))), (7, .int (nI (dif (M.1 5 i) k))), (6, .int (nI i)), (0, .ref y), (1, .int (nI r)), (2, .int (nI k)), (3, .int f2), (4, .int l2)]) hC.1 hC.2.1 dX6_clashOf_149 hl (by decide) rfl (fun ls hl => ?_)
              refine lv_iinc (v := (nI i - 1)) (lv' := [(6, .int (nI i - 1)), (5, .int (oI (fstN (clB M r k f2 l2) (i + 1) (mnB M - (i + 1))))), (10, .int (bI (decide (¬ f2.toInt - (M.2.1 8 i).toInt ≤ dif (M.1 5 i) k)))), (9, .int (bI (decide (¬ (M.2.1 7 i).toInt - l2.toInt ≤ dif (M.1 5 i) k)))), (8, .int (bI (decide (M.1 4 i = r) && decide (M.1 6 i = 0)))), (7, .int (nI (dif (M.1 5 i) k))), (0, .ref y), (1, .int (nI r)), (2, .int (nI k)), (3, .int f2), (4, .int l2)]) hC.1 hC.2.1 dX6_clashOf_151 hl (k := 5) rfl (nI_m1 i) (by decide) rfl (fun ls hl => ?_)
              refine lv_goto (tgt := 11) hC.1 hC.2.1 dX6_clashOf_154 (by decide) ?_
              have he : mnB M - i = (mnB M - (i + 1)) + 1 := by omega
              have hcl : clB M r k f2 l2 i = false := by
                unfold clB nearB
                rw [decide_eq_false (p := (M.2.1 7 i).toInt - l2.toInt ≤ dif (M.1 5 i) k) (of_decide_eq_true ((bI_n0 _).mp c_134)), Bool.false_and, Bool.and_false]
              have e9 : fstN (clB M r k f2 l2) i (mnB M - i) = fstN (clB M r k f2 l2) (i + 1) (mnB M - (i + 1)) := by rw [he, fstN_s, hcl]; rfl
              -- 
              exact hk ls (by rw [e9]; exact ⟨⟨hl.1, hl.2.1, (ec_lvc (lv_at hl 1 rfl) (ec_lvc (lv_at hl 0 rfl) (ec_lvc (lv_at hl 6 rfl) (ec_lvc (lv_at hl 7 rfl) (ec_lvc (lv_at hl 8 rfl) (ec_lvc (lv_at hl 9 rfl) (ec_lvc (lv_at hl 10 rfl) ec_lvn)))))))⟩, trivial⟩)
            · refine lv_iload hC.1 hC.2.1 dX6_clashOf_137 (lv_at hl 0 rfl) ?_
              refine lv_if_ne (tgt := 147) hC.1 hC.2.1 dX6_clashOf_139 (by decide) (fun c_139 => ?_) (fun c_139 => ?_)
              · refine lv_iload hC.1 hC.2.1 dX6_clashOf_147 (lv_at hl 4 rfl) ?_
                refine lv_istore (lv' := [(5, .int (oI (fstN (clB M r k f2 l2) (i + 1) (mnB M - (i + 1))))), (10, .int (bI (decide (¬ f2.toInt - (M.2.1 8 i).toInt ≤ dif (M.1 5 i) k)))), (9, .int (bI (decide (¬ (M.2.1 7 i).toInt - l2.toInt ≤ dif (M.1 5 i) k)))), (8, .int (bI (decide (M.1 4 i = r) && decide (M.1 6 i = 0)))), (7, .int (nI (dif (M.1 5 i) k))), (6, .int (nI i)), (0, .ref y), (1, .int (nI r)), (2, .int (nI k)), (3, .int f2), (4, .int l2)]) hC.1 hC.2.1 dX6_clashOf_149 hl (by decide) rfl (fun ls hl => ?_)
                refine lv_iinc (v := (nI i - 1)) (lv' := [(6, .int (nI i - 1)), (5, .int (oI (fstN (clB M r k f2 l2) (i + 1) (mnB M - (i + 1))))), (10, .int (bI (decide (¬ f2.toInt - (M.2.1 8 i).toInt ≤ dif (M.1 5 i) k)))), (9, .int (bI (decide (¬ (M.2.1 7 i).toInt - l2.toInt ≤ dif (M.1 5 i) k)))), (8, .int (bI (decide (M.1 4 i = r) && decide (M.1 6 i = 0)))), (7, .int (nI (dif (M.1 5 i) k))), (0, .ref y), (1, .int (nI r)), (2, .int (nI k)), (3, .int f2), (4, .int l2)]) hC.1 hC.2.1 dX6_clashOf_151 hl (k := 5) rfl (nI_m1 i) (by decide) rfl (fun ls hl => ?_)
                refine lv_goto (tgt := 11) hC.1 hC.2.1 dX6_clashOf_154 (by decide) ?_
                have he : mnB M - i = (mnB M - (i + 1)) + 1 := by omega
                have hcl : clB M r k f2 l2 i = false := by
                  unfold clB nearB
                  rw [decide_eq_false (p := f2.toInt - (M.2.1 8 i).toInt ≤ dif (M.1 5 i) k) (of_decide_eq_true ((bI_n0 _).mp c_139)), Bool.and_false, Bool.and_false]
                have e9 : fstN (clB M r k f2 l2) i (mnB M - i) = fstN (clB M r k f2 l2) (i + 1) (mnB M - (i + 1)) := by rw [he, fstN_s, hcl]; rfl
                -- 
                exact hk ls (by rw [e9]; exact ⟨⟨hl.1, hl.2.1, (ec_lvc (lv_at hl 1 rfl) (ec_lvc (lv_at hl 0 rfl) (ec_lvc (lv_at hl 6 rfl) (ec_lvc (lv_at hl 7 rfl) (ec_lvc (lv_at hl 8 rfl) (ec_lvc (lv_at hl 9 rfl) (ec_lvc (lv_at hl 10 rfl) ec_lvn)))))))⟩, trivial⟩)
              · refine lv_iload hC.1 hC.2.1 dX6_clashOf_142 (lv_at hl 5 rfl) ?_
                refine lv_goto (tgt := 149) hC.1 hC.2.1 dX6_clashOf_144 (by decide) ?_
                refine lv_istore (lv' := [(5, .int (nI i)), (10, .int (bI (decide (¬ f2.toInt - (M.2.1 8 i).toInt ≤ dif (M.1 5 i) k)))), (9, .int (bI (decide (¬ (M.2.1 7 i).toInt - l2.toInt ≤ dif (M.1 5 i) k)))), (8, .int (bI (decide (M.1 4 i = r) && decide (M.1 6 i = 0)))), (7, .int (nI (dif (M.1 5 i) k))), (6, .int (nI i)), (0, .ref y), (1, .int (nI r)), (2, .int (nI k)), (3, .int f2), (4, .int l2)]) hC.1 hC.2.1 dX6_clashOf_149 hl (by decide) rfl (fun ls hl => ?_)
                refine lv_iinc (v := (nI i - 1)) (lv' := [(6, .int (nI i - 1)), (5, .int (nI i)), (10, .int (bI (decide (¬ f2.toInt - (M.2.1 8 i).toInt ≤ dif (M.1 5 i) k)))), (9, .int (bI (decide (¬ (M.2.1 7 i).toInt - l2.toInt ≤ dif (M.1 5 i) k)))), (8, .int (bI (decide (M.1 4 i = r) && decide (M.1 6 i = 0)))), (7, .int (nI (dif (M.1 5 i) k))), (0, .ref y), (1, .int (nI r)), (2, .int (nI k)), (3, .int f2), (4, .int l2)]) hC.1 hC.2.1 dX6_clashOf_151 hl (k := 5) rfl (nI_m1 i) (by decide) rfl (fun ls hl => ?_)
                refine lv_goto (tgt := 11) hC.1 hC.2.1 dX6_clashOf_154 (by decide) ?_
                have he : mnB M - i = (mnB M - (i + 1)) + 1 := by omega
                have h129 := Bool.and_eq_true_iff.mp ((bI_n0 _).mp c_129)
                have hcl : clB M r k f2 l2 i = true := by
                  unfold clB nearB
                  rw [h129.1, h129.2, decide_eq_true (Classical.not_not.mp (of_decide_eq_false ((bI_0 _).mp c_134))), decide_eq_true (Classical.not_not.mp (of_decide_eq_false ((bI_0 _).mp c_139)))]
                  rfl
                have e9 : fstN (clB M r k f2 l2) i (mnB M - i) = some i := by rw [he, fstN_s, if_pos hcl]
                -- 
                exact hk ls (by rw [e9]; exact ⟨⟨hl.1, hl.2.1, (ec_lvc (lv_at hl 1 rfl) (ec_lvc (lv_at hl 0 rfl) (ec_lvc (lv_at hl 6 rfl) (ec_lvc (lv_at hl 7 rfl) (ec_lvc (lv_at hl 8 rfl) (ec_lvc (lv_at hl 9 rfl) (ec_lvc (lv_at hl 10 rfl) ec_lvn)))))))⟩, trivial⟩)
        · refine lv_aload_n hC.1 hC.2.1 dX6_clashOf_95 rfl (lv_at hl 5 rfl) ?_
          refine ec_get hC hK hx.1 fX6_60 rfl dX6_clashOf_96 ?_
          refine lv_iload hC.1 hC.2.1 dX6_clashOf_99 (lv_at hl 4 rfl) ?_
          refine ec_iald hC hK (hx.2.1 15 (by decide)) i rfl (by omega) (by omega) dX6_clashOf_101 ?_
          refine lv_iload_n hC.1 hC.2.1 dX6_clashOf_102 rfl (lv_at hl 8 rfl) ?_
          refine lv_icmp_ge (tgt := 124) hC.1 hC.2.1 dX6_clashOf_103 (by decide) (fun c_103 => ?_) (fun c_103 => ?_)
          · refine lv_iconst (v := 0) hC.1 hC.2.1 dX6_clashOf_124 (by decide) ?_
            refine ec_topi (y := (bI (decide (¬ f2.toInt - (M.2.1 8 i).toInt ≤ dif (M.1 5 i) k)))) (by rw [decide_eq_false (Classical.not_not.mpr (ca_c c_103))]; rfl) ?_
            exact kj
          · refine lv_iload_n hC.1 hC.2.1 dX6_clashOf_106 rfl (lv_at hl 8 rfl) ?_
            refine lv_aload_n hC.1 hC.2.1 dX6_clashOf_107 rfl (lv_at hl 5 rfl) ?_
            refine ec_get hC hK hx.1 fX6_60 rfl dX6_clashOf_108 ?_
            refine lv_iload hC.1 hC.2.1 dX6_clashOf_111 (lv_at hl 4 rfl) ?_
            refine ec_iald hC hK (hx.2.1 15 (by decide)) i rfl (by omega) (by omega) dX6_clashOf_113 ?_
            refine lv_isub hC.1 hC.2.1 dX6_clashOf_114 ?_
            refine lv_iload hC.1 hC.2.1 dX6_clashOf_115 (lv_at hl 2 rfl) ?_
            refine lv_icmp_le (tgt := 124) hC.1 hC.2.1 dX6_clashOf_117 (by decide) (fun c_117 => ?_) (fun c_117 => ?_)
            · refine lv_iconst (v := 0) hC.1 hC.2.1 dX6_clashOf_124 (by decide) ?_
              refine ec_topi (y := (bI (decide (¬ f2.toInt - (M.2.1 8 i).toInt ≤ dif (M.1 5 i) k)))) (by rw [decide_eq_false (Classical.not_not.mpr (ca_e hd3 hbk.2.2 c_103 c_117))]; rfl) ?_
              exact kj
            · refine lv_iconst (v := 1) hC.1 hC.2.1 dX6_clashOf_120 (by decide) ?_
              refine lv_goto (tgt := 125) hC.1 hC.2.1 dX6_clashOf_121 (by decide) ?_
              refine ec_topi (y := (bI (decide (¬ f2.toInt - (M.2.1 8 i).toInt ≤ dif (M.1 5 i) k)))) (by rw [decide_eq_true (ca_d hd3 hbk.2.2 c_103 c_117)]; rfl) ?_
              exact kj
      · refine lv_iload hC.1 hC.2.1 dX6_clashOf_57 (lv_at hl 8 rfl) ?_
        refine lv_aload_n hC.1 hC.2.1 dX6_clashOf_59 rfl (lv_at hl 4 rfl) ?_
        refine ec_get hC hK hx.1 fX6_57 rfl dX6_clashOf_60 ?_
        refine lv_iload hC.1 hC.2.1 dX6_clashOf_63 (lv_at hl 3 rfl) ?_
        refine ec_iald hC hK (hx.2.1 14 (by decide)) i rfl (by omega) (by omega) dX6_clashOf_65 ?_
        refine lv_icmp_ge (tgt := 92) hC.1 hC.2.1 dX6_clashOf_66 (by decide) (fun c_66 => ?_) (fun c_66 => ?_)
        · refine lv_iconst (v := 0) hC.1 hC.2.1 dX6_clashOf_92 (by decide) ?_
          refine ec_topi (y := (bI (decide (¬ (M.2.1 7 i).toInt - l2.toInt ≤ dif (M.1 5 i) k)))) (by rw [decide_eq_false (Classical.not_not.mpr (ca_c c_66))]; rfl) ?_
          exact kj
        · refine lv_aload_n hC.1 hC.2.1 dX6_clashOf_69 rfl (lv_at hl 4 rfl) ?_
          refine ec_get hC hK hx.1 fX6_57 rfl dX6_clashOf_70 ?_
          refine lv_iload hC.1 hC.2.1 dX6_clashOf_73 (lv_at hl 3 rfl) ?_
          refine ec_iald hC hK (hx.2.1 14 (by decide)) i rfl (by omega) (by omega) dX6_clashOf_75 ?_
          refine lv_i2l hC.1 hC.2.1 dX6_clashOf_76 rfl ?_
          refine lv_iload hC.1 hC.2.1 dX6_clashOf_77 (lv_at hl 8 rfl) ?_
          refine lv_i2l hC.1 hC.2.1 dX6_clashOf_79 rfl ?_
          refine lv_lsub hC.1 hC.2.1 dX6_clashOf_80 ?_
          refine lv_iload hC.1 hC.2.1 dX6_clashOf_81 (lv_at hl 1 rfl) ?_
          refine lv_i2l hC.1 hC.2.1 dX6_clashOf_83 rfl ?_
          refine W.lcmp hC.1 hC.2.1 dX6_clashOf_84 ?_
          refine lv_if_le (tgt := 92) hC.1 hC.2.1 dX6_clashOf_85 (by decide) (fun c_85 => ?_) (fun c_85 => ?_)
          · refine lv_iconst (v := 0) hC.1 hC.2.1 dX6_clashOf_92 (by decide) ?_
            refine ec_topi (y := (bI (decide (¬ (M.2.1 7 i).toInt - l2.toInt ≤ dif (M.1 5 i) k)))) (by rw [decide_eq_false (Classical.not_not.mpr (ca_b hd3 c_85))]; rfl) ?_
            exact kj
          · refine lv_iconst (v := 1) hC.1 hC.2.1 dX6_clashOf_88 (by decide) ?_
            refine lv_goto (tgt := 93) hC.1 hC.2.1 dX6_clashOf_89 (by decide) ?_
            refine ec_topi (y := (bI (decide (¬ (M.2.1 7 i).toInt - l2.toInt ≤ dif (M.1 5 i) k)))) (by rw [decide_eq_true (ca_a hd3 c_66 c_85)]; rfl) ?_
            exact kj
    · refine lv_aload_n hC.1 hC.2.1 dX6_clashOf_29 rfl (lv_at hl 3 rfl) ?_
      refine ec_get hC hK hx.1 fX6_51 rfl dX6_clashOf_30 ?_
      refine lv_iload hC.1 hC.2.1 dX6_clashOf_33 (lv_at hl 2 rfl) ?_
      refine ec_iald hC hK (hx.2.1 12 (by decide)) i rfl (by omega) (by omega) dX6_clashOf_35 ?_
      refine lv_iload_n hC.1 hC.2.1 dX6_clashOf_36 rfl (lv_at hl 4 rfl) ?_
      refine lv_icmp_ne (tgt := 54) hC.1 hC.2.1 dX6_clashOf_37 (by decide) (fun c_37 => ?_) (fun c_37 => ?_)
      · refine lv_iconst (v := 0) hC.1 hC.2.1 dX6_clashOf_54 (by decide) ?_
        refine ec_topi (y := (bI (decide (M.1 4 i = r) && decide (M.1 6 i = 0)))) (by rw [decide_eq_false (p := M.1 4 i = r) (fun z => c_37 (by rw [z]))]; rfl) ?_
        exact kj
      · refine lv_aload_n hC.1 hC.2.1 dX6_clashOf_40 rfl (lv_at hl 3 rfl) ?_
        refine ec_get hC hK hx.1 fX6_63 rfl dX6_clashOf_41 ?_
        refine lv_iload hC.1 hC.2.1 dX6_clashOf_44 (lv_at hl 2 rfl) ?_
        refine ec_zald hC hK (hx.2.1 16 (by decide)) i rfl (by omega) (by omega) dX6_clashOf_46 ?_
        refine lv_if_ne (tgt := 54) hC.1 hC.2.1 dX6_clashOf_47 (by decide) (fun c_47 => ?_) (fun c_47 => ?_)
        · refine lv_iconst (v := 0) hC.1 hC.2.1 dX6_clashOf_54 (by decide) ?_
          refine ec_topi (y := (bI (decide (M.1 4 i = r) && decide (M.1 6 i = 0)))) (by rw [decide_eq_false (p := M.1 6 i = 0) (fun z => c_47 (by rw [z]; rfl)), Bool.and_false]; rfl) ?_
          exact kj
        · refine lv_iconst (v := 1) hC.1 hC.2.1 dX6_clashOf_50 (by decide) ?_
          refine lv_goto (tgt := 55) hC.1 hC.2.1 dX6_clashOf_51 (by decide) ?_
          refine ec_topi (y := (bI (decide (M.1 4 i = r) && decide (M.1 6 i = 0)))) (by rw [decide_eq_true ((nI_eq (by omega) (by omega)).mp c_37), decide_eq_true ((nI_eq (a := M.1 6 i) (b := 0) (by have := hwf.gn i; omega) (by decide)).mp c_47)]; rfl) ?_
          exact kj
