set_option maxHeartbeats 4000000 in
set_option maxRecDepth 100000 in
/-- a sample of the product row -/
theorem c_X6_productOf (l : Launch) (G : ecG) (Y : Nat → Prop) (M : ecM) (th : Int32) (y : Nat) (ya : Nat → Nat) (hwf : WF M) (f a i : Nat) (hf : f < mnF M) (ha : a < mnA M) (hi : i < 6) : Met l yX6_productOf (ecWs yX6_productOf cX6_productOf 7 (Option.some FieldType.long)) (ecRm 1 0 0) (ecPc [.ref y, .int (nI f), .int (nI a), .int (nI i)] G (fun H => rfX G Y M th y ya H)) (ecRp (fun v => v = some (.long (prd (smA M a) (tpA M f) i)))) 0 0 (fun _ => False) := by
  refine ec_met (by decide) (Nat.le_of_ble_eq_true rfl) ?_
  intro p e s m below meth c hC hr hlocks hname hOk hpre ls hl
  have hK := hOk.1
  have hx := hpre
  have hS : va_S (fun _ => False) s.heap s.heap [] := va_S.rf
  have hAN : ∀ q, (fun _ : Nat => False) q → ecN0 G ≤ q := fun _ h => h.elim
  have hl : lv_has ls 7 [(0, .ref y), (1, .int (nI f)), (2, .int (nI a)), (3, .int (nI i))] := hl
  have hn0 := hwf.n
  refine lv_lconst (v := 0) hC.1 hC.2.1 dX6_productOf_0 (by decide) ?_
  refine lv_lstore (lv' := [(4, .long 0), (0, .ref y), (1, .int (nI f)), (2, .int (nI a)), (3, .int (nI i))]) hC.1 hC.2.1 dX6_productOf_1 hl (by decide) rfl (fun ls hl => ?_)
  refine lv_iconst (v := 0) hC.1 hC.2.1 dX6_productOf_3 (by decide) ?_
  refine lv_istore (lv' := [(6, .int 0), (4, .long 0), (0, .ref y), (1, .int (nI f)), (2, .int (nI a)), (3, .int (nI i))]) hC.1 hC.2.1 dX6_productOf_4 hl (by decide) rfl (fun ls hl => ?_)
  refine lv_iload hC.1 hC.2.1 dX6_productOf_6 (lv_at hl 0 rfl) ?_
  refine lv_iconst (v := 4) hC.1 hC.2.1 dX6_productOf_8 (by decide) ?_
  refine lv_icmp_ge (tgt := 56) hC.1 hC.2.1 dX6_productOf_9 (by decide) (fun c => absurd c (by decide)) (fun _ => ?_)
  refine lv_iload hC.1 hC.2.1 dX6_productOf_12 (lv_at hl 0 rfl) ?_
  refine lv_iload_n hC.1 hC.2.1 dX6_productOf_14 rfl (lv_at hl 5 rfl) ?_
  refine lv_icmp_gt (tgt := 56) hC.1 hC.2.1 dX6_productOf_15 (by decide) (fun c => absurd c (nI_pos (by omega))) (fun c_15 => ?_)
  refine lv_lload hC.1 hC.2.1 dX6_productOf_18 (lv_at hl 1 rfl) ?_
  refine lv_aload_n hC.1 hC.2.1 dX6_productOf_20 rfl (lv_at hl 2 rfl) ?_
  refine ec_get hC hK hx.1 fX6_35 rfl dX6_productOf_21 ?_
  refine lv_iconst (v := 4) hC.1 hC.2.1 dX6_productOf_24 (by decide) ?_
  refine lv_iload_n hC.1 hC.2.1 dX6_productOf_25 rfl (lv_at hl 4 rfl) ?_
  refine lv_imul hC.1 hC.2.1 dX6_productOf_26 ?_
  refine lv_iload hC.1 hC.2.1 dX6_productOf_27 (lv_at hl 0 rfl) ?_
  refine lv_iadd hC.1 hC.2.1 dX6_productOf_29 ?_
  refine ec_iald hC hK (hx.2.1 7 (by decide)) (4 * a + 0) (ix_ma 4 a 0) (by omega) (by omega) dX6_productOf_30 ?_
  refine lv_i2l hC.1 hC.2.1 dX6_productOf_31 rfl ?_
  refine lv_aload_n hC.1 hC.2.1 dX6_productOf_32 rfl (lv_at hl 2 rfl) ?_
  refine ec_get hC hK hx.1 fX6_41 rfl dX6_productOf_33 ?_
  refine lv_bipush (v := 6) hC.1 hC.2.1 dX6_productOf_36 (by decide) ?_
  refine lv_iload_n hC.1 hC.2.1 dX6_productOf_38 rfl (lv_at hl 3 rfl) ?_
  refine lv_imul hC.1 hC.2.1 dX6_productOf_39 ?_
  refine lv_iload_n hC.1 hC.2.1 dX6_productOf_40 rfl (lv_at hl 5 rfl) ?_
  refine lv_iadd hC.1 hC.2.1 dX6_productOf_41 ?_
  refine lv_iload hC.1 hC.2.1 dX6_productOf_42 (lv_at hl 0 rfl) ?_
  refine lv_isub hC.1 hC.2.1 dX6_productOf_44 ?_
  refine ec_lald hC hK (hx.2.1 9 (by decide)) (6 * f + (i - 0)) (ix_t (k := 0) (by omega)) (by omega) (by omega) dX6_productOf_45 ?_
  refine lv_lmul hC.1 hC.2.1 dX6_productOf_46 ?_
  refine lv_ladd hC.1 hC.2.1 dX6_productOf_47 ?_
  refine ec_topl (y := prS (smA M a) (tpA M f) i 1) rfl ?_
  refine lv_lstore (lv' := [(4, .long (prS (smA M a) (tpA M f) i 1)), (6, .int 0), (0, .ref y), (1, .int (nI f)), (2, .int (nI a)), (3, .int (nI i))]) hC.1 hC.2.1 dX6_productOf_48 hl (by decide) rfl (fun ls hl => ?_)
  refine lv_iinc (v := 1) (lv' := [(6, .int 1), (4, .long (prS (smA M a) (tpA M f) i 1)), (0, .ref y), (1, .int (nI f)), (2, .int (nI a)), (3, .int (nI i))]) hC.1 hC.2.1 dX6_productOf_50 hl (k := 1) rfl (by decide) (by decide) rfl (fun ls hl => ?_)
  refine lv_goto (tgt := 6) hC.1 hC.2.1 dX6_productOf_53 (by decide) ?_
  refine lv_iload hC.1 hC.2.1 dX6_productOf_6 (lv_at hl 0 rfl) ?_
  refine lv_iconst (v := 4) hC.1 hC.2.1 dX6_productOf_8 (by decide) ?_
  refine lv_icmp_ge (tgt := 56) hC.1 hC.2.1 dX6_productOf_9 (by decide) (fun c => absurd c (by decide)) (fun _ => ?_)
  refine lv_iload hC.1 hC.2.1 dX6_productOf_12 (lv_at hl 0 rfl) ?_
  refine lv_iload_n hC.1 hC.2.1 dX6_productOf_14 rfl (lv_at hl 5 rfl) ?_
  refine lv_icmp_gt (tgt := 56) hC.1 hC.2.1 dX6_productOf_15 (by decide) (fun c_15 => ?_) (fun c_15 => ?_)
  · refine lv_lload hC.1 hC.2.1 dX6_productOf_56 (lv_at hl 1 rfl) ?_
    have hlt : i < 1 := (nI_ltI (by omega) (by decide)).mp c_15
    exact W.lret hC.1 hC.2.1 hr (fun t9 ht9 _ => ⟨_, rfl, (ec_long (by have e : i = 0 := (by omega); subst e; rfl)), ht9⟩) hS.2.2 dX6_productOf_58
  · have hge1 : 1 ≤ i := by
      rcases Nat.lt_or_ge i 1 with h | h
      · exact absurd (nI_lt (a := i) (b := 1) h (by decide)) c_15
      · exact h
    refine lv_lload hC.1 hC.2.1 dX6_productOf_18 (lv_at hl 1 rfl) ?_
    refine lv_aload_n hC.1 hC.2.1 dX6_productOf_20 rfl (lv_at hl 2 rfl) ?_
    refine ec_get hC hK hx.1 fX6_35 rfl dX6_productOf_21 ?_
    refine lv_iconst (v := 4) hC.1 hC.2.1 dX6_productOf_24 (by decide) ?_
    refine lv_iload_n hC.1 hC.2.1 dX6_productOf_25 rfl (lv_at hl 4 rfl) ?_
    refine lv_imul hC.1 hC.2.1 dX6_productOf_26 ?_
    refine lv_iload hC.1 hC.2.1 dX6_productOf_27 (lv_at hl 0 rfl) ?_
    refine lv_iadd hC.1 hC.2.1 dX6_productOf_29 ?_
    refine ec_iald hC hK (hx.2.1 7 (by decide)) (4 * a + 1) (ix_ma 4 a 1) (by omega) (by omega) dX6_productOf_30 ?_
    refine lv_i2l hC.1 hC.2.1 dX6_productOf_31 rfl ?_
    refine lv_aload_n hC.1 hC.2.1 dX6_productOf_32 rfl (lv_at hl 2 rfl) ?_
    refine ec_get hC hK hx.1 fX6_41 rfl dX6_productOf_33 ?_
    refine lv_bipush (v := 6) hC.1 hC.2.1 dX6_productOf_36 (by decide) ?_
    refine lv_iload_n hC.1 hC.2.1 dX6_productOf_38 rfl (lv_at hl 3 rfl) ?_
    refine lv_imul hC.1 hC.2.1 dX6_productOf_39 ?_
    refine lv_iload_n hC.1 hC.2.1 dX6_productOf_40 rfl (lv_at hl 5 rfl) ?_
    refine lv_iadd hC.1 hC.2.1 dX6_productOf_41 ?_
    refine lv_iload hC.1 hC.2.1 dX6_productOf_42 (lv_at hl 0 rfl) ?_
    refine lv_isub hC.1 hC.2.1 dX6_productOf_44 ?_
    refine ec_lald hC hK (hx.2.1 9 (by decide)) (6 * f + (i - 1)) (ix_t (k := 1) (by omega)) (by omega) (by omega) dX6_productOf_45 ?_
    refine lv_lmul hC.1 hC.2.1 dX6_productOf_46 ?_
    refine lv_ladd hC.1 hC.2.1 dX6_productOf_47 ?_
    refine ec_topl (y := prS (smA M a) (tpA M f) i 2) rfl ?_
    refine lv_lstore (lv' := [(4, .long (prS (smA M a) (tpA M f) i 2)), (6, .int 1), (0, .ref y), (1, .int (nI f)), (2, .int (nI a)), (3, .int (nI i))]) hC.1 hC.2.1 dX6_productOf_48 hl (by decide) rfl (fun ls hl => ?_)
    refine lv_iinc (v := 2) (lv' := [(6, .int 2), (4, .long (prS (smA M a) (tpA M f) i 2)), (0, .ref y), (1, .int (nI f)), (2, .int (nI a)), (3, .int (nI i))]) hC.1 hC.2.1 dX6_productOf_50 hl (k := 1) rfl (by decide) (by decide) rfl (fun ls hl => ?_)
    refine lv_goto (tgt := 6) hC.1 hC.2.1 dX6_productOf_53 (by decide) ?_
    refine lv_iload hC.1 hC.2.1 dX6_productOf_6 (lv_at hl 0 rfl) ?_
    refine lv_iconst (v := 4) hC.1 hC.2.1 dX6_productOf_8 (by decide) ?_
    refine lv_icmp_ge (tgt := 56) hC.1 hC.2.1 dX6_productOf_9 (by decide) (fun c => absurd c (by decide)) (fun _ => ?_)
    refine lv_iload hC.1 hC.2.1 dX6_productOf_12 (lv_at hl 0 rfl) ?_
    refine lv_iload_n hC.1 hC.2.1 dX6_productOf_14 rfl (lv_at hl 5 rfl) ?_
    refine lv_icmp_gt (tgt := 56) hC.1 hC.2.1 dX6_productOf_15 (by decide) (fun c_15 => ?_) (fun c_15 => ?_)
    · refine lv_lload hC.1 hC.2.1 dX6_productOf_56 (lv_at hl 1 rfl) ?_
      have hlt : i < 2 := (nI_ltI (by omega) (by decide)).mp c_15
      exact W.lret hC.1 hC.2.1 hr (fun t9 ht9 _ => ⟨_, rfl, (ec_long (by have e : i = 1 := (by omega); subst e; rfl)), ht9⟩) hS.2.2 dX6_productOf_58
    · have hge2 : 2 ≤ i := by
        rcases Nat.lt_or_ge i 2 with h | h
        · exact absurd (nI_lt (a := i) (b := 2) h (by decide)) c_15
        · exact h
      refine lv_lload hC.1 hC.2.1 dX6_productOf_18 (lv_at hl 1 rfl) ?_
      refine lv_aload_n hC.1 hC.2.1 dX6_productOf_20 rfl (lv_at hl 2 rfl) ?_
      refine ec_get hC hK hx.1 fX6_35 rfl dX6_productOf_21 ?_
      refine lv_iconst (v := 4) hC.1 hC.2.1 dX6_productOf_24 (by decide) ?_
      refine lv_iload_n hC.1 hC.2.1 dX6_productOf_25 rfl (lv_at hl 4 rfl) ?_
      refine lv_imul hC.1 hC.2.1 dX6_productOf_26 ?_
      refine lv_iload hC.1 hC.2.1 dX6_productOf_27 (lv_at hl 0 rfl) ?_
      refine lv_iadd hC.1 hC.2.1 dX6_productOf_29 ?_
      refine ec_iald hC hK (hx.2.1 7 (by decide)) (4 * a + 2) (ix_ma 4 a 2) (by omega) (by omega) dX6_productOf_30 ?_
      refine lv_i2l hC.1 hC.2.1 dX6_productOf_31 rfl ?_
      refine lv_aload_n hC.1 hC.2.1 dX6_productOf_32 rfl (lv_at hl 2 rfl) ?_
      refine ec_get hC hK hx.1 fX6_41 rfl dX6_productOf_33 ?_
      refine lv_bipush (v := 6) hC.1 hC.2.1 dX6_productOf_36 (by decide) ?_
      refine lv_iload_n hC.1 hC.2.1 dX6_productOf_38 rfl (lv_at hl 3 rfl) ?_
      refine lv_imul hC.1 hC.2.1 dX6_productOf_39 ?_
      refine lv_iload_n hC.1 hC.2.1 dX6_productOf_40 rfl (lv_at hl 5 rfl) ?_
      refine lv_iadd hC.1 hC.2.1 dX6_productOf_41 ?_
      refine lv_iload hC.1 hC.2.1 dX6_productOf_42 (lv_at hl 0 rfl) ?_
      refine lv_isub hC.1 hC.2.1 dX6_productOf_44 ?_
      refine ec_lald hC hK (hx.2.1 9 (by decide)) (6 * f + (i - 2)) (ix_t (k := 2) (by omega)) (by omega) (by omega) dX6_productOf_45 ?_
      refine lv_lmul hC.1 hC.2.1 dX6_productOf_46 ?_
      refine lv_ladd hC.1 hC.2.1 dX6_productOf_47 ?_
      refine ec_topl (y := prS (smA M a) (tpA M f) i 3) rfl ?_
      refine lv_lstore (lv' := [(4, .long (prS (smA M a) (tpA M f) i 3)), (6, .int 2), (0, .ref y), (1, .int (nI f)), (2, .int (nI a)), (3, .int (nI i))]) hC.1 hC.2.1 dX6_productOf_48 hl (by decide) rfl (fun ls hl => ?_)
      refine lv_iinc (v := 3) (lv' := [(6, .int 3), (4, .long (prS (smA M a) (tpA M f) i 3)), (0, .ref y), (1, .int (nI f)), (2, .int (nI a)), (3, .int (nI i))]) hC.1 hC.2.1 dX6_productOf_50 hl (k := 1) rfl (by decide) (by decide) rfl (fun ls hl => ?_)
      refine lv_goto (tgt := 6) hC.1 hC.2.1 dX6_productOf_53 (by decide) ?_
      refine lv_iload hC.1 hC.2.1 dX6_productOf_6 (lv_at hl 0 rfl) ?_
      refine lv_iconst (v := 4) hC.1 hC.2.1 dX6_productOf_8 (by decide) ?_
      refine lv_icmp_ge (tgt := 56) hC.1 hC.2.1 dX6_productOf_9 (by decide) (fun c => absurd c (by decide)) (fun _ => ?_)
      refine lv_iload hC.1 hC.2.1 dX6_productOf_12 (lv_at hl 0 rfl) ?_
      refine lv_iload_n hC.1 hC.2.1 dX6_productOf_14 rfl (lv_at hl 5 rfl) ?_
      refine lv_icmp_gt (tgt := 56) hC.1 hC.2.1 dX6_productOf_15 (by decide) (fun c_15 => ?_) (fun c_15 => ?_)
      · refine lv_lload hC.1 hC.2.1 dX6_productOf_56 (lv_at hl 1 rfl) ?_
        have hlt : i < 3 := (nI_ltI (by omega) (by decide)).mp c_15
        exact W.lret hC.1 hC.2.1 hr (fun t9 ht9 _ => ⟨_, rfl, (ec_long (by have e : i = 2 := (by omega); subst e; rfl)), ht9⟩) hS.2.2 dX6_productOf_58
      · have hge3 : 3 ≤ i := by
          rcases Nat.lt_or_ge i 3 with h | h
          · exact absurd (nI_lt (a := i) (b := 3) h (by decide)) c_15
          · exact h
        refine lv_lload hC.1 hC.2.1 dX6_productOf_18 (lv_at hl 1 rfl) ?_
        refine lv_aload_n hC.1 hC.2.1 dX6_productOf_20 rfl (lv_at hl 2 rfl) ?_
        refine ec_get hC hK hx.1 fX6_35 rfl dX6_productOf_21 ?_
        refine lv_iconst (v := 4) hC.1 hC.2.1 dX6_productOf_24 (by decide) ?_
        refine lv_iload_n hC.1 hC.2.1 dX6_productOf_25 rfl (lv_at hl 4 rfl) ?_
        refine lv_imul hC.1 hC.2.1 dX6_productOf_26 ?_
        refine lv_iload hC.1 hC.2.1 dX6_productOf_27 (lv_at hl 0 rfl) ?_
        refine lv_iadd hC.1 hC.2.1 dX6_productOf_29 ?_
        refine ec_iald hC hK (hx.2.1 7 (by decide)) (4 * a + 3) (ix_ma 4 a 3) (by omega) (by omega) dX6_productOf_30 ?_
        refine lv_i2l hC.1 hC.2.1 dX6_productOf_31 rfl ?_
        refine lv_aload_n hC.1 hC.2.1 dX6_productOf_32 rfl (lv_at hl 2 rfl) ?_
        refine ec_get hC hK hx.1 fX6_41 rfl dX6_productOf_33 ?_
        refine lv_bipush (v := 6) hC.1 hC.2.1 dX6_productOf_36 (by decide) ?_
        refine lv_iload_n hC.1 hC.2.1 dX6_productOf_38 rfl (lv_at hl 3 rfl) ?_
        refine lv_imul hC.1 hC.2.1 dX6_productOf_39 ?_
        refine lv_iload_n hC.1 hC.2.1 dX6_productOf_40 rfl (lv_at hl 5 rfl) ?_
        refine lv_iadd hC.1 hC.2.1 dX6_productOf_41 ?_
        refine lv_iload hC.1 hC.2.1 dX6_productOf_42 (lv_at hl 0 rfl) ?_
        refine lv_isub hC.1 hC.2.1 dX6_productOf_44 ?_
        refine ec_lald hC hK (hx.2.1 9 (by decide)) (6 * f + (i - 3)) (ix_t (k := 3) (by omega)) (by omega) (by omega) dX6_productOf_45 ?_
        refine lv_lmul hC.1 hC.2.1 dX6_productOf_46 ?_
        refine lv_ladd hC.1 hC.2.1 dX6_productOf_47 ?_
        refine ec_topl (y := prS (smA M a) (tpA M f) i 4) rfl ?_
        refine lv_lstore (lv' := [(4, .long (prS (smA M a) (tpA M f) i 4)), (6, .int 3), (0, .ref y), (1, .int (nI f)), (2, .int (nI a)), (3, .int (nI i))]) hC.1 hC.2.1 dX6_productOf_48 hl (by decide) rfl (fun ls hl => ?_)
        refine lv_iinc (v := 4) (lv' := [(6, .int 4), (4, .long (prS (smA M a) (tpA M f) i 4)), (0, .ref y), (1, .int (nI f)), (2, .int (nI a)), (3, .int (nI i))]) hC.1 hC.2.1 dX6_productOf_50 hl (k := 1) rfl (by decide) (by decide) rfl (fun ls hl => ?_)
        refine lv_goto (tgt := 6) hC.1 hC.2.1 dX6_productOf_53 (by decide) ?_
        refine lv_iload hC.1 hC.2.1 dX6_productOf_6 (lv_at hl 0 rfl) ?_
        refine lv_iconst (v := 4) hC.1 hC.2.1 dX6_productOf_8 (by decide) ?_
        refine lv_icmp_ge (tgt := 56) hC.1 hC.2.1 dX6_productOf_9 (by decide) (fun _ => ?_) (fun c => absurd (by decide) c)
        refine lv_lload hC.1 hC.2.1 dX6_productOf_56 (lv_at hl 1 rfl) ?_
        exact W.lret hC.1 hC.2.1 hr (fun t9 ht9 _ => ⟨_, rfl, (ec_long (by unfold prd; rw [if_neg (show ¬ i < 3 by omega)])), ht9⟩) hS.2.2 dX6_productOf_58

theorem rg_0 (s : Nat → Int32) (t : Nat → Int64)  (hn : ¬ prd s t 0 = 1) : rgt s t = 0 := by
  simp [rgt, rgtN, hn]
theorem rg_1 (s : Nat → Int32) (t : Nat → Int64) (h0 : prd s t 0 = 1) (hn : ¬ prd s t 1 = 0) : rgt s t = 1 := by
  simp [rgt, rgtN, h0, hn]
theorem rg_2 (s : Nat → Int32) (t : Nat → Int64) (h0 : prd s t 0 = 1) (h1 : prd s t 1 = 0) (hn : ¬ prd s t 2 = 0) : rgt s t = 2 := by
  simp [rgt, rgtN, h0, h1, hn]
theorem rg_3 (s : Nat → Int32) (t : Nat → Int64) (h0 : prd s t 0 = 1) (h1 : prd s t 1 = 0) (h2 : prd s t 2 = 0) (hn : ¬ prd s t 3 = 0) : rgt s t = 3 := by
  simp [rgt, rgtN, h0, h1, h2, hn]
theorem rg_4 (s : Nat → Int32) (t : Nat → Int64) (h0 : prd s t 0 = 1) (h1 : prd s t 1 = 0) (h2 : prd s t 2 = 0) (h3 : prd s t 3 = 0) (hn : ¬ prd s t 4 = 0) : rgt s t = 4 := by
  simp [rgt, rgtN, h0, h1, h2, h3, hn]
theorem rg_5 (s : Nat → Int32) (t : Nat → Int64) (h0 : prd s t 0 = 1) (h1 : prd s t 1 = 0) (h2 : prd s t 2 = 0) (h3 : prd s t 3 = 0) (h4 : prd s t 4 = 0) (hn : ¬ prd s t 5 = 0) : rgt s t = 5 := by
  simp [rgt, rgtN, h0, h1, h2, h3, h4, hn]
theorem rg_6 (s : Nat → Int32) (t : Nat → Int64) (h0 : prd s t 0 = 1) (h1 : prd s t 1 = 0) (h2 : prd s t 2 = 0) (h3 : prd s t 3 = 0) (h4 : prd s t 4 = 0) (h5 : prd s t 5 = 0) : rgt s t = 6 := by
  simp [rgt, rgtN, h0, h1, h2, h3, h4, h5]
set_option maxHeartbeats 4000000 in
set_option maxRecDepth 100000 in
/-- how many samples are right -/
theorem c_X6_rightOf (l : Launch) (G : ecG) (Y : Nat → Prop) (M : ecM) (th : Int32) (y : Nat) (ya : Nat → Nat) (hwf : WF M) (f a : Nat) (hf : f < mnF M) (ha : a < mnA M) : Met l yX6_rightOf (ecWs yX6_rightOf cX6_rightOf 4 (Option.some FieldType.int)) (ecRm 2 0 0) (ecPc [.ref y, .int (nI f), .int (nI a)] G (fun H => rfX G Y M th y ya H)) (ecRp (fun v => v = some (.int (nI (rgt (smA M a) (tpA M f)))))) 0 0 (fun _ => False) := by
  refine ec_met (by decide) (Nat.le_of_ble_eq_true rfl) ?_
  intro p e s m below meth c hC hr hlocks hname hOk hpre ls hl
  have hK := hOk.1
  have hx := hpre
  have hS : va_S (fun _ => False) s.heap s.heap [] := va_S.rf
  have hAN : ∀ q, (fun _ : Nat => False) q → ecN0 G ≤ q := fun _ h => h.elim
  have hl : lv_has ls 4 [(0, .ref y), (1, .int (nI f)), (2, .int (nI a))] := hl
  have hn0 := hwf.n
  refine lv_iconst (v := 0) hC.1 hC.2.1 dX6_rightOf_0 (by decide) ?_
  refine lv_istore_n (lv' := [(3, .int 0), (0, .ref y), (1, .int (nI f)), (2, .int (nI a))]) hC.1 hC.2.1 dX6_rightOf_1 rfl hl (by decide) rfl (fun ls hl => ?_)
  refine lv_iload_n hC.1 hC.2.1 dX6_rightOf_2 rfl (lv_at hl 0 rfl) ?_
  refine lv_bipush (v := 6) hC.1 hC.2.1 dX6_rightOf_3 (by decide) ?_
  refine lv_icmp_ge (tgt := 34) hC.1 hC.2.1 dX6_rightOf_5 (by decide) (fun c => absurd c (by decide)) (fun _ => ?_)
  refine lv_aload_n hC.1 hC.2.1 dX6_rightOf_8 rfl (lv_at hl 1 rfl) ?_
  refine lv_iload_n hC.1 hC.2.1 dX6_rightOf_9 rfl (lv_at hl 2 rfl) ?_
  refine lv_iload_n hC.1 hC.2.1 dX6_rightOf_10 rfl (lv_at hl 3 rfl) ?_
  refine lv_iload_n hC.1 hC.2.1 dX6_rightOf_11 rfl (lv_at hl 0 rfl) ?_
  refine ec_go1 (ec_rV hC (c_X6_productOf l G Y M th y ya hwf f a 0 hf ha (by omega)) kX6_132 (hOk.at hS hAN) hx (ec_rc hK hx.1 ⟨_, _, rfl⟩) hl.1 ⟨Nat.le_of_ble_eq_true rfl, Nat.le_of_ble_eq_true rfl⟩ rfl (Nat.le_of_ble_eq_true rfl) dX6_rightOf_12 ⟨Nat.le_of_ble_eq_true rfl, Nat.le_of_ble_eq_true rfl⟩) ?_
  refine lv_iload_n hC.1 hC.2.1 dX6_rightOf_15 rfl (lv_at hl 0 rfl) ?_
  refine lv_if_ne (tgt := 23) hC.1 hC.2.1 dX6_rightOf_16 (by decide) (fun c => absurd rfl c) (fun _ => ?_)
  refine lv_lconst (v := 1) hC.1 hC.2.1 dX6_rightOf_19 (by decide) ?_
  refine lv_goto (tgt := 24) hC.1 hC.2.1 dX6_rightOf_20 (by decide) ?_
  refine W.lcmp hC.1 hC.2.1 dX6_rightOf_24 ?_
  refine lv_if_ne (tgt := 34) hC.1 hC.2.1 dX6_rightOf_25 (by decide) (fun c_25 => ?_) (fun c_25 => ?_)
  · refine lv_iload_n hC.1 hC.2.1 dX6_rightOf_34 rfl (lv_at hl 0 rfl) ?_
    have hn0 : ¬ prd (smA M a) (tpA M f) 0 = 1 := fun z => c_25 ((ec_cm0 _ _).mpr z)
    exact W.iret hC.1 hC.2.1 hr (fun t9 ht9 _ => ⟨_, rfl, (ec_int (by rw [rg_0 (smA M a) (tpA M f) hn0]; rfl)), ht9⟩) hS.2.2 dX6_rightOf_35
  · have he0 : prd (smA M a) (tpA M f) 0 = 1 := (ec_cm0 _ _).mp c_25
    refine lv_iinc (v := 1) (lv' := [(3, .int 1), (0, .ref y), (1, .int (nI f)), (2, .int (nI a))]) hC.1 hC.2.1 dX6_rightOf_28 hl (k := 0) rfl (by decide) (by decide) rfl (fun ls hl => ?_)
    refine lv_goto (tgt := 2) hC.1 hC.2.1 dX6_rightOf_31 (by decide) ?_
    refine lv_iload_n hC.1 hC.2.1 dX6_rightOf_2 rfl (lv_at hl 0 rfl) ?_
    refine lv_bipush (v := 6) hC.1 hC.2.1 dX6_rightOf_3 (by decide) ?_
    refine lv_icmp_ge (tgt := 34) hC.1 hC.2.1 dX6_rightOf_5 (by decide) (fun c => absurd c (by decide)) (fun _ => ?_)
    refine lv_aload_n hC.1 hC.2.1 dX6_rightOf_8 rfl (lv_at hl 1 rfl) ?_
    refine lv_iload_n hC.1 hC.2.1 dX6_rightOf_9 rfl (lv_at hl 2 rfl) ?_
    refine lv_iload_n hC.1 hC.2.1 dX6_rightOf_10 rfl (lv_at hl 3 rfl) ?_
    refine lv_iload_n hC.1 hC.2.1 dX6_rightOf_11 rfl (lv_at hl 0 rfl) ?_
    refine ec_go1 (ec_rV hC (c_X6_productOf l G Y M th y ya hwf f a 1 hf ha (by omega)) kX6_132 (hOk.at hS hAN) hx (ec_rc hK hx.1 ⟨_, _, rfl⟩) hl.1 ⟨Nat.le_of_ble_eq_true rfl, Nat.le_of_ble_eq_true rfl⟩ rfl (Nat.le_of_ble_eq_true rfl) dX6_rightOf_12 ⟨Nat.le_of_ble_eq_true rfl, Nat.le_of_ble_eq_true rfl⟩) ?_
    refine lv_iload_n hC.1 hC.2.1 dX6_rightOf_15 rfl (lv_at hl 0 rfl) ?_
    refine lv_if_ne (tgt := 23) hC.1 hC.2.1 dX6_rightOf_16 (by decide) (fun _ => ?_) (fun c => absurd c (by decide))
    refine lv_lconst (v := 0) hC.1 hC.2.1 dX6_rightOf_23 (by decide) ?_
    refine W.lcmp hC.1 hC.2.1 dX6_rightOf_24 ?_
    refine lv_if_ne (tgt := 34) hC.1 hC.2.1 dX6_rightOf_25 (by decide) (fun c_25 => ?_) (fun c_25 => ?_)
    · refine lv_iload_n hC.1 hC.2.1 dX6_rightOf_34 rfl (lv_at hl 0 rfl) ?_
      have hn1 : ¬ prd (smA M a) (tpA M f) 1 = 0 := fun z => c_25 ((ec_cm0 _ _).mpr z)
      exact W.iret hC.1 hC.2.1 hr (fun t9 ht9 _ => ⟨_, rfl, (ec_int (by rw [rg_1 (smA M a) (tpA M f) he0 hn1]; rfl)), ht9⟩) hS.2.2 dX6_rightOf_35
    · have he1 : prd (smA M a) (tpA M f) 1 = 0 := (ec_cm0 _ _).mp c_25
      refine lv_iinc (v := 2) (lv' := [(3, .int 2), (0, .ref y), (1, .int (nI f)), (2, .int (nI a))]) hC.1 hC.2.1 dX6_rightOf_28 hl (k := 0) rfl (by decide) (by decide) rfl (fun ls hl => ?_)
      refine lv_goto (tgt := 2) hC.1 hC.2.1 dX6_rightOf_31 (by decide) ?_
      refine lv_iload_n hC.1 hC.2.1 dX6_rightOf_2 rfl (lv_at hl 0 rfl) ?_
      refine lv_bipush (v := 6) hC.1 hC.2.1 dX6_rightOf_3 (by decide) ?_
      refine lv_icmp_ge (tgt := 34) hC.1 hC.2.1 dX6_rightOf_5 (by decide) (fun c => absurd c (by decide)) (fun _ => ?_)
      refine lv_aload_n hC.1 hC.2.1 dX6_rightOf_8 rfl (lv_at hl 1 rfl) ?_
      refine lv_iload_n hC.1 hC.2.1 dX6_rightOf_9 rfl (lv_at hl 2 rfl) ?_
      refine lv_iload_n hC.1 hC.2.1 dX6_rightOf_10 rfl (lv_at hl 3 rfl) ?_
      refine lv_iload_n hC.1 hC.2.1 dX6_rightOf_11 rfl (lv_at hl 0 rfl) ?_
      refine ec_go1 (ec_rV hC (c_X6_productOf l G Y M th y ya hwf f a 2 hf ha (by omega)) kX6_132 (hOk.at hS hAN) hx (ec_rc hK hx.1 ⟨_, _, rfl⟩) hl.1 ⟨Nat.le_of_ble_eq_true rfl, Nat.le_of_ble_eq_true rfl⟩ rfl (Nat.le_of_ble_eq_true rfl) dX6_rightOf_12 ⟨Nat.le_of_ble_eq_true rfl, Nat.le_of_ble_eq_true rfl⟩) ?_
      refine lv_iload_n hC.1 hC.2.1 dX6_rightOf_15 rfl (lv_at hl 0 rfl) ?_
      refine lv_if_ne (tgt := 23) hC.1 hC.2.1 dX6_rightOf_16 (by decide) (fun _ => ?_) (fun c => absurd c (by decide))
      refine lv_lconst (v := 0) hC.1 hC.2.1 dX6_rightOf_23 (by decide) ?_
      refine W.lcmp hC.1 hC.2.1 dX6_rightOf_24 ?_
      refine lv_if_ne (tgt := 34) hC.1 hC.2.1 dX6_rightOf_25 (by decide) (fun c_25 => ?_) (fun c_25 => ?_)
      · refine lv_iload_n hC.1 hC.2.1 dX6_rightOf_34 rfl (lv_at hl 0 rfl) ?_
        have hn2 : ¬ prd (smA M a) (tpA M f) 2 = 0 := fun z => c_25 ((ec_cm0 _ _).mpr z)
        exact W.iret hC.1 hC.2.1 hr (fun t9 ht9 _ => ⟨_, rfl, (ec_int (by rw [rg_2 (smA M a) (tpA M f) he0 he1 hn2]; rfl)), ht9⟩) hS.2.2 dX6_rightOf_35
      · have he2 : prd (smA M a) (tpA M f) 2 = 0 := (ec_cm0 _ _).mp c_25
        refine lv_iinc (v := 3) (lv' := [(3, .int 3), (0, .ref y), (1, .int (nI f)), (2, .int (nI a))]) hC.1 hC.2.1 dX6_rightOf_28 hl (k := 0) rfl (by decide) (by decide) rfl (fun ls hl => ?_)
        refine lv_goto (tgt := 2) hC.1 hC.2.1 dX6_rightOf_31 (by decide) ?_
        refine lv_iload_n hC.1 hC.2.1 dX6_rightOf_2 rfl (lv_at hl 0 rfl) ?_
        refine lv_bipush (v := 6) hC.1 hC.2.1 dX6_rightOf_3 (by decide) ?_
        refine lv_icmp_ge (tgt := 34) hC.1 hC.2.1 dX6_rightOf_5 (by decide) (fun c => absurd c (by decide)) (fun _ => ?_)
        refine lv_aload_n hC.1 hC.2.1 dX6_rightOf_8 rfl (lv_at hl 1 rfl) ?_
        refine lv_iload_n hC.1 hC.2.1 dX6_rightOf_9 rfl (lv_at hl 2 rfl) ?_
        refine lv_iload_n hC.1 hC.2.1 dX6_rightOf_10 rfl (lv_at hl 3 rfl) ?_
        refine lv_iload_n hC.1 hC.2.1 dX6_rightOf_11 rfl (lv_at hl 0 rfl) ?_
        refine ec_go1 (ec_rV hC (c_X6_productOf l G Y M th y ya hwf f a 3 hf ha (by omega)) kX6_132 (hOk.at hS hAN) hx (ec_rc hK hx.1 ⟨_, _, rfl⟩) hl.1 ⟨Nat.le_of_ble_eq_true rfl, Nat.le_of_ble_eq_true rfl⟩ rfl (Nat.le_of_ble_eq_true rfl) dX6_rightOf_12 ⟨Nat.le_of_ble_eq_true rfl, Nat.le_of_ble_eq_true rfl⟩) ?_
        refine lv_iload_n hC.1 hC.2.1 dX6_rightOf_15 rfl (lv_at hl 0 rfl) ?_
        refine lv_if_ne (tgt := 23) hC.1 hC.2.1 dX6_rightOf_16 (by decide) (fun _ => ?_) (fun c => absurd c (by decide))
        refine lv_lconst (v := 0) hC.1 hC.2.1 dX6_rightOf_23 (by decide) ?_
        refine W.lcmp hC.1 hC.2.1 dX6_rightOf_24 ?_
        refine lv_if_ne (tgt := 34) hC.1 hC.2.1 dX6_rightOf_25 (by decide) (fun c_25 => ?_) (fun c_25 => ?_)
        · refine lv_iload_n hC.1 hC.2.1 dX6_rightOf_34 rfl (lv_at hl 0 rfl) ?_
          have hn3 : ¬ prd (smA M a) (tpA M f) 3 = 0 := fun z => c_25 ((ec_cm0 _ _).mpr z)
          exact W.iret hC.1 hC.2.1 hr (fun t9 ht9 _ => ⟨_, rfl, (ec_int (by rw [rg_3 (smA M a) (tpA M f) he0 he1 he2 hn3]; rfl)), ht9⟩) hS.2.2 dX6_rightOf_35
        · have he3 : prd (smA M a) (tpA M f) 3 = 0 := (ec_cm0 _ _).mp c_25
          refine lv_iinc (v := 4) (lv' := [(3, .int 4), (0, .ref y), (1, .int (nI f)), (2, .int (nI a))]) hC.1 hC.2.1 dX6_rightOf_28 hl (k := 0) rfl (by decide) (by decide) rfl (fun ls hl => ?_)
          refine lv_goto (tgt := 2) hC.1 hC.2.1 dX6_rightOf_31 (by decide) ?_
          refine lv_iload_n hC.1 hC.2.1 dX6_rightOf_2 rfl (lv_at hl 0 rfl) ?_
          refine lv_bipush (v := 6) hC.1 hC.2.1 dX6_rightOf_3 (by decide) ?_
          refine lv_icmp_ge (tgt := 34) hC.1 hC.2.1 dX6_rightOf_5 (by decide) (fun c => absurd c (by decide)) (fun _ => ?_)
          refine lv_aload_n hC.1 hC.2.1 dX6_rightOf_8 rfl (lv_at hl 1 rfl) ?_
          refine lv_iload_n hC.1 hC.2.1 dX6_rightOf_9 rfl (lv_at hl 2 rfl) ?_
          refine lv_iload_n hC.1 hC.2.1 dX6_rightOf_10 rfl (lv_at hl 3 rfl) ?_
          refine lv_iload_n hC.1 hC.2.1 dX6_rightOf_11 rfl (lv_at hl 0 rfl) ?_
          refine ec_go1 (ec_rV hC (c_X6_productOf l G Y M th y ya hwf f a 4 hf ha (by omega)) kX6_132 (hOk.at hS hAN) hx (ec_rc hK hx.1 ⟨_, _, rfl⟩) hl.1 ⟨Nat.le_of_ble_eq_true rfl, Nat.le_of_ble_eq_true rfl⟩ rfl (Nat.le_of_ble_eq_true rfl) dX6_rightOf_12 ⟨Nat.le_of_ble_eq_true rfl, Nat.le_of_ble_eq_true rfl⟩) ?_
          refine lv_iload_n hC.1 hC.2.1 dX6_rightOf_15 rfl (lv_at hl 0 rfl) ?_
          refine lv_if_ne (tgt := 23) hC.1 hC.2.1 dX6_rightOf_16 (by decide) (fun _ => ?_) (fun c => absurd c (by decide))
          refine lv_lconst (v := 0) hC.1 hC.2.1 dX6_rightOf_23 (by decide) ?_
          refine W.lcmp hC.1 hC.2.1 dX6_rightOf_24 ?_
          refine lv_if_ne (tgt := 34) hC.1 hC.2.1 dX6_rightOf_25 (by decide) (fun c_25 => ?_) (fun c_25 => ?_)
          · refine lv_iload_n hC.1 hC.2.1 dX6_rightOf_34 rfl (lv_at hl 0 rfl) ?_
            have hn4 : ¬ prd (smA M a) (tpA M f) 4 = 0 := fun z => c_25 ((ec_cm0 _ _).mpr z)
            exact W.iret hC.1 hC.2.1 hr (fun t9 ht9 _ => ⟨_, rfl, (ec_int (by rw [rg_4 (smA M a) (tpA M f) he0 he1 he2 he3 hn4]; rfl)), ht9⟩) hS.2.2 dX6_rightOf_35
          · have he4 : prd (smA M a) (tpA M f) 4 = 0 := (ec_cm0 _ _).mp c_25
            refine lv_iinc (v := 5) (lv' := [(3, .int 5), (0, .ref y), (1, .int (nI f)), (2, .int (nI a))]) hC.1 hC.2.1 dX6_rightOf_28 hl (k := 0) rfl (by decide) (by decide) rfl (fun ls hl => ?_)
            refine lv_goto (tgt := 2) hC.1 hC.2.1 dX6_rightOf_31 (by decide) ?_
            refine lv_iload_n hC.1 hC.2.1 dX6_rightOf_2 rfl (lv_at hl 0 rfl) ?_
            refine lv_bipush (v := 6) hC.1 hC.2.1 dX6_rightOf_3 (by decide) ?_
            refine lv_icmp_ge (tgt := 34) hC.1 hC.2.1 dX6_rightOf_5 (by decide) (fun c => absurd c (by decide)) (fun _ => ?_)
            refine lv_aload_n hC.1 hC.2.1 dX6_rightOf_8 rfl (lv_at hl 1 rfl) ?_
            refine lv_iload_n hC.1 hC.2.1 dX6_rightOf_9 rfl (lv_at hl 2 rfl) ?_
            refine lv_iload_n hC.1 hC.2.1 dX6_rightOf_10 rfl (lv_at hl 3 rfl) ?_
            refine lv_iload_n hC.1 hC.2.1 dX6_rightOf_11 rfl (lv_at hl 0 rfl) ?_
            refine ec_go1 (ec_rV hC (c_X6_productOf l G Y M th y ya hwf f a 5 hf ha (by omega)) kX6_132 (hOk.at hS hAN) hx (ec_rc hK hx.1 ⟨_, _, rfl⟩) hl.1 ⟨Nat.le_of_ble_eq_true rfl, Nat.le_of_ble_eq_true rfl⟩ rfl (Nat.le_of_ble_eq_true rfl) dX6_rightOf_12 ⟨Nat.le_of_ble_eq_true rfl, Nat.le_of_ble_eq_true rfl⟩) ?_
            refine lv_iload_n hC.1 hC.2.1 dX6_rightOf_15 rfl (lv_at hl 0 rfl) ?_
            refine lv_if_ne (tgt := 23) hC.1 hC.2.1 dX6_rightOf_16 (by decide) (fun _ => ?_) (fun c => absurd c (by decide))
            refine lv_lconst (v := 0) hC.1 hC.2.1 dX6_rightOf_23 (by decide) ?_
            refine W.lcmp hC.1 hC.2.1 dX6_rightOf_24 ?_
            refine lv_if_ne (tgt := 34) hC.1 hC.2.1 dX6_rightOf_25 (by decide) (fun c_25 => ?_) (fun c_25 => ?_)
            · refine lv_iload_n hC.1 hC.2.1 dX6_rightOf_34 rfl (lv_at hl 0 rfl) ?_
              have hn5 : ¬ prd (smA M a) (tpA M f) 5 = 0 := fun z => c_25 ((ec_cm0 _ _).mpr z)
              exact W.iret hC.1 hC.2.1 hr (fun t9 ht9 _ => ⟨_, rfl, (ec_int (by rw [rg_5 (smA M a) (tpA M f) he0 he1 he2 he3 he4 hn5]; rfl)), ht9⟩) hS.2.2 dX6_rightOf_35
            · have he5 : prd (smA M a) (tpA M f) 5 = 0 := (ec_cm0 _ _).mp c_25
              refine lv_iinc (v := 6) (lv' := [(3, .int 6), (0, .ref y), (1, .int (nI f)), (2, .int (nI a))]) hC.1 hC.2.1 dX6_rightOf_28 hl (k := 0) rfl (by decide) (by decide) rfl (fun ls hl => ?_)
              refine lv_goto (tgt := 2) hC.1 hC.2.1 dX6_rightOf_31 (by decide) ?_
              refine lv_iload_n hC.1 hC.2.1 dX6_rightOf_2 rfl (lv_at hl 0 rfl) ?_
              refine lv_bipush (v := 6) hC.1 hC.2.1 dX6_rightOf_3 (by decide) ?_
              refine lv_icmp_ge (tgt := 34) hC.1 hC.2.1 dX6_rightOf_5 (by decide) (fun _ => ?_) (fun c => absurd (by decide) c)
              refine lv_iload_n hC.1 hC.2.1 dX6_rightOf_34 rfl (lv_at hl 0 rfl) ?_
              exact W.iret hC.1 hC.2.1 hr (fun t9 ht9 _ => ⟨_, rfl, (ec_int (by rw [rg_6 (smA M a) (tpA M f) he0 he1 he2 he3 he4 he5]; rfl)), ht9⟩) hS.2.2 dX6_rightOf_35

theorem thPr_lt (M : ecM) (f a : Int32) : thPr M f a < 2 ^ 31 := ite_lt (by decide) (by decide)
theorem thPro_lt (M : ecM) (f a i : Int32) : thPro M f a i < 2 ^ 31 := ite_lt (ite_lt (by decide) (by decide)) (by decide)
theorem thPro_n {M : ecM} {f a i : Int32} (h : ¬ thPr M f a = 0) : thPro M f a i = thPr M f a := by
  unfold thPro thPr at *
  split
  · rename_i h1; rw [if_pos h1] at h; exact absurd rfl h
  · rfl
theorem thPro_y {M : ecM} {f a i : Int32} (h : thPr M f a = 0) : thPro M f a i = if ixB i 6 = true then 0 else 2 := if_pos (if_th (k := 0) h).1

set_option maxHeartbeats 4000000 in
set_option maxRecDepth 100000 in
/-- there is such a filter and such an answer -/
theorem c_X6_failsPair (l : Launch) (G : ecG) (Y : Nat → Prop) (M : ecM) (th : Int32) (y : Nat) (ya : Nat → Nat) (hY : ∀ q, Y q → ecN0 G ≤ q) (hwf : WF M) (f a : Int32) : Met l yX6_failsPair (ecWs yX6_failsPair cX6_failsPair 3 (Option.some FieldType.boolean)) (ecRm 3 0 0) (ecPc [.ref y, .int f, .int a] G (fun H => rfX G Y M th y ya H)) (ecEp (fun v H1 => v = some (.int (bI (decide (0 < thPr M f a)))) ∧ rfX G Y M (nI (thPr M f a)) y ya H1) (Y)) 0 0 (Y) := by
  refine ec_met (by decide) (Nat.le_of_ble_eq_true rfl) ?_
  intro p e s m below meth c hC hr hlocks hname hOk hpre ls hl
  have hK := hOk.1
  have hx := hpre
  have hS : va_S (Y) s.heap s.heap [] := va_S.rf
  have hAN : ∀ q, (Y) q → ecN0 G ≤ q := hY
  have hl : lv_has ls 3 [(0, .ref y), (1, .int f), (2, .int a)] := hl
  have hn0 := hwf.n
  refine ec_join (pcj := 34) (stj := [.int (nI (thPr M f a)), .ref y]) ?_ (fun kj => ?_)
  · refine ec_goE1 (ec_rV hC (c_X6_fails l G Y M _ y ya (thPr M f a) (thPr_lt _ _ _) hY) kX6_81 (hOk.at hS hAN) hx (ec_rc hK hx.1 ⟨_, _, rfl⟩) hl.1 ⟨Nat.le_of_ble_eq_true rfl, Nat.le_of_ble_eq_true rfl⟩ rfl (Nat.le_of_ble_eq_true rfl) dX6_failsPair_34 ⟨Nat.le_of_ble_eq_true rfl, Nat.le_of_ble_eq_true rfl⟩) hS (fun _ h => h) (fun H locs hx hz hk1 hS => ?_)
    exact W.zret hC.1 hC.2.1 hr (bI_nar _) (fun t9 ht9 _ => ⟨_, rfl, by rw [ht9]; exact ⟨rfl, hx⟩, hS.F ht9⟩) hS.2.2 dX6_failsPair_37
  · refine lv_aload_n hC.1 hC.2.1 dX6_failsPair_0 rfl (lv_at hl 0 rfl) ?_
    refine lv_iload_n hC.1 hC.2.1 dX6_failsPair_1 rfl (lv_at hl 1 rfl) ?_
    refine lv_iconst (v := 0) hC.1 hC.2.1 dX6_failsPair_2 (by decide) ?_
    refine lv_aload_n hC.1 hC.2.1 dX6_failsPair_3 rfl (lv_at hl 0 rfl) ?_
    refine ec_get hC hK hx.1 fX6_87 rfl dX6_failsPair_4 ?_
    refine lv_iconst (v := 1) hC.1 hC.2.1 dX6_failsPair_7 (by decide) ?_
    refine lv_isub hC.1 hC.2.1 dX6_failsPair_8 ?_
    refine ec_go1 (ec_rS hC (c_X6_in l G f 0 (nI (mnF M) - 1)) kX6_73 (hOk.at hS hAN) trivial hl.1 ⟨Nat.le_of_ble_eq_true rfl, Nat.le_of_ble_eq_true rfl⟩ rfl (Nat.le_of_ble_eq_true rfl) dX6_failsPair_9 ⟨Nat.le_of_ble_eq_true rfl, Nat.le_of_ble_eq_true rfl⟩) ?_
    refine ec_topi (y := bI (ixB f (mnF M))) (by rw [rg_ix (by omega)]) ?_
    refine lv_if_eq (tgt := 33) hC.1 hC.2.1 dX6_failsPair_12 (by decide) (fun c_12 => ?_) (fun c_12 => ?_)
    · refine lv_iconst (v := 1) hC.1 hC.2.1 dX6_failsPair_33 (by decide) ?_
      refine ec_topi (y := (nI (thPr M f a))) (by rw [show thPr M f a = 1 by simp [thPr, (bI_0 _).mp c_12]]; rfl) ?_
      exact kj
    · refine lv_iload_n hC.1 hC.2.1 dX6_failsPair_15 rfl (lv_at hl 2 rfl) ?_
      refine lv_iconst (v := 0) hC.1 hC.2.1 dX6_failsPair_16 (by decide) ?_
      refine lv_aload_n hC.1 hC.2.1 dX6_failsPair_17 rfl (lv_at hl 0 rfl) ?_
      refine ec_get hC hK hx.1 fX6_84 rfl dX6_failsPair_18 ?_
      refine lv_iconst (v := 1) hC.1 hC.2.1 dX6_failsPair_21 (by decide) ?_
      refine lv_isub hC.1 hC.2.1 dX6_failsPair_22 ?_
      refine ec_go1 (ec_rS hC (c_X6_in l G a 0 (nI (mnA M) - 1)) kX6_73 (hOk.at hS hAN) trivial hl.1 ⟨Nat.le_of_ble_eq_true rfl, Nat.le_of_ble_eq_true rfl⟩ rfl (Nat.le_of_ble_eq_true rfl) dX6_failsPair_23 ⟨Nat.le_of_ble_eq_true rfl, Nat.le_of_ble_eq_true rfl⟩) ?_
      refine ec_topi (y := bI (ixB a (mnA M))) (by rw [rg_ix (by omega)]) ?_
      refine lv_if_eq (tgt := 33) hC.1 hC.2.1 dX6_failsPair_26 (by decide) (fun c_26 => ?_) (fun c_26 => ?_)
      · refine lv_iconst (v := 1) hC.1 hC.2.1 dX6_failsPair_33 (by decide) ?_
        refine ec_topi (y := (nI (thPr M f a))) (by rw [show thPr M f a = 1 by simp [thPr, (bI_n0 _).mp c_12, (bI_0 _).mp c_26]]; rfl) ?_
        exact kj
      · refine lv_iconst (v := 0) hC.1 hC.2.1 dX6_failsPair_29 (by decide) ?_
        refine lv_goto (tgt := 34) hC.1 hC.2.1 dX6_failsPair_30 (by decide) ?_
        refine ec_topi (y := (nI (thPr M f a))) (by rw [show thPr M f a = 0 by simp [thPr, (bI_n0 _).mp c_12, (bI_n0 _).mp c_26]]; rfl) ?_
        exact kj

set_option maxHeartbeats 4000000 in
set_option maxRecDepth 100000 in
/-- a sample of the product row -/
theorem c_X6_product (l : Launch) (G : ecG) (Y : Nat → Prop) (M : ecM) (th : Int32) (y : Nat) (ya : Nat → Nat) (hY : ∀ q, Y q → ecN0 G ≤ q) (hwf : WF M) (f a i : Int32) : Met l yX6_product (ecWs yX6_product cX6_product 4 (Option.some FieldType.long)) (ecRm 4 0 0) (ecPc [.ref y, .int f, .int a, .int i] G (fun H => rfX G Y M th y ya H)) (ecEp (fun v H1 => ∃ w : Int64, v = some (.long w) ∧ (thPro M f a i = 0 → w = prd (smA M (cN a)) (tpA M (cN f)) (cN i)) ∧ rfX G Y M (nI (thPro M f a i)) y ya H1) (Y)) 0 0 (Y) := by
  refine ec_met (by decide) (Nat.le_of_ble_eq_true rfl) ?_
  intro p e s m below meth c hC hr hlocks hname hOk hpre ls hl
  have hK := hOk.1
  have hx := hpre
  have hS : va_S (Y) s.heap s.heap [] := va_S.rf
  have hAN : ∀ q, (Y) q → ecN0 G ≤ q := hY
  have hl : lv_has ls 4 [(0, .ref y), (1, .int f), (2, .int a), (3, .int i)] := hl
  have hn0 := hwf.n
  refine lv_aload_n hC.1 hC.2.1 dX6_product_0 rfl (lv_at hl 0 rfl) ?_
  refine lv_iload_n hC.1 hC.2.1 dX6_product_1 rfl (lv_at hl 1 rfl) ?_
  refine lv_iload_n hC.1 hC.2.1 dX6_product_2 rfl (lv_at hl 2 rfl) ?_
  refine ec_goE1 (ec_rV hC (c_X6_failsPair l G Y M th y ya hY hwf f a) kX6_129 (hOk.at hS hAN) hx (ec_rc hK hx.1 ⟨_, _, rfl⟩) hl.1 ⟨Nat.le_of_ble_eq_true rfl, Nat.le_of_ble_eq_true rfl⟩ rfl (Nat.le_of_ble_eq_true rfl) dX6_product_3 ⟨Nat.le_of_ble_eq_true rfl, Nat.le_of_ble_eq_true rfl⟩) hS (fun _ h => h) (fun H locs hx hz hk1 hS => ?_)
  refine lv_if_eq (tgt := 11) hC.1 hC.2.1 dX6_product_6 (by decide) (fun c_6 => ?_) (fun c_6 => ?_)
  · have hT1 : thPr M f a = 0 := fz_0.mp c_6
    have hT2 := thPro_y (i := i) hT1
    refine lv_aload_n hC.1 hC.2.1 dX6_product_11 rfl (lv_at hl 0 rfl) ?_
    refine ec_join (pcj := 26) (stj := [.int (nI (thPro M f a i)), .ref y]) ?_ (fun kj => ?_)
    · refine ec_goE1 (ec_rV hC (c_X6_fails l G Y M _ y ya (thPro M f a i) (thPro_lt _ _ _ _) hY) kX6_81 (hOk.at hS hAN) hx (ec_rc hK hx.1 ⟨_, _, rfl⟩) hl.1 ⟨Nat.le_of_ble_eq_true rfl, Nat.le_of_ble_eq_true rfl⟩ rfl (Nat.le_of_ble_eq_true rfl) dX6_product_26 ⟨Nat.le_of_ble_eq_true rfl, Nat.le_of_ble_eq_true rfl⟩) hS (fun _ h => h) (fun H locs hx hz hk1 hS => ?_)
      refine lv_if_eq (tgt := 36) hC.1 hC.2.1 dX6_product_29 (by decide) (fun c_29 => ?_) (fun c_29 => ?_)
      · have hT : thPro M f a i = 0 := fz_0.mp c_29
        have hix : ixB i 6 = true := (if_th (k := 1) (hT2.symm.trans hT)).1
        obtain ⟨hb1, hb2⟩ := Bool.and_eq_true_iff.mp (if_th (k := 0) hT1).1
        obtain ⟨j, hj, rfl⟩ := ixB_t (by omega) hb1
        obtain ⟨u, hu, rfl⟩ := ixB_t (by omega) hb2
        obtain ⟨k, hk, rfl⟩ := ixB_t (by decide) hix
        have hjc : cN (nI j) = j := nI_clamp (by omega)
        have huc : cN (nI u) = u := nI_clamp (by omega)
        have hkc : cN (nI k) = k := nI_clamp (by omega)
        refine lv_aload_n hC.1 hC.2.1 dX6_product_36 rfl (lv_at hl 0 rfl) ?_
        refine lv_iload_n hC.1 hC.2.1 dX6_product_37 rfl (lv_at hl 1 rfl) ?_
        refine lv_iload_n hC.1 hC.2.1 dX6_product_38 rfl (lv_at hl 2 rfl) ?_
        refine lv_iload_n hC.1 hC.2.1 dX6_product_39 rfl (lv_at hl 3 rfl) ?_
        refine ec_go1 (ec_rV hC (c_X6_productOf l G Y M _ y ya hwf j u k hj hu hk) kX6_132 (hOk.at hS hAN) hx (ec_rc hK hx.1 ⟨_, _, rfl⟩) hl.1 ⟨Nat.le_of_ble_eq_true rfl, Nat.le_of_ble_eq_true rfl⟩ rfl (Nat.le_of_ble_eq_true rfl) dX6_product_40 ⟨Nat.le_of_ble_eq_true rfl, Nat.le_of_ble_eq_true rfl⟩) ?_
        exact W.lret hC.1 hC.2.1 hr (fun t9 ht9 _ => ⟨_, rfl, by rw [ht9]; exact ⟨_, rfl, fun _ => (by rw [hjc, huc, hkc]), hx⟩, hS.F ht9⟩) hS.2.2 dX6_product_43
      · refine lv_lconst (v := 0) hC.1 hC.2.1 dX6_product_32 (by decide) ?_
        refine lv_goto (tgt := 43) hC.1 hC.2.1 dX6_product_33 (by decide) ?_
        exact W.lret hC.1 hC.2.1 hr (fun t9 ht9 _ => ⟨_, rfl, by rw [ht9]; exact ⟨_, rfl, fun z => absurd (fz_0.mpr z) c_29, hx⟩, hS.F ht9⟩) hS.2.2 dX6_product_43
    · refine lv_iload_n hC.1 hC.2.1 dX6_product_12 rfl (lv_at hl 3 rfl) ?_
      refine lv_iconst (v := 0) hC.1 hC.2.1 dX6_product_13 (by decide) ?_
      refine lv_iconst (v := 5) hC.1 hC.2.1 dX6_product_14 (by decide) ?_
      refine ec_go1 (ec_rS hC (c_X6_in l G i 0 5) kX6_73 (hOk.at hS hAN) trivial hl.1 ⟨Nat.le_of_ble_eq_true rfl, Nat.le_of_ble_eq_true rfl⟩ rfl (Nat.le_of_ble_eq_true rfl) dX6_product_15 ⟨Nat.le_of_ble_eq_true rfl, Nat.le_of_ble_eq_true rfl⟩) ?_
      refine lv_if_eq (tgt := 25) hC.1 hC.2.1 dX6_product_18 (by decide) (fun c_18 => ?_) (fun c_18 => ?_)
      · refine lv_iconst (v := 2) hC.1 hC.2.1 dX6_product_25 (by decide) ?_
        refine ec_topi (y := (nI (thPro M f a i))) (by rw [hT2, if_neg (show ¬ ixB i 6 = true by rw [← rg_c 5 (by decide) (y := 5) rfl, (bI_0 _).mp c_18]; decide)]; rfl) ?_
        exact kj
      · refine lv_iconst (v := 0) hC.1 hC.2.1 dX6_product_21 (by decide) ?_
        refine lv_goto (tgt := 26) hC.1 hC.2.1 dX6_product_22 (by decide) ?_
        refine ec_topi (y := (nI (thPro M f a i))) (by rw [hT2, if_pos (show ixB i 6 = true by rw [← rg_c 5 (by decide) (y := 5) rfl]; exact (bI_n0 _).mp c_18)]; rfl) ?_
        exact kj
  · refine lv_lconst (v := 0) hC.1 hC.2.1 dX6_product_9 (by decide) ?_
    have hne : ¬ thPr M f a = 0 := fun z => c_6 (fz_0.mpr z)
    rw [← thPro_n (i := i) hne] at hx
    exact W.lret hC.1 hC.2.1 hr (fun t9 ht9 _ => ⟨_, rfl, by rw [ht9]; exact ⟨_, rfl, fun z => absurd ((thPro_n (i := i) hne).symm.trans z) hne, hx⟩, hS.F ht9⟩) hS.2.2 dX6_product_10

set_option maxHeartbeats 4000000 in
set_option maxRecDepth 100000 in
/-- how many samples are right -/
theorem c_X6_rightSamples (l : Launch) (G : ecG) (Y : Nat → Prop) (M : ecM) (th : Int32) (y : Nat) (ya : Nat → Nat) (hY : ∀ q, Y q → ecN0 G ≤ q) (hwf : WF M) (f a : Int32) : Met l yX6_rightSamples (ecWs yX6_rightSamples cX6_rightSamples 3 (Option.some FieldType.int)) (ecRm 4 0 0) (ecPc [.ref y, .int f, .int a] G (fun H => rfX G Y M th y ya H)) (ecEp (fun v H1 => ∃ w : Int32, v = some (.int w) ∧ (thPr M f a = 0 → w = nI (rgt (smA M (cN a)) (tpA M (cN f)))) ∧ rfX G Y M (nI (thPr M f a)) y ya H1) (Y)) 0 0 (Y) := by
  refine ec_met (by decide) (Nat.le_of_ble_eq_true rfl) ?_
  intro p e s m below meth c hC hr hlocks hname hOk hpre ls hl
  have hK := hOk.1
  have hx := hpre
  have hS : va_S (Y) s.heap s.heap [] := va_S.rf
  have hAN : ∀ q, (Y) q → ecN0 G ≤ q := hY
  have hl : lv_has ls 3 [(0, .ref y), (1, .int f), (2, .int a)] := hl
  have hn0 := hwf.n
  refine lv_aload_n hC.1 hC.2.1 dX6_rightSamples_0 rfl (lv_at hl 0 rfl) ?_
  refine lv_iload_n hC.1 hC.2.1 dX6_rightSamples_1 rfl (lv_at hl 1 rfl) ?_
  refine lv_iload_n hC.1 hC.2.1 dX6_rightSamples_2 rfl (lv_at hl 2 rfl) ?_
  refine ec_goE1 (ec_rV hC (c_X6_failsPair l G Y M th y ya hY hwf f a) kX6_129 (hOk.at hS hAN) hx (ec_rc hK hx.1 ⟨_, _, rfl⟩) hl.1 ⟨Nat.le_of_ble_eq_true rfl, Nat.le_of_ble_eq_true rfl⟩ rfl (Nat.le_of_ble_eq_true rfl) dX6_rightSamples_3 ⟨Nat.le_of_ble_eq_true rfl, Nat.le_of_ble_eq_true rfl⟩) hS (fun _ h => h) (fun H locs hx hz hk1 hS => ?_)
  refine lv_if_eq (tgt := 13) hC.1 hC.2.1 dX6_rightSamples_6 (by decide) (fun c_6 => ?_) (fun c_6 => ?_)
  · have hT : thPr M f a = 0 := fz_0.mp c_6
    obtain ⟨hb1, hb2⟩ := Bool.and_eq_true_iff.mp (if_th (k := 0) hT).1
    obtain ⟨j, hj, rfl⟩ := ixB_t (by omega) hb1
    obtain ⟨u, hu, rfl⟩ := ixB_t (by omega) hb2
    have hjc : cN (nI j) = j := nI_clamp (by omega)
    have huc : cN (nI u) = u := nI_clamp (by omega)
    refine lv_aload_n hC.1 hC.2.1 dX6_rightSamples_13 rfl (lv_at hl 0 rfl) ?_
    refine lv_iload_n hC.1 hC.2.1 dX6_rightSamples_14 rfl (lv_at hl 1 rfl) ?_
    refine lv_iload_n hC.1 hC.2.1 dX6_rightSamples_15 rfl (lv_at hl 2 rfl) ?_
    refine ec_go1 (ec_rV hC (c_X6_rightOf l G Y M _ y ya hwf j u hj hu) kX6_136 (hOk.at hS hAN) hx (ec_rc hK hx.1 ⟨_, _, rfl⟩) hl.1 ⟨Nat.le_of_ble_eq_true rfl, Nat.le_of_ble_eq_true rfl⟩ rfl (Nat.le_of_ble_eq_true rfl) dX6_rightSamples_16 ⟨Nat.le_of_ble_eq_true rfl, Nat.le_of_ble_eq_true rfl⟩) ?_
    exact W.iret hC.1 hC.2.1 hr (fun t9 ht9 _ => ⟨_, rfl, by rw [ht9]; exact ⟨_, rfl, fun _ => (by rw [hjc, huc]), hx⟩, hS.F ht9⟩) hS.2.2 dX6_rightSamples_19
  · refine lv_iconst (v := 0) hC.1 hC.2.1 dX6_rightSamples_9 (by decide) ?_
    refine lv_goto (tgt := 19) hC.1 hC.2.1 dX6_rightSamples_10 (by decide) ?_
    exact W.iret hC.1 hC.2.1 hr (fun t9 ht9 _ => ⟨_, rfl, by rw [ht9]; exact ⟨_, rfl, fun z => absurd z (fun z => c_6 (fz_0.mpr z)), hx⟩, hS.F ht9⟩) hS.2.2 dX6_rightSamples_19

set_option maxHeartbeats 4000000 in
set_option maxRecDepth 100000 in
/-- isChecked -/
theorem c_X6_isChecked (l : Launch) (G : ecG) (Y : Nat → Prop) (M : ecM) (th : Int32) (y : Nat) (ya : Nat → Nat) (hY : ∀ q, Y q → ecN0 G ≤ q) (hwf : WF M) (f : Int32) : Met l yX6_isChecked (ecWs yX6_isChecked cX6_isChecked 2 (Option.some FieldType.boolean)) (ecRm 4 0 0) (ecPc [.ref y, .int f] G (fun H => rfX G Y M th y ya H)) (ecEp (fun v H1 => ∃ w : Int32, v = some (.int w) ∧ (thF M f = 0 → w = bI (decide (rgt (smA M (M.1 3 (cN f))) (tpA M (cN f)) = 6))) ∧ rfX G Y M (nI (thF M f)) y ya H1) (Y)) 0 0 (Y) := by
  refine ec_met (by decide) (Nat.le_of_ble_eq_true rfl) ?_
  intro p e s m below meth c hC hr hlocks hname hOk hpre ls hl
  have hK := hOk.1
  have hx := hpre
  have hS : va_S (Y) s.heap s.heap [] := va_S.rf
  have hAN : ∀ q, (Y) q → ecN0 G ≤ q := hY
  have hl : lv_has ls 2 [(0, .ref y), (1, .int f)] := hl
  have hn0 := hwf.n
  refine lv_aload_n hC.1 hC.2.1 dX6_isChecked_0 rfl (lv_at hl 0 rfl) ?_
  refine lv_iload_n hC.1 hC.2.1 dX6_isChecked_1 rfl (lv_at hl 1 rfl) ?_
  refine ec_goE1 (ec_rV hC (c_X6_failsFilter l G Y M th y ya hY hwf f) kX6_122 (hOk.at hS hAN) hx (ec_rc hK hx.1 ⟨_, _, rfl⟩) hl.1 ⟨Nat.le_of_ble_eq_true rfl, Nat.le_of_ble_eq_true rfl⟩ rfl (Nat.le_of_ble_eq_true rfl) dX6_isChecked_2 ⟨Nat.le_of_ble_eq_true rfl, Nat.le_of_ble_eq_true rfl⟩) hS (fun _ h => h) (fun H locs hx hz hk1 hS => ?_)
  refine lv_if_ne (tgt := 28) hC.1 hC.2.1 dX6_isChecked_5 (by decide) (fun c_5 => ?_) (fun c_5 => ?_)
  · refine lv_iconst (v := 0) hC.1 hC.2.1 dX6_isChecked_28 (by decide) ?_
    exact W.zret hC.1 hC.2.1 hr rfl (fun t9 ht9 _ => ⟨_, rfl, by rw [ht9]; exact ⟨_, rfl, fun z => absurd z (fun z => c_5 (fz_0.mpr z)), hx⟩, hS.F ht9⟩) hS.2.2 dX6_isChecked_29
  · have hT : thF M f = 0 := fz_0.mp c_5
    obtain ⟨j, hj, rfl⟩ := ixB_t (by omega) (if_th (k := 0) hT).1
    have hjc : cN (nI j) = j := nI_clamp (by omega)
    refine lv_aload_n hC.1 hC.2.1 dX6_isChecked_8 rfl (lv_at hl 0 rfl) ?_
    refine lv_iload_n hC.1 hC.2.1 dX6_isChecked_9 rfl (lv_at hl 1 rfl) ?_
    refine lv_aload_n hC.1 hC.2.1 dX6_isChecked_10 rfl (lv_at hl 0 rfl) ?_
    refine ec_get hC hK hx.1 fX6_38 rfl dX6_isChecked_11 ?_
    refine lv_iload_n hC.1 hC.2.1 dX6_isChecked_14 rfl (lv_at hl 1 rfl) ?_
    refine ec_iald hC hK (hx.2.1 8 (by decide)) j rfl (by omega) (by omega) dX6_isChecked_15 ?_
    refine ec_go1 (ec_rV hC (c_X6_rightOf l G Y M _ y ya hwf j (M.1 3 j) hj (hwf.fi hj)) kX6_136 (hOk.at hS hAN) hx (ec_rc hK hx.1 ⟨_, _, rfl⟩) hl.1 ⟨Nat.le_of_ble_eq_true rfl, Nat.le_of_ble_eq_true rfl⟩ rfl (Nat.le_of_ble_eq_true rfl) dX6_isChecked_16 ⟨Nat.le_of_ble_eq_true rfl, Nat.le_of_ble_eq_true rfl⟩) ?_
    refine lv_bipush (v := 6) hC.1 hC.2.1 dX6_isChecked_19 (by decide) ?_
    refine lv_icmp_ne (tgt := 28) hC.1 hC.2.1 dX6_isChecked_21 (by decide) (fun c_21 => ?_) (fun c_21 => ?_)
    · refine lv_iconst (v := 0) hC.1 hC.2.1 dX6_isChecked_28 (by decide) ?_
      exact W.zret hC.1 hC.2.1 hr rfl (fun t9 ht9 _ => ⟨_, rfl, by rw [ht9]; exact ⟨_, rfl, fun _ => (by rw [hjc, decide_eq_false (fun z => c_21 ((rgt_6 _ _).mpr z))]; rfl), hx⟩, hS.F ht9⟩) hS.2.2 dX6_isChecked_29
    · refine lv_iconst (v := 1) hC.1 hC.2.1 dX6_isChecked_24 (by decide) ?_
      refine lv_goto (tgt := 29) hC.1 hC.2.1 dX6_isChecked_25 (by decide) ?_
      exact W.zret hC.1 hC.2.1 hr rfl (fun t9 ht9 _ => ⟨_, rfl, by rw [ht9]; exact ⟨_, rfl, fun _ => (by rw [hjc, decide_eq_true ((rgt_6 _ _).mp c_21)]; rfl), hx⟩, hS.F ht9⟩) hS.2.2 dX6_isChecked_29

theorem thLim_lt (x : Int32) : thLim x < 2 ^ 31 := ite_lt (by decide) (by decide)
set_option maxHeartbeats 4000000 in
set_option maxRecDepth 100000 in
/-- the limit is set -/
theorem c_X6_setLimit (l : Launch) (G : ecG) (Y : Nat → Prop) (M : ecM) (th : Int32) (y : Nat) (ya : Nat → Nat) (hY : ∀ q, Y q → ecN0 G ≤ q) (hwf : WF M) (a : Int32) : Met l yX6_setLimit (ecWs yX6_setLimit cX6_setLimit 3 (Option.some FieldType.int)) (ecRm 4 0 0) (ecPc [.ref y, .int a] G (fun H => rfX G Y M th y ya H)) (ecEp (fun v H1 => ∃ w : Int32, v = some (.int w) ∧ (thLim a = 0 → w = mlm M) ∧ rfX G Y (if thLim a = 0 then setI M 9 1 a else M) (nI (thLim a)) y ya H1) (Y)) 0 0 (Y) := by
  refine ec_met (by decide) (Nat.le_of_ble_eq_true rfl) ?_
  intro p e s m below meth c hC hr hlocks hname hOk hpre ls hl
  have hK := hOk.1
  have hx := hpre
  have hS : va_S (Y) s.heap s.heap [] := va_S.rf
  have hAN : ∀ q, (Y) q → ecN0 G ≤ q := hY
  have hl : lv_has ls 3 [(0, .ref y), (1, .int a)] := hl
  have hn0 := hwf.n
  refine ec_join (pcj := 17) (stj := [.int (nI (thLim a)), .ref y]) ?_ (fun kj => ?_)
  · refine ec_goE1 (ec_rV hC (c_X6_fails l G Y M _ y ya (thLim a) (thLim_lt _) hY) kX6_81 (hOk.at hS hAN) hx (ec_rc hK hx.1 ⟨_, _, rfl⟩) hl.1 ⟨Nat.le_of_ble_eq_true rfl, Nat.le_of_ble_eq_true rfl⟩ rfl (Nat.le_of_ble_eq_true rfl) dX6_setLimit_17 ⟨Nat.le_of_ble_eq_true rfl, Nat.le_of_ble_eq_true rfl⟩) hS (fun _ h => h) (fun H locs hx hz hk1 hS => ?_)
    refine lv_if_eq (tgt := 25) hC.1 hC.2.1 dX6_setLimit_20 (by decide) (fun c_20 => ?_) (fun c_20 => ?_)
    · have hT : thLim a = 0 := fz_0.mp c_20
      refine lv_aload_n hC.1 hC.2.1 dX6_setLimit_25 rfl (lv_at hl 0 rfl) ?_
      refine ec_get hC hK hx.1 fX6_7 rfl dX6_setLimit_26 ?_
      refine lv_istore_n (lv' := [(2, .int (mlm M)), (0, .ref y), (1, .int a)]) hC.1 hC.2.1 dX6_setLimit_29 rfl hl (by decide) rfl (fun ls hl => ?_)
      refine lv_aload_n hC.1 hC.2.1 dX6_setLimit_30 rfl (lv_at hl 1 rfl) ?_
      refine lv_iload_n hC.1 hC.2.1 dX6_setLimit_31 rfl (lv_at hl 2 rfl) ?_
      refine ec_put hC hK hS hx.1 hx.2.2.2.2.1 fX6_7 rfl rfl rfl (Nat.le_of_ble_eq_true rfl) dX6_setLimit_32 (fun H locs h9 o9 z9 hS => ?_)
      have hx := hx.put9 (j := 1) (v := a) h9 o9
      refine lv_iload_n hC.1 hC.2.1 dX6_setLimit_35 rfl (lv_at hl 0 rfl) ?_
      exact W.iret hC.1 hC.2.1 hr (fun t9 ht9 _ => ⟨_, rfl, by rw [ht9]; exact ⟨_, rfl, fun _ => rfl, (by rw [if_pos hT]; exact hx)⟩, hS.F ht9⟩) hS.2.2 dX6_setLimit_36
    · refine lv_iconst (v := 0) hC.1 hC.2.1 dX6_setLimit_23 (by decide) ?_
      exact W.iret hC.1 hC.2.1 hr (fun t9 ht9 _ => ⟨_, rfl, by rw [ht9]; exact ⟨_, rfl, fun z => absurd z (fun z => c_20 (fz_0.mpr z)), (by rw [if_neg (fun z => c_20 (fz_0.mpr z))]; exact hx)⟩, hS.F ht9⟩) hS.2.2 dX6_setLimit_24
  · refine lv_aload_n hC.1 hC.2.1 dX6_setLimit_0 rfl (lv_at hl 0 rfl) ?_
    refine lv_iload_n hC.1 hC.2.1 dX6_setLimit_1 rfl (lv_at hl 1 rfl) ?_
    refine lv_iconst (v := 0) hC.1 hC.2.1 dX6_setLimit_2 (by decide) ?_
    refine lv_sipush (v := 999) hC.1 hC.2.1 dX6_setLimit_3 (by decide) ?_
    refine ec_go1 (ec_rS hC (c_X6_in l G a 0 999) kX6_73 (hOk.at hS hAN) trivial hl.1 ⟨Nat.le_of_ble_eq_true rfl, Nat.le_of_ble_eq_true rfl⟩ rfl (Nat.le_of_ble_eq_true rfl) dX6_setLimit_6 ⟨Nat.le_of_ble_eq_true rfl, Nat.le_of_ble_eq_true rfl⟩) ?_
    refine lv_if_eq (tgt := 16) hC.1 hC.2.1 dX6_setLimit_9 (by decide) (fun c_9 => ?_) (fun c_9 => ?_)
    · refine lv_iconst (v := 1) hC.1 hC.2.1 dX6_setLimit_16 (by decide) ?_
      refine ec_topi (y := (nI (thLim a))) (by rw [show thLim a = 1 by simp [thLim, (bI_0 _).mp c_9]]; rfl) ?_
      exact kj
    · refine lv_iconst (v := 0) hC.1 hC.2.1 dX6_setLimit_12 (by decide) ?_
      refine lv_goto (tgt := 17) hC.1 hC.2.1 dX6_setLimit_13 (by decide) ?_
      refine ec_topi (y := (nI (thLim a))) (by rw [show thLim a = 0 by simp [thLim, (bI_n0 _).mp c_9]]; rfl) ?_
      exact kj
