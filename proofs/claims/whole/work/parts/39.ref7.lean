set_option maxHeartbeats 4000000 in
set_option maxRecDepth 100000 in
/-- a filter is made -/
theorem c_X6_makeFilter (l : Launch) (G : ecG) (Y : Nat → Prop) (M : ecM) (th : Int32) (y : Nat) (ya : Nat → Nat) (hY : ∀ q, Y q → ecN0 G ≤ q) (hwf : WF M) (a : Int32) : Met l yX6_makeFilter (ecWs yX6_makeFilter cX6_makeFilter 7 (Option.some FieldType.int)) (ecRm 4 0 0) (ecPc [.ref y, .int a] G (fun H => rfX G Y M th y ya H)) (ecEp (fun v H1 => ∃ w : Int32, v = some (.int w) ∧ (thMak M a = 0 → w = nI (mnF M)) ∧ rfX G Y (if thMak M a = 0 then filM M (cN a) else M) (nI (thMak M a)) y ya H1) (Y)) 0 0 (Y) := by
  refine ec_met (by decide) (Nat.le_of_ble_eq_true rfl) ?_
  intro p e s m below meth c hC hr hlocks hname hOk hpre ls hl
  have hK := hOk.1
  have hx := hpre
  have hS : va_S (Y) s.heap s.heap [] := va_S.rf
  have hAN : ∀ q, (Y) q → ecN0 G ≤ q := hY
  have hl : lv_has ls 7 [(0, .ref y), (1, .int a)] := hl
  have hn0 := hwf.n
  refine ec_join (pcj := 33) (stj := [.int (nI (thMak M a)), .ref y]) ?_ (fun kj => ?_)
  · refine ec_goE1 (ec_rV hC (c_X6_fails l G Y M _ y ya (thMak M a) (thMak_lt _ _) hY) kX6_81 (hOk.at hS hAN) hx (ec_rc hK hx.1 ⟨_, _, rfl⟩) hl.1 ⟨Nat.le_of_ble_eq_true rfl, Nat.le_of_ble_eq_true rfl⟩ rfl (Nat.le_of_ble_eq_true rfl) dX6_makeFilter_33 ⟨Nat.le_of_ble_eq_true rfl, Nat.le_of_ble_eq_true rfl⟩) hS (fun _ h => h) (fun H locs hx hz hk1 hS => ?_)
    refine lv_if_eq (tgt := 41) hC.1 hC.2.1 dX6_makeFilter_36 (by decide) (fun c_36 => ?_) (fun c_36 => ?_)
    · have hT : thMak M a = 0 := fz_0.mp c_36
      obtain ⟨hix, h92⟩ := if_th (k := 0) hT
      have hn4 : ¬ mnF M = 20 := if_n0 (k := 1) h92
      obtain ⟨j, hj, rfl⟩ := ixB_t (by omega) hix
      have hjc : cN (nI j) = j := nI_clamp (by omega)
      refine lv_aload_n hC.1 hC.2.1 dX6_makeFilter_41 rfl (lv_at hl 0 rfl) ?_
      refine ec_get hC hK hx.1 fX6_38 rfl dX6_makeFilter_42 ?_
      refine lv_aload_n hC.1 hC.2.1 dX6_makeFilter_45 rfl (lv_at hl 0 rfl) ?_
      refine ec_get hC hK hx.1 fX6_87 rfl dX6_makeFilter_46 ?_
      refine lv_iload_n hC.1 hC.2.1 dX6_makeFilter_49 rfl (lv_at hl 1 rfl) ?_
      refine ec_iast hC hK hS (hx.2.1 8 (by decide)) (hx.2.2.2.2.2 8 (by decide)) (mnF M) rfl (by omega) (by omega) dX6_makeFilter_50 (fun H locs h9 o9 z9 hS => ?_)
      have hx := rf_s8 (i := (mnF M)) (v := j) hx h9 o9
      refine lv_aload_n hC.1 hC.2.1 dX6_makeFilter_51 rfl (lv_at hl 0 rfl) ?_
      refine ec_get hC hK hx.1 fX6_35 rfl dX6_makeFilter_52 ?_
      refine lv_iconst (v := 4) hC.1 hC.2.1 dX6_makeFilter_55 (by decide) ?_
      refine lv_iload_n hC.1 hC.2.1 dX6_makeFilter_56 rfl (lv_at hl 1 rfl) ?_
      refine lv_imul hC.1 hC.2.1 dX6_makeFilter_57 ?_
      refine ec_iald hC hK (hx.2.1 7 (by decide)) (4 * j) (ix_m 4 j) (by omega) (by omega) dX6_makeFilter_58 ?_
      refine lv_istore_n (lv' := [(2, .int (M.2.1 4 ((4 * j)))), (0, .ref y), (1, .int (nI j))]) hC.1 hC.2.1 dX6_makeFilter_59 rfl hl (by decide) rfl (fun ls hl => ?_)
      refine lv_iconst (v := 0) hC.1 hC.2.1 dX6_makeFilter_60 (by decide) ?_
      refine lv_istore_n (lv' := [(3, .int 0), (2, .int (M.2.1 4 ((4 * j)))), (0, .ref y), (1, .int (nI j))]) hC.1 hC.2.1 dX6_makeFilter_61 rfl hl (by decide) rfl (fun ls hl => ?_)
      refine lv_iload_n hC.1 hC.2.1 dX6_makeFilter_62 rfl (lv_at hl 0 rfl) ?_
      refine lv_bipush (v := 6) hC.1 hC.2.1 dX6_makeFilter_63 (by decide) ?_
      refine lv_icmp_ge (tgt := 162) hC.1 hC.2.1 dX6_makeFilter_65 (by decide) (fun c => absurd c (by decide)) (fun _ => ?_)
      refine lv_lconst (v := 0) hC.1 hC.2.1 dX6_makeFilter_68 (by decide) ?_
      refine lv_lstore (lv' := [(4, .long 0), (3, .int 0), (2, .int (M.2.1 4 ((4 * j)))), (0, .ref y), (1, .int (nI j))]) hC.1 hC.2.1 dX6_makeFilter_69 hl (by decide) rfl (fun ls hl => ?_)
      refine lv_iconst (v := 1) hC.1 hC.2.1 dX6_makeFilter_71 (by decide) ?_
      refine lv_istore (lv' := [(6, .int 1), (4, .long 0), (3, .int 0), (2, .int (M.2.1 4 ((4 * j)))), (0, .ref y), (1, .int (nI j))]) hC.1 hC.2.1 dX6_makeFilter_72 hl (by decide) rfl (fun ls hl => ?_)
      refine lv_iload hC.1 hC.2.1 dX6_makeFilter_74 (lv_at hl 0 rfl) ?_
      refine lv_iconst (v := 4) hC.1 hC.2.1 dX6_makeFilter_76 (by decide) ?_
      refine lv_icmp_ge (tgt := 127) hC.1 hC.2.1 dX6_makeFilter_77 (by decide) (fun c => absurd c (by decide)) (fun _ => ?_)
      refine lv_iload hC.1 hC.2.1 dX6_makeFilter_80 (lv_at hl 0 rfl) ?_
      refine lv_iload_n hC.1 hC.2.1 dX6_makeFilter_82 rfl (lv_at hl 2 rfl) ?_
      refine lv_icmp_gt (tgt := 127) hC.1 hC.2.1 dX6_makeFilter_83 (by decide) (fun _ => ?_) (fun c => absurd (by decide) c)
      refine lv_aload_n hC.1 hC.2.1 dX6_makeFilter_127 rfl (lv_at hl 4 rfl) ?_
      refine ec_get hC hK hx.1 fX6_41 rfl dX6_makeFilter_128 ?_
      refine lv_bipush (v := 6) hC.1 hC.2.1 dX6_makeFilter_131 (by decide) ?_
      refine lv_aload_n hC.1 hC.2.1 dX6_makeFilter_133 rfl (lv_at hl 4 rfl) ?_
      refine ec_get hC hK hx.1 fX6_87 rfl dX6_makeFilter_134 ?_
      refine lv_imul hC.1 hC.2.1 dX6_makeFilter_137 ?_
      refine lv_iload_n hC.1 hC.2.1 dX6_makeFilter_138 rfl (lv_at hl 2 rfl) ?_
      refine lv_iadd hC.1 hC.2.1 dX6_makeFilter_139 ?_
      refine lv_iload_n hC.1 hC.2.1 dX6_makeFilter_140 rfl (lv_at hl 2 rfl) ?_
      refine lv_if_ne (tgt := 149) hC.1 hC.2.1 dX6_makeFilter_141 (by decide) (fun c => absurd rfl c) (fun _ => ?_)
      refine lv_iload_n hC.1 hC.2.1 dX6_makeFilter_144 rfl (lv_at hl 3 rfl) ?_
      refine lv_i2l hC.1 hC.2.1 dX6_makeFilter_145 rfl ?_
      refine lv_goto (tgt := 155) hC.1 hC.2.1 dX6_makeFilter_146 (by decide) ?_
      refine ec_topl (y := tpF (smA M j) 0) rfl ?_
      refine ec_last hC hK hS (hx.2.1 9 (by decide)) (hx.2.2.2.2.2 9 (by decide)) (6 * mnF M + 0) (ix_ma 6 (mnF M) 0) (by omega) (by omega) dX6_makeFilter_155 (fun H locs h9 o9 z9 hS => ?_)
      have hx := rf_s9 (i := (6 * mnF M + 0)) (v := ((tpF (smA M j) 0))) hx h9 o9
      refine lv_iinc (v := 1) (lv' := [(3, .int 1), (6, .int 1), (4, .long 0), (2, .int (M.2.1 4 ((4 * j)))), (0, .ref y), (1, .int (nI j))]) hC.1 hC.2.1 dX6_makeFilter_156 hl (k := 2) rfl (by decide) (by decide) rfl (fun ls hl => ?_)
      refine lv_goto (tgt := 62) hC.1 hC.2.1 dX6_makeFilter_159 (by decide) ?_
      refine lv_iload_n hC.1 hC.2.1 dX6_makeFilter_62 rfl (lv_at hl 0 rfl) ?_
      refine lv_bipush (v := 6) hC.1 hC.2.1 dX6_makeFilter_63 (by decide) ?_
      refine lv_icmp_ge (tgt := 162) hC.1 hC.2.1 dX6_makeFilter_65 (by decide) (fun c => absurd c (by decide)) (fun _ => ?_)
      refine lv_lconst (v := 0) hC.1 hC.2.1 dX6_makeFilter_68 (by decide) ?_
      refine lv_lstore (lv' := [(4, .long 0), (3, .int 1), (6, .int 1), (2, .int (M.2.1 4 ((4 * j)))), (0, .ref y), (1, .int (nI j))]) hC.1 hC.2.1 dX6_makeFilter_69 hl (by decide) rfl (fun ls hl => ?_)
      refine lv_iconst (v := 1) hC.1 hC.2.1 dX6_makeFilter_71 (by decide) ?_
      refine lv_istore (lv' := [(6, .int 1), (4, .long 0), (3, .int 1), (2, .int (M.2.1 4 ((4 * j)))), (0, .ref y), (1, .int (nI j))]) hC.1 hC.2.1 dX6_makeFilter_72 hl (by decide) rfl (fun ls hl => ?_)
      refine lv_iload hC.1 hC.2.1 dX6_makeFilter_74 (lv_at hl 0 rfl) ?_
      refine lv_iconst (v := 4) hC.1 hC.2.1 dX6_makeFilter_76 (by decide) ?_
      refine lv_icmp_ge (tgt := 127) hC.1 hC.2.1 dX6_makeFilter_77 (by decide) (fun c => absurd c (by decide)) (fun _ => ?_)
      refine lv_iload hC.1 hC.2.1 dX6_makeFilter_80 (lv_at hl 0 rfl) ?_
      refine lv_iload_n hC.1 hC.2.1 dX6_makeFilter_82 rfl (lv_at hl 2 rfl) ?_
      refine lv_icmp_gt (tgt := 127) hC.1 hC.2.1 dX6_makeFilter_83 (by decide) (fun c => absurd c (by decide)) (fun _ => ?_)
      refine lv_lload hC.1 hC.2.1 dX6_makeFilter_86 (lv_at hl 1 rfl) ?_
      refine lv_aload_n hC.1 hC.2.1 dX6_makeFilter_88 rfl (lv_at hl 4 rfl) ?_
      refine ec_get hC hK hx.1 fX6_35 rfl dX6_makeFilter_89 ?_
      refine lv_iconst (v := 4) hC.1 hC.2.1 dX6_makeFilter_92 (by decide) ?_
      refine lv_iload_n hC.1 hC.2.1 dX6_makeFilter_93 rfl (lv_at hl 5 rfl) ?_
      refine lv_imul hC.1 hC.2.1 dX6_makeFilter_94 ?_
      refine lv_iload hC.1 hC.2.1 dX6_makeFilter_95 (lv_at hl 0 rfl) ?_
      refine lv_iadd hC.1 hC.2.1 dX6_makeFilter_97 ?_
      refine ec_iald hC hK (hx.2.1 7 (by decide)) (4 * j + 1) (ix_ma 4 j 1) (by omega) (by omega) dX6_makeFilter_98 ?_
      refine lv_i2l hC.1 hC.2.1 dX6_makeFilter_99 rfl ?_
      refine lv_aload_n hC.1 hC.2.1 dX6_makeFilter_100 rfl (lv_at hl 4 rfl) ?_
      refine ec_get hC hK hx.1 fX6_41 rfl dX6_makeFilter_101 ?_
      refine lv_bipush (v := 6) hC.1 hC.2.1 dX6_makeFilter_104 (by decide) ?_
      refine lv_aload_n hC.1 hC.2.1 dX6_makeFilter_106 rfl (lv_at hl 4 rfl) ?_
      refine ec_get hC hK hx.1 fX6_87 rfl dX6_makeFilter_107 ?_
      refine lv_imul hC.1 hC.2.1 dX6_makeFilter_110 ?_
      refine lv_iload_n hC.1 hC.2.1 dX6_makeFilter_111 rfl (lv_at hl 2 rfl) ?_
      refine lv_iadd hC.1 hC.2.1 dX6_makeFilter_112 ?_
      refine lv_iload hC.1 hC.2.1 dX6_makeFilter_113 (lv_at hl 0 rfl) ?_
      refine lv_isub hC.1 hC.2.1 dX6_makeFilter_115 ?_
      refine ec_lald hC hK (hx.2.1 9 (by decide)) (6 * mnF M + 0) (ix_t (f := mnF M) (i := 1) (k := 1) (by decide)) (by omega) (by omega) dX6_makeFilter_116 ?_
      refine ec_topl (y := tpF (smA M j) 0) (by simp [setJ, vp_updL]) ?_
      refine lv_lmul hC.1 hC.2.1 dX6_makeFilter_117 ?_
      refine lv_ladd hC.1 hC.2.1 dX6_makeFilter_118 ?_
      refine lv_lstore (lv' := [(4, .long (0 + ((Int32.toInt64 (M.2.1 4 ((4 * j + 1)))) * (tpF (smA M j) 0)))), (6, .int 1), (3, .int 1), (2, .int (M.2.1 4 ((4 * j)))), (0, .ref y), (1, .int (nI j))]) hC.1 hC.2.1 dX6_makeFilter_119 hl (by decide) rfl (fun ls hl => ?_)
      refine lv_iinc (v := 2) (lv' := [(6, .int 2), (4, .long (0 + ((Int32.toInt64 (M.2.1 4 ((4 * j + 1)))) * (tpF (smA M j) 0)))), (3, .int 1), (2, .int (M.2.1 4 ((4 * j)))), (0, .ref y), (1, .int (nI j))]) hC.1 hC.2.1 dX6_makeFilter_121 hl (k := 1) rfl (by decide) (by decide) rfl (fun ls hl => ?_)
      refine lv_goto (tgt := 74) hC.1 hC.2.1 dX6_makeFilter_124 (by decide) ?_
      refine lv_iload hC.1 hC.2.1 dX6_makeFilter_74 (lv_at hl 0 rfl) ?_
      refine lv_iconst (v := 4) hC.1 hC.2.1 dX6_makeFilter_76 (by decide) ?_
      refine lv_icmp_ge (tgt := 127) hC.1 hC.2.1 dX6_makeFilter_77 (by decide) (fun c => absurd c (by decide)) (fun _ => ?_)
      refine lv_iload hC.1 hC.2.1 dX6_makeFilter_80 (lv_at hl 0 rfl) ?_
      refine lv_iload_n hC.1 hC.2.1 dX6_makeFilter_82 rfl (lv_at hl 2 rfl) ?_
      refine lv_icmp_gt (tgt := 127) hC.1 hC.2.1 dX6_makeFilter_83 (by decide) (fun _ => ?_) (fun c => absurd (by decide) c)
      refine lv_aload_n hC.1 hC.2.1 dX6_makeFilter_127 rfl (lv_at hl 4 rfl) ?_
      refine ec_get hC hK hx.1 fX6_41 rfl dX6_makeFilter_128 ?_
      refine lv_bipush (v := 6) hC.1 hC.2.1 dX6_makeFilter_131 (by decide) ?_
      refine lv_aload_n hC.1 hC.2.1 dX6_makeFilter_133 rfl (lv_at hl 4 rfl) ?_
      refine ec_get hC hK hx.1 fX6_87 rfl dX6_makeFilter_134 ?_
      refine lv_imul hC.1 hC.2.1 dX6_makeFilter_137 ?_
      refine lv_iload_n hC.1 hC.2.1 dX6_makeFilter_138 rfl (lv_at hl 2 rfl) ?_
      refine lv_iadd hC.1 hC.2.1 dX6_makeFilter_139 ?_
      refine lv_iload_n hC.1 hC.2.1 dX6_makeFilter_140 rfl (lv_at hl 2 rfl) ?_
      refine lv_if_ne (tgt := 149) hC.1 hC.2.1 dX6_makeFilter_141 (by decide) (fun _ => ?_) (fun c => absurd c (by decide))
      refine lv_iload_n hC.1 hC.2.1 dX6_makeFilter_149 rfl (lv_at hl 3 rfl) ?_
      refine lv_ineg hC.1 hC.2.1 dX6_makeFilter_150 ?_
      refine lv_i2l hC.1 hC.2.1 dX6_makeFilter_151 rfl ?_
      refine lv_lload hC.1 hC.2.1 dX6_makeFilter_152 (lv_at hl 1 rfl) ?_
      refine lv_lmul hC.1 hC.2.1 dX6_makeFilter_154 ?_
      refine ec_topl (y := tpF (smA M j) 1) rfl ?_
      refine ec_last hC hK hS (hx.2.1 9 (by decide)) (hx.2.2.2.2.2 9 (by decide)) (6 * mnF M + 1) (ix_ma 6 (mnF M) 1) (by omega) (by omega) dX6_makeFilter_155 (fun H locs h9 o9 z9 hS => ?_)
      have hx := rf_s9 (i := (6 * mnF M + 1)) (v := ((tpF (smA M j) 1))) hx h9 o9
      refine lv_iinc (v := 2) (lv' := [(3, .int 2), (6, .int 2), (4, .long (0 + ((Int32.toInt64 (M.2.1 4 ((4 * j + 1)))) * (tpF (smA M j) 0)))), (2, .int (M.2.1 4 ((4 * j)))), (0, .ref y), (1, .int (nI j))]) hC.1 hC.2.1 dX6_makeFilter_156 hl (k := 2) rfl (by decide) (by decide) rfl (fun ls hl => ?_)
      refine lv_goto (tgt := 62) hC.1 hC.2.1 dX6_makeFilter_159 (by decide) ?_
      refine lv_iload_n hC.1 hC.2.1 dX6_makeFilter_62 rfl (lv_at hl 0 rfl) ?_
      refine lv_bipush (v := 6) hC.1 hC.2.1 dX6_makeFilter_63 (by decide) ?_
      refine lv_icmp_ge (tgt := 162) hC.1 hC.2.1 dX6_makeFilter_65 (by decide) (fun c => absurd c (by decide)) (fun _ => ?_)
      refine lv_lconst (v := 0) hC.1 hC.2.1 dX6_makeFilter_68 (by decide) ?_
      refine lv_lstore (lv' := [(4, .long 0), (3, .int 2), (6, .int 2), (2, .int (M.2.1 4 ((4 * j)))), (0, .ref y), (1, .int (nI j))]) hC.1 hC.2.1 dX6_makeFilter_69 hl (by decide) rfl (fun ls hl => ?_)
      refine lv_iconst (v := 1) hC.1 hC.2.1 dX6_makeFilter_71 (by decide) ?_
      refine lv_istore (lv' := [(6, .int 1), (4, .long 0), (3, .int 2), (2, .int (M.2.1 4 ((4 * j)))), (0, .ref y), (1, .int (nI j))]) hC.1 hC.2.1 dX6_makeFilter_72 hl (by decide) rfl (fun ls hl => ?_)
      refine lv_iload hC.1 hC.2.1 dX6_makeFilter_74 (lv_at hl 0 rfl) ?_
      refine lv_iconst (v := 4) hC.1 hC.2.1 dX6_makeFilter_76 (by decide) ?_
      refine lv_icmp_ge (tgt := 127) hC.1 hC.2.1 dX6_makeFilter_77 (by decide) (fun c => absurd c (by decide)) (fun _ => ?_)
      refine lv_iload hC.1 hC.2.1 dX6_makeFilter_80 (lv_at hl 0 rfl) ?_
      refine lv_iload_n hC.1 hC.2.1 dX6_makeFilter_82 rfl (lv_at hl 2 rfl) ?_
      refine lv_icmp_gt (tgt := 127) hC.1 hC.2.1 dX6_makeFilter_83 (by decide) (fun c => absurd c (by decide)) (fun _ => ?_)
      refine lv_lload hC.1 hC.2.1 dX6_makeFilter_86 (lv_at hl 1 rfl) ?_
      refine lv_aload_n hC.1 hC.2.1 dX6_makeFilter_88 rfl (lv_at hl 4 rfl) ?_
      refine ec_get hC hK hx.1 fX6_35 rfl dX6_makeFilter_89 ?_
      refine lv_iconst (v := 4) hC.1 hC.2.1 dX6_makeFilter_92 (by decide) ?_
      refine lv_iload_n hC.1 hC.2.1 dX6_makeFilter_93 rfl (lv_at hl 5 rfl) ?_
      refine lv_imul hC.1 hC.2.1 dX6_makeFilter_94 ?_
      refine lv_iload hC.1 hC.2.1 dX6_makeFilter_95 (lv_at hl 0 rfl) ?_
      refine lv_iadd hC.1 hC.2.1 dX6_makeFilter_97 ?_
      refine ec_iald hC hK (hx.2.1 7 (by decide)) (4 * j + 1) (ix_ma 4 j 1) (by omega) (by omega) dX6_makeFilter_98 ?_
      refine lv_i2l hC.1 hC.2.1 dX6_makeFilter_99 rfl ?_
      refine lv_aload_n hC.1 hC.2.1 dX6_makeFilter_100 rfl (lv_at hl 4 rfl) ?_
      refine ec_get hC hK hx.1 fX6_41 rfl dX6_makeFilter_101 ?_
      refine lv_bipush (v := 6) hC.1 hC.2.1 dX6_makeFilter_104 (by decide) ?_
      refine lv_aload_n hC.1 hC.2.1 dX6_makeFilter_106 rfl (lv_at hl 4 rfl) ?_
      refine ec_get hC hK hx.1 fX6_87 rfl dX6_makeFilter_107 ?_
      refine lv_imul hC.1 hC.2.1 dX6_makeFilter_110 ?_
      refine lv_iload_n hC.1 hC.2.1 dX6_makeFilter_111 rfl (lv_at hl 2 rfl) ?_
      refine lv_iadd hC.1 hC.2.1 dX6_makeFilter_112 ?_
      refine lv_iload hC.1 hC.2.1 dX6_makeFilter_113 (lv_at hl 0 rfl) ?_
      refine lv_isub hC.1 hC.2.1 dX6_makeFilter_115 ?_
      refine ec_lald hC hK (hx.2.1 9 (by decide)) (6 * mnF M + 1) (ix_t (f := mnF M) (i := 2) (k := 1) (by decide)) (by omega) (by omega) dX6_makeFilter_116 ?_
      refine ec_topl (y := tpF (smA M j) 1) (by simp [setJ, vp_updL]) ?_
      refine lv_lmul hC.1 hC.2.1 dX6_makeFilter_117 ?_
      refine lv_ladd hC.1 hC.2.1 dX6_makeFilter_118 ?_
      refine lv_lstore (lv' := [(4, .long (0 + ((Int32.toInt64 (M.2.1 4 ((4 * j + 1)))) * (tpF (smA M j) 1)))), (6, .int 1), (3, .int 2), (2, .int (M.2.1 4 ((4 * j)))), (0, .ref y), (1, .int (nI j))]) hC.1 hC.2.1 dX6_makeFilter_119 hl (by decide) rfl (fun ls hl => ?_)
      refine lv_iinc (v := 2) (lv' := [(6, .int 2), (4, .long (0 + ((Int32.toInt64 (M.2.1 4 ((4 * j + 1)))) * (tpF (smA M j) 1)))), (3, .int 2), (2, .int (M.2.1 4 ((4 * j)))), (0, .ref y), (1, .int (nI j))]) hC.1 hC.2.1 dX6_makeFilter_121 hl (k := 1) rfl (by decide) (by decide) rfl (fun ls hl => ?_)
      refine lv_goto (tgt := 74) hC.1 hC.2.1 dX6_makeFilter_124 (by decide) ?_
      refine lv_iload hC.1 hC.2.1 dX6_makeFilter_74 (lv_at hl 0 rfl) ?_
      refine lv_iconst (v := 4) hC.1 hC.2.1 dX6_makeFilter_76 (by decide) ?_
      refine lv_icmp_ge (tgt := 127) hC.1 hC.2.1 dX6_makeFilter_77 (by decide) (fun c => absurd c (by decide)) (fun _ => ?_)
      refine lv_iload hC.1 hC.2.1 dX6_makeFilter_80 (lv_at hl 0 rfl) ?_
      refine lv_iload_n hC.1 hC.2.1 dX6_makeFilter_82 rfl (lv_at hl 2 rfl) ?_
      refine lv_icmp_gt (tgt := 127) hC.1 hC.2.1 dX6_makeFilter_83 (by decide) (fun c => absurd c (by decide)) (fun _ => ?_)
      refine lv_lload hC.1 hC.2.1 dX6_makeFilter_86 (lv_at hl 1 rfl) ?_
      refine lv_aload_n hC.1 hC.2.1 dX6_makeFilter_88 rfl (lv_at hl 4 rfl) ?_
      refine ec_get hC hK hx.1 fX6_35 rfl dX6_makeFilter_89 ?_
      refine lv_iconst (v := 4) hC.1 hC.2.1 dX6_makeFilter_92 (by decide) ?_
      refine lv_iload_n hC.1 hC.2.1 dX6_makeFilter_93 rfl (lv_at hl 5 rfl) ?_
      refine lv_imul hC.1 hC.2.1 dX6_makeFilter_94 ?_
      refine lv_iload hC.1 hC.2.1 dX6_makeFilter_95 (lv_at hl 0 rfl) ?_
      refine lv_iadd hC.1 hC.2.1 dX6_makeFilter_97 ?_
      refine ec_iald hC hK (hx.2.1 7 (by decide)) (4 * j + 2) (ix_ma 4 j 2) (by omega) (by omega) dX6_makeFilter_98 ?_
      refine lv_i2l hC.1 hC.2.1 dX6_makeFilter_99 rfl ?_
      refine lv_aload_n hC.1 hC.2.1 dX6_makeFilter_100 rfl (lv_at hl 4 rfl) ?_
      refine ec_get hC hK hx.1 fX6_41 rfl dX6_makeFilter_101 ?_
      refine lv_bipush (v := 6) hC.1 hC.2.1 dX6_makeFilter_104 (by decide) ?_
      refine lv_aload_n hC.1 hC.2.1 dX6_makeFilter_106 rfl (lv_at hl 4 rfl) ?_
      refine ec_get hC hK hx.1 fX6_87 rfl dX6_makeFilter_107 ?_
      refine lv_imul hC.1 hC.2.1 dX6_makeFilter_110 ?_
      refine lv_iload_n hC.1 hC.2.1 dX6_makeFilter_111 rfl (lv_at hl 2 rfl) ?_
      refine lv_iadd hC.1 hC.2.1 dX6_makeFilter_112 ?_
      refine lv_iload hC.1 hC.2.1 dX6_makeFilter_113 (lv_at hl 0 rfl) ?_
      refine lv_isub hC.1 hC.2.1 dX6_makeFilter_115 ?_
      refine ec_lald hC hK (hx.2.1 9 (by decide)) (6 * mnF M + 0) (ix_t (f := mnF M) (i := 2) (k := 2) (by decide)) (by omega) (by omega) dX6_makeFilter_116 ?_
      refine ec_topl (y := tpF (smA M j) 0) (by simp [setJ, vp_updL]) ?_
      refine lv_lmul hC.1 hC.2.1 dX6_makeFilter_117 ?_
      refine lv_ladd hC.1 hC.2.1 dX6_makeFilter_118 ?_
      refine lv_lstore (lv' := [(4, .long ((0 + ((Int32.toInt64 (M.2.1 4 ((4 * j + 1)))) * (tpF (smA M j) 1))) + ((Int32.toInt64 (M.2.1 4 ((4 * j + 2)))) * (tpF (smA M j) 0)))), (6, .int 2), (3, .int 2), (2, .int (M.2.1 4 ((4 * j)))), (0, .ref y), (1, .int (nI j))]) hC.1 hC.2.1 dX6_makeFilter_119 hl (by decide) rfl (fun ls hl => ?_)
      refine lv_iinc (v := 3) (lv' := [(6, .int 3), (4, .long ((0 + ((Int32.toInt64 (M.2.1 4 ((4 * j + 1)))) * (tpF (smA M j) 1))) + ((Int32.toInt64 (M.2.1 4 ((4 * j + 2)))) * (tpF (smA M j) 0)))), (3, .int 2), (2, .int (M.2.1 4 ((4 * j)))), (0, .ref y), (1, .int (nI j))]) hC.1 hC.2.1 dX6_makeFilter_121 hl (k := 1) rfl (by decide) (by decide) rfl (fun ls hl => ?_)
      refine lv_goto (tgt := 74) hC.1 hC.2.1 dX6_makeFilter_124 (by decide) ?_
      refine lv_iload hC.1 hC.2.1 dX6_makeFilter_74 (lv_at hl 0 rfl) ?_
      refine lv_iconst (v := 4) hC.1 hC.2.1 dX6_makeFilter_76 (by decide) ?_
      refine lv_icmp_ge (tgt := 127) hC.1 hC.2.1 dX6_makeFilter_77 (by decide) (fun c => absurd c (by decide)) (fun _ => ?_)
      refine lv_iload hC.1 hC.2.1 dX6_makeFilter_80 (lv_at hl 0 rfl) ?_
      refine lv_iload_n hC.1 hC.2.1 dX6_makeFilter_82 rfl (lv_at hl 2 rfl) ?_
      refine lv_icmp_gt (tgt := 127) hC.1 hC.2.1 dX6_makeFilter_83 (by decide) (fun _ => ?_) (fun c => absurd (by decide) c)
      refine lv_aload_n hC.1 hC.2.1 dX6_makeFilter_127 rfl (lv_at hl 4 rfl) ?_
      refine ec_get hC hK hx.1 fX6_41 rfl dX6_makeFilter_128 ?_
      refine lv_bipush (v := 6) hC.1 hC.2.1 dX6_makeFilter_131 (by decide) ?_
      refine lv_aload_n hC.1 hC.2.1 dX6_makeFilter_133 rfl (lv_at hl 4 rfl) ?_
      refine ec_get hC hK hx.1 fX6_87 rfl dX6_makeFilter_134 ?_
      refine lv_imul hC.1 hC.2.1 dX6_makeFilter_137 ?_
      refine lv_iload_n hC.1 hC.2.1 dX6_makeFilter_138 rfl (lv_at hl 2 rfl) ?_
      refine lv_iadd hC.1 hC.2.1 dX6_makeFilter_139 ?_
      refine lv_iload_n hC.1 hC.2.1 dX6_makeFilter_140 rfl (lv_at hl 2 rfl) ?_
      refine lv_if_ne (tgt := 149) hC.1 hC.2.1 dX6_makeFilter_141 (by decide) (fun _ => ?_) (fun c => absurd c (by decide))
      refine lv_iload_n hC.1 hC.2.1 dX6_makeFilter_149 rfl (lv_at hl 3 rfl) ?_
      refine lv_ineg hC.1 hC.2.1 dX6_makeFilter_150 ?_
      refine lv_i2l hC.1 hC.2.1 dX6_makeFilter_151 rfl ?_
      refine lv_lload hC.1 hC.2.1 dX6_makeFilter_152 (lv_at hl 1 rfl) ?_
      refine lv_lmul hC.1 hC.2.1 dX6_makeFilter_154 ?_
      refine ec_topl (y := tpF (smA M j) 2) rfl ?_
      refine ec_last hC hK hS (hx.2.1 9 (by decide)) (hx.2.2.2.2.2 9 (by decide)) (6 * mnF M + 2) (ix_ma 6 (mnF M) 2) (by omega) (by omega) dX6_makeFilter_155 (fun H locs h9 o9 z9 hS => ?_)
      have hx := rf_s9 (i := (6 * mnF M + 2)) (v := ((tpF (smA M j) 2))) hx h9 o9
      refine lv_iinc (v := 3) (lv' := [(3, .int 3), (6, .int 3), (4, .long ((0 + ((Int32.toInt64 (M.2.1 4 ((4 * j + 1)))) * (tpF (smA M j) 1))) + ((Int32.toInt64 (M.2.1 4 ((4 * j + 2)))) * (tpF (smA M j) 0)))), (2, .int (M.2.1 4 ((4 * j)))), (0, .ref y), (1, .int (nI j))]) hC.1 hC.2.1 dX6_makeFilter_156 hl (k := 2) rfl (by decide) (by decide) rfl (fun ls hl => ?_)
      refine lv_goto (tgt := 62) hC.1 hC.2.1 dX6_makeFilter_159 (by decide) ?_
      refine lv_iload_n hC.1 hC.2.1 dX6_makeFilter_62 rfl (lv_at hl 0 rfl) ?_
      refine lv_bipush (v := 6) hC.1 hC.2.1 dX6_makeFilter_63 (by decide) ?_
      refine lv_icmp_ge (tgt := 162) hC.1 hC.2.1 dX6_makeFilter_65 (by decide) (fun c => absurd c (by decide)) (fun _ => ?_)
      refine lv_lconst (v := 0) hC.1 hC.2.1 dX6_makeFilter_68 (by decide) ?_
      refine lv_lstore (lv' := [(4, .long 0), (3, .int 3), (6, .int 3), (2, .int (M.2.1 4 ((4 * j)))), (0, .ref y), (1, .int (nI j))]) hC.1 hC.2.1 dX6_makeFilter_69 hl (by decide) rfl (fun ls hl => ?_)
      refine lv_iconst (v := 1) hC.1 hC.2.1 dX6_makeFilter_71 (by decide) ?_
      refine lv_istore (lv' := [(6, .int 1), (4, .long 0), (3, .int 3), (2, .int (M.2.1 4 ((4 * j)))), (0, .ref y), (1, .int (nI j))]) hC.1 hC.2.1 dX6_makeFilter_72 hl (by decide) rfl (fun ls hl => ?_)
      refine lv_iload hC.1 hC.2.1 dX6_makeFilter_74 (lv_at hl 0 rfl) ?_
      refine lv_iconst (v := 4) hC.1 hC.2.1 dX6_makeFilter_76 (by decide) ?_
      refine lv_icmp_ge (tgt := 127) hC.1 hC.2.1 dX6_makeFilter_77 (by decide) (fun c => absurd c (by decide)) (fun _ => ?_)
      refine lv_iload hC.1 hC.2.1 dX6_makeFilter_80 (lv_at hl 0 rfl) ?_
      refine lv_iload_n hC.1 hC.2.1 dX6_makeFilter_82 rfl (lv_at hl 2 rfl) ?_
      refine lv_icmp_gt (tgt := 127) hC.1 hC.2.1 dX6_makeFilter_83 (by decide) (fun c => absurd c (by decide)) (fun _ => ?_)
      refine lv_lload hC.1 hC.2.1 dX6_makeFilter_86 (lv_at hl 1 rfl) ?_
      refine lv_aload_n hC.1 hC.2.1 dX6_makeFilter_88 rfl (lv_at hl 4 rfl) ?_
      refine ec_get hC hK hx.1 fX6_35 rfl dX6_makeFilter_89 ?_
      refine lv_iconst (v := 4) hC.1 hC.2.1 dX6_makeFilter_92 (by decide) ?_
      refine lv_iload_n hC.1 hC.2.1 dX6_makeFilter_93 rfl (lv_at hl 5 rfl) ?_
      refine lv_imul hC.1 hC.2.1 dX6_makeFilter_94 ?_
      refine lv_iload hC.1 hC.2.1 dX6_makeFilter_95 (lv_at hl 0 rfl) ?_
      refine lv_iadd hC.1 hC.2.1 dX6_makeFilter_97 ?_
      refine ec_iald hC hK (hx.2.1 7 (by decide)) (4 * j + 1) (ix_ma 4 j 1) (by omega) (by omega) dX6_makeFilter_98 ?_
      refine lv_i2l hC.1 hC.2.1 dX6_makeFilter_99 rfl ?_
      refine lv_aload_n hC.1 hC.2.1 dX6_makeFilter_100 rfl (lv_at hl 4 rfl) ?_
      refine ec_get hC hK hx.1 fX6_41 rfl dX6_makeFilter_101 ?_
      refine lv_bipush (v := 6) hC.1 hC.2.1 dX6_makeFilter_104 (by decide) ?_
      refine lv_aload_n hC.1 hC.2.1 dX6_makeFilter_106 rfl (lv_at hl 4 rfl) ?_
      refine ec_get hC hK hx.1 fX6_87 rfl dX6_makeFilter_107 ?_
      refine lv_imul hC.1 hC.2.1 dX6_makeFilter_110 ?_
      refine lv_iload_n hC.1 hC.2.1 dX6_makeFilter_111 rfl (lv_at hl 2 rfl) ?_
      refine lv_iadd hC.1 hC.2.1 dX6_makeFilter_112 ?_
      refine lv_iload hC.1 hC.2.1 dX6_makeFilter_113 (lv_at hl 0 rfl) ?_
      refine lv_isub hC.1 hC.2.1 dX6_makeFilter_115 ?_
      refine ec_lald hC hK (hx.2.1 9 (by decide)) (6 * mnF M + 2) (ix_t (f := mnF M) (i := 3) (k := 1) (by decide)) (by omega) (by omega) dX6_makeFilter_116 ?_
      refine ec_topl (y := tpF (smA M j) 2) (by simp [setJ, vp_updL]) ?_
      refine lv_lmul hC.1 hC.2.1 dX6_makeFilter_117 ?_
      refine lv_ladd hC.1 hC.2.1 dX6_makeFilter_118 ?_
      refine lv_lstore (lv' := [(4, .long (0 + ((Int32.toInt64 (M.2.1 4 ((4 * j + 1)))) * (tpF (smA M j) 2)))), (6, .int 1), (3, .int 3), (2, .int (M.2.1 4 ((4 * j)))), (0, .ref y), (1, .int (nI j))]) hC.1 hC.2.1 dX6_makeFilter_119 hl (by decide) rfl (fun ls hl => ?_)
      refine lv_iinc (v := 2) (lv' := [(6, .int 2), (4, .long (0 + ((Int32.toInt64 (M.2.1 4 ((4 * j + 1)))) * (tpF (smA M j) 2)))), (3, .int 3), (2, .int (M.2.1 4 ((4 * j)))), (0, .ref y), (1, .int (nI j))]) hC.1 hC.2.1 dX6_makeFilter_121 hl (k := 1) rfl (by decide) (by decide) rfl (fun ls hl => ?_)
      refine lv_goto (tgt := 74) hC.1 hC.2.1 dX6_makeFilter_124 (by decide) ?_
      refine lv_iload hC.1 hC.2.1 dX6_makeFilter_74 (lv_at hl 0 rfl) ?_
      refine lv_iconst (v := 4) hC.1 hC.2.1 dX6_makeFilter_76 (by decide) ?_
      refine lv_icmp_ge (tgt := 127) hC.1 hC.2.1 dX6_makeFilter_77 (by decide) (fun c => absurd c (by decide)) (fun _ => ?_)
      refine lv_iload hC.1 hC.2.1 dX6_makeFilter_80 (lv_at hl 0 rfl) ?_
      refine lv_iload_n hC.1 hC.2.1 dX6_makeFilter_82 rfl (lv_at hl 2 rfl) ?_
      refine lv_icmp_gt (tgt := 127) hC.1 hC.2.1 dX6_makeFilter_83 (by decide) (fun c => absurd c (by decide)) (fun _ => ?_)
      refine lv_lload hC.1 hC.2.1 dX6_makeFilter_86 (lv_at hl 1 rfl) ?_
      refine lv_aload_n hC.1 hC.2.1 dX6_makeFilter_88 rfl (lv_at hl 4 rfl) ?_
      refine ec_get hC hK hx.1 fX6_35 rfl dX6_makeFilter_89 ?_
      refine lv_iconst (v := 4) hC.1 hC.2.1 dX6_makeFilter_92 (by decide) ?_
      refine lv_iload_n hC.1 hC.2.1 dX6_makeFilter_93 rfl (lv_at hl 5 rfl) ?_
      refine lv_imul hC.1 hC.2.1 dX6_makeFilter_94 ?_
      refine lv_iload hC.1 hC.2.1 dX6_makeFilter_95 (lv_at hl 0 rfl) ?_
      refine lv_iadd hC.1 hC.2.1 dX6_makeFilter_97 ?_
      refine ec_iald hC hK (hx.2.1 7 (by decide)) (4 * j + 2) (ix_ma 4 j 2) (by omega) (by omega) dX6_makeFilter_98 ?_
      refine lv_i2l hC.1 hC.2.1 dX6_makeFilter_99 rfl ?_
      refine lv_aload_n hC.1 hC.2.1 dX6_makeFilter_100 rfl (lv_at hl 4 rfl) ?_
      refine ec_get hC hK hx.1 fX6_41 rfl dX6_makeFilter_101 ?_
      refine lv_bipush (v := 6) hC.1 hC.2.1 dX6_makeFilter_104 (by decide) ?_
      refine lv_aload_n hC.1 hC.2.1 dX6_makeFilter_106 rfl (lv_at hl 4 rfl) ?_
      refine ec_get hC hK hx.1 fX6_87 rfl dX6_makeFilter_107 ?_
      refine lv_imul hC.1 hC.2.1 dX6_makeFilter_110 ?_
      refine lv_iload_n hC.1 hC.2.1 dX6_makeFilter_111 rfl (lv_at hl 2 rfl) ?_
      refine lv_iadd hC.1 hC.2.1 dX6_makeFilter_112 ?_
      refine lv_iload hC.1 hC.2.1 dX6_makeFilter_113 (lv_at hl 0 rfl) ?_
      refine lv_isub hC.1 hC.2.1 dX6_makeFilter_115 ?_
      refine ec_lald hC hK (hx.2.1 9 (by decide)) (6 * mnF M + 1) (ix_t (f := mnF M) (i := 3) (k := 2) (by decide)) (by omega) (by omega) dX6_makeFilter_116 ?_
      refine ec_topl (y := tpF (smA M j) 1) (by simp [setJ, vp_updL]) ?_
      refine lv_lmul hC.1 hC.2.1 dX6_makeFilter_117 ?_
      refine lv_ladd hC.1 hC.2.1 dX6_makeFilter_118 ?_
      refine lv_lstore (lv' := [(4, .long ((0 + ((Int32.toInt64 (M.2.1 4 ((4 * j + 1)))) * (tpF (smA M j) 2))) + ((Int32.toInt64 (M.2.1 4 ((4 * j + 2)))) * (tpF (smA M j) 1)))), (6, .int 2), (3, .int 3), (2, .int (M.2.1 4 ((4 * j)))), (0, .ref y), (1, .int (nI j))]) hC.1 hC.2.1 dX6_makeFilter_119 hl (by decide) rfl (fun ls hl => ?_)
      refine lv_iinc (v := 3) (lv' := [(6, .int 3), (4, .long ((0 + ((Int32.toInt64 (M.2.1 4 ((4 * j + 1)))) * (tpF (smA M j) 2))) + ((Int32.toInt64 (M.2.1 4 ((4 * j + 2)))) * (tpF (smA M j) 1)))), (3, .int 3), (2, .int (M.2.1 4 ((4 * j)))), (0, .ref y), (1, .int (nI j))]) hC.1 hC.2.1 dX6_makeFilter_121 hl (k := 1) rfl (by decide) (by decide) rfl (fun ls hl => ?_)
      refine lv_goto (tgt := 74) hC.1 hC.2.1 dX6_makeFilter_124 (by decide) ?_
      refine lv_iload hC.1 hC.2.1 dX6_makeFilter_74 (lv_at hl 0 rfl) ?_
      refine lv_iconst (v := 4) hC.1 hC.2.1 dX6_makeFilter_76 (by decide) ?_
      refine lv_icmp_ge (tgt := 127) hC.1 hC.2.1 dX6_makeFilter_77 (by decide) (fun c => absurd c (by decide)) (fun _ => ?_)
      refine lv_iload hC.1 hC.2.1 dX6_makeFilter_80 (lv_at hl 0 rfl) ?_
      refine lv_iload_n hC.1 hC.2.1 dX6_makeFilter_82 rfl (lv_at hl 2 rfl) ?_
      refine lv_icmp_gt (tgt := 127) hC.1 hC.2.1 dX6_makeFilter_83 (by decide) (fun c => absurd c (by decide)) (fun _ => ?_)
      refine lv_lload hC.1 hC.2.1 dX6_makeFilter_86 (lv_at hl 1 rfl) ?_
      refine lv_aload_n hC.1 hC.2.1 dX6_makeFilter_88 rfl (lv_at hl 4 rfl) ?_
      refine ec_get hC hK hx.1 fX6_35 rfl dX6_makeFilter_89 ?_
      refine lv_iconst (v := 4) hC.1 hC.2.1 dX6_makeFilter_92 (by decide) ?_
      refine lv_iload_n hC.1 hC.2.1 dX6_makeFilter_93 rfl (lv_at hl 5 rfl) ?_
      refine lv_imul hC.1 hC.2.1 dX6_makeFilter_94 ?_
      refine lv_iload hC.1 hC.2.1 dX6_makeFilter_95 (lv_at hl 0 rfl) ?_
      refine lv_iadd hC.1 hC.2.1 dX6_makeFilter_97 ?_
      refine ec_iald hC hK (hx.2.1 7 (by decide)) (4 * j + 3) (ix_ma 4 j 3) (by omega) (by omega) dX6_makeFilter_98 ?_
      refine lv_i2l hC.1 hC.2.1 dX6_makeFilter_99 rfl ?_
      refine lv_aload_n hC.1 hC.2.1 dX6_makeFilter_100 rfl (lv_at hl 4 rfl) ?_
      refine ec_get hC hK hx.1 fX6_41 rfl dX6_makeFilter_101 ?_
      refine lv_bipush (v := 6) hC.1 hC.2.1 dX6_makeFilter_104 (by decide) ?_
      refine lv_aload_n hC.1 hC.2.1 dX6_makeFilter_106 rfl (lv_at hl 4 rfl) ?_
      refine ec_get hC hK hx.1 fX6_87 rfl dX6_makeFilter_107 ?_
      refine lv_imul hC.1 hC.2.1 dX6_makeFilter_110 ?_
      refine lv_iload_n hC.1 hC.2.1 dX6_makeFilter_111 rfl (lv_at hl 2 rfl) ?_
      refine lv_iadd hC.1 hC.2.1 dX6_makeFilter_112 ?_
      refine lv_iload hC.1 hC.2.1 dX6_makeFilter_113 (lv_at hl 0 rfl) ?_
      refine lv_isub hC.1 hC.2.1 dX6_makeFilter_115 ?_
      refine ec_lald hC hK (hx.2.1 9 (by decide)) (6 * mnF M + 0) (ix_t (f := mnF M) (i := 3) (k := 3) (by decide)) (by omega) (by omega) dX6_makeFilter_116 ?_
      refine ec_topl (y := tpF (smA M j) 0) (by simp [setJ, vp_updL]) ?_
      refine lv_lmul hC.1 hC.2.1 dX6_makeFilter_117 ?_
      refine lv_ladd hC.1 hC.2.1 dX6_makeFilter_118 ?_
      refine lv_lstore (lv' := [(4, .long (((0 + ((Int32.toInt64 (M.2.1 4 ((4 * j + 1)))) * (tpF (smA M j) 2))) + ((Int32.toInt64 (M.2.1 4 ((4 * j + 2)))) * (tpF (smA M j) 1))) + ((Int32.toInt64 (M.2.1 4 ((4 * j + 3)))) * (tpF (smA M j) 0)))), (6, .int 3), (3, .int 3), (2, .int (M.2.1 4 ((4 * j)))), (0, .ref y), (1, .int (nI j))]) hC.1 hC.2.1 dX6_makeFilter_119 hl (by decide) rfl (fun ls hl => ?_)
      refine lv_iinc (v := 4) (lv' := [(6, .int 4), (4, .long (((0 + ((Int32.toInt64 (M.2.1 4 ((4 * j + 1)))) * (tpF (smA M j) 2))) + ((Int32.toInt64 (M.2.1 4 ((4 * j + 2)))) * (tpF (smA M j) 1))) + ((Int32.toInt64 (M.2.1 4 ((4 * j + 3)))) * (tpF (smA M j) 0)))), (3, .int 3), (2, .int (M.2.1 4 ((4 * j)))), (0, .ref y), (1, .int (nI j))]) hC.1 hC.2.1 dX6_makeFilter_121 hl (k := 1) rfl (by decide) (by decide) rfl (fun ls hl => ?_)
      refine lv_goto (tgt := 74) hC.1 hC.2.1 dX6_makeFilter_124 (by decide) ?_
      refine lv_iload hC.1 hC.2.1 dX6_makeFilter_74 (lv_at hl 0 rfl) ?_
      refine lv_iconst (v := 4) hC.1 hC.2.1 dX6_makeFilter_76 (by decide) ?_
      refine lv_icmp_ge (tgt := 127) hC.1 hC.2.1 dX6_makeFilter_77 (by decide) (fun _ => ?_) (fun c => absurd (by decide) c)
      refine lv_aload_n hC.1 hC.2.1 dX6_makeFilter_127 rfl (lv_at hl 4 rfl) ?_
      refine ec_get hC hK hx.1 fX6_41 rfl dX6_makeFilter_128 ?_
      refine lv_bipush (v := 6) hC.1 hC.2.1 dX6_makeFilter_131 (by decide) ?_
      refine lv_aload_n hC.1 hC.2.1 dX6_makeFilter_133 rfl (lv_at hl 4 rfl) ?_
      refine ec_get hC hK hx.1 fX6_87 rfl dX6_makeFilter_134 ?_
      refine lv_imul hC.1 hC.2.1 dX6_makeFilter_137 ?_
      refine lv_iload_n hC.1 hC.2.1 dX6_makeFilter_138 rfl (lv_at hl 2 rfl) ?_
      refine lv_iadd hC.1 hC.2.1 dX6_makeFilter_139 ?_
      refine lv_iload_n hC.1 hC.2.1 dX6_makeFilter_140 rfl (lv_at hl 2 rfl) ?_
      refine lv_if_ne (tgt := 149) hC.1 hC.2.1 dX6_makeFilter_141 (by decide) (fun _ => ?_) (fun c => absurd c (by decide))
      refine lv_iload_n hC.1 hC.2.1 dX6_makeFilter_149 rfl (lv_at hl 3 rfl) ?_
      refine lv_ineg hC.1 hC.2.1 dX6_makeFilter_150 ?_
      refine lv_i2l hC.1 hC.2.1 dX6_makeFilter_151 rfl ?_
      refine lv_lload hC.1 hC.2.1 dX6_makeFilter_152 (lv_at hl 1 rfl) ?_
      refine lv_lmul hC.1 hC.2.1 dX6_makeFilter_154 ?_
      refine ec_topl (y := tpF (smA M j) 3) rfl ?_
      refine ec_last hC hK hS (hx.2.1 9 (by decide)) (hx.2.2.2.2.2 9 (by decide)) (6 * mnF M + 3) (ix_ma 6 (mnF M) 3) (by omega) (by omega) dX6_makeFilter_155 (fun H locs h9 o9 z9 hS => ?_)
      have hx := rf_s9 (i := (6 * mnF M + 3)) (v := ((tpF (smA M j) 3))) hx h9 o9
      refine lv_iinc (v := 4) (lv' := [(3, .int 4), (6, .int 4), (4, .long (((0 + ((Int32.toInt64 (M.2.1 4 ((4 * j + 1)))) * (tpF (smA M j) 2))) + ((Int32.toInt64 (M.2.1 4 ((4 * j + 2)))) * (tpF (smA M j) 1))) + ((Int32.toInt64 (M.2.1 4 ((4 * j + 3)))) * (tpF (smA M j) 0)))), (2, .int (M.2.1 4 ((4 * j)))), (0, .ref y), (1, .int (nI j))]) hC.1 hC.2.1 dX6_makeFilter_156 hl (k := 2) rfl (by decide) (by decide) rfl (fun ls hl => ?_)
      refine lv_goto (tgt := 62) hC.1 hC.2.1 dX6_makeFilter_159 (by decide) ?_
      refine lv_iload_n hC.1 hC.2.1 dX6_makeFilter_62 rfl (lv_at hl 0 rfl) ?_
      refine lv_bipush (v := 6) hC.1 hC.2.1 dX6_makeFilter_63 (by decide) ?_
      refine lv_icmp_ge (tgt := 162) hC.1 hC.2.1 dX6_makeFilter_65 (by decide) (fun c => absurd c (by decide)) (fun _ => ?_)
      refine lv_lconst (v := 0) hC.1 hC.2.1 dX6_makeFilter_68 (by decide) ?_
      refine lv_lstore (lv' := [(4, .long 0), (3, .int 4), (6, .int 4), (2, .int (M.2.1 4 ((4 * j)))), (0, .ref y), (1, .int (nI j))]) hC.1 hC.2.1 dX6_makeFilter_69 hl (by decide) rfl (fun ls hl => ?_)
      refine lv_iconst (v := 1) hC.1 hC.2.1 dX6_makeFilter_71 (by decide) ?_
      refine lv_istore (lv' := [(6, .int 1), (4, .long 0), (3, .int 4), (2, .int (M.2.1 4 ((4 * j)))), (0, .ref y), (1, .int (nI j))]) hC.1 hC.2.1 dX6_makeFilter_72 hl (by decide) rfl (fun ls hl => ?_)
      refine lv_iload hC.1 hC.2.1 dX6_makeFilter_74 (lv_at hl 0 rfl) ?_
      refine lv_iconst (v := 4) hC.1 hC.2.1 dX6_makeFilter_76 (by decide) ?_
      refine lv_icmp_ge (tgt := 127) hC.1 hC.2.1 dX6_makeFilter_77 (by decide) (fun c => absurd c (by decide)) (fun _ => ?_)
      refine lv_iload hC.1 hC.2.1 dX6_makeFilter_80 (lv_at hl 0 rfl) ?_
      refine lv_iload_n hC.1 hC.2.1 dX6_makeFilter_82 rfl (lv_at hl 2 rfl) ?_
      refine lv_icmp_gt (tgt := 127) hC.1 hC.2.1 dX6_makeFilter_83 (by decide) (fun c => absurd c (by decide)) (fun _ => ?_)
      refine lv_lload hC.1 hC.2.1 dX6_makeFilter_86 (lv_at hl 1 rfl) ?_
      refine lv_aload_n hC.1 hC.2.1 dX6_makeFilter_88 rfl (lv_at hl 4 rfl) ?_
      refine ec_get hC hK hx.1 fX6_35 rfl dX6_makeFilter_89 ?_
      refine lv_iconst (v := 4) hC.1 hC.2.1 dX6_makeFilter_92 (by decide) ?_
      refine lv_iload_n hC.1 hC.2.1 dX6_makeFilter_93 rfl (lv_at hl 5 rfl) ?_
      refine lv_imul hC.1 hC.2.1 dX6_makeFilter_94 ?_
      refine lv_iload hC.1 hC.2.1 dX6_makeFilter_95 (lv_at hl 0 rfl) ?_
      refine lv_iadd hC.1 hC.2.1 dX6_makeFilter_97 ?_
      refine ec_iald hC hK (hx.2.1 7 (by decide)) (4 * j + 1) (ix_ma 4 j 1) (by omega) (by omega) dX6_makeFilter_98 ?_
      refine lv_i2l hC.1 hC.2.1 dX6_makeFilter_99 rfl ?_
      refine lv_aload_n hC.1 hC.2.1 dX6_makeFilter_100 rfl (lv_at hl 4 rfl) ?_
      refine ec_get hC hK hx.1 fX6_41 rfl dX6_makeFilter_101 ?_
      refine lv_bipush (v := 6) hC.1 hC.2.1 dX6_makeFilter_104 (by decide) ?_
      refine lv_aload_n hC.1 hC.2.1 dX6_makeFilter_106 rfl (lv_at hl 4 rfl) ?_
      refine ec_get hC hK hx.1 fX6_87 rfl dX6_makeFilter_107 ?_
      refine lv_imul hC.1 hC.2.1 dX6_makeFilter_110 ?_
      refine lv_iload_n hC.1 hC.2.1 dX6_makeFilter_111 rfl (lv_at hl 2 rfl) ?_
      refine lv_iadd hC.1 hC.2.1 dX6_makeFilter_112 ?_
      refine lv_iload hC.1 hC.2.1 dX6_makeFilter_113 (lv_at hl 0 rfl) ?_
      refine lv_isub hC.1 hC.2.1 dX6_makeFilter_115 ?_
      refine ec_lald hC hK (hx.2.1 9 (by decide)) (6 * mnF M + 3) (ix_t (f := mnF M) (i := 4) (k := 1) (by decide)) (by omega) (by omega) dX6_makeFilter_116 ?_
      refine ec_topl (y := tpF (smA M j) 3) (by simp [setJ, vp_updL]) ?_
      refine lv_lmul hC.1 hC.2.1 dX6_makeFilter_117 ?_
      refine lv_ladd hC.1 hC.2.1 dX6_makeFilter_118 ?_
      refine lv_lstore (lv' := [(4, .long (0 + ((Int32.toInt64 (M.2.1 4 ((4 * j + 1)))) * (tpF (smA M j) 3)))), (6, .int 1), (3, .int 4), (2, .int (M.2.1 4 ((4 * j)))), (0, .ref y), (1, .int (nI j))]) hC.1 hC.2.1 dX6_makeFilter_119 hl (by decide) rfl (fun ls hl => ?_)
      refine lv_iinc (v := 2) (lv' := [(6, .int 2), (4, .long (0 + ((Int32.toInt64 (M.2.1 4 ((4 * j + 1)))) * (tpF (smA M j) 3)))), (3, .int 4), (2, .int (M.2.1 4 ((4 * j)))), (0, .ref y), (1, .int (nI j))]) hC.1 hC.2.1 dX6_makeFilter_121 hl (k := 1) rfl (by decide) (by decide) rfl (fun ls hl => ?_)
      refine lv_goto (tgt := 74) hC.1 hC.2.1 dX6_makeFilter_124 (by decide) ?_
      refine lv_iload hC.1 hC.2.1 dX6_makeFilter_74 (lv_at hl 0 rfl) ?_
      refine lv_iconst (v := 4) hC.1 hC.2.1 dX6_makeFilter_76 (by decide) ?_
      refine lv_icmp_ge (tgt := 127) hC.1 hC.2.1 dX6_makeFilter_77 (by decide) (fun c => absurd c (by decide)) (fun _ => ?_)
      refine lv_iload hC.1 hC.2.1 dX6_makeFilter_80 (lv_at hl 0 rfl) ?_
      refine lv_iload_n hC.1 hC.2.1 dX6_makeFilter_82 rfl (lv_at hl 2 rfl) ?_
      refine lv_icmp_gt (tgt := 127) hC.1 hC.2.1 dX6_makeFilter_83 (by decide) (fun c => absurd c (by decide)) (fun _ => ?_)
      refine lv_lload hC.1 hC.2.1 dX6_makeFilter_86 (lv_at hl 1 rfl) ?_
      refine lv_aload_n hC.1 hC.2.1 dX6_makeFilter_88 rfl (lv_at hl 4 rfl) ?_
      refine ec_get hC hK hx.1 fX6_35 rfl dX6_makeFilter_89 ?_
      refine lv_iconst (v := 4) hC.1 hC.2.1 dX6_makeFilter_92 (by decide) ?_
      refine lv_iload_n hC.1 hC.2.1 dX6_makeFilter_93 rfl (lv_at hl 5 rfl) ?_
      refine lv_imul hC.1 hC.2.1 dX6_makeFilter_94 ?_
      refine lv_iload hC.1 hC.2.1 dX6_makeFilter_95 (lv_at hl 0 rfl) ?_
      refine lv_iadd hC.1 hC.2.1 dX6_makeFilter_97 ?_
      refine ec_iald hC hK (hx.2.1 7 (by decide)) (4 * j + 2) (ix_ma 4 j 2) (by omega) (by omega) dX6_makeFilter_98 ?_
      refine lv_i2l hC.1 hC.2.1 dX6_makeFilter_99 rfl ?_
      refine lv_aload_n hC.1 hC.2.1 dX6_makeFilter_100 rfl (lv_at hl 4 rfl) ?_
      refine ec_get hC hK hx.1 fX6_41 rfl dX6_makeFilter_101 ?_
      refine lv_bipush (v := 6) hC.1 hC.2.1 dX6_makeFilter_104 (by decide) ?_
      refine lv_aload_n hC.1 hC.2.1 dX6_makeFilter_106 rfl (lv_at hl 4 rfl) ?_
      refine ec_get hC hK hx.1 fX6_87 rfl dX6_makeFilter_107 ?_
      refine lv_imul hC.1 hC.2.1 dX6_makeFilter_110 ?_
      refine lv_iload_n hC.1 hC.2.1 dX6_makeFilter_111 rfl (lv_at hl 2 rfl) ?_
      refine lv_iadd hC.1 hC.2.1 dX6_makeFilter_112 ?_
      refine lv_iload hC.1 hC.2.1 dX6_makeFilter_113 (lv_at hl 0 rfl) ?_
      refine lv_isub hC.1 hC.2.1 dX6_makeFilter_115 ?_
      refine ec_lald hC hK (hx.2.1 9 (by decide)) (6 * mnF M + 2) (ix_t (f := mnF M) (i := 4) (k := 2) (by decide)) (by omega) (by omega) dX6_makeFilter_116 ?_
      refine ec_topl (y := tpF (smA M j) 2) (by simp [setJ, vp_updL]) ?_
      refine lv_lmul hC.1 hC.2.1 dX6_makeFilter_117 ?_
      refine lv_ladd hC.1 hC.2.1 dX6_makeFilter_118 ?_
      refine lv_lstore (lv' := [(4, .long ((0 + ((Int32.toInt64 (M.2.1 4 ((4 * j + 1)))) * (tpF (smA M j) 3))) + ((Int32.toInt64 (M.2.1 4 ((4 * j + 2)))) * (tpF (smA M j) 2)))), (6, .int 2), (3, .int 4), (2, .int (M.2.1 4 ((4 * j)))), (0, .ref y), (1, .int (nI j))]) hC.1 hC.2.1 dX6_makeFilter_119 hl (by decide) rfl (fun ls hl => ?_)
      refine lv_iinc (v := 3) (lv' := [(6, .int 3), (4, .long ((0 + ((Int32.toInt64 (M.2.1 4 ((4 * j + 1)))) * (tpF (smA M j) 3))) + ((Int32.toInt64 (M.2.1 4 ((4 * j + 2)))) * (tpF (smA M j) 2)))), (3, .int 4), (2, .int (M.2.1 4 ((4 * j)))), (0, .ref y), (1, .int (nI j))]) hC.1 hC.2.1 dX6_makeFilter_121 hl (k := 1) rfl (by decide) (by decide) rfl (fun ls hl => ?_)
      refine lv_goto (tgt := 74) hC.1 hC.2.1 dX6_makeFilter_124 (by decide) ?_
      refine lv_iload hC.1 hC.2.1 dX6_makeFilter_74 (lv_at hl 0 rfl) ?_
      refine lv_iconst (v := 4) hC.1 hC.2.1 dX6_makeFilter_76 (by decide) ?_
      refine lv_icmp_ge (tgt := 127) hC.1 hC.2.1 dX6_makeFilter_77 (by decide) (fun c => absurd c (by decide)) (fun _ => ?_)
      refine lv_iload hC.1 hC.2.1 dX6_makeFilter_80 (lv_at hl 0 rfl) ?_
      refine lv_iload_n hC.1 hC.2.1 dX6_makeFilter_82 rfl (lv_at hl 2 rfl) ?_
      refine lv_icmp_gt (tgt := 127) hC.1 hC.2.1 dX6_makeFilter_83 (by decide) (fun c => absurd c (by decide)) (fun _ => ?_)
      refine lv_lload hC.1 hC.2.1 dX6_makeFilter_86 (lv_at hl 1 rfl) ?_
      refine lv_aload_n hC.1 hC.2.1 dX6_makeFilter_88 rfl (lv_at hl 4 rfl) ?_
      refine ec_get hC hK hx.1 fX6_35 rfl dX6_makeFilter_89 ?_
      refine lv_iconst (v := 4) hC.1 hC.2.1 dX6_makeFilter_92 (by decide) ?_
      refine lv_iload_n hC.1 hC.2.1 dX6_makeFilter_93 rfl (lv_at hl 5 rfl) ?_
      refine lv_imul hC.1 hC.2.1 dX6_makeFilter_94 ?_
      refine lv_iload hC.1 hC.2.1 dX6_makeFilter_95 (lv_at hl 0 rfl) ?_
      refine lv_iadd hC.1 hC.2.1 dX6_makeFilter_97 ?_
      refine ec_iald hC hK (hx.2.1 7 (by decide)) (4 * j + 3) (ix_ma 4 j 3) (by omega) (by omega) dX6_makeFilter_98 ?_
      refine lv_i2l hC.1 hC.2.1 dX6_makeFilter_99 rfl ?_
      refine lv_aload_n hC.1 hC.2.1 dX6_makeFilter_100 rfl (lv_at hl 4 rfl) ?_
      refine ec_get hC hK hx.1 fX6_41 rfl dX6_makeFilter_101 ?_
      refine lv_bipush (v := 6) hC.1 hC.2.1 dX6_makeFilter_104 (by decide) ?_
      refine lv_aload_n hC.1 hC.2.1 dX6_makeFilter_106 rfl (lv_at hl 4 rfl) ?_
      refine ec_get hC hK hx.1 fX6_87 rfl dX6_makeFilter_107 ?_
      refine lv_imul hC.1 hC.2.1 dX6_makeFilter_110 ?_
      refine lv_iload_n hC.1 hC.2.1 dX6_makeFilter_111 rfl (lv_at hl 2 rfl) ?_
      refine lv_iadd hC.1 hC.2.1 dX6_makeFilter_112 ?_
      refine lv_iload hC.1 hC.2.1 dX6_makeFilter_113 (lv_at hl 0 rfl) ?_
      refine lv_isub hC.1 hC.2.1 dX6_makeFilter_115 ?_
      refine ec_lald hC hK (hx.2.1 9 (by decide)) (6 * mnF M + 1) (ix_t (f := mnF M) (i := 4) (k := 3) (by decide)) (by omega) (by omega) dX6_makeFilter_116 ?_
      refine ec_topl (y := tpF (smA M j) 1) (by simp [setJ, vp_updL]) ?_
      refine lv_lmul hC.1 hC.2.1 dX6_makeFilter_117 ?_
      refine lv_ladd hC.1 hC.2.1 dX6_makeFilter_118 ?_
      refine lv_lstore (lv' := [(4, .long (((0 + ((Int32.toInt64 (M.2.1 4 ((4 * j + 1)))) * (tpF (smA M j) 3))) + ((Int32.toInt64 (M.2.1 4 ((4 * j + 2)))) * (tpF (smA M j) 2))) + ((Int32.toInt64 (M.2.1 4 ((4 * j + 3)))) * (tpF (smA M j) 1)))), (6, .int 3), (3, .int 4), (2, .int (M.2.1 4 ((4 * j)))), (0, .ref y), (1, .int (nI j))]) hC.1 hC.2.1 dX6_makeFilter_119 hl (by decide) rfl (fun ls hl => ?_)
      refine lv_iinc (v := 4) (lv' := [(6, .int 4), (4, .long (((0 + ((Int32.toInt64 (M.2.1 4 ((4 * j + 1)))) * (tpF (smA M j) 3))) + ((Int32.toInt64 (M.2.1 4 ((4 * j + 2)))) * (tpF (smA M j) 2))) + ((Int32.toInt64 (M.2.1 4 ((4 * j + 3)))) * (tpF (smA M j) 1)))), (3, .int 4), (2, .int (M.2.1 4 ((4 * j)))), (0, .ref y), (1, .int (nI j))]) hC.1 hC.2.1 dX6_makeFilter_121 hl (k := 1) rfl (by decide) (by decide) rfl (fun ls hl => ?_)
      refine lv_goto (tgt := 74) hC.1 hC.2.1 dX6_makeFilter_124 (by decide) ?_
      refine lv_iload hC.1 hC.2.1 dX6_makeFilter_74 (lv_at hl 0 rfl) ?_
      refine lv_iconst (v := 4) hC.1 hC.2.1 dX6_makeFilter_76 (by decide) ?_
      refine lv_icmp_ge (tgt := 127) hC.1 hC.2.1 dX6_makeFilter_77 (by decide) (fun _ => ?_) (fun c => absurd (by decide) c)
      refine lv_aload_n hC.1 hC.2.1 dX6_makeFilter_127 rfl (lv_at hl 4 rfl) ?_
      refine ec_get hC hK hx.1 fX6_41 rfl dX6_makeFilter_128 ?_
      refine lv_bipush (v := 6) hC.1 hC.2.1 dX6_makeFilter_131 (by decide) ?_
      refine lv_aload_n hC.1 hC.2.1 dX6_makeFilter_133 rfl (lv_at hl 4 rfl) ?_
      refine ec_get hC hK hx.1 fX6_87 rfl dX6_makeFilter_134 ?_
      refine lv_imul hC.1 hC.2.1 dX6_makeFilter_137 ?_
      refine lv_iload_n hC.1 hC.2.1 dX6_makeFilter_138 rfl (lv_at hl 2 rfl) ?_
      refine lv_iadd hC.1 hC.2.1 dX6_makeFilter_139 ?_
      refine lv_iload_n hC.1 hC.2.1 dX6_makeFilter_140 rfl (lv_at hl 2 rfl) ?_
      refine lv_if_ne (tgt := 149) hC.1 hC.2.1 dX6_makeFilter_141 (by decide) (fun _ => ?_) (fun c => absurd c (by decide))
      refine lv_iload_n hC.1 hC.2.1 dX6_makeFilter_149 rfl (lv_at hl 3 rfl) ?_
      refine lv_ineg hC.1 hC.2.1 dX6_makeFilter_150 ?_
      refine lv_i2l hC.1 hC.2.1 dX6_makeFilter_151 rfl ?_
      refine lv_lload hC.1 hC.2.1 dX6_makeFilter_152 (lv_at hl 1 rfl) ?_
      refine lv_lmul hC.1 hC.2.1 dX6_makeFilter_154 ?_
      refine ec_topl (y := tpF (smA M j) 4) rfl ?_
      refine ec_last hC hK hS (hx.2.1 9 (by decide)) (hx.2.2.2.2.2 9 (by decide)) (6 * mnF M + 4) (ix_ma 6 (mnF M) 4) (by omega) (by omega) dX6_makeFilter_155 (fun H locs h9 o9 z9 hS => ?_)
      have hx := rf_s9 (i := (6 * mnF M + 4)) (v := ((tpF (smA M j) 4))) hx h9 o9
      refine lv_iinc (v := 5) (lv' := [(3, .int 5), (6, .int 4), (4, .long (((0 + ((Int32.toInt64 (M.2.1 4 ((4 * j + 1)))) * (tpF (smA M j) 3))) + ((Int32.toInt64 (M.2.1 4 ((4 * j + 2)))) * (tpF (smA M j) 2))) + ((Int32.toInt64 (M.2.1 4 ((4 * j + 3)))) * (tpF (smA M j) 1)))), (2, .int (M.2.1 4 ((4 * j)))), (0, .ref y), (1, .int (nI j))]) hC.1 hC.2.1 dX6_makeFilter_156 hl (k := 2) rfl (by decide) (by decide) rfl (fun ls hl => ?_)
      refine lv_goto (tgt := 62) hC.1 hC.2.1 dX6_makeFilter_159 (by decide) ?_
      refine lv_iload_n hC.1 hC.2.1 dX6_makeFilter_62 rfl (lv_at hl 0 rfl) ?_
      refine lv_bipush (v := 6) hC.1 hC.2.1 dX6_makeFilter_63 (by decide) ?_
      refine lv_icmp_ge (tgt := 162) hC.1 hC.2.1 dX6_makeFilter_65 (by decide) (fun c => absurd c (by decide)) (fun _ => ?_)
      refine lv_lconst (v := 0) hC.1 hC.2.1 dX6_makeFilter_68 (by decide) ?_
      refine lv_lstore (lv' := [(4, .long 0), (3, .int 5), (6, .int 4), (2, .int (M.2.1 4 ((4 * j)))), (0, .ref y), (1, .int (nI j))]) hC.1 hC.2.1 dX6_makeFilter_69 hl (by decide) rfl (fun ls hl => ?_)
      refine lv_iconst (v := 1) hC.1 hC.2.1 dX6_makeFilter_71 (by decide) ?_
      refine lv_istore (lv' := [(6, .int 1), (4, .long 0), (3, .int 5), (2, .int (M.2.1 4 ((4 * j)))), (0, .ref y), (1, .int (nI j))]) hC.1 hC.2.1 dX6_makeFilter_72 hl (by decide) rfl (fun ls hl => ?_)
      refine lv_iload hC.1 hC.2.1 dX6_makeFilter_74 (lv_at hl 0 rfl) ?_
      refine lv_iconst (v := 4) hC.1 hC.2.1 dX6_makeFilter_76 (by decide) ?_
      refine lv_icmp_ge (tgt := 127) hC.1 hC.2.1 dX6_makeFilter_77 (by decide) (fun c => absurd c (by decide)) (fun _ => ?_)
      refine lv_iload hC.1 hC.2.1 dX6_makeFilter_80 (lv_at hl 0 rfl) ?_
      refine lv_iload_n hC.1 hC.2.1 dX6_makeFilter_82 rfl (lv_at hl 2 rfl) ?_
      refine lv_icmp_gt (tgt := 127) hC.1 hC.2.1 dX6_makeFilter_83 (by decide) (fun c => absurd c (by decide)) (fun _ => ?_)
      refine lv_lload hC.1 hC.2.1 dX6_makeFilter_86 (lv_at hl 1 rfl) ?_
      refine lv_aload_n hC.1 hC.2.1 dX6_makeFilter_88 rfl (lv_at hl 4 rfl) ?_
      refine ec_get hC hK hx.1 fX6_35 rfl dX6_makeFilter_89 ?_
      refine lv_iconst (v := 4) hC.1 hC.2.1 dX6_makeFilter_92 (by decide) ?_
      refine lv_iload_n hC.1 hC.2.1 dX6_makeFilter_93 rfl (lv_at hl 5 rfl) ?_
      refine lv_imul hC.1 hC.2.1 dX6_makeFilter_94 ?_
      refine lv_iload hC.1 hC.2.1 dX6_makeFilter_95 (lv_at hl 0 rfl) ?_
      refine lv_iadd hC.1 hC.2.1 dX6_makeFilter_97 ?_
      refine ec_iald hC hK (hx.2.1 7 (by decide)) (4 * j + 1) (ix_ma 4 j 1) (by omega) (by omega) dX6_makeFilter_98 ?_
      refine lv_i2l hC.1 hC.2.1 dX6_makeFilter_99 rfl ?_
      refine lv_aload_n hC.1 hC.2.1 dX6_makeFilter_100 rfl (lv_at hl 4 rfl) ?_
      refine ec_get hC hK hx.1 fX6_41 rfl dX6_makeFilter_101 ?_
      refine lv_bipush (v := 6) hC.1 hC.2.1 dX6_makeFilter_104 (by decide) ?_
      refine lv_aload_n hC.1 hC.2.1 dX6_makeFilter_106 rfl (lv_at hl 4 rfl) ?_
      refine ec_get hC hK hx.1 fX6_87 rfl dX6_makeFilter_107 ?_
      refine lv_imul hC.1 hC.2.1 dX6_makeFilter_110 ?_
      refine lv_iload_n hC.1 hC.2.1 dX6_makeFilter_111 rfl (lv_at hl 2 rfl) ?_
      refine lv_iadd hC.1 hC.2.1 dX6_makeFilter_112 ?_
      refine lv_iload hC.1 hC.2.1 dX6_makeFilter_113 (lv_at hl 0 rfl) ?_
      refine lv_isub hC.1 hC.2.1 dX6_makeFilter_115 ?_
      refine ec_lald hC hK (hx.2.1 9 (by decide)) (6 * mnF M + 4) (ix_t (f := mnF M) (i := 5) (k := 1) (by decide)) (by omega) (by omega) dX6_makeFilter_116 ?_
      refine ec_topl (y := tpF (smA M j) 4) (by simp [setJ, vp_updL]) ?_
      refine lv_lmul hC.1 hC.2.1 dX6_makeFilter_117 ?_
      refine lv_ladd hC.1 hC.2.1 dX6_makeFilter_118 ?_
      refine lv_lstore (lv' := [(4, .long (0 + ((Int32.toInt64 (M.2.1 4 ((4 * j + 1)))) * (tpF (smA M j) 4)))), (6, .int 1), (3, .int 5), (2, .int (M.2.1 4 ((4 * j)))), (0, .ref y), (1, .int (nI j))]) hC.1 hC.2.1 dX6_makeFilter_119 hl (by decide) rfl (fun ls hl => ?_)
      refine lv_iinc (v := 2) (lv' := [(6, .int 2), (4, .long (0 + ((Int32.toInt64 (M.2.1 4 ((4 * j + 1)))) * (tpF (smA M j) 4)))), (3, .int 5), (2, .int (M.2.1 4 ((4 * j)))), (0, .ref y), (1, .int (nI j))]) hC.1 hC.2.1 dX6_makeFilter_121 hl (k := 1) rfl (by decide) (by decide) rfl (fun ls hl => ?_)
      refine lv_goto (tgt := 74) hC.1 hC.2.1 dX6_makeFilter_124 (by decide) ?_
      refine lv_iload hC.1 hC.2.1 dX6_makeFilter_74 (lv_at hl 0 rfl) ?_
      refine lv_iconst (v := 4) hC.1 hC.2.1 dX6_makeFilter_76 (by decide) ?_
      refine lv_icmp_ge (tgt := 127) hC.1 hC.2.1 dX6_makeFilter_77 (by decide) (fun c => absurd c (by decide)) (fun _ => ?_)
      refine lv_iload hC.1 hC.2.1 dX6_makeFilter_80 (lv_at hl 0 rfl) ?_
      refine lv_iload_n hC.1 hC.2.1 dX6_makeFilter_82 rfl (lv_at hl 2 rfl) ?_
      refine lv_icmp_gt (tgt := 127) hC.1 hC.2.1 dX6_makeFilter_83 (by decide) (fun c => absurd c (by decide)) (fun _ => ?_)
      refine lv_lload hC.1 hC.2.1 dX6_makeFilter_86 (lv_at hl 1 rfl) ?_
      refine lv_aload_n hC.1 hC.2.1 dX6_makeFilter_88 rfl (lv_at hl 4 rfl) ?_
      refine ec_get hC hK hx.1 fX6_35 rfl dX6_makeFilter_89 ?_
      refine lv_iconst (v := 4) hC.1 hC.2.1 dX6_makeFilter_92 (by decide) ?_
      refine lv_iload_n hC.1 hC.2.1 dX6_makeFilter_93 rfl (lv_at hl 5 rfl) ?_
      refine lv_imul hC.1 hC.2.1 dX6_makeFilter_94 ?_
      refine lv_iload hC.1 hC.2.1 dX6_makeFilter_95 (lv_at hl 0 rfl) ?_
      refine lv_iadd hC.1 hC.2.1 dX6_makeFilter_97 ?_
      refine ec_iald hC hK (hx.2.1 7 (by decide)) (4 * j + 2) (ix_ma 4 j 2) (by omega) (by omega) dX6_makeFilter_98 ?_
      refine lv_i2l hC.1 hC.2.1 dX6_makeFilter_99 rfl ?_
      refine lv_aload_n hC.1 hC.2.1 dX6_makeFilter_100 rfl (lv_at hl 4 rfl) ?_
      refine ec_get hC hK hx.1 fX6_41 rfl dX6_makeFilter_101 ?_
      refine lv_bipush (v := 6) hC.1 hC.2.1 dX6_makeFilter_104 (by decide) ?_
      refine lv_aload_n hC.1 hC.2.1 dX6_makeFilter_106 rfl (lv_at hl 4 rfl) ?_
      refine ec_get hC hK hx.1 fX6_87 rfl dX6_makeFilter_107 ?_
      refine lv_imul hC.1 hC.2.1 dX6_makeFilter_110 ?_
      refine lv_iload_n hC.1 hC.2.1 dX6_makeFilter_111 rfl (lv_at hl 2 rfl) ?_
      refine lv_iadd hC.1 hC.2.1 dX6_makeFilter_112 ?_
      refine lv_iload hC.1 hC.2.1 dX6_makeFilter_113 (lv_at hl 0 rfl) ?_
      refine lv_isub hC.1 hC.2.1 dX6_makeFilter_115 ?_
      refine ec_lald hC hK (hx.2.1 9 (by decide)) (6 * mnF M + 3) (ix_t (f := mnF M) (i := 5) (k := 2) (by decide)) (by omega) (by omega) dX6_makeFilter_116 ?_
      refine ec_topl (y := tpF (smA M j) 3) (by simp [setJ, vp_updL]) ?_
      refine lv_lmul hC.1 hC.2.1 dX6_makeFilter_117 ?_
      refine lv_ladd hC.1 hC.2.1 dX6_makeFilter_118 ?_
      refine lv_lstore (lv' := [(4, .long ((0 + ((Int32.toInt64 (M.2.1 4 ((4 * j + 1)))) * (tpF (smA M j) 4))) + ((Int32.toInt64 (M.2.1 4 ((4 * j + 2)))) * (tpF (smA M j) 3)))), (6, .int 2), (3, .int 5), (2, .int (M.2.1 4 ((4 * j)))), (0, .ref y), (1, .int (nI j))]) hC.1 hC.2.1 dX6_makeFilter_119 hl (by decide) rfl (fun ls hl => ?_)
      refine lv_iinc (v := 3) (lv' := [(6, .int 3), (4, .long ((0 + ((Int32.toInt64 (M.2.1 4 ((4 * j + 1)))) * (tpF (smA M j) 4))) + ((Int32.toInt64 (M.2.1 4 ((4 * j + 2)))) * (tpF (smA M j) 3)))), (3, .int 5), (2, .int (M.2.1 4 ((4 * j)))), (0, .ref y), (1, .int (nI j))]) hC.1 hC.2.1 dX6_makeFilter_121 hl (k := 1) rfl (by decide) (by decide) rfl (fun ls hl => ?_)
      refine lv_goto (tgt := 74) hC.1 hC.2.1 dX6_makeFilter_124 (by decide) ?_
      refine lv_iload hC.1 hC.2.1 dX6_makeFilter_74 (lv_at hl 0 rfl) ?_
      refine lv_iconst (v := 4) hC.1 hC.2.1 dX6_makeFilter_76 (by decide) ?_
      refine lv_icmp_ge (tgt := 127) hC.1 hC.2.1 dX6_makeFilter_77 (by decide) (fun c => absurd c (by decide)) (fun _ => ?_)
      refine lv_iload hC.1 hC.2.1 dX6_makeFilter_80 (lv_at hl 0 rfl) ?_
      refine lv_iload_n hC.1 hC.2.1 dX6_makeFilter_82 rfl (lv_at hl 2 rfl) ?_
      refine lv_icmp_gt (tgt := 127) hC.1 hC.2.1 dX6_makeFilter_83 (by decide) (fun c => absurd c (by decide)) (fun _ => ?_)
      refine lv_lload hC.1 hC.2.1 dX6_makeFilter_86 (lv_at hl 1 rfl) ?_
      refine lv_aload_n hC.1 hC.2.1 dX6_makeFilter_88 rfl (lv_at hl 4 rfl) ?_
      refine ec_get hC hK hx.1 fX6_35 rfl dX6_makeFilter_89 ?_
      refine lv_iconst (v := 4) hC.1 hC.2.1 dX6_makeFilter_92 (by decide) ?_
      refine lv_iload_n hC.1 hC.2.1 dX6_makeFilter_93 rfl (lv_at hl 5 rfl) ?_
      refine lv_imul hC.1 hC.2.1 dX6_makeFilter_94 ?_
      refine lv_iload hC.1 hC.2.1 dX6_makeFilter_95 (lv_at hl 0 rfl) ?_
      refine lv_iadd hC.1 hC.2.1 dX6_makeFilter_97 ?_
      refine ec_iald hC hK (hx.2.1 7 (by decide)) (4 * j + 3) (ix_ma 4 j 3) (by omega) (by omega) dX6_makeFilter_98 ?_
      refine lv_i2l hC.1 hC.2.1 dX6_makeFilter_99 rfl ?_
      refine lv_aload_n hC.1 hC.2.1 dX6_makeFilter_100 rfl (lv_at hl 4 rfl) ?_
      refine ec_get hC hK hx.1 fX6_41 rfl dX6_makeFilter_101 ?_
      refine lv_bipush (v := 6) hC.1 hC.2.1 dX6_makeFilter_104 (by decide) ?_
      refine lv_aload_n hC.1 hC.2.1 dX6_makeFilter_106 rfl (lv_at hl 4 rfl) ?_
      refine ec_get hC hK hx.1 fX6_87 rfl dX6_makeFilter_107 ?_
      refine lv_imul hC.1 hC.2.1 dX6_makeFilter_110 ?_
      refine lv_iload_n hC.1 hC.2.1 dX6_makeFilter_111 rfl (lv_at hl 2 rfl) ?_
      refine lv_iadd hC.1 hC.2.1 dX6_makeFilter_112 ?_
      refine lv_iload hC.1 hC.2.1 dX6_makeFilter_113 (lv_at hl 0 rfl) ?_
      refine lv_isub hC.1 hC.2.1 dX6_makeFilter_115 ?_
      refine ec_lald hC hK (hx.2.1 9 (by decide)) (6 * mnF M + 2) (ix_t (f := mnF M) (i := 5) (k := 3) (by decide)) (by omega) (by omega) dX6_makeFilter_116 ?_
      refine ec_topl (y := tpF (smA M j) 2) (by simp [setJ, vp_updL]) ?_
      refine lv_lmul hC.1 hC.2.1 dX6_makeFilter_117 ?_
      refine lv_ladd hC.1 hC.2.1 dX6_makeFilter_118 ?_
      refine lv_lstore (lv' := [(4, .long (((0 + ((Int32.toInt64 (M.2.1 4 ((4 * j + 1)))) * (tpF (smA M j) 4))) + ((Int32.toInt64 (M.2.1 4 ((4 * j + 2)))) * (tpF (smA M j) 3))) + ((Int32.toInt64 (M.2.1 4 ((4 * j + 3)))) * (tpF (smA M j) 2)))), (6, .int 3), (3, .int 5), (2, .int (M.2.1 4 ((4 * j)))), (0, .ref y), (1, .int (nI j))]) hC.1 hC.2.1 dX6_makeFilter_119 hl (by decide) rfl (fun ls hl => ?_)
      refine lv_iinc (v := 4) (lv' := [(6, .int 4), (4, .long (((0 + ((Int32.toInt64 (M.2.1 4 ((4 * j + 1)))) * (tpF (smA M j) 4))) + ((Int32.toInt64 (M.2.1 4 ((4 * j + 2)))) * (tpF (smA M j) 3))) + ((Int32.toInt64 (M.2.1 4 ((4 * j + 3)))) * (tpF (smA M j) 2)))), (3, .int 5), (2, .int (M.2.1 4 ((4 * j)))), (0, .ref y), (1, .int (nI j))]) hC.1 hC.2.1 dX6_makeFilter_121 hl (k := 1) rfl (by decide) (by decide) rfl (fun ls hl => ?_)
      refine lv_goto (tgt := 74) hC.1 hC.2.1 dX6_makeFilter_124 (by decide) ?_
      refine lv_iload hC.1 hC.2.1 dX6_makeFilter_74 (lv_at hl 0 rfl) ?_
      refine lv_iconst (v := 4) hC.1 hC.2.1 dX6_makeFilter_76 (by decide) ?_
      refine lv_icmp_ge (tgt := 127) hC.1 hC.2.1 dX6_makeFilter_77 (by decide) (fun _ => ?_) (fun c => absurd (by decide) c)
      refine lv_aload_n hC.1 hC.2.1 dX6_makeFilter_127 rfl (lv_at hl 4 rfl) ?_
      refine ec_get hC hK hx.1 fX6_41 rfl dX6_makeFilter_128 ?_
      refine lv_bipush (v := 6) hC.1 hC.2.1 dX6_makeFilter_131 (by decide) ?_
      refine lv_aload_n hC.1 hC.2.1 dX6_makeFilter_133 rfl (lv_at hl 4 rfl) ?_
      refine ec_get hC hK hx.1 fX6_87 rfl dX6_makeFilter_134 ?_
      refine lv_imul hC.1 hC.2.1 dX6_makeFilter_137 ?_
      refine lv_iload_n hC.1 hC.2.1 dX6_makeFilter_138 rfl (lv_at hl 2 rfl) ?_
      refine lv_iadd hC.1 hC.2.1 dX6_makeFilter_139 ?_
      refine lv_iload_n hC.1 hC.2.1 dX6_makeFilter_140 rfl (lv_at hl 2 rfl) ?_
      refine lv_if_ne (tgt := 149) hC.1 hC.2.1 dX6_makeFilter_141 (by decide) (fun _ => ?_) (fun c => absurd c (by decide))
      refine lv_iload_n hC.1 hC.2.1 dX6_makeFilter_149 rfl (lv_at hl 3 rfl) ?_
      refine lv_ineg hC.1 hC.2.1 dX6_makeFilter_150 ?_
      refine lv_i2l hC.1 hC.2.1 dX6_makeFilter_151 rfl ?_
      refine lv_lload hC.1 hC.2.1 dX6_makeFilter_152 (lv_at hl 1 rfl) ?_
      refine lv_lmul hC.1 hC.2.1 dX6_makeFilter_154 ?_
      refine ec_topl (y := tpF (smA M j) 5) rfl ?_
      refine ec_last hC hK hS (hx.2.1 9 (by decide)) (hx.2.2.2.2.2 9 (by decide)) (6 * mnF M + 5) (ix_ma 6 (mnF M) 5) (by omega) (by omega) dX6_makeFilter_155 (fun H locs h9 o9 z9 hS => ?_)
      have hx := rf_s9 (i := (6 * mnF M + 5)) (v := ((tpF (smA M j) 5))) hx h9 o9
      refine lv_iinc (v := 6) (lv' := [(3, .int 6), (6, .int 4), (4, .long (((0 + ((Int32.toInt64 (M.2.1 4 ((4 * j + 1)))) * (tpF (smA M j) 4))) + ((Int32.toInt64 (M.2.1 4 ((4 * j + 2)))) * (tpF (smA M j) 3))) + ((Int32.toInt64 (M.2.1 4 ((4 * j + 3)))) * (tpF (smA M j) 2)))), (2, .int (M.2.1 4 ((4 * j)))), (0, .ref y), (1, .int (nI j))]) hC.1 hC.2.1 dX6_makeFilter_156 hl (k := 2) rfl (by decide) (by decide) rfl (fun ls hl => ?_)
      refine lv_goto (tgt := 62) hC.1 hC.2.1 dX6_makeFilter_159 (by decide) ?_
      refine lv_iload_n hC.1 hC.2.1 dX6_makeFilter_62 rfl (lv_at hl 0 rfl) ?_
      refine lv_bipush (v := 6) hC.1 hC.2.1 dX6_makeFilter_63 (by decide) ?_
      refine lv_icmp_ge (tgt := 162) hC.1 hC.2.1 dX6_makeFilter_65 (by decide) (fun _ => ?_) (fun c => absurd (by decide) c)
      refine lv_aload_n hC.1 hC.2.1 dX6_makeFilter_162 rfl (lv_at hl 4 rfl) ?_
      refine lv_dup hC.1 hC.2.1 dX6_makeFilter_163 rfl ?_
      refine ec_get hC hK hx.1 fX6_87 rfl dX6_makeFilter_164 ?_
      refine lv_iconst (v := 1) hC.1 hC.2.1 dX6_makeFilter_167 (by decide) ?_
      refine lv_iadd hC.1 hC.2.1 dX6_makeFilter_168 ?_
      refine ec_topi (y := nI (mnF M + 1)) (nI_1 _) ?_
      refine ec_put hC hK hS hx.1 hx.2.2.2.2.1 fX6_87 rfl rfl rfl (Nat.le_of_ble_eq_true rfl) dX6_makeFilter_169 (fun H locs h9 o9 z9 hS => ?_)
      have hx := hx.put7 (j := 2) (v := (mnF M + 1)) h9 o9
      refine lv_aload_n hC.1 hC.2.1 dX6_makeFilter_172 rfl (lv_at hl 4 rfl) ?_
      refine ec_get hC hK hx.1 fX6_87 rfl dX6_makeFilter_173 ?_
      refine lv_iconst (v := 1) hC.1 hC.2.1 dX6_makeFilter_176 (by decide) ?_
      refine lv_isub hC.1 hC.2.1 dX6_makeFilter_177 ?_
      refine ec_topi (y := nI (mnF M)) (nI_p1 _) ?_
      exact W.iret hC.1 hC.2.1 hr (fun t9 ht9 _ => ⟨_, rfl, by rw [ht9]; exact ⟨_, rfl, fun _ => rfl, (by rw [if_pos hT, hjc]; exact hx)⟩, hS.F ht9⟩) hS.2.2 dX6_makeFilter_178
    · refine lv_iconst (v := 0) hC.1 hC.2.1 dX6_makeFilter_39 (by decide) ?_
      exact W.iret hC.1 hC.2.1 hr (fun t9 ht9 _ => ⟨_, rfl, by rw [ht9]; exact ⟨_, rfl, fun z => absurd z (fun z => c_36 (fz_0.mpr z)), (by rw [if_neg (fun z => c_36 (fz_0.mpr z))]; exact hx)⟩, hS.F ht9⟩) hS.2.2 dX6_makeFilter_40
  · refine lv_aload_n hC.1 hC.2.1 dX6_makeFilter_0 rfl (lv_at hl 0 rfl) ?_
    refine lv_iload_n hC.1 hC.2.1 dX6_makeFilter_1 rfl (lv_at hl 1 rfl) ?_
    refine lv_iconst (v := 0) hC.1 hC.2.1 dX6_makeFilter_2 (by decide) ?_
    refine lv_aload_n hC.1 hC.2.1 dX6_makeFilter_3 rfl (lv_at hl 0 rfl) ?_
    refine ec_get hC hK hx.1 fX6_84 rfl dX6_makeFilter_4 ?_
    refine lv_iconst (v := 1) hC.1 hC.2.1 dX6_makeFilter_7 (by decide) ?_
    refine lv_isub hC.1 hC.2.1 dX6_makeFilter_8 ?_
    refine ec_go1 (ec_rS hC (c_X6_in l G a 0 (nI (mnA M) - 1)) kX6_73 (hOk.at hS hAN) trivial hl.1 ⟨Nat.le_of_ble_eq_true rfl, Nat.le_of_ble_eq_true rfl⟩ rfl (Nat.le_of_ble_eq_true rfl) dX6_makeFilter_9 ⟨Nat.le_of_ble_eq_true rfl, Nat.le_of_ble_eq_true rfl⟩) ?_
    refine ec_topi (y := bI (ixB a (mnA M))) (by rw [rg_ix (by omega)]) ?_
    refine lv_if_ne (tgt := 19) hC.1 hC.2.1 dX6_makeFilter_12 (by decide) (fun c_12 => ?_) (fun c_12 => ?_)
    · refine lv_aload_n hC.1 hC.2.1 dX6_makeFilter_19 rfl (lv_at hl 0 rfl) ?_
      refine ec_get hC hK hx.1 fX6_87 rfl dX6_makeFilter_20 ?_
      refine lv_bipush (v := 20) hC.1 hC.2.1 dX6_makeFilter_23 (by decide) ?_
      refine lv_icmp_ne (tgt := 32) hC.1 hC.2.1 dX6_makeFilter_25 (by decide) (fun c_25 => ?_) (fun c_25 => ?_)
      · refine lv_iconst (v := 0) hC.1 hC.2.1 dX6_makeFilter_32 (by decide) ?_
        refine ec_topi (y := (nI (thMak M a))) (by rw [show thMak M a = 0 by simp [thMak, (bI_n0 _).mp c_12, (show ¬ mnF M = 20 from fun z => c_25 (by rw [z]; rfl))]]; rfl) ?_
        exact kj
      · refine lv_iconst (v := 2) hC.1 hC.2.1 dX6_makeFilter_28 (by decide) ?_
        refine lv_goto (tgt := 33) hC.1 hC.2.1 dX6_makeFilter_29 (by decide) ?_
        refine ec_topi (y := (nI (thMak M a))) (by rw [show thMak M a = 2 by simp [thMak, (bI_n0 _).mp c_12, ((nI_eq (a := mnF M) (b := 20) (by omega) (by decide)).mp c_25)]]; rfl) ?_
        exact kj
    · refine lv_iconst (v := 1) hC.1 hC.2.1 dX6_makeFilter_15 (by decide) ?_
      refine lv_goto (tgt := 33) hC.1 hC.2.1 dX6_makeFilter_16 (by decide) ?_
      refine ec_topi (y := (nI (thMak M a))) (by rw [show thMak M a = 1 by simp [thMak, (bI_0 _).mp c_12]]; rfl) ?_
      exact kj

theorem thUse_lt (M : ecM) (f x : Int32) : thUse M f x < 2 ^ 31 := ite_lt (ite_lt (ite_lt (by decide) (by decide)) (by decide)) (by decide)
theorem if_y0 {c : Prop} [Decidable c] {k : Nat} (h : (if c then 0 else k + 1) = 0) : c := Classical.byContradiction fun z => by rw [if_neg z] at h; cases h

set_option maxHeartbeats 4000000 in
set_option maxRecDepth 100000 in
/-- a filter is used -/
theorem c_X6_use (l : Launch) (G : ecG) (Y : Nat → Prop) (M : ecM) (th : Int32) (y : Nat) (ya : Nat → Nat) (hY : ∀ q, Y q → ecN0 G ≤ q) (hwf : WF M) (f x : Int32) : Met l yX6_use (ecWs yX6_use cX6_use 6 (Option.some FieldType.long)) (ecRm 5 0 0) (ecPc [.ref y, .int f, .int x] G (fun H => rfX G Y M th y ya H)) (ecEp (fun v H1 => ∃ w : Int64, v = some (.long w) ∧ (thUse M f x = 0 → w = gvS (tpA M (cN f)) (psU (psA M (cN f)) x) 6) ∧ rfX G Y (if thUse M f x = 0 then useM M (cN f) x else M) (nI (thUse M f x)) y ya H1) (Y)) 0 0 (Y) := by
  refine ec_met (by decide) (Nat.le_of_ble_eq_true rfl) ?_
  intro p e s m below meth c hC hr hlocks hname hOk hpre ls hl
  have hK := hOk.1
  have hx := hpre
  have hS : va_S (Y) s.heap s.heap [] := va_S.rf
  have hAN : ∀ q, (Y) q → ecN0 G ≤ q := hY
  have hl : lv_has ls 6 [(0, .ref y), (1, .int f), (2, .int x)] := hl
  have hn0 := hwf.n
  refine ec_join (pcj := 51) (stj := [.int (nI (thUse M f x)), .ref y]) ?_ (fun kj => ?_)
  · refine ec_goE1 (ec_rV hC (c_X6_fails l G Y M _ y ya (thUse M f x) (thUse_lt _ _ _) hY) kX6_81 (hOk.at hS hAN) hx (ec_rc hK hx.1 ⟨_, _, rfl⟩) hl.1 ⟨Nat.le_of_ble_eq_true rfl, Nat.le_of_ble_eq_true rfl⟩ rfl (Nat.le_of_ble_eq_true rfl) dX6_use_51 ⟨Nat.le_of_ble_eq_true rfl, Nat.le_of_ble_eq_true rfl⟩) hS (fun _ h => h) (fun H locs hx hz hk1 hS => ?_)
    refine lv_if_eq (tgt := 59) hC.1 hC.2.1 dX6_use_54 (by decide) (fun c_54 => ?_) (fun c_54 => ?_)
    · have hT : thUse M f x = 0 := fz_0.mp c_54
      obtain ⟨hix, h92⟩ := if_th (k := 0) hT
      obtain ⟨j, hj, rfl⟩ := ixB_t (by omega) hix
      have hjc : cN (nI j) = j := nI_clamp (by omega)
      refine lv_iconst (v := 5) hC.1 hC.2.1 dX6_use_59 (by decide) ?_
      refine lv_istore_n (lv' := [(3, .int 5), (0, .ref y), (1, .int (nI j)), (2, .int x)]) hC.1 hC.2.1 dX6_use_60 rfl hl (by decide) rfl (fun ls hl => ?_)
      refine lv_iload_n hC.1 hC.2.1 dX6_use_61 rfl (lv_at hl 0 rfl) ?_
      refine lv_if_le (tgt := 95) hC.1 hC.2.1 dX6_use_62 (by decide) (fun c => absurd c (by decide)) (fun _ => ?_)
      refine lv_aload_n hC.1 hC.2.1 dX6_use_65 rfl (lv_at hl 1 rfl) ?_
      refine ec_get hC hK hx.1 fX6_45 rfl dX6_use_66 ?_
      refine lv_bipush (v := 6) hC.1 hC.2.1 dX6_use_69 (by decide) ?_
      refine lv_iload_n hC.1 hC.2.1 dX6_use_71 rfl (lv_at hl 2 rfl) ?_
      refine lv_imul hC.1 hC.2.1 dX6_use_72 ?_
      refine lv_iload_n hC.1 hC.2.1 dX6_use_73 rfl (lv_at hl 0 rfl) ?_
      refine lv_iadd hC.1 hC.2.1 dX6_use_74 ?_
      refine lv_aload_n hC.1 hC.2.1 dX6_use_75 rfl (lv_at hl 1 rfl) ?_
      refine ec_get hC hK hx.1 fX6_45 rfl dX6_use_76 ?_
      refine lv_bipush (v := 6) hC.1 hC.2.1 dX6_use_79 (by decide) ?_
      refine lv_iload_n hC.1 hC.2.1 dX6_use_81 rfl (lv_at hl 2 rfl) ?_
      refine lv_imul hC.1 hC.2.1 dX6_use_82 ?_
      refine lv_iload_n hC.1 hC.2.1 dX6_use_83 rfl (lv_at hl 0 rfl) ?_
      refine lv_iadd hC.1 hC.2.1 dX6_use_84 ?_
      refine lv_iconst (v := 1) hC.1 hC.2.1 dX6_use_85 (by decide) ?_
      refine lv_isub hC.1 hC.2.1 dX6_use_86 ?_
      refine ec_iald hC hK (hx.2.1 10 (by decide)) (6 * j + 4) (ix_t (f := j) (i := 5) (k := 1) (by decide)) (by omega) (by omega) dX6_use_87 ?_
      refine ec_topi (y := M.2.1 5 (6 * j + 4)) (by simp [setI, up2]) ?_
      refine ec_iast hC hK hS (hx.2.1 10 (by decide)) (hx.2.2.2.2.2 10 (by decide)) (6 * j + 5) (ix_ma 6 j 5) (by omega) (by omega) dX6_use_88 (fun H locs h9 o9 z9 hS => ?_)
      have hx := rf_s10 (i := (6 * j + 5)) (v := ((M.2.1 5 (6 * j + 4)))) hx h9 o9
      refine lv_iinc (v := 4) (lv' := [(3, .int 4), (0, .ref y), (1, .int (nI j)), (2, .int x)]) hC.1 hC.2.1 dX6_use_89 hl (k := 0) rfl (by decide) (by decide) rfl (fun ls hl => ?_)
      refine lv_goto (tgt := 61) hC.1 hC.2.1 dX6_use_92 (by decide) ?_
      refine lv_iload_n hC.1 hC.2.1 dX6_use_61 rfl (lv_at hl 0 rfl) ?_
      refine lv_if_le (tgt := 95) hC.1 hC.2.1 dX6_use_62 (by decide) (fun c => absurd c (by decide)) (fun _ => ?_)
      refine lv_aload_n hC.1 hC.2.1 dX6_use_65 rfl (lv_at hl 1 rfl) ?_
      refine ec_get hC hK hx.1 fX6_45 rfl dX6_use_66 ?_
      refine lv_bipush (v := 6) hC.1 hC.2.1 dX6_use_69 (by decide) ?_
      refine lv_iload_n hC.1 hC.2.1 dX6_use_71 rfl (lv_at hl 2 rfl) ?_
      refine lv_imul hC.1 hC.2.1 dX6_use_72 ?_
      refine lv_iload_n hC.1 hC.2.1 dX6_use_73 rfl (lv_at hl 0 rfl) ?_
      refine lv_iadd hC.1 hC.2.1 dX6_use_74 ?_
      refine lv_aload_n hC.1 hC.2.1 dX6_use_75 rfl (lv_at hl 1 rfl) ?_
      refine ec_get hC hK hx.1 fX6_45 rfl dX6_use_76 ?_
      refine lv_bipush (v := 6) hC.1 hC.2.1 dX6_use_79 (by decide) ?_
      refine lv_iload_n hC.1 hC.2.1 dX6_use_81 rfl (lv_at hl 2 rfl) ?_
      refine lv_imul hC.1 hC.2.1 dX6_use_82 ?_
      refine lv_iload_n hC.1 hC.2.1 dX6_use_83 rfl (lv_at hl 0 rfl) ?_
      refine lv_iadd hC.1 hC.2.1 dX6_use_84 ?_
      refine lv_iconst (v := 1) hC.1 hC.2.1 dX6_use_85 (by decide) ?_
      refine lv_isub hC.1 hC.2.1 dX6_use_86 ?_
      refine ec_iald hC hK (hx.2.1 10 (by decide)) (6 * j + 3) (ix_t (f := j) (i := 4) (k := 1) (by decide)) (by omega) (by omega) dX6_use_87 ?_
      refine ec_topi (y := M.2.1 5 (6 * j + 3)) (by simp [setI, up2]) ?_
      refine ec_iast hC hK hS (hx.2.1 10 (by decide)) (hx.2.2.2.2.2 10 (by decide)) (6 * j + 4) (ix_ma 6 j 4) (by omega) (by omega) dX6_use_88 (fun H locs h9 o9 z9 hS => ?_)
      have hx := rf_s10 (i := (6 * j + 4)) (v := ((M.2.1 5 (6 * j + 3)))) hx h9 o9
      refine lv_iinc (v := 3) (lv' := [(3, .int 3), (0, .ref y), (1, .int (nI j)), (2, .int x)]) hC.1 hC.2.1 dX6_use_89 hl (k := 0) rfl (by decide) (by decide) rfl (fun ls hl => ?_)
      refine lv_goto (tgt := 61) hC.1 hC.2.1 dX6_use_92 (by decide) ?_
      refine lv_iload_n hC.1 hC.2.1 dX6_use_61 rfl (lv_at hl 0 rfl) ?_
      refine lv_if_le (tgt := 95) hC.1 hC.2.1 dX6_use_62 (by decide) (fun c => absurd c (by decide)) (fun _ => ?_)
      refine lv_aload_n hC.1 hC.2.1 dX6_use_65 rfl (lv_at hl 1 rfl) ?_
      refine ec_get hC hK hx.1 fX6_45 rfl dX6_use_66 ?_
      refine lv_bipush (v := 6) hC.1 hC.2.1 dX6_use_69 (by decide) ?_
      refine lv_iload_n hC.1 hC.2.1 dX6_use_71 rfl (lv_at hl 2 rfl) ?_
      refine lv_imul hC.1 hC.2.1 dX6_use_72 ?_
      refine lv_iload_n hC.1 hC.2.1 dX6_use_73 rfl (lv_at hl 0 rfl) ?_
      refine lv_iadd hC.1 hC.2.1 dX6_use_74 ?_
      refine lv_aload_n hC.1 hC.2.1 dX6_use_75 rfl (lv_at hl 1 rfl) ?_
      refine ec_get hC hK hx.1 fX6_45 rfl dX6_use_76 ?_
      refine lv_bipush (v := 6) hC.1 hC.2.1 dX6_use_79 (by decide) ?_
      refine lv_iload_n hC.1 hC.2.1 dX6_use_81 rfl (lv_at hl 2 rfl) ?_
      refine lv_imul hC.1 hC.2.1 dX6_use_82 ?_
      refine lv_iload_n hC.1 hC.2.1 dX6_use_83 rfl (lv_at hl 0 rfl) ?_
      refine lv_iadd hC.1 hC.2.1 dX6_use_84 ?_
      refine lv_iconst (v := 1) hC.1 hC.2.1 dX6_use_85 (by decide) ?_
      refine lv_isub hC.1 hC.2.1 dX6_use_86 ?_
      refine ec_iald hC hK (hx.2.1 10 (by decide)) (6 * j + 2) (ix_t (f := j) (i := 3) (k := 1) (by decide)) (by omega) (by omega) dX6_use_87 ?_
      refine ec_topi (y := M.2.1 5 (6 * j + 2)) (by simp [setI, up2]) ?_
      refine ec_iast hC hK hS (hx.2.1 10 (by decide)) (hx.2.2.2.2.2 10 (by decide)) (6 * j + 3) (ix_ma 6 j 3) (by omega) (by omega) dX6_use_88 (fun H locs h9 o9 z9 hS => ?_)
      have hx := rf_s10 (i := (6 * j + 3)) (v := ((M.2.1 5 (6 * j + 2)))) hx h9 o9
      refine lv_iinc (v := 2) (lv' := [(3, .int 2), (0, .ref y), (1, .int (nI j)), (2, .int x)]) hC.1 hC.2.1 dX6_use_89 hl (k := 0) rfl (by decide) (by decide) rfl (fun ls hl => ?_)
      refine lv_goto (tgt := 61) hC.1 hC.2.1 dX6_use_92 (by decide) ?_
      refine lv_iload_n hC.1 hC.2.1 dX6_use_61 rfl (lv_at hl 0 rfl) ?_
      refine lv_if_le (tgt := 95) hC.1 hC.2.1 dX6_use_62 (by decide) (fun c => absurd c (by decide)) (fun _ => ?_)
      refine lv_aload_n hC.1 hC.2.1 dX6_use_65 rfl (lv_at hl 1 rfl) ?_
      refine ec_get hC hK hx.1 fX6_45 rfl dX6_use_66 ?_
      refine lv_bipush (v := 6) hC.1 hC.2.1 dX6_use_69 (by decide) ?_
      refine lv_iload_n hC.1 hC.2.1 dX6_use_71 rfl (lv_at hl 2 rfl) ?_
      refine lv_imul hC.1 hC.2.1 dX6_use_72 ?_
      refine lv_iload_n hC.1 hC.2.1 dX6_use_73 rfl (lv_at hl 0 rfl) ?_
      refine lv_iadd hC.1 hC.2.1 dX6_use_74 ?_
      refine lv_aload_n hC.1 hC.2.1 dX6_use_75 rfl (lv_at hl 1 rfl) ?_
      refine ec_get hC hK hx.1 fX6_45 rfl dX6_use_76 ?_
      refine lv_bipush (v := 6) hC.1 hC.2.1 dX6_use_79 (by decide) ?_
      refine lv_iload_n hC.1 hC.2.1 dX6_use_81 rfl (lv_at hl 2 rfl) ?_
      refine lv_imul hC.1 hC.2.1 dX6_use_82 ?_
      refine lv_iload_n hC.1 hC.2.1 dX6_use_83 rfl (lv_at hl 0 rfl) ?_
      refine lv_iadd hC.1 hC.2.1 dX6_use_84 ?_
      refine lv_iconst (v := 1) hC.1 hC.2.1 dX6_use_85 (by decide) ?_
      refine lv_isub hC.1 hC.2.1 dX6_use_86 ?_
      refine ec_iald hC hK (hx.2.1 10 (by decide)) (6 * j + 1) (ix_t (f := j) (i := 2) (k := 1) (by decide)) (by omega) (by omega) dX6_use_87 ?_
      refine ec_topi (y := M.2.1 5 (6 * j + 1)) (by simp [setI, up2]) ?_
      refine ec_iast hC hK hS (hx.2.1 10 (by decide)) (hx.2.2.2.2.2 10 (by decide)) (6 * j + 2) (ix_ma 6 j 2) (by omega) (by omega) dX6_use_88 (fun H locs h9 o9 z9 hS => ?_)
      have hx := rf_s10 (i := (6 * j + 2)) (v := ((M.2.1 5 (6 * j + 1)))) hx h9 o9
      refine lv_iinc (v := 1) (lv' := [(3, .int 1), (0, .ref y), (1, .int (nI j)), (2, .int x)]) hC.1 hC.2.1 dX6_use_89 hl (k := 0) rfl (by decide) (by decide) rfl (fun ls hl => ?_)
      refine lv_goto (tgt := 61) hC.1 hC.2.1 dX6_use_92 (by decide) ?_
      refine lv_iload_n hC.1 hC.2.1 dX6_use_61 rfl (lv_at hl 0 rfl) ?_
      refine lv_if_le (tgt := 95) hC.1 hC.2.1 dX6_use_62 (by decide) (fun c => absurd c (by decide)) (fun _ => ?_)
      refine lv_aload_n hC.1 hC.2.1 dX6_use_65 rfl (lv_at hl 1 rfl) ?_
      refine ec_get hC hK hx.1 fX6_45 rfl dX6_use_66 ?_
      refine lv_bipush (v := 6) hC.1 hC.2.1 dX6_use_69 (by decide) ?_
      refine lv_iload_n hC.1 hC.2.1 dX6_use_71 rfl (lv_at hl 2 rfl) ?_
      refine lv_imul hC.1 hC.2.1 dX6_use_72 ?_
      refine lv_iload_n hC.1 hC.2.1 dX6_use_73 rfl (lv_at hl 0 rfl) ?_
      refine lv_iadd hC.1 hC.2.1 dX6_use_74 ?_
      refine lv_aload_n hC.1 hC.2.1 dX6_use_75 rfl (lv_at hl 1 rfl) ?_
      refine ec_get hC hK hx.1 fX6_45 rfl dX6_use_76 ?_
      refine lv_bipush (v := 6) hC.1 hC.2.1 dX6_use_79 (by decide) ?_
      refine lv_iload_n hC.1 hC.2.1 dX6_use_81 rfl (lv_at hl 2 rfl) ?_
      refine lv_imul hC.1 hC.2.1 dX6_use_82 ?_
      refine lv_iload_n hC.1 hC.2.1 dX6_use_83 rfl (lv_at hl 0 rfl) ?_
      refine lv_iadd hC.1 hC.2.1 dX6_use_84 ?_
      refine lv_iconst (v := 1) hC.1 hC.2.1 dX6_use_85 (by decide) ?_
      refine lv_isub hC.1 hC.2.1 dX6_use_86 ?_
      refine ec_iald hC hK (hx.2.1 10 (by decide)) (6 * j + 0) (ix_t (f := j) (i := 1) (k := 1) (by decide)) (by omega) (by omega) dX6_use_87 ?_
      refine ec_topi (y := M.2.1 5 (6 * j)) (by simp [setI, up2]) ?_
      refine ec_iast hC hK hS (hx.2.1 10 (by decide)) (hx.2.2.2.2.2 10 (by decide)) (6 * j + 1) (ix_ma 6 j 1) (by omega) (by omega) dX6_use_88 (fun H locs h9 o9 z9 hS => ?_)
      have hx := rf_s10 (i := (6 * j + 1)) (v := ((M.2.1 5 (6 * j)))) hx h9 o9
      refine lv_iinc (v := 0) (lv' := [(3, .int 0), (0, .ref y), (1, .int (nI j)), (2, .int x)]) hC.1 hC.2.1 dX6_use_89 hl (k := 0) rfl (by decide) (by decide) rfl (fun ls hl => ?_)
      refine lv_goto (tgt := 61) hC.1 hC.2.1 dX6_use_92 (by decide) ?_
      refine lv_iload_n hC.1 hC.2.1 dX6_use_61 rfl (lv_at hl 0 rfl) ?_
      refine lv_if_le (tgt := 95) hC.1 hC.2.1 dX6_use_62 (by decide) (fun _ => ?_) (fun c => absurd (by decide) c)
      refine lv_aload_n hC.1 hC.2.1 dX6_use_95 rfl (lv_at hl 1 rfl) ?_
      refine ec_get hC hK hx.1 fX6_45 rfl dX6_use_96 ?_
      refine lv_bipush (v := 6) hC.1 hC.2.1 dX6_use_99 (by decide) ?_
      refine lv_iload_n hC.1 hC.2.1 dX6_use_101 rfl (lv_at hl 2 rfl) ?_
      refine lv_imul hC.1 hC.2.1 dX6_use_102 ?_
      refine lv_iload_n hC.1 hC.2.1 dX6_use_103 rfl (lv_at hl 3 rfl) ?_
      refine ec_iast hC hK hS (hx.2.1 10 (by decide)) (hx.2.2.2.2.2 10 (by decide)) (6 * j) (ix_m 6 j) (by omega) (by omega) dX6_use_104 (fun H locs h9 o9 z9 hS => ?_)
      have hx := rf_s10 (i := (6 * j)) (v := x) hx h9 o9
      refine lv_aload_n hC.1 hC.2.1 dX6_use_105 rfl (lv_at hl 1 rfl) ?_
      refine ec_get hC hK hx.1 fX6_48 rfl dX6_use_106 ?_
      refine lv_iload_n hC.1 hC.2.1 dX6_use_109 rfl (lv_at hl 2 rfl) ?_
      refine lv_dup2_11 hC.1 hC.2.1 dX6_use_110 rfl rfl ?_
      refine ec_iald hC hK (hx.2.1 11 (by decide)) j rfl (by omega) (by omega) dX6_use_111 ?_
      refine lv_iconst (v := 1) hC.1 hC.2.1 dX6_use_112 (by decide) ?_
      refine lv_iadd hC.1 hC.2.1 dX6_use_113 ?_
      refine ec_iast hC hK hS (hx.2.1 11 (by decide)) (hx.2.2.2.2.2 11 (by decide)) j rfl (by omega) (by omega) dX6_use_114 (fun H locs h9 o9 z9 hS => ?_)
      have hx := rf_s11 (i := j) (v := ((M.2.1 6 j + 1))) hx h9 o9
      refine lv_lconst (v := 0) hC.1 hC.2.1 dX6_use_115 (by decide) ?_
      refine lv_lstore_n (lv' := [(3, .long 0), (0, .ref y), (1, .int (nI j)), (2, .int x)]) hC.1 hC.2.1 dX6_use_116 rfl hl (by decide) rfl (fun ls hl => ?_)
      refine lv_iconst (v := 0) hC.1 hC.2.1 dX6_use_117 (by decide) ?_
      refine lv_istore (lv' := [(5, .int 0), (3, .long 0), (0, .ref y), (1, .int (nI j)), (2, .int x)]) hC.1 hC.2.1 dX6_use_118 hl (by decide) rfl (fun ls hl => ?_)
      refine lv_iload hC.1 hC.2.1 dX6_use_120 (lv_at hl 0 rfl) ?_
      refine lv_bipush (v := 6) hC.1 hC.2.1 dX6_use_122 (by decide) ?_
      refine lv_icmp_ge (tgt := 162) hC.1 hC.2.1 dX6_use_124 (by decide) (fun c => absurd c (by decide)) (fun _ => ?_)
      refine lv_lload_n hC.1 hC.2.1 dX6_use_127 rfl (lv_at hl 1 rfl) ?_
      refine lv_aload_n hC.1 hC.2.1 dX6_use_128 rfl (lv_at hl 2 rfl) ?_
      refine ec_get hC hK hx.1 fX6_41 rfl dX6_use_129 ?_
      refine lv_bipush (v := 6) hC.1 hC.2.1 dX6_use_132 (by decide) ?_
      refine lv_iload_n hC.1 hC.2.1 dX6_use_134 rfl (lv_at hl 3 rfl) ?_
      refine lv_imul hC.1 hC.2.1 dX6_use_135 ?_
      refine lv_iload hC.1 hC.2.1 dX6_use_136 (lv_at hl 0 rfl) ?_
      refine lv_iadd hC.1 hC.2.1 dX6_use_138 ?_
      refine ec_lald hC hK (hx.2.1 9 (by decide)) (6 * j + 0) (ix_ma 6 j 0) (by omega) (by omega) dX6_use_139 ?_
      refine lv_aload_n hC.1 hC.2.1 dX6_use_140 rfl (lv_at hl 2 rfl) ?_
      refine ec_get hC hK hx.1 fX6_45 rfl dX6_use_141 ?_
      refine lv_bipush (v := 6) hC.1 hC.2.1 dX6_use_144 (by decide) ?_
      refine lv_iload_n hC.1 hC.2.1 dX6_use_146 rfl (lv_at hl 3 rfl) ?_
      refine lv_imul hC.1 hC.2.1 dX6_use_147 ?_
      refine lv_iload hC.1 hC.2.1 dX6_use_148 (lv_at hl 0 rfl) ?_
      refine lv_iadd hC.1 hC.2.1 dX6_use_150 ?_
      refine ec_iald hC hK (hx.2.1 10 (by decide)) (6 * j + 0) (ix_ma 6 j 0) (by omega) (by omega) dX6_use_151 ?_
      refine ec_topi (y := psU (psA M j) x 0) (by simp [setI, up2, psU] <;> rfl) ?_
      refine lv_i2l hC.1 hC.2.1 dX6_use_152 rfl ?_
      refine lv_lmul hC.1 hC.2.1 dX6_use_153 ?_
      refine lv_ladd hC.1 hC.2.1 dX6_use_154 ?_
      refine ec_topl (y := gvS (tpA M j) (psU (psA M j) x) 1) rfl ?_
      refine lv_lstore_n (lv' := [(3, .long (gvS (tpA M j) (psU (psA M j) x) 1)), (5, .int 0), (0, .ref y), (1, .int (nI j)), (2, .int x)]) hC.1 hC.2.1 dX6_use_155 rfl hl (by decide) rfl (fun ls hl => ?_)
      refine lv_iinc (v := 1) (lv' := [(5, .int 1), (3, .long (gvS (tpA M j) (psU (psA M j) x) 1)), (0, .ref y), (1, .int (nI j)), (2, .int x)]) hC.1 hC.2.1 dX6_use_156 hl (k := 1) rfl (by decide) (by decide) rfl (fun ls hl => ?_)
      refine lv_goto (tgt := 120) hC.1 hC.2.1 dX6_use_159 (by decide) ?_
      refine lv_iload hC.1 hC.2.1 dX6_use_120 (lv_at hl 0 rfl) ?_
      refine lv_bipush (v := 6) hC.1 hC.2.1 dX6_use_122 (by decide) ?_
      refine lv_icmp_ge (tgt := 162) hC.1 hC.2.1 dX6_use_124 (by decide) (fun c => absurd c (by decide)) (fun _ => ?_)
      refine lv_lload_n hC.1 hC.2.1 dX6_use_127 rfl (lv_at hl 1 rfl) ?_
      refine lv_aload_n hC.1 hC.2.1 dX6_use_128 rfl (lv_at hl 2 rfl) ?_
      refine ec_get hC hK hx.1 fX6_41 rfl dX6_use_129 ?_
      refine lv_bipush (v := 6) hC.1 hC.2.1 dX6_use_132 (by decide) ?_
      refine lv_iload_n hC.1 hC.2.1 dX6_use_134 rfl (lv_at hl 3 rfl) ?_
      refine lv_imul hC.1 hC.2.1 dX6_use_135 ?_
      refine lv_iload hC.1 hC.2.1 dX6_use_136 (lv_at hl 0 rfl) ?_
      refine lv_iadd hC.1 hC.2.1 dX6_use_138 ?_
      refine ec_lald hC hK (hx.2.1 9 (by decide)) (6 * j + 1) (ix_ma 6 j 1) (by omega) (by omega) dX6_use_139 ?_
      refine lv_aload_n hC.1 hC.2.1 dX6_use_140 rfl (lv_at hl 2 rfl) ?_
      refine ec_get hC hK hx.1 fX6_45 rfl dX6_use_141 ?_
      refine lv_bipush (v := 6) hC.1 hC.2.1 dX6_use_144 (by decide) ?_
      refine lv_iload_n hC.1 hC.2.1 dX6_use_146 rfl (lv_at hl 3 rfl) ?_
      refine lv_imul hC.1 hC.2.1 dX6_use_147 ?_
      refine lv_iload hC.1 hC.2.1 dX6_use_148 (lv_at hl 0 rfl) ?_
      refine lv_iadd hC.1 hC.2.1 dX6_use_150 ?_
      refine ec_iald hC hK (hx.2.1 10 (by decide)) (6 * j + 1) (ix_ma 6 j 1) (by omega) (by omega) dX6_use_151 ?_
      refine ec_topi (y := psU (psA M j) x 1) (by simp [setI, up2, psU] <;> rfl) ?_
      refine lv_i2l hC.1 hC.2.1 dX6_use_152 rfl ?_
      refine lv_lmul hC.1 hC.2.1 dX6_use_153 ?_
      refine lv_ladd hC.1 hC.2.1 dX6_use_154 ?_
      refine ec_topl (y := gvS (tpA M j) (psU (psA M j) x) 2) rfl ?_
      refine lv_lstore_n (lv' := [(3, .long (gvS (tpA M j) (psU (psA M j) x) 2)), (5, .int 1), (0, .ref y), (1, .int (nI j)), (2, .int x)]) hC.1 hC.2.1 dX6_use_155 rfl hl (by decide) rfl (fun ls hl => ?_)
      refine lv_iinc (v := 2) (lv' := [(5, .int 2), (3, .long (gvS (tpA M j) (psU (psA M j) x) 2)), (0, .ref y), (1, .int (nI j)), (2, .int x)]) hC.1 hC.2.1 dX6_use_156 hl (k := 1) rfl (by decide) (by decide) rfl (fun ls hl => ?_)
      refine lv_goto (tgt := 120) hC.1 hC.2.1 dX6_use_159 (by decide) ?_
      refine lv_iload hC.1 hC.2.1 dX6_use_120 (lv_at hl 0 rfl) ?_
      refine lv_bipush (v := 6) hC.1 hC.2.1 dX6_use_122 (by decide) ?_
      refine lv_icmp_ge (tgt := 162) hC.1 hC.2.1 dX6_use_124 (by decide) (fun c => absurd c (by decide)) (fun _ => ?_)
      refine lv_lload_n hC.1 hC.2.1 dX6_use_127 rfl (lv_at hl 1 rfl) ?_
      refine lv_aload_n hC.1 hC.2.1 dX6_use_128 rfl (lv_at hl 2 rfl) ?_
      refine ec_get hC hK hx.1 fX6_41 rfl dX6_use_129 ?_
      refine lv_bipush (v := 6) hC.1 hC.2.1 dX6_use_132 (by decide) ?_
      refine lv_iload_n hC.1 hC.2.1 dX6_use_134 rfl (lv_at hl 3 rfl) ?_
      refine lv_imul hC.1 hC.2.1 dX6_use_135 ?_
      refine lv_iload hC.1 hC.2.1 dX6_use_136 (lv_at hl 0 rfl) ?_
      refine lv_iadd hC.1 hC.2.1 dX6_use_138 ?_
      refine ec_lald hC hK (hx.2.1 9 (by decide)) (6 * j + 2) (ix_ma 6 j 2) (by omega) (by omega) dX6_use_139 ?_
      refine lv_aload_n hC.1 hC.2.1 dX6_use_140 rfl (lv_at hl 2 rfl) ?_
      refine ec_get hC hK hx.1 fX6_45 rfl dX6_use_141 ?_
      refine lv_bipush (v := 6) hC.1 hC.2.1 dX6_use_144 (by decide) ?_
      refine lv_iload_n hC.1 hC.2.1 dX6_use_146 rfl (lv_at hl 3 rfl) ?_
      refine lv_imul hC.1 hC.2.1 dX6_use_147 ?_
      refine lv_iload hC.1 hC.2.1 dX6_use_148 (lv_at hl 0 rfl) ?_
      refine lv_iadd hC.1 hC.2.1 dX6_use_150 ?_
      refine ec_iald hC hK (hx.2.1 10 (by decide)) (6 * j + 2) (ix_ma 6 j 2) (by omega) (by omega) dX6_use_151 ?_
      refine ec_topi (y := psU (psA M j) x 2) (by simp [setI, up2, psU] <;> rfl) ?_
      refine lv_i2l hC.1 hC.2.1 dX6_use_152 rfl ?_
      refine lv_lmul hC.1 hC.2.1 dX6_use_153 ?_
      refine lv_ladd hC.1 hC.2.1 dX6_use_154 ?_
      refine ec_topl (y := gvS (tpA M j) (psU (psA M j) x) 3) rfl ?_
      refine lv_lstore_n (lv' := [(3, .long (gvS (tpA M j) (psU (psA M j) x) 3)), (5, .int 2), (0, .ref y), (1, .int (nI j)), (2, .int x)]) hC.1 hC.2.1 dX6_use_155 rfl hl (by decide) rfl (fun ls hl => ?_)
      refine lv_iinc (v := 3) (lv' := [(5, .int 3), (3, .long (gvS (tpA M j) (psU (psA M j) x) 3)), (0, .ref y), (1, .int (nI j)), (2, .int x)]) hC.1 hC.2.1 dX6_use_156 hl (k := 1) rfl (by decide) (by decide) rfl (fun ls hl => ?_)
      refine lv_goto (tgt := 120) hC.1 hC.2.1 dX6_use_159 (by decide) ?_
      refine lv_iload hC.1 hC.2.1 dX6_use_120 (lv_at hl 0 rfl) ?_
      refine lv_bipush (v := 6) hC.1 hC.2.1 dX6_use_122 (by decide) ?_
      refine lv_icmp_ge (tgt := 162) hC.1 hC.2.1 dX6_use_124 (by decide) (fun c => absurd c (by decide)) (fun _ => ?_)
      refine lv_lload_n hC.1 hC.2.1 dX6_use_127 rfl (lv_at hl 1 rfl) ?_
      refine lv_aload_n hC.1 hC.2.1 dX6_use_128 rfl (lv_at hl 2 rfl) ?_
      refine ec_get hC hK hx.1 fX6_41 rfl dX6_use_129 ?_
      refine lv_bipush (v := 6) hC.1 hC.2.1 dX6_use_132 (by decide) ?_
      refine lv_iload_n hC.1 hC.2.1 dX6_use_134 rfl (lv_at hl 3 rfl) ?_
      refine lv_imul hC.1 hC.2.1 dX6_use_135 ?_
      refine lv_iload hC.1 hC.2.1 dX6_use_136 (lv_at hl 0 rfl) ?_
      refine lv_iadd hC.1 hC.2.1 dX6_use_138 ?_
      refine ec_lald hC hK (hx.2.1 9 (by decide)) (6 * j + 3) (ix_ma 6 j 3) (by omega) (by omega) dX6_use_139 ?_
      refine lv_aload_n hC.1 hC.2.1 dX6_use_140 rfl (lv_at hl 2 rfl) ?_
      refine ec_get hC hK hx.1 fX6_45 rfl dX6_use_141 ?_
      refine lv_bipush (v := 6) hC.1 hC.2.1 dX6_use_144 (by decide) ?_
      refine lv_iload_n hC.1 hC.2.1 dX6_use_146 rfl (lv_at hl 3 rfl) ?_
      refine lv_imul hC.1 hC.2.1 dX6_use_147 ?_
      refine lv_iload hC.1 hC.2.1 dX6_use_148 (lv_at hl 0 rfl) ?_
      refine lv_iadd hC.1 hC.2.1 dX6_use_150 ?_
      refine ec_iald hC hK (hx.2.1 10 (by decide)) (6 * j + 3) (ix_ma 6 j 3) (by omega) (by omega) dX6_use_151 ?_
      refine ec_topi (y := psU (psA M j) x 3) (by simp [setI, up2, psU] <;> rfl) ?_
      refine lv_i2l hC.1 hC.2.1 dX6_use_152 rfl ?_
      refine lv_lmul hC.1 hC.2.1 dX6_use_153 ?_
      refine lv_ladd hC.1 hC.2.1 dX6_use_154 ?_
      refine ec_topl (y := gvS (tpA M j) (psU (psA M j) x) 4) rfl ?_
      refine lv_lstore_n (lv' := [(3, .long (gvS (tpA M j) (psU (psA M j) x) 4)), (5, .int 3), (0, .ref y), (1, .int (nI j)), (2, .int x)]) hC.1 hC.2.1 dX6_use_155 rfl hl (by decide) rfl (fun ls hl => ?_)
      refine lv_iinc (v := 4) (lv' := [(5, .int 4), (3, .long (gvS (tpA M j) (psU (psA M j) x) 4)), (0, .ref y), (1, .int (nI j)), (2, .int x)]) hC.1 hC.2.1 dX6_use_156 hl (k := 1) rfl (by decide) (by decide) rfl (fun ls hl => ?_)
      refine lv_goto (tgt := 120) hC.1 hC.2.1 dX6_use_159 (by decide) ?_
      refine lv_iload hC.1 hC.2.1 dX6_use_120 (lv_at hl 0 rfl) ?_
      refine lv_bipush (v := 6) hC.1 hC.2.1 dX6_use_122 (by decide) ?_
      refine lv_icmp_ge (tgt := 162) hC.1 hC.2.1 dX6_use_124 (by decide) (fun c => absurd c (by decide)) (fun _ => ?_)
      refine lv_lload_n hC.1 hC.2.1 dX6_use_127 rfl (lv_at hl 1 rfl) ?_
      refine lv_aload_n hC.1 hC.2.1 dX6_use_128 rfl (lv_at hl 2 rfl) ?_
      refine ec_get hC hK hx.1 fX6_41 rfl dX6_use_129 ?_
      refine lv_bipush (v := 6) hC.1 hC.2.1 dX6_use_132 (by decide) ?_
      refine lv_iload_n hC.1 hC.2.1 dX6_use_134 rfl (lv_at hl 3 rfl) ?_
      refine lv_imul hC.1 hC.2.1 dX6_use_135 ?_
      refine lv_iload hC.1 hC.2.1 dX6_use_136 (lv_at hl 0 rfl) ?_
      refine lv_iadd hC.1 hC.2.1 dX6_use_138 ?_
      refine ec_lald hC hK (hx.2.1 9 (by decide)) (6 * j + 4) (ix_ma 6 j 4) (by omega) (by omega) dX6_use_139 ?_
      refine lv_aload_n hC.1 hC.2.1 dX6_use_140 rfl (lv_at hl 2 rfl) ?_
      refine ec_get hC hK hx.1 fX6_45 rfl dX6_use_141 ?_
      refine lv_bipush (v := 6) hC.1 hC.2.1 dX6_use_144 (by decide) ?_
      refine lv_iload_n hC.1 hC.2.1 dX6_use_146 rfl (lv_at hl 3 rfl) ?_
      refine lv_imul hC.1 hC.2.1 dX6_use_147 ?_
      refine lv_iload hC.1 hC.2.1 dX6_use_148 (lv_at hl 0 rfl) ?_
      refine lv_iadd hC.1 hC.2.1 dX6_use_150 ?_
      refine ec_iald hC hK (hx.2.1 10 (by decide)) (6 * j + 4) (ix_ma 6 j 4) (by omega) (by omega) dX6_use_151 ?_
      refine ec_topi (y := psU (psA M j) x 4) (by simp [setI, up2, psU] <;> rfl) ?_
      refine lv_i2l hC.1 hC.2.1 dX6_use_152 rfl ?_
      refine lv_lmul hC.1 hC.2.1 dX6_use_153 ?_
      refine lv_ladd hC.1 hC.2.1 dX6_use_154 ?_
      refine ec_topl (y := gvS (tpA M j) (psU (psA M j) x) 5) rfl ?_
      refine lv_lstore_n (lv' := [(3, .long (gvS (tpA M j) (psU (psA M j) x) 5)), (5, .int 4), (0, .ref y), (1, .int (nI j)), (2, .int x)]) hC.1 hC.2.1 dX6_use_155 rfl hl (by decide) rfl (fun ls hl => ?_)
      refine lv_iinc (v := 5) (lv' := [(5, .int 5), (3, .long (gvS (tpA M j) (psU (psA M j) x) 5)), (0, .ref y), (1, .int (nI j)), (2, .int x)]) hC.1 hC.2.1 dX6_use_156 hl (k := 1) rfl (by decide) (by decide) rfl (fun ls hl => ?_)
      refine lv_goto (tgt := 120) hC.1 hC.2.1 dX6_use_159 (by decide) ?_
      refine lv_iload hC.1 hC.2.1 dX6_use_120 (lv_at hl 0 rfl) ?_
      refine lv_bipush (v := 6) hC.1 hC.2.1 dX6_use_122 (by decide) ?_
      refine lv_icmp_ge (tgt := 162) hC.1 hC.2.1 dX6_use_124 (by decide) (fun c => absurd c (by decide)) (fun _ => ?_)
      refine lv_lload_n hC.1 hC.2.1 dX6_use_127 rfl (lv_at hl 1 rfl) ?_
      refine lv_aload_n hC.1 hC.2.1 dX6_use_128 rfl (lv_at hl 2 rfl) ?_
      refine ec_get hC hK hx.1 fX6_41 rfl dX6_use_129 ?_
      refine lv_bipush (v := 6) hC.1 hC.2.1 dX6_use_132 (by decide) ?_
      refine lv_iload_n hC.1 hC.2.1 dX6_use_134 rfl (lv_at hl 3 rfl) ?_
      refine lv_imul hC.1 hC.2.1 dX6_use_135 ?_
      refine lv_iload hC.1 hC.2.1 dX6_use_136 (lv_at hl 0 rfl) ?_
      refine lv_iadd hC.1 hC.2.1 dX6_use_138 ?_
      refine ec_lald hC hK (hx.2.1 9 (by decide)) (6 * j + 5) (ix_ma 6 j 5) (by omega) (by omega) dX6_use_139 ?_
      refine lv_aload_n hC.1 hC.2.1 dX6_use_140 rfl (lv_at hl 2 rfl) ?_
      refine ec_get hC hK hx.1 fX6_45 rfl dX6_use_141 ?_
      refine lv_bipush (v := 6) hC.1 hC.2.1 dX6_use_144 (by decide) ?_
      refine lv_iload_n hC.1 hC.2.1 dX6_use_146 rfl (lv_at hl 3 rfl) ?_
      refine lv_imul hC.1 hC.2.1 dX6_use_147 ?_
      refine lv_iload hC.1 hC.2.1 dX6_use_148 (lv_at hl 0 rfl) ?_
      refine lv_iadd hC.1 hC.2.1 dX6_use_150 ?_
      refine ec_iald hC hK (hx.2.1 10 (by decide)) (6 * j + 5) (ix_ma 6 j 5) (by omega) (by omega) dX6_use_151 ?_
      refine ec_topi (y := psU (psA M j) x 5) (by simp [setI, up2, psU] <;> rfl) ?_
      refine lv_i2l hC.1 hC.2.1 dX6_use_152 rfl ?_
      refine lv_lmul hC.1 hC.2.1 dX6_use_153 ?_
      refine lv_ladd hC.1 hC.2.1 dX6_use_154 ?_
      refine ec_topl (y := gvS (tpA M j) (psU (psA M j) x) 6) rfl ?_
      refine lv_lstore_n (lv' := [(3, .long (gvS (tpA M j) (psU (psA M j) x) 6)), (5, .int 5), (0, .ref y), (1, .int (nI j)), (2, .int x)]) hC.1 hC.2.1 dX6_use_155 rfl hl (by decide) rfl (fun ls hl => ?_)
      refine lv_iinc (v := 6) (lv' := [(5, .int 6), (3, .long (gvS (tpA M j) (psU (psA M j) x) 6)), (0, .ref y), (1, .int (nI j)), (2, .int x)]) hC.1 hC.2.1 dX6_use_156 hl (k := 1) rfl (by decide) (by decide) rfl (fun ls hl => ?_)
      refine lv_goto (tgt := 120) hC.1 hC.2.1 dX6_use_159 (by decide) ?_
      refine lv_iload hC.1 hC.2.1 dX6_use_120 (lv_at hl 0 rfl) ?_
      refine lv_bipush (v := 6) hC.1 hC.2.1 dX6_use_122 (by decide) ?_
      refine lv_icmp_ge (tgt := 162) hC.1 hC.2.1 dX6_use_124 (by decide) (fun _ => ?_) (fun c => absurd (by decide) c)
      refine lv_lload_n hC.1 hC.2.1 dX6_use_162 rfl (lv_at hl 1 rfl) ?_
      exact W.lret hC.1 hC.2.1 hr (fun t9 ht9 _ => ⟨_, rfl, by rw [ht9]; exact ⟨_, rfl, fun _ => (by rw [hjc]), (by rw [if_pos hT, hjc]; exact hx)⟩, hS.F ht9⟩) hS.2.2 dX6_use_163
    · refine lv_lconst (v := 0) hC.1 hC.2.1 dX6_use_57 (by decide) ?_
      exact W.lret hC.1 hC.2.1 hr (fun t9 ht9 _ => ⟨_, rfl, by rw [ht9]; exact ⟨_, rfl, fun z => absurd z (fun z => c_54 (fz_0.mpr z)), (by rw [if_neg (fun z => c_54 (fz_0.mpr z))]; exact hx)⟩, hS.F ht9⟩) hS.2.2 dX6_use_58
  · refine lv_aload_n hC.1 hC.2.1 dX6_use_0 rfl (lv_at hl 0 rfl) ?_
    refine lv_iload_n hC.1 hC.2.1 dX6_use_1 rfl (lv_at hl 1 rfl) ?_
    refine lv_iconst (v := 0) hC.1 hC.2.1 dX6_use_2 (by decide) ?_
    refine lv_aload_n hC.1 hC.2.1 dX6_use_3 rfl (lv_at hl 0 rfl) ?_
    refine ec_get hC hK hx.1 fX6_87 rfl dX6_use_4 ?_
    refine lv_iconst (v := 1) hC.1 hC.2.1 dX6_use_7 (by decide) ?_
    refine lv_isub hC.1 hC.2.1 dX6_use_8 ?_
    refine ec_go1 (ec_rS hC (c_X6_in l G f 0 (nI (mnF M) - 1)) kX6_73 (hOk.at hS hAN) trivial hl.1 ⟨Nat.le_of_ble_eq_true rfl, Nat.le_of_ble_eq_true rfl⟩ rfl (Nat.le_of_ble_eq_true rfl) dX6_use_9 ⟨Nat.le_of_ble_eq_true rfl, Nat.le_of_ble_eq_true rfl⟩) ?_
    refine ec_topi (y := bI (ixB f (mnF M))) (by rw [rg_ix (by omega)]) ?_
    refine lv_if_ne (tgt := 19) hC.1 hC.2.1 dX6_use_12 (by decide) (fun c_12 => ?_) (fun c_12 => ?_)
    · refine lv_iload_n hC.1 hC.2.1 dX6_use_19 rfl (lv_at hl 2 rfl) ?_
      refine lv_sipush (v := -999) hC.1 hC.2.1 dX6_use_20 (by decide) ?_
      refine lv_sipush (v := 999) hC.1 hC.2.1 dX6_use_23 (by decide) ?_
      refine ec_go1 (ec_rS hC (c_X6_in l G x (-999) 999) kX6_73 (hOk.at hS hAN) trivial hl.1 ⟨Nat.le_of_ble_eq_true rfl, Nat.le_of_ble_eq_true rfl⟩ rfl (Nat.le_of_ble_eq_true rfl) dX6_use_26 ⟨Nat.le_of_ble_eq_true rfl, Nat.le_of_ble_eq_true rfl⟩) ?_
      refine lv_if_ne (tgt := 36) hC.1 hC.2.1 dX6_use_29 (by decide) (fun c_29 => ?_) (fun c_29 => ?_)
      · obtain ⟨j, hj, hfj⟩ := ixB_t (n := mnF M) (by omega) ((bI_n0 _).mp c_12)
        refine lv_aload_n hC.1 hC.2.1 dX6_use_36 rfl (lv_at hl 0 rfl) ?_
        refine lv_iload_n hC.1 hC.2.1 dX6_use_37 rfl (lv_at hl 1 rfl) ?_
        refine ec_topi (y := nI j) hfj ?_
        have hjc : cN f = j := by rw [hfj]; exact nI_clamp (by omega)
        refine ec_go1 (ec_rV hC (c_X6_barOf l G Y M th y ya hwf j hj) kX6_125 (hOk.at hS hAN) hx (ec_rc hK hx.1 ⟨_, _, rfl⟩) hl.1 ⟨Nat.le_of_ble_eq_true rfl, Nat.le_of_ble_eq_true rfl⟩ rfl (Nat.le_of_ble_eq_true rfl) dX6_use_38 ⟨Nat.le_of_ble_eq_true rfl, Nat.le_of_ble_eq_true rfl⟩) ?_
        refine lv_bipush (v := 45) hC.1 hC.2.1 dX6_use_41 (by decide) ?_
        refine lv_icmp_ne (tgt := 50) hC.1 hC.2.1 dX6_use_43 (by decide) (fun c_43 => ?_) (fun c_43 => ?_)
        · refine lv_iconst (v := 3) hC.1 hC.2.1 dX6_use_50 (by decide) ?_
          refine ec_topi (y := (nI (thUse M f x))) (by rw [show thUse M f x = 3 by simp [thUse, (bI_n0 _).mp c_12, (bI_n0 _).mp c_29, c_43, hjc]]; rfl) ?_
          exact kj
        · refine lv_iconst (v := 0) hC.1 hC.2.1 dX6_use_46 (by decide) ?_
          refine lv_goto (tgt := 51) hC.1 hC.2.1 dX6_use_47 (by decide) ?_
          refine ec_topi (y := (nI (thUse M f x))) (by rw [show thUse M f x = 0 by simp [thUse, (bI_n0 _).mp c_12, (bI_n0 _).mp c_29, c_43, hjc]]; rfl) ?_
          exact kj
      · refine lv_iconst (v := 2) hC.1 hC.2.1 dX6_use_32 (by decide) ?_
        refine lv_goto (tgt := 51) hC.1 hC.2.1 dX6_use_33 (by decide) ?_
        refine ec_topi (y := (nI (thUse M f x))) (by rw [show thUse M f x = 2 by simp [thUse, (bI_n0 _).mp c_12, (bI_0 _).mp c_29]]; rfl) ?_
        exact kj
    · refine lv_iconst (v := 1) hC.1 hC.2.1 dX6_use_15 (by decide) ?_
      refine lv_goto (tgt := 51) hC.1 hC.2.1 dX6_use_16 (by decide) ?_
      refine ec_topi (y := (nI (thUse M f x))) (by rw [show thUse M f x = 1 by simp [thUse, (bI_0 _).mp c_12]]; rfl) ?_
      exact kj
