set_option maxHeartbeats 4000000 in
set_option maxRecDepth 100000 in
/-- measure -/
theorem c_X5_measure (l : Launch) (hls : l.stackTraces = false) (G : ecG) (X : Nat → Prop) (M : ecM) (x : Nat) (r pl a b c0 d : Int32) : vx_Met l yX5_measure (ecWs yX5_measure cX5_measure 10 (Option.some FieldType.int)) (ecRm 9 8 150) (ecPc [.ref x, .int r, .int pl, .int a, .int b, .int c0, .int d] G (fun H => ecXs G X H ∧ EC G X M x H)) (ecEp (fun v H1 => v = some (.int (nI (mnA M))) ∧ thMes M r pl a b c0 d = 0 ∧ EC G X (mesM M (cN r) pl a b c0 d) x H1) (X)) (ecXc (fun E => (E, thMes M r pl a b c0 d) ∈ [(eIX, 1), (eAG, 2), (eIS, 3)])) 8 150 (X) := by
  refine ec_xmet (by decide) (Nat.le_of_ble_eq_true rfl) ?_
  intro p e s m below meth c hC hr hlocks hnx hOk hpre ls hl
  have hK := hOk.1
  obtain ⟨hXs, hEC⟩ := hpre
  have hS : va_S (X) s.heap s.heap [] := va_S.rf
  have hkp : ecKp s.heap s.heap := ecKp.rf
  have hAN : ∀ q, (X) q → ecN0 G ≤ q := hXs.1
  have hl : lv_has ls 10 [(0, .ref x), (1, .int r), (2, .int pl), (3, .int a), (4, .int b), (5, .int c0), (6, .int d)] := hl
  obtain ⟨tg, ad, rfl, hw⟩ := hEC
  have hn0 := hw.wf.n
  have hA : ecKp s.heap s.heap := ecKp.rf
  refine lv_aload_n hC.1 hC.2.1 dX5_measure_0 rfl (lv_at hl 0 rfl) ?_
  refine lv_iload_n hC.1 hC.2.1 dX5_measure_1 rfl (lv_at hl 1 rfl) ?_
  refine ec_goXj (ec_xV hC (c_X5_roomAt l hls G X M tg ad r) kX5_57 (hOk.at hS hAN) hw (ec_rc hK hw.1.1 ⟨_, _, rfl⟩) hl.1 ⟨Nat.le_of_ble_eq_true rfl, Nat.le_of_ble_eq_true rfl⟩ rfl (Nat.le_of_ble_eq_true rfl) dX5_measure_2 ⟨Nat.le_of_ble_eq_true rfl, Nat.le_of_ble_eq_true rfl⟩) hS (fun E9 ce9 q9 H9 hx hk9 hS9 h1 h2 h3 => ec_out hnx hlocks (ecx (by unfold thMes; rw [hx.2]; rfl) hx.1 (.head _)) (hkp.tr hk9) hS9 h1 h2 h3 (Nat.le_of_ble_eq_true rfl) (Nat.le_of_ble_eq_true rfl)) (fun j hj => ?_)
  obtain ⟨hj, rfl⟩ := hj
  have hjc : cN (nI j) = j := nI_clamp (by have := hw.wf.n; omega)
  refine lv_astore (lv' := [(7, .ref (ad 3 j)), (0, .ref (ad 0 0)), (1, .int (nI j)), (2, .int pl), (3, .int a), (4, .int b), (5, .int c0), (6, .int d)]) hC.1 hC.2.1 dX5_measure_5 hl (by decide) rfl (fun ls hl => ?_)
  refine lv_iload_n hC.1 hC.2.1 dX5_measure_7 rfl (lv_at hl 3 rfl) ?_
  refine ec_goX0 (ec_xS hC (c_X5_checkPlace l hls G pl) kX5_86 (hOk.at hS hAN) trivial hl.1 ⟨Nat.le_of_ble_eq_true rfl, Nat.le_of_ble_eq_true rfl⟩ rfl (Nat.le_of_ble_eq_true rfl) dX5_measure_8 ⟨Nat.le_of_ble_eq_true rfl, Nat.le_of_ble_eq_true rfl⟩) hS (fun E9 ce9 q9 H9 hx hk9 hS9 h1 h2 h3 => ec_out hnx hlocks (ecx (by unfold thMes smB; rw [if_pos (ixB_of (by have := hn0; omega) hj), hx.2, Bool.false_and, Bool.false_and, Bool.false_and, Bool.false_and]; rfl) hx.1 (.tail _ (.head _))) (hkp.tr hk9) hS9 h1 h2 h3 (Nat.le_of_ble_eq_true rfl) (Nat.le_of_ble_eq_true rfl)) (fun hpl => ?_)
  refine lv_iload_n hC.1 hC.2.1 dX5_measure_11 rfl (lv_at hl 4 rfl) ?_
  refine lv_iconst (v := 1) hC.1 hC.2.1 dX5_measure_12 (by decide) ?_
  refine lv_icmp_eq (tgt := 31) hC.1 hC.2.1 dX5_measure_13 (by decide) (fun c_13 => ?_) (fun c_13 => ?_)
  · have hab : (decide (a = 1) || decide (a = -1)) = true := by rw [decide_eq_true c_13]; rfl
    refine lv_iload hC.1 hC.2.1 dX5_measure_31 (lv_at hl 5 rfl) ?_
    refine ec_goX0 (ec_xS hC (c_X5_checkSample l hls G b) kX5_95 (hOk.at hS hAN) trivial hl.1 ⟨Nat.le_of_ble_eq_true rfl, Nat.le_of_ble_eq_true rfl⟩ rfl (Nat.le_of_ble_eq_true rfl) dX5_measure_33 ⟨Nat.le_of_ble_eq_true rfl, Nat.le_of_ble_eq_true rfl⟩) hS (fun E9 ce9 q9 H9 hx hk9 hS9 h1 h2 h3 => ec_out hnx hlocks (ecx (by unfold thMes smB; rw [if_pos (ixB_of (by have := hn0; omega) hj), hx.2, Bool.and_false, Bool.false_and, Bool.false_and]; rfl) hx.1 (.tail _ (.head _))) (hkp.tr hk9) hS9 h1 h2 h3 (Nat.le_of_ble_eq_true rfl) (Nat.le_of_ble_eq_true rfl)) (fun hsb => ?_)
    refine lv_iload hC.1 hC.2.1 dX5_measure_36 (lv_at hl 6 rfl) ?_
    refine ec_goX0 (ec_xS hC (c_X5_checkSample l hls G c0) kX5_95 (hOk.at hS hAN) trivial hl.1 ⟨Nat.le_of_ble_eq_true rfl, Nat.le_of_ble_eq_true rfl⟩ rfl (Nat.le_of_ble_eq_true rfl) dX5_measure_38 ⟨Nat.le_of_ble_eq_true rfl, Nat.le_of_ble_eq_true rfl⟩) hS (fun E9 ce9 q9 H9 hx hk9 hS9 h1 h2 h3 => ec_out hnx hlocks (ecx (by unfold thMes smB; rw [if_pos (ixB_of (by have := hn0; omega) hj), hx.2, Bool.and_false, Bool.false_and]; rfl) hx.1 (.tail _ (.head _))) (hkp.tr hk9) hS9 h1 h2 h3 (Nat.le_of_ble_eq_true rfl) (Nat.le_of_ble_eq_true rfl)) (fun hsc0 => ?_)
    refine lv_iload hC.1 hC.2.1 dX5_measure_41 (lv_at hl 7 rfl) ?_
    refine ec_goX0 (ec_xS hC (c_X5_checkSample l hls G d) kX5_95 (hOk.at hS hAN) trivial hl.1 ⟨Nat.le_of_ble_eq_true rfl, Nat.le_of_ble_eq_true rfl⟩ rfl (Nat.le_of_ble_eq_true rfl) dX5_measure_43 ⟨Nat.le_of_ble_eq_true rfl, Nat.le_of_ble_eq_true rfl⟩) hS (fun E9 ce9 q9 H9 hx hk9 hS9 h1 h2 h3 => ec_out hnx hlocks (ecx (by unfold thMes smB; rw [if_pos (ixB_of (by have := hn0; omega) hj), hx.2, Bool.and_false]; rfl) hx.1 (.tail _ (.head _))) (hkp.tr hk9) hS9 h1 h2 h3 (Nat.le_of_ble_eq_true rfl) (Nat.le_of_ble_eq_true rfl)) (fun hsd => ?_)
    refine lv_aload_n hC.1 hC.2.1 dX5_measure_46 rfl (lv_at hl 1 rfl) ?_
    refine ec_get hC hK hw.1.1 fX5_16 rfl dX5_measure_47 ?_
    have hsm : smB pl a b c0 d = true := by unfold smB; rw [hpl, hab, hsb, hsc0, hsd]; rfl
    obtain ⟨v0_z1, v1_z1, hL_z1⟩ := (hw.2.1 1 (by decide)).obj
    refine ec_go1 (ec_rV hC (c_Jx4a65c_size_8abf5 l G (ad 1 1) v0_z1 v1_z1 (nI (M.1 7 1))) kX5_32 (hOk.at hS hAN) hL_z1.1 (ec_rc hK hL_z1.1 ⟨_, _, rfl⟩) hl.1 ⟨Nat.le_of_ble_eq_true rfl, Nat.le_of_ble_eq_true rfl⟩ rfl (Nat.le_of_ble_eq_true rfl) dX5_measure_50 ⟨Nat.le_of_ble_eq_true rfl, Nat.le_of_ble_eq_true rfl⟩) ?_
    refine lv_istore (lv' := [(8, .int (nI (M.1 7 1))), (7, .ref (ad 3 j)), (0, .ref (ad 0 0)), (1, .int (nI j)), (2, .int pl), (3, .int a), (4, .int b), (5, .int c0), (6, .int d)]) hC.1 hC.2.1 dX5_measure_53 hl (by decide) rfl (fun ls hl => ?_)
    refine lv_iload hC.1 hC.2.1 dX5_measure_55 (lv_at hl 0 rfl) ?_
    refine lv_bipush (v := 40) hC.1 hC.2.1 dX5_measure_57 (by decide) ?_
    refine lv_icmp_lt (tgt := 72) hC.1 hC.2.1 dX5_measure_59 (by decide) (fun c_59 => ?_) (fun c_59 => ?_)
    · refine lv_iconst (v := 4) hC.1 hC.2.1 dX5_measure_72 (by decide) ?_
      have hn4 : mnA M < 40 := nI_less (b := 40) (by decide) (show mnA M < 2147483648 by omega) c_59
      refine ec_newI hC hK hS q451 4 rfl (by omega) (Nat.le_of_ble_eq_true rfl) (Nat.le_of_ble_eq_true rfl) dX5_measure_73 (fun sa H sa0 hsa hk0 hS hz0 => ?_)
      have hsz_sa : s.heap.size ≤ sa := by rw [sa0]; exact hA.1
      have hA := hA.tr hk0
      refine lv_dup hC.1 hC.2.1 dX5_measure_75 rfl ?_
      refine lv_iconst (v := 0) hC.1 hC.2.1 dX5_measure_76 (by decide) ?_
      refine lv_iload_n hC.1 hC.2.1 dX5_measure_77 rfl (lv_at hl 5 rfl) ?_
      refine ec_iast hC hK hS hsa (hXs.2 _ hsz_sa) 0 rfl (by omega) (by omega) dX5_measure_78 (fun H locs h9 o9 z9 hS => ?_)
      have hA := hA.st (A := fun q => q = sa) (Nat.le_of_eq z9.symm) (fun q _ hn => o9 q hn) (fun z h => by rw [h]; exact hsz_sa)
      have hsa : ecA G sa (eI G 4 (upd (fun _ => 0) 0 a)) H := h9
      refine lv_dup hC.1 hC.2.1 dX5_measure_79 rfl ?_
      refine lv_iconst (v := 1) hC.1 hC.2.1 dX5_measure_80 (by decide) ?_
      refine lv_iload hC.1 hC.2.1 dX5_measure_81 (lv_at hl 6 rfl) ?_
      refine ec_iast hC hK hS hsa (hXs.2 _ hsz_sa) 1 rfl (by omega) (by omega) dX5_measure_83 (fun H locs h9 o9 z9 hS => ?_)
      have hA := hA.st (A := fun q => q = sa) (Nat.le_of_eq z9.symm) (fun q _ hn => o9 q hn) (fun z h => by rw [h]; exact hsz_sa)
      have hsa : ecA G sa (eI G 4 (upd (upd (fun _ => 0) 0 a) 1 b)) H := h9
      refine lv_dup hC.1 hC.2.1 dX5_measure_84 rfl ?_
      refine lv_iconst (v := 2) hC.1 hC.2.1 dX5_measure_85 (by decide) ?_
      refine lv_iload hC.1 hC.2.1 dX5_measure_86 (lv_at hl 7 rfl) ?_
      refine ec_iast hC hK hS hsa (hXs.2 _ hsz_sa) 2 rfl (by omega) (by omega) dX5_measure_88 (fun H locs h9 o9 z9 hS => ?_)
      have hA := hA.st (A := fun q => q = sa) (Nat.le_of_eq z9.symm) (fun q _ hn => o9 q hn) (fun z h => by rw [h]; exact hsz_sa)
      have hsa : ecA G sa (eI G 4 (upd (upd (upd (fun _ => 0) 0 a) 1 b) 2 c0)) H := h9
      refine lv_dup hC.1 hC.2.1 dX5_measure_89 rfl ?_
      refine lv_iconst (v := 3) hC.1 hC.2.1 dX5_measure_90 (by decide) ?_
      refine lv_iload hC.1 hC.2.1 dX5_measure_91 (lv_at hl 8 rfl) ?_
      refine ec_iast hC hK hS hsa (hXs.2 _ hsz_sa) 3 rfl (by omega) (by omega) dX5_measure_93 (fun H locs h9 o9 z9 hS => ?_)
      have hA := hA.st (A := fun q => q = sa) (Nat.le_of_eq z9.symm) (fun q _ hn => o9 q hn) (fun z h => by rw [h]; exact hsz_sa)
      have hsa : ecA G sa (eI G 4 (upd (upd (upd (upd (fun _ => 0) 0 a) 1 b) 2 c0) 3 d)) H := h9
      have hsa := ecI_to (f2 := fun k => if k = 0 then a else if k = 1 then b else if k = 2 then c0 else d) hsa (lt_4 rfl rfl rfl rfl)
      refine lv_astore (lv' := [(9, .ref sa), (8, .int (nI (M.1 7 1))), (7, .ref (ad 3 j)), (0, .ref (ad 0 0)), (1, .int (nI j)), (2, .int pl), (3, .int a), (4, .int b), (5, .int c0), (6, .int d)]) hC.1 hC.2.1 dX5_measure_94 hl (by decide) rfl (fun ls hl => ?_)
      refine lv_aload_n hC.1 hC.2.1 dX5_measure_96 rfl (lv_at hl 3 rfl) ?_
      refine ec_get hC hK (hw.kp hA).1.1 fX5_16 rfl dX5_measure_97 ?_
      have hps : sa < H.size := hsa.lt
      refine ec_new hC hK hS cfX0 nX5_100 (fs := [.int 0, .null, .null, .int 0, .null, .int 0, .int 0]) (lt_s (lt_s (lt_s (lt_s (lt_s (lt_s (lt_s lt_0 rfl) rfl) rfl) rfl) rfl) rfl) rfl) (Nat.le_of_ble_eq_true rfl) (Nat.le_of_ble_eq_true rfl) dX5_measure_100 (fun q H q0 hq hk0 hS hz0 => ?_)
      have hsz_q : s.heap.size ≤ q := by rw [q0]; exact hA.1
      have hA := hA.tr hk0
      have hsa := hsa.kp hk0
      have hlt_q := hq.lt
      refine lv_dup hC.1 hC.2.1 dX5_measure_103 rfl ?_
      refine lv_iload hC.1 hC.2.1 dX5_measure_104 (lv_at hl 1 rfl) ?_
      refine lv_aload hC.1 hC.2.1 dX5_measure_106 (lv_at hl 2 rfl) ?_
      refine lv_iload_n hC.1 hC.2.1 dX5_measure_108 rfl (lv_at hl 5 rfl) ?_
      refine lv_aload hC.1 hC.2.1 dX5_measure_109 (lv_at hl 0 rfl) ?_
      refine lv_aload_n hC.1 hC.2.1 dX5_measure_111 rfl (lv_at hl 3 rfl) ?_
      refine ec_get hC hK (hw.kp hA).1.1 fX5_25 rfl dX5_measure_112 ?_
      refine ec_goE0 (ec_rI hC (c_X0_init l G q (ad 3 j) (ad 4 j) sa (nI (M.1 7 1)) pl (mhr M) (M.2.1 0 j) (by have h9 : ad 3 j < s.heap.size := (hw.ro hj).1.lt; omega)) kX5_102 (hOk.at hS hAN) ⟨hq, ((hw.kp hA).ro hj).1⟩ hl.1 ⟨Nat.le_of_ble_eq_true rfl, Nat.le_of_ble_eq_true rfl⟩ rfl (Nat.le_of_ble_eq_true rfl) dX5_measure_115 ⟨Nat.le_of_ble_eq_true rfl, Nat.le_of_ble_eq_true rfl⟩) hS (fun z h => by rw [h]; exact hXs.2 _ hsz_q) (fun H locs hq hz hk1 hS => ?_)
      have hA := hA.st hz hk1 (fun z h => by rw [h]; exact hsz_q)
      have hsa := hsa.kept (hk1 _ hsa.lt (fun z => by have : sa = q := z; omega))
      obtain ⟨da0, hlx, hda, hXd, hdl⟩ := (hw.2.1 1 (by decide)).lx2 hXs hA
      have hlo : ad 1 1 < s.heap.size := by obtain ⟨v0, v1, e1⟩ := (hw.2.1 1 (by decide)).obj; exact e1.1.lt
      have hXl : X (ad 1 1) := by obtain ⟨v0, v1, e1⟩ := (hw.2.1 1 (by decide)).obj; exact e1.2.2
      obtain ⟨lv0, lv1, hlob⟩ := hlx.obj
      have hlt_now := hq.lt
      refine ec_goE1 (ec_rV hC (c_add l G (ad 1 1) da0 q (M.1 7 1) H.size (ad (ecKd 1)) (hXs.1 _ hXl) (hXs.1 _ hXd) hdl (by have := hw.wf.n7; omega) (by omega) (fun i hi => hw.lne (by decide) (hw.2.2.2.1 i hi).1 (by omega))) kX5_53 (hOk.at hS hAN) ⟨rfl, hlx, fun i hi => ⟨_, _, _, _, _, rfl, by decide, ((hw.2.2.2.1 i hi).1).1.kp hA⟩, ⟨_, _, _, _, _, rfl, by decide, hq⟩⟩ (ec_rc hK hlob ⟨_, _, rfl⟩) hl.1 ⟨Nat.le_of_ble_eq_true rfl, Nat.le_of_ble_eq_true rfl⟩ rfl (Nat.le_of_ble_eq_true rfl) dX5_measure_118 ⟨Nat.le_of_ble_eq_true rfl, Nat.le_of_ble_eq_true rfl⟩) hS (fun z h => h.elim (fun h => by rw [h]; exact hXl) (fun h => h.elim (fun h => by rw [h]; exact hXd) (fun h => hXs.2 z (Nat.le_trans hA.1 h)))) (fun H locs hp hz hk1 hS => ?_)
      obtain ⟨da2, hd2, hlx⟩ := hp
      obtain ⟨hold, hnew, hda⟩ := hw.addk hXs (by decide) hA hda hXd hd2 hk1
      have hq := hq.kept (hnew _ hsz_q (by omega))
      have hsa := hsa.kept (hnew _ hsz_sa (by omega))
      refine lv_pop hC.1 hC.2.1 dX5_measure_121 rfl ?_
      refine lv_iload hC.1 hC.2.1 dX5_measure_122 (lv_at hl 1 rfl) ?_
      refine vx_ret ?_
      refine W.widen (k := 8) (n := 150) (Nat.le_of_ble_eq_true rfl) (Nat.le_of_ble_eq_true rfl) ?_
      exact W.iret hC.1 hC.2.1 hr (fun t9 ht9 _ => ⟨_, rfl, by rw [ht9]; exact (by
            obtain ⟨tg2, hw2⟩ := hw.addAns hXs hj hn4 hA.1 hlx hda hold hsz_sa hsz_q (by omega) (by omega) (by omega) hsa hq
            refine ⟨rfl, ?_, tg2, up2 (up2 (up2 (up2 ad 2 1 da2) 5 (mnA M) q) 6 (mnA M) (ad 4 j)) 7 (mnA M) sa, rfl, by rw [hjc]; exact hw2⟩
            unfold thMes
            rw [if_pos (ixB_of (by have := hn0; omega) hj), if_pos hsm, if_neg (Nat.ne_of_lt hn4)]), hS.F ht9⟩) hS.2.2 dX5_measure_124
    · exact ec_throw hC hls xX5_36 hOk hAN hS hkp (is := 98) (text := "there are 40 answers") (by decide) hl.1 hnx hlocks dX5_measure_62 dX5_measure_65 dX5_measure_66 dX5_measure_68 dX5_measure_71 (ecx (by unfold thMes; rw [if_pos (ixB_of (by have := hn0; omega) hj), if_pos hsm, if_pos (nI_full (a := mnA M) (b := 40) (by omega) (by decide) c_59)]) rfl (.tail _ (.tail _ (.head _)))) ⟨Nat.le_of_ble_eq_true rfl, Nat.le_of_ble_eq_true rfl, Nat.le_of_ble_eq_true rfl, Nat.le_of_ble_eq_true rfl⟩ (Nat.le_of_ble_eq_true rfl) (Nat.le_of_ble_eq_true rfl)
  · refine lv_iload_n hC.1 hC.2.1 dX5_measure_16 rfl (lv_at hl 4 rfl) ?_
    refine lv_iconst (v := -1) hC.1 hC.2.1 dX5_measure_17 (by decide) ?_
    refine lv_icmp_eq (tgt := 31) hC.1 hC.2.1 dX5_measure_18 (by decide) (fun c_18 => ?_) (fun c_18 => ?_)
    · have hab : (decide (a = 1) || decide (a = -1)) = true := by rw [decide_eq_true c_18, Bool.or_true]
      refine lv_iload hC.1 hC.2.1 dX5_measure_31 (lv_at hl 5 rfl) ?_
      refine ec_goX0 (ec_xS hC (c_X5_checkSample l hls G b) kX5_95 (hOk.at hS hAN) trivial hl.1 ⟨Nat.le_of_ble_eq_true rfl, Nat.le_of_ble_eq_true rfl⟩ rfl (Nat.le_of_ble_eq_true rfl) dX5_measure_33 ⟨Nat.le_of_ble_eq_true rfl, Nat.le_of_ble_eq_true rfl⟩) hS (fun E9 ce9 q9 H9 hx hk9 hS9 h1 h2 h3 => ec_out hnx hlocks (ecx (by unfold thMes smB; rw [if_pos (ixB_of (by have := hn0; omega) hj), hx.2, Bool.and_false, Bool.false_and, Bool.false_and]; rfl) hx.1 (.tail _ (.head _))) (hkp.tr hk9) hS9 h1 h2 h3 (Nat.le_of_ble_eq_true rfl) (Nat.le_of_ble_eq_true rfl)) (fun hsb => ?_)
      refine lv_iload hC.1 hC.2.1 dX5_measure_36 (lv_at hl 6 rfl) ?_
      refine ec_goX0 (ec_xS hC (c_X5_checkSample l hls G c0) kX5_95 (hOk.at hS hAN) trivial hl.1 ⟨Nat.le_of_ble_eq_true rfl, Nat.le_of_ble_eq_true rfl⟩ rfl (Nat.le_of_ble_eq_true rfl) dX5_measure_38 ⟨Nat.le_of_ble_eq_true rfl, Nat.le_of_ble_eq_true rfl⟩) hS (fun E9 ce9 q9 H9 hx hk9 hS9 h1 h2 h3 => ec_out hnx hlocks (ecx (by unfold thMes smB; rw [if_pos (ixB_of (by have := hn0; omega) hj), hx.2, Bool.and_false, Bool.false_and]; rfl) hx.1 (.tail _ (.head _))) (hkp.tr hk9) hS9 h1 h2 h3 (Nat.le_of_ble_eq_true rfl) (Nat.le_of_ble_eq_true rfl)) (fun hsc0 => ?_)
      refine lv_iload hC.1 hC.2.1 dX5_measure_41 (lv_at hl 7 rfl) ?_
      refine ec_goX0 (ec_xS hC (c_X5_checkSample l hls G d) kX5_95 (hOk.at hS hAN) trivial hl.1 ⟨Nat.le_of_ble_eq_true rfl, Nat.le_of_ble_eq_true rfl⟩ rfl (Nat.le_of_ble_eq_true rfl) dX5_measure_43 ⟨Nat.le_of_ble_eq_true rfl, Nat.le_of_ble_eq_true rfl⟩) hS (fun E9 ce9 q9 H9 hx hk9 hS9 h1 h2 h3 => ec_out hnx hlocks (ecx (by unfold thMes smB; rw [if_pos (ixB_of (by have := hn0; omega) hj), hx.2, Bool.and_false]; rfl) hx.1 (.tail _ (.head _))) (hkp.tr hk9) hS9 h1 h2 h3 (Nat.le_of_ble_eq_true rfl) (Nat.le_of_ble_eq_true rfl)) (fun hsd => ?_)
      refine lv_aload_n hC.1 hC.2.1 dX5_measure_46 rfl (lv_at hl 1 rfl) ?_
      refine ec_get hC hK hw.1.1 fX5_16 rfl dX5_measure_47 ?_
      have hsm : smB pl a b c0 d = true := by unfold smB; rw [hpl, hab, hsb, hsc0, hsd]; rfl
      obtain ⟨v0_z2, v1_z2, hL_z2⟩ := (hw.2.1 1 (by decide)).obj
      refine ec_go1 (ec_rV hC (c_Jx4a65c_size_8abf5 l G (ad 1 1) v0_z2 v1_z2 (nI (M.1 7 1))) kX5_32 (hOk.at hS hAN) hL_z2.1 (ec_rc hK hL_z2.1 ⟨_, _, rfl⟩) hl.1 ⟨Nat.le_of_ble_eq_true rfl, Nat.le_of_ble_eq_true rfl⟩ rfl (Nat.le_of_ble_eq_true rfl) dX5_measure_50 ⟨Nat.le_of_ble_eq_true rfl, Nat.le_of_ble_eq_true rfl⟩) ?_
      refine lv_istore (lv' := [(8, .int (nI (M.1 7 1))), (7, .ref (ad 3 j)), (0, .ref (ad 0 0)), (1, .int (nI j)), (2, .int pl), (3, .int a), (4, .int b), (5, .int c0), (6, .int d)]) hC.1 hC.2.1 dX5_measure_53 hl (by decide) rfl (fun ls hl => ?_)
      refine lv_iload hC.1 hC.2.1 dX5_measure_55 (lv_at hl 0 rfl) ?_
      refine lv_bipush (v := 40) hC.1 hC.2.1 dX5_measure_57 (by decide) ?_
      refine lv_icmp_lt (tgt := 72) hC.1 hC.2.1 dX5_measure_59 (by decide) (fun c_59 => ?_) (fun c_59 => ?_)
      · refine lv_iconst (v := 4) hC.1 hC.2.1 dX5_measure_72 (by decide) ?_
        have hn4 : mnA M < 40 := nI_less (b := 40) (by decide) (show mnA M < 2147483648 by omega) c_59
        refine ec_newI hC hK hS q451 4 rfl (by omega) (Nat.le_of_ble_eq_true rfl) (Nat.le_of_ble_eq_true rfl) dX5_measure_73 (fun sa H sa0 hsa hk0 hS hz0 => ?_)
        have hsz_sa : s.heap.size ≤ sa := by rw [sa0]; exact hA.1
        have hA := hA.tr hk0
        refine lv_dup hC.1 hC.2.1 dX5_measure_75 rfl ?_
        refine lv_iconst (v := 0) hC.1 hC.2.1 dX5_measure_76 (by decide) ?_
        refine lv_iload_n hC.1 hC.2.1 dX5_measure_77 rfl (lv_at hl 5 rfl) ?_
        refine ec_iast hC hK hS hsa (hXs.2 _ hsz_sa) 0 rfl (by omega) (by omega) dX5_measure_78 (fun H locs h9 o9 z9 hS => ?_)
        have hA := hA.st (A := fun q => q = sa) (Nat.le_of_eq z9.symm) (fun q _ hn => o9 q hn) (fun z h => by rw [h]; exact hsz_sa)
        have hsa : ecA G sa (eI G 4 (upd (fun _ => 0) 0 a)) H := h9
        refine lv_dup hC.1 hC.2.1 dX5_measure_79 rfl ?_
        refine lv_iconst (v := 1) hC.1 hC.2.1 dX5_measure_80 (by decide) ?_
        refine lv_iload hC.1 hC.2.1 dX5_measure_81 (lv_at hl 6 rfl) ?_
        refine ec_iast hC hK hS hsa (hXs.2 _ hsz_sa) 1 rfl (by omega) (by omega) dX5_measure_83 (fun H locs h9 o9 z9 hS => ?_)
        have hA := hA.st (A := fun q => q = sa) (Nat.le_of_eq z9.symm) (fun q _ hn => o9 q hn) (fun z h => by rw [h]; exact hsz_sa)
        have hsa : ecA G sa (eI G 4 (upd (upd (fun _ => 0) 0 a) 1 b)) H := h9
        refine lv_dup hC.1 hC.2.1 dX5_measure_84 rfl ?_
        refine lv_iconst (v := 2) hC.1 hC.2.1 dX5_measure_85 (by decide) ?_
        refine lv_iload hC.1 hC.2.1 dX5_measure_86 (lv_at hl 7 rfl) ?_
        refine ec_iast hC hK hS hsa (hXs.2 _ hsz_sa) 2 rfl (by omega) (by omega) dX5_measure_88 (fun H locs h9 o9 z9 hS => ?_)
        have hA := hA.st (A := fun q => q = sa) (Nat.le_of_eq z9.symm) (fun q _ hn => o9 q hn) (fun z h => by rw [h]; exact hsz_sa)
        have hsa : ecA G sa (eI G 4 (upd (upd (upd (fun _ => 0) 0 a) 1 b) 2 c0)) H := h9
        refine lv_dup hC.1 hC.2.1 dX5_measure_89 rfl ?_
        refine lv_iconst (v := 3) hC.1 hC.2.1 dX5_measure_90 (by decide) ?_
        refine lv_iload hC.1 hC.2.1 dX5_measure_91 (lv_at hl 8 rfl) ?_
        refine ec_iast hC hK hS hsa (hXs.2 _ hsz_sa) 3 rfl (by omega) (by omega) dX5_measure_93 (fun H locs h9 o9 z9 hS => ?_)
        have hA := hA.st (A := fun q => q = sa) (Nat.le_of_eq z9.symm) (fun q _ hn => o9 q hn) (fun z h => by rw [h]; exact hsz_sa)
        have hsa : ecA G sa (eI G 4 (upd (upd (upd (upd (fun _ => 0) 0 a) 1 b) 2 c0) 3 d)) H := h9
        have hsa := ecI_to (f2 := fun k => if k = 0 then a else if k = 1 then b else if k = 2 then c0 else d) hsa (lt_4 rfl rfl rfl rfl)
        refine lv_astore (lv' := [(9, .ref sa), (8, .int (nI (M.1 7 1))), (7, .ref (ad 3 j)), (0, .ref (ad 0 0)), (1, .int (nI j)), (2, .int pl), (3, .int a), (4, .int b), (5, .int c0), (6, .int d)]) hC.1 hC.2.1 dX5_measure_94 hl (by decide) rfl (fun ls hl => ?_)
        refine lv_aload_n hC.1 hC.2.1 dX5_measure_96 rfl (lv_at hl 3 rfl) ?_
        refine ec_get hC hK (hw.kp hA).1.1 fX5_16 rfl dX5_measure_97 ?_
        have hps : sa < H.size := hsa.lt
        refine ec_new hC hK hS cfX0 nX5_100 (fs := [.int 0, .null, .null, .int 0, .null, .int 0, .int 0]) (lt_s (lt_s (lt_s (lt_s (lt_s (lt_s (lt_s lt_0 rfl) rfl) rfl) rfl) rfl) rfl) rfl) (Nat.le_of_ble_eq_true rfl) (Nat.le_of_ble_eq_true rfl) dX5_measure_100 (fun q H q0 hq hk0 hS hz0 => ?_)
        have hsz_q : s.heap.size ≤ q := by rw [q0]; exact hA.1
        have hA := hA.tr hk0
        have hsa := hsa.kp hk0
        have hlt_q := hq.lt
        refine lv_dup hC.1 hC.2.1 dX5_measure_103 rfl ?_
        refine lv_iload hC.1 hC.2.1 dX5_measure_104 (lv_at hl 1 rfl) ?_
        refine lv_aload hC.1 hC.2.1 dX5_measure_106 (lv_at hl 2 rfl) ?_
        refine lv_iload_n hC.1 hC.2.1 dX5_measure_108 rfl (lv_at hl 5 rfl) ?_
        refine lv_aload hC.1 hC.2.1 dX5_measure_109 (lv_at hl 0 rfl) ?_
        refine lv_aload_n hC.1 hC.2.1 dX5_measure_111 rfl (lv_at hl 3 rfl) ?_
        refine ec_get hC hK (hw.kp hA).1.1 fX5_25 rfl dX5_measure_112 ?_
        refine ec_goE0 (ec_rI hC (c_X0_init l G q (ad 3 j) (ad 4 j) sa (nI (M.1 7 1)) pl (mhr M) (M.2.1 0 j) (by have h9 : ad 3 j < s.heap.size := (hw.ro hj).1.lt; omega)) kX5_102 (hOk.at hS hAN) ⟨hq, ((hw.kp hA).ro hj).1⟩ hl.1 ⟨Nat.le_of_ble_eq_true rfl, Nat.le_of_ble_eq_true rfl⟩ rfl (Nat.le_of_ble_eq_true rfl) dX5_measure_115 ⟨Nat.le_of_ble_eq_true rfl, Nat.le_of_ble_eq_true rfl⟩) hS (fun z h => by rw [h]; exact hXs.2 _ hsz_q) (fun H locs hq hz hk1 hS => ?_)
        have hA := hA.st hz hk1 (fun z h => by rw [h]; exact hsz_q)
        have hsa := hsa.kept (hk1 _ hsa.lt (fun z => by have : sa = q := z; omega))
        obtain ⟨da0, hlx, hda, hXd, hdl⟩ := (hw.2.1 1 (by decide)).lx2 hXs hA
        have hlo : ad 1 1 < s.heap.size := by obtain ⟨v0, v1, e1⟩ := (hw.2.1 1 (by decide)).obj; exact e1.1.lt
        have hXl : X (ad 1 1) := by obtain ⟨v0, v1, e1⟩ := (hw.2.1 1 (by decide)).obj; exact e1.2.2
        obtain ⟨lv0, lv1, hlob⟩ := hlx.obj
        have hlt_now := hq.lt
        refine ec_goE1 (ec_rV hC (c_add l G (ad 1 1) da0 q (M.1 7 1) H.size (ad (ecKd 1)) (hXs.1 _ hXl) (hXs.1 _ hXd) hdl (by have := hw.wf.n7; omega) (by omega) (fun i hi => hw.lne (by decide) (hw.2.2.2.1 i hi).1 (by omega))) kX5_53 (hOk.at hS hAN) ⟨rfl, hlx, fun i hi => ⟨_, _, _, _, _, rfl, by decide, ((hw.2.2.2.1 i hi).1).1.kp hA⟩, ⟨_, _, _, _, _, rfl, by decide, hq⟩⟩ (ec_rc hK hlob ⟨_, _, rfl⟩) hl.1 ⟨Nat.le_of_ble_eq_true rfl, Nat.le_of_ble_eq_true rfl⟩ rfl (Nat.le_of_ble_eq_true rfl) dX5_measure_118 ⟨Nat.le_of_ble_eq_true rfl, Nat.le_of_ble_eq_true rfl⟩) hS (fun z h => h.elim (fun h => by rw [h]; exact hXl) (fun h => h.elim (fun h => by rw [h]; exact hXd) (fun h => hXs.2 z (Nat.le_trans hA.1 h)))) (fun H locs hp hz hk1 hS => ?_)
        obtain ⟨da2, hd2, hlx⟩ := hp
        obtain ⟨hold, hnew, hda⟩ := hw.addk hXs (by decide) hA hda hXd hd2 hk1
        have hq := hq.kept (hnew _ hsz_q (by omega))
        have hsa := hsa.kept (hnew _ hsz_sa (by omega))
        refine lv_pop hC.1 hC.2.1 dX5_measure_121 rfl ?_
        refine lv_iload hC.1 hC.2.1 dX5_measure_122 (lv_at hl 1 rfl) ?_
        refine vx_ret ?_
        refine W.widen (k := 8) (n := 150) (Nat.le_of_ble_eq_true rfl) (Nat.le_of_ble_eq_true rfl) ?_
        exact W.iret hC.1 hC.2.1 hr (fun t9 ht9 _ => ⟨_, rfl, by rw [ht9]; exact (by
              obtain ⟨tg2, hw2⟩ := hw.addAns hXs hj hn4 hA.1 hlx hda hold hsz_sa hsz_q (by omega) (by omega) (by omega) hsa hq
              refine ⟨rfl, ?_, tg2, up2 (up2 (up2 (up2 ad 2 1 da2) 5 (mnA M) q) 6 (mnA M) (ad 4 j)) 7 (mnA M) sa, rfl, by rw [hjc]; exact hw2⟩
              unfold thMes
              rw [if_pos (ixB_of (by have := hn0; omega) hj), if_pos hsm, if_neg (Nat.ne_of_lt hn4)]), hS.F ht9⟩) hS.2.2 dX5_measure_124
      · exact ec_throw hC hls xX5_36 hOk hAN hS hkp (is := 98) (text := "there are 40 answers") (by decide) hl.1 hnx hlocks dX5_measure_62 dX5_measure_65 dX5_measure_66 dX5_measure_68 dX5_measure_71 (ecx (by unfold thMes; rw [if_pos (ixB_of (by have := hn0; omega) hj), if_pos hsm, if_pos (nI_full (a := mnA M) (b := 40) (by omega) (by decide) c_59)]) rfl (.tail _ (.tail _ (.head _)))) ⟨Nat.le_of_ble_eq_true rfl, Nat.le_of_ble_eq_true rfl, Nat.le_of_ble_eq_true rfl, Nat.le_of_ble_eq_true rfl⟩ (Nat.le_of_ble_eq_true rfl) (Nat.le_of_ble_eq_true rfl)
    · exact ec_throw hC hls xX5_90 hOk hAN hS hkp (is := 92) (text := "the first sample is 1 or -1") (by decide) hl.1 hnx hlocks dX5_measure_21 dX5_measure_24 dX5_measure_25 dX5_measure_27 dX5_measure_30 (ecx (by unfold thMes smB; rw [if_pos (ixB_of (by have := hn0; omega) hj), decide_eq_false c_13, decide_eq_false c_18, Bool.or_false, Bool.and_false, Bool.false_and, Bool.false_and, Bool.false_and]; rfl) rfl (.tail _ (.head _))) ⟨Nat.le_of_ble_eq_true rfl, Nat.le_of_ble_eq_true rfl, Nat.le_of_ble_eq_true rfl, Nat.le_of_ble_eq_true rfl⟩ (Nat.le_of_ble_eq_true rfl) (Nat.le_of_ble_eq_true rfl)

set_option maxHeartbeats 4000000 in
set_option maxRecDepth 100000 in
/-- makeFilter -/
theorem c_X5_makeFilter (l : Launch) (hls : l.stackTraces = false) (G : ecG) (X : Nat → Prop) (M : ecM) (x : Nat) (a : Int32) : vx_Met l yX5_makeFilter (ecWs yX5_makeFilter cX5_makeFilter 4 (Option.some FieldType.int)) (ecRm 9 8 150) (ecPc [.ref x, .int a] G (fun H => ecXs G X H ∧ EC G X M x H)) (ecEp (fun v H1 => v = some (.int (nI (mnF M))) ∧ thMak M a = 0 ∧ EC G X (filM M (cN a)) x H1) (X)) (ecXc (fun E => (E, thMak M a) ∈ [(eIX, 1), (eIS, 2)])) 8 150 (X) := by
  refine ec_xmet (by decide) (Nat.le_of_ble_eq_true rfl) ?_
  intro p e s m below meth c hC hr hlocks hnx hOk hpre ls hl
  have hK := hOk.1
  obtain ⟨hXs, hEC⟩ := hpre
  have hS : va_S (X) s.heap s.heap [] := va_S.rf
  have hkp : ecKp s.heap s.heap := ecKp.rf
  have hAN : ∀ q, (X) q → ecN0 G ≤ q := hXs.1
  have hl : lv_has ls 4 [(0, .ref x), (1, .int a)] := hl
  obtain ⟨tg, ad, rfl, hw⟩ := hEC
  have hn0 := hw.wf.n
  have hA : ecKp s.heap s.heap := ecKp.rf
  refine lv_aload_n hC.1 hC.2.1 dX5_makeFilter_0 rfl (lv_at hl 0 rfl) ?_
  refine lv_iload_n hC.1 hC.2.1 dX5_makeFilter_1 rfl (lv_at hl 1 rfl) ?_
  refine ec_goXj (ec_xV hC (c_X5_answerAt l hls G X M tg ad a) kX5_105 (hOk.at hS hAN) hw (ec_rc hK hw.1.1 ⟨_, _, rfl⟩) hl.1 ⟨Nat.le_of_ble_eq_true rfl, Nat.le_of_ble_eq_true rfl⟩ rfl (Nat.le_of_ble_eq_true rfl) dX5_makeFilter_2 ⟨Nat.le_of_ble_eq_true rfl, Nat.le_of_ble_eq_true rfl⟩) hS (fun E9 ce9 q9 H9 hx hk9 hS9 h1 h2 h3 => ec_out hnx hlocks (ecx (by unfold thMak; rw [hx.2]; rfl) hx.1 (.head _)) (hkp.tr hk9) hS9 h1 h2 h3 (Nat.le_of_ble_eq_true rfl) (Nat.le_of_ble_eq_true rfl)) (fun j hj => ?_)
  obtain ⟨hj, rfl⟩ := hj
  have hjc : cN (nI j) = j := nI_clamp (by have := hw.wf.n; omega)
  refine lv_astore_n (lv' := [(2, .ref (ad 5 j)), (0, .ref (ad 0 0)), (1, .int (nI j))]) hC.1 hC.2.1 dX5_makeFilter_5 rfl hl (by decide) rfl (fun ls hl => ?_)
  refine lv_aload_n hC.1 hC.2.1 dX5_makeFilter_6 rfl (lv_at hl 1 rfl) ?_
  refine ec_get hC hK hw.1.1 fX5_19 rfl dX5_makeFilter_7 ?_
  obtain ⟨v0_z1, v1_z1, hL_z1⟩ := (hw.2.1 2 (by decide)).obj
  refine ec_go1 (ec_rV hC (c_Jx4a65c_size_8abf5 l G (ad 1 2) v0_z1 v1_z1 (nI (M.1 7 2))) kX5_32 (hOk.at hS hAN) hL_z1.1 (ec_rc hK hL_z1.1 ⟨_, _, rfl⟩) hl.1 ⟨Nat.le_of_ble_eq_true rfl, Nat.le_of_ble_eq_true rfl⟩ rfl (Nat.le_of_ble_eq_true rfl) dX5_makeFilter_10 ⟨Nat.le_of_ble_eq_true rfl, Nat.le_of_ble_eq_true rfl⟩) ?_
  refine lv_istore_n (lv' := [(3, .int (nI (M.1 7 2))), (2, .ref (ad 5 j)), (0, .ref (ad 0 0)), (1, .int (nI j))]) hC.1 hC.2.1 dX5_makeFilter_13 rfl hl (by decide) rfl (fun ls hl => ?_)
  refine lv_iload_n hC.1 hC.2.1 dX5_makeFilter_14 rfl (lv_at hl 0 rfl) ?_
  refine lv_bipush (v := 20) hC.1 hC.2.1 dX5_makeFilter_15 (by decide) ?_
  refine lv_icmp_lt (tgt := 30) hC.1 hC.2.1 dX5_makeFilter_17 (by decide) (fun c_17 => ?_) (fun c_17 => ?_)
  · refine lv_aload_n hC.1 hC.2.1 dX5_makeFilter_30 rfl (lv_at hl 2 rfl) ?_
    refine ec_get hC hK hw.1.1 fX5_19 rfl dX5_makeFilter_31 ?_
    have hn4 : mnF M < 20 := nI_less (b := 20) (by decide) (show mnF M < 2147483648 by omega) c_17
    refine ec_new hC hK hS cfX2 nX5_145 (fs := [.null, .null, .null, .int 0]) (lt_s (lt_s (lt_s (lt_s lt_0 rfl) rfl) rfl) rfl) (Nat.le_of_ble_eq_true rfl) (Nat.le_of_ble_eq_true rfl) dX5_makeFilter_34 (fun q H q0 hq hk0 hS hz0 => ?_)
    have hsz_q : s.heap.size ≤ q := by rw [q0]; exact hA.1
    have hA := hA.tr hk0
    have hlt_q := hq.lt
    refine lv_dup hC.1 hC.2.1 dX5_makeFilter_37 rfl ?_
    refine lv_aload_n hC.1 hC.2.1 dX5_makeFilter_38 rfl (lv_at hl 1 rfl) ?_
    refine ec_goE0 (ec_rI hC (c_X2_init l G q (ad 5 j) (ad 7 j) H.size _ _ _ _ _ _ (smA M j) (hXs.1 _ (hXs.2 _ hsz_q)) hq.lt (by have h9 : ad 5 j < s.heap.size := (hw.an hj).1.lt; omega) (by have h9 : ad 7 j < s.heap.size := (hw.an hj).2.2.lt; omega)) kX5_147 (hOk.at hS hAN) ⟨rfl, hq, ((hw.kp hA).an hj).1, ((hw.kp hA).an hj).2.2⟩ hl.1 ⟨Nat.le_of_ble_eq_true rfl, Nat.le_of_ble_eq_true rfl⟩ rfl (Nat.le_of_ble_eq_true rfl) dX5_makeFilter_39 ⟨Nat.le_of_ble_eq_true rfl, Nat.le_of_ble_eq_true rfl⟩) hS (fun z h => h.elim (fun h => by rw [h]; exact hXs.2 _ hsz_q) (fun h => hXs.2 _ (Nat.le_trans hA.1 h))) (fun H locs hp hz hk1 hS => ?_)
    obtain ⟨ta, pa, hta0, hpa0, htp, hq, hta, hpa⟩ := hp
    have hsz_ta : s.heap.size ≤ ta := Nat.le_trans hA.1 hta0
    have hsz_pa : s.heap.size ≤ pa := Nat.le_trans hA.1 hpa0
    have hA := hA.st hz hk1 (fun z h => h.elim (fun h => by rw [h]; exact hsz_q) (fun h => Nat.le_trans hA.1 h))
    have hltt := hta.lt
    have hltp := hpa.lt
    have hqt : q < ta := Nat.lt_of_lt_of_le hlt_q hta0
    have hqp : q < pa := Nat.lt_of_lt_of_le hlt_q hpa0
    obtain ⟨da0, hlx, hda, hXd, hdl⟩ := (hw.2.1 2 (by decide)).lx2 hXs hA
    have hlo : ad 1 2 < s.heap.size := by obtain ⟨v0, v1, e1⟩ := (hw.2.1 2 (by decide)).obj; exact e1.1.lt
    have hXl : X (ad 1 2) := by obtain ⟨v0, v1, e1⟩ := (hw.2.1 2 (by decide)).obj; exact e1.2.2
    obtain ⟨lv0, lv1, hlob⟩ := hlx.obj
    have hlt_now := hq.lt
    refine ec_goE1 (ec_rV hC (c_add l G (ad 1 2) da0 q (M.1 7 2) H.size (ad (ecKd 2)) (hXs.1 _ hXl) (hXs.1 _ hXd) hdl (by have := hw.wf.n7; omega) (by omega) (fun i hi => hw.lne (by decide) (hw.2.2.2.2.1 i hi).1 (by omega))) kX5_53 (hOk.at hS hAN) ⟨rfl, hlx, fun i hi => ⟨_, _, _, _, _, rfl, by decide, ((hw.2.2.2.2.1 i hi).1).1.kp hA⟩, ⟨_, _, _, _, _, rfl, by decide, hq⟩⟩ (ec_rc hK hlob ⟨_, _, rfl⟩) hl.1 ⟨Nat.le_of_ble_eq_true rfl, Nat.le_of_ble_eq_true rfl⟩ rfl (Nat.le_of_ble_eq_true rfl) dX5_makeFilter_42 ⟨Nat.le_of_ble_eq_true rfl, Nat.le_of_ble_eq_true rfl⟩) hS (fun z h => h.elim (fun h => by rw [h]; exact hXl) (fun h => h.elim (fun h => by rw [h]; exact hXd) (fun h => hXs.2 z (Nat.le_trans hA.1 h)))) (fun H locs hp hz hk1 hS => ?_)
    obtain ⟨da2, hd2, hlx⟩ := hp
    obtain ⟨hold, hnew, hda⟩ := hw.addk hXs (by decide) hA hda hXd hd2 hk1
    have hq := hq.kept (hnew _ hsz_q (by omega))
    have hta := hta.kept (hnew _ hsz_ta (by omega))
    have hpa := hpa.kept (hnew _ hsz_pa (by omega))
    refine lv_pop hC.1 hC.2.1 dX5_makeFilter_45 rfl ?_
    refine lv_iload_n hC.1 hC.2.1 dX5_makeFilter_46 rfl (lv_at hl 0 rfl) ?_
    refine vx_ret ?_
    refine W.widen (k := 8) (n := 150) (Nat.le_of_ble_eq_true rfl) (Nat.le_of_ble_eq_true rfl) ?_
    exact W.iret hC.1 hC.2.1 hr (fun t9 ht9 _ => ⟨_, rfl, by rw [ht9]; exact (by
          obtain ⟨tg2, hw2⟩ := hw.addFil hXs hj hn4 hA.1 hlx hda hold hsz_ta hsz_q hsz_pa (by omega) (by omega) (by omega) (by omega) (by omega) htp hta hpa hq
          refine ⟨rfl, ?_, tg2, up2 (up2 (up2 (up2 ad 2 2 da2) 8 (mnF M) q) 9 (mnF M) ta) 10 (mnF M) pa, rfl, by rw [hjc]; exact hw2⟩
          unfold thMak
          rw [if_pos (ixB_of (by have := hn0; omega) hj), if_neg (Nat.ne_of_lt hn4)]), hS.F ht9⟩) hS.2.2 dX5_makeFilter_47
  · exact ec_throw hC hls xX5_36 hOk hAN hS hkp (is := 143) (text := "there are 20 filters") (by decide) hl.1 hnx hlocks dX5_makeFilter_20 dX5_makeFilter_23 dX5_makeFilter_24 dX5_makeFilter_26 dX5_makeFilter_29 (ecx (by unfold thMak; rw [if_pos (ixB_of (by have := hn0; omega) hj), if_pos (nI_full (a := mnF M) (b := 20) (by omega) (by decide) c_17)]) rfl (.tail _ (.head _))) ⟨Nat.le_of_ble_eq_true rfl, Nat.le_of_ble_eq_true rfl, Nat.le_of_ble_eq_true rfl, Nat.le_of_ble_eq_true rfl⟩ (Nat.le_of_ble_eq_true rfl) (Nat.le_of_ble_eq_true rfl)

set_option maxHeartbeats 4000000 in
set_option maxRecDepth 100000 in
/-- book -/
theorem c_X5_book (l : Launch) (hls : l.stackTraces = false) (G : ecG) (X : Nat → Prop) (M : ecM) (x : Nat) (r c0 s0 : Int32) (o : Bool) (f2 l2 : Int32) : vx_Met l yX5_book (ecWs yX5_book cX5_book 10 (Option.some FieldType.int)) (ecRm 9 8 150) (ecPc [.ref x, .int r, .int c0, .int s0, .int (bI o), .int f2, .int l2] G (fun H => ecXs G X H ∧ EC G X M x H)) (ecEp (fun v H1 => v = some (.int (nI (mnB M))) ∧ thBok M r c0 s0 o f2 l2 = 0 ∧ EC G X (bokM M (cN r) (cdN c0 s0 o) f2 l2) x H1) (X)) (ecXc (fun E => (E, thBok M r c0 s0 o f2 l2) ∈ [(eIX, 1), (eAG, 2), (eUO, 3), (eIS, 4)])) 8 150 (X) := by
  refine ec_xmet (by decide) (Nat.le_of_ble_eq_true rfl) ?_
  intro p e s m below meth c hC hr hlocks hnx hOk hpre ls hl
  have hK := hOk.1
  obtain ⟨hXs, hEC⟩ := hpre
  have hS : va_S (X) s.heap s.heap [] := va_S.rf
  have hkp : ecKp s.heap s.heap := ecKp.rf
  have hAN : ∀ q, (X) q → ecN0 G ≤ q := hXs.1
  have hl : lv_has ls 10 [(0, .ref x), (1, .int r), (2, .int c0), (3, .int s0), (4, .int (bI o)), (5, .int f2), (6, .int l2)] := hl
  obtain ⟨tg, ad, rfl, hw⟩ := hEC
  have hn0 := hw.wf.n
  refine lv_aload_n hC.1 hC.2.1 dX5_book_0 rfl (lv_at hl 0 rfl) ?_
  refine lv_iload_n hC.1 hC.2.1 dX5_book_1 rfl (lv_at hl 1 rfl) ?_
  refine ec_goXj (ec_xV hC (c_X5_roomAt l hls G X M tg ad r) kX5_57 (hOk.at hS hAN) hw (ec_rc hK hw.1.1 ⟨_, _, rfl⟩) hl.1 ⟨Nat.le_of_ble_eq_true rfl, Nat.le_of_ble_eq_true rfl⟩ rfl (Nat.le_of_ble_eq_true rfl) dX5_book_2 ⟨Nat.le_of_ble_eq_true rfl, Nat.le_of_ble_eq_true rfl⟩) hS (fun E9 ce9 q9 H9 hx hk9 hS9 h1 h2 h3 => ec_out hnx hlocks (ecx (by unfold thBok; rw [hx.2]; rfl) hx.1 (.head _)) (hkp.tr hk9) hS9 h1 h2 h3 (Nat.le_of_ble_eq_true rfl) (Nat.le_of_ble_eq_true rfl)) (fun j hj => ?_)
  obtain ⟨hj, rfl⟩ := hj
  have hjc : cN (nI j) = j := nI_clamp (by have := hw.wf.n; omega)
  refine lv_astore (lv' := [(7, .ref (ad 3 j)), (0, .ref (ad 0 0)), (1, .int (nI j)), (2, .int c0), (3, .int s0), (4, .int (bI o)), (5, .int f2), (6, .int l2)]) hC.1 hC.2.1 dX5_book_5 hl (by decide) rfl (fun ls hl => ?_)
  refine lv_iload_n hC.1 hC.2.1 dX5_book_7 rfl (lv_at hl 3 rfl) ?_
  refine lv_iload_n hC.1 hC.2.1 dX5_book_8 rfl (lv_at hl 4 rfl) ?_
  refine lv_iload hC.1 hC.2.1 dX5_book_9 (lv_at hl 5 rfl) ?_
  refine ec_goXEq (ec_xS hC (c_X5_stateOf l hls G c0 s0 o s.heap.size) kX5_61 (hOk.at hS hAN) rfl hl.1 ⟨Nat.le_of_ble_eq_true rfl, Nat.le_of_ble_eq_true rfl⟩ rfl (Nat.le_of_ble_eq_true rfl) dX5_book_11 ⟨Nat.le_of_ble_eq_true rfl, Nat.le_of_ble_eq_true rfl⟩) hS (fun z h => hXs.2 z h) (fun E9 ce9 q9 H9 locs9 hx hk9 hS9 h1 h2 h3 => ec_out hnx hlocks (ecx (by unfold thBok bkB; rw [if_pos (ixB_of (by have := hn0; omega) hj), hx.2, Bool.false_and, Bool.false_and, Bool.false_and]; rfl) hx.1 (.tail _ (.head _))) (hkp.tr hk9) hS9 h1 h2 h3 (Nat.le_of_ble_eq_true rfl) (Nat.le_of_ble_eq_true rfl)) (fun qs H locs hp hz hk1 hS => ?_)
  obtain ⟨hsz_qs, hst, hqs⟩ := hp
  have h80 := (cdN_3 o hst).1
  have hA : ecKp s.heap H := ecKp.of hz rfl hk1
  have hkp := hA
  refine lv_astore (lv' := [(8, .ref qs), (7, .ref (ad 3 j)), (0, .ref (ad 0 0)), (1, .int (nI j)), (2, .int c0), (3, .int s0), (4, .int (bI o)), (5, .int f2), (6, .int l2)]) hC.1 hC.2.1 dX5_book_14 hl (by decide) rfl (fun ls hl => ?_)
  refine lv_iload hC.1 hC.2.1 dX5_book_16 (lv_at hl 7 rfl) ?_
  refine lv_aload_n hC.1 hC.2.1 dX5_book_18 rfl (lv_at hl 2 rfl) ?_
  refine ec_get hC hK (hw.kp hA).1.1 fX5_25 rfl dX5_book_19 ?_
  refine lv_icmp_le (tgt := 40) hC.1 hC.2.1 dX5_book_22 (by decide) (fun c_22 => ?_) (fun c_22 => ?_)
  · exact ec_throw hC hls xX5_90 hOk hAN hS hkp (is := 197) (text := "there are no such hours to book") (by decide) hl.1 hnx hlocks dX5_book_40 dX5_book_43 dX5_book_44 dX5_book_46 dX5_book_49 (ecx (by unfold thBok bkB; rw [if_pos (ixB_of (by have := hn0; omega) hj), decide_eq_false (p := mhr M < f2) (Int32.not_lt.mpr c_22), Bool.and_false, Bool.false_and, Bool.false_and]; rfl) rfl (.tail _ (.head _))) ⟨Nat.le_of_ble_eq_true rfl, Nat.le_of_ble_eq_true rfl, Nat.le_of_ble_eq_true rfl, Nat.le_of_ble_eq_true rfl⟩ (Nat.le_of_ble_eq_true rfl) (Nat.le_of_ble_eq_true rfl)
  · refine lv_iload hC.1 hC.2.1 dX5_book_25 (lv_at hl 8 rfl) ?_
    refine lv_iload hC.1 hC.2.1 dX5_book_27 (lv_at hl 7 rfl) ?_
    refine lv_icmp_lt (tgt := 40) hC.1 hC.2.1 dX5_book_29 (by decide) (fun c_29 => ?_) (fun c_29 => ?_)
    · exact ec_throw hC hls xX5_90 hOk hAN hS hkp (is := 197) (text := "there are no such hours to book") (by decide) hl.1 hnx hlocks dX5_book_40 dX5_book_43 dX5_book_44 dX5_book_46 dX5_book_49 (ecx (by unfold thBok bkB; rw [if_pos (ixB_of (by have := hn0; omega) hj), decide_eq_false (p := f2 ≤ l2) (Int32.not_le.mpr c_29), Bool.and_false, Bool.false_and]; rfl) rfl (.tail _ (.head _))) ⟨Nat.le_of_ble_eq_true rfl, Nat.le_of_ble_eq_true rfl, Nat.le_of_ble_eq_true rfl, Nat.le_of_ble_eq_true rfl⟩ (Nat.le_of_ble_eq_true rfl) (Nat.le_of_ble_eq_true rfl)
    · refine lv_iload hC.1 hC.2.1 dX5_book_32 (lv_at hl 8 rfl) ?_
      refine lv_sipush (v := 9999) hC.1 hC.2.1 dX5_book_34 (by decide) ?_
      refine lv_icmp_le (tgt := 50) hC.1 hC.2.1 dX5_book_37 (by decide) (fun c_37 => ?_) (fun c_37 => ?_)
      · refine lv_aload_n hC.1 hC.2.1 dX5_book_50 rfl (lv_at hl 2 rfl) ?_
        refine lv_aload hC.1 hC.2.1 dX5_book_51 (lv_at hl 1 rfl) ?_
        refine lv_aload hC.1 hC.2.1 dX5_book_53 (lv_at hl 0 rfl) ?_
        refine lv_iload hC.1 hC.2.1 dX5_book_55 (lv_at hl 7 rfl) ?_
        refine lv_iload hC.1 hC.2.1 dX5_book_57 (lv_at hl 8 rfl) ?_
        have hbk : bkB M c0 s0 f2 l2 = true := by unfold bkB; rw [hst, decide_eq_true (p := mhr M < f2) (Int32.not_le.mp c_22), decide_eq_true (p := f2 ≤ l2) (Int32.not_lt.mp c_29), decide_eq_true (p := l2 ≤ 9999) c_37]; rfl
        have hl0 : 0 < l2.toInt := by
          have h1 := Int32.lt_iff_toInt_lt.mp (Int32.not_le.mp c_22)
          have h2 := Int32.le_iff_toInt_le.mp (Int32.not_lt.mp c_29)
          have h3 := hw.wf.h0
          omega
        refine ec_go1 (ec_rV hC (c_X5_firstClash l G X M tg ad j (cdN c0 s0 o) qs f2 l2 hj h80) kX5_199 (hOk.at hS hAN) ⟨hw.kp hA, hqs⟩ (ec_rc hK (hw.kp hA).1.1 ⟨_, _, rfl⟩) hl.1 ⟨Nat.le_of_ble_eq_true rfl, Nat.le_of_ble_eq_true rfl⟩ rfl (Nat.le_of_ble_eq_true rfl) dX5_book_59 ⟨Nat.le_of_ble_eq_true rfl, Nat.le_of_ble_eq_true rfl⟩) ?_
        obtain hcl | ⟨u, hcl⟩ := ec_opt (clM M j (cdN c0 s0 o) f2 l2)
        · refine ec_topv (y := .null) (by rw [hcl]; rfl) ?_
          refine lv_ifnullN (tgt := 75) hC.1 hC.2.1 dX5_book_62 (by decide) ?_
          refine lv_aload_n hC.1 hC.2.1 dX5_book_75 rfl (lv_at hl 2 rfl) ?_
          refine ec_get hC hK (hw.kp hA).1.1 fX5_22 rfl dX5_book_76 ?_
          obtain ⟨v0_z1, v1_z1, hL_z1⟩ := ((hw.kp hA).2.1 3 (by decide)).obj
          refine ec_go1 (ec_rV hC (c_Jx4a65c_size_8abf5 l G (ad 1 3) v0_z1 v1_z1 (nI (M.1 7 3))) kX5_32 (hOk.at hS hAN) hL_z1.1 (ec_rc hK hL_z1.1 ⟨_, _, rfl⟩) hl.1 ⟨Nat.le_of_ble_eq_true rfl, Nat.le_of_ble_eq_true rfl⟩ rfl (Nat.le_of_ble_eq_true rfl) dX5_book_79 ⟨Nat.le_of_ble_eq_true rfl, Nat.le_of_ble_eq_true rfl⟩) ?_
          refine lv_istore (lv' := [(9, .int (nI (M.1 7 3))), (8, .ref qs), (7, .ref (ad 3 j)), (0, .ref (ad 0 0)), (1, .int (nI j)), (2, .int c0), (3, .int s0), (4, .int (bI o)), (5, .int f2), (6, .int l2)]) hC.1 hC.2.1 dX5_book_82 hl (by decide) rfl (fun ls hl => ?_)
          refine lv_iload hC.1 hC.2.1 dX5_book_84 (lv_at hl 0 rfl) ?_
          refine lv_bipush (v := 16) hC.1 hC.2.1 dX5_book_86 (by decide) ?_
          refine lv_icmp_lt (tgt := 101) hC.1 hC.2.1 dX5_book_88 (by decide) (fun c_88 => ?_) (fun c_88 => ?_)
          · refine lv_aload_n hC.1 hC.2.1 dX5_book_101 rfl (lv_at hl 3 rfl) ?_
            refine ec_get hC hK (hw.kp hA).1.1 fX5_22 rfl dX5_book_102 ?_
            have hn4 : mnB M < 16 := nI_less (b := 16) (by decide) (show mnB M < 2147483648 by omega) c_88
            have hps : qs < H.size := hqs.lt
            refine ec_new hC hK hS cfX1 nX5_207 (fs := [.int 0, .null, .null, .int 0, .int 0, .int 0]) (lt_s (lt_s (lt_s (lt_s (lt_s (lt_s lt_0 rfl) rfl) rfl) rfl) rfl) rfl) (Nat.le_of_ble_eq_true rfl) (Nat.le_of_ble_eq_true rfl) dX5_book_105 (fun q H q0 hq hk0 hS hz0 => ?_)
            have hsz_q : s.heap.size ≤ q := by rw [q0]; exact hA.1
            have hA := hA.tr hk0
            have hqs := hqs.kp hk0
            have hlt_q := hq.lt
            refine lv_dup hC.1 hC.2.1 dX5_book_108 rfl ?_
            refine lv_iload hC.1 hC.2.1 dX5_book_109 (lv_at hl 0 rfl) ?_
            refine lv_aload hC.1 hC.2.1 dX5_book_111 (lv_at hl 2 rfl) ?_
            refine lv_aload hC.1 hC.2.1 dX5_book_113 (lv_at hl 1 rfl) ?_
            refine lv_iload hC.1 hC.2.1 dX5_book_115 (lv_at hl 8 rfl) ?_
            refine lv_iload hC.1 hC.2.1 dX5_book_117 (lv_at hl 9 rfl) ?_
            refine ec_goE0 (ec_rI hC (c_X1_init l G q (ad 3 j) qs (nI (M.1 7 3)) f2 l2) kX5_209 (hOk.at hS hAN) hq hl.1 ⟨Nat.le_of_ble_eq_true rfl, Nat.le_of_ble_eq_true rfl⟩ rfl (Nat.le_of_ble_eq_true rfl) dX5_book_119 ⟨Nat.le_of_ble_eq_true rfl, Nat.le_of_ble_eq_true rfl⟩) hS (fun z h => by rw [h]; exact hXs.2 _ hsz_q) (fun H locs hq hz hk1 hS => ?_)
            have hA := hA.st hz hk1 (fun z h => by rw [h]; exact hsz_q)
            have hqs := hqs.kept (hk1 _ hqs.lt (fun z => by have : qs = q := z; omega))
            obtain ⟨da0, hlx, hda, hXd, hdl⟩ := (hw.2.1 3 (by decide)).lx2 hXs hA
            have hlo : ad 1 3 < s.heap.size := by obtain ⟨v0, v1, e1⟩ := (hw.2.1 3 (by decide)).obj; exact e1.1.lt
            have hXl : X (ad 1 3) := by obtain ⟨v0, v1, e1⟩ := (hw.2.1 3 (by decide)).obj; exact e1.2.2
            obtain ⟨lv0, lv1, hlob⟩ := hlx.obj
            have hlt_now := hq.lt
            refine ec_goE1 (ec_rV hC (c_add l G (ad 1 3) da0 q (M.1 7 3) H.size (ad (ecKd 3)) (hXs.1 _ hXl) (hXs.1 _ hXd) hdl (by have := hw.wf.n7; omega) (by omega) (fun i hi => hw.lne (by decide) (hw.2.2.2.2.2.1 i hi).1 (by omega))) kX5_53 (hOk.at hS hAN) ⟨rfl, hlx, fun i hi => ⟨_, _, _, _, _, rfl, by decide, ((hw.2.2.2.2.2.1 i hi).1).1.kp hA⟩, ⟨_, _, _, _, _, rfl, by decide, hq⟩⟩ (ec_rc hK hlob ⟨_, _, rfl⟩) hl.1 ⟨Nat.le_of_ble_eq_true rfl, Nat.le_of_ble_eq_true rfl⟩ rfl (Nat.le_of_ble_eq_true rfl) dX5_book_122 ⟨Nat.le_of_ble_eq_true rfl, Nat.le_of_ble_eq_true rfl⟩) hS (fun z h => h.elim (fun h => by rw [h]; exact hXl) (fun h => h.elim (fun h => by rw [h]; exact hXd) (fun h => hXs.2 z (Nat.le_trans hA.1 h)))) (fun H locs hp hz hk1 hS => ?_)
            obtain ⟨da2, hd2, hlx⟩ := hp
            obtain ⟨hold, hnew, hda⟩ := hw.addk hXs (by decide) hA hda hXd hd2 hk1
            have hq := hq.kept (hnew _ hsz_q (by omega))
            have hqs := hqs.kept (hnew _ hsz_qs (by omega))
            refine lv_pop hC.1 hC.2.1 dX5_book_125 rfl ?_
            refine lv_iload hC.1 hC.2.1 dX5_book_126 (lv_at hl 0 rfl) ?_
            refine vx_ret ?_
            refine W.widen (k := 8) (n := 150) (Nat.le_of_ble_eq_true rfl) (Nat.le_of_ble_eq_true rfl) ?_
            exact W.iret hC.1 hC.2.1 hr (fun t9 ht9 _ => ⟨_, rfl, by rw [ht9]; exact (by
                  obtain ⟨tg2, hw2⟩ := hw.addBok hXs hj h80 hl0 hn4 hA.1 hlx hda hold hsz_qs hsz_q (by omega) (by omega) (by omega) hqs hq
                  refine ⟨rfl, ?_, tg2, up2 (up2 (up2 ad 2 3 da2) 11 (mnB M) q) 12 (mnB M) qs, rfl, by rw [hjc]; exact hw2⟩
                  unfold thBok
                  rw [if_pos (ixB_of (by have := hn0; omega) hj), if_pos hbk, hjc, hcl, if_neg (by decide), if_neg (Nat.ne_of_lt hn4)]), hS.F ht9⟩) hS.2.2 dX5_book_128
          · exact ec_throw hC hls xX5_36 hOk hAN hS hkp (is := 205) (text := "there are 16 bookings") (by decide) hl.1 hnx hlocks dX5_book_91 dX5_book_94 dX5_book_95 dX5_book_97 dX5_book_100 (ecx (by unfold thBok; rw [if_pos (ixB_of (by have := hn0; omega) hj), if_pos hbk, hjc, hcl, if_neg (by decide), if_pos (nI_full (a := mnB M) (b := 16) (by omega) (by decide) c_88)]) rfl (.tail _ (.tail _ (.tail _ (.head _))))) ⟨Nat.le_of_ble_eq_true rfl, Nat.le_of_ble_eq_true rfl, Nat.le_of_ble_eq_true rfl, Nat.le_of_ble_eq_true rfl⟩ (Nat.le_of_ble_eq_true rfl) (Nat.le_of_ble_eq_true rfl)
        · refine ec_topv (y := .ref (ad 11 u)) (by rw [hcl]; rfl) ?_
          refine lv_ifnull hC.1 hC.2.1 dX5_book_62 ?_
          exact ec_throw hC hls xX5_170 hOk hAN hS hkp (is := 203) (text := "it clashes with a booking") (by decide) hl.1 hnx hlocks dX5_book_65 dX5_book_68 dX5_book_69 dX5_book_71 dX5_book_74 (ecx (by unfold thBok; rw [if_pos (ixB_of (by have := hn0; omega) hj), if_pos hbk, hjc, hcl]; rfl) rfl (.tail _ (.tail _ (.head _)))) ⟨Nat.le_of_ble_eq_true rfl, Nat.le_of_ble_eq_true rfl, Nat.le_of_ble_eq_true rfl, Nat.le_of_ble_eq_true rfl⟩ (Nat.le_of_ble_eq_true rfl) (Nat.le_of_ble_eq_true rfl)
      · exact ec_throw hC hls xX5_90 hOk hAN hS hkp (is := 197) (text := "there are no such hours to book") (by decide) hl.1 hnx hlocks dX5_book_40 dX5_book_43 dX5_book_44 dX5_book_46 dX5_book_49 (ecx (by unfold thBok bkB; rw [if_pos (ixB_of (by have := hn0; omega) hj), decide_eq_false (p := l2 ≤ 9999) c_37, Bool.and_false]; rfl) rfl (.tail _ (.head _))) ⟨Nat.le_of_ble_eq_true rfl, Nat.le_of_ble_eq_true rfl, Nat.le_of_ble_eq_true rfl, Nat.le_of_ble_eq_true rfl⟩ (Nat.le_of_ble_eq_true rfl) (Nat.le_of_ble_eq_true rfl)
