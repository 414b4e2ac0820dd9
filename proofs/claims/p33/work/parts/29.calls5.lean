section ECAD
variable {G : ecG} {X : Nat → Prop} {M : ecM} {tg : Nat → Nat} {ad : Nat → Nat → Nat} {H0 H H1 : Heap}
theorem ecKp.st {A : Nat → Prop} (h : ecKp H0 H) (hz : H.size ≤ H1.size) (hk : ∀ q : Nat, q < H.size → ¬ A q → H1[q]? = H[q]?) (hA : ∀ q, A q → H0.size ≤ q) : ecKp H0 H1 :=
  ⟨Nat.le_trans h.1 hz, fun q hq => (hk q (Nat.lt_of_lt_of_le hq h.1) (fun z => Nat.lt_irrefl _ (Nat.lt_of_lt_of_le hq (hA q z)))).trans (h.2 q hq)⟩
theorem ecLt.lx2 {lo da j n : Nat} {f : Nat → Nat} (h : ecLt G X tg H0 lo da j n f) (hX : ecXs G X H0) (k : ecKp H0 H) : ∃ da0, ecLx G lo da0 n f H ∧ ((da0 < H0.size ∧ tg da0 = 128 + j) ∨ da0 = H.size) ∧ X da0 ∧ da0 ≠ lo := by
  obtain ⟨mc, ⟨hn, h⟩ | ⟨cap, g, a1, a2, a3, h, h2, h3⟩⟩ := h
  · exact ⟨H.size, ⟨mc, Or.inl ⟨hn, h.1.kp k⟩⟩, Or.inr rfl, hX.2 _ k.1, fun z => Nat.ne_of_lt (Nat.lt_of_lt_of_le h.1.lt k.1) z.symm⟩
  · exact ⟨da, ⟨mc, Or.inr ⟨cap, g, a1, a2, a3, h.1.kp k, h2.1.kp k, h3⟩⟩, Or.inl ⟨h2.1.lt, h2.2.1⟩, h2.2.2, h2.ne h (by omega)⟩
/-- behind the list's growth: the old cells, the new ones -/
theorem ecO.addk {j da0 da2 : Nat} (h : ecO G X M tg ad H0) (hX : ecXs G X H0) (hj : j < 4) (k : ecKp H0 H) (hd : (da0 < H0.size ∧ tg da0 = 128 + j) ∨ da0 = H.size) (hXd : X da0) (h2 : da2 = da0 ∨ H.size ≤ da2) (hk1 : ∀ q : Nat, q < H.size → ¬ (q = ad 1 j ∨ q = da0 ∨ H.size ≤ q) → H1[q]? = H[q]?) :
    (∀ x : Nat, x < H0.size → tg x ≠ 64 + j → tg x ≠ 128 + j → H1[x]? = H0[x]?) ∧ (∀ q : Nat, H0.size ≤ q → q < H.size → H1[q]? = H[q]?) ∧ ((da2 < H0.size ∧ tg da2 = 128 + j ∧ X da2) ∨ H.size ≤ da2) := by
  obtain ⟨v0, v1, e1⟩ := (h.2.1 j hj).obj
  have hlt := e1.1.lt
  refine ⟨fun x hx n1 n2 => ?_, fun q hq hq2 => ?_, ?_⟩
  · refine (hk1 x (Nat.lt_of_lt_of_le hx k.1) ?_).trans (k.2 x hx)
    rintro (z | z | z)
    · exact n1 (by rw [z]; exact e1.2.1)
    · rcases hd with hd | hd
      · exact n2 (by rw [z]; exact hd.2)
      · have := k.1; omega
    · have := k.1; omega
  · refine hk1 q hq2 ?_
    rintro (z | z | z)
    · omega
    · rcases hd with hd | hd
      · omega
      · omega
    · omega
  · rcases h2 with rfl | h2
    · rcases hd with hd | hd
      · exact Or.inl ⟨hd.1, hd.2, hXd⟩
      · exact Or.inr (Nat.le_of_eq hd.symm)
    · exact Or.inr h2
end ECAD
theorem ecO.lne {G : ecG} {X : Nat → Prop} {M : ecM} {tg : Nat → Nat} {ad : Nat → Nat → Nat} {H : Heap} (h : ecO G X M tg ad H) {j : Nat} (hj : j < 4) {a t : Nat} {e : va_E} (h2 : ecT G X tg H a t e) (n : t ≠ 64 + j) : a ≠ ad 1 j := by
  obtain ⟨v0, v1, e1⟩ := (h.2.1 j hj).obj
  exact h2.ne e1 n

theorem nI_full {a b : Nat} (ha : a ≤ b) (hb : b < 2 ^ 31) (h : ¬ nI a < nI b) : a = b := by
  rcases Nat.lt_or_ge a b with q | q
  · exact absurd (nI_lt q hb) h
  · omega
theorem nI_less {a b : Nat} (hb : b < 2 ^ 31) (ha : a < 2 ^ 31) (h : nI a < nI b) : a < b := (nI_ltI ha hb).mp h

set_option maxHeartbeats 4000000 in
set_option maxRecDepth 100000 in
/-- addRoom -/
theorem c_X5_addRoom (l : Launch) (hls : l.stackTraces = false) (G : ecG) (X : Nat → Prop) (M : ecM) (x : Nat) : vx_Met l yX5_addRoom (ecWs yX5_addRoom cX5_addRoom 2 (Option.some FieldType.int)) (ecRm 9 8 150) (ecPc [.ref x] G (fun H => ecXs G X H ∧ EC G X M x H)) (ecEp (fun v H1 => v = some (.int (nI (mnR M))) ∧ thAdd M = 0 ∧ EC G X (addM M) x H1) (X)) (ecXc (fun E => (E, thAdd M) ∈ [(eIS, 1)])) 8 150 (X) := by
  refine ec_xmet (by decide) (Nat.le_of_ble_eq_true rfl) ?_
  intro p e s m below meth c hC hr hlocks hnx hOk hpre ls hl
  have hK := hOk.1
  obtain ⟨hXs, hEC⟩ := hpre
  have hS : va_S (X) s.heap s.heap [] := va_S.rf
  have hkp : ecKp s.heap s.heap := ecKp.rf
  have hAN : ∀ q, (X) q → ecN0 G ≤ q := hXs.1
  have hl : lv_has ls 2 [(0, .ref x)] := hl
  obtain ⟨tg, ad, rfl, hw⟩ := hEC
  have hn0 := hw.wf.n
  have hA : ecKp s.heap s.heap := ecKp.rf
  refine lv_aload_n hC.1 hC.2.1 dX5_addRoom_0 rfl (lv_at hl 0 rfl) ?_
  refine ec_get hC hK hw.1.1 fX5_10 rfl dX5_addRoom_1 ?_
  obtain ⟨v0_z1, v1_z1, hL_z1⟩ := (hw.2.1 0 (by decide)).obj
  refine ec_go1 (ec_rV hC (c_Jx4a65c_size_8abf5 l G (ad 1 0) v0_z1 v1_z1 (nI (M.1 7 0))) kX5_32 (hOk.at hS hAN) hL_z1.1 (ec_rc hK hL_z1.1 ⟨_, _, rfl⟩) hl.1 ⟨Nat.le_of_ble_eq_true rfl, Nat.le_of_ble_eq_true rfl⟩ rfl (Nat.le_of_ble_eq_true rfl) dX5_addRoom_4 ⟨Nat.le_of_ble_eq_true rfl, Nat.le_of_ble_eq_true rfl⟩) ?_
  refine lv_istore_n (lv' := [(1, .int (nI (M.1 7 0))), (0, .ref (ad 0 0))]) hC.1 hC.2.1 dX5_addRoom_7 rfl hl (by decide) rfl (fun ls hl => ?_)
  refine lv_iload_n hC.1 hC.2.1 dX5_addRoom_8 rfl (lv_at hl 0 rfl) ?_
  refine lv_iconst (v := 4) hC.1 hC.2.1 dX5_addRoom_9 (by decide) ?_
  refine lv_icmp_lt (tgt := 23) hC.1 hC.2.1 dX5_addRoom_10 (by decide) (fun c_10 => ?_) (fun c_10 => ?_)
  · refine lv_aload_n hC.1 hC.2.1 dX5_addRoom_23 rfl (lv_at hl 1 rfl) ?_
    refine ec_get hC hK hw.1.1 fX5_10 rfl dX5_addRoom_24 ?_
    have hn4 : mnR M < 4 := nI_less (b := 4) (by decide) (show mnR M < 2147483648 by omega) c_10
    refine ec_new hC hK hS cfX3 nX5_43 (fs := [.null, .int 0]) (lt_s (lt_s lt_0 rfl) rfl) (Nat.le_of_ble_eq_true rfl) (Nat.le_of_ble_eq_true rfl) dX5_addRoom_27 (fun q2 H q20 hq2 hk0 hS hz0 => ?_)
    have hsz_q2 : s.heap.size ≤ q2 := by rw [q20]; exact hA.1
    have hA := hA.tr hk0
    have hlt_q2 := hq2.lt
    refine lv_dup hC.1 hC.2.1 dX5_addRoom_30 rfl ?_
    refine ec_new hC hK hS cfX4 nX5_45 (fs := [.int 0, .int 0, .int 0]) (lt_s (lt_s (lt_s lt_0 rfl) rfl) rfl) (Nat.le_of_ble_eq_true rfl) (Nat.le_of_ble_eq_true rfl) dX5_addRoom_31 (fun q1 H q10 hq1 hk0 hS hz0 => ?_)
    have hsz_q1 : s.heap.size ≤ q1 := by rw [q10]; exact hA.1
    have hA := hA.tr hk0
    have hq2 := hq2.kp hk0
    have hlt_q1 := hq1.lt
    refine lv_dup hC.1 hC.2.1 dX5_addRoom_34 rfl ?_
    refine lv_iconst (v := 0) hC.1 hC.2.1 dX5_addRoom_35 (by decide) ?_
    refine lv_iconst (v := 0) hC.1 hC.2.1 dX5_addRoom_36 (by decide) ?_
    refine lv_iconst (v := 0) hC.1 hC.2.1 dX5_addRoom_37 (by decide) ?_
    refine ec_goE0 (ec_rI hC (c_X4_init l G q1 0 0 false) kX5_47 (hOk.at hS hAN) hq1 hl.1 ⟨Nat.le_of_ble_eq_true rfl, Nat.le_of_ble_eq_true rfl⟩ rfl (Nat.le_of_ble_eq_true rfl) dX5_addRoom_38 ⟨Nat.le_of_ble_eq_true rfl, Nat.le_of_ble_eq_true rfl⟩) hS (fun z h => by rw [h]; exact hXs.2 _ hsz_q1) (fun H locs hq1 hz hk1 hS => ?_)
    have hA := hA.st hz hk1 (fun z h => by rw [h]; exact hsz_q1)
    have hq2 := hq2.kept (hk1 _ hq2.lt (fun z => by have : q2 = q1 := z; omega))
    refine ec_goE0 (ec_rI hC (c_X3_init l G q2 q1) kX5_50 (hOk.at hS hAN) hq2 hl.1 ⟨Nat.le_of_ble_eq_true rfl, Nat.le_of_ble_eq_true rfl⟩ rfl (Nat.le_of_ble_eq_true rfl) dX5_addRoom_41 ⟨Nat.le_of_ble_eq_true rfl, Nat.le_of_ble_eq_true rfl⟩) hS (fun z h => by rw [h]; exact hXs.2 _ hsz_q2) (fun H locs hq2 hz hk1 hS => ?_)
    have hA := hA.st hz hk1 (fun z h => by rw [h]; exact hsz_q2)
    have hq1 := hq1.kept (hk1 _ hq1.lt (fun z => by have : q1 = q2 := z; omega))
    obtain ⟨da0, hlx, hda, hXd, hdl⟩ := (hw.2.1 0 (by decide)).lx2 hXs hA
    have hlo : ad 1 0 < s.heap.size := by obtain ⟨v0, v1, e1⟩ := (hw.2.1 0 (by decide)).obj; exact e1.1.lt
    have hXl : X (ad 1 0) := by obtain ⟨v0, v1, e1⟩ := (hw.2.1 0 (by decide)).obj; exact e1.2.2
    obtain ⟨lv0, lv1, hlob⟩ := hlx.obj
    have hlt_now := hq2.lt
    refine ec_goE1 (ec_rV hC (c_add l G (ad 1 0) da0 q2 (M.1 7 0) H.size (ad (ecKd 0)) (hXs.1 _ hXl) (hXs.1 _ hXd) hdl (by have := hw.wf.n7; omega) (by omega) (fun i hi => hw.lne (by decide) (hw.2.2.1 i hi).1 (by omega))) kX5_53 (hOk.at hS hAN) ⟨rfl, hlx, fun i hi => ⟨_, _, _, _, _, rfl, by decide, ((hw.2.2.1 i hi).1).1.kp hA⟩, ⟨_, _, _, _, _, rfl, by decide, hq2⟩⟩ (ec_rc hK hlob ⟨_, _, rfl⟩) hl.1 ⟨Nat.le_of_ble_eq_true rfl, Nat.le_of_ble_eq_true rfl⟩ rfl (Nat.le_of_ble_eq_true rfl) dX5_addRoom_44 ⟨Nat.le_of_ble_eq_true rfl, Nat.le_of_ble_eq_true rfl⟩) hS (fun z h => h.elim (fun h => by rw [h]; exact hXl) (fun h => h.elim (fun h => by rw [h]; exact hXd) (fun h => hXs.2 z (Nat.le_trans hA.1 h)))) (fun H locs hp hz hk1 hS => ?_)
    obtain ⟨da2, hd2, hlx⟩ := hp
    obtain ⟨hold, hnew, hda⟩ := hw.addk hXs (by decide) hA hda hXd hd2 hk1
    have hq2 := hq2.kept (hnew _ hsz_q2 (by omega))
    have hq1 := hq1.kept (hnew _ hsz_q1 (by omega))
    refine lv_pop hC.1 hC.2.1 dX5_addRoom_47 rfl ?_
    refine lv_iload_n hC.1 hC.2.1 dX5_addRoom_48 rfl (lv_at hl 0 rfl) ?_
    refine vx_ret ?_
    refine W.widen (k := 8) (n := 150) (Nat.le_of_ble_eq_true rfl) (Nat.le_of_ble_eq_true rfl) ?_
    exact W.iret hC.1 hC.2.1 hr (fun t9 ht9 _ => ⟨_, rfl, by rw [ht9]; exact (by
          obtain ⟨tg2, hw2⟩ := hw.addRoom hXs hn4 hA.1 hlx hda hold hsz_q1 hsz_q2 (by omega) (by omega) (by omega) hq1 hq2
          exact ⟨rfl, if_neg (Nat.ne_of_lt hn4), tg2, up2 (up2 (up2 ad 2 0 da2) 3 (mnR M) q2) 4 (mnR M) q1, rfl, hw2⟩), hS.F ht9⟩) hS.2.2 dX5_addRoom_49
  · exact ec_throw hC hls xX5_36 hOk hAN hS hkp (is := 38) (text := "there are 4 rooms") (by decide) hl.1 hnx hlocks dX5_addRoom_13 dX5_addRoom_16 dX5_addRoom_17 dX5_addRoom_19 dX5_addRoom_22 (ecx (if_pos (nI_full (a := mnR M) (b := 4) (by omega) (by decide) c_10)) rfl (.head _)) ⟨Nat.le_of_ble_eq_true rfl, Nat.le_of_ble_eq_true rfl, Nat.le_of_ble_eq_true rfl, Nat.le_of_ble_eq_true rfl⟩ (Nat.le_of_ble_eq_true rfl) (Nat.le_of_ble_eq_true rfl)
