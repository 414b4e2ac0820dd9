set_option maxHeartbeats 4000000 in
set_option maxRecDepth 100000 in
/-- a longer row, with what the old one held -/
theorem c_J7_copyOf_6403c (l : Launch) (G : ecG) (b n n2 sz : Nat) (g : Nat → Option Nat) (h1 : n ≤ n2) (h100 : n2 ≤ 100) : Met l yJ7_copyOf_6403c (ecWs yJ7_copyOf_6403c cJ7_copyOf_6403c 4 (Option.some (FieldType.array (FieldType.object "java/lang/Object")))) (ecRm 2 1 100) (ecPc [.ref b, .int (nI n2), .ref (ecMi G)] G (fun H => H.size = sz ∧ ecA G b (eQ G n g) H ∧ (∀ i : Nat, i < n → ∀ y : Nat, g i = some y → ecEl G y H))) (ecEp (fun v H1 => ∃ q : Nat, v = some (.ref q) ∧ (ecA G q (eQ G n2 (va_cpy g (fun _ => none) 0 0 n)) H1 ∧ sz ≤ q)) (fun x : Nat => sz ≤ x)) 1 100 (fun x : Nat => sz ≤ x) := by
  refine ec_met (by decide) (Nat.le_of_ble_eq_true rfl) ?_
  intro p e s m below meth c hC hr hlocks hname hOk hpre ls hl
  have hK := hOk.1
  obtain ⟨hsz, hb, hel⟩ := hpre
  have hS : va_S (fun x : Nat => sz ≤ x) s.heap s.heap [] := va_S.rf
  have hAN : ∀ q, (fun x : Nat => sz ≤ x) q → ecN0 G ≤ q := fun q h => Nat.le_trans hOk.2.1 (by rw [hsz]; exact h)
  have hl : lv_has ls 4 [(0, .ref b), (1, .int (nI n2)), (2, .ref (ecMi G))] := hl
  refine lv_aload_n hC.1 hC.2.1 dJ7_copyOf_6403c_0 rfl (lv_at hl 2 rfl) ?_
  refine va_ldcM hC.1 hC.2.1 hC.2.2.2.1 (hC.2.2.2.2 _ nJ7_110) hK.2.2.1 dJ7_copyOf_6403c_1 ?_
  refine lv_acmp_ne (rx := (some (ecMi G))) (ry := (some (ecMi G))) (tgt := 13) hC.1 hC.2.1 dJ7_copyOf_6403c_3 (by decide) (fun c => absurd rfl c) (fun c_3 => ?_)
  refine lv_iload_n hC.1 hC.2.1 dJ7_copyOf_6403c_6 rfl (lv_at hl 1 rfl) ?_
  refine ec_newQ hC hK hS nJ7_2 n2 rfl (by omega) (Nat.le_of_ble_eq_true rfl) (by show 0 + n2 ≤ 100; omega) dJ7_copyOf_6403c_7 (fun q H hq h2 hkp hS hz => ?_)
  refine W.widen (k := 1) (n := 100) (by omega) (by omega) ?_
  have hb := hb.kp hkp
  have hel : ∀ i : Nat, i < n → ∀ y : Nat, g i = some y → ecEl G y H := fun i h1 y h2 => (hel i h1 y h2).kp hkp
  refine lv_goto (tgt := 24) hC.1 hC.2.1 dJ7_copyOf_6403c_10 (by decide) ?_
  refine lv_astore_n (lv' := [(3, .ref q), (0, .ref b), (1, .int (nI n2)), (2, .ref (ecMi G))]) hC.1 hC.2.1 dJ7_copyOf_6403c_24 rfl hl (by decide) rfl (fun ls hl => ?_)
  refine lv_aload_n hC.1 hC.2.1 dJ7_copyOf_6403c_25 rfl (lv_at hl 1 rfl) ?_
  refine lv_iconst (v := 0) hC.1 hC.2.1 dJ7_copyOf_6403c_26 (by decide) ?_
  refine lv_aload_n hC.1 hC.2.1 dJ7_copyOf_6403c_27 rfl (lv_at hl 0 rfl) ?_
  refine lv_iconst (v := 0) hC.1 hC.2.1 dJ7_copyOf_6403c_28 (by decide) ?_
  refine lv_aload_n hC.1 hC.2.1 dJ7_copyOf_6403c_29 rfl (lv_at hl 1 rfl) ?_
  refine ec_lenQ hC hK hb dJ7_copyOf_6403c_30 ?_
  refine lv_iload_n hC.1 hC.2.1 dJ7_copyOf_6403c_31 rfl (lv_at hl 2 rfl) ?_
  refine va_mmin hC.1 hC.2.1 (by rw [hC.2.2.1]; exact hl.1.symm) hC.2.2.2.1 (hC.2.2.2.2 _ q354) (hC.2.2.2.2 _ q355) (hC.2.2.2.2 _ q12) (hC.2.2.2.2 _ qMin) (Nat.le_of_ble_eq_true rfl) (Nat.le_of_ble_eq_true rfl) (Nat.le_of_ble_eq_true rfl) (Nat.le_of_ble_eq_true rfl) dJ7_copyOf_6403c_32 ?_
  refine ec_topi (y := nI n) (if_neg (nI_nlt (by omega) (by omega))) ?_
  refine ec_copy hC hK hS q357 hb h2 (by rw [hq, hsz]; exact Nat.le_refl _) n (by omega) (Nat.le_refl _) (by omega) hel hl.1 (Nat.le_of_ble_eq_true rfl) (Nat.le_of_ble_eq_true rfl) dJ7_copyOf_6403c_35 (fun H locs h2 o9 z9 hS => ?_)
  refine lv_aload_n hC.1 hC.2.1 dJ7_copyOf_6403c_38 rfl (lv_at hl 0 rfl) ?_
  exact W.aret hC.1 hC.2.1 hr (Or.inr ⟨_, rfl⟩) (Or.inr ⟨_, rfl⟩) (fun t9 ht9 _ => ⟨_, rfl, by rw [ht9]; exact ⟨q, rfl, h2, by rw [hq, hsz]; exact Nat.le_refl _⟩, hS.F ht9⟩) hS.2.2 dJ7_copyOf_6403c_39

theorem ec_arrc {G : ecG} {s : State} (hK : ecKx G s) {b n : Nat} {g : Nat → Option Nat} {H : Heap} (hb : ecA G b (eQ G n g) H) : ∃ cell : Cell, H[b]? = some cell ∧ cell.vm.isStatics = false ∧ s.vm.findClass "[Ljava/lang/Object;" = some cell.cls := by
  obtain ⟨kA, comp, -, -, -, h4⟩ := (hK.1.2 3 _ rfl).2
  exact ⟨_, hb, rfl, h4⟩

set_option maxHeartbeats 4000000 in
set_option maxRecDepth 100000 in
/-- a longer row -/
theorem c_J7_copyOf_1904c (l : Launch) (G : ecG) (b n n2 sz : Nat) (g : Nat → Option Nat) (h1 : n ≤ n2) (h100 : n2 ≤ 100) : Met l yJ7_copyOf_1904c (ecWs yJ7_copyOf_1904c cJ7_copyOf_1904c 2 (Option.some (FieldType.array (FieldType.object "java/lang/Object")))) (ecRm 3 1 100) (ecPc [.ref b, .int (nI n2)] G (fun H => H.size = sz ∧ ecA G b (eQ G n g) H ∧ (∀ i : Nat, i < n → ∀ y : Nat, g i = some y → ecEl G y H))) (ecEp (fun v H1 => ∃ q : Nat, v = some (.ref q) ∧ (ecA G q (eQ G n2 (va_cpy g (fun _ => none) 0 0 n)) H1 ∧ sz ≤ q)) (fun x : Nat => sz ≤ x)) 1 100 (fun x : Nat => sz ≤ x) := by
  refine ec_met (by decide) (Nat.le_of_ble_eq_true rfl) ?_
  intro p e s m below meth c hC hr hlocks hname hOk hpre ls hl
  have hK := hOk.1
  obtain ⟨hsz, hb, hel⟩ := hpre
  have hS : va_S (fun x : Nat => sz ≤ x) s.heap s.heap [] := va_S.rf
  have hAN : ∀ q, (fun x : Nat => sz ≤ x) q → ecN0 G ≤ q := fun q h => Nat.le_trans hOk.2.1 (by rw [hsz]; exact h)
  have hl : lv_has ls 2 [(0, .ref b), (1, .int (nI n2))] := hl
  refine lv_aload_n hC.1 hC.2.1 dJ7_copyOf_1904c_0 rfl (lv_at hl 0 rfl) ?_
  refine lv_iload_n hC.1 hC.2.1 dJ7_copyOf_1904c_1 rfl (lv_at hl 1 rfl) ?_
  refine lv_aload_n hC.1 hC.2.1 dJ7_copyOf_1904c_2 rfl (lv_at hl 0 rfl) ?_
  refine va_getC (C := "[Ljava/lang/Object;") hC.1 hC.2.1 (by rw [hC.2.2.1]; exact hl.1.symm) hC.2.2.2.1 (hC.2.2.2.2 _ q332) (va_Dc.use hK.2.2.2.1) (hC.2.2.2.2 _ q737) (hC.2.2.2.2 _ q333) (hC.2.2.2.2 _ q347) hK.2.2.1 (ec_arrc hK hb) (Nat.le_of_ble_eq_true rfl) (Nat.le_of_ble_eq_true rfl) dJ7_copyOf_1904c_3 ?_
  refine ec_goEq (ec_rS hC (c_J7_copyOf_6403c l G b n n2 sz g h1 h100) kJ7_300 (hOk.at hS hAN) ⟨hsz, hb, hel⟩ hl.1 ⟨Nat.le_of_ble_eq_true rfl, Nat.le_of_ble_eq_true rfl⟩ rfl (Nat.le_of_ble_eq_true rfl) dJ7_copyOf_1904c_6 ⟨Nat.le_of_ble_eq_true rfl, Nat.le_of_ble_eq_true rfl⟩) hS (fun _ h => h) (fun q H locs hp hz hk1 hS => ?_)
  exact W.aret hC.1 hC.2.1 hr (Or.inr ⟨_, rfl⟩) (Or.inr ⟨_, rfl⟩) (fun t9 ht9 _ => ⟨_, rfl, by rw [ht9]; exact ⟨q, rfl, hp⟩, hS.F ht9⟩) hS.2.2 dJ7_copyOf_1904c_9

set_option maxHeartbeats 4000000 in
set_option maxRecDepth 100000 in
/-- the first row is made: ten places -/
theorem c_growF (l : Launch) (G : ecG) (a sz : Nat) (v0 v2 : Value) (hN : ecN0 G ≤ a) : Met l yJx4a65c_grow_92f84 (ecWs yJx4a65c_grow_92f84 cJx4a65c_grow_92f84 4 (Option.some (FieldType.array (FieldType.object "java/lang/Object")))) (ecRm 5 1 100) (ecPc [.ref a, .int (nI 1)] G (fun H => H.size = sz ∧ ecA G a (eO 7 [v0, .ref (ecTe G), v2]) H)) (ecEp (fun v H1 => ∃ q : Nat, v = some (.ref q) ∧ (ecA G a (eO 7 [v0, .ref q, v2]) H1 ∧ ecA G q (eQ G 10 (fun _ => none)) H1 ∧ sz ≤ q)) (fun x : Nat => x = a ∨ sz ≤ x)) 1 100 (fun x : Nat => x = a ∨ sz ≤ x) := by
  refine ec_met (by decide) (Nat.le_of_ble_eq_true rfl) ?_
  intro p e s m below meth c hC hr hlocks hname hOk hpre ls hl
  have hK := hOk.1
  obtain ⟨hsz, ha⟩ := hpre
  have hS : va_S (fun x : Nat => x = a ∨ sz ≤ x) s.heap s.heap [] := va_S.rf
  have hAN : ∀ q, (fun x : Nat => x = a ∨ sz ≤ x) q → ecN0 G ≤ q := fun q h => h.elim (fun h => by rw [h]; exact hN) (fun h => Nat.le_trans hOk.2.1 (by rw [hsz]; exact h))
  have hl : lv_has ls 4 [(0, .ref a), (1, .int (nI 1))] := hl
  have hlt := ha.lt
  refine lv_aload_n hC.1 hC.2.1 dJx4a65c_grow_92f84_0 rfl (lv_at hl 0 rfl) ?_
  refine ec_get hC hK ha fJx4a65c_9 rfl dJx4a65c_grow_92f84_1 ?_
  refine va_tlen hC.1 hC.2.1 (hOk.2.2.2.2.2.narrow hAN) hS (v := 0) rfl dJx4a65c_grow_92f84_4 ?_
  refine lv_istore_n (lv' := [(2, .int 0), (0, .ref a), (1, .int (nI 1))]) hC.1 hC.2.1 dJx4a65c_grow_92f84_5 rfl hl (by decide) rfl (fun ls hl => ?_)
  refine lv_iload_n hC.1 hC.2.1 dJx4a65c_grow_92f84_6 rfl (lv_at hl 0 rfl) ?_
  refine lv_if_gt (tgt := 20) hC.1 hC.2.1 dJx4a65c_grow_92f84_7 (by decide) (fun c => absurd c (by decide)) (fun _ => ?_)
  refine lv_aload_n hC.1 hC.2.1 dJx4a65c_grow_92f84_10 rfl (lv_at hl 1 rfl) ?_
  refine ec_get hC hK ha fJx4a65c_9 rfl dJx4a65c_grow_92f84_11 ?_
  refine va_gets hC.1 hC.2.1 (hOk.2.2.2.2.1.narrow hAN) hS hC.2.2.2.1 (hC.2.2.2.2 _ q44) (fun _ h => h) dJx4a65c_grow_92f84_14 ?_
  refine lv_acmp_eq (rx := (some (ecTe G))) (ry := (some (ecTe G))) (tgt := 45) hC.1 hC.2.1 dJx4a65c_grow_92f84_17 (by decide) (fun c_17 => ?_) (fun c => absurd rfl c)
  refine lv_aload_n hC.1 hC.2.1 dJx4a65c_grow_92f84_45 rfl (lv_at hl 1 rfl) ?_
  refine lv_bipush (v := 10) hC.1 hC.2.1 dJx4a65c_grow_92f84_46 (by decide) ?_
  refine lv_iload_n hC.1 hC.2.1 dJx4a65c_grow_92f84_48 rfl (lv_at hl 2 rfl) ?_
  refine va_mmax hC.1 hC.2.1 (by rw [hC.2.2.1]; exact hl.1.symm) hC.2.2.2.1 (hC.2.2.2.2 _ q360) (hC.2.2.2.2 _ q323) (hC.2.2.2.2 _ q12) (hC.2.2.2.2 _ qMax) (Nat.le_of_ble_eq_true rfl) (Nat.le_of_ble_eq_true rfl) (Nat.le_of_ble_eq_true rfl) (Nat.le_of_ble_eq_true rfl) dJx4a65c_grow_92f84_49 ?_
  refine ec_topi (y := nI 10) (by decide) ?_
  refine ec_newQ hC hK hS nJx4a65c_7 10 rfl (by omega) (Nat.le_of_ble_eq_true rfl) (Nat.le_of_ble_eq_true rfl) dJx4a65c_grow_92f84_52 (fun q H hq h2 hkp hS hz => ?_)
  have ha := ha.kp hkp
  have hqa : q ≠ a := fun z => Nat.ne_of_lt hlt (by rw [← z, hq])
  refine lv_dup_x1 hC.1 hC.2.1 dJx4a65c_grow_92f84_55 rfl rfl ?_
  refine ec_put hC hK hS ha (Or.inl rfl) fJx4a65c_9 rfl rfl rfl (Nat.le_of_ble_eq_true rfl) dJx4a65c_grow_92f84_56 (fun H locs h9 o9 z9 hS => ?_)
  have ha : ecA G a (eO 7 [v0, .ref q, v2]) H := h9
  refine W.widen (k := 1) (n := 100) (Nat.le_of_ble_eq_true rfl) (Nat.le_of_ble_eq_true rfl) ?_
  exact W.aret hC.1 hC.2.1 hr (Or.inr ⟨_, rfl⟩) (Or.inr ⟨_, rfl⟩) (fun t9 ht9 _ => ⟨_, rfl, by rw [ht9]; exact ⟨q, rfl, ha, h2.kept (o9 _ hqa), by rw [hq, hsz]; exact Nat.le_refl _⟩, hS.F ht9⟩) hS.2.2 dJx4a65c_grow_92f84_59

set_option maxHeartbeats 4000000 in
set_option maxRecDepth 100000 in
/-- a full row grows by half -/
theorem c_growH (l : Launch) (G : ecG) (a b n sz : Nat) (v0 v2 : Value) (g : Nat → Option Nat) (hN : ecN0 G ≤ a) (h10 : 10 ≤ n) (h60 : n ≤ 60) : Met l yJx4a65c_grow_92f84 (ecWs yJx4a65c_grow_92f84 cJx4a65c_grow_92f84 4 (Option.some (FieldType.array (FieldType.object "java/lang/Object")))) (ecRm 5 1 100) (ecPc [.ref a, .int (nI (n + 1))] G (fun H => H.size = sz ∧ ecA G a (eO 7 [v0, .ref b, v2]) H ∧ ecA G b (eQ G n g) H ∧ (∀ i : Nat, i < n → ∀ y : Nat, g i = some y → ecEl G y H))) (ecEp (fun v H1 => ∃ q : Nat, v = some (.ref q) ∧ (ecA G a (eO 7 [v0, .ref q, v2]) H1 ∧ ecA G q (eQ G (n + n / 2) (va_cpy g (fun _ => none) 0 0 n)) H1 ∧ sz ≤ q)) (fun x : Nat => x = a ∨ sz ≤ x)) 1 100 (fun x : Nat => x = a ∨ sz ≤ x) := by
  refine ec_met (by decide) (Nat.le_of_ble_eq_true rfl) ?_
  intro p e s m below meth c hC hr hlocks hname hOk hpre ls hl
  have hK := hOk.1
  obtain ⟨hsz, ha, hb, hel⟩ := hpre
  have hS : va_S (fun x : Nat => x = a ∨ sz ≤ x) s.heap s.heap [] := va_S.rf
  have hAN : ∀ q, (fun x : Nat => x = a ∨ sz ≤ x) q → ecN0 G ≤ q := fun q h => h.elim (fun h => by rw [h]; exact hN) (fun h => Nat.le_trans hOk.2.1 (by rw [hsz]; exact h))
  have hl : lv_has ls 4 [(0, .ref a), (1, .int (nI (n + 1)))] := hl
  have hlt := ha.lt
  refine lv_aload_n hC.1 hC.2.1 dJx4a65c_grow_92f84_0 rfl (lv_at hl 0 rfl) ?_
  refine ec_get hC hK ha fJx4a65c_9 rfl dJx4a65c_grow_92f84_1 ?_
  refine ec_lenQ hC hK hb dJx4a65c_grow_92f84_4 ?_
  refine lv_istore_n (lv' := [(2, .int (nI n)), (0, .ref a), (1, .int (nI (n + 1)))]) hC.1 hC.2.1 dJx4a65c_grow_92f84_5 rfl hl (by decide) rfl (fun ls hl => ?_)
  refine lv_iload_n hC.1 hC.2.1 dJx4a65c_grow_92f84_6 rfl (lv_at hl 0 rfl) ?_
  refine lv_if_gt (tgt := 20) hC.1 hC.2.1 dJx4a65c_grow_92f84_7 (by decide) (fun c_7 => ?_) (fun c => absurd (show (0 : Int32) < nI n by have := nI_lt (a := 0) (b := n) (by omega) (by omega); exact this) c)
  refine lv_iload_n hC.1 hC.2.1 dJx4a65c_grow_92f84_20 rfl (lv_at hl 0 rfl) ?_
  refine lv_iload_n hC.1 hC.2.1 dJx4a65c_grow_92f84_21 rfl (lv_at hl 2 rfl) ?_
  refine lv_iload_n hC.1 hC.2.1 dJx4a65c_grow_92f84_22 rfl (lv_at hl 0 rfl) ?_
  refine lv_isub hC.1 hC.2.1 dJx4a65c_grow_92f84_23 ?_
  refine ec_topi (y := (nI 1)) (by rw [pk_sub (by omega), Nat.add_sub_cancel_left]) ?_
  refine lv_iload_n hC.1 hC.2.1 dJx4a65c_grow_92f84_24 rfl (lv_at hl 0 rfl) ?_
  refine lv_iconst (v := 1) hC.1 hC.2.1 dJx4a65c_grow_92f84_25 (by decide) ?_
  refine lv_ishr hC.1 hC.2.1 dJx4a65c_grow_92f84_26 ?_
  refine ec_topi (y := nI (n / 2)) (by have k := pk_shrN (n := n) (by omega) ((1 : Int32) &&& 31) 1 (by decide); rw [Nat.pow_one] at k; exact k) ?_
  refine ec_go1 (ec_rS hC (c_J8_newLength_cabcc l G n h10 h60) kJx4a65c_73 (hOk.at hS hAN) trivial hl.1 ⟨Nat.le_of_ble_eq_true rfl, Nat.le_of_ble_eq_true rfl⟩ rfl (Nat.le_of_ble_eq_true rfl) dJx4a65c_grow_92f84_27 ⟨Nat.le_of_ble_eq_true rfl, Nat.le_of_ble_eq_true rfl⟩) ?_
  refine lv_istore_n (lv' := [(3, .int (nI (n + n / 2))), (2, .int (nI n)), (0, .ref a), (1, .int (nI (n + 1)))]) hC.1 hC.2.1 dJx4a65c_grow_92f84_30 rfl hl (by decide) rfl (fun ls hl => ?_)
  refine lv_aload_n hC.1 hC.2.1 dJx4a65c_grow_92f84_31 rfl (lv_at hl 2 rfl) ?_
  refine lv_aload_n hC.1 hC.2.1 dJx4a65c_grow_92f84_32 rfl (lv_at hl 2 rfl) ?_
  refine ec_get hC hK ha fJx4a65c_9 rfl dJx4a65c_grow_92f84_33 ?_
  refine lv_iload_n hC.1 hC.2.1 dJx4a65c_grow_92f84_36 rfl (lv_at hl 0 rfl) ?_
  refine ec_goEq (ec_rS hC (c_J7_copyOf_1904c l G b n (n + n / 2) sz g (by omega) (by omega)) kJx4a65c_66 (hOk.at hS hAN) ⟨hsz, hb, hel⟩ hl.1 ⟨Nat.le_of_ble_eq_true rfl, Nat.le_of_ble_eq_true rfl⟩ rfl (Nat.le_of_ble_eq_true rfl) dJx4a65c_grow_92f84_37 ⟨Nat.le_of_ble_eq_true rfl, Nat.le_of_ble_eq_true rfl⟩) hS (fun _ h => Or.inr h) (fun q H locs hp hz hk1 hS => ?_)
  have ha := ha.un hk1 (by show ¬ sz ≤ a; have := ha.lt; omega)
  have hqa : q ≠ a := fun z => Nat.lt_irrefl sz (Nat.lt_of_le_of_lt hp.2 (by rw [z, ← hsz]; exact hlt))
  refine lv_dup_x1 hC.1 hC.2.1 dJx4a65c_grow_92f84_40 rfl rfl ?_
  refine ec_put hC hK hS ha (Or.inl rfl) fJx4a65c_9 rfl rfl rfl (Nat.le_of_ble_eq_true rfl) dJx4a65c_grow_92f84_41 (fun H locs h9 o9 z9 hS => ?_)
  have ha : ecA G a (eO 7 [v0, .ref q, v2]) H := h9
  exact W.aret hC.1 hC.2.1 hr (Or.inr ⟨_, rfl⟩) (Or.inr ⟨_, rfl⟩) (fun t9 ht9 _ => ⟨_, rfl, by rw [ht9]; exact ⟨q, rfl, ha, hp.1.kept (o9 _ hqa), hp.2⟩, hS.F ht9⟩) hS.2.2 dJx4a65c_grow_92f84_44

set_option maxHeartbeats 4000000 in
set_option maxRecDepth 100000 in
/-- the first row is made -/
theorem c_grow0F (l : Launch) (G : ecG) (a sz : Nat) (v0 : Value) (hN : ecN0 G ≤ a) : Met l yJx4a65c_grow_d5877 (ecWs yJx4a65c_grow_d5877 cJx4a65c_grow_d5877 1 (Option.some (FieldType.array (FieldType.object "java/lang/Object")))) (ecRm 6 1 100) (ecPc [.ref a] G (fun H => H.size = sz ∧ ecA G a (eO 7 [v0, .ref (ecTe G), .int 0]) H)) (ecEp (fun v H1 => ∃ q : Nat, v = some (.ref q) ∧ (ecA G a (eO 7 [v0, .ref q, .int 0]) H1 ∧ ecA G q (eQ G 10 (fun _ => none)) H1 ∧ sz ≤ q)) (fun x : Nat => x = a ∨ sz ≤ x)) 1 100 (fun x : Nat => x = a ∨ sz ≤ x) := by
  refine ec_met (by decide) (Nat.le_of_ble_eq_true rfl) ?_
  intro p e s m below meth c hC hr hlocks hname hOk hpre ls hl
  have hK := hOk.1
  obtain ⟨hsz, ha⟩ := hpre
  have hS : va_S (fun x : Nat => x = a ∨ sz ≤ x) s.heap s.heap [] := va_S.rf
  have hAN : ∀ q, (fun x : Nat => x = a ∨ sz ≤ x) q → ecN0 G ≤ q := fun q h => h.elim (fun h => by rw [h]; exact hN) (fun h => Nat.le_trans hOk.2.1 (by rw [hsz]; exact h))
  have hl : lv_has ls 1 [(0, .ref a)] := hl
  refine lv_aload_n hC.1 hC.2.1 dJx4a65c_grow_d5877_0 rfl (lv_at hl 0 rfl) ?_
  refine lv_aload_n hC.1 hC.2.1 dJx4a65c_grow_d5877_1 rfl (lv_at hl 0 rfl) ?_
  refine ec_get hC hK ha fJx4a65c_48 rfl dJx4a65c_grow_d5877_2 ?_
  refine lv_iconst (v := 1) hC.1 hC.2.1 dJx4a65c_grow_d5877_5 (by decide) ?_
  refine lv_iadd hC.1 hC.2.1 dJx4a65c_grow_d5877_6 ?_
  refine ec_topi (y := 1) (by decide) ?_
  refine ec_topi (y := nI 1) (by decide) ?_
  refine ec_goEq (ec_rV hC (c_growF l G a sz v0 (.int 0) hN) kJx4a65c_69 (hOk.at hS hAN) ⟨hsz, ha⟩ (ec_rc hK ha ⟨_, _, rfl⟩) hl.1 ⟨Nat.le_of_ble_eq_true rfl, Nat.le_of_ble_eq_true rfl⟩ rfl (Nat.le_of_ble_eq_true rfl) dJx4a65c_grow_d5877_7 ⟨Nat.le_of_ble_eq_true rfl, Nat.le_of_ble_eq_true rfl⟩) hS (fun _ h => h) (fun q H locs hp hz hk1 hS => ?_)
  exact W.aret hC.1 hC.2.1 hr (Or.inr ⟨_, rfl⟩) (Or.inr ⟨_, rfl⟩) (fun t9 ht9 _ => ⟨_, rfl, by rw [ht9]; exact ⟨q, rfl, hp⟩, hS.F ht9⟩) hS.2.2 dJx4a65c_grow_d5877_10

set_option maxHeartbeats 4000000 in
set_option maxRecDepth 100000 in
/-- a full row grows -/
theorem c_grow0H (l : Launch) (G : ecG) (a b n sz : Nat) (v0 : Value) (g : Nat → Option Nat) (hN : ecN0 G ≤ a) (h10 : 10 ≤ n) (h60 : n ≤ 60) : Met l yJx4a65c_grow_d5877 (ecWs yJx4a65c_grow_d5877 cJx4a65c_grow_d5877 1 (Option.some (FieldType.array (FieldType.object "java/lang/Object")))) (ecRm 6 1 100) (ecPc [.ref a] G (fun H => H.size = sz ∧ ecA G a (eO 7 [v0, .ref b, .int (nI n)]) H ∧ ecA G b (eQ G n g) H ∧ (∀ i : Nat, i < n → ∀ y : Nat, g i = some y → ecEl G y H))) (ecEp (fun v H1 => ∃ q : Nat, v = some (.ref q) ∧ (ecA G a (eO 7 [v0, .ref q, .int (nI n)]) H1 ∧ ecA G q (eQ G (n + n / 2) (va_cpy g (fun _ => none) 0 0 n)) H1 ∧ sz ≤ q)) (fun x : Nat => x = a ∨ sz ≤ x)) 1 100 (fun x : Nat => x = a ∨ sz ≤ x) := by
  refine ec_met (by decide) (Nat.le_of_ble_eq_true rfl) ?_
  intro p e s m below meth c hC hr hlocks hname hOk hpre ls hl
  have hK := hOk.1
  obtain ⟨hsz, ha, hb, hel⟩ := hpre
  have hS : va_S (fun x : Nat => x = a ∨ sz ≤ x) s.heap s.heap [] := va_S.rf
  have hAN : ∀ q, (fun x : Nat => x = a ∨ sz ≤ x) q → ecN0 G ≤ q := fun q h => h.elim (fun h => by rw [h]; exact hN) (fun h => Nat.le_trans hOk.2.1 (by rw [hsz]; exact h))
  have hl : lv_has ls 1 [(0, .ref a)] := hl
  refine lv_aload_n hC.1 hC.2.1 dJx4a65c_grow_d5877_0 rfl (lv_at hl 0 rfl) ?_
  refine lv_aload_n hC.1 hC.2.1 dJx4a65c_grow_d5877_1 rfl (lv_at hl 0 rfl) ?_
  refine ec_get hC hK ha fJx4a65c_48 rfl dJx4a65c_grow_d5877_2 ?_
  refine lv_iconst (v := 1) hC.1 hC.2.1 dJx4a65c_grow_d5877_5 (by decide) ?_
  refine lv_iadd hC.1 hC.2.1 dJx4a65c_grow_d5877_6 ?_
  refine ec_topi (y := nI (n + 1)) (nI_1 n) ?_
  refine ec_goEq (ec_rV hC (c_growH l G a b n sz v0 (.int (nI n)) g hN h10 h60) kJx4a65c_69 (hOk.at hS hAN) ⟨hsz, ha, hb, hel⟩ (ec_rc hK ha ⟨_, _, rfl⟩) hl.1 ⟨Nat.le_of_ble_eq_true rfl, Nat.le_of_ble_eq_true rfl⟩ rfl (Nat.le_of_ble_eq_true rfl) dJx4a65c_grow_d5877_7 ⟨Nat.le_of_ble_eq_true rfl, Nat.le_of_ble_eq_true rfl⟩) hS (fun _ h => h) (fun q H locs hp hz hk1 hS => ?_)
  exact W.aret hC.1 hC.2.1 hr (Or.inr ⟨_, rfl⟩) (Or.inr ⟨_, rfl⟩) (fun t9 ht9 _ => ⟨_, rfl, by rw [ht9]; exact ⟨q, rfl, hp⟩, hS.F ht9⟩) hS.2.2 dJx4a65c_grow_d5877_10
