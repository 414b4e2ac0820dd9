set_option maxHeartbeats 4000000 in
set_option maxRecDepth 100000 in
/-- room is there -/
theorem c_add3 (l : Launch) (G : ecG) (a b e0 n cap : Nat) (v0 : Value) (g : Nat → Option Nat) (hN : ecN0 G ≤ a) (hN2 : ecN0 G ≤ b) (hab : a ≠ b) (hn : n < cap) (hcap : cap ≤ 60) : Met l yJx4a65c_add_72be8 (ecWs yJx4a65c_add_72be8 cJx4a65c_add_72be8 4 none) (ecRm 7 0 0) (ecPc [.ref a, .ref e0, .ref b, .int (nI n)] G (fun H => ecA G a (eO 7 [v0, .ref b, .int (nI n)]) H ∧ ecA G b (eQ G cap g) H ∧ ecEl G e0 H)) (ecEp (fun v H1 => v = none ∧ (ecA G a (eO 7 [v0, .ref b, .int (nI (n + 1))]) H1 ∧ ecA G b (eQ G cap (va_up g n (some e0))) H1)) (fun x : Nat => x = a ∨ x = b)) 0 0 (fun x : Nat => x = a ∨ x = b) := by
  refine ec_met (by decide) (Nat.le_of_ble_eq_true rfl) ?_
  intro p e s m below meth c hC hr hlocks hname hOk hpre ls hl
  have hK := hOk.1
  obtain ⟨ha, hb, he⟩ := hpre
  have hS : va_S (fun x : Nat => x = a ∨ x = b) s.heap s.heap [] := va_S.rf
  have hAN : ∀ q, (fun x : Nat => x = a ∨ x = b) q → ecN0 G ≤ q := fun q h => h.elim (fun h => by rw [h]; exact hN) (fun h => by rw [h]; exact hN2)
  have hl : lv_has ls 4 [(0, .ref a), (1, .ref e0), (2, .ref b), (3, .int (nI n))] := hl
  refine lv_iload_n hC.1 hC.2.1 dJx4a65c_add_72be8_0 rfl (lv_at hl 3 rfl) ?_
  refine lv_aload_n hC.1 hC.2.1 dJx4a65c_add_72be8_1 rfl (lv_at hl 2 rfl) ?_
  refine ec_lenQ hC hK hb dJx4a65c_add_72be8_2 ?_
  refine lv_icmp_ne (tgt := 11) hC.1 hC.2.1 dJx4a65c_add_72be8_3 (by decide) (fun c_3 => ?_) (fun c => absurd c (fun z => Nat.ne_of_lt hn ((nI_eq (by omega) (by omega)).mp z)))
  refine lv_aload_n hC.1 hC.2.1 dJx4a65c_add_72be8_11 rfl (lv_at hl 2 rfl) ?_
  refine lv_iload_n hC.1 hC.2.1 dJx4a65c_add_72be8_12 rfl (lv_at hl 3 rfl) ?_
  refine lv_aload_n hC.1 hC.2.1 dJx4a65c_add_72be8_13 rfl (lv_at hl 1 rfl) ?_
  refine ec_astq hC hK hS hb (Or.inr rfl) (he.any hK) n rfl hn (by omega) dJx4a65c_add_72be8_14 (fun H locs h9 o9 z9 hS => ?_)
  have h10 := h9
  have ha := ha.kept (o9 _ hab)
  refine lv_aload_n hC.1 hC.2.1 dJx4a65c_add_72be8_15 rfl (lv_at hl 0 rfl) ?_
  refine lv_iload_n hC.1 hC.2.1 dJx4a65c_add_72be8_16 rfl (lv_at hl 3 rfl) ?_
  refine lv_iconst (v := 1) hC.1 hC.2.1 dJx4a65c_add_72be8_17 (by decide) ?_
  refine lv_iadd hC.1 hC.2.1 dJx4a65c_add_72be8_18 ?_
  refine ec_topi (y := nI (n + 1)) (nI_1 n) ?_
  refine ec_put hC hK hS ha (Or.inl rfl) fJx4a65c_48 rfl rfl rfl (Nat.le_of_ble_eq_true rfl) dJx4a65c_add_72be8_19 (fun H locs h9 o9 z9 hS => ?_)
  have ha : ecA G a (eO 7 [v0, .ref b, .int (nI (n + 1))]) H := h9
  exact W.vret hC.1 hC.2.1 hr (fun t9 ht9 _ => ⟨_, rfl, by rw [ht9]; exact ⟨rfl, ha, h10.kept (o9 _ (fun z => hab z.symm))⟩, hS.F ht9⟩) hS.2.2 dJx4a65c_add_72be8_22

set_option maxHeartbeats 4000000 in
set_option maxRecDepth 100000 in
/-- the first of all -/
theorem c_add3F (l : Launch) (G : ecG) (a e0 sz : Nat) (v0 : Value) (hN : ecN0 G ≤ a) (hea : e0 ≠ a) : Met l yJx4a65c_add_72be8 (ecWs yJx4a65c_add_72be8 cJx4a65c_add_72be8 4 none) (ecRm 7 1 100) (ecPc [.ref a, .ref e0, .ref (ecTe G), .int 0] G (fun H => H.size = sz ∧ ecA G a (eO 7 [v0, .ref (ecTe G), .int 0]) H ∧ ecEl G e0 H)) (ecEp (fun v H1 => v = none ∧ ∃ b : Nat, sz ≤ b ∧ (ecA G a (eO 7 [v0, .ref b, .int (nI 1)]) H1 ∧ ecA G b (eQ G 10 (va_up (fun _ => none) 0 (some e0))) H1)) (fun x : Nat => x = a ∨ sz ≤ x)) 1 100 (fun x : Nat => x = a ∨ sz ≤ x) := by
  refine ec_met (by decide) (Nat.le_of_ble_eq_true rfl) ?_
  intro p e s m below meth c hC hr hlocks hname hOk hpre ls hl
  have hK := hOk.1
  obtain ⟨hsz, ha, he⟩ := hpre
  have hS : va_S (fun x : Nat => x = a ∨ sz ≤ x) s.heap s.heap [] := va_S.rf
  have hAN : ∀ q, (fun x : Nat => x = a ∨ sz ≤ x) q → ecN0 G ≤ q := fun q h => h.elim (fun h => by rw [h]; exact hN) (fun h => Nat.le_trans hOk.2.1 (by rw [hsz]; exact h))
  have hl : lv_has ls 4 [(0, .ref a), (1, .ref e0), (2, .ref (ecTe G)), (3, .int 0)] := hl
  have hlt := ha.lt
  refine lv_iload_n hC.1 hC.2.1 dJx4a65c_add_72be8_0 rfl (lv_at hl 3 rfl) ?_
  refine lv_aload_n hC.1 hC.2.1 dJx4a65c_add_72be8_1 rfl (lv_at hl 2 rfl) ?_
  refine va_tlen hC.1 hC.2.1 (hOk.2.2.2.2.2.narrow hAN) hS (v := 0) rfl dJx4a65c_add_72be8_2 ?_
  refine lv_icmp_ne (tgt := 11) hC.1 hC.2.1 dJx4a65c_add_72be8_3 (by decide) (fun c => absurd rfl c) (fun _ => ?_)
  refine lv_aload_n hC.1 hC.2.1 dJx4a65c_add_72be8_6 rfl (lv_at hl 0 rfl) ?_
  refine ec_goEq (ec_rV hC (c_grow0F l G a sz v0 hN) kJx4a65c_129 (hOk.at hS hAN) ⟨hsz, ha⟩ (ec_rc hK ha ⟨_, _, rfl⟩) hl.1 ⟨Nat.le_of_ble_eq_true rfl, Nat.le_of_ble_eq_true rfl⟩ rfl (Nat.le_of_ble_eq_true rfl) dJx4a65c_add_72be8_7 ⟨Nat.le_of_ble_eq_true rfl, Nat.le_of_ble_eq_true rfl⟩) hS (fun _ h => h) (fun b H locs hp hz hk1 hS => ?_)
  obtain ⟨ha, hb, hbs⟩ := hp
  have he := he.kept (hk1 _ he.lt (by show ¬ (e0 = a ∨ sz ≤ e0); have := he.lt; omega))
  have hab : a ≠ b := fun z => Nat.lt_irrefl sz (Nat.lt_of_le_of_lt hbs (by rw [← z, ← hsz]; exact hlt))
  refine lv_astore_n (lv' := [(2, .ref b), (0, .ref a), (1, .ref e0), (3, .int 0)]) hC.1 hC.2.1 dJx4a65c_add_72be8_10 rfl hl (by decide) rfl (fun ls hl => ?_)
  refine lv_aload_n hC.1 hC.2.1 dJx4a65c_add_72be8_11 rfl (lv_at hl 0 rfl) ?_
  refine lv_iload_n hC.1 hC.2.1 dJx4a65c_add_72be8_12 rfl (lv_at hl 3 rfl) ?_
  refine lv_aload_n hC.1 hC.2.1 dJx4a65c_add_72be8_13 rfl (lv_at hl 2 rfl) ?_
  refine ec_astq hC hK hS hb (Or.inr hbs) (he.any hK) 0 rfl (by omega) (by omega) dJx4a65c_add_72be8_14 (fun H locs h9 o9 z9 hS => ?_)
  have h10 := h9
  have ha := ha.kept (o9 _ hab)
  refine lv_aload_n hC.1 hC.2.1 dJx4a65c_add_72be8_15 rfl (lv_at hl 1 rfl) ?_
  refine lv_iload_n hC.1 hC.2.1 dJx4a65c_add_72be8_16 rfl (lv_at hl 3 rfl) ?_
  refine lv_iconst (v := 1) hC.1 hC.2.1 dJx4a65c_add_72be8_17 (by decide) ?_
  refine lv_iadd hC.1 hC.2.1 dJx4a65c_add_72be8_18 ?_
  refine ec_topi (y := 1) (by decide) ?_
  refine ec_topi (y := nI 1) (by decide) ?_
  refine ec_put hC hK hS ha (Or.inl rfl) fJx4a65c_48 rfl rfl rfl (Nat.le_of_ble_eq_true rfl) dJx4a65c_add_72be8_19 (fun H locs h9 o9 z9 hS => ?_)
  have ha : ecA G a (eO 7 [v0, .ref b, .int (nI 1)]) H := h9
  exact W.vret hC.1 hC.2.1 hr (fun t9 ht9 _ => ⟨_, rfl, by rw [ht9]; exact ⟨rfl, b, hbs, ha, h10.kept (o9 _ (fun z => hab z.symm))⟩, hS.F ht9⟩) hS.2.2 dJx4a65c_add_72be8_22

set_option maxHeartbeats 4000000 in
set_option maxRecDepth 100000 in
/-- the row is full -/
theorem c_add3H (l : Launch) (G : ecG) (a b e0 n sz : Nat) (v0 : Value) (g : Nat → Option Nat) (hN : ecN0 G ≤ a) (hea : e0 ≠ a) (h10 : 10 ≤ n) (h60 : n < 40) : Met l yJx4a65c_add_72be8 (ecWs yJx4a65c_add_72be8 cJx4a65c_add_72be8 4 none) (ecRm 7 1 100) (ecPc [.ref a, .ref e0, .ref b, .int (nI n)] G (fun H => H.size = sz ∧ ecA G a (eO 7 [v0, .ref b, .int (nI n)]) H ∧ ecA G b (eQ G n g) H ∧ (∀ i : Nat, i < n → ∀ y : Nat, g i = some y → ecEl G y H) ∧ ecEl G e0 H)) (ecEp (fun v H1 => v = none ∧ ∃ b2 : Nat, sz ≤ b2 ∧ (ecA G a (eO 7 [v0, .ref b2, .int (nI (n + 1))]) H1 ∧ ecA G b2 (eQ G (n + n / 2) (va_up (va_cpy g (fun _ => none) 0 0 n) n (some e0))) H1)) (fun x : Nat => x = a ∨ sz ≤ x)) 1 100 (fun x : Nat => x = a ∨ sz ≤ x) := by
  refine ec_met (by decide) (Nat.le_of_ble_eq_true rfl) ?_
  intro p e s m below meth c hC hr hlocks hname hOk hpre ls hl
  have hK := hOk.1
  obtain ⟨hsz, ha, hb, hel, he⟩ := hpre
  have hS : va_S (fun x : Nat => x = a ∨ sz ≤ x) s.heap s.heap [] := va_S.rf
  have hAN : ∀ q, (fun x : Nat => x = a ∨ sz ≤ x) q → ecN0 G ≤ q := fun q h => h.elim (fun h => by rw [h]; exact hN) (fun h => Nat.le_trans hOk.2.1 (by rw [hsz]; exact h))
  have hl : lv_has ls 4 [(0, .ref a), (1, .ref e0), (2, .ref b), (3, .int (nI n))] := hl
  have hlt := ha.lt
  refine lv_iload_n hC.1 hC.2.1 dJx4a65c_add_72be8_0 rfl (lv_at hl 3 rfl) ?_
  refine lv_aload_n hC.1 hC.2.1 dJx4a65c_add_72be8_1 rfl (lv_at hl 2 rfl) ?_
  refine ec_lenQ hC hK hb dJx4a65c_add_72be8_2 ?_
  refine lv_icmp_ne (tgt := 11) hC.1 hC.2.1 dJx4a65c_add_72be8_3 (by decide) (fun c => absurd rfl c) (fun c_3 => ?_)
  refine lv_aload_n hC.1 hC.2.1 dJx4a65c_add_72be8_6 rfl (lv_at hl 0 rfl) ?_
  refine ec_goEq (ec_rV hC (c_grow0H l G a b n sz v0 g hN h10 (by omega)) kJx4a65c_129 (hOk.at hS hAN) ⟨hsz, ha, hb, hel⟩ (ec_rc hK ha ⟨_, _, rfl⟩) hl.1 ⟨Nat.le_of_ble_eq_true rfl, Nat.le_of_ble_eq_true rfl⟩ rfl (Nat.le_of_ble_eq_true rfl) dJx4a65c_add_72be8_7 ⟨Nat.le_of_ble_eq_true rfl, Nat.le_of_ble_eq_true rfl⟩) hS (fun _ h => h) (fun b2 H locs hp hz hk1 hS => ?_)
  obtain ⟨ha, hb, hbs⟩ := hp
  have he := he.kept (hk1 _ he.lt (by show ¬ (e0 = a ∨ sz ≤ e0); have := he.lt; omega))
  have hab : a ≠ b2 := fun z => Nat.lt_irrefl sz (Nat.lt_of_le_of_lt hbs (by rw [← z, ← hsz]; exact hlt))
  refine lv_astore_n (lv' := [(2, .ref b2), (0, .ref a), (1, .ref e0), (3, .int (nI n))]) hC.1 hC.2.1 dJx4a65c_add_72be8_10 rfl hl (by decide) rfl (fun ls hl => ?_)
  refine lv_aload_n hC.1 hC.2.1 dJx4a65c_add_72be8_11 rfl (lv_at hl 0 rfl) ?_
  refine lv_iload_n hC.1 hC.2.1 dJx4a65c_add_72be8_12 rfl (lv_at hl 3 rfl) ?_
  refine lv_aload_n hC.1 hC.2.1 dJx4a65c_add_72be8_13 rfl (lv_at hl 2 rfl) ?_
  refine ec_astq hC hK hS hb (Or.inr hbs) (he.any hK) n rfl (by omega) (by omega) dJx4a65c_add_72be8_14 (fun H locs h9 o9 z9 hS => ?_)
  have h11 := h9
  have ha := ha.kept (o9 _ hab)
  refine lv_aload_n hC.1 hC.2.1 dJx4a65c_add_72be8_15 rfl (lv_at hl 1 rfl) ?_
  refine lv_iload_n hC.1 hC.2.1 dJx4a65c_add_72be8_16 rfl (lv_at hl 3 rfl) ?_
  refine lv_iconst (v := 1) hC.1 hC.2.1 dJx4a65c_add_72be8_17 (by decide) ?_
  refine lv_iadd hC.1 hC.2.1 dJx4a65c_add_72be8_18 ?_
  refine ec_topi (y := nI (n + 1)) (nI_1 n) ?_
  refine ec_put hC hK hS ha (Or.inl rfl) fJx4a65c_48 rfl rfl rfl (Nat.le_of_ble_eq_true rfl) dJx4a65c_add_72be8_19 (fun H locs h9 o9 z9 hS => ?_)
  have ha : ecA G a (eO 7 [v0, .ref b2, .int (nI (n + 1))]) H := h9
  exact W.vret hC.1 hC.2.1 hr (fun t9 ht9 _ => ⟨_, rfl, by rw [ht9]; exact ⟨rfl, b2, hbs, ha, h11.kept (o9 _ (fun z => hab z.symm))⟩, hS.F ht9⟩) hS.2.2 dJx4a65c_add_72be8_22

/-- a list of n things f 0 .. f (n - 1): its object lo, its row da (of no meaning while it is empty) -/
def ecLx (G : ecG) (lo da n : Nat) (f : Nat → Nat) (H : Heap) : Prop := ∃ mc : Int32, (n = 0 ∧ ecA G lo (eO 7 [.int mc, .ref (ecTe G), .int 0]) H) ∨
  (∃ (cap : Nat) (g : Nat → Option Nat), 10 ≤ cap ∧ cap ≤ 60 ∧ n ≤ cap ∧ ecA G lo (eO 7 [.int mc, .ref da, .int (nI n)]) H ∧ ecA G da (eQ G cap g) H ∧ ∀ i, i < n → g i = some (f i))
theorem ecLx.obj {G : ecG} {lo da n : Nat} {f : Nat → Nat} {H : Heap} (h : ecLx G lo da n f H) : ∃ v0 v1, ecA G lo (eO 7 [v0, v1, .int (nI n)]) H := by
  obtain ⟨mc, ⟨rfl, h⟩ | ⟨cap, g, -, -, -, h, -⟩⟩ := h
  · exact ⟨_, _, h⟩
  · exact ⟨_, _, h⟩
theorem ecLx.kept {G : ecG} {lo da n : Nat} {f : Nat → Nat} {H H1 : Heap} (h : ecLx G lo da n f H) (k1 : H1[lo]? = H[lo]?) (k2 : da < H.size → H1[da]? = H[da]?) : ecLx G lo da n f H1 := by
  obtain ⟨mc, ⟨hn, h⟩ | ⟨cap, g, a1, a2, a3, h, h2, h3⟩⟩ := h
  · exact ⟨mc, Or.inl ⟨hn, h.kept k1⟩⟩
  · exact ⟨mc, Or.inr ⟨cap, g, a1, a2, a3, h.kept k1, h2.kept (k2 h2.lt), h3⟩⟩
theorem ecLx.el {G : ecG} {lo da n i : Nat} {f : Nat → Nat} {H : Heap} (h : ecLx G lo da n f H) (hi : i < n) : ∃ (v0 : Value) (cap : Nat) (g : Nat → Option Nat), cap ≤ 60 ∧ n ≤ cap ∧ ecA G lo (eO 7 [v0, .ref da, .int (nI n)]) H ∧ ecA G da (eQ G cap g) H ∧ g i = some (f i) := by
  obtain ⟨mc, ⟨rfl, h⟩ | ⟨cap, g, a1, a2, a3, h, h2, h3⟩⟩ := h
  · omega
  · exact ⟨_, cap, g, a2, a3, h, h2, h3 i hi⟩
theorem ecLx.three {G : ecG} {lo da n : Nat} {f : Nat → Nat} {H : Heap} (h : ecLx G lo da n f H) : ∃ mc : Int32, (n = 0 ∧ ecA G lo (eO 7 [.int mc, .ref (ecTe G), .int 0]) H) ∨
    (∃ (cap : Nat) (g : Nat → Option Nat), 10 ≤ cap ∧ cap ≤ 60 ∧ n < cap ∧ ecA G lo (eO 7 [.int mc, .ref da, .int (nI n)]) H ∧ ecA G da (eQ G cap g) H ∧ ∀ i, i < n → g i = some (f i)) ∨
    (∃ (g : Nat → Option Nat), 10 ≤ n ∧ ecA G lo (eO 7 [.int mc, .ref da, .int (nI n)]) H ∧ ecA G da (eQ G n g) H ∧ ∀ i, i < n → g i = some (f i)) := by
  obtain ⟨mc, h | ⟨cap, g, a1, a2, a3, h, h2, h3⟩⟩ := h
  · exact ⟨mc, Or.inl h⟩
  · rcases Nat.lt_or_ge n cap with hl | hl
    · exact ⟨mc, Or.inr (Or.inl ⟨cap, g, a1, a2, hl, h, h2, h3⟩)⟩
    · have e : cap = n := by omega
      subst e
      exact ⟨mc, Or.inr (Or.inr ⟨g, a1, h, h2, h3⟩)⟩
theorem ecLx.to {G : ecG} {lo da n : Nat} {f f2 : Nat → Nat} {H : Heap} (h : ecLx G lo da n f H) (hf : ∀ i, i < n → f i = f2 i) : ecLx G lo da n f2 H := by
  obtain ⟨mc, h | ⟨cap, g, a1, a2, a3, h, h2, h3⟩⟩ := h
  · exact ⟨mc, Or.inl h⟩
  · exact ⟨mc, Or.inr ⟨cap, g, a1, a2, a3, h, h2, fun i hi => (h3 i hi).trans (by rw [hf i hi])⟩⟩

set_option maxHeartbeats 4000000 in
set_option maxRecDepth 100000 in
/-- a list grows by one -/
theorem c_add (l : Launch) (G : ecG) (lo da e0 n sz : Nat) (f : Nat → Nat) (hN : ecN0 G ≤ lo) (hN2 : ecN0 G ≤ da) (hld : da ≠ lo) (hn : n < 40) (hne1 : e0 ≠ lo) (hne2 : ∀ i, i < n → f i ≠ lo) : Met l yJx4a65c_add_9ea2d (ecWs yJx4a65c_add_9ea2d cJx4a65c_add_9ea2d 2 (Option.some FieldType.boolean)) (ecRm 8 1 100) (ecPc [.ref lo, .ref e0] G (fun H => H.size = sz ∧ ecLx G lo da n f H ∧ (∀ i, i < n → ecEl G (f i) H) ∧ ecEl G e0 H)) (ecEp (fun v H1 => v = some (.int 1) ∧ ∃ da2 : Nat, (da2 = da ∨ sz ≤ da2) ∧ ecLx G lo da2 (n + 1) (fun i => if i = n then e0 else f i) H1) (fun x : Nat => x = lo ∨ x = da ∨ sz ≤ x)) 1 100 (fun x : Nat => x = lo ∨ x = da ∨ sz ≤ x) := by
  refine ec_met (by decide) (Nat.le_of_ble_eq_true rfl) ?_
  intro p e s m below meth c hC hr hlocks hname hOk hpre ls hl
  have hK := hOk.1
  obtain ⟨hsz, hL, hel, he⟩ := hpre
  have hS : va_S (fun x : Nat => x = lo ∨ x = da ∨ sz ≤ x) s.heap s.heap [] := va_S.rf
  have hAN : ∀ q, (fun x : Nat => x = lo ∨ x = da ∨ sz ≤ x) q → ecN0 G ≤ q := fun q h => h.elim (fun h => by rw [h]; exact hN) (fun h => h.elim (fun h => by rw [h]; exact hN2) (fun h => Nat.le_trans hOk.2.1 (by rw [hsz]; exact h)))
  have hl : lv_has ls 2 [(0, .ref lo), (1, .ref e0)] := hl
  obtain ⟨mc, ⟨hn0, ha⟩ | ⟨cap, g, hc10, hc60, hlt, ha, hb, hg⟩ | ⟨g, hc10, ha, hb, hg⟩⟩ := hL.three
  · subst hn0
    refine lv_aload_n hC.1 hC.2.1 dJx4a65c_add_9ea2d_0 rfl (lv_at hl 0 rfl) ?_
    refine lv_dup hC.1 hC.2.1 dJx4a65c_add_9ea2d_1 rfl ?_
    refine ec_get hC hK ha fJx4a65c_63 rfl dJx4a65c_add_9ea2d_2 ?_
    refine lv_iconst (v := 1) hC.1 hC.2.1 dJx4a65c_add_9ea2d_5 (by decide) ?_
    refine lv_iadd hC.1 hC.2.1 dJx4a65c_add_9ea2d_6 ?_
    refine ec_put hC hK hS ha (Or.inl rfl) fJx4a65c_63 rfl rfl rfl (Nat.le_of_ble_eq_true rfl) dJx4a65c_add_9ea2d_7 (fun H locs h9 o9 z9 hS => ?_)
    have ha : ecA G lo (eO 7 [.int (mc + 1), .ref (ecTe G), .int 0]) H := h9
    have he := he.kept (o9 _ hne1)
    have hsz := z9.trans hsz
    refine lv_aload_n hC.1 hC.2.1 dJx4a65c_add_9ea2d_10 rfl (lv_at hl 0 rfl) ?_
    refine lv_aload_n hC.1 hC.2.1 dJx4a65c_add_9ea2d_11 rfl (lv_at hl 1 rfl) ?_
    refine lv_aload_n hC.1 hC.2.1 dJx4a65c_add_9ea2d_12 rfl (lv_at hl 0 rfl) ?_
    refine ec_get hC hK ha fJx4a65c_9 rfl dJx4a65c_add_9ea2d_13 ?_
    refine lv_aload_n hC.1 hC.2.1 dJx4a65c_add_9ea2d_16 rfl (lv_at hl 0 rfl) ?_
    refine ec_get hC hK ha fJx4a65c_48 rfl dJx4a65c_add_9ea2d_17 ?_
    refine ec_goE0 (ec_rV hC (c_add3F l G lo e0 sz (.int (mc + 1)) hN hne1) kJx4a65c_131 (hOk.at hS hAN) ⟨hsz, ha, he⟩ (ec_rc hK ha ⟨_, _, rfl⟩) hl.1 ⟨Nat.le_of_ble_eq_true rfl, Nat.le_of_ble_eq_true rfl⟩ rfl (Nat.le_of_ble_eq_true rfl) dJx4a65c_add_9ea2d_20 ⟨Nat.le_of_ble_eq_true rfl, Nat.le_of_ble_eq_true rfl⟩) hS (fun _ h => h.elim Or.inl (fun h => Or.inr (Or.inr h))) (fun H locs hp hz hk1 hS => ?_)
    refine lv_iconst (v := 1) hC.1 hC.2.1 dJx4a65c_add_9ea2d_23 (by decide) ?_
    obtain ⟨b, hbs, h1, h2⟩ := hp
    exact W.zret hC.1 hC.2.1 hr rfl (fun t9 ht9 _ => ⟨_, rfl, by rw [ht9]; exact ⟨rfl, b, Or.inr hbs, _, Or.inr ⟨10, _, by omega, by omega, by omega, h1, h2, fun i hi => by rw [show i = 0 by omega]; simp [va_up]⟩⟩, hS.F ht9⟩) hS.2.2 dJx4a65c_add_9ea2d_24
  · refine lv_aload_n hC.1 hC.2.1 dJx4a65c_add_9ea2d_0 rfl (lv_at hl 0 rfl) ?_
    refine lv_dup hC.1 hC.2.1 dJx4a65c_add_9ea2d_1 rfl ?_
    refine ec_get hC hK ha fJx4a65c_63 rfl dJx4a65c_add_9ea2d_2 ?_
    refine lv_iconst (v := 1) hC.1 hC.2.1 dJx4a65c_add_9ea2d_5 (by decide) ?_
    refine lv_iadd hC.1 hC.2.1 dJx4a65c_add_9ea2d_6 ?_
    refine ec_put hC hK hS ha (Or.inl rfl) fJx4a65c_63 rfl rfl rfl (Nat.le_of_ble_eq_true rfl) dJx4a65c_add_9ea2d_7 (fun H locs h9 o9 z9 hS => ?_)
    have ha : ecA G lo (eO 7 [.int (mc + 1), .ref da, .int (nI n)]) H := h9
    have he := he.kept (o9 _ hne1)
    have hsz := z9.trans hsz
    have hb := hb.kept (o9 _ hld)
    have hel : ∀ i, i < n → ecEl G (f i) H := fun i hi => (hel i hi).kept (o9 _ (hne2 i hi))
    refine lv_aload_n hC.1 hC.2.1 dJx4a65c_add_9ea2d_10 rfl (lv_at hl 0 rfl) ?_
    refine lv_aload_n hC.1 hC.2.1 dJx4a65c_add_9ea2d_11 rfl (lv_at hl 1 rfl) ?_
    refine lv_aload_n hC.1 hC.2.1 dJx4a65c_add_9ea2d_12 rfl (lv_at hl 0 rfl) ?_
    refine ec_get hC hK ha fJx4a65c_9 rfl dJx4a65c_add_9ea2d_13 ?_
    refine lv_aload_n hC.1 hC.2.1 dJx4a65c_add_9ea2d_16 rfl (lv_at hl 0 rfl) ?_
    refine ec_get hC hK ha fJx4a65c_48 rfl dJx4a65c_add_9ea2d_17 ?_
    refine ec_goE0 (ec_rV hC (c_add3 l G lo da e0 n cap (.int (mc + 1)) g hN hN2 (fun z => hld z.symm) hlt hc60) kJx4a65c_131 (hOk.at hS hAN) ⟨ha, hb, he⟩ (ec_rc hK ha ⟨_, _, rfl⟩) hl.1 ⟨Nat.le_of_ble_eq_true rfl, Nat.le_of_ble_eq_true rfl⟩ rfl (Nat.le_of_ble_eq_true rfl) dJx4a65c_add_9ea2d_20 ⟨Nat.le_of_ble_eq_true rfl, Nat.le_of_ble_eq_true rfl⟩) hS (fun _ h => h.elim Or.inl (fun h => Or.inr (Or.inl h))) (fun H locs hp hz hk1 hS => ?_)
    refine lv_iconst (v := 1) hC.1 hC.2.1 dJx4a65c_add_9ea2d_23 (by decide) ?_
    obtain ⟨h1, h2⟩ := hp
    refine W.widen (k := 1) (n := 100) (Nat.le_of_ble_eq_true rfl) (Nat.le_of_ble_eq_true rfl) ?_
    exact W.zret hC.1 hC.2.1 hr rfl (fun t9 ht9 _ => ⟨_, rfl, by rw [ht9]; exact ⟨rfl, da, Or.inl rfl, _, Or.inr ⟨cap, _, hc10, hc60, by omega, h1, h2, fun i hi => by by_cases h : i = n <;> simp [va_up, h]; exact hg i (by omega)⟩⟩, hS.F ht9⟩) hS.2.2 dJx4a65c_add_9ea2d_24
  · refine lv_aload_n hC.1 hC.2.1 dJx4a65c_add_9ea2d_0 rfl (lv_at hl 0 rfl) ?_
    refine lv_dup hC.1 hC.2.1 dJx4a65c_add_9ea2d_1 rfl ?_
    refine ec_get hC hK ha fJx4a65c_63 rfl dJx4a65c_add_9ea2d_2 ?_
    refine lv_iconst (v := 1) hC.1 hC.2.1 dJx4a65c_add_9ea2d_5 (by decide) ?_
    refine lv_iadd hC.1 hC.2.1 dJx4a65c_add_9ea2d_6 ?_
    refine ec_put hC hK hS ha (Or.inl rfl) fJx4a65c_63 rfl rfl rfl (Nat.le_of_ble_eq_true rfl) dJx4a65c_add_9ea2d_7 (fun H locs h9 o9 z9 hS => ?_)
    have ha : ecA G lo (eO 7 [.int (mc + 1), .ref da, .int (nI n)]) H := h9
    have he := he.kept (o9 _ hne1)
    have hsz := z9.trans hsz
    have hb := hb.kept (o9 _ hld)
    have hel : ∀ i, i < n → ecEl G (f i) H := fun i hi => (hel i hi).kept (o9 _ (hne2 i hi))
    refine lv_aload_n hC.1 hC.2.1 dJx4a65c_add_9ea2d_10 rfl (lv_at hl 0 rfl) ?_
    refine lv_aload_n hC.1 hC.2.1 dJx4a65c_add_9ea2d_11 rfl (lv_at hl 1 rfl) ?_
    refine lv_aload_n hC.1 hC.2.1 dJx4a65c_add_9ea2d_12 rfl (lv_at hl 0 rfl) ?_
    refine ec_get hC hK ha fJx4a65c_9 rfl dJx4a65c_add_9ea2d_13 ?_
    refine lv_aload_n hC.1 hC.2.1 dJx4a65c_add_9ea2d_16 rfl (lv_at hl 0 rfl) ?_
    refine ec_get hC hK ha fJx4a65c_48 rfl dJx4a65c_add_9ea2d_17 ?_
    refine ec_goE0 (ec_rV hC (c_add3H l G lo da e0 n sz (.int (mc + 1)) g hN hne1 hc10 hn) kJx4a65c_131 (hOk.at hS hAN) ⟨hsz, ha, hb, fun i hi y hy => by rw [hg i hi] at hy; cases hy; exact hel i hi, he⟩ (ec_rc hK ha ⟨_, _, rfl⟩) hl.1 ⟨Nat.le_of_ble_eq_true rfl, Nat.le_of_ble_eq_true rfl⟩ rfl (Nat.le_of_ble_eq_true rfl) dJx4a65c_add_9ea2d_20 ⟨Nat.le_of_ble_eq_true rfl, Nat.le_of_ble_eq_true rfl⟩) hS (fun _ h => h.elim Or.inl (fun h => Or.inr (Or.inr h))) (fun H locs hp hz hk1 hS => ?_)
    refine lv_iconst (v := 1) hC.1 hC.2.1 dJx4a65c_add_9ea2d_23 (by decide) ?_
    obtain ⟨b, hbs, h1, h2⟩ := hp
    exact W.zret hC.1 hC.2.1 hr rfl (fun t9 ht9 _ => ⟨_, rfl, by rw [ht9]; exact ⟨rfl, b, Or.inr hbs, _, Or.inr ⟨_, _, by omega, by omega, by omega, h1, h2, fun i hi => by by_cases h : i = n <;> simp [va_up, h]; rw [pk_cpy_in (Nat.zero_le _) (by omega), Nat.zero_add, Nat.sub_zero]; exact hg i (by omega)⟩⟩, hS.F ht9⟩) hS.2.2 dJx4a65c_add_9ea2d_24
