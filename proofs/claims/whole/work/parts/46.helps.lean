theorem tb_0 {x : Int32} (h : x = 0) : (0 : Int64) = x.toInt64 := by rw [h]; rfl
theorem tb_1 {a : Nat} (h : ¬ nI (a % 2) = 0) : (1 : Int64) = (nI (a % 2)).toInt64 := by
  rcases (show a % 2 = 0 ∨ a % 2 = 1 by omega) with q | q
  · rw [q] at h; exact absurd rfl h
  · rw [q]; rfl
theorem tb_b {b : Bool} (h : ¬ bI b = 0) : (1 : Int64) = (bI b).toInt64 := by rw [(bI_n0 b).mp h]; rfl

set_option maxHeartbeats 4000000 in
set_option maxRecDepth 100000 in
/-- the helper of addRoom -/
theorem c_L_addRoom (l : Launch) (hls : l.stackTraces = false) (G : ecG) (X : Nat → Prop) (M : ecM) (x zo : Nat) (f9 : Nat → Int64) (hz9 : ¬ X zo) (hN : ecN0 G ≤ zo)  : vx_Met l yL_addRoom (ecWh yL_addRoom cL_addRoom 3 (Option.some FieldType.int) [(0, 8, 11, 13)]) (ecRm 10 8 150) (ecPc [.ref x, .ref zo] G (fun H => ecXs G X H ∧ EC G X M x H ∧ ecA G zo (eJ G 1 f9) H)) (ecEp (fun v H1 => v = some (.int (nI (thAdd M))) ∧ EC G X (if thAdd M = 0 then addM M else M) x H1 ∧ ∃ f1 : Nat → Int64, ecA G zo (eJ G 1 f1) H1 ∧ (thAdd M = 0 → f1 0 = (nI (mnR M)).toInt64)) (fun q : Nat => X q ∨ q = zo)) (ecXc (fun _ => False)) 8 150 (fun q : Nat => X q ∨ q = zo) := by
  refine ec_hmet (by decide) (Nat.le_of_ble_eq_true rfl) ?_
  intro p e s m below meth c hC hr hlocks htab hOk hpre ls hl
  have hK := hOk.1
  obtain ⟨hXs, hEC, hz⟩ := hpre
  have hS : va_S (fun q : Nat => X q ∨ q = zo) s.heap s.heap [] := va_S.rf
  have hAN : ∀ q, (fun q : Nat => X q ∨ q = zo) q → ecN0 G ≤ q := fun q h => h.elim (hXs.1 q) (fun h => by rw [h]; exact hN)
  have hlab : ∃ fs, ecA G x (eO 5 fs) s.heap := by obtain ⟨tg9, ad9, hx9, hw9⟩ := hEC; exact ⟨_, hx9 ▸ hw9.1.1⟩
  obtain ⟨fs9, hlab⟩ := hlab
  have hl : lv_has ls 3 [(0, .ref x), (1, .ref zo)] := hl
  refine lv_aload_n hC.1 hC.2.1 dL_addRoom_0 rfl (lv_at hl 1 rfl) ?_
  refine lv_iconst (v := 0) hC.1 hC.2.1 dL_addRoom_1 (by decide) ?_
  refine lv_aload_n hC.1 hC.2.1 dL_addRoom_2 rfl (lv_at hl 0 rfl) ?_
  refine ec_goXE1 (ec_xV hC (c_X5_addRoom l hls G X M x ) kL_7 (hOk.at hS hAN) ⟨hXs, hEC⟩ (ec_rc hK hlab ⟨_, _, rfl⟩) hl.1 ⟨Nat.le_of_ble_eq_true rfl, Nat.le_of_ble_eq_true rfl⟩ rfl (Nat.le_of_ble_eq_true rfl) dL_addRoom_3 ⟨Nat.le_of_ble_eq_true rfl, Nat.le_of_ble_eq_true rfl⟩) hS (fun _ h => Or.inl h) (fun E9 ce9 q9 H locs hx hk9 hS h1 h2 h3 => ?_) (fun H locs hp hzs hk1 hS => ?_)
  · simp only [List.mem_cons, Prod.mk.injEq, List.not_mem_nil, or_false] at hx
    rcases hx with ⟨rfl, hT⟩
    · have hpas : ∀ z ∈ ([] : List ExceptionTableEntry), z.catchType ≠ 0 ∧ ∃ nm : String, Cond.classLink RL z.catchType nm ∈ GW ∧ (eIS, nm) ∈ ecNc := (fun z hz => nomatch hz)
      refine ec_catch hC hK htab [] ⟨0, 8, 11, 13⟩ [] rfl hpas (by decide) (by decide) q134 (by decide) h1 h2 h3 ?_
      refine lv_astore_n (lv' := [(2, .ref q9), (0, .ref x), (1, .ref zo)]) hC.1 hC.2.1 dL_addRoom_11 rfl hl (by decide) rfl (fun ls hl => ?_)
      refine lv_iconst (v := 1) hC.1 hC.2.1 dL_addRoom_12 (by decide) ?_
      refine vx_ret ?_
      exact W.iret hC.1 hC.2.1 hr (fun t9 ht9 _ => ⟨_, rfl, by rw [ht9]; exact ⟨by rw [hT]; rfl, by rw [if_neg (by rw [hT]; decide)]; exact hEC.kp hk9, f9, hz.kp hk9, fun z => absurd (hT.symm.trans z) (by decide)⟩, hS.F ht9⟩) hS.2.2 dL_addRoom_13
  · obtain ⟨hT, hEC⟩ := hp
    have hz := hz.kept (hk1 _ hz.lt hz9)
    refine lv_i2l hC.1 hC.2.1 dL_addRoom_6 rfl ?_
    refine ec_last hC hK hS hz (Or.inr rfl) 0 rfl (by omega) (by omega) dL_addRoom_7 (fun H locs h9 o9 z9 hS => ?_)
    have hEC := hEC.ot (Y := fun q => q = zo) (fun q _ hn => o9 q hn) (fun q hq z => hz9 (z ▸ hq))
    refine lv_goto (tgt := 14) hC.1 hC.2.1 dL_addRoom_8 (by decide) ?_
    refine lv_iconst (v := 0) hC.1 hC.2.1 dL_addRoom_14 (by decide) ?_
    refine vx_ret ?_
    exact W.iret hC.1 hC.2.1 hr (fun t9 ht9 _ => ⟨_, rfl, by rw [ht9]; exact ⟨by rw [hT]; rfl, by rw [if_pos hT]; exact hEC, _, h9, fun _ => rfl⟩, hS.F ht9⟩) hS.2.2 dL_addRoom_15

set_option maxHeartbeats 4000000 in
set_option maxRecDepth 100000 in
/-- the helper of setState -/
theorem c_L_setState (l : Launch) (hls : l.stackTraces = false) (G : ecG) (X : Nat → Prop) (M : ecM) (x zo : Nat) (f9 : Nat → Int64) (hz9 : ¬ X zo) (hN : ecN0 G ≤ zo) (r c0 s0 : Int32) (o : Bool) : vx_Met l yL_setState (ecWh yL_setState cL_setState 7 (Option.some FieldType.int) [(0, 14, 17, 19), (0, 14, 21, 21)]) (ecRm 10 8 150) (ecPc [.ref x, .int r, .int c0, .int s0, .int (bI o), .ref zo] G (fun H => ecXs G X H ∧ EC G X M x H ∧ ecA G zo (eJ G 1 f9) H)) (ecEp (fun v H1 => v = some (.int (nI (thSet M r c0 s0))) ∧ EC G X (if thSet M r c0 s0 = 0 then gvM M (cN r) (cdN c0 s0 o) else M) x H1 ∧ ∃ f1 : Nat → Int64, ecA G zo (eJ G 1 f1) H1 ∧ (thSet M r c0 s0 = 0 → f1 0 = (nI (dif (M.1 0 (cN r)) (cdN c0 s0 o))).toInt64)) (fun q : Nat => X q ∨ q = zo)) (ecXc (fun _ => False)) 8 150 (fun q : Nat => X q ∨ q = zo) := by
  refine ec_hmet (by decide) (Nat.le_of_ble_eq_true rfl) ?_
  intro p e s m below meth c hC hr hlocks htab hOk hpre ls hl
  have hK := hOk.1
  obtain ⟨hXs, hEC, hz⟩ := hpre
  have hS : va_S (fun q : Nat => X q ∨ q = zo) s.heap s.heap [] := va_S.rf
  have hAN : ∀ q, (fun q : Nat => X q ∨ q = zo) q → ecN0 G ≤ q := fun q h => h.elim (hXs.1 q) (fun h => by rw [h]; exact hN)
  have hlab : ∃ fs, ecA G x (eO 5 fs) s.heap := by obtain ⟨tg9, ad9, hx9, hw9⟩ := hEC; exact ⟨_, hx9 ▸ hw9.1.1⟩
  obtain ⟨fs9, hlab⟩ := hlab
  have hl : lv_has ls 7 [(0, .ref x), (1, .int r), (2, .int c0), (3, .int s0), (4, .int (bI o)), (5, .ref zo)] := hl
  refine lv_aload hC.1 hC.2.1 dL_setState_0 (lv_at hl 5 rfl) ?_
  refine lv_iconst (v := 0) hC.1 hC.2.1 dL_setState_2 (by decide) ?_
  refine lv_aload_n hC.1 hC.2.1 dL_setState_3 rfl (lv_at hl 0 rfl) ?_
  refine lv_iload_n hC.1 hC.2.1 dL_setState_4 rfl (lv_at hl 1 rfl) ?_
  refine lv_iload_n hC.1 hC.2.1 dL_setState_5 rfl (lv_at hl 2 rfl) ?_
  refine lv_iload_n hC.1 hC.2.1 dL_setState_6 rfl (lv_at hl 3 rfl) ?_
  refine lv_iload hC.1 hC.2.1 dL_setState_7 (lv_at hl 4 rfl) ?_
  refine ec_goXE1 (ec_xV hC (c_X5_setState l hls G X M x r c0 s0 o) kL_15 (hOk.at hS hAN) ⟨hXs, hEC⟩ (ec_rc hK hlab ⟨_, _, rfl⟩) hl.1 ⟨Nat.le_of_ble_eq_true rfl, Nat.le_of_ble_eq_true rfl⟩ rfl (Nat.le_of_ble_eq_true rfl) dL_setState_9 ⟨Nat.le_of_ble_eq_true rfl, Nat.le_of_ble_eq_true rfl⟩) hS (fun _ h => Or.inl h) (fun E9 ce9 q9 H locs hx hk9 hS h1 h2 h3 => ?_) (fun H locs hp hzs hk1 hS => ?_)
  · simp only [List.mem_cons, Prod.mk.injEq, List.not_mem_nil, or_false] at hx
    rcases hx with ⟨rfl, hT⟩ | ⟨rfl, hT⟩
    · have hpas : ∀ z ∈ ([] : List ExceptionTableEntry), z.catchType ≠ 0 ∧ ∃ nm : String, Cond.classLink RL z.catchType nm ∈ GW ∧ (eIX, nm) ∈ ecNc := (fun z hz => nomatch hz)
      refine ec_catch hC hK htab [] ⟨0, 14, 17, 19⟩ [⟨0, 14, 21, 21⟩] rfl hpas (by decide) (by decide) q308 (by decide) h1 h2 h3 ?_
      refine lv_astore (lv' := [(6, .ref q9), (0, .ref x), (1, .int r), (2, .int c0), (3, .int s0), (4, .int (bI o)), (5, .ref zo)]) hC.1 hC.2.1 dL_setState_17 hl (by decide) rfl (fun ls hl => ?_)
      refine lv_iconst (v := 1) hC.1 hC.2.1 dL_setState_19 (by decide) ?_
      refine vx_ret ?_
      exact W.iret hC.1 hC.2.1 hr (fun t9 ht9 _ => ⟨_, rfl, by rw [ht9]; exact ⟨by rw [hT]; rfl, by rw [if_neg (by rw [hT]; decide)]; exact hEC.kp hk9, f9, hz.kp hk9, fun z => absurd (hT.symm.trans z) (by decide)⟩, hS.F ht9⟩) hS.2.2 dL_setState_20
    · have hpas : ∀ z ∈ ([⟨0, 14, 17, 19⟩] : List ExceptionTableEntry), z.catchType ≠ 0 ∧ ∃ nm : String, Cond.classLink RL z.catchType nm ∈ GW ∧ (eAG, nm) ∈ ecNc := (fun z hz => by
          simp only [List.mem_cons, List.not_mem_nil, or_false] at hz
          rcases hz with rfl
          · exact ⟨by decide, _, q308, by decide⟩)
      refine ec_catch hC hK htab [⟨0, 14, 17, 19⟩] ⟨0, 14, 21, 21⟩ [] rfl hpas (by decide) (by decide) q309 (by decide) h1 h2 h3 ?_
      refine lv_astore (lv' := [(6, .ref q9), (0, .ref x), (1, .int r), (2, .int c0), (3, .int s0), (4, .int (bI o)), (5, .ref zo)]) hC.1 hC.2.1 dL_setState_21 hl (by decide) rfl (fun ls hl => ?_)
      refine lv_iconst (v := 2) hC.1 hC.2.1 dL_setState_23 (by decide) ?_
      refine vx_ret ?_
      exact W.iret hC.1 hC.2.1 hr (fun t9 ht9 _ => ⟨_, rfl, by rw [ht9]; exact ⟨by rw [hT]; rfl, by rw [if_neg (by rw [hT]; decide)]; exact hEC.kp hk9, f9, hz.kp hk9, fun z => absurd (hT.symm.trans z) (by decide)⟩, hS.F ht9⟩) hS.2.2 dL_setState_24
  · obtain ⟨hT, hEC⟩ := hp
    have hz := hz.kept (hk1 _ hz.lt hz9)
    refine lv_i2l hC.1 hC.2.1 dL_setState_12 rfl ?_
    refine ec_last hC hK hS hz (Or.inr rfl) 0 rfl (by omega) (by omega) dL_setState_13 (fun H locs h9 o9 z9 hS => ?_)
    have hEC := hEC.ot (Y := fun q => q = zo) (fun q _ hn => o9 q hn) (fun q hq z => hz9 (z ▸ hq))
    refine lv_goto (tgt := 25) hC.1 hC.2.1 dL_setState_14 (by decide) ?_
    refine lv_iconst (v := 0) hC.1 hC.2.1 dL_setState_25 (by decide) ?_
    refine vx_ret ?_
    exact W.iret hC.1 hC.2.1 hr (fun t9 ht9 _ => ⟨_, rfl, by rw [ht9]; exact ⟨by rw [hT]; rfl, by rw [if_pos hT]; exact hEC, _, h9, fun _ => rfl⟩, hS.F ht9⟩) hS.2.2 dL_setState_26

set_option maxHeartbeats 4000000 in
set_option maxRecDepth 100000 in
/-- the helper of curtains -/
theorem c_L_curtains (l : Launch) (hls : l.stackTraces = false) (G : ecG) (X : Nat → Prop) (M : ecM) (x zo : Nat) (f9 : Nat → Int64) (hz9 : ¬ X zo) (hN : ecN0 G ≤ zo) (r : Int32) : vx_Met l yL_curtains (ecWh yL_curtains cL_curtains 4 (Option.some FieldType.int) [(0, 9, 12, 19)]) (ecRm 10 8 150) (ecPc [.ref x, .int r, .ref zo] G (fun H => ecXs G X H ∧ EC G X M x H ∧ ecA G zo (eJ G 1 f9) H)) (ecEp (fun v H1 => v = some (.int (nI (thR M r))) ∧ EC G X (if thR M r = 0 then M else M) x H1 ∧ ∃ f1 : Nat → Int64, ecA G zo (eJ G 1 f1) H1 ∧ (thR M r = 0 → f1 0 = (nI (M.1 0 (cN r) / 20)).toInt64)) (fun q : Nat => X q ∨ q = zo)) (ecXc (fun _ => False)) 8 150 (fun q : Nat => X q ∨ q = zo) := by
  refine ec_hmet (by decide) (Nat.le_of_ble_eq_true rfl) ?_
  intro p e s m below meth c hC hr hlocks htab hOk hpre ls hl
  have hK := hOk.1
  obtain ⟨hXs, hEC, hz⟩ := hpre
  have hS : va_S (fun q : Nat => X q ∨ q = zo) s.heap s.heap [] := va_S.rf
  have hAN : ∀ q, (fun q : Nat => X q ∨ q = zo) q → ecN0 G ≤ q := fun q h => h.elim (hXs.1 q) (fun h => by rw [h]; exact hN)
  have hlab : ∃ fs, ecA G x (eO 5 fs) s.heap := by obtain ⟨tg9, ad9, hx9, hw9⟩ := hEC; exact ⟨_, hx9 ▸ hw9.1.1⟩
  obtain ⟨fs9, hlab⟩ := hlab
  have hl : lv_has ls 4 [(0, .ref x), (1, .int r), (2, .ref zo)] := hl
  refine lv_aload_n hC.1 hC.2.1 dL_curtains_0 rfl (lv_at hl 2 rfl) ?_
  refine lv_iconst (v := 0) hC.1 hC.2.1 dL_curtains_1 (by decide) ?_
  refine lv_aload_n hC.1 hC.2.1 dL_curtains_2 rfl (lv_at hl 0 rfl) ?_
  refine lv_iload_n hC.1 hC.2.1 dL_curtains_3 rfl (lv_at hl 1 rfl) ?_
  refine ec_goXE1 (ec_xV hC (c_X5_curtains l hls G X M x r) kL_23 (hOk.at hS hAN) ⟨hXs, hEC⟩ (ec_rc hK hlab ⟨_, _, rfl⟩) hl.1 ⟨Nat.le_of_ble_eq_true rfl, Nat.le_of_ble_eq_true rfl⟩ rfl (Nat.le_of_ble_eq_true rfl) dL_curtains_4 ⟨Nat.le_of_ble_eq_true rfl, Nat.le_of_ble_eq_true rfl⟩) hS (fun _ h => Or.inl h) (fun E9 ce9 q9 H locs hx hk9 hS h1 h2 h3 => ?_) (fun H locs hp hzs hk1 hS => ?_)
  · simp only [List.mem_cons, Prod.mk.injEq, List.not_mem_nil, or_false] at hx
    rcases hx with ⟨rfl, hT⟩
    · have hpas : ∀ z ∈ ([] : List ExceptionTableEntry), z.catchType ≠ 0 ∧ ∃ nm : String, Cond.classLink RL z.catchType nm ∈ GW ∧ (eIX, nm) ∈ ecNc := (fun z hz => nomatch hz)
      refine ec_catch hC hK htab [] ⟨0, 9, 12, 19⟩ [] rfl hpas (by decide) (by decide) q308 (by decide) h1 h2 h3 ?_
      refine lv_astore_n (lv' := [(3, .ref q9), (0, .ref x), (1, .int r), (2, .ref zo)]) hC.1 hC.2.1 dL_curtains_12 rfl hl (by decide) rfl (fun ls hl => ?_)
      refine lv_iconst (v := 1) hC.1 hC.2.1 dL_curtains_13 (by decide) ?_
      refine vx_ret ?_
      exact W.iret hC.1 hC.2.1 hr (fun t9 ht9 _ => ⟨_, rfl, by rw [ht9]; exact ⟨by rw [hT]; rfl, by rw [if_neg (by rw [hT]; decide)]; exact hEC.kp hk9, f9, hz.kp hk9, fun z => absurd (hT.symm.trans z) (by decide)⟩, hS.F ht9⟩) hS.2.2 dL_curtains_14
  · obtain ⟨hT, hEC⟩ := hp
    have hz := hz.kept (hk1 _ hz.lt hz9)
    refine lv_i2l hC.1 hC.2.1 dL_curtains_7 rfl ?_
    refine ec_last hC hK hS hz (Or.inr rfl) 0 rfl (by omega) (by omega) dL_curtains_8 (fun H locs h9 o9 z9 hS => ?_)
    have hEC := hEC.ot (Y := fun q => q = zo) (fun q _ hn => o9 q hn) (fun q hq z => hz9 (z ▸ hq))
    refine lv_goto (tgt := 15) hC.1 hC.2.1 dL_curtains_9 (by decide) ?_
    refine lv_iconst (v := 0) hC.1 hC.2.1 dL_curtains_15 (by decide) ?_
    refine vx_ret ?_
    exact W.iret hC.1 hC.2.1 hr (fun t9 ht9 _ => ⟨_, rfl, by rw [ht9]; exact ⟨by rw [hT]; rfl, by rw [if_pos hT]; exact hEC, _, h9, fun _ => rfl⟩, hS.F ht9⟩) hS.2.2 dL_curtains_16

set_option maxHeartbeats 4000000 in
set_option maxRecDepth 100000 in
/-- the helper of seats -/
theorem c_L_seats (l : Launch) (hls : l.stackTraces = false) (G : ecG) (X : Nat → Prop) (M : ecM) (x zo : Nat) (f9 : Nat → Int64) (hz9 : ¬ X zo) (hN : ecN0 G ≤ zo) (r : Int32) : vx_Met l yL_seats (ecWh yL_seats cL_seats 4 (Option.some FieldType.int) [(0, 9, 12, 19)]) (ecRm 10 8 150) (ecPc [.ref x, .int r, .ref zo] G (fun H => ecXs G X H ∧ EC G X M x H ∧ ecA G zo (eJ G 1 f9) H)) (ecEp (fun v H1 => v = some (.int (nI (thR M r))) ∧ EC G X (if thR M r = 0 then M else M) x H1 ∧ ∃ f1 : Nat → Int64, ecA G zo (eJ G 1 f1) H1 ∧ (thR M r = 0 → f1 0 = (nI (M.1 0 (cN r) % 20 / 2)).toInt64)) (fun q : Nat => X q ∨ q = zo)) (ecXc (fun _ => False)) 8 150 (fun q : Nat => X q ∨ q = zo) := by
  refine ec_hmet (by decide) (Nat.le_of_ble_eq_true rfl) ?_
  intro p e s m below meth c hC hr hlocks htab hOk hpre ls hl
  have hK := hOk.1
  obtain ⟨hXs, hEC, hz⟩ := hpre
  have hS : va_S (fun q : Nat => X q ∨ q = zo) s.heap s.heap [] := va_S.rf
  have hAN : ∀ q, (fun q : Nat => X q ∨ q = zo) q → ecN0 G ≤ q := fun q h => h.elim (hXs.1 q) (fun h => by rw [h]; exact hN)
  have hlab : ∃ fs, ecA G x (eO 5 fs) s.heap := by obtain ⟨tg9, ad9, hx9, hw9⟩ := hEC; exact ⟨_, hx9 ▸ hw9.1.1⟩
  obtain ⟨fs9, hlab⟩ := hlab
  have hl : lv_has ls 4 [(0, .ref x), (1, .int r), (2, .ref zo)] := hl
  refine lv_aload_n hC.1 hC.2.1 dL_seats_0 rfl (lv_at hl 2 rfl) ?_
  refine lv_iconst (v := 0) hC.1 hC.2.1 dL_seats_1 (by decide) ?_
  refine lv_aload_n hC.1 hC.2.1 dL_seats_2 rfl (lv_at hl 0 rfl) ?_
  refine lv_iload_n hC.1 hC.2.1 dL_seats_3 rfl (lv_at hl 1 rfl) ?_
  refine ec_goXE1 (ec_xV hC (c_X5_seats l hls G X M x r) kL_27 (hOk.at hS hAN) ⟨hXs, hEC⟩ (ec_rc hK hlab ⟨_, _, rfl⟩) hl.1 ⟨Nat.le_of_ble_eq_true rfl, Nat.le_of_ble_eq_true rfl⟩ rfl (Nat.le_of_ble_eq_true rfl) dL_seats_4 ⟨Nat.le_of_ble_eq_true rfl, Nat.le_of_ble_eq_true rfl⟩) hS (fun _ h => Or.inl h) (fun E9 ce9 q9 H locs hx hk9 hS h1 h2 h3 => ?_) (fun H locs hp hzs hk1 hS => ?_)
  · simp only [List.mem_cons, Prod.mk.injEq, List.not_mem_nil, or_false] at hx
    rcases hx with ⟨rfl, hT⟩
    · have hpas : ∀ z ∈ ([] : List ExceptionTableEntry), z.catchType ≠ 0 ∧ ∃ nm : String, Cond.classLink RL z.catchType nm ∈ GW ∧ (eIX, nm) ∈ ecNc := (fun z hz => nomatch hz)
      refine ec_catch hC hK htab [] ⟨0, 9, 12, 19⟩ [] rfl hpas (by decide) (by decide) q308 (by decide) h1 h2 h3 ?_
      refine lv_astore_n (lv' := [(3, .ref q9), (0, .ref x), (1, .int r), (2, .ref zo)]) hC.1 hC.2.1 dL_seats_12 rfl hl (by decide) rfl (fun ls hl => ?_)
      refine lv_iconst (v := 1) hC.1 hC.2.1 dL_seats_13 (by decide) ?_
      refine vx_ret ?_
      exact W.iret hC.1 hC.2.1 hr (fun t9 ht9 _ => ⟨_, rfl, by rw [ht9]; exact ⟨by rw [hT]; rfl, by rw [if_neg (by rw [hT]; decide)]; exact hEC.kp hk9, f9, hz.kp hk9, fun z => absurd (hT.symm.trans z) (by decide)⟩, hS.F ht9⟩) hS.2.2 dL_seats_14
  · obtain ⟨hT, hEC⟩ := hp
    have hz := hz.kept (hk1 _ hz.lt hz9)
    refine lv_i2l hC.1 hC.2.1 dL_seats_7 rfl ?_
    refine ec_last hC hK hS hz (Or.inr rfl) 0 rfl (by omega) (by omega) dL_seats_8 (fun H locs h9 o9 z9 hS => ?_)
    have hEC := hEC.ot (Y := fun q => q = zo) (fun q _ hn => o9 q hn) (fun q hq z => hz9 (z ▸ hq))
    refine lv_goto (tgt := 15) hC.1 hC.2.1 dL_seats_9 (by decide) ?_
    refine lv_iconst (v := 0) hC.1 hC.2.1 dL_seats_15 (by decide) ?_
    refine vx_ret ?_
    exact W.iret hC.1 hC.2.1 hr (fun t9 ht9 _ => ⟨_, rfl, by rw [ht9]; exact ⟨by rw [hT]; rfl, by rw [if_pos hT]; exact hEC, _, h9, fun _ => rfl⟩, hS.F ht9⟩) hS.2.2 dL_seats_16

set_option maxHeartbeats 4000000 in
set_option maxRecDepth 100000 in
/-- the helper of areOpen -/
theorem c_L_areOpen (l : Launch) (hls : l.stackTraces = false) (G : ecG) (X : Nat → Prop) (M : ecM) (x zo : Nat) (f9 : Nat → Int64) (hz9 : ¬ X zo) (hN : ecN0 G ≤ zo) (r : Int32) : vx_Met l yL_areOpen (ecWh yL_areOpen cL_areOpen 4 (Option.some FieldType.int) [(0, 16, 19, 19)]) (ecRm 10 8 150) (ecPc [.ref x, .int r, .ref zo] G (fun H => ecXs G X H ∧ EC G X M x H ∧ ecA G zo (eJ G 1 f9) H)) (ecEp (fun v H1 => v = some (.int (nI (thR M r))) ∧ EC G X (if thR M r = 0 then M else M) x H1 ∧ ∃ f1 : Nat → Int64, ecA G zo (eJ G 1 f1) H1 ∧ (thR M r = 0 → f1 0 = (nI (M.1 0 (cN r) % 2)).toInt64)) (fun q : Nat => X q ∨ q = zo)) (ecXc (fun _ => False)) 8 150 (fun q : Nat => X q ∨ q = zo) := by
  refine ec_hmet (by decide) (Nat.le_of_ble_eq_true rfl) ?_
  intro p e s m below meth c hC hr hlocks htab hOk hpre ls hl
  have hK := hOk.1
  obtain ⟨hXs, hEC, hz⟩ := hpre
  have hS : va_S (fun q : Nat => X q ∨ q = zo) s.heap s.heap [] := va_S.rf
  have hAN : ∀ q, (fun q : Nat => X q ∨ q = zo) q → ecN0 G ≤ q := fun q h => h.elim (hXs.1 q) (fun h => by rw [h]; exact hN)
  have hlab : ∃ fs, ecA G x (eO 5 fs) s.heap := by obtain ⟨tg9, ad9, hx9, hw9⟩ := hEC; exact ⟨_, hx9 ▸ hw9.1.1⟩
  obtain ⟨fs9, hlab⟩ := hlab
  have hl : lv_has ls 4 [(0, .ref x), (1, .int r), (2, .ref zo)] := hl
  refine lv_aload_n hC.1 hC.2.1 dL_areOpen_0 rfl (lv_at hl 2 rfl) ?_
  refine lv_iconst (v := 0) hC.1 hC.2.1 dL_areOpen_1 (by decide) ?_
  refine lv_aload_n hC.1 hC.2.1 dL_areOpen_2 rfl (lv_at hl 0 rfl) ?_
  refine lv_iload_n hC.1 hC.2.1 dL_areOpen_3 rfl (lv_at hl 1 rfl) ?_
  refine ec_goXE1 (ec_xV hC (c_X5_areOpen l hls G X M x r) kL_30 (hOk.at hS hAN) ⟨hXs, hEC⟩ (ec_rc hK hlab ⟨_, _, rfl⟩) hl.1 ⟨Nat.le_of_ble_eq_true rfl, Nat.le_of_ble_eq_true rfl⟩ rfl (Nat.le_of_ble_eq_true rfl) dL_areOpen_4 ⟨Nat.le_of_ble_eq_true rfl, Nat.le_of_ble_eq_true rfl⟩) hS (fun _ h => Or.inl h) (fun E9 ce9 q9 H locs hx hk9 hS h1 h2 h3 => ?_) (fun H locs hp hzs hk1 hS => ?_)
  · simp only [List.mem_cons, Prod.mk.injEq, List.not_mem_nil, or_false] at hx
    rcases hx with ⟨rfl, hT⟩
    · have hpas : ∀ z ∈ ([] : List ExceptionTableEntry), z.catchType ≠ 0 ∧ ∃ nm : String, Cond.classLink RL z.catchType nm ∈ GW ∧ (eIX, nm) ∈ ecNc := (fun z hz => nomatch hz)
      refine ec_catch hC hK htab [] ⟨0, 16, 19, 19⟩ [] rfl hpas (by decide) (by decide) q308 (by decide) h1 h2 h3 ?_
      refine lv_astore_n (lv' := [(3, .ref q9), (0, .ref x), (1, .int r), (2, .ref zo)]) hC.1 hC.2.1 dL_areOpen_19 rfl hl (by decide) rfl (fun ls hl => ?_)
      refine lv_iconst (v := 1) hC.1 hC.2.1 dL_areOpen_20 (by decide) ?_
      refine vx_ret ?_
      exact W.iret hC.1 hC.2.1 hr (fun t9 ht9 _ => ⟨_, rfl, by rw [ht9]; exact ⟨by rw [hT]; rfl, by rw [if_neg (by rw [hT]; decide)]; exact hEC.kp hk9, f9, hz.kp hk9, fun z => absurd (hT.symm.trans z) (by decide)⟩, hS.F ht9⟩) hS.2.2 dL_areOpen_21
  · obtain ⟨hT, hEC⟩ := hp
    have hz := hz.kept (hk1 _ hz.lt hz9)
    refine lv_if_eq (tgt := 14) hC.1 hC.2.1 dL_areOpen_7 (by decide) (fun c_7 => ?_) (fun c_7 => ?_)
    · refine lv_lconst (v := 0) hC.1 hC.2.1 dL_areOpen_14 (by decide) ?_
      refine ec_last hC hK hS hz (Or.inr rfl) 0 rfl (by omega) (by omega) dL_areOpen_15 (fun H locs h9 o9 z9 hS => ?_)
      have hEC := hEC.ot (Y := fun q => q = zo) (fun q _ hn => o9 q hn) (fun q hq z => hz9 (z ▸ hq))
      refine lv_goto (tgt := 22) hC.1 hC.2.1 dL_areOpen_16 (by decide) ?_
      refine lv_iconst (v := 0) hC.1 hC.2.1 dL_areOpen_22 (by decide) ?_
      refine vx_ret ?_
      exact W.iret hC.1 hC.2.1 hr (fun t9 ht9 _ => ⟨_, rfl, by rw [ht9]; exact ⟨by rw [hT]; rfl, by rw [if_pos hT]; exact hEC, _, h9, fun _ => (tb_0 c_7)⟩, hS.F ht9⟩) hS.2.2 dL_areOpen_23
    · refine lv_lconst (v := 1) hC.1 hC.2.1 dL_areOpen_10 (by decide) ?_
      refine lv_goto (tgt := 15) hC.1 hC.2.1 dL_areOpen_11 (by decide) ?_
      refine ec_last hC hK hS hz (Or.inr rfl) 0 rfl (by omega) (by omega) dL_areOpen_15 (fun H locs h9 o9 z9 hS => ?_)
      have hEC := hEC.ot (Y := fun q => q = zo) (fun q _ hn => o9 q hn) (fun q hq z => hz9 (z ▸ hq))
      refine lv_goto (tgt := 22) hC.1 hC.2.1 dL_areOpen_16 (by decide) ?_
      refine lv_iconst (v := 0) hC.1 hC.2.1 dL_areOpen_22 (by decide) ?_
      refine vx_ret ?_
      exact W.iret hC.1 hC.2.1 hr (fun t9 ht9 _ => ⟨_, rfl, by rw [ht9]; exact ⟨by rw [hT]; rfl, by rw [if_pos hT]; exact hEC, _, h9, fun _ => (tb_1 c_7)⟩, hS.F ht9⟩) hS.2.2 dL_areOpen_23

set_option maxHeartbeats 4000000 in
set_option maxRecDepth 100000 in
/-- the helper of changes -/
theorem c_L_changes (l : Launch) (hls : l.stackTraces = false) (G : ecG) (X : Nat → Prop) (M : ecM) (x zo : Nat) (f9 : Nat → Int64) (hz9 : ¬ X zo) (hN : ecN0 G ≤ zo) (r : Int32) : vx_Met l yL_changes (ecWh yL_changes cL_changes 4 (Option.some FieldType.int) [(0, 9, 12, 19)]) (ecRm 10 8 150) (ecPc [.ref x, .int r, .ref zo] G (fun H => ecXs G X H ∧ EC G X M x H ∧ ecA G zo (eJ G 1 f9) H)) (ecEp (fun v H1 => v = some (.int (nI (thR M r))) ∧ EC G X (if thR M r = 0 then M else M) x H1 ∧ ∃ f1 : Nat → Int64, ecA G zo (eJ G 1 f1) H1 ∧ (thR M r = 0 → f1 0 = (M.2.1 0 (cN r)).toInt64)) (fun q : Nat => X q ∨ q = zo)) (ecXc (fun _ => False)) 8 150 (fun q : Nat => X q ∨ q = zo) := by
  refine ec_hmet (by decide) (Nat.le_of_ble_eq_true rfl) ?_
  intro p e s m below meth c hC hr hlocks htab hOk hpre ls hl
  have hK := hOk.1
  obtain ⟨hXs, hEC, hz⟩ := hpre
  have hS : va_S (fun q : Nat => X q ∨ q = zo) s.heap s.heap [] := va_S.rf
  have hAN : ∀ q, (fun q : Nat => X q ∨ q = zo) q → ecN0 G ≤ q := fun q h => h.elim (hXs.1 q) (fun h => by rw [h]; exact hN)
  have hlab : ∃ fs, ecA G x (eO 5 fs) s.heap := by obtain ⟨tg9, ad9, hx9, hw9⟩ := hEC; exact ⟨_, hx9 ▸ hw9.1.1⟩
  obtain ⟨fs9, hlab⟩ := hlab
  have hl : lv_has ls 4 [(0, .ref x), (1, .int r), (2, .ref zo)] := hl
  refine lv_aload_n hC.1 hC.2.1 dL_changes_0 rfl (lv_at hl 2 rfl) ?_
  refine lv_iconst (v := 0) hC.1 hC.2.1 dL_changes_1 (by decide) ?_
  refine lv_aload_n hC.1 hC.2.1 dL_changes_2 rfl (lv_at hl 0 rfl) ?_
  refine lv_iload_n hC.1 hC.2.1 dL_changes_3 rfl (lv_at hl 1 rfl) ?_
  refine ec_goXE1 (ec_xV hC (c_X5_changes l hls G X M x r) kL_34 (hOk.at hS hAN) ⟨hXs, hEC⟩ (ec_rc hK hlab ⟨_, _, rfl⟩) hl.1 ⟨Nat.le_of_ble_eq_true rfl, Nat.le_of_ble_eq_true rfl⟩ rfl (Nat.le_of_ble_eq_true rfl) dL_changes_4 ⟨Nat.le_of_ble_eq_true rfl, Nat.le_of_ble_eq_true rfl⟩) hS (fun _ h => Or.inl h) (fun E9 ce9 q9 H locs hx hk9 hS h1 h2 h3 => ?_) (fun H locs hp hzs hk1 hS => ?_)
  · simp only [List.mem_cons, Prod.mk.injEq, List.not_mem_nil, or_false] at hx
    rcases hx with ⟨rfl, hT⟩
    · have hpas : ∀ z ∈ ([] : List ExceptionTableEntry), z.catchType ≠ 0 ∧ ∃ nm : String, Cond.classLink RL z.catchType nm ∈ GW ∧ (eIX, nm) ∈ ecNc := (fun z hz => nomatch hz)
      refine ec_catch hC hK htab [] ⟨0, 9, 12, 19⟩ [] rfl hpas (by decide) (by decide) q308 (by decide) h1 h2 h3 ?_
      refine lv_astore_n (lv' := [(3, .ref q9), (0, .ref x), (1, .int r), (2, .ref zo)]) hC.1 hC.2.1 dL_changes_12 rfl hl (by decide) rfl (fun ls hl => ?_)
      refine lv_iconst (v := 1) hC.1 hC.2.1 dL_changes_13 (by decide) ?_
      refine vx_ret ?_
      exact W.iret hC.1 hC.2.1 hr (fun t9 ht9 _ => ⟨_, rfl, by rw [ht9]; exact ⟨by rw [hT]; rfl, by rw [if_neg (by rw [hT]; decide)]; exact hEC.kp hk9, f9, hz.kp hk9, fun z => absurd (hT.symm.trans z) (by decide)⟩, hS.F ht9⟩) hS.2.2 dL_changes_14
  · obtain ⟨hT, hEC⟩ := hp
    have hz := hz.kept (hk1 _ hz.lt hz9)
    refine lv_i2l hC.1 hC.2.1 dL_changes_7 rfl ?_
    refine ec_last hC hK hS hz (Or.inr rfl) 0 rfl (by omega) (by omega) dL_changes_8 (fun H locs h9 o9 z9 hS => ?_)
    have hEC := hEC.ot (Y := fun q => q = zo) (fun q _ hn => o9 q hn) (fun q hq z => hz9 (z ▸ hq))
    refine lv_goto (tgt := 15) hC.1 hC.2.1 dL_changes_9 (by decide) ?_
    refine lv_iconst (v := 0) hC.1 hC.2.1 dL_changes_15 (by decide) ?_
    refine vx_ret ?_
    exact W.iret hC.1 hC.2.1 hr (fun t9 ht9 _ => ⟨_, rfl, by rw [ht9]; exact ⟨by rw [hT]; rfl, by rw [if_pos hT]; exact hEC, _, h9, fun _ => rfl⟩, hS.F ht9⟩) hS.2.2 dL_changes_16

set_option maxHeartbeats 4000000 in
set_option maxRecDepth 100000 in
/-- the helper of measure -/
theorem c_L_measure (l : Launch) (hls : l.stackTraces = false) (G : ecG) (X : Nat → Prop) (M : ecM) (x zo : Nat) (f9 : Nat → Int64) (hz9 : ¬ X zo) (hN : ecN0 G ≤ zo) (r pl a b c0 d : Int32) : vx_Met l yL_measure (ecWh yL_measure cL_measure 9 (Option.some FieldType.int) [(0, 18, 21, 19), (0, 18, 25, 21), (0, 18, 29, 13)]) (ecRm 10 8 150) (ecPc [.ref x, .int r, .int pl, .int a, .int b, .int c0, .int d, .ref zo] G (fun H => ecXs G X H ∧ EC G X M x H ∧ ecA G zo (eJ G 1 f9) H)) (ecEp (fun v H1 => v = some (.int (nI (thMes M r pl a b c0 d))) ∧ EC G X (if thMes M r pl a b c0 d = 0 then mesM M (cN r) pl a b c0 d else M) x H1 ∧ ∃ f1 : Nat → Int64, ecA G zo (eJ G 1 f1) H1 ∧ (thMes M r pl a b c0 d = 0 → f1 0 = (nI (mnA M)).toInt64)) (fun q : Nat => X q ∨ q = zo)) (ecXc (fun _ => False)) 8 150 (fun q : Nat => X q ∨ q = zo) := by
  refine ec_hmet (by decide) (Nat.le_of_ble_eq_true rfl) ?_
  intro p e s m below meth c hC hr hlocks htab hOk hpre ls hl
  have hK := hOk.1
  obtain ⟨hXs, hEC, hz⟩ := hpre
  have hS : va_S (fun q : Nat => X q ∨ q = zo) s.heap s.heap [] := va_S.rf
  have hAN : ∀ q, (fun q : Nat => X q ∨ q = zo) q → ecN0 G ≤ q := fun q h => h.elim (hXs.1 q) (fun h => by rw [h]; exact hN)
  have hlab : ∃ fs, ecA G x (eO 5 fs) s.heap := by obtain ⟨tg9, ad9, hx9, hw9⟩ := hEC; exact ⟨_, hx9 ▸ hw9.1.1⟩
  obtain ⟨fs9, hlab⟩ := hlab
  have hl : lv_has ls 9 [(0, .ref x), (1, .int r), (2, .int pl), (3, .int a), (4, .int b), (5, .int c0), (6, .int d), (7, .ref zo)] := hl
  refine lv_aload hC.1 hC.2.1 dL_measure_0 (lv_at hl 7 rfl) ?_
  refine lv_iconst (v := 0) hC.1 hC.2.1 dL_measure_2 (by decide) ?_
  refine lv_aload_n hC.1 hC.2.1 dL_measure_3 rfl (lv_at hl 0 rfl) ?_
  refine lv_iload_n hC.1 hC.2.1 dL_measure_4 rfl (lv_at hl 1 rfl) ?_
  refine lv_iload_n hC.1 hC.2.1 dL_measure_5 rfl (lv_at hl 2 rfl) ?_
  refine lv_iload_n hC.1 hC.2.1 dL_measure_6 rfl (lv_at hl 3 rfl) ?_
  refine lv_iload hC.1 hC.2.1 dL_measure_7 (lv_at hl 4 rfl) ?_
  refine lv_iload hC.1 hC.2.1 dL_measure_9 (lv_at hl 5 rfl) ?_
  refine lv_iload hC.1 hC.2.1 dL_measure_11 (lv_at hl 6 rfl) ?_
  refine ec_goXE1 (ec_xV hC (c_X5_measure l hls G X M x r pl a b c0 d) kL_37 (hOk.at hS hAN) ⟨hXs, hEC⟩ (ec_rc hK hlab ⟨_, _, rfl⟩) hl.1 ⟨Nat.le_of_ble_eq_true rfl, Nat.le_of_ble_eq_true rfl⟩ rfl (Nat.le_of_ble_eq_true rfl) dL_measure_13 ⟨Nat.le_of_ble_eq_true rfl, Nat.le_of_ble_eq_true rfl⟩) hS (fun _ h => Or.inl h) (fun E9 ce9 q9 H locs hx hk9 hS h1 h2 h3 => ?_) (fun H locs hp hzs hk1 hS => ?_)
  · simp only [List.mem_cons, Prod.mk.injEq, List.not_mem_nil, or_false] at hx
    rcases hx with ⟨rfl, hT⟩ | ⟨rfl, hT⟩ | ⟨rfl, hT⟩
    · have hpas : ∀ z ∈ ([] : List ExceptionTableEntry), z.catchType ≠ 0 ∧ ∃ nm : String, Cond.classLink RL z.catchType nm ∈ GW ∧ (eIX, nm) ∈ ecNc := (fun z hz => nomatch hz)
      refine ec_catch hC hK htab [] ⟨0, 18, 21, 19⟩ [⟨0, 18, 25, 21⟩, ⟨0, 18, 29, 13⟩] rfl hpas (by decide) (by decide) q308 (by decide) h1 h2 h3 ?_
      refine lv_astore (lv' := [(8, .ref q9), (0, .ref x), (1, .int r), (2, .int pl), (3, .int a), (4, .int b), (5, .int c0), (6, .int d), (7, .ref zo)]) hC.1 hC.2.1 dL_measure_21 hl (by decide) rfl (fun ls hl => ?_)
      refine lv_iconst (v := 1) hC.1 hC.2.1 dL_measure_23 (by decide) ?_
      refine vx_ret ?_
      exact W.iret hC.1 hC.2.1 hr (fun t9 ht9 _ => ⟨_, rfl, by rw [ht9]; exact ⟨by rw [hT]; rfl, by rw [if_neg (by rw [hT]; decide)]; exact hEC.kp hk9, f9, hz.kp hk9, fun z => absurd (hT.symm.trans z) (by decide)⟩, hS.F ht9⟩) hS.2.2 dL_measure_24
    · have hpas : ∀ z ∈ ([⟨0, 18, 21, 19⟩] : List ExceptionTableEntry), z.catchType ≠ 0 ∧ ∃ nm : String, Cond.classLink RL z.catchType nm ∈ GW ∧ (eAG, nm) ∈ ecNc := (fun z hz => by
          simp only [List.mem_cons, List.not_mem_nil, or_false] at hz
          rcases hz with rfl
          · exact ⟨by decide, _, q308, by decide⟩)
      refine ec_catch hC hK htab [⟨0, 18, 21, 19⟩] ⟨0, 18, 25, 21⟩ [⟨0, 18, 29, 13⟩] rfl hpas (by decide) (by decide) q309 (by decide) h1 h2 h3 ?_
      refine lv_astore (lv' := [(8, .ref q9), (0, .ref x), (1, .int r), (2, .int pl), (3, .int a), (4, .int b), (5, .int c0), (6, .int d), (7, .ref zo)]) hC.1 hC.2.1 dL_measure_25 hl (by decide) rfl (fun ls hl => ?_)
      refine lv_iconst (v := 2) hC.1 hC.2.1 dL_measure_27 (by decide) ?_
      refine vx_ret ?_
      exact W.iret hC.1 hC.2.1 hr (fun t9 ht9 _ => ⟨_, rfl, by rw [ht9]; exact ⟨by rw [hT]; rfl, by rw [if_neg (by rw [hT]; decide)]; exact hEC.kp hk9, f9, hz.kp hk9, fun z => absurd (hT.symm.trans z) (by decide)⟩, hS.F ht9⟩) hS.2.2 dL_measure_28
    · have hpas : ∀ z ∈ ([⟨0, 18, 21, 19⟩, ⟨0, 18, 25, 21⟩] : List ExceptionTableEntry), z.catchType ≠ 0 ∧ ∃ nm : String, Cond.classLink RL z.catchType nm ∈ GW ∧ (eIS, nm) ∈ ecNc := (fun z hz => by
          simp only [List.mem_cons, List.not_mem_nil, or_false] at hz
          rcases hz with rfl | rfl
          · exact ⟨by decide, _, q308, by decide⟩
          · exact ⟨by decide, _, q309, by decide⟩)
      refine ec_catch hC hK htab [⟨0, 18, 21, 19⟩, ⟨0, 18, 25, 21⟩] ⟨0, 18, 29, 13⟩ [] rfl hpas (by decide) (by decide) q134 (by decide) h1 h2 h3 ?_
      refine lv_astore (lv' := [(8, .ref q9), (0, .ref x), (1, .int r), (2, .int pl), (3, .int a), (4, .int b), (5, .int c0), (6, .int d), (7, .ref zo)]) hC.1 hC.2.1 dL_measure_29 hl (by decide) rfl (fun ls hl => ?_)
      refine lv_iconst (v := 3) hC.1 hC.2.1 dL_measure_31 (by decide) ?_
      refine vx_ret ?_
      exact W.iret hC.1 hC.2.1 hr (fun t9 ht9 _ => ⟨_, rfl, by rw [ht9]; exact ⟨by rw [hT]; rfl, by rw [if_neg (by rw [hT]; decide)]; exact hEC.kp hk9, f9, hz.kp hk9, fun z => absurd (hT.symm.trans z) (by decide)⟩, hS.F ht9⟩) hS.2.2 dL_measure_32
  · obtain ⟨hT, hEC⟩ := hp
    have hz := hz.kept (hk1 _ hz.lt hz9)
    refine lv_i2l hC.1 hC.2.1 dL_measure_16 rfl ?_
    refine ec_last hC hK hS hz (Or.inr rfl) 0 rfl (by omega) (by omega) dL_measure_17 (fun H locs h9 o9 z9 hS => ?_)
    have hEC := hEC.ot (Y := fun q => q = zo) (fun q _ hn => o9 q hn) (fun q hq z => hz9 (z ▸ hq))
    refine lv_goto (tgt := 33) hC.1 hC.2.1 dL_measure_18 (by decide) ?_
    refine lv_iconst (v := 0) hC.1 hC.2.1 dL_measure_33 (by decide) ?_
    refine vx_ret ?_
    exact W.iret hC.1 hC.2.1 hr (fun t9 ht9 _ => ⟨_, rfl, by rw [ht9]; exact ⟨by rw [hT]; rfl, by rw [if_pos hT]; exact hEC, _, h9, fun _ => rfl⟩, hS.F ht9⟩) hS.2.2 dL_measure_34

set_option maxHeartbeats 4000000 in
set_option maxRecDepth 100000 in
/-- the helper of sample -/
theorem c_L_sample (l : Launch) (hls : l.stackTraces = false) (G : ecG) (X : Nat → Prop) (M : ecM) (x zo : Nat) (f9 : Nat → Int64) (hz9 : ¬ X zo) (hN : ecN0 G ≤ zo) (a i : Int32) : vx_Met l yL_sample (ecWh yL_sample cL_sample 5 (Option.some FieldType.int) [(0, 10, 13, 19), (0, 10, 17, 45)]) (ecRm 10 8 150) (ecPc [.ref x, .int a, .int i, .ref zo] G (fun H => ecXs G X H ∧ EC G X M x H ∧ ecA G zo (eJ G 1 f9) H)) (ecEp (fun v H1 => v = some (.int (nI (thSam M a i))) ∧ EC G X (if thSam M a i = 0 then M else M) x H1 ∧ ∃ f1 : Nat → Int64, ecA G zo (eJ G 1 f1) H1 ∧ (thSam M a i = 0 → f1 0 = (M.2.1 4 (4 * cN a + cN i)).toInt64)) (fun q : Nat => X q ∨ q = zo)) (ecXc (fun _ => False)) 8 150 (fun q : Nat => X q ∨ q = zo) := by
  refine ec_hmet (by decide) (Nat.le_of_ble_eq_true rfl) ?_
  intro p e s m below meth c hC hr hlocks htab hOk hpre ls hl
  have hK := hOk.1
  obtain ⟨hXs, hEC, hz⟩ := hpre
  have hS : va_S (fun q : Nat => X q ∨ q = zo) s.heap s.heap [] := va_S.rf
  have hAN : ∀ q, (fun q : Nat => X q ∨ q = zo) q → ecN0 G ≤ q := fun q h => h.elim (hXs.1 q) (fun h => by rw [h]; exact hN)
  have hlab : ∃ fs, ecA G x (eO 5 fs) s.heap := by obtain ⟨tg9, ad9, hx9, hw9⟩ := hEC; exact ⟨_, hx9 ▸ hw9.1.1⟩
  obtain ⟨fs9, hlab⟩ := hlab
  have hl : lv_has ls 5 [(0, .ref x), (1, .int a), (2, .int i), (3, .ref zo)] := hl
  refine lv_aload_n hC.1 hC.2.1 dL_sample_0 rfl (lv_at hl 3 rfl) ?_
  refine lv_iconst (v := 0) hC.1 hC.2.1 dL_sample_1 (by decide) ?_
  refine lv_aload_n hC.1 hC.2.1 dL_sample_2 rfl (lv_at hl 0 rfl) ?_
  refine lv_iload_n hC.1 hC.2.1 dL_sample_3 rfl (lv_at hl 1 rfl) ?_
  refine lv_iload_n hC.1 hC.2.1 dL_sample_4 rfl (lv_at hl 2 rfl) ?_
  refine ec_goXE1 (ec_xV hC (c_X5_sample l hls G X M x a i) kL_41 (hOk.at hS hAN) ⟨hXs, hEC⟩ (ec_rc hK hlab ⟨_, _, rfl⟩) hl.1 ⟨Nat.le_of_ble_eq_true rfl, Nat.le_of_ble_eq_true rfl⟩ rfl (Nat.le_of_ble_eq_true rfl) dL_sample_5 ⟨Nat.le_of_ble_eq_true rfl, Nat.le_of_ble_eq_true rfl⟩) hS (fun _ h => Or.inl h) (fun E9 ce9 q9 H locs hx hk9 hS h1 h2 h3 => ?_) (fun H locs hp hzs hk1 hS => ?_)
  · simp only [List.mem_cons, Prod.mk.injEq, List.not_mem_nil, or_false] at hx
    rcases hx with ⟨rfl, hT⟩ | ⟨rfl, hT⟩
    · have hpas : ∀ z ∈ ([] : List ExceptionTableEntry), z.catchType ≠ 0 ∧ ∃ nm : String, Cond.classLink RL z.catchType nm ∈ GW ∧ (eIX, nm) ∈ ecNc := (fun z hz => nomatch hz)
      refine ec_catch hC hK htab [] ⟨0, 10, 13, 19⟩ [⟨0, 10, 17, 45⟩] rfl hpas (by decide) (by decide) q308 (by decide) h1 h2 h3 ?_
      refine lv_astore (lv' := [(4, .ref q9), (0, .ref x), (1, .int a), (2, .int i), (3, .ref zo)]) hC.1 hC.2.1 dL_sample_13 hl (by decide) rfl (fun ls hl => ?_)
      refine lv_iconst (v := 1) hC.1 hC.2.1 dL_sample_15 (by decide) ?_
      refine vx_ret ?_
      exact W.iret hC.1 hC.2.1 hr (fun t9 ht9 _ => ⟨_, rfl, by rw [ht9]; exact ⟨by rw [hT]; rfl, by rw [if_neg (by rw [hT]; decide)]; exact hEC.kp hk9, f9, hz.kp hk9, fun z => absurd (hT.symm.trans z) (by decide)⟩, hS.F ht9⟩) hS.2.2 dL_sample_16
    · have hpas : ∀ z ∈ ([⟨0, 10, 13, 19⟩] : List ExceptionTableEntry), z.catchType ≠ 0 ∧ ∃ nm : String, Cond.classLink RL z.catchType nm ∈ GW ∧ (eNS, nm) ∈ ecNc := (fun z hz => by
          simp only [List.mem_cons, List.not_mem_nil, or_false] at hz
          rcases hz with rfl
          · exact ⟨by decide, _, q308, by decide⟩)
      refine ec_catch hC hK htab [⟨0, 10, 13, 19⟩] ⟨0, 10, 17, 45⟩ [] rfl hpas (by decide) (by decide) q440 (by decide) h1 h2 h3 ?_
      refine lv_astore (lv' := [(4, .ref q9), (0, .ref x), (1, .int a), (2, .int i), (3, .ref zo)]) hC.1 hC.2.1 dL_sample_17 hl (by decide) rfl (fun ls hl => ?_)
      refine lv_iconst (v := 2) hC.1 hC.2.1 dL_sample_19 (by decide) ?_
      refine vx_ret ?_
      exact W.iret hC.1 hC.2.1 hr (fun t9 ht9 _ => ⟨_, rfl, by rw [ht9]; exact ⟨by rw [hT]; rfl, by rw [if_neg (by rw [hT]; decide)]; exact hEC.kp hk9, f9, hz.kp hk9, fun z => absurd (hT.symm.trans z) (by decide)⟩, hS.F ht9⟩) hS.2.2 dL_sample_20
  · obtain ⟨hT, hEC⟩ := hp
    have hz := hz.kept (hk1 _ hz.lt hz9)
    refine lv_i2l hC.1 hC.2.1 dL_sample_8 rfl ?_
    refine ec_last hC hK hS hz (Or.inr rfl) 0 rfl (by omega) (by omega) dL_sample_9 (fun H locs h9 o9 z9 hS => ?_)
    have hEC := hEC.ot (Y := fun q => q = zo) (fun q _ hn => o9 q hn) (fun q hq z => hz9 (z ▸ hq))
    refine lv_goto (tgt := 21) hC.1 hC.2.1 dL_sample_10 (by decide) ?_
    refine lv_iconst (v := 0) hC.1 hC.2.1 dL_sample_21 (by decide) ?_
    refine vx_ret ?_
    exact W.iret hC.1 hC.2.1 hr (fun t9 ht9 _ => ⟨_, rfl, by rw [ht9]; exact ⟨by rw [hT]; rfl, by rw [if_pos hT]; exact hEC, _, h9, fun _ => rfl⟩, hS.F ht9⟩) hS.2.2 dL_sample_22

set_option maxHeartbeats 4000000 in
set_option maxRecDepth 100000 in
/-- the helper of age -/
theorem c_L_age (l : Launch) (hls : l.stackTraces = false) (G : ecG) (X : Nat → Prop) (M : ecM) (x zo : Nat) (f9 : Nat → Int64) (hz9 : ¬ X zo) (hN : ecN0 G ≤ zo) (a : Int32) : vx_Met l yL_age (ecWh yL_age cL_age 4 (Option.some FieldType.int) [(0, 9, 12, 19)]) (ecRm 10 8 150) (ecPc [.ref x, .int a, .ref zo] G (fun H => ecXs G X H ∧ EC G X M x H ∧ ecA G zo (eJ G 1 f9) H)) (ecEp (fun v H1 => v = some (.int (nI (thA M a))) ∧ EC G X (if thA M a = 0 then M else M) x H1 ∧ ∃ f1 : Nat → Int64, ecA G zo (eJ G 1 f1) H1 ∧ (thA M a = 0 → f1 0 = (ageM M (cN a)).toInt64)) (fun q : Nat => X q ∨ q = zo)) (ecXc (fun _ => False)) 8 150 (fun q : Nat => X q ∨ q = zo) := by
  refine ec_hmet (by decide) (Nat.le_of_ble_eq_true rfl) ?_
  intro p e s m below meth c hC hr hlocks htab hOk hpre ls hl
  have hK := hOk.1
  obtain ⟨hXs, hEC, hz⟩ := hpre
  have hS : va_S (fun q : Nat => X q ∨ q = zo) s.heap s.heap [] := va_S.rf
  have hAN : ∀ q, (fun q : Nat => X q ∨ q = zo) q → ecN0 G ≤ q := fun q h => h.elim (hXs.1 q) (fun h => by rw [h]; exact hN)
  have hlab : ∃ fs, ecA G x (eO 5 fs) s.heap := by obtain ⟨tg9, ad9, hx9, hw9⟩ := hEC; exact ⟨_, hx9 ▸ hw9.1.1⟩
  obtain ⟨fs9, hlab⟩ := hlab
  have hl : lv_has ls 4 [(0, .ref x), (1, .int a), (2, .ref zo)] := hl
  refine lv_aload_n hC.1 hC.2.1 dL_age_0 rfl (lv_at hl 2 rfl) ?_
  refine lv_iconst (v := 0) hC.1 hC.2.1 dL_age_1 (by decide) ?_
  refine lv_aload_n hC.1 hC.2.1 dL_age_2 rfl (lv_at hl 0 rfl) ?_
  refine lv_iload_n hC.1 hC.2.1 dL_age_3 rfl (lv_at hl 1 rfl) ?_
  refine ec_goXE1 (ec_xV hC (c_X5_age l hls G X M x a) kL_47 (hOk.at hS hAN) ⟨hXs, hEC⟩ (ec_rc hK hlab ⟨_, _, rfl⟩) hl.1 ⟨Nat.le_of_ble_eq_true rfl, Nat.le_of_ble_eq_true rfl⟩ rfl (Nat.le_of_ble_eq_true rfl) dL_age_4 ⟨Nat.le_of_ble_eq_true rfl, Nat.le_of_ble_eq_true rfl⟩) hS (fun _ h => Or.inl h) (fun E9 ce9 q9 H locs hx hk9 hS h1 h2 h3 => ?_) (fun H locs hp hzs hk1 hS => ?_)
  · simp only [List.mem_cons, Prod.mk.injEq, List.not_mem_nil, or_false] at hx
    rcases hx with ⟨rfl, hT⟩
    · have hpas : ∀ z ∈ ([] : List ExceptionTableEntry), z.catchType ≠ 0 ∧ ∃ nm : String, Cond.classLink RL z.catchType nm ∈ GW ∧ (eIX, nm) ∈ ecNc := (fun z hz => nomatch hz)
      refine ec_catch hC hK htab [] ⟨0, 9, 12, 19⟩ [] rfl hpas (by decide) (by decide) q308 (by decide) h1 h2 h3 ?_
      refine lv_astore_n (lv' := [(3, .ref q9), (0, .ref x), (1, .int a), (2, .ref zo)]) hC.1 hC.2.1 dL_age_12 rfl hl (by decide) rfl (fun ls hl => ?_)
      refine lv_iconst (v := 1) hC.1 hC.2.1 dL_age_13 (by decide) ?_
      refine vx_ret ?_
      exact W.iret hC.1 hC.2.1 hr (fun t9 ht9 _ => ⟨_, rfl, by rw [ht9]; exact ⟨by rw [hT]; rfl, by rw [if_neg (by rw [hT]; decide)]; exact hEC.kp hk9, f9, hz.kp hk9, fun z => absurd (hT.symm.trans z) (by decide)⟩, hS.F ht9⟩) hS.2.2 dL_age_14
  · obtain ⟨hT, hEC⟩ := hp
    have hz := hz.kept (hk1 _ hz.lt hz9)
    refine lv_i2l hC.1 hC.2.1 dL_age_7 rfl ?_
    refine ec_last hC hK hS hz (Or.inr rfl) 0 rfl (by omega) (by omega) dL_age_8 (fun H locs h9 o9 z9 hS => ?_)
    have hEC := hEC.ot (Y := fun q => q = zo) (fun q _ hn => o9 q hn) (fun q hq z => hz9 (z ▸ hq))
    refine lv_goto (tgt := 15) hC.1 hC.2.1 dL_age_9 (by decide) ?_
    refine lv_iconst (v := 0) hC.1 hC.2.1 dL_age_15 (by decide) ?_
    refine vx_ret ?_
    exact W.iret hC.1 hC.2.1 hr (fun t9 ht9 _ => ⟨_, rfl, by rw [ht9]; exact ⟨by rw [hT]; rfl, by rw [if_pos hT]; exact hEC, _, h9, fun _ => rfl⟩, hS.F ht9⟩) hS.2.2 dL_age_16

set_option maxHeartbeats 4000000 in
set_option maxRecDepth 100000 in
/-- the helper of latest -/
theorem c_L_latest (l : Launch) (hls : l.stackTraces = false) (G : ecG) (X : Nat → Prop) (M : ecM) (x zo : Nat) (f9 : Nat → Int64) (hz9 : ¬ X zo) (hN : ecN0 G ≤ zo) (r pl c0 s0 : Int32) (o : Bool) : vx_Met l yL_latest (ecWh yL_latest cL_latest 8 (Option.some FieldType.int) [(0, 16, 19, 19), (0, 16, 23, 21), (0, 16, 27, 45)]) (ecRm 10 8 150) (ecPc [.ref x, .int r, .int pl, .int c0, .int s0, .int (bI o), .ref zo] G (fun H => ecXs G X H ∧ EC G X M x H ∧ ecA G zo (eJ G 1 f9) H)) (ecEp (fun v H1 => v = some (.int (nI (thLat M r pl c0 s0 o))) ∧ EC G X (if thLat M r pl c0 s0 o = 0 then M else M) x H1 ∧ ∃ f1 : Nat → Int64, ecA G zo (eJ G 1 f1) H1 ∧ (thLat M r pl c0 s0 o = 0 → f1 0 = (nI ((latN M (cN r) pl (cdN c0 s0 o) (mnA M)).getD 0)).toInt64)) (fun q : Nat => X q ∨ q = zo)) (ecXc (fun _ => False)) 8 150 (fun q : Nat => X q ∨ q = zo) := by
  refine ec_hmet (by decide) (Nat.le_of_ble_eq_true rfl) ?_
  intro p e s m below meth c hC hr hlocks htab hOk hpre ls hl
  have hK := hOk.1
  obtain ⟨hXs, hEC, hz⟩ := hpre
  have hS : va_S (fun q : Nat => X q ∨ q = zo) s.heap s.heap [] := va_S.rf
  have hAN : ∀ q, (fun q : Nat => X q ∨ q = zo) q → ecN0 G ≤ q := fun q h => h.elim (hXs.1 q) (fun h => by rw [h]; exact hN)
  have hlab : ∃ fs, ecA G x (eO 5 fs) s.heap := by obtain ⟨tg9, ad9, hx9, hw9⟩ := hEC; exact ⟨_, hx9 ▸ hw9.1.1⟩
  obtain ⟨fs9, hlab⟩ := hlab
  have hl : lv_has ls 8 [(0, .ref x), (1, .int r), (2, .int pl), (3, .int c0), (4, .int s0), (5, .int (bI o)), (6, .ref zo)] := hl
  refine lv_aload hC.1 hC.2.1 dL_latest_0 (lv_at hl 6 rfl) ?_
  refine lv_iconst (v := 0) hC.1 hC.2.1 dL_latest_2 (by decide) ?_
  refine lv_aload_n hC.1 hC.2.1 dL_latest_3 rfl (lv_at hl 0 rfl) ?_
  refine lv_iload_n hC.1 hC.2.1 dL_latest_4 rfl (lv_at hl 1 rfl) ?_
  refine lv_iload_n hC.1 hC.2.1 dL_latest_5 rfl (lv_at hl 2 rfl) ?_
  refine lv_iload_n hC.1 hC.2.1 dL_latest_6 rfl (lv_at hl 3 rfl) ?_
  refine lv_iload hC.1 hC.2.1 dL_latest_7 (lv_at hl 4 rfl) ?_
  refine lv_iload hC.1 hC.2.1 dL_latest_9 (lv_at hl 5 rfl) ?_
  refine ec_goXE1 (ec_xV hC (c_X5_latest l hls G X M x r pl c0 s0 o) kL_50 (hOk.at hS hAN) ⟨hXs, hEC⟩ (ec_rc hK hlab ⟨_, _, rfl⟩) hl.1 ⟨Nat.le_of_ble_eq_true rfl, Nat.le_of_ble_eq_true rfl⟩ rfl (Nat.le_of_ble_eq_true rfl) dL_latest_11 ⟨Nat.le_of_ble_eq_true rfl, Nat.le_of_ble_eq_true rfl⟩) hS (fun _ h => Or.inl h) (fun E9 ce9 q9 H locs hx hk9 hS h1 h2 h3 => ?_) (fun H locs hp hzs hk1 hS => ?_)
  · simp only [List.mem_cons, Prod.mk.injEq, List.not_mem_nil, or_false] at hx
    rcases hx with ⟨rfl, hT⟩ | ⟨rfl, hT⟩ | ⟨rfl, hT⟩
    · have hpas : ∀ z ∈ ([] : List ExceptionTableEntry), z.catchType ≠ 0 ∧ ∃ nm : String, Cond.classLink RL z.catchType nm ∈ GW ∧ (eIX, nm) ∈ ecNc := (fun z hz => nomatch hz)
      refine ec_catch hC hK htab [] ⟨0, 16, 19, 19⟩ [⟨0, 16, 23, 21⟩, ⟨0, 16, 27, 45⟩] rfl hpas (by decide) (by decide) q308 (by decide) h1 h2 h3 ?_
      refine lv_astore (lv' := [(7, .ref q9), (0, .ref x), (1, .int r), (2, .int pl), (3, .int c0), (4, .int s0), (5, .int (bI o)), (6, .ref zo)]) hC.1 hC.2.1 dL_latest_19 hl (by decide) rfl (fun ls hl => ?_)
      refine lv_iconst (v := 1) hC.1 hC.2.1 dL_latest_21 (by decide) ?_
      refine vx_ret ?_
      exact W.iret hC.1 hC.2.1 hr (fun t9 ht9 _ => ⟨_, rfl, by rw [ht9]; exact ⟨by rw [hT]; rfl, by rw [if_neg (by rw [hT]; decide)]; exact hEC.kp hk9, f9, hz.kp hk9, fun z => absurd (hT.symm.trans z) (by decide)⟩, hS.F ht9⟩) hS.2.2 dL_latest_22
    · have hpas : ∀ z ∈ ([⟨0, 16, 19, 19⟩] : List ExceptionTableEntry), z.catchType ≠ 0 ∧ ∃ nm : String, Cond.classLink RL z.catchType nm ∈ GW ∧ (eAG, nm) ∈ ecNc := (fun z hz => by
          simp only [List.mem_cons, List.not_mem_nil, or_false] at hz
          rcases hz with rfl
          · exact ⟨by decide, _, q308, by decide⟩)
      refine ec_catch hC hK htab [⟨0, 16, 19, 19⟩] ⟨0, 16, 23, 21⟩ [⟨0, 16, 27, 45⟩] rfl hpas (by decide) (by decide) q309 (by decide) h1 h2 h3 ?_
      refine lv_astore (lv' := [(7, .ref q9), (0, .ref x), (1, .int r), (2, .int pl), (3, .int c0), (4, .int s0), (5, .int (bI o)), (6, .ref zo)]) hC.1 hC.2.1 dL_latest_23 hl (by decide) rfl (fun ls hl => ?_)
      refine lv_iconst (v := 2) hC.1 hC.2.1 dL_latest_25 (by decide) ?_
      refine vx_ret ?_
      exact W.iret hC.1 hC.2.1 hr (fun t9 ht9 _ => ⟨_, rfl, by rw [ht9]; exact ⟨by rw [hT]; rfl, by rw [if_neg (by rw [hT]; decide)]; exact hEC.kp hk9, f9, hz.kp hk9, fun z => absurd (hT.symm.trans z) (by decide)⟩, hS.F ht9⟩) hS.2.2 dL_latest_26
    · have hpas : ∀ z ∈ ([⟨0, 16, 19, 19⟩, ⟨0, 16, 23, 21⟩] : List ExceptionTableEntry), z.catchType ≠ 0 ∧ ∃ nm : String, Cond.classLink RL z.catchType nm ∈ GW ∧ (eNS, nm) ∈ ecNc := (fun z hz => by
          simp only [List.mem_cons, List.not_mem_nil, or_false] at hz
          rcases hz with rfl | rfl
          · exact ⟨by decide, _, q308, by decide⟩
          · exact ⟨by decide, _, q309, by decide⟩)
      refine ec_catch hC hK htab [⟨0, 16, 19, 19⟩, ⟨0, 16, 23, 21⟩] ⟨0, 16, 27, 45⟩ [] rfl hpas (by decide) (by decide) q440 (by decide) h1 h2 h3 ?_
      refine lv_astore (lv' := [(7, .ref q9), (0, .ref x), (1, .int r), (2, .int pl), (3, .int c0), (4, .int s0), (5, .int (bI o)), (6, .ref zo)]) hC.1 hC.2.1 dL_latest_27 hl (by decide) rfl (fun ls hl => ?_)
      refine lv_iconst (v := 3) hC.1 hC.2.1 dL_latest_29 (by decide) ?_
      refine vx_ret ?_
      exact W.iret hC.1 hC.2.1 hr (fun t9 ht9 _ => ⟨_, rfl, by rw [ht9]; exact ⟨by rw [hT]; rfl, by rw [if_neg (by rw [hT]; decide)]; exact hEC.kp hk9, f9, hz.kp hk9, fun z => absurd (hT.symm.trans z) (by decide)⟩, hS.F ht9⟩) hS.2.2 dL_latest_30
  · obtain ⟨hT, hEC⟩ := hp
    have hz := hz.kept (hk1 _ hz.lt hz9)
    refine lv_i2l hC.1 hC.2.1 dL_latest_14 rfl ?_
    refine ec_last hC hK hS hz (Or.inr rfl) 0 rfl (by omega) (by omega) dL_latest_15 (fun H locs h9 o9 z9 hS => ?_)
    have hEC := hEC.ot (Y := fun q => q = zo) (fun q _ hn => o9 q hn) (fun q hq z => hz9 (z ▸ hq))
    refine lv_goto (tgt := 31) hC.1 hC.2.1 dL_latest_16 (by decide) ?_
    refine lv_iconst (v := 0) hC.1 hC.2.1 dL_latest_31 (by decide) ?_
    refine vx_ret ?_
    exact W.iret hC.1 hC.2.1 hr (fun t9 ht9 _ => ⟨_, rfl, by rw [ht9]; exact ⟨by rw [hT]; rfl, by rw [if_pos hT]; exact hEC, _, h9, fun _ => rfl⟩, hS.F ht9⟩) hS.2.2 dL_latest_32

set_option maxHeartbeats 4000000 in
set_option maxRecDepth 100000 in
/-- the helper of statesMeasured -/
theorem c_L_statesMeasured (l : Launch) (hls : l.stackTraces = false) (G : ecG) (X : Nat → Prop) (M : ecM) (x zo : Nat) (f9 : Nat → Int64) (hz9 : ¬ X zo) (hN : ecN0 G ≤ zo) (r : Int32) : vx_Met l yL_statesMeasured (ecWh yL_statesMeasured cL_statesMeasured 4 (Option.some FieldType.int) [(0, 9, 12, 19)]) (ecRm 10 8 150) (ecPc [.ref x, .int r, .ref zo] G (fun H => ecXs G X H ∧ EC G X M x H ∧ ecA G zo (eJ G 1 f9) H)) (ecEp (fun v H1 => v = some (.int (nI (thR M r))) ∧ EC G X (if thR M r = 0 then M else M) x H1 ∧ ∃ f1 : Nat → Int64, ecA G zo (eJ G 1 f1) H1 ∧ (thR M r = 0 → f1 0 = (nI (smN M (cN r) (mnA M))).toInt64)) (fun q : Nat => X q ∨ q = zo)) (ecXc (fun _ => False)) 8 150 (fun q : Nat => X q ∨ q = zo) := by
  refine ec_hmet (by decide) (Nat.le_of_ble_eq_true rfl) ?_
  intro p e s m below meth c hC hr hlocks htab hOk hpre ls hl
  have hK := hOk.1
  obtain ⟨hXs, hEC, hz⟩ := hpre
  have hS : va_S (fun q : Nat => X q ∨ q = zo) s.heap s.heap [] := va_S.rf
  have hAN : ∀ q, (fun q : Nat => X q ∨ q = zo) q → ecN0 G ≤ q := fun q h => h.elim (hXs.1 q) (fun h => by rw [h]; exact hN)
  have hlab : ∃ fs, ecA G x (eO 5 fs) s.heap := by obtain ⟨tg9, ad9, hx9, hw9⟩ := hEC; exact ⟨_, hx9 ▸ hw9.1.1⟩
  obtain ⟨fs9, hlab⟩ := hlab
  have hl : lv_has ls 4 [(0, .ref x), (1, .int r), (2, .ref zo)] := hl
  refine lv_aload_n hC.1 hC.2.1 dL_statesMeasured_0 rfl (lv_at hl 2 rfl) ?_
  refine lv_iconst (v := 0) hC.1 hC.2.1 dL_statesMeasured_1 (by decide) ?_
  refine lv_aload_n hC.1 hC.2.1 dL_statesMeasured_2 rfl (lv_at hl 0 rfl) ?_
  refine lv_iload_n hC.1 hC.2.1 dL_statesMeasured_3 rfl (lv_at hl 1 rfl) ?_
  refine ec_goXE1 (ec_xV hC (c_X5_statesMeasured l hls G X M x r) kL_54 (hOk.at hS hAN) ⟨hXs, hEC⟩ (ec_rc hK hlab ⟨_, _, rfl⟩) hl.1 ⟨Nat.le_of_ble_eq_true rfl, Nat.le_of_ble_eq_true rfl⟩ rfl (Nat.le_of_ble_eq_true rfl) dL_statesMeasured_4 ⟨Nat.le_of_ble_eq_true rfl, Nat.le_of_ble_eq_true rfl⟩) hS (fun _ h => Or.inl h) (fun E9 ce9 q9 H locs hx hk9 hS h1 h2 h3 => ?_) (fun H locs hp hzs hk1 hS => ?_)
  · simp only [List.mem_cons, Prod.mk.injEq, List.not_mem_nil, or_false] at hx
    rcases hx with ⟨rfl, hT⟩
    · have hpas : ∀ z ∈ ([] : List ExceptionTableEntry), z.catchType ≠ 0 ∧ ∃ nm : String, Cond.classLink RL z.catchType nm ∈ GW ∧ (eIX, nm) ∈ ecNc := (fun z hz => nomatch hz)
      refine ec_catch hC hK htab [] ⟨0, 9, 12, 19⟩ [] rfl hpas (by decide) (by decide) q308 (by decide) h1 h2 h3 ?_
      refine lv_astore_n (lv' := [(3, .ref q9), (0, .ref x), (1, .int r), (2, .ref zo)]) hC.1 hC.2.1 dL_statesMeasured_12 rfl hl (by decide) rfl (fun ls hl => ?_)
      refine lv_iconst (v := 1) hC.1 hC.2.1 dL_statesMeasured_13 (by decide) ?_
      refine vx_ret ?_
      exact W.iret hC.1 hC.2.1 hr (fun t9 ht9 _ => ⟨_, rfl, by rw [ht9]; exact ⟨by rw [hT]; rfl, by rw [if_neg (by rw [hT]; decide)]; exact hEC.kp hk9, f9, hz.kp hk9, fun z => absurd (hT.symm.trans z) (by decide)⟩, hS.F ht9⟩) hS.2.2 dL_statesMeasured_14
  · obtain ⟨hT, hEC⟩ := hp
    have hz := hz.kept (hk1 _ hz.lt hz9)
    refine lv_i2l hC.1 hC.2.1 dL_statesMeasured_7 rfl ?_
    refine ec_last hC hK hS hz (Or.inr rfl) 0 rfl (by omega) (by omega) dL_statesMeasured_8 (fun H locs h9 o9 z9 hS => ?_)
    have hEC := hEC.ot (Y := fun q => q = zo) (fun q _ hn => o9 q hn) (fun q hq z => hz9 (z ▸ hq))
    refine lv_goto (tgt := 15) hC.1 hC.2.1 dL_statesMeasured_9 (by decide) ?_
    refine lv_iconst (v := 0) hC.1 hC.2.1 dL_statesMeasured_15 (by decide) ?_
    refine vx_ret ?_
    exact W.iret hC.1 hC.2.1 hr (fun t9 ht9 _ => ⟨_, rfl, by rw [ht9]; exact ⟨by rw [hT]; rfl, by rw [if_pos hT]; exact hEC, _, h9, fun _ => rfl⟩, hS.F ht9⟩) hS.2.2 dL_statesMeasured_16

set_option maxHeartbeats 4000000 in
set_option maxRecDepth 100000 in
/-- the helper of makeFilter -/
theorem c_L_makeFilter (l : Launch) (hls : l.stackTraces = false) (G : ecG) (X : Nat → Prop) (M : ecM) (x zo : Nat) (f9 : Nat → Int64) (hz9 : ¬ X zo) (hN : ecN0 G ≤ zo) (a : Int32) : vx_Met l yL_makeFilter (ecWh yL_makeFilter cL_makeFilter 4 (Option.some FieldType.int) [(0, 9, 12, 19), (0, 9, 15, 13)]) (ecRm 10 8 150) (ecPc [.ref x, .int a, .ref zo] G (fun H => ecXs G X H ∧ EC G X M x H ∧ ecA G zo (eJ G 1 f9) H)) (ecEp (fun v H1 => v = some (.int (nI (thMak M a))) ∧ EC G X (if thMak M a = 0 then filM M (cN a) else M) x H1 ∧ ∃ f1 : Nat → Int64, ecA G zo (eJ G 1 f1) H1 ∧ (thMak M a = 0 → f1 0 = (nI (mnF M)).toInt64)) (fun q : Nat => X q ∨ q = zo)) (ecXc (fun _ => False)) 8 150 (fun q : Nat => X q ∨ q = zo) := by
  refine ec_hmet (by decide) (Nat.le_of_ble_eq_true rfl) ?_
  intro p e s m below meth c hC hr hlocks htab hOk hpre ls hl
  have hK := hOk.1
  obtain ⟨hXs, hEC, hz⟩ := hpre
  have hS : va_S (fun q : Nat => X q ∨ q = zo) s.heap s.heap [] := va_S.rf
  have hAN : ∀ q, (fun q : Nat => X q ∨ q = zo) q → ecN0 G ≤ q := fun q h => h.elim (hXs.1 q) (fun h => by rw [h]; exact hN)
  have hlab : ∃ fs, ecA G x (eO 5 fs) s.heap := by obtain ⟨tg9, ad9, hx9, hw9⟩ := hEC; exact ⟨_, hx9 ▸ hw9.1.1⟩
  obtain ⟨fs9, hlab⟩ := hlab
  have hl : lv_has ls 4 [(0, .ref x), (1, .int a), (2, .ref zo)] := hl
  refine lv_aload_n hC.1 hC.2.1 dL_makeFilter_0 rfl (lv_at hl 2 rfl) ?_
  refine lv_iconst (v := 0) hC.1 hC.2.1 dL_makeFilter_1 (by decide) ?_
  refine lv_aload_n hC.1 hC.2.1 dL_makeFilter_2 rfl (lv_at hl 0 rfl) ?_
  refine lv_iload_n hC.1 hC.2.1 dL_makeFilter_3 rfl (lv_at hl 1 rfl) ?_
  refine ec_goXE1 (ec_xV hC (c_X5_makeFilter l hls G X M x a) kL_57 (hOk.at hS hAN) ⟨hXs, hEC⟩ (ec_rc hK hlab ⟨_, _, rfl⟩) hl.1 ⟨Nat.le_of_ble_eq_true rfl, Nat.le_of_ble_eq_true rfl⟩ rfl (Nat.le_of_ble_eq_true rfl) dL_makeFilter_4 ⟨Nat.le_of_ble_eq_true rfl, Nat.le_of_ble_eq_true rfl⟩) hS (fun _ h => Or.inl h) (fun E9 ce9 q9 H locs hx hk9 hS h1 h2 h3 => ?_) (fun H locs hp hzs hk1 hS => ?_)
  · simp only [List.mem_cons, Prod.mk.injEq, List.not_mem_nil, or_false] at hx
    rcases hx with ⟨rfl, hT⟩ | ⟨rfl, hT⟩
    · have hpas : ∀ z ∈ ([] : List ExceptionTableEntry), z.catchType ≠ 0 ∧ ∃ nm : String, Cond.classLink RL z.catchType nm ∈ GW ∧ (eIX, nm) ∈ ecNc := (fun z hz => nomatch hz)
      refine ec_catch hC hK htab [] ⟨0, 9, 12, 19⟩ [⟨0, 9, 15, 13⟩] rfl hpas (by decide) (by decide) q308 (by decide) h1 h2 h3 ?_
      refine lv_astore_n (lv' := [(3, .ref q9), (0, .ref x), (1, .int a), (2, .ref zo)]) hC.1 hC.2.1 dL_makeFilter_12 rfl hl (by decide) rfl (fun ls hl => ?_)
      refine lv_iconst (v := 1) hC.1 hC.2.1 dL_makeFilter_13 (by decide) ?_
      refine vx_ret ?_
      exact W.iret hC.1 hC.2.1 hr (fun t9 ht9 _ => ⟨_, rfl, by rw [ht9]; exact ⟨by rw [hT]; rfl, by rw [if_neg (by rw [hT]; decide)]; exact hEC.kp hk9, f9, hz.kp hk9, fun z => absurd (hT.symm.trans z) (by decide)⟩, hS.F ht9⟩) hS.2.2 dL_makeFilter_14
    · have hpas : ∀ z ∈ ([⟨0, 9, 12, 19⟩] : List ExceptionTableEntry), z.catchType ≠ 0 ∧ ∃ nm : String, Cond.classLink RL z.catchType nm ∈ GW ∧ (eIS, nm) ∈ ecNc := (fun z hz => by
          simp only [List.mem_cons, List.not_mem_nil, or_false] at hz
          rcases hz with rfl
          · exact ⟨by decide, _, q308, by decide⟩)
      refine ec_catch hC hK htab [⟨0, 9, 12, 19⟩] ⟨0, 9, 15, 13⟩ [] rfl hpas (by decide) (by decide) q134 (by decide) h1 h2 h3 ?_
      refine lv_astore_n (lv' := [(3, .ref q9), (0, .ref x), (1, .int a), (2, .ref zo)]) hC.1 hC.2.1 dL_makeFilter_15 rfl hl (by decide) rfl (fun ls hl => ?_)
      refine lv_iconst (v := 2) hC.1 hC.2.1 dL_makeFilter_16 (by decide) ?_
      refine vx_ret ?_
      exact W.iret hC.1 hC.2.1 hr (fun t9 ht9 _ => ⟨_, rfl, by rw [ht9]; exact ⟨by rw [hT]; rfl, by rw [if_neg (by rw [hT]; decide)]; exact hEC.kp hk9, f9, hz.kp hk9, fun z => absurd (hT.symm.trans z) (by decide)⟩, hS.F ht9⟩) hS.2.2 dL_makeFilter_17
  · obtain ⟨hT, hEC⟩ := hp
    have hz := hz.kept (hk1 _ hz.lt hz9)
    refine lv_i2l hC.1 hC.2.1 dL_makeFilter_7 rfl ?_
    refine ec_last hC hK hS hz (Or.inr rfl) 0 rfl (by omega) (by omega) dL_makeFilter_8 (fun H locs h9 o9 z9 hS => ?_)
    have hEC := hEC.ot (Y := fun q => q = zo) (fun q _ hn => o9 q hn) (fun q hq z => hz9 (z ▸ hq))
    refine lv_goto (tgt := 18) hC.1 hC.2.1 dL_makeFilter_9 (by decide) ?_
    refine lv_iconst (v := 0) hC.1 hC.2.1 dL_makeFilter_18 (by decide) ?_
    refine vx_ret ?_
    exact W.iret hC.1 hC.2.1 hr (fun t9 ht9 _ => ⟨_, rfl, by rw [ht9]; exact ⟨by rw [hT]; rfl, by rw [if_pos hT]; exact hEC, _, h9, fun _ => rfl⟩, hS.F ht9⟩) hS.2.2 dL_makeFilter_19

set_option maxHeartbeats 4000000 in
set_option maxRecDepth 100000 in
/-- the helper of answerOf -/
theorem c_L_answerOf (l : Launch) (hls : l.stackTraces = false) (G : ecG) (X : Nat → Prop) (M : ecM) (x zo : Nat) (f9 : Nat → Int64) (hz9 : ¬ X zo) (hN : ecN0 G ≤ zo) (f : Int32) : vx_Met l yL_answerOf (ecWh yL_answerOf cL_answerOf 4 (Option.some FieldType.int) [(0, 9, 12, 19)]) (ecRm 10 8 150) (ecPc [.ref x, .int f, .ref zo] G (fun H => ecXs G X H ∧ EC G X M x H ∧ ecA G zo (eJ G 1 f9) H)) (ecEp (fun v H1 => v = some (.int (nI (thF M f))) ∧ EC G X (if thF M f = 0 then M else M) x H1 ∧ ∃ f1 : Nat → Int64, ecA G zo (eJ G 1 f1) H1 ∧ (thF M f = 0 → f1 0 = (nI (M.1 3 (cN f))).toInt64)) (fun q : Nat => X q ∨ q = zo)) (ecXc (fun _ => False)) 8 150 (fun q : Nat => X q ∨ q = zo) := by
  refine ec_hmet (by decide) (Nat.le_of_ble_eq_true rfl) ?_
  intro p e s m below meth c hC hr hlocks htab hOk hpre ls hl
  have hK := hOk.1
  obtain ⟨hXs, hEC, hz⟩ := hpre
  have hS : va_S (fun q : Nat => X q ∨ q = zo) s.heap s.heap [] := va_S.rf
  have hAN : ∀ q, (fun q : Nat => X q ∨ q = zo) q → ecN0 G ≤ q := fun q h => h.elim (hXs.1 q) (fun h => by rw [h]; exact hN)
  have hlab : ∃ fs, ecA G x (eO 5 fs) s.heap := by obtain ⟨tg9, ad9, hx9, hw9⟩ := hEC; exact ⟨_, hx9 ▸ hw9.1.1⟩
  obtain ⟨fs9, hlab⟩ := hlab
  have hl : lv_has ls 4 [(0, .ref x), (1, .int f), (2, .ref zo)] := hl
  refine lv_aload_n hC.1 hC.2.1 dL_answerOf_0 rfl (lv_at hl 2 rfl) ?_
  refine lv_iconst (v := 0) hC.1 hC.2.1 dL_answerOf_1 (by decide) ?_
  refine lv_aload_n hC.1 hC.2.1 dL_answerOf_2 rfl (lv_at hl 0 rfl) ?_
  refine lv_iload_n hC.1 hC.2.1 dL_answerOf_3 rfl (lv_at hl 1 rfl) ?_
  refine ec_goXE1 (ec_xV hC (c_X5_answerOf l hls G X M x f) kL_60 (hOk.at hS hAN) ⟨hXs, hEC⟩ (ec_rc hK hlab ⟨_, _, rfl⟩) hl.1 ⟨Nat.le_of_ble_eq_true rfl, Nat.le_of_ble_eq_true rfl⟩ rfl (Nat.le_of_ble_eq_true rfl) dL_answerOf_4 ⟨Nat.le_of_ble_eq_true rfl, Nat.le_of_ble_eq_true rfl⟩) hS (fun _ h => Or.inl h) (fun E9 ce9 q9 H locs hx hk9 hS h1 h2 h3 => ?_) (fun H locs hp hzs hk1 hS => ?_)
  · simp only [List.mem_cons, Prod.mk.injEq, List.not_mem_nil, or_false] at hx
    rcases hx with ⟨rfl, hT⟩
    · have hpas : ∀ z ∈ ([] : List ExceptionTableEntry), z.catchType ≠ 0 ∧ ∃ nm : String, Cond.classLink RL z.catchType nm ∈ GW ∧ (eIX, nm) ∈ ecNc := (fun z hz => nomatch hz)
      refine ec_catch hC hK htab [] ⟨0, 9, 12, 19⟩ [] rfl hpas (by decide) (by decide) q308 (by decide) h1 h2 h3 ?_
      refine lv_astore_n (lv' := [(3, .ref q9), (0, .ref x), (1, .int f), (2, .ref zo)]) hC.1 hC.2.1 dL_answerOf_12 rfl hl (by decide) rfl (fun ls hl => ?_)
      refine lv_iconst (v := 1) hC.1 hC.2.1 dL_answerOf_13 (by decide) ?_
      refine vx_ret ?_
      exact W.iret hC.1 hC.2.1 hr (fun t9 ht9 _ => ⟨_, rfl, by rw [ht9]; exact ⟨by rw [hT]; rfl, by rw [if_neg (by rw [hT]; decide)]; exact hEC.kp hk9, f9, hz.kp hk9, fun z => absurd (hT.symm.trans z) (by decide)⟩, hS.F ht9⟩) hS.2.2 dL_answerOf_14
  · obtain ⟨hT, hEC⟩ := hp
    have hz := hz.kept (hk1 _ hz.lt hz9)
    refine lv_i2l hC.1 hC.2.1 dL_answerOf_7 rfl ?_
    refine ec_last hC hK hS hz (Or.inr rfl) 0 rfl (by omega) (by omega) dL_answerOf_8 (fun H locs h9 o9 z9 hS => ?_)
    have hEC := hEC.ot (Y := fun q => q = zo) (fun q _ hn => o9 q hn) (fun q hq z => hz9 (z ▸ hq))
    refine lv_goto (tgt := 15) hC.1 hC.2.1 dL_answerOf_9 (by decide) ?_
    refine lv_iconst (v := 0) hC.1 hC.2.1 dL_answerOf_15 (by decide) ?_
    refine vx_ret ?_
    exact W.iret hC.1 hC.2.1 hr (fun t9 ht9 _ => ⟨_, rfl, by rw [ht9]; exact ⟨by rw [hT]; rfl, by rw [if_pos hT]; exact hEC, _, h9, fun _ => rfl⟩, hS.F ht9⟩) hS.2.2 dL_answerOf_16

set_option maxHeartbeats 4000000 in
set_option maxRecDepth 100000 in
/-- the helper of tap -/
theorem c_L_tap (l : Launch) (hls : l.stackTraces = false) (G : ecG) (X : Nat → Prop) (M : ecM) (x zo : Nat) (f9 : Nat → Int64) (hz9 : ¬ X zo) (hN : ecN0 G ≤ zo) (f i : Int32) : vx_Met l yL_tap (ecWh yL_tap cL_tap 5 (Option.some FieldType.int) [(0, 9, 12, 19), (0, 9, 16, 45)]) (ecRm 10 8 150) (ecPc [.ref x, .int f, .int i, .ref zo] G (fun H => ecXs G X H ∧ EC G X M x H ∧ ecA G zo (eJ G 1 f9) H)) (ecEp (fun v H1 => v = some (.int (nI (thTap M f i))) ∧ EC G X (if thTap M f i = 0 then M else M) x H1 ∧ ∃ f1 : Nat → Int64, ecA G zo (eJ G 1 f1) H1 ∧ (thTap M f i = 0 → f1 0 = M.2.2 (6 * cN f + cN i))) (fun q : Nat => X q ∨ q = zo)) (ecXc (fun _ => False)) 8 150 (fun q : Nat => X q ∨ q = zo) := by
  refine ec_hmet (by decide) (Nat.le_of_ble_eq_true rfl) ?_
  intro p e s m below meth c hC hr hlocks htab hOk hpre ls hl
  have hK := hOk.1
  obtain ⟨hXs, hEC, hz⟩ := hpre
  have hS : va_S (fun q : Nat => X q ∨ q = zo) s.heap s.heap [] := va_S.rf
  have hAN : ∀ q, (fun q : Nat => X q ∨ q = zo) q → ecN0 G ≤ q := fun q h => h.elim (hXs.1 q) (fun h => by rw [h]; exact hN)
  have hlab : ∃ fs, ecA G x (eO 5 fs) s.heap := by obtain ⟨tg9, ad9, hx9, hw9⟩ := hEC; exact ⟨_, hx9 ▸ hw9.1.1⟩
  obtain ⟨fs9, hlab⟩ := hlab
  have hl : lv_has ls 5 [(0, .ref x), (1, .int f), (2, .int i), (3, .ref zo)] := hl
  refine lv_aload_n hC.1 hC.2.1 dL_tap_0 rfl (lv_at hl 3 rfl) ?_
  refine lv_iconst (v := 0) hC.1 hC.2.1 dL_tap_1 (by decide) ?_
  refine lv_aload_n hC.1 hC.2.1 dL_tap_2 rfl (lv_at hl 0 rfl) ?_
  refine lv_iload_n hC.1 hC.2.1 dL_tap_3 rfl (lv_at hl 1 rfl) ?_
  refine lv_iload_n hC.1 hC.2.1 dL_tap_4 rfl (lv_at hl 2 rfl) ?_
  refine ec_goXE1 (ec_xV hC (c_X5_tap l hls G X M x f i) kL_63 (hOk.at hS hAN) ⟨hXs, hEC⟩ (ec_rc hK hlab ⟨_, _, rfl⟩) hl.1 ⟨Nat.le_of_ble_eq_true rfl, Nat.le_of_ble_eq_true rfl⟩ rfl (Nat.le_of_ble_eq_true rfl) dL_tap_5 ⟨Nat.le_of_ble_eq_true rfl, Nat.le_of_ble_eq_true rfl⟩) hS (fun _ h => Or.inl h) (fun E9 ce9 q9 H locs hx hk9 hS h1 h2 h3 => ?_) (fun H locs hp hzs hk1 hS => ?_)
  · simp only [List.mem_cons, Prod.mk.injEq, List.not_mem_nil, or_false] at hx
    rcases hx with ⟨rfl, hT⟩ | ⟨rfl, hT⟩
    · have hpas : ∀ z ∈ ([] : List ExceptionTableEntry), z.catchType ≠ 0 ∧ ∃ nm : String, Cond.classLink RL z.catchType nm ∈ GW ∧ (eIX, nm) ∈ ecNc := (fun z hz => nomatch hz)
      refine ec_catch hC hK htab [] ⟨0, 9, 12, 19⟩ [⟨0, 9, 16, 45⟩] rfl hpas (by decide) (by decide) q308 (by decide) h1 h2 h3 ?_
      refine lv_astore (lv' := [(4, .ref q9), (0, .ref x), (1, .int f), (2, .int i), (3, .ref zo)]) hC.1 hC.2.1 dL_tap_12 hl (by decide) rfl (fun ls hl => ?_)
      refine lv_iconst (v := 1) hC.1 hC.2.1 dL_tap_14 (by decide) ?_
      refine vx_ret ?_
      exact W.iret hC.1 hC.2.1 hr (fun t9 ht9 _ => ⟨_, rfl, by rw [ht9]; exact ⟨by rw [hT]; rfl, by rw [if_neg (by rw [hT]; decide)]; exact hEC.kp hk9, f9, hz.kp hk9, fun z => absurd (hT.symm.trans z) (by decide)⟩, hS.F ht9⟩) hS.2.2 dL_tap_15
    · have hpas : ∀ z ∈ ([⟨0, 9, 12, 19⟩] : List ExceptionTableEntry), z.catchType ≠ 0 ∧ ∃ nm : String, Cond.classLink RL z.catchType nm ∈ GW ∧ (eNS, nm) ∈ ecNc := (fun z hz => by
          simp only [List.mem_cons, List.not_mem_nil, or_false] at hz
          rcases hz with rfl
          · exact ⟨by decide, _, q308, by decide⟩)
      refine ec_catch hC hK htab [⟨0, 9, 12, 19⟩] ⟨0, 9, 16, 45⟩ [] rfl hpas (by decide) (by decide) q440 (by decide) h1 h2 h3 ?_
      refine lv_astore (lv' := [(4, .ref q9), (0, .ref x), (1, .int f), (2, .int i), (3, .ref zo)]) hC.1 hC.2.1 dL_tap_16 hl (by decide) rfl (fun ls hl => ?_)
      refine lv_iconst (v := 2) hC.1 hC.2.1 dL_tap_18 (by decide) ?_
      refine vx_ret ?_
      exact W.iret hC.1 hC.2.1 hr (fun t9 ht9 _ => ⟨_, rfl, by rw [ht9]; exact ⟨by rw [hT]; rfl, by rw [if_neg (by rw [hT]; decide)]; exact hEC.kp hk9, f9, hz.kp hk9, fun z => absurd (hT.symm.trans z) (by decide)⟩, hS.F ht9⟩) hS.2.2 dL_tap_19
  · obtain ⟨hT, hEC⟩ := hp
    have hz := hz.kept (hk1 _ hz.lt hz9)
    refine ec_last hC hK hS hz (Or.inr rfl) 0 rfl (by omega) (by omega) dL_tap_8 (fun H locs h9 o9 z9 hS => ?_)
    have hEC := hEC.ot (Y := fun q => q = zo) (fun q _ hn => o9 q hn) (fun q hq z => hz9 (z ▸ hq))
    refine lv_goto (tgt := 20) hC.1 hC.2.1 dL_tap_9 (by decide) ?_
    refine lv_iconst (v := 0) hC.1 hC.2.1 dL_tap_20 (by decide) ?_
    refine vx_ret ?_
    exact W.iret hC.1 hC.2.1 hr (fun t9 ht9 _ => ⟨_, rfl, by rw [ht9]; exact ⟨by rw [hT]; rfl, by rw [if_pos hT]; exact hEC, _, h9, fun _ => rfl⟩, hS.F ht9⟩) hS.2.2 dL_tap_21

set_option maxHeartbeats 4000000 in
set_option maxRecDepth 100000 in
/-- the helper of bar -/
theorem c_L_bar (l : Launch) (hls : l.stackTraces = false) (G : ecG) (X : Nat → Prop) (M : ecM) (x zo : Nat) (f9 : Nat → Int64) (hz9 : ¬ X zo) (hN : ecN0 G ≤ zo) (f : Int32) : vx_Met l yL_bar (ecWh yL_bar cL_bar 4 (Option.some FieldType.int) [(0, 9, 12, 19)]) (ecRm 10 8 150) (ecPc [.ref x, .int f, .ref zo] G (fun H => ecXs G X H ∧ EC G X M x H ∧ ecA G zo (eJ G 1 f9) H)) (ecEp (fun v H1 => v = some (.int (nI (thF M f))) ∧ EC G X (if thF M f = 0 then M else M) x H1 ∧ ∃ f1 : Nat → Int64, ecA G zo (eJ G 1 f1) H1 ∧ (thF M f = 0 → f1 0 = (barM M (cN f)).toInt64)) (fun q : Nat => X q ∨ q = zo)) (ecXc (fun _ => False)) 8 150 (fun q : Nat => X q ∨ q = zo) := by
  refine ec_hmet (by decide) (Nat.le_of_ble_eq_true rfl) ?_
  intro p e s m below meth c hC hr hlocks htab hOk hpre ls hl
  have hK := hOk.1
  obtain ⟨hXs, hEC, hz⟩ := hpre
  have hS : va_S (fun q : Nat => X q ∨ q = zo) s.heap s.heap [] := va_S.rf
  have hAN : ∀ q, (fun q : Nat => X q ∨ q = zo) q → ecN0 G ≤ q := fun q h => h.elim (hXs.1 q) (fun h => by rw [h]; exact hN)
  have hlab : ∃ fs, ecA G x (eO 5 fs) s.heap := by obtain ⟨tg9, ad9, hx9, hw9⟩ := hEC; exact ⟨_, hx9 ▸ hw9.1.1⟩
  obtain ⟨fs9, hlab⟩ := hlab
  have hl : lv_has ls 4 [(0, .ref x), (1, .int f), (2, .ref zo)] := hl
  refine lv_aload_n hC.1 hC.2.1 dL_bar_0 rfl (lv_at hl 2 rfl) ?_
  refine lv_iconst (v := 0) hC.1 hC.2.1 dL_bar_1 (by decide) ?_
  refine lv_aload_n hC.1 hC.2.1 dL_bar_2 rfl (lv_at hl 0 rfl) ?_
  refine lv_iload_n hC.1 hC.2.1 dL_bar_3 rfl (lv_at hl 1 rfl) ?_
  refine ec_goXE1 (ec_xV hC (c_X5_bar l hls G X M x f) kL_67 (hOk.at hS hAN) ⟨hXs, hEC⟩ (ec_rc hK hlab ⟨_, _, rfl⟩) hl.1 ⟨Nat.le_of_ble_eq_true rfl, Nat.le_of_ble_eq_true rfl⟩ rfl (Nat.le_of_ble_eq_true rfl) dL_bar_4 ⟨Nat.le_of_ble_eq_true rfl, Nat.le_of_ble_eq_true rfl⟩) hS (fun _ h => Or.inl h) (fun E9 ce9 q9 H locs hx hk9 hS h1 h2 h3 => ?_) (fun H locs hp hzs hk1 hS => ?_)
  · simp only [List.mem_cons, Prod.mk.injEq, List.not_mem_nil, or_false] at hx
    rcases hx with ⟨rfl, hT⟩
    · have hpas : ∀ z ∈ ([] : List ExceptionTableEntry), z.catchType ≠ 0 ∧ ∃ nm : String, Cond.classLink RL z.catchType nm ∈ GW ∧ (eIX, nm) ∈ ecNc := (fun z hz => nomatch hz)
      refine ec_catch hC hK htab [] ⟨0, 9, 12, 19⟩ [] rfl hpas (by decide) (by decide) q308 (by decide) h1 h2 h3 ?_
      refine lv_astore_n (lv' := [(3, .ref q9), (0, .ref x), (1, .int f), (2, .ref zo)]) hC.1 hC.2.1 dL_bar_12 rfl hl (by decide) rfl (fun ls hl => ?_)
      refine lv_iconst (v := 1) hC.1 hC.2.1 dL_bar_13 (by decide) ?_
      refine vx_ret ?_
      exact W.iret hC.1 hC.2.1 hr (fun t9 ht9 _ => ⟨_, rfl, by rw [ht9]; exact ⟨by rw [hT]; rfl, by rw [if_neg (by rw [hT]; decide)]; exact hEC.kp hk9, f9, hz.kp hk9, fun z => absurd (hT.symm.trans z) (by decide)⟩, hS.F ht9⟩) hS.2.2 dL_bar_14
  · obtain ⟨hT, hEC⟩ := hp
    have hz := hz.kept (hk1 _ hz.lt hz9)
    refine lv_i2l hC.1 hC.2.1 dL_bar_7 rfl ?_
    refine ec_last hC hK hS hz (Or.inr rfl) 0 rfl (by omega) (by omega) dL_bar_8 (fun H locs h9 o9 z9 hS => ?_)
    have hEC := hEC.ot (Y := fun q => q = zo) (fun q _ hn => o9 q hn) (fun q hq z => hz9 (z ▸ hq))
    refine lv_goto (tgt := 15) hC.1 hC.2.1 dL_bar_9 (by decide) ?_
    refine lv_iconst (v := 0) hC.1 hC.2.1 dL_bar_15 (by decide) ?_
    refine vx_ret ?_
    exact W.iret hC.1 hC.2.1 hr (fun t9 ht9 _ => ⟨_, rfl, by rw [ht9]; exact ⟨by rw [hT]; rfl, by rw [if_pos hT]; exact hEC, _, h9, fun _ => rfl⟩, hS.F ht9⟩) hS.2.2 dL_bar_16

set_option maxHeartbeats 4000000 in
set_option maxRecDepth 100000 in
/-- the helper of use -/
theorem c_L_use (l : Launch) (hls : l.stackTraces = false) (G : ecG) (X : Nat → Prop) (M : ecM) (x zo : Nat) (f9 : Nat → Int64) (hz9 : ¬ X zo) (hN : ecN0 G ≤ zo) (f y : Int32) : vx_Met l yL_use (ecWh yL_use cL_use 5 (Option.some FieldType.int) [(0, 9, 12, 19), (0, 9, 16, 21), (0, 9, 20, 74)]) (ecRm 10 8 150) (ecPc [.ref x, .int f, .int y, .ref zo] G (fun H => ecXs G X H ∧ EC G X M x H ∧ ecA G zo (eJ G 1 f9) H)) (ecEp (fun v H1 => v = some (.int (nI (thUse M f y))) ∧ EC G X (if thUse M f y = 0 then useM M (cN f) y else M) x H1 ∧ ∃ f1 : Nat → Int64, ecA G zo (eJ G 1 f1) H1 ∧ (thUse M f y = 0 → f1 0 = gvS (tpA M (cN f)) (psU (psA M (cN f)) y) 6)) (fun q : Nat => X q ∨ q = zo)) (ecXc (fun _ => False)) 8 150 (fun q : Nat => X q ∨ q = zo) := by
  refine ec_hmet (by decide) (Nat.le_of_ble_eq_true rfl) ?_
  intro p e s m below meth c hC hr hlocks htab hOk hpre ls hl
  have hK := hOk.1
  obtain ⟨hXs, hEC, hz⟩ := hpre
  have hS : va_S (fun q : Nat => X q ∨ q = zo) s.heap s.heap [] := va_S.rf
  have hAN : ∀ q, (fun q : Nat => X q ∨ q = zo) q → ecN0 G ≤ q := fun q h => h.elim (hXs.1 q) (fun h => by rw [h]; exact hN)
  have hlab : ∃ fs, ecA G x (eO 5 fs) s.heap := by obtain ⟨tg9, ad9, hx9, hw9⟩ := hEC; exact ⟨_, hx9 ▸ hw9.1.1⟩
  obtain ⟨fs9, hlab⟩ := hlab
  have hl : lv_has ls 5 [(0, .ref x), (1, .int f), (2, .int y), (3, .ref zo)] := hl
  refine lv_aload_n hC.1 hC.2.1 dL_use_0 rfl (lv_at hl 3 rfl) ?_
  refine lv_iconst (v := 0) hC.1 hC.2.1 dL_use_1 (by decide) ?_
  refine lv_aload_n hC.1 hC.2.1 dL_use_2 rfl (lv_at hl 0 rfl) ?_
  refine lv_iload_n hC.1 hC.2.1 dL_use_3 rfl (lv_at hl 1 rfl) ?_
  refine lv_iload_n hC.1 hC.2.1 dL_use_4 rfl (lv_at hl 2 rfl) ?_
  refine ec_goXE1 (ec_xV hC (c_X5_use l hls G X M x f y) kL_71 (hOk.at hS hAN) ⟨hXs, hEC⟩ (ec_rc hK hlab ⟨_, _, rfl⟩) hl.1 ⟨Nat.le_of_ble_eq_true rfl, Nat.le_of_ble_eq_true rfl⟩ rfl (Nat.le_of_ble_eq_true rfl) dL_use_5 ⟨Nat.le_of_ble_eq_true rfl, Nat.le_of_ble_eq_true rfl⟩) hS (fun _ h => Or.inl h) (fun E9 ce9 q9 H locs hx hk9 hS h1 h2 h3 => ?_) (fun H locs hp hzs hk1 hS => ?_)
  · simp only [List.mem_cons, Prod.mk.injEq, List.not_mem_nil, or_false] at hx
    rcases hx with ⟨rfl, hT⟩ | ⟨rfl, hT⟩ | ⟨rfl, hT⟩
    · have hpas : ∀ z ∈ ([] : List ExceptionTableEntry), z.catchType ≠ 0 ∧ ∃ nm : String, Cond.classLink RL z.catchType nm ∈ GW ∧ (eIX, nm) ∈ ecNc := (fun z hz => nomatch hz)
      refine ec_catch hC hK htab [] ⟨0, 9, 12, 19⟩ [⟨0, 9, 16, 21⟩, ⟨0, 9, 20, 74⟩] rfl hpas (by decide) (by decide) q308 (by decide) h1 h2 h3 ?_
      refine lv_astore (lv' := [(4, .ref q9), (0, .ref x), (1, .int f), (2, .int y), (3, .ref zo)]) hC.1 hC.2.1 dL_use_12 hl (by decide) rfl (fun ls hl => ?_)
      refine lv_iconst (v := 1) hC.1 hC.2.1 dL_use_14 (by decide) ?_
      refine vx_ret ?_
      exact W.iret hC.1 hC.2.1 hr (fun t9 ht9 _ => ⟨_, rfl, by rw [ht9]; exact ⟨by rw [hT]; rfl, by rw [if_neg (by rw [hT]; decide)]; exact hEC.kp hk9, f9, hz.kp hk9, fun z => absurd (hT.symm.trans z) (by decide)⟩, hS.F ht9⟩) hS.2.2 dL_use_15
    · have hpas : ∀ z ∈ ([⟨0, 9, 12, 19⟩] : List ExceptionTableEntry), z.catchType ≠ 0 ∧ ∃ nm : String, Cond.classLink RL z.catchType nm ∈ GW ∧ (eAG, nm) ∈ ecNc := (fun z hz => by
          simp only [List.mem_cons, List.not_mem_nil, or_false] at hz
          rcases hz with rfl
          · exact ⟨by decide, _, q308, by decide⟩)
      refine ec_catch hC hK htab [⟨0, 9, 12, 19⟩] ⟨0, 9, 16, 21⟩ [⟨0, 9, 20, 74⟩] rfl hpas (by decide) (by decide) q309 (by decide) h1 h2 h3 ?_
      refine lv_astore (lv' := [(4, .ref q9), (0, .ref x), (1, .int f), (2, .int y), (3, .ref zo)]) hC.1 hC.2.1 dL_use_16 hl (by decide) rfl (fun ls hl => ?_)
      refine lv_iconst (v := 2) hC.1 hC.2.1 dL_use_18 (by decide) ?_
      refine vx_ret ?_
      exact W.iret hC.1 hC.2.1 hr (fun t9 ht9 _ => ⟨_, rfl, by rw [ht9]; exact ⟨by rw [hT]; rfl, by rw [if_neg (by rw [hT]; decide)]; exact hEC.kp hk9, f9, hz.kp hk9, fun z => absurd (hT.symm.trans z) (by decide)⟩, hS.F ht9⟩) hS.2.2 dL_use_19
    · have hpas : ∀ z ∈ ([⟨0, 9, 12, 19⟩, ⟨0, 9, 16, 21⟩] : List ExceptionTableEntry), z.catchType ≠ 0 ∧ ∃ nm : String, Cond.classLink RL z.catchType nm ∈ GW ∧ (eUO, nm) ∈ ecNc := (fun z hz => by
          simp only [List.mem_cons, List.not_mem_nil, or_false] at hz
          rcases hz with rfl | rfl
          · exact ⟨by decide, _, q308, by decide⟩
          · exact ⟨by decide, _, q309, by decide⟩)
      refine ec_catch hC hK htab [⟨0, 9, 12, 19⟩, ⟨0, 9, 16, 21⟩] ⟨0, 9, 20, 74⟩ [] rfl hpas (by decide) (by decide) q554 (by decide) h1 h2 h3 ?_
      refine lv_astore (lv' := [(4, .ref q9), (0, .ref x), (1, .int f), (2, .int y), (3, .ref zo)]) hC.1 hC.2.1 dL_use_20 hl (by decide) rfl (fun ls hl => ?_)
      refine lv_iconst (v := 3) hC.1 hC.2.1 dL_use_22 (by decide) ?_
      refine vx_ret ?_
      exact W.iret hC.1 hC.2.1 hr (fun t9 ht9 _ => ⟨_, rfl, by rw [ht9]; exact ⟨by rw [hT]; rfl, by rw [if_neg (by rw [hT]; decide)]; exact hEC.kp hk9, f9, hz.kp hk9, fun z => absurd (hT.symm.trans z) (by decide)⟩, hS.F ht9⟩) hS.2.2 dL_use_23
  · obtain ⟨hT, hEC⟩ := hp
    have hz := hz.kept (hk1 _ hz.lt hz9)
    refine ec_last hC hK hS hz (Or.inr rfl) 0 rfl (by omega) (by omega) dL_use_8 (fun H locs h9 o9 z9 hS => ?_)
    have hEC := hEC.ot (Y := fun q => q = zo) (fun q _ hn => o9 q hn) (fun q hq z => hz9 (z ▸ hq))
    refine lv_goto (tgt := 24) hC.1 hC.2.1 dL_use_9 (by decide) ?_
    refine lv_iconst (v := 0) hC.1 hC.2.1 dL_use_24 (by decide) ?_
    refine vx_ret ?_
    exact W.iret hC.1 hC.2.1 hr (fun t9 ht9 _ => ⟨_, rfl, by rw [ht9]; exact ⟨by rw [hT]; rfl, by rw [if_pos hT]; exact hEC, _, h9, fun _ => rfl⟩, hS.F ht9⟩) hS.2.2 dL_use_25

set_option maxHeartbeats 4000000 in
set_option maxRecDepth 100000 in
/-- the helper of inputs -/
theorem c_L_inputs (l : Launch) (hls : l.stackTraces = false) (G : ecG) (X : Nat → Prop) (M : ecM) (x zo : Nat) (f9 : Nat → Int64) (hz9 : ¬ X zo) (hN : ecN0 G ≤ zo) (f : Int32) : vx_Met l yL_inputs (ecWh yL_inputs cL_inputs 4 (Option.some FieldType.int) [(0, 9, 12, 19)]) (ecRm 10 8 150) (ecPc [.ref x, .int f, .ref zo] G (fun H => ecXs G X H ∧ EC G X M x H ∧ ecA G zo (eJ G 1 f9) H)) (ecEp (fun v H1 => v = some (.int (nI (thF M f))) ∧ EC G X (if thF M f = 0 then M else M) x H1 ∧ ∃ f1 : Nat → Int64, ecA G zo (eJ G 1 f1) H1 ∧ (thF M f = 0 → f1 0 = (M.2.1 6 (cN f)).toInt64)) (fun q : Nat => X q ∨ q = zo)) (ecXc (fun _ => False)) 8 150 (fun q : Nat => X q ∨ q = zo) := by
  refine ec_hmet (by decide) (Nat.le_of_ble_eq_true rfl) ?_
  intro p e s m below meth c hC hr hlocks htab hOk hpre ls hl
  have hK := hOk.1
  obtain ⟨hXs, hEC, hz⟩ := hpre
  have hS : va_S (fun q : Nat => X q ∨ q = zo) s.heap s.heap [] := va_S.rf
  have hAN : ∀ q, (fun q : Nat => X q ∨ q = zo) q → ecN0 G ≤ q := fun q h => h.elim (hXs.1 q) (fun h => by rw [h]; exact hN)
  have hlab : ∃ fs, ecA G x (eO 5 fs) s.heap := by obtain ⟨tg9, ad9, hx9, hw9⟩ := hEC; exact ⟨_, hx9 ▸ hw9.1.1⟩
  obtain ⟨fs9, hlab⟩ := hlab
  have hl : lv_has ls 4 [(0, .ref x), (1, .int f), (2, .ref zo)] := hl
  refine lv_aload_n hC.1 hC.2.1 dL_inputs_0 rfl (lv_at hl 2 rfl) ?_
  refine lv_iconst (v := 0) hC.1 hC.2.1 dL_inputs_1 (by decide) ?_
  refine lv_aload_n hC.1 hC.2.1 dL_inputs_2 rfl (lv_at hl 0 rfl) ?_
  refine lv_iload_n hC.1 hC.2.1 dL_inputs_3 rfl (lv_at hl 1 rfl) ?_
  refine ec_goXE1 (ec_xV hC (c_X5_inputs l hls G X M x f) kL_76 (hOk.at hS hAN) ⟨hXs, hEC⟩ (ec_rc hK hlab ⟨_, _, rfl⟩) hl.1 ⟨Nat.le_of_ble_eq_true rfl, Nat.le_of_ble_eq_true rfl⟩ rfl (Nat.le_of_ble_eq_true rfl) dL_inputs_4 ⟨Nat.le_of_ble_eq_true rfl, Nat.le_of_ble_eq_true rfl⟩) hS (fun _ h => Or.inl h) (fun E9 ce9 q9 H locs hx hk9 hS h1 h2 h3 => ?_) (fun H locs hp hzs hk1 hS => ?_)
  · simp only [List.mem_cons, Prod.mk.injEq, List.not_mem_nil, or_false] at hx
    rcases hx with ⟨rfl, hT⟩
    · have hpas : ∀ z ∈ ([] : List ExceptionTableEntry), z.catchType ≠ 0 ∧ ∃ nm : String, Cond.classLink RL z.catchType nm ∈ GW ∧ (eIX, nm) ∈ ecNc := (fun z hz => nomatch hz)
      refine ec_catch hC hK htab [] ⟨0, 9, 12, 19⟩ [] rfl hpas (by decide) (by decide) q308 (by decide) h1 h2 h3 ?_
      refine lv_astore_n (lv' := [(3, .ref q9), (0, .ref x), (1, .int f), (2, .ref zo)]) hC.1 hC.2.1 dL_inputs_12 rfl hl (by decide) rfl (fun ls hl => ?_)
      refine lv_iconst (v := 1) hC.1 hC.2.1 dL_inputs_13 (by decide) ?_
      refine vx_ret ?_
      exact W.iret hC.1 hC.2.1 hr (fun t9 ht9 _ => ⟨_, rfl, by rw [ht9]; exact ⟨by rw [hT]; rfl, by rw [if_neg (by rw [hT]; decide)]; exact hEC.kp hk9, f9, hz.kp hk9, fun z => absurd (hT.symm.trans z) (by decide)⟩, hS.F ht9⟩) hS.2.2 dL_inputs_14
  · obtain ⟨hT, hEC⟩ := hp
    have hz := hz.kept (hk1 _ hz.lt hz9)
    refine lv_i2l hC.1 hC.2.1 dL_inputs_7 rfl ?_
    refine ec_last hC hK hS hz (Or.inr rfl) 0 rfl (by omega) (by omega) dL_inputs_8 (fun H locs h9 o9 z9 hS => ?_)
    have hEC := hEC.ot (Y := fun q => q = zo) (fun q _ hn => o9 q hn) (fun q hq z => hz9 (z ▸ hq))
    refine lv_goto (tgt := 15) hC.1 hC.2.1 dL_inputs_9 (by decide) ?_
    refine lv_iconst (v := 0) hC.1 hC.2.1 dL_inputs_15 (by decide) ?_
    refine vx_ret ?_
    exact W.iret hC.1 hC.2.1 hr (fun t9 ht9 _ => ⟨_, rfl, by rw [ht9]; exact ⟨by rw [hT]; rfl, by rw [if_pos hT]; exact hEC, _, h9, fun _ => rfl⟩, hS.F ht9⟩) hS.2.2 dL_inputs_16

set_option maxHeartbeats 4000000 in
set_option maxRecDepth 100000 in
/-- the helper of product -/
theorem c_L_product (l : Launch) (hls : l.stackTraces = false) (G : ecG) (X : Nat → Prop) (M : ecM) (x zo : Nat) (f9 : Nat → Int64) (hz9 : ¬ X zo) (hN : ecN0 G ≤ zo) (f a i : Int32) : vx_Met l yL_product (ecWh yL_product cL_product 6 (Option.some FieldType.int) [(0, 11, 14, 19), (0, 11, 18, 45)]) (ecRm 10 8 150) (ecPc [.ref x, .int f, .int a, .int i, .ref zo] G (fun H => ecXs G X H ∧ EC G X M x H ∧ ecA G zo (eJ G 1 f9) H)) (ecEp (fun v H1 => v = some (.int (nI (thPro M f a i))) ∧ EC G X (if thPro M f a i = 0 then M else M) x H1 ∧ ∃ f1 : Nat → Int64, ecA G zo (eJ G 1 f1) H1 ∧ (thPro M f a i = 0 → f1 0 = prd (smA M (cN a)) (tpA M (cN f)) (cN i))) (fun q : Nat => X q ∨ q = zo)) (ecXc (fun _ => False)) 8 150 (fun q : Nat => X q ∨ q = zo) := by
  refine ec_hmet (by decide) (Nat.le_of_ble_eq_true rfl) ?_
  intro p e s m below meth c hC hr hlocks htab hOk hpre ls hl
  have hK := hOk.1
  obtain ⟨hXs, hEC, hz⟩ := hpre
  have hS : va_S (fun q : Nat => X q ∨ q = zo) s.heap s.heap [] := va_S.rf
  have hAN : ∀ q, (fun q : Nat => X q ∨ q = zo) q → ecN0 G ≤ q := fun q h => h.elim (hXs.1 q) (fun h => by rw [h]; exact hN)
  have hlab : ∃ fs, ecA G x (eO 5 fs) s.heap := by obtain ⟨tg9, ad9, hx9, hw9⟩ := hEC; exact ⟨_, hx9 ▸ hw9.1.1⟩
  obtain ⟨fs9, hlab⟩ := hlab
  have hl : lv_has ls 6 [(0, .ref x), (1, .int f), (2, .int a), (3, .int i), (4, .ref zo)] := hl
  refine lv_aload hC.1 hC.2.1 dL_product_0 (lv_at hl 4 rfl) ?_
  refine lv_iconst (v := 0) hC.1 hC.2.1 dL_product_2 (by decide) ?_
  refine lv_aload_n hC.1 hC.2.1 dL_product_3 rfl (lv_at hl 0 rfl) ?_
  refine lv_iload_n hC.1 hC.2.1 dL_product_4 rfl (lv_at hl 1 rfl) ?_
  refine lv_iload_n hC.1 hC.2.1 dL_product_5 rfl (lv_at hl 2 rfl) ?_
  refine lv_iload_n hC.1 hC.2.1 dL_product_6 rfl (lv_at hl 3 rfl) ?_
  refine ec_goXE1 (ec_xV hC (c_X5_product l hls G X M x f a i) kL_79 (hOk.at hS hAN) ⟨hXs, hEC⟩ (ec_rc hK hlab ⟨_, _, rfl⟩) hl.1 ⟨Nat.le_of_ble_eq_true rfl, Nat.le_of_ble_eq_true rfl⟩ rfl (Nat.le_of_ble_eq_true rfl) dL_product_7 ⟨Nat.le_of_ble_eq_true rfl, Nat.le_of_ble_eq_true rfl⟩) hS (fun _ h => Or.inl h) (fun E9 ce9 q9 H locs hx hk9 hS h1 h2 h3 => ?_) (fun H locs hp hzs hk1 hS => ?_)
  · simp only [List.mem_cons, Prod.mk.injEq, List.not_mem_nil, or_false] at hx
    rcases hx with ⟨rfl, hT⟩ | ⟨rfl, hT⟩
    · have hpas : ∀ z ∈ ([] : List ExceptionTableEntry), z.catchType ≠ 0 ∧ ∃ nm : String, Cond.classLink RL z.catchType nm ∈ GW ∧ (eIX, nm) ∈ ecNc := (fun z hz => nomatch hz)
      refine ec_catch hC hK htab [] ⟨0, 11, 14, 19⟩ [⟨0, 11, 18, 45⟩] rfl hpas (by decide) (by decide) q308 (by decide) h1 h2 h3 ?_
      refine lv_astore (lv' := [(5, .ref q9), (0, .ref x), (1, .int f), (2, .int a), (3, .int i), (4, .ref zo)]) hC.1 hC.2.1 dL_product_14 hl (by decide) rfl (fun ls hl => ?_)
      refine lv_iconst (v := 1) hC.1 hC.2.1 dL_product_16 (by decide) ?_
      refine vx_ret ?_
      exact W.iret hC.1 hC.2.1 hr (fun t9 ht9 _ => ⟨_, rfl, by rw [ht9]; exact ⟨by rw [hT]; rfl, by rw [if_neg (by rw [hT]; decide)]; exact hEC.kp hk9, f9, hz.kp hk9, fun z => absurd (hT.symm.trans z) (by decide)⟩, hS.F ht9⟩) hS.2.2 dL_product_17
    · have hpas : ∀ z ∈ ([⟨0, 11, 14, 19⟩] : List ExceptionTableEntry), z.catchType ≠ 0 ∧ ∃ nm : String, Cond.classLink RL z.catchType nm ∈ GW ∧ (eNS, nm) ∈ ecNc := (fun z hz => by
          simp only [List.mem_cons, List.not_mem_nil, or_false] at hz
          rcases hz with rfl
          · exact ⟨by decide, _, q308, by decide⟩)
      refine ec_catch hC hK htab [⟨0, 11, 14, 19⟩] ⟨0, 11, 18, 45⟩ [] rfl hpas (by decide) (by decide) q440 (by decide) h1 h2 h3 ?_
      refine lv_astore (lv' := [(5, .ref q9), (0, .ref x), (1, .int f), (2, .int a), (3, .int i), (4, .ref zo)]) hC.1 hC.2.1 dL_product_18 hl (by decide) rfl (fun ls hl => ?_)
      refine lv_iconst (v := 2) hC.1 hC.2.1 dL_product_20 (by decide) ?_
      refine vx_ret ?_
      exact W.iret hC.1 hC.2.1 hr (fun t9 ht9 _ => ⟨_, rfl, by rw [ht9]; exact ⟨by rw [hT]; rfl, by rw [if_neg (by rw [hT]; decide)]; exact hEC.kp hk9, f9, hz.kp hk9, fun z => absurd (hT.symm.trans z) (by decide)⟩, hS.F ht9⟩) hS.2.2 dL_product_21
  · obtain ⟨hT, hEC⟩ := hp
    have hz := hz.kept (hk1 _ hz.lt hz9)
    refine ec_last hC hK hS hz (Or.inr rfl) 0 rfl (by omega) (by omega) dL_product_10 (fun H locs h9 o9 z9 hS => ?_)
    have hEC := hEC.ot (Y := fun q => q = zo) (fun q _ hn => o9 q hn) (fun q hq z => hz9 (z ▸ hq))
    refine lv_goto (tgt := 22) hC.1 hC.2.1 dL_product_11 (by decide) ?_
    refine lv_iconst (v := 0) hC.1 hC.2.1 dL_product_22 (by decide) ?_
    refine vx_ret ?_
    exact W.iret hC.1 hC.2.1 hr (fun t9 ht9 _ => ⟨_, rfl, by rw [ht9]; exact ⟨by rw [hT]; rfl, by rw [if_pos hT]; exact hEC, _, h9, fun _ => rfl⟩, hS.F ht9⟩) hS.2.2 dL_product_23

set_option maxHeartbeats 4000000 in
set_option maxRecDepth 100000 in
/-- the helper of rightSamples -/
theorem c_L_rightSamples (l : Launch) (hls : l.stackTraces = false) (G : ecG) (X : Nat → Prop) (M : ecM) (x zo : Nat) (f9 : Nat → Int64) (hz9 : ¬ X zo) (hN : ecN0 G ≤ zo) (f a : Int32) : vx_Met l yL_rightSamples (ecWh yL_rightSamples cL_rightSamples 5 (Option.some FieldType.int) [(0, 10, 13, 19)]) (ecRm 10 8 150) (ecPc [.ref x, .int f, .int a, .ref zo] G (fun H => ecXs G X H ∧ EC G X M x H ∧ ecA G zo (eJ G 1 f9) H)) (ecEp (fun v H1 => v = some (.int (nI (thPr M f a))) ∧ EC G X (if thPr M f a = 0 then M else M) x H1 ∧ ∃ f1 : Nat → Int64, ecA G zo (eJ G 1 f1) H1 ∧ (thPr M f a = 0 → f1 0 = (nI (rgt (smA M (cN a)) (tpA M (cN f)))).toInt64)) (fun q : Nat => X q ∨ q = zo)) (ecXc (fun _ => False)) 8 150 (fun q : Nat => X q ∨ q = zo) := by
  refine ec_hmet (by decide) (Nat.le_of_ble_eq_true rfl) ?_
  intro p e s m below meth c hC hr hlocks htab hOk hpre ls hl
  have hK := hOk.1
  obtain ⟨hXs, hEC, hz⟩ := hpre
  have hS : va_S (fun q : Nat => X q ∨ q = zo) s.heap s.heap [] := va_S.rf
  have hAN : ∀ q, (fun q : Nat => X q ∨ q = zo) q → ecN0 G ≤ q := fun q h => h.elim (hXs.1 q) (fun h => by rw [h]; exact hN)
  have hlab : ∃ fs, ecA G x (eO 5 fs) s.heap := by obtain ⟨tg9, ad9, hx9, hw9⟩ := hEC; exact ⟨_, hx9 ▸ hw9.1.1⟩
  obtain ⟨fs9, hlab⟩ := hlab
  have hl : lv_has ls 5 [(0, .ref x), (1, .int f), (2, .int a), (3, .ref zo)] := hl
  refine lv_aload_n hC.1 hC.2.1 dL_rightSamples_0 rfl (lv_at hl 3 rfl) ?_
  refine lv_iconst (v := 0) hC.1 hC.2.1 dL_rightSamples_1 (by decide) ?_
  refine lv_aload_n hC.1 hC.2.1 dL_rightSamples_2 rfl (lv_at hl 0 rfl) ?_
  refine lv_iload_n hC.1 hC.2.1 dL_rightSamples_3 rfl (lv_at hl 1 rfl) ?_
  refine lv_iload_n hC.1 hC.2.1 dL_rightSamples_4 rfl (lv_at hl 2 rfl) ?_
  refine ec_goXE1 (ec_xV hC (c_X5_rightSamples l hls G X M x f a) kL_83 (hOk.at hS hAN) ⟨hXs, hEC⟩ (ec_rc hK hlab ⟨_, _, rfl⟩) hl.1 ⟨Nat.le_of_ble_eq_true rfl, Nat.le_of_ble_eq_true rfl⟩ rfl (Nat.le_of_ble_eq_true rfl) dL_rightSamples_5 ⟨Nat.le_of_ble_eq_true rfl, Nat.le_of_ble_eq_true rfl⟩) hS (fun _ h => Or.inl h) (fun E9 ce9 q9 H locs hx hk9 hS h1 h2 h3 => ?_) (fun H locs hp hzs hk1 hS => ?_)
  · simp only [List.mem_cons, Prod.mk.injEq, List.not_mem_nil, or_false] at hx
    rcases hx with ⟨rfl, hT⟩
    · have hpas : ∀ z ∈ ([] : List ExceptionTableEntry), z.catchType ≠ 0 ∧ ∃ nm : String, Cond.classLink RL z.catchType nm ∈ GW ∧ (eIX, nm) ∈ ecNc := (fun z hz => nomatch hz)
      refine ec_catch hC hK htab [] ⟨0, 10, 13, 19⟩ [] rfl hpas (by decide) (by decide) q308 (by decide) h1 h2 h3 ?_
      refine lv_astore (lv' := [(4, .ref q9), (0, .ref x), (1, .int f), (2, .int a), (3, .ref zo)]) hC.1 hC.2.1 dL_rightSamples_13 hl (by decide) rfl (fun ls hl => ?_)
      refine lv_iconst (v := 1) hC.1 hC.2.1 dL_rightSamples_15 (by decide) ?_
      refine vx_ret ?_
      exact W.iret hC.1 hC.2.1 hr (fun t9 ht9 _ => ⟨_, rfl, by rw [ht9]; exact ⟨by rw [hT]; rfl, by rw [if_neg (by rw [hT]; decide)]; exact hEC.kp hk9, f9, hz.kp hk9, fun z => absurd (hT.symm.trans z) (by decide)⟩, hS.F ht9⟩) hS.2.2 dL_rightSamples_16
  · obtain ⟨hT, hEC⟩ := hp
    have hz := hz.kept (hk1 _ hz.lt hz9)
    refine lv_i2l hC.1 hC.2.1 dL_rightSamples_8 rfl ?_
    refine ec_last hC hK hS hz (Or.inr rfl) 0 rfl (by omega) (by omega) dL_rightSamples_9 (fun H locs h9 o9 z9 hS => ?_)
    have hEC := hEC.ot (Y := fun q => q = zo) (fun q _ hn => o9 q hn) (fun q hq z => hz9 (z ▸ hq))
    refine lv_goto (tgt := 17) hC.1 hC.2.1 dL_rightSamples_10 (by decide) ?_
    refine lv_iconst (v := 0) hC.1 hC.2.1 dL_rightSamples_17 (by decide) ?_
    refine vx_ret ?_
    exact W.iret hC.1 hC.2.1 hr (fun t9 ht9 _ => ⟨_, rfl, by rw [ht9]; exact ⟨by rw [hT]; rfl, by rw [if_pos hT]; exact hEC, _, h9, fun _ => rfl⟩, hS.F ht9⟩) hS.2.2 dL_rightSamples_18

set_option maxHeartbeats 4000000 in
set_option maxRecDepth 100000 in
/-- the helper of isChecked -/
theorem c_L_isChecked (l : Launch) (hls : l.stackTraces = false) (G : ecG) (X : Nat → Prop) (M : ecM) (x zo : Nat) (f9 : Nat → Int64) (hz9 : ¬ X zo) (hN : ecN0 G ≤ zo) (f : Int32) : vx_Met l yL_isChecked (ecWh yL_isChecked cL_isChecked 4 (Option.some FieldType.int) [(0, 16, 19, 19)]) (ecRm 10 8 150) (ecPc [.ref x, .int f, .ref zo] G (fun H => ecXs G X H ∧ EC G X M x H ∧ ecA G zo (eJ G 1 f9) H)) (ecEp (fun v H1 => v = some (.int (nI (thF M f))) ∧ EC G X (if thF M f = 0 then M else M) x H1 ∧ ∃ f1 : Nat → Int64, ecA G zo (eJ G 1 f1) H1 ∧ (thF M f = 0 → f1 0 = (bI (decide (rgt (smA M (M.1 3 (cN f))) (tpA M (cN f)) = 6))).toInt64)) (fun q : Nat => X q ∨ q = zo)) (ecXc (fun _ => False)) 8 150 (fun q : Nat => X q ∨ q = zo) := by
  refine ec_hmet (by decide) (Nat.le_of_ble_eq_true rfl) ?_
  intro p e s m below meth c hC hr hlocks htab hOk hpre ls hl
  have hK := hOk.1
  obtain ⟨hXs, hEC, hz⟩ := hpre
  have hS : va_S (fun q : Nat => X q ∨ q = zo) s.heap s.heap [] := va_S.rf
  have hAN : ∀ q, (fun q : Nat => X q ∨ q = zo) q → ecN0 G ≤ q := fun q h => h.elim (hXs.1 q) (fun h => by rw [h]; exact hN)
  have hlab : ∃ fs, ecA G x (eO 5 fs) s.heap := by obtain ⟨tg9, ad9, hx9, hw9⟩ := hEC; exact ⟨_, hx9 ▸ hw9.1.1⟩
  obtain ⟨fs9, hlab⟩ := hlab
  have hl : lv_has ls 4 [(0, .ref x), (1, .int f), (2, .ref zo)] := hl
  refine lv_aload_n hC.1 hC.2.1 dL_isChecked_0 rfl (lv_at hl 2 rfl) ?_
  refine lv_iconst (v := 0) hC.1 hC.2.1 dL_isChecked_1 (by decide) ?_
  refine lv_aload_n hC.1 hC.2.1 dL_isChecked_2 rfl (lv_at hl 0 rfl) ?_
  refine lv_iload_n hC.1 hC.2.1 dL_isChecked_3 rfl (lv_at hl 1 rfl) ?_
  refine ec_goXE1 (ec_xV hC (c_X5_isChecked l hls G X M x f) kL_86 (hOk.at hS hAN) ⟨hXs, hEC⟩ (ec_rc hK hlab ⟨_, _, rfl⟩) hl.1 ⟨Nat.le_of_ble_eq_true rfl, Nat.le_of_ble_eq_true rfl⟩ rfl (Nat.le_of_ble_eq_true rfl) dL_isChecked_4 ⟨Nat.le_of_ble_eq_true rfl, Nat.le_of_ble_eq_true rfl⟩) hS (fun _ h => Or.inl h) (fun E9 ce9 q9 H locs hx hk9 hS h1 h2 h3 => ?_) (fun H locs hp hzs hk1 hS => ?_)
  · simp only [List.mem_cons, Prod.mk.injEq, List.not_mem_nil, or_false] at hx
    rcases hx with ⟨rfl, hT⟩
    · have hpas : ∀ z ∈ ([] : List ExceptionTableEntry), z.catchType ≠ 0 ∧ ∃ nm : String, Cond.classLink RL z.catchType nm ∈ GW ∧ (eIX, nm) ∈ ecNc := (fun z hz => nomatch hz)
      refine ec_catch hC hK htab [] ⟨0, 16, 19, 19⟩ [] rfl hpas (by decide) (by decide) q308 (by decide) h1 h2 h3 ?_
      refine lv_astore_n (lv' := [(3, .ref q9), (0, .ref x), (1, .int f), (2, .ref zo)]) hC.1 hC.2.1 dL_isChecked_19 rfl hl (by decide) rfl (fun ls hl => ?_)
      refine lv_iconst (v := 1) hC.1 hC.2.1 dL_isChecked_20 (by decide) ?_
      refine vx_ret ?_
      exact W.iret hC.1 hC.2.1 hr (fun t9 ht9 _ => ⟨_, rfl, by rw [ht9]; exact ⟨by rw [hT]; rfl, by rw [if_neg (by rw [hT]; decide)]; exact hEC.kp hk9, f9, hz.kp hk9, fun z => absurd (hT.symm.trans z) (by decide)⟩, hS.F ht9⟩) hS.2.2 dL_isChecked_21
  · obtain ⟨hT, hEC⟩ := hp
    have hz := hz.kept (hk1 _ hz.lt hz9)
    refine lv_if_eq (tgt := 14) hC.1 hC.2.1 dL_isChecked_7 (by decide) (fun c_7 => ?_) (fun c_7 => ?_)
    · refine lv_lconst (v := 0) hC.1 hC.2.1 dL_isChecked_14 (by decide) ?_
      refine ec_last hC hK hS hz (Or.inr rfl) 0 rfl (by omega) (by omega) dL_isChecked_15 (fun H locs h9 o9 z9 hS => ?_)
      have hEC := hEC.ot (Y := fun q => q = zo) (fun q _ hn => o9 q hn) (fun q hq z => hz9 (z ▸ hq))
      refine lv_goto (tgt := 22) hC.1 hC.2.1 dL_isChecked_16 (by decide) ?_
      refine lv_iconst (v := 0) hC.1 hC.2.1 dL_isChecked_22 (by decide) ?_
      refine vx_ret ?_
      exact W.iret hC.1 hC.2.1 hr (fun t9 ht9 _ => ⟨_, rfl, by rw [ht9]; exact ⟨by rw [hT]; rfl, by rw [if_pos hT]; exact hEC, _, h9, fun _ => (tb_0 c_7)⟩, hS.F ht9⟩) hS.2.2 dL_isChecked_23
    · refine lv_lconst (v := 1) hC.1 hC.2.1 dL_isChecked_10 (by decide) ?_
      refine lv_goto (tgt := 15) hC.1 hC.2.1 dL_isChecked_11 (by decide) ?_
      refine ec_last hC hK hS hz (Or.inr rfl) 0 rfl (by omega) (by omega) dL_isChecked_15 (fun H locs h9 o9 z9 hS => ?_)
      have hEC := hEC.ot (Y := fun q => q = zo) (fun q _ hn => o9 q hn) (fun q hq z => hz9 (z ▸ hq))
      refine lv_goto (tgt := 22) hC.1 hC.2.1 dL_isChecked_16 (by decide) ?_
      refine lv_iconst (v := 0) hC.1 hC.2.1 dL_isChecked_22 (by decide) ?_
      refine vx_ret ?_
      exact W.iret hC.1 hC.2.1 hr (fun t9 ht9 _ => ⟨_, rfl, by rw [ht9]; exact ⟨by rw [hT]; rfl, by rw [if_pos hT]; exact hEC, _, h9, fun _ => (tb_b c_7)⟩, hS.F ht9⟩) hS.2.2 dL_isChecked_23

set_option maxHeartbeats 4000000 in
set_option maxRecDepth 100000 in
/-- the helper of setLimit -/
theorem c_L_setLimit (l : Launch) (hls : l.stackTraces = false) (G : ecG) (X : Nat → Prop) (M : ecM) (x zo : Nat) (f9 : Nat → Int64) (hz9 : ¬ X zo) (hN : ecN0 G ≤ zo) (a : Int32) : vx_Met l yL_setLimit (ecWh yL_setLimit cL_setLimit 4 (Option.some FieldType.int) [(0, 9, 12, 21)]) (ecRm 10 8 150) (ecPc [.ref x, .int a, .ref zo] G (fun H => ecXs G X H ∧ EC G X M x H ∧ ecA G zo (eJ G 1 f9) H)) (ecEp (fun v H1 => v = some (.int (nI (thLim a))) ∧ EC G X (if thLim a = 0 then setI M 9 1 a else M) x H1 ∧ ∃ f1 : Nat → Int64, ecA G zo (eJ G 1 f1) H1 ∧ (thLim a = 0 → f1 0 = (mlm M).toInt64)) (fun q : Nat => X q ∨ q = zo)) (ecXc (fun _ => False)) 8 150 (fun q : Nat => X q ∨ q = zo) := by
  refine ec_hmet (by decide) (Nat.le_of_ble_eq_true rfl) ?_
  intro p e s m below meth c hC hr hlocks htab hOk hpre ls hl
  have hK := hOk.1
  obtain ⟨hXs, hEC, hz⟩ := hpre
  have hS : va_S (fun q : Nat => X q ∨ q = zo) s.heap s.heap [] := va_S.rf
  have hAN : ∀ q, (fun q : Nat => X q ∨ q = zo) q → ecN0 G ≤ q := fun q h => h.elim (hXs.1 q) (fun h => by rw [h]; exact hN)
  have hlab : ∃ fs, ecA G x (eO 5 fs) s.heap := by obtain ⟨tg9, ad9, hx9, hw9⟩ := hEC; exact ⟨_, hx9 ▸ hw9.1.1⟩
  obtain ⟨fs9, hlab⟩ := hlab
  have hl : lv_has ls 4 [(0, .ref x), (1, .int a), (2, .ref zo)] := hl
  refine lv_aload_n hC.1 hC.2.1 dL_setLimit_0 rfl (lv_at hl 2 rfl) ?_
  refine lv_iconst (v := 0) hC.1 hC.2.1 dL_setLimit_1 (by decide) ?_
  refine lv_aload_n hC.1 hC.2.1 dL_setLimit_2 rfl (lv_at hl 0 rfl) ?_
  refine lv_iload_n hC.1 hC.2.1 dL_setLimit_3 rfl (lv_at hl 1 rfl) ?_
  refine ec_goXE1 (ec_xV hC (c_X5_setLimit l hls G X M x a) kL_89 (hOk.at hS hAN) ⟨hXs, hEC⟩ (ec_rc hK hlab ⟨_, _, rfl⟩) hl.1 ⟨Nat.le_of_ble_eq_true rfl, Nat.le_of_ble_eq_true rfl⟩ rfl (Nat.le_of_ble_eq_true rfl) dL_setLimit_4 ⟨Nat.le_of_ble_eq_true rfl, Nat.le_of_ble_eq_true rfl⟩) hS (fun _ h => Or.inl h) (fun E9 ce9 q9 H locs hx hk9 hS h1 h2 h3 => ?_) (fun H locs hp hzs hk1 hS => ?_)
  · simp only [List.mem_cons, Prod.mk.injEq, List.not_mem_nil, or_false] at hx
    rcases hx with ⟨rfl, hT⟩
    · have hpas : ∀ z ∈ ([] : List ExceptionTableEntry), z.catchType ≠ 0 ∧ ∃ nm : String, Cond.classLink RL z.catchType nm ∈ GW ∧ (eAG, nm) ∈ ecNc := (fun z hz => nomatch hz)
      refine ec_catch hC hK htab [] ⟨0, 9, 12, 21⟩ [] rfl hpas (by decide) (by decide) q309 (by decide) h1 h2 h3 ?_
      refine lv_astore_n (lv' := [(3, .ref q9), (0, .ref x), (1, .int a), (2, .ref zo)]) hC.1 hC.2.1 dL_setLimit_12 rfl hl (by decide) rfl (fun ls hl => ?_)
      refine lv_iconst (v := 1) hC.1 hC.2.1 dL_setLimit_13 (by decide) ?_
      refine vx_ret ?_
      exact W.iret hC.1 hC.2.1 hr (fun t9 ht9 _ => ⟨_, rfl, by rw [ht9]; exact ⟨by rw [hT]; rfl, by rw [if_neg (by rw [hT]; decide)]; exact hEC.kp hk9, f9, hz.kp hk9, fun z => absurd (hT.symm.trans z) (by decide)⟩, hS.F ht9⟩) hS.2.2 dL_setLimit_14
  · obtain ⟨hT, hEC⟩ := hp
    have hz := hz.kept (hk1 _ hz.lt hz9)
    refine lv_i2l hC.1 hC.2.1 dL_setLimit_7 rfl ?_
    refine ec_last hC hK hS hz (Or.inr rfl) 0 rfl (by omega) (by omega) dL_setLimit_8 (fun H locs h9 o9 z9 hS => ?_)
    have hEC := hEC.ot (Y := fun q => q = zo) (fun q _ hn => o9 q hn) (fun q hq z => hz9 (z ▸ hq))
    refine lv_goto (tgt := 15) hC.1 hC.2.1 dL_setLimit_9 (by decide) ?_
    refine lv_iconst (v := 0) hC.1 hC.2.1 dL_setLimit_15 (by decide) ?_
    refine vx_ret ?_
    exact W.iret hC.1 hC.2.1 hr (fun t9 ht9 _ => ⟨_, rfl, by rw [ht9]; exact ⟨by rw [hT]; rfl, by rw [if_pos hT]; exact hEC, _, h9, fun _ => rfl⟩, hS.F ht9⟩) hS.2.2 dL_setLimit_16

set_option maxHeartbeats 4000000 in
set_option maxRecDepth 100000 in
/-- the helper of book -/
theorem c_L_book (l : Launch) (hls : l.stackTraces = false) (G : ecG) (X : Nat → Prop) (M : ecM) (x zo : Nat) (f9 : Nat → Int64) (hz9 : ¬ X zo) (hN : ecN0 G ≤ zo) (r c0 s0 : Int32) (o : Bool) (f2 l2 : Int32) : vx_Met l yL_book (ecWh yL_book cL_book 9 (Option.some FieldType.int) [(0, 18, 21, 19), (0, 18, 25, 21), (0, 18, 29, 74), (0, 18, 33, 13)]) (ecRm 10 8 150) (ecPc [.ref x, .int r, .int c0, .int s0, .int (bI o), .int f2, .int l2, .ref zo] G (fun H => ecXs G X H ∧ EC G X M x H ∧ ecA G zo (eJ G 1 f9) H)) (ecEp (fun v H1 => v = some (.int (nI (thBok M r c0 s0 o f2 l2))) ∧ EC G X (if thBok M r c0 s0 o f2 l2 = 0 then bokM M (cN r) (cdN c0 s0 o) f2 l2 else M) x H1 ∧ ∃ f1 : Nat → Int64, ecA G zo (eJ G 1 f1) H1 ∧ (thBok M r c0 s0 o f2 l2 = 0 → f1 0 = (nI (mnB M)).toInt64)) (fun q : Nat => X q ∨ q = zo)) (ecXc (fun _ => False)) 8 150 (fun q : Nat => X q ∨ q = zo) := by
  refine ec_hmet (by decide) (Nat.le_of_ble_eq_true rfl) ?_
  intro p e s m below meth c hC hr hlocks htab hOk hpre ls hl
  have hK := hOk.1
  obtain ⟨hXs, hEC, hz⟩ := hpre
  have hS : va_S (fun q : Nat => X q ∨ q = zo) s.heap s.heap [] := va_S.rf
  have hAN : ∀ q, (fun q : Nat => X q ∨ q = zo) q → ecN0 G ≤ q := fun q h => h.elim (hXs.1 q) (fun h => by rw [h]; exact hN)
  have hlab : ∃ fs, ecA G x (eO 5 fs) s.heap := by obtain ⟨tg9, ad9, hx9, hw9⟩ := hEC; exact ⟨_, hx9 ▸ hw9.1.1⟩
  obtain ⟨fs9, hlab⟩ := hlab
  have hl : lv_has ls 9 [(0, .ref x), (1, .int r), (2, .int c0), (3, .int s0), (4, .int (bI o)), (5, .int f2), (6, .int l2), (7, .ref zo)] := hl
  refine lv_aload hC.1 hC.2.1 dL_book_0 (lv_at hl 7 rfl) ?_
  refine lv_iconst (v := 0) hC.1 hC.2.1 dL_book_2 (by decide) ?_
  refine lv_aload_n hC.1 hC.2.1 dL_book_3 rfl (lv_at hl 0 rfl) ?_
  refine lv_iload_n hC.1 hC.2.1 dL_book_4 rfl (lv_at hl 1 rfl) ?_
  refine lv_iload_n hC.1 hC.2.1 dL_book_5 rfl (lv_at hl 2 rfl) ?_
  refine lv_iload_n hC.1 hC.2.1 dL_book_6 rfl (lv_at hl 3 rfl) ?_
  refine lv_iload hC.1 hC.2.1 dL_book_7 (lv_at hl 4 rfl) ?_
  refine lv_iload hC.1 hC.2.1 dL_book_9 (lv_at hl 5 rfl) ?_
  refine lv_iload hC.1 hC.2.1 dL_book_11 (lv_at hl 6 rfl) ?_
  refine ec_goXE1 (ec_xV hC (c_X5_book l hls G X M x r c0 s0 o f2 l2) kL_92 (hOk.at hS hAN) ⟨hXs, hEC⟩ (ec_rc hK hlab ⟨_, _, rfl⟩) hl.1 ⟨Nat.le_of_ble_eq_true rfl, Nat.le_of_ble_eq_true rfl⟩ rfl (Nat.le_of_ble_eq_true rfl) dL_book_13 ⟨Nat.le_of_ble_eq_true rfl, Nat.le_of_ble_eq_true rfl⟩) hS (fun _ h => Or.inl h) (fun E9 ce9 q9 H locs hx hk9 hS h1 h2 h3 => ?_) (fun H locs hp hzs hk1 hS => ?_)
  · simp only [List.mem_cons, Prod.mk.injEq, List.not_mem_nil, or_false] at hx
    rcases hx with ⟨rfl, hT⟩ | ⟨rfl, hT⟩ | ⟨rfl, hT⟩ | ⟨rfl, hT⟩
    · have hpas : ∀ z ∈ ([] : List ExceptionTableEntry), z.catchType ≠ 0 ∧ ∃ nm : String, Cond.classLink RL z.catchType nm ∈ GW ∧ (eIX, nm) ∈ ecNc := (fun z hz => nomatch hz)
      refine ec_catch hC hK htab [] ⟨0, 18, 21, 19⟩ [⟨0, 18, 25, 21⟩, ⟨0, 18, 29, 74⟩, ⟨0, 18, 33, 13⟩] rfl hpas (by decide) (by decide) q308 (by decide) h1 h2 h3 ?_
      refine lv_astore (lv' := [(8, .ref q9), (0, .ref x), (1, .int r), (2, .int c0), (3, .int s0), (4, .int (bI o)), (5, .int f2), (6, .int l2), (7, .ref zo)]) hC.1 hC.2.1 dL_book_21 hl (by decide) rfl (fun ls hl => ?_)
      refine lv_iconst (v := 1) hC.1 hC.2.1 dL_book_23 (by decide) ?_
      refine vx_ret ?_
      exact W.iret hC.1 hC.2.1 hr (fun t9 ht9 _ => ⟨_, rfl, by rw [ht9]; exact ⟨by rw [hT]; rfl, by rw [if_neg (by rw [hT]; decide)]; exact hEC.kp hk9, f9, hz.kp hk9, fun z => absurd (hT.symm.trans z) (by decide)⟩, hS.F ht9⟩) hS.2.2 dL_book_24
    · have hpas : ∀ z ∈ ([⟨0, 18, 21, 19⟩] : List ExceptionTableEntry), z.catchType ≠ 0 ∧ ∃ nm : String, Cond.classLink RL z.catchType nm ∈ GW ∧ (eAG, nm) ∈ ecNc := (fun z hz => by
          simp only [List.mem_cons, List.not_mem_nil, or_false] at hz
          rcases hz with rfl
          · exact ⟨by decide, _, q308, by decide⟩)
      refine ec_catch hC hK htab [⟨0, 18, 21, 19⟩] ⟨0, 18, 25, 21⟩ [⟨0, 18, 29, 74⟩, ⟨0, 18, 33, 13⟩] rfl hpas (by decide) (by decide) q309 (by decide) h1 h2 h3 ?_
      refine lv_astore (lv' := [(8, .ref q9), (0, .ref x), (1, .int r), (2, .int c0), (3, .int s0), (4, .int (bI o)), (5, .int f2), (6, .int l2), (7, .ref zo)]) hC.1 hC.2.1 dL_book_25 hl (by decide) rfl (fun ls hl => ?_)
      refine lv_iconst (v := 2) hC.1 hC.2.1 dL_book_27 (by decide) ?_
      refine vx_ret ?_
      exact W.iret hC.1 hC.2.1 hr (fun t9 ht9 _ => ⟨_, rfl, by rw [ht9]; exact ⟨by rw [hT]; rfl, by rw [if_neg (by rw [hT]; decide)]; exact hEC.kp hk9, f9, hz.kp hk9, fun z => absurd (hT.symm.trans z) (by decide)⟩, hS.F ht9⟩) hS.2.2 dL_book_28
    · have hpas : ∀ z ∈ ([⟨0, 18, 21, 19⟩, ⟨0, 18, 25, 21⟩] : List ExceptionTableEntry), z.catchType ≠ 0 ∧ ∃ nm : String, Cond.classLink RL z.catchType nm ∈ GW ∧ (eUO, nm) ∈ ecNc := (fun z hz => by
          simp only [List.mem_cons, List.not_mem_nil, or_false] at hz
          rcases hz with rfl | rfl
          · exact ⟨by decide, _, q308, by decide⟩
          · exact ⟨by decide, _, q309, by decide⟩)
      refine ec_catch hC hK htab [⟨0, 18, 21, 19⟩, ⟨0, 18, 25, 21⟩] ⟨0, 18, 29, 74⟩ [⟨0, 18, 33, 13⟩] rfl hpas (by decide) (by decide) q554 (by decide) h1 h2 h3 ?_
      refine lv_astore (lv' := [(8, .ref q9), (0, .ref x), (1, .int r), (2, .int c0), (3, .int s0), (4, .int (bI o)), (5, .int f2), (6, .int l2), (7, .ref zo)]) hC.1 hC.2.1 dL_book_29 hl (by decide) rfl (fun ls hl => ?_)
      refine lv_iconst (v := 3) hC.1 hC.2.1 dL_book_31 (by decide) ?_
      refine vx_ret ?_
      exact W.iret hC.1 hC.2.1 hr (fun t9 ht9 _ => ⟨_, rfl, by rw [ht9]; exact ⟨by rw [hT]; rfl, by rw [if_neg (by rw [hT]; decide)]; exact hEC.kp hk9, f9, hz.kp hk9, fun z => absurd (hT.symm.trans z) (by decide)⟩, hS.F ht9⟩) hS.2.2 dL_book_32
    · have hpas : ∀ z ∈ ([⟨0, 18, 21, 19⟩, ⟨0, 18, 25, 21⟩, ⟨0, 18, 29, 74⟩] : List ExceptionTableEntry), z.catchType ≠ 0 ∧ ∃ nm : String, Cond.classLink RL z.catchType nm ∈ GW ∧ (eIS, nm) ∈ ecNc := (fun z hz => by
          simp only [List.mem_cons, List.not_mem_nil, or_false] at hz
          rcases hz with rfl | rfl | rfl
          · exact ⟨by decide, _, q308, by decide⟩
          · exact ⟨by decide, _, q309, by decide⟩
          · exact ⟨by decide, _, q554, by decide⟩)
      refine ec_catch hC hK htab [⟨0, 18, 21, 19⟩, ⟨0, 18, 25, 21⟩, ⟨0, 18, 29, 74⟩] ⟨0, 18, 33, 13⟩ [] rfl hpas (by decide) (by decide) q134 (by decide) h1 h2 h3 ?_
      refine lv_astore (lv' := [(8, .ref q9), (0, .ref x), (1, .int r), (2, .int c0), (3, .int s0), (4, .int (bI o)), (5, .int f2), (6, .int l2), (7, .ref zo)]) hC.1 hC.2.1 dL_book_33 hl (by decide) rfl (fun ls hl => ?_)
      refine lv_iconst (v := 4) hC.1 hC.2.1 dL_book_35 (by decide) ?_
      refine vx_ret ?_
      exact W.iret hC.1 hC.2.1 hr (fun t9 ht9 _ => ⟨_, rfl, by rw [ht9]; exact ⟨by rw [hT]; rfl, by rw [if_neg (by rw [hT]; decide)]; exact hEC.kp hk9, f9, hz.kp hk9, fun z => absurd (hT.symm.trans z) (by decide)⟩, hS.F ht9⟩) hS.2.2 dL_book_36
  · obtain ⟨hT, hEC⟩ := hp
    have hz := hz.kept (hk1 _ hz.lt hz9)
    refine lv_i2l hC.1 hC.2.1 dL_book_16 rfl ?_
    refine ec_last hC hK hS hz (Or.inr rfl) 0 rfl (by omega) (by omega) dL_book_17 (fun H locs h9 o9 z9 hS => ?_)
    have hEC := hEC.ot (Y := fun q => q = zo) (fun q _ hn => o9 q hn) (fun q hq z => hz9 (z ▸ hq))
    refine lv_goto (tgt := 37) hC.1 hC.2.1 dL_book_18 (by decide) ?_
    refine lv_iconst (v := 0) hC.1 hC.2.1 dL_book_37 (by decide) ?_
    refine vx_ret ?_
    exact W.iret hC.1 hC.2.1 hr (fun t9 ht9 _ => ⟨_, rfl, by rw [ht9]; exact ⟨by rw [hT]; rfl, by rw [if_pos hT]; exact hEC, _, h9, fun _ => rfl⟩, hS.F ht9⟩) hS.2.2 dL_book_38

set_option maxHeartbeats 4000000 in
set_option maxRecDepth 100000 in
/-- the helper of clash -/
theorem c_L_clash (l : Launch) (hls : l.stackTraces = false) (G : ecG) (X : Nat → Prop) (M : ecM) (x zo : Nat) (f9 : Nat → Int64) (hz9 : ¬ X zo) (hN : ecN0 G ≤ zo) (r c0 s0 : Int32) (o : Bool) (f2 l2 : Int32) : vx_Met l yL_clash (ecWh yL_clash cL_clash 9 (Option.some FieldType.int) [(0, 18, 21, 19), (0, 18, 25, 21), (0, 18, 29, 45)]) (ecRm 10 8 150) (ecPc [.ref x, .int r, .int c0, .int s0, .int (bI o), .int f2, .int l2, .ref zo] G (fun H => ecXs G X H ∧ EC G X M x H ∧ ecA G zo (eJ G 1 f9) H)) (ecEp (fun v H1 => v = some (.int (nI (thCla M r c0 s0 o f2 l2))) ∧ EC G X (if thCla M r c0 s0 o f2 l2 = 0 then M else M) x H1 ∧ ∃ f1 : Nat → Int64, ecA G zo (eJ G 1 f1) H1 ∧ (thCla M r c0 s0 o f2 l2 = 0 → f1 0 = (nI ((clM M (cN r) (cdN c0 s0 o) f2 l2).getD 0)).toInt64)) (fun q : Nat => X q ∨ q = zo)) (ecXc (fun _ => False)) 8 150 (fun q : Nat => X q ∨ q = zo) := by
  refine ec_hmet (by decide) (Nat.le_of_ble_eq_true rfl) ?_
  intro p e s m below meth c hC hr hlocks htab hOk hpre ls hl
  have hK := hOk.1
  obtain ⟨hXs, hEC, hz⟩ := hpre
  have hS : va_S (fun q : Nat => X q ∨ q = zo) s.heap s.heap [] := va_S.rf
  have hAN : ∀ q, (fun q : Nat => X q ∨ q = zo) q → ecN0 G ≤ q := fun q h => h.elim (hXs.1 q) (fun h => by rw [h]; exact hN)
  have hlab : ∃ fs, ecA G x (eO 5 fs) s.heap := by obtain ⟨tg9, ad9, hx9, hw9⟩ := hEC; exact ⟨_, hx9 ▸ hw9.1.1⟩
  obtain ⟨fs9, hlab⟩ := hlab
  have hl : lv_has ls 9 [(0, .ref x), (1, .int r), (2, .int c0), (3, .int s0), (4, .int (bI o)), (5, .int f2), (6, .int l2), (7, .ref zo)] := hl
  refine lv_aload hC.1 hC.2.1 dL_clash_0 (lv_at hl 7 rfl) ?_
  refine lv_iconst (v := 0) hC.1 hC.2.1 dL_clash_2 (by decide) ?_
  refine lv_aload_n hC.1 hC.2.1 dL_clash_3 rfl (lv_at hl 0 rfl) ?_
  refine lv_iload_n hC.1 hC.2.1 dL_clash_4 rfl (lv_at hl 1 rfl) ?_
  refine lv_iload_n hC.1 hC.2.1 dL_clash_5 rfl (lv_at hl 2 rfl) ?_
  refine lv_iload_n hC.1 hC.2.1 dL_clash_6 rfl (lv_at hl 3 rfl) ?_
  refine lv_iload hC.1 hC.2.1 dL_clash_7 (lv_at hl 4 rfl) ?_
  refine lv_iload hC.1 hC.2.1 dL_clash_9 (lv_at hl 5 rfl) ?_
  refine lv_iload hC.1 hC.2.1 dL_clash_11 (lv_at hl 6 rfl) ?_
  refine ec_goXE1 (ec_xV hC (c_X5_clash l hls G X M x r c0 s0 o f2 l2) kL_96 (hOk.at hS hAN) ⟨hXs, hEC⟩ (ec_rc hK hlab ⟨_, _, rfl⟩) hl.1 ⟨Nat.le_of_ble_eq_true rfl, Nat.le_of_ble_eq_true rfl⟩ rfl (Nat.le_of_ble_eq_true rfl) dL_clash_13 ⟨Nat.le_of_ble_eq_true rfl, Nat.le_of_ble_eq_true rfl⟩) hS (fun _ h => Or.inl h) (fun E9 ce9 q9 H locs hx hk9 hS h1 h2 h3 => ?_) (fun H locs hp hzs hk1 hS => ?_)
  · simp only [List.mem_cons, Prod.mk.injEq, List.not_mem_nil, or_false] at hx
    rcases hx with ⟨rfl, hT⟩ | ⟨rfl, hT⟩ | ⟨rfl, hT⟩
    · have hpas : ∀ z ∈ ([] : List ExceptionTableEntry), z.catchType ≠ 0 ∧ ∃ nm : String, Cond.classLink RL z.catchType nm ∈ GW ∧ (eIX, nm) ∈ ecNc := (fun z hz => nomatch hz)
      refine ec_catch hC hK htab [] ⟨0, 18, 21, 19⟩ [⟨0, 18, 25, 21⟩, ⟨0, 18, 29, 45⟩] rfl hpas (by decide) (by decide) q308 (by decide) h1 h2 h3 ?_
      refine lv_astore (lv' := [(8, .ref q9), (0, .ref x), (1, .int r), (2, .int c0), (3, .int s0), (4, .int (bI o)), (5, .int f2), (6, .int l2), (7, .ref zo)]) hC.1 hC.2.1 dL_clash_21 hl (by decide) rfl (fun ls hl => ?_)
      refine lv_iconst (v := 1) hC.1 hC.2.1 dL_clash_23 (by decide) ?_
      refine vx_ret ?_
      exact W.iret hC.1 hC.2.1 hr (fun t9 ht9 _ => ⟨_, rfl, by rw [ht9]; exact ⟨by rw [hT]; rfl, by rw [if_neg (by rw [hT]; decide)]; exact hEC.kp hk9, f9, hz.kp hk9, fun z => absurd (hT.symm.trans z) (by decide)⟩, hS.F ht9⟩) hS.2.2 dL_clash_24
    · have hpas : ∀ z ∈ ([⟨0, 18, 21, 19⟩] : List ExceptionTableEntry), z.catchType ≠ 0 ∧ ∃ nm : String, Cond.classLink RL z.catchType nm ∈ GW ∧ (eAG, nm) ∈ ecNc := (fun z hz => by
          simp only [List.mem_cons, List.not_mem_nil, or_false] at hz
          rcases hz with rfl
          · exact ⟨by decide, _, q308, by decide⟩)
      refine ec_catch hC hK htab [⟨0, 18, 21, 19⟩] ⟨0, 18, 25, 21⟩ [⟨0, 18, 29, 45⟩] rfl hpas (by decide) (by decide) q309 (by decide) h1 h2 h3 ?_
      refine lv_astore (lv' := [(8, .ref q9), (0, .ref x), (1, .int r), (2, .int c0), (3, .int s0), (4, .int (bI o)), (5, .int f2), (6, .int l2), (7, .ref zo)]) hC.1 hC.2.1 dL_clash_25 hl (by decide) rfl (fun ls hl => ?_)
      refine lv_iconst (v := 2) hC.1 hC.2.1 dL_clash_27 (by decide) ?_
      refine vx_ret ?_
      exact W.iret hC.1 hC.2.1 hr (fun t9 ht9 _ => ⟨_, rfl, by rw [ht9]; exact ⟨by rw [hT]; rfl, by rw [if_neg (by rw [hT]; decide)]; exact hEC.kp hk9, f9, hz.kp hk9, fun z => absurd (hT.symm.trans z) (by decide)⟩, hS.F ht9⟩) hS.2.2 dL_clash_28
    · have hpas : ∀ z ∈ ([⟨0, 18, 21, 19⟩, ⟨0, 18, 25, 21⟩] : List ExceptionTableEntry), z.catchType ≠ 0 ∧ ∃ nm : String, Cond.classLink RL z.catchType nm ∈ GW ∧ (eNS, nm) ∈ ecNc := (fun z hz => by
          simp only [List.mem_cons, List.not_mem_nil, or_false] at hz
          rcases hz with rfl | rfl
          · exact ⟨by decide, _, q308, by decide⟩
          · exact ⟨by decide, _, q309, by decide⟩)
      refine ec_catch hC hK htab [⟨0, 18, 21, 19⟩, ⟨0, 18, 25, 21⟩] ⟨0, 18, 29, 45⟩ [] rfl hpas (by decide) (by decide) q440 (by decide) h1 h2 h3 ?_
      refine lv_astore (lv' := [(8, .ref q9), (0, .ref x), (1, .int r), (2, .int c0), (3, .int s0), (4, .int (bI o)), (5, .int f2), (6, .int l2), (7, .ref zo)]) hC.1 hC.2.1 dL_clash_29 hl (by decide) rfl (fun ls hl => ?_)
      refine lv_iconst (v := 3) hC.1 hC.2.1 dL_clash_31 (by decide) ?_
      refine vx_ret ?_
      exact W.iret hC.1 hC.2.1 hr (fun t9 ht9 _ => ⟨_, rfl, by rw [ht9]; exact ⟨by rw [hT]; rfl, by rw [if_neg (by rw [hT]; decide)]; exact hEC.kp hk9, f9, hz.kp hk9, fun z => absurd (hT.symm.trans z) (by decide)⟩, hS.F ht9⟩) hS.2.2 dL_clash_32
  · obtain ⟨hT, hEC⟩ := hp
    have hz := hz.kept (hk1 _ hz.lt hz9)
    refine lv_i2l hC.1 hC.2.1 dL_clash_16 rfl ?_
    refine ec_last hC hK hS hz (Or.inr rfl) 0 rfl (by omega) (by omega) dL_clash_17 (fun H locs h9 o9 z9 hS => ?_)
    have hEC := hEC.ot (Y := fun q => q = zo) (fun q _ hn => o9 q hn) (fun q hq z => hz9 (z ▸ hq))
    refine lv_goto (tgt := 33) hC.1 hC.2.1 dL_clash_18 (by decide) ?_
    refine lv_iconst (v := 0) hC.1 hC.2.1 dL_clash_33 (by decide) ?_
    refine vx_ret ?_
    exact W.iret hC.1 hC.2.1 hr (fun t9 ht9 _ => ⟨_, rfl, by rw [ht9]; exact ⟨by rw [hT]; rfl, by rw [if_pos hT]; exact hEC, _, h9, fun _ => rfl⟩, hS.F ht9⟩) hS.2.2 dL_clash_34

set_option maxHeartbeats 4000000 in
set_option maxRecDepth 100000 in
/-- the helper of cancel -/
theorem c_L_cancel (l : Launch) (hls : l.stackTraces = false) (G : ecG) (X : Nat → Prop) (M : ecM) (x zo : Nat) (f9 : Nat → Int64) (hz9 : ¬ X zo) (hN : ecN0 G ≤ zo) (b : Int32) : vx_Met l yL_cancel (ecWh yL_cancel cL_cancel 4 (Option.some FieldType.int) [(0, 9, 12, 19), (0, 9, 15, 13)]) (ecRm 10 8 150) (ecPc [.ref x, .int b, .ref zo] G (fun H => ecXs G X H ∧ EC G X M x H ∧ ecA G zo (eJ G 1 f9) H)) (ecEp (fun v H1 => v = some (.int (nI (thCan M b))) ∧ EC G X (if thCan M b = 0 then setN M 6 (cN b) 1 else M) x H1 ∧ ∃ f1 : Nat → Int64, ecA G zo (eJ G 1 f1) H1 ∧ (thCan M b = 0 → f1 0 = (nI (cntN (setN M 6 (cN b) 1) (mnB M))).toInt64)) (fun q : Nat => X q ∨ q = zo)) (ecXc (fun _ => False)) 8 150 (fun q : Nat => X q ∨ q = zo) := by
  refine ec_hmet (by decide) (Nat.le_of_ble_eq_true rfl) ?_
  intro p e s m below meth c hC hr hlocks htab hOk hpre ls hl
  have hK := hOk.1
  obtain ⟨hXs, hEC, hz⟩ := hpre
  have hS : va_S (fun q : Nat => X q ∨ q = zo) s.heap s.heap [] := va_S.rf
  have hAN : ∀ q, (fun q : Nat => X q ∨ q = zo) q → ecN0 G ≤ q := fun q h => h.elim (hXs.1 q) (fun h => by rw [h]; exact hN)
  have hlab : ∃ fs, ecA G x (eO 5 fs) s.heap := by obtain ⟨tg9, ad9, hx9, hw9⟩ := hEC; exact ⟨_, hx9 ▸ hw9.1.1⟩
  obtain ⟨fs9, hlab⟩ := hlab
  have hl : lv_has ls 4 [(0, .ref x), (1, .int b), (2, .ref zo)] := hl
  refine lv_aload_n hC.1 hC.2.1 dL_cancel_0 rfl (lv_at hl 2 rfl) ?_
  refine lv_iconst (v := 0) hC.1 hC.2.1 dL_cancel_1 (by decide) ?_
  refine lv_aload_n hC.1 hC.2.1 dL_cancel_2 rfl (lv_at hl 0 rfl) ?_
  refine lv_iload_n hC.1 hC.2.1 dL_cancel_3 rfl (lv_at hl 1 rfl) ?_
  refine ec_goXE1 (ec_xV hC (c_X5_cancel l hls G X M x b) kL_99 (hOk.at hS hAN) ⟨hXs, hEC⟩ (ec_rc hK hlab ⟨_, _, rfl⟩) hl.1 ⟨Nat.le_of_ble_eq_true rfl, Nat.le_of_ble_eq_true rfl⟩ rfl (Nat.le_of_ble_eq_true rfl) dL_cancel_4 ⟨Nat.le_of_ble_eq_true rfl, Nat.le_of_ble_eq_true rfl⟩) hS (fun _ h => Or.inl h) (fun E9 ce9 q9 H locs hx hk9 hS h1 h2 h3 => ?_) (fun H locs hp hzs hk1 hS => ?_)
  · simp only [List.mem_cons, Prod.mk.injEq, List.not_mem_nil, or_false] at hx
    rcases hx with ⟨rfl, hT⟩ | ⟨rfl, hT⟩
    · have hpas : ∀ z ∈ ([] : List ExceptionTableEntry), z.catchType ≠ 0 ∧ ∃ nm : String, Cond.classLink RL z.catchType nm ∈ GW ∧ (eIX, nm) ∈ ecNc := (fun z hz => nomatch hz)
      refine ec_catch hC hK htab [] ⟨0, 9, 12, 19⟩ [⟨0, 9, 15, 13⟩] rfl hpas (by decide) (by decide) q308 (by decide) h1 h2 h3 ?_
      refine lv_astore_n (lv' := [(3, .ref q9), (0, .ref x), (1, .int b), (2, .ref zo)]) hC.1 hC.2.1 dL_cancel_12 rfl hl (by decide) rfl (fun ls hl => ?_)
      refine lv_iconst (v := 1) hC.1 hC.2.1 dL_cancel_13 (by decide) ?_
      refine vx_ret ?_
      exact W.iret hC.1 hC.2.1 hr (fun t9 ht9 _ => ⟨_, rfl, by rw [ht9]; exact ⟨by rw [hT]; rfl, by rw [if_neg (by rw [hT]; decide)]; exact hEC.kp hk9, f9, hz.kp hk9, fun z => absurd (hT.symm.trans z) (by decide)⟩, hS.F ht9⟩) hS.2.2 dL_cancel_14
    · have hpas : ∀ z ∈ ([⟨0, 9, 12, 19⟩] : List ExceptionTableEntry), z.catchType ≠ 0 ∧ ∃ nm : String, Cond.classLink RL z.catchType nm ∈ GW ∧ (eIS, nm) ∈ ecNc := (fun z hz => by
          simp only [List.mem_cons, List.not_mem_nil, or_false] at hz
          rcases hz with rfl
          · exact ⟨by decide, _, q308, by decide⟩)
      refine ec_catch hC hK htab [⟨0, 9, 12, 19⟩] ⟨0, 9, 15, 13⟩ [] rfl hpas (by decide) (by decide) q134 (by decide) h1 h2 h3 ?_
      refine lv_astore_n (lv' := [(3, .ref q9), (0, .ref x), (1, .int b), (2, .ref zo)]) hC.1 hC.2.1 dL_cancel_15 rfl hl (by decide) rfl (fun ls hl => ?_)
      refine lv_iconst (v := 2) hC.1 hC.2.1 dL_cancel_16 (by decide) ?_
      refine vx_ret ?_
      exact W.iret hC.1 hC.2.1 hr (fun t9 ht9 _ => ⟨_, rfl, by rw [ht9]; exact ⟨by rw [hT]; rfl, by rw [if_neg (by rw [hT]; decide)]; exact hEC.kp hk9, f9, hz.kp hk9, fun z => absurd (hT.symm.trans z) (by decide)⟩, hS.F ht9⟩) hS.2.2 dL_cancel_17
  · obtain ⟨hT, hEC⟩ := hp
    have hz := hz.kept (hk1 _ hz.lt hz9)
    refine lv_i2l hC.1 hC.2.1 dL_cancel_7 rfl ?_
    refine ec_last hC hK hS hz (Or.inr rfl) 0 rfl (by omega) (by omega) dL_cancel_8 (fun H locs h9 o9 z9 hS => ?_)
    have hEC := hEC.ot (Y := fun q => q = zo) (fun q _ hn => o9 q hn) (fun q hq z => hz9 (z ▸ hq))
    refine lv_goto (tgt := 18) hC.1 hC.2.1 dL_cancel_9 (by decide) ?_
    refine lv_iconst (v := 0) hC.1 hC.2.1 dL_cancel_18 (by decide) ?_
    refine vx_ret ?_
    exact W.iret hC.1 hC.2.1 hr (fun t9 ht9 _ => ⟨_, rfl, by rw [ht9]; exact ⟨by rw [hT]; rfl, by rw [if_pos hT]; exact hEC, _, h9, fun _ => rfl⟩, hS.F ht9⟩) hS.2.2 dL_cancel_19

set_option maxHeartbeats 4000000 in
set_option maxRecDepth 100000 in
/-- the helper of pass -/
theorem c_L_pass (l : Launch) (hls : l.stackTraces = false) (G : ecG) (X : Nat → Prop) (M : ecM) (x zo : Nat) (f9 : Nat → Int64) (hz9 : ¬ X zo) (hN : ecN0 G ≤ zo) (h : Int32) : vx_Met l yL_pass (ecWh yL_pass cL_pass 4 (Option.some FieldType.int) [(0, 9, 12, 21)]) (ecRm 10 8 150) (ecPc [.ref x, .int h, .ref zo] G (fun H => ecXs G X H ∧ EC G X M x H ∧ ecA G zo (eJ G 1 f9) H)) (ecEp (fun v H1 => v = some (.int (nI (thPas M h))) ∧ EC G X (if thPas M h = 0 then pasM M (cN h) else M) x H1 ∧ ∃ f1 : Nat → Int64, ecA G zo (eJ G 1 f1) H1 ∧ (thPas M h = 0 → f1 0 = (nI (pasC M (cN h))).toInt64)) (fun q : Nat => X q ∨ q = zo)) (ecXc (fun _ => False)) 8 150 (fun q : Nat => X q ∨ q = zo) := by
  refine ec_hmet (by decide) (Nat.le_of_ble_eq_true rfl) ?_
  intro p e s m below meth c hC hr hlocks htab hOk hpre ls hl
  have hK := hOk.1
  obtain ⟨hXs, hEC, hz⟩ := hpre
  have hS : va_S (fun q : Nat => X q ∨ q = zo) s.heap s.heap [] := va_S.rf
  have hAN : ∀ q, (fun q : Nat => X q ∨ q = zo) q → ecN0 G ≤ q := fun q h => h.elim (hXs.1 q) (fun h => by rw [h]; exact hN)
  have hlab : ∃ fs, ecA G x (eO 5 fs) s.heap := by obtain ⟨tg9, ad9, hx9, hw9⟩ := hEC; exact ⟨_, hx9 ▸ hw9.1.1⟩
  obtain ⟨fs9, hlab⟩ := hlab
  have hl : lv_has ls 4 [(0, .ref x), (1, .int h), (2, .ref zo)] := hl
  refine lv_aload_n hC.1 hC.2.1 dL_pass_0 rfl (lv_at hl 2 rfl) ?_
  refine lv_iconst (v := 0) hC.1 hC.2.1 dL_pass_1 (by decide) ?_
  refine lv_aload_n hC.1 hC.2.1 dL_pass_2 rfl (lv_at hl 0 rfl) ?_
  refine lv_iload_n hC.1 hC.2.1 dL_pass_3 rfl (lv_at hl 1 rfl) ?_
  refine ec_goXE1 (ec_xV hC (c_X5_pass l hls G X M x h) kL_102 (hOk.at hS hAN) ⟨hXs, hEC⟩ (ec_rc hK hlab ⟨_, _, rfl⟩) hl.1 ⟨Nat.le_of_ble_eq_true rfl, Nat.le_of_ble_eq_true rfl⟩ rfl (Nat.le_of_ble_eq_true rfl) dL_pass_4 ⟨Nat.le_of_ble_eq_true rfl, Nat.le_of_ble_eq_true rfl⟩) hS (fun _ h => Or.inl h) (fun E9 ce9 q9 H locs hx hk9 hS h1 h2 h3 => ?_) (fun H locs hp hzs hk1 hS => ?_)
  · simp only [List.mem_cons, Prod.mk.injEq, List.not_mem_nil, or_false] at hx
    rcases hx with ⟨rfl, hT⟩
    · have hpas : ∀ z ∈ ([] : List ExceptionTableEntry), z.catchType ≠ 0 ∧ ∃ nm : String, Cond.classLink RL z.catchType nm ∈ GW ∧ (eAG, nm) ∈ ecNc := (fun z hz => nomatch hz)
      refine ec_catch hC hK htab [] ⟨0, 9, 12, 21⟩ [] rfl hpas (by decide) (by decide) q309 (by decide) h1 h2 h3 ?_
      refine lv_astore_n (lv' := [(3, .ref q9), (0, .ref x), (1, .int h), (2, .ref zo)]) hC.1 hC.2.1 dL_pass_12 rfl hl (by decide) rfl (fun ls hl => ?_)
      refine lv_iconst (v := 1) hC.1 hC.2.1 dL_pass_13 (by decide) ?_
      refine vx_ret ?_
      exact W.iret hC.1 hC.2.1 hr (fun t9 ht9 _ => ⟨_, rfl, by rw [ht9]; exact ⟨by rw [hT]; rfl, by rw [if_neg (by rw [hT]; decide)]; exact hEC.kp hk9, f9, hz.kp hk9, fun z => absurd (hT.symm.trans z) (by decide)⟩, hS.F ht9⟩) hS.2.2 dL_pass_14
  · obtain ⟨hT, hEC⟩ := hp
    have hz := hz.kept (hk1 _ hz.lt hz9)
    refine lv_i2l hC.1 hC.2.1 dL_pass_7 rfl ?_
    refine ec_last hC hK hS hz (Or.inr rfl) 0 rfl (by omega) (by omega) dL_pass_8 (fun H locs h9 o9 z9 hS => ?_)
    have hEC := hEC.ot (Y := fun q => q = zo) (fun q _ hn => o9 q hn) (fun q hq z => hz9 (z ▸ hq))
    refine lv_goto (tgt := 15) hC.1 hC.2.1 dL_pass_9 (by decide) ?_
    refine lv_iconst (v := 0) hC.1 hC.2.1 dL_pass_15 (by decide) ?_
    refine vx_ret ?_
    exact W.iret hC.1 hC.2.1 hr (fun t9 ht9 _ => ⟨_, rfl, by rw [ht9]; exact ⟨by rw [hT]; rfl, by rw [if_pos hT]; exact hEC, _, h9, fun _ => rfl⟩, hS.F ht9⟩) hS.2.2 dL_pass_16

set_option maxHeartbeats 4000000 in
set_option maxRecDepth 100000 in
/-- the helper of nextBooking -/
theorem c_L_nextBooking (l : Launch) (hls : l.stackTraces = false) (G : ecG) (X : Nat → Prop) (M : ecM) (x zo : Nat) (f9 : Nat → Int64) (hz9 : ¬ X zo) (hN : ecN0 G ≤ zo) (r : Int32) : vx_Met l yL_nextBooking (ecWh yL_nextBooking cL_nextBooking 4 (Option.some FieldType.int) [(0, 9, 12, 19), (0, 9, 15, 45)]) (ecRm 10 8 150) (ecPc [.ref x, .int r, .ref zo] G (fun H => ecXs G X H ∧ EC G X M x H ∧ ecA G zo (eJ G 1 f9) H)) (ecEp (fun v H1 => v = some (.int (nI (thNxt M r))) ∧ EC G X (if thNxt M r = 0 then M else M) x H1 ∧ ∃ f1 : Nat → Int64, ecA G zo (eJ G 1 f1) H1 ∧ (thNxt M r = 0 → f1 0 = (nI ((nxtN M (cN r) (mnB M)).getD 0)).toInt64)) (fun q : Nat => X q ∨ q = zo)) (ecXc (fun _ => False)) 8 150 (fun q : Nat => X q ∨ q = zo) := by
  refine ec_hmet (by decide) (Nat.le_of_ble_eq_true rfl) ?_
  intro p e s m below meth c hC hr hlocks htab hOk hpre ls hl
  have hK := hOk.1
  obtain ⟨hXs, hEC, hz⟩ := hpre
  have hS : va_S (fun q : Nat => X q ∨ q = zo) s.heap s.heap [] := va_S.rf
  have hAN : ∀ q, (fun q : Nat => X q ∨ q = zo) q → ecN0 G ≤ q := fun q h => h.elim (hXs.1 q) (fun h => by rw [h]; exact hN)
  have hlab : ∃ fs, ecA G x (eO 5 fs) s.heap := by obtain ⟨tg9, ad9, hx9, hw9⟩ := hEC; exact ⟨_, hx9 ▸ hw9.1.1⟩
  obtain ⟨fs9, hlab⟩ := hlab
  have hl : lv_has ls 4 [(0, .ref x), (1, .int r), (2, .ref zo)] := hl
  refine lv_aload_n hC.1 hC.2.1 dL_nextBooking_0 rfl (lv_at hl 2 rfl) ?_
  refine lv_iconst (v := 0) hC.1 hC.2.1 dL_nextBooking_1 (by decide) ?_
  refine lv_aload_n hC.1 hC.2.1 dL_nextBooking_2 rfl (lv_at hl 0 rfl) ?_
  refine lv_iload_n hC.1 hC.2.1 dL_nextBooking_3 rfl (lv_at hl 1 rfl) ?_
  refine ec_goXE1 (ec_xV hC (c_X5_nextBooking l hls G X M x r) kL_105 (hOk.at hS hAN) ⟨hXs, hEC⟩ (ec_rc hK hlab ⟨_, _, rfl⟩) hl.1 ⟨Nat.le_of_ble_eq_true rfl, Nat.le_of_ble_eq_true rfl⟩ rfl (Nat.le_of_ble_eq_true rfl) dL_nextBooking_4 ⟨Nat.le_of_ble_eq_true rfl, Nat.le_of_ble_eq_true rfl⟩) hS (fun _ h => Or.inl h) (fun E9 ce9 q9 H locs hx hk9 hS h1 h2 h3 => ?_) (fun H locs hp hzs hk1 hS => ?_)
  · simp only [List.mem_cons, Prod.mk.injEq, List.not_mem_nil, or_false] at hx
    rcases hx with ⟨rfl, hT⟩ | ⟨rfl, hT⟩
    · have hpas : ∀ z ∈ ([] : List ExceptionTableEntry), z.catchType ≠ 0 ∧ ∃ nm : String, Cond.classLink RL z.catchType nm ∈ GW ∧ (eIX, nm) ∈ ecNc := (fun z hz => nomatch hz)
      refine ec_catch hC hK htab [] ⟨0, 9, 12, 19⟩ [⟨0, 9, 15, 45⟩] rfl hpas (by decide) (by decide) q308 (by decide) h1 h2 h3 ?_
      refine lv_astore_n (lv' := [(3, .ref q9), (0, .ref x), (1, .int r), (2, .ref zo)]) hC.1 hC.2.1 dL_nextBooking_12 rfl hl (by decide) rfl (fun ls hl => ?_)
      refine lv_iconst (v := 1) hC.1 hC.2.1 dL_nextBooking_13 (by decide) ?_
      refine vx_ret ?_
      exact W.iret hC.1 hC.2.1 hr (fun t9 ht9 _ => ⟨_, rfl, by rw [ht9]; exact ⟨by rw [hT]; rfl, by rw [if_neg (by rw [hT]; decide)]; exact hEC.kp hk9, f9, hz.kp hk9, fun z => absurd (hT.symm.trans z) (by decide)⟩, hS.F ht9⟩) hS.2.2 dL_nextBooking_14
    · have hpas : ∀ z ∈ ([⟨0, 9, 12, 19⟩] : List ExceptionTableEntry), z.catchType ≠ 0 ∧ ∃ nm : String, Cond.classLink RL z.catchType nm ∈ GW ∧ (eNS, nm) ∈ ecNc := (fun z hz => by
          simp only [List.mem_cons, List.not_mem_nil, or_false] at hz
          rcases hz with rfl
          · exact ⟨by decide, _, q308, by decide⟩)
      refine ec_catch hC hK htab [⟨0, 9, 12, 19⟩] ⟨0, 9, 15, 45⟩ [] rfl hpas (by decide) (by decide) q440 (by decide) h1 h2 h3 ?_
      refine lv_astore_n (lv' := [(3, .ref q9), (0, .ref x), (1, .int r), (2, .ref zo)]) hC.1 hC.2.1 dL_nextBooking_15 rfl hl (by decide) rfl (fun ls hl => ?_)
      refine lv_iconst (v := 2) hC.1 hC.2.1 dL_nextBooking_16 (by decide) ?_
      refine vx_ret ?_
      exact W.iret hC.1 hC.2.1 hr (fun t9 ht9 _ => ⟨_, rfl, by rw [ht9]; exact ⟨by rw [hT]; rfl, by rw [if_neg (by rw [hT]; decide)]; exact hEC.kp hk9, f9, hz.kp hk9, fun z => absurd (hT.symm.trans z) (by decide)⟩, hS.F ht9⟩) hS.2.2 dL_nextBooking_17
  · obtain ⟨hT, hEC⟩ := hp
    have hz := hz.kept (hk1 _ hz.lt hz9)
    refine lv_i2l hC.1 hC.2.1 dL_nextBooking_7 rfl ?_
    refine ec_last hC hK hS hz (Or.inr rfl) 0 rfl (by omega) (by omega) dL_nextBooking_8 (fun H locs h9 o9 z9 hS => ?_)
    have hEC := hEC.ot (Y := fun q => q = zo) (fun q _ hn => o9 q hn) (fun q hq z => hz9 (z ▸ hq))
    refine lv_goto (tgt := 18) hC.1 hC.2.1 dL_nextBooking_9 (by decide) ?_
    refine lv_iconst (v := 0) hC.1 hC.2.1 dL_nextBooking_18 (by decide) ?_
    refine vx_ret ?_
    exact W.iret hC.1 hC.2.1 hr (fun t9 ht9 _ => ⟨_, rfl, by rw [ht9]; exact ⟨by rw [hT]; rfl, by rw [if_pos hT]; exact hEC, _, h9, fun _ => rfl⟩, hS.F ht9⟩) hS.2.2 dL_nextBooking_19
