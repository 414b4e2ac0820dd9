theorem tb_0 {x : Int32} (h : x = 0) : (0 : Int64) = x.toInt64 := by rw [h]; rfl
theorem tb_1 {a : Nat} (h : ¬ nI (a % 2) = 0) : (1 : Int64) = (nI (a % 2)).toInt64 := by
  rcases (show a % 2 = 0 ∨ a % 2 = 1 by omega) with q | q
  · rw [q] at h; exact absurd rfl h
  · rw [q]; rfl
theorem tb_b {b : Bool} (h : ¬ bI b = 0) : (1 : Int64) = (bI b).toInt64 := by rw [(bI_n0 b).mp h]; rfl

set_option maxHeartbeats 4000000 in
set_option maxRecDepth 100000 in
/-- the helper of addRoom -/
theorem c_L_addRoom (l : Launch) (hls : l.stackTraces = false) (G : ecG) (X : Nat → Prop) (M : ecM) (x zo : Nat) (f9 : Nat → Int64) (hz9 : ¬ X zo) (hN : ecN0 G ≤ zo)  : vx_Met l yL_addRoom (ecWh yL_addRoom cL_addRoom 3 (Option.some FieldType.int) [(0, 8, 11, 13)]) (ecRm 10 8 150) (ecPc [.ref x, .ref zo] G (fun H => ecXs G X H ∧ EC G X M x H ∧ ecA G zo (eJ G 1 f9) H)) (ecEp (fun v H1 => v = some (.int (nI (thAdd M))) ∧ EC G X (if thAdd M = 0 then addM M else M) x H1 ∧ ∃ f1 : Nat → Int64, ecA G zo (eJ G 1 f1) H1 ∧ (thAdd M = 0 → f1 0 = (nI (mnR M)).toInt64)) (fun q : Nat => X q ∨ q = zo)) (ecXc (fun _ => False)) 8 150 (fun q : Nat => X q ∨ q = zo) := by
  refine ec_hmet (by decide) (Nat.le_of_ble_eq_true rfl) ?_
  intro p e s m below meth c hC hr hlocks htab hOk hpre ls hl
  have hK := hOk.1
  obtain ⟨hXs, hEC, hz⟩ := hpre
  have hS : va_S (fun q : Nat => X q ∨ q = zo) s.heap s.heap [] := va_S.rf
  have hAN : ∀ q, (fun q : Nat => X q ∨ q = zo) q → ecN0 G ≤ q := fun q h => h.elim (hXs.1 q) (fun h => by rw [h]; exact hN)
  have hlab : ∃ fs, ecA G x (eO 5 fs) s.heap := by obtain ⟨tg9, ad9, hx9, hw9⟩ := hEC; exact ⟨_, hx9 ▸ hw9.1.1⟩
  obtain ⟨fs9, hlab⟩ := hlab
  have hl : lv_has ls 3 [(0, .ref x), (1, .ref zo)] := hl
  refine lv_aload_n hC.1 hC.2.1 dL_addRoom_0 rfl (lv_at hl 1 rfl) ?_
  refine lv_iconst (v := 0) hC.1 hC.2.1 dL_addRoom_1 (by decide) ?_
  refine lv_aload_n hC.1 hC.2.1 dL_addRoom_2 rfl (lv_at hl 0 rfl) ?_
  refine ec_goXE1 (ec_xV hC (c_X5_addRoom l hls G X M x ) kL_7 (hOk.at hS hAN) ⟨hXs, hEC⟩ (ec_rc hK hlab ⟨_, _, rfl⟩) hl.1 ⟨Nat.le_of_ble_eq_true rfl, Nat.le_of_ble_eq_true rfl⟩ rfl (Nat.le_of_ble_eq_true rfl) dL_addRoom_3 ⟨Nat.le_of_ble_eq_true rfl, Nat.le_of_ble_eq_true rfl⟩) hS (fun _ h => Or.inl h) (fun E9 ce9 q9 H locs hx hk9 hS h1 h2 h3 => ?_) (fun H locs hp hzs hk1 hS => ?_)
  · simp only [List.mem_cons, Prod.mk.injEq, List.not_mem_nil, or_false] at hx
    rcases hx with ⟨rfl, hT⟩
    · have hpas : ∀ z ∈ ([] : List ExceptionTableEntry), z.catchType ≠ 0 ∧ ∃ nm : String, Cond.classLink RL z.catchType nm ∈ GW ∧ (eIS, nm) ∈ ecNc := (fun z hz => nomatch hz)
      refine ec_catch hC hK htab [] ⟨0, 8, 11, 13⟩ [] rfl hpas (by decide) (by decide) q134 (by decide) h1 h2 h3 ?_
      refine lv_astore_n (lv' := [(2, .ref q9), (0, .ref x), (1, .ref zo)]) hC.1 hC.2.1 dL_addRoom_11 rfl hl (by decide) rfl (fun ls hl => ?_)
      refine lv_iconst (v := 1) hC.1 hC.2.1 dL_addRoom_12 (by decide) ?_
      refine vx_ret ?_
      exact W.iret hC.1 hC.2.1 hr (fun t9 ht9 _ => ⟨_, rfl, by rw [ht9]; exact ⟨by rw [hT]; rfl, by rw [if_neg (by rw [hT]; decide)]; exact hEC.kp hk9, f9, hz.kp hk9, fun z => absurd (hT.symm.trans z) (by decide)⟩, hS.F ht9⟩) hS.2.2 dL_addRoom_13
  · obtain ⟨hT, hEC⟩ := hp
    have hz := hz.kept (hk1 _ hz.lt hz9)
    refine lv_i2l hC.1 hC.2.1 dL_addRoom_6 rfl ?_
    refine ec_last hC hK hS hz (Or.inr rfl) 0 rfl (by omega) (by omega) dL_addRoom_7 (fun H locs h9 o9 z9 hS => ?_)
    have hEC := hEC.ot (Y := fun q => q = zo) (fun q _ hn => o9 q hn) (fun q hq z => hz9 (z ▸ hq))
    refine lv_goto (tgt := 14) hC.1 hC.2.1 dL_addRoom_8 (by decide) ?_
    refine lv_iconst (v := 0) hC.1 hC.2.1 dL_addRoom_14 (by decide) ?_
    refine vx_ret ?_
    exact W.iret hC.1 hC.2.1 hr (fun t9 ht9 _ => ⟨_, rfl, by rw [ht9]; exact ⟨by rw [hT]; rfl, by rw [if_pos hT]; exact hEC, _, h9, fun _ => rfl⟩, hS.F ht9⟩) hS.2.2 dL_addRoom_15

set_option maxHeartbeats 4000000 in
set_option maxRecDepth 100000 in
/-- the helper of setState -/
theorem c_L_setState (l : Launch) (hls : l.stackTraces = false) (G : ecG) (X : Nat → Prop) (M : ecM) (x zo : Nat) (f9 : Nat → Int64) (hz9 : ¬ X zo) (hN : ecN0 G ≤ zo) (r c0 s0 : Int32) (o : Bool) : vx_Met l yL_setState (ecWh yL_setState cL_setState 7 (Option.some FieldType.int) [(0, 14, 17, 19), (0, 14, 21, 21)]) (ecRm 10 8 150) (ecPc [.ref x, .int r, .int c0, .int s0, .int (bI o), .ref zo] G (fun H => ecXs G X H ∧ EC G X M x H ∧ ecA G zo (eJ G 1 f9) H)) (ecEp (fun v H1 => v = some (.int (nI (thSet M r c0 s0))) ∧ EC G X (if thSet M r c0 s0 = 0 then gvM M (cN r) (cdN c0 s0 o) else M) x H1 ∧ ∃ f1 : Nat → Int64, ecA G zo (eJ G 1 f1) H1 ∧ (thSet M r c0 s0 = 0 → f1 0 = (nI (dif (M.1 0 (cN r)) (cdN c0 s0 o))).toInt64)) (fun q : Nat => X q ∨ q = zo)) (ecXc (fun _ => False)) 8 150 (fun q : Nat => X q ∨ q = zo) := by
  refine ec_hmet (by decide) (Nat.le_of_ble_eq_true rfl) ?_
  intro p e s m below meth c hC hr hlocks htab hOk hpre ls hl
  have hK := hOk.1
  obtain ⟨hXs, hEC, hz⟩ := hpre
  have hS : va_S (fun q : Nat => X q ∨ q = zo) s.heap s.heap [] := va_S.rf
  have hAN : ∀ q, (fun q : Nat => X q ∨ q = zo) q → ecN0 G ≤ q := fun q h => h.elim (hXs.1 q) (fun h => by rw [h]; exact hN)
  have hlab : ∃ fs, ecA G x (eO 5 fs) s.heap := by obtain ⟨tg9, ad9, hx9, hw9⟩ := hEC; exact ⟨_, hx9 ▸ hw9.1.1⟩
  obtain ⟨fs9, hlab⟩ := hlab
  have hl : lv_has ls 7 [(0, .ref x), (1, .int r), (2, .int c0), (3, .int s0), (4, .int (bI o)), (5, .ref zo)] := hl
  refine lv_aload hC.1 hC.2.1 dL_setState_0 (lv_at hl 5 rfl) ?_
  refine lv_iconst (v := 0) hC.1 hC.2.1 dL_setState_2 (by decide) ?_
  refine lv_aload_n hC.1 hC.2.1 dL_setState_3 rfl (lv_at hl 0 rfl) ?_
  refine lv_iload_n hC.1 hC.2.1 dL_setState_4 rfl (lv_at hl 1 rfl) ?_
  refine lv_iload_n hC.1 hC.2.1 dL_setState_5 rfl (lv_at hl 2 rfl) ?_
  refine lv_iload_n hC.1 hC.2.1 dL_setState_6 rfl (lv_at hl 3 rfl) ?_
  refine lv_iload hC.1 hC.2.1 dL_setState_7 (lv_at hl 4 rfl) ?_
  refine ec_goXE1 (ec_xV hC (c_X5_setState l hls G X M x r c0 s0 o) kL_15 (hOk.at hS hAN) ⟨hXs, hEC⟩ (ec_rc hK hlab ⟨_, _, rfl⟩) hl.1 ⟨Nat.le_of_ble_eq_true rfl, Nat.le_of_ble_eq_true rfl⟩ rfl (Nat.le_of_ble_eq_true rfl) dL_setState_9 ⟨Nat.le_of_ble_eq_true rfl, Nat.le_of_ble_eq_true rfl⟩) hS (fun _ h => Or.inl h) (fun E9 ce9 q9 H locs hx hk9 hS h1 h2 h3 => ?_) (fun H locs hp hzs hk1 hS => ?_)
  · simp only [List.mem_cons, Prod.mk.injEq, List.not_mem_nil, or_false] at hx
    rcases hx with ⟨rfl, hT⟩ | ⟨rfl, hT⟩
    · have hpas : ∀ z ∈ ([] : List ExceptionTableEntry), z.catchType ≠ 0 ∧ ∃ nm : String, Cond.classLink RL z.catchType nm ∈ GW ∧ (eIX, nm) ∈ ecNc := (fun z hz => nomatch hz)
      refine ec_catch hC hK htab [] ⟨0, 14, 17, 19⟩ [⟨0, 14, 21, 21⟩] rfl hpas (by decide) (by decide) q308 (by decide) h1 h2 h3 ?_
      refine lv_astore (lv' := [(6, .ref q9), (0, .ref x), (1, .int r), (2, .int c0), (3, .int s0), (4, .int (bI o)), (5, .ref zo)]) hC.1 hC.2.1 dL_setState_17 hl (by decide) rfl (fun ls hl => ?_)
      refine lv_iconst (v := 1) hC.1 hC.2.1 dL_setState_19 (by decide) ?_
      refine vx_ret ?_
      exact W.iret hC.1 hC.2.1 hr (fun t9 ht9 _ => ⟨_, rfl, by rw [ht9]; exact ⟨by rw [hT]; rfl, by rw [if_neg (by rw [hT]; decide)]; exact hEC.kp hk9, f9, hz.kp hk9, fun z => absurd (hT.symm.trans z) (by decide)⟩, hS.F ht9⟩) hS.2.2 dL_setState_20
    · have hpas : ∀ z ∈ ([⟨0, 14, 17, 19⟩] : List ExceptionTableEntry), z.catchType ≠ 0 ∧ ∃ nm : String, Cond.classLink RL z.catchType nm ∈ GW ∧ (eAG, nm) ∈ ecNc := (fun z hz => by
          simp only [List.mem_cons, List.not_mem_nil, or_false] at hz
          rcases hz with rfl
          · exact ⟨by decide, _, q308, by decide⟩)
      refine ec_catch hC hK htab [⟨0, 14, 17, 19⟩] ⟨0, 14, 21, 21⟩ [] rfl hpas (by decide) (by decide) q309 (by decide) h1 h2 h3 ?_
      refine lv_astore (lv' := [(6, .ref q9), (0, .ref x), (1, .int r), (2, .int c0), (3, .int s0), (4, .int (bI o)), (5, .ref zo)]) hC.1 hC.2.1 dL_setState_21 hl (by decide) rfl (fun ls hl => ?_)
      refine lv_iconst (v := 2) hC.1 hC.2.1 dL_setState_23 (by decide) ?_
      refine vx_ret ?_
      exact W.iret hC.1 hC.2.1 hr (fun t9 ht9 _ => ⟨_, rfl, by rw [ht9]; exact ⟨by rw [hT]; rfl, by rw [if_neg (by rw [hT]; decide)]; exact hEC.kp hk9, f9, hz.kp hk9, fun z => absurd (hT.symm.trans z) (by decide)⟩, hS.F ht9⟩) hS.2.2 dL_setState_24
  · obtain ⟨hT, hEC⟩ := hp
    have hz := hz.kept (hk1 _ hz.lt hz9)
    refine lv_i2l hC.1 hC.2.1 dL_setState_12 rfl ?_
    refine ec_last hC hK hS hz (Or.inr rfl) 0 rfl (by omega) (by omega) dL_setState_13 (fun H locs h9 o9 z9 hS => ?_)
    have hEC := hEC.ot (Y := fun q => q = zo) (fun q _ hn => o9 q hn) (fun q hq z => hz9 (z ▸ hq))
    refine lv_goto (tgt := 25) hC.1 hC.2.1 dL_setState_14 (by decide) ?_
    refine lv_iconst (v := 0) hC.1 hC.2.1 dL_setState_25 (by decide) ?_
    refine vx_ret ?_
    exact W.iret hC.1 hC.2.1 hr (fun t9 ht9 _ => ⟨_, rfl, by rw [ht9]; exact ⟨by rw [hT]; rfl, by rw [if_pos hT]; exact hEC, _, h9, fun _ => rfl⟩, hS.F ht9⟩) hS.2.2 dL_setState_26

set_option maxHeartbeats 4000000 in
set_option maxRecDepth 100000 in
/-- the helper of areOpen -/
theorem c_L_areOpen (l : Launch) (hls : l.stackTraces = false) (G : ecG) (X : Nat → Prop) (M : ecM) (x zo : Nat) (f9 : Nat → Int64) (hz9 : ¬ X zo) (hN : ecN0 G ≤ zo) (r : Int32) : vx_Met l yL_areOpen (ecWh yL_areOpen cL_areOpen 4 (Option.some FieldType.int) [(0, 16, 19, 19)]) (ecRm 10 8 150) (ecPc [.ref x, .int r, .ref zo] G (fun H => ecXs G X H ∧ EC G X M x H ∧ ecA G zo (eJ G 1 f9) H)) (ecEp (fun v H1 => v = some (.int (nI (thR M r))) ∧ EC G X (if thR M r = 0 then M else M) x H1 ∧ ∃ f1 : Nat → Int64, ecA G zo (eJ G 1 f1) H1 ∧ (thR M r = 0 → f1 0 = (nI (M.1 0 (cN r) % 2)).toInt64)) (fun q : Nat => X q ∨ q = zo)) (ecXc (fun _ => False)) 8 150 (fun q : Nat => X q ∨ q = zo) := by
  refine ec_hmet (by decide) (Nat.le_of_ble_eq_true rfl) ?_
  intro p e s m below meth c hC hr hlocks htab hOk hpre ls hl
  have hK := hOk.1
  obtain ⟨hXs, hEC, hz⟩ := hpre
  have hS : va_S (fun q : Nat => X q ∨ q = zo) s.heap s.heap [] := va_S.rf
  have hAN : ∀ q, (fun q : Nat => X q ∨ q = zo) q → ecN0 G ≤ q := fun q h => h.elim (hXs.1 q) (fun h => by rw [h]; exact hN)
  have hlab : ∃ fs, ecA G x (eO 5 fs) s.heap := by obtain ⟨tg9, ad9, hx9, hw9⟩ := hEC; exact ⟨_, hx9 ▸ hw9.1.1⟩
  obtain ⟨fs9, hlab⟩ := hlab
  have hl : lv_has ls 4 [(0, .ref x), (1, .int r), (2, .ref zo)] := hl
  refine lv_aload_n hC.1 hC.2.1 dL_areOpen_0 rfl (lv_at hl 2 rfl) ?_
  refine lv_iconst (v := 0) hC.1 hC.2.1 dL_areOpen_1 (by decide) ?_
  refine lv_aload_n hC.1 hC.2.1 dL_areOpen_2 rfl (lv_at hl 0 rfl) ?_
  refine lv_iload_n hC.1 hC.2.1 dL_areOpen_3 rfl (lv_at hl 1 rfl) ?_
  refine ec_goXE1 (ec_xV hC (c_X5_areOpen l hls G X M x r) kL_30 (hOk.at hS hAN) ⟨hXs, hEC⟩ (ec_rc hK hlab ⟨_, _, rfl⟩) hl.1 ⟨Nat.le_of_ble_eq_true rfl, Nat.le_of_ble_eq_true rfl⟩ rfl (Nat.le_of_ble_eq_true rfl) dL_areOpen_4 ⟨Nat.le_of_ble_eq_true rfl, Nat.le_of_ble_eq_true rfl⟩) hS (fun _ h => Or.inl h) (fun E9 ce9 q9 H locs hx hk9 hS h1 h2 h3 => ?_) (fun H locs hp hzs hk1 hS => ?_)
  · simp only [List.mem_cons, Prod.mk.injEq, List.not_mem_nil, or_false] at hx
    rcases hx with ⟨rfl, hT⟩
    · have hpas : ∀ z ∈ ([] : List ExceptionTableEntry), z.catchType ≠ 0 ∧ ∃ nm : String, Cond.classLink RL z.catchType nm ∈ GW ∧ (eIX, nm) ∈ ecNc := (fun z hz => nomatch hz)
      refine ec_catch hC hK htab [] ⟨0, 16, 19, 19⟩ [] rfl hpas (by decide) (by decide) q308 (by decide) h1 h2 h3 ?_
      refine lv_astore_n (lv' := [(3, .ref q9), (0, .ref x), (1, .int r), (2, .ref zo)]) hC.1 hC.2.1 dL_areOpen_19 rfl hl (by decide) rfl (fun ls hl => ?_)
      refine lv_iconst (v := 1) hC.1 hC.2.1 dL_areOpen_20 (by decide) ?_
      refine vx_ret ?_
      exact W.iret hC.1 hC.2.1 hr (fun t9 ht9 _ => ⟨_, rfl, by rw [ht9]; exact ⟨by rw [hT]; rfl, by rw [if_neg (by rw [hT]; decide)]; exact hEC.kp hk9, f9, hz.kp hk9, fun z => absurd (hT.symm.trans z) (by decide)⟩, hS.F ht9⟩) hS.2.2 dL_areOpen_21
  · obtain ⟨hT, hEC⟩ := hp
    have hz := hz.kept (hk1 _ hz.lt hz9)
    refine lv_if_eq (tgt := 14) hC.1 hC.2.1 dL_areOpen_7 (by decide) (fun c_7 => ?_) (fun c_7 => ?_)
    · refine lv_lconst (v := 0) hC.1 hC.2.1 dL_areOpen_14 (by decide) ?_
      refine ec_last hC hK hS hz (Or.inr rfl) 0 rfl (by omega) (by omega) dL_areOpen_15 (fun H locs h9 o9 z9 hS => ?_)
      have hEC := hEC.ot (Y := fun q => q = zo) (fun q _ hn => o9 q hn) (fun q hq z => hz9 (z ▸ hq))
      refine lv_goto (tgt := 22) hC.1 hC.2.1 dL_areOpen_16 (by decide) ?_
      refine lv_iconst (v := 0) hC.1 hC.2.1 dL_areOpen_22 (by decide) ?_
      refine vx_ret ?_
      exact W.iret hC.1 hC.2.1 hr (fun t9 ht9 _ => ⟨_, rfl, by rw [ht9]; exact ⟨by rw [hT]; rfl, by rw [if_pos hT]; exact hEC, _, h9, fun _ => (tb_0 c_7)⟩, hS.F ht9⟩) hS.2.2 dL_areOpen_23
    · refine lv_lconst (v := 1) hC.1 hC.2.1 dL_areOpen_10 (by decide) ?_
      refine lv_goto (tgt := 15) hC.1 hC.2.1 dL_areOpen_11 (by decide) ?_
      refine ec_last hC hK hS hz (Or.inr rfl) 0 rfl (by omega) (by omega) dL_areOpen_15 (fun H locs h9 o9 z9 hS => ?_)
      have hEC := hEC.ot (Y := fun q => q = zo) (fun q _ hn => o9 q hn) (fun q hq z => hz9 (z ▸ hq))
      refine lv_goto (tgt := 22) hC.1 hC.2.1 dL_areOpen_16 (by decide) ?_
      refine lv_iconst (v := 0) hC.1 hC.2.1 dL_areOpen_22 (by decide) ?_
      refine vx_ret ?_
      exact W.iret hC.1 hC.2.1 hr (fun t9 ht9 _ => ⟨_, rfl, by rw [ht9]; exact ⟨by rw [hT]; rfl, by rw [if_pos hT]; exact hEC, _, h9, fun _ => (tb_1 c_7)⟩, hS.F ht9⟩) hS.2.2 dL_areOpen_23
