/-- a helper's answer: the call's, or a number that says what it threw -/
def hv {α : Type} (T : Nat) (V c1 c2 c3 c4 : α) : α := if T = 0 then V else if T = 1 then c1 else if T = 2 then c2 else if T = 3 then c3 else c4

set_option maxHeartbeats 4000000 in
set_option maxRecDepth 100000 in
/-- the helper of addRoom -/
theorem c_L_addRoom (l : Launch) (hls : l.stackTraces = false) (G : ecG) (X : Nat → Prop) (M : ecM) (x : Nat)  : vx_Met l yL_addRoom (ecWh yL_addRoom cL_addRoom 2 (Option.some FieldType.int) [(0, 4, 5, 19)]) (ecRm 10 8 150) (ecPc [.ref x] G (fun H => ecXs G X H ∧ EC G X M x H)) (ecEp (fun v H1 => v = some (.int (hv (thAdd M) (nI (mnR M)) (-1000000) 0 0 0)) ∧ EC G X (if thAdd M = 0 then addM M else M) x H1) X) (ecXc (fun _ => False)) 8 150 X := by
  refine ec_hmet (by decide) (Nat.le_of_ble_eq_true rfl) ?_
  intro p e s m below meth c hC hr hlocks htab hOk hpre ls hl
  have hK := hOk.1
  obtain ⟨hXs, hEC⟩ := hpre
  have hS : va_S X s.heap s.heap [] := va_S.rf
  have hAN : ∀ q, X q → ecN0 G ≤ q := hXs.1
  have hlab : ∃ fs, ecA G x (eO 5 fs) s.heap := by obtain ⟨tg9, ad9, hx9, hw9⟩ := hEC; exact ⟨_, hx9 ▸ hw9.1.1⟩
  obtain ⟨fs9, hlab⟩ := hlab
  have hl : lv_has ls 2 [(0, .ref x)] := hl
  refine lv_aload_n hC.1 hC.2.1 dL_addRoom_0 rfl (lv_at hl 0 rfl) ?_
  refine ec_goXE1 (ec_xV hC (c_X5_addRoom l hls G X M x ) kL_13 (hOk.at hS hAN) ⟨hXs, hEC⟩ (ec_rc hK hlab ⟨_, _, rfl⟩) hl.1 ⟨Nat.le_of_ble_eq_true rfl, Nat.le_of_ble_eq_true rfl⟩ rfl (Nat.le_of_ble_eq_true rfl) dL_addRoom_1 ⟨Nat.le_of_ble_eq_true rfl, Nat.le_of_ble_eq_true rfl⟩) hS (fun _ h => h) (fun E9 ce9 q9 H locs hx hk9 hS h1 h2 h3 => ?_) (fun H locs hp hzs hk1 hS => ?_)
  · simp only [List.mem_cons, Prod.mk.injEq, List.not_mem_nil, or_false] at hx
    rcases hx with ⟨rfl, hT⟩
    · have hpas : ∀ z ∈ ([] : List ExceptionTableEntry), z.catchType ≠ 0 ∧ ∃ nm : String, Cond.classLink RL z.catchType nm ∈ GW ∧ (eIS, nm) ∈ ecNc := (fun z hz => nomatch hz)
      refine ec_catch hC hK htab [] ⟨0, 4, 5, 19⟩ [] rfl hpas (by decide) (by decide) q247 (by decide) h1 h2 h3 ?_
      refine lv_astore_n (lv' := [(1, .ref q9), (0, .ref x)]) hC.1 hC.2.1 dL_addRoom_5 rfl hl (by decide) rfl (fun ls hl => ?_)
      refine lv_ldc hC.1 hC.2.1 hC.2.2.2.1 (hC.2.2.2.2 _ q362) dL_addRoom_6 ?_
      refine vx_ret ?_
      exact W.iret hC.1 hC.2.1 hr (fun t9 ht9 _ => ⟨_, rfl, by rw [ht9]; exact ⟨by rw [hT]; rfl, by rw [if_neg (by rw [hT]; decide)]; exact hEC.kp hk9⟩, hS.F ht9⟩) hS.2.2 dL_addRoom_8
  · obtain ⟨hT, hEC⟩ := hp
    refine vx_ret ?_
    exact W.iret hC.1 hC.2.1 hr (fun t9 ht9 _ => ⟨_, rfl, by rw [ht9]; exact ⟨by rw [hT]; rfl, by rw [if_pos hT]; exact hEC⟩, hS.F ht9⟩) hS.2.2 dL_addRoom_4

set_option maxHeartbeats 4000000 in
set_option maxRecDepth 100000 in
/-- the helper of setState -/
theorem c_L_setState (l : Launch) (hls : l.stackTraces = false) (G : ecG) (X : Nat → Prop) (M : ecM) (x : Nat) (r c0 s0 : Int32) (o : Bool) : vx_Met l yL_setState (ecWh yL_setState cL_setState 6 (Option.some FieldType.int) [(0, 9, 10, 26), (0, 9, 15, 29)]) (ecRm 10 8 150) (ecPc [.ref x, .int r, .int c0, .int s0, .int (bI o)] G (fun H => ecXs G X H ∧ EC G X M x H)) (ecEp (fun v H1 => v = some (.int (hv (thSet M r c0 s0) (nI (dif (M.1 0 (cN r)) (cdN c0 s0 o))) (-2500000) (-2000000) 0 0)) ∧ EC G X (if thSet M r c0 s0 = 0 then gvM M (cN r) (cdN c0 s0 o) else M) x H1) X) (ecXc (fun _ => False)) 8 150 X := by
  refine ec_hmet (by decide) (Nat.le_of_ble_eq_true rfl) ?_
  intro p e s m below meth c hC hr hlocks htab hOk hpre ls hl
  have hK := hOk.1
  obtain ⟨hXs, hEC⟩ := hpre
  have hS : va_S X s.heap s.heap [] := va_S.rf
  have hAN : ∀ q, X q → ecN0 G ≤ q := hXs.1
  have hlab : ∃ fs, ecA G x (eO 5 fs) s.heap := by obtain ⟨tg9, ad9, hx9, hw9⟩ := hEC; exact ⟨_, hx9 ▸ hw9.1.1⟩
  obtain ⟨fs9, hlab⟩ := hlab
  have hl : lv_has ls 6 [(0, .ref x), (1, .int r), (2, .int c0), (3, .int s0), (4, .int (bI o))] := hl
  refine lv_aload_n hC.1 hC.2.1 dL_setState_0 rfl (lv_at hl 0 rfl) ?_
  refine lv_iload_n hC.1 hC.2.1 dL_setState_1 rfl (lv_at hl 1 rfl) ?_
  refine lv_iload_n hC.1 hC.2.1 dL_setState_2 rfl (lv_at hl 2 rfl) ?_
  refine lv_iload_n hC.1 hC.2.1 dL_setState_3 rfl (lv_at hl 3 rfl) ?_
  refine lv_iload hC.1 hC.2.1 dL_setState_4 (lv_at hl 4 rfl) ?_
  refine ec_goXE1 (ec_xV hC (c_X5_setState l hls G X M x r c0 s0 o) kL_22 (hOk.at hS hAN) ⟨hXs, hEC⟩ (ec_rc hK hlab ⟨_, _, rfl⟩) hl.1 ⟨Nat.le_of_ble_eq_true rfl, Nat.le_of_ble_eq_true rfl⟩ rfl (Nat.le_of_ble_eq_true rfl) dL_setState_6 ⟨Nat.le_of_ble_eq_true rfl, Nat.le_of_ble_eq_true rfl⟩) hS (fun _ h => h) (fun E9 ce9 q9 H locs hx hk9 hS h1 h2 h3 => ?_) (fun H locs hp hzs hk1 hS => ?_)
  · simp only [List.mem_cons, Prod.mk.injEq, List.not_mem_nil, or_false] at hx
    rcases hx with ⟨rfl, hT⟩ | ⟨rfl, hT⟩
    · have hpas : ∀ z ∈ ([] : List ExceptionTableEntry), z.catchType ≠ 0 ∧ ∃ nm : String, Cond.classLink RL z.catchType nm ∈ GW ∧ (eIX, nm) ∈ ecNc := (fun z hz => nomatch hz)
      refine ec_catch hC hK htab [] ⟨0, 9, 10, 26⟩ [⟨0, 9, 15, 29⟩] rfl hpas (by decide) (by decide) q366 (by decide) h1 h2 h3 ?_
      refine lv_astore (lv' := [(5, .ref q9), (0, .ref x), (1, .int r), (2, .int c0), (3, .int s0), (4, .int (bI o))]) hC.1 hC.2.1 dL_setState_10 hl (by decide) rfl (fun ls hl => ?_)
      refine lv_ldc hC.1 hC.2.1 hC.2.2.2.1 (hC.2.2.2.2 _ q399) dL_setState_12 ?_
      refine vx_ret ?_
      exact W.iret hC.1 hC.2.1 hr (fun t9 ht9 _ => ⟨_, rfl, by rw [ht9]; exact ⟨by rw [hT]; rfl, by rw [if_neg (by rw [hT]; decide)]; exact hEC.kp hk9⟩, hS.F ht9⟩) hS.2.2 dL_setState_14
    · have hpas : ∀ z ∈ ([⟨0, 9, 10, 26⟩] : List ExceptionTableEntry), z.catchType ≠ 0 ∧ ∃ nm : String, Cond.classLink RL z.catchType nm ∈ GW ∧ (eAG, nm) ∈ ecNc := (fun z hz => by
          simp only [List.mem_cons, List.not_mem_nil, or_false] at hz
          rcases hz with rfl
          · exact ⟨by decide, _, q366, by decide⟩)
      refine ec_catch hC hK htab [⟨0, 9, 10, 26⟩] ⟨0, 9, 15, 29⟩ [] rfl hpas (by decide) (by decide) q367 (by decide) h1 h2 h3 ?_
      refine lv_astore (lv' := [(5, .ref q9), (0, .ref x), (1, .int r), (2, .int c0), (3, .int s0), (4, .int (bI o))]) hC.1 hC.2.1 dL_setState_15 hl (by decide) rfl (fun ls hl => ?_)
      refine lv_ldc hC.1 hC.2.1 hC.2.2.2.1 (hC.2.2.2.2 _ q400) dL_setState_17 ?_
      refine vx_ret ?_
      exact W.iret hC.1 hC.2.1 hr (fun t9 ht9 _ => ⟨_, rfl, by rw [ht9]; exact ⟨by rw [hT]; rfl, by rw [if_neg (by rw [hT]; decide)]; exact hEC.kp hk9⟩, hS.F ht9⟩) hS.2.2 dL_setState_19
  · obtain ⟨hT, hEC⟩ := hp
    refine vx_ret ?_
    exact W.iret hC.1 hC.2.1 hr (fun t9 ht9 _ => ⟨_, rfl, by rw [ht9]; exact ⟨by rw [hT]; rfl, by rw [if_pos hT]; exact hEC⟩, hS.F ht9⟩) hS.2.2 dL_setState_9

set_option maxHeartbeats 4000000 in
set_option maxRecDepth 100000 in
/-- the helper of measure -/
theorem c_L_measure (l : Launch) (hls : l.stackTraces = false) (G : ecG) (X : Nat → Prop) (M : ecM) (x : Nat) (r pl a b c0 d : Int32) : vx_Met l yL_measure (ecWh yL_measure cL_measure 8 (Option.some FieldType.int) [(0, 13, 14, 26), (0, 13, 19, 29), (0, 13, 24, 19)]) (ecRm 10 8 150) (ecPc [.ref x, .int r, .int pl, .int a, .int b, .int c0, .int d] G (fun H => ecXs G X H ∧ EC G X M x H)) (ecEp (fun v H1 => v = some (.int (hv (thMes M r pl a b c0 d) (nI (mnA M)) (-2500000) (-2000000) (-1000000) 0)) ∧ EC G X (if thMes M r pl a b c0 d = 0 then mesM M (cN r) pl a b c0 d else M) x H1) X) (ecXc (fun _ => False)) 8 150 X := by
  refine ec_hmet (by decide) (Nat.le_of_ble_eq_true rfl) ?_
  intro p e s m below meth c hC hr hlocks htab hOk hpre ls hl
  have hK := hOk.1
  obtain ⟨hXs, hEC⟩ := hpre
  have hS : va_S X s.heap s.heap [] := va_S.rf
  have hAN : ∀ q, X q → ecN0 G ≤ q := hXs.1
  have hlab : ∃ fs, ecA G x (eO 5 fs) s.heap := by obtain ⟨tg9, ad9, hx9, hw9⟩ := hEC; exact ⟨_, hx9 ▸ hw9.1.1⟩
  obtain ⟨fs9, hlab⟩ := hlab
  have hl : lv_has ls 8 [(0, .ref x), (1, .int r), (2, .int pl), (3, .int a), (4, .int b), (5, .int c0), (6, .int d)] := hl
  refine lv_aload_n hC.1 hC.2.1 dL_measure_0 rfl (lv_at hl 0 rfl) ?_
  refine lv_iload_n hC.1 hC.2.1 dL_measure_1 rfl (lv_at hl 1 rfl) ?_
  refine lv_iload_n hC.1 hC.2.1 dL_measure_2 rfl (lv_at hl 2 rfl) ?_
  refine lv_iload_n hC.1 hC.2.1 dL_measure_3 rfl (lv_at hl 3 rfl) ?_
  refine lv_iload hC.1 hC.2.1 dL_measure_4 (lv_at hl 4 rfl) ?_
  refine lv_iload hC.1 hC.2.1 dL_measure_6 (lv_at hl 5 rfl) ?_
  refine lv_iload hC.1 hC.2.1 dL_measure_8 (lv_at hl 6 rfl) ?_
  refine ec_goXE1 (ec_xV hC (c_X5_measure l hls G X M x r pl a b c0 d) kL_36 (hOk.at hS hAN) ⟨hXs, hEC⟩ (ec_rc hK hlab ⟨_, _, rfl⟩) hl.1 ⟨Nat.le_of_ble_eq_true rfl, Nat.le_of_ble_eq_true rfl⟩ rfl (Nat.le_of_ble_eq_true rfl) dL_measure_10 ⟨Nat.le_of_ble_eq_true rfl, Nat.le_of_ble_eq_true rfl⟩) hS (fun _ h => h) (fun E9 ce9 q9 H locs hx hk9 hS h1 h2 h3 => ?_) (fun H locs hp hzs hk1 hS => ?_)
  · simp only [List.mem_cons, Prod.mk.injEq, List.not_mem_nil, or_false] at hx
    rcases hx with ⟨rfl, hT⟩ | ⟨rfl, hT⟩ | ⟨rfl, hT⟩
    · have hpas : ∀ z ∈ ([] : List ExceptionTableEntry), z.catchType ≠ 0 ∧ ∃ nm : String, Cond.classLink RL z.catchType nm ∈ GW ∧ (eIX, nm) ∈ ecNc := (fun z hz => nomatch hz)
      refine ec_catch hC hK htab [] ⟨0, 13, 14, 26⟩ [⟨0, 13, 19, 29⟩, ⟨0, 13, 24, 19⟩] rfl hpas (by decide) (by decide) q366 (by decide) h1 h2 h3 ?_
      refine lv_astore (lv' := [(7, .ref q9), (0, .ref x), (1, .int r), (2, .int pl), (3, .int a), (4, .int b), (5, .int c0), (6, .int d)]) hC.1 hC.2.1 dL_measure_14 hl (by decide) rfl (fun ls hl => ?_)
      refine lv_ldc hC.1 hC.2.1 hC.2.2.2.1 (hC.2.2.2.2 _ q399) dL_measure_16 ?_
      refine vx_ret ?_
      exact W.iret hC.1 hC.2.1 hr (fun t9 ht9 _ => ⟨_, rfl, by rw [ht9]; exact ⟨by rw [hT]; rfl, by rw [if_neg (by rw [hT]; decide)]; exact hEC.kp hk9⟩, hS.F ht9⟩) hS.2.2 dL_measure_18
    · have hpas : ∀ z ∈ ([⟨0, 13, 14, 26⟩] : List ExceptionTableEntry), z.catchType ≠ 0 ∧ ∃ nm : String, Cond.classLink RL z.catchType nm ∈ GW ∧ (eAG, nm) ∈ ecNc := (fun z hz => by
          simp only [List.mem_cons, List.not_mem_nil, or_false] at hz
          rcases hz with rfl
          · exact ⟨by decide, _, q366, by decide⟩)
      refine ec_catch hC hK htab [⟨0, 13, 14, 26⟩] ⟨0, 13, 19, 29⟩ [⟨0, 13, 24, 19⟩] rfl hpas (by decide) (by decide) q367 (by decide) h1 h2 h3 ?_
      refine lv_astore (lv' := [(7, .ref q9), (0, .ref x), (1, .int r), (2, .int pl), (3, .int a), (4, .int b), (5, .int c0), (6, .int d)]) hC.1 hC.2.1 dL_measure_19 hl (by decide) rfl (fun ls hl => ?_)
      refine lv_ldc hC.1 hC.2.1 hC.2.2.2.1 (hC.2.2.2.2 _ q400) dL_measure_21 ?_
      refine vx_ret ?_
      exact W.iret hC.1 hC.2.1 hr (fun t9 ht9 _ => ⟨_, rfl, by rw [ht9]; exact ⟨by rw [hT]; rfl, by rw [if_neg (by rw [hT]; decide)]; exact hEC.kp hk9⟩, hS.F ht9⟩) hS.2.2 dL_measure_23
    · have hpas : ∀ z ∈ ([⟨0, 13, 14, 26⟩, ⟨0, 13, 19, 29⟩] : List ExceptionTableEntry), z.catchType ≠ 0 ∧ ∃ nm : String, Cond.classLink RL z.catchType nm ∈ GW ∧ (eIS, nm) ∈ ecNc := (fun z hz => by
          simp only [List.mem_cons, List.not_mem_nil, or_false] at hz
          rcases hz with rfl | rfl
          · exact ⟨by decide, _, q366, by decide⟩
          · exact ⟨by decide, _, q367, by decide⟩)
      refine ec_catch hC hK htab [⟨0, 13, 14, 26⟩, ⟨0, 13, 19, 29⟩] ⟨0, 13, 24, 19⟩ [] rfl hpas (by decide) (by decide) q247 (by decide) h1 h2 h3 ?_
      refine lv_astore (lv' := [(7, .ref q9), (0, .ref x), (1, .int r), (2, .int pl), (3, .int a), (4, .int b), (5, .int c0), (6, .int d)]) hC.1 hC.2.1 dL_measure_24 hl (by decide) rfl (fun ls hl => ?_)
      refine lv_ldc hC.1 hC.2.1 hC.2.2.2.1 (hC.2.2.2.2 _ q362) dL_measure_26 ?_
      refine vx_ret ?_
      exact W.iret hC.1 hC.2.1 hr (fun t9 ht9 _ => ⟨_, rfl, by rw [ht9]; exact ⟨by rw [hT]; rfl, by rw [if_neg (by rw [hT]; decide)]; exact hEC.kp hk9⟩, hS.F ht9⟩) hS.2.2 dL_measure_28
  · obtain ⟨hT, hEC⟩ := hp
    refine vx_ret ?_
    exact W.iret hC.1 hC.2.1 hr (fun t9 ht9 _ => ⟨_, rfl, by rw [ht9]; exact ⟨by rw [hT]; rfl, by rw [if_pos hT]; exact hEC⟩, hS.F ht9⟩) hS.2.2 dL_measure_13

set_option maxHeartbeats 4000000 in
set_option maxRecDepth 100000 in
/-- the helper of sample -/
theorem c_L_sample (l : Launch) (hls : l.stackTraces = false) (G : ecG) (X : Nat → Prop) (M : ecM) (x : Nat) (a i : Int32) : vx_Met l yL_sample (ecWh yL_sample cL_sample 4 (Option.some FieldType.int) [(0, 6, 7, 26), (0, 6, 11, 44)]) (ecRm 8 4 40) (ecPc [.ref x, .int a, .int i] G (fun H => ecXs G X H ∧ EC G X M x H)) (ecEp (fun v H1 => v = some (.int (hv (thSam M a i) (M.2.1 4 (4 * cN a + cN i)) (-2500000) (-3000000) 0 0)) ∧ EC G X (if thSam M a i = 0 then M else M) x H1) X) (ecXc (fun _ => False)) 4 40 X := by
  refine ec_hmet (by decide) (Nat.le_of_ble_eq_true rfl) ?_
  intro p e s m below meth c hC hr hlocks htab hOk hpre ls hl
  have hK := hOk.1
  obtain ⟨hXs, hEC⟩ := hpre
  have hS : va_S X s.heap s.heap [] := va_S.rf
  have hAN : ∀ q, X q → ecN0 G ≤ q := hXs.1
  have hlab : ∃ fs, ecA G x (eO 5 fs) s.heap := by obtain ⟨tg9, ad9, hx9, hw9⟩ := hEC; exact ⟨_, hx9 ▸ hw9.1.1⟩
  obtain ⟨fs9, hlab⟩ := hlab
  have hl : lv_has ls 4 [(0, .ref x), (1, .int a), (2, .int i)] := hl
  refine lv_aload_n hC.1 hC.2.1 dL_sample_0 rfl (lv_at hl 0 rfl) ?_
  refine lv_iload_n hC.1 hC.2.1 dL_sample_1 rfl (lv_at hl 1 rfl) ?_
  refine lv_iload_n hC.1 hC.2.1 dL_sample_2 rfl (lv_at hl 2 rfl) ?_
  refine ec_goXE1 (ec_xV hC (c_X5_sample l hls G X M x a i) kL_40 (hOk.at hS hAN) ⟨hXs, hEC⟩ (ec_rc hK hlab ⟨_, _, rfl⟩) hl.1 ⟨Nat.le_of_ble_eq_true rfl, Nat.le_of_ble_eq_true rfl⟩ rfl (Nat.le_of_ble_eq_true rfl) dL_sample_3 ⟨Nat.le_of_ble_eq_true rfl, Nat.le_of_ble_eq_true rfl⟩) hS (fun _ h => h) (fun E9 ce9 q9 H locs hx hk9 hS h1 h2 h3 => ?_) (fun H locs hp hzs hk1 hS => ?_)
  · simp only [List.mem_cons, Prod.mk.injEq, List.not_mem_nil, or_false] at hx
    rcases hx with ⟨rfl, hT⟩ | ⟨rfl, hT⟩
    · have hpas : ∀ z ∈ ([] : List ExceptionTableEntry), z.catchType ≠ 0 ∧ ∃ nm : String, Cond.classLink RL z.catchType nm ∈ GW ∧ (eIX, nm) ∈ ecNc := (fun z hz => nomatch hz)
      refine ec_catch hC hK htab [] ⟨0, 6, 7, 26⟩ [⟨0, 6, 11, 44⟩] rfl hpas (by decide) (by decide) q366 (by decide) h1 h2 h3 ?_
      refine lv_astore_n (lv' := [(3, .ref q9), (0, .ref x), (1, .int a), (2, .int i)]) hC.1 hC.2.1 dL_sample_7 rfl hl (by decide) rfl (fun ls hl => ?_)
      refine lv_ldc hC.1 hC.2.1 hC.2.2.2.1 (hC.2.2.2.2 _ q399) dL_sample_8 ?_
      refine vx_ret ?_
      exact W.iret hC.1 hC.2.1 hr (fun t9 ht9 _ => ⟨_, rfl, by rw [ht9]; exact ⟨by rw [hT]; rfl, by rw [if_neg (by rw [hT]; decide)]; exact hEC.kp hk9⟩, hS.F ht9⟩) hS.2.2 dL_sample_10
    · have hpas : ∀ z ∈ ([⟨0, 6, 7, 26⟩] : List ExceptionTableEntry), z.catchType ≠ 0 ∧ ∃ nm : String, Cond.classLink RL z.catchType nm ∈ GW ∧ (eNS, nm) ∈ ecNc := (fun z hz => by
          simp only [List.mem_cons, List.not_mem_nil, or_false] at hz
          rcases hz with rfl
          · exact ⟨by decide, _, q366, by decide⟩)
      refine ec_catch hC hK htab [⟨0, 6, 7, 26⟩] ⟨0, 6, 11, 44⟩ [] rfl hpas (by decide) (by decide) q455 (by decide) h1 h2 h3 ?_
      refine lv_astore_n (lv' := [(3, .ref q9), (0, .ref x), (1, .int a), (2, .int i)]) hC.1 hC.2.1 dL_sample_11 rfl hl (by decide) rfl (fun ls hl => ?_)
      refine lv_ldc hC.1 hC.2.1 hC.2.2.2.1 (hC.2.2.2.2 _ q469) dL_sample_12 ?_
      refine vx_ret ?_
      exact W.iret hC.1 hC.2.1 hr (fun t9 ht9 _ => ⟨_, rfl, by rw [ht9]; exact ⟨by rw [hT]; rfl, by rw [if_neg (by rw [hT]; decide)]; exact hEC.kp hk9⟩, hS.F ht9⟩) hS.2.2 dL_sample_14
  · obtain ⟨hT, hEC⟩ := hp
    refine vx_ret ?_
    exact W.iret hC.1 hC.2.1 hr (fun t9 ht9 _ => ⟨_, rfl, by rw [ht9]; exact ⟨by rw [hT]; rfl, by rw [if_pos hT]; exact hEC⟩, hS.F ht9⟩) hS.2.2 dL_sample_6

set_option maxHeartbeats 4000000 in
set_option maxRecDepth 100000 in
/-- the helper of age -/
theorem c_L_age (l : Launch) (hls : l.stackTraces = false) (G : ecG) (X : Nat → Prop) (M : ecM) (x : Nat) (a : Int32) : vx_Met l yL_age (ecWh yL_age cL_age 3 (Option.some FieldType.int) [(0, 5, 6, 26)]) (ecRm 8 4 40) (ecPc [.ref x, .int a] G (fun H => ecXs G X H ∧ EC G X M x H)) (ecEp (fun v H1 => v = some (.int (hv (thA M a) (ageM M (cN a)) (-2500000) 0 0 0)) ∧ EC G X (if thA M a = 0 then M else M) x H1) X) (ecXc (fun _ => False)) 4 40 X := by
  refine ec_hmet (by decide) (Nat.le_of_ble_eq_true rfl) ?_
  intro p e s m below meth c hC hr hlocks htab hOk hpre ls hl
  have hK := hOk.1
  obtain ⟨hXs, hEC⟩ := hpre
  have hS : va_S X s.heap s.heap [] := va_S.rf
  have hAN : ∀ q, X q → ecN0 G ≤ q := hXs.1
  have hlab : ∃ fs, ecA G x (eO 5 fs) s.heap := by obtain ⟨tg9, ad9, hx9, hw9⟩ := hEC; exact ⟨_, hx9 ▸ hw9.1.1⟩
  obtain ⟨fs9, hlab⟩ := hlab
  have hl : lv_has ls 3 [(0, .ref x), (1, .int a)] := hl
  refine lv_aload_n hC.1 hC.2.1 dL_age_0 rfl (lv_at hl 0 rfl) ?_
  refine lv_iload_n hC.1 hC.2.1 dL_age_1 rfl (lv_at hl 1 rfl) ?_
  refine ec_goXE1 (ec_xV hC (c_X5_age l hls G X M x a) kL_47 (hOk.at hS hAN) ⟨hXs, hEC⟩ (ec_rc hK hlab ⟨_, _, rfl⟩) hl.1 ⟨Nat.le_of_ble_eq_true rfl, Nat.le_of_ble_eq_true rfl⟩ rfl (Nat.le_of_ble_eq_true rfl) dL_age_2 ⟨Nat.le_of_ble_eq_true rfl, Nat.le_of_ble_eq_true rfl⟩) hS (fun _ h => h) (fun E9 ce9 q9 H locs hx hk9 hS h1 h2 h3 => ?_) (fun H locs hp hzs hk1 hS => ?_)
  · simp only [List.mem_cons, Prod.mk.injEq, List.not_mem_nil, or_false] at hx
    rcases hx with ⟨rfl, hT⟩
    · have hpas : ∀ z ∈ ([] : List ExceptionTableEntry), z.catchType ≠ 0 ∧ ∃ nm : String, Cond.classLink RL z.catchType nm ∈ GW ∧ (eIX, nm) ∈ ecNc := (fun z hz => nomatch hz)
      refine ec_catch hC hK htab [] ⟨0, 5, 6, 26⟩ [] rfl hpas (by decide) (by decide) q366 (by decide) h1 h2 h3 ?_
      refine lv_astore_n (lv' := [(2, .ref q9), (0, .ref x), (1, .int a)]) hC.1 hC.2.1 dL_age_6 rfl hl (by decide) rfl (fun ls hl => ?_)
      refine lv_ldc hC.1 hC.2.1 hC.2.2.2.1 (hC.2.2.2.2 _ q399) dL_age_7 ?_
      refine vx_ret ?_
      exact W.iret hC.1 hC.2.1 hr (fun t9 ht9 _ => ⟨_, rfl, by rw [ht9]; exact ⟨by rw [hT]; rfl, by rw [if_neg (by rw [hT]; decide)]; exact hEC.kp hk9⟩, hS.F ht9⟩) hS.2.2 dL_age_9
  · obtain ⟨hT, hEC⟩ := hp
    refine vx_ret ?_
    exact W.iret hC.1 hC.2.1 hr (fun t9 ht9 _ => ⟨_, rfl, by rw [ht9]; exact ⟨by rw [hT]; rfl, by rw [if_pos hT]; exact hEC⟩, hS.F ht9⟩) hS.2.2 dL_age_5

set_option maxHeartbeats 4000000 in
set_option maxRecDepth 100000 in
/-- the helper of latest -/
theorem c_L_latest (l : Launch) (hls : l.stackTraces = false) (G : ecG) (X : Nat → Prop) (M : ecM) (x : Nat) (r pl c0 s0 : Int32) (o : Bool) : vx_Met l yL_latest (ecWh yL_latest cL_latest 7 (Option.some FieldType.int) [(0, 11, 12, 26), (0, 11, 17, 29), (0, 11, 22, 44)]) (ecRm 10 8 150) (ecPc [.ref x, .int r, .int pl, .int c0, .int s0, .int (bI o)] G (fun H => ecXs G X H ∧ EC G X M x H)) (ecEp (fun v H1 => v = some (.int (hv (thLat M r pl c0 s0 o) (nI ((latN M (cN r) pl (cdN c0 s0 o) (mnA M)).getD 0)) (-2500000) (-2000000) (-3000000) 0)) ∧ EC G X (if thLat M r pl c0 s0 o = 0 then M else M) x H1) X) (ecXc (fun _ => False)) 8 150 X := by
  refine ec_hmet (by decide) (Nat.le_of_ble_eq_true rfl) ?_
  intro p e s m below meth c hC hr hlocks htab hOk hpre ls hl
  have hK := hOk.1
  obtain ⟨hXs, hEC⟩ := hpre
  have hS : va_S X s.heap s.heap [] := va_S.rf
  have hAN : ∀ q, X q → ecN0 G ≤ q := hXs.1
  have hlab : ∃ fs, ecA G x (eO 5 fs) s.heap := by obtain ⟨tg9, ad9, hx9, hw9⟩ := hEC; exact ⟨_, hx9 ▸ hw9.1.1⟩
  obtain ⟨fs9, hlab⟩ := hlab
  have hl : lv_has ls 7 [(0, .ref x), (1, .int r), (2, .int pl), (3, .int c0), (4, .int s0), (5, .int (bI o))] := hl
  refine lv_aload_n hC.1 hC.2.1 dL_latest_0 rfl (lv_at hl 0 rfl) ?_
  refine lv_iload_n hC.1 hC.2.1 dL_latest_1 rfl (lv_at hl 1 rfl) ?_
  refine lv_iload_n hC.1 hC.2.1 dL_latest_2 rfl (lv_at hl 2 rfl) ?_
  refine lv_iload_n hC.1 hC.2.1 dL_latest_3 rfl (lv_at hl 3 rfl) ?_
  refine lv_iload hC.1 hC.2.1 dL_latest_4 (lv_at hl 4 rfl) ?_
  refine lv_iload hC.1 hC.2.1 dL_latest_6 (lv_at hl 5 rfl) ?_
  refine ec_goXE1 (ec_xV hC (c_X5_latest l hls G X M x r pl c0 s0 o) kL_50 (hOk.at hS hAN) ⟨hXs, hEC⟩ (ec_rc hK hlab ⟨_, _, rfl⟩) hl.1 ⟨Nat.le_of_ble_eq_true rfl, Nat.le_of_ble_eq_true rfl⟩ rfl (Nat.le_of_ble_eq_true rfl) dL_latest_8 ⟨Nat.le_of_ble_eq_true rfl, Nat.le_of_ble_eq_true rfl⟩) hS (fun _ h => h) (fun E9 ce9 q9 H locs hx hk9 hS h1 h2 h3 => ?_) (fun H locs hp hzs hk1 hS => ?_)
  · simp only [List.mem_cons, Prod.mk.injEq, List.not_mem_nil, or_false] at hx
    rcases hx with ⟨rfl, hT⟩ | ⟨rfl, hT⟩ | ⟨rfl, hT⟩
    · have hpas : ∀ z ∈ ([] : List ExceptionTableEntry), z.catchType ≠ 0 ∧ ∃ nm : String, Cond.classLink RL z.catchType nm ∈ GW ∧ (eIX, nm) ∈ ecNc := (fun z hz => nomatch hz)
      refine ec_catch hC hK htab [] ⟨0, 11, 12, 26⟩ [⟨0, 11, 17, 29⟩, ⟨0, 11, 22, 44⟩] rfl hpas (by decide) (by decide) q366 (by decide) h1 h2 h3 ?_
      refine lv_astore (lv' := [(6, .ref q9), (0, .ref x), (1, .int r), (2, .int pl), (3, .int c0), (4, .int s0), (5, .int (bI o))]) hC.1 hC.2.1 dL_latest_12 hl (by decide) rfl (fun ls hl => ?_)
      refine lv_ldc hC.1 hC.2.1 hC.2.2.2.1 (hC.2.2.2.2 _ q399) dL_latest_14 ?_
      refine vx_ret ?_
      exact W.iret hC.1 hC.2.1 hr (fun t9 ht9 _ => ⟨_, rfl, by rw [ht9]; exact ⟨by rw [hT]; rfl, by rw [if_neg (by rw [hT]; decide)]; exact hEC.kp hk9⟩, hS.F ht9⟩) hS.2.2 dL_latest_16
    · have hpas : ∀ z ∈ ([⟨0, 11, 12, 26⟩] : List ExceptionTableEntry), z.catchType ≠ 0 ∧ ∃ nm : String, Cond.classLink RL z.catchType nm ∈ GW ∧ (eAG, nm) ∈ ecNc := (fun z hz => by
          simp only [List.mem_cons, List.not_mem_nil, or_false] at hz
          rcases hz with rfl
          · exact ⟨by decide, _, q366, by decide⟩)
      refine ec_catch hC hK htab [⟨0, 11, 12, 26⟩] ⟨0, 11, 17, 29⟩ [⟨0, 11, 22, 44⟩] rfl hpas (by decide) (by decide) q367 (by decide) h1 h2 h3 ?_
      refine lv_astore (lv' := [(6, .ref q9), (0, .ref x), (1, .int r), (2, .int pl), (3, .int c0), (4, .int s0), (5, .int (bI o))]) hC.1 hC.2.1 dL_latest_17 hl (by decide) rfl (fun ls hl => ?_)
      refine lv_ldc hC.1 hC.2.1 hC.2.2.2.1 (hC.2.2.2.2 _ q400) dL_latest_19 ?_
      refine vx_ret ?_
      exact W.iret hC.1 hC.2.1 hr (fun t9 ht9 _ => ⟨_, rfl, by rw [ht9]; exact ⟨by rw [hT]; rfl, by rw [if_neg (by rw [hT]; decide)]; exact hEC.kp hk9⟩, hS.F ht9⟩) hS.2.2 dL_latest_21
    · have hpas : ∀ z ∈ ([⟨0, 11, 12, 26⟩, ⟨0, 11, 17, 29⟩] : List ExceptionTableEntry), z.catchType ≠ 0 ∧ ∃ nm : String, Cond.classLink RL z.catchType nm ∈ GW ∧ (eNS, nm) ∈ ecNc := (fun z hz => by
          simp only [List.mem_cons, List.not_mem_nil, or_false] at hz
          rcases hz with rfl | rfl
          · exact ⟨by decide, _, q366, by decide⟩
          · exact ⟨by decide, _, q367, by decide⟩)
      refine ec_catch hC hK htab [⟨0, 11, 12, 26⟩, ⟨0, 11, 17, 29⟩] ⟨0, 11, 22, 44⟩ [] rfl hpas (by decide) (by decide) q455 (by decide) h1 h2 h3 ?_
      refine lv_astore (lv' := [(6, .ref q9), (0, .ref x), (1, .int r), (2, .int pl), (3, .int c0), (4, .int s0), (5, .int (bI o))]) hC.1 hC.2.1 dL_latest_22 hl (by decide) rfl (fun ls hl => ?_)
      refine lv_ldc hC.1 hC.2.1 hC.2.2.2.1 (hC.2.2.2.2 _ q469) dL_latest_24 ?_
      refine vx_ret ?_
      exact W.iret hC.1 hC.2.1 hr (fun t9 ht9 _ => ⟨_, rfl, by rw [ht9]; exact ⟨by rw [hT]; rfl, by rw [if_neg (by rw [hT]; decide)]; exact hEC.kp hk9⟩, hS.F ht9⟩) hS.2.2 dL_latest_26
  · obtain ⟨hT, hEC⟩ := hp
    refine vx_ret ?_
    exact W.iret hC.1 hC.2.1 hr (fun t9 ht9 _ => ⟨_, rfl, by rw [ht9]; exact ⟨by rw [hT]; rfl, by rw [if_pos hT]; exact hEC⟩, hS.F ht9⟩) hS.2.2 dL_latest_11

set_option maxHeartbeats 4000000 in
set_option maxRecDepth 100000 in
/-- the helper of makeFilter -/
theorem c_L_makeFilter (l : Launch) (hls : l.stackTraces = false) (G : ecG) (X : Nat → Prop) (M : ecM) (x : Nat) (a : Int32) : vx_Met l yL_makeFilter (ecWh yL_makeFilter cL_makeFilter 3 (Option.some FieldType.int) [(0, 5, 6, 26), (0, 5, 10, 19)]) (ecRm 10 8 150) (ecPc [.ref x, .int a] G (fun H => ecXs G X H ∧ EC G X M x H)) (ecEp (fun v H1 => v = some (.int (hv (thMak M a) (nI (mnF M)) (-2500000) (-1000000) 0 0)) ∧ EC G X (if thMak M a = 0 then filM M (cN a) else M) x H1) X) (ecXc (fun _ => False)) 8 150 X := by
  refine ec_hmet (by decide) (Nat.le_of_ble_eq_true rfl) ?_
  intro p e s m below meth c hC hr hlocks htab hOk hpre ls hl
  have hK := hOk.1
  obtain ⟨hXs, hEC⟩ := hpre
  have hS : va_S X s.heap s.heap [] := va_S.rf
  have hAN : ∀ q, X q → ecN0 G ≤ q := hXs.1
  have hlab : ∃ fs, ecA G x (eO 5 fs) s.heap := by obtain ⟨tg9, ad9, hx9, hw9⟩ := hEC; exact ⟨_, hx9 ▸ hw9.1.1⟩
  obtain ⟨fs9, hlab⟩ := hlab
  have hl : lv_has ls 3 [(0, .ref x), (1, .int a)] := hl
  refine lv_aload_n hC.1 hC.2.1 dL_makeFilter_0 rfl (lv_at hl 0 rfl) ?_
  refine lv_iload_n hC.1 hC.2.1 dL_makeFilter_1 rfl (lv_at hl 1 rfl) ?_
  refine ec_goXE1 (ec_xV hC (c_X5_makeFilter l hls G X M x a) kL_57 (hOk.at hS hAN) ⟨hXs, hEC⟩ (ec_rc hK hlab ⟨_, _, rfl⟩) hl.1 ⟨Nat.le_of_ble_eq_true rfl, Nat.le_of_ble_eq_true rfl⟩ rfl (Nat.le_of_ble_eq_true rfl) dL_makeFilter_2 ⟨Nat.le_of_ble_eq_true rfl, Nat.le_of_ble_eq_true rfl⟩) hS (fun _ h => h) (fun E9 ce9 q9 H locs hx hk9 hS h1 h2 h3 => ?_) (fun H locs hp hzs hk1 hS => ?_)
  · simp only [List.mem_cons, Prod.mk.injEq, List.not_mem_nil, or_false] at hx
    rcases hx with ⟨rfl, hT⟩ | ⟨rfl, hT⟩
    · have hpas : ∀ z ∈ ([] : List ExceptionTableEntry), z.catchType ≠ 0 ∧ ∃ nm : String, Cond.classLink RL z.catchType nm ∈ GW ∧ (eIX, nm) ∈ ecNc := (fun z hz => nomatch hz)
      refine ec_catch hC hK htab [] ⟨0, 5, 6, 26⟩ [⟨0, 5, 10, 19⟩] rfl hpas (by decide) (by decide) q366 (by decide) h1 h2 h3 ?_
      refine lv_astore_n (lv' := [(2, .ref q9), (0, .ref x), (1, .int a)]) hC.1 hC.2.1 dL_makeFilter_6 rfl hl (by decide) rfl (fun ls hl => ?_)
      refine lv_ldc hC.1 hC.2.1 hC.2.2.2.1 (hC.2.2.2.2 _ q399) dL_makeFilter_7 ?_
      refine vx_ret ?_
      exact W.iret hC.1 hC.2.1 hr (fun t9 ht9 _ => ⟨_, rfl, by rw [ht9]; exact ⟨by rw [hT]; rfl, by rw [if_neg (by rw [hT]; decide)]; exact hEC.kp hk9⟩, hS.F ht9⟩) hS.2.2 dL_makeFilter_9
    · have hpas : ∀ z ∈ ([⟨0, 5, 6, 26⟩] : List ExceptionTableEntry), z.catchType ≠ 0 ∧ ∃ nm : String, Cond.classLink RL z.catchType nm ∈ GW ∧ (eIS, nm) ∈ ecNc := (fun z hz => by
          simp only [List.mem_cons, List.not_mem_nil, or_false] at hz
          rcases hz with rfl
          · exact ⟨by decide, _, q366, by decide⟩)
      refine ec_catch hC hK htab [⟨0, 5, 6, 26⟩] ⟨0, 5, 10, 19⟩ [] rfl hpas (by decide) (by decide) q247 (by decide) h1 h2 h3 ?_
      refine lv_astore_n (lv' := [(2, .ref q9), (0, .ref x), (1, .int a)]) hC.1 hC.2.1 dL_makeFilter_10 rfl hl (by decide) rfl (fun ls hl => ?_)
      refine lv_ldc hC.1 hC.2.1 hC.2.2.2.1 (hC.2.2.2.2 _ q362) dL_makeFilter_11 ?_
      refine vx_ret ?_
      exact W.iret hC.1 hC.2.1 hr (fun t9 ht9 _ => ⟨_, rfl, by rw [ht9]; exact ⟨by rw [hT]; rfl, by rw [if_neg (by rw [hT]; decide)]; exact hEC.kp hk9⟩, hS.F ht9⟩) hS.2.2 dL_makeFilter_13
  · obtain ⟨hT, hEC⟩ := hp
    refine vx_ret ?_
    exact W.iret hC.1 hC.2.1 hr (fun t9 ht9 _ => ⟨_, rfl, by rw [ht9]; exact ⟨by rw [hT]; rfl, by rw [if_pos hT]; exact hEC⟩, hS.F ht9⟩) hS.2.2 dL_makeFilter_5

set_option maxHeartbeats 4000000 in
set_option maxRecDepth 100000 in
/-- the helper of bar -/
theorem c_L_bar (l : Launch) (hls : l.stackTraces = false) (G : ecG) (X : Nat → Prop) (M : ecM) (x : Nat) (f : Int32) : vx_Met l yL_bar (ecWh yL_bar cL_bar 3 (Option.some FieldType.int) [(0, 5, 6, 26)]) (ecRm 8 4 40) (ecPc [.ref x, .int f] G (fun H => ecXs G X H ∧ EC G X M x H)) (ecEp (fun v H1 => v = some (.int (hv (thF M f) (barM M (cN f)) (-2500000) 0 0 0)) ∧ EC G X (if thF M f = 0 then M else M) x H1) X) (ecXc (fun _ => False)) 4 40 X := by
  refine ec_hmet (by decide) (Nat.le_of_ble_eq_true rfl) ?_
  intro p e s m below meth c hC hr hlocks htab hOk hpre ls hl
  have hK := hOk.1
  obtain ⟨hXs, hEC⟩ := hpre
  have hS : va_S X s.heap s.heap [] := va_S.rf
  have hAN : ∀ q, X q → ecN0 G ≤ q := hXs.1
  have hlab : ∃ fs, ecA G x (eO 5 fs) s.heap := by obtain ⟨tg9, ad9, hx9, hw9⟩ := hEC; exact ⟨_, hx9 ▸ hw9.1.1⟩
  obtain ⟨fs9, hlab⟩ := hlab
  have hl : lv_has ls 3 [(0, .ref x), (1, .int f)] := hl
  refine lv_aload_n hC.1 hC.2.1 dL_bar_0 rfl (lv_at hl 0 rfl) ?_
  refine lv_iload_n hC.1 hC.2.1 dL_bar_1 rfl (lv_at hl 1 rfl) ?_
  refine ec_goXE1 (ec_xV hC (c_X5_bar l hls G X M x f) kL_68 (hOk.at hS hAN) ⟨hXs, hEC⟩ (ec_rc hK hlab ⟨_, _, rfl⟩) hl.1 ⟨Nat.le_of_ble_eq_true rfl, Nat.le_of_ble_eq_true rfl⟩ rfl (Nat.le_of_ble_eq_true rfl) dL_bar_2 ⟨Nat.le_of_ble_eq_true rfl, Nat.le_of_ble_eq_true rfl⟩) hS (fun _ h => h) (fun E9 ce9 q9 H locs hx hk9 hS h1 h2 h3 => ?_) (fun H locs hp hzs hk1 hS => ?_)
  · simp only [List.mem_cons, Prod.mk.injEq, List.not_mem_nil, or_false] at hx
    rcases hx with ⟨rfl, hT⟩
    · have hpas : ∀ z ∈ ([] : List ExceptionTableEntry), z.catchType ≠ 0 ∧ ∃ nm : String, Cond.classLink RL z.catchType nm ∈ GW ∧ (eIX, nm) ∈ ecNc := (fun z hz => nomatch hz)
      refine ec_catch hC hK htab [] ⟨0, 5, 6, 26⟩ [] rfl hpas (by decide) (by decide) q366 (by decide) h1 h2 h3 ?_
      refine lv_astore_n (lv' := [(2, .ref q9), (0, .ref x), (1, .int f)]) hC.1 hC.2.1 dL_bar_6 rfl hl (by decide) rfl (fun ls hl => ?_)
      refine lv_ldc hC.1 hC.2.1 hC.2.2.2.1 (hC.2.2.2.2 _ q399) dL_bar_7 ?_
      refine vx_ret ?_
      exact W.iret hC.1 hC.2.1 hr (fun t9 ht9 _ => ⟨_, rfl, by rw [ht9]; exact ⟨by rw [hT]; rfl, by rw [if_neg (by rw [hT]; decide)]; exact hEC.kp hk9⟩, hS.F ht9⟩) hS.2.2 dL_bar_9
  · obtain ⟨hT, hEC⟩ := hp
    refine vx_ret ?_
    exact W.iret hC.1 hC.2.1 hr (fun t9 ht9 _ => ⟨_, rfl, by rw [ht9]; exact ⟨by rw [hT]; rfl, by rw [if_pos hT]; exact hEC⟩, hS.F ht9⟩) hS.2.2 dL_bar_5

set_option maxHeartbeats 4000000 in
set_option maxRecDepth 100000 in
/-- the helper of use -/
theorem c_L_use (l : Launch) (hls : l.stackTraces = false) (G : ecG) (X : Nat → Prop) (M : ecM) (x : Nat) (f y : Int32) : vx_Met l yL_use (ecWh yL_use cL_use 4 (Option.some FieldType.long) [(0, 6, 7, 26), (0, 6, 12, 29), (0, 6, 17, 77)]) (ecRm 10 8 150) (ecPc [.ref x, .int f, .int y] G (fun H => ecXs G X H ∧ EC G X M x H)) (ecEp (fun v H1 => v = some (.long (hv (thUse M f y) (gvS (tpA M (cN f)) (psU (psA M (cN f)) y) 6) (-2500000) (-2000000) (-1500000) 0)) ∧ EC G X (if thUse M f y = 0 then useM M (cN f) y else M) x H1) X) (ecXc (fun _ => False)) 8 150 X := by
  refine ec_hmet (by decide) (Nat.le_of_ble_eq_true rfl) ?_
  intro p e s m below meth c hC hr hlocks htab hOk hpre ls hl
  have hK := hOk.1
  obtain ⟨hXs, hEC⟩ := hpre
  have hS : va_S X s.heap s.heap [] := va_S.rf
  have hAN : ∀ q, X q → ecN0 G ≤ q := hXs.1
  have hlab : ∃ fs, ecA G x (eO 5 fs) s.heap := by obtain ⟨tg9, ad9, hx9, hw9⟩ := hEC; exact ⟨_, hx9 ▸ hw9.1.1⟩
  obtain ⟨fs9, hlab⟩ := hlab
  have hl : lv_has ls 4 [(0, .ref x), (1, .int f), (2, .int y)] := hl
  refine lv_aload_n hC.1 hC.2.1 dL_use_0 rfl (lv_at hl 0 rfl) ?_
  refine lv_iload_n hC.1 hC.2.1 dL_use_1 rfl (lv_at hl 1 rfl) ?_
  refine lv_iload_n hC.1 hC.2.1 dL_use_2 rfl (lv_at hl 2 rfl) ?_
  refine ec_goXE1 (ec_xV hC (c_X5_use l hls G X M x f y) kL_72 (hOk.at hS hAN) ⟨hXs, hEC⟩ (ec_rc hK hlab ⟨_, _, rfl⟩) hl.1 ⟨Nat.le_of_ble_eq_true rfl, Nat.le_of_ble_eq_true rfl⟩ rfl (Nat.le_of_ble_eq_true rfl) dL_use_3 ⟨Nat.le_of_ble_eq_true rfl, Nat.le_of_ble_eq_true rfl⟩) hS (fun _ h => h) (fun E9 ce9 q9 H locs hx hk9 hS h1 h2 h3 => ?_) (fun H locs hp hzs hk1 hS => ?_)
  · simp only [List.mem_cons, Prod.mk.injEq, List.not_mem_nil, or_false] at hx
    rcases hx with ⟨rfl, hT⟩ | ⟨rfl, hT⟩ | ⟨rfl, hT⟩
    · have hpas : ∀ z ∈ ([] : List ExceptionTableEntry), z.catchType ≠ 0 ∧ ∃ nm : String, Cond.classLink RL z.catchType nm ∈ GW ∧ (eIX, nm) ∈ ecNc := (fun z hz => nomatch hz)
      refine ec_catch hC hK htab [] ⟨0, 6, 7, 26⟩ [⟨0, 6, 12, 29⟩, ⟨0, 6, 17, 77⟩] rfl hpas (by decide) (by decide) q366 (by decide) h1 h2 h3 ?_
      refine lv_astore_n (lv' := [(3, .ref q9), (0, .ref x), (1, .int f), (2, .int y)]) hC.1 hC.2.1 dL_use_7 rfl hl (by decide) rfl (fun ls hl => ?_)
      refine lv_ldc2 hC.1 hC.2.1 hC.2.2.2.1 (hC.2.2.2.2 _ q548) dL_use_8 ?_
      refine vx_ret ?_
      exact W.lret hC.1 hC.2.1 hr (fun t9 ht9 _ => ⟨_, rfl, by rw [ht9]; exact ⟨by rw [hT]; rfl, by rw [if_neg (by rw [hT]; decide)]; exact hEC.kp hk9⟩, hS.F ht9⟩) hS.2.2 dL_use_11
    · have hpas : ∀ z ∈ ([⟨0, 6, 7, 26⟩] : List ExceptionTableEntry), z.catchType ≠ 0 ∧ ∃ nm : String, Cond.classLink RL z.catchType nm ∈ GW ∧ (eAG, nm) ∈ ecNc := (fun z hz => by
          simp only [List.mem_cons, List.not_mem_nil, or_false] at hz
          rcases hz with rfl
          · exact ⟨by decide, _, q366, by decide⟩)
      refine ec_catch hC hK htab [⟨0, 6, 7, 26⟩] ⟨0, 6, 12, 29⟩ [⟨0, 6, 17, 77⟩] rfl hpas (by decide) (by decide) q367 (by decide) h1 h2 h3 ?_
      refine lv_astore_n (lv' := [(3, .ref q9), (0, .ref x), (1, .int f), (2, .int y)]) hC.1 hC.2.1 dL_use_12 rfl hl (by decide) rfl (fun ls hl => ?_)
      refine lv_ldc2 hC.1 hC.2.1 hC.2.2.2.1 (hC.2.2.2.2 _ q549) dL_use_13 ?_
      refine vx_ret ?_
      exact W.lret hC.1 hC.2.1 hr (fun t9 ht9 _ => ⟨_, rfl, by rw [ht9]; exact ⟨by rw [hT]; rfl, by rw [if_neg (by rw [hT]; decide)]; exact hEC.kp hk9⟩, hS.F ht9⟩) hS.2.2 dL_use_16
    · have hpas : ∀ z ∈ ([⟨0, 6, 7, 26⟩, ⟨0, 6, 12, 29⟩] : List ExceptionTableEntry), z.catchType ≠ 0 ∧ ∃ nm : String, Cond.classLink RL z.catchType nm ∈ GW ∧ (eUO, nm) ∈ ecNc := (fun z hz => by
          simp only [List.mem_cons, List.not_mem_nil, or_false] at hz
          rcases hz with rfl | rfl
          · exact ⟨by decide, _, q366, by decide⟩
          · exact ⟨by decide, _, q367, by decide⟩)
      refine ec_catch hC hK htab [⟨0, 6, 7, 26⟩, ⟨0, 6, 12, 29⟩] ⟨0, 6, 17, 77⟩ [] rfl hpas (by decide) (by decide) q518 (by decide) h1 h2 h3 ?_
      refine lv_astore_n (lv' := [(3, .ref q9), (0, .ref x), (1, .int f), (2, .int y)]) hC.1 hC.2.1 dL_use_17 rfl hl (by decide) rfl (fun ls hl => ?_)
      refine lv_ldc2 hC.1 hC.2.1 hC.2.2.2.1 (hC.2.2.2.2 _ q550) dL_use_18 ?_
      refine vx_ret ?_
      exact W.lret hC.1 hC.2.1 hr (fun t9 ht9 _ => ⟨_, rfl, by rw [ht9]; exact ⟨by rw [hT]; rfl, by rw [if_neg (by rw [hT]; decide)]; exact hEC.kp hk9⟩, hS.F ht9⟩) hS.2.2 dL_use_21
  · obtain ⟨hT, hEC⟩ := hp
    refine vx_ret ?_
    exact W.lret hC.1 hC.2.1 hr (fun t9 ht9 _ => ⟨_, rfl, by rw [ht9]; exact ⟨by rw [hT]; rfl, by rw [if_pos hT]; exact hEC⟩, hS.F ht9⟩) hS.2.2 dL_use_6

set_option maxHeartbeats 4000000 in
set_option maxRecDepth 100000 in
/-- the helper of setLimit -/
theorem c_L_setLimit (l : Launch) (hls : l.stackTraces = false) (G : ecG) (X : Nat → Prop) (M : ecM) (x : Nat) (a : Int32) : vx_Met l yL_setLimit (ecWh yL_setLimit cL_setLimit 3 (Option.some FieldType.int) [(0, 5, 6, 29)]) (ecRm 10 8 150) (ecPc [.ref x, .int a] G (fun H => ecXs G X H ∧ EC G X M x H)) (ecEp (fun v H1 => v = some (.int (hv (thLim a) (mlm M) (-2000000) 0 0 0)) ∧ EC G X (if thLim a = 0 then setI M 9 1 a else M) x H1) X) (ecXc (fun _ => False)) 8 150 X := by
  refine ec_hmet (by decide) (Nat.le_of_ble_eq_true rfl) ?_
  intro p e s m below meth c hC hr hlocks htab hOk hpre ls hl
  have hK := hOk.1
  obtain ⟨hXs, hEC⟩ := hpre
  have hS : va_S X s.heap s.heap [] := va_S.rf
  have hAN : ∀ q, X q → ecN0 G ≤ q := hXs.1
  have hlab : ∃ fs, ecA G x (eO 5 fs) s.heap := by obtain ⟨tg9, ad9, hx9, hw9⟩ := hEC; exact ⟨_, hx9 ▸ hw9.1.1⟩
  obtain ⟨fs9, hlab⟩ := hlab
  have hl : lv_has ls 3 [(0, .ref x), (1, .int a)] := hl
  refine lv_aload_n hC.1 hC.2.1 dL_setLimit_0 rfl (lv_at hl 0 rfl) ?_
  refine lv_iload_n hC.1 hC.2.1 dL_setLimit_1 rfl (lv_at hl 1 rfl) ?_
  refine ec_goXE1 (ec_xV hC (c_X5_setLimit l hls G X M x a) kL_91 (hOk.at hS hAN) ⟨hXs, hEC⟩ (ec_rc hK hlab ⟨_, _, rfl⟩) hl.1 ⟨Nat.le_of_ble_eq_true rfl, Nat.le_of_ble_eq_true rfl⟩ rfl (Nat.le_of_ble_eq_true rfl) dL_setLimit_2 ⟨Nat.le_of_ble_eq_true rfl, Nat.le_of_ble_eq_true rfl⟩) hS (fun _ h => h) (fun E9 ce9 q9 H locs hx hk9 hS h1 h2 h3 => ?_) (fun H locs hp hzs hk1 hS => ?_)
  · simp only [List.mem_cons, Prod.mk.injEq, List.not_mem_nil, or_false] at hx
    rcases hx with ⟨rfl, hT⟩
    · have hpas : ∀ z ∈ ([] : List ExceptionTableEntry), z.catchType ≠ 0 ∧ ∃ nm : String, Cond.classLink RL z.catchType nm ∈ GW ∧ (eAG, nm) ∈ ecNc := (fun z hz => nomatch hz)
      refine ec_catch hC hK htab [] ⟨0, 5, 6, 29⟩ [] rfl hpas (by decide) (by decide) q367 (by decide) h1 h2 h3 ?_
      refine lv_astore_n (lv' := [(2, .ref q9), (0, .ref x), (1, .int a)]) hC.1 hC.2.1 dL_setLimit_6 rfl hl (by decide) rfl (fun ls hl => ?_)
      refine lv_ldc hC.1 hC.2.1 hC.2.2.2.1 (hC.2.2.2.2 _ q400) dL_setLimit_7 ?_
      refine vx_ret ?_
      exact W.iret hC.1 hC.2.1 hr (fun t9 ht9 _ => ⟨_, rfl, by rw [ht9]; exact ⟨by rw [hT]; rfl, by rw [if_neg (by rw [hT]; decide)]; exact hEC.kp hk9⟩, hS.F ht9⟩) hS.2.2 dL_setLimit_9
  · obtain ⟨hT, hEC⟩ := hp
    refine vx_ret ?_
    exact W.iret hC.1 hC.2.1 hr (fun t9 ht9 _ => ⟨_, rfl, by rw [ht9]; exact ⟨by rw [hT]; rfl, by rw [if_pos hT]; exact hEC⟩, hS.F ht9⟩) hS.2.2 dL_setLimit_5

set_option maxHeartbeats 4000000 in
set_option maxRecDepth 100000 in
/-- the helper of book -/
theorem c_L_book (l : Launch) (hls : l.stackTraces = false) (G : ecG) (X : Nat → Prop) (M : ecM) (x : Nat) (r c0 s0 : Int32) (o : Bool) (f2 l2 : Int32) : vx_Met l yL_book (ecWh yL_book cL_book 8 (Option.some FieldType.int) [(0, 13, 14, 26), (0, 13, 19, 29), (0, 13, 24, 77), (0, 13, 29, 19)]) (ecRm 10 8 150) (ecPc [.ref x, .int r, .int c0, .int s0, .int (bI o), .int f2, .int l2] G (fun H => ecXs G X H ∧ EC G X M x H)) (ecEp (fun v H1 => v = some (.int (hv (thBok M r c0 s0 o f2 l2) (nI (mnB M)) (-2500000) (-2000000) (-1500000) (-1000000))) ∧ EC G X (if thBok M r c0 s0 o f2 l2 = 0 then bokM M (cN r) (cdN c0 s0 o) f2 l2 else M) x H1) X) (ecXc (fun _ => False)) 8 150 X := by
  refine ec_hmet (by decide) (Nat.le_of_ble_eq_true rfl) ?_
  intro p e s m below meth c hC hr hlocks htab hOk hpre ls hl
  have hK := hOk.1
  obtain ⟨hXs, hEC⟩ := hpre
  have hS : va_S X s.heap s.heap [] := va_S.rf
  have hAN : ∀ q, X q → ecN0 G ≤ q := hXs.1
  have hlab : ∃ fs, ecA G x (eO 5 fs) s.heap := by obtain ⟨tg9, ad9, hx9, hw9⟩ := hEC; exact ⟨_, hx9 ▸ hw9.1.1⟩
  obtain ⟨fs9, hlab⟩ := hlab
  have hl : lv_has ls 8 [(0, .ref x), (1, .int r), (2, .int c0), (3, .int s0), (4, .int (bI o)), (5, .int f2), (6, .int l2)] := hl
  refine lv_aload_n hC.1 hC.2.1 dL_book_0 rfl (lv_at hl 0 rfl) ?_
  refine lv_iload_n hC.1 hC.2.1 dL_book_1 rfl (lv_at hl 1 rfl) ?_
  refine lv_iload_n hC.1 hC.2.1 dL_book_2 rfl (lv_at hl 2 rfl) ?_
  refine lv_iload_n hC.1 hC.2.1 dL_book_3 rfl (lv_at hl 3 rfl) ?_
  refine lv_iload hC.1 hC.2.1 dL_book_4 (lv_at hl 4 rfl) ?_
  refine lv_iload hC.1 hC.2.1 dL_book_6 (lv_at hl 5 rfl) ?_
  refine lv_iload hC.1 hC.2.1 dL_book_8 (lv_at hl 6 rfl) ?_
  refine ec_goXE1 (ec_xV hC (c_X5_book l hls G X M x r c0 s0 o f2 l2) kL_94 (hOk.at hS hAN) ⟨hXs, hEC⟩ (ec_rc hK hlab ⟨_, _, rfl⟩) hl.1 ⟨Nat.le_of_ble_eq_true rfl, Nat.le_of_ble_eq_true rfl⟩ rfl (Nat.le_of_ble_eq_true rfl) dL_book_10 ⟨Nat.le_of_ble_eq_true rfl, Nat.le_of_ble_eq_true rfl⟩) hS (fun _ h => h) (fun E9 ce9 q9 H locs hx hk9 hS h1 h2 h3 => ?_) (fun H locs hp hzs hk1 hS => ?_)
  · simp only [List.mem_cons, Prod.mk.injEq, List.not_mem_nil, or_false] at hx
    rcases hx with ⟨rfl, hT⟩ | ⟨rfl, hT⟩ | ⟨rfl, hT⟩ | ⟨rfl, hT⟩
    · have hpas : ∀ z ∈ ([] : List ExceptionTableEntry), z.catchType ≠ 0 ∧ ∃ nm : String, Cond.classLink RL z.catchType nm ∈ GW ∧ (eIX, nm) ∈ ecNc := (fun z hz => nomatch hz)
      refine ec_catch hC hK htab [] ⟨0, 13, 14, 26⟩ [⟨0, 13, 19, 29⟩, ⟨0, 13, 24, 77⟩, ⟨0, 13, 29, 19⟩] rfl hpas (by decide) (by decide) q366 (by decide) h1 h2 h3 ?_
      refine lv_astore (lv' := [(7, .ref q9), (0, .ref x), (1, .int r), (2, .int c0), (3, .int s0), (4, .int (bI o)), (5, .int f2), (6, .int l2)]) hC.1 hC.2.1 dL_book_14 hl (by decide) rfl (fun ls hl => ?_)
      refine lv_ldc hC.1 hC.2.1 hC.2.2.2.1 (hC.2.2.2.2 _ q399) dL_book_16 ?_
      refine vx_ret ?_
      exact W.iret hC.1 hC.2.1 hr (fun t9 ht9 _ => ⟨_, rfl, by rw [ht9]; exact ⟨by rw [hT]; rfl, by rw [if_neg (by rw [hT]; decide)]; exact hEC.kp hk9⟩, hS.F ht9⟩) hS.2.2 dL_book_18
    · have hpas : ∀ z ∈ ([⟨0, 13, 14, 26⟩] : List ExceptionTableEntry), z.catchType ≠ 0 ∧ ∃ nm : String, Cond.classLink RL z.catchType nm ∈ GW ∧ (eAG, nm) ∈ ecNc := (fun z hz => by
          simp only [List.mem_cons, List.not_mem_nil, or_false] at hz
          rcases hz with rfl
          · exact ⟨by decide, _, q366, by decide⟩)
      refine ec_catch hC hK htab [⟨0, 13, 14, 26⟩] ⟨0, 13, 19, 29⟩ [⟨0, 13, 24, 77⟩, ⟨0, 13, 29, 19⟩] rfl hpas (by decide) (by decide) q367 (by decide) h1 h2 h3 ?_
      refine lv_astore (lv' := [(7, .ref q9), (0, .ref x), (1, .int r), (2, .int c0), (3, .int s0), (4, .int (bI o)), (5, .int f2), (6, .int l2)]) hC.1 hC.2.1 dL_book_19 hl (by decide) rfl (fun ls hl => ?_)
      refine lv_ldc hC.1 hC.2.1 hC.2.2.2.1 (hC.2.2.2.2 _ q400) dL_book_21 ?_
      refine vx_ret ?_
      exact W.iret hC.1 hC.2.1 hr (fun t9 ht9 _ => ⟨_, rfl, by rw [ht9]; exact ⟨by rw [hT]; rfl, by rw [if_neg (by rw [hT]; decide)]; exact hEC.kp hk9⟩, hS.F ht9⟩) hS.2.2 dL_book_23
    · have hpas : ∀ z ∈ ([⟨0, 13, 14, 26⟩, ⟨0, 13, 19, 29⟩] : List ExceptionTableEntry), z.catchType ≠ 0 ∧ ∃ nm : String, Cond.classLink RL z.catchType nm ∈ GW ∧ (eUO, nm) ∈ ecNc := (fun z hz => by
          simp only [List.mem_cons, List.not_mem_nil, or_false] at hz
          rcases hz with rfl | rfl
          · exact ⟨by decide, _, q366, by decide⟩
          · exact ⟨by decide, _, q367, by decide⟩)
      refine ec_catch hC hK htab [⟨0, 13, 14, 26⟩, ⟨0, 13, 19, 29⟩] ⟨0, 13, 24, 77⟩ [⟨0, 13, 29, 19⟩] rfl hpas (by decide) (by decide) q518 (by decide) h1 h2 h3 ?_
      refine lv_astore (lv' := [(7, .ref q9), (0, .ref x), (1, .int r), (2, .int c0), (3, .int s0), (4, .int (bI o)), (5, .int f2), (6, .int l2)]) hC.1 hC.2.1 dL_book_24 hl (by decide) rfl (fun ls hl => ?_)
      refine lv_ldc hC.1 hC.2.1 hC.2.2.2.1 (hC.2.2.2.2 _ q615) dL_book_26 ?_
      refine vx_ret ?_
      exact W.iret hC.1 hC.2.1 hr (fun t9 ht9 _ => ⟨_, rfl, by rw [ht9]; exact ⟨by rw [hT]; rfl, by rw [if_neg (by rw [hT]; decide)]; exact hEC.kp hk9⟩, hS.F ht9⟩) hS.2.2 dL_book_28
    · have hpas : ∀ z ∈ ([⟨0, 13, 14, 26⟩, ⟨0, 13, 19, 29⟩, ⟨0, 13, 24, 77⟩] : List ExceptionTableEntry), z.catchType ≠ 0 ∧ ∃ nm : String, Cond.classLink RL z.catchType nm ∈ GW ∧ (eIS, nm) ∈ ecNc := (fun z hz => by
          simp only [List.mem_cons, List.not_mem_nil, or_false] at hz
          rcases hz with rfl | rfl | rfl
          · exact ⟨by decide, _, q366, by decide⟩
          · exact ⟨by decide, _, q367, by decide⟩
          · exact ⟨by decide, _, q518, by decide⟩)
      refine ec_catch hC hK htab [⟨0, 13, 14, 26⟩, ⟨0, 13, 19, 29⟩, ⟨0, 13, 24, 77⟩] ⟨0, 13, 29, 19⟩ [] rfl hpas (by decide) (by decide) q247 (by decide) h1 h2 h3 ?_
      refine lv_astore (lv' := [(7, .ref q9), (0, .ref x), (1, .int r), (2, .int c0), (3, .int s0), (4, .int (bI o)), (5, .int f2), (6, .int l2)]) hC.1 hC.2.1 dL_book_29 hl (by decide) rfl (fun ls hl => ?_)
      refine lv_ldc hC.1 hC.2.1 hC.2.2.2.1 (hC.2.2.2.2 _ q362) dL_book_31 ?_
      refine vx_ret ?_
      exact W.iret hC.1 hC.2.1 hr (fun t9 ht9 _ => ⟨_, rfl, by rw [ht9]; exact ⟨by rw [hT]; rfl, by rw [if_neg (by rw [hT]; decide)]; exact hEC.kp hk9⟩, hS.F ht9⟩) hS.2.2 dL_book_33
  · obtain ⟨hT, hEC⟩ := hp
    refine vx_ret ?_
    exact W.iret hC.1 hC.2.1 hr (fun t9 ht9 _ => ⟨_, rfl, by rw [ht9]; exact ⟨by rw [hT]; rfl, by rw [if_pos hT]; exact hEC⟩, hS.F ht9⟩) hS.2.2 dL_book_13

set_option maxHeartbeats 4000000 in
set_option maxRecDepth 100000 in
/-- the helper of clash -/
theorem c_L_clash (l : Launch) (hls : l.stackTraces = false) (G : ecG) (X : Nat → Prop) (M : ecM) (x : Nat) (r c0 s0 : Int32) (o : Bool) (f2 l2 : Int32) : vx_Met l yL_clash (ecWh yL_clash cL_clash 8 (Option.some FieldType.int) [(0, 13, 14, 26), (0, 13, 19, 29), (0, 13, 24, 44)]) (ecRm 10 8 150) (ecPc [.ref x, .int r, .int c0, .int s0, .int (bI o), .int f2, .int l2] G (fun H => ecXs G X H ∧ EC G X M x H)) (ecEp (fun v H1 => v = some (.int (hv (thCla M r c0 s0 o f2 l2) (nI ((clM M (cN r) (cdN c0 s0 o) f2 l2).getD 0)) (-2500000) (-2000000) (-3000000) 0)) ∧ EC G X (if thCla M r c0 s0 o f2 l2 = 0 then M else M) x H1) X) (ecXc (fun _ => False)) 8 150 X := by
  refine ec_hmet (by decide) (Nat.le_of_ble_eq_true rfl) ?_
  intro p e s m below meth c hC hr hlocks htab hOk hpre ls hl
  have hK := hOk.1
  obtain ⟨hXs, hEC⟩ := hpre
  have hS : va_S X s.heap s.heap [] := va_S.rf
  have hAN : ∀ q, X q → ecN0 G ≤ q := hXs.1
  have hlab : ∃ fs, ecA G x (eO 5 fs) s.heap := by obtain ⟨tg9, ad9, hx9, hw9⟩ := hEC; exact ⟨_, hx9 ▸ hw9.1.1⟩
  obtain ⟨fs9, hlab⟩ := hlab
  have hl : lv_has ls 8 [(0, .ref x), (1, .int r), (2, .int c0), (3, .int s0), (4, .int (bI o)), (5, .int f2), (6, .int l2)] := hl
  refine lv_aload_n hC.1 hC.2.1 dL_clash_0 rfl (lv_at hl 0 rfl) ?_
  refine lv_iload_n hC.1 hC.2.1 dL_clash_1 rfl (lv_at hl 1 rfl) ?_
  refine lv_iload_n hC.1 hC.2.1 dL_clash_2 rfl (lv_at hl 2 rfl) ?_
  refine lv_iload_n hC.1 hC.2.1 dL_clash_3 rfl (lv_at hl 3 rfl) ?_
  refine lv_iload hC.1 hC.2.1 dL_clash_4 (lv_at hl 4 rfl) ?_
  refine lv_iload hC.1 hC.2.1 dL_clash_6 (lv_at hl 5 rfl) ?_
  refine lv_iload hC.1 hC.2.1 dL_clash_8 (lv_at hl 6 rfl) ?_
  refine ec_goXE1 (ec_xV hC (c_X5_clash l hls G X M x r c0 s0 o f2 l2) kL_99 (hOk.at hS hAN) ⟨hXs, hEC⟩ (ec_rc hK hlab ⟨_, _, rfl⟩) hl.1 ⟨Nat.le_of_ble_eq_true rfl, Nat.le_of_ble_eq_true rfl⟩ rfl (Nat.le_of_ble_eq_true rfl) dL_clash_10 ⟨Nat.le_of_ble_eq_true rfl, Nat.le_of_ble_eq_true rfl⟩) hS (fun _ h => h) (fun E9 ce9 q9 H locs hx hk9 hS h1 h2 h3 => ?_) (fun H locs hp hzs hk1 hS => ?_)
  · simp only [List.mem_cons, Prod.mk.injEq, List.not_mem_nil, or_false] at hx
    rcases hx with ⟨rfl, hT⟩ | ⟨rfl, hT⟩ | ⟨rfl, hT⟩
    · have hpas : ∀ z ∈ ([] : List ExceptionTableEntry), z.catchType ≠ 0 ∧ ∃ nm : String, Cond.classLink RL z.catchType nm ∈ GW ∧ (eIX, nm) ∈ ecNc := (fun z hz => nomatch hz)
      refine ec_catch hC hK htab [] ⟨0, 13, 14, 26⟩ [⟨0, 13, 19, 29⟩, ⟨0, 13, 24, 44⟩] rfl hpas (by decide) (by decide) q366 (by decide) h1 h2 h3 ?_
      refine lv_astore (lv' := [(7, .ref q9), (0, .ref x), (1, .int r), (2, .int c0), (3, .int s0), (4, .int (bI o)), (5, .int f2), (6, .int l2)]) hC.1 hC.2.1 dL_clash_14 hl (by decide) rfl (fun ls hl => ?_)
      refine lv_ldc hC.1 hC.2.1 hC.2.2.2.1 (hC.2.2.2.2 _ q399) dL_clash_16 ?_
      refine vx_ret ?_
      exact W.iret hC.1 hC.2.1 hr (fun t9 ht9 _ => ⟨_, rfl, by rw [ht9]; exact ⟨by rw [hT]; rfl, by rw [if_neg (by rw [hT]; decide)]; exact hEC.kp hk9⟩, hS.F ht9⟩) hS.2.2 dL_clash_18
    · have hpas : ∀ z ∈ ([⟨0, 13, 14, 26⟩] : List ExceptionTableEntry), z.catchType ≠ 0 ∧ ∃ nm : String, Cond.classLink RL z.catchType nm ∈ GW ∧ (eAG, nm) ∈ ecNc := (fun z hz => by
          simp only [List.mem_cons, List.not_mem_nil, or_false] at hz
          rcases hz with rfl
          · exact ⟨by decide, _, q366, by decide⟩)
      refine ec_catch hC hK htab [⟨0, 13, 14, 26⟩] ⟨0, 13, 19, 29⟩ [⟨0, 13, 24, 44⟩] rfl hpas (by decide) (by decide) q367 (by decide) h1 h2 h3 ?_
      refine lv_astore (lv' := [(7, .ref q9), (0, .ref x), (1, .int r), (2, .int c0), (3, .int s0), (4, .int (bI o)), (5, .int f2), (6, .int l2)]) hC.1 hC.2.1 dL_clash_19 hl (by decide) rfl (fun ls hl => ?_)
      refine lv_ldc hC.1 hC.2.1 hC.2.2.2.1 (hC.2.2.2.2 _ q400) dL_clash_21 ?_
      refine vx_ret ?_
      exact W.iret hC.1 hC.2.1 hr (fun t9 ht9 _ => ⟨_, rfl, by rw [ht9]; exact ⟨by rw [hT]; rfl, by rw [if_neg (by rw [hT]; decide)]; exact hEC.kp hk9⟩, hS.F ht9⟩) hS.2.2 dL_clash_23
    · have hpas : ∀ z ∈ ([⟨0, 13, 14, 26⟩, ⟨0, 13, 19, 29⟩] : List ExceptionTableEntry), z.catchType ≠ 0 ∧ ∃ nm : String, Cond.classLink RL z.catchType nm ∈ GW ∧ (eNS, nm) ∈ ecNc := (fun z hz => by
          simp only [List.mem_cons, List.not_mem_nil, or_false] at hz
          rcases hz with rfl | rfl
          · exact ⟨by decide, _, q366, by decide⟩
          · exact ⟨by decide, _, q367, by decide⟩)
      refine ec_catch hC hK htab [⟨0, 13, 14, 26⟩, ⟨0, 13, 19, 29⟩] ⟨0, 13, 24, 44⟩ [] rfl hpas (by decide) (by decide) q455 (by decide) h1 h2 h3 ?_
      refine lv_astore (lv' := [(7, .ref q9), (0, .ref x), (1, .int r), (2, .int c0), (3, .int s0), (4, .int (bI o)), (5, .int f2), (6, .int l2)]) hC.1 hC.2.1 dL_clash_24 hl (by decide) rfl (fun ls hl => ?_)
      refine lv_ldc hC.1 hC.2.1 hC.2.2.2.1 (hC.2.2.2.2 _ q469) dL_clash_26 ?_
      refine vx_ret ?_
      exact W.iret hC.1 hC.2.1 hr (fun t9 ht9 _ => ⟨_, rfl, by rw [ht9]; exact ⟨by rw [hT]; rfl, by rw [if_neg (by rw [hT]; decide)]; exact hEC.kp hk9⟩, hS.F ht9⟩) hS.2.2 dL_clash_28
  · obtain ⟨hT, hEC⟩ := hp
    refine vx_ret ?_
    exact W.iret hC.1 hC.2.1 hr (fun t9 ht9 _ => ⟨_, rfl, by rw [ht9]; exact ⟨by rw [hT]; rfl, by rw [if_pos hT]; exact hEC⟩, hS.F ht9⟩) hS.2.2 dL_clash_13

set_option maxHeartbeats 4000000 in
set_option maxRecDepth 100000 in
/-- the helper of cancel -/
theorem c_L_cancel (l : Launch) (hls : l.stackTraces = false) (G : ecG) (X : Nat → Prop) (M : ecM) (x : Nat) (b : Int32) : vx_Met l yL_cancel (ecWh yL_cancel cL_cancel 3 (Option.some FieldType.int) [(0, 5, 6, 26), (0, 5, 10, 19)]) (ecRm 10 8 150) (ecPc [.ref x, .int b] G (fun H => ecXs G X H ∧ EC G X M x H)) (ecEp (fun v H1 => v = some (.int (hv (thCan M b) (nI (cntN (setN M 6 (cN b) 1) (mnB M))) (-2500000) (-1000000) 0 0)) ∧ EC G X (if thCan M b = 0 then setN M 6 (cN b) 1 else M) x H1) X) (ecXc (fun _ => False)) 8 150 X := by
  refine ec_hmet (by decide) (Nat.le_of_ble_eq_true rfl) ?_
  intro p e s m below meth c hC hr hlocks htab hOk hpre ls hl
  have hK := hOk.1
  obtain ⟨hXs, hEC⟩ := hpre
  have hS : va_S X s.heap s.heap [] := va_S.rf
  have hAN : ∀ q, X q → ecN0 G ≤ q := hXs.1
  have hlab : ∃ fs, ecA G x (eO 5 fs) s.heap := by obtain ⟨tg9, ad9, hx9, hw9⟩ := hEC; exact ⟨_, hx9 ▸ hw9.1.1⟩
  obtain ⟨fs9, hlab⟩ := hlab
  have hl : lv_has ls 3 [(0, .ref x), (1, .int b)] := hl
  refine lv_aload_n hC.1 hC.2.1 dL_cancel_0 rfl (lv_at hl 0 rfl) ?_
  refine lv_iload_n hC.1 hC.2.1 dL_cancel_1 rfl (lv_at hl 1 rfl) ?_
  refine ec_goXE1 (ec_xV hC (c_X5_cancel l hls G X M x b) kL_102 (hOk.at hS hAN) ⟨hXs, hEC⟩ (ec_rc hK hlab ⟨_, _, rfl⟩) hl.1 ⟨Nat.le_of_ble_eq_true rfl, Nat.le_of_ble_eq_true rfl⟩ rfl (Nat.le_of_ble_eq_true rfl) dL_cancel_2 ⟨Nat.le_of_ble_eq_true rfl, Nat.le_of_ble_eq_true rfl⟩) hS (fun _ h => h) (fun E9 ce9 q9 H locs hx hk9 hS h1 h2 h3 => ?_) (fun H locs hp hzs hk1 hS => ?_)
  · simp only [List.mem_cons, Prod.mk.injEq, List.not_mem_nil, or_false] at hx
    rcases hx with ⟨rfl, hT⟩ | ⟨rfl, hT⟩
    · have hpas : ∀ z ∈ ([] : List ExceptionTableEntry), z.catchType ≠ 0 ∧ ∃ nm : String, Cond.classLink RL z.catchType nm ∈ GW ∧ (eIX, nm) ∈ ecNc := (fun z hz => nomatch hz)
      refine ec_catch hC hK htab [] ⟨0, 5, 6, 26⟩ [⟨0, 5, 10, 19⟩] rfl hpas (by decide) (by decide) q366 (by decide) h1 h2 h3 ?_
      refine lv_astore_n (lv' := [(2, .ref q9), (0, .ref x), (1, .int b)]) hC.1 hC.2.1 dL_cancel_6 rfl hl (by decide) rfl (fun ls hl => ?_)
      refine lv_ldc hC.1 hC.2.1 hC.2.2.2.1 (hC.2.2.2.2 _ q399) dL_cancel_7 ?_
      refine vx_ret ?_
      exact W.iret hC.1 hC.2.1 hr (fun t9 ht9 _ => ⟨_, rfl, by rw [ht9]; exact ⟨by rw [hT]; rfl, by rw [if_neg (by rw [hT]; decide)]; exact hEC.kp hk9⟩, hS.F ht9⟩) hS.2.2 dL_cancel_9
    · have hpas : ∀ z ∈ ([⟨0, 5, 6, 26⟩] : List ExceptionTableEntry), z.catchType ≠ 0 ∧ ∃ nm : String, Cond.classLink RL z.catchType nm ∈ GW ∧ (eIS, nm) ∈ ecNc := (fun z hz => by
          simp only [List.mem_cons, List.not_mem_nil, or_false] at hz
          rcases hz with rfl
          · exact ⟨by decide, _, q366, by decide⟩)
      refine ec_catch hC hK htab [⟨0, 5, 6, 26⟩] ⟨0, 5, 10, 19⟩ [] rfl hpas (by decide) (by decide) q247 (by decide) h1 h2 h3 ?_
      refine lv_astore_n (lv' := [(2, .ref q9), (0, .ref x), (1, .int b)]) hC.1 hC.2.1 dL_cancel_10 rfl hl (by decide) rfl (fun ls hl => ?_)
      refine lv_ldc hC.1 hC.2.1 hC.2.2.2.1 (hC.2.2.2.2 _ q362) dL_cancel_11 ?_
      refine vx_ret ?_
      exact W.iret hC.1 hC.2.1 hr (fun t9 ht9 _ => ⟨_, rfl, by rw [ht9]; exact ⟨by rw [hT]; rfl, by rw [if_neg (by rw [hT]; decide)]; exact hEC.kp hk9⟩, hS.F ht9⟩) hS.2.2 dL_cancel_13
  · obtain ⟨hT, hEC⟩ := hp
    refine vx_ret ?_
    exact W.iret hC.1 hC.2.1 hr (fun t9 ht9 _ => ⟨_, rfl, by rw [ht9]; exact ⟨by rw [hT]; rfl, by rw [if_pos hT]; exact hEC⟩, hS.F ht9⟩) hS.2.2 dL_cancel_5

set_option maxHeartbeats 4000000 in
set_option maxRecDepth 100000 in
/-- the helper of pass -/
theorem c_L_pass (l : Launch) (hls : l.stackTraces = false) (G : ecG) (X : Nat → Prop) (M : ecM) (x : Nat) (h : Int32) : vx_Met l yL_pass (ecWh yL_pass cL_pass 3 (Option.some FieldType.int) [(0, 5, 6, 29)]) (ecRm 10 8 150) (ecPc [.ref x, .int h] G (fun H => ecXs G X H ∧ EC G X M x H)) (ecEp (fun v H1 => v = some (.int (hv (thPas M h) (nI (pasC M (cN h))) (-2000000) 0 0 0)) ∧ EC G X (if thPas M h = 0 then pasM M (cN h) else M) x H1) X) (ecXc (fun _ => False)) 8 150 X := by
  refine ec_hmet (by decide) (Nat.le_of_ble_eq_true rfl) ?_
  intro p e s m below meth c hC hr hlocks htab hOk hpre ls hl
  have hK := hOk.1
  obtain ⟨hXs, hEC⟩ := hpre
  have hS : va_S X s.heap s.heap [] := va_S.rf
  have hAN : ∀ q, X q → ecN0 G ≤ q := hXs.1
  have hlab : ∃ fs, ecA G x (eO 5 fs) s.heap := by obtain ⟨tg9, ad9, hx9, hw9⟩ := hEC; exact ⟨_, hx9 ▸ hw9.1.1⟩
  obtain ⟨fs9, hlab⟩ := hlab
  have hl : lv_has ls 3 [(0, .ref x), (1, .int h)] := hl
  refine lv_aload_n hC.1 hC.2.1 dL_pass_0 rfl (lv_at hl 0 rfl) ?_
  refine lv_iload_n hC.1 hC.2.1 dL_pass_1 rfl (lv_at hl 1 rfl) ?_
  refine ec_goXE1 (ec_xV hC (c_X5_pass l hls G X M x h) kL_105 (hOk.at hS hAN) ⟨hXs, hEC⟩ (ec_rc hK hlab ⟨_, _, rfl⟩) hl.1 ⟨Nat.le_of_ble_eq_true rfl, Nat.le_of_ble_eq_true rfl⟩ rfl (Nat.le_of_ble_eq_true rfl) dL_pass_2 ⟨Nat.le_of_ble_eq_true rfl, Nat.le_of_ble_eq_true rfl⟩) hS (fun _ h => h) (fun E9 ce9 q9 H locs hx hk9 hS h1 h2 h3 => ?_) (fun H locs hp hzs hk1 hS => ?_)
  · simp only [List.mem_cons, Prod.mk.injEq, List.not_mem_nil, or_false] at hx
    rcases hx with ⟨rfl, hT⟩
    · have hpas : ∀ z ∈ ([] : List ExceptionTableEntry), z.catchType ≠ 0 ∧ ∃ nm : String, Cond.classLink RL z.catchType nm ∈ GW ∧ (eAG, nm) ∈ ecNc := (fun z hz => nomatch hz)
      refine ec_catch hC hK htab [] ⟨0, 5, 6, 29⟩ [] rfl hpas (by decide) (by decide) q367 (by decide) h1 h2 h3 ?_
      refine lv_astore_n (lv' := [(2, .ref q9), (0, .ref x), (1, .int h)]) hC.1 hC.2.1 dL_pass_6 rfl hl (by decide) rfl (fun ls hl => ?_)
      refine lv_ldc hC.1 hC.2.1 hC.2.2.2.1 (hC.2.2.2.2 _ q400) dL_pass_7 ?_
      refine vx_ret ?_
      exact W.iret hC.1 hC.2.1 hr (fun t9 ht9 _ => ⟨_, rfl, by rw [ht9]; exact ⟨by rw [hT]; rfl, by rw [if_neg (by rw [hT]; decide)]; exact hEC.kp hk9⟩, hS.F ht9⟩) hS.2.2 dL_pass_9
  · obtain ⟨hT, hEC⟩ := hp
    refine vx_ret ?_
    exact W.iret hC.1 hC.2.1 hr (fun t9 ht9 _ => ⟨_, rfl, by rw [ht9]; exact ⟨by rw [hT]; rfl, by rw [if_pos hT]; exact hEC⟩, hS.F ht9⟩) hS.2.2 dL_pass_5

set_option maxHeartbeats 4000000 in
set_option maxRecDepth 100000 in
/-- the helper of nextBooking -/
theorem c_L_nextBooking (l : Launch) (hls : l.stackTraces = false) (G : ecG) (X : Nat → Prop) (M : ecM) (x : Nat) (r : Int32) : vx_Met l yL_nextBooking (ecWh yL_nextBooking cL_nextBooking 3 (Option.some FieldType.int) [(0, 5, 6, 26), (0, 5, 10, 44)]) (ecRm 10 8 150) (ecPc [.ref x, .int r] G (fun H => ecXs G X H ∧ EC G X M x H)) (ecEp (fun v H1 => v = some (.int (hv (thNxt M r) (nI ((nxtN M (cN r) (mnB M)).getD 0)) (-2500000) (-3000000) 0 0)) ∧ EC G X (if thNxt M r = 0 then M else M) x H1) X) (ecXc (fun _ => False)) 8 150 X := by
  refine ec_hmet (by decide) (Nat.le_of_ble_eq_true rfl) ?_
  intro p e s m below meth c hC hr hlocks htab hOk hpre ls hl
  have hK := hOk.1
  obtain ⟨hXs, hEC⟩ := hpre
  have hS : va_S X s.heap s.heap [] := va_S.rf
  have hAN : ∀ q, X q → ecN0 G ≤ q := hXs.1
  have hlab : ∃ fs, ecA G x (eO 5 fs) s.heap := by obtain ⟨tg9, ad9, hx9, hw9⟩ := hEC; exact ⟨_, hx9 ▸ hw9.1.1⟩
  obtain ⟨fs9, hlab⟩ := hlab
  have hl : lv_has ls 3 [(0, .ref x), (1, .int r)] := hl
  refine lv_aload_n hC.1 hC.2.1 dL_nextBooking_0 rfl (lv_at hl 0 rfl) ?_
  refine lv_iload_n hC.1 hC.2.1 dL_nextBooking_1 rfl (lv_at hl 1 rfl) ?_
  refine ec_goXE1 (ec_xV hC (c_X5_nextBooking l hls G X M x r) kL_108 (hOk.at hS hAN) ⟨hXs, hEC⟩ (ec_rc hK hlab ⟨_, _, rfl⟩) hl.1 ⟨Nat.le_of_ble_eq_true rfl, Nat.le_of_ble_eq_true rfl⟩ rfl (Nat.le_of_ble_eq_true rfl) dL_nextBooking_2 ⟨Nat.le_of_ble_eq_true rfl, Nat.le_of_ble_eq_true rfl⟩) hS (fun _ h => h) (fun E9 ce9 q9 H locs hx hk9 hS h1 h2 h3 => ?_) (fun H locs hp hzs hk1 hS => ?_)
  · simp only [List.mem_cons, Prod.mk.injEq, List.not_mem_nil, or_false] at hx
    rcases hx with ⟨rfl, hT⟩ | ⟨rfl, hT⟩
    · have hpas : ∀ z ∈ ([] : List ExceptionTableEntry), z.catchType ≠ 0 ∧ ∃ nm : String, Cond.classLink RL z.catchType nm ∈ GW ∧ (eIX, nm) ∈ ecNc := (fun z hz => nomatch hz)
      refine ec_catch hC hK htab [] ⟨0, 5, 6, 26⟩ [⟨0, 5, 10, 44⟩] rfl hpas (by decide) (by decide) q366 (by decide) h1 h2 h3 ?_
      refine lv_astore_n (lv' := [(2, .ref q9), (0, .ref x), (1, .int r)]) hC.1 hC.2.1 dL_nextBooking_6 rfl hl (by decide) rfl (fun ls hl => ?_)
      refine lv_ldc hC.1 hC.2.1 hC.2.2.2.1 (hC.2.2.2.2 _ q399) dL_nextBooking_7 ?_
      refine vx_ret ?_
      exact W.iret hC.1 hC.2.1 hr (fun t9 ht9 _ => ⟨_, rfl, by rw [ht9]; exact ⟨by rw [hT]; rfl, by rw [if_neg (by rw [hT]; decide)]; exact hEC.kp hk9⟩, hS.F ht9⟩) hS.2.2 dL_nextBooking_9
    · have hpas : ∀ z ∈ ([⟨0, 5, 6, 26⟩] : List ExceptionTableEntry), z.catchType ≠ 0 ∧ ∃ nm : String, Cond.classLink RL z.catchType nm ∈ GW ∧ (eNS, nm) ∈ ecNc := (fun z hz => by
          simp only [List.mem_cons, List.not_mem_nil, or_false] at hz
          rcases hz with rfl
          · exact ⟨by decide, _, q366, by decide⟩)
      refine ec_catch hC hK htab [⟨0, 5, 6, 26⟩] ⟨0, 5, 10, 44⟩ [] rfl hpas (by decide) (by decide) q455 (by decide) h1 h2 h3 ?_
      refine lv_astore_n (lv' := [(2, .ref q9), (0, .ref x), (1, .int r)]) hC.1 hC.2.1 dL_nextBooking_10 rfl hl (by decide) rfl (fun ls hl => ?_)
      refine lv_ldc hC.1 hC.2.1 hC.2.2.2.1 (hC.2.2.2.2 _ q469) dL_nextBooking_11 ?_
      refine vx_ret ?_
      exact W.iret hC.1 hC.2.1 hr (fun t9 ht9 _ => ⟨_, rfl, by rw [ht9]; exact ⟨by rw [hT]; rfl, by rw [if_neg (by rw [hT]; decide)]; exact hEC.kp hk9⟩, hS.F ht9⟩) hS.2.2 dL_nextBooking_13
  · obtain ⟨hT, hEC⟩ := hp
    refine vx_ret ?_
    exact W.iret hC.1 hC.2.1 hr (fun t9 ht9 _ => ⟨_, rfl, by rw [ht9]; exact ⟨by rw [hT]; rfl, by rw [if_pos hT]; exact hEC⟩, hS.F ht9⟩) hS.2.2 dL_nextBooking_5
