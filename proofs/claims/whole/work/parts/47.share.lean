set_option maxHeartbeats 4000000 in
set_option maxRecDepth 100000 in
/-- a share as a double is a number, and compares as one -/
theorem sh_nd : ∀ a, a < 21 → ∀ n, n < 21 → 0 < n → vf_n64 (FP.f2d (FP.fdiv (FP.i2f (nI a)) (FP.i2f (nI n)))) ∧ Op.cmpValue (FP.dcmp (FP.f2d (FP.fdiv (FP.i2f (nI a)) (FP.i2f (nI n)))) (FP.f2d (FP.fdiv (FP.i2f (nI a)) (FP.i2f (nI n))))) .l = 0 := by
  unfold vf_n64
  decide +kernel
theorem EC.wf {G : ecG} {X : Nat → Prop} {M : ecM} {x : Nat} {H : Heap} (h : EC G X M x H) : WF M := by
  obtain ⟨tg, ad, -, h⟩ := h
  exact h.2.2.2.2.2.2

set_option maxHeartbeats 4000000 in
set_option maxRecDepth 100000 in
/-- the helper of usableShare -/
theorem c_L_usableShare (l : Launch) (hls : l.stackTraces = false) (G : ecG) (X : Nat → Prop) (M : ecM) (x zo : Nat) (f9 : Nat → UInt64) (hz9 : ¬ X zo) (hN : ecN0 G ≤ zo)  : vx_Met l yL_usableShare (ecWh yL_usableShare cL_usableShare 3 (Option.some FieldType.int) [(0, 8, 11, 45)]) (ecRm 10 8 150) (ecPc [.ref x, .ref zo] G (fun H => ecXs G X H ∧ EC G X M x H ∧ ecA G zo (eD G 1 f9) H)) (ecEp (fun v H1 => v = some (.int (nI (thSha M))) ∧ EC G X (if thSha M = 0 then M else M) x H1 ∧ ∃ f1 : Nat → UInt64, ecA G zo (eD G 1 f1) H1 ∧ (thSha M = 0 → f1 0 = FP.f2d (FP.fdiv (FP.i2f (nI (freN M (mnF M)))) (FP.i2f (nI (mnF M)))))) (fun q : Nat => X q ∨ q = zo)) (ecXc (fun _ => False)) 8 150 (fun q : Nat => X q ∨ q = zo) := by
  refine ec_hmet (by decide) (Nat.le_of_ble_eq_true rfl) ?_
  intro p e s m below meth c hC hr hlocks htab hOk hpre ls hl
  have hK := hOk.1
  obtain ⟨hXs, hEC, hz⟩ := hpre
  have hS : va_S (fun q : Nat => X q ∨ q = zo) s.heap s.heap [] := va_S.rf
  have hAN : ∀ q, (fun q : Nat => X q ∨ q = zo) q → ecN0 G ≤ q := fun q h => h.elim (hXs.1 q) (fun h => by rw [h]; exact hN)
  have hlab : ∃ fs, ecA G x (eO 5 fs) s.heap := by obtain ⟨tg9, ad9, hx9, hw9⟩ := hEC; exact ⟨_, hx9 ▸ hw9.1.1⟩
  obtain ⟨fs9, hlab⟩ := hlab
  have hl : lv_has ls 3 [(0, .ref x), (1, .ref zo)] := hl
  refine lv_aload_n hC.1 hC.2.1 dL_usableShare_0 rfl (lv_at hl 1 rfl) ?_
  refine lv_iconst (v := 0) hC.1 hC.2.1 dL_usableShare_1 (by decide) ?_
  refine lv_aload_n hC.1 hC.2.1 dL_usableShare_2 rfl (lv_at hl 0 rfl) ?_
  refine ec_goXE1 (ec_xV hC (c_X5_usableShare l hls G X M x ) kL_108 (hOk.at hS hAN) ⟨hXs, hEC⟩ (ec_rc hK hlab ⟨_, _, rfl⟩) hl.1 ⟨Nat.le_of_ble_eq_true rfl, Nat.le_of_ble_eq_true rfl⟩ rfl (Nat.le_of_ble_eq_true rfl) dL_usableShare_3 ⟨Nat.le_of_ble_eq_true rfl, Nat.le_of_ble_eq_true rfl⟩) hS (fun _ h => Or.inl h) (fun E9 ce9 q9 H locs hx hk9 hS h1 h2 h3 => ?_) (fun H locs hp hzs hk1 hS => ?_)
  · simp only [List.mem_cons, Prod.mk.injEq, List.not_mem_nil, or_false] at hx
    rcases hx with ⟨rfl, hT⟩
    · have hpas : ∀ z ∈ ([] : List ExceptionTableEntry), z.catchType ≠ 0 ∧ ∃ nm : String, Cond.classLink RL z.catchType nm ∈ GW ∧ (eNS, nm) ∈ ecNc := (fun z hz => nomatch hz)
      refine ec_catch hC hK htab [] ⟨0, 8, 11, 45⟩ [] rfl hpas (by decide) (by decide) q440 (by decide) h1 h2 h3 ?_
      refine lv_astore_n (lv' := [(2, .ref q9), (0, .ref x), (1, .ref zo)]) hC.1 hC.2.1 dL_usableShare_11 rfl hl (by decide) rfl (fun ls hl => ?_)
      refine lv_iconst (v := 1) hC.1 hC.2.1 dL_usableShare_12 (by decide) ?_
      refine vx_ret ?_
      exact W.iret hC.1 hC.2.1 hr (fun t9 ht9 _ => ⟨_, rfl, by rw [ht9]; exact ⟨by rw [hT]; rfl, by rw [if_neg (by rw [hT]; decide)]; exact hEC.kp hk9, f9, hz.kp hk9, fun z => absurd (hT.symm.trans z) (by decide)⟩, hS.F ht9⟩) hS.2.2 dL_usableShare_13
  · obtain ⟨hT, hEC⟩ := hp
    have hz := hz.kept (hk1 _ hz.lt hz9)
    have hnz : mnF M ≠ 0 := fun z => by unfold thSha at hT; rw [if_pos z] at hT; cases hT
    have hn0 := hEC.wf
    refine lv_f2d hC.1 hC.2.1 dL_usableShare_6 (sh_nd _ (by have := freN_le M (mnF M); have := hn0.2.2.1; omega) _ (show mnF M < 21 by have := hn0.2.2.1; omega) (show 0 < mnF M by omega)).1 ?_
    refine ec_dast hC hK hS hz (Or.inr rfl) 0 rfl (by omega) (by omega) dL_usableShare_7 (fun H locs h9 o9 z9 hS => ?_)
    have hEC := hEC.ot (Y := fun q => q = zo) (fun q _ hn => o9 q hn) (fun q hq z => hz9 (z ▸ hq))
    refine lv_goto (tgt := 14) hC.1 hC.2.1 dL_usableShare_8 (by decide) ?_
    refine lv_iconst (v := 0) hC.1 hC.2.1 dL_usableShare_14 (by decide) ?_
    refine vx_ret ?_
    exact W.iret hC.1 hC.2.1 hr (fun t9 ht9 _ => ⟨_, rfl, by rw [ht9]; exact ⟨by rw [hT]; rfl, by rw [if_pos hT]; exact hEC, _, h9, fun _ => rfl⟩, hS.F ht9⟩) hS.2.2 dL_usableShare_15
