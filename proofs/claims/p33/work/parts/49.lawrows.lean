section LWR
variable {p : Program} {l : Launch} {e : Env} {R : Room} {s : State} {m : MethodId} {args : Array Value} {below : List Frame} {meth : Method} {c : Code} {H : Heap} {locs : List Loc} {cells slots : Nat} {Q : State → Prop}
variable {cc b9 : ByteArray} {pc nL maxL d mc ms index : Nat} {ls : Array Slot} {rest st0 As av : List Value} {G : ecG} {A A0 A1 : Nat → Prop} {a : Nat} {own : String} {y9 : MethodName} {ret9 : Option FieldType} {hh : List (Nat × Nat × Nat × Nat)} {b L : Nat} {xs : Nat → Int32}
variable {Pre : Heap → Prop} {Qc : Array Value → State → Outcome → State → Prop} {XC : String → State → State → Prop} {free : Addr → Prop} {H0 : Heap} {ar : Array Value}
/-- a static call of a method with handlers -/
theorem ec_cwSH (n : Nat) (hts : ∀ w ∈ GW, w.before args s = true) (K : Cond.methodLink own index y9 ∈ GW ∧ Cond.static y9 ∈ GW ∧ Cond.initialized y9.cls ∈ GW ∧ Cond.codeWith y9 b9 maxL ret9 hh ∈ GW ∧ ecHd y9 n) (hR : d + 1 ≤ R.frames ∧ 8 + (maxL + 11) + 40 * d ≤ R.locals) : vx_CSW R s args own index y9 b9 maxL ret9 hh (ecWh y9 b9 maxL ret9 hh) (ecRm d mc ms) mc ms n := by
  obtain ⟨k1, k2, k3, k4, k6⟩ := K
  refine vx_cwSW n hts (gw_in fun w hw => ?_) rfl rfl rfl k6 hR
  simp only [va_wsS, List.cons_append, List.nil_append, List.mem_cons] at hw
  rcases hw with rfl | rfl | rfl | rfl | hw
  · exact k1
  · exact k2
  · exact k3
  · exact k4
  · exact hw
theorem ec_xSH (hC : CallFix p m c cc nL s args GW own) (hM : vx_Met l y9 (ecWh y9 b9 maxL ret9 hh) (ecRm d mc ms) (ecPc As G Pre) Qc XC mc ms free) (K : Cond.methodLink own index y9 ∈ GW ∧ Cond.static y9 ∈ GW ∧ Cond.initialized y9.cls ∈ GW ∧ Cond.codeWith y9 b9 maxL ret9 hh ∈ GW ∧ ecHd y9 As.length) (hOk : ecOk G s H) (hpre : Pre H)
    (hls : ls.size = nL) (hR : d + 1 ≤ R.frames ∧ 8 + (maxL + 11) + 40 * d ≤ R.locals) (hst : st0 = As.reverse ++ rest) (hcat : (rest.map fun v => v.category).sum ≤ 8) (hdg : decode cc pc = .ok (.invokestatic index, 3)) (hf : cells + mc ≤ R.cells ∧ slots + ms ≤ R.slots) :
    vx_Run p l e R s m args below meth c H locs cells slots mc ms (F0 m pc ls st0) rest (Qc As.toArray) XC free :=
  vx_runSX (As := As) (rest := rest) hC hM (ec_cwSH As.length hC.2.2.2.2 K hR) (ec_preS hOk hpre) rfl rfl hls hst (lv_room hcat) hdg hf
/-- the start of a method that reads the script -/
def ecPx (av : List Value) (G : ecG) (b L : Nat) (xs : Nat → Int32) : Array Value → State → Prop := fun v U => v = av.toArray ∧ ecOk G U U.heap ∧ va_X b L xs U U.heap ∧ b < U.heap.size
theorem ec_blindX (av : List Value) (G : ecG) (b L : Nat) (xs : Nat → Int32) : FrameBlind (ecPx av G b L xs) := by
  intro a U g mk h
  obtain ⟨h1, h2, h3, h4⟩ := h
  exact ⟨h1, ⟨h2.1.warm (U := U.calling g mk a) (State.WarmedH.refl U), h2.2.moved (Vm.Alike.refl U.vm)⟩, va_X.moved (Vm.Alike.refl U.vm) h3, h4⟩
theorem ec_rSx (hC : CallFix p m c cc nL s args GW own) (hM : Met l y9 (ecWs y9 b9 maxL ret9) (ecRm d mc ms) (ecPx As G b L xs) Qc mc ms free) (K : ecCS own index y9 b9 maxL ret9 As.length) (hOk : ecOk G s H) (hX : va_X b L xs s H) (hbl : b < H.size)
    (hls : ls.size = nL) (hR : d + 1 ≤ R.frames ∧ 8 + (maxL + 11) + 40 * d ≤ R.locals) (hst : st0 = As.reverse ++ rest) (hcat : (rest.map fun v => v.category).sum ≤ 8) (hdg : decode cc pc = .ok (.invokestatic index, 3)) (hf : cells + mc ≤ R.cells ∧ slots + ms ≤ R.slots) :
    va_Run p l e R s m args below meth c H locs cells slots mc ms (F0 m pc ls st0) rest (Qc As.toArray) free :=
  va_runS (As := As) (rest := rest) hC hM (ec_cwS As.length hC.2.2.2.2 K hR) ⟨ec_blindX _ _ _ _ _, fun U hU hW => ⟨rfl, hOk.to hU hW, by rw [hU]; exact va_X.moved hW.alike hX, by rw [hU]; exact hbl⟩⟩ rfl rfl hls hst (lv_room hcat) hdg hf
theorem ec_pmet (hy : plainName y9.cls = true) (hlen : (lg_sl av).length ≤ maxL)
    (body : ∀ (p : Program) (e : Env) (s : State) (m : MethodId) (below : List Frame) (meth : Method) (c : Code), CallFix p m c b9 maxL s av.toArray GW y9.cls → meth.sig.returnType = ret9 → meth.locks = false → ecOk G s s.heap → va_X b L xs s s.heap → b < s.heap.size → ∀ ls, lv_has ls maxL (lv_args 0 av) →
      W p l e (ecRm d mc ms) s m av.toArray below meth c s.heap [] 0 0 (MQ below Qc av.toArray s mc ms free) (F0 m 0 ls [])) : Met l y9 (ecWs y9 b9 maxL ret9) (ecRm d mc ms) (ecPx av G b L xs) Qc mc ms free := by
  refine Met.ofW (cc := b9) (maxL := maxL) (ret := ret9) hy rfl ?_
  intro p e s m args below meth c s₁ B hml hv
  obtain ⟨rfl, hOk, hX, hbl⟩ := hv
  have hts := atoms_spec (ws := ecWs y9 b9 maxL ret9) B.pre
  have hl := lv_entry av (n := maxL) hlen
  rw [lg_entry_eq]
  exact body p e s m below meth c ⟨B.exec, B.bytes, hml, findClass_of_methodNamed B.named, fun w hw => hts w (List.mem_cons_of_mem _ hw)⟩ B.returns B.notSynchronized hOk hX hbl _ hl
/-- numbers from 0 on -/
theorem lw_rem (hC : CallFix p m c cc nL s args GW own) {k n : Nat} {x y : Int32} (hx : x = nI k) (hy : y = nI n) (hk : k < 2147483648) (h0 : 0 < n) (hn : n < 2147483648) (hdg : decode cc pc = .ok (.irem, 1))
    (kk : W p l e R s m args below meth c H locs cells slots Q (F0 m (pc + 1) ls (.int (nI (k % n)) :: rest))) : W p l e R s m args below meth c H locs cells slots Q (F0 m pc ls (.int y :: .int x :: rest)) := by
  subst hx hy
  refine lv_irem hC.1 hC.2.1 hdg (fun z => by have := (nI_eq (b := 0) hn (by decide)).mp z; omega) ?_
  rw [pk_rem (a := k) (d := n) hk h0 hn]
  exact kk
theorem lw_div (hC : CallFix p m c cc nL s args GW own) {k n : Nat} {x y : Int32} (hx : x = nI k) (hy : y = nI n) (hk : k < 2147483648) (h0 : 0 < n) (hn : n < 2147483648) (hdg : decode cc pc = .ok (.idiv, 1))
    (kk : W p l e R s m args below meth c H locs cells slots Q (F0 m (pc + 1) ls (.int (nI (k / n)) :: rest))) : W p l e R s m args below meth c H locs cells slots Q (F0 m pc ls (.int y :: .int x :: rest)) := by
  subst hx hy
  refine lv_idiv hC.1 hC.2.1 hdg (fun z => by have := (nI_eq (b := 0) hn (by decide)).mp z; omega) ?_
  rw [pk_div (a := k) (d := n) hk h0 hn]
  exact kk
theorem lw_add (hC : CallFix p m c cc nL s args GW own) {k n : Nat} {x y : Int32} (hx : x = nI k) (hy : y = nI n) (hdg : decode cc pc = .ok (.iadd, 1))
    (kk : W p l e R s m args below meth c H locs cells slots Q (F0 m (pc + 1) ls (.int (nI (k + n)) :: rest))) : W p l e R s m args below meth c H locs cells slots Q (F0 m pc ls (.int y :: .int x :: rest)) := by
  subst hx hy
  refine lv_iadd hC.1 hC.2.1 hdg ?_
  rw [show nI k + nI n = nI (k + n) from nI_add k n]
  exact kk
theorem lw_mul (hC : CallFix p m c cc nL s args GW own) {k n : Nat} {x y : Int32} (hx : x = nI k) (hy : y = nI n) (hdg : decode cc pc = .ok (.imul, 1))
    (kk : W p l e R s m args below meth c H locs cells slots Q (F0 m (pc + 1) ls (.int (nI (k * n)) :: rest))) : W p l e R s m args below meth c H locs cells slots Q (F0 m pc ls (.int y :: .int x :: rest)) := by
  subst hx hy
  refine lv_imul hC.1 hC.2.1 hdg ?_
  rw [pk_mul k n]
  exact kk
theorem lw_sub (hC : CallFix p m c cc nL s args GW own) {k n : Nat} {x y : Int32} (hx : x = nI k) (hy : y = nI n) (h : n ≤ k) (hdg : decode cc pc = .ok (.isub, 1))
    (kk : W p l e R s m args below meth c H locs cells slots Q (F0 m (pc + 1) ls (.int (nI (k - n)) :: rest))) : W p l e R s m args below meth c H locs cells slots Q (F0 m pc ls (.int y :: .int x :: rest)) := by
  subst hx hy
  refine lv_isub hC.1 hC.2.1 hdg ?_
  rw [pk_sub (a := k) (b := n) h]
  exact kk
/-- 'x == y ? 0 : 1', 'x == y ? 1 : 0', 'x == 0 ? 1 : 0', as they are pushed -/
theorem lw_ne (hC : CallFix p m c cc nL s args GW own) {x y : Int32} (d0 : decode cc pc = .ok (.if_icmp .ne 7, 3)) (d3 : decode cc (pc + 3) = .ok (.iconst 0, 1)) (d4 : decode cc (pc + 4) = .ok (.goto 4, 3)) (d7 : decode cc (pc + 7) = .ok (.iconst 1, 1))
    (kk : W p l e R s m args below meth c H locs cells slots Q (F0 m (pc + 8) ls (.int (bI (!decide (x = y))) :: rest))) : W p l e R s m args below meth c H locs cells slots Q (F0 m pc ls (.int y :: .int x :: rest)) := by
  refine lv_icmp_ne (tgt := pc + 7) hC.1 hC.2.1 d0 (by omega) (fun c9 => ?_) (fun c9 => ?_)
  · refine lv_iconst (v := 1) hC.1 hC.2.1 d7 (by decide) ?_
    have e9 : bI (!decide (x = y)) = 1 := by rw [decide_eq_false c9]; rfl
    rw [e9] at kk
    exact kk
  · refine lv_iconst (v := 0) hC.1 hC.2.1 d3 (by decide) ?_
    refine lv_goto (tgt := pc + 8) hC.1 hC.2.1 d4 (by omega) ?_
    have e9 : bI (!decide (x = y)) = 0 := by rw [decide_eq_true c9]; rfl
    rw [e9] at kk
    exact kk
theorem lw_eq (hC : CallFix p m c cc nL s args GW own) {x y : Int32} (d0 : decode cc pc = .ok (.if_icmp .ne 7, 3)) (d3 : decode cc (pc + 3) = .ok (.iconst 1, 1)) (d4 : decode cc (pc + 4) = .ok (.goto 4, 3)) (d7 : decode cc (pc + 7) = .ok (.iconst 0, 1))
    (kk : W p l e R s m args below meth c H locs cells slots Q (F0 m (pc + 8) ls (.int (bI (decide (x = y))) :: rest))) : W p l e R s m args below meth c H locs cells slots Q (F0 m pc ls (.int y :: .int x :: rest)) := by
  refine lv_icmp_ne (tgt := pc + 7) hC.1 hC.2.1 d0 (by omega) (fun c9 => ?_) (fun c9 => ?_)
  · refine lv_iconst (v := 0) hC.1 hC.2.1 d7 (by decide) ?_
    have e9 : bI (decide (x = y)) = 0 := by rw [decide_eq_false c9]; rfl
    rw [e9] at kk
    exact kk
  · refine lv_iconst (v := 1) hC.1 hC.2.1 d3 (by decide) ?_
    refine lv_goto (tgt := pc + 8) hC.1 hC.2.1 d4 (by omega) ?_
    have e9 : bI (decide (x = y)) = 1 := by rw [decide_eq_true c9]; rfl
    rw [e9] at kk
    exact kk
theorem lw_neq (hC : CallFix p m c cc nL s args GW own) {x y : Int32} (d0 : decode cc pc = .ok (.if_icmp .eq 7, 3)) (d3 : decode cc (pc + 3) = .ok (.iconst 1, 1)) (d4 : decode cc (pc + 4) = .ok (.goto 4, 3)) (d7 : decode cc (pc + 7) = .ok (.iconst 0, 1))
    (kk : W p l e R s m args below meth c H locs cells slots Q (F0 m (pc + 8) ls (.int (bI (!decide (x = y))) :: rest))) : W p l e R s m args below meth c H locs cells slots Q (F0 m pc ls (.int y :: .int x :: rest)) := by
  refine lv_icmp_eq (tgt := pc + 7) hC.1 hC.2.1 d0 (by omega) (fun c9 => ?_) (fun c9 => ?_)
  · refine lv_iconst (v := 0) hC.1 hC.2.1 d7 (by decide) ?_
    have e9 : bI (!decide (x = y)) = 0 := by rw [decide_eq_true c9]; rfl
    rw [e9] at kk
    exact kk
  · refine lv_iconst (v := 1) hC.1 hC.2.1 d3 (by decide) ?_
    refine lv_goto (tgt := pc + 8) hC.1 hC.2.1 d4 (by omega) ?_
    have e9 : bI (!decide (x = y)) = 1 := by rw [decide_eq_false c9]; rfl
    rw [e9] at kk
    exact kk
theorem lw_is0 (hC : CallFix p m c cc nL s args GW own) {x : Int32} (d0 : decode cc pc = .ok (.ifCond .ne 7, 3)) (d3 : decode cc (pc + 3) = .ok (.iconst 1, 1)) (d4 : decode cc (pc + 4) = .ok (.goto 4, 3)) (d7 : decode cc (pc + 7) = .ok (.iconst 0, 1))
    (kk : W p l e R s m args below meth c H locs cells slots Q (F0 m (pc + 8) ls (.int (bI (decide (x = 0))) :: rest))) : W p l e R s m args below meth c H locs cells slots Q (F0 m pc ls (.int x :: rest)) := by
  refine lv_if_ne (tgt := pc + 7) hC.1 hC.2.1 d0 (by omega) (fun c9 => ?_) (fun c9 => ?_)
  · refine lv_iconst (v := 0) hC.1 hC.2.1 d7 (by decide) ?_
    have e9 : bI (decide (x = 0)) = 0 := by rw [decide_eq_false c9]; rfl
    rw [e9] at kk
    exact kk
  · refine lv_iconst (v := 1) hC.1 hC.2.1 d3 (by decide) ?_
    refine lv_goto (tgt := pc + 8) hC.1 hC.2.1 d4 (by omega) ?_
    have e9 : bI (decide (x = 0)) = 1 := by rw [decide_eq_true c9]; rfl
    rw [e9] at kk
    exact kk
theorem lw_is0J (hC : CallFix p m c cc nL s args GW own) {x : Int32} (d0 : decode cc pc = .ok (.ifCond .ne 7, 3)) (d3 : decode cc (pc + 3) = .ok (.lconst 1, 1)) (d4 : decode cc (pc + 4) = .ok (.goto 4, 3)) (d7 : decode cc (pc + 7) = .ok (.lconst 0, 1))
    (kk : W p l e R s m args below meth c H locs cells slots Q (F0 m (pc + 8) ls (.long (if x = 0 then 1 else 0) :: rest))) : W p l e R s m args below meth c H locs cells slots Q (F0 m pc ls (.int x :: rest)) := by
  refine lv_if_ne (tgt := pc + 7) hC.1 hC.2.1 d0 (by omega) (fun c9 => ?_) (fun c9 => ?_)
  · refine lv_lconst (v := 0) hC.1 hC.2.1 d7 (by decide) ?_
    rw [if_neg c9] at kk
    exact kk
  · refine lv_lconst (v := 1) hC.1 hC.2.1 d3 (by decide) ?_
    refine lv_goto (tgt := pc + 8) hC.1 hC.2.1 d4 (by omega) ?_
    rw [if_pos c9] at kk
    exact kk
/-- a loop whose turns cost at most c1 cells and d1 slots each -/
theorem ec_loopC {n : Nat} (c1 d1 : Nat) (I : Nat → Heap → List Loc → Array Slot → Prop) (h0 : I 0 H locs ls) (hx : ∀ H locs ls, I n H locs ls → W p l e R s m args below meth c H locs (cells + c1 * n) (slots + d1 * n) Q (F0 m pc ls [])) (hs : ∀ i H locs ls, i < n → I i H locs ls → (∀ H locs ls, I (i + 1) H locs ls → W p l e R s m args below meth c H locs (cells + c1 * (i + 1)) (slots + d1 * (i + 1)) Q (F0 m pc ls [])) → W p l e R s m args below meth c H locs (cells + c1 * i) (slots + d1 * i) Q (F0 m pc ls [])) : W p l e R s m args below meth c H locs cells slots Q (F0 m pc ls []) := by
  have key : ∀ k i H locs ls, i + k = n → I i H locs ls → W p l e R s m args below meth c H locs (cells + c1 * i) (slots + d1 * i) Q (F0 m pc ls []) := by
    intro k
    induction k with
    | zero =>
      intro i H locs ls hi h
      have : i = n := by omega
      subst this
      exact hx H locs ls h
    | succ k ih =>
      intro i H locs ls hi h
      exact hs i H locs ls (by omega) h (fun H locs ls h => ih (i + 1) H locs ls (by omega) h)
  exact key n 0 H locs ls (Nat.zero_add n) h0
end LWR
theorem lw_no {E : String} {T : Nat} {cs : List (String × Nat)} (hT : T = 0) (hx : (E, T) ∈ cs) (h : ∀ q ∈ cs, q.2 ≠ 0) : False := h _ hx hT
theorem hv_0 {α : Type} (V a b c d : α) : hv 0 V a b c d = V := rfl
theorem EC.rcv {G : ecG} {X : Nat → Prop} {M : ecM} {x : Nat} {H : Heap} {s : State} (hK : ecKx G s) (h : EC G X M x H) : ∃ cell : Cell, H[x]? = some cell ∧ cell.vm.isStatics = false ∧ s.vm.findClass RX5 = some cell.cls := by
  obtain ⟨tg9, ad9, hx9, hw9⟩ := h
  subst hx9
  exact ec_rc hK hw9.1.1 ⟨_, _, rfl⟩
theorem EC.wf {G : ecG} {X : Nat → Prop} {M : ecM} {x : Nat} {H : Heap} (h : EC G X M x H) : WF M := by
  obtain ⟨tg, ad, -, h⟩ := h
  exact h.2.2.2.2.2.2
theorem EC.mono {G : ecG} {X X2 : Nat → Prop} {M : ecM} {x : Nat} {H : Heap} (h : EC G X M x H) (k : ∀ q, q < H.size → X q → X2 q) : EC G X2 M x H := by
  obtain ⟨tg, ad, h0, h1, h2, h3, h4, h5, h6, h7⟩ := h
  have t9 : ∀ {a t : Nat} {e : va_E}, ecT G X tg H a t e → ecT G X2 tg H a t e := fun z => ⟨z.1, z.2.1, k _ z.1.lt z.2.2⟩
  refine ⟨tg, ad, h0, t9 h1, fun j hj => ?_, fun i hi => ⟨t9 (h3 i hi).1, t9 (h3 i hi).2⟩, fun i hi => ⟨t9 (h4 i hi).1, t9 (h4 i hi).2.1, t9 (h4 i hi).2.2⟩, fun i hi => ⟨t9 (h5 i hi).1, t9 (h5 i hi).2.1, t9 (h5 i hi).2.2⟩, fun i hi => ⟨t9 (h6 i hi).1, t9 (h6 i hi).2⟩, h7⟩
  obtain ⟨mc, ⟨hn, h⟩ | ⟨cap, g, a1, a2, a3, h, h8, h9⟩⟩ := h2 j hj
  · exact ⟨mc, Or.inl ⟨hn, t9 h⟩⟩
  · exact ⟨mc, Or.inr ⟨cap, g, a1, a2, a3, t9 h, t9 h8, h9⟩⟩
/-! which calls throw nothing -/
theorem T_R {M : ecM} (W : WF M) {r : Nat} (h : r < mnR M) : thR M (nI r) = 0 := by
  have := W.1
  unfold thR; rw [if_pos (ixB_of (by omega) h)]
theorem T_A {M : ecM} (W : WF M) {i : Nat} (h : i < mnA M) : thA M (nI i) = 0 := by
  have := W.2.1
  unfold thA; rw [if_pos (ixB_of (by omega) h)]
theorem T_F {M : ecM} (W : WF M) {i : Nat} (h : i < mnF M) : thF M (nI i) = 0 := by
  have := W.2.2.1
  unfold thF; rw [if_pos (ixB_of (by omega) h)]
theorem T_Ax {M : ecM} (W : WF M) : thA M (nI (mnA M)) = 1 := by
  have := W.2.1
  unfold thA; rw [ixB_hi (Int32.le_refl _)]; rfl
theorem T_Fx {M : ecM} (W : WF M) : thF M (nI (mnF M)) = 1 := by
  have := W.2.2.1
  unfold thF; rw [ixB_hi (Int32.le_refl _)]; rfl
theorem T_Sam {M : ecM} (W : WF M) {i j : Nat} (h : i < mnA M) (hj : j < 4) : thSam M (nI i) (nI j) = 0 := by
  have := W.2.1
  unfold thSam; rw [if_pos (ixB_of (by omega) h), if_pos (ixB_of (by omega) hj)]
theorem T_Sx {M : ecM} (W : WF M) {i : Nat} (h : i < mnA M) : thSam M (nI i) 4 = 2 := by
  have := W.2.1
  unfold thSam; rw [if_pos (ixB_of (by omega) h)]; rfl
theorem T_Tap {M : ecM} (W : WF M) {f k : Nat} (h : f < mnF M) (hk : k < 6) : thTap M (nI f) (nI k) = 0 := by
  have := W.2.2.1
  unfold thTap; rw [if_pos (ixB_of (by omega) h), if_pos (ixB_of (by omega) hk)]
theorem T_Pr {M : ecM} (W : WF M) {f i : Nat} (h : f < mnF M) (hi : i < mnA M) : thPr M (nI f) (nI i) = 0 := by
  have := W.2.2.1
  have := W.2.1
  unfold thPr; rw [ixB_of (by omega) h, ixB_of (by omega) hi]; rfl
theorem T_Pro {M : ecM} (W : WF M) {f i k : Nat} (h : f < mnF M) (hi : i < mnA M) (hk : k < 6) : thPro M (nI f) (nI i) (nI k) = 0 := by
  have := W.2.2.1
  have := W.2.1
  unfold thPro; rw [ixB_of (by omega) h, ixB_of (by omega) hi, ixB_of (by omega) hk]; rfl
theorem cN_nI {k : Nat} (h : k < 2147483648) : cN (nI k) = k := nI_clamp h
theorem nI_b {b : Bool} : bI b = nI (b1 b) := by cases b <;> rfl
theorem abs_1 {x : Int32} (h : x = 1 ∨ x = -1) : (if 0 ≤ x then x else 0 - x) = 1 := by rcases h with h | h <;> rw [h] <;> decide
set_option maxHeartbeats 4000000 in
set_option maxRecDepth 100000 in
/-- a share is a number, and equals itself -/
theorem sh_nf : ∀ a, a < 21 → ∀ n, n < 21 → 0 < n → vf_n32 (FP.fdiv (FP.i2f (nI a)) (FP.i2f (nI n))) ∧ Op.cmpValue (FP.fcmp (FP.fdiv (FP.i2f (nI a)) (FP.i2f (nI n))) (FP.fdiv (FP.i2f (nI a)) (FP.i2f (nI n)))) .l = 0 := by
  unfold vf_n32
  decide +kernel
