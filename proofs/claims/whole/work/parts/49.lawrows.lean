section LWR
variable {p : Program} {l : Launch} {e : Env} {R : Room} {s : State} {m : MethodId} {args : Array Value} {below : List Frame} {meth : Method} {c : Code} {H : Heap} {locs : List Loc} {cells slots : Nat} {Q : State → Prop}
variable {cc b9 : ByteArray} {pc nL maxL d mc ms index : Nat} {ls : Array Slot} {rest st0 As : List Value} {G : ecG} {A A0 A1 : Nat → Prop} {a : Nat} {own : String} {y9 : MethodName} {ret9 : Option FieldType} {hh : List (Nat × Nat × Nat × Nat)}
variable {Pre : Heap → Prop} {Qc : Array Value → State → Outcome → State → Prop} {XC : String → State → State → Prop} {free : Addr → Prop} {H0 : Heap} {ar : Array Value} {PoI : Int32 → Heap → Prop} {PoJ : Int64 → Heap → Prop} {PoF : UInt32 → Heap → Prop}
/-- a static call of a method with handlers -/
theorem ec_cwSH (n : Nat) (hts : ∀ w ∈ GW, w.before args s = true) (K : Cond.methodLink own index y9 ∈ GW ∧ Cond.static y9 ∈ GW ∧ Cond.initialized y9.cls ∈ GW ∧ Cond.codeWith y9 b9 maxL ret9 hh ∈ GW ∧ ecHd y9 n) (hR : d + 1 ≤ R.frames ∧ 8 + (maxL + 11) + 40 * d ≤ R.locals) : vx_CSW R s args own index y9 b9 maxL ret9 hh (ecWh y9 b9 maxL ret9 hh) (ecRm d mc ms) mc ms n := by
  obtain ⟨k1, k2, k3, k4, k6⟩ := K
  refine vx_cwSW n hts (gw_in fun w hw => ?_) rfl rfl rfl k6 hR
  simp only [va_wsS, List.cons_append, List.nil_append, List.mem_cons] at hw
  rcases hw with rfl | rfl | rfl | rfl | hw
  · exact k1
  · exact k2
  · exact k3
  · exact k4
  · exact hw
theorem ec_xSH (hC : CallFix p m c cc nL s args GW own) (hM : vx_Met l y9 (ecWh y9 b9 maxL ret9 hh) (ecRm d mc ms) (ecPc As G Pre) Qc XC mc ms free) (K : Cond.methodLink own index y9 ∈ GW ∧ Cond.static y9 ∈ GW ∧ Cond.initialized y9.cls ∈ GW ∧ Cond.codeWith y9 b9 maxL ret9 hh ∈ GW ∧ ecHd y9 As.length) (hOk : ecOk G s H) (hpre : Pre H)
    (hls : ls.size = nL) (hR : d + 1 ≤ R.frames ∧ 8 + (maxL + 11) + 40 * d ≤ R.locals) (hst : st0 = As.reverse ++ rest) (hcat : (rest.map fun v => v.category).sum ≤ 8) (hdg : decode cc pc = .ok (.invokestatic index, 3)) (hf : cells + mc ≤ R.cells ∧ slots + ms ≤ R.slots) :
    vx_Run p l e R s m args below meth c H locs cells slots mc ms (F0 m pc ls st0) rest (Qc As.toArray) XC free :=
  vx_runSX (As := As) (rest := rest) hC hM (ec_cwSH As.length hC.2.2.2.2 K hR) (ec_preS hOk hpre) rfl rfl hls hst (lv_room hcat) hdg hf
/-- behind a call whose answer is an int (a long, a float) of which something is said -/
theorem ec_goEi (hr : va_Run p l e R s m args below meth c H locs cells slots mc ms (F0 m pc ls st0) rest (ecEp (fun v H1 => ∃ w : Int32, v = some (.int w) ∧ PoI w H1) A1 ar) A1) (hS : va_S A0 H0 H locs) (hA : ∀ q, A1 q → A0 q)
    (kk : ∀ (w : Int32) H1 locs1, PoI w H1 → H.size ≤ H1.size → (∀ q : Nat, q < H.size → ¬ A1 q → H1[q]? = H[q]?) → va_S A0 H0 H1 locs1 → W p l e R s m args below meth c H1 locs1 (cells + mc) (slots + ms) Q (F0 m (pc + 3) ls (.int w :: rest))) : W p l e R s m args below meth c H locs cells slots Q (F0 m pc ls st0) :=
  ec_goE hr hS hA (fun v H1 locs1 hv hz hk hS1 => by obtain ⟨w, rfl, hv⟩ := hv; exact kk w H1 locs1 hv hz hk hS1)
theorem ec_goEj (hr : va_Run p l e R s m args below meth c H locs cells slots mc ms (F0 m pc ls st0) rest (ecEp (fun v H1 => ∃ w : Int64, v = some (.long w) ∧ PoJ w H1) A1 ar) A1) (hS : va_S A0 H0 H locs) (hA : ∀ q, A1 q → A0 q)
    (kk : ∀ (w : Int64) H1 locs1, PoJ w H1 → H.size ≤ H1.size → (∀ q : Nat, q < H.size → ¬ A1 q → H1[q]? = H[q]?) → va_S A0 H0 H1 locs1 → W p l e R s m args below meth c H1 locs1 (cells + mc) (slots + ms) Q (F0 m (pc + 3) ls (.long w :: rest))) : W p l e R s m args below meth c H locs cells slots Q (F0 m pc ls st0) :=
  ec_goE hr hS hA (fun v H1 locs1 hv hz hk hS1 => by obtain ⟨w, rfl, hv⟩ := hv; exact kk w H1 locs1 hv hz hk hS1)
theorem ec_goEf (hr : va_Run p l e R s m args below meth c H locs cells slots mc ms (F0 m pc ls st0) rest (ecEp (fun v H1 => ∃ w : UInt32, v = some (.float w) ∧ PoF w H1) A1 ar) A1) (hS : va_S A0 H0 H locs) (hA : ∀ q, A1 q → A0 q)
    (kk : ∀ (w : UInt32) H1 locs1, PoF w H1 → H.size ≤ H1.size → (∀ q : Nat, q < H.size → ¬ A1 q → H1[q]? = H[q]?) → va_S A0 H0 H1 locs1 → W p l e R s m args below meth c H1 locs1 (cells + mc) (slots + ms) Q (F0 m (pc + 3) ls (.float w :: rest))) : W p l e R s m args below meth c H locs cells slots Q (F0 m pc ls st0) :=
  ec_goE hr hS hA (fun v H1 locs1 hv hz hk hS1 => by obtain ⟨w, rfl, hv⟩ := hv; exact kk w H1 locs1 hv hz hk hS1)
/-- an element of the script -/
theorem lw_ld {b L : Nat} {xs : Nat → Int32} (hC : CallFix p m c cc nL s args GW own) (hX : va_X b L xs s s.heap) (hbl : b < s.heap.size) (hS : va_S (fun q : Nat => s.heap.size ≤ q) s.heap H locs) (hL : L ≤ 3584) {v : Int32} (k : Nat) (hv : v = nI k) (hk : k < L) (hdg : decode cc pc = .ok (.iaload, 1))
    (kk : W p l e R s m args below meth c H locs cells slots Q (F0 m (pc + 1) ls (.int (xs k) :: rest))) : W p l e R s m args below meth c H locs cells slots Q (F0 m pc ls (.int v :: .ref b :: rest)) := by
  subst hv
  refine va_sld hC.1 hC.2.1 hX hbl (Nat.not_le.mpr hbl) hS (vp_in_nI hk (by omega)) hdg ?_
  rw [nI_clamp (by omega)]
  exact kk
/-- x != 0, as it is pushed -/
theorem lw_bool (hC : CallFix p m c cc nL s args GW own) {x : Int32} (d0 : decode cc pc = .ok (.ifCond .eq 7, 3)) (d3 : decode cc (pc + 3) = .ok (.iconst 1, 1)) (d4 : decode cc (pc + 4) = .ok (.goto 4, 3)) (d7 : decode cc (pc + 7) = .ok (.iconst 0, 1))
    (kk : W p l e R s m args below meth c H locs cells slots Q (F0 m (pc + 8) ls (.int (bI (!decide (x = 0))) :: rest))) : W p l e R s m args below meth c H locs cells slots Q (F0 m pc ls (.int x :: rest)) := by
  refine lv_if_eq (tgt := pc + 7) hC.1 hC.2.1 d0 (by omega) (fun c9 => ?_) (fun c9 => ?_)
  · refine lv_iconst (v := 0) hC.1 hC.2.1 d7 (by decide) ?_
    have e9 : bI (!decide (x = 0)) = 0 := by rw [decide_eq_true c9]; rfl
    rw [e9] at kk
    exact kk
  · refine lv_iconst (v := 1) hC.1 hC.2.1 d3 (by decide) ?_
    refine lv_goto (tgt := pc + 8) hC.1 hC.2.1 d4 (by omega) ?_
    have e9 : bI (!decide (x = 0)) = 1 := by rw [decide_eq_false c9]; rfl
    rw [e9] at kk
    exact kk
end LWR
theorem lw_gt {i L : Nat} (hi : i ≤ 4000) (hL : L ≤ 3584) : nI L - 7 < nI i ↔ L < i + 7 := by
  rw [Int32.lt_iff_toInt_lt, show (nI L - 7 : Int32).toInt = (L : Int) - (7 : Nat) from pk_sub_toInt (a := L) (b := 7) (by omega) (by decide), nI_toInt (by omega)]
  omega
/-- what stays through the law: the script, the frames of the class (X), of the reference (Y), the rows for the answers -/
def lwF (p : Program) (l : Launch) (s : State) (m : MethodId) (c : Code) (G : ecG) (X Y : Nat → Prop) (b L : Nat) (xs : Nat → Int32) (zo zd : Nat) : Prop :=
  CallFix p m c cL_law 9 s #[Value.ref b] GW RL ∧ l.stackTraces = false ∧ ecOk G s s.heap ∧ va_X b L xs s s.heap ∧ b < s.heap.size ∧ L ≤ 3584 ∧ (∀ q : Nat, s.heap.size ≤ q → ecN0 G ≤ q) ∧ (∀ q, X q → s.heap.size ≤ q) ∧ (∀ q, Y q → s.heap.size ≤ q) ∧ s.heap.size ≤ zo ∧ s.heap.size ≤ zd ∧ (∀ q, Y q → ¬ X q) ∧ ¬ X zo ∧ ¬ X zd ∧ ¬ Y zo ∧ ¬ Y zd ∧ zd ≠ zo
/-- the law's world: the laboratory x in the state M, the reference y in the state MR -/
def lwI (s : State) (G : ecG) (X Y : Nat → Prop) (x y zo zd : Nat) (ya : Nat → Nat) (H : Heap) (locs : List Loc) (M MR : ecM) (th : Int32) (f : Nat → Int64) (fd : Nat → UInt64) : Prop :=
  va_S (fun q : Nat => s.heap.size ≤ q) s.heap H locs ∧ ecXs G X H ∧ EC G X M x H ∧ rfX G Y MR th y ya H ∧ ecA G zo (eJ G 1 f) H ∧ ecA G zd (eD G 1 fd) H
abbrev lwL (b x y zo zd i : Nat) : List (Nat × Value) := [(0, .ref b), (1, .ref x), (2, .ref y), (3, .ref zo), (4, .ref zd), (5, .int (nI i))]
section LWI
variable {p : Program} {l : Launch} {s : State} {m : MethodId} {c : Code} {G : ecG} {X Y : Nat → Prop} {b L x y zo zd : Nat} {xs : Nat → Int32} {ya : Nat → Nat} {H H1 : Heap} {locs locs1 : List Loc} {M MR M2 : ecM} {th th2 : Int32} {f f2 : Nat → Int64} {fd fd2 : Nat → UInt64}
theorem lwI.hlp (I : lwI s G X Y x y zo zd ya H locs M MR th f fd) (F : lwF p l s m c G X Y b L xs zo zd) (hS : va_S (fun q : Nat => s.heap.size ≤ q) s.heap H1 locs1) (hz : H.size ≤ H1.size) (hk : ∀ q : Nat, q < H.size → ¬ (X q ∨ q = zo) → H1[q]? = H[q]?) (hE : EC G X M2 x H1) (ho : ecA G zo (eJ G 1 f2) H1) : lwI s G X Y x y zo zd ya H1 locs1 M2 MR th f2 fd := by
  obtain ⟨-, -, -, -, -, -, -, -, -, -, -, hYX, hXo, hXd, hYo, hYd, hdo⟩ := F
  obtain ⟨-, hXs, -, hx, -, hd⟩ := I
  exact ⟨hS, hXs.le hz, hE, hx.ot (X := fun q => X q ∨ q = zo) hk (fun q hq z => z.elim (hYX q hq) (fun z => hYo (z ▸ hq))), ho, hd.kept (hk _ hd.lt (fun z => z.elim hXd hdo))⟩
theorem lwI.hlpD (I : lwI s G X Y x y zo zd ya H locs M MR th f fd) (F : lwF p l s m c G X Y b L xs zo zd) (hS : va_S (fun q : Nat => s.heap.size ≤ q) s.heap H1 locs1) (hz : H.size ≤ H1.size) (hk : ∀ q : Nat, q < H.size → ¬ (X q ∨ q = zd) → H1[q]? = H[q]?) (hE : EC G X M2 x H1) (hd : ecA G zd (eD G 1 fd2) H1) : lwI s G X Y x y zo zd ya H1 locs1 M2 MR th f fd2 := by
  obtain ⟨-, -, -, -, -, -, -, -, -, -, -, hYX, hXo, hXd, hYo, hYd, hdo⟩ := F
  obtain ⟨-, hXs, -, hx, ho, -⟩ := I
  exact ⟨hS, hXs.le hz, hE, hx.ot (X := fun q => X q ∨ q = zd) hk (fun q hq z => z.elim (hYX q hq) (fun z => hYd (z ▸ hq))), ho.kept (hk _ ho.lt (fun z => z.elim hXo (fun z => hdo z.symm))), hd⟩
theorem lwI.mod (I : lwI s G X Y x y zo zd ya H locs M MR th f fd) (F : lwF p l s m c G X Y b L xs zo zd) (hS : va_S (fun q : Nat => s.heap.size ≤ q) s.heap H1 locs1) (hz : H.size ≤ H1.size) (hk : ∀ q : Nat, q < H.size → ¬ Y q → H1[q]? = H[q]?) (hR : rfX G Y M2 th2 y ya H1) : lwI s G X Y x y zo zd ya H1 locs1 M M2 th2 f fd := by
  obtain ⟨-, -, -, -, -, -, -, -, -, -, -, hYX, hXo, hXd, hYo, hYd, hdo⟩ := F
  obtain ⟨-, hXs, hE, -, ho, hd⟩ := I
  exact ⟨hS, hXs.le hz, hE.ot (Y := Y) hk (fun q hq z => hYX q z hq), hR, ho.kept (hk _ ho.lt hYo), hd.kept (hk _ hd.lt hYd)⟩
end LWI
