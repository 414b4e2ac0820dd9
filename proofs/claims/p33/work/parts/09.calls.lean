abbrev ecHd (y : MethodName) (n : Nat) : Prop := y.cls ≠ "java/lang/invoke/MethodHandle" ∧ y.cls ≠ "java/lang/invoke/VarHandle" ∧ (parseMethodDescriptor y.desc).map (fun d => d.parameters.length) = some n
/-- the words of a call by a receiver, of a constructor's, of a static one -/
def ecCV (own : String) (index : Nat) (y : MethodName) (b : ByteArray) (maxL : Nat) (ret : Option FieldType) (n : Nat) : Prop := Cond.methodLink own index y ∈ GW ∧ Cond.instanceMethod y ∈ GW ∧ Cond.selects y.cls y y ∈ GW ∧ Cond.initialized y.cls ∈ GW ∧ Cond.code y b maxL ret ∈ GW ∧ ecHd y n
def ecCI (own : String) (index : Nat) (y : MethodName) (b : ByteArray) (maxL : Nat) (n : Nat) : Prop := Cond.methodLink own index y ∈ GW ∧ Cond.instanceMethod y ∈ GW ∧ Cond.initialized y.cls ∈ GW ∧ Cond.code y b maxL none ∈ GW ∧ y.name = "<init>" ∧ ecHd y n
def ecCS (own : String) (index : Nat) (y : MethodName) (b : ByteArray) (maxL : Nat) (ret : Option FieldType) (n : Nat) : Prop := Cond.methodLink own index y ∈ GW ∧ Cond.static y ∈ GW ∧ Cond.initialized y.cls ∈ GW ∧ Cond.code y b maxL ret ∈ GW ∧ ecHd y n
section ECM
variable {p : Program} {l : Launch} {e : Env} {R : Room} {s : State} {m : MethodId} {args : Array Value} {below : List Frame} {meth : Method} {c : Code} {H : Heap} {locs : List Loc} {cells slots : Nat} {Q : State → Prop}
variable {cc b : ByteArray} {pc nL maxL d mc ms index : Nat} {ls : Array Slot} {rest st0 As av : List Value} {G : ecG} {A A0 A1 : Nat → Prop} {a : Nat} {own : String} {y : MethodName} {ret : Option FieldType}
variable {Pre : Heap → Prop} {Qc : Array Value → State → Outcome → State → Prop} {XC : String → State → State → Prop} {free : Addr → Prop} {H0 : Heap} {P : Option Value → Prop} {PE : Option Value → Heap → Prop} {X : String → Prop} {ar : Array Value}
theorem ec_cwV (n : Nat) (hts : ∀ w ∈ GW, w.before args s = true) (K : ecCV own index y b maxL ret n) (hR : d + 1 ≤ R.frames ∧ 8 + (maxL + 11) + 40 * d ≤ R.locals) : CallW R s args own y.cls index y b maxL ret (ecWs y b maxL ret) (ecRm d mc ms) mc ms n := by
  obtain ⟨k1, k2, k3, k4, k5, k6⟩ := K
  refine cwV n hts (gw_in fun w hw => ?_) rfl rfl rfl ⟨rfl, k6⟩ hR
  simp only [wsV, List.cons_append, List.nil_append, List.mem_cons] at hw
  rcases hw with rfl | rfl | rfl | rfl | rfl | hw
  · exact k1
  · exact k2
  · exact k3
  · exact k4
  · exact k5
  · exact hw
theorem ec_cwI (n : Nat) (hts : ∀ w ∈ GW, w.before args s = true) (K : ecCI own index y b maxL n) (hR : d + 1 ≤ R.frames ∧ 8 + (maxL + 11) + 40 * d ≤ R.locals) : CallB R s args own index y b maxL none (ecWs y b maxL none) (ecRm d mc ms) mc ms n ∧ y.name = "<init>" ∧ (Cond.instanceMethod y).before args s = true := by
  obtain ⟨k1, k2, k3, k4, k5, k6⟩ := K
  exact cwI n hts (gw_m k4) rfl rfl rfl (hts _ k3) (hts _ k1) (hts _ k2) k5 k6 hR
theorem ec_cwS (n : Nat) (hts : ∀ w ∈ GW, w.before args s = true) (K : ecCS own index y b maxL ret n) (hR : d + 1 ≤ R.frames ∧ 8 + (maxL + 11) + 40 * d ≤ R.locals) : CallB R s args own index y b maxL ret (ecWs y b maxL ret) (ecRm d mc ms) mc ms n ∧ (Cond.static y).before args s = true := by
  obtain ⟨k1, k2, k3, k4, k6⟩ := K
  refine va_cwS n hts (gw_in fun w hw => ?_) rfl rfl rfl k6 hR
  simp only [va_wsS, List.cons_append, List.nil_append, List.mem_cons] at hw
  rcases hw with rfl | rfl | rfl | rfl | hw
  · exact k1
  · exact k2
  · exact k3
  · exact k4
  · exact hw
theorem ec_preS (hOk : ecOk G s H) (hpre : Pre H) : PreS s H (ecPc As G Pre) As := ⟨ec_blind _ _ _, fun U hU hW => ⟨rfl, hOk.to hU hW, by rw [hU]; exact hpre⟩⟩
theorem ec_rc (hK : ecKx G s) {ci : Nat} {fs : List Value} (ha : ecA G a (eO ci fs) H) {C : String} (hc : ∃ T N, ecCl[ci]? = some (C, T, N)) : ∃ cell : Cell, H[a]? = some cell ∧ cell.vm.isStatics = false ∧ s.vm.findClass C = some cell.cls := by
  obtain ⟨T, N, hc⟩ := hc
  exact va_recv (q0 := 0) hK.1 (ec_one ha) hc rfl
theorem ec_any (hK : ecKx G s) {ci : Nat} {fs : List Value} (ha : ecA G a (eO ci fs) H) {C : String} (hc : ∃ T N, ecCl[ci]? = some (C, T, N)) (hw : (C, "java/lang/Object") ∈ ecCa) : va_Any "java/lang/Object" s H a := by
  obtain ⟨T, N, hc⟩ := hc
  refine va_rAny (q0 := 0) hK.1 (ec_one ha) rfl hc fun comp c0 h1 h2 => ?_
  obtain ⟨c1, t1, f1, f2, f3⟩ := Cond.castable_spec (hK.ca (args := #[]) hw)
  cases h2.symm.trans f1
  cases h1.symm.trans f2
  exact f3
/-- calls: by a receiver, a constructor, static -/
theorem ec_rV (hC : CallFix p m c cc nL s args GW own) (hM : Met l y (ecWs y b maxL ret) (ecRm d mc ms) (ecPc (.ref a :: As) G Pre) Qc mc ms free) (K : ecCV own index y b maxL ret As.length) (hOk : ecOk G s H) (hpre : Pre H) (hrc : ∃ cell : Cell, H[a]? = some cell ∧ cell.vm.isStatics = false ∧ s.vm.findClass y.cls = some cell.cls)
    (hls : ls.size = nL) (hR : d + 1 ≤ R.frames ∧ 8 + (maxL + 11) + 40 * d ≤ R.locals) (hst : st0 = As.reverse ++ .ref a :: rest) (hcat : (rest.map fun v => v.category).sum ≤ 8) (hdg : decode cc pc = .ok (.invokevirtual index, 3)) (hf : cells + mc ≤ R.cells ∧ slots + ms ≤ R.slots) :
    va_Run p l e R s m args below meth c H locs cells slots mc ms (F0 m pc ls st0) rest (Qc (Value.ref a :: As).toArray) free :=
  va_runV (As := As) (rest := rest) hC hM (ec_cwV As.length hC.2.2.2.2 K hR) ⟨ec_blind _ _ _, hrc, (ec_preS hOk hpre).2⟩ rfl rfl hls hst (lv_room hcat) hdg hf
theorem ec_rI (hC : CallFix p m c cc nL s args GW own) (hM : Met l y (ecWs y b maxL none) (ecRm d mc ms) (ecPc (.ref a :: As) G Pre) Qc mc ms free) (K : ecCI own index y b maxL As.length) (hOk : ecOk G s H) (hpre : Pre H)
    (hls : ls.size = nL) (hR : d + 1 ≤ R.frames ∧ 8 + (maxL + 11) + 40 * d ≤ R.locals) (hst : st0 = As.reverse ++ .ref a :: rest) (hcat : (rest.map fun v => v.category).sum ≤ 8) (hdg : decode cc pc = .ok (.invokespecial index, 3)) (hf : cells + mc ≤ R.cells ∧ slots + ms ≤ R.slots) :
    va_Run p l e R s m args below meth c H locs cells slots mc ms (F0 m pc ls st0) rest (Qc (Value.ref a :: As).toArray) free :=
  va_runI (As := As) (rest := rest) hC hM (ec_cwI As.length hC.2.2.2.2 K hR) (ec_preS hOk hpre) rfl rfl hls hst (lv_room hcat) hdg hf
theorem ec_rS (hC : CallFix p m c cc nL s args GW own) (hM : Met l y (ecWs y b maxL ret) (ecRm d mc ms) (ecPc As G Pre) Qc mc ms free) (K : ecCS own index y b maxL ret As.length) (hOk : ecOk G s H) (hpre : Pre H)
    (hls : ls.size = nL) (hR : d + 1 ≤ R.frames ∧ 8 + (maxL + 11) + 40 * d ≤ R.locals) (hst : st0 = As.reverse ++ rest) (hcat : (rest.map fun v => v.category).sum ≤ 8) (hdg : decode cc pc = .ok (.invokestatic index, 3)) (hf : cells + mc ≤ R.cells ∧ slots + ms ≤ R.slots) :
    va_Run p l e R s m args below meth c H locs cells slots mc ms (F0 m pc ls st0) rest (Qc As.toArray) free :=
  va_runS (As := As) (rest := rest) hC hM (ec_cwS As.length hC.2.2.2.2 K hR) (ec_preS hOk hpre) rfl rfl hls hst (lv_room hcat) hdg hf
theorem ec_xV (hC : CallFix p m c cc nL s args GW own) (hM : vx_Met l y (ecWs y b maxL ret) (ecRm d mc ms) (ecPc (.ref a :: As) G Pre) Qc XC mc ms free) (K : ecCV own index y b maxL ret As.length) (hOk : ecOk G s H) (hpre : Pre H) (hrc : ∃ cell : Cell, H[a]? = some cell ∧ cell.vm.isStatics = false ∧ s.vm.findClass y.cls = some cell.cls)
    (hls : ls.size = nL) (hR : d + 1 ≤ R.frames ∧ 8 + (maxL + 11) + 40 * d ≤ R.locals) (hst : st0 = As.reverse ++ .ref a :: rest) (hcat : (rest.map fun v => v.category).sum ≤ 8) (hdg : decode cc pc = .ok (.invokevirtual index, 3)) (hf : cells + mc ≤ R.cells ∧ slots + ms ≤ R.slots) :
    vx_Run p l e R s m args below meth c H locs cells slots mc ms (F0 m pc ls st0) rest (Qc (Value.ref a :: As).toArray) XC free :=
  vx_runV (As := As) (rest := rest) hC hM (ec_cwV As.length hC.2.2.2.2 K hR) ⟨ec_blind _ _ _, hrc, (ec_preS hOk hpre).2⟩ rfl rfl hls hst (lv_room hcat) hdg hf
theorem ec_xS (hC : CallFix p m c cc nL s args GW own) (hM : vx_Met l y (ecWs y b maxL ret) (ecRm d mc ms) (ecPc As G Pre) Qc XC mc ms free) (K : ecCS own index y b maxL ret As.length) (hOk : ecOk G s H) (hpre : Pre H)
    (hls : ls.size = nL) (hR : d + 1 ≤ R.frames ∧ 8 + (maxL + 11) + 40 * d ≤ R.locals) (hst : st0 = As.reverse ++ rest) (hcat : (rest.map fun v => v.category).sum ≤ 8) (hdg : decode cc pc = .ok (.invokestatic index, 3)) (hf : cells + mc ≤ R.cells ∧ slots + ms ≤ R.slots) :
    vx_Run p l e R s m args below meth c H locs cells slots mc ms (F0 m pc ls st0) rest (Qc As.toArray) XC free :=
  vx_runS (As := As) (rest := rest) hC hM (ec_cwS As.length hC.2.2.2.2 K hR) (ec_preS hOk hpre) rfl rfl hls hst (lv_room hcat) hdg hf
theorem ec_nolocs {L : List Loc} {f : Addr → Prop} (h : ∀ q ∈ L, f q.base) (hf : ∀ q, ¬ f q) : L = [] := by
  cases L with
  | nil => rfl
  | cons x L => exact absurd (h x List.mem_cons_self) (hf _)
/-- behind a call that leaves the heap as it is -/
theorem ec_goR (hr : va_Run p l e R s m args below meth c H locs cells slots mc ms (F0 m pc ls st0) rest (ecRp P ar) (fun _ => False))
    (kk : ∀ v, P v → W p l e R s m args below meth c H locs (cells + mc) (slots + ms) Q (F0 m (pc + 3) ls (v.toList ++ rest))) : W p l e R s m args below meth c H locs cells slots Q (F0 m pc ls st0) := by
  intro T hT X
  obtain ⟨v, st₀, t, T', L, h0, X', hL, e1, e2, ⟨v', hv, hp, hh⟩, st⟩ := hr T hT X
  cases hv
  have hL0 := ec_nolocs hL (fun _ h => h)
  subst hL0
  rw [List.append_nil] at X'
  obtain ⟨t2, a1, b1⟩ := kk v hp T' (by rw [e1, hh, h0]) X'
  exact ⟨t2, st t2 a1, b1⟩
/-- behind a call that changes the cells of A1 alone -/
theorem ec_goE (hr : va_Run p l e R s m args below meth c H locs cells slots mc ms (F0 m pc ls st0) rest (ecEp PE A1 ar) A1) (hS : va_S A0 H0 H locs) (hA : ∀ q, A1 q → A0 q)
    (kk : ∀ v H1 locs1, PE v H1 → H.size ≤ H1.size → (∀ q : Nat, q < H.size → ¬ A1 q → H1[q]? = H[q]?) → va_S A0 H0 H1 locs1 → W p l e R s m args below meth c H1 locs1 (cells + mc) (slots + ms) Q (F0 m (pc + 3) ls (v.toList ++ rest))) : W p l e R s m args below meth c H locs cells slots Q (F0 m pc ls st0) := by
  intro T hT X
  obtain ⟨v, st₀, t, T', L, h0, X', hL, e1, e2, ⟨v', hv, hp, hF⟩, st⟩ := hr T hT X
  cases hv
  obtain ⟨k1, k2, k3⟩ := vx_keep h0 e1 hS (fun q _ h => hA q h) hA hL hF
  obtain ⟨t2, a1, b1⟩ := kk v T'.heap (locs ++ L) (by rw [e1]; exact hp) k1 k2 k3 T' rfl X'
  exact ⟨t2, st t2 a1, b1⟩
/-- behind a call that leaves the heap as it is, or throws -/
theorem ec_goXR (hr : vx_Run p l e R s m args below meth c H locs cells slots mc ms (F0 m pc ls st0) rest (ecRp P ar) (ecXc X) (fun _ => False)) (hS : va_S A0 H0 H locs)
    (kx : ∀ (E : String) (ce : Cell) (q9 : Addr) (H1 : Heap), X E → ecKp H H1 → va_S A0 H0 H1 locs → H1[q9]? = some ce → ce.vm = .none → s.vm.findClass E = some ce.cls → vx_W p l e R s m args below meth c H1 locs (cells + mc) (slots + ms) Q (F0 m pc ls rest) q9)
    (kk : ∀ v, P v → W p l e R s m args below meth c H locs (cells + mc) (slots + ms) Q (F0 m (pc + 3) ls (v.toList ++ rest))) : W p l e R s m args below meth c H locs cells slots Q (F0 m pc ls st0) := by
  intro T hT X
  rcases hr T hT X with ⟨v, st₀, t, T', L, h0, X', hL, e1, e2, ⟨v', hv, hp, hh⟩, st⟩ | ⟨q, st₀, t, T', L, E, ce, h0, X', hL, e1, e2, ⟨hx, hk⟩, hce, hcv, hcl, st⟩
  · cases hv
    have hL0 := ec_nolocs hL (fun _ h => h)
    subst hL0
    rw [List.append_nil] at X'
    obtain ⟨t2, a1, b1⟩ := kk v hp T' (by rw [e1, hh, h0]) X'
    exact ⟨t2, st t2 a1, b1⟩
  · have hL0 := ec_nolocs hL (fun _ h => h)
    subst hL0
    rw [List.append_nil] at X'
    rw [h0, ← e1] at hk
    obtain ⟨t2, a1, b1⟩ := kx E ce q T'.heap hx hk ⟨Nat.le_trans hS.1 hk.1, fun x h1 h2 => (hk.2 x (Nat.lt_of_lt_of_le h1 hS.1)).trans (hS.2.1 x h1 h2), hS.2.2⟩ (by rw [e1]; exact hce) hcv hcl T' rfl X'
    exact ⟨t2, st.trans a1, b1⟩
/-- behind a call that changes the cells of A1 alone, or throws -/
theorem ec_goXE (hr : vx_Run p l e R s m args below meth c H locs cells slots mc ms (F0 m pc ls st0) rest (ecEp PE A1 ar) (ecXc X) A1) (hS : va_S A0 H0 H locs) (hA : ∀ q, A1 q → A0 q)
    (kx : ∀ (E : String) (ce : Cell) (q9 : Addr) (H1 : Heap) (locs1 : List Loc), X E → ecKp H H1 → va_S A0 H0 H1 locs1 → H1[q9]? = some ce → ce.vm = .none → s.vm.findClass E = some ce.cls → vx_W p l e R s m args below meth c H1 locs1 (cells + mc) (slots + ms) Q (F0 m pc ls rest) q9)
    (kk : ∀ v H1 locs1, PE v H1 → H.size ≤ H1.size → (∀ q : Nat, q < H.size → ¬ A1 q → H1[q]? = H[q]?) → va_S A0 H0 H1 locs1 → W p l e R s m args below meth c H1 locs1 (cells + mc) (slots + ms) Q (F0 m (pc + 3) ls (v.toList ++ rest))) : W p l e R s m args below meth c H locs cells slots Q (F0 m pc ls st0) := by
  intro T hT X
  rcases hr T hT X with ⟨v, st₀, t, T', L, h0, X', hL, e1, e2, ⟨v', hv, hp, hF⟩, st⟩ | ⟨q, st₀, t, T', L, E, ce, h0, X', hL, e1, e2, ⟨hx, hk⟩, hce, hcv, hcl, st⟩
  · cases hv
    obtain ⟨k1, k2, k3⟩ := vx_keep h0 e1 hS (fun q _ h => hA q h) hA hL hF
    obtain ⟨t2, a1, b1⟩ := kk v T'.heap (locs ++ L) (by rw [e1]; exact hp) k1 k2 k3 T' rfl X'
    exact ⟨t2, st t2 a1, b1⟩
  · rw [h0, ← e1] at hk
    obtain ⟨t2, a1, b1⟩ := kx E ce q T'.heap (locs ++ L) hx hk ⟨Nat.le_trans hS.1 hk.1, fun x h1 h2 => (hk.2 x (Nat.lt_of_lt_of_le h1 hS.1)).trans (hS.2.1 x h1 h2), fun q hq => (List.mem_append.mp hq).elim (hS.2.2 q) (fun h => hA _ (hL q h))⟩ (by rw [e1]; exact hce) hcv hcl T' rfl X'
    exact ⟨t2, st.trans a1, b1⟩
/-- what is thrown to here goes on to the caller -/
theorem ec_out {E : String} {ce : Cell} {q9 : Addr} (hnx : ∀ x ∈ c.exceptionTable.toList, False) (hlocks : meth.locks = false) (hX : X E) (hk : ecKp s.heap H) (hS : va_S A s.heap H locs) (h1 : H[q9]? = some ce) (h2 : ce.vm = .none) (h3 : s.vm.findClass E = some ce.cls) (hc : cells ≤ mc) (hs : slots ≤ ms) :
    vx_W p l e R s m args below meth c H locs cells slots (vx_MQ below Qc (ecXc X) args s mc ms A) (F0 m pc ls rest) q9 :=
  vx_out (fun x hx => (hnx x hx).elim) hlocks h1 h2 h3 (fun t ht _ => ⟨hX, by rw [ht]; exact hk⟩) hS.2.2 hc hs
/-- a method's start -/
theorem ec_met (hy : plainName y.cls = true) (hlen : (lg_sl av).length ≤ maxL)
    (body : ∀ (p : Program) (e : Env) (s : State) (m : MethodId) (below : List Frame) (meth : Method) (c : Code), CallFix p m c b maxL s av.toArray GW y.cls → meth.sig.returnType = ret → meth.locks = false → meth.name = y.name → ecOk G s s.heap → Pre s.heap → ∀ ls, lv_has ls maxL (lv_args 0 av) →
      W p l e (ecRm d mc ms) s m av.toArray below meth c s.heap [] 0 0 (MQ below Qc av.toArray s mc ms free) (F0 m 0 ls [])) : Met l y (ecWs y b maxL ret) (ecRm d mc ms) (ecPc av G Pre) Qc mc ms free := by
  refine Met.ofW (cc := b) (maxL := maxL) (ret := ret) hy rfl ?_
  intro p e s m args below meth c s₁ B hml hv
  obtain ⟨rfl, hOk, hP⟩ := hv
  have hts := atoms_spec (ws := ecWs y b maxL ret) B.pre
  have hl := lv_entry av (n := maxL) hlen
  rw [lg_entry_eq]
  exact body p e s m below meth c ⟨B.exec, B.bytes, hml, findClass_of_methodNamed B.named, fun w hw => hts w (List.mem_cons_of_mem _ hw)⟩ B.returns B.notSynchronized (name_of_methodNamed B.named B.method).1 hOk hP _ hl
/-- the start of a method that may throw -/
theorem ec_xmet (hy : plainName y.cls = true) (hlen : (lg_sl av).length ≤ maxL)
    (body : ∀ (p : Program) (e : Env) (s : State) (m : MethodId) (below : List Frame) (meth : Method) (c : Code), CallFix p m c b maxL s av.toArray GW y.cls → meth.sig.returnType = ret → meth.locks = false → (∀ x ∈ c.exceptionTable.toList, False) → ecOk G s s.heap → Pre s.heap → ∀ ls, lv_has ls maxL (lv_args 0 av) →
      W p l e (ecRm d mc ms) s m av.toArray below meth c s.heap [] 0 0 (vx_MQ below Qc XC av.toArray s mc ms free) (F0 m 0 ls [])) : vx_Met l y (ecWs y b maxL ret) (ecRm d mc ms) (ecPc av G Pre) Qc XC mc ms free := by
  refine vx_ofW (cc := b) (maxL := maxL) (ret := ret) hy rfl ?_
  intro p e s m args below meth c s₁ B hml hnx hv
  obtain ⟨rfl, hOk, hP⟩ := hv
  have hts := atoms_spec (ws := ecWs y b maxL ret) B.pre
  have hl := lv_entry av (n := maxL) hlen
  rw [lg_entry_eq]
  exact body p e s m below meth c ⟨B.exec, B.bytes, hml, findClass_of_methodNamed B.named, fun w hw => hts w (List.mem_cons_of_mem _ hw)⟩ B.returns B.notSynchronized hnx hOk hP _ hl
/-- the words of 'throw new E(text)' in the class -/
def ecX (cls : String) (ik ic : Nat) : Prop := Bundle.fit cls = true ∧ Cond.classLink RX5 ik cls ∈ GW ∧ Cond.initialized cls ∈ GW ∧ (∀ w ∈ vx_atS RX5 ic cls ["java/lang/RuntimeException", "java/lang/Exception"], w ∈ GW ∨ w = .castable cls cls ∨ w ∈ ecDw) ∧ (cls, cls) ∈ ecCa
theorem ec_throw {cls text : String} {ik is ic : Nat} (hC : CallFix p m c cc nL s args GW RX5) (hl : l.stackTraces = false) (x : ecX cls ik ic) (hOk : ecOk G s s.heap) (hAN : ∀ q, A q → ecN0 G ≤ q) (hS : va_S A s.heap H locs) (hk : ecKp s.heap H) (hstr : (is, text) ∈ ecStr) (hls : ls.size = nL) (hnx : ∀ x ∈ c.exceptionTable.toList, False) (hlocks : meth.locks = false)
    (d0 : decode cc pc = .ok (.new ik, 3)) (d3 : decode cc (pc + 3) = .ok (.dup, 1)) (d4 : decode cc (pc + 4) = .ok (.ldc is, 2)) (d6 : decode cc (pc + 6) = .ok (.invokespecial ic, 3)) (d9 : decode cc (pc + 9) = .ok (.athrow, 1))
    (hX : X cls) (hR : 5 < R.frames ∧ (rest.map fun v => v.category).sum + 82 ≤ R.locals ∧ cells + 1 ≤ R.cells ∧ slots + 6 ≤ R.slots) (hc : cells + 1 ≤ mc) (hs : slots + 6 ≤ ms) :
    W p l e R s m args below meth c H locs cells slots (vx_MQ below Qc (ecXc X) args s mc ms A) (F0 m pc ls rest) := by
  obtain ⟨x1, x2, x3, x4, x5⟩ := x
  obtain ⟨sa, hsa⟩ := hOk.1.2.1 _ hstr
  have hts := hC.2.2.2.2
  refine vx_throwS (own := RX5) (names := ["java/lang/RuntimeException", "java/lang/Exception"]) (A := A) hC.1 hC.2.1 hl hC.2.2.2.1 x1 (by decide) (hts _ x2) (hts _ x3) hsa (fun w hw => (x4 w hw).elim (hts w) (fun e => e.elim (fun e => by rw [e]; exact hOk.1.ca x5) (fun e => hOk.1.dw e))) (fun w hw => ?_) (hOk.2.2.1.narrow hAN) (hOk.2.2.2.1.narrow hAN) hS (by rw [hls, hC.2.2.1]) d0 d3 d4 d6 d9 (fun x hx => (hnx x hx).elim) hR.1 hR.2.1 hR.2.2.1 hR.2.2.2 hlocks (fun t _ h1 h2 => ⟨hX, hk.tr ⟨h1, h2⟩⟩) hS.2.2 hc hs
  have hg : w ∈ GW ∨ w = .castable cls cls ∨ w ∈ ecDw := by
    rcases List.mem_cons.mp hw with rfl | hw
    · exact Or.inl x2
    rcases List.mem_cons.mp hw with rfl | hw
    · exact Or.inl x3
    exact x4 w hw
  rcases hg with hg | rfl | hg
  · unfold vx_ot
    rw [gw_good hg, Bool.or_true]
  · rfl
  · simp only [ecDw, List.mem_cons, List.not_mem_nil, or_false] at hg
    rcases hg with rfl | rfl | rfl <;> rfl
theorem ec_throwW {cls text : String} {ik is ic : Nat} (hC : CallFix p m c cc nL s args GW RX5) (hl : l.stackTraces = false) (x : ecX cls ik ic) (hOk : ecOk G s s.heap) (hAN : ∀ q, A q → ecN0 G ≤ q) (hS : va_S A s.heap H locs) (hk : ecKp s.heap H) (hstr : (is, text) ∈ ecStr) (hls : ls.size = nL) (hnx : ∀ x ∈ c.exceptionTable.toList, False) (hlocks : meth.locks = false)
    (d0 : decode cc pc = .ok (.new ik, 3)) (d3 : decode cc (pc + 3) = .ok (.dup, 1)) (d4 : decode cc (pc + 4) = .ok (.ldc_w is, 3)) (d7 : decode cc (pc + 7) = .ok (.invokespecial ic, 3)) (d10 : decode cc (pc + 10) = .ok (.athrow, 1))
    (hX : X cls) (hR : 5 < R.frames ∧ (rest.map fun v => v.category).sum + 82 ≤ R.locals ∧ cells + 1 ≤ R.cells ∧ slots + 6 ≤ R.slots) (hc : cells + 1 ≤ mc) (hs : slots + 6 ≤ ms) :
    W p l e R s m args below meth c H locs cells slots (vx_MQ below Qc (ecXc X) args s mc ms A) (F0 m pc ls rest) := by
  obtain ⟨x1, x2, x3, x4, x5⟩ := x
  obtain ⟨sa, hsa⟩ := hOk.1.2.1 _ hstr
  have hts := hC.2.2.2.2
  refine vx_throwSW (own := RX5) (names := ["java/lang/RuntimeException", "java/lang/Exception"]) (A := A) hC.1 hC.2.1 hl hC.2.2.2.1 x1 (by decide) (hts _ x2) (hts _ x3) hsa (fun w hw => (x4 w hw).elim (hts w) (fun e => e.elim (fun e => by rw [e]; exact hOk.1.ca x5) (fun e => hOk.1.dw e))) (fun w hw => ?_) (hOk.2.2.1.narrow hAN) (hOk.2.2.2.1.narrow hAN) hS (by rw [hls, hC.2.2.1]) d0 d3 d4 d7 d10 (fun x hx => (hnx x hx).elim) hR.1 hR.2.1 hR.2.2.1 hR.2.2.2 hlocks (fun t _ h1 h2 => ⟨hX, hk.tr ⟨h1, h2⟩⟩) hS.2.2 hc hs
  have hg : w ∈ GW ∨ w = .castable cls cls ∨ w ∈ ecDw := by
    rcases List.mem_cons.mp hw with rfl | hw
    · exact Or.inl x2
    rcases List.mem_cons.mp hw with rfl | hw
    · exact Or.inl x3
    exact x4 w hw
  rcases hg with hg | rfl | hg
  · unfold vx_ot
    rw [gw_good hg, Bool.or_true]
  · rfl
  · simp only [ecDw, List.mem_cons, List.not_mem_nil, or_false] at hg
    rcases hg with rfl | rfl | rfl <;> rfl
/-- an object's class is looked at -/
theorem ec_cast (hC : CallFix p m c cc nL s args GW own) (hK : ecKx G s) {ci : Nat} {fs : List Value} (ha : ecA G a (eO ci fs) H) {C : String} (hc : ∃ T N, ecCl[ci]? = some (C, T, N)) (hw : Cond.classLink own index C ∈ GW) (hdg : decode cc pc = .ok (.checkcast index, 3))
    (kk : W p l e R s m args below meth c H locs cells slots Q (F0 m (pc + 3) ls (.ref a :: rest))) : W p l e R s m args below meth c H locs cells slots Q (F0 m pc ls (.ref a :: rest)) := by
  obtain ⟨T, N, hc⟩ := hc
  exact va_castS hC.1 hC.2.1 hC.2.2.2.1 (hC.2.2.2.2 _ hw) (hK.1.1 ci _ hc).2 (va_recv (q0 := 0) hK.1 (ec_one ha) hc rfl) hdg kk
end ECM
