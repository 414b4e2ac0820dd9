abbrev ec_b13 : ByteArray := ⟨#[0x2a, 0x2b, 0xb7, 0x00, 0x0d, 0xb1]⟩
abbrev ecNse : String := "java/util/NoSuchElementException"
/-- the words of 'throw new NoSuchElementException(text)' in the class, but the four that speak of the heap -/
def ec_atN (ic : Nat) : List Cond := (ec_at RX5 ic 13 ec_b13 ecNse "java/lang/RuntimeException" ["java/lang/Exception"]).filter vx_no
def ecXN (ik ic : Nat) : Prop := Cond.classLink RX5 ik ecNse ∈ GW ∧ Cond.initialized ecNse ∈ GW ∧ (∀ w ∈ ec_atN ic, w ∈ GW ∨ w = .castable ecNse ecNse ∨ w ∈ ecDw)
section ECN
variable {p : Program} {l : Launch} {e : Env} {R : Room} {s : State} {m : MethodId} {args : Array Value} {below : List Frame} {meth : Method} {c : Code} {H : Heap} {locs : List Loc} {cells slots : Nat}
variable {cc : ByteArray} {pc nL mc ms : Nat} {ls : Array Slot} {rest : List Value} {G : ecG} {A : Nat → Prop} {Qc : Array Value → State → Outcome → State → Prop} {X : String → Prop}
theorem ec_throwN {text : String} {ik is ic : Nat} (hC : CallFix p m c cc nL s args GW RX5) (hl : l.stackTraces = false) (x : ecXN ik ic) (hOk : ecOk G s s.heap) (hAN : ∀ q, A q → ecN0 G ≤ q) (hS : va_S A s.heap H locs) (hk : ecKp s.heap H) (hstr0 : (is, text) ∈ ecStr) (hls : ls.size = nL) (hnx : ∀ x ∈ c.exceptionTable.toList, False) (hlocks : meth.locks = false)
    (d0 : decode cc pc = .ok (.new ik, 3)) (d3 : decode cc (pc + 3) = .ok (.dup, 1)) (d4 : decode cc (pc + 4) = .ok (.ldc is, 2)) (d6 : decode cc (pc + 6) = .ok (.invokespecial ic, 3)) (d9 : decode cc (pc + 9) = .ok (.athrow, 1))
    (hX : X ecNse) (hR : 5 < R.frames ∧ (rest.map fun v => v.category).sum + 82 ≤ R.locals ∧ cells + 1 ≤ R.cells ∧ slots + 6 ≤ R.slots) (hc : cells + 1 ≤ mc) (hs : slots + 6 ≤ ms) :
    W p l e R s m args below meth c H locs cells slots (vx_MQ below Qc (ecXc X) args s mc ms A) (F0 m pc ls rest) := by
  obtain ⟨x2, x3, x4⟩ := x
  obtain ⟨sa, hsa⟩ := hOk.1.2.1 _ hstr0
  have hts := hC.2.2.2.2
  have hexec := hC.1
  have hb := hC.2.1
  have hat : ∀ w ∈ ec_atN ic, w.before args s = true := fun w hw => (x4 w hw).elim (hts w) (fun e => e.elim (fun e => by rw [e]; exact hOk.1.ca (by decide)) (fun e => hOk.1.dw e))
  have hgood : ∀ w ∈ ec_atN ic, vx_ot w = true := by
    intro w hw
    rcases x4 w hw with hg | rfl | hg
    · unfold vx_ot
      rw [gw_good hg, Bool.or_true]
    · rfl
    · simp only [ecDw, List.mem_cons, List.not_mem_nil, or_false] at hg
      rcases hg with rfl | rfl | rfl <;> rfl
  have hgw : ∀ w : Cond, w ∈ GW → vx_ot w = true := fun w hg => by unfold vx_ot; rw [gw_good hg, Bool.or_true]
  intro T hT X9
  have htr : e.platform.stackTraces = false := (show e.platform.stackTraces = l.stackTraces by rw [X9.admits.platform]).trans hl
  have Y := vx_rebase X9 (R' := { frames := R.frames, locals := R.locals, cells := 1, slots := 6 }) (Nat.le_refl _) (Nat.le_refl _) hR.2.2.1 hR.2.2.2
  obtain ⟨s', hA⟩ : ∃ z, z = (T.setVm s.vm).setFrames (.invoking m args :: below) := ⟨_, rfl⟩
  rw [← hA] at Y
  have hvm : s'.vm = s.vm := by rw [hA]; rfl
  have hhp : s'.heap = H := by rw [hA]; exact hT
  have hW0 : s.WarmedH s'.vm := by rw [hvm]; exact State.WarmedH.refl s
  have hat' : ∀ w ∈ ec_atN ic, w.before args s' = true := fun w hw => vx_ot_at hW0 hvm.symm (hgood w hw) (hat w hw)
  have hk' : (Cond.classLink RX5 ik ecNse).before args s' = true := vx_ot_at hW0 hvm.symm (hgw _ x2) (hts _ x2)
  have hini' : (Cond.initialized ecNse).before args s' = true := vx_ot_at hW0 hvm.symm (hgw _ x3) (hts _ x3)
  have hU' : vx_Zq Bundle.tN "UNASSIGNED_STACK" Bundle.steD A s' s'.heap := by rw [hhp]; exact vx_Zq.moved hW0.alike ((hOk.2.2.1.narrow hAN).kept hS.2.1)
  have hN' : vx_Zq Bundle.tN "SUPPRESSED_SENTINEL" Bundle.listD A s' s'.heap := by rw [hhp]; exact vx_Zq.moved hW0.alike ((hOk.2.2.2.1.narrow hAN).kept hS.2.1)
  have h : ∀ w ∈ ec_at RX5 ic 13 ec_b13 ecNse "java/lang/RuntimeException" ["java/lang/Exception"], w.before args s' = true := by
    intro w hw
    by_cases hn : vx_no w = true
    · exact hat' w (List.mem_filter.mpr ⟨hw, hn⟩)
    · unfold vx_no at hn
      simp only [Bool.and_eq_true, decide_eq_true_eq, not_and, Classical.not_not] at hn
      by_cases n1 : w = .isRef (.static Bundle.tN "UNASSIGNED_STACK" Bundle.steD)
      · rw [n1]; exact vx_isRefq hU'.1
      by_cases n2 : w = .isRef (.static Bundle.tN "SUPPRESSED_SENTINEL" Bundle.listD)
      · rw [n2]; exact vx_isRefq hN'.1
      by_cases n3 : w = .laysStatic Bundle.tN "UNASSIGNED_STACK" Bundle.steD
      · rw [n3]; exact hU'.2.word
      by_cases n4 : w = .laysStatic Bundle.tN "SUPPRESSED_SENTINEL" Bundle.listD
      · rw [n4]; exact hN'.2.word
      exact absurd (hn ⟨⟨n1, n2⟩, n3⟩) n4
  have hown' : s'.vm.findClass RX5 = some m.cls := by rw [hvm]; exact hC.2.2.2.1
  have hins : (Cond.instantiable ecNse 6).before args s' = true := h _ (by simp [ec_at])
  obtain ⟨vm₁, cX, kX, hfX, hkX, -, -, X₁, st1⟩ := Y.newCold hexec (own := RX5) (C := ecNse) (index := ik) (n := 6) hown' hk' hins hini'
    (g := F0 m pc ls rest) rfl (by rw [hb]; exact d0) (Nat.le_refl _) (Nat.le_refl _)
  generalize hT1 : (T.setVm vm₁).pushCell { cls := cX, slots := kX.instanceTypes.map defaultValue, vm := .none } = T1 at X₁ st1
  have hcat : (Value.ref T.heap.size).category = 1 := rfl
  have hcellA : T1.heap[T.heap.size]? = some (freshCell cX kX) := by rw [← hT1]; exact State.heap_pushCell_size _ _
  have d3' : decode c.code (pc + 3) = .ok (.dup, 1) := by rw [hb]; exact d3
  have d4' : decode c.code (pc + 4) = .ok (.ldc is, 2) := by rw [hb]; exact d4
  have hstr' : vk_R RX5 is text sa s' := vk_R.warm hW0 hsa
  obtain ⟨U, hsteps, hrun, hend, hW, hsame, ce, hce, hcl9, hvm9⟩ := ec_ctorT X₁ hexec htr (own := RX5) (cls := ecNse) (sup := "java/lang/RuntimeException") (names := ["java/lang/Exception"]) (ic := ic) (i1 := 13) (b1 := ec_b13) hown' (by decide) (by decide) (by decide) (by decide +kernel) (by decide +kernel) (by decide +kernel) (by decide +kernel) h (fun x hx => nomatch hx) hfX hkX hcellA (by rw [hhp, hT]; exact Nat.le_refl _) (msg := .ref sa) rfl
    (g := { method := m, pc := pc + 6, locals := ls, stack := .ref sa :: .ref T.heap.size :: .ref T.heap.size :: rest, locked := none }) rfl (by rw [hls, hC.2.2.1]) rfl rfl (rest := rest) rfl
    (by rw [hb]; exact d6) (by rw [hb]; exact d9) (fun x hx => (hnx x hx).elim) hR.1 (by simp only [List.map_cons, List.sum_cons, hcat, List.length_cons, List.length_nil]; have := hR.2.1; show 2 * 0 + _ + _ ≤ _; omega) hlocks
  obtain ⟨f1, f2⟩ := vx_frame hsame
  rw [hhp] at f1 f2
  have hWs : s.WarmedH U.vm := State.WarmedH.trans hW0 hW
  have hcl : s.vm.findClass ecNse = some ce.cls := by rw [← hvm]; exact hcl9
  have hall : s.sameButNew ({ U with vm := s.vm } : State) locs mc ms := by
    subst hA
    obtain ⟨e1, e2⟩ := hsame
    rw [State.setFrames_setFrames] at e1
    have h2 : (T.setVm s.vm).sameButNew ({ U with vm := s.vm } : State) [] (0 + 1) (0 + 6) := ⟨e1, e2⟩
    have h3 := X9.same.trans h2
    rw [List.append_nil] at h3
    exact h3.mono hc hs
  refine ⟨U, ?_, .threw T.heap.size, hrun, hend, Or.inr ⟨T.heap.size, rfl, ecNse, ce, locs, ⟨hX, hk.tr ⟨f1, fun q hq => f2 q hq (fun z hz => nomatch hz)⟩⟩, hce, hvm9, hcl, hWs, hall, hS.2.2⟩⟩
  refine st1 _ ?_
  show Steps p.tables e below (T1.setTop { method := m, pc := pc + 3, locals := ls, stack := .ref T.heap.size :: rest, locked := none }) _
  jvm_step X₁.here [X₁.here.top, hexec, d3', Value.category]
  exact X₁.ldcString hexec (own := RX5) (text := text) (index := is) (a := sa) hown' hstr'.1 hstr'.2
    (g := { method := m, pc := pc + 4, locals := ls, stack := .ref T.heap.size :: .ref T.heap.size :: rest, locked := none }) rfl d4' _ hsteps
end ECN
