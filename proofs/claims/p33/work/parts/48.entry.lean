/-! THE CLAIM OUT OF ONE WALK OF THE LAW'S BODY. Your part is whole_start (and what it stands on); all else here is the same for every law, but numbers. -/
def R_law : String := "EchoChamberLaw"
def lw_P (b : Addr) (xs : List Int32) (args : Array Value) (s : State) : Prop := args = #[.ref b] ∧ s.IntsAt b xs ∧ xs.length ≤ 260 ∧ (Jvm.Cond.and given_1 narrow_1).before args s = true
/-- what a walk over the start with the record d0 says of its end, said of the start itself -/
theorem lw_closed {s t : State} {o : Outcome} {d0 : Drawn} {L : List Loc} {k n : Nat} (hd0 : s.drawn.sameBut d0 lw_cs) (hv : ∃ v, o = .returned v) (hW : (s.setDrawn d0).WarmedH t.vm) (hs : (s.setDrawn d0).sameButNew ({ t with vm := s.vm } : State) L k n) : State.butDraws s t lw_cs (fun t1 => Framed s o t1 L k n) := by
  have h2 : t.drawn = d0 := congrArg State.drawn hs.1
  refine ⟨⟨hv, hW, State.sameButNew.setDrawn hs s.drawn⟩, ?_, by decide⟩
  rw [h2]
  exact hd0
def lw_Q (_ : Array Value) (s : State) (o : Outcome) (t : State) : Prop := o = .returned (some (.int 1)) ∧ State.butDraws s t lw_cs (fun t1 => Framed s o t1 [] 718548 6946127)
def lw_Z (below : List Frame) (a : Array Value) (s : State) : State → Prop := fun t => ∃ o, t.status = .running ∧ Ended t below o ∧ lw_Q a s o t
/-- the law's own end, with 1 on the stack, nothing written that was there before, its room as the claim has it; d0: the record of draws at this point (at the entry s.drawn: begin with 'refine W.base ?_' and 'have hd0 := Drawn.sameBut.refl s.drawn lw_cs') -/
theorem lw_ret {p : Program} {l : Launch} {e : Env} {s : State} {m : MethodId} {below : List Frame} {meth : Method} {c : Code} {b : Nat} {d0 : Drawn} (hd0 : s.drawn.sameBut d0 lw_cs) (hx : p.tables.exec = Jvm.exec) (hb : c.code = code) (hr : meth.sig.returnType = ret) (hlocks : meth.locks = false) {pc : Nat} {H : Heap} {ls : Array Slot} (hdg : decode code pc = .ok (.ireturn, 1)) : W p l e room_1 (s.setDrawn d0) m #[Value.ref b] below meth c H [] 718548 6946127 (lw_Z below #[Value.ref b] s) (F0 m pc ls [.int 1]) := by
  intro T hT X
  obtain ⟨fs, hret, hrun, hended, hW, hframe⟩ := X.leave (v := some (.int 1)) (hlocks := hlocks) (fun h => by rw [hr] at h; cases h)
  have hmeth' : T.vm.method? m = some meth := X.method'
  refine ⟨T.setFrames fs, ?_, .returned (some (.int 1)), hrun, hended, rfl, lw_closed hd0 ⟨_, rfl⟩ hW hframe⟩
  jvm_step X.here [X.here.top, hx, hb, hdg, hmeth', hr, ret, narrow_b1]
  (try refine ⟨rfl, ?_⟩); (try refine ⟨rfl, ?_⟩)
  first | (intro acts; rw [hret _ acts rfl rfl rfl]) | rw [hret _ _ rfl rfl rfl]
  exact Steps.refl _
/-- what holds at the law's entry: the machine, the code, the tables' words (any of lw_tbl by 'hts w (by decide +kernel)'), the script of L ints xs at the cell b, what the Statement gives of the start (any of its parts by flat_of_before) -/
def lw_At (p : Program) (s : State) (m : MethodId) (meth : Method) (c : Code) (b L : Nat) (xs : Nat → Int32) : Prop :=
  p.tables.exec = Jvm.exec ∧ c.code = code ∧ meth.sig.returnType = ret ∧ c.maxLocals = 28 ∧ s.vm.findClass R_law = some m.cls ∧ (∀ w ∈ lw_tbl, w.before #[Value.ref b] s = true) ∧ va_X b L xs s s.heap ∧ b < s.heap.size ∧ meth.locks = false ∧ (Jvm.Cond.and given_1 narrow_1).before #[Value.ref b] s = true

theorem htsG {args : Array Value} {s : State} (hts : ∀ w ∈ lw_tbl, w.before args s = true) : ∀ w ∈ GW, w.before args s = true := fun w hw => hts w (List.mem_filter.mp hw).1
theorem hts_i {args : Array Value} {s : State} (hts : ∀ w ∈ lw_tbl, w.before args s = true) (i : Nat) {w : Cond} (h : lw_tbl[i]? = some w) : w.before args s = true := hts w (List.mem_of_getElem? h)
def lw_nar : List Cond := flatC (Jvm.Cond.and given_1 narrow_1)
theorem hnr_i {args : Array Value} {s : State} (h : (Jvm.Cond.and given_1 narrow_1).before args s = true) (i : Nat) {w : Cond} (hw : lw_nar[i]? = some w) : w.before args s = true := flat_of_before _ h w (List.mem_of_getElem? hw)
theorem lw_arr {args : Array Value} {s : State} {ty : FieldType} (h : (Cond.arrayClass ty).before args s = true) : ∃ cA, ArrOfT s cA ty ∧ s.vm.findClass ("[" ++ ty.toString) = some cA := by
  obtain ⟨c, k, comp, h1, h2, h3⟩ := Cond.arrayClass_spec h
  exact ⟨c, fun n z => ⟨(fun k h => by cases h), k, h2, comp, h3⟩, h1⟩
theorem lw_arrO {args : Array Value} {s : State} {C : String} (h : (Cond.arrayOver (.object C)).before args s = true) : ∃ cA, ArrOfT s cA (.object C) ∧ va_RA s cA (.object C) := by
  obtain ⟨comp, c, k, h1, h2, h3, h4, h5⟩ := Cond.arrayOver_spec h
  exact ⟨c, fun n z => ⟨(fun k h => by cases h), k, h3, comp, h4⟩, k, comp, h3, h4, h1, h5⟩
theorem lw_str {args : Array Value} {s : State} {own tx : String} {k : Nat} (h1 : (Cond.stringRef own k tx).before args s = true) (h2 : (Cond.exactly (.string own k) "java/lang/String").before args s = true) : ∃ sa, vk_R own k tx sa s := by
  obtain ⟨a, c, cell, k9, h3, -⟩ := Cond.exactly_spec h2
  exact ⟨a, vk_R.of h1 h3⟩

set_option maxRecDepth 100000 in
theorem lw_strs {args : Array Value} {s : State} (hts : ∀ w ∈ lw_tbl, w.before args s = true) (h : (Jvm.Cond.and given_1 narrow_1).before args s = true) : ∀ q ∈ ecStr, ∃ sa, vk_R RX5 q.1 q.2 sa s :=
  List.forall_mem_cons.mpr ⟨lw_str (own := RX5) (hts_i hts 274 (by decide +kernel)) (hnr_i h 179 (by decide +kernel)), List.forall_mem_cons.mpr ⟨lw_str (own := RX5) (hts_i hts 145 (by decide +kernel)) (hnr_i h 66 (by decide +kernel)), List.forall_mem_cons.mpr ⟨lw_str (own := RX5) (hts_i hts 397 (by decide +kernel)) (hnr_i h 200 (by decide +kernel)), List.forall_mem_cons.mpr ⟨lw_str (own := RX5) (hts_i hts 424 (by decide +kernel)) (hnr_i h 226 (by decide +kernel)), List.forall_mem_cons.mpr ⟨lw_str (own := RX5) (hts_i hts 425 (by decide +kernel)) (hnr_i h 252 (by decide +kernel)), List.forall_mem_cons.mpr ⟨lw_str (own := RX5) (hts_i hts 429 (by decide +kernel)) (hnr_i h 283 (by decide +kernel)), List.forall_mem_cons.mpr ⟨lw_str (own := RX5) (hts_i hts 430 (by decide +kernel)) (hnr_i h 311 (by decide +kernel)), List.forall_mem_cons.mpr ⟨lw_str (own := RX5) (hts_i hts 207 (by decide +kernel)) (hnr_i h 91 (by decide +kernel)), List.forall_mem_cons.mpr ⟨lw_str (own := RX5) (hts_i hts 678 (by decide +kernel)) (hnr_i h 730 (by decide +kernel)), List.forall_mem_cons.mpr ⟨lw_str (own := RX5) (hts_i hts 490 (by decide +kernel)) (hnr_i h 335 (by decide +kernel)), List.forall_mem_cons.mpr ⟨lw_str (own := RX5) (hts_i hts 225 (by decide +kernel)) (hnr_i h 118 (by decide +kernel)), List.forall_mem_cons.mpr ⟨lw_str (own := RX5) (hts_i hts 236 (by decide +kernel)) (hnr_i h 145 (by decide +kernel)), List.forall_mem_cons.mpr ⟨lw_str (own := RX5) (hts_i hts 536 (by decide +kernel)) (hnr_i h 359 (by decide +kernel)), List.forall_mem_cons.mpr ⟨lw_str (own := RX5) (hts_i hts 546 (by decide +kernel)) (hnr_i h 391 (by decide +kernel)), List.forall_mem_cons.mpr ⟨lw_str (own := RX5) (hts_i hts 709 (by decide +kernel)) (hnr_i h 767 (by decide +kernel)), List.forall_mem_cons.mpr ⟨lw_str (own := RX5) (hts_i hts 571 (by decide +kernel)) (hnr_i h 412 (by decide +kernel)), List.forall_mem_cons.mpr ⟨lw_str (own := RX5) (hts_i hts 579 (by decide +kernel)) (hnr_i h 440 (by decide +kernel)), List.forall_mem_cons.mpr ⟨lw_str (own := RX5) (hts_i hts 597 (by decide +kernel)) (hnr_i h 475 (by decide +kernel)), List.forall_mem_cons.mpr ⟨lw_str (own := RX5) (hts_i hts 598 (by decide +kernel)) (hnr_i h 504 (by decide +kernel)), List.forall_mem_cons.mpr ⟨lw_str (own := RX5) (hts_i hts 636 (by decide +kernel)) (hnr_i h 529 (by decide +kernel)), List.forall_mem_cons.mpr ⟨lw_str (own := RX5) (hts_i hts 637 (by decide +kernel)) (hnr_i h 573 (by decide +kernel)), List.forall_mem_cons.mpr ⟨lw_str (own := RX5) (hts_i hts 645 (by decide +kernel)) (hnr_i h 603 (by decide +kernel)), List.forall_mem_cons.mpr ⟨lw_str (own := RX5) (hts_i hts 646 (by decide +kernel)) (hnr_i h 631 (by decide +kernel)), List.forall_mem_cons.mpr ⟨lw_str (own := RX5) (hts_i hts 658 (by decide +kernel)) (hnr_i h 663 (by decide +kernel)), List.forall_mem_cons.mpr ⟨lw_str (own := RX5) (hts_i hts 670 (by decide +kernel)) (hnr_i h 693 (by decide +kernel)), List.forall_mem_cons.mpr ⟨lw_str (own := RX5) (hts_i hts 727 (by decide +kernel)) (hnr_i h 821 (by decide +kernel)), fun _ h => absurd h List.not_mem_nil⟩⟩⟩⟩⟩⟩⟩⟩⟩⟩⟩⟩⟩⟩⟩⟩⟩⟩⟩⟩⟩⟩⟩⟩⟩⟩

set_option maxRecDepth 100000 in
theorem lw_cas {args : Array Value} {s : State} (hts : ∀ w ∈ lw_tbl, w.before args s = true) : ∀ q ∈ ecCa, va_Nw (.castable q.1 q.2) s :=
  List.forall_mem_cons.mpr ⟨va_Nw.of rfl (hts_i hts 267 (by decide +kernel)), List.forall_mem_cons.mpr ⟨va_Nw.of rfl (hts_i hts 104 (by decide +kernel)), List.forall_mem_cons.mpr ⟨va_Nw.of rfl (hts_i hts 390 (by decide +kernel)), List.forall_mem_cons.mpr ⟨va_Nw.of rfl (hts_i hts 229 (by decide +kernel)), List.forall_mem_cons.mpr ⟨va_Nw.of rfl (hts_i hts 539 (by decide +kernel)), List.forall_mem_cons.mpr ⟨va_Nw.of rfl (hts_i hts 742 (by decide +kernel)), List.forall_mem_cons.mpr ⟨va_Nw.of rfl (hts_i hts 746 (by decide +kernel)), List.forall_mem_cons.mpr ⟨va_Nw.of rfl (hts_i hts 744 (by decide +kernel)), List.forall_mem_cons.mpr ⟨va_Nw.of rfl (hts_i hts 738 (by decide +kernel)), fun _ h => absurd h List.not_mem_nil⟩⟩⟩⟩⟩⟩⟩⟩⟩

set_option maxRecDepth 100000 in
theorem lw_dws {args : Array Value} {s : State} (hts : ∀ w ∈ lw_tbl, w.before args s = true) : ∀ w ∈ ecDw, va_Nw w s :=
  List.forall_mem_cons.mpr ⟨va_Nw.of rfl (hts_i hts 106 (by decide +kernel)), List.forall_mem_cons.mpr ⟨va_Nw.of rfl (hts_i hts 108 (by decide +kernel)), List.forall_mem_cons.mpr ⟨va_Nw.of rfl (hts_i hts 110 (by decide +kernel)), fun _ h => absurd h List.not_mem_nil⟩⟩⟩

set_option maxRecDepth 100000 in
theorem lw_ncs {args : Array Value} {s : State} (h : (Jvm.Cond.and given_1 narrow_1).before args s = true) : ∀ q ∈ ecNc, va_Nc q.1 q.2 s :=
  List.forall_mem_cons.mpr ⟨va_Nc.of (hnr_i h 26 (by decide +kernel)), List.forall_mem_cons.mpr ⟨va_Nc.of (hnr_i h 23 (by decide +kernel)), List.forall_mem_cons.mpr ⟨va_Nc.of (hnr_i h 28 (by decide +kernel)), List.forall_mem_cons.mpr ⟨va_Nc.of (hnr_i h 30 (by decide +kernel)), List.forall_mem_cons.mpr ⟨va_Nc.of (hnr_i h 34 (by decide +kernel)), List.forall_mem_cons.mpr ⟨va_Nc.of (hnr_i h 39 (by decide +kernel)), List.forall_mem_cons.mpr ⟨va_Nc.of (hnr_i h 41 (by decide +kernel)), List.forall_mem_cons.mpr ⟨va_Nc.of (hnr_i h 56 (by decide +kernel)), fun _ h => absurd h List.not_mem_nil⟩⟩⟩⟩⟩⟩⟩⟩

set_option maxHeartbeats 4000000 in
set_option maxRecDepth 100000 in
/-- the law's entry: what stays the same through it -/
theorem lw_ok {s : State} {args : Array Value} (hts : ∀ w ∈ lw_tbl, w.before args s = true) (hgv : (Jvm.Cond.and given_1 narrow_1).before args s = true) : ∃ G : ecG, ecN0 G = s.heap.size ∧ ecOk G s s.heap := by
  obtain ⟨c0, i0, k0⟩ := u_known (C := RX0) (T := TX0) (N := 7) (htsG hts) cfX0.2.1 (htsG hts _ q418)
  obtain ⟨c1, i1, k1⟩ := u_known (C := RX1) (T := TX1) (N := 6) (htsG hts) cfX1.2.1 (htsG hts _ q586)
  obtain ⟨c2, i2, k2⟩ := u_known (C := RX2) (T := TX2) (N := 4) (htsG hts) cfX2.2.1 (htsG hts _ q478)
  obtain ⟨c3, i3, k3⟩ := u_known (C := RX3) (T := TX3) (N := 2) (htsG hts) cfX3.2.1 (htsG hts _ q268)
  obtain ⟨c4, i4, k4⟩ := u_known (C := RX4) (T := TX4) (N := 3) (htsG hts) cfX4.2.1 (htsG hts _ q270)
  obtain ⟨c5, i5, k5⟩ := u_known (C := RX5) (T := TX5) (N := 6) (htsG hts) cfX5.2.1 (htsG hts _ q25)
  obtain ⟨c6, i6, k6⟩ := u_known (C := RJx4a65c) (T := TJx4a65c) (N := 3) (htsG hts) cfJx4a65c.2.1 (htsG hts _ q33)
  obtain ⟨c7, i7, k7⟩ := u_known (C := RJx4a65c) (T := TJx4a65c) (N := 3) (htsG hts) cfJx4a65c.2.1 (htsG hts _ q33)
  obtain ⟨t0, a0, b0⟩ := lw_arr (htsG hts _ q451)
  obtain ⟨t1, a1, b1⟩ := lw_arr (htsG hts _ q502)
  obtain ⟨t2, a2, b2⟩ := lw_arr (htsG hts _ q720)
  obtain ⟨t3, a3, b3⟩ := lw_arr (htsG hts _ q158)
  obtain ⟨t4, a4, b4⟩ := lw_arrO (C := "java/lang/Object") (hts_i hts 365 (by decide +kernel))
  obtain ⟨mi, hmi⟩ := va_Mi.of (C := "[Ljava/lang/Object;") (hnr_i hgv 65 (by decide +kernel))
  have hA : ∀ a : Nat, a < s.heap.size → ¬ (fun q : Nat => s.heap.size ≤ q) a := fun a h => Nat.not_le.mpr h
  obtain ⟨te, ht1, ht2⟩ := va_Tof (tm := .static "java/util/ArrayList" "DEFAULTCAPACITY_EMPTY_ELEMENTDATA" "[Ljava/lang/Object;") (ty := .object "java/lang/Object") (N := 0) (f := fun _ => .null) (A := fun q : Nat => s.heap.size ≤ q) (by decide) (hnr_i hgv 5 (by decide +kernel)) (va_eqt (z := 0) (hnr_i hgv 7 (by decide +kernel))) (fun j hj => absurd hj (Nat.not_lt_zero j)) hA
  refine ⟨((fun k => if k = 0 then c0 else if k = 1 then c1 else if k = 2 then c2 else if k = 3 then c3 else if k = 4 then c4 else if k = 5 then c5 else if k = 6 then c6 else c7, fun k => if k = 0 then i0 else if k = 1 then i1 else if k = 2 then i2 else if k = 3 then i3 else if k = 4 then i4 else if k = 5 then i5 else if k = 6 then i6 else i7), fun k => if k = 0 then t0 else if k = 1 then t1 else if k = 2 then t2 else if k = 3 then t4 else t3, s.heap.size, te, mi), rfl, ⟨⟨?_, ?_⟩, lw_strs hts hgv, hmi, va_Dc.of (hts_i hts 751 (by decide +kernel)), va_AO.of (hts_i hts 365 (by decide +kernel)), lw_cas hts, lw_dws hts, lw_ncs hgv⟩, Nat.le_refl _, ?_, ?_, ?_, ht2⟩
  · intro k q hq
    match k, hq with
    | 0, hq => cases hq; exact k0
    | 1, hq => cases hq; exact k1
    | 2, hq => cases hq; exact k2
    | 3, hq => cases hq; exact k3
    | 4, hq => cases hq; exact k4
    | 5, hq => cases hq; exact k5
    | 6, hq => cases hq; exact k6
    | 7, hq => cases hq; exact k7
    | k + 8, hq => simp [ecCl] at hq
  · intro k q hq
    match k, hq with
    | 0, hq => cases hq; exact ⟨a0, b0⟩
    | 1, hq => cases hq; exact ⟨a1, b1⟩
    | 2, hq => cases hq; exact ⟨a2, b2⟩
    | 3, hq => cases hq; exact ⟨a4, b4⟩
    | 4, hq => cases hq; exact ⟨a3, b3⟩
    | k + 5, hq => simp [ecTys] at hq
  · exact vx_Zqof (hts_i hts 129 (by decide +kernel)) (hts_i hts 18 (by decide +kernel)) (hnr_i hgv 8 (by decide +kernel)) hA
  · exact vx_Zqof (hts_i hts 131 (by decide +kernel)) (hts_i hts 18 (by decide +kernel)) (hnr_i hgv 9 (by decide +kernel)) hA
  · exact va_Zof (hts_i hts 58 (by decide +kernel)) (htsG hts _ q4) ht1 hA
