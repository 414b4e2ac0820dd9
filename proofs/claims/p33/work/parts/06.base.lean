/-- the good words of the tables: every method's list of words, but for its own code -/
def GW : List Cond := lw_tbl.filter goodWord
theorem gw_of {w : Cond} (i : Nat) (h : lw_tbl[i]? = some w) (g : goodWord w = true) : w ∈ GW := List.mem_filter.mpr ⟨List.mem_of_getElem? h, g⟩
theorem gw_good {w : Cond} (h : w ∈ GW) : goodWord w = true := (List.mem_filter.mp h).2
theorem gw_in {ws : List Cond} (h : ∀ w ∈ ws, w ∈ GW) : GoodIn GW ws := fun w hw => ⟨h w hw, good_of_word (gw_good (h w hw))⟩
abbrev ecWs (y : MethodName) (b : ByteArray) (n : Nat) (ret : Option FieldType) : List Cond := Cond.code y b n ret :: GW
theorem gw_m {y : MethodName} {b : ByteArray} {n : Nat} {ret : Option FieldType} (h : Cond.code y b n ret ∈ GW) : GoodIn GW (ecWs y b n ret) :=
  gw_in (fun w hw => (List.mem_cons.mp hw).elim (fun e => e ▸ h) id)
/-- the room of a method of depth d -/
def ecRm (d mc ms : Nat) : Room := { frames := d, cells := mc, slots := ms, locals := 40 * d }
/-- the classes whose objects the worlds hold -/
abbrev ecCl : List vw_C := [(RX0, TX0, 7), (RX1, TX1, 6), (RX2, TX2, 4), (RX3, TX3, 2), (RX4, TX4, 3), (RX5, TX5, 6), (RJx4a65c, TJx4a65c, 3), (RJx4a65c, TJx4a65c, 3)]
abbrev ecTys (T : Nat → ClassId) : List (ClassId × FieldType) := [(T 0, .int), (T 1, .long), (T 2, .boolean), (T 3, .object "java/lang/Object"), (T 4, .byte)]
/-- what stays the same through the law: the classes' numbers, the arrays' classes, the first cell of the law's own, the empty list's row -/
abbrev ecG : Type := va_G × (Nat → ClassId) × Nat × Nat × Nat
abbrev ecN0 (G : ecG) : Nat := G.2.2.1
abbrev ecTe (G : ecG) : Nat := G.2.2.2.1
abbrev ecMi (G : ecG) : Nat := G.2.2.2.2
/-- the strings of the class -/
def ecStr : List (Nat × String) := [(38, "there are 4 rooms"), (249, "there is no such room"), (253, "there is no such state"), (255, "there is no such place"), (92, "the first sample is 1 or -1"), (257, "a sample is from -9 to 9"), (98, "there are 40 answers"), (126, "there is no such answer"), (111, "a sample has an index from 0 to 3"), (143, "there are 20 filters"), (251, "there is no such filter"), (158, "a tap has an index from 0 to 5"), (168, "an input is from -999 to 999"), (172, "the use is barred"), (185, "a sample of a product row has an index from 0 to 5"), (195, "a limit is from 0 to 999"), (197, "there are no such hours to book"), (203, "it clashes with a booking"), (205, "there are 16 bookings"), (212, "the last hour is less than the first one"), (214, "it clashes with no booking"), (219, "there is no such booking"), (228, "it is cancelled or has begun"), (233, "so many hours can not pass"), (242, "no booking of the room is to come"), (244, "there are no filters")]
/-- which classes are below which -/
def ecCa : List (String × String) := [("java/lang/IllegalStateException", "java/lang/IllegalStateException"), ("java/lang/IndexOutOfBoundsException", "java/lang/IndexOutOfBoundsException"), ("java/lang/IllegalArgumentException", "java/lang/IllegalArgumentException"), ("java/util/NoSuchElementException", "java/util/NoSuchElementException"), ("java/lang/UnsupportedOperationException", "java/lang/UnsupportedOperationException"), (RX0, "java/lang/Object"), (RX1, "java/lang/Object"), (RX2, "java/lang/Object"), (RX3, "java/lang/Object")]
/-- the constructors that a throw's chain names -/
def ecDw : List Cond := [.declares ⟨"java/lang/RuntimeException", "<init>", "(Ljava/lang/String;)V"⟩, .declares ⟨"java/lang/Exception", "<init>", "(Ljava/lang/String;)V"⟩, .declares ⟨"java/lang/Throwable", "<init>", "(Ljava/lang/String;)V"⟩]
/-- which of the exceptions are not below which -/
def ecNc : List (String × String) := [("java/lang/IllegalArgumentException", "java/lang/IndexOutOfBoundsException"), ("java/lang/IllegalStateException", "java/lang/IndexOutOfBoundsException"), ("java/util/NoSuchElementException", "java/lang/IndexOutOfBoundsException"), ("java/lang/UnsupportedOperationException", "java/lang/IndexOutOfBoundsException"), ("java/lang/IllegalStateException", "java/lang/IllegalArgumentException"), ("java/util/NoSuchElementException", "java/lang/IllegalArgumentException"), ("java/lang/UnsupportedOperationException", "java/lang/IllegalArgumentException"), ("java/lang/IllegalStateException", "java/lang/UnsupportedOperationException")]
/-- the tables' part of the world -/
def ecKx (G : ecG) (U : State) : Prop := va_K G.1 ecCl (ecTys G.2.1) U ∧ (∀ q ∈ ecStr, ∃ sa, vk_R RX5 q.1 q.2 sa U) ∧ va_Mi "[Ljava/lang/Object;" (ecMi G) U ∧ va_Dc U ∧ va_AO "java/lang/Object" U ∧ (∀ q ∈ ecCa, va_Nw (.castable q.1 q.2) U) ∧ (∀ w ∈ ecDw, va_Nw w U) ∧ ∀ q ∈ ecNc, va_Nc q.1 q.2 U
/-- the statics' part -/
def ecSt (G : ecG) (U : State) (H : Heap) : Prop := ecN0 G ≤ H.size ∧ vx_Zq Bundle.tN "UNASSIGNED_STACK" Bundle.steD (fun q => ecN0 G ≤ q) U H ∧ vx_Zq Bundle.tN "SUPPRESSED_SENTINEL" Bundle.listD (fun q => ecN0 G ≤ q) U H ∧
  va_Z "java/util/ArrayList" "DEFAULTCAPACITY_EMPTY_ELEMENTDATA" "[Ljava/lang/Object;" (.ref (ecTe G)) (fun q => ecN0 G ≤ q) U H ∧ va_T (.object "java/lang/Object") (ecTe G) 0 (fun _ => .null) (fun q => ecN0 G ≤ q) U H
def ecOk (G : ecG) (U : State) (H : Heap) : Prop := ecKx G U ∧ ecSt G U H
theorem ecKx.warm {G : ecG} {u U : State} (hW : u.WarmedH U.vm) (h : ecKx G u) : ecKx G U := by
  obtain ⟨h1, h2, h3, h4, h5, h6, h7, hN⟩ := h
  exact ⟨va_K.moved hW.alike h1, fun q hq => (h2 q hq).elim fun sa hs => ⟨sa, vk_R.warm hW hs⟩, va_Mi.moved hW.alike h3, va_Dc.moved hW.alike h4, va_AO.moved hW.alike h5, fun q hq => va_Nw.warmC hW (h6 q hq), fun w hw => by
    have h8 := h7 w hw
    simp only [ecDw, List.mem_cons, List.not_mem_nil, or_false] at hw
    rcases hw with rfl | rfl | rfl <;> exact va_Nw.warmD hW h8, fun q hq => va_Nc.moved hW.alike (hN q hq)⟩
theorem ecKx.ca {G : ecG} {s : State} {args : Array Value} (h : ecKx G s) {C T : String} (hq : (C, T) ∈ ecCa) : (Cond.castable C T).before args s = true := va_Nw.use rfl (h.2.2.2.2.2.1 _ hq)
theorem ecKx.dw {G : ecG} {s : State} {args : Array Value} (h : ecKx G s) {w : Cond} (hq : w ∈ ecDw) : w.before args s = true := by
  have h8 := h.2.2.2.2.2.2.1 w hq
  simp only [ecDw, List.mem_cons, List.not_mem_nil, or_false] at hq
  rcases hq with rfl | rfl | rfl <;> exact va_Nw.use rfl h8
theorem ecKx.nc {G : ecG} {s : State} (h : ecKx G s) {C T : String} (hq : (C, T) ∈ ecNc) : va_Nc C T s := h.2.2.2.2.2.2.2 _ hq
theorem ecSt.moved {G : ecG} {u U : State} {H : Heap} (hvm : u.vm.Alike U.vm) (h : ecSt G u H) : ecSt G U H :=
  ⟨h.1, vx_Zq.moved hvm h.2.1, vx_Zq.moved hvm h.2.2.1, va_Z.moved hvm h.2.2.2.1, va_T.moved hvm h.2.2.2.2⟩
theorem ecSt.kept {G : ecG} {U : State} {H H1 : Heap} (h : ecSt G U H) (hz : H.size ≤ H1.size) (hq : ∀ q : Nat, q < ecN0 G → H1[q]? = H[q]?) : ecSt G U H1 := by
  have hq' : ∀ a : Nat, a < H.size → ¬ (ecN0 G ≤ a) → H1[a]? = H[a]? := fun a _ n => hq a (Nat.not_le.mp n)
  exact ⟨Nat.le_trans h.1 hz, h.2.1.kept hq', h.2.2.1.kept hq', h.2.2.2.1.kept hq', h.2.2.2.2.kept hq'⟩
theorem ecOk.to {G : ecG} {s U : State} {H : Heap} (h : ecOk G s H) (hU : U.heap = H) (hW : s.WarmedH U.vm) : ecOk G U U.heap :=
  ⟨h.1.warm hW, by rw [hU]; exact h.2.moved hW.alike⟩
/-- at a later heap of the same method -/
theorem ecOk.at {G : ecG} {s : State} {A : Nat → Prop} {H : Heap} {locs : List Loc} (h : ecOk G s s.heap) (hS : va_S A s.heap H locs) (hA : ∀ q, A q → ecN0 G ≤ q) : ecOk G s H :=
  ⟨h.1, h.2.kept hS.1 (fun q hq => hS.2.1 q (Nat.lt_of_lt_of_le hq h.2.1) (fun z => Nat.lt_irrefl _ (Nat.lt_of_lt_of_le hq (hA q z))))⟩
/-- a method's start: its arguments, the tables and statics, a picture of the heap -/
def ecPc (av : List Value) (G : ecG) (Pre : Heap → Prop) : Array Value → State → Prop := fun v U => v = av.toArray ∧ ecOk G U U.heap ∧ Pre U.heap
theorem ec_blind (av : List Value) (G : ecG) (Pre : Heap → Prop) : FrameBlind (ecPc av G Pre) := by
  intro a U g mk h
  obtain ⟨h1, h2, h3⟩ := h
  exact ⟨h1, ⟨h2.1.warm (U := U.calling g mk a) (State.WarmedH.refl U), h2.2.moved (Vm.Alike.refl U.vm)⟩, h3⟩
/-- an end: the heap is as it was, the answer is such -/
def ecRp (P : Option Value → Prop) : Array Value → State → Outcome → State → Prop := fun _ st o t => ∃ v, o = .returned v ∧ P v ∧ t.heap = st.heap
/-- an end with a new heap: only the cells of A are others -/
def ecEp (P : Option Value → Heap → Prop) (A : Nat → Prop) : Array Value → State → Outcome → State → Prop := fun _ st o t => ∃ v, o = .returned v ∧ P v t.heap ∧ va_F A st t
/-- the old heap is kept, new cells may stand behind it -/
def ecKp (H H1 : Heap) : Prop := H.size ≤ H1.size ∧ ∀ q : Nat, q < H.size → H1[q]? = H[q]?
theorem ecKp.rf {H : Heap} : ecKp H H := ⟨Nat.le_refl _, fun _ _ => rfl⟩
theorem ecKp.tr {H H1 H2 : Heap} (a : ecKp H H1) (b : ecKp H1 H2) : ecKp H H2 := ⟨Nat.le_trans a.1 b.1, fun q hq => (b.2 q (Nat.lt_of_lt_of_le hq a.1)).trans (a.2 q hq)⟩
/-- a throw: its class is such, the old heap is kept -/
def ecXc (X : String → Prop) : String → State → State → Prop := fun E st t => X E ∧ ecKp st.heap t.heap
/-- a world with one cell -/
theorem ec_one {D : va_G} {cl : List vw_C} {q : Nat × va_E} {H : Heap} (h : va_at D cl q H) : va_P D cl [q] H := by
  intro k x hk
  cases k with
  | zero => cases hk; exact h
  | succ k => simp at hk
theorem ec_oneD {A : Nat → Prop} {q : Nat × va_E} (h : A q.1) : va_D A [q] := by
  refine ⟨fun i j x y hi hj _ => ?_, fun k x hk => ?_⟩
  · have h1 := (List.getElem?_eq_some_iff.mp hi).1
    have h2 := (List.getElem?_eq_some_iff.mp hj).1
    simp at h1 h2
    omega
  · cases k with
    | zero => cases hk; exact h
    | succ k => simp at hk
theorem ec_ofone {D : va_G} {cl : List vw_C} {q : Nat × va_E} {H : Heap} (h : va_P D cl [q] H) : va_at D cl q H := h 0 q rfl
theorem va_at.kp {D : va_G} {cl : List vw_C} {q : Nat × va_E} {H H1 : Heap} (h : va_at D cl q H) (k : ecKp H H1) : va_at D cl q H1 := h.kept (k.2 _ h.lt)
theorem va_at.un {D : va_G} {cl : List vw_C} {q : Nat × va_E} {H H1 : Heap} {A : Nat → Prop} (h : va_at D cl q H) (k : ∀ x : Nat, x < H.size → ¬ A x → H1[x]? = H[x]?) (n : ¬ A q.1) : va_at D cl q H1 := h.kept (k _ h.lt n)
