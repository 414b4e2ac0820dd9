section
-- ===== PART A: goes FIRST, ahead of the names: the tables' words, and 'selects' of the private methods out of them =====
/-- a private method of a class that the tables say can be made, by its rows of tables_1 -/
def lw_okq (q : MethodName × Nat) : Prop := (q.1.cls ≠ "java/lang/invoke/MethodHandle" ∧ q.1.cls ≠ "java/lang/invoke/VarHandle") ∧ Cond.instantiable q.1.cls q.2 ∈ tables_1 ∧ Cond.privateMethod q.1 ∈ tables_1 ∧ Cond.instanceMethod q.1 ∈ tables_1
theorem lw_p0 : lw_okq (⟨"EchoChamber", "firstBar", "(LEchoChamber$Filter;)C"⟩, 6) := ⟨⟨by decide +kernel, by decide +kernel⟩, List.mem_of_getElem? (i := 26) (by decide +kernel), List.mem_of_getElem? (i := 106) (by decide +kernel), List.mem_of_getElem? (i := 107) (by decide +kernel)⟩
theorem lw_p1 : lw_okq (⟨"EchoChamber", "newestAnswer", "(LEchoChamber$Room;ILEchoChamber$State;)LEchoChamber$Answer;"⟩, 6) := ⟨⟨by decide +kernel, by decide +kernel⟩, List.mem_of_getElem? (i := 26) (by decide +kernel), List.mem_of_getElem? (i := 114) (by decide +kernel), List.mem_of_getElem? (i := 115) (by decide +kernel)⟩
theorem lw_p2 : lw_okq (⟨"java/lang/Throwable", "fillInStackTrace", "(I)Ljava/lang/Throwable;"⟩, 6) := ⟨⟨by decide +kernel, by decide +kernel⟩, List.mem_of_getElem? (i := 180) (by decide +kernel), List.mem_of_getElem? (i := 178) (by decide +kernel), List.mem_of_getElem? (i := 179) (by decide +kernel)⟩
theorem lw_p3 : lw_okq (⟨"java/util/ArrayList", "add", "(Ljava/lang/Object;[Ljava/lang/Object;I)V"⟩, 3) := ⟨⟨by decide +kernel, by decide +kernel⟩, List.mem_of_getElem? (i := 34) (by decide +kernel), List.mem_of_getElem? (i := 250) (by decide +kernel), List.mem_of_getElem? (i := 251) (by decide +kernel)⟩
theorem lw_p4 : lw_okq (⟨"java/util/ArrayList", "grow", "()[Ljava/lang/Object;"⟩, 3) := ⟨⟨by decide +kernel, by decide +kernel⟩, List.mem_of_getElem? (i := 34) (by decide +kernel), List.mem_of_getElem? (i := 254) (by decide +kernel), List.mem_of_getElem? (i := 255) (by decide +kernel)⟩
theorem lw_p5 : lw_okq (⟨"java/util/ArrayList", "grow", "(I)[Ljava/lang/Object;"⟩, 3) := ⟨⟨by decide +kernel, by decide +kernel⟩, List.mem_of_getElem? (i := 34) (by decide +kernel), List.mem_of_getElem? (i := 258) (by decide +kernel), List.mem_of_getElem? (i := 259) (by decide +kernel)⟩
theorem lw_p6 : lw_okq (⟨"EchoChamber", "roomAt", "(I)LEchoChamber$Room;"⟩, 6) := ⟨⟨by decide +kernel, by decide +kernel⟩, List.mem_of_getElem? (i := 26) (by decide +kernel), List.mem_of_getElem? (i := 315) (by decide +kernel), List.mem_of_getElem? (i := 316) (by decide +kernel)⟩
theorem lw_p7 : lw_okq (⟨"EchoChamber", "answerAt", "(I)LEchoChamber$Answer;"⟩, 6) := ⟨⟨by decide +kernel, by decide +kernel⟩, List.mem_of_getElem? (i := 26) (by decide +kernel), List.mem_of_getElem? (i := 446) (by decide +kernel), List.mem_of_getElem? (i := 447) (by decide +kernel)⟩
theorem lw_p8 : lw_okq (⟨"EchoChamber", "isFirstOfItsState", "(I)Z"⟩, 6) := ⟨⟨by decide +kernel, by decide +kernel⟩, List.mem_of_getElem? (i := 26) (by decide +kernel), List.mem_of_getElem? (i := 488) (by decide +kernel), List.mem_of_getElem? (i := 489) (by decide +kernel)⟩
theorem lw_p9 : lw_okq (⟨"EchoChamber", "filterAt", "(I)LEchoChamber$Filter;"⟩, 6) := ⟨⟨by decide +kernel, by decide +kernel⟩, List.mem_of_getElem? (i := 26) (by decide +kernel), List.mem_of_getElem? (i := 532) (by decide +kernel), List.mem_of_getElem? (i := 533) (by decide +kernel)⟩
theorem lw_p10 : lw_okq (⟨"EchoChamber", "firstClash", "(LEchoChamber$Room;LEchoChamber$State;II)LEchoChamber$Booking;"⟩, 6) := ⟨⟨by decide +kernel, by decide +kernel⟩, List.mem_of_getElem? (i := 26) (by decide +kernel), List.mem_of_getElem? (i := 639) (by decide +kernel), List.mem_of_getElem? (i := 640) (by decide +kernel)⟩
theorem lw_p11 : lw_okq (⟨"EchoChamber", "standingBookings", "()I"⟩, 6) := ⟨⟨by decide +kernel, by decide +kernel⟩, List.mem_of_getElem? (i := 26) (by decide +kernel), List.mem_of_getElem? (i := 705) (by decide +kernel), List.mem_of_getElem? (i := 706) (by decide +kernel)⟩
theorem lw_p12 : lw_okq (⟨"EchoChamber", "beginBookings", "()I"⟩, 6) := ⟨⟨by decide +kernel, by decide +kernel⟩, List.mem_of_getElem? (i := 26) (by decide +kernel), List.mem_of_getElem? (i := 717) (by decide +kernel), List.mem_of_getElem? (i := 718) (by decide +kernel)⟩
theorem lw_p13 : lw_okq (⟨"EchoChamberModel", "fails", "(I)Z"⟩, 24) := ⟨⟨by decide +kernel, by decide +kernel⟩, List.mem_of_getElem? (i := 738) (by decide +kernel), List.mem_of_getElem? (i := 826) (by decide +kernel), List.mem_of_getElem? (i := 827) (by decide +kernel)⟩
theorem lw_p14 : lw_okq (⟨"EchoChamberModel", "isRoom", "(I)Z"⟩, 24) := ⟨⟨by decide +kernel, by decide +kernel⟩, List.mem_of_getElem? (i := 738) (by decide +kernel), List.mem_of_getElem? (i := 834) (by decide +kernel), List.mem_of_getElem? (i := 835) (by decide +kernel)⟩
theorem lw_p15 : lw_okq (⟨"EchoChamberModel", "gives", "(II)I"⟩, 24) := ⟨⟨by decide +kernel, by decide +kernel⟩, List.mem_of_getElem? (i := 738) (by decide +kernel), List.mem_of_getElem? (i := 847) (by decide +kernel), List.mem_of_getElem? (i := 848) (by decide +kernel)⟩
def lw_privs_1 : List (MethodName × Nat) := [(⟨"EchoChamber", "firstBar", "(LEchoChamber$Filter;)C"⟩, 6), (⟨"EchoChamber", "newestAnswer", "(LEchoChamber$Room;ILEchoChamber$State;)LEchoChamber$Answer;"⟩, 6), (⟨"java/lang/Throwable", "fillInStackTrace", "(I)Ljava/lang/Throwable;"⟩, 6), (⟨"java/util/ArrayList", "add", "(Ljava/lang/Object;[Ljava/lang/Object;I)V"⟩, 3), (⟨"java/util/ArrayList", "grow", "()[Ljava/lang/Object;"⟩, 3), (⟨"java/util/ArrayList", "grow", "(I)[Ljava/lang/Object;"⟩, 3), (⟨"EchoChamber", "roomAt", "(I)LEchoChamber$Room;"⟩, 6), (⟨"EchoChamber", "answerAt", "(I)LEchoChamber$Answer;"⟩, 6), (⟨"EchoChamber", "isFirstOfItsState", "(I)Z"⟩, 6), (⟨"EchoChamber", "filterAt", "(I)LEchoChamber$Filter;"⟩, 6), (⟨"EchoChamber", "firstClash", "(LEchoChamber$Room;LEchoChamber$State;II)LEchoChamber$Booking;"⟩, 6), (⟨"EchoChamber", "standingBookings", "()I"⟩, 6), (⟨"EchoChamber", "beginBookings", "()I"⟩, 6), (⟨"EchoChamberModel", "fails", "(I)Z"⟩, 24), (⟨"EchoChamberModel", "isRoom", "(I)Z"⟩, 24), (⟨"EchoChamberModel", "gives", "(II)I"⟩, 24)]
theorem lw_r1 : ∀ q ∈ lw_privs_1, lw_okq q := List.forall_mem_cons.mpr ⟨lw_p0, List.forall_mem_cons.mpr ⟨lw_p1, List.forall_mem_cons.mpr ⟨lw_p2, List.forall_mem_cons.mpr ⟨lw_p3, List.forall_mem_cons.mpr ⟨lw_p4, List.forall_mem_cons.mpr ⟨lw_p5, List.forall_mem_cons.mpr ⟨lw_p6, List.forall_mem_cons.mpr ⟨lw_p7, List.forall_mem_cons.mpr ⟨lw_p8, List.forall_mem_cons.mpr ⟨lw_p9, List.forall_mem_cons.mpr ⟨lw_p10, List.forall_mem_cons.mpr ⟨lw_p11, List.forall_mem_cons.mpr ⟨lw_p12, List.forall_mem_cons.mpr ⟨lw_p13, List.forall_mem_cons.mpr ⟨lw_p14, List.forall_mem_cons.mpr ⟨lw_p15, fun _ h => absurd h List.not_mem_nil⟩⟩⟩⟩⟩⟩⟩⟩⟩⟩⟩⟩⟩⟩⟩⟩
theorem lw_p16 : lw_okq (⟨"EchoChamberModel", "failsRoom", "(I)Z"⟩, 24) := ⟨⟨by decide +kernel, by decide +kernel⟩, List.mem_of_getElem? (i := 738) (by decide +kernel), List.mem_of_getElem? (i := 858) (by decide +kernel), List.mem_of_getElem? (i := 859) (by decide +kernel)⟩
theorem lw_p17 : lw_okq (⟨"EchoChamberModel", "failsAnswer", "(I)Z"⟩, 24) := ⟨⟨by decide +kernel, by decide +kernel⟩, List.mem_of_getElem? (i := 738) (by decide +kernel), List.mem_of_getElem? (i := 882) (by decide +kernel), List.mem_of_getElem? (i := 883) (by decide +kernel)⟩
theorem lw_p18 : lw_okq (⟨"EchoChamberModel", "ageOf", "(I)I"⟩, 24) := ⟨⟨by decide +kernel, by decide +kernel⟩, List.mem_of_getElem? (i := 738) (by decide +kernel), List.mem_of_getElem? (i := 890) (by decide +kernel), List.mem_of_getElem? (i := 891) (by decide +kernel)⟩
theorem lw_p19 : lw_okq (⟨"EchoChamberModel", "latestOf", "(III)I"⟩, 24) := ⟨⟨by decide +kernel, by decide +kernel⟩, List.mem_of_getElem? (i := 738) (by decide +kernel), List.mem_of_getElem? (i := 898) (by decide +kernel), List.mem_of_getElem? (i := 899) (by decide +kernel)⟩
theorem lw_p20 : lw_okq (⟨"EchoChamberModel", "failsFilter", "(I)Z"⟩, 24) := ⟨⟨by decide +kernel, by decide +kernel⟩, List.mem_of_getElem? (i := 738) (by decide +kernel), List.mem_of_getElem? (i := 918) (by decide +kernel), List.mem_of_getElem? (i := 919) (by decide +kernel)⟩
theorem lw_p21 : lw_okq (⟨"EchoChamberModel", "barOf", "(I)C"⟩, 24) := ⟨⟨by decide +kernel, by decide +kernel⟩, List.mem_of_getElem? (i := 738) (by decide +kernel), List.mem_of_getElem? (i := 930) (by decide +kernel), List.mem_of_getElem? (i := 931) (by decide +kernel)⟩
theorem lw_p22 : lw_okq (⟨"EchoChamberModel", "failsPair", "(II)Z"⟩, 24) := ⟨⟨by decide +kernel, by decide +kernel⟩, List.mem_of_getElem? (i := 738) (by decide +kernel), List.mem_of_getElem? (i := 946) (by decide +kernel), List.mem_of_getElem? (i := 947) (by decide +kernel)⟩
theorem lw_p23 : lw_okq (⟨"EchoChamberModel", "productOf", "(III)J"⟩, 24) := ⟨⟨by decide +kernel, by decide +kernel⟩, List.mem_of_getElem? (i := 738) (by decide +kernel), List.mem_of_getElem? (i := 950) (by decide +kernel), List.mem_of_getElem? (i := 951) (by decide +kernel)⟩
theorem lw_p24 : lw_okq (⟨"EchoChamberModel", "rightOf", "(II)I"⟩, 24) := ⟨⟨by decide +kernel, by decide +kernel⟩, List.mem_of_getElem? (i := 738) (by decide +kernel), List.mem_of_getElem? (i := 958) (by decide +kernel), List.mem_of_getElem? (i := 959) (by decide +kernel)⟩
theorem lw_p25 : lw_okq (⟨"EchoChamberModel", "free", "()I"⟩, 24) := ⟨⟨by decide +kernel, by decide +kernel⟩, List.mem_of_getElem? (i := 738) (by decide +kernel), List.mem_of_getElem? (i := 974) (by decide +kernel), List.mem_of_getElem? (i := 975) (by decide +kernel)⟩
theorem lw_p26 : lw_okq (⟨"EchoChamberModel", "clashOf", "(IIII)I"⟩, 24) := ⟨⟨by decide +kernel, by decide +kernel⟩, List.mem_of_getElem? (i := 738) (by decide +kernel), List.mem_of_getElem? (i := 982) (by decide +kernel), List.mem_of_getElem? (i := 983) (by decide +kernel)⟩
def lw_privs_2 : List (MethodName × Nat) := [(⟨"EchoChamberModel", "failsRoom", "(I)Z"⟩, 24), (⟨"EchoChamberModel", "failsAnswer", "(I)Z"⟩, 24), (⟨"EchoChamberModel", "ageOf", "(I)I"⟩, 24), (⟨"EchoChamberModel", "latestOf", "(III)I"⟩, 24), (⟨"EchoChamberModel", "failsFilter", "(I)Z"⟩, 24), (⟨"EchoChamberModel", "barOf", "(I)C"⟩, 24), (⟨"EchoChamberModel", "failsPair", "(II)Z"⟩, 24), (⟨"EchoChamberModel", "productOf", "(III)J"⟩, 24), (⟨"EchoChamberModel", "rightOf", "(II)I"⟩, 24), (⟨"EchoChamberModel", "free", "()I"⟩, 24), (⟨"EchoChamberModel", "clashOf", "(IIII)I"⟩, 24)]
theorem lw_r2 : ∀ q ∈ lw_privs_2, lw_okq q := List.forall_mem_cons.mpr ⟨lw_p16, List.forall_mem_cons.mpr ⟨lw_p17, List.forall_mem_cons.mpr ⟨lw_p18, List.forall_mem_cons.mpr ⟨lw_p19, List.forall_mem_cons.mpr ⟨lw_p20, List.forall_mem_cons.mpr ⟨lw_p21, List.forall_mem_cons.mpr ⟨lw_p22, List.forall_mem_cons.mpr ⟨lw_p23, List.forall_mem_cons.mpr ⟨lw_p24, List.forall_mem_cons.mpr ⟨lw_p25, List.forall_mem_cons.mpr ⟨lw_p26, fun _ h => absurd h List.not_mem_nil⟩⟩⟩⟩⟩⟩⟩⟩⟩⟩⟩
def lw_privs : List (MethodName × Nat) := lw_privs_1 ++ (lw_privs_2)
def lw_tbl : List Cond := k2_sels lw_privs ++ tables_1
theorem lw_privs_ok : ∀ q ∈ lw_privs, lw_okq q := by
  show ∀ q ∈ lw_privs_1 ++ (lw_privs_2), lw_okq q
  exact List.forall_mem_append.mpr ⟨lw_r1, lw_r2⟩
/-- the streams that the claim lets the run draw from -/
abbrev lw_cs : List Choice := [Jvm.Choice.named "NaN.bits"]
theorem lw_bits : nanBits ∈ lw_cs := by first | decide | exact List.mem_cons_self | simp [lw_cs, nanBits]

/-! ===== BEGIN words of one list among another's, by their places ===== -/
theorem goodIn_r {big : List Cond} (ws : List Cond) (ps : List Nat) (hp : ws = ps.filterMap (fun i => big[i]?)) (h : ws.all goodWord = true) : GoodIn big ws := by
  intro w hw
  have h1 := List.all_eq_true.mp h w hw
  rw [hp] at hw
  obtain ⟨i, -, hi⟩ := List.mem_filterMap.mp hw
  have hm : w ∈ big := by first | exact List.mem_of_getElem? hi | exact List.getElem?_mem hi
  exact ⟨hm, good_of_word h1⟩
theorem goodIn_app {big a b : List Cond} (ha : GoodIn big a) (hb : GoodIn big b) : GoodIn big (a ++ b) := fun w h => (List.mem_append.mp h).elim (ha w) (hb w)
theorem goodIn_ca {big a b : List Cond} {c : Cond} (ha : GoodIn big (c :: a)) (hb : GoodIn big b) : GoodIn big (c :: (a ++ b)) := fun w h => (List.mem_cons.mp h).elim (fun e => ha w (List.mem_cons.mpr (Or.inl e))) (fun h => (List.mem_append.mp h).elim (fun h => ha w (List.mem_cons.mpr (Or.inr h))) (hb w))
theorem goodIn_sub {big ws : List Cond} (hm : ∀ w ∈ ws, w ∈ big) (h : ws.all goodWord = true) : GoodIn big ws := fun w hw => ⟨hm w hw, good_of_word (List.all_eq_true.mp h w hw)⟩
/-! ===== END ===== -/

/-! ===== BEGIN exceptions that leave a method, and their catching by the caller (launches without stack traces) ===== -/
section VXA
/-! The laws vx_back, vx_callV, vx_callS, vx_callSW, vx_throw0, vx_throwS follow proofs of the library, with one case more: JvmDerived/Free/Laws.lean (Back.of_free), Shelf42/LK1.lean (callV, callS), Shelf/KitTraced.lean (throwNew0V, throwNewS). -/
/-- where a method has thrown q: the class by its name, the cell, what was written, the world -/
def vx_T (XC : String → State → State → Prop) (st : State) (q : Addr) (t : State) (mc ms : Nat) (free : Addr → Prop) : Prop :=
  ∃ (E : String) (ce : Cell) (L : List Loc), XC E st t ∧ t.heap[q]? = some ce ∧ ce.vm = .none ∧ st.vm.findClass E = some ce.cls ∧ st.WarmedH t.vm ∧ st.sameButNew ({ t with vm := st.vm } : State) L mc ms ∧ ∀ z ∈ L, free z.base
def vx_Q (Qc : Array Value → State → Outcome → State → Prop) (XC : String → State → State → Prop) (mc ms : Nat) (free : Addr → Prop) : Array Value → State → Outcome → State → Prop := fun a st o t =>
  (Qc a st o t ∧ ∃ L, FrameEnd st o t L mc ms ∧ ∀ q ∈ L, free q.base) ∨ ∃ q, o = .threw q ∧ vx_T XC st q t mc ms free
/-- a callee that returns or throws -/
def vx_Met (l : Launch) (y : MethodName) (ws : List Cond) (rm : Room) (Pc : Array Value → State → Prop) (Qc : Array Value → State → Outcome → State → Prop) (XC : String → State → State → Prop) (mc ms : Nat) (free : Addr → Prop) : Prop :=
  MetFree l y (headSpec ws rm) Pc (fun _ _ _ _ _ => True) (vx_Q Qc XC mc ms free)
def vx_Post (XC : String → State → State → Prop) (mc ms : Nat) (free : Addr → Prop) : Pt → Array Value → Addr → Pt → Prop := fun A a q B =>
  ∃ (g : JFrame) (mk : MethodId) (t : State) (L : List Loc) (E : String) (ce : Cell), B.U.heap = t.heap ∧ B.U.vm = t.vm ∧ XC E (A.U.calling g mk a) t ∧ t.heap[q]? = some ce ∧ ce.vm = .none ∧ A.U.vm.findClass E = some ce.cls ∧ B.locs = A.locs ++ L ∧ (∀ z ∈ L, free z.base) ∧ B.cells = A.cells + mc ∧ B.slots = A.slots + ms
def vx_Back (l : Launch) (R : Room) (p : Program) (e : Env) (below : List Frame) (s : State) (sargs : Array Value) (y : MethodName) (len W9 : Nat)
    (Pre : Pt → Array Value → Prop) (Post : Pt → Array Value → Option Value → Pt → Prop) (PostX : Pt → Array Value → Addr → Pt → Prop) : Prop :=
  ∀ (m : MethodId) (meth : Method) (c : Code) (A : Pt) (g : JFrame) (ig : Instr) (mk : MethodId) (a : Array Value),
    Stand p l e R s m sargs below meth c A.U A.locs A.cells A.slots → g.method = m → g.locals.size = c.maxLocals → decode c.code g.pc = .ok (ig, len) →
    2 * g.monitorRoom + (g.stack.map fun v => v.category).sum ≤ W9 → A.U.methodNamed? y = some mk → Pre A a →
    (∃ (v : Option Value) (B : Pt), Stand p l e R s m sargs below meth c B.U B.locs B.cells B.slots ∧ Post A a v B ∧
      Steps p.tables e below (doInvoke e (A.U.setTop g) [] mk a).1 (B.U.setTop { g with pc := g.pc + len, stack := v.toList ++ g.stack })) ∨
    (∃ (q : Addr) (B : Pt), Stand p l e R s m sargs below meth c B.U B.locs B.cells B.slots ∧ PostX A a q B ∧
      Steps p.tables e below (doInvoke e (A.U.setTop g) [] mk a).1 ((B.U.setTop g).pushFrame (.throwing q)))
section Payer
variable {l : Launch} {R : Room} {p : Program} {e : Env} {below : List Frame} {s : State} {sargs : Array Value} {y : MethodName} {len W9 : Nat}
theorem vx_back {ws : List Cond} {rm : Room} {Pc : Array Value → State → Prop} {Qc : Array Value → State → Outcome → State → Prop} {XC : String → State → State → Prop} {mc ms : Nat} {free : Addr → Prop} {bytes : ByteArray} {maxL : Nat} {ret : Option FieldType}
    (hM : vx_Met l y ws rm Pc Qc XC mc ms free) (hblind : FrameBlind Pc) (hrc : rm.cells = mc) (hrs : rm.slots = ms)
    (hframes : rm.frames + 1 ≤ R.frames) (hlocals : W9 + (maxL + 11) + rm.locals ≤ R.locals)
    (hws : ∀ w ∈ ws, ∀ a' U, s.WarmedH U.vm → w.before a' U = true) (hcode : Cond.code y bytes maxL ret ∈ ws) (hinit : ∀ a' U, s.WarmedH U.vm → (Cond.initialized y.cls).before a' U = true) :
    vx_Back l R p e below s sargs y len W9 (PreOf R mc ms Pc) (PostOf Qc mc ms free) (vx_Post XC mc ms free) := by
  intro m meth c A g ig mk a X hg hsize hdg hW hn hp
  have h1 : (headSpec ws rm).pre.before a A.U = true := atoms_intro fun w hw => hws w hw _ _ X.warmed
  have h2 : (Cond.code y bytes maxL ret).before a A.U = true := hws _ hcode _ _ X.warmed
  have h3 : (Cond.initialized y.cls).before a A.U = true := hinit _ _ X.warmed
  have h4 : A.cells + (headSpec ws rm).room.cells ≤ R.cells := by rw [show (headSpec ws rm).room.cells = mc from hrc]; exact hp.1
  have h5 : A.slots + (headSpec ws rm).room.slots ≤ R.slots := by rw [show (headSpec ws rm).room.slots = ms from hrs]; exact hp.2.1
  have hPc : Pc a (A.U.calling g mk a) := hblind _ _ _ _ hp.2.2
  obtain ⟨U, Ls, c0, s0⟩ := A
  dsimp only [Pt.U, Pt.locs, Pt.cells, Pt.slots] at h1 h2 h3 h4 h5 X hn hPc ⊢
  obtain ⟨methY, cY, hmY, hcY, -, hlY, -, -, -, -⟩ := Cond.code_spec hn h2
  obtain ⟨kY, hkY, -⟩ := className_of_methodNamed hn
  have hinitY : kY.init = .initialized := Cond.initialized_spec (findClass_of_methodNamed hn) hkY h3
  have h : At U g.method c below := by rw [hg]; exact X.here
  have hlocals9 : W9 + (maxL + 11) + (headSpec ws rm).room.locals ≤ R.locals := hlocals
  have happ : (headSpec ws rm).appliesLoose y e.platform (U.calling g mk a) = true :=
    Spec.appliesLoose_calling (g := g) h hdg hn hkY hinitY
      (X.room_calling (g := g) (R' := (headSpec ws rm).room) hsize hmY hcY hframes (by rw [hlY]; omega) h4 h5) h1
  obtain ⟨mid, hmid⟩ := h.above
  have hfr : (U.setTop g).frames = (.java g :: mid) ++ below := by rw [State.frames_setTop' g h.top, hmid]; rfl
  obtain ⟨o, s₂, hsteps, -, hend, hq⟩ := Steps.callFree hM p X.admits X.cas X.clock (acts := []) hfr happ hPc trivial
  have hq' : vx_Q Qc XC mc ms free a (U.calling g mk a) o s₂ := hq
  rw [State.frames_setTop' g h.top] at hend
  obtain ⟨g₀, hg0⟩ := Option.isSome_iff_exists.mp h.top
  obtain ⟨r, hr⟩ := State.topJava?_eq_some.mp hg0
  have hr' : (({ U with heap := s₂.heap, slotsUsed := s₂.slotsUsed } : State).setVm s₂.vm).frames = .java g₀ :: r := hr
  rcases hq' with ⟨hqc, L, hfe, hL⟩ | ⟨q, rfl, E, ce, L, hx, hce, hcv, hcl, hW₂, hsm, hL⟩
  · obtain ⟨⟨v, rfl⟩, hW₂, e2, q2, q3, q4, q5, q6⟩ := id hfe
    have e3 : s₂ = ({ (U.calling g mk a).setFrames s₂.frames with heap := s₂.heap, slotsUsed := s₂.slotsUsed } : State).setVm s₂.vm := by
      have : s₂ = ({ s₂ with vm := (U.calling g mk a).vm } : State).setVm s₂.vm := rfl
      rw [e2] at this
      exact this
    obtain ⟨c₂, i₂, len₂, hc₂, hd₂, hf₂⟩ := hend
    have hW' : U.WarmedH s₂.vm := hW₂
    have hcc : c₂ = c := by
      have h1 : s₂.code? g.method = U.code? g.method := by
        rw [State.code?_eq, State.code?_eq, hW'.alike.method?]
      exact Option.some.inj (hc₂.symm.trans (h1.trans h.code))
    subst hcc
    have hlen : len₂ = len := by rw [hdg] at hd₂; cases hd₂; rfl
    subst hlen
    have hs₂ : s₂ = (({ U with heap := s₂.heap, slotsUsed := s₂.slotsUsed } : State).setVm s₂.vm).setTop { g with pc := g.pc + len₂, stack := v.toList ++ g.stack } := by
      refine e3.trans ?_
      rw [hf₂, State.calling_eq h.top, State.setFrames_setFrames, State.setTop_of_frames _ hr', hr]
      rfl
    have hsame : U.sameButNew ({ U with heap := s₂.heap, slotsUsed := s₂.slotsUsed } : State) L mc ms := by
      refine ⟨?_, q2, q3, q4, q5, q6⟩
      obtain ⟨t, ht, -⟩ := State.frames_cons hr
      show ({ U with heap := s₂.heap, slotsUsed := s₂.slotsUsed } : State) = { U.setFrames U.frames with heap := s₂.heap, slotsUsed := s₂.slotsUsed }
      rw [State.setFrames_self ht]
    subst hg
    refine Or.inl ⟨v, ⟨(({ U with heap := s₂.heap, slotsUsed := s₂.slotsUsed } : State).setVm s₂.vm), Ls ++ L, c0 + mc, s0 + ms⟩,
      ⟨X.admits, X.cas, X.clock, X.frames, X.room, X.hears, X.method, X.code, (X.here.setHeapUsed s₂.heap s₂.slotsUsed).setVm hW'.alike, X.tail, State.WarmedH.trans X.warmed hW', X.limits, X.bytes, X.same.trans (hsame.setVm s.vm)⟩,
      ⟨g, mk, s₂, L, rfl, rfl, hqc, rfl, hL, rfl, rfl⟩, ?_⟩
    show Steps p.tables e below _ ((({ U with heap := s₂.heap, slotsUsed := s₂.slotsUsed } : State).setVm s₂.vm).setTop { g with pc := g.pc + len₂, stack := v.toList ++ g.stack })
    rw [← hs₂]
    exact hsteps
  · obtain ⟨e2, q2, q3, q4, q5, q6⟩ := id hsm
    have e3 : s₂ = ({ (U.calling g mk a).setFrames s₂.frames with heap := s₂.heap, slotsUsed := s₂.slotsUsed } : State).setVm s₂.vm := by
      have : s₂ = ({ s₂ with vm := (U.calling g mk a).vm } : State).setVm s₂.vm := rfl
      rw [e2] at this
      exact this
    have hf₂ : s₂.frames = .throwing q :: .java g :: U.frames.tail := hend
    have hW' : U.WarmedH s₂.vm := hW₂
    have hs₂ : s₂ = ((({ U with heap := s₂.heap, slotsUsed := s₂.slotsUsed } : State).setVm s₂.vm).setTop g).pushFrame (.throwing q) := by
      refine e3.trans ?_
      rw [hf₂, State.calling_eq h.top, State.setFrames_setFrames, State.pushFrame, State.frames_setTop _ hr', State.setTop_of_frames _ hr', State.setFrames_setFrames, hr]
      rfl
    have hsame : U.sameButNew ({ U with heap := s₂.heap, slotsUsed := s₂.slotsUsed } : State) L mc ms := by
      refine ⟨?_, q2, q3, q4, q5, q6⟩
      obtain ⟨t, ht, -⟩ := State.frames_cons hr
      show ({ U with heap := s₂.heap, slotsUsed := s₂.slotsUsed } : State) = { U.setFrames U.frames with heap := s₂.heap, slotsUsed := s₂.slotsUsed }
      rw [State.setFrames_self ht]
    subst hg
    refine Or.inr ⟨q, ⟨(({ U with heap := s₂.heap, slotsUsed := s₂.slotsUsed } : State).setVm s₂.vm), Ls ++ L, c0 + mc, s0 + ms⟩,
      ⟨X.admits, X.cas, X.clock, X.frames, X.room, X.hears, X.method, X.code, (X.here.setHeapUsed s₂.heap s₂.slotsUsed).setVm hW'.alike, X.tail, State.WarmedH.trans X.warmed hW', X.limits, X.bytes, X.same.trans (hsame.setVm s.vm)⟩,
      ⟨g, mk, s₂, L, E, ce, rfl, rfl, hx, hce, hcv, hcl, rfl, hL, rfl, rfl⟩, ?_⟩
    show Steps p.tables e below _ (((({ U with heap := s₂.heap, slotsUsed := s₂.slotsUsed } : State).setVm s₂.vm).setTop g).pushFrame (.throwing q))
    rw [← hs₂]
    exact hsteps
end Payer
section Calls
variable {p : Program} {l : Launch} {e : Env} {R : Room} {s : State} {m : MethodId} {args : Array Value} {below : List Frame} {meth : Method} {c : Code} {T : State} {locs : List Loc} {cells slots : Nat}
theorem vx_callV (X : Stand p l e R s m args below meth c T locs cells slots) (hexec : p.tables.exec = Jvm.exec) {own C : String} {index : Nat} {y : MethodName} {bytes : ByteArray} {maxL : Nat} {ret : Option FieldType}
    (hown : s.vm.findClass own = some m.cls) (hlink : (Cond.methodLink own index y).before args s = true) (hinst : (Cond.instanceMethod y).before args s = true) (hsel : (Cond.selects C y y).before args s = true)
    (hcode : (Cond.code y bytes maxL ret).before args s = true) (hy : y.cls ≠ "java/lang/invoke/MethodHandle" ∧ y.cls ≠ "java/lang/invoke/VarHandle")
    {W9 : Nat} {Pre : Pt → Array Value → Prop} {Post : Pt → Array Value → Option Value → Pt → Prop} {PostX : Pt → Array Value → Addr → Pt → Prop} (hK : vx_Back l R p e below s args y 3 W9 Pre Post PostX)
    {b : Addr} {cellB : Cell} (hcell : T.heap[b]? = some cellB) (hobj : cellB.vm.isStatics = false) (hcls : s.vm.findClass C = some cellB.cls)
    {g : JFrame} (hg : g.method = m) (hsize : g.locals.size = c.maxLocals) {argsL rest : List Value} (hlen : ∀ sig, parseMethodDescriptor y.desc = some sig → argsL.length = sig.parameters.length)
    (hstack : g.stack = argsL.reverse ++ .ref b :: rest) (hW : 2 * g.monitorRoom + (rest.map fun v => v.category).sum ≤ W9) (hdg : decode c.code g.pc = .ok (.invokevirtual index, 3))
    (hpre : ∀ vm₁, s.WarmedH vm₁ → Pre ⟨T.setVm vm₁, locs, cells, slots⟩ (Value.ref b :: argsL).toArray) :
    (∃ (v : Option Value) (vm₁ : Vm) (B : Pt), s.WarmedH vm₁ ∧ Stand p l e R s m args below meth c B.U B.locs B.cells B.slots ∧ Post ⟨T.setVm vm₁, locs, cells, slots⟩ (Value.ref b :: argsL).toArray v B ∧
      ∀ target, Steps p.tables e below (B.U.setTop { g with pc := g.pc + 3, stack := v.toList ++ rest }) target → Steps p.tables e below (T.setTop g) target) ∨
    (∃ (q : Addr) (vm₁ : Vm) (B : Pt), s.WarmedH vm₁ ∧ Stand p l e R s m args below meth c B.U B.locs B.cells B.slots ∧ PostX ⟨T.setVm vm₁, locs, cells, slots⟩ (Value.ref b :: argsL).toArray q B ∧
      Steps p.tables e below (T.setTop g) ((B.U.setTop { g with stack := rest }).pushFrame (.throwing q))) := by
  obtain ⟨mk, methM, hnamed, hmethM, hstM, habM⟩ := Cond.instanceMethod_spec hinst
  obtain ⟨methM', cM, hmethM', -, -, -, -, -, -, hsigM⟩ := Cond.code_spec hnamed hcode
  cases hmethM.symm.trans hmethM'
  obtain ⟨c2, r2, m2, q1, q2, q3, q4, kP, hkP, hkPi⟩ := Cond.selects_spec hsel
  cases hcls.symm.trans q1
  cases (State.methodFound?_of_named hnamed hy).symm.trans q2
  cases hnamed.symm.trans q3
  have hselP : selectMethod e.platform s.vm cellB.cls mk = .method mk := by rw [Launch.admits_selectMethod X.admits]; exact q4
  obtain ⟨vm₁, X₁, hstep₁⟩ := X.invokevirtual hexec hown hlink hnamed hmethM hstM hkP hkPi hy (a := b) (cell := cellB) hcell
    (fun z h => by rw [h] at hobj; cases hobj) hselP hmethM habM hkP hkPi (g := g) hg (argsL := argsL) (rest := rest) (hlen _ hsigM) hstack hdg
  rcases hK m meth c ⟨T.setVm vm₁, locs, cells, slots⟩ { g with stack := rest } (.invokevirtual index) mk (Value.ref b :: argsL).toArray X₁ hg hsize hdg hW (X₁.named hnamed) (hpre vm₁ X₁.warmed) with ⟨v, B, X', hpost, hsteps⟩ | ⟨q, B, X', hpost, hsteps⟩
  · exact Or.inl ⟨v, vm₁, B, X₁.warmed, X', hpost, fun target h => hstep₁ _ fun acts => by rw [doInvoke_state]; exact hsteps.trans h⟩
  · exact Or.inr ⟨q, vm₁, B, X₁.warmed, X', hpost, hstep₁ _ fun acts => by rw [doInvoke_state]; exact hsteps⟩
theorem vx_callS (X : Stand p l e R s m args below meth c T locs cells slots) (hexec : p.tables.exec = Jvm.exec) {own : String} {index : Nat} {y : MethodName} {bytes : ByteArray} {maxL : Nat} {ret : Option FieldType}
    (hown : s.vm.findClass own = some m.cls) (hlink : (Cond.methodLink own index y).before args s = true) (hstat : (Cond.static y).before args s = true) (hinit : (Cond.initialized y.cls).before args s = true)
    (hcode : (Cond.code y bytes maxL ret).before args s = true) (hy : y.cls ≠ "java/lang/invoke/MethodHandle" ∧ y.cls ≠ "java/lang/invoke/VarHandle")
    {W9 : Nat} {Pre : Pt → Array Value → Prop} {Post : Pt → Array Value → Option Value → Pt → Prop} {PostX : Pt → Array Value → Addr → Pt → Prop} (hK : vx_Back l R p e below s args y 3 W9 Pre Post PostX)
    {g : JFrame} (hg : g.method = m) (hsize : g.locals.size = c.maxLocals) {argsL rest : List Value} (hlen : ∀ sig, parseMethodDescriptor y.desc = some sig → argsL.length = sig.parameters.length)
    (hstack : g.stack = argsL.reverse ++ rest) (hW : 2 * g.monitorRoom + (rest.map fun v => v.category).sum ≤ W9) (hdg : decode c.code g.pc = .ok (.invokestatic index, 3))
    (hpre : ∀ vm₁, s.WarmedH vm₁ → Pre ⟨T.setVm vm₁, locs, cells, slots⟩ argsL.toArray) :
    (∃ (v : Option Value) (vm₁ : Vm) (B : Pt), s.WarmedH vm₁ ∧ Stand p l e R s m args below meth c B.U B.locs B.cells B.slots ∧ Post ⟨T.setVm vm₁, locs, cells, slots⟩ argsL.toArray v B ∧
      ∀ target, Steps p.tables e below (B.U.setTop { g with pc := g.pc + 3, stack := v.toList ++ rest }) target → Steps p.tables e below (T.setTop g) target) ∨
    (∃ (q : Addr) (vm₁ : Vm) (B : Pt), s.WarmedH vm₁ ∧ Stand p l e R s m args below meth c B.U B.locs B.cells B.slots ∧ PostX ⟨T.setVm vm₁, locs, cells, slots⟩ argsL.toArray q B ∧
      Steps p.tables e below (T.setTop g) ((B.U.setTop { g with stack := rest }).pushFrame (.throwing q))) := by
  obtain ⟨mk, hnamed⟩ := Cond.code_named hcode
  obtain ⟨methM, cM, hmethM, -, -, -, -, -, -, hsigM⟩ := Cond.code_spec hnamed hcode
  have hstatic : methM.isStatic = true := Cond.static_spec hnamed hmethM hstat
  obtain ⟨kP, hkP, -⟩ := className_of_methodNamed hnamed
  have hinitP : kP.init = .initialized := Cond.initialized_spec (findClass_of_methodNamed hnamed) hkP hinit
  obtain ⟨vm₁, X₁, hstep₁⟩ := X.invokestatic hexec hown hlink hnamed hmethM hstatic hkP hinitP hy (g := g) hg (argsL := argsL) (rest := rest) (hlen _ hsigM) hstack hdg
  rcases hK m meth c ⟨T.setVm vm₁, locs, cells, slots⟩ { g with stack := rest } (.invokestatic index) mk argsL.toArray X₁ hg hsize hdg hW (X₁.named hnamed) (hpre vm₁ X₁.warmed) with ⟨v, B, X', hpost, hsteps⟩ | ⟨q, B, X', hpost, hsteps⟩
  · exact Or.inl ⟨v, vm₁, B, X₁.warmed, X', hpost, fun target h => hstep₁ _ fun acts => by rw [doInvoke_state]; exact hsteps.trans h⟩
  · exact Or.inr ⟨q, vm₁, B, X₁.warmed, X', hpost, hstep₁ _ fun acts => by rw [doInvoke_state]; exact hsteps⟩
end Calls
theorem vx_cls {s : State} {T : State} {vm₁ : Vm} {E : String} {k : ClassId} (hW : s.WarmedH vm₁) (h : (T.setVm vm₁).vm.findClass E = some k) : s.vm.findClass E = some k := by
  have h1 : vm₁.findClass E = some k := h
  rw [hW.alike.findClass] at h1
  exact h1
/-- the method's frame g, with q thrown over it -/
def vx_W (p : Program) (l : Launch) (e : Env) (R : Room) (s : State) (m : MethodId) (args : Array Value) (below : List Frame) (meth : Method) (c : Code) (H : Heap) (locs : List Loc) (cells slots : Nat) (Q : State → Prop) (g : JFrame) (q : Addr) : Prop :=
  ∀ T : State, T.heap = H → Stand p l e R s m args below meth c T locs cells slots → ∃ t, Steps p.tables e below ((T.setTop g).pushFrame (.throwing q)) t ∧ Q t
def vx_Run (p : Program) (l : Launch) (e : Env) (R : Room) (s : State) (m : MethodId) (args : Array Value) (below : List Frame) (meth : Method) (c : Code) (H : Heap) (locs : List Loc) (cells slots mc ms : Nat) (g : JFrame) (rest : List Value) (Qa : State → Outcome → State → Prop) (XC : String → State → State → Prop) (free : Addr → Prop) : Prop :=
  ∀ T : State, T.heap = H → Stand p l e R s m args below meth c T locs cells slots →
    (∃ (v : Option Value) (st₀ t T' : State) (L : List Loc), st₀.heap = H ∧ Stand p l e R s m args below meth c T' (locs ++ L) (cells + mc) (slots + ms) ∧ (∀ q ∈ L, free q.base) ∧ T'.heap = t.heap ∧ T'.vm = t.vm ∧ Qa st₀ (.returned v) t ∧
      Goes p e below T g T' { g with pc := g.pc + 3, stack := v.toList ++ rest }) ∨
    (∃ (q : Addr) (st₀ t T' : State) (L : List Loc) (E : String) (ce : Cell), st₀.heap = H ∧ Stand p l e R s m args below meth c T' (locs ++ L) (cells + mc) (slots + ms) ∧ (∀ z ∈ L, free z.base) ∧ T'.heap = t.heap ∧ T'.vm = t.vm ∧ XC E st₀ t ∧ t.heap[q]? = some ce ∧ ce.vm = .none ∧ s.vm.findClass E = some ce.cls ∧
      Steps p.tables e below (T.setTop g) ((T'.setTop { g with stack := rest }).pushFrame (.throwing q)))
def vx_X {S : Type} (px : S → Prop) (B : String → S → State → Prop) (A : Nat → Prop) : String → State → State → Prop := fun E st t => ∃ u : S, px u ∧ B E u t ∧ va_F A st t
section Runs
variable {p : Program} {l : Launch} {e : Env} {R : Room} {s : State} {m : MethodId} {args : Array Value} {below : List Frame} {meth : Method} {c : Code} {H : Heap} {locs : List Loc} {cells slots : Nat}
variable {y : MethodName} {bytes cc : ByteArray} {maxL nL mc ms n index : Nat} {ret : Option FieldType} {ws : List Cond} {rm : Room} {Pc : Array Value → State → Prop} {Qc : Array Value → State → Outcome → State → Prop} {XC : String → State → State → Prop} {free : Addr → Prop} {Ts : List Cond} {own C : String} {b : Addr} {As rest : List Value} {g : JFrame}
theorem vx_callBack (cb : CallB R s args own index y bytes maxL ret ws rm mc ms n) (hM : vx_Met l y ws rm Pc Qc XC mc ms free) (hbl : FrameBlind Pc) : vx_Back l R p e below s args y 3 8 (PreOf R mc ms Pc) (PostOf Qc mc ms free) (vx_Post XC mc ms free) := by
  obtain ⟨hrc, hrs, hfr, hlo, hws, hcw, -, hini, -⟩ := cb
  exact vx_back (bytes := bytes) (maxL := maxL) (ret := ret) hM hbl hrc hrs hfr hlo hws hcw (fun a' U hW => word_at hW (Or.inl (by first | rfl | simp [Cond.onTables, Cond.keeps, Cond.steady])) hini)
theorem vx_runV (S : CallFix p m c cc nL s args Ts own) (hM : vx_Met l y ws rm Pc Qc XC mc ms free) (cw : CallW R s args own C index y bytes maxL ret ws rm mc ms n) (hp : PreV s H C b Pc As)
    (hg : g.method = m) (hn : As.length = n) (hsize : g.locals.size = nL) (hstack : g.stack = As.reverse ++ .ref b :: rest) (hW : 2 * g.monitorRoom + (rest.map fun v => v.category).sum ≤ 8) (hdg : decode cc g.pc = .ok (.invokevirtual index, 3)) (hf : cells + mc ≤ R.cells ∧ slots + ms ≤ R.slots) :
    vx_Run p l e R s m args below meth c H locs cells slots mc ms g rest (Qc (Value.ref b :: As).toArray) XC free := by
  have hK : vx_Back l R p e below s args y 3 8 (PreOf R mc ms Pc) (PostOf Qc mc ms free) (vx_Post XC mc ms free) := vx_callBack cw.1 hM hp.1
  obtain ⟨⟨-, -, -, -, -, -, hcode, -, hy, hlen, hl⟩, hin, hse⟩ := cw
  obtain ⟨hx, hb, hml, ho, -⟩ := S
  obtain ⟨-, ⟨cellB, hcB, hoB, hclB⟩, hPc⟩ := hp
  intro T hT X
  rcases vx_callV X hx (C := C) (bytes := bytes) (maxL := maxL) (ret := ret) ho hl hin hse hcode hy hK (by rw [hT]; exact hcB) hoB hclB hg (hsize.trans hml.symm) (argsL := As) (rest := rest) (fun sig h => hn.trans (hlen sig h)) hstack hW (by rw [hb]; exact hdg)
    (fun vm₁ hW₁ => ⟨hf.1, hf.2, hPc (T.setVm vm₁) hT hW₁⟩) with ⟨v, vm₁, ⟨U', l2, c2, s2⟩, hW₁, X', ⟨g', mk, t, L, e1, e2, hq, h1, hL, h2, h3⟩, st⟩ | ⟨q, vm₁, ⟨U', l2, c2, s2⟩, hW₁, X', ⟨g', mk, t, L, E, ce, e1, e2, hq, hce, hcv, hcl, h1, hL, h2, h3⟩, st⟩
  · dsimp only [Pt.U, Pt.locs, Pt.cells, Pt.slots] at X' e1 e2 h1 h2 h3 st
    subst h1; subst h2; subst h3
    exact Or.inl ⟨v, (T.setVm vm₁).calling g' mk (Value.ref b :: As).toArray, t, U', L, hT, X', hL, e1, e2, hq, st⟩
  · dsimp only [Pt.U, Pt.locs, Pt.cells, Pt.slots] at X' e1 e2 h1 h2 h3 st hcl
    subst h1; subst h2; subst h3
    exact Or.inr ⟨q, (T.setVm vm₁).calling g' mk (Value.ref b :: As).toArray, t, U', L, E, ce, hT, X', hL, e1, e2, hq, hce, hcv, vx_cls hW₁ hcl, st⟩
theorem vx_runS (S : CallFix p m c cc nL s args Ts own) (hM : vx_Met l y ws rm Pc Qc XC mc ms free) (cw : CallB R s args own index y bytes maxL ret ws rm mc ms n ∧ (Cond.static y).before args s = true) (hp : PreS s H Pc As)
    (hg : g.method = m) (hn : As.length = n) (hsize : g.locals.size = nL) (hstack : g.stack = As.reverse ++ rest) (hW : 2 * g.monitorRoom + (rest.map fun v => v.category).sum ≤ 8) (hdg : decode cc g.pc = .ok (.invokestatic index, 3)) (hf : cells + mc ≤ R.cells ∧ slots + ms ≤ R.slots) :
    vx_Run p l e R s m args below meth c H locs cells slots mc ms g rest (Qc As.toArray) XC free := by
  have hK : vx_Back l R p e below s args y 3 8 (PreOf R mc ms Pc) (PostOf Qc mc ms free) (vx_Post XC mc ms free) := vx_callBack cw.1 hM hp.1
  obtain ⟨⟨-, -, -, -, -, -, hcode, hini, hy, hlen, hl⟩, hstt⟩ := cw
  obtain ⟨hx, hb, hml, ho, -⟩ := S
  intro T hT X
  rcases vx_callS X hx (bytes := bytes) (maxL := maxL) (ret := ret) ho hl hstt hini hcode hy hK hg (hsize.trans hml.symm) (argsL := As) (rest := rest) (fun sig h => hn.trans (hlen sig h)) hstack hW (by rw [hb]; exact hdg)
    (fun vm₁ hW₁ => ⟨hf.1, hf.2, hp.2 (T.setVm vm₁) hT hW₁⟩) with ⟨v, vm₁, ⟨U', l2, c2, s2⟩, hW₁, X', ⟨g', mk, t, L, e1, e2, hq, h1, hL, h2, h3⟩, st⟩ | ⟨q, vm₁, ⟨U', l2, c2, s2⟩, hW₁, X', ⟨g', mk, t, L, E, ce, e1, e2, hq, hce, hcv, hcl, h1, hL, h2, h3⟩, st⟩
  · dsimp only [Pt.U, Pt.locs, Pt.cells, Pt.slots] at X' e1 e2 h1 h2 h3 st
    subst h1; subst h2; subst h3
    exact Or.inl ⟨v, (T.setVm vm₁).calling g' mk As.toArray, t, U', L, hT, X', hL, e1, e2, hq, st⟩
  · dsimp only [Pt.U, Pt.locs, Pt.cells, Pt.slots] at X' e1 e2 h1 h2 h3 st hcl
    subst h1; subst h2; subst h3
    exact Or.inr ⟨q, (T.setVm vm₁).calling g' mk As.toArray, t, U', L, E, ce, hT, X', hL, e1, e2, hq, hce, hcv, vx_cls hW₁ hcl, st⟩
end Runs
section Rows
variable {p : Program} {l : Launch} {e : Env} {R : Room} {s : State} {m : MethodId} {args : Array Value} {below : List Frame} {meth : Method} {c : Code} {H : Heap} {locs : List Loc} {cells slots : Nat} {Q : State → Prop}
variable {mc ms : Nat} {free : Addr → Prop} {A0 A1 : Nat → Prop} {H0 : Heap} {a : Array Value} {pc : Nat} {ls : Array Slot} {st0 rest : List Value}
theorem vx_keep {st₀ t T' : State} {L : List Loc} (h0 : st₀.heap = H) (e1 : T'.heap = t.heap) (hS : va_S A0 H0 H locs) (hA : ∀ q, q < H.size → A1 q → A0 q) (hf : ∀ q, free q → A0 q) (hL : ∀ q ∈ L, free q.base) (hF : va_F A1 st₀ t) :
    H.size ≤ T'.heap.size ∧ (∀ q : Nat, q < H.size → ¬ A1 q → T'.heap[q]? = H[q]?) ∧ va_S A0 H0 T'.heap (locs ++ L) := by
  obtain ⟨hz, hk⟩ := hF
  rw [h0] at hz hk
  exact ⟨by rw [e1]; exact hz, fun q h1 h2 => by rw [e1]; exact hk q h1 h2,
    ⟨Nat.le_trans hS.1 (by rw [e1]; exact hz), fun q h1 h2 => by rw [e1, hk q (Nat.lt_of_lt_of_le h1 hS.1) (fun z => h2 (hA q (Nat.lt_of_lt_of_le h1 hS.1) z))]; exact hS.2.1 q h1 h2, fun q hq => by
      rcases List.mem_append.mp hq with h | h
      · exact hS.2.2 q h
      · exact hf _ (hL q h)⟩⟩
theorem vx_calli {S SX : Type} {post : Int32 → S → Prop} {px : SX → Prop} {B : S → State → Prop} {BX : String → SX → State → Prop} {AX : Nat → Prop} (hr : vx_Run p l e R s m args below meth c H locs cells slots mc ms (F0 m pc ls st0) rest (va_Qi post B A1 a) (vx_X px BX AX) free) (hS : va_S A0 H0 H locs) (hA : ∀ q, q < H.size → A1 q → A0 q) (hf : ∀ q, free q → A0 q) (hAX : ∀ q, q < H.size → AX q → A0 q)
    (kx : ∀ (E : String) (ce : Cell) (q9 : Addr) (u : SX) (t : State) (H1 : Heap) (locs1 : List Loc), t.heap = H1 → s.vm.Alike t.vm → px u → BX E u t → H.size ≤ H1.size → (∀ q : Nat, q < H.size → ¬ AX q → H1[q]? = H[q]?) → va_S A0 H0 H1 locs1 → H1[q9]? = some ce → ce.vm = .none → s.vm.findClass E = some ce.cls → vx_W p l e R s m args below meth c H1 locs1 (cells + mc) (slots + ms) Q (F0 m pc ls rest) q9)
    (kk : ∀ (r : Int32) (u : S) (t : State) (H1 : Heap) (locs1 : List Loc), t.heap = H1 → s.vm.Alike t.vm → post r u → B u t → H.size ≤ H1.size → (∀ q : Nat, q < H.size → ¬ A1 q → H1[q]? = H[q]?) → va_S A0 H0 H1 locs1 → W p l e R s m args below meth c H1 locs1 (cells + mc) (slots + ms) Q (F0 m (pc + 3) ls (.int r :: rest))) : W p l e R s m args below meth c H locs cells slots Q (F0 m pc ls st0) := by
  intro T hT X
  rcases hr T hT X with ⟨v, st₀, t, T', L, h0, X', hL, e1, e2, ⟨⟨r, u, hv, hp, hb⟩, hF⟩, st⟩ | ⟨q, st₀, t, T', L, E, ce, h0, X', hL, e1, e2, ⟨u, hp, hb, hF⟩, hce, hcv, hcl, st⟩
  · cases hv
    obtain ⟨k1, k2, k3⟩ := vx_keep h0 e1 hS hA hf hL hF
    obtain ⟨t2, a1, b1⟩ := kk r u t T'.heap (locs ++ L) e1.symm (by rw [← e2]; exact X'.warmed.alike) hp hb k1 k2 k3 T' rfl X'
    exact ⟨t2, st t2 a1, b1⟩
  · obtain ⟨k1, k2, k3⟩ := vx_keep h0 e1 hS hAX hf hL hF
    obtain ⟨t2, a1, b1⟩ := kx E ce q u t T'.heap (locs ++ L) e1.symm (by rw [← e2]; exact X'.warmed.alike) hp hb k1 k2 k3 (by rw [e1]; exact hce) hcv hcl T' rfl X'
    exact ⟨t2, st.trans a1, b1⟩
theorem vx_calll {S SX : Type} {post : Int64 → S → Prop} {px : SX → Prop} {B : S → State → Prop} {BX : String → SX → State → Prop} {AX : Nat → Prop} (hr : vx_Run p l e R s m args below meth c H locs cells slots mc ms (F0 m pc ls st0) rest (va_Ql post B A1 a) (vx_X px BX AX) free) (hS : va_S A0 H0 H locs) (hA : ∀ q, q < H.size → A1 q → A0 q) (hf : ∀ q, free q → A0 q) (hAX : ∀ q, q < H.size → AX q → A0 q)
    (kx : ∀ (E : String) (ce : Cell) (q9 : Addr) (u : SX) (t : State) (H1 : Heap) (locs1 : List Loc), t.heap = H1 → s.vm.Alike t.vm → px u → BX E u t → H.size ≤ H1.size → (∀ q : Nat, q < H.size → ¬ AX q → H1[q]? = H[q]?) → va_S A0 H0 H1 locs1 → H1[q9]? = some ce → ce.vm = .none → s.vm.findClass E = some ce.cls → vx_W p l e R s m args below meth c H1 locs1 (cells + mc) (slots + ms) Q (F0 m pc ls rest) q9)
    (kk : ∀ (r : Int64) (u : S) (t : State) (H1 : Heap) (locs1 : List Loc), t.heap = H1 → s.vm.Alike t.vm → post r u → B u t → H.size ≤ H1.size → (∀ q : Nat, q < H.size → ¬ A1 q → H1[q]? = H[q]?) → va_S A0 H0 H1 locs1 → W p l e R s m args below meth c H1 locs1 (cells + mc) (slots + ms) Q (F0 m (pc + 3) ls (.long r :: rest))) : W p l e R s m args below meth c H locs cells slots Q (F0 m pc ls st0) := by
  intro T hT X
  rcases hr T hT X with ⟨v, st₀, t, T', L, h0, X', hL, e1, e2, ⟨⟨r, u, hv, hp, hb⟩, hF⟩, st⟩ | ⟨q, st₀, t, T', L, E, ce, h0, X', hL, e1, e2, ⟨u, hp, hb, hF⟩, hce, hcv, hcl, st⟩
  · cases hv
    obtain ⟨k1, k2, k3⟩ := vx_keep h0 e1 hS hA hf hL hF
    obtain ⟨t2, a1, b1⟩ := kk r u t T'.heap (locs ++ L) e1.symm (by rw [← e2]; exact X'.warmed.alike) hp hb k1 k2 k3 T' rfl X'
    exact ⟨t2, st t2 a1, b1⟩
  · obtain ⟨k1, k2, k3⟩ := vx_keep h0 e1 hS hAX hf hL hF
    obtain ⟨t2, a1, b1⟩ := kx E ce q u t T'.heap (locs ++ L) e1.symm (by rw [← e2]; exact X'.warmed.alike) hp hb k1 k2 k3 (by rw [e1]; exact hce) hcv hcl T' rfl X'
    exact ⟨t2, st.trans a1, b1⟩
theorem vx_callf {S SX : Type} {post : UInt32 → S → Prop} {px : SX → Prop} {B : S → State → Prop} {BX : String → SX → State → Prop} {AX : Nat → Prop} (hr : vx_Run p l e R s m args below meth c H locs cells slots mc ms (F0 m pc ls st0) rest (va_Qf post B A1 a) (vx_X px BX AX) free) (hS : va_S A0 H0 H locs) (hA : ∀ q, q < H.size → A1 q → A0 q) (hf : ∀ q, free q → A0 q) (hAX : ∀ q, q < H.size → AX q → A0 q)
    (kx : ∀ (E : String) (ce : Cell) (q9 : Addr) (u : SX) (t : State) (H1 : Heap) (locs1 : List Loc), t.heap = H1 → s.vm.Alike t.vm → px u → BX E u t → H.size ≤ H1.size → (∀ q : Nat, q < H.size → ¬ AX q → H1[q]? = H[q]?) → va_S A0 H0 H1 locs1 → H1[q9]? = some ce → ce.vm = .none → s.vm.findClass E = some ce.cls → vx_W p l e R s m args below meth c H1 locs1 (cells + mc) (slots + ms) Q (F0 m pc ls rest) q9)
    (kk : ∀ (r : UInt32) (u : S) (t : State) (H1 : Heap) (locs1 : List Loc), t.heap = H1 → s.vm.Alike t.vm → post r u → B u t → H.size ≤ H1.size → (∀ q : Nat, q < H.size → ¬ A1 q → H1[q]? = H[q]?) → va_S A0 H0 H1 locs1 → W p l e R s m args below meth c H1 locs1 (cells + mc) (slots + ms) Q (F0 m (pc + 3) ls (.float r :: rest))) : W p l e R s m args below meth c H locs cells slots Q (F0 m pc ls st0) := by
  intro T hT X
  rcases hr T hT X with ⟨v, st₀, t, T', L, h0, X', hL, e1, e2, ⟨⟨r, u, hv, hp, hb⟩, hF⟩, st⟩ | ⟨q, st₀, t, T', L, E, ce, h0, X', hL, e1, e2, ⟨u, hp, hb, hF⟩, hce, hcv, hcl, st⟩
  · cases hv
    obtain ⟨k1, k2, k3⟩ := vx_keep h0 e1 hS hA hf hL hF
    obtain ⟨t2, a1, b1⟩ := kk r u t T'.heap (locs ++ L) e1.symm (by rw [← e2]; exact X'.warmed.alike) hp hb k1 k2 k3 T' rfl X'
    exact ⟨t2, st t2 a1, b1⟩
  · obtain ⟨k1, k2, k3⟩ := vx_keep h0 e1 hS hAX hf hL hF
    obtain ⟨t2, a1, b1⟩ := kx E ce q u t T'.heap (locs ++ L) e1.symm (by rw [← e2]; exact X'.warmed.alike) hp hb k1 k2 k3 (by rw [e1]; exact hce) hcv hcl T' rfl X'
    exact ⟨t2, st.trans a1, b1⟩
theorem vx_calld {S SX : Type} {post : UInt64 → S → Prop} {px : SX → Prop} {B : S → State → Prop} {BX : String → SX → State → Prop} {AX : Nat → Prop} (hr : vx_Run p l e R s m args below meth c H locs cells slots mc ms (F0 m pc ls st0) rest (va_Qd post B A1 a) (vx_X px BX AX) free) (hS : va_S A0 H0 H locs) (hA : ∀ q, q < H.size → A1 q → A0 q) (hf : ∀ q, free q → A0 q) (hAX : ∀ q, q < H.size → AX q → A0 q)
    (kx : ∀ (E : String) (ce : Cell) (q9 : Addr) (u : SX) (t : State) (H1 : Heap) (locs1 : List Loc), t.heap = H1 → s.vm.Alike t.vm → px u → BX E u t → H.size ≤ H1.size → (∀ q : Nat, q < H.size → ¬ AX q → H1[q]? = H[q]?) → va_S A0 H0 H1 locs1 → H1[q9]? = some ce → ce.vm = .none → s.vm.findClass E = some ce.cls → vx_W p l e R s m args below meth c H1 locs1 (cells + mc) (slots + ms) Q (F0 m pc ls rest) q9)
    (kk : ∀ (r : UInt64) (u : S) (t : State) (H1 : Heap) (locs1 : List Loc), t.heap = H1 → s.vm.Alike t.vm → post r u → B u t → H.size ≤ H1.size → (∀ q : Nat, q < H.size → ¬ A1 q → H1[q]? = H[q]?) → va_S A0 H0 H1 locs1 → W p l e R s m args below meth c H1 locs1 (cells + mc) (slots + ms) Q (F0 m (pc + 3) ls (.double r :: rest))) : W p l e R s m args below meth c H locs cells slots Q (F0 m pc ls st0) := by
  intro T hT X
  rcases hr T hT X with ⟨v, st₀, t, T', L, h0, X', hL, e1, e2, ⟨⟨r, u, hv, hp, hb⟩, hF⟩, st⟩ | ⟨q, st₀, t, T', L, E, ce, h0, X', hL, e1, e2, ⟨u, hp, hb, hF⟩, hce, hcv, hcl, st⟩
  · cases hv
    obtain ⟨k1, k2, k3⟩ := vx_keep h0 e1 hS hA hf hL hF
    obtain ⟨t2, a1, b1⟩ := kk r u t T'.heap (locs ++ L) e1.symm (by rw [← e2]; exact X'.warmed.alike) hp hb k1 k2 k3 T' rfl X'
    exact ⟨t2, st t2 a1, b1⟩
  · obtain ⟨k1, k2, k3⟩ := vx_keep h0 e1 hS hAX hf hL hF
    obtain ⟨t2, a1, b1⟩ := kx E ce q u t T'.heap (locs ++ L) e1.symm (by rw [← e2]; exact X'.warmed.alike) hp hb k1 k2 k3 (by rw [e1]; exact hce) hcv hcl T' rfl X'
    exact ⟨t2, st.trans a1, b1⟩
theorem vx_callv {S SX : Type} {post : S → Prop} {px : SX → Prop} {B : S → State → Prop} {BX : String → SX → State → Prop} {AX : Nat → Prop} (hr : vx_Run p l e R s m args below meth c H locs cells slots mc ms (F0 m pc ls st0) rest (va_Qv post B A1 a) (vx_X px BX AX) free) (hS : va_S A0 H0 H locs) (hA : ∀ q, q < H.size → A1 q → A0 q) (hf : ∀ q, free q → A0 q) (hAX : ∀ q, q < H.size → AX q → A0 q)
    (kx : ∀ (E : String) (ce : Cell) (q9 : Addr) (u : SX) (t : State) (H1 : Heap) (locs1 : List Loc), t.heap = H1 → s.vm.Alike t.vm → px u → BX E u t → H.size ≤ H1.size → (∀ q : Nat, q < H.size → ¬ AX q → H1[q]? = H[q]?) → va_S A0 H0 H1 locs1 → H1[q9]? = some ce → ce.vm = .none → s.vm.findClass E = some ce.cls → vx_W p l e R s m args below meth c H1 locs1 (cells + mc) (slots + ms) Q (F0 m pc ls rest) q9)
    (kk : ∀ (u : S) (t : State) (H1 : Heap) (locs1 : List Loc), t.heap = H1 → s.vm.Alike t.vm → post u → B u t → H.size ≤ H1.size → (∀ q : Nat, q < H.size → ¬ A1 q → H1[q]? = H[q]?) → va_S A0 H0 H1 locs1 → W p l e R s m args below meth c H1 locs1 (cells + mc) (slots + ms) Q (F0 m (pc + 3) ls (rest))) : W p l e R s m args below meth c H locs cells slots Q (F0 m pc ls st0) := by
  intro T hT X
  rcases hr T hT X with ⟨v, st₀, t, T', L, h0, X', hL, e1, e2, ⟨⟨u, hv, hp, hb⟩, hF⟩, st⟩ | ⟨q, st₀, t, T', L, E, ce, h0, X', hL, e1, e2, ⟨u, hp, hb, hF⟩, hce, hcv, hcl, st⟩
  · cases hv
    obtain ⟨k1, k2, k3⟩ := vx_keep h0 e1 hS hA hf hL hF
    obtain ⟨t2, a1, b1⟩ := kk u t T'.heap (locs ++ L) e1.symm (by rw [← e2]; exact X'.warmed.alike) hp hb k1 k2 k3 T' rfl X'
    exact ⟨t2, st t2 a1, b1⟩
  · obtain ⟨k1, k2, k3⟩ := vx_keep h0 e1 hS hAX hf hL hF
    obtain ⟨t2, a1, b1⟩ := kx E ce q u t T'.heap (locs ++ L) e1.symm (by rw [← e2]; exact X'.warmed.alike) hp hb k1 k2 k3 (by rw [e1]; exact hce) hcv hcl T' rfl X'
    exact ⟨t2, st.trans a1, b1⟩
/-- caught by the row x of this method's table; the rows ahead don't take it -/
theorem vx_catch {own name : String} {E : String} {ce : Cell} {q : Addr} (hown : s.vm.findClass own = some m.cls) (pre : List ExceptionTableEntry) (x : ExceptionTableEntry) (suf : List ExceptionTableEntry) (hsplit : c.exceptionTable.toList = pre ++ x :: suf)
    (hpass : ∀ z ∈ pre, covers z pc = false ∨ (z.catchType ≠ 0 ∧ ∃ nm : String, (Cond.classLink own z.catchType nm).before args s = true ∧ va_Nc E nm s)) (hx : covers x pc = true) (h0 : x.catchType ≠ 0)
    (hlink : (Cond.classLink own x.catchType name).before args s = true) (hcast : (Cond.castable E name).before args s = true) (hcell : H[q]? = some ce) (hv : ce.vm = .none) (hcl : s.vm.findClass E = some ce.cls)
    (kk : W p l e R s m args below meth c H locs cells slots Q (F0 m x.handlerPc ls [.ref q])) : vx_W p l e R s m args below meth c H locs cells slots Q (F0 m pc ls rest) q := by
  intro T hT X
  have hpl : e.platform.magicAccessors = ({} : Platform).magicAccessors := by rw [X.admits.platform]
  obtain ⟨c3, c4, hc3, hc4, hasg⟩ := Cond.castable_spec hcast
  cases Option.some.inj (hc3.symm.trans hcl)
  obtain ⟨c5, hc5, hcl5⟩ := Cond.classLink_spec hown hlink e.platform hpl
  cases Option.some.inj (hc4.symm.trans hc5)
  obtain ⟨vm', X', st⟩ := X.thenCaughtThrough q (g := F0 m pc ls rest) rfl (Steps.refl _) (by rw [hT]; exact hcell) (by rw [hv]; rfl) (by obtain ⟨k9, h9, -⟩ := Vm.findClass_spec hcl; exact ⟨k9, h9⟩) pre x suf hsplit
    (fun z hz => by
      rcases hpass z hz with h | ⟨hz0, nm, hl1, hn1⟩
      · exact Or.inl h
      · obtain ⟨c6, hc6, hcl6⟩ := Cond.classLink_spec hown hl1 e.platform hpl
        obtain ⟨a8, b8, h1, h2, h3⟩ := hn1
        cases Option.some.inj (h1.symm.trans hcl)
        cases Option.some.inj (h2.symm.trans hc6)
        exact Or.inr ⟨hz0, _, hcl6, h3⟩) hx (Or.inr ⟨h0, c4, hcl5, hasg⟩)
  obtain ⟨t, a1, b1⟩ := kk (T.setVm vm') hT X'
  exact ⟨t, st.trans a1, b1⟩
end Rows
section Ends
variable {p : Program} {l : Launch} {e : Env} {R : Room} {s : State} {m : MethodId} {args : Array Value} {below : List Frame} {meth : Method} {c : Code} {H : Heap} {locs : List Loc} {cells slots : Nat} {Q : State → Prop}
variable {mc ms : Nat} {free : Addr → Prop} {A0 A1 : Nat → Prop} {H0 : Heap} {a : Array Value} {ls : Array Slot} {st0 rest : List Value}
variable {Qc : Array Value → State → Outcome → State → Prop} {XC : String → State → State → Prop}
/-- what a body that may throw owes at its end -/
def vx_MQ (below : List Frame) (Qc : Array Value → State → Outcome → State → Prop) (XC : String → State → State → Prop) (a : Array Value) (s : State) (mc ms : Nat) (free : Addr → Prop) : State → Prop := fun t =>
  ∃ o, t.status = .running ∧ Ended t below o ∧ vx_Q Qc XC mc ms free a s o t
theorem vx_ret {g : JFrame} {mc ms : Nat} (k : W p l e R s m args below meth c H locs cells slots (MQ below Qc args s mc ms free) g) : W p l e R s m args below meth c H locs cells slots (vx_MQ below Qc XC args s mc ms free) g := by
  intro T hT X
  obtain ⟨t, a1, o, b1, b2, b3, b4⟩ := k T hT X
  exact ⟨t, a1, o, b1, b2, Or.inl ⟨b3, b4⟩⟩
/-- not caught here: it goes on to the caller -/
theorem vx_widen {g : JFrame} {q : Addr} {k n : Nat} (h1 : cells ≤ k) (h2 : slots ≤ n) (kk : vx_W p l e R s m args below meth c H locs k n Q g q) : vx_W p l e R s m args below meth c H locs cells slots Q g q := fun T hT X => kk T hT (stand_widen X h1 h2)
theorem vx_out {pc : Nat} {E : String} {ce : Cell} {q : Addr} {mc ms : Nat} (hout : ∀ x ∈ c.exceptionTable.toList, covers x pc = false) (hlocks : meth.locks = false) (hcell : H[q]? = some ce) (hv : ce.vm = .none) (hcl : s.vm.findClass E = some ce.cls)
    (hx : ∀ t : State, t.heap = H → s.vm.Alike t.vm → XC E s t) (hf : ∀ z ∈ locs, free z.base) (hc : cells ≤ mc) (hs : slots ≤ ms) :
    vx_W p l e R s m args below meth c H locs cells slots (vx_MQ below Qc XC args s mc ms free) (F0 m pc ls rest) q := by
  intro T hT X
  obtain ⟨st1, hrun, hend, hW, hsm⟩ := X.leaveThrown q (g := F0 m pc ls rest) rfl rfl rfl hout hlocks
  have hcell9 : (T.setFrames (.throwing q :: below)).heap[q]? = some ce := by
    show T.heap[q]? = some ce
    rw [hT]; exact hcell
  exact ⟨_, st1, .threw q, hrun, hend, Or.inr ⟨q, rfl, E, ce, locs, hx _ hT hW.alike, hcell9, hv, hcl, hW, hsm.mono hc hs, hf⟩⟩
theorem vx_frame {U : State} {k n : Nat} (h : s.sameButNew ({ U with vm := s.vm } : State) locs k n) : s.heap.size ≤ U.heap.size ∧ ∀ q : Nat, q < s.heap.size → (∀ z ∈ locs, z.base ≠ q) → U.heap[q]? = s.heap[q]? := by
  obtain ⟨-, h2, -, -, -, h6⟩ := h
  refine ⟨h2, fun q hq hz => ?_⟩
  obtain ⟨c9, e1, e2, e3, e4⟩ := h6 q _ (Array.getElem?_eq_getElem hq)
  have hs : c9.slots = (s.heap[q]).slots := Array.ext_getElem? fun i => e4 i fun hm => hz _ hm rfl
  have h9 : c9 = s.heap[q] := by
    rw [hs] at e2
    exact e2
  have e5 : U.heap[q]? = some c9 := e1
  rw [e5, h9, Array.getElem?_eq_getElem hq]
/-- the words of a throw but the four that speak of the heap -/
def vx_no (w : Cond) : Bool := decide (w ≠ .isRef (.static Bundle.tN "UNASSIGNED_STACK" Bundle.steD)) && decide (w ≠ .isRef (.static Bundle.tN "SUPPRESSED_SENTINEL" Bundle.listD)) && decide (w ≠ .laysStatic Bundle.tN "UNASSIGNED_STACK" Bundle.steD) && decide (w ≠ .laysStatic Bundle.tN "SUPPRESSED_SENTINEL" Bundle.listD)
def vx_at0 (own : String) (ic : Nat) (X : String) (names : List String) : List Cond := (Bundle.ownAtoms0 own ic X names).filter vx_no
def vx_atS (own : String) (ic : Nat) (X : String) (names : List String) : List Cond := (Bundle.ownAtoms own ic X names).filter vx_no
/-- a word that the tables alone decide, or a good one -/
def vx_ot (w : Cond) : Bool := w.onTables || goodWord w
theorem vx_ot_at {args a' : Array Value} {s U : State} {w : Cond} (hW : s.WarmedH U.vm) (hvm : s.vm = U.vm) (hg : vx_ot w = true) (h : w.before args s = true) : w.before a' U = true := by
  simp only [vx_ot, Bool.or_eq_true] at hg
  rcases hg with hg | hg
  · exact va_tabs hg hvm h
  · exact word_at hW (good_of_word hg) h
/-- a list's words: the good ones out of the method's own list, the others by premises of their own -/
theorem vx_hat {args : Array Value} {s : State} {L B : List Cond} (h1 : ∀ w ∈ L.filter goodWord, w.before args s = true) (h2 : ∀ w ∈ L.filter (fun w => !goodWord w), w ∈ B) (h3 : ∀ w ∈ B, w.before args s = true) : ∀ w ∈ L, w.before args s = true := by
  intro w hw
  by_cases g : goodWord w = true
  · exact h1 w (List.mem_filter.mpr ⟨hw, g⟩)
  · refine h3 w (h2 w (List.mem_filter.mpr ⟨hw, ?_⟩))
    show (!goodWord w) = true
    cases hgw : goodWord w
    · rfl
    · exact absurd hgw g
theorem vx_c {args : Array Value} {s : State} {w : Cond} {B : List Cond} (h : w.before args s = true) (t : ∀ w ∈ B, w.before args s = true) : ∀ w' ∈ w :: B, w'.before args s = true := fun w' h' => (List.mem_cons.mp h').elim (fun e => by rw [e]; exact h) (t w')
theorem vx_n {args : Array Value} {s : State} : ∀ w ∈ ([] : List Cond), w.before args s = true := fun _ h => nomatch h
theorem vx_own {args : Array Value} {s : State} {L : List Cond} (h1 : ∀ w ∈ L.filter vx_no, w.before args s = true)
    (hU : (Cond.isRef (.static Bundle.tN "UNASSIGNED_STACK" Bundle.steD)).before args s = true) (hN : (Cond.isRef (.static Bundle.tN "SUPPRESSED_SENTINEL" Bundle.listD)).before args s = true)
    (lU : (Cond.laysStatic Bundle.tN "UNASSIGNED_STACK" Bundle.steD).before args s = true) (lN : (Cond.laysStatic Bundle.tN "SUPPRESSED_SENTINEL" Bundle.listD).before args s = true) : ∀ w ∈ L, w.before args s = true := by
  intro w hw
  by_cases e1 : w = .isRef (.static Bundle.tN "UNASSIGNED_STACK" Bundle.steD)
  · rw [e1]; exact hU
  · by_cases e2 : w = .isRef (.static Bundle.tN "SUPPRESSED_SENTINEL" Bundle.listD)
    · rw [e2]; exact hN
    · by_cases e3 : w = .laysStatic Bundle.tN "UNASSIGNED_STACK" Bundle.steD
      · rw [e3]; exact lU
      · by_cases e4 : w = .laysStatic Bundle.tN "SUPPRESSED_SENTINEL" Bundle.listD
        · rw [e4]; exact lN
        · exact h1 w (List.mem_filter.mpr ⟨hw, by unfold vx_no; rw [decide_eq_true e1, decide_eq_true e2, decide_eq_true e3, decide_eq_true e4]; rfl⟩)
/-- where a static field lies, its class's statics cell in H -/
def vx_L (C n d : String) (A : Nat → Prop) (U : State) (H : Heap) : Prop := ∃ (c : ClassId) (k : Class) (i : Nat) (f : Field) (a : Nat) (cell : Cell), U.vm.findClass C = some c ∧ U.fieldFound? C n d = some (c, k, i, f) ∧ f.isStatic = true ∧ k.statics = some a ∧ H[a]? = some cell ∧ cell.vm.isStatics = true ∧ cell.cls = c ∧ f.slot < cell.slots.size ∧ k.staticTypes[f.slot]? = some f.type ∧ ¬ A a
theorem vx_L.moved {C n d : String} {A : Nat → Prop} {u U : State} {H : Heap} (hvm : u.vm.Alike U.vm) (h : vx_L C n d A u H) : vx_L C n d A U H := by
  obtain ⟨c, k, i, f, a, cell, h1, h2, h3, h4, h5, h6, h7, h8, h9, h10⟩ := h
  obtain ⟨k', hi', he⟩ := State.fieldFound?_setVm hvm h2
  exact ⟨c, k', i, f, a, cell, by rw [hvm.findClass]; exact h1, hi', h3, by rw [he]; exact h4, h5, h6, h7, h8, by rw [he]; exact h9, h10⟩
theorem vx_L.kept {C n d : String} {A : Nat → Prop} {U : State} {H H1 : Heap} (h : vx_L C n d A U H) (hq : ∀ a : Nat, a < H.size → ¬ A a → H1[a]? = H[a]?) : vx_L C n d A U H1 := by
  obtain ⟨c, k, i, f, a, cell, h1, h2, h3, h4, h5, h6, h7, h8, h9, h10⟩ := h
  exact ⟨c, k, i, f, a, cell, h1, h2, h3, h4, by rw [hq a (Array.getElem?_eq_some_iff.mp h5).1 h10]; exact h5, h6, h7, h8, h9, h10⟩
theorem vx_L.narrow {C n d : String} {A B : Nat → Prop} {U : State} {H : Heap} (h : vx_L C n d A U H) (hAB : ∀ q, B q → A q) : vx_L C n d B U H := by
  obtain ⟨c, k, i, f, a, cell, h1, h2, h3, h4, h5, h6, h7, h8, h9, h10⟩ := h
  exact ⟨c, k, i, f, a, cell, h1, h2, h3, h4, h5, h6, h7, h8, h9, fun z => h10 (hAB _ z)⟩
theorem vx_L.word {C n d : String} {A : Nat → Prop} {s : State} {args : Array Value} (h : vx_L C n d A s s.heap) : (Cond.laysStatic C n d).before args s = true := by
  obtain ⟨c, k, i, f, a, cell, h1, h2, h3, h4, h5, h6, h7, h8, h9, -⟩ := h
  show (Cond.laysStatic C n d).holds args s none s [] = true
  exact Cond.laysStatic_of h1 h2 h3 h4 h5 h6 h7 h8 h9
/-- .. and what it holds: null or some reference -/
def vx_Zq (C n d : String) (A : Nat → Prop) (U : State) (H : Heap) : Prop := va_Zq C n d A U H ∧ vx_L C n d A U H
theorem vx_Zq.moved {C n d : String} {A : Nat → Prop} {u U : State} {H : Heap} (hvm : u.vm.Alike U.vm) (h : vx_Zq C n d A u H) : vx_Zq C n d A U H := ⟨va_Zq.moved hvm h.1, vx_L.moved hvm h.2⟩
theorem vx_Zq.kept {C n d : String} {A : Nat → Prop} {U : State} {H H1 : Heap} (h : vx_Zq C n d A U H) (hq : ∀ a : Nat, a < H.size → ¬ A a → H1[a]? = H[a]?) : vx_Zq C n d A U H1 := ⟨va_Zq.kept h.1 hq, vx_L.kept h.2 hq⟩
theorem vx_Zq.narrow {C n d : String} {A B : Nat → Prop} {U : State} {H : Heap} (h : vx_Zq C n d A U H) (hAB : ∀ q, B q → A q) : vx_Zq C n d B U H := ⟨va_Zq.narrow h.1 hAB, vx_L.narrow h.2 hAB⟩
theorem vx_Zqof {args : Array Value} {s : State} {C n d : String} {A : Nat → Prop} (hl : (Cond.laysStatic C n d).before args s = true) (hini : (Cond.initialized C).before args s = true) (h : (Cond.isRef (.static C n d)).before args s = true) (hA : ∀ a : Nat, a < s.heap.size → ¬ A a) : vx_Zq C n d A s s.heap := by
  refine ⟨va_Zqof hl hini h hA, ?_⟩
  obtain ⟨c, k, i, f, a, cell, h1, h2, h3, h4, h5, h6, h7, h8, h9⟩ := Cond.laysStatic_spec hl
  exact ⟨c, k, i, f, a, cell, h1, h2, h3, h4, h5, h6, h7, h8, h9, hA a (Array.getElem?_eq_some_iff.mp h5).1⟩
theorem vx_isRef {C n d : String} {v : Value} {A : Nat → Prop} {s : State} {args : Array Value} (h : va_Z C n d v A s s.heap) (hv : v.isRef = true) : (Cond.isRef (.static C n d)).before args s = true := by
  obtain ⟨cf, kf, fi, f, a, cell, h1, h2, h3, h4, h5, h6, h7, -⟩ := h
  have he : (Term.static C n d).eval args s none [] s = some v := by
    simp [Term.eval, State.fieldNamed?, h1, h2, h4, h5, h6, h7]
  simp only [Cond.before, Cond.holds, Cond.value, he]
  cases v <;> simp_all [Value.isRef]
theorem vx_isRefq {C n d : String} {A : Nat → Prop} {s : State} {args : Array Value} (h : va_Zq C n d A s s.heap) : (Cond.isRef (.static C n d)).before args s = true := by
  rcases h with h | ⟨t, h⟩
  · exact vx_isRef h rfl
  · exact vx_isRef h rfl
/-- the same frame, seen from here: as if the method were called anew in this heap -/
theorem vx_rebase {T : State} (X : Stand p l e R s m args below meth c T locs cells slots) {R' : Room} (hf : R'.frames ≤ R.frames) (hl : R'.locals ≤ R.locals) (hc : cells + R'.cells ≤ R.cells) (hs : slots + R'.slots ≤ R.slots) :
    Stand p l e R' ((T.setVm s.vm).setFrames (.invoking m args :: below)) m args below meth c T [] 0 0 := by
  have htop : (T.setVm s.vm).topJava?.isSome := X.here.top
  have hF : ((T.setVm s.vm).setFrames (.invoking m args :: below)).frames = .invoking m args :: below := State.frames_setFrames _ (State.cur_lt_of_top htop)
  obtain ⟨g₀, hg0⟩ := Option.isSome_iff_exists.mp htop
  obtain ⟨r, hr⟩ := State.topJava?_eq_some.mp hg0
  have hl9 : e.platform.stackLimits (T.setVm s.vm).me = e.platform.stackLimits s.me := X.limits
  have hb9 : (T.setVm s.vm).me.stackBytes = s.me.stackBytes := X.bytes
  refine ⟨X.admits, X.cas, X.clock, hF, ?_, X.hears, X.method, X.code, X.here, X.tail, X.warmed, ?_, ?_, ?_⟩
  · have h := X.room
    have hU : ((T.setVm s.vm).setFrames (.invoking m args :: below)).localsInUse = s.localsInUse := by
      rw [State.localsInUse_invoking hF (meth := meth) (c := c) X.method X.code, State.localsInUse_invoking X.frames X.method X.code]
    simp only [State.hasRoom, Bool.and_eq_true, decide_eq_true_eq] at h ⊢
    obtain ⟨⟨⟨⟨h1, h2, h3, h4, h5, h6⟩, h7⟩, h8⟩, h9⟩ := h
    rw [X.frames, List.length_cons] at h2 h3
    have q1 := X.heapSize
    have q2 := X.used
    simp only [hF, hU, List.length_cons, State.stackLimits_setFrames, State.stackBytes_setFrames, hl9, hb9]
    refine ⟨⟨⟨⟨by omega, by omega, by omega, by omega, by omega, h6⟩, ?_⟩, ?_⟩, X.book⟩
    · show T.heap.size + R'.cells ≤ e.platform.maxCells
      omega
    · show T.slotsUsed + R'.slots ≤ e.platform.maxSlots
      omega
  · rw [State.stackLimits_setFrames]; rfl
  · rw [State.stackBytes_setFrames]; rfl
  · refine ⟨?_, Nat.le_refl _, Nat.le_refl _, ?_, ?_, fun a c9 h9 => ⟨c9, h9, rfl, rfl, fun _ _ => rfl⟩⟩
    · obtain ⟨t, ht, -⟩ := State.frames_cons hr
      show T.setVm s.vm = { ((T.setVm s.vm).setFrames (.invoking m args :: below)).setFrames (T.setVm s.vm).frames with heap := T.heap, slotsUsed := T.slotsUsed }
      rw [State.setFrames_setFrames, State.setFrames_self ht]
      rfl
    · show T.slotsUsed = T.slotsUsed + ((T.heap.toList.drop T.heap.size).map (·.slots.size)).sum
      rw [List.drop_eq_nil_of_le (Nat.le_of_eq Array.length_toList)]
      rfl
    · show ((T.heap.toList.drop T.heap.size).map (·.slots.size)).sum ≤ 0
      rw [List.drop_eq_nil_of_le (Nat.le_of_eq Array.length_toList)]
      exact Nat.le_refl _
/-- 'throw new E()': new; dup; invokespecial; athrow -/
theorem vx_throw0 {cc : ByteArray} {pc : Nat} (hexec : p.tables.exec = Jvm.exec) (hb : c.code = cc) (hl : l.stackTraces = false) {own cls : String} {names : List String} {ik ic mc ms : Nat} {A : Nat → Prop}
    (hown : s.vm.findClass own = some m.cls) (hcls : Bundle.fit cls = true) (hnames : ∀ n ∈ names, Bundle.fit n = true)
    (hk : (Cond.classLink own ik cls).before args s = true) (hini : (Cond.initialized cls).before args s = true) (hat : ∀ w ∈ vx_at0 own ic cls names, w.before args s = true)
    (hgood : ∀ w ∈ Cond.classLink own ik cls :: Cond.initialized cls :: vx_at0 own ic cls names, vx_ot w = true)
    (hU : vx_Zq Bundle.tN "UNASSIGNED_STACK" Bundle.steD A s s.heap) (hN : vx_Zq Bundle.tN "SUPPRESSED_SENTINEL" Bundle.listD A s s.heap) (hS : va_S A s.heap H locs) (hsize : ls.size = c.maxLocals)
    (d0 : decode cc pc = .ok (.new ik, 3)) (d3 : decode cc (pc + 3) = .ok (.dup, 1)) (d4 : decode cc (pc + 4) = .ok (.invokespecial ic, 3)) (d7 : decode cc (pc + 7) = .ok (.athrow, 1))
    (hout : ∀ x ∈ c.exceptionTable.toList, covers x (pc + 7) = false)
    (hRframes : names.length + 3 < R.frames) (hRlocals : (rest.map fun v => v.category).sum + (13 * (names.length + 1) + 42) ≤ R.locals) (hRcells : cells + 1 ≤ R.cells) (hRslots : slots + 6 ≤ R.slots) (hlocks : meth.locks = false)
    (hx : ∀ t : State, s.vm.Alike t.vm → H.size ≤ t.heap.size → (∀ q : Nat, q < H.size → t.heap[q]? = H[q]?) → XC cls s t)
    (hf : ∀ z ∈ locs, free z.base) (hc : cells + 1 ≤ mc) (hs : slots + 6 ≤ ms) :
    W p l e R s m args below meth c H locs cells slots (vx_MQ below Qc XC args s mc ms free) (F0 m pc ls rest) := by
  intro T hT X
  have htr : e.platform.stackTraces = false := (show e.platform.stackTraces = l.stackTraces by rw [X.admits.platform]).trans hl
  have Y := vx_rebase X (R' := { frames := R.frames, locals := R.locals, cells := 1, slots := 6 }) (Nat.le_refl _) (Nat.le_refl _) hRcells hRslots
  obtain ⟨s', hA⟩ : ∃ z, z = (T.setVm s.vm).setFrames (.invoking m args :: below) := ⟨_, rfl⟩
  rw [← hA] at Y
  have hvm : s'.vm = s.vm := by rw [hA]; rfl
  have hhp : s'.heap = H := by rw [hA]; exact hT
  have hW0 : s.WarmedH s'.vm := by rw [hvm]; exact State.WarmedH.refl s
  have hat' : ∀ w ∈ vx_at0 own ic cls names, w.before args s' = true := fun w hw => vx_ot_at hW0 hvm.symm (hgood w (List.mem_cons_of_mem _ (List.mem_cons_of_mem _ hw))) (hat w hw)
  have hk' : (Cond.classLink own ik cls).before args s' = true := vx_ot_at hW0 hvm.symm (hgood _ List.mem_cons_self) hk
  have hini' : (Cond.initialized cls).before args s' = true := vx_ot_at hW0 hvm.symm (hgood _ (List.mem_cons_of_mem _ List.mem_cons_self)) hini
  have hU' : vx_Zq Bundle.tN "UNASSIGNED_STACK" Bundle.steD A s' s'.heap := by rw [hhp]; exact vx_Zq.moved hW0.alike (hU.kept hS.2.1)
  have hN' : vx_Zq Bundle.tN "SUPPRESSED_SENTINEL" Bundle.listD A s' s'.heap := by rw [hhp]; exact vx_Zq.moved hW0.alike (hN.kept hS.2.1)
  have h : ∀ w ∈ Bundle.ownAtoms0 own ic cls names, w.before args s' = true := vx_own hat' (vx_isRefq hU'.1) (vx_isRefq hN'.1) hU'.2.word hN'.2.word
  have hown' : s'.vm.findClass own = some m.cls := by rw [hvm]; exact hown
  have hins : (Cond.instantiable cls 6).before args s' = true := h _ (by simp [Bundle.ownAtoms0])
  obtain ⟨vm₁, cX, kX, hfX, hkX, -, -, X₁, st1⟩ := Y.newCold hexec (own := own) (C := cls) (index := ik) (n := 6) hown' hk' hins hini'
    (g := F0 m pc ls rest) rfl (by rw [hb]; exact d0) (Nat.le_refl _) (Nat.le_refl _)
  generalize hT1 : (T.setVm vm₁).pushCell { cls := cX, slots := kX.instanceTypes.map defaultValue, vm := .none } = T1 at X₁ st1
  have hcat : (Value.ref T.heap.size).category = 1 := rfl
  have hcellA : T1.heap[T.heap.size]? = some (freshCell cX kX) := by rw [← hT1]; exact State.heap_pushCell_size _ _
  have d3' : decode c.code (pc + 3) = .ok (.dup, 1) := by rw [hb]; exact d3
  obtain ⟨U, hsteps, hrun, hend, hW, hsame, ce, hce, hO⟩ := X₁.ctorThrow0 hexec htr (own := own) (cls := cls) (names := names) (ic := ic) hown' hcls hnames h (fun x hx => nomatch hx) hfX hkX hcellA (by rw [hhp, hT]; exact Nat.le_refl _)
    (g := { method := m, pc := pc + 4, locals := ls, stack := .ref T.heap.size :: .ref T.heap.size :: rest, locked := none }) rfl hsize rfl rfl (rest := rest) rfl
    (by rw [hb]; exact d4) (by rw [hb]; exact d7) hout hRframes (by simp only [List.map_cons, List.sum_cons, hcat]; omega) hlocks
  obtain ⟨f1, f2⟩ := vx_frame hsame
  rw [hhp] at f1 f2
  have hWs : s.WarmedH U.vm := State.WarmedH.trans hW0 hW
  have hcl : s.vm.findClass cls = some ce.cls := by
    have h9 := hO.cls
    rw [hvm] at h9
    exact h9
  have hall : s.sameButNew ({ U with vm := s.vm } : State) locs mc ms := by
    subst hA
    obtain ⟨e1, e2⟩ := hsame
    rw [State.setFrames_setFrames] at e1
    have h2 : (T.setVm s.vm).sameButNew ({ U with vm := s.vm } : State) [] (0 + 1) (0 + 6) := ⟨e1, e2⟩
    have h3 := X.same.trans h2
    rw [List.append_nil] at h3
    exact h3.mono hc hs
  refine ⟨U, ?_, .threw T.heap.size, hrun, hend, Or.inr ⟨T.heap.size, rfl, cls, ce, locs, hx U hWs.alike f1 (fun q hq => f2 q hq (fun z hz => nomatch hz)), hce, hO.vm, hcl, hWs, hall, hf⟩⟩
  refine st1 _ ?_
  show Steps p.tables e below (T1.setTop { method := m, pc := pc + 3, locals := ls, stack := .ref T.heap.size :: rest, locked := none }) _
  jvm_step X₁.here [X₁.here.top, hexec, d3', Value.category]
  exact hsteps
/-- 'throw new E("text")': new; dup; ldc; invokespecial; athrow -/
theorem vx_throwS {cc : ByteArray} {pc : Nat} (hexec : p.tables.exec = Jvm.exec) (hb : c.code = cc) (hl : l.stackTraces = false) {own cls text : String} {names : List String} {ik is ic mc ms sa : Nat} {A : Nat → Prop}
    (hown : s.vm.findClass own = some m.cls) (hcls : Bundle.fit cls = true) (hnames : ∀ n ∈ names, Bundle.fit n = true)
    (hk : (Cond.classLink own ik cls).before args s = true) (hini : (Cond.initialized cls).before args s = true) (hstr : vk_R own is text sa s) (hat : ∀ w ∈ vx_atS own ic cls names, w.before args s = true)
    (hgood : ∀ w ∈ Cond.classLink own ik cls :: Cond.initialized cls :: vx_atS own ic cls names, vx_ot w = true)
    (hU : vx_Zq Bundle.tN "UNASSIGNED_STACK" Bundle.steD A s s.heap) (hN : vx_Zq Bundle.tN "SUPPRESSED_SENTINEL" Bundle.listD A s s.heap) (hS : va_S A s.heap H locs) (hsize : ls.size = c.maxLocals)
    (d0 : decode cc pc = .ok (.new ik, 3)) (d3 : decode cc (pc + 3) = .ok (.dup, 1)) (d4 : decode cc (pc + 4) = .ok (.ldc is, 2)) (d6 : decode cc (pc + 6) = .ok (.invokespecial ic, 3)) (d9 : decode cc (pc + 9) = .ok (.athrow, 1))
    (hout : ∀ x ∈ c.exceptionTable.toList, covers x (pc + 9) = false)
    (hRframes : names.length + 3 < R.frames) (hRlocals : (rest.map fun v => v.category).sum + (13 * (names.length + 1) + 43) ≤ R.locals) (hRcells : cells + 1 ≤ R.cells) (hRslots : slots + 6 ≤ R.slots) (hlocks : meth.locks = false)
    (hx : ∀ t : State, s.vm.Alike t.vm → H.size ≤ t.heap.size → (∀ q : Nat, q < H.size → t.heap[q]? = H[q]?) → XC cls s t)
    (hf : ∀ z ∈ locs, free z.base) (hc : cells + 1 ≤ mc) (hs : slots + 6 ≤ ms) :
    W p l e R s m args below meth c H locs cells slots (vx_MQ below Qc XC args s mc ms free) (F0 m pc ls rest) := by
  intro T hT X
  have htr : e.platform.stackTraces = false := (show e.platform.stackTraces = l.stackTraces by rw [X.admits.platform]).trans hl
  have Y := vx_rebase X (R' := { frames := R.frames, locals := R.locals, cells := 1, slots := 6 }) (Nat.le_refl _) (Nat.le_refl _) hRcells hRslots
  obtain ⟨s', hA⟩ : ∃ z, z = (T.setVm s.vm).setFrames (.invoking m args :: below) := ⟨_, rfl⟩
  rw [← hA] at Y
  have hvm : s'.vm = s.vm := by rw [hA]; rfl
  have hhp : s'.heap = H := by rw [hA]; exact hT
  have hW0 : s.WarmedH s'.vm := by rw [hvm]; exact State.WarmedH.refl s
  have hat' : ∀ w ∈ vx_atS own ic cls names, w.before args s' = true := fun w hw => vx_ot_at hW0 hvm.symm (hgood w (List.mem_cons_of_mem _ (List.mem_cons_of_mem _ hw))) (hat w hw)
  have hk' : (Cond.classLink own ik cls).before args s' = true := vx_ot_at hW0 hvm.symm (hgood _ List.mem_cons_self) hk
  have hini' : (Cond.initialized cls).before args s' = true := vx_ot_at hW0 hvm.symm (hgood _ (List.mem_cons_of_mem _ List.mem_cons_self)) hini
  have hU' : vx_Zq Bundle.tN "UNASSIGNED_STACK" Bundle.steD A s' s'.heap := by rw [hhp]; exact vx_Zq.moved hW0.alike (hU.kept hS.2.1)
  have hN' : vx_Zq Bundle.tN "SUPPRESSED_SENTINEL" Bundle.listD A s' s'.heap := by rw [hhp]; exact vx_Zq.moved hW0.alike (hN.kept hS.2.1)
  have h : ∀ w ∈ Bundle.ownAtoms own ic cls names, w.before args s' = true := vx_own hat' (vx_isRefq hU'.1) (vx_isRefq hN'.1) hU'.2.word hN'.2.word
  have hown' : s'.vm.findClass own = some m.cls := by rw [hvm]; exact hown
  have hins : (Cond.instantiable cls 6).before args s' = true := h _ (by simp [Bundle.ownAtoms])
  obtain ⟨vm₁, cX, kX, hfX, hkX, -, -, X₁, st1⟩ := Y.newCold hexec (own := own) (C := cls) (index := ik) (n := 6) hown' hk' hins hini'
    (g := F0 m pc ls rest) rfl (by rw [hb]; exact d0) (Nat.le_refl _) (Nat.le_refl _)
  generalize hT1 : (T.setVm vm₁).pushCell { cls := cX, slots := kX.instanceTypes.map defaultValue, vm := .none } = T1 at X₁ st1
  have hcat : (Value.ref T.heap.size).category = 1 := rfl
  have hcellA : T1.heap[T.heap.size]? = some (freshCell cX kX) := by rw [← hT1]; exact State.heap_pushCell_size _ _
  have d3' : decode c.code (pc + 3) = .ok (.dup, 1) := by rw [hb]; exact d3
  have d4' : decode c.code (pc + 4) = .ok (.ldc is, 2) := by rw [hb]; exact d4
  have hstr' : vk_R own is text sa s' := vk_R.warm hW0 hstr
  obtain ⟨U, hsteps, hrun, hend, hW, hsame, ce, hce, hO⟩ := X₁.ctorThrowS hexec htr (own := own) (cls := cls) (names := names) (ic := ic) hown' hcls hnames h (fun x hx => nomatch hx) hfX hkX hcellA (by rw [hhp, hT]; exact Nat.le_refl _) (msg := .ref sa) rfl
    (g := { method := m, pc := pc + 6, locals := ls, stack := .ref sa :: .ref T.heap.size :: .ref T.heap.size :: rest, locked := none }) rfl hsize rfl rfl (rest := rest) rfl
    (by rw [hb]; exact d6) (by rw [hb]; exact d9) hout hRframes (by simp only [List.map_cons, List.sum_cons, hcat]; omega) hlocks
  obtain ⟨f1, f2⟩ := vx_frame hsame
  rw [hhp] at f1 f2
  have hWs : s.WarmedH U.vm := State.WarmedH.trans hW0 hW
  have hcl : s.vm.findClass cls = some ce.cls := by
    have h9 := hO.cls
    rw [hvm] at h9
    exact h9
  have hall : s.sameButNew ({ U with vm := s.vm } : State) locs mc ms := by
    subst hA
    obtain ⟨e1, e2⟩ := hsame
    rw [State.setFrames_setFrames] at e1
    have h2 : (T.setVm s.vm).sameButNew ({ U with vm := s.vm } : State) [] (0 + 1) (0 + 6) := ⟨e1, e2⟩
    have h3 := X.same.trans h2
    rw [List.append_nil] at h3
    exact h3.mono hc hs
  refine ⟨U, ?_, .threw T.heap.size, hrun, hend, Or.inr ⟨T.heap.size, rfl, cls, ce, locs, hx U hWs.alike f1 (fun q hq => f2 q hq (fun z hz => nomatch hz)), hce, hO.vm, hcl, hWs, hall, hf⟩⟩
  refine st1 _ ?_
  show Steps p.tables e below (T1.setTop { method := m, pc := pc + 3, locals := ls, stack := .ref T.heap.size :: rest, locked := none }) _
  jvm_step X₁.here [X₁.here.top, hexec, d3', Value.category]
  exact X₁.ldcString hexec (own := own) (text := text) (index := is) (a := sa) hown' hstr'.1 hstr'.2
    (g := { method := m, pc := pc + 4, locals := ls, stack := .ref T.heap.size :: .ref T.heap.size :: rest, locked := none }) rfl d4' _ hsteps
/-- 'throw new E("text")', the text by a wide index -/
theorem vx_throwSW {cc : ByteArray} {pc : Nat} (hexec : p.tables.exec = Jvm.exec) (hb : c.code = cc) (hl : l.stackTraces = false) {own cls text : String} {names : List String} {ik is ic mc ms sa : Nat} {A : Nat → Prop}
    (hown : s.vm.findClass own = some m.cls) (hcls : Bundle.fit cls = true) (hnames : ∀ n ∈ names, Bundle.fit n = true)
    (hk : (Cond.classLink own ik cls).before args s = true) (hini : (Cond.initialized cls).before args s = true) (hstr : vk_R own is text sa s) (hat : ∀ w ∈ vx_atS own ic cls names, w.before args s = true)
    (hgood : ∀ w ∈ Cond.classLink own ik cls :: Cond.initialized cls :: vx_atS own ic cls names, vx_ot w = true)
    (hU : vx_Zq Bundle.tN "UNASSIGNED_STACK" Bundle.steD A s s.heap) (hN : vx_Zq Bundle.tN "SUPPRESSED_SENTINEL" Bundle.listD A s s.heap) (hS : va_S A s.heap H locs) (hsize : ls.size = c.maxLocals)
    (d0 : decode cc pc = .ok (.new ik, 3)) (d3 : decode cc (pc + 3) = .ok (.dup, 1)) (d4 : decode cc (pc + 4) = .ok (.ldc_w is, 3)) (d7 : decode cc (pc + 7) = .ok (.invokespecial ic, 3)) (d10 : decode cc (pc + 10) = .ok (.athrow, 1))
    (hout : ∀ x ∈ c.exceptionTable.toList, covers x (pc + 10) = false)
    (hRframes : names.length + 3 < R.frames) (hRlocals : (rest.map fun v => v.category).sum + (13 * (names.length + 1) + 43) ≤ R.locals) (hRcells : cells + 1 ≤ R.cells) (hRslots : slots + 6 ≤ R.slots) (hlocks : meth.locks = false)
    (hx : ∀ t : State, s.vm.Alike t.vm → H.size ≤ t.heap.size → (∀ q : Nat, q < H.size → t.heap[q]? = H[q]?) → XC cls s t)
    (hf : ∀ z ∈ locs, free z.base) (hc : cells + 1 ≤ mc) (hs : slots + 6 ≤ ms) :
    W p l e R s m args below meth c H locs cells slots (vx_MQ below Qc XC args s mc ms free) (F0 m pc ls rest) := by
  intro T hT X
  have htr : e.platform.stackTraces = false := (show e.platform.stackTraces = l.stackTraces by rw [X.admits.platform]).trans hl
  have Y := vx_rebase X (R' := { frames := R.frames, locals := R.locals, cells := 1, slots := 6 }) (Nat.le_refl _) (Nat.le_refl _) hRcells hRslots
  obtain ⟨s', hA⟩ : ∃ z, z = (T.setVm s.vm).setFrames (.invoking m args :: below) := ⟨_, rfl⟩
  rw [← hA] at Y
  have hvm : s'.vm = s.vm := by rw [hA]; rfl
  have hhp : s'.heap = H := by rw [hA]; exact hT
  have hW0 : s.WarmedH s'.vm := by rw [hvm]; exact State.WarmedH.refl s
  have hat' : ∀ w ∈ vx_atS own ic cls names, w.before args s' = true := fun w hw => vx_ot_at hW0 hvm.symm (hgood w (List.mem_cons_of_mem _ (List.mem_cons_of_mem _ hw))) (hat w hw)
  have hk' : (Cond.classLink own ik cls).before args s' = true := vx_ot_at hW0 hvm.symm (hgood _ List.mem_cons_self) hk
  have hini' : (Cond.initialized cls).before args s' = true := vx_ot_at hW0 hvm.symm (hgood _ (List.mem_cons_of_mem _ List.mem_cons_self)) hini
  have hU' : vx_Zq Bundle.tN "UNASSIGNED_STACK" Bundle.steD A s' s'.heap := by rw [hhp]; exact vx_Zq.moved hW0.alike (hU.kept hS.2.1)
  have hN' : vx_Zq Bundle.tN "SUPPRESSED_SENTINEL" Bundle.listD A s' s'.heap := by rw [hhp]; exact vx_Zq.moved hW0.alike (hN.kept hS.2.1)
  have h : ∀ w ∈ Bundle.ownAtoms own ic cls names, w.before args s' = true := vx_own hat' (vx_isRefq hU'.1) (vx_isRefq hN'.1) hU'.2.word hN'.2.word
  have hown' : s'.vm.findClass own = some m.cls := by rw [hvm]; exact hown
  have hins : (Cond.instantiable cls 6).before args s' = true := h _ (by simp [Bundle.ownAtoms])
  obtain ⟨vm₁, cX, kX, hfX, hkX, -, -, X₁, st1⟩ := Y.newCold hexec (own := own) (C := cls) (index := ik) (n := 6) hown' hk' hins hini'
    (g := F0 m pc ls rest) rfl (by rw [hb]; exact d0) (Nat.le_refl _) (Nat.le_refl _)
  generalize hT1 : (T.setVm vm₁).pushCell { cls := cX, slots := kX.instanceTypes.map defaultValue, vm := .none } = T1 at X₁ st1
  have hcat : (Value.ref T.heap.size).category = 1 := rfl
  have hcellA : T1.heap[T.heap.size]? = some (freshCell cX kX) := by rw [← hT1]; exact State.heap_pushCell_size _ _
  have d3' : decode c.code (pc + 3) = .ok (.dup, 1) := by rw [hb]; exact d3
  have d4' : decode c.code (pc + 4) = .ok (.ldc_w is, 3) := by rw [hb]; exact d4
  have hstr' : vk_R own is text sa s' := vk_R.warm hW0 hstr
  obtain ⟨U, hsteps, hrun, hend, hW, hsame, ce, hce, hO⟩ := X₁.ctorThrowS hexec htr (own := own) (cls := cls) (names := names) (ic := ic) hown' hcls hnames h (fun x hx => nomatch hx) hfX hkX hcellA (by rw [hhp, hT]; exact Nat.le_refl _) (msg := .ref sa) rfl
    (g := { method := m, pc := pc + 7, locals := ls, stack := .ref sa :: .ref T.heap.size :: .ref T.heap.size :: rest, locked := none }) rfl hsize rfl rfl (rest := rest) rfl
    (by rw [hb]; exact d7) (by rw [hb]; exact d10) hout hRframes (by simp only [List.map_cons, List.sum_cons, hcat]; omega) hlocks
  obtain ⟨f1, f2⟩ := vx_frame hsame
  rw [hhp] at f1 f2
  have hWs : s.WarmedH U.vm := State.WarmedH.trans hW0 hW
  have hcl : s.vm.findClass cls = some ce.cls := by
    have h9 := hO.cls
    rw [hvm] at h9
    exact h9
  have hall : s.sameButNew ({ U with vm := s.vm } : State) locs mc ms := by
    subst hA
    obtain ⟨e1, e2⟩ := hsame
    rw [State.setFrames_setFrames] at e1
    have h2 : (T.setVm s.vm).sameButNew ({ U with vm := s.vm } : State) [] (0 + 1) (0 + 6) := ⟨e1, e2⟩
    have h3 := X.same.trans h2
    rw [List.append_nil] at h3
    exact h3.mono hc hs
  refine ⟨U, ?_, .threw T.heap.size, hrun, hend, Or.inr ⟨T.heap.size, rfl, cls, ce, locs, hx U hWs.alike f1 (fun q hq => f2 q hq (fun z hz => nomatch hz)), hce, hO.vm, hcl, hWs, hall, hf⟩⟩
  refine st1 _ ?_
  show Steps p.tables e below (T1.setTop { method := m, pc := pc + 3, locals := ls, stack := .ref T.heap.size :: rest, locked := none }) _
  jvm_step X₁.here [X₁.here.top, hexec, d3', Value.category]
  exact X₁.ldcStringW hexec (own := own) (text := text) (index := is) (a := sa) hown' hstr'.1 hstr'.2
    (g := { method := m, pc := pc + 4, locals := ls, stack := .ref T.heap.size :: .ref T.heap.size :: rest, locked := none }) rfl d4' _ hsteps
end Ends
section Bodies
variable {l : Launch}
theorem vx_ofW {y : MethodName} {ws ws' : List Cond} {rm : Room} {Pc : Array Value → State → Prop} {Qc : Array Value → State → Outcome → State → Prop} {XC : String → State → State → Prop} {mc ms : Nat} {free : Addr → Prop} {cc : ByteArray} {maxL : Nat} {ret : Option FieldType}
    (hy : plainName y.cls = true) (hw : ws = Cond.code y cc maxL ret :: ws')
    (body : ∀ p e s m args below meth c s₁, BodyLoose p l y (headSpec ws rm) cc maxL ret e s m args below meth c s₁ → c.maxLocals = maxL → (∀ x ∈ c.exceptionTable.toList, False) → Pc args s →
      W p l e (headSpec ws rm).room s m args below meth c s.heap [] 0 0 (vx_MQ below Qc XC args s mc ms free) (entryFrame m args maxL)) : vx_Met l y ws rm Pc Qc XC mc ms free := by
  refine MetFree.of_bodyS (code := cc) (maxLocals := maxL) (ret := ret) hy ?_ ?_
  · intro args s m h hn
    obtain ⟨meth, c, h1, h2, h3, h4, h5, h6, -, -⟩ := Cond.code_spec hn (atoms_spec (ws := ws) h _ (by rw [hw]; exact List.mem_cons_self))
    exact ⟨meth, c, h1, h2, h3, h4, h5, h6⟩
  · intro p e s m args below meth c s₁ B hml hP _
    have hh0 : s₁.heap = s.heap := by rw [B.state]; rfl
    have ht : ∀ x ∈ c.exceptionTable.toList, False := by
      obtain ⟨meth9, c9, h1, h2, -, -, -, -, h7, -⟩ := Cond.code_spec B.named (atoms_spec (ws := ws) B.pre _ (by rw [hw]; exact List.mem_cons_self))
      cases Option.some.inj (h1.symm.trans B.method)
      cases Option.some.inj (h2.symm.trans (Stand.of_body B).code)
      intro x hx
      rw [Array.isEmpty_iff.mp h7] at hx
      cases hx
    obtain ⟨t, a1, o, b1, b2, b3⟩ := body p e s m args below meth c s₁ B hml ht hP s₁ hh0 (Stand.of_body B)
    exact ⟨t, o, a1, b1, b2, b3⟩
/-- the table of a body with handlers -/
theorem vx_table {p : Program} {x y : MethodName} {S : Spec} {cc bytes : ByteArray} {maxL maxL' : Nat} {ret ret' : Option FieldType} {e : Env} {s s₁ : State} {m : MethodId} {args : Array Value} {below : List Frame} {meth : Method} {c : Code} {hh : List (Nat × Nat × Nat × Nat)}
    (B : BodyLoose p l y S cc maxL ret e s m args below meth c s₁) (h : (Cond.codeWith y bytes maxL' ret' hh).before args s = true) : c.exceptionTable.toList = tableOf hh := by
  obtain ⟨m9, meth9, c9, hn9, h1, h2, -, -, h6, -⟩ := Cond.codeWith_spec h
  cases Option.some.inj (hn9.symm.trans B.named)
  cases Option.some.inj (h1.symm.trans B.method)
  cases Option.some.inj (h2.symm.trans (Stand.of_body B).code)
  rw [← h6, table_eq]
end Bodies
end VXA
/-! ===== END ===== -/
/-! ===== BEGIN a static call of a method with an exception table ===== -/
section VXS
variable {p : Program} {l : Launch} {e : Env} {R : Room} {s : State} {m : MethodId} {args : Array Value} {below : List Frame} {meth : Method} {c : Code} {T : State} {H : Heap} {locs : List Loc} {cells slots : Nat}
abbrev vx_CSW (R : Room) (s : State) (args : Array Value) (own : String) (index : Nat) (y : MethodName) (bytes : ByteArray) (maxL : Nat) (ret : Option FieldType) (hh : List (Nat × Nat × Nat × Nat)) (ws : List Cond) (rm : Room) (mc ms n : Nat) : Prop :=
  (rm.cells = mc ∧ rm.slots = ms ∧ rm.frames + 1 ≤ R.frames ∧ 8 + (maxL + 11) + rm.locals ≤ R.locals ∧ (∀ w ∈ ws, ∀ (a' : Array Value) (U : State), s.WarmedH U.vm → w.before a' U = true) ∧ Cond.codeWith y bytes maxL ret hh ∈ ws) ∧
  (Cond.codeWith y bytes maxL ret hh).before args s = true ∧ (Cond.initialized y.cls).before args s = true ∧ (y.cls ≠ "java/lang/invoke/MethodHandle" ∧ y.cls ≠ "java/lang/invoke/VarHandle") ∧
  (∀ sig, parseMethodDescriptor y.desc = some sig → n = sig.parameters.length) ∧ (Cond.methodLink own index y).before args s = true ∧ (Cond.static y).before args s = true
theorem vx_cwSW {own : String} {index maxL mc ms : Nat} {y : MethodName} {bytes : ByteArray} {ret : Option FieldType} {hh : List (Nat × Nat × Nat × Nat)} {Ts ws ws' : List Cond} {rm : Room} (n : Nat) (ht : ∀ w ∈ Ts, w.before args s = true) (hT : GoodIn Ts (va_wsS own index y ws)) (hw : ws = Cond.codeWith y bytes maxL ret hh :: ws') (hrc : rm.cells = mc) (hrs : rm.slots = ms)
    (hd : y.cls ≠ "java/lang/invoke/MethodHandle" ∧ y.cls ≠ "java/lang/invoke/VarHandle" ∧ (parseMethodDescriptor y.desc).map (fun d => d.parameters.length) = some n) (hR : rm.frames + 1 ≤ R.frames ∧ 8 + (maxL + 11) + rm.locals ≤ R.locals) :
    vx_CSW R s args own index y bytes maxL ret hh ws rm mc ms n := by
  have ok : ∀ w ∈ va_wsS own index y ws, w.before args s = true := fun w h => ht w (hT w h).1
  have hG : GoodIn Ts ws := fun w h => hT w (by unfold va_wsS; exact List.mem_append_right _ h)
  have hc : Cond.codeWith y bytes maxL ret hh ∈ ws := by rw [hw]; exact List.mem_cons_self
  refine ⟨⟨hrc, hrs, hR.1, hR.2, pay_in ht hG, hc⟩, ht _ (hG _ hc).1, ok _ (by simp [va_wsS]), ⟨hd.1, hd.2.1⟩, fun sig h => ?_, ok _ (by simp [va_wsS]), ok _ (by simp [va_wsS])⟩
  have h2 := hd.2.2
  rw [h] at h2
  exact (Option.some.inj h2).symm
theorem vx_callSW (X : Stand p l e R s m args below meth c T locs cells slots) (hexec : p.tables.exec = Jvm.exec) {own : String} {index : Nat} {y : MethodName} {bytes : ByteArray} {maxL : Nat} {ret : Option FieldType} {hh : List (Nat × Nat × Nat × Nat)}
    (hown : s.vm.findClass own = some m.cls) (hlink : (Cond.methodLink own index y).before args s = true) (hstat : (Cond.static y).before args s = true) (hinit : (Cond.initialized y.cls).before args s = true)
    (hcode : (Cond.codeWith y bytes maxL ret hh).before args s = true) (hy : y.cls ≠ "java/lang/invoke/MethodHandle" ∧ y.cls ≠ "java/lang/invoke/VarHandle")
    {W9 : Nat} {Pre : Pt → Array Value → Prop} {Post : Pt → Array Value → Option Value → Pt → Prop} (hK : Back l R p e below s args y 3 W9 Pre Post)
    {g : JFrame} (hg : g.method = m) (hsize : g.locals.size = c.maxLocals) {argsL rest : List Value} (hlen : ∀ sig, parseMethodDescriptor y.desc = some sig → argsL.length = sig.parameters.length)
    (hstack : g.stack = argsL.reverse ++ rest) (hW : 2 * g.monitorRoom + (rest.map fun v => v.category).sum ≤ W9) (hdg : decode c.code g.pc = .ok (.invokestatic index, 3))
    (hpre : ∀ vm₁, s.WarmedH vm₁ → Pre ⟨T.setVm vm₁, locs, cells, slots⟩ argsL.toArray) :
    ∃ (v : Option Value) (vm₁ : Vm) (B : Pt), s.WarmedH vm₁ ∧ Stand p l e R s m args below meth c B.U B.locs B.cells B.slots ∧ Post ⟨T.setVm vm₁, locs, cells, slots⟩ argsL.toArray v B ∧
      ∀ target, Steps p.tables e below (B.U.setTop { g with pc := g.pc + 3, stack := v.toList ++ rest }) target → Steps p.tables e below (T.setTop g) target := by
  obtain ⟨mk, methM, cM, hnamed, hmethM, -, -, -, -, -, -, hsigM⟩ := Cond.codeWith_spec hcode
  have hstatic : methM.isStatic = true := Cond.static_spec hnamed hmethM hstat
  obtain ⟨kP, hkP, -⟩ := className_of_methodNamed hnamed
  have hinitP : kP.init = .initialized := Cond.initialized_spec (findClass_of_methodNamed hnamed) hkP hinit
  obtain ⟨vm₁, X₁, hstep₁⟩ := X.invokestatic hexec hown hlink hnamed hmethM hstatic hkP hinitP hy (g := g) hg (argsL := argsL) (rest := rest) (hlen _ hsigM) hstack hdg
  obtain ⟨v, B, X', hpost, hsteps⟩ := hK m meth c ⟨T.setVm vm₁, locs, cells, slots⟩ { g with stack := rest } (.invokestatic index) mk argsL.toArray X₁ hg hsize hdg hW (X₁.named hnamed) (hpre vm₁ X₁.warmed)
  exact ⟨v, vm₁, B, X₁.warmed, X', hpost, fun target h => hstep₁ _ fun acts => by rw [doInvoke_state]; exact hsteps.trans h⟩
theorem vx_runSW {y : MethodName} {bytes cc : ByteArray} {maxL nL mc ms n index : Nat} {ret : Option FieldType} {hh : List (Nat × Nat × Nat × Nat)} {ws : List Cond} {rm : Room} {Pc : Array Value → State → Prop} {Qc : Array Value → State → Outcome → State → Prop} {free : Addr → Prop} {Ts : List Cond} {own : String} {As rest : List Value} {g : JFrame}
    (S : CallFix p m c cc nL s args Ts own) (hM : Met l y ws rm Pc Qc mc ms free) (cw : vx_CSW R s args own index y bytes maxL ret hh ws rm mc ms n) (hp : PreS s H Pc As)
    (hg : g.method = m) (hn : As.length = n) (hsize : g.locals.size = nL) (hstack : g.stack = As.reverse ++ rest) (hW : 2 * g.monitorRoom + (rest.map fun v => v.category).sum ≤ 8) (hdg : decode cc g.pc = .ok (.invokestatic index, 3)) (hf : cells + mc ≤ R.cells ∧ slots + ms ≤ R.slots) :
    va_Run p l e R s m args below meth c H locs cells slots mc ms g rest (Qc As.toArray) (free) := by
  obtain ⟨⟨hrc, hrs, hfr, hlo, hws, hcw⟩, hcode, hini, hy, hlen, hl, hstt⟩ := cw
  have hK : Back l R p e below s args y 3 8 (PreOf R mc ms Pc) (PostOf Qc mc ms free) := va_backW (hh := hh) (bytes := bytes) (maxL := maxL) (ret := ret) hM hp.1 hrc hrs hfr hlo hws hcw (fun a' U hW => word_at hW (Or.inl (by first | rfl | simp [Cond.onTables, Cond.keeps, Cond.steady])) hini)
  obtain ⟨hx, hb, hml, ho, -⟩ := S
  intro T hT X
  obtain ⟨v, vm₁, ⟨U', l2, c2, s2⟩, hW₁, X', ⟨g', mk, t, L, e1, e2, hq, h1, hL, h2, h3⟩, st⟩ := vx_callSW X hx (hh := hh) (bytes := bytes) (maxL := maxL) (ret := ret) ho hl hstt hini hcode hy hK hg (hsize.trans hml.symm) (argsL := As) (rest := rest) (fun sig h => hn.trans (hlen sig h)) hstack hW (by rw [hb]; exact hdg)
    (fun vm₁ hW₁ => ⟨hf.1, hf.2, hp.2 (T.setVm vm₁) hT hW₁⟩)
  dsimp only [Pt.U, Pt.locs, Pt.cells, Pt.slots] at X' e1 e2 h1 h2 h3 st
  subst h1; subst h2; subst h3
  exact ⟨v, (T.setVm vm₁).calling g' mk As.toArray, t, U', L, hT, X', hL, e1, e2, hq, st⟩
/-- not caught here, past rows that name other classes: it goes on to the caller -/
theorem vx_outP {p : Program} {l : Launch} {e : Env} {R : Room} {s : State} {m : MethodId} {args : Array Value} {below : List Frame} {meth : Method} {c : Code} {H : Heap} {locs : List Loc} {cells slots : Nat} {free : Addr → Prop} {ls : Array Slot} {rest : List Value} {Qc : Array Value → State → Outcome → State → Prop} {XC : String → State → State → Prop}
    {pc : Nat} {own E : String} {ce : Cell} {q : Addr} {mc ms : Nat} (hown : s.vm.findClass own = some m.cls) (hlocks : meth.locks = false)
    (hpass : ∀ z ∈ c.exceptionTable.toList, covers z pc = false ∨ (z.catchType ≠ 0 ∧ ∃ nm : String, (Cond.classLink own z.catchType nm).before args s = true ∧ va_Nc E nm s)) (hcell : H[q]? = some ce) (hv : ce.vm = .none) (hcl : s.vm.findClass E = some ce.cls)
    (hx : ∀ t : State, t.heap = H → s.vm.Alike t.vm → XC E s t) (hf : ∀ z ∈ locs, free z.base) (hc : cells ≤ mc) (hs : slots ≤ ms) :
    vx_W p l e R s m args below meth c H locs cells slots (vx_MQ below Qc XC args s mc ms free) (F0 m pc ls rest) q := by
  intro T hT X
  have hpl : e.platform.magicAccessors = ({} : Platform).magicAccessors := by rw [X.admits.platform]
  obtain ⟨vm', hW', X', st⟩ := X.outThrough hlocks q (g := F0 m pc ls rest) rfl rfl rfl (cell := ce) (by rw [hT]; exact hcell) (by rw [hv]; rfl)
    (by obtain ⟨k9, h9, -⟩ := Vm.findClass_spec hcl; exact ⟨k9, h9⟩) (fun z hz => by
      rcases hpass z hz with h | ⟨hz0, nm, hl1, hn1⟩
      · exact Or.inl h
      · obtain ⟨c6, hc6, hcl6⟩ := Cond.classLink_spec hown hl1 e.platform hpl
        obtain ⟨a8, b8, h1, h2, h3⟩ := hn1
        cases Option.some.inj (h1.symm.trans hcl)
        cases Option.some.inj (h2.symm.trans hc6)
        exact Or.inr ⟨hz0, _, hcl6, h3⟩)
  obtain ⟨g₀, hfr⟩ := X'.frames_eq
  have hcell9 : ((T.setVm vm').setFrames (.throwing q :: below)).heap[q]? = some ce := by
    show T.heap[q]? = some ce
    rw [hT]; exact hcell
  have hend : Ended ((T.setVm vm').setFrames (.throwing q :: below)) below (.threw q) := State.frames_setFrames _ (State.cur_lt_of_frames hfr)
  refine ⟨(T.setVm vm').setFrames (.throwing q :: below), ?_, .threw q, X'.here.running, hend, Or.inr ⟨q, rfl, E, ce, locs, hx _ hT (X'.ends _).1.alike, hcell9, hv, hcl, (X'.ends _).1, (X'.ends _).2.mono hc hs, hf⟩⟩
  rw [X.pushThrowing_eq]
  exact st
/-- a thing of a world lies in the heap -/
theorem vx_lt {D : va_G} {cl : List vw_C} {ws : va_W} {H1 : Heap} (h : va_P D cl ws H1) {k : Nat} {q : Nat × va_E} (hk : ws[k]? = some q) : q.1 < H1.size := (h k q hk).lt
end VXS
/-! ===== END ===== -/
/-! ===== BEGIN methods with a table of their own: called by a name, returning or throwing ===== -/
section VXH
/-! vx_backW, vx_callVX, vx_callSX, vx_callVW, vx_runVW, vx_runVX, vx_runSX, vx_ofWH follow the same proofs as their sisters above (Free/Laws.lean, Shelf42/LK1.lean); vx_outP calls Shelf42/NT130.lean (outThrough). -/
section
variable {l : Launch} {R : Room} {p : Program} {e : Env} {below : List Frame} {s : State} {sargs : Array Value} {y : MethodName} {len W9 : Nat}
theorem vx_backW {ws : List Cond} {rm : Room} {Pc : Array Value → State → Prop} {Qc : Array Value → State → Outcome → State → Prop} {XC : String → State → State → Prop} {mc ms : Nat} {free : Addr → Prop} {bytes : ByteArray} {maxL : Nat} {ret : Option FieldType} {hh : List (Nat × Nat × Nat × Nat)}
    (hM : vx_Met l y ws rm Pc Qc XC mc ms free) (hblind : FrameBlind Pc) (hrc : rm.cells = mc) (hrs : rm.slots = ms)
    (hframes : rm.frames + 1 ≤ R.frames) (hlocals : W9 + (maxL + 11) + rm.locals ≤ R.locals)
    (hws : ∀ w ∈ ws, ∀ a' U, s.WarmedH U.vm → w.before a' U = true) (hcode : Cond.codeWith y bytes maxL ret hh ∈ ws) (hinit : ∀ a' U, s.WarmedH U.vm → (Cond.initialized y.cls).before a' U = true) :
    vx_Back l R p e below s sargs y len W9 (PreOf R mc ms Pc) (PostOf Qc mc ms free) (vx_Post XC mc ms free) := by
  intro m meth c A g ig mk a X hg hsize hdg hW hn hp
  have h1 : (headSpec ws rm).pre.before a A.U = true := atoms_intro fun w hw => hws w hw _ _ X.warmed
  have h2 : (Cond.codeWith y bytes maxL ret hh).before a A.U = true := hws _ hcode _ _ X.warmed
  have h3 : (Cond.initialized y.cls).before a A.U = true := hinit _ _ X.warmed
  have h4 : A.cells + (headSpec ws rm).room.cells ≤ R.cells := by rw [show (headSpec ws rm).room.cells = mc from hrc]; exact hp.1
  have h5 : A.slots + (headSpec ws rm).room.slots ≤ R.slots := by rw [show (headSpec ws rm).room.slots = ms from hrs]; exact hp.2.1
  have hPc : Pc a (A.U.calling g mk a) := hblind _ _ _ _ hp.2.2
  obtain ⟨U, Ls, c0, s0⟩ := A
  dsimp only [Pt.U, Pt.locs, Pt.cells, Pt.slots] at h1 h2 h3 h4 h5 X hn hPc ⊢
  obtain ⟨m9, methY, cY, hn9, hmY, hcY, -, hlY, -⟩ := Cond.codeWith_spec h2
  cases Option.some.inj (hn9.symm.trans hn)
  obtain ⟨kY, hkY, -⟩ := className_of_methodNamed hn
  have hinitY : kY.init = .initialized := Cond.initialized_spec (findClass_of_methodNamed hn) hkY h3
  have h : At U g.method c below := by rw [hg]; exact X.here
  have hlocals9 : W9 + (maxL + 11) + (headSpec ws rm).room.locals ≤ R.locals := hlocals
  have happ : (headSpec ws rm).appliesLoose y e.platform (U.calling g mk a) = true :=
    Spec.appliesLoose_calling (g := g) h hdg hn hkY hinitY
      (X.room_calling (g := g) (R' := (headSpec ws rm).room) hsize hmY hcY hframes (by rw [hlY]; omega) h4 h5) h1
  obtain ⟨mid, hmid⟩ := h.above
  have hfr : (U.setTop g).frames = (.java g :: mid) ++ below := by rw [State.frames_setTop' g h.top, hmid]; rfl
  obtain ⟨o, s₂, hsteps, -, hend, hq⟩ := Steps.callFree hM p X.admits X.cas X.clock (acts := []) hfr happ hPc trivial
  have hq' : vx_Q Qc XC mc ms free a (U.calling g mk a) o s₂ := hq
  rw [State.frames_setTop' g h.top] at hend
  obtain ⟨g₀, hg0⟩ := Option.isSome_iff_exists.mp h.top
  obtain ⟨r, hr⟩ := State.topJava?_eq_some.mp hg0
  have hr' : (({ U with heap := s₂.heap, slotsUsed := s₂.slotsUsed } : State).setVm s₂.vm).frames = .java g₀ :: r := hr
  rcases hq' with ⟨hqc, L, hfe, hL⟩ | ⟨q, rfl, E, ce, L, hx, hce, hcv, hcl, hW₂, hsm, hL⟩
  · obtain ⟨⟨v, rfl⟩, hW₂, e2, q2, q3, q4, q5, q6⟩ := id hfe
    have e3 : s₂ = ({ (U.calling g mk a).setFrames s₂.frames with heap := s₂.heap, slotsUsed := s₂.slotsUsed } : State).setVm s₂.vm := by
      have : s₂ = ({ s₂ with vm := (U.calling g mk a).vm } : State).setVm s₂.vm := rfl
      rw [e2] at this
      exact this
    obtain ⟨c₂, i₂, len₂, hc₂, hd₂, hf₂⟩ := hend
    have hW' : U.WarmedH s₂.vm := hW₂
    have hcc : c₂ = c := by
      have h1 : s₂.code? g.method = U.code? g.method := by
        rw [State.code?_eq, State.code?_eq, hW'.alike.method?]
      exact Option.some.inj (hc₂.symm.trans (h1.trans h.code))
    subst hcc
    have hlen : len₂ = len := by rw [hdg] at hd₂; cases hd₂; rfl
    subst hlen
    have hs₂ : s₂ = (({ U with heap := s₂.heap, slotsUsed := s₂.slotsUsed } : State).setVm s₂.vm).setTop { g with pc := g.pc + len₂, stack := v.toList ++ g.stack } := by
      refine e3.trans ?_
      rw [hf₂, State.calling_eq h.top, State.setFrames_setFrames, State.setTop_of_frames _ hr', hr]
      rfl
    have hsame : U.sameButNew ({ U with heap := s₂.heap, slotsUsed := s₂.slotsUsed } : State) L mc ms := by
      refine ⟨?_, q2, q3, q4, q5, q6⟩
      obtain ⟨t, ht, -⟩ := State.frames_cons hr
      show ({ U with heap := s₂.heap, slotsUsed := s₂.slotsUsed } : State) = { U.setFrames U.frames with heap := s₂.heap, slotsUsed := s₂.slotsUsed }
      rw [State.setFrames_self ht]
    subst hg
    refine Or.inl ⟨v, ⟨(({ U with heap := s₂.heap, slotsUsed := s₂.slotsUsed } : State).setVm s₂.vm), Ls ++ L, c0 + mc, s0 + ms⟩,
      ⟨X.admits, X.cas, X.clock, X.frames, X.room, X.hears, X.method, X.code, (X.here.setHeapUsed s₂.heap s₂.slotsUsed).setVm hW'.alike, X.tail, State.WarmedH.trans X.warmed hW', X.limits, X.bytes, X.same.trans (hsame.setVm s.vm)⟩,
      ⟨g, mk, s₂, L, rfl, rfl, hqc, rfl, hL, rfl, rfl⟩, ?_⟩
    show Steps p.tables e below _ ((({ U with heap := s₂.heap, slotsUsed := s₂.slotsUsed } : State).setVm s₂.vm).setTop { g with pc := g.pc + len₂, stack := v.toList ++ g.stack })
    rw [← hs₂]
    exact hsteps
  · obtain ⟨e2, q2, q3, q4, q5, q6⟩ := id hsm
    have e3 : s₂ = ({ (U.calling g mk a).setFrames s₂.frames with heap := s₂.heap, slotsUsed := s₂.slotsUsed } : State).setVm s₂.vm := by
      have : s₂ = ({ s₂ with vm := (U.calling g mk a).vm } : State).setVm s₂.vm := rfl
      rw [e2] at this
      exact this
    have hf₂ : s₂.frames = .throwing q :: .java g :: U.frames.tail := hend
    have hW' : U.WarmedH s₂.vm := hW₂
    have hs₂ : s₂ = ((({ U with heap := s₂.heap, slotsUsed := s₂.slotsUsed } : State).setVm s₂.vm).setTop g).pushFrame (.throwing q) := by
      refine e3.trans ?_
      rw [hf₂, State.calling_eq h.top, State.setFrames_setFrames, State.pushFrame, State.frames_setTop _ hr', State.setTop_of_frames _ hr', State.setFrames_setFrames, hr]
      rfl
    have hsame : U.sameButNew ({ U with heap := s₂.heap, slotsUsed := s₂.slotsUsed } : State) L mc ms := by
      refine ⟨?_, q2, q3, q4, q5, q6⟩
      obtain ⟨t, ht, -⟩ := State.frames_cons hr
      show ({ U with heap := s₂.heap, slotsUsed := s₂.slotsUsed } : State) = { U.setFrames U.frames with heap := s₂.heap, slotsUsed := s₂.slotsUsed }
      rw [State.setFrames_self ht]
    subst hg
    refine Or.inr ⟨q, ⟨(({ U with heap := s₂.heap, slotsUsed := s₂.slotsUsed } : State).setVm s₂.vm), Ls ++ L, c0 + mc, s0 + ms⟩,
      ⟨X.admits, X.cas, X.clock, X.frames, X.room, X.hears, X.method, X.code, (X.here.setHeapUsed s₂.heap s₂.slotsUsed).setVm hW'.alike, X.tail, State.WarmedH.trans X.warmed hW', X.limits, X.bytes, X.same.trans (hsame.setVm s.vm)⟩,
      ⟨g, mk, s₂, L, E, ce, rfl, rfl, hx, hce, hcv, hcl, rfl, hL, rfl, rfl⟩, ?_⟩
    show Steps p.tables e below _ (((({ U with heap := s₂.heap, slotsUsed := s₂.slotsUsed } : State).setVm s₂.vm).setTop g).pushFrame (.throwing q))
    rw [← hs₂]
    exact hsteps
end
variable {p : Program} {l : Launch} {e : Env} {R : Room} {s : State} {m : MethodId} {args : Array Value} {below : List Frame} {meth : Method} {c : Code} {T : State} {H : Heap} {locs : List Loc} {cells slots : Nat}
theorem vx_callVX (X : Stand p l e R s m args below meth c T locs cells slots) (hexec : p.tables.exec = Jvm.exec) {own C : String} {index : Nat} {y : MethodName} {bytes : ByteArray} {maxL : Nat} {ret : Option FieldType} {hh : List (Nat × Nat × Nat × Nat)}
    (hown : s.vm.findClass own = some m.cls) (hlink : (Cond.methodLink own index y).before args s = true) (hinst : (Cond.instanceMethod y).before args s = true) (hsel : (Cond.selects C y y).before args s = true)
    (hcode : (Cond.codeWith y bytes maxL ret hh).before args s = true) (hy : y.cls ≠ "java/lang/invoke/MethodHandle" ∧ y.cls ≠ "java/lang/invoke/VarHandle")
    {W9 : Nat} {Pre : Pt → Array Value → Prop} {Post : Pt → Array Value → Option Value → Pt → Prop} {PostX : Pt → Array Value → Addr → Pt → Prop} (hK : vx_Back l R p e below s args y 3 W9 Pre Post PostX)
    {b : Addr} {cellB : Cell} (hcell : T.heap[b]? = some cellB) (hobj : cellB.vm.isStatics = false) (hcls : s.vm.findClass C = some cellB.cls)
    {g : JFrame} (hg : g.method = m) (hsize : g.locals.size = c.maxLocals) {argsL rest : List Value} (hlen : ∀ sig, parseMethodDescriptor y.desc = some sig → argsL.length = sig.parameters.length)
    (hstack : g.stack = argsL.reverse ++ .ref b :: rest) (hW : 2 * g.monitorRoom + (rest.map fun v => v.category).sum ≤ W9) (hdg : decode c.code g.pc = .ok (.invokevirtual index, 3))
    (hpre : ∀ vm₁, s.WarmedH vm₁ → Pre ⟨T.setVm vm₁, locs, cells, slots⟩ (Value.ref b :: argsL).toArray) :
    (∃ (v : Option Value) (vm₁ : Vm) (B : Pt), s.WarmedH vm₁ ∧ Stand p l e R s m args below meth c B.U B.locs B.cells B.slots ∧ Post ⟨T.setVm vm₁, locs, cells, slots⟩ (Value.ref b :: argsL).toArray v B ∧
      ∀ target, Steps p.tables e below (B.U.setTop { g with pc := g.pc + 3, stack := v.toList ++ rest }) target → Steps p.tables e below (T.setTop g) target) ∨
    (∃ (q : Addr) (vm₁ : Vm) (B : Pt), s.WarmedH vm₁ ∧ Stand p l e R s m args below meth c B.U B.locs B.cells B.slots ∧ PostX ⟨T.setVm vm₁, locs, cells, slots⟩ (Value.ref b :: argsL).toArray q B ∧
      Steps p.tables e below (T.setTop g) ((B.U.setTop { g with stack := rest }).pushFrame (.throwing q))) := by
  obtain ⟨mk, methM, hnamed, hmethM, hstM, habM⟩ := Cond.instanceMethod_spec hinst
  obtain ⟨m8, methM', cM, hn8, hmethM', -, -, -, -, -, -, hsigM⟩ := Cond.codeWith_spec hcode
  cases Option.some.inj (hn8.symm.trans hnamed)
  cases hmethM.symm.trans hmethM'
  obtain ⟨c2, r2, m2, q1, q2, q3, q4, kP, hkP, hkPi⟩ := Cond.selects_spec hsel
  cases hcls.symm.trans q1
  cases (State.methodFound?_of_named hnamed hy).symm.trans q2
  cases hnamed.symm.trans q3
  have hselP : selectMethod e.platform s.vm cellB.cls mk = .method mk := by rw [Launch.admits_selectMethod X.admits]; exact q4
  obtain ⟨vm₁, X₁, hstep₁⟩ := X.invokevirtual hexec hown hlink hnamed hmethM hstM hkP hkPi hy (a := b) (cell := cellB) hcell
    (fun z h => by rw [h] at hobj; cases hobj) hselP hmethM habM hkP hkPi (g := g) hg (argsL := argsL) (rest := rest) (hlen _ hsigM) hstack hdg
  rcases hK m meth c ⟨T.setVm vm₁, locs, cells, slots⟩ { g with stack := rest } (.invokevirtual index) mk (Value.ref b :: argsL).toArray X₁ hg hsize hdg hW (X₁.named hnamed) (hpre vm₁ X₁.warmed) with ⟨v, B, X', hpost, hsteps⟩ | ⟨q, B, X', hpost, hsteps⟩
  · exact Or.inl ⟨v, vm₁, B, X₁.warmed, X', hpost, fun target h => hstep₁ _ fun acts => by rw [doInvoke_state]; exact hsteps.trans h⟩
  · exact Or.inr ⟨q, vm₁, B, X₁.warmed, X', hpost, hstep₁ _ fun acts => by rw [doInvoke_state]; exact hsteps⟩
theorem vx_callSX (X : Stand p l e R s m args below meth c T locs cells slots) (hexec : p.tables.exec = Jvm.exec) {own : String} {index : Nat} {y : MethodName} {bytes : ByteArray} {maxL : Nat} {ret : Option FieldType} {hh : List (Nat × Nat × Nat × Nat)}
    (hown : s.vm.findClass own = some m.cls) (hlink : (Cond.methodLink own index y).before args s = true) (hstat : (Cond.static y).before args s = true) (hinit : (Cond.initialized y.cls).before args s = true)
    (hcode : (Cond.codeWith y bytes maxL ret hh).before args s = true) (hy : y.cls ≠ "java/lang/invoke/MethodHandle" ∧ y.cls ≠ "java/lang/invoke/VarHandle")
    {W9 : Nat} {Pre : Pt → Array Value → Prop} {Post : Pt → Array Value → Option Value → Pt → Prop} {PostX : Pt → Array Value → Addr → Pt → Prop} (hK : vx_Back l R p e below s args y 3 W9 Pre Post PostX)
    {g : JFrame} (hg : g.method = m) (hsize : g.locals.size = c.maxLocals) {argsL rest : List Value} (hlen : ∀ sig, parseMethodDescriptor y.desc = some sig → argsL.length = sig.parameters.length)
    (hstack : g.stack = argsL.reverse ++ rest) (hW : 2 * g.monitorRoom + (rest.map fun v => v.category).sum ≤ W9) (hdg : decode c.code g.pc = .ok (.invokestatic index, 3))
    (hpre : ∀ vm₁, s.WarmedH vm₁ → Pre ⟨T.setVm vm₁, locs, cells, slots⟩ argsL.toArray) :
    (∃ (v : Option Value) (vm₁ : Vm) (B : Pt), s.WarmedH vm₁ ∧ Stand p l e R s m args below meth c B.U B.locs B.cells B.slots ∧ Post ⟨T.setVm vm₁, locs, cells, slots⟩ argsL.toArray v B ∧
      ∀ target, Steps p.tables e below (B.U.setTop { g with pc := g.pc + 3, stack := v.toList ++ rest }) target → Steps p.tables e below (T.setTop g) target) ∨
    (∃ (q : Addr) (vm₁ : Vm) (B : Pt), s.WarmedH vm₁ ∧ Stand p l e R s m args below meth c B.U B.locs B.cells B.slots ∧ PostX ⟨T.setVm vm₁, locs, cells, slots⟩ argsL.toArray q B ∧
      Steps p.tables e below (T.setTop g) ((B.U.setTop { g with stack := rest }).pushFrame (.throwing q))) := by
  obtain ⟨mk, methM, cM, hnamed, hmethM, -, -, -, -, -, -, hsigM⟩ := Cond.codeWith_spec hcode
  have hstatic : methM.isStatic = true := Cond.static_spec hnamed hmethM hstat
  obtain ⟨kP, hkP, -⟩ := className_of_methodNamed hnamed
  have hinitP : kP.init = .initialized := Cond.initialized_spec (findClass_of_methodNamed hnamed) hkP hinit
  obtain ⟨vm₁, X₁, hstep₁⟩ := X.invokestatic hexec hown hlink hnamed hmethM hstatic hkP hinitP hy (g := g) hg (argsL := argsL) (rest := rest) (hlen _ hsigM) hstack hdg
  rcases hK m meth c ⟨T.setVm vm₁, locs, cells, slots⟩ { g with stack := rest } (.invokestatic index) mk argsL.toArray X₁ hg hsize hdg hW (X₁.named hnamed) (hpre vm₁ X₁.warmed) with ⟨v, B, X', hpost, hsteps⟩ | ⟨q, B, X', hpost, hsteps⟩
  · exact Or.inl ⟨v, vm₁, B, X₁.warmed, X', hpost, fun target h => hstep₁ _ fun acts => by rw [doInvoke_state]; exact hsteps.trans h⟩
  · exact Or.inr ⟨q, vm₁, B, X₁.warmed, X', hpost, hstep₁ _ fun acts => by rw [doInvoke_state]; exact hsteps⟩
theorem vx_callVW (X : Stand p l e R s m args below meth c T locs cells slots) (hexec : p.tables.exec = Jvm.exec) {own C : String} {index : Nat} {y : MethodName} {bytes : ByteArray} {maxL : Nat} {ret : Option FieldType} {hh : List (Nat × Nat × Nat × Nat)}
    (hown : s.vm.findClass own = some m.cls) (hlink : (Cond.methodLink own index y).before args s = true) (hinst : (Cond.instanceMethod y).before args s = true) (hsel : (Cond.selects C y y).before args s = true)
    (hcode : (Cond.codeWith y bytes maxL ret hh).before args s = true) (hy : y.cls ≠ "java/lang/invoke/MethodHandle" ∧ y.cls ≠ "java/lang/invoke/VarHandle")
    {W9 : Nat} {Pre : Pt → Array Value → Prop} {Post : Pt → Array Value → Option Value → Pt → Prop} (hK : Back l R p e below s args y 3 W9 Pre Post)
    {b : Addr} {cellB : Cell} (hcell : T.heap[b]? = some cellB) (hobj : cellB.vm.isStatics = false) (hcls : s.vm.findClass C = some cellB.cls)
    {g : JFrame} (hg : g.method = m) (hsize : g.locals.size = c.maxLocals) {argsL rest : List Value} (hlen : ∀ sig, parseMethodDescriptor y.desc = some sig → argsL.length = sig.parameters.length)
    (hstack : g.stack = argsL.reverse ++ .ref b :: rest) (hW : 2 * g.monitorRoom + (rest.map fun v => v.category).sum ≤ W9) (hdg : decode c.code g.pc = .ok (.invokevirtual index, 3))
    (hpre : ∀ vm₁, s.WarmedH vm₁ → Pre ⟨T.setVm vm₁, locs, cells, slots⟩ (Value.ref b :: argsL).toArray) :
    ∃ (v : Option Value) (vm₁ : Vm) (B : Pt), s.WarmedH vm₁ ∧ Stand p l e R s m args below meth c B.U B.locs B.cells B.slots ∧ Post ⟨T.setVm vm₁, locs, cells, slots⟩ (Value.ref b :: argsL).toArray v B ∧
      ∀ target, Steps p.tables e below (B.U.setTop { g with pc := g.pc + 3, stack := v.toList ++ rest }) target → Steps p.tables e below (T.setTop g) target := by
  obtain ⟨mk, methM, hnamed, hmethM, hstM, habM⟩ := Cond.instanceMethod_spec hinst
  obtain ⟨m8, methM', cM, hn8, hmethM', -, -, -, -, -, -, hsigM⟩ := Cond.codeWith_spec hcode
  cases Option.some.inj (hn8.symm.trans hnamed)
  cases hmethM.symm.trans hmethM'
  obtain ⟨c2, r2, m2, q1, q2, q3, q4, kP, hkP, hkPi⟩ := Cond.selects_spec hsel
  cases hcls.symm.trans q1
  cases (State.methodFound?_of_named hnamed hy).symm.trans q2
  cases hnamed.symm.trans q3
  have hselP : selectMethod e.platform s.vm cellB.cls mk = .method mk := by rw [Launch.admits_selectMethod X.admits]; exact q4
  obtain ⟨vm₁, X₁, hstep₁⟩ := X.invokevirtual hexec hown hlink hnamed hmethM hstM hkP hkPi hy (a := b) (cell := cellB) hcell
    (fun z h => by rw [h] at hobj; cases hobj) hselP hmethM habM hkP hkPi (g := g) hg (argsL := argsL) (rest := rest) (hlen _ hsigM) hstack hdg
  obtain ⟨v, B, X', hpost, hsteps⟩ := hK m meth c ⟨T.setVm vm₁, locs, cells, slots⟩ { g with stack := rest } (.invokevirtual index) mk (Value.ref b :: argsL).toArray X₁ hg hsize hdg hW (X₁.named hnamed) (hpre vm₁ X₁.warmed)
  exact ⟨v, vm₁, B, X₁.warmed, X', hpost, fun target h => hstep₁ _ fun acts => by rw [doInvoke_state]; exact hsteps.trans h⟩
abbrev vx_CVW (R : Room) (s : State) (args : Array Value) (own C : String) (index : Nat) (y : MethodName) (bytes : ByteArray) (maxL : Nat) (ret : Option FieldType) (hh : List (Nat × Nat × Nat × Nat)) (ws : List Cond) (rm : Room) (mc ms n : Nat) : Prop :=
  (rm.cells = mc ∧ rm.slots = ms ∧ rm.frames + 1 ≤ R.frames ∧ 8 + (maxL + 11) + rm.locals ≤ R.locals ∧ (∀ w ∈ ws, ∀ (a' : Array Value) (U : State), s.WarmedH U.vm → w.before a' U = true) ∧ Cond.codeWith y bytes maxL ret hh ∈ ws) ∧
  (Cond.codeWith y bytes maxL ret hh).before args s = true ∧ (Cond.initialized y.cls).before args s = true ∧ (y.cls ≠ "java/lang/invoke/MethodHandle" ∧ y.cls ≠ "java/lang/invoke/VarHandle") ∧
  (∀ sig, parseMethodDescriptor y.desc = some sig → n = sig.parameters.length) ∧ (Cond.methodLink own index y).before args s = true ∧ (Cond.instanceMethod y).before args s = true ∧ (Cond.selects C y y).before args s = true
theorem vx_cwVW {own C : String} {index maxL mc ms : Nat} {y : MethodName} {bytes : ByteArray} {ret : Option FieldType} {hh : List (Nat × Nat × Nat × Nat)} {Ts ws ws' : List Cond} {rm : Room} (n : Nat) (ht : ∀ w ∈ Ts, w.before args s = true) (hT : GoodIn Ts (wsV own index C y ws)) (hw : ws = Cond.codeWith y bytes maxL ret hh :: ws') (hrc : rm.cells = mc) (hrs : rm.slots = ms)
    (hd : y.cls = C ∧ y.cls ≠ "java/lang/invoke/MethodHandle" ∧ y.cls ≠ "java/lang/invoke/VarHandle" ∧ (parseMethodDescriptor y.desc).map (fun d => d.parameters.length) = some n) (hR : rm.frames + 1 ≤ R.frames ∧ 8 + (maxL + 11) + rm.locals ≤ R.locals) :
    vx_CVW R s args own C index y bytes maxL ret hh ws rm mc ms n := by
  obtain ⟨hC, hd⟩ := hd
  subst hC
  have ok : ∀ w ∈ wsV own index y.cls y ws, w.before args s = true := fun w h => ht w (hT w h).1
  have hG : GoodIn Ts ws := fun w h => hT w (by unfold wsV; exact List.mem_append_right _ h)
  have hc : Cond.codeWith y bytes maxL ret hh ∈ ws := by rw [hw]; exact List.mem_cons_self
  refine ⟨⟨hrc, hrs, hR.1, hR.2, pay_in ht hG, hc⟩, ht _ (hG _ hc).1, ok _ (by simp [wsV]), ⟨hd.1, hd.2.1⟩, fun sig h => ?_, ok _ (by simp [wsV]), ok _ (by simp [wsV]), ok _ (by simp [wsV])⟩
  have h2 := hd.2.2
  rw [h] at h2
  exact (Option.some.inj h2).symm
theorem vx_runVW {y : MethodName} {bytes cc : ByteArray} {maxL nL mc ms n index : Nat} {ret : Option FieldType} {hh : List (Nat × Nat × Nat × Nat)} {ws : List Cond} {rm : Room} {Pc : Array Value → State → Prop} {Qc : Array Value → State → Outcome → State → Prop} {free : Addr → Prop} {Ts : List Cond} {own C : String} {b : Addr} {As rest : List Value} {g : JFrame}
    (S : CallFix p m c cc nL s args Ts own) (hM : Met l y ws rm Pc Qc mc ms free) (cw : vx_CVW R s args own C index y bytes maxL ret hh ws rm mc ms n) (hp : PreV s H C b Pc As)
    (hg : g.method = m) (hn : As.length = n) (hsize : g.locals.size = nL) (hstack : g.stack = As.reverse ++ .ref b :: rest) (hW : 2 * g.monitorRoom + (rest.map fun v => v.category).sum ≤ 8) (hdg : decode cc g.pc = .ok (.invokevirtual index, 3)) (hf : cells + mc ≤ R.cells ∧ slots + ms ≤ R.slots) :
    va_Run p l e R s m args below meth c H locs cells slots mc ms g rest (Qc (Value.ref b :: As).toArray) free := by
  obtain ⟨⟨hrc, hrs, hfr, hlo, hws, hcw⟩, hcode, hini, hy, hlen, hl, hin, hse⟩ := cw
  have hK : Back l R p e below s args y 3 8 (PreOf R mc ms Pc) (PostOf Qc mc ms free) := va_backW (hh := hh) (bytes := bytes) (maxL := maxL) (ret := ret) hM hp.1 hrc hrs hfr hlo hws hcw (fun a' U hW => word_at hW (Or.inl (by first | rfl | simp [Cond.onTables, Cond.keeps, Cond.steady])) hini)
  obtain ⟨hx, hb, hml, ho, -⟩ := S
  obtain ⟨-, ⟨cellB, hcB, hoB, hclB⟩, hPc⟩ := hp
  intro T hT X
  obtain ⟨v, vm₁, ⟨U', l2, c2, s2⟩, hW₁, X', ⟨g', mk, t, L, e1, e2, hq, h1, hL, h2, h3⟩, st⟩ := vx_callVW X hx (C := C) (hh := hh) (bytes := bytes) (maxL := maxL) (ret := ret) ho hl hin hse hcode hy hK (by rw [hT]; exact hcB) hoB hclB hg (hsize.trans hml.symm) (argsL := As) (rest := rest) (fun sig h => hn.trans (hlen sig h)) hstack hW (by rw [hb]; exact hdg)
    (fun vm₁ hW₁ => ⟨hf.1, hf.2, hPc (T.setVm vm₁) hT hW₁⟩)
  dsimp only [Pt.U, Pt.locs, Pt.cells, Pt.slots] at X' e1 e2 h1 h2 h3 st
  subst h1; subst h2; subst h3
  exact ⟨v, (T.setVm vm₁).calling g' mk (Value.ref b :: As).toArray, t, U', L, hT, X', hL, e1, e2, hq, st⟩
section
variable {y : MethodName} {bytes cc : ByteArray} {maxL nL mc ms n index : Nat} {ret : Option FieldType} {ws : List Cond} {rm : Room} {Pc : Array Value → State → Prop} {Qc : Array Value → State → Outcome → State → Prop} {XC : String → State → State → Prop} {free : Addr → Prop} {Ts : List Cond} {own C : String} {b : Addr} {As rest : List Value} {g : JFrame}
theorem vx_runVX {hh : List (Nat × Nat × Nat × Nat)} (S : CallFix p m c cc nL s args Ts own) (hM : vx_Met l y ws rm Pc Qc XC mc ms free) (cw : vx_CVW R s args own C index y bytes maxL ret hh ws rm mc ms n) (hp : PreV s H C b Pc As)
    (hg : g.method = m) (hn : As.length = n) (hsize : g.locals.size = nL) (hstack : g.stack = As.reverse ++ .ref b :: rest) (hW : 2 * g.monitorRoom + (rest.map fun v => v.category).sum ≤ 8) (hdg : decode cc g.pc = .ok (.invokevirtual index, 3)) (hf : cells + mc ≤ R.cells ∧ slots + ms ≤ R.slots) :
    vx_Run p l e R s m args below meth c H locs cells slots mc ms g rest (Qc (Value.ref b :: As).toArray) XC free := by
  obtain ⟨⟨hrc, hrs, hfr, hlo, hws, hcw⟩, hcode, hini, hy, hlen, hl, hin, hse⟩ := cw
  have hK : vx_Back l R p e below s args y 3 8 (PreOf R mc ms Pc) (PostOf Qc mc ms free) (vx_Post XC mc ms free) := vx_backW (hh := hh) (bytes := bytes) (maxL := maxL) (ret := ret) hM hp.1 hrc hrs hfr hlo hws hcw (fun a' U hW => word_at hW (Or.inl (by first | rfl | simp [Cond.onTables, Cond.keeps, Cond.steady])) hini)
  obtain ⟨hx, hb, hml, ho, -⟩ := S
  obtain ⟨-, ⟨cellB, hcB, hoB, hclB⟩, hPc⟩ := hp
  intro T hT X
  rcases vx_callVX X hx (C := C) (hh := hh) (bytes := bytes) (maxL := maxL) (ret := ret) ho hl hin hse hcode hy hK (by rw [hT]; exact hcB) hoB hclB hg (hsize.trans hml.symm) (argsL := As) (rest := rest) (fun sig h => hn.trans (hlen sig h)) hstack hW (by rw [hb]; exact hdg)
    (fun vm₁ hW₁ => ⟨hf.1, hf.2, hPc (T.setVm vm₁) hT hW₁⟩) with ⟨v, vm₁, ⟨U', l2, c2, s2⟩, hW₁, X', ⟨g', mk, t, L, e1, e2, hq, h1, hL, h2, h3⟩, st⟩ | ⟨q, vm₁, ⟨U', l2, c2, s2⟩, hW₁, X', ⟨g', mk, t, L, E, ce, e1, e2, hq, hce, hcv, hcl, h1, hL, h2, h3⟩, st⟩
  · dsimp only [Pt.U, Pt.locs, Pt.cells, Pt.slots] at X' e1 e2 h1 h2 h3 st
    subst h1; subst h2; subst h3
    exact Or.inl ⟨v, (T.setVm vm₁).calling g' mk (Value.ref b :: As).toArray, t, U', L, hT, X', hL, e1, e2, hq, st⟩
  · dsimp only [Pt.U, Pt.locs, Pt.cells, Pt.slots] at X' e1 e2 h1 h2 h3 st hcl
    subst h1; subst h2; subst h3
    exact Or.inr ⟨q, (T.setVm vm₁).calling g' mk (Value.ref b :: As).toArray, t, U', L, E, ce, hT, X', hL, e1, e2, hq, hce, hcv, vx_cls hW₁ hcl, st⟩
theorem vx_runSX {hh : List (Nat × Nat × Nat × Nat)} (S : CallFix p m c cc nL s args Ts own) (hM : vx_Met l y ws rm Pc Qc XC mc ms free) (cw : vx_CSW R s args own index y bytes maxL ret hh ws rm mc ms n) (hp : PreS s H Pc As)
    (hg : g.method = m) (hn : As.length = n) (hsize : g.locals.size = nL) (hstack : g.stack = As.reverse ++ rest) (hW : 2 * g.monitorRoom + (rest.map fun v => v.category).sum ≤ 8) (hdg : decode cc g.pc = .ok (.invokestatic index, 3)) (hf : cells + mc ≤ R.cells ∧ slots + ms ≤ R.slots) :
    vx_Run p l e R s m args below meth c H locs cells slots mc ms g rest (Qc As.toArray) XC free := by
  obtain ⟨⟨hrc, hrs, hfr, hlo, hws, hcw⟩, hcode, hini, hy, hlen, hl, hstt⟩ := cw
  have hK : vx_Back l R p e below s args y 3 8 (PreOf R mc ms Pc) (PostOf Qc mc ms free) (vx_Post XC mc ms free) := vx_backW (hh := hh) (bytes := bytes) (maxL := maxL) (ret := ret) hM hp.1 hrc hrs hfr hlo hws hcw (fun a' U hW => word_at hW (Or.inl (by first | rfl | simp [Cond.onTables, Cond.keeps, Cond.steady])) hini)
  obtain ⟨hx, hb, hml, ho, -⟩ := S
  intro T hT X
  rcases vx_callSX X hx (hh := hh) (bytes := bytes) (maxL := maxL) (ret := ret) ho hl hstt hini hcode hy hK hg (hsize.trans hml.symm) (argsL := As) (rest := rest) (fun sig h => hn.trans (hlen sig h)) hstack hW (by rw [hb]; exact hdg)
    (fun vm₁ hW₁ => ⟨hf.1, hf.2, hp.2 (T.setVm vm₁) hT hW₁⟩) with ⟨v, vm₁, ⟨U', l2, c2, s2⟩, hW₁, X', ⟨g', mk, t, L, e1, e2, hq, h1, hL, h2, h3⟩, st⟩ | ⟨q, vm₁, ⟨U', l2, c2, s2⟩, hW₁, X', ⟨g', mk, t, L, E, ce, e1, e2, hq, hce, hcv, hcl, h1, hL, h2, h3⟩, st⟩
  · dsimp only [Pt.U, Pt.locs, Pt.cells, Pt.slots] at X' e1 e2 h1 h2 h3 st
    subst h1; subst h2; subst h3
    exact Or.inl ⟨v, (T.setVm vm₁).calling g' mk As.toArray, t, U', L, hT, X', hL, e1, e2, hq, st⟩
  · dsimp only [Pt.U, Pt.locs, Pt.cells, Pt.slots] at X' e1 e2 h1 h2 h3 st hcl
    subst h1; subst h2; subst h3
    exact Or.inr ⟨q, (T.setVm vm₁).calling g' mk As.toArray, t, U', L, E, ce, hT, X', hL, e1, e2, hq, hce, hcv, vx_cls hW₁ hcl, st⟩
end
end VXH
theorem vx_ofWH {l : Launch} {y : MethodName} {ws ws' : List Cond} {rm : Room} {Pc : Array Value → State → Prop} {Qc : Array Value → State → Outcome → State → Prop} {XC : String → State → State → Prop} {mc ms : Nat} {free : Addr → Prop} {cc : ByteArray} {maxL : Nat} {ret : Option FieldType} {hh : List (Nat × Nat × Nat × Nat)}
    (hy : plainName y.cls = true) (hw : ws = Cond.codeWith y cc maxL ret hh :: ws')
    (body : ∀ p e s m args below meth c s₁, BodyLoose p l y (headSpec ws rm) cc maxL ret e s m args below meth c s₁ → c.maxLocals = maxL → Pc args s →
      W p l e (headSpec ws rm).room s m args below meth c s.heap [] 0 0 (vx_MQ below Qc XC args s mc ms free) (entryFrame m args maxL)) : vx_Met l y ws rm Pc Qc XC mc ms free := by
  refine MetFree.of_bodyS (code := cc) (maxLocals := maxL) (ret := ret) hy ?_ ?_
  · intro args s m h hn
    obtain ⟨m9, meth, c, hn9, h1, h2, h3, h4, -, h5, h6, -⟩ := Cond.codeWith_spec (atoms_spec (ws := ws) h _ (by rw [hw]; exact List.mem_cons_self))
    cases hn.symm.trans hn9
    exact ⟨meth, c, h1, h2, h3, h4, h5, h6⟩
  · intro p e s m args below meth c s₁ B hml hP _
    have hh0 : s₁.heap = s.heap := by rw [B.state]; rfl
    obtain ⟨t, a1, o, b1, b2, b3⟩ := body p e s m args below meth c s₁ B hml hP s₁ hh0 (Stand.of_body B)
    exact ⟨t, o, a1, b1, b2, b3⟩
/-! ===== END ===== -/

def RX0 : String := "EchoChamber$Answer"
def TX0 : u_T := fun k => match k with
  | 0 => ("EchoChamber$Answer", "number", "I", true)
  | 1 => ("EchoChamber$Answer", "room", "LEchoChamber$Room;", true)
  | 2 => ("EchoChamber$Answer", "state", "LEchoChamber$State;", true)
  | 3 => ("EchoChamber$Answer", "place", "I", true)
  | 4 => ("EchoChamber$Answer", "samples", "[I", true)
  | 5 => ("EchoChamber$Answer", "hourThen", "I", true)
  | _ => ("EchoChamber$Answer", "changesThen", "I", true)
def tyX0 : Nat → FieldType := fun k => match k with
  | 0 => .int
  | 1 => .object "EchoChamber$Room"
  | 2 => .object "EchoChamber$State"
  | 3 => .int
  | 4 => .array .int
  | 5 => .int
  | _ => .int
abbrev wsX00 : List Cond := u_ws RX0 TX0 7
theorem nmX0 : ∀ a, a < 7 → ∀ b, b < 7 → a ≠ b → (TX0 a).2.1 ≠ (TX0 b).2.1 := by decide +kernel
theorem tyX0_ok : ∀ k, k < 7 → parseFieldDescriptor (TX0 k).2.2.1 = some (tyX0 k) := by decide +kernel
abbrev cX0_init : ByteArray := prog_2_method_1_code
def yX0_init : MethodName := ⟨RX0, "<init>", "(ILEchoChamber$Room;I[II)V"⟩
abbrev cX0_isForState : ByteArray := prog_2_method_2_code
def yX0_isForState : MethodName := ⟨RX0, "isForState", "(LEchoChamber$Room;LEchoChamber$State;)Z"⟩
abbrev cX0_ageAt : ByteArray := prog_2_method_3_code
def yX0_ageAt : MethodName := ⟨RX0, "ageAt", "(I)I"⟩
def RX1 : String := "EchoChamber$Booking"
def TX1 : u_T := fun k => match k with
  | 0 => ("EchoChamber$Booking", "number", "I", true)
  | 1 => ("EchoChamber$Booking", "room", "LEchoChamber$Room;", true)
  | 2 => ("EchoChamber$Booking", "state", "LEchoChamber$State;", true)
  | 3 => ("EchoChamber$Booking", "first", "I", true)
  | 4 => ("EchoChamber$Booking", "last", "I", true)
  | _ => ("EchoChamber$Booking", "isCancelled", "Z", false)
def tyX1 : Nat → FieldType := fun k => match k with
  | 0 => .int
  | 1 => .object "EchoChamber$Room"
  | 2 => .object "EchoChamber$State"
  | 3 => .int
  | 4 => .int
  | _ => .boolean
abbrev wsX10 : List Cond := u_ws RX1 TX1 6
theorem nmX1 : ∀ a, a < 6 → ∀ b, b < 6 → a ≠ b → (TX1 a).2.1 ≠ (TX1 b).2.1 := by decide +kernel
theorem tyX1_ok : ∀ k, k < 6 → parseFieldDescriptor (TX1 k).2.2.1 = some (tyX1 k) := by decide +kernel
abbrev cX1_init : ByteArray := prog_3_method_1_code
def yX1_init : MethodName := ⟨RX1, "<init>", "(ILEchoChamber$Room;LEchoChamber$State;II)V"⟩
abbrev cX1_standsFor : ByteArray := prog_3_method_2_code
def yX1_standsFor : MethodName := ⟨RX1, "standsFor", "(LEchoChamber$Room;)Z"⟩
abbrev cX1_isTooNear : ByteArray := prog_3_method_3_code
def yX1_isTooNear : MethodName := ⟨RX1, "isTooNear", "(LEchoChamber$State;II)Z"⟩
abbrev cX1_hoursBetween : ByteArray := prog_3_method_4_code
def yX1_hoursBetween : MethodName := ⟨RX1, "hoursBetween", "(II)J"⟩
def RX2 : String := "EchoChamber$Filter"
def TX2 : u_T := fun k => match k with
  | 0 => ("EchoChamber$Filter", "answer", "LEchoChamber$Answer;", true)
  | 1 => ("EchoChamber$Filter", "taps", "[J", true)
  | 2 => ("EchoChamber$Filter", "past", "[I", true)
  | _ => ("EchoChamber$Filter", "inputCount", "I", false)
def tyX2 : Nat → FieldType := fun k => match k with
  | 0 => .object "EchoChamber$Answer"
  | 1 => .array .long
  | 2 => .array .int
  | _ => .int
abbrev wsX20 : List Cond := u_ws RX2 TX2 4
theorem nmX2 : ∀ a, a < 4 → ∀ b, b < 4 → a ≠ b → (TX2 a).2.1 ≠ (TX2 b).2.1 := by decide +kernel
theorem tyX2_ok : ∀ k, k < 4 → parseFieldDescriptor (TX2 k).2.2.1 = some (tyX2 k) := by decide +kernel
abbrev cX2_init : ByteArray := prog_4_method_1_code
def yX2_init : MethodName := ⟨RX2, "<init>", "(LEchoChamber$Answer;)V"⟩
abbrev cX2_tapsUndoing : ByteArray := prog_4_method_2_code
def yX2_tapsUndoing : MethodName := ⟨RX2, "tapsUndoing", "([I)[J"⟩
abbrev cX2_getInput : ByteArray := prog_4_method_3_code
def yX2_getInput : MethodName := ⟨RX2, "getInput", "(I)V"⟩
abbrev cX2_given : ByteArray := prog_4_method_4_code
def yX2_given : MethodName := ⟨RX2, "given", "()J"⟩
abbrev cX2_rowSample : ByteArray := prog_4_method_5_code
def yX2_rowSample : MethodName := ⟨RX2, "rowSample", "(LEchoChamber$Answer;I)J"⟩
abbrev cX2_rightSamplesWith : ByteArray := prog_4_method_6_code
def yX2_rightSamplesWith : MethodName := ⟨RX2, "rightSamplesWith", "(LEchoChamber$Answer;)I"⟩
def RX3 : String := "EchoChamber$Room"
def TX3 : u_T := fun k => match k with
  | 0 => ("EchoChamber$Room", "state", "LEchoChamber$State;", false)
  | _ => ("EchoChamber$Room", "changeCount", "I", false)
def tyX3 : Nat → FieldType := fun k => match k with
  | 0 => .object "EchoChamber$State"
  | _ => .int
abbrev wsX30 : List Cond := u_ws RX3 TX3 2
theorem nmX3 : ∀ a, a < 2 → ∀ b, b < 2 → a ≠ b → (TX3 a).2.1 ≠ (TX3 b).2.1 := by decide +kernel
theorem tyX3_ok : ∀ k, k < 2 → parseFieldDescriptor (TX3 k).2.2.1 = some (tyX3 k) := by decide +kernel
abbrev cX3_init : ByteArray := prog_5_method_1_code
def yX3_init : MethodName := ⟨RX3, "<init>", "(LEchoChamber$State;)V"⟩
abbrev cX3_take : ByteArray := prog_5_method_2_code
def yX3_take : MethodName := ⟨RX3, "take", "(LEchoChamber$State;)I"⟩
def RX4 : String := "EchoChamber$State"
def TX4 : u_T := fun k => match k with
  | 0 => ("EchoChamber$State", "curtainCount", "I", true)
  | 1 => ("EchoChamber$State", "seatCount", "I", true)
  | _ => ("EchoChamber$State", "hasOpenDoors", "Z", true)
def tyX4 : Nat → FieldType := fun k => match k with
  | 0 => .int
  | 1 => .int
  | _ => .boolean
abbrev wsX40 : List Cond := u_ws RX4 TX4 3
theorem nmX4 : ∀ a, a < 3 → ∀ b, b < 3 → a ≠ b → (TX4 a).2.1 ≠ (TX4 b).2.1 := by decide +kernel
theorem tyX4_ok : ∀ k, k < 3 → parseFieldDescriptor (TX4 k).2.2.1 = some (tyX4 k) := by decide +kernel
abbrev cX4_init : ByteArray := prog_6_method_1_code
def yX4_init : MethodName := ⟨RX4, "<init>", "(IIZ)V"⟩
abbrev cX4_partsUnlike : ByteArray := prog_6_method_2_code
def yX4_partsUnlike : MethodName := ⟨RX4, "partsUnlike", "(LEchoChamber$State;)I"⟩
def RX5 : String := "EchoChamber"
def TX5 : u_T := fun k => match k with
  | 0 => ("EchoChamber", "roomList", "Ljava/util/ArrayList;", true)
  | 1 => ("EchoChamber", "answerList", "Ljava/util/ArrayList;", true)
  | 2 => ("EchoChamber", "filterList", "Ljava/util/ArrayList;", true)
  | 3 => ("EchoChamber", "bookingList", "Ljava/util/ArrayList;", true)
  | 4 => ("EchoChamber", "presentHour", "I", false)
  | _ => ("EchoChamber", "ageLimit", "I", false)
def tyX5 : Nat → FieldType := fun k => match k with
  | 0 => .object "java/util/ArrayList"
  | 1 => .object "java/util/ArrayList"
  | 2 => .object "java/util/ArrayList"
  | 3 => .object "java/util/ArrayList"
  | 4 => .int
  | _ => .int
abbrev wsX50 : List Cond := u_ws RX5 TX5 6
theorem nmX5 : ∀ a, a < 6 → ∀ b, b < 6 → a ≠ b → (TX5 a).2.1 ≠ (TX5 b).2.1 := by decide +kernel
theorem tyX5_ok : ∀ k, k < 6 → parseFieldDescriptor (TX5 k).2.2.1 = some (tyX5 k) := by decide +kernel
abbrev cX5_init : ByteArray := prog_1_method_1_code
def yX5_init : MethodName := ⟨RX5, "<init>", "()V"⟩
abbrev cX5_addRoom : ByteArray := prog_1_method_2_code
def yX5_addRoom : MethodName := ⟨RX5, "addRoom", "()I"⟩
abbrev cX5_setState : ByteArray := prog_1_method_3_code
def yX5_setState : MethodName := ⟨RX5, "setState", "(IIIZ)I"⟩
abbrev cX5_curtains : ByteArray := prog_1_method_4_code
def yX5_curtains : MethodName := ⟨RX5, "curtains", "(I)I"⟩
abbrev cX5_seats : ByteArray := prog_1_method_5_code
def yX5_seats : MethodName := ⟨RX5, "seats", "(I)I"⟩
abbrev cX5_areOpen : ByteArray := prog_1_method_6_code
def yX5_areOpen : MethodName := ⟨RX5, "areOpen", "(I)Z"⟩
abbrev cX5_changes : ByteArray := prog_1_method_7_code
def yX5_changes : MethodName := ⟨RX5, "changes", "(I)I"⟩
abbrev cX5_measure : ByteArray := prog_1_method_8_code
def yX5_measure : MethodName := ⟨RX5, "measure", "(IIIIII)I"⟩
abbrev cX5_sample : ByteArray := prog_1_method_9_code
def yX5_sample : MethodName := ⟨RX5, "sample", "(II)I"⟩
abbrev cX5_age : ByteArray := prog_1_method_10_code
def yX5_age : MethodName := ⟨RX5, "age", "(I)I"⟩
abbrev cX5_latest : ByteArray := prog_1_method_11_code
def yX5_latest : MethodName := ⟨RX5, "latest", "(IIIIZ)I"⟩
abbrev cX5_statesMeasured : ByteArray := prog_1_method_12_code
def yX5_statesMeasured : MethodName := ⟨RX5, "statesMeasured", "(I)I"⟩
abbrev cX5_answers : ByteArray := prog_1_method_13_code
def yX5_answers : MethodName := ⟨RX5, "answers", "()I"⟩
abbrev cX5_makeFilter : ByteArray := prog_1_method_14_code
def yX5_makeFilter : MethodName := ⟨RX5, "makeFilter", "(I)I"⟩
abbrev cX5_answerOf : ByteArray := prog_1_method_15_code
def yX5_answerOf : MethodName := ⟨RX5, "answerOf", "(I)I"⟩
abbrev cX5_tap : ByteArray := prog_1_method_16_code
def yX5_tap : MethodName := ⟨RX5, "tap", "(II)J"⟩
abbrev cX5_bar : ByteArray := prog_1_method_17_code
def yX5_bar : MethodName := ⟨RX5, "bar", "(I)C"⟩
abbrev cX5_use : ByteArray := prog_1_method_18_code
def yX5_use : MethodName := ⟨RX5, "use", "(II)J"⟩
abbrev cX5_inputs : ByteArray := prog_1_method_19_code
def yX5_inputs : MethodName := ⟨RX5, "inputs", "(I)I"⟩
abbrev cX5_product : ByteArray := prog_1_method_20_code
def yX5_product : MethodName := ⟨RX5, "product", "(III)J"⟩
abbrev cX5_rightSamples : ByteArray := prog_1_method_21_code
def yX5_rightSamples : MethodName := ⟨RX5, "rightSamples", "(II)I"⟩
abbrev cX5_isChecked : ByteArray := prog_1_method_22_code
def yX5_isChecked : MethodName := ⟨RX5, "isChecked", "(I)Z"⟩
abbrev cX5_setLimit : ByteArray := prog_1_method_23_code
def yX5_setLimit : MethodName := ⟨RX5, "setLimit", "(I)I"⟩
abbrev cX5_usable : ByteArray := prog_1_method_24_code
def yX5_usable : MethodName := ⟨RX5, "usable", "()I"⟩
abbrev cX5_book : ByteArray := prog_1_method_25_code
def yX5_book : MethodName := ⟨RX5, "book", "(IIIZII)I"⟩
abbrev cX5_clash : ByteArray := prog_1_method_26_code
def yX5_clash : MethodName := ⟨RX5, "clash", "(IIIZII)I"⟩
abbrev cX5_cancel : ByteArray := prog_1_method_27_code
def yX5_cancel : MethodName := ⟨RX5, "cancel", "(I)I"⟩
abbrev cX5_pass : ByteArray := prog_1_method_28_code
def yX5_pass : MethodName := ⟨RX5, "pass", "(I)I"⟩
abbrev cX5_hour : ByteArray := prog_1_method_29_code
def yX5_hour : MethodName := ⟨RX5, "hour", "()I"⟩
abbrev cX5_nextBooking : ByteArray := prog_1_method_30_code
def yX5_nextBooking : MethodName := ⟨RX5, "nextBooking", "(I)I"⟩
abbrev cX5_usableShare : ByteArray := prog_1_method_31_code
def yX5_usableShare : MethodName := ⟨RX5, "usableShare", "()F"⟩
abbrev cX5_roomAt : ByteArray := prog_1_method_32_code
def yX5_roomAt : MethodName := ⟨RX5, "roomAt", "(I)LEchoChamber$Room;"⟩
abbrev cX5_answerAt : ByteArray := prog_1_method_33_code
def yX5_answerAt : MethodName := ⟨RX5, "answerAt", "(I)LEchoChamber$Answer;"⟩
abbrev cX5_filterAt : ByteArray := prog_1_method_34_code
def yX5_filterAt : MethodName := ⟨RX5, "filterAt", "(I)LEchoChamber$Filter;"⟩
abbrev cX5_stateOf : ByteArray := prog_1_method_35_code
def yX5_stateOf : MethodName := ⟨RX5, "stateOf", "(IIZ)LEchoChamber$State;"⟩
abbrev cX5_checkPlace : ByteArray := prog_1_method_36_code
def yX5_checkPlace : MethodName := ⟨RX5, "checkPlace", "(I)V"⟩
abbrev cX5_checkSample : ByteArray := prog_1_method_37_code
def yX5_checkSample : MethodName := ⟨RX5, "checkSample", "(I)V"⟩
abbrev cX5_newestAnswer : ByteArray := prog_1_method_38_code
def yX5_newestAnswer : MethodName := ⟨RX5, "newestAnswer", "(LEchoChamber$Room;ILEchoChamber$State;)LEchoChamber$Answer;"⟩
abbrev cX5_isFirstOfItsState : ByteArray := prog_1_method_39_code
def yX5_isFirstOfItsState : MethodName := ⟨RX5, "isFirstOfItsState", "(I)Z"⟩
abbrev cX5_firstBar : ByteArray := prog_1_method_40_code
def yX5_firstBar : MethodName := ⟨RX5, "firstBar", "(LEchoChamber$Filter;)C"⟩
abbrev cX5_firstClash : ByteArray := prog_1_method_41_code
def yX5_firstClash : MethodName := ⟨RX5, "firstClash", "(LEchoChamber$Room;LEchoChamber$State;II)LEchoChamber$Booking;"⟩
abbrev cX5_standingBookings : ByteArray := prog_1_method_42_code
def yX5_standingBookings : MethodName := ⟨RX5, "standingBookings", "()I"⟩
abbrev cX5_beginBookings : ByteArray := prog_1_method_43_code
def yX5_beginBookings : MethodName := ⟨RX5, "beginBookings", "()I"⟩
def RX6 : String := "EchoChamberModel"
def TX6 : u_T := fun k => match k with
  | 0 => ("EchoChamberModel", "thrown", "I", false)
  | 1 => ("EchoChamberModel", "hour", "I", false)
  | 2 => ("EchoChamberModel", "limit", "I", false)
  | 3 => ("EchoChamberModel", "rooms", "I", false)
  | 4 => ("EchoChamberModel", "states", "[I", true)
  | 5 => ("EchoChamberModel", "changed", "[I", true)
  | 6 => ("EchoChamberModel", "answers", "I", false)
  | 7 => ("EchoChamberModel", "of", "[I", true)
  | 8 => ("EchoChamberModel", "its", "[I", true)
  | 9 => ("EchoChamberModel", "places", "[I", true)
  | 10 => ("EchoChamberModel", "since", "[I", true)
  | 11 => ("EchoChamberModel", "then", "[I", true)
  | 12 => ("EchoChamberModel", "samples", "[I", true)
  | 13 => ("EchoChamberModel", "filters", "I", false)
  | 14 => ("EchoChamberModel", "from", "[I", true)
  | 15 => ("EchoChamberModel", "taps", "[J", true)
  | 16 => ("EchoChamberModel", "pasts", "[I", true)
  | 17 => ("EchoChamberModel", "got", "[I", true)
  | 18 => ("EchoChamberModel", "bookings", "I", false)
  | 19 => ("EchoChamberModel", "bookRoom", "[I", true)
  | 20 => ("EchoChamberModel", "bookState", "[I", true)
  | 21 => ("EchoChamberModel", "firsts", "[I", true)
  | 22 => ("EchoChamberModel", "lasts", "[I", true)
  | _ => ("EchoChamberModel", "gone", "[Z", true)
def tyX6 : Nat → FieldType := fun k => match k with
  | 0 => .int
  | 1 => .int
  | 2 => .int
  | 3 => .int
  | 4 => .array .int
  | 5 => .array .int
  | 6 => .int
  | 7 => .array .int
  | 8 => .array .int
  | 9 => .array .int
  | 10 => .array .int
  | 11 => .array .int
  | 12 => .array .int
  | 13 => .int
  | 14 => .array .int
  | 15 => .array .long
  | 16 => .array .int
  | 17 => .array .int
  | 18 => .int
  | 19 => .array .int
  | 20 => .array .int
  | 21 => .array .int
  | 22 => .array .int
  | _ => .array .boolean
abbrev wsX60 : List Cond := u_ws RX6 TX6 24
theorem nmX6 : ∀ a, a < 24 → ∀ b, b < 24 → a ≠ b → (TX6 a).2.1 ≠ (TX6 b).2.1 := by decide +kernel
theorem tyX6_ok : ∀ k, k < 24 → parseFieldDescriptor (TX6 k).2.2.1 = some (tyX6 k) := by decide +kernel
abbrev cX6_init : ByteArray := prog_8_method_1_code
def yX6_init : MethodName := ⟨RX6, "<init>", "()V"⟩
abbrev cX6_thrown : ByteArray := prog_8_method_2_code
def yX6_thrown : MethodName := ⟨RX6, "thrown", "()I"⟩
abbrev cX6_fails : ByteArray := prog_8_method_3_code
def yX6_fails : MethodName := ⟨RX6, "fails", "(I)Z"⟩
abbrev cX6_in : ByteArray := prog_8_method_4_code
def yX6_in : MethodName := ⟨RX6, "in", "(III)Z"⟩
abbrev cX6_isRoom : ByteArray := prog_8_method_5_code
def yX6_isRoom : MethodName := ⟨RX6, "isRoom", "(I)Z"⟩
abbrev cX6_failsRoom : ByteArray := prog_8_method_6_code
def yX6_failsRoom : MethodName := ⟨RX6, "failsRoom", "(I)Z"⟩
abbrev cX6_failsAnswer : ByteArray := prog_8_method_7_code
def yX6_failsAnswer : MethodName := ⟨RX6, "failsAnswer", "(I)Z"⟩
abbrev cX6_failsFilter : ByteArray := prog_8_method_8_code
def yX6_failsFilter : MethodName := ⟨RX6, "failsFilter", "(I)Z"⟩
abbrev cX6_isState : ByteArray := prog_8_method_9_code
def yX6_isState : MethodName := ⟨RX6, "isState", "(II)Z"⟩
abbrev cX6_state : ByteArray := prog_8_method_10_code
def yX6_state : MethodName := ⟨RX6, "state", "(IIZ)I"⟩
abbrev cX6_differ : ByteArray := prog_8_method_11_code
def yX6_differ : MethodName := ⟨RX6, "differ", "(II)I"⟩
abbrev cX6_addRoom : ByteArray := prog_8_method_12_code
def yX6_addRoom : MethodName := ⟨RX6, "addRoom", "()I"⟩
abbrev cX6_gives : ByteArray := prog_8_method_13_code
def yX6_gives : MethodName := ⟨RX6, "gives", "(II)I"⟩
abbrev cX6_setState : ByteArray := prog_8_method_14_code
def yX6_setState : MethodName := ⟨RX6, "setState", "(IIIZ)I"⟩
abbrev cX6_curtains : ByteArray := prog_8_method_15_code
def yX6_curtains : MethodName := ⟨RX6, "curtains", "(I)I"⟩
abbrev cX6_seats : ByteArray := prog_8_method_16_code
def yX6_seats : MethodName := ⟨RX6, "seats", "(I)I"⟩
abbrev cX6_areOpen : ByteArray := prog_8_method_17_code
def yX6_areOpen : MethodName := ⟨RX6, "areOpen", "(I)Z"⟩
abbrev cX6_changes : ByteArray := prog_8_method_18_code
def yX6_changes : MethodName := ⟨RX6, "changes", "(I)I"⟩
abbrev cX6_measure : ByteArray := prog_8_method_19_code
def yX6_measure : MethodName := ⟨RX6, "measure", "(IIIIII)I"⟩
abbrev cX6_sample : ByteArray := prog_8_method_20_code
def yX6_sample : MethodName := ⟨RX6, "sample", "(II)I"⟩
abbrev cX6_ageOf : ByteArray := prog_8_method_21_code
def yX6_ageOf : MethodName := ⟨RX6, "ageOf", "(I)I"⟩
abbrev cX6_age : ByteArray := prog_8_method_22_code
def yX6_age : MethodName := ⟨RX6, "age", "(I)I"⟩
abbrev cX6_latestOf : ByteArray := prog_8_method_23_code
def yX6_latestOf : MethodName := ⟨RX6, "latestOf", "(III)I"⟩
abbrev cX6_latest : ByteArray := prog_8_method_24_code
def yX6_latest : MethodName := ⟨RX6, "latest", "(IIIIZ)I"⟩
abbrev cX6_statesMeasured : ByteArray := prog_8_method_25_code
def yX6_statesMeasured : MethodName := ⟨RX6, "statesMeasured", "(I)I"⟩
abbrev cX6_answers : ByteArray := prog_8_method_26_code
def yX6_answers : MethodName := ⟨RX6, "answers", "()I"⟩
abbrev cX6_makeFilter : ByteArray := prog_8_method_27_code
def yX6_makeFilter : MethodName := ⟨RX6, "makeFilter", "(I)I"⟩
abbrev cX6_answerOf : ByteArray := prog_8_method_28_code
def yX6_answerOf : MethodName := ⟨RX6, "answerOf", "(I)I"⟩
abbrev cX6_tap : ByteArray := prog_8_method_29_code
def yX6_tap : MethodName := ⟨RX6, "tap", "(II)J"⟩
abbrev cX6_barOf : ByteArray := prog_8_method_30_code
def yX6_barOf : MethodName := ⟨RX6, "barOf", "(I)C"⟩
abbrev cX6_bar : ByteArray := prog_8_method_31_code
def yX6_bar : MethodName := ⟨RX6, "bar", "(I)C"⟩
abbrev cX6_use : ByteArray := prog_8_method_32_code
def yX6_use : MethodName := ⟨RX6, "use", "(II)J"⟩
abbrev cX6_inputs : ByteArray := prog_8_method_33_code
def yX6_inputs : MethodName := ⟨RX6, "inputs", "(I)I"⟩
abbrev cX6_productOf : ByteArray := prog_8_method_34_code
def yX6_productOf : MethodName := ⟨RX6, "productOf", "(III)J"⟩
abbrev cX6_failsPair : ByteArray := prog_8_method_35_code
def yX6_failsPair : MethodName := ⟨RX6, "failsPair", "(II)Z"⟩
abbrev cX6_product : ByteArray := prog_8_method_36_code
def yX6_product : MethodName := ⟨RX6, "product", "(III)J"⟩
abbrev cX6_rightOf : ByteArray := prog_8_method_37_code
def yX6_rightOf : MethodName := ⟨RX6, "rightOf", "(II)I"⟩
abbrev cX6_rightSamples : ByteArray := prog_8_method_38_code
def yX6_rightSamples : MethodName := ⟨RX6, "rightSamples", "(II)I"⟩
abbrev cX6_isChecked : ByteArray := prog_8_method_39_code
def yX6_isChecked : MethodName := ⟨RX6, "isChecked", "(I)Z"⟩
abbrev cX6_setLimit : ByteArray := prog_8_method_40_code
def yX6_setLimit : MethodName := ⟨RX6, "setLimit", "(I)I"⟩
abbrev cX6_free : ByteArray := prog_8_method_41_code
def yX6_free : MethodName := ⟨RX6, "free", "()I"⟩
abbrev cX6_usable : ByteArray := prog_8_method_42_code
def yX6_usable : MethodName := ⟨RX6, "usable", "()I"⟩
abbrev cX6_clashOf : ByteArray := prog_8_method_43_code
def yX6_clashOf : MethodName := ⟨RX6, "clashOf", "(IIII)I"⟩
abbrev cX6_book : ByteArray := prog_8_method_44_code
def yX6_book : MethodName := ⟨RX6, "book", "(IIIZII)I"⟩
abbrev cX6_clash : ByteArray := prog_8_method_45_code
def yX6_clash : MethodName := ⟨RX6, "clash", "(IIIZII)I"⟩
abbrev cX6_cancel : ByteArray := prog_8_method_46_code
def yX6_cancel : MethodName := ⟨RX6, "cancel", "(I)I"⟩
abbrev cX6_pass : ByteArray := prog_8_method_47_code
def yX6_pass : MethodName := ⟨RX6, "pass", "(I)I"⟩
abbrev cX6_hour : ByteArray := prog_8_method_48_code
def yX6_hour : MethodName := ⟨RX6, "hour", "()I"⟩
abbrev cX6_nextBooking : ByteArray := prog_8_method_49_code
def yX6_nextBooking : MethodName := ⟨RX6, "nextBooking", "(I)I"⟩
abbrev cX6_usableShare : ByteArray := prog_8_method_50_code
def yX6_usableShare : MethodName := ⟨RX6, "usableShare", "()F"⟩
def RJx145de : String := "java/io/Serializable"
def TJx145de : u_T := fun k => match k with
  | _ => ("", "", "", false)
def tyJx145de : Nat → FieldType := fun k => match k with
  | _ => .int
theorem nmJx145de : ∀ a, a < 0 → ∀ b, b < 0 → a ≠ b → (TJx145de a).2.1 ≠ (TJx145de b).2.1 := by decide +kernel
theorem tyJx145de_ok : ∀ k, k < 0 → parseFieldDescriptor (TJx145de k).2.2.1 = some (tyJx145de k) := by decide +kernel
def RJx8e188 : String := "java/lang/Cloneable"
def TJx8e188 : u_T := fun k => match k with
  | _ => ("", "", "", false)
def tyJx8e188 : Nat → FieldType := fun k => match k with
  | _ => .int
theorem nmJx8e188 : ∀ a, a < 0 → ∀ b, b < 0 → a ≠ b → (TJx8e188 a).2.1 ≠ (TJx8e188 b).2.1 := by decide +kernel
theorem tyJx8e188_ok : ∀ k, k < 0 → parseFieldDescriptor (TJx8e188 k).2.2.1 = some (tyJx8e188 k) := by decide +kernel
def RJxab1ab : String := "java/lang/Iterable"
def TJxab1ab : u_T := fun k => match k with
  | _ => ("", "", "", false)
def tyJxab1ab : Nat → FieldType := fun k => match k with
  | _ => .int
theorem nmJxab1ab : ∀ a, a < 0 → ∀ b, b < 0 → a ≠ b → (TJxab1ab a).2.1 ≠ (TJxab1ab b).2.1 := by decide +kernel
theorem tyJxab1ab_ok : ∀ k, k < 0 → parseFieldDescriptor (TJxab1ab k).2.2.1 = some (tyJxab1ab k) := by decide +kernel
def RJ9 : String := "java/lang/Math"
def TJ9 : u_T := fun k => match k with
  | _ => ("", "", "", false)
def tyJ9 : Nat → FieldType := fun k => match k with
  | _ => .int
theorem nmJ9 : ∀ a, a < 0 → ∀ b, b < 0 → a ≠ b → (TJ9 a).2.1 ≠ (TJ9 b).2.1 := by decide +kernel
theorem tyJ9_ok : ∀ k, k < 0 → parseFieldDescriptor (TJ9 k).2.2.1 = some (tyJ9 k) := by decide +kernel
abbrev cJ9_max_7cf53 : ByteArray := prog_16_method_65_code
def yJ9_max_7cf53 : MethodName := ⟨RJ9, "max", "(II)I"⟩
abbrev cJ9_min_7cf53 : ByteArray := prog_16_method_69_code
def yJ9_min_7cf53 : MethodName := ⟨RJ9, "min", "(II)I"⟩
def RJ0 : String := "java/lang/String"
def TJ0 : u_T := fun k => match k with
  | _ => ("", "", "", false)
def tyJ0 : Nat → FieldType := fun k => match k with
  | _ => .int
theorem nmJ0 : ∀ a, a < 0 → ∀ b, b < 0 → a ≠ b → (TJ0 a).2.1 ≠ (TJ0 b).2.1 := by decide +kernel
theorem tyJ0_ok : ∀ k, k < 0 → parseFieldDescriptor (TJ0 k).2.2.1 = some (tyJ0 k) := by decide +kernel
def RJ10 : String := "java/lang/System"
def TJ10 : u_T := fun k => match k with
  | _ => ("", "", "", false)
def tyJ10 : Nat → FieldType := fun k => match k with
  | _ => .int
theorem nmJ10 : ∀ a, a < 0 → ∀ b, b < 0 → a ≠ b → (TJ10 a).2.1 ≠ (TJ10 b).2.1 := by decide +kernel
theorem tyJ10_ok : ∀ k, k < 0 → parseFieldDescriptor (TJ10 k).2.2.1 = some (tyJ10 k) := by decide +kernel
def RJxa1e45 : String := "java/util/AbstractCollection"
def TJxa1e45 : u_T := fun k => match k with
  | _ => ("", "", "", false)
def tyJxa1e45 : Nat → FieldType := fun k => match k with
  | _ => .int
theorem nmJxa1e45 : ∀ a, a < 0 → ∀ b, b < 0 → a ≠ b → (TJxa1e45 a).2.1 ≠ (TJxa1e45 b).2.1 := by decide +kernel
theorem tyJxa1e45_ok : ∀ k, k < 0 → parseFieldDescriptor (TJxa1e45 k).2.2.1 = some (tyJxa1e45 k) := by decide +kernel
abbrev cJxa1e45_init_da8c8 : ByteArray := prog_22_method_1_code
def yJxa1e45_init_da8c8 : MethodName := ⟨RJxa1e45, "<init>", "()V"⟩
def RJxc12de : String := "java/util/AbstractList"
def TJxc12de : u_T := fun k => match k with
  | _ => ("", "", "", false)
def tyJxc12de : Nat → FieldType := fun k => match k with
  | _ => .int
theorem nmJxc12de : ∀ a, a < 0 → ∀ b, b < 0 → a ≠ b → (TJxc12de a).2.1 ≠ (TJxc12de b).2.1 := by decide +kernel
theorem tyJxc12de_ok : ∀ k, k < 0 → parseFieldDescriptor (TJxc12de k).2.2.1 = some (tyJxc12de k) := by decide +kernel
abbrev cJxc12de_init_da8c8 : ByteArray := prog_23_method_1_code
def yJxc12de_init_da8c8 : MethodName := ⟨RJxc12de, "<init>", "()V"⟩
def RJx4a65c : String := "java/util/ArrayList"
def TJx4a65c : u_T := fun k => match k with
  | 0 => ("java/util/AbstractList", "modCount", "I", false)
  | 1 => ("java/util/ArrayList", "elementData", "[Ljava/lang/Object;", false)
  | _ => ("java/util/ArrayList", "size", "I", false)
def tyJx4a65c : Nat → FieldType := fun k => match k with
  | 0 => .int
  | 1 => .array (.object "java/lang/Object")
  | _ => .int
abbrev wsJx4a65c0 : List Cond := u_ws RJx4a65c TJx4a65c 3
theorem nmJx4a65c : ∀ a, a < 3 → ∀ b, b < 3 → a ≠ b → (TJx4a65c a).2.1 ≠ (TJx4a65c b).2.1 := by decide +kernel
theorem tyJx4a65c_ok : ∀ k, k < 3 → parseFieldDescriptor (TJx4a65c k).2.2.1 = some (tyJx4a65c k) := by decide +kernel
abbrev cJx4a65c_init_da8c8 : ByteArray := prog_24_method_2_code
def yJx4a65c_init_da8c8 : MethodName := ⟨RJx4a65c, "<init>", "()V"⟩
abbrev cJx4a65c_grow_92f84 : ByteArray := prog_24_method_6_code
def yJx4a65c_grow_92f84 : MethodName := ⟨RJx4a65c, "grow", "(I)[Ljava/lang/Object;"⟩
abbrev cJx4a65c_grow_d5877 : ByteArray := prog_24_method_7_code
def yJx4a65c_grow_d5877 : MethodName := ⟨RJx4a65c, "grow", "()[Ljava/lang/Object;"⟩
abbrev cJx4a65c_size_8abf5 : ByteArray := prog_24_method_8_code
def yJx4a65c_size_8abf5 : MethodName := ⟨RJx4a65c, "size", "()I"⟩
abbrev cJx4a65c_elementData_915e3 : ByteArray := prog_24_method_18_code
def yJx4a65c_elementData_915e3 : MethodName := ⟨RJx4a65c, "elementData", "(I)Ljava/lang/Object;"⟩
abbrev cJx4a65c_get_915e3 : ByteArray := prog_24_method_20_code
def yJx4a65c_get_915e3 : MethodName := ⟨RJx4a65c, "get", "(I)Ljava/lang/Object;"⟩
abbrev cJx4a65c_add_72be8 : ByteArray := prog_24_method_24_code
def yJx4a65c_add_72be8 : MethodName := ⟨RJx4a65c, "add", "(Ljava/lang/Object;[Ljava/lang/Object;I)V"⟩
abbrev cJx4a65c_add_9ea2d : ByteArray := prog_24_method_25_code
def yJx4a65c_add_9ea2d : MethodName := ⟨RJx4a65c, "add", "(Ljava/lang/Object;)Z"⟩
def RJ7 : String := "java/util/Arrays"
def TJ7 : u_T := fun k => match k with
  | _ => ("", "", "", false)
def tyJ7 : Nat → FieldType := fun k => match k with
  | _ => .int
theorem nmJ7 : ∀ a, a < 0 → ∀ b, b < 0 → a ≠ b → (TJ7 a).2.1 ≠ (TJ7 b).2.1 := by decide +kernel
theorem tyJ7_ok : ∀ k, k < 0 → parseFieldDescriptor (TJ7 k).2.2.1 = some (tyJ7 k) := by decide +kernel
abbrev cJ7_copyOf_1904c : ByteArray := prog_25_method_119_code
def yJ7_copyOf_1904c : MethodName := ⟨RJ7, "copyOf", "([Ljava/lang/Object;I)[Ljava/lang/Object;"⟩
abbrev cJ7_copyOf_6403c : ByteArray := prog_25_method_120_code
def yJ7_copyOf_6403c : MethodName := ⟨RJ7, "copyOf", "([Ljava/lang/Object;ILjava/lang/Class;)[Ljava/lang/Object;"⟩
def RJx5ef63 : String := "java/util/Collection"
def TJx5ef63 : u_T := fun k => match k with
  | _ => ("", "", "", false)
def tyJx5ef63 : Nat → FieldType := fun k => match k with
  | _ => .int
theorem nmJx5ef63 : ∀ a, a < 0 → ∀ b, b < 0 → a ≠ b → (TJx5ef63 a).2.1 ≠ (TJx5ef63 b).2.1 := by decide +kernel
theorem tyJx5ef63_ok : ∀ k, k < 0 → parseFieldDescriptor (TJx5ef63 k).2.2.1 = some (tyJx5ef63 k) := by decide +kernel
def RJxbd725 : String := "java/util/List"
def TJxbd725 : u_T := fun k => match k with
  | _ => ("", "", "", false)
def tyJxbd725 : Nat → FieldType := fun k => match k with
  | _ => .int
theorem nmJxbd725 : ∀ a, a < 0 → ∀ b, b < 0 → a ≠ b → (TJxbd725 a).2.1 ≠ (TJxbd725 b).2.1 := by decide +kernel
theorem tyJxbd725_ok : ∀ k, k < 0 → parseFieldDescriptor (TJxbd725 k).2.2.1 = some (tyJxbd725 k) := by decide +kernel
def RJ15 : String := "java/util/Objects"
def TJ15 : u_T := fun k => match k with
  | _ => ("", "", "", false)
def tyJ15 : Nat → FieldType := fun k => match k with
  | _ => .int
theorem nmJ15 : ∀ a, a < 0 → ∀ b, b < 0 → a ≠ b → (TJ15 a).2.1 ≠ (TJ15 b).2.1 := by decide +kernel
theorem tyJ15_ok : ∀ k, k < 0 → parseFieldDescriptor (TJ15 k).2.2.1 = some (tyJ15 k) := by decide +kernel
abbrev cJ15_checkIndex_7cf53 : ByteArray := prog_29_method_17_code
def yJ15_checkIndex_7cf53 : MethodName := ⟨RJ15, "checkIndex", "(II)I"⟩
def RJxf0a74 : String := "java/util/RandomAccess"
def TJxf0a74 : u_T := fun k => match k with
  | _ => ("", "", "", false)
def tyJxf0a74 : Nat → FieldType := fun k => match k with
  | _ => .int
theorem nmJxf0a74 : ∀ a, a < 0 → ∀ b, b < 0 → a ≠ b → (TJxf0a74 a).2.1 ≠ (TJxf0a74 b).2.1 := by decide +kernel
theorem tyJxf0a74_ok : ∀ k, k < 0 → parseFieldDescriptor (TJxf0a74 k).2.2.1 = some (tyJxf0a74 k) := by decide +kernel
def RJxa66e6 : String := "java/util/SequencedCollection"
def TJxa66e6 : u_T := fun k => match k with
  | _ => ("", "", "", false)
def tyJxa66e6 : Nat → FieldType := fun k => match k with
  | _ => .int
theorem nmJxa66e6 : ∀ a, a < 0 → ∀ b, b < 0 → a ≠ b → (TJxa66e6 a).2.1 ≠ (TJxa66e6 b).2.1 := by decide +kernel
theorem tyJxa66e6_ok : ∀ k, k < 0 → parseFieldDescriptor (TJxa66e6 k).2.2.1 = some (tyJxa66e6 k) := by decide +kernel
def RJ8 : String := "jdk/internal/util/ArraysSupport"
def TJ8 : u_T := fun k => match k with
  | _ => ("", "", "", false)
def tyJ8 : Nat → FieldType := fun k => match k with
  | _ => .int
theorem nmJ8 : ∀ a, a < 0 → ∀ b, b < 0 → a ≠ b → (TJ8 a).2.1 ≠ (TJ8 b).2.1 := by decide +kernel
theorem tyJ8_ok : ∀ k, k < 0 → parseFieldDescriptor (TJ8 k).2.2.1 = some (tyJ8 k) := by decide +kernel
abbrev cJ8_newLength_cabcc : ByteArray := prog_32_method_27_code
def yJ8_newLength_cabcc : MethodName := ⟨RJ8, "newLength", "(III)I"⟩
abbrev cJ8_hugeLength_7cf53 : ByteArray := prog_32_method_28_code
def yJ8_hugeLength_7cf53 : MethodName := ⟨RJ8, "hugeLength", "(II)I"⟩
def RJ3 : String := "jdk/internal/util/Preconditions"
def TJ3 : u_T := fun k => match k with
  | _ => ("", "", "", false)
def tyJ3 : Nat → FieldType := fun k => match k with
  | _ => .int
theorem nmJ3 : ∀ a, a < 0 → ∀ b, b < 0 → a ≠ b → (TJ3 a).2.1 ≠ (TJ3 b).2.1 := by decide +kernel
theorem tyJ3_ok : ∀ k, k < 0 → parseFieldDescriptor (TJ3 k).2.2.1 = some (tyJ3 k) := by decide +kernel
abbrev cJ3_checkIndex_8e157 : ByteArray := prog_33_method_11_code
def yJ3_checkIndex_8e157 : MethodName := ⟨RJ3, "checkIndex", "(IILjava/util/function/BiFunction;)I"⟩
def RL : String := "EchoChamberLaw"
abbrev cL_addRoom : ByteArray := method_3_code
def yL_addRoom : MethodName := ⟨RL, "addRoom", "(LEchoChamber;[J)I"⟩
abbrev cL_setState : ByteArray := method_4_code
def yL_setState : MethodName := ⟨RL, "setState", "(LEchoChamber;IIIZ[J)I"⟩
abbrev cL_curtains : ByteArray := method_5_code
def yL_curtains : MethodName := ⟨RL, "curtains", "(LEchoChamber;I[J)I"⟩
abbrev cL_seats : ByteArray := method_6_code
def yL_seats : MethodName := ⟨RL, "seats", "(LEchoChamber;I[J)I"⟩
abbrev cL_areOpen : ByteArray := method_7_code
def yL_areOpen : MethodName := ⟨RL, "areOpen", "(LEchoChamber;I[J)I"⟩
abbrev cL_changes : ByteArray := method_8_code
def yL_changes : MethodName := ⟨RL, "changes", "(LEchoChamber;I[J)I"⟩
abbrev cL_measure : ByteArray := method_9_code
def yL_measure : MethodName := ⟨RL, "measure", "(LEchoChamber;IIIIII[J)I"⟩
abbrev cL_sample : ByteArray := method_10_code
def yL_sample : MethodName := ⟨RL, "sample", "(LEchoChamber;II[J)I"⟩
abbrev cL_age : ByteArray := method_11_code
def yL_age : MethodName := ⟨RL, "age", "(LEchoChamber;I[J)I"⟩
abbrev cL_latest : ByteArray := method_12_code
def yL_latest : MethodName := ⟨RL, "latest", "(LEchoChamber;IIIIZ[J)I"⟩
abbrev cL_statesMeasured : ByteArray := method_13_code
def yL_statesMeasured : MethodName := ⟨RL, "statesMeasured", "(LEchoChamber;I[J)I"⟩
abbrev cL_makeFilter : ByteArray := method_14_code
def yL_makeFilter : MethodName := ⟨RL, "makeFilter", "(LEchoChamber;I[J)I"⟩
abbrev cL_answerOf : ByteArray := method_15_code
def yL_answerOf : MethodName := ⟨RL, "answerOf", "(LEchoChamber;I[J)I"⟩
abbrev cL_tap : ByteArray := method_16_code
def yL_tap : MethodName := ⟨RL, "tap", "(LEchoChamber;II[J)I"⟩
abbrev cL_bar : ByteArray := method_17_code
def yL_bar : MethodName := ⟨RL, "bar", "(LEchoChamber;I[J)I"⟩
abbrev cL_use : ByteArray := method_18_code
def yL_use : MethodName := ⟨RL, "use", "(LEchoChamber;II[J)I"⟩
abbrev cL_inputs : ByteArray := method_19_code
def yL_inputs : MethodName := ⟨RL, "inputs", "(LEchoChamber;I[J)I"⟩
abbrev cL_product : ByteArray := method_20_code
def yL_product : MethodName := ⟨RL, "product", "(LEchoChamber;III[J)I"⟩
abbrev cL_rightSamples : ByteArray := method_21_code
def yL_rightSamples : MethodName := ⟨RL, "rightSamples", "(LEchoChamber;II[J)I"⟩
abbrev cL_isChecked : ByteArray := method_22_code
def yL_isChecked : MethodName := ⟨RL, "isChecked", "(LEchoChamber;I[J)I"⟩
abbrev cL_setLimit : ByteArray := method_23_code
def yL_setLimit : MethodName := ⟨RL, "setLimit", "(LEchoChamber;I[J)I"⟩
abbrev cL_book : ByteArray := method_24_code
def yL_book : MethodName := ⟨RL, "book", "(LEchoChamber;IIIZII[J)I"⟩
abbrev cL_clash : ByteArray := method_25_code
def yL_clash : MethodName := ⟨RL, "clash", "(LEchoChamber;IIIZII[J)I"⟩
abbrev cL_cancel : ByteArray := method_26_code
def yL_cancel : MethodName := ⟨RL, "cancel", "(LEchoChamber;I[J)I"⟩
abbrev cL_pass : ByteArray := method_27_code
def yL_pass : MethodName := ⟨RL, "pass", "(LEchoChamber;I[J)I"⟩
abbrev cL_nextBooking : ByteArray := method_28_code
def yL_nextBooking : MethodName := ⟨RL, "nextBooking", "(LEchoChamber;I[J)I"⟩
abbrev cL_usableShare : ByteArray := method_29_code
def yL_usableShare : MethodName := ⟨RL, "usableShare", "(LEchoChamber;[D)I"⟩
abbrev cL_law : ByteArray := code
def yL_law : MethodName := ⟨RL, "law", "([I)Z"⟩
end
section
theorem dX0_init_0 : decode cX0_init 0 = .ok (.aload_n 0, 1) := by decide +kernel
theorem dX0_init_1 : decode cX0_init 1 = .ok (.invokespecial 3, 3) := by decide +kernel
theorem dX0_init_4 : decode cX0_init 4 = .ok (.aload_n 0, 1) := by decide +kernel
theorem dX0_init_5 : decode cX0_init 5 = .ok (.iload_n 1, 1) := by decide +kernel
theorem dX0_init_6 : decode cX0_init 6 = .ok (.putfield 9, 3) := by decide +kernel
theorem dX0_init_9 : decode cX0_init 9 = .ok (.aload_n 0, 1) := by decide +kernel
theorem dX0_init_10 : decode cX0_init 10 = .ok (.aload_n 2, 1) := by decide +kernel
theorem dX0_init_11 : decode cX0_init 11 = .ok (.putfield 15, 3) := by decide +kernel
theorem dX0_init_14 : decode cX0_init 14 = .ok (.aload_n 0, 1) := by decide +kernel
theorem dX0_init_15 : decode cX0_init 15 = .ok (.aload_n 2, 1) := by decide +kernel
theorem dX0_init_16 : decode cX0_init 16 = .ok (.getfield 19, 3) := by decide +kernel
theorem dX0_init_19 : decode cX0_init 19 = .ok (.putfield 25, 3) := by decide +kernel
theorem dX0_init_22 : decode cX0_init 22 = .ok (.aload_n 0, 1) := by decide +kernel
theorem dX0_init_23 : decode cX0_init 23 = .ok (.iload_n 3, 1) := by decide +kernel
theorem dX0_init_24 : decode cX0_init 24 = .ok (.putfield 26, 3) := by decide +kernel
theorem dX0_init_27 : decode cX0_init 27 = .ok (.aload_n 0, 1) := by decide +kernel
theorem dX0_init_28 : decode cX0_init 28 = .ok (.aload 4, 2) := by decide +kernel
theorem dX0_init_30 : decode cX0_init 30 = .ok (.putfield 29, 3) := by decide +kernel
theorem dX0_init_33 : decode cX0_init 33 = .ok (.aload_n 0, 1) := by decide +kernel
theorem dX0_init_34 : decode cX0_init 34 = .ok (.iload 5, 2) := by decide +kernel
theorem dX0_init_36 : decode cX0_init 36 = .ok (.putfield 33, 3) := by decide +kernel
theorem dX0_init_39 : decode cX0_init 39 = .ok (.aload_n 0, 1) := by decide +kernel
theorem dX0_init_40 : decode cX0_init 40 = .ok (.aload_n 2, 1) := by decide +kernel
theorem dX0_init_41 : decode cX0_init 41 = .ok (.getfield 36, 3) := by decide +kernel
theorem dX0_init_44 : decode cX0_init 44 = .ok (.putfield 39, 3) := by decide +kernel
theorem dX0_init_47 : decode cX0_init 47 = .ok (.return_, 1) := by decide +kernel
theorem dX0_isForState_0 : decode cX0_isForState 0 = .ok (.aload_n 0, 1) := by decide +kernel
theorem dX0_isForState_1 : decode cX0_isForState 1 = .ok (.getfield 15, 3) := by decide +kernel
theorem dX0_isForState_4 : decode cX0_isForState 4 = .ok (.aload_n 1, 1) := by decide +kernel
theorem dX0_isForState_5 : decode cX0_isForState 5 = .ok (.if_acmp .ne 18, 3) := by decide +kernel
theorem dX0_isForState_8 : decode cX0_isForState 8 = .ok (.aload_n 0, 1) := by decide +kernel
theorem dX0_isForState_9 : decode cX0_isForState 9 = .ok (.getfield 25, 3) := by decide +kernel
theorem dX0_isForState_12 : decode cX0_isForState 12 = .ok (.aload_n 2, 1) := by decide +kernel
theorem dX0_isForState_13 : decode cX0_isForState 13 = .ok (.invokevirtual 42, 3) := by decide +kernel
theorem dX0_isForState_16 : decode cX0_isForState 16 = .ok (.ifCond .ne 7, 3) := by decide +kernel
theorem dX0_isForState_19 : decode cX0_isForState 19 = .ok (.iconst 1, 1) := by decide +kernel
theorem dX0_isForState_20 : decode cX0_isForState 20 = .ok (.goto 4, 3) := by decide +kernel
theorem dX0_isForState_23 : decode cX0_isForState 23 = .ok (.iconst 0, 1) := by decide +kernel
theorem dX0_isForState_24 : decode cX0_isForState 24 = .ok (.ireturn, 1) := by decide +kernel
theorem dX0_ageAt_0 : decode cX0_ageAt 0 = .ok (.iload_n 1, 1) := by decide +kernel
theorem dX0_ageAt_1 : decode cX0_ageAt 1 = .ok (.aload_n 0, 1) := by decide +kernel
theorem dX0_ageAt_2 : decode cX0_ageAt 2 = .ok (.getfield 33, 3) := by decide +kernel
theorem dX0_ageAt_5 : decode cX0_ageAt 5 = .ok (.isub, 1) := by decide +kernel
theorem dX0_ageAt_6 : decode cX0_ageAt 6 = .ok (.iconst 2, 1) := by decide +kernel
theorem dX0_ageAt_7 : decode cX0_ageAt 7 = .ok (.aload_n 0, 1) := by decide +kernel
theorem dX0_ageAt_8 : decode cX0_ageAt 8 = .ok (.getfield 15, 3) := by decide +kernel
theorem dX0_ageAt_11 : decode cX0_ageAt 11 = .ok (.getfield 36, 3) := by decide +kernel
theorem dX0_ageAt_14 : decode cX0_ageAt 14 = .ok (.aload_n 0, 1) := by decide +kernel
theorem dX0_ageAt_15 : decode cX0_ageAt 15 = .ok (.getfield 39, 3) := by decide +kernel
theorem dX0_ageAt_18 : decode cX0_ageAt 18 = .ok (.isub, 1) := by decide +kernel
theorem dX0_ageAt_19 : decode cX0_ageAt 19 = .ok (.imul, 1) := by decide +kernel
theorem dX0_ageAt_20 : decode cX0_ageAt 20 = .ok (.iadd, 1) := by decide +kernel
theorem dX0_ageAt_21 : decode cX0_ageAt 21 = .ok (.ireturn, 1) := by decide +kernel
theorem dX1_init_0 : decode cX1_init 0 = .ok (.aload_n 0, 1) := by decide +kernel
theorem dX1_init_1 : decode cX1_init 1 = .ok (.invokespecial 1, 3) := by decide +kernel
theorem dX1_init_4 : decode cX1_init 4 = .ok (.aload_n 0, 1) := by decide +kernel
theorem dX1_init_5 : decode cX1_init 5 = .ok (.iload_n 1, 1) := by decide +kernel
theorem dX1_init_6 : decode cX1_init 6 = .ok (.putfield 7, 3) := by decide +kernel
theorem dX1_init_9 : decode cX1_init 9 = .ok (.aload_n 0, 1) := by decide +kernel
theorem dX1_init_10 : decode cX1_init 10 = .ok (.aload_n 2, 1) := by decide +kernel
theorem dX1_init_11 : decode cX1_init 11 = .ok (.putfield 13, 3) := by decide +kernel
theorem dX1_init_14 : decode cX1_init 14 = .ok (.aload_n 0, 1) := by decide +kernel
theorem dX1_init_15 : decode cX1_init 15 = .ok (.aload_n 3, 1) := by decide +kernel
theorem dX1_init_16 : decode cX1_init 16 = .ok (.putfield 17, 3) := by decide +kernel
theorem dX1_init_19 : decode cX1_init 19 = .ok (.aload_n 0, 1) := by decide +kernel
theorem dX1_init_20 : decode cX1_init 20 = .ok (.iload 4, 2) := by decide +kernel
theorem dX1_init_22 : decode cX1_init 22 = .ok (.putfield 21, 3) := by decide +kernel
theorem dX1_init_25 : decode cX1_init 25 = .ok (.aload_n 0, 1) := by decide +kernel
theorem dX1_init_26 : decode cX1_init 26 = .ok (.iload 5, 2) := by decide +kernel
theorem dX1_init_28 : decode cX1_init 28 = .ok (.putfield 24, 3) := by decide +kernel
theorem dX1_init_31 : decode cX1_init 31 = .ok (.aload_n 0, 1) := by decide +kernel
theorem dX1_init_32 : decode cX1_init 32 = .ok (.iconst 0, 1) := by decide +kernel
theorem dX1_init_33 : decode cX1_init 33 = .ok (.putfield 27, 3) := by decide +kernel
theorem dX1_init_36 : decode cX1_init 36 = .ok (.return_, 1) := by decide +kernel
theorem dX1_standsFor_0 : decode cX1_standsFor 0 = .ok (.aload_n 0, 1) := by decide +kernel
theorem dX1_standsFor_1 : decode cX1_standsFor 1 = .ok (.getfield 27, 3) := by decide +kernel
theorem dX1_standsFor_4 : decode cX1_standsFor 4 = .ok (.ifCond .ne 15, 3) := by decide +kernel
theorem dX1_standsFor_7 : decode cX1_standsFor 7 = .ok (.aload_n 0, 1) := by decide +kernel
theorem dX1_standsFor_8 : decode cX1_standsFor 8 = .ok (.getfield 13, 3) := by decide +kernel
theorem dX1_standsFor_11 : decode cX1_standsFor 11 = .ok (.aload_n 1, 1) := by decide +kernel
theorem dX1_standsFor_12 : decode cX1_standsFor 12 = .ok (.if_acmp .ne 7, 3) := by decide +kernel
theorem dX1_standsFor_15 : decode cX1_standsFor 15 = .ok (.iconst 1, 1) := by decide +kernel
theorem dX1_standsFor_16 : decode cX1_standsFor 16 = .ok (.goto 4, 3) := by decide +kernel
theorem dX1_standsFor_19 : decode cX1_standsFor 19 = .ok (.iconst 0, 1) := by decide +kernel
theorem dX1_standsFor_20 : decode cX1_standsFor 20 = .ok (.ireturn, 1) := by decide +kernel
theorem dX1_isTooNear_0 : decode cX1_isTooNear 0 = .ok (.aload_n 0, 1) := by decide +kernel
theorem dX1_isTooNear_1 : decode cX1_isTooNear 1 = .ok (.getfield 17, 3) := by decide +kernel
theorem dX1_isTooNear_4 : decode cX1_isTooNear 4 = .ok (.aload_n 1, 1) := by decide +kernel
theorem dX1_isTooNear_5 : decode cX1_isTooNear 5 = .ok (.invokevirtual 31, 3) := by decide +kernel
theorem dX1_isTooNear_8 : decode cX1_isTooNear 8 = .ok (.istore 4, 2) := by decide +kernel
theorem dX1_isTooNear_10 : decode cX1_isTooNear 10 = .ok (.aload_n 0, 1) := by decide +kernel
theorem dX1_isTooNear_11 : decode cX1_isTooNear 11 = .ok (.getfield 24, 3) := by decide +kernel
theorem dX1_isTooNear_14 : decode cX1_isTooNear 14 = .ok (.iload_n 2, 1) := by decide +kernel
theorem dX1_isTooNear_15 : decode cX1_isTooNear 15 = .ok (.invokestatic 37, 3) := by decide +kernel
theorem dX1_isTooNear_18 : decode cX1_isTooNear 18 = .ok (.iload 4, 2) := by decide +kernel
theorem dX1_isTooNear_20 : decode cX1_isTooNear 20 = .ok (.i2l, 1) := by decide +kernel
theorem dX1_isTooNear_21 : decode cX1_isTooNear 21 = .ok (.lcmp, 1) := by decide +kernel
theorem dX1_isTooNear_22 : decode cX1_isTooNear 22 = .ok (.ifCond .ge 22, 3) := by decide +kernel
theorem dX1_isTooNear_25 : decode cX1_isTooNear 25 = .ok (.iload_n 3, 1) := by decide +kernel
theorem dX1_isTooNear_26 : decode cX1_isTooNear 26 = .ok (.aload_n 0, 1) := by decide +kernel
theorem dX1_isTooNear_27 : decode cX1_isTooNear 27 = .ok (.getfield 21, 3) := by decide +kernel
theorem dX1_isTooNear_30 : decode cX1_isTooNear 30 = .ok (.invokestatic 37, 3) := by decide +kernel
theorem dX1_isTooNear_33 : decode cX1_isTooNear 33 = .ok (.iload 4, 2) := by decide +kernel
theorem dX1_isTooNear_35 : decode cX1_isTooNear 35 = .ok (.i2l, 1) := by decide +kernel
theorem dX1_isTooNear_36 : decode cX1_isTooNear 36 = .ok (.lcmp, 1) := by decide +kernel
theorem dX1_isTooNear_37 : decode cX1_isTooNear 37 = .ok (.ifCond .ge 7, 3) := by decide +kernel
theorem dX1_isTooNear_40 : decode cX1_isTooNear 40 = .ok (.iconst 1, 1) := by decide +kernel
theorem dX1_isTooNear_41 : decode cX1_isTooNear 41 = .ok (.goto 4, 3) := by decide +kernel
theorem dX1_isTooNear_44 : decode cX1_isTooNear 44 = .ok (.iconst 0, 1) := by decide +kernel
theorem dX1_isTooNear_45 : decode cX1_isTooNear 45 = .ok (.ireturn, 1) := by decide +kernel
theorem dX1_hoursBetween_0 : decode cX1_hoursBetween 0 = .ok (.iload_n 1, 1) := by decide +kernel
theorem dX1_hoursBetween_1 : decode cX1_hoursBetween 1 = .ok (.i2l, 1) := by decide +kernel
theorem dX1_hoursBetween_2 : decode cX1_hoursBetween 2 = .ok (.iload_n 0, 1) := by decide +kernel
theorem dX1_hoursBetween_3 : decode cX1_hoursBetween 3 = .ok (.i2l, 1) := by decide +kernel
theorem dX1_hoursBetween_4 : decode cX1_hoursBetween 4 = .ok (.lsub, 1) := by decide +kernel
theorem dX1_hoursBetween_5 : decode cX1_hoursBetween 5 = .ok (.lconst 1, 1) := by decide +kernel
theorem dX1_hoursBetween_6 : decode cX1_hoursBetween 6 = .ok (.lsub, 1) := by decide +kernel
theorem dX1_hoursBetween_7 : decode cX1_hoursBetween 7 = .ok (.lreturn, 1) := by decide +kernel
theorem dX2_init_0 : decode cX2_init 0 = .ok (.aload_n 0, 1) := by decide +kernel
theorem dX2_init_1 : decode cX2_init 1 = .ok (.invokespecial 3, 3) := by decide +kernel
theorem dX2_init_4 : decode cX2_init 4 = .ok (.aload_n 0, 1) := by decide +kernel
theorem dX2_init_5 : decode cX2_init 5 = .ok (.aload_n 1, 1) := by decide +kernel
theorem dX2_init_6 : decode cX2_init 6 = .ok (.putfield 9, 3) := by decide +kernel
theorem dX2_init_9 : decode cX2_init 9 = .ok (.aload_n 0, 1) := by decide +kernel
theorem dX2_init_10 : decode cX2_init 10 = .ok (.aload_n 1, 1) := by decide +kernel
theorem dX2_init_11 : decode cX2_init 11 = .ok (.getfield 15, 3) := by decide +kernel
theorem dX2_init_14 : decode cX2_init 14 = .ok (.invokestatic 21, 3) := by decide +kernel
theorem dX2_init_17 : decode cX2_init 17 = .ok (.putfield 25, 3) := by decide +kernel
theorem dX2_init_20 : decode cX2_init 20 = .ok (.aload_n 0, 1) := by decide +kernel
theorem dX2_init_21 : decode cX2_init 21 = .ok (.bipush 6, 2) := by decide +kernel
theorem dX2_init_23 : decode cX2_init 23 = .ok (.newarray .int, 2) := by decide +kernel
theorem dX2_init_25 : decode cX2_init 25 = .ok (.putfield 29, 3) := by decide +kernel
theorem dX2_init_28 : decode cX2_init 28 = .ok (.aload_n 0, 1) := by decide +kernel
theorem dX2_init_29 : decode cX2_init 29 = .ok (.iconst 0, 1) := by decide +kernel
theorem dX2_init_30 : decode cX2_init 30 = .ok (.putfield 32, 3) := by decide +kernel
theorem dX2_init_33 : decode cX2_init 33 = .ok (.return_, 1) := by decide +kernel
theorem dX2_tapsUndoing_0 : decode cX2_tapsUndoing 0 = .ok (.bipush 6, 2) := by decide +kernel
theorem dX2_tapsUndoing_2 : decode cX2_tapsUndoing 2 = .ok (.newarray .long, 2) := by decide +kernel
theorem dX2_tapsUndoing_4 : decode cX2_tapsUndoing 4 = .ok (.astore_n 1, 1) := by decide +kernel
theorem dX2_tapsUndoing_5 : decode cX2_tapsUndoing 5 = .ok (.aload_n 1, 1) := by decide +kernel
theorem dX2_tapsUndoing_6 : decode cX2_tapsUndoing 6 = .ok (.iconst 0, 1) := by decide +kernel
theorem dX2_tapsUndoing_7 : decode cX2_tapsUndoing 7 = .ok (.aload_n 0, 1) := by decide +kernel
theorem dX2_tapsUndoing_8 : decode cX2_tapsUndoing 8 = .ok (.iconst 0, 1) := by decide +kernel
theorem dX2_tapsUndoing_9 : decode cX2_tapsUndoing 9 = .ok (.iaload, 1) := by decide +kernel
theorem dX2_tapsUndoing_10 : decode cX2_tapsUndoing 10 = .ok (.i2l, 1) := by decide +kernel
theorem dX2_tapsUndoing_11 : decode cX2_tapsUndoing 11 = .ok (.lastore, 1) := by decide +kernel
theorem dX2_tapsUndoing_12 : decode cX2_tapsUndoing 12 = .ok (.iconst 1, 1) := by decide +kernel
theorem dX2_tapsUndoing_13 : decode cX2_tapsUndoing 13 = .ok (.istore_n 2, 1) := by decide +kernel
theorem dX2_tapsUndoing_14 : decode cX2_tapsUndoing 14 = .ok (.iload_n 2, 1) := by decide +kernel
theorem dX2_tapsUndoing_15 : decode cX2_tapsUndoing 15 = .ok (.bipush 6, 2) := by decide +kernel
theorem dX2_tapsUndoing_17 : decode cX2_tapsUndoing 17 = .ok (.if_icmp .ge 57, 3) := by decide +kernel
theorem dX2_tapsUndoing_20 : decode cX2_tapsUndoing 20 = .ok (.lconst 0, 1) := by decide +kernel
theorem dX2_tapsUndoing_21 : decode cX2_tapsUndoing 21 = .ok (.lstore_n 3, 1) := by decide +kernel
theorem dX2_tapsUndoing_22 : decode cX2_tapsUndoing 22 = .ok (.iconst 1, 1) := by decide +kernel
theorem dX2_tapsUndoing_23 : decode cX2_tapsUndoing 23 = .ok (.istore 5, 2) := by decide +kernel
theorem dX2_tapsUndoing_25 : decode cX2_tapsUndoing 25 = .ok (.iload 5, 2) := by decide +kernel
theorem dX2_tapsUndoing_27 : decode cX2_tapsUndoing 27 = .ok (.iconst 4, 1) := by decide +kernel
theorem dX2_tapsUndoing_28 : decode cX2_tapsUndoing 28 = .ok (.if_icmp .ge 30, 3) := by decide +kernel
theorem dX2_tapsUndoing_31 : decode cX2_tapsUndoing 31 = .ok (.iload 5, 2) := by decide +kernel
theorem dX2_tapsUndoing_33 : decode cX2_tapsUndoing 33 = .ok (.iload_n 2, 1) := by decide +kernel
theorem dX2_tapsUndoing_34 : decode cX2_tapsUndoing 34 = .ok (.if_icmp .gt 24, 3) := by decide +kernel
theorem dX2_tapsUndoing_37 : decode cX2_tapsUndoing 37 = .ok (.lload_n 3, 1) := by decide +kernel
theorem dX2_tapsUndoing_38 : decode cX2_tapsUndoing 38 = .ok (.aload_n 0, 1) := by decide +kernel
theorem dX2_tapsUndoing_39 : decode cX2_tapsUndoing 39 = .ok (.iload 5, 2) := by decide +kernel
theorem dX2_tapsUndoing_41 : decode cX2_tapsUndoing 41 = .ok (.iaload, 1) := by decide +kernel
theorem dX2_tapsUndoing_42 : decode cX2_tapsUndoing 42 = .ok (.i2l, 1) := by decide +kernel
theorem dX2_tapsUndoing_43 : decode cX2_tapsUndoing 43 = .ok (.aload_n 1, 1) := by decide +kernel
theorem dX2_tapsUndoing_44 : decode cX2_tapsUndoing 44 = .ok (.iload_n 2, 1) := by decide +kernel
theorem dX2_tapsUndoing_45 : decode cX2_tapsUndoing 45 = .ok (.iload 5, 2) := by decide +kernel
theorem dX2_tapsUndoing_47 : decode cX2_tapsUndoing 47 = .ok (.isub, 1) := by decide +kernel
theorem dX2_tapsUndoing_48 : decode cX2_tapsUndoing 48 = .ok (.laload, 1) := by decide +kernel
theorem dX2_tapsUndoing_49 : decode cX2_tapsUndoing 49 = .ok (.lmul, 1) := by decide +kernel
theorem dX2_tapsUndoing_50 : decode cX2_tapsUndoing 50 = .ok (.ladd, 1) := by decide +kernel
theorem dX2_tapsUndoing_51 : decode cX2_tapsUndoing 51 = .ok (.lstore_n 3, 1) := by decide +kernel
theorem dX2_tapsUndoing_52 : decode cX2_tapsUndoing 52 = .ok (.iinc 5 1, 3) := by decide +kernel
theorem dX2_tapsUndoing_55 : decode cX2_tapsUndoing 55 = .ok (.goto (-30), 3) := by decide +kernel
theorem dX2_tapsUndoing_58 : decode cX2_tapsUndoing 58 = .ok (.aload_n 1, 1) := by decide +kernel
theorem dX2_tapsUndoing_59 : decode cX2_tapsUndoing 59 = .ok (.iload_n 2, 1) := by decide +kernel
theorem dX2_tapsUndoing_60 : decode cX2_tapsUndoing 60 = .ok (.aload_n 0, 1) := by decide +kernel
theorem dX2_tapsUndoing_61 : decode cX2_tapsUndoing 61 = .ok (.iconst 0, 1) := by decide +kernel
theorem dX2_tapsUndoing_62 : decode cX2_tapsUndoing 62 = .ok (.iaload, 1) := by decide +kernel
theorem dX2_tapsUndoing_63 : decode cX2_tapsUndoing 63 = .ok (.ineg, 1) := by decide +kernel
theorem dX2_tapsUndoing_64 : decode cX2_tapsUndoing 64 = .ok (.i2l, 1) := by decide +kernel
theorem dX2_tapsUndoing_65 : decode cX2_tapsUndoing 65 = .ok (.lload_n 3, 1) := by decide +kernel
theorem dX2_tapsUndoing_66 : decode cX2_tapsUndoing 66 = .ok (.lmul, 1) := by decide +kernel
theorem dX2_tapsUndoing_67 : decode cX2_tapsUndoing 67 = .ok (.lastore, 1) := by decide +kernel
theorem dX2_tapsUndoing_68 : decode cX2_tapsUndoing 68 = .ok (.iinc 2 1, 3) := by decide +kernel
theorem dX2_tapsUndoing_71 : decode cX2_tapsUndoing 71 = .ok (.goto (-57), 3) := by decide +kernel
theorem dX2_tapsUndoing_74 : decode cX2_tapsUndoing 74 = .ok (.aload_n 1, 1) := by decide +kernel
theorem dX2_tapsUndoing_75 : decode cX2_tapsUndoing 75 = .ok (.areturn, 1) := by decide +kernel
theorem dX2_getInput_0 : decode cX2_getInput 0 = .ok (.iconst 5, 1) := by decide +kernel
theorem dX2_getInput_1 : decode cX2_getInput 1 = .ok (.istore_n 2, 1) := by decide +kernel
theorem dX2_getInput_2 : decode cX2_getInput 2 = .ok (.iload_n 2, 1) := by decide +kernel
theorem dX2_getInput_3 : decode cX2_getInput 3 = .ok (.ifCond .le 23, 3) := by decide +kernel
theorem dX2_getInput_6 : decode cX2_getInput 6 = .ok (.aload_n 0, 1) := by decide +kernel
theorem dX2_getInput_7 : decode cX2_getInput 7 = .ok (.getfield 29, 3) := by decide +kernel
theorem dX2_getInput_10 : decode cX2_getInput 10 = .ok (.iload_n 2, 1) := by decide +kernel
theorem dX2_getInput_11 : decode cX2_getInput 11 = .ok (.aload_n 0, 1) := by decide +kernel
theorem dX2_getInput_12 : decode cX2_getInput 12 = .ok (.getfield 29, 3) := by decide +kernel
theorem dX2_getInput_15 : decode cX2_getInput 15 = .ok (.iload_n 2, 1) := by decide +kernel
theorem dX2_getInput_16 : decode cX2_getInput 16 = .ok (.iconst 1, 1) := by decide +kernel
theorem dX2_getInput_17 : decode cX2_getInput 17 = .ok (.isub, 1) := by decide +kernel
theorem dX2_getInput_18 : decode cX2_getInput 18 = .ok (.iaload, 1) := by decide +kernel
theorem dX2_getInput_19 : decode cX2_getInput 19 = .ok (.iastore, 1) := by decide +kernel
theorem dX2_getInput_20 : decode cX2_getInput 20 = .ok (.iinc 2 (-1), 3) := by decide +kernel
theorem dX2_getInput_23 : decode cX2_getInput 23 = .ok (.goto (-21), 3) := by decide +kernel
theorem dX2_getInput_26 : decode cX2_getInput 26 = .ok (.aload_n 0, 1) := by decide +kernel
theorem dX2_getInput_27 : decode cX2_getInput 27 = .ok (.getfield 29, 3) := by decide +kernel
theorem dX2_getInput_30 : decode cX2_getInput 30 = .ok (.iconst 0, 1) := by decide +kernel
theorem dX2_getInput_31 : decode cX2_getInput 31 = .ok (.iload_n 1, 1) := by decide +kernel
theorem dX2_getInput_32 : decode cX2_getInput 32 = .ok (.iastore, 1) := by decide +kernel
theorem dX2_getInput_33 : decode cX2_getInput 33 = .ok (.aload_n 0, 1) := by decide +kernel
theorem dX2_getInput_34 : decode cX2_getInput 34 = .ok (.dup, 1) := by decide +kernel
theorem dX2_getInput_35 : decode cX2_getInput 35 = .ok (.getfield 32, 3) := by decide +kernel
theorem dX2_getInput_38 : decode cX2_getInput 38 = .ok (.iconst 1, 1) := by decide +kernel
theorem dX2_getInput_39 : decode cX2_getInput 39 = .ok (.iadd, 1) := by decide +kernel
theorem dX2_getInput_40 : decode cX2_getInput 40 = .ok (.putfield 32, 3) := by decide +kernel
theorem dX2_getInput_43 : decode cX2_getInput 43 = .ok (.return_, 1) := by decide +kernel
theorem dX2_given_0 : decode cX2_given 0 = .ok (.lconst 0, 1) := by decide +kernel
theorem dX2_given_1 : decode cX2_given 1 = .ok (.lstore_n 1, 1) := by decide +kernel
theorem dX2_given_2 : decode cX2_given 2 = .ok (.iconst 0, 1) := by decide +kernel
theorem dX2_given_3 : decode cX2_given 3 = .ok (.istore_n 3, 1) := by decide +kernel
theorem dX2_given_4 : decode cX2_given 4 = .ok (.iload_n 3, 1) := by decide +kernel
theorem dX2_given_5 : decode cX2_given 5 = .ok (.bipush 6, 2) := by decide +kernel
theorem dX2_given_7 : decode cX2_given 7 = .ok (.if_icmp .ge 26, 3) := by decide +kernel
theorem dX2_given_10 : decode cX2_given 10 = .ok (.lload_n 1, 1) := by decide +kernel
theorem dX2_given_11 : decode cX2_given 11 = .ok (.aload_n 0, 1) := by decide +kernel
theorem dX2_given_12 : decode cX2_given 12 = .ok (.getfield 25, 3) := by decide +kernel
theorem dX2_given_15 : decode cX2_given 15 = .ok (.iload_n 3, 1) := by decide +kernel
theorem dX2_given_16 : decode cX2_given 16 = .ok (.laload, 1) := by decide +kernel
theorem dX2_given_17 : decode cX2_given 17 = .ok (.aload_n 0, 1) := by decide +kernel
theorem dX2_given_18 : decode cX2_given 18 = .ok (.getfield 29, 3) := by decide +kernel
theorem dX2_given_21 : decode cX2_given 21 = .ok (.iload_n 3, 1) := by decide +kernel
theorem dX2_given_22 : decode cX2_given 22 = .ok (.iaload, 1) := by decide +kernel
theorem dX2_given_23 : decode cX2_given 23 = .ok (.i2l, 1) := by decide +kernel
theorem dX2_given_24 : decode cX2_given 24 = .ok (.lmul, 1) := by decide +kernel
theorem dX2_given_25 : decode cX2_given 25 = .ok (.ladd, 1) := by decide +kernel
theorem dX2_given_26 : decode cX2_given 26 = .ok (.lstore_n 1, 1) := by decide +kernel
theorem dX2_given_27 : decode cX2_given 27 = .ok (.iinc 3 1, 3) := by decide +kernel
theorem dX2_given_30 : decode cX2_given 30 = .ok (.goto (-26), 3) := by decide +kernel
theorem dX2_given_33 : decode cX2_given 33 = .ok (.lload_n 1, 1) := by decide +kernel
theorem dX2_given_34 : decode cX2_given 34 = .ok (.lreturn, 1) := by decide +kernel
theorem dX2_rowSample_0 : decode cX2_rowSample 0 = .ok (.lconst 0, 1) := by decide +kernel
theorem dX2_rowSample_1 : decode cX2_rowSample 1 = .ok (.lstore_n 3, 1) := by decide +kernel
theorem dX2_rowSample_2 : decode cX2_rowSample 2 = .ok (.iconst 0, 1) := by decide +kernel
theorem dX2_rowSample_3 : decode cX2_rowSample 3 = .ok (.istore 5, 2) := by decide +kernel
theorem dX2_rowSample_5 : decode cX2_rowSample 5 = .ok (.iload 5, 2) := by decide +kernel
theorem dX2_rowSample_7 : decode cX2_rowSample 7 = .ok (.iconst 4, 1) := by decide +kernel
theorem dX2_rowSample_8 : decode cX2_rowSample 8 = .ok (.if_icmp .ge 36, 3) := by decide +kernel
theorem dX2_rowSample_11 : decode cX2_rowSample 11 = .ok (.iload 5, 2) := by decide +kernel
theorem dX2_rowSample_13 : decode cX2_rowSample 13 = .ok (.iload_n 2, 1) := by decide +kernel
theorem dX2_rowSample_14 : decode cX2_rowSample 14 = .ok (.if_icmp .gt 30, 3) := by decide +kernel
theorem dX2_rowSample_17 : decode cX2_rowSample 17 = .ok (.lload_n 3, 1) := by decide +kernel
theorem dX2_rowSample_18 : decode cX2_rowSample 18 = .ok (.aload_n 1, 1) := by decide +kernel
theorem dX2_rowSample_19 : decode cX2_rowSample 19 = .ok (.getfield 15, 3) := by decide +kernel
theorem dX2_rowSample_22 : decode cX2_rowSample 22 = .ok (.iload 5, 2) := by decide +kernel
theorem dX2_rowSample_24 : decode cX2_rowSample 24 = .ok (.iaload, 1) := by decide +kernel
theorem dX2_rowSample_25 : decode cX2_rowSample 25 = .ok (.i2l, 1) := by decide +kernel
theorem dX2_rowSample_26 : decode cX2_rowSample 26 = .ok (.aload_n 0, 1) := by decide +kernel
theorem dX2_rowSample_27 : decode cX2_rowSample 27 = .ok (.getfield 25, 3) := by decide +kernel
theorem dX2_rowSample_30 : decode cX2_rowSample 30 = .ok (.iload_n 2, 1) := by decide +kernel
theorem dX2_rowSample_31 : decode cX2_rowSample 31 = .ok (.iload 5, 2) := by decide +kernel
theorem dX2_rowSample_33 : decode cX2_rowSample 33 = .ok (.isub, 1) := by decide +kernel
theorem dX2_rowSample_34 : decode cX2_rowSample 34 = .ok (.laload, 1) := by decide +kernel
theorem dX2_rowSample_35 : decode cX2_rowSample 35 = .ok (.lmul, 1) := by decide +kernel
theorem dX2_rowSample_36 : decode cX2_rowSample 36 = .ok (.ladd, 1) := by decide +kernel
theorem dX2_rowSample_37 : decode cX2_rowSample 37 = .ok (.lstore_n 3, 1) := by decide +kernel
theorem dX2_rowSample_38 : decode cX2_rowSample 38 = .ok (.iinc 5 1, 3) := by decide +kernel
theorem dX2_rowSample_41 : decode cX2_rowSample 41 = .ok (.goto (-36), 3) := by decide +kernel
theorem dX2_rowSample_44 : decode cX2_rowSample 44 = .ok (.lload_n 3, 1) := by decide +kernel
theorem dX2_rowSample_45 : decode cX2_rowSample 45 = .ok (.lreturn, 1) := by decide +kernel
theorem dX2_rightSamplesWith_0 : decode cX2_rightSamplesWith 0 = .ok (.iconst 0, 1) := by decide +kernel
theorem dX2_rightSamplesWith_1 : decode cX2_rightSamplesWith 1 = .ok (.istore_n 2, 1) := by decide +kernel
theorem dX2_rightSamplesWith_2 : decode cX2_rightSamplesWith 2 = .ok (.iload_n 2, 1) := by decide +kernel
theorem dX2_rightSamplesWith_3 : decode cX2_rightSamplesWith 3 = .ok (.bipush 6, 2) := by decide +kernel
theorem dX2_rightSamplesWith_5 : decode cX2_rightSamplesWith 5 = .ok (.if_icmp .ge 29, 3) := by decide +kernel
theorem dX2_rightSamplesWith_8 : decode cX2_rightSamplesWith 8 = .ok (.aload_n 0, 1) := by decide +kernel
theorem dX2_rightSamplesWith_9 : decode cX2_rightSamplesWith 9 = .ok (.aload_n 1, 1) := by decide +kernel
theorem dX2_rightSamplesWith_10 : decode cX2_rightSamplesWith 10 = .ok (.iload_n 2, 1) := by decide +kernel
theorem dX2_rightSamplesWith_11 : decode cX2_rightSamplesWith 11 = .ok (.invokevirtual 36, 3) := by decide +kernel
theorem dX2_rightSamplesWith_14 : decode cX2_rightSamplesWith 14 = .ok (.iload_n 2, 1) := by decide +kernel
theorem dX2_rightSamplesWith_15 : decode cX2_rightSamplesWith 15 = .ok (.ifCond .ne 7, 3) := by decide +kernel
theorem dX2_rightSamplesWith_18 : decode cX2_rightSamplesWith 18 = .ok (.iconst 1, 1) := by decide +kernel
theorem dX2_rightSamplesWith_19 : decode cX2_rightSamplesWith 19 = .ok (.goto 4, 3) := by decide +kernel
theorem dX2_rightSamplesWith_22 : decode cX2_rightSamplesWith 22 = .ok (.iconst 0, 1) := by decide +kernel
theorem dX2_rightSamplesWith_23 : decode cX2_rightSamplesWith 23 = .ok (.i2l, 1) := by decide +kernel
theorem dX2_rightSamplesWith_24 : decode cX2_rightSamplesWith 24 = .ok (.lcmp, 1) := by decide +kernel
theorem dX2_rightSamplesWith_25 : decode cX2_rightSamplesWith 25 = .ok (.ifCond .ne 9, 3) := by decide +kernel
theorem dX2_rightSamplesWith_28 : decode cX2_rightSamplesWith 28 = .ok (.iinc 2 1, 3) := by decide +kernel
theorem dX2_rightSamplesWith_31 : decode cX2_rightSamplesWith 31 = .ok (.goto (-29), 3) := by decide +kernel
theorem dX2_rightSamplesWith_34 : decode cX2_rightSamplesWith 34 = .ok (.iload_n 2, 1) := by decide +kernel
theorem dX2_rightSamplesWith_35 : decode cX2_rightSamplesWith 35 = .ok (.ireturn, 1) := by decide +kernel
theorem dX3_init_0 : decode cX3_init 0 = .ok (.aload_n 0, 1) := by decide +kernel
theorem dX3_init_1 : decode cX3_init 1 = .ok (.invokespecial 1, 3) := by decide +kernel
theorem dX3_init_4 : decode cX3_init 4 = .ok (.aload_n 0, 1) := by decide +kernel
theorem dX3_init_5 : decode cX3_init 5 = .ok (.aload_n 1, 1) := by decide +kernel
theorem dX3_init_6 : decode cX3_init 6 = .ok (.putfield 7, 3) := by decide +kernel
theorem dX3_init_9 : decode cX3_init 9 = .ok (.aload_n 0, 1) := by decide +kernel
theorem dX3_init_10 : decode cX3_init 10 = .ok (.iconst 0, 1) := by decide +kernel
theorem dX3_init_11 : decode cX3_init 11 = .ok (.putfield 13, 3) := by decide +kernel
theorem dX3_init_14 : decode cX3_init 14 = .ok (.return_, 1) := by decide +kernel
theorem dX3_take_0 : decode cX3_take 0 = .ok (.aload_n 0, 1) := by decide +kernel
theorem dX3_take_1 : decode cX3_take 1 = .ok (.getfield 7, 3) := by decide +kernel
theorem dX3_take_4 : decode cX3_take 4 = .ok (.aload_n 1, 1) := by decide +kernel
theorem dX3_take_5 : decode cX3_take 5 = .ok (.invokevirtual 17, 3) := by decide +kernel
theorem dX3_take_8 : decode cX3_take 8 = .ok (.istore_n 2, 1) := by decide +kernel
theorem dX3_take_9 : decode cX3_take 9 = .ok (.aload_n 0, 1) := by decide +kernel
theorem dX3_take_10 : decode cX3_take 10 = .ok (.aload_n 1, 1) := by decide +kernel
theorem dX3_take_11 : decode cX3_take 11 = .ok (.putfield 7, 3) := by decide +kernel
theorem dX3_take_14 : decode cX3_take 14 = .ok (.aload_n 0, 1) := by decide +kernel
theorem dX3_take_15 : decode cX3_take 15 = .ok (.dup, 1) := by decide +kernel
theorem dX3_take_16 : decode cX3_take 16 = .ok (.getfield 13, 3) := by decide +kernel
theorem dX3_take_19 : decode cX3_take 19 = .ok (.iload_n 2, 1) := by decide +kernel
theorem dX3_take_20 : decode cX3_take 20 = .ok (.iadd, 1) := by decide +kernel
theorem dX3_take_21 : decode cX3_take 21 = .ok (.putfield 13, 3) := by decide +kernel
theorem dX3_take_24 : decode cX3_take 24 = .ok (.iload_n 2, 1) := by decide +kernel
theorem dX3_take_25 : decode cX3_take 25 = .ok (.ireturn, 1) := by decide +kernel
theorem dX4_init_0 : decode cX4_init 0 = .ok (.aload_n 0, 1) := by decide +kernel
theorem dX4_init_1 : decode cX4_init 1 = .ok (.invokespecial 1, 3) := by decide +kernel
theorem dX4_init_4 : decode cX4_init 4 = .ok (.aload_n 0, 1) := by decide +kernel
theorem dX4_init_5 : decode cX4_init 5 = .ok (.iload_n 1, 1) := by decide +kernel
theorem dX4_init_6 : decode cX4_init 6 = .ok (.putfield 7, 3) := by decide +kernel
theorem dX4_init_9 : decode cX4_init 9 = .ok (.aload_n 0, 1) := by decide +kernel
theorem dX4_init_10 : decode cX4_init 10 = .ok (.iload_n 2, 1) := by decide +kernel
theorem dX4_init_11 : decode cX4_init 11 = .ok (.putfield 13, 3) := by decide +kernel
theorem dX4_init_14 : decode cX4_init 14 = .ok (.aload_n 0, 1) := by decide +kernel
theorem dX4_init_15 : decode cX4_init 15 = .ok (.iload_n 3, 1) := by decide +kernel
theorem dX4_init_16 : decode cX4_init 16 = .ok (.putfield 16, 3) := by decide +kernel
theorem dX4_init_19 : decode cX4_init 19 = .ok (.return_, 1) := by decide +kernel
theorem dX4_partsUnlike_0 : decode cX4_partsUnlike 0 = .ok (.iconst 0, 1) := by decide +kernel
theorem dX4_partsUnlike_1 : decode cX4_partsUnlike 1 = .ok (.istore_n 2, 1) := by decide +kernel
theorem dX4_partsUnlike_2 : decode cX4_partsUnlike 2 = .ok (.aload_n 0, 1) := by decide +kernel
theorem dX4_partsUnlike_3 : decode cX4_partsUnlike 3 = .ok (.getfield 7, 3) := by decide +kernel
theorem dX4_partsUnlike_6 : decode cX4_partsUnlike 6 = .ok (.aload_n 1, 1) := by decide +kernel
theorem dX4_partsUnlike_7 : decode cX4_partsUnlike 7 = .ok (.getfield 7, 3) := by decide +kernel
theorem dX4_partsUnlike_10 : decode cX4_partsUnlike 10 = .ok (.if_icmp .eq 6, 3) := by decide +kernel
theorem dX4_partsUnlike_13 : decode cX4_partsUnlike 13 = .ok (.iinc 2 1, 3) := by decide +kernel
theorem dX4_partsUnlike_16 : decode cX4_partsUnlike 16 = .ok (.aload_n 0, 1) := by decide +kernel
theorem dX4_partsUnlike_17 : decode cX4_partsUnlike 17 = .ok (.getfield 13, 3) := by decide +kernel
theorem dX4_partsUnlike_20 : decode cX4_partsUnlike 20 = .ok (.aload_n 1, 1) := by decide +kernel
theorem dX4_partsUnlike_21 : decode cX4_partsUnlike 21 = .ok (.getfield 13, 3) := by decide +kernel
theorem dX4_partsUnlike_24 : decode cX4_partsUnlike 24 = .ok (.if_icmp .eq 6, 3) := by decide +kernel
theorem dX4_partsUnlike_27 : decode cX4_partsUnlike 27 = .ok (.iinc 2 1, 3) := by decide +kernel
theorem dX4_partsUnlike_30 : decode cX4_partsUnlike 30 = .ok (.aload_n 0, 1) := by decide +kernel
theorem dX4_partsUnlike_31 : decode cX4_partsUnlike 31 = .ok (.getfield 16, 3) := by decide +kernel
theorem dX4_partsUnlike_34 : decode cX4_partsUnlike 34 = .ok (.aload_n 1, 1) := by decide +kernel
theorem dX4_partsUnlike_35 : decode cX4_partsUnlike 35 = .ok (.getfield 16, 3) := by decide +kernel
theorem dX4_partsUnlike_38 : decode cX4_partsUnlike 38 = .ok (.if_icmp .eq 6, 3) := by decide +kernel
theorem dX4_partsUnlike_41 : decode cX4_partsUnlike 41 = .ok (.iinc 2 1, 3) := by decide +kernel
theorem dX4_partsUnlike_44 : decode cX4_partsUnlike 44 = .ok (.iload_n 2, 1) := by decide +kernel
theorem dX4_partsUnlike_45 : decode cX4_partsUnlike 45 = .ok (.ireturn, 1) := by decide +kernel
theorem dX5_init_0 : decode cX5_init 0 = .ok (.aload_n 0, 1) := by decide +kernel
theorem dX5_init_1 : decode cX5_init 1 = .ok (.invokespecial 1, 3) := by decide +kernel
theorem dX5_init_4 : decode cX5_init 4 = .ok (.aload_n 0, 1) := by decide +kernel
theorem dX5_init_5 : decode cX5_init 5 = .ok (.new 7, 3) := by decide +kernel
theorem dX5_init_8 : decode cX5_init 8 = .ok (.dup, 1) := by decide +kernel
theorem dX5_init_9 : decode cX5_init 9 = .ok (.invokespecial 9, 3) := by decide +kernel
theorem dX5_init_12 : decode cX5_init 12 = .ok (.putfield 10, 3) := by decide +kernel
theorem dX5_init_15 : decode cX5_init 15 = .ok (.aload_n 0, 1) := by decide +kernel
theorem dX5_init_16 : decode cX5_init 16 = .ok (.new 7, 3) := by decide +kernel
theorem dX5_init_19 : decode cX5_init 19 = .ok (.dup, 1) := by decide +kernel
theorem dX5_init_20 : decode cX5_init 20 = .ok (.invokespecial 9, 3) := by decide +kernel
theorem dX5_init_23 : decode cX5_init 23 = .ok (.putfield 16, 3) := by decide +kernel
theorem dX5_init_26 : decode cX5_init 26 = .ok (.aload_n 0, 1) := by decide +kernel
theorem dX5_init_27 : decode cX5_init 27 = .ok (.new 7, 3) := by decide +kernel
theorem dX5_init_30 : decode cX5_init 30 = .ok (.dup, 1) := by decide +kernel
theorem dX5_init_31 : decode cX5_init 31 = .ok (.invokespecial 9, 3) := by decide +kernel
theorem dX5_init_34 : decode cX5_init 34 = .ok (.putfield 19, 3) := by decide +kernel
theorem dX5_init_37 : decode cX5_init 37 = .ok (.aload_n 0, 1) := by decide +kernel
theorem dX5_init_38 : decode cX5_init 38 = .ok (.new 7, 3) := by decide +kernel
theorem dX5_init_41 : decode cX5_init 41 = .ok (.dup, 1) := by decide +kernel
theorem dX5_init_42 : decode cX5_init 42 = .ok (.invokespecial 9, 3) := by decide +kernel
theorem dX5_init_45 : decode cX5_init 45 = .ok (.putfield 22, 3) := by decide +kernel
theorem dX5_init_48 : decode cX5_init 48 = .ok (.aload_n 0, 1) := by decide +kernel
theorem dX5_init_49 : decode cX5_init 49 = .ok (.iconst 0, 1) := by decide +kernel
theorem dX5_init_50 : decode cX5_init 50 = .ok (.putfield 25, 3) := by decide +kernel
theorem dX5_init_53 : decode cX5_init 53 = .ok (.aload_n 0, 1) := by decide +kernel
theorem dX5_init_54 : decode cX5_init 54 = .ok (.bipush 24, 2) := by decide +kernel
theorem dX5_init_56 : decode cX5_init 56 = .ok (.putfield 29, 3) := by decide +kernel
theorem dX5_init_59 : decode cX5_init 59 = .ok (.return_, 1) := by decide +kernel
theorem dX5_addRoom_0 : decode cX5_addRoom 0 = .ok (.aload_n 0, 1) := by decide +kernel
theorem dX5_addRoom_1 : decode cX5_addRoom 1 = .ok (.getfield 10, 3) := by decide +kernel
theorem dX5_addRoom_4 : decode cX5_addRoom 4 = .ok (.invokevirtual 32, 3) := by decide +kernel
theorem dX5_addRoom_7 : decode cX5_addRoom 7 = .ok (.istore_n 1, 1) := by decide +kernel
theorem dX5_addRoom_8 : decode cX5_addRoom 8 = .ok (.iload_n 1, 1) := by decide +kernel
theorem dX5_addRoom_9 : decode cX5_addRoom 9 = .ok (.iconst 4, 1) := by decide +kernel
theorem dX5_addRoom_10 : decode cX5_addRoom 10 = .ok (.if_icmp .lt 13, 3) := by decide +kernel
theorem dX5_addRoom_13 : decode cX5_addRoom 13 = .ok (.new 36, 3) := by decide +kernel
theorem dX5_addRoom_16 : decode cX5_addRoom 16 = .ok (.dup, 1) := by decide +kernel
theorem dX5_addRoom_17 : decode cX5_addRoom 17 = .ok (.ldc 38, 2) := by decide +kernel
theorem dX5_addRoom_19 : decode cX5_addRoom 19 = .ok (.invokespecial 40, 3) := by decide +kernel
theorem dX5_addRoom_22 : decode cX5_addRoom 22 = .ok (.athrow, 1) := by decide +kernel
theorem dX5_addRoom_23 : decode cX5_addRoom 23 = .ok (.aload_n 0, 1) := by decide +kernel
theorem dX5_addRoom_24 : decode cX5_addRoom 24 = .ok (.getfield 10, 3) := by decide +kernel
theorem dX5_addRoom_27 : decode cX5_addRoom 27 = .ok (.new 43, 3) := by decide +kernel
theorem dX5_addRoom_30 : decode cX5_addRoom 30 = .ok (.dup, 1) := by decide +kernel
theorem dX5_addRoom_31 : decode cX5_addRoom 31 = .ok (.new 45, 3) := by decide +kernel
theorem dX5_addRoom_34 : decode cX5_addRoom 34 = .ok (.dup, 1) := by decide +kernel
theorem dX5_addRoom_35 : decode cX5_addRoom 35 = .ok (.iconst 0, 1) := by decide +kernel
theorem dX5_addRoom_36 : decode cX5_addRoom 36 = .ok (.iconst 0, 1) := by decide +kernel
theorem dX5_addRoom_37 : decode cX5_addRoom 37 = .ok (.iconst 0, 1) := by decide +kernel
theorem dX5_addRoom_38 : decode cX5_addRoom 38 = .ok (.invokespecial 47, 3) := by decide +kernel
theorem dX5_addRoom_41 : decode cX5_addRoom 41 = .ok (.invokespecial 50, 3) := by decide +kernel
theorem dX5_addRoom_44 : decode cX5_addRoom 44 = .ok (.invokevirtual 53, 3) := by decide +kernel
theorem dX5_addRoom_47 : decode cX5_addRoom 47 = .ok (.pop, 1) := by decide +kernel
theorem dX5_addRoom_48 : decode cX5_addRoom 48 = .ok (.iload_n 1, 1) := by decide +kernel
theorem dX5_addRoom_49 : decode cX5_addRoom 49 = .ok (.ireturn, 1) := by decide +kernel
theorem dX5_setState_0 : decode cX5_setState 0 = .ok (.aload_n 0, 1) := by decide +kernel
theorem dX5_setState_1 : decode cX5_setState 1 = .ok (.iload_n 1, 1) := by decide +kernel
theorem dX5_setState_2 : decode cX5_setState 2 = .ok (.invokevirtual 57, 3) := by decide +kernel
theorem dX5_setState_5 : decode cX5_setState 5 = .ok (.astore 5, 2) := by decide +kernel
theorem dX5_setState_7 : decode cX5_setState 7 = .ok (.aload 5, 2) := by decide +kernel
theorem dX5_setState_9 : decode cX5_setState 9 = .ok (.iload_n 2, 1) := by decide +kernel
theorem dX5_setState_10 : decode cX5_setState 10 = .ok (.iload_n 3, 1) := by decide +kernel
theorem dX5_setState_11 : decode cX5_setState 11 = .ok (.iload 4, 2) := by decide +kernel
theorem dX5_setState_13 : decode cX5_setState 13 = .ok (.invokestatic 61, 3) := by decide +kernel
theorem dX5_setState_16 : decode cX5_setState 16 = .ok (.invokevirtual 65, 3) := by decide +kernel
theorem dX5_setState_19 : decode cX5_setState 19 = .ok (.ireturn, 1) := by decide +kernel
theorem dX5_curtains_0 : decode cX5_curtains 0 = .ok (.aload_n 0, 1) := by decide +kernel
theorem dX5_curtains_1 : decode cX5_curtains 1 = .ok (.iload_n 1, 1) := by decide +kernel
theorem dX5_curtains_2 : decode cX5_curtains 2 = .ok (.invokevirtual 57, 3) := by decide +kernel
theorem dX5_curtains_5 : decode cX5_curtains 5 = .ok (.getfield 69, 3) := by decide +kernel
theorem dX5_curtains_8 : decode cX5_curtains 8 = .ok (.getfield 73, 3) := by decide +kernel
theorem dX5_curtains_11 : decode cX5_curtains 11 = .ok (.ireturn, 1) := by decide +kernel
theorem dX5_seats_0 : decode cX5_seats 0 = .ok (.aload_n 0, 1) := by decide +kernel
theorem dX5_seats_1 : decode cX5_seats 1 = .ok (.iload_n 1, 1) := by decide +kernel
theorem dX5_seats_2 : decode cX5_seats 2 = .ok (.invokevirtual 57, 3) := by decide +kernel
theorem dX5_seats_5 : decode cX5_seats 5 = .ok (.getfield 69, 3) := by decide +kernel
theorem dX5_seats_8 : decode cX5_seats 8 = .ok (.getfield 76, 3) := by decide +kernel
theorem dX5_seats_11 : decode cX5_seats 11 = .ok (.ireturn, 1) := by decide +kernel
theorem dX5_areOpen_0 : decode cX5_areOpen 0 = .ok (.aload_n 0, 1) := by decide +kernel
theorem dX5_areOpen_1 : decode cX5_areOpen 1 = .ok (.iload_n 1, 1) := by decide +kernel
theorem dX5_areOpen_2 : decode cX5_areOpen 2 = .ok (.invokevirtual 57, 3) := by decide +kernel
theorem dX5_areOpen_5 : decode cX5_areOpen 5 = .ok (.getfield 69, 3) := by decide +kernel
theorem dX5_areOpen_8 : decode cX5_areOpen 8 = .ok (.getfield 79, 3) := by decide +kernel
theorem dX5_areOpen_11 : decode cX5_areOpen 11 = .ok (.ireturn, 1) := by decide +kernel
theorem dX5_changes_0 : decode cX5_changes 0 = .ok (.aload_n 0, 1) := by decide +kernel
theorem dX5_changes_1 : decode cX5_changes 1 = .ok (.iload_n 1, 1) := by decide +kernel
theorem dX5_changes_2 : decode cX5_changes 2 = .ok (.invokevirtual 57, 3) := by decide +kernel
theorem dX5_changes_5 : decode cX5_changes 5 = .ok (.getfield 83, 3) := by decide +kernel
theorem dX5_changes_8 : decode cX5_changes 8 = .ok (.ireturn, 1) := by decide +kernel
theorem dX5_measure_0 : decode cX5_measure 0 = .ok (.aload_n 0, 1) := by decide +kernel
theorem dX5_measure_1 : decode cX5_measure 1 = .ok (.iload_n 1, 1) := by decide +kernel
theorem dX5_measure_2 : decode cX5_measure 2 = .ok (.invokevirtual 57, 3) := by decide +kernel
theorem dX5_measure_5 : decode cX5_measure 5 = .ok (.astore 7, 2) := by decide +kernel
theorem dX5_measure_7 : decode cX5_measure 7 = .ok (.iload_n 2, 1) := by decide +kernel
theorem dX5_measure_8 : decode cX5_measure 8 = .ok (.invokestatic 86, 3) := by decide +kernel
theorem dX5_measure_11 : decode cX5_measure 11 = .ok (.iload_n 3, 1) := by decide +kernel
theorem dX5_measure_12 : decode cX5_measure 12 = .ok (.iconst 1, 1) := by decide +kernel
theorem dX5_measure_13 : decode cX5_measure 13 = .ok (.if_icmp .eq 18, 3) := by decide +kernel
theorem dX5_measure_16 : decode cX5_measure 16 = .ok (.iload_n 3, 1) := by decide +kernel
theorem dX5_measure_17 : decode cX5_measure 17 = .ok (.iconst (-1), 1) := by decide +kernel
theorem dX5_measure_18 : decode cX5_measure 18 = .ok (.if_icmp .eq 13, 3) := by decide +kernel
theorem dX5_measure_21 : decode cX5_measure 21 = .ok (.new 90, 3) := by decide +kernel
theorem dX5_measure_24 : decode cX5_measure 24 = .ok (.dup, 1) := by decide +kernel
theorem dX5_measure_25 : decode cX5_measure 25 = .ok (.ldc 92, 2) := by decide +kernel
theorem dX5_measure_27 : decode cX5_measure 27 = .ok (.invokespecial 94, 3) := by decide +kernel
theorem dX5_measure_30 : decode cX5_measure 30 = .ok (.athrow, 1) := by decide +kernel
theorem dX5_measure_31 : decode cX5_measure 31 = .ok (.iload 4, 2) := by decide +kernel
theorem dX5_measure_33 : decode cX5_measure 33 = .ok (.invokestatic 95, 3) := by decide +kernel
theorem dX5_measure_36 : decode cX5_measure 36 = .ok (.iload 5, 2) := by decide +kernel
theorem dX5_measure_38 : decode cX5_measure 38 = .ok (.invokestatic 95, 3) := by decide +kernel
theorem dX5_measure_41 : decode cX5_measure 41 = .ok (.iload 6, 2) := by decide +kernel
theorem dX5_measure_43 : decode cX5_measure 43 = .ok (.invokestatic 95, 3) := by decide +kernel
theorem dX5_measure_46 : decode cX5_measure 46 = .ok (.aload_n 0, 1) := by decide +kernel
theorem dX5_measure_47 : decode cX5_measure 47 = .ok (.getfield 16, 3) := by decide +kernel
theorem dX5_measure_50 : decode cX5_measure 50 = .ok (.invokevirtual 32, 3) := by decide +kernel
theorem dX5_measure_53 : decode cX5_measure 53 = .ok (.istore 8, 2) := by decide +kernel
theorem dX5_measure_55 : decode cX5_measure 55 = .ok (.iload 8, 2) := by decide +kernel
theorem dX5_measure_57 : decode cX5_measure 57 = .ok (.bipush 40, 2) := by decide +kernel
theorem dX5_measure_59 : decode cX5_measure 59 = .ok (.if_icmp .lt 13, 3) := by decide +kernel
theorem dX5_measure_62 : decode cX5_measure 62 = .ok (.new 36, 3) := by decide +kernel
theorem dX5_measure_65 : decode cX5_measure 65 = .ok (.dup, 1) := by decide +kernel
theorem dX5_measure_66 : decode cX5_measure 66 = .ok (.ldc 98, 2) := by decide +kernel
theorem dX5_measure_68 : decode cX5_measure 68 = .ok (.invokespecial 40, 3) := by decide +kernel
theorem dX5_measure_71 : decode cX5_measure 71 = .ok (.athrow, 1) := by decide +kernel
theorem dX5_measure_72 : decode cX5_measure 72 = .ok (.iconst 4, 1) := by decide +kernel
theorem dX5_measure_73 : decode cX5_measure 73 = .ok (.newarray .int, 2) := by decide +kernel
theorem dX5_measure_75 : decode cX5_measure 75 = .ok (.dup, 1) := by decide +kernel
theorem dX5_measure_76 : decode cX5_measure 76 = .ok (.iconst 0, 1) := by decide +kernel
theorem dX5_measure_77 : decode cX5_measure 77 = .ok (.iload_n 3, 1) := by decide +kernel
theorem dX5_measure_78 : decode cX5_measure 78 = .ok (.iastore, 1) := by decide +kernel
theorem dX5_measure_79 : decode cX5_measure 79 = .ok (.dup, 1) := by decide +kernel
theorem dX5_measure_80 : decode cX5_measure 80 = .ok (.iconst 1, 1) := by decide +kernel
theorem dX5_measure_81 : decode cX5_measure 81 = .ok (.iload 4, 2) := by decide +kernel
theorem dX5_measure_83 : decode cX5_measure 83 = .ok (.iastore, 1) := by decide +kernel
theorem dX5_measure_84 : decode cX5_measure 84 = .ok (.dup, 1) := by decide +kernel
theorem dX5_measure_85 : decode cX5_measure 85 = .ok (.iconst 2, 1) := by decide +kernel
theorem dX5_measure_86 : decode cX5_measure 86 = .ok (.iload 5, 2) := by decide +kernel
theorem dX5_measure_88 : decode cX5_measure 88 = .ok (.iastore, 1) := by decide +kernel
theorem dX5_measure_89 : decode cX5_measure 89 = .ok (.dup, 1) := by decide +kernel
theorem dX5_measure_90 : decode cX5_measure 90 = .ok (.iconst 3, 1) := by decide +kernel
theorem dX5_measure_91 : decode cX5_measure 91 = .ok (.iload 6, 2) := by decide +kernel
theorem dX5_measure_93 : decode cX5_measure 93 = .ok (.iastore, 1) := by decide +kernel
theorem dX5_measure_94 : decode cX5_measure 94 = .ok (.astore 9, 2) := by decide +kernel
theorem dX5_measure_96 : decode cX5_measure 96 = .ok (.aload_n 0, 1) := by decide +kernel
theorem dX5_measure_97 : decode cX5_measure 97 = .ok (.getfield 16, 3) := by decide +kernel
theorem dX5_measure_100 : decode cX5_measure 100 = .ok (.new 100, 3) := by decide +kernel
theorem dX5_measure_103 : decode cX5_measure 103 = .ok (.dup, 1) := by decide +kernel
theorem dX5_measure_104 : decode cX5_measure 104 = .ok (.iload 8, 2) := by decide +kernel
theorem dX5_measure_106 : decode cX5_measure 106 = .ok (.aload 7, 2) := by decide +kernel
theorem dX5_measure_108 : decode cX5_measure 108 = .ok (.iload_n 2, 1) := by decide +kernel
theorem dX5_measure_109 : decode cX5_measure 109 = .ok (.aload 9, 2) := by decide +kernel
theorem dX5_measure_111 : decode cX5_measure 111 = .ok (.aload_n 0, 1) := by decide +kernel
theorem dX5_measure_112 : decode cX5_measure 112 = .ok (.getfield 25, 3) := by decide +kernel
theorem dX5_measure_115 : decode cX5_measure 115 = .ok (.invokespecial 102, 3) := by decide +kernel
theorem dX5_measure_118 : decode cX5_measure 118 = .ok (.invokevirtual 53, 3) := by decide +kernel
theorem dX5_measure_121 : decode cX5_measure 121 = .ok (.pop, 1) := by decide +kernel
theorem dX5_measure_122 : decode cX5_measure 122 = .ok (.iload 8, 2) := by decide +kernel
theorem dX5_measure_124 : decode cX5_measure 124 = .ok (.ireturn, 1) := by decide +kernel
theorem dX5_sample_0 : decode cX5_sample 0 = .ok (.aload_n 0, 1) := by decide +kernel
theorem dX5_sample_1 : decode cX5_sample 1 = .ok (.iload_n 1, 1) := by decide +kernel
theorem dX5_sample_2 : decode cX5_sample 2 = .ok (.invokevirtual 105, 3) := by decide +kernel
theorem dX5_sample_5 : decode cX5_sample 5 = .ok (.astore_n 3, 1) := by decide +kernel
theorem dX5_sample_6 : decode cX5_sample 6 = .ok (.iload_n 2, 1) := by decide +kernel
theorem dX5_sample_7 : decode cX5_sample 7 = .ok (.ifCond .lt 8, 3) := by decide +kernel
theorem dX5_sample_10 : decode cX5_sample 10 = .ok (.iload_n 2, 1) := by decide +kernel
theorem dX5_sample_11 : decode cX5_sample 11 = .ok (.iconst 4, 1) := by decide +kernel
theorem dX5_sample_12 : decode cX5_sample 12 = .ok (.if_icmp .lt 13, 3) := by decide +kernel
theorem dX5_sample_15 : decode cX5_sample 15 = .ok (.new 109, 3) := by decide +kernel
theorem dX5_sample_18 : decode cX5_sample 18 = .ok (.dup, 1) := by decide +kernel
theorem dX5_sample_19 : decode cX5_sample 19 = .ok (.ldc 111, 2) := by decide +kernel
theorem dX5_sample_21 : decode cX5_sample 21 = .ok (.invokespecial 113, 3) := by decide +kernel
theorem dX5_sample_24 : decode cX5_sample 24 = .ok (.athrow, 1) := by decide +kernel
theorem dX5_sample_25 : decode cX5_sample 25 = .ok (.aload_n 3, 1) := by decide +kernel
theorem dX5_sample_26 : decode cX5_sample 26 = .ok (.getfield 114, 3) := by decide +kernel
theorem dX5_sample_29 : decode cX5_sample 29 = .ok (.iload_n 2, 1) := by decide +kernel
theorem dX5_sample_30 : decode cX5_sample 30 = .ok (.iaload, 1) := by decide +kernel
theorem dX5_sample_31 : decode cX5_sample 31 = .ok (.ireturn, 1) := by decide +kernel
theorem dX5_age_0 : decode cX5_age 0 = .ok (.aload_n 0, 1) := by decide +kernel
theorem dX5_age_1 : decode cX5_age 1 = .ok (.iload_n 1, 1) := by decide +kernel
theorem dX5_age_2 : decode cX5_age 2 = .ok (.invokevirtual 105, 3) := by decide +kernel
theorem dX5_age_5 : decode cX5_age 5 = .ok (.aload_n 0, 1) := by decide +kernel
theorem dX5_age_6 : decode cX5_age 6 = .ok (.getfield 25, 3) := by decide +kernel
theorem dX5_age_9 : decode cX5_age 9 = .ok (.invokevirtual 118, 3) := by decide +kernel
theorem dX5_age_12 : decode cX5_age 12 = .ok (.ireturn, 1) := by decide +kernel
theorem dX5_latest_0 : decode cX5_latest 0 = .ok (.aload_n 0, 1) := by decide +kernel
theorem dX5_latest_1 : decode cX5_latest 1 = .ok (.iload_n 1, 1) := by decide +kernel
theorem dX5_latest_2 : decode cX5_latest 2 = .ok (.invokevirtual 57, 3) := by decide +kernel
theorem dX5_latest_5 : decode cX5_latest 5 = .ok (.astore 6, 2) := by decide +kernel
theorem dX5_latest_7 : decode cX5_latest 7 = .ok (.iload_n 2, 1) := by decide +kernel
theorem dX5_latest_8 : decode cX5_latest 8 = .ok (.invokestatic 86, 3) := by decide +kernel
theorem dX5_latest_11 : decode cX5_latest 11 = .ok (.aload_n 0, 1) := by decide +kernel
theorem dX5_latest_12 : decode cX5_latest 12 = .ok (.aload 6, 2) := by decide +kernel
theorem dX5_latest_14 : decode cX5_latest 14 = .ok (.iload_n 2, 1) := by decide +kernel
theorem dX5_latest_15 : decode cX5_latest 15 = .ok (.iload_n 3, 1) := by decide +kernel
theorem dX5_latest_16 : decode cX5_latest 16 = .ok (.iload 4, 2) := by decide +kernel
theorem dX5_latest_18 : decode cX5_latest 18 = .ok (.iload 5, 2) := by decide +kernel
theorem dX5_latest_20 : decode cX5_latest 20 = .ok (.invokestatic 61, 3) := by decide +kernel
theorem dX5_latest_23 : decode cX5_latest 23 = .ok (.invokevirtual 122, 3) := by decide +kernel
theorem dX5_latest_26 : decode cX5_latest 26 = .ok (.astore 7, 2) := by decide +kernel
theorem dX5_latest_28 : decode cX5_latest 28 = .ok (.aload 7, 2) := by decide +kernel
theorem dX5_latest_30 : decode cX5_latest 30 = .ok (.ifnonnull 13, 3) := by decide +kernel
theorem dX5_latest_33 : decode cX5_latest 33 = .ok (.new 109, 3) := by decide +kernel
theorem dX5_latest_36 : decode cX5_latest 36 = .ok (.dup, 1) := by decide +kernel
theorem dX5_latest_37 : decode cX5_latest 37 = .ok (.ldc 126, 2) := by decide +kernel
theorem dX5_latest_39 : decode cX5_latest 39 = .ok (.invokespecial 113, 3) := by decide +kernel
theorem dX5_latest_42 : decode cX5_latest 42 = .ok (.athrow, 1) := by decide +kernel
theorem dX5_latest_43 : decode cX5_latest 43 = .ok (.aload 7, 2) := by decide +kernel
theorem dX5_latest_45 : decode cX5_latest 45 = .ok (.getfield 128, 3) := by decide +kernel
theorem dX5_latest_48 : decode cX5_latest 48 = .ok (.ireturn, 1) := by decide +kernel
theorem dX5_statesMeasured_0 : decode cX5_statesMeasured 0 = .ok (.aload_n 0, 1) := by decide +kernel
theorem dX5_statesMeasured_1 : decode cX5_statesMeasured 1 = .ok (.iload_n 1, 1) := by decide +kernel
theorem dX5_statesMeasured_2 : decode cX5_statesMeasured 2 = .ok (.invokevirtual 57, 3) := by decide +kernel
theorem dX5_statesMeasured_5 : decode cX5_statesMeasured 5 = .ok (.astore_n 2, 1) := by decide +kernel
theorem dX5_statesMeasured_6 : decode cX5_statesMeasured 6 = .ok (.iconst 0, 1) := by decide +kernel
theorem dX5_statesMeasured_7 : decode cX5_statesMeasured 7 = .ok (.istore_n 3, 1) := by decide +kernel
theorem dX5_statesMeasured_8 : decode cX5_statesMeasured 8 = .ok (.iconst 0, 1) := by decide +kernel
theorem dX5_statesMeasured_9 : decode cX5_statesMeasured 9 = .ok (.istore 4, 2) := by decide +kernel
theorem dX5_statesMeasured_11 : decode cX5_statesMeasured 11 = .ok (.iload 4, 2) := by decide +kernel
theorem dX5_statesMeasured_13 : decode cX5_statesMeasured 13 = .ok (.aload_n 0, 1) := by decide +kernel
theorem dX5_statesMeasured_14 : decode cX5_statesMeasured 14 = .ok (.getfield 16, 3) := by decide +kernel
theorem dX5_statesMeasured_17 : decode cX5_statesMeasured 17 = .ok (.invokevirtual 32, 3) := by decide +kernel
theorem dX5_statesMeasured_20 : decode cX5_statesMeasured 20 = .ok (.if_icmp .ge 40, 3) := by decide +kernel
theorem dX5_statesMeasured_23 : decode cX5_statesMeasured 23 = .ok (.aload_n 0, 1) := by decide +kernel
theorem dX5_statesMeasured_24 : decode cX5_statesMeasured 24 = .ok (.getfield 16, 3) := by decide +kernel
theorem dX5_statesMeasured_27 : decode cX5_statesMeasured 27 = .ok (.iload 4, 2) := by decide +kernel
theorem dX5_statesMeasured_29 : decode cX5_statesMeasured 29 = .ok (.invokevirtual 131, 3) := by decide +kernel
theorem dX5_statesMeasured_32 : decode cX5_statesMeasured 32 = .ok (.checkcast 100, 3) := by decide +kernel
theorem dX5_statesMeasured_35 : decode cX5_statesMeasured 35 = .ok (.getfield 135, 3) := by decide +kernel
theorem dX5_statesMeasured_38 : decode cX5_statesMeasured 38 = .ok (.aload_n 2, 1) := by decide +kernel
theorem dX5_statesMeasured_39 : decode cX5_statesMeasured 39 = .ok (.if_acmp .ne 15, 3) := by decide +kernel
theorem dX5_statesMeasured_42 : decode cX5_statesMeasured 42 = .ok (.aload_n 0, 1) := by decide +kernel
theorem dX5_statesMeasured_43 : decode cX5_statesMeasured 43 = .ok (.iload 4, 2) := by decide +kernel
theorem dX5_statesMeasured_45 : decode cX5_statesMeasured 45 = .ok (.invokevirtual 139, 3) := by decide +kernel
theorem dX5_statesMeasured_48 : decode cX5_statesMeasured 48 = .ok (.ifCond .eq 6, 3) := by decide +kernel
theorem dX5_statesMeasured_51 : decode cX5_statesMeasured 51 = .ok (.iinc 3 1, 3) := by decide +kernel
theorem dX5_statesMeasured_54 : decode cX5_statesMeasured 54 = .ok (.iinc 4 1, 3) := by decide +kernel
theorem dX5_statesMeasured_57 : decode cX5_statesMeasured 57 = .ok (.goto (-46), 3) := by decide +kernel
theorem dX5_statesMeasured_60 : decode cX5_statesMeasured 60 = .ok (.iload_n 3, 1) := by decide +kernel
theorem dX5_statesMeasured_61 : decode cX5_statesMeasured 61 = .ok (.ireturn, 1) := by decide +kernel
theorem dX5_answers_0 : decode cX5_answers 0 = .ok (.aload_n 0, 1) := by decide +kernel
theorem dX5_answers_1 : decode cX5_answers 1 = .ok (.getfield 16, 3) := by decide +kernel
theorem dX5_answers_4 : decode cX5_answers 4 = .ok (.invokevirtual 32, 3) := by decide +kernel
theorem dX5_answers_7 : decode cX5_answers 7 = .ok (.ireturn, 1) := by decide +kernel
theorem dX5_makeFilter_0 : decode cX5_makeFilter 0 = .ok (.aload_n 0, 1) := by decide +kernel
theorem dX5_makeFilter_1 : decode cX5_makeFilter 1 = .ok (.iload_n 1, 1) := by decide +kernel
theorem dX5_makeFilter_2 : decode cX5_makeFilter 2 = .ok (.invokevirtual 105, 3) := by decide +kernel
theorem dX5_makeFilter_5 : decode cX5_makeFilter 5 = .ok (.astore_n 2, 1) := by decide +kernel
theorem dX5_makeFilter_6 : decode cX5_makeFilter 6 = .ok (.aload_n 0, 1) := by decide +kernel
theorem dX5_makeFilter_7 : decode cX5_makeFilter 7 = .ok (.getfield 19, 3) := by decide +kernel
theorem dX5_makeFilter_10 : decode cX5_makeFilter 10 = .ok (.invokevirtual 32, 3) := by decide +kernel
theorem dX5_makeFilter_13 : decode cX5_makeFilter 13 = .ok (.istore_n 3, 1) := by decide +kernel
theorem dX5_makeFilter_14 : decode cX5_makeFilter 14 = .ok (.iload_n 3, 1) := by decide +kernel
theorem dX5_makeFilter_15 : decode cX5_makeFilter 15 = .ok (.bipush 20, 2) := by decide +kernel
theorem dX5_makeFilter_17 : decode cX5_makeFilter 17 = .ok (.if_icmp .lt 13, 3) := by decide +kernel
theorem dX5_makeFilter_20 : decode cX5_makeFilter 20 = .ok (.new 36, 3) := by decide +kernel
theorem dX5_makeFilter_23 : decode cX5_makeFilter 23 = .ok (.dup, 1) := by decide +kernel
theorem dX5_makeFilter_24 : decode cX5_makeFilter 24 = .ok (.ldc 143, 2) := by decide +kernel
theorem dX5_makeFilter_26 : decode cX5_makeFilter 26 = .ok (.invokespecial 40, 3) := by decide +kernel
theorem dX5_makeFilter_29 : decode cX5_makeFilter 29 = .ok (.athrow, 1) := by decide +kernel
theorem dX5_makeFilter_30 : decode cX5_makeFilter 30 = .ok (.aload_n 0, 1) := by decide +kernel
theorem dX5_makeFilter_31 : decode cX5_makeFilter 31 = .ok (.getfield 19, 3) := by decide +kernel
theorem dX5_makeFilter_34 : decode cX5_makeFilter 34 = .ok (.new 145, 3) := by decide +kernel
theorem dX5_makeFilter_37 : decode cX5_makeFilter 37 = .ok (.dup, 1) := by decide +kernel
theorem dX5_makeFilter_38 : decode cX5_makeFilter 38 = .ok (.aload_n 2, 1) := by decide +kernel
theorem dX5_makeFilter_39 : decode cX5_makeFilter 39 = .ok (.invokespecial 147, 3) := by decide +kernel
theorem dX5_makeFilter_42 : decode cX5_makeFilter 42 = .ok (.invokevirtual 53, 3) := by decide +kernel
theorem dX5_makeFilter_45 : decode cX5_makeFilter 45 = .ok (.pop, 1) := by decide +kernel
theorem dX5_makeFilter_46 : decode cX5_makeFilter 46 = .ok (.iload_n 3, 1) := by decide +kernel
theorem dX5_makeFilter_47 : decode cX5_makeFilter 47 = .ok (.ireturn, 1) := by decide +kernel
theorem dX5_answerOf_0 : decode cX5_answerOf 0 = .ok (.aload_n 0, 1) := by decide +kernel
theorem dX5_answerOf_1 : decode cX5_answerOf 1 = .ok (.iload_n 1, 1) := by decide +kernel
theorem dX5_answerOf_2 : decode cX5_answerOf 2 = .ok (.invokevirtual 150, 3) := by decide +kernel
theorem dX5_answerOf_5 : decode cX5_answerOf 5 = .ok (.getfield 154, 3) := by decide +kernel
theorem dX5_answerOf_8 : decode cX5_answerOf 8 = .ok (.getfield 128, 3) := by decide +kernel
theorem dX5_answerOf_11 : decode cX5_answerOf 11 = .ok (.ireturn, 1) := by decide +kernel
theorem dX5_tap_0 : decode cX5_tap 0 = .ok (.aload_n 0, 1) := by decide +kernel
theorem dX5_tap_1 : decode cX5_tap 1 = .ok (.iload_n 1, 1) := by decide +kernel
theorem dX5_tap_2 : decode cX5_tap 2 = .ok (.invokevirtual 150, 3) := by decide +kernel
theorem dX5_tap_5 : decode cX5_tap 5 = .ok (.astore_n 3, 1) := by decide +kernel
theorem dX5_tap_6 : decode cX5_tap 6 = .ok (.iload_n 2, 1) := by decide +kernel
theorem dX5_tap_7 : decode cX5_tap 7 = .ok (.ifCond .lt 9, 3) := by decide +kernel
theorem dX5_tap_10 : decode cX5_tap 10 = .ok (.iload_n 2, 1) := by decide +kernel
theorem dX5_tap_11 : decode cX5_tap 11 = .ok (.bipush 6, 2) := by decide +kernel
theorem dX5_tap_13 : decode cX5_tap 13 = .ok (.if_icmp .lt 13, 3) := by decide +kernel
theorem dX5_tap_16 : decode cX5_tap 16 = .ok (.new 109, 3) := by decide +kernel
theorem dX5_tap_19 : decode cX5_tap 19 = .ok (.dup, 1) := by decide +kernel
theorem dX5_tap_20 : decode cX5_tap 20 = .ok (.ldc 158, 2) := by decide +kernel
theorem dX5_tap_22 : decode cX5_tap 22 = .ok (.invokespecial 113, 3) := by decide +kernel
theorem dX5_tap_25 : decode cX5_tap 25 = .ok (.athrow, 1) := by decide +kernel
theorem dX5_tap_26 : decode cX5_tap 26 = .ok (.aload_n 3, 1) := by decide +kernel
theorem dX5_tap_27 : decode cX5_tap 27 = .ok (.getfield 160, 3) := by decide +kernel
theorem dX5_tap_30 : decode cX5_tap 30 = .ok (.iload_n 2, 1) := by decide +kernel
theorem dX5_tap_31 : decode cX5_tap 31 = .ok (.laload, 1) := by decide +kernel
theorem dX5_tap_32 : decode cX5_tap 32 = .ok (.lreturn, 1) := by decide +kernel
theorem dX5_bar_0 : decode cX5_bar 0 = .ok (.aload_n 0, 1) := by decide +kernel
theorem dX5_bar_1 : decode cX5_bar 1 = .ok (.aload_n 0, 1) := by decide +kernel
theorem dX5_bar_2 : decode cX5_bar 2 = .ok (.iload_n 1, 1) := by decide +kernel
theorem dX5_bar_3 : decode cX5_bar 3 = .ok (.invokevirtual 150, 3) := by decide +kernel
theorem dX5_bar_6 : decode cX5_bar 6 = .ok (.invokevirtual 164, 3) := by decide +kernel
theorem dX5_bar_9 : decode cX5_bar 9 = .ok (.ireturn, 1) := by decide +kernel
theorem dX5_use_0 : decode cX5_use 0 = .ok (.aload_n 0, 1) := by decide +kernel
theorem dX5_use_1 : decode cX5_use 1 = .ok (.iload_n 1, 1) := by decide +kernel
theorem dX5_use_2 : decode cX5_use 2 = .ok (.invokevirtual 150, 3) := by decide +kernel
theorem dX5_use_5 : decode cX5_use 5 = .ok (.astore_n 3, 1) := by decide +kernel
theorem dX5_use_6 : decode cX5_use 6 = .ok (.iload_n 2, 1) := by decide +kernel
theorem dX5_use_7 : decode cX5_use 7 = .ok (.sipush (-999), 3) := by decide +kernel
theorem dX5_use_10 : decode cX5_use 10 = .ok (.if_icmp .lt 10, 3) := by decide +kernel
theorem dX5_use_13 : decode cX5_use 13 = .ok (.iload_n 2, 1) := by decide +kernel
theorem dX5_use_14 : decode cX5_use 14 = .ok (.sipush 999, 3) := by decide +kernel
theorem dX5_use_17 : decode cX5_use 17 = .ok (.if_icmp .le 13, 3) := by decide +kernel
theorem dX5_use_20 : decode cX5_use 20 = .ok (.new 90, 3) := by decide +kernel
theorem dX5_use_23 : decode cX5_use 23 = .ok (.dup, 1) := by decide +kernel
theorem dX5_use_24 : decode cX5_use 24 = .ok (.ldc 168, 2) := by decide +kernel
theorem dX5_use_26 : decode cX5_use 26 = .ok (.invokespecial 94, 3) := by decide +kernel
theorem dX5_use_29 : decode cX5_use 29 = .ok (.athrow, 1) := by decide +kernel
theorem dX5_use_30 : decode cX5_use 30 = .ok (.aload_n 0, 1) := by decide +kernel
theorem dX5_use_31 : decode cX5_use 31 = .ok (.aload_n 3, 1) := by decide +kernel
theorem dX5_use_32 : decode cX5_use 32 = .ok (.invokevirtual 164, 3) := by decide +kernel
theorem dX5_use_35 : decode cX5_use 35 = .ok (.bipush 45, 2) := by decide +kernel
theorem dX5_use_37 : decode cX5_use 37 = .ok (.if_icmp .eq 13, 3) := by decide +kernel
theorem dX5_use_40 : decode cX5_use 40 = .ok (.new 170, 3) := by decide +kernel
theorem dX5_use_43 : decode cX5_use 43 = .ok (.dup, 1) := by decide +kernel
theorem dX5_use_44 : decode cX5_use 44 = .ok (.ldc 172, 2) := by decide +kernel
theorem dX5_use_46 : decode cX5_use 46 = .ok (.invokespecial 174, 3) := by decide +kernel
theorem dX5_use_49 : decode cX5_use 49 = .ok (.athrow, 1) := by decide +kernel
theorem dX5_use_50 : decode cX5_use 50 = .ok (.aload_n 3, 1) := by decide +kernel
theorem dX5_use_51 : decode cX5_use 51 = .ok (.iload_n 2, 1) := by decide +kernel
theorem dX5_use_52 : decode cX5_use 52 = .ok (.invokevirtual 175, 3) := by decide +kernel
theorem dX5_use_55 : decode cX5_use 55 = .ok (.aload_n 3, 1) := by decide +kernel
theorem dX5_use_56 : decode cX5_use 56 = .ok (.invokevirtual 178, 3) := by decide +kernel
theorem dX5_use_59 : decode cX5_use 59 = .ok (.lreturn, 1) := by decide +kernel
theorem dX5_inputs_0 : decode cX5_inputs 0 = .ok (.aload_n 0, 1) := by decide +kernel
theorem dX5_inputs_1 : decode cX5_inputs 1 = .ok (.iload_n 1, 1) := by decide +kernel
theorem dX5_inputs_2 : decode cX5_inputs 2 = .ok (.invokevirtual 150, 3) := by decide +kernel
theorem dX5_inputs_5 : decode cX5_inputs 5 = .ok (.getfield 182, 3) := by decide +kernel
theorem dX5_inputs_8 : decode cX5_inputs 8 = .ok (.ireturn, 1) := by decide +kernel
theorem dX5_product_0 : decode cX5_product 0 = .ok (.aload_n 0, 1) := by decide +kernel
theorem dX5_product_1 : decode cX5_product 1 = .ok (.iload_n 1, 1) := by decide +kernel
theorem dX5_product_2 : decode cX5_product 2 = .ok (.invokevirtual 150, 3) := by decide +kernel
theorem dX5_product_5 : decode cX5_product 5 = .ok (.astore 4, 2) := by decide +kernel
theorem dX5_product_7 : decode cX5_product 7 = .ok (.aload_n 0, 1) := by decide +kernel
theorem dX5_product_8 : decode cX5_product 8 = .ok (.iload_n 2, 1) := by decide +kernel
theorem dX5_product_9 : decode cX5_product 9 = .ok (.invokevirtual 105, 3) := by decide +kernel
theorem dX5_product_12 : decode cX5_product 12 = .ok (.astore 5, 2) := by decide +kernel
theorem dX5_product_14 : decode cX5_product 14 = .ok (.iload_n 3, 1) := by decide +kernel
theorem dX5_product_15 : decode cX5_product 15 = .ok (.ifCond .lt 9, 3) := by decide +kernel
theorem dX5_product_18 : decode cX5_product 18 = .ok (.iload_n 3, 1) := by decide +kernel
theorem dX5_product_19 : decode cX5_product 19 = .ok (.bipush 6, 2) := by decide +kernel
theorem dX5_product_21 : decode cX5_product 21 = .ok (.if_icmp .lt 13, 3) := by decide +kernel
theorem dX5_product_24 : decode cX5_product 24 = .ok (.new 109, 3) := by decide +kernel
theorem dX5_product_27 : decode cX5_product 27 = .ok (.dup, 1) := by decide +kernel
theorem dX5_product_28 : decode cX5_product 28 = .ok (.ldc 185, 2) := by decide +kernel
theorem dX5_product_30 : decode cX5_product 30 = .ok (.invokespecial 113, 3) := by decide +kernel
theorem dX5_product_33 : decode cX5_product 33 = .ok (.athrow, 1) := by decide +kernel
theorem dX5_product_34 : decode cX5_product 34 = .ok (.aload 4, 2) := by decide +kernel
theorem dX5_product_36 : decode cX5_product 36 = .ok (.aload 5, 2) := by decide +kernel
theorem dX5_product_38 : decode cX5_product 38 = .ok (.iload_n 3, 1) := by decide +kernel
theorem dX5_product_39 : decode cX5_product 39 = .ok (.invokevirtual 187, 3) := by decide +kernel
theorem dX5_product_42 : decode cX5_product 42 = .ok (.lreturn, 1) := by decide +kernel
theorem dX5_rightSamples_0 : decode cX5_rightSamples 0 = .ok (.aload_n 0, 1) := by decide +kernel
theorem dX5_rightSamples_1 : decode cX5_rightSamples 1 = .ok (.iload_n 1, 1) := by decide +kernel
theorem dX5_rightSamples_2 : decode cX5_rightSamples 2 = .ok (.invokevirtual 150, 3) := by decide +kernel
theorem dX5_rightSamples_5 : decode cX5_rightSamples 5 = .ok (.astore_n 3, 1) := by decide +kernel
theorem dX5_rightSamples_6 : decode cX5_rightSamples 6 = .ok (.aload_n 3, 1) := by decide +kernel
theorem dX5_rightSamples_7 : decode cX5_rightSamples 7 = .ok (.aload_n 0, 1) := by decide +kernel
theorem dX5_rightSamples_8 : decode cX5_rightSamples 8 = .ok (.iload_n 2, 1) := by decide +kernel
theorem dX5_rightSamples_9 : decode cX5_rightSamples 9 = .ok (.invokevirtual 105, 3) := by decide +kernel
theorem dX5_rightSamples_12 : decode cX5_rightSamples 12 = .ok (.invokevirtual 191, 3) := by decide +kernel
theorem dX5_rightSamples_15 : decode cX5_rightSamples 15 = .ok (.ireturn, 1) := by decide +kernel
theorem dX5_isChecked_0 : decode cX5_isChecked 0 = .ok (.aload_n 0, 1) := by decide +kernel
theorem dX5_isChecked_1 : decode cX5_isChecked 1 = .ok (.iload_n 1, 1) := by decide +kernel
theorem dX5_isChecked_2 : decode cX5_isChecked 2 = .ok (.invokevirtual 150, 3) := by decide +kernel
theorem dX5_isChecked_5 : decode cX5_isChecked 5 = .ok (.astore_n 2, 1) := by decide +kernel
theorem dX5_isChecked_6 : decode cX5_isChecked 6 = .ok (.aload_n 2, 1) := by decide +kernel
theorem dX5_isChecked_7 : decode cX5_isChecked 7 = .ok (.aload_n 2, 1) := by decide +kernel
theorem dX5_isChecked_8 : decode cX5_isChecked 8 = .ok (.getfield 154, 3) := by decide +kernel
theorem dX5_isChecked_11 : decode cX5_isChecked 11 = .ok (.invokevirtual 191, 3) := by decide +kernel
theorem dX5_isChecked_14 : decode cX5_isChecked 14 = .ok (.bipush 6, 2) := by decide +kernel
theorem dX5_isChecked_16 : decode cX5_isChecked 16 = .ok (.if_icmp .ne 7, 3) := by decide +kernel
theorem dX5_isChecked_19 : decode cX5_isChecked 19 = .ok (.iconst 1, 1) := by decide +kernel
theorem dX5_isChecked_20 : decode cX5_isChecked 20 = .ok (.goto 4, 3) := by decide +kernel
theorem dX5_isChecked_23 : decode cX5_isChecked 23 = .ok (.iconst 0, 1) := by decide +kernel
theorem dX5_isChecked_24 : decode cX5_isChecked 24 = .ok (.ireturn, 1) := by decide +kernel
theorem dX5_setLimit_0 : decode cX5_setLimit 0 = .ok (.iload_n 1, 1) := by decide +kernel
theorem dX5_setLimit_1 : decode cX5_setLimit 1 = .ok (.ifCond .lt 10, 3) := by decide +kernel
theorem dX5_setLimit_4 : decode cX5_setLimit 4 = .ok (.iload_n 1, 1) := by decide +kernel
theorem dX5_setLimit_5 : decode cX5_setLimit 5 = .ok (.sipush 999, 3) := by decide +kernel
theorem dX5_setLimit_8 : decode cX5_setLimit 8 = .ok (.if_icmp .le 13, 3) := by decide +kernel
theorem dX5_setLimit_11 : decode cX5_setLimit 11 = .ok (.new 90, 3) := by decide +kernel
theorem dX5_setLimit_14 : decode cX5_setLimit 14 = .ok (.dup, 1) := by decide +kernel
theorem dX5_setLimit_15 : decode cX5_setLimit 15 = .ok (.ldc 195, 2) := by decide +kernel
theorem dX5_setLimit_17 : decode cX5_setLimit 17 = .ok (.invokespecial 94, 3) := by decide +kernel
theorem dX5_setLimit_20 : decode cX5_setLimit 20 = .ok (.athrow, 1) := by decide +kernel
theorem dX5_setLimit_21 : decode cX5_setLimit 21 = .ok (.aload_n 0, 1) := by decide +kernel
theorem dX5_setLimit_22 : decode cX5_setLimit 22 = .ok (.getfield 29, 3) := by decide +kernel
theorem dX5_setLimit_25 : decode cX5_setLimit 25 = .ok (.istore_n 2, 1) := by decide +kernel
theorem dX5_setLimit_26 : decode cX5_setLimit 26 = .ok (.aload_n 0, 1) := by decide +kernel
theorem dX5_setLimit_27 : decode cX5_setLimit 27 = .ok (.iload_n 1, 1) := by decide +kernel
theorem dX5_setLimit_28 : decode cX5_setLimit 28 = .ok (.putfield 29, 3) := by decide +kernel
theorem dX5_setLimit_31 : decode cX5_setLimit 31 = .ok (.iload_n 2, 1) := by decide +kernel
theorem dX5_setLimit_32 : decode cX5_setLimit 32 = .ok (.ireturn, 1) := by decide +kernel
theorem dX5_usable_0 : decode cX5_usable 0 = .ok (.iconst 0, 1) := by decide +kernel
theorem dX5_usable_1 : decode cX5_usable 1 = .ok (.istore_n 1, 1) := by decide +kernel
theorem dX5_usable_2 : decode cX5_usable 2 = .ok (.iconst 0, 1) := by decide +kernel
theorem dX5_usable_3 : decode cX5_usable 3 = .ok (.istore_n 2, 1) := by decide +kernel
theorem dX5_usable_4 : decode cX5_usable 4 = .ok (.iload_n 2, 1) := by decide +kernel
theorem dX5_usable_5 : decode cX5_usable 5 = .ok (.aload_n 0, 1) := by decide +kernel
theorem dX5_usable_6 : decode cX5_usable 6 = .ok (.getfield 19, 3) := by decide +kernel
theorem dX5_usable_9 : decode cX5_usable 9 = .ok (.invokevirtual 32, 3) := by decide +kernel
theorem dX5_usable_12 : decode cX5_usable 12 = .ok (.if_icmp .ge 32, 3) := by decide +kernel
theorem dX5_usable_15 : decode cX5_usable 15 = .ok (.aload_n 0, 1) := by decide +kernel
theorem dX5_usable_16 : decode cX5_usable 16 = .ok (.aload_n 0, 1) := by decide +kernel
theorem dX5_usable_17 : decode cX5_usable 17 = .ok (.getfield 19, 3) := by decide +kernel
theorem dX5_usable_20 : decode cX5_usable 20 = .ok (.iload_n 2, 1) := by decide +kernel
theorem dX5_usable_21 : decode cX5_usable 21 = .ok (.invokevirtual 131, 3) := by decide +kernel
theorem dX5_usable_24 : decode cX5_usable 24 = .ok (.checkcast 145, 3) := by decide +kernel
theorem dX5_usable_27 : decode cX5_usable 27 = .ok (.invokevirtual 164, 3) := by decide +kernel
theorem dX5_usable_30 : decode cX5_usable 30 = .ok (.bipush 45, 2) := by decide +kernel
theorem dX5_usable_32 : decode cX5_usable 32 = .ok (.if_icmp .ne 6, 3) := by decide +kernel
theorem dX5_usable_35 : decode cX5_usable 35 = .ok (.iinc 1 1, 3) := by decide +kernel
theorem dX5_usable_38 : decode cX5_usable 38 = .ok (.iinc 2 1, 3) := by decide +kernel
theorem dX5_usable_41 : decode cX5_usable 41 = .ok (.goto (-37), 3) := by decide +kernel
theorem dX5_usable_44 : decode cX5_usable 44 = .ok (.iload_n 1, 1) := by decide +kernel
theorem dX5_usable_45 : decode cX5_usable 45 = .ok (.ireturn, 1) := by decide +kernel
theorem dX5_book_0 : decode cX5_book 0 = .ok (.aload_n 0, 1) := by decide +kernel
theorem dX5_book_1 : decode cX5_book 1 = .ok (.iload_n 1, 1) := by decide +kernel
theorem dX5_book_2 : decode cX5_book 2 = .ok (.invokevirtual 57, 3) := by decide +kernel
theorem dX5_book_5 : decode cX5_book 5 = .ok (.astore 7, 2) := by decide +kernel
theorem dX5_book_7 : decode cX5_book 7 = .ok (.iload_n 2, 1) := by decide +kernel
theorem dX5_book_8 : decode cX5_book 8 = .ok (.iload_n 3, 1) := by decide +kernel
theorem dX5_book_9 : decode cX5_book 9 = .ok (.iload 4, 2) := by decide +kernel
theorem dX5_book_11 : decode cX5_book 11 = .ok (.invokestatic 61, 3) := by decide +kernel
theorem dX5_book_14 : decode cX5_book 14 = .ok (.astore 8, 2) := by decide +kernel
theorem dX5_book_16 : decode cX5_book 16 = .ok (.iload 5, 2) := by decide +kernel
theorem dX5_book_18 : decode cX5_book 18 = .ok (.aload_n 0, 1) := by decide +kernel
theorem dX5_book_19 : decode cX5_book 19 = .ok (.getfield 25, 3) := by decide +kernel
theorem dX5_book_22 : decode cX5_book 22 = .ok (.if_icmp .le 18, 3) := by decide +kernel
theorem dX5_book_25 : decode cX5_book 25 = .ok (.iload 6, 2) := by decide +kernel
theorem dX5_book_27 : decode cX5_book 27 = .ok (.iload 5, 2) := by decide +kernel
theorem dX5_book_29 : decode cX5_book 29 = .ok (.if_icmp .lt 11, 3) := by decide +kernel
theorem dX5_book_32 : decode cX5_book 32 = .ok (.iload 6, 2) := by decide +kernel
theorem dX5_book_34 : decode cX5_book 34 = .ok (.sipush 9999, 3) := by decide +kernel
theorem dX5_book_37 : decode cX5_book 37 = .ok (.if_icmp .le 13, 3) := by decide +kernel
theorem dX5_book_40 : decode cX5_book 40 = .ok (.new 90, 3) := by decide +kernel
theorem dX5_book_43 : decode cX5_book 43 = .ok (.dup, 1) := by decide +kernel
theorem dX5_book_44 : decode cX5_book 44 = .ok (.ldc 197, 2) := by decide +kernel
theorem dX5_book_46 : decode cX5_book 46 = .ok (.invokespecial 94, 3) := by decide +kernel
theorem dX5_book_49 : decode cX5_book 49 = .ok (.athrow, 1) := by decide +kernel
theorem dX5_book_50 : decode cX5_book 50 = .ok (.aload_n 0, 1) := by decide +kernel
theorem dX5_book_51 : decode cX5_book 51 = .ok (.aload 7, 2) := by decide +kernel
theorem dX5_book_53 : decode cX5_book 53 = .ok (.aload 8, 2) := by decide +kernel
theorem dX5_book_55 : decode cX5_book 55 = .ok (.iload 5, 2) := by decide +kernel
theorem dX5_book_57 : decode cX5_book 57 = .ok (.iload 6, 2) := by decide +kernel
theorem dX5_book_59 : decode cX5_book 59 = .ok (.invokevirtual 199, 3) := by decide +kernel
theorem dX5_book_62 : decode cX5_book 62 = .ok (.ifnull 13, 3) := by decide +kernel
theorem dX5_book_65 : decode cX5_book 65 = .ok (.new 170, 3) := by decide +kernel
theorem dX5_book_68 : decode cX5_book 68 = .ok (.dup, 1) := by decide +kernel
theorem dX5_book_69 : decode cX5_book 69 = .ok (.ldc 203, 2) := by decide +kernel
theorem dX5_book_71 : decode cX5_book 71 = .ok (.invokespecial 174, 3) := by decide +kernel
theorem dX5_book_74 : decode cX5_book 74 = .ok (.athrow, 1) := by decide +kernel
theorem dX5_book_75 : decode cX5_book 75 = .ok (.aload_n 0, 1) := by decide +kernel
theorem dX5_book_76 : decode cX5_book 76 = .ok (.getfield 22, 3) := by decide +kernel
theorem dX5_book_79 : decode cX5_book 79 = .ok (.invokevirtual 32, 3) := by decide +kernel
theorem dX5_book_82 : decode cX5_book 82 = .ok (.istore 9, 2) := by decide +kernel
theorem dX5_book_84 : decode cX5_book 84 = .ok (.iload 9, 2) := by decide +kernel
theorem dX5_book_86 : decode cX5_book 86 = .ok (.bipush 16, 2) := by decide +kernel
theorem dX5_book_88 : decode cX5_book 88 = .ok (.if_icmp .lt 13, 3) := by decide +kernel
theorem dX5_book_91 : decode cX5_book 91 = .ok (.new 36, 3) := by decide +kernel
theorem dX5_book_94 : decode cX5_book 94 = .ok (.dup, 1) := by decide +kernel
theorem dX5_book_95 : decode cX5_book 95 = .ok (.ldc 205, 2) := by decide +kernel
theorem dX5_book_97 : decode cX5_book 97 = .ok (.invokespecial 40, 3) := by decide +kernel
theorem dX5_book_100 : decode cX5_book 100 = .ok (.athrow, 1) := by decide +kernel
theorem dX5_book_101 : decode cX5_book 101 = .ok (.aload_n 0, 1) := by decide +kernel
theorem dX5_book_102 : decode cX5_book 102 = .ok (.getfield 22, 3) := by decide +kernel
theorem dX5_book_105 : decode cX5_book 105 = .ok (.new 207, 3) := by decide +kernel
theorem dX5_book_108 : decode cX5_book 108 = .ok (.dup, 1) := by decide +kernel
theorem dX5_book_109 : decode cX5_book 109 = .ok (.iload 9, 2) := by decide +kernel
theorem dX5_book_111 : decode cX5_book 111 = .ok (.aload 7, 2) := by decide +kernel
theorem dX5_book_113 : decode cX5_book 113 = .ok (.aload 8, 2) := by decide +kernel
theorem dX5_book_115 : decode cX5_book 115 = .ok (.iload 5, 2) := by decide +kernel
theorem dX5_book_117 : decode cX5_book 117 = .ok (.iload 6, 2) := by decide +kernel
theorem dX5_book_119 : decode cX5_book 119 = .ok (.invokespecial 209, 3) := by decide +kernel
theorem dX5_book_122 : decode cX5_book 122 = .ok (.invokevirtual 53, 3) := by decide +kernel
theorem dX5_book_125 : decode cX5_book 125 = .ok (.pop, 1) := by decide +kernel
theorem dX5_book_126 : decode cX5_book 126 = .ok (.iload 9, 2) := by decide +kernel
theorem dX5_book_128 : decode cX5_book 128 = .ok (.ireturn, 1) := by decide +kernel
theorem dX5_clash_0 : decode cX5_clash 0 = .ok (.aload_n 0, 1) := by decide +kernel
theorem dX5_clash_1 : decode cX5_clash 1 = .ok (.iload_n 1, 1) := by decide +kernel
theorem dX5_clash_2 : decode cX5_clash 2 = .ok (.invokevirtual 57, 3) := by decide +kernel
theorem dX5_clash_5 : decode cX5_clash 5 = .ok (.astore 7, 2) := by decide +kernel
theorem dX5_clash_7 : decode cX5_clash 7 = .ok (.iload_n 2, 1) := by decide +kernel
theorem dX5_clash_8 : decode cX5_clash 8 = .ok (.iload_n 3, 1) := by decide +kernel
theorem dX5_clash_9 : decode cX5_clash 9 = .ok (.iload 4, 2) := by decide +kernel
theorem dX5_clash_11 : decode cX5_clash 11 = .ok (.invokestatic 61, 3) := by decide +kernel
theorem dX5_clash_14 : decode cX5_clash 14 = .ok (.astore 8, 2) := by decide +kernel
theorem dX5_clash_16 : decode cX5_clash 16 = .ok (.iload 6, 2) := by decide +kernel
theorem dX5_clash_18 : decode cX5_clash 18 = .ok (.iload 5, 2) := by decide +kernel
theorem dX5_clash_20 : decode cX5_clash 20 = .ok (.if_icmp .ge 13, 3) := by decide +kernel
theorem dX5_clash_23 : decode cX5_clash 23 = .ok (.new 90, 3) := by decide +kernel
theorem dX5_clash_26 : decode cX5_clash 26 = .ok (.dup, 1) := by decide +kernel
theorem dX5_clash_27 : decode cX5_clash 27 = .ok (.ldc 212, 2) := by decide +kernel
theorem dX5_clash_29 : decode cX5_clash 29 = .ok (.invokespecial 94, 3) := by decide +kernel
theorem dX5_clash_32 : decode cX5_clash 32 = .ok (.athrow, 1) := by decide +kernel
theorem dX5_clash_33 : decode cX5_clash 33 = .ok (.aload_n 0, 1) := by decide +kernel
theorem dX5_clash_34 : decode cX5_clash 34 = .ok (.aload 7, 2) := by decide +kernel
theorem dX5_clash_36 : decode cX5_clash 36 = .ok (.aload 8, 2) := by decide +kernel
theorem dX5_clash_38 : decode cX5_clash 38 = .ok (.iload 5, 2) := by decide +kernel
theorem dX5_clash_40 : decode cX5_clash 40 = .ok (.iload 6, 2) := by decide +kernel
theorem dX5_clash_42 : decode cX5_clash 42 = .ok (.invokevirtual 199, 3) := by decide +kernel
theorem dX5_clash_45 : decode cX5_clash 45 = .ok (.astore 9, 2) := by decide +kernel
theorem dX5_clash_47 : decode cX5_clash 47 = .ok (.aload 9, 2) := by decide +kernel
theorem dX5_clash_49 : decode cX5_clash 49 = .ok (.ifnonnull 13, 3) := by decide +kernel
theorem dX5_clash_52 : decode cX5_clash 52 = .ok (.new 109, 3) := by decide +kernel
theorem dX5_clash_55 : decode cX5_clash 55 = .ok (.dup, 1) := by decide +kernel
theorem dX5_clash_56 : decode cX5_clash 56 = .ok (.ldc 214, 2) := by decide +kernel
theorem dX5_clash_58 : decode cX5_clash 58 = .ok (.invokespecial 113, 3) := by decide +kernel
theorem dX5_clash_61 : decode cX5_clash 61 = .ok (.athrow, 1) := by decide +kernel
theorem dX5_clash_62 : decode cX5_clash 62 = .ok (.aload 9, 2) := by decide +kernel
theorem dX5_clash_64 : decode cX5_clash 64 = .ok (.getfield 216, 3) := by decide +kernel
theorem dX5_clash_67 : decode cX5_clash 67 = .ok (.ireturn, 1) := by decide +kernel
theorem dX5_cancel_0 : decode cX5_cancel 0 = .ok (.iload_n 1, 1) := by decide +kernel
theorem dX5_cancel_1 : decode cX5_cancel 1 = .ok (.ifCond .lt 14, 3) := by decide +kernel
theorem dX5_cancel_4 : decode cX5_cancel 4 = .ok (.iload_n 1, 1) := by decide +kernel
theorem dX5_cancel_5 : decode cX5_cancel 5 = .ok (.aload_n 0, 1) := by decide +kernel
theorem dX5_cancel_6 : decode cX5_cancel 6 = .ok (.getfield 22, 3) := by decide +kernel
theorem dX5_cancel_9 : decode cX5_cancel 9 = .ok (.invokevirtual 32, 3) := by decide +kernel
theorem dX5_cancel_12 : decode cX5_cancel 12 = .ok (.if_icmp .lt 13, 3) := by decide +kernel
theorem dX5_cancel_15 : decode cX5_cancel 15 = .ok (.new 217, 3) := by decide +kernel
theorem dX5_cancel_18 : decode cX5_cancel 18 = .ok (.dup, 1) := by decide +kernel
theorem dX5_cancel_19 : decode cX5_cancel 19 = .ok (.ldc 219, 2) := by decide +kernel
theorem dX5_cancel_21 : decode cX5_cancel 21 = .ok (.invokespecial 221, 3) := by decide +kernel
theorem dX5_cancel_24 : decode cX5_cancel 24 = .ok (.athrow, 1) := by decide +kernel
theorem dX5_cancel_25 : decode cX5_cancel 25 = .ok (.aload_n 0, 1) := by decide +kernel
theorem dX5_cancel_26 : decode cX5_cancel 26 = .ok (.getfield 22, 3) := by decide +kernel
theorem dX5_cancel_29 : decode cX5_cancel 29 = .ok (.iload_n 1, 1) := by decide +kernel
theorem dX5_cancel_30 : decode cX5_cancel 30 = .ok (.invokevirtual 131, 3) := by decide +kernel
theorem dX5_cancel_33 : decode cX5_cancel 33 = .ok (.checkcast 207, 3) := by decide +kernel
theorem dX5_cancel_36 : decode cX5_cancel 36 = .ok (.astore_n 2, 1) := by decide +kernel
theorem dX5_cancel_37 : decode cX5_cancel 37 = .ok (.aload_n 2, 1) := by decide +kernel
theorem dX5_cancel_38 : decode cX5_cancel 38 = .ok (.getfield 222, 3) := by decide +kernel
theorem dX5_cancel_41 : decode cX5_cancel 41 = .ok (.ifCond .ne 14, 3) := by decide +kernel
theorem dX5_cancel_44 : decode cX5_cancel 44 = .ok (.aload_n 2, 1) := by decide +kernel
theorem dX5_cancel_45 : decode cX5_cancel 45 = .ok (.getfield 225, 3) := by decide +kernel
theorem dX5_cancel_48 : decode cX5_cancel 48 = .ok (.aload_n 0, 1) := by decide +kernel
theorem dX5_cancel_49 : decode cX5_cancel 49 = .ok (.getfield 25, 3) := by decide +kernel
theorem dX5_cancel_52 : decode cX5_cancel 52 = .ok (.if_icmp .gt 13, 3) := by decide +kernel
theorem dX5_cancel_55 : decode cX5_cancel 55 = .ok (.new 36, 3) := by decide +kernel
theorem dX5_cancel_58 : decode cX5_cancel 58 = .ok (.dup, 1) := by decide +kernel
theorem dX5_cancel_59 : decode cX5_cancel 59 = .ok (.ldc 228, 2) := by decide +kernel
theorem dX5_cancel_61 : decode cX5_cancel 61 = .ok (.invokespecial 40, 3) := by decide +kernel
theorem dX5_cancel_64 : decode cX5_cancel 64 = .ok (.athrow, 1) := by decide +kernel
theorem dX5_cancel_65 : decode cX5_cancel 65 = .ok (.aload_n 2, 1) := by decide +kernel
theorem dX5_cancel_66 : decode cX5_cancel 66 = .ok (.iconst 1, 1) := by decide +kernel
theorem dX5_cancel_67 : decode cX5_cancel 67 = .ok (.putfield 222, 3) := by decide +kernel
theorem dX5_cancel_70 : decode cX5_cancel 70 = .ok (.aload_n 0, 1) := by decide +kernel
theorem dX5_cancel_71 : decode cX5_cancel 71 = .ok (.invokevirtual 230, 3) := by decide +kernel
theorem dX5_cancel_74 : decode cX5_cancel 74 = .ok (.ireturn, 1) := by decide +kernel
theorem dX5_pass_0 : decode cX5_pass 0 = .ok (.iload_n 1, 1) := by decide +kernel
theorem dX5_pass_1 : decode cX5_pass 1 = .ok (.iconst 1, 1) := by decide +kernel
theorem dX5_pass_2 : decode cX5_pass 2 = .ok (.if_icmp .lt 21, 3) := by decide +kernel
theorem dX5_pass_5 : decode cX5_pass 5 = .ok (.iload_n 1, 1) := by decide +kernel
theorem dX5_pass_6 : decode cX5_pass 6 = .ok (.bipush 48, 2) := by decide +kernel
theorem dX5_pass_8 : decode cX5_pass 8 = .ok (.if_icmp .gt 15, 3) := by decide +kernel
theorem dX5_pass_11 : decode cX5_pass 11 = .ok (.aload_n 0, 1) := by decide +kernel
theorem dX5_pass_12 : decode cX5_pass 12 = .ok (.getfield 25, 3) := by decide +kernel
theorem dX5_pass_15 : decode cX5_pass 15 = .ok (.iload_n 1, 1) := by decide +kernel
theorem dX5_pass_16 : decode cX5_pass 16 = .ok (.iadd, 1) := by decide +kernel
theorem dX5_pass_17 : decode cX5_pass 17 = .ok (.sipush 9999, 3) := by decide +kernel
theorem dX5_pass_20 : decode cX5_pass 20 = .ok (.if_icmp .le 13, 3) := by decide +kernel
theorem dX5_pass_23 : decode cX5_pass 23 = .ok (.new 90, 3) := by decide +kernel
theorem dX5_pass_26 : decode cX5_pass 26 = .ok (.dup, 1) := by decide +kernel
theorem dX5_pass_27 : decode cX5_pass 27 = .ok (.ldc 233, 2) := by decide +kernel
theorem dX5_pass_29 : decode cX5_pass 29 = .ok (.invokespecial 94, 3) := by decide +kernel
theorem dX5_pass_32 : decode cX5_pass 32 = .ok (.athrow, 1) := by decide +kernel
theorem dX5_pass_33 : decode cX5_pass 33 = .ok (.iconst 0, 1) := by decide +kernel
theorem dX5_pass_34 : decode cX5_pass 34 = .ok (.istore_n 2, 1) := by decide +kernel
theorem dX5_pass_35 : decode cX5_pass 35 = .ok (.iconst 0, 1) := by decide +kernel
theorem dX5_pass_36 : decode cX5_pass 36 = .ok (.istore_n 3, 1) := by decide +kernel
theorem dX5_pass_37 : decode cX5_pass 37 = .ok (.iload_n 3, 1) := by decide +kernel
theorem dX5_pass_38 : decode cX5_pass 38 = .ok (.iload_n 1, 1) := by decide +kernel
theorem dX5_pass_39 : decode cX5_pass 39 = .ok (.if_icmp .ge 26, 3) := by decide +kernel
theorem dX5_pass_42 : decode cX5_pass 42 = .ok (.aload_n 0, 1) := by decide +kernel
theorem dX5_pass_43 : decode cX5_pass 43 = .ok (.dup, 1) := by decide +kernel
theorem dX5_pass_44 : decode cX5_pass 44 = .ok (.getfield 25, 3) := by decide +kernel
theorem dX5_pass_47 : decode cX5_pass 47 = .ok (.iconst 1, 1) := by decide +kernel
theorem dX5_pass_48 : decode cX5_pass 48 = .ok (.iadd, 1) := by decide +kernel
theorem dX5_pass_49 : decode cX5_pass 49 = .ok (.putfield 25, 3) := by decide +kernel
theorem dX5_pass_52 : decode cX5_pass 52 = .ok (.iload_n 2, 1) := by decide +kernel
theorem dX5_pass_53 : decode cX5_pass 53 = .ok (.aload_n 0, 1) := by decide +kernel
theorem dX5_pass_54 : decode cX5_pass 54 = .ok (.invokevirtual 235, 3) := by decide +kernel
theorem dX5_pass_57 : decode cX5_pass 57 = .ok (.iadd, 1) := by decide +kernel
theorem dX5_pass_58 : decode cX5_pass 58 = .ok (.istore_n 2, 1) := by decide +kernel
theorem dX5_pass_59 : decode cX5_pass 59 = .ok (.iinc 3 1, 3) := by decide +kernel
theorem dX5_pass_62 : decode cX5_pass 62 = .ok (.goto (-25), 3) := by decide +kernel
theorem dX5_pass_65 : decode cX5_pass 65 = .ok (.iload_n 2, 1) := by decide +kernel
theorem dX5_pass_66 : decode cX5_pass 66 = .ok (.ireturn, 1) := by decide +kernel
theorem dX5_hour_0 : decode cX5_hour 0 = .ok (.aload_n 0, 1) := by decide +kernel
theorem dX5_hour_1 : decode cX5_hour 1 = .ok (.getfield 25, 3) := by decide +kernel
theorem dX5_hour_4 : decode cX5_hour 4 = .ok (.ireturn, 1) := by decide +kernel
theorem dX5_nextBooking_0 : decode cX5_nextBooking 0 = .ok (.aload_n 0, 1) := by decide +kernel
theorem dX5_nextBooking_1 : decode cX5_nextBooking 1 = .ok (.iload_n 1, 1) := by decide +kernel
theorem dX5_nextBooking_2 : decode cX5_nextBooking 2 = .ok (.invokevirtual 57, 3) := by decide +kernel
theorem dX5_nextBooking_5 : decode cX5_nextBooking 5 = .ok (.astore_n 2, 1) := by decide +kernel
theorem dX5_nextBooking_6 : decode cX5_nextBooking 6 = .ok (.aconst_null, 1) := by decide +kernel
theorem dX5_nextBooking_7 : decode cX5_nextBooking 7 = .ok (.astore_n 3, 1) := by decide +kernel
theorem dX5_nextBooking_8 : decode cX5_nextBooking 8 = .ok (.iconst 0, 1) := by decide +kernel
theorem dX5_nextBooking_9 : decode cX5_nextBooking 9 = .ok (.istore 4, 2) := by decide +kernel
theorem dX5_nextBooking_11 : decode cX5_nextBooking 11 = .ok (.iload 4, 2) := by decide +kernel
theorem dX5_nextBooking_13 : decode cX5_nextBooking 13 = .ok (.aload_n 0, 1) := by decide +kernel
theorem dX5_nextBooking_14 : decode cX5_nextBooking 14 = .ok (.getfield 22, 3) := by decide +kernel
theorem dX5_nextBooking_17 : decode cX5_nextBooking 17 = .ok (.invokevirtual 32, 3) := by decide +kernel
theorem dX5_nextBooking_20 : decode cX5_nextBooking 20 = .ok (.if_icmp .ge 63, 3) := by decide +kernel
theorem dX5_nextBooking_23 : decode cX5_nextBooking 23 = .ok (.aload_n 0, 1) := by decide +kernel
theorem dX5_nextBooking_24 : decode cX5_nextBooking 24 = .ok (.getfield 22, 3) := by decide +kernel
theorem dX5_nextBooking_27 : decode cX5_nextBooking 27 = .ok (.iload 4, 2) := by decide +kernel
theorem dX5_nextBooking_29 : decode cX5_nextBooking 29 = .ok (.invokevirtual 131, 3) := by decide +kernel
theorem dX5_nextBooking_32 : decode cX5_nextBooking 32 = .ok (.checkcast 207, 3) := by decide +kernel
theorem dX5_nextBooking_35 : decode cX5_nextBooking 35 = .ok (.astore 5, 2) := by decide +kernel
theorem dX5_nextBooking_37 : decode cX5_nextBooking 37 = .ok (.aload 5, 2) := by decide +kernel
theorem dX5_nextBooking_39 : decode cX5_nextBooking 39 = .ok (.aload_n 2, 1) := by decide +kernel
theorem dX5_nextBooking_40 : decode cX5_nextBooking 40 = .ok (.invokevirtual 238, 3) := by decide +kernel
theorem dX5_nextBooking_43 : decode cX5_nextBooking 43 = .ok (.ifCond .eq 34, 3) := by decide +kernel
theorem dX5_nextBooking_46 : decode cX5_nextBooking 46 = .ok (.aload 5, 2) := by decide +kernel
theorem dX5_nextBooking_48 : decode cX5_nextBooking 48 = .ok (.getfield 225, 3) := by decide +kernel
theorem dX5_nextBooking_51 : decode cX5_nextBooking 51 = .ok (.aload_n 0, 1) := by decide +kernel
theorem dX5_nextBooking_52 : decode cX5_nextBooking 52 = .ok (.getfield 25, 3) := by decide +kernel
theorem dX5_nextBooking_55 : decode cX5_nextBooking 55 = .ok (.if_icmp .le 22, 3) := by decide +kernel
theorem dX5_nextBooking_58 : decode cX5_nextBooking 58 = .ok (.aload_n 3, 1) := by decide +kernel
theorem dX5_nextBooking_59 : decode cX5_nextBooking 59 = .ok (.ifnull 15, 3) := by decide +kernel
theorem dX5_nextBooking_62 : decode cX5_nextBooking 62 = .ok (.aload 5, 2) := by decide +kernel
theorem dX5_nextBooking_64 : decode cX5_nextBooking 64 = .ok (.getfield 225, 3) := by decide +kernel
theorem dX5_nextBooking_67 : decode cX5_nextBooking 67 = .ok (.aload_n 3, 1) := by decide +kernel
theorem dX5_nextBooking_68 : decode cX5_nextBooking 68 = .ok (.getfield 225, 3) := by decide +kernel
theorem dX5_nextBooking_71 : decode cX5_nextBooking 71 = .ok (.if_icmp .ge 6, 3) := by decide +kernel
theorem dX5_nextBooking_74 : decode cX5_nextBooking 74 = .ok (.aload 5, 2) := by decide +kernel
theorem dX5_nextBooking_76 : decode cX5_nextBooking 76 = .ok (.astore_n 3, 1) := by decide +kernel
theorem dX5_nextBooking_77 : decode cX5_nextBooking 77 = .ok (.iinc 4 1, 3) := by decide +kernel
theorem dX5_nextBooking_80 : decode cX5_nextBooking 80 = .ok (.goto (-69), 3) := by decide +kernel
theorem dX5_nextBooking_83 : decode cX5_nextBooking 83 = .ok (.aload_n 3, 1) := by decide +kernel
theorem dX5_nextBooking_84 : decode cX5_nextBooking 84 = .ok (.ifnonnull 13, 3) := by decide +kernel
theorem dX5_nextBooking_87 : decode cX5_nextBooking 87 = .ok (.new 109, 3) := by decide +kernel
theorem dX5_nextBooking_90 : decode cX5_nextBooking 90 = .ok (.dup, 1) := by decide +kernel
theorem dX5_nextBooking_91 : decode cX5_nextBooking 91 = .ok (.ldc 242, 2) := by decide +kernel
theorem dX5_nextBooking_93 : decode cX5_nextBooking 93 = .ok (.invokespecial 113, 3) := by decide +kernel
theorem dX5_nextBooking_96 : decode cX5_nextBooking 96 = .ok (.athrow, 1) := by decide +kernel
theorem dX5_nextBooking_97 : decode cX5_nextBooking 97 = .ok (.aload_n 3, 1) := by decide +kernel
theorem dX5_nextBooking_98 : decode cX5_nextBooking 98 = .ok (.getfield 216, 3) := by decide +kernel
theorem dX5_nextBooking_101 : decode cX5_nextBooking 101 = .ok (.ireturn, 1) := by decide +kernel
theorem dX5_usableShare_0 : decode cX5_usableShare 0 = .ok (.aload_n 0, 1) := by decide +kernel
theorem dX5_usableShare_1 : decode cX5_usableShare 1 = .ok (.getfield 19, 3) := by decide +kernel
theorem dX5_usableShare_4 : decode cX5_usableShare 4 = .ok (.invokevirtual 32, 3) := by decide +kernel
theorem dX5_usableShare_7 : decode cX5_usableShare 7 = .ok (.istore_n 1, 1) := by decide +kernel
theorem dX5_usableShare_8 : decode cX5_usableShare 8 = .ok (.iload_n 1, 1) := by decide +kernel
theorem dX5_usableShare_9 : decode cX5_usableShare 9 = .ok (.ifCond .ne 13, 3) := by decide +kernel
theorem dX5_usableShare_12 : decode cX5_usableShare 12 = .ok (.new 109, 3) := by decide +kernel
theorem dX5_usableShare_15 : decode cX5_usableShare 15 = .ok (.dup, 1) := by decide +kernel
theorem dX5_usableShare_16 : decode cX5_usableShare 16 = .ok (.ldc 244, 2) := by decide +kernel
theorem dX5_usableShare_18 : decode cX5_usableShare 18 = .ok (.invokespecial 113, 3) := by decide +kernel
theorem dX5_usableShare_21 : decode cX5_usableShare 21 = .ok (.athrow, 1) := by decide +kernel
theorem dX5_usableShare_22 : decode cX5_usableShare 22 = .ok (.aload_n 0, 1) := by decide +kernel
theorem dX5_usableShare_23 : decode cX5_usableShare 23 = .ok (.invokevirtual 246, 3) := by decide +kernel
theorem dX5_usableShare_26 : decode cX5_usableShare 26 = .ok (.i2f, 1) := by decide +kernel
theorem dX5_usableShare_27 : decode cX5_usableShare 27 = .ok (.iload_n 1, 1) := by decide +kernel
theorem dX5_usableShare_28 : decode cX5_usableShare 28 = .ok (.i2f, 1) := by decide +kernel
theorem dX5_usableShare_29 : decode cX5_usableShare 29 = .ok (.fdiv, 1) := by decide +kernel
theorem dX5_usableShare_30 : decode cX5_usableShare 30 = .ok (.freturn, 1) := by decide +kernel
theorem dX5_roomAt_0 : decode cX5_roomAt 0 = .ok (.iload_n 1, 1) := by decide +kernel
theorem dX5_roomAt_1 : decode cX5_roomAt 1 = .ok (.ifCond .lt 14, 3) := by decide +kernel
theorem dX5_roomAt_4 : decode cX5_roomAt 4 = .ok (.iload_n 1, 1) := by decide +kernel
theorem dX5_roomAt_5 : decode cX5_roomAt 5 = .ok (.aload_n 0, 1) := by decide +kernel
theorem dX5_roomAt_6 : decode cX5_roomAt 6 = .ok (.getfield 10, 3) := by decide +kernel
theorem dX5_roomAt_9 : decode cX5_roomAt 9 = .ok (.invokevirtual 32, 3) := by decide +kernel
theorem dX5_roomAt_12 : decode cX5_roomAt 12 = .ok (.if_icmp .lt 13, 3) := by decide +kernel
theorem dX5_roomAt_15 : decode cX5_roomAt 15 = .ok (.new 217, 3) := by decide +kernel
theorem dX5_roomAt_18 : decode cX5_roomAt 18 = .ok (.dup, 1) := by decide +kernel
theorem dX5_roomAt_19 : decode cX5_roomAt 19 = .ok (.ldc 249, 2) := by decide +kernel
theorem dX5_roomAt_21 : decode cX5_roomAt 21 = .ok (.invokespecial 221, 3) := by decide +kernel
theorem dX5_roomAt_24 : decode cX5_roomAt 24 = .ok (.athrow, 1) := by decide +kernel
theorem dX5_roomAt_25 : decode cX5_roomAt 25 = .ok (.aload_n 0, 1) := by decide +kernel
theorem dX5_roomAt_26 : decode cX5_roomAt 26 = .ok (.getfield 10, 3) := by decide +kernel
theorem dX5_roomAt_29 : decode cX5_roomAt 29 = .ok (.iload_n 1, 1) := by decide +kernel
theorem dX5_roomAt_30 : decode cX5_roomAt 30 = .ok (.invokevirtual 131, 3) := by decide +kernel
theorem dX5_roomAt_33 : decode cX5_roomAt 33 = .ok (.checkcast 43, 3) := by decide +kernel
theorem dX5_roomAt_36 : decode cX5_roomAt 36 = .ok (.areturn, 1) := by decide +kernel
theorem dX5_answerAt_0 : decode cX5_answerAt 0 = .ok (.iload_n 1, 1) := by decide +kernel
theorem dX5_answerAt_1 : decode cX5_answerAt 1 = .ok (.ifCond .lt 14, 3) := by decide +kernel
theorem dX5_answerAt_4 : decode cX5_answerAt 4 = .ok (.iload_n 1, 1) := by decide +kernel
theorem dX5_answerAt_5 : decode cX5_answerAt 5 = .ok (.aload_n 0, 1) := by decide +kernel
theorem dX5_answerAt_6 : decode cX5_answerAt 6 = .ok (.getfield 16, 3) := by decide +kernel
theorem dX5_answerAt_9 : decode cX5_answerAt 9 = .ok (.invokevirtual 32, 3) := by decide +kernel
theorem dX5_answerAt_12 : decode cX5_answerAt 12 = .ok (.if_icmp .lt 13, 3) := by decide +kernel
theorem dX5_answerAt_15 : decode cX5_answerAt 15 = .ok (.new 217, 3) := by decide +kernel
theorem dX5_answerAt_18 : decode cX5_answerAt 18 = .ok (.dup, 1) := by decide +kernel
theorem dX5_answerAt_19 : decode cX5_answerAt 19 = .ok (.ldc 126, 2) := by decide +kernel
theorem dX5_answerAt_21 : decode cX5_answerAt 21 = .ok (.invokespecial 221, 3) := by decide +kernel
theorem dX5_answerAt_24 : decode cX5_answerAt 24 = .ok (.athrow, 1) := by decide +kernel
theorem dX5_answerAt_25 : decode cX5_answerAt 25 = .ok (.aload_n 0, 1) := by decide +kernel
theorem dX5_answerAt_26 : decode cX5_answerAt 26 = .ok (.getfield 16, 3) := by decide +kernel
theorem dX5_answerAt_29 : decode cX5_answerAt 29 = .ok (.iload_n 1, 1) := by decide +kernel
theorem dX5_answerAt_30 : decode cX5_answerAt 30 = .ok (.invokevirtual 131, 3) := by decide +kernel
theorem dX5_answerAt_33 : decode cX5_answerAt 33 = .ok (.checkcast 100, 3) := by decide +kernel
theorem dX5_answerAt_36 : decode cX5_answerAt 36 = .ok (.areturn, 1) := by decide +kernel
theorem dX5_filterAt_0 : decode cX5_filterAt 0 = .ok (.iload_n 1, 1) := by decide +kernel
theorem dX5_filterAt_1 : decode cX5_filterAt 1 = .ok (.ifCond .lt 14, 3) := by decide +kernel
theorem dX5_filterAt_4 : decode cX5_filterAt 4 = .ok (.iload_n 1, 1) := by decide +kernel
theorem dX5_filterAt_5 : decode cX5_filterAt 5 = .ok (.aload_n 0, 1) := by decide +kernel
theorem dX5_filterAt_6 : decode cX5_filterAt 6 = .ok (.getfield 19, 3) := by decide +kernel
theorem dX5_filterAt_9 : decode cX5_filterAt 9 = .ok (.invokevirtual 32, 3) := by decide +kernel
theorem dX5_filterAt_12 : decode cX5_filterAt 12 = .ok (.if_icmp .lt 13, 3) := by decide +kernel
theorem dX5_filterAt_15 : decode cX5_filterAt 15 = .ok (.new 217, 3) := by decide +kernel
theorem dX5_filterAt_18 : decode cX5_filterAt 18 = .ok (.dup, 1) := by decide +kernel
theorem dX5_filterAt_19 : decode cX5_filterAt 19 = .ok (.ldc 251, 2) := by decide +kernel
theorem dX5_filterAt_21 : decode cX5_filterAt 21 = .ok (.invokespecial 221, 3) := by decide +kernel
theorem dX5_filterAt_24 : decode cX5_filterAt 24 = .ok (.athrow, 1) := by decide +kernel
theorem dX5_filterAt_25 : decode cX5_filterAt 25 = .ok (.aload_n 0, 1) := by decide +kernel
theorem dX5_filterAt_26 : decode cX5_filterAt 26 = .ok (.getfield 19, 3) := by decide +kernel
theorem dX5_filterAt_29 : decode cX5_filterAt 29 = .ok (.iload_n 1, 1) := by decide +kernel
theorem dX5_filterAt_30 : decode cX5_filterAt 30 = .ok (.invokevirtual 131, 3) := by decide +kernel
theorem dX5_filterAt_33 : decode cX5_filterAt 33 = .ok (.checkcast 145, 3) := by decide +kernel
theorem dX5_filterAt_36 : decode cX5_filterAt 36 = .ok (.areturn, 1) := by decide +kernel
theorem dX5_stateOf_0 : decode cX5_stateOf 0 = .ok (.iload_n 0, 1) := by decide +kernel
theorem dX5_stateOf_1 : decode cX5_stateOf 1 = .ok (.ifCond .lt 18, 3) := by decide +kernel
theorem dX5_stateOf_4 : decode cX5_stateOf 4 = .ok (.iload_n 0, 1) := by decide +kernel
theorem dX5_stateOf_5 : decode cX5_stateOf 5 = .ok (.iconst 3, 1) := by decide +kernel
theorem dX5_stateOf_6 : decode cX5_stateOf 6 = .ok (.if_icmp .gt 13, 3) := by decide +kernel
theorem dX5_stateOf_9 : decode cX5_stateOf 9 = .ok (.iload_n 1, 1) := by decide +kernel
theorem dX5_stateOf_10 : decode cX5_stateOf 10 = .ok (.ifCond .lt 9, 3) := by decide +kernel
theorem dX5_stateOf_13 : decode cX5_stateOf 13 = .ok (.iload_n 1, 1) := by decide +kernel
theorem dX5_stateOf_14 : decode cX5_stateOf 14 = .ok (.bipush 9, 2) := by decide +kernel
theorem dX5_stateOf_16 : decode cX5_stateOf 16 = .ok (.if_icmp .le 13, 3) := by decide +kernel
theorem dX5_stateOf_19 : decode cX5_stateOf 19 = .ok (.new 90, 3) := by decide +kernel
theorem dX5_stateOf_22 : decode cX5_stateOf 22 = .ok (.dup, 1) := by decide +kernel
theorem dX5_stateOf_23 : decode cX5_stateOf 23 = .ok (.ldc 253, 2) := by decide +kernel
theorem dX5_stateOf_25 : decode cX5_stateOf 25 = .ok (.invokespecial 94, 3) := by decide +kernel
theorem dX5_stateOf_28 : decode cX5_stateOf 28 = .ok (.athrow, 1) := by decide +kernel
theorem dX5_stateOf_29 : decode cX5_stateOf 29 = .ok (.new 45, 3) := by decide +kernel
theorem dX5_stateOf_32 : decode cX5_stateOf 32 = .ok (.dup, 1) := by decide +kernel
theorem dX5_stateOf_33 : decode cX5_stateOf 33 = .ok (.iload_n 0, 1) := by decide +kernel
theorem dX5_stateOf_34 : decode cX5_stateOf 34 = .ok (.iload_n 1, 1) := by decide +kernel
theorem dX5_stateOf_35 : decode cX5_stateOf 35 = .ok (.iload_n 2, 1) := by decide +kernel
theorem dX5_stateOf_36 : decode cX5_stateOf 36 = .ok (.invokespecial 47, 3) := by decide +kernel
theorem dX5_stateOf_39 : decode cX5_stateOf 39 = .ok (.areturn, 1) := by decide +kernel
theorem dX5_checkPlace_0 : decode cX5_checkPlace 0 = .ok (.iload_n 0, 1) := by decide +kernel
theorem dX5_checkPlace_1 : decode cX5_checkPlace 1 = .ok (.ifCond .lt 9, 3) := by decide +kernel
theorem dX5_checkPlace_4 : decode cX5_checkPlace 4 = .ok (.iload_n 0, 1) := by decide +kernel
theorem dX5_checkPlace_5 : decode cX5_checkPlace 5 = .ok (.bipush 9, 2) := by decide +kernel
theorem dX5_checkPlace_7 : decode cX5_checkPlace 7 = .ok (.if_icmp .le 13, 3) := by decide +kernel
theorem dX5_checkPlace_10 : decode cX5_checkPlace 10 = .ok (.new 90, 3) := by decide +kernel
theorem dX5_checkPlace_13 : decode cX5_checkPlace 13 = .ok (.dup, 1) := by decide +kernel
theorem dX5_checkPlace_14 : decode cX5_checkPlace 14 = .ok (.ldc 255, 2) := by decide +kernel
theorem dX5_checkPlace_16 : decode cX5_checkPlace 16 = .ok (.invokespecial 94, 3) := by decide +kernel
theorem dX5_checkPlace_19 : decode cX5_checkPlace 19 = .ok (.athrow, 1) := by decide +kernel
theorem dX5_checkPlace_20 : decode cX5_checkPlace 20 = .ok (.return_, 1) := by decide +kernel
theorem dX5_checkSample_0 : decode cX5_checkSample 0 = .ok (.iload_n 0, 1) := by decide +kernel
theorem dX5_checkSample_1 : decode cX5_checkSample 1 = .ok (.bipush (-9), 2) := by decide +kernel
theorem dX5_checkSample_3 : decode cX5_checkSample 3 = .ok (.if_icmp .lt 9, 3) := by decide +kernel
theorem dX5_checkSample_6 : decode cX5_checkSample 6 = .ok (.iload_n 0, 1) := by decide +kernel
theorem dX5_checkSample_7 : decode cX5_checkSample 7 = .ok (.bipush 9, 2) := by decide +kernel
theorem dX5_checkSample_9 : decode cX5_checkSample 9 = .ok (.if_icmp .le 14, 3) := by decide +kernel
theorem dX5_checkSample_12 : decode cX5_checkSample 12 = .ok (.new 90, 3) := by decide +kernel
theorem dX5_checkSample_15 : decode cX5_checkSample 15 = .ok (.dup, 1) := by decide +kernel
theorem dX5_checkSample_16 : decode cX5_checkSample 16 = .ok (.ldc_w 257, 3) := by decide +kernel
theorem dX5_checkSample_19 : decode cX5_checkSample 19 = .ok (.invokespecial 94, 3) := by decide +kernel
theorem dX5_checkSample_22 : decode cX5_checkSample 22 = .ok (.athrow, 1) := by decide +kernel
theorem dX5_checkSample_23 : decode cX5_checkSample 23 = .ok (.return_, 1) := by decide +kernel
theorem dX5_newestAnswer_0 : decode cX5_newestAnswer 0 = .ok (.aload_n 0, 1) := by decide +kernel
theorem dX5_newestAnswer_1 : decode cX5_newestAnswer 1 = .ok (.getfield 16, 3) := by decide +kernel
theorem dX5_newestAnswer_4 : decode cX5_newestAnswer 4 = .ok (.invokevirtual 32, 3) := by decide +kernel
theorem dX5_newestAnswer_7 : decode cX5_newestAnswer 7 = .ok (.iconst 1, 1) := by decide +kernel
theorem dX5_newestAnswer_8 : decode cX5_newestAnswer 8 = .ok (.isub, 1) := by decide +kernel
theorem dX5_newestAnswer_9 : decode cX5_newestAnswer 9 = .ok (.istore 4, 2) := by decide +kernel
theorem dX5_newestAnswer_11 : decode cX5_newestAnswer 11 = .ok (.iload 4, 2) := by decide +kernel
theorem dX5_newestAnswer_13 : decode cX5_newestAnswer 13 = .ok (.ifCond .lt 45, 3) := by decide +kernel
theorem dX5_newestAnswer_16 : decode cX5_newestAnswer 16 = .ok (.aload_n 0, 1) := by decide +kernel
theorem dX5_newestAnswer_17 : decode cX5_newestAnswer 17 = .ok (.getfield 16, 3) := by decide +kernel
theorem dX5_newestAnswer_20 : decode cX5_newestAnswer 20 = .ok (.iload 4, 2) := by decide +kernel
theorem dX5_newestAnswer_22 : decode cX5_newestAnswer 22 = .ok (.invokevirtual 131, 3) := by decide +kernel
theorem dX5_newestAnswer_25 : decode cX5_newestAnswer 25 = .ok (.checkcast 100, 3) := by decide +kernel
theorem dX5_newestAnswer_28 : decode cX5_newestAnswer 28 = .ok (.astore 5, 2) := by decide +kernel
theorem dX5_newestAnswer_30 : decode cX5_newestAnswer 30 = .ok (.aload 5, 2) := by decide +kernel
theorem dX5_newestAnswer_32 : decode cX5_newestAnswer 32 = .ok (.getfield 259, 3) := by decide +kernel
theorem dX5_newestAnswer_35 : decode cX5_newestAnswer 35 = .ok (.iload_n 2, 1) := by decide +kernel
theorem dX5_newestAnswer_36 : decode cX5_newestAnswer 36 = .ok (.if_icmp .ne 16, 3) := by decide +kernel
theorem dX5_newestAnswer_39 : decode cX5_newestAnswer 39 = .ok (.aload 5, 2) := by decide +kernel
theorem dX5_newestAnswer_41 : decode cX5_newestAnswer 41 = .ok (.aload_n 1, 1) := by decide +kernel
theorem dX5_newestAnswer_42 : decode cX5_newestAnswer 42 = .ok (.aload_n 3, 1) := by decide +kernel
theorem dX5_newestAnswer_43 : decode cX5_newestAnswer 43 = .ok (.invokevirtual 262, 3) := by decide +kernel
theorem dX5_newestAnswer_46 : decode cX5_newestAnswer 46 = .ok (.ifCond .eq 6, 3) := by decide +kernel
theorem dX5_newestAnswer_49 : decode cX5_newestAnswer 49 = .ok (.aload 5, 2) := by decide +kernel
theorem dX5_newestAnswer_51 : decode cX5_newestAnswer 51 = .ok (.areturn, 1) := by decide +kernel
theorem dX5_newestAnswer_52 : decode cX5_newestAnswer 52 = .ok (.iinc 4 (-1), 3) := by decide +kernel
theorem dX5_newestAnswer_55 : decode cX5_newestAnswer 55 = .ok (.goto (-44), 3) := by decide +kernel
theorem dX5_newestAnswer_58 : decode cX5_newestAnswer 58 = .ok (.aconst_null, 1) := by decide +kernel
theorem dX5_newestAnswer_59 : decode cX5_newestAnswer 59 = .ok (.areturn, 1) := by decide +kernel
theorem dX5_isFirstOfItsState_0 : decode cX5_isFirstOfItsState 0 = .ok (.aload_n 0, 1) := by decide +kernel
theorem dX5_isFirstOfItsState_1 : decode cX5_isFirstOfItsState 1 = .ok (.getfield 16, 3) := by decide +kernel
theorem dX5_isFirstOfItsState_4 : decode cX5_isFirstOfItsState 4 = .ok (.iload_n 1, 1) := by decide +kernel
theorem dX5_isFirstOfItsState_5 : decode cX5_isFirstOfItsState 5 = .ok (.invokevirtual 131, 3) := by decide +kernel
theorem dX5_isFirstOfItsState_8 : decode cX5_isFirstOfItsState 8 = .ok (.checkcast 100, 3) := by decide +kernel
theorem dX5_isFirstOfItsState_11 : decode cX5_isFirstOfItsState 11 = .ok (.astore_n 2, 1) := by decide +kernel
theorem dX5_isFirstOfItsState_12 : decode cX5_isFirstOfItsState 12 = .ok (.iconst 0, 1) := by decide +kernel
theorem dX5_isFirstOfItsState_13 : decode cX5_isFirstOfItsState 13 = .ok (.istore_n 3, 1) := by decide +kernel
theorem dX5_isFirstOfItsState_14 : decode cX5_isFirstOfItsState 14 = .ok (.iload_n 3, 1) := by decide +kernel
theorem dX5_isFirstOfItsState_15 : decode cX5_isFirstOfItsState 15 = .ok (.iload_n 1, 1) := by decide +kernel
theorem dX5_isFirstOfItsState_16 : decode cX5_isFirstOfItsState 16 = .ok (.if_icmp .ge 36, 3) := by decide +kernel
theorem dX5_isFirstOfItsState_19 : decode cX5_isFirstOfItsState 19 = .ok (.aload_n 0, 1) := by decide +kernel
theorem dX5_isFirstOfItsState_20 : decode cX5_isFirstOfItsState 20 = .ok (.getfield 16, 3) := by decide +kernel
theorem dX5_isFirstOfItsState_23 : decode cX5_isFirstOfItsState 23 = .ok (.iload_n 3, 1) := by decide +kernel
theorem dX5_isFirstOfItsState_24 : decode cX5_isFirstOfItsState 24 = .ok (.invokevirtual 131, 3) := by decide +kernel
theorem dX5_isFirstOfItsState_27 : decode cX5_isFirstOfItsState 27 = .ok (.checkcast 100, 3) := by decide +kernel
theorem dX5_isFirstOfItsState_30 : decode cX5_isFirstOfItsState 30 = .ok (.aload_n 2, 1) := by decide +kernel
theorem dX5_isFirstOfItsState_31 : decode cX5_isFirstOfItsState 31 = .ok (.getfield 135, 3) := by decide +kernel
theorem dX5_isFirstOfItsState_34 : decode cX5_isFirstOfItsState 34 = .ok (.aload_n 2, 1) := by decide +kernel
theorem dX5_isFirstOfItsState_35 : decode cX5_isFirstOfItsState 35 = .ok (.getfield 266, 3) := by decide +kernel
theorem dX5_isFirstOfItsState_38 : decode cX5_isFirstOfItsState 38 = .ok (.invokevirtual 262, 3) := by decide +kernel
theorem dX5_isFirstOfItsState_41 : decode cX5_isFirstOfItsState 41 = .ok (.ifCond .eq 5, 3) := by decide +kernel
theorem dX5_isFirstOfItsState_44 : decode cX5_isFirstOfItsState 44 = .ok (.iconst 0, 1) := by decide +kernel
theorem dX5_isFirstOfItsState_45 : decode cX5_isFirstOfItsState 45 = .ok (.ireturn, 1) := by decide +kernel
theorem dX5_isFirstOfItsState_46 : decode cX5_isFirstOfItsState 46 = .ok (.iinc 3 1, 3) := by decide +kernel
theorem dX5_isFirstOfItsState_49 : decode cX5_isFirstOfItsState 49 = .ok (.goto (-35), 3) := by decide +kernel
theorem dX5_isFirstOfItsState_52 : decode cX5_isFirstOfItsState 52 = .ok (.iconst 1, 1) := by decide +kernel
theorem dX5_isFirstOfItsState_53 : decode cX5_isFirstOfItsState 53 = .ok (.ireturn, 1) := by decide +kernel
theorem dX5_firstBar_0 : decode cX5_firstBar 0 = .ok (.aload_n 1, 1) := by decide +kernel
theorem dX5_firstBar_1 : decode cX5_firstBar 1 = .ok (.getfield 154, 3) := by decide +kernel
theorem dX5_firstBar_4 : decode cX5_firstBar 4 = .ok (.astore_n 2, 1) := by decide +kernel
theorem dX5_firstBar_5 : decode cX5_firstBar 5 = .ok (.aload_n 2, 1) := by decide +kernel
theorem dX5_firstBar_6 : decode cX5_firstBar 6 = .ok (.getfield 135, 3) := by decide +kernel
theorem dX5_firstBar_9 : decode cX5_firstBar 9 = .ok (.getfield 69, 3) := by decide +kernel
theorem dX5_firstBar_12 : decode cX5_firstBar 12 = .ok (.aload_n 2, 1) := by decide +kernel
theorem dX5_firstBar_13 : decode cX5_firstBar 13 = .ok (.getfield 266, 3) := by decide +kernel
theorem dX5_firstBar_16 : decode cX5_firstBar 16 = .ok (.invokevirtual 267, 3) := by decide +kernel
theorem dX5_firstBar_19 : decode cX5_firstBar 19 = .ok (.ifCond .le 6, 3) := by decide +kernel
theorem dX5_firstBar_22 : decode cX5_firstBar 22 = .ok (.bipush 115, 2) := by decide +kernel
theorem dX5_firstBar_24 : decode cX5_firstBar 24 = .ok (.ireturn, 1) := by decide +kernel
theorem dX5_firstBar_25 : decode cX5_firstBar 25 = .ok (.aload_n 0, 1) := by decide +kernel
theorem dX5_firstBar_26 : decode cX5_firstBar 26 = .ok (.aload_n 2, 1) := by decide +kernel
theorem dX5_firstBar_27 : decode cX5_firstBar 27 = .ok (.getfield 135, 3) := by decide +kernel
theorem dX5_firstBar_30 : decode cX5_firstBar 30 = .ok (.aload_n 2, 1) := by decide +kernel
theorem dX5_firstBar_31 : decode cX5_firstBar 31 = .ok (.getfield 259, 3) := by decide +kernel
theorem dX5_firstBar_34 : decode cX5_firstBar 34 = .ok (.aload_n 2, 1) := by decide +kernel
theorem dX5_firstBar_35 : decode cX5_firstBar 35 = .ok (.getfield 266, 3) := by decide +kernel
theorem dX5_firstBar_38 : decode cX5_firstBar 38 = .ok (.invokevirtual 122, 3) := by decide +kernel
theorem dX5_firstBar_41 : decode cX5_firstBar 41 = .ok (.aload_n 2, 1) := by decide +kernel
theorem dX5_firstBar_42 : decode cX5_firstBar 42 = .ok (.if_acmp .eq 6, 3) := by decide +kernel
theorem dX5_firstBar_45 : decode cX5_firstBar 45 = .ok (.bipush 108, 2) := by decide +kernel
theorem dX5_firstBar_47 : decode cX5_firstBar 47 = .ok (.ireturn, 1) := by decide +kernel
theorem dX5_firstBar_48 : decode cX5_firstBar 48 = .ok (.aload_n 2, 1) := by decide +kernel
theorem dX5_firstBar_49 : decode cX5_firstBar 49 = .ok (.aload_n 0, 1) := by decide +kernel
theorem dX5_firstBar_50 : decode cX5_firstBar 50 = .ok (.getfield 25, 3) := by decide +kernel
theorem dX5_firstBar_53 : decode cX5_firstBar 53 = .ok (.invokevirtual 118, 3) := by decide +kernel
theorem dX5_firstBar_56 : decode cX5_firstBar 56 = .ok (.aload_n 0, 1) := by decide +kernel
theorem dX5_firstBar_57 : decode cX5_firstBar 57 = .ok (.getfield 29, 3) := by decide +kernel
theorem dX5_firstBar_60 : decode cX5_firstBar 60 = .ok (.if_icmp .le 6, 3) := by decide +kernel
theorem dX5_firstBar_63 : decode cX5_firstBar 63 = .ok (.bipush 111, 2) := by decide +kernel
theorem dX5_firstBar_65 : decode cX5_firstBar 65 = .ok (.ireturn, 1) := by decide +kernel
theorem dX5_firstBar_66 : decode cX5_firstBar 66 = .ok (.bipush 45, 2) := by decide +kernel
theorem dX5_firstBar_68 : decode cX5_firstBar 68 = .ok (.ireturn, 1) := by decide +kernel
theorem dX5_firstClash_0 : decode cX5_firstClash 0 = .ok (.iconst 0, 1) := by decide +kernel
theorem dX5_firstClash_1 : decode cX5_firstClash 1 = .ok (.istore 5, 2) := by decide +kernel
theorem dX5_firstClash_3 : decode cX5_firstClash 3 = .ok (.iload 5, 2) := by decide +kernel
theorem dX5_firstClash_5 : decode cX5_firstClash 5 = .ok (.aload_n 0, 1) := by decide +kernel
theorem dX5_firstClash_6 : decode cX5_firstClash 6 = .ok (.getfield 22, 3) := by decide +kernel
theorem dX5_firstClash_9 : decode cX5_firstClash 9 = .ok (.invokevirtual 32, 3) := by decide +kernel
theorem dX5_firstClash_12 : decode cX5_firstClash 12 = .ok (.if_icmp .ge 47, 3) := by decide +kernel
theorem dX5_firstClash_15 : decode cX5_firstClash 15 = .ok (.aload_n 0, 1) := by decide +kernel
theorem dX5_firstClash_16 : decode cX5_firstClash 16 = .ok (.getfield 22, 3) := by decide +kernel
theorem dX5_firstClash_19 : decode cX5_firstClash 19 = .ok (.iload 5, 2) := by decide +kernel
theorem dX5_firstClash_21 : decode cX5_firstClash 21 = .ok (.invokevirtual 131, 3) := by decide +kernel
theorem dX5_firstClash_24 : decode cX5_firstClash 24 = .ok (.checkcast 207, 3) := by decide +kernel
theorem dX5_firstClash_27 : decode cX5_firstClash 27 = .ok (.astore 6, 2) := by decide +kernel
theorem dX5_firstClash_29 : decode cX5_firstClash 29 = .ok (.aload 6, 2) := by decide +kernel
theorem dX5_firstClash_31 : decode cX5_firstClash 31 = .ok (.aload_n 1, 1) := by decide +kernel
theorem dX5_firstClash_32 : decode cX5_firstClash 32 = .ok (.invokevirtual 238, 3) := by decide +kernel
theorem dX5_firstClash_35 : decode cX5_firstClash 35 = .ok (.ifCond .eq 18, 3) := by decide +kernel
theorem dX5_firstClash_38 : decode cX5_firstClash 38 = .ok (.aload 6, 2) := by decide +kernel
theorem dX5_firstClash_40 : decode cX5_firstClash 40 = .ok (.aload_n 2, 1) := by decide +kernel
theorem dX5_firstClash_41 : decode cX5_firstClash 41 = .ok (.iload_n 3, 1) := by decide +kernel
theorem dX5_firstClash_42 : decode cX5_firstClash 42 = .ok (.iload 4, 2) := by decide +kernel
theorem dX5_firstClash_44 : decode cX5_firstClash 44 = .ok (.invokevirtual 270, 3) := by decide +kernel
theorem dX5_firstClash_47 : decode cX5_firstClash 47 = .ok (.ifCond .eq 6, 3) := by decide +kernel
theorem dX5_firstClash_50 : decode cX5_firstClash 50 = .ok (.aload 6, 2) := by decide +kernel
theorem dX5_firstClash_52 : decode cX5_firstClash 52 = .ok (.areturn, 1) := by decide +kernel
theorem dX5_firstClash_53 : decode cX5_firstClash 53 = .ok (.iinc 5 1, 3) := by decide +kernel
theorem dX5_firstClash_56 : decode cX5_firstClash 56 = .ok (.goto (-53), 3) := by decide +kernel
theorem dX5_firstClash_59 : decode cX5_firstClash 59 = .ok (.aconst_null, 1) := by decide +kernel
theorem dX5_firstClash_60 : decode cX5_firstClash 60 = .ok (.areturn, 1) := by decide +kernel
theorem dX5_standingBookings_0 : decode cX5_standingBookings 0 = .ok (.iconst 0, 1) := by decide +kernel
theorem dX5_standingBookings_1 : decode cX5_standingBookings 1 = .ok (.istore_n 1, 1) := by decide +kernel
theorem dX5_standingBookings_2 : decode cX5_standingBookings 2 = .ok (.iconst 0, 1) := by decide +kernel
theorem dX5_standingBookings_3 : decode cX5_standingBookings 3 = .ok (.istore_n 2, 1) := by decide +kernel
theorem dX5_standingBookings_4 : decode cX5_standingBookings 4 = .ok (.iload_n 2, 1) := by decide +kernel
theorem dX5_standingBookings_5 : decode cX5_standingBookings 5 = .ok (.aload_n 0, 1) := by decide +kernel
theorem dX5_standingBookings_6 : decode cX5_standingBookings 6 = .ok (.getfield 22, 3) := by decide +kernel
theorem dX5_standingBookings_9 : decode cX5_standingBookings 9 = .ok (.invokevirtual 32, 3) := by decide +kernel
theorem dX5_standingBookings_12 : decode cX5_standingBookings 12 = .ok (.if_icmp .ge 29, 3) := by decide +kernel
theorem dX5_standingBookings_15 : decode cX5_standingBookings 15 = .ok (.aload_n 0, 1) := by decide +kernel
theorem dX5_standingBookings_16 : decode cX5_standingBookings 16 = .ok (.getfield 22, 3) := by decide +kernel
theorem dX5_standingBookings_19 : decode cX5_standingBookings 19 = .ok (.iload_n 2, 1) := by decide +kernel
theorem dX5_standingBookings_20 : decode cX5_standingBookings 20 = .ok (.invokevirtual 131, 3) := by decide +kernel
theorem dX5_standingBookings_23 : decode cX5_standingBookings 23 = .ok (.checkcast 207, 3) := by decide +kernel
theorem dX5_standingBookings_26 : decode cX5_standingBookings 26 = .ok (.getfield 222, 3) := by decide +kernel
theorem dX5_standingBookings_29 : decode cX5_standingBookings 29 = .ok (.ifCond .ne 6, 3) := by decide +kernel
theorem dX5_standingBookings_32 : decode cX5_standingBookings 32 = .ok (.iinc 1 1, 3) := by decide +kernel
theorem dX5_standingBookings_35 : decode cX5_standingBookings 35 = .ok (.iinc 2 1, 3) := by decide +kernel
theorem dX5_standingBookings_38 : decode cX5_standingBookings 38 = .ok (.goto (-34), 3) := by decide +kernel
theorem dX5_standingBookings_41 : decode cX5_standingBookings 41 = .ok (.iload_n 1, 1) := by decide +kernel
theorem dX5_standingBookings_42 : decode cX5_standingBookings 42 = .ok (.ireturn, 1) := by decide +kernel
theorem dX5_beginBookings_0 : decode cX5_beginBookings 0 = .ok (.iconst 0, 1) := by decide +kernel
theorem dX5_beginBookings_1 : decode cX5_beginBookings 1 = .ok (.istore_n 1, 1) := by decide +kernel
theorem dX5_beginBookings_2 : decode cX5_beginBookings 2 = .ok (.iconst 0, 1) := by decide +kernel
theorem dX5_beginBookings_3 : decode cX5_beginBookings 3 = .ok (.istore_n 2, 1) := by decide +kernel
theorem dX5_beginBookings_4 : decode cX5_beginBookings 4 = .ok (.iload_n 2, 1) := by decide +kernel
theorem dX5_beginBookings_5 : decode cX5_beginBookings 5 = .ok (.aload_n 0, 1) := by decide +kernel
theorem dX5_beginBookings_6 : decode cX5_beginBookings 6 = .ok (.getfield 22, 3) := by decide +kernel
theorem dX5_beginBookings_9 : decode cX5_beginBookings 9 = .ok (.invokevirtual 32, 3) := by decide +kernel
theorem dX5_beginBookings_12 : decode cX5_beginBookings 12 = .ok (.if_icmp .ge 54, 3) := by decide +kernel
theorem dX5_beginBookings_15 : decode cX5_beginBookings 15 = .ok (.aload_n 0, 1) := by decide +kernel
theorem dX5_beginBookings_16 : decode cX5_beginBookings 16 = .ok (.getfield 22, 3) := by decide +kernel
theorem dX5_beginBookings_19 : decode cX5_beginBookings 19 = .ok (.iload_n 2, 1) := by decide +kernel
theorem dX5_beginBookings_20 : decode cX5_beginBookings 20 = .ok (.invokevirtual 131, 3) := by decide +kernel
theorem dX5_beginBookings_23 : decode cX5_beginBookings 23 = .ok (.checkcast 207, 3) := by decide +kernel
theorem dX5_beginBookings_26 : decode cX5_beginBookings 26 = .ok (.astore_n 3, 1) := by decide +kernel
theorem dX5_beginBookings_27 : decode cX5_beginBookings 27 = .ok (.aload_n 3, 1) := by decide +kernel
theorem dX5_beginBookings_28 : decode cX5_beginBookings 28 = .ok (.getfield 222, 3) := by decide +kernel
theorem dX5_beginBookings_31 : decode cX5_beginBookings 31 = .ok (.ifCond .ne 29, 3) := by decide +kernel
theorem dX5_beginBookings_34 : decode cX5_beginBookings 34 = .ok (.aload_n 3, 1) := by decide +kernel
theorem dX5_beginBookings_35 : decode cX5_beginBookings 35 = .ok (.getfield 225, 3) := by decide +kernel
theorem dX5_beginBookings_38 : decode cX5_beginBookings 38 = .ok (.aload_n 0, 1) := by decide +kernel
theorem dX5_beginBookings_39 : decode cX5_beginBookings 39 = .ok (.getfield 25, 3) := by decide +kernel
theorem dX5_beginBookings_42 : decode cX5_beginBookings 42 = .ok (.if_icmp .ne 18, 3) := by decide +kernel
theorem dX5_beginBookings_45 : decode cX5_beginBookings 45 = .ok (.aload_n 3, 1) := by decide +kernel
theorem dX5_beginBookings_46 : decode cX5_beginBookings 46 = .ok (.getfield 274, 3) := by decide +kernel
theorem dX5_beginBookings_49 : decode cX5_beginBookings 49 = .ok (.aload_n 3, 1) := by decide +kernel
theorem dX5_beginBookings_50 : decode cX5_beginBookings 50 = .ok (.getfield 275, 3) := by decide +kernel
theorem dX5_beginBookings_53 : decode cX5_beginBookings 53 = .ok (.invokevirtual 65, 3) := by decide +kernel
theorem dX5_beginBookings_56 : decode cX5_beginBookings 56 = .ok (.pop, 1) := by decide +kernel
theorem dX5_beginBookings_57 : decode cX5_beginBookings 57 = .ok (.iinc 1 1, 3) := by decide +kernel
theorem dX5_beginBookings_60 : decode cX5_beginBookings 60 = .ok (.iinc 2 1, 3) := by decide +kernel
theorem dX5_beginBookings_63 : decode cX5_beginBookings 63 = .ok (.goto (-59), 3) := by decide +kernel
theorem dX5_beginBookings_66 : decode cX5_beginBookings 66 = .ok (.iload_n 1, 1) := by decide +kernel
theorem dX5_beginBookings_67 : decode cX5_beginBookings 67 = .ok (.ireturn, 1) := by decide +kernel
theorem dJ9_max_7cf53_0 : decode cJ9_max_7cf53 0 = .ok (.iload_n 0, 1) := by decide +kernel
theorem dJ9_max_7cf53_1 : decode cJ9_max_7cf53 1 = .ok (.iload_n 1, 1) := by decide +kernel
theorem dJ9_max_7cf53_2 : decode cJ9_max_7cf53 2 = .ok (.if_icmp .lt 7, 3) := by decide +kernel
theorem dJ9_max_7cf53_5 : decode cJ9_max_7cf53 5 = .ok (.iload_n 0, 1) := by decide +kernel
theorem dJ9_max_7cf53_6 : decode cJ9_max_7cf53 6 = .ok (.goto 4, 3) := by decide +kernel
theorem dJ9_max_7cf53_9 : decode cJ9_max_7cf53 9 = .ok (.iload_n 1, 1) := by decide +kernel
theorem dJ9_max_7cf53_10 : decode cJ9_max_7cf53 10 = .ok (.ireturn, 1) := by decide +kernel
theorem dJ9_min_7cf53_0 : decode cJ9_min_7cf53 0 = .ok (.iload_n 0, 1) := by decide +kernel
theorem dJ9_min_7cf53_1 : decode cJ9_min_7cf53 1 = .ok (.iload_n 1, 1) := by decide +kernel
theorem dJ9_min_7cf53_2 : decode cJ9_min_7cf53 2 = .ok (.if_icmp .gt 7, 3) := by decide +kernel
theorem dJ9_min_7cf53_5 : decode cJ9_min_7cf53 5 = .ok (.iload_n 0, 1) := by decide +kernel
theorem dJ9_min_7cf53_6 : decode cJ9_min_7cf53 6 = .ok (.goto 4, 3) := by decide +kernel
theorem dJ9_min_7cf53_9 : decode cJ9_min_7cf53 9 = .ok (.iload_n 1, 1) := by decide +kernel
theorem dJ9_min_7cf53_10 : decode cJ9_min_7cf53 10 = .ok (.ireturn, 1) := by decide +kernel
theorem dJxa1e45_init_da8c8_0 : decode cJxa1e45_init_da8c8 0 = .ok (.aload_n 0, 1) := by decide +kernel
theorem dJxa1e45_init_da8c8_1 : decode cJxa1e45_init_da8c8 1 = .ok (.invokespecial 1, 3) := by decide +kernel
theorem dJxa1e45_init_da8c8_4 : decode cJxa1e45_init_da8c8 4 = .ok (.return_, 1) := by decide +kernel
theorem dJxc12de_init_da8c8_0 : decode cJxc12de_init_da8c8 0 = .ok (.aload_n 0, 1) := by decide +kernel
theorem dJxc12de_init_da8c8_1 : decode cJxc12de_init_da8c8 1 = .ok (.invokespecial 1, 3) := by decide +kernel
theorem dJxc12de_init_da8c8_4 : decode cJxc12de_init_da8c8 4 = .ok (.aload_n 0, 1) := by decide +kernel
theorem dJxc12de_init_da8c8_5 : decode cJxc12de_init_da8c8 5 = .ok (.iconst 0, 1) := by decide +kernel
theorem dJxc12de_init_da8c8_6 : decode cJxc12de_init_da8c8 6 = .ok (.putfield 7, 3) := by decide +kernel
theorem dJxc12de_init_da8c8_9 : decode cJxc12de_init_da8c8 9 = .ok (.return_, 1) := by decide +kernel
theorem dJx4a65c_init_da8c8_0 : decode cJx4a65c_init_da8c8 0 = .ok (.aload_n 0, 1) := by decide +kernel
theorem dJx4a65c_init_da8c8_1 : decode cJx4a65c_init_da8c8 1 = .ok (.invokespecial 1, 3) := by decide +kernel
theorem dJx4a65c_init_da8c8_4 : decode cJx4a65c_init_da8c8 4 = .ok (.aload_n 0, 1) := by decide +kernel
theorem dJx4a65c_init_da8c8_5 : decode cJx4a65c_init_da8c8 5 = .ok (.getstatic 39, 3) := by decide +kernel
theorem dJx4a65c_init_da8c8_8 : decode cJx4a65c_init_da8c8 8 = .ok (.putfield 9, 3) := by decide +kernel
theorem dJx4a65c_init_da8c8_11 : decode cJx4a65c_init_da8c8 11 = .ok (.return_, 1) := by decide +kernel
theorem dJx4a65c_grow_92f84_0 : decode cJx4a65c_grow_92f84 0 = .ok (.aload_n 0, 1) := by decide +kernel
theorem dJx4a65c_grow_92f84_1 : decode cJx4a65c_grow_92f84 1 = .ok (.getfield 9, 3) := by decide +kernel
theorem dJx4a65c_grow_92f84_4 : decode cJx4a65c_grow_92f84 4 = .ok (.arraylength, 1) := by decide +kernel
theorem dJx4a65c_grow_92f84_5 : decode cJx4a65c_grow_92f84 5 = .ok (.istore_n 2, 1) := by decide +kernel
theorem dJx4a65c_grow_92f84_6 : decode cJx4a65c_grow_92f84 6 = .ok (.iload_n 2, 1) := by decide +kernel
theorem dJx4a65c_grow_92f84_7 : decode cJx4a65c_grow_92f84 7 = .ok (.ifCond .gt 13, 3) := by decide +kernel
theorem dJx4a65c_grow_92f84_10 : decode cJx4a65c_grow_92f84 10 = .ok (.aload_n 0, 1) := by decide +kernel
theorem dJx4a65c_grow_92f84_11 : decode cJx4a65c_grow_92f84 11 = .ok (.getfield 9, 3) := by decide +kernel
theorem dJx4a65c_grow_92f84_14 : decode cJx4a65c_grow_92f84 14 = .ok (.getstatic 39, 3) := by decide +kernel
theorem dJx4a65c_grow_92f84_17 : decode cJx4a65c_grow_92f84 17 = .ok (.if_acmp .eq 28, 3) := by decide +kernel
theorem dJx4a65c_grow_92f84_20 : decode cJx4a65c_grow_92f84 20 = .ok (.iload_n 2, 1) := by decide +kernel
theorem dJx4a65c_grow_92f84_21 : decode cJx4a65c_grow_92f84 21 = .ok (.iload_n 1, 1) := by decide +kernel
theorem dJx4a65c_grow_92f84_22 : decode cJx4a65c_grow_92f84 22 = .ok (.iload_n 2, 1) := by decide +kernel
theorem dJx4a65c_grow_92f84_23 : decode cJx4a65c_grow_92f84 23 = .ok (.isub, 1) := by decide +kernel
theorem dJx4a65c_grow_92f84_24 : decode cJx4a65c_grow_92f84 24 = .ok (.iload_n 2, 1) := by decide +kernel
theorem dJx4a65c_grow_92f84_25 : decode cJx4a65c_grow_92f84 25 = .ok (.iconst 1, 1) := by decide +kernel
theorem dJx4a65c_grow_92f84_26 : decode cJx4a65c_grow_92f84 26 = .ok (.ishr, 1) := by decide +kernel
theorem dJx4a65c_grow_92f84_27 : decode cJx4a65c_grow_92f84 27 = .ok (.invokestatic 73, 3) := by decide +kernel
theorem dJx4a65c_grow_92f84_30 : decode cJx4a65c_grow_92f84 30 = .ok (.istore_n 3, 1) := by decide +kernel
theorem dJx4a65c_grow_92f84_31 : decode cJx4a65c_grow_92f84 31 = .ok (.aload_n 0, 1) := by decide +kernel
theorem dJx4a65c_grow_92f84_32 : decode cJx4a65c_grow_92f84 32 = .ok (.aload_n 0, 1) := by decide +kernel
theorem dJx4a65c_grow_92f84_33 : decode cJx4a65c_grow_92f84 33 = .ok (.getfield 9, 3) := by decide +kernel
theorem dJx4a65c_grow_92f84_36 : decode cJx4a65c_grow_92f84 36 = .ok (.iload_n 3, 1) := by decide +kernel
theorem dJx4a65c_grow_92f84_37 : decode cJx4a65c_grow_92f84 37 = .ok (.invokestatic 66, 3) := by decide +kernel
theorem dJx4a65c_grow_92f84_40 : decode cJx4a65c_grow_92f84 40 = .ok (.dup_x1, 1) := by decide +kernel
theorem dJx4a65c_grow_92f84_41 : decode cJx4a65c_grow_92f84 41 = .ok (.putfield 9, 3) := by decide +kernel
theorem dJx4a65c_grow_92f84_44 : decode cJx4a65c_grow_92f84 44 = .ok (.areturn, 1) := by decide +kernel
theorem dJx4a65c_grow_92f84_45 : decode cJx4a65c_grow_92f84 45 = .ok (.aload_n 0, 1) := by decide +kernel
theorem dJx4a65c_grow_92f84_46 : decode cJx4a65c_grow_92f84 46 = .ok (.bipush 10, 2) := by decide +kernel
theorem dJx4a65c_grow_92f84_48 : decode cJx4a65c_grow_92f84 48 = .ok (.iload_n 1, 1) := by decide +kernel
theorem dJx4a65c_grow_92f84_49 : decode cJx4a65c_grow_92f84 49 = .ok (.invokestatic 79, 3) := by decide +kernel
theorem dJx4a65c_grow_92f84_52 : decode cJx4a65c_grow_92f84 52 = .ok (.anewarray 7, 3) := by decide +kernel
theorem dJx4a65c_grow_92f84_55 : decode cJx4a65c_grow_92f84 55 = .ok (.dup_x1, 1) := by decide +kernel
theorem dJx4a65c_grow_92f84_56 : decode cJx4a65c_grow_92f84 56 = .ok (.putfield 9, 3) := by decide +kernel
theorem dJx4a65c_grow_92f84_59 : decode cJx4a65c_grow_92f84 59 = .ok (.areturn, 1) := by decide +kernel
theorem dJx4a65c_grow_d5877_0 : decode cJx4a65c_grow_d5877 0 = .ok (.aload_n 0, 1) := by decide +kernel
theorem dJx4a65c_grow_d5877_1 : decode cJx4a65c_grow_d5877 1 = .ok (.aload_n 0, 1) := by decide +kernel
theorem dJx4a65c_grow_d5877_2 : decode cJx4a65c_grow_d5877 2 = .ok (.getfield 48, 3) := by decide +kernel
theorem dJx4a65c_grow_d5877_5 : decode cJx4a65c_grow_d5877 5 = .ok (.iconst 1, 1) := by decide +kernel
theorem dJx4a65c_grow_d5877_6 : decode cJx4a65c_grow_d5877 6 = .ok (.iadd, 1) := by decide +kernel
theorem dJx4a65c_grow_d5877_7 : decode cJx4a65c_grow_d5877 7 = .ok (.invokevirtual 69, 3) := by decide +kernel
theorem dJx4a65c_grow_d5877_10 : decode cJx4a65c_grow_d5877 10 = .ok (.areturn, 1) := by decide +kernel
theorem dJx4a65c_size_8abf5_0 : decode cJx4a65c_size_8abf5 0 = .ok (.aload_n 0, 1) := by decide +kernel
theorem dJx4a65c_size_8abf5_1 : decode cJx4a65c_size_8abf5 1 = .ok (.getfield 48, 3) := by decide +kernel
theorem dJx4a65c_size_8abf5_4 : decode cJx4a65c_size_8abf5 4 = .ok (.ireturn, 1) := by decide +kernel
theorem dJx4a65c_elementData_915e3_0 : decode cJx4a65c_elementData_915e3 0 = .ok (.aload_n 0, 1) := by decide +kernel
theorem dJx4a65c_elementData_915e3_1 : decode cJx4a65c_elementData_915e3 1 = .ok (.getfield 9, 3) := by decide +kernel
theorem dJx4a65c_elementData_915e3_4 : decode cJx4a65c_elementData_915e3 4 = .ok (.iload_n 1, 1) := by decide +kernel
theorem dJx4a65c_elementData_915e3_5 : decode cJx4a65c_elementData_915e3 5 = .ok (.aaload, 1) := by decide +kernel
theorem dJx4a65c_elementData_915e3_6 : decode cJx4a65c_elementData_915e3 6 = .ok (.areturn, 1) := by decide +kernel
theorem dJx4a65c_get_915e3_0 : decode cJx4a65c_get_915e3 0 = .ok (.iload_n 1, 1) := by decide +kernel
theorem dJx4a65c_get_915e3_1 : decode cJx4a65c_get_915e3 1 = .ok (.aload_n 0, 1) := by decide +kernel
theorem dJx4a65c_get_915e3_2 : decode cJx4a65c_get_915e3 2 = .ok (.getfield 48, 3) := by decide +kernel
theorem dJx4a65c_get_915e3_5 : decode cJx4a65c_get_915e3 5 = .ok (.invokestatic 118, 3) := by decide +kernel
theorem dJx4a65c_get_915e3_8 : decode cJx4a65c_get_915e3 8 = .ok (.pop, 1) := by decide +kernel
theorem dJx4a65c_get_915e3_9 : decode cJx4a65c_get_915e3 9 = .ok (.aload_n 0, 1) := by decide +kernel
theorem dJx4a65c_get_915e3_10 : decode cJx4a65c_get_915e3 10 = .ok (.iload_n 1, 1) := by decide +kernel
theorem dJx4a65c_get_915e3_11 : decode cJx4a65c_get_915e3 11 = .ok (.invokevirtual 123, 3) := by decide +kernel
theorem dJx4a65c_get_915e3_14 : decode cJx4a65c_get_915e3 14 = .ok (.areturn, 1) := by decide +kernel
theorem dJx4a65c_add_72be8_0 : decode cJx4a65c_add_72be8 0 = .ok (.iload_n 3, 1) := by decide +kernel
theorem dJx4a65c_add_72be8_1 : decode cJx4a65c_add_72be8 1 = .ok (.aload_n 2, 1) := by decide +kernel
theorem dJx4a65c_add_72be8_2 : decode cJx4a65c_add_72be8 2 = .ok (.arraylength, 1) := by decide +kernel
theorem dJx4a65c_add_72be8_3 : decode cJx4a65c_add_72be8 3 = .ok (.if_icmp .ne 8, 3) := by decide +kernel
theorem dJx4a65c_add_72be8_6 : decode cJx4a65c_add_72be8 6 = .ok (.aload_n 0, 1) := by decide +kernel
theorem dJx4a65c_add_72be8_7 : decode cJx4a65c_add_72be8 7 = .ok (.invokevirtual 129, 3) := by decide +kernel
theorem dJx4a65c_add_72be8_10 : decode cJx4a65c_add_72be8 10 = .ok (.astore_n 2, 1) := by decide +kernel
theorem dJx4a65c_add_72be8_11 : decode cJx4a65c_add_72be8 11 = .ok (.aload_n 2, 1) := by decide +kernel
theorem dJx4a65c_add_72be8_12 : decode cJx4a65c_add_72be8 12 = .ok (.iload_n 3, 1) := by decide +kernel
theorem dJx4a65c_add_72be8_13 : decode cJx4a65c_add_72be8 13 = .ok (.aload_n 1, 1) := by decide +kernel
theorem dJx4a65c_add_72be8_14 : decode cJx4a65c_add_72be8 14 = .ok (.aastore, 1) := by decide +kernel
theorem dJx4a65c_add_72be8_15 : decode cJx4a65c_add_72be8 15 = .ok (.aload_n 0, 1) := by decide +kernel
theorem dJx4a65c_add_72be8_16 : decode cJx4a65c_add_72be8 16 = .ok (.iload_n 3, 1) := by decide +kernel
theorem dJx4a65c_add_72be8_17 : decode cJx4a65c_add_72be8 17 = .ok (.iconst 1, 1) := by decide +kernel
theorem dJx4a65c_add_72be8_18 : decode cJx4a65c_add_72be8 18 = .ok (.iadd, 1) := by decide +kernel
theorem dJx4a65c_add_72be8_19 : decode cJx4a65c_add_72be8 19 = .ok (.putfield 48, 3) := by decide +kernel
theorem dJx4a65c_add_72be8_22 : decode cJx4a65c_add_72be8 22 = .ok (.return_, 1) := by decide +kernel
theorem dJx4a65c_add_9ea2d_0 : decode cJx4a65c_add_9ea2d 0 = .ok (.aload_n 0, 1) := by decide +kernel
theorem dJx4a65c_add_9ea2d_1 : decode cJx4a65c_add_9ea2d 1 = .ok (.dup, 1) := by decide +kernel
theorem dJx4a65c_add_9ea2d_2 : decode cJx4a65c_add_9ea2d 2 = .ok (.getfield 63, 3) := by decide +kernel
theorem dJx4a65c_add_9ea2d_5 : decode cJx4a65c_add_9ea2d 5 = .ok (.iconst 1, 1) := by decide +kernel
theorem dJx4a65c_add_9ea2d_6 : decode cJx4a65c_add_9ea2d 6 = .ok (.iadd, 1) := by decide +kernel
theorem dJx4a65c_add_9ea2d_7 : decode cJx4a65c_add_9ea2d 7 = .ok (.putfield 63, 3) := by decide +kernel
theorem dJx4a65c_add_9ea2d_10 : decode cJx4a65c_add_9ea2d 10 = .ok (.aload_n 0, 1) := by decide +kernel
theorem dJx4a65c_add_9ea2d_11 : decode cJx4a65c_add_9ea2d 11 = .ok (.aload_n 1, 1) := by decide +kernel
theorem dJx4a65c_add_9ea2d_12 : decode cJx4a65c_add_9ea2d 12 = .ok (.aload_n 0, 1) := by decide +kernel
theorem dJx4a65c_add_9ea2d_13 : decode cJx4a65c_add_9ea2d 13 = .ok (.getfield 9, 3) := by decide +kernel
theorem dJx4a65c_add_9ea2d_16 : decode cJx4a65c_add_9ea2d 16 = .ok (.aload_n 0, 1) := by decide +kernel
theorem dJx4a65c_add_9ea2d_17 : decode cJx4a65c_add_9ea2d 17 = .ok (.getfield 48, 3) := by decide +kernel
theorem dJx4a65c_add_9ea2d_20 : decode cJx4a65c_add_9ea2d 20 = .ok (.invokevirtual 131, 3) := by decide +kernel
theorem dJx4a65c_add_9ea2d_23 : decode cJx4a65c_add_9ea2d 23 = .ok (.iconst 1, 1) := by decide +kernel
theorem dJx4a65c_add_9ea2d_24 : decode cJx4a65c_add_9ea2d 24 = .ok (.ireturn, 1) := by decide +kernel
theorem dJ7_copyOf_1904c_0 : decode cJ7_copyOf_1904c 0 = .ok (.aload_n 0, 1) := by decide +kernel
theorem dJ7_copyOf_1904c_1 : decode cJ7_copyOf_1904c 1 = .ok (.iload_n 1, 1) := by decide +kernel
theorem dJ7_copyOf_1904c_2 : decode cJ7_copyOf_1904c 2 = .ok (.aload_n 0, 1) := by decide +kernel
theorem dJ7_copyOf_1904c_3 : decode cJ7_copyOf_1904c 3 = .ok (.invokevirtual 86, 3) := by decide +kernel
theorem dJ7_copyOf_1904c_6 : decode cJ7_copyOf_1904c 6 = .ok (.invokestatic 300, 3) := by decide +kernel
theorem dJ7_copyOf_1904c_9 : decode cJ7_copyOf_1904c 9 = .ok (.areturn, 1) := by decide +kernel
theorem dJ7_copyOf_6403c_0 : decode cJ7_copyOf_6403c 0 = .ok (.aload_n 2, 1) := by decide +kernel
theorem dJ7_copyOf_6403c_1 : decode cJ7_copyOf_6403c 1 = .ok (.ldc 110, 2) := by decide +kernel
theorem dJ7_copyOf_6403c_3 : decode cJ7_copyOf_6403c 3 = .ok (.if_acmp .ne 10, 3) := by decide +kernel
theorem dJ7_copyOf_6403c_6 : decode cJ7_copyOf_6403c 6 = .ok (.iload_n 1, 1) := by decide +kernel
theorem dJ7_copyOf_6403c_7 : decode cJ7_copyOf_6403c 7 = .ok (.anewarray 2, 3) := by decide +kernel
theorem dJ7_copyOf_6403c_10 : decode cJ7_copyOf_6403c 10 = .ok (.goto 14, 3) := by decide +kernel
theorem dJ7_copyOf_6403c_13 : decode cJ7_copyOf_6403c 13 = .ok (.aload_n 2, 1) := by decide +kernel
theorem dJ7_copyOf_6403c_14 : decode cJ7_copyOf_6403c 14 = .ok (.invokevirtual 90, 3) := by decide +kernel
theorem dJ7_copyOf_6403c_17 : decode cJ7_copyOf_6403c 17 = .ok (.iload_n 1, 1) := by decide +kernel
theorem dJ7_copyOf_6403c_18 : decode cJ7_copyOf_6403c 18 = .ok (.invokestatic 95, 3) := by decide +kernel
theorem dJ7_copyOf_6403c_21 : decode cJ7_copyOf_6403c 21 = .ok (.checkcast 110, 3) := by decide +kernel
theorem dJ7_copyOf_6403c_24 : decode cJ7_copyOf_6403c 24 = .ok (.astore_n 3, 1) := by decide +kernel
theorem dJ7_copyOf_6403c_25 : decode cJ7_copyOf_6403c 25 = .ok (.aload_n 0, 1) := by decide +kernel
theorem dJ7_copyOf_6403c_26 : decode cJ7_copyOf_6403c 26 = .ok (.iconst 0, 1) := by decide +kernel
theorem dJ7_copyOf_6403c_27 : decode cJ7_copyOf_6403c 27 = .ok (.aload_n 3, 1) := by decide +kernel
theorem dJ7_copyOf_6403c_28 : decode cJ7_copyOf_6403c 28 = .ok (.iconst 0, 1) := by decide +kernel
theorem dJ7_copyOf_6403c_29 : decode cJ7_copyOf_6403c 29 = .ok (.aload_n 0, 1) := by decide +kernel
theorem dJ7_copyOf_6403c_30 : decode cJ7_copyOf_6403c 30 = .ok (.arraylength, 1) := by decide +kernel
theorem dJ7_copyOf_6403c_31 : decode cJ7_copyOf_6403c 31 = .ok (.iload_n 1, 1) := by decide +kernel
theorem dJ7_copyOf_6403c_32 : decode cJ7_copyOf_6403c 32 = .ok (.invokestatic 304, 3) := by decide +kernel
theorem dJ7_copyOf_6403c_35 : decode cJ7_copyOf_6403c 35 = .ok (.invokestatic 150, 3) := by decide +kernel
theorem dJ7_copyOf_6403c_38 : decode cJ7_copyOf_6403c 38 = .ok (.aload_n 3, 1) := by decide +kernel
theorem dJ7_copyOf_6403c_39 : decode cJ7_copyOf_6403c 39 = .ok (.areturn, 1) := by decide +kernel
theorem dJ15_checkIndex_7cf53_0 : decode cJ15_checkIndex_7cf53 0 = .ok (.iload_n 0, 1) := by decide +kernel
theorem dJ15_checkIndex_7cf53_1 : decode cJ15_checkIndex_7cf53 1 = .ok (.iload_n 1, 1) := by decide +kernel
theorem dJ15_checkIndex_7cf53_2 : decode cJ15_checkIndex_7cf53 2 = .ok (.aconst_null, 1) := by decide +kernel
theorem dJ15_checkIndex_7cf53_3 : decode cJ15_checkIndex_7cf53 3 = .ok (.invokestatic 105, 3) := by decide +kernel
theorem dJ15_checkIndex_7cf53_6 : decode cJ15_checkIndex_7cf53 6 = .ok (.ireturn, 1) := by decide +kernel
theorem dJ8_newLength_cabcc_0 : decode cJ8_newLength_cabcc 0 = .ok (.iload_n 0, 1) := by decide +kernel
theorem dJ8_newLength_cabcc_1 : decode cJ8_newLength_cabcc 1 = .ok (.iload_n 1, 1) := by decide +kernel
theorem dJ8_newLength_cabcc_2 : decode cJ8_newLength_cabcc 2 = .ok (.iload_n 2, 1) := by decide +kernel
theorem dJ8_newLength_cabcc_3 : decode cJ8_newLength_cabcc 3 = .ok (.invokestatic 194, 3) := by decide +kernel
theorem dJ8_newLength_cabcc_6 : decode cJ8_newLength_cabcc 6 = .ok (.iadd, 1) := by decide +kernel
theorem dJ8_newLength_cabcc_7 : decode cJ8_newLength_cabcc 7 = .ok (.istore_n 3, 1) := by decide +kernel
theorem dJ8_newLength_cabcc_8 : decode cJ8_newLength_cabcc 8 = .ok (.iconst 0, 1) := by decide +kernel
theorem dJ8_newLength_cabcc_9 : decode cJ8_newLength_cabcc 9 = .ok (.iload_n 3, 1) := by decide +kernel
theorem dJ8_newLength_cabcc_10 : decode cJ8_newLength_cabcc 10 = .ok (.if_icmp .ge 11, 3) := by decide +kernel
theorem dJ8_newLength_cabcc_13 : decode cJ8_newLength_cabcc 13 = .ok (.iload_n 3, 1) := by decide +kernel
theorem dJ8_newLength_cabcc_14 : decode cJ8_newLength_cabcc 14 = .ok (.ldc 200, 2) := by decide +kernel
theorem dJ8_newLength_cabcc_16 : decode cJ8_newLength_cabcc 16 = .ok (.if_icmp .gt 5, 3) := by decide +kernel
theorem dJ8_newLength_cabcc_19 : decode cJ8_newLength_cabcc 19 = .ok (.iload_n 3, 1) := by decide +kernel
theorem dJ8_newLength_cabcc_20 : decode cJ8_newLength_cabcc 20 = .ok (.ireturn, 1) := by decide +kernel
theorem dJ8_newLength_cabcc_21 : decode cJ8_newLength_cabcc 21 = .ok (.iload_n 0, 1) := by decide +kernel
theorem dJ8_newLength_cabcc_22 : decode cJ8_newLength_cabcc 22 = .ok (.iload_n 1, 1) := by decide +kernel
theorem dJ8_newLength_cabcc_23 : decode cJ8_newLength_cabcc 23 = .ok (.invokestatic 201, 3) := by decide +kernel
theorem dJ8_newLength_cabcc_26 : decode cJ8_newLength_cabcc 26 = .ok (.ireturn, 1) := by decide +kernel
theorem dJ8_hugeLength_7cf53_0 : decode cJ8_hugeLength_7cf53 0 = .ok (.iload_n 0, 1) := by decide +kernel
theorem dJ8_hugeLength_7cf53_1 : decode cJ8_hugeLength_7cf53 1 = .ok (.iload_n 1, 1) := by decide +kernel
theorem dJ8_hugeLength_7cf53_2 : decode cJ8_hugeLength_7cf53 2 = .ok (.iadd, 1) := by decide +kernel
theorem dJ8_hugeLength_7cf53_3 : decode cJ8_hugeLength_7cf53 3 = .ok (.istore_n 2, 1) := by decide +kernel
theorem dJ8_hugeLength_7cf53_4 : decode cJ8_hugeLength_7cf53 4 = .ok (.iload_n 2, 1) := by decide +kernel
theorem dJ8_hugeLength_7cf53_5 : decode cJ8_hugeLength_7cf53 5 = .ok (.ifCond .ge 44, 3) := by decide +kernel
theorem dJ8_hugeLength_7cf53_8 : decode cJ8_hugeLength_7cf53 8 = .ok (.new 204, 3) := by decide +kernel
theorem dJ8_hugeLength_7cf53_11 : decode cJ8_hugeLength_7cf53 11 = .ok (.dup, 1) := by decide +kernel
theorem dJ8_hugeLength_7cf53_12 : decode cJ8_hugeLength_7cf53 12 = .ok (.new 89, 3) := by decide +kernel
theorem dJ8_hugeLength_7cf53_15 : decode cJ8_hugeLength_7cf53 15 = .ok (.dup, 1) := by decide +kernel
theorem dJ8_hugeLength_7cf53_16 : decode cJ8_hugeLength_7cf53 16 = .ok (.invokespecial 91, 3) := by decide +kernel
theorem dJ8_hugeLength_7cf53_19 : decode cJ8_hugeLength_7cf53 19 = .ok (.ldc 206, 2) := by decide +kernel
theorem dJ8_hugeLength_7cf53_21 : decode cJ8_hugeLength_7cf53 21 = .ok (.invokevirtual 94, 3) := by decide +kernel
theorem dJ8_hugeLength_7cf53_24 : decode cJ8_hugeLength_7cf53 24 = .ok (.iload_n 0, 1) := by decide +kernel
theorem dJ8_hugeLength_7cf53_25 : decode cJ8_hugeLength_7cf53 25 = .ok (.invokevirtual 98, 3) := by decide +kernel
theorem dJ8_hugeLength_7cf53_28 : decode cJ8_hugeLength_7cf53 28 = .ok (.ldc 208, 2) := by decide +kernel
theorem dJ8_hugeLength_7cf53_30 : decode cJ8_hugeLength_7cf53 30 = .ok (.invokevirtual 94, 3) := by decide +kernel
theorem dJ8_hugeLength_7cf53_33 : decode cJ8_hugeLength_7cf53 33 = .ok (.iload_n 1, 1) := by decide +kernel
theorem dJ8_hugeLength_7cf53_34 : decode cJ8_hugeLength_7cf53 34 = .ok (.invokevirtual 98, 3) := by decide +kernel
theorem dJ8_hugeLength_7cf53_37 : decode cJ8_hugeLength_7cf53 37 = .ok (.ldc 210, 2) := by decide +kernel
theorem dJ8_hugeLength_7cf53_39 : decode cJ8_hugeLength_7cf53 39 = .ok (.invokevirtual 94, 3) := by decide +kernel
theorem dJ8_hugeLength_7cf53_42 : decode cJ8_hugeLength_7cf53 42 = .ok (.invokevirtual 101, 3) := by decide +kernel
theorem dJ8_hugeLength_7cf53_45 : decode cJ8_hugeLength_7cf53 45 = .ok (.invokespecial 212, 3) := by decide +kernel
theorem dJ8_hugeLength_7cf53_48 : decode cJ8_hugeLength_7cf53 48 = .ok (.athrow, 1) := by decide +kernel
theorem dJ8_hugeLength_7cf53_49 : decode cJ8_hugeLength_7cf53 49 = .ok (.iload_n 2, 1) := by decide +kernel
theorem dJ8_hugeLength_7cf53_50 : decode cJ8_hugeLength_7cf53 50 = .ok (.ldc 200, 2) := by decide +kernel
theorem dJ8_hugeLength_7cf53_52 : decode cJ8_hugeLength_7cf53 52 = .ok (.if_icmp .gt 6, 3) := by decide +kernel
theorem dJ8_hugeLength_7cf53_55 : decode cJ8_hugeLength_7cf53 55 = .ok (.ldc 200, 2) := by decide +kernel
theorem dJ8_hugeLength_7cf53_57 : decode cJ8_hugeLength_7cf53 57 = .ok (.ireturn, 1) := by decide +kernel
theorem dJ8_hugeLength_7cf53_58 : decode cJ8_hugeLength_7cf53 58 = .ok (.iload_n 2, 1) := by decide +kernel
theorem dJ8_hugeLength_7cf53_59 : decode cJ8_hugeLength_7cf53 59 = .ok (.ireturn, 1) := by decide +kernel
theorem dJ3_checkIndex_8e157_0 : decode cJ3_checkIndex_8e157 0 = .ok (.iload_n 0, 1) := by decide +kernel
theorem dJ3_checkIndex_8e157_1 : decode cJ3_checkIndex_8e157 1 = .ok (.ifCond .lt 8, 3) := by decide +kernel
theorem dJ3_checkIndex_8e157_4 : decode cJ3_checkIndex_8e157 4 = .ok (.iload_n 0, 1) := by decide +kernel
theorem dJ3_checkIndex_8e157_5 : decode cJ3_checkIndex_8e157 5 = .ok (.iload_n 1, 1) := by decide +kernel
theorem dJ3_checkIndex_8e157_6 : decode cJ3_checkIndex_8e157 6 = .ok (.if_icmp .lt 10, 3) := by decide +kernel
theorem dJ3_checkIndex_8e157_9 : decode cJ3_checkIndex_8e157 9 = .ok (.aload_n 2, 1) := by decide +kernel
theorem dJ3_checkIndex_8e157_10 : decode cJ3_checkIndex_8e157 10 = .ok (.iload_n 0, 1) := by decide +kernel
theorem dJ3_checkIndex_8e157_11 : decode cJ3_checkIndex_8e157 11 = .ok (.iload_n 1, 1) := by decide +kernel
theorem dJ3_checkIndex_8e157_12 : decode cJ3_checkIndex_8e157 12 = .ok (.invokestatic 95, 3) := by decide +kernel
theorem dJ3_checkIndex_8e157_15 : decode cJ3_checkIndex_8e157 15 = .ok (.athrow, 1) := by decide +kernel
theorem dJ3_checkIndex_8e157_16 : decode cJ3_checkIndex_8e157 16 = .ok (.iload_n 0, 1) := by decide +kernel
theorem dJ3_checkIndex_8e157_17 : decode cJ3_checkIndex_8e157 17 = .ok (.ireturn, 1) := by decide +kernel
end
section
theorem dX6_init_0 : decode cX6_init 0 = .ok (.aload_n 0, 1) := by decide +kernel
theorem dX6_init_1 : decode cX6_init 1 = .ok (.invokespecial 1, 3) := by decide +kernel
theorem dX6_init_4 : decode cX6_init 4 = .ok (.aload_n 0, 1) := by decide +kernel
theorem dX6_init_5 : decode cX6_init 5 = .ok (.bipush 24, 2) := by decide +kernel
theorem dX6_init_7 : decode cX6_init 7 = .ok (.putfield 7, 3) := by decide +kernel
theorem dX6_init_10 : decode cX6_init 10 = .ok (.aload_n 0, 1) := by decide +kernel
theorem dX6_init_11 : decode cX6_init 11 = .ok (.iconst 4, 1) := by decide +kernel
theorem dX6_init_12 : decode cX6_init 12 = .ok (.newarray .int, 2) := by decide +kernel
theorem dX6_init_14 : decode cX6_init 14 = .ok (.putfield 13, 3) := by decide +kernel
theorem dX6_init_17 : decode cX6_init 17 = .ok (.aload_n 0, 1) := by decide +kernel
theorem dX6_init_18 : decode cX6_init 18 = .ok (.iconst 4, 1) := by decide +kernel
theorem dX6_init_19 : decode cX6_init 19 = .ok (.newarray .int, 2) := by decide +kernel
theorem dX6_init_21 : decode cX6_init 21 = .ok (.putfield 17, 3) := by decide +kernel
theorem dX6_init_24 : decode cX6_init 24 = .ok (.aload_n 0, 1) := by decide +kernel
theorem dX6_init_25 : decode cX6_init 25 = .ok (.bipush 40, 2) := by decide +kernel
theorem dX6_init_27 : decode cX6_init 27 = .ok (.newarray .int, 2) := by decide +kernel
theorem dX6_init_29 : decode cX6_init 29 = .ok (.putfield 20, 3) := by decide +kernel
theorem dX6_init_32 : decode cX6_init 32 = .ok (.aload_n 0, 1) := by decide +kernel
theorem dX6_init_33 : decode cX6_init 33 = .ok (.bipush 40, 2) := by decide +kernel
theorem dX6_init_35 : decode cX6_init 35 = .ok (.newarray .int, 2) := by decide +kernel
theorem dX6_init_37 : decode cX6_init 37 = .ok (.putfield 23, 3) := by decide +kernel
theorem dX6_init_40 : decode cX6_init 40 = .ok (.aload_n 0, 1) := by decide +kernel
theorem dX6_init_41 : decode cX6_init 41 = .ok (.bipush 40, 2) := by decide +kernel
theorem dX6_init_43 : decode cX6_init 43 = .ok (.newarray .int, 2) := by decide +kernel
theorem dX6_init_45 : decode cX6_init 45 = .ok (.putfield 26, 3) := by decide +kernel
theorem dX6_init_48 : decode cX6_init 48 = .ok (.aload_n 0, 1) := by decide +kernel
theorem dX6_init_49 : decode cX6_init 49 = .ok (.bipush 40, 2) := by decide +kernel
theorem dX6_init_51 : decode cX6_init 51 = .ok (.newarray .int, 2) := by decide +kernel
theorem dX6_init_53 : decode cX6_init 53 = .ok (.putfield 29, 3) := by decide +kernel
theorem dX6_init_56 : decode cX6_init 56 = .ok (.aload_n 0, 1) := by decide +kernel
theorem dX6_init_57 : decode cX6_init 57 = .ok (.bipush 40, 2) := by decide +kernel
theorem dX6_init_59 : decode cX6_init 59 = .ok (.newarray .int, 2) := by decide +kernel
theorem dX6_init_61 : decode cX6_init 61 = .ok (.putfield 32, 3) := by decide +kernel
theorem dX6_init_64 : decode cX6_init 64 = .ok (.aload_n 0, 1) := by decide +kernel
theorem dX6_init_65 : decode cX6_init 65 = .ok (.sipush 160, 3) := by decide +kernel
theorem dX6_init_68 : decode cX6_init 68 = .ok (.newarray .int, 2) := by decide +kernel
theorem dX6_init_70 : decode cX6_init 70 = .ok (.putfield 35, 3) := by decide +kernel
theorem dX6_init_73 : decode cX6_init 73 = .ok (.aload_n 0, 1) := by decide +kernel
theorem dX6_init_74 : decode cX6_init 74 = .ok (.bipush 20, 2) := by decide +kernel
theorem dX6_init_76 : decode cX6_init 76 = .ok (.newarray .int, 2) := by decide +kernel
theorem dX6_init_78 : decode cX6_init 78 = .ok (.putfield 38, 3) := by decide +kernel
theorem dX6_init_81 : decode cX6_init 81 = .ok (.aload_n 0, 1) := by decide +kernel
theorem dX6_init_82 : decode cX6_init 82 = .ok (.bipush 120, 2) := by decide +kernel
theorem dX6_init_84 : decode cX6_init 84 = .ok (.newarray .long, 2) := by decide +kernel
theorem dX6_init_86 : decode cX6_init 86 = .ok (.putfield 41, 3) := by decide +kernel
theorem dX6_init_89 : decode cX6_init 89 = .ok (.aload_n 0, 1) := by decide +kernel
theorem dX6_init_90 : decode cX6_init 90 = .ok (.bipush 120, 2) := by decide +kernel
theorem dX6_init_92 : decode cX6_init 92 = .ok (.newarray .int, 2) := by decide +kernel
theorem dX6_init_94 : decode cX6_init 94 = .ok (.putfield 45, 3) := by decide +kernel
theorem dX6_init_97 : decode cX6_init 97 = .ok (.aload_n 0, 1) := by decide +kernel
theorem dX6_init_98 : decode cX6_init 98 = .ok (.bipush 20, 2) := by decide +kernel
theorem dX6_init_100 : decode cX6_init 100 = .ok (.newarray .int, 2) := by decide +kernel
theorem dX6_init_102 : decode cX6_init 102 = .ok (.putfield 48, 3) := by decide +kernel
theorem dX6_init_105 : decode cX6_init 105 = .ok (.aload_n 0, 1) := by decide +kernel
theorem dX6_init_106 : decode cX6_init 106 = .ok (.bipush 16, 2) := by decide +kernel
theorem dX6_init_108 : decode cX6_init 108 = .ok (.newarray .int, 2) := by decide +kernel
theorem dX6_init_110 : decode cX6_init 110 = .ok (.putfield 51, 3) := by decide +kernel
theorem dX6_init_113 : decode cX6_init 113 = .ok (.aload_n 0, 1) := by decide +kernel
theorem dX6_init_114 : decode cX6_init 114 = .ok (.bipush 16, 2) := by decide +kernel
theorem dX6_init_116 : decode cX6_init 116 = .ok (.newarray .int, 2) := by decide +kernel
theorem dX6_init_118 : decode cX6_init 118 = .ok (.putfield 54, 3) := by decide +kernel
theorem dX6_init_121 : decode cX6_init 121 = .ok (.aload_n 0, 1) := by decide +kernel
theorem dX6_init_122 : decode cX6_init 122 = .ok (.bipush 16, 2) := by decide +kernel
theorem dX6_init_124 : decode cX6_init 124 = .ok (.newarray .int, 2) := by decide +kernel
theorem dX6_init_126 : decode cX6_init 126 = .ok (.putfield 57, 3) := by decide +kernel
theorem dX6_init_129 : decode cX6_init 129 = .ok (.aload_n 0, 1) := by decide +kernel
theorem dX6_init_130 : decode cX6_init 130 = .ok (.bipush 16, 2) := by decide +kernel
theorem dX6_init_132 : decode cX6_init 132 = .ok (.newarray .int, 2) := by decide +kernel
theorem dX6_init_134 : decode cX6_init 134 = .ok (.putfield 60, 3) := by decide +kernel
theorem dX6_init_137 : decode cX6_init 137 = .ok (.aload_n 0, 1) := by decide +kernel
theorem dX6_init_138 : decode cX6_init 138 = .ok (.bipush 16, 2) := by decide +kernel
theorem dX6_init_140 : decode cX6_init 140 = .ok (.newarray .boolean, 2) := by decide +kernel
theorem dX6_init_142 : decode cX6_init 142 = .ok (.putfield 63, 3) := by decide +kernel
theorem dX6_init_145 : decode cX6_init 145 = .ok (.return_, 1) := by decide +kernel
theorem dX6_thrown_0 : decode cX6_thrown 0 = .ok (.aload_n 0, 1) := by decide +kernel
theorem dX6_thrown_1 : decode cX6_thrown 1 = .ok (.getfield 67, 3) := by decide +kernel
theorem dX6_thrown_4 : decode cX6_thrown 4 = .ok (.ireturn, 1) := by decide +kernel
theorem dX6_fails_0 : decode cX6_fails 0 = .ok (.aload_n 0, 1) := by decide +kernel
theorem dX6_fails_1 : decode cX6_fails 1 = .ok (.iload_n 1, 1) := by decide +kernel
theorem dX6_fails_2 : decode cX6_fails 2 = .ok (.putfield 67, 3) := by decide +kernel
theorem dX6_fails_5 : decode cX6_fails 5 = .ok (.iload_n 1, 1) := by decide +kernel
theorem dX6_fails_6 : decode cX6_fails 6 = .ok (.ifCond .le 7, 3) := by decide +kernel
theorem dX6_fails_9 : decode cX6_fails 9 = .ok (.iconst 1, 1) := by decide +kernel
theorem dX6_fails_10 : decode cX6_fails 10 = .ok (.goto 4, 3) := by decide +kernel
theorem dX6_fails_13 : decode cX6_fails 13 = .ok (.iconst 0, 1) := by decide +kernel
theorem dX6_fails_14 : decode cX6_fails 14 = .ok (.ireturn, 1) := by decide +kernel
theorem dX6_in_0 : decode cX6_in 0 = .ok (.iload_n 0, 1) := by decide +kernel
theorem dX6_in_1 : decode cX6_in 1 = .ok (.iload_n 1, 1) := by decide +kernel
theorem dX6_in_2 : decode cX6_in 2 = .ok (.if_icmp .lt 12, 3) := by decide +kernel
theorem dX6_in_5 : decode cX6_in 5 = .ok (.iload_n 0, 1) := by decide +kernel
theorem dX6_in_6 : decode cX6_in 6 = .ok (.iload_n 2, 1) := by decide +kernel
theorem dX6_in_7 : decode cX6_in 7 = .ok (.if_icmp .gt 7, 3) := by decide +kernel
theorem dX6_in_10 : decode cX6_in 10 = .ok (.iconst 1, 1) := by decide +kernel
theorem dX6_in_11 : decode cX6_in 11 = .ok (.goto 4, 3) := by decide +kernel
theorem dX6_in_14 : decode cX6_in 14 = .ok (.iconst 0, 1) := by decide +kernel
theorem dX6_in_15 : decode cX6_in 15 = .ok (.ireturn, 1) := by decide +kernel
theorem dX6_isRoom_0 : decode cX6_isRoom 0 = .ok (.iload_n 1, 1) := by decide +kernel
theorem dX6_isRoom_1 : decode cX6_isRoom 1 = .ok (.iconst 0, 1) := by decide +kernel
theorem dX6_isRoom_2 : decode cX6_isRoom 2 = .ok (.aload_n 0, 1) := by decide +kernel
theorem dX6_isRoom_3 : decode cX6_isRoom 3 = .ok (.getfield 70, 3) := by decide +kernel
theorem dX6_isRoom_6 : decode cX6_isRoom 6 = .ok (.iconst 1, 1) := by decide +kernel
theorem dX6_isRoom_7 : decode cX6_isRoom 7 = .ok (.isub, 1) := by decide +kernel
theorem dX6_isRoom_8 : decode cX6_isRoom 8 = .ok (.invokestatic 73, 3) := by decide +kernel
theorem dX6_isRoom_11 : decode cX6_isRoom 11 = .ok (.ireturn, 1) := by decide +kernel
theorem dX6_failsRoom_0 : decode cX6_failsRoom 0 = .ok (.aload_n 0, 1) := by decide +kernel
theorem dX6_failsRoom_1 : decode cX6_failsRoom 1 = .ok (.aload_n 0, 1) := by decide +kernel
theorem dX6_failsRoom_2 : decode cX6_failsRoom 2 = .ok (.iload_n 1, 1) := by decide +kernel
theorem dX6_failsRoom_3 : decode cX6_failsRoom 3 = .ok (.invokevirtual 77, 3) := by decide +kernel
theorem dX6_failsRoom_6 : decode cX6_failsRoom 6 = .ok (.ifCond .eq 7, 3) := by decide +kernel
theorem dX6_failsRoom_9 : decode cX6_failsRoom 9 = .ok (.iconst 0, 1) := by decide +kernel
theorem dX6_failsRoom_10 : decode cX6_failsRoom 10 = .ok (.goto 4, 3) := by decide +kernel
theorem dX6_failsRoom_13 : decode cX6_failsRoom 13 = .ok (.iconst 1, 1) := by decide +kernel
theorem dX6_failsRoom_14 : decode cX6_failsRoom 14 = .ok (.invokevirtual 81, 3) := by decide +kernel
theorem dX6_failsRoom_17 : decode cX6_failsRoom 17 = .ok (.ireturn, 1) := by decide +kernel
theorem dX6_failsAnswer_0 : decode cX6_failsAnswer 0 = .ok (.aload_n 0, 1) := by decide +kernel
theorem dX6_failsAnswer_1 : decode cX6_failsAnswer 1 = .ok (.iload_n 1, 1) := by decide +kernel
theorem dX6_failsAnswer_2 : decode cX6_failsAnswer 2 = .ok (.iconst 0, 1) := by decide +kernel
theorem dX6_failsAnswer_3 : decode cX6_failsAnswer 3 = .ok (.aload_n 0, 1) := by decide +kernel
theorem dX6_failsAnswer_4 : decode cX6_failsAnswer 4 = .ok (.getfield 84, 3) := by decide +kernel
theorem dX6_failsAnswer_7 : decode cX6_failsAnswer 7 = .ok (.iconst 1, 1) := by decide +kernel
theorem dX6_failsAnswer_8 : decode cX6_failsAnswer 8 = .ok (.isub, 1) := by decide +kernel
theorem dX6_failsAnswer_9 : decode cX6_failsAnswer 9 = .ok (.invokestatic 73, 3) := by decide +kernel
theorem dX6_failsAnswer_12 : decode cX6_failsAnswer 12 = .ok (.ifCond .eq 7, 3) := by decide +kernel
theorem dX6_failsAnswer_15 : decode cX6_failsAnswer 15 = .ok (.iconst 0, 1) := by decide +kernel
theorem dX6_failsAnswer_16 : decode cX6_failsAnswer 16 = .ok (.goto 4, 3) := by decide +kernel
theorem dX6_failsAnswer_19 : decode cX6_failsAnswer 19 = .ok (.iconst 1, 1) := by decide +kernel
theorem dX6_failsAnswer_20 : decode cX6_failsAnswer 20 = .ok (.invokevirtual 81, 3) := by decide +kernel
theorem dX6_failsAnswer_23 : decode cX6_failsAnswer 23 = .ok (.ireturn, 1) := by decide +kernel
theorem dX6_failsFilter_0 : decode cX6_failsFilter 0 = .ok (.aload_n 0, 1) := by decide +kernel
theorem dX6_failsFilter_1 : decode cX6_failsFilter 1 = .ok (.iload_n 1, 1) := by decide +kernel
theorem dX6_failsFilter_2 : decode cX6_failsFilter 2 = .ok (.iconst 0, 1) := by decide +kernel
theorem dX6_failsFilter_3 : decode cX6_failsFilter 3 = .ok (.aload_n 0, 1) := by decide +kernel
theorem dX6_failsFilter_4 : decode cX6_failsFilter 4 = .ok (.getfield 87, 3) := by decide +kernel
theorem dX6_failsFilter_7 : decode cX6_failsFilter 7 = .ok (.iconst 1, 1) := by decide +kernel
theorem dX6_failsFilter_8 : decode cX6_failsFilter 8 = .ok (.isub, 1) := by decide +kernel
theorem dX6_failsFilter_9 : decode cX6_failsFilter 9 = .ok (.invokestatic 73, 3) := by decide +kernel
theorem dX6_failsFilter_12 : decode cX6_failsFilter 12 = .ok (.ifCond .eq 7, 3) := by decide +kernel
theorem dX6_failsFilter_15 : decode cX6_failsFilter 15 = .ok (.iconst 0, 1) := by decide +kernel
theorem dX6_failsFilter_16 : decode cX6_failsFilter 16 = .ok (.goto 4, 3) := by decide +kernel
theorem dX6_failsFilter_19 : decode cX6_failsFilter 19 = .ok (.iconst 1, 1) := by decide +kernel
theorem dX6_failsFilter_20 : decode cX6_failsFilter 20 = .ok (.invokevirtual 81, 3) := by decide +kernel
theorem dX6_failsFilter_23 : decode cX6_failsFilter 23 = .ok (.ireturn, 1) := by decide +kernel
theorem dX6_isState_0 : decode cX6_isState 0 = .ok (.iload_n 0, 1) := by decide +kernel
theorem dX6_isState_1 : decode cX6_isState 1 = .ok (.iconst 0, 1) := by decide +kernel
theorem dX6_isState_2 : decode cX6_isState 2 = .ok (.iconst 3, 1) := by decide +kernel
theorem dX6_isState_3 : decode cX6_isState 3 = .ok (.invokestatic 73, 3) := by decide +kernel
theorem dX6_isState_6 : decode cX6_isState 6 = .ok (.ifCond .eq 17, 3) := by decide +kernel
theorem dX6_isState_9 : decode cX6_isState 9 = .ok (.iload_n 1, 1) := by decide +kernel
theorem dX6_isState_10 : decode cX6_isState 10 = .ok (.iconst 0, 1) := by decide +kernel
theorem dX6_isState_11 : decode cX6_isState 11 = .ok (.bipush 9, 2) := by decide +kernel
theorem dX6_isState_13 : decode cX6_isState 13 = .ok (.invokestatic 73, 3) := by decide +kernel
theorem dX6_isState_16 : decode cX6_isState 16 = .ok (.ifCond .eq 7, 3) := by decide +kernel
theorem dX6_isState_19 : decode cX6_isState 19 = .ok (.iconst 1, 1) := by decide +kernel
theorem dX6_isState_20 : decode cX6_isState 20 = .ok (.goto 4, 3) := by decide +kernel
theorem dX6_isState_23 : decode cX6_isState 23 = .ok (.iconst 0, 1) := by decide +kernel
theorem dX6_isState_24 : decode cX6_isState 24 = .ok (.ireturn, 1) := by decide +kernel
theorem dX6_state_0 : decode cX6_state 0 = .ok (.bipush 20, 2) := by decide +kernel
theorem dX6_state_2 : decode cX6_state 2 = .ok (.iload_n 0, 1) := by decide +kernel
theorem dX6_state_3 : decode cX6_state 3 = .ok (.imul, 1) := by decide +kernel
theorem dX6_state_4 : decode cX6_state 4 = .ok (.iconst 2, 1) := by decide +kernel
theorem dX6_state_5 : decode cX6_state 5 = .ok (.iload_n 1, 1) := by decide +kernel
theorem dX6_state_6 : decode cX6_state 6 = .ok (.imul, 1) := by decide +kernel
theorem dX6_state_7 : decode cX6_state 7 = .ok (.iadd, 1) := by decide +kernel
theorem dX6_state_8 : decode cX6_state 8 = .ok (.iload_n 2, 1) := by decide +kernel
theorem dX6_state_9 : decode cX6_state 9 = .ok (.ifCond .eq 7, 3) := by decide +kernel
theorem dX6_state_12 : decode cX6_state 12 = .ok (.iconst 1, 1) := by decide +kernel
theorem dX6_state_13 : decode cX6_state 13 = .ok (.goto 4, 3) := by decide +kernel
theorem dX6_state_16 : decode cX6_state 16 = .ok (.iconst 0, 1) := by decide +kernel
theorem dX6_state_17 : decode cX6_state 17 = .ok (.iadd, 1) := by decide +kernel
theorem dX6_state_18 : decode cX6_state 18 = .ok (.ireturn, 1) := by decide +kernel
theorem dX6_differ_0 : decode cX6_differ 0 = .ok (.iload_n 0, 1) := by decide +kernel
theorem dX6_differ_1 : decode cX6_differ 1 = .ok (.bipush 20, 2) := by decide +kernel
theorem dX6_differ_3 : decode cX6_differ 3 = .ok (.idiv, 1) := by decide +kernel
theorem dX6_differ_4 : decode cX6_differ 4 = .ok (.iload_n 1, 1) := by decide +kernel
theorem dX6_differ_5 : decode cX6_differ 5 = .ok (.bipush 20, 2) := by decide +kernel
theorem dX6_differ_7 : decode cX6_differ 7 = .ok (.idiv, 1) := by decide +kernel
theorem dX6_differ_8 : decode cX6_differ 8 = .ok (.if_icmp .ne 7, 3) := by decide +kernel
theorem dX6_differ_11 : decode cX6_differ 11 = .ok (.iconst 0, 1) := by decide +kernel
theorem dX6_differ_12 : decode cX6_differ 12 = .ok (.goto 4, 3) := by decide +kernel
theorem dX6_differ_15 : decode cX6_differ 15 = .ok (.iconst 1, 1) := by decide +kernel
theorem dX6_differ_16 : decode cX6_differ 16 = .ok (.istore_n 2, 1) := by decide +kernel
theorem dX6_differ_17 : decode cX6_differ 17 = .ok (.iload_n 2, 1) := by decide +kernel
theorem dX6_differ_18 : decode cX6_differ 18 = .ok (.iload_n 0, 1) := by decide +kernel
theorem dX6_differ_19 : decode cX6_differ 19 = .ok (.bipush 20, 2) := by decide +kernel
theorem dX6_differ_21 : decode cX6_differ 21 = .ok (.irem, 1) := by decide +kernel
theorem dX6_differ_22 : decode cX6_differ 22 = .ok (.iconst 2, 1) := by decide +kernel
theorem dX6_differ_23 : decode cX6_differ 23 = .ok (.idiv, 1) := by decide +kernel
theorem dX6_differ_24 : decode cX6_differ 24 = .ok (.iload_n 1, 1) := by decide +kernel
theorem dX6_differ_25 : decode cX6_differ 25 = .ok (.bipush 20, 2) := by decide +kernel
theorem dX6_differ_27 : decode cX6_differ 27 = .ok (.irem, 1) := by decide +kernel
theorem dX6_differ_28 : decode cX6_differ 28 = .ok (.iconst 2, 1) := by decide +kernel
theorem dX6_differ_29 : decode cX6_differ 29 = .ok (.idiv, 1) := by decide +kernel
theorem dX6_differ_30 : decode cX6_differ 30 = .ok (.if_icmp .ne 7, 3) := by decide +kernel
theorem dX6_differ_33 : decode cX6_differ 33 = .ok (.iconst 0, 1) := by decide +kernel
theorem dX6_differ_34 : decode cX6_differ 34 = .ok (.goto 4, 3) := by decide +kernel
theorem dX6_differ_37 : decode cX6_differ 37 = .ok (.iconst 1, 1) := by decide +kernel
theorem dX6_differ_38 : decode cX6_differ 38 = .ok (.iadd, 1) := by decide +kernel
theorem dX6_differ_39 : decode cX6_differ 39 = .ok (.istore_n 2, 1) := by decide +kernel
theorem dX6_differ_40 : decode cX6_differ 40 = .ok (.iload_n 2, 1) := by decide +kernel
theorem dX6_differ_41 : decode cX6_differ 41 = .ok (.iload_n 0, 1) := by decide +kernel
theorem dX6_differ_42 : decode cX6_differ 42 = .ok (.iconst 2, 1) := by decide +kernel
theorem dX6_differ_43 : decode cX6_differ 43 = .ok (.irem, 1) := by decide +kernel
theorem dX6_differ_44 : decode cX6_differ 44 = .ok (.iload_n 1, 1) := by decide +kernel
theorem dX6_differ_45 : decode cX6_differ 45 = .ok (.iconst 2, 1) := by decide +kernel
theorem dX6_differ_46 : decode cX6_differ 46 = .ok (.irem, 1) := by decide +kernel
theorem dX6_differ_47 : decode cX6_differ 47 = .ok (.if_icmp .ne 7, 3) := by decide +kernel
theorem dX6_differ_50 : decode cX6_differ 50 = .ok (.iconst 0, 1) := by decide +kernel
theorem dX6_differ_51 : decode cX6_differ 51 = .ok (.goto 4, 3) := by decide +kernel
theorem dX6_differ_54 : decode cX6_differ 54 = .ok (.iconst 1, 1) := by decide +kernel
theorem dX6_differ_55 : decode cX6_differ 55 = .ok (.iadd, 1) := by decide +kernel
theorem dX6_differ_56 : decode cX6_differ 56 = .ok (.ireturn, 1) := by decide +kernel
theorem dX6_addRoom_0 : decode cX6_addRoom 0 = .ok (.aload_n 0, 1) := by decide +kernel
theorem dX6_addRoom_1 : decode cX6_addRoom 1 = .ok (.aload_n 0, 1) := by decide +kernel
theorem dX6_addRoom_2 : decode cX6_addRoom 2 = .ok (.getfield 70, 3) := by decide +kernel
theorem dX6_addRoom_5 : decode cX6_addRoom 5 = .ok (.iconst 4, 1) := by decide +kernel
theorem dX6_addRoom_6 : decode cX6_addRoom 6 = .ok (.if_icmp .ne 7, 3) := by decide +kernel
theorem dX6_addRoom_9 : decode cX6_addRoom 9 = .ok (.iconst 1, 1) := by decide +kernel
theorem dX6_addRoom_10 : decode cX6_addRoom 10 = .ok (.goto 4, 3) := by decide +kernel
theorem dX6_addRoom_13 : decode cX6_addRoom 13 = .ok (.iconst 0, 1) := by decide +kernel
theorem dX6_addRoom_14 : decode cX6_addRoom 14 = .ok (.invokevirtual 81, 3) := by decide +kernel
theorem dX6_addRoom_17 : decode cX6_addRoom 17 = .ok (.ifCond .eq 5, 3) := by decide +kernel
theorem dX6_addRoom_20 : decode cX6_addRoom 20 = .ok (.iconst 0, 1) := by decide +kernel
theorem dX6_addRoom_21 : decode cX6_addRoom 21 = .ok (.ireturn, 1) := by decide +kernel
theorem dX6_addRoom_22 : decode cX6_addRoom 22 = .ok (.aload_n 0, 1) := by decide +kernel
theorem dX6_addRoom_23 : decode cX6_addRoom 23 = .ok (.dup, 1) := by decide +kernel
theorem dX6_addRoom_24 : decode cX6_addRoom 24 = .ok (.getfield 70, 3) := by decide +kernel
theorem dX6_addRoom_27 : decode cX6_addRoom 27 = .ok (.iconst 1, 1) := by decide +kernel
theorem dX6_addRoom_28 : decode cX6_addRoom 28 = .ok (.iadd, 1) := by decide +kernel
theorem dX6_addRoom_29 : decode cX6_addRoom 29 = .ok (.putfield 70, 3) := by decide +kernel
theorem dX6_addRoom_32 : decode cX6_addRoom 32 = .ok (.aload_n 0, 1) := by decide +kernel
theorem dX6_addRoom_33 : decode cX6_addRoom 33 = .ok (.getfield 70, 3) := by decide +kernel
theorem dX6_addRoom_36 : decode cX6_addRoom 36 = .ok (.iconst 1, 1) := by decide +kernel
theorem dX6_addRoom_37 : decode cX6_addRoom 37 = .ok (.isub, 1) := by decide +kernel
theorem dX6_addRoom_38 : decode cX6_addRoom 38 = .ok (.ireturn, 1) := by decide +kernel
theorem dX6_gives_0 : decode cX6_gives 0 = .ok (.aload_n 0, 1) := by decide +kernel
theorem dX6_gives_1 : decode cX6_gives 1 = .ok (.getfield 13, 3) := by decide +kernel
theorem dX6_gives_4 : decode cX6_gives 4 = .ok (.iload_n 1, 1) := by decide +kernel
theorem dX6_gives_5 : decode cX6_gives 5 = .ok (.iaload, 1) := by decide +kernel
theorem dX6_gives_6 : decode cX6_gives 6 = .ok (.iload_n 2, 1) := by decide +kernel
theorem dX6_gives_7 : decode cX6_gives 7 = .ok (.invokestatic 90, 3) := by decide +kernel
theorem dX6_gives_10 : decode cX6_gives 10 = .ok (.istore_n 3, 1) := by decide +kernel
theorem dX6_gives_11 : decode cX6_gives 11 = .ok (.aload_n 0, 1) := by decide +kernel
theorem dX6_gives_12 : decode cX6_gives 12 = .ok (.getfield 13, 3) := by decide +kernel
theorem dX6_gives_15 : decode cX6_gives 15 = .ok (.iload_n 1, 1) := by decide +kernel
theorem dX6_gives_16 : decode cX6_gives 16 = .ok (.iload_n 2, 1) := by decide +kernel
theorem dX6_gives_17 : decode cX6_gives 17 = .ok (.iastore, 1) := by decide +kernel
theorem dX6_gives_18 : decode cX6_gives 18 = .ok (.aload_n 0, 1) := by decide +kernel
theorem dX6_gives_19 : decode cX6_gives 19 = .ok (.getfield 17, 3) := by decide +kernel
theorem dX6_gives_22 : decode cX6_gives 22 = .ok (.iload_n 1, 1) := by decide +kernel
theorem dX6_gives_23 : decode cX6_gives 23 = .ok (.dup2, 1) := by decide +kernel
theorem dX6_gives_24 : decode cX6_gives 24 = .ok (.iaload, 1) := by decide +kernel
theorem dX6_gives_25 : decode cX6_gives 25 = .ok (.iload_n 3, 1) := by decide +kernel
theorem dX6_gives_26 : decode cX6_gives 26 = .ok (.iadd, 1) := by decide +kernel
theorem dX6_gives_27 : decode cX6_gives 27 = .ok (.iastore, 1) := by decide +kernel
theorem dX6_gives_28 : decode cX6_gives 28 = .ok (.iload_n 3, 1) := by decide +kernel
theorem dX6_gives_29 : decode cX6_gives 29 = .ok (.ireturn, 1) := by decide +kernel
theorem dX6_setState_0 : decode cX6_setState 0 = .ok (.aload_n 0, 1) := by decide +kernel
theorem dX6_setState_1 : decode cX6_setState 1 = .ok (.aload_n 0, 1) := by decide +kernel
theorem dX6_setState_2 : decode cX6_setState 2 = .ok (.iload_n 1, 1) := by decide +kernel
theorem dX6_setState_3 : decode cX6_setState 3 = .ok (.invokevirtual 77, 3) := by decide +kernel
theorem dX6_setState_6 : decode cX6_setState 6 = .ok (.ifCond .ne 7, 3) := by decide +kernel
theorem dX6_setState_9 : decode cX6_setState 9 = .ok (.iconst 1, 1) := by decide +kernel
theorem dX6_setState_10 : decode cX6_setState 10 = .ok (.goto 16, 3) := by decide +kernel
theorem dX6_setState_13 : decode cX6_setState 13 = .ok (.iload_n 2, 1) := by decide +kernel
theorem dX6_setState_14 : decode cX6_setState 14 = .ok (.iload_n 3, 1) := by decide +kernel
theorem dX6_setState_15 : decode cX6_setState 15 = .ok (.invokestatic 94, 3) := by decide +kernel
theorem dX6_setState_18 : decode cX6_setState 18 = .ok (.ifCond .eq 7, 3) := by decide +kernel
theorem dX6_setState_21 : decode cX6_setState 21 = .ok (.iconst 0, 1) := by decide +kernel
theorem dX6_setState_22 : decode cX6_setState 22 = .ok (.goto 4, 3) := by decide +kernel
theorem dX6_setState_25 : decode cX6_setState 25 = .ok (.iconst 2, 1) := by decide +kernel
theorem dX6_setState_26 : decode cX6_setState 26 = .ok (.invokevirtual 81, 3) := by decide +kernel
theorem dX6_setState_29 : decode cX6_setState 29 = .ok (.ifCond .eq 5, 3) := by decide +kernel
theorem dX6_setState_32 : decode cX6_setState 32 = .ok (.iconst 0, 1) := by decide +kernel
theorem dX6_setState_33 : decode cX6_setState 33 = .ok (.ireturn, 1) := by decide +kernel
theorem dX6_setState_34 : decode cX6_setState 34 = .ok (.aload_n 0, 1) := by decide +kernel
theorem dX6_setState_35 : decode cX6_setState 35 = .ok (.iload_n 1, 1) := by decide +kernel
theorem dX6_setState_36 : decode cX6_setState 36 = .ok (.iload_n 2, 1) := by decide +kernel
theorem dX6_setState_37 : decode cX6_setState 37 = .ok (.iload_n 3, 1) := by decide +kernel
theorem dX6_setState_38 : decode cX6_setState 38 = .ok (.iload 4, 2) := by decide +kernel
theorem dX6_setState_40 : decode cX6_setState 40 = .ok (.invokestatic 98, 3) := by decide +kernel
theorem dX6_setState_43 : decode cX6_setState 43 = .ok (.invokevirtual 102, 3) := by decide +kernel
theorem dX6_setState_46 : decode cX6_setState 46 = .ok (.ireturn, 1) := by decide +kernel
theorem dX6_curtains_0 : decode cX6_curtains 0 = .ok (.aload_n 0, 1) := by decide +kernel
theorem dX6_curtains_1 : decode cX6_curtains 1 = .ok (.iload_n 1, 1) := by decide +kernel
theorem dX6_curtains_2 : decode cX6_curtains 2 = .ok (.invokevirtual 105, 3) := by decide +kernel
theorem dX6_curtains_5 : decode cX6_curtains 5 = .ok (.ifCond .eq 7, 3) := by decide +kernel
theorem dX6_curtains_8 : decode cX6_curtains 8 = .ok (.iconst 0, 1) := by decide +kernel
theorem dX6_curtains_9 : decode cX6_curtains 9 = .ok (.goto 12, 3) := by decide +kernel
theorem dX6_curtains_12 : decode cX6_curtains 12 = .ok (.aload_n 0, 1) := by decide +kernel
theorem dX6_curtains_13 : decode cX6_curtains 13 = .ok (.getfield 13, 3) := by decide +kernel
theorem dX6_curtains_16 : decode cX6_curtains 16 = .ok (.iload_n 1, 1) := by decide +kernel
theorem dX6_curtains_17 : decode cX6_curtains 17 = .ok (.iaload, 1) := by decide +kernel
theorem dX6_curtains_18 : decode cX6_curtains 18 = .ok (.bipush 20, 2) := by decide +kernel
theorem dX6_curtains_20 : decode cX6_curtains 20 = .ok (.idiv, 1) := by decide +kernel
theorem dX6_curtains_21 : decode cX6_curtains 21 = .ok (.ireturn, 1) := by decide +kernel
theorem dX6_seats_0 : decode cX6_seats 0 = .ok (.aload_n 0, 1) := by decide +kernel
theorem dX6_seats_1 : decode cX6_seats 1 = .ok (.iload_n 1, 1) := by decide +kernel
theorem dX6_seats_2 : decode cX6_seats 2 = .ok (.invokevirtual 105, 3) := by decide +kernel
theorem dX6_seats_5 : decode cX6_seats 5 = .ok (.ifCond .eq 7, 3) := by decide +kernel
theorem dX6_seats_8 : decode cX6_seats 8 = .ok (.iconst 0, 1) := by decide +kernel
theorem dX6_seats_9 : decode cX6_seats 9 = .ok (.goto 14, 3) := by decide +kernel
theorem dX6_seats_12 : decode cX6_seats 12 = .ok (.aload_n 0, 1) := by decide +kernel
theorem dX6_seats_13 : decode cX6_seats 13 = .ok (.getfield 13, 3) := by decide +kernel
theorem dX6_seats_16 : decode cX6_seats 16 = .ok (.iload_n 1, 1) := by decide +kernel
theorem dX6_seats_17 : decode cX6_seats 17 = .ok (.iaload, 1) := by decide +kernel
theorem dX6_seats_18 : decode cX6_seats 18 = .ok (.bipush 20, 2) := by decide +kernel
theorem dX6_seats_20 : decode cX6_seats 20 = .ok (.irem, 1) := by decide +kernel
theorem dX6_seats_21 : decode cX6_seats 21 = .ok (.iconst 2, 1) := by decide +kernel
theorem dX6_seats_22 : decode cX6_seats 22 = .ok (.idiv, 1) := by decide +kernel
theorem dX6_seats_23 : decode cX6_seats 23 = .ok (.ireturn, 1) := by decide +kernel
theorem dX6_areOpen_0 : decode cX6_areOpen 0 = .ok (.aload_n 0, 1) := by decide +kernel
theorem dX6_areOpen_1 : decode cX6_areOpen 1 = .ok (.iload_n 1, 1) := by decide +kernel
theorem dX6_areOpen_2 : decode cX6_areOpen 2 = .ok (.invokevirtual 105, 3) := by decide +kernel
theorem dX6_areOpen_5 : decode cX6_areOpen 5 = .ok (.ifCond .ne 19, 3) := by decide +kernel
theorem dX6_areOpen_8 : decode cX6_areOpen 8 = .ok (.aload_n 0, 1) := by decide +kernel
theorem dX6_areOpen_9 : decode cX6_areOpen 9 = .ok (.getfield 13, 3) := by decide +kernel
theorem dX6_areOpen_12 : decode cX6_areOpen 12 = .ok (.iload_n 1, 1) := by decide +kernel
theorem dX6_areOpen_13 : decode cX6_areOpen 13 = .ok (.iaload, 1) := by decide +kernel
theorem dX6_areOpen_14 : decode cX6_areOpen 14 = .ok (.iconst 2, 1) := by decide +kernel
theorem dX6_areOpen_15 : decode cX6_areOpen 15 = .ok (.irem, 1) := by decide +kernel
theorem dX6_areOpen_16 : decode cX6_areOpen 16 = .ok (.iconst 1, 1) := by decide +kernel
theorem dX6_areOpen_17 : decode cX6_areOpen 17 = .ok (.if_icmp .ne 7, 3) := by decide +kernel
theorem dX6_areOpen_20 : decode cX6_areOpen 20 = .ok (.iconst 1, 1) := by decide +kernel
theorem dX6_areOpen_21 : decode cX6_areOpen 21 = .ok (.goto 4, 3) := by decide +kernel
theorem dX6_areOpen_24 : decode cX6_areOpen 24 = .ok (.iconst 0, 1) := by decide +kernel
theorem dX6_areOpen_25 : decode cX6_areOpen 25 = .ok (.ireturn, 1) := by decide +kernel
theorem dX6_changes_0 : decode cX6_changes 0 = .ok (.aload_n 0, 1) := by decide +kernel
theorem dX6_changes_1 : decode cX6_changes 1 = .ok (.iload_n 1, 1) := by decide +kernel
theorem dX6_changes_2 : decode cX6_changes 2 = .ok (.invokevirtual 105, 3) := by decide +kernel
theorem dX6_changes_5 : decode cX6_changes 5 = .ok (.ifCond .eq 7, 3) := by decide +kernel
theorem dX6_changes_8 : decode cX6_changes 8 = .ok (.iconst 0, 1) := by decide +kernel
theorem dX6_changes_9 : decode cX6_changes 9 = .ok (.goto 9, 3) := by decide +kernel
theorem dX6_changes_12 : decode cX6_changes 12 = .ok (.aload_n 0, 1) := by decide +kernel
theorem dX6_changes_13 : decode cX6_changes 13 = .ok (.getfield 17, 3) := by decide +kernel
theorem dX6_changes_16 : decode cX6_changes 16 = .ok (.iload_n 1, 1) := by decide +kernel
theorem dX6_changes_17 : decode cX6_changes 17 = .ok (.iaload, 1) := by decide +kernel
theorem dX6_changes_18 : decode cX6_changes 18 = .ok (.ireturn, 1) := by decide +kernel
theorem dX6_measure_0 : decode cX6_measure 0 = .ok (.iload_n 2, 1) := by decide +kernel
theorem dX6_measure_1 : decode cX6_measure 1 = .ok (.iconst 0, 1) := by decide +kernel
theorem dX6_measure_2 : decode cX6_measure 2 = .ok (.bipush 9, 2) := by decide +kernel
theorem dX6_measure_4 : decode cX6_measure 4 = .ok (.invokestatic 73, 3) := by decide +kernel
theorem dX6_measure_7 : decode cX6_measure 7 = .ok (.ifCond .eq 53, 3) := by decide +kernel
theorem dX6_measure_10 : decode cX6_measure 10 = .ok (.iload_n 3, 1) := by decide +kernel
theorem dX6_measure_11 : decode cX6_measure 11 = .ok (.iconst 1, 1) := by decide +kernel
theorem dX6_measure_12 : decode cX6_measure 12 = .ok (.if_icmp .eq 8, 3) := by decide +kernel
theorem dX6_measure_15 : decode cX6_measure 15 = .ok (.iload_n 3, 1) := by decide +kernel
theorem dX6_measure_16 : decode cX6_measure 16 = .ok (.iconst (-1), 1) := by decide +kernel
theorem dX6_measure_17 : decode cX6_measure 17 = .ok (.if_icmp .ne 43, 3) := by decide +kernel
theorem dX6_measure_20 : decode cX6_measure 20 = .ok (.iload 4, 2) := by decide +kernel
theorem dX6_measure_22 : decode cX6_measure 22 = .ok (.bipush (-9), 2) := by decide +kernel
theorem dX6_measure_24 : decode cX6_measure 24 = .ok (.bipush 9, 2) := by decide +kernel
theorem dX6_measure_26 : decode cX6_measure 26 = .ok (.invokestatic 73, 3) := by decide +kernel
theorem dX6_measure_29 : decode cX6_measure 29 = .ok (.ifCond .eq 31, 3) := by decide +kernel
theorem dX6_measure_32 : decode cX6_measure 32 = .ok (.iload 5, 2) := by decide +kernel
theorem dX6_measure_34 : decode cX6_measure 34 = .ok (.bipush (-9), 2) := by decide +kernel
theorem dX6_measure_36 : decode cX6_measure 36 = .ok (.bipush 9, 2) := by decide +kernel
theorem dX6_measure_38 : decode cX6_measure 38 = .ok (.invokestatic 73, 3) := by decide +kernel
theorem dX6_measure_41 : decode cX6_measure 41 = .ok (.ifCond .eq 19, 3) := by decide +kernel
theorem dX6_measure_44 : decode cX6_measure 44 = .ok (.iload 6, 2) := by decide +kernel
theorem dX6_measure_46 : decode cX6_measure 46 = .ok (.bipush (-9), 2) := by decide +kernel
theorem dX6_measure_48 : decode cX6_measure 48 = .ok (.bipush 9, 2) := by decide +kernel
theorem dX6_measure_50 : decode cX6_measure 50 = .ok (.invokestatic 73, 3) := by decide +kernel
theorem dX6_measure_53 : decode cX6_measure 53 = .ok (.ifCond .eq 7, 3) := by decide +kernel
theorem dX6_measure_56 : decode cX6_measure 56 = .ok (.iconst 1, 1) := by decide +kernel
theorem dX6_measure_57 : decode cX6_measure 57 = .ok (.goto 4, 3) := by decide +kernel
theorem dX6_measure_60 : decode cX6_measure 60 = .ok (.iconst 0, 1) := by decide +kernel
theorem dX6_measure_61 : decode cX6_measure 61 = .ok (.istore 7, 2) := by decide +kernel
theorem dX6_measure_63 : decode cX6_measure 63 = .ok (.aload_n 0, 1) := by decide +kernel
theorem dX6_measure_64 : decode cX6_measure 64 = .ok (.aload_n 0, 1) := by decide +kernel
theorem dX6_measure_65 : decode cX6_measure 65 = .ok (.iload_n 1, 1) := by decide +kernel
theorem dX6_measure_66 : decode cX6_measure 66 = .ok (.invokevirtual 77, 3) := by decide +kernel
theorem dX6_measure_69 : decode cX6_measure 69 = .ok (.ifCond .ne 7, 3) := by decide +kernel
theorem dX6_measure_72 : decode cX6_measure 72 = .ok (.iconst 1, 1) := by decide +kernel
theorem dX6_measure_73 : decode cX6_measure 73 = .ok (.goto 26, 3) := by decide +kernel
theorem dX6_measure_76 : decode cX6_measure 76 = .ok (.iload 7, 2) := by decide +kernel
theorem dX6_measure_78 : decode cX6_measure 78 = .ok (.ifCond .ne 7, 3) := by decide +kernel
theorem dX6_measure_81 : decode cX6_measure 81 = .ok (.iconst 2, 1) := by decide +kernel
theorem dX6_measure_82 : decode cX6_measure 82 = .ok (.goto 17, 3) := by decide +kernel
theorem dX6_measure_85 : decode cX6_measure 85 = .ok (.aload_n 0, 1) := by decide +kernel
theorem dX6_measure_86 : decode cX6_measure 86 = .ok (.getfield 84, 3) := by decide +kernel
theorem dX6_measure_89 : decode cX6_measure 89 = .ok (.bipush 40, 2) := by decide +kernel
theorem dX6_measure_91 : decode cX6_measure 91 = .ok (.if_icmp .ne 7, 3) := by decide +kernel
theorem dX6_measure_94 : decode cX6_measure 94 = .ok (.iconst 3, 1) := by decide +kernel
theorem dX6_measure_95 : decode cX6_measure 95 = .ok (.goto 4, 3) := by decide +kernel
theorem dX6_measure_98 : decode cX6_measure 98 = .ok (.iconst 0, 1) := by decide +kernel
theorem dX6_measure_99 : decode cX6_measure 99 = .ok (.invokevirtual 81, 3) := by decide +kernel
theorem dX6_measure_102 : decode cX6_measure 102 = .ok (.ifCond .eq 5, 3) := by decide +kernel
theorem dX6_measure_105 : decode cX6_measure 105 = .ok (.iconst 0, 1) := by decide +kernel
theorem dX6_measure_106 : decode cX6_measure 106 = .ok (.ireturn, 1) := by decide +kernel
theorem dX6_measure_107 : decode cX6_measure 107 = .ok (.aload_n 0, 1) := by decide +kernel
theorem dX6_measure_108 : decode cX6_measure 108 = .ok (.getfield 20, 3) := by decide +kernel
theorem dX6_measure_111 : decode cX6_measure 111 = .ok (.aload_n 0, 1) := by decide +kernel
theorem dX6_measure_112 : decode cX6_measure 112 = .ok (.getfield 84, 3) := by decide +kernel
theorem dX6_measure_115 : decode cX6_measure 115 = .ok (.iload_n 1, 1) := by decide +kernel
theorem dX6_measure_116 : decode cX6_measure 116 = .ok (.iastore, 1) := by decide +kernel
theorem dX6_measure_117 : decode cX6_measure 117 = .ok (.aload_n 0, 1) := by decide +kernel
theorem dX6_measure_118 : decode cX6_measure 118 = .ok (.getfield 23, 3) := by decide +kernel
theorem dX6_measure_121 : decode cX6_measure 121 = .ok (.aload_n 0, 1) := by decide +kernel
theorem dX6_measure_122 : decode cX6_measure 122 = .ok (.getfield 84, 3) := by decide +kernel
theorem dX6_measure_125 : decode cX6_measure 125 = .ok (.aload_n 0, 1) := by decide +kernel
theorem dX6_measure_126 : decode cX6_measure 126 = .ok (.getfield 13, 3) := by decide +kernel
theorem dX6_measure_129 : decode cX6_measure 129 = .ok (.iload_n 1, 1) := by decide +kernel
theorem dX6_measure_130 : decode cX6_measure 130 = .ok (.iaload, 1) := by decide +kernel
theorem dX6_measure_131 : decode cX6_measure 131 = .ok (.iastore, 1) := by decide +kernel
theorem dX6_measure_132 : decode cX6_measure 132 = .ok (.aload_n 0, 1) := by decide +kernel
theorem dX6_measure_133 : decode cX6_measure 133 = .ok (.getfield 26, 3) := by decide +kernel
theorem dX6_measure_136 : decode cX6_measure 136 = .ok (.aload_n 0, 1) := by decide +kernel
theorem dX6_measure_137 : decode cX6_measure 137 = .ok (.getfield 84, 3) := by decide +kernel
theorem dX6_measure_140 : decode cX6_measure 140 = .ok (.iload_n 2, 1) := by decide +kernel
theorem dX6_measure_141 : decode cX6_measure 141 = .ok (.iastore, 1) := by decide +kernel
theorem dX6_measure_142 : decode cX6_measure 142 = .ok (.aload_n 0, 1) := by decide +kernel
theorem dX6_measure_143 : decode cX6_measure 143 = .ok (.getfield 29, 3) := by decide +kernel
theorem dX6_measure_146 : decode cX6_measure 146 = .ok (.aload_n 0, 1) := by decide +kernel
theorem dX6_measure_147 : decode cX6_measure 147 = .ok (.getfield 84, 3) := by decide +kernel
theorem dX6_measure_150 : decode cX6_measure 150 = .ok (.aload_n 0, 1) := by decide +kernel
theorem dX6_measure_151 : decode cX6_measure 151 = .ok (.getfield 108, 3) := by decide +kernel
theorem dX6_measure_154 : decode cX6_measure 154 = .ok (.iastore, 1) := by decide +kernel
theorem dX6_measure_155 : decode cX6_measure 155 = .ok (.aload_n 0, 1) := by decide +kernel
theorem dX6_measure_156 : decode cX6_measure 156 = .ok (.getfield 32, 3) := by decide +kernel
theorem dX6_measure_159 : decode cX6_measure 159 = .ok (.aload_n 0, 1) := by decide +kernel
theorem dX6_measure_160 : decode cX6_measure 160 = .ok (.getfield 84, 3) := by decide +kernel
theorem dX6_measure_163 : decode cX6_measure 163 = .ok (.aload_n 0, 1) := by decide +kernel
theorem dX6_measure_164 : decode cX6_measure 164 = .ok (.getfield 17, 3) := by decide +kernel
theorem dX6_measure_167 : decode cX6_measure 167 = .ok (.iload_n 1, 1) := by decide +kernel
theorem dX6_measure_168 : decode cX6_measure 168 = .ok (.iaload, 1) := by decide +kernel
theorem dX6_measure_169 : decode cX6_measure 169 = .ok (.iastore, 1) := by decide +kernel
theorem dX6_measure_170 : decode cX6_measure 170 = .ok (.aload_n 0, 1) := by decide +kernel
theorem dX6_measure_171 : decode cX6_measure 171 = .ok (.getfield 35, 3) := by decide +kernel
theorem dX6_measure_174 : decode cX6_measure 174 = .ok (.iconst 4, 1) := by decide +kernel
theorem dX6_measure_175 : decode cX6_measure 175 = .ok (.aload_n 0, 1) := by decide +kernel
theorem dX6_measure_176 : decode cX6_measure 176 = .ok (.getfield 84, 3) := by decide +kernel
theorem dX6_measure_179 : decode cX6_measure 179 = .ok (.imul, 1) := by decide +kernel
theorem dX6_measure_180 : decode cX6_measure 180 = .ok (.iload_n 3, 1) := by decide +kernel
theorem dX6_measure_181 : decode cX6_measure 181 = .ok (.iastore, 1) := by decide +kernel
theorem dX6_measure_182 : decode cX6_measure 182 = .ok (.aload_n 0, 1) := by decide +kernel
theorem dX6_measure_183 : decode cX6_measure 183 = .ok (.getfield 35, 3) := by decide +kernel
theorem dX6_measure_186 : decode cX6_measure 186 = .ok (.iconst 4, 1) := by decide +kernel
theorem dX6_measure_187 : decode cX6_measure 187 = .ok (.aload_n 0, 1) := by decide +kernel
theorem dX6_measure_188 : decode cX6_measure 188 = .ok (.getfield 84, 3) := by decide +kernel
theorem dX6_measure_191 : decode cX6_measure 191 = .ok (.imul, 1) := by decide +kernel
theorem dX6_measure_192 : decode cX6_measure 192 = .ok (.iconst 1, 1) := by decide +kernel
theorem dX6_measure_193 : decode cX6_measure 193 = .ok (.iadd, 1) := by decide +kernel
theorem dX6_measure_194 : decode cX6_measure 194 = .ok (.iload 4, 2) := by decide +kernel
theorem dX6_measure_196 : decode cX6_measure 196 = .ok (.iastore, 1) := by decide +kernel
theorem dX6_measure_197 : decode cX6_measure 197 = .ok (.aload_n 0, 1) := by decide +kernel
theorem dX6_measure_198 : decode cX6_measure 198 = .ok (.getfield 35, 3) := by decide +kernel
theorem dX6_measure_201 : decode cX6_measure 201 = .ok (.iconst 4, 1) := by decide +kernel
theorem dX6_measure_202 : decode cX6_measure 202 = .ok (.aload_n 0, 1) := by decide +kernel
theorem dX6_measure_203 : decode cX6_measure 203 = .ok (.getfield 84, 3) := by decide +kernel
theorem dX6_measure_206 : decode cX6_measure 206 = .ok (.imul, 1) := by decide +kernel
theorem dX6_measure_207 : decode cX6_measure 207 = .ok (.iconst 2, 1) := by decide +kernel
theorem dX6_measure_208 : decode cX6_measure 208 = .ok (.iadd, 1) := by decide +kernel
theorem dX6_measure_209 : decode cX6_measure 209 = .ok (.iload 5, 2) := by decide +kernel
theorem dX6_measure_211 : decode cX6_measure 211 = .ok (.iastore, 1) := by decide +kernel
theorem dX6_measure_212 : decode cX6_measure 212 = .ok (.aload_n 0, 1) := by decide +kernel
theorem dX6_measure_213 : decode cX6_measure 213 = .ok (.getfield 35, 3) := by decide +kernel
theorem dX6_measure_216 : decode cX6_measure 216 = .ok (.iconst 4, 1) := by decide +kernel
theorem dX6_measure_217 : decode cX6_measure 217 = .ok (.aload_n 0, 1) := by decide +kernel
theorem dX6_measure_218 : decode cX6_measure 218 = .ok (.getfield 84, 3) := by decide +kernel
theorem dX6_measure_221 : decode cX6_measure 221 = .ok (.imul, 1) := by decide +kernel
theorem dX6_measure_222 : decode cX6_measure 222 = .ok (.iconst 3, 1) := by decide +kernel
theorem dX6_measure_223 : decode cX6_measure 223 = .ok (.iadd, 1) := by decide +kernel
theorem dX6_measure_224 : decode cX6_measure 224 = .ok (.iload 6, 2) := by decide +kernel
theorem dX6_measure_226 : decode cX6_measure 226 = .ok (.iastore, 1) := by decide +kernel
theorem dX6_measure_227 : decode cX6_measure 227 = .ok (.aload_n 0, 1) := by decide +kernel
theorem dX6_measure_228 : decode cX6_measure 228 = .ok (.dup, 1) := by decide +kernel
theorem dX6_measure_229 : decode cX6_measure 229 = .ok (.getfield 84, 3) := by decide +kernel
theorem dX6_measure_232 : decode cX6_measure 232 = .ok (.iconst 1, 1) := by decide +kernel
theorem dX6_measure_233 : decode cX6_measure 233 = .ok (.iadd, 1) := by decide +kernel
theorem dX6_measure_234 : decode cX6_measure 234 = .ok (.putfield 84, 3) := by decide +kernel
theorem dX6_measure_237 : decode cX6_measure 237 = .ok (.aload_n 0, 1) := by decide +kernel
theorem dX6_measure_238 : decode cX6_measure 238 = .ok (.getfield 84, 3) := by decide +kernel
theorem dX6_measure_241 : decode cX6_measure 241 = .ok (.iconst 1, 1) := by decide +kernel
theorem dX6_measure_242 : decode cX6_measure 242 = .ok (.isub, 1) := by decide +kernel
theorem dX6_measure_243 : decode cX6_measure 243 = .ok (.ireturn, 1) := by decide +kernel
theorem dX6_sample_0 : decode cX6_sample 0 = .ok (.aload_n 0, 1) := by decide +kernel
theorem dX6_sample_1 : decode cX6_sample 1 = .ok (.iload_n 1, 1) := by decide +kernel
theorem dX6_sample_2 : decode cX6_sample 2 = .ok (.invokevirtual 111, 3) := by decide +kernel
theorem dX6_sample_5 : decode cX6_sample 5 = .ok (.ifCond .eq 5, 3) := by decide +kernel
theorem dX6_sample_8 : decode cX6_sample 8 = .ok (.iconst 0, 1) := by decide +kernel
theorem dX6_sample_9 : decode cX6_sample 9 = .ok (.ireturn, 1) := by decide +kernel
theorem dX6_sample_10 : decode cX6_sample 10 = .ok (.aload_n 0, 1) := by decide +kernel
theorem dX6_sample_11 : decode cX6_sample 11 = .ok (.iload_n 2, 1) := by decide +kernel
theorem dX6_sample_12 : decode cX6_sample 12 = .ok (.iconst 0, 1) := by decide +kernel
theorem dX6_sample_13 : decode cX6_sample 13 = .ok (.iconst 3, 1) := by decide +kernel
theorem dX6_sample_14 : decode cX6_sample 14 = .ok (.invokestatic 73, 3) := by decide +kernel
theorem dX6_sample_17 : decode cX6_sample 17 = .ok (.ifCond .eq 7, 3) := by decide +kernel
theorem dX6_sample_20 : decode cX6_sample 20 = .ok (.iconst 0, 1) := by decide +kernel
theorem dX6_sample_21 : decode cX6_sample 21 = .ok (.goto 4, 3) := by decide +kernel
theorem dX6_sample_24 : decode cX6_sample 24 = .ok (.iconst 2, 1) := by decide +kernel
theorem dX6_sample_25 : decode cX6_sample 25 = .ok (.invokevirtual 81, 3) := by decide +kernel
theorem dX6_sample_28 : decode cX6_sample 28 = .ok (.ifCond .eq 7, 3) := by decide +kernel
theorem dX6_sample_31 : decode cX6_sample 31 = .ok (.iconst 0, 1) := by decide +kernel
theorem dX6_sample_32 : decode cX6_sample 32 = .ok (.goto 13, 3) := by decide +kernel
theorem dX6_sample_35 : decode cX6_sample 35 = .ok (.aload_n 0, 1) := by decide +kernel
theorem dX6_sample_36 : decode cX6_sample 36 = .ok (.getfield 35, 3) := by decide +kernel
theorem dX6_sample_39 : decode cX6_sample 39 = .ok (.iconst 4, 1) := by decide +kernel
theorem dX6_sample_40 : decode cX6_sample 40 = .ok (.iload_n 1, 1) := by decide +kernel
theorem dX6_sample_41 : decode cX6_sample 41 = .ok (.imul, 1) := by decide +kernel
theorem dX6_sample_42 : decode cX6_sample 42 = .ok (.iload_n 2, 1) := by decide +kernel
theorem dX6_sample_43 : decode cX6_sample 43 = .ok (.iadd, 1) := by decide +kernel
theorem dX6_sample_44 : decode cX6_sample 44 = .ok (.iaload, 1) := by decide +kernel
theorem dX6_sample_45 : decode cX6_sample 45 = .ok (.ireturn, 1) := by decide +kernel
theorem dX6_ageOf_0 : decode cX6_ageOf 0 = .ok (.aload_n 0, 1) := by decide +kernel
theorem dX6_ageOf_1 : decode cX6_ageOf 1 = .ok (.getfield 108, 3) := by decide +kernel
theorem dX6_ageOf_4 : decode cX6_ageOf 4 = .ok (.aload_n 0, 1) := by decide +kernel
theorem dX6_ageOf_5 : decode cX6_ageOf 5 = .ok (.getfield 29, 3) := by decide +kernel
theorem dX6_ageOf_8 : decode cX6_ageOf 8 = .ok (.iload_n 1, 1) := by decide +kernel
theorem dX6_ageOf_9 : decode cX6_ageOf 9 = .ok (.iaload, 1) := by decide +kernel
theorem dX6_ageOf_10 : decode cX6_ageOf 10 = .ok (.isub, 1) := by decide +kernel
theorem dX6_ageOf_11 : decode cX6_ageOf 11 = .ok (.iconst 2, 1) := by decide +kernel
theorem dX6_ageOf_12 : decode cX6_ageOf 12 = .ok (.aload_n 0, 1) := by decide +kernel
theorem dX6_ageOf_13 : decode cX6_ageOf 13 = .ok (.getfield 17, 3) := by decide +kernel
theorem dX6_ageOf_16 : decode cX6_ageOf 16 = .ok (.aload_n 0, 1) := by decide +kernel
theorem dX6_ageOf_17 : decode cX6_ageOf 17 = .ok (.getfield 20, 3) := by decide +kernel
theorem dX6_ageOf_20 : decode cX6_ageOf 20 = .ok (.iload_n 1, 1) := by decide +kernel
theorem dX6_ageOf_21 : decode cX6_ageOf 21 = .ok (.iaload, 1) := by decide +kernel
theorem dX6_ageOf_22 : decode cX6_ageOf 22 = .ok (.iaload, 1) := by decide +kernel
theorem dX6_ageOf_23 : decode cX6_ageOf 23 = .ok (.aload_n 0, 1) := by decide +kernel
theorem dX6_ageOf_24 : decode cX6_ageOf 24 = .ok (.getfield 32, 3) := by decide +kernel
theorem dX6_ageOf_27 : decode cX6_ageOf 27 = .ok (.iload_n 1, 1) := by decide +kernel
theorem dX6_ageOf_28 : decode cX6_ageOf 28 = .ok (.iaload, 1) := by decide +kernel
theorem dX6_ageOf_29 : decode cX6_ageOf 29 = .ok (.isub, 1) := by decide +kernel
theorem dX6_ageOf_30 : decode cX6_ageOf 30 = .ok (.imul, 1) := by decide +kernel
theorem dX6_ageOf_31 : decode cX6_ageOf 31 = .ok (.iadd, 1) := by decide +kernel
theorem dX6_ageOf_32 : decode cX6_ageOf 32 = .ok (.ireturn, 1) := by decide +kernel
theorem dX6_age_0 : decode cX6_age 0 = .ok (.aload_n 0, 1) := by decide +kernel
theorem dX6_age_1 : decode cX6_age 1 = .ok (.iload_n 1, 1) := by decide +kernel
theorem dX6_age_2 : decode cX6_age 2 = .ok (.invokevirtual 111, 3) := by decide +kernel
theorem dX6_age_5 : decode cX6_age 5 = .ok (.ifCond .eq 7, 3) := by decide +kernel
theorem dX6_age_8 : decode cX6_age 8 = .ok (.iconst 0, 1) := by decide +kernel
theorem dX6_age_9 : decode cX6_age 9 = .ok (.goto 8, 3) := by decide +kernel
theorem dX6_age_12 : decode cX6_age 12 = .ok (.aload_n 0, 1) := by decide +kernel
theorem dX6_age_13 : decode cX6_age 13 = .ok (.iload_n 1, 1) := by decide +kernel
theorem dX6_age_14 : decode cX6_age 14 = .ok (.invokevirtual 114, 3) := by decide +kernel
theorem dX6_age_17 : decode cX6_age 17 = .ok (.ireturn, 1) := by decide +kernel
theorem dX6_latestOf_0 : decode cX6_latestOf 0 = .ok (.iconst (-1), 1) := by decide +kernel
theorem dX6_latestOf_1 : decode cX6_latestOf 1 = .ok (.istore 4, 2) := by decide +kernel
theorem dX6_latestOf_3 : decode cX6_latestOf 3 = .ok (.iconst 0, 1) := by decide +kernel
theorem dX6_latestOf_4 : decode cX6_latestOf 4 = .ok (.istore 5, 2) := by decide +kernel
theorem dX6_latestOf_6 : decode cX6_latestOf 6 = .ok (.iload 5, 2) := by decide +kernel
theorem dX6_latestOf_8 : decode cX6_latestOf 8 = .ok (.aload_n 0, 1) := by decide +kernel
theorem dX6_latestOf_9 : decode cX6_latestOf 9 = .ok (.getfield 84, 3) := by decide +kernel
theorem dX6_latestOf_12 : decode cX6_latestOf 12 = .ok (.if_icmp .ge 51, 3) := by decide +kernel
theorem dX6_latestOf_15 : decode cX6_latestOf 15 = .ok (.aload_n 0, 1) := by decide +kernel
theorem dX6_latestOf_16 : decode cX6_latestOf 16 = .ok (.getfield 20, 3) := by decide +kernel
theorem dX6_latestOf_19 : decode cX6_latestOf 19 = .ok (.iload 5, 2) := by decide +kernel
theorem dX6_latestOf_21 : decode cX6_latestOf 21 = .ok (.iaload, 1) := by decide +kernel
theorem dX6_latestOf_22 : decode cX6_latestOf 22 = .ok (.iload_n 1, 1) := by decide +kernel
theorem dX6_latestOf_23 : decode cX6_latestOf 23 = .ok (.if_icmp .ne 30, 3) := by decide +kernel
theorem dX6_latestOf_26 : decode cX6_latestOf 26 = .ok (.aload_n 0, 1) := by decide +kernel
theorem dX6_latestOf_27 : decode cX6_latestOf 27 = .ok (.getfield 23, 3) := by decide +kernel
theorem dX6_latestOf_30 : decode cX6_latestOf 30 = .ok (.iload 5, 2) := by decide +kernel
theorem dX6_latestOf_32 : decode cX6_latestOf 32 = .ok (.iaload, 1) := by decide +kernel
theorem dX6_latestOf_33 : decode cX6_latestOf 33 = .ok (.iload_n 3, 1) := by decide +kernel
theorem dX6_latestOf_34 : decode cX6_latestOf 34 = .ok (.if_icmp .ne 19, 3) := by decide +kernel
theorem dX6_latestOf_37 : decode cX6_latestOf 37 = .ok (.aload_n 0, 1) := by decide +kernel
theorem dX6_latestOf_38 : decode cX6_latestOf 38 = .ok (.getfield 26, 3) := by decide +kernel
theorem dX6_latestOf_41 : decode cX6_latestOf 41 = .ok (.iload 5, 2) := by decide +kernel
theorem dX6_latestOf_43 : decode cX6_latestOf 43 = .ok (.iaload, 1) := by decide +kernel
theorem dX6_latestOf_44 : decode cX6_latestOf 44 = .ok (.iload_n 2, 1) := by decide +kernel
theorem dX6_latestOf_45 : decode cX6_latestOf 45 = .ok (.if_icmp .ne 8, 3) := by decide +kernel
theorem dX6_latestOf_48 : decode cX6_latestOf 48 = .ok (.iload 5, 2) := by decide +kernel
theorem dX6_latestOf_50 : decode cX6_latestOf 50 = .ok (.goto 5, 3) := by decide +kernel
theorem dX6_latestOf_53 : decode cX6_latestOf 53 = .ok (.iload 4, 2) := by decide +kernel
theorem dX6_latestOf_55 : decode cX6_latestOf 55 = .ok (.istore 4, 2) := by decide +kernel
theorem dX6_latestOf_57 : decode cX6_latestOf 57 = .ok (.iinc 5 1, 3) := by decide +kernel
theorem dX6_latestOf_60 : decode cX6_latestOf 60 = .ok (.goto (-54), 3) := by decide +kernel
theorem dX6_latestOf_63 : decode cX6_latestOf 63 = .ok (.iload 4, 2) := by decide +kernel
theorem dX6_latestOf_65 : decode cX6_latestOf 65 = .ok (.ireturn, 1) := by decide +kernel
theorem dX6_latest_0 : decode cX6_latest 0 = .ok (.aload_n 0, 1) := by decide +kernel
theorem dX6_latest_1 : decode cX6_latest 1 = .ok (.aload_n 0, 1) := by decide +kernel
theorem dX6_latest_2 : decode cX6_latest 2 = .ok (.iload_n 1, 1) := by decide +kernel
theorem dX6_latest_3 : decode cX6_latest 3 = .ok (.invokevirtual 77, 3) := by decide +kernel
theorem dX6_latest_6 : decode cX6_latest 6 = .ok (.ifCond .ne 7, 3) := by decide +kernel
theorem dX6_latest_9 : decode cX6_latest 9 = .ok (.iconst 1, 1) := by decide +kernel
theorem dX6_latest_10 : decode cX6_latest 10 = .ok (.goto 27, 3) := by decide +kernel
theorem dX6_latest_13 : decode cX6_latest 13 = .ok (.iload_n 2, 1) := by decide +kernel
theorem dX6_latest_14 : decode cX6_latest 14 = .ok (.iconst 0, 1) := by decide +kernel
theorem dX6_latest_15 : decode cX6_latest 15 = .ok (.bipush 9, 2) := by decide +kernel
theorem dX6_latest_17 : decode cX6_latest 17 = .ok (.invokestatic 73, 3) := by decide +kernel
theorem dX6_latest_20 : decode cX6_latest 20 = .ok (.ifCond .eq 16, 3) := by decide +kernel
theorem dX6_latest_23 : decode cX6_latest 23 = .ok (.iload_n 3, 1) := by decide +kernel
theorem dX6_latest_24 : decode cX6_latest 24 = .ok (.iload 4, 2) := by decide +kernel
theorem dX6_latest_26 : decode cX6_latest 26 = .ok (.invokestatic 94, 3) := by decide +kernel
theorem dX6_latest_29 : decode cX6_latest 29 = .ok (.ifCond .eq 7, 3) := by decide +kernel
theorem dX6_latest_32 : decode cX6_latest 32 = .ok (.iconst 0, 1) := by decide +kernel
theorem dX6_latest_33 : decode cX6_latest 33 = .ok (.goto 4, 3) := by decide +kernel
theorem dX6_latest_36 : decode cX6_latest 36 = .ok (.iconst 2, 1) := by decide +kernel
theorem dX6_latest_37 : decode cX6_latest 37 = .ok (.invokevirtual 81, 3) := by decide +kernel
theorem dX6_latest_40 : decode cX6_latest 40 = .ok (.ifCond .eq 5, 3) := by decide +kernel
theorem dX6_latest_43 : decode cX6_latest 43 = .ok (.iconst 0, 1) := by decide +kernel
theorem dX6_latest_44 : decode cX6_latest 44 = .ok (.ireturn, 1) := by decide +kernel
theorem dX6_latest_45 : decode cX6_latest 45 = .ok (.aload_n 0, 1) := by decide +kernel
theorem dX6_latest_46 : decode cX6_latest 46 = .ok (.iload_n 1, 1) := by decide +kernel
theorem dX6_latest_47 : decode cX6_latest 47 = .ok (.iload_n 2, 1) := by decide +kernel
theorem dX6_latest_48 : decode cX6_latest 48 = .ok (.iload_n 3, 1) := by decide +kernel
theorem dX6_latest_49 : decode cX6_latest 49 = .ok (.iload 4, 2) := by decide +kernel
theorem dX6_latest_51 : decode cX6_latest 51 = .ok (.iload 5, 2) := by decide +kernel
theorem dX6_latest_53 : decode cX6_latest 53 = .ok (.invokestatic 98, 3) := by decide +kernel
theorem dX6_latest_56 : decode cX6_latest 56 = .ok (.invokevirtual 118, 3) := by decide +kernel
theorem dX6_latest_59 : decode cX6_latest 59 = .ok (.istore 6, 2) := by decide +kernel
theorem dX6_latest_61 : decode cX6_latest 61 = .ok (.aload_n 0, 1) := by decide +kernel
theorem dX6_latest_62 : decode cX6_latest 62 = .ok (.iload 6, 2) := by decide +kernel
theorem dX6_latest_64 : decode cX6_latest 64 = .ok (.iconst (-1), 1) := by decide +kernel
theorem dX6_latest_65 : decode cX6_latest 65 = .ok (.if_icmp .ne 7, 3) := by decide +kernel
theorem dX6_latest_68 : decode cX6_latest 68 = .ok (.iconst 3, 1) := by decide +kernel
theorem dX6_latest_69 : decode cX6_latest 69 = .ok (.goto 4, 3) := by decide +kernel
theorem dX6_latest_72 : decode cX6_latest 72 = .ok (.iconst 0, 1) := by decide +kernel
theorem dX6_latest_73 : decode cX6_latest 73 = .ok (.invokevirtual 81, 3) := by decide +kernel
theorem dX6_latest_76 : decode cX6_latest 76 = .ok (.ifCond .eq 7, 3) := by decide +kernel
theorem dX6_latest_79 : decode cX6_latest 79 = .ok (.iconst 0, 1) := by decide +kernel
theorem dX6_latest_80 : decode cX6_latest 80 = .ok (.goto 5, 3) := by decide +kernel
theorem dX6_latest_83 : decode cX6_latest 83 = .ok (.iload 6, 2) := by decide +kernel
theorem dX6_latest_85 : decode cX6_latest 85 = .ok (.ireturn, 1) := by decide +kernel
theorem dX6_statesMeasured_0 : decode cX6_statesMeasured 0 = .ok (.aload_n 0, 1) := by decide +kernel
theorem dX6_statesMeasured_1 : decode cX6_statesMeasured 1 = .ok (.iload_n 1, 1) := by decide +kernel
theorem dX6_statesMeasured_2 : decode cX6_statesMeasured 2 = .ok (.invokevirtual 105, 3) := by decide +kernel
theorem dX6_statesMeasured_5 : decode cX6_statesMeasured 5 = .ok (.ifCond .eq 5, 3) := by decide +kernel
theorem dX6_statesMeasured_8 : decode cX6_statesMeasured 8 = .ok (.iconst 0, 1) := by decide +kernel
theorem dX6_statesMeasured_9 : decode cX6_statesMeasured 9 = .ok (.ireturn, 1) := by decide +kernel
theorem dX6_statesMeasured_10 : decode cX6_statesMeasured 10 = .ok (.iconst 0, 1) := by decide +kernel
theorem dX6_statesMeasured_11 : decode cX6_statesMeasured 11 = .ok (.istore_n 2, 1) := by decide +kernel
theorem dX6_statesMeasured_12 : decode cX6_statesMeasured 12 = .ok (.iconst 0, 1) := by decide +kernel
theorem dX6_statesMeasured_13 : decode cX6_statesMeasured 13 = .ok (.istore_n 3, 1) := by decide +kernel
theorem dX6_statesMeasured_14 : decode cX6_statesMeasured 14 = .ok (.iload_n 3, 1) := by decide +kernel
theorem dX6_statesMeasured_15 : decode cX6_statesMeasured 15 = .ok (.aload_n 0, 1) := by decide +kernel
theorem dX6_statesMeasured_16 : decode cX6_statesMeasured 16 = .ok (.getfield 84, 3) := by decide +kernel
theorem dX6_statesMeasured_19 : decode cX6_statesMeasured 19 = .ok (.if_icmp .ge 93, 3) := by decide +kernel
theorem dX6_statesMeasured_22 : decode cX6_statesMeasured 22 = .ok (.aload_n 0, 1) := by decide +kernel
theorem dX6_statesMeasured_23 : decode cX6_statesMeasured 23 = .ok (.getfield 20, 3) := by decide +kernel
theorem dX6_statesMeasured_26 : decode cX6_statesMeasured 26 = .ok (.iload_n 3, 1) := by decide +kernel
theorem dX6_statesMeasured_27 : decode cX6_statesMeasured 27 = .ok (.iaload, 1) := by decide +kernel
theorem dX6_statesMeasured_28 : decode cX6_statesMeasured 28 = .ok (.iload_n 1, 1) := by decide +kernel
theorem dX6_statesMeasured_29 : decode cX6_statesMeasured 29 = .ok (.if_icmp .ne 7, 3) := by decide +kernel
theorem dX6_statesMeasured_32 : decode cX6_statesMeasured 32 = .ok (.iconst 1, 1) := by decide +kernel
theorem dX6_statesMeasured_33 : decode cX6_statesMeasured 33 = .ok (.goto 4, 3) := by decide +kernel
theorem dX6_statesMeasured_36 : decode cX6_statesMeasured 36 = .ok (.iconst 0, 1) := by decide +kernel
theorem dX6_statesMeasured_37 : decode cX6_statesMeasured 37 = .ok (.istore 4, 2) := by decide +kernel
theorem dX6_statesMeasured_39 : decode cX6_statesMeasured 39 = .ok (.iconst 0, 1) := by decide +kernel
theorem dX6_statesMeasured_40 : decode cX6_statesMeasured 40 = .ok (.istore 5, 2) := by decide +kernel
theorem dX6_statesMeasured_42 : decode cX6_statesMeasured 42 = .ok (.iload 5, 2) := by decide +kernel
theorem dX6_statesMeasured_44 : decode cX6_statesMeasured 44 = .ok (.iload_n 3, 1) := by decide +kernel
theorem dX6_statesMeasured_45 : decode cX6_statesMeasured 45 = .ok (.if_icmp .ge 48, 3) := by decide +kernel
theorem dX6_statesMeasured_48 : decode cX6_statesMeasured 48 = .ok (.iload 4, 2) := by decide +kernel
theorem dX6_statesMeasured_50 : decode cX6_statesMeasured 50 = .ok (.ifCond .eq 34, 3) := by decide +kernel
theorem dX6_statesMeasured_53 : decode cX6_statesMeasured 53 = .ok (.aload_n 0, 1) := by decide +kernel
theorem dX6_statesMeasured_54 : decode cX6_statesMeasured 54 = .ok (.getfield 20, 3) := by decide +kernel
theorem dX6_statesMeasured_57 : decode cX6_statesMeasured 57 = .ok (.iload 5, 2) := by decide +kernel
theorem dX6_statesMeasured_59 : decode cX6_statesMeasured 59 = .ok (.iaload, 1) := by decide +kernel
theorem dX6_statesMeasured_60 : decode cX6_statesMeasured 60 = .ok (.iload_n 1, 1) := by decide +kernel
theorem dX6_statesMeasured_61 : decode cX6_statesMeasured 61 = .ok (.if_icmp .ne 19, 3) := by decide +kernel
theorem dX6_statesMeasured_64 : decode cX6_statesMeasured 64 = .ok (.aload_n 0, 1) := by decide +kernel
theorem dX6_statesMeasured_65 : decode cX6_statesMeasured 65 = .ok (.getfield 23, 3) := by decide +kernel
theorem dX6_statesMeasured_68 : decode cX6_statesMeasured 68 = .ok (.iload 5, 2) := by decide +kernel
theorem dX6_statesMeasured_70 : decode cX6_statesMeasured 70 = .ok (.iaload, 1) := by decide +kernel
theorem dX6_statesMeasured_71 : decode cX6_statesMeasured 71 = .ok (.aload_n 0, 1) := by decide +kernel
theorem dX6_statesMeasured_72 : decode cX6_statesMeasured 72 = .ok (.getfield 23, 3) := by decide +kernel
theorem dX6_statesMeasured_75 : decode cX6_statesMeasured 75 = .ok (.iload_n 3, 1) := by decide +kernel
theorem dX6_statesMeasured_76 : decode cX6_statesMeasured 76 = .ok (.iaload, 1) := by decide +kernel
theorem dX6_statesMeasured_77 : decode cX6_statesMeasured 77 = .ok (.if_icmp .eq 7, 3) := by decide +kernel
theorem dX6_statesMeasured_80 : decode cX6_statesMeasured 80 = .ok (.iconst 1, 1) := by decide +kernel
theorem dX6_statesMeasured_81 : decode cX6_statesMeasured 81 = .ok (.goto 4, 3) := by decide +kernel
theorem dX6_statesMeasured_84 : decode cX6_statesMeasured 84 = .ok (.iconst 0, 1) := by decide +kernel
theorem dX6_statesMeasured_85 : decode cX6_statesMeasured 85 = .ok (.istore 4, 2) := by decide +kernel
theorem dX6_statesMeasured_87 : decode cX6_statesMeasured 87 = .ok (.iinc 5 1, 3) := by decide +kernel
theorem dX6_statesMeasured_90 : decode cX6_statesMeasured 90 = .ok (.goto (-48), 3) := by decide +kernel
theorem dX6_statesMeasured_93 : decode cX6_statesMeasured 93 = .ok (.iload_n 2, 1) := by decide +kernel
theorem dX6_statesMeasured_94 : decode cX6_statesMeasured 94 = .ok (.iload 4, 2) := by decide +kernel
theorem dX6_statesMeasured_96 : decode cX6_statesMeasured 96 = .ok (.ifCond .eq 7, 3) := by decide +kernel
theorem dX6_statesMeasured_99 : decode cX6_statesMeasured 99 = .ok (.iconst 1, 1) := by decide +kernel
theorem dX6_statesMeasured_100 : decode cX6_statesMeasured 100 = .ok (.goto 4, 3) := by decide +kernel
theorem dX6_statesMeasured_103 : decode cX6_statesMeasured 103 = .ok (.iconst 0, 1) := by decide +kernel
theorem dX6_statesMeasured_104 : decode cX6_statesMeasured 104 = .ok (.iadd, 1) := by decide +kernel
theorem dX6_statesMeasured_105 : decode cX6_statesMeasured 105 = .ok (.istore_n 2, 1) := by decide +kernel
theorem dX6_statesMeasured_106 : decode cX6_statesMeasured 106 = .ok (.iinc 3 1, 3) := by decide +kernel
theorem dX6_statesMeasured_109 : decode cX6_statesMeasured 109 = .ok (.goto (-95), 3) := by decide +kernel
theorem dX6_statesMeasured_112 : decode cX6_statesMeasured 112 = .ok (.iload_n 2, 1) := by decide +kernel
theorem dX6_statesMeasured_113 : decode cX6_statesMeasured 113 = .ok (.ireturn, 1) := by decide +kernel
theorem dX6_answers_0 : decode cX6_answers 0 = .ok (.aload_n 0, 1) := by decide +kernel
theorem dX6_answers_1 : decode cX6_answers 1 = .ok (.iconst 0, 1) := by decide +kernel
theorem dX6_answers_2 : decode cX6_answers 2 = .ok (.putfield 67, 3) := by decide +kernel
theorem dX6_answers_5 : decode cX6_answers 5 = .ok (.aload_n 0, 1) := by decide +kernel
theorem dX6_answers_6 : decode cX6_answers 6 = .ok (.getfield 84, 3) := by decide +kernel
theorem dX6_answers_9 : decode cX6_answers 9 = .ok (.ireturn, 1) := by decide +kernel
theorem dX6_makeFilter_0 : decode cX6_makeFilter 0 = .ok (.aload_n 0, 1) := by decide +kernel
theorem dX6_makeFilter_1 : decode cX6_makeFilter 1 = .ok (.iload_n 1, 1) := by decide +kernel
theorem dX6_makeFilter_2 : decode cX6_makeFilter 2 = .ok (.iconst 0, 1) := by decide +kernel
theorem dX6_makeFilter_3 : decode cX6_makeFilter 3 = .ok (.aload_n 0, 1) := by decide +kernel
theorem dX6_makeFilter_4 : decode cX6_makeFilter 4 = .ok (.getfield 84, 3) := by decide +kernel
theorem dX6_makeFilter_7 : decode cX6_makeFilter 7 = .ok (.iconst 1, 1) := by decide +kernel
theorem dX6_makeFilter_8 : decode cX6_makeFilter 8 = .ok (.isub, 1) := by decide +kernel
theorem dX6_makeFilter_9 : decode cX6_makeFilter 9 = .ok (.invokestatic 73, 3) := by decide +kernel
theorem dX6_makeFilter_12 : decode cX6_makeFilter 12 = .ok (.ifCond .ne 7, 3) := by decide +kernel
theorem dX6_makeFilter_15 : decode cX6_makeFilter 15 = .ok (.iconst 1, 1) := by decide +kernel
theorem dX6_makeFilter_16 : decode cX6_makeFilter 16 = .ok (.goto 17, 3) := by decide +kernel
theorem dX6_makeFilter_19 : decode cX6_makeFilter 19 = .ok (.aload_n 0, 1) := by decide +kernel
theorem dX6_makeFilter_20 : decode cX6_makeFilter 20 = .ok (.getfield 87, 3) := by decide +kernel
theorem dX6_makeFilter_23 : decode cX6_makeFilter 23 = .ok (.bipush 20, 2) := by decide +kernel
theorem dX6_makeFilter_25 : decode cX6_makeFilter 25 = .ok (.if_icmp .ne 7, 3) := by decide +kernel
theorem dX6_makeFilter_28 : decode cX6_makeFilter 28 = .ok (.iconst 2, 1) := by decide +kernel
theorem dX6_makeFilter_29 : decode cX6_makeFilter 29 = .ok (.goto 4, 3) := by decide +kernel
theorem dX6_makeFilter_32 : decode cX6_makeFilter 32 = .ok (.iconst 0, 1) := by decide +kernel
theorem dX6_makeFilter_33 : decode cX6_makeFilter 33 = .ok (.invokevirtual 81, 3) := by decide +kernel
theorem dX6_makeFilter_36 : decode cX6_makeFilter 36 = .ok (.ifCond .eq 5, 3) := by decide +kernel
theorem dX6_makeFilter_39 : decode cX6_makeFilter 39 = .ok (.iconst 0, 1) := by decide +kernel
theorem dX6_makeFilter_40 : decode cX6_makeFilter 40 = .ok (.ireturn, 1) := by decide +kernel
theorem dX6_makeFilter_41 : decode cX6_makeFilter 41 = .ok (.aload_n 0, 1) := by decide +kernel
theorem dX6_makeFilter_42 : decode cX6_makeFilter 42 = .ok (.getfield 38, 3) := by decide +kernel
theorem dX6_makeFilter_45 : decode cX6_makeFilter 45 = .ok (.aload_n 0, 1) := by decide +kernel
theorem dX6_makeFilter_46 : decode cX6_makeFilter 46 = .ok (.getfield 87, 3) := by decide +kernel
theorem dX6_makeFilter_49 : decode cX6_makeFilter 49 = .ok (.iload_n 1, 1) := by decide +kernel
theorem dX6_makeFilter_50 : decode cX6_makeFilter 50 = .ok (.iastore, 1) := by decide +kernel
theorem dX6_makeFilter_51 : decode cX6_makeFilter 51 = .ok (.aload_n 0, 1) := by decide +kernel
theorem dX6_makeFilter_52 : decode cX6_makeFilter 52 = .ok (.getfield 35, 3) := by decide +kernel
theorem dX6_makeFilter_55 : decode cX6_makeFilter 55 = .ok (.iconst 4, 1) := by decide +kernel
theorem dX6_makeFilter_56 : decode cX6_makeFilter 56 = .ok (.iload_n 1, 1) := by decide +kernel
theorem dX6_makeFilter_57 : decode cX6_makeFilter 57 = .ok (.imul, 1) := by decide +kernel
theorem dX6_makeFilter_58 : decode cX6_makeFilter 58 = .ok (.iaload, 1) := by decide +kernel
theorem dX6_makeFilter_59 : decode cX6_makeFilter 59 = .ok (.istore_n 2, 1) := by decide +kernel
theorem dX6_makeFilter_60 : decode cX6_makeFilter 60 = .ok (.iconst 0, 1) := by decide +kernel
theorem dX6_makeFilter_61 : decode cX6_makeFilter 61 = .ok (.istore_n 3, 1) := by decide +kernel
theorem dX6_makeFilter_62 : decode cX6_makeFilter 62 = .ok (.iload_n 3, 1) := by decide +kernel
theorem dX6_makeFilter_63 : decode cX6_makeFilter 63 = .ok (.bipush 6, 2) := by decide +kernel
theorem dX6_makeFilter_65 : decode cX6_makeFilter 65 = .ok (.if_icmp .ge 97, 3) := by decide +kernel
theorem dX6_makeFilter_68 : decode cX6_makeFilter 68 = .ok (.lconst 0, 1) := by decide +kernel
theorem dX6_makeFilter_69 : decode cX6_makeFilter 69 = .ok (.lstore 4, 2) := by decide +kernel
theorem dX6_makeFilter_71 : decode cX6_makeFilter 71 = .ok (.iconst 1, 1) := by decide +kernel
theorem dX6_makeFilter_72 : decode cX6_makeFilter 72 = .ok (.istore 6, 2) := by decide +kernel
theorem dX6_makeFilter_74 : decode cX6_makeFilter 74 = .ok (.iload 6, 2) := by decide +kernel
theorem dX6_makeFilter_76 : decode cX6_makeFilter 76 = .ok (.iconst 4, 1) := by decide +kernel
theorem dX6_makeFilter_77 : decode cX6_makeFilter 77 = .ok (.if_icmp .ge 50, 3) := by decide +kernel
theorem dX6_makeFilter_80 : decode cX6_makeFilter 80 = .ok (.iload 6, 2) := by decide +kernel
theorem dX6_makeFilter_82 : decode cX6_makeFilter 82 = .ok (.iload_n 3, 1) := by decide +kernel
theorem dX6_makeFilter_83 : decode cX6_makeFilter 83 = .ok (.if_icmp .gt 44, 3) := by decide +kernel
theorem dX6_makeFilter_86 : decode cX6_makeFilter 86 = .ok (.lload 4, 2) := by decide +kernel
theorem dX6_makeFilter_88 : decode cX6_makeFilter 88 = .ok (.aload_n 0, 1) := by decide +kernel
theorem dX6_makeFilter_89 : decode cX6_makeFilter 89 = .ok (.getfield 35, 3) := by decide +kernel
theorem dX6_makeFilter_92 : decode cX6_makeFilter 92 = .ok (.iconst 4, 1) := by decide +kernel
theorem dX6_makeFilter_93 : decode cX6_makeFilter 93 = .ok (.iload_n 1, 1) := by decide +kernel
theorem dX6_makeFilter_94 : decode cX6_makeFilter 94 = .ok (.imul, 1) := by decide +kernel
theorem dX6_makeFilter_95 : decode cX6_makeFilter 95 = .ok (.iload 6, 2) := by decide +kernel
theorem dX6_makeFilter_97 : decode cX6_makeFilter 97 = .ok (.iadd, 1) := by decide +kernel
theorem dX6_makeFilter_98 : decode cX6_makeFilter 98 = .ok (.iaload, 1) := by decide +kernel
theorem dX6_makeFilter_99 : decode cX6_makeFilter 99 = .ok (.i2l, 1) := by decide +kernel
theorem dX6_makeFilter_100 : decode cX6_makeFilter 100 = .ok (.aload_n 0, 1) := by decide +kernel
theorem dX6_makeFilter_101 : decode cX6_makeFilter 101 = .ok (.getfield 41, 3) := by decide +kernel
theorem dX6_makeFilter_104 : decode cX6_makeFilter 104 = .ok (.bipush 6, 2) := by decide +kernel
theorem dX6_makeFilter_106 : decode cX6_makeFilter 106 = .ok (.aload_n 0, 1) := by decide +kernel
theorem dX6_makeFilter_107 : decode cX6_makeFilter 107 = .ok (.getfield 87, 3) := by decide +kernel
theorem dX6_makeFilter_110 : decode cX6_makeFilter 110 = .ok (.imul, 1) := by decide +kernel
theorem dX6_makeFilter_111 : decode cX6_makeFilter 111 = .ok (.iload_n 3, 1) := by decide +kernel
theorem dX6_makeFilter_112 : decode cX6_makeFilter 112 = .ok (.iadd, 1) := by decide +kernel
theorem dX6_makeFilter_113 : decode cX6_makeFilter 113 = .ok (.iload 6, 2) := by decide +kernel
theorem dX6_makeFilter_115 : decode cX6_makeFilter 115 = .ok (.isub, 1) := by decide +kernel
theorem dX6_makeFilter_116 : decode cX6_makeFilter 116 = .ok (.laload, 1) := by decide +kernel
theorem dX6_makeFilter_117 : decode cX6_makeFilter 117 = .ok (.lmul, 1) := by decide +kernel
theorem dX6_makeFilter_118 : decode cX6_makeFilter 118 = .ok (.ladd, 1) := by decide +kernel
theorem dX6_makeFilter_119 : decode cX6_makeFilter 119 = .ok (.lstore 4, 2) := by decide +kernel
theorem dX6_makeFilter_121 : decode cX6_makeFilter 121 = .ok (.iinc 6 1, 3) := by decide +kernel
theorem dX6_makeFilter_124 : decode cX6_makeFilter 124 = .ok (.goto (-50), 3) := by decide +kernel
theorem dX6_makeFilter_127 : decode cX6_makeFilter 127 = .ok (.aload_n 0, 1) := by decide +kernel
theorem dX6_makeFilter_128 : decode cX6_makeFilter 128 = .ok (.getfield 41, 3) := by decide +kernel
theorem dX6_makeFilter_131 : decode cX6_makeFilter 131 = .ok (.bipush 6, 2) := by decide +kernel
theorem dX6_makeFilter_133 : decode cX6_makeFilter 133 = .ok (.aload_n 0, 1) := by decide +kernel
theorem dX6_makeFilter_134 : decode cX6_makeFilter 134 = .ok (.getfield 87, 3) := by decide +kernel
theorem dX6_makeFilter_137 : decode cX6_makeFilter 137 = .ok (.imul, 1) := by decide +kernel
theorem dX6_makeFilter_138 : decode cX6_makeFilter 138 = .ok (.iload_n 3, 1) := by decide +kernel
theorem dX6_makeFilter_139 : decode cX6_makeFilter 139 = .ok (.iadd, 1) := by decide +kernel
theorem dX6_makeFilter_140 : decode cX6_makeFilter 140 = .ok (.iload_n 3, 1) := by decide +kernel
theorem dX6_makeFilter_141 : decode cX6_makeFilter 141 = .ok (.ifCond .ne 8, 3) := by decide +kernel
theorem dX6_makeFilter_144 : decode cX6_makeFilter 144 = .ok (.iload_n 2, 1) := by decide +kernel
theorem dX6_makeFilter_145 : decode cX6_makeFilter 145 = .ok (.i2l, 1) := by decide +kernel
theorem dX6_makeFilter_146 : decode cX6_makeFilter 146 = .ok (.goto 9, 3) := by decide +kernel
theorem dX6_makeFilter_149 : decode cX6_makeFilter 149 = .ok (.iload_n 2, 1) := by decide +kernel
theorem dX6_makeFilter_150 : decode cX6_makeFilter 150 = .ok (.ineg, 1) := by decide +kernel
theorem dX6_makeFilter_151 : decode cX6_makeFilter 151 = .ok (.i2l, 1) := by decide +kernel
theorem dX6_makeFilter_152 : decode cX6_makeFilter 152 = .ok (.lload 4, 2) := by decide +kernel
theorem dX6_makeFilter_154 : decode cX6_makeFilter 154 = .ok (.lmul, 1) := by decide +kernel
theorem dX6_makeFilter_155 : decode cX6_makeFilter 155 = .ok (.lastore, 1) := by decide +kernel
theorem dX6_makeFilter_156 : decode cX6_makeFilter 156 = .ok (.iinc 3 1, 3) := by decide +kernel
theorem dX6_makeFilter_159 : decode cX6_makeFilter 159 = .ok (.goto (-97), 3) := by decide +kernel
theorem dX6_makeFilter_162 : decode cX6_makeFilter 162 = .ok (.aload_n 0, 1) := by decide +kernel
theorem dX6_makeFilter_163 : decode cX6_makeFilter 163 = .ok (.dup, 1) := by decide +kernel
theorem dX6_makeFilter_164 : decode cX6_makeFilter 164 = .ok (.getfield 87, 3) := by decide +kernel
theorem dX6_makeFilter_167 : decode cX6_makeFilter 167 = .ok (.iconst 1, 1) := by decide +kernel
theorem dX6_makeFilter_168 : decode cX6_makeFilter 168 = .ok (.iadd, 1) := by decide +kernel
theorem dX6_makeFilter_169 : decode cX6_makeFilter 169 = .ok (.putfield 87, 3) := by decide +kernel
theorem dX6_makeFilter_172 : decode cX6_makeFilter 172 = .ok (.aload_n 0, 1) := by decide +kernel
theorem dX6_makeFilter_173 : decode cX6_makeFilter 173 = .ok (.getfield 87, 3) := by decide +kernel
theorem dX6_makeFilter_176 : decode cX6_makeFilter 176 = .ok (.iconst 1, 1) := by decide +kernel
theorem dX6_makeFilter_177 : decode cX6_makeFilter 177 = .ok (.isub, 1) := by decide +kernel
theorem dX6_makeFilter_178 : decode cX6_makeFilter 178 = .ok (.ireturn, 1) := by decide +kernel
theorem dX6_answerOf_0 : decode cX6_answerOf 0 = .ok (.aload_n 0, 1) := by decide +kernel
theorem dX6_answerOf_1 : decode cX6_answerOf 1 = .ok (.iload_n 1, 1) := by decide +kernel
theorem dX6_answerOf_2 : decode cX6_answerOf 2 = .ok (.invokevirtual 122, 3) := by decide +kernel
theorem dX6_answerOf_5 : decode cX6_answerOf 5 = .ok (.ifCond .eq 7, 3) := by decide +kernel
theorem dX6_answerOf_8 : decode cX6_answerOf 8 = .ok (.iconst 0, 1) := by decide +kernel
theorem dX6_answerOf_9 : decode cX6_answerOf 9 = .ok (.goto 9, 3) := by decide +kernel
theorem dX6_answerOf_12 : decode cX6_answerOf 12 = .ok (.aload_n 0, 1) := by decide +kernel
theorem dX6_answerOf_13 : decode cX6_answerOf 13 = .ok (.getfield 38, 3) := by decide +kernel
theorem dX6_answerOf_16 : decode cX6_answerOf 16 = .ok (.iload_n 1, 1) := by decide +kernel
theorem dX6_answerOf_17 : decode cX6_answerOf 17 = .ok (.iaload, 1) := by decide +kernel
theorem dX6_answerOf_18 : decode cX6_answerOf 18 = .ok (.ireturn, 1) := by decide +kernel
theorem dX6_tap_0 : decode cX6_tap 0 = .ok (.aload_n 0, 1) := by decide +kernel
theorem dX6_tap_1 : decode cX6_tap 1 = .ok (.iload_n 1, 1) := by decide +kernel
theorem dX6_tap_2 : decode cX6_tap 2 = .ok (.invokevirtual 122, 3) := by decide +kernel
theorem dX6_tap_5 : decode cX6_tap 5 = .ok (.ifCond .eq 5, 3) := by decide +kernel
theorem dX6_tap_8 : decode cX6_tap 8 = .ok (.lconst 0, 1) := by decide +kernel
theorem dX6_tap_9 : decode cX6_tap 9 = .ok (.lreturn, 1) := by decide +kernel
theorem dX6_tap_10 : decode cX6_tap 10 = .ok (.aload_n 0, 1) := by decide +kernel
theorem dX6_tap_11 : decode cX6_tap 11 = .ok (.iload_n 2, 1) := by decide +kernel
theorem dX6_tap_12 : decode cX6_tap 12 = .ok (.iconst 0, 1) := by decide +kernel
theorem dX6_tap_13 : decode cX6_tap 13 = .ok (.iconst 5, 1) := by decide +kernel
theorem dX6_tap_14 : decode cX6_tap 14 = .ok (.invokestatic 73, 3) := by decide +kernel
theorem dX6_tap_17 : decode cX6_tap 17 = .ok (.ifCond .eq 7, 3) := by decide +kernel
theorem dX6_tap_20 : decode cX6_tap 20 = .ok (.iconst 0, 1) := by decide +kernel
theorem dX6_tap_21 : decode cX6_tap 21 = .ok (.goto 4, 3) := by decide +kernel
theorem dX6_tap_24 : decode cX6_tap 24 = .ok (.iconst 2, 1) := by decide +kernel
theorem dX6_tap_25 : decode cX6_tap 25 = .ok (.invokevirtual 81, 3) := by decide +kernel
theorem dX6_tap_28 : decode cX6_tap 28 = .ok (.ifCond .eq 7, 3) := by decide +kernel
theorem dX6_tap_31 : decode cX6_tap 31 = .ok (.lconst 0, 1) := by decide +kernel
theorem dX6_tap_32 : decode cX6_tap 32 = .ok (.goto 14, 3) := by decide +kernel
theorem dX6_tap_35 : decode cX6_tap 35 = .ok (.aload_n 0, 1) := by decide +kernel
theorem dX6_tap_36 : decode cX6_tap 36 = .ok (.getfield 41, 3) := by decide +kernel
theorem dX6_tap_39 : decode cX6_tap 39 = .ok (.bipush 6, 2) := by decide +kernel
theorem dX6_tap_41 : decode cX6_tap 41 = .ok (.iload_n 1, 1) := by decide +kernel
theorem dX6_tap_42 : decode cX6_tap 42 = .ok (.imul, 1) := by decide +kernel
theorem dX6_tap_43 : decode cX6_tap 43 = .ok (.iload_n 2, 1) := by decide +kernel
theorem dX6_tap_44 : decode cX6_tap 44 = .ok (.iadd, 1) := by decide +kernel
theorem dX6_tap_45 : decode cX6_tap 45 = .ok (.laload, 1) := by decide +kernel
theorem dX6_tap_46 : decode cX6_tap 46 = .ok (.lreturn, 1) := by decide +kernel
theorem dX6_barOf_0 : decode cX6_barOf 0 = .ok (.aload_n 0, 1) := by decide +kernel
theorem dX6_barOf_1 : decode cX6_barOf 1 = .ok (.getfield 38, 3) := by decide +kernel
theorem dX6_barOf_4 : decode cX6_barOf 4 = .ok (.iload_n 1, 1) := by decide +kernel
theorem dX6_barOf_5 : decode cX6_barOf 5 = .ok (.iaload, 1) := by decide +kernel
theorem dX6_barOf_6 : decode cX6_barOf 6 = .ok (.istore_n 2, 1) := by decide +kernel
theorem dX6_barOf_7 : decode cX6_barOf 7 = .ok (.aload_n 0, 1) := by decide +kernel
theorem dX6_barOf_8 : decode cX6_barOf 8 = .ok (.getfield 20, 3) := by decide +kernel
theorem dX6_barOf_11 : decode cX6_barOf 11 = .ok (.iload_n 2, 1) := by decide +kernel
theorem dX6_barOf_12 : decode cX6_barOf 12 = .ok (.iaload, 1) := by decide +kernel
theorem dX6_barOf_13 : decode cX6_barOf 13 = .ok (.istore_n 3, 1) := by decide +kernel
theorem dX6_barOf_14 : decode cX6_barOf 14 = .ok (.aload_n 0, 1) := by decide +kernel
theorem dX6_barOf_15 : decode cX6_barOf 15 = .ok (.getfield 13, 3) := by decide +kernel
theorem dX6_barOf_18 : decode cX6_barOf 18 = .ok (.iload_n 3, 1) := by decide +kernel
theorem dX6_barOf_19 : decode cX6_barOf 19 = .ok (.iaload, 1) := by decide +kernel
theorem dX6_barOf_20 : decode cX6_barOf 20 = .ok (.aload_n 0, 1) := by decide +kernel
theorem dX6_barOf_21 : decode cX6_barOf 21 = .ok (.getfield 23, 3) := by decide +kernel
theorem dX6_barOf_24 : decode cX6_barOf 24 = .ok (.iload_n 2, 1) := by decide +kernel
theorem dX6_barOf_25 : decode cX6_barOf 25 = .ok (.iaload, 1) := by decide +kernel
theorem dX6_barOf_26 : decode cX6_barOf 26 = .ok (.if_icmp .eq 6, 3) := by decide +kernel
theorem dX6_barOf_29 : decode cX6_barOf 29 = .ok (.bipush 115, 2) := by decide +kernel
theorem dX6_barOf_31 : decode cX6_barOf 31 = .ok (.ireturn, 1) := by decide +kernel
theorem dX6_barOf_32 : decode cX6_barOf 32 = .ok (.aload_n 0, 1) := by decide +kernel
theorem dX6_barOf_33 : decode cX6_barOf 33 = .ok (.iload_n 3, 1) := by decide +kernel
theorem dX6_barOf_34 : decode cX6_barOf 34 = .ok (.aload_n 0, 1) := by decide +kernel
theorem dX6_barOf_35 : decode cX6_barOf 35 = .ok (.getfield 26, 3) := by decide +kernel
theorem dX6_barOf_38 : decode cX6_barOf 38 = .ok (.iload_n 2, 1) := by decide +kernel
theorem dX6_barOf_39 : decode cX6_barOf 39 = .ok (.iaload, 1) := by decide +kernel
theorem dX6_barOf_40 : decode cX6_barOf 40 = .ok (.aload_n 0, 1) := by decide +kernel
theorem dX6_barOf_41 : decode cX6_barOf 41 = .ok (.getfield 23, 3) := by decide +kernel
theorem dX6_barOf_44 : decode cX6_barOf 44 = .ok (.iload_n 2, 1) := by decide +kernel
theorem dX6_barOf_45 : decode cX6_barOf 45 = .ok (.iaload, 1) := by decide +kernel
theorem dX6_barOf_46 : decode cX6_barOf 46 = .ok (.invokevirtual 118, 3) := by decide +kernel
theorem dX6_barOf_49 : decode cX6_barOf 49 = .ok (.iload_n 2, 1) := by decide +kernel
theorem dX6_barOf_50 : decode cX6_barOf 50 = .ok (.if_icmp .eq 8, 3) := by decide +kernel
theorem dX6_barOf_53 : decode cX6_barOf 53 = .ok (.bipush 108, 2) := by decide +kernel
theorem dX6_barOf_55 : decode cX6_barOf 55 = .ok (.goto 22, 3) := by decide +kernel
theorem dX6_barOf_58 : decode cX6_barOf 58 = .ok (.aload_n 0, 1) := by decide +kernel
theorem dX6_barOf_59 : decode cX6_barOf 59 = .ok (.iload_n 2, 1) := by decide +kernel
theorem dX6_barOf_60 : decode cX6_barOf 60 = .ok (.invokevirtual 114, 3) := by decide +kernel
theorem dX6_barOf_63 : decode cX6_barOf 63 = .ok (.aload_n 0, 1) := by decide +kernel
theorem dX6_barOf_64 : decode cX6_barOf 64 = .ok (.getfield 7, 3) := by decide +kernel
theorem dX6_barOf_67 : decode cX6_barOf 67 = .ok (.if_icmp .le 8, 3) := by decide +kernel
theorem dX6_barOf_70 : decode cX6_barOf 70 = .ok (.bipush 111, 2) := by decide +kernel
theorem dX6_barOf_72 : decode cX6_barOf 72 = .ok (.goto 5, 3) := by decide +kernel
theorem dX6_barOf_75 : decode cX6_barOf 75 = .ok (.bipush 45, 2) := by decide +kernel
theorem dX6_barOf_77 : decode cX6_barOf 77 = .ok (.ireturn, 1) := by decide +kernel
theorem dX6_bar_0 : decode cX6_bar 0 = .ok (.aload_n 0, 1) := by decide +kernel
theorem dX6_bar_1 : decode cX6_bar 1 = .ok (.iload_n 1, 1) := by decide +kernel
theorem dX6_bar_2 : decode cX6_bar 2 = .ok (.invokevirtual 122, 3) := by decide +kernel
theorem dX6_bar_5 : decode cX6_bar 5 = .ok (.ifCond .eq 7, 3) := by decide +kernel
theorem dX6_bar_8 : decode cX6_bar 8 = .ok (.iconst 0, 1) := by decide +kernel
theorem dX6_bar_9 : decode cX6_bar 9 = .ok (.goto 8, 3) := by decide +kernel
theorem dX6_bar_12 : decode cX6_bar 12 = .ok (.aload_n 0, 1) := by decide +kernel
theorem dX6_bar_13 : decode cX6_bar 13 = .ok (.iload_n 1, 1) := by decide +kernel
theorem dX6_bar_14 : decode cX6_bar 14 = .ok (.invokevirtual 125, 3) := by decide +kernel
theorem dX6_bar_17 : decode cX6_bar 17 = .ok (.ireturn, 1) := by decide +kernel
theorem dX6_use_0 : decode cX6_use 0 = .ok (.aload_n 0, 1) := by decide +kernel
theorem dX6_use_1 : decode cX6_use 1 = .ok (.iload_n 1, 1) := by decide +kernel
theorem dX6_use_2 : decode cX6_use 2 = .ok (.iconst 0, 1) := by decide +kernel
theorem dX6_use_3 : decode cX6_use 3 = .ok (.aload_n 0, 1) := by decide +kernel
theorem dX6_use_4 : decode cX6_use 4 = .ok (.getfield 87, 3) := by decide +kernel
theorem dX6_use_7 : decode cX6_use 7 = .ok (.iconst 1, 1) := by decide +kernel
theorem dX6_use_8 : decode cX6_use 8 = .ok (.isub, 1) := by decide +kernel
theorem dX6_use_9 : decode cX6_use 9 = .ok (.invokestatic 73, 3) := by decide +kernel
theorem dX6_use_12 : decode cX6_use 12 = .ok (.ifCond .ne 7, 3) := by decide +kernel
theorem dX6_use_15 : decode cX6_use 15 = .ok (.iconst 1, 1) := by decide +kernel
theorem dX6_use_16 : decode cX6_use 16 = .ok (.goto 35, 3) := by decide +kernel
theorem dX6_use_19 : decode cX6_use 19 = .ok (.iload_n 2, 1) := by decide +kernel
theorem dX6_use_20 : decode cX6_use 20 = .ok (.sipush (-999), 3) := by decide +kernel
theorem dX6_use_23 : decode cX6_use 23 = .ok (.sipush 999, 3) := by decide +kernel
theorem dX6_use_26 : decode cX6_use 26 = .ok (.invokestatic 73, 3) := by decide +kernel
theorem dX6_use_29 : decode cX6_use 29 = .ok (.ifCond .ne 7, 3) := by decide +kernel
theorem dX6_use_32 : decode cX6_use 32 = .ok (.iconst 2, 1) := by decide +kernel
theorem dX6_use_33 : decode cX6_use 33 = .ok (.goto 18, 3) := by decide +kernel
theorem dX6_use_36 : decode cX6_use 36 = .ok (.aload_n 0, 1) := by decide +kernel
theorem dX6_use_37 : decode cX6_use 37 = .ok (.iload_n 1, 1) := by decide +kernel
theorem dX6_use_38 : decode cX6_use 38 = .ok (.invokevirtual 125, 3) := by decide +kernel
theorem dX6_use_41 : decode cX6_use 41 = .ok (.bipush 45, 2) := by decide +kernel
theorem dX6_use_43 : decode cX6_use 43 = .ok (.if_icmp .ne 7, 3) := by decide +kernel
theorem dX6_use_46 : decode cX6_use 46 = .ok (.iconst 0, 1) := by decide +kernel
theorem dX6_use_47 : decode cX6_use 47 = .ok (.goto 4, 3) := by decide +kernel
theorem dX6_use_50 : decode cX6_use 50 = .ok (.iconst 3, 1) := by decide +kernel
theorem dX6_use_51 : decode cX6_use 51 = .ok (.invokevirtual 81, 3) := by decide +kernel
theorem dX6_use_54 : decode cX6_use 54 = .ok (.ifCond .eq 5, 3) := by decide +kernel
theorem dX6_use_57 : decode cX6_use 57 = .ok (.lconst 0, 1) := by decide +kernel
theorem dX6_use_58 : decode cX6_use 58 = .ok (.lreturn, 1) := by decide +kernel
theorem dX6_use_59 : decode cX6_use 59 = .ok (.iconst 5, 1) := by decide +kernel
theorem dX6_use_60 : decode cX6_use 60 = .ok (.istore_n 3, 1) := by decide +kernel
theorem dX6_use_61 : decode cX6_use 61 = .ok (.iload_n 3, 1) := by decide +kernel
theorem dX6_use_62 : decode cX6_use 62 = .ok (.ifCond .le 33, 3) := by decide +kernel
theorem dX6_use_65 : decode cX6_use 65 = .ok (.aload_n 0, 1) := by decide +kernel
theorem dX6_use_66 : decode cX6_use 66 = .ok (.getfield 45, 3) := by decide +kernel
theorem dX6_use_69 : decode cX6_use 69 = .ok (.bipush 6, 2) := by decide +kernel
theorem dX6_use_71 : decode cX6_use 71 = .ok (.iload_n 1, 1) := by decide +kernel
theorem dX6_use_72 : decode cX6_use 72 = .ok (.imul, 1) := by decide +kernel
theorem dX6_use_73 : decode cX6_use 73 = .ok (.iload_n 3, 1) := by decide +kernel
theorem dX6_use_74 : decode cX6_use 74 = .ok (.iadd, 1) := by decide +kernel
theorem dX6_use_75 : decode cX6_use 75 = .ok (.aload_n 0, 1) := by decide +kernel
theorem dX6_use_76 : decode cX6_use 76 = .ok (.getfield 45, 3) := by decide +kernel
theorem dX6_use_79 : decode cX6_use 79 = .ok (.bipush 6, 2) := by decide +kernel
theorem dX6_use_81 : decode cX6_use 81 = .ok (.iload_n 1, 1) := by decide +kernel
theorem dX6_use_82 : decode cX6_use 82 = .ok (.imul, 1) := by decide +kernel
theorem dX6_use_83 : decode cX6_use 83 = .ok (.iload_n 3, 1) := by decide +kernel
theorem dX6_use_84 : decode cX6_use 84 = .ok (.iadd, 1) := by decide +kernel
theorem dX6_use_85 : decode cX6_use 85 = .ok (.iconst 1, 1) := by decide +kernel
theorem dX6_use_86 : decode cX6_use 86 = .ok (.isub, 1) := by decide +kernel
theorem dX6_use_87 : decode cX6_use 87 = .ok (.iaload, 1) := by decide +kernel
theorem dX6_use_88 : decode cX6_use 88 = .ok (.iastore, 1) := by decide +kernel
theorem dX6_use_89 : decode cX6_use 89 = .ok (.iinc 3 (-1), 3) := by decide +kernel
theorem dX6_use_92 : decode cX6_use 92 = .ok (.goto (-31), 3) := by decide +kernel
theorem dX6_use_95 : decode cX6_use 95 = .ok (.aload_n 0, 1) := by decide +kernel
theorem dX6_use_96 : decode cX6_use 96 = .ok (.getfield 45, 3) := by decide +kernel
theorem dX6_use_99 : decode cX6_use 99 = .ok (.bipush 6, 2) := by decide +kernel
theorem dX6_use_101 : decode cX6_use 101 = .ok (.iload_n 1, 1) := by decide +kernel
theorem dX6_use_102 : decode cX6_use 102 = .ok (.imul, 1) := by decide +kernel
theorem dX6_use_103 : decode cX6_use 103 = .ok (.iload_n 2, 1) := by decide +kernel
theorem dX6_use_104 : decode cX6_use 104 = .ok (.iastore, 1) := by decide +kernel
theorem dX6_use_105 : decode cX6_use 105 = .ok (.aload_n 0, 1) := by decide +kernel
theorem dX6_use_106 : decode cX6_use 106 = .ok (.getfield 48, 3) := by decide +kernel
theorem dX6_use_109 : decode cX6_use 109 = .ok (.iload_n 1, 1) := by decide +kernel
theorem dX6_use_110 : decode cX6_use 110 = .ok (.dup2, 1) := by decide +kernel
theorem dX6_use_111 : decode cX6_use 111 = .ok (.iaload, 1) := by decide +kernel
theorem dX6_use_112 : decode cX6_use 112 = .ok (.iconst 1, 1) := by decide +kernel
theorem dX6_use_113 : decode cX6_use 113 = .ok (.iadd, 1) := by decide +kernel
theorem dX6_use_114 : decode cX6_use 114 = .ok (.iastore, 1) := by decide +kernel
theorem dX6_use_115 : decode cX6_use 115 = .ok (.lconst 0, 1) := by decide +kernel
theorem dX6_use_116 : decode cX6_use 116 = .ok (.lstore_n 3, 1) := by decide +kernel
theorem dX6_use_117 : decode cX6_use 117 = .ok (.iconst 0, 1) := by decide +kernel
theorem dX6_use_118 : decode cX6_use 118 = .ok (.istore 5, 2) := by decide +kernel
theorem dX6_use_120 : decode cX6_use 120 = .ok (.iload 5, 2) := by decide +kernel
theorem dX6_use_122 : decode cX6_use 122 = .ok (.bipush 6, 2) := by decide +kernel
theorem dX6_use_124 : decode cX6_use 124 = .ok (.if_icmp .ge 38, 3) := by decide +kernel
theorem dX6_use_127 : decode cX6_use 127 = .ok (.lload_n 3, 1) := by decide +kernel
theorem dX6_use_128 : decode cX6_use 128 = .ok (.aload_n 0, 1) := by decide +kernel
theorem dX6_use_129 : decode cX6_use 129 = .ok (.getfield 41, 3) := by decide +kernel
theorem dX6_use_132 : decode cX6_use 132 = .ok (.bipush 6, 2) := by decide +kernel
theorem dX6_use_134 : decode cX6_use 134 = .ok (.iload_n 1, 1) := by decide +kernel
theorem dX6_use_135 : decode cX6_use 135 = .ok (.imul, 1) := by decide +kernel
theorem dX6_use_136 : decode cX6_use 136 = .ok (.iload 5, 2) := by decide +kernel
theorem dX6_use_138 : decode cX6_use 138 = .ok (.iadd, 1) := by decide +kernel
theorem dX6_use_139 : decode cX6_use 139 = .ok (.laload, 1) := by decide +kernel
theorem dX6_use_140 : decode cX6_use 140 = .ok (.aload_n 0, 1) := by decide +kernel
theorem dX6_use_141 : decode cX6_use 141 = .ok (.getfield 45, 3) := by decide +kernel
theorem dX6_use_144 : decode cX6_use 144 = .ok (.bipush 6, 2) := by decide +kernel
theorem dX6_use_146 : decode cX6_use 146 = .ok (.iload_n 1, 1) := by decide +kernel
theorem dX6_use_147 : decode cX6_use 147 = .ok (.imul, 1) := by decide +kernel
theorem dX6_use_148 : decode cX6_use 148 = .ok (.iload 5, 2) := by decide +kernel
theorem dX6_use_150 : decode cX6_use 150 = .ok (.iadd, 1) := by decide +kernel
theorem dX6_use_151 : decode cX6_use 151 = .ok (.iaload, 1) := by decide +kernel
theorem dX6_use_152 : decode cX6_use 152 = .ok (.i2l, 1) := by decide +kernel
theorem dX6_use_153 : decode cX6_use 153 = .ok (.lmul, 1) := by decide +kernel
theorem dX6_use_154 : decode cX6_use 154 = .ok (.ladd, 1) := by decide +kernel
theorem dX6_use_155 : decode cX6_use 155 = .ok (.lstore_n 3, 1) := by decide +kernel
theorem dX6_use_156 : decode cX6_use 156 = .ok (.iinc 5 1, 3) := by decide +kernel
theorem dX6_use_159 : decode cX6_use 159 = .ok (.goto (-39), 3) := by decide +kernel
theorem dX6_use_162 : decode cX6_use 162 = .ok (.lload_n 3, 1) := by decide +kernel
theorem dX6_use_163 : decode cX6_use 163 = .ok (.lreturn, 1) := by decide +kernel
theorem dX6_inputs_0 : decode cX6_inputs 0 = .ok (.aload_n 0, 1) := by decide +kernel
theorem dX6_inputs_1 : decode cX6_inputs 1 = .ok (.iload_n 1, 1) := by decide +kernel
theorem dX6_inputs_2 : decode cX6_inputs 2 = .ok (.invokevirtual 122, 3) := by decide +kernel
theorem dX6_inputs_5 : decode cX6_inputs 5 = .ok (.ifCond .eq 7, 3) := by decide +kernel
theorem dX6_inputs_8 : decode cX6_inputs 8 = .ok (.iconst 0, 1) := by decide +kernel
theorem dX6_inputs_9 : decode cX6_inputs 9 = .ok (.goto 9, 3) := by decide +kernel
theorem dX6_inputs_12 : decode cX6_inputs 12 = .ok (.aload_n 0, 1) := by decide +kernel
theorem dX6_inputs_13 : decode cX6_inputs 13 = .ok (.getfield 48, 3) := by decide +kernel
theorem dX6_inputs_16 : decode cX6_inputs 16 = .ok (.iload_n 1, 1) := by decide +kernel
theorem dX6_inputs_17 : decode cX6_inputs 17 = .ok (.iaload, 1) := by decide +kernel
theorem dX6_inputs_18 : decode cX6_inputs 18 = .ok (.ireturn, 1) := by decide +kernel
theorem dX6_productOf_0 : decode cX6_productOf 0 = .ok (.lconst 0, 1) := by decide +kernel
theorem dX6_productOf_1 : decode cX6_productOf 1 = .ok (.lstore 4, 2) := by decide +kernel
theorem dX6_productOf_3 : decode cX6_productOf 3 = .ok (.iconst 0, 1) := by decide +kernel
theorem dX6_productOf_4 : decode cX6_productOf 4 = .ok (.istore 6, 2) := by decide +kernel
theorem dX6_productOf_6 : decode cX6_productOf 6 = .ok (.iload 6, 2) := by decide +kernel
theorem dX6_productOf_8 : decode cX6_productOf 8 = .ok (.iconst 4, 1) := by decide +kernel
theorem dX6_productOf_9 : decode cX6_productOf 9 = .ok (.if_icmp .ge 47, 3) := by decide +kernel
theorem dX6_productOf_12 : decode cX6_productOf 12 = .ok (.iload 6, 2) := by decide +kernel
theorem dX6_productOf_14 : decode cX6_productOf 14 = .ok (.iload_n 3, 1) := by decide +kernel
theorem dX6_productOf_15 : decode cX6_productOf 15 = .ok (.if_icmp .gt 41, 3) := by decide +kernel
theorem dX6_productOf_18 : decode cX6_productOf 18 = .ok (.lload 4, 2) := by decide +kernel
theorem dX6_productOf_20 : decode cX6_productOf 20 = .ok (.aload_n 0, 1) := by decide +kernel
theorem dX6_productOf_21 : decode cX6_productOf 21 = .ok (.getfield 35, 3) := by decide +kernel
theorem dX6_productOf_24 : decode cX6_productOf 24 = .ok (.iconst 4, 1) := by decide +kernel
theorem dX6_productOf_25 : decode cX6_productOf 25 = .ok (.iload_n 2, 1) := by decide +kernel
theorem dX6_productOf_26 : decode cX6_productOf 26 = .ok (.imul, 1) := by decide +kernel
theorem dX6_productOf_27 : decode cX6_productOf 27 = .ok (.iload 6, 2) := by decide +kernel
theorem dX6_productOf_29 : decode cX6_productOf 29 = .ok (.iadd, 1) := by decide +kernel
theorem dX6_productOf_30 : decode cX6_productOf 30 = .ok (.iaload, 1) := by decide +kernel
theorem dX6_productOf_31 : decode cX6_productOf 31 = .ok (.i2l, 1) := by decide +kernel
theorem dX6_productOf_32 : decode cX6_productOf 32 = .ok (.aload_n 0, 1) := by decide +kernel
theorem dX6_productOf_33 : decode cX6_productOf 33 = .ok (.getfield 41, 3) := by decide +kernel
theorem dX6_productOf_36 : decode cX6_productOf 36 = .ok (.bipush 6, 2) := by decide +kernel
theorem dX6_productOf_38 : decode cX6_productOf 38 = .ok (.iload_n 1, 1) := by decide +kernel
theorem dX6_productOf_39 : decode cX6_productOf 39 = .ok (.imul, 1) := by decide +kernel
theorem dX6_productOf_40 : decode cX6_productOf 40 = .ok (.iload_n 3, 1) := by decide +kernel
theorem dX6_productOf_41 : decode cX6_productOf 41 = .ok (.iadd, 1) := by decide +kernel
theorem dX6_productOf_42 : decode cX6_productOf 42 = .ok (.iload 6, 2) := by decide +kernel
theorem dX6_productOf_44 : decode cX6_productOf 44 = .ok (.isub, 1) := by decide +kernel
theorem dX6_productOf_45 : decode cX6_productOf 45 = .ok (.laload, 1) := by decide +kernel
theorem dX6_productOf_46 : decode cX6_productOf 46 = .ok (.lmul, 1) := by decide +kernel
theorem dX6_productOf_47 : decode cX6_productOf 47 = .ok (.ladd, 1) := by decide +kernel
theorem dX6_productOf_48 : decode cX6_productOf 48 = .ok (.lstore 4, 2) := by decide +kernel
theorem dX6_productOf_50 : decode cX6_productOf 50 = .ok (.iinc 6 1, 3) := by decide +kernel
theorem dX6_productOf_53 : decode cX6_productOf 53 = .ok (.goto (-47), 3) := by decide +kernel
theorem dX6_productOf_56 : decode cX6_productOf 56 = .ok (.lload 4, 2) := by decide +kernel
theorem dX6_productOf_58 : decode cX6_productOf 58 = .ok (.lreturn, 1) := by decide +kernel
theorem dX6_failsPair_0 : decode cX6_failsPair 0 = .ok (.aload_n 0, 1) := by decide +kernel
theorem dX6_failsPair_1 : decode cX6_failsPair 1 = .ok (.iload_n 1, 1) := by decide +kernel
theorem dX6_failsPair_2 : decode cX6_failsPair 2 = .ok (.iconst 0, 1) := by decide +kernel
theorem dX6_failsPair_3 : decode cX6_failsPair 3 = .ok (.aload_n 0, 1) := by decide +kernel
theorem dX6_failsPair_4 : decode cX6_failsPair 4 = .ok (.getfield 87, 3) := by decide +kernel
theorem dX6_failsPair_7 : decode cX6_failsPair 7 = .ok (.iconst 1, 1) := by decide +kernel
theorem dX6_failsPair_8 : decode cX6_failsPair 8 = .ok (.isub, 1) := by decide +kernel
theorem dX6_failsPair_9 : decode cX6_failsPair 9 = .ok (.invokestatic 73, 3) := by decide +kernel
theorem dX6_failsPair_12 : decode cX6_failsPair 12 = .ok (.ifCond .eq 21, 3) := by decide +kernel
theorem dX6_failsPair_15 : decode cX6_failsPair 15 = .ok (.iload_n 2, 1) := by decide +kernel
theorem dX6_failsPair_16 : decode cX6_failsPair 16 = .ok (.iconst 0, 1) := by decide +kernel
theorem dX6_failsPair_17 : decode cX6_failsPair 17 = .ok (.aload_n 0, 1) := by decide +kernel
theorem dX6_failsPair_18 : decode cX6_failsPair 18 = .ok (.getfield 84, 3) := by decide +kernel
theorem dX6_failsPair_21 : decode cX6_failsPair 21 = .ok (.iconst 1, 1) := by decide +kernel
theorem dX6_failsPair_22 : decode cX6_failsPair 22 = .ok (.isub, 1) := by decide +kernel
theorem dX6_failsPair_23 : decode cX6_failsPair 23 = .ok (.invokestatic 73, 3) := by decide +kernel
theorem dX6_failsPair_26 : decode cX6_failsPair 26 = .ok (.ifCond .eq 7, 3) := by decide +kernel
theorem dX6_failsPair_29 : decode cX6_failsPair 29 = .ok (.iconst 0, 1) := by decide +kernel
theorem dX6_failsPair_30 : decode cX6_failsPair 30 = .ok (.goto 4, 3) := by decide +kernel
theorem dX6_failsPair_33 : decode cX6_failsPair 33 = .ok (.iconst 1, 1) := by decide +kernel
theorem dX6_failsPair_34 : decode cX6_failsPair 34 = .ok (.invokevirtual 81, 3) := by decide +kernel
theorem dX6_failsPair_37 : decode cX6_failsPair 37 = .ok (.ireturn, 1) := by decide +kernel
theorem dX6_product_0 : decode cX6_product 0 = .ok (.aload_n 0, 1) := by decide +kernel
theorem dX6_product_1 : decode cX6_product 1 = .ok (.iload_n 1, 1) := by decide +kernel
theorem dX6_product_2 : decode cX6_product 2 = .ok (.iload_n 2, 1) := by decide +kernel
theorem dX6_product_3 : decode cX6_product 3 = .ok (.invokevirtual 129, 3) := by decide +kernel
theorem dX6_product_6 : decode cX6_product 6 = .ok (.ifCond .eq 5, 3) := by decide +kernel
theorem dX6_product_9 : decode cX6_product 9 = .ok (.lconst 0, 1) := by decide +kernel
theorem dX6_product_10 : decode cX6_product 10 = .ok (.lreturn, 1) := by decide +kernel
theorem dX6_product_11 : decode cX6_product 11 = .ok (.aload_n 0, 1) := by decide +kernel
theorem dX6_product_12 : decode cX6_product 12 = .ok (.iload_n 3, 1) := by decide +kernel
theorem dX6_product_13 : decode cX6_product 13 = .ok (.iconst 0, 1) := by decide +kernel
theorem dX6_product_14 : decode cX6_product 14 = .ok (.iconst 5, 1) := by decide +kernel
theorem dX6_product_15 : decode cX6_product 15 = .ok (.invokestatic 73, 3) := by decide +kernel
theorem dX6_product_18 : decode cX6_product 18 = .ok (.ifCond .eq 7, 3) := by decide +kernel
theorem dX6_product_21 : decode cX6_product 21 = .ok (.iconst 0, 1) := by decide +kernel
theorem dX6_product_22 : decode cX6_product 22 = .ok (.goto 4, 3) := by decide +kernel
theorem dX6_product_25 : decode cX6_product 25 = .ok (.iconst 2, 1) := by decide +kernel
theorem dX6_product_26 : decode cX6_product 26 = .ok (.invokevirtual 81, 3) := by decide +kernel
theorem dX6_product_29 : decode cX6_product 29 = .ok (.ifCond .eq 7, 3) := by decide +kernel
theorem dX6_product_32 : decode cX6_product 32 = .ok (.lconst 0, 1) := by decide +kernel
theorem dX6_product_33 : decode cX6_product 33 = .ok (.goto 10, 3) := by decide +kernel
theorem dX6_product_36 : decode cX6_product 36 = .ok (.aload_n 0, 1) := by decide +kernel
theorem dX6_product_37 : decode cX6_product 37 = .ok (.iload_n 1, 1) := by decide +kernel
theorem dX6_product_38 : decode cX6_product 38 = .ok (.iload_n 2, 1) := by decide +kernel
theorem dX6_product_39 : decode cX6_product 39 = .ok (.iload_n 3, 1) := by decide +kernel
theorem dX6_product_40 : decode cX6_product 40 = .ok (.invokevirtual 132, 3) := by decide +kernel
theorem dX6_product_43 : decode cX6_product 43 = .ok (.lreturn, 1) := by decide +kernel
theorem dX6_rightOf_0 : decode cX6_rightOf 0 = .ok (.iconst 0, 1) := by decide +kernel
theorem dX6_rightOf_1 : decode cX6_rightOf 1 = .ok (.istore_n 3, 1) := by decide +kernel
theorem dX6_rightOf_2 : decode cX6_rightOf 2 = .ok (.iload_n 3, 1) := by decide +kernel
theorem dX6_rightOf_3 : decode cX6_rightOf 3 = .ok (.bipush 6, 2) := by decide +kernel
theorem dX6_rightOf_5 : decode cX6_rightOf 5 = .ok (.if_icmp .ge 29, 3) := by decide +kernel
theorem dX6_rightOf_8 : decode cX6_rightOf 8 = .ok (.aload_n 0, 1) := by decide +kernel
theorem dX6_rightOf_9 : decode cX6_rightOf 9 = .ok (.iload_n 1, 1) := by decide +kernel
theorem dX6_rightOf_10 : decode cX6_rightOf 10 = .ok (.iload_n 2, 1) := by decide +kernel
theorem dX6_rightOf_11 : decode cX6_rightOf 11 = .ok (.iload_n 3, 1) := by decide +kernel
theorem dX6_rightOf_12 : decode cX6_rightOf 12 = .ok (.invokevirtual 132, 3) := by decide +kernel
theorem dX6_rightOf_15 : decode cX6_rightOf 15 = .ok (.iload_n 3, 1) := by decide +kernel
theorem dX6_rightOf_16 : decode cX6_rightOf 16 = .ok (.ifCond .ne 7, 3) := by decide +kernel
theorem dX6_rightOf_19 : decode cX6_rightOf 19 = .ok (.lconst 1, 1) := by decide +kernel
theorem dX6_rightOf_20 : decode cX6_rightOf 20 = .ok (.goto 4, 3) := by decide +kernel
theorem dX6_rightOf_23 : decode cX6_rightOf 23 = .ok (.lconst 0, 1) := by decide +kernel
theorem dX6_rightOf_24 : decode cX6_rightOf 24 = .ok (.lcmp, 1) := by decide +kernel
theorem dX6_rightOf_25 : decode cX6_rightOf 25 = .ok (.ifCond .ne 9, 3) := by decide +kernel
theorem dX6_rightOf_28 : decode cX6_rightOf 28 = .ok (.iinc 3 1, 3) := by decide +kernel
theorem dX6_rightOf_31 : decode cX6_rightOf 31 = .ok (.goto (-29), 3) := by decide +kernel
theorem dX6_rightOf_34 : decode cX6_rightOf 34 = .ok (.iload_n 3, 1) := by decide +kernel
theorem dX6_rightOf_35 : decode cX6_rightOf 35 = .ok (.ireturn, 1) := by decide +kernel
theorem dX6_rightSamples_0 : decode cX6_rightSamples 0 = .ok (.aload_n 0, 1) := by decide +kernel
theorem dX6_rightSamples_1 : decode cX6_rightSamples 1 = .ok (.iload_n 1, 1) := by decide +kernel
theorem dX6_rightSamples_2 : decode cX6_rightSamples 2 = .ok (.iload_n 2, 1) := by decide +kernel
theorem dX6_rightSamples_3 : decode cX6_rightSamples 3 = .ok (.invokevirtual 129, 3) := by decide +kernel
theorem dX6_rightSamples_6 : decode cX6_rightSamples 6 = .ok (.ifCond .eq 7, 3) := by decide +kernel
theorem dX6_rightSamples_9 : decode cX6_rightSamples 9 = .ok (.iconst 0, 1) := by decide +kernel
theorem dX6_rightSamples_10 : decode cX6_rightSamples 10 = .ok (.goto 9, 3) := by decide +kernel
theorem dX6_rightSamples_13 : decode cX6_rightSamples 13 = .ok (.aload_n 0, 1) := by decide +kernel
theorem dX6_rightSamples_14 : decode cX6_rightSamples 14 = .ok (.iload_n 1, 1) := by decide +kernel
theorem dX6_rightSamples_15 : decode cX6_rightSamples 15 = .ok (.iload_n 2, 1) := by decide +kernel
theorem dX6_rightSamples_16 : decode cX6_rightSamples 16 = .ok (.invokevirtual 136, 3) := by decide +kernel
theorem dX6_rightSamples_19 : decode cX6_rightSamples 19 = .ok (.ireturn, 1) := by decide +kernel
theorem dX6_isChecked_0 : decode cX6_isChecked 0 = .ok (.aload_n 0, 1) := by decide +kernel
theorem dX6_isChecked_1 : decode cX6_isChecked 1 = .ok (.iload_n 1, 1) := by decide +kernel
theorem dX6_isChecked_2 : decode cX6_isChecked 2 = .ok (.invokevirtual 122, 3) := by decide +kernel
theorem dX6_isChecked_5 : decode cX6_isChecked 5 = .ok (.ifCond .ne 23, 3) := by decide +kernel
theorem dX6_isChecked_8 : decode cX6_isChecked 8 = .ok (.aload_n 0, 1) := by decide +kernel
theorem dX6_isChecked_9 : decode cX6_isChecked 9 = .ok (.iload_n 1, 1) := by decide +kernel
theorem dX6_isChecked_10 : decode cX6_isChecked 10 = .ok (.aload_n 0, 1) := by decide +kernel
theorem dX6_isChecked_11 : decode cX6_isChecked 11 = .ok (.getfield 38, 3) := by decide +kernel
theorem dX6_isChecked_14 : decode cX6_isChecked 14 = .ok (.iload_n 1, 1) := by decide +kernel
theorem dX6_isChecked_15 : decode cX6_isChecked 15 = .ok (.iaload, 1) := by decide +kernel
theorem dX6_isChecked_16 : decode cX6_isChecked 16 = .ok (.invokevirtual 136, 3) := by decide +kernel
theorem dX6_isChecked_19 : decode cX6_isChecked 19 = .ok (.bipush 6, 2) := by decide +kernel
theorem dX6_isChecked_21 : decode cX6_isChecked 21 = .ok (.if_icmp .ne 7, 3) := by decide +kernel
theorem dX6_isChecked_24 : decode cX6_isChecked 24 = .ok (.iconst 1, 1) := by decide +kernel
theorem dX6_isChecked_25 : decode cX6_isChecked 25 = .ok (.goto 4, 3) := by decide +kernel
theorem dX6_isChecked_28 : decode cX6_isChecked 28 = .ok (.iconst 0, 1) := by decide +kernel
theorem dX6_isChecked_29 : decode cX6_isChecked 29 = .ok (.ireturn, 1) := by decide +kernel
theorem dX6_setLimit_0 : decode cX6_setLimit 0 = .ok (.aload_n 0, 1) := by decide +kernel
theorem dX6_setLimit_1 : decode cX6_setLimit 1 = .ok (.iload_n 1, 1) := by decide +kernel
theorem dX6_setLimit_2 : decode cX6_setLimit 2 = .ok (.iconst 0, 1) := by decide +kernel
theorem dX6_setLimit_3 : decode cX6_setLimit 3 = .ok (.sipush 999, 3) := by decide +kernel
theorem dX6_setLimit_6 : decode cX6_setLimit 6 = .ok (.invokestatic 73, 3) := by decide +kernel
theorem dX6_setLimit_9 : decode cX6_setLimit 9 = .ok (.ifCond .eq 7, 3) := by decide +kernel
theorem dX6_setLimit_12 : decode cX6_setLimit 12 = .ok (.iconst 0, 1) := by decide +kernel
theorem dX6_setLimit_13 : decode cX6_setLimit 13 = .ok (.goto 4, 3) := by decide +kernel
theorem dX6_setLimit_16 : decode cX6_setLimit 16 = .ok (.iconst 1, 1) := by decide +kernel
theorem dX6_setLimit_17 : decode cX6_setLimit 17 = .ok (.invokevirtual 81, 3) := by decide +kernel
theorem dX6_setLimit_20 : decode cX6_setLimit 20 = .ok (.ifCond .eq 5, 3) := by decide +kernel
theorem dX6_setLimit_23 : decode cX6_setLimit 23 = .ok (.iconst 0, 1) := by decide +kernel
theorem dX6_setLimit_24 : decode cX6_setLimit 24 = .ok (.ireturn, 1) := by decide +kernel
theorem dX6_setLimit_25 : decode cX6_setLimit 25 = .ok (.aload_n 0, 1) := by decide +kernel
theorem dX6_setLimit_26 : decode cX6_setLimit 26 = .ok (.getfield 7, 3) := by decide +kernel
theorem dX6_setLimit_29 : decode cX6_setLimit 29 = .ok (.istore_n 2, 1) := by decide +kernel
theorem dX6_setLimit_30 : decode cX6_setLimit 30 = .ok (.aload_n 0, 1) := by decide +kernel
theorem dX6_setLimit_31 : decode cX6_setLimit 31 = .ok (.iload_n 1, 1) := by decide +kernel
theorem dX6_setLimit_32 : decode cX6_setLimit 32 = .ok (.putfield 7, 3) := by decide +kernel
theorem dX6_setLimit_35 : decode cX6_setLimit 35 = .ok (.iload_n 2, 1) := by decide +kernel
theorem dX6_setLimit_36 : decode cX6_setLimit 36 = .ok (.ireturn, 1) := by decide +kernel
theorem dX6_free_0 : decode cX6_free 0 = .ok (.iconst 0, 1) := by decide +kernel
theorem dX6_free_1 : decode cX6_free 1 = .ok (.istore_n 1, 1) := by decide +kernel
theorem dX6_free_2 : decode cX6_free 2 = .ok (.iconst 0, 1) := by decide +kernel
theorem dX6_free_3 : decode cX6_free 3 = .ok (.istore_n 2, 1) := by decide +kernel
theorem dX6_free_4 : decode cX6_free 4 = .ok (.iload_n 2, 1) := by decide +kernel
theorem dX6_free_5 : decode cX6_free 5 = .ok (.aload_n 0, 1) := by decide +kernel
theorem dX6_free_6 : decode cX6_free 6 = .ok (.getfield 87, 3) := by decide +kernel
theorem dX6_free_9 : decode cX6_free 9 = .ok (.if_icmp .ge 27, 3) := by decide +kernel
theorem dX6_free_12 : decode cX6_free 12 = .ok (.iload_n 1, 1) := by decide +kernel
theorem dX6_free_13 : decode cX6_free 13 = .ok (.aload_n 0, 1) := by decide +kernel
theorem dX6_free_14 : decode cX6_free 14 = .ok (.iload_n 2, 1) := by decide +kernel
theorem dX6_free_15 : decode cX6_free 15 = .ok (.invokevirtual 125, 3) := by decide +kernel
theorem dX6_free_18 : decode cX6_free 18 = .ok (.bipush 45, 2) := by decide +kernel
theorem dX6_free_20 : decode cX6_free 20 = .ok (.if_icmp .ne 7, 3) := by decide +kernel
theorem dX6_free_23 : decode cX6_free 23 = .ok (.iconst 1, 1) := by decide +kernel
theorem dX6_free_24 : decode cX6_free 24 = .ok (.goto 4, 3) := by decide +kernel
theorem dX6_free_27 : decode cX6_free 27 = .ok (.iconst 0, 1) := by decide +kernel
theorem dX6_free_28 : decode cX6_free 28 = .ok (.iadd, 1) := by decide +kernel
theorem dX6_free_29 : decode cX6_free 29 = .ok (.istore_n 1, 1) := by decide +kernel
theorem dX6_free_30 : decode cX6_free 30 = .ok (.iinc 2 1, 3) := by decide +kernel
theorem dX6_free_33 : decode cX6_free 33 = .ok (.goto (-29), 3) := by decide +kernel
theorem dX6_free_36 : decode cX6_free 36 = .ok (.iload_n 1, 1) := by decide +kernel
theorem dX6_free_37 : decode cX6_free 37 = .ok (.ireturn, 1) := by decide +kernel
theorem dX6_usable_0 : decode cX6_usable 0 = .ok (.aload_n 0, 1) := by decide +kernel
theorem dX6_usable_1 : decode cX6_usable 1 = .ok (.iconst 0, 1) := by decide +kernel
theorem dX6_usable_2 : decode cX6_usable 2 = .ok (.putfield 67, 3) := by decide +kernel
theorem dX6_usable_5 : decode cX6_usable 5 = .ok (.aload_n 0, 1) := by decide +kernel
theorem dX6_usable_6 : decode cX6_usable 6 = .ok (.invokevirtual 139, 3) := by decide +kernel
theorem dX6_usable_9 : decode cX6_usable 9 = .ok (.ireturn, 1) := by decide +kernel
theorem dX6_clashOf_0 : decode cX6_clashOf 0 = .ok (.iconst (-1), 1) := by decide +kernel
theorem dX6_clashOf_1 : decode cX6_clashOf 1 = .ok (.istore 5, 2) := by decide +kernel
theorem dX6_clashOf_3 : decode cX6_clashOf 3 = .ok (.aload_n 0, 1) := by decide +kernel
theorem dX6_clashOf_4 : decode cX6_clashOf 4 = .ok (.getfield 143, 3) := by decide +kernel
theorem dX6_clashOf_7 : decode cX6_clashOf 7 = .ok (.iconst 1, 1) := by decide +kernel
theorem dX6_clashOf_8 : decode cX6_clashOf 8 = .ok (.isub, 1) := by decide +kernel
theorem dX6_clashOf_9 : decode cX6_clashOf 9 = .ok (.istore 6, 2) := by decide +kernel
theorem dX6_clashOf_11 : decode cX6_clashOf 11 = .ok (.iload 6, 2) := by decide +kernel
theorem dX6_clashOf_13 : decode cX6_clashOf 13 = .ok (.ifCond .lt 144, 3) := by decide +kernel
theorem dX6_clashOf_16 : decode cX6_clashOf 16 = .ok (.aload_n 0, 1) := by decide +kernel
theorem dX6_clashOf_17 : decode cX6_clashOf 17 = .ok (.getfield 54, 3) := by decide +kernel
theorem dX6_clashOf_20 : decode cX6_clashOf 20 = .ok (.iload 6, 2) := by decide +kernel
theorem dX6_clashOf_22 : decode cX6_clashOf 22 = .ok (.iaload, 1) := by decide +kernel
theorem dX6_clashOf_23 : decode cX6_clashOf 23 = .ok (.iload_n 2, 1) := by decide +kernel
theorem dX6_clashOf_24 : decode cX6_clashOf 24 = .ok (.invokestatic 90, 3) := by decide +kernel
theorem dX6_clashOf_27 : decode cX6_clashOf 27 = .ok (.istore 7, 2) := by decide +kernel
theorem dX6_clashOf_29 : decode cX6_clashOf 29 = .ok (.aload_n 0, 1) := by decide +kernel
theorem dX6_clashOf_30 : decode cX6_clashOf 30 = .ok (.getfield 51, 3) := by decide +kernel
theorem dX6_clashOf_33 : decode cX6_clashOf 33 = .ok (.iload 6, 2) := by decide +kernel
theorem dX6_clashOf_35 : decode cX6_clashOf 35 = .ok (.iaload, 1) := by decide +kernel
theorem dX6_clashOf_36 : decode cX6_clashOf 36 = .ok (.iload_n 1, 1) := by decide +kernel
theorem dX6_clashOf_37 : decode cX6_clashOf 37 = .ok (.if_icmp .ne 17, 3) := by decide +kernel
theorem dX6_clashOf_40 : decode cX6_clashOf 40 = .ok (.aload_n 0, 1) := by decide +kernel
theorem dX6_clashOf_41 : decode cX6_clashOf 41 = .ok (.getfield 63, 3) := by decide +kernel
theorem dX6_clashOf_44 : decode cX6_clashOf 44 = .ok (.iload 6, 2) := by decide +kernel
theorem dX6_clashOf_46 : decode cX6_clashOf 46 = .ok (.baload, 1) := by decide +kernel
theorem dX6_clashOf_47 : decode cX6_clashOf 47 = .ok (.ifCond .ne 7, 3) := by decide +kernel
theorem dX6_clashOf_50 : decode cX6_clashOf 50 = .ok (.iconst 1, 1) := by decide +kernel
theorem dX6_clashOf_51 : decode cX6_clashOf 51 = .ok (.goto 4, 3) := by decide +kernel
theorem dX6_clashOf_54 : decode cX6_clashOf 54 = .ok (.iconst 0, 1) := by decide +kernel
theorem dX6_clashOf_55 : decode cX6_clashOf 55 = .ok (.istore 8, 2) := by decide +kernel
theorem dX6_clashOf_57 : decode cX6_clashOf 57 = .ok (.iload 4, 2) := by decide +kernel
theorem dX6_clashOf_59 : decode cX6_clashOf 59 = .ok (.aload_n 0, 1) := by decide +kernel
theorem dX6_clashOf_60 : decode cX6_clashOf 60 = .ok (.getfield 57, 3) := by decide +kernel
theorem dX6_clashOf_63 : decode cX6_clashOf 63 = .ok (.iload 6, 2) := by decide +kernel
theorem dX6_clashOf_65 : decode cX6_clashOf 65 = .ok (.iaload, 1) := by decide +kernel
theorem dX6_clashOf_66 : decode cX6_clashOf 66 = .ok (.if_icmp .ge 26, 3) := by decide +kernel
theorem dX6_clashOf_69 : decode cX6_clashOf 69 = .ok (.aload_n 0, 1) := by decide +kernel
theorem dX6_clashOf_70 : decode cX6_clashOf 70 = .ok (.getfield 57, 3) := by decide +kernel
theorem dX6_clashOf_73 : decode cX6_clashOf 73 = .ok (.iload 6, 2) := by decide +kernel
theorem dX6_clashOf_75 : decode cX6_clashOf 75 = .ok (.iaload, 1) := by decide +kernel
theorem dX6_clashOf_76 : decode cX6_clashOf 76 = .ok (.i2l, 1) := by decide +kernel
theorem dX6_clashOf_77 : decode cX6_clashOf 77 = .ok (.iload 4, 2) := by decide +kernel
theorem dX6_clashOf_79 : decode cX6_clashOf 79 = .ok (.i2l, 1) := by decide +kernel
theorem dX6_clashOf_80 : decode cX6_clashOf 80 = .ok (.lsub, 1) := by decide +kernel
theorem dX6_clashOf_81 : decode cX6_clashOf 81 = .ok (.iload 7, 2) := by decide +kernel
theorem dX6_clashOf_83 : decode cX6_clashOf 83 = .ok (.i2l, 1) := by decide +kernel
theorem dX6_clashOf_84 : decode cX6_clashOf 84 = .ok (.lcmp, 1) := by decide +kernel
theorem dX6_clashOf_85 : decode cX6_clashOf 85 = .ok (.ifCond .le 7, 3) := by decide +kernel
theorem dX6_clashOf_88 : decode cX6_clashOf 88 = .ok (.iconst 1, 1) := by decide +kernel
theorem dX6_clashOf_89 : decode cX6_clashOf 89 = .ok (.goto 4, 3) := by decide +kernel
theorem dX6_clashOf_92 : decode cX6_clashOf 92 = .ok (.iconst 0, 1) := by decide +kernel
theorem dX6_clashOf_93 : decode cX6_clashOf 93 = .ok (.istore 9, 2) := by decide +kernel
theorem dX6_clashOf_95 : decode cX6_clashOf 95 = .ok (.aload_n 0, 1) := by decide +kernel
theorem dX6_clashOf_96 : decode cX6_clashOf 96 = .ok (.getfield 60, 3) := by decide +kernel
theorem dX6_clashOf_99 : decode cX6_clashOf 99 = .ok (.iload 6, 2) := by decide +kernel
theorem dX6_clashOf_101 : decode cX6_clashOf 101 = .ok (.iaload, 1) := by decide +kernel
theorem dX6_clashOf_102 : decode cX6_clashOf 102 = .ok (.iload_n 3, 1) := by decide +kernel
theorem dX6_clashOf_103 : decode cX6_clashOf 103 = .ok (.if_icmp .ge 21, 3) := by decide +kernel
theorem dX6_clashOf_106 : decode cX6_clashOf 106 = .ok (.iload_n 3, 1) := by decide +kernel
theorem dX6_clashOf_107 : decode cX6_clashOf 107 = .ok (.aload_n 0, 1) := by decide +kernel
theorem dX6_clashOf_108 : decode cX6_clashOf 108 = .ok (.getfield 60, 3) := by decide +kernel
theorem dX6_clashOf_111 : decode cX6_clashOf 111 = .ok (.iload 6, 2) := by decide +kernel
theorem dX6_clashOf_113 : decode cX6_clashOf 113 = .ok (.iaload, 1) := by decide +kernel
theorem dX6_clashOf_114 : decode cX6_clashOf 114 = .ok (.isub, 1) := by decide +kernel
theorem dX6_clashOf_115 : decode cX6_clashOf 115 = .ok (.iload 7, 2) := by decide +kernel
theorem dX6_clashOf_117 : decode cX6_clashOf 117 = .ok (.if_icmp .le 7, 3) := by decide +kernel
theorem dX6_clashOf_120 : decode cX6_clashOf 120 = .ok (.iconst 1, 1) := by decide +kernel
theorem dX6_clashOf_121 : decode cX6_clashOf 121 = .ok (.goto 4, 3) := by decide +kernel
theorem dX6_clashOf_124 : decode cX6_clashOf 124 = .ok (.iconst 0, 1) := by decide +kernel
theorem dX6_clashOf_125 : decode cX6_clashOf 125 = .ok (.istore 10, 2) := by decide +kernel
theorem dX6_clashOf_127 : decode cX6_clashOf 127 = .ok (.iload 8, 2) := by decide +kernel
theorem dX6_clashOf_129 : decode cX6_clashOf 129 = .ok (.ifCond .eq 18, 3) := by decide +kernel
theorem dX6_clashOf_132 : decode cX6_clashOf 132 = .ok (.iload 9, 2) := by decide +kernel
theorem dX6_clashOf_134 : decode cX6_clashOf 134 = .ok (.ifCond .ne 13, 3) := by decide +kernel
theorem dX6_clashOf_137 : decode cX6_clashOf 137 = .ok (.iload 10, 2) := by decide +kernel
theorem dX6_clashOf_139 : decode cX6_clashOf 139 = .ok (.ifCond .ne 8, 3) := by decide +kernel
theorem dX6_clashOf_142 : decode cX6_clashOf 142 = .ok (.iload 6, 2) := by decide +kernel
theorem dX6_clashOf_144 : decode cX6_clashOf 144 = .ok (.goto 5, 3) := by decide +kernel
theorem dX6_clashOf_147 : decode cX6_clashOf 147 = .ok (.iload 5, 2) := by decide +kernel
theorem dX6_clashOf_149 : decode cX6_clashOf 149 = .ok (.istore 5, 2) := by decide +kernel
theorem dX6_clashOf_151 : decode cX6_clashOf 151 = .ok (.iinc 6 (-1), 3) := by decide +kernel
theorem dX6_clashOf_154 : decode cX6_clashOf 154 = .ok (.goto (-143), 3) := by decide +kernel
theorem dX6_clashOf_157 : decode cX6_clashOf 157 = .ok (.iload 5, 2) := by decide +kernel
theorem dX6_clashOf_159 : decode cX6_clashOf 159 = .ok (.ireturn, 1) := by decide +kernel
theorem dX6_book_0 : decode cX6_book 0 = .ok (.iload_n 2, 1) := by decide +kernel
theorem dX6_book_1 : decode cX6_book 1 = .ok (.iload_n 3, 1) := by decide +kernel
theorem dX6_book_2 : decode cX6_book 2 = .ok (.invokestatic 94, 3) := by decide +kernel
theorem dX6_book_5 : decode cX6_book 5 = .ok (.ifCond .eq 31, 3) := by decide +kernel
theorem dX6_book_8 : decode cX6_book 8 = .ok (.iload 5, 2) := by decide +kernel
theorem dX6_book_10 : decode cX6_book 10 = .ok (.aload_n 0, 1) := by decide +kernel
theorem dX6_book_11 : decode cX6_book 11 = .ok (.getfield 108, 3) := by decide +kernel
theorem dX6_book_14 : decode cX6_book 14 = .ok (.if_icmp .le 22, 3) := by decide +kernel
theorem dX6_book_17 : decode cX6_book 17 = .ok (.iload 6, 2) := by decide +kernel
theorem dX6_book_19 : decode cX6_book 19 = .ok (.iload 5, 2) := by decide +kernel
theorem dX6_book_21 : decode cX6_book 21 = .ok (.if_icmp .lt 15, 3) := by decide +kernel
theorem dX6_book_24 : decode cX6_book 24 = .ok (.iload 6, 2) := by decide +kernel
theorem dX6_book_26 : decode cX6_book 26 = .ok (.sipush 9999, 3) := by decide +kernel
theorem dX6_book_29 : decode cX6_book 29 = .ok (.if_icmp .gt 7, 3) := by decide +kernel
theorem dX6_book_32 : decode cX6_book 32 = .ok (.iconst 1, 1) := by decide +kernel
theorem dX6_book_33 : decode cX6_book 33 = .ok (.goto 4, 3) := by decide +kernel
theorem dX6_book_36 : decode cX6_book 36 = .ok (.iconst 0, 1) := by decide +kernel
theorem dX6_book_37 : decode cX6_book 37 = .ok (.istore 7, 2) := by decide +kernel
theorem dX6_book_39 : decode cX6_book 39 = .ok (.aload_n 0, 1) := by decide +kernel
theorem dX6_book_40 : decode cX6_book 40 = .ok (.aload_n 0, 1) := by decide +kernel
theorem dX6_book_41 : decode cX6_book 41 = .ok (.iload_n 1, 1) := by decide +kernel
theorem dX6_book_42 : decode cX6_book 42 = .ok (.invokevirtual 77, 3) := by decide +kernel
theorem dX6_book_45 : decode cX6_book 45 = .ok (.ifCond .ne 7, 3) := by decide +kernel
theorem dX6_book_48 : decode cX6_book 48 = .ok (.iconst 1, 1) := by decide +kernel
theorem dX6_book_49 : decode cX6_book 49 = .ok (.goto 13, 3) := by decide +kernel
theorem dX6_book_52 : decode cX6_book 52 = .ok (.iload 7, 2) := by decide +kernel
theorem dX6_book_54 : decode cX6_book 54 = .ok (.ifCond .eq 7, 3) := by decide +kernel
theorem dX6_book_57 : decode cX6_book 57 = .ok (.iconst 0, 1) := by decide +kernel
theorem dX6_book_58 : decode cX6_book 58 = .ok (.goto 4, 3) := by decide +kernel
theorem dX6_book_61 : decode cX6_book 61 = .ok (.iconst 2, 1) := by decide +kernel
theorem dX6_book_62 : decode cX6_book 62 = .ok (.invokevirtual 81, 3) := by decide +kernel
theorem dX6_book_65 : decode cX6_book 65 = .ok (.ifCond .eq 5, 3) := by decide +kernel
theorem dX6_book_68 : decode cX6_book 68 = .ok (.iconst 0, 1) := by decide +kernel
theorem dX6_book_69 : decode cX6_book 69 = .ok (.ireturn, 1) := by decide +kernel
theorem dX6_book_70 : decode cX6_book 70 = .ok (.iload_n 2, 1) := by decide +kernel
theorem dX6_book_71 : decode cX6_book 71 = .ok (.iload_n 3, 1) := by decide +kernel
theorem dX6_book_72 : decode cX6_book 72 = .ok (.iload 4, 2) := by decide +kernel
theorem dX6_book_74 : decode cX6_book 74 = .ok (.invokestatic 98, 3) := by decide +kernel
theorem dX6_book_77 : decode cX6_book 77 = .ok (.istore 8, 2) := by decide +kernel
theorem dX6_book_79 : decode cX6_book 79 = .ok (.aload_n 0, 1) := by decide +kernel
theorem dX6_book_80 : decode cX6_book 80 = .ok (.aload_n 0, 1) := by decide +kernel
theorem dX6_book_81 : decode cX6_book 81 = .ok (.iload_n 1, 1) := by decide +kernel
theorem dX6_book_82 : decode cX6_book 82 = .ok (.iload 8, 2) := by decide +kernel
theorem dX6_book_84 : decode cX6_book 84 = .ok (.iload 5, 2) := by decide +kernel
theorem dX6_book_86 : decode cX6_book 86 = .ok (.iload 6, 2) := by decide +kernel
theorem dX6_book_88 : decode cX6_book 88 = .ok (.invokevirtual 146, 3) := by decide +kernel
theorem dX6_book_91 : decode cX6_book 91 = .ok (.iconst (-1), 1) := by decide +kernel
theorem dX6_book_92 : decode cX6_book 92 = .ok (.if_icmp .eq 7, 3) := by decide +kernel
theorem dX6_book_95 : decode cX6_book 95 = .ok (.iconst 3, 1) := by decide +kernel
theorem dX6_book_96 : decode cX6_book 96 = .ok (.goto 17, 3) := by decide +kernel
theorem dX6_book_99 : decode cX6_book 99 = .ok (.aload_n 0, 1) := by decide +kernel
theorem dX6_book_100 : decode cX6_book 100 = .ok (.getfield 143, 3) := by decide +kernel
theorem dX6_book_103 : decode cX6_book 103 = .ok (.bipush 16, 2) := by decide +kernel
theorem dX6_book_105 : decode cX6_book 105 = .ok (.if_icmp .ne 7, 3) := by decide +kernel
theorem dX6_book_108 : decode cX6_book 108 = .ok (.iconst 4, 1) := by decide +kernel
theorem dX6_book_109 : decode cX6_book 109 = .ok (.goto 4, 3) := by decide +kernel
theorem dX6_book_112 : decode cX6_book 112 = .ok (.iconst 0, 1) := by decide +kernel
theorem dX6_book_113 : decode cX6_book 113 = .ok (.invokevirtual 81, 3) := by decide +kernel
theorem dX6_book_116 : decode cX6_book 116 = .ok (.ifCond .eq 5, 3) := by decide +kernel
theorem dX6_book_119 : decode cX6_book 119 = .ok (.iconst 0, 1) := by decide +kernel
theorem dX6_book_120 : decode cX6_book 120 = .ok (.ireturn, 1) := by decide +kernel
theorem dX6_book_121 : decode cX6_book 121 = .ok (.aload_n 0, 1) := by decide +kernel
theorem dX6_book_122 : decode cX6_book 122 = .ok (.getfield 51, 3) := by decide +kernel
theorem dX6_book_125 : decode cX6_book 125 = .ok (.aload_n 0, 1) := by decide +kernel
theorem dX6_book_126 : decode cX6_book 126 = .ok (.getfield 143, 3) := by decide +kernel
theorem dX6_book_129 : decode cX6_book 129 = .ok (.iload_n 1, 1) := by decide +kernel
theorem dX6_book_130 : decode cX6_book 130 = .ok (.iastore, 1) := by decide +kernel
theorem dX6_book_131 : decode cX6_book 131 = .ok (.aload_n 0, 1) := by decide +kernel
theorem dX6_book_132 : decode cX6_book 132 = .ok (.getfield 54, 3) := by decide +kernel
theorem dX6_book_135 : decode cX6_book 135 = .ok (.aload_n 0, 1) := by decide +kernel
theorem dX6_book_136 : decode cX6_book 136 = .ok (.getfield 143, 3) := by decide +kernel
theorem dX6_book_139 : decode cX6_book 139 = .ok (.iload 8, 2) := by decide +kernel
theorem dX6_book_141 : decode cX6_book 141 = .ok (.iastore, 1) := by decide +kernel
theorem dX6_book_142 : decode cX6_book 142 = .ok (.aload_n 0, 1) := by decide +kernel
theorem dX6_book_143 : decode cX6_book 143 = .ok (.getfield 57, 3) := by decide +kernel
theorem dX6_book_146 : decode cX6_book 146 = .ok (.aload_n 0, 1) := by decide +kernel
theorem dX6_book_147 : decode cX6_book 147 = .ok (.getfield 143, 3) := by decide +kernel
theorem dX6_book_150 : decode cX6_book 150 = .ok (.iload 5, 2) := by decide +kernel
theorem dX6_book_152 : decode cX6_book 152 = .ok (.iastore, 1) := by decide +kernel
theorem dX6_book_153 : decode cX6_book 153 = .ok (.aload_n 0, 1) := by decide +kernel
theorem dX6_book_154 : decode cX6_book 154 = .ok (.getfield 60, 3) := by decide +kernel
theorem dX6_book_157 : decode cX6_book 157 = .ok (.aload_n 0, 1) := by decide +kernel
theorem dX6_book_158 : decode cX6_book 158 = .ok (.getfield 143, 3) := by decide +kernel
theorem dX6_book_161 : decode cX6_book 161 = .ok (.iload 6, 2) := by decide +kernel
theorem dX6_book_163 : decode cX6_book 163 = .ok (.iastore, 1) := by decide +kernel
theorem dX6_book_164 : decode cX6_book 164 = .ok (.aload_n 0, 1) := by decide +kernel
theorem dX6_book_165 : decode cX6_book 165 = .ok (.dup, 1) := by decide +kernel
theorem dX6_book_166 : decode cX6_book 166 = .ok (.getfield 143, 3) := by decide +kernel
theorem dX6_book_169 : decode cX6_book 169 = .ok (.iconst 1, 1) := by decide +kernel
theorem dX6_book_170 : decode cX6_book 170 = .ok (.iadd, 1) := by decide +kernel
theorem dX6_book_171 : decode cX6_book 171 = .ok (.putfield 143, 3) := by decide +kernel
theorem dX6_book_174 : decode cX6_book 174 = .ok (.aload_n 0, 1) := by decide +kernel
theorem dX6_book_175 : decode cX6_book 175 = .ok (.getfield 143, 3) := by decide +kernel
theorem dX6_book_178 : decode cX6_book 178 = .ok (.iconst 1, 1) := by decide +kernel
theorem dX6_book_179 : decode cX6_book 179 = .ok (.isub, 1) := by decide +kernel
theorem dX6_book_180 : decode cX6_book 180 = .ok (.ireturn, 1) := by decide +kernel
theorem dX6_clash_0 : decode cX6_clash 0 = .ok (.aload_n 0, 1) := by decide +kernel
theorem dX6_clash_1 : decode cX6_clash 1 = .ok (.aload_n 0, 1) := by decide +kernel
theorem dX6_clash_2 : decode cX6_clash 2 = .ok (.iload_n 1, 1) := by decide +kernel
theorem dX6_clash_3 : decode cX6_clash 3 = .ok (.invokevirtual 77, 3) := by decide +kernel
theorem dX6_clash_6 : decode cX6_clash 6 = .ok (.ifCond .ne 7, 3) := by decide +kernel
theorem dX6_clash_9 : decode cX6_clash 9 = .ok (.iconst 1, 1) := by decide +kernel
theorem dX6_clash_10 : decode cX6_clash 10 = .ok (.goto 23, 3) := by decide +kernel
theorem dX6_clash_13 : decode cX6_clash 13 = .ok (.iload_n 2, 1) := by decide +kernel
theorem dX6_clash_14 : decode cX6_clash 14 = .ok (.iload_n 3, 1) := by decide +kernel
theorem dX6_clash_15 : decode cX6_clash 15 = .ok (.invokestatic 94, 3) := by decide +kernel
theorem dX6_clash_18 : decode cX6_clash 18 = .ok (.ifCond .eq 14, 3) := by decide +kernel
theorem dX6_clash_21 : decode cX6_clash 21 = .ok (.iload 6, 2) := by decide +kernel
theorem dX6_clash_23 : decode cX6_clash 23 = .ok (.iload 5, 2) := by decide +kernel
theorem dX6_clash_25 : decode cX6_clash 25 = .ok (.if_icmp .lt 7, 3) := by decide +kernel
theorem dX6_clash_28 : decode cX6_clash 28 = .ok (.iconst 0, 1) := by decide +kernel
theorem dX6_clash_29 : decode cX6_clash 29 = .ok (.goto 4, 3) := by decide +kernel
theorem dX6_clash_32 : decode cX6_clash 32 = .ok (.iconst 2, 1) := by decide +kernel
theorem dX6_clash_33 : decode cX6_clash 33 = .ok (.invokevirtual 81, 3) := by decide +kernel
theorem dX6_clash_36 : decode cX6_clash 36 = .ok (.ifCond .eq 5, 3) := by decide +kernel
theorem dX6_clash_39 : decode cX6_clash 39 = .ok (.iconst 0, 1) := by decide +kernel
theorem dX6_clash_40 : decode cX6_clash 40 = .ok (.ireturn, 1) := by decide +kernel
theorem dX6_clash_41 : decode cX6_clash 41 = .ok (.aload_n 0, 1) := by decide +kernel
theorem dX6_clash_42 : decode cX6_clash 42 = .ok (.iload_n 1, 1) := by decide +kernel
theorem dX6_clash_43 : decode cX6_clash 43 = .ok (.iload_n 2, 1) := by decide +kernel
theorem dX6_clash_44 : decode cX6_clash 44 = .ok (.iload_n 3, 1) := by decide +kernel
theorem dX6_clash_45 : decode cX6_clash 45 = .ok (.iload 4, 2) := by decide +kernel
theorem dX6_clash_47 : decode cX6_clash 47 = .ok (.invokestatic 98, 3) := by decide +kernel
theorem dX6_clash_50 : decode cX6_clash 50 = .ok (.iload 5, 2) := by decide +kernel
theorem dX6_clash_52 : decode cX6_clash 52 = .ok (.iload 6, 2) := by decide +kernel
theorem dX6_clash_54 : decode cX6_clash 54 = .ok (.invokevirtual 146, 3) := by decide +kernel
theorem dX6_clash_57 : decode cX6_clash 57 = .ok (.istore 7, 2) := by decide +kernel
theorem dX6_clash_59 : decode cX6_clash 59 = .ok (.aload_n 0, 1) := by decide +kernel
theorem dX6_clash_60 : decode cX6_clash 60 = .ok (.iload 7, 2) := by decide +kernel
theorem dX6_clash_62 : decode cX6_clash 62 = .ok (.iconst (-1), 1) := by decide +kernel
theorem dX6_clash_63 : decode cX6_clash 63 = .ok (.if_icmp .ne 7, 3) := by decide +kernel
theorem dX6_clash_66 : decode cX6_clash 66 = .ok (.iconst 3, 1) := by decide +kernel
theorem dX6_clash_67 : decode cX6_clash 67 = .ok (.goto 4, 3) := by decide +kernel
theorem dX6_clash_70 : decode cX6_clash 70 = .ok (.iconst 0, 1) := by decide +kernel
theorem dX6_clash_71 : decode cX6_clash 71 = .ok (.invokevirtual 81, 3) := by decide +kernel
theorem dX6_clash_74 : decode cX6_clash 74 = .ok (.ifCond .eq 7, 3) := by decide +kernel
theorem dX6_clash_77 : decode cX6_clash 77 = .ok (.iconst 0, 1) := by decide +kernel
theorem dX6_clash_78 : decode cX6_clash 78 = .ok (.goto 5, 3) := by decide +kernel
theorem dX6_clash_81 : decode cX6_clash 81 = .ok (.iload 7, 2) := by decide +kernel
theorem dX6_clash_83 : decode cX6_clash 83 = .ok (.ireturn, 1) := by decide +kernel
theorem dX6_cancel_0 : decode cX6_cancel 0 = .ok (.aload_n 0, 1) := by decide +kernel
theorem dX6_cancel_1 : decode cX6_cancel 1 = .ok (.iload_n 1, 1) := by decide +kernel
theorem dX6_cancel_2 : decode cX6_cancel 2 = .ok (.iconst 0, 1) := by decide +kernel
theorem dX6_cancel_3 : decode cX6_cancel 3 = .ok (.aload_n 0, 1) := by decide +kernel
theorem dX6_cancel_4 : decode cX6_cancel 4 = .ok (.getfield 143, 3) := by decide +kernel
theorem dX6_cancel_7 : decode cX6_cancel 7 = .ok (.iconst 1, 1) := by decide +kernel
theorem dX6_cancel_8 : decode cX6_cancel 8 = .ok (.isub, 1) := by decide +kernel
theorem dX6_cancel_9 : decode cX6_cancel 9 = .ok (.invokestatic 73, 3) := by decide +kernel
theorem dX6_cancel_12 : decode cX6_cancel 12 = .ok (.ifCond .ne 7, 3) := by decide +kernel
theorem dX6_cancel_15 : decode cX6_cancel 15 = .ok (.iconst 1, 1) := by decide +kernel
theorem dX6_cancel_16 : decode cX6_cancel 16 = .ok (.goto 30, 3) := by decide +kernel
theorem dX6_cancel_19 : decode cX6_cancel 19 = .ok (.aload_n 0, 1) := by decide +kernel
theorem dX6_cancel_20 : decode cX6_cancel 20 = .ok (.getfield 63, 3) := by decide +kernel
theorem dX6_cancel_23 : decode cX6_cancel 23 = .ok (.iload_n 1, 1) := by decide +kernel
theorem dX6_cancel_24 : decode cX6_cancel 24 = .ok (.baload, 1) := by decide +kernel
theorem dX6_cancel_25 : decode cX6_cancel 25 = .ok (.ifCond .ne 16, 3) := by decide +kernel
theorem dX6_cancel_28 : decode cX6_cancel 28 = .ok (.aload_n 0, 1) := by decide +kernel
theorem dX6_cancel_29 : decode cX6_cancel 29 = .ok (.getfield 57, 3) := by decide +kernel
theorem dX6_cancel_32 : decode cX6_cancel 32 = .ok (.iload_n 1, 1) := by decide +kernel
theorem dX6_cancel_33 : decode cX6_cancel 33 = .ok (.iaload, 1) := by decide +kernel
theorem dX6_cancel_34 : decode cX6_cancel 34 = .ok (.aload_n 0, 1) := by decide +kernel
theorem dX6_cancel_35 : decode cX6_cancel 35 = .ok (.getfield 108, 3) := by decide +kernel
theorem dX6_cancel_38 : decode cX6_cancel 38 = .ok (.if_icmp .gt 7, 3) := by decide +kernel
theorem dX6_cancel_41 : decode cX6_cancel 41 = .ok (.iconst 2, 1) := by decide +kernel
theorem dX6_cancel_42 : decode cX6_cancel 42 = .ok (.goto 4, 3) := by decide +kernel
theorem dX6_cancel_45 : decode cX6_cancel 45 = .ok (.iconst 0, 1) := by decide +kernel
theorem dX6_cancel_46 : decode cX6_cancel 46 = .ok (.invokevirtual 81, 3) := by decide +kernel
theorem dX6_cancel_49 : decode cX6_cancel 49 = .ok (.ifCond .eq 5, 3) := by decide +kernel
theorem dX6_cancel_52 : decode cX6_cancel 52 = .ok (.iconst 0, 1) := by decide +kernel
theorem dX6_cancel_53 : decode cX6_cancel 53 = .ok (.ireturn, 1) := by decide +kernel
theorem dX6_cancel_54 : decode cX6_cancel 54 = .ok (.aload_n 0, 1) := by decide +kernel
theorem dX6_cancel_55 : decode cX6_cancel 55 = .ok (.getfield 63, 3) := by decide +kernel
theorem dX6_cancel_58 : decode cX6_cancel 58 = .ok (.iload_n 1, 1) := by decide +kernel
theorem dX6_cancel_59 : decode cX6_cancel 59 = .ok (.iconst 1, 1) := by decide +kernel
theorem dX6_cancel_60 : decode cX6_cancel 60 = .ok (.bastore, 1) := by decide +kernel
theorem dX6_cancel_61 : decode cX6_cancel 61 = .ok (.iconst 0, 1) := by decide +kernel
theorem dX6_cancel_62 : decode cX6_cancel 62 = .ok (.istore_n 2, 1) := by decide +kernel
theorem dX6_cancel_63 : decode cX6_cancel 63 = .ok (.iconst 0, 1) := by decide +kernel
theorem dX6_cancel_64 : decode cX6_cancel 64 = .ok (.istore_n 3, 1) := by decide +kernel
theorem dX6_cancel_65 : decode cX6_cancel 65 = .ok (.iload_n 3, 1) := by decide +kernel
theorem dX6_cancel_66 : decode cX6_cancel 66 = .ok (.aload_n 0, 1) := by decide +kernel
theorem dX6_cancel_67 : decode cX6_cancel 67 = .ok (.getfield 143, 3) := by decide +kernel
theorem dX6_cancel_70 : decode cX6_cancel 70 = .ok (.if_icmp .ge 26, 3) := by decide +kernel
theorem dX6_cancel_73 : decode cX6_cancel 73 = .ok (.iload_n 2, 1) := by decide +kernel
theorem dX6_cancel_74 : decode cX6_cancel 74 = .ok (.aload_n 0, 1) := by decide +kernel
theorem dX6_cancel_75 : decode cX6_cancel 75 = .ok (.getfield 63, 3) := by decide +kernel
theorem dX6_cancel_78 : decode cX6_cancel 78 = .ok (.iload_n 3, 1) := by decide +kernel
theorem dX6_cancel_79 : decode cX6_cancel 79 = .ok (.baload, 1) := by decide +kernel
theorem dX6_cancel_80 : decode cX6_cancel 80 = .ok (.ifCond .eq 7, 3) := by decide +kernel
theorem dX6_cancel_83 : decode cX6_cancel 83 = .ok (.iconst 0, 1) := by decide +kernel
theorem dX6_cancel_84 : decode cX6_cancel 84 = .ok (.goto 4, 3) := by decide +kernel
theorem dX6_cancel_87 : decode cX6_cancel 87 = .ok (.iconst 1, 1) := by decide +kernel
theorem dX6_cancel_88 : decode cX6_cancel 88 = .ok (.iadd, 1) := by decide +kernel
theorem dX6_cancel_89 : decode cX6_cancel 89 = .ok (.istore_n 2, 1) := by decide +kernel
theorem dX6_cancel_90 : decode cX6_cancel 90 = .ok (.iinc 3 1, 3) := by decide +kernel
theorem dX6_cancel_93 : decode cX6_cancel 93 = .ok (.goto (-28), 3) := by decide +kernel
theorem dX6_cancel_96 : decode cX6_cancel 96 = .ok (.iload_n 2, 1) := by decide +kernel
theorem dX6_cancel_97 : decode cX6_cancel 97 = .ok (.ireturn, 1) := by decide +kernel
theorem dX6_pass_0 : decode cX6_pass 0 = .ok (.aload_n 0, 1) := by decide +kernel
theorem dX6_pass_1 : decode cX6_pass 1 = .ok (.iload_n 1, 1) := by decide +kernel
theorem dX6_pass_2 : decode cX6_pass 2 = .ok (.iconst 1, 1) := by decide +kernel
theorem dX6_pass_3 : decode cX6_pass 3 = .ok (.bipush 48, 2) := by decide +kernel
theorem dX6_pass_5 : decode cX6_pass 5 = .ok (.invokestatic 73, 3) := by decide +kernel
theorem dX6_pass_8 : decode cX6_pass 8 = .ok (.ifCond .eq 15, 3) := by decide +kernel
theorem dX6_pass_11 : decode cX6_pass 11 = .ok (.aload_n 0, 1) := by decide +kernel
theorem dX6_pass_12 : decode cX6_pass 12 = .ok (.getfield 108, 3) := by decide +kernel
theorem dX6_pass_15 : decode cX6_pass 15 = .ok (.iload_n 1, 1) := by decide +kernel
theorem dX6_pass_16 : decode cX6_pass 16 = .ok (.iadd, 1) := by decide +kernel
theorem dX6_pass_17 : decode cX6_pass 17 = .ok (.sipush 9999, 3) := by decide +kernel
theorem dX6_pass_20 : decode cX6_pass 20 = .ok (.if_icmp .le 7, 3) := by decide +kernel
theorem dX6_pass_23 : decode cX6_pass 23 = .ok (.iconst 1, 1) := by decide +kernel
theorem dX6_pass_24 : decode cX6_pass 24 = .ok (.goto 4, 3) := by decide +kernel
theorem dX6_pass_27 : decode cX6_pass 27 = .ok (.iconst 0, 1) := by decide +kernel
theorem dX6_pass_28 : decode cX6_pass 28 = .ok (.invokevirtual 81, 3) := by decide +kernel
theorem dX6_pass_31 : decode cX6_pass 31 = .ok (.ifCond .eq 5, 3) := by decide +kernel
theorem dX6_pass_34 : decode cX6_pass 34 = .ok (.iconst 0, 1) := by decide +kernel
theorem dX6_pass_35 : decode cX6_pass 35 = .ok (.ireturn, 1) := by decide +kernel
theorem dX6_pass_36 : decode cX6_pass 36 = .ok (.iconst 0, 1) := by decide +kernel
theorem dX6_pass_37 : decode cX6_pass 37 = .ok (.istore_n 2, 1) := by decide +kernel
theorem dX6_pass_38 : decode cX6_pass 38 = .ok (.iconst 0, 1) := by decide +kernel
theorem dX6_pass_39 : decode cX6_pass 39 = .ok (.istore_n 3, 1) := by decide +kernel
theorem dX6_pass_40 : decode cX6_pass 40 = .ok (.iload_n 3, 1) := by decide +kernel
theorem dX6_pass_41 : decode cX6_pass 41 = .ok (.iload_n 1, 1) := by decide +kernel
theorem dX6_pass_42 : decode cX6_pass 42 = .ok (.if_icmp .ge 84, 3) := by decide +kernel
theorem dX6_pass_45 : decode cX6_pass 45 = .ok (.aload_n 0, 1) := by decide +kernel
theorem dX6_pass_46 : decode cX6_pass 46 = .ok (.dup, 1) := by decide +kernel
theorem dX6_pass_47 : decode cX6_pass 47 = .ok (.getfield 108, 3) := by decide +kernel
theorem dX6_pass_50 : decode cX6_pass 50 = .ok (.iconst 1, 1) := by decide +kernel
theorem dX6_pass_51 : decode cX6_pass 51 = .ok (.iadd, 1) := by decide +kernel
theorem dX6_pass_52 : decode cX6_pass 52 = .ok (.putfield 108, 3) := by decide +kernel
theorem dX6_pass_55 : decode cX6_pass 55 = .ok (.iconst 0, 1) := by decide +kernel
theorem dX6_pass_56 : decode cX6_pass 56 = .ok (.istore 4, 2) := by decide +kernel
theorem dX6_pass_58 : decode cX6_pass 58 = .ok (.iload 4, 2) := by decide +kernel
theorem dX6_pass_60 : decode cX6_pass 60 = .ok (.aload_n 0, 1) := by decide +kernel
theorem dX6_pass_61 : decode cX6_pass 61 = .ok (.getfield 143, 3) := by decide +kernel
theorem dX6_pass_64 : decode cX6_pass 64 = .ok (.if_icmp .ge 56, 3) := by decide +kernel
theorem dX6_pass_67 : decode cX6_pass 67 = .ok (.aload_n 0, 1) := by decide +kernel
theorem dX6_pass_68 : decode cX6_pass 68 = .ok (.getfield 63, 3) := by decide +kernel
theorem dX6_pass_71 : decode cX6_pass 71 = .ok (.iload 4, 2) := by decide +kernel
theorem dX6_pass_73 : decode cX6_pass 73 = .ok (.baload, 1) := by decide +kernel
theorem dX6_pass_74 : decode cX6_pass 74 = .ok (.ifCond .ne 40, 3) := by decide +kernel
theorem dX6_pass_77 : decode cX6_pass 77 = .ok (.aload_n 0, 1) := by decide +kernel
theorem dX6_pass_78 : decode cX6_pass 78 = .ok (.getfield 57, 3) := by decide +kernel
theorem dX6_pass_81 : decode cX6_pass 81 = .ok (.iload 4, 2) := by decide +kernel
theorem dX6_pass_83 : decode cX6_pass 83 = .ok (.iaload, 1) := by decide +kernel
theorem dX6_pass_84 : decode cX6_pass 84 = .ok (.aload_n 0, 1) := by decide +kernel
theorem dX6_pass_85 : decode cX6_pass 85 = .ok (.getfield 108, 3) := by decide +kernel
theorem dX6_pass_88 : decode cX6_pass 88 = .ok (.if_icmp .ne 26, 3) := by decide +kernel
theorem dX6_pass_91 : decode cX6_pass 91 = .ok (.aload_n 0, 1) := by decide +kernel
theorem dX6_pass_92 : decode cX6_pass 92 = .ok (.aload_n 0, 1) := by decide +kernel
theorem dX6_pass_93 : decode cX6_pass 93 = .ok (.getfield 51, 3) := by decide +kernel
theorem dX6_pass_96 : decode cX6_pass 96 = .ok (.iload 4, 2) := by decide +kernel
theorem dX6_pass_98 : decode cX6_pass 98 = .ok (.iaload, 1) := by decide +kernel
theorem dX6_pass_99 : decode cX6_pass 99 = .ok (.aload_n 0, 1) := by decide +kernel
theorem dX6_pass_100 : decode cX6_pass 100 = .ok (.getfield 54, 3) := by decide +kernel
theorem dX6_pass_103 : decode cX6_pass 103 = .ok (.iload 4, 2) := by decide +kernel
theorem dX6_pass_105 : decode cX6_pass 105 = .ok (.iaload, 1) := by decide +kernel
theorem dX6_pass_106 : decode cX6_pass 106 = .ok (.invokevirtual 102, 3) := by decide +kernel
theorem dX6_pass_109 : decode cX6_pass 109 = .ok (.istore 5, 2) := by decide +kernel
theorem dX6_pass_111 : decode cX6_pass 111 = .ok (.iinc 2 1, 3) := by decide +kernel
theorem dX6_pass_114 : decode cX6_pass 114 = .ok (.iinc 4 1, 3) := by decide +kernel
theorem dX6_pass_117 : decode cX6_pass 117 = .ok (.goto (-59), 3) := by decide +kernel
theorem dX6_pass_120 : decode cX6_pass 120 = .ok (.iinc 3 1, 3) := by decide +kernel
theorem dX6_pass_123 : decode cX6_pass 123 = .ok (.goto (-83), 3) := by decide +kernel
theorem dX6_pass_126 : decode cX6_pass 126 = .ok (.iload_n 2, 1) := by decide +kernel
theorem dX6_pass_127 : decode cX6_pass 127 = .ok (.ireturn, 1) := by decide +kernel
theorem dX6_hour_0 : decode cX6_hour 0 = .ok (.aload_n 0, 1) := by decide +kernel
theorem dX6_hour_1 : decode cX6_hour 1 = .ok (.iconst 0, 1) := by decide +kernel
theorem dX6_hour_2 : decode cX6_hour 2 = .ok (.putfield 67, 3) := by decide +kernel
theorem dX6_hour_5 : decode cX6_hour 5 = .ok (.aload_n 0, 1) := by decide +kernel
theorem dX6_hour_6 : decode cX6_hour 6 = .ok (.getfield 108, 3) := by decide +kernel
theorem dX6_hour_9 : decode cX6_hour 9 = .ok (.ireturn, 1) := by decide +kernel
theorem dX6_nextBooking_0 : decode cX6_nextBooking 0 = .ok (.aload_n 0, 1) := by decide +kernel
theorem dX6_nextBooking_1 : decode cX6_nextBooking 1 = .ok (.iload_n 1, 1) := by decide +kernel
theorem dX6_nextBooking_2 : decode cX6_nextBooking 2 = .ok (.invokevirtual 105, 3) := by decide +kernel
theorem dX6_nextBooking_5 : decode cX6_nextBooking 5 = .ok (.ifCond .eq 5, 3) := by decide +kernel
theorem dX6_nextBooking_8 : decode cX6_nextBooking 8 = .ok (.iconst 0, 1) := by decide +kernel
theorem dX6_nextBooking_9 : decode cX6_nextBooking 9 = .ok (.ireturn, 1) := by decide +kernel
theorem dX6_nextBooking_10 : decode cX6_nextBooking 10 = .ok (.iconst (-1), 1) := by decide +kernel
theorem dX6_nextBooking_11 : decode cX6_nextBooking 11 = .ok (.istore_n 2, 1) := by decide +kernel
theorem dX6_nextBooking_12 : decode cX6_nextBooking 12 = .ok (.iconst 0, 1) := by decide +kernel
theorem dX6_nextBooking_13 : decode cX6_nextBooking 13 = .ok (.istore_n 3, 1) := by decide +kernel
theorem dX6_nextBooking_14 : decode cX6_nextBooking 14 = .ok (.iload_n 3, 1) := by decide +kernel
theorem dX6_nextBooking_15 : decode cX6_nextBooking 15 = .ok (.aload_n 0, 1) := by decide +kernel
theorem dX6_nextBooking_16 : decode cX6_nextBooking 16 = .ok (.getfield 143, 3) := by decide +kernel
theorem dX6_nextBooking_19 : decode cX6_nextBooking 19 = .ok (.if_icmp .ge 79, 3) := by decide +kernel
theorem dX6_nextBooking_22 : decode cX6_nextBooking 22 = .ok (.aload_n 0, 1) := by decide +kernel
theorem dX6_nextBooking_23 : decode cX6_nextBooking 23 = .ok (.getfield 51, 3) := by decide +kernel
theorem dX6_nextBooking_26 : decode cX6_nextBooking 26 = .ok (.iload_n 3, 1) := by decide +kernel
theorem dX6_nextBooking_27 : decode cX6_nextBooking 27 = .ok (.iaload, 1) := by decide +kernel
theorem dX6_nextBooking_28 : decode cX6_nextBooking 28 = .ok (.iload_n 1, 1) := by decide +kernel
theorem dX6_nextBooking_29 : decode cX6_nextBooking 29 = .ok (.if_icmp .ne 29, 3) := by decide +kernel
theorem dX6_nextBooking_32 : decode cX6_nextBooking 32 = .ok (.aload_n 0, 1) := by decide +kernel
theorem dX6_nextBooking_33 : decode cX6_nextBooking 33 = .ok (.getfield 63, 3) := by decide +kernel
theorem dX6_nextBooking_36 : decode cX6_nextBooking 36 = .ok (.iload_n 3, 1) := by decide +kernel
theorem dX6_nextBooking_37 : decode cX6_nextBooking 37 = .ok (.baload, 1) := by decide +kernel
theorem dX6_nextBooking_38 : decode cX6_nextBooking 38 = .ok (.ifCond .ne 20, 3) := by decide +kernel
theorem dX6_nextBooking_41 : decode cX6_nextBooking 41 = .ok (.aload_n 0, 1) := by decide +kernel
theorem dX6_nextBooking_42 : decode cX6_nextBooking 42 = .ok (.getfield 57, 3) := by decide +kernel
theorem dX6_nextBooking_45 : decode cX6_nextBooking 45 = .ok (.iload_n 3, 1) := by decide +kernel
theorem dX6_nextBooking_46 : decode cX6_nextBooking 46 = .ok (.iaload, 1) := by decide +kernel
theorem dX6_nextBooking_47 : decode cX6_nextBooking 47 = .ok (.aload_n 0, 1) := by decide +kernel
theorem dX6_nextBooking_48 : decode cX6_nextBooking 48 = .ok (.getfield 108, 3) := by decide +kernel
theorem dX6_nextBooking_51 : decode cX6_nextBooking 51 = .ok (.if_icmp .le 7, 3) := by decide +kernel
theorem dX6_nextBooking_54 : decode cX6_nextBooking 54 = .ok (.iconst 1, 1) := by decide +kernel
theorem dX6_nextBooking_55 : decode cX6_nextBooking 55 = .ok (.goto 4, 3) := by decide +kernel
theorem dX6_nextBooking_58 : decode cX6_nextBooking 58 = .ok (.iconst 0, 1) := by decide +kernel
theorem dX6_nextBooking_59 : decode cX6_nextBooking 59 = .ok (.istore 4, 2) := by decide +kernel
theorem dX6_nextBooking_61 : decode cX6_nextBooking 61 = .ok (.iload 4, 2) := by decide +kernel
theorem dX6_nextBooking_63 : decode cX6_nextBooking 63 = .ok (.ifCond .eq 27, 3) := by decide +kernel
theorem dX6_nextBooking_66 : decode cX6_nextBooking 66 = .ok (.iload_n 2, 1) := by decide +kernel
theorem dX6_nextBooking_67 : decode cX6_nextBooking 67 = .ok (.iconst (-1), 1) := by decide +kernel
theorem dX6_nextBooking_68 : decode cX6_nextBooking 68 = .ok (.if_icmp .eq 18, 3) := by decide +kernel
theorem dX6_nextBooking_71 : decode cX6_nextBooking 71 = .ok (.aload_n 0, 1) := by decide +kernel
theorem dX6_nextBooking_72 : decode cX6_nextBooking 72 = .ok (.getfield 57, 3) := by decide +kernel
theorem dX6_nextBooking_75 : decode cX6_nextBooking 75 = .ok (.iload_n 3, 1) := by decide +kernel
theorem dX6_nextBooking_76 : decode cX6_nextBooking 76 = .ok (.iaload, 1) := by decide +kernel
theorem dX6_nextBooking_77 : decode cX6_nextBooking 77 = .ok (.aload_n 0, 1) := by decide +kernel
theorem dX6_nextBooking_78 : decode cX6_nextBooking 78 = .ok (.getfield 57, 3) := by decide +kernel
theorem dX6_nextBooking_81 : decode cX6_nextBooking 81 = .ok (.iload_n 2, 1) := by decide +kernel
theorem dX6_nextBooking_82 : decode cX6_nextBooking 82 = .ok (.iaload, 1) := by decide +kernel
theorem dX6_nextBooking_83 : decode cX6_nextBooking 83 = .ok (.if_icmp .ge 7, 3) := by decide +kernel
theorem dX6_nextBooking_86 : decode cX6_nextBooking 86 = .ok (.iload_n 3, 1) := by decide +kernel
theorem dX6_nextBooking_87 : decode cX6_nextBooking 87 = .ok (.goto 4, 3) := by decide +kernel
theorem dX6_nextBooking_90 : decode cX6_nextBooking 90 = .ok (.iload_n 2, 1) := by decide +kernel
theorem dX6_nextBooking_91 : decode cX6_nextBooking 91 = .ok (.istore_n 2, 1) := by decide +kernel
theorem dX6_nextBooking_92 : decode cX6_nextBooking 92 = .ok (.iinc 3 1, 3) := by decide +kernel
theorem dX6_nextBooking_95 : decode cX6_nextBooking 95 = .ok (.goto (-81), 3) := by decide +kernel
theorem dX6_nextBooking_98 : decode cX6_nextBooking 98 = .ok (.aload_n 0, 1) := by decide +kernel
theorem dX6_nextBooking_99 : decode cX6_nextBooking 99 = .ok (.iload_n 2, 1) := by decide +kernel
theorem dX6_nextBooking_100 : decode cX6_nextBooking 100 = .ok (.iconst (-1), 1) := by decide +kernel
theorem dX6_nextBooking_101 : decode cX6_nextBooking 101 = .ok (.if_icmp .ne 7, 3) := by decide +kernel
theorem dX6_nextBooking_104 : decode cX6_nextBooking 104 = .ok (.iconst 2, 1) := by decide +kernel
theorem dX6_nextBooking_105 : decode cX6_nextBooking 105 = .ok (.goto 4, 3) := by decide +kernel
theorem dX6_nextBooking_108 : decode cX6_nextBooking 108 = .ok (.iconst 0, 1) := by decide +kernel
theorem dX6_nextBooking_109 : decode cX6_nextBooking 109 = .ok (.invokevirtual 81, 3) := by decide +kernel
theorem dX6_nextBooking_112 : decode cX6_nextBooking 112 = .ok (.ifCond .eq 7, 3) := by decide +kernel
theorem dX6_nextBooking_115 : decode cX6_nextBooking 115 = .ok (.iconst 0, 1) := by decide +kernel
theorem dX6_nextBooking_116 : decode cX6_nextBooking 116 = .ok (.goto 4, 3) := by decide +kernel
theorem dX6_nextBooking_119 : decode cX6_nextBooking 119 = .ok (.iload_n 2, 1) := by decide +kernel
theorem dX6_nextBooking_120 : decode cX6_nextBooking 120 = .ok (.ireturn, 1) := by decide +kernel
theorem dX6_usableShare_0 : decode cX6_usableShare 0 = .ok (.aload_n 0, 1) := by decide +kernel
theorem dX6_usableShare_1 : decode cX6_usableShare 1 = .ok (.aload_n 0, 1) := by decide +kernel
theorem dX6_usableShare_2 : decode cX6_usableShare 2 = .ok (.getfield 87, 3) := by decide +kernel
theorem dX6_usableShare_5 : decode cX6_usableShare 5 = .ok (.ifCond .ne 7, 3) := by decide +kernel
theorem dX6_usableShare_8 : decode cX6_usableShare 8 = .ok (.iconst 1, 1) := by decide +kernel
theorem dX6_usableShare_9 : decode cX6_usableShare 9 = .ok (.goto 4, 3) := by decide +kernel
theorem dX6_usableShare_12 : decode cX6_usableShare 12 = .ok (.iconst 0, 1) := by decide +kernel
theorem dX6_usableShare_13 : decode cX6_usableShare 13 = .ok (.invokevirtual 81, 3) := by decide +kernel
theorem dX6_usableShare_16 : decode cX6_usableShare 16 = .ok (.ifCond .eq 7, 3) := by decide +kernel
theorem dX6_usableShare_19 : decode cX6_usableShare 19 = .ok (.fconst 0, 1) := by decide +kernel
theorem dX6_usableShare_20 : decode cX6_usableShare 20 = .ok (.goto 14, 3) := by decide +kernel
theorem dX6_usableShare_23 : decode cX6_usableShare 23 = .ok (.aload_n 0, 1) := by decide +kernel
theorem dX6_usableShare_24 : decode cX6_usableShare 24 = .ok (.invokevirtual 139, 3) := by decide +kernel
theorem dX6_usableShare_27 : decode cX6_usableShare 27 = .ok (.i2f, 1) := by decide +kernel
theorem dX6_usableShare_28 : decode cX6_usableShare 28 = .ok (.aload_n 0, 1) := by decide +kernel
theorem dX6_usableShare_29 : decode cX6_usableShare 29 = .ok (.getfield 87, 3) := by decide +kernel
theorem dX6_usableShare_32 : decode cX6_usableShare 32 = .ok (.i2f, 1) := by decide +kernel
theorem dX6_usableShare_33 : decode cX6_usableShare 33 = .ok (.fdiv, 1) := by decide +kernel
theorem dX6_usableShare_34 : decode cX6_usableShare 34 = .ok (.freturn, 1) := by decide +kernel
end
section
theorem dL_addRoom_0 : decode cL_addRoom 0 = .ok (.aload_n 1, 1) := by decide +kernel
theorem dL_addRoom_1 : decode cL_addRoom 1 = .ok (.iconst 0, 1) := by decide +kernel
theorem dL_addRoom_2 : decode cL_addRoom 2 = .ok (.aload_n 0, 1) := by decide +kernel
theorem dL_addRoom_3 : decode cL_addRoom 3 = .ok (.invokevirtual 7, 3) := by decide +kernel
theorem dL_addRoom_6 : decode cL_addRoom 6 = .ok (.i2l, 1) := by decide +kernel
theorem dL_addRoom_7 : decode cL_addRoom 7 = .ok (.lastore, 1) := by decide +kernel
theorem dL_addRoom_8 : decode cL_addRoom 8 = .ok (.goto 6, 3) := by decide +kernel
theorem dL_addRoom_11 : decode cL_addRoom 11 = .ok (.astore_n 2, 1) := by decide +kernel
theorem dL_addRoom_12 : decode cL_addRoom 12 = .ok (.iconst 1, 1) := by decide +kernel
theorem dL_addRoom_13 : decode cL_addRoom 13 = .ok (.ireturn, 1) := by decide +kernel
theorem dL_addRoom_14 : decode cL_addRoom 14 = .ok (.iconst 0, 1) := by decide +kernel
theorem dL_addRoom_15 : decode cL_addRoom 15 = .ok (.ireturn, 1) := by decide +kernel
theorem dL_setState_0 : decode cL_setState 0 = .ok (.aload 5, 2) := by decide +kernel
theorem dL_setState_2 : decode cL_setState 2 = .ok (.iconst 0, 1) := by decide +kernel
theorem dL_setState_3 : decode cL_setState 3 = .ok (.aload_n 0, 1) := by decide +kernel
theorem dL_setState_4 : decode cL_setState 4 = .ok (.iload_n 1, 1) := by decide +kernel
theorem dL_setState_5 : decode cL_setState 5 = .ok (.iload_n 2, 1) := by decide +kernel
theorem dL_setState_6 : decode cL_setState 6 = .ok (.iload_n 3, 1) := by decide +kernel
theorem dL_setState_7 : decode cL_setState 7 = .ok (.iload 4, 2) := by decide +kernel
theorem dL_setState_9 : decode cL_setState 9 = .ok (.invokevirtual 15, 3) := by decide +kernel
theorem dL_setState_12 : decode cL_setState 12 = .ok (.i2l, 1) := by decide +kernel
theorem dL_setState_13 : decode cL_setState 13 = .ok (.lastore, 1) := by decide +kernel
theorem dL_setState_14 : decode cL_setState 14 = .ok (.goto 11, 3) := by decide +kernel
theorem dL_setState_17 : decode cL_setState 17 = .ok (.astore 6, 2) := by decide +kernel
theorem dL_setState_19 : decode cL_setState 19 = .ok (.iconst 1, 1) := by decide +kernel
theorem dL_setState_20 : decode cL_setState 20 = .ok (.ireturn, 1) := by decide +kernel
theorem dL_setState_21 : decode cL_setState 21 = .ok (.astore 6, 2) := by decide +kernel
theorem dL_setState_23 : decode cL_setState 23 = .ok (.iconst 2, 1) := by decide +kernel
theorem dL_setState_24 : decode cL_setState 24 = .ok (.ireturn, 1) := by decide +kernel
theorem dL_setState_25 : decode cL_setState 25 = .ok (.iconst 0, 1) := by decide +kernel
theorem dL_setState_26 : decode cL_setState 26 = .ok (.ireturn, 1) := by decide +kernel
theorem dL_curtains_0 : decode cL_curtains 0 = .ok (.aload_n 2, 1) := by decide +kernel
theorem dL_curtains_1 : decode cL_curtains 1 = .ok (.iconst 0, 1) := by decide +kernel
theorem dL_curtains_2 : decode cL_curtains 2 = .ok (.aload_n 0, 1) := by decide +kernel
theorem dL_curtains_3 : decode cL_curtains 3 = .ok (.iload_n 1, 1) := by decide +kernel
theorem dL_curtains_4 : decode cL_curtains 4 = .ok (.invokevirtual 23, 3) := by decide +kernel
theorem dL_curtains_7 : decode cL_curtains 7 = .ok (.i2l, 1) := by decide +kernel
theorem dL_curtains_8 : decode cL_curtains 8 = .ok (.lastore, 1) := by decide +kernel
theorem dL_curtains_9 : decode cL_curtains 9 = .ok (.goto 6, 3) := by decide +kernel
theorem dL_curtains_12 : decode cL_curtains 12 = .ok (.astore_n 3, 1) := by decide +kernel
theorem dL_curtains_13 : decode cL_curtains 13 = .ok (.iconst 1, 1) := by decide +kernel
theorem dL_curtains_14 : decode cL_curtains 14 = .ok (.ireturn, 1) := by decide +kernel
theorem dL_curtains_15 : decode cL_curtains 15 = .ok (.iconst 0, 1) := by decide +kernel
theorem dL_curtains_16 : decode cL_curtains 16 = .ok (.ireturn, 1) := by decide +kernel
theorem dL_seats_0 : decode cL_seats 0 = .ok (.aload_n 2, 1) := by decide +kernel
theorem dL_seats_1 : decode cL_seats 1 = .ok (.iconst 0, 1) := by decide +kernel
theorem dL_seats_2 : decode cL_seats 2 = .ok (.aload_n 0, 1) := by decide +kernel
theorem dL_seats_3 : decode cL_seats 3 = .ok (.iload_n 1, 1) := by decide +kernel
theorem dL_seats_4 : decode cL_seats 4 = .ok (.invokevirtual 27, 3) := by decide +kernel
theorem dL_seats_7 : decode cL_seats 7 = .ok (.i2l, 1) := by decide +kernel
theorem dL_seats_8 : decode cL_seats 8 = .ok (.lastore, 1) := by decide +kernel
theorem dL_seats_9 : decode cL_seats 9 = .ok (.goto 6, 3) := by decide +kernel
theorem dL_seats_12 : decode cL_seats 12 = .ok (.astore_n 3, 1) := by decide +kernel
theorem dL_seats_13 : decode cL_seats 13 = .ok (.iconst 1, 1) := by decide +kernel
theorem dL_seats_14 : decode cL_seats 14 = .ok (.ireturn, 1) := by decide +kernel
theorem dL_seats_15 : decode cL_seats 15 = .ok (.iconst 0, 1) := by decide +kernel
theorem dL_seats_16 : decode cL_seats 16 = .ok (.ireturn, 1) := by decide +kernel
theorem dL_areOpen_0 : decode cL_areOpen 0 = .ok (.aload_n 2, 1) := by decide +kernel
theorem dL_areOpen_1 : decode cL_areOpen 1 = .ok (.iconst 0, 1) := by decide +kernel
theorem dL_areOpen_2 : decode cL_areOpen 2 = .ok (.aload_n 0, 1) := by decide +kernel
theorem dL_areOpen_3 : decode cL_areOpen 3 = .ok (.iload_n 1, 1) := by decide +kernel
theorem dL_areOpen_4 : decode cL_areOpen 4 = .ok (.invokevirtual 30, 3) := by decide +kernel
theorem dL_areOpen_7 : decode cL_areOpen 7 = .ok (.ifCond .eq 7, 3) := by decide +kernel
theorem dL_areOpen_10 : decode cL_areOpen 10 = .ok (.lconst 1, 1) := by decide +kernel
theorem dL_areOpen_11 : decode cL_areOpen 11 = .ok (.goto 4, 3) := by decide +kernel
theorem dL_areOpen_14 : decode cL_areOpen 14 = .ok (.lconst 0, 1) := by decide +kernel
theorem dL_areOpen_15 : decode cL_areOpen 15 = .ok (.lastore, 1) := by decide +kernel
theorem dL_areOpen_16 : decode cL_areOpen 16 = .ok (.goto 6, 3) := by decide +kernel
theorem dL_areOpen_19 : decode cL_areOpen 19 = .ok (.astore_n 3, 1) := by decide +kernel
theorem dL_areOpen_20 : decode cL_areOpen 20 = .ok (.iconst 1, 1) := by decide +kernel
theorem dL_areOpen_21 : decode cL_areOpen 21 = .ok (.ireturn, 1) := by decide +kernel
theorem dL_areOpen_22 : decode cL_areOpen 22 = .ok (.iconst 0, 1) := by decide +kernel
theorem dL_areOpen_23 : decode cL_areOpen 23 = .ok (.ireturn, 1) := by decide +kernel
theorem dL_changes_0 : decode cL_changes 0 = .ok (.aload_n 2, 1) := by decide +kernel
theorem dL_changes_1 : decode cL_changes 1 = .ok (.iconst 0, 1) := by decide +kernel
theorem dL_changes_2 : decode cL_changes 2 = .ok (.aload_n 0, 1) := by decide +kernel
theorem dL_changes_3 : decode cL_changes 3 = .ok (.iload_n 1, 1) := by decide +kernel
theorem dL_changes_4 : decode cL_changes 4 = .ok (.invokevirtual 34, 3) := by decide +kernel
theorem dL_changes_7 : decode cL_changes 7 = .ok (.i2l, 1) := by decide +kernel
theorem dL_changes_8 : decode cL_changes 8 = .ok (.lastore, 1) := by decide +kernel
theorem dL_changes_9 : decode cL_changes 9 = .ok (.goto 6, 3) := by decide +kernel
theorem dL_changes_12 : decode cL_changes 12 = .ok (.astore_n 3, 1) := by decide +kernel
theorem dL_changes_13 : decode cL_changes 13 = .ok (.iconst 1, 1) := by decide +kernel
theorem dL_changes_14 : decode cL_changes 14 = .ok (.ireturn, 1) := by decide +kernel
theorem dL_changes_15 : decode cL_changes 15 = .ok (.iconst 0, 1) := by decide +kernel
theorem dL_changes_16 : decode cL_changes 16 = .ok (.ireturn, 1) := by decide +kernel
theorem dL_measure_0 : decode cL_measure 0 = .ok (.aload 7, 2) := by decide +kernel
theorem dL_measure_2 : decode cL_measure 2 = .ok (.iconst 0, 1) := by decide +kernel
theorem dL_measure_3 : decode cL_measure 3 = .ok (.aload_n 0, 1) := by decide +kernel
theorem dL_measure_4 : decode cL_measure 4 = .ok (.iload_n 1, 1) := by decide +kernel
theorem dL_measure_5 : decode cL_measure 5 = .ok (.iload_n 2, 1) := by decide +kernel
theorem dL_measure_6 : decode cL_measure 6 = .ok (.iload_n 3, 1) := by decide +kernel
theorem dL_measure_7 : decode cL_measure 7 = .ok (.iload 4, 2) := by decide +kernel
theorem dL_measure_9 : decode cL_measure 9 = .ok (.iload 5, 2) := by decide +kernel
theorem dL_measure_11 : decode cL_measure 11 = .ok (.iload 6, 2) := by decide +kernel
theorem dL_measure_13 : decode cL_measure 13 = .ok (.invokevirtual 37, 3) := by decide +kernel
theorem dL_measure_16 : decode cL_measure 16 = .ok (.i2l, 1) := by decide +kernel
theorem dL_measure_17 : decode cL_measure 17 = .ok (.lastore, 1) := by decide +kernel
theorem dL_measure_18 : decode cL_measure 18 = .ok (.goto 15, 3) := by decide +kernel
theorem dL_measure_21 : decode cL_measure 21 = .ok (.astore 8, 2) := by decide +kernel
theorem dL_measure_23 : decode cL_measure 23 = .ok (.iconst 1, 1) := by decide +kernel
theorem dL_measure_24 : decode cL_measure 24 = .ok (.ireturn, 1) := by decide +kernel
theorem dL_measure_25 : decode cL_measure 25 = .ok (.astore 8, 2) := by decide +kernel
theorem dL_measure_27 : decode cL_measure 27 = .ok (.iconst 2, 1) := by decide +kernel
theorem dL_measure_28 : decode cL_measure 28 = .ok (.ireturn, 1) := by decide +kernel
theorem dL_measure_29 : decode cL_measure 29 = .ok (.astore 8, 2) := by decide +kernel
theorem dL_measure_31 : decode cL_measure 31 = .ok (.iconst 3, 1) := by decide +kernel
theorem dL_measure_32 : decode cL_measure 32 = .ok (.ireturn, 1) := by decide +kernel
theorem dL_measure_33 : decode cL_measure 33 = .ok (.iconst 0, 1) := by decide +kernel
theorem dL_measure_34 : decode cL_measure 34 = .ok (.ireturn, 1) := by decide +kernel
theorem dL_sample_0 : decode cL_sample 0 = .ok (.aload_n 3, 1) := by decide +kernel
theorem dL_sample_1 : decode cL_sample 1 = .ok (.iconst 0, 1) := by decide +kernel
theorem dL_sample_2 : decode cL_sample 2 = .ok (.aload_n 0, 1) := by decide +kernel
theorem dL_sample_3 : decode cL_sample 3 = .ok (.iload_n 1, 1) := by decide +kernel
theorem dL_sample_4 : decode cL_sample 4 = .ok (.iload_n 2, 1) := by decide +kernel
theorem dL_sample_5 : decode cL_sample 5 = .ok (.invokevirtual 41, 3) := by decide +kernel
theorem dL_sample_8 : decode cL_sample 8 = .ok (.i2l, 1) := by decide +kernel
theorem dL_sample_9 : decode cL_sample 9 = .ok (.lastore, 1) := by decide +kernel
theorem dL_sample_10 : decode cL_sample 10 = .ok (.goto 11, 3) := by decide +kernel
theorem dL_sample_13 : decode cL_sample 13 = .ok (.astore 4, 2) := by decide +kernel
theorem dL_sample_15 : decode cL_sample 15 = .ok (.iconst 1, 1) := by decide +kernel
theorem dL_sample_16 : decode cL_sample 16 = .ok (.ireturn, 1) := by decide +kernel
theorem dL_sample_17 : decode cL_sample 17 = .ok (.astore 4, 2) := by decide +kernel
theorem dL_sample_19 : decode cL_sample 19 = .ok (.iconst 2, 1) := by decide +kernel
theorem dL_sample_20 : decode cL_sample 20 = .ok (.ireturn, 1) := by decide +kernel
theorem dL_sample_21 : decode cL_sample 21 = .ok (.iconst 0, 1) := by decide +kernel
theorem dL_sample_22 : decode cL_sample 22 = .ok (.ireturn, 1) := by decide +kernel
theorem dL_age_0 : decode cL_age 0 = .ok (.aload_n 2, 1) := by decide +kernel
theorem dL_age_1 : decode cL_age 1 = .ok (.iconst 0, 1) := by decide +kernel
theorem dL_age_2 : decode cL_age 2 = .ok (.aload_n 0, 1) := by decide +kernel
theorem dL_age_3 : decode cL_age 3 = .ok (.iload_n 1, 1) := by decide +kernel
theorem dL_age_4 : decode cL_age 4 = .ok (.invokevirtual 47, 3) := by decide +kernel
theorem dL_age_7 : decode cL_age 7 = .ok (.i2l, 1) := by decide +kernel
theorem dL_age_8 : decode cL_age 8 = .ok (.lastore, 1) := by decide +kernel
theorem dL_age_9 : decode cL_age 9 = .ok (.goto 6, 3) := by decide +kernel
theorem dL_age_12 : decode cL_age 12 = .ok (.astore_n 3, 1) := by decide +kernel
theorem dL_age_13 : decode cL_age 13 = .ok (.iconst 1, 1) := by decide +kernel
theorem dL_age_14 : decode cL_age 14 = .ok (.ireturn, 1) := by decide +kernel
theorem dL_age_15 : decode cL_age 15 = .ok (.iconst 0, 1) := by decide +kernel
theorem dL_age_16 : decode cL_age 16 = .ok (.ireturn, 1) := by decide +kernel
theorem dL_latest_0 : decode cL_latest 0 = .ok (.aload 6, 2) := by decide +kernel
theorem dL_latest_2 : decode cL_latest 2 = .ok (.iconst 0, 1) := by decide +kernel
theorem dL_latest_3 : decode cL_latest 3 = .ok (.aload_n 0, 1) := by decide +kernel
theorem dL_latest_4 : decode cL_latest 4 = .ok (.iload_n 1, 1) := by decide +kernel
theorem dL_latest_5 : decode cL_latest 5 = .ok (.iload_n 2, 1) := by decide +kernel
theorem dL_latest_6 : decode cL_latest 6 = .ok (.iload_n 3, 1) := by decide +kernel
theorem dL_latest_7 : decode cL_latest 7 = .ok (.iload 4, 2) := by decide +kernel
theorem dL_latest_9 : decode cL_latest 9 = .ok (.iload 5, 2) := by decide +kernel
theorem dL_latest_11 : decode cL_latest 11 = .ok (.invokevirtual 50, 3) := by decide +kernel
theorem dL_latest_14 : decode cL_latest 14 = .ok (.i2l, 1) := by decide +kernel
theorem dL_latest_15 : decode cL_latest 15 = .ok (.lastore, 1) := by decide +kernel
theorem dL_latest_16 : decode cL_latest 16 = .ok (.goto 15, 3) := by decide +kernel
theorem dL_latest_19 : decode cL_latest 19 = .ok (.astore 7, 2) := by decide +kernel
theorem dL_latest_21 : decode cL_latest 21 = .ok (.iconst 1, 1) := by decide +kernel
theorem dL_latest_22 : decode cL_latest 22 = .ok (.ireturn, 1) := by decide +kernel
theorem dL_latest_23 : decode cL_latest 23 = .ok (.astore 7, 2) := by decide +kernel
theorem dL_latest_25 : decode cL_latest 25 = .ok (.iconst 2, 1) := by decide +kernel
theorem dL_latest_26 : decode cL_latest 26 = .ok (.ireturn, 1) := by decide +kernel
theorem dL_latest_27 : decode cL_latest 27 = .ok (.astore 7, 2) := by decide +kernel
theorem dL_latest_29 : decode cL_latest 29 = .ok (.iconst 3, 1) := by decide +kernel
theorem dL_latest_30 : decode cL_latest 30 = .ok (.ireturn, 1) := by decide +kernel
theorem dL_latest_31 : decode cL_latest 31 = .ok (.iconst 0, 1) := by decide +kernel
theorem dL_latest_32 : decode cL_latest 32 = .ok (.ireturn, 1) := by decide +kernel
theorem dL_statesMeasured_0 : decode cL_statesMeasured 0 = .ok (.aload_n 2, 1) := by decide +kernel
theorem dL_statesMeasured_1 : decode cL_statesMeasured 1 = .ok (.iconst 0, 1) := by decide +kernel
theorem dL_statesMeasured_2 : decode cL_statesMeasured 2 = .ok (.aload_n 0, 1) := by decide +kernel
theorem dL_statesMeasured_3 : decode cL_statesMeasured 3 = .ok (.iload_n 1, 1) := by decide +kernel
theorem dL_statesMeasured_4 : decode cL_statesMeasured 4 = .ok (.invokevirtual 54, 3) := by decide +kernel
theorem dL_statesMeasured_7 : decode cL_statesMeasured 7 = .ok (.i2l, 1) := by decide +kernel
theorem dL_statesMeasured_8 : decode cL_statesMeasured 8 = .ok (.lastore, 1) := by decide +kernel
theorem dL_statesMeasured_9 : decode cL_statesMeasured 9 = .ok (.goto 6, 3) := by decide +kernel
theorem dL_statesMeasured_12 : decode cL_statesMeasured 12 = .ok (.astore_n 3, 1) := by decide +kernel
theorem dL_statesMeasured_13 : decode cL_statesMeasured 13 = .ok (.iconst 1, 1) := by decide +kernel
theorem dL_statesMeasured_14 : decode cL_statesMeasured 14 = .ok (.ireturn, 1) := by decide +kernel
theorem dL_statesMeasured_15 : decode cL_statesMeasured 15 = .ok (.iconst 0, 1) := by decide +kernel
theorem dL_statesMeasured_16 : decode cL_statesMeasured 16 = .ok (.ireturn, 1) := by decide +kernel
theorem dL_makeFilter_0 : decode cL_makeFilter 0 = .ok (.aload_n 2, 1) := by decide +kernel
theorem dL_makeFilter_1 : decode cL_makeFilter 1 = .ok (.iconst 0, 1) := by decide +kernel
theorem dL_makeFilter_2 : decode cL_makeFilter 2 = .ok (.aload_n 0, 1) := by decide +kernel
theorem dL_makeFilter_3 : decode cL_makeFilter 3 = .ok (.iload_n 1, 1) := by decide +kernel
theorem dL_makeFilter_4 : decode cL_makeFilter 4 = .ok (.invokevirtual 57, 3) := by decide +kernel
theorem dL_makeFilter_7 : decode cL_makeFilter 7 = .ok (.i2l, 1) := by decide +kernel
theorem dL_makeFilter_8 : decode cL_makeFilter 8 = .ok (.lastore, 1) := by decide +kernel
theorem dL_makeFilter_9 : decode cL_makeFilter 9 = .ok (.goto 9, 3) := by decide +kernel
theorem dL_makeFilter_12 : decode cL_makeFilter 12 = .ok (.astore_n 3, 1) := by decide +kernel
theorem dL_makeFilter_13 : decode cL_makeFilter 13 = .ok (.iconst 1, 1) := by decide +kernel
theorem dL_makeFilter_14 : decode cL_makeFilter 14 = .ok (.ireturn, 1) := by decide +kernel
theorem dL_makeFilter_15 : decode cL_makeFilter 15 = .ok (.astore_n 3, 1) := by decide +kernel
theorem dL_makeFilter_16 : decode cL_makeFilter 16 = .ok (.iconst 2, 1) := by decide +kernel
theorem dL_makeFilter_17 : decode cL_makeFilter 17 = .ok (.ireturn, 1) := by decide +kernel
theorem dL_makeFilter_18 : decode cL_makeFilter 18 = .ok (.iconst 0, 1) := by decide +kernel
theorem dL_makeFilter_19 : decode cL_makeFilter 19 = .ok (.ireturn, 1) := by decide +kernel
theorem dL_answerOf_0 : decode cL_answerOf 0 = .ok (.aload_n 2, 1) := by decide +kernel
theorem dL_answerOf_1 : decode cL_answerOf 1 = .ok (.iconst 0, 1) := by decide +kernel
theorem dL_answerOf_2 : decode cL_answerOf 2 = .ok (.aload_n 0, 1) := by decide +kernel
theorem dL_answerOf_3 : decode cL_answerOf 3 = .ok (.iload_n 1, 1) := by decide +kernel
theorem dL_answerOf_4 : decode cL_answerOf 4 = .ok (.invokevirtual 60, 3) := by decide +kernel
theorem dL_answerOf_7 : decode cL_answerOf 7 = .ok (.i2l, 1) := by decide +kernel
theorem dL_answerOf_8 : decode cL_answerOf 8 = .ok (.lastore, 1) := by decide +kernel
theorem dL_answerOf_9 : decode cL_answerOf 9 = .ok (.goto 6, 3) := by decide +kernel
theorem dL_answerOf_12 : decode cL_answerOf 12 = .ok (.astore_n 3, 1) := by decide +kernel
theorem dL_answerOf_13 : decode cL_answerOf 13 = .ok (.iconst 1, 1) := by decide +kernel
theorem dL_answerOf_14 : decode cL_answerOf 14 = .ok (.ireturn, 1) := by decide +kernel
theorem dL_answerOf_15 : decode cL_answerOf 15 = .ok (.iconst 0, 1) := by decide +kernel
theorem dL_answerOf_16 : decode cL_answerOf 16 = .ok (.ireturn, 1) := by decide +kernel
theorem dL_tap_0 : decode cL_tap 0 = .ok (.aload_n 3, 1) := by decide +kernel
theorem dL_tap_1 : decode cL_tap 1 = .ok (.iconst 0, 1) := by decide +kernel
theorem dL_tap_2 : decode cL_tap 2 = .ok (.aload_n 0, 1) := by decide +kernel
theorem dL_tap_3 : decode cL_tap 3 = .ok (.iload_n 1, 1) := by decide +kernel
theorem dL_tap_4 : decode cL_tap 4 = .ok (.iload_n 2, 1) := by decide +kernel
theorem dL_tap_5 : decode cL_tap 5 = .ok (.invokevirtual 63, 3) := by decide +kernel
theorem dL_tap_8 : decode cL_tap 8 = .ok (.lastore, 1) := by decide +kernel
theorem dL_tap_9 : decode cL_tap 9 = .ok (.goto 11, 3) := by decide +kernel
theorem dL_tap_12 : decode cL_tap 12 = .ok (.astore 4, 2) := by decide +kernel
theorem dL_tap_14 : decode cL_tap 14 = .ok (.iconst 1, 1) := by decide +kernel
theorem dL_tap_15 : decode cL_tap 15 = .ok (.ireturn, 1) := by decide +kernel
theorem dL_tap_16 : decode cL_tap 16 = .ok (.astore 4, 2) := by decide +kernel
theorem dL_tap_18 : decode cL_tap 18 = .ok (.iconst 2, 1) := by decide +kernel
theorem dL_tap_19 : decode cL_tap 19 = .ok (.ireturn, 1) := by decide +kernel
theorem dL_tap_20 : decode cL_tap 20 = .ok (.iconst 0, 1) := by decide +kernel
theorem dL_tap_21 : decode cL_tap 21 = .ok (.ireturn, 1) := by decide +kernel
theorem dL_bar_0 : decode cL_bar 0 = .ok (.aload_n 2, 1) := by decide +kernel
theorem dL_bar_1 : decode cL_bar 1 = .ok (.iconst 0, 1) := by decide +kernel
theorem dL_bar_2 : decode cL_bar 2 = .ok (.aload_n 0, 1) := by decide +kernel
theorem dL_bar_3 : decode cL_bar 3 = .ok (.iload_n 1, 1) := by decide +kernel
theorem dL_bar_4 : decode cL_bar 4 = .ok (.invokevirtual 67, 3) := by decide +kernel
theorem dL_bar_7 : decode cL_bar 7 = .ok (.i2l, 1) := by decide +kernel
theorem dL_bar_8 : decode cL_bar 8 = .ok (.lastore, 1) := by decide +kernel
theorem dL_bar_9 : decode cL_bar 9 = .ok (.goto 6, 3) := by decide +kernel
theorem dL_bar_12 : decode cL_bar 12 = .ok (.astore_n 3, 1) := by decide +kernel
theorem dL_bar_13 : decode cL_bar 13 = .ok (.iconst 1, 1) := by decide +kernel
theorem dL_bar_14 : decode cL_bar 14 = .ok (.ireturn, 1) := by decide +kernel
theorem dL_bar_15 : decode cL_bar 15 = .ok (.iconst 0, 1) := by decide +kernel
theorem dL_bar_16 : decode cL_bar 16 = .ok (.ireturn, 1) := by decide +kernel
theorem dL_use_0 : decode cL_use 0 = .ok (.aload_n 3, 1) := by decide +kernel
theorem dL_use_1 : decode cL_use 1 = .ok (.iconst 0, 1) := by decide +kernel
theorem dL_use_2 : decode cL_use 2 = .ok (.aload_n 0, 1) := by decide +kernel
theorem dL_use_3 : decode cL_use 3 = .ok (.iload_n 1, 1) := by decide +kernel
theorem dL_use_4 : decode cL_use 4 = .ok (.iload_n 2, 1) := by decide +kernel
theorem dL_use_5 : decode cL_use 5 = .ok (.invokevirtual 71, 3) := by decide +kernel
theorem dL_use_8 : decode cL_use 8 = .ok (.lastore, 1) := by decide +kernel
theorem dL_use_9 : decode cL_use 9 = .ok (.goto 15, 3) := by decide +kernel
theorem dL_use_12 : decode cL_use 12 = .ok (.astore 4, 2) := by decide +kernel
theorem dL_use_14 : decode cL_use 14 = .ok (.iconst 1, 1) := by decide +kernel
theorem dL_use_15 : decode cL_use 15 = .ok (.ireturn, 1) := by decide +kernel
theorem dL_use_16 : decode cL_use 16 = .ok (.astore 4, 2) := by decide +kernel
theorem dL_use_18 : decode cL_use 18 = .ok (.iconst 2, 1) := by decide +kernel
theorem dL_use_19 : decode cL_use 19 = .ok (.ireturn, 1) := by decide +kernel
theorem dL_use_20 : decode cL_use 20 = .ok (.astore 4, 2) := by decide +kernel
theorem dL_use_22 : decode cL_use 22 = .ok (.iconst 3, 1) := by decide +kernel
theorem dL_use_23 : decode cL_use 23 = .ok (.ireturn, 1) := by decide +kernel
theorem dL_use_24 : decode cL_use 24 = .ok (.iconst 0, 1) := by decide +kernel
theorem dL_use_25 : decode cL_use 25 = .ok (.ireturn, 1) := by decide +kernel
theorem dL_inputs_0 : decode cL_inputs 0 = .ok (.aload_n 2, 1) := by decide +kernel
theorem dL_inputs_1 : decode cL_inputs 1 = .ok (.iconst 0, 1) := by decide +kernel
theorem dL_inputs_2 : decode cL_inputs 2 = .ok (.aload_n 0, 1) := by decide +kernel
theorem dL_inputs_3 : decode cL_inputs 3 = .ok (.iload_n 1, 1) := by decide +kernel
theorem dL_inputs_4 : decode cL_inputs 4 = .ok (.invokevirtual 76, 3) := by decide +kernel
theorem dL_inputs_7 : decode cL_inputs 7 = .ok (.i2l, 1) := by decide +kernel
theorem dL_inputs_8 : decode cL_inputs 8 = .ok (.lastore, 1) := by decide +kernel
theorem dL_inputs_9 : decode cL_inputs 9 = .ok (.goto 6, 3) := by decide +kernel
theorem dL_inputs_12 : decode cL_inputs 12 = .ok (.astore_n 3, 1) := by decide +kernel
theorem dL_inputs_13 : decode cL_inputs 13 = .ok (.iconst 1, 1) := by decide +kernel
theorem dL_inputs_14 : decode cL_inputs 14 = .ok (.ireturn, 1) := by decide +kernel
theorem dL_inputs_15 : decode cL_inputs 15 = .ok (.iconst 0, 1) := by decide +kernel
theorem dL_inputs_16 : decode cL_inputs 16 = .ok (.ireturn, 1) := by decide +kernel
theorem dL_product_0 : decode cL_product 0 = .ok (.aload 4, 2) := by decide +kernel
theorem dL_product_2 : decode cL_product 2 = .ok (.iconst 0, 1) := by decide +kernel
theorem dL_product_3 : decode cL_product 3 = .ok (.aload_n 0, 1) := by decide +kernel
theorem dL_product_4 : decode cL_product 4 = .ok (.iload_n 1, 1) := by decide +kernel
theorem dL_product_5 : decode cL_product 5 = .ok (.iload_n 2, 1) := by decide +kernel
theorem dL_product_6 : decode cL_product 6 = .ok (.iload_n 3, 1) := by decide +kernel
theorem dL_product_7 : decode cL_product 7 = .ok (.invokevirtual 79, 3) := by decide +kernel
theorem dL_product_10 : decode cL_product 10 = .ok (.lastore, 1) := by decide +kernel
theorem dL_product_11 : decode cL_product 11 = .ok (.goto 11, 3) := by decide +kernel
theorem dL_product_14 : decode cL_product 14 = .ok (.astore 5, 2) := by decide +kernel
theorem dL_product_16 : decode cL_product 16 = .ok (.iconst 1, 1) := by decide +kernel
theorem dL_product_17 : decode cL_product 17 = .ok (.ireturn, 1) := by decide +kernel
theorem dL_product_18 : decode cL_product 18 = .ok (.astore 5, 2) := by decide +kernel
theorem dL_product_20 : decode cL_product 20 = .ok (.iconst 2, 1) := by decide +kernel
theorem dL_product_21 : decode cL_product 21 = .ok (.ireturn, 1) := by decide +kernel
theorem dL_product_22 : decode cL_product 22 = .ok (.iconst 0, 1) := by decide +kernel
theorem dL_product_23 : decode cL_product 23 = .ok (.ireturn, 1) := by decide +kernel
theorem dL_rightSamples_0 : decode cL_rightSamples 0 = .ok (.aload_n 3, 1) := by decide +kernel
theorem dL_rightSamples_1 : decode cL_rightSamples 1 = .ok (.iconst 0, 1) := by decide +kernel
theorem dL_rightSamples_2 : decode cL_rightSamples 2 = .ok (.aload_n 0, 1) := by decide +kernel
theorem dL_rightSamples_3 : decode cL_rightSamples 3 = .ok (.iload_n 1, 1) := by decide +kernel
theorem dL_rightSamples_4 : decode cL_rightSamples 4 = .ok (.iload_n 2, 1) := by decide +kernel
theorem dL_rightSamples_5 : decode cL_rightSamples 5 = .ok (.invokevirtual 83, 3) := by decide +kernel
theorem dL_rightSamples_8 : decode cL_rightSamples 8 = .ok (.i2l, 1) := by decide +kernel
theorem dL_rightSamples_9 : decode cL_rightSamples 9 = .ok (.lastore, 1) := by decide +kernel
theorem dL_rightSamples_10 : decode cL_rightSamples 10 = .ok (.goto 7, 3) := by decide +kernel
theorem dL_rightSamples_13 : decode cL_rightSamples 13 = .ok (.astore 4, 2) := by decide +kernel
theorem dL_rightSamples_15 : decode cL_rightSamples 15 = .ok (.iconst 1, 1) := by decide +kernel
theorem dL_rightSamples_16 : decode cL_rightSamples 16 = .ok (.ireturn, 1) := by decide +kernel
theorem dL_rightSamples_17 : decode cL_rightSamples 17 = .ok (.iconst 0, 1) := by decide +kernel
theorem dL_rightSamples_18 : decode cL_rightSamples 18 = .ok (.ireturn, 1) := by decide +kernel
theorem dL_isChecked_0 : decode cL_isChecked 0 = .ok (.aload_n 2, 1) := by decide +kernel
theorem dL_isChecked_1 : decode cL_isChecked 1 = .ok (.iconst 0, 1) := by decide +kernel
theorem dL_isChecked_2 : decode cL_isChecked 2 = .ok (.aload_n 0, 1) := by decide +kernel
theorem dL_isChecked_3 : decode cL_isChecked 3 = .ok (.iload_n 1, 1) := by decide +kernel
theorem dL_isChecked_4 : decode cL_isChecked 4 = .ok (.invokevirtual 86, 3) := by decide +kernel
theorem dL_isChecked_7 : decode cL_isChecked 7 = .ok (.ifCond .eq 7, 3) := by decide +kernel
theorem dL_isChecked_10 : decode cL_isChecked 10 = .ok (.lconst 1, 1) := by decide +kernel
theorem dL_isChecked_11 : decode cL_isChecked 11 = .ok (.goto 4, 3) := by decide +kernel
theorem dL_isChecked_14 : decode cL_isChecked 14 = .ok (.lconst 0, 1) := by decide +kernel
theorem dL_isChecked_15 : decode cL_isChecked 15 = .ok (.lastore, 1) := by decide +kernel
theorem dL_isChecked_16 : decode cL_isChecked 16 = .ok (.goto 6, 3) := by decide +kernel
theorem dL_isChecked_19 : decode cL_isChecked 19 = .ok (.astore_n 3, 1) := by decide +kernel
theorem dL_isChecked_20 : decode cL_isChecked 20 = .ok (.iconst 1, 1) := by decide +kernel
theorem dL_isChecked_21 : decode cL_isChecked 21 = .ok (.ireturn, 1) := by decide +kernel
theorem dL_isChecked_22 : decode cL_isChecked 22 = .ok (.iconst 0, 1) := by decide +kernel
theorem dL_isChecked_23 : decode cL_isChecked 23 = .ok (.ireturn, 1) := by decide +kernel
theorem dL_setLimit_0 : decode cL_setLimit 0 = .ok (.aload_n 2, 1) := by decide +kernel
theorem dL_setLimit_1 : decode cL_setLimit 1 = .ok (.iconst 0, 1) := by decide +kernel
theorem dL_setLimit_2 : decode cL_setLimit 2 = .ok (.aload_n 0, 1) := by decide +kernel
theorem dL_setLimit_3 : decode cL_setLimit 3 = .ok (.iload_n 1, 1) := by decide +kernel
theorem dL_setLimit_4 : decode cL_setLimit 4 = .ok (.invokevirtual 89, 3) := by decide +kernel
theorem dL_setLimit_7 : decode cL_setLimit 7 = .ok (.i2l, 1) := by decide +kernel
theorem dL_setLimit_8 : decode cL_setLimit 8 = .ok (.lastore, 1) := by decide +kernel
theorem dL_setLimit_9 : decode cL_setLimit 9 = .ok (.goto 6, 3) := by decide +kernel
theorem dL_setLimit_12 : decode cL_setLimit 12 = .ok (.astore_n 3, 1) := by decide +kernel
theorem dL_setLimit_13 : decode cL_setLimit 13 = .ok (.iconst 1, 1) := by decide +kernel
theorem dL_setLimit_14 : decode cL_setLimit 14 = .ok (.ireturn, 1) := by decide +kernel
theorem dL_setLimit_15 : decode cL_setLimit 15 = .ok (.iconst 0, 1) := by decide +kernel
theorem dL_setLimit_16 : decode cL_setLimit 16 = .ok (.ireturn, 1) := by decide +kernel
theorem dL_book_0 : decode cL_book 0 = .ok (.aload 7, 2) := by decide +kernel
theorem dL_book_2 : decode cL_book 2 = .ok (.iconst 0, 1) := by decide +kernel
theorem dL_book_3 : decode cL_book 3 = .ok (.aload_n 0, 1) := by decide +kernel
theorem dL_book_4 : decode cL_book 4 = .ok (.iload_n 1, 1) := by decide +kernel
theorem dL_book_5 : decode cL_book 5 = .ok (.iload_n 2, 1) := by decide +kernel
theorem dL_book_6 : decode cL_book 6 = .ok (.iload_n 3, 1) := by decide +kernel
theorem dL_book_7 : decode cL_book 7 = .ok (.iload 4, 2) := by decide +kernel
theorem dL_book_9 : decode cL_book 9 = .ok (.iload 5, 2) := by decide +kernel
theorem dL_book_11 : decode cL_book 11 = .ok (.iload 6, 2) := by decide +kernel
theorem dL_book_13 : decode cL_book 13 = .ok (.invokevirtual 92, 3) := by decide +kernel
theorem dL_book_16 : decode cL_book 16 = .ok (.i2l, 1) := by decide +kernel
theorem dL_book_17 : decode cL_book 17 = .ok (.lastore, 1) := by decide +kernel
theorem dL_book_18 : decode cL_book 18 = .ok (.goto 19, 3) := by decide +kernel
theorem dL_book_21 : decode cL_book 21 = .ok (.astore 8, 2) := by decide +kernel
theorem dL_book_23 : decode cL_book 23 = .ok (.iconst 1, 1) := by decide +kernel
theorem dL_book_24 : decode cL_book 24 = .ok (.ireturn, 1) := by decide +kernel
theorem dL_book_25 : decode cL_book 25 = .ok (.astore 8, 2) := by decide +kernel
theorem dL_book_27 : decode cL_book 27 = .ok (.iconst 2, 1) := by decide +kernel
theorem dL_book_28 : decode cL_book 28 = .ok (.ireturn, 1) := by decide +kernel
theorem dL_book_29 : decode cL_book 29 = .ok (.astore 8, 2) := by decide +kernel
theorem dL_book_31 : decode cL_book 31 = .ok (.iconst 3, 1) := by decide +kernel
theorem dL_book_32 : decode cL_book 32 = .ok (.ireturn, 1) := by decide +kernel
theorem dL_book_33 : decode cL_book 33 = .ok (.astore 8, 2) := by decide +kernel
theorem dL_book_35 : decode cL_book 35 = .ok (.iconst 4, 1) := by decide +kernel
theorem dL_book_36 : decode cL_book 36 = .ok (.ireturn, 1) := by decide +kernel
theorem dL_book_37 : decode cL_book 37 = .ok (.iconst 0, 1) := by decide +kernel
theorem dL_book_38 : decode cL_book 38 = .ok (.ireturn, 1) := by decide +kernel
theorem dL_clash_0 : decode cL_clash 0 = .ok (.aload 7, 2) := by decide +kernel
theorem dL_clash_2 : decode cL_clash 2 = .ok (.iconst 0, 1) := by decide +kernel
theorem dL_clash_3 : decode cL_clash 3 = .ok (.aload_n 0, 1) := by decide +kernel
theorem dL_clash_4 : decode cL_clash 4 = .ok (.iload_n 1, 1) := by decide +kernel
theorem dL_clash_5 : decode cL_clash 5 = .ok (.iload_n 2, 1) := by decide +kernel
theorem dL_clash_6 : decode cL_clash 6 = .ok (.iload_n 3, 1) := by decide +kernel
theorem dL_clash_7 : decode cL_clash 7 = .ok (.iload 4, 2) := by decide +kernel
theorem dL_clash_9 : decode cL_clash 9 = .ok (.iload 5, 2) := by decide +kernel
theorem dL_clash_11 : decode cL_clash 11 = .ok (.iload 6, 2) := by decide +kernel
theorem dL_clash_13 : decode cL_clash 13 = .ok (.invokevirtual 96, 3) := by decide +kernel
theorem dL_clash_16 : decode cL_clash 16 = .ok (.i2l, 1) := by decide +kernel
theorem dL_clash_17 : decode cL_clash 17 = .ok (.lastore, 1) := by decide +kernel
theorem dL_clash_18 : decode cL_clash 18 = .ok (.goto 15, 3) := by decide +kernel
theorem dL_clash_21 : decode cL_clash 21 = .ok (.astore 8, 2) := by decide +kernel
theorem dL_clash_23 : decode cL_clash 23 = .ok (.iconst 1, 1) := by decide +kernel
theorem dL_clash_24 : decode cL_clash 24 = .ok (.ireturn, 1) := by decide +kernel
theorem dL_clash_25 : decode cL_clash 25 = .ok (.astore 8, 2) := by decide +kernel
theorem dL_clash_27 : decode cL_clash 27 = .ok (.iconst 2, 1) := by decide +kernel
theorem dL_clash_28 : decode cL_clash 28 = .ok (.ireturn, 1) := by decide +kernel
theorem dL_clash_29 : decode cL_clash 29 = .ok (.astore 8, 2) := by decide +kernel
theorem dL_clash_31 : decode cL_clash 31 = .ok (.iconst 3, 1) := by decide +kernel
theorem dL_clash_32 : decode cL_clash 32 = .ok (.ireturn, 1) := by decide +kernel
theorem dL_clash_33 : decode cL_clash 33 = .ok (.iconst 0, 1) := by decide +kernel
theorem dL_clash_34 : decode cL_clash 34 = .ok (.ireturn, 1) := by decide +kernel
theorem dL_cancel_0 : decode cL_cancel 0 = .ok (.aload_n 2, 1) := by decide +kernel
theorem dL_cancel_1 : decode cL_cancel 1 = .ok (.iconst 0, 1) := by decide +kernel
theorem dL_cancel_2 : decode cL_cancel 2 = .ok (.aload_n 0, 1) := by decide +kernel
theorem dL_cancel_3 : decode cL_cancel 3 = .ok (.iload_n 1, 1) := by decide +kernel
theorem dL_cancel_4 : decode cL_cancel 4 = .ok (.invokevirtual 99, 3) := by decide +kernel
theorem dL_cancel_7 : decode cL_cancel 7 = .ok (.i2l, 1) := by decide +kernel
theorem dL_cancel_8 : decode cL_cancel 8 = .ok (.lastore, 1) := by decide +kernel
theorem dL_cancel_9 : decode cL_cancel 9 = .ok (.goto 9, 3) := by decide +kernel
theorem dL_cancel_12 : decode cL_cancel 12 = .ok (.astore_n 3, 1) := by decide +kernel
theorem dL_cancel_13 : decode cL_cancel 13 = .ok (.iconst 1, 1) := by decide +kernel
theorem dL_cancel_14 : decode cL_cancel 14 = .ok (.ireturn, 1) := by decide +kernel
theorem dL_cancel_15 : decode cL_cancel 15 = .ok (.astore_n 3, 1) := by decide +kernel
theorem dL_cancel_16 : decode cL_cancel 16 = .ok (.iconst 2, 1) := by decide +kernel
theorem dL_cancel_17 : decode cL_cancel 17 = .ok (.ireturn, 1) := by decide +kernel
theorem dL_cancel_18 : decode cL_cancel 18 = .ok (.iconst 0, 1) := by decide +kernel
theorem dL_cancel_19 : decode cL_cancel 19 = .ok (.ireturn, 1) := by decide +kernel
theorem dL_pass_0 : decode cL_pass 0 = .ok (.aload_n 2, 1) := by decide +kernel
theorem dL_pass_1 : decode cL_pass 1 = .ok (.iconst 0, 1) := by decide +kernel
theorem dL_pass_2 : decode cL_pass 2 = .ok (.aload_n 0, 1) := by decide +kernel
theorem dL_pass_3 : decode cL_pass 3 = .ok (.iload_n 1, 1) := by decide +kernel
theorem dL_pass_4 : decode cL_pass 4 = .ok (.invokevirtual 102, 3) := by decide +kernel
theorem dL_pass_7 : decode cL_pass 7 = .ok (.i2l, 1) := by decide +kernel
theorem dL_pass_8 : decode cL_pass 8 = .ok (.lastore, 1) := by decide +kernel
theorem dL_pass_9 : decode cL_pass 9 = .ok (.goto 6, 3) := by decide +kernel
theorem dL_pass_12 : decode cL_pass 12 = .ok (.astore_n 3, 1) := by decide +kernel
theorem dL_pass_13 : decode cL_pass 13 = .ok (.iconst 1, 1) := by decide +kernel
theorem dL_pass_14 : decode cL_pass 14 = .ok (.ireturn, 1) := by decide +kernel
theorem dL_pass_15 : decode cL_pass 15 = .ok (.iconst 0, 1) := by decide +kernel
theorem dL_pass_16 : decode cL_pass 16 = .ok (.ireturn, 1) := by decide +kernel
theorem dL_nextBooking_0 : decode cL_nextBooking 0 = .ok (.aload_n 2, 1) := by decide +kernel
theorem dL_nextBooking_1 : decode cL_nextBooking 1 = .ok (.iconst 0, 1) := by decide +kernel
theorem dL_nextBooking_2 : decode cL_nextBooking 2 = .ok (.aload_n 0, 1) := by decide +kernel
theorem dL_nextBooking_3 : decode cL_nextBooking 3 = .ok (.iload_n 1, 1) := by decide +kernel
theorem dL_nextBooking_4 : decode cL_nextBooking 4 = .ok (.invokevirtual 105, 3) := by decide +kernel
theorem dL_nextBooking_7 : decode cL_nextBooking 7 = .ok (.i2l, 1) := by decide +kernel
theorem dL_nextBooking_8 : decode cL_nextBooking 8 = .ok (.lastore, 1) := by decide +kernel
theorem dL_nextBooking_9 : decode cL_nextBooking 9 = .ok (.goto 9, 3) := by decide +kernel
theorem dL_nextBooking_12 : decode cL_nextBooking 12 = .ok (.astore_n 3, 1) := by decide +kernel
theorem dL_nextBooking_13 : decode cL_nextBooking 13 = .ok (.iconst 1, 1) := by decide +kernel
theorem dL_nextBooking_14 : decode cL_nextBooking 14 = .ok (.ireturn, 1) := by decide +kernel
theorem dL_nextBooking_15 : decode cL_nextBooking 15 = .ok (.astore_n 3, 1) := by decide +kernel
theorem dL_nextBooking_16 : decode cL_nextBooking 16 = .ok (.iconst 2, 1) := by decide +kernel
theorem dL_nextBooking_17 : decode cL_nextBooking 17 = .ok (.ireturn, 1) := by decide +kernel
theorem dL_nextBooking_18 : decode cL_nextBooking 18 = .ok (.iconst 0, 1) := by decide +kernel
theorem dL_nextBooking_19 : decode cL_nextBooking 19 = .ok (.ireturn, 1) := by decide +kernel
theorem dL_usableShare_0 : decode cL_usableShare 0 = .ok (.aload_n 1, 1) := by decide +kernel
theorem dL_usableShare_1 : decode cL_usableShare 1 = .ok (.iconst 0, 1) := by decide +kernel
theorem dL_usableShare_2 : decode cL_usableShare 2 = .ok (.aload_n 0, 1) := by decide +kernel
theorem dL_usableShare_3 : decode cL_usableShare 3 = .ok (.invokevirtual 108, 3) := by decide +kernel
theorem dL_usableShare_6 : decode cL_usableShare 6 = .ok (.f2d, 1) := by decide +kernel
theorem dL_usableShare_7 : decode cL_usableShare 7 = .ok (.dastore, 1) := by decide +kernel
theorem dL_usableShare_8 : decode cL_usableShare 8 = .ok (.goto 6, 3) := by decide +kernel
theorem dL_usableShare_11 : decode cL_usableShare 11 = .ok (.astore_n 2, 1) := by decide +kernel
theorem dL_usableShare_12 : decode cL_usableShare 12 = .ok (.iconst 1, 1) := by decide +kernel
theorem dL_usableShare_13 : decode cL_usableShare 13 = .ok (.ireturn, 1) := by decide +kernel
theorem dL_usableShare_14 : decode cL_usableShare 14 = .ok (.iconst 0, 1) := by decide +kernel
theorem dL_usableShare_15 : decode cL_usableShare 15 = .ok (.ireturn, 1) := by decide +kernel
end
section
theorem dL_law_0 : decode cL_law 0 = .ok (.new 8, 3) := by decide +kernel
theorem dL_law_3 : decode cL_law 3 = .ok (.dup, 1) := by decide +kernel
theorem dL_law_4 : decode cL_law 4 = .ok (.invokespecial 112, 3) := by decide +kernel
theorem dL_law_7 : decode cL_law 7 = .ok (.astore_n 1, 1) := by decide +kernel
theorem dL_law_8 : decode cL_law 8 = .ok (.new 113, 3) := by decide +kernel
theorem dL_law_11 : decode cL_law 11 = .ok (.dup, 1) := by decide +kernel
theorem dL_law_12 : decode cL_law 12 = .ok (.invokespecial 115, 3) := by decide +kernel
theorem dL_law_15 : decode cL_law 15 = .ok (.astore_n 2, 1) := by decide +kernel
theorem dL_law_16 : decode cL_law 16 = .ok (.iconst 1, 1) := by decide +kernel
theorem dL_law_17 : decode cL_law 17 = .ok (.newarray .long, 2) := by decide +kernel
theorem dL_law_19 : decode cL_law 19 = .ok (.astore_n 3, 1) := by decide +kernel
theorem dL_law_20 : decode cL_law 20 = .ok (.iconst 1, 1) := by decide +kernel
theorem dL_law_21 : decode cL_law 21 = .ok (.newarray .double, 2) := by decide +kernel
theorem dL_law_23 : decode cL_law 23 = .ok (.astore 4, 2) := by decide +kernel
theorem dL_law_25 : decode cL_law 25 = .ok (.iconst 0, 1) := by decide +kernel
theorem dL_law_26 : decode cL_law 26 = .ok (.istore 5, 2) := by decide +kernel
theorem dL_law_28 : decode cL_law 28 = .ok (.iload 5, 2) := by decide +kernel
theorem dL_law_30 : decode cL_law 30 = .ok (.aload_n 0, 1) := by decide +kernel
theorem dL_law_31 : decode cL_law 31 = .ok (.arraylength, 1) := by decide +kernel
theorem dL_law_32 : decode cL_law 32 = .ok (.bipush 7, 2) := by decide +kernel
theorem dL_law_34 : decode cL_law 34 = .ok (.isub, 1) := by decide +kernel
theorem dL_law_35 : decode cL_law 35 = .ok (.if_icmp .gt 2117, 3) := by decide +kernel
theorem dL_law_38 : decode cL_law 38 = .ok (.aload_n 0, 1) := by decide +kernel
theorem dL_law_39 : decode cL_law 39 = .ok (.iload 5, 2) := by decide +kernel
theorem dL_law_41 : decode cL_law 41 = .ok (.iaload, 1) := by decide +kernel
theorem dL_law_42 : decode cL_law 42 = .ok (.bipush 31, 2) := by decide +kernel
theorem dL_law_44 : decode cL_law 44 = .ok (.iand, 1) := by decide +kernel
theorem dL_law_45 : decode cL_law 45 = .ok (.tableswitch 2101 0 29 #[135, 179, 287, 343, 399, 462, 518, 636, 704, 760, 880, 936, 949, 1005, 1061, 1128, 1184, 1251, 1307, 1386, 1454, 1517, 1573, 1586, 1720, 1854, 1910, 1966, 1979, 2035], 135) := by decide +kernel
theorem dL_law_180 : decode cL_law 180 = .ok (.aload_n 1, 1) := by decide +kernel
theorem dL_law_181 : decode cL_law 181 = .ok (.aload_n 3, 1) := by decide +kernel
theorem dL_law_182 : decode cL_law 182 = .ok (.invokestatic 116, 3) := by decide +kernel
theorem dL_law_185 : decode cL_law 185 = .ok (.istore 6, 2) := by decide +kernel
theorem dL_law_187 : decode cL_law 187 = .ok (.aload_n 2, 1) := by decide +kernel
theorem dL_law_188 : decode cL_law 188 = .ok (.invokevirtual 121, 3) := by decide +kernel
theorem dL_law_191 : decode cL_law 191 = .ok (.istore 7, 2) := by decide +kernel
theorem dL_law_193 : decode cL_law 193 = .ok (.aload_n 2, 1) := by decide +kernel
theorem dL_law_194 : decode cL_law 194 = .ok (.invokevirtual 122, 3) := by decide +kernel
theorem dL_law_197 : decode cL_law 197 = .ok (.iload 6, 2) := by decide +kernel
theorem dL_law_199 : decode cL_law 199 = .ok (.if_icmp .eq 5, 3) := by decide +kernel
theorem dL_law_202 : decode cL_law 202 = .ok (.iconst 0, 1) := by decide +kernel
theorem dL_law_203 : decode cL_law 203 = .ok (.ireturn, 1) := by decide +kernel
theorem dL_law_204 : decode cL_law 204 = .ok (.iload 6, 2) := by decide +kernel
theorem dL_law_206 : decode cL_law 206 = .ok (.ifCond .ne 15, 3) := by decide +kernel
theorem dL_law_209 : decode cL_law 209 = .ok (.aload_n 3, 1) := by decide +kernel
theorem dL_law_210 : decode cL_law 210 = .ok (.iconst 0, 1) := by decide +kernel
theorem dL_law_211 : decode cL_law 211 = .ok (.laload, 1) := by decide +kernel
theorem dL_law_212 : decode cL_law 212 = .ok (.iload 7, 2) := by decide +kernel
theorem dL_law_214 : decode cL_law 214 = .ok (.i2l, 1) := by decide +kernel
theorem dL_law_215 : decode cL_law 215 = .ok (.lcmp, 1) := by decide +kernel
theorem dL_law_216 : decode cL_law 216 = .ok (.ifCond .eq 5, 3) := by decide +kernel
theorem dL_law_219 : decode cL_law 219 = .ok (.iconst 0, 1) := by decide +kernel
theorem dL_law_220 : decode cL_law 220 = .ok (.ireturn, 1) := by decide +kernel
theorem dL_law_221 : decode cL_law 221 = .ok (.goto 1925, 3) := by decide +kernel
theorem dL_law_224 : decode cL_law 224 = .ok (.aload_n 1, 1) := by decide +kernel
theorem dL_law_225 : decode cL_law 225 = .ok (.aload_n 0, 1) := by decide +kernel
theorem dL_law_226 : decode cL_law 226 = .ok (.iload 5, 2) := by decide +kernel
theorem dL_law_228 : decode cL_law 228 = .ok (.iconst 1, 1) := by decide +kernel
theorem dL_law_229 : decode cL_law 229 = .ok (.iadd, 1) := by decide +kernel
theorem dL_law_230 : decode cL_law 230 = .ok (.iaload, 1) := by decide +kernel
theorem dL_law_231 : decode cL_law 231 = .ok (.aload_n 0, 1) := by decide +kernel
theorem dL_law_232 : decode cL_law 232 = .ok (.iload 5, 2) := by decide +kernel
theorem dL_law_234 : decode cL_law 234 = .ok (.iconst 2, 1) := by decide +kernel
theorem dL_law_235 : decode cL_law 235 = .ok (.iadd, 1) := by decide +kernel
theorem dL_law_236 : decode cL_law 236 = .ok (.iaload, 1) := by decide +kernel
theorem dL_law_237 : decode cL_law 237 = .ok (.aload_n 0, 1) := by decide +kernel
theorem dL_law_238 : decode cL_law 238 = .ok (.iload 5, 2) := by decide +kernel
theorem dL_law_240 : decode cL_law 240 = .ok (.iconst 3, 1) := by decide +kernel
theorem dL_law_241 : decode cL_law 241 = .ok (.iadd, 1) := by decide +kernel
theorem dL_law_242 : decode cL_law 242 = .ok (.iaload, 1) := by decide +kernel
theorem dL_law_243 : decode cL_law 243 = .ok (.aload_n 0, 1) := by decide +kernel
theorem dL_law_244 : decode cL_law 244 = .ok (.iload 5, 2) := by decide +kernel
theorem dL_law_246 : decode cL_law 246 = .ok (.iconst 4, 1) := by decide +kernel
theorem dL_law_247 : decode cL_law 247 = .ok (.iadd, 1) := by decide +kernel
theorem dL_law_248 : decode cL_law 248 = .ok (.iaload, 1) := by decide +kernel
theorem dL_law_249 : decode cL_law 249 = .ok (.ifCond .eq 7, 3) := by decide +kernel
theorem dL_law_252 : decode cL_law 252 = .ok (.iconst 1, 1) := by decide +kernel
theorem dL_law_253 : decode cL_law 253 = .ok (.goto 4, 3) := by decide +kernel
theorem dL_law_256 : decode cL_law 256 = .ok (.iconst 0, 1) := by decide +kernel
theorem dL_law_257 : decode cL_law 257 = .ok (.aload_n 3, 1) := by decide +kernel
theorem dL_law_258 : decode cL_law 258 = .ok (.invokestatic 125, 3) := by decide +kernel
theorem dL_law_261 : decode cL_law 261 = .ok (.istore 6, 2) := by decide +kernel
theorem dL_law_263 : decode cL_law 263 = .ok (.aload_n 2, 1) := by decide +kernel
theorem dL_law_264 : decode cL_law 264 = .ok (.aload_n 0, 1) := by decide +kernel
theorem dL_law_265 : decode cL_law 265 = .ok (.iload 5, 2) := by decide +kernel
theorem dL_law_267 : decode cL_law 267 = .ok (.iconst 1, 1) := by decide +kernel
theorem dL_law_268 : decode cL_law 268 = .ok (.iadd, 1) := by decide +kernel
theorem dL_law_269 : decode cL_law 269 = .ok (.iaload, 1) := by decide +kernel
theorem dL_law_270 : decode cL_law 270 = .ok (.aload_n 0, 1) := by decide +kernel
theorem dL_law_271 : decode cL_law 271 = .ok (.iload 5, 2) := by decide +kernel
theorem dL_law_273 : decode cL_law 273 = .ok (.iconst 2, 1) := by decide +kernel
theorem dL_law_274 : decode cL_law 274 = .ok (.iadd, 1) := by decide +kernel
theorem dL_law_275 : decode cL_law 275 = .ok (.iaload, 1) := by decide +kernel
theorem dL_law_276 : decode cL_law 276 = .ok (.aload_n 0, 1) := by decide +kernel
theorem dL_law_277 : decode cL_law 277 = .ok (.iload 5, 2) := by decide +kernel
theorem dL_law_279 : decode cL_law 279 = .ok (.iconst 3, 1) := by decide +kernel
theorem dL_law_280 : decode cL_law 280 = .ok (.iadd, 1) := by decide +kernel
theorem dL_law_281 : decode cL_law 281 = .ok (.iaload, 1) := by decide +kernel
theorem dL_law_282 : decode cL_law 282 = .ok (.aload_n 0, 1) := by decide +kernel
theorem dL_law_283 : decode cL_law 283 = .ok (.iload 5, 2) := by decide +kernel
theorem dL_law_285 : decode cL_law 285 = .ok (.iconst 4, 1) := by decide +kernel
theorem dL_law_286 : decode cL_law 286 = .ok (.iadd, 1) := by decide +kernel
theorem dL_law_287 : decode cL_law 287 = .ok (.iaload, 1) := by decide +kernel
theorem dL_law_288 : decode cL_law 288 = .ok (.ifCond .eq 7, 3) := by decide +kernel
theorem dL_law_291 : decode cL_law 291 = .ok (.iconst 1, 1) := by decide +kernel
theorem dL_law_292 : decode cL_law 292 = .ok (.goto 4, 3) := by decide +kernel
theorem dL_law_295 : decode cL_law 295 = .ok (.iconst 0, 1) := by decide +kernel
theorem dL_law_296 : decode cL_law 296 = .ok (.invokevirtual 128, 3) := by decide +kernel
theorem dL_law_299 : decode cL_law 299 = .ok (.istore 7, 2) := by decide +kernel
theorem dL_law_301 : decode cL_law 301 = .ok (.aload_n 2, 1) := by decide +kernel
theorem dL_law_302 : decode cL_law 302 = .ok (.invokevirtual 122, 3) := by decide +kernel
theorem dL_law_305 : decode cL_law 305 = .ok (.iload 6, 2) := by decide +kernel
theorem dL_law_307 : decode cL_law 307 = .ok (.if_icmp .eq 5, 3) := by decide +kernel
theorem dL_law_310 : decode cL_law 310 = .ok (.iconst 0, 1) := by decide +kernel
theorem dL_law_311 : decode cL_law 311 = .ok (.ireturn, 1) := by decide +kernel
theorem dL_law_312 : decode cL_law 312 = .ok (.iload 6, 2) := by decide +kernel
theorem dL_law_314 : decode cL_law 314 = .ok (.ifCond .ne 15, 3) := by decide +kernel
theorem dL_law_317 : decode cL_law 317 = .ok (.aload_n 3, 1) := by decide +kernel
theorem dL_law_318 : decode cL_law 318 = .ok (.iconst 0, 1) := by decide +kernel
theorem dL_law_319 : decode cL_law 319 = .ok (.laload, 1) := by decide +kernel
theorem dL_law_320 : decode cL_law 320 = .ok (.iload 7, 2) := by decide +kernel
theorem dL_law_322 : decode cL_law 322 = .ok (.i2l, 1) := by decide +kernel
theorem dL_law_323 : decode cL_law 323 = .ok (.lcmp, 1) := by decide +kernel
theorem dL_law_324 : decode cL_law 324 = .ok (.ifCond .eq 5, 3) := by decide +kernel
theorem dL_law_327 : decode cL_law 327 = .ok (.iconst 0, 1) := by decide +kernel
theorem dL_law_328 : decode cL_law 328 = .ok (.ireturn, 1) := by decide +kernel
theorem dL_law_329 : decode cL_law 329 = .ok (.goto 1817, 3) := by decide +kernel
theorem dL_law_332 : decode cL_law 332 = .ok (.aload_n 1, 1) := by decide +kernel
theorem dL_law_333 : decode cL_law 333 = .ok (.aload_n 0, 1) := by decide +kernel
theorem dL_law_334 : decode cL_law 334 = .ok (.iload 5, 2) := by decide +kernel
theorem dL_law_336 : decode cL_law 336 = .ok (.iconst 1, 1) := by decide +kernel
theorem dL_law_337 : decode cL_law 337 = .ok (.iadd, 1) := by decide +kernel
theorem dL_law_338 : decode cL_law 338 = .ok (.iaload, 1) := by decide +kernel
theorem dL_law_339 : decode cL_law 339 = .ok (.aload_n 3, 1) := by decide +kernel
theorem dL_law_340 : decode cL_law 340 = .ok (.invokestatic 129, 3) := by decide +kernel
theorem dL_law_343 : decode cL_law 343 = .ok (.istore 6, 2) := by decide +kernel
theorem dL_law_345 : decode cL_law 345 = .ok (.aload_n 2, 1) := by decide +kernel
theorem dL_law_346 : decode cL_law 346 = .ok (.aload_n 0, 1) := by decide +kernel
theorem dL_law_347 : decode cL_law 347 = .ok (.iload 5, 2) := by decide +kernel
theorem dL_law_349 : decode cL_law 349 = .ok (.iconst 1, 1) := by decide +kernel
theorem dL_law_350 : decode cL_law 350 = .ok (.iadd, 1) := by decide +kernel
theorem dL_law_351 : decode cL_law 351 = .ok (.iaload, 1) := by decide +kernel
theorem dL_law_352 : decode cL_law 352 = .ok (.invokevirtual 132, 3) := by decide +kernel
theorem dL_law_355 : decode cL_law 355 = .ok (.istore 7, 2) := by decide +kernel
theorem dL_law_357 : decode cL_law 357 = .ok (.aload_n 2, 1) := by decide +kernel
theorem dL_law_358 : decode cL_law 358 = .ok (.invokevirtual 122, 3) := by decide +kernel
theorem dL_law_361 : decode cL_law 361 = .ok (.iload 6, 2) := by decide +kernel
theorem dL_law_363 : decode cL_law 363 = .ok (.if_icmp .eq 5, 3) := by decide +kernel
theorem dL_law_366 : decode cL_law 366 = .ok (.iconst 0, 1) := by decide +kernel
theorem dL_law_367 : decode cL_law 367 = .ok (.ireturn, 1) := by decide +kernel
theorem dL_law_368 : decode cL_law 368 = .ok (.iload 6, 2) := by decide +kernel
theorem dL_law_370 : decode cL_law 370 = .ok (.ifCond .ne 15, 3) := by decide +kernel
theorem dL_law_373 : decode cL_law 373 = .ok (.aload_n 3, 1) := by decide +kernel
theorem dL_law_374 : decode cL_law 374 = .ok (.iconst 0, 1) := by decide +kernel
theorem dL_law_375 : decode cL_law 375 = .ok (.laload, 1) := by decide +kernel
theorem dL_law_376 : decode cL_law 376 = .ok (.iload 7, 2) := by decide +kernel
theorem dL_law_378 : decode cL_law 378 = .ok (.i2l, 1) := by decide +kernel
theorem dL_law_379 : decode cL_law 379 = .ok (.lcmp, 1) := by decide +kernel
theorem dL_law_380 : decode cL_law 380 = .ok (.ifCond .eq 5, 3) := by decide +kernel
theorem dL_law_383 : decode cL_law 383 = .ok (.iconst 0, 1) := by decide +kernel
theorem dL_law_384 : decode cL_law 384 = .ok (.ireturn, 1) := by decide +kernel
theorem dL_law_385 : decode cL_law 385 = .ok (.goto 1761, 3) := by decide +kernel
theorem dL_law_388 : decode cL_law 388 = .ok (.aload_n 1, 1) := by decide +kernel
theorem dL_law_389 : decode cL_law 389 = .ok (.aload_n 0, 1) := by decide +kernel
theorem dL_law_390 : decode cL_law 390 = .ok (.iload 5, 2) := by decide +kernel
theorem dL_law_392 : decode cL_law 392 = .ok (.iconst 1, 1) := by decide +kernel
theorem dL_law_393 : decode cL_law 393 = .ok (.iadd, 1) := by decide +kernel
theorem dL_law_394 : decode cL_law 394 = .ok (.iaload, 1) := by decide +kernel
theorem dL_law_395 : decode cL_law 395 = .ok (.aload_n 3, 1) := by decide +kernel
theorem dL_law_396 : decode cL_law 396 = .ok (.invokestatic 133, 3) := by decide +kernel
theorem dL_law_399 : decode cL_law 399 = .ok (.istore 6, 2) := by decide +kernel
theorem dL_law_401 : decode cL_law 401 = .ok (.aload_n 2, 1) := by decide +kernel
theorem dL_law_402 : decode cL_law 402 = .ok (.aload_n 0, 1) := by decide +kernel
theorem dL_law_403 : decode cL_law 403 = .ok (.iload 5, 2) := by decide +kernel
theorem dL_law_405 : decode cL_law 405 = .ok (.iconst 1, 1) := by decide +kernel
theorem dL_law_406 : decode cL_law 406 = .ok (.iadd, 1) := by decide +kernel
theorem dL_law_407 : decode cL_law 407 = .ok (.iaload, 1) := by decide +kernel
theorem dL_law_408 : decode cL_law 408 = .ok (.invokevirtual 135, 3) := by decide +kernel
theorem dL_law_411 : decode cL_law 411 = .ok (.istore 7, 2) := by decide +kernel
theorem dL_law_413 : decode cL_law 413 = .ok (.aload_n 2, 1) := by decide +kernel
theorem dL_law_414 : decode cL_law 414 = .ok (.invokevirtual 122, 3) := by decide +kernel
theorem dL_law_417 : decode cL_law 417 = .ok (.iload 6, 2) := by decide +kernel
theorem dL_law_419 : decode cL_law 419 = .ok (.if_icmp .eq 5, 3) := by decide +kernel
theorem dL_law_422 : decode cL_law 422 = .ok (.iconst 0, 1) := by decide +kernel
theorem dL_law_423 : decode cL_law 423 = .ok (.ireturn, 1) := by decide +kernel
theorem dL_law_424 : decode cL_law 424 = .ok (.iload 6, 2) := by decide +kernel
theorem dL_law_426 : decode cL_law 426 = .ok (.ifCond .ne 15, 3) := by decide +kernel
theorem dL_law_429 : decode cL_law 429 = .ok (.aload_n 3, 1) := by decide +kernel
theorem dL_law_430 : decode cL_law 430 = .ok (.iconst 0, 1) := by decide +kernel
theorem dL_law_431 : decode cL_law 431 = .ok (.laload, 1) := by decide +kernel
theorem dL_law_432 : decode cL_law 432 = .ok (.iload 7, 2) := by decide +kernel
theorem dL_law_434 : decode cL_law 434 = .ok (.i2l, 1) := by decide +kernel
theorem dL_law_435 : decode cL_law 435 = .ok (.lcmp, 1) := by decide +kernel
theorem dL_law_436 : decode cL_law 436 = .ok (.ifCond .eq 5, 3) := by decide +kernel
theorem dL_law_439 : decode cL_law 439 = .ok (.iconst 0, 1) := by decide +kernel
theorem dL_law_440 : decode cL_law 440 = .ok (.ireturn, 1) := by decide +kernel
theorem dL_law_441 : decode cL_law 441 = .ok (.goto 1705, 3) := by decide +kernel
theorem dL_law_444 : decode cL_law 444 = .ok (.aload_n 1, 1) := by decide +kernel
theorem dL_law_445 : decode cL_law 445 = .ok (.aload_n 0, 1) := by decide +kernel
theorem dL_law_446 : decode cL_law 446 = .ok (.iload 5, 2) := by decide +kernel
theorem dL_law_448 : decode cL_law 448 = .ok (.iconst 1, 1) := by decide +kernel
theorem dL_law_449 : decode cL_law 449 = .ok (.iadd, 1) := by decide +kernel
theorem dL_law_450 : decode cL_law 450 = .ok (.iaload, 1) := by decide +kernel
theorem dL_law_451 : decode cL_law 451 = .ok (.aload_n 3, 1) := by decide +kernel
theorem dL_law_452 : decode cL_law 452 = .ok (.invokestatic 136, 3) := by decide +kernel
theorem dL_law_455 : decode cL_law 455 = .ok (.istore 6, 2) := by decide +kernel
theorem dL_law_457 : decode cL_law 457 = .ok (.aload_n 2, 1) := by decide +kernel
theorem dL_law_458 : decode cL_law 458 = .ok (.aload_n 0, 1) := by decide +kernel
theorem dL_law_459 : decode cL_law 459 = .ok (.iload 5, 2) := by decide +kernel
theorem dL_law_461 : decode cL_law 461 = .ok (.iconst 1, 1) := by decide +kernel
theorem dL_law_462 : decode cL_law 462 = .ok (.iadd, 1) := by decide +kernel
theorem dL_law_463 : decode cL_law 463 = .ok (.iaload, 1) := by decide +kernel
theorem dL_law_464 : decode cL_law 464 = .ok (.invokevirtual 138, 3) := by decide +kernel
theorem dL_law_467 : decode cL_law 467 = .ok (.istore 7, 2) := by decide +kernel
theorem dL_law_469 : decode cL_law 469 = .ok (.aload_n 2, 1) := by decide +kernel
theorem dL_law_470 : decode cL_law 470 = .ok (.invokevirtual 122, 3) := by decide +kernel
theorem dL_law_473 : decode cL_law 473 = .ok (.iload 6, 2) := by decide +kernel
theorem dL_law_475 : decode cL_law 475 = .ok (.if_icmp .eq 5, 3) := by decide +kernel
theorem dL_law_478 : decode cL_law 478 = .ok (.iconst 0, 1) := by decide +kernel
theorem dL_law_479 : decode cL_law 479 = .ok (.ireturn, 1) := by decide +kernel
theorem dL_law_480 : decode cL_law 480 = .ok (.iload 6, 2) := by decide +kernel
theorem dL_law_482 : decode cL_law 482 = .ok (.ifCond .ne 22, 3) := by decide +kernel
theorem dL_law_485 : decode cL_law 485 = .ok (.aload_n 3, 1) := by decide +kernel
theorem dL_law_486 : decode cL_law 486 = .ok (.iconst 0, 1) := by decide +kernel
theorem dL_law_487 : decode cL_law 487 = .ok (.laload, 1) := by decide +kernel
theorem dL_law_488 : decode cL_law 488 = .ok (.iload 7, 2) := by decide +kernel
theorem dL_law_490 : decode cL_law 490 = .ok (.ifCond .eq 7, 3) := by decide +kernel
theorem dL_law_493 : decode cL_law 493 = .ok (.lconst 1, 1) := by decide +kernel
theorem dL_law_494 : decode cL_law 494 = .ok (.goto 4, 3) := by decide +kernel
theorem dL_law_497 : decode cL_law 497 = .ok (.lconst 0, 1) := by decide +kernel
theorem dL_law_498 : decode cL_law 498 = .ok (.lcmp, 1) := by decide +kernel
theorem dL_law_499 : decode cL_law 499 = .ok (.ifCond .eq 5, 3) := by decide +kernel
theorem dL_law_502 : decode cL_law 502 = .ok (.iconst 0, 1) := by decide +kernel
theorem dL_law_503 : decode cL_law 503 = .ok (.ireturn, 1) := by decide +kernel
theorem dL_law_504 : decode cL_law 504 = .ok (.goto 1642, 3) := by decide +kernel
theorem dL_law_507 : decode cL_law 507 = .ok (.aload_n 1, 1) := by decide +kernel
theorem dL_law_508 : decode cL_law 508 = .ok (.aload_n 0, 1) := by decide +kernel
theorem dL_law_509 : decode cL_law 509 = .ok (.iload 5, 2) := by decide +kernel
theorem dL_law_511 : decode cL_law 511 = .ok (.iconst 1, 1) := by decide +kernel
theorem dL_law_512 : decode cL_law 512 = .ok (.iadd, 1) := by decide +kernel
theorem dL_law_513 : decode cL_law 513 = .ok (.iaload, 1) := by decide +kernel
theorem dL_law_514 : decode cL_law 514 = .ok (.aload_n 3, 1) := by decide +kernel
theorem dL_law_515 : decode cL_law 515 = .ok (.invokestatic 139, 3) := by decide +kernel
theorem dL_law_518 : decode cL_law 518 = .ok (.istore 6, 2) := by decide +kernel
theorem dL_law_520 : decode cL_law 520 = .ok (.aload_n 2, 1) := by decide +kernel
theorem dL_law_521 : decode cL_law 521 = .ok (.aload_n 0, 1) := by decide +kernel
theorem dL_law_522 : decode cL_law 522 = .ok (.iload 5, 2) := by decide +kernel
theorem dL_law_524 : decode cL_law 524 = .ok (.iconst 1, 1) := by decide +kernel
theorem dL_law_525 : decode cL_law 525 = .ok (.iadd, 1) := by decide +kernel
theorem dL_law_526 : decode cL_law 526 = .ok (.iaload, 1) := by decide +kernel
theorem dL_law_527 : decode cL_law 527 = .ok (.invokevirtual 141, 3) := by decide +kernel
theorem dL_law_530 : decode cL_law 530 = .ok (.istore 7, 2) := by decide +kernel
theorem dL_law_532 : decode cL_law 532 = .ok (.aload_n 2, 1) := by decide +kernel
theorem dL_law_533 : decode cL_law 533 = .ok (.invokevirtual 122, 3) := by decide +kernel
theorem dL_law_536 : decode cL_law 536 = .ok (.iload 6, 2) := by decide +kernel
theorem dL_law_538 : decode cL_law 538 = .ok (.if_icmp .eq 5, 3) := by decide +kernel
theorem dL_law_541 : decode cL_law 541 = .ok (.iconst 0, 1) := by decide +kernel
theorem dL_law_542 : decode cL_law 542 = .ok (.ireturn, 1) := by decide +kernel
theorem dL_law_543 : decode cL_law 543 = .ok (.iload 6, 2) := by decide +kernel
theorem dL_law_545 : decode cL_law 545 = .ok (.ifCond .ne 15, 3) := by decide +kernel
theorem dL_law_548 : decode cL_law 548 = .ok (.aload_n 3, 1) := by decide +kernel
theorem dL_law_549 : decode cL_law 549 = .ok (.iconst 0, 1) := by decide +kernel
theorem dL_law_550 : decode cL_law 550 = .ok (.laload, 1) := by decide +kernel
theorem dL_law_551 : decode cL_law 551 = .ok (.iload 7, 2) := by decide +kernel
theorem dL_law_553 : decode cL_law 553 = .ok (.i2l, 1) := by decide +kernel
theorem dL_law_554 : decode cL_law 554 = .ok (.lcmp, 1) := by decide +kernel
theorem dL_law_555 : decode cL_law 555 = .ok (.ifCond .eq 5, 3) := by decide +kernel
theorem dL_law_558 : decode cL_law 558 = .ok (.iconst 0, 1) := by decide +kernel
theorem dL_law_559 : decode cL_law 559 = .ok (.ireturn, 1) := by decide +kernel
theorem dL_law_560 : decode cL_law 560 = .ok (.goto 1586, 3) := by decide +kernel
theorem dL_law_563 : decode cL_law 563 = .ok (.aload_n 1, 1) := by decide +kernel
theorem dL_law_564 : decode cL_law 564 = .ok (.aload_n 0, 1) := by decide +kernel
theorem dL_law_565 : decode cL_law 565 = .ok (.iload 5, 2) := by decide +kernel
theorem dL_law_567 : decode cL_law 567 = .ok (.iconst 1, 1) := by decide +kernel
theorem dL_law_568 : decode cL_law 568 = .ok (.iadd, 1) := by decide +kernel
theorem dL_law_569 : decode cL_law 569 = .ok (.iaload, 1) := by decide +kernel
theorem dL_law_570 : decode cL_law 570 = .ok (.aload_n 0, 1) := by decide +kernel
theorem dL_law_571 : decode cL_law 571 = .ok (.iload 5, 2) := by decide +kernel
theorem dL_law_573 : decode cL_law 573 = .ok (.iconst 2, 1) := by decide +kernel
theorem dL_law_574 : decode cL_law 574 = .ok (.iadd, 1) := by decide +kernel
theorem dL_law_575 : decode cL_law 575 = .ok (.iaload, 1) := by decide +kernel
theorem dL_law_576 : decode cL_law 576 = .ok (.aload_n 0, 1) := by decide +kernel
theorem dL_law_577 : decode cL_law 577 = .ok (.iload 5, 2) := by decide +kernel
theorem dL_law_579 : decode cL_law 579 = .ok (.iconst 3, 1) := by decide +kernel
theorem dL_law_580 : decode cL_law 580 = .ok (.iadd, 1) := by decide +kernel
theorem dL_law_581 : decode cL_law 581 = .ok (.iaload, 1) := by decide +kernel
theorem dL_law_582 : decode cL_law 582 = .ok (.aload_n 0, 1) := by decide +kernel
theorem dL_law_583 : decode cL_law 583 = .ok (.iload 5, 2) := by decide +kernel
theorem dL_law_585 : decode cL_law 585 = .ok (.iconst 4, 1) := by decide +kernel
theorem dL_law_586 : decode cL_law 586 = .ok (.iadd, 1) := by decide +kernel
theorem dL_law_587 : decode cL_law 587 = .ok (.iaload, 1) := by decide +kernel
theorem dL_law_588 : decode cL_law 588 = .ok (.aload_n 0, 1) := by decide +kernel
theorem dL_law_589 : decode cL_law 589 = .ok (.iload 5, 2) := by decide +kernel
theorem dL_law_591 : decode cL_law 591 = .ok (.iconst 5, 1) := by decide +kernel
theorem dL_law_592 : decode cL_law 592 = .ok (.iadd, 1) := by decide +kernel
theorem dL_law_593 : decode cL_law 593 = .ok (.iaload, 1) := by decide +kernel
theorem dL_law_594 : decode cL_law 594 = .ok (.aload_n 0, 1) := by decide +kernel
theorem dL_law_595 : decode cL_law 595 = .ok (.iload 5, 2) := by decide +kernel
theorem dL_law_597 : decode cL_law 597 = .ok (.bipush 6, 2) := by decide +kernel
theorem dL_law_599 : decode cL_law 599 = .ok (.iadd, 1) := by decide +kernel
theorem dL_law_600 : decode cL_law 600 = .ok (.iaload, 1) := by decide +kernel
theorem dL_law_601 : decode cL_law 601 = .ok (.aload_n 3, 1) := by decide +kernel
theorem dL_law_602 : decode cL_law 602 = .ok (.invokestatic 142, 3) := by decide +kernel
theorem dL_law_605 : decode cL_law 605 = .ok (.istore 6, 2) := by decide +kernel
theorem dL_law_607 : decode cL_law 607 = .ok (.aload_n 2, 1) := by decide +kernel
theorem dL_law_608 : decode cL_law 608 = .ok (.aload_n 0, 1) := by decide +kernel
theorem dL_law_609 : decode cL_law 609 = .ok (.iload 5, 2) := by decide +kernel
theorem dL_law_611 : decode cL_law 611 = .ok (.iconst 1, 1) := by decide +kernel
theorem dL_law_612 : decode cL_law 612 = .ok (.iadd, 1) := by decide +kernel
theorem dL_law_613 : decode cL_law 613 = .ok (.iaload, 1) := by decide +kernel
theorem dL_law_614 : decode cL_law 614 = .ok (.aload_n 0, 1) := by decide +kernel
theorem dL_law_615 : decode cL_law 615 = .ok (.iload 5, 2) := by decide +kernel
theorem dL_law_617 : decode cL_law 617 = .ok (.iconst 2, 1) := by decide +kernel
theorem dL_law_618 : decode cL_law 618 = .ok (.iadd, 1) := by decide +kernel
theorem dL_law_619 : decode cL_law 619 = .ok (.iaload, 1) := by decide +kernel
theorem dL_law_620 : decode cL_law 620 = .ok (.aload_n 0, 1) := by decide +kernel
theorem dL_law_621 : decode cL_law 621 = .ok (.iload 5, 2) := by decide +kernel
theorem dL_law_623 : decode cL_law 623 = .ok (.iconst 3, 1) := by decide +kernel
theorem dL_law_624 : decode cL_law 624 = .ok (.iadd, 1) := by decide +kernel
theorem dL_law_625 : decode cL_law 625 = .ok (.iaload, 1) := by decide +kernel
theorem dL_law_626 : decode cL_law 626 = .ok (.aload_n 0, 1) := by decide +kernel
theorem dL_law_627 : decode cL_law 627 = .ok (.iload 5, 2) := by decide +kernel
theorem dL_law_629 : decode cL_law 629 = .ok (.iconst 4, 1) := by decide +kernel
theorem dL_law_630 : decode cL_law 630 = .ok (.iadd, 1) := by decide +kernel
theorem dL_law_631 : decode cL_law 631 = .ok (.iaload, 1) := by decide +kernel
theorem dL_law_632 : decode cL_law 632 = .ok (.aload_n 0, 1) := by decide +kernel
theorem dL_law_633 : decode cL_law 633 = .ok (.iload 5, 2) := by decide +kernel
theorem dL_law_635 : decode cL_law 635 = .ok (.iconst 5, 1) := by decide +kernel
theorem dL_law_636 : decode cL_law 636 = .ok (.iadd, 1) := by decide +kernel
theorem dL_law_637 : decode cL_law 637 = .ok (.iaload, 1) := by decide +kernel
theorem dL_law_638 : decode cL_law 638 = .ok (.aload_n 0, 1) := by decide +kernel
end
section
theorem dL_law_639 : decode cL_law 639 = .ok (.iload 5, 2) := by decide +kernel
theorem dL_law_641 : decode cL_law 641 = .ok (.bipush 6, 2) := by decide +kernel
theorem dL_law_643 : decode cL_law 643 = .ok (.iadd, 1) := by decide +kernel
theorem dL_law_644 : decode cL_law 644 = .ok (.iaload, 1) := by decide +kernel
theorem dL_law_645 : decode cL_law 645 = .ok (.invokevirtual 145, 3) := by decide +kernel
theorem dL_law_648 : decode cL_law 648 = .ok (.istore 7, 2) := by decide +kernel
theorem dL_law_650 : decode cL_law 650 = .ok (.aload_n 2, 1) := by decide +kernel
theorem dL_law_651 : decode cL_law 651 = .ok (.invokevirtual 122, 3) := by decide +kernel
theorem dL_law_654 : decode cL_law 654 = .ok (.iload 6, 2) := by decide +kernel
theorem dL_law_656 : decode cL_law 656 = .ok (.if_icmp .eq 5, 3) := by decide +kernel
theorem dL_law_659 : decode cL_law 659 = .ok (.iconst 0, 1) := by decide +kernel
theorem dL_law_660 : decode cL_law 660 = .ok (.ireturn, 1) := by decide +kernel
theorem dL_law_661 : decode cL_law 661 = .ok (.iload 6, 2) := by decide +kernel
theorem dL_law_663 : decode cL_law 663 = .ok (.ifCond .ne 15, 3) := by decide +kernel
theorem dL_law_666 : decode cL_law 666 = .ok (.aload_n 3, 1) := by decide +kernel
theorem dL_law_667 : decode cL_law 667 = .ok (.iconst 0, 1) := by decide +kernel
theorem dL_law_668 : decode cL_law 668 = .ok (.laload, 1) := by decide +kernel
theorem dL_law_669 : decode cL_law 669 = .ok (.iload 7, 2) := by decide +kernel
theorem dL_law_671 : decode cL_law 671 = .ok (.i2l, 1) := by decide +kernel
theorem dL_law_672 : decode cL_law 672 = .ok (.lcmp, 1) := by decide +kernel
theorem dL_law_673 : decode cL_law 673 = .ok (.ifCond .eq 5, 3) := by decide +kernel
theorem dL_law_676 : decode cL_law 676 = .ok (.iconst 0, 1) := by decide +kernel
theorem dL_law_677 : decode cL_law 677 = .ok (.ireturn, 1) := by decide +kernel
theorem dL_law_678 : decode cL_law 678 = .ok (.goto 1468, 3) := by decide +kernel
theorem dL_law_681 : decode cL_law 681 = .ok (.aload_n 1, 1) := by decide +kernel
theorem dL_law_682 : decode cL_law 682 = .ok (.aload_n 0, 1) := by decide +kernel
theorem dL_law_683 : decode cL_law 683 = .ok (.iload 5, 2) := by decide +kernel
theorem dL_law_685 : decode cL_law 685 = .ok (.iconst 1, 1) := by decide +kernel
theorem dL_law_686 : decode cL_law 686 = .ok (.iadd, 1) := by decide +kernel
theorem dL_law_687 : decode cL_law 687 = .ok (.iaload, 1) := by decide +kernel
theorem dL_law_688 : decode cL_law 688 = .ok (.aload_n 0, 1) := by decide +kernel
theorem dL_law_689 : decode cL_law 689 = .ok (.iload 5, 2) := by decide +kernel
theorem dL_law_691 : decode cL_law 691 = .ok (.iconst 2, 1) := by decide +kernel
theorem dL_law_692 : decode cL_law 692 = .ok (.iadd, 1) := by decide +kernel
theorem dL_law_693 : decode cL_law 693 = .ok (.iaload, 1) := by decide +kernel
theorem dL_law_694 : decode cL_law 694 = .ok (.aload_n 3, 1) := by decide +kernel
theorem dL_law_695 : decode cL_law 695 = .ok (.invokestatic 146, 3) := by decide +kernel
theorem dL_law_698 : decode cL_law 698 = .ok (.istore 6, 2) := by decide +kernel
theorem dL_law_700 : decode cL_law 700 = .ok (.aload_n 2, 1) := by decide +kernel
theorem dL_law_701 : decode cL_law 701 = .ok (.aload_n 0, 1) := by decide +kernel
theorem dL_law_702 : decode cL_law 702 = .ok (.iload 5, 2) := by decide +kernel
theorem dL_law_704 : decode cL_law 704 = .ok (.iconst 1, 1) := by decide +kernel
theorem dL_law_705 : decode cL_law 705 = .ok (.iadd, 1) := by decide +kernel
theorem dL_law_706 : decode cL_law 706 = .ok (.iaload, 1) := by decide +kernel
theorem dL_law_707 : decode cL_law 707 = .ok (.aload_n 0, 1) := by decide +kernel
theorem dL_law_708 : decode cL_law 708 = .ok (.iload 5, 2) := by decide +kernel
theorem dL_law_710 : decode cL_law 710 = .ok (.iconst 2, 1) := by decide +kernel
theorem dL_law_711 : decode cL_law 711 = .ok (.iadd, 1) := by decide +kernel
theorem dL_law_712 : decode cL_law 712 = .ok (.iaload, 1) := by decide +kernel
theorem dL_law_713 : decode cL_law 713 = .ok (.invokevirtual 149, 3) := by decide +kernel
theorem dL_law_716 : decode cL_law 716 = .ok (.istore 7, 2) := by decide +kernel
theorem dL_law_718 : decode cL_law 718 = .ok (.aload_n 2, 1) := by decide +kernel
theorem dL_law_719 : decode cL_law 719 = .ok (.invokevirtual 122, 3) := by decide +kernel
theorem dL_law_722 : decode cL_law 722 = .ok (.iload 6, 2) := by decide +kernel
theorem dL_law_724 : decode cL_law 724 = .ok (.if_icmp .eq 5, 3) := by decide +kernel
theorem dL_law_727 : decode cL_law 727 = .ok (.iconst 0, 1) := by decide +kernel
theorem dL_law_728 : decode cL_law 728 = .ok (.ireturn, 1) := by decide +kernel
theorem dL_law_729 : decode cL_law 729 = .ok (.iload 6, 2) := by decide +kernel
theorem dL_law_731 : decode cL_law 731 = .ok (.ifCond .ne 15, 3) := by decide +kernel
theorem dL_law_734 : decode cL_law 734 = .ok (.aload_n 3, 1) := by decide +kernel
theorem dL_law_735 : decode cL_law 735 = .ok (.iconst 0, 1) := by decide +kernel
theorem dL_law_736 : decode cL_law 736 = .ok (.laload, 1) := by decide +kernel
theorem dL_law_737 : decode cL_law 737 = .ok (.iload 7, 2) := by decide +kernel
theorem dL_law_739 : decode cL_law 739 = .ok (.i2l, 1) := by decide +kernel
theorem dL_law_740 : decode cL_law 740 = .ok (.lcmp, 1) := by decide +kernel
theorem dL_law_741 : decode cL_law 741 = .ok (.ifCond .eq 5, 3) := by decide +kernel
theorem dL_law_744 : decode cL_law 744 = .ok (.iconst 0, 1) := by decide +kernel
theorem dL_law_745 : decode cL_law 745 = .ok (.ireturn, 1) := by decide +kernel
theorem dL_law_746 : decode cL_law 746 = .ok (.goto 1400, 3) := by decide +kernel
theorem dL_law_749 : decode cL_law 749 = .ok (.aload_n 1, 1) := by decide +kernel
theorem dL_law_750 : decode cL_law 750 = .ok (.aload_n 0, 1) := by decide +kernel
theorem dL_law_751 : decode cL_law 751 = .ok (.iload 5, 2) := by decide +kernel
theorem dL_law_753 : decode cL_law 753 = .ok (.iconst 1, 1) := by decide +kernel
theorem dL_law_754 : decode cL_law 754 = .ok (.iadd, 1) := by decide +kernel
theorem dL_law_755 : decode cL_law 755 = .ok (.iaload, 1) := by decide +kernel
theorem dL_law_756 : decode cL_law 756 = .ok (.aload_n 3, 1) := by decide +kernel
theorem dL_law_757 : decode cL_law 757 = .ok (.invokestatic 150, 3) := by decide +kernel
theorem dL_law_760 : decode cL_law 760 = .ok (.istore 6, 2) := by decide +kernel
theorem dL_law_762 : decode cL_law 762 = .ok (.aload_n 2, 1) := by decide +kernel
theorem dL_law_763 : decode cL_law 763 = .ok (.aload_n 0, 1) := by decide +kernel
theorem dL_law_764 : decode cL_law 764 = .ok (.iload 5, 2) := by decide +kernel
theorem dL_law_766 : decode cL_law 766 = .ok (.iconst 1, 1) := by decide +kernel
theorem dL_law_767 : decode cL_law 767 = .ok (.iadd, 1) := by decide +kernel
theorem dL_law_768 : decode cL_law 768 = .ok (.iaload, 1) := by decide +kernel
theorem dL_law_769 : decode cL_law 769 = .ok (.invokevirtual 152, 3) := by decide +kernel
theorem dL_law_772 : decode cL_law 772 = .ok (.istore 7, 2) := by decide +kernel
theorem dL_law_774 : decode cL_law 774 = .ok (.aload_n 2, 1) := by decide +kernel
theorem dL_law_775 : decode cL_law 775 = .ok (.invokevirtual 122, 3) := by decide +kernel
theorem dL_law_778 : decode cL_law 778 = .ok (.iload 6, 2) := by decide +kernel
theorem dL_law_780 : decode cL_law 780 = .ok (.if_icmp .eq 5, 3) := by decide +kernel
theorem dL_law_783 : decode cL_law 783 = .ok (.iconst 0, 1) := by decide +kernel
theorem dL_law_784 : decode cL_law 784 = .ok (.ireturn, 1) := by decide +kernel
theorem dL_law_785 : decode cL_law 785 = .ok (.iload 6, 2) := by decide +kernel
theorem dL_law_787 : decode cL_law 787 = .ok (.ifCond .ne 15, 3) := by decide +kernel
theorem dL_law_790 : decode cL_law 790 = .ok (.aload_n 3, 1) := by decide +kernel
theorem dL_law_791 : decode cL_law 791 = .ok (.iconst 0, 1) := by decide +kernel
theorem dL_law_792 : decode cL_law 792 = .ok (.laload, 1) := by decide +kernel
theorem dL_law_793 : decode cL_law 793 = .ok (.iload 7, 2) := by decide +kernel
theorem dL_law_795 : decode cL_law 795 = .ok (.i2l, 1) := by decide +kernel
theorem dL_law_796 : decode cL_law 796 = .ok (.lcmp, 1) := by decide +kernel
theorem dL_law_797 : decode cL_law 797 = .ok (.ifCond .eq 5, 3) := by decide +kernel
theorem dL_law_800 : decode cL_law 800 = .ok (.iconst 0, 1) := by decide +kernel
theorem dL_law_801 : decode cL_law 801 = .ok (.ireturn, 1) := by decide +kernel
theorem dL_law_802 : decode cL_law 802 = .ok (.goto 1344, 3) := by decide +kernel
theorem dL_law_805 : decode cL_law 805 = .ok (.aload_n 1, 1) := by decide +kernel
theorem dL_law_806 : decode cL_law 806 = .ok (.aload_n 0, 1) := by decide +kernel
theorem dL_law_807 : decode cL_law 807 = .ok (.iload 5, 2) := by decide +kernel
theorem dL_law_809 : decode cL_law 809 = .ok (.iconst 1, 1) := by decide +kernel
theorem dL_law_810 : decode cL_law 810 = .ok (.iadd, 1) := by decide +kernel
theorem dL_law_811 : decode cL_law 811 = .ok (.iaload, 1) := by decide +kernel
theorem dL_law_812 : decode cL_law 812 = .ok (.aload_n 0, 1) := by decide +kernel
theorem dL_law_813 : decode cL_law 813 = .ok (.iload 5, 2) := by decide +kernel
theorem dL_law_815 : decode cL_law 815 = .ok (.iconst 2, 1) := by decide +kernel
theorem dL_law_816 : decode cL_law 816 = .ok (.iadd, 1) := by decide +kernel
theorem dL_law_817 : decode cL_law 817 = .ok (.iaload, 1) := by decide +kernel
theorem dL_law_818 : decode cL_law 818 = .ok (.aload_n 0, 1) := by decide +kernel
theorem dL_law_819 : decode cL_law 819 = .ok (.iload 5, 2) := by decide +kernel
theorem dL_law_821 : decode cL_law 821 = .ok (.iconst 3, 1) := by decide +kernel
theorem dL_law_822 : decode cL_law 822 = .ok (.iadd, 1) := by decide +kernel
theorem dL_law_823 : decode cL_law 823 = .ok (.iaload, 1) := by decide +kernel
theorem dL_law_824 : decode cL_law 824 = .ok (.aload_n 0, 1) := by decide +kernel
theorem dL_law_825 : decode cL_law 825 = .ok (.iload 5, 2) := by decide +kernel
theorem dL_law_827 : decode cL_law 827 = .ok (.iconst 4, 1) := by decide +kernel
theorem dL_law_828 : decode cL_law 828 = .ok (.iadd, 1) := by decide +kernel
theorem dL_law_829 : decode cL_law 829 = .ok (.iaload, 1) := by decide +kernel
theorem dL_law_830 : decode cL_law 830 = .ok (.aload_n 0, 1) := by decide +kernel
theorem dL_law_831 : decode cL_law 831 = .ok (.iload 5, 2) := by decide +kernel
theorem dL_law_833 : decode cL_law 833 = .ok (.iconst 5, 1) := by decide +kernel
theorem dL_law_834 : decode cL_law 834 = .ok (.iadd, 1) := by decide +kernel
theorem dL_law_835 : decode cL_law 835 = .ok (.iaload, 1) := by decide +kernel
theorem dL_law_836 : decode cL_law 836 = .ok (.ifCond .eq 7, 3) := by decide +kernel
theorem dL_law_839 : decode cL_law 839 = .ok (.iconst 1, 1) := by decide +kernel
theorem dL_law_840 : decode cL_law 840 = .ok (.goto 4, 3) := by decide +kernel
theorem dL_law_843 : decode cL_law 843 = .ok (.iconst 0, 1) := by decide +kernel
theorem dL_law_844 : decode cL_law 844 = .ok (.aload_n 3, 1) := by decide +kernel
theorem dL_law_845 : decode cL_law 845 = .ok (.invokestatic 153, 3) := by decide +kernel
theorem dL_law_848 : decode cL_law 848 = .ok (.istore 6, 2) := by decide +kernel
theorem dL_law_850 : decode cL_law 850 = .ok (.aload_n 2, 1) := by decide +kernel
theorem dL_law_851 : decode cL_law 851 = .ok (.aload_n 0, 1) := by decide +kernel
theorem dL_law_852 : decode cL_law 852 = .ok (.iload 5, 2) := by decide +kernel
theorem dL_law_854 : decode cL_law 854 = .ok (.iconst 1, 1) := by decide +kernel
theorem dL_law_855 : decode cL_law 855 = .ok (.iadd, 1) := by decide +kernel
theorem dL_law_856 : decode cL_law 856 = .ok (.iaload, 1) := by decide +kernel
theorem dL_law_857 : decode cL_law 857 = .ok (.aload_n 0, 1) := by decide +kernel
theorem dL_law_858 : decode cL_law 858 = .ok (.iload 5, 2) := by decide +kernel
theorem dL_law_860 : decode cL_law 860 = .ok (.iconst 2, 1) := by decide +kernel
theorem dL_law_861 : decode cL_law 861 = .ok (.iadd, 1) := by decide +kernel
theorem dL_law_862 : decode cL_law 862 = .ok (.iaload, 1) := by decide +kernel
theorem dL_law_863 : decode cL_law 863 = .ok (.aload_n 0, 1) := by decide +kernel
theorem dL_law_864 : decode cL_law 864 = .ok (.iload 5, 2) := by decide +kernel
theorem dL_law_866 : decode cL_law 866 = .ok (.iconst 3, 1) := by decide +kernel
theorem dL_law_867 : decode cL_law 867 = .ok (.iadd, 1) := by decide +kernel
theorem dL_law_868 : decode cL_law 868 = .ok (.iaload, 1) := by decide +kernel
theorem dL_law_869 : decode cL_law 869 = .ok (.aload_n 0, 1) := by decide +kernel
theorem dL_law_870 : decode cL_law 870 = .ok (.iload 5, 2) := by decide +kernel
theorem dL_law_872 : decode cL_law 872 = .ok (.iconst 4, 1) := by decide +kernel
theorem dL_law_873 : decode cL_law 873 = .ok (.iadd, 1) := by decide +kernel
theorem dL_law_874 : decode cL_law 874 = .ok (.iaload, 1) := by decide +kernel
theorem dL_law_875 : decode cL_law 875 = .ok (.aload_n 0, 1) := by decide +kernel
theorem dL_law_876 : decode cL_law 876 = .ok (.iload 5, 2) := by decide +kernel
theorem dL_law_878 : decode cL_law 878 = .ok (.iconst 5, 1) := by decide +kernel
theorem dL_law_879 : decode cL_law 879 = .ok (.iadd, 1) := by decide +kernel
theorem dL_law_880 : decode cL_law 880 = .ok (.iaload, 1) := by decide +kernel
theorem dL_law_881 : decode cL_law 881 = .ok (.ifCond .eq 7, 3) := by decide +kernel
theorem dL_law_884 : decode cL_law 884 = .ok (.iconst 1, 1) := by decide +kernel
theorem dL_law_885 : decode cL_law 885 = .ok (.goto 4, 3) := by decide +kernel
theorem dL_law_888 : decode cL_law 888 = .ok (.iconst 0, 1) := by decide +kernel
theorem dL_law_889 : decode cL_law 889 = .ok (.invokevirtual 156, 3) := by decide +kernel
theorem dL_law_892 : decode cL_law 892 = .ok (.istore 7, 2) := by decide +kernel
theorem dL_law_894 : decode cL_law 894 = .ok (.aload_n 2, 1) := by decide +kernel
theorem dL_law_895 : decode cL_law 895 = .ok (.invokevirtual 122, 3) := by decide +kernel
theorem dL_law_898 : decode cL_law 898 = .ok (.iload 6, 2) := by decide +kernel
theorem dL_law_900 : decode cL_law 900 = .ok (.if_icmp .eq 5, 3) := by decide +kernel
theorem dL_law_903 : decode cL_law 903 = .ok (.iconst 0, 1) := by decide +kernel
theorem dL_law_904 : decode cL_law 904 = .ok (.ireturn, 1) := by decide +kernel
theorem dL_law_905 : decode cL_law 905 = .ok (.iload 6, 2) := by decide +kernel
theorem dL_law_907 : decode cL_law 907 = .ok (.ifCond .ne 15, 3) := by decide +kernel
theorem dL_law_910 : decode cL_law 910 = .ok (.aload_n 3, 1) := by decide +kernel
theorem dL_law_911 : decode cL_law 911 = .ok (.iconst 0, 1) := by decide +kernel
theorem dL_law_912 : decode cL_law 912 = .ok (.laload, 1) := by decide +kernel
theorem dL_law_913 : decode cL_law 913 = .ok (.iload 7, 2) := by decide +kernel
theorem dL_law_915 : decode cL_law 915 = .ok (.i2l, 1) := by decide +kernel
theorem dL_law_916 : decode cL_law 916 = .ok (.lcmp, 1) := by decide +kernel
theorem dL_law_917 : decode cL_law 917 = .ok (.ifCond .eq 5, 3) := by decide +kernel
theorem dL_law_920 : decode cL_law 920 = .ok (.iconst 0, 1) := by decide +kernel
theorem dL_law_921 : decode cL_law 921 = .ok (.ireturn, 1) := by decide +kernel
theorem dL_law_922 : decode cL_law 922 = .ok (.goto 1224, 3) := by decide +kernel
theorem dL_law_925 : decode cL_law 925 = .ok (.aload_n 1, 1) := by decide +kernel
theorem dL_law_926 : decode cL_law 926 = .ok (.aload_n 0, 1) := by decide +kernel
theorem dL_law_927 : decode cL_law 927 = .ok (.iload 5, 2) := by decide +kernel
theorem dL_law_929 : decode cL_law 929 = .ok (.iconst 1, 1) := by decide +kernel
theorem dL_law_930 : decode cL_law 930 = .ok (.iadd, 1) := by decide +kernel
theorem dL_law_931 : decode cL_law 931 = .ok (.iaload, 1) := by decide +kernel
theorem dL_law_932 : decode cL_law 932 = .ok (.aload_n 3, 1) := by decide +kernel
theorem dL_law_933 : decode cL_law 933 = .ok (.invokestatic 157, 3) := by decide +kernel
theorem dL_law_936 : decode cL_law 936 = .ok (.istore 6, 2) := by decide +kernel
theorem dL_law_938 : decode cL_law 938 = .ok (.aload_n 2, 1) := by decide +kernel
theorem dL_law_939 : decode cL_law 939 = .ok (.aload_n 0, 1) := by decide +kernel
theorem dL_law_940 : decode cL_law 940 = .ok (.iload 5, 2) := by decide +kernel
theorem dL_law_942 : decode cL_law 942 = .ok (.iconst 1, 1) := by decide +kernel
theorem dL_law_943 : decode cL_law 943 = .ok (.iadd, 1) := by decide +kernel
theorem dL_law_944 : decode cL_law 944 = .ok (.iaload, 1) := by decide +kernel
theorem dL_law_945 : decode cL_law 945 = .ok (.invokevirtual 159, 3) := by decide +kernel
theorem dL_law_948 : decode cL_law 948 = .ok (.istore 7, 2) := by decide +kernel
theorem dL_law_950 : decode cL_law 950 = .ok (.aload_n 2, 1) := by decide +kernel
theorem dL_law_951 : decode cL_law 951 = .ok (.invokevirtual 122, 3) := by decide +kernel
theorem dL_law_954 : decode cL_law 954 = .ok (.iload 6, 2) := by decide +kernel
theorem dL_law_956 : decode cL_law 956 = .ok (.if_icmp .eq 5, 3) := by decide +kernel
theorem dL_law_959 : decode cL_law 959 = .ok (.iconst 0, 1) := by decide +kernel
theorem dL_law_960 : decode cL_law 960 = .ok (.ireturn, 1) := by decide +kernel
theorem dL_law_961 : decode cL_law 961 = .ok (.iload 6, 2) := by decide +kernel
theorem dL_law_963 : decode cL_law 963 = .ok (.ifCond .ne 15, 3) := by decide +kernel
theorem dL_law_966 : decode cL_law 966 = .ok (.aload_n 3, 1) := by decide +kernel
theorem dL_law_967 : decode cL_law 967 = .ok (.iconst 0, 1) := by decide +kernel
theorem dL_law_968 : decode cL_law 968 = .ok (.laload, 1) := by decide +kernel
theorem dL_law_969 : decode cL_law 969 = .ok (.iload 7, 2) := by decide +kernel
theorem dL_law_971 : decode cL_law 971 = .ok (.i2l, 1) := by decide +kernel
theorem dL_law_972 : decode cL_law 972 = .ok (.lcmp, 1) := by decide +kernel
theorem dL_law_973 : decode cL_law 973 = .ok (.ifCond .eq 5, 3) := by decide +kernel
theorem dL_law_976 : decode cL_law 976 = .ok (.iconst 0, 1) := by decide +kernel
theorem dL_law_977 : decode cL_law 977 = .ok (.ireturn, 1) := by decide +kernel
theorem dL_law_978 : decode cL_law 978 = .ok (.goto 1168, 3) := by decide +kernel
theorem dL_law_981 : decode cL_law 981 = .ok (.aload_n 1, 1) := by decide +kernel
theorem dL_law_982 : decode cL_law 982 = .ok (.invokevirtual 160, 3) := by decide +kernel
theorem dL_law_985 : decode cL_law 985 = .ok (.aload_n 2, 1) := by decide +kernel
theorem dL_law_986 : decode cL_law 986 = .ok (.invokevirtual 163, 3) := by decide +kernel
theorem dL_law_989 : decode cL_law 989 = .ok (.if_icmp .eq 1157, 3) := by decide +kernel
theorem dL_law_992 : decode cL_law 992 = .ok (.iconst 0, 1) := by decide +kernel
theorem dL_law_993 : decode cL_law 993 = .ok (.ireturn, 1) := by decide +kernel
theorem dL_law_994 : decode cL_law 994 = .ok (.aload_n 1, 1) := by decide +kernel
theorem dL_law_995 : decode cL_law 995 = .ok (.aload_n 0, 1) := by decide +kernel
theorem dL_law_996 : decode cL_law 996 = .ok (.iload 5, 2) := by decide +kernel
theorem dL_law_998 : decode cL_law 998 = .ok (.iconst 1, 1) := by decide +kernel
theorem dL_law_999 : decode cL_law 999 = .ok (.iadd, 1) := by decide +kernel
theorem dL_law_1000 : decode cL_law 1000 = .ok (.iaload, 1) := by decide +kernel
theorem dL_law_1001 : decode cL_law 1001 = .ok (.aload_n 3, 1) := by decide +kernel
theorem dL_law_1002 : decode cL_law 1002 = .ok (.invokestatic 164, 3) := by decide +kernel
theorem dL_law_1005 : decode cL_law 1005 = .ok (.istore 6, 2) := by decide +kernel
theorem dL_law_1007 : decode cL_law 1007 = .ok (.aload_n 2, 1) := by decide +kernel
theorem dL_law_1008 : decode cL_law 1008 = .ok (.aload_n 0, 1) := by decide +kernel
theorem dL_law_1009 : decode cL_law 1009 = .ok (.iload 5, 2) := by decide +kernel
theorem dL_law_1011 : decode cL_law 1011 = .ok (.iconst 1, 1) := by decide +kernel
theorem dL_law_1012 : decode cL_law 1012 = .ok (.iadd, 1) := by decide +kernel
theorem dL_law_1013 : decode cL_law 1013 = .ok (.iaload, 1) := by decide +kernel
theorem dL_law_1014 : decode cL_law 1014 = .ok (.invokevirtual 166, 3) := by decide +kernel
theorem dL_law_1017 : decode cL_law 1017 = .ok (.istore 7, 2) := by decide +kernel
theorem dL_law_1019 : decode cL_law 1019 = .ok (.aload_n 2, 1) := by decide +kernel
theorem dL_law_1020 : decode cL_law 1020 = .ok (.invokevirtual 122, 3) := by decide +kernel
theorem dL_law_1023 : decode cL_law 1023 = .ok (.iload 6, 2) := by decide +kernel
theorem dL_law_1025 : decode cL_law 1025 = .ok (.if_icmp .eq 5, 3) := by decide +kernel
theorem dL_law_1028 : decode cL_law 1028 = .ok (.iconst 0, 1) := by decide +kernel
theorem dL_law_1029 : decode cL_law 1029 = .ok (.ireturn, 1) := by decide +kernel
theorem dL_law_1030 : decode cL_law 1030 = .ok (.iload 6, 2) := by decide +kernel
theorem dL_law_1032 : decode cL_law 1032 = .ok (.ifCond .ne 15, 3) := by decide +kernel
theorem dL_law_1035 : decode cL_law 1035 = .ok (.aload_n 3, 1) := by decide +kernel
theorem dL_law_1036 : decode cL_law 1036 = .ok (.iconst 0, 1) := by decide +kernel
theorem dL_law_1037 : decode cL_law 1037 = .ok (.laload, 1) := by decide +kernel
theorem dL_law_1038 : decode cL_law 1038 = .ok (.iload 7, 2) := by decide +kernel
theorem dL_law_1040 : decode cL_law 1040 = .ok (.i2l, 1) := by decide +kernel
theorem dL_law_1041 : decode cL_law 1041 = .ok (.lcmp, 1) := by decide +kernel
theorem dL_law_1042 : decode cL_law 1042 = .ok (.ifCond .eq 5, 3) := by decide +kernel
theorem dL_law_1045 : decode cL_law 1045 = .ok (.iconst 0, 1) := by decide +kernel
theorem dL_law_1046 : decode cL_law 1046 = .ok (.ireturn, 1) := by decide +kernel
theorem dL_law_1047 : decode cL_law 1047 = .ok (.goto 1099, 3) := by decide +kernel
theorem dL_law_1050 : decode cL_law 1050 = .ok (.aload_n 1, 1) := by decide +kernel
theorem dL_law_1051 : decode cL_law 1051 = .ok (.aload_n 0, 1) := by decide +kernel
theorem dL_law_1052 : decode cL_law 1052 = .ok (.iload 5, 2) := by decide +kernel
theorem dL_law_1054 : decode cL_law 1054 = .ok (.iconst 1, 1) := by decide +kernel
theorem dL_law_1055 : decode cL_law 1055 = .ok (.iadd, 1) := by decide +kernel
theorem dL_law_1056 : decode cL_law 1056 = .ok (.iaload, 1) := by decide +kernel
theorem dL_law_1057 : decode cL_law 1057 = .ok (.aload_n 3, 1) := by decide +kernel
theorem dL_law_1058 : decode cL_law 1058 = .ok (.invokestatic 167, 3) := by decide +kernel
theorem dL_law_1061 : decode cL_law 1061 = .ok (.istore 6, 2) := by decide +kernel
theorem dL_law_1063 : decode cL_law 1063 = .ok (.aload_n 2, 1) := by decide +kernel
theorem dL_law_1064 : decode cL_law 1064 = .ok (.aload_n 0, 1) := by decide +kernel
theorem dL_law_1065 : decode cL_law 1065 = .ok (.iload 5, 2) := by decide +kernel
theorem dL_law_1067 : decode cL_law 1067 = .ok (.iconst 1, 1) := by decide +kernel
theorem dL_law_1068 : decode cL_law 1068 = .ok (.iadd, 1) := by decide +kernel
theorem dL_law_1069 : decode cL_law 1069 = .ok (.iaload, 1) := by decide +kernel
theorem dL_law_1070 : decode cL_law 1070 = .ok (.invokevirtual 169, 3) := by decide +kernel
theorem dL_law_1073 : decode cL_law 1073 = .ok (.istore 7, 2) := by decide +kernel
theorem dL_law_1075 : decode cL_law 1075 = .ok (.aload_n 2, 1) := by decide +kernel
theorem dL_law_1076 : decode cL_law 1076 = .ok (.invokevirtual 122, 3) := by decide +kernel
theorem dL_law_1079 : decode cL_law 1079 = .ok (.iload 6, 2) := by decide +kernel
theorem dL_law_1081 : decode cL_law 1081 = .ok (.if_icmp .eq 5, 3) := by decide +kernel
theorem dL_law_1084 : decode cL_law 1084 = .ok (.iconst 0, 1) := by decide +kernel
theorem dL_law_1085 : decode cL_law 1085 = .ok (.ireturn, 1) := by decide +kernel
theorem dL_law_1086 : decode cL_law 1086 = .ok (.iload 6, 2) := by decide +kernel
theorem dL_law_1088 : decode cL_law 1088 = .ok (.ifCond .ne 15, 3) := by decide +kernel
theorem dL_law_1091 : decode cL_law 1091 = .ok (.aload_n 3, 1) := by decide +kernel
theorem dL_law_1092 : decode cL_law 1092 = .ok (.iconst 0, 1) := by decide +kernel
theorem dL_law_1093 : decode cL_law 1093 = .ok (.laload, 1) := by decide +kernel
theorem dL_law_1094 : decode cL_law 1094 = .ok (.iload 7, 2) := by decide +kernel
theorem dL_law_1096 : decode cL_law 1096 = .ok (.i2l, 1) := by decide +kernel
theorem dL_law_1097 : decode cL_law 1097 = .ok (.lcmp, 1) := by decide +kernel
theorem dL_law_1098 : decode cL_law 1098 = .ok (.ifCond .eq 5, 3) := by decide +kernel
theorem dL_law_1101 : decode cL_law 1101 = .ok (.iconst 0, 1) := by decide +kernel
theorem dL_law_1102 : decode cL_law 1102 = .ok (.ireturn, 1) := by decide +kernel
theorem dL_law_1103 : decode cL_law 1103 = .ok (.goto 1043, 3) := by decide +kernel
theorem dL_law_1106 : decode cL_law 1106 = .ok (.aload_n 1, 1) := by decide +kernel
theorem dL_law_1107 : decode cL_law 1107 = .ok (.aload_n 0, 1) := by decide +kernel
theorem dL_law_1108 : decode cL_law 1108 = .ok (.iload 5, 2) := by decide +kernel
theorem dL_law_1110 : decode cL_law 1110 = .ok (.iconst 1, 1) := by decide +kernel
theorem dL_law_1111 : decode cL_law 1111 = .ok (.iadd, 1) := by decide +kernel
theorem dL_law_1112 : decode cL_law 1112 = .ok (.iaload, 1) := by decide +kernel
theorem dL_law_1113 : decode cL_law 1113 = .ok (.aload_n 0, 1) := by decide +kernel
theorem dL_law_1114 : decode cL_law 1114 = .ok (.iload 5, 2) := by decide +kernel
theorem dL_law_1116 : decode cL_law 1116 = .ok (.iconst 2, 1) := by decide +kernel
theorem dL_law_1117 : decode cL_law 1117 = .ok (.iadd, 1) := by decide +kernel
theorem dL_law_1118 : decode cL_law 1118 = .ok (.iaload, 1) := by decide +kernel
theorem dL_law_1119 : decode cL_law 1119 = .ok (.aload_n 3, 1) := by decide +kernel
theorem dL_law_1120 : decode cL_law 1120 = .ok (.invokestatic 170, 3) := by decide +kernel
theorem dL_law_1123 : decode cL_law 1123 = .ok (.istore 6, 2) := by decide +kernel
theorem dL_law_1125 : decode cL_law 1125 = .ok (.aload_n 2, 1) := by decide +kernel
theorem dL_law_1126 : decode cL_law 1126 = .ok (.aload_n 0, 1) := by decide +kernel
theorem dL_law_1127 : decode cL_law 1127 = .ok (.iload 5, 2) := by decide +kernel
theorem dL_law_1129 : decode cL_law 1129 = .ok (.iconst 1, 1) := by decide +kernel
theorem dL_law_1130 : decode cL_law 1130 = .ok (.iadd, 1) := by decide +kernel
theorem dL_law_1131 : decode cL_law 1131 = .ok (.iaload, 1) := by decide +kernel
theorem dL_law_1132 : decode cL_law 1132 = .ok (.aload_n 0, 1) := by decide +kernel
theorem dL_law_1133 : decode cL_law 1133 = .ok (.iload 5, 2) := by decide +kernel
theorem dL_law_1135 : decode cL_law 1135 = .ok (.iconst 2, 1) := by decide +kernel
theorem dL_law_1136 : decode cL_law 1136 = .ok (.iadd, 1) := by decide +kernel
theorem dL_law_1137 : decode cL_law 1137 = .ok (.iaload, 1) := by decide +kernel
theorem dL_law_1138 : decode cL_law 1138 = .ok (.invokevirtual 172, 3) := by decide +kernel
theorem dL_law_1141 : decode cL_law 1141 = .ok (.lstore 7, 2) := by decide +kernel
theorem dL_law_1143 : decode cL_law 1143 = .ok (.aload_n 2, 1) := by decide +kernel
theorem dL_law_1144 : decode cL_law 1144 = .ok (.invokevirtual 122, 3) := by decide +kernel
theorem dL_law_1147 : decode cL_law 1147 = .ok (.iload 6, 2) := by decide +kernel
theorem dL_law_1149 : decode cL_law 1149 = .ok (.if_icmp .eq 5, 3) := by decide +kernel
end
section
theorem dL_law_1152 : decode cL_law 1152 = .ok (.iconst 0, 1) := by decide +kernel
theorem dL_law_1153 : decode cL_law 1153 = .ok (.ireturn, 1) := by decide +kernel
theorem dL_law_1154 : decode cL_law 1154 = .ok (.iload 6, 2) := by decide +kernel
theorem dL_law_1156 : decode cL_law 1156 = .ok (.ifCond .ne 14, 3) := by decide +kernel
theorem dL_law_1159 : decode cL_law 1159 = .ok (.aload_n 3, 1) := by decide +kernel
theorem dL_law_1160 : decode cL_law 1160 = .ok (.iconst 0, 1) := by decide +kernel
theorem dL_law_1161 : decode cL_law 1161 = .ok (.laload, 1) := by decide +kernel
theorem dL_law_1162 : decode cL_law 1162 = .ok (.lload 7, 2) := by decide +kernel
theorem dL_law_1164 : decode cL_law 1164 = .ok (.lcmp, 1) := by decide +kernel
theorem dL_law_1165 : decode cL_law 1165 = .ok (.ifCond .eq 5, 3) := by decide +kernel
theorem dL_law_1168 : decode cL_law 1168 = .ok (.iconst 0, 1) := by decide +kernel
theorem dL_law_1169 : decode cL_law 1169 = .ok (.ireturn, 1) := by decide +kernel
theorem dL_law_1170 : decode cL_law 1170 = .ok (.goto 976, 3) := by decide +kernel
theorem dL_law_1173 : decode cL_law 1173 = .ok (.aload_n 1, 1) := by decide +kernel
theorem dL_law_1174 : decode cL_law 1174 = .ok (.aload_n 0, 1) := by decide +kernel
theorem dL_law_1175 : decode cL_law 1175 = .ok (.iload 5, 2) := by decide +kernel
theorem dL_law_1177 : decode cL_law 1177 = .ok (.iconst 1, 1) := by decide +kernel
theorem dL_law_1178 : decode cL_law 1178 = .ok (.iadd, 1) := by decide +kernel
theorem dL_law_1179 : decode cL_law 1179 = .ok (.iaload, 1) := by decide +kernel
theorem dL_law_1180 : decode cL_law 1180 = .ok (.aload_n 3, 1) := by decide +kernel
theorem dL_law_1181 : decode cL_law 1181 = .ok (.invokestatic 173, 3) := by decide +kernel
theorem dL_law_1184 : decode cL_law 1184 = .ok (.istore 6, 2) := by decide +kernel
theorem dL_law_1186 : decode cL_law 1186 = .ok (.aload_n 2, 1) := by decide +kernel
theorem dL_law_1187 : decode cL_law 1187 = .ok (.aload_n 0, 1) := by decide +kernel
theorem dL_law_1188 : decode cL_law 1188 = .ok (.iload 5, 2) := by decide +kernel
theorem dL_law_1190 : decode cL_law 1190 = .ok (.iconst 1, 1) := by decide +kernel
theorem dL_law_1191 : decode cL_law 1191 = .ok (.iadd, 1) := by decide +kernel
theorem dL_law_1192 : decode cL_law 1192 = .ok (.iaload, 1) := by decide +kernel
theorem dL_law_1193 : decode cL_law 1193 = .ok (.invokevirtual 175, 3) := by decide +kernel
theorem dL_law_1196 : decode cL_law 1196 = .ok (.istore 7, 2) := by decide +kernel
theorem dL_law_1198 : decode cL_law 1198 = .ok (.aload_n 2, 1) := by decide +kernel
theorem dL_law_1199 : decode cL_law 1199 = .ok (.invokevirtual 122, 3) := by decide +kernel
theorem dL_law_1202 : decode cL_law 1202 = .ok (.iload 6, 2) := by decide +kernel
theorem dL_law_1204 : decode cL_law 1204 = .ok (.if_icmp .eq 5, 3) := by decide +kernel
theorem dL_law_1207 : decode cL_law 1207 = .ok (.iconst 0, 1) := by decide +kernel
theorem dL_law_1208 : decode cL_law 1208 = .ok (.ireturn, 1) := by decide +kernel
theorem dL_law_1209 : decode cL_law 1209 = .ok (.iload 6, 2) := by decide +kernel
theorem dL_law_1211 : decode cL_law 1211 = .ok (.ifCond .ne 15, 3) := by decide +kernel
theorem dL_law_1214 : decode cL_law 1214 = .ok (.aload_n 3, 1) := by decide +kernel
theorem dL_law_1215 : decode cL_law 1215 = .ok (.iconst 0, 1) := by decide +kernel
theorem dL_law_1216 : decode cL_law 1216 = .ok (.laload, 1) := by decide +kernel
theorem dL_law_1217 : decode cL_law 1217 = .ok (.iload 7, 2) := by decide +kernel
theorem dL_law_1219 : decode cL_law 1219 = .ok (.i2l, 1) := by decide +kernel
theorem dL_law_1220 : decode cL_law 1220 = .ok (.lcmp, 1) := by decide +kernel
theorem dL_law_1221 : decode cL_law 1221 = .ok (.ifCond .eq 5, 3) := by decide +kernel
theorem dL_law_1224 : decode cL_law 1224 = .ok (.iconst 0, 1) := by decide +kernel
theorem dL_law_1225 : decode cL_law 1225 = .ok (.ireturn, 1) := by decide +kernel
theorem dL_law_1226 : decode cL_law 1226 = .ok (.goto 920, 3) := by decide +kernel
theorem dL_law_1229 : decode cL_law 1229 = .ok (.aload_n 1, 1) := by decide +kernel
theorem dL_law_1230 : decode cL_law 1230 = .ok (.aload_n 0, 1) := by decide +kernel
theorem dL_law_1231 : decode cL_law 1231 = .ok (.iload 5, 2) := by decide +kernel
theorem dL_law_1233 : decode cL_law 1233 = .ok (.iconst 1, 1) := by decide +kernel
theorem dL_law_1234 : decode cL_law 1234 = .ok (.iadd, 1) := by decide +kernel
theorem dL_law_1235 : decode cL_law 1235 = .ok (.iaload, 1) := by decide +kernel
theorem dL_law_1236 : decode cL_law 1236 = .ok (.aload_n 0, 1) := by decide +kernel
theorem dL_law_1237 : decode cL_law 1237 = .ok (.iload 5, 2) := by decide +kernel
theorem dL_law_1239 : decode cL_law 1239 = .ok (.iconst 2, 1) := by decide +kernel
theorem dL_law_1240 : decode cL_law 1240 = .ok (.iadd, 1) := by decide +kernel
theorem dL_law_1241 : decode cL_law 1241 = .ok (.iaload, 1) := by decide +kernel
theorem dL_law_1242 : decode cL_law 1242 = .ok (.aload_n 3, 1) := by decide +kernel
theorem dL_law_1243 : decode cL_law 1243 = .ok (.invokestatic 176, 3) := by decide +kernel
theorem dL_law_1246 : decode cL_law 1246 = .ok (.istore 6, 2) := by decide +kernel
theorem dL_law_1248 : decode cL_law 1248 = .ok (.aload_n 2, 1) := by decide +kernel
theorem dL_law_1249 : decode cL_law 1249 = .ok (.aload_n 0, 1) := by decide +kernel
theorem dL_law_1250 : decode cL_law 1250 = .ok (.iload 5, 2) := by decide +kernel
theorem dL_law_1252 : decode cL_law 1252 = .ok (.iconst 1, 1) := by decide +kernel
theorem dL_law_1253 : decode cL_law 1253 = .ok (.iadd, 1) := by decide +kernel
theorem dL_law_1254 : decode cL_law 1254 = .ok (.iaload, 1) := by decide +kernel
theorem dL_law_1255 : decode cL_law 1255 = .ok (.aload_n 0, 1) := by decide +kernel
theorem dL_law_1256 : decode cL_law 1256 = .ok (.iload 5, 2) := by decide +kernel
theorem dL_law_1258 : decode cL_law 1258 = .ok (.iconst 2, 1) := by decide +kernel
theorem dL_law_1259 : decode cL_law 1259 = .ok (.iadd, 1) := by decide +kernel
theorem dL_law_1260 : decode cL_law 1260 = .ok (.iaload, 1) := by decide +kernel
theorem dL_law_1261 : decode cL_law 1261 = .ok (.invokevirtual 178, 3) := by decide +kernel
theorem dL_law_1264 : decode cL_law 1264 = .ok (.lstore 7, 2) := by decide +kernel
theorem dL_law_1266 : decode cL_law 1266 = .ok (.aload_n 2, 1) := by decide +kernel
theorem dL_law_1267 : decode cL_law 1267 = .ok (.invokevirtual 122, 3) := by decide +kernel
theorem dL_law_1270 : decode cL_law 1270 = .ok (.iload 6, 2) := by decide +kernel
theorem dL_law_1272 : decode cL_law 1272 = .ok (.if_icmp .eq 5, 3) := by decide +kernel
theorem dL_law_1275 : decode cL_law 1275 = .ok (.iconst 0, 1) := by decide +kernel
theorem dL_law_1276 : decode cL_law 1276 = .ok (.ireturn, 1) := by decide +kernel
theorem dL_law_1277 : decode cL_law 1277 = .ok (.iload 6, 2) := by decide +kernel
theorem dL_law_1279 : decode cL_law 1279 = .ok (.ifCond .ne 14, 3) := by decide +kernel
theorem dL_law_1282 : decode cL_law 1282 = .ok (.aload_n 3, 1) := by decide +kernel
theorem dL_law_1283 : decode cL_law 1283 = .ok (.iconst 0, 1) := by decide +kernel
theorem dL_law_1284 : decode cL_law 1284 = .ok (.laload, 1) := by decide +kernel
theorem dL_law_1285 : decode cL_law 1285 = .ok (.lload 7, 2) := by decide +kernel
theorem dL_law_1287 : decode cL_law 1287 = .ok (.lcmp, 1) := by decide +kernel
theorem dL_law_1288 : decode cL_law 1288 = .ok (.ifCond .eq 5, 3) := by decide +kernel
theorem dL_law_1291 : decode cL_law 1291 = .ok (.iconst 0, 1) := by decide +kernel
theorem dL_law_1292 : decode cL_law 1292 = .ok (.ireturn, 1) := by decide +kernel
theorem dL_law_1293 : decode cL_law 1293 = .ok (.goto 853, 3) := by decide +kernel
theorem dL_law_1296 : decode cL_law 1296 = .ok (.aload_n 1, 1) := by decide +kernel
theorem dL_law_1297 : decode cL_law 1297 = .ok (.aload_n 0, 1) := by decide +kernel
theorem dL_law_1298 : decode cL_law 1298 = .ok (.iload 5, 2) := by decide +kernel
theorem dL_law_1300 : decode cL_law 1300 = .ok (.iconst 1, 1) := by decide +kernel
theorem dL_law_1301 : decode cL_law 1301 = .ok (.iadd, 1) := by decide +kernel
theorem dL_law_1302 : decode cL_law 1302 = .ok (.iaload, 1) := by decide +kernel
theorem dL_law_1303 : decode cL_law 1303 = .ok (.aload_n 3, 1) := by decide +kernel
theorem dL_law_1304 : decode cL_law 1304 = .ok (.invokestatic 179, 3) := by decide +kernel
theorem dL_law_1307 : decode cL_law 1307 = .ok (.istore 6, 2) := by decide +kernel
theorem dL_law_1309 : decode cL_law 1309 = .ok (.aload_n 2, 1) := by decide +kernel
theorem dL_law_1310 : decode cL_law 1310 = .ok (.aload_n 0, 1) := by decide +kernel
theorem dL_law_1311 : decode cL_law 1311 = .ok (.iload 5, 2) := by decide +kernel
theorem dL_law_1313 : decode cL_law 1313 = .ok (.iconst 1, 1) := by decide +kernel
theorem dL_law_1314 : decode cL_law 1314 = .ok (.iadd, 1) := by decide +kernel
theorem dL_law_1315 : decode cL_law 1315 = .ok (.iaload, 1) := by decide +kernel
theorem dL_law_1316 : decode cL_law 1316 = .ok (.invokevirtual 181, 3) := by decide +kernel
theorem dL_law_1319 : decode cL_law 1319 = .ok (.istore 7, 2) := by decide +kernel
theorem dL_law_1321 : decode cL_law 1321 = .ok (.aload_n 2, 1) := by decide +kernel
theorem dL_law_1322 : decode cL_law 1322 = .ok (.invokevirtual 122, 3) := by decide +kernel
theorem dL_law_1325 : decode cL_law 1325 = .ok (.iload 6, 2) := by decide +kernel
theorem dL_law_1327 : decode cL_law 1327 = .ok (.if_icmp .eq 5, 3) := by decide +kernel
theorem dL_law_1330 : decode cL_law 1330 = .ok (.iconst 0, 1) := by decide +kernel
theorem dL_law_1331 : decode cL_law 1331 = .ok (.ireturn, 1) := by decide +kernel
theorem dL_law_1332 : decode cL_law 1332 = .ok (.iload 6, 2) := by decide +kernel
theorem dL_law_1334 : decode cL_law 1334 = .ok (.ifCond .ne 15, 3) := by decide +kernel
theorem dL_law_1337 : decode cL_law 1337 = .ok (.aload_n 3, 1) := by decide +kernel
theorem dL_law_1338 : decode cL_law 1338 = .ok (.iconst 0, 1) := by decide +kernel
theorem dL_law_1339 : decode cL_law 1339 = .ok (.laload, 1) := by decide +kernel
theorem dL_law_1340 : decode cL_law 1340 = .ok (.iload 7, 2) := by decide +kernel
theorem dL_law_1342 : decode cL_law 1342 = .ok (.i2l, 1) := by decide +kernel
theorem dL_law_1343 : decode cL_law 1343 = .ok (.lcmp, 1) := by decide +kernel
theorem dL_law_1344 : decode cL_law 1344 = .ok (.ifCond .eq 5, 3) := by decide +kernel
theorem dL_law_1347 : decode cL_law 1347 = .ok (.iconst 0, 1) := by decide +kernel
theorem dL_law_1348 : decode cL_law 1348 = .ok (.ireturn, 1) := by decide +kernel
theorem dL_law_1349 : decode cL_law 1349 = .ok (.goto 797, 3) := by decide +kernel
theorem dL_law_1352 : decode cL_law 1352 = .ok (.aload_n 1, 1) := by decide +kernel
theorem dL_law_1353 : decode cL_law 1353 = .ok (.aload_n 0, 1) := by decide +kernel
theorem dL_law_1354 : decode cL_law 1354 = .ok (.iload 5, 2) := by decide +kernel
theorem dL_law_1356 : decode cL_law 1356 = .ok (.iconst 1, 1) := by decide +kernel
theorem dL_law_1357 : decode cL_law 1357 = .ok (.iadd, 1) := by decide +kernel
theorem dL_law_1358 : decode cL_law 1358 = .ok (.iaload, 1) := by decide +kernel
theorem dL_law_1359 : decode cL_law 1359 = .ok (.aload_n 0, 1) := by decide +kernel
theorem dL_law_1360 : decode cL_law 1360 = .ok (.iload 5, 2) := by decide +kernel
theorem dL_law_1362 : decode cL_law 1362 = .ok (.iconst 2, 1) := by decide +kernel
theorem dL_law_1363 : decode cL_law 1363 = .ok (.iadd, 1) := by decide +kernel
theorem dL_law_1364 : decode cL_law 1364 = .ok (.iaload, 1) := by decide +kernel
theorem dL_law_1365 : decode cL_law 1365 = .ok (.aload_n 0, 1) := by decide +kernel
theorem dL_law_1366 : decode cL_law 1366 = .ok (.iload 5, 2) := by decide +kernel
theorem dL_law_1368 : decode cL_law 1368 = .ok (.iconst 3, 1) := by decide +kernel
theorem dL_law_1369 : decode cL_law 1369 = .ok (.iadd, 1) := by decide +kernel
theorem dL_law_1370 : decode cL_law 1370 = .ok (.iaload, 1) := by decide +kernel
theorem dL_law_1371 : decode cL_law 1371 = .ok (.aload_n 3, 1) := by decide +kernel
theorem dL_law_1372 : decode cL_law 1372 = .ok (.invokestatic 182, 3) := by decide +kernel
theorem dL_law_1375 : decode cL_law 1375 = .ok (.istore 6, 2) := by decide +kernel
theorem dL_law_1377 : decode cL_law 1377 = .ok (.aload_n 2, 1) := by decide +kernel
theorem dL_law_1378 : decode cL_law 1378 = .ok (.aload_n 0, 1) := by decide +kernel
theorem dL_law_1379 : decode cL_law 1379 = .ok (.iload 5, 2) := by decide +kernel
theorem dL_law_1381 : decode cL_law 1381 = .ok (.iconst 1, 1) := by decide +kernel
theorem dL_law_1382 : decode cL_law 1382 = .ok (.iadd, 1) := by decide +kernel
theorem dL_law_1383 : decode cL_law 1383 = .ok (.iaload, 1) := by decide +kernel
theorem dL_law_1384 : decode cL_law 1384 = .ok (.aload_n 0, 1) := by decide +kernel
theorem dL_law_1385 : decode cL_law 1385 = .ok (.iload 5, 2) := by decide +kernel
theorem dL_law_1387 : decode cL_law 1387 = .ok (.iconst 2, 1) := by decide +kernel
theorem dL_law_1388 : decode cL_law 1388 = .ok (.iadd, 1) := by decide +kernel
theorem dL_law_1389 : decode cL_law 1389 = .ok (.iaload, 1) := by decide +kernel
theorem dL_law_1390 : decode cL_law 1390 = .ok (.aload_n 0, 1) := by decide +kernel
theorem dL_law_1391 : decode cL_law 1391 = .ok (.iload 5, 2) := by decide +kernel
theorem dL_law_1393 : decode cL_law 1393 = .ok (.iconst 3, 1) := by decide +kernel
theorem dL_law_1394 : decode cL_law 1394 = .ok (.iadd, 1) := by decide +kernel
theorem dL_law_1395 : decode cL_law 1395 = .ok (.iaload, 1) := by decide +kernel
theorem dL_law_1396 : decode cL_law 1396 = .ok (.invokevirtual 185, 3) := by decide +kernel
theorem dL_law_1399 : decode cL_law 1399 = .ok (.lstore 7, 2) := by decide +kernel
theorem dL_law_1401 : decode cL_law 1401 = .ok (.aload_n 2, 1) := by decide +kernel
theorem dL_law_1402 : decode cL_law 1402 = .ok (.invokevirtual 122, 3) := by decide +kernel
theorem dL_law_1405 : decode cL_law 1405 = .ok (.iload 6, 2) := by decide +kernel
theorem dL_law_1407 : decode cL_law 1407 = .ok (.if_icmp .eq 5, 3) := by decide +kernel
theorem dL_law_1410 : decode cL_law 1410 = .ok (.iconst 0, 1) := by decide +kernel
theorem dL_law_1411 : decode cL_law 1411 = .ok (.ireturn, 1) := by decide +kernel
theorem dL_law_1412 : decode cL_law 1412 = .ok (.iload 6, 2) := by decide +kernel
theorem dL_law_1414 : decode cL_law 1414 = .ok (.ifCond .ne 14, 3) := by decide +kernel
theorem dL_law_1417 : decode cL_law 1417 = .ok (.aload_n 3, 1) := by decide +kernel
theorem dL_law_1418 : decode cL_law 1418 = .ok (.iconst 0, 1) := by decide +kernel
theorem dL_law_1419 : decode cL_law 1419 = .ok (.laload, 1) := by decide +kernel
theorem dL_law_1420 : decode cL_law 1420 = .ok (.lload 7, 2) := by decide +kernel
theorem dL_law_1422 : decode cL_law 1422 = .ok (.lcmp, 1) := by decide +kernel
theorem dL_law_1423 : decode cL_law 1423 = .ok (.ifCond .eq 5, 3) := by decide +kernel
theorem dL_law_1426 : decode cL_law 1426 = .ok (.iconst 0, 1) := by decide +kernel
theorem dL_law_1427 : decode cL_law 1427 = .ok (.ireturn, 1) := by decide +kernel
theorem dL_law_1428 : decode cL_law 1428 = .ok (.goto 718, 3) := by decide +kernel
theorem dL_law_1431 : decode cL_law 1431 = .ok (.aload_n 1, 1) := by decide +kernel
theorem dL_law_1432 : decode cL_law 1432 = .ok (.aload_n 0, 1) := by decide +kernel
theorem dL_law_1433 : decode cL_law 1433 = .ok (.iload 5, 2) := by decide +kernel
theorem dL_law_1435 : decode cL_law 1435 = .ok (.iconst 1, 1) := by decide +kernel
theorem dL_law_1436 : decode cL_law 1436 = .ok (.iadd, 1) := by decide +kernel
theorem dL_law_1437 : decode cL_law 1437 = .ok (.iaload, 1) := by decide +kernel
theorem dL_law_1438 : decode cL_law 1438 = .ok (.aload_n 0, 1) := by decide +kernel
theorem dL_law_1439 : decode cL_law 1439 = .ok (.iload 5, 2) := by decide +kernel
theorem dL_law_1441 : decode cL_law 1441 = .ok (.iconst 2, 1) := by decide +kernel
theorem dL_law_1442 : decode cL_law 1442 = .ok (.iadd, 1) := by decide +kernel
theorem dL_law_1443 : decode cL_law 1443 = .ok (.iaload, 1) := by decide +kernel
theorem dL_law_1444 : decode cL_law 1444 = .ok (.aload_n 3, 1) := by decide +kernel
theorem dL_law_1445 : decode cL_law 1445 = .ok (.invokestatic 186, 3) := by decide +kernel
theorem dL_law_1448 : decode cL_law 1448 = .ok (.istore 6, 2) := by decide +kernel
theorem dL_law_1450 : decode cL_law 1450 = .ok (.aload_n 2, 1) := by decide +kernel
theorem dL_law_1451 : decode cL_law 1451 = .ok (.aload_n 0, 1) := by decide +kernel
theorem dL_law_1452 : decode cL_law 1452 = .ok (.iload 5, 2) := by decide +kernel
theorem dL_law_1454 : decode cL_law 1454 = .ok (.iconst 1, 1) := by decide +kernel
theorem dL_law_1455 : decode cL_law 1455 = .ok (.iadd, 1) := by decide +kernel
theorem dL_law_1456 : decode cL_law 1456 = .ok (.iaload, 1) := by decide +kernel
theorem dL_law_1457 : decode cL_law 1457 = .ok (.aload_n 0, 1) := by decide +kernel
theorem dL_law_1458 : decode cL_law 1458 = .ok (.iload 5, 2) := by decide +kernel
theorem dL_law_1460 : decode cL_law 1460 = .ok (.iconst 2, 1) := by decide +kernel
theorem dL_law_1461 : decode cL_law 1461 = .ok (.iadd, 1) := by decide +kernel
theorem dL_law_1462 : decode cL_law 1462 = .ok (.iaload, 1) := by decide +kernel
theorem dL_law_1463 : decode cL_law 1463 = .ok (.invokevirtual 188, 3) := by decide +kernel
theorem dL_law_1466 : decode cL_law 1466 = .ok (.istore 7, 2) := by decide +kernel
theorem dL_law_1468 : decode cL_law 1468 = .ok (.aload_n 2, 1) := by decide +kernel
theorem dL_law_1469 : decode cL_law 1469 = .ok (.invokevirtual 122, 3) := by decide +kernel
theorem dL_law_1472 : decode cL_law 1472 = .ok (.iload 6, 2) := by decide +kernel
theorem dL_law_1474 : decode cL_law 1474 = .ok (.if_icmp .eq 5, 3) := by decide +kernel
theorem dL_law_1477 : decode cL_law 1477 = .ok (.iconst 0, 1) := by decide +kernel
theorem dL_law_1478 : decode cL_law 1478 = .ok (.ireturn, 1) := by decide +kernel
theorem dL_law_1479 : decode cL_law 1479 = .ok (.iload 6, 2) := by decide +kernel
theorem dL_law_1481 : decode cL_law 1481 = .ok (.ifCond .ne 15, 3) := by decide +kernel
theorem dL_law_1484 : decode cL_law 1484 = .ok (.aload_n 3, 1) := by decide +kernel
theorem dL_law_1485 : decode cL_law 1485 = .ok (.iconst 0, 1) := by decide +kernel
theorem dL_law_1486 : decode cL_law 1486 = .ok (.laload, 1) := by decide +kernel
theorem dL_law_1487 : decode cL_law 1487 = .ok (.iload 7, 2) := by decide +kernel
theorem dL_law_1489 : decode cL_law 1489 = .ok (.i2l, 1) := by decide +kernel
theorem dL_law_1490 : decode cL_law 1490 = .ok (.lcmp, 1) := by decide +kernel
theorem dL_law_1491 : decode cL_law 1491 = .ok (.ifCond .eq 5, 3) := by decide +kernel
theorem dL_law_1494 : decode cL_law 1494 = .ok (.iconst 0, 1) := by decide +kernel
theorem dL_law_1495 : decode cL_law 1495 = .ok (.ireturn, 1) := by decide +kernel
theorem dL_law_1496 : decode cL_law 1496 = .ok (.goto 650, 3) := by decide +kernel
theorem dL_law_1499 : decode cL_law 1499 = .ok (.aload_n 1, 1) := by decide +kernel
theorem dL_law_1500 : decode cL_law 1500 = .ok (.aload_n 0, 1) := by decide +kernel
theorem dL_law_1501 : decode cL_law 1501 = .ok (.iload 5, 2) := by decide +kernel
theorem dL_law_1503 : decode cL_law 1503 = .ok (.iconst 1, 1) := by decide +kernel
theorem dL_law_1504 : decode cL_law 1504 = .ok (.iadd, 1) := by decide +kernel
theorem dL_law_1505 : decode cL_law 1505 = .ok (.iaload, 1) := by decide +kernel
theorem dL_law_1506 : decode cL_law 1506 = .ok (.aload_n 3, 1) := by decide +kernel
theorem dL_law_1507 : decode cL_law 1507 = .ok (.invokestatic 189, 3) := by decide +kernel
theorem dL_law_1510 : decode cL_law 1510 = .ok (.istore 6, 2) := by decide +kernel
theorem dL_law_1512 : decode cL_law 1512 = .ok (.aload_n 2, 1) := by decide +kernel
theorem dL_law_1513 : decode cL_law 1513 = .ok (.aload_n 0, 1) := by decide +kernel
theorem dL_law_1514 : decode cL_law 1514 = .ok (.iload 5, 2) := by decide +kernel
theorem dL_law_1516 : decode cL_law 1516 = .ok (.iconst 1, 1) := by decide +kernel
theorem dL_law_1517 : decode cL_law 1517 = .ok (.iadd, 1) := by decide +kernel
theorem dL_law_1518 : decode cL_law 1518 = .ok (.iaload, 1) := by decide +kernel
theorem dL_law_1519 : decode cL_law 1519 = .ok (.invokevirtual 191, 3) := by decide +kernel
theorem dL_law_1522 : decode cL_law 1522 = .ok (.istore 7, 2) := by decide +kernel
theorem dL_law_1524 : decode cL_law 1524 = .ok (.aload_n 2, 1) := by decide +kernel
theorem dL_law_1525 : decode cL_law 1525 = .ok (.invokevirtual 122, 3) := by decide +kernel
theorem dL_law_1528 : decode cL_law 1528 = .ok (.iload 6, 2) := by decide +kernel
theorem dL_law_1530 : decode cL_law 1530 = .ok (.if_icmp .eq 5, 3) := by decide +kernel
theorem dL_law_1533 : decode cL_law 1533 = .ok (.iconst 0, 1) := by decide +kernel
theorem dL_law_1534 : decode cL_law 1534 = .ok (.ireturn, 1) := by decide +kernel
theorem dL_law_1535 : decode cL_law 1535 = .ok (.iload 6, 2) := by decide +kernel
theorem dL_law_1537 : decode cL_law 1537 = .ok (.ifCond .ne 22, 3) := by decide +kernel
theorem dL_law_1540 : decode cL_law 1540 = .ok (.aload_n 3, 1) := by decide +kernel
theorem dL_law_1541 : decode cL_law 1541 = .ok (.iconst 0, 1) := by decide +kernel
theorem dL_law_1542 : decode cL_law 1542 = .ok (.laload, 1) := by decide +kernel
theorem dL_law_1543 : decode cL_law 1543 = .ok (.iload 7, 2) := by decide +kernel
theorem dL_law_1545 : decode cL_law 1545 = .ok (.ifCond .eq 7, 3) := by decide +kernel
theorem dL_law_1548 : decode cL_law 1548 = .ok (.lconst 1, 1) := by decide +kernel
theorem dL_law_1549 : decode cL_law 1549 = .ok (.goto 4, 3) := by decide +kernel
theorem dL_law_1552 : decode cL_law 1552 = .ok (.lconst 0, 1) := by decide +kernel
theorem dL_law_1553 : decode cL_law 1553 = .ok (.lcmp, 1) := by decide +kernel
theorem dL_law_1554 : decode cL_law 1554 = .ok (.ifCond .eq 5, 3) := by decide +kernel
theorem dL_law_1557 : decode cL_law 1557 = .ok (.iconst 0, 1) := by decide +kernel
theorem dL_law_1558 : decode cL_law 1558 = .ok (.ireturn, 1) := by decide +kernel
theorem dL_law_1559 : decode cL_law 1559 = .ok (.goto 587, 3) := by decide +kernel
theorem dL_law_1562 : decode cL_law 1562 = .ok (.aload_n 1, 1) := by decide +kernel
theorem dL_law_1563 : decode cL_law 1563 = .ok (.aload_n 0, 1) := by decide +kernel
theorem dL_law_1564 : decode cL_law 1564 = .ok (.iload 5, 2) := by decide +kernel
theorem dL_law_1566 : decode cL_law 1566 = .ok (.iconst 1, 1) := by decide +kernel
theorem dL_law_1567 : decode cL_law 1567 = .ok (.iadd, 1) := by decide +kernel
theorem dL_law_1568 : decode cL_law 1568 = .ok (.iaload, 1) := by decide +kernel
theorem dL_law_1569 : decode cL_law 1569 = .ok (.aload_n 3, 1) := by decide +kernel
theorem dL_law_1570 : decode cL_law 1570 = .ok (.invokestatic 192, 3) := by decide +kernel
theorem dL_law_1573 : decode cL_law 1573 = .ok (.istore 6, 2) := by decide +kernel
theorem dL_law_1575 : decode cL_law 1575 = .ok (.aload_n 2, 1) := by decide +kernel
theorem dL_law_1576 : decode cL_law 1576 = .ok (.aload_n 0, 1) := by decide +kernel
theorem dL_law_1577 : decode cL_law 1577 = .ok (.iload 5, 2) := by decide +kernel
theorem dL_law_1579 : decode cL_law 1579 = .ok (.iconst 1, 1) := by decide +kernel
theorem dL_law_1580 : decode cL_law 1580 = .ok (.iadd, 1) := by decide +kernel
theorem dL_law_1581 : decode cL_law 1581 = .ok (.iaload, 1) := by decide +kernel
theorem dL_law_1582 : decode cL_law 1582 = .ok (.invokevirtual 194, 3) := by decide +kernel
theorem dL_law_1585 : decode cL_law 1585 = .ok (.istore 7, 2) := by decide +kernel
theorem dL_law_1587 : decode cL_law 1587 = .ok (.aload_n 2, 1) := by decide +kernel
theorem dL_law_1588 : decode cL_law 1588 = .ok (.invokevirtual 122, 3) := by decide +kernel
theorem dL_law_1591 : decode cL_law 1591 = .ok (.iload 6, 2) := by decide +kernel
theorem dL_law_1593 : decode cL_law 1593 = .ok (.if_icmp .eq 5, 3) := by decide +kernel
theorem dL_law_1596 : decode cL_law 1596 = .ok (.iconst 0, 1) := by decide +kernel
theorem dL_law_1597 : decode cL_law 1597 = .ok (.ireturn, 1) := by decide +kernel
theorem dL_law_1598 : decode cL_law 1598 = .ok (.iload 6, 2) := by decide +kernel
theorem dL_law_1600 : decode cL_law 1600 = .ok (.ifCond .ne 15, 3) := by decide +kernel
theorem dL_law_1603 : decode cL_law 1603 = .ok (.aload_n 3, 1) := by decide +kernel
theorem dL_law_1604 : decode cL_law 1604 = .ok (.iconst 0, 1) := by decide +kernel
theorem dL_law_1605 : decode cL_law 1605 = .ok (.laload, 1) := by decide +kernel
theorem dL_law_1606 : decode cL_law 1606 = .ok (.iload 7, 2) := by decide +kernel
theorem dL_law_1608 : decode cL_law 1608 = .ok (.i2l, 1) := by decide +kernel
theorem dL_law_1609 : decode cL_law 1609 = .ok (.lcmp, 1) := by decide +kernel
theorem dL_law_1610 : decode cL_law 1610 = .ok (.ifCond .eq 5, 3) := by decide +kernel
theorem dL_law_1613 : decode cL_law 1613 = .ok (.iconst 0, 1) := by decide +kernel
theorem dL_law_1614 : decode cL_law 1614 = .ok (.ireturn, 1) := by decide +kernel
theorem dL_law_1615 : decode cL_law 1615 = .ok (.goto 531, 3) := by decide +kernel
theorem dL_law_1618 : decode cL_law 1618 = .ok (.aload_n 1, 1) := by decide +kernel
theorem dL_law_1619 : decode cL_law 1619 = .ok (.invokevirtual 195, 3) := by decide +kernel
theorem dL_law_1622 : decode cL_law 1622 = .ok (.aload_n 2, 1) := by decide +kernel
theorem dL_law_1623 : decode cL_law 1623 = .ok (.invokevirtual 198, 3) := by decide +kernel
theorem dL_law_1626 : decode cL_law 1626 = .ok (.if_icmp .eq 520, 3) := by decide +kernel
theorem dL_law_1629 : decode cL_law 1629 = .ok (.iconst 0, 1) := by decide +kernel
theorem dL_law_1630 : decode cL_law 1630 = .ok (.ireturn, 1) := by decide +kernel
theorem dL_law_1631 : decode cL_law 1631 = .ok (.aload_n 1, 1) := by decide +kernel
theorem dL_law_1632 : decode cL_law 1632 = .ok (.aload_n 0, 1) := by decide +kernel
theorem dL_law_1633 : decode cL_law 1633 = .ok (.iload 5, 2) := by decide +kernel
theorem dL_law_1635 : decode cL_law 1635 = .ok (.iconst 1, 1) := by decide +kernel
theorem dL_law_1636 : decode cL_law 1636 = .ok (.iadd, 1) := by decide +kernel
theorem dL_law_1637 : decode cL_law 1637 = .ok (.iaload, 1) := by decide +kernel
theorem dL_law_1638 : decode cL_law 1638 = .ok (.aload_n 0, 1) := by decide +kernel
theorem dL_law_1639 : decode cL_law 1639 = .ok (.iload 5, 2) := by decide +kernel
theorem dL_law_1641 : decode cL_law 1641 = .ok (.iconst 2, 1) := by decide +kernel
theorem dL_law_1642 : decode cL_law 1642 = .ok (.iadd, 1) := by decide +kernel
theorem dL_law_1643 : decode cL_law 1643 = .ok (.iaload, 1) := by decide +kernel
theorem dL_law_1644 : decode cL_law 1644 = .ok (.aload_n 0, 1) := by decide +kernel
theorem dL_law_1645 : decode cL_law 1645 = .ok (.iload 5, 2) := by decide +kernel
theorem dL_law_1647 : decode cL_law 1647 = .ok (.iconst 3, 1) := by decide +kernel
theorem dL_law_1648 : decode cL_law 1648 = .ok (.iadd, 1) := by decide +kernel
theorem dL_law_1649 : decode cL_law 1649 = .ok (.iaload, 1) := by decide +kernel
theorem dL_law_1650 : decode cL_law 1650 = .ok (.aload_n 0, 1) := by decide +kernel
theorem dL_law_1651 : decode cL_law 1651 = .ok (.iload 5, 2) := by decide +kernel
theorem dL_law_1653 : decode cL_law 1653 = .ok (.iconst 4, 1) := by decide +kernel
theorem dL_law_1654 : decode cL_law 1654 = .ok (.iadd, 1) := by decide +kernel
theorem dL_law_1655 : decode cL_law 1655 = .ok (.iaload, 1) := by decide +kernel
theorem dL_law_1656 : decode cL_law 1656 = .ok (.ifCond .eq 7, 3) := by decide +kernel
theorem dL_law_1659 : decode cL_law 1659 = .ok (.iconst 1, 1) := by decide +kernel
theorem dL_law_1660 : decode cL_law 1660 = .ok (.goto 4, 3) := by decide +kernel
end
section
theorem dL_law_1663 : decode cL_law 1663 = .ok (.iconst 0, 1) := by decide +kernel
theorem dL_law_1664 : decode cL_law 1664 = .ok (.aload_n 0, 1) := by decide +kernel
theorem dL_law_1665 : decode cL_law 1665 = .ok (.iload 5, 2) := by decide +kernel
theorem dL_law_1667 : decode cL_law 1667 = .ok (.iconst 5, 1) := by decide +kernel
theorem dL_law_1668 : decode cL_law 1668 = .ok (.iadd, 1) := by decide +kernel
theorem dL_law_1669 : decode cL_law 1669 = .ok (.iaload, 1) := by decide +kernel
theorem dL_law_1670 : decode cL_law 1670 = .ok (.aload_n 0, 1) := by decide +kernel
theorem dL_law_1671 : decode cL_law 1671 = .ok (.iload 5, 2) := by decide +kernel
theorem dL_law_1673 : decode cL_law 1673 = .ok (.bipush 6, 2) := by decide +kernel
theorem dL_law_1675 : decode cL_law 1675 = .ok (.iadd, 1) := by decide +kernel
theorem dL_law_1676 : decode cL_law 1676 = .ok (.iaload, 1) := by decide +kernel
theorem dL_law_1677 : decode cL_law 1677 = .ok (.aload_n 3, 1) := by decide +kernel
theorem dL_law_1678 : decode cL_law 1678 = .ok (.invokestatic 199, 3) := by decide +kernel
theorem dL_law_1681 : decode cL_law 1681 = .ok (.istore 6, 2) := by decide +kernel
theorem dL_law_1683 : decode cL_law 1683 = .ok (.aload_n 2, 1) := by decide +kernel
theorem dL_law_1684 : decode cL_law 1684 = .ok (.aload_n 0, 1) := by decide +kernel
theorem dL_law_1685 : decode cL_law 1685 = .ok (.iload 5, 2) := by decide +kernel
theorem dL_law_1687 : decode cL_law 1687 = .ok (.iconst 1, 1) := by decide +kernel
theorem dL_law_1688 : decode cL_law 1688 = .ok (.iadd, 1) := by decide +kernel
theorem dL_law_1689 : decode cL_law 1689 = .ok (.iaload, 1) := by decide +kernel
theorem dL_law_1690 : decode cL_law 1690 = .ok (.aload_n 0, 1) := by decide +kernel
theorem dL_law_1691 : decode cL_law 1691 = .ok (.iload 5, 2) := by decide +kernel
theorem dL_law_1693 : decode cL_law 1693 = .ok (.iconst 2, 1) := by decide +kernel
theorem dL_law_1694 : decode cL_law 1694 = .ok (.iadd, 1) := by decide +kernel
theorem dL_law_1695 : decode cL_law 1695 = .ok (.iaload, 1) := by decide +kernel
theorem dL_law_1696 : decode cL_law 1696 = .ok (.aload_n 0, 1) := by decide +kernel
theorem dL_law_1697 : decode cL_law 1697 = .ok (.iload 5, 2) := by decide +kernel
theorem dL_law_1699 : decode cL_law 1699 = .ok (.iconst 3, 1) := by decide +kernel
theorem dL_law_1700 : decode cL_law 1700 = .ok (.iadd, 1) := by decide +kernel
theorem dL_law_1701 : decode cL_law 1701 = .ok (.iaload, 1) := by decide +kernel
theorem dL_law_1702 : decode cL_law 1702 = .ok (.aload_n 0, 1) := by decide +kernel
theorem dL_law_1703 : decode cL_law 1703 = .ok (.iload 5, 2) := by decide +kernel
theorem dL_law_1705 : decode cL_law 1705 = .ok (.iconst 4, 1) := by decide +kernel
theorem dL_law_1706 : decode cL_law 1706 = .ok (.iadd, 1) := by decide +kernel
theorem dL_law_1707 : decode cL_law 1707 = .ok (.iaload, 1) := by decide +kernel
theorem dL_law_1708 : decode cL_law 1708 = .ok (.ifCond .eq 7, 3) := by decide +kernel
theorem dL_law_1711 : decode cL_law 1711 = .ok (.iconst 1, 1) := by decide +kernel
theorem dL_law_1712 : decode cL_law 1712 = .ok (.goto 4, 3) := by decide +kernel
theorem dL_law_1715 : decode cL_law 1715 = .ok (.iconst 0, 1) := by decide +kernel
theorem dL_law_1716 : decode cL_law 1716 = .ok (.aload_n 0, 1) := by decide +kernel
theorem dL_law_1717 : decode cL_law 1717 = .ok (.iload 5, 2) := by decide +kernel
theorem dL_law_1719 : decode cL_law 1719 = .ok (.iconst 5, 1) := by decide +kernel
theorem dL_law_1720 : decode cL_law 1720 = .ok (.iadd, 1) := by decide +kernel
theorem dL_law_1721 : decode cL_law 1721 = .ok (.iaload, 1) := by decide +kernel
theorem dL_law_1722 : decode cL_law 1722 = .ok (.aload_n 0, 1) := by decide +kernel
theorem dL_law_1723 : decode cL_law 1723 = .ok (.iload 5, 2) := by decide +kernel
theorem dL_law_1725 : decode cL_law 1725 = .ok (.bipush 6, 2) := by decide +kernel
theorem dL_law_1727 : decode cL_law 1727 = .ok (.iadd, 1) := by decide +kernel
theorem dL_law_1728 : decode cL_law 1728 = .ok (.iaload, 1) := by decide +kernel
theorem dL_law_1729 : decode cL_law 1729 = .ok (.invokevirtual 202, 3) := by decide +kernel
theorem dL_law_1732 : decode cL_law 1732 = .ok (.istore 7, 2) := by decide +kernel
theorem dL_law_1734 : decode cL_law 1734 = .ok (.aload_n 2, 1) := by decide +kernel
theorem dL_law_1735 : decode cL_law 1735 = .ok (.invokevirtual 122, 3) := by decide +kernel
theorem dL_law_1738 : decode cL_law 1738 = .ok (.iload 6, 2) := by decide +kernel
theorem dL_law_1740 : decode cL_law 1740 = .ok (.if_icmp .eq 5, 3) := by decide +kernel
theorem dL_law_1743 : decode cL_law 1743 = .ok (.iconst 0, 1) := by decide +kernel
theorem dL_law_1744 : decode cL_law 1744 = .ok (.ireturn, 1) := by decide +kernel
theorem dL_law_1745 : decode cL_law 1745 = .ok (.iload 6, 2) := by decide +kernel
theorem dL_law_1747 : decode cL_law 1747 = .ok (.ifCond .ne 15, 3) := by decide +kernel
theorem dL_law_1750 : decode cL_law 1750 = .ok (.aload_n 3, 1) := by decide +kernel
theorem dL_law_1751 : decode cL_law 1751 = .ok (.iconst 0, 1) := by decide +kernel
theorem dL_law_1752 : decode cL_law 1752 = .ok (.laload, 1) := by decide +kernel
theorem dL_law_1753 : decode cL_law 1753 = .ok (.iload 7, 2) := by decide +kernel
theorem dL_law_1755 : decode cL_law 1755 = .ok (.i2l, 1) := by decide +kernel
theorem dL_law_1756 : decode cL_law 1756 = .ok (.lcmp, 1) := by decide +kernel
theorem dL_law_1757 : decode cL_law 1757 = .ok (.ifCond .eq 5, 3) := by decide +kernel
theorem dL_law_1760 : decode cL_law 1760 = .ok (.iconst 0, 1) := by decide +kernel
theorem dL_law_1761 : decode cL_law 1761 = .ok (.ireturn, 1) := by decide +kernel
theorem dL_law_1762 : decode cL_law 1762 = .ok (.goto 384, 3) := by decide +kernel
theorem dL_law_1765 : decode cL_law 1765 = .ok (.aload_n 1, 1) := by decide +kernel
theorem dL_law_1766 : decode cL_law 1766 = .ok (.aload_n 0, 1) := by decide +kernel
theorem dL_law_1767 : decode cL_law 1767 = .ok (.iload 5, 2) := by decide +kernel
theorem dL_law_1769 : decode cL_law 1769 = .ok (.iconst 1, 1) := by decide +kernel
theorem dL_law_1770 : decode cL_law 1770 = .ok (.iadd, 1) := by decide +kernel
theorem dL_law_1771 : decode cL_law 1771 = .ok (.iaload, 1) := by decide +kernel
theorem dL_law_1772 : decode cL_law 1772 = .ok (.aload_n 0, 1) := by decide +kernel
theorem dL_law_1773 : decode cL_law 1773 = .ok (.iload 5, 2) := by decide +kernel
theorem dL_law_1775 : decode cL_law 1775 = .ok (.iconst 2, 1) := by decide +kernel
theorem dL_law_1776 : decode cL_law 1776 = .ok (.iadd, 1) := by decide +kernel
theorem dL_law_1777 : decode cL_law 1777 = .ok (.iaload, 1) := by decide +kernel
theorem dL_law_1778 : decode cL_law 1778 = .ok (.aload_n 0, 1) := by decide +kernel
theorem dL_law_1779 : decode cL_law 1779 = .ok (.iload 5, 2) := by decide +kernel
theorem dL_law_1781 : decode cL_law 1781 = .ok (.iconst 3, 1) := by decide +kernel
theorem dL_law_1782 : decode cL_law 1782 = .ok (.iadd, 1) := by decide +kernel
theorem dL_law_1783 : decode cL_law 1783 = .ok (.iaload, 1) := by decide +kernel
theorem dL_law_1784 : decode cL_law 1784 = .ok (.aload_n 0, 1) := by decide +kernel
theorem dL_law_1785 : decode cL_law 1785 = .ok (.iload 5, 2) := by decide +kernel
theorem dL_law_1787 : decode cL_law 1787 = .ok (.iconst 4, 1) := by decide +kernel
theorem dL_law_1788 : decode cL_law 1788 = .ok (.iadd, 1) := by decide +kernel
theorem dL_law_1789 : decode cL_law 1789 = .ok (.iaload, 1) := by decide +kernel
theorem dL_law_1790 : decode cL_law 1790 = .ok (.ifCond .eq 7, 3) := by decide +kernel
theorem dL_law_1793 : decode cL_law 1793 = .ok (.iconst 1, 1) := by decide +kernel
theorem dL_law_1794 : decode cL_law 1794 = .ok (.goto 4, 3) := by decide +kernel
theorem dL_law_1797 : decode cL_law 1797 = .ok (.iconst 0, 1) := by decide +kernel
theorem dL_law_1798 : decode cL_law 1798 = .ok (.aload_n 0, 1) := by decide +kernel
theorem dL_law_1799 : decode cL_law 1799 = .ok (.iload 5, 2) := by decide +kernel
theorem dL_law_1801 : decode cL_law 1801 = .ok (.iconst 5, 1) := by decide +kernel
theorem dL_law_1802 : decode cL_law 1802 = .ok (.iadd, 1) := by decide +kernel
theorem dL_law_1803 : decode cL_law 1803 = .ok (.iaload, 1) := by decide +kernel
theorem dL_law_1804 : decode cL_law 1804 = .ok (.aload_n 0, 1) := by decide +kernel
theorem dL_law_1805 : decode cL_law 1805 = .ok (.iload 5, 2) := by decide +kernel
theorem dL_law_1807 : decode cL_law 1807 = .ok (.bipush 6, 2) := by decide +kernel
theorem dL_law_1809 : decode cL_law 1809 = .ok (.iadd, 1) := by decide +kernel
theorem dL_law_1810 : decode cL_law 1810 = .ok (.iaload, 1) := by decide +kernel
theorem dL_law_1811 : decode cL_law 1811 = .ok (.aload_n 3, 1) := by decide +kernel
theorem dL_law_1812 : decode cL_law 1812 = .ok (.invokestatic 203, 3) := by decide +kernel
theorem dL_law_1815 : decode cL_law 1815 = .ok (.istore 6, 2) := by decide +kernel
theorem dL_law_1817 : decode cL_law 1817 = .ok (.aload_n 2, 1) := by decide +kernel
theorem dL_law_1818 : decode cL_law 1818 = .ok (.aload_n 0, 1) := by decide +kernel
theorem dL_law_1819 : decode cL_law 1819 = .ok (.iload 5, 2) := by decide +kernel
theorem dL_law_1821 : decode cL_law 1821 = .ok (.iconst 1, 1) := by decide +kernel
theorem dL_law_1822 : decode cL_law 1822 = .ok (.iadd, 1) := by decide +kernel
theorem dL_law_1823 : decode cL_law 1823 = .ok (.iaload, 1) := by decide +kernel
theorem dL_law_1824 : decode cL_law 1824 = .ok (.aload_n 0, 1) := by decide +kernel
theorem dL_law_1825 : decode cL_law 1825 = .ok (.iload 5, 2) := by decide +kernel
theorem dL_law_1827 : decode cL_law 1827 = .ok (.iconst 2, 1) := by decide +kernel
theorem dL_law_1828 : decode cL_law 1828 = .ok (.iadd, 1) := by decide +kernel
theorem dL_law_1829 : decode cL_law 1829 = .ok (.iaload, 1) := by decide +kernel
theorem dL_law_1830 : decode cL_law 1830 = .ok (.aload_n 0, 1) := by decide +kernel
theorem dL_law_1831 : decode cL_law 1831 = .ok (.iload 5, 2) := by decide +kernel
theorem dL_law_1833 : decode cL_law 1833 = .ok (.iconst 3, 1) := by decide +kernel
theorem dL_law_1834 : decode cL_law 1834 = .ok (.iadd, 1) := by decide +kernel
theorem dL_law_1835 : decode cL_law 1835 = .ok (.iaload, 1) := by decide +kernel
theorem dL_law_1836 : decode cL_law 1836 = .ok (.aload_n 0, 1) := by decide +kernel
theorem dL_law_1837 : decode cL_law 1837 = .ok (.iload 5, 2) := by decide +kernel
theorem dL_law_1839 : decode cL_law 1839 = .ok (.iconst 4, 1) := by decide +kernel
theorem dL_law_1840 : decode cL_law 1840 = .ok (.iadd, 1) := by decide +kernel
theorem dL_law_1841 : decode cL_law 1841 = .ok (.iaload, 1) := by decide +kernel
theorem dL_law_1842 : decode cL_law 1842 = .ok (.ifCond .eq 7, 3) := by decide +kernel
theorem dL_law_1845 : decode cL_law 1845 = .ok (.iconst 1, 1) := by decide +kernel
theorem dL_law_1846 : decode cL_law 1846 = .ok (.goto 4, 3) := by decide +kernel
theorem dL_law_1849 : decode cL_law 1849 = .ok (.iconst 0, 1) := by decide +kernel
theorem dL_law_1850 : decode cL_law 1850 = .ok (.aload_n 0, 1) := by decide +kernel
theorem dL_law_1851 : decode cL_law 1851 = .ok (.iload 5, 2) := by decide +kernel
theorem dL_law_1853 : decode cL_law 1853 = .ok (.iconst 5, 1) := by decide +kernel
theorem dL_law_1854 : decode cL_law 1854 = .ok (.iadd, 1) := by decide +kernel
theorem dL_law_1855 : decode cL_law 1855 = .ok (.iaload, 1) := by decide +kernel
theorem dL_law_1856 : decode cL_law 1856 = .ok (.aload_n 0, 1) := by decide +kernel
theorem dL_law_1857 : decode cL_law 1857 = .ok (.iload 5, 2) := by decide +kernel
theorem dL_law_1859 : decode cL_law 1859 = .ok (.bipush 6, 2) := by decide +kernel
theorem dL_law_1861 : decode cL_law 1861 = .ok (.iadd, 1) := by decide +kernel
theorem dL_law_1862 : decode cL_law 1862 = .ok (.iaload, 1) := by decide +kernel
theorem dL_law_1863 : decode cL_law 1863 = .ok (.invokevirtual 205, 3) := by decide +kernel
theorem dL_law_1866 : decode cL_law 1866 = .ok (.istore 7, 2) := by decide +kernel
theorem dL_law_1868 : decode cL_law 1868 = .ok (.aload_n 2, 1) := by decide +kernel
theorem dL_law_1869 : decode cL_law 1869 = .ok (.invokevirtual 122, 3) := by decide +kernel
theorem dL_law_1872 : decode cL_law 1872 = .ok (.iload 6, 2) := by decide +kernel
theorem dL_law_1874 : decode cL_law 1874 = .ok (.if_icmp .eq 5, 3) := by decide +kernel
theorem dL_law_1877 : decode cL_law 1877 = .ok (.iconst 0, 1) := by decide +kernel
theorem dL_law_1878 : decode cL_law 1878 = .ok (.ireturn, 1) := by decide +kernel
theorem dL_law_1879 : decode cL_law 1879 = .ok (.iload 6, 2) := by decide +kernel
theorem dL_law_1881 : decode cL_law 1881 = .ok (.ifCond .ne 15, 3) := by decide +kernel
theorem dL_law_1884 : decode cL_law 1884 = .ok (.aload_n 3, 1) := by decide +kernel
theorem dL_law_1885 : decode cL_law 1885 = .ok (.iconst 0, 1) := by decide +kernel
theorem dL_law_1886 : decode cL_law 1886 = .ok (.laload, 1) := by decide +kernel
theorem dL_law_1887 : decode cL_law 1887 = .ok (.iload 7, 2) := by decide +kernel
theorem dL_law_1889 : decode cL_law 1889 = .ok (.i2l, 1) := by decide +kernel
theorem dL_law_1890 : decode cL_law 1890 = .ok (.lcmp, 1) := by decide +kernel
theorem dL_law_1891 : decode cL_law 1891 = .ok (.ifCond .eq 5, 3) := by decide +kernel
theorem dL_law_1894 : decode cL_law 1894 = .ok (.iconst 0, 1) := by decide +kernel
theorem dL_law_1895 : decode cL_law 1895 = .ok (.ireturn, 1) := by decide +kernel
theorem dL_law_1896 : decode cL_law 1896 = .ok (.goto 250, 3) := by decide +kernel
theorem dL_law_1899 : decode cL_law 1899 = .ok (.aload_n 1, 1) := by decide +kernel
theorem dL_law_1900 : decode cL_law 1900 = .ok (.aload_n 0, 1) := by decide +kernel
theorem dL_law_1901 : decode cL_law 1901 = .ok (.iload 5, 2) := by decide +kernel
theorem dL_law_1903 : decode cL_law 1903 = .ok (.iconst 1, 1) := by decide +kernel
theorem dL_law_1904 : decode cL_law 1904 = .ok (.iadd, 1) := by decide +kernel
theorem dL_law_1905 : decode cL_law 1905 = .ok (.iaload, 1) := by decide +kernel
theorem dL_law_1906 : decode cL_law 1906 = .ok (.aload_n 3, 1) := by decide +kernel
theorem dL_law_1907 : decode cL_law 1907 = .ok (.invokestatic 206, 3) := by decide +kernel
theorem dL_law_1910 : decode cL_law 1910 = .ok (.istore 6, 2) := by decide +kernel
theorem dL_law_1912 : decode cL_law 1912 = .ok (.aload_n 2, 1) := by decide +kernel
theorem dL_law_1913 : decode cL_law 1913 = .ok (.aload_n 0, 1) := by decide +kernel
theorem dL_law_1914 : decode cL_law 1914 = .ok (.iload 5, 2) := by decide +kernel
theorem dL_law_1916 : decode cL_law 1916 = .ok (.iconst 1, 1) := by decide +kernel
theorem dL_law_1917 : decode cL_law 1917 = .ok (.iadd, 1) := by decide +kernel
theorem dL_law_1918 : decode cL_law 1918 = .ok (.iaload, 1) := by decide +kernel
theorem dL_law_1919 : decode cL_law 1919 = .ok (.invokevirtual 208, 3) := by decide +kernel
theorem dL_law_1922 : decode cL_law 1922 = .ok (.istore 7, 2) := by decide +kernel
theorem dL_law_1924 : decode cL_law 1924 = .ok (.aload_n 2, 1) := by decide +kernel
theorem dL_law_1925 : decode cL_law 1925 = .ok (.invokevirtual 122, 3) := by decide +kernel
theorem dL_law_1928 : decode cL_law 1928 = .ok (.iload 6, 2) := by decide +kernel
theorem dL_law_1930 : decode cL_law 1930 = .ok (.if_icmp .eq 5, 3) := by decide +kernel
theorem dL_law_1933 : decode cL_law 1933 = .ok (.iconst 0, 1) := by decide +kernel
theorem dL_law_1934 : decode cL_law 1934 = .ok (.ireturn, 1) := by decide +kernel
theorem dL_law_1935 : decode cL_law 1935 = .ok (.iload 6, 2) := by decide +kernel
theorem dL_law_1937 : decode cL_law 1937 = .ok (.ifCond .ne 15, 3) := by decide +kernel
theorem dL_law_1940 : decode cL_law 1940 = .ok (.aload_n 3, 1) := by decide +kernel
theorem dL_law_1941 : decode cL_law 1941 = .ok (.iconst 0, 1) := by decide +kernel
theorem dL_law_1942 : decode cL_law 1942 = .ok (.laload, 1) := by decide +kernel
theorem dL_law_1943 : decode cL_law 1943 = .ok (.iload 7, 2) := by decide +kernel
theorem dL_law_1945 : decode cL_law 1945 = .ok (.i2l, 1) := by decide +kernel
theorem dL_law_1946 : decode cL_law 1946 = .ok (.lcmp, 1) := by decide +kernel
theorem dL_law_1947 : decode cL_law 1947 = .ok (.ifCond .eq 5, 3) := by decide +kernel
theorem dL_law_1950 : decode cL_law 1950 = .ok (.iconst 0, 1) := by decide +kernel
theorem dL_law_1951 : decode cL_law 1951 = .ok (.ireturn, 1) := by decide +kernel
theorem dL_law_1952 : decode cL_law 1952 = .ok (.goto 194, 3) := by decide +kernel
theorem dL_law_1955 : decode cL_law 1955 = .ok (.aload_n 1, 1) := by decide +kernel
theorem dL_law_1956 : decode cL_law 1956 = .ok (.aload_n 0, 1) := by decide +kernel
theorem dL_law_1957 : decode cL_law 1957 = .ok (.iload 5, 2) := by decide +kernel
theorem dL_law_1959 : decode cL_law 1959 = .ok (.iconst 1, 1) := by decide +kernel
theorem dL_law_1960 : decode cL_law 1960 = .ok (.iadd, 1) := by decide +kernel
theorem dL_law_1961 : decode cL_law 1961 = .ok (.iaload, 1) := by decide +kernel
theorem dL_law_1962 : decode cL_law 1962 = .ok (.aload_n 3, 1) := by decide +kernel
theorem dL_law_1963 : decode cL_law 1963 = .ok (.invokestatic 209, 3) := by decide +kernel
theorem dL_law_1966 : decode cL_law 1966 = .ok (.istore 6, 2) := by decide +kernel
theorem dL_law_1968 : decode cL_law 1968 = .ok (.aload_n 2, 1) := by decide +kernel
theorem dL_law_1969 : decode cL_law 1969 = .ok (.aload_n 0, 1) := by decide +kernel
theorem dL_law_1970 : decode cL_law 1970 = .ok (.iload 5, 2) := by decide +kernel
theorem dL_law_1972 : decode cL_law 1972 = .ok (.iconst 1, 1) := by decide +kernel
theorem dL_law_1973 : decode cL_law 1973 = .ok (.iadd, 1) := by decide +kernel
theorem dL_law_1974 : decode cL_law 1974 = .ok (.iaload, 1) := by decide +kernel
theorem dL_law_1975 : decode cL_law 1975 = .ok (.invokevirtual 211, 3) := by decide +kernel
theorem dL_law_1978 : decode cL_law 1978 = .ok (.istore 7, 2) := by decide +kernel
theorem dL_law_1980 : decode cL_law 1980 = .ok (.aload_n 2, 1) := by decide +kernel
theorem dL_law_1981 : decode cL_law 1981 = .ok (.invokevirtual 122, 3) := by decide +kernel
theorem dL_law_1984 : decode cL_law 1984 = .ok (.iload 6, 2) := by decide +kernel
theorem dL_law_1986 : decode cL_law 1986 = .ok (.if_icmp .eq 5, 3) := by decide +kernel
theorem dL_law_1989 : decode cL_law 1989 = .ok (.iconst 0, 1) := by decide +kernel
theorem dL_law_1990 : decode cL_law 1990 = .ok (.ireturn, 1) := by decide +kernel
theorem dL_law_1991 : decode cL_law 1991 = .ok (.iload 6, 2) := by decide +kernel
theorem dL_law_1993 : decode cL_law 1993 = .ok (.ifCond .ne 15, 3) := by decide +kernel
theorem dL_law_1996 : decode cL_law 1996 = .ok (.aload_n 3, 1) := by decide +kernel
theorem dL_law_1997 : decode cL_law 1997 = .ok (.iconst 0, 1) := by decide +kernel
theorem dL_law_1998 : decode cL_law 1998 = .ok (.laload, 1) := by decide +kernel
theorem dL_law_1999 : decode cL_law 1999 = .ok (.iload 7, 2) := by decide +kernel
theorem dL_law_2001 : decode cL_law 2001 = .ok (.i2l, 1) := by decide +kernel
theorem dL_law_2002 : decode cL_law 2002 = .ok (.lcmp, 1) := by decide +kernel
theorem dL_law_2003 : decode cL_law 2003 = .ok (.ifCond .eq 5, 3) := by decide +kernel
theorem dL_law_2006 : decode cL_law 2006 = .ok (.iconst 0, 1) := by decide +kernel
theorem dL_law_2007 : decode cL_law 2007 = .ok (.ireturn, 1) := by decide +kernel
theorem dL_law_2008 : decode cL_law 2008 = .ok (.goto 138, 3) := by decide +kernel
theorem dL_law_2011 : decode cL_law 2011 = .ok (.aload_n 1, 1) := by decide +kernel
theorem dL_law_2012 : decode cL_law 2012 = .ok (.invokevirtual 212, 3) := by decide +kernel
theorem dL_law_2015 : decode cL_law 2015 = .ok (.aload_n 2, 1) := by decide +kernel
theorem dL_law_2016 : decode cL_law 2016 = .ok (.invokevirtual 215, 3) := by decide +kernel
theorem dL_law_2019 : decode cL_law 2019 = .ok (.if_icmp .eq 127, 3) := by decide +kernel
theorem dL_law_2022 : decode cL_law 2022 = .ok (.iconst 0, 1) := by decide +kernel
theorem dL_law_2023 : decode cL_law 2023 = .ok (.ireturn, 1) := by decide +kernel
theorem dL_law_2024 : decode cL_law 2024 = .ok (.aload_n 1, 1) := by decide +kernel
theorem dL_law_2025 : decode cL_law 2025 = .ok (.aload_n 0, 1) := by decide +kernel
theorem dL_law_2026 : decode cL_law 2026 = .ok (.iload 5, 2) := by decide +kernel
theorem dL_law_2028 : decode cL_law 2028 = .ok (.iconst 1, 1) := by decide +kernel
theorem dL_law_2029 : decode cL_law 2029 = .ok (.iadd, 1) := by decide +kernel
theorem dL_law_2030 : decode cL_law 2030 = .ok (.iaload, 1) := by decide +kernel
theorem dL_law_2031 : decode cL_law 2031 = .ok (.aload_n 3, 1) := by decide +kernel
theorem dL_law_2032 : decode cL_law 2032 = .ok (.invokestatic 216, 3) := by decide +kernel
theorem dL_law_2035 : decode cL_law 2035 = .ok (.istore 6, 2) := by decide +kernel
theorem dL_law_2037 : decode cL_law 2037 = .ok (.aload_n 2, 1) := by decide +kernel
theorem dL_law_2038 : decode cL_law 2038 = .ok (.aload_n 0, 1) := by decide +kernel
theorem dL_law_2039 : decode cL_law 2039 = .ok (.iload 5, 2) := by decide +kernel
theorem dL_law_2041 : decode cL_law 2041 = .ok (.iconst 1, 1) := by decide +kernel
theorem dL_law_2042 : decode cL_law 2042 = .ok (.iadd, 1) := by decide +kernel
theorem dL_law_2043 : decode cL_law 2043 = .ok (.iaload, 1) := by decide +kernel
theorem dL_law_2044 : decode cL_law 2044 = .ok (.invokevirtual 218, 3) := by decide +kernel
theorem dL_law_2047 : decode cL_law 2047 = .ok (.istore 7, 2) := by decide +kernel
theorem dL_law_2049 : decode cL_law 2049 = .ok (.aload_n 2, 1) := by decide +kernel
theorem dL_law_2050 : decode cL_law 2050 = .ok (.invokevirtual 122, 3) := by decide +kernel
theorem dL_law_2053 : decode cL_law 2053 = .ok (.iload 6, 2) := by decide +kernel
theorem dL_law_2055 : decode cL_law 2055 = .ok (.if_icmp .eq 5, 3) := by decide +kernel
theorem dL_law_2058 : decode cL_law 2058 = .ok (.iconst 0, 1) := by decide +kernel
theorem dL_law_2059 : decode cL_law 2059 = .ok (.ireturn, 1) := by decide +kernel
theorem dL_law_2060 : decode cL_law 2060 = .ok (.iload 6, 2) := by decide +kernel
theorem dL_law_2062 : decode cL_law 2062 = .ok (.ifCond .ne 15, 3) := by decide +kernel
theorem dL_law_2065 : decode cL_law 2065 = .ok (.aload_n 3, 1) := by decide +kernel
theorem dL_law_2066 : decode cL_law 2066 = .ok (.iconst 0, 1) := by decide +kernel
theorem dL_law_2067 : decode cL_law 2067 = .ok (.laload, 1) := by decide +kernel
theorem dL_law_2068 : decode cL_law 2068 = .ok (.iload 7, 2) := by decide +kernel
theorem dL_law_2070 : decode cL_law 2070 = .ok (.i2l, 1) := by decide +kernel
theorem dL_law_2071 : decode cL_law 2071 = .ok (.lcmp, 1) := by decide +kernel
theorem dL_law_2072 : decode cL_law 2072 = .ok (.ifCond .eq 5, 3) := by decide +kernel
theorem dL_law_2075 : decode cL_law 2075 = .ok (.iconst 0, 1) := by decide +kernel
theorem dL_law_2076 : decode cL_law 2076 = .ok (.ireturn, 1) := by decide +kernel
theorem dL_law_2077 : decode cL_law 2077 = .ok (.goto 69, 3) := by decide +kernel
theorem dL_law_2080 : decode cL_law 2080 = .ok (.aload_n 1, 1) := by decide +kernel
theorem dL_law_2081 : decode cL_law 2081 = .ok (.aload 4, 2) := by decide +kernel
theorem dL_law_2083 : decode cL_law 2083 = .ok (.invokestatic 219, 3) := by decide +kernel
theorem dL_law_2086 : decode cL_law 2086 = .ok (.istore 6, 2) := by decide +kernel
theorem dL_law_2088 : decode cL_law 2088 = .ok (.aload_n 2, 1) := by decide +kernel
theorem dL_law_2089 : decode cL_law 2089 = .ok (.invokevirtual 222, 3) := by decide +kernel
theorem dL_law_2092 : decode cL_law 2092 = .ok (.fstore 7, 2) := by decide +kernel
theorem dL_law_2094 : decode cL_law 2094 = .ok (.aload_n 2, 1) := by decide +kernel
theorem dL_law_2095 : decode cL_law 2095 = .ok (.invokevirtual 122, 3) := by decide +kernel
theorem dL_law_2098 : decode cL_law 2098 = .ok (.iload 6, 2) := by decide +kernel
theorem dL_law_2100 : decode cL_law 2100 = .ok (.if_icmp .eq 5, 3) := by decide +kernel
theorem dL_law_2103 : decode cL_law 2103 = .ok (.iconst 0, 1) := by decide +kernel
theorem dL_law_2104 : decode cL_law 2104 = .ok (.ireturn, 1) := by decide +kernel
theorem dL_law_2105 : decode cL_law 2105 = .ok (.iload 6, 2) := by decide +kernel
theorem dL_law_2107 : decode cL_law 2107 = .ok (.ifCond .ne 36, 3) := by decide +kernel
theorem dL_law_2110 : decode cL_law 2110 = .ok (.aload 4, 2) := by decide +kernel
theorem dL_law_2112 : decode cL_law 2112 = .ok (.iconst 0, 1) := by decide +kernel
theorem dL_law_2113 : decode cL_law 2113 = .ok (.daload, 1) := by decide +kernel
theorem dL_law_2114 : decode cL_law 2114 = .ok (.fload 7, 2) := by decide +kernel
theorem dL_law_2116 : decode cL_law 2116 = .ok (.f2d, 1) := by decide +kernel
theorem dL_law_2117 : decode cL_law 2117 = .ok (.dcmp .l, 1) := by decide +kernel
theorem dL_law_2118 : decode cL_law 2118 = .ok (.ifCond .eq 25, 3) := by decide +kernel
theorem dL_law_2121 : decode cL_law 2121 = .ok (.aload 4, 2) := by decide +kernel
theorem dL_law_2123 : decode cL_law 2123 = .ok (.iconst 0, 1) := by decide +kernel
theorem dL_law_2124 : decode cL_law 2124 = .ok (.daload, 1) := by decide +kernel
theorem dL_law_2125 : decode cL_law 2125 = .ok (.aload 4, 2) := by decide +kernel
theorem dL_law_2127 : decode cL_law 2127 = .ok (.iconst 0, 1) := by decide +kernel
theorem dL_law_2128 : decode cL_law 2128 = .ok (.daload, 1) := by decide +kernel
theorem dL_law_2129 : decode cL_law 2129 = .ok (.dcmp .l, 1) := by decide +kernel
theorem dL_law_2130 : decode cL_law 2130 = .ok (.ifCond .eq 11, 3) := by decide +kernel
theorem dL_law_2133 : decode cL_law 2133 = .ok (.fload 7, 2) := by decide +kernel
theorem dL_law_2135 : decode cL_law 2135 = .ok (.fload 7, 2) := by decide +kernel
theorem dL_law_2137 : decode cL_law 2137 = .ok (.fcmp .l, 1) := by decide +kernel
theorem dL_law_2138 : decode cL_law 2138 = .ok (.ifCond .ne 5, 3) := by decide +kernel
theorem dL_law_2141 : decode cL_law 2141 = .ok (.iconst 0, 1) := by decide +kernel
theorem dL_law_2142 : decode cL_law 2142 = .ok (.ireturn, 1) := by decide +kernel
theorem dL_law_2143 : decode cL_law 2143 = .ok (.goto 3, 3) := by decide +kernel
theorem dL_law_2146 : decode cL_law 2146 = .ok (.iinc 5 7, 3) := by decide +kernel
theorem dL_law_2149 : decode cL_law 2149 = .ok (.goto (-2121), 3) := by decide +kernel
theorem dL_law_2152 : decode cL_law 2152 = .ok (.iconst 1, 1) := by decide +kernel
theorem dL_law_2153 : decode cL_law 2153 = .ok (.ireturn, 1) := by decide +kernel
end
section
/-- the good words of the tables: every method's list of words, but for its own code -/
def GW : List Cond := lw_tbl.filter goodWord
theorem gw_of {w : Cond} (i : Nat) (h : lw_tbl[i]? = some w) (g : goodWord w = true) : w ∈ GW := List.mem_filter.mpr ⟨List.mem_of_getElem? h, g⟩
theorem gw_good {w : Cond} (h : w ∈ GW) : goodWord w = true := (List.mem_filter.mp h).2
theorem gw_in {ws : List Cond} (h : ∀ w ∈ ws, w ∈ GW) : GoodIn GW ws := fun w hw => ⟨h w hw, good_of_word (gw_good (h w hw))⟩
abbrev ecWs (y : MethodName) (b : ByteArray) (n : Nat) (ret : Option FieldType) : List Cond := Cond.code y b n ret :: GW
theorem gw_m {y : MethodName} {b : ByteArray} {n : Nat} {ret : Option FieldType} (h : Cond.code y b n ret ∈ GW) : GoodIn GW (ecWs y b n ret) :=
  gw_in (fun w hw => (List.mem_cons.mp hw).elim (fun e => e ▸ h) id)
/-- the room of a method of depth d -/
def ecRm (d mc ms : Nat) : Room := { frames := d, cells := mc, slots := ms, locals := 40 * d }
/-- the classes whose objects the worlds hold -/
abbrev ecCl : List vw_C := [(RX0, TX0, 7), (RX1, TX1, 6), (RX2, TX2, 4), (RX3, TX3, 2), (RX4, TX4, 3), (RX5, TX5, 6), (RX6, TX6, 24), (RJx4a65c, TJx4a65c, 3)]
abbrev ecTys (T : Nat → ClassId) : List (ClassId × FieldType) := [(T 0, .int), (T 1, .long), (T 2, .boolean), (T 3, .object "java/lang/Object"), (T 4, .double)]
/-- what stays the same through the law: the classes' numbers, the arrays' classes, the first cell of the law's own, the empty list's row -/
abbrev ecG : Type := va_G × (Nat → ClassId) × Nat × Nat × Nat
abbrev ecN0 (G : ecG) : Nat := G.2.2.1
abbrev ecTe (G : ecG) : Nat := G.2.2.2.1
abbrev ecMi (G : ecG) : Nat := G.2.2.2.2
/-- the strings of the class -/
def ecStr : List (Nat × String) := [(38, "there are 4 rooms"), (249, "there is no such room"), (253, "there is no such state"), (255, "there is no such place"), (92, "the first sample is 1 or -1"), (257, "a sample is from -9 to 9"), (98, "there are 40 answers"), (126, "there is no such answer"), (111, "a sample has an index from 0 to 3"), (143, "there are 20 filters"), (251, "there is no such filter"), (158, "a tap has an index from 0 to 5"), (168, "an input is from -999 to 999"), (172, "the use is barred"), (185, "a sample of a product row has an index from 0 to 5"), (195, "a limit is from 0 to 999"), (197, "there are no such hours to book"), (203, "it clashes with a booking"), (205, "there are 16 bookings"), (212, "the last hour is less than the first one"), (214, "it clashes with no booking"), (219, "there is no such booking"), (228, "it is cancelled or has begun"), (233, "so many hours can not pass"), (242, "no booking of the room is to come"), (244, "there are no filters")]
/-- which classes are below which -/
def ecCa : List (String × String) := [("java/lang/IllegalStateException", "java/lang/IllegalStateException"), ("java/lang/IndexOutOfBoundsException", "java/lang/IndexOutOfBoundsException"), ("java/lang/IllegalArgumentException", "java/lang/IllegalArgumentException"), ("java/util/NoSuchElementException", "java/util/NoSuchElementException"), ("java/lang/UnsupportedOperationException", "java/lang/UnsupportedOperationException"), (RX0, "java/lang/Object"), (RX1, "java/lang/Object"), (RX2, "java/lang/Object"), (RX3, "java/lang/Object")]
/-- the constructors that a throw's chain names -/
def ecDw : List Cond := [.declares ⟨"java/lang/RuntimeException", "<init>", "(Ljava/lang/String;)V"⟩, .declares ⟨"java/lang/Exception", "<init>", "(Ljava/lang/String;)V"⟩, .declares ⟨"java/lang/Throwable", "<init>", "(Ljava/lang/String;)V"⟩]
/-- the tables' part of the world -/
def ecKx (G : ecG) (U : State) : Prop := va_K G.1 ecCl (ecTys G.2.1) U ∧ (∀ q ∈ ecStr, ∃ sa, vk_R RX5 q.1 q.2 sa U) ∧ va_Mi "[Ljava/lang/Object;" (ecMi G) U ∧ va_Dc U ∧ va_AO "java/lang/Object" U ∧ (∀ q ∈ ecCa, va_Nw (.castable q.1 q.2) U) ∧ ∀ w ∈ ecDw, va_Nw w U
/-- the statics' part -/
def ecSt (G : ecG) (U : State) (H : Heap) : Prop := ecN0 G ≤ H.size ∧ vx_Zq Bundle.tN "UNASSIGNED_STACK" Bundle.steD (fun q => ecN0 G ≤ q) U H ∧ vx_Zq Bundle.tN "SUPPRESSED_SENTINEL" Bundle.listD (fun q => ecN0 G ≤ q) U H ∧
  va_Z "java/util/ArrayList" "DEFAULTCAPACITY_EMPTY_ELEMENTDATA" "[Ljava/lang/Object;" (.ref (ecTe G)) (fun q => ecN0 G ≤ q) U H ∧ va_T (.object "java/lang/Object") (ecTe G) 0 (fun _ => .null) (fun q => ecN0 G ≤ q) U H
def ecOk (G : ecG) (U : State) (H : Heap) : Prop := ecKx G U ∧ ecSt G U H
theorem ecKx.warm {G : ecG} {u U : State} (hW : u.WarmedH U.vm) (h : ecKx G u) : ecKx G U := by
  obtain ⟨h1, h2, h3, h4, h5, h6, h7⟩ := h
  exact ⟨va_K.moved hW.alike h1, fun q hq => (h2 q hq).elim fun sa hs => ⟨sa, vk_R.warm hW hs⟩, va_Mi.moved hW.alike h3, va_Dc.moved hW.alike h4, va_AO.moved hW.alike h5, fun q hq => va_Nw.warmC hW (h6 q hq), fun w hw => by
    have h8 := h7 w hw
    simp only [ecDw, List.mem_cons, List.not_mem_nil, or_false] at hw
    rcases hw with rfl | rfl | rfl <;> exact va_Nw.warmD hW h8⟩
theorem ecKx.ca {G : ecG} {s : State} {args : Array Value} (h : ecKx G s) {C T : String} (hq : (C, T) ∈ ecCa) : (Cond.castable C T).before args s = true := va_Nw.use rfl (h.2.2.2.2.2.1 _ hq)
theorem ecKx.dw {G : ecG} {s : State} {args : Array Value} (h : ecKx G s) {w : Cond} (hq : w ∈ ecDw) : w.before args s = true := by
  have h8 := h.2.2.2.2.2.2 w hq
  simp only [ecDw, List.mem_cons, List.not_mem_nil, or_false] at hq
  rcases hq with rfl | rfl | rfl <;> exact va_Nw.use rfl h8
theorem ecSt.moved {G : ecG} {u U : State} {H : Heap} (hvm : u.vm.Alike U.vm) (h : ecSt G u H) : ecSt G U H :=
  ⟨h.1, vx_Zq.moved hvm h.2.1, vx_Zq.moved hvm h.2.2.1, va_Z.moved hvm h.2.2.2.1, va_T.moved hvm h.2.2.2.2⟩
theorem ecSt.kept {G : ecG} {U : State} {H H1 : Heap} (h : ecSt G U H) (hz : H.size ≤ H1.size) (hq : ∀ q : Nat, q < ecN0 G → H1[q]? = H[q]?) : ecSt G U H1 := by
  have hq' : ∀ a : Nat, a < H.size → ¬ (ecN0 G ≤ a) → H1[a]? = H[a]? := fun a _ n => hq a (Nat.not_le.mp n)
  exact ⟨Nat.le_trans h.1 hz, h.2.1.kept hq', h.2.2.1.kept hq', h.2.2.2.1.kept hq', h.2.2.2.2.kept hq'⟩
theorem ecOk.to {G : ecG} {s U : State} {H : Heap} (h : ecOk G s H) (hU : U.heap = H) (hW : s.WarmedH U.vm) : ecOk G U U.heap :=
  ⟨h.1.warm hW, by rw [hU]; exact h.2.moved hW.alike⟩
/-- at a later heap of the same method -/
theorem ecOk.at {G : ecG} {s : State} {A : Nat → Prop} {H : Heap} {locs : List Loc} (h : ecOk G s s.heap) (hS : va_S A s.heap H locs) (hA : ∀ q, A q → ecN0 G ≤ q) : ecOk G s H :=
  ⟨h.1, h.2.kept hS.1 (fun q hq => hS.2.1 q (Nat.lt_of_lt_of_le hq h.2.1) (fun z => Nat.lt_irrefl _ (Nat.lt_of_lt_of_le hq (hA q z))))⟩
/-- a method's start: its arguments, the tables and statics, a picture of the heap -/
def ecPc (av : List Value) (G : ecG) (Pre : Heap → Prop) : Array Value → State → Prop := fun v U => v = av.toArray ∧ ecOk G U U.heap ∧ Pre U.heap
theorem ec_blind (av : List Value) (G : ecG) (Pre : Heap → Prop) : FrameBlind (ecPc av G Pre) := by
  intro a U g mk h
  obtain ⟨h1, h2, h3⟩ := h
  exact ⟨h1, ⟨h2.1.warm (U := U.calling g mk a) (State.WarmedH.refl U), h2.2.moved (Vm.Alike.refl U.vm)⟩, h3⟩
/-- an end: the heap is as it was, the answer is such -/
def ecRp (P : Option Value → Prop) : Array Value → State → Outcome → State → Prop := fun _ st o t => ∃ v, o = .returned v ∧ P v ∧ t.heap = st.heap
/-- an end with a new heap: only the cells of A are others -/
def ecEp (P : Option Value → Heap → Prop) (A : Nat → Prop) : Array Value → State → Outcome → State → Prop := fun _ st o t => ∃ v, o = .returned v ∧ P v t.heap ∧ va_F A st t
/-- the old heap is kept, new cells may stand behind it -/
def ecKp (H H1 : Heap) : Prop := H.size ≤ H1.size ∧ ∀ q : Nat, q < H.size → H1[q]? = H[q]?
theorem ecKp.rf {H : Heap} : ecKp H H := ⟨Nat.le_refl _, fun _ _ => rfl⟩
theorem ecKp.tr {H H1 H2 : Heap} (a : ecKp H H1) (b : ecKp H1 H2) : ecKp H H2 := ⟨Nat.le_trans a.1 b.1, fun q hq => (b.2 q (Nat.lt_of_lt_of_le hq a.1)).trans (a.2 q hq)⟩
/-- a throw: its class is such, the old heap is kept -/
def ecXc (X : String → Prop) : String → State → State → Prop := fun E st t => X E ∧ ecKp st.heap t.heap
/-- a world with one cell -/
theorem ec_one {D : va_G} {cl : List vw_C} {q : Nat × va_E} {H : Heap} (h : va_at D cl q H) : va_P D cl [q] H := by
  intro k x hk
  cases k with
  | zero => cases hk; exact h
  | succ k => simp at hk
theorem ec_oneD {A : Nat → Prop} {q : Nat × va_E} (h : A q.1) : va_D A [q] := by
  refine ⟨fun i j x y hi hj _ => ?_, fun k x hk => ?_⟩
  · have h1 := (List.getElem?_eq_some_iff.mp hi).1
    have h2 := (List.getElem?_eq_some_iff.mp hj).1
    simp at h1 h2
    omega
  · cases k with
    | zero => cases hk; exact h
    | succ k => simp at hk
theorem ec_ofone {D : va_G} {cl : List vw_C} {q : Nat × va_E} {H : Heap} (h : va_P D cl [q] H) : va_at D cl q H := h 0 q rfl
theorem va_at.kp {D : va_G} {cl : List vw_C} {q : Nat × va_E} {H H1 : Heap} (h : va_at D cl q H) (k : ecKp H H1) : va_at D cl q H1 := h.kept (k.2 _ h.lt)
theorem va_at.un {D : va_G} {cl : List vw_C} {q : Nat × va_E} {H H1 : Heap} {A : Nat → Prop} (h : va_at D cl q H) (k : ∀ x : Nat, x < H.size → ¬ A x → H1[x]? = H[x]?) (n : ¬ A q.1) : va_at D cl q H1 := h.kept (k _ h.lt n)
end
section
/-- a class of the worlds: its place, its fields, its words -/
def ecC (ci : Nat) (C : String) (T : u_T) (N : Nat) (ty : Nat → FieldType) : Prop := ecCl[ci]? = some (C, T, N) ∧ (∀ w ∈ u_ws C T N, w ∈ GW) ∧ (∀ k, k < N → parseFieldDescriptor (T k).2.2.1 = some (ty k)) ∧ (∀ a, a < N → ∀ b, b < N → a ≠ b → (T a).2.1 ≠ (T b).2.1)
/-- a field, as an instruction of the class own names it -/
def ecF (own : String) (index ci k : Nat) (C : String) (T : u_T) (N : Nat) (ty : Nat → FieldType) : Prop := ecC ci C T N ty ∧ k < N ∧ ∃ ref, Cond.fieldLink own index ref (T k).2.1 (T k).2.2.1 ∈ GW ∧ (ref = (T k).1 ∨ Cond.sameField ref (T k).1 (T k).2.1 (T k).2.2.1 ∈ GW)
section ECR
variable {p : Program} {l : Launch} {e : Env} {R : Room} {s : State} {m : MethodId} {args : Array Value} {below : List Frame} {meth : Method} {c : Code} {H : Heap} {locs : List Loc} {cells slots : Nat} {Q : State → Prop}
variable {cc : ByteArray} {pc nL : Nat} {ls : Array Slot} {rest : List Value} {G : ecG} {A : Nat → Prop} {a : Nat} {own : String}
theorem ec_same {ref : String} {x y z : String} (hC : CallFix p m c cc nL s args GW own) (h : ref = x ∨ Cond.sameField ref x y z ∈ GW) : ∀ v, s.fieldFound? x y z = some v → s.fieldFound? ref y z = some v := by
  rcases h with h | h
  · subst h; exact fun _ h => h
  · exact fun v hv => u_same (hC.2.2.2.2 _ h) v hv
theorem ec_get (hC : CallFix p m c cc nL s args GW own) (hK : ecKx G s) {ci k index : Nat} {C : String} {T : u_T} {N : Nat} {ty : Nat → FieldType} {fs : List Value} (ha : va_at G.1 ecCl (a, .inr (ci, fs)) H) (F : ecF own index ci k C T N ty) {v : Value} (hv : fs[k]? = some v) (hdg : decode cc pc = .ok (.getfield index, 3))
    (kk : W p l e R s m args below meth c H locs cells slots Q (F0 m (pc + 3) ls (v :: rest))) : W p l e R s m args below meth c H locs cells slots Q (F0 m pc ls (.ref a :: rest)) := by
  obtain ⟨⟨f1, f2, f3, f4⟩, f5, ref, f6, f7⟩ := F
  exact va_get (ci := ci) (C := C) (T := T) (N := N) hC.1 hC.2.1 hC.2.2.2.2 f2 hC.2.2.2.1 hK.1 (ec_one ha) 0 rfl f1 k f5 (hC.2.2.2.2 _ f6) (ec_same hC f7) hv hdg kk
theorem ec_put (hC : CallFix p m c cc nL s args GW own) (hK : ecKx G s) {H0 : Heap} (hS : va_S A H0 H locs) {ci k index : Nat} {C : String} {T : u_T} {N : Nat} {ty : Nat → FieldType} {fs : List Value} (ha : va_at G.1 ecCl (a, .inr (ci, fs)) H) (hA : A a) (F : ecF own index ci k C T N ty) (hfin : (T k).2.2.2 = false) {v : Value} (hn : narrow (ty k) v = v) (hfit : fits (ty k) v = true) (hl : k < fs.length) (hdg : decode cc pc = .ok (.putfield index, 3))
    (kk : ∀ (H1 : Heap) (locs1 : List Loc), va_at G.1 ecCl (a, .inr (ci, fs.set k v)) H1 → (∀ q : Nat, q ≠ a → H1[q]? = H[q]?) → H1.size = H.size → va_S A H0 H1 locs1 → W p l e R s m args below meth c H1 locs1 cells slots Q (F0 m (pc + 3) ls rest)) : W p l e R s m args below meth c H locs cells slots Q (F0 m pc ls (v :: .ref a :: rest)) := by
  obtain ⟨⟨f1, f2, f3, f4⟩, f5, ref, f6, f7⟩ := F
  have hts := hC.2.2.2.2
  have hap := va_apart (own := own) hts f2 ty f3 f4 hK.1 f1
  obtain ⟨r, h1, cell, q1, q2, q3, q4⟩ := ha
  have hr : r = (C, T, N) := Option.some.inj (h1.symm.trans f1)
  subst hr
  obtain ⟨hSl, hfc, kC, hkC, hkind⟩ := hK.1.1 ci _ f1
  obtain ⟨cf, kf, fi, f, hi, hsl⟩ := hSl k f5
  have hlay := hts _ (f2 _ (u_in_lay f5))
  unfold u_lay at hlay
  rw [if_neg (by rw [hfin]; decide)] at hlay
  have hst := (u_facts hfc hkC (u_lays hts f2 f5) hi).1
  have h6 := u_store hfc hkC hkind hlay hi (f3 k f5) hn hfit
  refine W.putK hC.1 hC.2.1 (f := f) ⟨hC.2.2.2.1, hts _ f6, ⟨_, _, _, ec_same hC f7 _ hi⟩, hst⟩ (by rw [q2]; exact h6) q1 q3 (by rw [hsl]; exact k2_hasslot (q4 k f5)) rfl rfl hdg fun H' e1 e2 e3 => ?_
  rw [hsl] at e1 ⊢
  exact kk H' _ ⟨_, f1, t_OB.to (V := updV (vp_V fs) k v) ⟨_, e1, q2, q3, t_set q4 hap f5 v⟩ (fun j _ => vp_updV_set hl v j)⟩ e3 e2 (hS.put e2 e3 hA)
theorem ec_putF (hC : CallFix p m c cc nL s args GW own) (hK : ecKx G s) {H0 : Heap} (hS : va_S A H0 H locs) {ci k index : Nat} {C : String} {T : u_T} {N : Nat} {ty : Nat → FieldType} {fs : List Value} (ha : va_at G.1 ecCl (a, .inr (ci, fs)) H) (hA : A a) (F : ecF own index ci k C T N ty) (hfin : (T k).2.2.2 = true) (hin : meth.name = "<init>") (hdecl : (T k).1 = own) {v : Value} (hn : narrow (ty k) v = v) (hfit : fits (ty k) v = true) (hl : k < fs.length) (hdg : decode cc pc = .ok (.putfield index, 3))
    (kk : ∀ (H1 : Heap) (locs1 : List Loc), va_at G.1 ecCl (a, .inr (ci, fs.set k v)) H1 → (∀ q : Nat, q ≠ a → H1[q]? = H[q]?) → H1.size = H.size → va_S A H0 H1 locs1 → W p l e R s m args below meth c H1 locs1 cells slots Q (F0 m (pc + 3) ls rest)) : W p l e R s m args below meth c H locs cells slots Q (F0 m pc ls (v :: .ref a :: rest)) := by
  obtain ⟨⟨f1, f2, f3, f4⟩, f5, ref, f6, f7⟩ := F
  have hts := hC.2.2.2.2
  have hown := hC.2.2.2.1
  have hap := va_apart (own := own) hts f2 ty f3 f4 hK.1 f1
  obtain ⟨r, h1, cell, q1, q2, q3, q4⟩ := ha
  have hr : r = (C, T, N) := Option.some.inj (h1.symm.trans f1)
  subst hr
  obtain ⟨hSl, hfc, kC, hkC, hkind⟩ := hK.1.1 ci _ f1
  obtain ⟨cf, kf, fi, f, hi, hsl⟩ := hSl k f5
  have hlay := hts _ (f2 _ (u_in_lay f5))
  unfold u_lay at hlay
  rw [if_pos hfin] at hlay
  have hst := (u_facts hfc hkC (u_lays hts f2 f5) hi).1
  have hcf : m.cls = cf := by
    obtain ⟨_, _, c', _, _, _, -, -, hf', -, -, -, hown2, -⟩ := Cond.laysFinal_spec hlay
    have e1 : c' = cf := by have := hi.symm.trans hf'; simp at this; exact this.1.symm
    rw [hdecl] at hown2
    rw [← e1]; exact Option.some.inj (hown.symm.trans hown2)
  have h6 := u_fits hfc hkC hkind (Or.inr hlay) hi (f3 k f5) hn hfit
  refine W.putFinK hC.1 hC.2.1 hown (hts _ f6) (ec_same hC f7 _ hi) hst hcf hin (by rw [q2]; exact h6) q1 q3 (by rw [hsl]; exact k2_hasslot (q4 k f5)) rfl rfl hdg fun H' e1 e2 e3 => ?_
  rw [hsl] at e1 ⊢
  exact kk H' _ ⟨_, f1, t_OB.to (V := updV (vp_V fs) k v) ⟨_, e1, q2, q3, t_set q4 hap f5 v⟩ (fun j _ => vp_updV_set hl v j)⟩ e3 e2 (hS.put e2 e3 hA)
theorem ec_new (hC : CallFix p m c cc nL s args GW own) (hK : ecKx G s) {H0 : Heap} (hS : va_S A H0 H locs) {ci index : Nat} {C : String} {T : u_T} {N : Nat} {ty : Nat → FieldType} {fs : List Value} (B : ecC ci C T N ty) (hlk : Cond.classLink own index C ∈ GW ∧ Cond.instantiable C N ∈ GW ∧ Cond.initialized C ∈ GW) (hfs : ∀ j, j < N → defaultValue (ty j) = vp_V fs j) (hcells : cells + 1 ≤ R.cells) (hslots : slots + N ≤ R.slots) (hdg : decode cc pc = .ok (.new index, 3))
    (kk : ∀ (q : Nat) (H1 : Heap), q = H.size → va_at G.1 ecCl (q, .inr (ci, fs)) H1 → ecKp H H1 → va_S A H0 H1 locs → H1.size = H.size + 1 → W p l e R s m args below meth c H1 locs (cells + 1) (slots + N) Q (F0 m (pc + 3) ls (.ref q :: rest))) : W p l e R s m args below meth c H locs cells slots Q (F0 m pc ls rest) := by
  obtain ⟨f1, f2, f3, f4⟩ := B
  have hts := hC.2.2.2.2
  have hKn := hK.1.1 ci _ f1
  refine W.newcK hC.1 hC.2.1 hC.2.2.2.1 (hts _ hlk.1) (hts _ hlk.2.1) (hts _ hlk.2.2) rfl hdg hcells hslots hKn.2.1 rfl fun H1 kC hkC e1 z1 o1 => ?_
  exact kk H.size H1 rfl ⟨_, f1, (u_born ty hts f2 hKn hkC e1 f3).to hfs⟩ ⟨by omega, o1⟩ ⟨Nat.le_trans hS.1 (by omega), fun x h1 h2 => (o1 x (Nat.lt_of_lt_of_le h1 hS.1)).trans (hS.2.1 x h1 h2), hS.2.2⟩ z1
end ECR
end
section
abbrev eO (ci : Nat) (fs : List Value) : va_E := .inr (ci, fs)
abbrev eI (G : ecG) (n : Nat) (f : Nat → Int32) : va_E := .inl (G.2.1 0, n, .inl f)
abbrev eJ (G : ecG) (n : Nat) (f : Nat → Int64) : va_E := .inl (G.2.1 1, n, .inr (.inl f))
abbrev eZ (G : ecG) (n : Nat) (f : Nat → Int32) : va_E := .inl (G.2.1 2, n, .inl f)
abbrev eQ (G : ecG) (n : Nat) (f : Nat → Option Nat) : va_E := .inl (G.2.1 3, n, .inr (.inr (.inr (.inr f))))
abbrev eD (G : ecG) (n : Nat) (f : Nat → UInt64) : va_E := .inl (G.2.1 4, n, .inr (.inr (.inr (.inl f))))
/-- the cell q holds e -/
abbrev ecA (G : ecG) (q : Nat) (e : va_E) (H : Heap) : Prop := va_at G.1 ecCl (q, e) H
section ECA
variable {p : Program} {l : Launch} {e : Env} {R : Room} {s : State} {m : MethodId} {args : Array Value} {below : List Frame} {meth : Method} {c : Code} {H : Heap} {locs : List Loc} {cells slots : Nat} {Q : State → Prop}
variable {cc : ByteArray} {pc nL : Nat} {ls : Array Slot} {rest : List Value} {G : ecG} {A : Nat → Prop} {a : Nat} {own : String}
theorem ec_ix {x : Int32} {i n : Nat} (hx : x = nI i) (hi : i < n) (hn : n < 2 ^ 31) : vp_in x n ∧ x.toNatClampNeg = i := by
  subst hx
  exact ⟨vp_in_nI hi hn, nI_clamp (by omega)⟩

theorem ec_iald (hC : CallFix p m c cc nL s args GW own) (hK : ecKx G s) {n : Nat} {f : Nat → Int32} (ha : ecA G a (eI G n f) H) {x : Int32} (i : Nat) (hx : x = nI i) (hi : i < n) (hn : n < 2 ^ 31) (hdg : decode cc pc = .ok (.iaload, 1))
    (kk : W p l e R s m args below meth c H locs cells slots Q (F0 m (pc + 1) ls (.int (f i) :: rest))) : W p l e R s m args below meth c H locs cells slots Q (F0 m pc ls (.int x :: .ref a :: rest)) := by
  obtain ⟨h1, h2⟩ := ec_ix hx hi hn
  refine va_iald hC.1 hC.2.1 hK.1 (ec_one ha) 0 0 rfl rfl h1 hdg ?_
  rw [h2]
  exact kk
theorem ec_lald (hC : CallFix p m c cc nL s args GW own) (hK : ecKx G s) {n : Nat} {f : Nat → Int64} (ha : ecA G a (eJ G n f) H) {x : Int32} (i : Nat) (hx : x = nI i) (hi : i < n) (hn : n < 2 ^ 31) (hdg : decode cc pc = .ok (.laload, 1))
    (kk : W p l e R s m args below meth c H locs cells slots Q (F0 m (pc + 1) ls (.long (f i) :: rest))) : W p l e R s m args below meth c H locs cells slots Q (F0 m pc ls (.int x :: .ref a :: rest)) := by
  obtain ⟨h1, h2⟩ := ec_ix hx hi hn
  refine va_lald hC.1 hC.2.1 hK.1 (ec_one ha) 0 1 rfl rfl h1 hdg ?_
  rw [h2]
  exact kk
theorem ec_zald (hC : CallFix p m c cc nL s args GW own) (hK : ecKx G s) {n : Nat} {f : Nat → Int32} (ha : ecA G a (eZ G n f) H) {x : Int32} (i : Nat) (hx : x = nI i) (hi : i < n) (hn : n < 2 ^ 31) (hdg : decode cc pc = .ok (.baload, 1))
    (kk : W p l e R s m args below meth c H locs cells slots Q (F0 m (pc + 1) ls (.int (f i) :: rest))) : W p l e R s m args below meth c H locs cells slots Q (F0 m pc ls (.int x :: .ref a :: rest)) := by
  obtain ⟨h1, h2⟩ := ec_ix hx hi hn
  refine va_zald hC.1 hC.2.1 hK.1 (ec_one ha) 0 2 rfl rfl h1 hdg ?_
  rw [h2]
  exact kk
theorem ec_aldq (hC : CallFix p m c cc nL s args GW own) (hK : ecKx G s) {n : Nat} {f : Nat → Option Nat} (ha : ecA G a (eQ G n f) H) {x : Int32} (i : Nat) (hx : x = nI i) (hi : i < n) (hn : n < 2 ^ 31) (hdg : decode cc pc = .ok (.aaload, 1))
    (kk : W p l e R s m args below meth c H locs cells slots Q (F0 m (pc + 1) ls (va_rf (f i) :: rest))) : W p l e R s m args below meth c H locs cells slots Q (F0 m pc ls (.int x :: .ref a :: rest)) := by
  obtain ⟨h1, h2⟩ := ec_ix hx hi hn
  refine va_aldq hC.1 hC.2.1 hK.1 (ec_one ha) 0 3 rfl rfl h1 hdg ?_
  rw [h2]
  exact kk
theorem ec_dald (hC : CallFix p m c cc nL s args GW own) (hK : ecKx G s) {n : Nat} {f : Nat → UInt64} (ha : ecA G a (eD G n f) H) {x : Int32} (i : Nat) (hx : x = nI i) (hi : i < n) (hn : n < 2 ^ 31) (hdg : decode cc pc = .ok (.daload, 1))
    (kk : W p l e R s m args below meth c H locs cells slots Q (F0 m (pc + 1) ls (.double (f i) :: rest))) : W p l e R s m args below meth c H locs cells slots Q (F0 m pc ls (.int x :: .ref a :: rest)) := by
  obtain ⟨h1, h2⟩ := ec_ix hx hi hn
  refine va_dald hC.1 hC.2.1 hK.1 (ec_one ha) 0 4 rfl rfl h1 hdg ?_
  rw [h2]
  exact kk
theorem ec_lenI (hC : CallFix p m c cc nL s args GW own) (hK : ecKx G s) {n : Nat} {f : Nat → Int32} (ha : ecA G a (eI G n f) H) (hdg : decode cc pc = .ok (.arraylength, 1))
    (kk : W p l e R s m args below meth c H locs cells slots Q (F0 m (pc + 1) ls (.int (nI n) :: rest))) : W p l e R s m args below meth c H locs cells slots Q (F0 m pc ls (.ref a :: rest)) :=
  va_alen hC.1 hC.2.1 hK.1 (ec_one ha) 0 0 rfl rfl rfl hdg kk
theorem ec_lenJ (hC : CallFix p m c cc nL s args GW own) (hK : ecKx G s) {n : Nat} {f : Nat → Int64} (ha : ecA G a (eJ G n f) H) (hdg : decode cc pc = .ok (.arraylength, 1))
    (kk : W p l e R s m args below meth c H locs cells slots Q (F0 m (pc + 1) ls (.int (nI n) :: rest))) : W p l e R s m args below meth c H locs cells slots Q (F0 m pc ls (.ref a :: rest)) :=
  va_alen hC.1 hC.2.1 hK.1 (ec_one ha) 0 1 rfl rfl rfl hdg kk
theorem ec_lenZ (hC : CallFix p m c cc nL s args GW own) (hK : ecKx G s) {n : Nat} {f : Nat → Int32} (ha : ecA G a (eZ G n f) H) (hdg : decode cc pc = .ok (.arraylength, 1))
    (kk : W p l e R s m args below meth c H locs cells slots Q (F0 m (pc + 1) ls (.int (nI n) :: rest))) : W p l e R s m args below meth c H locs cells slots Q (F0 m pc ls (.ref a :: rest)) :=
  va_alen hC.1 hC.2.1 hK.1 (ec_one ha) 0 2 rfl rfl rfl hdg kk
theorem ec_lenQ (hC : CallFix p m c cc nL s args GW own) (hK : ecKx G s) {n : Nat} {f : Nat → Option Nat} (ha : ecA G a (eQ G n f) H) (hdg : decode cc pc = .ok (.arraylength, 1))
    (kk : W p l e R s m args below meth c H locs cells slots Q (F0 m (pc + 1) ls (.int (nI n) :: rest))) : W p l e R s m args below meth c H locs cells slots Q (F0 m pc ls (.ref a :: rest)) :=
  va_alen hC.1 hC.2.1 hK.1 (ec_one ha) 0 3 rfl rfl rfl hdg kk
theorem ec_lenD (hC : CallFix p m c cc nL s args GW own) (hK : ecKx G s) {n : Nat} {f : Nat → UInt64} (ha : ecA G a (eD G n f) H) (hdg : decode cc pc = .ok (.arraylength, 1))
    (kk : W p l e R s m args below meth c H locs cells slots Q (F0 m (pc + 1) ls (.int (nI n) :: rest))) : W p l e R s m args below meth c H locs cells slots Q (F0 m pc ls (.ref a :: rest)) :=
  va_alen hC.1 hC.2.1 hK.1 (ec_one ha) 0 4 rfl rfl rfl hdg kk
theorem ec_iast (hC : CallFix p m c cc nL s args GW own) (hK : ecKx G s) {H0 : Heap} (hS : va_S A H0 H locs) {n : Nat} {f : Nat → Int32} (ha : ecA G a (eI G n f) H) (hA : A a) {y : Int32} {x : Int32} (i : Nat) (hy : y = nI i) (hi : i < n) (hn : n < 2 ^ 31) (hdg : decode cc pc = .ok (.iastore, 1))
    (kk : ∀ (H1 : Heap) (locs1 : List Loc), ecA G a (eI G n (upd f i x)) H1 → (∀ q : Nat, q ≠ a → H1[q]? = H[q]?) → H1.size = H.size → va_S A H0 H1 locs1 → W p l e R s m args below meth c H1 locs1 cells slots Q (F0 m (pc + 1) ls rest)) : W p l e R s m args below meth c H locs cells slots Q (F0 m pc ls (.int x :: .int y :: .ref a :: rest)) := by
  obtain ⟨h1, h2⟩ := ec_ix hy hi hn
  refine W.iast hC.1 hC.2.1 (ec_one ha 0 _ rfl) ((hK.1.2 0 _ rfl).1 n (fun j => .int (f j))) (fun q => by cases q) (by show ¬ (y < 0 ∨ (arrV _ _ _).slots.size ≤ _); rw [arrV_size]; exact h1) rfl rfl hdg fun H1 e z oq => ?_
  refine kk H1 _ ?_ oq z (hS.put z oq hA)
  show H1[a]? = some (vp_cell _ _)
  rw [e]
  rw [vp_cell_i, vp_cell_i, arrV_store, h2]
  congr 2
  funext q
  by_cases hq : q = i
  · subst hq
    simp [updV, upd]
  · simp [updV, upd, hq]
theorem ec_last (hC : CallFix p m c cc nL s args GW own) (hK : ecKx G s) {H0 : Heap} (hS : va_S A H0 H locs) {n : Nat} {f : Nat → Int64} (ha : ecA G a (eJ G n f) H) (hA : A a) {y : Int32} {x : Int64} (i : Nat) (hy : y = nI i) (hi : i < n) (hn : n < 2 ^ 31) (hdg : decode cc pc = .ok (.lastore, 1))
    (kk : ∀ (H1 : Heap) (locs1 : List Loc), ecA G a (eJ G n (vp_updL f i x)) H1 → (∀ q : Nat, q ≠ a → H1[q]? = H[q]?) → H1.size = H.size → va_S A H0 H1 locs1 → W p l e R s m args below meth c H1 locs1 cells slots Q (F0 m (pc + 1) ls rest)) : W p l e R s m args below meth c H locs cells slots Q (F0 m pc ls (.long x :: .int y :: .ref a :: rest)) := by
  obtain ⟨h1, h2⟩ := ec_ix hy hi hn
  refine W.last hC.1 hC.2.1 (ec_one ha 0 _ rfl) ((hK.1.2 1 _ rfl).1 n (fun j => .long (f j))) (fun q => by cases q) (by show ¬ (y < 0 ∨ (arrV _ _ _).slots.size ≤ _); rw [arrV_size]; exact h1) rfl rfl hdg fun H1 e z oq => ?_
  refine kk H1 _ ?_ oq z (hS.put z oq hA)
  show H1[a]? = some (vp_cell _ _)
  rw [e]
  rw [vp_cell_l, vp_cell_l, arrV_store, h2]
  congr 2
  funext q
  by_cases hq : q = i
  · subst hq
    simp [updV, vp_updL]
  · simp [updV, vp_updL, hq]
theorem ec_dast (hC : CallFix p m c cc nL s args GW own) (hK : ecKx G s) {H0 : Heap} (hS : va_S A H0 H locs) {n : Nat} {f : Nat → UInt64} (ha : ecA G a (eD G n f) H) (hA : A a) {y : Int32} {x : UInt64} (i : Nat) (hy : y = nI i) (hi : i < n) (hn : n < 2 ^ 31) (hdg : decode cc pc = .ok (.dastore, 1))
    (kk : ∀ (H1 : Heap) (locs1 : List Loc), ecA G a (eD G n (vf_upd f i x)) H1 → (∀ q : Nat, q ≠ a → H1[q]? = H[q]?) → H1.size = H.size → va_S A H0 H1 locs1 → W p l e R s m args below meth c H1 locs1 cells slots Q (F0 m (pc + 1) ls rest)) : W p l e R s m args below meth c H locs cells slots Q (F0 m pc ls (.double x :: .int y :: .ref a :: rest)) := by
  obtain ⟨h1, h2⟩ := ec_ix hy hi hn
  refine W.dast hC.1 hC.2.1 (ec_one ha 0 _ rfl) ((hK.1.2 4 _ rfl).1 n (fun j => .double (f j))) (fun q => by cases q) (by show ¬ (y < 0 ∨ (arrV _ _ _).slots.size ≤ _); rw [arrV_size]; exact h1) rfl rfl hdg fun H1 e z oq => ?_
  refine kk H1 _ ?_ oq z (hS.put z oq hA)
  show H1[a]? = some (vp_cell _ _)
  rw [e]
  rw [vp_cell_d, vp_cell_d, arrV_store, h2]
  congr 2
  funext q
  by_cases hq : q = i
  · subst hq
    simp [updV, vf_upd]
  · simp [updV, vf_upd, hq]
theorem ec_cb (n : Nat) (ty : FieldType) (hn : n < 2 ^ 20) (h : componentBytes ty ≤ 8) : n * componentBytes ty ≤ 536870912 := Nat.le_trans (Nat.mul_le_mul (Nat.le_of_lt hn) h) (by decide)
/-- a truth value as an int -/
def bI (b : Bool) : Int32 := if b = true then 1 else 0
theorem bI_nar (b : Bool) : narrow .boolean (.int (bI b)) = .int (bI b) := by cases b <;> rfl
theorem bI_vp (b : Bool) : vp_nar .boolean (bI b) = bI b := by cases b <;> rfl
theorem bI_fit (b : Bool) : fits .boolean (.int (bI b)) = true := by cases b <;> rfl
theorem bI_t : bI true = 1 := rfl
theorem bI_f : bI false = 0 := rfl
theorem bI_0 (b : Bool) : bI b = 0 ↔ b = false := by cases b <;> decide
theorem bI_n0 (b : Bool) : ¬ bI b = 0 ↔ b = true := by cases b <;> decide
theorem ec_zast (hC : CallFix p m c cc nL s args GW own) (hK : ecKx G s) {H0 : Heap} (hS : va_S A H0 H locs) {n : Nat} {f : Nat → Int32} (ha : ecA G a (eZ G n f) H) (hA : A a) {y : Int32} {b : Bool} (i : Nat) (hy : y = nI i) (hi : i < n) (hn : n < 2 ^ 31) (hdg : decode cc pc = .ok (.bastore, 1))
    (kk : ∀ (H1 : Heap) (locs1 : List Loc), ecA G a (eZ G n (upd f i (bI b))) H1 → (∀ q : Nat, q ≠ a → H1[q]? = H[q]?) → H1.size = H.size → va_S A H0 H1 locs1 → W p l e R s m args below meth c H1 locs1 cells slots Q (F0 m (pc + 1) ls rest)) : W p l e R s m args below meth c H locs cells slots Q (F0 m pc ls (.int (bI b) :: .int y :: .ref a :: rest)) := by
  obtain ⟨h1, h2⟩ := ec_ix hy hi hn
  refine W.zast hC.1 hC.2.1 (ec_one ha 0 _ rfl) ((hK.1.2 2 _ rfl).1 n (fun j => .int (f j))) (fun q => by cases q) (by show ¬ (y < 0 ∨ (arrV _ _ _).slots.size ≤ _); rw [arrV_size]; exact h1) rfl rfl hdg fun H1 e z oq => ?_
  refine kk H1 _ ?_ oq z (hS.put z oq hA)
  show H1[a]? = some (vp_cell _ _)
  rw [e]
  rw [vp_cell_i, vp_cell_i, arrV_store, h2]
  congr 2
  funext q
  by_cases hq : q = i
  · subst hq
    simp [updV, upd, bI_nar]
  · simp [updV, upd, hq]
theorem ec_astq (hC : CallFix p m c cc nL s args GW own) (hK : ecKx G s) {H0 : Heap} (hS : va_S A H0 H locs) {n : Nat} {f : Nat → Option Nat} (ha : ecA G a (eQ G n f) H) (hA : A a) {v : Nat} (hr : va_Any "java/lang/Object" s H v) {y : Int32} (i : Nat) (hy : y = nI i) (hi : i < n) (hn : n < 2 ^ 31) (hdg : decode cc pc = .ok (.aastore, 1))
    (kk : ∀ (H1 : Heap) (locs1 : List Loc), ecA G a (eQ G n (va_up f i (some v))) H1 → (∀ q : Nat, q ≠ a → H1[q]? = H[q]?) → H1.size = H.size → va_S A H0 H1 locs1 → W p l e R s m args below meth c H1 locs1 cells slots Q (F0 m (pc + 1) ls rest)) : W p l e R s m args below meth c H locs cells slots Q (F0 m pc ls (.ref v :: .int y :: .ref a :: rest)) := by
  obtain ⟨h1, h2⟩ := ec_ix hy hi hn
  have h0 : ¬ y < 0 := fun q => h1 (Or.inl q)
  obtain ⟨cellV, g1, g2, ⟨kC, g3⟩, g4⟩ := hr
  obtain ⟨kA, comp, k1, k2, k3, -⟩ := (hK.1.2 3 _ rfl).2
  refine W.aast hC.1 hC.2.1 (ec_one ha 0 _ rfl) (fun q h => by cases h) (fun h => by cases h) k1 k2 rfl (Vm.findClass_spec k3).choose_spec.1 ⟨h0, by show _ < (arrV _ _ _).slots.size; rw [arrV_size, h2]; exact hi⟩ g1 (fun q h => by rw [h] at g2; cases g2) g3 (g4 comp k3) rfl rfl hdg fun H1 e z oq => ?_
  refine kk H1 _ ?_ oq z (hS.put z oq hA)
  show H1[a]? = some (vp_cell _ _)
  rw [e]
  rw [vp_cell_q, vp_cell_q, arrV_store, h2]
  congr 2
  funext q
  by_cases hq : q = i
  · subst hq
    simp [updV, va_up, va_rf]
  · simp [updV, va_up, hq]
theorem ec_newI (hC : CallFix p m c cc nL s args GW own) (hK : ecKx G s) {H0 : Heap} (hS : va_S A H0 H locs) (hw : Cond.arrayClass .int ∈ GW) {y : Int32} (n : Nat) (hy : y = nI n) (hn : n < 2 ^ 20) (hcells : cells + 1 ≤ R.cells) (hslots : slots + n ≤ R.slots) (hdg : decode cc pc = .ok (.newarray .int, 2))
    (kk : ∀ (q : Nat) (H1 : Heap), q = H.size → ecA G q (eI G n (fun _ => (0 : Int32))) H1 → ecKp H H1 → va_S A H0 H1 locs → H1.size = H.size + 1 → W p l e R s m args below meth c H1 locs (cells + 1) (slots + n) Q (F0 m (pc + 2) ls (.ref q :: rest))) : W p l e R s m args below meth c H locs cells slots Q (F0 m pc ls (.int y :: rest)) := by
  subst hy
  have h31 : n < 2 ^ 31 := by omega
  refine va_newaK (atype := .int) hC.1 hC.2.1 (hC.2.2.2.2 _ hw) rfl hdg rfl (nI_pos h31) (nI_clamp h31) (ec_cb n _ hn (by decide)) hcells hslots rfl fun H1 cA e1 z1 o1 hAr hNm => ?_
  have hcA : G.2.1 0 = cA := Option.some.inj (((hK.1.2 0 _ rfl).2 : s.vm.findClass _ = some _).symm.trans hNm)
  refine kk H.size H1 rfl ?_ ⟨by omega, o1⟩ ⟨Nat.le_trans hS.1 (by omega), fun x h1 h2 => (o1 x (Nat.lt_of_lt_of_le h1 hS.1)).trans (hS.2.1 x h1 h2), hS.2.2⟩ z1
  show H1[H.size]? = some (vp_cell _ _)
  rw [e1, ← hcA]
  rfl
theorem ec_newJ (hC : CallFix p m c cc nL s args GW own) (hK : ecKx G s) {H0 : Heap} (hS : va_S A H0 H locs) (hw : Cond.arrayClass .long ∈ GW) {y : Int32} (n : Nat) (hy : y = nI n) (hn : n < 2 ^ 20) (hcells : cells + 1 ≤ R.cells) (hslots : slots + n ≤ R.slots) (hdg : decode cc pc = .ok (.newarray .long, 2))
    (kk : ∀ (q : Nat) (H1 : Heap), q = H.size → ecA G q (eJ G n (fun _ => (0 : Int64))) H1 → ecKp H H1 → va_S A H0 H1 locs → H1.size = H.size + 1 → W p l e R s m args below meth c H1 locs (cells + 1) (slots + n) Q (F0 m (pc + 2) ls (.ref q :: rest))) : W p l e R s m args below meth c H locs cells slots Q (F0 m pc ls (.int y :: rest)) := by
  subst hy
  have h31 : n < 2 ^ 31 := by omega
  refine va_newaK (atype := .long) hC.1 hC.2.1 (hC.2.2.2.2 _ hw) rfl hdg rfl (nI_pos h31) (nI_clamp h31) (ec_cb n _ hn (by decide)) hcells hslots rfl fun H1 cA e1 z1 o1 hAr hNm => ?_
  have hcA : G.2.1 1 = cA := Option.some.inj (((hK.1.2 1 _ rfl).2 : s.vm.findClass _ = some _).symm.trans hNm)
  refine kk H.size H1 rfl ?_ ⟨by omega, o1⟩ ⟨Nat.le_trans hS.1 (by omega), fun x h1 h2 => (o1 x (Nat.lt_of_lt_of_le h1 hS.1)).trans (hS.2.1 x h1 h2), hS.2.2⟩ z1
  show H1[H.size]? = some (vp_cell _ _)
  rw [e1, ← hcA]
  rfl
theorem ec_newZ (hC : CallFix p m c cc nL s args GW own) (hK : ecKx G s) {H0 : Heap} (hS : va_S A H0 H locs) (hw : Cond.arrayClass .boolean ∈ GW) {y : Int32} (n : Nat) (hy : y = nI n) (hn : n < 2 ^ 20) (hcells : cells + 1 ≤ R.cells) (hslots : slots + n ≤ R.slots) (hdg : decode cc pc = .ok (.newarray .boolean, 2))
    (kk : ∀ (q : Nat) (H1 : Heap), q = H.size → ecA G q (eZ G n (fun _ => (0 : Int32))) H1 → ecKp H H1 → va_S A H0 H1 locs → H1.size = H.size + 1 → W p l e R s m args below meth c H1 locs (cells + 1) (slots + n) Q (F0 m (pc + 2) ls (.ref q :: rest))) : W p l e R s m args below meth c H locs cells slots Q (F0 m pc ls (.int y :: rest)) := by
  subst hy
  have h31 : n < 2 ^ 31 := by omega
  refine va_newaK (atype := .boolean) hC.1 hC.2.1 (hC.2.2.2.2 _ hw) rfl hdg rfl (nI_pos h31) (nI_clamp h31) (ec_cb n _ hn (by decide)) hcells hslots rfl fun H1 cA e1 z1 o1 hAr hNm => ?_
  have hcA : G.2.1 2 = cA := Option.some.inj (((hK.1.2 2 _ rfl).2 : s.vm.findClass _ = some _).symm.trans hNm)
  refine kk H.size H1 rfl ?_ ⟨by omega, o1⟩ ⟨Nat.le_trans hS.1 (by omega), fun x h1 h2 => (o1 x (Nat.lt_of_lt_of_le h1 hS.1)).trans (hS.2.1 x h1 h2), hS.2.2⟩ z1
  show H1[H.size]? = some (vp_cell _ _)
  rw [e1, ← hcA]
  rfl
theorem ec_newD (hC : CallFix p m c cc nL s args GW own) (hK : ecKx G s) {H0 : Heap} (hS : va_S A H0 H locs) (hw : Cond.arrayClass .double ∈ GW) {y : Int32} (n : Nat) (hy : y = nI n) (hn : n < 2 ^ 20) (hcells : cells + 1 ≤ R.cells) (hslots : slots + n ≤ R.slots) (hdg : decode cc pc = .ok (.newarray .double, 2))
    (kk : ∀ (q : Nat) (H1 : Heap), q = H.size → ecA G q (eD G n (fun _ => (0 : UInt64))) H1 → ecKp H H1 → va_S A H0 H1 locs → H1.size = H.size + 1 → W p l e R s m args below meth c H1 locs (cells + 1) (slots + n) Q (F0 m (pc + 2) ls (.ref q :: rest))) : W p l e R s m args below meth c H locs cells slots Q (F0 m pc ls (.int y :: rest)) := by
  subst hy
  have h31 : n < 2 ^ 31 := by omega
  refine va_newaK (atype := .double) hC.1 hC.2.1 (hC.2.2.2.2 _ hw) rfl hdg rfl (nI_pos h31) (nI_clamp h31) (ec_cb n _ hn (by decide)) hcells hslots rfl fun H1 cA e1 z1 o1 hAr hNm => ?_
  have hcA : G.2.1 4 = cA := Option.some.inj (((hK.1.2 4 _ rfl).2 : s.vm.findClass _ = some _).symm.trans hNm)
  refine kk H.size H1 rfl ?_ ⟨by omega, o1⟩ ⟨Nat.le_trans hS.1 (by omega), fun x h1 h2 => (o1 x (Nat.lt_of_lt_of_le h1 hS.1)).trans (hS.2.1 x h1 h2), hS.2.2⟩ z1
  show H1[H.size]? = some (vp_cell _ _)
  rw [e1, ← hcA]
  rfl
theorem ec_newQ (hC : CallFix p m c cc nL s args GW own) (hK : ecKx G s) {H0 : Heap} (hS : va_S A H0 H locs) {index : Nat} (hw : Cond.classLink own index "java/lang/Object" ∈ GW) {y : Int32} (n : Nat) (hy : y = nI n) (hn : n < 2 ^ 20) (hcells : cells + 1 ≤ R.cells) (hslots : slots + n ≤ R.slots) (hdg : decode cc pc = .ok (.anewarray index, 3))
    (kk : ∀ (q : Nat) (H1 : Heap), q = H.size → ecA G q (eQ G n (fun _ => none)) H1 → ecKp H H1 → va_S A H0 H1 locs → H1.size = H.size + 1 → W p l e R s m args below meth c H1 locs (cells + 1) (slots + n) Q (F0 m (pc + 3) ls (.ref q :: rest))) : W p l e R s m args below meth c H locs cells slots Q (F0 m pc ls (.int y :: rest)) := by
  subst hy
  have h31 : n < 2 ^ 31 := by omega
  have hcl : (nI n).toNatClampNeg = n := nI_clamp h31
  refine W.anew hC.1 hC.2.1 hC.2.2.2.1 (hC.2.2.2.2 _ hw) (va_AO.use hK.2.2.2.2.1) rfl hdg rfl (nI_pos h31) (by rw [hcl]; omega) hcells (by rw [hcl]; exact hslots) fun cA kA comp f1 f2 f3 f4 => ?_
  rw [hcl]
  have hcA : G.2.1 3 = cA := by
    obtain ⟨kA', comp', -, -, -, h4⟩ := (hK.1.2 3 _ rfl).2
    exact Option.some.inj (h4.symm.trans f1)
  generalize hH1 : H.push ({ cls := cA, slots := Array.replicate n .null, vm := .none } : Cell) = H1
  have z1 : H1.size = H.size + 1 := by rw [← hH1, Array.size_push]
  have e1 : H1[H.size]? = some (arrV cA n (fun _ => .null)) := by rw [← hH1, Array.getElem?_push_size, ← arrV_new]
  have o1 : ∀ q : Nat, q < H.size → H1[q]? = H[q]? := fun q hq => by rw [← hH1, Array.getElem?_push, if_neg (Nat.ne_of_lt hq)]
  refine kk H.size H1 rfl ?_ ⟨by omega, o1⟩ ⟨Nat.le_trans hS.1 (by omega), fun x h1 h2 => (o1 x (Nat.lt_of_lt_of_le h1 hS.1)).trans (hS.2.1 x h1 h2), hS.2.2⟩ z1
  show H1[H.size]? = some (vp_cell _ _)
  rw [e1, ← hcA]
  rfl
end ECA
end
section
abbrev ecHd (y : MethodName) (n : Nat) : Prop := y.cls ≠ "java/lang/invoke/MethodHandle" ∧ y.cls ≠ "java/lang/invoke/VarHandle" ∧ (parseMethodDescriptor y.desc).map (fun d => d.parameters.length) = some n
/-- the words of a call by a receiver, of a constructor's, of a static one -/
def ecCV (own : String) (index : Nat) (y : MethodName) (b : ByteArray) (maxL : Nat) (ret : Option FieldType) (n : Nat) : Prop := Cond.methodLink own index y ∈ GW ∧ Cond.instanceMethod y ∈ GW ∧ Cond.selects y.cls y y ∈ GW ∧ Cond.initialized y.cls ∈ GW ∧ Cond.code y b maxL ret ∈ GW ∧ ecHd y n
def ecCI (own : String) (index : Nat) (y : MethodName) (b : ByteArray) (maxL : Nat) (n : Nat) : Prop := Cond.methodLink own index y ∈ GW ∧ Cond.instanceMethod y ∈ GW ∧ Cond.initialized y.cls ∈ GW ∧ Cond.code y b maxL none ∈ GW ∧ y.name = "<init>" ∧ ecHd y n
def ecCS (own : String) (index : Nat) (y : MethodName) (b : ByteArray) (maxL : Nat) (ret : Option FieldType) (n : Nat) : Prop := Cond.methodLink own index y ∈ GW ∧ Cond.static y ∈ GW ∧ Cond.initialized y.cls ∈ GW ∧ Cond.code y b maxL ret ∈ GW ∧ ecHd y n
section ECM
variable {p : Program} {l : Launch} {e : Env} {R : Room} {s : State} {m : MethodId} {args : Array Value} {below : List Frame} {meth : Method} {c : Code} {H : Heap} {locs : List Loc} {cells slots : Nat} {Q : State → Prop}
variable {cc b : ByteArray} {pc nL maxL d mc ms index : Nat} {ls : Array Slot} {rest st0 As av : List Value} {G : ecG} {A A0 A1 : Nat → Prop} {a : Nat} {own : String} {y : MethodName} {ret : Option FieldType}
variable {Pre : Heap → Prop} {Qc : Array Value → State → Outcome → State → Prop} {XC : String → State → State → Prop} {free : Addr → Prop} {H0 : Heap} {P : Option Value → Prop} {PE : Option Value → Heap → Prop} {X : String → Prop} {ar : Array Value}
theorem ec_cwV (n : Nat) (hts : ∀ w ∈ GW, w.before args s = true) (K : ecCV own index y b maxL ret n) (hR : d + 1 ≤ R.frames ∧ 8 + (maxL + 11) + 40 * d ≤ R.locals) : CallW R s args own y.cls index y b maxL ret (ecWs y b maxL ret) (ecRm d mc ms) mc ms n := by
  obtain ⟨k1, k2, k3, k4, k5, k6⟩ := K
  refine cwV n hts (gw_in fun w hw => ?_) rfl rfl rfl ⟨rfl, k6⟩ hR
  simp only [wsV, List.cons_append, List.nil_append, List.mem_cons] at hw
  rcases hw with rfl | rfl | rfl | rfl | rfl | hw
  · exact k1
  · exact k2
  · exact k3
  · exact k4
  · exact k5
  · exact hw
theorem ec_cwI (n : Nat) (hts : ∀ w ∈ GW, w.before args s = true) (K : ecCI own index y b maxL n) (hR : d + 1 ≤ R.frames ∧ 8 + (maxL + 11) + 40 * d ≤ R.locals) : CallB R s args own index y b maxL none (ecWs y b maxL none) (ecRm d mc ms) mc ms n ∧ y.name = "<init>" ∧ (Cond.instanceMethod y).before args s = true := by
  obtain ⟨k1, k2, k3, k4, k5, k6⟩ := K
  exact cwI n hts (gw_m k4) rfl rfl rfl (hts _ k3) (hts _ k1) (hts _ k2) k5 k6 hR
theorem ec_cwS (n : Nat) (hts : ∀ w ∈ GW, w.before args s = true) (K : ecCS own index y b maxL ret n) (hR : d + 1 ≤ R.frames ∧ 8 + (maxL + 11) + 40 * d ≤ R.locals) : CallB R s args own index y b maxL ret (ecWs y b maxL ret) (ecRm d mc ms) mc ms n ∧ (Cond.static y).before args s = true := by
  obtain ⟨k1, k2, k3, k4, k6⟩ := K
  refine va_cwS n hts (gw_in fun w hw => ?_) rfl rfl rfl k6 hR
  simp only [va_wsS, List.cons_append, List.nil_append, List.mem_cons] at hw
  rcases hw with rfl | rfl | rfl | rfl | hw
  · exact k1
  · exact k2
  · exact k3
  · exact k4
  · exact hw
theorem ec_preS (hOk : ecOk G s H) (hpre : Pre H) : PreS s H (ecPc As G Pre) As := ⟨ec_blind _ _ _, fun U hU hW => ⟨rfl, hOk.to hU hW, by rw [hU]; exact hpre⟩⟩
theorem ec_rc (hK : ecKx G s) {ci : Nat} {fs : List Value} (ha : ecA G a (eO ci fs) H) {C : String} (hc : ∃ T N, ecCl[ci]? = some (C, T, N)) : ∃ cell : Cell, H[a]? = some cell ∧ cell.vm.isStatics = false ∧ s.vm.findClass C = some cell.cls := by
  obtain ⟨T, N, hc⟩ := hc
  exact va_recv (q0 := 0) hK.1 (ec_one ha) hc rfl
theorem ec_any (hK : ecKx G s) {ci : Nat} {fs : List Value} (ha : ecA G a (eO ci fs) H) {C : String} (hc : ∃ T N, ecCl[ci]? = some (C, T, N)) (hw : (C, "java/lang/Object") ∈ ecCa) : va_Any "java/lang/Object" s H a := by
  obtain ⟨T, N, hc⟩ := hc
  refine va_rAny (q0 := 0) hK.1 (ec_one ha) rfl hc fun comp c0 h1 h2 => ?_
  obtain ⟨c1, t1, f1, f2, f3⟩ := Cond.castable_spec (hK.ca (args := #[]) hw)
  cases h2.symm.trans f1
  cases h1.symm.trans f2
  exact f3
/-- calls: by a receiver, a constructor, static -/
theorem ec_rV (hC : CallFix p m c cc nL s args GW own) (hM : Met l y (ecWs y b maxL ret) (ecRm d mc ms) (ecPc (.ref a :: As) G Pre) Qc mc ms free) (K : ecCV own index y b maxL ret As.length) (hOk : ecOk G s H) (hpre : Pre H) (hrc : ∃ cell : Cell, H[a]? = some cell ∧ cell.vm.isStatics = false ∧ s.vm.findClass y.cls = some cell.cls)
    (hls : ls.size = nL) (hR : d + 1 ≤ R.frames ∧ 8 + (maxL + 11) + 40 * d ≤ R.locals) (hst : st0 = As.reverse ++ .ref a :: rest) (hcat : (rest.map fun v => v.category).sum ≤ 8) (hdg : decode cc pc = .ok (.invokevirtual index, 3)) (hf : cells + mc ≤ R.cells ∧ slots + ms ≤ R.slots) :
    va_Run p l e R s m args below meth c H locs cells slots mc ms (F0 m pc ls st0) rest (Qc (Value.ref a :: As).toArray) free :=
  va_runV (As := As) (rest := rest) hC hM (ec_cwV As.length hC.2.2.2.2 K hR) ⟨ec_blind _ _ _, hrc, (ec_preS hOk hpre).2⟩ rfl rfl hls hst (lv_room hcat) hdg hf
theorem ec_rI (hC : CallFix p m c cc nL s args GW own) (hM : Met l y (ecWs y b maxL none) (ecRm d mc ms) (ecPc (.ref a :: As) G Pre) Qc mc ms free) (K : ecCI own index y b maxL As.length) (hOk : ecOk G s H) (hpre : Pre H)
    (hls : ls.size = nL) (hR : d + 1 ≤ R.frames ∧ 8 + (maxL + 11) + 40 * d ≤ R.locals) (hst : st0 = As.reverse ++ .ref a :: rest) (hcat : (rest.map fun v => v.category).sum ≤ 8) (hdg : decode cc pc = .ok (.invokespecial index, 3)) (hf : cells + mc ≤ R.cells ∧ slots + ms ≤ R.slots) :
    va_Run p l e R s m args below meth c H locs cells slots mc ms (F0 m pc ls st0) rest (Qc (Value.ref a :: As).toArray) free :=
  va_runI (As := As) (rest := rest) hC hM (ec_cwI As.length hC.2.2.2.2 K hR) (ec_preS hOk hpre) rfl rfl hls hst (lv_room hcat) hdg hf
theorem ec_rS (hC : CallFix p m c cc nL s args GW own) (hM : Met l y (ecWs y b maxL ret) (ecRm d mc ms) (ecPc As G Pre) Qc mc ms free) (K : ecCS own index y b maxL ret As.length) (hOk : ecOk G s H) (hpre : Pre H)
    (hls : ls.size = nL) (hR : d + 1 ≤ R.frames ∧ 8 + (maxL + 11) + 40 * d ≤ R.locals) (hst : st0 = As.reverse ++ rest) (hcat : (rest.map fun v => v.category).sum ≤ 8) (hdg : decode cc pc = .ok (.invokestatic index, 3)) (hf : cells + mc ≤ R.cells ∧ slots + ms ≤ R.slots) :
    va_Run p l e R s m args below meth c H locs cells slots mc ms (F0 m pc ls st0) rest (Qc As.toArray) free :=
  va_runS (As := As) (rest := rest) hC hM (ec_cwS As.length hC.2.2.2.2 K hR) (ec_preS hOk hpre) rfl rfl hls hst (lv_room hcat) hdg hf
theorem ec_xV (hC : CallFix p m c cc nL s args GW own) (hM : vx_Met l y (ecWs y b maxL ret) (ecRm d mc ms) (ecPc (.ref a :: As) G Pre) Qc XC mc ms free) (K : ecCV own index y b maxL ret As.length) (hOk : ecOk G s H) (hpre : Pre H) (hrc : ∃ cell : Cell, H[a]? = some cell ∧ cell.vm.isStatics = false ∧ s.vm.findClass y.cls = some cell.cls)
    (hls : ls.size = nL) (hR : d + 1 ≤ R.frames ∧ 8 + (maxL + 11) + 40 * d ≤ R.locals) (hst : st0 = As.reverse ++ .ref a :: rest) (hcat : (rest.map fun v => v.category).sum ≤ 8) (hdg : decode cc pc = .ok (.invokevirtual index, 3)) (hf : cells + mc ≤ R.cells ∧ slots + ms ≤ R.slots) :
    vx_Run p l e R s m args below meth c H locs cells slots mc ms (F0 m pc ls st0) rest (Qc (Value.ref a :: As).toArray) XC free :=
  vx_runV (As := As) (rest := rest) hC hM (ec_cwV As.length hC.2.2.2.2 K hR) ⟨ec_blind _ _ _, hrc, (ec_preS hOk hpre).2⟩ rfl rfl hls hst (lv_room hcat) hdg hf
theorem ec_xS (hC : CallFix p m c cc nL s args GW own) (hM : vx_Met l y (ecWs y b maxL ret) (ecRm d mc ms) (ecPc As G Pre) Qc XC mc ms free) (K : ecCS own index y b maxL ret As.length) (hOk : ecOk G s H) (hpre : Pre H)
    (hls : ls.size = nL) (hR : d + 1 ≤ R.frames ∧ 8 + (maxL + 11) + 40 * d ≤ R.locals) (hst : st0 = As.reverse ++ rest) (hcat : (rest.map fun v => v.category).sum ≤ 8) (hdg : decode cc pc = .ok (.invokestatic index, 3)) (hf : cells + mc ≤ R.cells ∧ slots + ms ≤ R.slots) :
    vx_Run p l e R s m args below meth c H locs cells slots mc ms (F0 m pc ls st0) rest (Qc As.toArray) XC free :=
  vx_runS (As := As) (rest := rest) hC hM (ec_cwS As.length hC.2.2.2.2 K hR) (ec_preS hOk hpre) rfl rfl hls hst (lv_room hcat) hdg hf
theorem ec_nolocs {L : List Loc} {f : Addr → Prop} (h : ∀ q ∈ L, f q.base) (hf : ∀ q, ¬ f q) : L = [] := by
  cases L with
  | nil => rfl
  | cons x L => exact absurd (h x List.mem_cons_self) (hf _)
/-- behind a call that leaves the heap as it is -/
theorem ec_goR (hr : va_Run p l e R s m args below meth c H locs cells slots mc ms (F0 m pc ls st0) rest (ecRp P ar) (fun _ => False))
    (kk : ∀ v, P v → W p l e R s m args below meth c H locs (cells + mc) (slots + ms) Q (F0 m (pc + 3) ls (v.toList ++ rest))) : W p l e R s m args below meth c H locs cells slots Q (F0 m pc ls st0) := by
  intro T hT X
  obtain ⟨v, st₀, t, T', L, h0, X', hL, e1, e2, ⟨v', hv, hp, hh⟩, st⟩ := hr T hT X
  cases hv
  have hL0 := ec_nolocs hL (fun _ h => h)
  subst hL0
  rw [List.append_nil] at X'
  obtain ⟨t2, a1, b1⟩ := kk v hp T' (by rw [e1, hh, h0]) X'
  exact ⟨t2, st t2 a1, b1⟩
/-- behind a call that changes the cells of A1 alone -/
theorem ec_goE (hr : va_Run p l e R s m args below meth c H locs cells slots mc ms (F0 m pc ls st0) rest (ecEp PE A1 ar) A1) (hS : va_S A0 H0 H locs) (hA : ∀ q, A1 q → A0 q)
    (kk : ∀ v H1 locs1, PE v H1 → H.size ≤ H1.size → (∀ q : Nat, q < H.size → ¬ A1 q → H1[q]? = H[q]?) → va_S A0 H0 H1 locs1 → W p l e R s m args below meth c H1 locs1 (cells + mc) (slots + ms) Q (F0 m (pc + 3) ls (v.toList ++ rest))) : W p l e R s m args below meth c H locs cells slots Q (F0 m pc ls st0) := by
  intro T hT X
  obtain ⟨v, st₀, t, T', L, h0, X', hL, e1, e2, ⟨v', hv, hp, hF⟩, st⟩ := hr T hT X
  cases hv
  obtain ⟨k1, k2, k3⟩ := vx_keep h0 e1 hS (fun q _ h => hA q h) hA hL hF
  obtain ⟨t2, a1, b1⟩ := kk v T'.heap (locs ++ L) (by rw [e1]; exact hp) k1 k2 k3 T' rfl X'
  exact ⟨t2, st t2 a1, b1⟩
/-- behind a call that leaves the heap as it is, or throws -/
theorem ec_goXR (hr : vx_Run p l e R s m args below meth c H locs cells slots mc ms (F0 m pc ls st0) rest (ecRp P ar) (ecXc X) (fun _ => False)) (hS : va_S A0 H0 H locs)
    (kx : ∀ (E : String) (ce : Cell) (q9 : Addr) (H1 : Heap), X E → ecKp H H1 → va_S A0 H0 H1 locs → H1[q9]? = some ce → ce.vm = .none → s.vm.findClass E = some ce.cls → vx_W p l e R s m args below meth c H1 locs (cells + mc) (slots + ms) Q (F0 m pc ls rest) q9)
    (kk : ∀ v, P v → W p l e R s m args below meth c H locs (cells + mc) (slots + ms) Q (F0 m (pc + 3) ls (v.toList ++ rest))) : W p l e R s m args below meth c H locs cells slots Q (F0 m pc ls st0) := by
  intro T hT X
  rcases hr T hT X with ⟨v, st₀, t, T', L, h0, X', hL, e1, e2, ⟨v', hv, hp, hh⟩, st⟩ | ⟨q, st₀, t, T', L, E, ce, h0, X', hL, e1, e2, ⟨hx, hk⟩, hce, hcv, hcl, st⟩
  · cases hv
    have hL0 := ec_nolocs hL (fun _ h => h)
    subst hL0
    rw [List.append_nil] at X'
    obtain ⟨t2, a1, b1⟩ := kk v hp T' (by rw [e1, hh, h0]) X'
    exact ⟨t2, st t2 a1, b1⟩
  · have hL0 := ec_nolocs hL (fun _ h => h)
    subst hL0
    rw [List.append_nil] at X'
    rw [h0, ← e1] at hk
    obtain ⟨t2, a1, b1⟩ := kx E ce q T'.heap hx hk ⟨Nat.le_trans hS.1 hk.1, fun x h1 h2 => (hk.2 x (Nat.lt_of_lt_of_le h1 hS.1)).trans (hS.2.1 x h1 h2), hS.2.2⟩ (by rw [e1]; exact hce) hcv hcl T' rfl X'
    exact ⟨t2, st.trans a1, b1⟩
/-- behind a call that changes the cells of A1 alone, or throws -/
theorem ec_goXE (hr : vx_Run p l e R s m args below meth c H locs cells slots mc ms (F0 m pc ls st0) rest (ecEp PE A1 ar) (ecXc X) A1) (hS : va_S A0 H0 H locs) (hA : ∀ q, A1 q → A0 q)
    (kx : ∀ (E : String) (ce : Cell) (q9 : Addr) (H1 : Heap) (locs1 : List Loc), X E → ecKp H H1 → va_S A0 H0 H1 locs1 → H1[q9]? = some ce → ce.vm = .none → s.vm.findClass E = some ce.cls → vx_W p l e R s m args below meth c H1 locs1 (cells + mc) (slots + ms) Q (F0 m pc ls rest) q9)
    (kk : ∀ v H1 locs1, PE v H1 → H.size ≤ H1.size → (∀ q : Nat, q < H.size → ¬ A1 q → H1[q]? = H[q]?) → va_S A0 H0 H1 locs1 → W p l e R s m args below meth c H1 locs1 (cells + mc) (slots + ms) Q (F0 m (pc + 3) ls (v.toList ++ rest))) : W p l e R s m args below meth c H locs cells slots Q (F0 m pc ls st0) := by
  intro T hT X
  rcases hr T hT X with ⟨v, st₀, t, T', L, h0, X', hL, e1, e2, ⟨v', hv, hp, hF⟩, st⟩ | ⟨q, st₀, t, T', L, E, ce, h0, X', hL, e1, e2, ⟨hx, hk⟩, hce, hcv, hcl, st⟩
  · cases hv
    obtain ⟨k1, k2, k3⟩ := vx_keep h0 e1 hS (fun q _ h => hA q h) hA hL hF
    obtain ⟨t2, a1, b1⟩ := kk v T'.heap (locs ++ L) (by rw [e1]; exact hp) k1 k2 k3 T' rfl X'
    exact ⟨t2, st t2 a1, b1⟩
  · rw [h0, ← e1] at hk
    obtain ⟨t2, a1, b1⟩ := kx E ce q T'.heap (locs ++ L) hx hk ⟨Nat.le_trans hS.1 hk.1, fun x h1 h2 => (hk.2 x (Nat.lt_of_lt_of_le h1 hS.1)).trans (hS.2.1 x h1 h2), fun q hq => (List.mem_append.mp hq).elim (hS.2.2 q) (fun h => hA _ (hL q h))⟩ (by rw [e1]; exact hce) hcv hcl T' rfl X'
    exact ⟨t2, st.trans a1, b1⟩
/-- what is thrown to here goes on to the caller -/
theorem ec_out {E : String} {ce : Cell} {q9 : Addr} (hnx : ∀ x ∈ c.exceptionTable.toList, False) (hlocks : meth.locks = false) (hX : X E) (hk : ecKp s.heap H) (hS : va_S A s.heap H locs) (h1 : H[q9]? = some ce) (h2 : ce.vm = .none) (h3 : s.vm.findClass E = some ce.cls) (hc : cells ≤ mc) (hs : slots ≤ ms) :
    vx_W p l e R s m args below meth c H locs cells slots (vx_MQ below Qc (ecXc X) args s mc ms A) (F0 m pc ls rest) q9 :=
  vx_out (fun x hx => (hnx x hx).elim) hlocks h1 h2 h3 (fun t ht _ => ⟨hX, by rw [ht]; exact hk⟩) hS.2.2 hc hs
/-- a method's start -/
theorem ec_met (hy : plainName y.cls = true) (hlen : (lg_sl av).length ≤ maxL)
    (body : ∀ (p : Program) (e : Env) (s : State) (m : MethodId) (below : List Frame) (meth : Method) (c : Code), CallFix p m c b maxL s av.toArray GW y.cls → meth.sig.returnType = ret → meth.locks = false → meth.name = y.name → ecOk G s s.heap → Pre s.heap → ∀ ls, lv_has ls maxL (lv_args 0 av) →
      W p l e (ecRm d mc ms) s m av.toArray below meth c s.heap [] 0 0 (MQ below Qc av.toArray s mc ms free) (F0 m 0 ls [])) : Met l y (ecWs y b maxL ret) (ecRm d mc ms) (ecPc av G Pre) Qc mc ms free := by
  refine Met.ofW (cc := b) (maxL := maxL) (ret := ret) hy rfl ?_
  intro p e s m args below meth c s₁ B hml hv
  obtain ⟨rfl, hOk, hP⟩ := hv
  have hts := atoms_spec (ws := ecWs y b maxL ret) B.pre
  have hl := lv_entry av (n := maxL) hlen
  rw [lg_entry_eq]
  exact body p e s m below meth c ⟨B.exec, B.bytes, hml, findClass_of_methodNamed B.named, fun w hw => hts w (List.mem_cons_of_mem _ hw)⟩ B.returns B.notSynchronized (name_of_methodNamed B.named B.method).1 hOk hP _ hl
/-- the start of a method that may throw -/
theorem ec_xmet (hy : plainName y.cls = true) (hlen : (lg_sl av).length ≤ maxL)
    (body : ∀ (p : Program) (e : Env) (s : State) (m : MethodId) (below : List Frame) (meth : Method) (c : Code), CallFix p m c b maxL s av.toArray GW y.cls → meth.sig.returnType = ret → meth.locks = false → (∀ x ∈ c.exceptionTable.toList, False) → ecOk G s s.heap → Pre s.heap → ∀ ls, lv_has ls maxL (lv_args 0 av) →
      W p l e (ecRm d mc ms) s m av.toArray below meth c s.heap [] 0 0 (vx_MQ below Qc XC av.toArray s mc ms free) (F0 m 0 ls [])) : vx_Met l y (ecWs y b maxL ret) (ecRm d mc ms) (ecPc av G Pre) Qc XC mc ms free := by
  refine vx_ofW (cc := b) (maxL := maxL) (ret := ret) hy rfl ?_
  intro p e s m args below meth c s₁ B hml hnx hv
  obtain ⟨rfl, hOk, hP⟩ := hv
  have hts := atoms_spec (ws := ecWs y b maxL ret) B.pre
  have hl := lv_entry av (n := maxL) hlen
  rw [lg_entry_eq]
  exact body p e s m below meth c ⟨B.exec, B.bytes, hml, findClass_of_methodNamed B.named, fun w hw => hts w (List.mem_cons_of_mem _ hw)⟩ B.returns B.notSynchronized hnx hOk hP _ hl
/-- the words of 'throw new E(text)' in the class -/
def ecX (cls : String) (ik ic : Nat) : Prop := Bundle.fit cls = true ∧ Cond.classLink RX5 ik cls ∈ GW ∧ Cond.initialized cls ∈ GW ∧ (∀ w ∈ vx_atS RX5 ic cls ["java/lang/RuntimeException", "java/lang/Exception"], w ∈ GW ∨ w = .castable cls cls ∨ w ∈ ecDw) ∧ (cls, cls) ∈ ecCa
theorem ec_throw {cls text : String} {ik is ic : Nat} (hC : CallFix p m c cc nL s args GW RX5) (hl : l.stackTraces = false) (x : ecX cls ik ic) (hOk : ecOk G s s.heap) (hAN : ∀ q, A q → ecN0 G ≤ q) (hS : va_S A s.heap H locs) (hk : ecKp s.heap H) (hstr : (is, text) ∈ ecStr) (hls : ls.size = nL) (hnx : ∀ x ∈ c.exceptionTable.toList, False) (hlocks : meth.locks = false)
    (d0 : decode cc pc = .ok (.new ik, 3)) (d3 : decode cc (pc + 3) = .ok (.dup, 1)) (d4 : decode cc (pc + 4) = .ok (.ldc is, 2)) (d6 : decode cc (pc + 6) = .ok (.invokespecial ic, 3)) (d9 : decode cc (pc + 9) = .ok (.athrow, 1))
    (hX : X cls) (hR : 5 < R.frames ∧ (rest.map fun v => v.category).sum + 82 ≤ R.locals ∧ cells + 1 ≤ R.cells ∧ slots + 6 ≤ R.slots) (hc : cells + 1 ≤ mc) (hs : slots + 6 ≤ ms) :
    W p l e R s m args below meth c H locs cells slots (vx_MQ below Qc (ecXc X) args s mc ms A) (F0 m pc ls rest) := by
  obtain ⟨x1, x2, x3, x4, x5⟩ := x
  obtain ⟨sa, hsa⟩ := hOk.1.2.1 _ hstr
  have hts := hC.2.2.2.2
  refine vx_throwS (own := RX5) (names := ["java/lang/RuntimeException", "java/lang/Exception"]) (A := A) hC.1 hC.2.1 hl hC.2.2.2.1 x1 (by decide) (hts _ x2) (hts _ x3) hsa (fun w hw => (x4 w hw).elim (hts w) (fun e => e.elim (fun e => by rw [e]; exact hOk.1.ca x5) (fun e => hOk.1.dw e))) (fun w hw => ?_) (hOk.2.2.1.narrow hAN) (hOk.2.2.2.1.narrow hAN) hS (by rw [hls, hC.2.2.1]) d0 d3 d4 d6 d9 (fun x hx => (hnx x hx).elim) hR.1 hR.2.1 hR.2.2.1 hR.2.2.2 hlocks (fun t _ h1 h2 => ⟨hX, hk.tr ⟨h1, h2⟩⟩) hS.2.2 hc hs
  have hg : w ∈ GW ∨ w = .castable cls cls ∨ w ∈ ecDw := by
    rcases List.mem_cons.mp hw with rfl | hw
    · exact Or.inl x2
    rcases List.mem_cons.mp hw with rfl | hw
    · exact Or.inl x3
    exact x4 w hw
  rcases hg with hg | rfl | hg
  · unfold vx_ot
    rw [gw_good hg, Bool.or_true]
  · rfl
  · simp only [ecDw, List.mem_cons, List.not_mem_nil, or_false] at hg
    rcases hg with rfl | rfl | rfl <;> rfl
theorem ec_throwW {cls text : String} {ik is ic : Nat} (hC : CallFix p m c cc nL s args GW RX5) (hl : l.stackTraces = false) (x : ecX cls ik ic) (hOk : ecOk G s s.heap) (hAN : ∀ q, A q → ecN0 G ≤ q) (hS : va_S A s.heap H locs) (hk : ecKp s.heap H) (hstr : (is, text) ∈ ecStr) (hls : ls.size = nL) (hnx : ∀ x ∈ c.exceptionTable.toList, False) (hlocks : meth.locks = false)
    (d0 : decode cc pc = .ok (.new ik, 3)) (d3 : decode cc (pc + 3) = .ok (.dup, 1)) (d4 : decode cc (pc + 4) = .ok (.ldc_w is, 3)) (d7 : decode cc (pc + 7) = .ok (.invokespecial ic, 3)) (d10 : decode cc (pc + 10) = .ok (.athrow, 1))
    (hX : X cls) (hR : 5 < R.frames ∧ (rest.map fun v => v.category).sum + 82 ≤ R.locals ∧ cells + 1 ≤ R.cells ∧ slots + 6 ≤ R.slots) (hc : cells + 1 ≤ mc) (hs : slots + 6 ≤ ms) :
    W p l e R s m args below meth c H locs cells slots (vx_MQ below Qc (ecXc X) args s mc ms A) (F0 m pc ls rest) := by
  obtain ⟨x1, x2, x3, x4, x5⟩ := x
  obtain ⟨sa, hsa⟩ := hOk.1.2.1 _ hstr
  have hts := hC.2.2.2.2
  refine vx_throwSW (own := RX5) (names := ["java/lang/RuntimeException", "java/lang/Exception"]) (A := A) hC.1 hC.2.1 hl hC.2.2.2.1 x1 (by decide) (hts _ x2) (hts _ x3) hsa (fun w hw => (x4 w hw).elim (hts w) (fun e => e.elim (fun e => by rw [e]; exact hOk.1.ca x5) (fun e => hOk.1.dw e))) (fun w hw => ?_) (hOk.2.2.1.narrow hAN) (hOk.2.2.2.1.narrow hAN) hS (by rw [hls, hC.2.2.1]) d0 d3 d4 d7 d10 (fun x hx => (hnx x hx).elim) hR.1 hR.2.1 hR.2.2.1 hR.2.2.2 hlocks (fun t _ h1 h2 => ⟨hX, hk.tr ⟨h1, h2⟩⟩) hS.2.2 hc hs
  have hg : w ∈ GW ∨ w = .castable cls cls ∨ w ∈ ecDw := by
    rcases List.mem_cons.mp hw with rfl | hw
    · exact Or.inl x2
    rcases List.mem_cons.mp hw with rfl | hw
    · exact Or.inl x3
    exact x4 w hw
  rcases hg with hg | rfl | hg
  · unfold vx_ot
    rw [gw_good hg, Bool.or_true]
  · rfl
  · simp only [ecDw, List.mem_cons, List.not_mem_nil, or_false] at hg
    rcases hg with rfl | rfl | rfl <;> rfl
/-- an object's class is looked at -/
theorem ec_cast (hC : CallFix p m c cc nL s args GW own) (hK : ecKx G s) {ci : Nat} {fs : List Value} (ha : ecA G a (eO ci fs) H) {C : String} (hc : ∃ T N, ecCl[ci]? = some (C, T, N)) (hw : Cond.classLink own index C ∈ GW) (hdg : decode cc pc = .ok (.checkcast index, 3))
    (kk : W p l e R s m args below meth c H locs cells slots Q (F0 m (pc + 3) ls (.ref a :: rest))) : W p l e R s m args below meth c H locs cells slots Q (F0 m pc ls (.ref a :: rest)) := by
  obtain ⟨T, N, hc⟩ := hc
  exact va_castS hC.1 hC.2.1 hC.2.2.2.1 (hC.2.2.2.2 _ hw) (hK.1.1 ci _ hc).2 (va_recv (q0 := 0) hK.1 (ec_one ha) hc rfl) hdg kk
end ECM
end
section
/-! 'throw new E(text)' where E's own constructor links the next one by an entry other than 7 (java.util.NoSuchElementException: 13). The walk follows the library's proofs for the entry 7 (ctorThrowS) and the kit's vx_throwS. -/
/-- the words of the throw: the first link of the chain by the entry i1, its body b1 -/
def ec_at (own : String) (ic i1 : Nat) (b1 : ByteArray) (cls sup : String) (names : List String) : List Cond :=
  Bundle.throwableAtoms ++ Bundle.throwableSAtoms ++ (Bundle.passSAtoms cls sup i1 b1 ++ Bundle.chainSAtoms sup names) ++
  [.methodLink own ic (Bundle.initS cls), .instantiable cls 6, .castable cls cls, .selects cls Bundle.tFill0 Bundle.tFill0, .selects cls Bundle.tFill Bundle.tFill,
   .lays cls Bundle.tN "cause" "Ljava/lang/Throwable;", .lays cls Bundle.tN "stackTrace" Bundle.steD, .lays cls Bundle.tN "suppressedExceptions" Bundle.listD, .lays cls Bundle.tN "detailMessage" "Ljava/lang/String;",
   .isRef (.static Bundle.tN "UNASSIGNED_STACK" Bundle.steD), .isRef (.static Bundle.tN "SUPPRESSED_SENTINEL" Bundle.listD),
   .fieldLink Bundle.tN 198 Bundle.tN "backtrace" "Ljava/lang/Object;", .lays Bundle.tN Bundle.tN "backtrace" "Ljava/lang/Object;", .lays cls Bundle.tN "backtrace" "Ljava/lang/Object;"]
section ECT
variable {p : Program} {l : Launch} {e : Env} {R : Room} {s : State} {m : MethodId} {args : Array Value} {below : List Frame} {meth : Method} {c : Code} {T9 : State} {locs : List Loc} {cells slots : Nat}
set_option maxHeartbeats 4000000 in
theorem ec_ctorT (X : Stand p l e R s m args below meth c T9 locs cells slots) (hexec : p.tables.exec = Jvm.exec) (htr : e.platform.stackTraces = false) {own cls sup : String} {names : List String} {ic i1 : Nat} {b1 : ByteArray}
    (hown : s.vm.findClass own = some m.cls) (hcls : Bundle.fit cls = true) (hsup : Bundle.fit sup = true) (hnames : ∀ n ∈ names, Bundle.fit n = true)
    (k0 : decode b1 0 = .ok (.aload_n 0, 1)) (k1 : decode b1 1 = .ok (.aload_n 1, 1)) (k2 : decode b1 2 = .ok (.invokespecial i1, 3)) (k5 : decode b1 5 = .ok (.return_, 1))
    (h : ∀ a ∈ ec_at own ic i1 b1 cls sup names, a.before args s = true)
    (hlocs : ∀ x ∈ locs, ∀ cell, s.heap[x.base]? = some cell → cell.vm.isStatics = false)
    {a : Addr} {cX : ClassId} {kX : Class} (hfoundX : s.vm.findClass cls = some cX) (hkX : s.vm.classes[cX]? = some kX) (hcell : T9.heap[a]? = some (freshCell cX kX)) (hnew : s.heap.size ≤ a)
    {msg : Value} (hmsg : msg.isRef = true)
    {g : JFrame} (hg : g.method = m) (hsize : g.locals.size = c.maxLocals) (hlocked : g.locked = none) (hentered : g.entered = []) {rest : List Value} (hstack : g.stack = msg :: .ref a :: .ref a :: rest)
    (hd6 : decode c.code g.pc = .ok (.invokespecial ic, 3)) (hd9 : decode c.code (g.pc + 3) = .ok (.athrow, 1)) (hout : ∀ x ∈ c.exceptionTable.toList, covers x (g.pc + 3) = false)
    (hRframes : names.length + 4 < R.frames) (hRlocals : 2 * g.monitorRoom + ((Value.ref a :: rest).map fun v => v.category).sum + (13 * (names.length + 2) + 42) ≤ R.locals) (hlocks : meth.locks = false) :
    ∃ U : State, Steps p.tables e below (T9.setTop g) U ∧ U.status = .running ∧ Ended U below (.threw a) ∧ s.WarmedH U.vm ∧ s.sameButNew ({ U with vm := s.vm } : State) locs cells slots ∧
      ∃ ce : Cell, U.heap[a]? = some ce ∧ s.vm.findClass cls = some ce.cls ∧ ce.vm = .none := by
  have howns : e.platform.frameOwnsMonitors = true := by rw [X.admits.platform]
  have hfin : e.platform.finalization = false := by rw [X.admits.platform]
  have hpl : e.platform.magicAccessors = ({} : Platform).magicAccessors := by rw [X.admits.platform]
  have a' : ∀ x, x ∈ ec_at own ic i1 b1 cls sup names → x.holds args s none s [] = true := fun x hx => h x hx
  obtain ⟨T, Z0, L, -, Y⟩ := ThrowableC.of_atoms (args := args) howns hfin hpl (fun x hx => h x (by simp [ec_at, hx]))
  obtain ⟨Z, M, LZ, LM, hnZ⟩ := Init0T.ofS_atoms (args := args) hpl L Y (fun x hx => h x (by simp [ec_at, hx]))
  obtain ⟨P2, Ps, hlen, L2, hL, hP2m, hlink2, hlink⟩ := Bundle.chainS (args := args) hpl hnZ names sup hsup hnames (fun x hx => h x (by simp [ec_at, hx]))
  obtain ⟨P1, L1, hP1m, hP1s⟩ := PassC.ofS_atoms (args := args) (s := s) hpl (X := cls) (Y := sup) (Bundle.fit_spec hcls).1 (Bundle.fit_spec hsup).2 k0 k1 k2 k5 (fun x hx => h x (by simp [ec_at, hx]))
  have hlink1 : P1.sup = P2.m := Option.some.inj (hP1s.symm.trans hP2m)
  have hfound : s.vm.findClass cls = some P1.m.cls := findClass_of_methodNamed hP1m
  cases Option.some.inj (hfoundX.symm.trans hfound)
  obtain ⟨c1, kX', hc1, hk, hord, -, -, hn6⟩ := Cond.instantiable_spec (a' (.instantiable cls 6) (by simp [ec_at]))
  cases Option.some.inj (hc1.symm.trans hfound)
  cases Option.some.inj (hkX.symm.trans hk)
  have hsel0 : selectMethod e.platform s.vm P1.m.cls T.fill0 = .method T.fill0 := by
    obtain ⟨c2, r2, m2, q1, q2, q3, q4, -⟩ := Cond.selects_spec (a' (.selects cls Bundle.tFill0 Bundle.tFill0) (by simp [ec_at]))
    cases Option.some.inj (q1.symm.trans hfound)
    cases Option.some.inj (q2.symm.trans (State.methodFound?_of_named Y.fill0 (by decide)))
    cases Option.some.inj (q3.symm.trans Y.fill0)
    rw [Launch.admits_selectMethod X.admits]; exact q4
  have hselF : selectMethod e.platform s.vm P1.m.cls T.fill = .method T.fill := by
    obtain ⟨c2, r2, m2, q1, q2, q3, q4, -⟩ := Cond.selects_spec (a' (.selects cls Bundle.tFill Bundle.tFill) (by simp [ec_at]))
    cases Option.some.inj (q1.symm.trans hfound)
    cases Option.some.inj (q2.symm.trans (State.methodFound?_of_named Y.fill (by decide)))
    cases Option.some.inj (q3.symm.trans Y.fill)
    rw [Launch.admits_selectMethod X.admits]; exact q4
  obtain ⟨cellS0, hcS0, hiss⟩ := Y.statics
  obtain ⟨u0, hu0⟩ := Cond.staticRefV Y.unassigned L.unassignedStatic L.statics hcS0 hiss (a' (.isRef (.static Bundle.tN "UNASSIGNED_STACK" Bundle.steD)) (by simp [ec_at]))
  obtain ⟨sen, hsen⟩ := Cond.staticRefV Y.sentinel L.sentinelStatic L.statics hcS0 hiss (a' (.isRef (.static Bundle.tN "SUPPRESSED_SENTINEL" Bundle.listD)) (by simp [ec_at]))
  obtain ⟨ci198, i198, fB, hk198, hg198, ha198, hsB, -, hnB, htB, hffB⟩ := Cond.ownField (t := .object "java/lang/Object") Y.found L.cls (by decide +kernel) (a' (.fieldLink Bundle.tN 198 Bundle.tN "backtrace" "Ljava/lang/Object;") (by simp [ec_at])) (a' (.lays Bundle.tN Bundle.tN "backtrace" "Ljava/lang/Object;") (by simp [ec_at])) e.platform hpl
  obtain ⟨cellS, hcS', heS, -, hkeep⟩ := X.same.2.2.2.2.2 T.aS cellS0 hcS0
  have hcellS : T9.heap[T.aS]? = some cellS := hcS'
  have hout' : ∀ i, (⟨T.aS, i⟩ : Loc) ∉ locs := fun i hmem => by
    have := hlocs _ hmem cellS0 hcS0
    rw [hiss] at this; cases this
  have hknownS : cellS.vm ≠ .unknown := by
    rw [heS]; intro hu
    rw [show cellS0.vm = .unknown from hu] at hiss
    cases hiss
  have hneS : T.aS ≠ a := Nat.ne_of_lt (Nat.lt_of_lt_of_le (Array.getElem?_eq_some_iff.mp hcS0).1 hnew)
  obtain ⟨iM, hffM⟩ := Y.msg
  obtain ⟨tyC, dC, hdC, hdnC⟩ := Cond.laysAt hfound hk Y.cause (a' (.lays cls Bundle.tN "cause" "Ljava/lang/Throwable;") (by simp [ec_at]))
  obtain ⟨tyS, dS, hdS, hdnS⟩ := Cond.laysAt hfound hk Y.stack (a' (.lays cls Bundle.tN "stackTrace" Bundle.steD) (by simp [ec_at]))
  obtain ⟨tyP, dP, hdP, hdnP⟩ := Cond.laysAt hfound hk Y.supp (a' (.lays cls Bundle.tN "suppressedExceptions" Bundle.listD) (by simp [ec_at]))
  obtain ⟨tyM, dM, hdM, hdnM⟩ := Cond.laysAt hfound hk hffM (a' (.lays cls Bundle.tN "detailMessage" "Ljava/lang/String;") (by simp [ec_at]))
  obtain ⟨tyB, dB, hdB, hdnB⟩ := Cond.laysAt hfound hk hffB (a' (.lays cls Bundle.tN "backtrace" "Ljava/lang/Object;") (by simp [ec_at]))
  have bC := Cond.laysApart hdB hdC hdnB hdnC (by rw [hnB, Y.causeName]; decide)
  have bS := Cond.laysApart hdB hdS hdnB hdnS (by rw [hnB, Y.stackName]; decide)
  have bP := Cond.laysApart hdB hdP hdnB hdnP (by rw [hnB, Y.suppName]; decide)
  have hskip : SkipFacts T e.platform s (fun u => u) u0 ((preparedCellV T.toThrowableT (freshCell P1.m.cls kX) a u0 sen).withEntry T9.cur) :=
    ⟨{ ci198 := ci198, i198 := i198, fBack := fB }, ⟨hk198, hg198, ha198, hsB⟩, by
      have := fresh_default (c := P1.m.cls) tyB
      rw [htB] at this
      simpa [preparedCellV, Cell.setSlot, Cell.withEntry, Array.getElem?_setIfInBounds, bC, bS, bP, bC.symm, bS.symm, bP.symm, defaultValue] using this, fun _ _ => rfl⟩
  obtain ⟨tm, methC, cdC, kC, vm₁, hnC, -, -, -, -, -, -, -, hW₁, st1⟩ := Steps.initColdS (tb := p.tables) (e := e) (below := below) (s := s) (U := T9) X.here hexec X.warmed hpl hown (t := Bundle.initS cls) rfl rfl (Bundle.fit_spec hcls).2
    (a' (.methodLink own ic (Bundle.initS cls)) (by simp [ec_at])) (h (.instanceMethod (Bundle.initS cls)) (by simp [ec_at, Bundle.passSAtoms])) (bytes := b1) (maxL := 2) (h (.code (Bundle.initS cls) b1 2 none) (by simp [ec_at, Bundle.passSAtoms]))
    (f := g) hg (a := a) (msg := msg) (rest := .ref a :: rest) hstack hd6
  cases Option.some.inj (hnC.symm.trans hP1m)
  have X₁ := X.noted hW₁
  obtain ⟨vm₂, X₂, st2⟩ := X₁.ctorMessageOffV hexec (g := { g with stack := .ref a :: rest }) hg hsize T L Z LZ M LM (P1 :: P2 :: Ps)
    (fun P hP => by rcases List.mem_cons.mp hP with rfl | hP; exact L1; rcases List.mem_cons.mp hP with rfl | hP; exact L2; exact hL P hP) ⟨hlink1, hlink2, hlink⟩ (u0 := u0) (sen := sen) (self := a) hmsg (cell := freshCell P1.m.cls kX) (cellS := cellS)
    hcell (fun _ => by simp) (by simp) rfl rfl hsel0 hselF hcellS hneS hknownS (by rw [hkeep _ (hout' _)]; exact hu0) (by rw [hkeep _ (hout' _)]; exact hsen)
    (Takes.of_laid hk hord tyC (by rw [Y.causeType]; rfl)) (Takes.of_laid hk hord tyS (by rw [Y.stackType]; exact fits_refV_array _ u0)) (Takes.of_laid hk hord tyP (by rw [Y.suppType]; exact fits_refV_object _ sen))
    (Takes.of_laid hk hord tyM (by rw [Y.msgType]; exact fits_refV_object _ ⟨msg, hmsg⟩)) Y.objLocals hskip htr [] hd6
    (by simp only [List.length_cons, hlen]; omega) (by simp only [List.length_cons, hlen]; exact hRlocals)
  obtain ⟨hwalk, hrun, hended, hWU, hsame⟩ := X₂.athrowLeaves hexec (g := { g with stack := .ref a :: rest, pc := g.pc + 3 }) hg hlocked hentered hout (a := a) (rest := rest) rfl hd9
  have hlt : a < ((T9.setVm vm₁).setVm vm₂).heap.size := (Array.getElem?_eq_some_iff.mp hcell).1
  have hU := heapAt_setCell_self (s := (T9.setVm vm₁).setVm vm₂) (plainBareV T.toThrowableT (freshCell P1.m.cls kX) a u0 sen msg) hlt
  refine ⟨_, st1 _ (fun acts => ?_), hrun, hended, hWU, hsame.weaken (fun y hy hlt' => ?_) (Nat.le_refl _) (Nat.le_refl _), _, hU, hfound, rfl⟩
  · rw [doInvoke_state]
    exact st2 _ hwalk
  · rcases List.mem_append.mp hy with h1 | h1
    · exact h1
    · exfalso
      have hb : y.base = a := by
        simp only [List.mem_cons, List.not_mem_nil, or_false] at h1
        rcases h1 with rfl | rfl | rfl | rfl | rfl <;> rfl
      rw [hb] at hlt'
      exact Nat.not_lt.mpr hnew hlt'
end ECT
end
section
abbrev ec_b13 : ByteArray := ⟨#[0x2a, 0x2b, 0xb7, 0x00, 0x0d, 0xb1]⟩
abbrev ecNse : String := "java/util/NoSuchElementException"
/-- the words of 'throw new NoSuchElementException(text)' in the class, but the four that speak of the heap -/
def ec_atN (ic : Nat) : List Cond := (ec_at RX5 ic 13 ec_b13 ecNse "java/lang/RuntimeException" ["java/lang/Exception"]).filter vx_no
def ecXN (ik ic : Nat) : Prop := Cond.classLink RX5 ik ecNse ∈ GW ∧ Cond.initialized ecNse ∈ GW ∧ (∀ w ∈ ec_atN ic, w ∈ GW ∨ w = .castable ecNse ecNse ∨ w ∈ ecDw)
section ECN
variable {p : Program} {l : Launch} {e : Env} {R : Room} {s : State} {m : MethodId} {args : Array Value} {below : List Frame} {meth : Method} {c : Code} {H : Heap} {locs : List Loc} {cells slots : Nat}
variable {cc : ByteArray} {pc nL mc ms : Nat} {ls : Array Slot} {rest : List Value} {G : ecG} {A : Nat → Prop} {Qc : Array Value → State → Outcome → State → Prop} {X : String → Prop}
theorem ec_throwN {text : String} {ik is ic : Nat} (hC : CallFix p m c cc nL s args GW RX5) (hl : l.stackTraces = false) (x : ecXN ik ic) (hOk : ecOk G s s.heap) (hAN : ∀ q, A q → ecN0 G ≤ q) (hS : va_S A s.heap H locs) (hk : ecKp s.heap H) (hstr0 : (is, text) ∈ ecStr) (hls : ls.size = nL) (hnx : ∀ x ∈ c.exceptionTable.toList, False) (hlocks : meth.locks = false)
    (d0 : decode cc pc = .ok (.new ik, 3)) (d3 : decode cc (pc + 3) = .ok (.dup, 1)) (d4 : decode cc (pc + 4) = .ok (.ldc is, 2)) (d6 : decode cc (pc + 6) = .ok (.invokespecial ic, 3)) (d9 : decode cc (pc + 9) = .ok (.athrow, 1))
    (hX : X ecNse) (hR : 5 < R.frames ∧ (rest.map fun v => v.category).sum + 82 ≤ R.locals ∧ cells + 1 ≤ R.cells ∧ slots + 6 ≤ R.slots) (hc : cells + 1 ≤ mc) (hs : slots + 6 ≤ ms) :
    W p l e R s m args below meth c H locs cells slots (vx_MQ below Qc (ecXc X) args s mc ms A) (F0 m pc ls rest) := by
  obtain ⟨x2, x3, x4⟩ := x
  obtain ⟨sa, hsa⟩ := hOk.1.2.1 _ hstr0
  have hts := hC.2.2.2.2
  have hexec := hC.1
  have hb := hC.2.1
  have hat : ∀ w ∈ ec_atN ic, w.before args s = true := fun w hw => (x4 w hw).elim (hts w) (fun e => e.elim (fun e => by rw [e]; exact hOk.1.ca (by decide)) (fun e => hOk.1.dw e))
  have hgood : ∀ w ∈ ec_atN ic, vx_ot w = true := by
    intro w hw
    rcases x4 w hw with hg | rfl | hg
    · unfold vx_ot
      rw [gw_good hg, Bool.or_true]
    · rfl
    · simp only [ecDw, List.mem_cons, List.not_mem_nil, or_false] at hg
      rcases hg with rfl | rfl | rfl <;> rfl
  have hgw : ∀ w : Cond, w ∈ GW → vx_ot w = true := fun w hg => by unfold vx_ot; rw [gw_good hg, Bool.or_true]
  intro T hT X9
  have htr : e.platform.stackTraces = false := (show e.platform.stackTraces = l.stackTraces by rw [X9.admits.platform]).trans hl
  have Y := vx_rebase X9 (R' := { frames := R.frames, locals := R.locals, cells := 1, slots := 6 }) (Nat.le_refl _) (Nat.le_refl _) hR.2.2.1 hR.2.2.2
  obtain ⟨s', hA⟩ : ∃ z, z = (T.setVm s.vm).setFrames (.invoking m args :: below) := ⟨_, rfl⟩
  rw [← hA] at Y
  have hvm : s'.vm = s.vm := by rw [hA]; rfl
  have hhp : s'.heap = H := by rw [hA]; exact hT
  have hW0 : s.WarmedH s'.vm := by rw [hvm]; exact State.WarmedH.refl s
  have hat' : ∀ w ∈ ec_atN ic, w.before args s' = true := fun w hw => vx_ot_at hW0 hvm.symm (hgood w hw) (hat w hw)
  have hk' : (Cond.classLink RX5 ik ecNse).before args s' = true := vx_ot_at hW0 hvm.symm (hgw _ x2) (hts _ x2)
  have hini' : (Cond.initialized ecNse).before args s' = true := vx_ot_at hW0 hvm.symm (hgw _ x3) (hts _ x3)
  have hU' : vx_Zq Bundle.tN "UNASSIGNED_STACK" Bundle.steD A s' s'.heap := by rw [hhp]; exact vx_Zq.moved hW0.alike ((hOk.2.2.1.narrow hAN).kept hS.2.1)
  have hN' : vx_Zq Bundle.tN "SUPPRESSED_SENTINEL" Bundle.listD A s' s'.heap := by rw [hhp]; exact vx_Zq.moved hW0.alike ((hOk.2.2.2.1.narrow hAN).kept hS.2.1)
  have h : ∀ w ∈ ec_at RX5 ic 13 ec_b13 ecNse "java/lang/RuntimeException" ["java/lang/Exception"], w.before args s' = true := by
    intro w hw
    by_cases hn : vx_no w = true
    · exact hat' w (List.mem_filter.mpr ⟨hw, hn⟩)
    · unfold vx_no at hn
      simp only [Bool.and_eq_true, decide_eq_true_eq, not_and, Classical.not_not] at hn
      by_cases n1 : w = .isRef (.static Bundle.tN "UNASSIGNED_STACK" Bundle.steD)
      · rw [n1]; exact vx_isRefq hU'.1
      by_cases n2 : w = .isRef (.static Bundle.tN "SUPPRESSED_SENTINEL" Bundle.listD)
      · rw [n2]; exact vx_isRefq hN'.1
      by_cases n3 : w = .laysStatic Bundle.tN "UNASSIGNED_STACK" Bundle.steD
      · rw [n3]; exact hU'.2.word
      by_cases n4 : w = .laysStatic Bundle.tN "SUPPRESSED_SENTINEL" Bundle.listD
      · rw [n4]; exact hN'.2.word
      exact absurd (hn ⟨⟨n1, n2⟩, n3⟩) n4
  have hown' : s'.vm.findClass RX5 = some m.cls := by rw [hvm]; exact hC.2.2.2.1
  have hins : (Cond.instantiable ecNse 6).before args s' = true := h _ (by simp [ec_at])
  obtain ⟨vm₁, cX, kX, hfX, hkX, -, -, X₁, st1⟩ := Y.newCold hexec (own := RX5) (C := ecNse) (index := ik) (n := 6) hown' hk' hins hini'
    (g := F0 m pc ls rest) rfl (by rw [hb]; exact d0) (Nat.le_refl _) (Nat.le_refl _)
  generalize hT1 : (T.setVm vm₁).pushCell { cls := cX, slots := kX.instanceTypes.map defaultValue, vm := .none } = T1 at X₁ st1
  have hcat : (Value.ref T.heap.size).category = 1 := rfl
  have hcellA : T1.heap[T.heap.size]? = some (freshCell cX kX) := by rw [← hT1]; exact State.heap_pushCell_size _ _
  have d3' : decode c.code (pc + 3) = .ok (.dup, 1) := by rw [hb]; exact d3
  have d4' : decode c.code (pc + 4) = .ok (.ldc is, 2) := by rw [hb]; exact d4
  have hstr' : vk_R RX5 is text sa s' := vk_R.warm hW0 hsa
  obtain ⟨U, hsteps, hrun, hend, hW, hsame, ce, hce, hcl9, hvm9⟩ := ec_ctorT X₁ hexec htr (own := RX5) (cls := ecNse) (sup := "java/lang/RuntimeException") (names := ["java/lang/Exception"]) (ic := ic) (i1 := 13) (b1 := ec_b13) hown' (by decide) (by decide) (by decide) (by decide +kernel) (by decide +kernel) (by decide +kernel) (by decide +kernel) h (fun x hx => nomatch hx) hfX hkX hcellA (by rw [hhp, hT]; exact Nat.le_refl _) (msg := .ref sa) rfl
    (g := { method := m, pc := pc + 6, locals := ls, stack := .ref sa :: .ref T.heap.size :: .ref T.heap.size :: rest, locked := none }) rfl (by rw [hls, hC.2.2.1]) rfl rfl (rest := rest) rfl
    (by rw [hb]; exact d6) (by rw [hb]; exact d9) (fun x hx => (hnx x hx).elim) hR.1 (by simp only [List.map_cons, List.sum_cons, hcat, List.length_cons, List.length_nil]; have := hR.2.1; show 2 * 0 + _ + _ ≤ _; omega) hlocks
  obtain ⟨f1, f2⟩ := vx_frame hsame
  rw [hhp] at f1 f2
  have hWs : s.WarmedH U.vm := State.WarmedH.trans hW0 hW
  have hcl : s.vm.findClass ecNse = some ce.cls := by rw [← hvm]; exact hcl9
  have hall : s.sameButNew ({ U with vm := s.vm } : State) locs mc ms := by
    subst hA
    obtain ⟨e1, e2⟩ := hsame
    rw [State.setFrames_setFrames] at e1
    have h2 : (T.setVm s.vm).sameButNew ({ U with vm := s.vm } : State) [] (0 + 1) (0 + 6) := ⟨e1, e2⟩
    have h3 := X9.same.trans h2
    rw [List.append_nil] at h3
    exact h3.mono hc hs
  refine ⟨U, ?_, .threw T.heap.size, hrun, hend, Or.inr ⟨T.heap.size, rfl, ecNse, ce, locs, ⟨hX, hk.tr ⟨f1, fun q hq => f2 q hq (fun z hz => nomatch hz)⟩⟩, hce, hvm9, hcl, hWs, hall, hS.2.2⟩⟩
  refine st1 _ ?_
  show Steps p.tables e below (T1.setTop { method := m, pc := pc + 3, locals := ls, stack := .ref T.heap.size :: rest, locked := none }) _
  jvm_step X₁.here [X₁.here.top, hexec, d3', Value.category]
  exact X₁.ldcString hexec (own := RX5) (text := text) (index := is) (a := sa) hown' hstr'.1 hstr'.2
    (g := { method := m, pc := pc + 4, locals := ls, stack := .ref T.heap.size :: .ref T.heap.size :: rest, locked := none }) rfl d4' _ hsteps
end ECN
end
section
theorem q0 : Cond.initialized "EchoChamberLaw" ∈ GW := gw_of 27 (by decide +kernel) rfl
theorem q1 : Cond.initialized "EchoChamber" ∈ GW := gw_of 28 (by decide +kernel) rfl
theorem q2 : Cond.initialized "java/util/AbstractCollection" ∈ GW := gw_of 29 (by decide +kernel) rfl
theorem q3 : Cond.initialized "java/util/AbstractList" ∈ GW := gw_of 30 (by decide +kernel) rfl
theorem q4 : Cond.initialized "java/util/ArrayList" ∈ GW := gw_of 31 (by decide +kernel) rfl
theorem q5 : Cond.initialized "EchoChamberModel" ∈ GW := gw_of 32 (by decide +kernel) rfl
theorem q9 : Cond.initialized "java/lang/IllegalStateException" ∈ GW := gw_of 36 (by decide +kernel) rfl
theorem q10 : Cond.initialized "EchoChamber$Room" ∈ GW := gw_of 37 (by decide +kernel) rfl
theorem q11 : Cond.initialized "EchoChamber$State" ∈ GW := gw_of 38 (by decide +kernel) rfl
theorem q12 : Cond.initialized "jdk/internal/util/ArraysSupport" ∈ GW := gw_of 39 (by decide +kernel) rfl
theorem q13 : Cond.initialized "java/lang/Math" ∈ GW := gw_of 40 (by decide +kernel) rfl
theorem q14 : Cond.initialized "java/util/Arrays" ∈ GW := gw_of 41 (by decide +kernel) rfl
theorem q16 : Cond.initialized "java/lang/IndexOutOfBoundsException" ∈ GW := gw_of 43 (by decide +kernel) rfl
theorem q17 : Cond.initialized "java/util/Objects" ∈ GW := gw_of 44 (by decide +kernel) rfl
theorem q18 : Cond.initialized "jdk/internal/util/Preconditions" ∈ GW := gw_of 45 (by decide +kernel) rfl
theorem q19 : Cond.initialized "java/lang/IllegalArgumentException" ∈ GW := gw_of 46 (by decide +kernel) rfl
theorem q20 : Cond.initialized "EchoChamber$Answer" ∈ GW := gw_of 47 (by decide +kernel) rfl
theorem q21 : Cond.initialized "java/util/NoSuchElementException" ∈ GW := gw_of 48 (by decide +kernel) rfl
theorem q22 : Cond.initialized "EchoChamber$Filter" ∈ GW := gw_of 49 (by decide +kernel) rfl
theorem q23 : Cond.initialized "java/lang/UnsupportedOperationException" ∈ GW := gw_of 50 (by decide +kernel) rfl
theorem q24 : Cond.initialized "EchoChamber$Booking" ∈ GW := gw_of 51 (by decide +kernel) rfl
theorem q25 : Cond.classLink "EchoChamberLaw" 8 "EchoChamber" ∈ GW := gw_of 52 (by decide +kernel) rfl
theorem q26 : Cond.instantiable "EchoChamber" 6 ∈ GW := gw_of 53 (by decide +kernel) rfl
theorem q27 : Cond.methodLink "EchoChamberLaw" 112 yX5_init ∈ GW := gw_of 54 (by decide +kernel) rfl
theorem q28 : Cond.instanceMethod yX5_init ∈ GW := gw_of 55 (by decide +kernel) rfl
theorem q29 : Cond.code yX5_init prog_1_method_1_code 1 none ∈ GW := gw_of 56 (by decide +kernel) rfl
theorem q30 : Cond.methodLink "EchoChamber" 1 ⟨"java/lang/Object", "<init>", "()V"⟩ ∈ GW := gw_of 57 (by decide +kernel) rfl
theorem q31 : Cond.instanceMethod ⟨"java/lang/Object", "<init>", "()V"⟩ ∈ GW := gw_of 58 (by decide +kernel) rfl
theorem q33 : Cond.classLink "EchoChamber" 7 "java/util/ArrayList" ∈ GW := gw_of 60 (by decide +kernel) rfl
theorem q34 : Cond.instantiable "java/util/ArrayList" 3 ∈ GW := gw_of 61 (by decide +kernel) rfl
theorem q35 : Cond.methodLink "EchoChamber" 9 yJx4a65c_init_da8c8 ∈ GW := gw_of 62 (by decide +kernel) rfl
theorem q36 : Cond.instanceMethod yJx4a65c_init_da8c8 ∈ GW := gw_of 63 (by decide +kernel) rfl
theorem q37 : Cond.code yJx4a65c_init_da8c8 prog_24_method_2_code 1 none ∈ GW := gw_of 64 (by decide +kernel) rfl
theorem q38 : Cond.methodLink "java/util/ArrayList" 1 yJxc12de_init_da8c8 ∈ GW := gw_of 65 (by decide +kernel) rfl
theorem q39 : Cond.instanceMethod yJxc12de_init_da8c8 ∈ GW := gw_of 66 (by decide +kernel) rfl
theorem q40 : Cond.code yJxc12de_init_da8c8 prog_23_method_1_code 1 none ∈ GW := gw_of 67 (by decide +kernel) rfl
theorem q41 : Cond.methodLink "java/util/AbstractList" 1 yJxa1e45_init_da8c8 ∈ GW := gw_of 68 (by decide +kernel) rfl
theorem q42 : Cond.instanceMethod yJxa1e45_init_da8c8 ∈ GW := gw_of 69 (by decide +kernel) rfl
theorem q43 : Cond.code yJxa1e45_init_da8c8 prog_22_method_1_code 1 none ∈ GW := gw_of 70 (by decide +kernel) rfl
theorem q44 : Cond.methodLink "java/util/AbstractCollection" 1 ⟨"java/lang/Object", "<init>", "()V"⟩ ∈ GW := gw_of 71 (by decide +kernel) rfl
theorem q45 : Cond.fieldLink "java/util/ArrayList" 39 "java/util/ArrayList" "DEFAULTCAPACITY_EMPTY_ELEMENTDATA" "[Ljava/lang/Object;" ∈ GW := gw_of 72 (by decide +kernel) rfl
theorem q47 : Cond.fieldLink "java/util/ArrayList" 9 "java/util/ArrayList" "elementData" "[Ljava/lang/Object;" ∈ GW := gw_of 74 (by decide +kernel) rfl
theorem q48 : Cond.fieldLink "java/util/ArrayList" 48 "java/util/ArrayList" "size" "I" ∈ GW := gw_of 75 (by decide +kernel) rfl
theorem q49 : Cond.fieldLink "java/util/AbstractList" 7 "java/util/AbstractList" "modCount" "I" ∈ GW := gw_of 76 (by decide +kernel) rfl
theorem q50 : Cond.fieldLink "java/util/ArrayList" 63 "java/util/ArrayList" "modCount" "I" ∈ GW := gw_of 77 (by decide +kernel) rfl
theorem q51 : Cond.sameField "java/util/ArrayList" "java/util/AbstractList" "modCount" "I" ∈ GW := gw_of 78 (by decide +kernel) rfl
theorem q59 : Cond.fieldLink "EchoChamber" 10 "EchoChamber" "roomList" "Ljava/util/ArrayList;" ∈ GW := gw_of 86 (by decide +kernel) rfl
theorem q60 : Cond.fieldLink "EchoChamber" 16 "EchoChamber" "answerList" "Ljava/util/ArrayList;" ∈ GW := gw_of 87 (by decide +kernel) rfl
theorem q61 : Cond.fieldLink "EchoChamber" 19 "EchoChamber" "filterList" "Ljava/util/ArrayList;" ∈ GW := gw_of 88 (by decide +kernel) rfl
theorem q62 : Cond.fieldLink "EchoChamber" 22 "EchoChamber" "bookingList" "Ljava/util/ArrayList;" ∈ GW := gw_of 89 (by decide +kernel) rfl
theorem q63 : Cond.fieldLink "EchoChamber" 25 "EchoChamber" "presentHour" "I" ∈ GW := gw_of 90 (by decide +kernel) rfl
theorem q64 : Cond.fieldLink "EchoChamber" 29 "EchoChamber" "ageLimit" "I" ∈ GW := gw_of 91 (by decide +kernel) rfl
theorem q78 : Cond.methodLink "EchoChamberLaw" 160 yX5_answers ∈ GW := gw_of 105 (by decide +kernel) rfl
theorem q79 : Cond.instanceMethod yX5_answers ∈ GW := gw_of 106 (by decide +kernel) rfl
theorem q80 : Cond.selects "EchoChamber" yX5_answers yX5_answers ∈ GW := gw_of 107 (by decide +kernel) rfl
theorem q81 : Cond.code yX5_answers prog_1_method_13_code 1 (Option.some FieldType.int) ∈ GW := gw_of 108 (by decide +kernel) rfl
theorem q82 : Cond.methodLink "EchoChamber" 32 yJx4a65c_size_8abf5 ∈ GW := gw_of 109 (by decide +kernel) rfl
theorem q83 : Cond.instanceMethod yJx4a65c_size_8abf5 ∈ GW := gw_of 110 (by decide +kernel) rfl
theorem q84 : Cond.selects "java/util/ArrayList" yJx4a65c_size_8abf5 yJx4a65c_size_8abf5 ∈ GW := gw_of 111 (by decide +kernel) rfl
theorem q85 : Cond.code yJx4a65c_size_8abf5 prog_24_method_8_code 1 (Option.some FieldType.int) ∈ GW := gw_of 112 (by decide +kernel) rfl
theorem q86 : Cond.methodLink "EchoChamberLaw" 195 yX5_usable ∈ GW := gw_of 113 (by decide +kernel) rfl
theorem q87 : Cond.instanceMethod yX5_usable ∈ GW := gw_of 114 (by decide +kernel) rfl
theorem q88 : Cond.selects "EchoChamber" yX5_usable yX5_usable ∈ GW := gw_of 115 (by decide +kernel) rfl
theorem q89 : Cond.code yX5_usable prog_1_method_24_code 3 (Option.some FieldType.int) ∈ GW := gw_of 116 (by decide +kernel) rfl
theorem q90 : Cond.methodLink "EchoChamber" 131 yJx4a65c_get_915e3 ∈ GW := gw_of 117 (by decide +kernel) rfl
theorem q91 : Cond.instanceMethod yJx4a65c_get_915e3 ∈ GW := gw_of 118 (by decide +kernel) rfl
theorem q92 : Cond.selects "java/util/ArrayList" yJx4a65c_get_915e3 yJx4a65c_get_915e3 ∈ GW := gw_of 119 (by decide +kernel) rfl
theorem q93 : Cond.code yJx4a65c_get_915e3 prog_24_method_20_code 2 (Option.some (FieldType.object "java/lang/Object")) ∈ GW := gw_of 120 (by decide +kernel) rfl
theorem q94 : Cond.methodLink "java/util/ArrayList" 118 yJ15_checkIndex_7cf53 ∈ GW := gw_of 121 (by decide +kernel) rfl
theorem q95 : Cond.static yJ15_checkIndex_7cf53 ∈ GW := gw_of 122 (by decide +kernel) rfl
theorem q96 : Cond.code yJ15_checkIndex_7cf53 prog_29_method_17_code 2 (Option.some FieldType.int) ∈ GW := gw_of 123 (by decide +kernel) rfl
theorem q97 : Cond.methodLink "java/util/Objects" 105 yJ3_checkIndex_8e157 ∈ GW := gw_of 124 (by decide +kernel) rfl
theorem q98 : Cond.static yJ3_checkIndex_8e157 ∈ GW := gw_of 125 (by decide +kernel) rfl
theorem q99 : Cond.code yJ3_checkIndex_8e157 prog_33_method_11_code 3 (Option.some FieldType.int) ∈ GW := gw_of 126 (by decide +kernel) rfl
theorem q100 : Cond.methodLink "java/util/ArrayList" 123 yJx4a65c_elementData_915e3 ∈ GW := gw_of 127 (by decide +kernel) rfl
theorem q101 : Cond.instanceMethod yJx4a65c_elementData_915e3 ∈ GW := gw_of 128 (by decide +kernel) rfl
theorem q102 : Cond.selects "java/util/ArrayList" yJx4a65c_elementData_915e3 yJx4a65c_elementData_915e3 ∈ GW := gw_of 129 (by decide +kernel) rfl
theorem q103 : Cond.code yJx4a65c_elementData_915e3 prog_24_method_18_code 2 (Option.some (FieldType.object "java/lang/Object")) ∈ GW := gw_of 130 (by decide +kernel) rfl
theorem q104 : Cond.classLink "EchoChamber" 145 "EchoChamber$Filter" ∈ GW := gw_of 131 (by decide +kernel) rfl
theorem q105 : Cond.methodLink "EchoChamber" 164 yX5_firstBar ∈ GW := gw_of 132 (by decide +kernel) rfl
theorem q107 : Cond.instanceMethod yX5_firstBar ∈ GW := gw_of 134 (by decide +kernel) rfl
theorem q108 : Cond.code yX5_firstBar prog_1_method_40_code 3 (Option.some FieldType.char) ∈ GW := gw_of 135 (by decide +kernel) rfl
theorem q109 : Cond.methodLink "EchoChamber" 267 yX4_partsUnlike ∈ GW := gw_of 136 (by decide +kernel) rfl
theorem q110 : Cond.instanceMethod yX4_partsUnlike ∈ GW := gw_of 137 (by decide +kernel) rfl
theorem q111 : Cond.selects "EchoChamber$State" yX4_partsUnlike yX4_partsUnlike ∈ GW := gw_of 138 (by decide +kernel) rfl
theorem q112 : Cond.code yX4_partsUnlike prog_6_method_2_code 3 (Option.some FieldType.int) ∈ GW := gw_of 139 (by decide +kernel) rfl
theorem q113 : Cond.methodLink "EchoChamber" 122 yX5_newestAnswer ∈ GW := gw_of 140 (by decide +kernel) rfl
theorem q115 : Cond.instanceMethod yX5_newestAnswer ∈ GW := gw_of 142 (by decide +kernel) rfl
theorem q116 : Cond.code yX5_newestAnswer prog_1_method_38_code 6 (Option.some (FieldType.object "EchoChamber$Answer")) ∈ GW := gw_of 143 (by decide +kernel) rfl
theorem q117 : Cond.classLink "EchoChamber" 100 "EchoChamber$Answer" ∈ GW := gw_of 144 (by decide +kernel) rfl
theorem q118 : Cond.methodLink "EchoChamber" 262 yX0_isForState ∈ GW := gw_of 145 (by decide +kernel) rfl
theorem q119 : Cond.instanceMethod yX0_isForState ∈ GW := gw_of 146 (by decide +kernel) rfl
theorem q120 : Cond.selects "EchoChamber$Answer" yX0_isForState yX0_isForState ∈ GW := gw_of 147 (by decide +kernel) rfl
theorem q121 : Cond.code yX0_isForState prog_2_method_2_code 3 (Option.some FieldType.boolean) ∈ GW := gw_of 148 (by decide +kernel) rfl
theorem q122 : Cond.methodLink "EchoChamber$Answer" 42 yX4_partsUnlike ∈ GW := gw_of 149 (by decide +kernel) rfl
theorem q123 : Cond.methodLink "EchoChamber" 118 yX0_ageAt ∈ GW := gw_of 150 (by decide +kernel) rfl
theorem q124 : Cond.instanceMethod yX0_ageAt ∈ GW := gw_of 151 (by decide +kernel) rfl
theorem q125 : Cond.selects "EchoChamber$Answer" yX0_ageAt yX0_ageAt ∈ GW := gw_of 152 (by decide +kernel) rfl
theorem q126 : Cond.code yX0_ageAt prog_2_method_3_code 2 (Option.some FieldType.int) ∈ GW := gw_of 153 (by decide +kernel) rfl
theorem q127 : Cond.methodLink "EchoChamberLaw" 212 yX5_hour ∈ GW := gw_of 154 (by decide +kernel) rfl
theorem q128 : Cond.instanceMethod yX5_hour ∈ GW := gw_of 155 (by decide +kernel) rfl
theorem q129 : Cond.selects "EchoChamber" yX5_hour yX5_hour ∈ GW := gw_of 156 (by decide +kernel) rfl
theorem q130 : Cond.code yX5_hour prog_1_method_29_code 1 (Option.some FieldType.int) ∈ GW := gw_of 157 (by decide +kernel) rfl
theorem q131 : Cond.methodLink "EchoChamberLaw" 116 yL_addRoom ∈ GW := gw_of 158 (by decide +kernel) rfl
theorem q132 : Cond.static yL_addRoom ∈ GW := gw_of 159 (by decide +kernel) rfl
theorem q133 : Cond.codeWith yL_addRoom method_3_code 3 (Option.some FieldType.int) [(0, 8, 11, 13)] ∈ GW := gw_of 160 (by decide +kernel) rfl
theorem q134 : Cond.classLink "EchoChamberLaw" 13 "java/lang/IllegalStateException" ∈ GW := gw_of 161 (by decide +kernel) rfl
theorem q135 : Cond.methodLink "EchoChamberLaw" 7 yX5_addRoom ∈ GW := gw_of 162 (by decide +kernel) rfl
theorem q136 : Cond.instanceMethod yX5_addRoom ∈ GW := gw_of 163 (by decide +kernel) rfl
theorem q137 : Cond.selects "EchoChamber" yX5_addRoom yX5_addRoom ∈ GW := gw_of 164 (by decide +kernel) rfl
theorem q138 : Cond.code yX5_addRoom prog_1_method_2_code 2 (Option.some FieldType.int) ∈ GW := gw_of 165 (by decide +kernel) rfl
theorem q139 : Cond.classLink "EchoChamber" 36 "java/lang/IllegalStateException" ∈ GW := gw_of 166 (by decide +kernel) rfl
theorem q183 : Cond.methodLink "EchoChamber" 40 ⟨"java/lang/IllegalStateException", "<init>", "(Ljava/lang/String;)V"⟩ ∈ GW := gw_of 210 (by decide +kernel) rfl
theorem q184 : Cond.instanceMethod ⟨"java/lang/IllegalStateException", "<init>", "(Ljava/lang/String;)V"⟩ ∈ GW := gw_of 211 (by decide +kernel) rfl
theorem q208 : Cond.arrayClass FieldType.byte ∈ GW := gw_of 235 (by decide +kernel) rfl
theorem q209 : Cond.classLink "EchoChamber" 43 "EchoChamber$Room" ∈ GW := gw_of 236 (by decide +kernel) rfl
theorem q210 : Cond.instantiable "EchoChamber$Room" 2 ∈ GW := gw_of 237 (by decide +kernel) rfl
theorem q211 : Cond.classLink "EchoChamber" 45 "EchoChamber$State" ∈ GW := gw_of 238 (by decide +kernel) rfl
theorem q212 : Cond.instantiable "EchoChamber$State" 3 ∈ GW := gw_of 239 (by decide +kernel) rfl
theorem q213 : Cond.methodLink "EchoChamber" 47 yX4_init ∈ GW := gw_of 240 (by decide +kernel) rfl
theorem q214 : Cond.instanceMethod yX4_init ∈ GW := gw_of 241 (by decide +kernel) rfl
theorem q215 : Cond.code yX4_init prog_6_method_1_code 4 none ∈ GW := gw_of 242 (by decide +kernel) rfl
theorem q216 : Cond.methodLink "EchoChamber$State" 1 ⟨"java/lang/Object", "<init>", "()V"⟩ ∈ GW := gw_of 243 (by decide +kernel) rfl
theorem q217 : Cond.fieldLink "EchoChamber$State" 7 "EchoChamber$State" "curtainCount" "I" ∈ GW := gw_of 244 (by decide +kernel) rfl
theorem q218 : Cond.fieldLink "EchoChamber" 73 "EchoChamber$State" "curtainCount" "I" ∈ GW := gw_of 245 (by decide +kernel) rfl
theorem q219 : Cond.fieldLink "EchoChamber$State" 13 "EchoChamber$State" "seatCount" "I" ∈ GW := gw_of 246 (by decide +kernel) rfl
theorem q220 : Cond.fieldLink "EchoChamber" 76 "EchoChamber$State" "seatCount" "I" ∈ GW := gw_of 247 (by decide +kernel) rfl
theorem q221 : Cond.fieldLink "EchoChamber$State" 16 "EchoChamber$State" "hasOpenDoors" "Z" ∈ GW := gw_of 248 (by decide +kernel) rfl
theorem q222 : Cond.fieldLink "EchoChamber" 79 "EchoChamber$State" "hasOpenDoors" "Z" ∈ GW := gw_of 249 (by decide +kernel) rfl
theorem q230 : Cond.methodLink "EchoChamber" 50 yX3_init ∈ GW := gw_of 257 (by decide +kernel) rfl
theorem q231 : Cond.instanceMethod yX3_init ∈ GW := gw_of 258 (by decide +kernel) rfl
theorem q232 : Cond.code yX3_init prog_5_method_1_code 2 none ∈ GW := gw_of 259 (by decide +kernel) rfl
theorem q233 : Cond.methodLink "EchoChamber$Room" 1 ⟨"java/lang/Object", "<init>", "()V"⟩ ∈ GW := gw_of 260 (by decide +kernel) rfl
theorem q234 : Cond.fieldLink "EchoChamber$Room" 7 "EchoChamber$Room" "state" "LEchoChamber$State;" ∈ GW := gw_of 261 (by decide +kernel) rfl
theorem q235 : Cond.fieldLink "EchoChamber$Answer" 19 "EchoChamber$Room" "state" "LEchoChamber$State;" ∈ GW := gw_of 262 (by decide +kernel) rfl
theorem q236 : Cond.fieldLink "EchoChamber" 69 "EchoChamber$Room" "state" "LEchoChamber$State;" ∈ GW := gw_of 263 (by decide +kernel) rfl
theorem q237 : Cond.fieldLink "EchoChamber$Room" 13 "EchoChamber$Room" "changeCount" "I" ∈ GW := gw_of 264 (by decide +kernel) rfl
theorem q238 : Cond.fieldLink "EchoChamber$Answer" 36 "EchoChamber$Room" "changeCount" "I" ∈ GW := gw_of 265 (by decide +kernel) rfl
theorem q239 : Cond.fieldLink "EchoChamber" 83 "EchoChamber$Room" "changeCount" "I" ∈ GW := gw_of 266 (by decide +kernel) rfl
theorem q245 : Cond.methodLink "EchoChamber" 53 yJx4a65c_add_9ea2d ∈ GW := gw_of 272 (by decide +kernel) rfl
theorem q246 : Cond.instanceMethod yJx4a65c_add_9ea2d ∈ GW := gw_of 273 (by decide +kernel) rfl
theorem q247 : Cond.selects "java/util/ArrayList" yJx4a65c_add_9ea2d yJx4a65c_add_9ea2d ∈ GW := gw_of 274 (by decide +kernel) rfl
theorem q248 : Cond.code yJx4a65c_add_9ea2d prog_24_method_25_code 2 (Option.some FieldType.boolean) ∈ GW := gw_of 275 (by decide +kernel) rfl
theorem q249 : Cond.methodLink "java/util/ArrayList" 131 yJx4a65c_add_72be8 ∈ GW := gw_of 276 (by decide +kernel) rfl
theorem q251 : Cond.instanceMethod yJx4a65c_add_72be8 ∈ GW := gw_of 278 (by decide +kernel) rfl
theorem q252 : Cond.code yJx4a65c_add_72be8 prog_24_method_24_code 4 none ∈ GW := gw_of 279 (by decide +kernel) rfl
theorem q253 : Cond.methodLink "java/util/ArrayList" 129 yJx4a65c_grow_d5877 ∈ GW := gw_of 280 (by decide +kernel) rfl
theorem q255 : Cond.instanceMethod yJx4a65c_grow_d5877 ∈ GW := gw_of 282 (by decide +kernel) rfl
theorem q256 : Cond.code yJx4a65c_grow_d5877 prog_24_method_7_code 1 (Option.some (FieldType.array (FieldType.object "java/lang/Object"))) ∈ GW := gw_of 283 (by decide +kernel) rfl
theorem q257 : Cond.methodLink "java/util/ArrayList" 69 yJx4a65c_grow_92f84 ∈ GW := gw_of 284 (by decide +kernel) rfl
theorem q259 : Cond.instanceMethod yJx4a65c_grow_92f84 ∈ GW := gw_of 286 (by decide +kernel) rfl
theorem q260 : Cond.code yJx4a65c_grow_92f84 prog_24_method_6_code 4 (Option.some (FieldType.array (FieldType.object "java/lang/Object"))) ∈ GW := gw_of 287 (by decide +kernel) rfl
theorem q261 : Cond.methodLink "java/util/ArrayList" 73 yJ8_newLength_cabcc ∈ GW := gw_of 288 (by decide +kernel) rfl
theorem q262 : Cond.static yJ8_newLength_cabcc ∈ GW := gw_of 289 (by decide +kernel) rfl
theorem q263 : Cond.code yJ8_newLength_cabcc prog_32_method_27_code 4 (Option.some FieldType.int) ∈ GW := gw_of 290 (by decide +kernel) rfl
theorem q264 : Cond.methodLink "jdk/internal/util/ArraysSupport" 194 yJ9_max_7cf53 ∈ GW := gw_of 291 (by decide +kernel) rfl
theorem q265 : Cond.static yJ9_max_7cf53 ∈ GW := gw_of 292 (by decide +kernel) rfl
theorem q266 : Cond.code yJ9_max_7cf53 prog_16_method_65_code 2 (Option.some FieldType.int) ∈ GW := gw_of 293 (by decide +kernel) rfl
theorem q267 : Cond.constant "jdk/internal/util/ArraysSupport" 200 2147483639 ∈ GW := gw_of 294 (by decide +kernel) rfl
theorem q268 : Cond.methodLink "jdk/internal/util/ArraysSupport" 201 yJ8_hugeLength_7cf53 ∈ GW := gw_of 295 (by decide +kernel) rfl
theorem q269 : Cond.static yJ8_hugeLength_7cf53 ∈ GW := gw_of 296 (by decide +kernel) rfl
theorem q270 : Cond.code yJ8_hugeLength_7cf53 prog_32_method_28_code 3 (Option.some FieldType.int) ∈ GW := gw_of 297 (by decide +kernel) rfl
theorem q271 : Cond.methodLink "java/util/ArrayList" 66 yJ7_copyOf_1904c ∈ GW := gw_of 298 (by decide +kernel) rfl
theorem q272 : Cond.static yJ7_copyOf_1904c ∈ GW := gw_of 299 (by decide +kernel) rfl
theorem q273 : Cond.code yJ7_copyOf_1904c prog_25_method_119_code 2 (Option.some (FieldType.array (FieldType.object "java/lang/Object"))) ∈ GW := gw_of 300 (by decide +kernel) rfl
theorem q274 : Cond.methodLink "java/util/Arrays" 86 ⟨"java/lang/Object", "getClass", "()Ljava/lang/Class;"⟩ ∈ GW := gw_of 301 (by decide +kernel) rfl
theorem q275 : Cond.instanceMethod ⟨"java/lang/Object", "getClass", "()Ljava/lang/Class;"⟩ ∈ GW := gw_of 302 (by decide +kernel) rfl
theorem q290 : Cond.native ⟨"java/lang/Object", "getClass", "()Ljava/lang/Class;"⟩ ∈ GW := gw_of 317 (by decide +kernel) rfl
theorem q291 : Cond.methodLink "java/util/Arrays" 300 yJ7_copyOf_6403c ∈ GW := gw_of 318 (by decide +kernel) rfl
theorem q292 : Cond.static yJ7_copyOf_6403c ∈ GW := gw_of 319 (by decide +kernel) rfl
theorem q293 : Cond.code yJ7_copyOf_6403c prog_25_method_120_code 4 (Option.some (FieldType.array (FieldType.object "java/lang/Object"))) ∈ GW := gw_of 320 (by decide +kernel) rfl
theorem q294 : Cond.classLink "java/util/Arrays" 110 "[Ljava/lang/Object;" ∈ GW := gw_of 321 (by decide +kernel) rfl
theorem q296 : Cond.classLink "java/util/Arrays" 2 "java/lang/Object" ∈ GW := gw_of 323 (by decide +kernel) rfl
theorem q297 : Cond.methodLink "java/util/Arrays" 304 yJ9_min_7cf53 ∈ GW := gw_of 324 (by decide +kernel) rfl
theorem q298 : Cond.static yJ9_min_7cf53 ∈ GW := gw_of 325 (by decide +kernel) rfl
theorem q299 : Cond.code yJ9_min_7cf53 prog_16_method_69_code 2 (Option.some FieldType.int) ∈ GW := gw_of 326 (by decide +kernel) rfl
theorem q300 : Cond.methodLink "java/util/Arrays" 150 ⟨"java/lang/System", "arraycopy", "(Ljava/lang/Object;ILjava/lang/Object;II)V"⟩ ∈ GW := gw_of 327 (by decide +kernel) rfl
theorem q301 : Cond.static ⟨"java/lang/System", "arraycopy", "(Ljava/lang/Object;ILjava/lang/Object;II)V"⟩ ∈ GW := gw_of 328 (by decide +kernel) rfl
theorem q302 : Cond.native ⟨"java/lang/System", "arraycopy", "(Ljava/lang/Object;ILjava/lang/Object;II)V"⟩ ∈ GW := gw_of 329 (by decide +kernel) rfl
theorem q303 : Cond.methodLink "java/util/ArrayList" 79 yJ9_max_7cf53 ∈ GW := gw_of 330 (by decide +kernel) rfl
theorem q304 : Cond.classLink "java/util/ArrayList" 7 "java/lang/Object" ∈ GW := gw_of 331 (by decide +kernel) rfl
theorem q305 : Cond.methodLink "EchoChamberLaw" 125 yL_setState ∈ GW := gw_of 332 (by decide +kernel) rfl
theorem q306 : Cond.static yL_setState ∈ GW := gw_of 333 (by decide +kernel) rfl
theorem q307 : Cond.codeWith yL_setState method_4_code 7 (Option.some FieldType.int) [(0, 14, 17, 19), (0, 14, 21, 21)] ∈ GW := gw_of 334 (by decide +kernel) rfl
theorem q308 : Cond.classLink "EchoChamberLaw" 19 "java/lang/IndexOutOfBoundsException" ∈ GW := gw_of 335 (by decide +kernel) rfl
theorem q309 : Cond.classLink "EchoChamberLaw" 21 "java/lang/IllegalArgumentException" ∈ GW := gw_of 336 (by decide +kernel) rfl
theorem q310 : Cond.methodLink "EchoChamberLaw" 15 yX5_setState ∈ GW := gw_of 337 (by decide +kernel) rfl
theorem q311 : Cond.instanceMethod yX5_setState ∈ GW := gw_of 338 (by decide +kernel) rfl
theorem q312 : Cond.selects "EchoChamber" yX5_setState yX5_setState ∈ GW := gw_of 339 (by decide +kernel) rfl
theorem q313 : Cond.code yX5_setState prog_1_method_3_code 6 (Option.some FieldType.int) ∈ GW := gw_of 340 (by decide +kernel) rfl
theorem q314 : Cond.methodLink "EchoChamber" 57 yX5_roomAt ∈ GW := gw_of 341 (by decide +kernel) rfl
theorem q316 : Cond.instanceMethod yX5_roomAt ∈ GW := gw_of 343 (by decide +kernel) rfl
theorem q317 : Cond.code yX5_roomAt prog_1_method_32_code 2 (Option.some (FieldType.object "EchoChamber$Room")) ∈ GW := gw_of 344 (by decide +kernel) rfl
theorem q318 : Cond.classLink "EchoChamber" 217 "java/lang/IndexOutOfBoundsException" ∈ GW := gw_of 345 (by decide +kernel) rfl
theorem q328 : Cond.methodLink "EchoChamber" 221 ⟨"java/lang/IndexOutOfBoundsException", "<init>", "(Ljava/lang/String;)V"⟩ ∈ GW := gw_of 355 (by decide +kernel) rfl
theorem q329 : Cond.instanceMethod ⟨"java/lang/IndexOutOfBoundsException", "<init>", "(Ljava/lang/String;)V"⟩ ∈ GW := gw_of 356 (by decide +kernel) rfl
theorem q334 : Cond.methodLink "EchoChamber" 61 yX5_stateOf ∈ GW := gw_of 361 (by decide +kernel) rfl
theorem q335 : Cond.static yX5_stateOf ∈ GW := gw_of 362 (by decide +kernel) rfl
theorem q336 : Cond.code yX5_stateOf prog_1_method_35_code 3 (Option.some (FieldType.object "EchoChamber$State")) ∈ GW := gw_of 363 (by decide +kernel) rfl
theorem q337 : Cond.classLink "EchoChamber" 90 "java/lang/IllegalArgumentException" ∈ GW := gw_of 364 (by decide +kernel) rfl
theorem q347 : Cond.methodLink "EchoChamber" 94 ⟨"java/lang/IllegalArgumentException", "<init>", "(Ljava/lang/String;)V"⟩ ∈ GW := gw_of 374 (by decide +kernel) rfl
theorem q348 : Cond.instanceMethod ⟨"java/lang/IllegalArgumentException", "<init>", "(Ljava/lang/String;)V"⟩ ∈ GW := gw_of 375 (by decide +kernel) rfl
theorem q353 : Cond.methodLink "EchoChamber" 65 yX3_take ∈ GW := gw_of 380 (by decide +kernel) rfl
theorem q354 : Cond.instanceMethod yX3_take ∈ GW := gw_of 381 (by decide +kernel) rfl
theorem q355 : Cond.selects "EchoChamber$Room" yX3_take yX3_take ∈ GW := gw_of 382 (by decide +kernel) rfl
theorem q356 : Cond.code yX3_take prog_5_method_2_code 3 (Option.some FieldType.int) ∈ GW := gw_of 383 (by decide +kernel) rfl
theorem q357 : Cond.methodLink "EchoChamber$Room" 17 yX4_partsUnlike ∈ GW := gw_of 384 (by decide +kernel) rfl
theorem q358 : Cond.methodLink "EchoChamberLaw" 129 yL_curtains ∈ GW := gw_of 385 (by decide +kernel) rfl
theorem q359 : Cond.static yL_curtains ∈ GW := gw_of 386 (by decide +kernel) rfl
theorem q360 : Cond.codeWith yL_curtains method_5_code 4 (Option.some FieldType.int) [(0, 9, 12, 19)] ∈ GW := gw_of 387 (by decide +kernel) rfl
theorem q361 : Cond.methodLink "EchoChamberLaw" 23 yX5_curtains ∈ GW := gw_of 388 (by decide +kernel) rfl
theorem q362 : Cond.instanceMethod yX5_curtains ∈ GW := gw_of 389 (by decide +kernel) rfl
theorem q363 : Cond.selects "EchoChamber" yX5_curtains yX5_curtains ∈ GW := gw_of 390 (by decide +kernel) rfl
theorem q364 : Cond.code yX5_curtains prog_1_method_4_code 2 (Option.some FieldType.int) ∈ GW := gw_of 391 (by decide +kernel) rfl
theorem q365 : Cond.methodLink "EchoChamberLaw" 133 yL_seats ∈ GW := gw_of 392 (by decide +kernel) rfl
theorem q366 : Cond.static yL_seats ∈ GW := gw_of 393 (by decide +kernel) rfl
theorem q367 : Cond.codeWith yL_seats method_6_code 4 (Option.some FieldType.int) [(0, 9, 12, 19)] ∈ GW := gw_of 394 (by decide +kernel) rfl
theorem q368 : Cond.methodLink "EchoChamberLaw" 27 yX5_seats ∈ GW := gw_of 395 (by decide +kernel) rfl
theorem q369 : Cond.instanceMethod yX5_seats ∈ GW := gw_of 396 (by decide +kernel) rfl
theorem q370 : Cond.selects "EchoChamber" yX5_seats yX5_seats ∈ GW := gw_of 397 (by decide +kernel) rfl
theorem q371 : Cond.code yX5_seats prog_1_method_5_code 2 (Option.some FieldType.int) ∈ GW := gw_of 398 (by decide +kernel) rfl
theorem q372 : Cond.methodLink "EchoChamberLaw" 136 yL_areOpen ∈ GW := gw_of 399 (by decide +kernel) rfl
theorem q373 : Cond.static yL_areOpen ∈ GW := gw_of 400 (by decide +kernel) rfl
theorem q374 : Cond.codeWith yL_areOpen method_7_code 4 (Option.some FieldType.int) [(0, 16, 19, 19)] ∈ GW := gw_of 401 (by decide +kernel) rfl
theorem q375 : Cond.methodLink "EchoChamberLaw" 30 yX5_areOpen ∈ GW := gw_of 402 (by decide +kernel) rfl
theorem q376 : Cond.instanceMethod yX5_areOpen ∈ GW := gw_of 403 (by decide +kernel) rfl
theorem q377 : Cond.selects "EchoChamber" yX5_areOpen yX5_areOpen ∈ GW := gw_of 404 (by decide +kernel) rfl
theorem q378 : Cond.code yX5_areOpen prog_1_method_6_code 2 (Option.some FieldType.boolean) ∈ GW := gw_of 405 (by decide +kernel) rfl
theorem q379 : Cond.methodLink "EchoChamberLaw" 139 yL_changes ∈ GW := gw_of 406 (by decide +kernel) rfl
theorem q380 : Cond.static yL_changes ∈ GW := gw_of 407 (by decide +kernel) rfl
theorem q381 : Cond.codeWith yL_changes method_8_code 4 (Option.some FieldType.int) [(0, 9, 12, 19)] ∈ GW := gw_of 408 (by decide +kernel) rfl
theorem q382 : Cond.methodLink "EchoChamberLaw" 34 yX5_changes ∈ GW := gw_of 409 (by decide +kernel) rfl
theorem q383 : Cond.instanceMethod yX5_changes ∈ GW := gw_of 410 (by decide +kernel) rfl
theorem q384 : Cond.selects "EchoChamber" yX5_changes yX5_changes ∈ GW := gw_of 411 (by decide +kernel) rfl
theorem q385 : Cond.code yX5_changes prog_1_method_7_code 2 (Option.some FieldType.int) ∈ GW := gw_of 412 (by decide +kernel) rfl
theorem q386 : Cond.methodLink "EchoChamberLaw" 142 yL_measure ∈ GW := gw_of 413 (by decide +kernel) rfl
theorem q387 : Cond.static yL_measure ∈ GW := gw_of 414 (by decide +kernel) rfl
theorem q388 : Cond.codeWith yL_measure method_9_code 9 (Option.some FieldType.int) [(0, 18, 21, 19), (0, 18, 25, 21), (0, 18, 29, 13)] ∈ GW := gw_of 415 (by decide +kernel) rfl
theorem q389 : Cond.methodLink "EchoChamberLaw" 37 yX5_measure ∈ GW := gw_of 416 (by decide +kernel) rfl
theorem q390 : Cond.instanceMethod yX5_measure ∈ GW := gw_of 417 (by decide +kernel) rfl
theorem q391 : Cond.selects "EchoChamber" yX5_measure yX5_measure ∈ GW := gw_of 418 (by decide +kernel) rfl
theorem q392 : Cond.code yX5_measure prog_1_method_8_code 10 (Option.some FieldType.int) ∈ GW := gw_of 419 (by decide +kernel) rfl
theorem q393 : Cond.methodLink "EchoChamber" 86 yX5_checkPlace ∈ GW := gw_of 420 (by decide +kernel) rfl
theorem q394 : Cond.static yX5_checkPlace ∈ GW := gw_of 421 (by decide +kernel) rfl
theorem q395 : Cond.code yX5_checkPlace prog_1_method_36_code 1 none ∈ GW := gw_of 422 (by decide +kernel) rfl
theorem q398 : Cond.methodLink "EchoChamber" 95 yX5_checkSample ∈ GW := gw_of 425 (by decide +kernel) rfl
theorem q399 : Cond.static yX5_checkSample ∈ GW := gw_of 426 (by decide +kernel) rfl
theorem q400 : Cond.code yX5_checkSample prog_1_method_37_code 1 none ∈ GW := gw_of 427 (by decide +kernel) rfl
theorem q403 : Cond.instantiable "EchoChamber$Answer" 7 ∈ GW := gw_of 430 (by decide +kernel) rfl
theorem q404 : Cond.methodLink "EchoChamber" 102 yX0_init ∈ GW := gw_of 431 (by decide +kernel) rfl
theorem q405 : Cond.instanceMethod yX0_init ∈ GW := gw_of 432 (by decide +kernel) rfl
theorem q406 : Cond.code yX0_init prog_2_method_1_code 6 none ∈ GW := gw_of 433 (by decide +kernel) rfl
theorem q407 : Cond.methodLink "EchoChamber$Answer" 3 ⟨"java/lang/Object", "<init>", "()V"⟩ ∈ GW := gw_of 434 (by decide +kernel) rfl
theorem q408 : Cond.fieldLink "EchoChamber$Answer" 9 "EchoChamber$Answer" "number" "I" ∈ GW := gw_of 435 (by decide +kernel) rfl
theorem q409 : Cond.fieldLink "EchoChamber" 128 "EchoChamber$Answer" "number" "I" ∈ GW := gw_of 436 (by decide +kernel) rfl
theorem q410 : Cond.fieldLink "EchoChamber$Answer" 15 "EchoChamber$Answer" "room" "LEchoChamber$Room;" ∈ GW := gw_of 437 (by decide +kernel) rfl
theorem q411 : Cond.fieldLink "EchoChamber" 135 "EchoChamber$Answer" "room" "LEchoChamber$Room;" ∈ GW := gw_of 438 (by decide +kernel) rfl
theorem q412 : Cond.fieldLink "EchoChamber$Answer" 25 "EchoChamber$Answer" "state" "LEchoChamber$State;" ∈ GW := gw_of 439 (by decide +kernel) rfl
theorem q413 : Cond.fieldLink "EchoChamber" 266 "EchoChamber$Answer" "state" "LEchoChamber$State;" ∈ GW := gw_of 440 (by decide +kernel) rfl
theorem q414 : Cond.fieldLink "EchoChamber$Answer" 26 "EchoChamber$Answer" "place" "I" ∈ GW := gw_of 441 (by decide +kernel) rfl
theorem q415 : Cond.fieldLink "EchoChamber" 259 "EchoChamber$Answer" "place" "I" ∈ GW := gw_of 442 (by decide +kernel) rfl
theorem q416 : Cond.fieldLink "EchoChamber$Filter" 15 "EchoChamber$Answer" "samples" "[I" ∈ GW := gw_of 443 (by decide +kernel) rfl
theorem q417 : Cond.fieldLink "EchoChamber$Answer" 29 "EchoChamber$Answer" "samples" "[I" ∈ GW := gw_of 444 (by decide +kernel) rfl
theorem q418 : Cond.fieldLink "EchoChamber" 114 "EchoChamber$Answer" "samples" "[I" ∈ GW := gw_of 445 (by decide +kernel) rfl
theorem q419 : Cond.fieldLink "EchoChamber$Answer" 33 "EchoChamber$Answer" "hourThen" "I" ∈ GW := gw_of 446 (by decide +kernel) rfl
theorem q420 : Cond.fieldLink "EchoChamber$Answer" 39 "EchoChamber$Answer" "changesThen" "I" ∈ GW := gw_of 447 (by decide +kernel) rfl
theorem q436 : Cond.arrayClass FieldType.int ∈ GW := gw_of 463 (by decide +kernel) rfl
theorem q437 : Cond.methodLink "EchoChamberLaw" 146 yL_sample ∈ GW := gw_of 464 (by decide +kernel) rfl
theorem q438 : Cond.static yL_sample ∈ GW := gw_of 465 (by decide +kernel) rfl
theorem q439 : Cond.codeWith yL_sample method_10_code 5 (Option.some FieldType.int) [(0, 10, 13, 19), (0, 10, 17, 45)] ∈ GW := gw_of 466 (by decide +kernel) rfl
theorem q440 : Cond.classLink "EchoChamberLaw" 45 "java/util/NoSuchElementException" ∈ GW := gw_of 467 (by decide +kernel) rfl
theorem q441 : Cond.methodLink "EchoChamberLaw" 41 yX5_sample ∈ GW := gw_of 468 (by decide +kernel) rfl
theorem q442 : Cond.instanceMethod yX5_sample ∈ GW := gw_of 469 (by decide +kernel) rfl
theorem q443 : Cond.selects "EchoChamber" yX5_sample yX5_sample ∈ GW := gw_of 470 (by decide +kernel) rfl
theorem q444 : Cond.code yX5_sample prog_1_method_9_code 4 (Option.some FieldType.int) ∈ GW := gw_of 471 (by decide +kernel) rfl
theorem q445 : Cond.methodLink "EchoChamber" 105 yX5_answerAt ∈ GW := gw_of 472 (by decide +kernel) rfl
theorem q447 : Cond.instanceMethod yX5_answerAt ∈ GW := gw_of 474 (by decide +kernel) rfl
theorem q448 : Cond.code yX5_answerAt prog_1_method_33_code 2 (Option.some (FieldType.object "EchoChamber$Answer")) ∈ GW := gw_of 475 (by decide +kernel) rfl
theorem q450 : Cond.classLink "EchoChamber" 109 "java/util/NoSuchElementException" ∈ GW := gw_of 477 (by decide +kernel) rfl
theorem q460 : Cond.methodLink "EchoChamber" 113 ⟨"java/util/NoSuchElementException", "<init>", "(Ljava/lang/String;)V"⟩ ∈ GW := gw_of 487 (by decide +kernel) rfl
theorem q461 : Cond.instanceMethod ⟨"java/util/NoSuchElementException", "<init>", "(Ljava/lang/String;)V"⟩ ∈ GW := gw_of 488 (by decide +kernel) rfl
theorem q466 : Cond.methodLink "EchoChamberLaw" 150 yL_age ∈ GW := gw_of 493 (by decide +kernel) rfl
theorem q467 : Cond.static yL_age ∈ GW := gw_of 494 (by decide +kernel) rfl
theorem q468 : Cond.codeWith yL_age method_11_code 4 (Option.some FieldType.int) [(0, 9, 12, 19)] ∈ GW := gw_of 495 (by decide +kernel) rfl
theorem q469 : Cond.methodLink "EchoChamberLaw" 47 yX5_age ∈ GW := gw_of 496 (by decide +kernel) rfl
theorem q470 : Cond.instanceMethod yX5_age ∈ GW := gw_of 497 (by decide +kernel) rfl
theorem q471 : Cond.selects "EchoChamber" yX5_age yX5_age ∈ GW := gw_of 498 (by decide +kernel) rfl
theorem q472 : Cond.code yX5_age prog_1_method_10_code 2 (Option.some FieldType.int) ∈ GW := gw_of 499 (by decide +kernel) rfl
theorem q473 : Cond.methodLink "EchoChamberLaw" 153 yL_latest ∈ GW := gw_of 500 (by decide +kernel) rfl
theorem q474 : Cond.static yL_latest ∈ GW := gw_of 501 (by decide +kernel) rfl
theorem q475 : Cond.codeWith yL_latest method_12_code 8 (Option.some FieldType.int) [(0, 16, 19, 19), (0, 16, 23, 21), (0, 16, 27, 45)] ∈ GW := gw_of 502 (by decide +kernel) rfl
theorem q476 : Cond.methodLink "EchoChamberLaw" 50 yX5_latest ∈ GW := gw_of 503 (by decide +kernel) rfl
theorem q477 : Cond.instanceMethod yX5_latest ∈ GW := gw_of 504 (by decide +kernel) rfl
theorem q478 : Cond.selects "EchoChamber" yX5_latest yX5_latest ∈ GW := gw_of 505 (by decide +kernel) rfl
theorem q479 : Cond.code yX5_latest prog_1_method_11_code 8 (Option.some FieldType.int) ∈ GW := gw_of 506 (by decide +kernel) rfl
theorem q480 : Cond.methodLink "EchoChamberLaw" 157 yL_statesMeasured ∈ GW := gw_of 507 (by decide +kernel) rfl
theorem q481 : Cond.static yL_statesMeasured ∈ GW := gw_of 508 (by decide +kernel) rfl
theorem q482 : Cond.codeWith yL_statesMeasured method_13_code 4 (Option.some FieldType.int) [(0, 9, 12, 19)] ∈ GW := gw_of 509 (by decide +kernel) rfl
theorem q483 : Cond.methodLink "EchoChamberLaw" 54 yX5_statesMeasured ∈ GW := gw_of 510 (by decide +kernel) rfl
theorem q484 : Cond.instanceMethod yX5_statesMeasured ∈ GW := gw_of 511 (by decide +kernel) rfl
theorem q485 : Cond.selects "EchoChamber" yX5_statesMeasured yX5_statesMeasured ∈ GW := gw_of 512 (by decide +kernel) rfl
theorem q486 : Cond.code yX5_statesMeasured prog_1_method_12_code 5 (Option.some FieldType.int) ∈ GW := gw_of 513 (by decide +kernel) rfl
theorem q487 : Cond.methodLink "EchoChamber" 139 yX5_isFirstOfItsState ∈ GW := gw_of 514 (by decide +kernel) rfl
theorem q489 : Cond.instanceMethod yX5_isFirstOfItsState ∈ GW := gw_of 516 (by decide +kernel) rfl
theorem q490 : Cond.code yX5_isFirstOfItsState prog_1_method_39_code 4 (Option.some FieldType.boolean) ∈ GW := gw_of 517 (by decide +kernel) rfl
theorem q491 : Cond.methodLink "EchoChamberLaw" 164 yL_makeFilter ∈ GW := gw_of 518 (by decide +kernel) rfl
theorem q492 : Cond.static yL_makeFilter ∈ GW := gw_of 519 (by decide +kernel) rfl
theorem q493 : Cond.codeWith yL_makeFilter method_14_code 4 (Option.some FieldType.int) [(0, 9, 12, 19), (0, 9, 15, 13)] ∈ GW := gw_of 520 (by decide +kernel) rfl
theorem q494 : Cond.methodLink "EchoChamberLaw" 57 yX5_makeFilter ∈ GW := gw_of 521 (by decide +kernel) rfl
theorem q495 : Cond.instanceMethod yX5_makeFilter ∈ GW := gw_of 522 (by decide +kernel) rfl
theorem q496 : Cond.selects "EchoChamber" yX5_makeFilter yX5_makeFilter ∈ GW := gw_of 523 (by decide +kernel) rfl
theorem q497 : Cond.code yX5_makeFilter prog_1_method_14_code 4 (Option.some FieldType.int) ∈ GW := gw_of 524 (by decide +kernel) rfl
theorem q499 : Cond.instantiable "EchoChamber$Filter" 4 ∈ GW := gw_of 526 (by decide +kernel) rfl
theorem q500 : Cond.methodLink "EchoChamber" 147 yX2_init ∈ GW := gw_of 527 (by decide +kernel) rfl
theorem q501 : Cond.instanceMethod yX2_init ∈ GW := gw_of 528 (by decide +kernel) rfl
theorem q502 : Cond.code yX2_init prog_4_method_1_code 2 none ∈ GW := gw_of 529 (by decide +kernel) rfl
theorem q503 : Cond.methodLink "EchoChamber$Filter" 3 ⟨"java/lang/Object", "<init>", "()V"⟩ ∈ GW := gw_of 530 (by decide +kernel) rfl
theorem q504 : Cond.methodLink "EchoChamber$Filter" 21 yX2_tapsUndoing ∈ GW := gw_of 531 (by decide +kernel) rfl
theorem q505 : Cond.static yX2_tapsUndoing ∈ GW := gw_of 532 (by decide +kernel) rfl
theorem q506 : Cond.code yX2_tapsUndoing prog_4_method_2_code 6 (Option.some (FieldType.array FieldType.long)) ∈ GW := gw_of 533 (by decide +kernel) rfl
theorem q507 : Cond.fieldLink "EchoChamber$Filter" 9 "EchoChamber$Filter" "answer" "LEchoChamber$Answer;" ∈ GW := gw_of 534 (by decide +kernel) rfl
theorem q508 : Cond.fieldLink "EchoChamber" 154 "EchoChamber$Filter" "answer" "LEchoChamber$Answer;" ∈ GW := gw_of 535 (by decide +kernel) rfl
theorem q509 : Cond.fieldLink "EchoChamber$Filter" 25 "EchoChamber$Filter" "taps" "[J" ∈ GW := gw_of 536 (by decide +kernel) rfl
theorem q510 : Cond.fieldLink "EchoChamber" 160 "EchoChamber$Filter" "taps" "[J" ∈ GW := gw_of 537 (by decide +kernel) rfl
theorem q511 : Cond.fieldLink "EchoChamber$Filter" 29 "EchoChamber$Filter" "past" "[I" ∈ GW := gw_of 538 (by decide +kernel) rfl
theorem q512 : Cond.fieldLink "EchoChamber$Filter" 32 "EchoChamber$Filter" "inputCount" "I" ∈ GW := gw_of 539 (by decide +kernel) rfl
theorem q513 : Cond.fieldLink "EchoChamber" 182 "EchoChamber$Filter" "inputCount" "I" ∈ GW := gw_of 540 (by decide +kernel) rfl
theorem q523 : Cond.arrayClass FieldType.long ∈ GW := gw_of 550 (by decide +kernel) rfl
theorem q524 : Cond.methodLink "EchoChamberLaw" 167 yL_answerOf ∈ GW := gw_of 551 (by decide +kernel) rfl
theorem q525 : Cond.static yL_answerOf ∈ GW := gw_of 552 (by decide +kernel) rfl
theorem q526 : Cond.codeWith yL_answerOf method_15_code 4 (Option.some FieldType.int) [(0, 9, 12, 19)] ∈ GW := gw_of 553 (by decide +kernel) rfl
theorem q527 : Cond.methodLink "EchoChamberLaw" 60 yX5_answerOf ∈ GW := gw_of 554 (by decide +kernel) rfl
theorem q528 : Cond.instanceMethod yX5_answerOf ∈ GW := gw_of 555 (by decide +kernel) rfl
theorem q529 : Cond.selects "EchoChamber" yX5_answerOf yX5_answerOf ∈ GW := gw_of 556 (by decide +kernel) rfl
theorem q530 : Cond.code yX5_answerOf prog_1_method_15_code 2 (Option.some FieldType.int) ∈ GW := gw_of 557 (by decide +kernel) rfl
theorem q531 : Cond.methodLink "EchoChamber" 150 yX5_filterAt ∈ GW := gw_of 558 (by decide +kernel) rfl
theorem q533 : Cond.instanceMethod yX5_filterAt ∈ GW := gw_of 560 (by decide +kernel) rfl
theorem q534 : Cond.code yX5_filterAt prog_1_method_34_code 2 (Option.some (FieldType.object "EchoChamber$Filter")) ∈ GW := gw_of 561 (by decide +kernel) rfl
theorem q536 : Cond.methodLink "EchoChamberLaw" 170 yL_tap ∈ GW := gw_of 563 (by decide +kernel) rfl
theorem q537 : Cond.static yL_tap ∈ GW := gw_of 564 (by decide +kernel) rfl
theorem q538 : Cond.codeWith yL_tap method_16_code 5 (Option.some FieldType.int) [(0, 9, 12, 19), (0, 9, 16, 45)] ∈ GW := gw_of 565 (by decide +kernel) rfl
theorem q539 : Cond.methodLink "EchoChamberLaw" 63 yX5_tap ∈ GW := gw_of 566 (by decide +kernel) rfl
theorem q540 : Cond.instanceMethod yX5_tap ∈ GW := gw_of 567 (by decide +kernel) rfl
theorem q541 : Cond.selects "EchoChamber" yX5_tap yX5_tap ∈ GW := gw_of 568 (by decide +kernel) rfl
theorem q542 : Cond.code yX5_tap prog_1_method_16_code 4 (Option.some FieldType.long) ∈ GW := gw_of 569 (by decide +kernel) rfl
theorem q544 : Cond.methodLink "EchoChamberLaw" 173 yL_bar ∈ GW := gw_of 571 (by decide +kernel) rfl
theorem q545 : Cond.static yL_bar ∈ GW := gw_of 572 (by decide +kernel) rfl
theorem q546 : Cond.codeWith yL_bar method_17_code 4 (Option.some FieldType.int) [(0, 9, 12, 19)] ∈ GW := gw_of 573 (by decide +kernel) rfl
theorem q547 : Cond.methodLink "EchoChamberLaw" 67 yX5_bar ∈ GW := gw_of 574 (by decide +kernel) rfl
theorem q548 : Cond.instanceMethod yX5_bar ∈ GW := gw_of 575 (by decide +kernel) rfl
theorem q549 : Cond.selects "EchoChamber" yX5_bar yX5_bar ∈ GW := gw_of 576 (by decide +kernel) rfl
theorem q550 : Cond.code yX5_bar prog_1_method_17_code 2 (Option.some FieldType.char) ∈ GW := gw_of 577 (by decide +kernel) rfl
theorem q551 : Cond.methodLink "EchoChamberLaw" 176 yL_use ∈ GW := gw_of 578 (by decide +kernel) rfl
theorem q552 : Cond.static yL_use ∈ GW := gw_of 579 (by decide +kernel) rfl
theorem q553 : Cond.codeWith yL_use method_18_code 5 (Option.some FieldType.int) [(0, 9, 12, 19), (0, 9, 16, 21), (0, 9, 20, 74)] ∈ GW := gw_of 580 (by decide +kernel) rfl
theorem q554 : Cond.classLink "EchoChamberLaw" 74 "java/lang/UnsupportedOperationException" ∈ GW := gw_of 581 (by decide +kernel) rfl
theorem q555 : Cond.methodLink "EchoChamberLaw" 71 yX5_use ∈ GW := gw_of 582 (by decide +kernel) rfl
theorem q556 : Cond.instanceMethod yX5_use ∈ GW := gw_of 583 (by decide +kernel) rfl
theorem q557 : Cond.selects "EchoChamber" yX5_use yX5_use ∈ GW := gw_of 584 (by decide +kernel) rfl
theorem q558 : Cond.code yX5_use prog_1_method_18_code 4 (Option.some FieldType.long) ∈ GW := gw_of 585 (by decide +kernel) rfl
theorem q560 : Cond.classLink "EchoChamber" 170 "java/lang/UnsupportedOperationException" ∈ GW := gw_of 587 (by decide +kernel) rfl
theorem q570 : Cond.methodLink "EchoChamber" 174 ⟨"java/lang/UnsupportedOperationException", "<init>", "(Ljava/lang/String;)V"⟩ ∈ GW := gw_of 597 (by decide +kernel) rfl
theorem q571 : Cond.instanceMethod ⟨"java/lang/UnsupportedOperationException", "<init>", "(Ljava/lang/String;)V"⟩ ∈ GW := gw_of 598 (by decide +kernel) rfl
theorem q576 : Cond.methodLink "EchoChamber" 175 yX2_getInput ∈ GW := gw_of 603 (by decide +kernel) rfl
theorem q577 : Cond.instanceMethod yX2_getInput ∈ GW := gw_of 604 (by decide +kernel) rfl
theorem q578 : Cond.selects "EchoChamber$Filter" yX2_getInput yX2_getInput ∈ GW := gw_of 605 (by decide +kernel) rfl
theorem q579 : Cond.code yX2_getInput prog_4_method_3_code 3 none ∈ GW := gw_of 606 (by decide +kernel) rfl
theorem q580 : Cond.methodLink "EchoChamber" 178 yX2_given ∈ GW := gw_of 607 (by decide +kernel) rfl
end
section
theorem q581 : Cond.instanceMethod yX2_given ∈ GW := gw_of 608 (by decide +kernel) rfl
theorem q582 : Cond.selects "EchoChamber$Filter" yX2_given yX2_given ∈ GW := gw_of 609 (by decide +kernel) rfl
theorem q583 : Cond.code yX2_given prog_4_method_4_code 4 (Option.some FieldType.long) ∈ GW := gw_of 610 (by decide +kernel) rfl
theorem q584 : Cond.methodLink "EchoChamberLaw" 179 yL_inputs ∈ GW := gw_of 611 (by decide +kernel) rfl
theorem q585 : Cond.static yL_inputs ∈ GW := gw_of 612 (by decide +kernel) rfl
theorem q586 : Cond.codeWith yL_inputs method_19_code 4 (Option.some FieldType.int) [(0, 9, 12, 19)] ∈ GW := gw_of 613 (by decide +kernel) rfl
theorem q587 : Cond.methodLink "EchoChamberLaw" 76 yX5_inputs ∈ GW := gw_of 614 (by decide +kernel) rfl
theorem q588 : Cond.instanceMethod yX5_inputs ∈ GW := gw_of 615 (by decide +kernel) rfl
theorem q589 : Cond.selects "EchoChamber" yX5_inputs yX5_inputs ∈ GW := gw_of 616 (by decide +kernel) rfl
theorem q590 : Cond.code yX5_inputs prog_1_method_19_code 2 (Option.some FieldType.int) ∈ GW := gw_of 617 (by decide +kernel) rfl
theorem q591 : Cond.methodLink "EchoChamberLaw" 182 yL_product ∈ GW := gw_of 618 (by decide +kernel) rfl
theorem q592 : Cond.static yL_product ∈ GW := gw_of 619 (by decide +kernel) rfl
theorem q593 : Cond.codeWith yL_product method_20_code 6 (Option.some FieldType.int) [(0, 11, 14, 19), (0, 11, 18, 45)] ∈ GW := gw_of 620 (by decide +kernel) rfl
theorem q594 : Cond.methodLink "EchoChamberLaw" 79 yX5_product ∈ GW := gw_of 621 (by decide +kernel) rfl
theorem q595 : Cond.instanceMethod yX5_product ∈ GW := gw_of 622 (by decide +kernel) rfl
theorem q596 : Cond.selects "EchoChamber" yX5_product yX5_product ∈ GW := gw_of 623 (by decide +kernel) rfl
theorem q597 : Cond.code yX5_product prog_1_method_20_code 6 (Option.some FieldType.long) ∈ GW := gw_of 624 (by decide +kernel) rfl
theorem q599 : Cond.methodLink "EchoChamber" 187 yX2_rowSample ∈ GW := gw_of 626 (by decide +kernel) rfl
theorem q600 : Cond.instanceMethod yX2_rowSample ∈ GW := gw_of 627 (by decide +kernel) rfl
theorem q601 : Cond.selects "EchoChamber$Filter" yX2_rowSample yX2_rowSample ∈ GW := gw_of 628 (by decide +kernel) rfl
theorem q602 : Cond.code yX2_rowSample prog_4_method_5_code 6 (Option.some FieldType.long) ∈ GW := gw_of 629 (by decide +kernel) rfl
theorem q603 : Cond.methodLink "EchoChamberLaw" 186 yL_rightSamples ∈ GW := gw_of 630 (by decide +kernel) rfl
theorem q604 : Cond.static yL_rightSamples ∈ GW := gw_of 631 (by decide +kernel) rfl
theorem q605 : Cond.codeWith yL_rightSamples method_21_code 5 (Option.some FieldType.int) [(0, 10, 13, 19)] ∈ GW := gw_of 632 (by decide +kernel) rfl
theorem q606 : Cond.methodLink "EchoChamberLaw" 83 yX5_rightSamples ∈ GW := gw_of 633 (by decide +kernel) rfl
theorem q607 : Cond.instanceMethod yX5_rightSamples ∈ GW := gw_of 634 (by decide +kernel) rfl
theorem q608 : Cond.selects "EchoChamber" yX5_rightSamples yX5_rightSamples ∈ GW := gw_of 635 (by decide +kernel) rfl
theorem q609 : Cond.code yX5_rightSamples prog_1_method_21_code 4 (Option.some FieldType.int) ∈ GW := gw_of 636 (by decide +kernel) rfl
theorem q610 : Cond.methodLink "EchoChamber" 191 yX2_rightSamplesWith ∈ GW := gw_of 637 (by decide +kernel) rfl
theorem q611 : Cond.instanceMethod yX2_rightSamplesWith ∈ GW := gw_of 638 (by decide +kernel) rfl
theorem q612 : Cond.selects "EchoChamber$Filter" yX2_rightSamplesWith yX2_rightSamplesWith ∈ GW := gw_of 639 (by decide +kernel) rfl
theorem q613 : Cond.code yX2_rightSamplesWith prog_4_method_6_code 3 (Option.some FieldType.int) ∈ GW := gw_of 640 (by decide +kernel) rfl
theorem q614 : Cond.methodLink "EchoChamber$Filter" 36 yX2_rowSample ∈ GW := gw_of 641 (by decide +kernel) rfl
theorem q615 : Cond.methodLink "EchoChamberLaw" 189 yL_isChecked ∈ GW := gw_of 642 (by decide +kernel) rfl
theorem q616 : Cond.static yL_isChecked ∈ GW := gw_of 643 (by decide +kernel) rfl
theorem q617 : Cond.codeWith yL_isChecked method_22_code 4 (Option.some FieldType.int) [(0, 16, 19, 19)] ∈ GW := gw_of 644 (by decide +kernel) rfl
theorem q618 : Cond.methodLink "EchoChamberLaw" 86 yX5_isChecked ∈ GW := gw_of 645 (by decide +kernel) rfl
theorem q619 : Cond.instanceMethod yX5_isChecked ∈ GW := gw_of 646 (by decide +kernel) rfl
theorem q620 : Cond.selects "EchoChamber" yX5_isChecked yX5_isChecked ∈ GW := gw_of 647 (by decide +kernel) rfl
theorem q621 : Cond.code yX5_isChecked prog_1_method_22_code 3 (Option.some FieldType.boolean) ∈ GW := gw_of 648 (by decide +kernel) rfl
theorem q622 : Cond.methodLink "EchoChamberLaw" 192 yL_setLimit ∈ GW := gw_of 649 (by decide +kernel) rfl
theorem q623 : Cond.static yL_setLimit ∈ GW := gw_of 650 (by decide +kernel) rfl
theorem q624 : Cond.codeWith yL_setLimit method_23_code 4 (Option.some FieldType.int) [(0, 9, 12, 21)] ∈ GW := gw_of 651 (by decide +kernel) rfl
theorem q625 : Cond.methodLink "EchoChamberLaw" 89 yX5_setLimit ∈ GW := gw_of 652 (by decide +kernel) rfl
theorem q626 : Cond.instanceMethod yX5_setLimit ∈ GW := gw_of 653 (by decide +kernel) rfl
theorem q627 : Cond.selects "EchoChamber" yX5_setLimit yX5_setLimit ∈ GW := gw_of 654 (by decide +kernel) rfl
theorem q628 : Cond.code yX5_setLimit prog_1_method_23_code 3 (Option.some FieldType.int) ∈ GW := gw_of 655 (by decide +kernel) rfl
theorem q630 : Cond.methodLink "EchoChamberLaw" 199 yL_book ∈ GW := gw_of 657 (by decide +kernel) rfl
theorem q631 : Cond.static yL_book ∈ GW := gw_of 658 (by decide +kernel) rfl
theorem q632 : Cond.codeWith yL_book method_24_code 9 (Option.some FieldType.int) [(0, 18, 21, 19), (0, 18, 25, 21), (0, 18, 29, 74), (0, 18, 33, 13)] ∈ GW := gw_of 659 (by decide +kernel) rfl
theorem q633 : Cond.methodLink "EchoChamberLaw" 92 yX5_book ∈ GW := gw_of 660 (by decide +kernel) rfl
theorem q634 : Cond.instanceMethod yX5_book ∈ GW := gw_of 661 (by decide +kernel) rfl
theorem q635 : Cond.selects "EchoChamber" yX5_book yX5_book ∈ GW := gw_of 662 (by decide +kernel) rfl
theorem q636 : Cond.code yX5_book prog_1_method_25_code 10 (Option.some FieldType.int) ∈ GW := gw_of 663 (by decide +kernel) rfl
theorem q638 : Cond.methodLink "EchoChamber" 199 yX5_firstClash ∈ GW := gw_of 665 (by decide +kernel) rfl
theorem q640 : Cond.instanceMethod yX5_firstClash ∈ GW := gw_of 667 (by decide +kernel) rfl
theorem q641 : Cond.code yX5_firstClash prog_1_method_41_code 7 (Option.some (FieldType.object "EchoChamber$Booking")) ∈ GW := gw_of 668 (by decide +kernel) rfl
theorem q642 : Cond.classLink "EchoChamber" 207 "EchoChamber$Booking" ∈ GW := gw_of 669 (by decide +kernel) rfl
theorem q643 : Cond.methodLink "EchoChamber" 238 yX1_standsFor ∈ GW := gw_of 670 (by decide +kernel) rfl
theorem q644 : Cond.instanceMethod yX1_standsFor ∈ GW := gw_of 671 (by decide +kernel) rfl
theorem q645 : Cond.selects "EchoChamber$Booking" yX1_standsFor yX1_standsFor ∈ GW := gw_of 672 (by decide +kernel) rfl
theorem q646 : Cond.code yX1_standsFor prog_3_method_2_code 2 (Option.some FieldType.boolean) ∈ GW := gw_of 673 (by decide +kernel) rfl
theorem q647 : Cond.methodLink "EchoChamber" 270 yX1_isTooNear ∈ GW := gw_of 674 (by decide +kernel) rfl
theorem q648 : Cond.instanceMethod yX1_isTooNear ∈ GW := gw_of 675 (by decide +kernel) rfl
theorem q649 : Cond.selects "EchoChamber$Booking" yX1_isTooNear yX1_isTooNear ∈ GW := gw_of 676 (by decide +kernel) rfl
theorem q650 : Cond.code yX1_isTooNear prog_3_method_3_code 5 (Option.some FieldType.boolean) ∈ GW := gw_of 677 (by decide +kernel) rfl
theorem q651 : Cond.methodLink "EchoChamber$Booking" 31 yX4_partsUnlike ∈ GW := gw_of 678 (by decide +kernel) rfl
theorem q652 : Cond.methodLink "EchoChamber$Booking" 37 yX1_hoursBetween ∈ GW := gw_of 679 (by decide +kernel) rfl
theorem q653 : Cond.static yX1_hoursBetween ∈ GW := gw_of 680 (by decide +kernel) rfl
theorem q654 : Cond.code yX1_hoursBetween prog_3_method_4_code 2 (Option.some FieldType.long) ∈ GW := gw_of 681 (by decide +kernel) rfl
theorem q657 : Cond.instantiable "EchoChamber$Booking" 6 ∈ GW := gw_of 684 (by decide +kernel) rfl
theorem q658 : Cond.methodLink "EchoChamber" 209 yX1_init ∈ GW := gw_of 685 (by decide +kernel) rfl
theorem q659 : Cond.instanceMethod yX1_init ∈ GW := gw_of 686 (by decide +kernel) rfl
theorem q660 : Cond.code yX1_init prog_3_method_1_code 6 none ∈ GW := gw_of 687 (by decide +kernel) rfl
theorem q661 : Cond.methodLink "EchoChamber$Booking" 1 ⟨"java/lang/Object", "<init>", "()V"⟩ ∈ GW := gw_of 688 (by decide +kernel) rfl
theorem q662 : Cond.fieldLink "EchoChamber$Booking" 7 "EchoChamber$Booking" "number" "I" ∈ GW := gw_of 689 (by decide +kernel) rfl
theorem q663 : Cond.fieldLink "EchoChamber" 216 "EchoChamber$Booking" "number" "I" ∈ GW := gw_of 690 (by decide +kernel) rfl
theorem q664 : Cond.fieldLink "EchoChamber$Booking" 13 "EchoChamber$Booking" "room" "LEchoChamber$Room;" ∈ GW := gw_of 691 (by decide +kernel) rfl
theorem q665 : Cond.fieldLink "EchoChamber" 274 "EchoChamber$Booking" "room" "LEchoChamber$Room;" ∈ GW := gw_of 692 (by decide +kernel) rfl
theorem q666 : Cond.fieldLink "EchoChamber$Booking" 17 "EchoChamber$Booking" "state" "LEchoChamber$State;" ∈ GW := gw_of 693 (by decide +kernel) rfl
theorem q667 : Cond.fieldLink "EchoChamber" 275 "EchoChamber$Booking" "state" "LEchoChamber$State;" ∈ GW := gw_of 694 (by decide +kernel) rfl
theorem q668 : Cond.fieldLink "EchoChamber$Booking" 21 "EchoChamber$Booking" "first" "I" ∈ GW := gw_of 695 (by decide +kernel) rfl
theorem q669 : Cond.fieldLink "EchoChamber" 225 "EchoChamber$Booking" "first" "I" ∈ GW := gw_of 696 (by decide +kernel) rfl
theorem q670 : Cond.fieldLink "EchoChamber$Booking" 24 "EchoChamber$Booking" "last" "I" ∈ GW := gw_of 697 (by decide +kernel) rfl
theorem q671 : Cond.fieldLink "EchoChamber$Booking" 27 "EchoChamber$Booking" "isCancelled" "Z" ∈ GW := gw_of 698 (by decide +kernel) rfl
theorem q672 : Cond.fieldLink "EchoChamber" 222 "EchoChamber$Booking" "isCancelled" "Z" ∈ GW := gw_of 699 (by decide +kernel) rfl
theorem q686 : Cond.methodLink "EchoChamberLaw" 203 yL_clash ∈ GW := gw_of 713 (by decide +kernel) rfl
theorem q687 : Cond.static yL_clash ∈ GW := gw_of 714 (by decide +kernel) rfl
theorem q688 : Cond.codeWith yL_clash method_25_code 9 (Option.some FieldType.int) [(0, 18, 21, 19), (0, 18, 25, 21), (0, 18, 29, 45)] ∈ GW := gw_of 715 (by decide +kernel) rfl
theorem q689 : Cond.methodLink "EchoChamberLaw" 96 yX5_clash ∈ GW := gw_of 716 (by decide +kernel) rfl
theorem q690 : Cond.instanceMethod yX5_clash ∈ GW := gw_of 717 (by decide +kernel) rfl
theorem q691 : Cond.selects "EchoChamber" yX5_clash yX5_clash ∈ GW := gw_of 718 (by decide +kernel) rfl
theorem q692 : Cond.code yX5_clash prog_1_method_26_code 10 (Option.some FieldType.int) ∈ GW := gw_of 719 (by decide +kernel) rfl
theorem q695 : Cond.methodLink "EchoChamberLaw" 206 yL_cancel ∈ GW := gw_of 722 (by decide +kernel) rfl
theorem q696 : Cond.static yL_cancel ∈ GW := gw_of 723 (by decide +kernel) rfl
theorem q697 : Cond.codeWith yL_cancel method_26_code 4 (Option.some FieldType.int) [(0, 9, 12, 19), (0, 9, 15, 13)] ∈ GW := gw_of 724 (by decide +kernel) rfl
theorem q698 : Cond.methodLink "EchoChamberLaw" 99 yX5_cancel ∈ GW := gw_of 725 (by decide +kernel) rfl
theorem q699 : Cond.instanceMethod yX5_cancel ∈ GW := gw_of 726 (by decide +kernel) rfl
theorem q700 : Cond.selects "EchoChamber" yX5_cancel yX5_cancel ∈ GW := gw_of 727 (by decide +kernel) rfl
theorem q701 : Cond.code yX5_cancel prog_1_method_27_code 3 (Option.some FieldType.int) ∈ GW := gw_of 728 (by decide +kernel) rfl
theorem q704 : Cond.methodLink "EchoChamber" 230 yX5_standingBookings ∈ GW := gw_of 731 (by decide +kernel) rfl
theorem q706 : Cond.instanceMethod yX5_standingBookings ∈ GW := gw_of 733 (by decide +kernel) rfl
theorem q707 : Cond.code yX5_standingBookings prog_1_method_42_code 3 (Option.some FieldType.int) ∈ GW := gw_of 734 (by decide +kernel) rfl
theorem q708 : Cond.methodLink "EchoChamberLaw" 209 yL_pass ∈ GW := gw_of 735 (by decide +kernel) rfl
theorem q709 : Cond.static yL_pass ∈ GW := gw_of 736 (by decide +kernel) rfl
theorem q710 : Cond.codeWith yL_pass method_27_code 4 (Option.some FieldType.int) [(0, 9, 12, 21)] ∈ GW := gw_of 737 (by decide +kernel) rfl
theorem q711 : Cond.methodLink "EchoChamberLaw" 102 yX5_pass ∈ GW := gw_of 738 (by decide +kernel) rfl
theorem q712 : Cond.instanceMethod yX5_pass ∈ GW := gw_of 739 (by decide +kernel) rfl
theorem q713 : Cond.selects "EchoChamber" yX5_pass yX5_pass ∈ GW := gw_of 740 (by decide +kernel) rfl
theorem q714 : Cond.code yX5_pass prog_1_method_28_code 4 (Option.some FieldType.int) ∈ GW := gw_of 741 (by decide +kernel) rfl
theorem q716 : Cond.methodLink "EchoChamber" 235 yX5_beginBookings ∈ GW := gw_of 743 (by decide +kernel) rfl
theorem q718 : Cond.instanceMethod yX5_beginBookings ∈ GW := gw_of 745 (by decide +kernel) rfl
theorem q719 : Cond.code yX5_beginBookings prog_1_method_43_code 4 (Option.some FieldType.int) ∈ GW := gw_of 746 (by decide +kernel) rfl
theorem q720 : Cond.methodLink "EchoChamberLaw" 216 yL_nextBooking ∈ GW := gw_of 747 (by decide +kernel) rfl
theorem q721 : Cond.static yL_nextBooking ∈ GW := gw_of 748 (by decide +kernel) rfl
theorem q722 : Cond.codeWith yL_nextBooking method_28_code 4 (Option.some FieldType.int) [(0, 9, 12, 19), (0, 9, 15, 45)] ∈ GW := gw_of 749 (by decide +kernel) rfl
theorem q723 : Cond.methodLink "EchoChamberLaw" 105 yX5_nextBooking ∈ GW := gw_of 750 (by decide +kernel) rfl
theorem q724 : Cond.instanceMethod yX5_nextBooking ∈ GW := gw_of 751 (by decide +kernel) rfl
theorem q725 : Cond.selects "EchoChamber" yX5_nextBooking yX5_nextBooking ∈ GW := gw_of 752 (by decide +kernel) rfl
theorem q726 : Cond.code yX5_nextBooking prog_1_method_30_code 6 (Option.some FieldType.int) ∈ GW := gw_of 753 (by decide +kernel) rfl
theorem q728 : Cond.methodLink "EchoChamberLaw" 219 yL_usableShare ∈ GW := gw_of 755 (by decide +kernel) rfl
theorem q729 : Cond.static yL_usableShare ∈ GW := gw_of 756 (by decide +kernel) rfl
theorem q730 : Cond.codeWith yL_usableShare method_29_code 3 (Option.some FieldType.int) [(0, 8, 11, 45)] ∈ GW := gw_of 757 (by decide +kernel) rfl
theorem q731 : Cond.methodLink "EchoChamberLaw" 108 yX5_usableShare ∈ GW := gw_of 758 (by decide +kernel) rfl
theorem q732 : Cond.instanceMethod yX5_usableShare ∈ GW := gw_of 759 (by decide +kernel) rfl
theorem q733 : Cond.selects "EchoChamber" yX5_usableShare yX5_usableShare ∈ GW := gw_of 760 (by decide +kernel) rfl
theorem q734 : Cond.code yX5_usableShare prog_1_method_31_code 2 (Option.some FieldType.float) ∈ GW := gw_of 761 (by decide +kernel) rfl
theorem q736 : Cond.methodLink "EchoChamber" 246 yX5_usable ∈ GW := gw_of 763 (by decide +kernel) rfl
theorem q737 : Cond.classLink "EchoChamberLaw" 113 "EchoChamberModel" ∈ GW := gw_of 764 (by decide +kernel) rfl
theorem q738 : Cond.instantiable "EchoChamberModel" 24 ∈ GW := gw_of 765 (by decide +kernel) rfl
theorem q739 : Cond.methodLink "EchoChamberLaw" 115 yX6_init ∈ GW := gw_of 766 (by decide +kernel) rfl
theorem q740 : Cond.instanceMethod yX6_init ∈ GW := gw_of 767 (by decide +kernel) rfl
theorem q741 : Cond.code yX6_init prog_8_method_1_code 1 none ∈ GW := gw_of 768 (by decide +kernel) rfl
theorem q742 : Cond.methodLink "EchoChamberModel" 1 ⟨"java/lang/Object", "<init>", "()V"⟩ ∈ GW := gw_of 769 (by decide +kernel) rfl
theorem q743 : Cond.fieldLink "EchoChamberModel" 67 "EchoChamberModel" "thrown" "I" ∈ GW := gw_of 770 (by decide +kernel) rfl
theorem q744 : Cond.fieldLink "EchoChamberModel" 108 "EchoChamberModel" "hour" "I" ∈ GW := gw_of 771 (by decide +kernel) rfl
theorem q745 : Cond.fieldLink "EchoChamberModel" 7 "EchoChamberModel" "limit" "I" ∈ GW := gw_of 772 (by decide +kernel) rfl
theorem q746 : Cond.fieldLink "EchoChamberModel" 70 "EchoChamberModel" "rooms" "I" ∈ GW := gw_of 773 (by decide +kernel) rfl
theorem q747 : Cond.fieldLink "EchoChamberModel" 13 "EchoChamberModel" "states" "[I" ∈ GW := gw_of 774 (by decide +kernel) rfl
theorem q748 : Cond.fieldLink "EchoChamberModel" 17 "EchoChamberModel" "changed" "[I" ∈ GW := gw_of 775 (by decide +kernel) rfl
theorem q749 : Cond.fieldLink "EchoChamberModel" 84 "EchoChamberModel" "answers" "I" ∈ GW := gw_of 776 (by decide +kernel) rfl
theorem q750 : Cond.fieldLink "EchoChamberModel" 20 "EchoChamberModel" "of" "[I" ∈ GW := gw_of 777 (by decide +kernel) rfl
theorem q751 : Cond.fieldLink "EchoChamberModel" 23 "EchoChamberModel" "its" "[I" ∈ GW := gw_of 778 (by decide +kernel) rfl
theorem q752 : Cond.fieldLink "EchoChamberModel" 26 "EchoChamberModel" "places" "[I" ∈ GW := gw_of 779 (by decide +kernel) rfl
theorem q753 : Cond.fieldLink "EchoChamberModel" 29 "EchoChamberModel" "since" "[I" ∈ GW := gw_of 780 (by decide +kernel) rfl
theorem q754 : Cond.fieldLink "EchoChamberModel" 32 "EchoChamberModel" "then" "[I" ∈ GW := gw_of 781 (by decide +kernel) rfl
theorem q755 : Cond.fieldLink "EchoChamberModel" 35 "EchoChamberModel" "samples" "[I" ∈ GW := gw_of 782 (by decide +kernel) rfl
theorem q756 : Cond.fieldLink "EchoChamberModel" 87 "EchoChamberModel" "filters" "I" ∈ GW := gw_of 783 (by decide +kernel) rfl
theorem q757 : Cond.fieldLink "EchoChamberModel" 38 "EchoChamberModel" "from" "[I" ∈ GW := gw_of 784 (by decide +kernel) rfl
theorem q758 : Cond.fieldLink "EchoChamberModel" 41 "EchoChamberModel" "taps" "[J" ∈ GW := gw_of 785 (by decide +kernel) rfl
theorem q759 : Cond.fieldLink "EchoChamberModel" 45 "EchoChamberModel" "pasts" "[I" ∈ GW := gw_of 786 (by decide +kernel) rfl
theorem q760 : Cond.fieldLink "EchoChamberModel" 48 "EchoChamberModel" "got" "[I" ∈ GW := gw_of 787 (by decide +kernel) rfl
theorem q761 : Cond.fieldLink "EchoChamberModel" 143 "EchoChamberModel" "bookings" "I" ∈ GW := gw_of 788 (by decide +kernel) rfl
theorem q762 : Cond.fieldLink "EchoChamberModel" 51 "EchoChamberModel" "bookRoom" "[I" ∈ GW := gw_of 789 (by decide +kernel) rfl
theorem q763 : Cond.fieldLink "EchoChamberModel" 54 "EchoChamberModel" "bookState" "[I" ∈ GW := gw_of 790 (by decide +kernel) rfl
theorem q764 : Cond.fieldLink "EchoChamberModel" 57 "EchoChamberModel" "firsts" "[I" ∈ GW := gw_of 791 (by decide +kernel) rfl
theorem q765 : Cond.fieldLink "EchoChamberModel" 60 "EchoChamberModel" "lasts" "[I" ∈ GW := gw_of 792 (by decide +kernel) rfl
theorem q766 : Cond.fieldLink "EchoChamberModel" 63 "EchoChamberModel" "gone" "[Z" ∈ GW := gw_of 793 (by decide +kernel) rfl
theorem q816 : Cond.arrayClass FieldType.boolean ∈ GW := gw_of 843 (by decide +kernel) rfl
theorem q817 : Cond.methodLink "EchoChamberLaw" 122 yX6_thrown ∈ GW := gw_of 844 (by decide +kernel) rfl
theorem q818 : Cond.instanceMethod yX6_thrown ∈ GW := gw_of 845 (by decide +kernel) rfl
theorem q819 : Cond.selects "EchoChamberModel" yX6_thrown yX6_thrown ∈ GW := gw_of 846 (by decide +kernel) rfl
theorem q820 : Cond.code yX6_thrown prog_8_method_2_code 1 (Option.some FieldType.int) ∈ GW := gw_of 847 (by decide +kernel) rfl
theorem q821 : Cond.methodLink "EchoChamberLaw" 121 yX6_addRoom ∈ GW := gw_of 848 (by decide +kernel) rfl
theorem q822 : Cond.instanceMethod yX6_addRoom ∈ GW := gw_of 849 (by decide +kernel) rfl
theorem q823 : Cond.selects "EchoChamberModel" yX6_addRoom yX6_addRoom ∈ GW := gw_of 850 (by decide +kernel) rfl
theorem q824 : Cond.code yX6_addRoom prog_8_method_12_code 1 (Option.some FieldType.int) ∈ GW := gw_of 851 (by decide +kernel) rfl
theorem q825 : Cond.methodLink "EchoChamberModel" 81 yX6_fails ∈ GW := gw_of 852 (by decide +kernel) rfl
theorem q827 : Cond.instanceMethod yX6_fails ∈ GW := gw_of 854 (by decide +kernel) rfl
theorem q828 : Cond.code yX6_fails prog_8_method_3_code 2 (Option.some FieldType.boolean) ∈ GW := gw_of 855 (by decide +kernel) rfl
theorem q829 : Cond.methodLink "EchoChamberLaw" 128 yX6_setState ∈ GW := gw_of 856 (by decide +kernel) rfl
theorem q830 : Cond.instanceMethod yX6_setState ∈ GW := gw_of 857 (by decide +kernel) rfl
theorem q831 : Cond.selects "EchoChamberModel" yX6_setState yX6_setState ∈ GW := gw_of 858 (by decide +kernel) rfl
theorem q832 : Cond.code yX6_setState prog_8_method_14_code 5 (Option.some FieldType.int) ∈ GW := gw_of 859 (by decide +kernel) rfl
theorem q833 : Cond.methodLink "EchoChamberModel" 77 yX6_isRoom ∈ GW := gw_of 860 (by decide +kernel) rfl
theorem q835 : Cond.instanceMethod yX6_isRoom ∈ GW := gw_of 862 (by decide +kernel) rfl
theorem q836 : Cond.code yX6_isRoom prog_8_method_5_code 2 (Option.some FieldType.boolean) ∈ GW := gw_of 863 (by decide +kernel) rfl
theorem q837 : Cond.methodLink "EchoChamberModel" 73 yX6_in ∈ GW := gw_of 864 (by decide +kernel) rfl
theorem q838 : Cond.static yX6_in ∈ GW := gw_of 865 (by decide +kernel) rfl
theorem q839 : Cond.code yX6_in prog_8_method_4_code 3 (Option.some FieldType.boolean) ∈ GW := gw_of 866 (by decide +kernel) rfl
theorem q840 : Cond.methodLink "EchoChamberModel" 94 yX6_isState ∈ GW := gw_of 867 (by decide +kernel) rfl
theorem q841 : Cond.static yX6_isState ∈ GW := gw_of 868 (by decide +kernel) rfl
theorem q842 : Cond.code yX6_isState prog_8_method_9_code 2 (Option.some FieldType.boolean) ∈ GW := gw_of 869 (by decide +kernel) rfl
theorem q843 : Cond.methodLink "EchoChamberModel" 98 yX6_state ∈ GW := gw_of 870 (by decide +kernel) rfl
theorem q844 : Cond.static yX6_state ∈ GW := gw_of 871 (by decide +kernel) rfl
theorem q845 : Cond.code yX6_state prog_8_method_10_code 3 (Option.some FieldType.int) ∈ GW := gw_of 872 (by decide +kernel) rfl
theorem q846 : Cond.methodLink "EchoChamberModel" 102 yX6_gives ∈ GW := gw_of 873 (by decide +kernel) rfl
theorem q848 : Cond.instanceMethod yX6_gives ∈ GW := gw_of 875 (by decide +kernel) rfl
theorem q849 : Cond.code yX6_gives prog_8_method_13_code 4 (Option.some FieldType.int) ∈ GW := gw_of 876 (by decide +kernel) rfl
theorem q850 : Cond.methodLink "EchoChamberModel" 90 yX6_differ ∈ GW := gw_of 877 (by decide +kernel) rfl
theorem q851 : Cond.static yX6_differ ∈ GW := gw_of 878 (by decide +kernel) rfl
theorem q852 : Cond.code yX6_differ prog_8_method_11_code 3 (Option.some FieldType.int) ∈ GW := gw_of 879 (by decide +kernel) rfl
theorem q853 : Cond.methodLink "EchoChamberLaw" 132 yX6_curtains ∈ GW := gw_of 880 (by decide +kernel) rfl
theorem q854 : Cond.instanceMethod yX6_curtains ∈ GW := gw_of 881 (by decide +kernel) rfl
theorem q855 : Cond.selects "EchoChamberModel" yX6_curtains yX6_curtains ∈ GW := gw_of 882 (by decide +kernel) rfl
theorem q856 : Cond.code yX6_curtains prog_8_method_15_code 2 (Option.some FieldType.int) ∈ GW := gw_of 883 (by decide +kernel) rfl
theorem q857 : Cond.methodLink "EchoChamberModel" 105 yX6_failsRoom ∈ GW := gw_of 884 (by decide +kernel) rfl
theorem q859 : Cond.instanceMethod yX6_failsRoom ∈ GW := gw_of 886 (by decide +kernel) rfl
theorem q860 : Cond.code yX6_failsRoom prog_8_method_6_code 2 (Option.some FieldType.boolean) ∈ GW := gw_of 887 (by decide +kernel) rfl
theorem q861 : Cond.methodLink "EchoChamberLaw" 135 yX6_seats ∈ GW := gw_of 888 (by decide +kernel) rfl
theorem q862 : Cond.instanceMethod yX6_seats ∈ GW := gw_of 889 (by decide +kernel) rfl
theorem q863 : Cond.selects "EchoChamberModel" yX6_seats yX6_seats ∈ GW := gw_of 890 (by decide +kernel) rfl
theorem q864 : Cond.code yX6_seats prog_8_method_16_code 2 (Option.some FieldType.int) ∈ GW := gw_of 891 (by decide +kernel) rfl
theorem q865 : Cond.methodLink "EchoChamberLaw" 138 yX6_areOpen ∈ GW := gw_of 892 (by decide +kernel) rfl
theorem q866 : Cond.instanceMethod yX6_areOpen ∈ GW := gw_of 893 (by decide +kernel) rfl
theorem q867 : Cond.selects "EchoChamberModel" yX6_areOpen yX6_areOpen ∈ GW := gw_of 894 (by decide +kernel) rfl
theorem q868 : Cond.code yX6_areOpen prog_8_method_17_code 2 (Option.some FieldType.boolean) ∈ GW := gw_of 895 (by decide +kernel) rfl
theorem q869 : Cond.methodLink "EchoChamberLaw" 141 yX6_changes ∈ GW := gw_of 896 (by decide +kernel) rfl
theorem q870 : Cond.instanceMethod yX6_changes ∈ GW := gw_of 897 (by decide +kernel) rfl
theorem q871 : Cond.selects "EchoChamberModel" yX6_changes yX6_changes ∈ GW := gw_of 898 (by decide +kernel) rfl
theorem q872 : Cond.code yX6_changes prog_8_method_18_code 2 (Option.some FieldType.int) ∈ GW := gw_of 899 (by decide +kernel) rfl
theorem q873 : Cond.methodLink "EchoChamberLaw" 145 yX6_measure ∈ GW := gw_of 900 (by decide +kernel) rfl
theorem q874 : Cond.instanceMethod yX6_measure ∈ GW := gw_of 901 (by decide +kernel) rfl
theorem q875 : Cond.selects "EchoChamberModel" yX6_measure yX6_measure ∈ GW := gw_of 902 (by decide +kernel) rfl
theorem q876 : Cond.code yX6_measure prog_8_method_19_code 8 (Option.some FieldType.int) ∈ GW := gw_of 903 (by decide +kernel) rfl
theorem q877 : Cond.methodLink "EchoChamberLaw" 149 yX6_sample ∈ GW := gw_of 904 (by decide +kernel) rfl
theorem q878 : Cond.instanceMethod yX6_sample ∈ GW := gw_of 905 (by decide +kernel) rfl
theorem q879 : Cond.selects "EchoChamberModel" yX6_sample yX6_sample ∈ GW := gw_of 906 (by decide +kernel) rfl
theorem q880 : Cond.code yX6_sample prog_8_method_20_code 3 (Option.some FieldType.int) ∈ GW := gw_of 907 (by decide +kernel) rfl
theorem q881 : Cond.methodLink "EchoChamberModel" 111 yX6_failsAnswer ∈ GW := gw_of 908 (by decide +kernel) rfl
theorem q883 : Cond.instanceMethod yX6_failsAnswer ∈ GW := gw_of 910 (by decide +kernel) rfl
theorem q884 : Cond.code yX6_failsAnswer prog_8_method_7_code 2 (Option.some FieldType.boolean) ∈ GW := gw_of 911 (by decide +kernel) rfl
theorem q885 : Cond.methodLink "EchoChamberLaw" 152 yX6_age ∈ GW := gw_of 912 (by decide +kernel) rfl
theorem q886 : Cond.instanceMethod yX6_age ∈ GW := gw_of 913 (by decide +kernel) rfl
theorem q887 : Cond.selects "EchoChamberModel" yX6_age yX6_age ∈ GW := gw_of 914 (by decide +kernel) rfl
theorem q888 : Cond.code yX6_age prog_8_method_22_code 2 (Option.some FieldType.int) ∈ GW := gw_of 915 (by decide +kernel) rfl
theorem q889 : Cond.methodLink "EchoChamberModel" 114 yX6_ageOf ∈ GW := gw_of 916 (by decide +kernel) rfl
theorem q891 : Cond.instanceMethod yX6_ageOf ∈ GW := gw_of 918 (by decide +kernel) rfl
theorem q892 : Cond.code yX6_ageOf prog_8_method_21_code 2 (Option.some FieldType.int) ∈ GW := gw_of 919 (by decide +kernel) rfl
theorem q893 : Cond.methodLink "EchoChamberLaw" 156 yX6_latest ∈ GW := gw_of 920 (by decide +kernel) rfl
theorem q894 : Cond.instanceMethod yX6_latest ∈ GW := gw_of 921 (by decide +kernel) rfl
theorem q895 : Cond.selects "EchoChamberModel" yX6_latest yX6_latest ∈ GW := gw_of 922 (by decide +kernel) rfl
theorem q896 : Cond.code yX6_latest prog_8_method_24_code 7 (Option.some FieldType.int) ∈ GW := gw_of 923 (by decide +kernel) rfl
theorem q897 : Cond.methodLink "EchoChamberModel" 118 yX6_latestOf ∈ GW := gw_of 924 (by decide +kernel) rfl
theorem q899 : Cond.instanceMethod yX6_latestOf ∈ GW := gw_of 926 (by decide +kernel) rfl
theorem q900 : Cond.code yX6_latestOf prog_8_method_23_code 6 (Option.some FieldType.int) ∈ GW := gw_of 927 (by decide +kernel) rfl
theorem q901 : Cond.methodLink "EchoChamberLaw" 159 yX6_statesMeasured ∈ GW := gw_of 928 (by decide +kernel) rfl
theorem q902 : Cond.instanceMethod yX6_statesMeasured ∈ GW := gw_of 929 (by decide +kernel) rfl
theorem q903 : Cond.selects "EchoChamberModel" yX6_statesMeasured yX6_statesMeasured ∈ GW := gw_of 930 (by decide +kernel) rfl
theorem q904 : Cond.code yX6_statesMeasured prog_8_method_25_code 6 (Option.some FieldType.int) ∈ GW := gw_of 931 (by decide +kernel) rfl
theorem q905 : Cond.methodLink "EchoChamberLaw" 163 yX6_answers ∈ GW := gw_of 932 (by decide +kernel) rfl
theorem q906 : Cond.instanceMethod yX6_answers ∈ GW := gw_of 933 (by decide +kernel) rfl
theorem q907 : Cond.selects "EchoChamberModel" yX6_answers yX6_answers ∈ GW := gw_of 934 (by decide +kernel) rfl
theorem q908 : Cond.code yX6_answers prog_8_method_26_code 1 (Option.some FieldType.int) ∈ GW := gw_of 935 (by decide +kernel) rfl
theorem q909 : Cond.methodLink "EchoChamberLaw" 166 yX6_makeFilter ∈ GW := gw_of 936 (by decide +kernel) rfl
theorem q910 : Cond.instanceMethod yX6_makeFilter ∈ GW := gw_of 937 (by decide +kernel) rfl
theorem q911 : Cond.selects "EchoChamberModel" yX6_makeFilter yX6_makeFilter ∈ GW := gw_of 938 (by decide +kernel) rfl
theorem q912 : Cond.code yX6_makeFilter prog_8_method_27_code 7 (Option.some FieldType.int) ∈ GW := gw_of 939 (by decide +kernel) rfl
theorem q913 : Cond.methodLink "EchoChamberLaw" 169 yX6_answerOf ∈ GW := gw_of 940 (by decide +kernel) rfl
theorem q914 : Cond.instanceMethod yX6_answerOf ∈ GW := gw_of 941 (by decide +kernel) rfl
theorem q915 : Cond.selects "EchoChamberModel" yX6_answerOf yX6_answerOf ∈ GW := gw_of 942 (by decide +kernel) rfl
theorem q916 : Cond.code yX6_answerOf prog_8_method_28_code 2 (Option.some FieldType.int) ∈ GW := gw_of 943 (by decide +kernel) rfl
theorem q917 : Cond.methodLink "EchoChamberModel" 122 yX6_failsFilter ∈ GW := gw_of 944 (by decide +kernel) rfl
theorem q919 : Cond.instanceMethod yX6_failsFilter ∈ GW := gw_of 946 (by decide +kernel) rfl
theorem q920 : Cond.code yX6_failsFilter prog_8_method_8_code 2 (Option.some FieldType.boolean) ∈ GW := gw_of 947 (by decide +kernel) rfl
theorem q921 : Cond.methodLink "EchoChamberLaw" 172 yX6_tap ∈ GW := gw_of 948 (by decide +kernel) rfl
theorem q922 : Cond.instanceMethod yX6_tap ∈ GW := gw_of 949 (by decide +kernel) rfl
theorem q923 : Cond.selects "EchoChamberModel" yX6_tap yX6_tap ∈ GW := gw_of 950 (by decide +kernel) rfl
theorem q924 : Cond.code yX6_tap prog_8_method_29_code 3 (Option.some FieldType.long) ∈ GW := gw_of 951 (by decide +kernel) rfl
theorem q925 : Cond.methodLink "EchoChamberLaw" 175 yX6_bar ∈ GW := gw_of 952 (by decide +kernel) rfl
theorem q926 : Cond.instanceMethod yX6_bar ∈ GW := gw_of 953 (by decide +kernel) rfl
theorem q927 : Cond.selects "EchoChamberModel" yX6_bar yX6_bar ∈ GW := gw_of 954 (by decide +kernel) rfl
theorem q928 : Cond.code yX6_bar prog_8_method_31_code 2 (Option.some FieldType.char) ∈ GW := gw_of 955 (by decide +kernel) rfl
theorem q929 : Cond.methodLink "EchoChamberModel" 125 yX6_barOf ∈ GW := gw_of 956 (by decide +kernel) rfl
theorem q931 : Cond.instanceMethod yX6_barOf ∈ GW := gw_of 958 (by decide +kernel) rfl
theorem q932 : Cond.code yX6_barOf prog_8_method_30_code 4 (Option.some FieldType.char) ∈ GW := gw_of 959 (by decide +kernel) rfl
theorem q933 : Cond.methodLink "EchoChamberLaw" 178 yX6_use ∈ GW := gw_of 960 (by decide +kernel) rfl
theorem q934 : Cond.instanceMethod yX6_use ∈ GW := gw_of 961 (by decide +kernel) rfl
theorem q935 : Cond.selects "EchoChamberModel" yX6_use yX6_use ∈ GW := gw_of 962 (by decide +kernel) rfl
theorem q936 : Cond.code yX6_use prog_8_method_32_code 6 (Option.some FieldType.long) ∈ GW := gw_of 963 (by decide +kernel) rfl
theorem q937 : Cond.methodLink "EchoChamberLaw" 181 yX6_inputs ∈ GW := gw_of 964 (by decide +kernel) rfl
theorem q938 : Cond.instanceMethod yX6_inputs ∈ GW := gw_of 965 (by decide +kernel) rfl
theorem q939 : Cond.selects "EchoChamberModel" yX6_inputs yX6_inputs ∈ GW := gw_of 966 (by decide +kernel) rfl
theorem q940 : Cond.code yX6_inputs prog_8_method_33_code 2 (Option.some FieldType.int) ∈ GW := gw_of 967 (by decide +kernel) rfl
theorem q941 : Cond.methodLink "EchoChamberLaw" 185 yX6_product ∈ GW := gw_of 968 (by decide +kernel) rfl
theorem q942 : Cond.instanceMethod yX6_product ∈ GW := gw_of 969 (by decide +kernel) rfl
theorem q943 : Cond.selects "EchoChamberModel" yX6_product yX6_product ∈ GW := gw_of 970 (by decide +kernel) rfl
theorem q944 : Cond.code yX6_product prog_8_method_36_code 4 (Option.some FieldType.long) ∈ GW := gw_of 971 (by decide +kernel) rfl
theorem q945 : Cond.methodLink "EchoChamberModel" 129 yX6_failsPair ∈ GW := gw_of 972 (by decide +kernel) rfl
theorem q947 : Cond.instanceMethod yX6_failsPair ∈ GW := gw_of 974 (by decide +kernel) rfl
theorem q948 : Cond.code yX6_failsPair prog_8_method_35_code 3 (Option.some FieldType.boolean) ∈ GW := gw_of 975 (by decide +kernel) rfl
theorem q949 : Cond.methodLink "EchoChamberModel" 132 yX6_productOf ∈ GW := gw_of 976 (by decide +kernel) rfl
theorem q951 : Cond.instanceMethod yX6_productOf ∈ GW := gw_of 978 (by decide +kernel) rfl
theorem q952 : Cond.code yX6_productOf prog_8_method_34_code 7 (Option.some FieldType.long) ∈ GW := gw_of 979 (by decide +kernel) rfl
theorem q953 : Cond.methodLink "EchoChamberLaw" 188 yX6_rightSamples ∈ GW := gw_of 980 (by decide +kernel) rfl
theorem q954 : Cond.instanceMethod yX6_rightSamples ∈ GW := gw_of 981 (by decide +kernel) rfl
theorem q955 : Cond.selects "EchoChamberModel" yX6_rightSamples yX6_rightSamples ∈ GW := gw_of 982 (by decide +kernel) rfl
theorem q956 : Cond.code yX6_rightSamples prog_8_method_38_code 3 (Option.some FieldType.int) ∈ GW := gw_of 983 (by decide +kernel) rfl
theorem q957 : Cond.methodLink "EchoChamberModel" 136 yX6_rightOf ∈ GW := gw_of 984 (by decide +kernel) rfl
theorem q959 : Cond.instanceMethod yX6_rightOf ∈ GW := gw_of 986 (by decide +kernel) rfl
theorem q960 : Cond.code yX6_rightOf prog_8_method_37_code 4 (Option.some FieldType.int) ∈ GW := gw_of 987 (by decide +kernel) rfl
theorem q961 : Cond.methodLink "EchoChamberLaw" 191 yX6_isChecked ∈ GW := gw_of 988 (by decide +kernel) rfl
theorem q962 : Cond.instanceMethod yX6_isChecked ∈ GW := gw_of 989 (by decide +kernel) rfl
theorem q963 : Cond.selects "EchoChamberModel" yX6_isChecked yX6_isChecked ∈ GW := gw_of 990 (by decide +kernel) rfl
theorem q964 : Cond.code yX6_isChecked prog_8_method_39_code 2 (Option.some FieldType.boolean) ∈ GW := gw_of 991 (by decide +kernel) rfl
theorem q965 : Cond.methodLink "EchoChamberLaw" 194 yX6_setLimit ∈ GW := gw_of 992 (by decide +kernel) rfl
theorem q966 : Cond.instanceMethod yX6_setLimit ∈ GW := gw_of 993 (by decide +kernel) rfl
theorem q967 : Cond.selects "EchoChamberModel" yX6_setLimit yX6_setLimit ∈ GW := gw_of 994 (by decide +kernel) rfl
theorem q968 : Cond.code yX6_setLimit prog_8_method_40_code 3 (Option.some FieldType.int) ∈ GW := gw_of 995 (by decide +kernel) rfl
theorem q969 : Cond.methodLink "EchoChamberLaw" 198 yX6_usable ∈ GW := gw_of 996 (by decide +kernel) rfl
theorem q970 : Cond.instanceMethod yX6_usable ∈ GW := gw_of 997 (by decide +kernel) rfl
theorem q971 : Cond.selects "EchoChamberModel" yX6_usable yX6_usable ∈ GW := gw_of 998 (by decide +kernel) rfl
theorem q972 : Cond.code yX6_usable prog_8_method_42_code 1 (Option.some FieldType.int) ∈ GW := gw_of 999 (by decide +kernel) rfl
theorem q973 : Cond.methodLink "EchoChamberModel" 139 yX6_free ∈ GW := gw_of 1000 (by decide +kernel) rfl
theorem q975 : Cond.instanceMethod yX6_free ∈ GW := gw_of 1002 (by decide +kernel) rfl
theorem q976 : Cond.code yX6_free prog_8_method_41_code 3 (Option.some FieldType.int) ∈ GW := gw_of 1003 (by decide +kernel) rfl
theorem q977 : Cond.methodLink "EchoChamberLaw" 202 yX6_book ∈ GW := gw_of 1004 (by decide +kernel) rfl
theorem q978 : Cond.instanceMethod yX6_book ∈ GW := gw_of 1005 (by decide +kernel) rfl
theorem q979 : Cond.selects "EchoChamberModel" yX6_book yX6_book ∈ GW := gw_of 1006 (by decide +kernel) rfl
theorem q980 : Cond.code yX6_book prog_8_method_44_code 9 (Option.some FieldType.int) ∈ GW := gw_of 1007 (by decide +kernel) rfl
theorem q981 : Cond.methodLink "EchoChamberModel" 146 yX6_clashOf ∈ GW := gw_of 1008 (by decide +kernel) rfl
theorem q983 : Cond.instanceMethod yX6_clashOf ∈ GW := gw_of 1010 (by decide +kernel) rfl
theorem q984 : Cond.code yX6_clashOf prog_8_method_43_code 11 (Option.some FieldType.int) ∈ GW := gw_of 1011 (by decide +kernel) rfl
theorem q985 : Cond.methodLink "EchoChamberLaw" 205 yX6_clash ∈ GW := gw_of 1012 (by decide +kernel) rfl
theorem q986 : Cond.instanceMethod yX6_clash ∈ GW := gw_of 1013 (by decide +kernel) rfl
theorem q987 : Cond.selects "EchoChamberModel" yX6_clash yX6_clash ∈ GW := gw_of 1014 (by decide +kernel) rfl
theorem q988 : Cond.code yX6_clash prog_8_method_45_code 8 (Option.some FieldType.int) ∈ GW := gw_of 1015 (by decide +kernel) rfl
theorem q989 : Cond.methodLink "EchoChamberLaw" 208 yX6_cancel ∈ GW := gw_of 1016 (by decide +kernel) rfl
theorem q990 : Cond.instanceMethod yX6_cancel ∈ GW := gw_of 1017 (by decide +kernel) rfl
theorem q991 : Cond.selects "EchoChamberModel" yX6_cancel yX6_cancel ∈ GW := gw_of 1018 (by decide +kernel) rfl
theorem q992 : Cond.code yX6_cancel prog_8_method_46_code 4 (Option.some FieldType.int) ∈ GW := gw_of 1019 (by decide +kernel) rfl
theorem q993 : Cond.methodLink "EchoChamberLaw" 211 yX6_pass ∈ GW := gw_of 1020 (by decide +kernel) rfl
theorem q994 : Cond.instanceMethod yX6_pass ∈ GW := gw_of 1021 (by decide +kernel) rfl
theorem q995 : Cond.selects "EchoChamberModel" yX6_pass yX6_pass ∈ GW := gw_of 1022 (by decide +kernel) rfl
theorem q996 : Cond.code yX6_pass prog_8_method_47_code 6 (Option.some FieldType.int) ∈ GW := gw_of 1023 (by decide +kernel) rfl
theorem q997 : Cond.methodLink "EchoChamberLaw" 215 yX6_hour ∈ GW := gw_of 1024 (by decide +kernel) rfl
theorem q998 : Cond.instanceMethod yX6_hour ∈ GW := gw_of 1025 (by decide +kernel) rfl
theorem q999 : Cond.selects "EchoChamberModel" yX6_hour yX6_hour ∈ GW := gw_of 1026 (by decide +kernel) rfl
theorem q1000 : Cond.code yX6_hour prog_8_method_48_code 1 (Option.some FieldType.int) ∈ GW := gw_of 1027 (by decide +kernel) rfl
theorem q1001 : Cond.methodLink "EchoChamberLaw" 218 yX6_nextBooking ∈ GW := gw_of 1028 (by decide +kernel) rfl
theorem q1002 : Cond.instanceMethod yX6_nextBooking ∈ GW := gw_of 1029 (by decide +kernel) rfl
theorem q1003 : Cond.selects "EchoChamberModel" yX6_nextBooking yX6_nextBooking ∈ GW := gw_of 1030 (by decide +kernel) rfl
theorem q1004 : Cond.code yX6_nextBooking prog_8_method_49_code 5 (Option.some FieldType.int) ∈ GW := gw_of 1031 (by decide +kernel) rfl
theorem q1005 : Cond.methodLink "EchoChamberLaw" 222 yX6_usableShare ∈ GW := gw_of 1032 (by decide +kernel) rfl
theorem q1006 : Cond.instanceMethod yX6_usableShare ∈ GW := gw_of 1033 (by decide +kernel) rfl
theorem q1007 : Cond.selects "EchoChamberModel" yX6_usableShare yX6_usableShare ∈ GW := gw_of 1034 (by decide +kernel) rfl
theorem q1008 : Cond.code yX6_usableShare prog_8_method_50_code 1 (Option.some FieldType.float) ∈ GW := gw_of 1035 (by decide +kernel) rfl
theorem q1009 : Cond.arrayClass FieldType.double ∈ GW := gw_of 1036 (by decide +kernel) rfl
theorem q1027 : Cond.selects "[Ljava/lang/Object;" ⟨"java/lang/Object", "getClass", "()Ljava/lang/Class;"⟩ ⟨"java/lang/Object", "getClass", "()Ljava/lang/Class;"⟩ ∈ GW := gw_of 1054 (by decide +kernel) rfl
theorem qs0 : Cond.selects yX5_firstBar.cls yX5_firstBar yX5_firstBar ∈ GW := gw_of 0 (by decide +kernel) rfl
theorem qs1 : Cond.selects yX5_newestAnswer.cls yX5_newestAnswer yX5_newestAnswer ∈ GW := gw_of 1 (by decide +kernel) rfl
theorem qs3 : Cond.selects yJx4a65c_add_72be8.cls yJx4a65c_add_72be8 yJx4a65c_add_72be8 ∈ GW := gw_of 3 (by decide +kernel) rfl
theorem qs4 : Cond.selects yJx4a65c_grow_d5877.cls yJx4a65c_grow_d5877 yJx4a65c_grow_d5877 ∈ GW := gw_of 4 (by decide +kernel) rfl
theorem qs5 : Cond.selects yJx4a65c_grow_92f84.cls yJx4a65c_grow_92f84 yJx4a65c_grow_92f84 ∈ GW := gw_of 5 (by decide +kernel) rfl
theorem qs6 : Cond.selects yX5_roomAt.cls yX5_roomAt yX5_roomAt ∈ GW := gw_of 6 (by decide +kernel) rfl
theorem qs7 : Cond.selects yX5_answerAt.cls yX5_answerAt yX5_answerAt ∈ GW := gw_of 7 (by decide +kernel) rfl
theorem qs8 : Cond.selects yX5_isFirstOfItsState.cls yX5_isFirstOfItsState yX5_isFirstOfItsState ∈ GW := gw_of 8 (by decide +kernel) rfl
theorem qs9 : Cond.selects yX5_filterAt.cls yX5_filterAt yX5_filterAt ∈ GW := gw_of 9 (by decide +kernel) rfl
theorem qs10 : Cond.selects yX5_firstClash.cls yX5_firstClash yX5_firstClash ∈ GW := gw_of 10 (by decide +kernel) rfl
theorem qs11 : Cond.selects yX5_standingBookings.cls yX5_standingBookings yX5_standingBookings ∈ GW := gw_of 11 (by decide +kernel) rfl
theorem qs12 : Cond.selects yX5_beginBookings.cls yX5_beginBookings yX5_beginBookings ∈ GW := gw_of 12 (by decide +kernel) rfl
theorem qs13 : Cond.selects yX6_fails.cls yX6_fails yX6_fails ∈ GW := gw_of 13 (by decide +kernel) rfl
theorem qs14 : Cond.selects yX6_isRoom.cls yX6_isRoom yX6_isRoom ∈ GW := gw_of 14 (by decide +kernel) rfl
theorem qs15 : Cond.selects yX6_gives.cls yX6_gives yX6_gives ∈ GW := gw_of 15 (by decide +kernel) rfl
theorem qs16 : Cond.selects yX6_failsRoom.cls yX6_failsRoom yX6_failsRoom ∈ GW := gw_of 16 (by decide +kernel) rfl
theorem qs17 : Cond.selects yX6_failsAnswer.cls yX6_failsAnswer yX6_failsAnswer ∈ GW := gw_of 17 (by decide +kernel) rfl
theorem qs18 : Cond.selects yX6_ageOf.cls yX6_ageOf yX6_ageOf ∈ GW := gw_of 18 (by decide +kernel) rfl
theorem qs19 : Cond.selects yX6_latestOf.cls yX6_latestOf yX6_latestOf ∈ GW := gw_of 19 (by decide +kernel) rfl
theorem qs20 : Cond.selects yX6_failsFilter.cls yX6_failsFilter yX6_failsFilter ∈ GW := gw_of 20 (by decide +kernel) rfl
theorem qs21 : Cond.selects yX6_barOf.cls yX6_barOf yX6_barOf ∈ GW := gw_of 21 (by decide +kernel) rfl
theorem qs22 : Cond.selects yX6_failsPair.cls yX6_failsPair yX6_failsPair ∈ GW := gw_of 22 (by decide +kernel) rfl
theorem qs23 : Cond.selects yX6_productOf.cls yX6_productOf yX6_productOf ∈ GW := gw_of 23 (by decide +kernel) rfl
theorem qs24 : Cond.selects yX6_rightOf.cls yX6_rightOf yX6_rightOf ∈ GW := gw_of 24 (by decide +kernel) rfl
theorem qs25 : Cond.selects yX6_free.cls yX6_free yX6_free ∈ GW := gw_of 25 (by decide +kernel) rfl
theorem qs26 : Cond.selects yX6_clashOf.cls yX6_clashOf yX6_clashOf ∈ GW := gw_of 26 (by decide +kernel) rfl
theorem qOi : Cond.instanceMethod objectInit ∈ GW := gw_of 58 (by decide +kernel) rfl
theorem qOc : Cond.code objectInit ⟨#[0xb1]⟩ 1 none ∈ GW := gw_of 59 (by decide +kernel) rfl
end
section
theorem cfX0 : ecC 0 RX0 TX0 7 tyX0 := ⟨rfl, by decide +kernel, tyX0_ok, nmX0⟩
theorem cfX1 : ecC 1 RX1 TX1 6 tyX1 := ⟨rfl, by decide +kernel, tyX1_ok, nmX1⟩
theorem cfX2 : ecC 2 RX2 TX2 4 tyX2 := ⟨rfl, by decide +kernel, tyX2_ok, nmX2⟩
theorem cfX3 : ecC 3 RX3 TX3 2 tyX3 := ⟨rfl, by decide +kernel, tyX3_ok, nmX3⟩
theorem cfX4 : ecC 4 RX4 TX4 3 tyX4 := ⟨rfl, by decide +kernel, tyX4_ok, nmX4⟩
theorem cfX5 : ecC 5 RX5 TX5 6 tyX5 := ⟨rfl, by decide +kernel, tyX5_ok, nmX5⟩
theorem cfX6 : ecC 6 RX6 TX6 24 tyX6 := ⟨rfl, by decide +kernel, tyX6_ok, nmX6⟩
theorem cfJx4a65c : ecC 7 RJx4a65c TJx4a65c 3 tyJx4a65c := ⟨rfl, by decide +kernel, tyJx4a65c_ok, nmJx4a65c⟩
theorem kX0_3 : Cond.methodLink RX0 3 objectInit ∈ GW := q407
theorem fX0_9 : ecF RX0 9 0 0 RX0 TX0 7 tyX0 := ⟨cfX0, by decide, "EchoChamber$Answer", q408, Or.inl rfl⟩
theorem fX0_15 : ecF RX0 15 0 1 RX0 TX0 7 tyX0 := ⟨cfX0, by decide, "EchoChamber$Answer", q410, Or.inl rfl⟩
theorem fX0_19 : ecF RX0 19 3 0 RX3 TX3 2 tyX3 := ⟨cfX3, by decide, "EchoChamber$Room", q235, Or.inl rfl⟩
theorem fX0_25 : ecF RX0 25 0 2 RX0 TX0 7 tyX0 := ⟨cfX0, by decide, "EchoChamber$Answer", q412, Or.inl rfl⟩
theorem fX0_26 : ecF RX0 26 0 3 RX0 TX0 7 tyX0 := ⟨cfX0, by decide, "EchoChamber$Answer", q414, Or.inl rfl⟩
theorem fX0_29 : ecF RX0 29 0 4 RX0 TX0 7 tyX0 := ⟨cfX0, by decide, "EchoChamber$Answer", q417, Or.inl rfl⟩
theorem fX0_33 : ecF RX0 33 0 5 RX0 TX0 7 tyX0 := ⟨cfX0, by decide, "EchoChamber$Answer", q419, Or.inl rfl⟩
theorem fX0_36 : ecF RX0 36 3 1 RX3 TX3 2 tyX3 := ⟨cfX3, by decide, "EchoChamber$Room", q238, Or.inl rfl⟩
theorem fX0_39 : ecF RX0 39 0 6 RX0 TX0 7 tyX0 := ⟨cfX0, by decide, "EchoChamber$Answer", q420, Or.inl rfl⟩
theorem kX0_42 : ecCV RX0 42 yX4_partsUnlike cX4_partsUnlike 3 (Option.some FieldType.int) 1 := ⟨q122, q110, q111, q11, q112, by decide +kernel⟩
theorem kX1_1 : Cond.methodLink RX1 1 objectInit ∈ GW := q661
theorem fX1_7 : ecF RX1 7 1 0 RX1 TX1 6 tyX1 := ⟨cfX1, by decide, "EchoChamber$Booking", q662, Or.inl rfl⟩
theorem fX1_13 : ecF RX1 13 1 1 RX1 TX1 6 tyX1 := ⟨cfX1, by decide, "EchoChamber$Booking", q664, Or.inl rfl⟩
theorem fX1_17 : ecF RX1 17 1 2 RX1 TX1 6 tyX1 := ⟨cfX1, by decide, "EchoChamber$Booking", q666, Or.inl rfl⟩
theorem fX1_21 : ecF RX1 21 1 3 RX1 TX1 6 tyX1 := ⟨cfX1, by decide, "EchoChamber$Booking", q668, Or.inl rfl⟩
theorem fX1_24 : ecF RX1 24 1 4 RX1 TX1 6 tyX1 := ⟨cfX1, by decide, "EchoChamber$Booking", q670, Or.inl rfl⟩
theorem fX1_27 : ecF RX1 27 1 5 RX1 TX1 6 tyX1 := ⟨cfX1, by decide, "EchoChamber$Booking", q671, Or.inl rfl⟩
theorem kX1_31 : ecCV RX1 31 yX4_partsUnlike cX4_partsUnlike 3 (Option.some FieldType.int) 1 := ⟨q651, q110, q111, q11, q112, by decide +kernel⟩
theorem kX1_37 : ecCS RX1 37 yX1_hoursBetween cX1_hoursBetween 2 (Option.some FieldType.long) 2 := ⟨q652, q653, q24, q654, by decide +kernel⟩
theorem kX2_3 : Cond.methodLink RX2 3 objectInit ∈ GW := q503
theorem fX2_9 : ecF RX2 9 2 0 RX2 TX2 4 tyX2 := ⟨cfX2, by decide, "EchoChamber$Filter", q507, Or.inl rfl⟩
theorem fX2_15 : ecF RX2 15 0 4 RX0 TX0 7 tyX0 := ⟨cfX0, by decide, "EchoChamber$Answer", q416, Or.inl rfl⟩
theorem kX2_21 : ecCS RX2 21 yX2_tapsUndoing cX2_tapsUndoing 6 (Option.some (FieldType.array FieldType.long)) 1 := ⟨q504, q505, q22, q506, by decide +kernel⟩
theorem fX2_25 : ecF RX2 25 2 1 RX2 TX2 4 tyX2 := ⟨cfX2, by decide, "EchoChamber$Filter", q509, Or.inl rfl⟩
theorem fX2_29 : ecF RX2 29 2 2 RX2 TX2 4 tyX2 := ⟨cfX2, by decide, "EchoChamber$Filter", q511, Or.inl rfl⟩
theorem fX2_32 : ecF RX2 32 2 3 RX2 TX2 4 tyX2 := ⟨cfX2, by decide, "EchoChamber$Filter", q512, Or.inl rfl⟩
theorem kX2_36 : ecCV RX2 36 yX2_rowSample cX2_rowSample 6 (Option.some FieldType.long) 2 := ⟨q614, q600, q601, q22, q602, by decide +kernel⟩
theorem kX3_1 : Cond.methodLink RX3 1 objectInit ∈ GW := q233
theorem fX3_7 : ecF RX3 7 3 0 RX3 TX3 2 tyX3 := ⟨cfX3, by decide, "EchoChamber$Room", q234, Or.inl rfl⟩
theorem fX3_13 : ecF RX3 13 3 1 RX3 TX3 2 tyX3 := ⟨cfX3, by decide, "EchoChamber$Room", q237, Or.inl rfl⟩
theorem kX3_17 : ecCV RX3 17 yX4_partsUnlike cX4_partsUnlike 3 (Option.some FieldType.int) 1 := ⟨q357, q110, q111, q11, q112, by decide +kernel⟩
theorem kX4_1 : Cond.methodLink RX4 1 objectInit ∈ GW := q216
theorem fX4_7 : ecF RX4 7 4 0 RX4 TX4 3 tyX4 := ⟨cfX4, by decide, "EchoChamber$State", q217, Or.inl rfl⟩
theorem fX4_13 : ecF RX4 13 4 1 RX4 TX4 3 tyX4 := ⟨cfX4, by decide, "EchoChamber$State", q219, Or.inl rfl⟩
theorem fX4_16 : ecF RX4 16 4 2 RX4 TX4 3 tyX4 := ⟨cfX4, by decide, "EchoChamber$State", q221, Or.inl rfl⟩
theorem kX5_1 : Cond.methodLink RX5 1 objectInit ∈ GW := q30
theorem nX5_7 : Cond.classLink RX5 7 RJx4a65c ∈ GW ∧ Cond.instantiable RJx4a65c 3 ∈ GW ∧ Cond.initialized RJx4a65c ∈ GW := ⟨q33, q34, q4⟩
theorem kX5_9 : ecCI RX5 9 yJx4a65c_init_da8c8 cJx4a65c_init_da8c8 1 0 := ⟨q35, q36, q4, q37, rfl, by decide +kernel⟩
theorem fX5_10 : ecF RX5 10 5 0 RX5 TX5 6 tyX5 := ⟨cfX5, by decide, "EchoChamber", q59, Or.inl rfl⟩
theorem fX5_16 : ecF RX5 16 5 1 RX5 TX5 6 tyX5 := ⟨cfX5, by decide, "EchoChamber", q60, Or.inl rfl⟩
theorem fX5_19 : ecF RX5 19 5 2 RX5 TX5 6 tyX5 := ⟨cfX5, by decide, "EchoChamber", q61, Or.inl rfl⟩
theorem fX5_22 : ecF RX5 22 5 3 RX5 TX5 6 tyX5 := ⟨cfX5, by decide, "EchoChamber", q62, Or.inl rfl⟩
theorem fX5_25 : ecF RX5 25 5 4 RX5 TX5 6 tyX5 := ⟨cfX5, by decide, "EchoChamber", q63, Or.inl rfl⟩
theorem fX5_29 : ecF RX5 29 5 5 RX5 TX5 6 tyX5 := ⟨cfX5, by decide, "EchoChamber", q64, Or.inl rfl⟩
theorem kX5_32 : ecCV RX5 32 yJx4a65c_size_8abf5 cJx4a65c_size_8abf5 1 (Option.some FieldType.int) 0 := ⟨q82, q83, q84, q4, q85, by decide +kernel⟩
theorem xX5_36 : ecX "java/lang/IllegalStateException" 36 40 := ⟨by decide, q139, q9, by decide +kernel, by decide⟩
theorem nX5_43 : Cond.classLink RX5 43 RX3 ∈ GW ∧ Cond.instantiable RX3 2 ∈ GW ∧ Cond.initialized RX3 ∈ GW := ⟨q209, q210, q10⟩
theorem nX5_45 : Cond.classLink RX5 45 RX4 ∈ GW ∧ Cond.instantiable RX4 3 ∈ GW ∧ Cond.initialized RX4 ∈ GW := ⟨q211, q212, q11⟩
theorem kX5_47 : ecCI RX5 47 yX4_init cX4_init 4 3 := ⟨q213, q214, q11, q215, rfl, by decide +kernel⟩
theorem kX5_50 : ecCI RX5 50 yX3_init cX3_init 2 1 := ⟨q230, q231, q10, q232, rfl, by decide +kernel⟩
theorem kX5_53 : ecCV RX5 53 yJx4a65c_add_9ea2d cJx4a65c_add_9ea2d 2 (Option.some FieldType.boolean) 1 := ⟨q245, q246, q247, q4, q248, by decide +kernel⟩
theorem kX5_57 : ecCV RX5 57 yX5_roomAt cX5_roomAt 2 (Option.some (FieldType.object "EchoChamber$Room")) 1 := ⟨q314, q316, qs6, q1, q317, by decide +kernel⟩
theorem kX5_61 : ecCS RX5 61 yX5_stateOf cX5_stateOf 3 (Option.some (FieldType.object "EchoChamber$State")) 3 := ⟨q334, q335, q1, q336, by decide +kernel⟩
theorem kX5_65 : ecCV RX5 65 yX3_take cX3_take 3 (Option.some FieldType.int) 1 := ⟨q353, q354, q355, q10, q356, by decide +kernel⟩
theorem fX5_69 : ecF RX5 69 3 0 RX3 TX3 2 tyX3 := ⟨cfX3, by decide, "EchoChamber$Room", q236, Or.inl rfl⟩
theorem fX5_73 : ecF RX5 73 4 0 RX4 TX4 3 tyX4 := ⟨cfX4, by decide, "EchoChamber$State", q218, Or.inl rfl⟩
theorem fX5_76 : ecF RX5 76 4 1 RX4 TX4 3 tyX4 := ⟨cfX4, by decide, "EchoChamber$State", q220, Or.inl rfl⟩
theorem fX5_79 : ecF RX5 79 4 2 RX4 TX4 3 tyX4 := ⟨cfX4, by decide, "EchoChamber$State", q222, Or.inl rfl⟩
theorem fX5_83 : ecF RX5 83 3 1 RX3 TX3 2 tyX3 := ⟨cfX3, by decide, "EchoChamber$Room", q239, Or.inl rfl⟩
theorem kX5_86 : ecCS RX5 86 yX5_checkPlace cX5_checkPlace 1 none 1 := ⟨q393, q394, q1, q395, by decide +kernel⟩
theorem xX5_90 : ecX "java/lang/IllegalArgumentException" 90 94 := ⟨by decide, q337, q19, by decide +kernel, by decide⟩
theorem kX5_95 : ecCS RX5 95 yX5_checkSample cX5_checkSample 1 none 1 := ⟨q398, q399, q1, q400, by decide +kernel⟩
theorem nX5_100 : Cond.classLink RX5 100 RX0 ∈ GW ∧ Cond.instantiable RX0 7 ∈ GW ∧ Cond.initialized RX0 ∈ GW := ⟨q117, q403, q20⟩
theorem kX5_102 : ecCI RX5 102 yX0_init cX0_init 6 5 := ⟨q404, q405, q20, q406, rfl, by decide +kernel⟩
theorem kX5_105 : ecCV RX5 105 yX5_answerAt cX5_answerAt 2 (Option.some (FieldType.object "EchoChamber$Answer")) 1 := ⟨q445, q447, qs7, q1, q448, by decide +kernel⟩
theorem xX5_109 : ecXN 109 113 := ⟨q450, q21, by decide +kernel⟩
theorem fX5_114 : ecF RX5 114 0 4 RX0 TX0 7 tyX0 := ⟨cfX0, by decide, "EchoChamber$Answer", q418, Or.inl rfl⟩
theorem kX5_118 : ecCV RX5 118 yX0_ageAt cX0_ageAt 2 (Option.some FieldType.int) 1 := ⟨q123, q124, q125, q20, q126, by decide +kernel⟩
theorem kX5_122 : ecCV RX5 122 yX5_newestAnswer cX5_newestAnswer 6 (Option.some (FieldType.object "EchoChamber$Answer")) 3 := ⟨q113, q115, qs1, q1, q116, by decide +kernel⟩
theorem fX5_128 : ecF RX5 128 0 0 RX0 TX0 7 tyX0 := ⟨cfX0, by decide, "EchoChamber$Answer", q409, Or.inl rfl⟩
theorem kX5_131 : ecCV RX5 131 yJx4a65c_get_915e3 cJx4a65c_get_915e3 2 (Option.some (FieldType.object "java/lang/Object")) 1 := ⟨q90, q91, q92, q4, q93, by decide +kernel⟩
theorem fX5_135 : ecF RX5 135 0 1 RX0 TX0 7 tyX0 := ⟨cfX0, by decide, "EchoChamber$Answer", q411, Or.inl rfl⟩
theorem kX5_139 : ecCV RX5 139 yX5_isFirstOfItsState cX5_isFirstOfItsState 4 (Option.some FieldType.boolean) 1 := ⟨q487, q489, qs8, q1, q490, by decide +kernel⟩
theorem nX5_145 : Cond.classLink RX5 145 RX2 ∈ GW ∧ Cond.instantiable RX2 4 ∈ GW ∧ Cond.initialized RX2 ∈ GW := ⟨q104, q499, q22⟩
theorem kX5_147 : ecCI RX5 147 yX2_init cX2_init 2 1 := ⟨q500, q501, q22, q502, rfl, by decide +kernel⟩
theorem kX5_150 : ecCV RX5 150 yX5_filterAt cX5_filterAt 2 (Option.some (FieldType.object "EchoChamber$Filter")) 1 := ⟨q531, q533, qs9, q1, q534, by decide +kernel⟩
theorem fX5_154 : ecF RX5 154 2 0 RX2 TX2 4 tyX2 := ⟨cfX2, by decide, "EchoChamber$Filter", q508, Or.inl rfl⟩
theorem fX5_160 : ecF RX5 160 2 1 RX2 TX2 4 tyX2 := ⟨cfX2, by decide, "EchoChamber$Filter", q510, Or.inl rfl⟩
theorem kX5_164 : ecCV RX5 164 yX5_firstBar cX5_firstBar 3 (Option.some FieldType.char) 1 := ⟨q105, q107, qs0, q1, q108, by decide +kernel⟩
theorem xX5_170 : ecX "java/lang/UnsupportedOperationException" 170 174 := ⟨by decide, q560, q23, by decide +kernel, by decide⟩
theorem kX5_175 : ecCV RX5 175 yX2_getInput cX2_getInput 3 none 1 := ⟨q576, q577, q578, q22, q579, by decide +kernel⟩
theorem kX5_178 : ecCV RX5 178 yX2_given cX2_given 4 (Option.some FieldType.long) 0 := ⟨q580, q581, q582, q22, q583, by decide +kernel⟩
theorem fX5_182 : ecF RX5 182 2 3 RX2 TX2 4 tyX2 := ⟨cfX2, by decide, "EchoChamber$Filter", q513, Or.inl rfl⟩
theorem kX5_187 : ecCV RX5 187 yX2_rowSample cX2_rowSample 6 (Option.some FieldType.long) 2 := ⟨q599, q600, q601, q22, q602, by decide +kernel⟩
theorem kX5_191 : ecCV RX5 191 yX2_rightSamplesWith cX2_rightSamplesWith 3 (Option.some FieldType.int) 1 := ⟨q610, q611, q612, q22, q613, by decide +kernel⟩
theorem kX5_199 : ecCV RX5 199 yX5_firstClash cX5_firstClash 7 (Option.some (FieldType.object "EchoChamber$Booking")) 4 := ⟨q638, q640, qs10, q1, q641, by decide +kernel⟩
theorem nX5_207 : Cond.classLink RX5 207 RX1 ∈ GW ∧ Cond.instantiable RX1 6 ∈ GW ∧ Cond.initialized RX1 ∈ GW := ⟨q642, q657, q24⟩
theorem kX5_209 : ecCI RX5 209 yX1_init cX1_init 6 5 := ⟨q658, q659, q24, q660, rfl, by decide +kernel⟩
theorem fX5_216 : ecF RX5 216 1 0 RX1 TX1 6 tyX1 := ⟨cfX1, by decide, "EchoChamber$Booking", q663, Or.inl rfl⟩
theorem xX5_217 : ecX "java/lang/IndexOutOfBoundsException" 217 221 := ⟨by decide, q318, q16, by decide +kernel, by decide⟩
theorem fX5_222 : ecF RX5 222 1 5 RX1 TX1 6 tyX1 := ⟨cfX1, by decide, "EchoChamber$Booking", q672, Or.inl rfl⟩
theorem fX5_225 : ecF RX5 225 1 3 RX1 TX1 6 tyX1 := ⟨cfX1, by decide, "EchoChamber$Booking", q669, Or.inl rfl⟩
theorem kX5_230 : ecCV RX5 230 yX5_standingBookings cX5_standingBookings 3 (Option.some FieldType.int) 0 := ⟨q704, q706, qs11, q1, q707, by decide +kernel⟩
theorem kX5_235 : ecCV RX5 235 yX5_beginBookings cX5_beginBookings 4 (Option.some FieldType.int) 0 := ⟨q716, q718, qs12, q1, q719, by decide +kernel⟩
theorem kX5_238 : ecCV RX5 238 yX1_standsFor cX1_standsFor 2 (Option.some FieldType.boolean) 1 := ⟨q643, q644, q645, q24, q646, by decide +kernel⟩
theorem kX5_246 : ecCV RX5 246 yX5_usable cX5_usable 3 (Option.some FieldType.int) 0 := ⟨q736, q87, q88, q1, q89, by decide +kernel⟩
theorem fX5_259 : ecF RX5 259 0 3 RX0 TX0 7 tyX0 := ⟨cfX0, by decide, "EchoChamber$Answer", q415, Or.inl rfl⟩
theorem kX5_262 : ecCV RX5 262 yX0_isForState cX0_isForState 3 (Option.some FieldType.boolean) 2 := ⟨q118, q119, q120, q20, q121, by decide +kernel⟩
theorem fX5_266 : ecF RX5 266 0 2 RX0 TX0 7 tyX0 := ⟨cfX0, by decide, "EchoChamber$Answer", q413, Or.inl rfl⟩
theorem kX5_267 : ecCV RX5 267 yX4_partsUnlike cX4_partsUnlike 3 (Option.some FieldType.int) 1 := ⟨q109, q110, q111, q11, q112, by decide +kernel⟩
theorem kX5_270 : ecCV RX5 270 yX1_isTooNear cX1_isTooNear 5 (Option.some FieldType.boolean) 3 := ⟨q647, q648, q649, q24, q650, by decide +kernel⟩
theorem fX5_274 : ecF RX5 274 1 1 RX1 TX1 6 tyX1 := ⟨cfX1, by decide, "EchoChamber$Booking", q665, Or.inl rfl⟩
theorem fX5_275 : ecF RX5 275 1 2 RX1 TX1 6 tyX1 := ⟨cfX1, by decide, "EchoChamber$Booking", q667, Or.inl rfl⟩
theorem kX6_1 : Cond.methodLink RX6 1 objectInit ∈ GW := q742
theorem fX6_7 : ecF RX6 7 6 2 RX6 TX6 24 tyX6 := ⟨cfX6, by decide, "EchoChamberModel", q745, Or.inl rfl⟩
theorem fX6_13 : ecF RX6 13 6 4 RX6 TX6 24 tyX6 := ⟨cfX6, by decide, "EchoChamberModel", q747, Or.inl rfl⟩
theorem fX6_17 : ecF RX6 17 6 5 RX6 TX6 24 tyX6 := ⟨cfX6, by decide, "EchoChamberModel", q748, Or.inl rfl⟩
theorem fX6_20 : ecF RX6 20 6 7 RX6 TX6 24 tyX6 := ⟨cfX6, by decide, "EchoChamberModel", q750, Or.inl rfl⟩
theorem fX6_23 : ecF RX6 23 6 8 RX6 TX6 24 tyX6 := ⟨cfX6, by decide, "EchoChamberModel", q751, Or.inl rfl⟩
theorem fX6_26 : ecF RX6 26 6 9 RX6 TX6 24 tyX6 := ⟨cfX6, by decide, "EchoChamberModel", q752, Or.inl rfl⟩
theorem fX6_29 : ecF RX6 29 6 10 RX6 TX6 24 tyX6 := ⟨cfX6, by decide, "EchoChamberModel", q753, Or.inl rfl⟩
theorem fX6_32 : ecF RX6 32 6 11 RX6 TX6 24 tyX6 := ⟨cfX6, by decide, "EchoChamberModel", q754, Or.inl rfl⟩
theorem fX6_35 : ecF RX6 35 6 12 RX6 TX6 24 tyX6 := ⟨cfX6, by decide, "EchoChamberModel", q755, Or.inl rfl⟩
theorem fX6_38 : ecF RX6 38 6 14 RX6 TX6 24 tyX6 := ⟨cfX6, by decide, "EchoChamberModel", q757, Or.inl rfl⟩
theorem fX6_41 : ecF RX6 41 6 15 RX6 TX6 24 tyX6 := ⟨cfX6, by decide, "EchoChamberModel", q758, Or.inl rfl⟩
theorem fX6_45 : ecF RX6 45 6 16 RX6 TX6 24 tyX6 := ⟨cfX6, by decide, "EchoChamberModel", q759, Or.inl rfl⟩
theorem fX6_48 : ecF RX6 48 6 17 RX6 TX6 24 tyX6 := ⟨cfX6, by decide, "EchoChamberModel", q760, Or.inl rfl⟩
theorem fX6_51 : ecF RX6 51 6 19 RX6 TX6 24 tyX6 := ⟨cfX6, by decide, "EchoChamberModel", q762, Or.inl rfl⟩
theorem fX6_54 : ecF RX6 54 6 20 RX6 TX6 24 tyX6 := ⟨cfX6, by decide, "EchoChamberModel", q763, Or.inl rfl⟩
theorem fX6_57 : ecF RX6 57 6 21 RX6 TX6 24 tyX6 := ⟨cfX6, by decide, "EchoChamberModel", q764, Or.inl rfl⟩
theorem fX6_60 : ecF RX6 60 6 22 RX6 TX6 24 tyX6 := ⟨cfX6, by decide, "EchoChamberModel", q765, Or.inl rfl⟩
theorem fX6_63 : ecF RX6 63 6 23 RX6 TX6 24 tyX6 := ⟨cfX6, by decide, "EchoChamberModel", q766, Or.inl rfl⟩
theorem fX6_67 : ecF RX6 67 6 0 RX6 TX6 24 tyX6 := ⟨cfX6, by decide, "EchoChamberModel", q743, Or.inl rfl⟩
theorem fX6_70 : ecF RX6 70 6 3 RX6 TX6 24 tyX6 := ⟨cfX6, by decide, "EchoChamberModel", q746, Or.inl rfl⟩
theorem kX6_73 : ecCS RX6 73 yX6_in cX6_in 3 (Option.some FieldType.boolean) 3 := ⟨q837, q838, q5, q839, by decide +kernel⟩
theorem kX6_77 : ecCV RX6 77 yX6_isRoom cX6_isRoom 2 (Option.some FieldType.boolean) 1 := ⟨q833, q835, qs14, q5, q836, by decide +kernel⟩
theorem kX6_81 : ecCV RX6 81 yX6_fails cX6_fails 2 (Option.some FieldType.boolean) 1 := ⟨q825, q827, qs13, q5, q828, by decide +kernel⟩
theorem fX6_84 : ecF RX6 84 6 6 RX6 TX6 24 tyX6 := ⟨cfX6, by decide, "EchoChamberModel", q749, Or.inl rfl⟩
theorem fX6_87 : ecF RX6 87 6 13 RX6 TX6 24 tyX6 := ⟨cfX6, by decide, "EchoChamberModel", q756, Or.inl rfl⟩
theorem kX6_90 : ecCS RX6 90 yX6_differ cX6_differ 3 (Option.some FieldType.int) 2 := ⟨q850, q851, q5, q852, by decide +kernel⟩
theorem kX6_94 : ecCS RX6 94 yX6_isState cX6_isState 2 (Option.some FieldType.boolean) 2 := ⟨q840, q841, q5, q842, by decide +kernel⟩
theorem kX6_98 : ecCS RX6 98 yX6_state cX6_state 3 (Option.some FieldType.int) 3 := ⟨q843, q844, q5, q845, by decide +kernel⟩
theorem kX6_102 : ecCV RX6 102 yX6_gives cX6_gives 4 (Option.some FieldType.int) 2 := ⟨q846, q848, qs15, q5, q849, by decide +kernel⟩
theorem kX6_105 : ecCV RX6 105 yX6_failsRoom cX6_failsRoom 2 (Option.some FieldType.boolean) 1 := ⟨q857, q859, qs16, q5, q860, by decide +kernel⟩
theorem fX6_108 : ecF RX6 108 6 1 RX6 TX6 24 tyX6 := ⟨cfX6, by decide, "EchoChamberModel", q744, Or.inl rfl⟩
theorem kX6_111 : ecCV RX6 111 yX6_failsAnswer cX6_failsAnswer 2 (Option.some FieldType.boolean) 1 := ⟨q881, q883, qs17, q5, q884, by decide +kernel⟩
theorem kX6_114 : ecCV RX6 114 yX6_ageOf cX6_ageOf 2 (Option.some FieldType.int) 1 := ⟨q889, q891, qs18, q5, q892, by decide +kernel⟩
theorem kX6_118 : ecCV RX6 118 yX6_latestOf cX6_latestOf 6 (Option.some FieldType.int) 3 := ⟨q897, q899, qs19, q5, q900, by decide +kernel⟩
theorem kX6_122 : ecCV RX6 122 yX6_failsFilter cX6_failsFilter 2 (Option.some FieldType.boolean) 1 := ⟨q917, q919, qs20, q5, q920, by decide +kernel⟩
theorem kX6_125 : ecCV RX6 125 yX6_barOf cX6_barOf 4 (Option.some FieldType.char) 1 := ⟨q929, q931, qs21, q5, q932, by decide +kernel⟩
theorem kX6_129 : ecCV RX6 129 yX6_failsPair cX6_failsPair 3 (Option.some FieldType.boolean) 2 := ⟨q945, q947, qs22, q5, q948, by decide +kernel⟩
theorem kX6_132 : ecCV RX6 132 yX6_productOf cX6_productOf 7 (Option.some FieldType.long) 3 := ⟨q949, q951, qs23, q5, q952, by decide +kernel⟩
theorem kX6_136 : ecCV RX6 136 yX6_rightOf cX6_rightOf 4 (Option.some FieldType.int) 2 := ⟨q957, q959, qs24, q5, q960, by decide +kernel⟩
theorem kX6_139 : ecCV RX6 139 yX6_free cX6_free 3 (Option.some FieldType.int) 0 := ⟨q973, q975, qs25, q5, q976, by decide +kernel⟩
theorem fX6_143 : ecF RX6 143 6 18 RX6 TX6 24 tyX6 := ⟨cfX6, by decide, "EchoChamberModel", q761, Or.inl rfl⟩
theorem kX6_146 : ecCV RX6 146 yX6_clashOf cX6_clashOf 11 (Option.some FieldType.int) 4 := ⟨q981, q983, qs26, q5, q984, by decide +kernel⟩
theorem kJxa1e45_1 : Cond.methodLink RJxa1e45 1 objectInit ∈ GW := q44
theorem kJxc12de_1 : ecCI RJxc12de 1 yJxa1e45_init_da8c8 cJxa1e45_init_da8c8 1 0 := ⟨q41, q42, q2, q43, rfl, by decide +kernel⟩
theorem fJxc12de_7 : ecF RJxc12de 7 7 0 RJx4a65c TJx4a65c 3 tyJx4a65c := ⟨cfJx4a65c, by decide, "java/util/AbstractList", q49, Or.inl rfl⟩
theorem kJx4a65c_1 : ecCI RJx4a65c 1 yJxc12de_init_da8c8 cJxc12de_init_da8c8 1 0 := ⟨q38, q39, q3, q40, rfl, by decide +kernel⟩
theorem fJx4a65c_9 : ecF RJx4a65c 9 7 1 RJx4a65c TJx4a65c 3 tyJx4a65c := ⟨cfJx4a65c, by decide, "java/util/ArrayList", q47, Or.inl rfl⟩
theorem kJx4a65c_73 : ecCS RJx4a65c 73 yJ8_newLength_cabcc cJ8_newLength_cabcc 4 (Option.some FieldType.int) 3 := ⟨q261, q262, q12, q263, by decide +kernel⟩
theorem kJx4a65c_66 : ecCS RJx4a65c 66 yJ7_copyOf_1904c cJ7_copyOf_1904c 2 (Option.some (FieldType.array (FieldType.object "java/lang/Object"))) 2 := ⟨q271, q272, q14, q273, by decide +kernel⟩
theorem kJx4a65c_79 : ecCS RJx4a65c 79 yJ9_max_7cf53 cJ9_max_7cf53 2 (Option.some FieldType.int) 2 := ⟨q303, q265, q13, q266, by decide +kernel⟩
theorem nJx4a65c_7 : Cond.classLink RJx4a65c 7 "java/lang/Object" ∈ GW := q304
theorem fJx4a65c_48 : ecF RJx4a65c 48 7 2 RJx4a65c TJx4a65c 3 tyJx4a65c := ⟨cfJx4a65c, by decide, "java/util/ArrayList", q48, Or.inl rfl⟩
theorem kJx4a65c_69 : ecCV RJx4a65c 69 yJx4a65c_grow_92f84 cJx4a65c_grow_92f84 4 (Option.some (FieldType.array (FieldType.object "java/lang/Object"))) 1 := ⟨q257, q259, qs5, q4, q260, by decide +kernel⟩
theorem kJx4a65c_118 : ecCS RJx4a65c 118 yJ15_checkIndex_7cf53 cJ15_checkIndex_7cf53 2 (Option.some FieldType.int) 2 := ⟨q94, q95, q17, q96, by decide +kernel⟩
theorem kJx4a65c_123 : ecCV RJx4a65c 123 yJx4a65c_elementData_915e3 cJx4a65c_elementData_915e3 2 (Option.some (FieldType.object "java/lang/Object")) 1 := ⟨q100, q101, q102, q4, q103, by decide +kernel⟩
theorem kJx4a65c_129 : ecCV RJx4a65c 129 yJx4a65c_grow_d5877 cJx4a65c_grow_d5877 1 (Option.some (FieldType.array (FieldType.object "java/lang/Object"))) 0 := ⟨q253, q255, qs4, q4, q256, by decide +kernel⟩
theorem fJx4a65c_63 : ecF RJx4a65c 63 7 0 RJx4a65c TJx4a65c 3 tyJx4a65c := ⟨cfJx4a65c, by decide, "java/util/ArrayList", q50, Or.inr q51⟩
theorem kJx4a65c_131 : ecCV RJx4a65c 131 yJx4a65c_add_72be8 cJx4a65c_add_72be8 4 none 3 := ⟨q249, q251, qs3, q4, q252, by decide +kernel⟩
theorem kJ7_300 : ecCS RJ7 300 yJ7_copyOf_6403c cJ7_copyOf_6403c 4 (Option.some (FieldType.array (FieldType.object "java/lang/Object"))) 3 := ⟨q291, q292, q14, q293, by decide +kernel⟩
theorem nJ7_2 : Cond.classLink RJ7 2 "java/lang/Object" ∈ GW := q296
theorem nJ7_110 : Cond.classLink RJ7 110 "[Ljava/lang/Object;" ∈ GW := q294
theorem kJ7_304 : ecCS RJ7 304 yJ9_min_7cf53 cJ9_min_7cf53 2 (Option.some FieldType.int) 2 := ⟨q297, q298, q13, q299, by decide +kernel⟩
theorem kJ15_105 : ecCS RJ15 105 yJ3_checkIndex_8e157 cJ3_checkIndex_8e157 3 (Option.some FieldType.int) 3 := ⟨q97, q98, q18, q99, by decide +kernel⟩
theorem kJ8_194 : ecCS RJ8 194 yJ9_max_7cf53 cJ9_max_7cf53 2 (Option.some FieldType.int) 2 := ⟨q264, q265, q13, q266, by decide +kernel⟩
theorem kJ8_201 : ecCS RJ8 201 yJ8_hugeLength_7cf53 cJ8_hugeLength_7cf53 3 (Option.some FieldType.int) 2 := ⟨q268, q269, q12, q270, by decide +kernel⟩
theorem kL_7 : ecCV RL 7 yX5_addRoom cX5_addRoom 2 (Option.some FieldType.int) 0 := ⟨q135, q136, q137, q1, q138, by decide +kernel⟩
theorem kL_15 : ecCV RL 15 yX5_setState cX5_setState 6 (Option.some FieldType.int) 4 := ⟨q310, q311, q312, q1, q313, by decide +kernel⟩
theorem kL_23 : ecCV RL 23 yX5_curtains cX5_curtains 2 (Option.some FieldType.int) 1 := ⟨q361, q362, q363, q1, q364, by decide +kernel⟩
theorem kL_27 : ecCV RL 27 yX5_seats cX5_seats 2 (Option.some FieldType.int) 1 := ⟨q368, q369, q370, q1, q371, by decide +kernel⟩
theorem kL_30 : ecCV RL 30 yX5_areOpen cX5_areOpen 2 (Option.some FieldType.boolean) 1 := ⟨q375, q376, q377, q1, q378, by decide +kernel⟩
theorem kL_34 : ecCV RL 34 yX5_changes cX5_changes 2 (Option.some FieldType.int) 1 := ⟨q382, q383, q384, q1, q385, by decide +kernel⟩
theorem kL_37 : ecCV RL 37 yX5_measure cX5_measure 10 (Option.some FieldType.int) 6 := ⟨q389, q390, q391, q1, q392, by decide +kernel⟩
theorem kL_41 : ecCV RL 41 yX5_sample cX5_sample 4 (Option.some FieldType.int) 2 := ⟨q441, q442, q443, q1, q444, by decide +kernel⟩
theorem kL_47 : ecCV RL 47 yX5_age cX5_age 2 (Option.some FieldType.int) 1 := ⟨q469, q470, q471, q1, q472, by decide +kernel⟩
theorem kL_50 : ecCV RL 50 yX5_latest cX5_latest 8 (Option.some FieldType.int) 5 := ⟨q476, q477, q478, q1, q479, by decide +kernel⟩
theorem kL_54 : ecCV RL 54 yX5_statesMeasured cX5_statesMeasured 5 (Option.some FieldType.int) 1 := ⟨q483, q484, q485, q1, q486, by decide +kernel⟩
theorem kL_57 : ecCV RL 57 yX5_makeFilter cX5_makeFilter 4 (Option.some FieldType.int) 1 := ⟨q494, q495, q496, q1, q497, by decide +kernel⟩
theorem kL_60 : ecCV RL 60 yX5_answerOf cX5_answerOf 2 (Option.some FieldType.int) 1 := ⟨q527, q528, q529, q1, q530, by decide +kernel⟩
theorem kL_63 : ecCV RL 63 yX5_tap cX5_tap 4 (Option.some FieldType.long) 2 := ⟨q539, q540, q541, q1, q542, by decide +kernel⟩
theorem kL_67 : ecCV RL 67 yX5_bar cX5_bar 2 (Option.some FieldType.char) 1 := ⟨q547, q548, q549, q1, q550, by decide +kernel⟩
theorem kL_71 : ecCV RL 71 yX5_use cX5_use 4 (Option.some FieldType.long) 2 := ⟨q555, q556, q557, q1, q558, by decide +kernel⟩
theorem kL_76 : ecCV RL 76 yX5_inputs cX5_inputs 2 (Option.some FieldType.int) 1 := ⟨q587, q588, q589, q1, q590, by decide +kernel⟩
theorem kL_79 : ecCV RL 79 yX5_product cX5_product 6 (Option.some FieldType.long) 3 := ⟨q594, q595, q596, q1, q597, by decide +kernel⟩
theorem kL_83 : ecCV RL 83 yX5_rightSamples cX5_rightSamples 4 (Option.some FieldType.int) 2 := ⟨q606, q607, q608, q1, q609, by decide +kernel⟩
theorem kL_86 : ecCV RL 86 yX5_isChecked cX5_isChecked 3 (Option.some FieldType.boolean) 1 := ⟨q618, q619, q620, q1, q621, by decide +kernel⟩
theorem kL_89 : ecCV RL 89 yX5_setLimit cX5_setLimit 3 (Option.some FieldType.int) 1 := ⟨q625, q626, q627, q1, q628, by decide +kernel⟩
theorem kL_92 : ecCV RL 92 yX5_book cX5_book 10 (Option.some FieldType.int) 6 := ⟨q633, q634, q635, q1, q636, by decide +kernel⟩
theorem kL_96 : ecCV RL 96 yX5_clash cX5_clash 10 (Option.some FieldType.int) 6 := ⟨q689, q690, q691, q1, q692, by decide +kernel⟩
theorem kL_99 : ecCV RL 99 yX5_cancel cX5_cancel 3 (Option.some FieldType.int) 1 := ⟨q698, q699, q700, q1, q701, by decide +kernel⟩
theorem kL_102 : ecCV RL 102 yX5_pass cX5_pass 4 (Option.some FieldType.int) 1 := ⟨q711, q712, q713, q1, q714, by decide +kernel⟩
theorem kL_105 : ecCV RL 105 yX5_nextBooking cX5_nextBooking 6 (Option.some FieldType.int) 1 := ⟨q723, q724, q725, q1, q726, by decide +kernel⟩
theorem kL_108 : ecCV RL 108 yX5_usableShare cX5_usableShare 2 (Option.some FieldType.float) 0 := ⟨q731, q732, q733, q1, q734, by decide +kernel⟩
theorem nL_8 : Cond.classLink RL 8 RX5 ∈ GW ∧ Cond.instantiable RX5 6 ∈ GW ∧ Cond.initialized RX5 ∈ GW := ⟨q25, q26, q1⟩
theorem kL_112 : ecCI RL 112 yX5_init cX5_init 1 0 := ⟨q27, q28, q1, q29, rfl, by decide +kernel⟩
theorem nL_113 : Cond.classLink RL 113 RX6 ∈ GW ∧ Cond.instantiable RX6 24 ∈ GW ∧ Cond.initialized RX6 ∈ GW := ⟨q737, q738, q5⟩
theorem kL_115 : ecCI RL 115 yX6_init cX6_init 1 0 := ⟨q739, q740, q5, q741, rfl, by decide +kernel⟩
theorem kL_116 : Cond.methodLink RL 116 yL_addRoom ∈ GW ∧ Cond.static yL_addRoom ∈ GW ∧ Cond.initialized yL_addRoom.cls ∈ GW ∧ Cond.codeWith yL_addRoom cL_addRoom 3 (Option.some FieldType.int) [(0, 8, 11, 13)] ∈ GW ∧ ecHd yL_addRoom 2 := ⟨q131, q132, q0, q133, by decide +kernel⟩
theorem kL_121 : ecCV RL 121 yX6_addRoom cX6_addRoom 1 (Option.some FieldType.int) 0 := ⟨q821, q822, q823, q5, q824, by decide +kernel⟩
theorem kL_122 : ecCV RL 122 yX6_thrown cX6_thrown 1 (Option.some FieldType.int) 0 := ⟨q817, q818, q819, q5, q820, by decide +kernel⟩
theorem kL_125 : Cond.methodLink RL 125 yL_setState ∈ GW ∧ Cond.static yL_setState ∈ GW ∧ Cond.initialized yL_setState.cls ∈ GW ∧ Cond.codeWith yL_setState cL_setState 7 (Option.some FieldType.int) [(0, 14, 17, 19), (0, 14, 21, 21)] ∈ GW ∧ ecHd yL_setState 6 := ⟨q305, q306, q0, q307, by decide +kernel⟩
theorem kL_128 : ecCV RL 128 yX6_setState cX6_setState 5 (Option.some FieldType.int) 4 := ⟨q829, q830, q831, q5, q832, by decide +kernel⟩
theorem kL_129 : Cond.methodLink RL 129 yL_curtains ∈ GW ∧ Cond.static yL_curtains ∈ GW ∧ Cond.initialized yL_curtains.cls ∈ GW ∧ Cond.codeWith yL_curtains cL_curtains 4 (Option.some FieldType.int) [(0, 9, 12, 19)] ∈ GW ∧ ecHd yL_curtains 3 := ⟨q358, q359, q0, q360, by decide +kernel⟩
theorem kL_132 : ecCV RL 132 yX6_curtains cX6_curtains 2 (Option.some FieldType.int) 1 := ⟨q853, q854, q855, q5, q856, by decide +kernel⟩
theorem kL_133 : Cond.methodLink RL 133 yL_seats ∈ GW ∧ Cond.static yL_seats ∈ GW ∧ Cond.initialized yL_seats.cls ∈ GW ∧ Cond.codeWith yL_seats cL_seats 4 (Option.some FieldType.int) [(0, 9, 12, 19)] ∈ GW ∧ ecHd yL_seats 3 := ⟨q365, q366, q0, q367, by decide +kernel⟩
theorem kL_135 : ecCV RL 135 yX6_seats cX6_seats 2 (Option.some FieldType.int) 1 := ⟨q861, q862, q863, q5, q864, by decide +kernel⟩
theorem kL_136 : Cond.methodLink RL 136 yL_areOpen ∈ GW ∧ Cond.static yL_areOpen ∈ GW ∧ Cond.initialized yL_areOpen.cls ∈ GW ∧ Cond.codeWith yL_areOpen cL_areOpen 4 (Option.some FieldType.int) [(0, 16, 19, 19)] ∈ GW ∧ ecHd yL_areOpen 3 := ⟨q372, q373, q0, q374, by decide +kernel⟩
theorem kL_138 : ecCV RL 138 yX6_areOpen cX6_areOpen 2 (Option.some FieldType.boolean) 1 := ⟨q865, q866, q867, q5, q868, by decide +kernel⟩
theorem kL_139 : Cond.methodLink RL 139 yL_changes ∈ GW ∧ Cond.static yL_changes ∈ GW ∧ Cond.initialized yL_changes.cls ∈ GW ∧ Cond.codeWith yL_changes cL_changes 4 (Option.some FieldType.int) [(0, 9, 12, 19)] ∈ GW ∧ ecHd yL_changes 3 := ⟨q379, q380, q0, q381, by decide +kernel⟩
theorem kL_141 : ecCV RL 141 yX6_changes cX6_changes 2 (Option.some FieldType.int) 1 := ⟨q869, q870, q871, q5, q872, by decide +kernel⟩
theorem kL_142 : Cond.methodLink RL 142 yL_measure ∈ GW ∧ Cond.static yL_measure ∈ GW ∧ Cond.initialized yL_measure.cls ∈ GW ∧ Cond.codeWith yL_measure cL_measure 9 (Option.some FieldType.int) [(0, 18, 21, 19), (0, 18, 25, 21), (0, 18, 29, 13)] ∈ GW ∧ ecHd yL_measure 8 := ⟨q386, q387, q0, q388, by decide +kernel⟩
theorem kL_145 : ecCV RL 145 yX6_measure cX6_measure 8 (Option.some FieldType.int) 6 := ⟨q873, q874, q875, q5, q876, by decide +kernel⟩
theorem kL_146 : Cond.methodLink RL 146 yL_sample ∈ GW ∧ Cond.static yL_sample ∈ GW ∧ Cond.initialized yL_sample.cls ∈ GW ∧ Cond.codeWith yL_sample cL_sample 5 (Option.some FieldType.int) [(0, 10, 13, 19), (0, 10, 17, 45)] ∈ GW ∧ ecHd yL_sample 4 := ⟨q437, q438, q0, q439, by decide +kernel⟩
theorem kL_149 : ecCV RL 149 yX6_sample cX6_sample 3 (Option.some FieldType.int) 2 := ⟨q877, q878, q879, q5, q880, by decide +kernel⟩
theorem kL_150 : Cond.methodLink RL 150 yL_age ∈ GW ∧ Cond.static yL_age ∈ GW ∧ Cond.initialized yL_age.cls ∈ GW ∧ Cond.codeWith yL_age cL_age 4 (Option.some FieldType.int) [(0, 9, 12, 19)] ∈ GW ∧ ecHd yL_age 3 := ⟨q466, q467, q0, q468, by decide +kernel⟩
theorem kL_152 : ecCV RL 152 yX6_age cX6_age 2 (Option.some FieldType.int) 1 := ⟨q885, q886, q887, q5, q888, by decide +kernel⟩
theorem kL_153 : Cond.methodLink RL 153 yL_latest ∈ GW ∧ Cond.static yL_latest ∈ GW ∧ Cond.initialized yL_latest.cls ∈ GW ∧ Cond.codeWith yL_latest cL_latest 8 (Option.some FieldType.int) [(0, 16, 19, 19), (0, 16, 23, 21), (0, 16, 27, 45)] ∈ GW ∧ ecHd yL_latest 7 := ⟨q473, q474, q0, q475, by decide +kernel⟩
theorem kL_156 : ecCV RL 156 yX6_latest cX6_latest 7 (Option.some FieldType.int) 5 := ⟨q893, q894, q895, q5, q896, by decide +kernel⟩
theorem kL_157 : Cond.methodLink RL 157 yL_statesMeasured ∈ GW ∧ Cond.static yL_statesMeasured ∈ GW ∧ Cond.initialized yL_statesMeasured.cls ∈ GW ∧ Cond.codeWith yL_statesMeasured cL_statesMeasured 4 (Option.some FieldType.int) [(0, 9, 12, 19)] ∈ GW ∧ ecHd yL_statesMeasured 3 := ⟨q480, q481, q0, q482, by decide +kernel⟩
theorem kL_159 : ecCV RL 159 yX6_statesMeasured cX6_statesMeasured 6 (Option.some FieldType.int) 1 := ⟨q901, q902, q903, q5, q904, by decide +kernel⟩
theorem kL_160 : ecCV RL 160 yX5_answers cX5_answers 1 (Option.some FieldType.int) 0 := ⟨q78, q79, q80, q1, q81, by decide +kernel⟩
theorem kL_163 : ecCV RL 163 yX6_answers cX6_answers 1 (Option.some FieldType.int) 0 := ⟨q905, q906, q907, q5, q908, by decide +kernel⟩
theorem kL_164 : Cond.methodLink RL 164 yL_makeFilter ∈ GW ∧ Cond.static yL_makeFilter ∈ GW ∧ Cond.initialized yL_makeFilter.cls ∈ GW ∧ Cond.codeWith yL_makeFilter cL_makeFilter 4 (Option.some FieldType.int) [(0, 9, 12, 19), (0, 9, 15, 13)] ∈ GW ∧ ecHd yL_makeFilter 3 := ⟨q491, q492, q0, q493, by decide +kernel⟩
theorem kL_166 : ecCV RL 166 yX6_makeFilter cX6_makeFilter 7 (Option.some FieldType.int) 1 := ⟨q909, q910, q911, q5, q912, by decide +kernel⟩
theorem kL_167 : Cond.methodLink RL 167 yL_answerOf ∈ GW ∧ Cond.static yL_answerOf ∈ GW ∧ Cond.initialized yL_answerOf.cls ∈ GW ∧ Cond.codeWith yL_answerOf cL_answerOf 4 (Option.some FieldType.int) [(0, 9, 12, 19)] ∈ GW ∧ ecHd yL_answerOf 3 := ⟨q524, q525, q0, q526, by decide +kernel⟩
theorem kL_169 : ecCV RL 169 yX6_answerOf cX6_answerOf 2 (Option.some FieldType.int) 1 := ⟨q913, q914, q915, q5, q916, by decide +kernel⟩
theorem kL_170 : Cond.methodLink RL 170 yL_tap ∈ GW ∧ Cond.static yL_tap ∈ GW ∧ Cond.initialized yL_tap.cls ∈ GW ∧ Cond.codeWith yL_tap cL_tap 5 (Option.some FieldType.int) [(0, 9, 12, 19), (0, 9, 16, 45)] ∈ GW ∧ ecHd yL_tap 4 := ⟨q536, q537, q0, q538, by decide +kernel⟩
theorem kL_172 : ecCV RL 172 yX6_tap cX6_tap 3 (Option.some FieldType.long) 2 := ⟨q921, q922, q923, q5, q924, by decide +kernel⟩
theorem kL_173 : Cond.methodLink RL 173 yL_bar ∈ GW ∧ Cond.static yL_bar ∈ GW ∧ Cond.initialized yL_bar.cls ∈ GW ∧ Cond.codeWith yL_bar cL_bar 4 (Option.some FieldType.int) [(0, 9, 12, 19)] ∈ GW ∧ ecHd yL_bar 3 := ⟨q544, q545, q0, q546, by decide +kernel⟩
theorem kL_175 : ecCV RL 175 yX6_bar cX6_bar 2 (Option.some FieldType.char) 1 := ⟨q925, q926, q927, q5, q928, by decide +kernel⟩
theorem kL_176 : Cond.methodLink RL 176 yL_use ∈ GW ∧ Cond.static yL_use ∈ GW ∧ Cond.initialized yL_use.cls ∈ GW ∧ Cond.codeWith yL_use cL_use 5 (Option.some FieldType.int) [(0, 9, 12, 19), (0, 9, 16, 21), (0, 9, 20, 74)] ∈ GW ∧ ecHd yL_use 4 := ⟨q551, q552, q0, q553, by decide +kernel⟩
theorem kL_178 : ecCV RL 178 yX6_use cX6_use 6 (Option.some FieldType.long) 2 := ⟨q933, q934, q935, q5, q936, by decide +kernel⟩
theorem kL_179 : Cond.methodLink RL 179 yL_inputs ∈ GW ∧ Cond.static yL_inputs ∈ GW ∧ Cond.initialized yL_inputs.cls ∈ GW ∧ Cond.codeWith yL_inputs cL_inputs 4 (Option.some FieldType.int) [(0, 9, 12, 19)] ∈ GW ∧ ecHd yL_inputs 3 := ⟨q584, q585, q0, q586, by decide +kernel⟩
theorem kL_181 : ecCV RL 181 yX6_inputs cX6_inputs 2 (Option.some FieldType.int) 1 := ⟨q937, q938, q939, q5, q940, by decide +kernel⟩
theorem kL_182 : Cond.methodLink RL 182 yL_product ∈ GW ∧ Cond.static yL_product ∈ GW ∧ Cond.initialized yL_product.cls ∈ GW ∧ Cond.codeWith yL_product cL_product 6 (Option.some FieldType.int) [(0, 11, 14, 19), (0, 11, 18, 45)] ∈ GW ∧ ecHd yL_product 5 := ⟨q591, q592, q0, q593, by decide +kernel⟩
theorem kL_185 : ecCV RL 185 yX6_product cX6_product 4 (Option.some FieldType.long) 3 := ⟨q941, q942, q943, q5, q944, by decide +kernel⟩
theorem kL_186 : Cond.methodLink RL 186 yL_rightSamples ∈ GW ∧ Cond.static yL_rightSamples ∈ GW ∧ Cond.initialized yL_rightSamples.cls ∈ GW ∧ Cond.codeWith yL_rightSamples cL_rightSamples 5 (Option.some FieldType.int) [(0, 10, 13, 19)] ∈ GW ∧ ecHd yL_rightSamples 4 := ⟨q603, q604, q0, q605, by decide +kernel⟩
theorem kL_188 : ecCV RL 188 yX6_rightSamples cX6_rightSamples 3 (Option.some FieldType.int) 2 := ⟨q953, q954, q955, q5, q956, by decide +kernel⟩
theorem kL_189 : Cond.methodLink RL 189 yL_isChecked ∈ GW ∧ Cond.static yL_isChecked ∈ GW ∧ Cond.initialized yL_isChecked.cls ∈ GW ∧ Cond.codeWith yL_isChecked cL_isChecked 4 (Option.some FieldType.int) [(0, 16, 19, 19)] ∈ GW ∧ ecHd yL_isChecked 3 := ⟨q615, q616, q0, q617, by decide +kernel⟩
theorem kL_191 : ecCV RL 191 yX6_isChecked cX6_isChecked 2 (Option.some FieldType.boolean) 1 := ⟨q961, q962, q963, q5, q964, by decide +kernel⟩
theorem kL_192 : Cond.methodLink RL 192 yL_setLimit ∈ GW ∧ Cond.static yL_setLimit ∈ GW ∧ Cond.initialized yL_setLimit.cls ∈ GW ∧ Cond.codeWith yL_setLimit cL_setLimit 4 (Option.some FieldType.int) [(0, 9, 12, 21)] ∈ GW ∧ ecHd yL_setLimit 3 := ⟨q622, q623, q0, q624, by decide +kernel⟩
theorem kL_194 : ecCV RL 194 yX6_setLimit cX6_setLimit 3 (Option.some FieldType.int) 1 := ⟨q965, q966, q967, q5, q968, by decide +kernel⟩
theorem kL_195 : ecCV RL 195 yX5_usable cX5_usable 3 (Option.some FieldType.int) 0 := ⟨q86, q87, q88, q1, q89, by decide +kernel⟩
theorem kL_198 : ecCV RL 198 yX6_usable cX6_usable 1 (Option.some FieldType.int) 0 := ⟨q969, q970, q971, q5, q972, by decide +kernel⟩
theorem kL_199 : Cond.methodLink RL 199 yL_book ∈ GW ∧ Cond.static yL_book ∈ GW ∧ Cond.initialized yL_book.cls ∈ GW ∧ Cond.codeWith yL_book cL_book 9 (Option.some FieldType.int) [(0, 18, 21, 19), (0, 18, 25, 21), (0, 18, 29, 74), (0, 18, 33, 13)] ∈ GW ∧ ecHd yL_book 8 := ⟨q630, q631, q0, q632, by decide +kernel⟩
theorem kL_202 : ecCV RL 202 yX6_book cX6_book 9 (Option.some FieldType.int) 6 := ⟨q977, q978, q979, q5, q980, by decide +kernel⟩
theorem kL_203 : Cond.methodLink RL 203 yL_clash ∈ GW ∧ Cond.static yL_clash ∈ GW ∧ Cond.initialized yL_clash.cls ∈ GW ∧ Cond.codeWith yL_clash cL_clash 9 (Option.some FieldType.int) [(0, 18, 21, 19), (0, 18, 25, 21), (0, 18, 29, 45)] ∈ GW ∧ ecHd yL_clash 8 := ⟨q686, q687, q0, q688, by decide +kernel⟩
theorem kL_205 : ecCV RL 205 yX6_clash cX6_clash 8 (Option.some FieldType.int) 6 := ⟨q985, q986, q987, q5, q988, by decide +kernel⟩
theorem kL_206 : Cond.methodLink RL 206 yL_cancel ∈ GW ∧ Cond.static yL_cancel ∈ GW ∧ Cond.initialized yL_cancel.cls ∈ GW ∧ Cond.codeWith yL_cancel cL_cancel 4 (Option.some FieldType.int) [(0, 9, 12, 19), (0, 9, 15, 13)] ∈ GW ∧ ecHd yL_cancel 3 := ⟨q695, q696, q0, q697, by decide +kernel⟩
theorem kL_208 : ecCV RL 208 yX6_cancel cX6_cancel 4 (Option.some FieldType.int) 1 := ⟨q989, q990, q991, q5, q992, by decide +kernel⟩
theorem kL_209 : Cond.methodLink RL 209 yL_pass ∈ GW ∧ Cond.static yL_pass ∈ GW ∧ Cond.initialized yL_pass.cls ∈ GW ∧ Cond.codeWith yL_pass cL_pass 4 (Option.some FieldType.int) [(0, 9, 12, 21)] ∈ GW ∧ ecHd yL_pass 3 := ⟨q708, q709, q0, q710, by decide +kernel⟩
theorem kL_211 : ecCV RL 211 yX6_pass cX6_pass 6 (Option.some FieldType.int) 1 := ⟨q993, q994, q995, q5, q996, by decide +kernel⟩
theorem kL_212 : ecCV RL 212 yX5_hour cX5_hour 1 (Option.some FieldType.int) 0 := ⟨q127, q128, q129, q1, q130, by decide +kernel⟩
theorem kL_215 : ecCV RL 215 yX6_hour cX6_hour 1 (Option.some FieldType.int) 0 := ⟨q997, q998, q999, q5, q1000, by decide +kernel⟩
theorem kL_216 : Cond.methodLink RL 216 yL_nextBooking ∈ GW ∧ Cond.static yL_nextBooking ∈ GW ∧ Cond.initialized yL_nextBooking.cls ∈ GW ∧ Cond.codeWith yL_nextBooking cL_nextBooking 4 (Option.some FieldType.int) [(0, 9, 12, 19), (0, 9, 15, 45)] ∈ GW ∧ ecHd yL_nextBooking 3 := ⟨q720, q721, q0, q722, by decide +kernel⟩
theorem kL_218 : ecCV RL 218 yX6_nextBooking cX6_nextBooking 5 (Option.some FieldType.int) 1 := ⟨q1001, q1002, q1003, q5, q1004, by decide +kernel⟩
theorem kL_219 : Cond.methodLink RL 219 yL_usableShare ∈ GW ∧ Cond.static yL_usableShare ∈ GW ∧ Cond.initialized yL_usableShare.cls ∈ GW ∧ Cond.codeWith yL_usableShare cL_usableShare 3 (Option.some FieldType.int) [(0, 8, 11, 45)] ∈ GW ∧ ecHd yL_usableShare 2 := ⟨q728, q729, q0, q730, by decide +kernel⟩
theorem kL_222 : ecCV RL 222 yX6_usableShare cX6_usableShare 1 (Option.some FieldType.float) 0 := ⟨q1005, q1006, q1007, q5, q1008, by decide +kernel⟩
end
section
/-! THE STATE OF A LABORATORY, in numbers: naturals (codes of states, numbers of rooms, answers; 7: how many), ints, the taps. Both sides, the class's world and the reference's rows, are read off it.
M.1: 0 a room's state, 1 an answer's room, 2 its state, 3 a filter's answer, 4 a booking's room, 5 its state, 6 whether it is cancelled, 7 the counts (0 rooms, 1 answers, 2 filters, 3 bookings).
M.2.1: 0 a room's changes, 1 an answer's place, 2 its hour, 3 its changes then, 4 the samples (4 i + k), 5 the pasts (6 i + k), 6 a filter's inputs, 7 a booking's first hour, 8 its last, 9 the hour (0) and the limit (1). M.2.2: the taps (6 i + k). -/
abbrev ecM : Type := (Nat → Nat → Nat) × (Nat → Nat → Int32) × (Nat → Int64)
def up2 {α : Type} (f : Nat → Nat → α) (k i : Nat) (v : α) : Nat → Nat → α := fun a j => if a = k then (if j = i then v else f a j) else f a j
theorem up2_s {α : Type} {f : Nat → Nat → α} {k i : Nat} {v : α} : up2 f k i v k i = v := by simp [up2]
theorem up2_n {α : Type} {f : Nat → Nat → α} {k i j : Nat} {v : α} (h : j ≠ i) : up2 f k i v k j = f k j := by simp [up2, h]
theorem up2_k {α : Type} {f : Nat → Nat → α} {k i a j : Nat} {v : α} (h : a ≠ k) : up2 f k i v a j = f a j := by simp [up2, h]
def setN (M : ecM) (k i v : Nat) : ecM := (up2 M.1 k i v, M.2.1, M.2.2)
def setI (M : ecM) (k i : Nat) (v : Int32) : ecM := (M.1, up2 M.2.1 k i v, M.2.2)
def setJ (M : ecM) (i : Nat) (v : Int64) : ecM := (M.1, M.2.1, vp_updL M.2.2 i v)
/-- in how many parts two states differ -/
def dif (a b : Nat) : Nat := (if a / 20 = b / 20 then 0 else 1) + (if a % 20 / 2 = b % 20 / 2 then 0 else 1) + (if a % 2 = b % 2 then 0 else 1)
theorem dif_le (a b : Nat) : dif a b ≤ 3 := by unfold dif; split <;> split <;> split <;> omega
theorem dif_0 {a b : Nat} (ha : a < 80) (hb : b < 80) : dif a b = 0 ↔ a = b := by
  constructor
  · intro h
    unfold dif at h
    by_cases h1 : a / 20 = b / 20
    · by_cases h2 : a % 20 / 2 = b % 20 / 2
      · by_cases h3 : a % 2 = b % 2
        · omega
        · simp [h3] at h
      · simp [h2] at h
    · simp [h1] at h
  · intro h
    subst h
    simp [dif]
def ixB (x : Int32) (n : Nat) : Bool := decide (0 ≤ x) && decide (x < nI n)
theorem ixB_t {x : Int32} {n : Nat} (hn : n < 2 ^ 31) (h : ixB x n = true) : ∃ j : Nat, j < n ∧ x = nI j := by
  simp only [ixB, Bool.and_eq_true, decide_eq_true_eq] at h
  rcases pk_ix x hn with q | q | q
  · exact (Int32.lt_irrefl (Int32.lt_of_lt_of_le q h.1)).elim
  · exact (Int32.lt_irrefl (Int32.lt_of_lt_of_le h.2 q)).elim
  · exact q
theorem ixB_of {j n : Nat} (hn : n < 2 ^ 31) (h : j < n) : ixB (nI j) n = true := by
  simp only [ixB, Bool.and_eq_true, decide_eq_true_eq]
  exact ⟨nI_pos' (by omega), nI_lt h hn⟩
theorem ixB_lo {x : Int32} {n : Nat} (h : x < 0) : ixB x n = false := by
  have : ¬ 0 ≤ x := fun z => Int32.lt_irrefl (Int32.lt_of_lt_of_le h z)
  simp [ixB, this]
theorem ixB_hi {x : Int32} {n : Nat} (h : nI n ≤ x) : ixB x n = false := by
  have : ¬ x < nI n := fun z => Int32.lt_irrefl (Int32.lt_of_lt_of_le z h)
  simp [ixB, this]
theorem ixB_ok {x : Int32} {n : Nat} (h1 : ¬ x < 0) (h2 : ¬ nI n ≤ x) : ixB x n = true := by
  simp only [ixB, Bool.and_eq_true, decide_eq_true_eq]
  exact ⟨Int32.not_lt.mp h1, Int32.not_le.mp h2⟩
def rgB (x lo hi : Int32) : Bool := decide (lo ≤ x) && decide (x ≤ hi)
def stB (c s : Int32) : Bool := rgB c 0 3 && rgB s 0 9
def b1 (o : Bool) : Nat := if o = true then 1 else 0
def cdN (c s : Int32) (o : Bool) : Nat := 20 * c.toNatClampNeg + 2 * s.toNatClampNeg + b1 o
abbrev mnR (M : ecM) : Nat := M.1 7 0
abbrev mnA (M : ecM) : Nat := M.1 7 1
abbrev mnF (M : ecM) : Nat := M.1 7 2
abbrev mnB (M : ecM) : Nat := M.1 7 3
abbrev mhr (M : ecM) : Int32 := M.2.1 9 0
abbrev mlm (M : ecM) : Int32 := M.2.1 9 1
/-- what always holds of it -/
def WF (M : ecM) : Prop := mnR M ≤ 4 ∧ mnA M ≤ 40 ∧ mnF M ≤ 20 ∧ mnB M ≤ 16 ∧ (∀ i, M.1 0 i < 80) ∧ (∀ i, mnR M ≤ i → M.1 0 i = 0 ∧ M.2.1 0 i = 0) ∧
  (∀ i, i < mnA M → M.1 1 i < mnR M ∧ M.1 2 i < 80) ∧ (∀ i, i < mnF M → M.1 3 i < mnA M) ∧ (∀ i, i < mnB M → M.1 4 i < mnR M ∧ M.1 5 i < 80 ∧ 0 < (M.2.1 8 i).toInt) ∧
  (∀ i, M.1 6 i ≤ 1) ∧ (∀ i, mnB M ≤ i → M.1 6 i = 0) ∧ (∀ i, mnF M ≤ i → M.2.1 6 i = 0) ∧ (∀ j, 6 * mnF M ≤ j → M.2.1 5 j = 0) ∧ 0 ≤ (mhr M).toInt ∧ (mhr M).toInt ≤ 9999
/-- a room is given a state -/
def gvM (M : ecM) (r k : Nat) : ecM := setI (setN M 0 r k) 0 r (M.2.1 0 r + nI (dif (M.1 0 r) k))
/-- the latest of the first n answers for a room, a place and a state -/
def latN (M : ecM) (r : Nat) (pl : Int32) (k : Nat) : Nat → Option Nat
  | 0 => none
  | n + 1 => if M.1 1 n = r ∧ M.1 2 n = k ∧ M.2.1 1 n = pl then some n else latN M r pl k n
theorem latN_lt {M : ecM} {r : Nat} {pl : Int32} {k a : Nat} : ∀ {n : Nat}, latN M r pl k n = some a → a < n
  | 0, h => by cases h
  | n + 1, h => by
    unfold latN at h
    split at h
    · cases h; omega
    · have := latN_lt h; omega
/-- none of the first j answers is for the room and state of the answer i -/
def frN (M : ecM) (i : Nat) : Nat → Bool
  | 0 => true
  | j + 1 => frN M i j && !(decide (M.1 1 j = M.1 1 i) && decide (M.1 2 j = M.1 2 i))
def smN (M : ecM) (r : Nat) : Nat → Nat
  | 0 => 0
  | n + 1 => smN M r n + (if decide (M.1 1 n = r) && frN M n n then 1 else 0)
theorem smN_le (M : ecM) (r : Nat) : ∀ n, smN M r n ≤ n
  | 0 => Nat.le_refl 0
  | n + 1 => by have := smN_le M r n; unfold smN; split <;> omega
def ageM (M : ecM) (a : Nat) : Int32 := mhr M - M.2.1 2 a + 2 * (M.2.1 0 (M.1 1 a) - M.2.1 3 a)
/-- the first bar, as a sign -/
def barM (M : ecM) (f : Nat) : Int32 := if M.1 0 (M.1 1 (M.1 3 f)) = M.1 2 (M.1 3 f) then (if latN M (M.1 1 (M.1 3 f)) (M.2.1 1 (M.1 3 f)) (M.1 2 (M.1 3 f)) (mnA M) = some (M.1 3 f) then (if mlm M < ageM M (M.1 3 f) then 111 else 45) else 108) else 115
def freN (M : ecM) : Nat → Nat
  | 0 => 0
  | n + 1 => freN M n + (if barM M n = 45 then 1 else 0)
theorem freN_le (M : ecM) : ∀ n, freN M n ≤ n
  | 0 => Nat.le_refl 0
  | n + 1 => by have := freN_le M n; unfold freN; split <;> omega
/-- the product row: a partial sum, a sample; the taps; what a use gives -/
def prS (s : Nat → Int32) (t : Nat → Int64) (n : Nat) : Nat → Int64
  | 0 => 0
  | k + 1 => prS s t n k + (s k).toInt64 * t (n - k)
def prd (s : Nat → Int32) (t : Nat → Int64) (n : Nat) : Int64 := prS s t n (if n < 3 then n + 1 else 4)
def rgtN (s : Nat → Int32) (t : Nat → Int64) : Nat → Nat → Nat
  | _, 0 => 0
  | n, d + 1 => if prd s t n = (if n = 0 then 1 else 0) then 1 + rgtN s t (n + 1) d else 0
def rgt (s : Nat → Int32) (t : Nat → Int64) : Nat := rgtN s t 0 6
def tp1 (s : Nat → Int32) : Int64 := (-s 0).toInt64 * (0 + (s 1).toInt64 * (s 0).toInt64)
def tp2 (s : Nat → Int32) : Int64 := (-s 0).toInt64 * (0 + (s 1).toInt64 * tp1 s + (s 2).toInt64 * (s 0).toInt64)
def tp3 (s : Nat → Int32) : Int64 := (-s 0).toInt64 * (0 + (s 1).toInt64 * tp2 s + (s 2).toInt64 * tp1 s + (s 3).toInt64 * (s 0).toInt64)
def tp4 (s : Nat → Int32) : Int64 := (-s 0).toInt64 * (0 + (s 1).toInt64 * tp3 s + (s 2).toInt64 * tp2 s + (s 3).toInt64 * tp1 s)
def tp5 (s : Nat → Int32) : Int64 := (-s 0).toInt64 * (0 + (s 1).toInt64 * tp4 s + (s 2).toInt64 * tp3 s + (s 3).toInt64 * tp2 s)
def tpF (s : Nat → Int32) : Nat → Int64
  | 0 => (s 0).toInt64
  | 1 => tp1 s
  | 2 => tp2 s
  | 3 => tp3 s
  | 4 => tp4 s
  | _ => tp5 s
def gvS (t : Nat → Int64) (q : Nat → Int32) : Nat → Int64
  | 0 => 0
  | k + 1 => gvS t q k + t k * (q k).toInt64
/-- a filter's samples, taps, past -/
abbrev smA (M : ecM) (a : Nat) : Nat → Int32 := fun k => M.2.1 4 (4 * a + k)
abbrev tpA (M : ecM) (f : Nat) : Nat → Int64 := fun k => M.2.2 (6 * f + k)
abbrev psA (M : ecM) (f : Nat) : Nat → Int32 := fun k => M.2.1 5 (6 * f + k)
def psU (q : Nat → Int32) (x : Int32) : Nat → Int32
  | 0 => x
  | k + 1 => q k
/-- a booking is for the room, stands, and is too near -/
def nearB (M : ecM) (k c : Nat) (first last : Int32) : Bool := decide ((M.2.1 7 k).toInt - last.toInt ≤ dif (M.1 5 k) c) && decide (first.toInt - (M.2.1 8 k).toInt ≤ dif (M.1 5 k) c)
def clB (M : ecM) (r c : Nat) (first last : Int32) (k : Nat) : Bool := (decide (M.1 6 k = 0) && decide (M.1 4 k = r)) && nearB M k c first last
def fstN (q : Nat → Bool) : Nat → Nat → Option Nat
  | _, 0 => none
  | k, d + 1 => if q k = true then some k else fstN q (k + 1) d
theorem fstN_lt {q : Nat → Bool} {a : Nat} : ∀ {d k : Nat}, fstN q k d = some a → k ≤ a ∧ a < k + d ∧ q a = true
  | 0, k, h => by cases h
  | d + 1, k, h => by
    unfold fstN at h
    split at h
    · cases h; exact ⟨Nat.le_refl _, by omega, by assumption⟩
    · have := fstN_lt h; exact ⟨by omega, by omega, this.2.2⟩
def clM (M : ecM) (r c : Nat) (first last : Int32) : Option Nat := fstN (clB M r c first last) 0 (mnB M)
def cntN (M : ecM) : Nat → Nat
  | 0 => 0
  | n + 1 => cntN M n + (if M.1 6 n = 0 then 1 else 0)
/-- the bookings that begin in the present hour, the first k of them -/
def begM (M : ecM) : Nat → ecM
  | 0 => M
  | k + 1 => if M.1 6 k = 0 ∧ M.2.1 7 k = mhr M then gvM (begM M k) (M.1 4 k) (M.1 5 k) else begM M k
def begC (M : ecM) : Nat → Nat
  | 0 => 0
  | k + 1 => begC M k + (if M.1 6 k = 0 ∧ M.2.1 7 k = mhr M then 1 else 0)
def hrM (M : ecM) : ecM := begM (setI M 9 0 (mhr M + 1)) (mnB M)
def hrC (M : ecM) : Nat := begC (setI M 9 0 (mhr M + 1)) (mnB M)
def pasM (M : ecM) : Nat → ecM
  | 0 => M
  | n + 1 => hrM (pasM M n)
def pasC (M : ecM) : Nat → Nat
  | 0 => 0
  | n + 1 => pasC M n + hrC (pasM M n)
def nxB (M : ecM) (r k : Nat) : Bool := (decide (M.1 6 k = 0) && decide (M.1 4 k = r)) && decide (mhr M < M.2.1 7 k)
def nxtN (M : ecM) (r : Nat) : Nat → Option Nat
  | 0 => none
  | n + 1 => match nxtN M r n with
    | none => if nxB M r n = true then some n else none
    | some f => if nxB M r n = true ∧ M.2.1 7 n < M.2.1 7 f then some n else some f
theorem nxtN_lt {M : ecM} {r a : Nat} : ∀ {n : Nat}, nxtN M r n = some a → a < n
  | 0, h => by cases h
  | n + 1, h => by
    unfold nxtN at h
    cases hf : nxtN M r n with
    | none =>
      rw [hf] at h
      simp only at h
      split at h
      · cases h; omega
      · cases h
    | some f =>
      rw [hf] at h
      have := nxtN_lt hf
      simp only at h
      split at h
      · cases h; omega
      · cases h; omega
end
section
section ECG
variable {p : Program} {l : Launch} {e : Env} {R : Room} {s : State} {m : MethodId} {args : Array Value} {below : List Frame} {meth : Method} {c : Code} {H : Heap} {locs : List Loc} {cells slots : Nat} {Q : State → Prop}
variable {pc mc ms : Nat} {ls : Array Slot} {rest st0 : List Value} {G : ecG} {A A0 A1 : Nat → Prop} {H0 : Heap} {ar : Array Value} {val : Value} {Φ : Nat → Prop} {vf : Nat → Value} {Po : Heap → Prop} {PoN : Nat → Heap → Prop} {X : String → Prop}
/-- behind a call that only reads: its answer is known -/
theorem ec_go1 (hr : va_Run p l e R s m args below meth c H locs cells slots mc ms (F0 m pc ls st0) rest (ecRp (fun v => v = some val) ar) (fun _ => False))
    (kk : W p l e R s m args below meth c H locs (cells + mc) (slots + ms) Q (F0 m (pc + 3) ls (val :: rest))) : W p l e R s m args below meth c H locs cells slots Q (F0 m pc ls st0) :=
  ec_goR hr (fun v hv => by subst hv; exact kk)
theorem ec_go0 (hr : va_Run p l e R s m args below meth c H locs cells slots mc ms (F0 m pc ls st0) rest (ecRp (fun v => v = none) ar) (fun _ => False))
    (kk : W p l e R s m args below meth c H locs (cells + mc) (slots + ms) Q (F0 m (pc + 3) ls rest)) : W p l e R s m args below meth c H locs cells slots Q (F0 m pc ls st0) :=
  ec_goR hr (fun v hv => by subst hv; exact kk)
/-- .. it changes the cells of A1; its answer is known, it has none, it is a cell -/
theorem ec_goE1 (hr : va_Run p l e R s m args below meth c H locs cells slots mc ms (F0 m pc ls st0) rest (ecEp (fun v H1 => v = some val ∧ Po H1) A1 ar) A1) (hS : va_S A0 H0 H locs) (hA : ∀ q, A1 q → A0 q)
    (kk : ∀ H1 locs1, Po H1 → H.size ≤ H1.size → (∀ q : Nat, q < H.size → ¬ A1 q → H1[q]? = H[q]?) → va_S A0 H0 H1 locs1 → W p l e R s m args below meth c H1 locs1 (cells + mc) (slots + ms) Q (F0 m (pc + 3) ls (val :: rest))) : W p l e R s m args below meth c H locs cells slots Q (F0 m pc ls st0) :=
  ec_goE hr hS hA (fun v H1 locs1 hv hz hk hS1 => by obtain ⟨rfl, hv⟩ := hv; exact kk H1 locs1 hv hz hk hS1)
theorem ec_goE0 (hr : va_Run p l e R s m args below meth c H locs cells slots mc ms (F0 m pc ls st0) rest (ecEp (fun v H1 => v = none ∧ Po H1) A1 ar) A1) (hS : va_S A0 H0 H locs) (hA : ∀ q, A1 q → A0 q)
    (kk : ∀ H1 locs1, Po H1 → H.size ≤ H1.size → (∀ q : Nat, q < H.size → ¬ A1 q → H1[q]? = H[q]?) → va_S A0 H0 H1 locs1 → W p l e R s m args below meth c H1 locs1 (cells + mc) (slots + ms) Q (F0 m (pc + 3) ls rest)) : W p l e R s m args below meth c H locs cells slots Q (F0 m pc ls st0) :=
  ec_goE hr hS hA (fun v H1 locs1 hv hz hk hS1 => by obtain ⟨rfl, hv⟩ := hv; exact kk H1 locs1 hv hz hk hS1)
theorem ec_goEq (hr : va_Run p l e R s m args below meth c H locs cells slots mc ms (F0 m pc ls st0) rest (ecEp (fun v H1 => ∃ q : Nat, v = some (.ref q) ∧ PoN q H1) A1 ar) A1) (hS : va_S A0 H0 H locs) (hA : ∀ q, A1 q → A0 q)
    (kk : ∀ (q : Nat) H1 locs1, PoN q H1 → H.size ≤ H1.size → (∀ q : Nat, q < H.size → ¬ A1 q → H1[q]? = H[q]?) → va_S A0 H0 H1 locs1 → W p l e R s m args below meth c H1 locs1 (cells + mc) (slots + ms) Q (F0 m (pc + 3) ls (.ref q :: rest))) : W p l e R s m args below meth c H locs cells slots Q (F0 m pc ls st0) :=
  ec_goE hr hS hA (fun v H1 locs1 hv hz hk hS1 => by obtain ⟨q, rfl, hv⟩ := hv; exact kk q H1 locs1 hv hz hk hS1)
theorem ec_some {a b : Value} (h : a = b) : some a = some b := congrArg some h
theorem ec_int {a b : Int32} (h : a = b) : some (Value.int a) = some (Value.int b) := by rw [h]
theorem ec_long {a b : Int64} (h : a = b) : some (Value.long a) = some (Value.long b) := by rw [h]
theorem ec_ref {a b : Nat} (h : a = b) : some (Value.ref a) = some (Value.ref b) := by rw [h]
end ECG
/-- a room's, answer's, booking's state as an object -/
abbrev stL (k : Nat) : List Value := [.int (nI (k / 20)), .int (nI (k % 20 / 2)), .int (nI (k % 2))]
theorem nI_x {a b : Nat} (ha : a < 80) (hb : b < 80) : nI a = nI b ↔ a = b := nI_eq (by omega) (by omega)
theorem nI_01 {k : Nat} : narrow .boolean (.int (nI (k % 2))) = .int (nI (k % 2)) := by
  rcases (show k % 2 = 0 ∨ k % 2 = 1 by omega) with h | h <;> rw [h] <;> rfl
theorem nI_01f {k : Nat} : fits .boolean (.int (nI (k % 2))) = true := by
  rcases (show k % 2 = 0 ∨ k % 2 = 1 by omega) with h | h <;> rw [h] <;> rfl
end
section
set_option maxHeartbeats 4000000 in
set_option maxRecDepth 100000 in
/-- a State is made: its three parts -/
theorem c_X4_init (l : Launch) (G : ecG) (a : Nat) (x y : Int32) (o : Bool) : Met l yX4_init (ecWs yX4_init cX4_init 4 none) (ecRm 1 0 0) (ecPc [.ref a, .int x, .int y, .int (bI o)] G (fun H => ecA G a (eO 4 [.int 0, .int 0, .int 0]) H)) (ecEp (fun v H1 => v = none ∧ ecA G a (eO 4 [.int x, .int y, .int (bI o)]) H1) (fun q : Nat => q = a)) 0 0 (fun q : Nat => q = a) := by
  refine ec_met (by decide) (Nat.le_of_ble_eq_true rfl) ?_
  intro p e s m below meth c hC hr hlocks hname hOk hpre ls hl
  have hK := hOk.1
  have ha := hpre
  have hS : va_S (fun q : Nat => q = a) s.heap s.heap [] := va_S.rf
  have hl : lv_has ls 4 [(0, .ref a), (1, .int x), (2, .int y), (3, .int (bI o))] := hl
  refine lv_aload_n hC.1 hC.2.1 dX4_init_0 rfl (lv_at hl 0 rfl) ?_
  refine W.objInit hC.1 hC.2.1 hC.2.2.2.1 (hC.2.2.2.2 _ kX4_1) (hC.2.2.2.2 _ qOi) (hC.2.2.2.2 _ qOc) rfl (by rw [hC.2.2.1]; exact hl.1) rfl dX4_init_1 (Nat.le_of_ble_eq_true rfl) (Nat.le_of_ble_eq_true rfl) ?_
  refine W.eq (g2 := F0 m 4 ls []) rfl ?_
  refine lv_aload_n hC.1 hC.2.1 dX4_init_4 rfl (lv_at hl 0 rfl) ?_
  refine lv_iload_n hC.1 hC.2.1 dX4_init_5 rfl (lv_at hl 1 rfl) ?_
  refine ec_putF hC hK hS ha rfl fX4_7 rfl hname rfl rfl rfl (Nat.le_of_ble_eq_true rfl) dX4_init_6 (fun H locs h9 o9 z9 hS => ?_)
  have ha : ecA G a (eO 4 [.int x, .int 0, .int 0]) H := h9
  refine lv_aload_n hC.1 hC.2.1 dX4_init_9 rfl (lv_at hl 0 rfl) ?_
  refine lv_iload_n hC.1 hC.2.1 dX4_init_10 rfl (lv_at hl 2 rfl) ?_
  refine ec_putF hC hK hS ha rfl fX4_13 rfl hname rfl rfl rfl (Nat.le_of_ble_eq_true rfl) dX4_init_11 (fun H locs h9 o9 z9 hS => ?_)
  have ha : ecA G a (eO 4 [.int x, .int y, .int 0]) H := h9
  refine lv_aload_n hC.1 hC.2.1 dX4_init_14 rfl (lv_at hl 0 rfl) ?_
  refine lv_iload_n hC.1 hC.2.1 dX4_init_15 rfl (lv_at hl 3 rfl) ?_
  refine ec_putF hC hK hS ha rfl fX4_16 rfl hname rfl (bI_nar _) (bI_fit _) (Nat.le_of_ble_eq_true rfl) dX4_init_16 (fun H locs h9 o9 z9 hS => ?_)
  have ha : ecA G a (eO 4 [.int x, .int y, .int (bI o)]) H := h9
  exact W.vret hC.1 hC.2.1 hr (fun t9 ht9 _ => ⟨_, rfl, ⟨rfl, by rw [ht9]; exact ha⟩, hS.F ht9⟩) hS.2.2 dX4_init_19

set_option maxHeartbeats 4000000 in
set_option maxRecDepth 100000 in
/-- in how many parts two states differ -/
theorem c_X4_partsUnlike (l : Launch) (G : ecG) (a b k k2 : Nat) (hk : k < 80) (hk2 : k2 < 80) : Met l yX4_partsUnlike (ecWs yX4_partsUnlike cX4_partsUnlike 3 (Option.some FieldType.int)) (ecRm 1 0 0) (ecPc [.ref a, .ref b] G (fun H => ecA G a (eO 4 (stL k)) H ∧ ecA G b (eO 4 (stL k2)) H)) (ecRp (fun v => v = some (.int (nI (dif k k2))))) 0 0 (fun _ => False) := by
  refine ec_met (by decide) (Nat.le_of_ble_eq_true rfl) ?_
  intro p e s m below meth c hC hr hlocks hname hOk hpre ls hl
  have hK := hOk.1
  obtain ⟨ha, hb⟩ := hpre
  have hS : va_S (fun _ => False) s.heap s.heap [] := va_S.rf
  have hAN : ∀ q, (fun _ : Nat => False) q → ecN0 G ≤ q := fun _ h => h.elim
  have hl : lv_has ls 3 [(0, .ref a), (1, .ref b)] := hl
  refine lv_iconst (v := 0) hC.1 hC.2.1 dX4_partsUnlike_0 (by decide) ?_
  refine lv_istore_n (lv' := [(2, .int 0), (0, .ref a), (1, .ref b)]) hC.1 hC.2.1 dX4_partsUnlike_1 rfl hl (by decide) rfl (fun ls hl => ?_)
  refine lv_aload_n hC.1 hC.2.1 dX4_partsUnlike_2 rfl (lv_at hl 1 rfl) ?_
  refine ec_get hC hK ha fX4_7 rfl dX4_partsUnlike_3 ?_
  refine lv_aload_n hC.1 hC.2.1 dX4_partsUnlike_6 rfl (lv_at hl 2 rfl) ?_
  refine ec_get hC hK hb fX4_7 rfl dX4_partsUnlike_7 ?_
  refine lv_icmp_eq (tgt := 16) hC.1 hC.2.1 dX4_partsUnlike_10 (by decide) (fun c_10 => ?_) (fun c_10 => ?_)
  · refine lv_aload_n hC.1 hC.2.1 dX4_partsUnlike_16 rfl (lv_at hl 1 rfl) ?_
    refine ec_get hC hK ha fX4_13 rfl dX4_partsUnlike_17 ?_
    refine lv_aload_n hC.1 hC.2.1 dX4_partsUnlike_20 rfl (lv_at hl 2 rfl) ?_
    refine ec_get hC hK hb fX4_13 rfl dX4_partsUnlike_21 ?_
    refine lv_icmp_eq (tgt := 30) hC.1 hC.2.1 dX4_partsUnlike_24 (by decide) (fun c_24 => ?_) (fun c_24 => ?_)
    · refine lv_aload_n hC.1 hC.2.1 dX4_partsUnlike_30 rfl (lv_at hl 1 rfl) ?_
      refine ec_get hC hK ha fX4_16 rfl dX4_partsUnlike_31 ?_
      refine lv_aload_n hC.1 hC.2.1 dX4_partsUnlike_34 rfl (lv_at hl 2 rfl) ?_
      refine ec_get hC hK hb fX4_16 rfl dX4_partsUnlike_35 ?_
      refine lv_icmp_eq (tgt := 44) hC.1 hC.2.1 dX4_partsUnlike_38 (by decide) (fun c_38 => ?_) (fun c_38 => ?_)
      · refine lv_iload_n hC.1 hC.2.1 dX4_partsUnlike_44 rfl (lv_at hl 0 rfl) ?_
        exact W.iret hC.1 hC.2.1 hr (fun t9 ht9 _ => ⟨_, rfl, (ec_int (by unfold dif; rw [if_pos ((nI_x (by omega) (by omega)).mp c_10), if_pos ((nI_x (by omega) (by omega)).mp c_24), if_pos ((nI_x (by omega) (by omega)).mp c_38)]; rfl)), ht9⟩) hS.2.2 dX4_partsUnlike_45
      · refine lv_iinc (v := 1) (lv' := [(2, .int 1), (0, .ref a), (1, .ref b)]) hC.1 hC.2.1 dX4_partsUnlike_41 hl (k := 0) rfl (by decide) (by decide) rfl (fun ls hl => ?_)
        refine lv_iload_n hC.1 hC.2.1 dX4_partsUnlike_44 rfl (lv_at hl 0 rfl) ?_
        exact W.iret hC.1 hC.2.1 hr (fun t9 ht9 _ => ⟨_, rfl, (ec_int (by unfold dif; rw [if_pos ((nI_x (by omega) (by omega)).mp c_10), if_pos ((nI_x (by omega) (by omega)).mp c_24), if_neg (fun z => c_38 ((nI_x (by omega) (by omega)).mpr z))]; rfl)), ht9⟩) hS.2.2 dX4_partsUnlike_45
    · refine lv_iinc (v := 1) (lv' := [(2, .int 1), (0, .ref a), (1, .ref b)]) hC.1 hC.2.1 dX4_partsUnlike_27 hl (k := 0) rfl (by decide) (by decide) rfl (fun ls hl => ?_)
      refine lv_aload_n hC.1 hC.2.1 dX4_partsUnlike_30 rfl (lv_at hl 1 rfl) ?_
      refine ec_get hC hK ha fX4_16 rfl dX4_partsUnlike_31 ?_
      refine lv_aload_n hC.1 hC.2.1 dX4_partsUnlike_34 rfl (lv_at hl 2 rfl) ?_
      refine ec_get hC hK hb fX4_16 rfl dX4_partsUnlike_35 ?_
      refine lv_icmp_eq (tgt := 44) hC.1 hC.2.1 dX4_partsUnlike_38 (by decide) (fun c_38 => ?_) (fun c_38 => ?_)
      · refine lv_iload_n hC.1 hC.2.1 dX4_partsUnlike_44 rfl (lv_at hl 0 rfl) ?_
        exact W.iret hC.1 hC.2.1 hr (fun t9 ht9 _ => ⟨_, rfl, (ec_int (by unfold dif; rw [if_pos ((nI_x (by omega) (by omega)).mp c_10), if_neg (fun z => c_24 ((nI_x (by omega) (by omega)).mpr z)), if_pos ((nI_x (by omega) (by omega)).mp c_38)]; rfl)), ht9⟩) hS.2.2 dX4_partsUnlike_45
      · refine lv_iinc (v := 2) (lv' := [(2, .int 2), (0, .ref a), (1, .ref b)]) hC.1 hC.2.1 dX4_partsUnlike_41 hl (k := 0) rfl (by decide) (by decide) rfl (fun ls hl => ?_)
        refine lv_iload_n hC.1 hC.2.1 dX4_partsUnlike_44 rfl (lv_at hl 0 rfl) ?_
        exact W.iret hC.1 hC.2.1 hr (fun t9 ht9 _ => ⟨_, rfl, (ec_int (by unfold dif; rw [if_pos ((nI_x (by omega) (by omega)).mp c_10), if_neg (fun z => c_24 ((nI_x (by omega) (by omega)).mpr z)), if_neg (fun z => c_38 ((nI_x (by omega) (by omega)).mpr z))]; rfl)), ht9⟩) hS.2.2 dX4_partsUnlike_45
  · refine lv_iinc (v := 1) (lv' := [(2, .int 1), (0, .ref a), (1, .ref b)]) hC.1 hC.2.1 dX4_partsUnlike_13 hl (k := 0) rfl (by decide) (by decide) rfl (fun ls hl => ?_)
    refine lv_aload_n hC.1 hC.2.1 dX4_partsUnlike_16 rfl (lv_at hl 1 rfl) ?_
    refine ec_get hC hK ha fX4_13 rfl dX4_partsUnlike_17 ?_
    refine lv_aload_n hC.1 hC.2.1 dX4_partsUnlike_20 rfl (lv_at hl 2 rfl) ?_
    refine ec_get hC hK hb fX4_13 rfl dX4_partsUnlike_21 ?_
    refine lv_icmp_eq (tgt := 30) hC.1 hC.2.1 dX4_partsUnlike_24 (by decide) (fun c_24 => ?_) (fun c_24 => ?_)
    · refine lv_aload_n hC.1 hC.2.1 dX4_partsUnlike_30 rfl (lv_at hl 1 rfl) ?_
      refine ec_get hC hK ha fX4_16 rfl dX4_partsUnlike_31 ?_
      refine lv_aload_n hC.1 hC.2.1 dX4_partsUnlike_34 rfl (lv_at hl 2 rfl) ?_
      refine ec_get hC hK hb fX4_16 rfl dX4_partsUnlike_35 ?_
      refine lv_icmp_eq (tgt := 44) hC.1 hC.2.1 dX4_partsUnlike_38 (by decide) (fun c_38 => ?_) (fun c_38 => ?_)
      · refine lv_iload_n hC.1 hC.2.1 dX4_partsUnlike_44 rfl (lv_at hl 0 rfl) ?_
        exact W.iret hC.1 hC.2.1 hr (fun t9 ht9 _ => ⟨_, rfl, (ec_int (by unfold dif; rw [if_neg (fun z => c_10 ((nI_x (by omega) (by omega)).mpr z)), if_pos ((nI_x (by omega) (by omega)).mp c_24), if_pos ((nI_x (by omega) (by omega)).mp c_38)]; rfl)), ht9⟩) hS.2.2 dX4_partsUnlike_45
      · refine lv_iinc (v := 2) (lv' := [(2, .int 2), (0, .ref a), (1, .ref b)]) hC.1 hC.2.1 dX4_partsUnlike_41 hl (k := 0) rfl (by decide) (by decide) rfl (fun ls hl => ?_)
        refine lv_iload_n hC.1 hC.2.1 dX4_partsUnlike_44 rfl (lv_at hl 0 rfl) ?_
        exact W.iret hC.1 hC.2.1 hr (fun t9 ht9 _ => ⟨_, rfl, (ec_int (by unfold dif; rw [if_neg (fun z => c_10 ((nI_x (by omega) (by omega)).mpr z)), if_pos ((nI_x (by omega) (by omega)).mp c_24), if_neg (fun z => c_38 ((nI_x (by omega) (by omega)).mpr z))]; rfl)), ht9⟩) hS.2.2 dX4_partsUnlike_45
    · refine lv_iinc (v := 2) (lv' := [(2, .int 2), (0, .ref a), (1, .ref b)]) hC.1 hC.2.1 dX4_partsUnlike_27 hl (k := 0) rfl (by decide) (by decide) rfl (fun ls hl => ?_)
      refine lv_aload_n hC.1 hC.2.1 dX4_partsUnlike_30 rfl (lv_at hl 1 rfl) ?_
      refine ec_get hC hK ha fX4_16 rfl dX4_partsUnlike_31 ?_
      refine lv_aload_n hC.1 hC.2.1 dX4_partsUnlike_34 rfl (lv_at hl 2 rfl) ?_
      refine ec_get hC hK hb fX4_16 rfl dX4_partsUnlike_35 ?_
      refine lv_icmp_eq (tgt := 44) hC.1 hC.2.1 dX4_partsUnlike_38 (by decide) (fun c_38 => ?_) (fun c_38 => ?_)
      · refine lv_iload_n hC.1 hC.2.1 dX4_partsUnlike_44 rfl (lv_at hl 0 rfl) ?_
        exact W.iret hC.1 hC.2.1 hr (fun t9 ht9 _ => ⟨_, rfl, (ec_int (by unfold dif; rw [if_neg (fun z => c_10 ((nI_x (by omega) (by omega)).mpr z)), if_neg (fun z => c_24 ((nI_x (by omega) (by omega)).mpr z)), if_pos ((nI_x (by omega) (by omega)).mp c_38)]; rfl)), ht9⟩) hS.2.2 dX4_partsUnlike_45
      · refine lv_iinc (v := 3) (lv' := [(2, .int 3), (0, .ref a), (1, .ref b)]) hC.1 hC.2.1 dX4_partsUnlike_41 hl (k := 0) rfl (by decide) (by decide) rfl (fun ls hl => ?_)
        refine lv_iload_n hC.1 hC.2.1 dX4_partsUnlike_44 rfl (lv_at hl 0 rfl) ?_
        exact W.iret hC.1 hC.2.1 hr (fun t9 ht9 _ => ⟨_, rfl, (ec_int (by unfold dif; rw [if_neg (fun z => c_10 ((nI_x (by omega) (by omega)).mpr z)), if_neg (fun z => c_24 ((nI_x (by omega) (by omega)).mpr z)), if_neg (fun z => c_38 ((nI_x (by omega) (by omega)).mpr z))]; rfl)), ht9⟩) hS.2.2 dX4_partsUnlike_45

set_option maxHeartbeats 4000000 in
set_option maxRecDepth 100000 in
/-- a Room is made: its state, no changes -/
theorem c_X3_init (l : Launch) (G : ecG) (a q : Nat) : Met l yX3_init (ecWs yX3_init cX3_init 2 none) (ecRm 1 0 0) (ecPc [.ref a, .ref q] G (fun H => ecA G a (eO 3 [.null, .int 0]) H)) (ecEp (fun v H1 => v = none ∧ ecA G a (eO 3 [.ref q, .int 0]) H1) (fun q : Nat => q = a)) 0 0 (fun q : Nat => q = a) := by
  refine ec_met (by decide) (Nat.le_of_ble_eq_true rfl) ?_
  intro p e s m below meth c hC hr hlocks hname hOk hpre ls hl
  have hK := hOk.1
  have ha := hpre
  have hS : va_S (fun q : Nat => q = a) s.heap s.heap [] := va_S.rf
  have hl : lv_has ls 2 [(0, .ref a), (1, .ref q)] := hl
  refine lv_aload_n hC.1 hC.2.1 dX3_init_0 rfl (lv_at hl 0 rfl) ?_
  refine W.objInit hC.1 hC.2.1 hC.2.2.2.1 (hC.2.2.2.2 _ kX3_1) (hC.2.2.2.2 _ qOi) (hC.2.2.2.2 _ qOc) rfl (by rw [hC.2.2.1]; exact hl.1) rfl dX3_init_1 (Nat.le_of_ble_eq_true rfl) (Nat.le_of_ble_eq_true rfl) ?_
  refine W.eq (g2 := F0 m 4 ls []) rfl ?_
  refine lv_aload_n hC.1 hC.2.1 dX3_init_4 rfl (lv_at hl 0 rfl) ?_
  refine lv_aload_n hC.1 hC.2.1 dX3_init_5 rfl (lv_at hl 1 rfl) ?_
  refine ec_put hC hK hS ha rfl fX3_7 rfl rfl rfl (Nat.le_of_ble_eq_true rfl) dX3_init_6 (fun H locs h9 o9 z9 hS => ?_)
  have ha : ecA G a (eO 3 [.ref q, .int 0]) H := h9
  refine lv_aload_n hC.1 hC.2.1 dX3_init_9 rfl (lv_at hl 0 rfl) ?_
  refine lv_iconst (v := 0) hC.1 hC.2.1 dX3_init_10 (by decide) ?_
  refine ec_put hC hK hS ha rfl fX3_13 rfl rfl rfl (Nat.le_of_ble_eq_true rfl) dX3_init_11 (fun H locs h9 o9 z9 hS => ?_)
  have ha : ecA G a (eO 3 [.ref q, .int 0]) H := h9
  exact W.vret hC.1 hC.2.1 hr (fun t9 ht9 _ => ⟨_, rfl, ⟨rfl, by rw [ht9]; exact ha⟩, hS.F ht9⟩) hS.2.2 dX3_init_14

set_option maxHeartbeats 4000000 in
set_option maxRecDepth 100000 in
/-- a Room takes a state -/
theorem c_X3_take (l : Launch) (G : ecG) (a q q2 k k2 : Nat) (ch : Int32) (hN : ecN0 G ≤ a) (hk : k < 80) (hk2 : k2 < 80) : Met l yX3_take (ecWs yX3_take cX3_take 3 (Option.some FieldType.int)) (ecRm 2 0 0) (ecPc [.ref a, .ref q2] G (fun H => ecA G a (eO 3 [.ref q, .int ch]) H ∧ ecA G q (eO 4 (stL k)) H ∧ ecA G q2 (eO 4 (stL k2)) H)) (ecEp (fun v H1 => v = some (.int (nI (dif k k2))) ∧ ecA G a (eO 3 [.ref q2, .int (ch + nI (dif k k2))]) H1) (fun q : Nat => q = a)) 0 0 (fun q : Nat => q = a) := by
  refine ec_met (by decide) (Nat.le_of_ble_eq_true rfl) ?_
  intro p e s m below meth c hC hr hlocks hname hOk hpre ls hl
  have hK := hOk.1
  obtain ⟨ha, hq, hq2⟩ := hpre
  have hS : va_S (fun q : Nat => q = a) s.heap s.heap [] := va_S.rf
  have hAN : ∀ q, (fun q : Nat => q = a) q → ecN0 G ≤ q := fun q h => by rw [h]; exact hN
  have hl : lv_has ls 3 [(0, .ref a), (1, .ref q2)] := hl
  refine lv_aload_n hC.1 hC.2.1 dX3_take_0 rfl (lv_at hl 0 rfl) ?_
  refine ec_get hC hK ha fX3_7 rfl dX3_take_1 ?_
  refine lv_aload_n hC.1 hC.2.1 dX3_take_4 rfl (lv_at hl 1 rfl) ?_
  refine ec_go1 (ec_rV hC (c_X4_partsUnlike l G q q2 k k2 hk hk2) kX3_17 (hOk.at hS hAN) ⟨hq, hq2⟩ (ec_rc hK hq ⟨_, _, rfl⟩) hl.1 ⟨Nat.le_of_ble_eq_true rfl, Nat.le_of_ble_eq_true rfl⟩ rfl (Nat.le_of_ble_eq_true rfl) dX3_take_5 ⟨Nat.le_of_ble_eq_true rfl, Nat.le_of_ble_eq_true rfl⟩) ?_
  refine lv_istore_n (lv' := [(2, .int (nI (dif k k2))), (0, .ref a), (1, .ref q2)]) hC.1 hC.2.1 dX3_take_8 rfl hl (by decide) rfl (fun ls hl => ?_)
  refine lv_aload_n hC.1 hC.2.1 dX3_take_9 rfl (lv_at hl 1 rfl) ?_
  refine lv_aload_n hC.1 hC.2.1 dX3_take_10 rfl (lv_at hl 2 rfl) ?_
  refine ec_put hC hK hS ha rfl fX3_7 rfl rfl rfl (Nat.le_of_ble_eq_true rfl) dX3_take_11 (fun H locs h9 o9 z9 hS => ?_)
  have ha : ecA G a (eO 3 [.ref q2, .int ch]) H := h9
  refine lv_aload_n hC.1 hC.2.1 dX3_take_14 rfl (lv_at hl 1 rfl) ?_
  refine lv_dup hC.1 hC.2.1 dX3_take_15 rfl ?_
  refine ec_get hC hK ha fX3_13 rfl dX3_take_16 ?_
  refine lv_iload_n hC.1 hC.2.1 dX3_take_19 rfl (lv_at hl 0 rfl) ?_
  refine lv_iadd hC.1 hC.2.1 dX3_take_20 ?_
  refine ec_put hC hK hS ha rfl fX3_13 rfl rfl rfl (Nat.le_of_ble_eq_true rfl) dX3_take_21 (fun H locs h9 o9 z9 hS => ?_)
  have ha : ecA G a (eO 3 [.ref q2, .int (ch + (nI (dif k k2)))]) H := h9
  refine lv_iload_n hC.1 hC.2.1 dX3_take_24 rfl (lv_at hl 0 rfl) ?_
  exact W.iret hC.1 hC.2.1 hr (fun t9 ht9 _ => ⟨_, rfl, ⟨rfl, by rw [ht9]; exact ha⟩, hS.F ht9⟩) hS.2.2 dX3_take_25

set_option maxHeartbeats 4000000 in
set_option maxRecDepth 100000 in
/-- an Answer is made -/
theorem c_X0_init (l : Launch) (G : ecG) (a r q sa : Nat) (n pl h ch : Int32) (hne : r ≠ a) : Met l yX0_init (ecWs yX0_init cX0_init 6 none) (ecRm 1 0 0) (ecPc [.ref a, .int n, .ref r, .int pl, .ref sa, .int h] G (fun H => ecA G a (eO 0 [.int 0, .null, .null, .int 0, .null, .int 0, .int 0]) H ∧ ecA G r (eO 3 [.ref q, .int ch]) H)) (ecEp (fun v H1 => v = none ∧ ecA G a (eO 0 [.int n, .ref r, .ref q, .int pl, .ref sa, .int h, .int ch]) H1) (fun q : Nat => q = a)) 0 0 (fun q : Nat => q = a) := by
  refine ec_met (by decide) (Nat.le_of_ble_eq_true rfl) ?_
  intro p e s m below meth c hC hr hlocks hname hOk hpre ls hl
  have hK := hOk.1
  obtain ⟨ha, hq⟩ := hpre
  have hS : va_S (fun q : Nat => q = a) s.heap s.heap [] := va_S.rf
  have hl : lv_has ls 6 [(0, .ref a), (1, .int n), (2, .ref r), (3, .int pl), (4, .ref sa), (5, .int h)] := hl
  refine lv_aload_n hC.1 hC.2.1 dX0_init_0 rfl (lv_at hl 0 rfl) ?_
  refine W.objInit hC.1 hC.2.1 hC.2.2.2.1 (hC.2.2.2.2 _ kX0_3) (hC.2.2.2.2 _ qOi) (hC.2.2.2.2 _ qOc) rfl (by rw [hC.2.2.1]; exact hl.1) rfl dX0_init_1 (Nat.le_of_ble_eq_true rfl) (Nat.le_of_ble_eq_true rfl) ?_
  refine W.eq (g2 := F0 m 4 ls []) rfl ?_
  refine lv_aload_n hC.1 hC.2.1 dX0_init_4 rfl (lv_at hl 0 rfl) ?_
  refine lv_iload_n hC.1 hC.2.1 dX0_init_5 rfl (lv_at hl 1 rfl) ?_
  refine ec_putF hC hK hS ha rfl fX0_9 rfl hname rfl rfl rfl (Nat.le_of_ble_eq_true rfl) dX0_init_6 (fun H locs h9 o9 z9 hS => ?_)
  have hq := hq.kept (o9 _ hne)
  have ha : ecA G a (eO 0 [.int n, .null, .null, .int 0, .null, .int 0, .int 0]) H := h9
  refine lv_aload_n hC.1 hC.2.1 dX0_init_9 rfl (lv_at hl 0 rfl) ?_
  refine lv_aload_n hC.1 hC.2.1 dX0_init_10 rfl (lv_at hl 2 rfl) ?_
  refine ec_putF hC hK hS ha rfl fX0_15 rfl hname rfl rfl rfl (Nat.le_of_ble_eq_true rfl) dX0_init_11 (fun H locs h9 o9 z9 hS => ?_)
  have hq := hq.kept (o9 _ hne)
  have ha : ecA G a (eO 0 [.int n, .ref r, .null, .int 0, .null, .int 0, .int 0]) H := h9
  refine lv_aload_n hC.1 hC.2.1 dX0_init_14 rfl (lv_at hl 0 rfl) ?_
  refine lv_aload_n hC.1 hC.2.1 dX0_init_15 rfl (lv_at hl 2 rfl) ?_
  refine ec_get hC hK hq fX0_19 rfl dX0_init_16 ?_
  refine ec_putF hC hK hS ha rfl fX0_25 rfl hname rfl rfl rfl (Nat.le_of_ble_eq_true rfl) dX0_init_19 (fun H locs h9 o9 z9 hS => ?_)
  have hq := hq.kept (o9 _ hne)
  have ha : ecA G a (eO 0 [.int n, .ref r, .ref q, .int 0, .null, .int 0, .int 0]) H := h9
  refine lv_aload_n hC.1 hC.2.1 dX0_init_22 rfl (lv_at hl 0 rfl) ?_
  refine lv_iload_n hC.1 hC.2.1 dX0_init_23 rfl (lv_at hl 3 rfl) ?_
  refine ec_putF hC hK hS ha rfl fX0_26 rfl hname rfl rfl rfl (Nat.le_of_ble_eq_true rfl) dX0_init_24 (fun H locs h9 o9 z9 hS => ?_)
  have hq := hq.kept (o9 _ hne)
  have ha : ecA G a (eO 0 [.int n, .ref r, .ref q, .int pl, .null, .int 0, .int 0]) H := h9
  refine lv_aload_n hC.1 hC.2.1 dX0_init_27 rfl (lv_at hl 0 rfl) ?_
  refine lv_aload hC.1 hC.2.1 dX0_init_28 (lv_at hl 4 rfl) ?_
  refine ec_putF hC hK hS ha rfl fX0_29 rfl hname rfl rfl rfl (Nat.le_of_ble_eq_true rfl) dX0_init_30 (fun H locs h9 o9 z9 hS => ?_)
  have hq := hq.kept (o9 _ hne)
  have ha : ecA G a (eO 0 [.int n, .ref r, .ref q, .int pl, .ref sa, .int 0, .int 0]) H := h9
  refine lv_aload_n hC.1 hC.2.1 dX0_init_33 rfl (lv_at hl 0 rfl) ?_
  refine lv_iload hC.1 hC.2.1 dX0_init_34 (lv_at hl 5 rfl) ?_
  refine ec_putF hC hK hS ha rfl fX0_33 rfl hname rfl rfl rfl (Nat.le_of_ble_eq_true rfl) dX0_init_36 (fun H locs h9 o9 z9 hS => ?_)
  have hq := hq.kept (o9 _ hne)
  have ha : ecA G a (eO 0 [.int n, .ref r, .ref q, .int pl, .ref sa, .int h, .int 0]) H := h9
  refine lv_aload_n hC.1 hC.2.1 dX0_init_39 rfl (lv_at hl 0 rfl) ?_
  refine lv_aload_n hC.1 hC.2.1 dX0_init_40 rfl (lv_at hl 2 rfl) ?_
  refine ec_get hC hK hq fX0_36 rfl dX0_init_41 ?_
  refine ec_putF hC hK hS ha rfl fX0_39 rfl hname rfl rfl rfl (Nat.le_of_ble_eq_true rfl) dX0_init_44 (fun H locs h9 o9 z9 hS => ?_)
  have hq := hq.kept (o9 _ hne)
  have ha : ecA G a (eO 0 [.int n, .ref r, .ref q, .int pl, .ref sa, .int h, .int ch]) H := h9
  exact W.vret hC.1 hC.2.1 hr (fun t9 ht9 _ => ⟨_, rfl, ⟨rfl, by rw [ht9]; exact ha⟩, hS.F ht9⟩) hS.2.2 dX0_init_47

set_option maxHeartbeats 4000000 in
set_option maxRecDepth 100000 in
/-- whether an answer is for a room and a state -/
theorem c_X0_isForState (l : Launch) (G : ecG) (a r r2 q q2 k k2 : Nat) (v0 v3 v4 v5 v6 : Value) (hk : k < 80) (hk2 : k2 < 80) : Met l yX0_isForState (ecWs yX0_isForState cX0_isForState 3 (Option.some FieldType.boolean)) (ecRm 2 0 0) (ecPc [.ref a, .ref r2, .ref q2] G (fun H => ecA G a (eO 0 [v0, .ref r, .ref q, v3, v4, v5, v6]) H ∧ ecA G q (eO 4 (stL k)) H ∧ ecA G q2 (eO 4 (stL k2)) H)) (ecRp (fun v => v = some (.int (bI (decide (r = r2) && decide (k = k2)))))) 0 0 (fun _ => False) := by
  refine ec_met (by decide) (Nat.le_of_ble_eq_true rfl) ?_
  intro p e s m below meth c hC hr hlocks hname hOk hpre ls hl
  have hK := hOk.1
  obtain ⟨ha, hq, hq2⟩ := hpre
  have hS : va_S (fun _ => False) s.heap s.heap [] := va_S.rf
  have hAN : ∀ q, (fun _ : Nat => False) q → ecN0 G ≤ q := fun _ h => h.elim
  have hl : lv_has ls 3 [(0, .ref a), (1, .ref r2), (2, .ref q2)] := hl
  refine lv_aload_n hC.1 hC.2.1 dX0_isForState_0 rfl (lv_at hl 0 rfl) ?_
  refine ec_get hC hK ha fX0_15 rfl dX0_isForState_1 ?_
  refine lv_aload_n hC.1 hC.2.1 dX0_isForState_4 rfl (lv_at hl 1 rfl) ?_
  refine lv_acmp_ne (rx := (some r)) (ry := (some r2)) (tgt := 23) hC.1 hC.2.1 dX0_isForState_5 (by decide) (fun c_5 => ?_) (fun c_5 => ?_)
  · refine lv_iconst (v := 0) hC.1 hC.2.1 dX0_isForState_23 (by decide) ?_
    exact W.zret hC.1 hC.2.1 hr rfl (fun t9 ht9 _ => ⟨_, rfl, (ec_int (by rw [decide_eq_false (fun z => c_5 (by rw [z])), Bool.false_and]; rfl)), ht9⟩) hS.2.2 dX0_isForState_24
  · refine lv_aload_n hC.1 hC.2.1 dX0_isForState_8 rfl (lv_at hl 0 rfl) ?_
    refine ec_get hC hK ha fX0_25 rfl dX0_isForState_9 ?_
    refine lv_aload_n hC.1 hC.2.1 dX0_isForState_12 rfl (lv_at hl 2 rfl) ?_
    refine ec_go1 (ec_rV hC (c_X4_partsUnlike l G q q2 k k2 hk hk2) kX0_42 (hOk.at hS hAN) ⟨hq, hq2⟩ (ec_rc hK hq ⟨_, _, rfl⟩) hl.1 ⟨Nat.le_of_ble_eq_true rfl, Nat.le_of_ble_eq_true rfl⟩ rfl (Nat.le_of_ble_eq_true rfl) dX0_isForState_13 ⟨Nat.le_of_ble_eq_true rfl, Nat.le_of_ble_eq_true rfl⟩) ?_
    refine lv_if_ne (tgt := 23) hC.1 hC.2.1 dX0_isForState_16 (by decide) (fun c_16 => ?_) (fun c_16 => ?_)
    · refine lv_iconst (v := 0) hC.1 hC.2.1 dX0_isForState_23 (by decide) ?_
      exact W.zret hC.1 hC.2.1 hr rfl (fun t9 ht9 _ => ⟨_, rfl, (ec_int (by rw [decide_eq_false (p := k = k2) (fun z => c_16 (by rw [(dif_0 hk hk2).mpr z]; rfl)), Bool.and_false]; rfl)), ht9⟩) hS.2.2 dX0_isForState_24
    · refine lv_iconst (v := 1) hC.1 hC.2.1 dX0_isForState_19 (by decide) ?_
      refine lv_goto (tgt := 24) hC.1 hC.2.1 dX0_isForState_20 (by decide) ?_
      exact W.zret hC.1 hC.2.1 hr rfl (fun t9 ht9 _ => ⟨_, rfl, (ec_int (by rw [decide_eq_true (Option.some.inj c_5), decide_eq_true ((dif_0 hk hk2).mp ((nI_eq (Nat.lt_of_le_of_lt (dif_le _ _) (by decide)) (by decide)).mp c_16))]; rfl)), ht9⟩) hS.2.2 dX0_isForState_24

set_option maxHeartbeats 4000000 in
set_option maxRecDepth 100000 in
/-- an answer its age -/
theorem c_X0_ageAt (l : Launch) (G : ecG) (a r q : Nat) (v0 v2 v3 v4 vr : Value) (h ht2 ch ct : Int32) : Met l yX0_ageAt (ecWs yX0_ageAt cX0_ageAt 2 (Option.some FieldType.int)) (ecRm 1 0 0) (ecPc [.ref a, .int h] G (fun H => ecA G a (eO 0 [v0, .ref r, v2, v3, v4, .int ht2, .int ct]) H ∧ ecA G r (eO 3 [vr, .int ch]) H)) (ecRp (fun v => v = some (.int (h - ht2 + 2 * (ch - ct))))) 0 0 (fun _ => False) := by
  refine ec_met (by decide) (Nat.le_of_ble_eq_true rfl) ?_
  intro p e s m below meth c hC hr hlocks hname hOk hpre ls hl
  have hK := hOk.1
  obtain ⟨ha, hq⟩ := hpre
  have hS : va_S (fun _ => False) s.heap s.heap [] := va_S.rf
  have hAN : ∀ q, (fun _ : Nat => False) q → ecN0 G ≤ q := fun _ h => h.elim
  have hl : lv_has ls 2 [(0, .ref a), (1, .int h)] := hl
  refine lv_iload_n hC.1 hC.2.1 dX0_ageAt_0 rfl (lv_at hl 1 rfl) ?_
  refine lv_aload_n hC.1 hC.2.1 dX0_ageAt_1 rfl (lv_at hl 0 rfl) ?_
  refine ec_get hC hK ha fX0_33 rfl dX0_ageAt_2 ?_
  refine lv_isub hC.1 hC.2.1 dX0_ageAt_5 ?_
  refine lv_iconst (v := 2) hC.1 hC.2.1 dX0_ageAt_6 (by decide) ?_
  refine lv_aload_n hC.1 hC.2.1 dX0_ageAt_7 rfl (lv_at hl 0 rfl) ?_
  refine ec_get hC hK ha fX0_15 rfl dX0_ageAt_8 ?_
  refine ec_get hC hK hq fX0_36 rfl dX0_ageAt_11 ?_
  refine lv_aload_n hC.1 hC.2.1 dX0_ageAt_14 rfl (lv_at hl 0 rfl) ?_
  refine ec_get hC hK ha fX0_39 rfl dX0_ageAt_15 ?_
  refine lv_isub hC.1 hC.2.1 dX0_ageAt_18 ?_
  refine lv_imul hC.1 hC.2.1 dX0_ageAt_19 ?_
  refine lv_iadd hC.1 hC.2.1 dX0_ageAt_20 ?_
  exact W.iret hC.1 hC.2.1 hr (fun t9 ht9 _ => ⟨_, rfl, rfl, ht9⟩) hS.2.2 dX0_ageAt_21

set_option maxHeartbeats 4000000 in
set_option maxRecDepth 100000 in
/-- a Booking is made -/
theorem c_X1_init (l : Launch) (G : ecG) (a r q : Nat) (n f la : Int32) : Met l yX1_init (ecWs yX1_init cX1_init 6 none) (ecRm 1 0 0) (ecPc [.ref a, .int n, .ref r, .ref q, .int f, .int la] G (fun H => ecA G a (eO 1 [.int 0, .null, .null, .int 0, .int 0, .int 0]) H)) (ecEp (fun v H1 => v = none ∧ ecA G a (eO 1 [.int n, .ref r, .ref q, .int f, .int la, .int 0]) H1) (fun q : Nat => q = a)) 0 0 (fun q : Nat => q = a) := by
  refine ec_met (by decide) (Nat.le_of_ble_eq_true rfl) ?_
  intro p e s m below meth c hC hr hlocks hname hOk hpre ls hl
  have hK := hOk.1
  have ha := hpre
  have hS : va_S (fun q : Nat => q = a) s.heap s.heap [] := va_S.rf
  have hl : lv_has ls 6 [(0, .ref a), (1, .int n), (2, .ref r), (3, .ref q), (4, .int f), (5, .int la)] := hl
  refine lv_aload_n hC.1 hC.2.1 dX1_init_0 rfl (lv_at hl 0 rfl) ?_
  refine W.objInit hC.1 hC.2.1 hC.2.2.2.1 (hC.2.2.2.2 _ kX1_1) (hC.2.2.2.2 _ qOi) (hC.2.2.2.2 _ qOc) rfl (by rw [hC.2.2.1]; exact hl.1) rfl dX1_init_1 (Nat.le_of_ble_eq_true rfl) (Nat.le_of_ble_eq_true rfl) ?_
  refine W.eq (g2 := F0 m 4 ls []) rfl ?_
  refine lv_aload_n hC.1 hC.2.1 dX1_init_4 rfl (lv_at hl 0 rfl) ?_
  refine lv_iload_n hC.1 hC.2.1 dX1_init_5 rfl (lv_at hl 1 rfl) ?_
  refine ec_putF hC hK hS ha rfl fX1_7 rfl hname rfl rfl rfl (Nat.le_of_ble_eq_true rfl) dX1_init_6 (fun H locs h9 o9 z9 hS => ?_)
  have ha : ecA G a (eO 1 [.int n, .null, .null, .int 0, .int 0, .int 0]) H := h9
  refine lv_aload_n hC.1 hC.2.1 dX1_init_9 rfl (lv_at hl 0 rfl) ?_
  refine lv_aload_n hC.1 hC.2.1 dX1_init_10 rfl (lv_at hl 2 rfl) ?_
  refine ec_putF hC hK hS ha rfl fX1_13 rfl hname rfl rfl rfl (Nat.le_of_ble_eq_true rfl) dX1_init_11 (fun H locs h9 o9 z9 hS => ?_)
  have ha : ecA G a (eO 1 [.int n, .ref r, .null, .int 0, .int 0, .int 0]) H := h9
  refine lv_aload_n hC.1 hC.2.1 dX1_init_14 rfl (lv_at hl 0 rfl) ?_
  refine lv_aload_n hC.1 hC.2.1 dX1_init_15 rfl (lv_at hl 3 rfl) ?_
  refine ec_putF hC hK hS ha rfl fX1_17 rfl hname rfl rfl rfl (Nat.le_of_ble_eq_true rfl) dX1_init_16 (fun H locs h9 o9 z9 hS => ?_)
  have ha : ecA G a (eO 1 [.int n, .ref r, .ref q, .int 0, .int 0, .int 0]) H := h9
  refine lv_aload_n hC.1 hC.2.1 dX1_init_19 rfl (lv_at hl 0 rfl) ?_
  refine lv_iload hC.1 hC.2.1 dX1_init_20 (lv_at hl 4 rfl) ?_
  refine ec_putF hC hK hS ha rfl fX1_21 rfl hname rfl rfl rfl (Nat.le_of_ble_eq_true rfl) dX1_init_22 (fun H locs h9 o9 z9 hS => ?_)
  have ha : ecA G a (eO 1 [.int n, .ref r, .ref q, .int f, .int 0, .int 0]) H := h9
  refine lv_aload_n hC.1 hC.2.1 dX1_init_25 rfl (lv_at hl 0 rfl) ?_
  refine lv_iload hC.1 hC.2.1 dX1_init_26 (lv_at hl 5 rfl) ?_
  refine ec_putF hC hK hS ha rfl fX1_24 rfl hname rfl rfl rfl (Nat.le_of_ble_eq_true rfl) dX1_init_28 (fun H locs h9 o9 z9 hS => ?_)
  have ha : ecA G a (eO 1 [.int n, .ref r, .ref q, .int f, .int la, .int 0]) H := h9
  refine lv_aload_n hC.1 hC.2.1 dX1_init_31 rfl (lv_at hl 0 rfl) ?_
  refine lv_iconst (v := 0) hC.1 hC.2.1 dX1_init_32 (by decide) ?_
  refine ec_put hC hK hS ha rfl fX1_27 rfl rfl rfl (Nat.le_of_ble_eq_true rfl) dX1_init_33 (fun H locs h9 o9 z9 hS => ?_)
  have ha : ecA G a (eO 1 [.int n, .ref r, .ref q, .int f, .int la, .int 0]) H := h9
  exact W.vret hC.1 hC.2.1 hr (fun t9 ht9 _ => ⟨_, rfl, ⟨rfl, by rw [ht9]; exact ha⟩, hS.F ht9⟩) hS.2.2 dX1_init_36

set_option maxHeartbeats 4000000 in
set_option maxRecDepth 100000 in
/-- whether a booking stands for a room -/
theorem c_X1_standsFor (l : Launch) (G : ecG) (a r r2 g : Nat) (v0 v2 v3 v4 : Value) (hg : g ≤ 1) : Met l yX1_standsFor (ecWs yX1_standsFor cX1_standsFor 2 (Option.some FieldType.boolean)) (ecRm 1 0 0) (ecPc [.ref a, .ref r2] G (fun H => ecA G a (eO 1 [v0, .ref r, v2, v3, v4, .int (nI g)]) H)) (ecRp (fun v => v = some (.int (bI (decide (g = 0) && decide (r = r2)))))) 0 0 (fun _ => False) := by
  refine ec_met (by decide) (Nat.le_of_ble_eq_true rfl) ?_
  intro p e s m below meth c hC hr hlocks hname hOk hpre ls hl
  have hK := hOk.1
  have ha := hpre
  have hS : va_S (fun _ => False) s.heap s.heap [] := va_S.rf
  have hAN : ∀ q, (fun _ : Nat => False) q → ecN0 G ≤ q := fun _ h => h.elim
  have hl : lv_has ls 2 [(0, .ref a), (1, .ref r2)] := hl
  refine lv_aload_n hC.1 hC.2.1 dX1_standsFor_0 rfl (lv_at hl 0 rfl) ?_
  refine ec_get hC hK ha fX1_27 rfl dX1_standsFor_1 ?_
  refine lv_if_ne (tgt := 19) hC.1 hC.2.1 dX1_standsFor_4 (by decide) (fun c_4 => ?_) (fun c_4 => ?_)
  · refine lv_iconst (v := 0) hC.1 hC.2.1 dX1_standsFor_19 (by decide) ?_
    exact W.zret hC.1 hC.2.1 hr rfl (fun t9 ht9 _ => ⟨_, rfl, (ec_int (by rw [decide_eq_false (fun z => c_4 (by rw [z]; rfl)), Bool.false_and]; rfl)), ht9⟩) hS.2.2 dX1_standsFor_20
  · refine lv_aload_n hC.1 hC.2.1 dX1_standsFor_7 rfl (lv_at hl 0 rfl) ?_
    refine ec_get hC hK ha fX1_13 rfl dX1_standsFor_8 ?_
    refine lv_aload_n hC.1 hC.2.1 dX1_standsFor_11 rfl (lv_at hl 1 rfl) ?_
    refine lv_acmp_ne (rx := (some r)) (ry := (some r2)) (tgt := 19) hC.1 hC.2.1 dX1_standsFor_12 (by decide) (fun c_12 => ?_) (fun c_12 => ?_)
    · refine lv_iconst (v := 0) hC.1 hC.2.1 dX1_standsFor_19 (by decide) ?_
      exact W.zret hC.1 hC.2.1 hr rfl (fun t9 ht9 _ => ⟨_, rfl, (ec_int (by rw [decide_eq_true ((nI_eq (Nat.lt_of_le_of_lt hg (by decide)) (by decide)).mp c_4), decide_eq_false (fun z => c_12 (by rw [z])), Bool.and_false]; rfl)), ht9⟩) hS.2.2 dX1_standsFor_20
    · refine lv_iconst (v := 1) hC.1 hC.2.1 dX1_standsFor_15 (by decide) ?_
      refine lv_goto (tgt := 20) hC.1 hC.2.1 dX1_standsFor_16 (by decide) ?_
      exact W.zret hC.1 hC.2.1 hr rfl (fun t9 ht9 _ => ⟨_, rfl, (ec_int (by rw [decide_eq_true ((nI_eq (Nat.lt_of_le_of_lt hg (by decide)) (by decide)).mp c_4), decide_eq_true (Option.some.inj c_12)]; rfl)), ht9⟩) hS.2.2 dX1_standsFor_20

set_option maxHeartbeats 4000000 in
set_option maxRecDepth 100000 in
/-- hours between -/
theorem c_X1_hoursBetween (l : Launch) (G : ecG) (x y : Int32) : Met l yX1_hoursBetween (ecWs yX1_hoursBetween cX1_hoursBetween 2 (Option.some FieldType.long)) (ecRm 1 0 0) (ecPc [.int x, .int y] G (fun H => True)) (ecRp (fun v => v = some (.long (Int32.toInt64 y - Int32.toInt64 x - 1)))) 0 0 (fun _ => False) := by
  refine ec_met (by decide) (Nat.le_of_ble_eq_true rfl) ?_
  intro p e s m below meth c hC hr hlocks hname hOk hpre ls hl
  have hK := hOk.1
  have hS : va_S (fun _ => False) s.heap s.heap [] := va_S.rf
  have hAN : ∀ q, (fun _ : Nat => False) q → ecN0 G ≤ q := fun _ h => h.elim
  have hl : lv_has ls 2 [(0, .int x), (1, .int y)] := hl
  refine lv_iload_n hC.1 hC.2.1 dX1_hoursBetween_0 rfl (lv_at hl 1 rfl) ?_
  refine lv_i2l hC.1 hC.2.1 dX1_hoursBetween_1 rfl ?_
  refine lv_iload_n hC.1 hC.2.1 dX1_hoursBetween_2 rfl (lv_at hl 0 rfl) ?_
  refine lv_i2l hC.1 hC.2.1 dX1_hoursBetween_3 rfl ?_
  refine lv_lsub hC.1 hC.2.1 dX1_hoursBetween_4 ?_
  refine lv_lconst (v := 1) hC.1 hC.2.1 dX1_hoursBetween_5 (by decide) ?_
  refine lv_lsub hC.1 hC.2.1 dX1_hoursBetween_6 ?_
  exact W.lret hC.1 hC.2.1 hr (fun t9 ht9 _ => ⟨_, rfl, rfl, ht9⟩) hS.2.2 dX1_hoursBetween_7

theorem ec_hb (x y : Int32) (d : Nat) (hd : d ≤ 3) : (Int32.toInt64 y - Int32.toInt64 x - 1 < (nI d).toInt64) ↔ y.toInt - x.toInt ≤ d := by
  have hx1 := x.toInt_lt; have hx2 := x.le_toInt; have hy1 := y.toInt_lt; have hy2 := y.le_toInt
  have e1 : (Int32.toInt64 y - Int32.toInt64 x).toInt = y.toInt - x.toInt := by
    rw [Int64.toInt_sub, Int32.toInt_toInt64, Int32.toInt_toInt64, Int.bmod_eq_of_le (by omega) (by omega)]
  have e2 : (Int32.toInt64 y - Int32.toInt64 x - 1).toInt = y.toInt - x.toInt - 1 := by
    rw [Int64.toInt_sub, e1, show (1 : Int64).toInt = 1 from rfl, Int.bmod_eq_of_le (by omega) (by omega)]
  rw [Int64.lt_iff_toInt_lt, e2, Int32.toInt_toInt64, nI_toInt (by omega)]
  omega
theorem ec_hb1 (x y : Int32) (d : Nat) (hd : d ≤ 3) : (0 ≤ lg_cmp (Int32.toInt64 y - Int32.toInt64 x - 1) (nI d).toInt64) ↔ ¬ y.toInt - x.toInt ≤ d := by
  rw [lg_cmp_ge, ← ec_hb x y d hd, Int64.not_lt]
theorem ec_hb2 (x y : Int32) (d : Nat) (hd : d ≤ 3) : (¬ 0 ≤ lg_cmp (Int32.toInt64 y - Int32.toInt64 x - 1) (nI d).toInt64) ↔ y.toInt - x.toInt ≤ d := by
  rw [ec_hb1 x y d hd, Classical.not_not]

set_option maxHeartbeats 4000000 in
set_option maxRecDepth 100000 in
/-- whether a booking is too near -/
theorem c_X1_isTooNear (l : Launch) (G : ecG) (a q q2 k k2 : Nat) (v0 v1 v5 : Value) (f la f2 l2 : Int32) (hk : k < 80) (hk2 : k2 < 80) : Met l yX1_isTooNear (ecWs yX1_isTooNear cX1_isTooNear 5 (Option.some FieldType.boolean)) (ecRm 2 0 0) (ecPc [.ref a, .ref q2, .int f2, .int l2] G (fun H => ecA G a (eO 1 [v0, v1, .ref q, .int f, .int la, v5]) H ∧ ecA G q (eO 4 (stL k)) H ∧ ecA G q2 (eO 4 (stL k2)) H)) (ecRp (fun v => v = some (.int (bI (decide (f.toInt - l2.toInt ≤ dif k k2) && decide (f2.toInt - la.toInt ≤ dif k k2)))))) 0 0 (fun _ => False) := by
  refine ec_met (by decide) (Nat.le_of_ble_eq_true rfl) ?_
  intro p e s m below meth c hC hr hlocks hname hOk hpre ls hl
  have hK := hOk.1
  obtain ⟨ha, hq, hq2⟩ := hpre
  have hS : va_S (fun _ => False) s.heap s.heap [] := va_S.rf
  have hAN : ∀ q, (fun _ : Nat => False) q → ecN0 G ≤ q := fun _ h => h.elim
  have hl : lv_has ls 5 [(0, .ref a), (1, .ref q2), (2, .int f2), (3, .int l2)] := hl
  refine lv_aload_n hC.1 hC.2.1 dX1_isTooNear_0 rfl (lv_at hl 0 rfl) ?_
  refine ec_get hC hK ha fX1_17 rfl dX1_isTooNear_1 ?_
  refine lv_aload_n hC.1 hC.2.1 dX1_isTooNear_4 rfl (lv_at hl 1 rfl) ?_
  refine ec_go1 (ec_rV hC (c_X4_partsUnlike l G q q2 k k2 hk hk2) kX1_31 (hOk.at hS hAN) ⟨hq, hq2⟩ (ec_rc hK hq ⟨_, _, rfl⟩) hl.1 ⟨Nat.le_of_ble_eq_true rfl, Nat.le_of_ble_eq_true rfl⟩ rfl (Nat.le_of_ble_eq_true rfl) dX1_isTooNear_5 ⟨Nat.le_of_ble_eq_true rfl, Nat.le_of_ble_eq_true rfl⟩) ?_
  refine lv_istore (lv' := [(4, .int (nI (dif k k2))), (0, .ref a), (1, .ref q2), (2, .int f2), (3, .int l2)]) hC.1 hC.2.1 dX1_isTooNear_8 hl (by decide) rfl (fun ls hl => ?_)
  refine lv_aload_n hC.1 hC.2.1 dX1_isTooNear_10 rfl (lv_at hl 1 rfl) ?_
  refine ec_get hC hK ha fX1_24 rfl dX1_isTooNear_11 ?_
  refine lv_iload_n hC.1 hC.2.1 dX1_isTooNear_14 rfl (lv_at hl 3 rfl) ?_
  refine ec_go1 (ec_rS hC (c_X1_hoursBetween l G la f2) kX1_37 (hOk.at hS hAN) trivial hl.1 ⟨Nat.le_of_ble_eq_true rfl, Nat.le_of_ble_eq_true rfl⟩ rfl (Nat.le_of_ble_eq_true rfl) dX1_isTooNear_15 ⟨Nat.le_of_ble_eq_true rfl, Nat.le_of_ble_eq_true rfl⟩) ?_
  refine lv_iload hC.1 hC.2.1 dX1_isTooNear_18 (lv_at hl 0 rfl) ?_
  refine lv_i2l hC.1 hC.2.1 dX1_isTooNear_20 rfl ?_
  refine W.lcmp hC.1 hC.2.1 dX1_isTooNear_21 ?_
  refine lv_if_ge (tgt := 44) hC.1 hC.2.1 dX1_isTooNear_22 (by decide) (fun c_22 => ?_) (fun c_22 => ?_)
  · refine lv_iconst (v := 0) hC.1 hC.2.1 dX1_isTooNear_44 (by decide) ?_
    exact W.zret hC.1 hC.2.1 hr rfl (fun t9 ht9 _ => ⟨_, rfl, (ec_int (by rw [decide_eq_false (fun z => (((ec_hb1 la f2 (dif k k2) (dif_le k k2))).mp c_22) z), Bool.and_false]; rfl)), ht9⟩) hS.2.2 dX1_isTooNear_45
  · refine lv_iload_n hC.1 hC.2.1 dX1_isTooNear_25 rfl (lv_at hl 4 rfl) ?_
    refine lv_aload_n hC.1 hC.2.1 dX1_isTooNear_26 rfl (lv_at hl 1 rfl) ?_
    refine ec_get hC hK ha fX1_21 rfl dX1_isTooNear_27 ?_
    refine ec_go1 (ec_rS hC (c_X1_hoursBetween l G l2 f) kX1_37 (hOk.at hS hAN) trivial hl.1 ⟨Nat.le_of_ble_eq_true rfl, Nat.le_of_ble_eq_true rfl⟩ rfl (Nat.le_of_ble_eq_true rfl) dX1_isTooNear_30 ⟨Nat.le_of_ble_eq_true rfl, Nat.le_of_ble_eq_true rfl⟩) ?_
    refine lv_iload hC.1 hC.2.1 dX1_isTooNear_33 (lv_at hl 0 rfl) ?_
    refine lv_i2l hC.1 hC.2.1 dX1_isTooNear_35 rfl ?_
    refine W.lcmp hC.1 hC.2.1 dX1_isTooNear_36 ?_
    refine lv_if_ge (tgt := 44) hC.1 hC.2.1 dX1_isTooNear_37 (by decide) (fun c_37 => ?_) (fun c_37 => ?_)
    · refine lv_iconst (v := 0) hC.1 hC.2.1 dX1_isTooNear_44 (by decide) ?_
      exact W.zret hC.1 hC.2.1 hr rfl (fun t9 ht9 _ => ⟨_, rfl, (ec_int (by rw [decide_eq_false (fun z => (((ec_hb1 l2 f (dif k k2) (dif_le k k2))).mp c_37) z), Bool.false_and]; rfl)), ht9⟩) hS.2.2 dX1_isTooNear_45
    · refine lv_iconst (v := 1) hC.1 hC.2.1 dX1_isTooNear_40 (by decide) ?_
      refine lv_goto (tgt := 45) hC.1 hC.2.1 dX1_isTooNear_41 (by decide) ?_
      exact W.zret hC.1 hC.2.1 hr rfl (fun t9 ht9 _ => ⟨_, rfl, (ec_int (by rw [decide_eq_true (((ec_hb2 la f2 (dif k k2) (dif_le k k2))).mp c_22), decide_eq_true (((ec_hb2 l2 f (dif k k2) (dif_le k k2))).mp c_37)]; rfl)), ht9⟩) hS.2.2 dX1_isTooNear_45
end
section
theorem ec_topi {p : Program} {l : Launch} {e : Env} {R : Room} {s : State} {m : MethodId} {args : Array Value} {below : List Frame} {meth : Method} {c : Code} {H : Heap} {locs : List Loc} {cells slots : Nat} {Q : State → Prop} {pc : Nat} {ls : Array Slot} {rest : List Value} {x y : Int32} (h : x = y) (k : W p l e R s m args below meth c H locs cells slots Q (F0 m pc ls (.int y :: rest))) : W p l e R s m args below meth c H locs cells slots Q (F0 m pc ls (.int x :: rest)) := by
  subst h; exact k
theorem ec_topl {p : Program} {l : Launch} {e : Env} {R : Room} {s : State} {m : MethodId} {args : Array Value} {below : List Frame} {meth : Method} {c : Code} {H : Heap} {locs : List Loc} {cells slots : Nat} {Q : State → Prop} {pc : Nat} {ls : Array Slot} {rest : List Value} {x y : Int64} (h : x = y) (k : W p l e R s m args below meth c H locs cells slots Q (F0 m pc ls (.long y :: rest))) : W p l e R s m args below meth c H locs cells slots Q (F0 m pc ls (.long x :: rest)) := by
  subst h; exact k

theorem qSys : Cond.initialized "java/lang/System" ∈ GW := gw_of 42 (by decide +kernel) rfl
theorem qMax : Cond.code Lib.Math.max.name Lib.Math.max.code 2 (some .int) ∈ GW := gw_of 293 (by decide +kernel) rfl
theorem qMin : Cond.code Lib.Math.min.name Lib.Math.min.code 2 (some .int) ∈ GW := gw_of 326 (by decide +kernel) rfl
/-- a cell that an array of Objects may hold -/
def ecEl (G : ecG) (y : Nat) (H : Heap) : Prop := ∃ (ci : Nat) (fs : List Value) (C : String) (T : u_T) (N : Nat), ecCl[ci]? = some (C, T, N) ∧ (C, "java/lang/Object") ∈ ecCa ∧ ecA G y (eO ci fs) H
theorem ecEl.any {G : ecG} {s : State} {H : Heap} {y : Nat} (h : ecEl G y H) (hK : ecKx G s) : va_Any "java/lang/Object" s H y := by
  obtain ⟨ci, fs, C, T, N, h1, h2, h3⟩ := h
  exact ec_any hK h3 ⟨T, N, h1⟩ h2
theorem ecEl.kp {G : ecG} {H H1 : Heap} {y : Nat} (h : ecEl G y H) (k : ecKp H H1) : ecEl G y H1 := by
  obtain ⟨ci, fs, C, T, N, h1, h2, h3⟩ := h
  exact ⟨ci, fs, C, T, N, h1, h2, h3.kp k⟩
theorem ecEl.kept {G : ecG} {H H1 : Heap} {y : Nat} (h : ecEl G y H) (k : H1[y]? = H[y]?) : ecEl G y H1 := by
  obtain ⟨ci, fs, C, T, N, h1, h2, h3⟩ := h
  exact ⟨ci, fs, C, T, N, h1, h2, h3.kept k⟩
theorem ecEl.lt {G : ecG} {H : Heap} {y : Nat} (h : ecEl G y H) : y < H.size := by
  obtain ⟨ci, fs, C, T, N, h1, h2, h3⟩ := h
  exact h3.lt
section ECCP
variable {p : Program} {l : Launch} {e : Env} {R : Room} {s : State} {m : MethodId} {args : Array Value} {below : List Frame} {meth : Method} {c : Code} {H : Heap} {locs : List Loc} {cells slots : Nat} {Q : State → Prop}
variable {cc : ByteArray} {pc nL : Nat} {ls : Array Slot} {rest : List Value} {G : ecG} {A : Nat → Prop} {own : String}
/-- System.arraycopy of the first n places, from one array of Objects to another (follows the kit's va_copyM) -/
theorem ec_copy (hC : CallFix p m c cc nL s args GW own) (hK : ecKx G s) {H0 : Heap} (hS : va_S A H0 H locs) {index : Nat} (hlink : Cond.methodLink own index arraycopyName ∈ GW) {a0 a n0 n1 : Nat} {f g : Nat → Option Nat} (ha0 : ecA G a0 (eQ G n0 f) H) (ha1 : ecA G a (eQ G n1 g) H) (hA : A a) (n : Nat) (hn : n < 2 ^ 31) (h4 : n ≤ n0) (h5 : n ≤ n1) (hel : ∀ i : Nat, i < n → ∀ y : Nat, f i = some y → ecEl G y H)
    (hls : ls.size = nL) (hframes : 1 ≤ R.frames) (hlocals : (rest.map fun v => v.category).sum + (nativeFrameWords "java/lang/System" "arraycopy" 5 + 11) ≤ R.locals) (hdg : decode cc pc = .ok (.invokestatic index, 3))
    (kk : ∀ (H1 : Heap) (locs1 : List Loc), ecA G a (eQ G n1 (va_cpy f g 0 0 n)) H1 → (∀ q : Nat, q ≠ a → H1[q]? = H[q]?) → H1.size = H.size → va_S A H0 H1 locs1 → W p l e R s m args below meth c H1 locs1 cells slots Q (F0 m (pc + 3) ls rest)) : W p l e R s m args below meth c H locs cells slots Q (F0 m pc ls (.int (nI n) :: .int 0 :: .ref a :: .int 0 :: .ref a0 :: rest)) := by
  have hcl : (nI n).toNatClampNeg = n := nI_clamp hn
  have hti : (nI n).toInt = (n : Int) := nI_toInt hn
  have hts := hC.2.2.2.2
  intro T hT X
  have hc0 : H[a0]? = some (vp_cell (G.2.1 3) (n0, .inr (.inr (.inr (.inr f))))) := ha0
  have hc1 : H[a]? = some (vp_cell (G.2.1 3) (n1, .inr (.inr (.inr (.inr g))))) := ha1
  obtain ⟨-, k0, hk0, cm0, hkk0⟩ := (hK.1.2 3 _ rfl).1 n0 (fun j => va_rf (f j))
  obtain ⟨-, k1, hk1, cm1, hkk1⟩ := (hK.1.2 3 _ rfl).1 n1 (fun j => va_rf (g j))
  obtain ⟨vm', X', step⟩ := X.arraycopy hC.1 hC.2.2.2.1 (hts _ hlink) (hts _ q302) (hts _ q301) (hts _ qSys) (src := a0) (dst := a) (cs := vp_cell (G.2.1 3) (n0, .inr (.inr (.inr (.inr f))))) (cd := vp_cell (G.2.1 3) (n1, .inr (.inr (.inr (.inr g))))) (srcPos := 0) (destPos := 0) (n := nI n) (by rw [hT]; exact hc0) (by rw [hT]; exact hc1)
    (fun _ h => by cases h) (fun _ h => by cases h) (fun h => by cases h) (fun h => by cases h) hk0 hk1 hkk0 hkk1 rfl (by decide) (by decide) (nI_pos hn)
    (by rw [hti]; show ¬ (0 : Int32).toInt + _ > ((arrV (G.2.1 3) n0 (fun j => va_rf (f j))).slots.size : Int); rw [arrV_size, Int32.toInt_zero]; omega)
    (by rw [hti]; show ¬ (0 : Int32).toInt + _ > ((arrV (G.2.1 3) n1 (fun j => va_rf (g j))).slots.size : Int); rw [arrV_size, Int32.toInt_zero]; omega)
    (fun vm₁ hal i hi => by
      rw [hcl] at hi
      have e : (vp_cell (G.2.1 3) (n0, .inr (.inr (.inr (.inr f))))).slots.getD ((0 : Int32).toNatClampNeg + i) .null = va_rf (f i) := by
        show (arrV (G.2.1 3) n0 (fun j => va_rf (f j))).slots.getD _ _ = _
        rw [sb_cl0, Nat.zero_add, Array.getD_eq_getD_getElem?, arrV_read _ _ (by omega)]
        rfl
      rw [e]
      cases hy : f i with
      | none => exact ⟨rfl, trivial⟩
      | some y =>
        obtain ⟨cellV, g1, g2, ⟨kC, hkC⟩, hasg⟩ := (hel i hi y hy).any hK
        obtain ⟨kA, comp, r1, r2, r3, -⟩ := (hK.1.2 3 _ rfl).2
        cases hk1.symm.trans r1
        cases hkk1.symm.trans r2
        obtain ⟨kE, hkE, -⟩ := Vm.findClass_spec r3
        obtain ⟨kC', hkC', -⟩ := hal.2.2 _ _ hkC
        obtain ⟨kE', hkE', -⟩ := hal.2.2 _ _ hkE
        refine ⟨rfl, cellV, (show T.heap[y]? = some cellV by rw [hT]; exact g1), (fun q h => by rw [h] at g2; cases g2), ⟨kC', hkC'⟩, ?_, ?_⟩
        · exact ⟨kE', hkE'⟩
        · show vm₁.assignable _ _ = true
          rw [hal.assignable]
          exact hasg _ r3)
    (g := F0 m pc ls (.int (nI n) :: .int 0 :: .ref a :: .int 0 :: .ref a0 :: rest)) rfl (by rw [hC.2.2.1]; exact hls) (rest := rest) rfl (by rw [hC.2.1]; exact hdg) hframes (by show 2 * 0 + _ + _ ≤ _; omega)
  have e1 : copied (vp_cell (G.2.1 3) (n0, .inr (.inr (.inr (.inr f))))) (vp_cell (G.2.1 3) (n1, .inr (.inr (.inr (.inr g))))) 0 0 (nI n) = vp_cell (G.2.1 3) (n1, .inr (.inr (.inr (.inr (va_cpy f g 0 0 n))))) := by
    rw [vp_cell_q, vp_cell_q, vp_cell_q]
    have h9 := va_copied (fun z => va_rf z) (G.2.1 3) (G.2.1 3) f g (n0 := n0) (n1 := n1) (sp := (0 : Int32).toNatClampNeg) (dp := (0 : Int32).toNatClampNeg) (n := (nI n).toNatClampNeg) (by rw [hcl, sb_cl0]; omega)
    have h10 : copied (arrV (G.2.1 3) n0 (fun j => va_rf (f j))) (arrV (G.2.1 3) n1 (fun j => va_rf (g j))) 0 0 (nI n) = arrV (G.2.1 3) n1 (fun j => va_rf (va_cpy f g (0 : Int32).toNatClampNeg (0 : Int32).toNatClampNeg (nI n).toNatClampNeg j)) := h9
    rw [hcl, sb_cl0] at h10
    exact h10
  rw [e1] at X' step
  have hl : a < H.size := (Array.getElem?_eq_some_iff.mp hc1).1
  generalize hE : vp_cell (G.2.1 3) (n1, .inr (.inr (.inr (.inr (va_cpy f g 0 0 n))))) = E9 at X' step
  have hheap : ((T.setVm vm').setCell a E9).heap = H.setIfInBounds a E9 := by rw [← hT]; rfl
  have oq : ∀ q : Nat, q ≠ a → (H.setIfInBounds a E9)[q]? = H[q]? := fun q hq => by simp [Array.getElem?_setIfInBounds, Ne.symm hq]
  obtain ⟨t, a1, b1⟩ := kk _ _ (show (H.setIfInBounds a E9)[a]? = some _ by rw [hE]; simp [Array.getElem?_setIfInBounds, hl]) oq (by simp) ⟨by simp; exact hS.1, fun q g1 g2 => by
      rw [oq q (fun e => g2 (by rw [e]; exact hA))]
      exact hS.2.1 q g1 g2, fun q hq => by
      rcases List.mem_append.mp hq with h | h
      · exact hS.2.2 q h
      · obtain ⟨z, -, hz⟩ := List.mem_map.mp h
        rw [← hz]
        exact hA⟩ _ hheap X'
  exact ⟨t, step t a1, b1⟩
end ECCP

set_option maxHeartbeats 4000000 in
set_option maxRecDepth 100000 in
/-- an index in range -/
theorem c_J3_checkIndex_8e157 (l : Launch) (G : ecG) (i n : Nat) (hi : i < n) (hn : n < 2 ^ 31) : Met l yJ3_checkIndex_8e157 (ecWs yJ3_checkIndex_8e157 cJ3_checkIndex_8e157 3 (Option.some FieldType.int)) (ecRm 1 0 0) (ecPc [.int (nI i), .int (nI n), .null] G (fun H => True)) (ecRp (fun v => v = some (.int (nI i)))) 0 0 (fun _ => False) := by
  refine ec_met (by decide) (Nat.le_of_ble_eq_true rfl) ?_
  intro p e s m below meth c hC hr hlocks hname hOk hpre ls hl
  have hK := hOk.1
  have hS : va_S (fun _ => False) s.heap s.heap [] := va_S.rf
  have hAN : ∀ q, (fun _ : Nat => False) q → ecN0 G ≤ q := fun _ h => h.elim
  have hl : lv_has ls 3 [(0, .int (nI i)), (1, .int (nI n)), (2, .null)] := hl
  refine lv_iload_n hC.1 hC.2.1 dJ3_checkIndex_8e157_0 rfl (lv_at hl 0 rfl) ?_
  refine lv_if_lt (tgt := 9) hC.1 hC.2.1 dJ3_checkIndex_8e157_1 (by decide) (fun c => absurd c (nI_pos (by omega))) (fun c_1 => ?_)
  refine lv_iload_n hC.1 hC.2.1 dJ3_checkIndex_8e157_4 rfl (lv_at hl 0 rfl) ?_
  refine lv_iload_n hC.1 hC.2.1 dJ3_checkIndex_8e157_5 rfl (lv_at hl 1 rfl) ?_
  refine lv_icmp_lt (tgt := 16) hC.1 hC.2.1 dJ3_checkIndex_8e157_6 (by decide) (fun c_6 => ?_) (fun c => absurd (nI_lt hi hn) c)
  refine lv_iload_n hC.1 hC.2.1 dJ3_checkIndex_8e157_16 rfl (lv_at hl 0 rfl) ?_
  exact W.iret hC.1 hC.2.1 hr (fun t9 ht9 _ => ⟨_, rfl, rfl, ht9⟩) hS.2.2 dJ3_checkIndex_8e157_17

set_option maxHeartbeats 4000000 in
set_option maxRecDepth 100000 in
/-- an index in range -/
theorem c_J15_checkIndex_7cf53 (l : Launch) (G : ecG) (i n : Nat) (hi : i < n) (hn : n < 2 ^ 31) : Met l yJ15_checkIndex_7cf53 (ecWs yJ15_checkIndex_7cf53 cJ15_checkIndex_7cf53 2 (Option.some FieldType.int)) (ecRm 2 0 0) (ecPc [.int (nI i), .int (nI n)] G (fun H => True)) (ecRp (fun v => v = some (.int (nI i)))) 0 0 (fun _ => False) := by
  refine ec_met (by decide) (Nat.le_of_ble_eq_true rfl) ?_
  intro p e s m below meth c hC hr hlocks hname hOk hpre ls hl
  have hK := hOk.1
  have hS : va_S (fun _ => False) s.heap s.heap [] := va_S.rf
  have hAN : ∀ q, (fun _ : Nat => False) q → ecN0 G ≤ q := fun _ h => h.elim
  have hl : lv_has ls 2 [(0, .int (nI i)), (1, .int (nI n))] := hl
  refine lv_iload_n hC.1 hC.2.1 dJ15_checkIndex_7cf53_0 rfl (lv_at hl 0 rfl) ?_
  refine lv_iload_n hC.1 hC.2.1 dJ15_checkIndex_7cf53_1 rfl (lv_at hl 1 rfl) ?_
  refine lv_null hC.1 hC.2.1 dJ15_checkIndex_7cf53_2 ?_
  refine ec_go1 (ec_rS hC (c_J3_checkIndex_8e157 l G i n hi hn) kJ15_105 (hOk.at hS hAN) trivial hl.1 ⟨Nat.le_of_ble_eq_true rfl, Nat.le_of_ble_eq_true rfl⟩ rfl (Nat.le_of_ble_eq_true rfl) dJ15_checkIndex_7cf53_3 ⟨Nat.le_of_ble_eq_true rfl, Nat.le_of_ble_eq_true rfl⟩) ?_
  exact W.iret hC.1 hC.2.1 hr (fun t9 ht9 _ => ⟨_, rfl, rfl, ht9⟩) hS.2.2 dJ15_checkIndex_7cf53_6

set_option maxHeartbeats 4000000 in
set_option maxRecDepth 100000 in
/-- a list its size -/
theorem c_Jx4a65c_size_8abf5 (l : Launch) (G : ecG) (a : Nat) (v0 v1 : Value) (n : Int32) : Met l yJx4a65c_size_8abf5 (ecWs yJx4a65c_size_8abf5 cJx4a65c_size_8abf5 1 (Option.some FieldType.int)) (ecRm 1 0 0) (ecPc [.ref a] G (fun H => ecA G a (eO 7 [v0, v1, .int n]) H)) (ecRp (fun v => v = some (.int n))) 0 0 (fun _ => False) := by
  refine ec_met (by decide) (Nat.le_of_ble_eq_true rfl) ?_
  intro p e s m below meth c hC hr hlocks hname hOk hpre ls hl
  have hK := hOk.1
  have ha := hpre
  have hS : va_S (fun _ => False) s.heap s.heap [] := va_S.rf
  have hAN : ∀ q, (fun _ : Nat => False) q → ecN0 G ≤ q := fun _ h => h.elim
  have hl : lv_has ls 1 [(0, .ref a)] := hl
  refine lv_aload_n hC.1 hC.2.1 dJx4a65c_size_8abf5_0 rfl (lv_at hl 0 rfl) ?_
  refine ec_get hC hK ha fJx4a65c_48 rfl dJx4a65c_size_8abf5_1 ?_
  exact W.iret hC.1 hC.2.1 hr (fun t9 ht9 _ => ⟨_, rfl, rfl, ht9⟩) hS.2.2 dJx4a65c_size_8abf5_4

set_option maxHeartbeats 4000000 in
set_option maxRecDepth 100000 in
/-- a list, an element -/
theorem c_Jx4a65c_elementData_915e3 (l : Launch) (G : ecG) (a b i cap : Nat) (v0 v2 : Value) (g : Nat → Option Nat) (hi : i < cap) (hcap : cap < 2 ^ 31) : Met l yJx4a65c_elementData_915e3 (ecWs yJx4a65c_elementData_915e3 cJx4a65c_elementData_915e3 2 (Option.some (FieldType.object "java/lang/Object"))) (ecRm 1 0 0) (ecPc [.ref a, .int (nI i)] G (fun H => ecA G a (eO 7 [v0, .ref b, v2]) H ∧ ecA G b (eQ G cap g) H)) (ecRp (fun v => v = some (va_rf (g i)))) 0 0 (fun _ => False) := by
  refine ec_met (by decide) (Nat.le_of_ble_eq_true rfl) ?_
  intro p e s m below meth c hC hr hlocks hname hOk hpre ls hl
  have hK := hOk.1
  obtain ⟨ha, hb⟩ := hpre
  have hS : va_S (fun _ => False) s.heap s.heap [] := va_S.rf
  have hAN : ∀ q, (fun _ : Nat => False) q → ecN0 G ≤ q := fun _ h => h.elim
  have hl : lv_has ls 2 [(0, .ref a), (1, .int (nI i))] := hl
  refine lv_aload_n hC.1 hC.2.1 dJx4a65c_elementData_915e3_0 rfl (lv_at hl 0 rfl) ?_
  refine ec_get hC hK ha fJx4a65c_9 rfl dJx4a65c_elementData_915e3_1 ?_
  refine lv_iload_n hC.1 hC.2.1 dJx4a65c_elementData_915e3_4 rfl (lv_at hl 1 rfl) ?_
  refine ec_aldq hC hK hb i rfl hi hcap dJx4a65c_elementData_915e3_5 ?_
  exact W.aret hC.1 hC.2.1 hr (Or.inl ⟨_, rfl⟩) (va_rf_or _) (fun t9 ht9 _ => ⟨_, rfl, rfl, ht9⟩) hS.2.2 dJx4a65c_elementData_915e3_6

set_option maxHeartbeats 4000000 in
set_option maxRecDepth 100000 in
/-- a list, an element -/
theorem c_Jx4a65c_get_915e3 (l : Launch) (G : ecG) (a b i n cap : Nat) (v0 : Value) (g : Nat → Option Nat) (hi : i < n) (hn : n ≤ cap) (hcap : cap < 2 ^ 31) : Met l yJx4a65c_get_915e3 (ecWs yJx4a65c_get_915e3 cJx4a65c_get_915e3 2 (Option.some (FieldType.object "java/lang/Object"))) (ecRm 3 0 0) (ecPc [.ref a, .int (nI i)] G (fun H => ecA G a (eO 7 [v0, .ref b, .int (nI n)]) H ∧ ecA G b (eQ G cap g) H)) (ecRp (fun v => v = some (va_rf (g i)))) 0 0 (fun _ => False) := by
  refine ec_met (by decide) (Nat.le_of_ble_eq_true rfl) ?_
  intro p e s m below meth c hC hr hlocks hname hOk hpre ls hl
  have hK := hOk.1
  obtain ⟨ha, hb⟩ := hpre
  have hS : va_S (fun _ => False) s.heap s.heap [] := va_S.rf
  have hAN : ∀ q, (fun _ : Nat => False) q → ecN0 G ≤ q := fun _ h => h.elim
  have hl : lv_has ls 2 [(0, .ref a), (1, .int (nI i))] := hl
  refine lv_iload_n hC.1 hC.2.1 dJx4a65c_get_915e3_0 rfl (lv_at hl 1 rfl) ?_
  refine lv_aload_n hC.1 hC.2.1 dJx4a65c_get_915e3_1 rfl (lv_at hl 0 rfl) ?_
  refine ec_get hC hK ha fJx4a65c_48 rfl dJx4a65c_get_915e3_2 ?_
  refine ec_go1 (ec_rS hC (c_J15_checkIndex_7cf53 l G i n hi (by omega)) kJx4a65c_118 (hOk.at hS hAN) trivial hl.1 ⟨Nat.le_of_ble_eq_true rfl, Nat.le_of_ble_eq_true rfl⟩ rfl (Nat.le_of_ble_eq_true rfl) dJx4a65c_get_915e3_5 ⟨Nat.le_of_ble_eq_true rfl, Nat.le_of_ble_eq_true rfl⟩) ?_
  refine lv_pop hC.1 hC.2.1 dJx4a65c_get_915e3_8 rfl ?_
  refine lv_aload_n hC.1 hC.2.1 dJx4a65c_get_915e3_9 rfl (lv_at hl 0 rfl) ?_
  refine lv_iload_n hC.1 hC.2.1 dJx4a65c_get_915e3_10 rfl (lv_at hl 1 rfl) ?_
  refine ec_go1 (ec_rV hC (c_Jx4a65c_elementData_915e3 l G a b i cap v0 (.int (nI n)) g (by omega) hcap) kJx4a65c_123 (hOk.at hS hAN) ⟨ha, hb⟩ (ec_rc hK ha ⟨_, _, rfl⟩) hl.1 ⟨Nat.le_of_ble_eq_true rfl, Nat.le_of_ble_eq_true rfl⟩ rfl (Nat.le_of_ble_eq_true rfl) dJx4a65c_get_915e3_11 ⟨Nat.le_of_ble_eq_true rfl, Nat.le_of_ble_eq_true rfl⟩) ?_
  exact W.aret hC.1 hC.2.1 hr (Or.inl ⟨_, rfl⟩) (va_rf_or _) (fun t9 ht9 _ => ⟨_, rfl, rfl, ht9⟩) hS.2.2 dJx4a65c_get_915e3_14

set_option maxHeartbeats 4000000 in
set_option maxRecDepth 100000 in
/-- AbstractCollection() -/
theorem c_Jxa1e45_init_da8c8 (l : Launch) (G : ecG) (a : Nat) : Met l yJxa1e45_init_da8c8 (ecWs yJxa1e45_init_da8c8 cJxa1e45_init_da8c8 1 none) (ecRm 1 0 0) (ecPc [.ref a] G (fun H => True)) (ecRp (fun v => v = none)) 0 0 (fun _ => False) := by
  refine ec_met (by decide) (Nat.le_of_ble_eq_true rfl) ?_
  intro p e s m below meth c hC hr hlocks hname hOk hpre ls hl
  have hK := hOk.1
  have hS : va_S (fun _ => False) s.heap s.heap [] := va_S.rf
  have hAN : ∀ q, (fun _ : Nat => False) q → ecN0 G ≤ q := fun _ h => h.elim
  have hl : lv_has ls 1 [(0, .ref a)] := hl
  refine lv_aload_n hC.1 hC.2.1 dJxa1e45_init_da8c8_0 rfl (lv_at hl 0 rfl) ?_
  refine W.objInit hC.1 hC.2.1 hC.2.2.2.1 (hC.2.2.2.2 _ kJxa1e45_1) (hC.2.2.2.2 _ qOi) (hC.2.2.2.2 _ qOc) rfl (by rw [hC.2.2.1]; exact hl.1) rfl dJxa1e45_init_da8c8_1 (Nat.le_of_ble_eq_true rfl) (Nat.le_of_ble_eq_true rfl) ?_
  refine W.eq (g2 := F0 m 4 ls []) rfl ?_
  exact W.vret hC.1 hC.2.1 hr (fun t9 ht9 _ => ⟨_, rfl, rfl, ht9⟩) hS.2.2 dJxa1e45_init_da8c8_4

set_option maxHeartbeats 4000000 in
set_option maxRecDepth 100000 in
/-- AbstractList() -/
theorem c_Jxc12de_init_da8c8 (l : Launch) (G : ecG) (a : Nat) (x n : Int32) (v1 : Value) (hN : ecN0 G ≤ a) : Met l yJxc12de_init_da8c8 (ecWs yJxc12de_init_da8c8 cJxc12de_init_da8c8 1 none) (ecRm 2 0 0) (ecPc [.ref a] G (fun H => ecA G a (eO 7 [.int x, v1, .int n]) H)) (ecEp (fun v H1 => v = none ∧ ecA G a (eO 7 [.int 0, v1, .int n]) H1) (fun q : Nat => q = a)) 0 0 (fun q : Nat => q = a) := by
  refine ec_met (by decide) (Nat.le_of_ble_eq_true rfl) ?_
  intro p e s m below meth c hC hr hlocks hname hOk hpre ls hl
  have hK := hOk.1
  have ha := hpre
  have hS : va_S (fun q : Nat => q = a) s.heap s.heap [] := va_S.rf
  have hAN : ∀ q, (fun q : Nat => q = a) q → ecN0 G ≤ q := fun q h => by rw [h]; exact hN
  have hl : lv_has ls 1 [(0, .ref a)] := hl
  refine lv_aload_n hC.1 hC.2.1 dJxc12de_init_da8c8_0 rfl (lv_at hl 0 rfl) ?_
  refine ec_go0 (ec_rI hC (c_Jxa1e45_init_da8c8 l G a) kJxc12de_1 (hOk.at hS hAN) trivial hl.1 ⟨Nat.le_of_ble_eq_true rfl, Nat.le_of_ble_eq_true rfl⟩ rfl (Nat.le_of_ble_eq_true rfl) dJxc12de_init_da8c8_1 ⟨Nat.le_of_ble_eq_true rfl, Nat.le_of_ble_eq_true rfl⟩) ?_
  refine lv_aload_n hC.1 hC.2.1 dJxc12de_init_da8c8_4 rfl (lv_at hl 0 rfl) ?_
  refine lv_iconst (v := 0) hC.1 hC.2.1 dJxc12de_init_da8c8_5 (by decide) ?_
  refine ec_put hC hK hS ha rfl fJxc12de_7 rfl rfl rfl (Nat.le_of_ble_eq_true rfl) dJxc12de_init_da8c8_6 (fun H locs h9 o9 z9 hS => ?_)
  have ha : ecA G a (eO 7 [.int 0, v1, .int n]) H := h9
  exact W.vret hC.1 hC.2.1 hr (fun t9 ht9 _ => ⟨_, rfl, ⟨rfl, by rw [ht9]; exact ha⟩, hS.F ht9⟩) hS.2.2 dJxc12de_init_da8c8_9

set_option maxHeartbeats 4000000 in
set_option maxRecDepth 100000 in
/-- ArrayList(): empty -/
theorem c_Jx4a65c_init_da8c8 (l : Launch) (G : ecG) (a : Nat) (hN : ecN0 G ≤ a) : Met l yJx4a65c_init_da8c8 (ecWs yJx4a65c_init_da8c8 cJx4a65c_init_da8c8 1 none) (ecRm 3 0 0) (ecPc [.ref a] G (fun H => ecA G a (eO 7 [.int 0, .null, .int 0]) H)) (ecEp (fun v H1 => v = none ∧ ecA G a (eO 7 [.int 0, .ref (ecTe G), .int 0]) H1) (fun q : Nat => q = a)) 0 0 (fun q : Nat => q = a) := by
  refine ec_met (by decide) (Nat.le_of_ble_eq_true rfl) ?_
  intro p e s m below meth c hC hr hlocks hname hOk hpre ls hl
  have hK := hOk.1
  have ha := hpre
  have hS : va_S (fun q : Nat => q = a) s.heap s.heap [] := va_S.rf
  have hAN : ∀ q, (fun q : Nat => q = a) q → ecN0 G ≤ q := fun q h => by rw [h]; exact hN
  have hl : lv_has ls 1 [(0, .ref a)] := hl
  refine lv_aload_n hC.1 hC.2.1 dJx4a65c_init_da8c8_0 rfl (lv_at hl 0 rfl) ?_
  refine ec_goE0 (ec_rI hC (c_Jxc12de_init_da8c8 l G a 0 0 .null hN) kJx4a65c_1 (hOk.at hS hAN) ha hl.1 ⟨Nat.le_of_ble_eq_true rfl, Nat.le_of_ble_eq_true rfl⟩ rfl (Nat.le_of_ble_eq_true rfl) dJx4a65c_init_da8c8_1 ⟨Nat.le_of_ble_eq_true rfl, Nat.le_of_ble_eq_true rfl⟩) hS (fun _ h => h) (fun H1 locs ha hz hk1 hS => ?_)
  refine lv_aload_n hC.1 hC.2.1 dJx4a65c_init_da8c8_4 rfl (lv_at hl 0 rfl) ?_
  refine va_gets hC.1 hC.2.1 (hOk.2.2.2.2.1.narrow hAN) hS hC.2.2.2.1 (hC.2.2.2.2 _ q45) (fun _ h => h) dJx4a65c_init_da8c8_5 ?_
  refine ec_put hC hK hS ha rfl fJx4a65c_9 rfl rfl rfl (Nat.le_of_ble_eq_true rfl) dJx4a65c_init_da8c8_8 (fun H locs h9 o9 z9 hS => ?_)
  have ha : ecA G a (eO 7 [.int 0, .ref (ecTe G), .int 0]) H := h9
  exact W.vret hC.1 hC.2.1 hr (fun t9 ht9 _ => ⟨_, rfl, ⟨rfl, by rw [ht9]; exact ha⟩, hS.F ht9⟩) hS.2.2 dJx4a65c_init_da8c8_11

set_option maxHeartbeats 4000000 in
set_option maxRecDepth 100000 in
/-- a longer length -/
theorem c_J8_newLength_cabcc (l : Launch) (G : ecG) (n : Nat) (h1 : 10 ≤ n) (h2 : n ≤ 60) : Met l yJ8_newLength_cabcc (ecWs yJ8_newLength_cabcc cJ8_newLength_cabcc 4 (Option.some FieldType.int)) (ecRm 2 0 0) (ecPc [.int (nI n), .int (nI 1), .int (nI (n / 2))] G (fun H => True)) (ecRp (fun v => v = some (.int (nI (n + n / 2))))) 0 0 (fun _ => False) := by
  refine ec_met (by decide) (Nat.le_of_ble_eq_true rfl) ?_
  intro p e s m below meth c hC hr hlocks hname hOk hpre ls hl
  have hK := hOk.1
  have hS : va_S (fun _ => False) s.heap s.heap [] := va_S.rf
  have hAN : ∀ q, (fun _ : Nat => False) q → ecN0 G ≤ q := fun _ h => h.elim
  have hl : lv_has ls 4 [(0, .int (nI n)), (1, .int (nI 1)), (2, .int (nI (n / 2)))] := hl
  refine lv_iload_n hC.1 hC.2.1 dJ8_newLength_cabcc_0 rfl (lv_at hl 0 rfl) ?_
  refine lv_iload_n hC.1 hC.2.1 dJ8_newLength_cabcc_1 rfl (lv_at hl 1 rfl) ?_
  refine lv_iload_n hC.1 hC.2.1 dJ8_newLength_cabcc_2 rfl (lv_at hl 2 rfl) ?_
  refine va_mmax hC.1 hC.2.1 (by rw [hC.2.2.1]; exact hl.1.symm) hC.2.2.2.1 (hC.2.2.2.2 _ q264) (hC.2.2.2.2 _ q265) (hC.2.2.2.2 _ q13) (hC.2.2.2.2 _ qMax) (Nat.le_of_ble_eq_true rfl) (Nat.le_of_ble_eq_true rfl) (Nat.le_of_ble_eq_true rfl) (Nat.le_of_ble_eq_true rfl) dJ8_newLength_cabcc_3 ?_
  refine ec_topi (y := (nI (n / 2))) (if_pos (nI_lt (by omega) (by omega))) ?_
  refine lv_iadd hC.1 hC.2.1 dJ8_newLength_cabcc_6 ?_
  refine ec_topi (y := (nI (n + n / 2))) (nI_add _ _) ?_
  refine lv_istore_n (lv' := [(3, .int (nI (n + n / 2))), (0, .int (nI n)), (1, .int (nI 1)), (2, .int (nI (n / 2)))]) hC.1 hC.2.1 dJ8_newLength_cabcc_7 rfl hl (by decide) rfl (fun ls hl => ?_)
  refine lv_iconst (v := 0) hC.1 hC.2.1 dJ8_newLength_cabcc_8 (by decide) ?_
  refine lv_iload_n hC.1 hC.2.1 dJ8_newLength_cabcc_9 rfl (lv_at hl 0 rfl) ?_
  refine lv_icmp_ge (tgt := 21) hC.1 hC.2.1 dJ8_newLength_cabcc_10 (by decide) (fun c => absurd c (nI_nle (by omega) (by omega))) (fun c_10 => ?_)
  refine lv_iload_n hC.1 hC.2.1 dJ8_newLength_cabcc_13 rfl (lv_at hl 0 rfl) ?_
  refine lv_ldc hC.1 hC.2.1 hC.2.2.2.1 (hC.2.2.2.2 _ q267) dJ8_newLength_cabcc_14 ?_
  refine lv_icmp_gt (tgt := 21) hC.1 hC.2.1 dJ8_newLength_cabcc_16 (by decide) (fun c => absurd c (nI_nlt (a := 2147483639) (b := n + n / 2) (by omega) (by decide))) (fun c_16 => ?_)
  refine lv_iload_n hC.1 hC.2.1 dJ8_newLength_cabcc_19 rfl (lv_at hl 0 rfl) ?_
  exact W.iret hC.1 hC.2.1 hr (fun t9 ht9 _ => ⟨_, rfl, rfl, ht9⟩) hS.2.2 dJ8_newLength_cabcc_20
end
section
set_option maxHeartbeats 4000000 in
set_option maxRecDepth 100000 in
/-- a longer row, with what the old one held -/
theorem c_J7_copyOf_6403c (l : Launch) (G : ecG) (b n n2 sz : Nat) (g : Nat → Option Nat) (h1 : n ≤ n2) (h100 : n2 ≤ 100) : Met l yJ7_copyOf_6403c (ecWs yJ7_copyOf_6403c cJ7_copyOf_6403c 4 (Option.some (FieldType.array (FieldType.object "java/lang/Object")))) (ecRm 2 1 100) (ecPc [.ref b, .int (nI n2), .ref (ecMi G)] G (fun H => H.size = sz ∧ ecA G b (eQ G n g) H ∧ (∀ i : Nat, i < n → ∀ y : Nat, g i = some y → ecEl G y H))) (ecEp (fun v H1 => ∃ q : Nat, v = some (.ref q) ∧ (ecA G q (eQ G n2 (va_cpy g (fun _ => none) 0 0 n)) H1 ∧ sz ≤ q)) (fun x : Nat => sz ≤ x)) 1 100 (fun x : Nat => sz ≤ x) := by
  refine ec_met (by decide) (Nat.le_of_ble_eq_true rfl) ?_
  intro p e s m below meth c hC hr hlocks hname hOk hpre ls hl
  have hK := hOk.1
  obtain ⟨hsz, hb, hel⟩ := hpre
  have hS : va_S (fun x : Nat => sz ≤ x) s.heap s.heap [] := va_S.rf
  have hAN : ∀ q, (fun x : Nat => sz ≤ x) q → ecN0 G ≤ q := fun q h => Nat.le_trans hOk.2.1 (by rw [hsz]; exact h)
  have hl : lv_has ls 4 [(0, .ref b), (1, .int (nI n2)), (2, .ref (ecMi G))] := hl
  refine lv_aload_n hC.1 hC.2.1 dJ7_copyOf_6403c_0 rfl (lv_at hl 2 rfl) ?_
  refine va_ldcM hC.1 hC.2.1 hC.2.2.2.1 (hC.2.2.2.2 _ nJ7_110) hK.2.2.1 dJ7_copyOf_6403c_1 ?_
  refine lv_acmp_ne (rx := (some (ecMi G))) (ry := (some (ecMi G))) (tgt := 13) hC.1 hC.2.1 dJ7_copyOf_6403c_3 (by decide) (fun c => absurd rfl c) (fun c_3 => ?_)
  refine lv_iload_n hC.1 hC.2.1 dJ7_copyOf_6403c_6 rfl (lv_at hl 1 rfl) ?_
  refine ec_newQ hC hK hS nJ7_2 n2 rfl (by omega) (Nat.le_of_ble_eq_true rfl) (by show 0 + n2 ≤ 100; omega) dJ7_copyOf_6403c_7 (fun q H hq h2 hkp hS hz => ?_)
  refine W.widen (k := 1) (n := 100) (by omega) (by omega) ?_
  have hb := hb.kp hkp
  have hel : ∀ i : Nat, i < n → ∀ y : Nat, g i = some y → ecEl G y H := fun i h1 y h2 => (hel i h1 y h2).kp hkp
  refine lv_goto (tgt := 24) hC.1 hC.2.1 dJ7_copyOf_6403c_10 (by decide) ?_
  refine lv_astore_n (lv' := [(3, .ref q), (0, .ref b), (1, .int (nI n2)), (2, .ref (ecMi G))]) hC.1 hC.2.1 dJ7_copyOf_6403c_24 rfl hl (by decide) rfl (fun ls hl => ?_)
  refine lv_aload_n hC.1 hC.2.1 dJ7_copyOf_6403c_25 rfl (lv_at hl 1 rfl) ?_
  refine lv_iconst (v := 0) hC.1 hC.2.1 dJ7_copyOf_6403c_26 (by decide) ?_
  refine lv_aload_n hC.1 hC.2.1 dJ7_copyOf_6403c_27 rfl (lv_at hl 0 rfl) ?_
  refine lv_iconst (v := 0) hC.1 hC.2.1 dJ7_copyOf_6403c_28 (by decide) ?_
  refine lv_aload_n hC.1 hC.2.1 dJ7_copyOf_6403c_29 rfl (lv_at hl 1 rfl) ?_
  refine ec_lenQ hC hK hb dJ7_copyOf_6403c_30 ?_
  refine lv_iload_n hC.1 hC.2.1 dJ7_copyOf_6403c_31 rfl (lv_at hl 2 rfl) ?_
  refine va_mmin hC.1 hC.2.1 (by rw [hC.2.2.1]; exact hl.1.symm) hC.2.2.2.1 (hC.2.2.2.2 _ q297) (hC.2.2.2.2 _ q298) (hC.2.2.2.2 _ q13) (hC.2.2.2.2 _ qMin) (Nat.le_of_ble_eq_true rfl) (Nat.le_of_ble_eq_true rfl) (Nat.le_of_ble_eq_true rfl) (Nat.le_of_ble_eq_true rfl) dJ7_copyOf_6403c_32 ?_
  refine ec_topi (y := nI n) (if_neg (nI_nlt (by omega) (by omega))) ?_
  refine ec_copy hC hK hS q300 hb h2 (by rw [hq, hsz]; exact Nat.le_refl _) n (by omega) (Nat.le_refl _) (by omega) hel hl.1 (Nat.le_of_ble_eq_true rfl) (Nat.le_of_ble_eq_true rfl) dJ7_copyOf_6403c_35 (fun H locs h2 o9 z9 hS => ?_)
  refine lv_aload_n hC.1 hC.2.1 dJ7_copyOf_6403c_38 rfl (lv_at hl 0 rfl) ?_
  exact W.aret hC.1 hC.2.1 hr (Or.inr ⟨_, rfl⟩) (Or.inr ⟨_, rfl⟩) (fun t9 ht9 _ => ⟨_, rfl, by rw [ht9]; exact ⟨q, rfl, h2, by rw [hq, hsz]; exact Nat.le_refl _⟩, hS.F ht9⟩) hS.2.2 dJ7_copyOf_6403c_39

theorem ec_arrc {G : ecG} {s : State} (hK : ecKx G s) {b n : Nat} {g : Nat → Option Nat} {H : Heap} (hb : ecA G b (eQ G n g) H) : ∃ cell : Cell, H[b]? = some cell ∧ cell.vm.isStatics = false ∧ s.vm.findClass "[Ljava/lang/Object;" = some cell.cls := by
  obtain ⟨kA, comp, -, -, -, h4⟩ := (hK.1.2 3 _ rfl).2
  exact ⟨_, hb, rfl, h4⟩

set_option maxHeartbeats 4000000 in
set_option maxRecDepth 100000 in
/-- a longer row -/
theorem c_J7_copyOf_1904c (l : Launch) (G : ecG) (b n n2 sz : Nat) (g : Nat → Option Nat) (h1 : n ≤ n2) (h100 : n2 ≤ 100) : Met l yJ7_copyOf_1904c (ecWs yJ7_copyOf_1904c cJ7_copyOf_1904c 2 (Option.some (FieldType.array (FieldType.object "java/lang/Object")))) (ecRm 3 1 100) (ecPc [.ref b, .int (nI n2)] G (fun H => H.size = sz ∧ ecA G b (eQ G n g) H ∧ (∀ i : Nat, i < n → ∀ y : Nat, g i = some y → ecEl G y H))) (ecEp (fun v H1 => ∃ q : Nat, v = some (.ref q) ∧ (ecA G q (eQ G n2 (va_cpy g (fun _ => none) 0 0 n)) H1 ∧ sz ≤ q)) (fun x : Nat => sz ≤ x)) 1 100 (fun x : Nat => sz ≤ x) := by
  refine ec_met (by decide) (Nat.le_of_ble_eq_true rfl) ?_
  intro p e s m below meth c hC hr hlocks hname hOk hpre ls hl
  have hK := hOk.1
  obtain ⟨hsz, hb, hel⟩ := hpre
  have hS : va_S (fun x : Nat => sz ≤ x) s.heap s.heap [] := va_S.rf
  have hAN : ∀ q, (fun x : Nat => sz ≤ x) q → ecN0 G ≤ q := fun q h => Nat.le_trans hOk.2.1 (by rw [hsz]; exact h)
  have hl : lv_has ls 2 [(0, .ref b), (1, .int (nI n2))] := hl
  refine lv_aload_n hC.1 hC.2.1 dJ7_copyOf_1904c_0 rfl (lv_at hl 0 rfl) ?_
  refine lv_iload_n hC.1 hC.2.1 dJ7_copyOf_1904c_1 rfl (lv_at hl 1 rfl) ?_
  refine lv_aload_n hC.1 hC.2.1 dJ7_copyOf_1904c_2 rfl (lv_at hl 0 rfl) ?_
  refine va_getC (C := "[Ljava/lang/Object;") hC.1 hC.2.1 (by rw [hC.2.2.1]; exact hl.1.symm) hC.2.2.2.1 (hC.2.2.2.2 _ q274) (va_Dc.use hK.2.2.2.1) (hC.2.2.2.2 _ q1027) (hC.2.2.2.2 _ q275) (hC.2.2.2.2 _ q290) hK.2.2.1 (ec_arrc hK hb) (Nat.le_of_ble_eq_true rfl) (Nat.le_of_ble_eq_true rfl) dJ7_copyOf_1904c_3 ?_
  refine ec_goEq (ec_rS hC (c_J7_copyOf_6403c l G b n n2 sz g h1 h100) kJ7_300 (hOk.at hS hAN) ⟨hsz, hb, hel⟩ hl.1 ⟨Nat.le_of_ble_eq_true rfl, Nat.le_of_ble_eq_true rfl⟩ rfl (Nat.le_of_ble_eq_true rfl) dJ7_copyOf_1904c_6 ⟨Nat.le_of_ble_eq_true rfl, Nat.le_of_ble_eq_true rfl⟩) hS (fun _ h => h) (fun q H locs hp hz hk1 hS => ?_)
  exact W.aret hC.1 hC.2.1 hr (Or.inr ⟨_, rfl⟩) (Or.inr ⟨_, rfl⟩) (fun t9 ht9 _ => ⟨_, rfl, by rw [ht9]; exact ⟨q, rfl, hp⟩, hS.F ht9⟩) hS.2.2 dJ7_copyOf_1904c_9

set_option maxHeartbeats 4000000 in
set_option maxRecDepth 100000 in
/-- the first row is made: ten places -/
theorem c_growF (l : Launch) (G : ecG) (a sz : Nat) (v0 v2 : Value) (hN : ecN0 G ≤ a) : Met l yJx4a65c_grow_92f84 (ecWs yJx4a65c_grow_92f84 cJx4a65c_grow_92f84 4 (Option.some (FieldType.array (FieldType.object "java/lang/Object")))) (ecRm 5 1 100) (ecPc [.ref a, .int (nI 1)] G (fun H => H.size = sz ∧ ecA G a (eO 7 [v0, .ref (ecTe G), v2]) H)) (ecEp (fun v H1 => ∃ q : Nat, v = some (.ref q) ∧ (ecA G a (eO 7 [v0, .ref q, v2]) H1 ∧ ecA G q (eQ G 10 (fun _ => none)) H1 ∧ sz ≤ q)) (fun x : Nat => x = a ∨ sz ≤ x)) 1 100 (fun x : Nat => x = a ∨ sz ≤ x) := by
  refine ec_met (by decide) (Nat.le_of_ble_eq_true rfl) ?_
  intro p e s m below meth c hC hr hlocks hname hOk hpre ls hl
  have hK := hOk.1
  obtain ⟨hsz, ha⟩ := hpre
  have hS : va_S (fun x : Nat => x = a ∨ sz ≤ x) s.heap s.heap [] := va_S.rf
  have hAN : ∀ q, (fun x : Nat => x = a ∨ sz ≤ x) q → ecN0 G ≤ q := fun q h => h.elim (fun h => by rw [h]; exact hN) (fun h => Nat.le_trans hOk.2.1 (by rw [hsz]; exact h))
  have hl : lv_has ls 4 [(0, .ref a), (1, .int (nI 1))] := hl
  have hlt := ha.lt
  refine lv_aload_n hC.1 hC.2.1 dJx4a65c_grow_92f84_0 rfl (lv_at hl 0 rfl) ?_
  refine ec_get hC hK ha fJx4a65c_9 rfl dJx4a65c_grow_92f84_1 ?_
  refine va_tlen hC.1 hC.2.1 (hOk.2.2.2.2.2.narrow hAN) hS (v := 0) rfl dJx4a65c_grow_92f84_4 ?_
  refine lv_istore_n (lv' := [(2, .int 0), (0, .ref a), (1, .int (nI 1))]) hC.1 hC.2.1 dJx4a65c_grow_92f84_5 rfl hl (by decide) rfl (fun ls hl => ?_)
  refine lv_iload_n hC.1 hC.2.1 dJx4a65c_grow_92f84_6 rfl (lv_at hl 0 rfl) ?_
  refine lv_if_gt (tgt := 20) hC.1 hC.2.1 dJx4a65c_grow_92f84_7 (by decide) (fun c => absurd c (by decide)) (fun _ => ?_)
  refine lv_aload_n hC.1 hC.2.1 dJx4a65c_grow_92f84_10 rfl (lv_at hl 1 rfl) ?_
  refine ec_get hC hK ha fJx4a65c_9 rfl dJx4a65c_grow_92f84_11 ?_
  refine va_gets hC.1 hC.2.1 (hOk.2.2.2.2.1.narrow hAN) hS hC.2.2.2.1 (hC.2.2.2.2 _ q45) (fun _ h => h) dJx4a65c_grow_92f84_14 ?_
  refine lv_acmp_eq (rx := (some (ecTe G))) (ry := (some (ecTe G))) (tgt := 45) hC.1 hC.2.1 dJx4a65c_grow_92f84_17 (by decide) (fun c_17 => ?_) (fun c => absurd rfl c)
  refine lv_aload_n hC.1 hC.2.1 dJx4a65c_grow_92f84_45 rfl (lv_at hl 1 rfl) ?_
  refine lv_bipush (v := 10) hC.1 hC.2.1 dJx4a65c_grow_92f84_46 (by decide) ?_
  refine lv_iload_n hC.1 hC.2.1 dJx4a65c_grow_92f84_48 rfl (lv_at hl 2 rfl) ?_
  refine va_mmax hC.1 hC.2.1 (by rw [hC.2.2.1]; exact hl.1.symm) hC.2.2.2.1 (hC.2.2.2.2 _ q303) (hC.2.2.2.2 _ q265) (hC.2.2.2.2 _ q13) (hC.2.2.2.2 _ qMax) (Nat.le_of_ble_eq_true rfl) (Nat.le_of_ble_eq_true rfl) (Nat.le_of_ble_eq_true rfl) (Nat.le_of_ble_eq_true rfl) dJx4a65c_grow_92f84_49 ?_
  refine ec_topi (y := nI 10) (by decide) ?_
  refine ec_newQ hC hK hS nJx4a65c_7 10 rfl (by omega) (Nat.le_of_ble_eq_true rfl) (Nat.le_of_ble_eq_true rfl) dJx4a65c_grow_92f84_52 (fun q H hq h2 hkp hS hz => ?_)
  have ha := ha.kp hkp
  have hqa : q ≠ a := fun z => Nat.ne_of_lt hlt (by rw [← z, hq])
  refine lv_dup_x1 hC.1 hC.2.1 dJx4a65c_grow_92f84_55 rfl rfl ?_
  refine ec_put hC hK hS ha (Or.inl rfl) fJx4a65c_9 rfl rfl rfl (Nat.le_of_ble_eq_true rfl) dJx4a65c_grow_92f84_56 (fun H locs h9 o9 z9 hS => ?_)
  have ha : ecA G a (eO 7 [v0, .ref q, v2]) H := h9
  refine W.widen (k := 1) (n := 100) (Nat.le_of_ble_eq_true rfl) (Nat.le_of_ble_eq_true rfl) ?_
  exact W.aret hC.1 hC.2.1 hr (Or.inr ⟨_, rfl⟩) (Or.inr ⟨_, rfl⟩) (fun t9 ht9 _ => ⟨_, rfl, by rw [ht9]; exact ⟨q, rfl, ha, h2.kept (o9 _ hqa), by rw [hq, hsz]; exact Nat.le_refl _⟩, hS.F ht9⟩) hS.2.2 dJx4a65c_grow_92f84_59

set_option maxHeartbeats 4000000 in
set_option maxRecDepth 100000 in
/-- a full row grows by half -/
theorem c_growH (l : Launch) (G : ecG) (a b n sz : Nat) (v0 v2 : Value) (g : Nat → Option Nat) (hN : ecN0 G ≤ a) (h10 : 10 ≤ n) (h60 : n ≤ 60) : Met l yJx4a65c_grow_92f84 (ecWs yJx4a65c_grow_92f84 cJx4a65c_grow_92f84 4 (Option.some (FieldType.array (FieldType.object "java/lang/Object")))) (ecRm 5 1 100) (ecPc [.ref a, .int (nI (n + 1))] G (fun H => H.size = sz ∧ ecA G a (eO 7 [v0, .ref b, v2]) H ∧ ecA G b (eQ G n g) H ∧ (∀ i : Nat, i < n → ∀ y : Nat, g i = some y → ecEl G y H))) (ecEp (fun v H1 => ∃ q : Nat, v = some (.ref q) ∧ (ecA G a (eO 7 [v0, .ref q, v2]) H1 ∧ ecA G q (eQ G (n + n / 2) (va_cpy g (fun _ => none) 0 0 n)) H1 ∧ sz ≤ q)) (fun x : Nat => x = a ∨ sz ≤ x)) 1 100 (fun x : Nat => x = a ∨ sz ≤ x) := by
  refine ec_met (by decide) (Nat.le_of_ble_eq_true rfl) ?_
  intro p e s m below meth c hC hr hlocks hname hOk hpre ls hl
  have hK := hOk.1
  obtain ⟨hsz, ha, hb, hel⟩ := hpre
  have hS : va_S (fun x : Nat => x = a ∨ sz ≤ x) s.heap s.heap [] := va_S.rf
  have hAN : ∀ q, (fun x : Nat => x = a ∨ sz ≤ x) q → ecN0 G ≤ q := fun q h => h.elim (fun h => by rw [h]; exact hN) (fun h => Nat.le_trans hOk.2.1 (by rw [hsz]; exact h))
  have hl : lv_has ls 4 [(0, .ref a), (1, .int (nI (n + 1)))] := hl
  have hlt := ha.lt
  refine lv_aload_n hC.1 hC.2.1 dJx4a65c_grow_92f84_0 rfl (lv_at hl 0 rfl) ?_
  refine ec_get hC hK ha fJx4a65c_9 rfl dJx4a65c_grow_92f84_1 ?_
  refine ec_lenQ hC hK hb dJx4a65c_grow_92f84_4 ?_
  refine lv_istore_n (lv' := [(2, .int (nI n)), (0, .ref a), (1, .int (nI (n + 1)))]) hC.1 hC.2.1 dJx4a65c_grow_92f84_5 rfl hl (by decide) rfl (fun ls hl => ?_)
  refine lv_iload_n hC.1 hC.2.1 dJx4a65c_grow_92f84_6 rfl (lv_at hl 0 rfl) ?_
  refine lv_if_gt (tgt := 20) hC.1 hC.2.1 dJx4a65c_grow_92f84_7 (by decide) (fun c_7 => ?_) (fun c => absurd (show (0 : Int32) < nI n by have := nI_lt (a := 0) (b := n) (by omega) (by omega); exact this) c)
  refine lv_iload_n hC.1 hC.2.1 dJx4a65c_grow_92f84_20 rfl (lv_at hl 0 rfl) ?_
  refine lv_iload_n hC.1 hC.2.1 dJx4a65c_grow_92f84_21 rfl (lv_at hl 2 rfl) ?_
  refine lv_iload_n hC.1 hC.2.1 dJx4a65c_grow_92f84_22 rfl (lv_at hl 0 rfl) ?_
  refine lv_isub hC.1 hC.2.1 dJx4a65c_grow_92f84_23 ?_
  refine ec_topi (y := (nI 1)) (by rw [pk_sub (by omega), Nat.add_sub_cancel_left]) ?_
  refine lv_iload_n hC.1 hC.2.1 dJx4a65c_grow_92f84_24 rfl (lv_at hl 0 rfl) ?_
  refine lv_iconst (v := 1) hC.1 hC.2.1 dJx4a65c_grow_92f84_25 (by decide) ?_
  refine lv_ishr hC.1 hC.2.1 dJx4a65c_grow_92f84_26 ?_
  refine ec_topi (y := nI (n / 2)) (by have k := pk_shrN (n := n) (by omega) ((1 : Int32) &&& 31) 1 (by decide); rw [Nat.pow_one] at k; exact k) ?_
  refine ec_go1 (ec_rS hC (c_J8_newLength_cabcc l G n h10 h60) kJx4a65c_73 (hOk.at hS hAN) trivial hl.1 ⟨Nat.le_of_ble_eq_true rfl, Nat.le_of_ble_eq_true rfl⟩ rfl (Nat.le_of_ble_eq_true rfl) dJx4a65c_grow_92f84_27 ⟨Nat.le_of_ble_eq_true rfl, Nat.le_of_ble_eq_true rfl⟩) ?_
  refine lv_istore_n (lv' := [(3, .int (nI (n + n / 2))), (2, .int (nI n)), (0, .ref a), (1, .int (nI (n + 1)))]) hC.1 hC.2.1 dJx4a65c_grow_92f84_30 rfl hl (by decide) rfl (fun ls hl => ?_)
  refine lv_aload_n hC.1 hC.2.1 dJx4a65c_grow_92f84_31 rfl (lv_at hl 2 rfl) ?_
  refine lv_aload_n hC.1 hC.2.1 dJx4a65c_grow_92f84_32 rfl (lv_at hl 2 rfl) ?_
  refine ec_get hC hK ha fJx4a65c_9 rfl dJx4a65c_grow_92f84_33 ?_
  refine lv_iload_n hC.1 hC.2.1 dJx4a65c_grow_92f84_36 rfl (lv_at hl 0 rfl) ?_
  refine ec_goEq (ec_rS hC (c_J7_copyOf_1904c l G b n (n + n / 2) sz g (by omega) (by omega)) kJx4a65c_66 (hOk.at hS hAN) ⟨hsz, hb, hel⟩ hl.1 ⟨Nat.le_of_ble_eq_true rfl, Nat.le_of_ble_eq_true rfl⟩ rfl (Nat.le_of_ble_eq_true rfl) dJx4a65c_grow_92f84_37 ⟨Nat.le_of_ble_eq_true rfl, Nat.le_of_ble_eq_true rfl⟩) hS (fun _ h => Or.inr h) (fun q H locs hp hz hk1 hS => ?_)
  have ha := ha.un hk1 (by show ¬ sz ≤ a; have := ha.lt; omega)
  have hqa : q ≠ a := fun z => Nat.lt_irrefl sz (Nat.lt_of_le_of_lt hp.2 (by rw [z, ← hsz]; exact hlt))
  refine lv_dup_x1 hC.1 hC.2.1 dJx4a65c_grow_92f84_40 rfl rfl ?_
  refine ec_put hC hK hS ha (Or.inl rfl) fJx4a65c_9 rfl rfl rfl (Nat.le_of_ble_eq_true rfl) dJx4a65c_grow_92f84_41 (fun H locs h9 o9 z9 hS => ?_)
  have ha : ecA G a (eO 7 [v0, .ref q, v2]) H := h9
  exact W.aret hC.1 hC.2.1 hr (Or.inr ⟨_, rfl⟩) (Or.inr ⟨_, rfl⟩) (fun t9 ht9 _ => ⟨_, rfl, by rw [ht9]; exact ⟨q, rfl, ha, hp.1.kept (o9 _ hqa), hp.2⟩, hS.F ht9⟩) hS.2.2 dJx4a65c_grow_92f84_44

set_option maxHeartbeats 4000000 in
set_option maxRecDepth 100000 in
/-- the first row is made -/
theorem c_grow0F (l : Launch) (G : ecG) (a sz : Nat) (v0 : Value) (hN : ecN0 G ≤ a) : Met l yJx4a65c_grow_d5877 (ecWs yJx4a65c_grow_d5877 cJx4a65c_grow_d5877 1 (Option.some (FieldType.array (FieldType.object "java/lang/Object")))) (ecRm 6 1 100) (ecPc [.ref a] G (fun H => H.size = sz ∧ ecA G a (eO 7 [v0, .ref (ecTe G), .int 0]) H)) (ecEp (fun v H1 => ∃ q : Nat, v = some (.ref q) ∧ (ecA G a (eO 7 [v0, .ref q, .int 0]) H1 ∧ ecA G q (eQ G 10 (fun _ => none)) H1 ∧ sz ≤ q)) (fun x : Nat => x = a ∨ sz ≤ x)) 1 100 (fun x : Nat => x = a ∨ sz ≤ x) := by
  refine ec_met (by decide) (Nat.le_of_ble_eq_true rfl) ?_
  intro p e s m below meth c hC hr hlocks hname hOk hpre ls hl
  have hK := hOk.1
  obtain ⟨hsz, ha⟩ := hpre
  have hS : va_S (fun x : Nat => x = a ∨ sz ≤ x) s.heap s.heap [] := va_S.rf
  have hAN : ∀ q, (fun x : Nat => x = a ∨ sz ≤ x) q → ecN0 G ≤ q := fun q h => h.elim (fun h => by rw [h]; exact hN) (fun h => Nat.le_trans hOk.2.1 (by rw [hsz]; exact h))
  have hl : lv_has ls 1 [(0, .ref a)] := hl
  refine lv_aload_n hC.1 hC.2.1 dJx4a65c_grow_d5877_0 rfl (lv_at hl 0 rfl) ?_
  refine lv_aload_n hC.1 hC.2.1 dJx4a65c_grow_d5877_1 rfl (lv_at hl 0 rfl) ?_
  refine ec_get hC hK ha fJx4a65c_48 rfl dJx4a65c_grow_d5877_2 ?_
  refine lv_iconst (v := 1) hC.1 hC.2.1 dJx4a65c_grow_d5877_5 (by decide) ?_
  refine lv_iadd hC.1 hC.2.1 dJx4a65c_grow_d5877_6 ?_
  refine ec_topi (y := 1) (by decide) ?_
  refine ec_topi (y := nI 1) (by decide) ?_
  refine ec_goEq (ec_rV hC (c_growF l G a sz v0 (.int 0) hN) kJx4a65c_69 (hOk.at hS hAN) ⟨hsz, ha⟩ (ec_rc hK ha ⟨_, _, rfl⟩) hl.1 ⟨Nat.le_of_ble_eq_true rfl, Nat.le_of_ble_eq_true rfl⟩ rfl (Nat.le_of_ble_eq_true rfl) dJx4a65c_grow_d5877_7 ⟨Nat.le_of_ble_eq_true rfl, Nat.le_of_ble_eq_true rfl⟩) hS (fun _ h => h) (fun q H locs hp hz hk1 hS => ?_)
  exact W.aret hC.1 hC.2.1 hr (Or.inr ⟨_, rfl⟩) (Or.inr ⟨_, rfl⟩) (fun t9 ht9 _ => ⟨_, rfl, by rw [ht9]; exact ⟨q, rfl, hp⟩, hS.F ht9⟩) hS.2.2 dJx4a65c_grow_d5877_10

set_option maxHeartbeats 4000000 in
set_option maxRecDepth 100000 in
/-- a full row grows -/
theorem c_grow0H (l : Launch) (G : ecG) (a b n sz : Nat) (v0 : Value) (g : Nat → Option Nat) (hN : ecN0 G ≤ a) (h10 : 10 ≤ n) (h60 : n ≤ 60) : Met l yJx4a65c_grow_d5877 (ecWs yJx4a65c_grow_d5877 cJx4a65c_grow_d5877 1 (Option.some (FieldType.array (FieldType.object "java/lang/Object")))) (ecRm 6 1 100) (ecPc [.ref a] G (fun H => H.size = sz ∧ ecA G a (eO 7 [v0, .ref b, .int (nI n)]) H ∧ ecA G b (eQ G n g) H ∧ (∀ i : Nat, i < n → ∀ y : Nat, g i = some y → ecEl G y H))) (ecEp (fun v H1 => ∃ q : Nat, v = some (.ref q) ∧ (ecA G a (eO 7 [v0, .ref q, .int (nI n)]) H1 ∧ ecA G q (eQ G (n + n / 2) (va_cpy g (fun _ => none) 0 0 n)) H1 ∧ sz ≤ q)) (fun x : Nat => x = a ∨ sz ≤ x)) 1 100 (fun x : Nat => x = a ∨ sz ≤ x) := by
  refine ec_met (by decide) (Nat.le_of_ble_eq_true rfl) ?_
  intro p e s m below meth c hC hr hlocks hname hOk hpre ls hl
  have hK := hOk.1
  obtain ⟨hsz, ha, hb, hel⟩ := hpre
  have hS : va_S (fun x : Nat => x = a ∨ sz ≤ x) s.heap s.heap [] := va_S.rf
  have hAN : ∀ q, (fun x : Nat => x = a ∨ sz ≤ x) q → ecN0 G ≤ q := fun q h => h.elim (fun h => by rw [h]; exact hN) (fun h => Nat.le_trans hOk.2.1 (by rw [hsz]; exact h))
  have hl : lv_has ls 1 [(0, .ref a)] := hl
  refine lv_aload_n hC.1 hC.2.1 dJx4a65c_grow_d5877_0 rfl (lv_at hl 0 rfl) ?_
  refine lv_aload_n hC.1 hC.2.1 dJx4a65c_grow_d5877_1 rfl (lv_at hl 0 rfl) ?_
  refine ec_get hC hK ha fJx4a65c_48 rfl dJx4a65c_grow_d5877_2 ?_
  refine lv_iconst (v := 1) hC.1 hC.2.1 dJx4a65c_grow_d5877_5 (by decide) ?_
  refine lv_iadd hC.1 hC.2.1 dJx4a65c_grow_d5877_6 ?_
  refine ec_topi (y := nI (n + 1)) (nI_1 n) ?_
  refine ec_goEq (ec_rV hC (c_growH l G a b n sz v0 (.int (nI n)) g hN h10 h60) kJx4a65c_69 (hOk.at hS hAN) ⟨hsz, ha, hb, hel⟩ (ec_rc hK ha ⟨_, _, rfl⟩) hl.1 ⟨Nat.le_of_ble_eq_true rfl, Nat.le_of_ble_eq_true rfl⟩ rfl (Nat.le_of_ble_eq_true rfl) dJx4a65c_grow_d5877_7 ⟨Nat.le_of_ble_eq_true rfl, Nat.le_of_ble_eq_true rfl⟩) hS (fun _ h => h) (fun q H locs hp hz hk1 hS => ?_)
  exact W.aret hC.1 hC.2.1 hr (Or.inr ⟨_, rfl⟩) (Or.inr ⟨_, rfl⟩) (fun t9 ht9 _ => ⟨_, rfl, by rw [ht9]; exact ⟨q, rfl, hp⟩, hS.F ht9⟩) hS.2.2 dJx4a65c_grow_d5877_10
end
section
set_option maxHeartbeats 4000000 in
set_option maxRecDepth 100000 in
/-- room is there -/
theorem c_add3 (l : Launch) (G : ecG) (a b e0 n cap : Nat) (v0 : Value) (g : Nat → Option Nat) (hN : ecN0 G ≤ a) (hN2 : ecN0 G ≤ b) (hab : a ≠ b) (hn : n < cap) (hcap : cap ≤ 60) : Met l yJx4a65c_add_72be8 (ecWs yJx4a65c_add_72be8 cJx4a65c_add_72be8 4 none) (ecRm 7 0 0) (ecPc [.ref a, .ref e0, .ref b, .int (nI n)] G (fun H => ecA G a (eO 7 [v0, .ref b, .int (nI n)]) H ∧ ecA G b (eQ G cap g) H ∧ ecEl G e0 H)) (ecEp (fun v H1 => v = none ∧ (ecA G a (eO 7 [v0, .ref b, .int (nI (n + 1))]) H1 ∧ ecA G b (eQ G cap (va_up g n (some e0))) H1)) (fun x : Nat => x = a ∨ x = b)) 0 0 (fun x : Nat => x = a ∨ x = b) := by
  refine ec_met (by decide) (Nat.le_of_ble_eq_true rfl) ?_
  intro p e s m below meth c hC hr hlocks hname hOk hpre ls hl
  have hK := hOk.1
  obtain ⟨ha, hb, he⟩ := hpre
  have hS : va_S (fun x : Nat => x = a ∨ x = b) s.heap s.heap [] := va_S.rf
  have hAN : ∀ q, (fun x : Nat => x = a ∨ x = b) q → ecN0 G ≤ q := fun q h => h.elim (fun h => by rw [h]; exact hN) (fun h => by rw [h]; exact hN2)
  have hl : lv_has ls 4 [(0, .ref a), (1, .ref e0), (2, .ref b), (3, .int (nI n))] := hl
  refine lv_iload_n hC.1 hC.2.1 dJx4a65c_add_72be8_0 rfl (lv_at hl 3 rfl) ?_
  refine lv_aload_n hC.1 hC.2.1 dJx4a65c_add_72be8_1 rfl (lv_at hl 2 rfl) ?_
  refine ec_lenQ hC hK hb dJx4a65c_add_72be8_2 ?_
  refine lv_icmp_ne (tgt := 11) hC.1 hC.2.1 dJx4a65c_add_72be8_3 (by decide) (fun c_3 => ?_) (fun c => absurd c (fun z => Nat.ne_of_lt hn ((nI_eq (by omega) (by omega)).mp z)))
  refine lv_aload_n hC.1 hC.2.1 dJx4a65c_add_72be8_11 rfl (lv_at hl 2 rfl) ?_
  refine lv_iload_n hC.1 hC.2.1 dJx4a65c_add_72be8_12 rfl (lv_at hl 3 rfl) ?_
  refine lv_aload_n hC.1 hC.2.1 dJx4a65c_add_72be8_13 rfl (lv_at hl 1 rfl) ?_
  refine ec_astq hC hK hS hb (Or.inr rfl) (he.any hK) n rfl hn (by omega) dJx4a65c_add_72be8_14 (fun H locs h9 o9 z9 hS => ?_)
  have h10 := h9
  have ha := ha.kept (o9 _ hab)
  refine lv_aload_n hC.1 hC.2.1 dJx4a65c_add_72be8_15 rfl (lv_at hl 0 rfl) ?_
  refine lv_iload_n hC.1 hC.2.1 dJx4a65c_add_72be8_16 rfl (lv_at hl 3 rfl) ?_
  refine lv_iconst (v := 1) hC.1 hC.2.1 dJx4a65c_add_72be8_17 (by decide) ?_
  refine lv_iadd hC.1 hC.2.1 dJx4a65c_add_72be8_18 ?_
  refine ec_topi (y := nI (n + 1)) (nI_1 n) ?_
  refine ec_put hC hK hS ha (Or.inl rfl) fJx4a65c_48 rfl rfl rfl (Nat.le_of_ble_eq_true rfl) dJx4a65c_add_72be8_19 (fun H locs h9 o9 z9 hS => ?_)
  have ha : ecA G a (eO 7 [v0, .ref b, .int (nI (n + 1))]) H := h9
  exact W.vret hC.1 hC.2.1 hr (fun t9 ht9 _ => ⟨_, rfl, by rw [ht9]; exact ⟨rfl, ha, h10.kept (o9 _ (fun z => hab z.symm))⟩, hS.F ht9⟩) hS.2.2 dJx4a65c_add_72be8_22

set_option maxHeartbeats 4000000 in
set_option maxRecDepth 100000 in
/-- the first of all -/
theorem c_add3F (l : Launch) (G : ecG) (a e0 sz : Nat) (v0 : Value) (hN : ecN0 G ≤ a) (hea : e0 ≠ a) : Met l yJx4a65c_add_72be8 (ecWs yJx4a65c_add_72be8 cJx4a65c_add_72be8 4 none) (ecRm 7 1 100) (ecPc [.ref a, .ref e0, .ref (ecTe G), .int 0] G (fun H => H.size = sz ∧ ecA G a (eO 7 [v0, .ref (ecTe G), .int 0]) H ∧ ecEl G e0 H)) (ecEp (fun v H1 => v = none ∧ ∃ b : Nat, sz ≤ b ∧ (ecA G a (eO 7 [v0, .ref b, .int (nI 1)]) H1 ∧ ecA G b (eQ G 10 (va_up (fun _ => none) 0 (some e0))) H1)) (fun x : Nat => x = a ∨ sz ≤ x)) 1 100 (fun x : Nat => x = a ∨ sz ≤ x) := by
  refine ec_met (by decide) (Nat.le_of_ble_eq_true rfl) ?_
  intro p e s m below meth c hC hr hlocks hname hOk hpre ls hl
  have hK := hOk.1
  obtain ⟨hsz, ha, he⟩ := hpre
  have hS : va_S (fun x : Nat => x = a ∨ sz ≤ x) s.heap s.heap [] := va_S.rf
  have hAN : ∀ q, (fun x : Nat => x = a ∨ sz ≤ x) q → ecN0 G ≤ q := fun q h => h.elim (fun h => by rw [h]; exact hN) (fun h => Nat.le_trans hOk.2.1 (by rw [hsz]; exact h))
  have hl : lv_has ls 4 [(0, .ref a), (1, .ref e0), (2, .ref (ecTe G)), (3, .int 0)] := hl
  have hlt := ha.lt
  refine lv_iload_n hC.1 hC.2.1 dJx4a65c_add_72be8_0 rfl (lv_at hl 3 rfl) ?_
  refine lv_aload_n hC.1 hC.2.1 dJx4a65c_add_72be8_1 rfl (lv_at hl 2 rfl) ?_
  refine va_tlen hC.1 hC.2.1 (hOk.2.2.2.2.2.narrow hAN) hS (v := 0) rfl dJx4a65c_add_72be8_2 ?_
  refine lv_icmp_ne (tgt := 11) hC.1 hC.2.1 dJx4a65c_add_72be8_3 (by decide) (fun c => absurd rfl c) (fun _ => ?_)
  refine lv_aload_n hC.1 hC.2.1 dJx4a65c_add_72be8_6 rfl (lv_at hl 0 rfl) ?_
  refine ec_goEq (ec_rV hC (c_grow0F l G a sz v0 hN) kJx4a65c_129 (hOk.at hS hAN) ⟨hsz, ha⟩ (ec_rc hK ha ⟨_, _, rfl⟩) hl.1 ⟨Nat.le_of_ble_eq_true rfl, Nat.le_of_ble_eq_true rfl⟩ rfl (Nat.le_of_ble_eq_true rfl) dJx4a65c_add_72be8_7 ⟨Nat.le_of_ble_eq_true rfl, Nat.le_of_ble_eq_true rfl⟩) hS (fun _ h => h) (fun b H locs hp hz hk1 hS => ?_)
  obtain ⟨ha, hb, hbs⟩ := hp
  have he := he.kept (hk1 _ he.lt (by show ¬ (e0 = a ∨ sz ≤ e0); have := he.lt; omega))
  have hab : a ≠ b := fun z => Nat.lt_irrefl sz (Nat.lt_of_le_of_lt hbs (by rw [← z, ← hsz]; exact hlt))
  refine lv_astore_n (lv' := [(2, .ref b), (0, .ref a), (1, .ref e0), (3, .int 0)]) hC.1 hC.2.1 dJx4a65c_add_72be8_10 rfl hl (by decide) rfl (fun ls hl => ?_)
  refine lv_aload_n hC.1 hC.2.1 dJx4a65c_add_72be8_11 rfl (lv_at hl 0 rfl) ?_
  refine lv_iload_n hC.1 hC.2.1 dJx4a65c_add_72be8_12 rfl (lv_at hl 3 rfl) ?_
  refine lv_aload_n hC.1 hC.2.1 dJx4a65c_add_72be8_13 rfl (lv_at hl 2 rfl) ?_
  refine ec_astq hC hK hS hb (Or.inr hbs) (he.any hK) 0 rfl (by omega) (by omega) dJx4a65c_add_72be8_14 (fun H locs h9 o9 z9 hS => ?_)
  have h10 := h9
  have ha := ha.kept (o9 _ hab)
  refine lv_aload_n hC.1 hC.2.1 dJx4a65c_add_72be8_15 rfl (lv_at hl 1 rfl) ?_
  refine lv_iload_n hC.1 hC.2.1 dJx4a65c_add_72be8_16 rfl (lv_at hl 3 rfl) ?_
  refine lv_iconst (v := 1) hC.1 hC.2.1 dJx4a65c_add_72be8_17 (by decide) ?_
  refine lv_iadd hC.1 hC.2.1 dJx4a65c_add_72be8_18 ?_
  refine ec_topi (y := 1) (by decide) ?_
  refine ec_topi (y := nI 1) (by decide) ?_
  refine ec_put hC hK hS ha (Or.inl rfl) fJx4a65c_48 rfl rfl rfl (Nat.le_of_ble_eq_true rfl) dJx4a65c_add_72be8_19 (fun H locs h9 o9 z9 hS => ?_)
  have ha : ecA G a (eO 7 [v0, .ref b, .int (nI 1)]) H := h9
  exact W.vret hC.1 hC.2.1 hr (fun t9 ht9 _ => ⟨_, rfl, by rw [ht9]; exact ⟨rfl, b, hbs, ha, h10.kept (o9 _ (fun z => hab z.symm))⟩, hS.F ht9⟩) hS.2.2 dJx4a65c_add_72be8_22

set_option maxHeartbeats 4000000 in
set_option maxRecDepth 100000 in
/-- the row is full -/
theorem c_add3H (l : Launch) (G : ecG) (a b e0 n sz : Nat) (v0 : Value) (g : Nat → Option Nat) (hN : ecN0 G ≤ a) (hea : e0 ≠ a) (h10 : 10 ≤ n) (h60 : n < 40) : Met l yJx4a65c_add_72be8 (ecWs yJx4a65c_add_72be8 cJx4a65c_add_72be8 4 none) (ecRm 7 1 100) (ecPc [.ref a, .ref e0, .ref b, .int (nI n)] G (fun H => H.size = sz ∧ ecA G a (eO 7 [v0, .ref b, .int (nI n)]) H ∧ ecA G b (eQ G n g) H ∧ (∀ i : Nat, i < n → ∀ y : Nat, g i = some y → ecEl G y H) ∧ ecEl G e0 H)) (ecEp (fun v H1 => v = none ∧ ∃ b2 : Nat, sz ≤ b2 ∧ (ecA G a (eO 7 [v0, .ref b2, .int (nI (n + 1))]) H1 ∧ ecA G b2 (eQ G (n + n / 2) (va_up (va_cpy g (fun _ => none) 0 0 n) n (some e0))) H1)) (fun x : Nat => x = a ∨ sz ≤ x)) 1 100 (fun x : Nat => x = a ∨ sz ≤ x) := by
  refine ec_met (by decide) (Nat.le_of_ble_eq_true rfl) ?_
  intro p e s m below meth c hC hr hlocks hname hOk hpre ls hl
  have hK := hOk.1
  obtain ⟨hsz, ha, hb, hel, he⟩ := hpre
  have hS : va_S (fun x : Nat => x = a ∨ sz ≤ x) s.heap s.heap [] := va_S.rf
  have hAN : ∀ q, (fun x : Nat => x = a ∨ sz ≤ x) q → ecN0 G ≤ q := fun q h => h.elim (fun h => by rw [h]; exact hN) (fun h => Nat.le_trans hOk.2.1 (by rw [hsz]; exact h))
  have hl : lv_has ls 4 [(0, .ref a), (1, .ref e0), (2, .ref b), (3, .int (nI n))] := hl
  have hlt := ha.lt
  refine lv_iload_n hC.1 hC.2.1 dJx4a65c_add_72be8_0 rfl (lv_at hl 3 rfl) ?_
  refine lv_aload_n hC.1 hC.2.1 dJx4a65c_add_72be8_1 rfl (lv_at hl 2 rfl) ?_
  refine ec_lenQ hC hK hb dJx4a65c_add_72be8_2 ?_
  refine lv_icmp_ne (tgt := 11) hC.1 hC.2.1 dJx4a65c_add_72be8_3 (by decide) (fun c => absurd rfl c) (fun c_3 => ?_)
  refine lv_aload_n hC.1 hC.2.1 dJx4a65c_add_72be8_6 rfl (lv_at hl 0 rfl) ?_
  refine ec_goEq (ec_rV hC (c_grow0H l G a b n sz v0 g hN h10 (by omega)) kJx4a65c_129 (hOk.at hS hAN) ⟨hsz, ha, hb, hel⟩ (ec_rc hK ha ⟨_, _, rfl⟩) hl.1 ⟨Nat.le_of_ble_eq_true rfl, Nat.le_of_ble_eq_true rfl⟩ rfl (Nat.le_of_ble_eq_true rfl) dJx4a65c_add_72be8_7 ⟨Nat.le_of_ble_eq_true rfl, Nat.le_of_ble_eq_true rfl⟩) hS (fun _ h => h) (fun b2 H locs hp hz hk1 hS => ?_)
  obtain ⟨ha, hb, hbs⟩ := hp
  have he := he.kept (hk1 _ he.lt (by show ¬ (e0 = a ∨ sz ≤ e0); have := he.lt; omega))
  have hab : a ≠ b2 := fun z => Nat.lt_irrefl sz (Nat.lt_of_le_of_lt hbs (by rw [← z, ← hsz]; exact hlt))
  refine lv_astore_n (lv' := [(2, .ref b2), (0, .ref a), (1, .ref e0), (3, .int (nI n))]) hC.1 hC.2.1 dJx4a65c_add_72be8_10 rfl hl (by decide) rfl (fun ls hl => ?_)
  refine lv_aload_n hC.1 hC.2.1 dJx4a65c_add_72be8_11 rfl (lv_at hl 0 rfl) ?_
  refine lv_iload_n hC.1 hC.2.1 dJx4a65c_add_72be8_12 rfl (lv_at hl 3 rfl) ?_
  refine lv_aload_n hC.1 hC.2.1 dJx4a65c_add_72be8_13 rfl (lv_at hl 2 rfl) ?_
  refine ec_astq hC hK hS hb (Or.inr hbs) (he.any hK) n rfl (by omega) (by omega) dJx4a65c_add_72be8_14 (fun H locs h9 o9 z9 hS => ?_)
  have h11 := h9
  have ha := ha.kept (o9 _ hab)
  refine lv_aload_n hC.1 hC.2.1 dJx4a65c_add_72be8_15 rfl (lv_at hl 1 rfl) ?_
  refine lv_iload_n hC.1 hC.2.1 dJx4a65c_add_72be8_16 rfl (lv_at hl 3 rfl) ?_
  refine lv_iconst (v := 1) hC.1 hC.2.1 dJx4a65c_add_72be8_17 (by decide) ?_
  refine lv_iadd hC.1 hC.2.1 dJx4a65c_add_72be8_18 ?_
  refine ec_topi (y := nI (n + 1)) (nI_1 n) ?_
  refine ec_put hC hK hS ha (Or.inl rfl) fJx4a65c_48 rfl rfl rfl (Nat.le_of_ble_eq_true rfl) dJx4a65c_add_72be8_19 (fun H locs h9 o9 z9 hS => ?_)
  have ha : ecA G a (eO 7 [v0, .ref b2, .int (nI (n + 1))]) H := h9
  exact W.vret hC.1 hC.2.1 hr (fun t9 ht9 _ => ⟨_, rfl, by rw [ht9]; exact ⟨rfl, b2, hbs, ha, h11.kept (o9 _ (fun z => hab z.symm))⟩, hS.F ht9⟩) hS.2.2 dJx4a65c_add_72be8_22

/-- a list of n things f 0 .. f (n - 1): its object lo, its row da (of no meaning while it is empty) -/
def ecLx (G : ecG) (lo da n : Nat) (f : Nat → Nat) (H : Heap) : Prop := ∃ mc : Int32, (n = 0 ∧ ecA G lo (eO 7 [.int mc, .ref (ecTe G), .int 0]) H) ∨
  (∃ (cap : Nat) (g : Nat → Option Nat), 10 ≤ cap ∧ cap ≤ 60 ∧ n ≤ cap ∧ ecA G lo (eO 7 [.int mc, .ref da, .int (nI n)]) H ∧ ecA G da (eQ G cap g) H ∧ ∀ i, i < n → g i = some (f i))
theorem ecLx.obj {G : ecG} {lo da n : Nat} {f : Nat → Nat} {H : Heap} (h : ecLx G lo da n f H) : ∃ v0 v1, ecA G lo (eO 7 [v0, v1, .int (nI n)]) H := by
  obtain ⟨mc, ⟨rfl, h⟩ | ⟨cap, g, -, -, -, h, -⟩⟩ := h
  · exact ⟨_, _, h⟩
  · exact ⟨_, _, h⟩
theorem ecLx.kept {G : ecG} {lo da n : Nat} {f : Nat → Nat} {H H1 : Heap} (h : ecLx G lo da n f H) (k1 : H1[lo]? = H[lo]?) (k2 : da < H.size → H1[da]? = H[da]?) : ecLx G lo da n f H1 := by
  obtain ⟨mc, ⟨hn, h⟩ | ⟨cap, g, a1, a2, a3, h, h2, h3⟩⟩ := h
  · exact ⟨mc, Or.inl ⟨hn, h.kept k1⟩⟩
  · exact ⟨mc, Or.inr ⟨cap, g, a1, a2, a3, h.kept k1, h2.kept (k2 h2.lt), h3⟩⟩
theorem ecLx.el {G : ecG} {lo da n i : Nat} {f : Nat → Nat} {H : Heap} (h : ecLx G lo da n f H) (hi : i < n) : ∃ (v0 : Value) (cap : Nat) (g : Nat → Option Nat), cap ≤ 60 ∧ n ≤ cap ∧ ecA G lo (eO 7 [v0, .ref da, .int (nI n)]) H ∧ ecA G da (eQ G cap g) H ∧ g i = some (f i) := by
  obtain ⟨mc, ⟨rfl, h⟩ | ⟨cap, g, a1, a2, a3, h, h2, h3⟩⟩ := h
  · omega
  · exact ⟨_, cap, g, a2, a3, h, h2, h3 i hi⟩
theorem ecLx.three {G : ecG} {lo da n : Nat} {f : Nat → Nat} {H : Heap} (h : ecLx G lo da n f H) : ∃ mc : Int32, (n = 0 ∧ ecA G lo (eO 7 [.int mc, .ref (ecTe G), .int 0]) H) ∨
    (∃ (cap : Nat) (g : Nat → Option Nat), 10 ≤ cap ∧ cap ≤ 60 ∧ n < cap ∧ ecA G lo (eO 7 [.int mc, .ref da, .int (nI n)]) H ∧ ecA G da (eQ G cap g) H ∧ ∀ i, i < n → g i = some (f i)) ∨
    (∃ (g : Nat → Option Nat), 10 ≤ n ∧ ecA G lo (eO 7 [.int mc, .ref da, .int (nI n)]) H ∧ ecA G da (eQ G n g) H ∧ ∀ i, i < n → g i = some (f i)) := by
  obtain ⟨mc, h | ⟨cap, g, a1, a2, a3, h, h2, h3⟩⟩ := h
  · exact ⟨mc, Or.inl h⟩
  · rcases Nat.lt_or_ge n cap with hl | hl
    · exact ⟨mc, Or.inr (Or.inl ⟨cap, g, a1, a2, hl, h, h2, h3⟩)⟩
    · have e : cap = n := by omega
      subst e
      exact ⟨mc, Or.inr (Or.inr ⟨g, a1, h, h2, h3⟩)⟩
theorem ecLx.to {G : ecG} {lo da n : Nat} {f f2 : Nat → Nat} {H : Heap} (h : ecLx G lo da n f H) (hf : ∀ i, i < n → f i = f2 i) : ecLx G lo da n f2 H := by
  obtain ⟨mc, h | ⟨cap, g, a1, a2, a3, h, h2, h3⟩⟩ := h
  · exact ⟨mc, Or.inl h⟩
  · exact ⟨mc, Or.inr ⟨cap, g, a1, a2, a3, h, h2, fun i hi => (h3 i hi).trans (by rw [hf i hi])⟩⟩

set_option maxHeartbeats 4000000 in
set_option maxRecDepth 100000 in
/-- a list grows by one -/
theorem c_add (l : Launch) (G : ecG) (lo da e0 n sz : Nat) (f : Nat → Nat) (hN : ecN0 G ≤ lo) (hN2 : ecN0 G ≤ da) (hld : da ≠ lo) (hn : n < 40) (hne1 : e0 ≠ lo) (hne2 : ∀ i, i < n → f i ≠ lo) : Met l yJx4a65c_add_9ea2d (ecWs yJx4a65c_add_9ea2d cJx4a65c_add_9ea2d 2 (Option.some FieldType.boolean)) (ecRm 8 1 100) (ecPc [.ref lo, .ref e0] G (fun H => H.size = sz ∧ ecLx G lo da n f H ∧ (∀ i, i < n → ecEl G (f i) H) ∧ ecEl G e0 H)) (ecEp (fun v H1 => v = some (.int 1) ∧ ∃ da2 : Nat, (da2 = da ∨ sz ≤ da2) ∧ ecLx G lo da2 (n + 1) (fun i => if i = n then e0 else f i) H1) (fun x : Nat => x = lo ∨ x = da ∨ sz ≤ x)) 1 100 (fun x : Nat => x = lo ∨ x = da ∨ sz ≤ x) := by
  refine ec_met (by decide) (Nat.le_of_ble_eq_true rfl) ?_
  intro p e s m below meth c hC hr hlocks hname hOk hpre ls hl
  have hK := hOk.1
  obtain ⟨hsz, hL, hel, he⟩ := hpre
  have hS : va_S (fun x : Nat => x = lo ∨ x = da ∨ sz ≤ x) s.heap s.heap [] := va_S.rf
  have hAN : ∀ q, (fun x : Nat => x = lo ∨ x = da ∨ sz ≤ x) q → ecN0 G ≤ q := fun q h => h.elim (fun h => by rw [h]; exact hN) (fun h => h.elim (fun h => by rw [h]; exact hN2) (fun h => Nat.le_trans hOk.2.1 (by rw [hsz]; exact h)))
  have hl : lv_has ls 2 [(0, .ref lo), (1, .ref e0)] := hl
  obtain ⟨mc, ⟨hn0, ha⟩ | ⟨cap, g, hc10, hc60, hlt, ha, hb, hg⟩ | ⟨g, hc10, ha, hb, hg⟩⟩ := hL.three
  · subst hn0
    refine lv_aload_n hC.1 hC.2.1 dJx4a65c_add_9ea2d_0 rfl (lv_at hl 0 rfl) ?_
    refine lv_dup hC.1 hC.2.1 dJx4a65c_add_9ea2d_1 rfl ?_
    refine ec_get hC hK ha fJx4a65c_63 rfl dJx4a65c_add_9ea2d_2 ?_
    refine lv_iconst (v := 1) hC.1 hC.2.1 dJx4a65c_add_9ea2d_5 (by decide) ?_
    refine lv_iadd hC.1 hC.2.1 dJx4a65c_add_9ea2d_6 ?_
    refine ec_put hC hK hS ha (Or.inl rfl) fJx4a65c_63 rfl rfl rfl (Nat.le_of_ble_eq_true rfl) dJx4a65c_add_9ea2d_7 (fun H locs h9 o9 z9 hS => ?_)
    have ha : ecA G lo (eO 7 [.int (mc + 1), .ref (ecTe G), .int 0]) H := h9
    have he := he.kept (o9 _ hne1)
    have hsz := z9.trans hsz
    refine lv_aload_n hC.1 hC.2.1 dJx4a65c_add_9ea2d_10 rfl (lv_at hl 0 rfl) ?_
    refine lv_aload_n hC.1 hC.2.1 dJx4a65c_add_9ea2d_11 rfl (lv_at hl 1 rfl) ?_
    refine lv_aload_n hC.1 hC.2.1 dJx4a65c_add_9ea2d_12 rfl (lv_at hl 0 rfl) ?_
    refine ec_get hC hK ha fJx4a65c_9 rfl dJx4a65c_add_9ea2d_13 ?_
    refine lv_aload_n hC.1 hC.2.1 dJx4a65c_add_9ea2d_16 rfl (lv_at hl 0 rfl) ?_
    refine ec_get hC hK ha fJx4a65c_48 rfl dJx4a65c_add_9ea2d_17 ?_
    refine ec_goE0 (ec_rV hC (c_add3F l G lo e0 sz (.int (mc + 1)) hN hne1) kJx4a65c_131 (hOk.at hS hAN) ⟨hsz, ha, he⟩ (ec_rc hK ha ⟨_, _, rfl⟩) hl.1 ⟨Nat.le_of_ble_eq_true rfl, Nat.le_of_ble_eq_true rfl⟩ rfl (Nat.le_of_ble_eq_true rfl) dJx4a65c_add_9ea2d_20 ⟨Nat.le_of_ble_eq_true rfl, Nat.le_of_ble_eq_true rfl⟩) hS (fun _ h => h.elim Or.inl (fun h => Or.inr (Or.inr h))) (fun H locs hp hz hk1 hS => ?_)
    refine lv_iconst (v := 1) hC.1 hC.2.1 dJx4a65c_add_9ea2d_23 (by decide) ?_
    obtain ⟨b, hbs, h1, h2⟩ := hp
    exact W.zret hC.1 hC.2.1 hr rfl (fun t9 ht9 _ => ⟨_, rfl, by rw [ht9]; exact ⟨rfl, b, Or.inr hbs, _, Or.inr ⟨10, _, by omega, by omega, by omega, h1, h2, fun i hi => by rw [show i = 0 by omega]; simp [va_up]⟩⟩, hS.F ht9⟩) hS.2.2 dJx4a65c_add_9ea2d_24
  · refine lv_aload_n hC.1 hC.2.1 dJx4a65c_add_9ea2d_0 rfl (lv_at hl 0 rfl) ?_
    refine lv_dup hC.1 hC.2.1 dJx4a65c_add_9ea2d_1 rfl ?_
    refine ec_get hC hK ha fJx4a65c_63 rfl dJx4a65c_add_9ea2d_2 ?_
    refine lv_iconst (v := 1) hC.1 hC.2.1 dJx4a65c_add_9ea2d_5 (by decide) ?_
    refine lv_iadd hC.1 hC.2.1 dJx4a65c_add_9ea2d_6 ?_
    refine ec_put hC hK hS ha (Or.inl rfl) fJx4a65c_63 rfl rfl rfl (Nat.le_of_ble_eq_true rfl) dJx4a65c_add_9ea2d_7 (fun H locs h9 o9 z9 hS => ?_)
    have ha : ecA G lo (eO 7 [.int (mc + 1), .ref da, .int (nI n)]) H := h9
    have he := he.kept (o9 _ hne1)
    have hsz := z9.trans hsz
    have hb := hb.kept (o9 _ hld)
    have hel : ∀ i, i < n → ecEl G (f i) H := fun i hi => (hel i hi).kept (o9 _ (hne2 i hi))
    refine lv_aload_n hC.1 hC.2.1 dJx4a65c_add_9ea2d_10 rfl (lv_at hl 0 rfl) ?_
    refine lv_aload_n hC.1 hC.2.1 dJx4a65c_add_9ea2d_11 rfl (lv_at hl 1 rfl) ?_
    refine lv_aload_n hC.1 hC.2.1 dJx4a65c_add_9ea2d_12 rfl (lv_at hl 0 rfl) ?_
    refine ec_get hC hK ha fJx4a65c_9 rfl dJx4a65c_add_9ea2d_13 ?_
    refine lv_aload_n hC.1 hC.2.1 dJx4a65c_add_9ea2d_16 rfl (lv_at hl 0 rfl) ?_
    refine ec_get hC hK ha fJx4a65c_48 rfl dJx4a65c_add_9ea2d_17 ?_
    refine ec_goE0 (ec_rV hC (c_add3 l G lo da e0 n cap (.int (mc + 1)) g hN hN2 (fun z => hld z.symm) hlt hc60) kJx4a65c_131 (hOk.at hS hAN) ⟨ha, hb, he⟩ (ec_rc hK ha ⟨_, _, rfl⟩) hl.1 ⟨Nat.le_of_ble_eq_true rfl, Nat.le_of_ble_eq_true rfl⟩ rfl (Nat.le_of_ble_eq_true rfl) dJx4a65c_add_9ea2d_20 ⟨Nat.le_of_ble_eq_true rfl, Nat.le_of_ble_eq_true rfl⟩) hS (fun _ h => h.elim Or.inl (fun h => Or.inr (Or.inl h))) (fun H locs hp hz hk1 hS => ?_)
    refine lv_iconst (v := 1) hC.1 hC.2.1 dJx4a65c_add_9ea2d_23 (by decide) ?_
    obtain ⟨h1, h2⟩ := hp
    refine W.widen (k := 1) (n := 100) (Nat.le_of_ble_eq_true rfl) (Nat.le_of_ble_eq_true rfl) ?_
    exact W.zret hC.1 hC.2.1 hr rfl (fun t9 ht9 _ => ⟨_, rfl, by rw [ht9]; exact ⟨rfl, da, Or.inl rfl, _, Or.inr ⟨cap, _, hc10, hc60, by omega, h1, h2, fun i hi => by by_cases h : i = n <;> simp [va_up, h]; exact hg i (by omega)⟩⟩, hS.F ht9⟩) hS.2.2 dJx4a65c_add_9ea2d_24
  · refine lv_aload_n hC.1 hC.2.1 dJx4a65c_add_9ea2d_0 rfl (lv_at hl 0 rfl) ?_
    refine lv_dup hC.1 hC.2.1 dJx4a65c_add_9ea2d_1 rfl ?_
    refine ec_get hC hK ha fJx4a65c_63 rfl dJx4a65c_add_9ea2d_2 ?_
    refine lv_iconst (v := 1) hC.1 hC.2.1 dJx4a65c_add_9ea2d_5 (by decide) ?_
    refine lv_iadd hC.1 hC.2.1 dJx4a65c_add_9ea2d_6 ?_
    refine ec_put hC hK hS ha (Or.inl rfl) fJx4a65c_63 rfl rfl rfl (Nat.le_of_ble_eq_true rfl) dJx4a65c_add_9ea2d_7 (fun H locs h9 o9 z9 hS => ?_)
    have ha : ecA G lo (eO 7 [.int (mc + 1), .ref da, .int (nI n)]) H := h9
    have he := he.kept (o9 _ hne1)
    have hsz := z9.trans hsz
    have hb := hb.kept (o9 _ hld)
    have hel : ∀ i, i < n → ecEl G (f i) H := fun i hi => (hel i hi).kept (o9 _ (hne2 i hi))
    refine lv_aload_n hC.1 hC.2.1 dJx4a65c_add_9ea2d_10 rfl (lv_at hl 0 rfl) ?_
    refine lv_aload_n hC.1 hC.2.1 dJx4a65c_add_9ea2d_11 rfl (lv_at hl 1 rfl) ?_
    refine lv_aload_n hC.1 hC.2.1 dJx4a65c_add_9ea2d_12 rfl (lv_at hl 0 rfl) ?_
    refine ec_get hC hK ha fJx4a65c_9 rfl dJx4a65c_add_9ea2d_13 ?_
    refine lv_aload_n hC.1 hC.2.1 dJx4a65c_add_9ea2d_16 rfl (lv_at hl 0 rfl) ?_
    refine ec_get hC hK ha fJx4a65c_48 rfl dJx4a65c_add_9ea2d_17 ?_
    refine ec_goE0 (ec_rV hC (c_add3H l G lo da e0 n sz (.int (mc + 1)) g hN hne1 hc10 hn) kJx4a65c_131 (hOk.at hS hAN) ⟨hsz, ha, hb, fun i hi y hy => by rw [hg i hi] at hy; cases hy; exact hel i hi, he⟩ (ec_rc hK ha ⟨_, _, rfl⟩) hl.1 ⟨Nat.le_of_ble_eq_true rfl, Nat.le_of_ble_eq_true rfl⟩ rfl (Nat.le_of_ble_eq_true rfl) dJx4a65c_add_9ea2d_20 ⟨Nat.le_of_ble_eq_true rfl, Nat.le_of_ble_eq_true rfl⟩) hS (fun _ h => h.elim Or.inl (fun h => Or.inr (Or.inr h))) (fun H locs hp hz hk1 hS => ?_)
    refine lv_iconst (v := 1) hC.1 hC.2.1 dJx4a65c_add_9ea2d_23 (by decide) ?_
    obtain ⟨b, hbs, h1, h2⟩ := hp
    exact W.zret hC.1 hC.2.1 hr rfl (fun t9 ht9 _ => ⟨_, rfl, by rw [ht9]; exact ⟨rfl, b, Or.inr hbs, _, Or.inr ⟨_, _, by omega, by omega, by omega, h1, h2, fun i hi => by by_cases h : i = n <;> simp [va_up, h]; rw [pk_cpy_in (Nat.zero_le _) (by omega), Nat.zero_add, Nat.sub_zero]; exact hg i (by omega)⟩⟩, hS.F ht9⟩) hS.2.2 dJx4a65c_add_9ea2d_24
end
section
theorem arr_cg {c : ClassId} {N : Nat} {f g : Nat → Value} (h : ∀ j, j < N → f j = g j) : arrV c N f = arrV c N g := by
  unfold arrV
  congr 2
  funext j
  exact h j.val j.isLt
theorem ecI_to {G : ecG} {a n : Nat} {f f2 : Nat → Int32} {H : Heap} (h : ecA G a (eI G n f) H) (hf : ∀ j, j < n → f j = f2 j) : ecA G a (eI G n f2) H := by
  have h1 : H[a]? = some (vp_cell (G.2.1 0) (n, .inl f)) := h
  show H[a]? = some (vp_cell (G.2.1 0) (n, .inl f2))
  rw [h1, vp_cell_i, vp_cell_i, arr_cg (fun j hj => by rw [hf j hj])]
theorem ecJ_to {G : ecG} {a n : Nat} {f f2 : Nat → Int64} {H : Heap} (h : ecA G a (eJ G n f) H) (hf : ∀ j, j < n → f j = f2 j) : ecA G a (eJ G n f2) H := by
  have h1 : H[a]? = some (vp_cell (G.2.1 1) (n, .inr (.inl f))) := h
  show H[a]? = some (vp_cell (G.2.1 1) (n, .inr (.inl f2)))
  rw [h1, vp_cell_l, vp_cell_l, arr_cg (fun j hj => by rw [hf j hj])]
theorem ecZ_to {G : ecG} {a n : Nat} {f f2 : Nat → Int32} {H : Heap} (h : ecA G a (eZ G n f) H) (hf : ∀ j, j < n → f j = f2 j) : ecA G a (eZ G n f2) H := by
  have h1 : H[a]? = some (vp_cell (G.2.1 2) (n, .inl f)) := h
  show H[a]? = some (vp_cell (G.2.1 2) (n, .inl f2))
  rw [h1, vp_cell_i, vp_cell_i, arr_cg (fun j hj => by rw [hf j hj])]
theorem ec_lt6 {P : Nat → Prop} (h0 : P 0) (h1 : P 1) (h2 : P 2) (h3 : P 3) (h4 : P 4) (h5 : P 5) : ∀ j, j < 6 → P j := lt_s (lt_s (lt_s (lt_s (lt_s (lt_s lt_0 h0) h1) h2) h3) h4) h5
theorem ec_cm0 (x y : Int64) : lg_cmp x y = 0 ↔ x = y := by
  unfold lg_cmp
  constructor
  · intro h
    split at h
    · exact absurd h (by decide)
    · split at h
      · assumption
      · exact absurd h (by decide)
  · intro h
    subst h
    simp

set_option maxHeartbeats 4000000 in
set_option maxRecDepth 100000 in
/-- what a filter gives -/
theorem c_X2_given (l : Launch) (G : ecG) (a ta pa : Nat) (v0 v3 : Value) (t : Nat → Int64) (q : Nat → Int32) : Met l yX2_given (ecWs yX2_given cX2_given 4 (Option.some FieldType.long)) (ecRm 1 0 0) (ecPc [.ref a] G (fun H => ecA G a (eO 2 [v0, .ref ta, .ref pa, v3]) H ∧ ecA G ta (eJ G 6 t) H ∧ ecA G pa (eI G 6 q) H)) (ecRp (fun v => v = some (.long (gvS t q 6)))) 0 0 (fun _ => False) := by
  refine ec_met (by decide) (Nat.le_of_ble_eq_true rfl) ?_
  intro p e s m below meth c hC hr hlocks hname hOk hpre ls hl
  have hK := hOk.1
  obtain ⟨ha, ht, hq⟩ := hpre
  have hS : va_S (fun _ => False) s.heap s.heap [] := va_S.rf
  have hAN : ∀ q, (fun _ : Nat => False) q → ecN0 G ≤ q := fun _ h => h.elim
  have hl : lv_has ls 4 [(0, .ref a)] := hl
  refine lv_lconst (v := 0) hC.1 hC.2.1 dX2_given_0 (by decide) ?_
  refine lv_lstore_n (lv' := [(1, .long 0), (0, .ref a)]) hC.1 hC.2.1 dX2_given_1 rfl hl (by decide) rfl (fun ls hl => ?_)
  refine lv_iconst (v := 0) hC.1 hC.2.1 dX2_given_2 (by decide) ?_
  refine lv_istore_n (lv' := [(3, .int 0), (1, .long 0), (0, .ref a)]) hC.1 hC.2.1 dX2_given_3 rfl hl (by decide) rfl (fun ls hl => ?_)
  refine lv_iload_n hC.1 hC.2.1 dX2_given_4 rfl (lv_at hl 0 rfl) ?_
  refine lv_bipush (v := 6) hC.1 hC.2.1 dX2_given_5 (by decide) ?_
  refine lv_icmp_ge (tgt := 33) hC.1 hC.2.1 dX2_given_7 (by decide) (fun c => absurd c (by decide)) (fun _ => ?_)
  refine lv_lload_n hC.1 hC.2.1 dX2_given_10 rfl (lv_at hl 1 rfl) ?_
  refine lv_aload_n hC.1 hC.2.1 dX2_given_11 rfl (lv_at hl 2 rfl) ?_
  refine ec_get hC hK ha fX2_25 rfl dX2_given_12 ?_
  refine lv_iload_n hC.1 hC.2.1 dX2_given_15 rfl (lv_at hl 0 rfl) ?_
  refine ec_lald hC hK ht 0 rfl (by omega) (by omega) dX2_given_16 ?_
  refine lv_aload_n hC.1 hC.2.1 dX2_given_17 rfl (lv_at hl 2 rfl) ?_
  refine ec_get hC hK ha fX2_29 rfl dX2_given_18 ?_
  refine lv_iload_n hC.1 hC.2.1 dX2_given_21 rfl (lv_at hl 0 rfl) ?_
  refine ec_iald hC hK hq 0 rfl (by omega) (by omega) dX2_given_22 ?_
  refine lv_i2l hC.1 hC.2.1 dX2_given_23 rfl ?_
  refine lv_lmul hC.1 hC.2.1 dX2_given_24 ?_
  refine lv_ladd hC.1 hC.2.1 dX2_given_25 ?_
  refine ec_topl (y := gvS t q 1) rfl ?_
  refine lv_lstore_n (lv' := [(1, .long (gvS t q 1)), (3, .int 0), (0, .ref a)]) hC.1 hC.2.1 dX2_given_26 rfl hl (by decide) rfl (fun ls hl => ?_)
  refine lv_iinc (v := 1) (lv' := [(3, .int 1), (1, .long (gvS t q 1)), (0, .ref a)]) hC.1 hC.2.1 dX2_given_27 hl (k := 1) rfl (by decide) (by decide) rfl (fun ls hl => ?_)
  refine lv_goto (tgt := 4) hC.1 hC.2.1 dX2_given_30 (by decide) ?_
  refine lv_iload_n hC.1 hC.2.1 dX2_given_4 rfl (lv_at hl 0 rfl) ?_
  refine lv_bipush (v := 6) hC.1 hC.2.1 dX2_given_5 (by decide) ?_
  refine lv_icmp_ge (tgt := 33) hC.1 hC.2.1 dX2_given_7 (by decide) (fun c => absurd c (by decide)) (fun _ => ?_)
  refine lv_lload_n hC.1 hC.2.1 dX2_given_10 rfl (lv_at hl 1 rfl) ?_
  refine lv_aload_n hC.1 hC.2.1 dX2_given_11 rfl (lv_at hl 2 rfl) ?_
  refine ec_get hC hK ha fX2_25 rfl dX2_given_12 ?_
  refine lv_iload_n hC.1 hC.2.1 dX2_given_15 rfl (lv_at hl 0 rfl) ?_
  refine ec_lald hC hK ht 1 rfl (by omega) (by omega) dX2_given_16 ?_
  refine lv_aload_n hC.1 hC.2.1 dX2_given_17 rfl (lv_at hl 2 rfl) ?_
  refine ec_get hC hK ha fX2_29 rfl dX2_given_18 ?_
  refine lv_iload_n hC.1 hC.2.1 dX2_given_21 rfl (lv_at hl 0 rfl) ?_
  refine ec_iald hC hK hq 1 rfl (by omega) (by omega) dX2_given_22 ?_
  refine lv_i2l hC.1 hC.2.1 dX2_given_23 rfl ?_
  refine lv_lmul hC.1 hC.2.1 dX2_given_24 ?_
  refine lv_ladd hC.1 hC.2.1 dX2_given_25 ?_
  refine ec_topl (y := gvS t q 2) rfl ?_
  refine lv_lstore_n (lv' := [(1, .long (gvS t q 2)), (3, .int 1), (0, .ref a)]) hC.1 hC.2.1 dX2_given_26 rfl hl (by decide) rfl (fun ls hl => ?_)
  refine lv_iinc (v := 2) (lv' := [(3, .int 2), (1, .long (gvS t q 2)), (0, .ref a)]) hC.1 hC.2.1 dX2_given_27 hl (k := 1) rfl (by decide) (by decide) rfl (fun ls hl => ?_)
  refine lv_goto (tgt := 4) hC.1 hC.2.1 dX2_given_30 (by decide) ?_
  refine lv_iload_n hC.1 hC.2.1 dX2_given_4 rfl (lv_at hl 0 rfl) ?_
  refine lv_bipush (v := 6) hC.1 hC.2.1 dX2_given_5 (by decide) ?_
  refine lv_icmp_ge (tgt := 33) hC.1 hC.2.1 dX2_given_7 (by decide) (fun c => absurd c (by decide)) (fun _ => ?_)
  refine lv_lload_n hC.1 hC.2.1 dX2_given_10 rfl (lv_at hl 1 rfl) ?_
  refine lv_aload_n hC.1 hC.2.1 dX2_given_11 rfl (lv_at hl 2 rfl) ?_
  refine ec_get hC hK ha fX2_25 rfl dX2_given_12 ?_
  refine lv_iload_n hC.1 hC.2.1 dX2_given_15 rfl (lv_at hl 0 rfl) ?_
  refine ec_lald hC hK ht 2 rfl (by omega) (by omega) dX2_given_16 ?_
  refine lv_aload_n hC.1 hC.2.1 dX2_given_17 rfl (lv_at hl 2 rfl) ?_
  refine ec_get hC hK ha fX2_29 rfl dX2_given_18 ?_
  refine lv_iload_n hC.1 hC.2.1 dX2_given_21 rfl (lv_at hl 0 rfl) ?_
  refine ec_iald hC hK hq 2 rfl (by omega) (by omega) dX2_given_22 ?_
  refine lv_i2l hC.1 hC.2.1 dX2_given_23 rfl ?_
  refine lv_lmul hC.1 hC.2.1 dX2_given_24 ?_
  refine lv_ladd hC.1 hC.2.1 dX2_given_25 ?_
  refine ec_topl (y := gvS t q 3) rfl ?_
  refine lv_lstore_n (lv' := [(1, .long (gvS t q 3)), (3, .int 2), (0, .ref a)]) hC.1 hC.2.1 dX2_given_26 rfl hl (by decide) rfl (fun ls hl => ?_)
  refine lv_iinc (v := 3) (lv' := [(3, .int 3), (1, .long (gvS t q 3)), (0, .ref a)]) hC.1 hC.2.1 dX2_given_27 hl (k := 1) rfl (by decide) (by decide) rfl (fun ls hl => ?_)
  refine lv_goto (tgt := 4) hC.1 hC.2.1 dX2_given_30 (by decide) ?_
  refine lv_iload_n hC.1 hC.2.1 dX2_given_4 rfl (lv_at hl 0 rfl) ?_
  refine lv_bipush (v := 6) hC.1 hC.2.1 dX2_given_5 (by decide) ?_
  refine lv_icmp_ge (tgt := 33) hC.1 hC.2.1 dX2_given_7 (by decide) (fun c => absurd c (by decide)) (fun _ => ?_)
  refine lv_lload_n hC.1 hC.2.1 dX2_given_10 rfl (lv_at hl 1 rfl) ?_
  refine lv_aload_n hC.1 hC.2.1 dX2_given_11 rfl (lv_at hl 2 rfl) ?_
  refine ec_get hC hK ha fX2_25 rfl dX2_given_12 ?_
  refine lv_iload_n hC.1 hC.2.1 dX2_given_15 rfl (lv_at hl 0 rfl) ?_
  refine ec_lald hC hK ht 3 rfl (by omega) (by omega) dX2_given_16 ?_
  refine lv_aload_n hC.1 hC.2.1 dX2_given_17 rfl (lv_at hl 2 rfl) ?_
  refine ec_get hC hK ha fX2_29 rfl dX2_given_18 ?_
  refine lv_iload_n hC.1 hC.2.1 dX2_given_21 rfl (lv_at hl 0 rfl) ?_
  refine ec_iald hC hK hq 3 rfl (by omega) (by omega) dX2_given_22 ?_
  refine lv_i2l hC.1 hC.2.1 dX2_given_23 rfl ?_
  refine lv_lmul hC.1 hC.2.1 dX2_given_24 ?_
  refine lv_ladd hC.1 hC.2.1 dX2_given_25 ?_
  refine ec_topl (y := gvS t q 4) rfl ?_
  refine lv_lstore_n (lv' := [(1, .long (gvS t q 4)), (3, .int 3), (0, .ref a)]) hC.1 hC.2.1 dX2_given_26 rfl hl (by decide) rfl (fun ls hl => ?_)
  refine lv_iinc (v := 4) (lv' := [(3, .int 4), (1, .long (gvS t q 4)), (0, .ref a)]) hC.1 hC.2.1 dX2_given_27 hl (k := 1) rfl (by decide) (by decide) rfl (fun ls hl => ?_)
  refine lv_goto (tgt := 4) hC.1 hC.2.1 dX2_given_30 (by decide) ?_
  refine lv_iload_n hC.1 hC.2.1 dX2_given_4 rfl (lv_at hl 0 rfl) ?_
  refine lv_bipush (v := 6) hC.1 hC.2.1 dX2_given_5 (by decide) ?_
  refine lv_icmp_ge (tgt := 33) hC.1 hC.2.1 dX2_given_7 (by decide) (fun c => absurd c (by decide)) (fun _ => ?_)
  refine lv_lload_n hC.1 hC.2.1 dX2_given_10 rfl (lv_at hl 1 rfl) ?_
  refine lv_aload_n hC.1 hC.2.1 dX2_given_11 rfl (lv_at hl 2 rfl) ?_
  refine ec_get hC hK ha fX2_25 rfl dX2_given_12 ?_
  refine lv_iload_n hC.1 hC.2.1 dX2_given_15 rfl (lv_at hl 0 rfl) ?_
  refine ec_lald hC hK ht 4 rfl (by omega) (by omega) dX2_given_16 ?_
  refine lv_aload_n hC.1 hC.2.1 dX2_given_17 rfl (lv_at hl 2 rfl) ?_
  refine ec_get hC hK ha fX2_29 rfl dX2_given_18 ?_
  refine lv_iload_n hC.1 hC.2.1 dX2_given_21 rfl (lv_at hl 0 rfl) ?_
  refine ec_iald hC hK hq 4 rfl (by omega) (by omega) dX2_given_22 ?_
  refine lv_i2l hC.1 hC.2.1 dX2_given_23 rfl ?_
  refine lv_lmul hC.1 hC.2.1 dX2_given_24 ?_
  refine lv_ladd hC.1 hC.2.1 dX2_given_25 ?_
  refine ec_topl (y := gvS t q 5) rfl ?_
  refine lv_lstore_n (lv' := [(1, .long (gvS t q 5)), (3, .int 4), (0, .ref a)]) hC.1 hC.2.1 dX2_given_26 rfl hl (by decide) rfl (fun ls hl => ?_)
  refine lv_iinc (v := 5) (lv' := [(3, .int 5), (1, .long (gvS t q 5)), (0, .ref a)]) hC.1 hC.2.1 dX2_given_27 hl (k := 1) rfl (by decide) (by decide) rfl (fun ls hl => ?_)
  refine lv_goto (tgt := 4) hC.1 hC.2.1 dX2_given_30 (by decide) ?_
  refine lv_iload_n hC.1 hC.2.1 dX2_given_4 rfl (lv_at hl 0 rfl) ?_
  refine lv_bipush (v := 6) hC.1 hC.2.1 dX2_given_5 (by decide) ?_
  refine lv_icmp_ge (tgt := 33) hC.1 hC.2.1 dX2_given_7 (by decide) (fun c => absurd c (by decide)) (fun _ => ?_)
  refine lv_lload_n hC.1 hC.2.1 dX2_given_10 rfl (lv_at hl 1 rfl) ?_
  refine lv_aload_n hC.1 hC.2.1 dX2_given_11 rfl (lv_at hl 2 rfl) ?_
  refine ec_get hC hK ha fX2_25 rfl dX2_given_12 ?_
  refine lv_iload_n hC.1 hC.2.1 dX2_given_15 rfl (lv_at hl 0 rfl) ?_
  refine ec_lald hC hK ht 5 rfl (by omega) (by omega) dX2_given_16 ?_
  refine lv_aload_n hC.1 hC.2.1 dX2_given_17 rfl (lv_at hl 2 rfl) ?_
  refine ec_get hC hK ha fX2_29 rfl dX2_given_18 ?_
  refine lv_iload_n hC.1 hC.2.1 dX2_given_21 rfl (lv_at hl 0 rfl) ?_
  refine ec_iald hC hK hq 5 rfl (by omega) (by omega) dX2_given_22 ?_
  refine lv_i2l hC.1 hC.2.1 dX2_given_23 rfl ?_
  refine lv_lmul hC.1 hC.2.1 dX2_given_24 ?_
  refine lv_ladd hC.1 hC.2.1 dX2_given_25 ?_
  refine ec_topl (y := gvS t q 6) rfl ?_
  refine lv_lstore_n (lv' := [(1, .long (gvS t q 6)), (3, .int 5), (0, .ref a)]) hC.1 hC.2.1 dX2_given_26 rfl hl (by decide) rfl (fun ls hl => ?_)
  refine lv_iinc (v := 6) (lv' := [(3, .int 6), (1, .long (gvS t q 6)), (0, .ref a)]) hC.1 hC.2.1 dX2_given_27 hl (k := 1) rfl (by decide) (by decide) rfl (fun ls hl => ?_)
  refine lv_goto (tgt := 4) hC.1 hC.2.1 dX2_given_30 (by decide) ?_
  refine lv_iload_n hC.1 hC.2.1 dX2_given_4 rfl (lv_at hl 0 rfl) ?_
  refine lv_bipush (v := 6) hC.1 hC.2.1 dX2_given_5 (by decide) ?_
  refine lv_icmp_ge (tgt := 33) hC.1 hC.2.1 dX2_given_7 (by decide) (fun _ => ?_) (fun c => absurd (by decide) c)
  refine lv_lload_n hC.1 hC.2.1 dX2_given_33 rfl (lv_at hl 1 rfl) ?_
  exact W.lret hC.1 hC.2.1 hr (fun t9 ht9 _ => ⟨_, rfl, rfl, ht9⟩) hS.2.2 dX2_given_34

set_option maxHeartbeats 4000000 in
set_option maxRecDepth 100000 in
/-- a filter gets an input -/
theorem c_X2_getInput (l : Launch) (G : ecG) (a pa : Nat) (v0 v1 : Value) (q : Nat → Int32) (x n : Int32) (hne : pa ≠ a) : Met l yX2_getInput (ecWs yX2_getInput cX2_getInput 3 none) (ecRm 1 0 0) (ecPc [.ref a, .int x] G (fun H => ecA G a (eO 2 [v0, v1, .ref pa, .int n]) H ∧ ecA G pa (eI G 6 q) H)) (ecEp (fun v H1 => v = none ∧ (ecA G a (eO 2 [v0, v1, .ref pa, .int (n + 1)]) H1 ∧ ecA G pa (eI G 6 (psU q x)) H1)) (fun z : Nat => z = a ∨ z = pa)) 0 0 (fun z : Nat => z = a ∨ z = pa) := by
  refine ec_met (by decide) (Nat.le_of_ble_eq_true rfl) ?_
  intro p e s m below meth c hC hr hlocks hname hOk hpre ls hl
  have hK := hOk.1
  obtain ⟨ha, hq⟩ := hpre
  have hS : va_S (fun z : Nat => z = a ∨ z = pa) s.heap s.heap [] := va_S.rf
  have hl : lv_has ls 3 [(0, .ref a), (1, .int x)] := hl
  refine lv_iconst (v := 5) hC.1 hC.2.1 dX2_getInput_0 (by decide) ?_
  refine lv_istore_n (lv' := [(2, .int 5), (0, .ref a), (1, .int x)]) hC.1 hC.2.1 dX2_getInput_1 rfl hl (by decide) rfl (fun ls hl => ?_)
  refine lv_iload_n hC.1 hC.2.1 dX2_getInput_2 rfl (lv_at hl 0 rfl) ?_
  refine lv_if_le (tgt := 26) hC.1 hC.2.1 dX2_getInput_3 (by decide) (fun c => absurd c (by decide)) (fun _ => ?_)
  refine lv_aload_n hC.1 hC.2.1 dX2_getInput_6 rfl (lv_at hl 1 rfl) ?_
  refine ec_get hC hK ha fX2_29 rfl dX2_getInput_7 ?_
  refine lv_iload_n hC.1 hC.2.1 dX2_getInput_10 rfl (lv_at hl 0 rfl) ?_
  refine lv_aload_n hC.1 hC.2.1 dX2_getInput_11 rfl (lv_at hl 1 rfl) ?_
  refine ec_get hC hK ha fX2_29 rfl dX2_getInput_12 ?_
  refine lv_iload_n hC.1 hC.2.1 dX2_getInput_15 rfl (lv_at hl 0 rfl) ?_
  refine lv_iconst (v := 1) hC.1 hC.2.1 dX2_getInput_16 (by decide) ?_
  refine lv_isub hC.1 hC.2.1 dX2_getInput_17 ?_
  refine ec_topi (y := 4) (by decide) ?_
  refine ec_iald hC hK hq 4 rfl (by omega) (by omega) dX2_getInput_18 ?_
  refine ec_iast hC hK hS hq (Or.inr rfl) 5 rfl (by omega) (by omega) dX2_getInput_19 (fun H locs h9 o9 z9 hS => ?_)
  have ha := ha.kept (o9 _ (Ne.symm hne))
  have hq : ecA G pa (eI G 6 (upd q 5 (q 4))) H := h9
  refine lv_iinc (v := 4) (lv' := [(2, .int 4), (0, .ref a), (1, .int x)]) hC.1 hC.2.1 dX2_getInput_20 hl (k := 0) rfl (by decide) (by decide) rfl (fun ls hl => ?_)
  refine lv_goto (tgt := 2) hC.1 hC.2.1 dX2_getInput_23 (by decide) ?_
  refine lv_iload_n hC.1 hC.2.1 dX2_getInput_2 rfl (lv_at hl 0 rfl) ?_
  refine lv_if_le (tgt := 26) hC.1 hC.2.1 dX2_getInput_3 (by decide) (fun c => absurd c (by decide)) (fun _ => ?_)
  refine lv_aload_n hC.1 hC.2.1 dX2_getInput_6 rfl (lv_at hl 1 rfl) ?_
  refine ec_get hC hK ha fX2_29 rfl dX2_getInput_7 ?_
  refine lv_iload_n hC.1 hC.2.1 dX2_getInput_10 rfl (lv_at hl 0 rfl) ?_
  refine lv_aload_n hC.1 hC.2.1 dX2_getInput_11 rfl (lv_at hl 1 rfl) ?_
  refine ec_get hC hK ha fX2_29 rfl dX2_getInput_12 ?_
  refine lv_iload_n hC.1 hC.2.1 dX2_getInput_15 rfl (lv_at hl 0 rfl) ?_
  refine lv_iconst (v := 1) hC.1 hC.2.1 dX2_getInput_16 (by decide) ?_
  refine lv_isub hC.1 hC.2.1 dX2_getInput_17 ?_
  refine ec_topi (y := 3) (by decide) ?_
  refine ec_iald hC hK hq 3 rfl (by omega) (by omega) dX2_getInput_18 ?_
  refine ec_topi (y := (q 3)) rfl ?_
  refine ec_iast hC hK hS hq (Or.inr rfl) 4 rfl (by omega) (by omega) dX2_getInput_19 (fun H locs h9 o9 z9 hS => ?_)
  have ha := ha.kept (o9 _ (Ne.symm hne))
  have hq : ecA G pa (eI G 6 (upd (upd q 5 (q 4)) 4 (q 3))) H := h9
  refine lv_iinc (v := 3) (lv' := [(2, .int 3), (0, .ref a), (1, .int x)]) hC.1 hC.2.1 dX2_getInput_20 hl (k := 0) rfl (by decide) (by decide) rfl (fun ls hl => ?_)
  refine lv_goto (tgt := 2) hC.1 hC.2.1 dX2_getInput_23 (by decide) ?_
  refine lv_iload_n hC.1 hC.2.1 dX2_getInput_2 rfl (lv_at hl 0 rfl) ?_
  refine lv_if_le (tgt := 26) hC.1 hC.2.1 dX2_getInput_3 (by decide) (fun c => absurd c (by decide)) (fun _ => ?_)
  refine lv_aload_n hC.1 hC.2.1 dX2_getInput_6 rfl (lv_at hl 1 rfl) ?_
  refine ec_get hC hK ha fX2_29 rfl dX2_getInput_7 ?_
  refine lv_iload_n hC.1 hC.2.1 dX2_getInput_10 rfl (lv_at hl 0 rfl) ?_
  refine lv_aload_n hC.1 hC.2.1 dX2_getInput_11 rfl (lv_at hl 1 rfl) ?_
  refine ec_get hC hK ha fX2_29 rfl dX2_getInput_12 ?_
  refine lv_iload_n hC.1 hC.2.1 dX2_getInput_15 rfl (lv_at hl 0 rfl) ?_
  refine lv_iconst (v := 1) hC.1 hC.2.1 dX2_getInput_16 (by decide) ?_
  refine lv_isub hC.1 hC.2.1 dX2_getInput_17 ?_
  refine ec_topi (y := 2) (by decide) ?_
  refine ec_iald hC hK hq 2 rfl (by omega) (by omega) dX2_getInput_18 ?_
  refine ec_topi (y := (q 2)) rfl ?_
  refine ec_iast hC hK hS hq (Or.inr rfl) 3 rfl (by omega) (by omega) dX2_getInput_19 (fun H locs h9 o9 z9 hS => ?_)
  have ha := ha.kept (o9 _ (Ne.symm hne))
  have hq : ecA G pa (eI G 6 (upd (upd (upd q 5 (q 4)) 4 (q 3)) 3 (q 2))) H := h9
  refine lv_iinc (v := 2) (lv' := [(2, .int 2), (0, .ref a), (1, .int x)]) hC.1 hC.2.1 dX2_getInput_20 hl (k := 0) rfl (by decide) (by decide) rfl (fun ls hl => ?_)
  refine lv_goto (tgt := 2) hC.1 hC.2.1 dX2_getInput_23 (by decide) ?_
  refine lv_iload_n hC.1 hC.2.1 dX2_getInput_2 rfl (lv_at hl 0 rfl) ?_
  refine lv_if_le (tgt := 26) hC.1 hC.2.1 dX2_getInput_3 (by decide) (fun c => absurd c (by decide)) (fun _ => ?_)
  refine lv_aload_n hC.1 hC.2.1 dX2_getInput_6 rfl (lv_at hl 1 rfl) ?_
  refine ec_get hC hK ha fX2_29 rfl dX2_getInput_7 ?_
  refine lv_iload_n hC.1 hC.2.1 dX2_getInput_10 rfl (lv_at hl 0 rfl) ?_
  refine lv_aload_n hC.1 hC.2.1 dX2_getInput_11 rfl (lv_at hl 1 rfl) ?_
  refine ec_get hC hK ha fX2_29 rfl dX2_getInput_12 ?_
  refine lv_iload_n hC.1 hC.2.1 dX2_getInput_15 rfl (lv_at hl 0 rfl) ?_
  refine lv_iconst (v := 1) hC.1 hC.2.1 dX2_getInput_16 (by decide) ?_
  refine lv_isub hC.1 hC.2.1 dX2_getInput_17 ?_
  refine ec_topi (y := 1) (by decide) ?_
  refine ec_iald hC hK hq 1 rfl (by omega) (by omega) dX2_getInput_18 ?_
  refine ec_topi (y := (q 1)) rfl ?_
  refine ec_iast hC hK hS hq (Or.inr rfl) 2 rfl (by omega) (by omega) dX2_getInput_19 (fun H locs h9 o9 z9 hS => ?_)
  have ha := ha.kept (o9 _ (Ne.symm hne))
  have hq : ecA G pa (eI G 6 (upd (upd (upd (upd q 5 (q 4)) 4 (q 3)) 3 (q 2)) 2 (q 1))) H := h9
  refine lv_iinc (v := 1) (lv' := [(2, .int 1), (0, .ref a), (1, .int x)]) hC.1 hC.2.1 dX2_getInput_20 hl (k := 0) rfl (by decide) (by decide) rfl (fun ls hl => ?_)
  refine lv_goto (tgt := 2) hC.1 hC.2.1 dX2_getInput_23 (by decide) ?_
  refine lv_iload_n hC.1 hC.2.1 dX2_getInput_2 rfl (lv_at hl 0 rfl) ?_
  refine lv_if_le (tgt := 26) hC.1 hC.2.1 dX2_getInput_3 (by decide) (fun c => absurd c (by decide)) (fun _ => ?_)
  refine lv_aload_n hC.1 hC.2.1 dX2_getInput_6 rfl (lv_at hl 1 rfl) ?_
  refine ec_get hC hK ha fX2_29 rfl dX2_getInput_7 ?_
  refine lv_iload_n hC.1 hC.2.1 dX2_getInput_10 rfl (lv_at hl 0 rfl) ?_
  refine lv_aload_n hC.1 hC.2.1 dX2_getInput_11 rfl (lv_at hl 1 rfl) ?_
  refine ec_get hC hK ha fX2_29 rfl dX2_getInput_12 ?_
  refine lv_iload_n hC.1 hC.2.1 dX2_getInput_15 rfl (lv_at hl 0 rfl) ?_
  refine lv_iconst (v := 1) hC.1 hC.2.1 dX2_getInput_16 (by decide) ?_
  refine lv_isub hC.1 hC.2.1 dX2_getInput_17 ?_
  refine ec_topi (y := 0) (by decide) ?_
  refine ec_iald hC hK hq 0 rfl (by omega) (by omega) dX2_getInput_18 ?_
  refine ec_topi (y := (q 0)) rfl ?_
  refine ec_iast hC hK hS hq (Or.inr rfl) 1 rfl (by omega) (by omega) dX2_getInput_19 (fun H locs h9 o9 z9 hS => ?_)
  have ha := ha.kept (o9 _ (Ne.symm hne))
  have hq : ecA G pa (eI G 6 (upd (upd (upd (upd (upd q 5 (q 4)) 4 (q 3)) 3 (q 2)) 2 (q 1)) 1 (q 0))) H := h9
  refine lv_iinc (v := 0) (lv' := [(2, .int 0), (0, .ref a), (1, .int x)]) hC.1 hC.2.1 dX2_getInput_20 hl (k := 0) rfl (by decide) (by decide) rfl (fun ls hl => ?_)
  refine lv_goto (tgt := 2) hC.1 hC.2.1 dX2_getInput_23 (by decide) ?_
  refine lv_iload_n hC.1 hC.2.1 dX2_getInput_2 rfl (lv_at hl 0 rfl) ?_
  refine lv_if_le (tgt := 26) hC.1 hC.2.1 dX2_getInput_3 (by decide) (fun _ => ?_) (fun c => absurd (by decide) c)
  refine lv_aload_n hC.1 hC.2.1 dX2_getInput_26 rfl (lv_at hl 1 rfl) ?_
  refine ec_get hC hK ha fX2_29 rfl dX2_getInput_27 ?_
  refine lv_iconst (v := 0) hC.1 hC.2.1 dX2_getInput_30 (by decide) ?_
  refine lv_iload_n hC.1 hC.2.1 dX2_getInput_31 rfl (lv_at hl 2 rfl) ?_
  refine ec_iast hC hK hS hq (Or.inr rfl) 0 rfl (by omega) (by omega) dX2_getInput_32 (fun H locs h9 o9 z9 hS => ?_)
  have ha := ha.kept (o9 _ (Ne.symm hne))
  have hq : ecA G pa (eI G 6 (upd (upd (upd (upd (upd (upd q 5 (q 4)) 4 (q 3)) 3 (q 2)) 2 (q 1)) 1 (q 0)) 0 x)) H := h9
  refine lv_aload_n hC.1 hC.2.1 dX2_getInput_33 rfl (lv_at hl 1 rfl) ?_
  refine lv_dup hC.1 hC.2.1 dX2_getInput_34 rfl ?_
  refine ec_get hC hK ha fX2_32 rfl dX2_getInput_35 ?_
  refine lv_iconst (v := 1) hC.1 hC.2.1 dX2_getInput_38 (by decide) ?_
  refine lv_iadd hC.1 hC.2.1 dX2_getInput_39 ?_
  refine ec_put hC hK hS ha (Or.inl rfl) fX2_32 rfl rfl rfl (Nat.le_of_ble_eq_true rfl) dX2_getInput_40 (fun H locs h9 o9 z9 hS => ?_)
  have hq := hq.kept (o9 _ hne)
  have ha : ecA G a (eO 2 [v0, v1, .ref pa, .int (n + 1)]) H := h9
  exact W.vret hC.1 hC.2.1 hr (fun t9 ht9 _ => ⟨_, rfl, ⟨rfl, by rw [ht9]; exact ⟨ha, ecI_to hq (ec_lt6 rfl rfl rfl rfl rfl rfl)⟩⟩, hS.F ht9⟩) hS.2.2 dX2_getInput_43

set_option maxHeartbeats 4000000 in
set_option maxRecDepth 100000 in
/-- a sample of the product row -/
theorem c_X2_rowSample (l : Launch) (G : ecG) (a an ta sa i : Nat) (v0 v2 v3 u0 u1 u2 u3 u5 u6 : Value) (t : Nat → Int64) (s0 : Nat → Int32) (hi : i < 6) : Met l yX2_rowSample (ecWs yX2_rowSample cX2_rowSample 6 (Option.some FieldType.long)) (ecRm 1 0 0) (ecPc [.ref a, .ref an, .int (nI i)] G (fun H => ecA G a (eO 2 [v0, .ref ta, v2, v3]) H ∧ ecA G an (eO 0 [u0, u1, u2, u3, .ref sa, u5, u6]) H ∧ ecA G ta (eJ G 6 t) H ∧ ecA G sa (eI G 4 s0) H)) (ecRp (fun v => v = some (.long (prd s0 t i)))) 0 0 (fun _ => False) := by
  refine ec_met (by decide) (Nat.le_of_ble_eq_true rfl) ?_
  intro p e s m below meth c hC hr hlocks hname hOk hpre ls hl
  have hK := hOk.1
  obtain ⟨ha, hn, ht, hq⟩ := hpre
  have hS : va_S (fun _ => False) s.heap s.heap [] := va_S.rf
  have hAN : ∀ q, (fun _ : Nat => False) q → ecN0 G ≤ q := fun _ h => h.elim
  have hl : lv_has ls 6 [(0, .ref a), (1, .ref an), (2, .int (nI i))] := hl
  refine lv_lconst (v := 0) hC.1 hC.2.1 dX2_rowSample_0 (by decide) ?_
  refine lv_lstore_n (lv' := [(3, .long 0), (0, .ref a), (1, .ref an), (2, .int (nI i))]) hC.1 hC.2.1 dX2_rowSample_1 rfl hl (by decide) rfl (fun ls hl => ?_)
  refine lv_iconst (v := 0) hC.1 hC.2.1 dX2_rowSample_2 (by decide) ?_
  refine lv_istore (lv' := [(5, .int 0), (3, .long 0), (0, .ref a), (1, .ref an), (2, .int (nI i))]) hC.1 hC.2.1 dX2_rowSample_3 hl (by decide) rfl (fun ls hl => ?_)
  refine lv_iload hC.1 hC.2.1 dX2_rowSample_5 (lv_at hl 0 rfl) ?_
  refine lv_iconst (v := 4) hC.1 hC.2.1 dX2_rowSample_7 (by decide) ?_
  refine lv_icmp_ge (tgt := 44) hC.1 hC.2.1 dX2_rowSample_8 (by decide) (fun c => absurd c (by decide)) (fun _ => ?_)
  refine lv_iload hC.1 hC.2.1 dX2_rowSample_11 (lv_at hl 0 rfl) ?_
  refine lv_iload_n hC.1 hC.2.1 dX2_rowSample_13 rfl (lv_at hl 4 rfl) ?_
  refine lv_icmp_gt (tgt := 44) hC.1 hC.2.1 dX2_rowSample_14 (by decide) (fun c => absurd c (nI_pos (by omega))) (fun c_14 => ?_)
  refine lv_lload_n hC.1 hC.2.1 dX2_rowSample_17 rfl (lv_at hl 1 rfl) ?_
  refine lv_aload_n hC.1 hC.2.1 dX2_rowSample_18 rfl (lv_at hl 3 rfl) ?_
  refine ec_get hC hK hn fX2_15 rfl dX2_rowSample_19 ?_
  refine lv_iload hC.1 hC.2.1 dX2_rowSample_22 (lv_at hl 0 rfl) ?_
  refine ec_iald hC hK hq 0 rfl (by omega) (by omega) dX2_rowSample_24 ?_
  refine lv_i2l hC.1 hC.2.1 dX2_rowSample_25 rfl ?_
  refine lv_aload_n hC.1 hC.2.1 dX2_rowSample_26 rfl (lv_at hl 2 rfl) ?_
  refine ec_get hC hK ha fX2_25 rfl dX2_rowSample_27 ?_
  refine lv_iload_n hC.1 hC.2.1 dX2_rowSample_30 rfl (lv_at hl 4 rfl) ?_
  refine lv_iload hC.1 hC.2.1 dX2_rowSample_31 (lv_at hl 0 rfl) ?_
  refine lv_isub hC.1 hC.2.1 dX2_rowSample_33 ?_
  refine ec_lald hC hK ht (i - 0) (pk_sub (a := i) (b := 0) (by omega)) (by omega) (by omega) dX2_rowSample_34 ?_
  refine lv_lmul hC.1 hC.2.1 dX2_rowSample_35 ?_
  refine lv_ladd hC.1 hC.2.1 dX2_rowSample_36 ?_
  refine ec_topl (y := prS s0 t i 1) rfl ?_
  refine lv_lstore_n (lv' := [(3, .long (prS s0 t i 1)), (5, .int 0), (0, .ref a), (1, .ref an), (2, .int (nI i))]) hC.1 hC.2.1 dX2_rowSample_37 rfl hl (by decide) rfl (fun ls hl => ?_)
  refine lv_iinc (v := 1) (lv' := [(5, .int 1), (3, .long (prS s0 t i 1)), (0, .ref a), (1, .ref an), (2, .int (nI i))]) hC.1 hC.2.1 dX2_rowSample_38 hl (k := 1) rfl (by decide) (by decide) rfl (fun ls hl => ?_)
  refine lv_goto (tgt := 5) hC.1 hC.2.1 dX2_rowSample_41 (by decide) ?_
  refine lv_iload hC.1 hC.2.1 dX2_rowSample_5 (lv_at hl 0 rfl) ?_
  refine lv_iconst (v := 4) hC.1 hC.2.1 dX2_rowSample_7 (by decide) ?_
  refine lv_icmp_ge (tgt := 44) hC.1 hC.2.1 dX2_rowSample_8 (by decide) (fun c => absurd c (by decide)) (fun _ => ?_)
  refine lv_iload hC.1 hC.2.1 dX2_rowSample_11 (lv_at hl 0 rfl) ?_
  refine lv_iload_n hC.1 hC.2.1 dX2_rowSample_13 rfl (lv_at hl 4 rfl) ?_
  refine lv_icmp_gt (tgt := 44) hC.1 hC.2.1 dX2_rowSample_14 (by decide) (fun c_14 => ?_) (fun c_14 => ?_)
  · refine lv_lload_n hC.1 hC.2.1 dX2_rowSample_44 rfl (lv_at hl 1 rfl) ?_
    have hlt : i < 1 := (nI_ltI (by omega) (by decide)).mp c_14
    exact W.lret hC.1 hC.2.1 hr (fun t9 ht9 _ => ⟨_, rfl, (ec_long (by have e : i = 0 := (by omega); subst e; rfl)), ht9⟩) hS.2.2 dX2_rowSample_45
  · have hge1 : 1 ≤ i := by
      rcases Nat.lt_or_ge i 1 with h | h
      · exact absurd (nI_lt (a := i) (b := 1) h (by decide)) c_14
      · exact h
    refine lv_lload_n hC.1 hC.2.1 dX2_rowSample_17 rfl (lv_at hl 1 rfl) ?_
    refine lv_aload_n hC.1 hC.2.1 dX2_rowSample_18 rfl (lv_at hl 3 rfl) ?_
    refine ec_get hC hK hn fX2_15 rfl dX2_rowSample_19 ?_
    refine lv_iload hC.1 hC.2.1 dX2_rowSample_22 (lv_at hl 0 rfl) ?_
    refine ec_iald hC hK hq 1 rfl (by omega) (by omega) dX2_rowSample_24 ?_
    refine lv_i2l hC.1 hC.2.1 dX2_rowSample_25 rfl ?_
    refine lv_aload_n hC.1 hC.2.1 dX2_rowSample_26 rfl (lv_at hl 2 rfl) ?_
    refine ec_get hC hK ha fX2_25 rfl dX2_rowSample_27 ?_
    refine lv_iload_n hC.1 hC.2.1 dX2_rowSample_30 rfl (lv_at hl 4 rfl) ?_
    refine lv_iload hC.1 hC.2.1 dX2_rowSample_31 (lv_at hl 0 rfl) ?_
    refine lv_isub hC.1 hC.2.1 dX2_rowSample_33 ?_
    refine ec_lald hC hK ht (i - 1) (pk_sub (a := i) (b := 1) (by omega)) (by omega) (by omega) dX2_rowSample_34 ?_
    refine lv_lmul hC.1 hC.2.1 dX2_rowSample_35 ?_
    refine lv_ladd hC.1 hC.2.1 dX2_rowSample_36 ?_
    refine ec_topl (y := prS s0 t i 2) rfl ?_
    refine lv_lstore_n (lv' := [(3, .long (prS s0 t i 2)), (5, .int 1), (0, .ref a), (1, .ref an), (2, .int (nI i))]) hC.1 hC.2.1 dX2_rowSample_37 rfl hl (by decide) rfl (fun ls hl => ?_)
    refine lv_iinc (v := 2) (lv' := [(5, .int 2), (3, .long (prS s0 t i 2)), (0, .ref a), (1, .ref an), (2, .int (nI i))]) hC.1 hC.2.1 dX2_rowSample_38 hl (k := 1) rfl (by decide) (by decide) rfl (fun ls hl => ?_)
    refine lv_goto (tgt := 5) hC.1 hC.2.1 dX2_rowSample_41 (by decide) ?_
    refine lv_iload hC.1 hC.2.1 dX2_rowSample_5 (lv_at hl 0 rfl) ?_
    refine lv_iconst (v := 4) hC.1 hC.2.1 dX2_rowSample_7 (by decide) ?_
    refine lv_icmp_ge (tgt := 44) hC.1 hC.2.1 dX2_rowSample_8 (by decide) (fun c => absurd c (by decide)) (fun _ => ?_)
    refine lv_iload hC.1 hC.2.1 dX2_rowSample_11 (lv_at hl 0 rfl) ?_
    refine lv_iload_n hC.1 hC.2.1 dX2_rowSample_13 rfl (lv_at hl 4 rfl) ?_
    refine lv_icmp_gt (tgt := 44) hC.1 hC.2.1 dX2_rowSample_14 (by decide) (fun c_14 => ?_) (fun c_14 => ?_)
    · refine lv_lload_n hC.1 hC.2.1 dX2_rowSample_44 rfl (lv_at hl 1 rfl) ?_
      have hlt : i < 2 := (nI_ltI (by omega) (by decide)).mp c_14
      exact W.lret hC.1 hC.2.1 hr (fun t9 ht9 _ => ⟨_, rfl, (ec_long (by have e : i = 1 := (by omega); subst e; rfl)), ht9⟩) hS.2.2 dX2_rowSample_45
    · have hge2 : 2 ≤ i := by
        rcases Nat.lt_or_ge i 2 with h | h
        · exact absurd (nI_lt (a := i) (b := 2) h (by decide)) c_14
        · exact h
      refine lv_lload_n hC.1 hC.2.1 dX2_rowSample_17 rfl (lv_at hl 1 rfl) ?_
      refine lv_aload_n hC.1 hC.2.1 dX2_rowSample_18 rfl (lv_at hl 3 rfl) ?_
      refine ec_get hC hK hn fX2_15 rfl dX2_rowSample_19 ?_
      refine lv_iload hC.1 hC.2.1 dX2_rowSample_22 (lv_at hl 0 rfl) ?_
      refine ec_iald hC hK hq 2 rfl (by omega) (by omega) dX2_rowSample_24 ?_
      refine lv_i2l hC.1 hC.2.1 dX2_rowSample_25 rfl ?_
      refine lv_aload_n hC.1 hC.2.1 dX2_rowSample_26 rfl (lv_at hl 2 rfl) ?_
      refine ec_get hC hK ha fX2_25 rfl dX2_rowSample_27 ?_
      refine lv_iload_n hC.1 hC.2.1 dX2_rowSample_30 rfl (lv_at hl 4 rfl) ?_
      refine lv_iload hC.1 hC.2.1 dX2_rowSample_31 (lv_at hl 0 rfl) ?_
      refine lv_isub hC.1 hC.2.1 dX2_rowSample_33 ?_
      refine ec_lald hC hK ht (i - 2) (pk_sub (a := i) (b := 2) (by omega)) (by omega) (by omega) dX2_rowSample_34 ?_
      refine lv_lmul hC.1 hC.2.1 dX2_rowSample_35 ?_
      refine lv_ladd hC.1 hC.2.1 dX2_rowSample_36 ?_
      refine ec_topl (y := prS s0 t i 3) rfl ?_
      refine lv_lstore_n (lv' := [(3, .long (prS s0 t i 3)), (5, .int 2), (0, .ref a), (1, .ref an), (2, .int (nI i))]) hC.1 hC.2.1 dX2_rowSample_37 rfl hl (by decide) rfl (fun ls hl => ?_)
      refine lv_iinc (v := 3) (lv' := [(5, .int 3), (3, .long (prS s0 t i 3)), (0, .ref a), (1, .ref an), (2, .int (nI i))]) hC.1 hC.2.1 dX2_rowSample_38 hl (k := 1) rfl (by decide) (by decide) rfl (fun ls hl => ?_)
      refine lv_goto (tgt := 5) hC.1 hC.2.1 dX2_rowSample_41 (by decide) ?_
      refine lv_iload hC.1 hC.2.1 dX2_rowSample_5 (lv_at hl 0 rfl) ?_
      refine lv_iconst (v := 4) hC.1 hC.2.1 dX2_rowSample_7 (by decide) ?_
      refine lv_icmp_ge (tgt := 44) hC.1 hC.2.1 dX2_rowSample_8 (by decide) (fun c => absurd c (by decide)) (fun _ => ?_)
      refine lv_iload hC.1 hC.2.1 dX2_rowSample_11 (lv_at hl 0 rfl) ?_
      refine lv_iload_n hC.1 hC.2.1 dX2_rowSample_13 rfl (lv_at hl 4 rfl) ?_
      refine lv_icmp_gt (tgt := 44) hC.1 hC.2.1 dX2_rowSample_14 (by decide) (fun c_14 => ?_) (fun c_14 => ?_)
      · refine lv_lload_n hC.1 hC.2.1 dX2_rowSample_44 rfl (lv_at hl 1 rfl) ?_
        have hlt : i < 3 := (nI_ltI (by omega) (by decide)).mp c_14
        exact W.lret hC.1 hC.2.1 hr (fun t9 ht9 _ => ⟨_, rfl, (ec_long (by have e : i = 2 := (by omega); subst e; rfl)), ht9⟩) hS.2.2 dX2_rowSample_45
      · have hge3 : 3 ≤ i := by
          rcases Nat.lt_or_ge i 3 with h | h
          · exact absurd (nI_lt (a := i) (b := 3) h (by decide)) c_14
          · exact h
        refine lv_lload_n hC.1 hC.2.1 dX2_rowSample_17 rfl (lv_at hl 1 rfl) ?_
        refine lv_aload_n hC.1 hC.2.1 dX2_rowSample_18 rfl (lv_at hl 3 rfl) ?_
        refine ec_get hC hK hn fX2_15 rfl dX2_rowSample_19 ?_
        refine lv_iload hC.1 hC.2.1 dX2_rowSample_22 (lv_at hl 0 rfl) ?_
        refine ec_iald hC hK hq 3 rfl (by omega) (by omega) dX2_rowSample_24 ?_
        refine lv_i2l hC.1 hC.2.1 dX2_rowSample_25 rfl ?_
        refine lv_aload_n hC.1 hC.2.1 dX2_rowSample_26 rfl (lv_at hl 2 rfl) ?_
        refine ec_get hC hK ha fX2_25 rfl dX2_rowSample_27 ?_
        refine lv_iload_n hC.1 hC.2.1 dX2_rowSample_30 rfl (lv_at hl 4 rfl) ?_
        refine lv_iload hC.1 hC.2.1 dX2_rowSample_31 (lv_at hl 0 rfl) ?_
        refine lv_isub hC.1 hC.2.1 dX2_rowSample_33 ?_
        refine ec_lald hC hK ht (i - 3) (pk_sub (a := i) (b := 3) (by omega)) (by omega) (by omega) dX2_rowSample_34 ?_
        refine lv_lmul hC.1 hC.2.1 dX2_rowSample_35 ?_
        refine lv_ladd hC.1 hC.2.1 dX2_rowSample_36 ?_
        refine ec_topl (y := prS s0 t i 4) rfl ?_
        refine lv_lstore_n (lv' := [(3, .long (prS s0 t i 4)), (5, .int 3), (0, .ref a), (1, .ref an), (2, .int (nI i))]) hC.1 hC.2.1 dX2_rowSample_37 rfl hl (by decide) rfl (fun ls hl => ?_)
        refine lv_iinc (v := 4) (lv' := [(5, .int 4), (3, .long (prS s0 t i 4)), (0, .ref a), (1, .ref an), (2, .int (nI i))]) hC.1 hC.2.1 dX2_rowSample_38 hl (k := 1) rfl (by decide) (by decide) rfl (fun ls hl => ?_)
        refine lv_goto (tgt := 5) hC.1 hC.2.1 dX2_rowSample_41 (by decide) ?_
        refine lv_iload hC.1 hC.2.1 dX2_rowSample_5 (lv_at hl 0 rfl) ?_
        refine lv_iconst (v := 4) hC.1 hC.2.1 dX2_rowSample_7 (by decide) ?_
        refine lv_icmp_ge (tgt := 44) hC.1 hC.2.1 dX2_rowSample_8 (by decide) (fun _ => ?_) (fun c => absurd (by decide) c)
        refine lv_lload_n hC.1 hC.2.1 dX2_rowSample_44 rfl (lv_at hl 1 rfl) ?_
        exact W.lret hC.1 hC.2.1 hr (fun t9 ht9 _ => ⟨_, rfl, (ec_long (by unfold prd; rw [if_neg (show ¬ i < 3 by omega)])), ht9⟩) hS.2.2 dX2_rowSample_45

set_option maxHeartbeats 4000000 in
set_option maxRecDepth 100000 in
/-- how many samples are right -/
theorem c_X2_rightSamplesWith (l : Launch) (G : ecG) (a an ta sa : Nat) (v0 v2 v3 u0 u1 u2 u3 u5 u6 : Value) (t : Nat → Int64) (s0 : Nat → Int32) : Met l yX2_rightSamplesWith (ecWs yX2_rightSamplesWith cX2_rightSamplesWith 3 (Option.some FieldType.int)) (ecRm 2 0 0) (ecPc [.ref a, .ref an] G (fun H => ecA G a (eO 2 [v0, .ref ta, v2, v3]) H ∧ ecA G an (eO 0 [u0, u1, u2, u3, .ref sa, u5, u6]) H ∧ ecA G ta (eJ G 6 t) H ∧ ecA G sa (eI G 4 s0) H)) (ecRp (fun v => v = some (.int (nI (rgt s0 t))))) 0 0 (fun _ => False) := by
  refine ec_met (by decide) (Nat.le_of_ble_eq_true rfl) ?_
  intro p e s m below meth c hC hr hlocks hname hOk hpre ls hl
  have hK := hOk.1
  obtain ⟨ha, hn, ht, hq⟩ := hpre
  have hS : va_S (fun _ => False) s.heap s.heap [] := va_S.rf
  have hAN : ∀ q, (fun _ : Nat => False) q → ecN0 G ≤ q := fun _ h => h.elim
  have hl : lv_has ls 3 [(0, .ref a), (1, .ref an)] := hl
  refine lv_iconst (v := 0) hC.1 hC.2.1 dX2_rightSamplesWith_0 (by decide) ?_
  refine lv_istore_n (lv' := [(2, .int 0), (0, .ref a), (1, .ref an)]) hC.1 hC.2.1 dX2_rightSamplesWith_1 rfl hl (by decide) rfl (fun ls hl => ?_)
  refine lv_iload_n hC.1 hC.2.1 dX2_rightSamplesWith_2 rfl (lv_at hl 0 rfl) ?_
  refine lv_bipush (v := 6) hC.1 hC.2.1 dX2_rightSamplesWith_3 (by decide) ?_
  refine lv_icmp_ge (tgt := 34) hC.1 hC.2.1 dX2_rightSamplesWith_5 (by decide) (fun c => absurd c (by decide)) (fun _ => ?_)
  refine lv_aload_n hC.1 hC.2.1 dX2_rightSamplesWith_8 rfl (lv_at hl 1 rfl) ?_
  refine lv_aload_n hC.1 hC.2.1 dX2_rightSamplesWith_9 rfl (lv_at hl 2 rfl) ?_
  refine lv_iload_n hC.1 hC.2.1 dX2_rightSamplesWith_10 rfl (lv_at hl 0 rfl) ?_
  refine ec_go1 (ec_rV hC (c_X2_rowSample l G a an ta sa 0 v0 v2 v3 u0 u1 u2 u3 u5 u6 t s0 (by omega)) kX2_36 (hOk.at hS hAN) ⟨ha, hn, ht, hq⟩ (ec_rc hK ha ⟨_, _, rfl⟩) hl.1 ⟨Nat.le_of_ble_eq_true rfl, Nat.le_of_ble_eq_true rfl⟩ rfl (Nat.le_of_ble_eq_true rfl) dX2_rightSamplesWith_11 ⟨Nat.le_of_ble_eq_true rfl, Nat.le_of_ble_eq_true rfl⟩) ?_
  refine lv_iload_n hC.1 hC.2.1 dX2_rightSamplesWith_14 rfl (lv_at hl 0 rfl) ?_
  refine lv_if_ne (tgt := 22) hC.1 hC.2.1 dX2_rightSamplesWith_15 (by decide) (fun c => absurd rfl c) (fun _ => ?_)
  refine lv_iconst (v := 1) hC.1 hC.2.1 dX2_rightSamplesWith_18 (by decide) ?_
  refine lv_goto (tgt := 23) hC.1 hC.2.1 dX2_rightSamplesWith_19 (by decide) ?_
  refine lv_i2l (v := 1) hC.1 hC.2.1 dX2_rightSamplesWith_23 (by decide) ?_
  refine W.lcmp hC.1 hC.2.1 dX2_rightSamplesWith_24 ?_
  refine lv_if_ne (tgt := 34) hC.1 hC.2.1 dX2_rightSamplesWith_25 (by decide) (fun c_25 => ?_) (fun c_25 => ?_)
  · refine lv_iload_n hC.1 hC.2.1 dX2_rightSamplesWith_34 rfl (lv_at hl 0 rfl) ?_
    have hn0 : ¬ prd s0 t 0 = 1 := fun z => c_25 ((ec_cm0 _ _).mpr z)
    exact W.iret hC.1 hC.2.1 hr (fun t9 ht9 _ => ⟨_, rfl, (ec_int (by rw [show rgt s0 t = 0 by simp [rgt, rgtN, hn0]]; rfl)), ht9⟩) hS.2.2 dX2_rightSamplesWith_35
  · have he0 : prd s0 t 0 = 1 := (ec_cm0 _ _).mp c_25
    refine lv_iinc (v := 1) (lv' := [(2, .int 1), (0, .ref a), (1, .ref an)]) hC.1 hC.2.1 dX2_rightSamplesWith_28 hl (k := 0) rfl (by decide) (by decide) rfl (fun ls hl => ?_)
    refine lv_goto (tgt := 2) hC.1 hC.2.1 dX2_rightSamplesWith_31 (by decide) ?_
    refine lv_iload_n hC.1 hC.2.1 dX2_rightSamplesWith_2 rfl (lv_at hl 0 rfl) ?_
    refine lv_bipush (v := 6) hC.1 hC.2.1 dX2_rightSamplesWith_3 (by decide) ?_
    refine lv_icmp_ge (tgt := 34) hC.1 hC.2.1 dX2_rightSamplesWith_5 (by decide) (fun c => absurd c (by decide)) (fun _ => ?_)
    refine lv_aload_n hC.1 hC.2.1 dX2_rightSamplesWith_8 rfl (lv_at hl 1 rfl) ?_
    refine lv_aload_n hC.1 hC.2.1 dX2_rightSamplesWith_9 rfl (lv_at hl 2 rfl) ?_
    refine lv_iload_n hC.1 hC.2.1 dX2_rightSamplesWith_10 rfl (lv_at hl 0 rfl) ?_
    refine ec_go1 (ec_rV hC (c_X2_rowSample l G a an ta sa 1 v0 v2 v3 u0 u1 u2 u3 u5 u6 t s0 (by omega)) kX2_36 (hOk.at hS hAN) ⟨ha, hn, ht, hq⟩ (ec_rc hK ha ⟨_, _, rfl⟩) hl.1 ⟨Nat.le_of_ble_eq_true rfl, Nat.le_of_ble_eq_true rfl⟩ rfl (Nat.le_of_ble_eq_true rfl) dX2_rightSamplesWith_11 ⟨Nat.le_of_ble_eq_true rfl, Nat.le_of_ble_eq_true rfl⟩) ?_
    refine lv_iload_n hC.1 hC.2.1 dX2_rightSamplesWith_14 rfl (lv_at hl 0 rfl) ?_
    refine lv_if_ne (tgt := 22) hC.1 hC.2.1 dX2_rightSamplesWith_15 (by decide) (fun _ => ?_) (fun c => absurd c (by decide))
    refine lv_iconst (v := 0) hC.1 hC.2.1 dX2_rightSamplesWith_22 (by decide) ?_
    refine lv_i2l (v := 0) hC.1 hC.2.1 dX2_rightSamplesWith_23 (by decide) ?_
    refine W.lcmp hC.1 hC.2.1 dX2_rightSamplesWith_24 ?_
    refine lv_if_ne (tgt := 34) hC.1 hC.2.1 dX2_rightSamplesWith_25 (by decide) (fun c_25 => ?_) (fun c_25 => ?_)
    · refine lv_iload_n hC.1 hC.2.1 dX2_rightSamplesWith_34 rfl (lv_at hl 0 rfl) ?_
      have hn1 : ¬ prd s0 t 1 = 0 := fun z => c_25 ((ec_cm0 _ _).mpr z)
      exact W.iret hC.1 hC.2.1 hr (fun t9 ht9 _ => ⟨_, rfl, (ec_int (by rw [show rgt s0 t = 1 by simp [rgt, rgtN, he0, hn1]]; rfl)), ht9⟩) hS.2.2 dX2_rightSamplesWith_35
    · have he1 : prd s0 t 1 = 0 := (ec_cm0 _ _).mp c_25
      refine lv_iinc (v := 2) (lv' := [(2, .int 2), (0, .ref a), (1, .ref an)]) hC.1 hC.2.1 dX2_rightSamplesWith_28 hl (k := 0) rfl (by decide) (by decide) rfl (fun ls hl => ?_)
      refine lv_goto (tgt := 2) hC.1 hC.2.1 dX2_rightSamplesWith_31 (by decide) ?_
      refine lv_iload_n hC.1 hC.2.1 dX2_rightSamplesWith_2 rfl (lv_at hl 0 rfl) ?_
      refine lv_bipush (v := 6) hC.1 hC.2.1 dX2_rightSamplesWith_3 (by decide) ?_
      refine lv_icmp_ge (tgt := 34) hC.1 hC.2.1 dX2_rightSamplesWith_5 (by decide) (fun c => absurd c (by decide)) (fun _ => ?_)
      refine lv_aload_n hC.1 hC.2.1 dX2_rightSamplesWith_8 rfl (lv_at hl 1 rfl) ?_
      refine lv_aload_n hC.1 hC.2.1 dX2_rightSamplesWith_9 rfl (lv_at hl 2 rfl) ?_
      refine lv_iload_n hC.1 hC.2.1 dX2_rightSamplesWith_10 rfl (lv_at hl 0 rfl) ?_
      refine ec_go1 (ec_rV hC (c_X2_rowSample l G a an ta sa 2 v0 v2 v3 u0 u1 u2 u3 u5 u6 t s0 (by omega)) kX2_36 (hOk.at hS hAN) ⟨ha, hn, ht, hq⟩ (ec_rc hK ha ⟨_, _, rfl⟩) hl.1 ⟨Nat.le_of_ble_eq_true rfl, Nat.le_of_ble_eq_true rfl⟩ rfl (Nat.le_of_ble_eq_true rfl) dX2_rightSamplesWith_11 ⟨Nat.le_of_ble_eq_true rfl, Nat.le_of_ble_eq_true rfl⟩) ?_
      refine lv_iload_n hC.1 hC.2.1 dX2_rightSamplesWith_14 rfl (lv_at hl 0 rfl) ?_
      refine lv_if_ne (tgt := 22) hC.1 hC.2.1 dX2_rightSamplesWith_15 (by decide) (fun _ => ?_) (fun c => absurd c (by decide))
      refine lv_iconst (v := 0) hC.1 hC.2.1 dX2_rightSamplesWith_22 (by decide) ?_
      refine lv_i2l (v := 0) hC.1 hC.2.1 dX2_rightSamplesWith_23 (by decide) ?_
      refine W.lcmp hC.1 hC.2.1 dX2_rightSamplesWith_24 ?_
      refine lv_if_ne (tgt := 34) hC.1 hC.2.1 dX2_rightSamplesWith_25 (by decide) (fun c_25 => ?_) (fun c_25 => ?_)
      · refine lv_iload_n hC.1 hC.2.1 dX2_rightSamplesWith_34 rfl (lv_at hl 0 rfl) ?_
        have hn2 : ¬ prd s0 t 2 = 0 := fun z => c_25 ((ec_cm0 _ _).mpr z)
        exact W.iret hC.1 hC.2.1 hr (fun t9 ht9 _ => ⟨_, rfl, (ec_int (by rw [show rgt s0 t = 2 by simp [rgt, rgtN, he0, he1, hn2]]; rfl)), ht9⟩) hS.2.2 dX2_rightSamplesWith_35
      · have he2 : prd s0 t 2 = 0 := (ec_cm0 _ _).mp c_25
        refine lv_iinc (v := 3) (lv' := [(2, .int 3), (0, .ref a), (1, .ref an)]) hC.1 hC.2.1 dX2_rightSamplesWith_28 hl (k := 0) rfl (by decide) (by decide) rfl (fun ls hl => ?_)
        refine lv_goto (tgt := 2) hC.1 hC.2.1 dX2_rightSamplesWith_31 (by decide) ?_
        refine lv_iload_n hC.1 hC.2.1 dX2_rightSamplesWith_2 rfl (lv_at hl 0 rfl) ?_
        refine lv_bipush (v := 6) hC.1 hC.2.1 dX2_rightSamplesWith_3 (by decide) ?_
        refine lv_icmp_ge (tgt := 34) hC.1 hC.2.1 dX2_rightSamplesWith_5 (by decide) (fun c => absurd c (by decide)) (fun _ => ?_)
        refine lv_aload_n hC.1 hC.2.1 dX2_rightSamplesWith_8 rfl (lv_at hl 1 rfl) ?_
        refine lv_aload_n hC.1 hC.2.1 dX2_rightSamplesWith_9 rfl (lv_at hl 2 rfl) ?_
        refine lv_iload_n hC.1 hC.2.1 dX2_rightSamplesWith_10 rfl (lv_at hl 0 rfl) ?_
        refine ec_go1 (ec_rV hC (c_X2_rowSample l G a an ta sa 3 v0 v2 v3 u0 u1 u2 u3 u5 u6 t s0 (by omega)) kX2_36 (hOk.at hS hAN) ⟨ha, hn, ht, hq⟩ (ec_rc hK ha ⟨_, _, rfl⟩) hl.1 ⟨Nat.le_of_ble_eq_true rfl, Nat.le_of_ble_eq_true rfl⟩ rfl (Nat.le_of_ble_eq_true rfl) dX2_rightSamplesWith_11 ⟨Nat.le_of_ble_eq_true rfl, Nat.le_of_ble_eq_true rfl⟩) ?_
        refine lv_iload_n hC.1 hC.2.1 dX2_rightSamplesWith_14 rfl (lv_at hl 0 rfl) ?_
        refine lv_if_ne (tgt := 22) hC.1 hC.2.1 dX2_rightSamplesWith_15 (by decide) (fun _ => ?_) (fun c => absurd c (by decide))
        refine lv_iconst (v := 0) hC.1 hC.2.1 dX2_rightSamplesWith_22 (by decide) ?_
        refine lv_i2l (v := 0) hC.1 hC.2.1 dX2_rightSamplesWith_23 (by decide) ?_
        refine W.lcmp hC.1 hC.2.1 dX2_rightSamplesWith_24 ?_
        refine lv_if_ne (tgt := 34) hC.1 hC.2.1 dX2_rightSamplesWith_25 (by decide) (fun c_25 => ?_) (fun c_25 => ?_)
        · refine lv_iload_n hC.1 hC.2.1 dX2_rightSamplesWith_34 rfl (lv_at hl 0 rfl) ?_
          have hn3 : ¬ prd s0 t 3 = 0 := fun z => c_25 ((ec_cm0 _ _).mpr z)
          exact W.iret hC.1 hC.2.1 hr (fun t9 ht9 _ => ⟨_, rfl, (ec_int (by rw [show rgt s0 t = 3 by simp [rgt, rgtN, he0, he1, he2, hn3]]; rfl)), ht9⟩) hS.2.2 dX2_rightSamplesWith_35
        · have he3 : prd s0 t 3 = 0 := (ec_cm0 _ _).mp c_25
          refine lv_iinc (v := 4) (lv' := [(2, .int 4), (0, .ref a), (1, .ref an)]) hC.1 hC.2.1 dX2_rightSamplesWith_28 hl (k := 0) rfl (by decide) (by decide) rfl (fun ls hl => ?_)
          refine lv_goto (tgt := 2) hC.1 hC.2.1 dX2_rightSamplesWith_31 (by decide) ?_
          refine lv_iload_n hC.1 hC.2.1 dX2_rightSamplesWith_2 rfl (lv_at hl 0 rfl) ?_
          refine lv_bipush (v := 6) hC.1 hC.2.1 dX2_rightSamplesWith_3 (by decide) ?_
          refine lv_icmp_ge (tgt := 34) hC.1 hC.2.1 dX2_rightSamplesWith_5 (by decide) (fun c => absurd c (by decide)) (fun _ => ?_)
          refine lv_aload_n hC.1 hC.2.1 dX2_rightSamplesWith_8 rfl (lv_at hl 1 rfl) ?_
          refine lv_aload_n hC.1 hC.2.1 dX2_rightSamplesWith_9 rfl (lv_at hl 2 rfl) ?_
          refine lv_iload_n hC.1 hC.2.1 dX2_rightSamplesWith_10 rfl (lv_at hl 0 rfl) ?_
          refine ec_go1 (ec_rV hC (c_X2_rowSample l G a an ta sa 4 v0 v2 v3 u0 u1 u2 u3 u5 u6 t s0 (by omega)) kX2_36 (hOk.at hS hAN) ⟨ha, hn, ht, hq⟩ (ec_rc hK ha ⟨_, _, rfl⟩) hl.1 ⟨Nat.le_of_ble_eq_true rfl, Nat.le_of_ble_eq_true rfl⟩ rfl (Nat.le_of_ble_eq_true rfl) dX2_rightSamplesWith_11 ⟨Nat.le_of_ble_eq_true rfl, Nat.le_of_ble_eq_true rfl⟩) ?_
          refine lv_iload_n hC.1 hC.2.1 dX2_rightSamplesWith_14 rfl (lv_at hl 0 rfl) ?_
          refine lv_if_ne (tgt := 22) hC.1 hC.2.1 dX2_rightSamplesWith_15 (by decide) (fun _ => ?_) (fun c => absurd c (by decide))
          refine lv_iconst (v := 0) hC.1 hC.2.1 dX2_rightSamplesWith_22 (by decide) ?_
          refine lv_i2l (v := 0) hC.1 hC.2.1 dX2_rightSamplesWith_23 (by decide) ?_
          refine W.lcmp hC.1 hC.2.1 dX2_rightSamplesWith_24 ?_
          refine lv_if_ne (tgt := 34) hC.1 hC.2.1 dX2_rightSamplesWith_25 (by decide) (fun c_25 => ?_) (fun c_25 => ?_)
          · refine lv_iload_n hC.1 hC.2.1 dX2_rightSamplesWith_34 rfl (lv_at hl 0 rfl) ?_
            have hn4 : ¬ prd s0 t 4 = 0 := fun z => c_25 ((ec_cm0 _ _).mpr z)
            exact W.iret hC.1 hC.2.1 hr (fun t9 ht9 _ => ⟨_, rfl, (ec_int (by rw [show rgt s0 t = 4 by simp [rgt, rgtN, he0, he1, he2, he3, hn4]]; rfl)), ht9⟩) hS.2.2 dX2_rightSamplesWith_35
          · have he4 : prd s0 t 4 = 0 := (ec_cm0 _ _).mp c_25
            refine lv_iinc (v := 5) (lv' := [(2, .int 5), (0, .ref a), (1, .ref an)]) hC.1 hC.2.1 dX2_rightSamplesWith_28 hl (k := 0) rfl (by decide) (by decide) rfl (fun ls hl => ?_)
            refine lv_goto (tgt := 2) hC.1 hC.2.1 dX2_rightSamplesWith_31 (by decide) ?_
            refine lv_iload_n hC.1 hC.2.1 dX2_rightSamplesWith_2 rfl (lv_at hl 0 rfl) ?_
            refine lv_bipush (v := 6) hC.1 hC.2.1 dX2_rightSamplesWith_3 (by decide) ?_
            refine lv_icmp_ge (tgt := 34) hC.1 hC.2.1 dX2_rightSamplesWith_5 (by decide) (fun c => absurd c (by decide)) (fun _ => ?_)
            refine lv_aload_n hC.1 hC.2.1 dX2_rightSamplesWith_8 rfl (lv_at hl 1 rfl) ?_
            refine lv_aload_n hC.1 hC.2.1 dX2_rightSamplesWith_9 rfl (lv_at hl 2 rfl) ?_
            refine lv_iload_n hC.1 hC.2.1 dX2_rightSamplesWith_10 rfl (lv_at hl 0 rfl) ?_
            refine ec_go1 (ec_rV hC (c_X2_rowSample l G a an ta sa 5 v0 v2 v3 u0 u1 u2 u3 u5 u6 t s0 (by omega)) kX2_36 (hOk.at hS hAN) ⟨ha, hn, ht, hq⟩ (ec_rc hK ha ⟨_, _, rfl⟩) hl.1 ⟨Nat.le_of_ble_eq_true rfl, Nat.le_of_ble_eq_true rfl⟩ rfl (Nat.le_of_ble_eq_true rfl) dX2_rightSamplesWith_11 ⟨Nat.le_of_ble_eq_true rfl, Nat.le_of_ble_eq_true rfl⟩) ?_
            refine lv_iload_n hC.1 hC.2.1 dX2_rightSamplesWith_14 rfl (lv_at hl 0 rfl) ?_
            refine lv_if_ne (tgt := 22) hC.1 hC.2.1 dX2_rightSamplesWith_15 (by decide) (fun _ => ?_) (fun c => absurd c (by decide))
            refine lv_iconst (v := 0) hC.1 hC.2.1 dX2_rightSamplesWith_22 (by decide) ?_
            refine lv_i2l (v := 0) hC.1 hC.2.1 dX2_rightSamplesWith_23 (by decide) ?_
            refine W.lcmp hC.1 hC.2.1 dX2_rightSamplesWith_24 ?_
            refine lv_if_ne (tgt := 34) hC.1 hC.2.1 dX2_rightSamplesWith_25 (by decide) (fun c_25 => ?_) (fun c_25 => ?_)
            · refine lv_iload_n hC.1 hC.2.1 dX2_rightSamplesWith_34 rfl (lv_at hl 0 rfl) ?_
              have hn5 : ¬ prd s0 t 5 = 0 := fun z => c_25 ((ec_cm0 _ _).mpr z)
              exact W.iret hC.1 hC.2.1 hr (fun t9 ht9 _ => ⟨_, rfl, (ec_int (by rw [show rgt s0 t = 5 by simp [rgt, rgtN, he0, he1, he2, he3, he4, hn5]]; rfl)), ht9⟩) hS.2.2 dX2_rightSamplesWith_35
            · have he5 : prd s0 t 5 = 0 := (ec_cm0 _ _).mp c_25
              refine lv_iinc (v := 6) (lv' := [(2, .int 6), (0, .ref a), (1, .ref an)]) hC.1 hC.2.1 dX2_rightSamplesWith_28 hl (k := 0) rfl (by decide) (by decide) rfl (fun ls hl => ?_)
              refine lv_goto (tgt := 2) hC.1 hC.2.1 dX2_rightSamplesWith_31 (by decide) ?_
              refine lv_iload_n hC.1 hC.2.1 dX2_rightSamplesWith_2 rfl (lv_at hl 0 rfl) ?_
              refine lv_bipush (v := 6) hC.1 hC.2.1 dX2_rightSamplesWith_3 (by decide) ?_
              refine lv_icmp_ge (tgt := 34) hC.1 hC.2.1 dX2_rightSamplesWith_5 (by decide) (fun _ => ?_) (fun c => absurd (by decide) c)
              refine lv_iload_n hC.1 hC.2.1 dX2_rightSamplesWith_34 rfl (lv_at hl 0 rfl) ?_
              exact W.iret hC.1 hC.2.1 hr (fun t9 ht9 _ => ⟨_, rfl, (ec_int (by rw [show rgt s0 t = 6 by simp [rgt, rgtN, he0, he1, he2, he3, he4, he5]]; rfl)), ht9⟩) hS.2.2 dX2_rightSamplesWith_35

set_option maxHeartbeats 4000000 in
set_option maxRecDepth 100000 in
/-- the taps that undo an answer -/
theorem c_X2_tapsUndoing (l : Launch) (G : ecG) (sa sz : Nat) (s0 : Nat → Int32) : Met l yX2_tapsUndoing (ecWs yX2_tapsUndoing cX2_tapsUndoing 6 (Option.some (FieldType.array FieldType.long))) (ecRm 1 1 6) (ecPc [.ref sa] G (fun H => H.size = sz ∧ ecA G sa (eI G 4 s0) H)) (ecEp (fun v H1 => ∃ q : Nat, v = some (.ref q) ∧ (ecA G q (eJ G 6 (tpF s0)) H1 ∧ sz ≤ q)) (fun x : Nat => sz ≤ x)) 1 6 (fun x : Nat => sz ≤ x) := by
  refine ec_met (by decide) (Nat.le_of_ble_eq_true rfl) ?_
  intro p e s m below meth c hC hr hlocks hname hOk hpre ls hl
  have hK := hOk.1
  obtain ⟨hsz, hs⟩ := hpre
  have hS : va_S (fun x : Nat => sz ≤ x) s.heap s.heap [] := va_S.rf
  have hAN : ∀ q, (fun x : Nat => sz ≤ x) q → ecN0 G ≤ q := fun q h => Nat.le_trans hOk.2.1 (by rw [hsz]; exact h)
  have hl : lv_has ls 6 [(0, .ref sa)] := hl
  have hlt := hs.lt
  refine lv_bipush (v := 6) hC.1 hC.2.1 dX2_tapsUndoing_0 (by decide) ?_
  refine ec_newJ hC hK hS q523 6 rfl (by omega) (Nat.le_of_ble_eq_true rfl) (Nat.le_of_ble_eq_true rfl) dX2_tapsUndoing_2 (fun q H hq0 ht hkp hS hz => ?_)
  have hs := hs.kp hkp
  have hne : sa ≠ q := fun z => Nat.ne_of_lt hlt (by rw [z, hq0])
  refine lv_astore_n (lv' := [(1, .ref q), (0, .ref sa)]) hC.1 hC.2.1 dX2_tapsUndoing_4 rfl hl (by decide) rfl (fun ls hl => ?_)
  refine lv_aload_n hC.1 hC.2.1 dX2_tapsUndoing_5 rfl (lv_at hl 0 rfl) ?_
  refine lv_iconst (v := 0) hC.1 hC.2.1 dX2_tapsUndoing_6 (by decide) ?_
  refine lv_aload_n hC.1 hC.2.1 dX2_tapsUndoing_7 rfl (lv_at hl 1 rfl) ?_
  refine lv_iconst (v := 0) hC.1 hC.2.1 dX2_tapsUndoing_8 (by decide) ?_
  refine ec_iald hC hK hs 0 rfl (by omega) (by omega) dX2_tapsUndoing_9 ?_
  refine lv_i2l hC.1 hC.2.1 dX2_tapsUndoing_10 rfl ?_
  refine ec_last hC hK hS ht (show sz ≤ q by rw [hq0, hsz]; exact Nat.le_refl _) 0 rfl (by omega) (by omega) dX2_tapsUndoing_11 (fun H locs h9 o9 z9 hS => ?_)
  have hs := hs.kept (o9 _ hne)
  have ht : ecA G q (eJ G 6 (vp_updL (fun _ => 0) 0 (Int32.toInt64 (s0 0)))) H := h9
  refine lv_iconst (v := 1) hC.1 hC.2.1 dX2_tapsUndoing_12 (by decide) ?_
  refine lv_istore_n (lv' := [(2, .int 1), (1, .ref q), (0, .ref sa)]) hC.1 hC.2.1 dX2_tapsUndoing_13 rfl hl (by decide) rfl (fun ls hl => ?_)
  refine lv_iload_n hC.1 hC.2.1 dX2_tapsUndoing_14 rfl (lv_at hl 0 rfl) ?_
  refine lv_bipush (v := 6) hC.1 hC.2.1 dX2_tapsUndoing_15 (by decide) ?_
  refine lv_icmp_ge (tgt := 74) hC.1 hC.2.1 dX2_tapsUndoing_17 (by decide) (fun c => absurd c (by decide)) (fun _ => ?_)
  refine lv_lconst (v := 0) hC.1 hC.2.1 dX2_tapsUndoing_20 (by decide) ?_
  refine lv_lstore_n (lv' := [(3, .long 0), (2, .int 1), (1, .ref q), (0, .ref sa)]) hC.1 hC.2.1 dX2_tapsUndoing_21 rfl hl (by decide) rfl (fun ls hl => ?_)
  refine lv_iconst (v := 1) hC.1 hC.2.1 dX2_tapsUndoing_22 (by decide) ?_
  refine lv_istore (lv' := [(5, .int 1), (3, .long 0), (2, .int 1), (1, .ref q), (0, .ref sa)]) hC.1 hC.2.1 dX2_tapsUndoing_23 hl (by decide) rfl (fun ls hl => ?_)
  refine lv_iload hC.1 hC.2.1 dX2_tapsUndoing_25 (lv_at hl 0 rfl) ?_
  refine lv_iconst (v := 4) hC.1 hC.2.1 dX2_tapsUndoing_27 (by decide) ?_
  refine lv_icmp_ge (tgt := 58) hC.1 hC.2.1 dX2_tapsUndoing_28 (by decide) (fun c => absurd c (by decide)) (fun _ => ?_)
  refine lv_iload hC.1 hC.2.1 dX2_tapsUndoing_31 (lv_at hl 0 rfl) ?_
  refine lv_iload_n hC.1 hC.2.1 dX2_tapsUndoing_33 rfl (lv_at hl 2 rfl) ?_
  refine lv_icmp_gt (tgt := 58) hC.1 hC.2.1 dX2_tapsUndoing_34 (by decide) (fun c => absurd c (by decide)) (fun _ => ?_)
  refine lv_lload_n hC.1 hC.2.1 dX2_tapsUndoing_37 rfl (lv_at hl 1 rfl) ?_
  refine lv_aload_n hC.1 hC.2.1 dX2_tapsUndoing_38 rfl (lv_at hl 4 rfl) ?_
  refine lv_iload hC.1 hC.2.1 dX2_tapsUndoing_39 (lv_at hl 0 rfl) ?_
  refine ec_iald hC hK hs 1 rfl (by omega) (by omega) dX2_tapsUndoing_41 ?_
  refine lv_i2l hC.1 hC.2.1 dX2_tapsUndoing_42 rfl ?_
  refine lv_aload_n hC.1 hC.2.1 dX2_tapsUndoing_43 rfl (lv_at hl 3 rfl) ?_
  refine lv_iload_n hC.1 hC.2.1 dX2_tapsUndoing_44 rfl (lv_at hl 2 rfl) ?_
  refine lv_iload hC.1 hC.2.1 dX2_tapsUndoing_45 (lv_at hl 0 rfl) ?_
  refine lv_isub hC.1 hC.2.1 dX2_tapsUndoing_47 ?_
  refine ec_topi (y := 0) (by decide) ?_
  refine ec_lald hC hK ht 0 rfl (by omega) (by omega) dX2_tapsUndoing_48 ?_
  refine ec_topl (y := (Int32.toInt64 (s0 0))) rfl ?_
  refine lv_lmul hC.1 hC.2.1 dX2_tapsUndoing_49 ?_
  refine lv_ladd hC.1 hC.2.1 dX2_tapsUndoing_50 ?_
  refine lv_lstore_n (lv' := [(3, .long (0 + ((Int32.toInt64 (s0 1)) * (Int32.toInt64 (s0 0))))), (5, .int 1), (2, .int 1), (1, .ref q), (0, .ref sa)]) hC.1 hC.2.1 dX2_tapsUndoing_51 rfl hl (by decide) rfl (fun ls hl => ?_)
  refine lv_iinc (v := 2) (lv' := [(5, .int 2), (3, .long (0 + ((Int32.toInt64 (s0 1)) * (Int32.toInt64 (s0 0))))), (2, .int 1), (1, .ref q), (0, .ref sa)]) hC.1 hC.2.1 dX2_tapsUndoing_52 hl (k := 1) rfl (by decide) (by decide) rfl (fun ls hl => ?_)
  refine lv_goto (tgt := 25) hC.1 hC.2.1 dX2_tapsUndoing_55 (by decide) ?_
  refine lv_iload hC.1 hC.2.1 dX2_tapsUndoing_25 (lv_at hl 0 rfl) ?_
  refine lv_iconst (v := 4) hC.1 hC.2.1 dX2_tapsUndoing_27 (by decide) ?_
  refine lv_icmp_ge (tgt := 58) hC.1 hC.2.1 dX2_tapsUndoing_28 (by decide) (fun c => absurd c (by decide)) (fun _ => ?_)
  refine lv_iload hC.1 hC.2.1 dX2_tapsUndoing_31 (lv_at hl 0 rfl) ?_
  refine lv_iload_n hC.1 hC.2.1 dX2_tapsUndoing_33 rfl (lv_at hl 2 rfl) ?_
  refine lv_icmp_gt (tgt := 58) hC.1 hC.2.1 dX2_tapsUndoing_34 (by decide) (fun _ => ?_) (fun c => absurd (by decide) c)
  refine lv_aload_n hC.1 hC.2.1 dX2_tapsUndoing_58 rfl (lv_at hl 3 rfl) ?_
  refine lv_iload_n hC.1 hC.2.1 dX2_tapsUndoing_59 rfl (lv_at hl 2 rfl) ?_
  refine lv_aload_n hC.1 hC.2.1 dX2_tapsUndoing_60 rfl (lv_at hl 4 rfl) ?_
  refine lv_iconst (v := 0) hC.1 hC.2.1 dX2_tapsUndoing_61 (by decide) ?_
  refine ec_iald hC hK hs 0 rfl (by omega) (by omega) dX2_tapsUndoing_62 ?_
  refine lv_ineg hC.1 hC.2.1 dX2_tapsUndoing_63 ?_
  refine lv_i2l hC.1 hC.2.1 dX2_tapsUndoing_64 rfl ?_
  refine lv_lload_n hC.1 hC.2.1 dX2_tapsUndoing_65 rfl (lv_at hl 1 rfl) ?_
  refine lv_lmul hC.1 hC.2.1 dX2_tapsUndoing_66 ?_
  refine ec_topl (y := (tp1 s0)) rfl ?_
  refine ec_last hC hK hS ht (show sz ≤ q by rw [hq0, hsz]; exact Nat.le_refl _) 1 rfl (by omega) (by omega) dX2_tapsUndoing_67 (fun H locs h9 o9 z9 hS => ?_)
  have hs := hs.kept (o9 _ hne)
  have ht : ecA G q (eJ G 6 (vp_updL (vp_updL (fun _ => 0) 0 (Int32.toInt64 (s0 0))) 1 (tp1 s0))) H := h9
  refine lv_iinc (v := 2) (lv' := [(2, .int 2), (5, .int 2), (3, .long (0 + ((Int32.toInt64 (s0 1)) * (Int32.toInt64 (s0 0))))), (1, .ref q), (0, .ref sa)]) hC.1 hC.2.1 dX2_tapsUndoing_68 hl (k := 2) rfl (by decide) (by decide) rfl (fun ls hl => ?_)
  refine lv_goto (tgt := 14) hC.1 hC.2.1 dX2_tapsUndoing_71 (by decide) ?_
  refine lv_iload_n hC.1 hC.2.1 dX2_tapsUndoing_14 rfl (lv_at hl 0 rfl) ?_
  refine lv_bipush (v := 6) hC.1 hC.2.1 dX2_tapsUndoing_15 (by decide) ?_
  refine lv_icmp_ge (tgt := 74) hC.1 hC.2.1 dX2_tapsUndoing_17 (by decide) (fun c => absurd c (by decide)) (fun _ => ?_)
  refine lv_lconst (v := 0) hC.1 hC.2.1 dX2_tapsUndoing_20 (by decide) ?_
  refine lv_lstore_n (lv' := [(3, .long 0), (2, .int 2), (5, .int 2), (1, .ref q), (0, .ref sa)]) hC.1 hC.2.1 dX2_tapsUndoing_21 rfl hl (by decide) rfl (fun ls hl => ?_)
  refine lv_iconst (v := 1) hC.1 hC.2.1 dX2_tapsUndoing_22 (by decide) ?_
  refine lv_istore (lv' := [(5, .int 1), (3, .long 0), (2, .int 2), (1, .ref q), (0, .ref sa)]) hC.1 hC.2.1 dX2_tapsUndoing_23 hl (by decide) rfl (fun ls hl => ?_)
  refine lv_iload hC.1 hC.2.1 dX2_tapsUndoing_25 (lv_at hl 0 rfl) ?_
  refine lv_iconst (v := 4) hC.1 hC.2.1 dX2_tapsUndoing_27 (by decide) ?_
  refine lv_icmp_ge (tgt := 58) hC.1 hC.2.1 dX2_tapsUndoing_28 (by decide) (fun c => absurd c (by decide)) (fun _ => ?_)
  refine lv_iload hC.1 hC.2.1 dX2_tapsUndoing_31 (lv_at hl 0 rfl) ?_
  refine lv_iload_n hC.1 hC.2.1 dX2_tapsUndoing_33 rfl (lv_at hl 2 rfl) ?_
  refine lv_icmp_gt (tgt := 58) hC.1 hC.2.1 dX2_tapsUndoing_34 (by decide) (fun c => absurd c (by decide)) (fun _ => ?_)
  refine lv_lload_n hC.1 hC.2.1 dX2_tapsUndoing_37 rfl (lv_at hl 1 rfl) ?_
  refine lv_aload_n hC.1 hC.2.1 dX2_tapsUndoing_38 rfl (lv_at hl 4 rfl) ?_
  refine lv_iload hC.1 hC.2.1 dX2_tapsUndoing_39 (lv_at hl 0 rfl) ?_
  refine ec_iald hC hK hs 1 rfl (by omega) (by omega) dX2_tapsUndoing_41 ?_
  refine lv_i2l hC.1 hC.2.1 dX2_tapsUndoing_42 rfl ?_
  refine lv_aload_n hC.1 hC.2.1 dX2_tapsUndoing_43 rfl (lv_at hl 3 rfl) ?_
  refine lv_iload_n hC.1 hC.2.1 dX2_tapsUndoing_44 rfl (lv_at hl 2 rfl) ?_
  refine lv_iload hC.1 hC.2.1 dX2_tapsUndoing_45 (lv_at hl 0 rfl) ?_
  refine lv_isub hC.1 hC.2.1 dX2_tapsUndoing_47 ?_
  refine ec_topi (y := 1) (by decide) ?_
  refine ec_lald hC hK ht 1 rfl (by omega) (by omega) dX2_tapsUndoing_48 ?_
  refine ec_topl (y := (tp1 s0)) rfl ?_
  refine lv_lmul hC.1 hC.2.1 dX2_tapsUndoing_49 ?_
  refine lv_ladd hC.1 hC.2.1 dX2_tapsUndoing_50 ?_
  refine lv_lstore_n (lv' := [(3, .long (0 + ((Int32.toInt64 (s0 1)) * (tp1 s0)))), (5, .int 1), (2, .int 2), (1, .ref q), (0, .ref sa)]) hC.1 hC.2.1 dX2_tapsUndoing_51 rfl hl (by decide) rfl (fun ls hl => ?_)
  refine lv_iinc (v := 2) (lv' := [(5, .int 2), (3, .long (0 + ((Int32.toInt64 (s0 1)) * (tp1 s0)))), (2, .int 2), (1, .ref q), (0, .ref sa)]) hC.1 hC.2.1 dX2_tapsUndoing_52 hl (k := 1) rfl (by decide) (by decide) rfl (fun ls hl => ?_)
  refine lv_goto (tgt := 25) hC.1 hC.2.1 dX2_tapsUndoing_55 (by decide) ?_
  refine lv_iload hC.1 hC.2.1 dX2_tapsUndoing_25 (lv_at hl 0 rfl) ?_
  refine lv_iconst (v := 4) hC.1 hC.2.1 dX2_tapsUndoing_27 (by decide) ?_
  refine lv_icmp_ge (tgt := 58) hC.1 hC.2.1 dX2_tapsUndoing_28 (by decide) (fun c => absurd c (by decide)) (fun _ => ?_)
  refine lv_iload hC.1 hC.2.1 dX2_tapsUndoing_31 (lv_at hl 0 rfl) ?_
  refine lv_iload_n hC.1 hC.2.1 dX2_tapsUndoing_33 rfl (lv_at hl 2 rfl) ?_
  refine lv_icmp_gt (tgt := 58) hC.1 hC.2.1 dX2_tapsUndoing_34 (by decide) (fun c => absurd c (by decide)) (fun _ => ?_)
  refine lv_lload_n hC.1 hC.2.1 dX2_tapsUndoing_37 rfl (lv_at hl 1 rfl) ?_
  refine lv_aload_n hC.1 hC.2.1 dX2_tapsUndoing_38 rfl (lv_at hl 4 rfl) ?_
  refine lv_iload hC.1 hC.2.1 dX2_tapsUndoing_39 (lv_at hl 0 rfl) ?_
  refine ec_iald hC hK hs 2 rfl (by omega) (by omega) dX2_tapsUndoing_41 ?_
  refine lv_i2l hC.1 hC.2.1 dX2_tapsUndoing_42 rfl ?_
  refine lv_aload_n hC.1 hC.2.1 dX2_tapsUndoing_43 rfl (lv_at hl 3 rfl) ?_
  refine lv_iload_n hC.1 hC.2.1 dX2_tapsUndoing_44 rfl (lv_at hl 2 rfl) ?_
  refine lv_iload hC.1 hC.2.1 dX2_tapsUndoing_45 (lv_at hl 0 rfl) ?_
  refine lv_isub hC.1 hC.2.1 dX2_tapsUndoing_47 ?_
  refine ec_topi (y := 0) (by decide) ?_
  refine ec_lald hC hK ht 0 rfl (by omega) (by omega) dX2_tapsUndoing_48 ?_
  refine ec_topl (y := (Int32.toInt64 (s0 0))) rfl ?_
  refine lv_lmul hC.1 hC.2.1 dX2_tapsUndoing_49 ?_
  refine lv_ladd hC.1 hC.2.1 dX2_tapsUndoing_50 ?_
  refine lv_lstore_n (lv' := [(3, .long ((0 + ((Int32.toInt64 (s0 1)) * (tp1 s0))) + ((Int32.toInt64 (s0 2)) * (Int32.toInt64 (s0 0))))), (5, .int 2), (2, .int 2), (1, .ref q), (0, .ref sa)]) hC.1 hC.2.1 dX2_tapsUndoing_51 rfl hl (by decide) rfl (fun ls hl => ?_)
  refine lv_iinc (v := 3) (lv' := [(5, .int 3), (3, .long ((0 + ((Int32.toInt64 (s0 1)) * (tp1 s0))) + ((Int32.toInt64 (s0 2)) * (Int32.toInt64 (s0 0))))), (2, .int 2), (1, .ref q), (0, .ref sa)]) hC.1 hC.2.1 dX2_tapsUndoing_52 hl (k := 1) rfl (by decide) (by decide) rfl (fun ls hl => ?_)
  refine lv_goto (tgt := 25) hC.1 hC.2.1 dX2_tapsUndoing_55 (by decide) ?_
  refine lv_iload hC.1 hC.2.1 dX2_tapsUndoing_25 (lv_at hl 0 rfl) ?_
  refine lv_iconst (v := 4) hC.1 hC.2.1 dX2_tapsUndoing_27 (by decide) ?_
  refine lv_icmp_ge (tgt := 58) hC.1 hC.2.1 dX2_tapsUndoing_28 (by decide) (fun c => absurd c (by decide)) (fun _ => ?_)
  refine lv_iload hC.1 hC.2.1 dX2_tapsUndoing_31 (lv_at hl 0 rfl) ?_
  refine lv_iload_n hC.1 hC.2.1 dX2_tapsUndoing_33 rfl (lv_at hl 2 rfl) ?_
  refine lv_icmp_gt (tgt := 58) hC.1 hC.2.1 dX2_tapsUndoing_34 (by decide) (fun _ => ?_) (fun c => absurd (by decide) c)
  refine lv_aload_n hC.1 hC.2.1 dX2_tapsUndoing_58 rfl (lv_at hl 3 rfl) ?_
  refine lv_iload_n hC.1 hC.2.1 dX2_tapsUndoing_59 rfl (lv_at hl 2 rfl) ?_
  refine lv_aload_n hC.1 hC.2.1 dX2_tapsUndoing_60 rfl (lv_at hl 4 rfl) ?_
  refine lv_iconst (v := 0) hC.1 hC.2.1 dX2_tapsUndoing_61 (by decide) ?_
  refine ec_iald hC hK hs 0 rfl (by omega) (by omega) dX2_tapsUndoing_62 ?_
  refine lv_ineg hC.1 hC.2.1 dX2_tapsUndoing_63 ?_
  refine lv_i2l hC.1 hC.2.1 dX2_tapsUndoing_64 rfl ?_
  refine lv_lload_n hC.1 hC.2.1 dX2_tapsUndoing_65 rfl (lv_at hl 1 rfl) ?_
  refine lv_lmul hC.1 hC.2.1 dX2_tapsUndoing_66 ?_
  refine ec_topl (y := (tp2 s0)) rfl ?_
  refine ec_last hC hK hS ht (show sz ≤ q by rw [hq0, hsz]; exact Nat.le_refl _) 2 rfl (by omega) (by omega) dX2_tapsUndoing_67 (fun H locs h9 o9 z9 hS => ?_)
  have hs := hs.kept (o9 _ hne)
  have ht : ecA G q (eJ G 6 (vp_updL (vp_updL (vp_updL (fun _ => 0) 0 (Int32.toInt64 (s0 0))) 1 (tp1 s0)) 2 (tp2 s0))) H := h9
  refine lv_iinc (v := 3) (lv' := [(2, .int 3), (5, .int 3), (3, .long ((0 + ((Int32.toInt64 (s0 1)) * (tp1 s0))) + ((Int32.toInt64 (s0 2)) * (Int32.toInt64 (s0 0))))), (1, .ref q), (0, .ref sa)]) hC.1 hC.2.1 dX2_tapsUndoing_68 hl (k := 2) rfl (by decide) (by decide) rfl (fun ls hl => ?_)
  refine lv_goto (tgt := 14) hC.1 hC.2.1 dX2_tapsUndoing_71 (by decide) ?_
  refine lv_iload_n hC.1 hC.2.1 dX2_tapsUndoing_14 rfl (lv_at hl 0 rfl) ?_
  refine lv_bipush (v := 6) hC.1 hC.2.1 dX2_tapsUndoing_15 (by decide) ?_
  refine lv_icmp_ge (tgt := 74) hC.1 hC.2.1 dX2_tapsUndoing_17 (by decide) (fun c => absurd c (by decide)) (fun _ => ?_)
  refine lv_lconst (v := 0) hC.1 hC.2.1 dX2_tapsUndoing_20 (by decide) ?_
  refine lv_lstore_n (lv' := [(3, .long 0), (2, .int 3), (5, .int 3), (1, .ref q), (0, .ref sa)]) hC.1 hC.2.1 dX2_tapsUndoing_21 rfl hl (by decide) rfl (fun ls hl => ?_)
  refine lv_iconst (v := 1) hC.1 hC.2.1 dX2_tapsUndoing_22 (by decide) ?_
  refine lv_istore (lv' := [(5, .int 1), (3, .long 0), (2, .int 3), (1, .ref q), (0, .ref sa)]) hC.1 hC.2.1 dX2_tapsUndoing_23 hl (by decide) rfl (fun ls hl => ?_)
  refine lv_iload hC.1 hC.2.1 dX2_tapsUndoing_25 (lv_at hl 0 rfl) ?_
  refine lv_iconst (v := 4) hC.1 hC.2.1 dX2_tapsUndoing_27 (by decide) ?_
  refine lv_icmp_ge (tgt := 58) hC.1 hC.2.1 dX2_tapsUndoing_28 (by decide) (fun c => absurd c (by decide)) (fun _ => ?_)
  refine lv_iload hC.1 hC.2.1 dX2_tapsUndoing_31 (lv_at hl 0 rfl) ?_
  refine lv_iload_n hC.1 hC.2.1 dX2_tapsUndoing_33 rfl (lv_at hl 2 rfl) ?_
  refine lv_icmp_gt (tgt := 58) hC.1 hC.2.1 dX2_tapsUndoing_34 (by decide) (fun c => absurd c (by decide)) (fun _ => ?_)
  refine lv_lload_n hC.1 hC.2.1 dX2_tapsUndoing_37 rfl (lv_at hl 1 rfl) ?_
  refine lv_aload_n hC.1 hC.2.1 dX2_tapsUndoing_38 rfl (lv_at hl 4 rfl) ?_
  refine lv_iload hC.1 hC.2.1 dX2_tapsUndoing_39 (lv_at hl 0 rfl) ?_
  refine ec_iald hC hK hs 1 rfl (by omega) (by omega) dX2_tapsUndoing_41 ?_
  refine lv_i2l hC.1 hC.2.1 dX2_tapsUndoing_42 rfl ?_
  refine lv_aload_n hC.1 hC.2.1 dX2_tapsUndoing_43 rfl (lv_at hl 3 rfl) ?_
  refine lv_iload_n hC.1 hC.2.1 dX2_tapsUndoing_44 rfl (lv_at hl 2 rfl) ?_
  refine lv_iload hC.1 hC.2.1 dX2_tapsUndoing_45 (lv_at hl 0 rfl) ?_
  refine lv_isub hC.1 hC.2.1 dX2_tapsUndoing_47 ?_
  refine ec_topi (y := 2) (by decide) ?_
  refine ec_lald hC hK ht 2 rfl (by omega) (by omega) dX2_tapsUndoing_48 ?_
  refine ec_topl (y := (tp2 s0)) rfl ?_
  refine lv_lmul hC.1 hC.2.1 dX2_tapsUndoing_49 ?_
  refine lv_ladd hC.1 hC.2.1 dX2_tapsUndoing_50 ?_
  refine lv_lstore_n (lv' := [(3, .long (0 + ((Int32.toInt64 (s0 1)) * (tp2 s0)))), (5, .int 1), (2, .int 3), (1, .ref q), (0, .ref sa)]) hC.1 hC.2.1 dX2_tapsUndoing_51 rfl hl (by decide) rfl (fun ls hl => ?_)
  refine lv_iinc (v := 2) (lv' := [(5, .int 2), (3, .long (0 + ((Int32.toInt64 (s0 1)) * (tp2 s0)))), (2, .int 3), (1, .ref q), (0, .ref sa)]) hC.1 hC.2.1 dX2_tapsUndoing_52 hl (k := 1) rfl (by decide) (by decide) rfl (fun ls hl => ?_)
  refine lv_goto (tgt := 25) hC.1 hC.2.1 dX2_tapsUndoing_55 (by decide) ?_
  refine lv_iload hC.1 hC.2.1 dX2_tapsUndoing_25 (lv_at hl 0 rfl) ?_
  refine lv_iconst (v := 4) hC.1 hC.2.1 dX2_tapsUndoing_27 (by decide) ?_
  refine lv_icmp_ge (tgt := 58) hC.1 hC.2.1 dX2_tapsUndoing_28 (by decide) (fun c => absurd c (by decide)) (fun _ => ?_)
  refine lv_iload hC.1 hC.2.1 dX2_tapsUndoing_31 (lv_at hl 0 rfl) ?_
  refine lv_iload_n hC.1 hC.2.1 dX2_tapsUndoing_33 rfl (lv_at hl 2 rfl) ?_
  refine lv_icmp_gt (tgt := 58) hC.1 hC.2.1 dX2_tapsUndoing_34 (by decide) (fun c => absurd c (by decide)) (fun _ => ?_)
  refine lv_lload_n hC.1 hC.2.1 dX2_tapsUndoing_37 rfl (lv_at hl 1 rfl) ?_
  refine lv_aload_n hC.1 hC.2.1 dX2_tapsUndoing_38 rfl (lv_at hl 4 rfl) ?_
  refine lv_iload hC.1 hC.2.1 dX2_tapsUndoing_39 (lv_at hl 0 rfl) ?_
  refine ec_iald hC hK hs 2 rfl (by omega) (by omega) dX2_tapsUndoing_41 ?_
  refine lv_i2l hC.1 hC.2.1 dX2_tapsUndoing_42 rfl ?_
  refine lv_aload_n hC.1 hC.2.1 dX2_tapsUndoing_43 rfl (lv_at hl 3 rfl) ?_
  refine lv_iload_n hC.1 hC.2.1 dX2_tapsUndoing_44 rfl (lv_at hl 2 rfl) ?_
  refine lv_iload hC.1 hC.2.1 dX2_tapsUndoing_45 (lv_at hl 0 rfl) ?_
  refine lv_isub hC.1 hC.2.1 dX2_tapsUndoing_47 ?_
  refine ec_topi (y := 1) (by decide) ?_
  refine ec_lald hC hK ht 1 rfl (by omega) (by omega) dX2_tapsUndoing_48 ?_
  refine ec_topl (y := (tp1 s0)) rfl ?_
  refine lv_lmul hC.1 hC.2.1 dX2_tapsUndoing_49 ?_
  refine lv_ladd hC.1 hC.2.1 dX2_tapsUndoing_50 ?_
  refine lv_lstore_n (lv' := [(3, .long ((0 + ((Int32.toInt64 (s0 1)) * (tp2 s0))) + ((Int32.toInt64 (s0 2)) * (tp1 s0)))), (5, .int 2), (2, .int 3), (1, .ref q), (0, .ref sa)]) hC.1 hC.2.1 dX2_tapsUndoing_51 rfl hl (by decide) rfl (fun ls hl => ?_)
  refine lv_iinc (v := 3) (lv' := [(5, .int 3), (3, .long ((0 + ((Int32.toInt64 (s0 1)) * (tp2 s0))) + ((Int32.toInt64 (s0 2)) * (tp1 s0)))), (2, .int 3), (1, .ref q), (0, .ref sa)]) hC.1 hC.2.1 dX2_tapsUndoing_52 hl (k := 1) rfl (by decide) (by decide) rfl (fun ls hl => ?_)
  refine lv_goto (tgt := 25) hC.1 hC.2.1 dX2_tapsUndoing_55 (by decide) ?_
  refine lv_iload hC.1 hC.2.1 dX2_tapsUndoing_25 (lv_at hl 0 rfl) ?_
  refine lv_iconst (v := 4) hC.1 hC.2.1 dX2_tapsUndoing_27 (by decide) ?_
  refine lv_icmp_ge (tgt := 58) hC.1 hC.2.1 dX2_tapsUndoing_28 (by decide) (fun c => absurd c (by decide)) (fun _ => ?_)
  refine lv_iload hC.1 hC.2.1 dX2_tapsUndoing_31 (lv_at hl 0 rfl) ?_
  refine lv_iload_n hC.1 hC.2.1 dX2_tapsUndoing_33 rfl (lv_at hl 2 rfl) ?_
  refine lv_icmp_gt (tgt := 58) hC.1 hC.2.1 dX2_tapsUndoing_34 (by decide) (fun c => absurd c (by decide)) (fun _ => ?_)
  refine lv_lload_n hC.1 hC.2.1 dX2_tapsUndoing_37 rfl (lv_at hl 1 rfl) ?_
  refine lv_aload_n hC.1 hC.2.1 dX2_tapsUndoing_38 rfl (lv_at hl 4 rfl) ?_
  refine lv_iload hC.1 hC.2.1 dX2_tapsUndoing_39 (lv_at hl 0 rfl) ?_
  refine ec_iald hC hK hs 3 rfl (by omega) (by omega) dX2_tapsUndoing_41 ?_
  refine lv_i2l hC.1 hC.2.1 dX2_tapsUndoing_42 rfl ?_
  refine lv_aload_n hC.1 hC.2.1 dX2_tapsUndoing_43 rfl (lv_at hl 3 rfl) ?_
  refine lv_iload_n hC.1 hC.2.1 dX2_tapsUndoing_44 rfl (lv_at hl 2 rfl) ?_
  refine lv_iload hC.1 hC.2.1 dX2_tapsUndoing_45 (lv_at hl 0 rfl) ?_
  refine lv_isub hC.1 hC.2.1 dX2_tapsUndoing_47 ?_
  refine ec_topi (y := 0) (by decide) ?_
  refine ec_lald hC hK ht 0 rfl (by omega) (by omega) dX2_tapsUndoing_48 ?_
  refine ec_topl (y := (Int32.toInt64 (s0 0))) rfl ?_
  refine lv_lmul hC.1 hC.2.1 dX2_tapsUndoing_49 ?_
  refine lv_ladd hC.1 hC.2.1 dX2_tapsUndoing_50 ?_
  refine lv_lstore_n (lv' := [(3, .long (((0 + ((Int32.toInt64 (s0 1)) * (tp2 s0))) + ((Int32.toInt64 (s0 2)) * (tp1 s0))) + ((Int32.toInt64 (s0 3)) * (Int32.toInt64 (s0 0))))), (5, .int 3), (2, .int 3), (1, .ref q), (0, .ref sa)]) hC.1 hC.2.1 dX2_tapsUndoing_51 rfl hl (by decide) rfl (fun ls hl => ?_)
  refine lv_iinc (v := 4) (lv' := [(5, .int 4), (3, .long (((0 + ((Int32.toInt64 (s0 1)) * (tp2 s0))) + ((Int32.toInt64 (s0 2)) * (tp1 s0))) + ((Int32.toInt64 (s0 3)) * (Int32.toInt64 (s0 0))))), (2, .int 3), (1, .ref q), (0, .ref sa)]) hC.1 hC.2.1 dX2_tapsUndoing_52 hl (k := 1) rfl (by decide) (by decide) rfl (fun ls hl => ?_)
  refine lv_goto (tgt := 25) hC.1 hC.2.1 dX2_tapsUndoing_55 (by decide) ?_
  refine lv_iload hC.1 hC.2.1 dX2_tapsUndoing_25 (lv_at hl 0 rfl) ?_
  refine lv_iconst (v := 4) hC.1 hC.2.1 dX2_tapsUndoing_27 (by decide) ?_
  refine lv_icmp_ge (tgt := 58) hC.1 hC.2.1 dX2_tapsUndoing_28 (by decide) (fun _ => ?_) (fun c => absurd (by decide) c)
  refine lv_aload_n hC.1 hC.2.1 dX2_tapsUndoing_58 rfl (lv_at hl 3 rfl) ?_
  refine lv_iload_n hC.1 hC.2.1 dX2_tapsUndoing_59 rfl (lv_at hl 2 rfl) ?_
  refine lv_aload_n hC.1 hC.2.1 dX2_tapsUndoing_60 rfl (lv_at hl 4 rfl) ?_
  refine lv_iconst (v := 0) hC.1 hC.2.1 dX2_tapsUndoing_61 (by decide) ?_
  refine ec_iald hC hK hs 0 rfl (by omega) (by omega) dX2_tapsUndoing_62 ?_
  refine lv_ineg hC.1 hC.2.1 dX2_tapsUndoing_63 ?_
  refine lv_i2l hC.1 hC.2.1 dX2_tapsUndoing_64 rfl ?_
  refine lv_lload_n hC.1 hC.2.1 dX2_tapsUndoing_65 rfl (lv_at hl 1 rfl) ?_
  refine lv_lmul hC.1 hC.2.1 dX2_tapsUndoing_66 ?_
  refine ec_topl (y := (tp3 s0)) rfl ?_
  refine ec_last hC hK hS ht (show sz ≤ q by rw [hq0, hsz]; exact Nat.le_refl _) 3 rfl (by omega) (by omega) dX2_tapsUndoing_67 (fun H locs h9 o9 z9 hS => ?_)
  have hs := hs.kept (o9 _ hne)
  have ht : ecA G q (eJ G 6 (vp_updL (vp_updL (vp_updL (vp_updL (fun _ => 0) 0 (Int32.toInt64 (s0 0))) 1 (tp1 s0)) 2 (tp2 s0)) 3 (tp3 s0))) H := h9
  refine lv_iinc (v := 4) (lv' := [(2, .int 4), (5, .int 4), (3, .long (((0 + ((Int32.toInt64 (s0 1)) * (tp2 s0))) + ((Int32.toInt64 (s0 2)) * (tp1 s0))) + ((Int32.toInt64 (s0 3)) * (Int32.toInt64 (s0 0))))), (1, .ref q), (0, .ref sa)]) hC.1 hC.2.1 dX2_tapsUndoing_68 hl (k := 2) rfl (by decide) (by decide) rfl (fun ls hl => ?_)
  refine lv_goto (tgt := 14) hC.1 hC.2.1 dX2_tapsUndoing_71 (by decide) ?_
  refine lv_iload_n hC.1 hC.2.1 dX2_tapsUndoing_14 rfl (lv_at hl 0 rfl) ?_
  refine lv_bipush (v := 6) hC.1 hC.2.1 dX2_tapsUndoing_15 (by decide) ?_
  refine lv_icmp_ge (tgt := 74) hC.1 hC.2.1 dX2_tapsUndoing_17 (by decide) (fun c => absurd c (by decide)) (fun _ => ?_)
  refine lv_lconst (v := 0) hC.1 hC.2.1 dX2_tapsUndoing_20 (by decide) ?_
  refine lv_lstore_n (lv' := [(3, .long 0), (2, .int 4), (5, .int 4), (1, .ref q), (0, .ref sa)]) hC.1 hC.2.1 dX2_tapsUndoing_21 rfl hl (by decide) rfl (fun ls hl => ?_)
  refine lv_iconst (v := 1) hC.1 hC.2.1 dX2_tapsUndoing_22 (by decide) ?_
  refine lv_istore (lv' := [(5, .int 1), (3, .long 0), (2, .int 4), (1, .ref q), (0, .ref sa)]) hC.1 hC.2.1 dX2_tapsUndoing_23 hl (by decide) rfl (fun ls hl => ?_)
  refine lv_iload hC.1 hC.2.1 dX2_tapsUndoing_25 (lv_at hl 0 rfl) ?_
  refine lv_iconst (v := 4) hC.1 hC.2.1 dX2_tapsUndoing_27 (by decide) ?_
  refine lv_icmp_ge (tgt := 58) hC.1 hC.2.1 dX2_tapsUndoing_28 (by decide) (fun c => absurd c (by decide)) (fun _ => ?_)
  refine lv_iload hC.1 hC.2.1 dX2_tapsUndoing_31 (lv_at hl 0 rfl) ?_
  refine lv_iload_n hC.1 hC.2.1 dX2_tapsUndoing_33 rfl (lv_at hl 2 rfl) ?_
  refine lv_icmp_gt (tgt := 58) hC.1 hC.2.1 dX2_tapsUndoing_34 (by decide) (fun c => absurd c (by decide)) (fun _ => ?_)
  refine lv_lload_n hC.1 hC.2.1 dX2_tapsUndoing_37 rfl (lv_at hl 1 rfl) ?_
  refine lv_aload_n hC.1 hC.2.1 dX2_tapsUndoing_38 rfl (lv_at hl 4 rfl) ?_
  refine lv_iload hC.1 hC.2.1 dX2_tapsUndoing_39 (lv_at hl 0 rfl) ?_
  refine ec_iald hC hK hs 1 rfl (by omega) (by omega) dX2_tapsUndoing_41 ?_
  refine lv_i2l hC.1 hC.2.1 dX2_tapsUndoing_42 rfl ?_
  refine lv_aload_n hC.1 hC.2.1 dX2_tapsUndoing_43 rfl (lv_at hl 3 rfl) ?_
  refine lv_iload_n hC.1 hC.2.1 dX2_tapsUndoing_44 rfl (lv_at hl 2 rfl) ?_
  refine lv_iload hC.1 hC.2.1 dX2_tapsUndoing_45 (lv_at hl 0 rfl) ?_
  refine lv_isub hC.1 hC.2.1 dX2_tapsUndoing_47 ?_
  refine ec_topi (y := 3) (by decide) ?_
  refine ec_lald hC hK ht 3 rfl (by omega) (by omega) dX2_tapsUndoing_48 ?_
  refine ec_topl (y := (tp3 s0)) rfl ?_
  refine lv_lmul hC.1 hC.2.1 dX2_tapsUndoing_49 ?_
  refine lv_ladd hC.1 hC.2.1 dX2_tapsUndoing_50 ?_
  refine lv_lstore_n (lv' := [(3, .long (0 + ((Int32.toInt64 (s0 1)) * (tp3 s0)))), (5, .int 1), (2, .int 4), (1, .ref q), (0, .ref sa)]) hC.1 hC.2.1 dX2_tapsUndoing_51 rfl hl (by decide) rfl (fun ls hl => ?_)
  refine lv_iinc (v := 2) (lv' := [(5, .int 2), (3, .long (0 + ((Int32.toInt64 (s0 1)) * (tp3 s0)))), (2, .int 4), (1, .ref q), (0, .ref sa)]) hC.1 hC.2.1 dX2_tapsUndoing_52 hl (k := 1) rfl (by decide) (by decide) rfl (fun ls hl => ?_)
  refine lv_goto (tgt := 25) hC.1 hC.2.1 dX2_tapsUndoing_55 (by decide) ?_
  refine lv_iload hC.1 hC.2.1 dX2_tapsUndoing_25 (lv_at hl 0 rfl) ?_
  refine lv_iconst (v := 4) hC.1 hC.2.1 dX2_tapsUndoing_27 (by decide) ?_
  refine lv_icmp_ge (tgt := 58) hC.1 hC.2.1 dX2_tapsUndoing_28 (by decide) (fun c => absurd c (by decide)) (fun _ => ?_)
  refine lv_iload hC.1 hC.2.1 dX2_tapsUndoing_31 (lv_at hl 0 rfl) ?_
  refine lv_iload_n hC.1 hC.2.1 dX2_tapsUndoing_33 rfl (lv_at hl 2 rfl) ?_
  refine lv_icmp_gt (tgt := 58) hC.1 hC.2.1 dX2_tapsUndoing_34 (by decide) (fun c => absurd c (by decide)) (fun _ => ?_)
  refine lv_lload_n hC.1 hC.2.1 dX2_tapsUndoing_37 rfl (lv_at hl 1 rfl) ?_
  refine lv_aload_n hC.1 hC.2.1 dX2_tapsUndoing_38 rfl (lv_at hl 4 rfl) ?_
  refine lv_iload hC.1 hC.2.1 dX2_tapsUndoing_39 (lv_at hl 0 rfl) ?_
  refine ec_iald hC hK hs 2 rfl (by omega) (by omega) dX2_tapsUndoing_41 ?_
  refine lv_i2l hC.1 hC.2.1 dX2_tapsUndoing_42 rfl ?_
  refine lv_aload_n hC.1 hC.2.1 dX2_tapsUndoing_43 rfl (lv_at hl 3 rfl) ?_
  refine lv_iload_n hC.1 hC.2.1 dX2_tapsUndoing_44 rfl (lv_at hl 2 rfl) ?_
  refine lv_iload hC.1 hC.2.1 dX2_tapsUndoing_45 (lv_at hl 0 rfl) ?_
  refine lv_isub hC.1 hC.2.1 dX2_tapsUndoing_47 ?_
  refine ec_topi (y := 2) (by decide) ?_
  refine ec_lald hC hK ht 2 rfl (by omega) (by omega) dX2_tapsUndoing_48 ?_
  refine ec_topl (y := (tp2 s0)) rfl ?_
  refine lv_lmul hC.1 hC.2.1 dX2_tapsUndoing_49 ?_
  refine lv_ladd hC.1 hC.2.1 dX2_tapsUndoing_50 ?_
  refine lv_lstore_n (lv' := [(3, .long ((0 + ((Int32.toInt64 (s0 1)) * (tp3 s0))) + ((Int32.toInt64 (s0 2)) * (tp2 s0)))), (5, .int 2), (2, .int 4), (1, .ref q), (0, .ref sa)]) hC.1 hC.2.1 dX2_tapsUndoing_51 rfl hl (by decide) rfl (fun ls hl => ?_)
  refine lv_iinc (v := 3) (lv' := [(5, .int 3), (3, .long ((0 + ((Int32.toInt64 (s0 1)) * (tp3 s0))) + ((Int32.toInt64 (s0 2)) * (tp2 s0)))), (2, .int 4), (1, .ref q), (0, .ref sa)]) hC.1 hC.2.1 dX2_tapsUndoing_52 hl (k := 1) rfl (by decide) (by decide) rfl (fun ls hl => ?_)
  refine lv_goto (tgt := 25) hC.1 hC.2.1 dX2_tapsUndoing_55 (by decide) ?_
  refine lv_iload hC.1 hC.2.1 dX2_tapsUndoing_25 (lv_at hl 0 rfl) ?_
  refine lv_iconst (v := 4) hC.1 hC.2.1 dX2_tapsUndoing_27 (by decide) ?_
  refine lv_icmp_ge (tgt := 58) hC.1 hC.2.1 dX2_tapsUndoing_28 (by decide) (fun c => absurd c (by decide)) (fun _ => ?_)
  refine lv_iload hC.1 hC.2.1 dX2_tapsUndoing_31 (lv_at hl 0 rfl) ?_
  refine lv_iload_n hC.1 hC.2.1 dX2_tapsUndoing_33 rfl (lv_at hl 2 rfl) ?_
  refine lv_icmp_gt (tgt := 58) hC.1 hC.2.1 dX2_tapsUndoing_34 (by decide) (fun c => absurd c (by decide)) (fun _ => ?_)
  refine lv_lload_n hC.1 hC.2.1 dX2_tapsUndoing_37 rfl (lv_at hl 1 rfl) ?_
  refine lv_aload_n hC.1 hC.2.1 dX2_tapsUndoing_38 rfl (lv_at hl 4 rfl) ?_
  refine lv_iload hC.1 hC.2.1 dX2_tapsUndoing_39 (lv_at hl 0 rfl) ?_
  refine ec_iald hC hK hs 3 rfl (by omega) (by omega) dX2_tapsUndoing_41 ?_
  refine lv_i2l hC.1 hC.2.1 dX2_tapsUndoing_42 rfl ?_
  refine lv_aload_n hC.1 hC.2.1 dX2_tapsUndoing_43 rfl (lv_at hl 3 rfl) ?_
  refine lv_iload_n hC.1 hC.2.1 dX2_tapsUndoing_44 rfl (lv_at hl 2 rfl) ?_
  refine lv_iload hC.1 hC.2.1 dX2_tapsUndoing_45 (lv_at hl 0 rfl) ?_
  refine lv_isub hC.1 hC.2.1 dX2_tapsUndoing_47 ?_
  refine ec_topi (y := 1) (by decide) ?_
  refine ec_lald hC hK ht 1 rfl (by omega) (by omega) dX2_tapsUndoing_48 ?_
  refine ec_topl (y := (tp1 s0)) rfl ?_
  refine lv_lmul hC.1 hC.2.1 dX2_tapsUndoing_49 ?_
  refine lv_ladd hC.1 hC.2.1 dX2_tapsUndoing_50 ?_
  refine lv_lstore_n (lv' := [(3, .long (((0 + ((Int32.toInt64 (s0 1)) * (tp3 s0))) + ((Int32.toInt64 (s0 2)) * (tp2 s0))) + ((Int32.toInt64 (s0 3)) * (tp1 s0)))), (5, .int 3), (2, .int 4), (1, .ref q), (0, .ref sa)]) hC.1 hC.2.1 dX2_tapsUndoing_51 rfl hl (by decide) rfl (fun ls hl => ?_)
  refine lv_iinc (v := 4) (lv' := [(5, .int 4), (3, .long (((0 + ((Int32.toInt64 (s0 1)) * (tp3 s0))) + ((Int32.toInt64 (s0 2)) * (tp2 s0))) + ((Int32.toInt64 (s0 3)) * (tp1 s0)))), (2, .int 4), (1, .ref q), (0, .ref sa)]) hC.1 hC.2.1 dX2_tapsUndoing_52 hl (k := 1) rfl (by decide) (by decide) rfl (fun ls hl => ?_)
  refine lv_goto (tgt := 25) hC.1 hC.2.1 dX2_tapsUndoing_55 (by decide) ?_
  refine lv_iload hC.1 hC.2.1 dX2_tapsUndoing_25 (lv_at hl 0 rfl) ?_
  refine lv_iconst (v := 4) hC.1 hC.2.1 dX2_tapsUndoing_27 (by decide) ?_
  refine lv_icmp_ge (tgt := 58) hC.1 hC.2.1 dX2_tapsUndoing_28 (by decide) (fun _ => ?_) (fun c => absurd (by decide) c)
  refine lv_aload_n hC.1 hC.2.1 dX2_tapsUndoing_58 rfl (lv_at hl 3 rfl) ?_
  refine lv_iload_n hC.1 hC.2.1 dX2_tapsUndoing_59 rfl (lv_at hl 2 rfl) ?_
  refine lv_aload_n hC.1 hC.2.1 dX2_tapsUndoing_60 rfl (lv_at hl 4 rfl) ?_
  refine lv_iconst (v := 0) hC.1 hC.2.1 dX2_tapsUndoing_61 (by decide) ?_
  refine ec_iald hC hK hs 0 rfl (by omega) (by omega) dX2_tapsUndoing_62 ?_
  refine lv_ineg hC.1 hC.2.1 dX2_tapsUndoing_63 ?_
  refine lv_i2l hC.1 hC.2.1 dX2_tapsUndoing_64 rfl ?_
  refine lv_lload_n hC.1 hC.2.1 dX2_tapsUndoing_65 rfl (lv_at hl 1 rfl) ?_
  refine lv_lmul hC.1 hC.2.1 dX2_tapsUndoing_66 ?_
  refine ec_topl (y := (tp4 s0)) rfl ?_
  refine ec_last hC hK hS ht (show sz ≤ q by rw [hq0, hsz]; exact Nat.le_refl _) 4 rfl (by omega) (by omega) dX2_tapsUndoing_67 (fun H locs h9 o9 z9 hS => ?_)
  have hs := hs.kept (o9 _ hne)
  have ht : ecA G q (eJ G 6 (vp_updL (vp_updL (vp_updL (vp_updL (vp_updL (fun _ => 0) 0 (Int32.toInt64 (s0 0))) 1 (tp1 s0)) 2 (tp2 s0)) 3 (tp3 s0)) 4 (tp4 s0))) H := h9
  refine lv_iinc (v := 5) (lv' := [(2, .int 5), (5, .int 4), (3, .long (((0 + ((Int32.toInt64 (s0 1)) * (tp3 s0))) + ((Int32.toInt64 (s0 2)) * (tp2 s0))) + ((Int32.toInt64 (s0 3)) * (tp1 s0)))), (1, .ref q), (0, .ref sa)]) hC.1 hC.2.1 dX2_tapsUndoing_68 hl (k := 2) rfl (by decide) (by decide) rfl (fun ls hl => ?_)
  refine lv_goto (tgt := 14) hC.1 hC.2.1 dX2_tapsUndoing_71 (by decide) ?_
  refine lv_iload_n hC.1 hC.2.1 dX2_tapsUndoing_14 rfl (lv_at hl 0 rfl) ?_
  refine lv_bipush (v := 6) hC.1 hC.2.1 dX2_tapsUndoing_15 (by decide) ?_
  refine lv_icmp_ge (tgt := 74) hC.1 hC.2.1 dX2_tapsUndoing_17 (by decide) (fun c => absurd c (by decide)) (fun _ => ?_)
  refine lv_lconst (v := 0) hC.1 hC.2.1 dX2_tapsUndoing_20 (by decide) ?_
  refine lv_lstore_n (lv' := [(3, .long 0), (2, .int 5), (5, .int 4), (1, .ref q), (0, .ref sa)]) hC.1 hC.2.1 dX2_tapsUndoing_21 rfl hl (by decide) rfl (fun ls hl => ?_)
  refine lv_iconst (v := 1) hC.1 hC.2.1 dX2_tapsUndoing_22 (by decide) ?_
  refine lv_istore (lv' := [(5, .int 1), (3, .long 0), (2, .int 5), (1, .ref q), (0, .ref sa)]) hC.1 hC.2.1 dX2_tapsUndoing_23 hl (by decide) rfl (fun ls hl => ?_)
  refine lv_iload hC.1 hC.2.1 dX2_tapsUndoing_25 (lv_at hl 0 rfl) ?_
  refine lv_iconst (v := 4) hC.1 hC.2.1 dX2_tapsUndoing_27 (by decide) ?_
  refine lv_icmp_ge (tgt := 58) hC.1 hC.2.1 dX2_tapsUndoing_28 (by decide) (fun c => absurd c (by decide)) (fun _ => ?_)
  refine lv_iload hC.1 hC.2.1 dX2_tapsUndoing_31 (lv_at hl 0 rfl) ?_
  refine lv_iload_n hC.1 hC.2.1 dX2_tapsUndoing_33 rfl (lv_at hl 2 rfl) ?_
  refine lv_icmp_gt (tgt := 58) hC.1 hC.2.1 dX2_tapsUndoing_34 (by decide) (fun c => absurd c (by decide)) (fun _ => ?_)
  refine lv_lload_n hC.1 hC.2.1 dX2_tapsUndoing_37 rfl (lv_at hl 1 rfl) ?_
  refine lv_aload_n hC.1 hC.2.1 dX2_tapsUndoing_38 rfl (lv_at hl 4 rfl) ?_
  refine lv_iload hC.1 hC.2.1 dX2_tapsUndoing_39 (lv_at hl 0 rfl) ?_
  refine ec_iald hC hK hs 1 rfl (by omega) (by omega) dX2_tapsUndoing_41 ?_
  refine lv_i2l hC.1 hC.2.1 dX2_tapsUndoing_42 rfl ?_
  refine lv_aload_n hC.1 hC.2.1 dX2_tapsUndoing_43 rfl (lv_at hl 3 rfl) ?_
  refine lv_iload_n hC.1 hC.2.1 dX2_tapsUndoing_44 rfl (lv_at hl 2 rfl) ?_
  refine lv_iload hC.1 hC.2.1 dX2_tapsUndoing_45 (lv_at hl 0 rfl) ?_
  refine lv_isub hC.1 hC.2.1 dX2_tapsUndoing_47 ?_
  refine ec_topi (y := 4) (by decide) ?_
  refine ec_lald hC hK ht 4 rfl (by omega) (by omega) dX2_tapsUndoing_48 ?_
  refine ec_topl (y := (tp4 s0)) rfl ?_
  refine lv_lmul hC.1 hC.2.1 dX2_tapsUndoing_49 ?_
  refine lv_ladd hC.1 hC.2.1 dX2_tapsUndoing_50 ?_
  refine lv_lstore_n (lv' := [(3, .long (0 + ((Int32.toInt64 (s0 1)) * (tp4 s0)))), (5, .int 1), (2, .int 5), (1, .ref q), (0, .ref sa)]) hC.1 hC.2.1 dX2_tapsUndoing_51 rfl hl (by decide) rfl (fun ls hl => ?_)
  refine lv_iinc (v := 2) (lv' := [(5, .int 2), (3, .long (0 + ((Int32.toInt64 (s0 1)) * (tp4 s0)))), (2, .int 5), (1, .ref q), (0, .ref sa)]) hC.1 hC.2.1 dX2_tapsUndoing_52 hl (k := 1) rfl (by decide) (by decide) rfl (fun ls hl => ?_)
  refine lv_goto (tgt := 25) hC.1 hC.2.1 dX2_tapsUndoing_55 (by decide) ?_
  refine lv_iload hC.1 hC.2.1 dX2_tapsUndoing_25 (lv_at hl 0 rfl) ?_
  refine lv_iconst (v := 4) hC.1 hC.2.1 dX2_tapsUndoing_27 (by decide) ?_
  refine lv_icmp_ge (tgt := 58) hC.1 hC.2.1 dX2_tapsUndoing_28 (by decide) (fun c => absurd c (by decide)) (fun _ => ?_)
  refine lv_iload hC.1 hC.2.1 dX2_tapsUndoing_31 (lv_at hl 0 rfl) ?_
  refine lv_iload_n hC.1 hC.2.1 dX2_tapsUndoing_33 rfl (lv_at hl 2 rfl) ?_
  refine lv_icmp_gt (tgt := 58) hC.1 hC.2.1 dX2_tapsUndoing_34 (by decide) (fun c => absurd c (by decide)) (fun _ => ?_)
  refine lv_lload_n hC.1 hC.2.1 dX2_tapsUndoing_37 rfl (lv_at hl 1 rfl) ?_
  refine lv_aload_n hC.1 hC.2.1 dX2_tapsUndoing_38 rfl (lv_at hl 4 rfl) ?_
  refine lv_iload hC.1 hC.2.1 dX2_tapsUndoing_39 (lv_at hl 0 rfl) ?_
  refine ec_iald hC hK hs 2 rfl (by omega) (by omega) dX2_tapsUndoing_41 ?_
  refine lv_i2l hC.1 hC.2.1 dX2_tapsUndoing_42 rfl ?_
  refine lv_aload_n hC.1 hC.2.1 dX2_tapsUndoing_43 rfl (lv_at hl 3 rfl) ?_
  refine lv_iload_n hC.1 hC.2.1 dX2_tapsUndoing_44 rfl (lv_at hl 2 rfl) ?_
  refine lv_iload hC.1 hC.2.1 dX2_tapsUndoing_45 (lv_at hl 0 rfl) ?_
  refine lv_isub hC.1 hC.2.1 dX2_tapsUndoing_47 ?_
  refine ec_topi (y := 3) (by decide) ?_
  refine ec_lald hC hK ht 3 rfl (by omega) (by omega) dX2_tapsUndoing_48 ?_
  refine ec_topl (y := (tp3 s0)) rfl ?_
  refine lv_lmul hC.1 hC.2.1 dX2_tapsUndoing_49 ?_
  refine lv_ladd hC.1 hC.2.1 dX2_tapsUndoing_50 ?_
  refine lv_lstore_n (lv' := [(3, .long ((0 + ((Int32.toInt64 (s0 1)) * (tp4 s0))) + ((Int32.toInt64 (s0 2)) * (tp3 s0)))), (5, .int 2), (2, .int 5), (1, .ref q), (0, .ref sa)]) hC.1 hC.2.1 dX2_tapsUndoing_51 rfl hl (by decide) rfl (fun ls hl => ?_)
  refine lv_iinc (v := 3) (lv' := [(5, .int 3), (3, .long ((0 + ((Int32.toInt64 (s0 1)) * (tp4 s0))) + ((Int32.toInt64 (s0 2)) * (tp3 s0)))), (2, .int 5), (1, .ref q), (0, .ref sa)]) hC.1 hC.2.1 dX2_tapsUndoing_52 hl (k := 1) rfl (by decide) (by decide) rfl (fun ls hl => ?_)
  refine lv_goto (tgt := 25) hC.1 hC.2.1 dX2_tapsUndoing_55 (by decide) ?_
  refine lv_iload hC.1 hC.2.1 dX2_tapsUndoing_25 (lv_at hl 0 rfl) ?_
  refine lv_iconst (v := 4) hC.1 hC.2.1 dX2_tapsUndoing_27 (by decide) ?_
  refine lv_icmp_ge (tgt := 58) hC.1 hC.2.1 dX2_tapsUndoing_28 (by decide) (fun c => absurd c (by decide)) (fun _ => ?_)
  refine lv_iload hC.1 hC.2.1 dX2_tapsUndoing_31 (lv_at hl 0 rfl) ?_
  refine lv_iload_n hC.1 hC.2.1 dX2_tapsUndoing_33 rfl (lv_at hl 2 rfl) ?_
  refine lv_icmp_gt (tgt := 58) hC.1 hC.2.1 dX2_tapsUndoing_34 (by decide) (fun c => absurd c (by decide)) (fun _ => ?_)
  refine lv_lload_n hC.1 hC.2.1 dX2_tapsUndoing_37 rfl (lv_at hl 1 rfl) ?_
  refine lv_aload_n hC.1 hC.2.1 dX2_tapsUndoing_38 rfl (lv_at hl 4 rfl) ?_
  refine lv_iload hC.1 hC.2.1 dX2_tapsUndoing_39 (lv_at hl 0 rfl) ?_
  refine ec_iald hC hK hs 3 rfl (by omega) (by omega) dX2_tapsUndoing_41 ?_
  refine lv_i2l hC.1 hC.2.1 dX2_tapsUndoing_42 rfl ?_
  refine lv_aload_n hC.1 hC.2.1 dX2_tapsUndoing_43 rfl (lv_at hl 3 rfl) ?_
  refine lv_iload_n hC.1 hC.2.1 dX2_tapsUndoing_44 rfl (lv_at hl 2 rfl) ?_
  refine lv_iload hC.1 hC.2.1 dX2_tapsUndoing_45 (lv_at hl 0 rfl) ?_
  refine lv_isub hC.1 hC.2.1 dX2_tapsUndoing_47 ?_
  refine ec_topi (y := 2) (by decide) ?_
  refine ec_lald hC hK ht 2 rfl (by omega) (by omega) dX2_tapsUndoing_48 ?_
  refine ec_topl (y := (tp2 s0)) rfl ?_
  refine lv_lmul hC.1 hC.2.1 dX2_tapsUndoing_49 ?_
  refine lv_ladd hC.1 hC.2.1 dX2_tapsUndoing_50 ?_
  refine lv_lstore_n (lv' := [(3, .long (((0 + ((Int32.toInt64 (s0 1)) * (tp4 s0))) + ((Int32.toInt64 (s0 2)) * (tp3 s0))) + ((Int32.toInt64 (s0 3)) * (tp2 s0)))), (5, .int 3), (2, .int 5), (1, .ref q), (0, .ref sa)]) hC.1 hC.2.1 dX2_tapsUndoing_51 rfl hl (by decide) rfl (fun ls hl => ?_)
  refine lv_iinc (v := 4) (lv' := [(5, .int 4), (3, .long (((0 + ((Int32.toInt64 (s0 1)) * (tp4 s0))) + ((Int32.toInt64 (s0 2)) * (tp3 s0))) + ((Int32.toInt64 (s0 3)) * (tp2 s0)))), (2, .int 5), (1, .ref q), (0, .ref sa)]) hC.1 hC.2.1 dX2_tapsUndoing_52 hl (k := 1) rfl (by decide) (by decide) rfl (fun ls hl => ?_)
  refine lv_goto (tgt := 25) hC.1 hC.2.1 dX2_tapsUndoing_55 (by decide) ?_
  refine lv_iload hC.1 hC.2.1 dX2_tapsUndoing_25 (lv_at hl 0 rfl) ?_
  refine lv_iconst (v := 4) hC.1 hC.2.1 dX2_tapsUndoing_27 (by decide) ?_
  refine lv_icmp_ge (tgt := 58) hC.1 hC.2.1 dX2_tapsUndoing_28 (by decide) (fun _ => ?_) (fun c => absurd (by decide) c)
  refine lv_aload_n hC.1 hC.2.1 dX2_tapsUndoing_58 rfl (lv_at hl 3 rfl) ?_
  refine lv_iload_n hC.1 hC.2.1 dX2_tapsUndoing_59 rfl (lv_at hl 2 rfl) ?_
  refine lv_aload_n hC.1 hC.2.1 dX2_tapsUndoing_60 rfl (lv_at hl 4 rfl) ?_
  refine lv_iconst (v := 0) hC.1 hC.2.1 dX2_tapsUndoing_61 (by decide) ?_
  refine ec_iald hC hK hs 0 rfl (by omega) (by omega) dX2_tapsUndoing_62 ?_
  refine lv_ineg hC.1 hC.2.1 dX2_tapsUndoing_63 ?_
  refine lv_i2l hC.1 hC.2.1 dX2_tapsUndoing_64 rfl ?_
  refine lv_lload_n hC.1 hC.2.1 dX2_tapsUndoing_65 rfl (lv_at hl 1 rfl) ?_
  refine lv_lmul hC.1 hC.2.1 dX2_tapsUndoing_66 ?_
  refine ec_topl (y := (tp5 s0)) rfl ?_
  refine ec_last hC hK hS ht (show sz ≤ q by rw [hq0, hsz]; exact Nat.le_refl _) 5 rfl (by omega) (by omega) dX2_tapsUndoing_67 (fun H locs h9 o9 z9 hS => ?_)
  have hs := hs.kept (o9 _ hne)
  have ht : ecA G q (eJ G 6 (vp_updL (vp_updL (vp_updL (vp_updL (vp_updL (vp_updL (fun _ => 0) 0 (Int32.toInt64 (s0 0))) 1 (tp1 s0)) 2 (tp2 s0)) 3 (tp3 s0)) 4 (tp4 s0)) 5 (tp5 s0))) H := h9
  refine lv_iinc (v := 6) (lv' := [(2, .int 6), (5, .int 4), (3, .long (((0 + ((Int32.toInt64 (s0 1)) * (tp4 s0))) + ((Int32.toInt64 (s0 2)) * (tp3 s0))) + ((Int32.toInt64 (s0 3)) * (tp2 s0)))), (1, .ref q), (0, .ref sa)]) hC.1 hC.2.1 dX2_tapsUndoing_68 hl (k := 2) rfl (by decide) (by decide) rfl (fun ls hl => ?_)
  refine lv_goto (tgt := 14) hC.1 hC.2.1 dX2_tapsUndoing_71 (by decide) ?_
  refine lv_iload_n hC.1 hC.2.1 dX2_tapsUndoing_14 rfl (lv_at hl 0 rfl) ?_
  refine lv_bipush (v := 6) hC.1 hC.2.1 dX2_tapsUndoing_15 (by decide) ?_
  refine lv_icmp_ge (tgt := 74) hC.1 hC.2.1 dX2_tapsUndoing_17 (by decide) (fun _ => ?_) (fun c => absurd (by decide) c)
  refine lv_aload_n hC.1 hC.2.1 dX2_tapsUndoing_74 rfl (lv_at hl 3 rfl) ?_
  exact W.aret hC.1 hC.2.1 hr (Or.inr ⟨_, rfl⟩) (Or.inr ⟨_, rfl⟩) (fun t9 ht9 _ => ⟨_, rfl, by rw [ht9]; exact ⟨q, rfl, ecJ_to ht (ec_lt6 rfl rfl rfl rfl rfl rfl), by rw [hq0, hsz]; exact Nat.le_refl _⟩, hS.F ht9⟩) hS.2.2 dX2_tapsUndoing_75

set_option maxHeartbeats 4000000 in
set_option maxRecDepth 100000 in
/-- a Filter is made -/
theorem c_X2_init (l : Launch) (G : ecG) (a an sa sz : Nat) (u0 u1 u2 u3 u5 u6 : Value) (s0 : Nat → Int32) (hN : ecN0 G ≤ a) (has : a < sz) (hne : an ≠ a) (hne2 : sa ≠ a) : Met l yX2_init (ecWs yX2_init cX2_init 2 none) (ecRm 2 2 12) (ecPc [.ref a, .ref an] G (fun H => H.size = sz ∧ ecA G a (eO 2 [.null, .null, .null, .int 0]) H ∧ ecA G an (eO 0 [u0, u1, u2, u3, .ref sa, u5, u6]) H ∧ ecA G sa (eI G 4 s0) H)) (ecEp (fun v H1 => v = none ∧ ∃ ta pa : Nat, sz ≤ ta ∧ sz ≤ pa ∧ ta ≠ pa ∧ ecA G a (eO 2 [.ref an, .ref ta, .ref pa, .int 0]) H1 ∧ ecA G ta (eJ G 6 (tpF s0)) H1 ∧ ecA G pa (eI G 6 (fun _ => 0)) H1) (fun x : Nat => x = a ∨ sz ≤ x)) 2 12 (fun x : Nat => x = a ∨ sz ≤ x) := by
  refine ec_met (by decide) (Nat.le_of_ble_eq_true rfl) ?_
  intro p e s m below meth c hC hr hlocks hname hOk hpre ls hl
  have hK := hOk.1
  obtain ⟨hsz, ha, hn, hs⟩ := hpre
  have hS : va_S (fun x : Nat => x = a ∨ sz ≤ x) s.heap s.heap [] := va_S.rf
  have hAN : ∀ q, (fun x : Nat => x = a ∨ sz ≤ x) q → ecN0 G ≤ q := fun q h => h.elim (fun h => by rw [h]; exact hN) (fun h => Nat.le_trans hOk.2.1 (by rw [hsz]; exact h))
  have hl : lv_has ls 2 [(0, .ref a), (1, .ref an)] := hl
  refine lv_aload_n hC.1 hC.2.1 dX2_init_0 rfl (lv_at hl 0 rfl) ?_
  refine W.objInit hC.1 hC.2.1 hC.2.2.2.1 (hC.2.2.2.2 _ kX2_3) (hC.2.2.2.2 _ qOi) (hC.2.2.2.2 _ qOc) rfl (by rw [hC.2.2.1]; exact hl.1) rfl dX2_init_1 (Nat.le_of_ble_eq_true rfl) (Nat.le_of_ble_eq_true rfl) ?_
  refine W.eq (g2 := F0 m 4 ls []) rfl ?_
  refine lv_aload_n hC.1 hC.2.1 dX2_init_4 rfl (lv_at hl 0 rfl) ?_
  refine lv_aload_n hC.1 hC.2.1 dX2_init_5 rfl (lv_at hl 1 rfl) ?_
  refine ec_putF hC hK hS ha (Or.inl rfl) fX2_9 rfl hname rfl rfl rfl (Nat.le_of_ble_eq_true rfl) dX2_init_6 (fun H locs h9 o9 z9 hS => ?_)
  have hn := hn.kept (o9 _ hne)
  have hs := hs.kept (o9 _ hne2)
  have ha : ecA G a (eO 2 [.ref an, .null, .null, .int 0]) H := h9
  refine lv_aload_n hC.1 hC.2.1 dX2_init_9 rfl (lv_at hl 0 rfl) ?_
  refine lv_aload_n hC.1 hC.2.1 dX2_init_10 rfl (lv_at hl 1 rfl) ?_
  refine ec_get hC hK hn fX2_15 rfl dX2_init_11 ?_
  have hsz := z9.trans hsz
  refine ec_goEq (ec_rS hC (c_X2_tapsUndoing l G sa sz s0) kX2_21 (hOk.at hS hAN) ⟨hsz, hs⟩ hl.1 ⟨Nat.le_of_ble_eq_true rfl, Nat.le_of_ble_eq_true rfl⟩ rfl (Nat.le_of_ble_eq_true rfl) dX2_init_14 ⟨Nat.le_of_ble_eq_true rfl, Nat.le_of_ble_eq_true rfl⟩) hS (fun _ h => Or.inr h) (fun ta H locs hp hz hk1 hS => ?_)
  obtain ⟨ht, hta⟩ := hp
  have hsz2 : sz ≤ H.size := by rw [← hsz]; exact hz
  have ha := ha.un hk1 (by show ¬ sz ≤ a; omega)
  have hza : ta ≠ a := by omega
  have htl := ht.lt
  refine ec_putF hC hK hS ha (Or.inl rfl) fX2_25 rfl hname rfl rfl rfl (Nat.le_of_ble_eq_true rfl) dX2_init_17 (fun H locs h9 o9 z9 hS => ?_)
  have ht := ht.kept (o9 _ hza)
  have ha : ecA G a (eO 2 [.ref an, .ref ta, .null, .int 0]) H := h9
  have hsz2 : sz ≤ H.size := by rw [z9]; exact hsz2
  refine lv_aload_n hC.1 hC.2.1 dX2_init_20 rfl (lv_at hl 0 rfl) ?_
  refine lv_bipush (v := 6) hC.1 hC.2.1 dX2_init_21 (by decide) ?_
  refine ec_newI hC hK hS q436 6 rfl (by omega) (Nat.le_of_ble_eq_true rfl) (Nat.le_of_ble_eq_true rfl) dX2_init_23 (fun pa H hp0 hpa hkp hS hz3 => ?_)
  have hps : sz ≤ pa := by rw [hp0]; exact hsz2
  have ha := ha.kp hkp
  have htl := ht.lt
  have ht := ht.kp hkp
  have hpt : ta ≠ pa := fun z => Nat.ne_of_lt htl (by rw [← hp0, ← z])
  have hzp : pa ≠ a := by omega
  refine ec_putF hC hK hS ha (Or.inl rfl) fX2_29 rfl hname rfl rfl rfl (Nat.le_of_ble_eq_true rfl) dX2_init_25 (fun H locs h9 o9 z9 hS => ?_)
  have ht := ht.kept (o9 _ hza)
  have hpa := hpa.kept (o9 _ hzp)
  have ha : ecA G a (eO 2 [.ref an, .ref ta, .ref pa, .int 0]) H := h9
  refine lv_aload_n hC.1 hC.2.1 dX2_init_28 rfl (lv_at hl 0 rfl) ?_
  refine lv_iconst (v := 0) hC.1 hC.2.1 dX2_init_29 (by decide) ?_
  refine ec_put hC hK hS ha (Or.inl rfl) fX2_32 rfl rfl rfl (Nat.le_of_ble_eq_true rfl) dX2_init_30 (fun H locs h9 o9 z9 hS => ?_)
  have ht := ht.kept (o9 _ hza)
  have hpa := hpa.kept (o9 _ hzp)
  have ha : ecA G a (eO 2 [.ref an, .ref ta, .ref pa, .int 0]) H := h9
  exact W.vret hC.1 hC.2.1 hr (fun t9 ht9 _ => ⟨_, rfl, by rw [ht9]; exact ⟨rfl, ta, pa, hta, hps, hpt, ha, ht, hpa⟩, hS.F ht9⟩) hS.2.2 dX2_init_33
end
section
/-! THE CLASS'S WORLD: its cells by a map of addresses ad (0 the laboratory, 1 lists, 2 their rows, 3 rooms, 4 their states, 5 answers, 6 their states, 7 samples, 8 filters, 9 taps, 10 pasts, 11 bookings, 12 their states); tg gives each address a tag, so that cells with other tags are other cells; X: what the class may own. -/
def ecT (G : ecG) (X : Nat → Prop) (tg : Nat → Nat) (H : Heap) (a t : Nat) (e : va_E) : Prop := ecA G a e H ∧ tg a = t ∧ X a
def ecKd (j : Nat) : Nat := if j = 0 then 3 else if j = 1 then 5 else if j = 2 then 8 else 11
def ecLt (G : ecG) (X : Nat → Prop) (tg : Nat → Nat) (H : Heap) (lo da j n : Nat) (f : Nat → Nat) : Prop := ∃ mc : Int32, (n = 0 ∧ ecT G X tg H lo (64 + j) (eO 7 [.int mc, .ref (ecTe G), .int 0])) ∨
  (∃ (cap : Nat) (g : Nat → Option Nat), 10 ≤ cap ∧ cap ≤ 60 ∧ n ≤ cap ∧ ecT G X tg H lo (64 + j) (eO 7 [.int mc, .ref da, .int (nI n)]) ∧ ecT G X tg H da (128 + j) (eQ G cap g) ∧ ∀ i, i < n → g i = some (f i))
def ecRo (G : ecG) (X : Nat → Prop) (tg : Nat → Nat) (ad : Nat → Nat → Nat) (H : Heap) (n : Nat) (rs : Nat → Nat) (rc : Nat → Int32) : Prop := ∀ i, i < n →
  ecT G X tg H (ad 3 i) (192 + i) (eO 3 [.ref (ad 4 i), .int (rc i)]) ∧ ecT G X tg H (ad 4 i) 0 (eO 4 (stL (rs i)))
def ecAn (G : ecG) (X : Nat → Prop) (tg : Nat → Nat) (ad : Nat → Nat → Nat) (H : Heap) (M : ecM) (n : Nat) : Prop := ∀ i, i < n →
  ecT G X tg H (ad 5 i) (320 + i) (eO 0 [.int (nI i), .ref (ad 3 (M.1 1 i)), .ref (ad 6 i), .int (M.2.1 1 i), .ref (ad 7 i), .int (M.2.1 2 i), .int (M.2.1 3 i)]) ∧ ecT G X tg H (ad 6 i) 0 (eO 4 (stL (M.1 2 i))) ∧ ecT G X tg H (ad 7 i) 0 (eI G 4 (smA M i))
def ecFi (G : ecG) (X : Nat → Prop) (tg : Nat → Nat) (ad : Nat → Nat → Nat) (H : Heap) (M : ecM) (n : Nat) : Prop := ∀ i, i < n →
  ecT G X tg H (ad 8 i) (512 + i) (eO 2 [.ref (ad 5 (M.1 3 i)), .ref (ad 9 i), .ref (ad 10 i), .int (M.2.1 6 i)]) ∧ ecT G X tg H (ad 9 i) 0 (eJ G 6 (tpA M i)) ∧ ecT G X tg H (ad 10 i) (640 + i) (eI G 6 (psA M i))
def ecBk (G : ecG) (X : Nat → Prop) (tg : Nat → Nat) (ad : Nat → Nat → Nat) (H : Heap) (M : ecM) (n : Nat) : Prop := ∀ i, i < n →
  ecT G X tg H (ad 11 i) (704 + i) (eO 1 [.int (nI i), .ref (ad 3 (M.1 4 i)), .ref (ad 12 i), .int (M.2.1 7 i), .int (M.2.1 8 i), .int (nI (M.1 6 i))]) ∧ ecT G X tg H (ad 12 i) 0 (eO 4 (stL (M.1 5 i)))
def ecLb (ad : Nat → Nat → Nat) (h lm : Int32) : List Value := [.ref (ad 1 0), .ref (ad 1 1), .ref (ad 1 2), .ref (ad 1 3), .int h, .int lm]
def ecO (G : ecG) (X : Nat → Prop) (M : ecM) (tg : Nat → Nat) (ad : Nat → Nat → Nat) (H : Heap) : Prop :=
  ecT G X tg H (ad 0 0) 1 (eO 5 (ecLb ad (mhr M) (mlm M))) ∧ (∀ j, j < 4 → ecLt G X tg H (ad 1 j) (ad 2 j) j (M.1 7 j) (ad (ecKd j))) ∧
  ecRo G X tg ad H (mnR M) (M.1 0) (M.2.1 0) ∧ ecAn G X tg ad H M (mnA M) ∧ ecFi G X tg ad H M (mnF M) ∧ ecBk G X tg ad H M (mnB M) ∧ WF M
/-- the laboratory x in the state M -/
def EC (G : ecG) (X : Nat → Prop) (M : ecM) (x : Nat) (H : Heap) : Prop := ∃ (tg : Nat → Nat) (ad : Nat → Nat → Nat), ad 0 0 = x ∧ ecO G X M tg ad H
/-- what the frame X of the class is: new cells and none of the old world's -/
def ecXs (G : ecG) (X : Nat → Prop) (H : Heap) : Prop := (∀ q, X q → ecN0 G ≤ q) ∧ (∀ q, H.size ≤ q → X q)
theorem ecXs.le {G : ecG} {X : Nat → Prop} {H H1 : Heap} (h : ecXs G X H) (k : H.size ≤ H1.size) : ecXs G X H1 := ⟨h.1, fun q hq => h.2 q (Nat.le_trans k hq)⟩
section ECWD
variable {G : ecG} {X : Nat → Prop} {M : ecM} {tg tg2 : Nat → Nat} {ad : Nat → Nat → Nat} {H H1 : Heap} {a t b u : Nat} {e e2 : va_E} {Ch : Nat → Prop}
theorem ecT.ne (h : ecT G X tg H a t e) (h2 : ecT G X tg H b u e2) (n : t ≠ u) : a ≠ b := fun z => n (by rw [← h.2.1, ← h2.2.1, z])
/-- a step of the heap that leaves the cells but of the tags Ch -/
def ecSp (tg tg2 : Nat → Nat) (Ch : Nat → Prop) (H H1 : Heap) : Prop := (∀ q, q < H.size → ¬ Ch (tg q) → H1[q]? = H[q]?) ∧ (∀ q, q < H.size → tg2 q = tg q)
theorem ecT.st (h : ecT G X tg H a t e) (k : ecSp tg tg2 Ch H H1) (n : ¬ Ch t) : ecT G X tg2 H1 a t e :=
  ⟨h.1.kept (k.1 a h.1.lt (by rw [h.2.1]; exact n)), (k.2 a h.1.lt).trans h.2.1, h.2.2⟩
theorem ecLt.st {lo da j n : Nat} {f : Nat → Nat} (h : ecLt G X tg H lo da j n f) (k : ecSp tg tg2 Ch H H1) (n1 : ¬ Ch (64 + j)) (n2 : ¬ Ch (128 + j)) : ecLt G X tg2 H1 lo da j n f := by
  obtain ⟨mc, ⟨hn, h⟩ | ⟨cap, g, a1, a2, a3, h, h5, h6⟩⟩ := h
  · exact ⟨mc, Or.inl ⟨hn, h.st k n1⟩⟩
  · exact ⟨mc, Or.inr ⟨cap, g, a1, a2, a3, h.st k n1, h5.st k n2, h6⟩⟩
theorem ecLt.to {lo da j n : Nat} {f f2 : Nat → Nat} (h : ecLt G X tg H lo da j n f) (hf : ∀ i, i < n → f i = f2 i) : ecLt G X tg H lo da j n f2 := by
  obtain ⟨mc, h | ⟨cap, g, a1, a2, a3, h, h5, h6⟩⟩ := h
  · exact ⟨mc, Or.inl h⟩
  · exact ⟨mc, Or.inr ⟨cap, g, a1, a2, a3, h, h5, fun i hi => (h6 i hi).trans (by rw [hf i hi])⟩⟩
theorem ecLt.obj {lo da j n : Nat} {f : Nat → Nat} (h : ecLt G X tg H lo da j n f) : ∃ v0 v1, ecT G X tg H lo (64 + j) (eO 7 [v0, v1, .int (nI n)]) := by
  obtain ⟨mc, ⟨rfl, h⟩ | ⟨cap, g, -, -, -, h, -⟩⟩ := h
  · exact ⟨_, _, h⟩
  · exact ⟨_, _, h⟩
theorem ecLt.el {lo da j n i : Nat} {f : Nat → Nat} (h : ecLt G X tg H lo da j n f) (hi : i < n) : ∃ (v0 : Value) (cap : Nat) (g : Nat → Option Nat), cap ≤ 60 ∧ n ≤ cap ∧ ecA G lo (eO 7 [v0, .ref da, .int (nI n)]) H ∧ ecA G da (eQ G cap g) H ∧ g i = some (f i) := by
  obtain ⟨mc, ⟨rfl, h⟩ | ⟨cap, g, a1, a2, a3, h, h2, h3⟩⟩ := h
  · omega
  · exact ⟨_, cap, g, a2, a3, h.1, h2.1, h3 i hi⟩
/-- before a list grows: its row, or a place for one -/
theorem ecLt.lx {lo da j n : Nat} {f : Nat → Nat} (h : ecLt G X tg H lo da j n f) (hX : ecXs G X H) : ∃ da0, ecLx G lo da0 n f H ∧ ((da0 = da ∧ tg da = 128 + j ∧ da < H.size) ∨ da0 = H.size) ∧ X da0 ∧ da0 ≠ lo := by
  obtain ⟨mc, ⟨hn, h⟩ | ⟨cap, g, a1, a2, a3, h, h2, h3⟩⟩ := h
  · exact ⟨H.size, ⟨mc, Or.inl ⟨hn, h.1⟩⟩, Or.inr rfl, hX.2 _ (Nat.le_refl _), fun z => Nat.ne_of_lt h.1.lt z.symm⟩
  · exact ⟨da, ⟨mc, Or.inr ⟨cap, g, a1, a2, a3, h.1, h2.1, h3⟩⟩, Or.inl ⟨rfl, h2.2.1, h2.1.lt⟩, h2.2.2, h2.ne h (by omega)⟩
/-- .. and behind it -/
theorem ecLt.of {lo da j n : Nat} {f : Nat → Nat} (h : ecLx G lo da n f H) (hn : 0 < n) (h1 : tg lo = 64 + j) (h2 : X lo) (h3 : tg da = 128 + j) (h4 : X da) : ecLt G X tg H lo da j n f := by
  obtain ⟨mc, ⟨h0, -⟩ | ⟨cap, g, a1, a2, a3, h, h5, h6⟩⟩ := h
  · omega
  · exact ⟨mc, Or.inr ⟨cap, g, a1, a2, a3, ⟨h, h1, h2⟩, ⟨h5, h3, h4⟩, h6⟩⟩
theorem ecRo.st {n : Nat} {rs : Nat → Nat} {rc : Nat → Int32} (h : ecRo G X tg ad H n rs rc) (k : ecSp tg tg2 Ch H H1) (n1 : ∀ i, i < n → ¬ Ch (192 + i)) (n0 : ¬ Ch 0) : ecRo G X tg2 ad H1 n rs rc := fun i hi => ⟨(h i hi).1.st k (n1 i hi), (h i hi).2.st k n0⟩
theorem ecAn.st {n : Nat} (h : ecAn G X tg ad H M n) (k : ecSp tg tg2 Ch H H1) (n1 : ∀ i, i < n → ¬ Ch (320 + i)) (n0 : ¬ Ch 0) : ecAn G X tg2 ad H1 M n := fun i hi => ⟨(h i hi).1.st k (n1 i hi), (h i hi).2.1.st k n0, (h i hi).2.2.st k n0⟩
theorem ecFi.st {n : Nat} (h : ecFi G X tg ad H M n) (k : ecSp tg tg2 Ch H H1) (n1 : ∀ i, i < n → ¬ Ch (512 + i)) (n2 : ∀ i, i < n → ¬ Ch (640 + i)) (n0 : ¬ Ch 0) : ecFi G X tg2 ad H1 M n := fun i hi => ⟨(h i hi).1.st k (n1 i hi), (h i hi).2.1.st k n0, (h i hi).2.2.st k (n2 i hi)⟩
theorem ecBk.st {n : Nat} (h : ecBk G X tg ad H M n) (k : ecSp tg tg2 Ch H H1) (n1 : ∀ i, i < n → ¬ Ch (704 + i)) (n0 : ¬ Ch 0) : ecBk G X tg2 ad H1 M n := fun i hi => ⟨(h i hi).1.st k (n1 i hi), (h i hi).2.st k n0⟩
/-- the whole world over a heap that has grown -/
theorem ecO.kp (h : ecO G X M tg ad H) (k : ecKp H H1) : ecO G X M tg ad H1 := by
  have s : ecSp tg tg (fun _ => False) H H1 := ⟨fun q hq _ => k.2 q hq, fun _ _ => rfl⟩
  obtain ⟨h1, h2, h3, h4, h5, h6, h7⟩ := h
  exact ⟨h1.st s id, fun j hj => (h2 j hj).st s id id, h3.st s (fun _ _ => id) id, h4.st s (fun _ _ => id) id, h5.st s (fun _ _ => id) (fun _ _ => id) id, h6.st s (fun _ _ => id) id, h7⟩
theorem EC.kp {x : Nat} (h : EC G X M x H) (k : ecKp H H1) : EC G X M x H1 := by
  obtain ⟨tg, ad, h1, h2⟩ := h
  exact ⟨tg, ad, h1, h2.kp k⟩
/-- .. or in which cells of others have changed -/
theorem ecT.ot {Y : Nat → Prop} (h : ecT G X tg H a t e) (k : ∀ q, q < H.size → ¬ Y q → H1[q]? = H[q]?) (n : ∀ q, X q → ¬ Y q) : ecT G X tg H1 a t e := ⟨h.1.kept (k a h.1.lt (n a h.2.2)), h.2⟩
theorem EC.ot {x : Nat} {Y : Nat → Prop} (h : EC G X M x H) (k : ∀ q, q < H.size → ¬ Y q → H1[q]? = H[q]?) (n : ∀ q, X q → ¬ Y q) : EC G X M x H1 := by
  obtain ⟨tg, ad, h0, h1, h2, h3, h4, h5, h6, h7⟩ := h
  refine ⟨tg, ad, h0, h1.ot k n, fun j hj => ?_, fun i hi => ⟨(h3 i hi).1.ot k n, (h3 i hi).2.ot k n⟩, fun i hi => ⟨(h4 i hi).1.ot k n, (h4 i hi).2.1.ot k n, (h4 i hi).2.2.ot k n⟩, fun i hi => ⟨(h5 i hi).1.ot k n, (h5 i hi).2.1.ot k n, (h5 i hi).2.2.ot k n⟩, fun i hi => ⟨(h6 i hi).1.ot k n, (h6 i hi).2.ot k n⟩, h7⟩
  obtain ⟨mc, ⟨hn, h⟩ | ⟨cap, g, a1, a2, a3, h, h8, h9⟩⟩ := h2 j hj
  · exact ⟨mc, Or.inl ⟨hn, h.ot k n⟩⟩
  · exact ⟨mc, Or.inr ⟨cap, g, a1, a2, a3, h.ot k n, h8.ot k n, h9⟩⟩
end ECWD
end
