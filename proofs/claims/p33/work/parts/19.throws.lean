section ECX9
variable {p : Program} {l : Launch} {e : Env} {R : Room} {s : State} {m : MethodId} {args : Array Value} {below : List Frame} {meth : Method} {c : Code} {H : Heap} {locs : List Loc} {cells slots : Nat} {Q : State → Prop} {pc : Nat} {ls : Array Slot} {rest st0 : List Value}
theorem ec_topv {x y : Value} (h : x = y) (k : W p l e R s m args below meth c H locs cells slots Q (F0 m pc ls (y :: rest))) : W p l e R s m args below meth c H locs cells slots Q (F0 m pc ls (x :: rest)) := by
  rw [h]; exact k
theorem ec_lvn {ls : Array Slot} : ∀ q ∈ ([] : List (Nat × Value)), ls[q.1]? = some (.val q.2) := fun _ h => nomatch h
theorem ec_lvc {ls : Array Slot} {i : Nat} {v : Value} {t : List (Nat × Value)} (h : ls[i]? = some (.val v)) (h2 : ∀ q ∈ t, ls[q.1]? = some (.val q.2)) : ∀ q ∈ (i, v) :: t, ls[q.1]? = some (.val q.2) := by
  intro q hq
  rcases List.mem_cons.mp hq with rfl | hq
  · exact h
  · exact h2 q hq
theorem ec_loopR {n : Nat} (I : Nat → Array Slot → Prop) (h0 : I 0 ls) (hx : ∀ ls, I n ls → W p l e R s m args below meth c H locs cells slots Q (F0 m pc ls [])) (hs : ∀ i ls, i < n → I i ls → (∀ ls, I (i + 1) ls → W p l e R s m args below meth c H locs cells slots Q (F0 m pc ls [])) → W p l e R s m args below meth c H locs cells slots Q (F0 m pc ls [])) : W p l e R s m args below meth c H locs cells slots Q (F0 m pc ls []) := by
  have h : ∀ j i, i + j = n → ∀ ls, I i ls → W p l e R s m args below meth c H locs cells slots Q (F0 m pc ls []) := by
    intro j
    induction j with
    | zero => intro i hi ls h; obtain rfl : i = n := by omega
              exact hx ls h
    | succ j ih => intro i hi ls h; exact hs i ls (by omega) h (fun ls h => ih (i + 1) (by omega) ls h)
  exact h n 0 (by omega) ls h0
theorem ec_loopRD {n : Nat} (I : Nat → Array Slot → Prop) (h0 : I n ls) (hx : ∀ ls, I 0 ls → W p l e R s m args below meth c H locs cells slots Q (F0 m pc ls [])) (hs : ∀ i ls, i < n → I (i + 1) ls → (∀ ls, I i ls → W p l e R s m args below meth c H locs cells slots Q (F0 m pc ls [])) → W p l e R s m args below meth c H locs cells slots Q (F0 m pc ls [])) : W p l e R s m args below meth c H locs cells slots Q (F0 m pc ls []) := by
  have h : ∀ j, j ≤ n → ∀ ls, I j ls → W p l e R s m args below meth c H locs cells slots Q (F0 m pc ls []) := by
    intro j
    induction j with
    | zero => intro hi ls h; exact hx ls h
    | succ j ih => intro hi ls h; exact hs j ls (by omega) h (fun ls h => ih (by omega) ls h)
  exact h n (Nat.le_refl _) ls h0
theorem ec_loop {n : Nat} (I : Nat → Heap → List Loc → Array Slot → Prop) (h0 : I 0 H locs ls) (hx : ∀ H locs ls, I n H locs ls → W p l e R s m args below meth c H locs cells slots Q (F0 m pc ls [])) (hs : ∀ i H locs ls, i < n → I i H locs ls → (∀ H locs ls, I (i + 1) H locs ls → W p l e R s m args below meth c H locs cells slots Q (F0 m pc ls [])) → W p l e R s m args below meth c H locs cells slots Q (F0 m pc ls [])) : W p l e R s m args below meth c H locs cells slots Q (F0 m pc ls []) := by
  have h : ∀ j i, i + j = n → ∀ H locs ls, I i H locs ls → W p l e R s m args below meth c H locs cells slots Q (F0 m pc ls []) := by
    intro j
    induction j with
    | zero => intro i hi H locs ls h; obtain rfl : i = n := by omega
              exact hx H locs ls h
    | succ j ih => intro i hi H locs ls h; exact hs i H locs ls (by omega) h (fun H locs ls h => ih (i + 1) (by omega) H locs ls h)
  exact h n 0 (by omega) H locs ls h0
variable {mc ms : Nat} {A0 A1 : Nat → Prop} {H0 : Heap} {ar : Array Value} {val : Value} {Φ : Nat → Prop} {vf : Nat → Value} {Po : Heap → Prop} {PoN : Nat → Heap → Prop} {X : String → Prop}
/-- behind a call that may throw and else only reads: the answer is the j-th of some, there is none, it is known -/
theorem ec_goXj (hr : vx_Run p l e R s m args below meth c H locs cells slots mc ms (F0 m pc ls st0) rest (ecRp (fun v => ∃ j : Nat, Φ j ∧ v = some (vf j)) ar) (ecXc X) (fun _ => False)) (hS : va_S A0 H0 H locs)
    (kx : ∀ (E : String) (ce : Cell) (q9 : Addr) (H1 : Heap), X E → ecKp H H1 → va_S A0 H0 H1 locs → H1[q9]? = some ce → ce.vm = .none → s.vm.findClass E = some ce.cls → vx_W p l e R s m args below meth c H1 locs (cells + mc) (slots + ms) Q (F0 m pc ls rest) q9)
    (kk : ∀ j, Φ j → W p l e R s m args below meth c H locs (cells + mc) (slots + ms) Q (F0 m (pc + 3) ls (vf j :: rest))) : W p l e R s m args below meth c H locs cells slots Q (F0 m pc ls st0) :=
  ec_goXR hr hS kx (fun v hv => by obtain ⟨j, h, rfl⟩ := hv; exact kk j h)
theorem ec_goX0 {Ps : Prop} (hr : vx_Run p l e R s m args below meth c H locs cells slots mc ms (F0 m pc ls st0) rest (ecRp (fun v => v = none ∧ Ps) ar) (ecXc X) (fun _ => False)) (hS : va_S A0 H0 H locs)
    (kx : ∀ (E : String) (ce : Cell) (q9 : Addr) (H1 : Heap), X E → ecKp H H1 → va_S A0 H0 H1 locs → H1[q9]? = some ce → ce.vm = .none → s.vm.findClass E = some ce.cls → vx_W p l e R s m args below meth c H1 locs (cells + mc) (slots + ms) Q (F0 m pc ls rest) q9)
    (kk : Ps → W p l e R s m args below meth c H locs (cells + mc) (slots + ms) Q (F0 m (pc + 3) ls rest)) : W p l e R s m args below meth c H locs cells slots Q (F0 m pc ls st0) :=
  ec_goXR hr hS kx (fun v hv => by obtain ⟨rfl, hv⟩ := hv; exact kk hv)
/-- .. and else changes the cells of A1: the answer is a cell -/
theorem ec_goXEq (hr : vx_Run p l e R s m args below meth c H locs cells slots mc ms (F0 m pc ls st0) rest (ecEp (fun v H1 => ∃ q : Nat, v = some (.ref q) ∧ PoN q H1) A1 ar) (ecXc X) A1) (hS : va_S A0 H0 H locs) (hA : ∀ q, A1 q → A0 q)
    (kx : ∀ (E : String) (ce : Cell) (q9 : Addr) (H1 : Heap) (locs1 : List Loc), X E → ecKp H H1 → va_S A0 H0 H1 locs1 → H1[q9]? = some ce → ce.vm = .none → s.vm.findClass E = some ce.cls → vx_W p l e R s m args below meth c H1 locs1 (cells + mc) (slots + ms) Q (F0 m pc ls rest) q9)
    (kk : ∀ (q : Nat) H1 locs1, PoN q H1 → H.size ≤ H1.size → (∀ q : Nat, q < H.size → ¬ A1 q → H1[q]? = H[q]?) → va_S A0 H0 H1 locs1 → W p l e R s m args below meth c H1 locs1 (cells + mc) (slots + ms) Q (F0 m (pc + 3) ls (.ref q :: rest))) : W p l e R s m args below meth c H locs cells slots Q (F0 m pc ls st0) :=
  ec_goXE hr hS hA kx (fun v H1 locs1 hv hz hk hS1 => by obtain ⟨q, rfl, hv⟩ := hv; exact kk q H1 locs1 hv hz hk hS1)
end ECX9
abbrev eIX : String := "java/lang/IndexOutOfBoundsException"
abbrev eAG : String := "java/lang/IllegalArgumentException"
abbrev eNS : String := "java/util/NoSuchElementException"
abbrev eUO : String := "java/lang/UnsupportedOperationException"
abbrev eIS : String := "java/lang/IllegalStateException"
theorem rgB_t {x : Int32} {n : Nat} (hn : n < 2 ^ 30) (h : rgB x 0 (nI n) = true) : ∃ j : Nat, j ≤ n ∧ x = nI j := by
  simp only [rgB, Bool.and_eq_true, decide_eq_true_eq] at h
  rcases pk_ix x (n := n + 1) (by omega) with q | q | ⟨j, h1, h2⟩
  · exact (Int32.lt_irrefl (Int32.lt_of_lt_of_le q h.1)).elim
  · refine (Int32.lt_irrefl (Int32.lt_of_lt_of_le (nI_lt (a := n) (b := n + 1) (by omega) (by omega)) (Int32.le_trans q h.2))).elim
  · exact ⟨j, by omega, h2⟩
theorem rgB_lo {x lo hi : Int32} (h : x < lo) : rgB x lo hi = false := by
  have : ¬ lo ≤ x := fun z => Int32.lt_irrefl (Int32.lt_of_lt_of_le h z)
  simp [rgB, this]
theorem rgB_hi {x lo hi : Int32} (h : hi < x) : rgB x lo hi = false := by
  have : ¬ x ≤ hi := fun z => Int32.lt_irrefl (Int32.lt_of_le_of_lt z h)
  simp [rgB, this]
theorem rgB_ok {x lo hi : Int32} (h1 : ¬ x < lo) (h2 : ¬ hi < x) : rgB x lo hi = true := by
  simp only [rgB, Bool.and_eq_true, decide_eq_true_eq]
  exact ⟨Int32.not_lt.mp h1, Int32.not_lt.mp h2⟩
theorem rgB_ok2 {x lo hi : Int32} (h1 : ¬ x < lo) (h2 : x ≤ hi) : rgB x lo hi = true := rgB_ok h1 (Int32.not_lt.mpr h2)
theorem rgB_hi2 {x lo hi : Int32} (h : ¬ x ≤ hi) : rgB x lo hi = false := rgB_hi (Int32.not_le.mp h)
/-- the three parts of a code -/
theorem cdN_3 {c s : Int32} (o : Bool) (h : stB c s = true) : cdN c s o < 80 ∧ stL (cdN c s o) = [.int c, .int s, .int (bI o)] := by
  simp only [stB, Bool.and_eq_true] at h
  obtain ⟨i, h1, rfl⟩ := rgB_t (n := 3) (by decide) h.1
  obtain ⟨j, h2, rfl⟩ := rgB_t (n := 9) (by decide) h.2
  have e1 : (nI i).toNatClampNeg = i := nI_clamp (by omega)
  have e2 : (nI j).toNatClampNeg = j := nI_clamp (by omega)
  have hb : b1 o ≤ 1 := by cases o <;> decide
  unfold cdN
  rw [e1, e2]
  refine ⟨by omega, ?_⟩
  have a1 : (20 * i + 2 * j + b1 o) / 20 = i := by omega
  have a2 : (20 * i + 2 * j + b1 o) % 20 / 2 = j := by omega
  have a3 : (20 * i + 2 * j + b1 o) % 2 = b1 o := by omega
  have a4 : nI (b1 o) = bI o := by cases o <;> rfl
  show [_, _, _] = _
  rw [a1, a2, a3, a4]
