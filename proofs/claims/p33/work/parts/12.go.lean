section ECG
variable {p : Program} {l : Launch} {e : Env} {R : Room} {s : State} {m : MethodId} {args : Array Value} {below : List Frame} {meth : Method} {c : Code} {H : Heap} {locs : List Loc} {cells slots : Nat} {Q : State → Prop}
variable {pc mc ms : Nat} {ls : Array Slot} {rest st0 : List Value} {G : ecG} {A A0 A1 : Nat → Prop} {H0 : Heap} {ar : Array Value} {val : Value} {Φ : Nat → Prop} {vf : Nat → Value} {Po : Heap → Prop} {PoN : Nat → Heap → Prop} {X : String → Prop}
/-- behind a call that only reads: its answer is known -/
theorem ec_go1 (hr : va_Run p l e R s m args below meth c H locs cells slots mc ms (F0 m pc ls st0) rest (ecRp (fun v => v = some val) ar) (fun _ => False))
    (kk : W p l e R s m args below meth c H locs (cells + mc) (slots + ms) Q (F0 m (pc + 3) ls (val :: rest))) : W p l e R s m args below meth c H locs cells slots Q (F0 m pc ls st0) :=
  ec_goR hr (fun v hv => by subst hv; exact kk)
theorem ec_go0 (hr : va_Run p l e R s m args below meth c H locs cells slots mc ms (F0 m pc ls st0) rest (ecRp (fun v => v = none) ar) (fun _ => False))
    (kk : W p l e R s m args below meth c H locs (cells + mc) (slots + ms) Q (F0 m (pc + 3) ls rest)) : W p l e R s m args below meth c H locs cells slots Q (F0 m pc ls st0) :=
  ec_goR hr (fun v hv => by subst hv; exact kk)
/-- .. it changes the cells of A1; its answer is known, it has none, it is a cell -/
theorem ec_goE1 (hr : va_Run p l e R s m args below meth c H locs cells slots mc ms (F0 m pc ls st0) rest (ecEp (fun v H1 => v = some val ∧ Po H1) A1 ar) A1) (hS : va_S A0 H0 H locs) (hA : ∀ q, A1 q → A0 q)
    (kk : ∀ H1 locs1, Po H1 → H.size ≤ H1.size → (∀ q : Nat, q < H.size → ¬ A1 q → H1[q]? = H[q]?) → va_S A0 H0 H1 locs1 → W p l e R s m args below meth c H1 locs1 (cells + mc) (slots + ms) Q (F0 m (pc + 3) ls (val :: rest))) : W p l e R s m args below meth c H locs cells slots Q (F0 m pc ls st0) :=
  ec_goE hr hS hA (fun v H1 locs1 hv hz hk hS1 => by obtain ⟨rfl, hv⟩ := hv; exact kk H1 locs1 hv hz hk hS1)
theorem ec_goE0 (hr : va_Run p l e R s m args below meth c H locs cells slots mc ms (F0 m pc ls st0) rest (ecEp (fun v H1 => v = none ∧ Po H1) A1 ar) A1) (hS : va_S A0 H0 H locs) (hA : ∀ q, A1 q → A0 q)
    (kk : ∀ H1 locs1, Po H1 → H.size ≤ H1.size → (∀ q : Nat, q < H.size → ¬ A1 q → H1[q]? = H[q]?) → va_S A0 H0 H1 locs1 → W p l e R s m args below meth c H1 locs1 (cells + mc) (slots + ms) Q (F0 m (pc + 3) ls rest)) : W p l e R s m args below meth c H locs cells slots Q (F0 m pc ls st0) :=
  ec_goE hr hS hA (fun v H1 locs1 hv hz hk hS1 => by obtain ⟨rfl, hv⟩ := hv; exact kk H1 locs1 hv hz hk hS1)
theorem ec_goEq (hr : va_Run p l e R s m args below meth c H locs cells slots mc ms (F0 m pc ls st0) rest (ecEp (fun v H1 => ∃ q : Nat, v = some (.ref q) ∧ PoN q H1) A1 ar) A1) (hS : va_S A0 H0 H locs) (hA : ∀ q, A1 q → A0 q)
    (kk : ∀ (q : Nat) H1 locs1, PoN q H1 → H.size ≤ H1.size → (∀ q : Nat, q < H.size → ¬ A1 q → H1[q]? = H[q]?) → va_S A0 H0 H1 locs1 → W p l e R s m args below meth c H1 locs1 (cells + mc) (slots + ms) Q (F0 m (pc + 3) ls (.ref q :: rest))) : W p l e R s m args below meth c H locs cells slots Q (F0 m pc ls st0) :=
  ec_goE hr hS hA (fun v H1 locs1 hv hz hk hS1 => by obtain ⟨q, rfl, hv⟩ := hv; exact kk q H1 locs1 hv hz hk hS1)
theorem ec_some {a b : Value} (h : a = b) : some a = some b := congrArg some h
theorem ec_int {a b : Int32} (h : a = b) : some (Value.int a) = some (Value.int b) := by rw [h]
theorem ec_long {a b : Int64} (h : a = b) : some (Value.long a) = some (Value.long b) := by rw [h]
theorem ec_ref {a b : Nat} (h : a = b) : some (Value.ref a) = some (Value.ref b) := by rw [h]
end ECG
/-- a room's, answer's, booking's state as an object -/
abbrev stL (k : Nat) : List Value := [.int (nI (k / 20)), .int (nI (k % 20 / 2)), .int (nI (k % 2))]
theorem nI_x {a b : Nat} (ha : a < 80) (hb : b < 80) : nI a = nI b ↔ a = b := nI_eq (by omega) (by omega)
theorem nI_01 {k : Nat} : narrow .boolean (.int (nI (k % 2))) = .int (nI (k % 2)) := by
  rcases (show k % 2 = 0 ∨ k % 2 = 1 by omega) with h | h <;> rw [h] <;> rfl
theorem nI_01f {k : Nat} : fits .boolean (.int (nI (k % 2))) = true := by
  rcases (show k % 2 = 0 ∨ k % 2 = 1 by omega) with h | h <;> rw [h] <;> rfl
