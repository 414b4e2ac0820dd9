abbrev eO (ci : Nat) (fs : List Value) : va_E := .inr (ci, fs)
abbrev eI (G : ecG) (n : Nat) (f : Nat → Int32) : va_E := .inl (G.2.1 0, n, .inl f)
abbrev eJ (G : ecG) (n : Nat) (f : Nat → Int64) : va_E := .inl (G.2.1 1, n, .inr (.inl f))
abbrev eZ (G : ecG) (n : Nat) (f : Nat → Int32) : va_E := .inl (G.2.1 2, n, .inl f)
abbrev eQ (G : ecG) (n : Nat) (f : Nat → Option Nat) : va_E := .inl (G.2.1 3, n, .inr (.inr (.inr (.inr f))))
/-- the cell q holds e -/
abbrev ecA (G : ecG) (q : Nat) (e : va_E) (H : Heap) : Prop := va_at G.1 ecCl (q, e) H
section ECA
variable {p : Program} {l : Launch} {e : Env} {R : Room} {s : State} {m : MethodId} {args : Array Value} {below : List Frame} {meth : Method} {c : Code} {H : Heap} {locs : List Loc} {cells slots : Nat} {Q : State → Prop}
variable {cc : ByteArray} {pc nL : Nat} {ls : Array Slot} {rest : List Value} {G : ecG} {A : Nat → Prop} {a : Nat} {own : String}
theorem ec_ix {x : Int32} {i n : Nat} (hx : x = nI i) (hi : i < n) (hn : n < 2 ^ 31) : vp_in x n ∧ x.toNatClampNeg = i := by
  subst hx
  exact ⟨vp_in_nI hi hn, nI_clamp (by omega)⟩

theorem ec_iald (hC : CallFix p m c cc nL s args GW own) (hK : ecKx G s) {n : Nat} {f : Nat → Int32} (ha : ecA G a (eI G n f) H) {x : Int32} (i : Nat) (hx : x = nI i) (hi : i < n) (hn : n < 2 ^ 31) (hdg : decode cc pc = .ok (.iaload, 1))
    (kk : W p l e R s m args below meth c H locs cells slots Q (F0 m (pc + 1) ls (.int (f i) :: rest))) : W p l e R s m args below meth c H locs cells slots Q (F0 m pc ls (.int x :: .ref a :: rest)) := by
  obtain ⟨h1, h2⟩ := ec_ix hx hi hn
  refine va_iald hC.1 hC.2.1 hK.1 (ec_one ha) 0 0 rfl rfl h1 hdg ?_
  rw [h2]
  exact kk
theorem ec_lald (hC : CallFix p m c cc nL s args GW own) (hK : ecKx G s) {n : Nat} {f : Nat → Int64} (ha : ecA G a (eJ G n f) H) {x : Int32} (i : Nat) (hx : x = nI i) (hi : i < n) (hn : n < 2 ^ 31) (hdg : decode cc pc = .ok (.laload, 1))
    (kk : W p l e R s m args below meth c H locs cells slots Q (F0 m (pc + 1) ls (.long (f i) :: rest))) : W p l e R s m args below meth c H locs cells slots Q (F0 m pc ls (.int x :: .ref a :: rest)) := by
  obtain ⟨h1, h2⟩ := ec_ix hx hi hn
  refine va_lald hC.1 hC.2.1 hK.1 (ec_one ha) 0 1 rfl rfl h1 hdg ?_
  rw [h2]
  exact kk
theorem ec_zald (hC : CallFix p m c cc nL s args GW own) (hK : ecKx G s) {n : Nat} {f : Nat → Int32} (ha : ecA G a (eZ G n f) H) {x : Int32} (i : Nat) (hx : x = nI i) (hi : i < n) (hn : n < 2 ^ 31) (hdg : decode cc pc = .ok (.baload, 1))
    (kk : W p l e R s m args below meth c H locs cells slots Q (F0 m (pc + 1) ls (.int (f i) :: rest))) : W p l e R s m args below meth c H locs cells slots Q (F0 m pc ls (.int x :: .ref a :: rest)) := by
  obtain ⟨h1, h2⟩ := ec_ix hx hi hn
  refine va_zald hC.1 hC.2.1 hK.1 (ec_one ha) 0 2 rfl rfl h1 hdg ?_
  rw [h2]
  exact kk
theorem ec_aldq (hC : CallFix p m c cc nL s args GW own) (hK : ecKx G s) {n : Nat} {f : Nat → Option Nat} (ha : ecA G a (eQ G n f) H) {x : Int32} (i : Nat) (hx : x = nI i) (hi : i < n) (hn : n < 2 ^ 31) (hdg : decode cc pc = .ok (.aaload, 1))
    (kk : W p l e R s m args below meth c H locs cells slots Q (F0 m (pc + 1) ls (va_rf (f i) :: rest))) : W p l e R s m args below meth c H locs cells slots Q (F0 m pc ls (.int x :: .ref a :: rest)) := by
  obtain ⟨h1, h2⟩ := ec_ix hx hi hn
  refine va_aldq hC.1 hC.2.1 hK.1 (ec_one ha) 0 3 rfl rfl h1 hdg ?_
  rw [h2]
  exact kk
theorem ec_lenI (hC : CallFix p m c cc nL s args GW own) (hK : ecKx G s) {n : Nat} {f : Nat → Int32} (ha : ecA G a (eI G n f) H) (hdg : decode cc pc = .ok (.arraylength, 1))
    (kk : W p l e R s m args below meth c H locs cells slots Q (F0 m (pc + 1) ls (.int (nI n) :: rest))) : W p l e R s m args below meth c H locs cells slots Q (F0 m pc ls (.ref a :: rest)) :=
  va_alen hC.1 hC.2.1 hK.1 (ec_one ha) 0 0 rfl rfl rfl hdg kk
theorem ec_lenJ (hC : CallFix p m c cc nL s args GW own) (hK : ecKx G s) {n : Nat} {f : Nat → Int64} (ha : ecA G a (eJ G n f) H) (hdg : decode cc pc = .ok (.arraylength, 1))
    (kk : W p l e R s m args below meth c H locs cells slots Q (F0 m (pc + 1) ls (.int (nI n) :: rest))) : W p l e R s m args below meth c H locs cells slots Q (F0 m pc ls (.ref a :: rest)) :=
  va_alen hC.1 hC.2.1 hK.1 (ec_one ha) 0 1 rfl rfl rfl hdg kk
theorem ec_lenZ (hC : CallFix p m c cc nL s args GW own) (hK : ecKx G s) {n : Nat} {f : Nat → Int32} (ha : ecA G a (eZ G n f) H) (hdg : decode cc pc = .ok (.arraylength, 1))
    (kk : W p l e R s m args below meth c H locs cells slots Q (F0 m (pc + 1) ls (.int (nI n) :: rest))) : W p l e R s m args below meth c H locs cells slots Q (F0 m pc ls (.ref a :: rest)) :=
  va_alen hC.1 hC.2.1 hK.1 (ec_one ha) 0 2 rfl rfl rfl hdg kk
theorem ec_lenQ (hC : CallFix p m c cc nL s args GW own) (hK : ecKx G s) {n : Nat} {f : Nat → Option Nat} (ha : ecA G a (eQ G n f) H) (hdg : decode cc pc = .ok (.arraylength, 1))
    (kk : W p l e R s m args below meth c H locs cells slots Q (F0 m (pc + 1) ls (.int (nI n) :: rest))) : W p l e R s m args below meth c H locs cells slots Q (F0 m pc ls (.ref a :: rest)) :=
  va_alen hC.1 hC.2.1 hK.1 (ec_one ha) 0 3 rfl rfl rfl hdg kk
theorem ec_iast (hC : CallFix p m c cc nL s args GW own) (hK : ecKx G s) {H0 : Heap} (hS : va_S A H0 H locs) {n : Nat} {f : Nat → Int32} (ha : ecA G a (eI G n f) H) (hA : A a) {y : Int32} {x : Int32} (i : Nat) (hy : y = nI i) (hi : i < n) (hn : n < 2 ^ 31) (hdg : decode cc pc = .ok (.iastore, 1))
    (kk : ∀ (H1 : Heap) (locs1 : List Loc), ecA G a (eI G n (upd f i x)) H1 → (∀ q : Nat, q ≠ a → H1[q]? = H[q]?) → H1.size = H.size → va_S A H0 H1 locs1 → W p l e R s m args below meth c H1 locs1 cells slots Q (F0 m (pc + 1) ls rest)) : W p l e R s m args below meth c H locs cells slots Q (F0 m pc ls (.int x :: .int y :: .ref a :: rest)) := by
  obtain ⟨h1, h2⟩ := ec_ix hy hi hn
  refine W.iast hC.1 hC.2.1 (ec_one ha 0 _ rfl) ((hK.1.2 0 _ rfl).1 n (fun j => .int (f j))) (fun q => by cases q) (by show ¬ (y < 0 ∨ (arrV _ _ _).slots.size ≤ _); rw [arrV_size]; exact h1) rfl rfl hdg fun H1 e z oq => ?_
  refine kk H1 _ ?_ oq z (hS.put z oq hA)
  show H1[a]? = some (vp_cell _ _)
  rw [e]
  rw [vp_cell_i, vp_cell_i, arrV_store, h2]
  congr 2
  funext q
  by_cases hq : q = i
  · subst hq
    simp [updV, upd]
  · simp [updV, upd, hq]
theorem ec_last (hC : CallFix p m c cc nL s args GW own) (hK : ecKx G s) {H0 : Heap} (hS : va_S A H0 H locs) {n : Nat} {f : Nat → Int64} (ha : ecA G a (eJ G n f) H) (hA : A a) {y : Int32} {x : Int64} (i : Nat) (hy : y = nI i) (hi : i < n) (hn : n < 2 ^ 31) (hdg : decode cc pc = .ok (.lastore, 1))
    (kk : ∀ (H1 : Heap) (locs1 : List Loc), ecA G a (eJ G n (vp_updL f i x)) H1 → (∀ q : Nat, q ≠ a → H1[q]? = H[q]?) → H1.size = H.size → va_S A H0 H1 locs1 → W p l e R s m args below meth c H1 locs1 cells slots Q (F0 m (pc + 1) ls rest)) : W p l e R s m args below meth c H locs cells slots Q (F0 m pc ls (.long x :: .int y :: .ref a :: rest)) := by
  obtain ⟨h1, h2⟩ := ec_ix hy hi hn
  refine W.last hC.1 hC.2.1 (ec_one ha 0 _ rfl) ((hK.1.2 1 _ rfl).1 n (fun j => .long (f j))) (fun q => by cases q) (by show ¬ (y < 0 ∨ (arrV _ _ _).slots.size ≤ _); rw [arrV_size]; exact h1) rfl rfl hdg fun H1 e z oq => ?_
  refine kk H1 _ ?_ oq z (hS.put z oq hA)
  show H1[a]? = some (vp_cell _ _)
  rw [e]
  rw [vp_cell_l, vp_cell_l, arrV_store, h2]
  congr 2
  funext q
  by_cases hq : q = i
  · subst hq
    simp [updV, vp_updL]
  · simp [updV, vp_updL, hq]
theorem ec_cb (n : Nat) (ty : FieldType) (hn : n < 2 ^ 20) (h : componentBytes ty ≤ 8) : n * componentBytes ty ≤ 536870912 := Nat.le_trans (Nat.mul_le_mul (Nat.le_of_lt hn) h) (by decide)
/-- a truth value as an int -/
def bI (b : Bool) : Int32 := if b = true then 1 else 0
theorem bI_nar (b : Bool) : narrow .boolean (.int (bI b)) = .int (bI b) := by cases b <;> rfl
theorem bI_vp (b : Bool) : vp_nar .boolean (bI b) = bI b := by cases b <;> rfl
theorem bI_fit (b : Bool) : fits .boolean (.int (bI b)) = true := by cases b <;> rfl
theorem bI_t : bI true = 1 := rfl
theorem bI_f : bI false = 0 := rfl
theorem bI_0 (b : Bool) : bI b = 0 ↔ b = false := by cases b <;> decide
theorem bI_n0 (b : Bool) : ¬ bI b = 0 ↔ b = true := by cases b <;> decide
theorem ec_zast (hC : CallFix p m c cc nL s args GW own) (hK : ecKx G s) {H0 : Heap} (hS : va_S A H0 H locs) {n : Nat} {f : Nat → Int32} (ha : ecA G a (eZ G n f) H) (hA : A a) {y : Int32} {b : Bool} (i : Nat) (hy : y = nI i) (hi : i < n) (hn : n < 2 ^ 31) (hdg : decode cc pc = .ok (.bastore, 1))
    (kk : ∀ (H1 : Heap) (locs1 : List Loc), ecA G a (eZ G n (upd f i (bI b))) H1 → (∀ q : Nat, q ≠ a → H1[q]? = H[q]?) → H1.size = H.size → va_S A H0 H1 locs1 → W p l e R s m args below meth c H1 locs1 cells slots Q (F0 m (pc + 1) ls rest)) : W p l e R s m args below meth c H locs cells slots Q (F0 m pc ls (.int (bI b) :: .int y :: .ref a :: rest)) := by
  obtain ⟨h1, h2⟩ := ec_ix hy hi hn
  refine W.zast hC.1 hC.2.1 (ec_one ha 0 _ rfl) ((hK.1.2 2 _ rfl).1 n (fun j => .int (f j))) (fun q => by cases q) (by show ¬ (y < 0 ∨ (arrV _ _ _).slots.size ≤ _); rw [arrV_size]; exact h1) rfl rfl hdg fun H1 e z oq => ?_
  refine kk H1 _ ?_ oq z (hS.put z oq hA)
  show H1[a]? = some (vp_cell _ _)
  rw [e]
  rw [vp_cell_i, vp_cell_i, arrV_store, h2]
  congr 2
  funext q
  by_cases hq : q = i
  · subst hq
    simp [updV, upd, bI_nar]
  · simp [updV, upd, hq]
theorem ec_astq (hC : CallFix p m c cc nL s args GW own) (hK : ecKx G s) {H0 : Heap} (hS : va_S A H0 H locs) {n : Nat} {f : Nat → Option Nat} (ha : ecA G a (eQ G n f) H) (hA : A a) {v : Nat} (hr : va_Any "java/lang/Object" s H v) {y : Int32} (i : Nat) (hy : y = nI i) (hi : i < n) (hn : n < 2 ^ 31) (hdg : decode cc pc = .ok (.aastore, 1))
    (kk : ∀ (H1 : Heap) (locs1 : List Loc), ecA G a (eQ G n (va_up f i (some v))) H1 → (∀ q : Nat, q ≠ a → H1[q]? = H[q]?) → H1.size = H.size → va_S A H0 H1 locs1 → W p l e R s m args below meth c H1 locs1 cells slots Q (F0 m (pc + 1) ls rest)) : W p l e R s m args below meth c H locs cells slots Q (F0 m pc ls (.ref v :: .int y :: .ref a :: rest)) := by
  obtain ⟨h1, h2⟩ := ec_ix hy hi hn
  have h0 : ¬ y < 0 := fun q => h1 (Or.inl q)
  obtain ⟨cellV, g1, g2, ⟨kC, g3⟩, g4⟩ := hr
  obtain ⟨kA, comp, k1, k2, k3, -⟩ := (hK.1.2 3 _ rfl).2
  refine W.aast hC.1 hC.2.1 (ec_one ha 0 _ rfl) (fun q h => by cases h) (fun h => by cases h) k1 k2 rfl (Vm.findClass_spec k3).choose_spec.1 ⟨h0, by show _ < (arrV _ _ _).slots.size; rw [arrV_size, h2]; exact hi⟩ g1 (fun q h => by rw [h] at g2; cases g2) g3 (g4 comp k3) rfl rfl hdg fun H1 e z oq => ?_
  refine kk H1 _ ?_ oq z (hS.put z oq hA)
  show H1[a]? = some (vp_cell _ _)
  rw [e]
  rw [vp_cell_q, vp_cell_q, arrV_store, h2]
  congr 2
  funext q
  by_cases hq : q = i
  · subst hq
    simp [updV, va_up, va_rf]
  · simp [updV, va_up, hq]
theorem ec_newI (hC : CallFix p m c cc nL s args GW own) (hK : ecKx G s) {H0 : Heap} (hS : va_S A H0 H locs) (hw : Cond.arrayClass .int ∈ GW) {y : Int32} (n : Nat) (hy : y = nI n) (hn : n < 2 ^ 20) (hcells : cells + 1 ≤ R.cells) (hslots : slots + n ≤ R.slots) (hdg : decode cc pc = .ok (.newarray .int, 2))
    (kk : ∀ (q : Nat) (H1 : Heap), q = H.size → ecA G q (eI G n (fun _ => (0 : Int32))) H1 → ecKp H H1 → va_S A H0 H1 locs → H1.size = H.size + 1 → W p l e R s m args below meth c H1 locs (cells + 1) (slots + n) Q (F0 m (pc + 2) ls (.ref q :: rest))) : W p l e R s m args below meth c H locs cells slots Q (F0 m pc ls (.int y :: rest)) := by
  subst hy
  have h31 : n < 2 ^ 31 := by omega
  refine va_newaK (atype := .int) hC.1 hC.2.1 (hC.2.2.2.2 _ hw) rfl hdg rfl (nI_pos h31) (nI_clamp h31) (ec_cb n _ hn (by decide)) hcells hslots rfl fun H1 cA e1 z1 o1 hAr hNm => ?_
  have hcA : G.2.1 0 = cA := Option.some.inj (((hK.1.2 0 _ rfl).2 : s.vm.findClass _ = some _).symm.trans hNm)
  refine kk H.size H1 rfl ?_ ⟨by omega, o1⟩ ⟨Nat.le_trans hS.1 (by omega), fun x h1 h2 => (o1 x (Nat.lt_of_lt_of_le h1 hS.1)).trans (hS.2.1 x h1 h2), hS.2.2⟩ z1
  show H1[H.size]? = some (vp_cell _ _)
  rw [e1, ← hcA]
  rfl
theorem ec_newJ (hC : CallFix p m c cc nL s args GW own) (hK : ecKx G s) {H0 : Heap} (hS : va_S A H0 H locs) (hw : Cond.arrayClass .long ∈ GW) {y : Int32} (n : Nat) (hy : y = nI n) (hn : n < 2 ^ 20) (hcells : cells + 1 ≤ R.cells) (hslots : slots + n ≤ R.slots) (hdg : decode cc pc = .ok (.newarray .long, 2))
    (kk : ∀ (q : Nat) (H1 : Heap), q = H.size → ecA G q (eJ G n (fun _ => (0 : Int64))) H1 → ecKp H H1 → va_S A H0 H1 locs → H1.size = H.size + 1 → W p l e R s m args below meth c H1 locs (cells + 1) (slots + n) Q (F0 m (pc + 2) ls (.ref q :: rest))) : W p l e R s m args below meth c H locs cells slots Q (F0 m pc ls (.int y :: rest)) := by
  subst hy
  have h31 : n < 2 ^ 31 := by omega
  refine va_newaK (atype := .long) hC.1 hC.2.1 (hC.2.2.2.2 _ hw) rfl hdg rfl (nI_pos h31) (nI_clamp h31) (ec_cb n _ hn (by decide)) hcells hslots rfl fun H1 cA e1 z1 o1 hAr hNm => ?_
  have hcA : G.2.1 1 = cA := Option.some.inj (((hK.1.2 1 _ rfl).2 : s.vm.findClass _ = some _).symm.trans hNm)
  refine kk H.size H1 rfl ?_ ⟨by omega, o1⟩ ⟨Nat.le_trans hS.1 (by omega), fun x h1 h2 => (o1 x (Nat.lt_of_lt_of_le h1 hS.1)).trans (hS.2.1 x h1 h2), hS.2.2⟩ z1
  show H1[H.size]? = some (vp_cell _ _)
  rw [e1, ← hcA]
  rfl
theorem ec_newZ (hC : CallFix p m c cc nL s args GW own) (hK : ecKx G s) {H0 : Heap} (hS : va_S A H0 H locs) (hw : Cond.arrayClass .boolean ∈ GW) {y : Int32} (n : Nat) (hy : y = nI n) (hn : n < 2 ^ 20) (hcells : cells + 1 ≤ R.cells) (hslots : slots + n ≤ R.slots) (hdg : decode cc pc = .ok (.newarray .boolean, 2))
    (kk : ∀ (q : Nat) (H1 : Heap), q = H.size → ecA G q (eZ G n (fun _ => (0 : Int32))) H1 → ecKp H H1 → va_S A H0 H1 locs → H1.size = H.size + 1 → W p l e R s m args below meth c H1 locs (cells + 1) (slots + n) Q (F0 m (pc + 2) ls (.ref q :: rest))) : W p l e R s m args below meth c H locs cells slots Q (F0 m pc ls (.int y :: rest)) := by
  subst hy
  have h31 : n < 2 ^ 31 := by omega
  refine va_newaK (atype := .boolean) hC.1 hC.2.1 (hC.2.2.2.2 _ hw) rfl hdg rfl (nI_pos h31) (nI_clamp h31) (ec_cb n _ hn (by decide)) hcells hslots rfl fun H1 cA e1 z1 o1 hAr hNm => ?_
  have hcA : G.2.1 2 = cA := Option.some.inj (((hK.1.2 2 _ rfl).2 : s.vm.findClass _ = some _).symm.trans hNm)
  refine kk H.size H1 rfl ?_ ⟨by omega, o1⟩ ⟨Nat.le_trans hS.1 (by omega), fun x h1 h2 => (o1 x (Nat.lt_of_lt_of_le h1 hS.1)).trans (hS.2.1 x h1 h2), hS.2.2⟩ z1
  show H1[H.size]? = some (vp_cell _ _)
  rw [e1, ← hcA]
  rfl
theorem ec_newQ (hC : CallFix p m c cc nL s args GW own) (hK : ecKx G s) {H0 : Heap} (hS : va_S A H0 H locs) {index : Nat} (hw : Cond.classLink own index "java/lang/Object" ∈ GW) {y : Int32} (n : Nat) (hy : y = nI n) (hn : n < 2 ^ 20) (hcells : cells + 1 ≤ R.cells) (hslots : slots + n ≤ R.slots) (hdg : decode cc pc = .ok (.anewarray index, 3))
    (kk : ∀ (q : Nat) (H1 : Heap), q = H.size → ecA G q (eQ G n (fun _ => none)) H1 → ecKp H H1 → va_S A H0 H1 locs → H1.size = H.size + 1 → W p l e R s m args below meth c H1 locs (cells + 1) (slots + n) Q (F0 m (pc + 3) ls (.ref q :: rest))) : W p l e R s m args below meth c H locs cells slots Q (F0 m pc ls (.int y :: rest)) := by
  subst hy
  have h31 : n < 2 ^ 31 := by omega
  have hcl : (nI n).toNatClampNeg = n := nI_clamp h31
  refine W.anew hC.1 hC.2.1 hC.2.2.2.1 (hC.2.2.2.2 _ hw) (va_AO.use hK.2.2.2.2.1) rfl hdg rfl (nI_pos h31) (by rw [hcl]; omega) hcells (by rw [hcl]; exact hslots) fun cA kA comp f1 f2 f3 f4 => ?_
  rw [hcl]
  have hcA : G.2.1 3 = cA := by
    obtain ⟨kA', comp', -, -, -, h4⟩ := (hK.1.2 3 _ rfl).2
    exact Option.some.inj (h4.symm.trans f1)
  generalize hH1 : H.push ({ cls := cA, slots := Array.replicate n .null, vm := .none } : Cell) = H1
  have z1 : H1.size = H.size + 1 := by rw [← hH1, Array.size_push]
  have e1 : H1[H.size]? = some (arrV cA n (fun _ => .null)) := by rw [← hH1, Array.getElem?_push_size, ← arrV_new]
  have o1 : ∀ q : Nat, q < H.size → H1[q]? = H[q]? := fun q hq => by rw [← hH1, Array.getElem?_push, if_neg (Nat.ne_of_lt hq)]
  refine kk H.size H1 rfl ?_ ⟨by omega, o1⟩ ⟨Nat.le_trans hS.1 (by omega), fun x h1 h2 => (o1 x (Nat.lt_of_lt_of_le h1 hS.1)).trans (hS.2.1 x h1 h2), hS.2.2⟩ z1
  show H1[H.size]? = some (vp_cell _ _)
  rw [e1, ← hcA]
  rfl
end ECA
