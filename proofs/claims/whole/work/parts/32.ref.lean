/-! THE REFERENCE: its object y, its rows ya 0 .. ya 16, all read off the numbers; th: what it says that was thrown. -/
def rfE (G : ecG) (M : ecM) : Nat → va_E
  | 0 => eI G 4 (fun i => nI (M.1 0 i))
  | 1 => eI G 4 (M.2.1 0)
  | 2 => eI G 40 (fun i => nI (M.1 1 i))
  | 3 => eI G 40 (fun i => nI (M.1 2 i))
  | 4 => eI G 40 (M.2.1 1)
  | 5 => eI G 40 (M.2.1 2)
  | 6 => eI G 40 (M.2.1 3)
  | 7 => eI G 160 (M.2.1 4)
  | 8 => eI G 20 (fun i => nI (M.1 3 i))
  | 9 => eJ G 120 (M.2.2)
  | 10 => eI G 120 (M.2.1 5)
  | 11 => eI G 20 (M.2.1 6)
  | 12 => eI G 16 (fun i => nI (M.1 4 i))
  | 13 => eI G 16 (fun i => nI (M.1 5 i))
  | 14 => eI G 16 (M.2.1 7)
  | 15 => eI G 16 (M.2.1 8)
  | _ => eZ G 16 (fun i => nI (M.1 6 i))
def rfV (M : ecM) (th : Int32) (ya : Nat → Nat) : List Value := [.int th, .int (mhr M), .int (mlm M), .int (nI (mnR M)), .ref (ya 0), .ref (ya 1), .int (nI (mnA M)), .ref (ya 2), .ref (ya 3), .ref (ya 4), .ref (ya 5), .ref (ya 6), .ref (ya 7), .int (nI (mnF M)), .ref (ya 8), .ref (ya 9), .ref (ya 10), .ref (ya 11), .int (nI (mnB M)), .ref (ya 12), .ref (ya 13), .ref (ya 14), .ref (ya 15), .ref (ya 16)]
def rfX (G : ecG) (Y : Nat → Prop) (M : ecM) (th : Int32) (y : Nat) (ya : Nat → Nat) (H : Heap) : Prop := ecA G y (eO 6 (rfV M th ya)) H ∧ (∀ k, k < 17 → ecA G (ya k) (rfE G M k) H) ∧ (∀ k, k < 17 → ya k ≠ y) ∧ (∀ i, i < 17 → ∀ j, j < 17 → i ≠ j → ya i ≠ ya j) ∧ Y y ∧ ∀ k, k < 17 → Y (ya k)
section RFX
variable {G : ecG} {Y : Nat → Prop} {M M2 : ecM} {th th2 : Int32} {y : Nat} {ya : Nat → Nat} {H H1 : Heap}
theorem rfX.put (h : rfX G Y M th y ya H) (h9 : ecA G y (eO 6 (rfV M2 th2 ya)) H1) (o9 : ∀ q : Nat, q ≠ y → H1[q]? = H[q]?) (hE : ∀ k, k < 17 → rfE G M2 k = rfE G M k) : rfX G Y M2 th2 y ya H1 := by
  obtain ⟨h1, h2, h3, h4, h5⟩ := h
  exact ⟨h9, fun k hk => by rw [hE k hk]; exact (h2 k hk).kept (o9 _ (h3 k hk)), h3, h4, h5⟩
theorem rfX.set (h : rfX G Y M th y ya H) (k : Nat) (hk : k < 17) (h9 : ecA G (ya k) (rfE G M2 k) H1) (o9 : ∀ q : Nat, q ≠ ya k → H1[q]? = H[q]?) (hV : rfV M2 th ya = rfV M th ya) (hE : ∀ j, j < 17 → j ≠ k → rfE G M2 j = rfE G M j) : rfX G Y M2 th y ya H1 := by
  obtain ⟨h1, h2, h3, h4, h5⟩ := h
  refine ⟨by rw [hV]; exact h1.kept (o9 _ (fun z => h3 k hk z.symm)), fun j hj => ?_, h3, h4, h5⟩
  by_cases hq : j = k
  · subst hq; exact h9
  · rw [hE j hj hq]; exact (h2 j hj).kept (o9 _ (h4 j hj k hk hq))
theorem rfX.kp (h : rfX G Y M th y ya H) (k : ecKp H H1) : rfX G Y M th y ya H1 := ⟨h.1.kp k, fun j hj => (h.2.1 j hj).kp k, h.2.2⟩
theorem rfX.ot {X : Nat → Prop} (h : rfX G Y M th y ya H) (k : ∀ q, q < H.size → ¬ X q → H1[q]? = H[q]?) (n : ∀ q, Y q → ¬ X q) : rfX G Y M th y ya H1 :=
  ⟨h.1.kept (k _ h.1.lt (n _ h.2.2.2.2.1)), fun j hj => (h.2.1 j hj).kept (k _ (h.2.1 j hj).lt (n _ (h.2.2.2.2.2 j hj))), h.2.2⟩
theorem rf_7 (j v : Nat) : ∀ k, k < 17 → rfE G (setN M 7 j v) k = rfE G M k := (lt_s (lt_s (lt_s (lt_s (lt_s (lt_s (lt_s (lt_s (lt_s (lt_s (lt_s (lt_s (lt_s (lt_s (lt_s (lt_s (lt_s lt_0 rfl) rfl) rfl) rfl) rfl) rfl) rfl) rfl) rfl) rfl) rfl) rfl) rfl) rfl) rfl) rfl) rfl)
theorem rf_9 (j : Nat) (v : Int32) : ∀ k, k < 17 → rfE G (setI M 9 j v) k = rfE G M k := (lt_s (lt_s (lt_s (lt_s (lt_s (lt_s (lt_s (lt_s (lt_s (lt_s (lt_s (lt_s (lt_s (lt_s (lt_s (lt_s (lt_s lt_0 rfl) rfl) rfl) rfl) rfl) rfl) rfl) rfl) rfl) rfl) rfl) rfl) rfl) rfl) rfl) rfl) rfl)
theorem rfX.put7 {j v : Nat} (h : rfX G Y M th y ya H) (h9 : ecA G y (eO 6 (rfV (setN M 7 j v) th ya)) H1) (o9 : ∀ q : Nat, q ≠ y → H1[q]? = H[q]?) : rfX G Y (setN M 7 j v) th y ya H1 := h.put h9 o9 (rf_7 _ _)
theorem rfX.put9 {j : Nat} {v : Int32} (h : rfX G Y M th y ya H) (h9 : ecA G y (eO 6 (rfV (setI M 9 j v) th ya)) H1) (o9 : ∀ q : Nat, q ≠ y → H1[q]? = H[q]?) : rfX G Y (setI M 9 j v) th y ya H1 := h.put h9 o9 (rf_9 _ _)
theorem rfX.put0 (h : rfX G Y M th y ya H) (h9 : ecA G y (eO 6 (rfV M th2 ya)) H1) (o9 : ∀ q : Nat, q ≠ y → H1[q]? = H[q]?) : rfX G Y M th2 y ya H1 := h.put h9 o9 (fun _ _ => rfl)
theorem upd_n (f : Nat → Nat) (i v : Nat) : upd (fun j => nI (f j)) i (nI v) = fun j => nI (if j = i then v else f j) := by
  funext j
  show (if j = i then _ else _) = _
  split <;> rfl

theorem rf_s0 {i v : Nat} (h : rfX G Y M th y ya H) (h9 : ecA G (ya 0) (eI G 4 (upd (fun i => nI (M.1 0 i)) i (nI v))) H1) (o9 : ∀ q : Nat, q ≠ ya 0 → H1[q]? = H[q]?) : rfX G Y (setN M 0 i v) th y ya H1 :=
  h.set 0 (by decide) (by rw [upd_n] at h9; exact h9) o9 rfl (lt_s (lt_s (lt_s (lt_s (lt_s (lt_s (lt_s (lt_s (lt_s (lt_s (lt_s (lt_s (lt_s (lt_s (lt_s (lt_s (lt_s lt_0 (fun z => absurd rfl z)) (fun _ => rfl)) (fun _ => rfl)) (fun _ => rfl)) (fun _ => rfl)) (fun _ => rfl)) (fun _ => rfl)) (fun _ => rfl)) (fun _ => rfl)) (fun _ => rfl)) (fun _ => rfl)) (fun _ => rfl)) (fun _ => rfl)) (fun _ => rfl)) (fun _ => rfl)) (fun _ => rfl)) (fun _ => rfl))
theorem rf_s1 {i : Nat} {v : Int32} (h : rfX G Y M th y ya H) (h9 : ecA G (ya 1) (eI G 4 (upd (M.2.1 0) i v)) H1) (o9 : ∀ q : Nat, q ≠ ya 1 → H1[q]? = H[q]?) : rfX G Y (setI M 0 i v) th y ya H1 :=
  h.set 1 (by decide) h9 o9 rfl (lt_s (lt_s (lt_s (lt_s (lt_s (lt_s (lt_s (lt_s (lt_s (lt_s (lt_s (lt_s (lt_s (lt_s (lt_s (lt_s (lt_s lt_0 (fun _ => rfl)) (fun z => absurd rfl z)) (fun _ => rfl)) (fun _ => rfl)) (fun _ => rfl)) (fun _ => rfl)) (fun _ => rfl)) (fun _ => rfl)) (fun _ => rfl)) (fun _ => rfl)) (fun _ => rfl)) (fun _ => rfl)) (fun _ => rfl)) (fun _ => rfl)) (fun _ => rfl)) (fun _ => rfl)) (fun _ => rfl))
theorem rf_s2 {i v : Nat} (h : rfX G Y M th y ya H) (h9 : ecA G (ya 2) (eI G 40 (upd (fun i => nI (M.1 1 i)) i (nI v))) H1) (o9 : ∀ q : Nat, q ≠ ya 2 → H1[q]? = H[q]?) : rfX G Y (setN M 1 i v) th y ya H1 :=
  h.set 2 (by decide) (by rw [upd_n] at h9; exact h9) o9 rfl (lt_s (lt_s (lt_s (lt_s (lt_s (lt_s (lt_s (lt_s (lt_s (lt_s (lt_s (lt_s (lt_s (lt_s (lt_s (lt_s (lt_s lt_0 (fun _ => rfl)) (fun _ => rfl)) (fun z => absurd rfl z)) (fun _ => rfl)) (fun _ => rfl)) (fun _ => rfl)) (fun _ => rfl)) (fun _ => rfl)) (fun _ => rfl)) (fun _ => rfl)) (fun _ => rfl)) (fun _ => rfl)) (fun _ => rfl)) (fun _ => rfl)) (fun _ => rfl)) (fun _ => rfl)) (fun _ => rfl))
theorem rf_s3 {i v : Nat} (h : rfX G Y M th y ya H) (h9 : ecA G (ya 3) (eI G 40 (upd (fun i => nI (M.1 2 i)) i (nI v))) H1) (o9 : ∀ q : Nat, q ≠ ya 3 → H1[q]? = H[q]?) : rfX G Y (setN M 2 i v) th y ya H1 :=
  h.set 3 (by decide) (by rw [upd_n] at h9; exact h9) o9 rfl (lt_s (lt_s (lt_s (lt_s (lt_s (lt_s (lt_s (lt_s (lt_s (lt_s (lt_s (lt_s (lt_s (lt_s (lt_s (lt_s (lt_s lt_0 (fun _ => rfl)) (fun _ => rfl)) (fun _ => rfl)) (fun z => absurd rfl z)) (fun _ => rfl)) (fun _ => rfl)) (fun _ => rfl)) (fun _ => rfl)) (fun _ => rfl)) (fun _ => rfl)) (fun _ => rfl)) (fun _ => rfl)) (fun _ => rfl)) (fun _ => rfl)) (fun _ => rfl)) (fun _ => rfl)) (fun _ => rfl))
theorem rf_s4 {i : Nat} {v : Int32} (h : rfX G Y M th y ya H) (h9 : ecA G (ya 4) (eI G 40 (upd (M.2.1 1) i v)) H1) (o9 : ∀ q : Nat, q ≠ ya 4 → H1[q]? = H[q]?) : rfX G Y (setI M 1 i v) th y ya H1 :=
  h.set 4 (by decide) h9 o9 rfl (lt_s (lt_s (lt_s (lt_s (lt_s (lt_s (lt_s (lt_s (lt_s (lt_s (lt_s (lt_s (lt_s (lt_s (lt_s (lt_s (lt_s lt_0 (fun _ => rfl)) (fun _ => rfl)) (fun _ => rfl)) (fun _ => rfl)) (fun z => absurd rfl z)) (fun _ => rfl)) (fun _ => rfl)) (fun _ => rfl)) (fun _ => rfl)) (fun _ => rfl)) (fun _ => rfl)) (fun _ => rfl)) (fun _ => rfl)) (fun _ => rfl)) (fun _ => rfl)) (fun _ => rfl)) (fun _ => rfl))
theorem rf_s5 {i : Nat} {v : Int32} (h : rfX G Y M th y ya H) (h9 : ecA G (ya 5) (eI G 40 (upd (M.2.1 2) i v)) H1) (o9 : ∀ q : Nat, q ≠ ya 5 → H1[q]? = H[q]?) : rfX G Y (setI M 2 i v) th y ya H1 :=
  h.set 5 (by decide) h9 o9 rfl (lt_s (lt_s (lt_s (lt_s (lt_s (lt_s (lt_s (lt_s (lt_s (lt_s (lt_s (lt_s (lt_s (lt_s (lt_s (lt_s (lt_s lt_0 (fun _ => rfl)) (fun _ => rfl)) (fun _ => rfl)) (fun _ => rfl)) (fun _ => rfl)) (fun z => absurd rfl z)) (fun _ => rfl)) (fun _ => rfl)) (fun _ => rfl)) (fun _ => rfl)) (fun _ => rfl)) (fun _ => rfl)) (fun _ => rfl)) (fun _ => rfl)) (fun _ => rfl)) (fun _ => rfl)) (fun _ => rfl))
theorem rf_s6 {i : Nat} {v : Int32} (h : rfX G Y M th y ya H) (h9 : ecA G (ya 6) (eI G 40 (upd (M.2.1 3) i v)) H1) (o9 : ∀ q : Nat, q ≠ ya 6 → H1[q]? = H[q]?) : rfX G Y (setI M 3 i v) th y ya H1 :=
  h.set 6 (by decide) h9 o9 rfl (lt_s (lt_s (lt_s (lt_s (lt_s (lt_s (lt_s (lt_s (lt_s (lt_s (lt_s (lt_s (lt_s (lt_s (lt_s (lt_s (lt_s lt_0 (fun _ => rfl)) (fun _ => rfl)) (fun _ => rfl)) (fun _ => rfl)) (fun _ => rfl)) (fun _ => rfl)) (fun z => absurd rfl z)) (fun _ => rfl)) (fun _ => rfl)) (fun _ => rfl)) (fun _ => rfl)) (fun _ => rfl)) (fun _ => rfl)) (fun _ => rfl)) (fun _ => rfl)) (fun _ => rfl)) (fun _ => rfl))
theorem rf_s7 {i : Nat} {v : Int32} (h : rfX G Y M th y ya H) (h9 : ecA G (ya 7) (eI G 160 (upd (M.2.1 4) i v)) H1) (o9 : ∀ q : Nat, q ≠ ya 7 → H1[q]? = H[q]?) : rfX G Y (setI M 4 i v) th y ya H1 :=
  h.set 7 (by decide) h9 o9 rfl (lt_s (lt_s (lt_s (lt_s (lt_s (lt_s (lt_s (lt_s (lt_s (lt_s (lt_s (lt_s (lt_s (lt_s (lt_s (lt_s (lt_s lt_0 (fun _ => rfl)) (fun _ => rfl)) (fun _ => rfl)) (fun _ => rfl)) (fun _ => rfl)) (fun _ => rfl)) (fun _ => rfl)) (fun z => absurd rfl z)) (fun _ => rfl)) (fun _ => rfl)) (fun _ => rfl)) (fun _ => rfl)) (fun _ => rfl)) (fun _ => rfl)) (fun _ => rfl)) (fun _ => rfl)) (fun _ => rfl))
theorem rf_s8 {i v : Nat} (h : rfX G Y M th y ya H) (h9 : ecA G (ya 8) (eI G 20 (upd (fun i => nI (M.1 3 i)) i (nI v))) H1) (o9 : ∀ q : Nat, q ≠ ya 8 → H1[q]? = H[q]?) : rfX G Y (setN M 3 i v) th y ya H1 :=
  h.set 8 (by decide) (by rw [upd_n] at h9; exact h9) o9 rfl (lt_s (lt_s (lt_s (lt_s (lt_s (lt_s (lt_s (lt_s (lt_s (lt_s (lt_s (lt_s (lt_s (lt_s (lt_s (lt_s (lt_s lt_0 (fun _ => rfl)) (fun _ => rfl)) (fun _ => rfl)) (fun _ => rfl)) (fun _ => rfl)) (fun _ => rfl)) (fun _ => rfl)) (fun _ => rfl)) (fun z => absurd rfl z)) (fun _ => rfl)) (fun _ => rfl)) (fun _ => rfl)) (fun _ => rfl)) (fun _ => rfl)) (fun _ => rfl)) (fun _ => rfl)) (fun _ => rfl))
theorem rf_s9 {i : Nat} {v : Int64} (h : rfX G Y M th y ya H) (h9 : ecA G (ya 9) (eJ G 120 (vp_updL M.2.2 i v)) H1) (o9 : ∀ q : Nat, q ≠ ya 9 → H1[q]? = H[q]?) : rfX G Y (setJ M i v) th y ya H1 :=
  h.set 9 (by decide) h9 o9 rfl (lt_s (lt_s (lt_s (lt_s (lt_s (lt_s (lt_s (lt_s (lt_s (lt_s (lt_s (lt_s (lt_s (lt_s (lt_s (lt_s (lt_s lt_0 (fun _ => rfl)) (fun _ => rfl)) (fun _ => rfl)) (fun _ => rfl)) (fun _ => rfl)) (fun _ => rfl)) (fun _ => rfl)) (fun _ => rfl)) (fun _ => rfl)) (fun z => absurd rfl z)) (fun _ => rfl)) (fun _ => rfl)) (fun _ => rfl)) (fun _ => rfl)) (fun _ => rfl)) (fun _ => rfl)) (fun _ => rfl))
theorem rf_s10 {i : Nat} {v : Int32} (h : rfX G Y M th y ya H) (h9 : ecA G (ya 10) (eI G 120 (upd (M.2.1 5) i v)) H1) (o9 : ∀ q : Nat, q ≠ ya 10 → H1[q]? = H[q]?) : rfX G Y (setI M 5 i v) th y ya H1 :=
  h.set 10 (by decide) h9 o9 rfl (lt_s (lt_s (lt_s (lt_s (lt_s (lt_s (lt_s (lt_s (lt_s (lt_s (lt_s (lt_s (lt_s (lt_s (lt_s (lt_s (lt_s lt_0 (fun _ => rfl)) (fun _ => rfl)) (fun _ => rfl)) (fun _ => rfl)) (fun _ => rfl)) (fun _ => rfl)) (fun _ => rfl)) (fun _ => rfl)) (fun _ => rfl)) (fun _ => rfl)) (fun z => absurd rfl z)) (fun _ => rfl)) (fun _ => rfl)) (fun _ => rfl)) (fun _ => rfl)) (fun _ => rfl)) (fun _ => rfl))
theorem rf_s11 {i : Nat} {v : Int32} (h : rfX G Y M th y ya H) (h9 : ecA G (ya 11) (eI G 20 (upd (M.2.1 6) i v)) H1) (o9 : ∀ q : Nat, q ≠ ya 11 → H1[q]? = H[q]?) : rfX G Y (setI M 6 i v) th y ya H1 :=
  h.set 11 (by decide) h9 o9 rfl (lt_s (lt_s (lt_s (lt_s (lt_s (lt_s (lt_s (lt_s (lt_s (lt_s (lt_s (lt_s (lt_s (lt_s (lt_s (lt_s (lt_s lt_0 (fun _ => rfl)) (fun _ => rfl)) (fun _ => rfl)) (fun _ => rfl)) (fun _ => rfl)) (fun _ => rfl)) (fun _ => rfl)) (fun _ => rfl)) (fun _ => rfl)) (fun _ => rfl)) (fun _ => rfl)) (fun z => absurd rfl z)) (fun _ => rfl)) (fun _ => rfl)) (fun _ => rfl)) (fun _ => rfl)) (fun _ => rfl))
theorem rf_s12 {i v : Nat} (h : rfX G Y M th y ya H) (h9 : ecA G (ya 12) (eI G 16 (upd (fun i => nI (M.1 4 i)) i (nI v))) H1) (o9 : ∀ q : Nat, q ≠ ya 12 → H1[q]? = H[q]?) : rfX G Y (setN M 4 i v) th y ya H1 :=
  h.set 12 (by decide) (by rw [upd_n] at h9; exact h9) o9 rfl (lt_s (lt_s (lt_s (lt_s (lt_s (lt_s (lt_s (lt_s (lt_s (lt_s (lt_s (lt_s (lt_s (lt_s (lt_s (lt_s (lt_s lt_0 (fun _ => rfl)) (fun _ => rfl)) (fun _ => rfl)) (fun _ => rfl)) (fun _ => rfl)) (fun _ => rfl)) (fun _ => rfl)) (fun _ => rfl)) (fun _ => rfl)) (fun _ => rfl)) (fun _ => rfl)) (fun _ => rfl)) (fun z => absurd rfl z)) (fun _ => rfl)) (fun _ => rfl)) (fun _ => rfl)) (fun _ => rfl))
theorem rf_s13 {i v : Nat} (h : rfX G Y M th y ya H) (h9 : ecA G (ya 13) (eI G 16 (upd (fun i => nI (M.1 5 i)) i (nI v))) H1) (o9 : ∀ q : Nat, q ≠ ya 13 → H1[q]? = H[q]?) : rfX G Y (setN M 5 i v) th y ya H1 :=
  h.set 13 (by decide) (by rw [upd_n] at h9; exact h9) o9 rfl (lt_s (lt_s (lt_s (lt_s (lt_s (lt_s (lt_s (lt_s (lt_s (lt_s (lt_s (lt_s (lt_s (lt_s (lt_s (lt_s (lt_s lt_0 (fun _ => rfl)) (fun _ => rfl)) (fun _ => rfl)) (fun _ => rfl)) (fun _ => rfl)) (fun _ => rfl)) (fun _ => rfl)) (fun _ => rfl)) (fun _ => rfl)) (fun _ => rfl)) (fun _ => rfl)) (fun _ => rfl)) (fun _ => rfl)) (fun z => absurd rfl z)) (fun _ => rfl)) (fun _ => rfl)) (fun _ => rfl))
theorem rf_s14 {i : Nat} {v : Int32} (h : rfX G Y M th y ya H) (h9 : ecA G (ya 14) (eI G 16 (upd (M.2.1 7) i v)) H1) (o9 : ∀ q : Nat, q ≠ ya 14 → H1[q]? = H[q]?) : rfX G Y (setI M 7 i v) th y ya H1 :=
  h.set 14 (by decide) h9 o9 rfl (lt_s (lt_s (lt_s (lt_s (lt_s (lt_s (lt_s (lt_s (lt_s (lt_s (lt_s (lt_s (lt_s (lt_s (lt_s (lt_s (lt_s lt_0 (fun _ => rfl)) (fun _ => rfl)) (fun _ => rfl)) (fun _ => rfl)) (fun _ => rfl)) (fun _ => rfl)) (fun _ => rfl)) (fun _ => rfl)) (fun _ => rfl)) (fun _ => rfl)) (fun _ => rfl)) (fun _ => rfl)) (fun _ => rfl)) (fun _ => rfl)) (fun z => absurd rfl z)) (fun _ => rfl)) (fun _ => rfl))
theorem rf_s15 {i : Nat} {v : Int32} (h : rfX G Y M th y ya H) (h9 : ecA G (ya 15) (eI G 16 (upd (M.2.1 8) i v)) H1) (o9 : ∀ q : Nat, q ≠ ya 15 → H1[q]? = H[q]?) : rfX G Y (setI M 8 i v) th y ya H1 :=
  h.set 15 (by decide) h9 o9 rfl (lt_s (lt_s (lt_s (lt_s (lt_s (lt_s (lt_s (lt_s (lt_s (lt_s (lt_s (lt_s (lt_s (lt_s (lt_s (lt_s (lt_s lt_0 (fun _ => rfl)) (fun _ => rfl)) (fun _ => rfl)) (fun _ => rfl)) (fun _ => rfl)) (fun _ => rfl)) (fun _ => rfl)) (fun _ => rfl)) (fun _ => rfl)) (fun _ => rfl)) (fun _ => rfl)) (fun _ => rfl)) (fun _ => rfl)) (fun _ => rfl)) (fun _ => rfl)) (fun z => absurd rfl z)) (fun _ => rfl))
theorem rf_s16 {i v : Nat} (h : rfX G Y M th y ya H) (h9 : ecA G (ya 16) (eZ G 16 (upd (fun i => nI (M.1 6 i)) i (nI v))) H1) (o9 : ∀ q : Nat, q ≠ ya 16 → H1[q]? = H[q]?) : rfX G Y (setN M 6 i v) th y ya H1 :=
  h.set 16 (by decide) (by rw [upd_n] at h9; exact h9) o9 rfl (lt_s (lt_s (lt_s (lt_s (lt_s (lt_s (lt_s (lt_s (lt_s (lt_s (lt_s (lt_s (lt_s (lt_s (lt_s (lt_s (lt_s lt_0 (fun _ => rfl)) (fun _ => rfl)) (fun _ => rfl)) (fun _ => rfl)) (fun _ => rfl)) (fun _ => rfl)) (fun _ => rfl)) (fun _ => rfl)) (fun _ => rfl)) (fun _ => rfl)) (fun _ => rfl)) (fun _ => rfl)) (fun _ => rfl)) (fun _ => rfl)) (fun _ => rfl)) (fun _ => rfl)) (fun z => absurd rfl z))
end RFX
theorem nI_mulN (a b : Nat) : nI a * nI b = nI (a * b) := (Int32.ofNat_mul a b).symm
theorem nI_rem {a d : Nat} (ha : a < 2 ^ 31) (h0 : 0 < d) (hd : d < 2 ^ 31) : nI a - nI a / nI d * nI d = nI (a % d) := by
  rw [pk_div ha h0 hd, nI_mulN, pk_sub (Nat.div_mul_le_self a d), Nat.mul_comm, ← Nat.mod_eq_sub_mul_div]
theorem rg_ix {x : Int32} {n : Nat} (hn : n < 2 ^ 30) : rgB x 0 (nI n - 1) = ixB x n := by
  rcases Nat.eq_zero_or_pos n with rfl | h
  · rw [show nI 0 - 1 = -1 from rfl]
    by_cases q : x < 0
    · rw [rgB_lo q, ixB_lo q]
    · have h1 : (0 : Int32) ≤ x := Int32.not_lt.mp q
      rw [rgB_hi (Int32.lt_of_lt_of_le (by decide) h1), ixB_hi (n := 0) h1]
  · obtain ⟨k, rfl⟩ : ∃ k, n = k + 1 := ⟨n - 1, by omega⟩
    rw [nI_p1]
    by_cases q : x < 0
    · rw [rgB_lo q, ixB_lo q]
    · by_cases q2 : nI k < x
      · have h1 : nI (k + 1) ≤ x := by
          rcases pk_ix x (n := k + 1) (by omega) with z | z | ⟨j, h1, rfl⟩
          · exact absurd z q
          · exact z
          · exact absurd ((nI_ltI (by omega) (by omega)).mp q2) (by omega)
        rw [rgB_hi q2, ixB_hi h1]
      · have h1 : x < nI (k + 1) := Int32.lt_of_le_of_lt (Int32.not_lt.mp q2) (nI_lt (by omega) (by omega))
        rw [rgB_ok q q2, ixB_ok q (Int32.not_le.mpr h1)]
theorem rg_c {x : Int32} (n : Nat) (hn : n < 2 ^ 29) {y : Int32} (hy : y = nI n) : rgB x 0 y = ixB x (n + 1) := by
  rw [← rg_ix (n := n + 1) (by omega), nI_p1, hy]
theorem fz_0 {t : Nat} : bI (decide (0 < t)) = 0 ↔ t = 0 := by rw [bI_0, decide_eq_false_iff_not]; omega
theorem if_th {b : Bool} {x k : Nat} (h : (if b = true then x else k + 1) = 0) : b = true ∧ x = 0 := by
  cases b
  · simp at h
  · exact ⟨rfl, by simpa using h⟩
