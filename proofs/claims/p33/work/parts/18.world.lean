/-! THE CLASS'S WORLD: its cells by a map of addresses ad (0 the laboratory, 1 lists, 2 their rows, 3 rooms, 4 their states, 5 answers, 6 their states, 7 samples, 8 filters, 9 taps, 10 pasts, 11 bookings, 12 their states); tg gives each address a tag, so that cells with other tags are other cells; X: what the class may own. -/
def ecT (G : ecG) (X : Nat → Prop) (tg : Nat → Nat) (H : Heap) (a t : Nat) (e : va_E) : Prop := ecA G a e H ∧ tg a = t ∧ X a
def ecKd (j : Nat) : Nat := if j = 0 then 3 else if j = 1 then 5 else if j = 2 then 8 else 11
def ecLt (G : ecG) (X : Nat → Prop) (tg : Nat → Nat) (H : Heap) (lo da j n : Nat) (f : Nat → Nat) : Prop := ∃ mc : Int32, (n = 0 ∧ ecT G X tg H lo (64 + j) (eO 7 [.int mc, .ref (ecTe G), .int 0])) ∨
  (∃ (cap : Nat) (g : Nat → Option Nat), 10 ≤ cap ∧ cap ≤ 60 ∧ n ≤ cap ∧ ecT G X tg H lo (64 + j) (eO 7 [.int mc, .ref da, .int (nI n)]) ∧ ecT G X tg H da (128 + j) (eQ G cap g) ∧ ∀ i, i < n → g i = some (f i))
def ecRo (G : ecG) (X : Nat → Prop) (tg : Nat → Nat) (ad : Nat → Nat → Nat) (H : Heap) (n : Nat) (rs : Nat → Nat) (rc : Nat → Int32) : Prop := ∀ i, i < n →
  ecT G X tg H (ad 3 i) (192 + i) (eO 3 [.ref (ad 4 i), .int (rc i)]) ∧ ecT G X tg H (ad 4 i) 0 (eO 4 (stL (rs i)))
def ecAn (G : ecG) (X : Nat → Prop) (tg : Nat → Nat) (ad : Nat → Nat → Nat) (H : Heap) (M : ecM) (n : Nat) : Prop := ∀ i, i < n →
  ecT G X tg H (ad 5 i) (320 + i) (eO 0 [.int (nI i), .ref (ad 3 (M.1 1 i)), .ref (ad 6 i), .int (M.2.1 1 i), .ref (ad 7 i), .int (M.2.1 2 i), .int (M.2.1 3 i)]) ∧ ecT G X tg H (ad 6 i) 0 (eO 4 (stL (M.1 2 i))) ∧ ecT G X tg H (ad 7 i) 0 (eI G 4 (smA M i))
def ecFi (G : ecG) (X : Nat → Prop) (tg : Nat → Nat) (ad : Nat → Nat → Nat) (H : Heap) (M : ecM) (n : Nat) : Prop := ∀ i, i < n →
  ecT G X tg H (ad 8 i) (512 + i) (eO 2 [.ref (ad 5 (M.1 3 i)), .ref (ad 9 i), .ref (ad 10 i), .int (M.2.1 6 i)]) ∧ ecT G X tg H (ad 9 i) 0 (eJ G 6 (tpA M i)) ∧ ecT G X tg H (ad 10 i) (640 + i) (eI G 6 (psA M i))
def ecBk (G : ecG) (X : Nat → Prop) (tg : Nat → Nat) (ad : Nat → Nat → Nat) (H : Heap) (M : ecM) (n : Nat) : Prop := ∀ i, i < n →
  ecT G X tg H (ad 11 i) (704 + i) (eO 1 [.int (nI i), .ref (ad 3 (M.1 4 i)), .ref (ad 12 i), .int (M.2.1 7 i), .int (M.2.1 8 i), .int (nI (M.1 6 i))]) ∧ ecT G X tg H (ad 12 i) 0 (eO 4 (stL (M.1 5 i)))
def ecLb (ad : Nat → Nat → Nat) (h lm : Int32) : List Value := [.ref (ad 1 0), .ref (ad 1 1), .ref (ad 1 2), .ref (ad 1 3), .int h, .int lm]
def ecO (G : ecG) (X : Nat → Prop) (M : ecM) (tg : Nat → Nat) (ad : Nat → Nat → Nat) (H : Heap) : Prop :=
  ecT G X tg H (ad 0 0) 1 (eO 5 (ecLb ad (mhr M) (mlm M))) ∧ (∀ j, j < 4 → ecLt G X tg H (ad 1 j) (ad 2 j) j (M.1 7 j) (ad (ecKd j))) ∧
  ecRo G X tg ad H (mnR M) (M.1 0) (M.2.1 0) ∧ ecAn G X tg ad H M (mnA M) ∧ ecFi G X tg ad H M (mnF M) ∧ ecBk G X tg ad H M (mnB M) ∧ WF M
/-- the laboratory x in the state M -/
def EC (G : ecG) (X : Nat → Prop) (M : ecM) (x : Nat) (H : Heap) : Prop := ∃ (tg : Nat → Nat) (ad : Nat → Nat → Nat), ad 0 0 = x ∧ ecO G X M tg ad H
/-- what the frame X of the class is: new cells and none of the old world's -/
def ecXs (G : ecG) (X : Nat → Prop) (H : Heap) : Prop := (∀ q, X q → ecN0 G ≤ q) ∧ (∀ q, H.size ≤ q → X q)
theorem ecXs.le {G : ecG} {X : Nat → Prop} {H H1 : Heap} (h : ecXs G X H) (k : H.size ≤ H1.size) : ecXs G X H1 := ⟨h.1, fun q hq => h.2 q (Nat.le_trans k hq)⟩
section ECWD
variable {G : ecG} {X : Nat → Prop} {M : ecM} {tg tg2 : Nat → Nat} {ad : Nat → Nat → Nat} {H H1 : Heap} {a t b u : Nat} {e e2 : va_E} {Ch : Nat → Prop}
theorem ecT.ne (h : ecT G X tg H a t e) (h2 : ecT G X tg H b u e2) (n : t ≠ u) : a ≠ b := fun z => n (by rw [← h.2.1, ← h2.2.1, z])
/-- a step of the heap that leaves the cells but of the tags Ch -/
def ecSp (tg tg2 : Nat → Nat) (Ch : Nat → Prop) (H H1 : Heap) : Prop := (∀ q, q < H.size → ¬ Ch (tg q) → H1[q]? = H[q]?) ∧ (∀ q, q < H.size → tg2 q = tg q)
theorem ecT.st (h : ecT G X tg H a t e) (k : ecSp tg tg2 Ch H H1) (n : ¬ Ch t) : ecT G X tg2 H1 a t e :=
  ⟨h.1.kept (k.1 a h.1.lt (by rw [h.2.1]; exact n)), (k.2 a h.1.lt).trans h.2.1, h.2.2⟩
theorem ecLt.st {lo da j n : Nat} {f : Nat → Nat} (h : ecLt G X tg H lo da j n f) (k : ecSp tg tg2 Ch H H1) (n1 : ¬ Ch (64 + j)) (n2 : ¬ Ch (128 + j)) : ecLt G X tg2 H1 lo da j n f := by
  obtain ⟨mc, ⟨hn, h⟩ | ⟨cap, g, a1, a2, a3, h, h5, h6⟩⟩ := h
  · exact ⟨mc, Or.inl ⟨hn, h.st k n1⟩⟩
  · exact ⟨mc, Or.inr ⟨cap, g, a1, a2, a3, h.st k n1, h5.st k n2, h6⟩⟩
theorem ecLt.to {lo da j n : Nat} {f f2 : Nat → Nat} (h : ecLt G X tg H lo da j n f) (hf : ∀ i, i < n → f i = f2 i) : ecLt G X tg H lo da j n f2 := by
  obtain ⟨mc, h | ⟨cap, g, a1, a2, a3, h, h5, h6⟩⟩ := h
  · exact ⟨mc, Or.inl h⟩
  · exact ⟨mc, Or.inr ⟨cap, g, a1, a2, a3, h, h5, fun i hi => (h6 i hi).trans (by rw [hf i hi])⟩⟩
theorem ecLt.obj {lo da j n : Nat} {f : Nat → Nat} (h : ecLt G X tg H lo da j n f) : ∃ v0 v1, ecT G X tg H lo (64 + j) (eO 7 [v0, v1, .int (nI n)]) := by
  obtain ⟨mc, ⟨rfl, h⟩ | ⟨cap, g, -, -, -, h, -⟩⟩ := h
  · exact ⟨_, _, h⟩
  · exact ⟨_, _, h⟩
theorem ecLt.el {lo da j n i : Nat} {f : Nat → Nat} (h : ecLt G X tg H lo da j n f) (hi : i < n) : ∃ (v0 : Value) (cap : Nat) (g : Nat → Option Nat), cap ≤ 60 ∧ n ≤ cap ∧ ecA G lo (eO 7 [v0, .ref da, .int (nI n)]) H ∧ ecA G da (eQ G cap g) H ∧ g i = some (f i) := by
  obtain ⟨mc, ⟨rfl, h⟩ | ⟨cap, g, a1, a2, a3, h, h2, h3⟩⟩ := h
  · omega
  · exact ⟨_, cap, g, a2, a3, h.1, h2.1, h3 i hi⟩
/-- before a list grows: its row, or a place for one -/
theorem ecLt.lx {lo da j n : Nat} {f : Nat → Nat} (h : ecLt G X tg H lo da j n f) (hX : ecXs G X H) : ∃ da0, ecLx G lo da0 n f H ∧ ((da0 = da ∧ tg da = 128 + j ∧ da < H.size) ∨ da0 = H.size) ∧ X da0 ∧ da0 ≠ lo := by
  obtain ⟨mc, ⟨hn, h⟩ | ⟨cap, g, a1, a2, a3, h, h2, h3⟩⟩ := h
  · exact ⟨H.size, ⟨mc, Or.inl ⟨hn, h.1⟩⟩, Or.inr rfl, hX.2 _ (Nat.le_refl _), fun z => Nat.ne_of_lt h.1.lt z.symm⟩
  · exact ⟨da, ⟨mc, Or.inr ⟨cap, g, a1, a2, a3, h.1, h2.1, h3⟩⟩, Or.inl ⟨rfl, h2.2.1, h2.1.lt⟩, h2.2.2, h2.ne h (by omega)⟩
/-- .. and behind it -/
theorem ecLt.of {lo da j n : Nat} {f : Nat → Nat} (h : ecLx G lo da n f H) (hn : 0 < n) (h1 : tg lo = 64 + j) (h2 : X lo) (h3 : tg da = 128 + j) (h4 : X da) : ecLt G X tg H lo da j n f := by
  obtain ⟨mc, ⟨h0, -⟩ | ⟨cap, g, a1, a2, a3, h, h5, h6⟩⟩ := h
  · omega
  · exact ⟨mc, Or.inr ⟨cap, g, a1, a2, a3, ⟨h, h1, h2⟩, ⟨h5, h3, h4⟩, h6⟩⟩
theorem ecRo.st {n : Nat} {rs : Nat → Nat} {rc : Nat → Int32} (h : ecRo G X tg ad H n rs rc) (k : ecSp tg tg2 Ch H H1) (n1 : ∀ i, i < n → ¬ Ch (192 + i)) (n0 : ¬ Ch 0) : ecRo G X tg2 ad H1 n rs rc := fun i hi => ⟨(h i hi).1.st k (n1 i hi), (h i hi).2.st k n0⟩
theorem ecAn.st {n : Nat} (h : ecAn G X tg ad H M n) (k : ecSp tg tg2 Ch H H1) (n1 : ∀ i, i < n → ¬ Ch (320 + i)) (n0 : ¬ Ch 0) : ecAn G X tg2 ad H1 M n := fun i hi => ⟨(h i hi).1.st k (n1 i hi), (h i hi).2.1.st k n0, (h i hi).2.2.st k n0⟩
theorem ecFi.st {n : Nat} (h : ecFi G X tg ad H M n) (k : ecSp tg tg2 Ch H H1) (n1 : ∀ i, i < n → ¬ Ch (512 + i)) (n2 : ∀ i, i < n → ¬ Ch (640 + i)) (n0 : ¬ Ch 0) : ecFi G X tg2 ad H1 M n := fun i hi => ⟨(h i hi).1.st k (n1 i hi), (h i hi).2.1.st k n0, (h i hi).2.2.st k (n2 i hi)⟩
theorem ecBk.st {n : Nat} (h : ecBk G X tg ad H M n) (k : ecSp tg tg2 Ch H H1) (n1 : ∀ i, i < n → ¬ Ch (704 + i)) (n0 : ¬ Ch 0) : ecBk G X tg2 ad H1 M n := fun i hi => ⟨(h i hi).1.st k (n1 i hi), (h i hi).2.st k n0⟩
/-- the whole world over a heap that has grown -/
theorem ecO.kp (h : ecO G X M tg ad H) (k : ecKp H H1) : ecO G X M tg ad H1 := by
  have s : ecSp tg tg (fun _ => False) H H1 := ⟨fun q hq _ => k.2 q hq, fun _ _ => rfl⟩
  obtain ⟨h1, h2, h3, h4, h5, h6, h7⟩ := h
  exact ⟨h1.st s id, fun j hj => (h2 j hj).st s id id, h3.st s (fun _ _ => id) id, h4.st s (fun _ _ => id) id, h5.st s (fun _ _ => id) (fun _ _ => id) id, h6.st s (fun _ _ => id) id, h7⟩
theorem EC.kp {x : Nat} (h : EC G X M x H) (k : ecKp H H1) : EC G X M x H1 := by
  obtain ⟨tg, ad, h1, h2⟩ := h
  exact ⟨tg, ad, h1, h2.kp k⟩
/-- .. or in which cells of others have changed -/
theorem ecT.ot {Y : Nat → Prop} (h : ecT G X tg H a t e) (k : ∀ q, q < H.size → ¬ Y q → H1[q]? = H[q]?) (n : ∀ q, X q → ¬ Y q) : ecT G X tg H1 a t e := ⟨h.1.kept (k a h.1.lt (n a h.2.2)), h.2⟩
theorem EC.ot {x : Nat} {Y : Nat → Prop} (h : EC G X M x H) (k : ∀ q, q < H.size → ¬ Y q → H1[q]? = H[q]?) (n : ∀ q, X q → ¬ Y q) : EC G X M x H1 := by
  obtain ⟨tg, ad, h0, h1, h2, h3, h4, h5, h6, h7⟩ := h
  refine ⟨tg, ad, h0, h1.ot k n, fun j hj => ?_, fun i hi => ⟨(h3 i hi).1.ot k n, (h3 i hi).2.ot k n⟩, fun i hi => ⟨(h4 i hi).1.ot k n, (h4 i hi).2.1.ot k n, (h4 i hi).2.2.ot k n⟩, fun i hi => ⟨(h5 i hi).1.ot k n, (h5 i hi).2.1.ot k n, (h5 i hi).2.2.ot k n⟩, fun i hi => ⟨(h6 i hi).1.ot k n, (h6 i hi).2.ot k n⟩, h7⟩
  obtain ⟨mc, ⟨hn, h⟩ | ⟨cap, g, a1, a2, a3, h, h8, h9⟩⟩ := h2 j hj
  · exact ⟨mc, Or.inl ⟨hn, h.ot k n⟩⟩
  · exact ⟨mc, Or.inr ⟨cap, g, a1, a2, a3, h.ot k n, h8.ot k n, h9⟩⟩
end ECWD
