/-! THE WORLD'S STEPS: what each call makes of the numbers, and of the cells. -/
def mesM (M : ecM) (r : Nat) (pl a b c d : Int32) : ecM :=
  setI (setI (setI (setI (setI (setI (setI (setN (setN (setN M 1 (mnA M) r) 2 (mnA M) (M.1 0 r)) 7 1 (mnA M + 1)) 1 (mnA M) pl) 2 (mnA M) (mhr M)) 3 (mnA M) (M.2.1 0 r)) 4 (4 * mnA M) a) 4 (4 * mnA M + 1) b) 4 (4 * mnA M + 2) c) 4 (4 * mnA M + 3) d
def filM (M : ecM) (a : Nat) : ecM :=
  setJ (setJ (setJ (setJ (setJ (setJ (setN (setN M 3 (mnF M) a) 7 2 (mnF M + 1)) (6 * mnF M) (tpF (smA M a) 0)) (6 * mnF M + 1) (tpF (smA M a) 1)) (6 * mnF M + 2) (tpF (smA M a) 2)) (6 * mnF M + 3) (tpF (smA M a) 3)) (6 * mnF M + 4) (tpF (smA M a) 4)) (6 * mnF M + 5) (tpF (smA M a) 5)
def useM (M : ecM) (f : Nat) (x : Int32) : ecM :=
  setI (setI (setI (setI (setI (setI (setI M 5 (6 * f + 5) (M.2.1 5 (6 * f + 4))) 5 (6 * f + 4) (M.2.1 5 (6 * f + 3))) 5 (6 * f + 3) (M.2.1 5 (6 * f + 2))) 5 (6 * f + 2) (M.2.1 5 (6 * f + 1))) 5 (6 * f + 1) (M.2.1 5 (6 * f))) 5 (6 * f) x) 6 f (M.2.1 6 f + 1)
def bokM (M : ecM) (r k : Nat) (f l : Int32) : ecM := setI (setI (setN (setN (setN M 4 (mnB M) r) 5 (mnB M) k) 7 3 (mnB M + 1)) 7 (mnB M) f) 8 (mnB M) l
def addM (M : ecM) : ecM := setN M 7 0 (mnR M + 1)
theorem ite_lt {c : Prop} [Decidable c] {a b n : Nat} (h1 : a < n) (h2 : b < n) : (if c then a else b) < n := by split <;> assumption
theorem WF.gv {M : ecM} {r k : Nat} (h : WF M) (hr : r < mnR M) (hk : k < 80) : WF (gvM M r k) := by
  obtain ⟨a1, a2, a3, a4, a5, a6, a7⟩ := h
  refine ⟨a1, a2, a3, a4, fun i => ?_, fun i hi => ?_, a7⟩
  · show (if i = r then k else M.1 0 i) < 80
    exact ite_lt hk (a5 i)
  · have hn : i ≠ r := fun z => Nat.lt_irrefl _ (Nat.lt_of_lt_of_le hr (z ▸ hi))
    show (if i = r then k else M.1 0 i) = 0 ∧ (if i = r then _ else M.2.1 0 i) = 0
    rw [if_neg hn, if_neg hn]
    exact a6 i hi
theorem WF.add {M : ecM} (h : WF M) (hn : mnR M < 4) : WF (addM M) := by
  obtain ⟨a1, a2, a3, a4, a5, a6, a7, a8, a9, a10⟩ := h
  refine ⟨hn, a2, a3, a4, a5, fun i hi => a6 i (Nat.le_of_succ_le hi), fun i hi => ⟨Nat.lt_succ_of_lt (a7 i hi).1, (a7 i hi).2⟩, a8, fun i hi => ⟨Nat.lt_succ_of_lt (a9 i hi).1, (a9 i hi).2⟩, a10⟩
theorem WF.mes {M : ecM} {r : Nat} {pl a b c d : Int32} (h : WF M) (hr : r < mnR M) (hn : mnA M < 40) : WF (mesM M r pl a b c d) := by
  obtain ⟨a1, a2, a3, a4, a5, a6, a7, a8, a10⟩ := h
  refine ⟨a1, hn, a3, a4, a5, a6, fun i hi => ?_, fun i hi => Nat.lt_succ_of_lt (a8 i hi), a10⟩
  show (if i = mnA M then r else M.1 1 i) < mnR M ∧ (if i = mnA M then M.1 0 r else M.1 2 i) < 80
  have hi : i < mnA M + 1 := hi
  by_cases hq : i = mnA M
  · rw [if_pos hq, if_pos hq]; exact ⟨hr, a5 r⟩
  · rw [if_neg hq, if_neg hq]; exact a7 i (by omega)
theorem WF.fil {M : ecM} {a : Nat} (h : WF M) (ha : a < mnA M) (hn : mnF M < 20) : WF (filM M a) := by
  obtain ⟨a1, a2, a3, a4, a5, a6, a7, a8, a9, a10, a11, a12, a13, a14⟩ := h
  refine ⟨a1, a2, hn, a4, a5, a6, a7, fun i hi => ?_, a9, a10, a11, fun i hi => a12 i (Nat.le_of_succ_le hi), fun j hj => a13 j ?_, a14⟩
  · show (if i = mnF M then a else M.1 3 i) < mnA M
    have hi : i < mnF M + 1 := hi
    by_cases hq : i = mnF M
    · rw [if_pos hq]; exact ha
    · rw [if_neg hq]; exact a8 i (by omega)
  · have hj : 6 * (mnF M + 1) ≤ j := hj
    omega
theorem WF.use {M : ecM} {f : Nat} {x : Int32} (h : WF M) (hf : f < mnF M) : WF (useM M f x) := by
  obtain ⟨a1, a2, a3, a4, a5, a6, a7, a8, a9, a10, a11, a12, a13, a14⟩ := h
  refine ⟨a1, a2, a3, a4, a5, a6, a7, a8, a9, a10, a11, fun i hi => ?_, fun j hj => ?_, a14⟩
  · have hi : mnF M ≤ i := hi
    show (if i = f then _ else M.2.1 6 i) = 0
    rw [if_neg (by omega)]
    exact a12 i hi
  · have hj : 6 * mnF M ≤ j := hj
    show (if j = 6 * f then x else if j = 6 * f + 1 then _ else if j = 6 * f + 2 then _ else if j = 6 * f + 3 then _ else if j = 6 * f + 4 then _ else if j = 6 * f + 5 then _ else M.2.1 5 j) = 0
    rw [if_neg (by omega), if_neg (by omega), if_neg (by omega), if_neg (by omega), if_neg (by omega), if_neg (by omega)]
    exact a13 j hj
theorem WF.bok {M : ecM} {r k : Nat} {f l : Int32} (h : WF M) (hr : r < mnR M) (hk : k < 80) (hl : 0 < l.toInt) (hn : mnB M < 16) : WF (bokM M r k f l) := by
  obtain ⟨a1, a2, a3, a4, a5, a6, a7, a8, a9, a10, a11, a12⟩ := h
  refine ⟨a1, a2, a3, hn, a5, a6, a7, a8, fun i hi => ?_, a10, fun i hi => a11 i (Nat.le_of_succ_le hi), a12⟩
  show (if i = mnB M then r else M.1 4 i) < mnR M ∧ (if i = mnB M then k else M.1 5 i) < 80 ∧ 0 < (if i = mnB M then l else M.2.1 8 i).toInt
  have hi : i < mnB M + 1 := hi
  by_cases hq : i = mnB M
  · rw [if_pos hq, if_pos hq, if_pos hq]; exact ⟨hr, hk, hl⟩
  · rw [if_neg hq, if_neg hq, if_neg hq]; exact a9 i (by omega)
theorem WF.can {M : ecM} {b : Nat} (h : WF M) (hb : b < mnB M) : WF (setN M 6 b 1) := by
  obtain ⟨a1, a2, a3, a4, a5, a6, a7, a8, a9, a10, a11, a12⟩ := h
  refine ⟨a1, a2, a3, a4, a5, a6, a7, a8, a9, fun i => ?_, fun i hi => ?_, a12⟩
  · show (if i = b then 1 else M.1 6 i) ≤ 1
    split
    · exact Nat.le_refl 1
    · exact a10 i
  · have hi : mnB M ≤ i := hi
    show (if i = b then 1 else M.1 6 i) = 0
    rw [if_neg (by omega)]
    exact a11 i hi
theorem WF.lim {M : ecM} {x : Int32} (h : WF M) : WF (setI M 9 1 x) := h
theorem WF.hr {M : ecM} {x : Int32} (h : WF M) (h0 : 0 ≤ x.toInt) (h1 : x.toInt ≤ 9999) : WF (setI M 9 0 x) := by
  obtain ⟨a1, a2, a3, a4, a5, a6, a7, a8, a9, a10, a11, a12, a13, a14, a15⟩ := h
  exact ⟨a1, a2, a3, a4, a5, a6, a7, a8, a9, a10, a11, a12, a13, h0, h1⟩
/-- tags of new cells -/
def tgN (tg : Nat → Nat) (sz da2 t : Nat) (T : Nat → Nat) : Nat → Nat := fun q => if q < sz then tg q else if q = da2 then t else T q
theorem tgN_o {tg T : Nat → Nat} {sz da2 t q : Nat} (h : q < sz) : tgN tg sz da2 t T q = tg q := if_pos h
theorem tgN_d {tg T : Nat → Nat} {sz da2 t : Nat} (h : sz ≤ da2) : tgN tg sz da2 t T da2 = t := by
  unfold tgN; rw [if_neg (Nat.not_lt.mpr h), if_pos rfl]
theorem tgN_n {tg T : Nat → Nat} {sz da2 t q : Nat} (h : sz ≤ q) (h2 : q ≠ da2) : tgN tg sz da2 t T q = T q := by
  unfold tgN; rw [if_neg (Nat.not_lt.mpr h), if_neg h2]
theorem lt_4 {P : Nat → Prop} (h0 : P 0) (h1 : P 1) (h2 : P 2) (h3 : P 3) : ∀ j, j < 4 → P j := lt_s (lt_s (lt_s (lt_s lt_0 h0) h1) h2) h3
section ECUP
variable {G : ecG} {X : Nat → Prop} {M : ecM} {tg : Nat → Nat} {ad : Nat → Nat → Nat} {H H1 : Heap}
/-- a list grows -/
theorem ecO.app {j sz da2 : Nat} {f2 : Nat → Nat} (T : Nat → Nat) (h : ecO G X M tg ad H) (hX : ecXs G X H) (hj : j < 4) (hsz : H.size ≤ sz) (hlx : ecLx G (ad 1 j) da2 (M.1 7 j + 1) f2 H1) (hda : (da2 < H.size ∧ tg da2 = 128 + j ∧ X da2) ∨ sz ≤ da2)
    (hk : ∀ x, x < H.size → tg x ≠ 64 + j → tg x ≠ 128 + j → H1[x]? = H[x]?) : ecSp tg (tgN tg H.size da2 (128 + j) T) (fun t => t = 64 + j ∨ t = 128 + j) H H1 ∧ ecLt G X (tgN tg H.size da2 (128 + j) T) H1 (ad 1 j) da2 j (M.1 7 j + 1) f2 := by
  refine ⟨⟨fun q hq hn => hk q hq (fun z => hn (Or.inl z)) (fun z => hn (Or.inr z)), fun q hq => tgN_o hq⟩, ?_⟩
  obtain ⟨v0, v1, e1⟩ := (h.2.1 j hj).obj
  refine ecLt.of hlx (Nat.succ_pos _) ((tgN_o e1.1.lt).trans e1.2.1) e1.2.2 ?_ ?_
  · rcases hda with q | q
    · exact (tgN_o q.1).trans q.2.1
    · exact tgN_d (Nat.le_trans hsz q)
  · rcases hda with q | q
    · exact q.2.2
    · exact hX.2 _ (Nat.le_trans hsz q)
theorem ecT.new {T : Nat → Nat} {a t sz da2 u : Nat} {e : va_E} (h : ecA G a e H1) (hX : ecXs G X H) (h1 : H.size ≤ a) (h2 : a < sz) (hda : da2 < H.size ∨ sz ≤ da2) (ht : T a = t) : ecT G X (tgN tg H.size da2 u T) H1 a t e :=
  ⟨h, (tgN_n h1 (by omega)).trans ht, hX.2 a h1⟩
theorem ecO.addRoom {sz da2 q1 q2 : Nat} (h : ecO G X M tg ad H) (hX : ecXs G X H) (hn : mnR M < 4) (hsz : H.size ≤ sz) (hlx : ecLx G (ad 1 0) da2 (M.1 7 0 + 1) (fun i => if i = mnR M then q2 else ad 3 i) H1) (hda : (da2 < H.size ∧ tg da2 = 128 + 0 ∧ X da2) ∨ sz ≤ da2)
    (hk : ∀ x, x < H.size → tg x ≠ 64 + 0 → tg x ≠ 128 + 0 → H1[x]? = H[x]?) (h1 : H.size ≤ q1) (h2 : H.size ≤ q2) (h3 : q1 < sz) (h4 : q2 < sz) (hne : q1 ≠ q2) (e1 : ecA G q1 (eO 4 (stL 0)) H1) (e2 : ecA G q2 (eO 3 [.ref q1, .int 0]) H1) :
    ∃ tg2, ecO G X (addM M) tg2 (up2 (up2 (up2 ad 2 0 da2) 3 (mnR M) q2) 4 (mnR M) q1) H1 := by
  have hda' : da2 < H.size ∨ sz ≤ da2 := hda.imp (fun z => z.1) id
  obtain ⟨s, l0⟩ := h.app (fun q => if q = q2 then 192 + mnR M else 0) hX (by decide) hsz hlx hda hk
  obtain ⟨b1, b2, b3, b4, b5, b6, b7⟩ := h
  refine ⟨_, b1.st s (by omega), lt_4 l0 ((b2 1 (by decide)).st s (by omega) (by omega)) ((b2 2 (by decide)).st s (by omega) (by omega)) ((b2 3 (by decide)).st s (by omega) (by omega)), fun i hi => ?_, fun i hi => ?_, b5.st s (fun _ _ => by omega) (fun _ _ => by omega) (by omega), fun i hi => ?_, b7.add hn⟩
  case' refine_2 =>
    have hl : M.1 1 i < mnR M := (b7.an hi).1
    show ecT G X _ H1 (ad 5 i) (320 + i) (eO 0 [.int (nI i), .ref (if M.1 1 i = mnR M then q2 else ad 3 (M.1 1 i)), .ref (ad 6 i), .int (M.2.1 1 i), .ref (ad 7 i), .int (M.2.1 2 i), .int (M.2.1 3 i)]) ∧ _
    rw [if_neg (Nat.ne_of_lt hl)]
    exact b4.st s (fun _ _ => by omega) (by omega) i hi
  case' refine_3 =>
    have hl : M.1 4 i < mnR M := (b7.bk hi).1
    show ecT G X _ H1 (ad 11 i) (704 + i) (eO 1 [.int (nI i), .ref (if M.1 4 i = mnR M then q2 else ad 3 (M.1 4 i)), .ref (ad 12 i), .int (M.2.1 7 i), .int (M.2.1 8 i), .int (nI (M.1 6 i))]) ∧ _
    rw [if_neg (Nat.ne_of_lt hl)]
    exact b6.st s (fun _ _ => by omega) (by omega) i hi
  have hi : i < mnR M + 1 := hi
  show ecT G X _ H1 (if i = mnR M then q2 else ad 3 i) (192 + i) (eO 3 [.ref (if i = mnR M then q1 else ad 4 i), .int (M.2.1 0 i)]) ∧ ecT G X _ H1 (if i = mnR M then q1 else ad 4 i) 0 (eO 4 (stL (M.1 0 i)))
  by_cases hq : i = mnR M
  · subst hq
    have z := b7.2.2.2.2.2.1 (mnR M) (Nat.le_refl _)
    rw [if_pos rfl, if_pos rfl, z.1, z.2]
    exact ⟨ecT.new e2 hX h2 h4 hda' (if_pos rfl), ecT.new e1 hX h1 h3 hda' (if_neg hne)⟩
  · rw [if_neg hq, if_neg hq]
    exact ⟨(b3 i (by omega)).1.st s (by omega), (b3 i (by omega)).2.st s (by omega)⟩
/-- a room takes a state -/
theorem ecO.setRoom {r k q : Nat} (h : ecO G X M tg ad H) (hr : r < mnR M) (hk : k < 80) (hq : ecT G X tg H q 0 (eO 4 (stL k))) (h1 : ecA G (ad 3 r) (eO 3 [.ref q, .int (M.2.1 0 r + nI (dif (M.1 0 r) k))]) H1) (hst : ∀ x, x < H.size → x ≠ ad 3 r → H1[x]? = H[x]?) :
    ecO G X (gvM M r k) tg (up2 ad 4 r q) H1 := by
  obtain ⟨b1, b2, b3, b4, b5, b6, b7⟩ := h
  have hc := b7.n
  have s : ecSp tg tg (fun t => t = 192 + r) H H1 := ⟨fun x hx hn => hst x hx (fun z => hn (by rw [z]; exact (b3 r hr).1.2.1)), fun _ _ => rfl⟩
  refine ⟨b1.st s (by omega), lt_4 ((b2 0 (by decide)).st s (by omega) (by omega)) ((b2 1 (by decide)).st s (by omega) (by omega)) ((b2 2 (by decide)).st s (by omega) (by omega)) ((b2 3 (by decide)).st s (by omega) (by omega)), fun i hi => ?_, fun i hi => ?_, fun i hi => ?_, fun i hi => ?_, b7.gv hr hk⟩
  · have hi : i < mnR M := hi
    show ecT G X tg H1 (ad 3 i) (192 + i) (eO 3 [.ref (if i = r then q else ad 4 i), .int (if i = r then M.2.1 0 r + nI (dif (M.1 0 r) k) else M.2.1 0 i)]) ∧ ecT G X tg H1 (if i = r then q else ad 4 i) 0 (eO 4 (stL (if i = r then k else M.1 0 i)))
    by_cases hq2 : i = r
    · subst hq2
      rw [if_pos rfl, if_pos rfl, if_pos rfl]
      exact ⟨⟨h1, (b3 i hi).1.2⟩, hq.st s (by omega)⟩
    · rw [if_neg hq2, if_neg hq2, if_neg hq2]
      exact ⟨(b3 i hi).1.st s (by omega), (b3 i hi).2.st s (by omega)⟩
  · have hi : i < mnA M := hi
    exact ⟨(b4 i hi).1.st s (by omega), (b4 i hi).2.1.st s (by omega), (b4 i hi).2.2.st s (by omega)⟩
  · have hi : i < mnF M := hi
    exact ⟨(b5 i hi).1.st s (by omega), (b5 i hi).2.1.st s (by omega), (b5 i hi).2.2.st s (by omega)⟩
  · have hi : i < mnB M := hi
    exact ⟨(b6 i hi).1.st s (by omega), (b6 i hi).2.st s (by omega)⟩
/-- the hour, the limit -/
theorem ecO.setHr {x : Int32} (h : ecO G X M tg ad H) (h0 : 0 ≤ x.toInt) (h9 : x.toInt ≤ 9999) (h1 : ecA G (ad 0 0) (eO 5 (ecLb ad x (mlm M))) H1) (hst : ∀ q, q < H.size → q ≠ ad 0 0 → H1[q]? = H[q]?) : ecO G X (setI M 9 0 x) tg ad H1 := by
  obtain ⟨b1, b2, b3, b4, b5, b6, b7⟩ := h
  have s : ecSp tg tg (fun t => t = 1) H H1 := ⟨fun q hq hn => hst q hq (fun z => hn (by rw [z]; exact b1.2.1)), fun _ _ => rfl⟩
  exact ⟨⟨h1, b1.2⟩, lt_4 ((b2 0 (by decide)).st s (by omega) (by omega)) ((b2 1 (by decide)).st s (by omega) (by omega)) ((b2 2 (by decide)).st s (by omega) (by omega)) ((b2 3 (by decide)).st s (by omega) (by omega)), b3.st s (fun _ _ => by omega) (by omega), b4.st s (fun _ _ => by omega) (by omega), b5.st s (fun _ _ => by omega) (fun _ _ => by omega) (by omega), b6.st s (fun _ _ => by omega) (by omega), b7.hr h0 h9⟩
theorem ecO.setLm {x : Int32} (h : ecO G X M tg ad H) (h1 : ecA G (ad 0 0) (eO 5 (ecLb ad (mhr M) x)) H1) (hst : ∀ q, q < H.size → q ≠ ad 0 0 → H1[q]? = H[q]?) : ecO G X (setI M 9 1 x) tg ad H1 := by
  obtain ⟨b1, b2, b3, b4, b5, b6, b7⟩ := h
  have s : ecSp tg tg (fun t => t = 1) H H1 := ⟨fun q hq hn => hst q hq (fun z => hn (by rw [z]; exact b1.2.1)), fun _ _ => rfl⟩
  exact ⟨⟨h1, b1.2⟩, lt_4 ((b2 0 (by decide)).st s (by omega) (by omega)) ((b2 1 (by decide)).st s (by omega) (by omega)) ((b2 2 (by decide)).st s (by omega) (by omega)) ((b2 3 (by decide)).st s (by omega) (by omega)), b3.st s (fun _ _ => by omega) (by omega), b4.st s (fun _ _ => by omega) (by omega), b5.st s (fun _ _ => by omega) (fun _ _ => by omega) (by omega), b6.st s (fun _ _ => by omega) (by omega), b7.lim⟩
/-- a booking is cancelled -/
theorem ecO.cancel {b : Nat} (h : ecO G X M tg ad H) (hb : b < mnB M) (h1 : ecA G (ad 11 b) (eO 1 [.int (nI b), .ref (ad 3 (M.1 4 b)), .ref (ad 12 b), .int (M.2.1 7 b), .int (M.2.1 8 b), .int 1]) H1) (hst : ∀ q, q < H.size → q ≠ ad 11 b → H1[q]? = H[q]?) : ecO G X (setN M 6 b 1) tg ad H1 := by
  obtain ⟨b1, b2, b3, b4, b5, b6, b7⟩ := h
  have s : ecSp tg tg (fun t => t = 704 + b) H H1 := ⟨fun q hq hn => hst q hq (fun z => hn (by rw [z]; exact (b6 b hb).1.2.1)), fun _ _ => rfl⟩
  have hc := b7.n
  refine ⟨b1.st s (by omega), lt_4 ((b2 0 (by decide)).st s (by omega) (by omega)) ((b2 1 (by decide)).st s (by omega) (by omega)) ((b2 2 (by decide)).st s (by omega) (by omega)) ((b2 3 (by decide)).st s (by omega) (by omega)), b3.st s (fun _ _ => by omega) (by omega), b4.st s (fun _ _ => by omega) (by omega), b5.st s (fun _ _ => by omega) (fun _ _ => by omega) (by omega), fun i hi => ?_, b7.can hb⟩
  have hi : i < mnB M := hi
  show ecT G X tg H1 (ad 11 i) (704 + i) (eO 1 [.int (nI i), .ref (ad 3 (M.1 4 i)), .ref (ad 12 i), .int (M.2.1 7 i), .int (M.2.1 8 i), .int (nI (if i = b then 1 else M.1 6 i))]) ∧ ecT G X tg H1 (ad 12 i) 0 (eO 4 (stL (M.1 5 i)))
  by_cases hq2 : i = b
  · subst hq2
    rw [if_pos rfl]
    exact ⟨⟨h1, (b6 i hi).1.2⟩, (b6 i hi).2.st s (by omega)⟩
  · rw [if_neg hq2]
    exact ⟨(b6 i hi).1.st s (by omega), (b6 i hi).2.st s (by omega)⟩
/-- a filter is used -/
theorem ecO.used {f : Nat} {x : Int32} (h : ecO G X M tg ad H) (hf : f < mnF M) (h1 : ecA G (ad 8 f) (eO 2 [.ref (ad 5 (M.1 3 f)), .ref (ad 9 f), .ref (ad 10 f), .int (M.2.1 6 f + 1)]) H1) (h2 : ecA G (ad 10 f) (eI G 6 (psU (psA M f) x)) H1) (hst : ∀ q, q < H.size → q ≠ ad 8 f → q ≠ ad 10 f → H1[q]? = H[q]?) : ecO G X (useM M f x) tg ad H1 := by
  obtain ⟨b1, b2, b3, b4, b5, b6, b7⟩ := h
  have s : ecSp tg tg (fun t => t = 512 + f ∨ t = 640 + f) H H1 := ⟨fun q hq hn => hst q hq (fun z => hn (by rw [z]; exact Or.inl (b5 f hf).1.2.1)) (fun z => hn (by rw [z]; exact Or.inr (b5 f hf).2.2.2.1)), fun _ _ => rfl⟩
  have hc := b7.n
  refine ⟨b1.st s (by omega), lt_4 ((b2 0 (by decide)).st s (by omega) (by omega)) ((b2 1 (by decide)).st s (by omega) (by omega)) ((b2 2 (by decide)).st s (by omega) (by omega)) ((b2 3 (by decide)).st s (by omega) (by omega)), b3.st s (fun _ _ => by omega) (by omega), b4.st s (fun _ _ => by omega) (by omega), fun i hi => ?_, b6.st s (fun _ _ => by omega) (by omega), b7.use hf⟩
  have hi : i < mnF M := hi
  show ecT G X tg H1 (ad 8 i) (512 + i) (eO 2 [.ref (ad 5 (M.1 3 i)), .ref (ad 9 i), .ref (ad 10 i), .int (if i = f then M.2.1 6 f + 1 else M.2.1 6 i)]) ∧ ecT G X tg H1 (ad 9 i) 0 (eJ G 6 (tpA M i)) ∧ ecT G X tg H1 (ad 10 i) (640 + i) (eI G 6 (psA (useM M f x) i))
  have hps : ∀ k, psA (useM M f x) i k = if 6 * i + k = 6 * f then x else if 6 * i + k = 6 * f + 1 then M.2.1 5 (6 * f) else if 6 * i + k = 6 * f + 2 then M.2.1 5 (6 * f + 1) else if 6 * i + k = 6 * f + 3 then M.2.1 5 (6 * f + 2) else if 6 * i + k = 6 * f + 4 then M.2.1 5 (6 * f + 3) else if 6 * i + k = 6 * f + 5 then M.2.1 5 (6 * f + 4) else M.2.1 5 (6 * i + k) := fun k => rfl
  by_cases hq2 : i = f
  · subst hq2
    rw [if_pos rfl]
    refine ⟨⟨h1, (b5 i hi).1.2⟩, (b5 i hi).2.1.st s (by omega), ⟨ecI_to h2 (ec_lt6 ?_ ?_ ?_ ?_ ?_ ?_), (b5 i hi).2.2.2⟩⟩
    all_goals (rw [hps]; simp [psU] <;> rfl)
  · rw [if_neg hq2]
    refine ⟨(b5 i hi).1.st s (by omega), (b5 i hi).2.1.st s (by omega), ?_⟩
    have z := (b5 i hi).2.2.st s (by omega)
    refine ⟨ecI_to z.1 fun k hk => ?_, z.2⟩
    rw [hps, if_neg (by omega), if_neg (by omega), if_neg (by omega), if_neg (by omega), if_neg (by omega), if_neg (by omega)]
end ECUP
