/-! THE LAW'S WORLD: the laboratory x in the state M, the law's own rows ar 0 .. ar 6 (first and last hours, rooms, curtains, seats, open, gone). -/
def lwF (p : Program) (l : Launch) (s : State) (m : MethodId) (c : Code) (G : ecG) (X : Nat → Prop) (b L : Nat) (xs : Nat → Int32) (ar : Nat → Nat) : Prop :=
  CallFix p m c cL_law 28 s #[Value.ref b] GW RL ∧ l.stackTraces = false ∧ ecOk G s s.heap ∧ va_X b L xs s s.heap ∧ b < s.heap.size ∧ L ≤ 260 ∧ (∀ q : Nat, s.heap.size ≤ q → ecN0 G ≤ q) ∧ (∀ q, X q → s.heap.size ≤ q) ∧ (∀ j, j < 7 → s.heap.size ≤ ar j ∧ ¬ X (ar j)) ∧ (∀ i j, i < 7 → j < 7 → i ≠ j → ar i ≠ ar j)
def lwW (s : State) (G : ecG) (X : Nat → Prop) (x : Nat) (ar : Nat → Nat) (H : Heap) (locs : List Loc) (M : ecM) (g : Nat → Nat → Int32) : Prop :=
  va_S (fun q : Nat => s.heap.size ≤ q) s.heap H locs ∧ ecXs G X H ∧ EC G X M x H ∧ (∀ j, j < 5 → ecA G (ar j) (eI G 17 (g j)) H) ∧ ecA G (ar 5) (eZ G 17 (g 5)) H ∧ ecA G (ar 6) (eZ G 17 (g 6)) H
/-- the law's rows and the bookings -/
def AR (M : ecM) (g : Nat → Nat → Int32) : Prop := (∀ k, k < mnB M → g 0 k = M.2.1 7 k ∧ g 1 k = M.2.1 8 k ∧ g 2 k = nI (M.1 4 k) ∧ g 3 k = nI (M.1 5 k / 20) ∧ g 4 k = nI (M.1 5 k % 20 / 2) ∧ g 5 k = nI (M.1 5 k % 2)) ∧ ∀ k, g 6 k = nI (M.1 6 k)
theorem AR.to {M N : ecM} {g : Nat → Nat → Int32} (h : AR M g) (hn : mnB N = mnB M) (h4 : N.1 4 = M.1 4) (h5 : N.1 5 = M.1 5) (h6 : N.1 6 = M.1 6) (h7 : N.2.1 7 = M.2.1 7) (h8 : N.2.1 8 = M.2.1 8) : AR N g := by
  unfold AR
  rw [hn, h4, h5, h6, h7, h8]
  exact h
theorem AR.u {M N : ecM} {g : Nat → Nat → Int32} (h : AR M g) (u : uE M N) : AR N g :=
  h.to (by show N.1 7 3 = _; rw [u.1]) (by rw [u.1]) (by rw [u.1]) (by rw [u.1]) (u.2.2 7 (by decide) (by decide)) (u.2.2 8 (by decide) (by decide))
theorem up2_f {α : Type} {f : Nat → Nat → α} {k i a : Nat} {v : α} (h : a ≠ k) : up2 f k i v a = f a := by funext j; exact up2_k h
theorem gv_n (M : ecM) (r k : Nat) {j : Nat} (h : j ≠ 0) : (gvM M r k).1 j = M.1 j := funext fun i => (show up2 M.1 0 r k j i = M.1 j i from up2_k h)
theorem gv_i (M : ecM) (r k : Nat) {j : Nat} (h : j ≠ 0) : (gvM M r k).2.1 j = M.2.1 j := funext fun i => (show up2 M.2.1 0 r (M.2.1 0 r + nI (dif (M.1 0 r) k)) j i = M.2.1 j i from up2_k h)
theorem AR.gv {M : ecM} {g : Nat → Nat → Int32} (h : AR M g) (r k : Nat) : AR (gvM M r k) g :=
  h.to (congrFun (gv_n M r k (j := 7) (by decide)) 3) (gv_n M r k (by decide)) (gv_n M r k (by decide)) (gv_n M r k (by decide)) (gv_i M r k (by decide)) (gv_i M r k (by decide))
theorem hr_f (M : ecM) : (∀ j, j ≠ 0 → (hrM M).1 j = M.1 j) ∧ (∀ j, j ≠ 0 → j ≠ 9 → (hrM M).2.1 j = M.2.1 j) ∧ mhr (hrM M) = mhr M + 1 ∧ (hrM M).2.1 9 1 = M.2.1 9 1 := by
  obtain ⟨h1, h2, -⟩ := beg_f (setI M 9 0 (mhr M + 1)) (mnB M)
  refine ⟨h1, fun j hj h9 => (h2 j hj).trans (funext fun i => (show up2 M.2.1 9 0 (mhr M + 1) j i = M.2.1 j i from up2_k h9)), ?_, ?_⟩
  · show (hrM M).2.1 9 0 = _
    rw [show (hrM M).2.1 9 = (setI M 9 0 (mhr M + 1)).2.1 9 from h2 9 (by decide)]
    show up2 M.2.1 9 0 (mhr M + 1) 9 0 = _
    exact up2_s
  · rw [show (hrM M).2.1 9 = (setI M 9 0 (mhr M + 1)).2.1 9 from h2 9 (by decide)]
    show up2 M.2.1 9 0 (mhr M + 1) 9 1 = _
    exact up2_n (by decide)
theorem AR.hr {M : ecM} {g : Nat → Nat → Int32} (h : AR M g) : AR (hrM M) g := by
  obtain ⟨h1, h2, -⟩ := hr_f M
  exact h.to (congrFun (h1 7 (by decide)) 3) (h1 4 (by decide)) (h1 5 (by decide)) (h1 6 (by decide)) (h2 7 (by decide) (by decide)) (h2 8 (by decide) (by decide))
/-- hours that pass one by one -/
theorem pas_f (M : ecM) : ∀ n, (∀ j, j ≠ 0 → (pasM M n).1 j = M.1 j) ∧ (pasM M n).2.1 9 1 = M.2.1 9 1
  | 0 => ⟨fun _ _ => rfl, rfl⟩
  | n + 1 => ⟨fun j hj => ((hr_f (pasM M n)).1 j hj).trans ((pas_f M n).1 j hj), (hr_f (pasM M n)).2.2.2.trans (pas_f M n).2⟩
theorem PI.pas {h c a n : Nat} {M : ecM} (P : PI h c a n M) (hb : mnB M ≤ 16) (hh : h ≤ 90000) (hc : c ≤ 80000) : ∀ k, k ≤ 100 → PI (h + k) (c + 48 * k) a n (pasM M k)
  | 0, _ => P
  | k + 1, hk => ((PI.pas P hb hh hc k (by omega)).hr (by omega) (by omega) (by rw [show mnB (pasM M k) = mnB M from congrFun ((pas_f M k).1 7 (by decide)) 3]; exact hb)).mono (Nat.le_refl _) (by omega) (Nat.le_refl _) (Nat.le_refl _)
section LWW
variable {p : Program} {l : Launch} {e : Env} {R : Room} {s : State} {m : MethodId} {args : Array Value} {below : List Frame} {meth : Method} {c : Code} {H H1 : Heap} {locs locs1 : List Loc} {cells slots : Nat} {Q : State → Prop}
variable {pc b L x : Nat} {xs : Nat → Int32} {ls : Array Slot} {rest : List Value} {G : ecG} {X : Nat → Prop} {ar : Nat → Nat} {M M2 : ecM} {g : Nat → Nat → Int32}
theorem lwW.to (I : lwW s G X x ar H locs M g) (F : lwF p l s m c G X b L xs ar) (hS : va_S (fun q : Nat => s.heap.size ≤ q) s.heap H1 locs1) (hz : H.size ≤ H1.size) (hk : ∀ q : Nat, q < H.size → ¬ X q → H1[q]? = H[q]?) (hE : EC G X M2 x H1) : lwW s G X x ar H1 locs1 M2 g := by
  obtain ⟨-, -, -, -, -, -, -, -, hrA, -⟩ := F
  obtain ⟨-, hXs, -, h5, z5, z6⟩ := I
  exact ⟨hS, hXs.le hz, hE, fun j hj => (h5 j hj).kept (hk _ (h5 j hj).lt (hrA j (by omega)).2), z5.kept (hk _ z5.lt (hrA 5 (by omega)).2), z6.kept (hk _ z6.lt (hrA 6 (by omega)).2)⟩
theorem lw_ist (F : lwF p l s m c G X b L xs ar) (I : lwW s G X x ar H locs M g) (j : Nat) (hj : j < 5) (i : Nat) (hi : i < 17) {v y : Int32} (hv : v = nI i) (hdg : decode cL_law pc = .ok (.iastore, 1))
    (kk : ∀ (H1 : Heap) (locs1 : List Loc), lwW s G X x ar H1 locs1 M (up2 g j i y) → W p l e R s m #[Value.ref b] below meth c H1 locs1 cells slots Q (F0 m (pc + 1) ls rest)) : W p l e R s m #[Value.ref b] below meth c H locs cells slots Q (F0 m pc ls (.int y :: .int v :: .ref (ar j) :: rest)) := by
  obtain ⟨hC, -, hOk, -, -, -, -, -, hrA, hrD⟩ := F
  obtain ⟨hS, hXs, hEC, h5, z5, z6⟩ := I
  refine ec_iast hC hOk.1 hS (h5 j hj) (hrA j (by omega)).1 i hv hi (by decide) hdg (fun H1 locs1 h9 o9 z9 hS => kk H1 locs1 ⟨hS, hXs.le (by omega), hEC.ot (Y := fun q => q = ar j) (fun q _ hn => o9 q hn) (fun q hq z => (hrA j (by omega)).2 (z ▸ hq)), fun j2 hj2 => ?_, ?_, ?_⟩)
  · by_cases e : j2 = j
    · subst e
      have e9 : up2 g j2 i y j2 = upd (g j2) i y := by funext q; simp [upd, up2]
      rw [e9]
      exact h9
    · rw [up2_f e]
      exact (h5 j2 hj2).kept (o9 _ (hrD j2 j (by omega) (by omega) e))
  · rw [up2_f (show 5 ≠ j by omega)]
    exact z5.kept (o9 _ (hrD 5 j (by omega) (by omega) (by omega)))
  · rw [up2_f (show 6 ≠ j by omega)]
    exact z6.kept (o9 _ (hrD 6 j (by omega) (by omega) (by omega)))
theorem lw_zst5 (F : lwF p l s m c G X b L xs ar) (I : lwW s G X x ar H locs M g) (i : Nat) (hi : i < 17) {v : Int32} {o : Bool} (hv : v = nI i) (hdg : decode cL_law pc = .ok (.bastore, 1))
    (kk : ∀ (H1 : Heap) (locs1 : List Loc), lwW s G X x ar H1 locs1 M (up2 g 5 i (bI o)) → W p l e R s m #[Value.ref b] below meth c H1 locs1 cells slots Q (F0 m (pc + 1) ls rest)) : W p l e R s m #[Value.ref b] below meth c H locs cells slots Q (F0 m pc ls (.int (bI o) :: .int v :: .ref (ar 5) :: rest)) := by
  obtain ⟨hC, -, hOk, -, -, -, -, -, hrA, hrD⟩ := F
  obtain ⟨hS, hXs, hEC, h5, z5, z6⟩ := I
  refine ec_zast hC hOk.1 hS z5 (hrA 5 (by omega)).1 i hv hi (by decide) hdg (fun H1 locs1 h9 o9 z9 hS => kk H1 locs1 ⟨hS, hXs.le (by omega), hEC.ot (Y := fun q => q = ar 5) (fun q _ hn => o9 q hn) (fun q hq z => (hrA 5 (by omega)).2 (z ▸ hq)), fun j2 hj2 => ?_, ?_, ?_⟩)
  · rw [up2_f (show j2 ≠ 5 by omega)]
    exact (h5 j2 hj2).kept (o9 _ (hrD j2 5 (by omega) (by omega) (by omega)))
  · have e9 : up2 g 5 i (bI o) 5 = upd (g 5) i (bI o) := by funext q; simp [upd, up2]
    rw [e9]
    exact h9
  · rw [up2_f (show 6 ≠ 5 by omega)]
    exact z6.kept (o9 _ (hrD 6 5 (by omega) (by omega) (by omega)))
theorem lw_zst6 (F : lwF p l s m c G X b L xs ar) (I : lwW s G X x ar H locs M g) (i : Nat) (hi : i < 17) {v : Int32} {o : Bool} (hv : v = nI i) (hdg : decode cL_law pc = .ok (.bastore, 1))
    (kk : ∀ (H1 : Heap) (locs1 : List Loc), lwW s G X x ar H1 locs1 M (up2 g 6 i (bI o)) → W p l e R s m #[Value.ref b] below meth c H1 locs1 cells slots Q (F0 m (pc + 1) ls rest)) : W p l e R s m #[Value.ref b] below meth c H locs cells slots Q (F0 m pc ls (.int (bI o) :: .int v :: .ref (ar 6) :: rest)) := by
  obtain ⟨hC, -, hOk, -, -, -, -, -, hrA, hrD⟩ := F
  obtain ⟨hS, hXs, hEC, h5, z5, z6⟩ := I
  refine ec_zast hC hOk.1 hS z6 (hrA 6 (by omega)).1 i hv hi (by decide) hdg (fun H1 locs1 h9 o9 z9 hS => kk H1 locs1 ⟨hS, hXs.le (by omega), hEC.ot (Y := fun q => q = ar 6) (fun q _ hn => o9 q hn) (fun q hq z => (hrA 6 (by omega)).2 (z ▸ hq)), fun j2 hj2 => ?_, ?_, ?_⟩)
  · rw [up2_f (show j2 ≠ 6 by omega)]
    exact (h5 j2 hj2).kept (o9 _ (hrD j2 6 (by omega) (by omega) (by omega)))
  · rw [up2_f (show 5 ≠ 6 by omega)]
    exact z5.kept (o9 _ (hrD 5 6 (by omega) (by omega) (by omega)))
  · have e9 : up2 g 6 i (bI o) 6 = upd (g 6) i (bI o) := by funext q; simp [upd, up2]
    rw [e9]
    exact h9
end LWW
/-! which of the helpers' calls throw what -/
theorem st_3 : ∀ c, c < 3 → ∀ d, d < 3 → stB (nI c) (nI d) = true := by decide +kernel
theorem st_80 : ∀ k, k < 80 → stB (nI (k / 20)) (nI (k % 20 / 2)) = true := by decide +kernel
theorem rg_19 : ∀ a, a < 19 → rgB (nI a - 9) (-9) 9 = true := by decide +kernel
theorem rg_n {a b : Nat} (h : a ≤ b) (hb : b < 2147483648) : rgB (nI a) 0 (nI b) = true := by
  unfold rgB
  rw [decide_eq_true (nI_pos' (by omega)), decide_eq_true (nI_le h hb)]
  rfl
theorem rg_999 {a : Nat} (h : a < 1999) : rgB (nI a - 999) (-999) 999 = true := by
  have e : (nI a - nI 999).toInt = (a : Int) - (999 : Nat) := pk_sub_toInt (by omega) (by decide)
  have e2 : (nI a - 999).toInt = (a : Int) - 999 := e
  unfold rgB
  rw [decide_eq_true (show -999 ≤ nI a - 999 by rw [Int32.le_iff_toInt_le, e2, show (-999 : Int32).toInt = -999 from rfl]; omega), decide_eq_true (show nI a - 999 ≤ 999 by rw [Int32.le_iff_toInt_le, e2, show (999 : Int32).toInt = 999 from rfl]; omega)]
  rfl
theorem pm_1 : ∀ a, a < 2 → nI (a * 2) - 1 = 1 ∨ nI (a * 2) - 1 = -1 := by decide +kernel
theorem cd_20 {c d : Nat} {o : Bool} (hc : c < 3) (hd : d < 3) : cdN (nI c) (nI d) o = 20 * c + 2 * d + b1 o := by
  unfold cdN
  rw [show (nI c).toNatClampNeg = c from nI_clamp (by omega), show (nI d).toNatClampNeg = d from nI_clamp (by omega)]
theorem b1_le (o : Bool) : b1 o ≤ 1 := by cases o <;> decide
theorem cd_c {c d : Nat} {o : Bool} (hc : c < 3) (hd : d < 3) : cdN (nI c) (nI d) o / 20 = c := by
  rw [cd_20 hc hd]
  have := b1_le o
  omega
theorem cd_d {c d : Nat} {o : Bool} (hc : c < 3) (hd : d < 3) : cdN (nI c) (nI d) o % 20 / 2 = d := by
  rw [cd_20 hc hd]
  have := b1_le o
  omega
theorem cd_o {c d : Nat} {o : Bool} (hc : c < 3) (hd : d < 3) : cdN (nI c) (nI d) o % 2 = b1 o := by
  rw [cd_20 hc hd]
  have := b1_le o
  omega
theorem cd_80 {c d : Nat} {o : Bool} (hc : c < 3) (hd : d < 3) : cdN (nI c) (nI d) o < 80 := by
  rw [cd_20 hc hd]
  have := b1_le o
  omega
theorem cd_of : ∀ k, k < 80 → cdN (nI (k / 20)) (nI (k % 20 / 2)) (decide (k % 2 = 1)) = k := by decide +kernel
theorem n2_b (k : Nat) : nI (k % 2) = bI (decide (k % 2 = 1)) := by
  rcases (show k % 2 = 0 ∨ k % 2 = 1 by omega) with q | q <;> rw [q] <;> rfl
theorem prt_a {a b : Nat} (ha : a < 2147483648) (hb : b < 2147483648) : bI (!decide (nI a = nI b)) = nI (if a = b then 0 else 1) := by
  by_cases h : a = b
  · rw [if_pos h, decide_eq_true (congrArg nI h)]; rfl
  · rw [if_neg h, decide_eq_false (fun z => h ((nI_eq ha hb).mp z))]; rfl
theorem prt_2 {a b : Nat} (ha : a < 80) (hb : b < 80) : bI (!decide (nI (a / 20) = nI (b / 20))) + bI (!decide (nI (a % 20 / 2) = nI (b % 20 / 2))) + bI (!decide (nI (a % 2) = nI (b % 2))) = nI (dif a b) := by
  rw [prt_a (by omega) (by omega), prt_a (by omega) (by omega), prt_a (by omega) (by omega), nI_add, nI_add]
  rfl
theorem prt_1 {k c d : Nat} {o : Bool} (hk : k < 80) (hc : c < 3) (hd : d < 3) : bI (!decide (nI (k / 20) = nI c)) + bI (!decide (nI (k % 20 / 2) = nI d)) + bI (!decide (nI (k % 2) = bI o)) = nI (dif k (cdN (nI c) (nI d) o)) := by
  have h := prt_2 (a := k) (b := cdN (nI c) (nI d) o) hk (cd_80 hc hd)
  rw [cd_c hc hd, cd_d hc hd, cd_o hc hd, ← nI_b] at h
  exact h
theorem dif_self (k : Nat) : dif k k = 0 := by simp [dif]
theorem gv_c (M : ecM) (r k : Nat) : (gvM M r k).2.1 0 r = M.2.1 0 r + nI (dif (M.1 0 r) k) := (show up2 M.2.1 0 r (M.2.1 0 r + nI (dif (M.1 0 r) k)) 0 r = _ from up2_s)
theorem gv_s (M : ecM) (r k : Nat) : (gvM M r k).1 0 r = k := (show up2 M.1 0 r k 0 r = _ from up2_s)
theorem T_Add {M : ecM} (h : mnR M < 4) : thAdd M = 0 := by unfold thAdd; rw [if_neg (by omega)]
theorem T_Set {M : ecM} (W : WF M) {r c d : Nat} (h : r < mnR M) (hc : c < 3) (hd : d < 3) : thSet M (nI r) (nI c) (nI d) = 0 := by
  have := W.1
  unfold thSet; rw [if_pos (ixB_of (by omega) h), if_pos (st_3 c hc d hd)]
theorem T_SetX {M : ecM} {c d : Int32} : thSet M (nI (mnR M)) c d = 1 := by
  unfold thSet; rw [ixB_hi (Int32.le_refl _)]; rfl
theorem T_Mes {M : ecM} (W : WF M) {r pl b c d : Nat} {a : Int32} (h : r < mnR M) (hp : pl < 3) (ha : a = 1 ∨ a = -1) (hb : b < 19) (hc : c < 19) (hd : d < 19) (hn : mnA M < 40) : thMes M (nI r) (nI pl) a (nI b - 9) (nI c - 9) (nI d - 9) = 0 := by
  have := W.1
  have e : (decide (a = 1) || decide (a = -1)) = true := by rcases ha with h | h <;> rw [h] <;> decide
  unfold thMes smB
  rw [if_pos (ixB_of (by omega) h), show rgB (nI pl) 0 9 = true from rg_n (b := 9) (by omega) (by decide), e, rg_19 b hb, rg_19 c hc, rg_19 d hd, if_pos (show (true && true && true && true && true) = true from rfl), if_neg (by omega)]
theorem T_MesX {M : ecM} {pl a b c d : Int32} : thMes M (nI (mnR M)) pl a b c d = 1 := by
  unfold thMes; rw [ixB_hi (Int32.le_refl _)]; rfl
theorem T_Mes2 {M : ecM} (W : WF M) (h : 0 < mnR M) : thMes M 0 0 0 0 0 0 = 2 := by
  have := W.1
  unfold thMes; rw [if_pos (show ixB 0 (mnR M) = true from ixB_of (j := 0) (by omega) h)]; rfl
theorem T_Lat {M : ecM} (W : WF M) {r pl k i : Nat} (h : r < mnR M) (hp : pl < 3) (hk : k < 80) (hl : latN M r (nI pl) k (mnA M) = some i) : thLat M (nI r) (nI pl) (nI (k / 20)) (nI (k % 20 / 2)) (decide (k % 2 = 1)) = 0 := by
  have := W.1
  unfold thLat
  rw [if_pos (ixB_of (by omega) h), show rgB (nI pl) 0 9 = true from rg_n (b := 9) (by omega) (by decide), st_80 k hk, if_pos (show (true && true) = true from rfl), cN_nI (by omega), cd_of k hk, hl]
  rfl
theorem T_LatX {M : ecM} (W : WF M) (h : 0 < mnR M) : thLat M 0 (-1) 0 0 true = 2 := by
  have := W.1
  unfold thLat; rw [if_pos (show ixB 0 (mnR M) = true from ixB_of (j := 0) (by omega) h)]; rfl
theorem T_Mak {M : ecM} (W : WF M) {i : Nat} (h : i < mnA M) : thMak M (nI i) = if mnF M = 20 then 2 else 0 := by
  have := W.2.1
  unfold thMak; rw [if_pos (ixB_of (by omega) h)]
theorem T_MakX {M : ecM} : thMak M (nI (mnA M)) = 1 := by
  unfold thMak; rw [ixB_hi (Int32.le_refl _)]; rfl
theorem T_Use {M : ecM} (W : WF M) {f : Nat} {y : Int32} (h : f < mnF M) (hy : rgB y (-999) 999 = true) : thUse M (nI f) y = if barM M f = 45 then 0 else 3 := by
  have := W.2.2.1
  unfold thUse; rw [if_pos (ixB_of (by omega) h), if_pos hy, cN_nI (by omega)]
theorem T_Lim {u : Nat} (h : u < 60) : thLim (nI u) = 0 := by
  unfold thLim; rw [if_pos (show rgB (nI u) 0 999 = true from rg_n (b := 999) (by omega) (by decide))]
theorem T_Cla {M : ecM} (W : WF M) {r c d : Nat} {o : Bool} {f l : Int32} (h : r < mnR M) (hc : c < 3) (hd : d < 3) (hf : f ≤ l) : thCla M (nI r) (nI c) (nI d) o f l = if (clM M r (cdN (nI c) (nI d) o) f l).isSome = true then 0 else 3 := by
  have := W.1
  unfold thCla; rw [if_pos (ixB_of (by omega) h), st_3 c hc d hd, decide_eq_true hf, if_pos (show (true && true) = true from rfl), cN_nI (by omega)]
theorem T_Bok {M : ecM} (W : WF M) {r c d : Nat} {o : Bool} {f l : Int32} (h : r < mnR M) (hc : c < 3) (hd : d < 3) (hf : f ≤ l) (h1 : mhr M < f) (h9 : l ≤ 9999) : thBok M (nI r) (nI c) (nI d) o f l = if (clM M r (cdN (nI c) (nI d) o) f l).isSome = true then 3 else if mnB M = 16 then 4 else 0 := by
  have := W.1
  unfold thBok bkB; rw [if_pos (ixB_of (by omega) h), st_3 c hc d hd, decide_eq_true hf, decide_eq_true h1, decide_eq_true h9, if_pos (show (true && true && true && true) = true from rfl), cN_nI (by omega)]
theorem T_Can {M : ecM} (W : WF M) {k : Nat} (h : k < mnB M) : thCan M (nI k) = if M.1 6 k = 0 ∧ mhr M < M.2.1 7 k then 0 else 2 := by
  have := W.2.2.2.1
  unfold thCan; rw [if_pos (ixB_of (by omega) h), cN_nI (by omega)]
theorem T_CanX {M : ecM} : thCan M (nI (mnB M)) = 1 := by
  unfold thCan; rw [ixB_hi (Int32.le_refl _)]; rfl
theorem T_Pas {M : ecM} {h c a n : Nat} (P : PI h c a n M) (hh : h ≤ 9000) : thPas M 1 = 0 := by
  have p1 := P.1
  have e : (mhr M + 1).toInt = (mhr M).toInt + 1 := i3a (by omega) (by decide)
  unfold thPas
  rw [if_pos ⟨by decide, by rw [Int32.le_iff_toInt_le, e, show (9999 : Int32).toInt = 9999 from rfl]; omega⟩]
theorem T_PasX {M : ecM} : thPas M 0 = 1 := by
  unfold thPas; rw [if_neg (fun z => absurd z.1 (by decide))]
theorem T_NxtX {M : ecM} : thNxt M (-1) = 1 := by
  unfold thNxt; rw [ixB_lo (by decide)]; rfl
theorem age_mes (M : ecM) (r : Nat) (pl a b c d : Int32) : ageM (mesM M r pl a b c d) (mnA M) = 0 := by
  show mhr M - (if mnA M = mnA M then mhr M else _) + 2 * (M.2.1 0 (if mnA M = mnA M then r else _) - (if mnA M = mnA M then M.2.1 0 r else _)) = 0
  rw [if_pos rfl, if_pos rfl, if_pos rfl, Int32.sub_self, Int32.sub_self]
  rfl
theorem lat_mes (M : ecM) (r : Nat) (pl a b c d : Int32) : latN (mesM M r pl a b c d) r pl (M.1 0 r) (mnA M + 1) = some (mnA M) := by
  rw [latN_s]
  exact if_pos ⟨if_pos rfl, if_pos rfl, if_pos rfl⟩
theorem use_6s (M : ecM) (f : Nat) (x : Int32) : (useM M f x).2.1 6 f = M.2.1 6 f + 1 := by rw [use_6, if_pos rfl]
theorem nI_ne {k : Nat} (h : k < 1000) : nI k ≠ -3000000 ∧ nI k ≠ -1000000 := by
  constructor <;> intro z <;> have e := congrArg Int32.toInt z <;> rw [nI_toInt (by omega)] at e
  · rw [show (-3000000 : Int32).toInt = -3000000 from rfl] at e
    omega
  · rw [show (-1000000 : Int32).toInt = -1000000 from rfl] at e
    omega
theorem is0_i (i : Nat) (h : i < 2147483648) : bI (decide (nI i = 0)) = if i = 0 then 1 else 0 := by
  by_cases z : i = 0
  · rw [z]; rfl
  · rw [if_neg z, decide_eq_false (show ¬ nI i = 0 from fun q => z ((nI_eq (b := 0) h (by decide)).mp q))]; rfl
theorem or_b {e : Nat} (h : e ≤ 1) (q : Bool) : nI e ||| bI q = bI (decide (e = 1) || q) := by
  rcases (show e = 0 ∨ e = 1 by omega) with z | z <;> subst z <;> cases q <;> decide
