/-! THE PROPERTY, in numbers: what holds of a laboratory's numbers through the law. -/
theorem i3a {a b : Int32} (h1 : -100000000 ≤ a.toInt ∧ a.toInt ≤ 100000000) (h2 : -100000000 ≤ b.toInt ∧ b.toInt ≤ 100000000) : (a + b).toInt = a.toInt + b.toInt := by
  rw [Int32.toInt_add]
  exact Int.bmod_eq_of_le (by omega) (by omega)
theorem i3s {a b : Int32} (h1 : -100000000 ≤ a.toInt ∧ a.toInt ≤ 100000000) (h2 : -100000000 ≤ b.toInt ∧ b.toInt ≤ 100000000) : (a - b).toInt = a.toInt - b.toInt := by
  rw [Int32.toInt_sub]
  exact Int.bmod_eq_of_le (by omega) (by omega)
theorem i3m {b : Int32} (h2 : -100000000 ≤ b.toInt ∧ b.toInt ≤ 100000000) : (2 * b).toInt = 2 * b.toInt := by
  rw [Int32.toInt_mul, show (2 : Int32).toInt = 2 from rfl]
  exact Int.bmod_eq_of_le (by omega) (by omega)
/-- h: the hour's bound, c: the changes', a: the answers', n: the inputs' -/
def PI (h c a n : Nat) (M : ecM) : Prop :=
  (0 ≤ (mhr M).toInt ∧ (mhr M).toInt ≤ h) ∧
  (∀ r, 0 ≤ (M.2.1 0 r).toInt ∧ (M.2.1 0 r).toInt ≤ c) ∧
  mnA M ≤ a ∧
  (∀ i, i < mnA M → (0 ≤ (M.2.1 2 i).toInt ∧ (M.2.1 2 i).toInt ≤ (mhr M).toInt) ∧ (0 ≤ (M.2.1 3 i).toInt ∧ (M.2.1 3 i).toInt ≤ (M.2.1 0 (M.1 1 i)).toInt) ∧ (M.2.1 4 (4 * i) = 1 ∨ M.2.1 4 (4 * i) = -1)) ∧
  (∀ i, i + 1 < mnA M → (M.2.1 2 i).toInt ≤ (M.2.1 2 (i + 1)).toInt ∧ (M.1 1 i = M.1 1 (i + 1) → (M.2.1 3 i).toInt ≤ (M.2.1 3 (i + 1)).toInt)) ∧
  (∀ f, f < mnF M → ∀ k, k < 6 → M.2.2 (6 * f + k) = tpF (smA M (M.1 3 f)) k) ∧
  (∀ f, f < mnF M → 0 ≤ (M.2.1 6 f).toInt ∧ (M.2.1 6 f).toInt ≤ n ∧ (M.2.1 6 f = 0 → ∀ k, k < 6 → M.2.1 5 (6 * f + k) = 0)) ∧
  (∀ b, b < mnB M → 0 ≤ (M.2.1 7 b).toInt ∧ (M.2.1 7 b).toInt ≤ (M.2.1 8 b).toInt ∧ (M.2.1 8 b).toInt ≤ 9999) ∧
  (∀ k, k < mnB M → ∀ j, j < k → M.1 6 j = 0 → M.1 6 k = 0 → M.1 4 j = M.1 4 k → ¬ ((M.2.1 7 k).toInt - (M.2.1 8 j).toInt ≤ dif (M.1 5 k) (M.1 5 j) ∧ (M.2.1 7 j).toInt - (M.2.1 8 k).toInt ≤ dif (M.1 5 k) (M.1 5 j)))
theorem PI.mono {h c a n h2 c2 a2 n2 : Nat} {M : ecM} (P : PI h c a n M) (e1 : h ≤ h2) (e2 : c ≤ c2) (e3 : a ≤ a2) (e4 : n ≤ n2) : PI h2 c2 a2 n2 M := by
  obtain ⟨p1, p2, p3, p4, p5, p6, p7, p8⟩ := P
  exact ⟨⟨p1.1, by omega⟩, fun r => ⟨(p2 r).1, by have := (p2 r).2; omega⟩, by omega, p4, p5, p6, fun f hf => ⟨(p7 f hf).1, by have := (p7 f hf).2.1; omega, (p7 f hf).2.2⟩, p8⟩
theorem PI.z {M : ecM} (h0 : M = mM0) : PI 0 0 0 0 M := by
  subst h0
  exact ⟨⟨by decide, by decide⟩, fun r => ⟨by show 0 ≤ (mM0.2.1 0 r).toInt; rw [show mM0.2.1 0 r = 0 from rfl]; decide, by rw [show mM0.2.1 0 r = 0 from rfl]; decide⟩, Nat.le_refl 0, fun i hi => absurd hi (Nat.not_lt_zero i), fun i hi => absurd hi (Nat.not_lt_zero _), fun f hf => absurd hf (Nat.not_lt_zero f), fun f hf => absurd hf (Nat.not_lt_zero f), fun f hf => absurd hf (Nat.not_lt_zero f), fun f hf => absurd hf (Nat.not_lt_zero f)⟩
theorem PI.gv {h c a n r k : Nat} {M : ecM} (P : PI h c a n M) (hc : c ≤ 100000) : PI h (c + 3) a n (gvM M r k) := by
  obtain ⟨p1, p2, p3, p4, p5, p6⟩ := P
  have hm : ∀ i, (M.2.1 0 i).toInt ≤ ((gvM M r k).2.1 0 i).toInt ∧ ((gvM M r k).2.1 0 i).toInt ≤ ((c + 3 : Nat) : Int) := by
    intro i
    have e : (gvM M r k).2.1 0 i = if i = r then M.2.1 0 r + nI (dif (M.1 0 r) k) else M.2.1 0 i := rfl
    rw [e]
    have hr := p2 r
    have hi := p2 i
    have hd := dif_le (M.1 0 r) k
    split
    · next hir =>
      subst hir
      rw [i3a (by omega) (by rw [nI_toInt (by omega)]; omega), nI_toInt (by omega)]
      omega
    · omega
  exact ⟨p1, fun i => ⟨Int.le_trans (p2 i).1 (hm i).1, (hm i).2⟩, p3, fun i hi => ⟨(p4 i hi).1, ⟨(p4 i hi).2.1.1, Int.le_trans (p4 i hi).2.1.2 (hm _).1⟩, (p4 i hi).2.2⟩, p5, p6⟩
theorem PI.lim {h c a n : Nat} {x : Int32} {M : ecM} (P : PI h c a n M) : PI h c a n (setI M 9 1 x) := P
theorem PI.can {h c a n b : Nat} {M : ecM} (P : PI h c a n M) : PI h c a n (setN M 6 b 1) := by
  obtain ⟨p1, p2, p3, p4, p5, p6, p7, p8, p9⟩ := P
  refine ⟨p1, p2, p3, p4, p5, p6, p7, p8, fun k hk j hj hj0 hk0 => ?_⟩
  have ej : (setN M 6 b 1).1 6 j = if j = b then 1 else M.1 6 j := rfl
  have ek : (setN M 6 b 1).1 6 k = if k = b then 1 else M.1 6 k := rfl
  rw [ej] at hj0
  rw [ek] at hk0
  refine p9 k hk j hj ?_ ?_
  · split at hj0
    · cases hj0
    · exact hj0
  · split at hk0
    · cases hk0
    · exact hk0
theorem tpF_c {s t : Nat → Int32} (h0 : s 0 = t 0) (h1 : s 1 = t 1) (h2 : s 2 = t 2) (h3 : s 3 = t 3) (k : Nat) : tpF s k = tpF t k := by
  have e1 : tp1 s = tp1 t := by unfold tp1; rw [h0, h1]
  have e2 : tp2 s = tp2 t := by unfold tp2; rw [h0, h1, h2, e1]
  have e3 : tp3 s = tp3 t := by unfold tp3; rw [h0, h1, h2, h3, e1, e2]
  have e4 : tp4 s = tp4 t := by unfold tp4; rw [h0, h1, h2, h3, e1, e2, e3]
  have e5 : tp5 s = tp5 t := by unfold tp5; rw [h0, h1, h2, h3, e2, e3, e4]
  match k with
  | 0 => show (s 0).toInt64 = (t 0).toInt64; rw [h0]
  | 1 => exact e1
  | 2 => exact e2
  | 3 => exact e3
  | 4 => exact e4
  | k + 5 => exact e5
theorem PI.mes {h c a9 n r : Nat} {pl a b c2 d : Int32} {M : ecM} (W : WF M) (P : PI h c a9 n M) (ha : a = 1 ∨ a = -1) : PI h c (a9 + 1) n (mesM M r pl a b c2 d) := by
  obtain ⟨p1, p2, p3, p4, p5, p6, p7, p8⟩ := P
  have m1 : ∀ i, (mesM M r pl a b c2 d).1 1 i = if i = mnA M then r else M.1 1 i := fun _ => rfl
  have m2 : ∀ i, (mesM M r pl a b c2 d).2.1 2 i = if i = mnA M then mhr M else M.2.1 2 i := fun _ => rfl
  have m3 : ∀ i, (mesM M r pl a b c2 d).2.1 3 i = if i = mnA M then M.2.1 0 r else M.2.1 3 i := fun _ => rfl
  have m4 : ∀ j, (mesM M r pl a b c2 d).2.1 4 j = if j = 4 * mnA M + 3 then d else if j = 4 * mnA M + 2 then c2 else if j = 4 * mnA M + 1 then b else if j = 4 * mnA M then a else M.2.1 4 j := fun _ => rfl
  have m0 : ∀ i, (mesM M r pl a b c2 d).2.1 0 i = M.2.1 0 i := fun _ => rfl
  have mh : mhr (mesM M r pl a b c2 d) = mhr M := rfl
  have hn : mnA (mesM M r pl a b c2 d) = mnA M + 1 := rfl
  have hsm : ∀ j, j < 4 * mnA M → (mesM M r pl a b c2 d).2.1 4 j = M.2.1 4 j := fun j hj => by
    rw [m4, if_neg (by omega), if_neg (by omega), if_neg (by omega), if_neg (by omega)]
  refine ⟨p1, p2, by rw [hn]; omega, fun i hi => ?_, fun i hi => ?_, fun f hf k hk => ?_, p7, p8⟩
  · rw [hn] at hi
    rw [m1, m2, m3, m0, mh, m4]
    by_cases hin : i = mnA M
    · subst hin
      rw [if_pos rfl, if_pos rfl, if_pos rfl, if_neg (by omega), if_neg (by omega), if_neg (by omega), if_pos rfl]
      exact ⟨⟨p1.1, Int.le_refl _⟩, ⟨(p2 r).1, Int.le_refl _⟩, ha⟩
    · rw [if_neg hin, if_neg hin, if_neg hin, if_neg (by omega), if_neg (by omega), if_neg (by omega), if_neg (by omega)]
      exact p4 i (by omega)
  · rw [hn] at hi
    rw [m1, m1, m2, m2, m3, m3, if_neg (show i ≠ mnA M by omega), if_neg (show i ≠ mnA M by omega), if_neg (show i ≠ mnA M by omega)]
    have q := p4 i (by omega)
    by_cases hin : i + 1 = mnA M
    · rw [if_pos hin, if_pos hin, if_pos hin]
      refine ⟨q.1.2, fun e => ?_⟩
      have := q.2.1.2
      rw [e] at this
      exact this
    · rw [if_neg hin, if_neg hin, if_neg hin]
      exact p5 i (by omega)
  · have hf2 : f < mnF M := hf
    have hx := W.fi hf2
    have e := p6 f hf2 k hk
    show M.2.2 (6 * f + k) = tpF (smA (mesM M r pl a b c2 d) (M.1 3 f)) k
    rw [e]
    exact tpF_c (s := smA M (M.1 3 f)) (t := smA (mesM M r pl a b c2 d) (M.1 3 f)) (hsm _ (by omega)).symm (hsm _ (by omega)).symm (hsm _ (by omega)).symm (hsm _ (by omega)).symm k
theorem PI.fil {h c a n a9 : Nat} {M : ecM} (W : WF M) (P : PI h c a n M) : PI h c a n (filM M a9) := by
  obtain ⟨p1, p2, p3, p4, p5, p6, p7, p8⟩ := P
  have m3 : ∀ i, (filM M a9).1 3 i = if i = mnF M then a9 else M.1 3 i := fun _ => rfl
  have mj : ∀ j, (filM M a9).2.2 j = if j = 6 * mnF M + 5 then tpF (smA M a9) 5 else if j = 6 * mnF M + 4 then tpF (smA M a9) 4 else if j = 6 * mnF M + 3 then tpF (smA M a9) 3 else if j = 6 * mnF M + 2 then tpF (smA M a9) 2 else if j = 6 * mnF M + 1 then tpF (smA M a9) 1 else if j = 6 * mnF M then tpF (smA M a9) 0 else M.2.2 j := fun _ => rfl
  have hn : mnF (filM M a9) = mnF M + 1 := rfl
  obtain ⟨-, -, -, -, -, -, -, -, -, -, -, w12, w13, -⟩ := W
  refine ⟨p1, p2, p3, p4, p5, fun f hf k hk => ?_, fun f hf => ?_, p8⟩
  · rw [hn] at hf
    rw [mj, m3]
    show _ = tpF (smA M (if f = mnF M then a9 else M.1 3 f)) k
    by_cases hfn : f = mnF M
    · subst hfn
      rw [if_pos rfl]
      rcases (show k = 0 ∨ k = 1 ∨ k = 2 ∨ k = 3 ∨ k = 4 ∨ k = 5 by omega) with rfl | rfl | rfl | rfl | rfl | rfl
      · rw [if_neg (by omega), if_neg (by omega), if_neg (by omega), if_neg (by omega), if_neg (by omega), if_pos (by omega)]
      · rw [if_neg (by omega), if_neg (by omega), if_neg (by omega), if_neg (by omega), if_pos rfl]
      · rw [if_neg (by omega), if_neg (by omega), if_neg (by omega), if_pos rfl]
      · rw [if_neg (by omega), if_neg (by omega), if_pos rfl]
      · rw [if_neg (by omega), if_pos rfl]
      · rw [if_pos rfl]
    · rw [if_neg hfn, if_neg (by omega), if_neg (by omega), if_neg (by omega), if_neg (by omega), if_neg (by omega), if_neg (by omega)]
      exact p6 f (by omega) k hk
  · rw [hn] at hf
    show 0 ≤ (M.2.1 6 f).toInt ∧ (M.2.1 6 f).toInt ≤ n ∧ (M.2.1 6 f = 0 → ∀ k, k < 6 → M.2.1 5 (6 * f + k) = 0)
    by_cases hfn : f = mnF M
    · subst hfn
      have e := w12 (mnF M) (Nat.le_refl _)
      rw [e]
      exact ⟨by decide, by show (0 : Int) ≤ n; omega, fun _ k hk => w13 _ (by omega)⟩
    · exact p7 f (by omega)
theorem use_5 (M : ecM) (f : Nat) (x : Int32) (j : Nat) : (useM M f x).2.1 5 j = if j = 6 * f then x else if j = 6 * f + 1 then M.2.1 5 (6 * f) else if j = 6 * f + 2 then M.2.1 5 (6 * f + 1) else if j = 6 * f + 3 then M.2.1 5 (6 * f + 2) else if j = 6 * f + 4 then M.2.1 5 (6 * f + 3) else if j = 6 * f + 5 then M.2.1 5 (6 * f + 4) else M.2.1 5 j := rfl
theorem use_6 (M : ecM) (f : Nat) (x : Int32) (j : Nat) : (useM M f x).2.1 6 j = if j = f then M.2.1 6 f + 1 else M.2.1 6 j := rfl
theorem psA_use (M : ecM) (f : Nat) (x : Int32) : psA (useM M f x) f 0 = x ∧ psA (useM M f x) f 1 = psA M f 0 ∧ psA (useM M f x) f 2 = psA M f 1 ∧ psA (useM M f x) f 3 = psA M f 2 ∧ psA (useM M f x) f 4 = psA M f 3 ∧ psA (useM M f x) f 5 = psA M f 4 := by
  refine ⟨?_, ?_, ?_, ?_, ?_, ?_⟩
  · show (useM M f x).2.1 5 (6 * f + 0) = _
    rw [use_5, if_pos (by omega)]
  · show (useM M f x).2.1 5 (6 * f + 1) = _
    rw [use_5, if_neg (by omega), if_pos rfl]
    rfl
  · show (useM M f x).2.1 5 (6 * f + 2) = _
    rw [use_5, if_neg (by omega), if_neg (by omega), if_pos rfl]
  · show (useM M f x).2.1 5 (6 * f + 3) = _
    rw [use_5, if_neg (by omega), if_neg (by omega), if_neg (by omega), if_pos rfl]
  · show (useM M f x).2.1 5 (6 * f + 4) = _
    rw [use_5, if_neg (by omega), if_neg (by omega), if_neg (by omega), if_neg (by omega), if_pos rfl]
  · show (useM M f x).2.1 5 (6 * f + 5) = _
    rw [use_5, if_neg (by omega), if_neg (by omega), if_neg (by omega), if_neg (by omega), if_neg (by omega), if_pos rfl]
theorem PI.use {h c a n f : Nat} {x : Int32} {M : ecM} (P : PI h c a n M) (hf : f < mnF M) (hn : n ≤ 100000) : PI h c a (n + 1) (useM M f x) := by
  obtain ⟨p1, p2, p3, p4, p5, p6, p7, p8⟩ := P
  refine ⟨p1, p2, p3, p4, p5, p6, fun g hg => ?_, p8⟩
  have hg2 : g < mnF M := hg
  rw [use_6]
  have q := p7 g hg2
  by_cases hgf : g = f
  · subst hgf
    rw [if_pos rfl]
    have e1 : (M.2.1 6 g + 1).toInt = (M.2.1 6 g).toInt + 1 := i3a (by omega) (by decide)
    refine ⟨by omega, by omega, fun z => ?_⟩
    rw [z] at e1
    have : (0 : Int32).toInt = 0 := rfl
    omega
  · rw [if_neg hgf]
    refine ⟨q.1, by have := q.2.1; omega, fun z k hk => ?_⟩
    rw [use_5, if_neg (by omega), if_neg (by omega), if_neg (by omega), if_neg (by omega), if_neg (by omega), if_neg (by omega)]
    exact q.2.2 z k hk
theorem fstN_no {q : Nat → Bool} : ∀ {d k : Nat}, fstN q k d = none → ∀ j, k ≤ j → j < k + d → q j = false
  | 0, k, _, j, h1, h2 => by omega
  | d + 1, k, h, j, h1, h2 => by
    rw [fstN_s] at h
    split at h
    · cases h
    · next hk =>
      rcases (show j = k ∨ k + 1 ≤ j by omega) with rfl | h3
      · exact Bool.eq_false_iff.mpr hk
      · exact fstN_no h j h3 (by omega)
theorem dif_comm (a b : Nat) : dif a b = dif b a := by
  have e : ∀ x y : Nat, (if x = y then 0 else 1) = (if y = x then (0 : Nat) else 1) := fun x y => by
    by_cases h : x = y
    · rw [if_pos h, if_pos h.symm]
    · rw [if_neg h, if_neg (fun z => h z.symm)]
  unfold dif
  rw [e (a / 20) (b / 20), e (a % 20 / 2) (b % 20 / 2), e (a % 2) (b % 2)]
theorem PI.bok {h c a n r k9 : Nat} {f l : Int32} {M : ecM} (P : PI h c a n M) (hcl : clM M r k9 f l = none) (h1 : 0 ≤ f.toInt) (h2 : f.toInt ≤ l.toInt) (h3 : l.toInt ≤ 9999) : PI h c a n (bokM M r k9 f l) := by
  obtain ⟨p1, p2, p3, p4, p5, p6, p7, p8, p9⟩ := P
  have m4 : ∀ i, (bokM M r k9 f l).1 4 i = if i = mnB M then r else M.1 4 i := fun _ => rfl
  have m5 : ∀ i, (bokM M r k9 f l).1 5 i = if i = mnB M then k9 else M.1 5 i := fun _ => rfl
  have m7 : ∀ i, (bokM M r k9 f l).2.1 7 i = if i = mnB M then f else M.2.1 7 i := fun _ => rfl
  have m8 : ∀ i, (bokM M r k9 f l).2.1 8 i = if i = mnB M then l else M.2.1 8 i := fun _ => rfl
  have m6 : ∀ i, (bokM M r k9 f l).1 6 i = M.1 6 i := fun _ => rfl
  have hn : mnB (bokM M r k9 f l) = mnB M + 1 := rfl
  refine ⟨p1, p2, p3, p4, p5, p6, p7, fun b hb => ?_, fun k hk j hj => ?_⟩
  · rw [hn] at hb
    rw [m7, m8]
    by_cases e : b = mnB M
    · rw [if_pos e, if_pos e]
      exact ⟨h1, h2, h3⟩
    · rw [if_neg e, if_neg e]
      exact p8 b (by omega)
  · rw [hn] at hk
    rw [m6, m6, m4, m4, m5, m5, m7, m7, m8, m8, if_neg (show j ≠ mnB M by omega), if_neg (show j ≠ mnB M by omega), if_neg (show j ≠ mnB M by omega), if_neg (show j ≠ mnB M by omega)]
    by_cases e : k = mnB M
    · rw [if_pos e, if_pos e, if_pos e, if_pos e]
      intro hj0 _ hr hnr
      have hq := fstN_no hcl j (Nat.zero_le j) (by omega)
      unfold clB nearB at hq
      rw [decide_eq_true hj0, decide_eq_true hr, Bool.and_self, Bool.true_and, dif_comm (M.1 5 j) k9, decide_eq_true hnr.2, decide_eq_true hnr.1] at hq
      cases hq
    · rw [if_neg e, if_neg e, if_neg e, if_neg e]
      exact p9 k (by omega) j hj
theorem PI.h1 {h c a n : Nat} {M : ecM} (P : PI h c a n M) (hh : h ≤ 100000) : PI (h + 1) c a n (setI M 9 0 (mhr M + 1)) := by
  obtain ⟨p1, p2, p3, p4, p5, p6, p7, p8, p9⟩ := P
  have e : (mhr M + 1).toInt = (mhr M).toInt + 1 := i3a (by omega) (by decide)
  have eh : mhr (setI M 9 0 (mhr M + 1)) = mhr M + 1 := rfl
  refine ⟨by rw [eh]; omega, p2, p3, fun i hi => ⟨⟨(p4 i hi).1.1, ?_⟩, (p4 i hi).2⟩, p5, p6, p7, p8, p9⟩
  rw [eh, e]
  have : (M.2.1 2 i).toInt ≤ (mhr M).toInt := (p4 i hi).1.2
  show (M.2.1 2 i).toInt ≤ (mhr M).toInt + 1
  omega
theorem begM_s (M : ecM) (k : Nat) : begM M (k + 1) = if M.1 6 k = 0 ∧ M.2.1 7 k = mhr M then gvM (begM M k) (M.1 4 k) (M.1 5 k) else begM M k := rfl
theorem PI.beg {h c a n : Nat} {M : ecM} (P : PI h c a n M) : ∀ k, c + 3 * k ≤ 100000 → PI h (c + 3 * k) a n (begM M k)
  | 0, _ => P
  | k + 1, hk => by
    have q := PI.beg P k (by omega)
    rw [begM_s]
    split
    · exact (q.gv (by omega)).mono (Nat.le_refl _) (by omega) (Nat.le_refl _) (Nat.le_refl _)
    · exact q.mono (Nat.le_refl _) (by omega) (Nat.le_refl _) (Nat.le_refl _)
theorem PI.hr {h c a n : Nat} {M : ecM} (P : PI h c a n M) (hh : h ≤ 100000) (hc : c ≤ 90000) (hb : mnB M ≤ 16) : PI (h + 1) (c + 48) a n (hrM M) :=
  ((P.h1 hh).beg (mnB M) (by omega)).mono (Nat.le_refl _) (by omega) (Nat.le_refl _) (Nat.le_refl _)
/-- what a booking's beginning leaves as it was -/
theorem beg_f (M : ecM) : ∀ k, (∀ j, j ≠ 0 → (begM M k).1 j = M.1 j) ∧ (∀ j, j ≠ 0 → (begM M k).2.1 j = M.2.1 j) ∧ (begM M k).2.2 = M.2.2
  | 0 => ⟨fun _ _ => rfl, fun _ _ => rfl, rfl⟩
  | k + 1 => by
    have q := beg_f M k
    rw [begM_s]
    split
    · refine ⟨fun j hj => ?_, fun j hj => ?_, q.2.2⟩
      · rw [← q.1 j hj]
        funext i
        exact up2_k hj
      · rw [← q.2.1 j hj]
        funext i
        exact up2_k hj
    · exact q
/-- a booking that begins gives its room its state, for no other of that room begins in that hour -/
theorem beg_st {M : ecM} {N : Nat} (hN : N = mnB M) (hlo : ∀ b, b < N → (M.2.1 7 b).toInt ≤ (M.2.1 8 b).toInt)
    (hno : ∀ k, k < N → ∀ j, j < k → M.1 6 j = 0 → M.1 6 k = 0 → M.1 4 j = M.1 4 k → ¬ ((M.2.1 7 k).toInt - (M.2.1 8 j).toInt ≤ dif (M.1 5 k) (M.1 5 j) ∧ (M.2.1 7 j).toInt - (M.2.1 8 k).toInt ≤ dif (M.1 5 k) (M.1 5 j))) :
    ∀ n, n ≤ N → ∀ k, k < n → M.1 6 k = 0 → M.2.1 7 k = mhr M → (begM M n).1 0 (M.1 4 k) = M.1 5 k
  | 0, _, k, h, _, _ => absurd h (Nat.not_lt_zero k)
  | n + 1, hn, k, hk, k0, kh => by
    rw [begM_s]
    by_cases hkn : k = n
    · subst hkn
      rw [if_pos ⟨k0, kh⟩]
      show up2 (begM M k).1 0 (M.1 4 k) (M.1 5 k) 0 (M.1 4 k) = _
      exact up2_s
    · have hk2 : k < n := by omega
      have ih := beg_st hN hlo hno n (by omega) k hk2 k0 kh
      split
      · next hc =>
        have hne : M.1 4 k ≠ M.1 4 n := fun z => by
          have a1 := hlo k (by omega)
          have a2 := hlo n (by omega)
          have e1 : (M.2.1 7 k).toInt = (M.2.1 7 n).toInt := by rw [kh, hc.2]
          exact hno n (by omega) k hk2 k0 hc.1 z ⟨by omega, by omega⟩
        rw [← ih]
        show up2 (begM M n).1 0 (M.1 4 n) (M.1 5 n) 0 (M.1 4 k) = _
        exact up2_n hne
      · exact ih
theorem begC_s (M : ecM) (k : Nat) : begC M (k + 1) = begC M k + (if M.1 6 k = 0 ∧ M.2.1 7 k = mhr M then 1 else 0) := rfl
/-! ages -/
theorem age_n {h c a n i : Nat} {M : ecM} (P : PI h c a n M) (hh : h ≤ 100000) (hc : c ≤ 100000) (hi : i < mnA M) : (ageM M i).toInt = (mhr M).toInt - (M.2.1 2 i).toInt + 2 * ((M.2.1 0 (M.1 1 i)).toInt - (M.2.1 3 i).toInt) := by
  obtain ⟨p1, p2, p3, p4, -⟩ := P
  have q := p4 i hi
  have r := p2 (M.1 1 i)
  unfold ageM
  have e1 := i3s (a := mhr M) (b := M.2.1 2 i) (by omega) (by omega)
  have e2 := i3s (a := M.2.1 0 (M.1 1 i)) (b := M.2.1 3 i) (by omega) (by omega)
  have e3 := i3m (b := M.2.1 0 (M.1 1 i) - M.2.1 3 i) (by omega)
  rw [i3a (by omega) (by omega), e1, e3, e2]
theorem age_pos {h c a n i : Nat} {M : ecM} (P : PI h c a n M) (hh : h ≤ 100000) (hc : c ≤ 100000) (hi : i < mnA M) : ¬ ageM M i < 0 := by
  rw [Int32.lt_iff_toInt_lt, age_n P hh hc hi]
  obtain ⟨p1, p2, p3, p4, -⟩ := P
  have q := p4 i hi
  show ¬ _ < (0 : Int)
  omega
theorem age_mon {h c a n i : Nat} {M : ecM} (W : WF M) (P : PI h c a n M) (hh : h ≤ 100000) (hc : c ≤ 100000) (hi : i + 1 < mnA M) (h1 : mnR M = 1) : ageM M (i + 1) ≤ ageM M i := by
  rw [Int32.le_iff_toInt_le, age_n P hh hc hi, age_n P hh hc (by omega)]
  obtain ⟨p1, p2, p3, p4, p5, -⟩ := P
  have w1 := (W.an hi).1
  have w2 := (W.an (show i < mnA M by omega)).1
  have e1 : M.1 1 (i + 1) = 0 := by omega
  have e2 : M.1 1 i = 0 := by omega
  have q := p5 i hi
  have q2 := q.2 (by rw [e1, e2])
  rw [e1, e2]
  omega
/-! a filter undoes its answer -/
theorem pr0 {u v X : Int64} (huv : u * v = -1) : 0 + u * (v * X) = -X := by
  rw [Int64.zero_add, ← Int64.mul_assoc, huv, Int64.neg_mul, Int64.one_mul]
theorem prd_1 {s : Nat → Int32} {t : Nat → Int64} (hs : s 0 = 1 ∨ s 0 = -1) (ht : ∀ k, k < 6 → t k = tpF s k) : ∀ n, n < 6 → prd s t n = if n = 0 then 1 else 0 := by
  have hu : (s 0).toInt64 * (s 0).toInt64 = 1 := by rcases hs with h | h <;> rw [h] <;> decide
  have huv : (s 0).toInt64 * (-s 0).toInt64 = -1 := by rcases hs with h | h <;> rw [h] <;> decide
  have t0 : t 0 = (s 0).toInt64 := ht 0 (by decide)
  have t1 : t 1 = tp1 s := ht 1 (by decide)
  have t2 : t 2 = tp2 s := ht 2 (by decide)
  have t3 : t 3 = tp3 s := ht 3 (by decide)
  have t4 : t 4 = tp4 s := ht 4 (by decide)
  have t5 : t 5 = tp5 s := ht 5 (by decide)
  intro n hn
  rcases (show n = 0 ∨ n = 1 ∨ n = 2 ∨ n = 3 ∨ n = 4 ∨ n = 5 by omega) with rfl | rfl | rfl | rfl | rfl | rfl
  · show 0 + (s 0).toInt64 * t 0 = 1
    rw [t0, hu, Int64.zero_add]
  · show 0 + (s 0).toInt64 * t 1 + (s 1).toInt64 * t 0 = 0
    rw [t1, t0]
    unfold tp1
    rw [pr0 huv, Int64.zero_add]
    exact Int64.add_left_neg _
  · show 0 + (s 0).toInt64 * t 2 + (s 1).toInt64 * t 1 + (s 2).toInt64 * t 0 = 0
    rw [t2, t1, t0]
    unfold tp2
    rw [pr0 huv, Int64.zero_add]
    simp only [Int64.add_assoc]
    exact Int64.add_left_neg _
  · show 0 + (s 0).toInt64 * t 3 + (s 1).toInt64 * t 2 + (s 2).toInt64 * t 1 + (s 3).toInt64 * t 0 = 0
    rw [t3, t2, t1, t0]
    unfold tp3
    rw [pr0 huv, Int64.zero_add]
    simp only [Int64.add_assoc]
    exact Int64.add_left_neg _
  · show 0 + (s 0).toInt64 * t 4 + (s 1).toInt64 * t 3 + (s 2).toInt64 * t 2 + (s 3).toInt64 * t 1 = 0
    rw [t4, t3, t2, t1]
    unfold tp4
    rw [pr0 huv, Int64.zero_add]
    simp only [Int64.add_assoc]
    exact Int64.add_left_neg _
  · show 0 + (s 0).toInt64 * t 5 + (s 1).toInt64 * t 4 + (s 2).toInt64 * t 3 + (s 3).toInt64 * t 2 = 0
    rw [t5, t4, t3, t2]
    unfold tp5
    rw [pr0 huv, Int64.zero_add]
    simp only [Int64.add_assoc]
    exact Int64.add_left_neg _
theorem rgt_six {s : Nat → Int32} {t : Nat → Int64} (h : ∀ n, n < 6 → prd s t n = if n = 0 then 1 else 0) : rgt s t = 6 := by
  have e : ∀ n d, n < 6 → rgtN s t n (d + 1) = 1 + rgtN s t (n + 1) d := fun n d hn => by
    show (if prd s t n = (if n = 0 then 1 else 0) then 1 + rgtN s t (n + 1) d else 0) = _
    rw [if_pos (h n hn)]
  show rgtN s t 0 6 = 6
  rw [e 0 5 (by decide), e 1 4 (by decide), e 2 3 (by decide), e 3 2 (by decide), e 4 1 (by decide), e 5 0 (by decide)]
  rfl
theorem prS_s (s : Nat → Int32) (t : Nat → Int64) (n k : Nat) : prS s t n (k + 1) = prS s t n k + (s k).toInt64 * t (n - k) := rfl
theorem FT {h c a n f : Nat} {M : ecM} (W : WF M) (P : PI h c a n M) (hf : f < mnF M) : (∀ k, k < 6 → prd (smA M (M.1 3 f)) (tpA M f) k = if k = 0 then 1 else 0) ∧ tpA M f 0 = (smA M (M.1 3 f) 0).toInt64 := by
  obtain ⟨p1, p2, p3, p4, p5, p6, -⟩ := P
  exact ⟨prd_1 (p4 _ (W.fi hf)).2.2 (fun k hk => p6 f hf k hk), p6 f hf 0 (by decide)⟩
/-! bars -/
theorem bar_45 {M : ecM} {f : Nat} (h : barM M f = 45) : ¬ mlm M < ageM M (M.1 3 f) := by
  unfold barM at h
  split at h
  · split at h
    · split at h
      · exact absurd h (by decide)
      · assumption
    · exact absurd h (by decide)
  · exact absurd h (by decide)
theorem bar_111 {M : ecM} {f : Nat} (h : barM M f = 111) : mlm M < ageM M (M.1 3 f) := by
  unfold barM at h
  split at h
  · split at h
    · split at h
      · assumption
      · exact absurd h (by decide)
    · exact absurd h (by decide)
  · exact absurd h (by decide)
/-! states measured, over the rooms -/
def ssN (M : ecM) (n : Nat) : Nat → Nat
  | 0 => 0
  | r + 1 => ssN M n r + smN M r n
theorem ssN_s (M : ecM) (n r : Nat) : ssN M n (r + 1) = ssN M n r + smN M r n := rfl
theorem ssN_0 (M : ecM) : ∀ R, ssN M 0 R = 0
  | 0 => rfl
  | R + 1 => by rw [ssN_s, ssN_0 M R]; rfl
theorem ssN_n (M : ecM) (n : Nat) : ∀ R, ssN M (n + 1) R = ssN M n R + (if M.1 1 n < R ∧ frN M n n = true then 1 else 0)
  | 0 => by rw [if_neg (fun z => Nat.not_lt_zero _ z.1)]; rfl
  | R + 1 => by
    have e1 : (if (decide (M.1 1 n = R) && frN M n n) = true then 1 else 0) + (if M.1 1 n < R ∧ frN M n n = true then 1 else 0) = (if M.1 1 n < R + 1 ∧ frN M n n = true then (1 : Nat) else 0) := by
      by_cases hf : frN M n n = true
      · by_cases h1 : M.1 1 n = R
        · rw [if_pos (by rw [hf, decide_eq_true h1]; rfl), if_neg (fun z => by have := z.1; omega), if_pos ⟨by omega, hf⟩]
        · by_cases h2 : M.1 1 n < R
          · rw [if_neg (by rw [decide_eq_false h1, Bool.false_and]; decide), if_pos ⟨h2, hf⟩, if_pos ⟨by omega, hf⟩]
          · rw [if_neg (by rw [decide_eq_false h1, Bool.false_and]; decide), if_neg (fun z => h2 z.1), if_neg (fun z => by have := z.1; omega)]
      · have hf2 := Bool.eq_false_iff.mpr hf
        rw [if_neg (by rw [hf2, Bool.and_false]; decide), if_neg (fun z => hf z.2), if_neg (fun z => hf z.2)]
    have e2 : ∀ a b c d : Nat, a + c + (b + d) = a + b + (d + c) := fun a b c d => by omega
    rw [ssN_s, ssN_s, ssN_n M n R, smN_s, ← e1]
    exact e2 _ _ _ _
theorem ssN_le (M : ecM) (R : Nat) : ∀ n, ssN M n R ≤ n
  | 0 => by rw [ssN_0]; omega
  | n + 1 => by have := ssN_le M R n; rw [ssN_n]; split <;> omega
theorem ssN_pos {M : ecM} {R : Nat} (h : M.1 1 0 < R) : ∀ n, 0 < ssN M (n + 1) R
  | 0 => by rw [ssN_n, ssN_0, if_pos ⟨h, rfl⟩]; decide
  | n + 1 => by have := ssN_pos h n; rw [ssN_n]; omega
theorem ssN_iff {M : ecM} (W : WF M) : mnA M = 0 ↔ ssN M (mnA M) (mnR M) = 0 := by
  constructor
  · intro z
    rw [z, ssN_0]
  · intro z
    rcases Nat.eq_zero_or_pos (mnA M) with h | h
    · exact h
    · have := ssN_pos (M := M) (W.an h).1 (mnA M - 1)
      rw [show mnA M - 1 + 1 = mnA M by omega] at this
      omega
/-! uses -/
theorem gvS_0 {t : Nat → Int64} {q : Nat → Int32} {y : Int32} (h : ∀ k, k < 6 → q k = 0) : gvS t (psU q y) 6 = y.toInt64 * t 0 := by
  show 0 + t 0 * y.toInt64 + t 1 * (q 0).toInt64 + t 2 * (q 1).toInt64 + t 3 * (q 2).toInt64 + t 4 * (q 3).toInt64 + t 5 * (q 4).toInt64 = _
  rw [h 0 (by decide), h 1 (by decide), h 2 (by decide), h 3 (by decide), h 4 (by decide), show (0 : Int32).toInt64 = 0 from rfl]
  simp only [Int64.mul_zero, Int64.add_zero, Int64.zero_add]
  exact Int64.mul_comm _ _
theorem gvS_e {t : Nat → Int64} {q : Nat → Int32} {k : Nat} (hk : k < 6) (h : ∀ j, j < 6 → q j = if j = k then 1 else 0) : gvS t q 6 = t k := by
  show 0 + t 0 * (q 0).toInt64 + t 1 * (q 1).toInt64 + t 2 * (q 2).toInt64 + t 3 * (q 3).toInt64 + t 4 * (q 4).toInt64 + t 5 * (q 5).toInt64 = _
  rw [h 0 (by decide), h 1 (by decide), h 2 (by decide), h 3 (by decide), h 4 (by decide), h 5 (by decide)]
  have z0 : (0 : Int32).toInt64 = 0 := rfl
  have z1 : (1 : Int32).toInt64 = 1 := rfl
  rcases (show k = 0 ∨ k = 1 ∨ k = 2 ∨ k = 3 ∨ k = 4 ∨ k = 5 by omega) with rfl | rfl | rfl | rfl | rfl | rfl <;> simp [z0, z1]
def us0 (M : ecM) (f : Nat) : Nat → ecM
  | 0 => M
  | n + 1 => useM (us0 M f n) f 0
def us1 (M : ecM) (f : Nat) : Nat → ecM
  | 0 => M
  | n + 1 => useM (us1 M f n) f (if n = 0 then 1 else 0)
theorem latN_c {M N : ecM} (h1 : N.1 1 = M.1 1) (h2 : N.1 2 = M.1 2) (h3 : N.2.1 1 = M.2.1 1) (r : Nat) (pl : Int32) (k : Nat) : ∀ n, latN N r pl k n = latN M r pl k n
  | 0 => rfl
  | n + 1 => by rw [latN_s, latN_s, h1, h2, h3, latN_c h1 h2 h3 r pl k n]
/-- two states that differ in filters' inputs alone -/
def uE (M N : ecM) : Prop := N.1 = M.1 ∧ N.2.2 = M.2.2 ∧ ∀ k, k ≠ 5 → k ≠ 6 → N.2.1 k = M.2.1 k
theorem uE.rf (M : ecM) : uE M M := ⟨rfl, rfl, fun _ _ _ => rfl⟩
theorem uE.use {M N : ecM} {f : Nat} {x : Int32} (h : uE M N) : uE M (useM N f x) := by
  refine ⟨h.1, h.2.1, fun k h5 h6 => ?_⟩
  rw [← h.2.2 k h5 h6]
  funext i
  show (up2 _ 6 f _) k i = _
  rw [up2_k h6]
  show (up2 _ 5 _ _) k i = _
  rw [up2_k h5]
  show (up2 _ 5 _ _) k i = _
  rw [up2_k h5]
  show (up2 _ 5 _ _) k i = _
  rw [up2_k h5]
  show (up2 _ 5 _ _) k i = _
  rw [up2_k h5]
  show (up2 _ 5 _ _) k i = _
  rw [up2_k h5]
  show (up2 _ 5 _ _) k i = _
  rw [up2_k h5]
theorem uE.bar {M N : ecM} (h : uE M N) (f : Nat) : barM N f = barM M f := by
  obtain ⟨h1, h2, h3⟩ := h
  have a1 := h3 1 (by decide) (by decide)
  have a2 := h3 2 (by decide) (by decide)
  have a3 := h3 3 (by decide) (by decide)
  have a0 := h3 0 (by decide) (by decide)
  have a9 := h3 9 (by decide) (by decide)
  unfold barM ageM
  rw [show mlm N = mlm M from by show N.2.1 9 1 = _; rw [a9], show mhr N = mhr M from by show N.2.1 9 0 = _; rw [a9], show mnA N = mnA M from by show N.1 7 1 = _; rw [h1], latN_c (M := M) (by rw [h1]) (by rw [h1]) a1, h1, a1, a2, a3, a0]
theorem us0_u (M : ecM) (f : Nat) : ∀ n, uE M (us0 M f n)
  | 0 => uE.rf M
  | n + 1 => (us0_u M f n).use
theorem us1_u (M : ecM) (f : Nat) : ∀ n, uE M (us1 M f n)
  | 0 => uE.rf M
  | n + 1 => (us1_u M f n).use
theorem uE.tr {M N O : ecM} (h : uE M N) (k : uE N O) : uE M O := ⟨k.1.trans h.1, k.2.1.trans h.2.1, fun j a b => (k.2.2 j a b).trans (h.2.2 j a b)⟩
theorem us0_p {M : ecM} {f : Nat} : ∀ n, ∀ j, j < n → j < 6 → psA (us0 M f n) f j = 0
  | 0, j, h, _ => absurd h (Nat.not_lt_zero j)
  | n + 1, j, h, h6 => by
    obtain ⟨q0, q1, q2, q3, q4, q5⟩ := psA_use (us0 M f n) f 0
    rcases (show j = 0 ∨ j = 1 ∨ j = 2 ∨ j = 3 ∨ j = 4 ∨ j = 5 by omega) with rfl | rfl | rfl | rfl | rfl | rfl
    · exact q0
    · exact q1.trans (us0_p n 0 (by omega) (by decide))
    · exact q2.trans (us0_p n 1 (by omega) (by decide))
    · exact q3.trans (us0_p n 2 (by omega) (by decide))
    · exact q4.trans (us0_p n 3 (by omega) (by decide))
    · exact q5.trans (us0_p n 4 (by omega) (by decide))
theorem us1_p {M : ecM} {f : Nat} (h0 : ∀ j, j < 6 → psA M f j = 0) : ∀ n, ∀ j, j < 6 → psA (us1 M f n) f j = if j + 1 = n then 1 else 0
  | 0, j, h6 => by rw [if_neg (by omega)]; exact h0 j h6
  | n + 1, j, h6 => by
    obtain ⟨q0, q1, q2, q3, q4, q5⟩ := psA_use (us1 M f n) f (if n = 0 then 1 else 0)
    have ih := us1_p h0 n
    show psA (useM (us1 M f n) f (if n = 0 then 1 else 0)) f j = _
    rcases (show j = 0 ∨ j = 1 ∨ j = 2 ∨ j = 3 ∨ j = 4 ∨ j = 5 by omega) with rfl | rfl | rfl | rfl | rfl | rfl
    · rw [q0]
      by_cases z : n = 0
      · rw [if_pos z, if_pos (by omega)]
      · rw [if_neg z, if_neg (by omega)]
    · rw [q1, ih 0 (by decide)]
      by_cases z : n = 1
      · rw [if_pos (by omega), if_pos (by omega)]
      · rw [if_neg (by omega), if_neg (by omega)]
    · rw [q2, ih 1 (by decide)]
      by_cases z : n = 2
      · rw [if_pos (by omega), if_pos (by omega)]
      · rw [if_neg (by omega), if_neg (by omega)]
    · rw [q3, ih 2 (by decide)]
      by_cases z : n = 3
      · rw [if_pos (by omega), if_pos (by omega)]
      · rw [if_neg (by omega), if_neg (by omega)]
    · rw [q4, ih 3 (by decide)]
      by_cases z : n = 4
      · rw [if_pos (by omega), if_pos (by omega)]
      · rw [if_neg (by omega), if_neg (by omega)]
    · rw [q5, ih 4 (by decide)]
      by_cases z : n = 5
      · rw [if_pos (by omega), if_pos (by omega)]
      · rw [if_neg (by omega), if_neg (by omega)]
theorem us1_g {M : ecM} {f k : Nat} {t : Nat → Int64} (h0 : ∀ j, j < 6 → psA M f j = 0) (hk : k < 6) : gvS t (psU (psA (us1 M f k) f) (if k = 0 then 1 else 0)) 6 = t k := by
  refine gvS_e hk (fun j hj => ?_)
  match j, hj with
  | 0, _ =>
    show (if k = 0 then (1 : Int32) else 0) = _
    by_cases z : k = 0
    · rw [if_pos z, if_pos (by omega)]
    · rw [if_neg z, if_neg (by omega)]
  | j + 1, hj => exact us1_p h0 k j (by omega)
theorem us0_P {h c a n f : Nat} {M : ecM} (P : PI h c a n M) (hf : f < mnF M) (hn : n ≤ 90000) : ∀ k, k ≤ 10000 → PI h c a (n + k) (us0 M f k)
  | 0, _ => P
  | k + 1, hk => (us0_P P hf hn k (by omega)).use (by show f < (us0 M f k).1 7 2; rw [(us0_u M f k).1]; exact hf) (by omega)
theorem us1_P {h c a n f : Nat} {M : ecM} (P : PI h c a n M) (hf : f < mnF M) (hn : n ≤ 90000) : ∀ k, k ≤ 10000 → PI h c a (n + k) (us1 M f k)
  | 0, _ => P
  | k + 1, hk => (us1_P P hf hn k (by omega)).use (by show f < (us1 M f k).1 7 2; rw [(us1_u M f k).1]; exact hf) (by omega)
