section ECUP2
variable {G : ecG} {X : Nat → Prop} {M : ecM} {tg : Nat → Nat} {ad : Nat → Nat → Nat} {H H1 : Heap}
theorem ecO.addAns {sz da2 sa q r : Nat} {pl a b c d : Int32} (h : ecO G X M tg ad H) (hX : ecXs G X H) (hr : r < mnR M) (hn : mnA M < 40) (hsz : H.size ≤ sz) (hlx : ecLx G (ad 1 1) da2 (M.1 7 1 + 1) (fun i => if i = mnA M then q else ad 5 i) H1) (hda : (da2 < H.size ∧ tg da2 = 128 + 1 ∧ X da2) ∨ sz ≤ da2)
    (hk : ∀ x, x < H.size → tg x ≠ 64 + 1 → tg x ≠ 128 + 1 → H1[x]? = H[x]?) (h1 : H.size ≤ sa) (h2 : H.size ≤ q) (h3 : sa < sz) (h4 : q < sz) (hne : sa ≠ q) (e1 : ecA G sa (eI G 4 (fun k => if k = 0 then a else if k = 1 then b else if k = 2 then c else d)) H1) (e2 : ecA G q (eO 0 [.int (nI (mnA M)), .ref (ad 3 r), .ref (ad 4 r), .int pl, .ref sa, .int (mhr M), .int (M.2.1 0 r)]) H1) :
    ∃ tg2, ecO G X (mesM M r pl a b c d) tg2 (up2 (up2 (up2 (up2 ad 2 1 da2) 5 (mnA M) q) 6 (mnA M) (ad 4 r)) 7 (mnA M) sa) H1 := by
  have hda' : da2 < H.size ∨ sz ≤ da2 := hda.imp (fun z => z.1) id
  obtain ⟨s, l0⟩ := h.app (fun x => if x = q then 320 + mnA M else 0) hX (by decide) hsz hlx hda hk
  obtain ⟨b1, b2, b3, b4, b5, b6, b7⟩ := h
  have hc := b7.n
  refine ⟨_, b1.st s (by omega), lt_4 ((b2 0 (by decide)).st s (by omega) (by omega)) l0 ((b2 2 (by decide)).st s (by omega) (by omega)) ((b2 3 (by decide)).st s (by omega) (by omega)), b3.st s (fun _ _ => by omega) (by omega), fun i hi => ?_, fun i hi => ?_, b6.st s (fun _ _ => by omega) (by omega), b7.mes hr hn⟩
  · have hi : i < mnA M + 1 := hi
    have hsm : ∀ k, smA (mesM M r pl a b c d) i k = if 4 * i + k = 4 * mnA M + 3 then d else if 4 * i + k = 4 * mnA M + 2 then c else if 4 * i + k = 4 * mnA M + 1 then b else if 4 * i + k = 4 * mnA M then a else M.2.1 4 (4 * i + k) := fun k => rfl
    show ecT G X _ H1 (if i = mnA M then q else ad 5 i) (320 + i) (eO 0 [.int (nI i), .ref (ad 3 (if i = mnA M then r else M.1 1 i)), .ref (if i = mnA M then ad 4 r else ad 6 i), .int (if i = mnA M then pl else M.2.1 1 i), .ref (if i = mnA M then sa else ad 7 i), .int (if i = mnA M then mhr M else M.2.1 2 i), .int (if i = mnA M then M.2.1 0 r else M.2.1 3 i)]) ∧ ecT G X _ H1 (if i = mnA M then ad 4 r else ad 6 i) 0 (eO 4 (stL (if i = mnA M then M.1 0 r else M.1 2 i))) ∧ ecT G X _ H1 (if i = mnA M then sa else ad 7 i) 0 (eI G 4 (smA (mesM M r pl a b c d) i))
    by_cases hq : i = mnA M
    · subst hq
      simp only [eq_self, ↓reduceIte]
      have e3 : ecA G sa (eI G 4 (smA (mesM M r pl a b c d) (mnA M))) H1 := by
        refine ecI_to e1 (lt_4 ?_ ?_ ?_ ?_)
        all_goals (rw [hsm]; simp)
      exact ⟨ecT.new e2 hX h2 h4 hda' (if_pos rfl), (b3 r hr).2.st s (by omega), ecT.new e3 hX h1 h3 hda' (if_neg hne)⟩
    · simp only [if_neg hq]
      have z := (b4 i (by omega)).2.2.st s (by omega)
      refine ⟨(b4 i (by omega)).1.st s (by omega), (b4 i (by omega)).2.1.st s (by omega), ecI_to z.1 fun k hk => ?_, z.2⟩
      rw [hsm, if_neg (by omega), if_neg (by omega), if_neg (by omega), if_neg (by omega)]
  · have hi : i < mnF M := hi
    have hl : M.1 3 i < mnA M := b7.fi hi
    show ecT G X _ H1 (ad 8 i) (512 + i) (eO 2 [.ref (if M.1 3 i = mnA M then q else ad 5 (M.1 3 i)), .ref (ad 9 i), .ref (ad 10 i), .int (M.2.1 6 i)]) ∧ _
    rw [if_neg (Nat.ne_of_lt hl)]
    exact b5.st s (fun _ _ => by omega) (fun _ _ => by omega) (by omega) i hi
theorem ecO.addFil {sz da2 ta pa q a : Nat} (h : ecO G X M tg ad H) (hX : ecXs G X H) (ha : a < mnA M) (hn : mnF M < 20) (hsz : H.size ≤ sz) (hlx : ecLx G (ad 1 2) da2 (M.1 7 2 + 1) (fun i => if i = mnF M then q else ad 8 i) H1) (hda : (da2 < H.size ∧ tg da2 = 128 + 2 ∧ X da2) ∨ sz ≤ da2)
    (hk : ∀ x, x < H.size → tg x ≠ 64 + 2 → tg x ≠ 128 + 2 → H1[x]? = H[x]?) (h1 : H.size ≤ ta) (h2 : H.size ≤ q) (h5 : H.size ≤ pa) (h3 : ta < sz) (h4 : q < sz) (h6 : pa < sz) (hne : ta ≠ q) (hne2 : pa ≠ q) (hne3 : ta ≠ pa) (e1 : ecA G ta (eJ G 6 (tpF (smA M a))) H1) (e3 : ecA G pa (eI G 6 (fun _ => 0)) H1) (e2 : ecA G q (eO 2 [.ref (ad 5 a), .ref ta, .ref pa, .int 0]) H1) :
    ∃ tg2, ecO G X (filM M a) tg2 (up2 (up2 (up2 (up2 ad 2 2 da2) 8 (mnF M) q) 9 (mnF M) ta) 10 (mnF M) pa) H1 := by
  have hda' : da2 < H.size ∨ sz ≤ da2 := hda.imp (fun z => z.1) id
  obtain ⟨s, l0⟩ := h.app (fun x => if x = q then 512 + mnF M else if x = pa then 640 + mnF M else 0) hX (by decide) hsz hlx hda hk
  obtain ⟨b1, b2, b3, b4, b5, b6, b7⟩ := h
  have hc := b7.n
  refine ⟨_, b1.st s (by omega), lt_4 ((b2 0 (by decide)).st s (by omega) (by omega)) ((b2 1 (by decide)).st s (by omega) (by omega)) l0 ((b2 3 (by decide)).st s (by omega) (by omega)), b3.st s (fun _ _ => by omega) (by omega), b4.st s (fun _ _ => by omega) (by omega), fun i hi => ?_, b6.st s (fun _ _ => by omega) (by omega), b7.fil ha hn⟩
  have hi : i < mnF M + 1 := hi
  have htp : ∀ k, tpA (filM M a) i k = if 6 * i + k = 6 * mnF M + 5 then tpF (smA M a) 5 else if 6 * i + k = 6 * mnF M + 4 then tpF (smA M a) 4 else if 6 * i + k = 6 * mnF M + 3 then tpF (smA M a) 3 else if 6 * i + k = 6 * mnF M + 2 then tpF (smA M a) 2 else if 6 * i + k = 6 * mnF M + 1 then tpF (smA M a) 1 else if 6 * i + k = 6 * mnF M then tpF (smA M a) 0 else M.2.2 (6 * i + k) := fun k => rfl
  show ecT G X _ H1 (if i = mnF M then q else ad 8 i) (512 + i) (eO 2 [.ref (ad 5 (if i = mnF M then a else M.1 3 i)), .ref (if i = mnF M then ta else ad 9 i), .ref (if i = mnF M then pa else ad 10 i), .int (M.2.1 6 i)]) ∧ ecT G X _ H1 (if i = mnF M then ta else ad 9 i) 0 (eJ G 6 (tpA (filM M a) i)) ∧ ecT G X _ H1 (if i = mnF M then pa else ad 10 i) (640 + i) (eI G 6 (psA M i))
  by_cases hq : i = mnF M
  · subst hq
    simp only [eq_self, ↓reduceIte]
    have e4 : ecA G ta (eJ G 6 (tpA (filM M a) (mnF M))) H1 := by
      refine ecJ_to e1 (ec_lt6 ?_ ?_ ?_ ?_ ?_ ?_)
      all_goals (rw [htp]; simp)
    have e5 : ecA G pa (eI G 6 (psA M (mnF M))) H1 := ecI_to e3 fun k hk => (b7.2.2.2.2.2.2.2.2.2.2.2.2.1 _ (by omega)).symm
    have e6 : M.2.1 6 (mnF M) = 0 := b7.2.2.2.2.2.2.2.2.2.2.2.1 _ (Nat.le_refl _)
    rw [e6]
    exact ⟨ecT.new e2 hX h2 h4 hda' (if_pos rfl), ecT.new e4 hX h1 h3 hda' (by rw [if_neg hne, if_neg hne3]), ecT.new e5 hX h5 h6 hda' (by rw [if_neg hne2, if_pos rfl])⟩
  · simp only [if_neg hq]
    have z := (b5 i (by omega)).2.1.st s (by omega)
    refine ⟨(b5 i (by omega)).1.st s (by omega), ⟨ecJ_to z.1 fun k hk => ?_, z.2⟩, (b5 i (by omega)).2.2.st s (by omega)⟩
    rw [htp, if_neg (by omega), if_neg (by omega), if_neg (by omega), if_neg (by omega), if_neg (by omega), if_neg (by omega)]
theorem ecO.addBok {sz da2 qs q r k : Nat} {f l : Int32} (h : ecO G X M tg ad H) (hX : ecXs G X H) (hr : r < mnR M) (hk80 : k < 80) (hl : 0 < l.toInt) (hn : mnB M < 16) (hsz : H.size ≤ sz) (hlx : ecLx G (ad 1 3) da2 (M.1 7 3 + 1) (fun i => if i = mnB M then q else ad 11 i) H1) (hda : (da2 < H.size ∧ tg da2 = 128 + 3 ∧ X da2) ∨ sz ≤ da2)
    (hk : ∀ x, x < H.size → tg x ≠ 64 + 3 → tg x ≠ 128 + 3 → H1[x]? = H[x]?) (h1 : H.size ≤ qs) (h2 : H.size ≤ q) (h3 : qs < sz) (h4 : q < sz) (hne : qs ≠ q) (e1 : ecA G qs (eO 4 (stL k)) H1) (e2 : ecA G q (eO 1 [.int (nI (mnB M)), .ref (ad 3 r), .ref qs, .int f, .int l, .int 0]) H1) :
    ∃ tg2, ecO G X (bokM M r k f l) tg2 (up2 (up2 (up2 ad 2 3 da2) 11 (mnB M) q) 12 (mnB M) qs) H1 := by
  have hda' : da2 < H.size ∨ sz ≤ da2 := hda.imp (fun z => z.1) id
  obtain ⟨s, l0⟩ := h.app (fun x => if x = q then 704 + mnB M else 0) hX (by decide) hsz hlx hda hk
  obtain ⟨b1, b2, b3, b4, b5, b6, b7⟩ := h
  have hc := b7.n
  refine ⟨_, b1.st s (by omega), lt_4 ((b2 0 (by decide)).st s (by omega) (by omega)) ((b2 1 (by decide)).st s (by omega) (by omega)) ((b2 2 (by decide)).st s (by omega) (by omega)) l0, b3.st s (fun _ _ => by omega) (by omega), b4.st s (fun _ _ => by omega) (by omega), b5.st s (fun _ _ => by omega) (fun _ _ => by omega) (by omega), fun i hi => ?_, b7.bok hr hk80 hl hn⟩
  have hi : i < mnB M + 1 := hi
  show ecT G X _ H1 (if i = mnB M then q else ad 11 i) (704 + i) (eO 1 [.int (nI i), .ref (ad 3 (if i = mnB M then r else M.1 4 i)), .ref (if i = mnB M then qs else ad 12 i), .int (if i = mnB M then f else M.2.1 7 i), .int (if i = mnB M then l else M.2.1 8 i), .int (nI (M.1 6 i))]) ∧ ecT G X _ H1 (if i = mnB M then qs else ad 12 i) 0 (eO 4 (stL (if i = mnB M then k else M.1 5 i)))
  by_cases hq : i = mnB M
  · subst hq
    simp only [eq_self, ↓reduceIte]
    have e6 : M.1 6 (mnB M) = 0 := b7.2.2.2.2.2.2.2.2.2.2.1 _ (Nat.le_refl _)
    rw [e6]
    exact ⟨ecT.new e2 hX h2 h4 hda' (if_pos rfl), ecT.new e1 hX h1 h3 hda' (if_neg hne)⟩
  · simp only [if_neg hq]
    exact ⟨(b6 i (by omega)).1.st s (by omega), (b6 i (by omega)).2.st s (by omega)⟩
end ECUP2
