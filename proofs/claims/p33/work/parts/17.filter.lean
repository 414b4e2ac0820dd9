theorem arr_cg {c : ClassId} {N : Nat} {f g : Nat → Value} (h : ∀ j, j < N → f j = g j) : arrV c N f = arrV c N g := by
  unfold arrV
  congr 2
  funext j
  exact h j.val j.isLt
theorem ecI_to {G : ecG} {a n : Nat} {f f2 : Nat → Int32} {H : Heap} (h : ecA G a (eI G n f) H) (hf : ∀ j, j < n → f j = f2 j) : ecA G a (eI G n f2) H := by
  have h1 : H[a]? = some (vp_cell (G.2.1 0) (n, .inl f)) := h
  show H[a]? = some (vp_cell (G.2.1 0) (n, .inl f2))
  rw [h1, vp_cell_i, vp_cell_i, arr_cg (fun j hj => by rw [hf j hj])]
theorem ecJ_to {G : ecG} {a n : Nat} {f f2 : Nat → Int64} {H : Heap} (h : ecA G a (eJ G n f) H) (hf : ∀ j, j < n → f j = f2 j) : ecA G a (eJ G n f2) H := by
  have h1 : H[a]? = some (vp_cell (G.2.1 1) (n, .inr (.inl f))) := h
  show H[a]? = some (vp_cell (G.2.1 1) (n, .inr (.inl f2)))
  rw [h1, vp_cell_l, vp_cell_l, arr_cg (fun j hj => by rw [hf j hj])]
theorem ecZ_to {G : ecG} {a n : Nat} {f f2 : Nat → Int32} {H : Heap} (h : ecA G a (eZ G n f) H) (hf : ∀ j, j < n → f j = f2 j) : ecA G a (eZ G n f2) H := by
  have h1 : H[a]? = some (vp_cell (G.2.1 2) (n, .inl f)) := h
  show H[a]? = some (vp_cell (G.2.1 2) (n, .inl f2))
  rw [h1, vp_cell_i, vp_cell_i, arr_cg (fun j hj => by rw [hf j hj])]
theorem ec_lt6 {P : Nat → Prop} (h0 : P 0) (h1 : P 1) (h2 : P 2) (h3 : P 3) (h4 : P 4) (h5 : P 5) : ∀ j, j < 6 → P j := lt_s (lt_s (lt_s (lt_s (lt_s (lt_s lt_0 h0) h1) h2) h3) h4) h5
theorem ec_cm0 (x y : Int64) : lg_cmp x y = 0 ↔ x = y := by
  unfold lg_cmp
  constructor
  · intro h
    split at h
    · exact absurd h (by decide)
    · split at h
      · assumption
      · exact absurd h (by decide)
  · intro h
    subst h
    simp

set_option maxHeartbeats 4000000 in
set_option maxRecDepth 100000 in
/-- what a filter gives -/
theorem c_X2_given (l : Launch) (G : ecG) (a ta pa : Nat) (v0 v3 : Value) (t : Nat → Int64) (q : Nat → Int32) : Met l yX2_given (ecWs yX2_given cX2_given 4 (Option.some FieldType.long)) (ecRm 1 0 0) (ecPc [.ref a] G (fun H => ecA G a (eO 2 [v0, .ref ta, .ref pa, v3]) H ∧ ecA G ta (eJ G 6 t) H ∧ ecA G pa (eI G 6 q) H)) (ecRp (fun v => v = some (.long (gvS t q 6)))) 0 0 (fun _ => False) := by
  refine ec_met (by decide) (Nat.le_of_ble_eq_true rfl) ?_
  intro p e s m below meth c hC hr hlocks hname hOk hpre ls hl
  have hK := hOk.1
  obtain ⟨ha, ht, hq⟩ := hpre
  have hS : va_S (fun _ => False) s.heap s.heap [] := va_S.rf
  have hAN : ∀ q, (fun _ : Nat => False) q → ecN0 G ≤ q := fun _ h => h.elim
  have hl : lv_has ls 4 [(0, .ref a)] := hl
  refine lv_lconst (v := 0) hC.1 hC.2.1 dX2_given_0 (by decide) ?_
  refine lv_lstore_n (lv' := [(1, .long 0), (0, .ref a)]) hC.1 hC.2.1 dX2_given_1 rfl hl (by decide) rfl (fun ls hl => ?_)
  refine lv_iconst (v := 0) hC.1 hC.2.1 dX2_given_2 (by decide) ?_
  refine lv_istore_n (lv' := [(3, .int 0), (1, .long 0), (0, .ref a)]) hC.1 hC.2.1 dX2_given_3 rfl hl (by decide) rfl (fun ls hl => ?_)
  refine lv_iload_n hC.1 hC.2.1 dX2_given_4 rfl (lv_at hl 0 rfl) ?_
  refine lv_bipush (v := 6) hC.1 hC.2.1 dX2_given_5 (by decide) ?_
  refine lv_icmp_ge (tgt := 33) hC.1 hC.2.1 dX2_given_7 (by decide) (fun c => absurd c (by decide)) (fun _ => ?_)
  refine lv_lload_n hC.1 hC.2.1 dX2_given_10 rfl (lv_at hl 1 rfl) ?_
  refine lv_aload_n hC.1 hC.2.1 dX2_given_11 rfl (lv_at hl 2 rfl) ?_
  refine ec_get hC hK ha fX2_25 rfl dX2_given_12 ?_
  refine lv_iload_n hC.1 hC.2.1 dX2_given_15 rfl (lv_at hl 0 rfl) ?_
  refine ec_lald hC hK ht 0 rfl (by omega) (by omega) dX2_given_16 ?_
  refine lv_aload_n hC.1 hC.2.1 dX2_given_17 rfl (lv_at hl 2 rfl) ?_
  refine ec_get hC hK ha fX2_29 rfl dX2_given_18 ?_
  refine lv_iload_n hC.1 hC.2.1 dX2_given_21 rfl (lv_at hl 0 rfl) ?_
  refine ec_iald hC hK hq 0 rfl (by omega) (by omega) dX2_given_22 ?_
  refine lv_i2l hC.1 hC.2.1 dX2_given_23 rfl ?_
  refine lv_lmul hC.1 hC.2.1 dX2_given_24 ?_
  refine lv_ladd hC.1 hC.2.1 dX2_given_25 ?_
  refine ec_topl (y := gvS t q 1) rfl ?_
  refine lv_lstore_n (lv' := [(1, .long (gvS t q 1)), (3, .int 0), (0, .ref a)]) hC.1 hC.2.1 dX2_given_26 rfl hl (by decide) rfl (fun ls hl => ?_)
  refine lv_iinc (v := 1) (lv' := [(3, .int 1), (1, .long (gvS t q 1)), (0, .ref a)]) hC.1 hC.2.1 dX2_given_27 hl (k := 1) rfl (by decide) (by decide) rfl (fun ls hl => ?_)
  refine lv_goto (tgt := 4) hC.1 hC.2.1 dX2_given_30 (by decide) ?_
  refine lv_iload_n hC.1 hC.2.1 dX2_given_4 rfl (lv_at hl 0 rfl) ?_
  refine lv_bipush (v := 6) hC.1 hC.2.1 dX2_given_5 (by decide) ?_
  refine lv_icmp_ge (tgt := 33) hC.1 hC.2.1 dX2_given_7 (by decide) (fun c => absurd c (by decide)) (fun _ => ?_)
  refine lv_lload_n hC.1 hC.2.1 dX2_given_10 rfl (lv_at hl 1 rfl) ?_
  refine lv_aload_n hC.1 hC.2.1 dX2_given_11 rfl (lv_at hl 2 rfl) ?_
  refine ec_get hC hK ha fX2_25 rfl dX2_given_12 ?_
  refine lv_iload_n hC.1 hC.2.1 dX2_given_15 rfl (lv_at hl 0 rfl) ?_
  refine ec_lald hC hK ht 1 rfl (by omega) (by omega) dX2_given_16 ?_
  refine lv_aload_n hC.1 hC.2.1 dX2_given_17 rfl (lv_at hl 2 rfl) ?_
  refine ec_get hC hK ha fX2_29 rfl dX2_given_18 ?_
  refine lv_iload_n hC.1 hC.2.1 dX2_given_21 rfl (lv_at hl 0 rfl) ?_
  refine ec_iald hC hK hq 1 rfl (by omega) (by omega) dX2_given_22 ?_
  refine lv_i2l hC.1 hC.2.1 dX2_given_23 rfl ?_
  refine lv_lmul hC.1 hC.2.1 dX2_given_24 ?_
  refine lv_ladd hC.1 hC.2.1 dX2_given_25 ?_
  refine ec_topl (y := gvS t q 2) rfl ?_
  refine lv_lstore_n (lv' := [(1, .long (gvS t q 2)), (3, .int 1), (0, .ref a)]) hC.1 hC.2.1 dX2_given_26 rfl hl (by decide) rfl (fun ls hl => ?_)
  refine lv_iinc (v := 2) (lv' := [(3, .int 2), (1, .long (gvS t q 2)), (0, .ref a)]) hC.1 hC.2.1 dX2_given_27 hl (k := 1) rfl (by decide) (by decide) rfl (fun ls hl => ?_)
  refine lv_goto (tgt := 4) hC.1 hC.2.1 dX2_given_30 (by decide) ?_
  refine lv_iload_n hC.1 hC.2.1 dX2_given_4 rfl (lv_at hl 0 rfl) ?_
  refine lv_bipush (v := 6) hC.1 hC.2.1 dX2_given_5 (by decide) ?_
  refine lv_icmp_ge (tgt := 33) hC.1 hC.2.1 dX2_given_7 (by decide) (fun c => absurd c (by decide)) (fun _ => ?_)
  refine lv_lload_n hC.1 hC.2.1 dX2_given_10 rfl (lv_at hl 1 rfl) ?_
  refine lv_aload_n hC.1 hC.2.1 dX2_given_11 rfl (lv_at hl 2 rfl) ?_
  refine ec_get hC hK ha fX2_25 rfl dX2_given_12 ?_
  refine lv_iload_n hC.1 hC.2.1 dX2_given_15 rfl (lv_at hl 0 rfl) ?_
  refine ec_lald hC hK ht 2 rfl (by omega) (by omega) dX2_given_16 ?_
  refine lv_aload_n hC.1 hC.2.1 dX2_given_17 rfl (lv_at hl 2 rfl) ?_
  refine ec_get hC hK ha fX2_29 rfl dX2_given_18 ?_
  refine lv_iload_n hC.1 hC.2.1 dX2_given_21 rfl (lv_at hl 0 rfl) ?_
  refine ec_iald hC hK hq 2 rfl (by omega) (by omega) dX2_given_22 ?_
  refine lv_i2l hC.1 hC.2.1 dX2_given_23 rfl ?_
  refine lv_lmul hC.1 hC.2.1 dX2_given_24 ?_
  refine lv_ladd hC.1 hC.2.1 dX2_given_25 ?_
  refine ec_topl (y := gvS t q 3) rfl ?_
  refine lv_lstore_n (lv' := [(1, .long (gvS t q 3)), (3, .int 2), (0, .ref a)]) hC.1 hC.2.1 dX2_given_26 rfl hl (by decide) rfl (fun ls hl => ?_)
  refine lv_iinc (v := 3) (lv' := [(3, .int 3), (1, .long (gvS t q 3)), (0, .ref a)]) hC.1 hC.2.1 dX2_given_27 hl (k := 1) rfl (by decide) (by decide) rfl (fun ls hl => ?_)
  refine lv_goto (tgt := 4) hC.1 hC.2.1 dX2_given_30 (by decide) ?_
  refine lv_iload_n hC.1 hC.2.1 dX2_given_4 rfl (lv_at hl 0 rfl) ?_
  refine lv_bipush (v := 6) hC.1 hC.2.1 dX2_given_5 (by decide) ?_
  refine lv_icmp_ge (tgt := 33) hC.1 hC.2.1 dX2_given_7 (by decide) (fun c => absurd c (by decide)) (fun _ => ?_)
  refine lv_lload_n hC.1 hC.2.1 dX2_given_10 rfl (lv_at hl 1 rfl) ?_
  refine lv_aload_n hC.1 hC.2.1 dX2_given_11 rfl (lv_at hl 2 rfl) ?_
  refine ec_get hC hK ha fX2_25 rfl dX2_given_12 ?_
  refine lv_iload_n hC.1 hC.2.1 dX2_given_15 rfl (lv_at hl 0 rfl) ?_
  refine ec_lald hC hK ht 3 rfl (by omega) (by omega) dX2_given_16 ?_
  refine lv_aload_n hC.1 hC.2.1 dX2_given_17 rfl (lv_at hl 2 rfl) ?_
  refine ec_get hC hK ha fX2_29 rfl dX2_given_18 ?_
  refine lv_iload_n hC.1 hC.2.1 dX2_given_21 rfl (lv_at hl 0 rfl) ?_
  refine ec_iald hC hK hq 3 rfl (by omega) (by omega) dX2_given_22 ?_
  refine lv_i2l hC.1 hC.2.1 dX2_given_23 rfl ?_
  refine lv_lmul hC.1 hC.2.1 dX2_given_24 ?_
  refine lv_ladd hC.1 hC.2.1 dX2_given_25 ?_
  refine ec_topl (y := gvS t q 4) rfl ?_
  refine lv_lstore_n (lv' := [(1, .long (gvS t q 4)), (3, .int 3), (0, .ref a)]) hC.1 hC.2.1 dX2_given_26 rfl hl (by decide) rfl (fun ls hl => ?_)
  refine lv_iinc (v := 4) (lv' := [(3, .int 4), (1, .long (gvS t q 4)), (0, .ref a)]) hC.1 hC.2.1 dX2_given_27 hl (k := 1) rfl (by decide) (by decide) rfl (fun ls hl => ?_)
  refine lv_goto (tgt := 4) hC.1 hC.2.1 dX2_given_30 (by decide) ?_
  refine lv_iload_n hC.1 hC.2.1 dX2_given_4 rfl (lv_at hl 0 rfl) ?_
  refine lv_bipush (v := 6) hC.1 hC.2.1 dX2_given_5 (by decide) ?_
  refine lv_icmp_ge (tgt := 33) hC.1 hC.2.1 dX2_given_7 (by decide) (fun c => absurd c (by decide)) (fun _ => ?_)
  refine lv_lload_n hC.1 hC.2.1 dX2_given_10 rfl (lv_at hl 1 rfl) ?_
  refine lv_aload_n hC.1 hC.2.1 dX2_given_11 rfl (lv_at hl 2 rfl) ?_
  refine ec_get hC hK ha fX2_25 rfl dX2_given_12 ?_
  refine lv_iload_n hC.1 hC.2.1 dX2_given_15 rfl (lv_at hl 0 rfl) ?_
  refine ec_lald hC hK ht 4 rfl (by omega) (by omega) dX2_given_16 ?_
  refine lv_aload_n hC.1 hC.2.1 dX2_given_17 rfl (lv_at hl 2 rfl) ?_
  refine ec_get hC hK ha fX2_29 rfl dX2_given_18 ?_
  refine lv_iload_n hC.1 hC.2.1 dX2_given_21 rfl (lv_at hl 0 rfl) ?_
  refine ec_iald hC hK hq 4 rfl (by omega) (by omega) dX2_given_22 ?_
  refine lv_i2l hC.1 hC.2.1 dX2_given_23 rfl ?_
  refine lv_lmul hC.1 hC.2.1 dX2_given_24 ?_
  refine lv_ladd hC.1 hC.2.1 dX2_given_25 ?_
  refine ec_topl (y := gvS t q 5) rfl ?_
  refine lv_lstore_n (lv' := [(1, .long (gvS t q 5)), (3, .int 4), (0, .ref a)]) hC.1 hC.2.1 dX2_given_26 rfl hl (by decide) rfl (fun ls hl => ?_)
  refine lv_iinc (v := 5) (lv' := [(3, .int 5), (1, .long (gvS t q 5)), (0, .ref a)]) hC.1 hC.2.1 dX2_given_27 hl (k := 1) rfl (by decide) (by decide) rfl (fun ls hl => ?_)
  refine lv_goto (tgt := 4) hC.1 hC.2.1 dX2_given_30 (by decide) ?_
  refine lv_iload_n hC.1 hC.2.1 dX2_given_4 rfl (lv_at hl 0 rfl) ?_
  refine lv_bipush (v := 6) hC.1 hC.2.1 dX2_given_5 (by decide) ?_
  refine lv_icmp_ge (tgt := 33) hC.1 hC.2.1 dX2_given_7 (by decide) (fun c => absurd c (by decide)) (fun _ => ?_)
  refine lv_lload_n hC.1 hC.2.1 dX2_given_10 rfl (lv_at hl 1 rfl) ?_
  refine lv_aload_n hC.1 hC.2.1 dX2_given_11 rfl (lv_at hl 2 rfl) ?_
  refine ec_get hC hK ha fX2_25 rfl dX2_given_12 ?_
  refine lv_iload_n hC.1 hC.2.1 dX2_given_15 rfl (lv_at hl 0 rfl) ?_
  refine ec_lald hC hK ht 5 rfl (by omega) (by omega) dX2_given_16 ?_
  refine lv_aload_n hC.1 hC.2.1 dX2_given_17 rfl (lv_at hl 2 rfl) ?_
  refine ec_get hC hK ha fX2_29 rfl dX2_given_18 ?_
  refine lv_iload_n hC.1 hC.2.1 dX2_given_21 rfl (lv_at hl 0 rfl) ?_
  refine ec_iald hC hK hq 5 rfl (by omega) (by omega) dX2_given_22 ?_
  refine lv_i2l hC.1 hC.2.1 dX2_given_23 rfl ?_
  refine lv_lmul hC.1 hC.2.1 dX2_given_24 ?_
  refine lv_ladd hC.1 hC.2.1 dX2_given_25 ?_
  refine ec_topl (y := gvS t q 6) rfl ?_
  refine lv_lstore_n (lv' := [(1, .long (gvS t q 6)), (3, .int 5), (0, .ref a)]) hC.1 hC.2.1 dX2_given_26 rfl hl (by decide) rfl (fun ls hl => ?_)
  refine lv_iinc (v := 6) (lv' := [(3, .int 6), (1, .long (gvS t q 6)), (0, .ref a)]) hC.1 hC.2.1 dX2_given_27 hl (k := 1) rfl (by decide) (by decide) rfl (fun ls hl => ?_)
  refine lv_goto (tgt := 4) hC.1 hC.2.1 dX2_given_30 (by decide) ?_
  refine lv_iload_n hC.1 hC.2.1 dX2_given_4 rfl (lv_at hl 0 rfl) ?_
  refine lv_bipush (v := 6) hC.1 hC.2.1 dX2_given_5 (by decide) ?_
  refine lv_icmp_ge (tgt := 33) hC.1 hC.2.1 dX2_given_7 (by decide) (fun _ => ?_) (fun c => absurd (by decide) c)
  refine lv_lload_n hC.1 hC.2.1 dX2_given_33 rfl (lv_at hl 1 rfl) ?_
  exact W.lret hC.1 hC.2.1 hr (fun t9 ht9 _ => ⟨_, rfl, rfl, ht9⟩) hS.2.2 dX2_given_34

set_option maxHeartbeats 4000000 in
set_option maxRecDepth 100000 in
/-- a filter gets an input -/
theorem c_X2_getInput (l : Launch) (G : ecG) (a pa : Nat) (v0 v1 : Value) (q : Nat → Int32) (x n : Int32) (hne : pa ≠ a) : Met l yX2_getInput (ecWs yX2_getInput cX2_getInput 3 none) (ecRm 1 0 0) (ecPc [.ref a, .int x] G (fun H => ecA G a (eO 2 [v0, v1, .ref pa, .int n]) H ∧ ecA G pa (eI G 6 q) H)) (ecEp (fun v H1 => v = none ∧ (ecA G a (eO 2 [v0, v1, .ref pa, .int (n + 1)]) H1 ∧ ecA G pa (eI G 6 (psU q x)) H1)) (fun z : Nat => z = a ∨ z = pa)) 0 0 (fun z : Nat => z = a ∨ z = pa) := by
  refine ec_met (by decide) (Nat.le_of_ble_eq_true rfl) ?_
  intro p e s m below meth c hC hr hlocks hname hOk hpre ls hl
  have hK := hOk.1
  obtain ⟨ha, hq⟩ := hpre
  have hS : va_S (fun z : Nat => z = a ∨ z = pa) s.heap s.heap [] := va_S.rf
  have hl : lv_has ls 3 [(0, .ref a), (1, .int x)] := hl
  refine lv_iconst (v := 5) hC.1 hC.2.1 dX2_getInput_0 (by decide) ?_
  refine lv_istore_n (lv' := [(2, .int 5), (0, .ref a), (1, .int x)]) hC.1 hC.2.1 dX2_getInput_1 rfl hl (by decide) rfl (fun ls hl => ?_)
  refine lv_iload_n hC.1 hC.2.1 dX2_getInput_2 rfl (lv_at hl 0 rfl) ?_
  refine lv_if_le (tgt := 26) hC.1 hC.2.1 dX2_getInput_3 (by decide) (fun c => absurd c (by decide)) (fun _ => ?_)
  refine lv_aload_n hC.1 hC.2.1 dX2_getInput_6 rfl (lv_at hl 1 rfl) ?_
  refine ec_get hC hK ha fX2_29 rfl dX2_getInput_7 ?_
  refine lv_iload_n hC.1 hC.2.1 dX2_getInput_10 rfl (lv_at hl 0 rfl) ?_
  refine lv_aload_n hC.1 hC.2.1 dX2_getInput_11 rfl (lv_at hl 1 rfl) ?_
  refine ec_get hC hK ha fX2_29 rfl dX2_getInput_12 ?_
  refine lv_iload_n hC.1 hC.2.1 dX2_getInput_15 rfl (lv_at hl 0 rfl) ?_
  refine lv_iconst (v := 1) hC.1 hC.2.1 dX2_getInput_16 (by decide) ?_
  refine lv_isub hC.1 hC.2.1 dX2_getInput_17 ?_
  refine ec_topi (y := 4) (by decide) ?_
  refine ec_iald hC hK hq 4 rfl (by omega) (by omega) dX2_getInput_18 ?_
  refine ec_iast hC hK hS hq (Or.inr rfl) 5 rfl (by omega) (by omega) dX2_getInput_19 (fun H locs h9 o9 z9 hS => ?_)
  have ha := ha.kept (o9 _ (Ne.symm hne))
  have hq : ecA G pa (eI G 6 (upd q 5 (q 4))) H := h9
  refine lv_iinc (v := 4) (lv' := [(2, .int 4), (0, .ref a), (1, .int x)]) hC.1 hC.2.1 dX2_getInput_20 hl (k := 0) rfl (by decide) (by decide) rfl (fun ls hl => ?_)
  refine lv_goto (tgt := 2) hC.1 hC.2.1 dX2_getInput_23 (by decide) ?_
  refine lv_iload_n hC.1 hC.2.1 dX2_getInput_2 rfl (lv_at hl 0 rfl) ?_
  refine lv_if_le (tgt := 26) hC.1 hC.2.1 dX2_getInput_3 (by decide) (fun c => absurd c (by decide)) (fun _ => ?_)
  refine lv_aload_n hC.1 hC.2.1 dX2_getInput_6 rfl (lv_at hl 1 rfl) ?_
  refine ec_get hC hK ha fX2_29 rfl dX2_getInput_7 ?_
  refine lv_iload_n hC.1 hC.2.1 dX2_getInput_10 rfl (lv_at hl 0 rfl) ?_
  refine lv_aload_n hC.1 hC.2.1 dX2_getInput_11 rfl (lv_at hl 1 rfl) ?_
  refine ec_get hC hK ha fX2_29 rfl dX2_getInput_12 ?_
  refine lv_iload_n hC.1 hC.2.1 dX2_getInput_15 rfl (lv_at hl 0 rfl) ?_
  refine lv_iconst (v := 1) hC.1 hC.2.1 dX2_getInput_16 (by decide) ?_
  refine lv_isub hC.1 hC.2.1 dX2_getInput_17 ?_
  refine ec_topi (y := 3) (by decide) ?_
  refine ec_iald hC hK hq 3 rfl (by omega) (by omega) dX2_getInput_18 ?_
  refine ec_topi (y := (q 3)) rfl ?_
  refine ec_iast hC hK hS hq (Or.inr rfl) 4 rfl (by omega) (by omega) dX2_getInput_19 (fun H locs h9 o9 z9 hS => ?_)
  have ha := ha.kept (o9 _ (Ne.symm hne))
  have hq : ecA G pa (eI G 6 (upd (upd q 5 (q 4)) 4 (q 3))) H := h9
  refine lv_iinc (v := 3) (lv' := [(2, .int 3), (0, .ref a), (1, .int x)]) hC.1 hC.2.1 dX2_getInput_20 hl (k := 0) rfl (by decide) (by decide) rfl (fun ls hl => ?_)
  refine lv_goto (tgt := 2) hC.1 hC.2.1 dX2_getInput_23 (by decide) ?_
  refine lv_iload_n hC.1 hC.2.1 dX2_getInput_2 rfl (lv_at hl 0 rfl) ?_
  refine lv_if_le (tgt := 26) hC.1 hC.2.1 dX2_getInput_3 (by decide) (fun c => absurd c (by decide)) (fun _ => ?_)
  refine lv_aload_n hC.1 hC.2.1 dX2_getInput_6 rfl (lv_at hl 1 rfl) ?_
  refine ec_get hC hK ha fX2_29 rfl dX2_getInput_7 ?_
  refine lv_iload_n hC.1 hC.2.1 dX2_getInput_10 rfl (lv_at hl 0 rfl) ?_
  refine lv_aload_n hC.1 hC.2.1 dX2_getInput_11 rfl (lv_at hl 1 rfl) ?_
  refine ec_get hC hK ha fX2_29 rfl dX2_getInput_12 ?_
  refine lv_iload_n hC.1 hC.2.1 dX2_getInput_15 rfl (lv_at hl 0 rfl) ?_
  refine lv_iconst (v := 1) hC.1 hC.2.1 dX2_getInput_16 (by decide) ?_
  refine lv_isub hC.1 hC.2.1 dX2_getInput_17 ?_
  refine ec_topi (y := 2) (by decide) ?_
  refine ec_iald hC hK hq 2 rfl (by omega) (by omega) dX2_getInput_18 ?_
  refine ec_topi (y := (q 2)) rfl ?_
  refine ec_iast hC hK hS hq (Or.inr rfl) 3 rfl (by omega) (by omega) dX2_getInput_19 (fun H locs h9 o9 z9 hS => ?_)
  have ha := ha.kept (o9 _ (Ne.symm hne))
  have hq : ecA G pa (eI G 6 (upd (upd (upd q 5 (q 4)) 4 (q 3)) 3 (q 2))) H := h9
  refine lv_iinc (v := 2) (lv' := [(2, .int 2), (0, .ref a), (1, .int x)]) hC.1 hC.2.1 dX2_getInput_20 hl (k := 0) rfl (by decide) (by decide) rfl (fun ls hl => ?_)
  refine lv_goto (tgt := 2) hC.1 hC.2.1 dX2_getInput_23 (by decide) ?_
  refine lv_iload_n hC.1 hC.2.1 dX2_getInput_2 rfl (lv_at hl 0 rfl) ?_
  refine lv_if_le (tgt := 26) hC.1 hC.2.1 dX2_getInput_3 (by decide) (fun c => absurd c (by decide)) (fun _ => ?_)
  refine lv_aload_n hC.1 hC.2.1 dX2_getInput_6 rfl (lv_at hl 1 rfl) ?_
  refine ec_get hC hK ha fX2_29 rfl dX2_getInput_7 ?_
  refine lv_iload_n hC.1 hC.2.1 dX2_getInput_10 rfl (lv_at hl 0 rfl) ?_
  refine lv_aload_n hC.1 hC.2.1 dX2_getInput_11 rfl (lv_at hl 1 rfl) ?_
  refine ec_get hC hK ha fX2_29 rfl dX2_getInput_12 ?_
  refine lv_iload_n hC.1 hC.2.1 dX2_getInput_15 rfl (lv_at hl 0 rfl) ?_
  refine lv_iconst (v := 1) hC.1 hC.2.1 dX2_getInput_16 (by decide) ?_
  refine lv_isub hC.1 hC.2.1 dX2_getInput_17 ?_
  refine ec_topi (y := 1) (by decide) ?_
  refine ec_iald hC hK hq 1 rfl (by omega) (by omega) dX2_getInput_18 ?_
  refine ec_topi (y := (q 1)) rfl ?_
  refine ec_iast hC hK hS hq (Or.inr rfl) 2 rfl (by omega) (by omega) dX2_getInput_19 (fun H locs h9 o9 z9 hS => ?_)
  have ha := ha.kept (o9 _ (Ne.symm hne))
  have hq : ecA G pa (eI G 6 (upd (upd (upd (upd q 5 (q 4)) 4 (q 3)) 3 (q 2)) 2 (q 1))) H := h9
  refine lv_iinc (v := 1) (lv' := [(2, .int 1), (0, .ref a), (1, .int x)]) hC.1 hC.2.1 dX2_getInput_20 hl (k := 0) rfl (by decide) (by decide) rfl (fun ls hl => ?_)
  refine lv_goto (tgt := 2) hC.1 hC.2.1 dX2_getInput_23 (by decide) ?_
  refine lv_iload_n hC.1 hC.2.1 dX2_getInput_2 rfl (lv_at hl 0 rfl) ?_
  refine lv_if_le (tgt := 26) hC.1 hC.2.1 dX2_getInput_3 (by decide) (fun c => absurd c (by decide)) (fun _ => ?_)
  refine lv_aload_n hC.1 hC.2.1 dX2_getInput_6 rfl (lv_at hl 1 rfl) ?_
  refine ec_get hC hK ha fX2_29 rfl dX2_getInput_7 ?_
  refine lv_iload_n hC.1 hC.2.1 dX2_getInput_10 rfl (lv_at hl 0 rfl) ?_
  refine lv_aload_n hC.1 hC.2.1 dX2_getInput_11 rfl (lv_at hl 1 rfl) ?_
  refine ec_get hC hK ha fX2_29 rfl dX2_getInput_12 ?_
  refine lv_iload_n hC.1 hC.2.1 dX2_getInput_15 rfl (lv_at hl 0 rfl) ?_
  refine lv_iconst (v := 1) hC.1 hC.2.1 dX2_getInput_16 (by decide) ?_
  refine lv_isub hC.1 hC.2.1 dX2_getInput_17 ?_
  refine ec_topi (y := 0) (by decide) ?_
  refine ec_iald hC hK hq 0 rfl (by omega) (by omega) dX2_getInput_18 ?_
  refine ec_topi (y := (q 0)) rfl ?_
  refine ec_iast hC hK hS hq (Or.inr rfl) 1 rfl (by omega) (by omega) dX2_getInput_19 (fun H locs h9 o9 z9 hS => ?_)
  have ha := ha.kept (o9 _ (Ne.symm hne))
  have hq : ecA G pa (eI G 6 (upd (upd (upd (upd (upd q 5 (q 4)) 4 (q 3)) 3 (q 2)) 2 (q 1)) 1 (q 0))) H := h9
  refine lv_iinc (v := 0) (lv' := [(2, .int 0), (0, .ref a), (1, .int x)]) hC.1 hC.2.1 dX2_getInput_20 hl (k := 0) rfl (by decide) (by decide) rfl (fun ls hl => ?_)
  refine lv_goto (tgt := 2) hC.1 hC.2.1 dX2_getInput_23 (by decide) ?_
  refine lv_iload_n hC.1 hC.2.1 dX2_getInput_2 rfl (lv_at hl 0 rfl) ?_
  refine lv_if_le (tgt := 26) hC.1 hC.2.1 dX2_getInput_3 (by decide) (fun _ => ?_) (fun c => absurd (by decide) c)
  refine lv_aload_n hC.1 hC.2.1 dX2_getInput_26 rfl (lv_at hl 1 rfl) ?_
  refine ec_get hC hK ha fX2_29 rfl dX2_getInput_27 ?_
  refine lv_iconst (v := 0) hC.1 hC.2.1 dX2_getInput_30 (by decide) ?_
  refine lv_iload_n hC.1 hC.2.1 dX2_getInput_31 rfl (lv_at hl 2 rfl) ?_
  refine ec_iast hC hK hS hq (Or.inr rfl) 0 rfl (by omega) (by omega) dX2_getInput_32 (fun H locs h9 o9 z9 hS => ?_)
  have ha := ha.kept (o9 _ (Ne.symm hne))
  have hq : ecA G pa (eI G 6 (upd (upd (upd (upd (upd (upd q 5 (q 4)) 4 (q 3)) 3 (q 2)) 2 (q 1)) 1 (q 0)) 0 x)) H := h9
  refine lv_aload_n hC.1 hC.2.1 dX2_getInput_33 rfl (lv_at hl 1 rfl) ?_
  refine lv_dup hC.1 hC.2.1 dX2_getInput_34 rfl ?_
  refine ec_get hC hK ha fX2_32 rfl dX2_getInput_35 ?_
  refine lv_iconst (v := 1) hC.1 hC.2.1 dX2_getInput_38 (by decide) ?_
  refine lv_iadd hC.1 hC.2.1 dX2_getInput_39 ?_
  refine ec_put hC hK hS ha (Or.inl rfl) fX2_32 rfl rfl rfl (Nat.le_of_ble_eq_true rfl) dX2_getInput_40 (fun H locs h9 o9 z9 hS => ?_)
  have hq := hq.kept (o9 _ hne)
  have ha : ecA G a (eO 2 [v0, v1, .ref pa, .int (n + 1)]) H := h9
  exact W.vret hC.1 hC.2.1 hr (fun t9 ht9 _ => ⟨_, rfl, ⟨rfl, by rw [ht9]; exact ⟨ha, ecI_to hq (ec_lt6 rfl rfl rfl rfl rfl rfl)⟩⟩, hS.F ht9⟩) hS.2.2 dX2_getInput_43

set_option maxHeartbeats 4000000 in
set_option maxRecDepth 100000 in
/-- a sample of the product row -/
theorem c_X2_rowSample (l : Launch) (G : ecG) (a an ta sa i : Nat) (v0 v2 v3 u0 u1 u2 u3 u5 u6 : Value) (t : Nat → Int64) (s0 : Nat → Int32) (hi : i < 6) : Met l yX2_rowSample (ecWs yX2_rowSample cX2_rowSample 6 (Option.some FieldType.long)) (ecRm 1 0 0) (ecPc [.ref a, .ref an, .int (nI i)] G (fun H => ecA G a (eO 2 [v0, .ref ta, v2, v3]) H ∧ ecA G an (eO 0 [u0, u1, u2, u3, .ref sa, u5, u6]) H ∧ ecA G ta (eJ G 6 t) H ∧ ecA G sa (eI G 4 s0) H)) (ecRp (fun v => v = some (.long (prd s0 t i)))) 0 0 (fun _ => False) := by
  refine ec_met (by decide) (Nat.le_of_ble_eq_true rfl) ?_
  intro p e s m below meth c hC hr hlocks hname hOk hpre ls hl
  have hK := hOk.1
  obtain ⟨ha, hn, ht, hq⟩ := hpre
  have hS : va_S (fun _ => False) s.heap s.heap [] := va_S.rf
  have hAN : ∀ q, (fun _ : Nat => False) q → ecN0 G ≤ q := fun _ h => h.elim
  have hl : lv_has ls 6 [(0, .ref a), (1, .ref an), (2, .int (nI i))] := hl
  refine lv_lconst (v := 0) hC.1 hC.2.1 dX2_rowSample_0 (by decide) ?_
  refine lv_lstore_n (lv' := [(3, .long 0), (0, .ref a), (1, .ref an), (2, .int (nI i))]) hC.1 hC.2.1 dX2_rowSample_1 rfl hl (by decide) rfl (fun ls hl => ?_)
  refine lv_iconst (v := 0) hC.1 hC.2.1 dX2_rowSample_2 (by decide) ?_
  refine lv_istore (lv' := [(5, .int 0), (3, .long 0), (0, .ref a), (1, .ref an), (2, .int (nI i))]) hC.1 hC.2.1 dX2_rowSample_3 hl (by decide) rfl (fun ls hl => ?_)
  refine lv_iload hC.1 hC.2.1 dX2_rowSample_5 (lv_at hl 0 rfl) ?_
  refine lv_iconst (v := 4) hC.1 hC.2.1 dX2_rowSample_7 (by decide) ?_
  refine lv_icmp_ge (tgt := 44) hC.1 hC.2.1 dX2_rowSample_8 (by decide) (fun c => absurd c (by decide)) (fun _ => ?_)
  refine lv_iload hC.1 hC.2.1 dX2_rowSample_11 (lv_at hl 0 rfl) ?_
  refine lv_iload_n hC.1 hC.2.1 dX2_rowSample_13 rfl (lv_at hl 4 rfl) ?_
  refine lv_icmp_gt (tgt := 44) hC.1 hC.2.1 dX2_rowSample_14 (by decide) (fun c => absurd c (nI_pos (by omega))) (fun c_14 => ?_)
  refine lv_lload_n hC.1 hC.2.1 dX2_rowSample_17 rfl (lv_at hl 1 rfl) ?_
  refine lv_aload_n hC.1 hC.2.1 dX2_rowSample_18 rfl (lv_at hl 3 rfl) ?_
  refine ec_get hC hK hn fX2_15 rfl dX2_rowSample_19 ?_
  refine lv_iload hC.1 hC.2.1 dX2_rowSample_22 (lv_at hl 0 rfl) ?_
  refine ec_iald hC hK hq 0 rfl (by omega) (by omega) dX2_rowSample_24 ?_
  refine lv_i2l hC.1 hC.2.1 dX2_rowSample_25 rfl ?_
  refine lv_aload_n hC.1 hC.2.1 dX2_rowSample_26 rfl (lv_at hl 2 rfl) ?_
  refine ec_get hC hK ha fX2_25 rfl dX2_rowSample_27 ?_
  refine lv_iload_n hC.1 hC.2.1 dX2_rowSample_30 rfl (lv_at hl 4 rfl) ?_
  refine lv_iload hC.1 hC.2.1 dX2_rowSample_31 (lv_at hl 0 rfl) ?_
  refine lv_isub hC.1 hC.2.1 dX2_rowSample_33 ?_
  refine ec_lald hC hK ht (i - 0) (pk_sub (a := i) (b := 0) (by omega)) (by omega) (by omega) dX2_rowSample_34 ?_
  refine lv_lmul hC.1 hC.2.1 dX2_rowSample_35 ?_
  refine lv_ladd hC.1 hC.2.1 dX2_rowSample_36 ?_
  refine ec_topl (y := prS s0 t i 1) rfl ?_
  refine lv_lstore_n (lv' := [(3, .long (prS s0 t i 1)), (5, .int 0), (0, .ref a), (1, .ref an), (2, .int (nI i))]) hC.1 hC.2.1 dX2_rowSample_37 rfl hl (by decide) rfl (fun ls hl => ?_)
  refine lv_iinc (v := 1) (lv' := [(5, .int 1), (3, .long (prS s0 t i 1)), (0, .ref a), (1, .ref an), (2, .int (nI i))]) hC.1 hC.2.1 dX2_rowSample_38 hl (k := 1) rfl (by decide) (by decide) rfl (fun ls hl => ?_)
  refine lv_goto (tgt := 5) hC.1 hC.2.1 dX2_rowSample_41 (by decide) ?_
  refine lv_iload hC.1 hC.2.1 dX2_rowSample_5 (lv_at hl 0 rfl) ?_
  refine lv_iconst (v := 4) hC.1 hC.2.1 dX2_rowSample_7 (by decide) ?_
  refine lv_icmp_ge (tgt := 44) hC.1 hC.2.1 dX2_rowSample_8 (by decide) (fun c => absurd c (by decide)) (fun _ => ?_)
  refine lv_iload hC.1 hC.2.1 dX2_rowSample_11 (lv_at hl 0 rfl) ?_
  refine lv_iload_n hC.1 hC.2.1 dX2_rowSample_13 rfl (lv_at hl 4 rfl) ?_
  refine lv_icmp_gt (tgt := 44) hC.1 hC.2.1 dX2_rowSample_14 (by decide) (fun c_14 => ?_) (fun c_14 => ?_)
  · refine lv_lload_n hC.1 hC.2.1 dX2_rowSample_44 rfl (lv_at hl 1 rfl) ?_
    have hlt : i < 1 := (nI_ltI (by omega) (by decide)).mp c_14
    exact W.lret hC.1 hC.2.1 hr (fun t9 ht9 _ => ⟨_, rfl, (ec_long (by have e : i = 0 := (by omega); subst e; rfl)), ht9⟩) hS.2.2 dX2_rowSample_45
  · have hge1 : 1 ≤ i := by
      rcases Nat.lt_or_ge i 1 with h | h
      · exact absurd (nI_lt (a := i) (b := 1) h (by decide)) c_14
      · exact h
    refine lv_lload_n hC.1 hC.2.1 dX2_rowSample_17 rfl (lv_at hl 1 rfl) ?_
    refine lv_aload_n hC.1 hC.2.1 dX2_rowSample_18 rfl (lv_at hl 3 rfl) ?_
    refine ec_get hC hK hn fX2_15 rfl dX2_rowSample_19 ?_
    refine lv_iload hC.1 hC.2.1 dX2_rowSample_22 (lv_at hl 0 rfl) ?_
    refine ec_iald hC hK hq 1 rfl (by omega) (by omega) dX2_rowSample_24 ?_
    refine lv_i2l hC.1 hC.2.1 dX2_rowSample_25 rfl ?_
    refine lv_aload_n hC.1 hC.2.1 dX2_rowSample_26 rfl (lv_at hl 2 rfl) ?_
    refine ec_get hC hK ha fX2_25 rfl dX2_rowSample_27 ?_
    refine lv_iload_n hC.1 hC.2.1 dX2_rowSample_30 rfl (lv_at hl 4 rfl) ?_
    refine lv_iload hC.1 hC.2.1 dX2_rowSample_31 (lv_at hl 0 rfl) ?_
    refine lv_isub hC.1 hC.2.1 dX2_rowSample_33 ?_
    refine ec_lald hC hK ht (i - 1) (pk_sub (a := i) (b := 1) (by omega)) (by omega) (by omega) dX2_rowSample_34 ?_
    refine lv_lmul hC.1 hC.2.1 dX2_rowSample_35 ?_
    refine lv_ladd hC.1 hC.2.1 dX2_rowSample_36 ?_
    refine ec_topl (y := prS s0 t i 2) rfl ?_
    refine lv_lstore_n (lv' := [(3, .long (prS s0 t i 2)), (5, .int 1), (0, .ref a), (1, .ref an), (2, .int (nI i))]) hC.1 hC.2.1 dX2_rowSample_37 rfl hl (by decide) rfl (fun ls hl => ?_)
    refine lv_iinc (v := 2) (lv' := [(5, .int 2), (3, .long (prS s0 t i 2)), (0, .ref a), (1, .ref an), (2, .int (nI i))]) hC.1 hC.2.1 dX2_rowSample_38 hl (k := 1) rfl (by decide) (by decide) rfl (fun ls hl => ?_)
    refine lv_goto (tgt := 5) hC.1 hC.2.1 dX2_rowSample_41 (by decide) ?_
    refine lv_iload hC.1 hC.2.1 dX2_rowSample_5 (lv_at hl 0 rfl) ?_
    refine lv_iconst (v := 4) hC.1 hC.2.1 dX2_rowSample_7 (by decide) ?_
    refine lv_icmp_ge (tgt := 44) hC.1 hC.2.1 dX2_rowSample_8 (by decide) (fun c => absurd c (by decide)) (fun _ => ?_)
    refine lv_iload hC.1 hC.2.1 dX2_rowSample_11 (lv_at hl 0 rfl) ?_
    refine lv_iload_n hC.1 hC.2.1 dX2_rowSample_13 rfl (lv_at hl 4 rfl) ?_
    refine lv_icmp_gt (tgt := 44) hC.1 hC.2.1 dX2_rowSample_14 (by decide) (fun c_14 => ?_) (fun c_14 => ?_)
    · refine lv_lload_n hC.1 hC.2.1 dX2_rowSample_44 rfl (lv_at hl 1 rfl) ?_
      have hlt : i < 2 := (nI_ltI (by omega) (by decide)).mp c_14
      exact W.lret hC.1 hC.2.1 hr (fun t9 ht9 _ => ⟨_, rfl, (ec_long (by have e : i = 1 := (by omega); subst e; rfl)), ht9⟩) hS.2.2 dX2_rowSample_45
    · have hge2 : 2 ≤ i := by
        rcases Nat.lt_or_ge i 2 with h | h
        · exact absurd (nI_lt (a := i) (b := 2) h (by decide)) c_14
        · exact h
      refine lv_lload_n hC.1 hC.2.1 dX2_rowSample_17 rfl (lv_at hl 1 rfl) ?_
      refine lv_aload_n hC.1 hC.2.1 dX2_rowSample_18 rfl (lv_at hl 3 rfl) ?_
      refine ec_get hC hK hn fX2_15 rfl dX2_rowSample_19 ?_
      refine lv_iload hC.1 hC.2.1 dX2_rowSample_22 (lv_at hl 0 rfl) ?_
      refine ec_iald hC hK hq 2 rfl (by omega) (by omega) dX2_rowSample_24 ?_
      refine lv_i2l hC.1 hC.2.1 dX2_rowSample_25 rfl ?_
      refine lv_aload_n hC.1 hC.2.1 dX2_rowSample_26 rfl (lv_at hl 2 rfl) ?_
      refine ec_get hC hK ha fX2_25 rfl dX2_rowSample_27 ?_
      refine lv_iload_n hC.1 hC.2.1 dX2_rowSample_30 rfl (lv_at hl 4 rfl) ?_
      refine lv_iload hC.1 hC.2.1 dX2_rowSample_31 (lv_at hl 0 rfl) ?_
      refine lv_isub hC.1 hC.2.1 dX2_rowSample_33 ?_
      refine ec_lald hC hK ht (i - 2) (pk_sub (a := i) (b := 2) (by omega)) (by omega) (by omega) dX2_rowSample_34 ?_
      refine lv_lmul hC.1 hC.2.1 dX2_rowSample_35 ?_
      refine lv_ladd hC.1 hC.2.1 dX2_rowSample_36 ?_
      refine ec_topl (y := prS s0 t i 3) rfl ?_
      refine lv_lstore_n (lv' := [(3, .long (prS s0 t i 3)), (5, .int 2), (0, .ref a), (1, .ref an), (2, .int (nI i))]) hC.1 hC.2.1 dX2_rowSample_37 rfl hl (by decide) rfl (fun ls hl => ?_)
      refine lv_iinc (v := 3) (lv' := [(5, .int 3), (3, .long (prS s0 t i 3)), (0, .ref a), (1, .ref an), (2, .int (nI i))]) hC.1 hC.2.1 dX2_rowSample_38 hl (k := 1) rfl (by decide) (by decide) rfl (fun ls hl => ?_)
      refine lv_goto (tgt := 5) hC.1 hC.2.1 dX2_rowSample_41 (by decide) ?_
      refine lv_iload hC.1 hC.2.1 dX2_rowSample_5 (lv_at hl 0 rfl) ?_
      refine lv_iconst (v := 4) hC.1 hC.2.1 dX2_rowSample_7 (by decide) ?_
      refine lv_icmp_ge (tgt := 44) hC.1 hC.2.1 dX2_rowSample_8 (by decide) (fun c => absurd c (by decide)) (fun _ => ?_)
      refine lv_iload hC.1 hC.2.1 dX2_rowSample_11 (lv_at hl 0 rfl) ?_
      refine lv_iload_n hC.1 hC.2.1 dX2_rowSample_13 rfl (lv_at hl 4 rfl) ?_
      refine lv_icmp_gt (tgt := 44) hC.1 hC.2.1 dX2_rowSample_14 (by decide) (fun c_14 => ?_) (fun c_14 => ?_)
      · refine lv_lload_n hC.1 hC.2.1 dX2_rowSample_44 rfl (lv_at hl 1 rfl) ?_
        have hlt : i < 3 := (nI_ltI (by omega) (by decide)).mp c_14
        exact W.lret hC.1 hC.2.1 hr (fun t9 ht9 _ => ⟨_, rfl, (ec_long (by have e : i = 2 := (by omega); subst e; rfl)), ht9⟩) hS.2.2 dX2_rowSample_45
      · have hge3 : 3 ≤ i := by
          rcases Nat.lt_or_ge i 3 with h | h
          · exact absurd (nI_lt (a := i) (b := 3) h (by decide)) c_14
          · exact h
        refine lv_lload_n hC.1 hC.2.1 dX2_rowSample_17 rfl (lv_at hl 1 rfl) ?_
        refine lv_aload_n hC.1 hC.2.1 dX2_rowSample_18 rfl (lv_at hl 3 rfl) ?_
        refine ec_get hC hK hn fX2_15 rfl dX2_rowSample_19 ?_
        refine lv_iload hC.1 hC.2.1 dX2_rowSample_22 (lv_at hl 0 rfl) ?_
        refine ec_iald hC hK hq 3 rfl (by omega) (by omega) dX2_rowSample_24 ?_
        refine lv_i2l hC.1 hC.2.1 dX2_rowSample_25 rfl ?_
        refine lv_aload_n hC.1 hC.2.1 dX2_rowSample_26 rfl (lv_at hl 2 rfl) ?_
        refine ec_get hC hK ha fX2_25 rfl dX2_rowSample_27 ?_
        refine lv_iload_n hC.1 hC.2.1 dX2_rowSample_30 rfl (lv_at hl 4 rfl) ?_
        refine lv_iload hC.1 hC.2.1 dX2_rowSample_31 (lv_at hl 0 rfl) ?_
        refine lv_isub hC.1 hC.2.1 dX2_rowSample_33 ?_
        refine ec_lald hC hK ht (i - 3) (pk_sub (a := i) (b := 3) (by omega)) (by omega) (by omega) dX2_rowSample_34 ?_
        refine lv_lmul hC.1 hC.2.1 dX2_rowSample_35 ?_
        refine lv_ladd hC.1 hC.2.1 dX2_rowSample_36 ?_
        refine ec_topl (y := prS s0 t i 4) rfl ?_
        refine lv_lstore_n (lv' := [(3, .long (prS s0 t i 4)), (5, .int 3), (0, .ref a), (1, .ref an), (2, .int (nI i))]) hC.1 hC.2.1 dX2_rowSample_37 rfl hl (by decide) rfl (fun ls hl => ?_)
        refine lv_iinc (v := 4) (lv' := [(5, .int 4), (3, .long (prS s0 t i 4)), (0, .ref a), (1, .ref an), (2, .int (nI i))]) hC.1 hC.2.1 dX2_rowSample_38 hl (k := 1) rfl (by decide) (by decide) rfl (fun ls hl => ?_)
        refine lv_goto (tgt := 5) hC.1 hC.2.1 dX2_rowSample_41 (by decide) ?_
        refine lv_iload hC.1 hC.2.1 dX2_rowSample_5 (lv_at hl 0 rfl) ?_
        refine lv_iconst (v := 4) hC.1 hC.2.1 dX2_rowSample_7 (by decide) ?_
        refine lv_icmp_ge (tgt := 44) hC.1 hC.2.1 dX2_rowSample_8 (by decide) (fun _ => ?_) (fun c => absurd (by decide) c)
        refine lv_lload_n hC.1 hC.2.1 dX2_rowSample_44 rfl (lv_at hl 1 rfl) ?_
        exact W.lret hC.1 hC.2.1 hr (fun t9 ht9 _ => ⟨_, rfl, (ec_long (by unfold prd; rw [if_neg (show ¬ i < 3 by omega)])), ht9⟩) hS.2.2 dX2_rowSample_45

set_option maxHeartbeats 4000000 in
set_option maxRecDepth 100000 in
/-- how many samples are right -/
theorem c_X2_rightSamplesWith (l : Launch) (G : ecG) (a an ta sa : Nat) (v0 v2 v3 u0 u1 u2 u3 u5 u6 : Value) (t : Nat → Int64) (s0 : Nat → Int32) : Met l yX2_rightSamplesWith (ecWs yX2_rightSamplesWith cX2_rightSamplesWith 3 (Option.some FieldType.int)) (ecRm 2 0 0) (ecPc [.ref a, .ref an] G (fun H => ecA G a (eO 2 [v0, .ref ta, v2, v3]) H ∧ ecA G an (eO 0 [u0, u1, u2, u3, .ref sa, u5, u6]) H ∧ ecA G ta (eJ G 6 t) H ∧ ecA G sa (eI G 4 s0) H)) (ecRp (fun v => v = some (.int (nI (rgt s0 t))))) 0 0 (fun _ => False) := by
  refine ec_met (by decide) (Nat.le_of_ble_eq_true rfl) ?_
  intro p e s m below meth c hC hr hlocks hname hOk hpre ls hl
  have hK := hOk.1
  obtain ⟨ha, hn, ht, hq⟩ := hpre
  have hS : va_S (fun _ => False) s.heap s.heap [] := va_S.rf
  have hAN : ∀ q, (fun _ : Nat => False) q → ecN0 G ≤ q := fun _ h => h.elim
  have hl : lv_has ls 3 [(0, .ref a), (1, .ref an)] := hl
  refine lv_iconst (v := 0) hC.1 hC.2.1 dX2_rightSamplesWith_0 (by decide) ?_
  refine lv_istore_n (lv' := [(2, .int 0), (0, .ref a), (1, .ref an)]) hC.1 hC.2.1 dX2_rightSamplesWith_1 rfl hl (by decide) rfl (fun ls hl => ?_)
  refine lv_iload_n hC.1 hC.2.1 dX2_rightSamplesWith_2 rfl (lv_at hl 0 rfl) ?_
  refine lv_bipush (v := 6) hC.1 hC.2.1 dX2_rightSamplesWith_3 (by decide) ?_
  refine lv_icmp_ge (tgt := 34) hC.1 hC.2.1 dX2_rightSamplesWith_5 (by decide) (fun c => absurd c (by decide)) (fun _ => ?_)
  refine lv_aload_n hC.1 hC.2.1 dX2_rightSamplesWith_8 rfl (lv_at hl 1 rfl) ?_
  refine lv_aload_n hC.1 hC.2.1 dX2_rightSamplesWith_9 rfl (lv_at hl 2 rfl) ?_
  refine lv_iload_n hC.1 hC.2.1 dX2_rightSamplesWith_10 rfl (lv_at hl 0 rfl) ?_
  refine ec_go1 (ec_rV hC (c_X2_rowSample l G a an ta sa 0 v0 v2 v3 u0 u1 u2 u3 u5 u6 t s0 (by omega)) kX2_36 (hOk.at hS hAN) ⟨ha, hn, ht, hq⟩ (ec_rc hK ha ⟨_, _, rfl⟩) hl.1 ⟨Nat.le_of_ble_eq_true rfl, Nat.le_of_ble_eq_true rfl⟩ rfl (Nat.le_of_ble_eq_true rfl) dX2_rightSamplesWith_11 ⟨Nat.le_of_ble_eq_true rfl, Nat.le_of_ble_eq_true rfl⟩) ?_
  refine lv_iload_n hC.1 hC.2.1 dX2_rightSamplesWith_14 rfl (lv_at hl 0 rfl) ?_
  refine lv_if_ne (tgt := 22) hC.1 hC.2.1 dX2_rightSamplesWith_15 (by decide) (fun c => absurd rfl c) (fun _ => ?_)
  refine lv_iconst (v := 1) hC.1 hC.2.1 dX2_rightSamplesWith_18 (by decide) ?_
  refine lv_goto (tgt := 23) hC.1 hC.2.1 dX2_rightSamplesWith_19 (by decide) ?_
  refine lv_i2l (v := 1) hC.1 hC.2.1 dX2_rightSamplesWith_23 (by decide) ?_
  refine W.lcmp hC.1 hC.2.1 dX2_rightSamplesWith_24 ?_
  refine lv_if_ne (tgt := 34) hC.1 hC.2.1 dX2_rightSamplesWith_25 (by decide) (fun c_25 => ?_) (fun c_25 => ?_)
  · refine lv_iload_n hC.1 hC.2.1 dX2_rightSamplesWith_34 rfl (lv_at hl 0 rfl) ?_
    have hn0 : ¬ prd s0 t 0 = 1 := fun z => c_25 ((ec_cm0 _ _).mpr z)
    exact W.iret hC.1 hC.2.1 hr (fun t9 ht9 _ => ⟨_, rfl, (ec_int (by rw [show rgt s0 t = 0 by simp [rgt, rgtN, hn0]]; rfl)), ht9⟩) hS.2.2 dX2_rightSamplesWith_35
  · have he0 : prd s0 t 0 = 1 := (ec_cm0 _ _).mp c_25
    refine lv_iinc (v := 1) (lv' := [(2, .int 1), (0, .ref a), (1, .ref an)]) hC.1 hC.2.1 dX2_rightSamplesWith_28 hl (k := 0) rfl (by decide) (by decide) rfl (fun ls hl => ?_)
    refine lv_goto (tgt := 2) hC.1 hC.2.1 dX2_rightSamplesWith_31 (by decide) ?_
    refine lv_iload_n hC.1 hC.2.1 dX2_rightSamplesWith_2 rfl (lv_at hl 0 rfl) ?_
    refine lv_bipush (v := 6) hC.1 hC.2.1 dX2_rightSamplesWith_3 (by decide) ?_
    refine lv_icmp_ge (tgt := 34) hC.1 hC.2.1 dX2_rightSamplesWith_5 (by decide) (fun c => absurd c (by decide)) (fun _ => ?_)
    refine lv_aload_n hC.1 hC.2.1 dX2_rightSamplesWith_8 rfl (lv_at hl 1 rfl) ?_
    refine lv_aload_n hC.1 hC.2.1 dX2_rightSamplesWith_9 rfl (lv_at hl 2 rfl) ?_
    refine lv_iload_n hC.1 hC.2.1 dX2_rightSamplesWith_10 rfl (lv_at hl 0 rfl) ?_
    refine ec_go1 (ec_rV hC (c_X2_rowSample l G a an ta sa 1 v0 v2 v3 u0 u1 u2 u3 u5 u6 t s0 (by omega)) kX2_36 (hOk.at hS hAN) ⟨ha, hn, ht, hq⟩ (ec_rc hK ha ⟨_, _, rfl⟩) hl.1 ⟨Nat.le_of_ble_eq_true rfl, Nat.le_of_ble_eq_true rfl⟩ rfl (Nat.le_of_ble_eq_true rfl) dX2_rightSamplesWith_11 ⟨Nat.le_of_ble_eq_true rfl, Nat.le_of_ble_eq_true rfl⟩) ?_
    refine lv_iload_n hC.1 hC.2.1 dX2_rightSamplesWith_14 rfl (lv_at hl 0 rfl) ?_
    refine lv_if_ne (tgt := 22) hC.1 hC.2.1 dX2_rightSamplesWith_15 (by decide) (fun _ => ?_) (fun c => absurd c (by decide))
    refine lv_iconst (v := 0) hC.1 hC.2.1 dX2_rightSamplesWith_22 (by decide) ?_
    refine lv_i2l (v := 0) hC.1 hC.2.1 dX2_rightSamplesWith_23 (by decide) ?_
    refine W.lcmp hC.1 hC.2.1 dX2_rightSamplesWith_24 ?_
    refine lv_if_ne (tgt := 34) hC.1 hC.2.1 dX2_rightSamplesWith_25 (by decide) (fun c_25 => ?_) (fun c_25 => ?_)
    · refine lv_iload_n hC.1 hC.2.1 dX2_rightSamplesWith_34 rfl (lv_at hl 0 rfl) ?_
      have hn1 : ¬ prd s0 t 1 = 0 := fun z => c_25 ((ec_cm0 _ _).mpr z)
      exact W.iret hC.1 hC.2.1 hr (fun t9 ht9 _ => ⟨_, rfl, (ec_int (by rw [show rgt s0 t = 1 by simp [rgt, rgtN, he0, hn1]]; rfl)), ht9⟩) hS.2.2 dX2_rightSamplesWith_35
    · have he1 : prd s0 t 1 = 0 := (ec_cm0 _ _).mp c_25
      refine lv_iinc (v := 2) (lv' := [(2, .int 2), (0, .ref a), (1, .ref an)]) hC.1 hC.2.1 dX2_rightSamplesWith_28 hl (k := 0) rfl (by decide) (by decide) rfl (fun ls hl => ?_)
      refine lv_goto (tgt := 2) hC.1 hC.2.1 dX2_rightSamplesWith_31 (by decide) ?_
      refine lv_iload_n hC.1 hC.2.1 dX2_rightSamplesWith_2 rfl (lv_at hl 0 rfl) ?_
      refine lv_bipush (v := 6) hC.1 hC.2.1 dX2_rightSamplesWith_3 (by decide) ?_
      refine lv_icmp_ge (tgt := 34) hC.1 hC.2.1 dX2_rightSamplesWith_5 (by decide) (fun c => absurd c (by decide)) (fun _ => ?_)
      refine lv_aload_n hC.1 hC.2.1 dX2_rightSamplesWith_8 rfl (lv_at hl 1 rfl) ?_
      refine lv_aload_n hC.1 hC.2.1 dX2_rightSamplesWith_9 rfl (lv_at hl 2 rfl) ?_
      refine lv_iload_n hC.1 hC.2.1 dX2_rightSamplesWith_10 rfl (lv_at hl 0 rfl) ?_
      refine ec_go1 (ec_rV hC (c_X2_rowSample l G a an ta sa 2 v0 v2 v3 u0 u1 u2 u3 u5 u6 t s0 (by omega)) kX2_36 (hOk.at hS hAN) ⟨ha, hn, ht, hq⟩ (ec_rc hK ha ⟨_, _, rfl⟩) hl.1 ⟨Nat.le_of_ble_eq_true rfl, Nat.le_of_ble_eq_true rfl⟩ rfl (Nat.le_of_ble_eq_true rfl) dX2_rightSamplesWith_11 ⟨Nat.le_of_ble_eq_true rfl, Nat.le_of_ble_eq_true rfl⟩) ?_
      refine lv_iload_n hC.1 hC.2.1 dX2_rightSamplesWith_14 rfl (lv_at hl 0 rfl) ?_
      refine lv_if_ne (tgt := 22) hC.1 hC.2.1 dX2_rightSamplesWith_15 (by decide) (fun _ => ?_) (fun c => absurd c (by decide))
      refine lv_iconst (v := 0) hC.1 hC.2.1 dX2_rightSamplesWith_22 (by decide) ?_
      refine lv_i2l (v := 0) hC.1 hC.2.1 dX2_rightSamplesWith_23 (by decide) ?_
      refine W.lcmp hC.1 hC.2.1 dX2_rightSamplesWith_24 ?_
      refine lv_if_ne (tgt := 34) hC.1 hC.2.1 dX2_rightSamplesWith_25 (by decide) (fun c_25 => ?_) (fun c_25 => ?_)
      · refine lv_iload_n hC.1 hC.2.1 dX2_rightSamplesWith_34 rfl (lv_at hl 0 rfl) ?_
        have hn2 : ¬ prd s0 t 2 = 0 := fun z => c_25 ((ec_cm0 _ _).mpr z)
        exact W.iret hC.1 hC.2.1 hr (fun t9 ht9 _ => ⟨_, rfl, (ec_int (by rw [show rgt s0 t = 2 by simp [rgt, rgtN, he0, he1, hn2]]; rfl)), ht9⟩) hS.2.2 dX2_rightSamplesWith_35
      · have he2 : prd s0 t 2 = 0 := (ec_cm0 _ _).mp c_25
        refine lv_iinc (v := 3) (lv' := [(2, .int 3), (0, .ref a), (1, .ref an)]) hC.1 hC.2.1 dX2_rightSamplesWith_28 hl (k := 0) rfl (by decide) (by decide) rfl (fun ls hl => ?_)
        refine lv_goto (tgt := 2) hC.1 hC.2.1 dX2_rightSamplesWith_31 (by decide) ?_
        refine lv_iload_n hC.1 hC.2.1 dX2_rightSamplesWith_2 rfl (lv_at hl 0 rfl) ?_
        refine lv_bipush (v := 6) hC.1 hC.2.1 dX2_rightSamplesWith_3 (by decide) ?_
        refine lv_icmp_ge (tgt := 34) hC.1 hC.2.1 dX2_rightSamplesWith_5 (by decide) (fun c => absurd c (by decide)) (fun _ => ?_)
        refine lv_aload_n hC.1 hC.2.1 dX2_rightSamplesWith_8 rfl (lv_at hl 1 rfl) ?_
        refine lv_aload_n hC.1 hC.2.1 dX2_rightSamplesWith_9 rfl (lv_at hl 2 rfl) ?_
        refine lv_iload_n hC.1 hC.2.1 dX2_rightSamplesWith_10 rfl (lv_at hl 0 rfl) ?_
        refine ec_go1 (ec_rV hC (c_X2_rowSample l G a an ta sa 3 v0 v2 v3 u0 u1 u2 u3 u5 u6 t s0 (by omega)) kX2_36 (hOk.at hS hAN) ⟨ha, hn, ht, hq⟩ (ec_rc hK ha ⟨_, _, rfl⟩) hl.1 ⟨Nat.le_of_ble_eq_true rfl, Nat.le_of_ble_eq_true rfl⟩ rfl (Nat.le_of_ble_eq_true rfl) dX2_rightSamplesWith_11 ⟨Nat.le_of_ble_eq_true rfl, Nat.le_of_ble_eq_true rfl⟩) ?_
        refine lv_iload_n hC.1 hC.2.1 dX2_rightSamplesWith_14 rfl (lv_at hl 0 rfl) ?_
        refine lv_if_ne (tgt := 22) hC.1 hC.2.1 dX2_rightSamplesWith_15 (by decide) (fun _ => ?_) (fun c => absurd c (by decide))
        refine lv_iconst (v := 0) hC.1 hC.2.1 dX2_rightSamplesWith_22 (by decide) ?_
        refine lv_i2l (v := 0) hC.1 hC.2.1 dX2_rightSamplesWith_23 (by decide) ?_
        refine W.lcmp hC.1 hC.2.1 dX2_rightSamplesWith_24 ?_
        refine lv_if_ne (tgt := 34) hC.1 hC.2.1 dX2_rightSamplesWith_25 (by decide) (fun c_25 => ?_) (fun c_25 => ?_)
        · refine lv_iload_n hC.1 hC.2.1 dX2_rightSamplesWith_34 rfl (lv_at hl 0 rfl) ?_
          have hn3 : ¬ prd s0 t 3 = 0 := fun z => c_25 ((ec_cm0 _ _).mpr z)
          exact W.iret hC.1 hC.2.1 hr (fun t9 ht9 _ => ⟨_, rfl, (ec_int (by rw [show rgt s0 t = 3 by simp [rgt, rgtN, he0, he1, he2, hn3]]; rfl)), ht9⟩) hS.2.2 dX2_rightSamplesWith_35
        · have he3 : prd s0 t 3 = 0 := (ec_cm0 _ _).mp c_25
          refine lv_iinc (v := 4) (lv' := [(2, .int 4), (0, .ref a), (1, .ref an)]) hC.1 hC.2.1 dX2_rightSamplesWith_28 hl (k := 0) rfl (by decide) (by decide) rfl (fun ls hl => ?_)
          refine lv_goto (tgt := 2) hC.1 hC.2.1 dX2_rightSamplesWith_31 (by decide) ?_
          refine lv_iload_n hC.1 hC.2.1 dX2_rightSamplesWith_2 rfl (lv_at hl 0 rfl) ?_
          refine lv_bipush (v := 6) hC.1 hC.2.1 dX2_rightSamplesWith_3 (by decide) ?_
          refine lv_icmp_ge (tgt := 34) hC.1 hC.2.1 dX2_rightSamplesWith_5 (by decide) (fun c => absurd c (by decide)) (fun _ => ?_)
          refine lv_aload_n hC.1 hC.2.1 dX2_rightSamplesWith_8 rfl (lv_at hl 1 rfl) ?_
          refine lv_aload_n hC.1 hC.2.1 dX2_rightSamplesWith_9 rfl (lv_at hl 2 rfl) ?_
          refine lv_iload_n hC.1 hC.2.1 dX2_rightSamplesWith_10 rfl (lv_at hl 0 rfl) ?_
          refine ec_go1 (ec_rV hC (c_X2_rowSample l G a an ta sa 4 v0 v2 v3 u0 u1 u2 u3 u5 u6 t s0 (by omega)) kX2_36 (hOk.at hS hAN) ⟨ha, hn, ht, hq⟩ (ec_rc hK ha ⟨_, _, rfl⟩) hl.1 ⟨Nat.le_of_ble_eq_true rfl, Nat.le_of_ble_eq_true rfl⟩ rfl (Nat.le_of_ble_eq_true rfl) dX2_rightSamplesWith_11 ⟨Nat.le_of_ble_eq_true rfl, Nat.le_of_ble_eq_true rfl⟩) ?_
          refine lv_iload_n hC.1 hC.2.1 dX2_rightSamplesWith_14 rfl (lv_at hl 0 rfl) ?_
          refine lv_if_ne (tgt := 22) hC.1 hC.2.1 dX2_rightSamplesWith_15 (by decide) (fun _ => ?_) (fun c => absurd c (by decide))
          refine lv_iconst (v := 0) hC.1 hC.2.1 dX2_rightSamplesWith_22 (by decide) ?_
          refine lv_i2l (v := 0) hC.1 hC.2.1 dX2_rightSamplesWith_23 (by decide) ?_
          refine W.lcmp hC.1 hC.2.1 dX2_rightSamplesWith_24 ?_
          refine lv_if_ne (tgt := 34) hC.1 hC.2.1 dX2_rightSamplesWith_25 (by decide) (fun c_25 => ?_) (fun c_25 => ?_)
          · refine lv_iload_n hC.1 hC.2.1 dX2_rightSamplesWith_34 rfl (lv_at hl 0 rfl) ?_
            have hn4 : ¬ prd s0 t 4 = 0 := fun z => c_25 ((ec_cm0 _ _).mpr z)
            exact W.iret hC.1 hC.2.1 hr (fun t9 ht9 _ => ⟨_, rfl, (ec_int (by rw [show rgt s0 t = 4 by simp [rgt, rgtN, he0, he1, he2, he3, hn4]]; rfl)), ht9⟩) hS.2.2 dX2_rightSamplesWith_35
          · have he4 : prd s0 t 4 = 0 := (ec_cm0 _ _).mp c_25
            refine lv_iinc (v := 5) (lv' := [(2, .int 5), (0, .ref a), (1, .ref an)]) hC.1 hC.2.1 dX2_rightSamplesWith_28 hl (k := 0) rfl (by decide) (by decide) rfl (fun ls hl => ?_)
            refine lv_goto (tgt := 2) hC.1 hC.2.1 dX2_rightSamplesWith_31 (by decide) ?_
            refine lv_iload_n hC.1 hC.2.1 dX2_rightSamplesWith_2 rfl (lv_at hl 0 rfl) ?_
            refine lv_bipush (v := 6) hC.1 hC.2.1 dX2_rightSamplesWith_3 (by decide) ?_
            refine lv_icmp_ge (tgt := 34) hC.1 hC.2.1 dX2_rightSamplesWith_5 (by decide) (fun c => absurd c (by decide)) (fun _ => ?_)
            refine lv_aload_n hC.1 hC.2.1 dX2_rightSamplesWith_8 rfl (lv_at hl 1 rfl) ?_
            refine lv_aload_n hC.1 hC.2.1 dX2_rightSamplesWith_9 rfl (lv_at hl 2 rfl) ?_
            refine lv_iload_n hC.1 hC.2.1 dX2_rightSamplesWith_10 rfl (lv_at hl 0 rfl) ?_
            refine ec_go1 (ec_rV hC (c_X2_rowSample l G a an ta sa 5 v0 v2 v3 u0 u1 u2 u3 u5 u6 t s0 (by omega)) kX2_36 (hOk.at hS hAN) ⟨ha, hn, ht, hq⟩ (ec_rc hK ha ⟨_, _, rfl⟩) hl.1 ⟨Nat.le_of_ble_eq_true rfl, Nat.le_of_ble_eq_true rfl⟩ rfl (Nat.le_of_ble_eq_true rfl) dX2_rightSamplesWith_11 ⟨Nat.le_of_ble_eq_true rfl, Nat.le_of_ble_eq_true rfl⟩) ?_
            refine lv_iload_n hC.1 hC.2.1 dX2_rightSamplesWith_14 rfl (lv_at hl 0 rfl) ?_
            refine lv_if_ne (tgt := 22) hC.1 hC.2.1 dX2_rightSamplesWith_15 (by decide) (fun _ => ?_) (fun c => absurd c (by decide))
            refine lv_iconst (v := 0) hC.1 hC.2.1 dX2_rightSamplesWith_22 (by decide) ?_
            refine lv_i2l (v := 0) hC.1 hC.2.1 dX2_rightSamplesWith_23 (by decide) ?_
            refine W.lcmp hC.1 hC.2.1 dX2_rightSamplesWith_24 ?_
            refine lv_if_ne (tgt := 34) hC.1 hC.2.1 dX2_rightSamplesWith_25 (by decide) (fun c_25 => ?_) (fun c_25 => ?_)
            · refine lv_iload_n hC.1 hC.2.1 dX2_rightSamplesWith_34 rfl (lv_at hl 0 rfl) ?_
              have hn5 : ¬ prd s0 t 5 = 0 := fun z => c_25 ((ec_cm0 _ _).mpr z)
              exact W.iret hC.1 hC.2.1 hr (fun t9 ht9 _ => ⟨_, rfl, (ec_int (by rw [show rgt s0 t = 5 by simp [rgt, rgtN, he0, he1, he2, he3, he4, hn5]]; rfl)), ht9⟩) hS.2.2 dX2_rightSamplesWith_35
            · have he5 : prd s0 t 5 = 0 := (ec_cm0 _ _).mp c_25
              refine lv_iinc (v := 6) (lv' := [(2, .int 6), (0, .ref a), (1, .ref an)]) hC.1 hC.2.1 dX2_rightSamplesWith_28 hl (k := 0) rfl (by decide) (by decide) rfl (fun ls hl => ?_)
              refine lv_goto (tgt := 2) hC.1 hC.2.1 dX2_rightSamplesWith_31 (by decide) ?_
              refine lv_iload_n hC.1 hC.2.1 dX2_rightSamplesWith_2 rfl (lv_at hl 0 rfl) ?_
              refine lv_bipush (v := 6) hC.1 hC.2.1 dX2_rightSamplesWith_3 (by decide) ?_
              refine lv_icmp_ge (tgt := 34) hC.1 hC.2.1 dX2_rightSamplesWith_5 (by decide) (fun _ => ?_) (fun c => absurd (by decide) c)
              refine lv_iload_n hC.1 hC.2.1 dX2_rightSamplesWith_34 rfl (lv_at hl 0 rfl) ?_
              exact W.iret hC.1 hC.2.1 hr (fun t9 ht9 _ => ⟨_, rfl, (ec_int (by rw [show rgt s0 t = 6 by simp [rgt, rgtN, he0, he1, he2, he3, he4, he5]]; rfl)), ht9⟩) hS.2.2 dX2_rightSamplesWith_35

set_option maxHeartbeats 4000000 in
set_option maxRecDepth 100000 in
/-- the taps that undo an answer -/
theorem c_X2_tapsUndoing (l : Launch) (G : ecG) (sa sz : Nat) (s0 : Nat → Int32) : Met l yX2_tapsUndoing (ecWs yX2_tapsUndoing cX2_tapsUndoing 6 (Option.some (FieldType.array FieldType.long))) (ecRm 1 1 6) (ecPc [.ref sa] G (fun H => H.size = sz ∧ ecA G sa (eI G 4 s0) H)) (ecEp (fun v H1 => ∃ q : Nat, v = some (.ref q) ∧ (ecA G q (eJ G 6 (tpF s0)) H1 ∧ sz ≤ q)) (fun x : Nat => sz ≤ x)) 1 6 (fun x : Nat => sz ≤ x) := by
  refine ec_met (by decide) (Nat.le_of_ble_eq_true rfl) ?_
  intro p e s m below meth c hC hr hlocks hname hOk hpre ls hl
  have hK := hOk.1
  obtain ⟨hsz, hs⟩ := hpre
  have hS : va_S (fun x : Nat => sz ≤ x) s.heap s.heap [] := va_S.rf
  have hAN : ∀ q, (fun x : Nat => sz ≤ x) q → ecN0 G ≤ q := fun q h => Nat.le_trans hOk.2.1 (by rw [hsz]; exact h)
  have hl : lv_has ls 6 [(0, .ref sa)] := hl
  have hlt := hs.lt
  refine lv_bipush (v := 6) hC.1 hC.2.1 dX2_tapsUndoing_0 (by decide) ?_
  refine ec_newJ hC hK hS q502 6 rfl (by omega) (Nat.le_of_ble_eq_true rfl) (Nat.le_of_ble_eq_true rfl) dX2_tapsUndoing_2 (fun q H hq0 ht hkp hS hz => ?_)
  have hs := hs.kp hkp
  have hne : sa ≠ q := fun z => Nat.ne_of_lt hlt (by rw [z, hq0])
  refine lv_astore_n (lv' := [(1, .ref q), (0, .ref sa)]) hC.1 hC.2.1 dX2_tapsUndoing_4 rfl hl (by decide) rfl (fun ls hl => ?_)
  refine lv_aload_n hC.1 hC.2.1 dX2_tapsUndoing_5 rfl (lv_at hl 0 rfl) ?_
  refine lv_iconst (v := 0) hC.1 hC.2.1 dX2_tapsUndoing_6 (by decide) ?_
  refine lv_aload_n hC.1 hC.2.1 dX2_tapsUndoing_7 rfl (lv_at hl 1 rfl) ?_
  refine lv_iconst (v := 0) hC.1 hC.2.1 dX2_tapsUndoing_8 (by decide) ?_
  refine ec_iald hC hK hs 0 rfl (by omega) (by omega) dX2_tapsUndoing_9 ?_
  refine lv_i2l hC.1 hC.2.1 dX2_tapsUndoing_10 rfl ?_
  refine ec_last hC hK hS ht (show sz ≤ q by rw [hq0, hsz]; exact Nat.le_refl _) 0 rfl (by omega) (by omega) dX2_tapsUndoing_11 (fun H locs h9 o9 z9 hS => ?_)
  have hs := hs.kept (o9 _ hne)
  have ht : ecA G q (eJ G 6 (vp_updL (fun _ => 0) 0 (Int32.toInt64 (s0 0)))) H := h9
  refine lv_iconst (v := 1) hC.1 hC.2.1 dX2_tapsUndoing_12 (by decide) ?_
  refine lv_istore_n (lv' := [(2, .int 1), (1, .ref q), (0, .ref sa)]) hC.1 hC.2.1 dX2_tapsUndoing_13 rfl hl (by decide) rfl (fun ls hl => ?_)
  refine lv_iload_n hC.1 hC.2.1 dX2_tapsUndoing_14 rfl (lv_at hl 0 rfl) ?_
  refine lv_bipush (v := 6) hC.1 hC.2.1 dX2_tapsUndoing_15 (by decide) ?_
  refine lv_icmp_ge (tgt := 74) hC.1 hC.2.1 dX2_tapsUndoing_17 (by decide) (fun c => absurd c (by decide)) (fun _ => ?_)
  refine lv_lconst (v := 0) hC.1 hC.2.1 dX2_tapsUndoing_20 (by decide) ?_
  refine lv_lstore_n (lv' := [(3, .long 0), (2, .int 1), (1, .ref q), (0, .ref sa)]) hC.1 hC.2.1 dX2_tapsUndoing_21 rfl hl (by decide) rfl (fun ls hl => ?_)
  refine lv_iconst (v := 1) hC.1 hC.2.1 dX2_tapsUndoing_22 (by decide) ?_
  refine lv_istore (lv' := [(5, .int 1), (3, .long 0), (2, .int 1), (1, .ref q), (0, .ref sa)]) hC.1 hC.2.1 dX2_tapsUndoing_23 hl (by decide) rfl (fun ls hl => ?_)
  refine lv_iload hC.1 hC.2.1 dX2_tapsUndoing_25 (lv_at hl 0 rfl) ?_
  refine lv_iconst (v := 4) hC.1 hC.2.1 dX2_tapsUndoing_27 (by decide) ?_
  refine lv_icmp_ge (tgt := 58) hC.1 hC.2.1 dX2_tapsUndoing_28 (by decide) (fun c => absurd c (by decide)) (fun _ => ?_)
  refine lv_iload hC.1 hC.2.1 dX2_tapsUndoing_31 (lv_at hl 0 rfl) ?_
  refine lv_iload_n hC.1 hC.2.1 dX2_tapsUndoing_33 rfl (lv_at hl 2 rfl) ?_
  refine lv_icmp_gt (tgt := 58) hC.1 hC.2.1 dX2_tapsUndoing_34 (by decide) (fun c => absurd c (by decide)) (fun _ => ?_)
  refine lv_lload_n hC.1 hC.2.1 dX2_tapsUndoing_37 rfl (lv_at hl 1 rfl) ?_
  refine lv_aload_n hC.1 hC.2.1 dX2_tapsUndoing_38 rfl (lv_at hl 4 rfl) ?_
  refine lv_iload hC.1 hC.2.1 dX2_tapsUndoing_39 (lv_at hl 0 rfl) ?_
  refine ec_iald hC hK hs 1 rfl (by omega) (by omega) dX2_tapsUndoing_41 ?_
  refine lv_i2l hC.1 hC.2.1 dX2_tapsUndoing_42 rfl ?_
  refine lv_aload_n hC.1 hC.2.1 dX2_tapsUndoing_43 rfl (lv_at hl 3 rfl) ?_
  refine lv_iload_n hC.1 hC.2.1 dX2_tapsUndoing_44 rfl (lv_at hl 2 rfl) ?_
  refine lv_iload hC.1 hC.2.1 dX2_tapsUndoing_45 (lv_at hl 0 rfl) ?_
  refine lv_isub hC.1 hC.2.1 dX2_tapsUndoing_47 ?_
  refine ec_topi (y := 0) (by decide) ?_
  refine ec_lald hC hK ht 0 rfl (by omega) (by omega) dX2_tapsUndoing_48 ?_
  refine ec_topl (y := (Int32.toInt64 (s0 0))) rfl ?_
  refine lv_lmul hC.1 hC.2.1 dX2_tapsUndoing_49 ?_
  refine lv_ladd hC.1 hC.2.1 dX2_tapsUndoing_50 ?_
  refine lv_lstore_n (lv' := [(3, .long (0 + ((Int32.toInt64 (s0 1)) * (Int32.toInt64 (s0 0))))), (5, .int 1), (2, .int 1), (1, .ref q), (0, .ref sa)]) hC.1 hC.2.1 dX2_tapsUndoing_51 rfl hl (by decide) rfl (fun ls hl => ?_)
  refine lv_iinc (v := 2) (lv' := [(5, .int 2), (3, .long (0 + ((Int32.toInt64 (s0 1)) * (Int32.toInt64 (s0 0))))), (2, .int 1), (1, .ref q), (0, .ref sa)]) hC.1 hC.2.1 dX2_tapsUndoing_52 hl (k := 1) rfl (by decide) (by decide) rfl (fun ls hl => ?_)
  refine lv_goto (tgt := 25) hC.1 hC.2.1 dX2_tapsUndoing_55 (by decide) ?_
  refine lv_iload hC.1 hC.2.1 dX2_tapsUndoing_25 (lv_at hl 0 rfl) ?_
  refine lv_iconst (v := 4) hC.1 hC.2.1 dX2_tapsUndoing_27 (by decide) ?_
  refine lv_icmp_ge (tgt := 58) hC.1 hC.2.1 dX2_tapsUndoing_28 (by decide) (fun c => absurd c (by decide)) (fun _ => ?_)
  refine lv_iload hC.1 hC.2.1 dX2_tapsUndoing_31 (lv_at hl 0 rfl) ?_
  refine lv_iload_n hC.1 hC.2.1 dX2_tapsUndoing_33 rfl (lv_at hl 2 rfl) ?_
  refine lv_icmp_gt (tgt := 58) hC.1 hC.2.1 dX2_tapsUndoing_34 (by decide) (fun _ => ?_) (fun c => absurd (by decide) c)
  refine lv_aload_n hC.1 hC.2.1 dX2_tapsUndoing_58 rfl (lv_at hl 3 rfl) ?_
  refine lv_iload_n hC.1 hC.2.1 dX2_tapsUndoing_59 rfl (lv_at hl 2 rfl) ?_
  refine lv_aload_n hC.1 hC.2.1 dX2_tapsUndoing_60 rfl (lv_at hl 4 rfl) ?_
  refine lv_iconst (v := 0) hC.1 hC.2.1 dX2_tapsUndoing_61 (by decide) ?_
  refine ec_iald hC hK hs 0 rfl (by omega) (by omega) dX2_tapsUndoing_62 ?_
  refine lv_ineg hC.1 hC.2.1 dX2_tapsUndoing_63 ?_
  refine lv_i2l hC.1 hC.2.1 dX2_tapsUndoing_64 rfl ?_
  refine lv_lload_n hC.1 hC.2.1 dX2_tapsUndoing_65 rfl (lv_at hl 1 rfl) ?_
  refine lv_lmul hC.1 hC.2.1 dX2_tapsUndoing_66 ?_
  refine ec_topl (y := (tp1 s0)) rfl ?_
  refine ec_last hC hK hS ht (show sz ≤ q by rw [hq0, hsz]; exact Nat.le_refl _) 1 rfl (by omega) (by omega) dX2_tapsUndoing_67 (fun H locs h9 o9 z9 hS => ?_)
  have hs := hs.kept (o9 _ hne)
  have ht : ecA G q (eJ G 6 (vp_updL (vp_updL (fun _ => 0) 0 (Int32.toInt64 (s0 0))) 1 (tp1 s0))) H := h9
  refine lv_iinc (v := 2) (lv' := [(2, .int 2), (5, .int 2), (3, .long (0 + ((Int32.toInt64 (s0 1)) * (Int32.toInt64 (s0 0))))), (1, .ref q), (0, .ref sa)]) hC.1 hC.2.1 dX2_tapsUndoing_68 hl (k := 2) rfl (by decide) (by decide) rfl (fun ls hl => ?_)
  refine lv_goto (tgt := 14) hC.1 hC.2.1 dX2_tapsUndoing_71 (by decide) ?_
  refine lv_iload_n hC.1 hC.2.1 dX2_tapsUndoing_14 rfl (lv_at hl 0 rfl) ?_
  refine lv_bipush (v := 6) hC.1 hC.2.1 dX2_tapsUndoing_15 (by decide) ?_
  refine lv_icmp_ge (tgt := 74) hC.1 hC.2.1 dX2_tapsUndoing_17 (by decide) (fun c => absurd c (by decide)) (fun _ => ?_)
  refine lv_lconst (v := 0) hC.1 hC.2.1 dX2_tapsUndoing_20 (by decide) ?_
  refine lv_lstore_n (lv' := [(3, .long 0), (2, .int 2), (5, .int 2), (1, .ref q), (0, .ref sa)]) hC.1 hC.2.1 dX2_tapsUndoing_21 rfl hl (by decide) rfl (fun ls hl => ?_)
  refine lv_iconst (v := 1) hC.1 hC.2.1 dX2_tapsUndoing_22 (by decide) ?_
  refine lv_istore (lv' := [(5, .int 1), (3, .long 0), (2, .int 2), (1, .ref q), (0, .ref sa)]) hC.1 hC.2.1 dX2_tapsUndoing_23 hl (by decide) rfl (fun ls hl => ?_)
  refine lv_iload hC.1 hC.2.1 dX2_tapsUndoing_25 (lv_at hl 0 rfl) ?_
  refine lv_iconst (v := 4) hC.1 hC.2.1 dX2_tapsUndoing_27 (by decide) ?_
  refine lv_icmp_ge (tgt := 58) hC.1 hC.2.1 dX2_tapsUndoing_28 (by decide) (fun c => absurd c (by decide)) (fun _ => ?_)
  refine lv_iload hC.1 hC.2.1 dX2_tapsUndoing_31 (lv_at hl 0 rfl) ?_
  refine lv_iload_n hC.1 hC.2.1 dX2_tapsUndoing_33 rfl (lv_at hl 2 rfl) ?_
  refine lv_icmp_gt (tgt := 58) hC.1 hC.2.1 dX2_tapsUndoing_34 (by decide) (fun c => absurd c (by decide)) (fun _ => ?_)
  refine lv_lload_n hC.1 hC.2.1 dX2_tapsUndoing_37 rfl (lv_at hl 1 rfl) ?_
  refine lv_aload_n hC.1 hC.2.1 dX2_tapsUndoing_38 rfl (lv_at hl 4 rfl) ?_
  refine lv_iload hC.1 hC.2.1 dX2_tapsUndoing_39 (lv_at hl 0 rfl) ?_
  refine ec_iald hC hK hs 1 rfl (by omega) (by omega) dX2_tapsUndoing_41 ?_
  refine lv_i2l hC.1 hC.2.1 dX2_tapsUndoing_42 rfl ?_
  refine lv_aload_n hC.1 hC.2.1 dX2_tapsUndoing_43 rfl (lv_at hl 3 rfl) ?_
  refine lv_iload_n hC.1 hC.2.1 dX2_tapsUndoing_44 rfl (lv_at hl 2 rfl) ?_
  refine lv_iload hC.1 hC.2.1 dX2_tapsUndoing_45 (lv_at hl 0 rfl) ?_
  refine lv_isub hC.1 hC.2.1 dX2_tapsUndoing_47 ?_
  refine ec_topi (y := 1) (by decide) ?_
  refine ec_lald hC hK ht 1 rfl (by omega) (by omega) dX2_tapsUndoing_48 ?_
  refine ec_topl (y := (tp1 s0)) rfl ?_
  refine lv_lmul hC.1 hC.2.1 dX2_tapsUndoing_49 ?_
  refine lv_ladd hC.1 hC.2.1 dX2_tapsUndoing_50 ?_
  refine lv_lstore_n (lv' := [(3, .long (0 + ((Int32.toInt64 (s0 1)) * (tp1 s0)))), (5, .int 1), (2, .int 2), (1, .ref q), (0, .ref sa)]) hC.1 hC.2.1 dX2_tapsUndoing_51 rfl hl (by decide) rfl (fun ls hl => ?_)
  refine lv_iinc (v := 2) (lv' := [(5, .int 2), (3, .long (0 + ((Int32.toInt64 (s0 1)) * (tp1 s0)))), (2, .int 2), (1, .ref q), (0, .ref sa)]) hC.1 hC.2.1 dX2_tapsUndoing_52 hl (k := 1) rfl (by decide) (by decide) rfl (fun ls hl => ?_)
  refine lv_goto (tgt := 25) hC.1 hC.2.1 dX2_tapsUndoing_55 (by decide) ?_
  refine lv_iload hC.1 hC.2.1 dX2_tapsUndoing_25 (lv_at hl 0 rfl) ?_
  refine lv_iconst (v := 4) hC.1 hC.2.1 dX2_tapsUndoing_27 (by decide) ?_
  refine lv_icmp_ge (tgt := 58) hC.1 hC.2.1 dX2_tapsUndoing_28 (by decide) (fun c => absurd c (by decide)) (fun _ => ?_)
  refine lv_iload hC.1 hC.2.1 dX2_tapsUndoing_31 (lv_at hl 0 rfl) ?_
  refine lv_iload_n hC.1 hC.2.1 dX2_tapsUndoing_33 rfl (lv_at hl 2 rfl) ?_
  refine lv_icmp_gt (tgt := 58) hC.1 hC.2.1 dX2_tapsUndoing_34 (by decide) (fun c => absurd c (by decide)) (fun _ => ?_)
  refine lv_lload_n hC.1 hC.2.1 dX2_tapsUndoing_37 rfl (lv_at hl 1 rfl) ?_
  refine lv_aload_n hC.1 hC.2.1 dX2_tapsUndoing_38 rfl (lv_at hl 4 rfl) ?_
  refine lv_iload hC.1 hC.2.1 dX2_tapsUndoing_39 (lv_at hl 0 rfl) ?_
  refine ec_iald hC hK hs 2 rfl (by omega) (by omega) dX2_tapsUndoing_41 ?_
  refine lv_i2l hC.1 hC.2.1 dX2_tapsUndoing_42 rfl ?_
  refine lv_aload_n hC.1 hC.2.1 dX2_tapsUndoing_43 rfl (lv_at hl 3 rfl) ?_
  refine lv_iload_n hC.1 hC.2.1 dX2_tapsUndoing_44 rfl (lv_at hl 2 rfl) ?_
  refine lv_iload hC.1 hC.2.1 dX2_tapsUndoing_45 (lv_at hl 0 rfl) ?_
  refine lv_isub hC.1 hC.2.1 dX2_tapsUndoing_47 ?_
  refine ec_topi (y := 0) (by decide) ?_
  refine ec_lald hC hK ht 0 rfl (by omega) (by omega) dX2_tapsUndoing_48 ?_
  refine ec_topl (y := (Int32.toInt64 (s0 0))) rfl ?_
  refine lv_lmul hC.1 hC.2.1 dX2_tapsUndoing_49 ?_
  refine lv_ladd hC.1 hC.2.1 dX2_tapsUndoing_50 ?_
  refine lv_lstore_n (lv' := [(3, .long ((0 + ((Int32.toInt64 (s0 1)) * (tp1 s0))) + ((Int32.toInt64 (s0 2)) * (Int32.toInt64 (s0 0))))), (5, .int 2), (2, .int 2), (1, .ref q), (0, .ref sa)]) hC.1 hC.2.1 dX2_tapsUndoing_51 rfl hl (by decide) rfl (fun ls hl => ?_)
  refine lv_iinc (v := 3) (lv' := [(5, .int 3), (3, .long ((0 + ((Int32.toInt64 (s0 1)) * (tp1 s0))) + ((Int32.toInt64 (s0 2)) * (Int32.toInt64 (s0 0))))), (2, .int 2), (1, .ref q), (0, .ref sa)]) hC.1 hC.2.1 dX2_tapsUndoing_52 hl (k := 1) rfl (by decide) (by decide) rfl (fun ls hl => ?_)
  refine lv_goto (tgt := 25) hC.1 hC.2.1 dX2_tapsUndoing_55 (by decide) ?_
  refine lv_iload hC.1 hC.2.1 dX2_tapsUndoing_25 (lv_at hl 0 rfl) ?_
  refine lv_iconst (v := 4) hC.1 hC.2.1 dX2_tapsUndoing_27 (by decide) ?_
  refine lv_icmp_ge (tgt := 58) hC.1 hC.2.1 dX2_tapsUndoing_28 (by decide) (fun c => absurd c (by decide)) (fun _ => ?_)
  refine lv_iload hC.1 hC.2.1 dX2_tapsUndoing_31 (lv_at hl 0 rfl) ?_
  refine lv_iload_n hC.1 hC.2.1 dX2_tapsUndoing_33 rfl (lv_at hl 2 rfl) ?_
  refine lv_icmp_gt (tgt := 58) hC.1 hC.2.1 dX2_tapsUndoing_34 (by decide) (fun _ => ?_) (fun c => absurd (by decide) c)
  refine lv_aload_n hC.1 hC.2.1 dX2_tapsUndoing_58 rfl (lv_at hl 3 rfl) ?_
  refine lv_iload_n hC.1 hC.2.1 dX2_tapsUndoing_59 rfl (lv_at hl 2 rfl) ?_
  refine lv_aload_n hC.1 hC.2.1 dX2_tapsUndoing_60 rfl (lv_at hl 4 rfl) ?_
  refine lv_iconst (v := 0) hC.1 hC.2.1 dX2_tapsUndoing_61 (by decide) ?_
  refine ec_iald hC hK hs 0 rfl (by omega) (by omega) dX2_tapsUndoing_62 ?_
  refine lv_ineg hC.1 hC.2.1 dX2_tapsUndoing_63 ?_
  refine lv_i2l hC.1 hC.2.1 dX2_tapsUndoing_64 rfl ?_
  refine lv_lload_n hC.1 hC.2.1 dX2_tapsUndoing_65 rfl (lv_at hl 1 rfl) ?_
  refine lv_lmul hC.1 hC.2.1 dX2_tapsUndoing_66 ?_
  refine ec_topl (y := (tp2 s0)) rfl ?_
  refine ec_last hC hK hS ht (show sz ≤ q by rw [hq0, hsz]; exact Nat.le_refl _) 2 rfl (by omega) (by omega) dX2_tapsUndoing_67 (fun H locs h9 o9 z9 hS => ?_)
  have hs := hs.kept (o9 _ hne)
  have ht : ecA G q (eJ G 6 (vp_updL (vp_updL (vp_updL (fun _ => 0) 0 (Int32.toInt64 (s0 0))) 1 (tp1 s0)) 2 (tp2 s0))) H := h9
  refine lv_iinc (v := 3) (lv' := [(2, .int 3), (5, .int 3), (3, .long ((0 + ((Int32.toInt64 (s0 1)) * (tp1 s0))) + ((Int32.toInt64 (s0 2)) * (Int32.toInt64 (s0 0))))), (1, .ref q), (0, .ref sa)]) hC.1 hC.2.1 dX2_tapsUndoing_68 hl (k := 2) rfl (by decide) (by decide) rfl (fun ls hl => ?_)
  refine lv_goto (tgt := 14) hC.1 hC.2.1 dX2_tapsUndoing_71 (by decide) ?_
  refine lv_iload_n hC.1 hC.2.1 dX2_tapsUndoing_14 rfl (lv_at hl 0 rfl) ?_
  refine lv_bipush (v := 6) hC.1 hC.2.1 dX2_tapsUndoing_15 (by decide) ?_
  refine lv_icmp_ge (tgt := 74) hC.1 hC.2.1 dX2_tapsUndoing_17 (by decide) (fun c => absurd c (by decide)) (fun _ => ?_)
  refine lv_lconst (v := 0) hC.1 hC.2.1 dX2_tapsUndoing_20 (by decide) ?_
  refine lv_lstore_n (lv' := [(3, .long 0), (2, .int 3), (5, .int 3), (1, .ref q), (0, .ref sa)]) hC.1 hC.2.1 dX2_tapsUndoing_21 rfl hl (by decide) rfl (fun ls hl => ?_)
  refine lv_iconst (v := 1) hC.1 hC.2.1 dX2_tapsUndoing_22 (by decide) ?_
  refine lv_istore (lv' := [(5, .int 1), (3, .long 0), (2, .int 3), (1, .ref q), (0, .ref sa)]) hC.1 hC.2.1 dX2_tapsUndoing_23 hl (by decide) rfl (fun ls hl => ?_)
  refine lv_iload hC.1 hC.2.1 dX2_tapsUndoing_25 (lv_at hl 0 rfl) ?_
  refine lv_iconst (v := 4) hC.1 hC.2.1 dX2_tapsUndoing_27 (by decide) ?_
  refine lv_icmp_ge (tgt := 58) hC.1 hC.2.1 dX2_tapsUndoing_28 (by decide) (fun c => absurd c (by decide)) (fun _ => ?_)
  refine lv_iload hC.1 hC.2.1 dX2_tapsUndoing_31 (lv_at hl 0 rfl) ?_
  refine lv_iload_n hC.1 hC.2.1 dX2_tapsUndoing_33 rfl (lv_at hl 2 rfl) ?_
  refine lv_icmp_gt (tgt := 58) hC.1 hC.2.1 dX2_tapsUndoing_34 (by decide) (fun c => absurd c (by decide)) (fun _ => ?_)
  refine lv_lload_n hC.1 hC.2.1 dX2_tapsUndoing_37 rfl (lv_at hl 1 rfl) ?_
  refine lv_aload_n hC.1 hC.2.1 dX2_tapsUndoing_38 rfl (lv_at hl 4 rfl) ?_
  refine lv_iload hC.1 hC.2.1 dX2_tapsUndoing_39 (lv_at hl 0 rfl) ?_
  refine ec_iald hC hK hs 1 rfl (by omega) (by omega) dX2_tapsUndoing_41 ?_
  refine lv_i2l hC.1 hC.2.1 dX2_tapsUndoing_42 rfl ?_
  refine lv_aload_n hC.1 hC.2.1 dX2_tapsUndoing_43 rfl (lv_at hl 3 rfl) ?_
  refine lv_iload_n hC.1 hC.2.1 dX2_tapsUndoing_44 rfl (lv_at hl 2 rfl) ?_
  refine lv_iload hC.1 hC.2.1 dX2_tapsUndoing_45 (lv_at hl 0 rfl) ?_
  refine lv_isub hC.1 hC.2.1 dX2_tapsUndoing_47 ?_
  refine ec_topi (y := 2) (by decide) ?_
  refine ec_lald hC hK ht 2 rfl (by omega) (by omega) dX2_tapsUndoing_48 ?_
  refine ec_topl (y := (tp2 s0)) rfl ?_
  refine lv_lmul hC.1 hC.2.1 dX2_tapsUndoing_49 ?_
  refine lv_ladd hC.1 hC.2.1 dX2_tapsUndoing_50 ?_
  refine lv_lstore_n (lv' := [(3, .long (0 + ((Int32.toInt64 (s0 1)) * (tp2 s0)))), (5, .int 1), (2, .int 3), (1, .ref q), (0, .ref sa)]) hC.1 hC.2.1 dX2_tapsUndoing_51 rfl hl (by decide) rfl (fun ls hl => ?_)
  refine lv_iinc (v := 2) (lv' := [(5, .int 2), (3, .long (0 + ((Int32.toInt64 (s0 1)) * (tp2 s0)))), (2, .int 3), (1, .ref q), (0, .ref sa)]) hC.1 hC.2.1 dX2_tapsUndoing_52 hl (k := 1) rfl (by decide) (by decide) rfl (fun ls hl => ?_)
  refine lv_goto (tgt := 25) hC.1 hC.2.1 dX2_tapsUndoing_55 (by decide) ?_
  refine lv_iload hC.1 hC.2.1 dX2_tapsUndoing_25 (lv_at hl 0 rfl) ?_
  refine lv_iconst (v := 4) hC.1 hC.2.1 dX2_tapsUndoing_27 (by decide) ?_
  refine lv_icmp_ge (tgt := 58) hC.1 hC.2.1 dX2_tapsUndoing_28 (by decide) (fun c => absurd c (by decide)) (fun _ => ?_)
  refine lv_iload hC.1 hC.2.1 dX2_tapsUndoing_31 (lv_at hl 0 rfl) ?_
  refine lv_iload_n hC.1 hC.2.1 dX2_tapsUndoing_33 rfl (lv_at hl 2 rfl) ?_
  refine lv_icmp_gt (tgt := 58) hC.1 hC.2.1 dX2_tapsUndoing_34 (by decide) (fun c => absurd c (by decide)) (fun _ => ?_)
  refine lv_lload_n hC.1 hC.2.1 dX2_tapsUndoing_37 rfl (lv_at hl 1 rfl) ?_
  refine lv_aload_n hC.1 hC.2.1 dX2_tapsUndoing_38 rfl (lv_at hl 4 rfl) ?_
  refine lv_iload hC.1 hC.2.1 dX2_tapsUndoing_39 (lv_at hl 0 rfl) ?_
  refine ec_iald hC hK hs 2 rfl (by omega) (by omega) dX2_tapsUndoing_41 ?_
  refine lv_i2l hC.1 hC.2.1 dX2_tapsUndoing_42 rfl ?_
  refine lv_aload_n hC.1 hC.2.1 dX2_tapsUndoing_43 rfl (lv_at hl 3 rfl) ?_
  refine lv_iload_n hC.1 hC.2.1 dX2_tapsUndoing_44 rfl (lv_at hl 2 rfl) ?_
  refine lv_iload hC.1 hC.2.1 dX2_tapsUndoing_45 (lv_at hl 0 rfl) ?_
  refine lv_isub hC.1 hC.2.1 dX2_tapsUndoing_47 ?_
  refine ec_topi (y := 1) (by decide) ?_
  refine ec_lald hC hK ht 1 rfl (by omega) (by omega) dX2_tapsUndoing_48 ?_
  refine ec_topl (y := (tp1 s0)) rfl ?_
  refine lv_lmul hC.1 hC.2.1 dX2_tapsUndoing_49 ?_
  refine lv_ladd hC.1 hC.2.1 dX2_tapsUndoing_50 ?_
  refine lv_lstore_n (lv' := [(3, .long ((0 + ((Int32.toInt64 (s0 1)) * (tp2 s0))) + ((Int32.toInt64 (s0 2)) * (tp1 s0)))), (5, .int 2), (2, .int 3), (1, .ref q), (0, .ref sa)]) hC.1 hC.2.1 dX2_tapsUndoing_51 rfl hl (by decide) rfl (fun ls hl => ?_)
  refine lv_iinc (v := 3) (lv' := [(5, .int 3), (3, .long ((0 + ((Int32.toInt64 (s0 1)) * (tp2 s0))) + ((Int32.toInt64 (s0 2)) * (tp1 s0)))), (2, .int 3), (1, .ref q), (0, .ref sa)]) hC.1 hC.2.1 dX2_tapsUndoing_52 hl (k := 1) rfl (by decide) (by decide) rfl (fun ls hl => ?_)
  refine lv_goto (tgt := 25) hC.1 hC.2.1 dX2_tapsUndoing_55 (by decide) ?_
  refine lv_iload hC.1 hC.2.1 dX2_tapsUndoing_25 (lv_at hl 0 rfl) ?_
  refine lv_iconst (v := 4) hC.1 hC.2.1 dX2_tapsUndoing_27 (by decide) ?_
  refine lv_icmp_ge (tgt := 58) hC.1 hC.2.1 dX2_tapsUndoing_28 (by decide) (fun c => absurd c (by decide)) (fun _ => ?_)
  refine lv_iload hC.1 hC.2.1 dX2_tapsUndoing_31 (lv_at hl 0 rfl) ?_
  refine lv_iload_n hC.1 hC.2.1 dX2_tapsUndoing_33 rfl (lv_at hl 2 rfl) ?_
  refine lv_icmp_gt (tgt := 58) hC.1 hC.2.1 dX2_tapsUndoing_34 (by decide) (fun c => absurd c (by decide)) (fun _ => ?_)
  refine lv_lload_n hC.1 hC.2.1 dX2_tapsUndoing_37 rfl (lv_at hl 1 rfl) ?_
  refine lv_aload_n hC.1 hC.2.1 dX2_tapsUndoing_38 rfl (lv_at hl 4 rfl) ?_
  refine lv_iload hC.1 hC.2.1 dX2_tapsUndoing_39 (lv_at hl 0 rfl) ?_
  refine ec_iald hC hK hs 3 rfl (by omega) (by omega) dX2_tapsUndoing_41 ?_
  refine lv_i2l hC.1 hC.2.1 dX2_tapsUndoing_42 rfl ?_
  refine lv_aload_n hC.1 hC.2.1 dX2_tapsUndoing_43 rfl (lv_at hl 3 rfl) ?_
  refine lv_iload_n hC.1 hC.2.1 dX2_tapsUndoing_44 rfl (lv_at hl 2 rfl) ?_
  refine lv_iload hC.1 hC.2.1 dX2_tapsUndoing_45 (lv_at hl 0 rfl) ?_
  refine lv_isub hC.1 hC.2.1 dX2_tapsUndoing_47 ?_
  refine ec_topi (y := 0) (by decide) ?_
  refine ec_lald hC hK ht 0 rfl (by omega) (by omega) dX2_tapsUndoing_48 ?_
  refine ec_topl (y := (Int32.toInt64 (s0 0))) rfl ?_
  refine lv_lmul hC.1 hC.2.1 dX2_tapsUndoing_49 ?_
  refine lv_ladd hC.1 hC.2.1 dX2_tapsUndoing_50 ?_
  refine lv_lstore_n (lv' := [(3, .long (((0 + ((Int32.toInt64 (s0 1)) * (tp2 s0))) + ((Int32.toInt64 (s0 2)) * (tp1 s0))) + ((Int32.toInt64 (s0 3)) * (Int32.toInt64 (s0 0))))), (5, .int 3), (2, .int 3), (1, .ref q), (0, .ref sa)]) hC.1 hC.2.1 dX2_tapsUndoing_51 rfl hl (by decide) rfl (fun ls hl => ?_)
  refine lv_iinc (v := 4) (lv' := [(5, .int 4), (3, .long (((0 + ((Int32.toInt64 (s0 1)) * (tp2 s0))) + ((Int32.toInt64 (s0 2)) * (tp1 s0))) + ((Int32.toInt64 (s0 3)) * (Int32.toInt64 (s0 0))))), (2, .int 3), (1, .ref q), (0, .ref sa)]) hC.1 hC.2.1 dX2_tapsUndoing_52 hl (k := 1) rfl (by decide) (by decide) rfl (fun ls hl => ?_)
  refine lv_goto (tgt := 25) hC.1 hC.2.1 dX2_tapsUndoing_55 (by decide) ?_
  refine lv_iload hC.1 hC.2.1 dX2_tapsUndoing_25 (lv_at hl 0 rfl) ?_
  refine lv_iconst (v := 4) hC.1 hC.2.1 dX2_tapsUndoing_27 (by decide) ?_
  refine lv_icmp_ge (tgt := 58) hC.1 hC.2.1 dX2_tapsUndoing_28 (by decide) (fun _ => ?_) (fun c => absurd (by decide) c)
  refine lv_aload_n hC.1 hC.2.1 dX2_tapsUndoing_58 rfl (lv_at hl 3 rfl) ?_
  refine lv_iload_n hC.1 hC.2.1 dX2_tapsUndoing_59 rfl (lv_at hl 2 rfl) ?_
  refine lv_aload_n hC.1 hC.2.1 dX2_tapsUndoing_60 rfl (lv_at hl 4 rfl) ?_
  refine lv_iconst (v := 0) hC.1 hC.2.1 dX2_tapsUndoing_61 (by decide) ?_
  refine ec_iald hC hK hs 0 rfl (by omega) (by omega) dX2_tapsUndoing_62 ?_
  refine lv_ineg hC.1 hC.2.1 dX2_tapsUndoing_63 ?_
  refine lv_i2l hC.1 hC.2.1 dX2_tapsUndoing_64 rfl ?_
  refine lv_lload_n hC.1 hC.2.1 dX2_tapsUndoing_65 rfl (lv_at hl 1 rfl) ?_
  refine lv_lmul hC.1 hC.2.1 dX2_tapsUndoing_66 ?_
  refine ec_topl (y := (tp3 s0)) rfl ?_
  refine ec_last hC hK hS ht (show sz ≤ q by rw [hq0, hsz]; exact Nat.le_refl _) 3 rfl (by omega) (by omega) dX2_tapsUndoing_67 (fun H locs h9 o9 z9 hS => ?_)
  have hs := hs.kept (o9 _ hne)
  have ht : ecA G q (eJ G 6 (vp_updL (vp_updL (vp_updL (vp_updL (fun _ => 0) 0 (Int32.toInt64 (s0 0))) 1 (tp1 s0)) 2 (tp2 s0)) 3 (tp3 s0))) H := h9
  refine lv_iinc (v := 4) (lv' := [(2, .int 4), (5, .int 4), (3, .long (((0 + ((Int32.toInt64 (s0 1)) * (tp2 s0))) + ((Int32.toInt64 (s0 2)) * (tp1 s0))) + ((Int32.toInt64 (s0 3)) * (Int32.toInt64 (s0 0))))), (1, .ref q), (0, .ref sa)]) hC.1 hC.2.1 dX2_tapsUndoing_68 hl (k := 2) rfl (by decide) (by decide) rfl (fun ls hl => ?_)
  refine lv_goto (tgt := 14) hC.1 hC.2.1 dX2_tapsUndoing_71 (by decide) ?_
  refine lv_iload_n hC.1 hC.2.1 dX2_tapsUndoing_14 rfl (lv_at hl 0 rfl) ?_
  refine lv_bipush (v := 6) hC.1 hC.2.1 dX2_tapsUndoing_15 (by decide) ?_
  refine lv_icmp_ge (tgt := 74) hC.1 hC.2.1 dX2_tapsUndoing_17 (by decide) (fun c => absurd c (by decide)) (fun _ => ?_)
  refine lv_lconst (v := 0) hC.1 hC.2.1 dX2_tapsUndoing_20 (by decide) ?_
  refine lv_lstore_n (lv' := [(3, .long 0), (2, .int 4), (5, .int 4), (1, .ref q), (0, .ref sa)]) hC.1 hC.2.1 dX2_tapsUndoing_21 rfl hl (by decide) rfl (fun ls hl => ?_)
  refine lv_iconst (v := 1) hC.1 hC.2.1 dX2_tapsUndoing_22 (by decide) ?_
  refine lv_istore (lv' := [(5, .int 1), (3, .long 0), (2, .int 4), (1, .ref q), (0, .ref sa)]) hC.1 hC.2.1 dX2_tapsUndoing_23 hl (by decide) rfl (fun ls hl => ?_)
  refine lv_iload hC.1 hC.2.1 dX2_tapsUndoing_25 (lv_at hl 0 rfl) ?_
  refine lv_iconst (v := 4) hC.1 hC.2.1 dX2_tapsUndoing_27 (by decide) ?_
  refine lv_icmp_ge (tgt := 58) hC.1 hC.2.1 dX2_tapsUndoing_28 (by decide) (fun c => absurd c (by decide)) (fun _ => ?_)
  refine lv_iload hC.1 hC.2.1 dX2_tapsUndoing_31 (lv_at hl 0 rfl) ?_
  refine lv_iload_n hC.1 hC.2.1 dX2_tapsUndoing_33 rfl (lv_at hl 2 rfl) ?_
  refine lv_icmp_gt (tgt := 58) hC.1 hC.2.1 dX2_tapsUndoing_34 (by decide) (fun c => absurd c (by decide)) (fun _ => ?_)
  refine lv_lload_n hC.1 hC.2.1 dX2_tapsUndoing_37 rfl (lv_at hl 1 rfl) ?_
  refine lv_aload_n hC.1 hC.2.1 dX2_tapsUndoing_38 rfl (lv_at hl 4 rfl) ?_
  refine lv_iload hC.1 hC.2.1 dX2_tapsUndoing_39 (lv_at hl 0 rfl) ?_
  refine ec_iald hC hK hs 1 rfl (by omega) (by omega) dX2_tapsUndoing_41 ?_
  refine lv_i2l hC.1 hC.2.1 dX2_tapsUndoing_42 rfl ?_
  refine lv_aload_n hC.1 hC.2.1 dX2_tapsUndoing_43 rfl (lv_at hl 3 rfl) ?_
  refine lv_iload_n hC.1 hC.2.1 dX2_tapsUndoing_44 rfl (lv_at hl 2 rfl) ?_
  refine lv_iload hC.1 hC.2.1 dX2_tapsUndoing_45 (lv_at hl 0 rfl) ?_
  refine lv_isub hC.1 hC.2.1 dX2_tapsUndoing_47 ?_
  refine ec_topi (y := 3) (by decide) ?_
  refine ec_lald hC hK ht 3 rfl (by omega) (by omega) dX2_tapsUndoing_48 ?_
  refine ec_topl (y := (tp3 s0)) rfl ?_
  refine lv_lmul hC.1 hC.2.1 dX2_tapsUndoing_49 ?_
  refine lv_ladd hC.1 hC.2.1 dX2_tapsUndoing_50 ?_
  refine lv_lstore_n (lv' := [(3, .long (0 + ((Int32.toInt64 (s0 1)) * (tp3 s0)))), (5, .int 1), (2, .int 4), (1, .ref q), (0, .ref sa)]) hC.1 hC.2.1 dX2_tapsUndoing_51 rfl hl (by decide) rfl (fun ls hl => ?_)
  refine lv_iinc (v := 2) (lv' := [(5, .int 2), (3, .long (0 + ((Int32.toInt64 (s0 1)) * (tp3 s0)))), (2, .int 4), (1, .ref q), (0, .ref sa)]) hC.1 hC.2.1 dX2_tapsUndoing_52 hl (k := 1) rfl (by decide) (by decide) rfl (fun ls hl => ?_)
  refine lv_goto (tgt := 25) hC.1 hC.2.1 dX2_tapsUndoing_55 (by decide) ?_
  refine lv_iload hC.1 hC.2.1 dX2_tapsUndoing_25 (lv_at hl 0 rfl) ?_
  refine lv_iconst (v := 4) hC.1 hC.2.1 dX2_tapsUndoing_27 (by decide) ?_
  refine lv_icmp_ge (tgt := 58) hC.1 hC.2.1 dX2_tapsUndoing_28 (by decide) (fun c => absurd c (by decide)) (fun _ => ?_)
  refine lv_iload hC.1 hC.2.1 dX2_tapsUndoing_31 (lv_at hl 0 rfl) ?_
  refine lv_iload_n hC.1 hC.2.1 dX2_tapsUndoing_33 rfl (lv_at hl 2 rfl) ?_
  refine lv_icmp_gt (tgt := 58) hC.1 hC.2.1 dX2_tapsUndoing_34 (by decide) (fun c => absurd c (by decide)) (fun _ => ?_)
  refine lv_lload_n hC.1 hC.2.1 dX2_tapsUndoing_37 rfl (lv_at hl 1 rfl) ?_
  refine lv_aload_n hC.1 hC.2.1 dX2_tapsUndoing_38 rfl (lv_at hl 4 rfl) ?_
  refine lv_iload hC.1 hC.2.1 dX2_tapsUndoing_39 (lv_at hl 0 rfl) ?_
  refine ec_iald hC hK hs 2 rfl (by omega) (by omega) dX2_tapsUndoing_41 ?_
  refine lv_i2l hC.1 hC.2.1 dX2_tapsUndoing_42 rfl ?_
  refine lv_aload_n hC.1 hC.2.1 dX2_tapsUndoing_43 rfl (lv_at hl 3 rfl) ?_
  refine lv_iload_n hC.1 hC.2.1 dX2_tapsUndoing_44 rfl (lv_at hl 2 rfl) ?_
  refine lv_iload hC.1 hC.2.1 dX2_tapsUndoing_45 (lv_at hl 0 rfl) ?_
  refine lv_isub hC.1 hC.2.1 dX2_tapsUndoing_47 ?_
  refine ec_topi (y := 2) (by decide) ?_
  refine ec_lald hC hK ht 2 rfl (by omega) (by omega) dX2_tapsUndoing_48 ?_
  refine ec_topl (y := (tp2 s0)) rfl ?_
  refine lv_lmul hC.1 hC.2.1 dX2_tapsUndoing_49 ?_
  refine lv_ladd hC.1 hC.2.1 dX2_tapsUndoing_50 ?_
  refine lv_lstore_n (lv' := [(3, .long ((0 + ((Int32.toInt64 (s0 1)) * (tp3 s0))) + ((Int32.toInt64 (s0 2)) * (tp2 s0)))), (5, .int 2), (2, .int 4), (1, .ref q), (0, .ref sa)]) hC.1 hC.2.1 dX2_tapsUndoing_51 rfl hl (by decide) rfl (fun ls hl => ?_)
  refine lv_iinc (v := 3) (lv' := [(5, .int 3), (3, .long ((0 + ((Int32.toInt64 (s0 1)) * (tp3 s0))) + ((Int32.toInt64 (s0 2)) * (tp2 s0)))), (2, .int 4), (1, .ref q), (0, .ref sa)]) hC.1 hC.2.1 dX2_tapsUndoing_52 hl (k := 1) rfl (by decide) (by decide) rfl (fun ls hl => ?_)
  refine lv_goto (tgt := 25) hC.1 hC.2.1 dX2_tapsUndoing_55 (by decide) ?_
  refine lv_iload hC.1 hC.2.1 dX2_tapsUndoing_25 (lv_at hl 0 rfl) ?_
  refine lv_iconst (v := 4) hC.1 hC.2.1 dX2_tapsUndoing_27 (by decide) ?_
  refine lv_icmp_ge (tgt := 58) hC.1 hC.2.1 dX2_tapsUndoing_28 (by decide) (fun c => absurd c (by decide)) (fun _ => ?_)
  refine lv_iload hC.1 hC.2.1 dX2_tapsUndoing_31 (lv_at hl 0 rfl) ?_
  refine lv_iload_n hC.1 hC.2.1 dX2_tapsUndoing_33 rfl (lv_at hl 2 rfl) ?_
  refine lv_icmp_gt (tgt := 58) hC.1 hC.2.1 dX2_tapsUndoing_34 (by decide) (fun c => absurd c (by decide)) (fun _ => ?_)
  refine lv_lload_n hC.1 hC.2.1 dX2_tapsUndoing_37 rfl (lv_at hl 1 rfl) ?_
  refine lv_aload_n hC.1 hC.2.1 dX2_tapsUndoing_38 rfl (lv_at hl 4 rfl) ?_
  refine lv_iload hC.1 hC.2.1 dX2_tapsUndoing_39 (lv_at hl 0 rfl) ?_
  refine ec_iald hC hK hs 3 rfl (by omega) (by omega) dX2_tapsUndoing_41 ?_
  refine lv_i2l hC.1 hC.2.1 dX2_tapsUndoing_42 rfl ?_
  refine lv_aload_n hC.1 hC.2.1 dX2_tapsUndoing_43 rfl (lv_at hl 3 rfl) ?_
  refine lv_iload_n hC.1 hC.2.1 dX2_tapsUndoing_44 rfl (lv_at hl 2 rfl) ?_
  refine lv_iload hC.1 hC.2.1 dX2_tapsUndoing_45 (lv_at hl 0 rfl) ?_
  refine lv_isub hC.1 hC.2.1 dX2_tapsUndoing_47 ?_
  refine ec_topi (y := 1) (by decide) ?_
  refine ec_lald hC hK ht 1 rfl (by omega) (by omega) dX2_tapsUndoing_48 ?_
  refine ec_topl (y := (tp1 s0)) rfl ?_
  refine lv_lmul hC.1 hC.2.1 dX2_tapsUndoing_49 ?_
  refine lv_ladd hC.1 hC.2.1 dX2_tapsUndoing_50 ?_
  refine lv_lstore_n (lv' := [(3, .long (((0 + ((Int32.toInt64 (s0 1)) * (tp3 s0))) + ((Int32.toInt64 (s0 2)) * (tp2 s0))) + ((Int32.toInt64 (s0 3)) * (tp1 s0)))), (5, .int 3), (2, .int 4), (1, .ref q), (0, .ref sa)]) hC.1 hC.2.1 dX2_tapsUndoing_51 rfl hl (by decide) rfl (fun ls hl => ?_)
  refine lv_iinc (v := 4) (lv' := [(5, .int 4), (3, .long (((0 + ((Int32.toInt64 (s0 1)) * (tp3 s0))) + ((Int32.toInt64 (s0 2)) * (tp2 s0))) + ((Int32.toInt64 (s0 3)) * (tp1 s0)))), (2, .int 4), (1, .ref q), (0, .ref sa)]) hC.1 hC.2.1 dX2_tapsUndoing_52 hl (k := 1) rfl (by decide) (by decide) rfl (fun ls hl => ?_)
  refine lv_goto (tgt := 25) hC.1 hC.2.1 dX2_tapsUndoing_55 (by decide) ?_
  refine lv_iload hC.1 hC.2.1 dX2_tapsUndoing_25 (lv_at hl 0 rfl) ?_
  refine lv_iconst (v := 4) hC.1 hC.2.1 dX2_tapsUndoing_27 (by decide) ?_
  refine lv_icmp_ge (tgt := 58) hC.1 hC.2.1 dX2_tapsUndoing_28 (by decide) (fun _ => ?_) (fun c => absurd (by decide) c)
  refine lv_aload_n hC.1 hC.2.1 dX2_tapsUndoing_58 rfl (lv_at hl 3 rfl) ?_
  refine lv_iload_n hC.1 hC.2.1 dX2_tapsUndoing_59 rfl (lv_at hl 2 rfl) ?_
  refine lv_aload_n hC.1 hC.2.1 dX2_tapsUndoing_60 rfl (lv_at hl 4 rfl) ?_
  refine lv_iconst (v := 0) hC.1 hC.2.1 dX2_tapsUndoing_61 (by decide) ?_
  refine ec_iald hC hK hs 0 rfl (by omega) (by omega) dX2_tapsUndoing_62 ?_
  refine lv_ineg hC.1 hC.2.1 dX2_tapsUndoing_63 ?_
  refine lv_i2l hC.1 hC.2.1 dX2_tapsUndoing_64 rfl ?_
  refine lv_lload_n hC.1 hC.2.1 dX2_tapsUndoing_65 rfl (lv_at hl 1 rfl) ?_
  refine lv_lmul hC.1 hC.2.1 dX2_tapsUndoing_66 ?_
  refine ec_topl (y := (tp4 s0)) rfl ?_
  refine ec_last hC hK hS ht (show sz ≤ q by rw [hq0, hsz]; exact Nat.le_refl _) 4 rfl (by omega) (by omega) dX2_tapsUndoing_67 (fun H locs h9 o9 z9 hS => ?_)
  have hs := hs.kept (o9 _ hne)
  have ht : ecA G q (eJ G 6 (vp_updL (vp_updL (vp_updL (vp_updL (vp_updL (fun _ => 0) 0 (Int32.toInt64 (s0 0))) 1 (tp1 s0)) 2 (tp2 s0)) 3 (tp3 s0)) 4 (tp4 s0))) H := h9
  refine lv_iinc (v := 5) (lv' := [(2, .int 5), (5, .int 4), (3, .long (((0 + ((Int32.toInt64 (s0 1)) * (tp3 s0))) + ((Int32.toInt64 (s0 2)) * (tp2 s0))) + ((Int32.toInt64 (s0 3)) * (tp1 s0)))), (1, .ref q), (0, .ref sa)]) hC.1 hC.2.1 dX2_tapsUndoing_68 hl (k := 2) rfl (by decide) (by decide) rfl (fun ls hl => ?_)
  refine lv_goto (tgt := 14) hC.1 hC.2.1 dX2_tapsUndoing_71 (by decide) ?_
  refine lv_iload_n hC.1 hC.2.1 dX2_tapsUndoing_14 rfl (lv_at hl 0 rfl) ?_
  refine lv_bipush (v := 6) hC.1 hC.2.1 dX2_tapsUndoing_15 (by decide) ?_
  refine lv_icmp_ge (tgt := 74) hC.1 hC.2.1 dX2_tapsUndoing_17 (by decide) (fun c => absurd c (by decide)) (fun _ => ?_)
  refine lv_lconst (v := 0) hC.1 hC.2.1 dX2_tapsUndoing_20 (by decide) ?_
  refine lv_lstore_n (lv' := [(3, .long 0), (2, .int 5), (5, .int 4), (1, .ref q), (0, .ref sa)]) hC.1 hC.2.1 dX2_tapsUndoing_21 rfl hl (by decide) rfl (fun ls hl => ?_)
  refine lv_iconst (v := 1) hC.1 hC.2.1 dX2_tapsUndoing_22 (by decide) ?_
  refine lv_istore (lv' := [(5, .int 1), (3, .long 0), (2, .int 5), (1, .ref q), (0, .ref sa)]) hC.1 hC.2.1 dX2_tapsUndoing_23 hl (by decide) rfl (fun ls hl => ?_)
  refine lv_iload hC.1 hC.2.1 dX2_tapsUndoing_25 (lv_at hl 0 rfl) ?_
  refine lv_iconst (v := 4) hC.1 hC.2.1 dX2_tapsUndoing_27 (by decide) ?_
  refine lv_icmp_ge (tgt := 58) hC.1 hC.2.1 dX2_tapsUndoing_28 (by decide) (fun c => absurd c (by decide)) (fun _ => ?_)
  refine lv_iload hC.1 hC.2.1 dX2_tapsUndoing_31 (lv_at hl 0 rfl) ?_
  refine lv_iload_n hC.1 hC.2.1 dX2_tapsUndoing_33 rfl (lv_at hl 2 rfl) ?_
  refine lv_icmp_gt (tgt := 58) hC.1 hC.2.1 dX2_tapsUndoing_34 (by decide) (fun c => absurd c (by decide)) (fun _ => ?_)
  refine lv_lload_n hC.1 hC.2.1 dX2_tapsUndoing_37 rfl (lv_at hl 1 rfl) ?_
  refine lv_aload_n hC.1 hC.2.1 dX2_tapsUndoing_38 rfl (lv_at hl 4 rfl) ?_
  refine lv_iload hC.1 hC.2.1 dX2_tapsUndoing_39 (lv_at hl 0 rfl) ?_
  refine ec_iald hC hK hs 1 rfl (by omega) (by omega) dX2_tapsUndoing_41 ?_
  refine lv_i2l hC.1 hC.2.1 dX2_tapsUndoing_42 rfl ?_
  refine lv_aload_n hC.1 hC.2.1 dX2_tapsUndoing_43 rfl (lv_at hl 3 rfl) ?_
  refine lv_iload_n hC.1 hC.2.1 dX2_tapsUndoing_44 rfl (lv_at hl 2 rfl) ?_
  refine lv_iload hC.1 hC.2.1 dX2_tapsUndoing_45 (lv_at hl 0 rfl) ?_
  refine lv_isub hC.1 hC.2.1 dX2_tapsUndoing_47 ?_
  refine ec_topi (y := 4) (by decide) ?_
  refine ec_lald hC hK ht 4 rfl (by omega) (by omega) dX2_tapsUndoing_48 ?_
  refine ec_topl (y := (tp4 s0)) rfl ?_
  refine lv_lmul hC.1 hC.2.1 dX2_tapsUndoing_49 ?_
  refine lv_ladd hC.1 hC.2.1 dX2_tapsUndoing_50 ?_
  refine lv_lstore_n (lv' := [(3, .long (0 + ((Int32.toInt64 (s0 1)) * (tp4 s0)))), (5, .int 1), (2, .int 5), (1, .ref q), (0, .ref sa)]) hC.1 hC.2.1 dX2_tapsUndoing_51 rfl hl (by decide) rfl (fun ls hl => ?_)
  refine lv_iinc (v := 2) (lv' := [(5, .int 2), (3, .long (0 + ((Int32.toInt64 (s0 1)) * (tp4 s0)))), (2, .int 5), (1, .ref q), (0, .ref sa)]) hC.1 hC.2.1 dX2_tapsUndoing_52 hl (k := 1) rfl (by decide) (by decide) rfl (fun ls hl => ?_)
  refine lv_goto (tgt := 25) hC.1 hC.2.1 dX2_tapsUndoing_55 (by decide) ?_
  refine lv_iload hC.1 hC.2.1 dX2_tapsUndoing_25 (lv_at hl 0 rfl) ?_
  refine lv_iconst (v := 4) hC.1 hC.2.1 dX2_tapsUndoing_27 (by decide) ?_
  refine lv_icmp_ge (tgt := 58) hC.1 hC.2.1 dX2_tapsUndoing_28 (by decide) (fun c => absurd c (by decide)) (fun _ => ?_)
  refine lv_iload hC.1 hC.2.1 dX2_tapsUndoing_31 (lv_at hl 0 rfl) ?_
  refine lv_iload_n hC.1 hC.2.1 dX2_tapsUndoing_33 rfl (lv_at hl 2 rfl) ?_
  refine lv_icmp_gt (tgt := 58) hC.1 hC.2.1 dX2_tapsUndoing_34 (by decide) (fun c => absurd c (by decide)) (fun _ => ?_)
  refine lv_lload_n hC.1 hC.2.1 dX2_tapsUndoing_37 rfl (lv_at hl 1 rfl) ?_
  refine lv_aload_n hC.1 hC.2.1 dX2_tapsUndoing_38 rfl (lv_at hl 4 rfl) ?_
  refine lv_iload hC.1 hC.2.1 dX2_tapsUndoing_39 (lv_at hl 0 rfl) ?_
  refine ec_iald hC hK hs 2 rfl (by omega) (by omega) dX2_tapsUndoing_41 ?_
  refine lv_i2l hC.1 hC.2.1 dX2_tapsUndoing_42 rfl ?_
  refine lv_aload_n hC.1 hC.2.1 dX2_tapsUndoing_43 rfl (lv_at hl 3 rfl) ?_
  refine lv_iload_n hC.1 hC.2.1 dX2_tapsUndoing_44 rfl (lv_at hl 2 rfl) ?_
  refine lv_iload hC.1 hC.2.1 dX2_tapsUndoing_45 (lv_at hl 0 rfl) ?_
  refine lv_isub hC.1 hC.2.1 dX2_tapsUndoing_47 ?_
  refine ec_topi (y := 3) (by decide) ?_
  refine ec_lald hC hK ht 3 rfl (by omega) (by omega) dX2_tapsUndoing_48 ?_
  refine ec_topl (y := (tp3 s0)) rfl ?_
  refine lv_lmul hC.1 hC.2.1 dX2_tapsUndoing_49 ?_
  refine lv_ladd hC.1 hC.2.1 dX2_tapsUndoing_50 ?_
  refine lv_lstore_n (lv' := [(3, .long ((0 + ((Int32.toInt64 (s0 1)) * (tp4 s0))) + ((Int32.toInt64 (s0 2)) * (tp3 s0)))), (5, .int 2), (2, .int 5), (1, .ref q), (0, .ref sa)]) hC.1 hC.2.1 dX2_tapsUndoing_51 rfl hl (by decide) rfl (fun ls hl => ?_)
  refine lv_iinc (v := 3) (lv' := [(5, .int 3), (3, .long ((0 + ((Int32.toInt64 (s0 1)) * (tp4 s0))) + ((Int32.toInt64 (s0 2)) * (tp3 s0)))), (2, .int 5), (1, .ref q), (0, .ref sa)]) hC.1 hC.2.1 dX2_tapsUndoing_52 hl (k := 1) rfl (by decide) (by decide) rfl (fun ls hl => ?_)
  refine lv_goto (tgt := 25) hC.1 hC.2.1 dX2_tapsUndoing_55 (by decide) ?_
  refine lv_iload hC.1 hC.2.1 dX2_tapsUndoing_25 (lv_at hl 0 rfl) ?_
  refine lv_iconst (v := 4) hC.1 hC.2.1 dX2_tapsUndoing_27 (by decide) ?_
  refine lv_icmp_ge (tgt := 58) hC.1 hC.2.1 dX2_tapsUndoing_28 (by decide) (fun c => absurd c (by decide)) (fun _ => ?_)
  refine lv_iload hC.1 hC.2.1 dX2_tapsUndoing_31 (lv_at hl 0 rfl) ?_
  refine lv_iload_n hC.1 hC.2.1 dX2_tapsUndoing_33 rfl (lv_at hl 2 rfl) ?_
  refine lv_icmp_gt (tgt := 58) hC.1 hC.2.1 dX2_tapsUndoing_34 (by decide) (fun c => absurd c (by decide)) (fun _ => ?_)
  refine lv_lload_n hC.1 hC.2.1 dX2_tapsUndoing_37 rfl (lv_at hl 1 rfl) ?_
  refine lv_aload_n hC.1 hC.2.1 dX2_tapsUndoing_38 rfl (lv_at hl 4 rfl) ?_
  refine lv_iload hC.1 hC.2.1 dX2_tapsUndoing_39 (lv_at hl 0 rfl) ?_
  refine ec_iald hC hK hs 3 rfl (by omega) (by omega) dX2_tapsUndoing_41 ?_
  refine lv_i2l hC.1 hC.2.1 dX2_tapsUndoing_42 rfl ?_
  refine lv_aload_n hC.1 hC.2.1 dX2_tapsUndoing_43 rfl (lv_at hl 3 rfl) ?_
  refine lv_iload_n hC.1 hC.2.1 dX2_tapsUndoing_44 rfl (lv_at hl 2 rfl) ?_
  refine lv_iload hC.1 hC.2.1 dX2_tapsUndoing_45 (lv_at hl 0 rfl) ?_
  refine lv_isub hC.1 hC.2.1 dX2_tapsUndoing_47 ?_
  refine ec_topi (y := 2) (by decide) ?_
  refine ec_lald hC hK ht 2 rfl (by omega) (by omega) dX2_tapsUndoing_48 ?_
  refine ec_topl (y := (tp2 s0)) rfl ?_
  refine lv_lmul hC.1 hC.2.1 dX2_tapsUndoing_49 ?_
  refine lv_ladd hC.1 hC.2.1 dX2_tapsUndoing_50 ?_
  refine lv_lstore_n (lv' := [(3, .long (((0 + ((Int32.toInt64 (s0 1)) * (tp4 s0))) + ((Int32.toInt64 (s0 2)) * (tp3 s0))) + ((Int32.toInt64 (s0 3)) * (tp2 s0)))), (5, .int 3), (2, .int 5), (1, .ref q), (0, .ref sa)]) hC.1 hC.2.1 dX2_tapsUndoing_51 rfl hl (by decide) rfl (fun ls hl => ?_)
  refine lv_iinc (v := 4) (lv' := [(5, .int 4), (3, .long (((0 + ((Int32.toInt64 (s0 1)) * (tp4 s0))) + ((Int32.toInt64 (s0 2)) * (tp3 s0))) + ((Int32.toInt64 (s0 3)) * (tp2 s0)))), (2, .int 5), (1, .ref q), (0, .ref sa)]) hC.1 hC.2.1 dX2_tapsUndoing_52 hl (k := 1) rfl (by decide) (by decide) rfl (fun ls hl => ?_)
  refine lv_goto (tgt := 25) hC.1 hC.2.1 dX2_tapsUndoing_55 (by decide) ?_
  refine lv_iload hC.1 hC.2.1 dX2_tapsUndoing_25 (lv_at hl 0 rfl) ?_
  refine lv_iconst (v := 4) hC.1 hC.2.1 dX2_tapsUndoing_27 (by decide) ?_
  refine lv_icmp_ge (tgt := 58) hC.1 hC.2.1 dX2_tapsUndoing_28 (by decide) (fun _ => ?_) (fun c => absurd (by decide) c)
  refine lv_aload_n hC.1 hC.2.1 dX2_tapsUndoing_58 rfl (lv_at hl 3 rfl) ?_
  refine lv_iload_n hC.1 hC.2.1 dX2_tapsUndoing_59 rfl (lv_at hl 2 rfl) ?_
  refine lv_aload_n hC.1 hC.2.1 dX2_tapsUndoing_60 rfl (lv_at hl 4 rfl) ?_
  refine lv_iconst (v := 0) hC.1 hC.2.1 dX2_tapsUndoing_61 (by decide) ?_
  refine ec_iald hC hK hs 0 rfl (by omega) (by omega) dX2_tapsUndoing_62 ?_
  refine lv_ineg hC.1 hC.2.1 dX2_tapsUndoing_63 ?_
  refine lv_i2l hC.1 hC.2.1 dX2_tapsUndoing_64 rfl ?_
  refine lv_lload_n hC.1 hC.2.1 dX2_tapsUndoing_65 rfl (lv_at hl 1 rfl) ?_
  refine lv_lmul hC.1 hC.2.1 dX2_tapsUndoing_66 ?_
  refine ec_topl (y := (tp5 s0)) rfl ?_
  refine ec_last hC hK hS ht (show sz ≤ q by rw [hq0, hsz]; exact Nat.le_refl _) 5 rfl (by omega) (by omega) dX2_tapsUndoing_67 (fun H locs h9 o9 z9 hS => ?_)
  have hs := hs.kept (o9 _ hne)
  have ht : ecA G q (eJ G 6 (vp_updL (vp_updL (vp_updL (vp_updL (vp_updL (vp_updL (fun _ => 0) 0 (Int32.toInt64 (s0 0))) 1 (tp1 s0)) 2 (tp2 s0)) 3 (tp3 s0)) 4 (tp4 s0)) 5 (tp5 s0))) H := h9
  refine lv_iinc (v := 6) (lv' := [(2, .int 6), (5, .int 4), (3, .long (((0 + ((Int32.toInt64 (s0 1)) * (tp4 s0))) + ((Int32.toInt64 (s0 2)) * (tp3 s0))) + ((Int32.toInt64 (s0 3)) * (tp2 s0)))), (1, .ref q), (0, .ref sa)]) hC.1 hC.2.1 dX2_tapsUndoing_68 hl (k := 2) rfl (by decide) (by decide) rfl (fun ls hl => ?_)
  refine lv_goto (tgt := 14) hC.1 hC.2.1 dX2_tapsUndoing_71 (by decide) ?_
  refine lv_iload_n hC.1 hC.2.1 dX2_tapsUndoing_14 rfl (lv_at hl 0 rfl) ?_
  refine lv_bipush (v := 6) hC.1 hC.2.1 dX2_tapsUndoing_15 (by decide) ?_
  refine lv_icmp_ge (tgt := 74) hC.1 hC.2.1 dX2_tapsUndoing_17 (by decide) (fun _ => ?_) (fun c => absurd (by decide) c)
  refine lv_aload_n hC.1 hC.2.1 dX2_tapsUndoing_74 rfl (lv_at hl 3 rfl) ?_
  exact W.aret hC.1 hC.2.1 hr (Or.inr ⟨_, rfl⟩) (Or.inr ⟨_, rfl⟩) (fun t9 ht9 _ => ⟨_, rfl, by rw [ht9]; exact ⟨q, rfl, ecJ_to ht (ec_lt6 rfl rfl rfl rfl rfl rfl), by rw [hq0, hsz]; exact Nat.le_refl _⟩, hS.F ht9⟩) hS.2.2 dX2_tapsUndoing_75

set_option maxHeartbeats 4000000 in
set_option maxRecDepth 100000 in
/-- a Filter is made -/
theorem c_X2_init (l : Launch) (G : ecG) (a an sa sz : Nat) (u0 u1 u2 u3 u5 u6 : Value) (s0 : Nat → Int32) (hN : ecN0 G ≤ a) (has : a < sz) (hne : an ≠ a) (hne2 : sa ≠ a) : Met l yX2_init (ecWs yX2_init cX2_init 2 none) (ecRm 2 2 12) (ecPc [.ref a, .ref an] G (fun H => H.size = sz ∧ ecA G a (eO 2 [.null, .null, .null, .int 0]) H ∧ ecA G an (eO 0 [u0, u1, u2, u3, .ref sa, u5, u6]) H ∧ ecA G sa (eI G 4 s0) H)) (ecEp (fun v H1 => v = none ∧ ∃ ta pa : Nat, sz ≤ ta ∧ sz ≤ pa ∧ ta ≠ pa ∧ ecA G a (eO 2 [.ref an, .ref ta, .ref pa, .int 0]) H1 ∧ ecA G ta (eJ G 6 (tpF s0)) H1 ∧ ecA G pa (eI G 6 (fun _ => 0)) H1) (fun x : Nat => x = a ∨ sz ≤ x)) 2 12 (fun x : Nat => x = a ∨ sz ≤ x) := by
  refine ec_met (by decide) (Nat.le_of_ble_eq_true rfl) ?_
  intro p e s m below meth c hC hr hlocks hname hOk hpre ls hl
  have hK := hOk.1
  obtain ⟨hsz, ha, hn, hs⟩ := hpre
  have hS : va_S (fun x : Nat => x = a ∨ sz ≤ x) s.heap s.heap [] := va_S.rf
  have hAN : ∀ q, (fun x : Nat => x = a ∨ sz ≤ x) q → ecN0 G ≤ q := fun q h => h.elim (fun h => by rw [h]; exact hN) (fun h => Nat.le_trans hOk.2.1 (by rw [hsz]; exact h))
  have hl : lv_has ls 2 [(0, .ref a), (1, .ref an)] := hl
  refine lv_aload_n hC.1 hC.2.1 dX2_init_0 rfl (lv_at hl 0 rfl) ?_
  refine W.objInit hC.1 hC.2.1 hC.2.2.2.1 (hC.2.2.2.2 _ kX2_3) (hC.2.2.2.2 _ qOi) (hC.2.2.2.2 _ qOc) rfl (by rw [hC.2.2.1]; exact hl.1) rfl dX2_init_1 (Nat.le_of_ble_eq_true rfl) (Nat.le_of_ble_eq_true rfl) ?_
  refine W.eq (g2 := F0 m 4 ls []) rfl ?_
  refine lv_aload_n hC.1 hC.2.1 dX2_init_4 rfl (lv_at hl 0 rfl) ?_
  refine lv_aload_n hC.1 hC.2.1 dX2_init_5 rfl (lv_at hl 1 rfl) ?_
  refine ec_putF hC hK hS ha (Or.inl rfl) fX2_9 rfl hname rfl rfl rfl (Nat.le_of_ble_eq_true rfl) dX2_init_6 (fun H locs h9 o9 z9 hS => ?_)
  have hn := hn.kept (o9 _ hne)
  have hs := hs.kept (o9 _ hne2)
  have ha : ecA G a (eO 2 [.ref an, .null, .null, .int 0]) H := h9
  refine lv_aload_n hC.1 hC.2.1 dX2_init_9 rfl (lv_at hl 0 rfl) ?_
  refine lv_aload_n hC.1 hC.2.1 dX2_init_10 rfl (lv_at hl 1 rfl) ?_
  refine ec_get hC hK hn fX2_15 rfl dX2_init_11 ?_
  have hsz := z9.trans hsz
  refine ec_goEq (ec_rS hC (c_X2_tapsUndoing l G sa sz s0) kX2_21 (hOk.at hS hAN) ⟨hsz, hs⟩ hl.1 ⟨Nat.le_of_ble_eq_true rfl, Nat.le_of_ble_eq_true rfl⟩ rfl (Nat.le_of_ble_eq_true rfl) dX2_init_14 ⟨Nat.le_of_ble_eq_true rfl, Nat.le_of_ble_eq_true rfl⟩) hS (fun _ h => Or.inr h) (fun ta H locs hp hz hk1 hS => ?_)
  obtain ⟨ht, hta⟩ := hp
  have hsz2 : sz ≤ H.size := by rw [← hsz]; exact hz
  have ha := ha.un hk1 (by show ¬ sz ≤ a; omega)
  have hza : ta ≠ a := by omega
  have htl := ht.lt
  refine ec_putF hC hK hS ha (Or.inl rfl) fX2_25 rfl hname rfl rfl rfl (Nat.le_of_ble_eq_true rfl) dX2_init_17 (fun H locs h9 o9 z9 hS => ?_)
  have ht := ht.kept (o9 _ hza)
  have ha : ecA G a (eO 2 [.ref an, .ref ta, .null, .int 0]) H := h9
  have hsz2 : sz ≤ H.size := by rw [z9]; exact hsz2
  refine lv_aload_n hC.1 hC.2.1 dX2_init_20 rfl (lv_at hl 0 rfl) ?_
  refine lv_bipush (v := 6) hC.1 hC.2.1 dX2_init_21 (by decide) ?_
  refine ec_newI hC hK hS q451 6 rfl (by omega) (Nat.le_of_ble_eq_true rfl) (Nat.le_of_ble_eq_true rfl) dX2_init_23 (fun pa H hp0 hpa hkp hS hz3 => ?_)
  have hps : sz ≤ pa := by rw [hp0]; exact hsz2
  have ha := ha.kp hkp
  have htl := ht.lt
  have ht := ht.kp hkp
  have hpt : ta ≠ pa := fun z => Nat.ne_of_lt htl (by rw [← hp0, ← z])
  have hzp : pa ≠ a := by omega
  refine ec_putF hC hK hS ha (Or.inl rfl) fX2_29 rfl hname rfl rfl rfl (Nat.le_of_ble_eq_true rfl) dX2_init_25 (fun H locs h9 o9 z9 hS => ?_)
  have ht := ht.kept (o9 _ hza)
  have hpa := hpa.kept (o9 _ hzp)
  have ha : ecA G a (eO 2 [.ref an, .ref ta, .ref pa, .int 0]) H := h9
  refine lv_aload_n hC.1 hC.2.1 dX2_init_28 rfl (lv_at hl 0 rfl) ?_
  refine lv_iconst (v := 0) hC.1 hC.2.1 dX2_init_29 (by decide) ?_
  refine ec_put hC hK hS ha (Or.inl rfl) fX2_32 rfl rfl rfl (Nat.le_of_ble_eq_true rfl) dX2_init_30 (fun H locs h9 o9 z9 hS => ?_)
  have ht := ht.kept (o9 _ hza)
  have hpa := hpa.kept (o9 _ hzp)
  have ha : ecA G a (eO 2 [.ref an, .ref ta, .ref pa, .int 0]) H := h9
  exact W.vret hC.1 hC.2.1 hr (fun t9 ht9 _ => ⟨_, rfl, by rw [ht9]; exact ⟨rfl, ta, pa, hta, hps, hpt, ha, ht, hpa⟩, hS.F ht9⟩) hS.2.2 dX2_init_33
