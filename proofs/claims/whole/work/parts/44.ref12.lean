set_option maxHeartbeats 4000000 in
theorem rf_made {G : ecG} {Y : Nat → Prop} {y a0 a1 a2 a3 a4 a5 a6 a7 a8 a9 a10 a11 a12 a13 a14 a15 a16 : Nat} {H : Heap} (hs : y < a0) (hlt1 : a0 < a1) (hlt2 : a1 < a2) (hlt3 : a2 < a3) (hlt4 : a3 < a4) (hlt5 : a4 < a5) (hlt6 : a5 < a6) (hlt7 : a6 < a7) (hlt8 : a7 < a8) (hlt9 : a8 < a9) (hlt10 : a9 < a10) (hlt11 : a10 < a11) (hlt12 : a11 < a12) (hlt13 : a12 < a13) (hlt14 : a13 < a14) (hlt15 : a14 < a15) (hlt16 : a15 < a16) (ha : ecA G y (eO 6 (rfV mM0 0 (fun k => if k = 0 then a0 else if k = 1 then a1 else if k = 2 then a2 else if k = 3 then a3 else if k = 4 then a4 else if k = 5 then a5 else if k = 6 then a6 else if k = 7 then a7 else if k = 8 then a8 else if k = 9 then a9 else if k = 10 then a10 else if k = 11 then a11 else if k = 12 then a12 else if k = 13 then a13 else if k = 14 then a14 else if k = 15 then a15 else a16))) H) (hw0 : ecA G a0 (eI G 4 (fun _ => 0)) H) (hw1 : ecA G a1 (eI G 4 (fun _ => 0)) H) (hw2 : ecA G a2 (eI G 40 (fun _ => 0)) H) (hw3 : ecA G a3 (eI G 40 (fun _ => 0)) H) (hw4 : ecA G a4 (eI G 40 (fun _ => 0)) H) (hw5 : ecA G a5 (eI G 40 (fun _ => 0)) H) (hw6 : ecA G a6 (eI G 40 (fun _ => 0)) H) (hw7 : ecA G a7 (eI G 160 (fun _ => 0)) H) (hw8 : ecA G a8 (eI G 20 (fun _ => 0)) H) (hw9 : ecA G a9 (eJ G 120 (fun _ => 0)) H) (hw10 : ecA G a10 (eI G 120 (fun _ => 0)) H) (hw11 : ecA G a11 (eI G 20 (fun _ => 0)) H) (hw12 : ecA G a12 (eI G 16 (fun _ => 0)) H) (hw13 : ecA G a13 (eI G 16 (fun _ => 0)) H) (hw14 : ecA G a14 (eI G 16 (fun _ => 0)) H) (hw15 : ecA G a15 (eI G 16 (fun _ => 0)) H) (hw16 : ecA G a16 (eZ G 16 (fun _ => 0)) H) (hy : Y y) (hY : ∀ q, y < q → Y q) : ∃ ya, rfX G Y mM0 0 y ya H := by
  obtain ⟨ya, hya⟩ : ∃ ya : Nat → Nat, ya = (fun k => if k = 0 then a0 else if k = 1 then a1 else if k = 2 then a2 else if k = 3 then a3 else if k = 4 then a4 else if k = 5 then a5 else if k = 6 then a6 else if k = 7 then a7 else if k = 8 then a8 else if k = 9 then a9 else if k = 10 then a10 else if k = 11 then a11 else if k = 12 then a12 else if k = 13 then a13 else if k = 14 then a14 else if k = 15 then a15 else a16) := ⟨_, rfl⟩
  rw [← hya] at ha
  have e0 : ya 0 = a0 := by rw [hya]; rfl
  have e1 : ya 1 = a1 := by rw [hya]; rfl
  have e2 : ya 2 = a2 := by rw [hya]; rfl
  have e3 : ya 3 = a3 := by rw [hya]; rfl
  have e4 : ya 4 = a4 := by rw [hya]; rfl
  have e5 : ya 5 = a5 := by rw [hya]; rfl
  have e6 : ya 6 = a6 := by rw [hya]; rfl
  have e7 : ya 7 = a7 := by rw [hya]; rfl
  have e8 : ya 8 = a8 := by rw [hya]; rfl
  have e9 : ya 9 = a9 := by rw [hya]; rfl
  have e10 : ya 10 = a10 := by rw [hya]; rfl
  have e11 : ya 11 = a11 := by rw [hya]; rfl
  have e12 : ya 12 = a12 := by rw [hya]; rfl
  have e13 : ya 13 = a13 := by rw [hya]; rfl
  have e14 : ya 14 = a14 := by rw [hya]; rfl
  have e15 : ya 15 = a15 := by rw [hya]; rfl
  have e16 : ya 16 = a16 := by rw [hya]; rfl
  clear hya
  subst e0
  subst e1
  subst e2
  subst e3
  subst e4
  subst e5
  subst e6
  subst e7
  subst e8
  subst e9
  subst e10
  subst e11
  subst e12
  subst e13
  subst e14
  subst e15
  subst e16
  have hst : ∀ k, k < 16 → ya k < ya (k + 1) := (lt_s (lt_s (lt_s (lt_s (lt_s (lt_s (lt_s (lt_s (lt_s (lt_s (lt_s (lt_s (lt_s (lt_s (lt_s (lt_s lt_0 hlt1) hlt2) hlt3) hlt4) hlt5) hlt6) hlt7) hlt8) hlt9) hlt10) hlt11) hlt12) hlt13) hlt14) hlt15) hlt16)
  have hmo : ∀ d i, i + d < 17 → 0 < d → ya i < ya (i + d) := by
    intro d
    induction d with
    | zero => intro i h1 h2; exact absurd h2 (Nat.lt_irrefl 0)
    | succ d ih =>
      intro i h1 h2
      have h3 := hst (i + d) (by omega)
      rcases Nat.eq_zero_or_pos d with z | z
      · subst z; exact h3
      · exact Nat.lt_trans (ih i (by omega) z) h3
  have hge : ∀ k, k < 17 → y < ya k := by
    intro k hk
    rcases Nat.eq_zero_or_pos k with z | z
    · subst z; exact hs
    · have := hmo k 0 (by omega) z; rw [Nat.zero_add] at this; exact Nat.lt_trans hs this
  refine ⟨ya, ha, (lt_s (lt_s (lt_s (lt_s (lt_s (lt_s (lt_s (lt_s (lt_s (lt_s (lt_s (lt_s (lt_s (lt_s (lt_s (lt_s (lt_s lt_0 (ecI_to hw0 (fun _ _ => rfl))) (ecI_to hw1 (fun _ _ => rfl))) (ecI_to hw2 (fun _ _ => rfl))) (ecI_to hw3 (fun _ _ => rfl))) (ecI_to hw4 (fun _ _ => rfl))) (ecI_to hw5 (fun _ _ => rfl))) (ecI_to hw6 (fun _ _ => rfl))) (ecI_to hw7 (fun _ _ => rfl))) (ecI_to hw8 (fun _ _ => rfl))) (ecJ_to hw9 (fun _ _ => rfl))) (ecI_to hw10 (fun _ _ => rfl))) (ecI_to hw11 (fun _ _ => rfl))) (ecI_to hw12 (fun _ _ => rfl))) (ecI_to hw13 (fun _ _ => rfl))) (ecI_to hw14 (fun _ _ => rfl))) (ecI_to hw15 (fun _ _ => rfl))) (ecZ_to hw16 (fun _ _ => rfl))), fun k hk => Nat.ne_of_gt (hge k hk), fun i hi j hj hn => ?_, hy, fun k hk => hY _ (hge k hk)⟩
  rcases Nat.lt_or_gt_of_ne hn with z | z
  · have := hmo (j - i) i (by omega) (by omega); rw [show i + (j - i) = j by omega] at this; exact Nat.ne_of_lt this
  · have := hmo (i - j) j (by omega) (by omega); rw [show j + (i - j) = i by omega] at this; exact Nat.ne_of_gt this

set_option maxHeartbeats 4000000 in
set_option maxRecDepth 100000 in
/-- the reference is made -/
theorem c_X6_init (l : Launch) (G : ecG) (Y : Nat → Prop) (y : Nat) : Met l yX6_init (ecWs yX6_init cX6_init 1 none) (ecRm 9 17 728) (ecPc [.ref y] G (fun H => ecXs G Y H ∧ Y y ∧ H.size = y + 1 ∧ ecA G y (eO 6 [.int 0, .int 0, .int 0, .int 0, .null, .null, .int 0, .null, .null, .null, .null, .null, .null, .int 0, .null, .null, .null, .null, .int 0, .null, .null, .null, .null, .null]) H)) (ecEp (fun v H1 => v = none ∧ ∃ ya, rfX G Y mM0 0 y ya H1) (Y)) 17 728 (Y) := by
  refine ec_met (by decide) (Nat.le_of_ble_eq_true rfl) ?_
  intro p e s m below meth c hC hr hlocks hname hOk hpre ls hl
  have hK := hOk.1
  obtain ⟨hYs, hy, hsz, ha⟩ := hpre
  have hS : va_S (Y) s.heap s.heap [] := va_S.rf
  have hAN : ∀ q, (Y) q → ecN0 G ≤ q := hYs.1
  have hl : lv_has ls 1 [(0, .ref y)] := hl
  have hA : s.heap.size ≤ s.heap.size := Nat.le_refl _
  have hyl : y < s.heap.size := ha.lt
  have hyq : ∀ q, y < q → s.heap.size ≤ q := fun q hq => by rw [hsz]; exact hq
  refine lv_aload_n hC.1 hC.2.1 dX6_init_0 rfl (lv_at hl 0 rfl) ?_
  refine W.objInit hC.1 hC.2.1 hC.2.2.2.1 (hC.2.2.2.2 _ kX6_1) (hC.2.2.2.2 _ qOi) (hC.2.2.2.2 _ qOc) rfl (by rw [hC.2.2.1]; exact hl.1) rfl dX6_init_1 (Nat.le_of_ble_eq_true rfl) (Nat.le_of_ble_eq_true rfl) ?_
  refine W.eq (g2 := F0 m 4 ls []) rfl ?_
  refine lv_aload_n hC.1 hC.2.1 dX6_init_4 rfl (lv_at hl 0 rfl) ?_
  refine lv_bipush (v := 24) hC.1 hC.2.1 dX6_init_5 (by decide) ?_
  refine ec_put hC hK hS ha hy fX6_7 rfl rfl rfl (Nat.le_of_ble_eq_true rfl) dX6_init_7 (fun H locs h9 o9 z9 hS => ?_)
  have hA : s.heap.size ≤ H.size := Nat.le_trans hA (Nat.le_of_eq z9.symm)
  have ha : ecA G y (eO 6 [.int 0, .int 0, .int 24, .int 0, .null, .null, .int 0, .null, .null, .null, .null, .null, .null, .int 0, .null, .null, .null, .null, .int 0, .null, .null, .null, .null, .null]) H := h9
  refine lv_aload_n hC.1 hC.2.1 dX6_init_10 rfl (lv_at hl 0 rfl) ?_
  refine lv_iconst (v := 4) hC.1 hC.2.1 dX6_init_11 (by decide) ?_
  refine ec_newI hC hK hS q436 4 rfl (Nat.lt_of_sub_pos (by decide)) (Nat.le_of_ble_eq_true rfl) (Nat.le_of_ble_eq_true rfl) dX6_init_12 (fun a0 H ae0 hw0 hk0 hS hz0 => ?_)
  have hs0 : s.heap.size ≤ a0 := by rw [ae0]; exact hA
  have hny0 : a0 ≠ y := Nat.ne_of_gt (Nat.lt_of_lt_of_le hyl hs0)
  clear ae0
  have ha := ha.kp hk0
  have hA : s.heap.size ≤ H.size := Nat.le_trans hA hk0.1
  refine ec_putF hC hK hS ha hy fX6_13 rfl hname rfl rfl rfl (Nat.le_of_ble_eq_true rfl) dX6_init_14 (fun H locs h9 o9 z9 hS => ?_)
  have hA : s.heap.size ≤ H.size := Nat.le_trans hA (Nat.le_of_eq z9.symm)
  have hw0 := hw0.kept (o9 _ hny0)
  have ha : ecA G y (eO 6 [.int 0, .int 0, .int 24, .int 0, .ref a0, .null, .int 0, .null, .null, .null, .null, .null, .null, .int 0, .null, .null, .null, .null, .int 0, .null, .null, .null, .null, .null]) H := h9
  refine lv_aload_n hC.1 hC.2.1 dX6_init_17 rfl (lv_at hl 0 rfl) ?_
  refine lv_iconst (v := 4) hC.1 hC.2.1 dX6_init_18 (by decide) ?_
  have hl0 := hw0.lt
  refine ec_newI hC hK hS q436 4 rfl (Nat.lt_of_sub_pos (by decide)) (Nat.le_of_ble_eq_true rfl) (Nat.le_of_ble_eq_true rfl) dX6_init_19 (fun a1 H ae1 hw1 hk0 hS hz0 => ?_)
  have hs1 : s.heap.size ≤ a1 := by rw [ae1]; exact hA
  have hny1 : a1 ≠ y := Nat.ne_of_gt (Nat.lt_of_lt_of_le hyl hs1)
  have hlt1 : a0 < a1 := by rw [ae1]; exact hl0
  clear ae1
  have ha := ha.kp hk0
  have hA : s.heap.size ≤ H.size := Nat.le_trans hA hk0.1
  have hw0 := hw0.kp hk0
  refine ec_putF hC hK hS ha hy fX6_17 rfl hname rfl rfl rfl (Nat.le_of_ble_eq_true rfl) dX6_init_21 (fun H locs h9 o9 z9 hS => ?_)
  have hA : s.heap.size ≤ H.size := Nat.le_trans hA (Nat.le_of_eq z9.symm)
  have hw0 := hw0.kept (o9 _ hny0)
  have hw1 := hw1.kept (o9 _ hny1)
  have ha : ecA G y (eO 6 [.int 0, .int 0, .int 24, .int 0, .ref a0, .ref a1, .int 0, .null, .null, .null, .null, .null, .null, .int 0, .null, .null, .null, .null, .int 0, .null, .null, .null, .null, .null]) H := h9
  refine lv_aload_n hC.1 hC.2.1 dX6_init_24 rfl (lv_at hl 0 rfl) ?_
  refine lv_bipush (v := 40) hC.1 hC.2.1 dX6_init_25 (by decide) ?_
  have hl1 := hw1.lt
  refine ec_newI hC hK hS q436 40 rfl (Nat.lt_of_sub_pos (by decide)) (Nat.le_of_ble_eq_true rfl) (Nat.le_of_ble_eq_true rfl) dX6_init_27 (fun a2 H ae2 hw2 hk0 hS hz0 => ?_)
  have hs2 : s.heap.size ≤ a2 := by rw [ae2]; exact hA
  have hny2 : a2 ≠ y := Nat.ne_of_gt (Nat.lt_of_lt_of_le hyl hs2)
  have hlt2 : a1 < a2 := by rw [ae2]; exact hl1
  clear ae2
  have ha := ha.kp hk0
  have hA : s.heap.size ≤ H.size := Nat.le_trans hA hk0.1
  have hw0 := hw0.kp hk0
  have hw1 := hw1.kp hk0
  refine ec_putF hC hK hS ha hy fX6_20 rfl hname rfl rfl rfl (Nat.le_of_ble_eq_true rfl) dX6_init_29 (fun H locs h9 o9 z9 hS => ?_)
  have hA : s.heap.size ≤ H.size := Nat.le_trans hA (Nat.le_of_eq z9.symm)
  have hw0 := hw0.kept (o9 _ hny0)
  have hw1 := hw1.kept (o9 _ hny1)
  have hw2 := hw2.kept (o9 _ hny2)
  have ha : ecA G y (eO 6 [.int 0, .int 0, .int 24, .int 0, .ref a0, .ref a1, .int 0, .ref a2, .null, .null, .null, .null, .null, .int 0, .null, .null, .null, .null, .int 0, .null, .null, .null, .null, .null]) H := h9
  refine lv_aload_n hC.1 hC.2.1 dX6_init_32 rfl (lv_at hl 0 rfl) ?_
  refine lv_bipush (v := 40) hC.1 hC.2.1 dX6_init_33 (by decide) ?_
  have hl2 := hw2.lt
  refine ec_newI hC hK hS q436 40 rfl (Nat.lt_of_sub_pos (by decide)) (Nat.le_of_ble_eq_true rfl) (Nat.le_of_ble_eq_true rfl) dX6_init_35 (fun a3 H ae3 hw3 hk0 hS hz0 => ?_)
  have hs3 : s.heap.size ≤ a3 := by rw [ae3]; exact hA
  have hny3 : a3 ≠ y := Nat.ne_of_gt (Nat.lt_of_lt_of_le hyl hs3)
  have hlt3 : a2 < a3 := by rw [ae3]; exact hl2
  clear ae3
  have ha := ha.kp hk0
  have hA : s.heap.size ≤ H.size := Nat.le_trans hA hk0.1
  have hw0 := hw0.kp hk0
  have hw1 := hw1.kp hk0
  have hw2 := hw2.kp hk0
  refine ec_putF hC hK hS ha hy fX6_23 rfl hname rfl rfl rfl (Nat.le_of_ble_eq_true rfl) dX6_init_37 (fun H locs h9 o9 z9 hS => ?_)
  have hA : s.heap.size ≤ H.size := Nat.le_trans hA (Nat.le_of_eq z9.symm)
  have hw0 := hw0.kept (o9 _ hny0)
  have hw1 := hw1.kept (o9 _ hny1)
  have hw2 := hw2.kept (o9 _ hny2)
  have hw3 := hw3.kept (o9 _ hny3)
  have ha : ecA G y (eO 6 [.int 0, .int 0, .int 24, .int 0, .ref a0, .ref a1, .int 0, .ref a2, .ref a3, .null, .null, .null, .null, .int 0, .null, .null, .null, .null, .int 0, .null, .null, .null, .null, .null]) H := h9
  refine lv_aload_n hC.1 hC.2.1 dX6_init_40 rfl (lv_at hl 0 rfl) ?_
  refine lv_bipush (v := 40) hC.1 hC.2.1 dX6_init_41 (by decide) ?_
  have hl3 := hw3.lt
  refine ec_newI hC hK hS q436 40 rfl (Nat.lt_of_sub_pos (by decide)) (Nat.le_of_ble_eq_true rfl) (Nat.le_of_ble_eq_true rfl) dX6_init_43 (fun a4 H ae4 hw4 hk0 hS hz0 => ?_)
  have hs4 : s.heap.size ≤ a4 := by rw [ae4]; exact hA
  have hny4 : a4 ≠ y := Nat.ne_of_gt (Nat.lt_of_lt_of_le hyl hs4)
  have hlt4 : a3 < a4 := by rw [ae4]; exact hl3
  clear ae4
  have ha := ha.kp hk0
  have hA : s.heap.size ≤ H.size := Nat.le_trans hA hk0.1
  have hw0 := hw0.kp hk0
  have hw1 := hw1.kp hk0
  have hw2 := hw2.kp hk0
  have hw3 := hw3.kp hk0
  refine ec_putF hC hK hS ha hy fX6_26 rfl hname rfl rfl rfl (Nat.le_of_ble_eq_true rfl) dX6_init_45 (fun H locs h9 o9 z9 hS => ?_)
  have hA : s.heap.size ≤ H.size := Nat.le_trans hA (Nat.le_of_eq z9.symm)
  have hw0 := hw0.kept (o9 _ hny0)
  have hw1 := hw1.kept (o9 _ hny1)
  have hw2 := hw2.kept (o9 _ hny2)
  have hw3 := hw3.kept (o9 _ hny3)
  have hw4 := hw4.kept (o9 _ hny4)
  have ha : ecA G y (eO 6 [.int 0, .int 0, .int 24, .int 0, .ref a0, .ref a1, .int 0, .ref a2, .ref a3, .ref a4, .null, .null, .null, .int 0, .null, .null, .null, .null, .int 0, .null, .null, .null, .null, .null]) H := h9
  refine lv_aload_n hC.1 hC.2.1 dX6_init_48 rfl (lv_at hl 0 rfl) ?_
  refine lv_bipush (v := 40) hC.1 hC.2.1 dX6_init_49 (by decide) ?_
  have hl4 := hw4.lt
  refine ec_newI hC hK hS q436 40 rfl (Nat.lt_of_sub_pos (by decide)) (Nat.le_of_ble_eq_true rfl) (Nat.le_of_ble_eq_true rfl) dX6_init_51 (fun a5 H ae5 hw5 hk0 hS hz0 => ?_)
  have hs5 : s.heap.size ≤ a5 := by rw [ae5]; exact hA
  have hny5 : a5 ≠ y := Nat.ne_of_gt (Nat.lt_of_lt_of_le hyl hs5)
  have hlt5 : a4 < a5 := by rw [ae5]; exact hl4
  clear ae5
  have ha := ha.kp hk0
  have hA : s.heap.size ≤ H.size := Nat.le_trans hA hk0.1
  have hw0 := hw0.kp hk0
  have hw1 := hw1.kp hk0
  have hw2 := hw2.kp hk0
  have hw3 := hw3.kp hk0
  have hw4 := hw4.kp hk0
  refine ec_putF hC hK hS ha hy fX6_29 rfl hname rfl rfl rfl (Nat.le_of_ble_eq_true rfl) dX6_init_53 (fun H locs h9 o9 z9 hS => ?_)
  have hA : s.heap.size ≤ H.size := Nat.le_trans hA (Nat.le_of_eq z9.symm)
  have hw0 := hw0.kept (o9 _ hny0)
  have hw1 := hw1.kept (o9 _ hny1)
  have hw2 := hw2.kept (o9 _ hny2)
  have hw3 := hw3.kept (o9 _ hny3)
  have hw4 := hw4.kept (o9 _ hny4)
  have hw5 := hw5.kept (o9 _ hny5)
  have ha : ecA G y (eO 6 [.int 0, .int 0, .int 24, .int 0, .ref a0, .ref a1, .int 0, .ref a2, .ref a3, .ref a4, .ref a5, .null, .null, .int 0, .null, .null, .null, .null, .int 0, .null, .null, .null, .null, .null]) H := h9
  refine lv_aload_n hC.1 hC.2.1 dX6_init_56 rfl (lv_at hl 0 rfl) ?_
  refine lv_bipush (v := 40) hC.1 hC.2.1 dX6_init_57 (by decide) ?_
  have hl5 := hw5.lt
  refine ec_newI hC hK hS q436 40 rfl (Nat.lt_of_sub_pos (by decide)) (Nat.le_of_ble_eq_true rfl) (Nat.le_of_ble_eq_true rfl) dX6_init_59 (fun a6 H ae6 hw6 hk0 hS hz0 => ?_)
  have hs6 : s.heap.size ≤ a6 := by rw [ae6]; exact hA
  have hny6 : a6 ≠ y := Nat.ne_of_gt (Nat.lt_of_lt_of_le hyl hs6)
  have hlt6 : a5 < a6 := by rw [ae6]; exact hl5
  clear ae6
  have ha := ha.kp hk0
  have hA : s.heap.size ≤ H.size := Nat.le_trans hA hk0.1
  have hw0 := hw0.kp hk0
  have hw1 := hw1.kp hk0
  have hw2 := hw2.kp hk0
  have hw3 := hw3.kp hk0
  have hw4 := hw4.kp hk0
  have hw5 := hw5.kp hk0
  refine ec_putF hC hK hS ha hy fX6_32 rfl hname rfl rfl rfl (Nat.le_of_ble_eq_true rfl) dX6_init_61 (fun H locs h9 o9 z9 hS => ?_)
  have hA : s.heap.size ≤ H.size := Nat.le_trans hA (Nat.le_of_eq z9.symm)
  have hw0 := hw0.kept (o9 _ hny0)
  have hw1 := hw1.kept (o9 _ hny1)
  have hw2 := hw2.kept (o9 _ hny2)
  have hw3 := hw3.kept (o9 _ hny3)
  have hw4 := hw4.kept (o9 _ hny4)
  have hw5 := hw5.kept (o9 _ hny5)
  have hw6 := hw6.kept (o9 _ hny6)
  have ha : ecA G y (eO 6 [.int 0, .int 0, .int 24, .int 0, .ref a0, .ref a1, .int 0, .ref a2, .ref a3, .ref a4, .ref a5, .ref a6, .null, .int 0, .null, .null, .null, .null, .int 0, .null, .null, .null, .null, .null]) H := h9
  refine lv_aload_n hC.1 hC.2.1 dX6_init_64 rfl (lv_at hl 0 rfl) ?_
  refine lv_sipush (v := 160) hC.1 hC.2.1 dX6_init_65 (by decide) ?_
  have hl6 := hw6.lt
  refine ec_newI hC hK hS q436 160 rfl (Nat.lt_of_sub_pos (by decide)) (Nat.le_of_ble_eq_true rfl) (Nat.le_of_ble_eq_true rfl) dX6_init_68 (fun a7 H ae7 hw7 hk0 hS hz0 => ?_)
  have hs7 : s.heap.size ≤ a7 := by rw [ae7]; exact hA
  have hny7 : a7 ≠ y := Nat.ne_of_gt (Nat.lt_of_lt_of_le hyl hs7)
  have hlt7 : a6 < a7 := by rw [ae7]; exact hl6
  clear ae7
  have ha := ha.kp hk0
  have hA : s.heap.size ≤ H.size := Nat.le_trans hA hk0.1
  have hw0 := hw0.kp hk0
  have hw1 := hw1.kp hk0
  have hw2 := hw2.kp hk0
  have hw3 := hw3.kp hk0
  have hw4 := hw4.kp hk0
  have hw5 := hw5.kp hk0
  have hw6 := hw6.kp hk0
  refine ec_putF hC hK hS ha hy fX6_35 rfl hname rfl rfl rfl (Nat.le_of_ble_eq_true rfl) dX6_init_70 (fun H locs h9 o9 z9 hS => ?_)
  have hA : s.heap.size ≤ H.size := Nat.le_trans hA (Nat.le_of_eq z9.symm)
  have hw0 := hw0.kept (o9 _ hny0)
  have hw1 := hw1.kept (o9 _ hny1)
  have hw2 := hw2.kept (o9 _ hny2)
  have hw3 := hw3.kept (o9 _ hny3)
  have hw4 := hw4.kept (o9 _ hny4)
  have hw5 := hw5.kept (o9 _ hny5)
  have hw6 := hw6.kept (o9 _ hny6)
  have hw7 := hw7.kept (o9 _ hny7)
  have ha : ecA G y (eO 6 [.int 0, .int 0, .int 24, .int 0, .ref a0, .ref a1, .int 0, .ref a2, .ref a3, .ref a4, .ref a5, .ref a6, .ref a7, .int 0, .null, .null, .null, .null, .int 0, .null, .null, .null, .null, .null]) H := h9
  refine lv_aload_n hC.1 hC.2.1 dX6_init_73 rfl (lv_at hl 0 rfl) ?_
  refine lv_bipush (v := 20) hC.1 hC.2.1 dX6_init_74 (by decide) ?_
  have hl7 := hw7.lt
  refine ec_newI hC hK hS q436 20 rfl (Nat.lt_of_sub_pos (by decide)) (Nat.le_of_ble_eq_true rfl) (Nat.le_of_ble_eq_true rfl) dX6_init_76 (fun a8 H ae8 hw8 hk0 hS hz0 => ?_)
  have hs8 : s.heap.size ≤ a8 := by rw [ae8]; exact hA
  have hny8 : a8 ≠ y := Nat.ne_of_gt (Nat.lt_of_lt_of_le hyl hs8)
  have hlt8 : a7 < a8 := by rw [ae8]; exact hl7
  clear ae8
  have ha := ha.kp hk0
  have hA : s.heap.size ≤ H.size := Nat.le_trans hA hk0.1
  have hw0 := hw0.kp hk0
  have hw1 := hw1.kp hk0
  have hw2 := hw2.kp hk0
  have hw3 := hw3.kp hk0
  have hw4 := hw4.kp hk0
  have hw5 := hw5.kp hk0
  have hw6 := hw6.kp hk0
  have hw7 := hw7.kp hk0
  refine ec_putF hC hK hS ha hy fX6_38 rfl hname rfl rfl rfl (Nat.le_of_ble_eq_true rfl) dX6_init_78 (fun H locs h9 o9 z9 hS => ?_)
  have hA : s.heap.size ≤ H.size := Nat.le_trans hA (Nat.le_of_eq z9.symm)
  have hw0 := hw0.kept (o9 _ hny0)
  have hw1 := hw1.kept (o9 _ hny1)
  have hw2 := hw2.kept (o9 _ hny2)
  have hw3 := hw3.kept (o9 _ hny3)
  have hw4 := hw4.kept (o9 _ hny4)
  have hw5 := hw5.kept (o9 _ hny5)
  have hw6 := hw6.kept (o9 _ hny6)
  have hw7 := hw7.kept (o9 _ hny7)
  have hw8 := hw8.kept (o9 _ hny8)
  have ha : ecA G y (eO 6 [.int 0, .int 0, .int 24, .int 0, .ref a0, .ref a1, .int 0, .ref a2, .ref a3, .ref a4, .ref a5, .ref a6, .ref a7, .int 0, .ref a8, .null, .null, .null, .int 0, .null, .null, .null, .null, .null]) H := h9
  refine lv_aload_n hC.1 hC.2.1 dX6_init_81 rfl (lv_at hl 0 rfl) ?_
  refine lv_bipush (v := 120) hC.1 hC.2.1 dX6_init_82 (by decide) ?_
  have hl8 := hw8.lt
  refine ec_newJ hC hK hS q523 120 rfl (Nat.lt_of_sub_pos (by decide)) (Nat.le_of_ble_eq_true rfl) (Nat.le_of_ble_eq_true rfl) dX6_init_84 (fun a9 H ae9 hw9 hk0 hS hz0 => ?_)
  have hs9 : s.heap.size ≤ a9 := by rw [ae9]; exact hA
  have hny9 : a9 ≠ y := Nat.ne_of_gt (Nat.lt_of_lt_of_le hyl hs9)
  have hlt9 : a8 < a9 := by rw [ae9]; exact hl8
  clear ae9
  have ha := ha.kp hk0
  have hA : s.heap.size ≤ H.size := Nat.le_trans hA hk0.1
  have hw0 := hw0.kp hk0
  have hw1 := hw1.kp hk0
  have hw2 := hw2.kp hk0
  have hw3 := hw3.kp hk0
  have hw4 := hw4.kp hk0
  have hw5 := hw5.kp hk0
  have hw6 := hw6.kp hk0
  have hw7 := hw7.kp hk0
  have hw8 := hw8.kp hk0
  refine ec_putF hC hK hS ha hy fX6_41 rfl hname rfl rfl rfl (Nat.le_of_ble_eq_true rfl) dX6_init_86 (fun H locs h9 o9 z9 hS => ?_)
  have hA : s.heap.size ≤ H.size := Nat.le_trans hA (Nat.le_of_eq z9.symm)
  have hw0 := hw0.kept (o9 _ hny0)
  have hw1 := hw1.kept (o9 _ hny1)
  have hw2 := hw2.kept (o9 _ hny2)
  have hw3 := hw3.kept (o9 _ hny3)
  have hw4 := hw4.kept (o9 _ hny4)
  have hw5 := hw5.kept (o9 _ hny5)
  have hw6 := hw6.kept (o9 _ hny6)
  have hw7 := hw7.kept (o9 _ hny7)
  have hw8 := hw8.kept (o9 _ hny8)
  have hw9 := hw9.kept (o9 _ hny9)
  have ha : ecA G y (eO 6 [.int 0, .int 0, .int 24, .int 0, .ref a0, .ref a1, .int 0, .ref a2, .ref a3, .ref a4, .ref a5, .ref a6, .ref a7, .int 0, .ref a8, .ref a9, .null, .null, .int 0, .null, .null, .null, .null, .null]) H := h9
  refine lv_aload_n hC.1 hC.2.1 dX6_init_89 rfl (lv_at hl 0 rfl) ?_
  refine lv_bipush (v := 120) hC.1 hC.2.1 dX6_init_90 (by decide) ?_
  have hl9 := hw9.lt
  refine ec_newI hC hK hS q436 120 rfl (Nat.lt_of_sub_pos (by decide)) (Nat.le_of_ble_eq_true rfl) (Nat.le_of_ble_eq_true rfl) dX6_init_92 (fun a10 H ae10 hw10 hk0 hS hz0 => ?_)
  have hs10 : s.heap.size ≤ a10 := by rw [ae10]; exact hA
  have hny10 : a10 ≠ y := Nat.ne_of_gt (Nat.lt_of_lt_of_le hyl hs10)
  have hlt10 : a9 < a10 := by rw [ae10]; exact hl9
  clear ae10
  have ha := ha.kp hk0
  have hA : s.heap.size ≤ H.size := Nat.le_trans hA hk0.1
  have hw0 := hw0.kp hk0
  have hw1 := hw1.kp hk0
  have hw2 := hw2.kp hk0
  have hw3 := hw3.kp hk0
  have hw4 := hw4.kp hk0
  have hw5 := hw5.kp hk0
  have hw6 := hw6.kp hk0
  have hw7 := hw7.kp hk0
  have hw8 := hw8.kp hk0
  have hw9 := hw9.kp hk0
  refine ec_putF hC hK hS ha hy fX6_45 rfl hname rfl rfl rfl (Nat.le_of_ble_eq_true rfl) dX6_init_94 (fun H locs h9 o9 z9 hS => ?_)
  have hA : s.heap.size ≤ H.size := Nat.le_trans hA (Nat.le_of_eq z9.symm)
  have hw0 := hw0.kept (o9 _ hny0)
  have hw1 := hw1.kept (o9 _ hny1)
  have hw2 := hw2.kept (o9 _ hny2)
  have hw3 := hw3.kept (o9 _ hny3)
  have hw4 := hw4.kept (o9 _ hny4)
  have hw5 := hw5.kept (o9 _ hny5)
  have hw6 := hw6.kept (o9 _ hny6)
  have hw7 := hw7.kept (o9 _ hny7)
  have hw8 := hw8.kept (o9 _ hny8)
  have hw9 := hw9.kept (o9 _ hny9)
  have hw10 := hw10.kept (o9 _ hny10)
  have ha : ecA G y (eO 6 [.int 0, .int 0, .int 24, .int 0, .ref a0, .ref a1, .int 0, .ref a2, .ref a3, .ref a4, .ref a5, .ref a6, .ref a7, .int 0, .ref a8, .ref a9, .ref a10, .null, .int 0, .null, .null, .null, .null, .null]) H := h9
  refine lv_aload_n hC.1 hC.2.1 dX6_init_97 rfl (lv_at hl 0 rfl) ?_
  refine lv_bipush (v := 20) hC.1 hC.2.1 dX6_init_98 (by decide) ?_
  have hl10 := hw10.lt
  refine ec_newI hC hK hS q436 20 rfl (Nat.lt_of_sub_pos (by decide)) (Nat.le_of_ble_eq_true rfl) (Nat.le_of_ble_eq_true rfl) dX6_init_100 (fun a11 H ae11 hw11 hk0 hS hz0 => ?_)
  have hs11 : s.heap.size ≤ a11 := by rw [ae11]; exact hA
  have hny11 : a11 ≠ y := Nat.ne_of_gt (Nat.lt_of_lt_of_le hyl hs11)
  have hlt11 : a10 < a11 := by rw [ae11]; exact hl10
  clear ae11
  have ha := ha.kp hk0
  have hA : s.heap.size ≤ H.size := Nat.le_trans hA hk0.1
  have hw0 := hw0.kp hk0
  have hw1 := hw1.kp hk0
  have hw2 := hw2.kp hk0
  have hw3 := hw3.kp hk0
  have hw4 := hw4.kp hk0
  have hw5 := hw5.kp hk0
  have hw6 := hw6.kp hk0
  have hw7 := hw7.kp hk0
  have hw8 := hw8.kp hk0
  have hw9 := hw9.kp hk0
  have hw10 := hw10.kp hk0
  refine ec_putF hC hK hS ha hy fX6_48 rfl hname rfl rfl rfl (Nat.le_of_ble_eq_true rfl) dX6_init_102 (fun H locs h9 o9 z9 hS => ?_)
  have hA : s.heap.size ≤ H.size := Nat.le_trans hA (Nat.le_of_eq z9.symm)
  have hw0 := hw0.kept (o9 _ hny0)
  have hw1 := hw1.kept (o9 _ hny1)
  have hw2 := hw2.kept (o9 _ hny2)
  have hw3 := hw3.kept (o9 _ hny3)
  have hw4 := hw4.kept (o9 _ hny4)
  have hw5 := hw5.kept (o9 _ hny5)
  have hw6 := hw6.kept (o9 _ hny6)
  have hw7 := hw7.kept (o9 _ hny7)
  have hw8 := hw8.kept (o9 _ hny8)
  have hw9 := hw9.kept (o9 _ hny9)
  have hw10 := hw10.kept (o9 _ hny10)
  have hw11 := hw11.kept (o9 _ hny11)
  have ha : ecA G y (eO 6 [.int 0, .int 0, .int 24, .int 0, .ref a0, .ref a1, .int 0, .ref a2, .ref a3, .ref a4, .ref a5, .ref a6, .ref a7, .int 0, .ref a8, .ref a9, .ref a10, .ref a11, .int 0, .null, .null, .null, .null, .null]) H := h9
  refine lv_aload_n hC.1 hC.2.1 dX6_init_105 rfl (lv_at hl 0 rfl) ?_
  refine lv_bipush (v := 16) hC.1 hC.2.1 dX6_init_106 (by decide) ?_
  have hl11 := hw11.lt
  refine ec_newI hC hK hS q436 16 rfl (Nat.lt_of_sub_pos (by decide)) (Nat.le_of_ble_eq_true rfl) (Nat.le_of_ble_eq_true rfl) dX6_init_108 (fun a12 H ae12 hw12 hk0 hS hz0 => ?_)
  have hs12 : s.heap.size ≤ a12 := by rw [ae12]; exact hA
  have hny12 : a12 ≠ y := Nat.ne_of_gt (Nat.lt_of_lt_of_le hyl hs12)
  have hlt12 : a11 < a12 := by rw [ae12]; exact hl11
  clear ae12
  have ha := ha.kp hk0
  have hA : s.heap.size ≤ H.size := Nat.le_trans hA hk0.1
  have hw0 := hw0.kp hk0
  have hw1 := hw1.kp hk0
  have hw2 := hw2.kp hk0
  have hw3 := hw3.kp hk0
  have hw4 := hw4.kp hk0
  have hw5 := hw5.kp hk0
  have hw6 := hw6.kp hk0
  have hw7 := hw7.kp hk0
  have hw8 := hw8.kp hk0
  have hw9 := hw9.kp hk0
  have hw10 := hw10.kp hk0
  have hw11 := hw11.kp hk0
  refine ec_putF hC hK hS ha hy fX6_51 rfl hname rfl rfl rfl (Nat.le_of_ble_eq_true rfl) dX6_init_110 (fun H locs h9 o9 z9 hS => ?_)
  have hA : s.heap.size ≤ H.size := Nat.le_trans hA (Nat.le_of_eq z9.symm)
  have hw0 := hw0.kept (o9 _ hny0)
  have hw1 := hw1.kept (o9 _ hny1)
  have hw2 := hw2.kept (o9 _ hny2)
  have hw3 := hw3.kept (o9 _ hny3)
  have hw4 := hw4.kept (o9 _ hny4)
  have hw5 := hw5.kept (o9 _ hny5)
  have hw6 := hw6.kept (o9 _ hny6)
  have hw7 := hw7.kept (o9 _ hny7)
  have hw8 := hw8.kept (o9 _ hny8)
  have hw9 := hw9.kept (o9 _ hny9)
  have hw10 := hw10.kept (o9 _ hny10)
  have hw11 := hw11.kept (o9 _ hny11)
  have hw12 := hw12.kept (o9 _ hny12)
  have ha : ecA G y (eO 6 [.int 0, .int 0, .int 24, .int 0, .ref a0, .ref a1, .int 0, .ref a2, .ref a3, .ref a4, .ref a5, .ref a6, .ref a7, .int 0, .ref a8, .ref a9, .ref a10, .ref a11, .int 0, .ref a12, .null, .null, .null, .null]) H := h9
  refine lv_aload_n hC.1 hC.2.1 dX6_init_113 rfl (lv_at hl 0 rfl) ?_
  refine lv_bipush (v := 16) hC.1 hC.2.1 dX6_init_114 (by decide) ?_
  have hl12 := hw12.lt
  refine ec_newI hC hK hS q436 16 rfl (Nat.lt_of_sub_pos (by decide)) (Nat.le_of_ble_eq_true rfl) (Nat.le_of_ble_eq_true rfl) dX6_init_116 (fun a13 H ae13 hw13 hk0 hS hz0 => ?_)
  have hs13 : s.heap.size ≤ a13 := by rw [ae13]; exact hA
  have hny13 : a13 ≠ y := Nat.ne_of_gt (Nat.lt_of_lt_of_le hyl hs13)
  have hlt13 : a12 < a13 := by rw [ae13]; exact hl12
  clear ae13
  have ha := ha.kp hk0
  have hA : s.heap.size ≤ H.size := Nat.le_trans hA hk0.1
  have hw0 := hw0.kp hk0
  have hw1 := hw1.kp hk0
  have hw2 := hw2.kp hk0
  have hw3 := hw3.kp hk0
  have hw4 := hw4.kp hk0
  have hw5 := hw5.kp hk0
  have hw6 := hw6.kp hk0
  have hw7 := hw7.kp hk0
  have hw8 := hw8.kp hk0
  have hw9 := hw9.kp hk0
  have hw10 := hw10.kp hk0
  have hw11 := hw11.kp hk0
  have hw12 := hw12.kp hk0
  refine ec_putF hC hK hS ha hy fX6_54 rfl hname rfl rfl rfl (Nat.le_of_ble_eq_true rfl) dX6_init_118 (fun H locs h9 o9 z9 hS => ?_)
  have hA : s.heap.size ≤ H.size := Nat.le_trans hA (Nat.le_of_eq z9.symm)
  have hw0 := hw0.kept (o9 _ hny0)
  have hw1 := hw1.kept (o9 _ hny1)
  have hw2 := hw2.kept (o9 _ hny2)
  have hw3 := hw3.kept (o9 _ hny3)
  have hw4 := hw4.kept (o9 _ hny4)
  have hw5 := hw5.kept (o9 _ hny5)
  have hw6 := hw6.kept (o9 _ hny6)
  have hw7 := hw7.kept (o9 _ hny7)
  have hw8 := hw8.kept (o9 _ hny8)
  have hw9 := hw9.kept (o9 _ hny9)
  have hw10 := hw10.kept (o9 _ hny10)
  have hw11 := hw11.kept (o9 _ hny11)
  have hw12 := hw12.kept (o9 _ hny12)
  have hw13 := hw13.kept (o9 _ hny13)
  have ha : ecA G y (eO 6 [.int 0, .int 0, .int 24, .int 0, .ref a0, .ref a1, .int 0, .ref a2, .ref a3, .ref a4, .ref a5, .ref a6, .ref a7, .int 0, .ref a8, .ref a9, .ref a10, .ref a11, .int 0, .ref a12, .ref a13, .null, .null, .null]) H := h9
  refine lv_aload_n hC.1 hC.2.1 dX6_init_121 rfl (lv_at hl 0 rfl) ?_
  refine lv_bipush (v := 16) hC.1 hC.2.1 dX6_init_122 (by decide) ?_
  have hl13 := hw13.lt
  refine ec_newI hC hK hS q436 16 rfl (Nat.lt_of_sub_pos (by decide)) (Nat.le_of_ble_eq_true rfl) (Nat.le_of_ble_eq_true rfl) dX6_init_124 (fun a14 H ae14 hw14 hk0 hS hz0 => ?_)
  have hs14 : s.heap.size ≤ a14 := by rw [ae14]; exact hA
  have hny14 : a14 ≠ y := Nat.ne_of_gt (Nat.lt_of_lt_of_le hyl hs14)
  have hlt14 : a13 < a14 := by rw [ae14]; exact hl13
  clear ae14
  have ha := ha.kp hk0
  have hA : s.heap.size ≤ H.size := Nat.le_trans hA hk0.1
  have hw0 := hw0.kp hk0
  have hw1 := hw1.kp hk0
  have hw2 := hw2.kp hk0
  have hw3 := hw3.kp hk0
  have hw4 := hw4.kp hk0
  have hw5 := hw5.kp hk0
  have hw6 := hw6.kp hk0
  have hw7 := hw7.kp hk0
  have hw8 := hw8.kp hk0
  have hw9 := hw9.kp hk0
  have hw10 := hw10.kp hk0
  have hw11 := hw11.kp hk0
  have hw12 := hw12.kp hk0
  have hw13 := hw13.kp hk0
  refine ec_putF hC hK hS ha hy fX6_57 rfl hname rfl rfl rfl (Nat.le_of_ble_eq_true rfl) dX6_init_126 (fun H locs h9 o9 z9 hS => ?_)
  have hA : s.heap.size ≤ H.size := Nat.le_trans hA (Nat.le_of_eq z9.symm)
  have hw0 := hw0.kept (o9 _ hny0)
  have hw1 := hw1.kept (o9 _ hny1)
  have hw2 := hw2.kept (o9 _ hny2)
  have hw3 := hw3.kept (o9 _ hny3)
  have hw4 := hw4.kept (o9 _ hny4)
  have hw5 := hw5.kept (o9 _ hny5)
  have hw6 := hw6.kept (o9 _ hny6)
  have hw7 := hw7.kept (o9 _ hny7)
  have hw8 := hw8.kept (o9 _ hny8)
  have hw9 := hw9.kept (o9 _ hny9)
  have hw10 := hw10.kept (o9 _ hny10)
  have hw11 := hw11.kept (o9 _ hny11)
  have hw12 := hw12.kept (o9 _ hny12)
  have hw13 := hw13.kept (o9 _ hny13)
  have hw14 := hw14.kept (o9 _ hny14)
  have ha : ecA G y (eO 6 [.int 0, .int 0, .int 24, .int 0, .ref a0, .ref a1, .int 0, .ref a2, .ref a3, .ref a4, .ref a5, .ref a6, .ref a7, .int 0, .ref a8, .ref a9, .ref a10, .ref a11, .int 0, .ref a12, .ref a13, .ref a14, .null, .null]) H := h9
  refine lv_aload_n hC.1 hC.2.1 dX6_init_129 rfl (lv_at hl 0 rfl) ?_
  refine lv_bipush (v := 16) hC.1 hC.2.1 dX6_init_130 (by decide) ?_
  have hl14 := hw14.lt
  refine ec_newI hC hK hS q436 16 rfl (Nat.lt_of_sub_pos (by decide)) (Nat.le_of_ble_eq_true rfl) (Nat.le_of_ble_eq_true rfl) dX6_init_132 (fun a15 H ae15 hw15 hk0 hS hz0 => ?_)
  have hs15 : s.heap.size ≤ a15 := by rw [ae15]; exact hA
  have hny15 : a15 ≠ y := Nat.ne_of_gt (Nat.lt_of_lt_of_le hyl hs15)
  have hlt15 : a14 < a15 := by rw [ae15]; exact hl14
  clear ae15
  have ha := ha.kp hk0
  have hA : s.heap.size ≤ H.size := Nat.le_trans hA hk0.1
  have hw0 := hw0.kp hk0
  have hw1 := hw1.kp hk0
  have hw2 := hw2.kp hk0
  have hw3 := hw3.kp hk0
  have hw4 := hw4.kp hk0
  have hw5 := hw5.kp hk0
  have hw6 := hw6.kp hk0
  have hw7 := hw7.kp hk0
  have hw8 := hw8.kp hk0
  have hw9 := hw9.kp hk0
  have hw10 := hw10.kp hk0
  have hw11 := hw11.kp hk0
  have hw12 := hw12.kp hk0
  have hw13 := hw13.kp hk0
  have hw14 := hw14.kp hk0
  refine ec_putF hC hK hS ha hy fX6_60 rfl hname rfl rfl rfl (Nat.le_of_ble_eq_true rfl) dX6_init_134 (fun H locs h9 o9 z9 hS => ?_)
  have hA : s.heap.size ≤ H.size := Nat.le_trans hA (Nat.le_of_eq z9.symm)
  have hw0 := hw0.kept (o9 _ hny0)
  have hw1 := hw1.kept (o9 _ hny1)
  have hw2 := hw2.kept (o9 _ hny2)
  have hw3 := hw3.kept (o9 _ hny3)
  have hw4 := hw4.kept (o9 _ hny4)
  have hw5 := hw5.kept (o9 _ hny5)
  have hw6 := hw6.kept (o9 _ hny6)
  have hw7 := hw7.kept (o9 _ hny7)
  have hw8 := hw8.kept (o9 _ hny8)
  have hw9 := hw9.kept (o9 _ hny9)
  have hw10 := hw10.kept (o9 _ hny10)
  have hw11 := hw11.kept (o9 _ hny11)
  have hw12 := hw12.kept (o9 _ hny12)
  have hw13 := hw13.kept (o9 _ hny13)
  have hw14 := hw14.kept (o9 _ hny14)
  have hw15 := hw15.kept (o9 _ hny15)
  have ha : ecA G y (eO 6 [.int 0, .int 0, .int 24, .int 0, .ref a0, .ref a1, .int 0, .ref a2, .ref a3, .ref a4, .ref a5, .ref a6, .ref a7, .int 0, .ref a8, .ref a9, .ref a10, .ref a11, .int 0, .ref a12, .ref a13, .ref a14, .ref a15, .null]) H := h9
  refine lv_aload_n hC.1 hC.2.1 dX6_init_137 rfl (lv_at hl 0 rfl) ?_
  refine lv_bipush (v := 16) hC.1 hC.2.1 dX6_init_138 (by decide) ?_
  have hl15 := hw15.lt
  refine ec_newZ hC hK hS q816 16 rfl (Nat.lt_of_sub_pos (by decide)) (Nat.le_of_ble_eq_true rfl) (Nat.le_of_ble_eq_true rfl) dX6_init_140 (fun a16 H ae16 hw16 hk0 hS hz0 => ?_)
  have hs16 : s.heap.size ≤ a16 := by rw [ae16]; exact hA
  have hny16 : a16 ≠ y := Nat.ne_of_gt (Nat.lt_of_lt_of_le hyl hs16)
  have hlt16 : a15 < a16 := by rw [ae16]; exact hl15
  clear ae16
  have ha := ha.kp hk0
  have hA : s.heap.size ≤ H.size := Nat.le_trans hA hk0.1
  have hw0 := hw0.kp hk0
  have hw1 := hw1.kp hk0
  have hw2 := hw2.kp hk0
  have hw3 := hw3.kp hk0
  have hw4 := hw4.kp hk0
  have hw5 := hw5.kp hk0
  have hw6 := hw6.kp hk0
  have hw7 := hw7.kp hk0
  have hw8 := hw8.kp hk0
  have hw9 := hw9.kp hk0
  have hw10 := hw10.kp hk0
  have hw11 := hw11.kp hk0
  have hw12 := hw12.kp hk0
  have hw13 := hw13.kp hk0
  have hw14 := hw14.kp hk0
  have hw15 := hw15.kp hk0
  refine ec_putF hC hK hS ha hy fX6_63 rfl hname rfl rfl rfl (Nat.le_of_ble_eq_true rfl) dX6_init_142 (fun H locs h9 o9 z9 hS => ?_)
  have hA : s.heap.size ≤ H.size := Nat.le_trans hA (Nat.le_of_eq z9.symm)
  have hw0 := hw0.kept (o9 _ hny0)
  have hw1 := hw1.kept (o9 _ hny1)
  have hw2 := hw2.kept (o9 _ hny2)
  have hw3 := hw3.kept (o9 _ hny3)
  have hw4 := hw4.kept (o9 _ hny4)
  have hw5 := hw5.kept (o9 _ hny5)
  have hw6 := hw6.kept (o9 _ hny6)
  have hw7 := hw7.kept (o9 _ hny7)
  have hw8 := hw8.kept (o9 _ hny8)
  have hw9 := hw9.kept (o9 _ hny9)
  have hw10 := hw10.kept (o9 _ hny10)
  have hw11 := hw11.kept (o9 _ hny11)
  have hw12 := hw12.kept (o9 _ hny12)
  have hw13 := hw13.kept (o9 _ hny13)
  have hw14 := hw14.kept (o9 _ hny14)
  have hw15 := hw15.kept (o9 _ hny15)
  have hw16 := hw16.kept (o9 _ hny16)
  have ha : ecA G y (eO 6 [.int 0, .int 0, .int 24, .int 0, .ref a0, .ref a1, .int 0, .ref a2, .ref a3, .ref a4, .ref a5, .ref a6, .ref a7, .int 0, .ref a8, .ref a9, .ref a10, .ref a11, .int 0, .ref a12, .ref a13, .ref a14, .ref a15, .ref a16]) H := h9
  exact W.vret hC.1 hC.2.1 hr (fun t9 ht9 _ => ⟨_, rfl, by rw [ht9]; exact ⟨rfl, rf_made (Nat.lt_of_lt_of_le hyl hs0) hlt1 hlt2 hlt3 hlt4 hlt5 hlt6 hlt7 hlt8 hlt9 hlt10 hlt11 hlt12 hlt13 hlt14 hlt15 hlt16 ha hw0 hw1 hw2 hw3 hw4 hw5 hw6 hw7 hw8 hw9 hw10 hw11 hw12 hw13 hw14 hw15 hw16 hy (fun q hq => hYs.2 q (hyq q hq))⟩, hS.F ht9⟩) hS.2.2 dX6_init_145
