theorem ec_topi {p : Program} {l : Launch} {e : Env} {R : Room} {s : State} {m : MethodId} {args : Array Value} {below : List Frame} {meth : Method} {c : Code} {H : Heap} {locs : List Loc} {cells slots : Nat} {Q : State → Prop} {pc : Nat} {ls : Array Slot} {rest : List Value} {x y : Int32} (h : x = y) (k : W p l e R s m args below meth c H locs cells slots Q (F0 m pc ls (.int y :: rest))) : W p l e R s m args below meth c H locs cells slots Q (F0 m pc ls (.int x :: rest)) := by
  subst h; exact k
theorem ec_topl {p : Program} {l : Launch} {e : Env} {R : Room} {s : State} {m : MethodId} {args : Array Value} {below : List Frame} {meth : Method} {c : Code} {H : Heap} {locs : List Loc} {cells slots : Nat} {Q : State → Prop} {pc : Nat} {ls : Array Slot} {rest : List Value} {x y : Int64} (h : x = y) (k : W p l e R s m args below meth c H locs cells slots Q (F0 m pc ls (.long y :: rest))) : W p l e R s m args below meth c H locs cells slots Q (F0 m pc ls (.long x :: rest)) := by
  subst h; exact k

theorem qSys : Cond.initialized "java/lang/System" ∈ GW := gw_of 27 (by decide +kernel) rfl
theorem qMax : Cond.code Lib.Math.max.name Lib.Math.max.code 2 (some .int) ∈ GW := gw_of 337 (by decide +kernel) rfl
theorem qMin : Cond.code Lib.Math.min.name Lib.Math.min.code 2 (some .int) ∈ GW := gw_of 369 (by decide +kernel) rfl
/-- a cell that an array of Objects may hold -/
def ecEl (G : ecG) (y : Nat) (H : Heap) : Prop := ∃ (ci : Nat) (fs : List Value) (C : String) (T : u_T) (N : Nat), ecCl[ci]? = some (C, T, N) ∧ (C, "java/lang/Object") ∈ ecCa ∧ ecA G y (eO ci fs) H
theorem ecEl.any {G : ecG} {s : State} {H : Heap} {y : Nat} (h : ecEl G y H) (hK : ecKx G s) : va_Any "java/lang/Object" s H y := by
  obtain ⟨ci, fs, C, T, N, h1, h2, h3⟩ := h
  exact ec_any hK h3 ⟨T, N, h1⟩ h2
theorem ecEl.kp {G : ecG} {H H1 : Heap} {y : Nat} (h : ecEl G y H) (k : ecKp H H1) : ecEl G y H1 := by
  obtain ⟨ci, fs, C, T, N, h1, h2, h3⟩ := h
  exact ⟨ci, fs, C, T, N, h1, h2, h3.kp k⟩
theorem ecEl.kept {G : ecG} {H H1 : Heap} {y : Nat} (h : ecEl G y H) (k : H1[y]? = H[y]?) : ecEl G y H1 := by
  obtain ⟨ci, fs, C, T, N, h1, h2, h3⟩ := h
  exact ⟨ci, fs, C, T, N, h1, h2, h3.kept k⟩
theorem ecEl.lt {G : ecG} {H : Heap} {y : Nat} (h : ecEl G y H) : y < H.size := by
  obtain ⟨ci, fs, C, T, N, h1, h2, h3⟩ := h
  exact h3.lt
section ECCP
variable {p : Program} {l : Launch} {e : Env} {R : Room} {s : State} {m : MethodId} {args : Array Value} {below : List Frame} {meth : Method} {c : Code} {H : Heap} {locs : List Loc} {cells slots : Nat} {Q : State → Prop}
variable {cc : ByteArray} {pc nL : Nat} {ls : Array Slot} {rest : List Value} {G : ecG} {A : Nat → Prop} {own : String}
/-- System.arraycopy of the first n places, from one array of Objects to another (follows the kit's va_copyM) -/
theorem ec_copy (hC : CallFix p m c cc nL s args GW own) (hK : ecKx G s) {H0 : Heap} (hS : va_S A H0 H locs) {index : Nat} (hlink : Cond.methodLink own index arraycopyName ∈ GW) {a0 a n0 n1 : Nat} {f g : Nat → Option Nat} (ha0 : ecA G a0 (eQ G n0 f) H) (ha1 : ecA G a (eQ G n1 g) H) (hA : A a) (n : Nat) (hn : n < 2 ^ 31) (h4 : n ≤ n0) (h5 : n ≤ n1) (hel : ∀ i : Nat, i < n → ∀ y : Nat, f i = some y → ecEl G y H)
    (hls : ls.size = nL) (hframes : 1 ≤ R.frames) (hlocals : (rest.map fun v => v.category).sum + (nativeFrameWords "java/lang/System" "arraycopy" 5 + 11) ≤ R.locals) (hdg : decode cc pc = .ok (.invokestatic index, 3))
    (kk : ∀ (H1 : Heap) (locs1 : List Loc), ecA G a (eQ G n1 (va_cpy f g 0 0 n)) H1 → (∀ q : Nat, q ≠ a → H1[q]? = H[q]?) → H1.size = H.size → va_S A H0 H1 locs1 → W p l e R s m args below meth c H1 locs1 cells slots Q (F0 m (pc + 3) ls rest)) : W p l e R s m args below meth c H locs cells slots Q (F0 m pc ls (.int (nI n) :: .int 0 :: .ref a :: .int 0 :: .ref a0 :: rest)) := by
  have hcl : (nI n).toNatClampNeg = n := nI_clamp hn
  have hti : (nI n).toInt = (n : Int) := nI_toInt hn
  have hts := hC.2.2.2.2
  intro T hT X
  have hc0 : H[a0]? = some (vp_cell (G.2.1 3) (n0, .inr (.inr (.inr (.inr f))))) := ha0
  have hc1 : H[a]? = some (vp_cell (G.2.1 3) (n1, .inr (.inr (.inr (.inr g))))) := ha1
  obtain ⟨-, k0, hk0, cm0, hkk0⟩ := (hK.1.2 3 _ rfl).1 n0 (fun j => va_rf (f j))
  obtain ⟨-, k1, hk1, cm1, hkk1⟩ := (hK.1.2 3 _ rfl).1 n1 (fun j => va_rf (g j))
  obtain ⟨vm', X', step⟩ := X.arraycopy hC.1 hC.2.2.2.1 (hts _ hlink) (hts _ q359) (hts _ q358) (hts _ qSys) (src := a0) (dst := a) (cs := vp_cell (G.2.1 3) (n0, .inr (.inr (.inr (.inr f))))) (cd := vp_cell (G.2.1 3) (n1, .inr (.inr (.inr (.inr g))))) (srcPos := 0) (destPos := 0) (n := nI n) (by rw [hT]; exact hc0) (by rw [hT]; exact hc1)
    (fun _ h => by cases h) (fun _ h => by cases h) (fun h => by cases h) (fun h => by cases h) hk0 hk1 hkk0 hkk1 rfl (by decide) (by decide) (nI_pos hn)
    (by rw [hti]; show ¬ (0 : Int32).toInt + _ > ((arrV (G.2.1 3) n0 (fun j => va_rf (f j))).slots.size : Int); rw [arrV_size, Int32.toInt_zero]; omega)
    (by rw [hti]; show ¬ (0 : Int32).toInt + _ > ((arrV (G.2.1 3) n1 (fun j => va_rf (g j))).slots.size : Int); rw [arrV_size, Int32.toInt_zero]; omega)
    (fun vm₁ hal i hi => by
      rw [hcl] at hi
      have e : (vp_cell (G.2.1 3) (n0, .inr (.inr (.inr (.inr f))))).slots.getD ((0 : Int32).toNatClampNeg + i) .null = va_rf (f i) := by
        show (arrV (G.2.1 3) n0 (fun j => va_rf (f j))).slots.getD _ _ = _
        rw [sb_cl0, Nat.zero_add, Array.getD_eq_getD_getElem?, arrV_read _ _ (by omega)]
        rfl
      rw [e]
      cases hy : f i with
      | none => exact ⟨rfl, trivial⟩
      | some y =>
        obtain ⟨cellV, g1, g2, ⟨kC, hkC⟩, hasg⟩ := (hel i hi y hy).any hK
        obtain ⟨kA, comp, r1, r2, r3, -⟩ := (hK.1.2 3 _ rfl).2
        cases hk1.symm.trans r1
        cases hkk1.symm.trans r2
        obtain ⟨kE, hkE, -⟩ := Vm.findClass_spec r3
        obtain ⟨kC', hkC', -⟩ := hal.2.2 _ _ hkC
        obtain ⟨kE', hkE', -⟩ := hal.2.2 _ _ hkE
        refine ⟨rfl, cellV, (show T.heap[y]? = some cellV by rw [hT]; exact g1), (fun q h => by rw [h] at g2; cases g2), ⟨kC', hkC'⟩, ?_, ?_⟩
        · exact ⟨kE', hkE'⟩
        · show vm₁.assignable _ _ = true
          rw [hal.assignable]
          exact hasg _ r3)
    (g := F0 m pc ls (.int (nI n) :: .int 0 :: .ref a :: .int 0 :: .ref a0 :: rest)) rfl (by rw [hC.2.2.1]; exact hls) (rest := rest) rfl (by rw [hC.2.1]; exact hdg) hframes (by show 2 * 0 + _ + _ ≤ _; omega)
  have e1 : copied (vp_cell (G.2.1 3) (n0, .inr (.inr (.inr (.inr f))))) (vp_cell (G.2.1 3) (n1, .inr (.inr (.inr (.inr g))))) 0 0 (nI n) = vp_cell (G.2.1 3) (n1, .inr (.inr (.inr (.inr (va_cpy f g 0 0 n))))) := by
    rw [vp_cell_q, vp_cell_q, vp_cell_q]
    have h9 := va_copied (fun z => va_rf z) (G.2.1 3) (G.2.1 3) f g (n0 := n0) (n1 := n1) (sp := (0 : Int32).toNatClampNeg) (dp := (0 : Int32).toNatClampNeg) (n := (nI n).toNatClampNeg) (by rw [hcl, sb_cl0]; omega)
    have h10 : copied (arrV (G.2.1 3) n0 (fun j => va_rf (f j))) (arrV (G.2.1 3) n1 (fun j => va_rf (g j))) 0 0 (nI n) = arrV (G.2.1 3) n1 (fun j => va_rf (va_cpy f g (0 : Int32).toNatClampNeg (0 : Int32).toNatClampNeg (nI n).toNatClampNeg j)) := h9
    rw [hcl, sb_cl0] at h10
    exact h10
  rw [e1] at X' step
  have hl : a < H.size := (Array.getElem?_eq_some_iff.mp hc1).1
  generalize hE : vp_cell (G.2.1 3) (n1, .inr (.inr (.inr (.inr (va_cpy f g 0 0 n))))) = E9 at X' step
  have hheap : ((T.setVm vm').setCell a E9).heap = H.setIfInBounds a E9 := by rw [← hT]; rfl
  have oq : ∀ q : Nat, q ≠ a → (H.setIfInBounds a E9)[q]? = H[q]? := fun q hq => by simp [Array.getElem?_setIfInBounds, Ne.symm hq]
  obtain ⟨t, a1, b1⟩ := kk _ _ (show (H.setIfInBounds a E9)[a]? = some _ by rw [hE]; simp [Array.getElem?_setIfInBounds, hl]) oq (by simp) ⟨by simp; exact hS.1, fun q g1 g2 => by
      rw [oq q (fun e => g2 (by rw [e]; exact hA))]
      exact hS.2.1 q g1 g2, fun q hq => by
      rcases List.mem_append.mp hq with h | h
      · exact hS.2.2 q h
      · obtain ⟨z, -, hz⟩ := List.mem_map.mp h
        rw [← hz]
        exact hA⟩ _ hheap X'
  exact ⟨t, step t a1, b1⟩
end ECCP

set_option maxHeartbeats 4000000 in
set_option maxRecDepth 100000 in
/-- an index in range -/
theorem c_J3_checkIndex_8e157 (l : Launch) (G : ecG) (i n : Nat) (hi : i < n) (hn : n < 2 ^ 31) : Met l yJ3_checkIndex_8e157 (ecWs yJ3_checkIndex_8e157 cJ3_checkIndex_8e157 3 (Option.some FieldType.int)) (ecRm 1 0 0) (ecPc [.int (nI i), .int (nI n), .null] G (fun H => True)) (ecRp (fun v => v = some (.int (nI i)))) 0 0 (fun _ => False) := by
  refine ec_met (by decide) (Nat.le_of_ble_eq_true rfl) ?_
  intro p e s m below meth c hC hr hlocks hname hOk hpre ls hl
  have hK := hOk.1
  have hS : va_S (fun _ => False) s.heap s.heap [] := va_S.rf
  have hAN : ∀ q, (fun _ : Nat => False) q → ecN0 G ≤ q := fun _ h => h.elim
  have hl : lv_has ls 3 [(0, .int (nI i)), (1, .int (nI n)), (2, .null)] := hl
  refine lv_iload_n hC.1 hC.2.1 dJ3_checkIndex_8e157_0 rfl (lv_at hl 0 rfl) ?_
  refine lv_if_lt (tgt := 9) hC.1 hC.2.1 dJ3_checkIndex_8e157_1 (by decide) (fun c => absurd c (nI_pos (by omega))) (fun c_1 => ?_)
  refine lv_iload_n hC.1 hC.2.1 dJ3_checkIndex_8e157_4 rfl (lv_at hl 0 rfl) ?_
  refine lv_iload_n hC.1 hC.2.1 dJ3_checkIndex_8e157_5 rfl (lv_at hl 1 rfl) ?_
  refine lv_icmp_lt (tgt := 16) hC.1 hC.2.1 dJ3_checkIndex_8e157_6 (by decide) (fun c_6 => ?_) (fun c => absurd (nI_lt hi hn) c)
  refine lv_iload_n hC.1 hC.2.1 dJ3_checkIndex_8e157_16 rfl (lv_at hl 0 rfl) ?_
  exact W.iret hC.1 hC.2.1 hr (fun t9 ht9 _ => ⟨_, rfl, rfl, ht9⟩) hS.2.2 dJ3_checkIndex_8e157_17

set_option maxHeartbeats 4000000 in
set_option maxRecDepth 100000 in
/-- an index in range -/
theorem c_J15_checkIndex_7cf53 (l : Launch) (G : ecG) (i n : Nat) (hi : i < n) (hn : n < 2 ^ 31) : Met l yJ15_checkIndex_7cf53 (ecWs yJ15_checkIndex_7cf53 cJ15_checkIndex_7cf53 2 (Option.some FieldType.int)) (ecRm 2 0 0) (ecPc [.int (nI i), .int (nI n)] G (fun H => True)) (ecRp (fun v => v = some (.int (nI i)))) 0 0 (fun _ => False) := by
  refine ec_met (by decide) (Nat.le_of_ble_eq_true rfl) ?_
  intro p e s m below meth c hC hr hlocks hname hOk hpre ls hl
  have hK := hOk.1
  have hS : va_S (fun _ => False) s.heap s.heap [] := va_S.rf
  have hAN : ∀ q, (fun _ : Nat => False) q → ecN0 G ≤ q := fun _ h => h.elim
  have hl : lv_has ls 2 [(0, .int (nI i)), (1, .int (nI n))] := hl
  refine lv_iload_n hC.1 hC.2.1 dJ15_checkIndex_7cf53_0 rfl (lv_at hl 0 rfl) ?_
  refine lv_iload_n hC.1 hC.2.1 dJ15_checkIndex_7cf53_1 rfl (lv_at hl 1 rfl) ?_
  refine lv_null hC.1 hC.2.1 dJ15_checkIndex_7cf53_2 ?_
  refine ec_go1 (ec_rS hC (c_J3_checkIndex_8e157 l G i n hi hn) kJ15_105 (hOk.at hS hAN) trivial hl.1 ⟨Nat.le_of_ble_eq_true rfl, Nat.le_of_ble_eq_true rfl⟩ rfl (Nat.le_of_ble_eq_true rfl) dJ15_checkIndex_7cf53_3 ⟨Nat.le_of_ble_eq_true rfl, Nat.le_of_ble_eq_true rfl⟩) ?_
  exact W.iret hC.1 hC.2.1 hr (fun t9 ht9 _ => ⟨_, rfl, rfl, ht9⟩) hS.2.2 dJ15_checkIndex_7cf53_6

set_option maxHeartbeats 4000000 in
set_option maxRecDepth 100000 in
/-- a list its size -/
theorem c_Jx4a65c_size_8abf5 (l : Launch) (G : ecG) (a : Nat) (v0 v1 : Value) (n : Int32) : Met l yJx4a65c_size_8abf5 (ecWs yJx4a65c_size_8abf5 cJx4a65c_size_8abf5 1 (Option.some FieldType.int)) (ecRm 1 0 0) (ecPc [.ref a] G (fun H => ecA G a (eO 7 [v0, v1, .int n]) H)) (ecRp (fun v => v = some (.int n))) 0 0 (fun _ => False) := by
  refine ec_met (by decide) (Nat.le_of_ble_eq_true rfl) ?_
  intro p e s m below meth c hC hr hlocks hname hOk hpre ls hl
  have hK := hOk.1
  have ha := hpre
  have hS : va_S (fun _ => False) s.heap s.heap [] := va_S.rf
  have hAN : ∀ q, (fun _ : Nat => False) q → ecN0 G ≤ q := fun _ h => h.elim
  have hl : lv_has ls 1 [(0, .ref a)] := hl
  refine lv_aload_n hC.1 hC.2.1 dJx4a65c_size_8abf5_0 rfl (lv_at hl 0 rfl) ?_
  refine ec_get hC hK ha fJx4a65c_48 rfl dJx4a65c_size_8abf5_1 ?_
  exact W.iret hC.1 hC.2.1 hr (fun t9 ht9 _ => ⟨_, rfl, rfl, ht9⟩) hS.2.2 dJx4a65c_size_8abf5_4

set_option maxHeartbeats 4000000 in
set_option maxRecDepth 100000 in
/-- a list, an element -/
theorem c_Jx4a65c_elementData_915e3 (l : Launch) (G : ecG) (a b i cap : Nat) (v0 v2 : Value) (g : Nat → Option Nat) (hi : i < cap) (hcap : cap < 2 ^ 31) : Met l yJx4a65c_elementData_915e3 (ecWs yJx4a65c_elementData_915e3 cJx4a65c_elementData_915e3 2 (Option.some (FieldType.object "java/lang/Object"))) (ecRm 1 0 0) (ecPc [.ref a, .int (nI i)] G (fun H => ecA G a (eO 7 [v0, .ref b, v2]) H ∧ ecA G b (eQ G cap g) H)) (ecRp (fun v => v = some (va_rf (g i)))) 0 0 (fun _ => False) := by
  refine ec_met (by decide) (Nat.le_of_ble_eq_true rfl) ?_
  intro p e s m below meth c hC hr hlocks hname hOk hpre ls hl
  have hK := hOk.1
  obtain ⟨ha, hb⟩ := hpre
  have hS : va_S (fun _ => False) s.heap s.heap [] := va_S.rf
  have hAN : ∀ q, (fun _ : Nat => False) q → ecN0 G ≤ q := fun _ h => h.elim
  have hl : lv_has ls 2 [(0, .ref a), (1, .int (nI i))] := hl
  refine lv_aload_n hC.1 hC.2.1 dJx4a65c_elementData_915e3_0 rfl (lv_at hl 0 rfl) ?_
  refine ec_get hC hK ha fJx4a65c_9 rfl dJx4a65c_elementData_915e3_1 ?_
  refine lv_iload_n hC.1 hC.2.1 dJx4a65c_elementData_915e3_4 rfl (lv_at hl 1 rfl) ?_
  refine ec_aldq hC hK hb i rfl hi hcap dJx4a65c_elementData_915e3_5 ?_
  exact W.aret hC.1 hC.2.1 hr (Or.inl ⟨_, rfl⟩) (va_rf_or _) (fun t9 ht9 _ => ⟨_, rfl, rfl, ht9⟩) hS.2.2 dJx4a65c_elementData_915e3_6

set_option maxHeartbeats 4000000 in
set_option maxRecDepth 100000 in
/-- a list, an element -/
theorem c_Jx4a65c_get_915e3 (l : Launch) (G : ecG) (a b i n cap : Nat) (v0 : Value) (g : Nat → Option Nat) (hi : i < n) (hn : n ≤ cap) (hcap : cap < 2 ^ 31) : Met l yJx4a65c_get_915e3 (ecWs yJx4a65c_get_915e3 cJx4a65c_get_915e3 2 (Option.some (FieldType.object "java/lang/Object"))) (ecRm 3 0 0) (ecPc [.ref a, .int (nI i)] G (fun H => ecA G a (eO 7 [v0, .ref b, .int (nI n)]) H ∧ ecA G b (eQ G cap g) H)) (ecRp (fun v => v = some (va_rf (g i)))) 0 0 (fun _ => False) := by
  refine ec_met (by decide) (Nat.le_of_ble_eq_true rfl) ?_
  intro p e s m below meth c hC hr hlocks hname hOk hpre ls hl
  have hK := hOk.1
  obtain ⟨ha, hb⟩ := hpre
  have hS : va_S (fun _ => False) s.heap s.heap [] := va_S.rf
  have hAN : ∀ q, (fun _ : Nat => False) q → ecN0 G ≤ q := fun _ h => h.elim
  have hl : lv_has ls 2 [(0, .ref a), (1, .int (nI i))] := hl
  refine lv_iload_n hC.1 hC.2.1 dJx4a65c_get_915e3_0 rfl (lv_at hl 1 rfl) ?_
  refine lv_aload_n hC.1 hC.2.1 dJx4a65c_get_915e3_1 rfl (lv_at hl 0 rfl) ?_
  refine ec_get hC hK ha fJx4a65c_48 rfl dJx4a65c_get_915e3_2 ?_
  refine ec_go1 (ec_rS hC (c_J15_checkIndex_7cf53 l G i n hi (by omega)) kJx4a65c_118 (hOk.at hS hAN) trivial hl.1 ⟨Nat.le_of_ble_eq_true rfl, Nat.le_of_ble_eq_true rfl⟩ rfl (Nat.le_of_ble_eq_true rfl) dJx4a65c_get_915e3_5 ⟨Nat.le_of_ble_eq_true rfl, Nat.le_of_ble_eq_true rfl⟩) ?_
  refine lv_pop hC.1 hC.2.1 dJx4a65c_get_915e3_8 rfl ?_
  refine lv_aload_n hC.1 hC.2.1 dJx4a65c_get_915e3_9 rfl (lv_at hl 0 rfl) ?_
  refine lv_iload_n hC.1 hC.2.1 dJx4a65c_get_915e3_10 rfl (lv_at hl 1 rfl) ?_
  refine ec_go1 (ec_rV hC (c_Jx4a65c_elementData_915e3 l G a b i cap v0 (.int (nI n)) g (by omega) hcap) kJx4a65c_123 (hOk.at hS hAN) ⟨ha, hb⟩ (ec_rc hK ha ⟨_, _, rfl⟩) hl.1 ⟨Nat.le_of_ble_eq_true rfl, Nat.le_of_ble_eq_true rfl⟩ rfl (Nat.le_of_ble_eq_true rfl) dJx4a65c_get_915e3_11 ⟨Nat.le_of_ble_eq_true rfl, Nat.le_of_ble_eq_true rfl⟩) ?_
  exact W.aret hC.1 hC.2.1 hr (Or.inl ⟨_, rfl⟩) (va_rf_or _) (fun t9 ht9 _ => ⟨_, rfl, rfl, ht9⟩) hS.2.2 dJx4a65c_get_915e3_14

set_option maxHeartbeats 4000000 in
set_option maxRecDepth 100000 in
/-- AbstractCollection() -/
theorem c_Jxa1e45_init_da8c8 (l : Launch) (G : ecG) (a : Nat) : Met l yJxa1e45_init_da8c8 (ecWs yJxa1e45_init_da8c8 cJxa1e45_init_da8c8 1 none) (ecRm 1 0 0) (ecPc [.ref a] G (fun H => True)) (ecRp (fun v => v = none)) 0 0 (fun _ => False) := by
  refine ec_met (by decide) (Nat.le_of_ble_eq_true rfl) ?_
  intro p e s m below meth c hC hr hlocks hname hOk hpre ls hl
  have hK := hOk.1
  have hS : va_S (fun _ => False) s.heap s.heap [] := va_S.rf
  have hAN : ∀ q, (fun _ : Nat => False) q → ecN0 G ≤ q := fun _ h => h.elim
  have hl : lv_has ls 1 [(0, .ref a)] := hl
  refine lv_aload_n hC.1 hC.2.1 dJxa1e45_init_da8c8_0 rfl (lv_at hl 0 rfl) ?_
  refine W.objInit hC.1 hC.2.1 hC.2.2.2.1 (hC.2.2.2.2 _ kJxa1e45_1) (hC.2.2.2.2 _ qOi) (hC.2.2.2.2 _ qOc) rfl (by rw [hC.2.2.1]; exact hl.1) rfl dJxa1e45_init_da8c8_1 (Nat.le_of_ble_eq_true rfl) (Nat.le_of_ble_eq_true rfl) ?_
  refine W.eq (g2 := F0 m 4 ls []) rfl ?_
  exact W.vret hC.1 hC.2.1 hr (fun t9 ht9 _ => ⟨_, rfl, rfl, ht9⟩) hS.2.2 dJxa1e45_init_da8c8_4

set_option maxHeartbeats 4000000 in
set_option maxRecDepth 100000 in
/-- AbstractList() -/
theorem c_Jxc12de_init_da8c8 (l : Launch) (G : ecG) (a : Nat) (x n : Int32) (v1 : Value) (hN : ecN0 G ≤ a) : Met l yJxc12de_init_da8c8 (ecWs yJxc12de_init_da8c8 cJxc12de_init_da8c8 1 none) (ecRm 2 0 0) (ecPc [.ref a] G (fun H => ecA G a (eO 7 [.int x, v1, .int n]) H)) (ecEp (fun v H1 => v = none ∧ ecA G a (eO 7 [.int 0, v1, .int n]) H1) (fun q : Nat => q = a)) 0 0 (fun q : Nat => q = a) := by
  refine ec_met (by decide) (Nat.le_of_ble_eq_true rfl) ?_
  intro p e s m below meth c hC hr hlocks hname hOk hpre ls hl
  have hK := hOk.1
  have ha := hpre
  have hS : va_S (fun q : Nat => q = a) s.heap s.heap [] := va_S.rf
  have hAN : ∀ q, (fun q : Nat => q = a) q → ecN0 G ≤ q := fun q h => by rw [h]; exact hN
  have hl : lv_has ls 1 [(0, .ref a)] := hl
  refine lv_aload_n hC.1 hC.2.1 dJxc12de_init_da8c8_0 rfl (lv_at hl 0 rfl) ?_
  refine ec_go0 (ec_rI hC (c_Jxa1e45_init_da8c8 l G a) kJxc12de_1 (hOk.at hS hAN) trivial hl.1 ⟨Nat.le_of_ble_eq_true rfl, Nat.le_of_ble_eq_true rfl⟩ rfl (Nat.le_of_ble_eq_true rfl) dJxc12de_init_da8c8_1 ⟨Nat.le_of_ble_eq_true rfl, Nat.le_of_ble_eq_true rfl⟩) ?_
  refine lv_aload_n hC.1 hC.2.1 dJxc12de_init_da8c8_4 rfl (lv_at hl 0 rfl) ?_
  refine lv_iconst (v := 0) hC.1 hC.2.1 dJxc12de_init_da8c8_5 (by decide) ?_
  refine ec_put hC hK hS ha rfl fJxc12de_7 rfl rfl rfl (Nat.le_of_ble_eq_true rfl) dJxc12de_init_da8c8_6 (fun H locs h9 o9 z9 hS => ?_)
  have ha : ecA G a (eO 7 [.int 0, v1, .int n]) H := h9
  exact W.vret hC.1 hC.2.1 hr (fun t9 ht9 _ => ⟨_, rfl, ⟨rfl, by rw [ht9]; exact ha⟩, hS.F ht9⟩) hS.2.2 dJxc12de_init_da8c8_9

set_option maxHeartbeats 4000000 in
set_option maxRecDepth 100000 in
/-- ArrayList(): empty -/
theorem c_Jx4a65c_init_da8c8 (l : Launch) (G : ecG) (a : Nat) (hN : ecN0 G ≤ a) : Met l yJx4a65c_init_da8c8 (ecWs yJx4a65c_init_da8c8 cJx4a65c_init_da8c8 1 none) (ecRm 3 0 0) (ecPc [.ref a] G (fun H => ecA G a (eO 7 [.int 0, .null, .int 0]) H)) (ecEp (fun v H1 => v = none ∧ ecA G a (eO 7 [.int 0, .ref (ecTe G), .int 0]) H1) (fun q : Nat => q = a)) 0 0 (fun q : Nat => q = a) := by
  refine ec_met (by decide) (Nat.le_of_ble_eq_true rfl) ?_
  intro p e s m below meth c hC hr hlocks hname hOk hpre ls hl
  have hK := hOk.1
  have ha := hpre
  have hS : va_S (fun q : Nat => q = a) s.heap s.heap [] := va_S.rf
  have hAN : ∀ q, (fun q : Nat => q = a) q → ecN0 G ≤ q := fun q h => by rw [h]; exact hN
  have hl : lv_has ls 1 [(0, .ref a)] := hl
  refine lv_aload_n hC.1 hC.2.1 dJx4a65c_init_da8c8_0 rfl (lv_at hl 0 rfl) ?_
  refine ec_goE0 (ec_rI hC (c_Jxc12de_init_da8c8 l G a 0 0 .null hN) kJx4a65c_1 (hOk.at hS hAN) ha hl.1 ⟨Nat.le_of_ble_eq_true rfl, Nat.le_of_ble_eq_true rfl⟩ rfl (Nat.le_of_ble_eq_true rfl) dJx4a65c_init_da8c8_1 ⟨Nat.le_of_ble_eq_true rfl, Nat.le_of_ble_eq_true rfl⟩) hS (fun _ h => h) (fun H1 locs ha hz hk1 hS => ?_)
  refine lv_aload_n hC.1 hC.2.1 dJx4a65c_init_da8c8_4 rfl (lv_at hl 0 rfl) ?_
  refine va_gets hC.1 hC.2.1 (hOk.2.2.2.2.1.narrow hAN) hS hC.2.2.2.1 (hC.2.2.2.2 _ q44) (fun _ h => h) dJx4a65c_init_da8c8_5 ?_
  refine ec_put hC hK hS ha rfl fJx4a65c_9 rfl rfl rfl (Nat.le_of_ble_eq_true rfl) dJx4a65c_init_da8c8_8 (fun H locs h9 o9 z9 hS => ?_)
  have ha : ecA G a (eO 7 [.int 0, .ref (ecTe G), .int 0]) H := h9
  exact W.vret hC.1 hC.2.1 hr (fun t9 ht9 _ => ⟨_, rfl, ⟨rfl, by rw [ht9]; exact ha⟩, hS.F ht9⟩) hS.2.2 dJx4a65c_init_da8c8_11

set_option maxHeartbeats 4000000 in
set_option maxRecDepth 100000 in
/-- a longer length -/
theorem c_J8_newLength_cabcc (l : Launch) (G : ecG) (n : Nat) (h1 : 10 ≤ n) (h2 : n ≤ 60) : Met l yJ8_newLength_cabcc (ecWs yJ8_newLength_cabcc cJ8_newLength_cabcc 4 (Option.some FieldType.int)) (ecRm 2 0 0) (ecPc [.int (nI n), .int (nI 1), .int (nI (n / 2))] G (fun H => True)) (ecRp (fun v => v = some (.int (nI (n + n / 2))))) 0 0 (fun _ => False) := by
  refine ec_met (by decide) (Nat.le_of_ble_eq_true rfl) ?_
  intro p e s m below meth c hC hr hlocks hname hOk hpre ls hl
  have hK := hOk.1
  have hS : va_S (fun _ => False) s.heap s.heap [] := va_S.rf
  have hAN : ∀ q, (fun _ : Nat => False) q → ecN0 G ≤ q := fun _ h => h.elim
  have hl : lv_has ls 4 [(0, .int (nI n)), (1, .int (nI 1)), (2, .int (nI (n / 2)))] := hl
  refine lv_iload_n hC.1 hC.2.1 dJ8_newLength_cabcc_0 rfl (lv_at hl 0 rfl) ?_
  refine lv_iload_n hC.1 hC.2.1 dJ8_newLength_cabcc_1 rfl (lv_at hl 1 rfl) ?_
  refine lv_iload_n hC.1 hC.2.1 dJ8_newLength_cabcc_2 rfl (lv_at hl 2 rfl) ?_
  refine va_mmax hC.1 hC.2.1 (by rw [hC.2.2.1]; exact hl.1.symm) hC.2.2.2.1 (hC.2.2.2.2 _ q322) (hC.2.2.2.2 _ q323) (hC.2.2.2.2 _ q12) (hC.2.2.2.2 _ qMax) (Nat.le_of_ble_eq_true rfl) (Nat.le_of_ble_eq_true rfl) (Nat.le_of_ble_eq_true rfl) (Nat.le_of_ble_eq_true rfl) dJ8_newLength_cabcc_3 ?_
  refine ec_topi (y := (nI (n / 2))) (if_pos (nI_lt (by omega) (by omega))) ?_
  refine lv_iadd hC.1 hC.2.1 dJ8_newLength_cabcc_6 ?_
  refine ec_topi (y := (nI (n + n / 2))) (nI_add _ _) ?_
  refine lv_istore_n (lv' := [(3, .int (nI (n + n / 2))), (0, .int (nI n)), (1, .int (nI 1)), (2, .int (nI (n / 2)))]) hC.1 hC.2.1 dJ8_newLength_cabcc_7 rfl hl (by decide) rfl (fun ls hl => ?_)
  refine lv_iconst (v := 0) hC.1 hC.2.1 dJ8_newLength_cabcc_8 (by decide) ?_
  refine lv_iload_n hC.1 hC.2.1 dJ8_newLength_cabcc_9 rfl (lv_at hl 0 rfl) ?_
  refine lv_icmp_ge (tgt := 21) hC.1 hC.2.1 dJ8_newLength_cabcc_10 (by decide) (fun c => absurd c (nI_nle (by omega) (by omega))) (fun c_10 => ?_)
  refine lv_iload_n hC.1 hC.2.1 dJ8_newLength_cabcc_13 rfl (lv_at hl 0 rfl) ?_
  refine lv_ldc hC.1 hC.2.1 hC.2.2.2.1 (hC.2.2.2.2 _ q325) dJ8_newLength_cabcc_14 ?_
  refine lv_icmp_gt (tgt := 21) hC.1 hC.2.1 dJ8_newLength_cabcc_16 (by decide) (fun c => absurd c (nI_nlt (a := 2147483639) (b := n + n / 2) (by omega) (by decide))) (fun c_16 => ?_)
  refine lv_iload_n hC.1 hC.2.1 dJ8_newLength_cabcc_19 rfl (lv_at hl 0 rfl) ?_
  exact W.iret hC.1 hC.2.1 hr (fun t9 ht9 _ => ⟨_, rfl, rfl, ht9⟩) hS.2.2 dJ8_newLength_cabcc_20
