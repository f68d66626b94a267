/-! pure words for the reference -/
theorem chI_st2 {n i : Int} (hn : i ≤ n) (hi : 0 ≤ i ∧ i < n) : (chI n i * (n - i)).tdiv (i + 1) = chI n (i + 1) := by
  have h := chI_sub (n := n) (k := i) hn hi.1
  exact tdiv_ex (by omega) (by unfold chI; omega) (by rw [Int.mul_comm]; exact h.symm)
set_option maxHeartbeats 1000000 in
set_option maxRecDepth 100000 in
theorem c_X7_in (l : Launch) (D : va_G) (cyI cyJ cyO : ClassId) (v : Int) (lo : Int) (hi : Int) (h_v : -9223372036854775808 ≤ v ∧ v ≤ 9223372036854775807) (h_lo : -9223372036854775808 ≤ lo ∧ lo ≤ 9223372036854775807) (h_hi : -9223372036854775808 ≤ hi ∧ hi ≤ 9223372036854775807) : Met l yX7_in wsX7_in ({ frames := 0, cells := 0, slots := 0, locals := 0 }) (va_Pc [.long (lI (v)), .long (lI (lo)), .long (lI (hi))] (xR D vwCl [] (xT cyI cyJ cyO))) (xq (some (.int (iI (b2 (lo ≤ v ∧ v ≤ hi)))))) 0 0 (fun _ => False) := by
  refine Met.ofW (cc := cX7_in) (maxL := 6) (ret := (some .boolean)) (by decide) rfl ?_
  intro p e s m args below meth c s₁ B hml hv
  obtain ⟨rfl, hP, hK⟩ := hv
  have hx := B.exec
  have hb := B.bytes
  have hr := B.returns
  have hts := atoms_spec (ws := wsX7_in) B.pre
  have hown : s.vm.findClass RX7 = some m.cls := findClass_of_methodNamed B.named
  have hlocks := B.notSynchronized
  have hP : va_P D vwCl [] s.heap := hP
  have hl := lv_entry ([.long (lI (v)), .long (lI (lo)), .long (lI (hi))]) (n := 6) (Nat.le_of_ble_eq_true rfl)
  rw [lg_entry_eq]
  generalize (lg_sl ([.long (lI (v)), .long (lI (lo)), .long (lI (hi))]) ++ List.replicate (6 - (lg_sl ([.long (lI (v)), .long (lI (lo)), .long (lI (hi))])).length) Slot.unset).toArray = ls at hl ⊢
  have hl : lv_has ls 6 [(0, .long (lI (v))), (2, .long (lI (lo))), (4, .long (lI (hi)))] := hl
  refine lv_lload_n hx hb dX7_in_0 rfl (lv_at hl 0 rfl) ?_
  refine lv_lload_n hx hb dX7_in_1 rfl (lv_at hl 1 rfl) ?_
  refine xl_if_lt (tgt := 17) hx hb dX7_in_2 dX7_in_3 (by decide) (by omega) (fun h_1 => ?_) (fun h_1 => ?_)
  · refine xi_const hx hb dX7_in_17 ?_
    exact W.zret (v := iI (0)) hx hb hr (by decide +kernel) (fun t_ ht_ _ => ⟨congrArg (fun z => Outcome.returned (some (Value.int (iI z)))) (show (0 : Int) = b2 (lo ≤ v ∧ v ≤ hi) from (b2_f (by first | assumption | omega | (constructor <;> first | assumption | omega))).symm), ht_⟩) (fun _ h9 => absurd h9 List.not_mem_nil) dX7_in_18
  · refine lv_lload_n hx hb dX7_in_6 rfl (lv_at hl 0 rfl) ?_
    refine lv_lload hx hb dX7_in_7 (lv_at hl 2 rfl) ?_
    refine xl_if_gt (tgt := 17) hx hb dX7_in_9 dX7_in_10 (by decide) (by omega) (fun h_2 => ?_) (fun h_2 => ?_)
    · refine xi_const hx hb dX7_in_17 ?_
      exact W.zret (v := iI (0)) hx hb hr (by decide +kernel) (fun t_ ht_ _ => ⟨congrArg (fun z => Outcome.returned (some (Value.int (iI z)))) (show (0 : Int) = b2 (lo ≤ v ∧ v ≤ hi) from (b2_f (by first | assumption | omega | (constructor <;> first | assumption | omega))).symm), ht_⟩) (fun _ h9 => absurd h9 List.not_mem_nil) dX7_in_18
    · refine xi_const hx hb dX7_in_13 ?_
      refine lv_goto (tgt := 18) hx hb dX7_in_14 (by decide) ?_
      exact W.zret (v := iI (1)) hx hb hr (by decide +kernel) (fun t_ ht_ _ => ⟨congrArg (fun z => Outcome.returned (some (Value.int (iI z)))) (show (1 : Int) = b2 (lo ≤ v ∧ v ≤ hi) from (b2_t (by first | assumption | omega | (constructor <;> first | assumption | omega))).symm), ht_⟩) (fun _ h9 => absurd h9 List.not_mem_nil) dX7_in_18
set_option maxHeartbeats 1000000 in
set_option maxRecDepth 100000 in
theorem c_X7_no (l : Launch) (D : va_G) (cyI cyJ cyO : ClassId) (x : Int) (h_x : -2147483648 ≤ x ∧ x ≤ 2147483647) : Met l yX7_no wsX7_no ({ frames := 0, cells := 0, slots := 0, locals := 0 }) (va_Pc [.int (iI (x))] (xR D vwCl [] (xT cyI cyJ cyO))) (xq (some (.long (lI (-9223372036854775808 - x))))) 0 0 (fun _ => False) := by
  refine Met.ofW (cc := cX7_no) (maxL := 1) (ret := (some .long)) (by decide) rfl ?_
  intro p e s m args below meth c s₁ B hml hv
  obtain ⟨rfl, hP, hK⟩ := hv
  have hx := B.exec
  have hb := B.bytes
  have hr := B.returns
  have hts := atoms_spec (ws := wsX7_no) B.pre
  have hown : s.vm.findClass RX7 = some m.cls := findClass_of_methodNamed B.named
  have hlocks := B.notSynchronized
  have hP : va_P D vwCl [] s.heap := hP
  have hl := lv_entry ([.int (iI (x))]) (n := 1) (Nat.le_of_ble_eq_true rfl)
  rw [lg_entry_eq]
  generalize (lg_sl ([.int (iI (x))]) ++ List.replicate (1 - (lg_sl ([.int (iI (x))])).length) Slot.unset).toArray = ls at hl ⊢
  have hl : lv_has ls 1 [(0, .int (iI (x)))] := hl
  refine lv_ldc2 (v := lI (-9223372036854775808)) hx hb hown (hts (.constantLong RX7 74 (lI (-9223372036854775808))) (List.mem_of_getElem? (i := 1) (by decide +kernel))) dX7_no_0 ?_
  refine lv_iload_n hx hb dX7_no_3 rfl (lv_at hl 0 rfl) ?_
  refine xi_i2l hx hb dX7_no_4 (by omega) ?_
  refine xl_sub hx hb dX7_no_5 ?_
  exact W.lret (v := lI ((-9223372036854775808) - x)) hx hb hr (fun t_ ht_ _ => ⟨congrArg (fun z => Outcome.returned (some (Value.long (lI z)))) (show ((-9223372036854775808) - x) = (-9223372036854775808 - x) from by first | rfl | omega), ht_⟩) (fun _ h9 => absurd h9 List.not_mem_nil) dX7_no_6
set_option maxHeartbeats 1000000 in
set_option maxRecDepth 100000 in
theorem c_X7_isTwo (l : Launch) (D : va_G) (cyI cyJ cyO : ClassId) (y : Int) (h_y : -2147483648 ≤ y ∧ y ≤ 2147483647) : Met l yX7_isTwo wsX7_isTwo ({ frames := 1, cells := 0, slots := 0, locals := 25 }) (va_Pc [.int (iI (y))] (xR D vwCl [] (xT cyI cyJ cyO))) (xq (some (.int (iI (b2 (y = 0 ∨ y = 1)))))) 0 0 (fun _ => False) := by
  refine Met.ofW (cc := cX7_isTwo) (maxL := 1) (ret := (some .boolean)) (by decide) rfl ?_
  intro p e s m args below meth c s₁ B hml hv
  obtain ⟨rfl, hP, hK⟩ := hv
  have hx := B.exec
  have hb := B.bytes
  have hr := B.returns
  have hts := atoms_spec (ws := wsX7_isTwo) B.pre
  have hown : s.vm.findClass RX7 = some m.cls := findClass_of_methodNamed B.named
  have hlocks := B.notSynchronized
  have hP : va_P D vwCl [] s.heap := hP
  have hl := lv_entry ([.int (iI (y))]) (n := 1) (Nat.le_of_ble_eq_true rfl)
  rw [lg_entry_eq]
  generalize (lg_sl ([.int (iI (y))]) ++ List.replicate (1 - (lg_sl ([.int (iI (y))])).length) Slot.unset).toArray = ls at hl ⊢
  have hl : lv_has ls 1 [(0, .int (iI (y)))] := hl
  refine lv_iload_n hx hb dX7_isTwo_0 rfl (lv_at hl 0 rfl) ?_
  refine xi_i2l hx hb dX7_isTwo_1 (by omega) ?_
  refine xi_lconst0 hx hb dX7_isTwo_2 ?_
  refine xi_lconst1 hx hb dX7_isTwo_3 ?_
  have hPc := hP.sub (ws' := []) [] rfl
  refine xc_i (va_runS (As := [.long (lI (y)), .long (lI (0)), .long (lI (1))]) (rest := []) ⟨hx, hb, hml, hown, hts⟩ (c_X7_in l D cyI cyJ cyO y 0 1 (by first | exact h_v | assumption | omega) (by first | exact h_lo | assumption | omega) (by first | exact h_hi | assumption | omega)) (va_cwS 3 hts gX7_isTwo_X7_in rfl rfl rfl (by decide +kernel) ⟨Nat.le_of_ble_eq_true rfl, Nat.le_of_ble_eq_true rfl⟩) (xpS hPc hK) rfl rfl hl.1 rfl (lv_room (Nat.le_of_ble_eq_true rfl)) dX7_isTwo_4 ⟨Nat.le_of_ble_eq_true rfl, Nat.le_of_ble_eq_true rfl⟩) ?_
  exact W.zret (v := iI (b2 (0 ≤ y ∧ y ≤ 1))) hx hb hr (by rcases b2_01 (0 ≤ y ∧ y ≤ 1) with h | h <;> rw [h] <;> decide +kernel) (fun t_ ht_ _ => ⟨congrArg (fun z => Outcome.returned (some (Value.int (iI z)))) (b2_e (show (0 ≤ y ∧ y ≤ 1) ↔ (y = 0 ∨ y = 1) from by omega)), ht_⟩) (fun _ h9 => absurd h9 List.not_mem_nil) dX7_isTwo_7
set_option maxHeartbeats 1000000 in
set_option maxRecDepth 100000 in
theorem c_X7_isSheet (l : Launch) (D : va_G) (cyI cyJ cyO : ClassId) (y : Int) (h_y : -2147483648 ≤ y ∧ y ≤ 2147483647) : Met l yX7_isSheet wsX7_isSheet ({ frames := 1, cells := 0, slots := 0, locals := 25 }) (va_Pc [.int (iI (y))] (xR D vwCl [] (xT cyI cyJ cyO))) (xq (some (.int (iI (b2 (0 ≤ y ∧ y < 4)))))) 0 0 (fun _ => False) := by
  refine Met.ofW (cc := cX7_isSheet) (maxL := 1) (ret := (some .boolean)) (by decide) rfl ?_
  intro p e s m args below meth c s₁ B hml hv
  obtain ⟨rfl, hP, hK⟩ := hv
  have hx := B.exec
  have hb := B.bytes
  have hr := B.returns
  have hts := atoms_spec (ws := wsX7_isSheet) B.pre
  have hown : s.vm.findClass RX7 = some m.cls := findClass_of_methodNamed B.named
  have hlocks := B.notSynchronized
  have hP : va_P D vwCl [] s.heap := hP
  have hl := lv_entry ([.int (iI (y))]) (n := 1) (Nat.le_of_ble_eq_true rfl)
  rw [lg_entry_eq]
  generalize (lg_sl ([.int (iI (y))]) ++ List.replicate (1 - (lg_sl ([.int (iI (y))])).length) Slot.unset).toArray = ls at hl ⊢
  have hl : lv_has ls 1 [(0, .int (iI (y)))] := hl
  refine lv_iload_n hx hb dX7_isSheet_0 rfl (lv_at hl 0 rfl) ?_
  refine xi_i2l hx hb dX7_isSheet_1 (by omega) ?_
  refine xi_lconst0 hx hb dX7_isSheet_2 ?_
  refine lv_ldc2 (v := lI (3)) hx hb hown (hts (.constantLong RX7 84 (lI (3))) (List.mem_of_getElem? (i := 1) (by decide +kernel))) dX7_isSheet_3 ?_
  have hPc := hP.sub (ws' := []) [] rfl
  refine xc_i (va_runS (As := [.long (lI (y)), .long (lI (0)), .long (lI (3))]) (rest := []) ⟨hx, hb, hml, hown, hts⟩ (c_X7_in l D cyI cyJ cyO y 0 3 (by first | exact h_v | assumption | omega) (by first | exact h_lo | assumption | omega) (by first | exact h_hi | assumption | omega)) (va_cwS 3 hts gX7_isSheet_X7_in rfl rfl rfl (by decide +kernel) ⟨Nat.le_of_ble_eq_true rfl, Nat.le_of_ble_eq_true rfl⟩) (xpS hPc hK) rfl rfl hl.1 rfl (lv_room (Nat.le_of_ble_eq_true rfl)) dX7_isSheet_6 ⟨Nat.le_of_ble_eq_true rfl, Nat.le_of_ble_eq_true rfl⟩) ?_
  exact W.zret (v := iI (b2 (0 ≤ y ∧ y ≤ 3))) hx hb hr (by rcases b2_01 (0 ≤ y ∧ y ≤ 3) with h | h <;> rw [h] <;> decide +kernel) (fun t_ ht_ _ => ⟨congrArg (fun z => Outcome.returned (some (Value.int (iI z)))) (b2_e (show (0 ≤ y ∧ y ≤ 3) ↔ (0 ≤ y ∧ y < 4) from by omega)), ht_⟩) (fun _ h9 => absurd h9 List.not_mem_nil) dX7_isSheet_9
set_option maxHeartbeats 1000000 in
set_option maxRecDepth 100000 in
theorem c_X7_isYear (l : Launch) (D : va_G) (cyI cyJ cyO : ClassId) (y : Int) (h_y : -2147483648 ≤ y ∧ y ≤ 2147483647) : Met l yX7_isYear wsX7_isYear ({ frames := 1, cells := 0, slots := 0, locals := 25 }) (va_Pc [.int (iI (y))] (xR D vwCl [] (xT cyI cyJ cyO))) (xq (some (.int (iI (b2 (0 ≤ y ∧ y < 60)))))) 0 0 (fun _ => False) := by
  refine Met.ofW (cc := cX7_isYear) (maxL := 1) (ret := (some .boolean)) (by decide) rfl ?_
  intro p e s m args below meth c s₁ B hml hv
  obtain ⟨rfl, hP, hK⟩ := hv
  have hx := B.exec
  have hb := B.bytes
  have hr := B.returns
  have hts := atoms_spec (ws := wsX7_isYear) B.pre
  have hown : s.vm.findClass RX7 = some m.cls := findClass_of_methodNamed B.named
  have hlocks := B.notSynchronized
  have hP : va_P D vwCl [] s.heap := hP
  have hl := lv_entry ([.int (iI (y))]) (n := 1) (Nat.le_of_ble_eq_true rfl)
  rw [lg_entry_eq]
  generalize (lg_sl ([.int (iI (y))]) ++ List.replicate (1 - (lg_sl ([.int (iI (y))])).length) Slot.unset).toArray = ls at hl ⊢
  have hl : lv_has ls 1 [(0, .int (iI (y)))] := hl
  refine lv_iload_n hx hb dX7_isYear_0 rfl (lv_at hl 0 rfl) ?_
  refine xi_i2l hx hb dX7_isYear_1 (by omega) ?_
  refine xi_lconst0 hx hb dX7_isYear_2 ?_
  refine lv_ldc2 (v := lI (59)) hx hb hown (hts (.constantLong RX7 111 (lI (59))) (List.mem_of_getElem? (i := 1) (by decide +kernel))) dX7_isYear_3 ?_
  have hPc := hP.sub (ws' := []) [] rfl
  refine xc_i (va_runS (As := [.long (lI (y)), .long (lI (0)), .long (lI (59))]) (rest := []) ⟨hx, hb, hml, hown, hts⟩ (c_X7_in l D cyI cyJ cyO y 0 59 (by first | exact h_v | assumption | omega) (by first | exact h_lo | assumption | omega) (by first | exact h_hi | assumption | omega)) (va_cwS 3 hts gX7_isYear_X7_in rfl rfl rfl (by decide +kernel) ⟨Nat.le_of_ble_eq_true rfl, Nat.le_of_ble_eq_true rfl⟩) (xpS hPc hK) rfl rfl hl.1 rfl (lv_room (Nat.le_of_ble_eq_true rfl)) dX7_isYear_6 ⟨Nat.le_of_ble_eq_true rfl, Nat.le_of_ble_eq_true rfl⟩) ?_
  exact W.zret (v := iI (b2 (0 ≤ y ∧ y ≤ 59))) hx hb hr (by rcases b2_01 (0 ≤ y ∧ y ≤ 59) with h | h <;> rw [h] <;> decide +kernel) (fun t_ ht_ _ => ⟨congrArg (fun z => Outcome.returned (some (Value.int (iI z)))) (b2_e (show (0 ≤ y ∧ y ≤ 59) ↔ (0 ≤ y ∧ y < 60) from by omega)), ht_⟩) (fun _ h9 => absurd h9 List.not_mem_nil) dX7_isYear_9
set_option maxHeartbeats 1000000 in
set_option maxRecDepth 100000 in
theorem c_X7_isLevel (l : Launch) (D : va_G) (cyI cyJ cyO : ClassId) (y : Int) (h_y : -2147483648 ≤ y ∧ y ≤ 2147483647) : Met l yX7_isLevel wsX7_isLevel ({ frames := 1, cells := 0, slots := 0, locals := 25 }) (va_Pc [.int (iI (y))] (xR D vwCl [] (xT cyI cyJ cyO))) (xq (some (.int (iI (b2 (0 ≤ y ∧ y ≤ 999)))))) 0 0 (fun _ => False) := by
  refine Met.ofW (cc := cX7_isLevel) (maxL := 1) (ret := (some .boolean)) (by decide) rfl ?_
  intro p e s m args below meth c s₁ B hml hv
  obtain ⟨rfl, hP, hK⟩ := hv
  have hx := B.exec
  have hb := B.bytes
  have hr := B.returns
  have hts := atoms_spec (ws := wsX7_isLevel) B.pre
  have hown : s.vm.findClass RX7 = some m.cls := findClass_of_methodNamed B.named
  have hlocks := B.notSynchronized
  have hP : va_P D vwCl [] s.heap := hP
  have hl := lv_entry ([.int (iI (y))]) (n := 1) (Nat.le_of_ble_eq_true rfl)
  rw [lg_entry_eq]
  generalize (lg_sl ([.int (iI (y))]) ++ List.replicate (1 - (lg_sl ([.int (iI (y))])).length) Slot.unset).toArray = ls at hl ⊢
  have hl : lv_has ls 1 [(0, .int (iI (y)))] := hl
  refine lv_iload_n hx hb dX7_isLevel_0 rfl (lv_at hl 0 rfl) ?_
  refine xi_i2l hx hb dX7_isLevel_1 (by omega) ?_
  refine xi_lconst0 hx hb dX7_isLevel_2 ?_
  refine lv_ldc2 (v := lI (999)) hx hb hown (hts (.constantLong RX7 113 (lI (999))) (List.mem_of_getElem? (i := 1) (by decide +kernel))) dX7_isLevel_3 ?_
  have hPc := hP.sub (ws' := []) [] rfl
  refine xc_i (va_runS (As := [.long (lI (y)), .long (lI (0)), .long (lI (999))]) (rest := []) ⟨hx, hb, hml, hown, hts⟩ (c_X7_in l D cyI cyJ cyO y 0 999 (by first | exact h_v | assumption | omega) (by first | exact h_lo | assumption | omega) (by first | exact h_hi | assumption | omega)) (va_cwS 3 hts gX7_isLevel_X7_in rfl rfl rfl (by decide +kernel) ⟨Nat.le_of_ble_eq_true rfl, Nat.le_of_ble_eq_true rfl⟩) (xpS hPc hK) rfl rfl hl.1 rfl (lv_room (Nat.le_of_ble_eq_true rfl)) dX7_isLevel_6 ⟨Nat.le_of_ble_eq_true rfl, Nat.le_of_ble_eq_true rfl⟩) ?_
  exact W.zret (v := iI (b2 (0 ≤ y ∧ y ≤ 999))) hx hb hr (by rcases b2_01 (0 ≤ y ∧ y ≤ 999) with h | h <;> rw [h] <;> decide +kernel) (fun t_ ht_ _ => ⟨congrArg (fun z => Outcome.returned (some (Value.int (iI z)))) rfl, ht_⟩) (fun _ h9 => absurd h9 List.not_mem_nil) dX7_isLevel_9
set_option maxHeartbeats 1000000 in
set_option maxRecDepth 100000 in
theorem c_X7_isPart (l : Launch) (D : va_G) (cyI cyJ cyO : ClassId) (y : Int) (h_y : -2147483648 ≤ y ∧ y ≤ 2147483647) : Met l yX7_isPart wsX7_isPart ({ frames := 1, cells := 0, slots := 0, locals := 25 }) (va_Pc [.int (iI (y))] (xR D vwCl [] (xT cyI cyJ cyO))) (xq (some (.int (iI (b2 (0 ≤ y ∧ y ≤ 100)))))) 0 0 (fun _ => False) := by
  refine Met.ofW (cc := cX7_isPart) (maxL := 1) (ret := (some .boolean)) (by decide) rfl ?_
  intro p e s m args below meth c s₁ B hml hv
  obtain ⟨rfl, hP, hK⟩ := hv
  have hx := B.exec
  have hb := B.bytes
  have hr := B.returns
  have hts := atoms_spec (ws := wsX7_isPart) B.pre
  have hown : s.vm.findClass RX7 = some m.cls := findClass_of_methodNamed B.named
  have hlocks := B.notSynchronized
  have hP : va_P D vwCl [] s.heap := hP
  have hl := lv_entry ([.int (iI (y))]) (n := 1) (Nat.le_of_ble_eq_true rfl)
  rw [lg_entry_eq]
  generalize (lg_sl ([.int (iI (y))]) ++ List.replicate (1 - (lg_sl ([.int (iI (y))])).length) Slot.unset).toArray = ls at hl ⊢
  have hl : lv_has ls 1 [(0, .int (iI (y)))] := hl
  refine lv_iload_n hx hb dX7_isPart_0 rfl (lv_at hl 0 rfl) ?_
  refine xi_i2l hx hb dX7_isPart_1 (by omega) ?_
  refine xi_lconst0 hx hb dX7_isPart_2 ?_
  refine lv_ldc2 (v := lI (100)) hx hb hown (hts (.constantLong RX7 179 (lI (100))) (List.mem_of_getElem? (i := 1) (by decide +kernel))) dX7_isPart_3 ?_
  have hPc := hP.sub (ws' := []) [] rfl
  refine xc_i (va_runS (As := [.long (lI (y)), .long (lI (0)), .long (lI (100))]) (rest := []) ⟨hx, hb, hml, hown, hts⟩ (c_X7_in l D cyI cyJ cyO y 0 100 (by first | exact h_v | assumption | omega) (by first | exact h_lo | assumption | omega) (by first | exact h_hi | assumption | omega)) (va_cwS 3 hts gX7_isPart_X7_in rfl rfl rfl (by decide +kernel) ⟨Nat.le_of_ble_eq_true rfl, Nat.le_of_ble_eq_true rfl⟩) (xpS hPc hK) rfl rfl hl.1 rfl (lv_room (Nat.le_of_ble_eq_true rfl)) dX7_isPart_6 ⟨Nat.le_of_ble_eq_true rfl, Nat.le_of_ble_eq_true rfl⟩) ?_
  exact W.zret (v := iI (b2 (0 ≤ y ∧ y ≤ 100))) hx hb hr (by rcases b2_01 (0 ≤ y ∧ y ≤ 100) with h | h <;> rw [h] <;> decide +kernel) (fun t_ ht_ _ => ⟨congrArg (fun z => Outcome.returned (some (Value.int (iI z)))) rfl, ht_⟩) (fun _ h9 => absurd h9 List.not_mem_nil) dX7_isPart_9
set_option maxHeartbeats 1000000 in
set_option maxRecDepth 100000 in
theorem c_X7_isSixteenths (l : Launch) (D : va_G) (cyI cyJ cyO : ClassId) (y : Int) (h_y : -2147483648 ≤ y ∧ y ≤ 2147483647) : Met l yX7_isSixteenths wsX7_isSixteenths ({ frames := 1, cells := 0, slots := 0, locals := 25 }) (va_Pc [.int (iI (y))] (xR D vwCl [] (xT cyI cyJ cyO))) (xq (some (.int (iI (b2 (0 ≤ y ∧ y ≤ 16)))))) 0 0 (fun _ => False) := by
  refine Met.ofW (cc := cX7_isSixteenths) (maxL := 1) (ret := (some .boolean)) (by decide) rfl ?_
  intro p e s m args below meth c s₁ B hml hv
  obtain ⟨rfl, hP, hK⟩ := hv
  have hx := B.exec
  have hb := B.bytes
  have hr := B.returns
  have hts := atoms_spec (ws := wsX7_isSixteenths) B.pre
  have hown : s.vm.findClass RX7 = some m.cls := findClass_of_methodNamed B.named
  have hlocks := B.notSynchronized
  have hP : va_P D vwCl [] s.heap := hP
  have hl := lv_entry ([.int (iI (y))]) (n := 1) (Nat.le_of_ble_eq_true rfl)
  rw [lg_entry_eq]
  generalize (lg_sl ([.int (iI (y))]) ++ List.replicate (1 - (lg_sl ([.int (iI (y))])).length) Slot.unset).toArray = ls at hl ⊢
  have hl : lv_has ls 1 [(0, .int (iI (y)))] := hl
  refine lv_iload_n hx hb dX7_isSixteenths_0 rfl (lv_at hl 0 rfl) ?_
  refine xi_i2l hx hb dX7_isSixteenths_1 (by omega) ?_
  refine xi_lconst0 hx hb dX7_isSixteenths_2 ?_
  refine lv_ldc2 (v := lI (16)) hx hb hown (hts (.constantLong RX7 187 (lI (16))) (List.mem_of_getElem? (i := 1) (by decide +kernel))) dX7_isSixteenths_3 ?_
  have hPc := hP.sub (ws' := []) [] rfl
  refine xc_i (va_runS (As := [.long (lI (y)), .long (lI (0)), .long (lI (16))]) (rest := []) ⟨hx, hb, hml, hown, hts⟩ (c_X7_in l D cyI cyJ cyO y 0 16 (by first | exact h_v | assumption | omega) (by first | exact h_lo | assumption | omega) (by first | exact h_hi | assumption | omega)) (va_cwS 3 hts gX7_isSixteenths_X7_in rfl rfl rfl (by decide +kernel) ⟨Nat.le_of_ble_eq_true rfl, Nat.le_of_ble_eq_true rfl⟩) (xpS hPc hK) rfl rfl hl.1 rfl (lv_room (Nat.le_of_ble_eq_true rfl)) dX7_isSixteenths_6 ⟨Nat.le_of_ble_eq_true rfl, Nat.le_of_ble_eq_true rfl⟩) ?_
  exact W.zret (v := iI (b2 (0 ≤ y ∧ y ≤ 16))) hx hb hr (by rcases b2_01 (0 ≤ y ∧ y ≤ 16) with h | h <;> rw [h] <;> decide +kernel) (fun t_ ht_ _ => ⟨congrArg (fun z => Outcome.returned (some (Value.int (iI z)))) rfl, ht_⟩) (fun _ h9 => absurd h9 List.not_mem_nil) dX7_isSixteenths_9
set_option maxHeartbeats 1000000 in
set_option maxRecDepth 100000 in
theorem c_X7_met (l : Launch) (D : va_G) (cyI cyJ cyO : ClassId) (qM : Nat) (qMf : Nat) (qMz : Nat) (qMi : Nat) (qMm : Nat) (mlate : Int) (mtn : Int) (qMty : Nat) (qMtk : Nat) (qMtl : Nat) (qMtt : Nat) (mwn : Int) (qMwf : Nat) (qMwt : Nat) (qMwl : Nat) (qMse : Nat) (qMsi : Nat) (qMkk : Nat) (qMkl : Nat) (mex : Int) (qMey : Nat) (qMel : Nat) (qMo : Nat) (qMx : Nat) (mtyped : Int) (mat : Int) (mpairs : Int) (qMpl : Nat) (qMpf : Nat) (sz : Nat) (n : Int) (h_n : -2147483648 ≤ n ∧ n ≤ 2147483647) : Met l yX7_met wsX7_met ({ frames := 0, cells := 0, slots := 0, locals := 0 }) (va_Pc [.ref qM, .int (iI (n))] (xM D vwCl [(qM, .inr (7, [.ref qMf, .ref qMz, .ref qMi, .ref qMm, .int (iI (mlate)), .int (iI (mtn)), .ref qMty, .ref qMtk, .ref qMtl, .ref qMtt, .int (iI (mwn)), .ref qMwf, .ref qMwt, .ref qMwl, .ref qMse, .ref qMsi, .ref qMkk, .ref qMkl, .int (iI (mex)), .ref qMey, .ref qMel, .ref qMo, .ref qMx, .int (iI (mtyped)), .int (iI (mat)), .int (iI (mpairs)), .ref qMpl, .ref qMpf]))] (xT cyI cyJ cyO) sz)) (va_Qi (fun (r : Int32) (u : Unit) => r = iI (-10 - n) ∧ True) (xB D vwCl (xT cyI cyJ cyO) (va_A [(qM, .inr (7, [.ref qMf, .ref qMz, .ref qMi, .ref qMm, .int (iI (mlate)), .int (iI (mtn)), .ref qMty, .ref qMtk, .ref qMtl, .ref qMtt, .int (iI (mwn)), .ref qMwf, .ref qMwt, .ref qMwl, .ref qMse, .ref qMsi, .ref qMkk, .ref qMkl, .int (iI (mex)), .ref qMey, .ref qMel, .ref qMo, .ref qMx, .int (iI (mtyped)), .int (iI (mat)), .int (iI (mpairs)), .ref qMpl, .ref qMpf]))] sz) (fun u : Unit => [(qM, .inr (7, [.ref qMf, .ref qMz, .ref qMi, .ref qMm, .int (iI (n)), .int (iI (mtn)), .ref qMty, .ref qMtk, .ref qMtl, .ref qMtt, .int (iI (mwn)), .ref qMwf, .ref qMwt, .ref qMwl, .ref qMse, .ref qMsi, .ref qMkk, .ref qMkl, .int (iI (mex)), .ref qMey, .ref qMel, .ref qMo, .ref qMx, .int (iI (mtyped)), .int (iI (mat)), .int (iI (mpairs)), .ref qMpl, .ref qMpf]))])) (va_A [(qM, .inr (7, [.ref qMf, .ref qMz, .ref qMi, .ref qMm, .int (iI (mlate)), .int (iI (mtn)), .ref qMty, .ref qMtk, .ref qMtl, .ref qMtt, .int (iI (mwn)), .ref qMwf, .ref qMwt, .ref qMwl, .ref qMse, .ref qMsi, .ref qMkk, .ref qMkl, .int (iI (mex)), .ref qMey, .ref qMel, .ref qMo, .ref qMx, .int (iI (mtyped)), .int (iI (mat)), .int (iI (mpairs)), .ref qMpl, .ref qMpf]))] sz)) 0 0 (va_A [(qM, .inr (7, [.ref qMf, .ref qMz, .ref qMi, .ref qMm, .int (iI (mlate)), .int (iI (mtn)), .ref qMty, .ref qMtk, .ref qMtl, .ref qMtt, .int (iI (mwn)), .ref qMwf, .ref qMwt, .ref qMwl, .ref qMse, .ref qMsi, .ref qMkk, .ref qMkl, .int (iI (mex)), .ref qMey, .ref qMel, .ref qMo, .ref qMx, .int (iI (mtyped)), .int (iI (mat)), .int (iI (mpairs)), .ref qMpl, .ref qMpf]))] sz) := by
  refine Met.ofW (cc := cX7_met) (maxL := 2) (ret := (some .int)) (by decide) rfl ?_
  intro p e s m args below meth c s₁ B hml hv
  obtain ⟨rfl, hsz, hP, hK, hD0⟩ := hv
  have hx := B.exec
  have hb := B.bytes
  have hr := B.returns
  have hts := atoms_spec (ws := wsX7_met) B.pre
  have hown : s.vm.findClass RX7 = some m.cls := findClass_of_methodNamed B.named
  have hlocks := B.notSynchronized
  have hcX7 : ∀ w ∈ wsX70, w ∈ wsX7_met := fun _ h => List.mem_cons_of_mem _ (List.mem_append_right _ h)
  subst hsz
  have hD := hD0.self (sz := s.heap.size)
  generalize hAe : va_A [(qM, .inr (7, [.ref qMf, .ref qMz, .ref qMi, .ref qMm, .int (iI (mlate)), .int (iI (mtn)), .ref qMty, .ref qMtk, .ref qMtl, .ref qMtt, .int (iI (mwn)), .ref qMwf, .ref qMwt, .ref qMwl, .ref qMse, .ref qMsi, .ref qMkk, .ref qMkl, .int (iI (mex)), .ref qMey, .ref qMel, .ref qMo, .ref qMx, .int (iI (mtyped)), .int (iI (mat)), .int (iI (mpairs)), .ref qMpl, .ref qMpf]))] s.heap.size = A at hD ⊢
  have hA : ∀ q : Nat, s.heap.size ≤ q → A q := fun q h => by rw [← hAe]; exact Or.inr h
  have hS : va_S A s.heap s.heap [] := va_S.rf
  have hP : va_P D vwCl [(qM, .inr (7, [.ref qMf, .ref qMz, .ref qMi, .ref qMm, .int (iI (mlate)), .int (iI (mtn)), .ref qMty, .ref qMtk, .ref qMtl, .ref qMtt, .int (iI (mwn)), .ref qMwf, .ref qMwt, .ref qMwl, .ref qMse, .ref qMsi, .ref qMkk, .ref qMkl, .int (iI (mex)), .ref qMey, .ref qMel, .ref qMo, .ref qMx, .int (iI (mtyped)), .int (iI (mat)), .int (iI (mpairs)), .ref qMpl, .ref qMpf]))] s.heap := hP
  have hl := lv_entry ([.ref qM, .int (iI (n))]) (n := 2) (Nat.le_of_ble_eq_true rfl)
  rw [lg_entry_eq]
  generalize (lg_sl ([.ref qM, .int (iI (n))]) ++ List.replicate (2 - (lg_sl ([.ref qM, .int (iI (n))])).length) Slot.unset).toArray = ls at hl ⊢
  have hl : lv_has ls 2 [(0, .ref qM), (1, .int (iI (n)))] := hl
  refine lv_aload_n hx hb dX7_met_0 rfl (lv_at hl 0 rfl) ?_
  refine lv_iload_n hx hb dX7_met_1 rfl (lv_at hl 1 rfl) ?_
  refine va_put (D := D) (ci := 7) (v := .int (iI (n))) (ty := .int) (C := RX7) (T := TX7) (N := 28) hx hb hts hcX7 tyX7 tyX7_ok nmX7 hown hK hP hD hS 0 rfl rfl 4 (by decide) (hts (.fieldLink RX7 80 "WallMarksModel" "latest" "I") (List.mem_of_getElem? (i := 1) (by decide +kernel))) (fun _ h9 => h9) rfl (by decide +kernel) rfl rfl (Nat.le_of_ble_eq_true rfl) dX7_met_2 (fun H locs hP hD hS => ?_)
  have hP : va_P D vwCl [(qM, .inr (7, [.ref qMf, .ref qMz, .ref qMi, .ref qMm, .int (iI (n)), .int (iI (mtn)), .ref qMty, .ref qMtk, .ref qMtl, .ref qMtt, .int (iI (mwn)), .ref qMwf, .ref qMwt, .ref qMwl, .ref qMse, .ref qMsi, .ref qMkk, .ref qMkl, .int (iI (mex)), .ref qMey, .ref qMel, .ref qMo, .ref qMx, .int (iI (mtyped)), .int (iI (mat)), .int (iI (mpairs)), .ref qMpl, .ref qMpf]))] H := hP
  have hD : va_D A [(qM, .inr (7, [.ref qMf, .ref qMz, .ref qMi, .ref qMm, .int (iI (n)), .int (iI (mtn)), .ref qMty, .ref qMtk, .ref qMtl, .ref qMtt, .int (iI (mwn)), .ref qMwf, .ref qMwt, .ref qMwl, .ref qMse, .ref qMsi, .ref qMkk, .ref qMkl, .int (iI (mex)), .ref qMey, .ref qMel, .ref qMo, .ref qMx, .int (iI (mtyped)), .int (iI (mat)), .int (iI (mpairs)), .ref qMpl, .ref qMpf]))] := hD
  refine xi_bipush hx hb dX7_met_5 (by decide +kernel) ?_
  refine lv_iload_n hx hb dX7_met_7 rfl (lv_at hl 1 rfl) ?_
  refine xi_sub hx hb dX7_met_8 ?_
  exact W.iret (v := iI ((-10) - n)) hx hb hr (fun t_ ht_ hW_ => ⟨⟨_, (), rfl, ⟨(congrArg iI (show ((-10) - n) = (-10 - n) from by first | rfl | omega)), trivial⟩, by rw [ht_]; exact hP, va_K.moved hW_.alike hK, hD⟩, hS.F ht_⟩) hS.2.2 dX7_met_9
set_option maxHeartbeats 1000000 in
set_option maxRecDepth 100000 in
theorem c_X7_cut (l : Launch) (D : va_G) (cyI cyJ cyO : ClassId) (f9 : Int) (v : Int) (h_f9 : -2147483648 ≤ f9 ∧ f9 ≤ 2147483647) : Met l yX7_cut wsX7_cut ({ frames := 0, cells := 0, slots := 0, locals := 0 }) (va_Pc [.int (iI (f9)), .int (iI (v))] (xR D vwCl [] (xT cyI cyJ cyO))) (xq (some (.int (iI (nar f9 v))))) 0 0 (fun _ => False) := by
  refine Met.ofW (cc := cX7_cut) (maxL := 2) (ret := (some .int)) (by decide) rfl ?_
  intro p e s m args below meth c s₁ B hml hv
  obtain ⟨rfl, hP, hK⟩ := hv
  have hx := B.exec
  have hb := B.bytes
  have hr := B.returns
  have hts := atoms_spec (ws := wsX7_cut) B.pre
  have hown : s.vm.findClass RX7 = some m.cls := findClass_of_methodNamed B.named
  have hlocks := B.notSynchronized
  have hP : va_P D vwCl [] s.heap := hP
  have hl := lv_entry ([.int (iI (f9)), .int (iI (v))]) (n := 2) (Nat.le_of_ble_eq_true rfl)
  rw [lg_entry_eq]
  generalize (lg_sl ([.int (iI (f9)), .int (iI (v))]) ++ List.replicate (2 - (lg_sl ([.int (iI (f9)), .int (iI (v))])).length) Slot.unset).toArray = ls at hl ⊢
  have hl : lv_has ls 2 [(0, .int (iI (f9))), (1, .int (iI (v)))] := hl
  refine lv_iload_n hx hb dX7_cut_0 rfl (lv_at hl 0 rfl) ?_
  refine xb_if_ne (tgt := 9) hx hb dX7_cut_1 (by decide) (by omega) (fun h_1 => ?_) (fun h_1 => ?_)
  · refine lv_iload_n hx hb dX7_cut_9 rfl (lv_at hl 0 rfl) ?_
    refine xi_const hx hb dX7_cut_10 ?_
    refine xb_icmp_ne (tgt := 19) hx hb dX7_cut_11 (by decide) (by omega) (fun h_2 => ?_) (fun h_2 => ?_)
    · refine lv_iload_n hx hb dX7_cut_19 rfl (lv_at hl 1 rfl) ?_
      exact W.iret (v := iI (v)) hx hb hr (fun t_ ht_ _ => ⟨congrArg (fun z => Outcome.returned (some (Value.int (iI z)))) (show (v) = (nar f9 v) from by unfold nar; first | rw [if_pos (by omega)] | rw [if_neg (by omega), if_pos (by omega)] | rw [if_neg (by omega), if_neg (by omega)]), ht_⟩) (fun _ h9 => absurd h9 List.not_mem_nil) dX7_cut_20
    · refine lv_iload_n hx hb dX7_cut_14 rfl (lv_at hl 1 rfl) ?_
      refine xi_i2s hx hb dX7_cut_15 ?_
      refine lv_goto (tgt := 20) hx hb dX7_cut_16 (by decide) ?_
      exact W.iret (v := iI (sxS (v))) hx hb hr (fun t_ ht_ _ => ⟨congrArg (fun z => Outcome.returned (some (Value.int (iI z)))) (show (sxS (v)) = (nar f9 v) from by unfold nar; first | rw [if_pos (by omega)] | rw [if_neg (by omega), if_pos (by omega)] | rw [if_neg (by omega), if_neg (by omega)]), ht_⟩) (fun _ h9 => absurd h9 List.not_mem_nil) dX7_cut_20
  · refine lv_iload_n hx hb dX7_cut_4 rfl (lv_at hl 1 rfl) ?_
    refine xi_i2b hx hb dX7_cut_5 ?_
    refine lv_goto (tgt := 20) hx hb dX7_cut_6 (by decide) ?_
    exact W.iret (v := iI (sxB (v))) hx hb hr (fun t_ ht_ _ => ⟨congrArg (fun z => Outcome.returned (some (Value.int (iI z)))) (show (sxB (v)) = (nar f9 v) from by unfold nar; first | rw [if_pos (by omega)] | rw [if_neg (by omega), if_pos (by omega)] | rw [if_neg (by omega), if_neg (by omega)]), ht_⟩) (fun _ h9 => absurd h9 List.not_mem_nil) dX7_cut_20
set_option maxHeartbeats 1000000 in
set_option maxRecDepth 100000 in
theorem c_X7_divisor (l : Launch) (D : va_G) (cyI cyJ cyO : ClassId) (a : Int) (b : Int) (h_a : -4611686018427387904 ≤ a ∧ a ≤ 4611686018427387904) (h_b : 0 ≤ b ∧ b ≤ 4611686018427387904) : Met l yX7_divisor wsX7_divisor ({ frames := 0, cells := 0, slots := 0, locals := 0 }) (va_Pc [.long (lI (a)), .long (lI (b))] (xR D vwCl [] (xT cyI cyJ cyO))) (xq (some (.long (lI (gcdZ (zabs a) b))))) 0 0 (fun _ => False) := by
  refine Met.ofW (cc := cX7_divisor) (maxL := 10) (ret := (some .long)) (by decide) rfl ?_
  intro p e s m args below meth c s₁ B hml hv
  obtain ⟨rfl, hP, hK⟩ := hv
  have hx := B.exec
  have hb := B.bytes
  have hr := B.returns
  have hts := atoms_spec (ws := wsX7_divisor) B.pre
  have hown : s.vm.findClass RX7 = some m.cls := findClass_of_methodNamed B.named
  have hlocks := B.notSynchronized
  have hP : va_P D vwCl [] s.heap := hP
  have hl := lv_entry ([.long (lI (a)), .long (lI (b))]) (n := 10) (Nat.le_of_ble_eq_true rfl)
  rw [lg_entry_eq]
  generalize (lg_sl ([.long (lI (a)), .long (lI (b))]) ++ List.replicate (10 - (lg_sl ([.long (lI (a)), .long (lI (b))])).length) Slot.unset).toArray = ls at hl ⊢
  have hl : lv_has ls 10 [(0, .long (lI (a))), (2, .long (lI (b)))] := hl
  have cut_17 : ∀ (N_ : Nat) (g : Int) (r : Int) (hg : 0 ≤ g ∧ g ≤ 4611686018427387904) (hr9 : 0 ≤ r ∧ r ≤ 4611686018427387904) (he : gcdZ g r = gcdZ (zabs a) b) (hN_ : (r - 0).toNat < N_) (ls : Array Slot) (hl : lv_has ls 10 [(4, .long (lI (g))), (6, .long (lI (r)))]), W p l e (headSpec wsX7_divisor ({ frames := 0, cells := 0, slots := 0, locals := 0 })).room s m ([.long (lI (a)), .long (lI (b))] : List Value).toArray below meth c s.heap [] 0 0 (MQ below (xq (some (.long (lI (gcdZ (zabs a) b))))) ([.long (lI (a)), .long (lI (b))] : List Value).toArray s 0 0 (fun _ => False)) (F0 m 17 ls []) := by
    intro N_
    induction N_ with
    | zero => intro g r hg hr9 he hN_ ls hl; exact absurd hN_ (Nat.not_lt_zero _)
    | succ N_ ih_17 =>
      intro g r hg hr9 he hN_ ls hl
      refine lv_lload hx hb dX7_divisor_17 (lv_at hl 1 rfl) ?_
      refine xi_lconst0 hx hb dX7_divisor_19 ?_
      refine xl_if_eq (tgt := 42) hx hb dX7_divisor_20 dX7_divisor_21 (by decide) (by omega) (fun h_1 => ?_) (fun h_1 => ?_)
      · refine lv_lload hx hb dX7_divisor_42 (lv_at hl 0 rfl) ?_
        exact W.lret (v := lI (g)) hx hb hr (fun t_ ht_ _ => ⟨congrArg (fun z => Outcome.returned (some (Value.long (lI z)))) (show (g) = (gcdZ (zabs a) b) from by rw [← he, show r = 0 from by omega, gcdZ_0 (by omega)]), ht_⟩) (fun _ h9 => absurd h9 List.not_mem_nil) dX7_divisor_44
      · refine lv_lload hx hb dX7_divisor_24 (lv_at hl 0 rfl) ?_
        refine lv_lload hx hb dX7_divisor_26 (lv_at hl 1 rfl) ?_
        have hm1 := Int.emod_nonneg (g) (show (r) ≠ 0 from by omega)
        have hm2 := Int.emod_lt_of_pos (g) (show 0 < (r) from by omega)
        refine xl_rem hx hb dX7_divisor_28 (by omega) ?_
        refine lv_lstore (lv' := [(8, .long (lI (g % r))), (4, .long (lI (g))), (6, .long (lI (r)))]) hx hb dX7_divisor_29 hl (by decide) rfl (fun ls hl => ?_)
        refine lv_lload hx hb dX7_divisor_31 (lv_at hl 2 rfl) ?_
        refine lv_lstore (lv' := [(4, .long (lI (r))), (8, .long (lI (g % r))), (6, .long (lI (r)))]) hx hb dX7_divisor_33 hl (by decide) rfl (fun ls hl => ?_)
        refine lv_lload hx hb dX7_divisor_35 (lv_at hl 1 rfl) ?_
        refine lv_lstore (lv' := [(6, .long (lI (g % r))), (4, .long (lI (r))), (8, .long (lI (g % r)))]) hx hb dX7_divisor_37 hl (by decide) rfl (fun ls hl => ?_)
        refine lv_goto (tgt := 17) hx hb dX7_divisor_39 (by decide) ?_
        exact ih_17 (r) (g % r) (by first | assumption | omega | (constructor <;> omega)) (by first | assumption | omega | (constructor <;> omega)) (by first | (rw [gcdZ_s (by omega) (by omega)]; exact he) | (rw [(zabs_e a).1 (by omega)]; done) | (rw [(zabs_e a).2 (by omega)]; done)) (by omega) ls (lv_sub hl [1, 0] rfl)
  refine lv_lload_n hx hb dX7_divisor_0 rfl (lv_at hl 0 rfl) ?_
  refine xi_lconst0 hx hb dX7_divisor_1 ?_
  refine xl_if_ge (tgt := 11) hx hb dX7_divisor_2 dX7_divisor_3 (by decide) (by omega) (fun h_2 => ?_) (fun h_2 => ?_)
  · refine lv_lload_n hx hb dX7_divisor_11 rfl (lv_at hl 0 rfl) ?_
    refine lv_lstore (lv' := [(4, .long (lI (a))), (0, .long (lI (a))), (2, .long (lI (b)))]) hx hb dX7_divisor_12 hl (by decide) rfl (fun ls hl => ?_)
    refine lv_lload_n hx hb dX7_divisor_14 rfl (lv_at hl 2 rfl) ?_
    refine lv_lstore (lv' := [(6, .long (lI (b))), (4, .long (lI (a))), (0, .long (lI (a))), (2, .long (lI (b)))]) hx hb dX7_divisor_15 hl (by decide) rfl (fun ls hl => ?_)
    exact cut_17 ((b - 0 : Int).toNat + 1) (a) (b) (by first | assumption | omega | (constructor <;> omega)) (by first | assumption | omega | (constructor <;> omega)) (by first | (rw [gcdZ_s (by omega) (by omega)]; exact he) | (rw [(zabs_e a).1 (by omega)]; done) | (rw [(zabs_e a).2 (by omega)]; done)) (by exact Nat.lt_succ_self _) ls (lv_sub hl [1, 0] rfl)
  · refine lv_lload_n hx hb dX7_divisor_6 rfl (lv_at hl 0 rfl) ?_
    refine xl_neg hx hb dX7_divisor_7 ?_
    refine lv_goto (tgt := 12) hx hb dX7_divisor_8 (by decide) ?_
    refine lv_lstore (lv' := [(4, .long (lI (-a))), (0, .long (lI (a))), (2, .long (lI (b)))]) hx hb dX7_divisor_12 hl (by decide) rfl (fun ls hl => ?_)
    refine lv_lload_n hx hb dX7_divisor_14 rfl (lv_at hl 2 rfl) ?_
    refine lv_lstore (lv' := [(6, .long (lI (b))), (4, .long (lI (-a))), (0, .long (lI (a))), (2, .long (lI (b)))]) hx hb dX7_divisor_15 hl (by decide) rfl (fun ls hl => ?_)
    exact cut_17 ((b - 0 : Int).toNat + 1) (-a) (b) (by first | assumption | omega | (constructor <;> omega)) (by first | assumption | omega | (constructor <;> omega)) (by first | (rw [gcdZ_s (by omega) (by omega)]; exact he) | (rw [(zabs_e a).1 (by omega)]; done) | (rw [(zabs_e a).2 (by omega)]; done)) (by exact Nat.lt_succ_self _) ls (lv_sub hl [1, 0] rfl)
set_option maxHeartbeats 1000000 in
set_option maxRecDepth 100000 in
theorem c_X7_part (l : Launch) (D : va_G) (cyI cyJ cyO : ClassId) (a : Int) (b : Int) (w : Int) (h_a : -4611686018427387904 ≤ a ∧ a ≤ 4611686018427387904) (h_b : 0 < b ∧ b ≤ 4611686018427387904) (h_w : -2147483648 ≤ w ∧ w ≤ 2147483647) : Met l yX7_part wsX7_part ({ frames := 1, cells := 0, slots := 0, locals := 29 }) (va_Pc [.long (lI (a)), .long (lI (b)), .int (iI (w))] (xR D vwCl [] (xT cyI cyJ cyO))) (xq (some (.long (lI (frac a b w))))) 0 0 (fun _ => False) := by
  refine Met.ofW (cc := cX7_part) (maxL := 5) (ret := (some .long)) (by decide) rfl ?_
  intro p e s m args below meth c s₁ B hml hv
  obtain ⟨rfl, hP, hK⟩ := hv
  have hx := B.exec
  have hb := B.bytes
  have hr := B.returns
  have hts := atoms_spec (ws := wsX7_part) B.pre
  have hown : s.vm.findClass RX7 = some m.cls := findClass_of_methodNamed B.named
  have hlocks := B.notSynchronized
  have hP : va_P D vwCl [] s.heap := hP
  have hl := lv_entry ([.long (lI (a)), .long (lI (b)), .int (iI (w))]) (n := 5) (Nat.le_of_ble_eq_true rfl)
  rw [lg_entry_eq]
  generalize (lg_sl ([.long (lI (a)), .long (lI (b)), .int (iI (w))]) ++ List.replicate (5 - (lg_sl ([.long (lI (a)), .long (lI (b)), .int (iI (w))])).length) Slot.unset).toArray = ls at hl ⊢
  have hl : lv_has ls 5 [(0, .long (lI (a))), (2, .long (lI (b))), (4, .int (iI (w)))] := hl
  refine lv_iload hx hb dX7_part_0 (lv_at hl 2 rfl) ?_
  refine xb_if_ne (tgt := 9) hx hb dX7_part_2 (by decide) (by omega) (fun h_1 => ?_) (fun h_1 => ?_)
  · refine lv_lload_n hx hb dX7_part_9 rfl (lv_at hl 1 rfl) ?_
    refine lv_lload_n hx hb dX7_part_10 rfl (lv_at hl 0 rfl) ?_
    refine lv_lload_n hx hb dX7_part_11 rfl (lv_at hl 1 rfl) ?_
    have hPc := hP.sub (ws' := []) [] rfl
    refine xc_l (va_runS (As := [.long (lI (a)), .long (lI (b))]) (rest := [.long (lI (b))]) ⟨hx, hb, hml, hown, hts⟩ (c_X7_divisor l D cyI cyJ cyO a b (by first | exact h_a | assumption | omega) (by first | exact h_b | assumption | omega)) (va_cwS 2 hts gX7_part_X7_divisor rfl rfl rfl (by decide +kernel) ⟨Nat.le_of_ble_eq_true rfl, Nat.le_of_ble_eq_true rfl⟩) (xpS hPc hK) rfl rfl hl.1 rfl (lv_room (Nat.le_of_ble_eq_true rfl)) dX7_part_12 ⟨Nat.le_of_ble_eq_true rfl, Nat.le_of_ble_eq_true rfl⟩) ?_
    have hg1 := gcdZ_pos (a := zabs a) (b := b) (by omega)
    have hg2 := gcdZ_le (a := zabs a) (b := b) (by omega)
    refine xl_div hx hb dX7_part_15 (by omega) ?_
    exact W.lret (v := lI ((b).tdiv (gcdZ (zabs a) b))) hx hb hr (fun t_ ht_ _ => ⟨congrArg (fun z => Outcome.returned (some (Value.long (lI z)))) (show ((b).tdiv (gcdZ (zabs a) b)) = (frac a b w) from by unfold frac; first | rw [if_pos (by omega)] | rw [if_neg (by omega)]), ht_⟩) (fun _ h9 => absurd h9 List.not_mem_nil) dX7_part_16
  · refine lv_lload_n hx hb dX7_part_5 rfl (lv_at hl 0 rfl) ?_
    refine lv_goto (tgt := 10) hx hb dX7_part_6 (by decide) ?_
    refine lv_lload_n hx hb dX7_part_10 rfl (lv_at hl 0 rfl) ?_
    refine lv_lload_n hx hb dX7_part_11 rfl (lv_at hl 1 rfl) ?_
    have hPc := hP.sub (ws' := []) [] rfl
    refine xc_l (va_runS (As := [.long (lI (a)), .long (lI (b))]) (rest := [.long (lI (a))]) ⟨hx, hb, hml, hown, hts⟩ (c_X7_divisor l D cyI cyJ cyO a b (by first | exact h_a | assumption | omega) (by first | exact h_b | assumption | omega)) (va_cwS 2 hts gX7_part_X7_divisor rfl rfl rfl (by decide +kernel) ⟨Nat.le_of_ble_eq_true rfl, Nat.le_of_ble_eq_true rfl⟩) (xpS hPc hK) rfl rfl hl.1 rfl (lv_room (Nat.le_of_ble_eq_true rfl)) dX7_part_12 ⟨Nat.le_of_ble_eq_true rfl, Nat.le_of_ble_eq_true rfl⟩) ?_
    have hg1 := gcdZ_pos (a := zabs a) (b := b) (by omega)
    have hg2 := gcdZ_le (a := zabs a) (b := b) (by omega)
    refine xl_div hx hb dX7_part_15 (by omega) ?_
    exact W.lret (v := lI ((a).tdiv (gcdZ (zabs a) b))) hx hb hr (fun t_ ht_ _ => ⟨congrArg (fun z => Outcome.returned (some (Value.long (lI z)))) (show ((a).tdiv (gcdZ (zabs a) b)) = (frac a b w) from by unfold frac; first | rw [if_pos (by omega)] | rw [if_neg (by omega)]), ht_⟩) (fun _ h9 => absurd h9 List.not_mem_nil) dX7_part_16
set_option maxHeartbeats 1000000 in
set_option maxRecDepth 100000 in
theorem c_X7_choices (l : Launch) (D : va_G) (cyI cyJ cyO : ClassId) (n : Int) (k : Int) (h_k : 0 ≤ k ∧ k ≤ n) (h_n : n ≤ 40) : Met l yX7_choices wsX7_choices ({ frames := 0, cells := 0, slots := 0, locals := 0 }) (va_Pc [.int (iI (n)), .int (iI (k))] (xR D vwCl [] (xT cyI cyJ cyO))) (xq (some (.long (lI (chI n k))))) 0 0 (fun _ => False) := by
  refine Met.ofW (cc := cX7_choices) (maxL := 5) (ret := (some .long)) (by decide) rfl ?_
  intro p e s m args below meth c s₁ B hml hv
  obtain ⟨rfl, hP, hK⟩ := hv
  have hx := B.exec
  have hb := B.bytes
  have hr := B.returns
  have hts := atoms_spec (ws := wsX7_choices) B.pre
  have hown : s.vm.findClass RX7 = some m.cls := findClass_of_methodNamed B.named
  have hlocks := B.notSynchronized
  have hP : va_P D vwCl [] s.heap := hP
  have hl := lv_entry ([.int (iI (n)), .int (iI (k))]) (n := 5) (Nat.le_of_ble_eq_true rfl)
  rw [lg_entry_eq]
  generalize (lg_sl ([.int (iI (n)), .int (iI (k))]) ++ List.replicate (5 - (lg_sl ([.int (iI (n)), .int (iI (k))])).length) Slot.unset).toArray = ls at hl ⊢
  have hl : lv_has ls 5 [(0, .int (iI (n))), (1, .int (iI (k)))] := hl
  have cut_5 : ∀ (N_ : Nat) (i : Int) (a : Int) (hi : 0 ≤ i ∧ i ≤ k) (ha : a = chI n i) (hN_ : (k - i).toNat < N_) (ls : Array Slot) (hl : lv_has ls 5 [(0, .int (iI (n))), (1, .int (iI (k))), (2, .long (lI (a))), (4, .int (iI (i)))]), W p l e (headSpec wsX7_choices ({ frames := 0, cells := 0, slots := 0, locals := 0 })).room s m ([.int (iI (n)), .int (iI (k))] : List Value).toArray below meth c s.heap [] 0 0 (MQ below (xq (some (.long (lI (chI n k))))) ([.int (iI (n)), .int (iI (k))] : List Value).toArray s 0 0 (fun _ => False)) (F0 m 5 ls []) := by
    intro N_
    induction N_ with
    | zero => intro i a hi ha hN_ ls hl; exact absurd hN_ (Nat.not_lt_zero _)
    | succ N_ ih_5 =>
      intro i a hi ha hN_ ls hl
      have hin := chI_in (n := n) (k := i) (by omega)
      have hm := mul_in (a := a) (b := n - i) (A := 1099511627776) (B := 40)
      refine lv_iload hx hb dX7_choices_5 (lv_at hl 3 rfl) ?_
      refine lv_iload_n hx hb dX7_choices_7 rfl (lv_at hl 1 rfl) ?_
      refine xb_icmp_ge (tgt := 31) hx hb dX7_choices_8 (by decide) (by omega) (fun h_1 => ?_) (fun h_1 => ?_)
      · refine lv_lload_n hx hb dX7_choices_31 rfl (lv_at hl 2 rfl) ?_
        exact W.lret (v := lI (a)) hx hb hr (fun t_ ht_ _ => ⟨congrArg (fun z => Outcome.returned (some (Value.long (lI z)))) (show (a) = (chI n k) from by rw [ha, show i = k from by omega]), ht_⟩) (fun _ h9 => absurd h9 List.not_mem_nil) dX7_choices_32
      · refine lv_lload_n hx hb dX7_choices_11 rfl (lv_at hl 2 rfl) ?_
        refine lv_iload_n hx hb dX7_choices_12 rfl (lv_at hl 0 rfl) ?_
        refine lv_iload hx hb dX7_choices_13 (lv_at hl 3 rfl) ?_
        refine xi_sub hx hb dX7_choices_15 ?_
        refine xi_i2l hx hb dX7_choices_16 (by omega) ?_
        refine xl_mul hx hb dX7_choices_17 ?_
        refine lv_iload hx hb dX7_choices_18 (lv_at hl 3 rfl) ?_
        refine xi_const hx hb dX7_choices_20 ?_
        refine xi_add hx hb dX7_choices_21 ?_
        refine xi_i2l hx hb dX7_choices_22 (by omega) ?_
        have hm2 := hm (by omega) (by omega)
        refine xl_div hx hb dX7_choices_23 (by omega) ?_
        refine lv_lstore_n (lv' := [(2, .long (lI ((a * (n - i)).tdiv (i + 1)))), (0, .int (iI (n))), (1, .int (iI (k))), (4, .int (iI (i)))]) hx hb dX7_choices_24 rfl hl (by decide) rfl (fun ls hl => ?_)
        refine xi_inc (k := 3) (lv' := [(4, .int (iI (i + 1))), (2, .long (lI ((a * (n - i)).tdiv (i + 1)))), (0, .int (iI (n))), (1, .int (iI (k)))]) hx hb dX7_choices_25 hl rfl (by decide) rfl (fun ls hl => ?_)
        refine lv_goto (tgt := 5) hx hb dX7_choices_28 (by decide) ?_
        exact ih_5 (i + 1) ((a * (n - i)).tdiv (i + 1)) (by first | assumption | omega | (constructor <;> omega)) (by first | (rw [ha]; exact chI_st2 (by omega) (by omega)) | (rw [chI_0])) (by omega) ls (lv_sub hl [2, 3, 1, 0] rfl)
  refine xi_lconst1 hx hb dX7_choices_0 ?_
  refine lv_lstore_n (lv' := [(2, .long (lI (1))), (0, .int (iI (n))), (1, .int (iI (k)))]) hx hb dX7_choices_1 rfl hl (by decide) rfl (fun ls hl => ?_)
  refine xi_const hx hb dX7_choices_2 ?_
  refine lv_istore (lv' := [(4, .int (iI (0))), (2, .long (lI (1))), (0, .int (iI (n))), (1, .int (iI (k)))]) hx hb dX7_choices_3 hl (by decide) rfl (fun ls hl => ?_)
  exact cut_5 ((k - 0 : Int).toNat + 1) (0) (1) (by first | assumption | omega | (constructor <;> omega)) (by first | (rw [ha]; exact chI_st2 (by omega) (by omega)) | (rw [chI_0])) (by exact Nat.lt_succ_self _) ls (lv_sub hl [2, 3, 1, 0] rfl)
set_option maxHeartbeats 1000000 in
set_option maxRecDepth 100000 in
theorem c_X7_power (l : Launch) (D : va_G) (cyI cyJ cyO : ClassId) (b : Int) (w : Int) (h_b : -2147483648 ≤ b ∧ b ≤ 2147483647) (h_w : 0 ≤ w ∧ w ≤ 1000) : Met l yX7_power wsX7_power ({ frames := 0, cells := 0, slots := 0, locals := 0 }) (va_Pc [.int (iI (b)), .int (iI (w))] (xR D vwCl [] (xT cyI cyJ cyO))) (xq (some (.long (lI (b ^ w.toNat))))) 0 0 (fun _ => False) := by
  refine Met.ofW (cc := cX7_power) (maxL := 5) (ret := (some .long)) (by decide) rfl ?_
  intro p e s m args below meth c s₁ B hml hv
  obtain ⟨rfl, hP, hK⟩ := hv
  have hx := B.exec
  have hb := B.bytes
  have hr := B.returns
  have hts := atoms_spec (ws := wsX7_power) B.pre
  have hown : s.vm.findClass RX7 = some m.cls := findClass_of_methodNamed B.named
  have hlocks := B.notSynchronized
  have hP : va_P D vwCl [] s.heap := hP
  have hl := lv_entry ([.int (iI (b)), .int (iI (w))]) (n := 5) (Nat.le_of_ble_eq_true rfl)
  rw [lg_entry_eq]
  generalize (lg_sl ([.int (iI (b)), .int (iI (w))]) ++ List.replicate (5 - (lg_sl ([.int (iI (b)), .int (iI (w))])).length) Slot.unset).toArray = ls at hl ⊢
  have hl : lv_has ls 5 [(0, .int (iI (b))), (1, .int (iI (w)))] := hl
  have cut_5 : ∀ (N_ : Nat) (i : Int) (a : Int) (hi : 0 ≤ i ∧ i ≤ w) (ha : a = b ^ i.toNat) (hN_ : (w - i).toNat < N_) (ls : Array Slot) (hl : lv_has ls 5 [(0, .int (iI (b))), (1, .int (iI (w))), (2, .long (lI (a))), (4, .int (iI (i)))]), W p l e (headSpec wsX7_power ({ frames := 0, cells := 0, slots := 0, locals := 0 })).room s m ([.int (iI (b)), .int (iI (w))] : List Value).toArray below meth c s.heap [] 0 0 (MQ below (xq (some (.long (lI (b ^ w.toNat))))) ([.int (iI (b)), .int (iI (w))] : List Value).toArray s 0 0 (fun _ => False)) (F0 m 5 ls []) := by
    intro N_
    induction N_ with
    | zero => intro i a hi ha hN_ ls hl; exact absurd hN_ (Nat.not_lt_zero _)
    | succ N_ ih_5 =>
      intro i a hi ha hN_ ls hl
      refine lv_iload hx hb dX7_power_5 (lv_at hl 3 rfl) ?_
      refine lv_iload_n hx hb dX7_power_7 rfl (lv_at hl 1 rfl) ?_
      refine xb_icmp_ge (tgt := 22) hx hb dX7_power_8 (by decide) (by omega) (fun h_1 => ?_) (fun h_1 => ?_)
      · refine lv_lload_n hx hb dX7_power_22 rfl (lv_at hl 2 rfl) ?_
        exact W.lret (v := lI (a)) hx hb hr (fun t_ ht_ _ => ⟨congrArg (fun z => Outcome.returned (some (Value.long (lI z)))) (show (a) = (b ^ w.toNat) from by rw [ha, show i = w from by omega]), ht_⟩) (fun _ h9 => absurd h9 List.not_mem_nil) dX7_power_23
      · refine lv_lload_n hx hb dX7_power_11 rfl (lv_at hl 2 rfl) ?_
        refine lv_iload_n hx hb dX7_power_12 rfl (lv_at hl 0 rfl) ?_
        refine xi_i2l hx hb dX7_power_13 (by omega) ?_
        refine xl_mul hx hb dX7_power_14 ?_
        refine lv_lstore_n (lv' := [(2, .long (lI (a * b))), (0, .int (iI (b))), (1, .int (iI (w))), (4, .int (iI (i)))]) hx hb dX7_power_15 rfl hl (by decide) rfl (fun ls hl => ?_)
        refine xi_inc (k := 3) (lv' := [(4, .int (iI (i + 1))), (2, .long (lI (a * b))), (0, .int (iI (b))), (1, .int (iI (w)))]) hx hb dX7_power_16 hl rfl (by decide) rfl (fun ls hl => ?_)
        refine lv_goto (tgt := 5) hx hb dX7_power_19 (by decide) ?_
        exact ih_5 (i + 1) (a * b) (by first | assumption | omega | (constructor <;> omega)) (by first | exact (Int.pow_zero _).symm | (rw [pow_s _ (by omega), ha])) (by omega) ls (lv_sub hl [2, 3, 1, 0] rfl)
  refine xi_lconst1 hx hb dX7_power_0 ?_
  refine lv_lstore_n (lv' := [(2, .long (lI (1))), (0, .int (iI (b))), (1, .int (iI (w)))]) hx hb dX7_power_1 rfl hl (by decide) rfl (fun ls hl => ?_)
  refine xi_const hx hb dX7_power_2 ?_
  refine lv_istore (lv' := [(4, .int (iI (0))), (2, .long (lI (1))), (0, .int (iI (b))), (1, .int (iI (w)))]) hx hb dX7_power_3 hl (by decide) rfl (fun ls hl => ?_)
  exact cut_5 ((w - 0 : Int).toNat + 1) (0) (1) (by first | assumption | omega | (constructor <;> omega)) (by first | exact (Int.pow_zero _).symm | (rw [pow_s _ (by omega), ha])) (by exact Nat.lt_succ_self _) ls (lv_sub hl [2, 3, 1, 0] rfl)
set_option maxHeartbeats 1000000 in
set_option maxRecDepth 100000 in
theorem c_X7_millionths (l : Launch) (D : va_G) (cyI cyJ cyO : ClassId) (a : Int) (b : Int) (h_a : 0 ≤ a ∧ a ≤ 1000000000) (h_b : 0 < b ∧ b ≤ 1000000000000) : Met l yX7_millionths wsX7_millionths ({ frames := 0, cells := 0, slots := 0, locals := 0 }) (va_Pc [.long (lI (a)), .long (lI (b))] (xR D vwCl [] (xT cyI cyJ cyO))) (xq (some (.int (iI ((a * 1000000).tdiv b))))) 0 0 (fun _ => False) := by
  refine Met.ofW (cc := cX7_millionths) (maxL := 4) (ret := (some .int)) (by decide) rfl ?_
  intro p e s m args below meth c s₁ B hml hv
  obtain ⟨rfl, hP, hK⟩ := hv
  have hx := B.exec
  have hb := B.bytes
  have hr := B.returns
  have hts := atoms_spec (ws := wsX7_millionths) B.pre
  have hown : s.vm.findClass RX7 = some m.cls := findClass_of_methodNamed B.named
  have hlocks := B.notSynchronized
  have hP : va_P D vwCl [] s.heap := hP
  have hl := lv_entry ([.long (lI (a)), .long (lI (b))]) (n := 4) (Nat.le_of_ble_eq_true rfl)
  rw [lg_entry_eq]
  generalize (lg_sl ([.long (lI (a)), .long (lI (b))]) ++ List.replicate (4 - (lg_sl ([.long (lI (a)), .long (lI (b))])).length) Slot.unset).toArray = ls at hl ⊢
  have hl : lv_has ls 4 [(0, .long (lI (a))), (2, .long (lI (b)))] := hl
  refine lv_ldc2 (v := lI (1000000)) hx hb hown (hts (.constantLong RX7 109 (lI (1000000))) (List.mem_of_getElem? (i := 1) (by decide +kernel))) dX7_millionths_0 ?_
  refine lv_lload_n hx hb dX7_millionths_3 rfl (lv_at hl 0 rfl) ?_
  refine xl_mul hx hb dX7_millionths_4 ?_
  refine lv_lload_n hx hb dX7_millionths_5 rfl (lv_at hl 1 rfl) ?_
  refine xl_div hx hb dX7_millionths_6 (by omega) ?_
  refine xi_l2i hx hb dX7_millionths_7 ?_
  exact W.iret (v := iI ((1000000 * a).tdiv (b))) hx hb hr (fun t_ ht_ _ => ⟨congrArg (fun z => Outcome.returned (some (Value.int (iI z)))) (show ((1000000 * a).tdiv (b)) = ((a * 1000000).tdiv b) from by rw [Int.mul_comm 1000000 a]), ht_⟩) (fun _ h9 => absurd h9 List.not_mem_nil) dX7_millionths_8
set_option maxHeartbeats 1000000 in
set_option maxRecDepth 100000 in
theorem c_X7_goOver (l : Launch) (D : va_G) (cyI cyJ cyO : ClassId) (n : Int) (a : Int) (lo : Int) (hi : Int) (h_n : 0 ≤ n ∧ n ≤ 15) (h_a : 0 ≤ a ∧ a ≤ 16) (h_lo : 0 ≤ lo ∧ lo ≤ 60) (h_hi : 0 ≤ hi ∧ hi ≤ 60) : Met l yX7_goOver wsX7_goOver ({ frames := 1, cells := 0, slots := 0, locals := 24 }) (va_Pc [.int (iI (n)), .int (iI (a)), .int (iI (lo)), .int (iI (hi))] (xR D vwCl [] (xT cyI cyJ cyO))) (xq (some (.long (lI (goF n a lo (hi + 1)))))) 0 0 (fun _ => False) := by
  refine Met.ofW (cc := cX7_goOver) (maxL := 7) (ret := (some .long)) (by decide) rfl ?_
  intro p e s m args below meth c s₁ B hml hv
  obtain ⟨rfl, hP, hK⟩ := hv
  have hx := B.exec
  have hb := B.bytes
  have hr := B.returns
  have hts := atoms_spec (ws := wsX7_goOver) B.pre
  have hown : s.vm.findClass RX7 = some m.cls := findClass_of_methodNamed B.named
  have hlocks := B.notSynchronized
  have hP : va_P D vwCl [] s.heap := hP
  have hl := lv_entry ([.int (iI (n)), .int (iI (a)), .int (iI (lo)), .int (iI (hi))]) (n := 7) (Nat.le_of_ble_eq_true rfl)
  rw [lg_entry_eq]
  generalize (lg_sl ([.int (iI (n)), .int (iI (a)), .int (iI (lo)), .int (iI (hi))]) ++ List.replicate (7 - (lg_sl ([.int (iI (n)), .int (iI (a)), .int (iI (lo)), .int (iI (hi))])).length) Slot.unset).toArray = ls at hl ⊢
  have hl : lv_has ls 7 [(0, .int (iI (n))), (1, .int (iI (a))), (2, .int (iI (lo))), (3, .int (iI (hi)))] := hl
  have cut_6 : ∀ (N_ : Nat) (i : Int) (t : Int) (h7 : lo ≤ i ∧ i ≤ 61) (h8 : i = lo ∨ (i ≤ hi + 1 ∧ i ≤ n + 1)) (ht9 : t = sumZ (fun j => goS n a (lo + j)) (i - lo)) (hN_ : (61 - i).toNat < N_) (ls : Array Slot) (hl : lv_has ls 7 [(0, .int (iI (n))), (1, .int (iI (a))), (2, .int (iI (lo))), (3, .int (iI (hi))), (4, .long (lI (t))), (6, .int (iI (i)))]), W p l e (headSpec wsX7_goOver ({ frames := 1, cells := 0, slots := 0, locals := 24 })).room s m ([.int (iI (n)), .int (iI (a)), .int (iI (lo)), .int (iI (hi))] : List Value).toArray below meth c s.heap [] 0 0 (MQ below (xq (some (.long (lI (goF n a lo (hi + 1)))))) ([.int (iI (n)), .int (iI (a)), .int (iI (lo)), .int (iI (hi))] : List Value).toArray s 0 0 (fun _ => False)) (F0 m 6 ls []) := by
    intro N_
    induction N_ with
    | zero => intro i t h7 h8 ht9 hN_ ls hl; exact absurd hN_ (Nat.not_lt_zero _)
    | succ N_ ih_6 =>
      intro i t h7 h8 ht9 hN_ ls hl
      refine lv_iload hx hb dX7_goOver_6 (lv_at hl 5 rfl) ?_
      refine lv_iload_n hx hb dX7_goOver_8 rfl (lv_at hl 3 rfl) ?_
      refine xb_icmp_gt (tgt := 54) hx hb dX7_goOver_9 (by decide) (by omega) (fun h_1 => ?_) (fun h_1 => ?_)
      · refine lv_lload hx hb dX7_goOver_54 (lv_at hl 4 rfl) ?_
        exact W.lret (v := lI (t)) hx hb hr (fun t_ ht_ _ => ⟨congrArg (fun z => Outcome.returned (some (Value.long (lI z)))) (show (t) = (goF n a lo (hi + 1)) from by rw [ht9]; exact goF_e (by omega) (by omega) (by omega)), ht_⟩) (fun _ h9 => absurd h9 List.not_mem_nil) dX7_goOver_56
      · refine lv_iload hx hb dX7_goOver_12 (lv_at hl 5 rfl) ?_
        refine lv_iload_n hx hb dX7_goOver_14 rfl (lv_at hl 0 rfl) ?_
        refine xb_icmp_gt (tgt := 54) hx hb dX7_goOver_15 (by decide) (by omega) (fun h_2 => ?_) (fun h_2 => ?_)
        · refine lv_lload hx hb dX7_goOver_54 (lv_at hl 4 rfl) ?_
          exact W.lret (v := lI (t)) hx hb hr (fun t_ ht_ _ => ⟨congrArg (fun z => Outcome.returned (some (Value.long (lI z)))) (show (t) = (goF n a lo (hi + 1)) from by rw [ht9]; exact goF_e (by omega) (by omega) (by omega)), ht_⟩) (fun _ h9 => absurd h9 List.not_mem_nil) dX7_goOver_56
        · refine lv_lload hx hb dX7_goOver_18 (lv_at hl 4 rfl) ?_
          refine lv_iload_n hx hb dX7_goOver_20 rfl (lv_at hl 0 rfl) ?_
          refine lv_iload hx hb dX7_goOver_21 (lv_at hl 5 rfl) ?_
          have hf_3 := chI_in (n := n) (k := i) (by omega)
          have hf_4 := chI_pos (n := n) (k := i) (by omega)
          have hPc := hP.sub (ws' := []) [] rfl
          refine xc_l (va_runS (As := [.int (iI (n)), .int (iI (i))]) (rest := [.long (lI (t))]) ⟨hx, hb, hml, hown, hts⟩ (c_X7_choices l D cyI cyJ cyO n i (by first | exact h_k | assumption | omega) (by first | exact h_n | assumption | omega)) (va_cwS 2 hts gX7_goOver_X7_choices rfl rfl rfl (by decide +kernel) ⟨Nat.le_of_ble_eq_true rfl, Nat.le_of_ble_eq_true rfl⟩) (xpS hPc hK) rfl rfl hl.1 rfl (lv_room (Nat.le_of_ble_eq_true rfl)) dX7_goOver_23 ⟨Nat.le_of_ble_eq_true rfl, Nat.le_of_ble_eq_true rfl⟩) ?_
          refine lv_iload_n hx hb dX7_goOver_26 rfl (lv_at hl 1 rfl) ?_
          refine lv_iload hx hb dX7_goOver_27 (lv_at hl 5 rfl) ?_
          have hPc := hP.sub (ws' := []) [] rfl
          refine xc_l (va_runS (As := [.int (iI (a)), .int (iI (i))]) (rest := [.long (lI (chI n i)), .long (lI (t))]) ⟨hx, hb, hml, hown, hts⟩ (c_X7_power l D cyI cyJ cyO a i (by first | exact h_b | assumption | omega) (by first | exact h_w | assumption | omega)) (va_cwS 2 hts gX7_goOver_X7_power rfl rfl rfl (by decide +kernel) ⟨Nat.le_of_ble_eq_true rfl, Nat.le_of_ble_eq_true rfl⟩) (xpS hPc hK) rfl rfl hl.1 rfl (lv_room (Nat.le_of_ble_eq_true rfl)) dX7_goOver_29 ⟨Nat.le_of_ble_eq_true rfl, Nat.le_of_ble_eq_true rfl⟩) ?_
          refine xl_mul hx hb dX7_goOver_32 ?_
          refine xi_bipush hx hb dX7_goOver_33 (by decide +kernel) ?_
          refine lv_iload_n hx hb dX7_goOver_35 rfl (lv_at hl 1 rfl) ?_
          refine xi_sub hx hb dX7_goOver_36 ?_
          refine lv_iload_n hx hb dX7_goOver_37 rfl (lv_at hl 0 rfl) ?_
          refine lv_iload hx hb dX7_goOver_38 (lv_at hl 5 rfl) ?_
          refine xi_sub hx hb dX7_goOver_40 ?_
          have hPc := hP.sub (ws' := []) [] rfl
          refine xc_l (va_runS (As := [.int (iI (16 - a)), .int (iI (n - i))]) (rest := [.long (lI ((chI n i) * (a ^ i.toNat))), .long (lI (t))]) ⟨hx, hb, hml, hown, hts⟩ (c_X7_power l D cyI cyJ cyO (16 - a) (n - i) (by first | exact h_b | assumption | omega) (by first | exact h_w | assumption | omega)) (va_cwS 2 hts gX7_goOver_X7_power rfl rfl rfl (by decide +kernel) ⟨Nat.le_of_ble_eq_true rfl, Nat.le_of_ble_eq_true rfl⟩) (xpS hPc hK) rfl rfl hl.1 rfl (lv_room (Nat.le_of_ble_eq_true rfl)) dX7_goOver_41 ⟨Nat.le_of_ble_eq_true rfl, Nat.le_of_ble_eq_true rfl⟩) ?_
          refine xl_mul hx hb dX7_goOver_44 ?_
          refine xl_add hx hb dX7_goOver_45 ?_
          refine lv_lstore (lv' := [(4, .long (lI (t + (((chI n i) * (a ^ i.toNat)) * ((16 - a) ^ (n - i).toNat))))), (0, .int (iI (n))), (1, .int (iI (a))), (2, .int (iI (lo))), (3, .int (iI (hi))), (6, .int (iI (i)))]) hx hb dX7_goOver_46 hl (by decide) rfl (fun ls hl => ?_)
          refine xi_inc (k := 5) (lv' := [(6, .int (iI (i + 1))), (4, .long (lI (t + (((chI n i) * (a ^ i.toNat)) * ((16 - a) ^ (n - i).toNat))))), (0, .int (iI (n))), (1, .int (iI (a))), (2, .int (iI (lo))), (3, .int (iI (hi)))]) hx hb dX7_goOver_48 hl rfl (by decide) rfl (fun ls hl => ?_)
          refine lv_goto (tgt := 6) hx hb dX7_goOver_51 (by decide) ?_
          exact ih_6 (i + 1) (t + (((chI n i) * (a ^ i.toNat)) * ((16 - a) ^ (n - i).toNat))) (by first | assumption | omega | (constructor <;> omega)) (by first | assumption | omega | (constructor <;> omega)) (by first | (rw [goF_s (by omega), ht9]; rfl) | (rw [show lo - lo = 0 from by omega]; rfl)) (by omega) ls (lv_sub hl [2, 3, 4, 5, 1, 0] rfl)
  refine xi_lconst0 hx hb dX7_goOver_0 ?_
  refine lv_lstore (lv' := [(4, .long (lI (0))), (0, .int (iI (n))), (1, .int (iI (a))), (2, .int (iI (lo))), (3, .int (iI (hi)))]) hx hb dX7_goOver_1 hl (by decide) rfl (fun ls hl => ?_)
  refine lv_iload_n hx hb dX7_goOver_3 rfl (lv_at hl 3 rfl) ?_
  refine lv_istore (lv' := [(6, .int (iI (lo))), (4, .long (lI (0))), (0, .int (iI (n))), (1, .int (iI (a))), (2, .int (iI (lo))), (3, .int (iI (hi)))]) hx hb dX7_goOver_4 hl (by decide) rfl (fun ls hl => ?_)
  exact cut_6 ((61 - lo : Int).toNat + 1) (lo) (0) (by first | assumption | omega | (constructor <;> omega)) (by first | assumption | omega | (constructor <;> omega)) (by first | (rw [goF_s (by omega), ht9]; rfl) | (rw [show lo - lo = 0 from by omega]; rfl)) (by exact Nat.lt_succ_self _) ls (lv_sub hl [2, 3, 4, 5, 1, 0] rfl)
set_option maxHeartbeats 1000000 in
set_option maxRecDepth 100000 in
theorem c_X7_isEarly (l : Launch) (D : va_G) (cyI cyJ cyO : ClassId) (qM : Nat) (qMf : Nat) (qMz : Nat) (qMi : Nat) (qMm : Nat) (mlate : Int) (mtn : Int) (qMty : Nat) (qMtk : Nat) (qMtl : Nat) (qMtt : Nat) (mwn : Int) (qMwf : Nat) (qMwt : Nat) (qMwl : Nat) (qMse : Nat) (qMsi : Nat) (qMkk : Nat) (qMkl : Nat) (mex : Int) (qMey : Nat) (qMel : Nat) (qMo : Nat) (qMx : Nat) (mtyped : Int) (mat : Int) (mpairs : Int) (qMpl : Nat) (qMpf : Nat) (mtt : Int → Int) (t9 : Int) (h_mtn : 0 ≤ mtn ∧ mtn ≤ 120) (h_mtt : ∀ j, 0 ≤ mtt j ∧ mtt j ≤ 999) (h_t9 : -2147483648 ≤ t9 ∧ t9 ≤ 2147483647) : Met l yX7_isEarly wsX7_isEarly ({ frames := 0, cells := 0, slots := 0, locals := 0 }) (va_Pc [.ref qM, .int (iI (t9))] (xR D vwCl [(qM, .inr (7, [.ref qMf, .ref qMz, .ref qMi, .ref qMm, .int (iI (mlate)), .int (iI (mtn)), .ref qMty, .ref qMtk, .ref qMtl, .ref qMtt, .int (iI (mwn)), .ref qMwf, .ref qMwt, .ref qMwl, .ref qMse, .ref qMsi, .ref qMkk, .ref qMkl, .int (iI (mex)), .ref qMey, .ref qMel, .ref qMo, .ref qMx, .int (iI (mtyped)), .int (iI (mat)), .int (iI (mpairs)), .ref qMpl, .ref qMpf])), (qMtt, .inl (cyI, 120, .inl (xA (mtt))))] (xT cyI cyJ cyO))) (xq (some (.int (iI (b2 (0 < mtn ∧ t9 < mtt (mtn - 1))))))) 0 0 (fun _ => False) := by
  refine Met.ofW (cc := cX7_isEarly) (maxL := 2) (ret := (some .boolean)) (by decide) rfl ?_
  intro p e s m args below meth c s₁ B hml hv
  obtain ⟨rfl, hP, hK⟩ := hv
  have hx := B.exec
  have hb := B.bytes
  have hr := B.returns
  have hts := atoms_spec (ws := wsX7_isEarly) B.pre
  have hown : s.vm.findClass RX7 = some m.cls := findClass_of_methodNamed B.named
  have hlocks := B.notSynchronized
  have hcX7 : ∀ w ∈ wsX70, w ∈ wsX7_isEarly := fun _ h => List.mem_cons_of_mem _ (List.mem_append_right _ h)
  have hP : va_P D vwCl [(qM, .inr (7, [.ref qMf, .ref qMz, .ref qMi, .ref qMm, .int (iI (mlate)), .int (iI (mtn)), .ref qMty, .ref qMtk, .ref qMtl, .ref qMtt, .int (iI (mwn)), .ref qMwf, .ref qMwt, .ref qMwl, .ref qMse, .ref qMsi, .ref qMkk, .ref qMkl, .int (iI (mex)), .ref qMey, .ref qMel, .ref qMo, .ref qMx, .int (iI (mtyped)), .int (iI (mat)), .int (iI (mpairs)), .ref qMpl, .ref qMpf])), (qMtt, .inl (cyI, 120, .inl (xA (mtt))))] s.heap := hP
  have hl := lv_entry ([.ref qM, .int (iI (t9))]) (n := 2) (Nat.le_of_ble_eq_true rfl)
  rw [lg_entry_eq]
  generalize (lg_sl ([.ref qM, .int (iI (t9))]) ++ List.replicate (2 - (lg_sl ([.ref qM, .int (iI (t9))])).length) Slot.unset).toArray = ls at hl ⊢
  have hl : lv_has ls 2 [(0, .ref qM), (1, .int (iI (t9)))] := hl
  refine lv_aload_n hx hb dX7_isEarly_0 rfl (lv_at hl 0 rfl) ?_
  refine va_get (D := D) (ci := 7) (C := RX7) (T := TX7) (N := 28) hx hb hts hcX7 hown hK hP 0 rfl rfl 5 (by decide) (hts (.fieldLink RX7 115 "WallMarksModel" "tellings" "I") (List.mem_of_getElem? (i := 1) (by decide +kernel))) (fun _ h9 => h9) rfl dX7_isEarly_1 ?_
  refine xb_if_le (tgt := 26) hx hb dX7_isEarly_4 (by decide) (by omega) (fun h_1 => ?_) (fun h_1 => ?_)
  · refine xi_const hx hb dX7_isEarly_26 ?_
    exact W.zret (v := iI (0)) hx hb hr (by decide +kernel) (fun t_ ht_ _ => ⟨congrArg (fun z => Outcome.returned (some (Value.int (iI z)))) (show (0 : Int) = b2 (0 < mtn ∧ t9 < mtt (mtn - 1)) from (b2_f (by first | assumption | omega | (constructor <;> first | assumption | omega))).symm), ht_⟩) (fun _ h9 => absurd h9 List.not_mem_nil) dX7_isEarly_27
  · refine lv_iload_n hx hb dX7_isEarly_7 rfl (lv_at hl 1 rfl) ?_
    refine lv_aload_n hx hb dX7_isEarly_8 rfl (lv_at hl 0 rfl) ?_
    refine va_get (D := D) (ci := 7) (C := RX7) (T := TX7) (N := 28) hx hb hts hcX7 hown hK hP 0 rfl rfl 9 (by decide) (hts (.fieldLink RX7 31 "WallMarksModel" "toldTime" "[I") (List.mem_of_getElem? (i := 2) (by decide +kernel))) (fun _ h9 => h9) rfl dX7_isEarly_9 ?_
    refine lv_aload_n hx hb dX7_isEarly_12 rfl (lv_at hl 0 rfl) ?_
    refine va_get (D := D) (ci := 7) (C := RX7) (T := TX7) (N := 28) hx hb hts hcX7 hown hK hP 0 rfl rfl 5 (by decide) (hts (.fieldLink RX7 115 "WallMarksModel" "tellings" "I") (List.mem_of_getElem? (i := 1) (by decide +kernel))) (fun _ h9 => h9) rfl dX7_isEarly_13 ?_
    refine xi_const hx hb dX7_isEarly_16 ?_
    refine xi_sub hx hb dX7_isEarly_17 ?_
    refine xi_ald (D := D) hx hb hK hP 1 0 rfl rfl (by decide) (by omega) dX7_isEarly_18 ?_
    have hr_2 := h_mtt (mtn - 1)
    refine xb_icmp_ge (tgt := 26) hx hb dX7_isEarly_19 (by decide) (by omega) (fun h_3 => ?_) (fun h_3 => ?_)
    · refine xi_const hx hb dX7_isEarly_26 ?_
      exact W.zret (v := iI (0)) hx hb hr (by decide +kernel) (fun t_ ht_ _ => ⟨congrArg (fun z => Outcome.returned (some (Value.int (iI z)))) (show (0 : Int) = b2 (0 < mtn ∧ t9 < mtt (mtn - 1)) from (b2_f (by first | assumption | omega | (constructor <;> first | assumption | omega))).symm), ht_⟩) (fun _ h9 => absurd h9 List.not_mem_nil) dX7_isEarly_27
    · refine xi_const hx hb dX7_isEarly_22 ?_
      refine lv_goto (tgt := 27) hx hb dX7_isEarly_23 (by decide) ?_
      exact W.zret (v := iI (1)) hx hb hr (by decide +kernel) (fun t_ ht_ _ => ⟨congrArg (fun z => Outcome.returned (some (Value.int (iI z)))) (show (1 : Int) = b2 (0 < mtn ∧ t9 < mtt (mtn - 1)) from (b2_t (by first | assumption | omega | (constructor <;> first | assumption | omega))).symm), ht_⟩) (fun _ h9 => absurd h9 List.not_mem_nil) dX7_isEarly_27
set_option maxHeartbeats 1000000 in
set_option maxRecDepth 100000 in
theorem c_X7_tell_vB (l : Launch) (D : va_G) (cyI cyJ cyO : ClassId) (qM : Nat) (qMf : Nat) (qMz : Nat) (qMi : Nat) (qMm : Nat) (mlate : Int) (mtn : Int) (qMty : Nat) (qMtk : Nat) (qMtl : Nat) (qMtt : Nat) (mwn : Int) (qMwf : Nat) (qMwt : Nat) (qMwl : Nat) (qMse : Nat) (qMsi : Nat) (qMkk : Nat) (qMkl : Nat) (mex : Int) (qMey : Nat) (qMel : Nat) (qMo : Nat) (qMx : Nat) (mtyped : Int) (mat : Int) (mpairs : Int) (qMpl : Nat) (qMpf : Nat) (mtt : Int → Int) (y : Int) (k : Int) (v : Int) (t9 : Int) (h_mtn : 0 ≤ mtn ∧ mtn ≤ 120) (h_mtt : ∀ j, 0 ≤ mtt j ∧ mtt j ≤ 999) (h_y : -2147483648 ≤ y ∧ y ≤ 2147483647) (h_k : -2147483648 ≤ k ∧ k ≤ 2147483647) (h_v : -2147483648 ≤ v ∧ v ≤ 2147483647) (h_t9 : -2147483648 ≤ t9 ∧ t9 ≤ 2147483647) (h_ok : ¬ ((0 ≤ y ∧ y < 60) ∧ ((k = 0 ∧ 0 ≤ v ∧ v ≤ 999) ∨ (k = 1 ∧ 0 < v ∧ v ≤ 999) ∨ k = 2) ∧ (0 ≤ t9 ∧ t9 ≤ 999) ∧ ¬ (0 < mtn ∧ t9 < mtt (mtn - 1)))) : Met l yX7_tell wsX7_tell ({ frames := 2, cells := 0, slots := 0, locals := 45 }) (va_Pc [.ref qM, .int (iI (y)), .int (iI (k)), .int (iI (v)), .int (iI (t9))] (xR D vwCl [(qM, .inr (7, [.ref qMf, .ref qMz, .ref qMi, .ref qMm, .int (iI (mlate)), .int (iI (mtn)), .ref qMty, .ref qMtk, .ref qMtl, .ref qMtt, .int (iI (mwn)), .ref qMwf, .ref qMwt, .ref qMwl, .ref qMse, .ref qMsi, .ref qMkk, .ref qMkl, .int (iI (mex)), .ref qMey, .ref qMel, .ref qMo, .ref qMx, .int (iI (mtyped)), .int (iI (mat)), .int (iI (mpairs)), .ref qMpl, .ref qMpf])), (qMtt, .inl (cyI, 120, .inl (xA (mtt))))] (xT cyI cyJ cyO))) (xq (some (.int (iI (-2))))) 0 0 (fun _ => False) := by
  refine Met.ofW (cc := cX7_tell) (maxL := 6) (ret := (some .int)) (by decide) rfl ?_
  intro p e s m args below meth c s₁ B hml hv
  obtain ⟨rfl, hP, hK⟩ := hv
  have hx := B.exec
  have hb := B.bytes
  have hr := B.returns
  have hts := atoms_spec (ws := wsX7_tell) B.pre
  have hown : s.vm.findClass RX7 = some m.cls := findClass_of_methodNamed B.named
  have hlocks := B.notSynchronized
  have hP : va_P D vwCl [(qM, .inr (7, [.ref qMf, .ref qMz, .ref qMi, .ref qMm, .int (iI (mlate)), .int (iI (mtn)), .ref qMty, .ref qMtk, .ref qMtl, .ref qMtt, .int (iI (mwn)), .ref qMwf, .ref qMwt, .ref qMwl, .ref qMse, .ref qMsi, .ref qMkk, .ref qMkl, .int (iI (mex)), .ref qMey, .ref qMel, .ref qMo, .ref qMx, .int (iI (mtyped)), .int (iI (mat)), .int (iI (mpairs)), .ref qMpl, .ref qMpf])), (qMtt, .inl (cyI, 120, .inl (xA (mtt))))] s.heap := hP
  have hl := lv_entry ([.ref qM, .int (iI (y)), .int (iI (k)), .int (iI (v)), .int (iI (t9))]) (n := 6) (Nat.le_of_ble_eq_true rfl)
  rw [lg_entry_eq]
  generalize (lg_sl ([.ref qM, .int (iI (y)), .int (iI (k)), .int (iI (v)), .int (iI (t9))]) ++ List.replicate (6 - (lg_sl ([.ref qM, .int (iI (y)), .int (iI (k)), .int (iI (v)), .int (iI (t9))])).length) Slot.unset).toArray = ls at hl ⊢
  have hl : lv_has ls 6 [(0, .ref qM), (1, .int (iI (y))), (2, .int (iI (k))), (3, .int (iI (v))), (4, .int (iI (t9)))] := hl
  refine lv_iload_n hx hb dX7_tell_0 rfl (lv_at hl 2 rfl) ?_
  refine xi_const hx hb dX7_tell_1 ?_
  refine xb_icmp_eq (tgt := 33) hx hb dX7_tell_2 (by decide) (by omega) (fun h_1 => ?_) (fun h_1 => ?_)
  · refine xi_const hx hb dX7_tell_33 ?_
    refine lv_goto (tgt := 38) hx hb dX7_tell_34 (by decide) ?_
    refine lv_istore (lv' := [(5, .int (iI (1))), (0, .ref qM), (1, .int (iI (y))), (2, .int (iI (k))), (3, .int (iI (v))), (4, .int (iI (t9)))]) hx hb dX7_tell_38 hl (by decide) rfl (fun ls hl => ?_)
    refine lv_iload_n hx hb dX7_tell_40 rfl (lv_at hl 2 rfl) ?_
    have hPc := hP.sub (ws' := []) [] rfl
    refine xc_i (va_runS (As := [.int (iI (y))]) (rest := []) ⟨hx, hb, hml, hown, hts⟩ (c_X7_isYear l D cyI cyJ cyO y (by first | exact h_y | assumption | omega)) (va_cwS 1 hts gX7_tell_X7_isYear rfl rfl rfl (by decide +kernel) ⟨Nat.le_of_ble_eq_true rfl, Nat.le_of_ble_eq_true rfl⟩) (xpS hPc hK) rfl rfl hl.1 rfl (lv_room (Nat.le_of_ble_eq_true rfl)) dX7_tell_41 ⟨Nat.le_of_ble_eq_true rfl, Nat.le_of_ble_eq_true rfl⟩) ?_
    refine xb_if_eqB (tgt := 69) hx hb dX7_tell_44 (by decide) (fun h_2 => ?_) (fun h_2 => ?_)
    · refine xi_bipush hx hb dX7_tell_69 (by decide +kernel) ?_
      exact W.iret (v := iI (-2)) hx hb hr (fun t_ ht_ _ => ⟨congrArg (fun z => Outcome.returned (some (Value.int (iI z)))) rfl, ht_⟩) (fun _ h9 => absurd h9 List.not_mem_nil) dX7_tell_71
    · refine lv_iload hx hb dX7_tell_47 (lv_at hl 0 rfl) ?_
      refine xb_if_eq (tgt := 69) hx hb dX7_tell_49 (by decide) (by omega) (fun h_3 => by exfalso; omega) (fun h_3 => ?_)
      refine lv_iload hx hb dX7_tell_52 (lv_at hl 5 rfl) ?_
      have hPc := hP.sub (ws' := []) [] rfl
      refine xc_i (va_runS (As := [.int (iI (t9))]) (rest := []) ⟨hx, hb, hml, hown, hts⟩ (c_X7_isLevel l D cyI cyJ cyO t9 (by first | exact h_y | assumption | omega)) (va_cwS 1 hts gX7_tell_X7_isLevel rfl rfl rfl (by decide +kernel) ⟨Nat.le_of_ble_eq_true rfl, Nat.le_of_ble_eq_true rfl⟩) (xpS hPc hK) rfl rfl hl.1 rfl (lv_room (Nat.le_of_ble_eq_true rfl)) dX7_tell_54 ⟨Nat.le_of_ble_eq_true rfl, Nat.le_of_ble_eq_true rfl⟩) ?_
      refine xb_if_eqB (tgt := 69) hx hb dX7_tell_57 (by decide) (fun h_4 => ?_) (fun h_4 => ?_)
      · refine xi_bipush hx hb dX7_tell_69 (by decide +kernel) ?_
        exact W.iret (v := iI (-2)) hx hb hr (fun t_ ht_ _ => ⟨congrArg (fun z => Outcome.returned (some (Value.int (iI z)))) rfl, ht_⟩) (fun _ h9 => absurd h9 List.not_mem_nil) dX7_tell_71
      · refine lv_aload_n hx hb dX7_tell_60 rfl (lv_at hl 1 rfl) ?_
        refine lv_iload hx hb dX7_tell_61 (lv_at hl 5 rfl) ?_
        have hPc := hP.sub (ws' := [(qM, .inr (7, [.ref qMf, .ref qMz, .ref qMi, .ref qMm, .int (iI (mlate)), .int (iI (mtn)), .ref qMty, .ref qMtk, .ref qMtl, .ref qMtt, .int (iI (mwn)), .ref qMwf, .ref qMwt, .ref qMwl, .ref qMse, .ref qMsi, .ref qMkk, .ref qMkl, .int (iI (mex)), .ref qMey, .ref qMel, .ref qMo, .ref qMx, .int (iI (mtyped)), .int (iI (mat)), .int (iI (mpairs)), .ref qMpl, .ref qMpf])), (qMtt, .inl (cyI, 120, .inl (xA (mtt))))]) [0, 1] rfl
        refine xc_i (va_runV (As := [.int (iI (t9))]) (rest := []) ⟨hx, hb, hml, hown, hts⟩ (c_X7_isEarly l D cyI cyJ cyO qM qMf qMz qMi qMm mlate mtn qMty qMtk qMtl qMtt mwn qMwf qMwt qMwl qMse qMsi qMkk qMkl mex qMey qMel qMo qMx mtyped mat mpairs qMpl qMpf mtt t9 (by first | exact h_mtn | assumption | omega) (by first | exact h_mtt | assumption | omega) (by first | exact h_t9 | assumption | omega)) (cwV 1 hts gX7_tell_X7_isEarly rfl rfl rfl (by decide +kernel) ⟨Nat.le_of_ble_eq_true rfl, Nat.le_of_ble_eq_true rfl⟩) (xpV hPc hK (ci := 7) (q0 := 0) (q := (RX7, TX7, 28)) rfl rfl) rfl rfl hl.1 rfl (lv_room (Nat.le_of_ble_eq_true rfl)) dX7_tell_63 ⟨Nat.le_of_ble_eq_true rfl, Nat.le_of_ble_eq_true rfl⟩) ?_
        refine xb_if_eqB (tgt := 72) hx hb dX7_tell_66 (by decide) (fun h_5 => by exfalso; omega) (fun h_5 => ?_)
        refine xi_bipush hx hb dX7_tell_69 (by decide +kernel) ?_
        exact W.iret (v := iI (-2)) hx hb hr (fun t_ ht_ _ => ⟨congrArg (fun z => Outcome.returned (some (Value.int (iI z)))) rfl, ht_⟩) (fun _ h9 => absurd h9 List.not_mem_nil) dX7_tell_71
  · refine lv_iload_n hx hb dX7_tell_5 rfl (lv_at hl 2 rfl) ?_
    refine xb_if_ne (tgt := 16) hx hb dX7_tell_6 (by decide) (by omega) (fun h_6 => ?_) (fun h_6 => ?_)
    · refine lv_iload_n hx hb dX7_tell_16 rfl (lv_at hl 2 rfl) ?_
      refine xi_const hx hb dX7_tell_17 ?_
      refine xb_icmp_ne (tgt := 37) hx hb dX7_tell_18 (by decide) (by omega) (fun h_7 => ?_) (fun h_7 => ?_)
      · refine xi_const hx hb dX7_tell_37 ?_
        refine lv_istore (lv' := [(5, .int (iI (0))), (0, .ref qM), (1, .int (iI (y))), (2, .int (iI (k))), (3, .int (iI (v))), (4, .int (iI (t9)))]) hx hb dX7_tell_38 hl (by decide) rfl (fun ls hl => ?_)
        refine lv_iload_n hx hb dX7_tell_40 rfl (lv_at hl 2 rfl) ?_
        have hPc := hP.sub (ws' := []) [] rfl
        refine xc_i (va_runS (As := [.int (iI (y))]) (rest := []) ⟨hx, hb, hml, hown, hts⟩ (c_X7_isYear l D cyI cyJ cyO y (by first | exact h_y | assumption | omega)) (va_cwS 1 hts gX7_tell_X7_isYear rfl rfl rfl (by decide +kernel) ⟨Nat.le_of_ble_eq_true rfl, Nat.le_of_ble_eq_true rfl⟩) (xpS hPc hK) rfl rfl hl.1 rfl (lv_room (Nat.le_of_ble_eq_true rfl)) dX7_tell_41 ⟨Nat.le_of_ble_eq_true rfl, Nat.le_of_ble_eq_true rfl⟩) ?_
        refine xb_if_eqB (tgt := 69) hx hb dX7_tell_44 (by decide) (fun h_8 => ?_) (fun h_8 => ?_)
        · refine xi_bipush hx hb dX7_tell_69 (by decide +kernel) ?_
          exact W.iret (v := iI (-2)) hx hb hr (fun t_ ht_ _ => ⟨congrArg (fun z => Outcome.returned (some (Value.int (iI z)))) rfl, ht_⟩) (fun _ h9 => absurd h9 List.not_mem_nil) dX7_tell_71
        · refine lv_iload hx hb dX7_tell_47 (lv_at hl 0 rfl) ?_
          refine xb_if_eq (tgt := 69) hx hb dX7_tell_49 (by decide) (by omega) (fun h_9 => ?_) (fun h_9 => by exfalso; omega)
          refine xi_bipush hx hb dX7_tell_69 (by decide +kernel) ?_
          exact W.iret (v := iI (-2)) hx hb hr (fun t_ ht_ _ => ⟨congrArg (fun z => Outcome.returned (some (Value.int (iI z)))) rfl, ht_⟩) (fun _ h9 => absurd h9 List.not_mem_nil) dX7_tell_71
      · refine lv_iload_n hx hb dX7_tell_21 rfl (lv_at hl 3 rfl) ?_
        refine xi_i2l hx hb dX7_tell_22 (by omega) ?_
        refine xi_lconst1 hx hb dX7_tell_23 ?_
        refine lv_ldc2 (v := lI (999)) hx hb hown (hts (.constantLong RX7 113 (lI (999))) (List.mem_of_getElem? (i := 1) (by decide +kernel))) dX7_tell_24 ?_
        have hPc := hP.sub (ws' := []) [] rfl
        refine xc_i (va_runS (As := [.long (lI (v)), .long (lI (1)), .long (lI (999))]) (rest := []) ⟨hx, hb, hml, hown, hts⟩ (c_X7_in l D cyI cyJ cyO v 1 999 (by first | exact h_v | assumption | omega) (by first | exact h_lo | assumption | omega) (by first | exact h_hi | assumption | omega)) (va_cwS 3 hts gX7_tell_X7_in rfl rfl rfl (by decide +kernel) ⟨Nat.le_of_ble_eq_true rfl, Nat.le_of_ble_eq_true rfl⟩) (xpS hPc hK) rfl rfl hl.1 rfl (lv_room (Nat.le_of_ble_eq_true rfl)) dX7_tell_27 ⟨Nat.le_of_ble_eq_true rfl, Nat.le_of_ble_eq_true rfl⟩) ?_
        refine xb_if_eqB (tgt := 37) hx hb dX7_tell_30 (by decide) (fun h_10 => ?_) (fun h_10 => ?_)
        · refine xi_const hx hb dX7_tell_37 ?_
          refine lv_istore (lv' := [(5, .int (iI (0))), (0, .ref qM), (1, .int (iI (y))), (2, .int (iI (k))), (3, .int (iI (v))), (4, .int (iI (t9)))]) hx hb dX7_tell_38 hl (by decide) rfl (fun ls hl => ?_)
          refine lv_iload_n hx hb dX7_tell_40 rfl (lv_at hl 2 rfl) ?_
          have hPc := hP.sub (ws' := []) [] rfl
          refine xc_i (va_runS (As := [.int (iI (y))]) (rest := []) ⟨hx, hb, hml, hown, hts⟩ (c_X7_isYear l D cyI cyJ cyO y (by first | exact h_y | assumption | omega)) (va_cwS 1 hts gX7_tell_X7_isYear rfl rfl rfl (by decide +kernel) ⟨Nat.le_of_ble_eq_true rfl, Nat.le_of_ble_eq_true rfl⟩) (xpS hPc hK) rfl rfl hl.1 rfl (lv_room (Nat.le_of_ble_eq_true rfl)) dX7_tell_41 ⟨Nat.le_of_ble_eq_true rfl, Nat.le_of_ble_eq_true rfl⟩) ?_
          refine xb_if_eqB (tgt := 69) hx hb dX7_tell_44 (by decide) (fun h_11 => ?_) (fun h_11 => ?_)
          · refine xi_bipush hx hb dX7_tell_69 (by decide +kernel) ?_
            exact W.iret (v := iI (-2)) hx hb hr (fun t_ ht_ _ => ⟨congrArg (fun z => Outcome.returned (some (Value.int (iI z)))) rfl, ht_⟩) (fun _ h9 => absurd h9 List.not_mem_nil) dX7_tell_71
          · refine lv_iload hx hb dX7_tell_47 (lv_at hl 0 rfl) ?_
            refine xb_if_eq (tgt := 69) hx hb dX7_tell_49 (by decide) (by omega) (fun h_12 => ?_) (fun h_12 => by exfalso; omega)
            refine xi_bipush hx hb dX7_tell_69 (by decide +kernel) ?_
            exact W.iret (v := iI (-2)) hx hb hr (fun t_ ht_ _ => ⟨congrArg (fun z => Outcome.returned (some (Value.int (iI z)))) rfl, ht_⟩) (fun _ h9 => absurd h9 List.not_mem_nil) dX7_tell_71
        · refine xi_const hx hb dX7_tell_33 ?_
          refine lv_goto (tgt := 38) hx hb dX7_tell_34 (by decide) ?_
          refine lv_istore (lv' := [(5, .int (iI (1))), (0, .ref qM), (1, .int (iI (y))), (2, .int (iI (k))), (3, .int (iI (v))), (4, .int (iI (t9)))]) hx hb dX7_tell_38 hl (by decide) rfl (fun ls hl => ?_)
          refine lv_iload_n hx hb dX7_tell_40 rfl (lv_at hl 2 rfl) ?_
          have hPc := hP.sub (ws' := []) [] rfl
          refine xc_i (va_runS (As := [.int (iI (y))]) (rest := []) ⟨hx, hb, hml, hown, hts⟩ (c_X7_isYear l D cyI cyJ cyO y (by first | exact h_y | assumption | omega)) (va_cwS 1 hts gX7_tell_X7_isYear rfl rfl rfl (by decide +kernel) ⟨Nat.le_of_ble_eq_true rfl, Nat.le_of_ble_eq_true rfl⟩) (xpS hPc hK) rfl rfl hl.1 rfl (lv_room (Nat.le_of_ble_eq_true rfl)) dX7_tell_41 ⟨Nat.le_of_ble_eq_true rfl, Nat.le_of_ble_eq_true rfl⟩) ?_
          refine xb_if_eqB (tgt := 69) hx hb dX7_tell_44 (by decide) (fun h_13 => ?_) (fun h_13 => ?_)
          · refine xi_bipush hx hb dX7_tell_69 (by decide +kernel) ?_
            exact W.iret (v := iI (-2)) hx hb hr (fun t_ ht_ _ => ⟨congrArg (fun z => Outcome.returned (some (Value.int (iI z)))) rfl, ht_⟩) (fun _ h9 => absurd h9 List.not_mem_nil) dX7_tell_71
          · refine lv_iload hx hb dX7_tell_47 (lv_at hl 0 rfl) ?_
            refine xb_if_eq (tgt := 69) hx hb dX7_tell_49 (by decide) (by omega) (fun h_14 => by exfalso; omega) (fun h_14 => ?_)
            refine lv_iload hx hb dX7_tell_52 (lv_at hl 5 rfl) ?_
            have hPc := hP.sub (ws' := []) [] rfl
            refine xc_i (va_runS (As := [.int (iI (t9))]) (rest := []) ⟨hx, hb, hml, hown, hts⟩ (c_X7_isLevel l D cyI cyJ cyO t9 (by first | exact h_y | assumption | omega)) (va_cwS 1 hts gX7_tell_X7_isLevel rfl rfl rfl (by decide +kernel) ⟨Nat.le_of_ble_eq_true rfl, Nat.le_of_ble_eq_true rfl⟩) (xpS hPc hK) rfl rfl hl.1 rfl (lv_room (Nat.le_of_ble_eq_true rfl)) dX7_tell_54 ⟨Nat.le_of_ble_eq_true rfl, Nat.le_of_ble_eq_true rfl⟩) ?_
            refine xb_if_eqB (tgt := 69) hx hb dX7_tell_57 (by decide) (fun h_15 => ?_) (fun h_15 => ?_)
            · refine xi_bipush hx hb dX7_tell_69 (by decide +kernel) ?_
              exact W.iret (v := iI (-2)) hx hb hr (fun t_ ht_ _ => ⟨congrArg (fun z => Outcome.returned (some (Value.int (iI z)))) rfl, ht_⟩) (fun _ h9 => absurd h9 List.not_mem_nil) dX7_tell_71
            · refine lv_aload_n hx hb dX7_tell_60 rfl (lv_at hl 1 rfl) ?_
              refine lv_iload hx hb dX7_tell_61 (lv_at hl 5 rfl) ?_
              have hPc := hP.sub (ws' := [(qM, .inr (7, [.ref qMf, .ref qMz, .ref qMi, .ref qMm, .int (iI (mlate)), .int (iI (mtn)), .ref qMty, .ref qMtk, .ref qMtl, .ref qMtt, .int (iI (mwn)), .ref qMwf, .ref qMwt, .ref qMwl, .ref qMse, .ref qMsi, .ref qMkk, .ref qMkl, .int (iI (mex)), .ref qMey, .ref qMel, .ref qMo, .ref qMx, .int (iI (mtyped)), .int (iI (mat)), .int (iI (mpairs)), .ref qMpl, .ref qMpf])), (qMtt, .inl (cyI, 120, .inl (xA (mtt))))]) [0, 1] rfl
              refine xc_i (va_runV (As := [.int (iI (t9))]) (rest := []) ⟨hx, hb, hml, hown, hts⟩ (c_X7_isEarly l D cyI cyJ cyO qM qMf qMz qMi qMm mlate mtn qMty qMtk qMtl qMtt mwn qMwf qMwt qMwl qMse qMsi qMkk qMkl mex qMey qMel qMo qMx mtyped mat mpairs qMpl qMpf mtt t9 (by first | exact h_mtn | assumption | omega) (by first | exact h_mtt | assumption | omega) (by first | exact h_t9 | assumption | omega)) (cwV 1 hts gX7_tell_X7_isEarly rfl rfl rfl (by decide +kernel) ⟨Nat.le_of_ble_eq_true rfl, Nat.le_of_ble_eq_true rfl⟩) (xpV hPc hK (ci := 7) (q0 := 0) (q := (RX7, TX7, 28)) rfl rfl) rfl rfl hl.1 rfl (lv_room (Nat.le_of_ble_eq_true rfl)) dX7_tell_63 ⟨Nat.le_of_ble_eq_true rfl, Nat.le_of_ble_eq_true rfl⟩) ?_
              refine xb_if_eqB (tgt := 72) hx hb dX7_tell_66 (by decide) (fun h_16 => by exfalso; omega) (fun h_16 => ?_)
              refine xi_bipush hx hb dX7_tell_69 (by decide +kernel) ?_
              exact W.iret (v := iI (-2)) hx hb hr (fun t_ ht_ _ => ⟨congrArg (fun z => Outcome.returned (some (Value.int (iI z)))) rfl, ht_⟩) (fun _ h9 => absurd h9 List.not_mem_nil) dX7_tell_71
    · refine lv_iload_n hx hb dX7_tell_9 rfl (lv_at hl 3 rfl) ?_
      have hPc := hP.sub (ws' := []) [] rfl
      refine xc_i (va_runS (As := [.int (iI (v))]) (rest := []) ⟨hx, hb, hml, hown, hts⟩ (c_X7_isLevel l D cyI cyJ cyO v (by first | exact h_y | assumption | omega)) (va_cwS 1 hts gX7_tell_X7_isLevel rfl rfl rfl (by decide +kernel) ⟨Nat.le_of_ble_eq_true rfl, Nat.le_of_ble_eq_true rfl⟩) (xpS hPc hK) rfl rfl hl.1 rfl (lv_room (Nat.le_of_ble_eq_true rfl)) dX7_tell_10 ⟨Nat.le_of_ble_eq_true rfl, Nat.le_of_ble_eq_true rfl⟩) ?_
      refine xb_if_neB (tgt := 33) hx hb dX7_tell_13 (by decide) (fun h_17 => ?_) (fun h_17 => ?_)
      · refine xi_const hx hb dX7_tell_33 ?_
        refine lv_goto (tgt := 38) hx hb dX7_tell_34 (by decide) ?_
        refine lv_istore (lv' := [(5, .int (iI (1))), (0, .ref qM), (1, .int (iI (y))), (2, .int (iI (k))), (3, .int (iI (v))), (4, .int (iI (t9)))]) hx hb dX7_tell_38 hl (by decide) rfl (fun ls hl => ?_)
        refine lv_iload_n hx hb dX7_tell_40 rfl (lv_at hl 2 rfl) ?_
        have hPc := hP.sub (ws' := []) [] rfl
        refine xc_i (va_runS (As := [.int (iI (y))]) (rest := []) ⟨hx, hb, hml, hown, hts⟩ (c_X7_isYear l D cyI cyJ cyO y (by first | exact h_y | assumption | omega)) (va_cwS 1 hts gX7_tell_X7_isYear rfl rfl rfl (by decide +kernel) ⟨Nat.le_of_ble_eq_true rfl, Nat.le_of_ble_eq_true rfl⟩) (xpS hPc hK) rfl rfl hl.1 rfl (lv_room (Nat.le_of_ble_eq_true rfl)) dX7_tell_41 ⟨Nat.le_of_ble_eq_true rfl, Nat.le_of_ble_eq_true rfl⟩) ?_
        refine xb_if_eqB (tgt := 69) hx hb dX7_tell_44 (by decide) (fun h_18 => ?_) (fun h_18 => ?_)
        · refine xi_bipush hx hb dX7_tell_69 (by decide +kernel) ?_
          exact W.iret (v := iI (-2)) hx hb hr (fun t_ ht_ _ => ⟨congrArg (fun z => Outcome.returned (some (Value.int (iI z)))) rfl, ht_⟩) (fun _ h9 => absurd h9 List.not_mem_nil) dX7_tell_71
        · refine lv_iload hx hb dX7_tell_47 (lv_at hl 0 rfl) ?_
          refine xb_if_eq (tgt := 69) hx hb dX7_tell_49 (by decide) (by omega) (fun h_19 => by exfalso; omega) (fun h_19 => ?_)
          refine lv_iload hx hb dX7_tell_52 (lv_at hl 5 rfl) ?_
          have hPc := hP.sub (ws' := []) [] rfl
          refine xc_i (va_runS (As := [.int (iI (t9))]) (rest := []) ⟨hx, hb, hml, hown, hts⟩ (c_X7_isLevel l D cyI cyJ cyO t9 (by first | exact h_y | assumption | omega)) (va_cwS 1 hts gX7_tell_X7_isLevel rfl rfl rfl (by decide +kernel) ⟨Nat.le_of_ble_eq_true rfl, Nat.le_of_ble_eq_true rfl⟩) (xpS hPc hK) rfl rfl hl.1 rfl (lv_room (Nat.le_of_ble_eq_true rfl)) dX7_tell_54 ⟨Nat.le_of_ble_eq_true rfl, Nat.le_of_ble_eq_true rfl⟩) ?_
          refine xb_if_eqB (tgt := 69) hx hb dX7_tell_57 (by decide) (fun h_20 => ?_) (fun h_20 => ?_)
          · refine xi_bipush hx hb dX7_tell_69 (by decide +kernel) ?_
            exact W.iret (v := iI (-2)) hx hb hr (fun t_ ht_ _ => ⟨congrArg (fun z => Outcome.returned (some (Value.int (iI z)))) rfl, ht_⟩) (fun _ h9 => absurd h9 List.not_mem_nil) dX7_tell_71
          · refine lv_aload_n hx hb dX7_tell_60 rfl (lv_at hl 1 rfl) ?_
            refine lv_iload hx hb dX7_tell_61 (lv_at hl 5 rfl) ?_
            have hPc := hP.sub (ws' := [(qM, .inr (7, [.ref qMf, .ref qMz, .ref qMi, .ref qMm, .int (iI (mlate)), .int (iI (mtn)), .ref qMty, .ref qMtk, .ref qMtl, .ref qMtt, .int (iI (mwn)), .ref qMwf, .ref qMwt, .ref qMwl, .ref qMse, .ref qMsi, .ref qMkk, .ref qMkl, .int (iI (mex)), .ref qMey, .ref qMel, .ref qMo, .ref qMx, .int (iI (mtyped)), .int (iI (mat)), .int (iI (mpairs)), .ref qMpl, .ref qMpf])), (qMtt, .inl (cyI, 120, .inl (xA (mtt))))]) [0, 1] rfl
            refine xc_i (va_runV (As := [.int (iI (t9))]) (rest := []) ⟨hx, hb, hml, hown, hts⟩ (c_X7_isEarly l D cyI cyJ cyO qM qMf qMz qMi qMm mlate mtn qMty qMtk qMtl qMtt mwn qMwf qMwt qMwl qMse qMsi qMkk qMkl mex qMey qMel qMo qMx mtyped mat mpairs qMpl qMpf mtt t9 (by first | exact h_mtn | assumption | omega) (by first | exact h_mtt | assumption | omega) (by first | exact h_t9 | assumption | omega)) (cwV 1 hts gX7_tell_X7_isEarly rfl rfl rfl (by decide +kernel) ⟨Nat.le_of_ble_eq_true rfl, Nat.le_of_ble_eq_true rfl⟩) (xpV hPc hK (ci := 7) (q0 := 0) (q := (RX7, TX7, 28)) rfl rfl) rfl rfl hl.1 rfl (lv_room (Nat.le_of_ble_eq_true rfl)) dX7_tell_63 ⟨Nat.le_of_ble_eq_true rfl, Nat.le_of_ble_eq_true rfl⟩) ?_
            refine xb_if_eqB (tgt := 72) hx hb dX7_tell_66 (by decide) (fun h_21 => by exfalso; omega) (fun h_21 => ?_)
            refine xi_bipush hx hb dX7_tell_69 (by decide +kernel) ?_
            exact W.iret (v := iI (-2)) hx hb hr (fun t_ ht_ _ => ⟨congrArg (fun z => Outcome.returned (some (Value.int (iI z)))) rfl, ht_⟩) (fun _ h9 => absurd h9 List.not_mem_nil) dX7_tell_71
      · refine lv_iload_n hx hb dX7_tell_16 rfl (lv_at hl 2 rfl) ?_
        refine xi_const hx hb dX7_tell_17 ?_
        refine xb_icmp_ne (tgt := 37) hx hb dX7_tell_18 (by decide) (by omega) (fun h_22 => ?_) (fun h_22 => ?_)
        · refine xi_const hx hb dX7_tell_37 ?_
          refine lv_istore (lv' := [(5, .int (iI (0))), (0, .ref qM), (1, .int (iI (y))), (2, .int (iI (k))), (3, .int (iI (v))), (4, .int (iI (t9)))]) hx hb dX7_tell_38 hl (by decide) rfl (fun ls hl => ?_)
          refine lv_iload_n hx hb dX7_tell_40 rfl (lv_at hl 2 rfl) ?_
          have hPc := hP.sub (ws' := []) [] rfl
          refine xc_i (va_runS (As := [.int (iI (y))]) (rest := []) ⟨hx, hb, hml, hown, hts⟩ (c_X7_isYear l D cyI cyJ cyO y (by first | exact h_y | assumption | omega)) (va_cwS 1 hts gX7_tell_X7_isYear rfl rfl rfl (by decide +kernel) ⟨Nat.le_of_ble_eq_true rfl, Nat.le_of_ble_eq_true rfl⟩) (xpS hPc hK) rfl rfl hl.1 rfl (lv_room (Nat.le_of_ble_eq_true rfl)) dX7_tell_41 ⟨Nat.le_of_ble_eq_true rfl, Nat.le_of_ble_eq_true rfl⟩) ?_
          refine xb_if_eqB (tgt := 69) hx hb dX7_tell_44 (by decide) (fun h_23 => ?_) (fun h_23 => ?_)
          · refine xi_bipush hx hb dX7_tell_69 (by decide +kernel) ?_
            exact W.iret (v := iI (-2)) hx hb hr (fun t_ ht_ _ => ⟨congrArg (fun z => Outcome.returned (some (Value.int (iI z)))) rfl, ht_⟩) (fun _ h9 => absurd h9 List.not_mem_nil) dX7_tell_71
          · refine lv_iload hx hb dX7_tell_47 (lv_at hl 0 rfl) ?_
            refine xb_if_eq (tgt := 69) hx hb dX7_tell_49 (by decide) (by omega) (fun h_24 => ?_) (fun h_24 => by exfalso; omega)
            refine xi_bipush hx hb dX7_tell_69 (by decide +kernel) ?_
            exact W.iret (v := iI (-2)) hx hb hr (fun t_ ht_ _ => ⟨congrArg (fun z => Outcome.returned (some (Value.int (iI z)))) rfl, ht_⟩) (fun _ h9 => absurd h9 List.not_mem_nil) dX7_tell_71
        · refine lv_iload_n hx hb dX7_tell_21 rfl (lv_at hl 3 rfl) ?_
          refine xi_i2l hx hb dX7_tell_22 (by omega) ?_
          refine xi_lconst1 hx hb dX7_tell_23 ?_
          refine lv_ldc2 (v := lI (999)) hx hb hown (hts (.constantLong RX7 113 (lI (999))) (List.mem_of_getElem? (i := 1) (by decide +kernel))) dX7_tell_24 ?_
          have hPc := hP.sub (ws' := []) [] rfl
          refine xc_i (va_runS (As := [.long (lI (v)), .long (lI (1)), .long (lI (999))]) (rest := []) ⟨hx, hb, hml, hown, hts⟩ (c_X7_in l D cyI cyJ cyO v 1 999 (by first | exact h_v | assumption | omega) (by first | exact h_lo | assumption | omega) (by first | exact h_hi | assumption | omega)) (va_cwS 3 hts gX7_tell_X7_in rfl rfl rfl (by decide +kernel) ⟨Nat.le_of_ble_eq_true rfl, Nat.le_of_ble_eq_true rfl⟩) (xpS hPc hK) rfl rfl hl.1 rfl (lv_room (Nat.le_of_ble_eq_true rfl)) dX7_tell_27 ⟨Nat.le_of_ble_eq_true rfl, Nat.le_of_ble_eq_true rfl⟩) ?_
          refine xb_if_eqB (tgt := 37) hx hb dX7_tell_30 (by decide) (fun h_25 => ?_) (fun h_25 => ?_)
          · refine xi_const hx hb dX7_tell_37 ?_
            refine lv_istore (lv' := [(5, .int (iI (0))), (0, .ref qM), (1, .int (iI (y))), (2, .int (iI (k))), (3, .int (iI (v))), (4, .int (iI (t9)))]) hx hb dX7_tell_38 hl (by decide) rfl (fun ls hl => ?_)
            refine lv_iload_n hx hb dX7_tell_40 rfl (lv_at hl 2 rfl) ?_
            have hPc := hP.sub (ws' := []) [] rfl
            refine xc_i (va_runS (As := [.int (iI (y))]) (rest := []) ⟨hx, hb, hml, hown, hts⟩ (c_X7_isYear l D cyI cyJ cyO y (by first | exact h_y | assumption | omega)) (va_cwS 1 hts gX7_tell_X7_isYear rfl rfl rfl (by decide +kernel) ⟨Nat.le_of_ble_eq_true rfl, Nat.le_of_ble_eq_true rfl⟩) (xpS hPc hK) rfl rfl hl.1 rfl (lv_room (Nat.le_of_ble_eq_true rfl)) dX7_tell_41 ⟨Nat.le_of_ble_eq_true rfl, Nat.le_of_ble_eq_true rfl⟩) ?_
            refine xb_if_eqB (tgt := 69) hx hb dX7_tell_44 (by decide) (fun h_26 => ?_) (fun h_26 => ?_)
            · refine xi_bipush hx hb dX7_tell_69 (by decide +kernel) ?_
              exact W.iret (v := iI (-2)) hx hb hr (fun t_ ht_ _ => ⟨congrArg (fun z => Outcome.returned (some (Value.int (iI z)))) rfl, ht_⟩) (fun _ h9 => absurd h9 List.not_mem_nil) dX7_tell_71
            · refine lv_iload hx hb dX7_tell_47 (lv_at hl 0 rfl) ?_
              refine xb_if_eq (tgt := 69) hx hb dX7_tell_49 (by decide) (by omega) (fun h_27 => ?_) (fun h_27 => by exfalso; omega)
              refine xi_bipush hx hb dX7_tell_69 (by decide +kernel) ?_
              exact W.iret (v := iI (-2)) hx hb hr (fun t_ ht_ _ => ⟨congrArg (fun z => Outcome.returned (some (Value.int (iI z)))) rfl, ht_⟩) (fun _ h9 => absurd h9 List.not_mem_nil) dX7_tell_71
          · refine xi_const hx hb dX7_tell_33 ?_
            refine lv_goto (tgt := 38) hx hb dX7_tell_34 (by decide) ?_
            refine lv_istore (lv' := [(5, .int (iI (1))), (0, .ref qM), (1, .int (iI (y))), (2, .int (iI (k))), (3, .int (iI (v))), (4, .int (iI (t9)))]) hx hb dX7_tell_38 hl (by decide) rfl (fun ls hl => ?_)
            refine lv_iload_n hx hb dX7_tell_40 rfl (lv_at hl 2 rfl) ?_
            have hPc := hP.sub (ws' := []) [] rfl
            refine xc_i (va_runS (As := [.int (iI (y))]) (rest := []) ⟨hx, hb, hml, hown, hts⟩ (c_X7_isYear l D cyI cyJ cyO y (by first | exact h_y | assumption | omega)) (va_cwS 1 hts gX7_tell_X7_isYear rfl rfl rfl (by decide +kernel) ⟨Nat.le_of_ble_eq_true rfl, Nat.le_of_ble_eq_true rfl⟩) (xpS hPc hK) rfl rfl hl.1 rfl (lv_room (Nat.le_of_ble_eq_true rfl)) dX7_tell_41 ⟨Nat.le_of_ble_eq_true rfl, Nat.le_of_ble_eq_true rfl⟩) ?_
            refine xb_if_eqB (tgt := 69) hx hb dX7_tell_44 (by decide) (fun h_28 => ?_) (fun h_28 => ?_)
            · refine xi_bipush hx hb dX7_tell_69 (by decide +kernel) ?_
              exact W.iret (v := iI (-2)) hx hb hr (fun t_ ht_ _ => ⟨congrArg (fun z => Outcome.returned (some (Value.int (iI z)))) rfl, ht_⟩) (fun _ h9 => absurd h9 List.not_mem_nil) dX7_tell_71
            · refine lv_iload hx hb dX7_tell_47 (lv_at hl 0 rfl) ?_
              refine xb_if_eq (tgt := 69) hx hb dX7_tell_49 (by decide) (by omega) (fun h_29 => by exfalso; omega) (fun h_29 => ?_)
              refine lv_iload hx hb dX7_tell_52 (lv_at hl 5 rfl) ?_
              have hPc := hP.sub (ws' := []) [] rfl
              refine xc_i (va_runS (As := [.int (iI (t9))]) (rest := []) ⟨hx, hb, hml, hown, hts⟩ (c_X7_isLevel l D cyI cyJ cyO t9 (by first | exact h_y | assumption | omega)) (va_cwS 1 hts gX7_tell_X7_isLevel rfl rfl rfl (by decide +kernel) ⟨Nat.le_of_ble_eq_true rfl, Nat.le_of_ble_eq_true rfl⟩) (xpS hPc hK) rfl rfl hl.1 rfl (lv_room (Nat.le_of_ble_eq_true rfl)) dX7_tell_54 ⟨Nat.le_of_ble_eq_true rfl, Nat.le_of_ble_eq_true rfl⟩) ?_
              refine xb_if_eqB (tgt := 69) hx hb dX7_tell_57 (by decide) (fun h_30 => ?_) (fun h_30 => ?_)
              · refine xi_bipush hx hb dX7_tell_69 (by decide +kernel) ?_
                exact W.iret (v := iI (-2)) hx hb hr (fun t_ ht_ _ => ⟨congrArg (fun z => Outcome.returned (some (Value.int (iI z)))) rfl, ht_⟩) (fun _ h9 => absurd h9 List.not_mem_nil) dX7_tell_71
              · refine lv_aload_n hx hb dX7_tell_60 rfl (lv_at hl 1 rfl) ?_
                refine lv_iload hx hb dX7_tell_61 (lv_at hl 5 rfl) ?_
                have hPc := hP.sub (ws' := [(qM, .inr (7, [.ref qMf, .ref qMz, .ref qMi, .ref qMm, .int (iI (mlate)), .int (iI (mtn)), .ref qMty, .ref qMtk, .ref qMtl, .ref qMtt, .int (iI (mwn)), .ref qMwf, .ref qMwt, .ref qMwl, .ref qMse, .ref qMsi, .ref qMkk, .ref qMkl, .int (iI (mex)), .ref qMey, .ref qMel, .ref qMo, .ref qMx, .int (iI (mtyped)), .int (iI (mat)), .int (iI (mpairs)), .ref qMpl, .ref qMpf])), (qMtt, .inl (cyI, 120, .inl (xA (mtt))))]) [0, 1] rfl
                refine xc_i (va_runV (As := [.int (iI (t9))]) (rest := []) ⟨hx, hb, hml, hown, hts⟩ (c_X7_isEarly l D cyI cyJ cyO qM qMf qMz qMi qMm mlate mtn qMty qMtk qMtl qMtt mwn qMwf qMwt qMwl qMse qMsi qMkk qMkl mex qMey qMel qMo qMx mtyped mat mpairs qMpl qMpf mtt t9 (by first | exact h_mtn | assumption | omega) (by first | exact h_mtt | assumption | omega) (by first | exact h_t9 | assumption | omega)) (cwV 1 hts gX7_tell_X7_isEarly rfl rfl rfl (by decide +kernel) ⟨Nat.le_of_ble_eq_true rfl, Nat.le_of_ble_eq_true rfl⟩) (xpV hPc hK (ci := 7) (q0 := 0) (q := (RX7, TX7, 28)) rfl rfl) rfl rfl hl.1 rfl (lv_room (Nat.le_of_ble_eq_true rfl)) dX7_tell_63 ⟨Nat.le_of_ble_eq_true rfl, Nat.le_of_ble_eq_true rfl⟩) ?_
                refine xb_if_eqB (tgt := 72) hx hb dX7_tell_66 (by decide) (fun h_31 => by exfalso; omega) (fun h_31 => ?_)
                refine xi_bipush hx hb dX7_tell_69 (by decide +kernel) ?_
                exact W.iret (v := iI (-2)) hx hb hr (fun t_ ht_ _ => ⟨congrArg (fun z => Outcome.returned (some (Value.int (iI z)))) rfl, ht_⟩) (fun _ h9 => absurd h9 List.not_mem_nil) dX7_tell_71
set_option maxHeartbeats 1000000 in
set_option maxRecDepth 100000 in
theorem c_X7_tell_vF (l : Launch) (D : va_G) (cyI cyJ cyO : ClassId) (qM : Nat) (qMf : Nat) (qMz : Nat) (qMi : Nat) (qMm : Nat) (mlate : Int) (mtn : Int) (qMty : Nat) (qMtk : Nat) (qMtl : Nat) (qMtt : Nat) (mwn : Int) (qMwf : Nat) (qMwt : Nat) (qMwl : Nat) (qMse : Nat) (qMsi : Nat) (qMkk : Nat) (qMkl : Nat) (mex : Int) (qMey : Nat) (qMel : Nat) (qMo : Nat) (qMx : Nat) (mtyped : Int) (mat : Int) (mpairs : Int) (qMpl : Nat) (qMpf : Nat) (mtt : Int → Int) (y : Int) (k : Int) (v : Int) (t9 : Int) (h_mtn : 0 ≤ mtn ∧ mtn ≤ 120) (h_mtt : ∀ j, 0 ≤ mtt j ∧ mtt j ≤ 999) (h_y : -2147483648 ≤ y ∧ y ≤ 2147483647) (h_k : -2147483648 ≤ k ∧ k ≤ 2147483647) (h_v : -2147483648 ≤ v ∧ v ≤ 2147483647) (h_t9 : -2147483648 ≤ t9 ∧ t9 ≤ 2147483647) (h_ok : (0 ≤ y ∧ y < 60) ∧ ((k = 0 ∧ 0 ≤ v ∧ v ≤ 999) ∨ (k = 1 ∧ 0 < v ∧ v ≤ 999) ∨ k = 2) ∧ (0 ≤ t9 ∧ t9 ≤ 999) ∧ ¬ (0 < mtn ∧ t9 < mtt (mtn - 1))) (h_full : mtn = 120) : Met l yX7_tell wsX7_tell ({ frames := 2, cells := 0, slots := 0, locals := 45 }) (va_Pc [.ref qM, .int (iI (y)), .int (iI (k)), .int (iI (v)), .int (iI (t9))] (xR D vwCl [(qM, .inr (7, [.ref qMf, .ref qMz, .ref qMi, .ref qMm, .int (iI (mlate)), .int (iI (mtn)), .ref qMty, .ref qMtk, .ref qMtl, .ref qMtt, .int (iI (mwn)), .ref qMwf, .ref qMwt, .ref qMwl, .ref qMse, .ref qMsi, .ref qMkk, .ref qMkl, .int (iI (mex)), .ref qMey, .ref qMel, .ref qMo, .ref qMx, .int (iI (mtyped)), .int (iI (mat)), .int (iI (mpairs)), .ref qMpl, .ref qMpf])), (qMtt, .inl (cyI, 120, .inl (xA (mtt))))] (xT cyI cyJ cyO))) (xq (some (.int (iI (-4))))) 0 0 (fun _ => False) := by
  refine Met.ofW (cc := cX7_tell) (maxL := 6) (ret := (some .int)) (by decide) rfl ?_
  intro p e s m args below meth c s₁ B hml hv
  obtain ⟨rfl, hP, hK⟩ := hv
  have hx := B.exec
  have hb := B.bytes
  have hr := B.returns
  have hts := atoms_spec (ws := wsX7_tell) B.pre
  have hown : s.vm.findClass RX7 = some m.cls := findClass_of_methodNamed B.named
  have hlocks := B.notSynchronized
  have hcX7 : ∀ w ∈ wsX70, w ∈ wsX7_tell := fun _ h => List.mem_cons_of_mem _ (List.mem_append_right _ h)
  have hP : va_P D vwCl [(qM, .inr (7, [.ref qMf, .ref qMz, .ref qMi, .ref qMm, .int (iI (mlate)), .int (iI (mtn)), .ref qMty, .ref qMtk, .ref qMtl, .ref qMtt, .int (iI (mwn)), .ref qMwf, .ref qMwt, .ref qMwl, .ref qMse, .ref qMsi, .ref qMkk, .ref qMkl, .int (iI (mex)), .ref qMey, .ref qMel, .ref qMo, .ref qMx, .int (iI (mtyped)), .int (iI (mat)), .int (iI (mpairs)), .ref qMpl, .ref qMpf])), (qMtt, .inl (cyI, 120, .inl (xA (mtt))))] s.heap := hP
  have hl := lv_entry ([.ref qM, .int (iI (y)), .int (iI (k)), .int (iI (v)), .int (iI (t9))]) (n := 6) (Nat.le_of_ble_eq_true rfl)
  rw [lg_entry_eq]
  generalize (lg_sl ([.ref qM, .int (iI (y)), .int (iI (k)), .int (iI (v)), .int (iI (t9))]) ++ List.replicate (6 - (lg_sl ([.ref qM, .int (iI (y)), .int (iI (k)), .int (iI (v)), .int (iI (t9))])).length) Slot.unset).toArray = ls at hl ⊢
  have hl : lv_has ls 6 [(0, .ref qM), (1, .int (iI (y))), (2, .int (iI (k))), (3, .int (iI (v))), (4, .int (iI (t9)))] := hl
  refine lv_iload_n hx hb dX7_tell_0 rfl (lv_at hl 2 rfl) ?_
  refine xi_const hx hb dX7_tell_1 ?_
  refine xb_icmp_eq (tgt := 33) hx hb dX7_tell_2 (by decide) (by omega) (fun h_1 => ?_) (fun h_1 => ?_)
  · refine xi_const hx hb dX7_tell_33 ?_
    refine lv_goto (tgt := 38) hx hb dX7_tell_34 (by decide) ?_
    refine lv_istore (lv' := [(5, .int (iI (1))), (0, .ref qM), (1, .int (iI (y))), (2, .int (iI (k))), (3, .int (iI (v))), (4, .int (iI (t9)))]) hx hb dX7_tell_38 hl (by decide) rfl (fun ls hl => ?_)
    refine lv_iload_n hx hb dX7_tell_40 rfl (lv_at hl 2 rfl) ?_
    have hPc := hP.sub (ws' := []) [] rfl
    refine xc_i (va_runS (As := [.int (iI (y))]) (rest := []) ⟨hx, hb, hml, hown, hts⟩ (c_X7_isYear l D cyI cyJ cyO y (by first | exact h_y | assumption | omega)) (va_cwS 1 hts gX7_tell_X7_isYear rfl rfl rfl (by decide +kernel) ⟨Nat.le_of_ble_eq_true rfl, Nat.le_of_ble_eq_true rfl⟩) (xpS hPc hK) rfl rfl hl.1 rfl (lv_room (Nat.le_of_ble_eq_true rfl)) dX7_tell_41 ⟨Nat.le_of_ble_eq_true rfl, Nat.le_of_ble_eq_true rfl⟩) ?_
    refine xb_if_eqB (tgt := 69) hx hb dX7_tell_44 (by decide) (fun h_2 => by exfalso; omega) (fun h_2 => ?_)
    refine lv_iload hx hb dX7_tell_47 (lv_at hl 0 rfl) ?_
    refine xb_if_eq (tgt := 69) hx hb dX7_tell_49 (by decide) (by omega) (fun h_3 => by exfalso; omega) (fun h_3 => ?_)
    refine lv_iload hx hb dX7_tell_52 (lv_at hl 5 rfl) ?_
    have hPc := hP.sub (ws' := []) [] rfl
    refine xc_i (va_runS (As := [.int (iI (t9))]) (rest := []) ⟨hx, hb, hml, hown, hts⟩ (c_X7_isLevel l D cyI cyJ cyO t9 (by first | exact h_y | assumption | omega)) (va_cwS 1 hts gX7_tell_X7_isLevel rfl rfl rfl (by decide +kernel) ⟨Nat.le_of_ble_eq_true rfl, Nat.le_of_ble_eq_true rfl⟩) (xpS hPc hK) rfl rfl hl.1 rfl (lv_room (Nat.le_of_ble_eq_true rfl)) dX7_tell_54 ⟨Nat.le_of_ble_eq_true rfl, Nat.le_of_ble_eq_true rfl⟩) ?_
    refine xb_if_eqB (tgt := 69) hx hb dX7_tell_57 (by decide) (fun h_4 => by exfalso; omega) (fun h_4 => ?_)
    refine lv_aload_n hx hb dX7_tell_60 rfl (lv_at hl 1 rfl) ?_
    refine lv_iload hx hb dX7_tell_61 (lv_at hl 5 rfl) ?_
    have hPc := hP.sub (ws' := [(qM, .inr (7, [.ref qMf, .ref qMz, .ref qMi, .ref qMm, .int (iI (mlate)), .int (iI (mtn)), .ref qMty, .ref qMtk, .ref qMtl, .ref qMtt, .int (iI (mwn)), .ref qMwf, .ref qMwt, .ref qMwl, .ref qMse, .ref qMsi, .ref qMkk, .ref qMkl, .int (iI (mex)), .ref qMey, .ref qMel, .ref qMo, .ref qMx, .int (iI (mtyped)), .int (iI (mat)), .int (iI (mpairs)), .ref qMpl, .ref qMpf])), (qMtt, .inl (cyI, 120, .inl (xA (mtt))))]) [0, 1] rfl
    refine xc_i (va_runV (As := [.int (iI (t9))]) (rest := []) ⟨hx, hb, hml, hown, hts⟩ (c_X7_isEarly l D cyI cyJ cyO qM qMf qMz qMi qMm mlate mtn qMty qMtk qMtl qMtt mwn qMwf qMwt qMwl qMse qMsi qMkk qMkl mex qMey qMel qMo qMx mtyped mat mpairs qMpl qMpf mtt t9 (by first | exact h_mtn | assumption | omega) (by first | exact h_mtt | assumption | omega) (by first | exact h_t9 | assumption | omega)) (cwV 1 hts gX7_tell_X7_isEarly rfl rfl rfl (by decide +kernel) ⟨Nat.le_of_ble_eq_true rfl, Nat.le_of_ble_eq_true rfl⟩) (xpV hPc hK (ci := 7) (q0 := 0) (q := (RX7, TX7, 28)) rfl rfl) rfl rfl hl.1 rfl (lv_room (Nat.le_of_ble_eq_true rfl)) dX7_tell_63 ⟨Nat.le_of_ble_eq_true rfl, Nat.le_of_ble_eq_true rfl⟩) ?_
    refine xb_if_eqB (tgt := 72) hx hb dX7_tell_66 (by decide) (fun h_5 => ?_) (fun h_5 => by exfalso; omega)
    refine lv_aload_n hx hb dX7_tell_72 rfl (lv_at hl 1 rfl) ?_
    refine va_get (D := D) (ci := 7) (C := RX7) (T := TX7) (N := 28) hx hb hts hcX7 hown hK hP 0 rfl rfl 5 (by decide) (hts (.fieldLink RX7 115 "WallMarksModel" "tellings" "I") (List.mem_of_getElem? (i := 2) (by decide +kernel))) (fun _ h9 => h9) rfl dX7_tell_73 ?_
    refine xi_bipush hx hb dX7_tell_76 (by decide +kernel) ?_
    refine xb_icmp_ne (tgt := 84) hx hb dX7_tell_78 (by decide) (by omega) (fun h_6 => by exfalso; omega) (fun h_6 => ?_)
    refine xi_bipush hx hb dX7_tell_81 (by decide +kernel) ?_
    exact W.iret (v := iI (-4)) hx hb hr (fun t_ ht_ _ => ⟨congrArg (fun z => Outcome.returned (some (Value.int (iI z)))) rfl, ht_⟩) (fun _ h9 => absurd h9 List.not_mem_nil) dX7_tell_83
  · refine lv_iload_n hx hb dX7_tell_5 rfl (lv_at hl 2 rfl) ?_
    refine xb_if_ne (tgt := 16) hx hb dX7_tell_6 (by decide) (by omega) (fun h_7 => ?_) (fun h_7 => ?_)
    · refine lv_iload_n hx hb dX7_tell_16 rfl (lv_at hl 2 rfl) ?_
      refine xi_const hx hb dX7_tell_17 ?_
      refine xb_icmp_ne (tgt := 37) hx hb dX7_tell_18 (by decide) (by omega) (fun h_8 => by exfalso; omega) (fun h_8 => ?_)
      refine lv_iload_n hx hb dX7_tell_21 rfl (lv_at hl 3 rfl) ?_
      refine xi_i2l hx hb dX7_tell_22 (by omega) ?_
      refine xi_lconst1 hx hb dX7_tell_23 ?_
      refine lv_ldc2 (v := lI (999)) hx hb hown (hts (.constantLong RX7 113 (lI (999))) (List.mem_of_getElem? (i := 1) (by decide +kernel))) dX7_tell_24 ?_
      have hPc := hP.sub (ws' := []) [] rfl
      refine xc_i (va_runS (As := [.long (lI (v)), .long (lI (1)), .long (lI (999))]) (rest := []) ⟨hx, hb, hml, hown, hts⟩ (c_X7_in l D cyI cyJ cyO v 1 999 (by first | exact h_v | assumption | omega) (by first | exact h_lo | assumption | omega) (by first | exact h_hi | assumption | omega)) (va_cwS 3 hts gX7_tell_X7_in rfl rfl rfl (by decide +kernel) ⟨Nat.le_of_ble_eq_true rfl, Nat.le_of_ble_eq_true rfl⟩) (xpS hPc hK) rfl rfl hl.1 rfl (lv_room (Nat.le_of_ble_eq_true rfl)) dX7_tell_27 ⟨Nat.le_of_ble_eq_true rfl, Nat.le_of_ble_eq_true rfl⟩) ?_
      refine xb_if_eqB (tgt := 37) hx hb dX7_tell_30 (by decide) (fun h_9 => by exfalso; omega) (fun h_9 => ?_)
      refine xi_const hx hb dX7_tell_33 ?_
      refine lv_goto (tgt := 38) hx hb dX7_tell_34 (by decide) ?_
      refine lv_istore (lv' := [(5, .int (iI (1))), (0, .ref qM), (1, .int (iI (y))), (2, .int (iI (k))), (3, .int (iI (v))), (4, .int (iI (t9)))]) hx hb dX7_tell_38 hl (by decide) rfl (fun ls hl => ?_)
      refine lv_iload_n hx hb dX7_tell_40 rfl (lv_at hl 2 rfl) ?_
      have hPc := hP.sub (ws' := []) [] rfl
      refine xc_i (va_runS (As := [.int (iI (y))]) (rest := []) ⟨hx, hb, hml, hown, hts⟩ (c_X7_isYear l D cyI cyJ cyO y (by first | exact h_y | assumption | omega)) (va_cwS 1 hts gX7_tell_X7_isYear rfl rfl rfl (by decide +kernel) ⟨Nat.le_of_ble_eq_true rfl, Nat.le_of_ble_eq_true rfl⟩) (xpS hPc hK) rfl rfl hl.1 rfl (lv_room (Nat.le_of_ble_eq_true rfl)) dX7_tell_41 ⟨Nat.le_of_ble_eq_true rfl, Nat.le_of_ble_eq_true rfl⟩) ?_
      refine xb_if_eqB (tgt := 69) hx hb dX7_tell_44 (by decide) (fun h_10 => by exfalso; omega) (fun h_10 => ?_)
      refine lv_iload hx hb dX7_tell_47 (lv_at hl 0 rfl) ?_
      refine xb_if_eq (tgt := 69) hx hb dX7_tell_49 (by decide) (by omega) (fun h_11 => by exfalso; omega) (fun h_11 => ?_)
      refine lv_iload hx hb dX7_tell_52 (lv_at hl 5 rfl) ?_
      have hPc := hP.sub (ws' := []) [] rfl
      refine xc_i (va_runS (As := [.int (iI (t9))]) (rest := []) ⟨hx, hb, hml, hown, hts⟩ (c_X7_isLevel l D cyI cyJ cyO t9 (by first | exact h_y | assumption | omega)) (va_cwS 1 hts gX7_tell_X7_isLevel rfl rfl rfl (by decide +kernel) ⟨Nat.le_of_ble_eq_true rfl, Nat.le_of_ble_eq_true rfl⟩) (xpS hPc hK) rfl rfl hl.1 rfl (lv_room (Nat.le_of_ble_eq_true rfl)) dX7_tell_54 ⟨Nat.le_of_ble_eq_true rfl, Nat.le_of_ble_eq_true rfl⟩) ?_
      refine xb_if_eqB (tgt := 69) hx hb dX7_tell_57 (by decide) (fun h_12 => by exfalso; omega) (fun h_12 => ?_)
      refine lv_aload_n hx hb dX7_tell_60 rfl (lv_at hl 1 rfl) ?_
      refine lv_iload hx hb dX7_tell_61 (lv_at hl 5 rfl) ?_
      have hPc := hP.sub (ws' := [(qM, .inr (7, [.ref qMf, .ref qMz, .ref qMi, .ref qMm, .int (iI (mlate)), .int (iI (mtn)), .ref qMty, .ref qMtk, .ref qMtl, .ref qMtt, .int (iI (mwn)), .ref qMwf, .ref qMwt, .ref qMwl, .ref qMse, .ref qMsi, .ref qMkk, .ref qMkl, .int (iI (mex)), .ref qMey, .ref qMel, .ref qMo, .ref qMx, .int (iI (mtyped)), .int (iI (mat)), .int (iI (mpairs)), .ref qMpl, .ref qMpf])), (qMtt, .inl (cyI, 120, .inl (xA (mtt))))]) [0, 1] rfl
      refine xc_i (va_runV (As := [.int (iI (t9))]) (rest := []) ⟨hx, hb, hml, hown, hts⟩ (c_X7_isEarly l D cyI cyJ cyO qM qMf qMz qMi qMm mlate mtn qMty qMtk qMtl qMtt mwn qMwf qMwt qMwl qMse qMsi qMkk qMkl mex qMey qMel qMo qMx mtyped mat mpairs qMpl qMpf mtt t9 (by first | exact h_mtn | assumption | omega) (by first | exact h_mtt | assumption | omega) (by first | exact h_t9 | assumption | omega)) (cwV 1 hts gX7_tell_X7_isEarly rfl rfl rfl (by decide +kernel) ⟨Nat.le_of_ble_eq_true rfl, Nat.le_of_ble_eq_true rfl⟩) (xpV hPc hK (ci := 7) (q0 := 0) (q := (RX7, TX7, 28)) rfl rfl) rfl rfl hl.1 rfl (lv_room (Nat.le_of_ble_eq_true rfl)) dX7_tell_63 ⟨Nat.le_of_ble_eq_true rfl, Nat.le_of_ble_eq_true rfl⟩) ?_
      refine xb_if_eqB (tgt := 72) hx hb dX7_tell_66 (by decide) (fun h_13 => ?_) (fun h_13 => by exfalso; omega)
      refine lv_aload_n hx hb dX7_tell_72 rfl (lv_at hl 1 rfl) ?_
      refine va_get (D := D) (ci := 7) (C := RX7) (T := TX7) (N := 28) hx hb hts hcX7 hown hK hP 0 rfl rfl 5 (by decide) (hts (.fieldLink RX7 115 "WallMarksModel" "tellings" "I") (List.mem_of_getElem? (i := 2) (by decide +kernel))) (fun _ h9 => h9) rfl dX7_tell_73 ?_
      refine xi_bipush hx hb dX7_tell_76 (by decide +kernel) ?_
      refine xb_icmp_ne (tgt := 84) hx hb dX7_tell_78 (by decide) (by omega) (fun h_14 => by exfalso; omega) (fun h_14 => ?_)
      refine xi_bipush hx hb dX7_tell_81 (by decide +kernel) ?_
      exact W.iret (v := iI (-4)) hx hb hr (fun t_ ht_ _ => ⟨congrArg (fun z => Outcome.returned (some (Value.int (iI z)))) rfl, ht_⟩) (fun _ h9 => absurd h9 List.not_mem_nil) dX7_tell_83
    · refine lv_iload_n hx hb dX7_tell_9 rfl (lv_at hl 3 rfl) ?_
      have hPc := hP.sub (ws' := []) [] rfl
      refine xc_i (va_runS (As := [.int (iI (v))]) (rest := []) ⟨hx, hb, hml, hown, hts⟩ (c_X7_isLevel l D cyI cyJ cyO v (by first | exact h_y | assumption | omega)) (va_cwS 1 hts gX7_tell_X7_isLevel rfl rfl rfl (by decide +kernel) ⟨Nat.le_of_ble_eq_true rfl, Nat.le_of_ble_eq_true rfl⟩) (xpS hPc hK) rfl rfl hl.1 rfl (lv_room (Nat.le_of_ble_eq_true rfl)) dX7_tell_10 ⟨Nat.le_of_ble_eq_true rfl, Nat.le_of_ble_eq_true rfl⟩) ?_
      refine xb_if_neB (tgt := 33) hx hb dX7_tell_13 (by decide) (fun h_15 => ?_) (fun h_15 => by exfalso; omega)
      refine xi_const hx hb dX7_tell_33 ?_
      refine lv_goto (tgt := 38) hx hb dX7_tell_34 (by decide) ?_
      refine lv_istore (lv' := [(5, .int (iI (1))), (0, .ref qM), (1, .int (iI (y))), (2, .int (iI (k))), (3, .int (iI (v))), (4, .int (iI (t9)))]) hx hb dX7_tell_38 hl (by decide) rfl (fun ls hl => ?_)
      refine lv_iload_n hx hb dX7_tell_40 rfl (lv_at hl 2 rfl) ?_
      have hPc := hP.sub (ws' := []) [] rfl
      refine xc_i (va_runS (As := [.int (iI (y))]) (rest := []) ⟨hx, hb, hml, hown, hts⟩ (c_X7_isYear l D cyI cyJ cyO y (by first | exact h_y | assumption | omega)) (va_cwS 1 hts gX7_tell_X7_isYear rfl rfl rfl (by decide +kernel) ⟨Nat.le_of_ble_eq_true rfl, Nat.le_of_ble_eq_true rfl⟩) (xpS hPc hK) rfl rfl hl.1 rfl (lv_room (Nat.le_of_ble_eq_true rfl)) dX7_tell_41 ⟨Nat.le_of_ble_eq_true rfl, Nat.le_of_ble_eq_true rfl⟩) ?_
      refine xb_if_eqB (tgt := 69) hx hb dX7_tell_44 (by decide) (fun h_16 => by exfalso; omega) (fun h_16 => ?_)
      refine lv_iload hx hb dX7_tell_47 (lv_at hl 0 rfl) ?_
      refine xb_if_eq (tgt := 69) hx hb dX7_tell_49 (by decide) (by omega) (fun h_17 => by exfalso; omega) (fun h_17 => ?_)
      refine lv_iload hx hb dX7_tell_52 (lv_at hl 5 rfl) ?_
      have hPc := hP.sub (ws' := []) [] rfl
      refine xc_i (va_runS (As := [.int (iI (t9))]) (rest := []) ⟨hx, hb, hml, hown, hts⟩ (c_X7_isLevel l D cyI cyJ cyO t9 (by first | exact h_y | assumption | omega)) (va_cwS 1 hts gX7_tell_X7_isLevel rfl rfl rfl (by decide +kernel) ⟨Nat.le_of_ble_eq_true rfl, Nat.le_of_ble_eq_true rfl⟩) (xpS hPc hK) rfl rfl hl.1 rfl (lv_room (Nat.le_of_ble_eq_true rfl)) dX7_tell_54 ⟨Nat.le_of_ble_eq_true rfl, Nat.le_of_ble_eq_true rfl⟩) ?_
      refine xb_if_eqB (tgt := 69) hx hb dX7_tell_57 (by decide) (fun h_18 => by exfalso; omega) (fun h_18 => ?_)
      refine lv_aload_n hx hb dX7_tell_60 rfl (lv_at hl 1 rfl) ?_
      refine lv_iload hx hb dX7_tell_61 (lv_at hl 5 rfl) ?_
      have hPc := hP.sub (ws' := [(qM, .inr (7, [.ref qMf, .ref qMz, .ref qMi, .ref qMm, .int (iI (mlate)), .int (iI (mtn)), .ref qMty, .ref qMtk, .ref qMtl, .ref qMtt, .int (iI (mwn)), .ref qMwf, .ref qMwt, .ref qMwl, .ref qMse, .ref qMsi, .ref qMkk, .ref qMkl, .int (iI (mex)), .ref qMey, .ref qMel, .ref qMo, .ref qMx, .int (iI (mtyped)), .int (iI (mat)), .int (iI (mpairs)), .ref qMpl, .ref qMpf])), (qMtt, .inl (cyI, 120, .inl (xA (mtt))))]) [0, 1] rfl
      refine xc_i (va_runV (As := [.int (iI (t9))]) (rest := []) ⟨hx, hb, hml, hown, hts⟩ (c_X7_isEarly l D cyI cyJ cyO qM qMf qMz qMi qMm mlate mtn qMty qMtk qMtl qMtt mwn qMwf qMwt qMwl qMse qMsi qMkk qMkl mex qMey qMel qMo qMx mtyped mat mpairs qMpl qMpf mtt t9 (by first | exact h_mtn | assumption | omega) (by first | exact h_mtt | assumption | omega) (by first | exact h_t9 | assumption | omega)) (cwV 1 hts gX7_tell_X7_isEarly rfl rfl rfl (by decide +kernel) ⟨Nat.le_of_ble_eq_true rfl, Nat.le_of_ble_eq_true rfl⟩) (xpV hPc hK (ci := 7) (q0 := 0) (q := (RX7, TX7, 28)) rfl rfl) rfl rfl hl.1 rfl (lv_room (Nat.le_of_ble_eq_true rfl)) dX7_tell_63 ⟨Nat.le_of_ble_eq_true rfl, Nat.le_of_ble_eq_true rfl⟩) ?_
      refine xb_if_eqB (tgt := 72) hx hb dX7_tell_66 (by decide) (fun h_19 => ?_) (fun h_19 => by exfalso; omega)
      refine lv_aload_n hx hb dX7_tell_72 rfl (lv_at hl 1 rfl) ?_
      refine va_get (D := D) (ci := 7) (C := RX7) (T := TX7) (N := 28) hx hb hts hcX7 hown hK hP 0 rfl rfl 5 (by decide) (hts (.fieldLink RX7 115 "WallMarksModel" "tellings" "I") (List.mem_of_getElem? (i := 2) (by decide +kernel))) (fun _ h9 => h9) rfl dX7_tell_73 ?_
      refine xi_bipush hx hb dX7_tell_76 (by decide +kernel) ?_
      refine xb_icmp_ne (tgt := 84) hx hb dX7_tell_78 (by decide) (by omega) (fun h_20 => by exfalso; omega) (fun h_20 => ?_)
      refine xi_bipush hx hb dX7_tell_81 (by decide +kernel) ?_
      exact W.iret (v := iI (-4)) hx hb hr (fun t_ ht_ _ => ⟨congrArg (fun z => Outcome.returned (some (Value.int (iI z)))) rfl, ht_⟩) (fun _ h9 => absurd h9 List.not_mem_nil) dX7_tell_83
set_option maxHeartbeats 1000000 in
set_option maxRecDepth 100000 in
theorem c_X7_tell_vK (l : Launch) (D : va_G) (cyI cyJ cyO : ClassId) (qM : Nat) (qMf : Nat) (qMz : Nat) (qMi : Nat) (qMm : Nat) (mlate : Int) (mtn : Int) (qMty : Nat) (qMtk : Nat) (qMtl : Nat) (qMtt : Nat) (mwn : Int) (qMwf : Nat) (qMwt : Nat) (qMwl : Nat) (qMse : Nat) (qMsi : Nat) (qMkk : Nat) (qMkl : Nat) (mex : Int) (qMey : Nat) (qMel : Nat) (qMo : Nat) (qMx : Nat) (mtyped : Int) (mat : Int) (mpairs : Int) (qMpl : Nat) (qMpf : Nat) (mty : Int → Int) (mtk : Int → Int) (mtl : Int → Int) (mtt : Int → Int) (sz : Nat) (y : Int) (k : Int) (v : Int) (t9 : Int) (h_mtn : 0 ≤ mtn ∧ mtn ≤ 120) (h_mtt : ∀ j, 0 ≤ mtt j ∧ mtt j ≤ 999) (h_y : -2147483648 ≤ y ∧ y ≤ 2147483647) (h_k : -2147483648 ≤ k ∧ k ≤ 2147483647) (h_v : -2147483648 ≤ v ∧ v ≤ 2147483647) (h_t9 : -2147483648 ≤ t9 ∧ t9 ≤ 2147483647) (h_ok : (0 ≤ y ∧ y < 60) ∧ ((k = 0 ∧ 0 ≤ v ∧ v ≤ 999) ∨ (k = 1 ∧ 0 < v ∧ v ≤ 999) ∨ k = 2) ∧ (0 ≤ t9 ∧ t9 ≤ 999) ∧ ¬ (0 < mtn ∧ t9 < mtt (mtn - 1))) (h_full : mtn < 120) : Met l yX7_tell wsX7_tell ({ frames := 2, cells := 0, slots := 0, locals := 45 }) (va_Pc [.ref qM, .int (iI (y)), .int (iI (k)), .int (iI (v)), .int (iI (t9))] (xM D vwCl [(qM, .inr (7, [.ref qMf, .ref qMz, .ref qMi, .ref qMm, .int (iI (mlate)), .int (iI (mtn)), .ref qMty, .ref qMtk, .ref qMtl, .ref qMtt, .int (iI (mwn)), .ref qMwf, .ref qMwt, .ref qMwl, .ref qMse, .ref qMsi, .ref qMkk, .ref qMkl, .int (iI (mex)), .ref qMey, .ref qMel, .ref qMo, .ref qMx, .int (iI (mtyped)), .int (iI (mat)), .int (iI (mpairs)), .ref qMpl, .ref qMpf])), (qMty, .inl (cyI, 120, .inl (xA (mty)))), (qMtk, .inl (cyI, 120, .inl (xA (mtk)))), (qMtl, .inl (cyI, 120, .inl (xA (mtl)))), (qMtt, .inl (cyI, 120, .inl (xA (mtt))))] (xT cyI cyJ cyO) sz)) (va_Qi (fun (r : Int32) (u : Unit) => r = iI (mtn + 1) ∧ True) (xB D vwCl (xT cyI cyJ cyO) (va_A [(qM, .inr (7, [.ref qMf, .ref qMz, .ref qMi, .ref qMm, .int (iI (mlate)), .int (iI (mtn)), .ref qMty, .ref qMtk, .ref qMtl, .ref qMtt, .int (iI (mwn)), .ref qMwf, .ref qMwt, .ref qMwl, .ref qMse, .ref qMsi, .ref qMkk, .ref qMkl, .int (iI (mex)), .ref qMey, .ref qMel, .ref qMo, .ref qMx, .int (iI (mtyped)), .int (iI (mat)), .int (iI (mpairs)), .ref qMpl, .ref qMpf])), (qMty, .inl (cyI, 120, .inl (xA (mty)))), (qMtk, .inl (cyI, 120, .inl (xA (mtk)))), (qMtl, .inl (cyI, 120, .inl (xA (mtl)))), (qMtt, .inl (cyI, 120, .inl (xA (mtt))))] sz) (fun u : Unit => [(qM, .inr (7, [.ref qMf, .ref qMz, .ref qMi, .ref qMm, .int (iI (mlate)), .int (iI (mtn + 1)), .ref qMty, .ref qMtk, .ref qMtl, .ref qMtt, .int (iI (mwn)), .ref qMwf, .ref qMwt, .ref qMwl, .ref qMse, .ref qMsi, .ref qMkk, .ref qMkl, .int (iI (mex)), .ref qMey, .ref qMel, .ref qMo, .ref qMx, .int (iI (mtyped)), .int (iI (mat)), .int (iI (mpairs)), .ref qMpl, .ref qMpf])), (qMty, .inl (cyI, 120, .inl (xA (uz mty mtn y)))), (qMtk, .inl (cyI, 120, .inl (xA (uz mtk mtn k)))), (qMtl, .inl (cyI, 120, .inl (xA (uz mtl mtn v)))), (qMtt, .inl (cyI, 120, .inl (xA (uz mtt mtn t9))))])) (va_A [(qM, .inr (7, [.ref qMf, .ref qMz, .ref qMi, .ref qMm, .int (iI (mlate)), .int (iI (mtn)), .ref qMty, .ref qMtk, .ref qMtl, .ref qMtt, .int (iI (mwn)), .ref qMwf, .ref qMwt, .ref qMwl, .ref qMse, .ref qMsi, .ref qMkk, .ref qMkl, .int (iI (mex)), .ref qMey, .ref qMel, .ref qMo, .ref qMx, .int (iI (mtyped)), .int (iI (mat)), .int (iI (mpairs)), .ref qMpl, .ref qMpf])), (qMty, .inl (cyI, 120, .inl (xA (mty)))), (qMtk, .inl (cyI, 120, .inl (xA (mtk)))), (qMtl, .inl (cyI, 120, .inl (xA (mtl)))), (qMtt, .inl (cyI, 120, .inl (xA (mtt))))] sz)) 0 0 (va_A [(qM, .inr (7, [.ref qMf, .ref qMz, .ref qMi, .ref qMm, .int (iI (mlate)), .int (iI (mtn)), .ref qMty, .ref qMtk, .ref qMtl, .ref qMtt, .int (iI (mwn)), .ref qMwf, .ref qMwt, .ref qMwl, .ref qMse, .ref qMsi, .ref qMkk, .ref qMkl, .int (iI (mex)), .ref qMey, .ref qMel, .ref qMo, .ref qMx, .int (iI (mtyped)), .int (iI (mat)), .int (iI (mpairs)), .ref qMpl, .ref qMpf])), (qMty, .inl (cyI, 120, .inl (xA (mty)))), (qMtk, .inl (cyI, 120, .inl (xA (mtk)))), (qMtl, .inl (cyI, 120, .inl (xA (mtl)))), (qMtt, .inl (cyI, 120, .inl (xA (mtt))))] sz) := by
  refine Met.ofW (cc := cX7_tell) (maxL := 6) (ret := (some .int)) (by decide) rfl ?_
  intro p e s m args below meth c s₁ B hml hv
  obtain ⟨rfl, hsz, hP, hK, hD0⟩ := hv
  have hx := B.exec
  have hb := B.bytes
  have hr := B.returns
  have hts := atoms_spec (ws := wsX7_tell) B.pre
  have hown : s.vm.findClass RX7 = some m.cls := findClass_of_methodNamed B.named
  have hlocks := B.notSynchronized
  have hcX7 : ∀ w ∈ wsX70, w ∈ wsX7_tell := fun _ h => List.mem_cons_of_mem _ (List.mem_append_right _ h)
  subst hsz
  have hD := hD0.self (sz := s.heap.size)
  generalize hAe : va_A [(qM, .inr (7, [.ref qMf, .ref qMz, .ref qMi, .ref qMm, .int (iI (mlate)), .int (iI (mtn)), .ref qMty, .ref qMtk, .ref qMtl, .ref qMtt, .int (iI (mwn)), .ref qMwf, .ref qMwt, .ref qMwl, .ref qMse, .ref qMsi, .ref qMkk, .ref qMkl, .int (iI (mex)), .ref qMey, .ref qMel, .ref qMo, .ref qMx, .int (iI (mtyped)), .int (iI (mat)), .int (iI (mpairs)), .ref qMpl, .ref qMpf])), (qMty, .inl (cyI, 120, .inl (xA (mty)))), (qMtk, .inl (cyI, 120, .inl (xA (mtk)))), (qMtl, .inl (cyI, 120, .inl (xA (mtl)))), (qMtt, .inl (cyI, 120, .inl (xA (mtt))))] s.heap.size = A at hD ⊢
  have hA : ∀ q : Nat, s.heap.size ≤ q → A q := fun q h => by rw [← hAe]; exact Or.inr h
  have hS : va_S A s.heap s.heap [] := va_S.rf
  have hP : va_P D vwCl [(qM, .inr (7, [.ref qMf, .ref qMz, .ref qMi, .ref qMm, .int (iI (mlate)), .int (iI (mtn)), .ref qMty, .ref qMtk, .ref qMtl, .ref qMtt, .int (iI (mwn)), .ref qMwf, .ref qMwt, .ref qMwl, .ref qMse, .ref qMsi, .ref qMkk, .ref qMkl, .int (iI (mex)), .ref qMey, .ref qMel, .ref qMo, .ref qMx, .int (iI (mtyped)), .int (iI (mat)), .int (iI (mpairs)), .ref qMpl, .ref qMpf])), (qMty, .inl (cyI, 120, .inl (xA (mty)))), (qMtk, .inl (cyI, 120, .inl (xA (mtk)))), (qMtl, .inl (cyI, 120, .inl (xA (mtl)))), (qMtt, .inl (cyI, 120, .inl (xA (mtt))))] s.heap := hP
  have hl := lv_entry ([.ref qM, .int (iI (y)), .int (iI (k)), .int (iI (v)), .int (iI (t9))]) (n := 6) (Nat.le_of_ble_eq_true rfl)
  rw [lg_entry_eq]
  generalize (lg_sl ([.ref qM, .int (iI (y)), .int (iI (k)), .int (iI (v)), .int (iI (t9))]) ++ List.replicate (6 - (lg_sl ([.ref qM, .int (iI (y)), .int (iI (k)), .int (iI (v)), .int (iI (t9))])).length) Slot.unset).toArray = ls at hl ⊢
  have hl : lv_has ls 6 [(0, .ref qM), (1, .int (iI (y))), (2, .int (iI (k))), (3, .int (iI (v))), (4, .int (iI (t9)))] := hl
  refine lv_iload_n hx hb dX7_tell_0 rfl (lv_at hl 2 rfl) ?_
  refine xi_const hx hb dX7_tell_1 ?_
  refine xb_icmp_eq (tgt := 33) hx hb dX7_tell_2 (by decide) (by omega) (fun h_1 => ?_) (fun h_1 => ?_)
  · refine xi_const hx hb dX7_tell_33 ?_
    refine lv_goto (tgt := 38) hx hb dX7_tell_34 (by decide) ?_
    refine lv_istore (lv' := [(5, .int (iI (1))), (0, .ref qM), (1, .int (iI (y))), (2, .int (iI (k))), (3, .int (iI (v))), (4, .int (iI (t9)))]) hx hb dX7_tell_38 hl (by decide) rfl (fun ls hl => ?_)
    refine lv_iload_n hx hb dX7_tell_40 rfl (lv_at hl 2 rfl) ?_
    have hPc := hP.sub (ws' := []) [] rfl
    refine xc_i (va_runS (As := [.int (iI (y))]) (rest := []) ⟨hx, hb, hml, hown, hts⟩ (c_X7_isYear l D cyI cyJ cyO y (by first | exact h_y | assumption | omega)) (va_cwS 1 hts gX7_tell_X7_isYear rfl rfl rfl (by decide +kernel) ⟨Nat.le_of_ble_eq_true rfl, Nat.le_of_ble_eq_true rfl⟩) (xpS hPc hK) rfl rfl hl.1 rfl (lv_room (Nat.le_of_ble_eq_true rfl)) dX7_tell_41 ⟨Nat.le_of_ble_eq_true rfl, Nat.le_of_ble_eq_true rfl⟩) ?_
    refine xb_if_eqB (tgt := 69) hx hb dX7_tell_44 (by decide) (fun h_2 => by exfalso; omega) (fun h_2 => ?_)
    refine lv_iload hx hb dX7_tell_47 (lv_at hl 0 rfl) ?_
    refine xb_if_eq (tgt := 69) hx hb dX7_tell_49 (by decide) (by omega) (fun h_3 => by exfalso; omega) (fun h_3 => ?_)
    refine lv_iload hx hb dX7_tell_52 (lv_at hl 5 rfl) ?_
    have hPc := hP.sub (ws' := []) [] rfl
    refine xc_i (va_runS (As := [.int (iI (t9))]) (rest := []) ⟨hx, hb, hml, hown, hts⟩ (c_X7_isLevel l D cyI cyJ cyO t9 (by first | exact h_y | assumption | omega)) (va_cwS 1 hts gX7_tell_X7_isLevel rfl rfl rfl (by decide +kernel) ⟨Nat.le_of_ble_eq_true rfl, Nat.le_of_ble_eq_true rfl⟩) (xpS hPc hK) rfl rfl hl.1 rfl (lv_room (Nat.le_of_ble_eq_true rfl)) dX7_tell_54 ⟨Nat.le_of_ble_eq_true rfl, Nat.le_of_ble_eq_true rfl⟩) ?_
    refine xb_if_eqB (tgt := 69) hx hb dX7_tell_57 (by decide) (fun h_4 => by exfalso; omega) (fun h_4 => ?_)
    refine lv_aload_n hx hb dX7_tell_60 rfl (lv_at hl 1 rfl) ?_
    refine lv_iload hx hb dX7_tell_61 (lv_at hl 5 rfl) ?_
    have hPc := hP.sub (ws' := [(qM, .inr (7, [.ref qMf, .ref qMz, .ref qMi, .ref qMm, .int (iI (mlate)), .int (iI (mtn)), .ref qMty, .ref qMtk, .ref qMtl, .ref qMtt, .int (iI (mwn)), .ref qMwf, .ref qMwt, .ref qMwl, .ref qMse, .ref qMsi, .ref qMkk, .ref qMkl, .int (iI (mex)), .ref qMey, .ref qMel, .ref qMo, .ref qMx, .int (iI (mtyped)), .int (iI (mat)), .int (iI (mpairs)), .ref qMpl, .ref qMpf])), (qMtt, .inl (cyI, 120, .inl (xA (mtt))))]) [0, 4] rfl
    refine xc_i (va_runV (As := [.int (iI (t9))]) (rest := []) ⟨hx, hb, hml, hown, hts⟩ (c_X7_isEarly l D cyI cyJ cyO qM qMf qMz qMi qMm mlate mtn qMty qMtk qMtl qMtt mwn qMwf qMwt qMwl qMse qMsi qMkk qMkl mex qMey qMel qMo qMx mtyped mat mpairs qMpl qMpf mtt t9 (by first | exact h_mtn | assumption | omega) (by first | exact h_mtt | assumption | omega) (by first | exact h_t9 | assumption | omega)) (cwV 1 hts gX7_tell_X7_isEarly rfl rfl rfl (by decide +kernel) ⟨Nat.le_of_ble_eq_true rfl, Nat.le_of_ble_eq_true rfl⟩) (xpV hPc hK (ci := 7) (q0 := 0) (q := (RX7, TX7, 28)) rfl rfl) rfl rfl hl.1 rfl (lv_room (Nat.le_of_ble_eq_true rfl)) dX7_tell_63 ⟨Nat.le_of_ble_eq_true rfl, Nat.le_of_ble_eq_true rfl⟩) ?_
    refine xb_if_eqB (tgt := 72) hx hb dX7_tell_66 (by decide) (fun h_5 => ?_) (fun h_5 => by exfalso; omega)
    refine lv_aload_n hx hb dX7_tell_72 rfl (lv_at hl 1 rfl) ?_
    refine va_get (D := D) (ci := 7) (C := RX7) (T := TX7) (N := 28) hx hb hts hcX7 hown hK hP 0 rfl rfl 5 (by decide) (hts (.fieldLink RX7 115 "WallMarksModel" "tellings" "I") (List.mem_of_getElem? (i := 2) (by decide +kernel))) (fun _ h9 => h9) rfl dX7_tell_73 ?_
    refine xi_bipush hx hb dX7_tell_76 (by decide +kernel) ?_
    refine xb_icmp_ne (tgt := 84) hx hb dX7_tell_78 (by decide) (by omega) (fun h_6 => ?_) (fun h_6 => by exfalso; omega)
    refine lv_aload_n hx hb dX7_tell_84 rfl (lv_at hl 1 rfl) ?_
    refine va_get (D := D) (ci := 7) (C := RX7) (T := TX7) (N := 28) hx hb hts hcX7 hown hK hP 0 rfl rfl 6 (by decide) (hts (.fieldLink RX7 22 "WallMarksModel" "toldYear" "[I") (List.mem_of_getElem? (i := 3) (by decide +kernel))) (fun _ h9 => h9) rfl dX7_tell_85 ?_
    refine lv_aload_n hx hb dX7_tell_88 rfl (lv_at hl 1 rfl) ?_
    refine va_get (D := D) (ci := 7) (C := RX7) (T := TX7) (N := 28) hx hb hts hcX7 hown hK hP 0 rfl rfl 5 (by decide) (hts (.fieldLink RX7 115 "WallMarksModel" "tellings" "I") (List.mem_of_getElem? (i := 2) (by decide +kernel))) (fun _ h9 => h9) rfl dX7_tell_89 ?_
    refine lv_iload_n hx hb dX7_tell_92 rfl (lv_at hl 2 rfl) ?_
    refine xi_ast (D := D) hx hb hK hP hD hS 1 0 rfl rfl (by decide) (by omega) dX7_tell_93 (fun H locs hP hD hS => ?_)
    have hP : va_P D vwCl [(qM, .inr (7, [.ref qMf, .ref qMz, .ref qMi, .ref qMm, .int (iI (mlate)), .int (iI (mtn)), .ref qMty, .ref qMtk, .ref qMtl, .ref qMtt, .int (iI (mwn)), .ref qMwf, .ref qMwt, .ref qMwl, .ref qMse, .ref qMsi, .ref qMkk, .ref qMkl, .int (iI (mex)), .ref qMey, .ref qMel, .ref qMo, .ref qMx, .int (iI (mtyped)), .int (iI (mat)), .int (iI (mpairs)), .ref qMpl, .ref qMpf])), (qMty, .inl (cyI, 120, .inl (xA (uz mty (mtn) (y))))), (qMtk, .inl (cyI, 120, .inl (xA (mtk)))), (qMtl, .inl (cyI, 120, .inl (xA (mtl)))), (qMtt, .inl (cyI, 120, .inl (xA (mtt))))] H := hP
    have hD : va_D A [(qM, .inr (7, [.ref qMf, .ref qMz, .ref qMi, .ref qMm, .int (iI (mlate)), .int (iI (mtn)), .ref qMty, .ref qMtk, .ref qMtl, .ref qMtt, .int (iI (mwn)), .ref qMwf, .ref qMwt, .ref qMwl, .ref qMse, .ref qMsi, .ref qMkk, .ref qMkl, .int (iI (mex)), .ref qMey, .ref qMel, .ref qMo, .ref qMx, .int (iI (mtyped)), .int (iI (mat)), .int (iI (mpairs)), .ref qMpl, .ref qMpf])), (qMty, .inl (cyI, 120, .inl (xA (uz mty (mtn) (y))))), (qMtk, .inl (cyI, 120, .inl (xA (mtk)))), (qMtl, .inl (cyI, 120, .inl (xA (mtl)))), (qMtt, .inl (cyI, 120, .inl (xA (mtt))))] := hD
    refine lv_aload_n hx hb dX7_tell_94 rfl (lv_at hl 1 rfl) ?_
    refine va_get (D := D) (ci := 7) (C := RX7) (T := TX7) (N := 28) hx hb hts hcX7 hown hK hP 0 rfl rfl 7 (by decide) (hts (.fieldLink RX7 25 "WallMarksModel" "toldKind" "[I") (List.mem_of_getElem? (i := 4) (by decide +kernel))) (fun _ h9 => h9) rfl dX7_tell_95 ?_
    refine lv_aload_n hx hb dX7_tell_98 rfl (lv_at hl 1 rfl) ?_
    refine va_get (D := D) (ci := 7) (C := RX7) (T := TX7) (N := 28) hx hb hts hcX7 hown hK hP 0 rfl rfl 5 (by decide) (hts (.fieldLink RX7 115 "WallMarksModel" "tellings" "I") (List.mem_of_getElem? (i := 2) (by decide +kernel))) (fun _ h9 => h9) rfl dX7_tell_99 ?_
    refine lv_iload_n hx hb dX7_tell_102 rfl (lv_at hl 3 rfl) ?_
    refine xi_ast (D := D) hx hb hK hP hD hS 2 0 rfl rfl (by decide) (by omega) dX7_tell_103 (fun H locs hP hD hS => ?_)
    have hP : va_P D vwCl [(qM, .inr (7, [.ref qMf, .ref qMz, .ref qMi, .ref qMm, .int (iI (mlate)), .int (iI (mtn)), .ref qMty, .ref qMtk, .ref qMtl, .ref qMtt, .int (iI (mwn)), .ref qMwf, .ref qMwt, .ref qMwl, .ref qMse, .ref qMsi, .ref qMkk, .ref qMkl, .int (iI (mex)), .ref qMey, .ref qMel, .ref qMo, .ref qMx, .int (iI (mtyped)), .int (iI (mat)), .int (iI (mpairs)), .ref qMpl, .ref qMpf])), (qMty, .inl (cyI, 120, .inl (xA (uz mty (mtn) (y))))), (qMtk, .inl (cyI, 120, .inl (xA (uz mtk (mtn) (k))))), (qMtl, .inl (cyI, 120, .inl (xA (mtl)))), (qMtt, .inl (cyI, 120, .inl (xA (mtt))))] H := hP
    have hD : va_D A [(qM, .inr (7, [.ref qMf, .ref qMz, .ref qMi, .ref qMm, .int (iI (mlate)), .int (iI (mtn)), .ref qMty, .ref qMtk, .ref qMtl, .ref qMtt, .int (iI (mwn)), .ref qMwf, .ref qMwt, .ref qMwl, .ref qMse, .ref qMsi, .ref qMkk, .ref qMkl, .int (iI (mex)), .ref qMey, .ref qMel, .ref qMo, .ref qMx, .int (iI (mtyped)), .int (iI (mat)), .int (iI (mpairs)), .ref qMpl, .ref qMpf])), (qMty, .inl (cyI, 120, .inl (xA (uz mty (mtn) (y))))), (qMtk, .inl (cyI, 120, .inl (xA (uz mtk (mtn) (k))))), (qMtl, .inl (cyI, 120, .inl (xA (mtl)))), (qMtt, .inl (cyI, 120, .inl (xA (mtt))))] := hD
    refine lv_aload_n hx hb dX7_tell_104 rfl (lv_at hl 1 rfl) ?_
    refine va_get (D := D) (ci := 7) (C := RX7) (T := TX7) (N := 28) hx hb hts hcX7 hown hK hP 0 rfl rfl 8 (by decide) (hts (.fieldLink RX7 28 "WallMarksModel" "toldLevel" "[I") (List.mem_of_getElem? (i := 5) (by decide +kernel))) (fun _ h9 => h9) rfl dX7_tell_105 ?_
    refine lv_aload_n hx hb dX7_tell_108 rfl (lv_at hl 1 rfl) ?_
    refine va_get (D := D) (ci := 7) (C := RX7) (T := TX7) (N := 28) hx hb hts hcX7 hown hK hP 0 rfl rfl 5 (by decide) (hts (.fieldLink RX7 115 "WallMarksModel" "tellings" "I") (List.mem_of_getElem? (i := 2) (by decide +kernel))) (fun _ h9 => h9) rfl dX7_tell_109 ?_
    refine lv_iload_n hx hb dX7_tell_112 rfl (lv_at hl 4 rfl) ?_
    refine xi_ast (D := D) hx hb hK hP hD hS 3 0 rfl rfl (by decide) (by omega) dX7_tell_113 (fun H locs hP hD hS => ?_)
    have hP : va_P D vwCl [(qM, .inr (7, [.ref qMf, .ref qMz, .ref qMi, .ref qMm, .int (iI (mlate)), .int (iI (mtn)), .ref qMty, .ref qMtk, .ref qMtl, .ref qMtt, .int (iI (mwn)), .ref qMwf, .ref qMwt, .ref qMwl, .ref qMse, .ref qMsi, .ref qMkk, .ref qMkl, .int (iI (mex)), .ref qMey, .ref qMel, .ref qMo, .ref qMx, .int (iI (mtyped)), .int (iI (mat)), .int (iI (mpairs)), .ref qMpl, .ref qMpf])), (qMty, .inl (cyI, 120, .inl (xA (uz mty (mtn) (y))))), (qMtk, .inl (cyI, 120, .inl (xA (uz mtk (mtn) (k))))), (qMtl, .inl (cyI, 120, .inl (xA (uz mtl (mtn) (v))))), (qMtt, .inl (cyI, 120, .inl (xA (mtt))))] H := hP
    have hD : va_D A [(qM, .inr (7, [.ref qMf, .ref qMz, .ref qMi, .ref qMm, .int (iI (mlate)), .int (iI (mtn)), .ref qMty, .ref qMtk, .ref qMtl, .ref qMtt, .int (iI (mwn)), .ref qMwf, .ref qMwt, .ref qMwl, .ref qMse, .ref qMsi, .ref qMkk, .ref qMkl, .int (iI (mex)), .ref qMey, .ref qMel, .ref qMo, .ref qMx, .int (iI (mtyped)), .int (iI (mat)), .int (iI (mpairs)), .ref qMpl, .ref qMpf])), (qMty, .inl (cyI, 120, .inl (xA (uz mty (mtn) (y))))), (qMtk, .inl (cyI, 120, .inl (xA (uz mtk (mtn) (k))))), (qMtl, .inl (cyI, 120, .inl (xA (uz mtl (mtn) (v))))), (qMtt, .inl (cyI, 120, .inl (xA (mtt))))] := hD
    refine lv_aload_n hx hb dX7_tell_114 rfl (lv_at hl 1 rfl) ?_
    refine va_get (D := D) (ci := 7) (C := RX7) (T := TX7) (N := 28) hx hb hts hcX7 hown hK hP 0 rfl rfl 9 (by decide) (hts (.fieldLink RX7 31 "WallMarksModel" "toldTime" "[I") (List.mem_of_getElem? (i := 6) (by decide +kernel))) (fun _ h9 => h9) rfl dX7_tell_115 ?_
    refine lv_aload_n hx hb dX7_tell_118 rfl (lv_at hl 1 rfl) ?_
    refine va_get (D := D) (ci := 7) (C := RX7) (T := TX7) (N := 28) hx hb hts hcX7 hown hK hP 0 rfl rfl 5 (by decide) (hts (.fieldLink RX7 115 "WallMarksModel" "tellings" "I") (List.mem_of_getElem? (i := 2) (by decide +kernel))) (fun _ h9 => h9) rfl dX7_tell_119 ?_
    refine lv_iload hx hb dX7_tell_122 (lv_at hl 5 rfl) ?_
    refine xi_ast (D := D) hx hb hK hP hD hS 4 0 rfl rfl (by decide) (by omega) dX7_tell_124 (fun H locs hP hD hS => ?_)
    have hP : va_P D vwCl [(qM, .inr (7, [.ref qMf, .ref qMz, .ref qMi, .ref qMm, .int (iI (mlate)), .int (iI (mtn)), .ref qMty, .ref qMtk, .ref qMtl, .ref qMtt, .int (iI (mwn)), .ref qMwf, .ref qMwt, .ref qMwl, .ref qMse, .ref qMsi, .ref qMkk, .ref qMkl, .int (iI (mex)), .ref qMey, .ref qMel, .ref qMo, .ref qMx, .int (iI (mtyped)), .int (iI (mat)), .int (iI (mpairs)), .ref qMpl, .ref qMpf])), (qMty, .inl (cyI, 120, .inl (xA (uz mty (mtn) (y))))), (qMtk, .inl (cyI, 120, .inl (xA (uz mtk (mtn) (k))))), (qMtl, .inl (cyI, 120, .inl (xA (uz mtl (mtn) (v))))), (qMtt, .inl (cyI, 120, .inl (xA (uz mtt (mtn) (t9)))))] H := hP
    have hD : va_D A [(qM, .inr (7, [.ref qMf, .ref qMz, .ref qMi, .ref qMm, .int (iI (mlate)), .int (iI (mtn)), .ref qMty, .ref qMtk, .ref qMtl, .ref qMtt, .int (iI (mwn)), .ref qMwf, .ref qMwt, .ref qMwl, .ref qMse, .ref qMsi, .ref qMkk, .ref qMkl, .int (iI (mex)), .ref qMey, .ref qMel, .ref qMo, .ref qMx, .int (iI (mtyped)), .int (iI (mat)), .int (iI (mpairs)), .ref qMpl, .ref qMpf])), (qMty, .inl (cyI, 120, .inl (xA (uz mty (mtn) (y))))), (qMtk, .inl (cyI, 120, .inl (xA (uz mtk (mtn) (k))))), (qMtl, .inl (cyI, 120, .inl (xA (uz mtl (mtn) (v))))), (qMtt, .inl (cyI, 120, .inl (xA (uz mtt (mtn) (t9)))))] := hD
    refine lv_aload_n hx hb dX7_tell_125 rfl (lv_at hl 1 rfl) ?_
    refine lv_dup hx hb dX7_tell_126 rfl ?_
    refine va_get (D := D) (ci := 7) (C := RX7) (T := TX7) (N := 28) hx hb hts hcX7 hown hK hP 0 rfl rfl 5 (by decide) (hts (.fieldLink RX7 115 "WallMarksModel" "tellings" "I") (List.mem_of_getElem? (i := 2) (by decide +kernel))) (fun _ h9 => h9) rfl dX7_tell_127 ?_
    refine xi_const hx hb dX7_tell_130 ?_
    refine xi_add hx hb dX7_tell_131 ?_
    refine va_put (D := D) (ci := 7) (v := .int (iI (mtn + 1))) (ty := .int) (C := RX7) (T := TX7) (N := 28) hx hb hts hcX7 tyX7 tyX7_ok nmX7 hown hK hP hD hS 0 rfl rfl 5 (by decide) (hts (.fieldLink RX7 115 "WallMarksModel" "tellings" "I") (List.mem_of_getElem? (i := 2) (by decide +kernel))) (fun _ h9 => h9) rfl (by decide +kernel) rfl rfl (Nat.le_of_ble_eq_true rfl) dX7_tell_132 (fun H locs hP hD hS => ?_)
    have hP : va_P D vwCl [(qM, .inr (7, [.ref qMf, .ref qMz, .ref qMi, .ref qMm, .int (iI (mlate)), .int (iI (mtn + 1)), .ref qMty, .ref qMtk, .ref qMtl, .ref qMtt, .int (iI (mwn)), .ref qMwf, .ref qMwt, .ref qMwl, .ref qMse, .ref qMsi, .ref qMkk, .ref qMkl, .int (iI (mex)), .ref qMey, .ref qMel, .ref qMo, .ref qMx, .int (iI (mtyped)), .int (iI (mat)), .int (iI (mpairs)), .ref qMpl, .ref qMpf])), (qMty, .inl (cyI, 120, .inl (xA (uz mty (mtn) (y))))), (qMtk, .inl (cyI, 120, .inl (xA (uz mtk (mtn) (k))))), (qMtl, .inl (cyI, 120, .inl (xA (uz mtl (mtn) (v))))), (qMtt, .inl (cyI, 120, .inl (xA (uz mtt (mtn) (t9)))))] H := hP
    have hD : va_D A [(qM, .inr (7, [.ref qMf, .ref qMz, .ref qMi, .ref qMm, .int (iI (mlate)), .int (iI (mtn + 1)), .ref qMty, .ref qMtk, .ref qMtl, .ref qMtt, .int (iI (mwn)), .ref qMwf, .ref qMwt, .ref qMwl, .ref qMse, .ref qMsi, .ref qMkk, .ref qMkl, .int (iI (mex)), .ref qMey, .ref qMel, .ref qMo, .ref qMx, .int (iI (mtyped)), .int (iI (mat)), .int (iI (mpairs)), .ref qMpl, .ref qMpf])), (qMty, .inl (cyI, 120, .inl (xA (uz mty (mtn) (y))))), (qMtk, .inl (cyI, 120, .inl (xA (uz mtk (mtn) (k))))), (qMtl, .inl (cyI, 120, .inl (xA (uz mtl (mtn) (v))))), (qMtt, .inl (cyI, 120, .inl (xA (uz mtt (mtn) (t9)))))] := hD
    refine lv_aload_n hx hb dX7_tell_135 rfl (lv_at hl 1 rfl) ?_
    refine va_get (D := D) (ci := 7) (C := RX7) (T := TX7) (N := 28) hx hb hts hcX7 hown hK hP 0 rfl rfl 5 (by decide) (hts (.fieldLink RX7 115 "WallMarksModel" "tellings" "I") (List.mem_of_getElem? (i := 2) (by decide +kernel))) (fun _ h9 => h9) rfl dX7_tell_136 ?_
    have he0 : (uz mty (mtn) (y) : Int → Int) = (uz mty mtn y) := by first | rfl | omega
    have he1 : (uz mtk (mtn) (k) : Int → Int) = (uz mtk mtn k) := by first | rfl | omega
    have he2 : (uz mtl (mtn) (v) : Int → Int) = (uz mtl mtn v) := by first | rfl | omega
    have he3 : (uz mtt (mtn) (t9) : Int → Int) = (uz mtt mtn t9) := by first | rfl | omega
    have hW8 := congr (congr (congr (congrArg (fun (xv0 : Int → Int) (xv1 : Int → Int) (xv2 : Int → Int) (xv3 : Int → Int) => ([(qM, .inr (7, [.ref qMf, .ref qMz, .ref qMi, .ref qMm, .int (iI (mlate)), .int (iI (mtn + 1)), .ref qMty, .ref qMtk, .ref qMtl, .ref qMtt, .int (iI (mwn)), .ref qMwf, .ref qMwt, .ref qMwl, .ref qMse, .ref qMsi, .ref qMkk, .ref qMkl, .int (iI (mex)), .ref qMey, .ref qMel, .ref qMo, .ref qMx, .int (iI (mtyped)), .int (iI (mat)), .int (iI (mpairs)), .ref qMpl, .ref qMpf])), (qMty, .inl (cyI, 120, .inl (xA (xv0)))), (qMtk, .inl (cyI, 120, .inl (xA (xv1)))), (qMtl, .inl (cyI, 120, .inl (xA (xv2)))), (qMtt, .inl (cyI, 120, .inl (xA (xv3))))] : va_W)) he0) he1) he2) he3
    have hW9 : ([(qM, .inr (7, [.ref qMf, .ref qMz, .ref qMi, .ref qMm, .int (iI (mlate)), .int (iI (mtn + 1)), .ref qMty, .ref qMtk, .ref qMtl, .ref qMtt, .int (iI (mwn)), .ref qMwf, .ref qMwt, .ref qMwl, .ref qMse, .ref qMsi, .ref qMkk, .ref qMkl, .int (iI (mex)), .ref qMey, .ref qMel, .ref qMo, .ref qMx, .int (iI (mtyped)), .int (iI (mat)), .int (iI (mpairs)), .ref qMpl, .ref qMpf])), (qMty, .inl (cyI, 120, .inl (xA (uz mty (mtn) (y))))), (qMtk, .inl (cyI, 120, .inl (xA (uz mtk (mtn) (k))))), (qMtl, .inl (cyI, 120, .inl (xA (uz mtl (mtn) (v))))), (qMtt, .inl (cyI, 120, .inl (xA (uz mtt (mtn) (t9)))))] : va_W) = [(qM, .inr (7, [.ref qMf, .ref qMz, .ref qMi, .ref qMm, .int (iI (mlate)), .int (iI (mtn + 1)), .ref qMty, .ref qMtk, .ref qMtl, .ref qMtt, .int (iI (mwn)), .ref qMwf, .ref qMwt, .ref qMwl, .ref qMse, .ref qMsi, .ref qMkk, .ref qMkl, .int (iI (mex)), .ref qMey, .ref qMel, .ref qMo, .ref qMx, .int (iI (mtyped)), .int (iI (mat)), .int (iI (mpairs)), .ref qMpl, .ref qMpf])), (qMty, .inl (cyI, 120, .inl (xA (uz mty mtn y)))), (qMtk, .inl (cyI, 120, .inl (xA (uz mtk mtn k)))), (qMtl, .inl (cyI, 120, .inl (xA (uz mtl mtn v)))), (qMtt, .inl (cyI, 120, .inl (xA (uz mtt mtn t9))))] := hW8
    rw [hW9] at hP hD
    exact W.iret (v := iI (mtn + 1)) hx hb hr (fun t_ ht_ hW_ => ⟨⟨_, (), rfl, ⟨rfl, trivial⟩, by rw [ht_]; exact hP, va_K.moved hW_.alike hK, hD⟩, hS.F ht_⟩) hS.2.2 dX7_tell_139
  · refine lv_iload_n hx hb dX7_tell_5 rfl (lv_at hl 2 rfl) ?_
    refine xb_if_ne (tgt := 16) hx hb dX7_tell_6 (by decide) (by omega) (fun h_7 => ?_) (fun h_7 => ?_)
    · refine lv_iload_n hx hb dX7_tell_16 rfl (lv_at hl 2 rfl) ?_
      refine xi_const hx hb dX7_tell_17 ?_
      refine xb_icmp_ne (tgt := 37) hx hb dX7_tell_18 (by decide) (by omega) (fun h_8 => by exfalso; omega) (fun h_8 => ?_)
      refine lv_iload_n hx hb dX7_tell_21 rfl (lv_at hl 3 rfl) ?_
      refine xi_i2l hx hb dX7_tell_22 (by omega) ?_
      refine xi_lconst1 hx hb dX7_tell_23 ?_
      refine lv_ldc2 (v := lI (999)) hx hb hown (hts (.constantLong RX7 113 (lI (999))) (List.mem_of_getElem? (i := 1) (by decide +kernel))) dX7_tell_24 ?_
      have hPc := hP.sub (ws' := []) [] rfl
      refine xc_i (va_runS (As := [.long (lI (v)), .long (lI (1)), .long (lI (999))]) (rest := []) ⟨hx, hb, hml, hown, hts⟩ (c_X7_in l D cyI cyJ cyO v 1 999 (by first | exact h_v | assumption | omega) (by first | exact h_lo | assumption | omega) (by first | exact h_hi | assumption | omega)) (va_cwS 3 hts gX7_tell_X7_in rfl rfl rfl (by decide +kernel) ⟨Nat.le_of_ble_eq_true rfl, Nat.le_of_ble_eq_true rfl⟩) (xpS hPc hK) rfl rfl hl.1 rfl (lv_room (Nat.le_of_ble_eq_true rfl)) dX7_tell_27 ⟨Nat.le_of_ble_eq_true rfl, Nat.le_of_ble_eq_true rfl⟩) ?_
      refine xb_if_eqB (tgt := 37) hx hb dX7_tell_30 (by decide) (fun h_9 => by exfalso; omega) (fun h_9 => ?_)
      refine xi_const hx hb dX7_tell_33 ?_
      refine lv_goto (tgt := 38) hx hb dX7_tell_34 (by decide) ?_
      refine lv_istore (lv' := [(5, .int (iI (1))), (0, .ref qM), (1, .int (iI (y))), (2, .int (iI (k))), (3, .int (iI (v))), (4, .int (iI (t9)))]) hx hb dX7_tell_38 hl (by decide) rfl (fun ls hl => ?_)
      refine lv_iload_n hx hb dX7_tell_40 rfl (lv_at hl 2 rfl) ?_
      have hPc := hP.sub (ws' := []) [] rfl
      refine xc_i (va_runS (As := [.int (iI (y))]) (rest := []) ⟨hx, hb, hml, hown, hts⟩ (c_X7_isYear l D cyI cyJ cyO y (by first | exact h_y | assumption | omega)) (va_cwS 1 hts gX7_tell_X7_isYear rfl rfl rfl (by decide +kernel) ⟨Nat.le_of_ble_eq_true rfl, Nat.le_of_ble_eq_true rfl⟩) (xpS hPc hK) rfl rfl hl.1 rfl (lv_room (Nat.le_of_ble_eq_true rfl)) dX7_tell_41 ⟨Nat.le_of_ble_eq_true rfl, Nat.le_of_ble_eq_true rfl⟩) ?_
      refine xb_if_eqB (tgt := 69) hx hb dX7_tell_44 (by decide) (fun h_10 => by exfalso; omega) (fun h_10 => ?_)
      refine lv_iload hx hb dX7_tell_47 (lv_at hl 0 rfl) ?_
      refine xb_if_eq (tgt := 69) hx hb dX7_tell_49 (by decide) (by omega) (fun h_11 => by exfalso; omega) (fun h_11 => ?_)
      refine lv_iload hx hb dX7_tell_52 (lv_at hl 5 rfl) ?_
      have hPc := hP.sub (ws' := []) [] rfl
      refine xc_i (va_runS (As := [.int (iI (t9))]) (rest := []) ⟨hx, hb, hml, hown, hts⟩ (c_X7_isLevel l D cyI cyJ cyO t9 (by first | exact h_y | assumption | omega)) (va_cwS 1 hts gX7_tell_X7_isLevel rfl rfl rfl (by decide +kernel) ⟨Nat.le_of_ble_eq_true rfl, Nat.le_of_ble_eq_true rfl⟩) (xpS hPc hK) rfl rfl hl.1 rfl (lv_room (Nat.le_of_ble_eq_true rfl)) dX7_tell_54 ⟨Nat.le_of_ble_eq_true rfl, Nat.le_of_ble_eq_true rfl⟩) ?_
      refine xb_if_eqB (tgt := 69) hx hb dX7_tell_57 (by decide) (fun h_12 => by exfalso; omega) (fun h_12 => ?_)
      refine lv_aload_n hx hb dX7_tell_60 rfl (lv_at hl 1 rfl) ?_
      refine lv_iload hx hb dX7_tell_61 (lv_at hl 5 rfl) ?_
      have hPc := hP.sub (ws' := [(qM, .inr (7, [.ref qMf, .ref qMz, .ref qMi, .ref qMm, .int (iI (mlate)), .int (iI (mtn)), .ref qMty, .ref qMtk, .ref qMtl, .ref qMtt, .int (iI (mwn)), .ref qMwf, .ref qMwt, .ref qMwl, .ref qMse, .ref qMsi, .ref qMkk, .ref qMkl, .int (iI (mex)), .ref qMey, .ref qMel, .ref qMo, .ref qMx, .int (iI (mtyped)), .int (iI (mat)), .int (iI (mpairs)), .ref qMpl, .ref qMpf])), (qMtt, .inl (cyI, 120, .inl (xA (mtt))))]) [0, 4] rfl
      refine xc_i (va_runV (As := [.int (iI (t9))]) (rest := []) ⟨hx, hb, hml, hown, hts⟩ (c_X7_isEarly l D cyI cyJ cyO qM qMf qMz qMi qMm mlate mtn qMty qMtk qMtl qMtt mwn qMwf qMwt qMwl qMse qMsi qMkk qMkl mex qMey qMel qMo qMx mtyped mat mpairs qMpl qMpf mtt t9 (by first | exact h_mtn | assumption | omega) (by first | exact h_mtt | assumption | omega) (by first | exact h_t9 | assumption | omega)) (cwV 1 hts gX7_tell_X7_isEarly rfl rfl rfl (by decide +kernel) ⟨Nat.le_of_ble_eq_true rfl, Nat.le_of_ble_eq_true rfl⟩) (xpV hPc hK (ci := 7) (q0 := 0) (q := (RX7, TX7, 28)) rfl rfl) rfl rfl hl.1 rfl (lv_room (Nat.le_of_ble_eq_true rfl)) dX7_tell_63 ⟨Nat.le_of_ble_eq_true rfl, Nat.le_of_ble_eq_true rfl⟩) ?_
      refine xb_if_eqB (tgt := 72) hx hb dX7_tell_66 (by decide) (fun h_13 => ?_) (fun h_13 => by exfalso; omega)
      refine lv_aload_n hx hb dX7_tell_72 rfl (lv_at hl 1 rfl) ?_
      refine va_get (D := D) (ci := 7) (C := RX7) (T := TX7) (N := 28) hx hb hts hcX7 hown hK hP 0 rfl rfl 5 (by decide) (hts (.fieldLink RX7 115 "WallMarksModel" "tellings" "I") (List.mem_of_getElem? (i := 2) (by decide +kernel))) (fun _ h9 => h9) rfl dX7_tell_73 ?_
      refine xi_bipush hx hb dX7_tell_76 (by decide +kernel) ?_
      refine xb_icmp_ne (tgt := 84) hx hb dX7_tell_78 (by decide) (by omega) (fun h_14 => ?_) (fun h_14 => by exfalso; omega)
      refine lv_aload_n hx hb dX7_tell_84 rfl (lv_at hl 1 rfl) ?_
      refine va_get (D := D) (ci := 7) (C := RX7) (T := TX7) (N := 28) hx hb hts hcX7 hown hK hP 0 rfl rfl 6 (by decide) (hts (.fieldLink RX7 22 "WallMarksModel" "toldYear" "[I") (List.mem_of_getElem? (i := 3) (by decide +kernel))) (fun _ h9 => h9) rfl dX7_tell_85 ?_
      refine lv_aload_n hx hb dX7_tell_88 rfl (lv_at hl 1 rfl) ?_
      refine va_get (D := D) (ci := 7) (C := RX7) (T := TX7) (N := 28) hx hb hts hcX7 hown hK hP 0 rfl rfl 5 (by decide) (hts (.fieldLink RX7 115 "WallMarksModel" "tellings" "I") (List.mem_of_getElem? (i := 2) (by decide +kernel))) (fun _ h9 => h9) rfl dX7_tell_89 ?_
      refine lv_iload_n hx hb dX7_tell_92 rfl (lv_at hl 2 rfl) ?_
      refine xi_ast (D := D) hx hb hK hP hD hS 1 0 rfl rfl (by decide) (by omega) dX7_tell_93 (fun H locs hP hD hS => ?_)
      have hP : va_P D vwCl [(qM, .inr (7, [.ref qMf, .ref qMz, .ref qMi, .ref qMm, .int (iI (mlate)), .int (iI (mtn)), .ref qMty, .ref qMtk, .ref qMtl, .ref qMtt, .int (iI (mwn)), .ref qMwf, .ref qMwt, .ref qMwl, .ref qMse, .ref qMsi, .ref qMkk, .ref qMkl, .int (iI (mex)), .ref qMey, .ref qMel, .ref qMo, .ref qMx, .int (iI (mtyped)), .int (iI (mat)), .int (iI (mpairs)), .ref qMpl, .ref qMpf])), (qMty, .inl (cyI, 120, .inl (xA (uz mty (mtn) (y))))), (qMtk, .inl (cyI, 120, .inl (xA (mtk)))), (qMtl, .inl (cyI, 120, .inl (xA (mtl)))), (qMtt, .inl (cyI, 120, .inl (xA (mtt))))] H := hP
      have hD : va_D A [(qM, .inr (7, [.ref qMf, .ref qMz, .ref qMi, .ref qMm, .int (iI (mlate)), .int (iI (mtn)), .ref qMty, .ref qMtk, .ref qMtl, .ref qMtt, .int (iI (mwn)), .ref qMwf, .ref qMwt, .ref qMwl, .ref qMse, .ref qMsi, .ref qMkk, .ref qMkl, .int (iI (mex)), .ref qMey, .ref qMel, .ref qMo, .ref qMx, .int (iI (mtyped)), .int (iI (mat)), .int (iI (mpairs)), .ref qMpl, .ref qMpf])), (qMty, .inl (cyI, 120, .inl (xA (uz mty (mtn) (y))))), (qMtk, .inl (cyI, 120, .inl (xA (mtk)))), (qMtl, .inl (cyI, 120, .inl (xA (mtl)))), (qMtt, .inl (cyI, 120, .inl (xA (mtt))))] := hD
      refine lv_aload_n hx hb dX7_tell_94 rfl (lv_at hl 1 rfl) ?_
      refine va_get (D := D) (ci := 7) (C := RX7) (T := TX7) (N := 28) hx hb hts hcX7 hown hK hP 0 rfl rfl 7 (by decide) (hts (.fieldLink RX7 25 "WallMarksModel" "toldKind" "[I") (List.mem_of_getElem? (i := 4) (by decide +kernel))) (fun _ h9 => h9) rfl dX7_tell_95 ?_
      refine lv_aload_n hx hb dX7_tell_98 rfl (lv_at hl 1 rfl) ?_
      refine va_get (D := D) (ci := 7) (C := RX7) (T := TX7) (N := 28) hx hb hts hcX7 hown hK hP 0 rfl rfl 5 (by decide) (hts (.fieldLink RX7 115 "WallMarksModel" "tellings" "I") (List.mem_of_getElem? (i := 2) (by decide +kernel))) (fun _ h9 => h9) rfl dX7_tell_99 ?_
      refine lv_iload_n hx hb dX7_tell_102 rfl (lv_at hl 3 rfl) ?_
      refine xi_ast (D := D) hx hb hK hP hD hS 2 0 rfl rfl (by decide) (by omega) dX7_tell_103 (fun H locs hP hD hS => ?_)
      have hP : va_P D vwCl [(qM, .inr (7, [.ref qMf, .ref qMz, .ref qMi, .ref qMm, .int (iI (mlate)), .int (iI (mtn)), .ref qMty, .ref qMtk, .ref qMtl, .ref qMtt, .int (iI (mwn)), .ref qMwf, .ref qMwt, .ref qMwl, .ref qMse, .ref qMsi, .ref qMkk, .ref qMkl, .int (iI (mex)), .ref qMey, .ref qMel, .ref qMo, .ref qMx, .int (iI (mtyped)), .int (iI (mat)), .int (iI (mpairs)), .ref qMpl, .ref qMpf])), (qMty, .inl (cyI, 120, .inl (xA (uz mty (mtn) (y))))), (qMtk, .inl (cyI, 120, .inl (xA (uz mtk (mtn) (k))))), (qMtl, .inl (cyI, 120, .inl (xA (mtl)))), (qMtt, .inl (cyI, 120, .inl (xA (mtt))))] H := hP
      have hD : va_D A [(qM, .inr (7, [.ref qMf, .ref qMz, .ref qMi, .ref qMm, .int (iI (mlate)), .int (iI (mtn)), .ref qMty, .ref qMtk, .ref qMtl, .ref qMtt, .int (iI (mwn)), .ref qMwf, .ref qMwt, .ref qMwl, .ref qMse, .ref qMsi, .ref qMkk, .ref qMkl, .int (iI (mex)), .ref qMey, .ref qMel, .ref qMo, .ref qMx, .int (iI (mtyped)), .int (iI (mat)), .int (iI (mpairs)), .ref qMpl, .ref qMpf])), (qMty, .inl (cyI, 120, .inl (xA (uz mty (mtn) (y))))), (qMtk, .inl (cyI, 120, .inl (xA (uz mtk (mtn) (k))))), (qMtl, .inl (cyI, 120, .inl (xA (mtl)))), (qMtt, .inl (cyI, 120, .inl (xA (mtt))))] := hD
      refine lv_aload_n hx hb dX7_tell_104 rfl (lv_at hl 1 rfl) ?_
      refine va_get (D := D) (ci := 7) (C := RX7) (T := TX7) (N := 28) hx hb hts hcX7 hown hK hP 0 rfl rfl 8 (by decide) (hts (.fieldLink RX7 28 "WallMarksModel" "toldLevel" "[I") (List.mem_of_getElem? (i := 5) (by decide +kernel))) (fun _ h9 => h9) rfl dX7_tell_105 ?_
      refine lv_aload_n hx hb dX7_tell_108 rfl (lv_at hl 1 rfl) ?_
      refine va_get (D := D) (ci := 7) (C := RX7) (T := TX7) (N := 28) hx hb hts hcX7 hown hK hP 0 rfl rfl 5 (by decide) (hts (.fieldLink RX7 115 "WallMarksModel" "tellings" "I") (List.mem_of_getElem? (i := 2) (by decide +kernel))) (fun _ h9 => h9) rfl dX7_tell_109 ?_
      refine lv_iload_n hx hb dX7_tell_112 rfl (lv_at hl 4 rfl) ?_
      refine xi_ast (D := D) hx hb hK hP hD hS 3 0 rfl rfl (by decide) (by omega) dX7_tell_113 (fun H locs hP hD hS => ?_)
      have hP : va_P D vwCl [(qM, .inr (7, [.ref qMf, .ref qMz, .ref qMi, .ref qMm, .int (iI (mlate)), .int (iI (mtn)), .ref qMty, .ref qMtk, .ref qMtl, .ref qMtt, .int (iI (mwn)), .ref qMwf, .ref qMwt, .ref qMwl, .ref qMse, .ref qMsi, .ref qMkk, .ref qMkl, .int (iI (mex)), .ref qMey, .ref qMel, .ref qMo, .ref qMx, .int (iI (mtyped)), .int (iI (mat)), .int (iI (mpairs)), .ref qMpl, .ref qMpf])), (qMty, .inl (cyI, 120, .inl (xA (uz mty (mtn) (y))))), (qMtk, .inl (cyI, 120, .inl (xA (uz mtk (mtn) (k))))), (qMtl, .inl (cyI, 120, .inl (xA (uz mtl (mtn) (v))))), (qMtt, .inl (cyI, 120, .inl (xA (mtt))))] H := hP
      have hD : va_D A [(qM, .inr (7, [.ref qMf, .ref qMz, .ref qMi, .ref qMm, .int (iI (mlate)), .int (iI (mtn)), .ref qMty, .ref qMtk, .ref qMtl, .ref qMtt, .int (iI (mwn)), .ref qMwf, .ref qMwt, .ref qMwl, .ref qMse, .ref qMsi, .ref qMkk, .ref qMkl, .int (iI (mex)), .ref qMey, .ref qMel, .ref qMo, .ref qMx, .int (iI (mtyped)), .int (iI (mat)), .int (iI (mpairs)), .ref qMpl, .ref qMpf])), (qMty, .inl (cyI, 120, .inl (xA (uz mty (mtn) (y))))), (qMtk, .inl (cyI, 120, .inl (xA (uz mtk (mtn) (k))))), (qMtl, .inl (cyI, 120, .inl (xA (uz mtl (mtn) (v))))), (qMtt, .inl (cyI, 120, .inl (xA (mtt))))] := hD
      refine lv_aload_n hx hb dX7_tell_114 rfl (lv_at hl 1 rfl) ?_
      refine va_get (D := D) (ci := 7) (C := RX7) (T := TX7) (N := 28) hx hb hts hcX7 hown hK hP 0 rfl rfl 9 (by decide) (hts (.fieldLink RX7 31 "WallMarksModel" "toldTime" "[I") (List.mem_of_getElem? (i := 6) (by decide +kernel))) (fun _ h9 => h9) rfl dX7_tell_115 ?_
      refine lv_aload_n hx hb dX7_tell_118 rfl (lv_at hl 1 rfl) ?_
      refine va_get (D := D) (ci := 7) (C := RX7) (T := TX7) (N := 28) hx hb hts hcX7 hown hK hP 0 rfl rfl 5 (by decide) (hts (.fieldLink RX7 115 "WallMarksModel" "tellings" "I") (List.mem_of_getElem? (i := 2) (by decide +kernel))) (fun _ h9 => h9) rfl dX7_tell_119 ?_
      refine lv_iload hx hb dX7_tell_122 (lv_at hl 5 rfl) ?_
      refine xi_ast (D := D) hx hb hK hP hD hS 4 0 rfl rfl (by decide) (by omega) dX7_tell_124 (fun H locs hP hD hS => ?_)
      have hP : va_P D vwCl [(qM, .inr (7, [.ref qMf, .ref qMz, .ref qMi, .ref qMm, .int (iI (mlate)), .int (iI (mtn)), .ref qMty, .ref qMtk, .ref qMtl, .ref qMtt, .int (iI (mwn)), .ref qMwf, .ref qMwt, .ref qMwl, .ref qMse, .ref qMsi, .ref qMkk, .ref qMkl, .int (iI (mex)), .ref qMey, .ref qMel, .ref qMo, .ref qMx, .int (iI (mtyped)), .int (iI (mat)), .int (iI (mpairs)), .ref qMpl, .ref qMpf])), (qMty, .inl (cyI, 120, .inl (xA (uz mty (mtn) (y))))), (qMtk, .inl (cyI, 120, .inl (xA (uz mtk (mtn) (k))))), (qMtl, .inl (cyI, 120, .inl (xA (uz mtl (mtn) (v))))), (qMtt, .inl (cyI, 120, .inl (xA (uz mtt (mtn) (t9)))))] H := hP
      have hD : va_D A [(qM, .inr (7, [.ref qMf, .ref qMz, .ref qMi, .ref qMm, .int (iI (mlate)), .int (iI (mtn)), .ref qMty, .ref qMtk, .ref qMtl, .ref qMtt, .int (iI (mwn)), .ref qMwf, .ref qMwt, .ref qMwl, .ref qMse, .ref qMsi, .ref qMkk, .ref qMkl, .int (iI (mex)), .ref qMey, .ref qMel, .ref qMo, .ref qMx, .int (iI (mtyped)), .int (iI (mat)), .int (iI (mpairs)), .ref qMpl, .ref qMpf])), (qMty, .inl (cyI, 120, .inl (xA (uz mty (mtn) (y))))), (qMtk, .inl (cyI, 120, .inl (xA (uz mtk (mtn) (k))))), (qMtl, .inl (cyI, 120, .inl (xA (uz mtl (mtn) (v))))), (qMtt, .inl (cyI, 120, .inl (xA (uz mtt (mtn) (t9)))))] := hD
      refine lv_aload_n hx hb dX7_tell_125 rfl (lv_at hl 1 rfl) ?_
      refine lv_dup hx hb dX7_tell_126 rfl ?_
      refine va_get (D := D) (ci := 7) (C := RX7) (T := TX7) (N := 28) hx hb hts hcX7 hown hK hP 0 rfl rfl 5 (by decide) (hts (.fieldLink RX7 115 "WallMarksModel" "tellings" "I") (List.mem_of_getElem? (i := 2) (by decide +kernel))) (fun _ h9 => h9) rfl dX7_tell_127 ?_
      refine xi_const hx hb dX7_tell_130 ?_
      refine xi_add hx hb dX7_tell_131 ?_
      refine va_put (D := D) (ci := 7) (v := .int (iI (mtn + 1))) (ty := .int) (C := RX7) (T := TX7) (N := 28) hx hb hts hcX7 tyX7 tyX7_ok nmX7 hown hK hP hD hS 0 rfl rfl 5 (by decide) (hts (.fieldLink RX7 115 "WallMarksModel" "tellings" "I") (List.mem_of_getElem? (i := 2) (by decide +kernel))) (fun _ h9 => h9) rfl (by decide +kernel) rfl rfl (Nat.le_of_ble_eq_true rfl) dX7_tell_132 (fun H locs hP hD hS => ?_)
      have hP : va_P D vwCl [(qM, .inr (7, [.ref qMf, .ref qMz, .ref qMi, .ref qMm, .int (iI (mlate)), .int (iI (mtn + 1)), .ref qMty, .ref qMtk, .ref qMtl, .ref qMtt, .int (iI (mwn)), .ref qMwf, .ref qMwt, .ref qMwl, .ref qMse, .ref qMsi, .ref qMkk, .ref qMkl, .int (iI (mex)), .ref qMey, .ref qMel, .ref qMo, .ref qMx, .int (iI (mtyped)), .int (iI (mat)), .int (iI (mpairs)), .ref qMpl, .ref qMpf])), (qMty, .inl (cyI, 120, .inl (xA (uz mty (mtn) (y))))), (qMtk, .inl (cyI, 120, .inl (xA (uz mtk (mtn) (k))))), (qMtl, .inl (cyI, 120, .inl (xA (uz mtl (mtn) (v))))), (qMtt, .inl (cyI, 120, .inl (xA (uz mtt (mtn) (t9)))))] H := hP
      have hD : va_D A [(qM, .inr (7, [.ref qMf, .ref qMz, .ref qMi, .ref qMm, .int (iI (mlate)), .int (iI (mtn + 1)), .ref qMty, .ref qMtk, .ref qMtl, .ref qMtt, .int (iI (mwn)), .ref qMwf, .ref qMwt, .ref qMwl, .ref qMse, .ref qMsi, .ref qMkk, .ref qMkl, .int (iI (mex)), .ref qMey, .ref qMel, .ref qMo, .ref qMx, .int (iI (mtyped)), .int (iI (mat)), .int (iI (mpairs)), .ref qMpl, .ref qMpf])), (qMty, .inl (cyI, 120, .inl (xA (uz mty (mtn) (y))))), (qMtk, .inl (cyI, 120, .inl (xA (uz mtk (mtn) (k))))), (qMtl, .inl (cyI, 120, .inl (xA (uz mtl (mtn) (v))))), (qMtt, .inl (cyI, 120, .inl (xA (uz mtt (mtn) (t9)))))] := hD
      refine lv_aload_n hx hb dX7_tell_135 rfl (lv_at hl 1 rfl) ?_
      refine va_get (D := D) (ci := 7) (C := RX7) (T := TX7) (N := 28) hx hb hts hcX7 hown hK hP 0 rfl rfl 5 (by decide) (hts (.fieldLink RX7 115 "WallMarksModel" "tellings" "I") (List.mem_of_getElem? (i := 2) (by decide +kernel))) (fun _ h9 => h9) rfl dX7_tell_136 ?_
      have he0 : (uz mty (mtn) (y) : Int → Int) = (uz mty mtn y) := by first | rfl | omega
      have he1 : (uz mtk (mtn) (k) : Int → Int) = (uz mtk mtn k) := by first | rfl | omega
      have he2 : (uz mtl (mtn) (v) : Int → Int) = (uz mtl mtn v) := by first | rfl | omega
      have he3 : (uz mtt (mtn) (t9) : Int → Int) = (uz mtt mtn t9) := by first | rfl | omega
      have hW8 := congr (congr (congr (congrArg (fun (xv0 : Int → Int) (xv1 : Int → Int) (xv2 : Int → Int) (xv3 : Int → Int) => ([(qM, .inr (7, [.ref qMf, .ref qMz, .ref qMi, .ref qMm, .int (iI (mlate)), .int (iI (mtn + 1)), .ref qMty, .ref qMtk, .ref qMtl, .ref qMtt, .int (iI (mwn)), .ref qMwf, .ref qMwt, .ref qMwl, .ref qMse, .ref qMsi, .ref qMkk, .ref qMkl, .int (iI (mex)), .ref qMey, .ref qMel, .ref qMo, .ref qMx, .int (iI (mtyped)), .int (iI (mat)), .int (iI (mpairs)), .ref qMpl, .ref qMpf])), (qMty, .inl (cyI, 120, .inl (xA (xv0)))), (qMtk, .inl (cyI, 120, .inl (xA (xv1)))), (qMtl, .inl (cyI, 120, .inl (xA (xv2)))), (qMtt, .inl (cyI, 120, .inl (xA (xv3))))] : va_W)) he0) he1) he2) he3
      have hW9 : ([(qM, .inr (7, [.ref qMf, .ref qMz, .ref qMi, .ref qMm, .int (iI (mlate)), .int (iI (mtn + 1)), .ref qMty, .ref qMtk, .ref qMtl, .ref qMtt, .int (iI (mwn)), .ref qMwf, .ref qMwt, .ref qMwl, .ref qMse, .ref qMsi, .ref qMkk, .ref qMkl, .int (iI (mex)), .ref qMey, .ref qMel, .ref qMo, .ref qMx, .int (iI (mtyped)), .int (iI (mat)), .int (iI (mpairs)), .ref qMpl, .ref qMpf])), (qMty, .inl (cyI, 120, .inl (xA (uz mty (mtn) (y))))), (qMtk, .inl (cyI, 120, .inl (xA (uz mtk (mtn) (k))))), (qMtl, .inl (cyI, 120, .inl (xA (uz mtl (mtn) (v))))), (qMtt, .inl (cyI, 120, .inl (xA (uz mtt (mtn) (t9)))))] : va_W) = [(qM, .inr (7, [.ref qMf, .ref qMz, .ref qMi, .ref qMm, .int (iI (mlate)), .int (iI (mtn + 1)), .ref qMty, .ref qMtk, .ref qMtl, .ref qMtt, .int (iI (mwn)), .ref qMwf, .ref qMwt, .ref qMwl, .ref qMse, .ref qMsi, .ref qMkk, .ref qMkl, .int (iI (mex)), .ref qMey, .ref qMel, .ref qMo, .ref qMx, .int (iI (mtyped)), .int (iI (mat)), .int (iI (mpairs)), .ref qMpl, .ref qMpf])), (qMty, .inl (cyI, 120, .inl (xA (uz mty mtn y)))), (qMtk, .inl (cyI, 120, .inl (xA (uz mtk mtn k)))), (qMtl, .inl (cyI, 120, .inl (xA (uz mtl mtn v)))), (qMtt, .inl (cyI, 120, .inl (xA (uz mtt mtn t9))))] := hW8
      rw [hW9] at hP hD
      exact W.iret (v := iI (mtn + 1)) hx hb hr (fun t_ ht_ hW_ => ⟨⟨_, (), rfl, ⟨rfl, trivial⟩, by rw [ht_]; exact hP, va_K.moved hW_.alike hK, hD⟩, hS.F ht_⟩) hS.2.2 dX7_tell_139
    · refine lv_iload_n hx hb dX7_tell_9 rfl (lv_at hl 3 rfl) ?_
      have hPc := hP.sub (ws' := []) [] rfl
      refine xc_i (va_runS (As := [.int (iI (v))]) (rest := []) ⟨hx, hb, hml, hown, hts⟩ (c_X7_isLevel l D cyI cyJ cyO v (by first | exact h_y | assumption | omega)) (va_cwS 1 hts gX7_tell_X7_isLevel rfl rfl rfl (by decide +kernel) ⟨Nat.le_of_ble_eq_true rfl, Nat.le_of_ble_eq_true rfl⟩) (xpS hPc hK) rfl rfl hl.1 rfl (lv_room (Nat.le_of_ble_eq_true rfl)) dX7_tell_10 ⟨Nat.le_of_ble_eq_true rfl, Nat.le_of_ble_eq_true rfl⟩) ?_
      refine xb_if_neB (tgt := 33) hx hb dX7_tell_13 (by decide) (fun h_15 => ?_) (fun h_15 => by exfalso; omega)
      refine xi_const hx hb dX7_tell_33 ?_
      refine lv_goto (tgt := 38) hx hb dX7_tell_34 (by decide) ?_
      refine lv_istore (lv' := [(5, .int (iI (1))), (0, .ref qM), (1, .int (iI (y))), (2, .int (iI (k))), (3, .int (iI (v))), (4, .int (iI (t9)))]) hx hb dX7_tell_38 hl (by decide) rfl (fun ls hl => ?_)
      refine lv_iload_n hx hb dX7_tell_40 rfl (lv_at hl 2 rfl) ?_
      have hPc := hP.sub (ws' := []) [] rfl
      refine xc_i (va_runS (As := [.int (iI (y))]) (rest := []) ⟨hx, hb, hml, hown, hts⟩ (c_X7_isYear l D cyI cyJ cyO y (by first | exact h_y | assumption | omega)) (va_cwS 1 hts gX7_tell_X7_isYear rfl rfl rfl (by decide +kernel) ⟨Nat.le_of_ble_eq_true rfl, Nat.le_of_ble_eq_true rfl⟩) (xpS hPc hK) rfl rfl hl.1 rfl (lv_room (Nat.le_of_ble_eq_true rfl)) dX7_tell_41 ⟨Nat.le_of_ble_eq_true rfl, Nat.le_of_ble_eq_true rfl⟩) ?_
      refine xb_if_eqB (tgt := 69) hx hb dX7_tell_44 (by decide) (fun h_16 => by exfalso; omega) (fun h_16 => ?_)
      refine lv_iload hx hb dX7_tell_47 (lv_at hl 0 rfl) ?_
      refine xb_if_eq (tgt := 69) hx hb dX7_tell_49 (by decide) (by omega) (fun h_17 => by exfalso; omega) (fun h_17 => ?_)
      refine lv_iload hx hb dX7_tell_52 (lv_at hl 5 rfl) ?_
      have hPc := hP.sub (ws' := []) [] rfl
      refine xc_i (va_runS (As := [.int (iI (t9))]) (rest := []) ⟨hx, hb, hml, hown, hts⟩ (c_X7_isLevel l D cyI cyJ cyO t9 (by first | exact h_y | assumption | omega)) (va_cwS 1 hts gX7_tell_X7_isLevel rfl rfl rfl (by decide +kernel) ⟨Nat.le_of_ble_eq_true rfl, Nat.le_of_ble_eq_true rfl⟩) (xpS hPc hK) rfl rfl hl.1 rfl (lv_room (Nat.le_of_ble_eq_true rfl)) dX7_tell_54 ⟨Nat.le_of_ble_eq_true rfl, Nat.le_of_ble_eq_true rfl⟩) ?_
      refine xb_if_eqB (tgt := 69) hx hb dX7_tell_57 (by decide) (fun h_18 => by exfalso; omega) (fun h_18 => ?_)
      refine lv_aload_n hx hb dX7_tell_60 rfl (lv_at hl 1 rfl) ?_
      refine lv_iload hx hb dX7_tell_61 (lv_at hl 5 rfl) ?_
      have hPc := hP.sub (ws' := [(qM, .inr (7, [.ref qMf, .ref qMz, .ref qMi, .ref qMm, .int (iI (mlate)), .int (iI (mtn)), .ref qMty, .ref qMtk, .ref qMtl, .ref qMtt, .int (iI (mwn)), .ref qMwf, .ref qMwt, .ref qMwl, .ref qMse, .ref qMsi, .ref qMkk, .ref qMkl, .int (iI (mex)), .ref qMey, .ref qMel, .ref qMo, .ref qMx, .int (iI (mtyped)), .int (iI (mat)), .int (iI (mpairs)), .ref qMpl, .ref qMpf])), (qMtt, .inl (cyI, 120, .inl (xA (mtt))))]) [0, 4] rfl
      refine xc_i (va_runV (As := [.int (iI (t9))]) (rest := []) ⟨hx, hb, hml, hown, hts⟩ (c_X7_isEarly l D cyI cyJ cyO qM qMf qMz qMi qMm mlate mtn qMty qMtk qMtl qMtt mwn qMwf qMwt qMwl qMse qMsi qMkk qMkl mex qMey qMel qMo qMx mtyped mat mpairs qMpl qMpf mtt t9 (by first | exact h_mtn | assumption | omega) (by first | exact h_mtt | assumption | omega) (by first | exact h_t9 | assumption | omega)) (cwV 1 hts gX7_tell_X7_isEarly rfl rfl rfl (by decide +kernel) ⟨Nat.le_of_ble_eq_true rfl, Nat.le_of_ble_eq_true rfl⟩) (xpV hPc hK (ci := 7) (q0 := 0) (q := (RX7, TX7, 28)) rfl rfl) rfl rfl hl.1 rfl (lv_room (Nat.le_of_ble_eq_true rfl)) dX7_tell_63 ⟨Nat.le_of_ble_eq_true rfl, Nat.le_of_ble_eq_true rfl⟩) ?_
      refine xb_if_eqB (tgt := 72) hx hb dX7_tell_66 (by decide) (fun h_19 => ?_) (fun h_19 => by exfalso; omega)
      refine lv_aload_n hx hb dX7_tell_72 rfl (lv_at hl 1 rfl) ?_
      refine va_get (D := D) (ci := 7) (C := RX7) (T := TX7) (N := 28) hx hb hts hcX7 hown hK hP 0 rfl rfl 5 (by decide) (hts (.fieldLink RX7 115 "WallMarksModel" "tellings" "I") (List.mem_of_getElem? (i := 2) (by decide +kernel))) (fun _ h9 => h9) rfl dX7_tell_73 ?_
      refine xi_bipush hx hb dX7_tell_76 (by decide +kernel) ?_
      refine xb_icmp_ne (tgt := 84) hx hb dX7_tell_78 (by decide) (by omega) (fun h_20 => ?_) (fun h_20 => by exfalso; omega)
      refine lv_aload_n hx hb dX7_tell_84 rfl (lv_at hl 1 rfl) ?_
      refine va_get (D := D) (ci := 7) (C := RX7) (T := TX7) (N := 28) hx hb hts hcX7 hown hK hP 0 rfl rfl 6 (by decide) (hts (.fieldLink RX7 22 "WallMarksModel" "toldYear" "[I") (List.mem_of_getElem? (i := 3) (by decide +kernel))) (fun _ h9 => h9) rfl dX7_tell_85 ?_
      refine lv_aload_n hx hb dX7_tell_88 rfl (lv_at hl 1 rfl) ?_
      refine va_get (D := D) (ci := 7) (C := RX7) (T := TX7) (N := 28) hx hb hts hcX7 hown hK hP 0 rfl rfl 5 (by decide) (hts (.fieldLink RX7 115 "WallMarksModel" "tellings" "I") (List.mem_of_getElem? (i := 2) (by decide +kernel))) (fun _ h9 => h9) rfl dX7_tell_89 ?_
      refine lv_iload_n hx hb dX7_tell_92 rfl (lv_at hl 2 rfl) ?_
      refine xi_ast (D := D) hx hb hK hP hD hS 1 0 rfl rfl (by decide) (by omega) dX7_tell_93 (fun H locs hP hD hS => ?_)
      have hP : va_P D vwCl [(qM, .inr (7, [.ref qMf, .ref qMz, .ref qMi, .ref qMm, .int (iI (mlate)), .int (iI (mtn)), .ref qMty, .ref qMtk, .ref qMtl, .ref qMtt, .int (iI (mwn)), .ref qMwf, .ref qMwt, .ref qMwl, .ref qMse, .ref qMsi, .ref qMkk, .ref qMkl, .int (iI (mex)), .ref qMey, .ref qMel, .ref qMo, .ref qMx, .int (iI (mtyped)), .int (iI (mat)), .int (iI (mpairs)), .ref qMpl, .ref qMpf])), (qMty, .inl (cyI, 120, .inl (xA (uz mty (mtn) (y))))), (qMtk, .inl (cyI, 120, .inl (xA (mtk)))), (qMtl, .inl (cyI, 120, .inl (xA (mtl)))), (qMtt, .inl (cyI, 120, .inl (xA (mtt))))] H := hP
      have hD : va_D A [(qM, .inr (7, [.ref qMf, .ref qMz, .ref qMi, .ref qMm, .int (iI (mlate)), .int (iI (mtn)), .ref qMty, .ref qMtk, .ref qMtl, .ref qMtt, .int (iI (mwn)), .ref qMwf, .ref qMwt, .ref qMwl, .ref qMse, .ref qMsi, .ref qMkk, .ref qMkl, .int (iI (mex)), .ref qMey, .ref qMel, .ref qMo, .ref qMx, .int (iI (mtyped)), .int (iI (mat)), .int (iI (mpairs)), .ref qMpl, .ref qMpf])), (qMty, .inl (cyI, 120, .inl (xA (uz mty (mtn) (y))))), (qMtk, .inl (cyI, 120, .inl (xA (mtk)))), (qMtl, .inl (cyI, 120, .inl (xA (mtl)))), (qMtt, .inl (cyI, 120, .inl (xA (mtt))))] := hD
      refine lv_aload_n hx hb dX7_tell_94 rfl (lv_at hl 1 rfl) ?_
      refine va_get (D := D) (ci := 7) (C := RX7) (T := TX7) (N := 28) hx hb hts hcX7 hown hK hP 0 rfl rfl 7 (by decide) (hts (.fieldLink RX7 25 "WallMarksModel" "toldKind" "[I") (List.mem_of_getElem? (i := 4) (by decide +kernel))) (fun _ h9 => h9) rfl dX7_tell_95 ?_
      refine lv_aload_n hx hb dX7_tell_98 rfl (lv_at hl 1 rfl) ?_
      refine va_get (D := D) (ci := 7) (C := RX7) (T := TX7) (N := 28) hx hb hts hcX7 hown hK hP 0 rfl rfl 5 (by decide) (hts (.fieldLink RX7 115 "WallMarksModel" "tellings" "I") (List.mem_of_getElem? (i := 2) (by decide +kernel))) (fun _ h9 => h9) rfl dX7_tell_99 ?_
      refine lv_iload_n hx hb dX7_tell_102 rfl (lv_at hl 3 rfl) ?_
      refine xi_ast (D := D) hx hb hK hP hD hS 2 0 rfl rfl (by decide) (by omega) dX7_tell_103 (fun H locs hP hD hS => ?_)
      have hP : va_P D vwCl [(qM, .inr (7, [.ref qMf, .ref qMz, .ref qMi, .ref qMm, .int (iI (mlate)), .int (iI (mtn)), .ref qMty, .ref qMtk, .ref qMtl, .ref qMtt, .int (iI (mwn)), .ref qMwf, .ref qMwt, .ref qMwl, .ref qMse, .ref qMsi, .ref qMkk, .ref qMkl, .int (iI (mex)), .ref qMey, .ref qMel, .ref qMo, .ref qMx, .int (iI (mtyped)), .int (iI (mat)), .int (iI (mpairs)), .ref qMpl, .ref qMpf])), (qMty, .inl (cyI, 120, .inl (xA (uz mty (mtn) (y))))), (qMtk, .inl (cyI, 120, .inl (xA (uz mtk (mtn) (k))))), (qMtl, .inl (cyI, 120, .inl (xA (mtl)))), (qMtt, .inl (cyI, 120, .inl (xA (mtt))))] H := hP
      have hD : va_D A [(qM, .inr (7, [.ref qMf, .ref qMz, .ref qMi, .ref qMm, .int (iI (mlate)), .int (iI (mtn)), .ref qMty, .ref qMtk, .ref qMtl, .ref qMtt, .int (iI (mwn)), .ref qMwf, .ref qMwt, .ref qMwl, .ref qMse, .ref qMsi, .ref qMkk, .ref qMkl, .int (iI (mex)), .ref qMey, .ref qMel, .ref qMo, .ref qMx, .int (iI (mtyped)), .int (iI (mat)), .int (iI (mpairs)), .ref qMpl, .ref qMpf])), (qMty, .inl (cyI, 120, .inl (xA (uz mty (mtn) (y))))), (qMtk, .inl (cyI, 120, .inl (xA (uz mtk (mtn) (k))))), (qMtl, .inl (cyI, 120, .inl (xA (mtl)))), (qMtt, .inl (cyI, 120, .inl (xA (mtt))))] := hD
      refine lv_aload_n hx hb dX7_tell_104 rfl (lv_at hl 1 rfl) ?_
      refine va_get (D := D) (ci := 7) (C := RX7) (T := TX7) (N := 28) hx hb hts hcX7 hown hK hP 0 rfl rfl 8 (by decide) (hts (.fieldLink RX7 28 "WallMarksModel" "toldLevel" "[I") (List.mem_of_getElem? (i := 5) (by decide +kernel))) (fun _ h9 => h9) rfl dX7_tell_105 ?_
      refine lv_aload_n hx hb dX7_tell_108 rfl (lv_at hl 1 rfl) ?_
      refine va_get (D := D) (ci := 7) (C := RX7) (T := TX7) (N := 28) hx hb hts hcX7 hown hK hP 0 rfl rfl 5 (by decide) (hts (.fieldLink RX7 115 "WallMarksModel" "tellings" "I") (List.mem_of_getElem? (i := 2) (by decide +kernel))) (fun _ h9 => h9) rfl dX7_tell_109 ?_
      refine lv_iload_n hx hb dX7_tell_112 rfl (lv_at hl 4 rfl) ?_
      refine xi_ast (D := D) hx hb hK hP hD hS 3 0 rfl rfl (by decide) (by omega) dX7_tell_113 (fun H locs hP hD hS => ?_)
      have hP : va_P D vwCl [(qM, .inr (7, [.ref qMf, .ref qMz, .ref qMi, .ref qMm, .int (iI (mlate)), .int (iI (mtn)), .ref qMty, .ref qMtk, .ref qMtl, .ref qMtt, .int (iI (mwn)), .ref qMwf, .ref qMwt, .ref qMwl, .ref qMse, .ref qMsi, .ref qMkk, .ref qMkl, .int (iI (mex)), .ref qMey, .ref qMel, .ref qMo, .ref qMx, .int (iI (mtyped)), .int (iI (mat)), .int (iI (mpairs)), .ref qMpl, .ref qMpf])), (qMty, .inl (cyI, 120, .inl (xA (uz mty (mtn) (y))))), (qMtk, .inl (cyI, 120, .inl (xA (uz mtk (mtn) (k))))), (qMtl, .inl (cyI, 120, .inl (xA (uz mtl (mtn) (v))))), (qMtt, .inl (cyI, 120, .inl (xA (mtt))))] H := hP
      have hD : va_D A [(qM, .inr (7, [.ref qMf, .ref qMz, .ref qMi, .ref qMm, .int (iI (mlate)), .int (iI (mtn)), .ref qMty, .ref qMtk, .ref qMtl, .ref qMtt, .int (iI (mwn)), .ref qMwf, .ref qMwt, .ref qMwl, .ref qMse, .ref qMsi, .ref qMkk, .ref qMkl, .int (iI (mex)), .ref qMey, .ref qMel, .ref qMo, .ref qMx, .int (iI (mtyped)), .int (iI (mat)), .int (iI (mpairs)), .ref qMpl, .ref qMpf])), (qMty, .inl (cyI, 120, .inl (xA (uz mty (mtn) (y))))), (qMtk, .inl (cyI, 120, .inl (xA (uz mtk (mtn) (k))))), (qMtl, .inl (cyI, 120, .inl (xA (uz mtl (mtn) (v))))), (qMtt, .inl (cyI, 120, .inl (xA (mtt))))] := hD
      refine lv_aload_n hx hb dX7_tell_114 rfl (lv_at hl 1 rfl) ?_
      refine va_get (D := D) (ci := 7) (C := RX7) (T := TX7) (N := 28) hx hb hts hcX7 hown hK hP 0 rfl rfl 9 (by decide) (hts (.fieldLink RX7 31 "WallMarksModel" "toldTime" "[I") (List.mem_of_getElem? (i := 6) (by decide +kernel))) (fun _ h9 => h9) rfl dX7_tell_115 ?_
      refine lv_aload_n hx hb dX7_tell_118 rfl (lv_at hl 1 rfl) ?_
      refine va_get (D := D) (ci := 7) (C := RX7) (T := TX7) (N := 28) hx hb hts hcX7 hown hK hP 0 rfl rfl 5 (by decide) (hts (.fieldLink RX7 115 "WallMarksModel" "tellings" "I") (List.mem_of_getElem? (i := 2) (by decide +kernel))) (fun _ h9 => h9) rfl dX7_tell_119 ?_
      refine lv_iload hx hb dX7_tell_122 (lv_at hl 5 rfl) ?_
      refine xi_ast (D := D) hx hb hK hP hD hS 4 0 rfl rfl (by decide) (by omega) dX7_tell_124 (fun H locs hP hD hS => ?_)
      have hP : va_P D vwCl [(qM, .inr (7, [.ref qMf, .ref qMz, .ref qMi, .ref qMm, .int (iI (mlate)), .int (iI (mtn)), .ref qMty, .ref qMtk, .ref qMtl, .ref qMtt, .int (iI (mwn)), .ref qMwf, .ref qMwt, .ref qMwl, .ref qMse, .ref qMsi, .ref qMkk, .ref qMkl, .int (iI (mex)), .ref qMey, .ref qMel, .ref qMo, .ref qMx, .int (iI (mtyped)), .int (iI (mat)), .int (iI (mpairs)), .ref qMpl, .ref qMpf])), (qMty, .inl (cyI, 120, .inl (xA (uz mty (mtn) (y))))), (qMtk, .inl (cyI, 120, .inl (xA (uz mtk (mtn) (k))))), (qMtl, .inl (cyI, 120, .inl (xA (uz mtl (mtn) (v))))), (qMtt, .inl (cyI, 120, .inl (xA (uz mtt (mtn) (t9)))))] H := hP
      have hD : va_D A [(qM, .inr (7, [.ref qMf, .ref qMz, .ref qMi, .ref qMm, .int (iI (mlate)), .int (iI (mtn)), .ref qMty, .ref qMtk, .ref qMtl, .ref qMtt, .int (iI (mwn)), .ref qMwf, .ref qMwt, .ref qMwl, .ref qMse, .ref qMsi, .ref qMkk, .ref qMkl, .int (iI (mex)), .ref qMey, .ref qMel, .ref qMo, .ref qMx, .int (iI (mtyped)), .int (iI (mat)), .int (iI (mpairs)), .ref qMpl, .ref qMpf])), (qMty, .inl (cyI, 120, .inl (xA (uz mty (mtn) (y))))), (qMtk, .inl (cyI, 120, .inl (xA (uz mtk (mtn) (k))))), (qMtl, .inl (cyI, 120, .inl (xA (uz mtl (mtn) (v))))), (qMtt, .inl (cyI, 120, .inl (xA (uz mtt (mtn) (t9)))))] := hD
      refine lv_aload_n hx hb dX7_tell_125 rfl (lv_at hl 1 rfl) ?_
      refine lv_dup hx hb dX7_tell_126 rfl ?_
      refine va_get (D := D) (ci := 7) (C := RX7) (T := TX7) (N := 28) hx hb hts hcX7 hown hK hP 0 rfl rfl 5 (by decide) (hts (.fieldLink RX7 115 "WallMarksModel" "tellings" "I") (List.mem_of_getElem? (i := 2) (by decide +kernel))) (fun _ h9 => h9) rfl dX7_tell_127 ?_
      refine xi_const hx hb dX7_tell_130 ?_
      refine xi_add hx hb dX7_tell_131 ?_
      refine va_put (D := D) (ci := 7) (v := .int (iI (mtn + 1))) (ty := .int) (C := RX7) (T := TX7) (N := 28) hx hb hts hcX7 tyX7 tyX7_ok nmX7 hown hK hP hD hS 0 rfl rfl 5 (by decide) (hts (.fieldLink RX7 115 "WallMarksModel" "tellings" "I") (List.mem_of_getElem? (i := 2) (by decide +kernel))) (fun _ h9 => h9) rfl (by decide +kernel) rfl rfl (Nat.le_of_ble_eq_true rfl) dX7_tell_132 (fun H locs hP hD hS => ?_)
      have hP : va_P D vwCl [(qM, .inr (7, [.ref qMf, .ref qMz, .ref qMi, .ref qMm, .int (iI (mlate)), .int (iI (mtn + 1)), .ref qMty, .ref qMtk, .ref qMtl, .ref qMtt, .int (iI (mwn)), .ref qMwf, .ref qMwt, .ref qMwl, .ref qMse, .ref qMsi, .ref qMkk, .ref qMkl, .int (iI (mex)), .ref qMey, .ref qMel, .ref qMo, .ref qMx, .int (iI (mtyped)), .int (iI (mat)), .int (iI (mpairs)), .ref qMpl, .ref qMpf])), (qMty, .inl (cyI, 120, .inl (xA (uz mty (mtn) (y))))), (qMtk, .inl (cyI, 120, .inl (xA (uz mtk (mtn) (k))))), (qMtl, .inl (cyI, 120, .inl (xA (uz mtl (mtn) (v))))), (qMtt, .inl (cyI, 120, .inl (xA (uz mtt (mtn) (t9)))))] H := hP
      have hD : va_D A [(qM, .inr (7, [.ref qMf, .ref qMz, .ref qMi, .ref qMm, .int (iI (mlate)), .int (iI (mtn + 1)), .ref qMty, .ref qMtk, .ref qMtl, .ref qMtt, .int (iI (mwn)), .ref qMwf, .ref qMwt, .ref qMwl, .ref qMse, .ref qMsi, .ref qMkk, .ref qMkl, .int (iI (mex)), .ref qMey, .ref qMel, .ref qMo, .ref qMx, .int (iI (mtyped)), .int (iI (mat)), .int (iI (mpairs)), .ref qMpl, .ref qMpf])), (qMty, .inl (cyI, 120, .inl (xA (uz mty (mtn) (y))))), (qMtk, .inl (cyI, 120, .inl (xA (uz mtk (mtn) (k))))), (qMtl, .inl (cyI, 120, .inl (xA (uz mtl (mtn) (v))))), (qMtt, .inl (cyI, 120, .inl (xA (uz mtt (mtn) (t9)))))] := hD
      refine lv_aload_n hx hb dX7_tell_135 rfl (lv_at hl 1 rfl) ?_
      refine va_get (D := D) (ci := 7) (C := RX7) (T := TX7) (N := 28) hx hb hts hcX7 hown hK hP 0 rfl rfl 5 (by decide) (hts (.fieldLink RX7 115 "WallMarksModel" "tellings" "I") (List.mem_of_getElem? (i := 2) (by decide +kernel))) (fun _ h9 => h9) rfl dX7_tell_136 ?_
      have he0 : (uz mty (mtn) (y) : Int → Int) = (uz mty mtn y) := by first | rfl | omega
      have he1 : (uz mtk (mtn) (k) : Int → Int) = (uz mtk mtn k) := by first | rfl | omega
      have he2 : (uz mtl (mtn) (v) : Int → Int) = (uz mtl mtn v) := by first | rfl | omega
      have he3 : (uz mtt (mtn) (t9) : Int → Int) = (uz mtt mtn t9) := by first | rfl | omega
      have hW8 := congr (congr (congr (congrArg (fun (xv0 : Int → Int) (xv1 : Int → Int) (xv2 : Int → Int) (xv3 : Int → Int) => ([(qM, .inr (7, [.ref qMf, .ref qMz, .ref qMi, .ref qMm, .int (iI (mlate)), .int (iI (mtn + 1)), .ref qMty, .ref qMtk, .ref qMtl, .ref qMtt, .int (iI (mwn)), .ref qMwf, .ref qMwt, .ref qMwl, .ref qMse, .ref qMsi, .ref qMkk, .ref qMkl, .int (iI (mex)), .ref qMey, .ref qMel, .ref qMo, .ref qMx, .int (iI (mtyped)), .int (iI (mat)), .int (iI (mpairs)), .ref qMpl, .ref qMpf])), (qMty, .inl (cyI, 120, .inl (xA (xv0)))), (qMtk, .inl (cyI, 120, .inl (xA (xv1)))), (qMtl, .inl (cyI, 120, .inl (xA (xv2)))), (qMtt, .inl (cyI, 120, .inl (xA (xv3))))] : va_W)) he0) he1) he2) he3
      have hW9 : ([(qM, .inr (7, [.ref qMf, .ref qMz, .ref qMi, .ref qMm, .int (iI (mlate)), .int (iI (mtn + 1)), .ref qMty, .ref qMtk, .ref qMtl, .ref qMtt, .int (iI (mwn)), .ref qMwf, .ref qMwt, .ref qMwl, .ref qMse, .ref qMsi, .ref qMkk, .ref qMkl, .int (iI (mex)), .ref qMey, .ref qMel, .ref qMo, .ref qMx, .int (iI (mtyped)), .int (iI (mat)), .int (iI (mpairs)), .ref qMpl, .ref qMpf])), (qMty, .inl (cyI, 120, .inl (xA (uz mty (mtn) (y))))), (qMtk, .inl (cyI, 120, .inl (xA (uz mtk (mtn) (k))))), (qMtl, .inl (cyI, 120, .inl (xA (uz mtl (mtn) (v))))), (qMtt, .inl (cyI, 120, .inl (xA (uz mtt (mtn) (t9)))))] : va_W) = [(qM, .inr (7, [.ref qMf, .ref qMz, .ref qMi, .ref qMm, .int (iI (mlate)), .int (iI (mtn + 1)), .ref qMty, .ref qMtk, .ref qMtl, .ref qMtt, .int (iI (mwn)), .ref qMwf, .ref qMwt, .ref qMwl, .ref qMse, .ref qMsi, .ref qMkk, .ref qMkl, .int (iI (mex)), .ref qMey, .ref qMel, .ref qMo, .ref qMx, .int (iI (mtyped)), .int (iI (mat)), .int (iI (mpairs)), .ref qMpl, .ref qMpf])), (qMty, .inl (cyI, 120, .inl (xA (uz mty mtn y)))), (qMtk, .inl (cyI, 120, .inl (xA (uz mtk mtn k)))), (qMtl, .inl (cyI, 120, .inl (xA (uz mtl mtn v)))), (qMtt, .inl (cyI, 120, .inl (xA (uz mtt mtn t9))))] := hW8
      rw [hW9] at hP hD
      exact W.iret (v := iI (mtn + 1)) hx hb hr (fun t_ ht_ hW_ => ⟨⟨_, (), rfl, ⟨rfl, trivial⟩, by rw [ht_]; exact hP, va_K.moved hW_.alike hK, hD⟩, hS.F ht_⟩) hS.2.2 dX7_tell_139
