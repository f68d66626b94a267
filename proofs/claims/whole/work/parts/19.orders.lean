noncomputable def hlG (ey el : Int → Int) (ex es y : Int) : Int := (fcN el ex es (ahZ ey ex y) (zabs (maF ey el ex es y)) (15 - 0 : Int).toNat 0 (ahZ ey ex y) 0 * 1000000).tdiv (chI ex (ahZ ey ex y))
theorem gcF_in {ey el : Int → Int} {ex es : Int} : (-1 ≤ (gcF ey el ex es 60).1 ∧ (gcF ey el ex es 60).1 ≤ 59) ∧ ((gcF ey el ex es 60).1 ≠ -1 → mbF ey ex (gcF ey el ex es 60).1 ≠ 0) := by
  have key := foldZ_ind (gcS ey el ex es) (-1, 0, 1) (fun k st => (-1 ≤ st.1 ∧ st.1 < k ∨ st.1 = -1) ∧ (st.1 ≠ -1 → mbF ey ex st.1 ≠ 0)) ⟨Or.inr rfl, fun h => absurd rfl h⟩ 60 (fun k st h1 h2 h3 => by
    unfold gcS
    by_cases q : mbF ey ex k ≠ 0 ∧ (st.1 = -1 ∨ st.2.1 * mbF ey ex k < zabs (maF ey el ex es k) * st.2.2)
    · rw [if_pos q]; exact ⟨Or.inl (by dsimp only; omega), fun _ => q.1⟩
    · rw [if_neg q]; exact ⟨by omega, h3.2⟩) 60 (by omega) (by omega)
  unfold gcF
  refine ⟨by omega, key.2⟩
theorem gcF_mb {ey el : Int → Int} {ex es : Int} (h : ¬ (gcF ey el ex es 60).1 = -1) : mbF ey ex (gcF ey el ex es 60).1 ≠ 0 := gcF_in.2 h
set_option maxHeartbeats 1000000 in
set_option maxRecDepth 100000 in
theorem c_X6_farChoices (l : Launch) (D : va_G) (cyI cyJ cyO : ClassId) (qC : Nat) (qCy : Nat) (qCl : Nat) (qCb : Nat) (ex : Int) (be : Int) (op : Int) (es : Int) (ge : Int) (rc : Int) (lr : Int) (lw : Int) (el : Int → Int) (h_ex : 0 ≤ ex ∧ ex ≤ 60) (h_be : 0 ≤ be ∧ be ≤ 60) (h_op : 0 ≤ op ∧ op ≤ 60) (h_el : ∀ j, 0 ≤ el j ∧ el j ≤ 999) (h_es : 0 ≤ es ∧ es ≤ 59940) (h_ex14 : ex ≤ 14) : ∀ (dd : Nat) (a : Int) (f : Int) (sm : Int) (tk9 : Int) (far : Int) (h_a : 0 ≤ a ∧ a ≤ 14) (h_f : 0 ≤ f ∧ f ≤ 14) (h_sm : 0 ≤ sm ∧ sm ≤ 999 * a) (h_tk : 0 ≤ tk9 ∧ tk9 ≤ 14) (h_far : -1000000000000 ≤ far ∧ far ≤ 1000000000000) (hdd : 15 - a ≤ (dd : Int)), Met l yX6_farChoices wsX6_farChoices ({ frames := dd + 1, cells := 0, slots := 0, locals := 40 * dd + 60 }) (va_Pc [.ref qC, .int (iI (a)), .int (iI (f)), .int (iI (sm)), .int (iI (tk9)), .long (lI (far))] (xR D vwCl [(qC, .inr (0, [.ref qCy, .ref qCl, .ref qCb, .int (iI (ex)), .int (iI (be)), .int (iI (op)), .int (iI (es)), .int (iI (ge)), .int (iI (rc)), .int (iI (lr)), .int (iI (lw))])), (qCl, .inl (cyI, 60, .inl (xA (el))))] (xT cyI cyJ cyO))) (xq (some (.long (lI (fcN el ex es tk9 far (15 - a : Int).toNat a f sm))))) 0 0 (fun _ => False) := by
  intro dd
  induction dd with
  | zero => intro a f sm tk9 far h_a h_f h_sm h_tk h_far hdd; exfalso; omega
  | succ dd ihd =>
    intro a f sm tk9 far h_a h_f h_sm h_tk h_far hdd
    refine Met.ofW (cc := cX6_farChoices) (maxL := 7) (ret := (some .long)) (by decide) rfl ?_
    intro p e s m args below meth c s₁ B hml hv
    obtain ⟨rfl, hP, hK⟩ := hv
    have hx := B.exec
    have hb := B.bytes
    have hr := B.returns
    have hts := atoms_spec (ws := wsX6_farChoices) B.pre
    have hown : s.vm.findClass RX6 = some m.cls := findClass_of_methodNamed B.named
    have hlocks := B.notSynchronized
    have hcX0 : ∀ w ∈ wsX00, w ∈ wsX6_farChoices := fun _ h => List.mem_cons_of_mem _ (List.mem_append_right _ h)
    have hP : va_P D vwCl [(qC, .inr (0, [.ref qCy, .ref qCl, .ref qCb, .int (iI (ex)), .int (iI (be)), .int (iI (op)), .int (iI (es)), .int (iI (ge)), .int (iI (rc)), .int (iI (lr)), .int (iI (lw))])), (qCl, .inl (cyI, 60, .inl (xA (el))))] s.heap := hP
    have hl := lv_entry ([.ref qC, .int (iI (a)), .int (iI (f)), .int (iI (sm)), .int (iI (tk9)), .long (lI (far))]) (n := 7) (Nat.le_of_ble_eq_true rfl)
    rw [lg_entry_eq]
    generalize (lg_sl ([.ref qC, .int (iI (a)), .int (iI (f)), .int (iI (sm)), .int (iI (tk9)), .long (lI (far))]) ++ List.replicate (7 - (lg_sl ([.ref qC, .int (iI (a)), .int (iI (f)), .int (iI (sm)), .int (iI (tk9)), .long (lI (far))])).length) Slot.unset).toArray = ls at hl ⊢
    have hl : lv_has ls 7 [(0, .ref qC), (1, .int (iI (a))), (2, .int (iI (f))), (3, .int (iI (sm))), (4, .int (iI (tk9))), (5, .long (lI (far)))] := hl
    refine lv_iload_n hx hb dX6_farChoices_0 rfl (lv_at hl 2 rfl) ?_
    refine xb_if_ne (tgt := 26) hx hb dX6_farChoices_1 (by decide) (by omega) (fun h_1 => ?_) (fun h_1 => ?_)
    · refine lv_iload_n hx hb dX6_farChoices_26 rfl (lv_at hl 1 rfl) ?_
      refine xi_bipush hx hb dX6_farChoices_27 (by decide +kernel) ?_
      refine xb_icmp_ge (tgt := 42) hx hb dX6_farChoices_29 (by decide) (by omega) (fun h_2 => ?_) (fun h_2 => ?_)
      · refine xi_lconst0 hx hb dX6_farChoices_42 ?_
        exact W.lret (v := lI (0)) hx hb hr (fun t_ ht_ _ => ⟨congrArg (fun z => Outcome.returned (some (Value.long (lI z)))) (show (0) = (fcN el ex es tk9 far (15 - a : Int).toNat a f sm) from by rw [show (15 - a).toNat = (14 - a).toNat + 1 from by omega, fcN_n (by assumption) (by omega)]), ht_⟩) (fun _ h9 => absurd h9 List.not_mem_nil) dX6_farChoices_43
      · refine lv_iload_n hx hb dX6_farChoices_32 rfl (lv_at hl 1 rfl) ?_
        refine lv_iload_n hx hb dX6_farChoices_33 rfl (lv_at hl 2 rfl) ?_
        refine xi_add hx hb dX6_farChoices_34 ?_
        refine lv_aload_n hx hb dX6_farChoices_35 rfl (lv_at hl 0 rfl) ?_
        refine va_get (D := D) (ci := 0) (C := RX0) (T := TX0) (N := 11) hx hb hts hcX0 hown hK hP 0 rfl rfl 3 (by decide) (hts (.fieldLink RX6 170 "WallMarks$Counted" "exacts" "I") (List.mem_of_getElem? (i := 5) (by decide +kernel))) (fun _ h9 => h9) rfl dX6_farChoices_36 ?_
        refine xb_icmp_le (tgt := 44) hx hb dX6_farChoices_39 (by decide) (by omega) (fun h_3 => ?_) (fun h_3 => ?_)
        · refine lv_aload_n hx hb dX6_farChoices_44 rfl (lv_at hl 0 rfl) ?_
          refine lv_iload_n hx hb dX6_farChoices_45 rfl (lv_at hl 1 rfl) ?_
          refine xi_const hx hb dX6_farChoices_46 ?_
          refine xi_add hx hb dX6_farChoices_47 ?_
          refine lv_iload_n hx hb dX6_farChoices_48 rfl (lv_at hl 2 rfl) ?_
          refine xi_const hx hb dX6_farChoices_49 ?_
          refine xi_sub hx hb dX6_farChoices_50 ?_
          refine lv_iload_n hx hb dX6_farChoices_51 rfl (lv_at hl 3 rfl) ?_
          refine lv_aload_n hx hb dX6_farChoices_52 rfl (lv_at hl 0 rfl) ?_
          refine va_get (D := D) (ci := 0) (C := RX0) (T := TX0) (N := 11) hx hb hts hcX0 hown hK hP 0 rfl rfl 1 (by decide) (hts (.fieldLink RX6 173 "WallMarks$Counted" "exactLevels" "[I") (List.mem_of_getElem? (i := 6) (by decide +kernel))) (fun _ h9 => h9) rfl dX6_farChoices_53 ?_
          refine lv_iload_n hx hb dX6_farChoices_56 rfl (lv_at hl 1 rfl) ?_
          refine xi_ald (D := D) hx hb hK hP 1 0 rfl rfl (by decide) (by omega) dX6_farChoices_57 ?_
          have hr_4 := h_el (a)
          refine xi_add hx hb dX6_farChoices_58 ?_
          refine lv_iload hx hb dX6_farChoices_59 (lv_at hl 4 rfl) ?_
          refine lv_lload hx hb dX6_farChoices_61 (lv_at hl 5 rfl) ?_
          have hPc := hP.sub (ws' := [(qC, .inr (0, [.ref qCy, .ref qCl, .ref qCb, .int (iI (ex)), .int (iI (be)), .int (iI (op)), .int (iI (es)), .int (iI (ge)), .int (iI (rc)), .int (iI (lr)), .int (iI (lw))])), (qCl, .inl (cyI, 60, .inl (xA (el))))]) [0, 1] rfl
          refine xc_l (va_runS (As := [.ref qC, .int (iI (a + 1)), .int (iI (f - 1)), .int (iI (sm + (el (a)))), .int (iI (tk9)), .long (lI (far))]) (rest := []) ⟨hx, hb, hml, hown, hts⟩ (ihd (a + 1) (f - 1) (sm + (el (a))) tk9 far (by first | exact h_a | assumption | omega) (by first | exact h_f | assumption | omega) (by first | exact h_sm | assumption | omega) (by first | exact h_tk | assumption | omega) (by first | exact h_far | assumption | omega) (by omega)) (va_cwS 6 hts gX6_farChoices_X6_farChoices rfl rfl rfl (by decide +kernel) ⟨by show dd + 1 + 1 ≤ dd + 1 + 1; omega, by show 8 + (7 + 11) + (40 * dd + 60) ≤ 40 * (dd + 1) + 60; omega⟩) (xpS hPc hK) rfl rfl hl.1 rfl (lv_room (Nat.le_of_ble_eq_true rfl)) dX6_farChoices_63 ⟨Nat.le_of_ble_eq_true rfl, Nat.le_of_ble_eq_true rfl⟩) ?_
          refine lv_aload_n hx hb dX6_farChoices_66 rfl (lv_at hl 0 rfl) ?_
          refine lv_iload_n hx hb dX6_farChoices_67 rfl (lv_at hl 1 rfl) ?_
          refine xi_const hx hb dX6_farChoices_68 ?_
          refine xi_add hx hb dX6_farChoices_69 ?_
          refine lv_iload_n hx hb dX6_farChoices_70 rfl (lv_at hl 2 rfl) ?_
          refine lv_iload_n hx hb dX6_farChoices_71 rfl (lv_at hl 3 rfl) ?_
          refine lv_iload hx hb dX6_farChoices_72 (lv_at hl 4 rfl) ?_
          refine lv_lload hx hb dX6_farChoices_74 (lv_at hl 5 rfl) ?_
          have hPc := hP.sub (ws' := [(qC, .inr (0, [.ref qCy, .ref qCl, .ref qCb, .int (iI (ex)), .int (iI (be)), .int (iI (op)), .int (iI (es)), .int (iI (ge)), .int (iI (rc)), .int (iI (lr)), .int (iI (lw))])), (qCl, .inl (cyI, 60, .inl (xA (el))))]) [0, 1] rfl
          refine xc_l (va_runS (As := [.ref qC, .int (iI (a + 1)), .int (iI (f)), .int (iI (sm)), .int (iI (tk9)), .long (lI (far))]) (rest := [.long (lI (fcN el ex es tk9 far (15 - (a + 1) : Int).toNat (a + 1) (f - 1) (sm + (el (a)))))]) ⟨hx, hb, hml, hown, hts⟩ (ihd (a + 1) f sm tk9 far (by first | exact h_a | assumption | omega) (by first | exact h_f | assumption | omega) (by first | exact h_sm | assumption | omega) (by first | exact h_tk | assumption | omega) (by first | exact h_far | assumption | omega) (by omega)) (va_cwS 6 hts gX6_farChoices_X6_farChoices rfl rfl rfl (by decide +kernel) ⟨by show dd + 1 + 1 ≤ dd + 1 + 1; omega, by show 8 + (7 + 11) + (40 * dd + 60) ≤ 40 * (dd + 1) + 60; omega⟩) (xpS hPc hK) rfl rfl hl.1 rfl (lv_room (Nat.le_of_ble_eq_true rfl)) dX6_farChoices_76 ⟨Nat.le_of_ble_eq_true rfl, Nat.le_of_ble_eq_true rfl⟩) ?_
          refine xl_add hx hb dX6_farChoices_79 ?_
          exact W.lret (v := lI ((fcN el ex es tk9 far (15 - (a + 1) : Int).toNat (a + 1) (f - 1) (sm + (el (a)))) + (fcN el ex es tk9 far (15 - (a + 1) : Int).toNat (a + 1) f sm))) hx hb hr (fun t_ ht_ _ => ⟨congrArg (fun z => Outcome.returned (some (Value.long (lI z)))) (show ((fcN el ex es tk9 far (15 - (a + 1) : Int).toNat (a + 1) (f - 1) (sm + (el (a)))) + (fcN el ex es tk9 far (15 - (a + 1) : Int).toNat (a + 1) f sm)) = (fcN el ex es tk9 far (15 - a : Int).toNat a f sm) from by rw [show (15 - a).toNat = (14 - a).toNat + 1 from by omega, fcN_s (by assumption) (by omega), show (15 - (a + 1)).toNat = (14 - a).toNat from by omega]), ht_⟩) (fun _ h9 => absurd h9 List.not_mem_nil) dX6_farChoices_80
        · refine xi_lconst0 hx hb dX6_farChoices_42 ?_
          exact W.lret (v := lI (0)) hx hb hr (fun t_ ht_ _ => ⟨congrArg (fun z => Outcome.returned (some (Value.long (lI z)))) (show (0) = (fcN el ex es tk9 far (15 - a : Int).toNat a f sm) from by rw [show (15 - a).toNat = (14 - a).toNat + 1 from by omega, fcN_n (by assumption) (by omega)]), ht_⟩) (fun _ h9 => absurd h9 List.not_mem_nil) dX6_farChoices_43
    · refine lv_aload_n hx hb dX6_farChoices_4 rfl (lv_at hl 0 rfl) ?_
      refine lv_iload hx hb dX6_farChoices_5 (lv_at hl 4 rfl) ?_
      refine lv_iload_n hx hb dX6_farChoices_7 rfl (lv_at hl 3 rfl) ?_
      have hPc := hP.sub (ws' := [(qC, .inr (0, [.ref qCy, .ref qCl, .ref qCb, .int (iI (ex)), .int (iI (be)), .int (iI (op)), .int (iI (es)), .int (iI (ge)), .int (iI (rc)), .int (iI (lr)), .int (iI (lw))]))]) [0] rfl
      refine xc_l (va_runV (As := [.int (iI (tk9)), .int (iI (sm))]) (rest := []) ⟨hx, hb, hml, hown, hts⟩ (c_X0_meansApart l D cyI cyJ cyO qC qCy qCl qCb ex be op es ge rc lr lw tk9 sm (by first | exact h_ex | assumption | omega) (by first | exact h_be | assumption | omega) (by first | exact h_op | assumption | omega) (by first | exact h_es | assumption | omega) (by first | exact h_t | assumption | omega) (by first | exact h_sm | assumption | omega)) (cwV 2 hts gX6_farChoices_X0_meansApart rfl rfl rfl (by decide +kernel) ⟨by show 0 + 1 ≤ dd + 1 + 1; omega, by show 8 + (3 + 11) + 0 ≤ 40 * (dd + 1) + 60; omega⟩) (xpV hPc hK (ci := 0) (q0 := 0) (q := (RX0, TX0, 11)) rfl rfl) rfl rfl hl.1 rfl (lv_room (Nat.le_of_ble_eq_true rfl)) dX6_farChoices_8 ⟨Nat.le_of_ble_eq_true rfl, Nat.le_of_ble_eq_true rfl⟩) ?_
      have hm1 := mul_abs (a := es - sm) (b := tk9) (A := 100000) (B := 14) (by omega) (by omega)
      rw [Int.mul_comm (es - sm)] at hm1
      have hm2 := mul_abs (a := ex - tk9) (b := sm) (A := 14) (B := 13986) (by omega) (by omega)
      refine xm_abs_long hx hb (hml.trans hl.1.symm) hown (hts (.methodLink RX6 390 Lib.MathLoose.abs_long.x) (List.mem_of_getElem? (i := 1) (by decide +kernel))) (hts (.static Lib.MathLoose.abs_long.x) (List.mem_of_getElem? (i := 2) (by decide +kernel))) (hts (.initialized "java/lang/Math") (List.mem_of_getElem? (i := 3) (by decide +kernel))) (hts (.code Lib.MathLoose.abs_long.x Lib.MathLoose.abs_long.code 2 (some .long)) (List.mem_of_getElem? (i := 4) (by decide +kernel))) (Nat.le_of_ble_eq_true rfl) (Nat.le_of_ble_eq_true rfl) (Nat.le_of_ble_eq_true rfl) (Nat.le_of_ble_eq_true rfl) dX6_farChoices_11 (by omega) ?_
      have hzz := zabs_in (a := tk9 * (es - sm) - (ex - tk9) * sm) (M := 10000000) (by omega)
      refine lv_lload hx hb dX6_farChoices_14 (lv_at hl 5 rfl) ?_
      refine xl_if_lt (tgt := 24) hx hb dX6_farChoices_16 dX6_farChoices_17 (by decide) (by omega) (fun h_5 => ?_) (fun h_5 => ?_)
      · refine xi_lconst0 hx hb dX6_farChoices_24 ?_
        exact W.lret (v := lI (0)) hx hb hr (fun t_ ht_ _ => ⟨congrArg (fun z => Outcome.returned (some (Value.long (lI z)))) (show (0) = (fcN el ex es tk9 far (15 - a : Int).toNat a f sm) from by rw [show (15 - a).toNat = (14 - a).toNat + 1 from by omega, show f = 0 from by omega]; first | exact (fcN_1 (by omega)).symm | exact (fcN_0 (by omega)).symm), ht_⟩) (fun _ h9 => absurd h9 List.not_mem_nil) dX6_farChoices_25
      · refine xi_lconst1 hx hb dX6_farChoices_20 ?_
        refine lv_goto (tgt := 25) hx hb dX6_farChoices_21 (by decide) ?_
        exact W.lret (v := lI (1)) hx hb hr (fun t_ ht_ _ => ⟨congrArg (fun z => Outcome.returned (some (Value.long (lI z)))) (show (1) = (fcN el ex es tk9 far (15 - a : Int).toNat a f sm) from by rw [show (15 - a).toNat = (14 - a).toNat + 1 from by omega, show f = 0 from by omega]; first | exact (fcN_1 (by omega)).symm | exact (fcN_0 (by omega)).symm), ht_⟩) (fun _ h9 => absurd h9 List.not_mem_nil) dX6_farChoices_25
set_option maxHeartbeats 1000000 in
set_option maxRecDepth 100000 in
theorem c_X6_howLikely (l : Launch) (D : va_G) (cyI cyJ cyO : ClassId) (qW : Nat) (qT : Nat) (qA : Nat) (qK : Nat) (qC : Nat) (qE : Nat) (qI : Nat) (qF : Nat) (qH : Nat) (qO : Nat) (fi : Int) (qCy : Nat) (qCl : Nat) (qCb : Nat) (ex : Int) (be : Int) (op : Int) (es : Int) (ge : Int) (rc : Int) (lr : Int) (lw : Int) (ey : Int → Int) (el : Int → Int) (y : Int) (h_ex : 0 ≤ ex ∧ ex ≤ 60) (h_be : 0 ≤ be ∧ be ≤ 60) (h_op : 0 ≤ op ∧ op ≤ 60) (h_ey : ∀ j, 0 ≤ ey j ∧ ey j ≤ 59) (h_el : ∀ j, 0 ≤ el j ∧ el j ≤ 999) (h_es : 0 ≤ es ∧ es ≤ 59940) (h_ex14 : ex ≤ 14) (h_mb : mbF ey ex y ≠ 0) (h_y : -2147483648 ≤ y ∧ y ≤ 2147483647) : Met l yX6_howLikely wsX6_howLikely ({ frames := 17, cells := 0, slots := 0, locals := 686 }) (va_Pc [.ref qW, .int (iI (y))] (xR D vwCl [(qW, .inr (6, [.ref qT, .ref qA, .ref qK, .ref qC, .ref qE, .ref qI, .ref qF, .ref qH, .ref qO, .int (iI (fi))])), (qC, .inr (0, [.ref qCy, .ref qCl, .ref qCb, .int (iI (ex)), .int (iI (be)), .int (iI (op)), .int (iI (es)), .int (iI (ge)), .int (iI (rc)), .int (iI (lr)), .int (iI (lw))])), (qCy, .inl (cyI, 60, .inl (xA (ey)))), (qCl, .inl (cyI, 60, .inl (xA (el))))] (xT cyI cyJ cyO))) (xq (some (.int (iI (hlG ey el ex es y))))) 0 0 (fun _ => False) := by
  refine Met.ofW (cc := cX6_howLikely) (maxL := 7) (ret := (some .int)) (by decide) rfl ?_
  intro p e s m args below meth c s₁ B hml hv
  obtain ⟨rfl, hP, hK⟩ := hv
  have hx := B.exec
  have hb := B.bytes
  have hr := B.returns
  have hts := atoms_spec (ws := wsX6_howLikely) B.pre
  have hown : s.vm.findClass RX6 = some m.cls := findClass_of_methodNamed B.named
  have hlocks := B.notSynchronized
  have hcX0 : ∀ w ∈ wsX00, w ∈ wsX6_howLikely := fun _ h => List.mem_cons_of_mem _ (List.mem_append_right _ h)
  have hcX6 : ∀ w ∈ wsX60, w ∈ wsX6_howLikely := fun _ h => List.mem_cons_of_mem _ (List.mem_append_left _ (List.mem_append_right _ h))
  have hP : va_P D vwCl [(qW, .inr (6, [.ref qT, .ref qA, .ref qK, .ref qC, .ref qE, .ref qI, .ref qF, .ref qH, .ref qO, .int (iI (fi))])), (qC, .inr (0, [.ref qCy, .ref qCl, .ref qCb, .int (iI (ex)), .int (iI (be)), .int (iI (op)), .int (iI (es)), .int (iI (ge)), .int (iI (rc)), .int (iI (lr)), .int (iI (lw))])), (qCy, .inl (cyI, 60, .inl (xA (ey)))), (qCl, .inl (cyI, 60, .inl (xA (el))))] s.heap := hP
  have hl := lv_entry ([.ref qW, .int (iI (y))]) (n := 7) (Nat.le_of_ble_eq_true rfl)
  rw [lg_entry_eq]
  generalize (lg_sl ([.ref qW, .int (iI (y))]) ++ List.replicate (7 - (lg_sl ([.ref qW, .int (iI (y))])).length) Slot.unset).toArray = ls at hl ⊢
  have hl : lv_has ls 7 [(0, .ref qW), (1, .int (iI (y)))] := hl
  refine lv_aload_n hx hb dX6_howLikely_0 rfl (lv_at hl 0 rfl) ?_
  refine va_get (D := D) (ci := 6) (C := RX6) (T := TX6) (N := 10) hx hb hts hcX6 hown hK hP 0 rfl rfl 3 (by decide) (hts (.fieldLink RX6 33 "WallMarks" "counted" "LWallMarks$Counted;") (List.mem_of_getElem? (i := 1) (by decide +kernel))) (fun _ h9 => h9) rfl dX6_howLikely_1 ?_
  refine lv_iload_n hx hb dX6_howLikely_4 rfl (lv_at hl 1 rfl) ?_
  have hf_1 := ahZ_in ey ex y (by omega)
  have hPc := hP.sub (ws' := [(qC, .inr (0, [.ref qCy, .ref qCl, .ref qCb, .int (iI (ex)), .int (iI (be)), .int (iI (op)), .int (iI (es)), .int (iI (ge)), .int (iI (rc)), .int (iI (lr)), .int (iI (lw))])), (qCy, .inl (cyI, 60, .inl (xA (ey))))]) [1, 2] rfl
  refine xc_i (va_runV (As := [.int (iI (y))]) (rest := []) ⟨hx, hb, hml, hown, hts⟩ (c_X0_exactsAhead l D cyI cyJ cyO qC qCy qCl qCb ex be op es ge rc lr lw ey y (by first | exact h_ex | assumption | omega) (by first | exact h_be | assumption | omega) (by first | exact h_op | assumption | omega) (by first | exact h_ey | assumption | omega) (by first | exact h_y | assumption | omega)) (cwV 1 hts gX6_howLikely_X0_exactsAhead rfl rfl rfl (by decide +kernel) ⟨Nat.le_of_ble_eq_true rfl, Nat.le_of_ble_eq_true rfl⟩) (xpV hPc hK (ci := 0) (q0 := 0) (q := (RX0, TX0, 11)) rfl rfl) rfl rfl hl.1 rfl (lv_room (Nat.le_of_ble_eq_true rfl)) dX6_howLikely_5 ⟨Nat.le_of_ble_eq_true rfl, Nat.le_of_ble_eq_true rfl⟩) ?_
  refine lv_istore_n (lv' := [(2, .int (iI (ahZ ey ex y))), (0, .ref qW), (1, .int (iI (y)))]) hx hb dX6_howLikely_8 rfl hl (by decide) rfl (fun ls hl => ?_)
  refine lv_aload_n hx hb dX6_howLikely_9 rfl (lv_at hl 1 rfl) ?_
  refine va_get (D := D) (ci := 6) (C := RX6) (T := TX6) (N := 10) hx hb hts hcX6 hown hK hP 0 rfl rfl 3 (by decide) (hts (.fieldLink RX6 33 "WallMarks" "counted" "LWallMarks$Counted;") (List.mem_of_getElem? (i := 1) (by decide +kernel))) (fun _ h9 => h9) rfl dX6_howLikely_10 ?_
  refine lv_iload_n hx hb dX6_howLikely_13 rfl (lv_at hl 2 rfl) ?_
  have hf_2 := maF_in ey y h_el h_ex h_es
  have hPc := hP.sub (ws' := [(qC, .inr (0, [.ref qCy, .ref qCl, .ref qCb, .int (iI (ex)), .int (iI (be)), .int (iI (op)), .int (iI (es)), .int (iI (ge)), .int (iI (rc)), .int (iI (lr)), .int (iI (lw))])), (qCy, .inl (cyI, 60, .inl (xA (ey)))), (qCl, .inl (cyI, 60, .inl (xA (el))))]) [1, 2, 3] rfl
  refine xc_l (va_runV (As := [.int (iI (y))]) (rest := []) ⟨hx, hb, hml, hown, hts⟩ (c_X0_meansAbove l D cyI cyJ cyO qC qCy qCl qCb ex be op es ge rc lr lw ey el y (by first | exact h_ex | assumption | omega) (by first | exact h_be | assumption | omega) (by first | exact h_op | assumption | omega) (by first | exact h_ey | assumption | omega) (by first | exact h_el | assumption | omega) (by first | exact h_es | assumption | omega) (by first | exact h_y | assumption | omega)) (cwV 1 hts gX6_howLikely_X0_meansAbove rfl rfl rfl (by decide +kernel) ⟨Nat.le_of_ble_eq_true rfl, Nat.le_of_ble_eq_true rfl⟩) (xpV hPc hK (ci := 0) (q0 := 0) (q := (RX0, TX0, 11)) rfl rfl) rfl rfl hl.1 rfl (lv_room (Nat.le_of_ble_eq_true rfl)) dX6_howLikely_14 ⟨Nat.le_of_ble_eq_true rfl, Nat.le_of_ble_eq_true rfl⟩) ?_
  refine xm_abs_long hx hb (hml.trans hl.1.symm) hown (hts (.methodLink RX6 390 Lib.MathLoose.abs_long.x) (List.mem_of_getElem? (i := 2) (by decide +kernel))) (hts (.static Lib.MathLoose.abs_long.x) (List.mem_of_getElem? (i := 3) (by decide +kernel))) (hts (.initialized "java/lang/Math") (List.mem_of_getElem? (i := 4) (by decide +kernel))) (hts (.code Lib.MathLoose.abs_long.x Lib.MathLoose.abs_long.code 2 (some .long)) (List.mem_of_getElem? (i := 5) (by decide +kernel))) (Nat.le_of_ble_eq_true rfl) (Nat.le_of_ble_eq_true rfl) (Nat.le_of_ble_eq_true rfl) (Nat.le_of_ble_eq_true rfl) dX6_howLikely_17 (by omega) ?_
  refine lv_lstore_n (lv' := [(3, .long (lI (zabs (maF ey el ex es y)))), (2, .int (iI (ahZ ey ex y))), (0, .ref qW), (1, .int (iI (y)))]) hx hb dX6_howLikely_20 rfl hl (by decide) rfl (fun ls hl => ?_)
  refine lv_aload_n hx hb dX6_howLikely_21 rfl (lv_at hl 2 rfl) ?_
  refine va_get (D := D) (ci := 6) (C := RX6) (T := TX6) (N := 10) hx hb hts hcX6 hown hK hP 0 rfl rfl 3 (by decide) (hts (.fieldLink RX6 33 "WallMarks" "counted" "LWallMarks$Counted;") (List.mem_of_getElem? (i := 1) (by decide +kernel))) (fun _ h9 => h9) rfl dX6_howLikely_22 ?_
  refine va_get (D := D) (ci := 0) (C := RX0) (T := TX0) (N := 11) hx hb hts hcX0 hown hK hP 1 rfl rfl 3 (by decide) (hts (.fieldLink RX6 170 "WallMarks$Counted" "exacts" "I") (List.mem_of_getElem? (i := 6) (by decide +kernel))) (fun _ h9 => h9) rfl dX6_howLikely_25 ?_
  refine lv_iload_n hx hb dX6_howLikely_28 rfl (lv_at hl 1 rfl) ?_
  have hah := ahZ_in ey ex y h_ex.1
  have hf_3 := chI_in (n := ex) (k := (ahZ ey ex y)) (by omega)
  have hf_4 := chI_pos (n := ex) (k := (ahZ ey ex y)) (by omega)
  have hPc := hP.sub (ws' := []) [] rfl
  refine xc_l (va_runS (As := [.int (iI (ex)), .int (iI (ahZ ey ex y))]) (rest := []) ⟨hx, hb, hml, hown, hts⟩ (c_X6_choices l D cyI cyJ cyO ex (ahZ ey ex y) (by first | exact h_k | assumption | omega) (by first | exact h_n | assumption | omega)) (va_cwS 2 hts gX6_howLikely_X6_choices rfl rfl rfl (by decide +kernel) ⟨Nat.le_of_ble_eq_true rfl, Nat.le_of_ble_eq_true rfl⟩) (xpS hPc hK) rfl rfl hl.1 rfl (lv_room (Nat.le_of_ble_eq_true rfl)) dX6_howLikely_29 ⟨Nat.le_of_ble_eq_true rfl, Nat.le_of_ble_eq_true rfl⟩) ?_
  refine lv_lstore (lv' := [(5, .long (lI (chI ex (ahZ ey ex y)))), (3, .long (lI (zabs (maF ey el ex es y)))), (2, .int (iI (ahZ ey ex y))), (0, .ref qW), (1, .int (iI (y)))]) hx hb dX6_howLikely_32 hl (by decide) rfl (fun ls hl => ?_)
  refine lv_lload hx hb dX6_howLikely_34 (lv_at hl 0 rfl) ?_
  refine xi_lconst0 hx hb dX6_howLikely_36 ?_
  refine xl_if_ne (tgt := 45) hx hb dX6_howLikely_37 dX6_howLikely_38 (by decide) (by omega) (fun h_5 => ?_) (fun h_5 => by exfalso; omega)
  refine lv_aload_n hx hb dX6_howLikely_45 rfl (lv_at hl 3 rfl) ?_
  refine va_get (D := D) (ci := 6) (C := RX6) (T := TX6) (N := 10) hx hb hts hcX6 hown hK hP 0 rfl rfl 3 (by decide) (hts (.fieldLink RX6 33 "WallMarks" "counted" "LWallMarks$Counted;") (List.mem_of_getElem? (i := 1) (by decide +kernel))) (fun _ h9 => h9) rfl dX6_howLikely_46 ?_
  refine xi_const hx hb dX6_howLikely_49 ?_
  refine lv_iload_n hx hb dX6_howLikely_50 rfl (lv_at hl 2 rfl) ?_
  refine xi_const hx hb dX6_howLikely_51 ?_
  refine lv_iload_n hx hb dX6_howLikely_52 rfl (lv_at hl 2 rfl) ?_
  refine lv_lload_n hx hb dX6_howLikely_53 rfl (lv_at hl 1 rfl) ?_
  have hzz := zabs_in (a := maF ey el ex es y) (M := 7192800) (by omega)
  have hPc := hP.sub (ws' := [(qC, .inr (0, [.ref qCy, .ref qCl, .ref qCb, .int (iI (ex)), .int (iI (be)), .int (iI (op)), .int (iI (es)), .int (iI (ge)), .int (iI (rc)), .int (iI (lr)), .int (iI (lw))])), (qCl, .inl (cyI, 60, .inl (xA (el))))]) [1, 3] rfl
  refine xc_l (va_runS (As := [.ref qC, .int (iI (0)), .int (iI (ahZ ey ex y)), .int (iI (0)), .int (iI (ahZ ey ex y)), .long (lI (zabs (maF ey el ex es y)))]) (rest := []) ⟨hx, hb, hml, hown, hts⟩ (c_X6_farChoices l D cyI cyJ cyO qC qCy qCl qCb ex be op es ge rc lr lw el (by first | exact h_ex | assumption | omega) (by first | exact h_be | assumption | omega) (by first | exact h_op | assumption | omega) (by first | exact h_el | assumption | omega) (by first | exact h_es | assumption | omega) (by first | exact h_ex14 | assumption | omega) 15 0 (ahZ ey ex y) 0 (ahZ ey ex y) (zabs (maF ey el ex es y)) (by first | exact h_a | assumption | omega) (by first | exact h_f | assumption | omega) (by first | exact h_sm | assumption | omega) (by first | exact h_tk | assumption | omega) (by first | exact h_far | assumption | omega) (by omega)) (va_cwS 6 hts gX6_howLikely_X6_farChoices rfl rfl rfl (by decide +kernel) ⟨Nat.le_of_ble_eq_true rfl, Nat.le_of_ble_eq_true rfl⟩) (xpS hPc hK) rfl rfl hl.1 rfl (lv_room (Nat.le_of_ble_eq_true rfl)) dX6_howLikely_54 ⟨Nat.le_of_ble_eq_true rfl, Nat.le_of_ble_eq_true rfl⟩) ?_
  have hfc := fcN_in el ex es (ahZ ey ex y) (zabs (maF ey el ex es y)) (15 - 0 : Int).toNat 0 (ahZ ey ex y) 0
  rw [show (2 : Int) ^ (15 - 0 : Int).toNat = 32768 from by decide] at hfc
  generalize hg_fv9 : fcN el ex es (ahZ ey ex y) (zabs (maF ey el ex es y)) (15 - 0 : Int).toNat 0 (ahZ ey ex y) 0 = fv9 at hfc ⊢
  refine lv_ldc2 (v := lI (1000000)) hx hb hown (hts (.constantLong RX6 402 (lI (1000000))) (List.mem_of_getElem? (i := 7) (by decide +kernel))) dX6_howLikely_57 ?_
  refine xl_mul hx hb dX6_howLikely_60 ?_
  refine lv_lload hx hb dX6_howLikely_61 (lv_at hl 0 rfl) ?_
  refine xl_div hx hb dX6_howLikely_63 (by omega) ?_
  refine xi_l2i hx hb dX6_howLikely_64 ?_
  exact W.iret (v := iI ((fv9 * 1000000).tdiv (chI ex (ahZ ey ex y)))) hx hb hr (fun t_ ht_ _ => ⟨congrArg (fun z => Outcome.returned (some (Value.int (iI z)))) (show ((fv9 * 1000000).tdiv (chI ex (ahZ ey ex y))) = (hlG ey el ex es y) from by unfold hlG; rw [hg_fv9]), ht_⟩) (fun _ h9 => absurd h9 List.not_mem_nil) dX6_howLikely_65
set_option maxHeartbeats 1000000 in
set_option maxRecDepth 100000 in
theorem c_X6_changed (l : Launch) (D : va_G) (cyI cyJ cyO : ClassId) (qW : Nat) (qT : Nat) (qA : Nat) (qK : Nat) (qC : Nat) (qE : Nat) (qI : Nat) (qF : Nat) (qH : Nat) (qO : Nat) (fi : Int) (qCy : Nat) (qCl : Nat) (qCb : Nat) (ex : Int) (be : Int) (op : Int) (es : Int) (ge : Int) (rc : Int) (lr : Int) (lw : Int) (ey : Int → Int) (el : Int → Int) (w : Int) (h_ex : 0 ≤ ex ∧ ex ≤ 60) (h_be : 0 ≤ be ∧ be ≤ 60) (h_op : 0 ≤ op ∧ op ≤ 60) (h_ey : ∀ j, 0 ≤ ey j ∧ ey j ≤ 59) (h_el : ∀ j, 0 ≤ el j ∧ el j ≤ 999) (h_es : 0 ≤ es ∧ es ≤ 59940) (h_w : -2147483648 ≤ w ∧ w ≤ 2147483647) : Met l yX6_changed wsX6_changed ({ frames := 18, cells := 0, slots := 0, locals := 712 }) (va_Pc [.ref qW, .int (iI (w))] (xR D vwCl [(qW, .inr (6, [.ref qT, .ref qA, .ref qK, .ref qC, .ref qE, .ref qI, .ref qF, .ref qH, .ref qO, .int (iI (fi))])), (qC, .inr (0, [.ref qCy, .ref qCl, .ref qCb, .int (iI (ex)), .int (iI (be)), .int (iI (op)), .int (iI (es)), .int (iI (ge)), .int (iI (rc)), .int (iI (lr)), .int (iI (lw))])), (qCy, .inl (cyI, 60, .inl (xA (ey)))), (qCl, .inl (cyI, 60, .inl (xA (el))))] (xT cyI cyJ cyO))) (xq (some (.int (iI (if w = 0 ∨ w = 1 then (if w = 0 then (gcF ey el ex es 60).1 else if (gcF ey el ex es 60).1 = -1 then -3 else if 14 < ex then -4 else hlG ey el ex es (gcF ey el ex es 60).1) else -2))))) 0 0 (fun _ => False) := by
  refine Met.ofW (cc := cX6_changed) (maxL := 3) (ret := (some .int)) (by decide) rfl ?_
  intro p e s m args below meth c s₁ B hml hv
  obtain ⟨rfl, hP, hK⟩ := hv
  have hx := B.exec
  have hb := B.bytes
  have hr := B.returns
  have hts := atoms_spec (ws := wsX6_changed) B.pre
  have hown : s.vm.findClass RX6 = some m.cls := findClass_of_methodNamed B.named
  have hlocks := B.notSynchronized
  have hcX0 : ∀ w ∈ wsX00, w ∈ wsX6_changed := fun _ h => List.mem_cons_of_mem _ (List.mem_append_right _ h)
  have hcX6 : ∀ w ∈ wsX60, w ∈ wsX6_changed := fun _ h => List.mem_cons_of_mem _ (List.mem_append_left _ (List.mem_append_right _ h))
  have hP : va_P D vwCl [(qW, .inr (6, [.ref qT, .ref qA, .ref qK, .ref qC, .ref qE, .ref qI, .ref qF, .ref qH, .ref qO, .int (iI (fi))])), (qC, .inr (0, [.ref qCy, .ref qCl, .ref qCb, .int (iI (ex)), .int (iI (be)), .int (iI (op)), .int (iI (es)), .int (iI (ge)), .int (iI (rc)), .int (iI (lr)), .int (iI (lw))])), (qCy, .inl (cyI, 60, .inl (xA (ey)))), (qCl, .inl (cyI, 60, .inl (xA (el))))] s.heap := hP
  have hl := lv_entry ([.ref qW, .int (iI (w))]) (n := 3) (Nat.le_of_ble_eq_true rfl)
  rw [lg_entry_eq]
  generalize (lg_sl ([.ref qW, .int (iI (w))]) ++ List.replicate (3 - (lg_sl ([.ref qW, .int (iI (w))])).length) Slot.unset).toArray = ls at hl ⊢
  have hl : lv_has ls 3 [(0, .ref qW), (1, .int (iI (w)))] := hl
  refine lv_iload_n hx hb dX6_changed_0 rfl (lv_at hl 1 rfl) ?_
  have hPc := hP.sub (ws' := []) [] rfl
  refine xc_i (va_runS (As := [.int (iI (w))]) (rest := []) ⟨hx, hb, hml, hown, hts⟩ (c_X6_isEither l D cyI cyJ cyO w (by first | exact h_y | assumption | omega)) (va_cwS 1 hts gX6_changed_X6_isEither rfl rfl rfl (by decide +kernel) ⟨Nat.le_of_ble_eq_true rfl, Nat.le_of_ble_eq_true rfl⟩) (xpS hPc hK) rfl rfl hl.1 rfl (lv_room (Nat.le_of_ble_eq_true rfl)) dX6_changed_1 ⟨Nat.le_of_ble_eq_true rfl, Nat.le_of_ble_eq_true rfl⟩) ?_
  refine xb_if_neB (tgt := 10) hx hb dX6_changed_4 (by decide) (fun h_1 => ?_) (fun h_1 => ?_)
  · refine lv_aload_n hx hb dX6_changed_10 rfl (lv_at hl 0 rfl) ?_
    have hPc := hP.sub (ws' := [(qW, .inr (6, [.ref qT, .ref qA, .ref qK, .ref qC, .ref qE, .ref qI, .ref qF, .ref qH, .ref qO, .int (iI (fi))])), (qC, .inr (0, [.ref qCy, .ref qCl, .ref qCb, .int (iI (ex)), .int (iI (be)), .int (iI (op)), .int (iI (es)), .int (iI (ge)), .int (iI (rc)), .int (iI (lr)), .int (iI (lw))])), (qCy, .inl (cyI, 60, .inl (xA (ey)))), (qCl, .inl (cyI, 60, .inl (xA (el))))]) [0, 1, 2, 3] rfl
    refine xc_i (va_runV (As := []) (rest := []) ⟨hx, hb, hml, hown, hts⟩ (c_X6_greatestChange l D cyI cyJ cyO qW qT qA qK qC qE qI qF qH qO fi qCy qCl qCb ex be op es ge rc lr lw ey el (by first | exact h_ex | assumption | omega) (by first | exact h_be | assumption | omega) (by first | exact h_op | assumption | omega) (by first | exact h_ey | assumption | omega) (by first | exact h_el | assumption | omega) (by first | exact h_es | assumption | omega)) (cwV 0 hts gX6_changed_X6_greatestChange rfl rfl rfl (by decide +kernel) ⟨Nat.le_of_ble_eq_true rfl, Nat.le_of_ble_eq_true rfl⟩) (xpV hPc hK (ci := 6) (q0 := 0) (q := (RX6, TX6, 10)) rfl rfl) rfl rfl hl.1 rfl (lv_room (Nat.le_of_ble_eq_true rfl)) dX6_changed_11 ⟨Nat.le_of_ble_eq_true rfl, Nat.le_of_ble_eq_true rfl⟩) ?_
    have hgc := gcF_in (ey := ey) (el := el) (ex := ex) (es := es)
    refine lv_istore_n (lv' := [(2, .int (iI ((gcF ey el ex es 60).1))), (0, .ref qW), (1, .int (iI (w)))]) hx hb dX6_changed_14 rfl hl (by decide) rfl (fun ls hl => ?_)
    refine lv_iload_n hx hb dX6_changed_15 rfl (lv_at hl 2 rfl) ?_
    refine xb_if_ne (tgt := 21) hx hb dX6_changed_16 (by decide) (by omega) (fun h_2 => ?_) (fun h_2 => ?_)
    · refine lv_iload_n hx hb dX6_changed_21 rfl (lv_at hl 0 rfl) ?_
      refine xi_const hx hb dX6_changed_22 ?_
      refine xb_icmp_ne (tgt := 29) hx hb dX6_changed_23 (by decide) (by omega) (fun h_3 => ?_) (fun h_3 => ?_)
      · refine lv_aload_n hx hb dX6_changed_29 rfl (lv_at hl 1 rfl) ?_
        refine va_get (D := D) (ci := 6) (C := RX6) (T := TX6) (N := 10) hx hb hts hcX6 hown hK hP 0 rfl rfl 3 (by decide) (hts (.fieldLink RX6 33 "WallMarks" "counted" "LWallMarks$Counted;") (List.mem_of_getElem? (i := 1) (by decide +kernel))) (fun _ h9 => h9) rfl dX6_changed_30 ?_
        refine va_get (D := D) (ci := 0) (C := RX0) (T := TX0) (N := 11) hx hb hts hcX0 hown hK hP 1 rfl rfl 3 (by decide) (hts (.fieldLink RX6 170 "WallMarks$Counted" "exacts" "I") (List.mem_of_getElem? (i := 2) (by decide +kernel))) (fun _ h9 => h9) rfl dX6_changed_33 ?_
        refine xi_bipush hx hb dX6_changed_36 (by decide +kernel) ?_
        refine xb_icmp_le (tgt := 46) hx hb dX6_changed_38 (by decide) (by omega) (fun h_4 => ?_) (fun h_4 => ?_)
        · refine lv_aload_n hx hb dX6_changed_46 rfl (lv_at hl 1 rfl) ?_
          refine lv_iload_n hx hb dX6_changed_47 rfl (lv_at hl 0 rfl) ?_
          have hPc := hP.sub (ws' := [(qW, .inr (6, [.ref qT, .ref qA, .ref qK, .ref qC, .ref qE, .ref qI, .ref qF, .ref qH, .ref qO, .int (iI (fi))])), (qC, .inr (0, [.ref qCy, .ref qCl, .ref qCb, .int (iI (ex)), .int (iI (be)), .int (iI (op)), .int (iI (es)), .int (iI (ge)), .int (iI (rc)), .int (iI (lr)), .int (iI (lw))])), (qCy, .inl (cyI, 60, .inl (xA (ey)))), (qCl, .inl (cyI, 60, .inl (xA (el))))]) [0, 1, 2, 3] rfl
          refine xc_i (va_runV (As := [.int (iI ((gcF ey el ex es 60).1))]) (rest := []) ⟨hx, hb, hml, hown, hts⟩ (c_X6_howLikely l D cyI cyJ cyO qW qT qA qK qC qE qI qF qH qO fi qCy qCl qCb ex be op es ge rc lr lw ey el ((gcF ey el ex es 60).1) (by first | exact h_ex | assumption | omega) (by first | exact h_be | assumption | omega) (by first | exact h_op | assumption | omega) (by first | exact h_ey | assumption | omega) (by first | exact h_el | assumption | omega) (by first | exact h_es | assumption | omega) (by first | exact h_ex14 | assumption | omega) (by exact gcF_mb (by assumption)) (by omega)) (cwV 1 hts gX6_changed_X6_howLikely rfl rfl rfl (by decide +kernel) ⟨Nat.le_of_ble_eq_true rfl, Nat.le_of_ble_eq_true rfl⟩) (xpV hPc hK (ci := 6) (q0 := 0) (q := (RX6, TX6, 10)) rfl rfl) rfl rfl hl.1 rfl (lv_room (Nat.le_of_ble_eq_true rfl)) dX6_changed_48 ⟨Nat.le_of_ble_eq_true rfl, Nat.le_of_ble_eq_true rfl⟩) ?_
          exact W.iret (v := iI (hlG ey el ex es ((gcF ey el ex es 60).1))) hx hb hr (fun t_ ht_ _ => ⟨congrArg (fun z => Outcome.returned (some (Value.int (iI z)))) (show (hlG ey el ex es ((gcF ey el ex es 60).1)) = (if w = 0 ∨ w = 1 then (if w = 0 then (gcF ey el ex es 60).1 else if (gcF ey el ex es 60).1 = -1 then -3 else if 14 < ex then -4 else hlG ey el ex es (gcF ey el ex es 60).1) else -2) from by first | rfl | ((repeat (first | rw [if_pos (by omega)] | rw [if_neg (by omega)])); done) | ((repeat (first | rw [if_pos (by omega)] | rw [if_neg (by omega)])); rfl) | omega), ht_⟩) (fun _ h9 => absurd h9 List.not_mem_nil) dX6_changed_51
        · refine xi_bipush hx hb dX6_changed_41 (by decide +kernel) ?_
          refine lv_goto (tgt := 51) hx hb dX6_changed_43 (by decide) ?_
          exact W.iret (v := iI (-4)) hx hb hr (fun t_ ht_ _ => ⟨congrArg (fun z => Outcome.returned (some (Value.int (iI z)))) (show (-4) = (if w = 0 ∨ w = 1 then (if w = 0 then (gcF ey el ex es 60).1 else if (gcF ey el ex es 60).1 = -1 then -3 else if 14 < ex then -4 else hlG ey el ex es (gcF ey el ex es 60).1) else -2) from by first | rfl | ((repeat (first | rw [if_pos (by omega)] | rw [if_neg (by omega)])); done) | ((repeat (first | rw [if_pos (by omega)] | rw [if_neg (by omega)])); rfl) | omega), ht_⟩) (fun _ h9 => absurd h9 List.not_mem_nil) dX6_changed_51
      · refine xi_bipush hx hb dX6_changed_26 (by decide +kernel) ?_
        exact W.iret (v := iI (-3)) hx hb hr (fun t_ ht_ _ => ⟨congrArg (fun z => Outcome.returned (some (Value.int (iI z)))) (show (-3) = (if w = 0 ∨ w = 1 then (if w = 0 then (gcF ey el ex es 60).1 else if (gcF ey el ex es 60).1 = -1 then -3 else if 14 < ex then -4 else hlG ey el ex es (gcF ey el ex es 60).1) else -2) from by first | rfl | ((repeat (first | rw [if_pos (by omega)] | rw [if_neg (by omega)])); done) | ((repeat (first | rw [if_pos (by omega)] | rw [if_neg (by omega)])); rfl) | omega), ht_⟩) (fun _ h9 => absurd h9 List.not_mem_nil) dX6_changed_28
    · refine lv_iload_n hx hb dX6_changed_19 rfl (lv_at hl 0 rfl) ?_
      exact W.iret (v := iI ((gcF ey el ex es 60).1)) hx hb hr (fun t_ ht_ _ => ⟨congrArg (fun z => Outcome.returned (some (Value.int (iI z)))) (show ((gcF ey el ex es 60).1) = (if w = 0 ∨ w = 1 then (if w = 0 then (gcF ey el ex es 60).1 else if (gcF ey el ex es 60).1 = -1 then -3 else if 14 < ex then -4 else hlG ey el ex es (gcF ey el ex es 60).1) else -2) from by first | rfl | ((repeat (first | rw [if_pos (by omega)] | rw [if_neg (by omega)])); done) | ((repeat (first | rw [if_pos (by omega)] | rw [if_neg (by omega)])); rfl) | omega), ht_⟩) (fun _ h9 => absurd h9 List.not_mem_nil) dX6_changed_20
  · refine xi_bipush hx hb dX6_changed_7 (by decide +kernel) ?_
    exact W.iret (v := iI (-2)) hx hb hr (fun t_ ht_ _ => ⟨congrArg (fun z => Outcome.returned (some (Value.int (iI z)))) (show (-2) = (if w = 0 ∨ w = 1 then (if w = 0 then (gcF ey el ex es 60).1 else if (gcF ey el ex es 60).1 = -1 then -3 else if 14 < ex then -4 else hlG ey el ex es (gcF ey el ex es 60).1) else -2) from by first | rfl | ((repeat (first | rw [if_pos (by omega)] | rw [if_neg (by omega)])); done) | ((repeat (first | rw [if_pos (by omega)] | rw [if_neg (by omega)])); rfl) | omega), ht_⟩) (fun _ h9 => absurd h9 List.not_mem_nil) dX6_changed_9
set_option maxHeartbeats 1000000 in
set_option maxRecDepth 100000 in
theorem c_X6_orderByRecords (l : Launch) (D : va_G) (cyI cyJ cyO : ClassId) (qW : Nat) (qT : Nat) (qA : Nat) (qK : Nat) (qC : Nat) (qE : Nat) (qI : Nat) (qF : Nat) (qH : Nat) (qO : Nat) (fi : Int) (od : Int → Int) (sz : Nat) (w : Int) (h_w : 0 ≤ w ∧ w ≤ 12) : Met l yX6_orderByRecords wsX6_orderByRecords ({ frames := 1, cells := 0, slots := 0, locals := 24 }) (va_Pc [.ref qW, .int (iI (w))] (xM D vwCl [(qW, .inr (6, [.ref qT, .ref qA, .ref qK, .ref qC, .ref qE, .ref qI, .ref qF, .ref qH, .ref qO, .int (iI (fi))])), (qO, .inl (cyJ, 13, .inr (.inl (xL (od)))))] (xT cyI cyJ cyO) sz)) (va_Qv (fun (u : (Int → Int)) => (∀ j, 0 ≤ j → j ≤ 12 → u j = stI w j)) (xB D vwCl (xT cyI cyJ cyO) (va_A [(qW, .inr (6, [.ref qT, .ref qA, .ref qK, .ref qC, .ref qE, .ref qI, .ref qF, .ref qH, .ref qO, .int (iI (fi))])), (qO, .inl (cyJ, 13, .inr (.inl (xL (od)))))] sz) (fun u : (Int → Int) => [(qW, .inr (6, [.ref qT, .ref qA, .ref qK, .ref qC, .ref qE, .ref qI, .ref qF, .ref qH, .ref qO, .int (iI (fi))])), (qO, .inl (cyJ, 13, .inr (.inl (xL (u)))))])) (va_A [(qW, .inr (6, [.ref qT, .ref qA, .ref qK, .ref qC, .ref qE, .ref qI, .ref qF, .ref qH, .ref qO, .int (iI (fi))])), (qO, .inl (cyJ, 13, .inr (.inl (xL (od)))))] sz)) 0 0 (va_A [(qW, .inr (6, [.ref qT, .ref qA, .ref qK, .ref qC, .ref qE, .ref qI, .ref qF, .ref qH, .ref qO, .int (iI (fi))])), (qO, .inl (cyJ, 13, .inr (.inl (xL (od)))))] sz) := by
  refine Met.ofW (cc := cX6_orderByRecords) (maxL := 4) (ret := none) (by decide) rfl ?_
  intro p e s m args below meth c s₁ B hml hv
  obtain ⟨rfl, hsz, hP, hK, hD0⟩ := hv
  have hx := B.exec
  have hb := B.bytes
  have hr := B.returns
  have hts := atoms_spec (ws := wsX6_orderByRecords) B.pre
  have hown : s.vm.findClass RX6 = some m.cls := findClass_of_methodNamed B.named
  have hlocks := B.notSynchronized
  have hcX6 : ∀ w ∈ wsX60, w ∈ wsX6_orderByRecords := fun _ h => List.mem_cons_of_mem _ (List.mem_append_right _ h)
  subst hsz
  have hD := hD0.self (sz := s.heap.size)
  generalize hAe : va_A [(qW, .inr (6, [.ref qT, .ref qA, .ref qK, .ref qC, .ref qE, .ref qI, .ref qF, .ref qH, .ref qO, .int (iI (fi))])), (qO, .inl (cyJ, 13, .inr (.inl (xL (od)))))] s.heap.size = A at hD ⊢
  have hA : ∀ q : Nat, s.heap.size ≤ q → A q := fun q h => by rw [← hAe]; exact Or.inr h
  have hS : va_S A s.heap s.heap [] := va_S.rf
  have hP : va_P D vwCl [(qW, .inr (6, [.ref qT, .ref qA, .ref qK, .ref qC, .ref qE, .ref qI, .ref qF, .ref qH, .ref qO, .int (iI (fi))])), (qO, .inl (cyJ, 13, .inr (.inl (xL (od)))))] s.heap := hP
  have hl := lv_entry ([.ref qW, .int (iI (w))]) (n := 4) (Nat.le_of_ble_eq_true rfl)
  rw [lg_entry_eq]
  generalize (lg_sl ([.ref qW, .int (iI (w))]) ++ List.replicate (4 - (lg_sl ([.ref qW, .int (iI (w))])).length) Slot.unset).toArray = ls at hl ⊢
  have hl : lv_has ls 4 [(0, .ref qW), (1, .int (iI (w)))] := hl
  have cut_17 : ∀ (N_ : Nat) (n : Int) (o : Int → Int) (hn : 1 ≤ n ∧ n ≤ w + 1) (ho : ∀ j, 0 ≤ j → j ≤ 12 → o j = stI (n - 1) j) (hN_ : (w + 1 - n).toNat < N_) (H : Heap) (locs : List Loc) (hP : va_P D vwCl [(qW, .inr (6, [.ref qT, .ref qA, .ref qK, .ref qC, .ref qE, .ref qI, .ref qF, .ref qH, .ref qO, .int (iI (fi))])), (qO, .inl (cyJ, 13, .inr (.inl (xL (o)))))] H) (hD : va_D A [(qW, .inr (6, [.ref qT, .ref qA, .ref qK, .ref qC, .ref qE, .ref qI, .ref qF, .ref qH, .ref qO, .int (iI (fi))])), (qO, .inl (cyJ, 13, .inr (.inl (xL (o)))))]) (hS : va_S A s.heap H locs) (ls : Array Slot) (hl : lv_has ls 4 [(0, .ref qW), (1, .int (iI (w))), (2, .int (iI (n)))]), W p l e (headSpec wsX6_orderByRecords ({ frames := 1, cells := 0, slots := 0, locals := 24 })).room s m ([.ref qW, .int (iI (w))] : List Value).toArray below meth c H locs 0 0 (MQ below (va_Qv (fun (u : (Int → Int)) => (∀ j, 0 ≤ j → j ≤ 12 → u j = stI w j)) (xB D vwCl (xT cyI cyJ cyO) A (fun u : (Int → Int) => [(qW, .inr (6, [.ref qT, .ref qA, .ref qK, .ref qC, .ref qE, .ref qI, .ref qF, .ref qH, .ref qO, .int (iI (fi))])), (qO, .inl (cyJ, 13, .inr (.inl (xL (u)))))])) A) ([.ref qW, .int (iI (w))] : List Value).toArray s 0 0 A) (F0 m 17 ls []) := by
    intro N_
    induction N_ with
    | zero => intro n o hn ho hN_ H locs hP hD hS ls hl; exact absurd hN_ (Nat.not_lt_zero _)
    | succ N_ ih_17 =>
      intro n o hn ho hN_ H locs hP hD hS ls hl
      have cut_33 : ∀ (N_ : Nat) (k : Int) (o1 : Int → Int) (hk : 0 ≤ k ∧ k ≤ n) (hnw : n ≤ w) (hob : obI n k o1) (hN_ : (k - 0).toNat < N_) (H : Heap) (locs : List Loc) (hP : va_P D vwCl [(qW, .inr (6, [.ref qT, .ref qA, .ref qK, .ref qC, .ref qE, .ref qI, .ref qF, .ref qH, .ref qO, .int (iI (fi))])), (qO, .inl (cyJ, 13, .inr (.inl (xL (o1)))))] H) (hD : va_D A [(qW, .inr (6, [.ref qT, .ref qA, .ref qK, .ref qC, .ref qE, .ref qI, .ref qF, .ref qH, .ref qO, .int (iI (fi))])), (qO, .inl (cyJ, 13, .inr (.inl (xL (o1)))))]) (hS : va_S A s.heap H locs) (ls : Array Slot) (hl : lv_has ls 4 [(0, .ref qW), (1, .int (iI (w))), (2, .int (iI (n))), (3, .int (iI (k)))]), W p l e (headSpec wsX6_orderByRecords ({ frames := 1, cells := 0, slots := 0, locals := 24 })).room s m ([.ref qW, .int (iI (w))] : List Value).toArray below meth c H locs 0 0 (MQ below (va_Qv (fun (u : (Int → Int)) => (∀ j, 0 ≤ j → j ≤ 12 → u j = stI w j)) (xB D vwCl (xT cyI cyJ cyO) A (fun u : (Int → Int) => [(qW, .inr (6, [.ref qT, .ref qA, .ref qK, .ref qC, .ref qE, .ref qI, .ref qF, .ref qH, .ref qO, .int (iI (fi))])), (qO, .inl (cyJ, 13, .inr (.inl (xL (u)))))])) A) ([.ref qW, .int (iI (w))] : List Value).toArray s 0 0 A) (F0 m 33 ls []) := by
        intro N_
        induction N_ with
        | zero => intro k o1 hk hnw hob hN_ H locs hP hD hS ls hl; exact absurd hN_ (Nat.not_lt_zero _)
        | succ N_ ih_33 =>
          intro k o1 hk hnw hob hN_ H locs hP hD hS ls hl
          refine lv_iload_n hx hb dX6_orderByRecords_33 rfl (lv_at hl 3 rfl) ?_
          refine xb_if_le (tgt := 69) hx hb dX6_orderByRecords_34 (by decide) (by omega) (fun h_1 => ?_) (fun h_1 => ?_)
          · refine lv_aload_n hx hb dX6_orderByRecords_69 rfl (lv_at hl 0 rfl) ?_
            refine va_get (D := D) (ci := 6) (C := RX6) (T := TX6) (N := 10) hx hb hts hcX6 hown hK hP 0 rfl rfl 8 (by decide) (hts (.fieldLink RX6 72 "WallMarks" "orders" "[J") (List.mem_of_getElem? (i := 1) (by decide +kernel))) (fun _ h9 => h9) rfl dX6_orderByRecords_70 ?_
            refine xi_const hx hb dX6_orderByRecords_73 ?_
            refine xi_lconst0 hx hb dX6_orderByRecords_74 ?_
            refine xl_ast (D := D) hx hb hK hP hD hS 1 1 rfl rfl (by decide) (by omega) dX6_orderByRecords_75 (fun H locs hP hD hS => ?_)
            have hP : va_P D vwCl [(qW, .inr (6, [.ref qT, .ref qA, .ref qK, .ref qC, .ref qE, .ref qI, .ref qF, .ref qH, .ref qO, .int (iI (fi))])), (qO, .inl (cyJ, 13, .inr (.inl (xL (uz o1 (0) (0))))))] H := hP
            have hD : va_D A [(qW, .inr (6, [.ref qT, .ref qA, .ref qK, .ref qC, .ref qE, .ref qI, .ref qF, .ref qH, .ref qO, .int (iI (fi))])), (qO, .inl (cyJ, 13, .inr (.inl (xL (uz o1 (0) (0))))))] := hD
            refine xi_inc (k := 2) (lv' := [(2, .int (iI (n + 1))), (0, .ref qW), (1, .int (iI (w))), (3, .int (iI (k)))]) hx hb dX6_orderByRecords_76 hl rfl (by decide) rfl (fun ls hl => ?_)
            refine lv_goto (tgt := 17) hx hb dX6_orderByRecords_79 (by decide) ?_
            exact ih_17 (n + 1) (uz o1 (0) (0)) (by first | assumption | omega | (constructor <;> omega)) (by first | exact ob_0 hz9 | (rw [show n + 1 - 1 = n from by omega]; have hk0 : k = 0 := (by omega); rw [hk0] at hob; exact obI_z (by omega) hob)) (by omega) _ _ hP hD hS ls (lv_sub hl [1, 2, 0] rfl)
          · refine lv_aload_n hx hb dX6_orderByRecords_37 rfl (lv_at hl 0 rfl) ?_
            refine va_get (D := D) (ci := 6) (C := RX6) (T := TX6) (N := 10) hx hb hts hcX6 hown hK hP 0 rfl rfl 8 (by decide) (hts (.fieldLink RX6 72 "WallMarks" "orders" "[J") (List.mem_of_getElem? (i := 1) (by decide +kernel))) (fun _ h9 => h9) rfl dX6_orderByRecords_38 ?_
            refine lv_iload_n hx hb dX6_orderByRecords_41 rfl (lv_at hl 3 rfl) ?_
            refine lv_aload_n hx hb dX6_orderByRecords_42 rfl (lv_at hl 0 rfl) ?_
            refine va_get (D := D) (ci := 6) (C := RX6) (T := TX6) (N := 10) hx hb hts hcX6 hown hK hP 0 rfl rfl 8 (by decide) (hts (.fieldLink RX6 72 "WallMarks" "orders" "[J") (List.mem_of_getElem? (i := 1) (by decide +kernel))) (fun _ h9 => h9) rfl dX6_orderByRecords_43 ?_
            refine lv_iload_n hx hb dX6_orderByRecords_46 rfl (lv_at hl 3 rfl) ?_
            refine xi_const hx hb dX6_orderByRecords_47 ?_
            refine xi_sub hx hb dX6_orderByRecords_48 ?_
            refine xl_ald (D := D) hx hb hK hP 1 1 rfl rfl (by decide) (by omega) dX6_orderByRecords_49 ?_
            refine lv_iload_n hx hb dX6_orderByRecords_50 rfl (lv_at hl 2 rfl) ?_
            refine xi_const hx hb dX6_orderByRecords_51 ?_
            refine xi_sub hx hb dX6_orderByRecords_52 ?_
            refine xi_i2l hx hb dX6_orderByRecords_53 (by omega) ?_
            refine lv_aload_n hx hb dX6_orderByRecords_54 rfl (lv_at hl 0 rfl) ?_
            refine va_get (D := D) (ci := 6) (C := RX6) (T := TX6) (N := 10) hx hb hts hcX6 hown hK hP 0 rfl rfl 8 (by decide) (hts (.fieldLink RX6 72 "WallMarks" "orders" "[J") (List.mem_of_getElem? (i := 1) (by decide +kernel))) (fun _ h9 => h9) rfl dX6_orderByRecords_55 ?_
            refine lv_iload_n hx hb dX6_orderByRecords_58 rfl (lv_at hl 3 rfl) ?_
            refine xl_ald (D := D) hx hb hK hP 1 1 rfl rfl (by decide) (by omega) dX6_orderByRecords_59 ?_
            refine xl_mul hx hb dX6_orderByRecords_60 ?_
            refine xl_add hx hb dX6_orderByRecords_61 ?_
            refine xl_ast (D := D) hx hb hK hP hD hS 1 1 rfl rfl (by decide) (by omega) dX6_orderByRecords_62 (fun H locs hP hD hS => ?_)
            have hP : va_P D vwCl [(qW, .inr (6, [.ref qT, .ref qA, .ref qK, .ref qC, .ref qE, .ref qI, .ref qF, .ref qH, .ref qO, .int (iI (fi))])), (qO, .inl (cyJ, 13, .inr (.inl (xL (uz o1 (k) ((o1 (k - 1)) + ((n - 1) * (o1 (k)))))))))] H := hP
            have hD : va_D A [(qW, .inr (6, [.ref qT, .ref qA, .ref qK, .ref qC, .ref qE, .ref qI, .ref qF, .ref qH, .ref qO, .int (iI (fi))])), (qO, .inl (cyJ, 13, .inr (.inl (xL (uz o1 (k) ((o1 (k - 1)) + ((n - 1) * (o1 (k)))))))))] := hD
            refine xi_inc (k := 3) (lv' := [(3, .int (iI (k + (-1)))), (0, .ref qW), (1, .int (iI (w))), (2, .int (iI (n)))]) hx hb dX6_orderByRecords_63 hl rfl (by decide) rfl (fun ls hl => ?_)
            refine lv_goto (tgt := 33) hx hb dX6_orderByRecords_66 (by decide) ?_
            exact ih_33 (k + (-1)) (uz o1 (k) ((o1 (k - 1)) + ((n - 1) * (o1 (k))))) (by first | assumption | omega | (constructor <;> omega)) (by first | assumption | omega | (constructor <;> omega)) (by first | exact obI_b (by omega) ho | exact obI_s (by omega) (by omega) hob) (by omega) _ _ hP hD hS ls (lv_sub hl [1, 2, 3, 0] rfl)
      refine lv_iload_n hx hb dX6_orderByRecords_17 rfl (lv_at hl 2 rfl) ?_
      refine lv_iload_n hx hb dX6_orderByRecords_18 rfl (lv_at hl 1 rfl) ?_
      refine xb_icmp_gt (tgt := 82) hx hb dX6_orderByRecords_19 (by decide) (by omega) (fun h_2 => ?_) (fun h_2 => ?_)
      · exact W.vret hx hb hr (fun t_ ht_ hW_ => ⟨⟨(o), rfl, (show ∀ j, 0 ≤ j → j ≤ 12 → o j = stI w j from by have hn9 : n - 1 = w := (by omega); rw [hn9] at ho; exact ho), by rw [ht_]; exact hP, va_K.moved hW_.alike hK, hD⟩, hS.F ht_⟩) hS.2.2 dX6_orderByRecords_82
      · refine lv_iload_n hx hb dX6_orderByRecords_22 rfl (lv_at hl 2 rfl) ?_
        refine lv_aload_n hx hb dX6_orderByRecords_23 rfl (lv_at hl 0 rfl) ?_
        refine va_get (D := D) (ci := 6) (C := RX6) (T := TX6) (N := 10) hx hb hts hcX6 hown hK hP 0 rfl rfl 8 (by decide) (hts (.fieldLink RX6 72 "WallMarks" "orders" "[J") (List.mem_of_getElem? (i := 1) (by decide +kernel))) (fun _ h9 => h9) rfl dX6_orderByRecords_24 ?_
        refine va_alen (D := D) (v := iI 13) hx hb hK hP 1 1 rfl rfl rfl dX6_orderByRecords_27 ?_
        refine xb_icmp_ge (tgt := 82) hx hb dX6_orderByRecords_28 (by decide) (by omega) (fun h_3 => by exfalso; omega) (fun h_3 => ?_)
        refine lv_iload_n hx hb dX6_orderByRecords_31 rfl (lv_at hl 2 rfl) ?_
        refine lv_istore_n (lv' := [(3, .int (iI (n))), (0, .ref qW), (1, .int (iI (w))), (2, .int (iI (n)))]) hx hb dX6_orderByRecords_32 rfl hl (by decide) rfl (fun ls hl => ?_)
        exact cut_33 ((n - 0 : Int).toNat + 1) (n) (o) (by first | assumption | omega | (constructor <;> omega)) (by first | assumption | omega | (constructor <;> omega)) (by first | exact obI_b (by omega) ho | exact obI_s (by omega) (by omega) hob) (by exact Nat.lt_succ_self _) _ _ hP hD hS ls (lv_sub hl [1, 2, 3, 0] rfl)
  refine lv_aload_n hx hb dX6_orderByRecords_0 rfl (lv_at hl 0 rfl) ?_
  refine va_get (D := D) (ci := 6) (C := RX6) (T := TX6) (N := 10) hx hb hts hcX6 hown hK hP 0 rfl rfl 8 (by decide) (hts (.fieldLink RX6 72 "WallMarks" "orders" "[J") (List.mem_of_getElem? (i := 1) (by decide +kernel))) (fun _ h9 => h9) rfl dX6_orderByRecords_1 ?_
  refine xi_lconst0 hx hb dX6_orderByRecords_4 ?_
  have hPc := hP.sub (ws' := [(qO, .inl (cyJ, 13, .inr (.inl (xL (od)))))]) [1] rfl
  have hDc := hD.sub (ws' := [(qO, .inl (cyJ, 13, .inr (.inl (xL (od)))))]) [1] (by decide) rfl
  have hFc := va_free (wc := [(qO, .inl (cyJ, 13, .inr (.inl (xL (od)))))]) hD hS hA [1] rfl
  refine va_callv (va_runS (As := [.ref qO, .long (lI (0))]) (rest := []) ⟨hx, hb, hml, hown, hts⟩ (c_J7_fill_d0a16 l D cyI cyJ cyO qO od s.heap.size 0) (va_cwS 2 hts gX6_orderByRecords_J7_fill_d0a16 rfl rfl rfl (by decide +kernel) ⟨Nat.le_of_ble_eq_true rfl, Nat.le_of_ble_eq_true rfl⟩) (xpSM hPc hK hDc) rfl rfl hl.1 rfl (lv_room (Nat.le_of_ble_eq_true rfl)) dX6_orderByRecords_5 ⟨Nat.le_of_ble_eq_true rfl, Nat.le_of_ble_eq_true rfl⟩) hS (fun q _ h => hFc q h) hFc (fun u_4 t_ H1 locs ht_ hvm hw hB hz1 hk1 hS => ?_)
  obtain ⟨z_5, rfl⟩ : ∃ z, z = u_4 := ⟨_, rfl⟩
  obtain ⟨hP1, hK1, hD1⟩ := hB
  rw [ht_] at hP1
  obtain ⟨hP, hD⟩ := xj (wc := [(qO, .inl (cyJ, 13, .inr (.inl (xL (od)))))]) (w1 := [(qO, .inl (cyJ, 13, .inr (.inl (xL (z_5)))))]) hP hD [1] rfl rfl hk1 hP1
  generalize H1 = H at hP hS ⊢
  have hP : va_P D vwCl [(qW, .inr (6, [.ref qT, .ref qA, .ref qK, .ref qC, .ref qE, .ref qI, .ref qF, .ref qH, .ref qO, .int (iI (fi))])), (qO, .inl (cyJ, 13, .inr (.inl (xL (z_5)))))] H := hP
  have hD : va_D A [(qW, .inr (6, [.ref qT, .ref qA, .ref qK, .ref qC, .ref qE, .ref qI, .ref qF, .ref qH, .ref qO, .int (iI (fi))])), (qO, .inl (cyJ, 13, .inr (.inl (xL (z_5)))))] := hD
  have hw_6 : (∀ j, 0 ≤ j → j < 13 → z_5 j = 0) := hw
  have hz9 := hw_6
  refine lv_aload_n hx hb dX6_orderByRecords_8 rfl (lv_at hl 0 rfl) ?_
  refine va_get (D := D) (ci := 6) (C := RX6) (T := TX6) (N := 10) hx hb hts hcX6 hown hK hP 0 rfl rfl 8 (by decide) (hts (.fieldLink RX6 72 "WallMarks" "orders" "[J") (List.mem_of_getElem? (i := 1) (by decide +kernel))) (fun _ h9 => h9) rfl dX6_orderByRecords_9 ?_
  refine xi_const hx hb dX6_orderByRecords_12 ?_
  refine xi_lconst1 hx hb dX6_orderByRecords_13 ?_
  refine xl_ast (D := D) hx hb hK hP hD hS 1 1 rfl rfl (by decide) (by omega) dX6_orderByRecords_14 (fun H locs hP hD hS => ?_)
  have hP : va_P D vwCl [(qW, .inr (6, [.ref qT, .ref qA, .ref qK, .ref qC, .ref qE, .ref qI, .ref qF, .ref qH, .ref qO, .int (iI (fi))])), (qO, .inl (cyJ, 13, .inr (.inl (xL (uz z_5 (0) (1))))))] H := hP
  have hD : va_D A [(qW, .inr (6, [.ref qT, .ref qA, .ref qK, .ref qC, .ref qE, .ref qI, .ref qF, .ref qH, .ref qO, .int (iI (fi))])), (qO, .inl (cyJ, 13, .inr (.inl (xL (uz z_5 (0) (1))))))] := hD
  refine xi_const hx hb dX6_orderByRecords_15 ?_
  refine lv_istore_n (lv' := [(2, .int (iI (1))), (0, .ref qW), (1, .int (iI (w)))]) hx hb dX6_orderByRecords_16 rfl hl (by decide) rfl (fun ls hl => ?_)
  exact cut_17 ((w + 1 - 1 : Int).toNat + 1) (1) (uz z_5 (0) (1)) (by first | assumption | omega | (constructor <;> omega)) (by first | exact ob_0 hz9 | (rw [show n + 1 - 1 = n from by omega]; have hk0 : k = 0 := (by omega); rw [hk0] at hob; exact obI_z (by omega) hob)) (by exact Nat.lt_succ_self _) _ _ hP hD hS ls (lv_sub hl [1, 2, 0] rfl)
set_option maxHeartbeats 1000000 in
set_option maxRecDepth 100000 in
theorem c_X6_should (l : Launch) (D : va_G) (cyI cyJ cyO : ClassId) (qW : Nat) (qT : Nat) (qA : Nat) (qK : Nat) (qC : Nat) (qE : Nat) (qI : Nat) (qF : Nat) (qH : Nat) (qO : Nat) (fi : Int) (qCy : Nat) (qCl : Nat) (qCb : Nat) (ex : Int) (be : Int) (op : Int) (es : Int) (ge : Int) (rc : Int) (lr : Int) (lw : Int) (od : Int → Int) (sz : Nat) (h_ex : 0 ≤ ex ∧ ex ≤ 60) (h_ex12 : ex ≤ 12) (h_rc : 0 ≤ rc ∧ rc ≤ 60) : Met l yX6_should wsX6_should ({ frames := 2, cells := 0, slots := 0, locals := 47 }) (va_Pc [.ref qW] (xM D vwCl [(qW, .inr (6, [.ref qT, .ref qA, .ref qK, .ref qC, .ref qE, .ref qI, .ref qF, .ref qH, .ref qO, .int (iI (fi))])), (qC, .inr (0, [.ref qCy, .ref qCl, .ref qCb, .int (iI (ex)), .int (iI (be)), .int (iI (op)), .int (iI (es)), .int (iI (ge)), .int (iI (rc)), .int (iI (lr)), .int (iI (lw))])), (qO, .inl (cyJ, 13, .inr (.inl (xL (od)))))] (xT cyI cyJ cyO) sz)) (va_Qi (fun (r : Int32) (u : (Int → Int)) => r = iI (shF ex rc) ∧ True) (xB D vwCl (xT cyI cyJ cyO) (va_A [(qW, .inr (6, [.ref qT, .ref qA, .ref qK, .ref qC, .ref qE, .ref qI, .ref qF, .ref qH, .ref qO, .int (iI (fi))])), (qC, .inr (0, [.ref qCy, .ref qCl, .ref qCb, .int (iI (ex)), .int (iI (be)), .int (iI (op)), .int (iI (es)), .int (iI (ge)), .int (iI (rc)), .int (iI (lr)), .int (iI (lw))])), (qO, .inl (cyJ, 13, .inr (.inl (xL (od)))))] sz) (fun u : (Int → Int) => [(qW, .inr (6, [.ref qT, .ref qA, .ref qK, .ref qC, .ref qE, .ref qI, .ref qF, .ref qH, .ref qO, .int (iI (fi))])), (qC, .inr (0, [.ref qCy, .ref qCl, .ref qCb, .int (iI (ex)), .int (iI (be)), .int (iI (op)), .int (iI (es)), .int (iI (ge)), .int (iI (rc)), .int (iI (lr)), .int (iI (lw))])), (qO, .inl (cyJ, 13, .inr (.inl (xL (u)))))])) (va_A [(qW, .inr (6, [.ref qT, .ref qA, .ref qK, .ref qC, .ref qE, .ref qI, .ref qF, .ref qH, .ref qO, .int (iI (fi))])), (qC, .inr (0, [.ref qCy, .ref qCl, .ref qCb, .int (iI (ex)), .int (iI (be)), .int (iI (op)), .int (iI (es)), .int (iI (ge)), .int (iI (rc)), .int (iI (lr)), .int (iI (lw))])), (qO, .inl (cyJ, 13, .inr (.inl (xL (od)))))] sz)) 0 0 (va_A [(qW, .inr (6, [.ref qT, .ref qA, .ref qK, .ref qC, .ref qE, .ref qI, .ref qF, .ref qH, .ref qO, .int (iI (fi))])), (qC, .inr (0, [.ref qCy, .ref qCl, .ref qCb, .int (iI (ex)), .int (iI (be)), .int (iI (op)), .int (iI (es)), .int (iI (ge)), .int (iI (rc)), .int (iI (lr)), .int (iI (lw))])), (qO, .inl (cyJ, 13, .inr (.inl (xL (od)))))] sz) := by
  refine Met.ofW (cc := cX6_should) (maxL := 7) (ret := (some .int)) (by decide) rfl ?_
  intro p e s m args below meth c s₁ B hml hv
  obtain ⟨rfl, hsz, hP, hK, hD0⟩ := hv
  have hx := B.exec
  have hb := B.bytes
  have hr := B.returns
  have hts := atoms_spec (ws := wsX6_should) B.pre
  have hown : s.vm.findClass RX6 = some m.cls := findClass_of_methodNamed B.named
  have hlocks := B.notSynchronized
  have hcX0 : ∀ w ∈ wsX00, w ∈ wsX6_should := fun _ h => List.mem_cons_of_mem _ (List.mem_append_right _ h)
  have hcX6 : ∀ w ∈ wsX60, w ∈ wsX6_should := fun _ h => List.mem_cons_of_mem _ (List.mem_append_left _ (List.mem_append_right _ h))
  subst hsz
  have hD := hD0.self (sz := s.heap.size)
  generalize hAe : va_A [(qW, .inr (6, [.ref qT, .ref qA, .ref qK, .ref qC, .ref qE, .ref qI, .ref qF, .ref qH, .ref qO, .int (iI (fi))])), (qC, .inr (0, [.ref qCy, .ref qCl, .ref qCb, .int (iI (ex)), .int (iI (be)), .int (iI (op)), .int (iI (es)), .int (iI (ge)), .int (iI (rc)), .int (iI (lr)), .int (iI (lw))])), (qO, .inl (cyJ, 13, .inr (.inl (xL (od)))))] s.heap.size = A at hD ⊢
  have hA : ∀ q : Nat, s.heap.size ≤ q → A q := fun q h => by rw [← hAe]; exact Or.inr h
  have hS : va_S A s.heap s.heap [] := va_S.rf
  have hP : va_P D vwCl [(qW, .inr (6, [.ref qT, .ref qA, .ref qK, .ref qC, .ref qE, .ref qI, .ref qF, .ref qH, .ref qO, .int (iI (fi))])), (qC, .inr (0, [.ref qCy, .ref qCl, .ref qCb, .int (iI (ex)), .int (iI (be)), .int (iI (op)), .int (iI (es)), .int (iI (ge)), .int (iI (rc)), .int (iI (lr)), .int (iI (lw))])), (qO, .inl (cyJ, 13, .inr (.inl (xL (od)))))] s.heap := hP
  have hl := lv_entry ([.ref qW]) (n := 7) (Nat.le_of_ble_eq_true rfl)
  rw [lg_entry_eq]
  generalize (lg_sl ([.ref qW]) ++ List.replicate (7 - (lg_sl ([.ref qW])).length) Slot.unset).toArray = ls at hl ⊢
  have hl : lv_has ls 7 [(0, .ref qW)] := hl
  have cut_21 : ∀ (N_ : Nat) (i : Int) (s1 : Int) (s2 : Int) (o : Int → Int) (hi : 0 ≤ i ∧ i ≤ ex + 1) (hz9 : ∀ j, 0 ≤ j → j ≤ 12 → o j = stI ex j) (hs1 : s1 = sumZ (fun k => if rc ≤ k then stI ex k else 0) i) (hs2 : s2 = sumZ (stI ex) i) (hN_ : (ex + 1 - i).toNat < N_) (H : Heap) (locs : List Loc) (hP : va_P D vwCl [(qW, .inr (6, [.ref qT, .ref qA, .ref qK, .ref qC, .ref qE, .ref qI, .ref qF, .ref qH, .ref qO, .int (iI (fi))])), (qC, .inr (0, [.ref qCy, .ref qCl, .ref qCb, .int (iI (ex)), .int (iI (be)), .int (iI (op)), .int (iI (es)), .int (iI (ge)), .int (iI (rc)), .int (iI (lr)), .int (iI (lw))])), (qO, .inl (cyJ, 13, .inr (.inl (xL (o)))))] H) (hD : va_D A [(qW, .inr (6, [.ref qT, .ref qA, .ref qK, .ref qC, .ref qE, .ref qI, .ref qF, .ref qH, .ref qO, .int (iI (fi))])), (qC, .inr (0, [.ref qCy, .ref qCl, .ref qCb, .int (iI (ex)), .int (iI (be)), .int (iI (op)), .int (iI (es)), .int (iI (ge)), .int (iI (rc)), .int (iI (lr)), .int (iI (lw))])), (qO, .inl (cyJ, 13, .inr (.inl (xL (o)))))]) (hS : va_S A s.heap H locs) (ls : Array Slot) (hl : lv_has ls 7 [(0, .ref qW), (1, .int (iI (ex))), (2, .long (lI (s1))), (4, .long (lI (s2))), (6, .int (iI (i)))]), W p l e (headSpec wsX6_should ({ frames := 2, cells := 0, slots := 0, locals := 47 })).room s m ([.ref qW] : List Value).toArray below meth c H locs 0 0 (MQ below (va_Qi (fun (r : Int32) (u : (Int → Int)) => r = iI (shF ex rc) ∧ True) (xB D vwCl (xT cyI cyJ cyO) A (fun u : (Int → Int) => [(qW, .inr (6, [.ref qT, .ref qA, .ref qK, .ref qC, .ref qE, .ref qI, .ref qF, .ref qH, .ref qO, .int (iI (fi))])), (qC, .inr (0, [.ref qCy, .ref qCl, .ref qCb, .int (iI (ex)), .int (iI (be)), .int (iI (op)), .int (iI (es)), .int (iI (ge)), .int (iI (rc)), .int (iI (lr)), .int (iI (lw))])), (qO, .inl (cyJ, 13, .inr (.inl (xL (u)))))])) A) ([.ref qW] : List Value).toArray s 0 0 A) (F0 m 21 ls []) := by
    intro N_
    induction N_ with
    | zero => intro i s1 s2 o hi hz9 hs1 hs2 hN_ H locs hP hD hS ls hl; exact absurd hN_ (Nat.not_lt_zero _)
    | succ N_ ih_21 =>
      intro i s1 s2 o hi hz9 hs1 hs2 hN_ H locs hP hD hS ls hl
      refine lv_iload hx hb dX6_should_21 (lv_at hl 4 rfl) ?_
      refine lv_iload_n hx hb dX6_should_23 rfl (lv_at hl 1 rfl) ?_
      refine xb_icmp_gt (tgt := 77) hx hb dX6_should_24 (by decide) (by omega) (fun h_1 => ?_) (fun h_1 => ?_)
      · have hi9 : i = ex + 1 := by omega
        have hsh := shT_in (n := ex) (by omega)
        have hsa := shA_in (n := ex) (rc := rc) (by omega)
        have hs3 : s2 = shT ex := by rw [hs2, hi9]; rfl
        have hs4 : s1 = shA ex rc := by rw [hs1, hi9]; rfl
        refine lv_lload hx hb dX6_should_77 (lv_at hl 3 rfl) ?_
        refine xi_lconst0 hx hb dX6_should_79 ?_
        refine xl_if_ne (tgt := 88) hx hb dX6_should_80 dX6_should_81 (by decide) (by omega) (fun h_2 => ?_) (fun h_2 => by exfalso; omega)
        refine lv_lload_n hx hb dX6_should_88 rfl (lv_at hl 2 rfl) ?_
        refine lv_ldc2 (v := lI (1000000)) hx hb hown (hts (.constantLong RX6 402 (lI (1000000))) (List.mem_of_getElem? (i := 5) (by decide +kernel))) dX6_should_89 ?_
        refine xl_mul hx hb dX6_should_92 ?_
        refine lv_lload hx hb dX6_should_93 (lv_at hl 3 rfl) ?_
        refine xl_div hx hb dX6_should_95 (by omega) ?_
        refine xi_l2i hx hb dX6_should_96 ?_
        exact W.iret (v := iI ((s1 * 1000000).tdiv (s2))) hx hb hr (fun t_ ht_ hW_ => ⟨⟨_, (o), rfl, ⟨(congrArg iI (show ((s1 * 1000000).tdiv (s2)) = (shF ex rc) from by rw [hs4, hs3]; rfl)), trivial⟩, by rw [ht_]; exact hP, va_K.moved hW_.alike hK, hD⟩, hS.F ht_⟩) hS.2.2 dX6_should_97
      · refine lv_iload hx hb dX6_should_27 (lv_at hl 4 rfl) ?_
        refine lv_aload_n hx hb dX6_should_29 rfl (lv_at hl 0 rfl) ?_
        refine va_get (D := D) (ci := 6) (C := RX6) (T := TX6) (N := 10) hx hb hts hcX6 hown hK hP 0 rfl rfl 8 (by decide) (hts (.fieldLink RX6 72 "WallMarks" "orders" "[J") (List.mem_of_getElem? (i := 3) (by decide +kernel))) (fun _ h9 => h9) rfl dX6_should_30 ?_
        refine va_alen (D := D) (v := iI 13) hx hb hK hP 2 1 rfl rfl rfl dX6_should_33 ?_
        refine xb_icmp_ge (tgt := 77) hx hb dX6_should_34 (by decide) (by omega) (fun h_3 => by exfalso; omega) (fun h_3 => ?_)
        refine lv_lload hx hb dX6_should_37 (lv_at hl 3 rfl) ?_
        refine lv_aload_n hx hb dX6_should_39 rfl (lv_at hl 0 rfl) ?_
        refine va_get (D := D) (ci := 6) (C := RX6) (T := TX6) (N := 10) hx hb hts hcX6 hown hK hP 0 rfl rfl 8 (by decide) (hts (.fieldLink RX6 72 "WallMarks" "orders" "[J") (List.mem_of_getElem? (i := 3) (by decide +kernel))) (fun _ h9 => h9) rfl dX6_should_40 ?_
        refine lv_iload hx hb dX6_should_43 (lv_at hl 4 rfl) ?_
        have hoi := hz9 i (by omega) (by omega)
        refine xl_ald (D := D) hx hb hK hP 2 1 rfl rfl (by decide) (by omega) dX6_should_45 ?_
        refine xl_add hx hb dX6_should_46 ?_
        refine lv_lstore (lv' := [(4, .long (lI (s2 + (o (i))))), (0, .ref qW), (1, .int (iI (ex))), (2, .long (lI (s1))), (6, .int (iI (i)))]) hx hb dX6_should_47 hl (by decide) rfl (fun ls hl => ?_)
        refine lv_iload hx hb dX6_should_49 (lv_at hl 4 rfl) ?_
        refine lv_aload_n hx hb dX6_should_51 rfl (lv_at hl 1 rfl) ?_
        refine va_get (D := D) (ci := 6) (C := RX6) (T := TX6) (N := 10) hx hb hts hcX6 hown hK hP 0 rfl rfl 3 (by decide) (hts (.fieldLink RX6 33 "WallMarks" "counted" "LWallMarks$Counted;") (List.mem_of_getElem? (i := 1) (by decide +kernel))) (fun _ h9 => h9) rfl dX6_should_52 ?_
        refine va_get (D := D) (ci := 0) (C := RX0) (T := TX0) (N := 11) hx hb hts hcX0 hown hK hP 1 rfl rfl 8 (by decide) (hts (.fieldLink RX6 203 "WallMarks$Counted" "records" "I") (List.mem_of_getElem? (i := 4) (by decide +kernel))) (fun _ h9 => h9) rfl dX6_should_55 ?_
        refine xb_icmp_lt (tgt := 71) hx hb dX6_should_58 (by decide) (by omega) (fun h_4 => ?_) (fun h_4 => ?_)
        · refine xi_inc (k := 4) (lv' := [(6, .int (iI (i + 1))), (4, .long (lI (s2 + (o (i))))), (0, .ref qW), (1, .int (iI (ex))), (2, .long (lI (s1)))]) hx hb dX6_should_71 hl rfl (by decide) rfl (fun ls hl => ?_)
          refine lv_goto (tgt := 21) hx hb dX6_should_74 (by decide) ?_
          exact ih_21 (i + 1) (s1) (s2 + (o (i))) (o) (by first | assumption | omega | (constructor <;> omega)) (by first | assumption | omega | (constructor <;> omega)) (by first | rfl | (rw [sumZ_s _ (by omega), if_pos (by omega)]; omega) | (rw [sumZ_s _ (by omega), if_neg (by omega)]; omega)) (by first | rfl | (rw [sumZ_s _ (by omega)]; omega)) (by omega) _ _ hP hD hS ls (lv_sub hl [2, 3, 4, 1, 0] rfl)
        · refine lv_lload_n hx hb dX6_should_61 rfl (lv_at hl 3 rfl) ?_
          refine lv_aload_n hx hb dX6_should_62 rfl (lv_at hl 1 rfl) ?_
          refine va_get (D := D) (ci := 6) (C := RX6) (T := TX6) (N := 10) hx hb hts hcX6 hown hK hP 0 rfl rfl 8 (by decide) (hts (.fieldLink RX6 72 "WallMarks" "orders" "[J") (List.mem_of_getElem? (i := 3) (by decide +kernel))) (fun _ h9 => h9) rfl dX6_should_63 ?_
          refine lv_iload hx hb dX6_should_66 (lv_at hl 4 rfl) ?_
          refine xl_ald (D := D) hx hb hK hP 2 1 rfl rfl (by decide) (by omega) dX6_should_68 ?_
          refine xl_add hx hb dX6_should_69 ?_
          refine lv_lstore_n (lv' := [(2, .long (lI (s1 + (o (i))))), (4, .long (lI (s2 + (o (i))))), (0, .ref qW), (1, .int (iI (ex))), (6, .int (iI (i)))]) hx hb dX6_should_70 rfl hl (by decide) rfl (fun ls hl => ?_)
          refine xi_inc (k := 4) (lv' := [(6, .int (iI (i + 1))), (2, .long (lI (s1 + (o (i))))), (4, .long (lI (s2 + (o (i))))), (0, .ref qW), (1, .int (iI (ex)))]) hx hb dX6_should_71 hl rfl (by decide) rfl (fun ls hl => ?_)
          refine lv_goto (tgt := 21) hx hb dX6_should_74 (by decide) ?_
          exact ih_21 (i + 1) (s1 + (o (i))) (s2 + (o (i))) (o) (by first | assumption | omega | (constructor <;> omega)) (by first | assumption | omega | (constructor <;> omega)) (by first | rfl | (rw [sumZ_s _ (by omega), if_pos (by omega)]; omega) | (rw [sumZ_s _ (by omega), if_neg (by omega)]; omega)) (by first | rfl | (rw [sumZ_s _ (by omega)]; omega)) (by omega) _ _ hP hD hS ls (lv_sub hl [3, 4, 1, 2, 0] rfl)
  refine lv_aload_n hx hb dX6_should_0 rfl (lv_at hl 0 rfl) ?_
  refine va_get (D := D) (ci := 6) (C := RX6) (T := TX6) (N := 10) hx hb hts hcX6 hown hK hP 0 rfl rfl 3 (by decide) (hts (.fieldLink RX6 33 "WallMarks" "counted" "LWallMarks$Counted;") (List.mem_of_getElem? (i := 1) (by decide +kernel))) (fun _ h9 => h9) rfl dX6_should_1 ?_
  refine va_get (D := D) (ci := 0) (C := RX0) (T := TX0) (N := 11) hx hb hts hcX0 hown hK hP 1 rfl rfl 3 (by decide) (hts (.fieldLink RX6 170 "WallMarks$Counted" "exacts" "I") (List.mem_of_getElem? (i := 2) (by decide +kernel))) (fun _ h9 => h9) rfl dX6_should_4 ?_
  refine lv_istore_n (lv' := [(1, .int (iI (ex))), (0, .ref qW)]) hx hb dX6_should_7 rfl hl (by decide) rfl (fun ls hl => ?_)
  refine lv_aload_n hx hb dX6_should_8 rfl (lv_at hl 1 rfl) ?_
  refine lv_iload_n hx hb dX6_should_9 rfl (lv_at hl 0 rfl) ?_
  have hPc := hP.sub (ws' := [(qW, .inr (6, [.ref qT, .ref qA, .ref qK, .ref qC, .ref qE, .ref qI, .ref qF, .ref qH, .ref qO, .int (iI (fi))])), (qO, .inl (cyJ, 13, .inr (.inl (xL (od)))))]) [0, 2] rfl
  have hDc := hD.sub (ws' := [(qW, .inr (6, [.ref qT, .ref qA, .ref qK, .ref qC, .ref qE, .ref qI, .ref qF, .ref qH, .ref qO, .int (iI (fi))])), (qO, .inl (cyJ, 13, .inr (.inl (xL (od)))))]) [0, 2] (by decide) rfl
  have hFc := va_free (wc := [(qW, .inr (6, [.ref qT, .ref qA, .ref qK, .ref qC, .ref qE, .ref qI, .ref qF, .ref qH, .ref qO, .int (iI (fi))])), (qO, .inl (cyJ, 13, .inr (.inl (xL (od)))))]) hD hS hA [0, 2] rfl
  refine va_callv (va_runV (As := [.int (iI (ex))]) (rest := []) ⟨hx, hb, hml, hown, hts⟩ (c_X6_orderByRecords l D cyI cyJ cyO qW qT qA qK qC qE qI qF qH qO fi od s.heap.size ex (by first | exact h_w | assumption | omega)) (cwV 1 hts gX6_should_X6_orderByRecords rfl rfl rfl (by decide +kernel) ⟨Nat.le_of_ble_eq_true rfl, Nat.le_of_ble_eq_true rfl⟩) (xpVM hPc hK hDc (ci := 6) (q0 := 0) (q := (RX6, TX6, 10)) rfl rfl) rfl rfl hl.1 rfl (lv_room (Nat.le_of_ble_eq_true rfl)) dX6_should_10 ⟨Nat.le_of_ble_eq_true rfl, Nat.le_of_ble_eq_true rfl⟩) hS (fun q _ h => hFc q h) hFc (fun u_5 t_ H1 locs ht_ hvm hw hB hz1 hk1 hS => ?_)
  obtain ⟨o9_6, rfl⟩ : ∃ z, z = u_5 := ⟨_, rfl⟩
  obtain ⟨hP1, hK1, hD1⟩ := hB
  rw [ht_] at hP1
  obtain ⟨hP, hD⟩ := xj (wc := [(qW, .inr (6, [.ref qT, .ref qA, .ref qK, .ref qC, .ref qE, .ref qI, .ref qF, .ref qH, .ref qO, .int (iI (fi))])), (qO, .inl (cyJ, 13, .inr (.inl (xL (od)))))]) (w1 := [(qW, .inr (6, [.ref qT, .ref qA, .ref qK, .ref qC, .ref qE, .ref qI, .ref qF, .ref qH, .ref qO, .int (iI (fi))])), (qO, .inl (cyJ, 13, .inr (.inl (xL (o9_6)))))]) hP hD [0, 2] rfl rfl hk1 hP1
  generalize H1 = H at hP hS ⊢
  have hP : va_P D vwCl [(qW, .inr (6, [.ref qT, .ref qA, .ref qK, .ref qC, .ref qE, .ref qI, .ref qF, .ref qH, .ref qO, .int (iI (fi))])), (qC, .inr (0, [.ref qCy, .ref qCl, .ref qCb, .int (iI (ex)), .int (iI (be)), .int (iI (op)), .int (iI (es)), .int (iI (ge)), .int (iI (rc)), .int (iI (lr)), .int (iI (lw))])), (qO, .inl (cyJ, 13, .inr (.inl (xL (o9_6)))))] H := hP
  have hD : va_D A [(qW, .inr (6, [.ref qT, .ref qA, .ref qK, .ref qC, .ref qE, .ref qI, .ref qF, .ref qH, .ref qO, .int (iI (fi))])), (qC, .inr (0, [.ref qCy, .ref qCl, .ref qCb, .int (iI (ex)), .int (iI (be)), .int (iI (op)), .int (iI (es)), .int (iI (ge)), .int (iI (rc)), .int (iI (lr)), .int (iI (lw))])), (qO, .inl (cyJ, 13, .inr (.inl (xL (o9_6)))))] := hD
  have hw_7 : (∀ j, 0 ≤ j → j ≤ 12 → o9_6 j = stI ex j) := hw
  have hz9 := hw_7
  refine xi_lconst0 hx hb dX6_should_13 ?_
  refine lv_lstore_n (lv' := [(2, .long (lI (0))), (1, .int (iI (ex))), (0, .ref qW)]) hx hb dX6_should_14 rfl hl (by decide) rfl (fun ls hl => ?_)
  refine xi_lconst0 hx hb dX6_should_15 ?_
  refine lv_lstore (lv' := [(4, .long (lI (0))), (2, .long (lI (0))), (1, .int (iI (ex))), (0, .ref qW)]) hx hb dX6_should_16 hl (by decide) rfl (fun ls hl => ?_)
  refine xi_const hx hb dX6_should_18 ?_
  refine lv_istore (lv' := [(6, .int (iI (0))), (4, .long (lI (0))), (2, .long (lI (0))), (1, .int (iI (ex))), (0, .ref qW)]) hx hb dX6_should_19 hl (by decide) rfl (fun ls hl => ?_)
  exact cut_21 ((ex + 1 - 0 : Int).toNat + 1) (0) (0) (0) (o9_6) (by first | assumption | omega | (constructor <;> omega)) (by first | assumption | omega | (constructor <;> omega)) (by first | rfl | (rw [sumZ_s _ (by omega), if_pos (by omega)]; omega) | (rw [sumZ_s _ (by omega), if_neg (by omega)]; omega)) (by first | rfl | (rw [sumZ_s _ (by omega)]; omega)) (by exact Nat.lt_succ_self _) _ _ hP hD hS ls (lv_sub hl [4, 3, 2, 1, 0] rfl)
set_option maxHeartbeats 1000000 in
set_option maxRecDepth 100000 in
theorem c_X6_records_vR (l : Launch) (D : va_G) (cyI cyJ cyO : ClassId) (qW : Nat) (qT : Nat) (qA : Nat) (qK : Nat) (qC : Nat) (qE : Nat) (qI : Nat) (qF : Nat) (qH : Nat) (qO : Nat) (fi : Int) (qCy : Nat) (qCl : Nat) (qCb : Nat) (ex : Int) (be : Int) (op : Int) (es : Int) (ge : Int) (rc : Int) (lr : Int) (lw : Int) (w : Int) (h_ex : 0 ≤ ex ∧ ex ≤ 60) (h_be : 0 ≤ be ∧ be ≤ 60) (h_op : 0 ≤ op ∧ op ≤ 60) (h_w : -2147483648 ≤ w ∧ w ≤ 2147483647) (h_w3 : w ≠ 3) : Met l yX6_records wsX6_records ({ frames := 0, cells := 0, slots := 0, locals := 0 }) (va_Pc [.ref qW, .int (iI (w))] (xR D vwCl [(qW, .inr (6, [.ref qT, .ref qA, .ref qK, .ref qC, .ref qE, .ref qI, .ref qF, .ref qH, .ref qO, .int (iI (fi))])), (qC, .inr (0, [.ref qCy, .ref qCl, .ref qCb, .int (iI (ex)), .int (iI (be)), .int (iI (op)), .int (iI (es)), .int (iI (ge)), .int (iI (rc)), .int (iI (lr)), .int (iI (lw))]))] (xT cyI cyJ cyO))) (xq (some (.int (iI (if 0 ≤ w ∧ w ≤ 3 then (if w = 0 then rc else if w = 1 then lr else lw) else -2))))) 0 0 (fun _ => False) := by
  refine Met.ofW (cc := cX6_records) (maxL := 2) (ret := (some .int)) (by decide) rfl ?_
  intro p e s m args below meth c s₁ B hml hv
  obtain ⟨rfl, hP, hK⟩ := hv
  have hx := B.exec
  have hb := B.bytes
  have hr := B.returns
  have hts := atoms_spec (ws := wsX6_records) B.pre
  have hown : s.vm.findClass RX6 = some m.cls := findClass_of_methodNamed B.named
  have hlocks := B.notSynchronized
  have hcX0 : ∀ w ∈ wsX00, w ∈ wsX6_records := fun _ h => List.mem_cons_of_mem _ (List.mem_append_right _ h)
  have hcX6 : ∀ w ∈ wsX60, w ∈ wsX6_records := fun _ h => List.mem_cons_of_mem _ (List.mem_append_left _ (List.mem_append_right _ h))
  have hP : va_P D vwCl [(qW, .inr (6, [.ref qT, .ref qA, .ref qK, .ref qC, .ref qE, .ref qI, .ref qF, .ref qH, .ref qO, .int (iI (fi))])), (qC, .inr (0, [.ref qCy, .ref qCl, .ref qCb, .int (iI (ex)), .int (iI (be)), .int (iI (op)), .int (iI (es)), .int (iI (ge)), .int (iI (rc)), .int (iI (lr)), .int (iI (lw))]))] s.heap := hP
  have hl := lv_entry ([.ref qW, .int (iI (w))]) (n := 2) (Nat.le_of_ble_eq_true rfl)
  rw [lg_entry_eq]
  generalize (lg_sl ([.ref qW, .int (iI (w))]) ++ List.replicate (2 - (lg_sl ([.ref qW, .int (iI (w))])).length) Slot.unset).toArray = ls at hl ⊢
  have hl : lv_has ls 2 [(0, .ref qW), (1, .int (iI (w)))] := hl
  refine lv_iload_n hx hb dX6_records_0 rfl (lv_at hl 1 rfl) ?_
  refine xb_if_lt (tgt := 9) hx hb dX6_records_1 (by decide) (by omega) (fun h_1 => ?_) (fun h_1 => ?_)
  · refine xi_bipush hx hb dX6_records_9 (by decide +kernel) ?_
    exact W.iret (v := iI (-2)) hx hb hr (fun t_ ht_ _ => ⟨congrArg (fun z => Outcome.returned (some (Value.int (iI z)))) (show (-2) = (if 0 ≤ w ∧ w ≤ 3 then (if w = 0 then rc else if w = 1 then lr else lw) else -2) from by first | rfl | ((repeat (first | rw [if_pos (by omega)] | rw [if_neg (by omega)])); done) | ((repeat (first | rw [if_pos (by omega)] | rw [if_neg (by omega)])); rfl) | omega), ht_⟩) (fun _ h9 => absurd h9 List.not_mem_nil) dX6_records_11
  · refine lv_iload_n hx hb dX6_records_4 rfl (lv_at hl 1 rfl) ?_
    refine xi_const hx hb dX6_records_5 ?_
    refine xb_icmp_le (tgt := 12) hx hb dX6_records_6 (by decide) (by omega) (fun h_2 => ?_) (fun h_2 => ?_)
    · refine lv_iload_n hx hb dX6_records_12 rfl (lv_at hl 1 rfl) ?_
      refine xi_const hx hb dX6_records_13 ?_
      refine xb_icmp_ne (tgt := 39) hx hb dX6_records_14 (by decide) (by omega) (fun h_3 => ?_) (fun h_3 => by exfalso; omega)
      refine lv_iload_n hx hb dX6_records_39 rfl (lv_at hl 1 rfl) ?_
      refine xb_if_ne (tgt := 51) hx hb dX6_records_40 (by decide) (by omega) (fun h_4 => ?_) (fun h_4 => ?_)
      · refine lv_iload_n hx hb dX6_records_51 rfl (lv_at hl 1 rfl) ?_
        refine xi_const hx hb dX6_records_52 ?_
        refine xb_icmp_ne (tgt := 66) hx hb dX6_records_53 (by decide) (by omega) (fun h_5 => ?_) (fun h_5 => ?_)
        · refine lv_aload_n hx hb dX6_records_66 rfl (lv_at hl 0 rfl) ?_
          refine va_get (D := D) (ci := 6) (C := RX6) (T := TX6) (N := 10) hx hb hts hcX6 hown hK hP 0 rfl rfl 3 (by decide) (hts (.fieldLink RX6 33 "WallMarks" "counted" "LWallMarks$Counted;") (List.mem_of_getElem? (i := 1) (by decide +kernel))) (fun _ h9 => h9) rfl dX6_records_67 ?_
          refine va_get (D := D) (ci := 0) (C := RX0) (T := TX0) (N := 11) hx hb hts hcX0 hown hK hP 1 rfl rfl 10 (by decide) (hts (.fieldLink RX6 209 "WallMarks$Counted" "longestWait" "I") (List.mem_of_getElem? (i := 5) (by decide +kernel))) (fun _ h9 => h9) rfl dX6_records_70 ?_
          exact W.iret (v := iI (lw)) hx hb hr (fun t_ ht_ _ => ⟨congrArg (fun z => Outcome.returned (some (Value.int (iI z)))) (show (lw) = (if 0 ≤ w ∧ w ≤ 3 then (if w = 0 then rc else if w = 1 then lr else lw) else -2) from by first | rfl | ((repeat (first | rw [if_pos (by omega)] | rw [if_neg (by omega)])); done) | ((repeat (first | rw [if_pos (by omega)] | rw [if_neg (by omega)])); rfl) | omega), ht_⟩) (fun _ h9 => absurd h9 List.not_mem_nil) dX6_records_73
        · refine lv_aload_n hx hb dX6_records_56 rfl (lv_at hl 0 rfl) ?_
          refine va_get (D := D) (ci := 6) (C := RX6) (T := TX6) (N := 10) hx hb hts hcX6 hown hK hP 0 rfl rfl 3 (by decide) (hts (.fieldLink RX6 33 "WallMarks" "counted" "LWallMarks$Counted;") (List.mem_of_getElem? (i := 1) (by decide +kernel))) (fun _ h9 => h9) rfl dX6_records_57 ?_
          refine va_get (D := D) (ci := 0) (C := RX0) (T := TX0) (N := 11) hx hb hts hcX0 hown hK hP 1 rfl rfl 9 (by decide) (hts (.fieldLink RX6 206 "WallMarks$Counted" "lastRecord" "I") (List.mem_of_getElem? (i := 4) (by decide +kernel))) (fun _ h9 => h9) rfl dX6_records_60 ?_
          refine lv_goto (tgt := 73) hx hb dX6_records_63 (by decide) ?_
          exact W.iret (v := iI (lr)) hx hb hr (fun t_ ht_ _ => ⟨congrArg (fun z => Outcome.returned (some (Value.int (iI z)))) (show (lr) = (if 0 ≤ w ∧ w ≤ 3 then (if w = 0 then rc else if w = 1 then lr else lw) else -2) from by first | rfl | ((repeat (first | rw [if_pos (by omega)] | rw [if_neg (by omega)])); done) | ((repeat (first | rw [if_pos (by omega)] | rw [if_neg (by omega)])); rfl) | omega), ht_⟩) (fun _ h9 => absurd h9 List.not_mem_nil) dX6_records_73
      · refine lv_aload_n hx hb dX6_records_43 rfl (lv_at hl 0 rfl) ?_
        refine va_get (D := D) (ci := 6) (C := RX6) (T := TX6) (N := 10) hx hb hts hcX6 hown hK hP 0 rfl rfl 3 (by decide) (hts (.fieldLink RX6 33 "WallMarks" "counted" "LWallMarks$Counted;") (List.mem_of_getElem? (i := 1) (by decide +kernel))) (fun _ h9 => h9) rfl dX6_records_44 ?_
        refine va_get (D := D) (ci := 0) (C := RX0) (T := TX0) (N := 11) hx hb hts hcX0 hown hK hP 1 rfl rfl 8 (by decide) (hts (.fieldLink RX6 203 "WallMarks$Counted" "records" "I") (List.mem_of_getElem? (i := 3) (by decide +kernel))) (fun _ h9 => h9) rfl dX6_records_47 ?_
        exact W.iret (v := iI (rc)) hx hb hr (fun t_ ht_ _ => ⟨congrArg (fun z => Outcome.returned (some (Value.int (iI z)))) (show (rc) = (if 0 ≤ w ∧ w ≤ 3 then (if w = 0 then rc else if w = 1 then lr else lw) else -2) from by first | rfl | ((repeat (first | rw [if_pos (by omega)] | rw [if_neg (by omega)])); done) | ((repeat (first | rw [if_pos (by omega)] | rw [if_neg (by omega)])); rfl) | omega), ht_⟩) (fun _ h9 => absurd h9 List.not_mem_nil) dX6_records_50
    · refine xi_bipush hx hb dX6_records_9 (by decide +kernel) ?_
      exact W.iret (v := iI (-2)) hx hb hr (fun t_ ht_ _ => ⟨congrArg (fun z => Outcome.returned (some (Value.int (iI z)))) (show (-2) = (if 0 ≤ w ∧ w ≤ 3 then (if w = 0 then rc else if w = 1 then lr else lw) else -2) from by first | rfl | ((repeat (first | rw [if_pos (by omega)] | rw [if_neg (by omega)])); done) | ((repeat (first | rw [if_pos (by omega)] | rw [if_neg (by omega)])); rfl) | omega), ht_⟩) (fun _ h9 => absurd h9 List.not_mem_nil) dX6_records_11
set_option maxHeartbeats 1000000 in
set_option maxRecDepth 100000 in
theorem c_X6_records_vS (l : Launch) (D : va_G) (cyI cyJ cyO : ClassId) (qW : Nat) (qT : Nat) (qA : Nat) (qK : Nat) (qC : Nat) (qE : Nat) (qI : Nat) (qF : Nat) (qH : Nat) (qO : Nat) (fi : Int) (qCy : Nat) (qCl : Nat) (qCb : Nat) (ex : Int) (be : Int) (op : Int) (es : Int) (ge : Int) (rc : Int) (lr : Int) (lw : Int) (od : Int → Int) (sz : Nat) (w : Int) (h_ex : 0 ≤ ex ∧ ex ≤ 60) (h_be : 0 ≤ be ∧ be ≤ 60) (h_op : 0 ≤ op ∧ op ≤ 60) (h_rc : 0 ≤ rc ∧ rc ≤ 60) (h_w : -2147483648 ≤ w ∧ w ≤ 2147483647) (h_w3 : w = 3) (h_ex12 : ex ≤ 12) : Met l yX6_records wsX6_records ({ frames := 3, cells := 0, slots := 0, locals := 73 }) (va_Pc [.ref qW, .int (iI (w))] (xM D vwCl [(qW, .inr (6, [.ref qT, .ref qA, .ref qK, .ref qC, .ref qE, .ref qI, .ref qF, .ref qH, .ref qO, .int (iI (fi))])), (qC, .inr (0, [.ref qCy, .ref qCl, .ref qCb, .int (iI (ex)), .int (iI (be)), .int (iI (op)), .int (iI (es)), .int (iI (ge)), .int (iI (rc)), .int (iI (lr)), .int (iI (lw))])), (qO, .inl (cyJ, 13, .inr (.inl (xL (od)))))] (xT cyI cyJ cyO) sz)) (va_Qi (fun (r : Int32) (u : (Int → Int)) => r = iI (shF ex rc) ∧ True) (xB D vwCl (xT cyI cyJ cyO) (va_A [(qW, .inr (6, [.ref qT, .ref qA, .ref qK, .ref qC, .ref qE, .ref qI, .ref qF, .ref qH, .ref qO, .int (iI (fi))])), (qC, .inr (0, [.ref qCy, .ref qCl, .ref qCb, .int (iI (ex)), .int (iI (be)), .int (iI (op)), .int (iI (es)), .int (iI (ge)), .int (iI (rc)), .int (iI (lr)), .int (iI (lw))])), (qO, .inl (cyJ, 13, .inr (.inl (xL (od)))))] sz) (fun u : (Int → Int) => [(qW, .inr (6, [.ref qT, .ref qA, .ref qK, .ref qC, .ref qE, .ref qI, .ref qF, .ref qH, .ref qO, .int (iI (fi))])), (qC, .inr (0, [.ref qCy, .ref qCl, .ref qCb, .int (iI (ex)), .int (iI (be)), .int (iI (op)), .int (iI (es)), .int (iI (ge)), .int (iI (rc)), .int (iI (lr)), .int (iI (lw))])), (qO, .inl (cyJ, 13, .inr (.inl (xL (u)))))])) (va_A [(qW, .inr (6, [.ref qT, .ref qA, .ref qK, .ref qC, .ref qE, .ref qI, .ref qF, .ref qH, .ref qO, .int (iI (fi))])), (qC, .inr (0, [.ref qCy, .ref qCl, .ref qCb, .int (iI (ex)), .int (iI (be)), .int (iI (op)), .int (iI (es)), .int (iI (ge)), .int (iI (rc)), .int (iI (lr)), .int (iI (lw))])), (qO, .inl (cyJ, 13, .inr (.inl (xL (od)))))] sz)) 0 0 (va_A [(qW, .inr (6, [.ref qT, .ref qA, .ref qK, .ref qC, .ref qE, .ref qI, .ref qF, .ref qH, .ref qO, .int (iI (fi))])), (qC, .inr (0, [.ref qCy, .ref qCl, .ref qCb, .int (iI (ex)), .int (iI (be)), .int (iI (op)), .int (iI (es)), .int (iI (ge)), .int (iI (rc)), .int (iI (lr)), .int (iI (lw))])), (qO, .inl (cyJ, 13, .inr (.inl (xL (od)))))] sz) := by
  refine Met.ofW (cc := cX6_records) (maxL := 2) (ret := (some .int)) (by decide) rfl ?_
  intro p e s m args below meth c s₁ B hml hv
  obtain ⟨rfl, hsz, hP, hK, hD0⟩ := hv
  have hx := B.exec
  have hb := B.bytes
  have hr := B.returns
  have hts := atoms_spec (ws := wsX6_records) B.pre
  have hown : s.vm.findClass RX6 = some m.cls := findClass_of_methodNamed B.named
  have hlocks := B.notSynchronized
  have hcX0 : ∀ w ∈ wsX00, w ∈ wsX6_records := fun _ h => List.mem_cons_of_mem _ (List.mem_append_right _ h)
  have hcX6 : ∀ w ∈ wsX60, w ∈ wsX6_records := fun _ h => List.mem_cons_of_mem _ (List.mem_append_left _ (List.mem_append_right _ h))
  subst hsz
  have hD := hD0.self (sz := s.heap.size)
  generalize hAe : va_A [(qW, .inr (6, [.ref qT, .ref qA, .ref qK, .ref qC, .ref qE, .ref qI, .ref qF, .ref qH, .ref qO, .int (iI (fi))])), (qC, .inr (0, [.ref qCy, .ref qCl, .ref qCb, .int (iI (ex)), .int (iI (be)), .int (iI (op)), .int (iI (es)), .int (iI (ge)), .int (iI (rc)), .int (iI (lr)), .int (iI (lw))])), (qO, .inl (cyJ, 13, .inr (.inl (xL (od)))))] s.heap.size = A at hD ⊢
  have hA : ∀ q : Nat, s.heap.size ≤ q → A q := fun q h => by rw [← hAe]; exact Or.inr h
  have hS : va_S A s.heap s.heap [] := va_S.rf
  have hP : va_P D vwCl [(qW, .inr (6, [.ref qT, .ref qA, .ref qK, .ref qC, .ref qE, .ref qI, .ref qF, .ref qH, .ref qO, .int (iI (fi))])), (qC, .inr (0, [.ref qCy, .ref qCl, .ref qCb, .int (iI (ex)), .int (iI (be)), .int (iI (op)), .int (iI (es)), .int (iI (ge)), .int (iI (rc)), .int (iI (lr)), .int (iI (lw))])), (qO, .inl (cyJ, 13, .inr (.inl (xL (od)))))] s.heap := hP
  have hl := lv_entry ([.ref qW, .int (iI (w))]) (n := 2) (Nat.le_of_ble_eq_true rfl)
  rw [lg_entry_eq]
  generalize (lg_sl ([.ref qW, .int (iI (w))]) ++ List.replicate (2 - (lg_sl ([.ref qW, .int (iI (w))])).length) Slot.unset).toArray = ls at hl ⊢
  have hl : lv_has ls 2 [(0, .ref qW), (1, .int (iI (w)))] := hl
  refine lv_iload_n hx hb dX6_records_0 rfl (lv_at hl 1 rfl) ?_
  refine xb_if_lt (tgt := 9) hx hb dX6_records_1 (by decide) (by omega) (fun h_1 => by exfalso; omega) (fun h_1 => ?_)
  refine lv_iload_n hx hb dX6_records_4 rfl (lv_at hl 1 rfl) ?_
  refine xi_const hx hb dX6_records_5 ?_
  refine xb_icmp_le (tgt := 12) hx hb dX6_records_6 (by decide) (by omega) (fun h_2 => ?_) (fun h_2 => by exfalso; omega)
  refine lv_iload_n hx hb dX6_records_12 rfl (lv_at hl 1 rfl) ?_
  refine xi_const hx hb dX6_records_13 ?_
  refine xb_icmp_ne (tgt := 39) hx hb dX6_records_14 (by decide) (by omega) (fun h_3 => by exfalso; omega) (fun h_3 => ?_)
  refine lv_aload_n hx hb dX6_records_17 rfl (lv_at hl 0 rfl) ?_
  refine va_get (D := D) (ci := 6) (C := RX6) (T := TX6) (N := 10) hx hb hts hcX6 hown hK hP 0 rfl rfl 3 (by decide) (hts (.fieldLink RX6 33 "WallMarks" "counted" "LWallMarks$Counted;") (List.mem_of_getElem? (i := 1) (by decide +kernel))) (fun _ h9 => h9) rfl dX6_records_18 ?_
  refine va_get (D := D) (ci := 0) (C := RX0) (T := TX0) (N := 11) hx hb hts hcX0 hown hK hP 1 rfl rfl 3 (by decide) (hts (.fieldLink RX6 170 "WallMarks$Counted" "exacts" "I") (List.mem_of_getElem? (i := 2) (by decide +kernel))) (fun _ h9 => h9) rfl dX6_records_21 ?_
  refine xi_bipush hx hb dX6_records_24 (by decide +kernel) ?_
  refine xb_icmp_le (tgt := 34) hx hb dX6_records_26 (by decide) (by omega) (fun h_4 => ?_) (fun h_4 => by exfalso; omega)
  refine lv_aload_n hx hb dX6_records_34 rfl (lv_at hl 0 rfl) ?_
  have hPc := hP.sub (ws' := [(qW, .inr (6, [.ref qT, .ref qA, .ref qK, .ref qC, .ref qE, .ref qI, .ref qF, .ref qH, .ref qO, .int (iI (fi))])), (qC, .inr (0, [.ref qCy, .ref qCl, .ref qCb, .int (iI (ex)), .int (iI (be)), .int (iI (op)), .int (iI (es)), .int (iI (ge)), .int (iI (rc)), .int (iI (lr)), .int (iI (lw))])), (qO, .inl (cyJ, 13, .inr (.inl (xL (od)))))]) [0, 1, 2] rfl
  have hDc := hD.sub (ws' := [(qW, .inr (6, [.ref qT, .ref qA, .ref qK, .ref qC, .ref qE, .ref qI, .ref qF, .ref qH, .ref qO, .int (iI (fi))])), (qC, .inr (0, [.ref qCy, .ref qCl, .ref qCb, .int (iI (ex)), .int (iI (be)), .int (iI (op)), .int (iI (es)), .int (iI (ge)), .int (iI (rc)), .int (iI (lr)), .int (iI (lw))])), (qO, .inl (cyJ, 13, .inr (.inl (xL (od)))))]) [0, 1, 2] (by decide) rfl
  have hFc := va_free (wc := [(qW, .inr (6, [.ref qT, .ref qA, .ref qK, .ref qC, .ref qE, .ref qI, .ref qF, .ref qH, .ref qO, .int (iI (fi))])), (qC, .inr (0, [.ref qCy, .ref qCl, .ref qCb, .int (iI (ex)), .int (iI (be)), .int (iI (op)), .int (iI (es)), .int (iI (ge)), .int (iI (rc)), .int (iI (lr)), .int (iI (lw))])), (qO, .inl (cyJ, 13, .inr (.inl (xL (od)))))]) hD hS hA [0, 1, 2] rfl
  refine va_calli (va_runV (As := []) (rest := []) ⟨hx, hb, hml, hown, hts⟩ (c_X6_should l D cyI cyJ cyO qW qT qA qK qC qE qI qF qH qO fi qCy qCl qCb ex be op es ge rc lr lw od s.heap.size (by first | exact h_ex | assumption | omega) (by first | exact h_ex12 | assumption | omega) (by first | exact h_rc | assumption | omega)) (cwV 0 hts gX6_records_X6_should rfl rfl rfl (by decide +kernel) ⟨Nat.le_of_ble_eq_true rfl, Nat.le_of_ble_eq_true rfl⟩) (xpVM hPc hK hDc (ci := 6) (q0 := 0) (q := (RX6, TX6, 10)) rfl rfl) rfl rfl hl.1 rfl (lv_room (Nat.le_of_ble_eq_true rfl)) dX6_records_35 ⟨Nat.le_of_ble_eq_true rfl, Nat.le_of_ble_eq_true rfl⟩) hS (fun q _ h => hFc q h) hFc (fun r_ u_5 t_ H1 locs ht_ hvm hw hB hz1 hk1 hS => ?_)
  obtain ⟨o9_6, rfl⟩ : ∃ z, z = u_5 := ⟨_, rfl⟩
  obtain ⟨hP1, hK1, hD1⟩ := hB
  rw [ht_] at hP1
  obtain ⟨hP, hD⟩ := xj (wc := [(qW, .inr (6, [.ref qT, .ref qA, .ref qK, .ref qC, .ref qE, .ref qI, .ref qF, .ref qH, .ref qO, .int (iI (fi))])), (qC, .inr (0, [.ref qCy, .ref qCl, .ref qCb, .int (iI (ex)), .int (iI (be)), .int (iI (op)), .int (iI (es)), .int (iI (ge)), .int (iI (rc)), .int (iI (lr)), .int (iI (lw))])), (qO, .inl (cyJ, 13, .inr (.inl (xL (od)))))]) (w1 := [(qW, .inr (6, [.ref qT, .ref qA, .ref qK, .ref qC, .ref qE, .ref qI, .ref qF, .ref qH, .ref qO, .int (iI (fi))])), (qC, .inr (0, [.ref qCy, .ref qCl, .ref qCb, .int (iI (ex)), .int (iI (be)), .int (iI (op)), .int (iI (es)), .int (iI (ge)), .int (iI (rc)), .int (iI (lr)), .int (iI (lw))])), (qO, .inl (cyJ, 13, .inr (.inl (xL (o9_6)))))]) hP hD [0, 1, 2] rfl rfl hk1 hP1
  generalize H1 = H at hP hS ⊢
  have hP : va_P D vwCl [(qW, .inr (6, [.ref qT, .ref qA, .ref qK, .ref qC, .ref qE, .ref qI, .ref qF, .ref qH, .ref qO, .int (iI (fi))])), (qC, .inr (0, [.ref qCy, .ref qCl, .ref qCb, .int (iI (ex)), .int (iI (be)), .int (iI (op)), .int (iI (es)), .int (iI (ge)), .int (iI (rc)), .int (iI (lr)), .int (iI (lw))])), (qO, .inl (cyJ, 13, .inr (.inl (xL (o9_6)))))] H := hP
  have hD : va_D A [(qW, .inr (6, [.ref qT, .ref qA, .ref qK, .ref qC, .ref qE, .ref qI, .ref qF, .ref qH, .ref qO, .int (iI (fi))])), (qC, .inr (0, [.ref qCy, .ref qCl, .ref qCb, .int (iI (ex)), .int (iI (be)), .int (iI (op)), .int (iI (es)), .int (iI (ge)), .int (iI (rc)), .int (iI (lr)), .int (iI (lw))])), (qO, .inl (cyJ, 13, .inr (.inl (xL (o9_6)))))] := hD
  obtain ⟨hre, hw_7⟩ := hw
  have hw_7 : True := hw_7
  rw [show r_ = iI (shF ex rc) from hre]
  exact W.iret (v := iI (shF ex rc)) hx hb hr (fun t_ ht_ hW_ => ⟨⟨_, (o9_6), rfl, ⟨rfl, trivial⟩, by rw [ht_]; exact hP, va_K.moved hW_.alike hK, hD⟩, hS.F ht_⟩) hS.2.2 dX6_records_38
set_option maxHeartbeats 1000000 in
set_option maxRecDepth 100000 in
theorem c_X6_records_vF (l : Launch) (D : va_G) (cyI cyJ cyO : ClassId) (qW : Nat) (qT : Nat) (qA : Nat) (qK : Nat) (qC : Nat) (qE : Nat) (qI : Nat) (qF : Nat) (qH : Nat) (qO : Nat) (fi : Int) (qCy : Nat) (qCl : Nat) (qCb : Nat) (ex : Int) (be : Int) (op : Int) (es : Int) (ge : Int) (rc : Int) (lr : Int) (lw : Int) (w : Int) (h_ex : 0 ≤ ex ∧ ex ≤ 60) (h_be : 0 ≤ be ∧ be ≤ 60) (h_op : 0 ≤ op ∧ op ≤ 60) (h_w : -2147483648 ≤ w ∧ w ≤ 2147483647) (h_w3 : w = 3) (h_ex12 : ¬ ex ≤ 12) : Met l yX6_records wsX6_records ({ frames := 0, cells := 0, slots := 0, locals := 0 }) (va_Pc [.ref qW, .int (iI (w))] (xR D vwCl [(qW, .inr (6, [.ref qT, .ref qA, .ref qK, .ref qC, .ref qE, .ref qI, .ref qF, .ref qH, .ref qO, .int (iI (fi))])), (qC, .inr (0, [.ref qCy, .ref qCl, .ref qCb, .int (iI (ex)), .int (iI (be)), .int (iI (op)), .int (iI (es)), .int (iI (ge)), .int (iI (rc)), .int (iI (lr)), .int (iI (lw))]))] (xT cyI cyJ cyO))) (xq (some (.int (iI (-4))))) 0 0 (fun _ => False) := by
  refine Met.ofW (cc := cX6_records) (maxL := 2) (ret := (some .int)) (by decide) rfl ?_
  intro p e s m args below meth c s₁ B hml hv
  obtain ⟨rfl, hP, hK⟩ := hv
  have hx := B.exec
  have hb := B.bytes
  have hr := B.returns
  have hts := atoms_spec (ws := wsX6_records) B.pre
  have hown : s.vm.findClass RX6 = some m.cls := findClass_of_methodNamed B.named
  have hlocks := B.notSynchronized
  have hcX0 : ∀ w ∈ wsX00, w ∈ wsX6_records := fun _ h => List.mem_cons_of_mem _ (List.mem_append_right _ h)
  have hcX6 : ∀ w ∈ wsX60, w ∈ wsX6_records := fun _ h => List.mem_cons_of_mem _ (List.mem_append_left _ (List.mem_append_right _ h))
  have hP : va_P D vwCl [(qW, .inr (6, [.ref qT, .ref qA, .ref qK, .ref qC, .ref qE, .ref qI, .ref qF, .ref qH, .ref qO, .int (iI (fi))])), (qC, .inr (0, [.ref qCy, .ref qCl, .ref qCb, .int (iI (ex)), .int (iI (be)), .int (iI (op)), .int (iI (es)), .int (iI (ge)), .int (iI (rc)), .int (iI (lr)), .int (iI (lw))]))] s.heap := hP
  have hl := lv_entry ([.ref qW, .int (iI (w))]) (n := 2) (Nat.le_of_ble_eq_true rfl)
  rw [lg_entry_eq]
  generalize (lg_sl ([.ref qW, .int (iI (w))]) ++ List.replicate (2 - (lg_sl ([.ref qW, .int (iI (w))])).length) Slot.unset).toArray = ls at hl ⊢
  have hl : lv_has ls 2 [(0, .ref qW), (1, .int (iI (w)))] := hl
  refine lv_iload_n hx hb dX6_records_0 rfl (lv_at hl 1 rfl) ?_
  refine xb_if_lt (tgt := 9) hx hb dX6_records_1 (by decide) (by omega) (fun h_1 => by exfalso; omega) (fun h_1 => ?_)
  refine lv_iload_n hx hb dX6_records_4 rfl (lv_at hl 1 rfl) ?_
  refine xi_const hx hb dX6_records_5 ?_
  refine xb_icmp_le (tgt := 12) hx hb dX6_records_6 (by decide) (by omega) (fun h_2 => ?_) (fun h_2 => by exfalso; omega)
  refine lv_iload_n hx hb dX6_records_12 rfl (lv_at hl 1 rfl) ?_
  refine xi_const hx hb dX6_records_13 ?_
  refine xb_icmp_ne (tgt := 39) hx hb dX6_records_14 (by decide) (by omega) (fun h_3 => by exfalso; omega) (fun h_3 => ?_)
  refine lv_aload_n hx hb dX6_records_17 rfl (lv_at hl 0 rfl) ?_
  refine va_get (D := D) (ci := 6) (C := RX6) (T := TX6) (N := 10) hx hb hts hcX6 hown hK hP 0 rfl rfl 3 (by decide) (hts (.fieldLink RX6 33 "WallMarks" "counted" "LWallMarks$Counted;") (List.mem_of_getElem? (i := 1) (by decide +kernel))) (fun _ h9 => h9) rfl dX6_records_18 ?_
  refine va_get (D := D) (ci := 0) (C := RX0) (T := TX0) (N := 11) hx hb hts hcX0 hown hK hP 1 rfl rfl 3 (by decide) (hts (.fieldLink RX6 170 "WallMarks$Counted" "exacts" "I") (List.mem_of_getElem? (i := 2) (by decide +kernel))) (fun _ h9 => h9) rfl dX6_records_21 ?_
  refine xi_bipush hx hb dX6_records_24 (by decide +kernel) ?_
  refine xb_icmp_le (tgt := 34) hx hb dX6_records_26 (by decide) (by omega) (fun h_4 => by exfalso; omega) (fun h_4 => ?_)
  refine xi_bipush hx hb dX6_records_29 (by decide +kernel) ?_
  refine lv_goto (tgt := 38) hx hb dX6_records_31 (by decide) ?_
  exact W.iret (v := iI (-4)) hx hb hr (fun t_ ht_ _ => ⟨congrArg (fun z => Outcome.returned (some (Value.int (iI z)))) rfl, ht_⟩) (fun _ h9 => absurd h9 List.not_mem_nil) dX6_records_38
