set_option maxHeartbeats 1000000 in
set_option maxRecDepth 100000 in
theorem c_X6_flow_vB (l : Launch) (D : va_G) (cyI cyJ cyO : ClassId) (qW : Nat) (qT : Nat) (qA : Nat) (qK : Nat) (qC : Nat) (qE : Nat) (qI : Nat) (qF : Nat) (qH : Nat) (qO : Nat) (fi : Int) (x : Int) (w : Int) (h_x : -2147483648 ≤ x ∧ x ≤ 2147483647) (h_w : -2147483648 ≤ w ∧ w ≤ 2147483647) (h_ok : ¬ ((0 ≤ x ∧ x ≤ 999) ∧ (w = 0 ∨ w = 1))) : Met l yX6_flow wsX6_flow ({ frames := 1, cells := 0, slots := 0, locals := 20 }) (va_Pc [.ref qW, .int (iI (x)), .int (iI (w))] (xR D vwCl [(qW, .inr (6, [.ref qT, .ref qA, .ref qK, .ref qC, .ref qE, .ref qI, .ref qF, .ref qH, .ref qO, .int (iI (fi))]))] (xT cyI cyJ cyO))) (xq (some (.long (lI (-9223372036854775806))))) 0 0 (fun _ => False) := by
  refine Met.ofW (cc := cX6_flow) (maxL := 4) (ret := (some .long)) (by decide) rfl ?_
  intro p e s m args below meth c s₁ B hml hv
  obtain ⟨rfl, hP, hK⟩ := hv
  have hx := B.exec
  have hb := B.bytes
  have hr := B.returns
  have hts := atoms_spec (ws := wsX6_flow) B.pre
  have hown : s.vm.findClass RX6 = some m.cls := findClass_of_methodNamed B.named
  have hlocks := B.notSynchronized
  have hP : va_P D vwCl [(qW, .inr (6, [.ref qT, .ref qA, .ref qK, .ref qC, .ref qE, .ref qI, .ref qF, .ref qH, .ref qO, .int (iI (fi))]))] s.heap := hP
  have hl := lv_entry ([.ref qW, .int (iI (x)), .int (iI (w))]) (n := 4) (Nat.le_of_ble_eq_true rfl)
  rw [lg_entry_eq]
  generalize (lg_sl ([.ref qW, .int (iI (x)), .int (iI (w))]) ++ List.replicate (4 - (lg_sl ([.ref qW, .int (iI (x)), .int (iI (w))])).length) Slot.unset).toArray = ls at hl ⊢
  have hl : lv_has ls 4 [(0, .ref qW), (1, .int (iI (x))), (2, .int (iI (w)))] := hl
  refine lv_iload_n hx hb dX6_flow_0 rfl (lv_at hl 1 rfl) ?_
  have hPc := hP.sub (ws' := []) [] rfl
  refine xc_i (va_runS (As := [.int (iI (x))]) (rest := []) ⟨hx, hb, hml, hown, hts⟩ (c_X6_isLevel l D cyI cyJ cyO x (by first | exact h_y | assumption | omega)) (va_cwS 1 hts gX6_flow_X6_isLevel rfl rfl rfl (by decide +kernel) ⟨Nat.le_of_ble_eq_true rfl, Nat.le_of_ble_eq_true rfl⟩) (xpS hPc hK) rfl rfl hl.1 rfl (lv_room (Nat.le_of_ble_eq_true rfl)) dX6_flow_1 ⟨Nat.le_of_ble_eq_true rfl, Nat.le_of_ble_eq_true rfl⟩) ?_
  refine xb_if_eqB (tgt := 14) hx hb dX6_flow_4 (by decide) (fun h_1 => ?_) (fun h_1 => ?_)
  · refine xi_bipush hx hb dX6_flow_14 (by decide +kernel) ?_
    have hPc := hP.sub (ws' := []) [] rfl
    refine xc_l (va_runS (As := [.int (iI (-2))]) (rest := []) ⟨hx, hb, hml, hown, hts⟩ (c_X6_longRefusal l D cyI cyJ cyO (-2) (by first | exact h_x | assumption | omega)) (va_cwS 1 hts gX6_flow_X6_longRefusal rfl rfl rfl (by decide +kernel) ⟨Nat.le_of_ble_eq_true rfl, Nat.le_of_ble_eq_true rfl⟩) (xpS hPc hK) rfl rfl hl.1 rfl (lv_room (Nat.le_of_ble_eq_true rfl)) dX6_flow_16 ⟨Nat.le_of_ble_eq_true rfl, Nat.le_of_ble_eq_true rfl⟩) ?_
    exact W.lret (v := lI (-9223372036854775808 - (-2))) hx hb hr (fun t_ ht_ _ => ⟨congrArg (fun z => Outcome.returned (some (Value.long (lI z)))) (show (-9223372036854775808 - (-2)) = (-9223372036854775806) from by first | rfl | omega), ht_⟩) (fun _ h9 => absurd h9 List.not_mem_nil) dX6_flow_19
  · refine lv_iload_n hx hb dX6_flow_7 rfl (lv_at hl 2 rfl) ?_
    have hPc := hP.sub (ws' := []) [] rfl
    refine xc_i (va_runS (As := [.int (iI (w))]) (rest := []) ⟨hx, hb, hml, hown, hts⟩ (c_X6_isEither l D cyI cyJ cyO w (by first | exact h_y | assumption | omega)) (va_cwS 1 hts gX6_flow_X6_isEither rfl rfl rfl (by decide +kernel) ⟨Nat.le_of_ble_eq_true rfl, Nat.le_of_ble_eq_true rfl⟩) (xpS hPc hK) rfl rfl hl.1 rfl (lv_room (Nat.le_of_ble_eq_true rfl)) dX6_flow_8 ⟨Nat.le_of_ble_eq_true rfl, Nat.le_of_ble_eq_true rfl⟩) ?_
    refine xb_if_neB (tgt := 20) hx hb dX6_flow_11 (by decide) (fun h_2 => by exfalso; omega) (fun h_2 => ?_)
    refine xi_bipush hx hb dX6_flow_14 (by decide +kernel) ?_
    have hPc := hP.sub (ws' := []) [] rfl
    refine xc_l (va_runS (As := [.int (iI (-2))]) (rest := []) ⟨hx, hb, hml, hown, hts⟩ (c_X6_longRefusal l D cyI cyJ cyO (-2) (by first | exact h_x | assumption | omega)) (va_cwS 1 hts gX6_flow_X6_longRefusal rfl rfl rfl (by decide +kernel) ⟨Nat.le_of_ble_eq_true rfl, Nat.le_of_ble_eq_true rfl⟩) (xpS hPc hK) rfl rfl hl.1 rfl (lv_room (Nat.le_of_ble_eq_true rfl)) dX6_flow_16 ⟨Nat.le_of_ble_eq_true rfl, Nat.le_of_ble_eq_true rfl⟩) ?_
    exact W.lret (v := lI (-9223372036854775808 - (-2))) hx hb hr (fun t_ ht_ _ => ⟨congrArg (fun z => Outcome.returned (some (Value.long (lI z)))) (show (-9223372036854775808 - (-2)) = (-9223372036854775806) from by first | rfl | omega), ht_⟩) (fun _ h9 => absurd h9 List.not_mem_nil) dX6_flow_19
set_option maxHeartbeats 1000000 in
set_option maxRecDepth 100000 in
theorem c_X6_flow_vK (l : Launch) (D : va_G) (cyI cyJ cyO : ClassId) (qW : Nat) (qT : Nat) (qA : Nat) (qK : Nat) (qC : Nat) (qE : Nat) (qI : Nat) (qF : Nat) (qH : Nat) (qO : Nat) (fi : Int) (qFb : Nat) (qFl : Nat) (qFa : Nat) (fs : Int) (fp : Int) (fq : Int) (fb : Int → Int) (fl : Int → Int) (fa : Int → Int) (sz : Nat) (x : Int) (w : Int) (h_fs : 0 ≤ fs ∧ fs ≤ 60) (h_fb : ∀ j, 0 ≤ fb j ∧ fb j ≤ 255) (h_fl : ∀ j, 0 ≤ fl j ∧ fl j ≤ 999) (h_fa : ∀ j, 0 ≤ fa j ∧ fa j ≤ 999) (h_x : -2147483648 ≤ x ∧ x ≤ 2147483647) (h_w : -2147483648 ≤ w ∧ w ≤ 2147483647) (h_ok : (0 ≤ x ∧ x ≤ 999) ∧ (w = 0 ∨ w = 1)) : Met l yX6_flow wsX6_flow ({ frames := 4, cells := 0, slots := 0, locals := 90 }) (va_Pc [.ref qW, .int (iI (x)), .int (iI (w))] (xM D vwCl [(qW, .inr (6, [.ref qT, .ref qA, .ref qK, .ref qC, .ref qE, .ref qI, .ref qF, .ref qH, .ref qO, .int (iI (fi))])), (qF, .inr (1, [.ref qFb, .ref qFl, .ref qFa, .int (iI (fs)), .int (iI (fp)), .int (iI (fq))])), (qFb, .inl (cyI, 60, .inl (xA (fb)))), (qFl, .inl (cyI, 6, .inl (xA (fl)))), (qFa, .inl (cyI, 6, .inl (xA (fa))))] (xT cyI cyJ cyO) sz)) (va_Ql (fun (r : Int64) (u : Int) => r = lI (if (psF fb fs 6 0 0 fl fa).1 ≠ -1 then -9223372036854775805 else frac (liA (psF fb fs 6 0 0 fl fa).2.2.1 (psF fb fs 6 0 0 fl fa).2.2.2 (pbN (psF fb fs 6 0 0 fl fa).2.2.1 (psF fb fs 6 0 0 fl fa).2.1 x 6 0) x) (liB (psF fb fs 6 0 0 fl fa).2.2.1 (pbN (psF fb fs 6 0 0 fl fa).2.2.1 (psF fb fs 6 0 0 fl fa).2.1 x 6 0)) w) ∧ (0 ≤ u ∧ u ≤ fs) ∧ (∀ j, 0 ≤ (psF fb fs 6 0 0 fl fa).2.2.1 j ∧ (psF fb fs 6 0 0 fl fa).2.2.1 j ≤ 999) ∧ (∀ j, 0 ≤ (psF fb fs 6 0 0 fl fa).2.2.2 j ∧ (psF fb fs 6 0 0 fl fa).2.2.2 j ≤ 999)) (xB D vwCl (xT cyI cyJ cyO) (va_A [(qW, .inr (6, [.ref qT, .ref qA, .ref qK, .ref qC, .ref qE, .ref qI, .ref qF, .ref qH, .ref qO, .int (iI (fi))])), (qF, .inr (1, [.ref qFb, .ref qFl, .ref qFa, .int (iI (fs)), .int (iI (fp)), .int (iI (fq))])), (qFb, .inl (cyI, 60, .inl (xA (fb)))), (qFl, .inl (cyI, 6, .inl (xA (fl)))), (qFa, .inl (cyI, 6, .inl (xA (fa))))] sz) (fun u : Int => [(qW, .inr (6, [.ref qT, .ref qA, .ref qK, .ref qC, .ref qE, .ref qI, .ref qF, .ref qH, .ref qO, .int (iI (fi))])), (qF, .inr (1, [.ref qFb, .ref qFl, .ref qFa, .int (iI (fs)), .int (iI ((psF fb fs 6 0 0 fl fa).2.1)), .int (iI (u))])), (qFb, .inl (cyI, 60, .inl (xA (fb)))), (qFl, .inl (cyI, 6, .inl (xA ((psF fb fs 6 0 0 fl fa).2.2.1)))), (qFa, .inl (cyI, 6, .inl (xA ((psF fb fs 6 0 0 fl fa).2.2.2))))])) (va_A [(qW, .inr (6, [.ref qT, .ref qA, .ref qK, .ref qC, .ref qE, .ref qI, .ref qF, .ref qH, .ref qO, .int (iI (fi))])), (qF, .inr (1, [.ref qFb, .ref qFl, .ref qFa, .int (iI (fs)), .int (iI (fp)), .int (iI (fq))])), (qFb, .inl (cyI, 60, .inl (xA (fb)))), (qFl, .inl (cyI, 6, .inl (xA (fl)))), (qFa, .inl (cyI, 6, .inl (xA (fa))))] sz)) 0 0 (va_A [(qW, .inr (6, [.ref qT, .ref qA, .ref qK, .ref qC, .ref qE, .ref qI, .ref qF, .ref qH, .ref qO, .int (iI (fi))])), (qF, .inr (1, [.ref qFb, .ref qFl, .ref qFa, .int (iI (fs)), .int (iI (fp)), .int (iI (fq))])), (qFb, .inl (cyI, 60, .inl (xA (fb)))), (qFl, .inl (cyI, 6, .inl (xA (fl)))), (qFa, .inl (cyI, 6, .inl (xA (fa))))] sz) := by
  refine Met.ofW (cc := cX6_flow) (maxL := 4) (ret := (some .long)) (by decide) rfl ?_
  intro p e s m args below meth c s₁ B hml hv
  obtain ⟨rfl, hsz, hP, hK, hD0⟩ := hv
  have hx := B.exec
  have hb := B.bytes
  have hr := B.returns
  have hts := atoms_spec (ws := wsX6_flow) B.pre
  have hown : s.vm.findClass RX6 = some m.cls := findClass_of_methodNamed B.named
  have hlocks := B.notSynchronized
  have hcX6 : ∀ w ∈ wsX60, w ∈ wsX6_flow := fun _ h => List.mem_cons_of_mem _ (List.mem_append_left _ (List.mem_append_right _ h))
  subst hsz
  have hD := hD0.self (sz := s.heap.size)
  generalize hAe : va_A [(qW, .inr (6, [.ref qT, .ref qA, .ref qK, .ref qC, .ref qE, .ref qI, .ref qF, .ref qH, .ref qO, .int (iI (fi))])), (qF, .inr (1, [.ref qFb, .ref qFl, .ref qFa, .int (iI (fs)), .int (iI (fp)), .int (iI (fq))])), (qFb, .inl (cyI, 60, .inl (xA (fb)))), (qFl, .inl (cyI, 6, .inl (xA (fl)))), (qFa, .inl (cyI, 6, .inl (xA (fa))))] s.heap.size = A at hD ⊢
  have hA : ∀ q : Nat, s.heap.size ≤ q → A q := fun q h => by rw [← hAe]; exact Or.inr h
  have hS : va_S A s.heap s.heap [] := va_S.rf
  have hP : va_P D vwCl [(qW, .inr (6, [.ref qT, .ref qA, .ref qK, .ref qC, .ref qE, .ref qI, .ref qF, .ref qH, .ref qO, .int (iI (fi))])), (qF, .inr (1, [.ref qFb, .ref qFl, .ref qFa, .int (iI (fs)), .int (iI (fp)), .int (iI (fq))])), (qFb, .inl (cyI, 60, .inl (xA (fb)))), (qFl, .inl (cyI, 6, .inl (xA (fl)))), (qFa, .inl (cyI, 6, .inl (xA (fa))))] s.heap := hP
  have hl := lv_entry ([.ref qW, .int (iI (x)), .int (iI (w))]) (n := 4) (Nat.le_of_ble_eq_true rfl)
  rw [lg_entry_eq]
  generalize (lg_sl ([.ref qW, .int (iI (x)), .int (iI (w))]) ++ List.replicate (4 - (lg_sl ([.ref qW, .int (iI (x)), .int (iI (w))])).length) Slot.unset).toArray = ls at hl ⊢
  have hl : lv_has ls 4 [(0, .ref qW), (1, .int (iI (x))), (2, .int (iI (w)))] := hl
  refine lv_iload_n hx hb dX6_flow_0 rfl (lv_at hl 1 rfl) ?_
  have hPc := hP.sub (ws' := []) [] rfl
  refine xc_i (va_runS (As := [.int (iI (x))]) (rest := []) ⟨hx, hb, hml, hown, hts⟩ (c_X6_isLevel l D cyI cyJ cyO x (by first | exact h_y | assumption | omega)) (va_cwS 1 hts gX6_flow_X6_isLevel rfl rfl rfl (by decide +kernel) ⟨Nat.le_of_ble_eq_true rfl, Nat.le_of_ble_eq_true rfl⟩) (xpS hPc hK) rfl rfl hl.1 rfl (lv_room (Nat.le_of_ble_eq_true rfl)) dX6_flow_1 ⟨Nat.le_of_ble_eq_true rfl, Nat.le_of_ble_eq_true rfl⟩) ?_
  refine xb_if_eqB (tgt := 14) hx hb dX6_flow_4 (by decide) (fun h_1 => by exfalso; omega) (fun h_1 => ?_)
  refine lv_iload_n hx hb dX6_flow_7 rfl (lv_at hl 2 rfl) ?_
  have hPc := hP.sub (ws' := []) [] rfl
  refine xc_i (va_runS (As := [.int (iI (w))]) (rest := []) ⟨hx, hb, hml, hown, hts⟩ (c_X6_isEither l D cyI cyJ cyO w (by first | exact h_y | assumption | omega)) (va_cwS 1 hts gX6_flow_X6_isEither rfl rfl rfl (by decide +kernel) ⟨Nat.le_of_ble_eq_true rfl, Nat.le_of_ble_eq_true rfl⟩) (xpS hPc hK) rfl rfl hl.1 rfl (lv_room (Nat.le_of_ble_eq_true rfl)) dX6_flow_8 ⟨Nat.le_of_ble_eq_true rfl, Nat.le_of_ble_eq_true rfl⟩) ?_
  refine xb_if_neB (tgt := 20) hx hb dX6_flow_11 (by decide) (fun h_2 => ?_) (fun h_2 => by exfalso; omega)
  refine lv_aload_n hx hb dX6_flow_20 rfl (lv_at hl 0 rfl) ?_
  refine va_get (D := D) (ci := 6) (C := RX6) (T := TX6) (N := 10) hx hb hts hcX6 hown hK hP 0 rfl rfl 6 (by decide) (hts (.fieldLink RX6 61 "WallMarks" "flows" "LWallMarks$Flows;") (List.mem_of_getElem? (i := 1) (by decide +kernel))) (fun _ h9 => h9) rfl dX6_flow_21 ?_
  have hf_3 := psF_in (fb := fb) (fs := fs) 6 0 0 fl fa (by omega) (by omega) (by omega) (flI_0 _ _)
  have hPc := hP.sub (ws' := [(qF, .inr (1, [.ref qFb, .ref qFl, .ref qFa, .int (iI (fs)), .int (iI (fp)), .int (iI (fq))])), (qFb, .inl (cyI, 60, .inl (xA (fb)))), (qFl, .inl (cyI, 6, .inl (xA (fl)))), (qFa, .inl (cyI, 6, .inl (xA (fa))))]) [1, 2, 3, 4] rfl
  have hDc := hD.sub (ws' := [(qF, .inr (1, [.ref qFb, .ref qFl, .ref qFa, .int (iI (fs)), .int (iI (fp)), .int (iI (fq))])), (qFb, .inl (cyI, 60, .inl (xA (fb)))), (qFl, .inl (cyI, 6, .inl (xA (fl)))), (qFa, .inl (cyI, 6, .inl (xA (fa))))]) [1, 2, 3, 4] (by decide) rfl
  have hFc := va_free (wc := [(qF, .inr (1, [.ref qFb, .ref qFl, .ref qFa, .int (iI (fs)), .int (iI (fp)), .int (iI (fq))])), (qFb, .inl (cyI, 60, .inl (xA (fb)))), (qFl, .inl (cyI, 6, .inl (xA (fl)))), (qFa, .inl (cyI, 6, .inl (xA (fa))))]) hD hS hA [1, 2, 3, 4] rfl
  refine va_calli (va_runV (As := []) (rest := []) ⟨hx, hb, hml, hown, hts⟩ (c_X1_parse l D cyI cyJ cyO qF qFb qFl qFa fs fp fq fb fl fa s.heap.size (by first | exact h_fs | assumption | omega) (by first | exact h_fb | assumption | omega) (by first | exact h_fl | assumption | omega) (by first | exact h_fa | assumption | omega)) (cwV 0 hts gX6_flow_X1_parse rfl rfl rfl (by decide +kernel) ⟨Nat.le_of_ble_eq_true rfl, Nat.le_of_ble_eq_true rfl⟩) (xpVM hPc hK hDc (ci := 1) (q0 := 0) (q := (RX1, TX1, 6)) rfl rfl) rfl rfl hl.1 rfl (lv_room (Nat.le_of_ble_eq_true rfl)) dX6_flow_24 ⟨Nat.le_of_ble_eq_true rfl, Nat.le_of_ble_eq_true rfl⟩) hS (fun q _ h => hFc q h) hFc (fun r_ u_4 t_ H1 locs ht_ hvm hw hB hz1 hk1 hS => ?_)
  obtain ⟨q9_5, rfl⟩ : ∃ z, z = u_4 := ⟨_, rfl⟩
  obtain ⟨hP1, hK1, hD1⟩ := hB
  rw [ht_] at hP1
  obtain ⟨hP, hD⟩ := xj (wc := [(qF, .inr (1, [.ref qFb, .ref qFl, .ref qFa, .int (iI (fs)), .int (iI (fp)), .int (iI (fq))])), (qFb, .inl (cyI, 60, .inl (xA (fb)))), (qFl, .inl (cyI, 6, .inl (xA (fl)))), (qFa, .inl (cyI, 6, .inl (xA (fa))))]) (w1 := [(qF, .inr (1, [.ref qFb, .ref qFl, .ref qFa, .int (iI (fs)), .int (iI ((psF fb fs 6 0 0 fl fa).2.1)), .int (iI (q9_5))])), (qFb, .inl (cyI, 60, .inl (xA (fb)))), (qFl, .inl (cyI, 6, .inl (xA ((psF fb fs 6 0 0 fl fa).2.2.1)))), (qFa, .inl (cyI, 6, .inl (xA ((psF fb fs 6 0 0 fl fa).2.2.2))))]) hP hD [1, 2, 3, 4] rfl rfl hk1 hP1
  generalize H1 = H at hP hS ⊢
  have hP : va_P D vwCl [(qW, .inr (6, [.ref qT, .ref qA, .ref qK, .ref qC, .ref qE, .ref qI, .ref qF, .ref qH, .ref qO, .int (iI (fi))])), (qF, .inr (1, [.ref qFb, .ref qFl, .ref qFa, .int (iI (fs)), .int (iI ((psF fb fs 6 0 0 fl fa).2.1)), .int (iI (q9_5))])), (qFb, .inl (cyI, 60, .inl (xA (fb)))), (qFl, .inl (cyI, 6, .inl (xA ((psF fb fs 6 0 0 fl fa).2.2.1)))), (qFa, .inl (cyI, 6, .inl (xA ((psF fb fs 6 0 0 fl fa).2.2.2))))] H := hP
  have hD : va_D A [(qW, .inr (6, [.ref qT, .ref qA, .ref qK, .ref qC, .ref qE, .ref qI, .ref qF, .ref qH, .ref qO, .int (iI (fi))])), (qF, .inr (1, [.ref qFb, .ref qFl, .ref qFa, .int (iI (fs)), .int (iI ((psF fb fs 6 0 0 fl fa).2.1)), .int (iI (q9_5))])), (qFb, .inl (cyI, 60, .inl (xA (fb)))), (qFl, .inl (cyI, 6, .inl (xA ((psF fb fs 6 0 0 fl fa).2.2.1)))), (qFa, .inl (cyI, 6, .inl (xA ((psF fb fs 6 0 0 fl fa).2.2.2))))] := hD
  obtain ⟨hre, hw_6⟩ := hw
  have hw_6 : (0 ≤ q9_5 ∧ q9_5 ≤ fs) ∧ (∀ j, 0 ≤ (psF fb fs 6 0 0 fl fa).2.2.1 j ∧ (psF fb fs 6 0 0 fl fa).2.2.1 j ≤ 999) ∧ (∀ j, 0 ≤ (psF fb fs 6 0 0 fl fa).2.2.2 j ∧ (psF fb fs 6 0 0 fl fa).2.2.2 j ≤ 999) := hw_6
  rw [show r_ = iI ((psF fb fs 6 0 0 fl fa).1) from hre]
  obtain ⟨hpa1, hpa2, hpa3⟩ := hw_6
  have hps := psF_in (fb := fb) (fs := fs) 6 0 0 fl fa (by omega) (by omega) (by omega) (flI_0 _ _)
  refine xi_const hx hb dX6_flow_27 ?_
  refine xb_icmp_eq (tgt := 37) hx hb dX6_flow_28 (by decide) (by omega) (fun h_7 => ?_) (fun h_7 => ?_)
  · refine lv_aload_n hx hb dX6_flow_37 rfl (lv_at hl 0 rfl) ?_
    refine va_get (D := D) (ci := 6) (C := RX6) (T := TX6) (N := 10) hx hb hts hcX6 hown hK hP 0 rfl rfl 6 (by decide) (hts (.fieldLink RX6 61 "WallMarks" "flows" "LWallMarks$Flows;") (List.mem_of_getElem? (i := 1) (by decide +kernel))) (fun _ h9 => h9) rfl dX6_flow_38 ?_
    refine lv_iload_n hx hb dX6_flow_41 rfl (lv_at hl 1 rfl) ?_
    have hfp2 := hps.1 (by assumption)
    have hf_8 := pbN_in (fl := ((psF fb fs 6 0 0 fl fa).2.2.1)) (n := ((psF fb fs 6 0 0 fl fa).2.1)) (x := x) (by omega) 6 0 (by omega)
    have hPc := hP.sub (ws' := [(qF, .inr (1, [.ref qFb, .ref qFl, .ref qFa, .int (iI (fs)), .int (iI ((psF fb fs 6 0 0 fl fa).2.1)), .int (iI (q9_5))])), (qFl, .inl (cyI, 6, .inl (xA ((psF fb fs 6 0 0 fl fa).2.2.1))))]) [1, 3] rfl
    refine xc_i (va_runV (As := [.int (iI (x))]) (rest := []) ⟨hx, hb, hml, hown, hts⟩ (c_X1_pairBeside l D cyI cyJ cyO qF qFb qFl qFa fs ((psF fb fs 6 0 0 fl fa).2.1) q9_5 ((psF fb fs 6 0 0 fl fa).2.2.1) x (by have := hps.1 (by assumption); omega) (by exact hpa2) (by first | exact h_x | assumption | omega)) (cwV 1 hts gX6_flow_X1_pairBeside rfl rfl rfl (by decide +kernel) ⟨Nat.le_of_ble_eq_true rfl, Nat.le_of_ble_eq_true rfl⟩) (xpV hPc hK (ci := 1) (q0 := 0) (q := (RX1, TX1, 6)) rfl rfl) rfl rfl hl.1 rfl (lv_room (Nat.le_of_ble_eq_true rfl)) dX6_flow_42 ⟨Nat.le_of_ble_eq_true rfl, Nat.le_of_ble_eq_true rfl⟩) ?_
    refine lv_istore_n (lv' := [(3, .int (iI (pbN ((psF fb fs 6 0 0 fl fa).2.2.1) ((psF fb fs 6 0 0 fl fa).2.1) x 6 0))), (0, .ref qW), (1, .int (iI (x))), (2, .int (iI (w)))]) hx hb dX6_flow_45 rfl hl (by decide) rfl (fun ls hl => ?_)
    refine lv_aload_n hx hb dX6_flow_46 rfl (lv_at hl 1 rfl) ?_
    refine va_get (D := D) (ci := 6) (C := RX6) (T := TX6) (N := 10) hx hb hts hcX6 hown hK hP 0 rfl rfl 6 (by decide) (hts (.fieldLink RX6 61 "WallMarks" "flows" "LWallMarks$Flows;") (List.mem_of_getElem? (i := 1) (by decide +kernel))) (fun _ h9 => h9) rfl dX6_flow_47 ?_
    refine lv_iload_n hx hb dX6_flow_50 rfl (lv_at hl 0 rfl) ?_
    refine lv_iload_n hx hb dX6_flow_51 rfl (lv_at hl 2 rfl) ?_
    have hPc := hP.sub (ws' := [(qF, .inr (1, [.ref qFb, .ref qFl, .ref qFa, .int (iI (fs)), .int (iI ((psF fb fs 6 0 0 fl fa).2.1)), .int (iI (q9_5))])), (qFl, .inl (cyI, 6, .inl (xA ((psF fb fs 6 0 0 fl fa).2.2.1)))), (qFa, .inl (cyI, 6, .inl (xA ((psF fb fs 6 0 0 fl fa).2.2.2))))]) [1, 3, 4] rfl
    refine xc_l (va_runV (As := [.int (iI (pbN ((psF fb fs 6 0 0 fl fa).2.2.1) ((psF fb fs 6 0 0 fl fa).2.1) x 6 0)), .int (iI (x))]) (rest := []) ⟨hx, hb, hml, hown, hts⟩ (c_X1_lineAbove l D cyI cyJ cyO qF qFb qFl qFa fs ((psF fb fs 6 0 0 fl fa).2.1) q9_5 ((psF fb fs 6 0 0 fl fa).2.2.1) ((psF fb fs 6 0 0 fl fa).2.2.2) (pbN ((psF fb fs 6 0 0 fl fa).2.2.1) ((psF fb fs 6 0 0 fl fa).2.1) x 6 0) x (by exact hpa2) (by exact hpa3) (by omega) (by first | exact h_x | assumption | omega)) (cwV 2 hts gX6_flow_X1_lineAbove rfl rfl rfl (by decide +kernel) ⟨Nat.le_of_ble_eq_true rfl, Nat.le_of_ble_eq_true rfl⟩) (xpV hPc hK (ci := 1) (q0 := 0) (q := (RX1, TX1, 6)) rfl rfl) rfl rfl hl.1 rfl (lv_room (Nat.le_of_ble_eq_true rfl)) dX6_flow_52 ⟨Nat.le_of_ble_eq_true rfl, Nat.le_of_ble_eq_true rfl⟩) ?_
    refine lv_aload_n hx hb dX6_flow_55 rfl (lv_at hl 1 rfl) ?_
    refine va_get (D := D) (ci := 6) (C := RX6) (T := TX6) (N := 10) hx hb hts hcX6 hown hK hP 0 rfl rfl 6 (by decide) (hts (.fieldLink RX6 61 "WallMarks" "flows" "LWallMarks$Flows;") (List.mem_of_getElem? (i := 1) (by decide +kernel))) (fun _ h9 => h9) rfl dX6_flow_56 ?_
    refine lv_iload_n hx hb dX6_flow_59 rfl (lv_at hl 0 rfl) ?_
    have hf_9 := h_fl (pbN ((psF fb fs 6 0 0 fl fa).2.2.1) ((psF fb fs 6 0 0 fl fa).2.1) x 6 0)
    have hf_10 := h_fl ((pbN ((psF fb fs 6 0 0 fl fa).2.2.1) ((psF fb fs 6 0 0 fl fa).2.1) x 6 0) + 1)
    have hPc := hP.sub (ws' := [(qF, .inr (1, [.ref qFb, .ref qFl, .ref qFa, .int (iI (fs)), .int (iI ((psF fb fs 6 0 0 fl fa).2.1)), .int (iI (q9_5))])), (qFl, .inl (cyI, 6, .inl (xA ((psF fb fs 6 0 0 fl fa).2.2.1))))]) [1, 3] rfl
    refine xc_l (va_runV (As := [.int (iI (pbN ((psF fb fs 6 0 0 fl fa).2.2.1) ((psF fb fs 6 0 0 fl fa).2.1) x 6 0))]) (rest := [.long (lI (liA ((psF fb fs 6 0 0 fl fa).2.2.1) ((psF fb fs 6 0 0 fl fa).2.2.2) (pbN ((psF fb fs 6 0 0 fl fa).2.2.1) ((psF fb fs 6 0 0 fl fa).2.1) x 6 0) x))]) ⟨hx, hb, hml, hown, hts⟩ (c_X1_lineBelow l D cyI cyJ cyO qF qFb qFl qFa fs ((psF fb fs 6 0 0 fl fa).2.1) q9_5 ((psF fb fs 6 0 0 fl fa).2.2.1) (pbN ((psF fb fs 6 0 0 fl fa).2.2.1) ((psF fb fs 6 0 0 fl fa).2.1) x 6 0) (by exact hpa2) (by omega)) (cwV 1 hts gX6_flow_X1_lineBelow rfl rfl rfl (by decide +kernel) ⟨Nat.le_of_ble_eq_true rfl, Nat.le_of_ble_eq_true rfl⟩) (xpV hPc hK (ci := 1) (q0 := 0) (q := (RX1, TX1, 6)) rfl rfl) rfl rfl hl.1 rfl (lv_room (Nat.le_of_ble_eq_true rfl)) dX6_flow_60 ⟨Nat.le_of_ble_eq_true rfl, Nat.le_of_ble_eq_true rfl⟩) ?_
    refine lv_iload_n hx hb dX6_flow_63 rfl (lv_at hl 3 rfl) ?_
    have hla := liA_in2 (k := (pbN (psF fb fs 6 0 0 fl fa).2.2.1 (psF fb fs 6 0 0 fl fa).2.1 x 6 0)) (x := x) hpa2 hpa3 (by omega)
    have hlb := liB_in (k := (pbN (psF fb fs 6 0 0 fl fa).2.2.1 (psF fb fs 6 0 0 fl fa).2.1 x 6 0)) hps.2.2.2 (by omega) (by omega)
    have hPc := hP.sub (ws' := []) [] rfl
    refine xc_l (va_runS (As := [.long (lI (liA ((psF fb fs 6 0 0 fl fa).2.2.1) ((psF fb fs 6 0 0 fl fa).2.2.2) (pbN ((psF fb fs 6 0 0 fl fa).2.2.1) ((psF fb fs 6 0 0 fl fa).2.1) x 6 0) x)), .long (lI (liB ((psF fb fs 6 0 0 fl fa).2.2.1) (pbN ((psF fb fs 6 0 0 fl fa).2.2.1) ((psF fb fs 6 0 0 fl fa).2.1) x 6 0))), .int (iI (w))]) (rest := []) ⟨hx, hb, hml, hown, hts⟩ (c_X6_fraction l D cyI cyJ cyO (liA ((psF fb fs 6 0 0 fl fa).2.2.1) ((psF fb fs 6 0 0 fl fa).2.2.2) (pbN ((psF fb fs 6 0 0 fl fa).2.2.1) ((psF fb fs 6 0 0 fl fa).2.1) x 6 0) x) (liB ((psF fb fs 6 0 0 fl fa).2.2.1) (pbN ((psF fb fs 6 0 0 fl fa).2.2.1) ((psF fb fs 6 0 0 fl fa).2.1) x 6 0)) w (by omega) (by omega) (by first | exact h_w | assumption | omega)) (va_cwS 3 hts gX6_flow_X6_fraction rfl rfl rfl (by decide +kernel) ⟨Nat.le_of_ble_eq_true rfl, Nat.le_of_ble_eq_true rfl⟩) (xpS hPc hK) rfl rfl hl.1 rfl (lv_room (Nat.le_of_ble_eq_true rfl)) dX6_flow_64 ⟨Nat.le_of_ble_eq_true rfl, Nat.le_of_ble_eq_true rfl⟩) ?_
    exact W.lret (v := lI (frac (liA ((psF fb fs 6 0 0 fl fa).2.2.1) ((psF fb fs 6 0 0 fl fa).2.2.2) (pbN ((psF fb fs 6 0 0 fl fa).2.2.1) ((psF fb fs 6 0 0 fl fa).2.1) x 6 0) x) (liB ((psF fb fs 6 0 0 fl fa).2.2.1) (pbN ((psF fb fs 6 0 0 fl fa).2.2.1) ((psF fb fs 6 0 0 fl fa).2.1) x 6 0)) w)) hx hb hr (fun t_ ht_ hW_ => ⟨⟨_, (q9_5), rfl, ⟨(congrArg lI (show (frac (liA ((psF fb fs 6 0 0 fl fa).2.2.1) ((psF fb fs 6 0 0 fl fa).2.2.2) (pbN ((psF fb fs 6 0 0 fl fa).2.2.1) ((psF fb fs 6 0 0 fl fa).2.1) x 6 0) x) (liB ((psF fb fs 6 0 0 fl fa).2.2.1) (pbN ((psF fb fs 6 0 0 fl fa).2.2.1) ((psF fb fs 6 0 0 fl fa).2.1) x 6 0)) w) = (if (psF fb fs 6 0 0 fl fa).1 ≠ -1 then -9223372036854775805 else frac (liA (psF fb fs 6 0 0 fl fa).2.2.1 (psF fb fs 6 0 0 fl fa).2.2.2 (pbN (psF fb fs 6 0 0 fl fa).2.2.1 (psF fb fs 6 0 0 fl fa).2.1 x 6 0) x) (liB (psF fb fs 6 0 0 fl fa).2.2.1 (pbN (psF fb fs 6 0 0 fl fa).2.2.1 (psF fb fs 6 0 0 fl fa).2.1 x 6 0)) w) from by first | (rw [if_pos (by omega)]; rfl) | (rw [if_neg (by omega)]))), ⟨(show 0 ≤ q9_5 ∧ q9_5 ≤ fs from by assumption), (show ∀ j, 0 ≤ (psF fb fs 6 0 0 fl fa).2.2.1 j ∧ (psF fb fs 6 0 0 fl fa).2.2.1 j ≤ 999 from by assumption), (show ∀ j, 0 ≤ (psF fb fs 6 0 0 fl fa).2.2.2 j ∧ (psF fb fs 6 0 0 fl fa).2.2.2 j ≤ 999 from by assumption)⟩⟩, by rw [ht_]; exact hP, va_K.moved hW_.alike hK, hD⟩, hS.F ht_⟩) hS.2.2 dX6_flow_67
  · refine xi_bipush hx hb dX6_flow_31 (by decide +kernel) ?_
    have hPc := hP.sub (ws' := []) [] rfl
    refine xc_l (va_runS (As := [.int (iI (-3))]) (rest := []) ⟨hx, hb, hml, hown, hts⟩ (c_X6_longRefusal l D cyI cyJ cyO (-3) (by first | exact h_x | assumption | omega)) (va_cwS 1 hts gX6_flow_X6_longRefusal rfl rfl rfl (by decide +kernel) ⟨Nat.le_of_ble_eq_true rfl, Nat.le_of_ble_eq_true rfl⟩) (xpS hPc hK) rfl rfl hl.1 rfl (lv_room (Nat.le_of_ble_eq_true rfl)) dX6_flow_33 ⟨Nat.le_of_ble_eq_true rfl, Nat.le_of_ble_eq_true rfl⟩) ?_
    exact W.lret (v := lI (-9223372036854775808 - (-3))) hx hb hr (fun t_ ht_ hW_ => ⟨⟨_, (q9_5), rfl, ⟨(congrArg lI (show (-9223372036854775808 - (-3)) = (if (psF fb fs 6 0 0 fl fa).1 ≠ -1 then -9223372036854775805 else frac (liA (psF fb fs 6 0 0 fl fa).2.2.1 (psF fb fs 6 0 0 fl fa).2.2.2 (pbN (psF fb fs 6 0 0 fl fa).2.2.1 (psF fb fs 6 0 0 fl fa).2.1 x 6 0) x) (liB (psF fb fs 6 0 0 fl fa).2.2.1 (pbN (psF fb fs 6 0 0 fl fa).2.2.1 (psF fb fs 6 0 0 fl fa).2.1 x 6 0)) w) from by first | (rw [if_pos (by omega)]; rfl) | (rw [if_neg (by omega)]))), ⟨(show 0 ≤ q9_5 ∧ q9_5 ≤ fs from by assumption), (show ∀ j, 0 ≤ (psF fb fs 6 0 0 fl fa).2.2.1 j ∧ (psF fb fs 6 0 0 fl fa).2.2.1 j ≤ 999 from by assumption), (show ∀ j, 0 ≤ (psF fb fs 6 0 0 fl fa).2.2.2 j ∧ (psF fb fs 6 0 0 fl fa).2.2.2 j ≤ 999 from by assumption)⟩⟩, by rw [ht_]; exact hP, va_K.moved hW_.alike hK, hD⟩, hS.F ht_⟩) hS.2.2 dX6_flow_36
set_option maxHeartbeats 1000000 in
set_option maxRecDepth 100000 in
theorem c_X6_sheet_vB (l : Launch) (D : va_G) (cyI cyJ cyO : ClassId) (qW : Nat) (qT : Nat) (qA : Nat) (qK : Nat) (qC : Nat) (qE : Nat) (qI : Nat) (qF : Nat) (qH : Nat) (qO : Nat) (fi : Int) (y : Int) (f9 : Int) (n : Int) (h_y : -2147483648 ≤ y ∧ y ≤ 2147483647) (h_f9 : -2147483648 ≤ f9 ∧ f9 ≤ 2147483647) (h_n : -2147483648 ≤ n ∧ n ≤ 2147483647) (h_ok : ¬ ((0 ≤ y ∧ y < 4) ∧ (0 ≤ f9 ∧ f9 ≤ 2) ∧ n ≤ 60)) : Met l yX6_sheet wsX6_sheet ({ frames := 1, cells := 0, slots := 0, locals := 20 }) (va_Pc [.ref qW, .int (iI (y)), .int (iI (f9)), .int (iI (n))] (xR D vwCl [(qW, .inr (6, [.ref qT, .ref qA, .ref qK, .ref qC, .ref qE, .ref qI, .ref qF, .ref qH, .ref qO, .int (iI (fi))]))] (xT cyI cyJ cyO))) (xq (some (.int (iI (-2))))) 0 0 (fun _ => False) := by
  refine Met.ofW (cc := cX6_sheet) (maxL := 4) (ret := (some .int)) (by decide) rfl ?_
  intro p e s m args below meth c s₁ B hml hv
  obtain ⟨rfl, hP, hK⟩ := hv
  have hx := B.exec
  have hb := B.bytes
  have hr := B.returns
  have hts := atoms_spec (ws := wsX6_sheet) B.pre
  have hown : s.vm.findClass RX6 = some m.cls := findClass_of_methodNamed B.named
  have hlocks := B.notSynchronized
  have hP : va_P D vwCl [(qW, .inr (6, [.ref qT, .ref qA, .ref qK, .ref qC, .ref qE, .ref qI, .ref qF, .ref qH, .ref qO, .int (iI (fi))]))] s.heap := hP
  have hl := lv_entry ([.ref qW, .int (iI (y)), .int (iI (f9)), .int (iI (n))]) (n := 4) (Nat.le_of_ble_eq_true rfl)
  rw [lg_entry_eq]
  generalize (lg_sl ([.ref qW, .int (iI (y)), .int (iI (f9)), .int (iI (n))]) ++ List.replicate (4 - (lg_sl ([.ref qW, .int (iI (y)), .int (iI (f9)), .int (iI (n))])).length) Slot.unset).toArray = ls at hl ⊢
  have hl : lv_has ls 4 [(0, .ref qW), (1, .int (iI (y))), (2, .int (iI (f9))), (3, .int (iI (n)))] := hl
  refine lv_iload_n hx hb dX6_sheet_0 rfl (lv_at hl 1 rfl) ?_
  have hPc := hP.sub (ws' := []) [] rfl
  refine xc_i (va_runS (As := [.int (iI (y))]) (rest := []) ⟨hx, hb, hml, hown, hts⟩ (c_X6_isSheet l D cyI cyJ cyO y (by first | exact h_y | assumption | omega)) (va_cwS 1 hts gX6_sheet_X6_isSheet rfl rfl rfl (by decide +kernel) ⟨Nat.le_of_ble_eq_true rfl, Nat.le_of_ble_eq_true rfl⟩) (xpS hPc hK) rfl rfl hl.1 rfl (lv_room (Nat.le_of_ble_eq_true rfl)) dX6_sheet_1 ⟨Nat.le_of_ble_eq_true rfl, Nat.le_of_ble_eq_true rfl⟩) ?_
  refine xb_if_eqB (tgt := 20) hx hb dX6_sheet_4 (by decide) (fun h_1 => ?_) (fun h_1 => ?_)
  · refine xi_bipush hx hb dX6_sheet_20 (by decide +kernel) ?_
    exact W.iret (v := iI (-2)) hx hb hr (fun t_ ht_ _ => ⟨congrArg (fun z => Outcome.returned (some (Value.int (iI z)))) rfl, ht_⟩) (fun _ h9 => absurd h9 List.not_mem_nil) dX6_sheet_22
  · refine lv_iload_n hx hb dX6_sheet_7 rfl (lv_at hl 2 rfl) ?_
    have hPc := hP.sub (ws' := []) [] rfl
    refine xc_i (va_runS (As := [.int (iI (f9))]) (rest := []) ⟨hx, hb, hml, hown, hts⟩ (c_X6_isForm l D cyI cyJ cyO f9 (by first | exact h_y | assumption | omega)) (va_cwS 1 hts gX6_sheet_X6_isForm rfl rfl rfl (by decide +kernel) ⟨Nat.le_of_ble_eq_true rfl, Nat.le_of_ble_eq_true rfl⟩) (xpS hPc hK) rfl rfl hl.1 rfl (lv_room (Nat.le_of_ble_eq_true rfl)) dX6_sheet_8 ⟨Nat.le_of_ble_eq_true rfl, Nat.le_of_ble_eq_true rfl⟩) ?_
    refine xb_if_eqB (tgt := 20) hx hb dX6_sheet_11 (by decide) (fun h_2 => ?_) (fun h_2 => ?_)
    · refine xi_bipush hx hb dX6_sheet_20 (by decide +kernel) ?_
      exact W.iret (v := iI (-2)) hx hb hr (fun t_ ht_ _ => ⟨congrArg (fun z => Outcome.returned (some (Value.int (iI z)))) rfl, ht_⟩) (fun _ h9 => absurd h9 List.not_mem_nil) dX6_sheet_22
    · refine lv_iload_n hx hb dX6_sheet_14 rfl (lv_at hl 3 rfl) ?_
      refine xi_bipush hx hb dX6_sheet_15 (by decide +kernel) ?_
      refine xb_icmp_le (tgt := 23) hx hb dX6_sheet_17 (by decide) (by omega) (fun h_3 => by exfalso; omega) (fun h_3 => ?_)
      refine xi_bipush hx hb dX6_sheet_20 (by decide +kernel) ?_
      exact W.iret (v := iI (-2)) hx hb hr (fun t_ ht_ _ => ⟨congrArg (fun z => Outcome.returned (some (Value.int (iI z)))) rfl, ht_⟩) (fun _ h9 => absurd h9 List.not_mem_nil) dX6_sheet_22
set_option maxHeartbeats 1000000 in
set_option maxRecDepth 100000 in
theorem c_X6_sheet_vZ (l : Launch) (D : va_G) (cyI cyJ cyO : ClassId) (qW : Nat) (qT : Nat) (qA : Nat) (qK : Nat) (qC : Nat) (qE : Nat) (qI : Nat) (qF : Nat) (qH : Nat) (qO : Nat) (fi : Int) (sz : Nat) (y : Int) (f9 : Int) (n : Int) (h_y : -2147483648 ≤ y ∧ y ≤ 2147483647) (h_f9 : -2147483648 ≤ f9 ∧ f9 ≤ 2147483647) (h_n : -2147483648 ≤ n ∧ n ≤ 2147483647) (h_ok : (0 ≤ y ∧ y < 4) ∧ (0 ≤ f9 ∧ f9 ≤ 2) ∧ n ≤ 60) (h_n0 : n < 0) : Met l yX6_sheet wsX6_sheet ({ frames := 1, cells := 0, slots := 0, locals := 21 }) (va_Pc [.ref qW, .int (iI (y)), .int (iI (f9)), .int (iI (n))] (xM D vwCl [(qW, .inr (6, [.ref qT, .ref qA, .ref qK, .ref qC, .ref qE, .ref qI, .ref qF, .ref qH, .ref qO, .int (iI (fi))]))] (xT cyI cyJ cyO) sz)) (va_Qi (fun (r : Int32) (u : Unit) => r = iI (-15) ∧ True) (xB D vwCl (xT cyI cyJ cyO) (va_A [(qW, .inr (6, [.ref qT, .ref qA, .ref qK, .ref qC, .ref qE, .ref qI, .ref qF, .ref qH, .ref qO, .int (iI (fi))]))] sz) (fun u : Unit => [(qW, .inr (6, [.ref qT, .ref qA, .ref qK, .ref qC, .ref qE, .ref qI, .ref qF, .ref qH, .ref qO, .int (iI (5))]))])) (va_A [(qW, .inr (6, [.ref qT, .ref qA, .ref qK, .ref qC, .ref qE, .ref qI, .ref qF, .ref qH, .ref qO, .int (iI (fi))]))] sz)) 0 0 (va_A [(qW, .inr (6, [.ref qT, .ref qA, .ref qK, .ref qC, .ref qE, .ref qI, .ref qF, .ref qH, .ref qO, .int (iI (fi))]))] sz) := by
  refine Met.ofW (cc := cX6_sheet) (maxL := 4) (ret := (some .int)) (by decide) rfl ?_
  intro p e s m args below meth c s₁ B hml hv
  obtain ⟨rfl, hsz, hP, hK, hD0⟩ := hv
  have hx := B.exec
  have hb := B.bytes
  have hr := B.returns
  have hts := atoms_spec (ws := wsX6_sheet) B.pre
  have hown : s.vm.findClass RX6 = some m.cls := findClass_of_methodNamed B.named
  have hlocks := B.notSynchronized
  subst hsz
  have hD := hD0.self (sz := s.heap.size)
  generalize hAe : va_A [(qW, .inr (6, [.ref qT, .ref qA, .ref qK, .ref qC, .ref qE, .ref qI, .ref qF, .ref qH, .ref qO, .int (iI (fi))]))] s.heap.size = A at hD ⊢
  have hA : ∀ q : Nat, s.heap.size ≤ q → A q := fun q h => by rw [← hAe]; exact Or.inr h
  have hS : va_S A s.heap s.heap [] := va_S.rf
  have hP : va_P D vwCl [(qW, .inr (6, [.ref qT, .ref qA, .ref qK, .ref qC, .ref qE, .ref qI, .ref qF, .ref qH, .ref qO, .int (iI (fi))]))] s.heap := hP
  have hl := lv_entry ([.ref qW, .int (iI (y)), .int (iI (f9)), .int (iI (n))]) (n := 4) (Nat.le_of_ble_eq_true rfl)
  rw [lg_entry_eq]
  generalize (lg_sl ([.ref qW, .int (iI (y)), .int (iI (f9)), .int (iI (n))]) ++ List.replicate (4 - (lg_sl ([.ref qW, .int (iI (y)), .int (iI (f9)), .int (iI (n))])).length) Slot.unset).toArray = ls at hl ⊢
  have hl : lv_has ls 4 [(0, .ref qW), (1, .int (iI (y))), (2, .int (iI (f9))), (3, .int (iI (n)))] := hl
  refine lv_iload_n hx hb dX6_sheet_0 rfl (lv_at hl 1 rfl) ?_
  have hPc := hP.sub (ws' := []) [] rfl
  refine xc_i (va_runS (As := [.int (iI (y))]) (rest := []) ⟨hx, hb, hml, hown, hts⟩ (c_X6_isSheet l D cyI cyJ cyO y (by first | exact h_y | assumption | omega)) (va_cwS 1 hts gX6_sheet_X6_isSheet rfl rfl rfl (by decide +kernel) ⟨Nat.le_of_ble_eq_true rfl, Nat.le_of_ble_eq_true rfl⟩) (xpS hPc hK) rfl rfl hl.1 rfl (lv_room (Nat.le_of_ble_eq_true rfl)) dX6_sheet_1 ⟨Nat.le_of_ble_eq_true rfl, Nat.le_of_ble_eq_true rfl⟩) ?_
  refine xb_if_eqB (tgt := 20) hx hb dX6_sheet_4 (by decide) (fun h_1 => by exfalso; omega) (fun h_1 => ?_)
  refine lv_iload_n hx hb dX6_sheet_7 rfl (lv_at hl 2 rfl) ?_
  have hPc := hP.sub (ws' := []) [] rfl
  refine xc_i (va_runS (As := [.int (iI (f9))]) (rest := []) ⟨hx, hb, hml, hown, hts⟩ (c_X6_isForm l D cyI cyJ cyO f9 (by first | exact h_y | assumption | omega)) (va_cwS 1 hts gX6_sheet_X6_isForm rfl rfl rfl (by decide +kernel) ⟨Nat.le_of_ble_eq_true rfl, Nat.le_of_ble_eq_true rfl⟩) (xpS hPc hK) rfl rfl hl.1 rfl (lv_room (Nat.le_of_ble_eq_true rfl)) dX6_sheet_8 ⟨Nat.le_of_ble_eq_true rfl, Nat.le_of_ble_eq_true rfl⟩) ?_
  refine xb_if_eqB (tgt := 20) hx hb dX6_sheet_11 (by decide) (fun h_2 => by exfalso; omega) (fun h_2 => ?_)
  refine lv_iload_n hx hb dX6_sheet_14 rfl (lv_at hl 3 rfl) ?_
  refine xi_bipush hx hb dX6_sheet_15 (by decide +kernel) ?_
  refine xb_icmp_le (tgt := 23) hx hb dX6_sheet_17 (by decide) (by omega) (fun h_3 => ?_) (fun h_3 => by exfalso; omega)
  refine lv_iload_n hx hb dX6_sheet_23 rfl (lv_at hl 3 rfl) ?_
  refine xb_if_ge (tgt := 33) hx hb dX6_sheet_24 (by decide) (by omega) (fun h_4 => by exfalso; omega) (fun h_4 => ?_)
  refine lv_aload_n hx hb dX6_sheet_27 rfl (lv_at hl 0 rfl) ?_
  refine xi_const hx hb dX6_sheet_28 ?_
  have hPc := hP.sub (ws' := [(qW, .inr (6, [.ref qT, .ref qA, .ref qK, .ref qC, .ref qE, .ref qI, .ref qF, .ref qH, .ref qO, .int (iI (fi))]))]) [0] rfl
  have hDc := hD.sub (ws' := [(qW, .inr (6, [.ref qT, .ref qA, .ref qK, .ref qC, .ref qE, .ref qI, .ref qF, .ref qH, .ref qO, .int (iI (fi))]))]) [0] (by decide) rfl
  have hFc := va_free (wc := [(qW, .inr (6, [.ref qT, .ref qA, .ref qK, .ref qC, .ref qE, .ref qI, .ref qF, .ref qH, .ref qO, .int (iI (fi))]))]) hD hS hA [0] rfl
  refine va_calli (va_runV (As := [.int (iI (5))]) (rest := []) ⟨hx, hb, hml, hown, hts⟩ (c_X6_found l D cyI cyJ cyO qW qT qA qK qC qE qI qF qH qO fi s.heap.size 5 (by first | exact h_n | assumption | omega)) (cwV 1 hts gX6_sheet_X6_found rfl rfl rfl (by decide +kernel) ⟨Nat.le_of_ble_eq_true rfl, Nat.le_of_ble_eq_true rfl⟩) (xpVM hPc hK hDc (ci := 6) (q0 := 0) (q := (RX6, TX6, 10)) rfl rfl) rfl rfl hl.1 rfl (lv_room (Nat.le_of_ble_eq_true rfl)) dX6_sheet_29 ⟨Nat.le_of_ble_eq_true rfl, Nat.le_of_ble_eq_true rfl⟩) hS (fun q _ h => hFc q h) hFc (fun r_ u_5 t_ H1 locs ht_ hvm hw hB hz1 hk1 hS => ?_)
  obtain ⟨hP1, hK1, hD1⟩ := hB
  rw [ht_] at hP1
  obtain ⟨hP, hD⟩ := xj (wc := [(qW, .inr (6, [.ref qT, .ref qA, .ref qK, .ref qC, .ref qE, .ref qI, .ref qF, .ref qH, .ref qO, .int (iI (fi))]))]) (w1 := [(qW, .inr (6, [.ref qT, .ref qA, .ref qK, .ref qC, .ref qE, .ref qI, .ref qF, .ref qH, .ref qO, .int (iI (5))]))]) hP hD [0] rfl rfl hk1 hP1
  generalize H1 = H at hP hS ⊢
  have hP : va_P D vwCl [(qW, .inr (6, [.ref qT, .ref qA, .ref qK, .ref qC, .ref qE, .ref qI, .ref qF, .ref qH, .ref qO, .int (iI (5))]))] H := hP
  have hD : va_D A [(qW, .inr (6, [.ref qT, .ref qA, .ref qK, .ref qC, .ref qE, .ref qI, .ref qF, .ref qH, .ref qO, .int (iI (5))]))] := hD
  obtain ⟨hre, hw_6⟩ := hw
  have hw_6 : True := hw_6
  rw [show r_ = iI (-10 - 5) from hre]
  exact W.iret (v := iI (-10 - 5)) hx hb hr (fun t_ ht_ hW_ => ⟨⟨_, (), rfl, ⟨(congrArg iI (show (-10 - 5) = (-15) from by first | rfl | omega)), trivial⟩, by rw [ht_]; exact hP, va_K.moved hW_.alike hK, hD⟩, hS.F ht_⟩) hS.2.2 dX6_sheet_32
set_option maxHeartbeats 1000000 in
set_option maxRecDepth 100000 in
theorem c_X6_sheet_vK (l : Launch) (D : va_G) (cyI cyJ cyO : ClassId) (qW : Nat) (qT : Nat) (qA : Nat) (qK : Nat) (qC : Nat) (qE : Nat) (qI : Nat) (qF : Nat) (qH : Nat) (qO : Nat) (fi : Int) (hq : Int → Option Nat) (qS : Nat) (qSi : Nat) (sl : Int) (sf : Int) (sz_ : Int) (it : Int → Int) (sz : Nat) (y : Int) (f9 : Int) (n : Int) (h_hq : hq y = some qS) (h_y : -2147483648 ≤ y ∧ y ≤ 2147483647) (h_f9 : -2147483648 ≤ f9 ∧ f9 ≤ 2147483647) (h_n : -2147483648 ≤ n ∧ n ≤ 2147483647) (h_ok : (0 ≤ y ∧ y < 4) ∧ (0 ≤ f9 ∧ f9 ≤ 2) ∧ n ≤ 60) (h_n0 : 0 ≤ n) : Met l yX6_sheet wsX6_sheet ({ frames := 2, cells := 0, slots := 0, locals := 45 }) (va_Pc [.ref qW, .int (iI (y)), .int (iI (f9)), .int (iI (n))] (xM D vwCl [(qW, .inr (6, [.ref qT, .ref qA, .ref qK, .ref qC, .ref qE, .ref qI, .ref qF, .ref qH, .ref qO, .int (iI (fi))])), (qH, .inl (cyO, 4, .inr (.inr (.inr (.inr (xQ (hq))))))), (qS, .inr (3, [.ref qSi, .int (iI (sl)), .int (iI (sf)), .int (iI (sz_))])), (qSi, .inl (cyI, 60, .inl (xA (it))))] (xT cyI cyJ cyO) sz)) (va_Qi (fun (r : Int32) (u : Unit) => r = iI (n) ∧ True) (xB D vwCl (xT cyI cyJ cyO) (va_A [(qW, .inr (6, [.ref qT, .ref qA, .ref qK, .ref qC, .ref qE, .ref qI, .ref qF, .ref qH, .ref qO, .int (iI (fi))])), (qH, .inl (cyO, 4, .inr (.inr (.inr (.inr (xQ (hq))))))), (qS, .inr (3, [.ref qSi, .int (iI (sl)), .int (iI (sf)), .int (iI (sz_))])), (qSi, .inl (cyI, 60, .inl (xA (it))))] sz) (fun u : Unit => [(qW, .inr (6, [.ref qT, .ref qA, .ref qK, .ref qC, .ref qE, .ref qI, .ref qF, .ref qH, .ref qO, .int (iI (fi))])), (qH, .inl (cyO, 4, .inr (.inr (.inr (.inr (xQ (hq))))))), (qS, .inr (3, [.ref qSi, .int (iI (0)), .int (iI (f9)), .int (iI (n))])), (qSi, .inl (cyI, 60, .inl (xA (fun _ => 0))))])) (va_A [(qW, .inr (6, [.ref qT, .ref qA, .ref qK, .ref qC, .ref qE, .ref qI, .ref qF, .ref qH, .ref qO, .int (iI (fi))])), (qH, .inl (cyO, 4, .inr (.inr (.inr (.inr (xQ (hq))))))), (qS, .inr (3, [.ref qSi, .int (iI (sl)), .int (iI (sf)), .int (iI (sz_))])), (qSi, .inl (cyI, 60, .inl (xA (it))))] sz)) 0 0 (va_A [(qW, .inr (6, [.ref qT, .ref qA, .ref qK, .ref qC, .ref qE, .ref qI, .ref qF, .ref qH, .ref qO, .int (iI (fi))])), (qH, .inl (cyO, 4, .inr (.inr (.inr (.inr (xQ (hq))))))), (qS, .inr (3, [.ref qSi, .int (iI (sl)), .int (iI (sf)), .int (iI (sz_))])), (qSi, .inl (cyI, 60, .inl (xA (it))))] sz) := by
  refine Met.ofW (cc := cX6_sheet) (maxL := 4) (ret := (some .int)) (by decide) rfl ?_
  intro p e s m args below meth c s₁ B hml hv
  obtain ⟨rfl, hsz, hP, hK, hD0⟩ := hv
  have hx := B.exec
  have hb := B.bytes
  have hr := B.returns
  have hts := atoms_spec (ws := wsX6_sheet) B.pre
  have hown : s.vm.findClass RX6 = some m.cls := findClass_of_methodNamed B.named
  have hlocks := B.notSynchronized
  have hcX6 : ∀ w ∈ wsX60, w ∈ wsX6_sheet := fun _ h => List.mem_cons_of_mem _ (List.mem_append_left _ (List.mem_append_right _ h))
  subst hsz
  have hD := hD0.self (sz := s.heap.size)
  generalize hAe : va_A [(qW, .inr (6, [.ref qT, .ref qA, .ref qK, .ref qC, .ref qE, .ref qI, .ref qF, .ref qH, .ref qO, .int (iI (fi))])), (qH, .inl (cyO, 4, .inr (.inr (.inr (.inr (xQ (hq))))))), (qS, .inr (3, [.ref qSi, .int (iI (sl)), .int (iI (sf)), .int (iI (sz_))])), (qSi, .inl (cyI, 60, .inl (xA (it))))] s.heap.size = A at hD ⊢
  have hA : ∀ q : Nat, s.heap.size ≤ q → A q := fun q h => by rw [← hAe]; exact Or.inr h
  have hS : va_S A s.heap s.heap [] := va_S.rf
  have hP : va_P D vwCl [(qW, .inr (6, [.ref qT, .ref qA, .ref qK, .ref qC, .ref qE, .ref qI, .ref qF, .ref qH, .ref qO, .int (iI (fi))])), (qH, .inl (cyO, 4, .inr (.inr (.inr (.inr (xQ (hq))))))), (qS, .inr (3, [.ref qSi, .int (iI (sl)), .int (iI (sf)), .int (iI (sz_))])), (qSi, .inl (cyI, 60, .inl (xA (it))))] s.heap := hP
  have hl := lv_entry ([.ref qW, .int (iI (y)), .int (iI (f9)), .int (iI (n))]) (n := 4) (Nat.le_of_ble_eq_true rfl)
  rw [lg_entry_eq]
  generalize (lg_sl ([.ref qW, .int (iI (y)), .int (iI (f9)), .int (iI (n))]) ++ List.replicate (4 - (lg_sl ([.ref qW, .int (iI (y)), .int (iI (f9)), .int (iI (n))])).length) Slot.unset).toArray = ls at hl ⊢
  have hl : lv_has ls 4 [(0, .ref qW), (1, .int (iI (y))), (2, .int (iI (f9))), (3, .int (iI (n)))] := hl
  refine lv_iload_n hx hb dX6_sheet_0 rfl (lv_at hl 1 rfl) ?_
  have hPc := hP.sub (ws' := []) [] rfl
  refine xc_i (va_runS (As := [.int (iI (y))]) (rest := []) ⟨hx, hb, hml, hown, hts⟩ (c_X6_isSheet l D cyI cyJ cyO y (by first | exact h_y | assumption | omega)) (va_cwS 1 hts gX6_sheet_X6_isSheet rfl rfl rfl (by decide +kernel) ⟨Nat.le_of_ble_eq_true rfl, Nat.le_of_ble_eq_true rfl⟩) (xpS hPc hK) rfl rfl hl.1 rfl (lv_room (Nat.le_of_ble_eq_true rfl)) dX6_sheet_1 ⟨Nat.le_of_ble_eq_true rfl, Nat.le_of_ble_eq_true rfl⟩) ?_
  refine xb_if_eqB (tgt := 20) hx hb dX6_sheet_4 (by decide) (fun h_1 => by exfalso; omega) (fun h_1 => ?_)
  refine lv_iload_n hx hb dX6_sheet_7 rfl (lv_at hl 2 rfl) ?_
  have hPc := hP.sub (ws' := []) [] rfl
  refine xc_i (va_runS (As := [.int (iI (f9))]) (rest := []) ⟨hx, hb, hml, hown, hts⟩ (c_X6_isForm l D cyI cyJ cyO f9 (by first | exact h_y | assumption | omega)) (va_cwS 1 hts gX6_sheet_X6_isForm rfl rfl rfl (by decide +kernel) ⟨Nat.le_of_ble_eq_true rfl, Nat.le_of_ble_eq_true rfl⟩) (xpS hPc hK) rfl rfl hl.1 rfl (lv_room (Nat.le_of_ble_eq_true rfl)) dX6_sheet_8 ⟨Nat.le_of_ble_eq_true rfl, Nat.le_of_ble_eq_true rfl⟩) ?_
  refine xb_if_eqB (tgt := 20) hx hb dX6_sheet_11 (by decide) (fun h_2 => by exfalso; omega) (fun h_2 => ?_)
  refine lv_iload_n hx hb dX6_sheet_14 rfl (lv_at hl 3 rfl) ?_
  refine xi_bipush hx hb dX6_sheet_15 (by decide +kernel) ?_
  refine xb_icmp_le (tgt := 23) hx hb dX6_sheet_17 (by decide) (by omega) (fun h_3 => ?_) (fun h_3 => by exfalso; omega)
  refine lv_iload_n hx hb dX6_sheet_23 rfl (lv_at hl 3 rfl) ?_
  refine xb_if_ge (tgt := 33) hx hb dX6_sheet_24 (by decide) (by omega) (fun h_4 => ?_) (fun h_4 => by exfalso; omega)
  refine lv_aload_n hx hb dX6_sheet_33 rfl (lv_at hl 0 rfl) ?_
  refine va_get (D := D) (ci := 6) (C := RX6) (T := TX6) (N := 10) hx hb hts hcX6 hown hK hP 0 rfl rfl 7 (by decide) (hts (.fieldLink RX6 67 "WallMarks" "sheets" "[LWallMarks$Sheet;") (List.mem_of_getElem? (i := 1) (by decide +kernel))) (fun _ h9 => h9) rfl dX6_sheet_34 ?_
  refine lv_iload_n hx hb dX6_sheet_37 rfl (lv_at hl 1 rfl) ?_
  refine xq_ald (D := D) (qv := qS) hx hb hK hP 1 2 rfl rfl (by decide) (by omega) (by exact h_hq) dX6_sheet_38 ?_
  refine lv_iload_n hx hb dX6_sheet_39 rfl (lv_at hl 2 rfl) ?_
  refine lv_iload_n hx hb dX6_sheet_40 rfl (lv_at hl 3 rfl) ?_
  have hPc := hP.sub (ws' := [(qS, .inr (3, [.ref qSi, .int (iI (sl)), .int (iI (sf)), .int (iI (sz_))])), (qSi, .inl (cyI, 60, .inl (xA (it))))]) [2, 3] rfl
  have hDc := hD.sub (ws' := [(qS, .inr (3, [.ref qSi, .int (iI (sl)), .int (iI (sf)), .int (iI (sz_))])), (qSi, .inl (cyI, 60, .inl (xA (it))))]) [2, 3] (by decide) rfl
  have hFc := va_free (wc := [(qS, .inr (3, [.ref qSi, .int (iI (sl)), .int (iI (sf)), .int (iI (sz_))])), (qSi, .inl (cyI, 60, .inl (xA (it))))]) hD hS hA [2, 3] rfl
  refine va_callv (va_runV (As := [.int (iI (f9)), .int (iI (n))]) (rest := []) ⟨hx, hb, hml, hown, hts⟩ (c_X3_renew l D cyI cyJ cyO qS qSi sl sf sz_ it s.heap.size f9 n) (cwV 2 hts gX6_sheet_X3_renew rfl rfl rfl (by decide +kernel) ⟨Nat.le_of_ble_eq_true rfl, Nat.le_of_ble_eq_true rfl⟩) (xpVM hPc hK hDc (ci := 3) (q0 := 0) (q := (RX3, TX3, 4)) rfl rfl) rfl rfl hl.1 rfl (lv_room (Nat.le_of_ble_eq_true rfl)) dX6_sheet_41 ⟨Nat.le_of_ble_eq_true rfl, Nat.le_of_ble_eq_true rfl⟩) hS (fun q _ h => hFc q h) hFc (fun u_5 t_ H1 locs ht_ hvm hw hB hz1 hk1 hS => ?_)
  obtain ⟨hP1, hK1, hD1⟩ := hB
  rw [ht_] at hP1
  obtain ⟨hP, hD⟩ := xj (wc := [(qS, .inr (3, [.ref qSi, .int (iI (sl)), .int (iI (sf)), .int (iI (sz_))])), (qSi, .inl (cyI, 60, .inl (xA (it))))]) (w1 := [(qS, .inr (3, [.ref qSi, .int (iI (0)), .int (iI (f9)), .int (iI (n))])), (qSi, .inl (cyI, 60, .inl (xA (fun _ => 0))))]) hP hD [2, 3] rfl rfl hk1 hP1
  generalize H1 = H at hP hS ⊢
  have hP : va_P D vwCl [(qW, .inr (6, [.ref qT, .ref qA, .ref qK, .ref qC, .ref qE, .ref qI, .ref qF, .ref qH, .ref qO, .int (iI (fi))])), (qH, .inl (cyO, 4, .inr (.inr (.inr (.inr (xQ (hq))))))), (qS, .inr (3, [.ref qSi, .int (iI (0)), .int (iI (f9)), .int (iI (n))])), (qSi, .inl (cyI, 60, .inl (xA (fun _ => 0))))] H := hP
  have hD : va_D A [(qW, .inr (6, [.ref qT, .ref qA, .ref qK, .ref qC, .ref qE, .ref qI, .ref qF, .ref qH, .ref qO, .int (iI (fi))])), (qH, .inl (cyO, 4, .inr (.inr (.inr (.inr (xQ (hq))))))), (qS, .inr (3, [.ref qSi, .int (iI (0)), .int (iI (f9)), .int (iI (n))])), (qSi, .inl (cyI, 60, .inl (xA (fun _ => 0))))] := hD
  have hw_6 : True := hw
  refine lv_iload_n hx hb dX6_sheet_44 rfl (lv_at hl 3 rfl) ?_
  exact W.iret (v := iI (n)) hx hb hr (fun t_ ht_ hW_ => ⟨⟨_, (), rfl, ⟨rfl, trivial⟩, by rw [ht_]; exact hP, va_K.moved hW_.alike hK, hD⟩, hS.F ht_⟩) hS.2.2 dX6_sheet_45
set_option maxHeartbeats 1000000 in
set_option maxRecDepth 100000 in
theorem c_X6_lose_vB (l : Launch) (D : va_G) (cyI cyJ cyO : ClassId) (qW : Nat) (qT : Nat) (qA : Nat) (qK : Nat) (qC : Nat) (qE : Nat) (qI : Nat) (qF : Nat) (qH : Nat) (qO : Nat) (fi : Int) (y : Int) (h_y : -2147483648 ≤ y ∧ y ≤ 2147483647) (h_ok : ¬ (0 ≤ y ∧ y < 4)) : Met l yX6_lose wsX6_lose ({ frames := 1, cells := 0, slots := 0, locals := 20 }) (va_Pc [.ref qW, .int (iI (y))] (xR D vwCl [(qW, .inr (6, [.ref qT, .ref qA, .ref qK, .ref qC, .ref qE, .ref qI, .ref qF, .ref qH, .ref qO, .int (iI (fi))]))] (xT cyI cyJ cyO))) (xq (some (.int (iI (-2))))) 0 0 (fun _ => False) := by
  refine Met.ofW (cc := cX6_lose) (maxL := 3) (ret := (some .int)) (by decide) rfl ?_
  intro p e s m args below meth c s₁ B hml hv
  obtain ⟨rfl, hP, hK⟩ := hv
  have hx := B.exec
  have hb := B.bytes
  have hr := B.returns
  have hts := atoms_spec (ws := wsX6_lose) B.pre
  have hown : s.vm.findClass RX6 = some m.cls := findClass_of_methodNamed B.named
  have hlocks := B.notSynchronized
  have hP : va_P D vwCl [(qW, .inr (6, [.ref qT, .ref qA, .ref qK, .ref qC, .ref qE, .ref qI, .ref qF, .ref qH, .ref qO, .int (iI (fi))]))] s.heap := hP
  have hl := lv_entry ([.ref qW, .int (iI (y))]) (n := 3) (Nat.le_of_ble_eq_true rfl)
  rw [lg_entry_eq]
  generalize (lg_sl ([.ref qW, .int (iI (y))]) ++ List.replicate (3 - (lg_sl ([.ref qW, .int (iI (y))])).length) Slot.unset).toArray = ls at hl ⊢
  have hl : lv_has ls 3 [(0, .ref qW), (1, .int (iI (y)))] := hl
  refine lv_iload_n hx hb dX6_lose_0 rfl (lv_at hl 1 rfl) ?_
  have hPc := hP.sub (ws' := []) [] rfl
  refine xc_i (va_runS (As := [.int (iI (y))]) (rest := []) ⟨hx, hb, hml, hown, hts⟩ (c_X6_isSheet l D cyI cyJ cyO y (by first | exact h_y | assumption | omega)) (va_cwS 1 hts gX6_lose_X6_isSheet rfl rfl rfl (by decide +kernel) ⟨Nat.le_of_ble_eq_true rfl, Nat.le_of_ble_eq_true rfl⟩) (xpS hPc hK) rfl rfl hl.1 rfl (lv_room (Nat.le_of_ble_eq_true rfl)) dX6_lose_1 ⟨Nat.le_of_ble_eq_true rfl, Nat.le_of_ble_eq_true rfl⟩) ?_
  refine xb_if_neB (tgt := 10) hx hb dX6_lose_4 (by decide) (fun h_1 => by exfalso; omega) (fun h_1 => ?_)
  refine xi_bipush hx hb dX6_lose_7 (by decide +kernel) ?_
  exact W.iret (v := iI (-2)) hx hb hr (fun t_ ht_ _ => ⟨congrArg (fun z => Outcome.returned (some (Value.int (iI z)))) rfl, ht_⟩) (fun _ h9 => absurd h9 List.not_mem_nil) dX6_lose_9
set_option maxHeartbeats 1000000 in
set_option maxRecDepth 100000 in
theorem c_X6_lose_vN (l : Launch) (D : va_G) (cyI cyJ cyO : ClassId) (qW : Nat) (qT : Nat) (qA : Nat) (qK : Nat) (qC : Nat) (qE : Nat) (qI : Nat) (qF : Nat) (qH : Nat) (qO : Nat) (fi : Int) (hq : Int → Option Nat) (qS : Nat) (qSi : Nat) (sl : Int) (sf : Int) (sz_ : Int) (sz : Nat) (y : Int) (h_hq : hq y = some qS) (h_y : -2147483648 ≤ y ∧ y ≤ 2147483647) (h_ok : 0 ≤ y ∧ y < 4) (h_sl : sl = 1) : Met l yX6_lose wsX6_lose ({ frames := 1, cells := 0, slots := 0, locals := 21 }) (va_Pc [.ref qW, .int (iI (y))] (xM D vwCl [(qW, .inr (6, [.ref qT, .ref qA, .ref qK, .ref qC, .ref qE, .ref qI, .ref qF, .ref qH, .ref qO, .int (iI (fi))])), (qH, .inl (cyO, 4, .inr (.inr (.inr (.inr (xQ (hq))))))), (qS, .inr (3, [.ref qSi, .int (iI (sl)), .int (iI (sf)), .int (iI (sz_))]))] (xT cyI cyJ cyO) sz)) (va_Qi (fun (r : Int32) (u : Unit) => r = iI (-11) ∧ True) (xB D vwCl (xT cyI cyJ cyO) (va_A [(qW, .inr (6, [.ref qT, .ref qA, .ref qK, .ref qC, .ref qE, .ref qI, .ref qF, .ref qH, .ref qO, .int (iI (fi))])), (qH, .inl (cyO, 4, .inr (.inr (.inr (.inr (xQ (hq))))))), (qS, .inr (3, [.ref qSi, .int (iI (sl)), .int (iI (sf)), .int (iI (sz_))]))] sz) (fun u : Unit => [(qW, .inr (6, [.ref qT, .ref qA, .ref qK, .ref qC, .ref qE, .ref qI, .ref qF, .ref qH, .ref qO, .int (iI (1))])), (qH, .inl (cyO, 4, .inr (.inr (.inr (.inr (xQ (hq))))))), (qS, .inr (3, [.ref qSi, .int (iI (sl)), .int (iI (sf)), .int (iI (sz_))]))])) (va_A [(qW, .inr (6, [.ref qT, .ref qA, .ref qK, .ref qC, .ref qE, .ref qI, .ref qF, .ref qH, .ref qO, .int (iI (fi))])), (qH, .inl (cyO, 4, .inr (.inr (.inr (.inr (xQ (hq))))))), (qS, .inr (3, [.ref qSi, .int (iI (sl)), .int (iI (sf)), .int (iI (sz_))]))] sz)) 0 0 (va_A [(qW, .inr (6, [.ref qT, .ref qA, .ref qK, .ref qC, .ref qE, .ref qI, .ref qF, .ref qH, .ref qO, .int (iI (fi))])), (qH, .inl (cyO, 4, .inr (.inr (.inr (.inr (xQ (hq))))))), (qS, .inr (3, [.ref qSi, .int (iI (sl)), .int (iI (sf)), .int (iI (sz_))]))] sz) := by
  refine Met.ofW (cc := cX6_lose) (maxL := 3) (ret := (some .int)) (by decide) rfl ?_
  intro p e s m args below meth c s₁ B hml hv
  obtain ⟨rfl, hsz, hP, hK, hD0⟩ := hv
  have hx := B.exec
  have hb := B.bytes
  have hr := B.returns
  have hts := atoms_spec (ws := wsX6_lose) B.pre
  have hown : s.vm.findClass RX6 = some m.cls := findClass_of_methodNamed B.named
  have hlocks := B.notSynchronized
  have hcX3 : ∀ w ∈ wsX30, w ∈ wsX6_lose := fun _ h => List.mem_cons_of_mem _ (List.mem_append_right _ h)
  have hcX6 : ∀ w ∈ wsX60, w ∈ wsX6_lose := fun _ h => List.mem_cons_of_mem _ (List.mem_append_left _ (List.mem_append_right _ h))
  subst hsz
  have hD := hD0.self (sz := s.heap.size)
  generalize hAe : va_A [(qW, .inr (6, [.ref qT, .ref qA, .ref qK, .ref qC, .ref qE, .ref qI, .ref qF, .ref qH, .ref qO, .int (iI (fi))])), (qH, .inl (cyO, 4, .inr (.inr (.inr (.inr (xQ (hq))))))), (qS, .inr (3, [.ref qSi, .int (iI (sl)), .int (iI (sf)), .int (iI (sz_))]))] s.heap.size = A at hD ⊢
  have hA : ∀ q : Nat, s.heap.size ≤ q → A q := fun q h => by rw [← hAe]; exact Or.inr h
  have hS : va_S A s.heap s.heap [] := va_S.rf
  have hP : va_P D vwCl [(qW, .inr (6, [.ref qT, .ref qA, .ref qK, .ref qC, .ref qE, .ref qI, .ref qF, .ref qH, .ref qO, .int (iI (fi))])), (qH, .inl (cyO, 4, .inr (.inr (.inr (.inr (xQ (hq))))))), (qS, .inr (3, [.ref qSi, .int (iI (sl)), .int (iI (sf)), .int (iI (sz_))]))] s.heap := hP
  have hl := lv_entry ([.ref qW, .int (iI (y))]) (n := 3) (Nat.le_of_ble_eq_true rfl)
  rw [lg_entry_eq]
  generalize (lg_sl ([.ref qW, .int (iI (y))]) ++ List.replicate (3 - (lg_sl ([.ref qW, .int (iI (y))])).length) Slot.unset).toArray = ls at hl ⊢
  have hl : lv_has ls 3 [(0, .ref qW), (1, .int (iI (y)))] := hl
  refine lv_iload_n hx hb dX6_lose_0 rfl (lv_at hl 1 rfl) ?_
  have hPc := hP.sub (ws' := []) [] rfl
  refine xc_i (va_runS (As := [.int (iI (y))]) (rest := []) ⟨hx, hb, hml, hown, hts⟩ (c_X6_isSheet l D cyI cyJ cyO y (by first | exact h_y | assumption | omega)) (va_cwS 1 hts gX6_lose_X6_isSheet rfl rfl rfl (by decide +kernel) ⟨Nat.le_of_ble_eq_true rfl, Nat.le_of_ble_eq_true rfl⟩) (xpS hPc hK) rfl rfl hl.1 rfl (lv_room (Nat.le_of_ble_eq_true rfl)) dX6_lose_1 ⟨Nat.le_of_ble_eq_true rfl, Nat.le_of_ble_eq_true rfl⟩) ?_
  refine xb_if_neB (tgt := 10) hx hb dX6_lose_4 (by decide) (fun h_1 => ?_) (fun h_1 => by exfalso; omega)
  refine lv_aload_n hx hb dX6_lose_10 rfl (lv_at hl 0 rfl) ?_
  refine va_get (D := D) (ci := 6) (C := RX6) (T := TX6) (N := 10) hx hb hts hcX6 hown hK hP 0 rfl rfl 7 (by decide) (hts (.fieldLink RX6 67 "WallMarks" "sheets" "[LWallMarks$Sheet;") (List.mem_of_getElem? (i := 1) (by decide +kernel))) (fun _ h9 => h9) rfl dX6_lose_11 ?_
  refine lv_iload_n hx hb dX6_lose_14 rfl (lv_at hl 1 rfl) ?_
  refine xq_ald (D := D) (qv := qS) hx hb hK hP 1 2 rfl rfl (by decide) (by omega) (by exact h_hq) dX6_lose_15 ?_
  refine lv_astore_n (lv' := [(2, .ref qS), (0, .ref qW), (1, .int (iI (y)))]) hx hb dX6_lose_16 rfl hl (by decide) rfl (fun ls hl => ?_)
  refine lv_aload_n hx hb dX6_lose_17 rfl (lv_at hl 0 rfl) ?_
  refine va_get (D := D) (ci := 3) (C := RX3) (T := TX3) (N := 4) hx hb hts hcX3 hown hK hP 2 rfl rfl 1 (by decide) (hts (.fieldLink RX6 108 "WallMarks$Sheet" "lost" "Z") (List.mem_of_getElem? (i := 2) (by decide +kernel))) (fun _ h9 => h9) rfl dX6_lose_18 ?_
  refine xb_if_eq (tgt := 30) hx hb dX6_lose_21 (by decide) (by omega) (fun h_2 => by exfalso; omega) (fun h_2 => ?_)
  refine lv_aload_n hx hb dX6_lose_24 rfl (lv_at hl 1 rfl) ?_
  refine xi_const hx hb dX6_lose_25 ?_
  have hPc := hP.sub (ws' := [(qW, .inr (6, [.ref qT, .ref qA, .ref qK, .ref qC, .ref qE, .ref qI, .ref qF, .ref qH, .ref qO, .int (iI (fi))]))]) [0] rfl
  have hDc := hD.sub (ws' := [(qW, .inr (6, [.ref qT, .ref qA, .ref qK, .ref qC, .ref qE, .ref qI, .ref qF, .ref qH, .ref qO, .int (iI (fi))]))]) [0] (by decide) rfl
  have hFc := va_free (wc := [(qW, .inr (6, [.ref qT, .ref qA, .ref qK, .ref qC, .ref qE, .ref qI, .ref qF, .ref qH, .ref qO, .int (iI (fi))]))]) hD hS hA [0] rfl
  refine va_calli (va_runV (As := [.int (iI (1))]) (rest := []) ⟨hx, hb, hml, hown, hts⟩ (c_X6_found l D cyI cyJ cyO qW qT qA qK qC qE qI qF qH qO fi s.heap.size 1 (by first | exact h_n | assumption | omega)) (cwV 1 hts gX6_lose_X6_found rfl rfl rfl (by decide +kernel) ⟨Nat.le_of_ble_eq_true rfl, Nat.le_of_ble_eq_true rfl⟩) (xpVM hPc hK hDc (ci := 6) (q0 := 0) (q := (RX6, TX6, 10)) rfl rfl) rfl rfl hl.1 rfl (lv_room (Nat.le_of_ble_eq_true rfl)) dX6_lose_26 ⟨Nat.le_of_ble_eq_true rfl, Nat.le_of_ble_eq_true rfl⟩) hS (fun q _ h => hFc q h) hFc (fun r_ u_3 t_ H1 locs ht_ hvm hw hB hz1 hk1 hS => ?_)
  obtain ⟨hP1, hK1, hD1⟩ := hB
  rw [ht_] at hP1
  obtain ⟨hP, hD⟩ := xj (wc := [(qW, .inr (6, [.ref qT, .ref qA, .ref qK, .ref qC, .ref qE, .ref qI, .ref qF, .ref qH, .ref qO, .int (iI (fi))]))]) (w1 := [(qW, .inr (6, [.ref qT, .ref qA, .ref qK, .ref qC, .ref qE, .ref qI, .ref qF, .ref qH, .ref qO, .int (iI (1))]))]) hP hD [0] rfl rfl hk1 hP1
  generalize H1 = H at hP hS ⊢
  have hP : va_P D vwCl [(qW, .inr (6, [.ref qT, .ref qA, .ref qK, .ref qC, .ref qE, .ref qI, .ref qF, .ref qH, .ref qO, .int (iI (1))])), (qH, .inl (cyO, 4, .inr (.inr (.inr (.inr (xQ (hq))))))), (qS, .inr (3, [.ref qSi, .int (iI (sl)), .int (iI (sf)), .int (iI (sz_))]))] H := hP
  have hD : va_D A [(qW, .inr (6, [.ref qT, .ref qA, .ref qK, .ref qC, .ref qE, .ref qI, .ref qF, .ref qH, .ref qO, .int (iI (1))])), (qH, .inl (cyO, 4, .inr (.inr (.inr (.inr (xQ (hq))))))), (qS, .inr (3, [.ref qSi, .int (iI (sl)), .int (iI (sf)), .int (iI (sz_))]))] := hD
  obtain ⟨hre, hw_4⟩ := hw
  have hw_4 : True := hw_4
  rw [show r_ = iI (-10 - 1) from hre]
  exact W.iret (v := iI (-10 - 1)) hx hb hr (fun t_ ht_ hW_ => ⟨⟨_, (), rfl, ⟨(congrArg iI (show (-10 - 1) = (-11) from by first | rfl | omega)), trivial⟩, by rw [ht_]; exact hP, va_K.moved hW_.alike hK, hD⟩, hS.F ht_⟩) hS.2.2 dX6_lose_29
set_option maxHeartbeats 1000000 in
set_option maxRecDepth 100000 in
theorem c_X6_lose_vK (l : Launch) (D : va_G) (cyI cyJ cyO : ClassId) (qW : Nat) (qT : Nat) (qA : Nat) (qK : Nat) (qC : Nat) (qE : Nat) (qI : Nat) (qF : Nat) (qH : Nat) (qO : Nat) (fi : Int) (hq : Int → Option Nat) (qS : Nat) (qSi : Nat) (sl : Int) (sf : Int) (sz_ : Int) (sz : Nat) (y : Int) (h_hq : hq y = some qS) (h_y : -2147483648 ≤ y ∧ y ≤ 2147483647) (h_ok : 0 ≤ y ∧ y < 4) (h_sl : sl = 0) : Met l yX6_lose wsX6_lose ({ frames := 1, cells := 0, slots := 0, locals := 20 }) (va_Pc [.ref qW, .int (iI (y))] (xM D vwCl [(qW, .inr (6, [.ref qT, .ref qA, .ref qK, .ref qC, .ref qE, .ref qI, .ref qF, .ref qH, .ref qO, .int (iI (fi))])), (qH, .inl (cyO, 4, .inr (.inr (.inr (.inr (xQ (hq))))))), (qS, .inr (3, [.ref qSi, .int (iI (sl)), .int (iI (sf)), .int (iI (sz_))]))] (xT cyI cyJ cyO) sz)) (va_Qi (fun (r : Int32) (u : Unit) => r = iI (sz_) ∧ True) (xB D vwCl (xT cyI cyJ cyO) (va_A [(qW, .inr (6, [.ref qT, .ref qA, .ref qK, .ref qC, .ref qE, .ref qI, .ref qF, .ref qH, .ref qO, .int (iI (fi))])), (qH, .inl (cyO, 4, .inr (.inr (.inr (.inr (xQ (hq))))))), (qS, .inr (3, [.ref qSi, .int (iI (sl)), .int (iI (sf)), .int (iI (sz_))]))] sz) (fun u : Unit => [(qW, .inr (6, [.ref qT, .ref qA, .ref qK, .ref qC, .ref qE, .ref qI, .ref qF, .ref qH, .ref qO, .int (iI (fi))])), (qH, .inl (cyO, 4, .inr (.inr (.inr (.inr (xQ (hq))))))), (qS, .inr (3, [.ref qSi, .int (iI (1)), .int (iI (sf)), .int (iI (sz_))]))])) (va_A [(qW, .inr (6, [.ref qT, .ref qA, .ref qK, .ref qC, .ref qE, .ref qI, .ref qF, .ref qH, .ref qO, .int (iI (fi))])), (qH, .inl (cyO, 4, .inr (.inr (.inr (.inr (xQ (hq))))))), (qS, .inr (3, [.ref qSi, .int (iI (sl)), .int (iI (sf)), .int (iI (sz_))]))] sz)) 0 0 (va_A [(qW, .inr (6, [.ref qT, .ref qA, .ref qK, .ref qC, .ref qE, .ref qI, .ref qF, .ref qH, .ref qO, .int (iI (fi))])), (qH, .inl (cyO, 4, .inr (.inr (.inr (.inr (xQ (hq))))))), (qS, .inr (3, [.ref qSi, .int (iI (sl)), .int (iI (sf)), .int (iI (sz_))]))] sz) := by
  refine Met.ofW (cc := cX6_lose) (maxL := 3) (ret := (some .int)) (by decide) rfl ?_
  intro p e s m args below meth c s₁ B hml hv
  obtain ⟨rfl, hsz, hP, hK, hD0⟩ := hv
  have hx := B.exec
  have hb := B.bytes
  have hr := B.returns
  have hts := atoms_spec (ws := wsX6_lose) B.pre
  have hown : s.vm.findClass RX6 = some m.cls := findClass_of_methodNamed B.named
  have hlocks := B.notSynchronized
  have hcX3 : ∀ w ∈ wsX30, w ∈ wsX6_lose := fun _ h => List.mem_cons_of_mem _ (List.mem_append_right _ h)
  have hcX6 : ∀ w ∈ wsX60, w ∈ wsX6_lose := fun _ h => List.mem_cons_of_mem _ (List.mem_append_left _ (List.mem_append_right _ h))
  subst hsz
  have hD := hD0.self (sz := s.heap.size)
  generalize hAe : va_A [(qW, .inr (6, [.ref qT, .ref qA, .ref qK, .ref qC, .ref qE, .ref qI, .ref qF, .ref qH, .ref qO, .int (iI (fi))])), (qH, .inl (cyO, 4, .inr (.inr (.inr (.inr (xQ (hq))))))), (qS, .inr (3, [.ref qSi, .int (iI (sl)), .int (iI (sf)), .int (iI (sz_))]))] s.heap.size = A at hD ⊢
  have hA : ∀ q : Nat, s.heap.size ≤ q → A q := fun q h => by rw [← hAe]; exact Or.inr h
  have hS : va_S A s.heap s.heap [] := va_S.rf
  have hP : va_P D vwCl [(qW, .inr (6, [.ref qT, .ref qA, .ref qK, .ref qC, .ref qE, .ref qI, .ref qF, .ref qH, .ref qO, .int (iI (fi))])), (qH, .inl (cyO, 4, .inr (.inr (.inr (.inr (xQ (hq))))))), (qS, .inr (3, [.ref qSi, .int (iI (sl)), .int (iI (sf)), .int (iI (sz_))]))] s.heap := hP
  have hl := lv_entry ([.ref qW, .int (iI (y))]) (n := 3) (Nat.le_of_ble_eq_true rfl)
  rw [lg_entry_eq]
  generalize (lg_sl ([.ref qW, .int (iI (y))]) ++ List.replicate (3 - (lg_sl ([.ref qW, .int (iI (y))])).length) Slot.unset).toArray = ls at hl ⊢
  have hl : lv_has ls 3 [(0, .ref qW), (1, .int (iI (y)))] := hl
  refine lv_iload_n hx hb dX6_lose_0 rfl (lv_at hl 1 rfl) ?_
  have hPc := hP.sub (ws' := []) [] rfl
  refine xc_i (va_runS (As := [.int (iI (y))]) (rest := []) ⟨hx, hb, hml, hown, hts⟩ (c_X6_isSheet l D cyI cyJ cyO y (by first | exact h_y | assumption | omega)) (va_cwS 1 hts gX6_lose_X6_isSheet rfl rfl rfl (by decide +kernel) ⟨Nat.le_of_ble_eq_true rfl, Nat.le_of_ble_eq_true rfl⟩) (xpS hPc hK) rfl rfl hl.1 rfl (lv_room (Nat.le_of_ble_eq_true rfl)) dX6_lose_1 ⟨Nat.le_of_ble_eq_true rfl, Nat.le_of_ble_eq_true rfl⟩) ?_
  refine xb_if_neB (tgt := 10) hx hb dX6_lose_4 (by decide) (fun h_1 => ?_) (fun h_1 => by exfalso; omega)
  refine lv_aload_n hx hb dX6_lose_10 rfl (lv_at hl 0 rfl) ?_
  refine va_get (D := D) (ci := 6) (C := RX6) (T := TX6) (N := 10) hx hb hts hcX6 hown hK hP 0 rfl rfl 7 (by decide) (hts (.fieldLink RX6 67 "WallMarks" "sheets" "[LWallMarks$Sheet;") (List.mem_of_getElem? (i := 1) (by decide +kernel))) (fun _ h9 => h9) rfl dX6_lose_11 ?_
  refine lv_iload_n hx hb dX6_lose_14 rfl (lv_at hl 1 rfl) ?_
  refine xq_ald (D := D) (qv := qS) hx hb hK hP 1 2 rfl rfl (by decide) (by omega) (by exact h_hq) dX6_lose_15 ?_
  refine lv_astore_n (lv' := [(2, .ref qS), (0, .ref qW), (1, .int (iI (y)))]) hx hb dX6_lose_16 rfl hl (by decide) rfl (fun ls hl => ?_)
  refine lv_aload_n hx hb dX6_lose_17 rfl (lv_at hl 0 rfl) ?_
  refine va_get (D := D) (ci := 3) (C := RX3) (T := TX3) (N := 4) hx hb hts hcX3 hown hK hP 2 rfl rfl 1 (by decide) (hts (.fieldLink RX6 108 "WallMarks$Sheet" "lost" "Z") (List.mem_of_getElem? (i := 2) (by decide +kernel))) (fun _ h9 => h9) rfl dX6_lose_18 ?_
  refine xb_if_eq (tgt := 30) hx hb dX6_lose_21 (by decide) (by omega) (fun h_2 => ?_) (fun h_2 => by exfalso; omega)
  refine lv_aload_n hx hb dX6_lose_30 rfl (lv_at hl 0 rfl) ?_
  refine xi_const hx hb dX6_lose_31 ?_
  refine va_put (D := D) (ci := 3) (v := .int (iI (1))) (ty := .boolean) (C := RX3) (T := TX3) (N := 4) hx hb hts hcX3 tyX3 tyX3_ok nmX3 hown hK hP hD hS 2 rfl rfl 1 (by decide) (hts (.fieldLink RX6 108 "WallMarks$Sheet" "lost" "Z") (List.mem_of_getElem? (i := 2) (by decide +kernel))) (fun _ h9 => h9) rfl (by decide +kernel) (by decide +kernel) (by decide +kernel) (Nat.le_of_ble_eq_true rfl) dX6_lose_32 (fun H locs hP hD hS => ?_)
  have hP : va_P D vwCl [(qW, .inr (6, [.ref qT, .ref qA, .ref qK, .ref qC, .ref qE, .ref qI, .ref qF, .ref qH, .ref qO, .int (iI (fi))])), (qH, .inl (cyO, 4, .inr (.inr (.inr (.inr (xQ (hq))))))), (qS, .inr (3, [.ref qSi, .int (iI (1)), .int (iI (sf)), .int (iI (sz_))]))] H := hP
  have hD : va_D A [(qW, .inr (6, [.ref qT, .ref qA, .ref qK, .ref qC, .ref qE, .ref qI, .ref qF, .ref qH, .ref qO, .int (iI (fi))])), (qH, .inl (cyO, 4, .inr (.inr (.inr (.inr (xQ (hq))))))), (qS, .inr (3, [.ref qSi, .int (iI (1)), .int (iI (sf)), .int (iI (sz_))]))] := hD
  refine lv_aload_n hx hb dX6_lose_35 rfl (lv_at hl 0 rfl) ?_
  refine va_get (D := D) (ci := 3) (C := RX3) (T := TX3) (N := 4) hx hb hts hcX3 hown hK hP 2 rfl rfl 3 (by decide) (hts (.fieldLink RX6 116 "WallMarks$Sheet" "size" "I") (List.mem_of_getElem? (i := 3) (by decide +kernel))) (fun _ h9 => h9) rfl dX6_lose_36 ?_
  exact W.iret (v := iI (sz_)) hx hb hr (fun t_ ht_ hW_ => ⟨⟨_, (), rfl, ⟨rfl, trivial⟩, by rw [ht_]; exact hP, va_K.moved hW_.alike hK, hD⟩, hS.F ht_⟩) hS.2.2 dX6_lose_39
set_option maxHeartbeats 1000000 in
set_option maxRecDepth 100000 in
theorem c_X6_findingAt (l : Launch) (D : va_G) (cyI cyJ cyO : ClassId) (qS : Nat) (qSi : Nat) (sl : Int) (sf : Int) (sz_ : Int) (f9 : Int) (i : Int) (h_sl : sl = 0 ∨ sl = 1) (h_sf : 0 ≤ sf ∧ sf ≤ 2) (h_sz_ : 0 ≤ sz_ ∧ sz_ ≤ 60) (h_f9 : -2147483648 ≤ f9 ∧ f9 ≤ 2147483647) (h_i : -2147483648 ≤ i ∧ i ≤ 2147483647) : Met l yX6_findingAt wsX6_findingAt ({ frames := 1, cells := 0, slots := 0, locals := 22 }) (va_Pc [.ref qS, .int (iI (f9)), .int (iI (i))] (xR D vwCl [(qS, .inr (3, [.ref qSi, .int (iI (sl)), .int (iI (sf)), .int (iI (sz_))]))] (xT cyI cyJ cyO))) (xq (some (.int (iI (fdF sl sf sz_ f9 i))))) 0 0 (fun _ => False) := by
  refine Met.ofW (cc := cX6_findingAt) (maxL := 3) (ret := (some .int)) (by decide) rfl ?_
  intro p e s m args below meth c s₁ B hml hv
  obtain ⟨rfl, hP, hK⟩ := hv
  have hx := B.exec
  have hb := B.bytes
  have hr := B.returns
  have hts := atoms_spec (ws := wsX6_findingAt) B.pre
  have hown : s.vm.findClass RX6 = some m.cls := findClass_of_methodNamed B.named
  have hlocks := B.notSynchronized
  have hcX3 : ∀ w ∈ wsX30, w ∈ wsX6_findingAt := fun _ h => List.mem_cons_of_mem _ (List.mem_append_right _ h)
  have hP : va_P D vwCl [(qS, .inr (3, [.ref qSi, .int (iI (sl)), .int (iI (sf)), .int (iI (sz_))]))] s.heap := hP
  have hl := lv_entry ([.ref qS, .int (iI (f9)), .int (iI (i))]) (n := 3) (Nat.le_of_ble_eq_true rfl)
  rw [lg_entry_eq]
  generalize (lg_sl ([.ref qS, .int (iI (f9)), .int (iI (i))]) ++ List.replicate (3 - (lg_sl ([.ref qS, .int (iI (f9)), .int (iI (i))])).length) Slot.unset).toArray = ls at hl ⊢
  have hl : lv_has ls 3 [(0, .ref qS), (1, .int (iI (f9))), (2, .int (iI (i)))] := hl
  refine lv_aload_n hx hb dX6_findingAt_0 rfl (lv_at hl 0 rfl) ?_
  refine va_get (D := D) (ci := 3) (C := RX3) (T := TX3) (N := 4) hx hb hts hcX3 hown hK hP 0 rfl rfl 1 (by decide) (hts (.fieldLink RX6 108 "WallMarks$Sheet" "lost" "Z") (List.mem_of_getElem? (i := 1) (by decide +kernel))) (fun _ h9 => h9) rfl dX6_findingAt_1 ?_
  refine xb_if_eq (tgt := 9) hx hb dX6_findingAt_4 (by decide) (by omega) (fun h_1 => ?_) (fun h_1 => ?_)
  · refine lv_aload_n hx hb dX6_findingAt_9 rfl (lv_at hl 0 rfl) ?_
    refine va_get (D := D) (ci := 3) (C := RX3) (T := TX3) (N := 4) hx hb hts hcX3 hown hK hP 0 rfl rfl 2 (by decide) (hts (.fieldLink RX6 288 "WallMarks$Sheet" "form" "I") (List.mem_of_getElem? (i := 2) (by decide +kernel))) (fun _ h9 => h9) rfl dX6_findingAt_10 ?_
    refine lv_iload_n hx hb dX6_findingAt_13 rfl (lv_at hl 1 rfl) ?_
    refine xb_icmp_eq (tgt := 19) hx hb dX6_findingAt_14 (by decide) (by omega) (fun h_2 => ?_) (fun h_2 => ?_)
    · refine lv_aload_n hx hb dX6_findingAt_19 rfl (lv_at hl 0 rfl) ?_
      refine lv_iload_n hx hb dX6_findingAt_20 rfl (lv_at hl 2 rfl) ?_
      refine xi_const hx hb dX6_findingAt_21 ?_
      have hPc := hP.sub (ws' := [(qS, .inr (3, [.ref qSi, .int (iI (sl)), .int (iI (sf)), .int (iI (sz_))]))]) [0] rfl
      refine xc_i (va_runV (As := [.int (iI (i)), .int (iI (1))]) (rest := []) ⟨hx, hb, hml, hown, hts⟩ (c_X3_holds l D cyI cyJ cyO qS qSi sl sf sz_ i 1 (by first | exact h_sz_ | assumption | omega) (by first | exact h_i | assumption | omega) (by first | exact h_n | assumption | omega)) (cwV 2 hts gX6_findingAt_X3_holds rfl rfl rfl (by decide +kernel) ⟨Nat.le_of_ble_eq_true rfl, Nat.le_of_ble_eq_true rfl⟩) (xpV hPc hK (ci := 3) (q0 := 0) (q := (RX3, TX3, 4)) rfl rfl) rfl rfl hl.1 rfl (lv_room (Nat.le_of_ble_eq_true rfl)) dX6_findingAt_22 ⟨Nat.le_of_ble_eq_true rfl, Nat.le_of_ble_eq_true rfl⟩) ?_
      refine xb_if_eqB (tgt := 32) hx hb dX6_findingAt_25 (by decide) (fun h_3 => ?_) (fun h_3 => ?_)
      · refine xi_const hx hb dX6_findingAt_32 ?_
        exact W.iret (v := iI (2)) hx hb hr (fun t_ ht_ _ => ⟨congrArg (fun z => Outcome.returned (some (Value.int (iI z)))) (show (2) = (fdF sl sf sz_ f9 i) from by unfold fdF; first | rw [if_pos (by omega)] | rw [if_neg (by omega), if_pos (by omega)] | rw [if_neg (by omega), if_neg (by omega), if_pos (by omega)] | rw [if_neg (by omega), if_neg (by omega), if_neg (by omega)]), ht_⟩) (fun _ h9 => absurd h9 List.not_mem_nil) dX6_findingAt_33
      · refine xi_const hx hb dX6_findingAt_28 ?_
        refine lv_goto (tgt := 33) hx hb dX6_findingAt_29 (by decide) ?_
        exact W.iret (v := iI (0)) hx hb hr (fun t_ ht_ _ => ⟨congrArg (fun z => Outcome.returned (some (Value.int (iI z)))) (show (0) = (fdF sl sf sz_ f9 i) from by unfold fdF; first | rw [if_pos (by omega)] | rw [if_neg (by omega), if_pos (by omega)] | rw [if_neg (by omega), if_neg (by omega), if_pos (by omega)] | rw [if_neg (by omega), if_neg (by omega), if_neg (by omega)]), ht_⟩) (fun _ h9 => absurd h9 List.not_mem_nil) dX6_findingAt_33
    · refine xi_const hx hb dX6_findingAt_17 ?_
      exact W.iret (v := iI (3)) hx hb hr (fun t_ ht_ _ => ⟨congrArg (fun z => Outcome.returned (some (Value.int (iI z)))) (show (3) = (fdF sl sf sz_ f9 i) from by unfold fdF; first | rw [if_pos (by omega)] | rw [if_neg (by omega), if_pos (by omega)] | rw [if_neg (by omega), if_neg (by omega), if_pos (by omega)] | rw [if_neg (by omega), if_neg (by omega), if_neg (by omega)]), ht_⟩) (fun _ h9 => absurd h9 List.not_mem_nil) dX6_findingAt_18
  · refine xi_const hx hb dX6_findingAt_7 ?_
    exact W.iret (v := iI (1)) hx hb hr (fun t_ ht_ _ => ⟨congrArg (fun z => Outcome.returned (some (Value.int (iI z)))) (show (1) = (fdF sl sf sz_ f9 i) from by unfold fdF; first | rw [if_pos (by omega)] | rw [if_neg (by omega), if_pos (by omega)] | rw [if_neg (by omega), if_neg (by omega), if_pos (by omega)] | rw [if_neg (by omega), if_neg (by omega), if_neg (by omega)]), ht_⟩) (fun _ h9 => absurd h9 List.not_mem_nil) dX6_findingAt_8
set_option maxHeartbeats 1000000 in
set_option maxRecDepth 100000 in
theorem c_X6_lay_vB (l : Launch) (D : va_G) (cyI cyJ cyO : ClassId) (qW : Nat) (qT : Nat) (qA : Nat) (qK : Nat) (qC : Nat) (qE : Nat) (qI : Nat) (qF : Nat) (qH : Nat) (qO : Nat) (fi : Int) (y : Int) (f9 : Int) (i : Int) (v : Int) (h_y : -2147483648 ≤ y ∧ y ≤ 2147483647) (h_f9 : -2147483648 ≤ f9 ∧ f9 ≤ 2147483647) (h_i : -2147483648 ≤ i ∧ i ≤ 2147483647) (h_v : -2147483648 ≤ v ∧ v ≤ 2147483647) (h_ok : ¬ ((0 ≤ y ∧ y < 4) ∧ 0 ≤ f9 ∧ f9 ≤ 2)) : Met l yX6_lay wsX6_lay ({ frames := 1, cells := 0, slots := 0, locals := 20 }) (va_Pc [.ref qW, .int (iI (y)), .int (iI (f9)), .int (iI (i)), .int (iI (v))] (xR D vwCl [(qW, .inr (6, [.ref qT, .ref qA, .ref qK, .ref qC, .ref qE, .ref qI, .ref qF, .ref qH, .ref qO, .int (iI (fi))]))] (xT cyI cyJ cyO))) (xq (some (.int (iI (-2))))) 0 0 (fun _ => False) := by
  refine Met.ofW (cc := cX6_lay) (maxL := 6) (ret := (some .int)) (by decide) rfl ?_
  intro p e s m args below meth c s₁ B hml hv
  obtain ⟨rfl, hP, hK⟩ := hv
  have hx := B.exec
  have hb := B.bytes
  have hr := B.returns
  have hts := atoms_spec (ws := wsX6_lay) B.pre
  have hown : s.vm.findClass RX6 = some m.cls := findClass_of_methodNamed B.named
  have hlocks := B.notSynchronized
  have hP : va_P D vwCl [(qW, .inr (6, [.ref qT, .ref qA, .ref qK, .ref qC, .ref qE, .ref qI, .ref qF, .ref qH, .ref qO, .int (iI (fi))]))] s.heap := hP
  have hl := lv_entry ([.ref qW, .int (iI (y)), .int (iI (f9)), .int (iI (i)), .int (iI (v))]) (n := 6) (Nat.le_of_ble_eq_true rfl)
  rw [lg_entry_eq]
  generalize (lg_sl ([.ref qW, .int (iI (y)), .int (iI (f9)), .int (iI (i)), .int (iI (v))]) ++ List.replicate (6 - (lg_sl ([.ref qW, .int (iI (y)), .int (iI (f9)), .int (iI (i)), .int (iI (v))])).length) Slot.unset).toArray = ls at hl ⊢
  have hl : lv_has ls 6 [(0, .ref qW), (1, .int (iI (y))), (2, .int (iI (f9))), (3, .int (iI (i))), (4, .int (iI (v)))] := hl
  refine lv_iload_n hx hb dX6_lay_0 rfl (lv_at hl 1 rfl) ?_
  have hPc := hP.sub (ws' := []) [] rfl
  refine xc_i (va_runS (As := [.int (iI (y))]) (rest := []) ⟨hx, hb, hml, hown, hts⟩ (c_X6_isSheet l D cyI cyJ cyO y (by first | exact h_y | assumption | omega)) (va_cwS 1 hts gX6_lay_X6_isSheet rfl rfl rfl (by decide +kernel) ⟨Nat.le_of_ble_eq_true rfl, Nat.le_of_ble_eq_true rfl⟩) (xpS hPc hK) rfl rfl hl.1 rfl (lv_room (Nat.le_of_ble_eq_true rfl)) dX6_lay_1 ⟨Nat.le_of_ble_eq_true rfl, Nat.le_of_ble_eq_true rfl⟩) ?_
  refine xb_if_eqB (tgt := 14) hx hb dX6_lay_4 (by decide) (fun h_1 => ?_) (fun h_1 => ?_)
  · refine xi_bipush hx hb dX6_lay_14 (by decide +kernel) ?_
    exact W.iret (v := iI (-2)) hx hb hr (fun t_ ht_ _ => ⟨congrArg (fun z => Outcome.returned (some (Value.int (iI z)))) rfl, ht_⟩) (fun _ h9 => absurd h9 List.not_mem_nil) dX6_lay_16
  · refine lv_iload_n hx hb dX6_lay_7 rfl (lv_at hl 2 rfl) ?_
    have hPc := hP.sub (ws' := []) [] rfl
    refine xc_i (va_runS (As := [.int (iI (f9))]) (rest := []) ⟨hx, hb, hml, hown, hts⟩ (c_X6_isForm l D cyI cyJ cyO f9 (by first | exact h_y | assumption | omega)) (va_cwS 1 hts gX6_lay_X6_isForm rfl rfl rfl (by decide +kernel) ⟨Nat.le_of_ble_eq_true rfl, Nat.le_of_ble_eq_true rfl⟩) (xpS hPc hK) rfl rfl hl.1 rfl (lv_room (Nat.le_of_ble_eq_true rfl)) dX6_lay_8 ⟨Nat.le_of_ble_eq_true rfl, Nat.le_of_ble_eq_true rfl⟩) ?_
    refine xb_if_neB (tgt := 17) hx hb dX6_lay_11 (by decide) (fun h_2 => by exfalso; omega) (fun h_2 => ?_)
    refine xi_bipush hx hb dX6_lay_14 (by decide +kernel) ?_
    exact W.iret (v := iI (-2)) hx hb hr (fun t_ ht_ _ => ⟨congrArg (fun z => Outcome.returned (some (Value.int (iI z)))) rfl, ht_⟩) (fun _ h9 => absurd h9 List.not_mem_nil) dX6_lay_16
set_option maxHeartbeats 1000000 in
set_option maxRecDepth 100000 in
theorem c_X6_lay_vN (l : Launch) (D : va_G) (cyI cyJ cyO : ClassId) (qW : Nat) (qT : Nat) (qA : Nat) (qK : Nat) (qC : Nat) (qE : Nat) (qI : Nat) (qF : Nat) (qH : Nat) (qO : Nat) (fi : Int) (hq : Int → Option Nat) (qS : Nat) (qSi : Nat) (sl : Int) (sf : Int) (sz_ : Int) (sz : Nat) (y : Int) (f9 : Int) (i : Int) (v : Int) (h_hq : hq y = some qS) (h_sl : sl = 0 ∨ sl = 1) (h_sf : 0 ≤ sf ∧ sf ≤ 2) (h_sz_ : 0 ≤ sz_ ∧ sz_ ≤ 60) (h_y : -2147483648 ≤ y ∧ y ≤ 2147483647) (h_f9 : -2147483648 ≤ f9 ∧ f9 ≤ 2147483647) (h_i : -2147483648 ≤ i ∧ i ≤ 2147483647) (h_v : -2147483648 ≤ v ∧ v ≤ 2147483647) (h_ok : (0 ≤ y ∧ y < 4) ∧ 0 ≤ f9 ∧ f9 ≤ 2) (h_fd : fdF sl sf sz_ f9 i ≠ 0) : Met l yX6_lay wsX6_lay ({ frames := 2, cells := 0, slots := 0, locals := 44 }) (va_Pc [.ref qW, .int (iI (y)), .int (iI (f9)), .int (iI (i)), .int (iI (v))] (xM D vwCl [(qW, .inr (6, [.ref qT, .ref qA, .ref qK, .ref qC, .ref qE, .ref qI, .ref qF, .ref qH, .ref qO, .int (iI (fi))])), (qH, .inl (cyO, 4, .inr (.inr (.inr (.inr (xQ (hq))))))), (qS, .inr (3, [.ref qSi, .int (iI (sl)), .int (iI (sf)), .int (iI (sz_))]))] (xT cyI cyJ cyO) sz)) (va_Qi (fun (r : Int32) (u : Unit) => r = iI (-10 - fdF sl sf sz_ f9 i) ∧ True) (xB D vwCl (xT cyI cyJ cyO) (va_A [(qW, .inr (6, [.ref qT, .ref qA, .ref qK, .ref qC, .ref qE, .ref qI, .ref qF, .ref qH, .ref qO, .int (iI (fi))])), (qH, .inl (cyO, 4, .inr (.inr (.inr (.inr (xQ (hq))))))), (qS, .inr (3, [.ref qSi, .int (iI (sl)), .int (iI (sf)), .int (iI (sz_))]))] sz) (fun u : Unit => [(qW, .inr (6, [.ref qT, .ref qA, .ref qK, .ref qC, .ref qE, .ref qI, .ref qF, .ref qH, .ref qO, .int (iI (fdF sl sf sz_ f9 i))])), (qH, .inl (cyO, 4, .inr (.inr (.inr (.inr (xQ (hq))))))), (qS, .inr (3, [.ref qSi, .int (iI (sl)), .int (iI (sf)), .int (iI (sz_))]))])) (va_A [(qW, .inr (6, [.ref qT, .ref qA, .ref qK, .ref qC, .ref qE, .ref qI, .ref qF, .ref qH, .ref qO, .int (iI (fi))])), (qH, .inl (cyO, 4, .inr (.inr (.inr (.inr (xQ (hq))))))), (qS, .inr (3, [.ref qSi, .int (iI (sl)), .int (iI (sf)), .int (iI (sz_))]))] sz)) 0 0 (va_A [(qW, .inr (6, [.ref qT, .ref qA, .ref qK, .ref qC, .ref qE, .ref qI, .ref qF, .ref qH, .ref qO, .int (iI (fi))])), (qH, .inl (cyO, 4, .inr (.inr (.inr (.inr (xQ (hq))))))), (qS, .inr (3, [.ref qSi, .int (iI (sl)), .int (iI (sf)), .int (iI (sz_))]))] sz) := by
  refine Met.ofW (cc := cX6_lay) (maxL := 6) (ret := (some .int)) (by decide) rfl ?_
  intro p e s m args below meth c s₁ B hml hv
  obtain ⟨rfl, hsz, hP, hK, hD0⟩ := hv
  have hx := B.exec
  have hb := B.bytes
  have hr := B.returns
  have hts := atoms_spec (ws := wsX6_lay) B.pre
  have hown : s.vm.findClass RX6 = some m.cls := findClass_of_methodNamed B.named
  have hlocks := B.notSynchronized
  have hcX6 : ∀ w ∈ wsX60, w ∈ wsX6_lay := fun _ h => List.mem_cons_of_mem _ (List.mem_append_left _ (List.mem_append_right _ h))
  subst hsz
  have hD := hD0.self (sz := s.heap.size)
  generalize hAe : va_A [(qW, .inr (6, [.ref qT, .ref qA, .ref qK, .ref qC, .ref qE, .ref qI, .ref qF, .ref qH, .ref qO, .int (iI (fi))])), (qH, .inl (cyO, 4, .inr (.inr (.inr (.inr (xQ (hq))))))), (qS, .inr (3, [.ref qSi, .int (iI (sl)), .int (iI (sf)), .int (iI (sz_))]))] s.heap.size = A at hD ⊢
  have hA : ∀ q : Nat, s.heap.size ≤ q → A q := fun q h => by rw [← hAe]; exact Or.inr h
  have hS : va_S A s.heap s.heap [] := va_S.rf
  have hP : va_P D vwCl [(qW, .inr (6, [.ref qT, .ref qA, .ref qK, .ref qC, .ref qE, .ref qI, .ref qF, .ref qH, .ref qO, .int (iI (fi))])), (qH, .inl (cyO, 4, .inr (.inr (.inr (.inr (xQ (hq))))))), (qS, .inr (3, [.ref qSi, .int (iI (sl)), .int (iI (sf)), .int (iI (sz_))]))] s.heap := hP
  have hl := lv_entry ([.ref qW, .int (iI (y)), .int (iI (f9)), .int (iI (i)), .int (iI (v))]) (n := 6) (Nat.le_of_ble_eq_true rfl)
  rw [lg_entry_eq]
  generalize (lg_sl ([.ref qW, .int (iI (y)), .int (iI (f9)), .int (iI (i)), .int (iI (v))]) ++ List.replicate (6 - (lg_sl ([.ref qW, .int (iI (y)), .int (iI (f9)), .int (iI (i)), .int (iI (v))])).length) Slot.unset).toArray = ls at hl ⊢
  have hl : lv_has ls 6 [(0, .ref qW), (1, .int (iI (y))), (2, .int (iI (f9))), (3, .int (iI (i))), (4, .int (iI (v)))] := hl
  refine lv_iload_n hx hb dX6_lay_0 rfl (lv_at hl 1 rfl) ?_
  have hPc := hP.sub (ws' := []) [] rfl
  refine xc_i (va_runS (As := [.int (iI (y))]) (rest := []) ⟨hx, hb, hml, hown, hts⟩ (c_X6_isSheet l D cyI cyJ cyO y (by first | exact h_y | assumption | omega)) (va_cwS 1 hts gX6_lay_X6_isSheet rfl rfl rfl (by decide +kernel) ⟨Nat.le_of_ble_eq_true rfl, Nat.le_of_ble_eq_true rfl⟩) (xpS hPc hK) rfl rfl hl.1 rfl (lv_room (Nat.le_of_ble_eq_true rfl)) dX6_lay_1 ⟨Nat.le_of_ble_eq_true rfl, Nat.le_of_ble_eq_true rfl⟩) ?_
  refine xb_if_eqB (tgt := 14) hx hb dX6_lay_4 (by decide) (fun h_1 => by exfalso; omega) (fun h_1 => ?_)
  refine lv_iload_n hx hb dX6_lay_7 rfl (lv_at hl 2 rfl) ?_
  have hPc := hP.sub (ws' := []) [] rfl
  refine xc_i (va_runS (As := [.int (iI (f9))]) (rest := []) ⟨hx, hb, hml, hown, hts⟩ (c_X6_isForm l D cyI cyJ cyO f9 (by first | exact h_y | assumption | omega)) (va_cwS 1 hts gX6_lay_X6_isForm rfl rfl rfl (by decide +kernel) ⟨Nat.le_of_ble_eq_true rfl, Nat.le_of_ble_eq_true rfl⟩) (xpS hPc hK) rfl rfl hl.1 rfl (lv_room (Nat.le_of_ble_eq_true rfl)) dX6_lay_8 ⟨Nat.le_of_ble_eq_true rfl, Nat.le_of_ble_eq_true rfl⟩) ?_
  refine xb_if_neB (tgt := 17) hx hb dX6_lay_11 (by decide) (fun h_2 => ?_) (fun h_2 => by exfalso; omega)
  refine lv_aload_n hx hb dX6_lay_17 rfl (lv_at hl 0 rfl) ?_
  refine va_get (D := D) (ci := 6) (C := RX6) (T := TX6) (N := 10) hx hb hts hcX6 hown hK hP 0 rfl rfl 7 (by decide) (hts (.fieldLink RX6 67 "WallMarks" "sheets" "[LWallMarks$Sheet;") (List.mem_of_getElem? (i := 1) (by decide +kernel))) (fun _ h9 => h9) rfl dX6_lay_18 ?_
  refine lv_iload_n hx hb dX6_lay_21 rfl (lv_at hl 1 rfl) ?_
  refine xq_ald (D := D) (qv := qS) hx hb hK hP 1 2 rfl rfl (by decide) (by omega) (by exact h_hq) dX6_lay_22 ?_
  refine lv_iload_n hx hb dX6_lay_23 rfl (lv_at hl 2 rfl) ?_
  refine lv_iload_n hx hb dX6_lay_24 rfl (lv_at hl 3 rfl) ?_
  have hf_3 := fdF_in sl sf sz_ f9 i
  have hPc := hP.sub (ws' := [(qS, .inr (3, [.ref qSi, .int (iI (sl)), .int (iI (sf)), .int (iI (sz_))]))]) [2] rfl
  refine xc_i (va_runS (As := [.ref qS, .int (iI (f9)), .int (iI (i))]) (rest := []) ⟨hx, hb, hml, hown, hts⟩ (c_X6_findingAt l D cyI cyJ cyO qS qSi sl sf sz_ f9 i (by first | exact h_sl | assumption | omega) (by first | exact h_sf | assumption | omega) (by first | exact h_sz_ | assumption | omega) (by first | exact h_f9 | assumption | omega) (by first | exact h_i | assumption | omega)) (va_cwS 3 hts gX6_lay_X6_findingAt rfl rfl rfl (by decide +kernel) ⟨Nat.le_of_ble_eq_true rfl, Nat.le_of_ble_eq_true rfl⟩) (xpS hPc hK) rfl rfl hl.1 rfl (lv_room (Nat.le_of_ble_eq_true rfl)) dX6_lay_25 ⟨Nat.le_of_ble_eq_true rfl, Nat.le_of_ble_eq_true rfl⟩) ?_
  refine lv_istore (lv' := [(5, .int (iI (fdF sl sf sz_ f9 i))), (0, .ref qW), (1, .int (iI (y))), (2, .int (iI (f9))), (3, .int (iI (i))), (4, .int (iI (v)))]) hx hb dX6_lay_28 hl (by decide) rfl (fun ls hl => ?_)
  refine lv_iload hx hb dX6_lay_30 (lv_at hl 0 rfl) ?_
  refine xb_if_eq (tgt := 42) hx hb dX6_lay_32 (by decide) (by omega) (fun h_4 => by exfalso; omega) (fun h_4 => ?_)
  refine lv_aload_n hx hb dX6_lay_35 rfl (lv_at hl 1 rfl) ?_
  refine lv_iload hx hb dX6_lay_36 (lv_at hl 0 rfl) ?_
  have hPc := hP.sub (ws' := [(qW, .inr (6, [.ref qT, .ref qA, .ref qK, .ref qC, .ref qE, .ref qI, .ref qF, .ref qH, .ref qO, .int (iI (fi))]))]) [0] rfl
  have hDc := hD.sub (ws' := [(qW, .inr (6, [.ref qT, .ref qA, .ref qK, .ref qC, .ref qE, .ref qI, .ref qF, .ref qH, .ref qO, .int (iI (fi))]))]) [0] (by decide) rfl
  have hFc := va_free (wc := [(qW, .inr (6, [.ref qT, .ref qA, .ref qK, .ref qC, .ref qE, .ref qI, .ref qF, .ref qH, .ref qO, .int (iI (fi))]))]) hD hS hA [0] rfl
  refine va_calli (va_runV (As := [.int (iI (fdF sl sf sz_ f9 i))]) (rest := []) ⟨hx, hb, hml, hown, hts⟩ (c_X6_found l D cyI cyJ cyO qW qT qA qK qC qE qI qF qH qO fi s.heap.size (fdF sl sf sz_ f9 i) (by first | exact h_n | assumption | omega)) (cwV 1 hts gX6_lay_X6_found rfl rfl rfl (by decide +kernel) ⟨Nat.le_of_ble_eq_true rfl, Nat.le_of_ble_eq_true rfl⟩) (xpVM hPc hK hDc (ci := 6) (q0 := 0) (q := (RX6, TX6, 10)) rfl rfl) rfl rfl hl.1 rfl (lv_room (Nat.le_of_ble_eq_true rfl)) dX6_lay_38 ⟨Nat.le_of_ble_eq_true rfl, Nat.le_of_ble_eq_true rfl⟩) hS (fun q _ h => hFc q h) hFc (fun r_ u_5 t_ H1 locs ht_ hvm hw hB hz1 hk1 hS => ?_)
  obtain ⟨hP1, hK1, hD1⟩ := hB
  rw [ht_] at hP1
  obtain ⟨hP, hD⟩ := xj (wc := [(qW, .inr (6, [.ref qT, .ref qA, .ref qK, .ref qC, .ref qE, .ref qI, .ref qF, .ref qH, .ref qO, .int (iI (fi))]))]) (w1 := [(qW, .inr (6, [.ref qT, .ref qA, .ref qK, .ref qC, .ref qE, .ref qI, .ref qF, .ref qH, .ref qO, .int (iI ((fdF sl sf sz_ f9 i)))]))]) hP hD [0] rfl rfl hk1 hP1
  generalize H1 = H at hP hS ⊢
  have hP : va_P D vwCl [(qW, .inr (6, [.ref qT, .ref qA, .ref qK, .ref qC, .ref qE, .ref qI, .ref qF, .ref qH, .ref qO, .int (iI ((fdF sl sf sz_ f9 i)))])), (qH, .inl (cyO, 4, .inr (.inr (.inr (.inr (xQ (hq))))))), (qS, .inr (3, [.ref qSi, .int (iI (sl)), .int (iI (sf)), .int (iI (sz_))]))] H := hP
  have hD : va_D A [(qW, .inr (6, [.ref qT, .ref qA, .ref qK, .ref qC, .ref qE, .ref qI, .ref qF, .ref qH, .ref qO, .int (iI ((fdF sl sf sz_ f9 i)))])), (qH, .inl (cyO, 4, .inr (.inr (.inr (.inr (xQ (hq))))))), (qS, .inr (3, [.ref qSi, .int (iI (sl)), .int (iI (sf)), .int (iI (sz_))]))] := hD
  obtain ⟨hre, hw_6⟩ := hw
  have hw_6 : True := hw_6
  rw [show r_ = iI (-10 - (fdF sl sf sz_ f9 i)) from hre]
  have he0 : ((fdF sl sf sz_ f9 i) : Int) = (fdF sl sf sz_ f9 i) := by first | rfl | omega
  have hW8 := congrArg (fun (xv0 : Int) => ([(qW, .inr (6, [.ref qT, .ref qA, .ref qK, .ref qC, .ref qE, .ref qI, .ref qF, .ref qH, .ref qO, .int (iI (xv0))])), (qH, .inl (cyO, 4, .inr (.inr (.inr (.inr (xQ (hq))))))), (qS, .inr (3, [.ref qSi, .int (iI (sl)), .int (iI (sf)), .int (iI (sz_))]))] : va_W)) he0
  have hW9 : ([(qW, .inr (6, [.ref qT, .ref qA, .ref qK, .ref qC, .ref qE, .ref qI, .ref qF, .ref qH, .ref qO, .int (iI ((fdF sl sf sz_ f9 i)))])), (qH, .inl (cyO, 4, .inr (.inr (.inr (.inr (xQ (hq))))))), (qS, .inr (3, [.ref qSi, .int (iI (sl)), .int (iI (sf)), .int (iI (sz_))]))] : va_W) = [(qW, .inr (6, [.ref qT, .ref qA, .ref qK, .ref qC, .ref qE, .ref qI, .ref qF, .ref qH, .ref qO, .int (iI (fdF sl sf sz_ f9 i))])), (qH, .inl (cyO, 4, .inr (.inr (.inr (.inr (xQ (hq))))))), (qS, .inr (3, [.ref qSi, .int (iI (sl)), .int (iI (sf)), .int (iI (sz_))]))] := hW8
  rw [hW9] at hP hD
  exact W.iret (v := iI (-10 - (fdF sl sf sz_ f9 i))) hx hb hr (fun t_ ht_ hW_ => ⟨⟨_, (), rfl, ⟨(congrArg iI (show (-10 - (fdF sl sf sz_ f9 i)) = (-10 - fdF sl sf sz_ f9 i) from by first | rfl | omega)), trivial⟩, by rw [ht_]; exact hP, va_K.moved hW_.alike hK, hD⟩, hS.F ht_⟩) hS.2.2 dX6_lay_41
set_option maxHeartbeats 1000000 in
set_option maxRecDepth 100000 in
theorem c_X6_lay_vK (l : Launch) (D : va_G) (cyI cyJ cyO : ClassId) (qW : Nat) (qT : Nat) (qA : Nat) (qK : Nat) (qC : Nat) (qE : Nat) (qI : Nat) (qF : Nat) (qH : Nat) (qO : Nat) (fi : Int) (hq : Int → Option Nat) (qS : Nat) (qSi : Nat) (sl : Int) (sf : Int) (sz_ : Int) (it : Int → Int) (sz : Nat) (y : Int) (f9 : Int) (i : Int) (v : Int) (h_hq : hq y = some qS) (h_sl : sl = 0 ∨ sl = 1) (h_sf : 0 ≤ sf ∧ sf ≤ 2) (h_sz_ : 0 ≤ sz_ ∧ sz_ ≤ 60) (h_y : -2147483648 ≤ y ∧ y ≤ 2147483647) (h_f9 : -2147483648 ≤ f9 ∧ f9 ≤ 2147483647) (h_i : -2147483648 ≤ i ∧ i ≤ 2147483647) (h_v : -2147483648 ≤ v ∧ v ≤ 2147483647) (h_ok : (0 ≤ y ∧ y < 4) ∧ 0 ≤ f9 ∧ f9 ≤ 2) (h_fd : fdF sl sf sz_ f9 i = 0) : Met l yX6_lay wsX6_lay ({ frames := 2, cells := 0, slots := 0, locals := 44 }) (va_Pc [.ref qW, .int (iI (y)), .int (iI (f9)), .int (iI (i)), .int (iI (v))] (xM D vwCl [(qW, .inr (6, [.ref qT, .ref qA, .ref qK, .ref qC, .ref qE, .ref qI, .ref qF, .ref qH, .ref qO, .int (iI (fi))])), (qH, .inl (cyO, 4, .inr (.inr (.inr (.inr (xQ (hq))))))), (qS, .inr (3, [.ref qSi, .int (iI (sl)), .int (iI (sf)), .int (iI (sz_))])), (qSi, .inl (cyI, 60, .inl (xA (it))))] (xT cyI cyJ cyO) sz)) (va_Qi (fun (r : Int32) (u : Unit) => r = iI (1) ∧ True) (xB D vwCl (xT cyI cyJ cyO) (va_A [(qW, .inr (6, [.ref qT, .ref qA, .ref qK, .ref qC, .ref qE, .ref qI, .ref qF, .ref qH, .ref qO, .int (iI (fi))])), (qH, .inl (cyO, 4, .inr (.inr (.inr (.inr (xQ (hq))))))), (qS, .inr (3, [.ref qSi, .int (iI (sl)), .int (iI (sf)), .int (iI (sz_))])), (qSi, .inl (cyI, 60, .inl (xA (it))))] sz) (fun u : Unit => [(qW, .inr (6, [.ref qT, .ref qA, .ref qK, .ref qC, .ref qE, .ref qI, .ref qF, .ref qH, .ref qO, .int (iI (fi))])), (qH, .inl (cyO, 4, .inr (.inr (.inr (.inr (xQ (hq))))))), (qS, .inr (3, [.ref qSi, .int (iI (sl)), .int (iI (sf)), .int (iI (sz_))])), (qSi, .inl (cyI, 60, .inl (xA (uz it i (nar sf v)))))])) (va_A [(qW, .inr (6, [.ref qT, .ref qA, .ref qK, .ref qC, .ref qE, .ref qI, .ref qF, .ref qH, .ref qO, .int (iI (fi))])), (qH, .inl (cyO, 4, .inr (.inr (.inr (.inr (xQ (hq))))))), (qS, .inr (3, [.ref qSi, .int (iI (sl)), .int (iI (sf)), .int (iI (sz_))])), (qSi, .inl (cyI, 60, .inl (xA (it))))] sz)) 0 0 (va_A [(qW, .inr (6, [.ref qT, .ref qA, .ref qK, .ref qC, .ref qE, .ref qI, .ref qF, .ref qH, .ref qO, .int (iI (fi))])), (qH, .inl (cyO, 4, .inr (.inr (.inr (.inr (xQ (hq))))))), (qS, .inr (3, [.ref qSi, .int (iI (sl)), .int (iI (sf)), .int (iI (sz_))])), (qSi, .inl (cyI, 60, .inl (xA (it))))] sz) := by
  refine Met.ofW (cc := cX6_lay) (maxL := 6) (ret := (some .int)) (by decide) rfl ?_
  intro p e s m args below meth c s₁ B hml hv
  obtain ⟨rfl, hsz, hP, hK, hD0⟩ := hv
  have hx := B.exec
  have hb := B.bytes
  have hr := B.returns
  have hts := atoms_spec (ws := wsX6_lay) B.pre
  have hown : s.vm.findClass RX6 = some m.cls := findClass_of_methodNamed B.named
  have hlocks := B.notSynchronized
  have hcX6 : ∀ w ∈ wsX60, w ∈ wsX6_lay := fun _ h => List.mem_cons_of_mem _ (List.mem_append_left _ (List.mem_append_right _ h))
  subst hsz
  have hD := hD0.self (sz := s.heap.size)
  generalize hAe : va_A [(qW, .inr (6, [.ref qT, .ref qA, .ref qK, .ref qC, .ref qE, .ref qI, .ref qF, .ref qH, .ref qO, .int (iI (fi))])), (qH, .inl (cyO, 4, .inr (.inr (.inr (.inr (xQ (hq))))))), (qS, .inr (3, [.ref qSi, .int (iI (sl)), .int (iI (sf)), .int (iI (sz_))])), (qSi, .inl (cyI, 60, .inl (xA (it))))] s.heap.size = A at hD ⊢
  have hA : ∀ q : Nat, s.heap.size ≤ q → A q := fun q h => by rw [← hAe]; exact Or.inr h
  have hS : va_S A s.heap s.heap [] := va_S.rf
  have hP : va_P D vwCl [(qW, .inr (6, [.ref qT, .ref qA, .ref qK, .ref qC, .ref qE, .ref qI, .ref qF, .ref qH, .ref qO, .int (iI (fi))])), (qH, .inl (cyO, 4, .inr (.inr (.inr (.inr (xQ (hq))))))), (qS, .inr (3, [.ref qSi, .int (iI (sl)), .int (iI (sf)), .int (iI (sz_))])), (qSi, .inl (cyI, 60, .inl (xA (it))))] s.heap := hP
  have hl := lv_entry ([.ref qW, .int (iI (y)), .int (iI (f9)), .int (iI (i)), .int (iI (v))]) (n := 6) (Nat.le_of_ble_eq_true rfl)
  rw [lg_entry_eq]
  generalize (lg_sl ([.ref qW, .int (iI (y)), .int (iI (f9)), .int (iI (i)), .int (iI (v))]) ++ List.replicate (6 - (lg_sl ([.ref qW, .int (iI (y)), .int (iI (f9)), .int (iI (i)), .int (iI (v))])).length) Slot.unset).toArray = ls at hl ⊢
  have hl : lv_has ls 6 [(0, .ref qW), (1, .int (iI (y))), (2, .int (iI (f9))), (3, .int (iI (i))), (4, .int (iI (v)))] := hl
  refine lv_iload_n hx hb dX6_lay_0 rfl (lv_at hl 1 rfl) ?_
  have hPc := hP.sub (ws' := []) [] rfl
  refine xc_i (va_runS (As := [.int (iI (y))]) (rest := []) ⟨hx, hb, hml, hown, hts⟩ (c_X6_isSheet l D cyI cyJ cyO y (by first | exact h_y | assumption | omega)) (va_cwS 1 hts gX6_lay_X6_isSheet rfl rfl rfl (by decide +kernel) ⟨Nat.le_of_ble_eq_true rfl, Nat.le_of_ble_eq_true rfl⟩) (xpS hPc hK) rfl rfl hl.1 rfl (lv_room (Nat.le_of_ble_eq_true rfl)) dX6_lay_1 ⟨Nat.le_of_ble_eq_true rfl, Nat.le_of_ble_eq_true rfl⟩) ?_
  refine xb_if_eqB (tgt := 14) hx hb dX6_lay_4 (by decide) (fun h_1 => by exfalso; omega) (fun h_1 => ?_)
  refine lv_iload_n hx hb dX6_lay_7 rfl (lv_at hl 2 rfl) ?_
  have hPc := hP.sub (ws' := []) [] rfl
  refine xc_i (va_runS (As := [.int (iI (f9))]) (rest := []) ⟨hx, hb, hml, hown, hts⟩ (c_X6_isForm l D cyI cyJ cyO f9 (by first | exact h_y | assumption | omega)) (va_cwS 1 hts gX6_lay_X6_isForm rfl rfl rfl (by decide +kernel) ⟨Nat.le_of_ble_eq_true rfl, Nat.le_of_ble_eq_true rfl⟩) (xpS hPc hK) rfl rfl hl.1 rfl (lv_room (Nat.le_of_ble_eq_true rfl)) dX6_lay_8 ⟨Nat.le_of_ble_eq_true rfl, Nat.le_of_ble_eq_true rfl⟩) ?_
  refine xb_if_neB (tgt := 17) hx hb dX6_lay_11 (by decide) (fun h_2 => ?_) (fun h_2 => by exfalso; omega)
  refine lv_aload_n hx hb dX6_lay_17 rfl (lv_at hl 0 rfl) ?_
  refine va_get (D := D) (ci := 6) (C := RX6) (T := TX6) (N := 10) hx hb hts hcX6 hown hK hP 0 rfl rfl 7 (by decide) (hts (.fieldLink RX6 67 "WallMarks" "sheets" "[LWallMarks$Sheet;") (List.mem_of_getElem? (i := 1) (by decide +kernel))) (fun _ h9 => h9) rfl dX6_lay_18 ?_
  refine lv_iload_n hx hb dX6_lay_21 rfl (lv_at hl 1 rfl) ?_
  refine xq_ald (D := D) (qv := qS) hx hb hK hP 1 2 rfl rfl (by decide) (by omega) (by exact h_hq) dX6_lay_22 ?_
  refine lv_iload_n hx hb dX6_lay_23 rfl (lv_at hl 2 rfl) ?_
  refine lv_iload_n hx hb dX6_lay_24 rfl (lv_at hl 3 rfl) ?_
  have hf_3 := fdF_in sl sf sz_ f9 i
  have hPc := hP.sub (ws' := [(qS, .inr (3, [.ref qSi, .int (iI (sl)), .int (iI (sf)), .int (iI (sz_))]))]) [2] rfl
  refine xc_i (va_runS (As := [.ref qS, .int (iI (f9)), .int (iI (i))]) (rest := []) ⟨hx, hb, hml, hown, hts⟩ (c_X6_findingAt l D cyI cyJ cyO qS qSi sl sf sz_ f9 i (by first | exact h_sl | assumption | omega) (by first | exact h_sf | assumption | omega) (by first | exact h_sz_ | assumption | omega) (by first | exact h_f9 | assumption | omega) (by first | exact h_i | assumption | omega)) (va_cwS 3 hts gX6_lay_X6_findingAt rfl rfl rfl (by decide +kernel) ⟨Nat.le_of_ble_eq_true rfl, Nat.le_of_ble_eq_true rfl⟩) (xpS hPc hK) rfl rfl hl.1 rfl (lv_room (Nat.le_of_ble_eq_true rfl)) dX6_lay_25 ⟨Nat.le_of_ble_eq_true rfl, Nat.le_of_ble_eq_true rfl⟩) ?_
  refine lv_istore (lv' := [(5, .int (iI (fdF sl sf sz_ f9 i))), (0, .ref qW), (1, .int (iI (y))), (2, .int (iI (f9))), (3, .int (iI (i))), (4, .int (iI (v)))]) hx hb dX6_lay_28 hl (by decide) rfl (fun ls hl => ?_)
  refine lv_iload hx hb dX6_lay_30 (lv_at hl 0 rfl) ?_
  refine xb_if_eq (tgt := 42) hx hb dX6_lay_32 (by decide) (by omega) (fun h_4 => ?_) (fun h_4 => by exfalso; omega)
  refine lv_aload_n hx hb dX6_lay_42 rfl (lv_at hl 1 rfl) ?_
  refine va_get (D := D) (ci := 6) (C := RX6) (T := TX6) (N := 10) hx hb hts hcX6 hown hK hP 0 rfl rfl 7 (by decide) (hts (.fieldLink RX6 67 "WallMarks" "sheets" "[LWallMarks$Sheet;") (List.mem_of_getElem? (i := 1) (by decide +kernel))) (fun _ h9 => h9) rfl dX6_lay_43 ?_
  refine lv_iload_n hx hb dX6_lay_46 rfl (lv_at hl 2 rfl) ?_
  refine xq_ald (D := D) (qv := qS) hx hb hK hP 1 2 rfl rfl (by decide) (by omega) (by exact h_hq) dX6_lay_47 ?_
  refine lv_iload_n hx hb dX6_lay_48 rfl (lv_at hl 4 rfl) ?_
  refine lv_iload hx hb dX6_lay_49 (lv_at hl 5 rfl) ?_
  have hPc := hP.sub (ws' := [(qS, .inr (3, [.ref qSi, .int (iI (sl)), .int (iI (sf)), .int (iI (sz_))])), (qSi, .inl (cyI, 60, .inl (xA (it))))]) [2, 3] rfl
  have hDc := hD.sub (ws' := [(qS, .inr (3, [.ref qSi, .int (iI (sl)), .int (iI (sf)), .int (iI (sz_))])), (qSi, .inl (cyI, 60, .inl (xA (it))))]) [2, 3] (by decide) rfl
  have hFc := va_free (wc := [(qS, .inr (3, [.ref qSi, .int (iI (sl)), .int (iI (sf)), .int (iI (sz_))])), (qSi, .inl (cyI, 60, .inl (xA (it))))]) hD hS hA [2, 3] rfl
  refine va_callv (va_runV (As := [.int (iI (i)), .int (iI (v))]) (rest := []) ⟨hx, hb, hml, hown, hts⟩ (c_X3_put l D cyI cyJ cyO qS qSi sl sf sz_ it s.heap.size i v (by first | exact h_sz_ | assumption | omega) (by omega) (by exact fdF_0 h_fd)) (cwV 2 hts gX6_lay_X3_put rfl rfl rfl (by decide +kernel) ⟨Nat.le_of_ble_eq_true rfl, Nat.le_of_ble_eq_true rfl⟩) (xpVM hPc hK hDc (ci := 3) (q0 := 0) (q := (RX3, TX3, 4)) rfl rfl) rfl rfl hl.1 rfl (lv_room (Nat.le_of_ble_eq_true rfl)) dX6_lay_51 ⟨Nat.le_of_ble_eq_true rfl, Nat.le_of_ble_eq_true rfl⟩) hS (fun q _ h => hFc q h) hFc (fun u_5 t_ H1 locs ht_ hvm hw hB hz1 hk1 hS => ?_)
  obtain ⟨hP1, hK1, hD1⟩ := hB
  rw [ht_] at hP1
  obtain ⟨hP, hD⟩ := xj (wc := [(qS, .inr (3, [.ref qSi, .int (iI (sl)), .int (iI (sf)), .int (iI (sz_))])), (qSi, .inl (cyI, 60, .inl (xA (it))))]) (w1 := [(qS, .inr (3, [.ref qSi, .int (iI (sl)), .int (iI (sf)), .int (iI (sz_))])), (qSi, .inl (cyI, 60, .inl (xA (uz it i (nar sf v)))))]) hP hD [2, 3] rfl rfl hk1 hP1
  generalize H1 = H at hP hS ⊢
  have hP : va_P D vwCl [(qW, .inr (6, [.ref qT, .ref qA, .ref qK, .ref qC, .ref qE, .ref qI, .ref qF, .ref qH, .ref qO, .int (iI (fi))])), (qH, .inl (cyO, 4, .inr (.inr (.inr (.inr (xQ (hq))))))), (qS, .inr (3, [.ref qSi, .int (iI (sl)), .int (iI (sf)), .int (iI (sz_))])), (qSi, .inl (cyI, 60, .inl (xA (uz it i (nar sf v)))))] H := hP
  have hD : va_D A [(qW, .inr (6, [.ref qT, .ref qA, .ref qK, .ref qC, .ref qE, .ref qI, .ref qF, .ref qH, .ref qO, .int (iI (fi))])), (qH, .inl (cyO, 4, .inr (.inr (.inr (.inr (xQ (hq))))))), (qS, .inr (3, [.ref qSi, .int (iI (sl)), .int (iI (sf)), .int (iI (sz_))])), (qSi, .inl (cyI, 60, .inl (xA (uz it i (nar sf v)))))] := hD
  have hw_6 : True := hw
  refine xi_const hx hb dX6_lay_54 ?_
  exact W.iret (v := iI (1)) hx hb hr (fun t_ ht_ hW_ => ⟨⟨_, (), rfl, ⟨rfl, trivial⟩, by rw [ht_]; exact hP, va_K.moved hW_.alike hK, hD⟩, hS.F ht_⟩) hS.2.2 dX6_lay_55
set_option maxHeartbeats 1000000 in
set_option maxRecDepth 100000 in
theorem c_X6_get_vB (l : Launch) (D : va_G) (cyI cyJ cyO : ClassId) (qW : Nat) (qT : Nat) (qA : Nat) (qK : Nat) (qC : Nat) (qE : Nat) (qI : Nat) (qF : Nat) (qH : Nat) (qO : Nat) (fi : Int) (y : Int) (f9 : Int) (i : Int) (h_y : -2147483648 ≤ y ∧ y ≤ 2147483647) (h_f9 : -2147483648 ≤ f9 ∧ f9 ≤ 2147483647) (h_i : -2147483648 ≤ i ∧ i ≤ 2147483647) (h_ok : ¬ ((0 ≤ y ∧ y < 4) ∧ 0 ≤ f9 ∧ f9 ≤ 2)) : Met l yX6_get wsX6_get ({ frames := 1, cells := 0, slots := 0, locals := 20 }) (va_Pc [.ref qW, .int (iI (y)), .int (iI (f9)), .int (iI (i))] (xR D vwCl [(qW, .inr (6, [.ref qT, .ref qA, .ref qK, .ref qC, .ref qE, .ref qI, .ref qF, .ref qH, .ref qO, .int (iI (fi))]))] (xT cyI cyJ cyO))) (xq (some (.int (iI (-2147483648))))) 0 0 (fun _ => False) := by
  refine Met.ofW (cc := cX6_get) (maxL := 5) (ret := (some .int)) (by decide) rfl ?_
  intro p e s m args below meth c s₁ B hml hv
  obtain ⟨rfl, hP, hK⟩ := hv
  have hx := B.exec
  have hb := B.bytes
  have hr := B.returns
  have hts := atoms_spec (ws := wsX6_get) B.pre
  have hown : s.vm.findClass RX6 = some m.cls := findClass_of_methodNamed B.named
  have hlocks := B.notSynchronized
  have hP : va_P D vwCl [(qW, .inr (6, [.ref qT, .ref qA, .ref qK, .ref qC, .ref qE, .ref qI, .ref qF, .ref qH, .ref qO, .int (iI (fi))]))] s.heap := hP
  have hl := lv_entry ([.ref qW, .int (iI (y)), .int (iI (f9)), .int (iI (i))]) (n := 5) (Nat.le_of_ble_eq_true rfl)
  rw [lg_entry_eq]
  generalize (lg_sl ([.ref qW, .int (iI (y)), .int (iI (f9)), .int (iI (i))]) ++ List.replicate (5 - (lg_sl ([.ref qW, .int (iI (y)), .int (iI (f9)), .int (iI (i))])).length) Slot.unset).toArray = ls at hl ⊢
  have hl : lv_has ls 5 [(0, .ref qW), (1, .int (iI (y))), (2, .int (iI (f9))), (3, .int (iI (i)))] := hl
  refine lv_iload_n hx hb dX6_get_0 rfl (lv_at hl 1 rfl) ?_
  have hPc := hP.sub (ws' := []) [] rfl
  refine xc_i (va_runS (As := [.int (iI (y))]) (rest := []) ⟨hx, hb, hml, hown, hts⟩ (c_X6_isSheet l D cyI cyJ cyO y (by first | exact h_y | assumption | omega)) (va_cwS 1 hts gX6_get_X6_isSheet rfl rfl rfl (by decide +kernel) ⟨Nat.le_of_ble_eq_true rfl, Nat.le_of_ble_eq_true rfl⟩) (xpS hPc hK) rfl rfl hl.1 rfl (lv_room (Nat.le_of_ble_eq_true rfl)) dX6_get_1 ⟨Nat.le_of_ble_eq_true rfl, Nat.le_of_ble_eq_true rfl⟩) ?_
  refine xb_if_eqB (tgt := 14) hx hb dX6_get_4 (by decide) (fun h_1 => ?_) (fun h_1 => ?_)
  · refine lv_ldcw (v := iI (-2147483648)) hx hb hown (hts (.constant RX6 287 (iI (-2147483648))) (List.mem_of_getElem? (i := 1) (by decide +kernel))) dX6_get_14 ?_
    exact W.iret (v := iI (-2147483648)) hx hb hr (fun t_ ht_ _ => ⟨congrArg (fun z => Outcome.returned (some (Value.int (iI z)))) rfl, ht_⟩) (fun _ h9 => absurd h9 List.not_mem_nil) dX6_get_17
  · refine lv_iload_n hx hb dX6_get_7 rfl (lv_at hl 2 rfl) ?_
    have hPc := hP.sub (ws' := []) [] rfl
    refine xc_i (va_runS (As := [.int (iI (f9))]) (rest := []) ⟨hx, hb, hml, hown, hts⟩ (c_X6_isForm l D cyI cyJ cyO f9 (by first | exact h_y | assumption | omega)) (va_cwS 1 hts gX6_get_X6_isForm rfl rfl rfl (by decide +kernel) ⟨Nat.le_of_ble_eq_true rfl, Nat.le_of_ble_eq_true rfl⟩) (xpS hPc hK) rfl rfl hl.1 rfl (lv_room (Nat.le_of_ble_eq_true rfl)) dX6_get_8 ⟨Nat.le_of_ble_eq_true rfl, Nat.le_of_ble_eq_true rfl⟩) ?_
    refine xb_if_neB (tgt := 18) hx hb dX6_get_11 (by decide) (fun h_2 => by exfalso; omega) (fun h_2 => ?_)
    refine lv_ldcw (v := iI (-2147483648)) hx hb hown (hts (.constant RX6 287 (iI (-2147483648))) (List.mem_of_getElem? (i := 1) (by decide +kernel))) dX6_get_14 ?_
    exact W.iret (v := iI (-2147483648)) hx hb hr (fun t_ ht_ _ => ⟨congrArg (fun z => Outcome.returned (some (Value.int (iI z)))) rfl, ht_⟩) (fun _ h9 => absurd h9 List.not_mem_nil) dX6_get_17
set_option maxHeartbeats 1000000 in
set_option maxRecDepth 100000 in
theorem c_X6_get_vN (l : Launch) (D : va_G) (cyI cyJ cyO : ClassId) (qW : Nat) (qT : Nat) (qA : Nat) (qK : Nat) (qC : Nat) (qE : Nat) (qI : Nat) (qF : Nat) (qH : Nat) (qO : Nat) (fi : Int) (hq : Int → Option Nat) (qS : Nat) (qSi : Nat) (sl : Int) (sf : Int) (sz_ : Int) (sz : Nat) (y : Int) (f9 : Int) (i : Int) (h_hq : hq y = some qS) (h_sl : sl = 0 ∨ sl = 1) (h_sf : 0 ≤ sf ∧ sf ≤ 2) (h_sz_ : 0 ≤ sz_ ∧ sz_ ≤ 60) (h_y : -2147483648 ≤ y ∧ y ≤ 2147483647) (h_f9 : -2147483648 ≤ f9 ∧ f9 ≤ 2147483647) (h_i : -2147483648 ≤ i ∧ i ≤ 2147483647) (h_ok : (0 ≤ y ∧ y < 4) ∧ 0 ≤ f9 ∧ f9 ≤ 2) (h_fd : fdF sl sf sz_ f9 i ≠ 0) : Met l yX6_get wsX6_get ({ frames := 2, cells := 0, slots := 0, locals := 44 }) (va_Pc [.ref qW, .int (iI (y)), .int (iI (f9)), .int (iI (i))] (xM D vwCl [(qW, .inr (6, [.ref qT, .ref qA, .ref qK, .ref qC, .ref qE, .ref qI, .ref qF, .ref qH, .ref qO, .int (iI (fi))])), (qH, .inl (cyO, 4, .inr (.inr (.inr (.inr (xQ (hq))))))), (qS, .inr (3, [.ref qSi, .int (iI (sl)), .int (iI (sf)), .int (iI (sz_))]))] (xT cyI cyJ cyO) sz)) (va_Qi (fun (r : Int32) (u : Unit) => r = iI (-2147483648) ∧ True) (xB D vwCl (xT cyI cyJ cyO) (va_A [(qW, .inr (6, [.ref qT, .ref qA, .ref qK, .ref qC, .ref qE, .ref qI, .ref qF, .ref qH, .ref qO, .int (iI (fi))])), (qH, .inl (cyO, 4, .inr (.inr (.inr (.inr (xQ (hq))))))), (qS, .inr (3, [.ref qSi, .int (iI (sl)), .int (iI (sf)), .int (iI (sz_))]))] sz) (fun u : Unit => [(qW, .inr (6, [.ref qT, .ref qA, .ref qK, .ref qC, .ref qE, .ref qI, .ref qF, .ref qH, .ref qO, .int (iI (fdF sl sf sz_ f9 i))])), (qH, .inl (cyO, 4, .inr (.inr (.inr (.inr (xQ (hq))))))), (qS, .inr (3, [.ref qSi, .int (iI (sl)), .int (iI (sf)), .int (iI (sz_))]))])) (va_A [(qW, .inr (6, [.ref qT, .ref qA, .ref qK, .ref qC, .ref qE, .ref qI, .ref qF, .ref qH, .ref qO, .int (iI (fi))])), (qH, .inl (cyO, 4, .inr (.inr (.inr (.inr (xQ (hq))))))), (qS, .inr (3, [.ref qSi, .int (iI (sl)), .int (iI (sf)), .int (iI (sz_))]))] sz)) 0 0 (va_A [(qW, .inr (6, [.ref qT, .ref qA, .ref qK, .ref qC, .ref qE, .ref qI, .ref qF, .ref qH, .ref qO, .int (iI (fi))])), (qH, .inl (cyO, 4, .inr (.inr (.inr (.inr (xQ (hq))))))), (qS, .inr (3, [.ref qSi, .int (iI (sl)), .int (iI (sf)), .int (iI (sz_))]))] sz) := by
  refine Met.ofW (cc := cX6_get) (maxL := 5) (ret := (some .int)) (by decide) rfl ?_
  intro p e s m args below meth c s₁ B hml hv
  obtain ⟨rfl, hsz, hP, hK, hD0⟩ := hv
  have hx := B.exec
  have hb := B.bytes
  have hr := B.returns
  have hts := atoms_spec (ws := wsX6_get) B.pre
  have hown : s.vm.findClass RX6 = some m.cls := findClass_of_methodNamed B.named
  have hlocks := B.notSynchronized
  have hcX6 : ∀ w ∈ wsX60, w ∈ wsX6_get := fun _ h => List.mem_cons_of_mem _ (List.mem_append_left _ (List.mem_append_right _ h))
  subst hsz
  have hD := hD0.self (sz := s.heap.size)
  generalize hAe : va_A [(qW, .inr (6, [.ref qT, .ref qA, .ref qK, .ref qC, .ref qE, .ref qI, .ref qF, .ref qH, .ref qO, .int (iI (fi))])), (qH, .inl (cyO, 4, .inr (.inr (.inr (.inr (xQ (hq))))))), (qS, .inr (3, [.ref qSi, .int (iI (sl)), .int (iI (sf)), .int (iI (sz_))]))] s.heap.size = A at hD ⊢
  have hA : ∀ q : Nat, s.heap.size ≤ q → A q := fun q h => by rw [← hAe]; exact Or.inr h
  have hS : va_S A s.heap s.heap [] := va_S.rf
  have hP : va_P D vwCl [(qW, .inr (6, [.ref qT, .ref qA, .ref qK, .ref qC, .ref qE, .ref qI, .ref qF, .ref qH, .ref qO, .int (iI (fi))])), (qH, .inl (cyO, 4, .inr (.inr (.inr (.inr (xQ (hq))))))), (qS, .inr (3, [.ref qSi, .int (iI (sl)), .int (iI (sf)), .int (iI (sz_))]))] s.heap := hP
  have hl := lv_entry ([.ref qW, .int (iI (y)), .int (iI (f9)), .int (iI (i))]) (n := 5) (Nat.le_of_ble_eq_true rfl)
  rw [lg_entry_eq]
  generalize (lg_sl ([.ref qW, .int (iI (y)), .int (iI (f9)), .int (iI (i))]) ++ List.replicate (5 - (lg_sl ([.ref qW, .int (iI (y)), .int (iI (f9)), .int (iI (i))])).length) Slot.unset).toArray = ls at hl ⊢
  have hl : lv_has ls 5 [(0, .ref qW), (1, .int (iI (y))), (2, .int (iI (f9))), (3, .int (iI (i)))] := hl
  refine lv_iload_n hx hb dX6_get_0 rfl (lv_at hl 1 rfl) ?_
  have hPc := hP.sub (ws' := []) [] rfl
  refine xc_i (va_runS (As := [.int (iI (y))]) (rest := []) ⟨hx, hb, hml, hown, hts⟩ (c_X6_isSheet l D cyI cyJ cyO y (by first | exact h_y | assumption | omega)) (va_cwS 1 hts gX6_get_X6_isSheet rfl rfl rfl (by decide +kernel) ⟨Nat.le_of_ble_eq_true rfl, Nat.le_of_ble_eq_true rfl⟩) (xpS hPc hK) rfl rfl hl.1 rfl (lv_room (Nat.le_of_ble_eq_true rfl)) dX6_get_1 ⟨Nat.le_of_ble_eq_true rfl, Nat.le_of_ble_eq_true rfl⟩) ?_
  refine xb_if_eqB (tgt := 14) hx hb dX6_get_4 (by decide) (fun h_1 => by exfalso; omega) (fun h_1 => ?_)
  refine lv_iload_n hx hb dX6_get_7 rfl (lv_at hl 2 rfl) ?_
  have hPc := hP.sub (ws' := []) [] rfl
  refine xc_i (va_runS (As := [.int (iI (f9))]) (rest := []) ⟨hx, hb, hml, hown, hts⟩ (c_X6_isForm l D cyI cyJ cyO f9 (by first | exact h_y | assumption | omega)) (va_cwS 1 hts gX6_get_X6_isForm rfl rfl rfl (by decide +kernel) ⟨Nat.le_of_ble_eq_true rfl, Nat.le_of_ble_eq_true rfl⟩) (xpS hPc hK) rfl rfl hl.1 rfl (lv_room (Nat.le_of_ble_eq_true rfl)) dX6_get_8 ⟨Nat.le_of_ble_eq_true rfl, Nat.le_of_ble_eq_true rfl⟩) ?_
  refine xb_if_neB (tgt := 18) hx hb dX6_get_11 (by decide) (fun h_2 => ?_) (fun h_2 => by exfalso; omega)
  refine lv_aload_n hx hb dX6_get_18 rfl (lv_at hl 0 rfl) ?_
  refine va_get (D := D) (ci := 6) (C := RX6) (T := TX6) (N := 10) hx hb hts hcX6 hown hK hP 0 rfl rfl 7 (by decide) (hts (.fieldLink RX6 67 "WallMarks" "sheets" "[LWallMarks$Sheet;") (List.mem_of_getElem? (i := 2) (by decide +kernel))) (fun _ h9 => h9) rfl dX6_get_19 ?_
  refine lv_iload_n hx hb dX6_get_22 rfl (lv_at hl 1 rfl) ?_
  refine xq_ald (D := D) (qv := qS) hx hb hK hP 1 2 rfl rfl (by decide) (by omega) (by exact h_hq) dX6_get_23 ?_
  refine lv_iload_n hx hb dX6_get_24 rfl (lv_at hl 2 rfl) ?_
  refine lv_iload_n hx hb dX6_get_25 rfl (lv_at hl 3 rfl) ?_
  have hf_3 := fdF_in sl sf sz_ f9 i
  have hPc := hP.sub (ws' := [(qS, .inr (3, [.ref qSi, .int (iI (sl)), .int (iI (sf)), .int (iI (sz_))]))]) [2] rfl
  refine xc_i (va_runS (As := [.ref qS, .int (iI (f9)), .int (iI (i))]) (rest := []) ⟨hx, hb, hml, hown, hts⟩ (c_X6_findingAt l D cyI cyJ cyO qS qSi sl sf sz_ f9 i (by first | exact h_sl | assumption | omega) (by first | exact h_sf | assumption | omega) (by first | exact h_sz_ | assumption | omega) (by first | exact h_f9 | assumption | omega) (by first | exact h_i | assumption | omega)) (va_cwS 3 hts gX6_get_X6_findingAt rfl rfl rfl (by decide +kernel) ⟨Nat.le_of_ble_eq_true rfl, Nat.le_of_ble_eq_true rfl⟩) (xpS hPc hK) rfl rfl hl.1 rfl (lv_room (Nat.le_of_ble_eq_true rfl)) dX6_get_26 ⟨Nat.le_of_ble_eq_true rfl, Nat.le_of_ble_eq_true rfl⟩) ?_
  refine lv_istore (lv' := [(4, .int (iI (fdF sl sf sz_ f9 i))), (0, .ref qW), (1, .int (iI (y))), (2, .int (iI (f9))), (3, .int (iI (i)))]) hx hb dX6_get_29 hl (by decide) rfl (fun ls hl => ?_)
  refine lv_iload hx hb dX6_get_31 (lv_at hl 0 rfl) ?_
  refine xb_if_eq (tgt := 47) hx hb dX6_get_33 (by decide) (by omega) (fun h_4 => by exfalso; omega) (fun h_4 => ?_)
  refine lv_aload_n hx hb dX6_get_36 rfl (lv_at hl 1 rfl) ?_
  refine lv_iload hx hb dX6_get_37 (lv_at hl 0 rfl) ?_
  have hPc := hP.sub (ws' := [(qW, .inr (6, [.ref qT, .ref qA, .ref qK, .ref qC, .ref qE, .ref qI, .ref qF, .ref qH, .ref qO, .int (iI (fi))]))]) [0] rfl
  have hDc := hD.sub (ws' := [(qW, .inr (6, [.ref qT, .ref qA, .ref qK, .ref qC, .ref qE, .ref qI, .ref qF, .ref qH, .ref qO, .int (iI (fi))]))]) [0] (by decide) rfl
  have hFc := va_free (wc := [(qW, .inr (6, [.ref qT, .ref qA, .ref qK, .ref qC, .ref qE, .ref qI, .ref qF, .ref qH, .ref qO, .int (iI (fi))]))]) hD hS hA [0] rfl
  refine va_calli (va_runV (As := [.int (iI (fdF sl sf sz_ f9 i))]) (rest := []) ⟨hx, hb, hml, hown, hts⟩ (c_X6_found l D cyI cyJ cyO qW qT qA qK qC qE qI qF qH qO fi s.heap.size (fdF sl sf sz_ f9 i) (by first | exact h_n | assumption | omega)) (cwV 1 hts gX6_get_X6_found rfl rfl rfl (by decide +kernel) ⟨Nat.le_of_ble_eq_true rfl, Nat.le_of_ble_eq_true rfl⟩) (xpVM hPc hK hDc (ci := 6) (q0 := 0) (q := (RX6, TX6, 10)) rfl rfl) rfl rfl hl.1 rfl (lv_room (Nat.le_of_ble_eq_true rfl)) dX6_get_39 ⟨Nat.le_of_ble_eq_true rfl, Nat.le_of_ble_eq_true rfl⟩) hS (fun q _ h => hFc q h) hFc (fun r_ u_5 t_ H1 locs ht_ hvm hw hB hz1 hk1 hS => ?_)
  obtain ⟨hP1, hK1, hD1⟩ := hB
  rw [ht_] at hP1
  obtain ⟨hP, hD⟩ := xj (wc := [(qW, .inr (6, [.ref qT, .ref qA, .ref qK, .ref qC, .ref qE, .ref qI, .ref qF, .ref qH, .ref qO, .int (iI (fi))]))]) (w1 := [(qW, .inr (6, [.ref qT, .ref qA, .ref qK, .ref qC, .ref qE, .ref qI, .ref qF, .ref qH, .ref qO, .int (iI ((fdF sl sf sz_ f9 i)))]))]) hP hD [0] rfl rfl hk1 hP1
  generalize H1 = H at hP hS ⊢
  have hP : va_P D vwCl [(qW, .inr (6, [.ref qT, .ref qA, .ref qK, .ref qC, .ref qE, .ref qI, .ref qF, .ref qH, .ref qO, .int (iI ((fdF sl sf sz_ f9 i)))])), (qH, .inl (cyO, 4, .inr (.inr (.inr (.inr (xQ (hq))))))), (qS, .inr (3, [.ref qSi, .int (iI (sl)), .int (iI (sf)), .int (iI (sz_))]))] H := hP
  have hD : va_D A [(qW, .inr (6, [.ref qT, .ref qA, .ref qK, .ref qC, .ref qE, .ref qI, .ref qF, .ref qH, .ref qO, .int (iI ((fdF sl sf sz_ f9 i)))])), (qH, .inl (cyO, 4, .inr (.inr (.inr (.inr (xQ (hq))))))), (qS, .inr (3, [.ref qSi, .int (iI (sl)), .int (iI (sf)), .int (iI (sz_))]))] := hD
  obtain ⟨hre, hw_6⟩ := hw
  have hw_6 : True := hw_6
  rw [show r_ = iI (-10 - (fdF sl sf sz_ f9 i)) from hre]
  refine lv_pop hx hb dX6_get_42 rfl ?_
  refine lv_ldcw (v := iI (-2147483648)) hx hb hown (hts (.constant RX6 287 (iI (-2147483648))) (List.mem_of_getElem? (i := 1) (by decide +kernel))) dX6_get_43 ?_
  have he0 : ((fdF sl sf sz_ f9 i) : Int) = (fdF sl sf sz_ f9 i) := by first | rfl | omega
  have hW8 := congrArg (fun (xv0 : Int) => ([(qW, .inr (6, [.ref qT, .ref qA, .ref qK, .ref qC, .ref qE, .ref qI, .ref qF, .ref qH, .ref qO, .int (iI (xv0))])), (qH, .inl (cyO, 4, .inr (.inr (.inr (.inr (xQ (hq))))))), (qS, .inr (3, [.ref qSi, .int (iI (sl)), .int (iI (sf)), .int (iI (sz_))]))] : va_W)) he0
  have hW9 : ([(qW, .inr (6, [.ref qT, .ref qA, .ref qK, .ref qC, .ref qE, .ref qI, .ref qF, .ref qH, .ref qO, .int (iI ((fdF sl sf sz_ f9 i)))])), (qH, .inl (cyO, 4, .inr (.inr (.inr (.inr (xQ (hq))))))), (qS, .inr (3, [.ref qSi, .int (iI (sl)), .int (iI (sf)), .int (iI (sz_))]))] : va_W) = [(qW, .inr (6, [.ref qT, .ref qA, .ref qK, .ref qC, .ref qE, .ref qI, .ref qF, .ref qH, .ref qO, .int (iI (fdF sl sf sz_ f9 i))])), (qH, .inl (cyO, 4, .inr (.inr (.inr (.inr (xQ (hq))))))), (qS, .inr (3, [.ref qSi, .int (iI (sl)), .int (iI (sf)), .int (iI (sz_))]))] := hW8
  rw [hW9] at hP hD
  exact W.iret (v := iI (-2147483648)) hx hb hr (fun t_ ht_ hW_ => ⟨⟨_, (), rfl, ⟨rfl, trivial⟩, by rw [ht_]; exact hP, va_K.moved hW_.alike hK, hD⟩, hS.F ht_⟩) hS.2.2 dX6_get_46
set_option maxHeartbeats 1000000 in
set_option maxRecDepth 100000 in
theorem c_X6_get_vK (l : Launch) (D : va_G) (cyI cyJ cyO : ClassId) (qW : Nat) (qT : Nat) (qA : Nat) (qK : Nat) (qC : Nat) (qE : Nat) (qI : Nat) (qF : Nat) (qH : Nat) (qO : Nat) (fi : Int) (hq : Int → Option Nat) (qS : Nat) (qSi : Nat) (sl : Int) (sf : Int) (sz_ : Int) (it : Int → Int) (y : Int) (f9 : Int) (i : Int) (h_hq : hq y = some qS) (h_sl : sl = 0 ∨ sl = 1) (h_sf : 0 ≤ sf ∧ sf ≤ 2) (h_sz_ : 0 ≤ sz_ ∧ sz_ ≤ 60) (h_y : -2147483648 ≤ y ∧ y ≤ 2147483647) (h_f9 : -2147483648 ≤ f9 ∧ f9 ≤ 2147483647) (h_i : -2147483648 ≤ i ∧ i ≤ 2147483647) (h_ok : (0 ≤ y ∧ y < 4) ∧ 0 ≤ f9 ∧ f9 ≤ 2) (h_fd : fdF sl sf sz_ f9 i = 0) : Met l yX6_get wsX6_get ({ frames := 2, cells := 0, slots := 0, locals := 44 }) (va_Pc [.ref qW, .int (iI (y)), .int (iI (f9)), .int (iI (i))] (xR D vwCl [(qW, .inr (6, [.ref qT, .ref qA, .ref qK, .ref qC, .ref qE, .ref qI, .ref qF, .ref qH, .ref qO, .int (iI (fi))])), (qH, .inl (cyO, 4, .inr (.inr (.inr (.inr (xQ (hq))))))), (qS, .inr (3, [.ref qSi, .int (iI (sl)), .int (iI (sf)), .int (iI (sz_))])), (qSi, .inl (cyI, 60, .inl (xA (it))))] (xT cyI cyJ cyO))) (xq (some (.int (iI (it i))))) 0 0 (fun _ => False) := by
  refine Met.ofW (cc := cX6_get) (maxL := 5) (ret := (some .int)) (by decide) rfl ?_
  intro p e s m args below meth c s₁ B hml hv
  obtain ⟨rfl, hP, hK⟩ := hv
  have hx := B.exec
  have hb := B.bytes
  have hr := B.returns
  have hts := atoms_spec (ws := wsX6_get) B.pre
  have hown : s.vm.findClass RX6 = some m.cls := findClass_of_methodNamed B.named
  have hlocks := B.notSynchronized
  have hcX6 : ∀ w ∈ wsX60, w ∈ wsX6_get := fun _ h => List.mem_cons_of_mem _ (List.mem_append_left _ (List.mem_append_right _ h))
  have hP : va_P D vwCl [(qW, .inr (6, [.ref qT, .ref qA, .ref qK, .ref qC, .ref qE, .ref qI, .ref qF, .ref qH, .ref qO, .int (iI (fi))])), (qH, .inl (cyO, 4, .inr (.inr (.inr (.inr (xQ (hq))))))), (qS, .inr (3, [.ref qSi, .int (iI (sl)), .int (iI (sf)), .int (iI (sz_))])), (qSi, .inl (cyI, 60, .inl (xA (it))))] s.heap := hP
  have hl := lv_entry ([.ref qW, .int (iI (y)), .int (iI (f9)), .int (iI (i))]) (n := 5) (Nat.le_of_ble_eq_true rfl)
  rw [lg_entry_eq]
  generalize (lg_sl ([.ref qW, .int (iI (y)), .int (iI (f9)), .int (iI (i))]) ++ List.replicate (5 - (lg_sl ([.ref qW, .int (iI (y)), .int (iI (f9)), .int (iI (i))])).length) Slot.unset).toArray = ls at hl ⊢
  have hl : lv_has ls 5 [(0, .ref qW), (1, .int (iI (y))), (2, .int (iI (f9))), (3, .int (iI (i)))] := hl
  refine lv_iload_n hx hb dX6_get_0 rfl (lv_at hl 1 rfl) ?_
  have hPc := hP.sub (ws' := []) [] rfl
  refine xc_i (va_runS (As := [.int (iI (y))]) (rest := []) ⟨hx, hb, hml, hown, hts⟩ (c_X6_isSheet l D cyI cyJ cyO y (by first | exact h_y | assumption | omega)) (va_cwS 1 hts gX6_get_X6_isSheet rfl rfl rfl (by decide +kernel) ⟨Nat.le_of_ble_eq_true rfl, Nat.le_of_ble_eq_true rfl⟩) (xpS hPc hK) rfl rfl hl.1 rfl (lv_room (Nat.le_of_ble_eq_true rfl)) dX6_get_1 ⟨Nat.le_of_ble_eq_true rfl, Nat.le_of_ble_eq_true rfl⟩) ?_
  refine xb_if_eqB (tgt := 14) hx hb dX6_get_4 (by decide) (fun h_1 => by exfalso; omega) (fun h_1 => ?_)
  refine lv_iload_n hx hb dX6_get_7 rfl (lv_at hl 2 rfl) ?_
  have hPc := hP.sub (ws' := []) [] rfl
  refine xc_i (va_runS (As := [.int (iI (f9))]) (rest := []) ⟨hx, hb, hml, hown, hts⟩ (c_X6_isForm l D cyI cyJ cyO f9 (by first | exact h_y | assumption | omega)) (va_cwS 1 hts gX6_get_X6_isForm rfl rfl rfl (by decide +kernel) ⟨Nat.le_of_ble_eq_true rfl, Nat.le_of_ble_eq_true rfl⟩) (xpS hPc hK) rfl rfl hl.1 rfl (lv_room (Nat.le_of_ble_eq_true rfl)) dX6_get_8 ⟨Nat.le_of_ble_eq_true rfl, Nat.le_of_ble_eq_true rfl⟩) ?_
  refine xb_if_neB (tgt := 18) hx hb dX6_get_11 (by decide) (fun h_2 => ?_) (fun h_2 => by exfalso; omega)
  refine lv_aload_n hx hb dX6_get_18 rfl (lv_at hl 0 rfl) ?_
  refine va_get (D := D) (ci := 6) (C := RX6) (T := TX6) (N := 10) hx hb hts hcX6 hown hK hP 0 rfl rfl 7 (by decide) (hts (.fieldLink RX6 67 "WallMarks" "sheets" "[LWallMarks$Sheet;") (List.mem_of_getElem? (i := 2) (by decide +kernel))) (fun _ h9 => h9) rfl dX6_get_19 ?_
  refine lv_iload_n hx hb dX6_get_22 rfl (lv_at hl 1 rfl) ?_
  refine xq_ald (D := D) (qv := qS) hx hb hK hP 1 2 rfl rfl (by decide) (by omega) (by exact h_hq) dX6_get_23 ?_
  refine lv_iload_n hx hb dX6_get_24 rfl (lv_at hl 2 rfl) ?_
  refine lv_iload_n hx hb dX6_get_25 rfl (lv_at hl 3 rfl) ?_
  have hf_3 := fdF_in sl sf sz_ f9 i
  have hPc := hP.sub (ws' := [(qS, .inr (3, [.ref qSi, .int (iI (sl)), .int (iI (sf)), .int (iI (sz_))]))]) [2] rfl
  refine xc_i (va_runS (As := [.ref qS, .int (iI (f9)), .int (iI (i))]) (rest := []) ⟨hx, hb, hml, hown, hts⟩ (c_X6_findingAt l D cyI cyJ cyO qS qSi sl sf sz_ f9 i (by first | exact h_sl | assumption | omega) (by first | exact h_sf | assumption | omega) (by first | exact h_sz_ | assumption | omega) (by first | exact h_f9 | assumption | omega) (by first | exact h_i | assumption | omega)) (va_cwS 3 hts gX6_get_X6_findingAt rfl rfl rfl (by decide +kernel) ⟨Nat.le_of_ble_eq_true rfl, Nat.le_of_ble_eq_true rfl⟩) (xpS hPc hK) rfl rfl hl.1 rfl (lv_room (Nat.le_of_ble_eq_true rfl)) dX6_get_26 ⟨Nat.le_of_ble_eq_true rfl, Nat.le_of_ble_eq_true rfl⟩) ?_
  refine lv_istore (lv' := [(4, .int (iI (fdF sl sf sz_ f9 i))), (0, .ref qW), (1, .int (iI (y))), (2, .int (iI (f9))), (3, .int (iI (i)))]) hx hb dX6_get_29 hl (by decide) rfl (fun ls hl => ?_)
  refine lv_iload hx hb dX6_get_31 (lv_at hl 0 rfl) ?_
  refine xb_if_eq (tgt := 47) hx hb dX6_get_33 (by decide) (by omega) (fun h_4 => ?_) (fun h_4 => by exfalso; omega)
  have hi9 := fdF_0 h_fd
  refine lv_aload_n hx hb dX6_get_47 rfl (lv_at hl 1 rfl) ?_
  refine va_get (D := D) (ci := 6) (C := RX6) (T := TX6) (N := 10) hx hb hts hcX6 hown hK hP 0 rfl rfl 7 (by decide) (hts (.fieldLink RX6 67 "WallMarks" "sheets" "[LWallMarks$Sheet;") (List.mem_of_getElem? (i := 2) (by decide +kernel))) (fun _ h9 => h9) rfl dX6_get_48 ?_
  refine lv_iload_n hx hb dX6_get_51 rfl (lv_at hl 2 rfl) ?_
  refine xq_ald (D := D) (qv := qS) hx hb hK hP 1 2 rfl rfl (by decide) (by omega) (by exact h_hq) dX6_get_52 ?_
  refine lv_iload_n hx hb dX6_get_53 rfl (lv_at hl 4 rfl) ?_
  have hPc := hP.sub (ws' := [(qS, .inr (3, [.ref qSi, .int (iI (sl)), .int (iI (sf)), .int (iI (sz_))])), (qSi, .inl (cyI, 60, .inl (xA (it))))]) [2, 3] rfl
  refine xc_i (va_runV (As := [.int (iI (i))]) (rest := []) ⟨hx, hb, hml, hown, hts⟩ (c_X3_itemAt l D cyI cyJ cyO qS qSi sl sf sz_ it i (by first | exact h_sz_ | assumption | omega) (by first | exact h_i | assumption | omega)) (cwV 1 hts gX6_get_X3_itemAt rfl rfl rfl (by decide +kernel) ⟨Nat.le_of_ble_eq_true rfl, Nat.le_of_ble_eq_true rfl⟩) (xpV hPc hK (ci := 3) (q0 := 0) (q := (RX3, TX3, 4)) rfl rfl) rfl rfl hl.1 rfl (lv_room (Nat.le_of_ble_eq_true rfl)) dX6_get_54 ⟨Nat.le_of_ble_eq_true rfl, Nat.le_of_ble_eq_true rfl⟩) ?_
  exact W.iret (v := iI (if 0 ≤ i ∧ i < sz_ then it i else 0)) hx hb hr (fun t_ ht_ _ => ⟨congrArg (fun z => Outcome.returned (some (Value.int (iI z)))) (show (if 0 ≤ i ∧ i < sz_ then it i else 0) = (it i) from by rw [if_pos (by omega)]), ht_⟩) (fun _ h9 => absurd h9 List.not_mem_nil) dX6_get_57
set_option maxHeartbeats 1000000 in
set_option maxRecDepth 100000 in
theorem c_X6_write_vB (l : Launch) (D : va_G) (cyI cyJ cyO : ClassId) (qW : Nat) (qT : Nat) (qA : Nat) (qK : Nat) (qC : Nat) (qE : Nat) (qI : Nat) (qF : Nat) (qH : Nat) (qO : Nat) (fi : Int) (y : Int) (s9 : Int) (h_y : -2147483648 ≤ y ∧ y ≤ 2147483647) (h_s9 : -2147483648 ≤ s9 ∧ s9 ≤ 2147483647) (h_ok : ¬ ((0 ≤ y ∧ y < 60) ∧ 0 ≤ s9 ∧ s9 < 4)) : Met l yX6_write wsX6_write ({ frames := 1, cells := 0, slots := 0, locals := 20 }) (va_Pc [.ref qW, .int (iI (y)), .int (iI (s9))] (xR D vwCl [(qW, .inr (6, [.ref qT, .ref qA, .ref qK, .ref qC, .ref qE, .ref qI, .ref qF, .ref qH, .ref qO, .int (iI (fi))]))] (xT cyI cyJ cyO))) (xq (some (.int (iI (-2))))) 0 0 (fun _ => False) := by
  refine Met.ofW (cc := cX6_write) (maxL := 7) (ret := (some .int)) (by decide) rfl ?_
  intro p e s m args below meth c s₁ B hml hv
  obtain ⟨rfl, hP, hK⟩ := hv
  have hx := B.exec
  have hb := B.bytes
  have hr := B.returns
  have hts := atoms_spec (ws := wsX6_write) B.pre
  have hown : s.vm.findClass RX6 = some m.cls := findClass_of_methodNamed B.named
  have hlocks := B.notSynchronized
  have hP : va_P D vwCl [(qW, .inr (6, [.ref qT, .ref qA, .ref qK, .ref qC, .ref qE, .ref qI, .ref qF, .ref qH, .ref qO, .int (iI (fi))]))] s.heap := hP
  have hl := lv_entry ([.ref qW, .int (iI (y)), .int (iI (s9))]) (n := 7) (Nat.le_of_ble_eq_true rfl)
  rw [lg_entry_eq]
  generalize (lg_sl ([.ref qW, .int (iI (y)), .int (iI (s9))]) ++ List.replicate (7 - (lg_sl ([.ref qW, .int (iI (y)), .int (iI (s9))])).length) Slot.unset).toArray = ls at hl ⊢
  have hl : lv_has ls 7 [(0, .ref qW), (1, .int (iI (y))), (2, .int (iI (s9)))] := hl
  refine lv_iload_n hx hb dX6_write_0 rfl (lv_at hl 1 rfl) ?_
  have hPc := hP.sub (ws' := []) [] rfl
  refine xc_i (va_runS (As := [.int (iI (y))]) (rest := []) ⟨hx, hb, hml, hown, hts⟩ (c_X6_isYear l D cyI cyJ cyO y (by first | exact h_y | assumption | omega)) (va_cwS 1 hts gX6_write_X6_isYear rfl rfl rfl (by decide +kernel) ⟨Nat.le_of_ble_eq_true rfl, Nat.le_of_ble_eq_true rfl⟩) (xpS hPc hK) rfl rfl hl.1 rfl (lv_room (Nat.le_of_ble_eq_true rfl)) dX6_write_1 ⟨Nat.le_of_ble_eq_true rfl, Nat.le_of_ble_eq_true rfl⟩) ?_
  refine xb_if_eqB (tgt := 14) hx hb dX6_write_4 (by decide) (fun h_1 => ?_) (fun h_1 => ?_)
  · refine xi_bipush hx hb dX6_write_14 (by decide +kernel) ?_
    exact W.iret (v := iI (-2)) hx hb hr (fun t_ ht_ _ => ⟨congrArg (fun z => Outcome.returned (some (Value.int (iI z)))) rfl, ht_⟩) (fun _ h9 => absurd h9 List.not_mem_nil) dX6_write_16
  · refine lv_iload_n hx hb dX6_write_7 rfl (lv_at hl 2 rfl) ?_
    have hPc := hP.sub (ws' := []) [] rfl
    refine xc_i (va_runS (As := [.int (iI (s9))]) (rest := []) ⟨hx, hb, hml, hown, hts⟩ (c_X6_isSheet l D cyI cyJ cyO s9 (by first | exact h_y | assumption | omega)) (va_cwS 1 hts gX6_write_X6_isSheet rfl rfl rfl (by decide +kernel) ⟨Nat.le_of_ble_eq_true rfl, Nat.le_of_ble_eq_true rfl⟩) (xpS hPc hK) rfl rfl hl.1 rfl (lv_room (Nat.le_of_ble_eq_true rfl)) dX6_write_8 ⟨Nat.le_of_ble_eq_true rfl, Nat.le_of_ble_eq_true rfl⟩) ?_
    refine xb_if_neB (tgt := 17) hx hb dX6_write_11 (by decide) (fun h_2 => by exfalso; omega) (fun h_2 => ?_)
    refine xi_bipush hx hb dX6_write_14 (by decide +kernel) ?_
    exact W.iret (v := iI (-2)) hx hb hr (fun t_ ht_ _ => ⟨congrArg (fun z => Outcome.returned (some (Value.int (iI z)))) rfl, ht_⟩) (fun _ h9 => absurd h9 List.not_mem_nil) dX6_write_16
set_option maxHeartbeats 1000000 in
set_option maxRecDepth 100000 in
theorem c_X6_write_vN (l : Launch) (D : va_G) (cyI cyJ cyO : ClassId) (qW : Nat) (qT : Nat) (qA : Nat) (qK : Nat) (qC : Nat) (qE : Nat) (qI : Nat) (qF : Nat) (qH : Nat) (qO : Nat) (fi : Int) (hq : Int → Option Nat) (qS : Nat) (qSi : Nat) (sl : Int) (sf : Int) (sz_ : Int) (sz : Nat) (y : Int) (s9 : Int) (h_hq : hq s9 = some qS) (h_y : -2147483648 ≤ y ∧ y ≤ 2147483647) (h_s9 : -2147483648 ≤ s9 ∧ s9 ≤ 2147483647) (h_ok : (0 ≤ y ∧ y < 60) ∧ 0 ≤ s9 ∧ s9 < 4) (h_sl : sl = 1) : Met l yX6_write wsX6_write ({ frames := 1, cells := 0, slots := 0, locals := 21 }) (va_Pc [.ref qW, .int (iI (y)), .int (iI (s9))] (xM D vwCl [(qW, .inr (6, [.ref qT, .ref qA, .ref qK, .ref qC, .ref qE, .ref qI, .ref qF, .ref qH, .ref qO, .int (iI (fi))])), (qH, .inl (cyO, 4, .inr (.inr (.inr (.inr (xQ (hq))))))), (qS, .inr (3, [.ref qSi, .int (iI (sl)), .int (iI (sf)), .int (iI (sz_))]))] (xT cyI cyJ cyO) sz)) (va_Qi (fun (r : Int32) (u : Unit) => r = iI (-11) ∧ True) (xB D vwCl (xT cyI cyJ cyO) (va_A [(qW, .inr (6, [.ref qT, .ref qA, .ref qK, .ref qC, .ref qE, .ref qI, .ref qF, .ref qH, .ref qO, .int (iI (fi))])), (qH, .inl (cyO, 4, .inr (.inr (.inr (.inr (xQ (hq))))))), (qS, .inr (3, [.ref qSi, .int (iI (sl)), .int (iI (sf)), .int (iI (sz_))]))] sz) (fun u : Unit => [(qW, .inr (6, [.ref qT, .ref qA, .ref qK, .ref qC, .ref qE, .ref qI, .ref qF, .ref qH, .ref qO, .int (iI (1))])), (qH, .inl (cyO, 4, .inr (.inr (.inr (.inr (xQ (hq))))))), (qS, .inr (3, [.ref qSi, .int (iI (sl)), .int (iI (sf)), .int (iI (sz_))]))])) (va_A [(qW, .inr (6, [.ref qT, .ref qA, .ref qK, .ref qC, .ref qE, .ref qI, .ref qF, .ref qH, .ref qO, .int (iI (fi))])), (qH, .inl (cyO, 4, .inr (.inr (.inr (.inr (xQ (hq))))))), (qS, .inr (3, [.ref qSi, .int (iI (sl)), .int (iI (sf)), .int (iI (sz_))]))] sz)) 0 0 (va_A [(qW, .inr (6, [.ref qT, .ref qA, .ref qK, .ref qC, .ref qE, .ref qI, .ref qF, .ref qH, .ref qO, .int (iI (fi))])), (qH, .inl (cyO, 4, .inr (.inr (.inr (.inr (xQ (hq))))))), (qS, .inr (3, [.ref qSi, .int (iI (sl)), .int (iI (sf)), .int (iI (sz_))]))] sz) := by
  refine Met.ofW (cc := cX6_write) (maxL := 7) (ret := (some .int)) (by decide) rfl ?_
  intro p e s m args below meth c s₁ B hml hv
  obtain ⟨rfl, hsz, hP, hK, hD0⟩ := hv
  have hx := B.exec
  have hb := B.bytes
  have hr := B.returns
  have hts := atoms_spec (ws := wsX6_write) B.pre
  have hown : s.vm.findClass RX6 = some m.cls := findClass_of_methodNamed B.named
  have hlocks := B.notSynchronized
  have hcX3 : ∀ w ∈ wsX30, w ∈ wsX6_write := fun _ h => List.mem_cons_of_mem _ (List.mem_append_left _ (List.mem_append_right _ h))
  have hcX6 : ∀ w ∈ wsX60, w ∈ wsX6_write := fun _ h => List.mem_cons_of_mem _ (List.mem_append_left _ (List.mem_append_left _ (List.mem_append_right _ h)))
  subst hsz
  have hD := hD0.self (sz := s.heap.size)
  generalize hAe : va_A [(qW, .inr (6, [.ref qT, .ref qA, .ref qK, .ref qC, .ref qE, .ref qI, .ref qF, .ref qH, .ref qO, .int (iI (fi))])), (qH, .inl (cyO, 4, .inr (.inr (.inr (.inr (xQ (hq))))))), (qS, .inr (3, [.ref qSi, .int (iI (sl)), .int (iI (sf)), .int (iI (sz_))]))] s.heap.size = A at hD ⊢
  have hA : ∀ q : Nat, s.heap.size ≤ q → A q := fun q h => by rw [← hAe]; exact Or.inr h
  have hS : va_S A s.heap s.heap [] := va_S.rf
  have hP : va_P D vwCl [(qW, .inr (6, [.ref qT, .ref qA, .ref qK, .ref qC, .ref qE, .ref qI, .ref qF, .ref qH, .ref qO, .int (iI (fi))])), (qH, .inl (cyO, 4, .inr (.inr (.inr (.inr (xQ (hq))))))), (qS, .inr (3, [.ref qSi, .int (iI (sl)), .int (iI (sf)), .int (iI (sz_))]))] s.heap := hP
  have hl := lv_entry ([.ref qW, .int (iI (y)), .int (iI (s9))]) (n := 7) (Nat.le_of_ble_eq_true rfl)
  rw [lg_entry_eq]
  generalize (lg_sl ([.ref qW, .int (iI (y)), .int (iI (s9))]) ++ List.replicate (7 - (lg_sl ([.ref qW, .int (iI (y)), .int (iI (s9))])).length) Slot.unset).toArray = ls at hl ⊢
  have hl : lv_has ls 7 [(0, .ref qW), (1, .int (iI (y))), (2, .int (iI (s9)))] := hl
  refine lv_iload_n hx hb dX6_write_0 rfl (lv_at hl 1 rfl) ?_
  have hPc := hP.sub (ws' := []) [] rfl
  refine xc_i (va_runS (As := [.int (iI (y))]) (rest := []) ⟨hx, hb, hml, hown, hts⟩ (c_X6_isYear l D cyI cyJ cyO y (by first | exact h_y | assumption | omega)) (va_cwS 1 hts gX6_write_X6_isYear rfl rfl rfl (by decide +kernel) ⟨Nat.le_of_ble_eq_true rfl, Nat.le_of_ble_eq_true rfl⟩) (xpS hPc hK) rfl rfl hl.1 rfl (lv_room (Nat.le_of_ble_eq_true rfl)) dX6_write_1 ⟨Nat.le_of_ble_eq_true rfl, Nat.le_of_ble_eq_true rfl⟩) ?_
  refine xb_if_eqB (tgt := 14) hx hb dX6_write_4 (by decide) (fun h_1 => by exfalso; omega) (fun h_1 => ?_)
  refine lv_iload_n hx hb dX6_write_7 rfl (lv_at hl 2 rfl) ?_
  have hPc := hP.sub (ws' := []) [] rfl
  refine xc_i (va_runS (As := [.int (iI (s9))]) (rest := []) ⟨hx, hb, hml, hown, hts⟩ (c_X6_isSheet l D cyI cyJ cyO s9 (by first | exact h_y | assumption | omega)) (va_cwS 1 hts gX6_write_X6_isSheet rfl rfl rfl (by decide +kernel) ⟨Nat.le_of_ble_eq_true rfl, Nat.le_of_ble_eq_true rfl⟩) (xpS hPc hK) rfl rfl hl.1 rfl (lv_room (Nat.le_of_ble_eq_true rfl)) dX6_write_8 ⟨Nat.le_of_ble_eq_true rfl, Nat.le_of_ble_eq_true rfl⟩) ?_
  refine xb_if_neB (tgt := 17) hx hb dX6_write_11 (by decide) (fun h_2 => ?_) (fun h_2 => by exfalso; omega)
  refine lv_aload_n hx hb dX6_write_17 rfl (lv_at hl 0 rfl) ?_
  refine va_get (D := D) (ci := 6) (C := RX6) (T := TX6) (N := 10) hx hb hts hcX6 hown hK hP 0 rfl rfl 7 (by decide) (hts (.fieldLink RX6 67 "WallMarks" "sheets" "[LWallMarks$Sheet;") (List.mem_of_getElem? (i := 1) (by decide +kernel))) (fun _ h9 => h9) rfl dX6_write_18 ?_
  refine lv_iload_n hx hb dX6_write_21 rfl (lv_at hl 2 rfl) ?_
  refine xq_ald (D := D) (qv := qS) hx hb hK hP 1 2 rfl rfl (by decide) (by omega) (by exact h_hq) dX6_write_22 ?_
  refine lv_astore_n (lv' := [(3, .ref qS), (0, .ref qW), (1, .int (iI (y))), (2, .int (iI (s9)))]) hx hb dX6_write_23 rfl hl (by decide) rfl (fun ls hl => ?_)
  refine lv_aload_n hx hb dX6_write_24 rfl (lv_at hl 0 rfl) ?_
  refine va_get (D := D) (ci := 3) (C := RX3) (T := TX3) (N := 4) hx hb hts hcX3 hown hK hP 2 rfl rfl 1 (by decide) (hts (.fieldLink RX6 108 "WallMarks$Sheet" "lost" "Z") (List.mem_of_getElem? (i := 2) (by decide +kernel))) (fun _ h9 => h9) rfl dX6_write_25 ?_
  refine xb_if_eq (tgt := 37) hx hb dX6_write_28 (by decide) (by omega) (fun h_3 => by exfalso; omega) (fun h_3 => ?_)
  refine lv_aload_n hx hb dX6_write_31 rfl (lv_at hl 1 rfl) ?_
  refine xi_const hx hb dX6_write_32 ?_
  have hPc := hP.sub (ws' := [(qW, .inr (6, [.ref qT, .ref qA, .ref qK, .ref qC, .ref qE, .ref qI, .ref qF, .ref qH, .ref qO, .int (iI (fi))]))]) [0] rfl
  have hDc := hD.sub (ws' := [(qW, .inr (6, [.ref qT, .ref qA, .ref qK, .ref qC, .ref qE, .ref qI, .ref qF, .ref qH, .ref qO, .int (iI (fi))]))]) [0] (by decide) rfl
  have hFc := va_free (wc := [(qW, .inr (6, [.ref qT, .ref qA, .ref qK, .ref qC, .ref qE, .ref qI, .ref qF, .ref qH, .ref qO, .int (iI (fi))]))]) hD hS hA [0] rfl
  refine va_calli (va_runV (As := [.int (iI (1))]) (rest := []) ⟨hx, hb, hml, hown, hts⟩ (c_X6_found l D cyI cyJ cyO qW qT qA qK qC qE qI qF qH qO fi s.heap.size 1 (by first | exact h_n | assumption | omega)) (cwV 1 hts gX6_write_X6_found rfl rfl rfl (by decide +kernel) ⟨Nat.le_of_ble_eq_true rfl, Nat.le_of_ble_eq_true rfl⟩) (xpVM hPc hK hDc (ci := 6) (q0 := 0) (q := (RX6, TX6, 10)) rfl rfl) rfl rfl hl.1 rfl (lv_room (Nat.le_of_ble_eq_true rfl)) dX6_write_33 ⟨Nat.le_of_ble_eq_true rfl, Nat.le_of_ble_eq_true rfl⟩) hS (fun q _ h => hFc q h) hFc (fun r_ u_4 t_ H1 locs ht_ hvm hw hB hz1 hk1 hS => ?_)
  obtain ⟨hP1, hK1, hD1⟩ := hB
  rw [ht_] at hP1
  obtain ⟨hP, hD⟩ := xj (wc := [(qW, .inr (6, [.ref qT, .ref qA, .ref qK, .ref qC, .ref qE, .ref qI, .ref qF, .ref qH, .ref qO, .int (iI (fi))]))]) (w1 := [(qW, .inr (6, [.ref qT, .ref qA, .ref qK, .ref qC, .ref qE, .ref qI, .ref qF, .ref qH, .ref qO, .int (iI (1))]))]) hP hD [0] rfl rfl hk1 hP1
  generalize H1 = H at hP hS ⊢
  have hP : va_P D vwCl [(qW, .inr (6, [.ref qT, .ref qA, .ref qK, .ref qC, .ref qE, .ref qI, .ref qF, .ref qH, .ref qO, .int (iI (1))])), (qH, .inl (cyO, 4, .inr (.inr (.inr (.inr (xQ (hq))))))), (qS, .inr (3, [.ref qSi, .int (iI (sl)), .int (iI (sf)), .int (iI (sz_))]))] H := hP
  have hD : va_D A [(qW, .inr (6, [.ref qT, .ref qA, .ref qK, .ref qC, .ref qE, .ref qI, .ref qF, .ref qH, .ref qO, .int (iI (1))])), (qH, .inl (cyO, 4, .inr (.inr (.inr (.inr (xQ (hq))))))), (qS, .inr (3, [.ref qSi, .int (iI (sl)), .int (iI (sf)), .int (iI (sz_))]))] := hD
  obtain ⟨hre, hw_5⟩ := hw
  have hw_5 : True := hw_5
  rw [show r_ = iI (-10 - 1) from hre]
  exact W.iret (v := iI (-10 - 1)) hx hb hr (fun t_ ht_ hW_ => ⟨⟨_, (), rfl, ⟨(congrArg iI (show (-10 - 1) = (-11) from by first | rfl | omega)), trivial⟩, by rw [ht_]; exact hP, va_K.moved hW_.alike hK, hD⟩, hS.F ht_⟩) hS.2.2 dX6_write_36
set_option maxHeartbeats 1000000 in
set_option maxRecDepth 100000 in
theorem c_X6_write_vK (l : Launch) (D : va_G) (cyI cyJ cyO : ClassId) (qW : Nat) (qT : Nat) (qA : Nat) (qK : Nat) (qC : Nat) (qE : Nat) (qI : Nat) (qF : Nat) (qH : Nat) (qO : Nat) (fi : Int) (hq : Int → Option Nat) (qS : Nat) (qSi : Nat) (sl : Int) (sf : Int) (sz_ : Int) (it : Int → Int) (qKk : Nat) (qKl : Nat) (kk : Int → Int) (kl : Int → Int) (sz : Nat) (y : Int) (s9 : Int) (h_hq : hq s9 = some qS) (h_sf : 0 ≤ sf ∧ sf ≤ 2) (h_sz_ : 0 ≤ sz_ ∧ sz_ ≤ 60) (h_kk : ∀ j, 0 ≤ kk j ∧ kk j ≤ 2) (h_kl : ∀ j, -1 ≤ kl j ∧ kl j ≤ 999) (h_y : -2147483648 ≤ y ∧ y ≤ 2147483647) (h_s9 : -2147483648 ≤ s9 ∧ s9 ≤ 2147483647) (h_ok : (0 ≤ y ∧ y < 60) ∧ 0 ≤ s9 ∧ s9 < 4) (h_sl : sl = 0) : Met l yX6_write wsX6_write ({ frames := 2, cells := 0, slots := 0, locals := 44 }) (va_Pc [.ref qW, .int (iI (y)), .int (iI (s9))] (xM D vwCl [(qW, .inr (6, [.ref qT, .ref qA, .ref qK, .ref qC, .ref qE, .ref qI, .ref qF, .ref qH, .ref qO, .int (iI (fi))])), (qH, .inl (cyO, 4, .inr (.inr (.inr (.inr (xQ (hq))))))), (qS, .inr (3, [.ref qSi, .int (iI (sl)), .int (iI (sf)), .int (iI (sz_))])), (qSi, .inl (cyI, 60, .inl (xA (it)))), (qK, .inr (2, [.ref qKk, .ref qKl])), (qKk, .inl (cyI, 60, .inl (xA (kk)))), (qKl, .inl (cyI, 60, .inl (xA (kl))))] (xT cyI cyJ cyO) sz)) (va_Qi (fun (r : Int32) (u : Unit) => r = iI (zmin sz_ (60 - y)) ∧ True) (xB D vwCl (xT cyI cyJ cyO) (va_A [(qW, .inr (6, [.ref qT, .ref qA, .ref qK, .ref qC, .ref qE, .ref qI, .ref qF, .ref qH, .ref qO, .int (iI (fi))])), (qH, .inl (cyO, 4, .inr (.inr (.inr (.inr (xQ (hq))))))), (qS, .inr (3, [.ref qSi, .int (iI (sl)), .int (iI (sf)), .int (iI (sz_))])), (qSi, .inl (cyI, 60, .inl (xA (it)))), (qK, .inr (2, [.ref qKk, .ref qKl])), (qKk, .inl (cyI, 60, .inl (xA (kk)))), (qKl, .inl (cyI, 60, .inl (xA (kl))))] sz) (fun u : Unit => [(qW, .inr (6, [.ref qT, .ref qA, .ref qK, .ref qC, .ref qE, .ref qI, .ref qF, .ref qH, .ref qO, .int (iI (fi))])), (qH, .inl (cyO, 4, .inr (.inr (.inr (.inr (xQ (hq))))))), (qS, .inr (3, [.ref qSi, .int (iI (sl)), .int (iI (sf)), .int (iI (sz_))])), (qSi, .inl (cyI, 60, .inl (xA (rgU it 0 (zmin sz_ (60 - y)) (wrF kk kl sf y))))), (qK, .inr (2, [.ref qKk, .ref qKl])), (qKk, .inl (cyI, 60, .inl (xA (kk)))), (qKl, .inl (cyI, 60, .inl (xA (kl))))])) (va_A [(qW, .inr (6, [.ref qT, .ref qA, .ref qK, .ref qC, .ref qE, .ref qI, .ref qF, .ref qH, .ref qO, .int (iI (fi))])), (qH, .inl (cyO, 4, .inr (.inr (.inr (.inr (xQ (hq))))))), (qS, .inr (3, [.ref qSi, .int (iI (sl)), .int (iI (sf)), .int (iI (sz_))])), (qSi, .inl (cyI, 60, .inl (xA (it)))), (qK, .inr (2, [.ref qKk, .ref qKl])), (qKk, .inl (cyI, 60, .inl (xA (kk)))), (qKl, .inl (cyI, 60, .inl (xA (kl))))] sz)) 0 0 (va_A [(qW, .inr (6, [.ref qT, .ref qA, .ref qK, .ref qC, .ref qE, .ref qI, .ref qF, .ref qH, .ref qO, .int (iI (fi))])), (qH, .inl (cyO, 4, .inr (.inr (.inr (.inr (xQ (hq))))))), (qS, .inr (3, [.ref qSi, .int (iI (sl)), .int (iI (sf)), .int (iI (sz_))])), (qSi, .inl (cyI, 60, .inl (xA (it)))), (qK, .inr (2, [.ref qKk, .ref qKl])), (qKk, .inl (cyI, 60, .inl (xA (kk)))), (qKl, .inl (cyI, 60, .inl (xA (kl))))] sz) := by
  refine Met.ofW (cc := cX6_write) (maxL := 7) (ret := (some .int)) (by decide) rfl ?_
  intro p e s m args below meth c s₁ B hml hv
  obtain ⟨rfl, hsz, hP, hK, hD0⟩ := hv
  have hx := B.exec
  have hb := B.bytes
  have hr := B.returns
  have hts := atoms_spec (ws := wsX6_write) B.pre
  have hown : s.vm.findClass RX6 = some m.cls := findClass_of_methodNamed B.named
  have hlocks := B.notSynchronized
  have hcX2 : ∀ w ∈ wsX20, w ∈ wsX6_write := fun _ h => List.mem_cons_of_mem _ (List.mem_append_right _ h)
  have hcX3 : ∀ w ∈ wsX30, w ∈ wsX6_write := fun _ h => List.mem_cons_of_mem _ (List.mem_append_left _ (List.mem_append_right _ h))
  have hcX6 : ∀ w ∈ wsX60, w ∈ wsX6_write := fun _ h => List.mem_cons_of_mem _ (List.mem_append_left _ (List.mem_append_left _ (List.mem_append_right _ h)))
  subst hsz
  have hD := hD0.self (sz := s.heap.size)
  generalize hAe : va_A [(qW, .inr (6, [.ref qT, .ref qA, .ref qK, .ref qC, .ref qE, .ref qI, .ref qF, .ref qH, .ref qO, .int (iI (fi))])), (qH, .inl (cyO, 4, .inr (.inr (.inr (.inr (xQ (hq))))))), (qS, .inr (3, [.ref qSi, .int (iI (sl)), .int (iI (sf)), .int (iI (sz_))])), (qSi, .inl (cyI, 60, .inl (xA (it)))), (qK, .inr (2, [.ref qKk, .ref qKl])), (qKk, .inl (cyI, 60, .inl (xA (kk)))), (qKl, .inl (cyI, 60, .inl (xA (kl))))] s.heap.size = A at hD ⊢
  have hA : ∀ q : Nat, s.heap.size ≤ q → A q := fun q h => by rw [← hAe]; exact Or.inr h
  have hS : va_S A s.heap s.heap [] := va_S.rf
  have hP : va_P D vwCl [(qW, .inr (6, [.ref qT, .ref qA, .ref qK, .ref qC, .ref qE, .ref qI, .ref qF, .ref qH, .ref qO, .int (iI (fi))])), (qH, .inl (cyO, 4, .inr (.inr (.inr (.inr (xQ (hq))))))), (qS, .inr (3, [.ref qSi, .int (iI (sl)), .int (iI (sf)), .int (iI (sz_))])), (qSi, .inl (cyI, 60, .inl (xA (it)))), (qK, .inr (2, [.ref qKk, .ref qKl])), (qKk, .inl (cyI, 60, .inl (xA (kk)))), (qKl, .inl (cyI, 60, .inl (xA (kl))))] s.heap := hP
  have hl := lv_entry ([.ref qW, .int (iI (y)), .int (iI (s9))]) (n := 7) (Nat.le_of_ble_eq_true rfl)
  rw [lg_entry_eq]
  generalize (lg_sl ([.ref qW, .int (iI (y)), .int (iI (s9))]) ++ List.replicate (7 - (lg_sl ([.ref qW, .int (iI (y)), .int (iI (s9))])).length) Slot.unset).toArray = ls at hl ⊢
  have hl : lv_has ls 7 [(0, .ref qW), (1, .int (iI (y))), (2, .int (iI (s9)))] := hl
  have cut_53 : ∀ (N_ : Nat) (i : Int) (z9 : Int → Int) (hzr : 0 ≤ zmin sz_ (60 - y) ∧ zmin sz_ (60 - y) ≤ sz_ ∧ zmin sz_ (60 - y) ≤ 60 - y) (hi : 0 ≤ i ∧ i ≤ zmin sz_ (60 - y)) (hz9 : z9 = rgU it 0 i (wrF kk kl sf y)) (hN_ : (zmin sz_ (60 - y) - i).toNat < N_) (H : Heap) (locs : List Loc) (hP : va_P D vwCl [(qW, .inr (6, [.ref qT, .ref qA, .ref qK, .ref qC, .ref qE, .ref qI, .ref qF, .ref qH, .ref qO, .int (iI (fi))])), (qH, .inl (cyO, 4, .inr (.inr (.inr (.inr (xQ (hq))))))), (qS, .inr (3, [.ref qSi, .int (iI (sl)), .int (iI (sf)), .int (iI (sz_))])), (qSi, .inl (cyI, 60, .inl (xA (z9)))), (qK, .inr (2, [.ref qKk, .ref qKl])), (qKk, .inl (cyI, 60, .inl (xA (kk)))), (qKl, .inl (cyI, 60, .inl (xA (kl))))] H) (hD : va_D A [(qW, .inr (6, [.ref qT, .ref qA, .ref qK, .ref qC, .ref qE, .ref qI, .ref qF, .ref qH, .ref qO, .int (iI (fi))])), (qH, .inl (cyO, 4, .inr (.inr (.inr (.inr (xQ (hq))))))), (qS, .inr (3, [.ref qSi, .int (iI (sl)), .int (iI (sf)), .int (iI (sz_))])), (qSi, .inl (cyI, 60, .inl (xA (z9)))), (qK, .inr (2, [.ref qKk, .ref qKl])), (qKk, .inl (cyI, 60, .inl (xA (kk)))), (qKl, .inl (cyI, 60, .inl (xA (kl))))]) (hS : va_S A s.heap H locs) (ls : Array Slot) (hl : lv_has ls 7 [(0, .ref qW), (1, .int (iI (y))), (3, .ref qS), (4, .int (iI (zmin sz_ (60 - y)))), (5, .int (iI (i)))]), W p l e (headSpec wsX6_write ({ frames := 2, cells := 0, slots := 0, locals := 44 })).room s m ([.ref qW, .int (iI (y)), .int (iI (s9))] : List Value).toArray below meth c H locs 0 0 (MQ below (va_Qi (fun (r : Int32) (u : Unit) => r = iI (zmin sz_ (60 - y)) ∧ True) (xB D vwCl (xT cyI cyJ cyO) A (fun u : Unit => [(qW, .inr (6, [.ref qT, .ref qA, .ref qK, .ref qC, .ref qE, .ref qI, .ref qF, .ref qH, .ref qO, .int (iI (fi))])), (qH, .inl (cyO, 4, .inr (.inr (.inr (.inr (xQ (hq))))))), (qS, .inr (3, [.ref qSi, .int (iI (sl)), .int (iI (sf)), .int (iI (sz_))])), (qSi, .inl (cyI, 60, .inl (xA (rgU it 0 (zmin sz_ (60 - y)) (wrF kk kl sf y))))), (qK, .inr (2, [.ref qKk, .ref qKl])), (qKk, .inl (cyI, 60, .inl (xA (kk)))), (qKl, .inl (cyI, 60, .inl (xA (kl))))])) A) ([.ref qW, .int (iI (y)), .int (iI (s9))] : List Value).toArray s 0 0 A) (F0 m 53 ls []) := by
    intro N_
    induction N_ with
    | zero => intro i z9 hzr hi hz9 hN_ H locs hP hD hS ls hl; exact absurd hN_ (Nat.not_lt_zero _)
    | succ N_ ih_53 =>
      intro i z9 hzr hi hz9 hN_ H locs hP hD hS ls hl
      refine lv_iload hx hb dX6_write_53 (lv_at hl 4 rfl) ?_
      refine lv_iload hx hb dX6_write_55 (lv_at hl 3 rfl) ?_
      refine xb_icmp_ge (tgt := 115) hx hb dX6_write_57 (by decide) (by omega) (fun h_1 => ?_) (fun h_1 => ?_)
      · refine lv_iload hx hb dX6_write_115 (lv_at hl 3 rfl) ?_
        have he0 : (z9 : Int → Int) = (rgU it 0 (zmin sz_ (60 - y)) (wrF kk kl sf y)) := by rw [hz9, show i = zmin sz_ (60 - y) from by omega]
        have hW8 := congrArg (fun (xv0 : Int → Int) => ([(qW, .inr (6, [.ref qT, .ref qA, .ref qK, .ref qC, .ref qE, .ref qI, .ref qF, .ref qH, .ref qO, .int (iI (fi))])), (qH, .inl (cyO, 4, .inr (.inr (.inr (.inr (xQ (hq))))))), (qS, .inr (3, [.ref qSi, .int (iI (sl)), .int (iI (sf)), .int (iI (sz_))])), (qSi, .inl (cyI, 60, .inl (xA (xv0)))), (qK, .inr (2, [.ref qKk, .ref qKl])), (qKk, .inl (cyI, 60, .inl (xA (kk)))), (qKl, .inl (cyI, 60, .inl (xA (kl))))] : va_W)) he0
        have hW9 : ([(qW, .inr (6, [.ref qT, .ref qA, .ref qK, .ref qC, .ref qE, .ref qI, .ref qF, .ref qH, .ref qO, .int (iI (fi))])), (qH, .inl (cyO, 4, .inr (.inr (.inr (.inr (xQ (hq))))))), (qS, .inr (3, [.ref qSi, .int (iI (sl)), .int (iI (sf)), .int (iI (sz_))])), (qSi, .inl (cyI, 60, .inl (xA (z9)))), (qK, .inr (2, [.ref qKk, .ref qKl])), (qKk, .inl (cyI, 60, .inl (xA (kk)))), (qKl, .inl (cyI, 60, .inl (xA (kl))))] : va_W) = [(qW, .inr (6, [.ref qT, .ref qA, .ref qK, .ref qC, .ref qE, .ref qI, .ref qF, .ref qH, .ref qO, .int (iI (fi))])), (qH, .inl (cyO, 4, .inr (.inr (.inr (.inr (xQ (hq))))))), (qS, .inr (3, [.ref qSi, .int (iI (sl)), .int (iI (sf)), .int (iI (sz_))])), (qSi, .inl (cyI, 60, .inl (xA (rgU it 0 (zmin sz_ (60 - y)) (wrF kk kl sf y))))), (qK, .inr (2, [.ref qKk, .ref qKl])), (qKk, .inl (cyI, 60, .inl (xA (kk)))), (qKl, .inl (cyI, 60, .inl (xA (kl))))] := hW8
        rw [hW9] at hP hD
        exact W.iret (v := iI (zmin sz_ (60 - y))) hx hb hr (fun t_ ht_ hW_ => ⟨⟨_, (), rfl, ⟨rfl, trivial⟩, by rw [ht_]; exact hP, va_K.moved hW_.alike hK, hD⟩, hS.F ht_⟩) hS.2.2 dX6_write_117
      · refine lv_aload_n hx hb dX6_write_60 rfl (lv_at hl 0 rfl) ?_
        refine va_get (D := D) (ci := 6) (C := RX6) (T := TX6) (N := 10) hx hb hts hcX6 hown hK hP 0 rfl rfl 2 (by decide) (hts (.fieldLink RX6 26 "WallMarks" "knowledge" "LWallMarks$Known;") (List.mem_of_getElem? (i := 8) (by decide +kernel))) (fun _ h9 => h9) rfl dX6_write_61 ?_
        refine va_get (D := D) (ci := 2) (C := RX2) (T := TX2) (N := 2) hx hb hts hcX2 hown hK hP 4 rfl rfl 0 (by decide) (hts (.fieldLink RX6 137 "WallMarks$Known" "kinds" "[I") (List.mem_of_getElem? (i := 9) (by decide +kernel))) (fun _ h9 => h9) rfl dX6_write_64 ?_
        refine lv_iload_n hx hb dX6_write_67 rfl (lv_at hl 1 rfl) ?_
        refine lv_iload hx hb dX6_write_68 (lv_at hl 4 rfl) ?_
        refine xi_add hx hb dX6_write_70 ?_
        refine xi_ald (D := D) hx hb hK hP 5 0 rfl rfl (by decide) (by omega) dX6_write_71 ?_
        have hr_2 := h_kk (y + i)
        refine xb_if_ne (tgt := 79) hx hb dX6_write_72 (by decide) (by omega) (fun h_3 => ?_) (fun h_3 => ?_)
        · refine xi_const hx hb dX6_write_79 ?_
          refine lv_istore (lv' := [(6, .int (iI (0))), (0, .ref qW), (1, .int (iI (y))), (3, .ref qS), (4, .int (iI (zmin sz_ (60 - y)))), (5, .int (iI (i)))]) hx hb dX6_write_80 hl (by decide) rfl (fun ls hl => ?_)
          refine lv_aload_n hx hb dX6_write_82 rfl (lv_at hl 3 rfl) ?_
          refine lv_iload hx hb dX6_write_83 (lv_at hl 5 rfl) ?_
          refine lv_iload hx hb dX6_write_85 (lv_at hl 0 rfl) ?_
          refine xb_if_eq (tgt := 105) hx hb dX6_write_87 (by decide) (by omega) (fun h_4 => ?_) (fun h_4 => by exfalso; omega)
          refine xi_const hx hb dX6_write_105 ?_
          have hPc := hP.sub (ws' := [(qS, .inr (3, [.ref qSi, .int (iI (sl)), .int (iI (sf)), .int (iI (sz_))])), (qSi, .inl (cyI, 60, .inl (xA (z9))))]) [2, 3] rfl
          have hDc := hD.sub (ws' := [(qS, .inr (3, [.ref qSi, .int (iI (sl)), .int (iI (sf)), .int (iI (sz_))])), (qSi, .inl (cyI, 60, .inl (xA (z9))))]) [2, 3] (by decide) rfl
          have hFc := va_free (wc := [(qS, .inr (3, [.ref qSi, .int (iI (sl)), .int (iI (sf)), .int (iI (sz_))])), (qSi, .inl (cyI, 60, .inl (xA (z9))))]) hD hS hA [2, 3] rfl
          refine va_callv (va_runV (As := [.int (iI (i)), .int (iI (-1))]) (rest := []) ⟨hx, hb, hml, hown, hts⟩ (c_X3_put l D cyI cyJ cyO qS qSi sl sf sz_ z9 H.size i (-1) (by first | exact h_sz_ | assumption | omega) (by omega) (by omega)) (cwV 2 hts gX6_write_X3_put rfl rfl rfl (by decide +kernel) ⟨Nat.le_of_ble_eq_true rfl, Nat.le_of_ble_eq_true rfl⟩) (xpVM hPc hK hDc (ci := 3) (q0 := 0) (q := (RX3, TX3, 4)) rfl rfl) rfl rfl hl.1 rfl (lv_room (Nat.le_of_ble_eq_true rfl)) dX6_write_106 ⟨Nat.le_of_ble_eq_true rfl, Nat.le_of_ble_eq_true rfl⟩) hS (fun q _ h => hFc q h) hFc (fun u_5 t_ H1 locs ht_ hvm hw hB hz1 hk1 hS => ?_)
          obtain ⟨hP1, hK1, hD1⟩ := hB
          rw [ht_] at hP1
          obtain ⟨hP, hD⟩ := xj (wc := [(qS, .inr (3, [.ref qSi, .int (iI (sl)), .int (iI (sf)), .int (iI (sz_))])), (qSi, .inl (cyI, 60, .inl (xA (z9))))]) (w1 := [(qS, .inr (3, [.ref qSi, .int (iI (sl)), .int (iI (sf)), .int (iI (sz_))])), (qSi, .inl (cyI, 60, .inl (xA (uz z9 i (nar sf (-1))))))]) hP hD [2, 3] rfl rfl hk1 hP1
          generalize H1 = H at hP hS ⊢
          have hP : va_P D vwCl [(qW, .inr (6, [.ref qT, .ref qA, .ref qK, .ref qC, .ref qE, .ref qI, .ref qF, .ref qH, .ref qO, .int (iI (fi))])), (qH, .inl (cyO, 4, .inr (.inr (.inr (.inr (xQ (hq))))))), (qS, .inr (3, [.ref qSi, .int (iI (sl)), .int (iI (sf)), .int (iI (sz_))])), (qSi, .inl (cyI, 60, .inl (xA (uz z9 i (nar sf (-1)))))), (qK, .inr (2, [.ref qKk, .ref qKl])), (qKk, .inl (cyI, 60, .inl (xA (kk)))), (qKl, .inl (cyI, 60, .inl (xA (kl))))] H := hP
          have hD : va_D A [(qW, .inr (6, [.ref qT, .ref qA, .ref qK, .ref qC, .ref qE, .ref qI, .ref qF, .ref qH, .ref qO, .int (iI (fi))])), (qH, .inl (cyO, 4, .inr (.inr (.inr (.inr (xQ (hq))))))), (qS, .inr (3, [.ref qSi, .int (iI (sl)), .int (iI (sf)), .int (iI (sz_))])), (qSi, .inl (cyI, 60, .inl (xA (uz z9 i (nar sf (-1)))))), (qK, .inr (2, [.ref qKk, .ref qKl])), (qKk, .inl (cyI, 60, .inl (xA (kk)))), (qKl, .inl (cyI, 60, .inl (xA (kl))))] := hD
          have hw_6 : True := hw
          refine xi_inc (k := 5) (lv' := [(5, .int (iI (i + 1))), (6, .int (iI (0))), (0, .ref qW), (1, .int (iI (y))), (3, .ref qS), (4, .int (iI (zmin sz_ (60 - y))))]) hx hb dX6_write_109 hl rfl (by decide) rfl (fun ls hl => ?_)
          refine lv_goto (tgt := 53) hx hb dX6_write_112 (by decide) ?_
          exact ih_53 (i + 1) (uz z9 i (nar sf (-1))) (by first | assumption | omega | (constructor <;> omega)) (by first | assumption | omega | (constructor <;> omega)) (by first | (rw [rgU_0]; done) | (rw [hz9]; refine rgU_s (by omega) (by omega) ?_; unfold wrF; first | rw [if_pos (by omega)] | rw [if_neg (by omega)])) (by omega) _ _ hP hD hS ls (lv_sub hl [2, 3, 4, 5, 0] rfl)
        · refine xi_const hx hb dX6_write_75 ?_
          refine lv_goto (tgt := 80) hx hb dX6_write_76 (by decide) ?_
          refine lv_istore (lv' := [(6, .int (iI (1))), (0, .ref qW), (1, .int (iI (y))), (3, .ref qS), (4, .int (iI (zmin sz_ (60 - y)))), (5, .int (iI (i)))]) hx hb dX6_write_80 hl (by decide) rfl (fun ls hl => ?_)
          refine lv_aload_n hx hb dX6_write_82 rfl (lv_at hl 3 rfl) ?_
          refine lv_iload hx hb dX6_write_83 (lv_at hl 5 rfl) ?_
          refine lv_iload hx hb dX6_write_85 (lv_at hl 0 rfl) ?_
          refine xb_if_eq (tgt := 105) hx hb dX6_write_87 (by decide) (by omega) (fun h_7 => by exfalso; omega) (fun h_7 => ?_)
          refine lv_aload_n hx hb dX6_write_90 rfl (lv_at hl 1 rfl) ?_
          refine va_get (D := D) (ci := 6) (C := RX6) (T := TX6) (N := 10) hx hb hts hcX6 hown hK hP 0 rfl rfl 2 (by decide) (hts (.fieldLink RX6 26 "WallMarks" "knowledge" "LWallMarks$Known;") (List.mem_of_getElem? (i := 8) (by decide +kernel))) (fun _ h9 => h9) rfl dX6_write_91 ?_
          refine va_get (D := D) (ci := 2) (C := RX2) (T := TX2) (N := 2) hx hb hts hcX2 hown hK hP 4 rfl rfl 1 (by decide) (hts (.fieldLink RX6 140 "WallMarks$Known" "levels" "[I") (List.mem_of_getElem? (i := 10) (by decide +kernel))) (fun _ h9 => h9) rfl dX6_write_94 ?_
          refine lv_iload_n hx hb dX6_write_97 rfl (lv_at hl 2 rfl) ?_
          refine lv_iload hx hb dX6_write_98 (lv_at hl 5 rfl) ?_
          refine xi_add hx hb dX6_write_100 ?_
          refine xi_ald (D := D) hx hb hK hP 6 0 rfl rfl (by decide) (by omega) dX6_write_101 ?_
          have hr_8 := h_kl (y + i)
          refine lv_goto (tgt := 106) hx hb dX6_write_102 (by decide) ?_
          have hPc := hP.sub (ws' := [(qS, .inr (3, [.ref qSi, .int (iI (sl)), .int (iI (sf)), .int (iI (sz_))])), (qSi, .inl (cyI, 60, .inl (xA (z9))))]) [2, 3] rfl
          have hDc := hD.sub (ws' := [(qS, .inr (3, [.ref qSi, .int (iI (sl)), .int (iI (sf)), .int (iI (sz_))])), (qSi, .inl (cyI, 60, .inl (xA (z9))))]) [2, 3] (by decide) rfl
          have hFc := va_free (wc := [(qS, .inr (3, [.ref qSi, .int (iI (sl)), .int (iI (sf)), .int (iI (sz_))])), (qSi, .inl (cyI, 60, .inl (xA (z9))))]) hD hS hA [2, 3] rfl
          refine va_callv (va_runV (As := [.int (iI (i)), .int (iI (kl (y + i)))]) (rest := []) ⟨hx, hb, hml, hown, hts⟩ (c_X3_put l D cyI cyJ cyO qS qSi sl sf sz_ z9 H.size i (kl (y + i)) (by first | exact h_sz_ | assumption | omega) (by omega) (by omega)) (cwV 2 hts gX6_write_X3_put rfl rfl rfl (by decide +kernel) ⟨Nat.le_of_ble_eq_true rfl, Nat.le_of_ble_eq_true rfl⟩) (xpVM hPc hK hDc (ci := 3) (q0 := 0) (q := (RX3, TX3, 4)) rfl rfl) rfl rfl hl.1 rfl (lv_room (Nat.le_of_ble_eq_true rfl)) dX6_write_106 ⟨Nat.le_of_ble_eq_true rfl, Nat.le_of_ble_eq_true rfl⟩) hS (fun q _ h => hFc q h) hFc (fun u_9 t_ H1 locs ht_ hvm hw hB hz1 hk1 hS => ?_)
          obtain ⟨hP1, hK1, hD1⟩ := hB
          rw [ht_] at hP1
          obtain ⟨hP, hD⟩ := xj (wc := [(qS, .inr (3, [.ref qSi, .int (iI (sl)), .int (iI (sf)), .int (iI (sz_))])), (qSi, .inl (cyI, 60, .inl (xA (z9))))]) (w1 := [(qS, .inr (3, [.ref qSi, .int (iI (sl)), .int (iI (sf)), .int (iI (sz_))])), (qSi, .inl (cyI, 60, .inl (xA (uz z9 i (nar sf (kl (y + i)))))))]) hP hD [2, 3] rfl rfl hk1 hP1
          generalize H1 = H at hP hS ⊢
          have hP : va_P D vwCl [(qW, .inr (6, [.ref qT, .ref qA, .ref qK, .ref qC, .ref qE, .ref qI, .ref qF, .ref qH, .ref qO, .int (iI (fi))])), (qH, .inl (cyO, 4, .inr (.inr (.inr (.inr (xQ (hq))))))), (qS, .inr (3, [.ref qSi, .int (iI (sl)), .int (iI (sf)), .int (iI (sz_))])), (qSi, .inl (cyI, 60, .inl (xA (uz z9 i (nar sf (kl (y + i))))))), (qK, .inr (2, [.ref qKk, .ref qKl])), (qKk, .inl (cyI, 60, .inl (xA (kk)))), (qKl, .inl (cyI, 60, .inl (xA (kl))))] H := hP
          have hD : va_D A [(qW, .inr (6, [.ref qT, .ref qA, .ref qK, .ref qC, .ref qE, .ref qI, .ref qF, .ref qH, .ref qO, .int (iI (fi))])), (qH, .inl (cyO, 4, .inr (.inr (.inr (.inr (xQ (hq))))))), (qS, .inr (3, [.ref qSi, .int (iI (sl)), .int (iI (sf)), .int (iI (sz_))])), (qSi, .inl (cyI, 60, .inl (xA (uz z9 i (nar sf (kl (y + i))))))), (qK, .inr (2, [.ref qKk, .ref qKl])), (qKk, .inl (cyI, 60, .inl (xA (kk)))), (qKl, .inl (cyI, 60, .inl (xA (kl))))] := hD
          have hw_10 : True := hw
          refine xi_inc (k := 5) (lv' := [(5, .int (iI (i + 1))), (6, .int (iI (1))), (0, .ref qW), (1, .int (iI (y))), (3, .ref qS), (4, .int (iI (zmin sz_ (60 - y))))]) hx hb dX6_write_109 hl rfl (by decide) rfl (fun ls hl => ?_)
          refine lv_goto (tgt := 53) hx hb dX6_write_112 (by decide) ?_
          exact ih_53 (i + 1) (uz z9 i (nar sf (kl (y + i)))) (by first | assumption | omega | (constructor <;> omega)) (by first | assumption | omega | (constructor <;> omega)) (by first | (rw [rgU_0]; done) | (rw [hz9]; refine rgU_s (by omega) (by omega) ?_; unfold wrF; first | rw [if_pos (by omega)] | rw [if_neg (by omega)])) (by omega) _ _ hP hD hS ls (lv_sub hl [2, 3, 4, 5, 0] rfl)
  refine lv_iload_n hx hb dX6_write_0 rfl (lv_at hl 1 rfl) ?_
  have hPc := hP.sub (ws' := []) [] rfl
  refine xc_i (va_runS (As := [.int (iI (y))]) (rest := []) ⟨hx, hb, hml, hown, hts⟩ (c_X6_isYear l D cyI cyJ cyO y (by first | exact h_y | assumption | omega)) (va_cwS 1 hts gX6_write_X6_isYear rfl rfl rfl (by decide +kernel) ⟨Nat.le_of_ble_eq_true rfl, Nat.le_of_ble_eq_true rfl⟩) (xpS hPc hK) rfl rfl hl.1 rfl (lv_room (Nat.le_of_ble_eq_true rfl)) dX6_write_1 ⟨Nat.le_of_ble_eq_true rfl, Nat.le_of_ble_eq_true rfl⟩) ?_
  refine xb_if_eqB (tgt := 14) hx hb dX6_write_4 (by decide) (fun h_11 => by exfalso; omega) (fun h_11 => ?_)
  refine lv_iload_n hx hb dX6_write_7 rfl (lv_at hl 2 rfl) ?_
  have hPc := hP.sub (ws' := []) [] rfl
  refine xc_i (va_runS (As := [.int (iI (s9))]) (rest := []) ⟨hx, hb, hml, hown, hts⟩ (c_X6_isSheet l D cyI cyJ cyO s9 (by first | exact h_y | assumption | omega)) (va_cwS 1 hts gX6_write_X6_isSheet rfl rfl rfl (by decide +kernel) ⟨Nat.le_of_ble_eq_true rfl, Nat.le_of_ble_eq_true rfl⟩) (xpS hPc hK) rfl rfl hl.1 rfl (lv_room (Nat.le_of_ble_eq_true rfl)) dX6_write_8 ⟨Nat.le_of_ble_eq_true rfl, Nat.le_of_ble_eq_true rfl⟩) ?_
  refine xb_if_neB (tgt := 17) hx hb dX6_write_11 (by decide) (fun h_12 => ?_) (fun h_12 => by exfalso; omega)
  refine lv_aload_n hx hb dX6_write_17 rfl (lv_at hl 0 rfl) ?_
  refine va_get (D := D) (ci := 6) (C := RX6) (T := TX6) (N := 10) hx hb hts hcX6 hown hK hP 0 rfl rfl 7 (by decide) (hts (.fieldLink RX6 67 "WallMarks" "sheets" "[LWallMarks$Sheet;") (List.mem_of_getElem? (i := 1) (by decide +kernel))) (fun _ h9 => h9) rfl dX6_write_18 ?_
  refine lv_iload_n hx hb dX6_write_21 rfl (lv_at hl 2 rfl) ?_
  refine xq_ald (D := D) (qv := qS) hx hb hK hP 1 2 rfl rfl (by decide) (by omega) (by exact h_hq) dX6_write_22 ?_
  refine lv_astore_n (lv' := [(3, .ref qS), (0, .ref qW), (1, .int (iI (y))), (2, .int (iI (s9)))]) hx hb dX6_write_23 rfl hl (by decide) rfl (fun ls hl => ?_)
  refine lv_aload_n hx hb dX6_write_24 rfl (lv_at hl 0 rfl) ?_
  refine va_get (D := D) (ci := 3) (C := RX3) (T := TX3) (N := 4) hx hb hts hcX3 hown hK hP 2 rfl rfl 1 (by decide) (hts (.fieldLink RX6 108 "WallMarks$Sheet" "lost" "Z") (List.mem_of_getElem? (i := 2) (by decide +kernel))) (fun _ h9 => h9) rfl dX6_write_25 ?_
  refine xb_if_eq (tgt := 37) hx hb dX6_write_28 (by decide) (by omega) (fun h_13 => ?_) (fun h_13 => by exfalso; omega)
  refine lv_aload_n hx hb dX6_write_37 rfl (lv_at hl 0 rfl) ?_
  refine va_get (D := D) (ci := 3) (C := RX3) (T := TX3) (N := 4) hx hb hts hcX3 hown hK hP 2 rfl rfl 3 (by decide) (hts (.fieldLink RX6 116 "WallMarks$Sheet" "size" "I") (List.mem_of_getElem? (i := 3) (by decide +kernel))) (fun _ h9 => h9) rfl dX6_write_38 ?_
  refine xi_bipush hx hb dX6_write_41 (by decide +kernel) ?_
  refine lv_iload_n hx hb dX6_write_43 rfl (lv_at hl 2 rfl) ?_
  refine xi_sub hx hb dX6_write_44 ?_
  refine xm_min hx hb (hml.trans hl.1.symm) hown (hts (.methodLink RX6 303 Lib.Math.min.name) (List.mem_of_getElem? (i := 4) (by decide +kernel))) (hts (.static Lib.Math.min.name) (List.mem_of_getElem? (i := 5) (by decide +kernel))) (hts (.initialized "java/lang/Math") (List.mem_of_getElem? (i := 6) (by decide +kernel))) (hts (.code Lib.Math.min.name Lib.Math.min.code 2 (some .int)) (List.mem_of_getElem? (i := 7) (by decide +kernel))) (Nat.le_of_ble_eq_true rfl) (Nat.le_of_ble_eq_true rfl) (Nat.le_of_ble_eq_true rfl) (Nat.le_of_ble_eq_true rfl) dX6_write_45 (by omega) ?_
  have hzm := zmin_e sz_ (60 - y)
  have hzr : 0 ≤ zmin sz_ (60 - y) ∧ zmin sz_ (60 - y) ≤ sz_ ∧ zmin sz_ (60 - y) ≤ 60 - y := by unfold zmin; split <;> omega
  refine lv_istore (lv' := [(4, .int (iI (zmin (sz_) (60 - y)))), (3, .ref qS), (0, .ref qW), (1, .int (iI (y))), (2, .int (iI (s9)))]) hx hb dX6_write_48 hl (by decide) rfl (fun ls hl => ?_)
  refine xi_const hx hb dX6_write_50 ?_
  refine lv_istore (lv' := [(5, .int (iI (0))), (4, .int (iI (zmin (sz_) (60 - y)))), (3, .ref qS), (0, .ref qW), (1, .int (iI (y))), (2, .int (iI (s9)))]) hx hb dX6_write_51 hl (by decide) rfl (fun ls hl => ?_)
  exact cut_53 ((zmin sz_ (60 - y) - 0 : Int).toNat + 1) (0) (it) (by first | assumption | omega | (constructor <;> omega)) (by first | assumption | omega | (constructor <;> omega)) (by first | (rw [rgU_0]; done) | (rw [hz9]; refine rgU_s (by omega) (by omega) ?_; unfold wrF; first | rw [if_pos (by omega)] | rw [if_neg (by omega)])) (by exact Nat.lt_succ_self _) _ _ hP hD hS ls (lv_sub hl [3, 4, 2, 1, 0] rfl)
